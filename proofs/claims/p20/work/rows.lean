section
-- ===== PART A: goes FIRST, ahead of the names: the tables' words, and 'selects' of the private methods out of them =====
/-- a private method of a class that the tables say can be made, by its rows of tables_1 -/
def lw_okq (q : MethodName × Nat) : Prop := (q.1.cls ≠ "java/lang/invoke/MethodHandle" ∧ q.1.cls ≠ "java/lang/invoke/VarHandle") ∧ Cond.instantiable q.1.cls q.2 ∈ tables_1 ∧ Cond.privateMethod q.1 ∈ tables_1 ∧ Cond.instanceMethod q.1 ∈ tables_1
theorem lw_p0 : lw_okq (⟨"RankMesh", "clearNode", "(I)V"⟩, 20) := ⟨⟨by decide +kernel, by decide +kernel⟩, List.mem_of_getElem? (i := 10) (by decide +kernel), List.mem_of_getElem? (i := 20) (by decide +kernel), List.mem_of_getElem? (i := 21) (by decide +kernel)⟩
theorem lw_p1 : lw_okq (⟨"RankMesh", "resetTimer", "(I)V"⟩, 20) := ⟨⟨by decide +kernel, by decide +kernel⟩, List.mem_of_getElem? (i := 10) (by decide +kernel), List.mem_of_getElem? (i := 24) (by decide +kernel), List.mem_of_getElem? (i := 25) (by decide +kernel)⟩
theorem lw_p2 : lw_okq (⟨"RankMesh", "forget", "(II)V"⟩, 20) := ⟨⟨by decide +kernel, by decide +kernel⟩, List.mem_of_getElem? (i := 10) (by decide +kernel), List.mem_of_getElem? (i := 28) (by decide +kernel), List.mem_of_getElem? (i := 29) (by decide +kernel)⟩
theorem lw_p3 : lw_okq (⟨"java/lang/Throwable", "fillInStackTrace", "(I)Ljava/lang/Throwable;"⟩, 6) := ⟨⟨by decide +kernel, by decide +kernel⟩, List.mem_of_getElem? (i := 153) (by decide +kernel), List.mem_of_getElem? (i := 151) (by decide +kernel), List.mem_of_getElem? (i := 152) (by decide +kernel)⟩
theorem lw_p4 : lw_okq (⟨"RankMesh", "requireRoot", "(I)V"⟩, 20) := ⟨⟨by decide +kernel, by decide +kernel⟩, List.mem_of_getElem? (i := 10) (by decide +kernel), List.mem_of_getElem? (i := 187) (by decide +kernel), List.mem_of_getElem? (i := 188) (by decide +kernel)⟩
theorem lw_p5 : lw_okq (⟨"RankMesh", "choose", "(I)V"⟩, 20) := ⟨⟨by decide +kernel, by decide +kernel⟩, List.mem_of_getElem? (i := 10) (by decide +kernel), List.mem_of_getElem? (i := 229) (by decide +kernel), List.mem_of_getElem? (i := 230) (by decide +kernel)⟩
theorem lw_p6 : lw_okq (⟨"RankMesh", "bestCandidate", "(I)I"⟩, 20) := ⟨⟨by decide +kernel, by decide +kernel⟩, List.mem_of_getElem? (i := 10) (by decide +kernel), List.mem_of_getElem? (i := 233) (by decide +kernel), List.mem_of_getElem? (i := 234) (by decide +kernel)⟩
theorem lw_p7 : lw_okq (⟨"RankMesh", "rankBy", "(II)I"⟩, 20) := ⟨⟨by decide +kernel, by decide +kernel⟩, List.mem_of_getElem? (i := 10) (by decide +kernel), List.mem_of_getElem? (i := 237) (by decide +kernel), List.mem_of_getElem? (i := 238) (by decide +kernel)⟩
theorem lw_p8 : lw_okq (⟨"RankMesh", "isCandidate", "(II)Z"⟩, 20) := ⟨⟨by decide +kernel, by decide +kernel⟩, List.mem_of_getElem? (i := 10) (by decide +kernel), List.mem_of_getElem? (i := 241) (by decide +kernel), List.mem_of_getElem? (i := 242) (by decide +kernel)⟩
theorem lw_p9 : lw_okq (⟨"RankMesh", "isOutdated", "(II)Z"⟩, 20) := ⟨⟨by decide +kernel, by decide +kernel⟩, List.mem_of_getElem? (i := 10) (by decide +kernel), List.mem_of_getElem? (i := 245) (by decide +kernel), List.mem_of_getElem? (i := 246) (by decide +kernel)⟩
theorem lw_p10 : lw_okq (⟨"RankMesh", "isTooDeep", "(II)Z"⟩, 20) := ⟨⟨by decide +kernel, by decide +kernel⟩, List.mem_of_getElem? (i := 10) (by decide +kernel), List.mem_of_getElem? (i := 249) (by decide +kernel), List.mem_of_getElem? (i := 250) (by decide +kernel)⟩
theorem lw_p11 : lw_okq (⟨"RankMesh", "heardOwnVersion", "(II)Z"⟩, 20) := ⟨⟨by decide +kernel, by decide +kernel⟩, List.mem_of_getElem? (i := 10) (by decide +kernel), List.mem_of_getElem? (i := 253) (by decide +kernel), List.mem_of_getElem? (i := 254) (by decide +kernel)⟩
theorem lw_p12 : lw_okq (⟨"RankMesh", "loseParent", "(I)V"⟩, 20) := ⟨⟨by decide +kernel, by decide +kernel⟩, List.mem_of_getElem? (i := 10) (by decide +kernel), List.mem_of_getElem? (i := 257) (by decide +kernel), List.mem_of_getElem? (i := 258) (by decide +kernel)⟩
theorem lw_p13 : lw_okq (⟨"RankMesh", "keepsParent", "(II)Z"⟩, 20) := ⟨⟨by decide +kernel, by decide +kernel⟩, List.mem_of_getElem? (i := 10) (by decide +kernel), List.mem_of_getElem? (i := 261) (by decide +kernel), List.mem_of_getElem? (i := 262) (by decide +kernel)⟩
theorem lw_p14 : lw_okq (⟨"RankMesh", "follow", "(II)V"⟩, 20) := ⟨⟨by decide +kernel, by decide +kernel⟩, List.mem_of_getElem? (i := 10) (by decide +kernel), List.mem_of_getElem? (i := 265) (by decide +kernel), List.mem_of_getElem? (i := 266) (by decide +kernel)⟩
theorem lw_p15 : lw_okq (⟨"RankMesh", "beginVersion", "(I)I"⟩, 20) := ⟨⟨by decide +kernel, by decide +kernel⟩, List.mem_of_getElem? (i := 10) (by decide +kernel), List.mem_of_getElem? (i := 282) (by decide +kernel), List.mem_of_getElem? (i := 283) (by decide +kernel)⟩
def lw_privs_1 : List (MethodName × Nat) := [(⟨"RankMesh", "clearNode", "(I)V"⟩, 20), (⟨"RankMesh", "resetTimer", "(I)V"⟩, 20), (⟨"RankMesh", "forget", "(II)V"⟩, 20), (⟨"java/lang/Throwable", "fillInStackTrace", "(I)Ljava/lang/Throwable;"⟩, 6), (⟨"RankMesh", "requireRoot", "(I)V"⟩, 20), (⟨"RankMesh", "choose", "(I)V"⟩, 20), (⟨"RankMesh", "bestCandidate", "(I)I"⟩, 20), (⟨"RankMesh", "rankBy", "(II)I"⟩, 20), (⟨"RankMesh", "isCandidate", "(II)Z"⟩, 20), (⟨"RankMesh", "isOutdated", "(II)Z"⟩, 20), (⟨"RankMesh", "isTooDeep", "(II)Z"⟩, 20), (⟨"RankMesh", "heardOwnVersion", "(II)Z"⟩, 20), (⟨"RankMesh", "loseParent", "(I)V"⟩, 20), (⟨"RankMesh", "keepsParent", "(II)Z"⟩, 20), (⟨"RankMesh", "follow", "(II)V"⟩, 20), (⟨"RankMesh", "beginVersion", "(I)I"⟩, 20)]
theorem lw_r1 : ∀ q ∈ lw_privs_1, lw_okq q := List.forall_mem_cons.mpr ⟨lw_p0, List.forall_mem_cons.mpr ⟨lw_p1, List.forall_mem_cons.mpr ⟨lw_p2, List.forall_mem_cons.mpr ⟨lw_p3, List.forall_mem_cons.mpr ⟨lw_p4, List.forall_mem_cons.mpr ⟨lw_p5, List.forall_mem_cons.mpr ⟨lw_p6, List.forall_mem_cons.mpr ⟨lw_p7, List.forall_mem_cons.mpr ⟨lw_p8, List.forall_mem_cons.mpr ⟨lw_p9, List.forall_mem_cons.mpr ⟨lw_p10, List.forall_mem_cons.mpr ⟨lw_p11, List.forall_mem_cons.mpr ⟨lw_p12, List.forall_mem_cons.mpr ⟨lw_p13, List.forall_mem_cons.mpr ⟨lw_p14, List.forall_mem_cons.mpr ⟨lw_p15, fun _ h => absurd h List.not_mem_nil⟩⟩⟩⟩⟩⟩⟩⟩⟩⟩⟩⟩⟩⟩⟩⟩
theorem lw_p16 : lw_okq (⟨"RankMesh", "passTick", "()I"⟩, 20) := ⟨⟨by decide +kernel, by decide +kernel⟩, List.mem_of_getElem? (i := 10) (by decide +kernel), List.mem_of_getElem? (i := 294) (by decide +kernel), List.mem_of_getElem? (i := 295) (by decide +kernel)⟩
theorem lw_p17 : lw_okq (⟨"RankMesh", "tell", "(I)V"⟩, 20) := ⟨⟨by decide +kernel, by decide +kernel⟩, List.mem_of_getElem? (i := 10) (by decide +kernel), List.mem_of_getElem? (i := 298) (by decide +kernel), List.mem_of_getElem? (i := 299) (by decide +kernel)⟩
theorem lw_p18 : lw_okq (⟨"RankMesh", "lengthenTimer", "(I)V"⟩, 20) := ⟨⟨by decide +kernel, by decide +kernel⟩, List.mem_of_getElem? (i := 10) (by decide +kernel), List.mem_of_getElem? (i := 302) (by decide +kernel), List.mem_of_getElem? (i := 303) (by decide +kernel)⟩
theorem lw_p19 : lw_okq (⟨"RankMesh", "lowerWayCosts", "()V"⟩, 20) := ⟨⟨by decide +kernel, by decide +kernel⟩, List.mem_of_getElem? (i := 10) (by decide +kernel), List.mem_of_getElem? (i := 322) (by decide +kernel), List.mem_of_getElem? (i := 323) (by decide +kernel)⟩
theorem lw_p20 : lw_okq (⟨"RankMesh", "childrenOf", "(I)I"⟩, 20) := ⟨⟨by decide +kernel, by decide +kernel⟩, List.mem_of_getElem? (i := 10) (by decide +kernel), List.mem_of_getElem? (i := 364) (by decide +kernel), List.mem_of_getElem? (i := 365) (by decide +kernel)⟩
def lw_privs_2 : List (MethodName × Nat) := [(⟨"RankMesh", "passTick", "()I"⟩, 20), (⟨"RankMesh", "tell", "(I)V"⟩, 20), (⟨"RankMesh", "lengthenTimer", "(I)V"⟩, 20), (⟨"RankMesh", "lowerWayCosts", "()V"⟩, 20), (⟨"RankMesh", "childrenOf", "(I)I"⟩, 20)]
theorem lw_r2 : ∀ q ∈ lw_privs_2, lw_okq q := List.forall_mem_cons.mpr ⟨lw_p16, List.forall_mem_cons.mpr ⟨lw_p17, List.forall_mem_cons.mpr ⟨lw_p18, List.forall_mem_cons.mpr ⟨lw_p19, List.forall_mem_cons.mpr ⟨lw_p20, fun _ h => absurd h List.not_mem_nil⟩⟩⟩⟩⟩
def lw_privs : List (MethodName × Nat) := lw_privs_1 ++ (lw_privs_2)
def lw_tbl : List Cond := k2_sels lw_privs ++ tables_1
theorem lw_privs_ok : ∀ q ∈ lw_privs, lw_okq q := by
  show ∀ q ∈ lw_privs_1 ++ (lw_privs_2), lw_okq q
  exact List.forall_mem_append.mpr ⟨lw_r1, lw_r2⟩
end
section
/-- the tables hold an array class over arrays of this type -/
def va_AOA (t : FieldType) (U : State) : Prop := (Cond.arrayOver (.array t)).before #[] U = true
theorem va_AOA.of {t : FieldType} {A : Array Value} {U : State} (h : (Cond.arrayOver (.array t)).before A U = true) : va_AOA t U := h
theorem va_AOA.use {t : FieldType} {A : Array Value} {U : State} (h : va_AOA t U) : (Cond.arrayOver (.array t)).before A U = true := h
end
section
/-! ===== BEGIN words of one list among another's, by their places ===== -/
theorem goodIn_r {big : List Cond} (ws : List Cond) (ps : List Nat) (hp : ws = ps.filterMap (fun i => big[i]?)) (h : ws.all goodWord = true) : GoodIn big ws := by
  intro w hw
  have h1 := List.all_eq_true.mp h w hw
  rw [hp] at hw
  obtain ⟨i, -, hi⟩ := List.mem_filterMap.mp hw
  have hm : w ∈ big := by first | exact List.mem_of_getElem? hi | exact List.getElem?_mem hi
  exact ⟨hm, good_of_word h1⟩
theorem goodIn_app {big a b : List Cond} (ha : GoodIn big a) (hb : GoodIn big b) : GoodIn big (a ++ b) := fun w h => (List.mem_append.mp h).elim (ha w) (hb w)
theorem goodIn_ca {big a b : List Cond} {c : Cond} (ha : GoodIn big (c :: a)) (hb : GoodIn big b) : GoodIn big (c :: (a ++ b)) := fun w h => (List.mem_cons.mp h).elim (fun e => ha w (List.mem_cons.mpr (Or.inl e))) (fun h => (List.mem_append.mp h).elim (fun h => ha w (List.mem_cons.mpr (Or.inr h))) (hb w))
theorem goodIn_sub {big ws : List Cond} (hm : ∀ w ∈ ws, w ∈ big) (h : ws.all goodWord = true) : GoodIn big ws := fun w hw => ⟨hm w hw, good_of_word (List.all_eq_true.mp h w hw)⟩
/-! ===== END ===== -/

/-! ===== BEGIN new T[n][m]: the outer array a place, the inner ones among the pooled ===== -/
/-- f, but v at every address of l -/
def vr_up {α : Type} (f : Nat → α) (l : List Nat) (v : α) : Nat → α := fun a => if a ∈ l then v else f a
theorem vr_up_in {α : Type} {f : Nat → α} {l : List Nat} {v : α} {a : Nat} (h : a ∈ l) : vr_up f l v a = v := if_pos h
theorem vr_up_ne {α : Type} {f : Nat → α} {l : List Nat} {v : α} {a : Nat} (h : a ∉ l) : vr_up f l v a = f a := if_neg h
theorem vr_rows {L l : List Nat} {f : Nat → va_E} {e : va_E} (h : ∀ a, a ∈ l → a ∉ L) : va_pl L f ++ l.map (fun a => (a, e)) = va_pl (L ++ l) (vr_up f l e) := by
  unfold va_pl
  rw [List.map_append]
  congr 1
  · apply List.map_congr_left
    intro a ha
    rw [vr_up_ne (fun q => h a q ha)]
  · apply List.map_congr_left
    intro a ha
    rw [vr_up_in ha]
theorem vr_lay {X rows : va_W} {x : Nat × va_E} {pl : va_W} {D : va_G} {cl : List vw_C} {H : Heap} (hP : va_P D cl (((X ++ pl) ++ [x]) ++ rows) H) : va_P D cl ((X ++ [x]) ++ (pl ++ rows)) H := by
  rw [List.append_assoc (X ++ pl)] at hP
  have h := va_P.swap hP
  rw [← List.append_assoc X] at h
  have h2 := va_P.swap h
  rw [List.append_assoc (X ++ [x])] at h2
  exact h2
theorem vr_layD {X rows : va_W} {x : Nat × va_E} {pl : va_W} {A : Nat → Prop} (hD : va_D A (((X ++ pl) ++ [x]) ++ rows)) : va_D A ((X ++ [x]) ++ (pl ++ rows)) := by
  rw [List.append_assoc (X ++ pl)] at hD
  have h := va_D.swap hD
  rw [← List.append_assoc X] at h
  have h2 := va_D.swap h
  rw [List.append_assoc (X ++ [x])] at h2
  exact h2
theorem vr_outer (c : ClassId) (N h0 : Nat) : ∀ i : Nat, Jvm.Free.Multi.outerC c N h0 i = arrV c N (fun j => va_rf (if j < i then some (h0 + 1 + j) else none))
  | 0 => by
    show ({ cls := c, slots := Array.replicate N .null, vm := .none } : Cell) = _
    rw [arrV_new]
    refine congrArg (arrV c N) (funext fun j => ?_)
    simp [va_rf]
  | i + 1 => by
    show (Jvm.Free.Multi.outerC c N h0 i).setSlot i (.ref (h0 + 1 + i)) = _
    rw [vr_outer c N h0 i, arrV_store]
    refine congrArg (arrV c N) (funext fun j => ?_)
    by_cases e : j = i
    · subst e
      simp [updV, va_rf]
    · by_cases h : j < i
      · simp [updV, e, h, Nat.lt_succ_of_lt h]
      · simp [updV, e, h, show ¬ j < i + 1 by omega]
section VGM
variable {p : Program} {l : Launch} {e : Env} {R : Room} {s : State} {m : MethodId} {args : Array Value} {below : List Frame} {meth : Method} {c : Code} {H : Heap} {locs : List Loc} {cells slots : Nat} {Q : State → Prop}
variable {cc : ByteArray} {pc : Nat} {ls : Array Slot} {rest : List Value} {D : va_G} {cl : List vw_C} {A : Nat → Prop} {a : Nat} {tys : List (ClassId × FieldType)} {ws : va_W} {H0 : Heap}
theorem va_mna {X : va_W} {L : List Nat} {f : Nat → va_E} {cc : ByteArray} (hexec : p.tables.exec = Jvm.exec) (hb : c.code = cc) {own : String} {index : Nat} {ty : FieldType} {cy : ClassId} (hown : s.vm.findClass own = some m.cls) (hclink : (Cond.classLink own index ("[" ++ (FieldType.array ty).toString)).before args s = true) (hover : va_AOA ty s) (harr : (Cond.arrayClass ty).before args s = true) (hcy : s.vm.findClass (FieldType.array ty).toString = some cy)
    (hK : va_K D cl tys s) (hP : va_P D cl (X ++ va_pl L f) H) (hD : va_D A (X ++ va_pl L f)) (hS : va_S A H0 H locs) (hA : ∀ q, H0.size ≤ q → A q) {n k : Int32} {N' K' : Nat} {z : vp_A} (hn : ¬ n < 0) (hk : ¬ k < 0) (hN : n.toNatClampNeg = N') (hM : k.toNatClampNeg = K')
    (hb1 : N' * 4 ≤ 536870912) (hb2 : K' * componentBytes ty ≤ 536870912) (hb3 : K' ≤ 536870912) (hdf : fits ty (defaultValue ty) = true) (hdd : (defaultValue ty).isDefault = true) (hcells : cells + (1 + N') ≤ R.cells) (hslots : slots + (N' + N' * K') ≤ R.slots) (hz : ∀ c : ClassId, Jvm.Free.Multi.innerC c K' (defaultValue ty) = vp_cell c z) (hdg : decode cc pc = .ok (.multianewarray index 2, 4))
    (kk : ∀ (q : Nat) (r : Nat → Nat) (cA : ClassId) (H1 : Heap), (∀ i j : Nat, i < N' → j < N' → r i = r j → i = j) → (∀ i : Nat, i < N' → r i ∉ L) → va_K D cl (tys ++ [(cA, .array ty)]) s →
      va_P D cl ((X ++ [(q, .inl (cA, N', .inr (.inr (.inr (.inr (fun i => if i < N' then some (r i) else none))))))]) ++ va_pl (L ++ (List.range N').map r) (vr_up f ((List.range N').map r) (.inl (cy, z)))) H1 → va_D A ((X ++ [(q, .inl (cA, N', .inr (.inr (.inr (.inr (fun i => if i < N' then some (r i) else none))))))]) ++ va_pl (L ++ (List.range N').map r) (vr_up f ((List.range N').map r) (.inl (cy, z)))) → va_S A H0 H1 locs →
      W p l e R s m args below meth c H1 locs (cells + 1 + N') (slots + N' + N' * K') Q (F0 m (pc + 4) ls (.ref q :: rest))) : W p l e R s m args below meth c H locs cells slots Q (F0 m pc ls (.int k :: .int n :: rest)) := by
  subst hN
  subst hM
  intro T hT Xs
  obtain ⟨vm₁, cA, comp, -, fA, fC, hO, -, X', step⟩ := Xs.multianewarray2F hexec hown hclink (va_AOA.use hover) harr (g := F0 m pc ls (.int k :: .int n :: rest)) rfl (by rw [hb]; exact hdg) rfl hn hk hb1 hb2 hb3 hdf hdd hcells hslots
  have ec : some cy = some comp := hcy.symm.trans fC
  cases ec
  generalize hF : Jvm.Free.Multi.fill (T.setVm vm₁) cA cy n.toNatClampNeg k.toNatClampNeg (defaultValue ty) n.toNatClampNeg = F at X' step
  have hTh : (T.setVm vm₁).heap = H := hT
  obtain ⟨f1, f2, -, -⟩ := Jvm.Free.Multi.fill_facts (T.setVm vm₁) cA cy n.toNatClampNeg k.toNatClampNeg (defaultValue ty) n.toNatClampNeg
  rw [hF, hTh] at f1 f2
  have hold : ∀ x : Nat, x < H.size → F.heap[x]? = H[x]? := fun x hx => by
    have := Jvm.Free.Multi.fill_old (T.setVm vm₁) cA cy n.toNatClampNeg k.toNatClampNeg (defaultValue ty) (a := x) (by rw [hTh]; exact hx) n.toNatClampNeg
    rw [hF, hTh] at this
    exact this
  have hrow : ∀ j : Nat, j < n.toNatClampNeg → F.heap[H.size + 1 + j]? = some (vp_cell cy z) := fun j hj => by
    have := Jvm.Free.Multi.fill_inner (T.setVm vm₁) cA cy n.toNatClampNeg k.toNatClampNeg (defaultValue ty) n.toNatClampNeg j hj
    rw [hF, hTh, hz] at this
    exact this
  have hout : Jvm.Free.Multi.outerC cA n.toNatClampNeg H.size n.toNatClampNeg = vp_cell cA (n.toNatClampNeg, .inr (.inr (.inr (.inr (fun i => if i < n.toNatClampNeg then some (H.size + 1 + i) else none))))) := by
    rw [vp_cell_q]
    exact vr_outer cA n.toNatClampNeg H.size n.toNatClampNeg
  rw [hout] at f2
  have hlt : ∀ a, a ∈ L → a < H.size := fun a ha => by
    obtain ⟨k9, hk9⟩ := va_pl_get (X := X) (f := f) ha
    exact (hP k9 _ hk9).lt
  have hnl : ∀ i : Nat, i < n.toNatClampNeg → H.size + 1 + i ∉ L := fun i _ h => by
    have := hlt _ h
    omega
  have hnm : ∀ a, a ∈ (List.range n.toNatClampNeg).map (fun i => H.size + 1 + i) → a ∉ L := fun a ha h => by
    obtain ⟨i, -, rfl⟩ := List.mem_map.mp ha
    have := hlt _ h
    omega
  have hP0 : va_P D cl (X ++ va_pl L f) F.heap := hP.kept (fun k9 x hx => hold x.1 ((hP k9 x hx).lt))
  have hP1 : va_P D cl ((X ++ va_pl L f) ++ [(H.size, .inl (cA, n.toNatClampNeg, .inr (.inr (.inr (.inr (fun i => if i < n.toNatClampNeg then some (H.size + 1 + i) else none))))))]) F.heap := hP0.app (fun k9 x hx => by
    have h0 : k9 < 1 := (List.getElem?_eq_some_iff.mp hx).1
    rw [show k9 = 0 by omega] at hx
    cases hx
    exact f2)
  have hP2 : va_P D cl (((X ++ va_pl L f) ++ [(H.size, .inl (cA, n.toNatClampNeg, .inr (.inr (.inr (.inr (fun i => if i < n.toNatClampNeg then some (H.size + 1 + i) else none))))))]) ++ ((List.range n.toNatClampNeg).map (fun i => H.size + 1 + i)).map (fun a => (a, .inl (cy, z)))) F.heap := hP1.app (fun k9 x hx => by
    obtain ⟨a, ha, rfl⟩ := List.mem_map.mp (List.mem_of_getElem? hx)
    obtain ⟨i, hi, rfl⟩ := List.mem_map.mp ha
    exact hrow i (List.mem_range.mp hi))
  have hD2 : va_D A (((X ++ va_pl L f) ++ [(H.size, .inl (cA, n.toNatClampNeg, .inr (.inr (.inr (.inr (fun i => if i < n.toNatClampNeg then some (H.size + 1 + i) else none))))))]) ++ ((List.range n.toNatClampNeg).map (fun i => H.size + 1 + i)).map (fun a => (a, .inl (cy, z)))) := by
    have hD1 := hD.push (e := .inl (cA, n.toNatClampNeg, .inr (.inr (.inr (.inr (fun i => if i < n.toNatClampNeg then some (H.size + 1 + i) else none)))))) hP rfl (hA _ hS.1)
    generalize hW1 : (X ++ va_pl L f) ++ [(H.size, .inl (cA, n.toNatClampNeg, .inr (.inr (.inr (.inr (fun i => if i < n.toNatClampNeg then some (H.size + 1 + i) else none))))))] = W1 at hD1 hP1 ⊢
    have hle : ∀ (k9 : Nat) (x : Nat × va_E), W1[k9]? = some x → x.1 ≤ H.size := fun k9 x hx => by
      rw [← hW1] at hx
      by_cases hl : k9 < (X ++ va_pl L f).length
      · rw [List.getElem?_append_left hl] at hx
        exact Nat.le_of_lt ((hP k9 x hx).lt)
      · rw [List.getElem?_append_right (by omega)] at hx
        have h0 : k9 - (X ++ va_pl L f).length < 1 := (List.getElem?_eq_some_iff.mp hx).1
        rw [show k9 - (X ++ va_pl L f).length = 0 by omega] at hx
        cases hx
        exact Nat.le_refl _
    have hr : ∀ (k9 : Nat) (x : Nat × va_E), (((List.range n.toNatClampNeg).map (fun i => H.size + 1 + i)).map (fun a => ((a, .inl (cy, z)) : Nat × va_E)))[k9]? = some x → x.1 = H.size + 1 + k9 := fun k9 x hx => by
      rw [List.getElem?_map, List.getElem?_map] at hx
      by_cases h9 : k9 < n.toNatClampNeg
      · rw [List.getElem?_range h9] at hx
        cases hx
        rfl
      · have hn0 : (List.range n.toNatClampNeg)[k9]? = none := List.getElem?_eq_none (by rw [List.length_range]; omega)
        rw [hn0] at hx
        cases hx
    refine ⟨fun i j x y hi hj hxy => ?_, fun k9 x hx => ?_⟩
    · by_cases h1 : i < W1.length <;> by_cases h2 : j < W1.length
      · rw [List.getElem?_append_left h1] at hi
        rw [List.getElem?_append_left h2] at hj
        exact hD1.1 i j x y hi hj hxy
      · rw [List.getElem?_append_left h1] at hi
        rw [List.getElem?_append_right (by omega)] at hj
        have := hle _ _ hi
        have := hr _ _ hj
        omega
      · rw [List.getElem?_append_right (by omega)] at hi
        rw [List.getElem?_append_left h2] at hj
        have := hle _ _ hj
        have := hr _ _ hi
        omega
      · rw [List.getElem?_append_right (by omega)] at hi hj
        have := hr _ _ hi
        have := hr _ _ hj
        omega
    · by_cases h1 : k9 < W1.length
      · rw [List.getElem?_append_left h1] at hx
        exact hD1.2 k9 x hx
      · rw [List.getElem?_append_right (by omega)] at hx
        have := hr _ _ hx
        exact hA _ (by have := hS.1; omega)
  have hAr : ArrOfT s cA (.array ty) := fun N9 z9 => by
    obtain ⟨-, k9, hk9, cm9, hkk9⟩ := (hO 0 0 0).1
    exact ⟨(fun q hq => by cases hq), k9, hk9, cm9, hkk9⟩
  have hK2 : va_K D cl (tys ++ [(cA, .array ty)]) s := ⟨hK.1, fun k9 x hx => by
    by_cases hl : k9 < tys.length
    · rw [List.getElem?_append_left hl] at hx
      exact hK.2 k9 x hx
    · rw [List.getElem?_append_right (by omega)] at hx
      have h0 : k9 - tys.length < 1 := (List.getElem?_eq_some_iff.mp hx).1
      rw [show k9 - tys.length = 0 by omega] at hx
      cases hx
      exact ⟨hAr, fA⟩⟩
  obtain ⟨t, a1, b1⟩ := kk H.size (fun i => H.size + 1 + i) cA F.heap (fun i j _ _ h => by have h9 : H.size + 1 + i = H.size + 1 + j := h; omega) hnl hK2 (by rw [← vr_rows hnm]; exact vr_lay hP2) (by rw [← vr_rows hnm]; exact vr_layD hD2) ⟨by rw [f1]; have := hS.1; omega, fun x h1 h2 => (hold x (Nat.lt_of_lt_of_le h1 hS.1)).trans (hS.2.1 x h1 h2), hS.2.2⟩ F rfl X'
  refine ⟨t, step t ?_, b1⟩
  have e : T.heap.size = H.size := by rw [hT]
  rw [e]
  exact a1
end VGM
/-! ===== END ===== -/

/-! ===== BEGIN exceptions that leave a method, and their catching by the caller (launches without stack traces) ===== -/
section VXA
/-! The laws vx_back, vx_callV, vx_callS, vx_callSW, vx_throw0, vx_throwS follow proofs of the library, with one case more: JvmDerived/Free/Laws.lean (Back.of_free), Shelf42/LK1.lean (callV, callS), Shelf/KitTraced.lean (throwNew0V, throwNewS). -/
/-- where a method has thrown q: the class by its name, the cell, what was written, the world -/
def vx_T (XC : String → State → State → Prop) (st : State) (q : Addr) (t : State) (mc ms : Nat) (free : Addr → Prop) : Prop :=
  ∃ (E : String) (ce : Cell) (L : List Loc), XC E st t ∧ t.heap[q]? = some ce ∧ ce.vm = .none ∧ st.vm.findClass E = some ce.cls ∧ st.WarmedH t.vm ∧ st.sameButNew ({ t with vm := st.vm } : State) L mc ms ∧ ∀ z ∈ L, free z.base
def vx_Q (Qc : Array Value → State → Outcome → State → Prop) (XC : String → State → State → Prop) (mc ms : Nat) (free : Addr → Prop) : Array Value → State → Outcome → State → Prop := fun a st o t =>
  (Qc a st o t ∧ ∃ L, FrameEnd st o t L mc ms ∧ ∀ q ∈ L, free q.base) ∨ ∃ q, o = .threw q ∧ vx_T XC st q t mc ms free
/-- a callee that returns or throws -/
def vx_Met (l : Launch) (y : MethodName) (ws : List Cond) (rm : Room) (Pc : Array Value → State → Prop) (Qc : Array Value → State → Outcome → State → Prop) (XC : String → State → State → Prop) (mc ms : Nat) (free : Addr → Prop) : Prop :=
  MetFree l y (headSpec ws rm) Pc (fun _ _ _ _ _ => True) (vx_Q Qc XC mc ms free)
def vx_Post (XC : String → State → State → Prop) (mc ms : Nat) (free : Addr → Prop) : Pt → Array Value → Addr → Pt → Prop := fun A a q B =>
  ∃ (g : JFrame) (mk : MethodId) (t : State) (L : List Loc) (E : String) (ce : Cell), B.U.heap = t.heap ∧ B.U.vm = t.vm ∧ XC E (A.U.calling g mk a) t ∧ t.heap[q]? = some ce ∧ ce.vm = .none ∧ A.U.vm.findClass E = some ce.cls ∧ B.locs = A.locs ++ L ∧ (∀ z ∈ L, free z.base) ∧ B.cells = A.cells + mc ∧ B.slots = A.slots + ms
def vx_Back (l : Launch) (R : Room) (p : Program) (e : Env) (below : List Frame) (s : State) (sargs : Array Value) (y : MethodName) (len W9 : Nat)
    (Pre : Pt → Array Value → Prop) (Post : Pt → Array Value → Option Value → Pt → Prop) (PostX : Pt → Array Value → Addr → Pt → Prop) : Prop :=
  ∀ (m : MethodId) (meth : Method) (c : Code) (A : Pt) (g : JFrame) (ig : Instr) (mk : MethodId) (a : Array Value),
    Stand p l e R s m sargs below meth c A.U A.locs A.cells A.slots → g.method = m → g.locals.size = c.maxLocals → decode c.code g.pc = .ok (ig, len) →
    2 * g.monitorRoom + (g.stack.map fun v => v.category).sum ≤ W9 → A.U.methodNamed? y = some mk → Pre A a →
    (∃ (v : Option Value) (B : Pt), Stand p l e R s m sargs below meth c B.U B.locs B.cells B.slots ∧ Post A a v B ∧
      Steps p.tables e below (doInvoke e (A.U.setTop g) [] mk a).1 (B.U.setTop { g with pc := g.pc + len, stack := v.toList ++ g.stack })) ∨
    (∃ (q : Addr) (B : Pt), Stand p l e R s m sargs below meth c B.U B.locs B.cells B.slots ∧ PostX A a q B ∧
      Steps p.tables e below (doInvoke e (A.U.setTop g) [] mk a).1 ((B.U.setTop g).pushFrame (.throwing q)))
section Payer
variable {l : Launch} {R : Room} {p : Program} {e : Env} {below : List Frame} {s : State} {sargs : Array Value} {y : MethodName} {len W9 : Nat}
theorem vx_back {ws : List Cond} {rm : Room} {Pc : Array Value → State → Prop} {Qc : Array Value → State → Outcome → State → Prop} {XC : String → State → State → Prop} {mc ms : Nat} {free : Addr → Prop} {bytes : ByteArray} {maxL : Nat} {ret : Option FieldType}
    (hM : vx_Met l y ws rm Pc Qc XC mc ms free) (hblind : FrameBlind Pc) (hrc : rm.cells = mc) (hrs : rm.slots = ms)
    (hframes : rm.frames + 1 ≤ R.frames) (hlocals : W9 + (maxL + 11) + rm.locals ≤ R.locals)
    (hws : ∀ w ∈ ws, ∀ a' U, s.WarmedH U.vm → w.before a' U = true) (hcode : Cond.code y bytes maxL ret ∈ ws) (hinit : ∀ a' U, s.WarmedH U.vm → (Cond.initialized y.cls).before a' U = true) :
    vx_Back l R p e below s sargs y len W9 (PreOf R mc ms Pc) (PostOf Qc mc ms free) (vx_Post XC mc ms free) := by
  intro m meth c A g ig mk a X hg hsize hdg hW hn hp
  have h1 : (headSpec ws rm).pre.before a A.U = true := atoms_intro fun w hw => hws w hw _ _ X.warmed
  have h2 : (Cond.code y bytes maxL ret).before a A.U = true := hws _ hcode _ _ X.warmed
  have h3 : (Cond.initialized y.cls).before a A.U = true := hinit _ _ X.warmed
  have h4 : A.cells + (headSpec ws rm).room.cells ≤ R.cells := by rw [show (headSpec ws rm).room.cells = mc from hrc]; exact hp.1
  have h5 : A.slots + (headSpec ws rm).room.slots ≤ R.slots := by rw [show (headSpec ws rm).room.slots = ms from hrs]; exact hp.2.1
  have hPc : Pc a (A.U.calling g mk a) := hblind _ _ _ _ hp.2.2
  obtain ⟨U, Ls, c0, s0⟩ := A
  dsimp only [Pt.U, Pt.locs, Pt.cells, Pt.slots] at h1 h2 h3 h4 h5 X hn hPc ⊢
  obtain ⟨methY, cY, hmY, hcY, -, hlY, -, -, -, -⟩ := Cond.code_spec hn h2
  obtain ⟨kY, hkY, -⟩ := className_of_methodNamed hn
  have hinitY : kY.init = .initialized := Cond.initialized_spec (findClass_of_methodNamed hn) hkY h3
  have h : At U g.method c below := by rw [hg]; exact X.here
  have hlocals9 : W9 + (maxL + 11) + (headSpec ws rm).room.locals ≤ R.locals := hlocals
  have happ : (headSpec ws rm).appliesLoose y e.platform (U.calling g mk a) = true :=
    Spec.appliesLoose_calling (g := g) h hdg hn hkY hinitY
      (X.room_calling (g := g) (R' := (headSpec ws rm).room) hsize hmY hcY hframes (by rw [hlY]; omega) h4 h5) h1
  obtain ⟨mid, hmid⟩ := h.above
  have hfr : (U.setTop g).frames = (.java g :: mid) ++ below := by rw [State.frames_setTop' g h.top, hmid]; rfl
  obtain ⟨o, s₂, hsteps, -, hend, hq⟩ := Steps.callFree hM p X.admits X.cas X.clock (acts := []) hfr happ hPc trivial
  have hq' : vx_Q Qc XC mc ms free a (U.calling g mk a) o s₂ := hq
  rw [State.frames_setTop' g h.top] at hend
  obtain ⟨g₀, hg0⟩ := Option.isSome_iff_exists.mp h.top
  obtain ⟨r, hr⟩ := State.topJava?_eq_some.mp hg0
  have hr' : (({ U with heap := s₂.heap, slotsUsed := s₂.slotsUsed } : State).setVm s₂.vm).frames = .java g₀ :: r := hr
  rcases hq' with ⟨hqc, L, hfe, hL⟩ | ⟨q, rfl, E, ce, L, hx, hce, hcv, hcl, hW₂, hsm, hL⟩
  · obtain ⟨⟨v, rfl⟩, hW₂, e2, q2, q3, q4, q5, q6⟩ := id hfe
    have e3 : s₂ = ({ (U.calling g mk a).setFrames s₂.frames with heap := s₂.heap, slotsUsed := s₂.slotsUsed } : State).setVm s₂.vm := by
      have : s₂ = ({ s₂ with vm := (U.calling g mk a).vm } : State).setVm s₂.vm := rfl
      rw [e2] at this
      exact this
    obtain ⟨c₂, i₂, len₂, hc₂, hd₂, hf₂⟩ := hend
    have hW' : U.WarmedH s₂.vm := hW₂
    have hcc : c₂ = c := by
      have h1 : s₂.code? g.method = U.code? g.method := by
        rw [State.code?_eq, State.code?_eq, hW'.alike.method?]
      exact Option.some.inj (hc₂.symm.trans (h1.trans h.code))
    subst hcc
    have hlen : len₂ = len := by rw [hdg] at hd₂; cases hd₂; rfl
    subst hlen
    have hs₂ : s₂ = (({ U with heap := s₂.heap, slotsUsed := s₂.slotsUsed } : State).setVm s₂.vm).setTop { g with pc := g.pc + len₂, stack := v.toList ++ g.stack } := by
      refine e3.trans ?_
      rw [hf₂, State.calling_eq h.top, State.setFrames_setFrames, State.setTop_of_frames _ hr', hr]
      rfl
    have hsame : U.sameButNew ({ U with heap := s₂.heap, slotsUsed := s₂.slotsUsed } : State) L mc ms := by
      refine ⟨?_, q2, q3, q4, q5, q6⟩
      obtain ⟨t, ht, -⟩ := State.frames_cons hr
      show ({ U with heap := s₂.heap, slotsUsed := s₂.slotsUsed } : State) = { U.setFrames U.frames with heap := s₂.heap, slotsUsed := s₂.slotsUsed }
      rw [State.setFrames_self ht]
    subst hg
    refine Or.inl ⟨v, ⟨(({ U with heap := s₂.heap, slotsUsed := s₂.slotsUsed } : State).setVm s₂.vm), Ls ++ L, c0 + mc, s0 + ms⟩,
      ⟨X.admits, X.cas, X.clock, X.frames, X.room, X.hears, X.method, X.code, (X.here.setHeapUsed s₂.heap s₂.slotsUsed).setVm hW'.alike, X.tail, State.WarmedH.trans X.warmed hW', X.limits, X.bytes, X.same.trans (hsame.setVm s.vm)⟩,
      ⟨g, mk, s₂, L, rfl, rfl, hqc, rfl, hL, rfl, rfl⟩, ?_⟩
    show Steps p.tables e below _ ((({ U with heap := s₂.heap, slotsUsed := s₂.slotsUsed } : State).setVm s₂.vm).setTop { g with pc := g.pc + len₂, stack := v.toList ++ g.stack })
    rw [← hs₂]
    exact hsteps
  · obtain ⟨e2, q2, q3, q4, q5, q6⟩ := id hsm
    have e3 : s₂ = ({ (U.calling g mk a).setFrames s₂.frames with heap := s₂.heap, slotsUsed := s₂.slotsUsed } : State).setVm s₂.vm := by
      have : s₂ = ({ s₂ with vm := (U.calling g mk a).vm } : State).setVm s₂.vm := rfl
      rw [e2] at this
      exact this
    have hf₂ : s₂.frames = .throwing q :: .java g :: U.frames.tail := hend
    have hW' : U.WarmedH s₂.vm := hW₂
    have hs₂ : s₂ = ((({ U with heap := s₂.heap, slotsUsed := s₂.slotsUsed } : State).setVm s₂.vm).setTop g).pushFrame (.throwing q) := by
      refine e3.trans ?_
      rw [hf₂, State.calling_eq h.top, State.setFrames_setFrames, State.pushFrame, State.frames_setTop _ hr', State.setTop_of_frames _ hr', State.setFrames_setFrames, hr]
      rfl
    have hsame : U.sameButNew ({ U with heap := s₂.heap, slotsUsed := s₂.slotsUsed } : State) L mc ms := by
      refine ⟨?_, q2, q3, q4, q5, q6⟩
      obtain ⟨t, ht, -⟩ := State.frames_cons hr
      show ({ U with heap := s₂.heap, slotsUsed := s₂.slotsUsed } : State) = { U.setFrames U.frames with heap := s₂.heap, slotsUsed := s₂.slotsUsed }
      rw [State.setFrames_self ht]
    subst hg
    refine Or.inr ⟨q, ⟨(({ U with heap := s₂.heap, slotsUsed := s₂.slotsUsed } : State).setVm s₂.vm), Ls ++ L, c0 + mc, s0 + ms⟩,
      ⟨X.admits, X.cas, X.clock, X.frames, X.room, X.hears, X.method, X.code, (X.here.setHeapUsed s₂.heap s₂.slotsUsed).setVm hW'.alike, X.tail, State.WarmedH.trans X.warmed hW', X.limits, X.bytes, X.same.trans (hsame.setVm s.vm)⟩,
      ⟨g, mk, s₂, L, E, ce, rfl, rfl, hx, hce, hcv, hcl, rfl, hL, rfl, rfl⟩, ?_⟩
    show Steps p.tables e below _ (((({ U with heap := s₂.heap, slotsUsed := s₂.slotsUsed } : State).setVm s₂.vm).setTop g).pushFrame (.throwing q))
    rw [← hs₂]
    exact hsteps
end Payer
section Calls
variable {p : Program} {l : Launch} {e : Env} {R : Room} {s : State} {m : MethodId} {args : Array Value} {below : List Frame} {meth : Method} {c : Code} {T : State} {locs : List Loc} {cells slots : Nat}
theorem vx_callV (X : Stand p l e R s m args below meth c T locs cells slots) (hexec : p.tables.exec = Jvm.exec) {own C : String} {index : Nat} {y : MethodName} {bytes : ByteArray} {maxL : Nat} {ret : Option FieldType}
    (hown : s.vm.findClass own = some m.cls) (hlink : (Cond.methodLink own index y).before args s = true) (hinst : (Cond.instanceMethod y).before args s = true) (hsel : (Cond.selects C y y).before args s = true)
    (hcode : (Cond.code y bytes maxL ret).before args s = true) (hy : y.cls ≠ "java/lang/invoke/MethodHandle" ∧ y.cls ≠ "java/lang/invoke/VarHandle")
    {W9 : Nat} {Pre : Pt → Array Value → Prop} {Post : Pt → Array Value → Option Value → Pt → Prop} {PostX : Pt → Array Value → Addr → Pt → Prop} (hK : vx_Back l R p e below s args y 3 W9 Pre Post PostX)
    {b : Addr} {cellB : Cell} (hcell : T.heap[b]? = some cellB) (hobj : cellB.vm.isStatics = false) (hcls : s.vm.findClass C = some cellB.cls)
    {g : JFrame} (hg : g.method = m) (hsize : g.locals.size = c.maxLocals) {argsL rest : List Value} (hlen : ∀ sig, parseMethodDescriptor y.desc = some sig → argsL.length = sig.parameters.length)
    (hstack : g.stack = argsL.reverse ++ .ref b :: rest) (hW : 2 * g.monitorRoom + (rest.map fun v => v.category).sum ≤ W9) (hdg : decode c.code g.pc = .ok (.invokevirtual index, 3))
    (hpre : ∀ vm₁, s.WarmedH vm₁ → Pre ⟨T.setVm vm₁, locs, cells, slots⟩ (Value.ref b :: argsL).toArray) :
    (∃ (v : Option Value) (vm₁ : Vm) (B : Pt), s.WarmedH vm₁ ∧ Stand p l e R s m args below meth c B.U B.locs B.cells B.slots ∧ Post ⟨T.setVm vm₁, locs, cells, slots⟩ (Value.ref b :: argsL).toArray v B ∧
      ∀ target, Steps p.tables e below (B.U.setTop { g with pc := g.pc + 3, stack := v.toList ++ rest }) target → Steps p.tables e below (T.setTop g) target) ∨
    (∃ (q : Addr) (vm₁ : Vm) (B : Pt), s.WarmedH vm₁ ∧ Stand p l e R s m args below meth c B.U B.locs B.cells B.slots ∧ PostX ⟨T.setVm vm₁, locs, cells, slots⟩ (Value.ref b :: argsL).toArray q B ∧
      Steps p.tables e below (T.setTop g) ((B.U.setTop { g with stack := rest }).pushFrame (.throwing q))) := by
  obtain ⟨mk, methM, hnamed, hmethM, hstM, habM⟩ := Cond.instanceMethod_spec hinst
  obtain ⟨methM', cM, hmethM', -, -, -, -, -, -, hsigM⟩ := Cond.code_spec hnamed hcode
  cases hmethM.symm.trans hmethM'
  obtain ⟨c2, r2, m2, q1, q2, q3, q4, kP, hkP, hkPi⟩ := Cond.selects_spec hsel
  cases hcls.symm.trans q1
  cases (State.methodFound?_of_named hnamed hy).symm.trans q2
  cases hnamed.symm.trans q3
  have hselP : selectMethod e.platform s.vm cellB.cls mk = .method mk := by rw [Launch.admits_selectMethod X.admits]; exact q4
  obtain ⟨vm₁, X₁, hstep₁⟩ := X.invokevirtual hexec hown hlink hnamed hmethM hstM hkP hkPi hy (a := b) (cell := cellB) hcell
    (fun z h => by rw [h] at hobj; cases hobj) hselP hmethM habM hkP hkPi (g := g) hg (argsL := argsL) (rest := rest) (hlen _ hsigM) hstack hdg
  rcases hK m meth c ⟨T.setVm vm₁, locs, cells, slots⟩ { g with stack := rest } (.invokevirtual index) mk (Value.ref b :: argsL).toArray X₁ hg hsize hdg hW (X₁.named hnamed) (hpre vm₁ X₁.warmed) with ⟨v, B, X', hpost, hsteps⟩ | ⟨q, B, X', hpost, hsteps⟩
  · exact Or.inl ⟨v, vm₁, B, X₁.warmed, X', hpost, fun target h => hstep₁ _ fun acts => by rw [doInvoke_state]; exact hsteps.trans h⟩
  · exact Or.inr ⟨q, vm₁, B, X₁.warmed, X', hpost, hstep₁ _ fun acts => by rw [doInvoke_state]; exact hsteps⟩
theorem vx_callS (X : Stand p l e R s m args below meth c T locs cells slots) (hexec : p.tables.exec = Jvm.exec) {own : String} {index : Nat} {y : MethodName} {bytes : ByteArray} {maxL : Nat} {ret : Option FieldType}
    (hown : s.vm.findClass own = some m.cls) (hlink : (Cond.methodLink own index y).before args s = true) (hstat : (Cond.static y).before args s = true) (hinit : (Cond.initialized y.cls).before args s = true)
    (hcode : (Cond.code y bytes maxL ret).before args s = true) (hy : y.cls ≠ "java/lang/invoke/MethodHandle" ∧ y.cls ≠ "java/lang/invoke/VarHandle")
    {W9 : Nat} {Pre : Pt → Array Value → Prop} {Post : Pt → Array Value → Option Value → Pt → Prop} {PostX : Pt → Array Value → Addr → Pt → Prop} (hK : vx_Back l R p e below s args y 3 W9 Pre Post PostX)
    {g : JFrame} (hg : g.method = m) (hsize : g.locals.size = c.maxLocals) {argsL rest : List Value} (hlen : ∀ sig, parseMethodDescriptor y.desc = some sig → argsL.length = sig.parameters.length)
    (hstack : g.stack = argsL.reverse ++ rest) (hW : 2 * g.monitorRoom + (rest.map fun v => v.category).sum ≤ W9) (hdg : decode c.code g.pc = .ok (.invokestatic index, 3))
    (hpre : ∀ vm₁, s.WarmedH vm₁ → Pre ⟨T.setVm vm₁, locs, cells, slots⟩ argsL.toArray) :
    (∃ (v : Option Value) (vm₁ : Vm) (B : Pt), s.WarmedH vm₁ ∧ Stand p l e R s m args below meth c B.U B.locs B.cells B.slots ∧ Post ⟨T.setVm vm₁, locs, cells, slots⟩ argsL.toArray v B ∧
      ∀ target, Steps p.tables e below (B.U.setTop { g with pc := g.pc + 3, stack := v.toList ++ rest }) target → Steps p.tables e below (T.setTop g) target) ∨
    (∃ (q : Addr) (vm₁ : Vm) (B : Pt), s.WarmedH vm₁ ∧ Stand p l e R s m args below meth c B.U B.locs B.cells B.slots ∧ PostX ⟨T.setVm vm₁, locs, cells, slots⟩ argsL.toArray q B ∧
      Steps p.tables e below (T.setTop g) ((B.U.setTop { g with stack := rest }).pushFrame (.throwing q))) := by
  obtain ⟨mk, hnamed⟩ := Cond.code_named hcode
  obtain ⟨methM, cM, hmethM, -, -, -, -, -, -, hsigM⟩ := Cond.code_spec hnamed hcode
  have hstatic : methM.isStatic = true := Cond.static_spec hnamed hmethM hstat
  obtain ⟨kP, hkP, -⟩ := className_of_methodNamed hnamed
  have hinitP : kP.init = .initialized := Cond.initialized_spec (findClass_of_methodNamed hnamed) hkP hinit
  obtain ⟨vm₁, X₁, hstep₁⟩ := X.invokestatic hexec hown hlink hnamed hmethM hstatic hkP hinitP hy (g := g) hg (argsL := argsL) (rest := rest) (hlen _ hsigM) hstack hdg
  rcases hK m meth c ⟨T.setVm vm₁, locs, cells, slots⟩ { g with stack := rest } (.invokestatic index) mk argsL.toArray X₁ hg hsize hdg hW (X₁.named hnamed) (hpre vm₁ X₁.warmed) with ⟨v, B, X', hpost, hsteps⟩ | ⟨q, B, X', hpost, hsteps⟩
  · exact Or.inl ⟨v, vm₁, B, X₁.warmed, X', hpost, fun target h => hstep₁ _ fun acts => by rw [doInvoke_state]; exact hsteps.trans h⟩
  · exact Or.inr ⟨q, vm₁, B, X₁.warmed, X', hpost, hstep₁ _ fun acts => by rw [doInvoke_state]; exact hsteps⟩
end Calls
theorem vx_cls {s : State} {T : State} {vm₁ : Vm} {E : String} {k : ClassId} (hW : s.WarmedH vm₁) (h : (T.setVm vm₁).vm.findClass E = some k) : s.vm.findClass E = some k := by
  have h1 : vm₁.findClass E = some k := h
  rw [hW.alike.findClass] at h1
  exact h1
/-- the method's frame g, with q thrown over it -/
def vx_W (p : Program) (l : Launch) (e : Env) (R : Room) (s : State) (m : MethodId) (args : Array Value) (below : List Frame) (meth : Method) (c : Code) (H : Heap) (locs : List Loc) (cells slots : Nat) (Q : State → Prop) (g : JFrame) (q : Addr) : Prop :=
  ∀ T : State, T.heap = H → Stand p l e R s m args below meth c T locs cells slots → ∃ t, Steps p.tables e below ((T.setTop g).pushFrame (.throwing q)) t ∧ Q t
def vx_Run (p : Program) (l : Launch) (e : Env) (R : Room) (s : State) (m : MethodId) (args : Array Value) (below : List Frame) (meth : Method) (c : Code) (H : Heap) (locs : List Loc) (cells slots mc ms : Nat) (g : JFrame) (rest : List Value) (Qa : State → Outcome → State → Prop) (XC : String → State → State → Prop) (free : Addr → Prop) : Prop :=
  ∀ T : State, T.heap = H → Stand p l e R s m args below meth c T locs cells slots →
    (∃ (v : Option Value) (st₀ t T' : State) (L : List Loc), st₀.heap = H ∧ Stand p l e R s m args below meth c T' (locs ++ L) (cells + mc) (slots + ms) ∧ (∀ q ∈ L, free q.base) ∧ T'.heap = t.heap ∧ T'.vm = t.vm ∧ Qa st₀ (.returned v) t ∧
      Goes p e below T g T' { g with pc := g.pc + 3, stack := v.toList ++ rest }) ∨
    (∃ (q : Addr) (st₀ t T' : State) (L : List Loc) (E : String) (ce : Cell), st₀.heap = H ∧ Stand p l e R s m args below meth c T' (locs ++ L) (cells + mc) (slots + ms) ∧ (∀ z ∈ L, free z.base) ∧ T'.heap = t.heap ∧ T'.vm = t.vm ∧ XC E st₀ t ∧ t.heap[q]? = some ce ∧ ce.vm = .none ∧ s.vm.findClass E = some ce.cls ∧
      Steps p.tables e below (T.setTop g) ((T'.setTop { g with stack := rest }).pushFrame (.throwing q)))
def vx_X {S : Type} (px : S → Prop) (B : String → S → State → Prop) (A : Nat → Prop) : String → State → State → Prop := fun E st t => ∃ u : S, px u ∧ B E u t ∧ va_F A st t
section Runs
variable {p : Program} {l : Launch} {e : Env} {R : Room} {s : State} {m : MethodId} {args : Array Value} {below : List Frame} {meth : Method} {c : Code} {H : Heap} {locs : List Loc} {cells slots : Nat}
variable {y : MethodName} {bytes cc : ByteArray} {maxL nL mc ms n index : Nat} {ret : Option FieldType} {ws : List Cond} {rm : Room} {Pc : Array Value → State → Prop} {Qc : Array Value → State → Outcome → State → Prop} {XC : String → State → State → Prop} {free : Addr → Prop} {Ts : List Cond} {own C : String} {b : Addr} {As rest : List Value} {g : JFrame}
theorem vx_callBack (cb : CallB R s args own index y bytes maxL ret ws rm mc ms n) (hM : vx_Met l y ws rm Pc Qc XC mc ms free) (hbl : FrameBlind Pc) : vx_Back l R p e below s args y 3 8 (PreOf R mc ms Pc) (PostOf Qc mc ms free) (vx_Post XC mc ms free) := by
  obtain ⟨hrc, hrs, hfr, hlo, hws, hcw, -, hini, -⟩ := cb
  exact vx_back (bytes := bytes) (maxL := maxL) (ret := ret) hM hbl hrc hrs hfr hlo hws hcw (fun a' U hW => word_at hW (Or.inl (by first | rfl | simp [Cond.onTables, Cond.keeps, Cond.steady])) hini)
theorem vx_runV (S : CallFix p m c cc nL s args Ts own) (hM : vx_Met l y ws rm Pc Qc XC mc ms free) (cw : CallW R s args own C index y bytes maxL ret ws rm mc ms n) (hp : PreV s H C b Pc As)
    (hg : g.method = m) (hn : As.length = n) (hsize : g.locals.size = nL) (hstack : g.stack = As.reverse ++ .ref b :: rest) (hW : 2 * g.monitorRoom + (rest.map fun v => v.category).sum ≤ 8) (hdg : decode cc g.pc = .ok (.invokevirtual index, 3)) (hf : cells + mc ≤ R.cells ∧ slots + ms ≤ R.slots) :
    vx_Run p l e R s m args below meth c H locs cells slots mc ms g rest (Qc (Value.ref b :: As).toArray) XC free := by
  have hK : vx_Back l R p e below s args y 3 8 (PreOf R mc ms Pc) (PostOf Qc mc ms free) (vx_Post XC mc ms free) := vx_callBack cw.1 hM hp.1
  obtain ⟨⟨-, -, -, -, -, -, hcode, -, hy, hlen, hl⟩, hin, hse⟩ := cw
  obtain ⟨hx, hb, hml, ho, -⟩ := S
  obtain ⟨-, ⟨cellB, hcB, hoB, hclB⟩, hPc⟩ := hp
  intro T hT X
  rcases vx_callV X hx (C := C) (bytes := bytes) (maxL := maxL) (ret := ret) ho hl hin hse hcode hy hK (by rw [hT]; exact hcB) hoB hclB hg (hsize.trans hml.symm) (argsL := As) (rest := rest) (fun sig h => hn.trans (hlen sig h)) hstack hW (by rw [hb]; exact hdg)
    (fun vm₁ hW₁ => ⟨hf.1, hf.2, hPc (T.setVm vm₁) hT hW₁⟩) with ⟨v, vm₁, ⟨U', l2, c2, s2⟩, hW₁, X', ⟨g', mk, t, L, e1, e2, hq, h1, hL, h2, h3⟩, st⟩ | ⟨q, vm₁, ⟨U', l2, c2, s2⟩, hW₁, X', ⟨g', mk, t, L, E, ce, e1, e2, hq, hce, hcv, hcl, h1, hL, h2, h3⟩, st⟩
  · dsimp only [Pt.U, Pt.locs, Pt.cells, Pt.slots] at X' e1 e2 h1 h2 h3 st
    subst h1; subst h2; subst h3
    exact Or.inl ⟨v, (T.setVm vm₁).calling g' mk (Value.ref b :: As).toArray, t, U', L, hT, X', hL, e1, e2, hq, st⟩
  · dsimp only [Pt.U, Pt.locs, Pt.cells, Pt.slots] at X' e1 e2 h1 h2 h3 st hcl
    subst h1; subst h2; subst h3
    exact Or.inr ⟨q, (T.setVm vm₁).calling g' mk (Value.ref b :: As).toArray, t, U', L, E, ce, hT, X', hL, e1, e2, hq, hce, hcv, vx_cls hW₁ hcl, st⟩
theorem vx_runS (S : CallFix p m c cc nL s args Ts own) (hM : vx_Met l y ws rm Pc Qc XC mc ms free) (cw : CallB R s args own index y bytes maxL ret ws rm mc ms n ∧ (Cond.static y).before args s = true) (hp : PreS s H Pc As)
    (hg : g.method = m) (hn : As.length = n) (hsize : g.locals.size = nL) (hstack : g.stack = As.reverse ++ rest) (hW : 2 * g.monitorRoom + (rest.map fun v => v.category).sum ≤ 8) (hdg : decode cc g.pc = .ok (.invokestatic index, 3)) (hf : cells + mc ≤ R.cells ∧ slots + ms ≤ R.slots) :
    vx_Run p l e R s m args below meth c H locs cells slots mc ms g rest (Qc As.toArray) XC free := by
  have hK : vx_Back l R p e below s args y 3 8 (PreOf R mc ms Pc) (PostOf Qc mc ms free) (vx_Post XC mc ms free) := vx_callBack cw.1 hM hp.1
  obtain ⟨⟨-, -, -, -, -, -, hcode, hini, hy, hlen, hl⟩, hstt⟩ := cw
  obtain ⟨hx, hb, hml, ho, -⟩ := S
  intro T hT X
  rcases vx_callS X hx (bytes := bytes) (maxL := maxL) (ret := ret) ho hl hstt hini hcode hy hK hg (hsize.trans hml.symm) (argsL := As) (rest := rest) (fun sig h => hn.trans (hlen sig h)) hstack hW (by rw [hb]; exact hdg)
    (fun vm₁ hW₁ => ⟨hf.1, hf.2, hp.2 (T.setVm vm₁) hT hW₁⟩) with ⟨v, vm₁, ⟨U', l2, c2, s2⟩, hW₁, X', ⟨g', mk, t, L, e1, e2, hq, h1, hL, h2, h3⟩, st⟩ | ⟨q, vm₁, ⟨U', l2, c2, s2⟩, hW₁, X', ⟨g', mk, t, L, E, ce, e1, e2, hq, hce, hcv, hcl, h1, hL, h2, h3⟩, st⟩
  · dsimp only [Pt.U, Pt.locs, Pt.cells, Pt.slots] at X' e1 e2 h1 h2 h3 st
    subst h1; subst h2; subst h3
    exact Or.inl ⟨v, (T.setVm vm₁).calling g' mk As.toArray, t, U', L, hT, X', hL, e1, e2, hq, st⟩
  · dsimp only [Pt.U, Pt.locs, Pt.cells, Pt.slots] at X' e1 e2 h1 h2 h3 st hcl
    subst h1; subst h2; subst h3
    exact Or.inr ⟨q, (T.setVm vm₁).calling g' mk As.toArray, t, U', L, E, ce, hT, X', hL, e1, e2, hq, hce, hcv, vx_cls hW₁ hcl, st⟩
end Runs
section Rows
variable {p : Program} {l : Launch} {e : Env} {R : Room} {s : State} {m : MethodId} {args : Array Value} {below : List Frame} {meth : Method} {c : Code} {H : Heap} {locs : List Loc} {cells slots : Nat} {Q : State → Prop}
variable {mc ms : Nat} {free : Addr → Prop} {A0 A1 : Nat → Prop} {H0 : Heap} {a : Array Value} {pc : Nat} {ls : Array Slot} {st0 rest : List Value}
theorem vx_keep {st₀ t T' : State} {L : List Loc} (h0 : st₀.heap = H) (e1 : T'.heap = t.heap) (hS : va_S A0 H0 H locs) (hA : ∀ q, q < H.size → A1 q → A0 q) (hf : ∀ q, free q → A0 q) (hL : ∀ q ∈ L, free q.base) (hF : va_F A1 st₀ t) :
    H.size ≤ T'.heap.size ∧ (∀ q : Nat, q < H.size → ¬ A1 q → T'.heap[q]? = H[q]?) ∧ va_S A0 H0 T'.heap (locs ++ L) := by
  obtain ⟨hz, hk⟩ := hF
  rw [h0] at hz hk
  exact ⟨by rw [e1]; exact hz, fun q h1 h2 => by rw [e1]; exact hk q h1 h2,
    ⟨Nat.le_trans hS.1 (by rw [e1]; exact hz), fun q h1 h2 => by rw [e1, hk q (Nat.lt_of_lt_of_le h1 hS.1) (fun z => h2 (hA q (Nat.lt_of_lt_of_le h1 hS.1) z))]; exact hS.2.1 q h1 h2, fun q hq => by
      rcases List.mem_append.mp hq with h | h
      · exact hS.2.2 q h
      · exact hf _ (hL q h)⟩⟩
theorem vx_calli {S SX : Type} {post : Int32 → S → Prop} {px : SX → Prop} {B : S → State → Prop} {BX : String → SX → State → Prop} {AX : Nat → Prop} (hr : vx_Run p l e R s m args below meth c H locs cells slots mc ms (F0 m pc ls st0) rest (va_Qi post B A1 a) (vx_X px BX AX) free) (hS : va_S A0 H0 H locs) (hA : ∀ q, q < H.size → A1 q → A0 q) (hf : ∀ q, free q → A0 q) (hAX : ∀ q, q < H.size → AX q → A0 q)
    (kx : ∀ (E : String) (ce : Cell) (q9 : Addr) (u : SX) (t : State) (H1 : Heap) (locs1 : List Loc), t.heap = H1 → s.vm.Alike t.vm → px u → BX E u t → H.size ≤ H1.size → (∀ q : Nat, q < H.size → ¬ AX q → H1[q]? = H[q]?) → va_S A0 H0 H1 locs1 → H1[q9]? = some ce → ce.vm = .none → s.vm.findClass E = some ce.cls → vx_W p l e R s m args below meth c H1 locs1 (cells + mc) (slots + ms) Q (F0 m pc ls rest) q9)
    (kk : ∀ (r : Int32) (u : S) (t : State) (H1 : Heap) (locs1 : List Loc), t.heap = H1 → s.vm.Alike t.vm → post r u → B u t → H.size ≤ H1.size → (∀ q : Nat, q < H.size → ¬ A1 q → H1[q]? = H[q]?) → va_S A0 H0 H1 locs1 → W p l e R s m args below meth c H1 locs1 (cells + mc) (slots + ms) Q (F0 m (pc + 3) ls (.int r :: rest))) : W p l e R s m args below meth c H locs cells slots Q (F0 m pc ls st0) := by
  intro T hT X
  rcases hr T hT X with ⟨v, st₀, t, T', L, h0, X', hL, e1, e2, ⟨⟨r, u, hv, hp, hb⟩, hF⟩, st⟩ | ⟨q, st₀, t, T', L, E, ce, h0, X', hL, e1, e2, ⟨u, hp, hb, hF⟩, hce, hcv, hcl, st⟩
  · cases hv
    obtain ⟨k1, k2, k3⟩ := vx_keep h0 e1 hS hA hf hL hF
    obtain ⟨t2, a1, b1⟩ := kk r u t T'.heap (locs ++ L) e1.symm (by rw [← e2]; exact X'.warmed.alike) hp hb k1 k2 k3 T' rfl X'
    exact ⟨t2, st t2 a1, b1⟩
  · obtain ⟨k1, k2, k3⟩ := vx_keep h0 e1 hS hAX hf hL hF
    obtain ⟨t2, a1, b1⟩ := kx E ce q u t T'.heap (locs ++ L) e1.symm (by rw [← e2]; exact X'.warmed.alike) hp hb k1 k2 k3 (by rw [e1]; exact hce) hcv hcl T' rfl X'
    exact ⟨t2, st.trans a1, b1⟩
theorem vx_calll {S SX : Type} {post : Int64 → S → Prop} {px : SX → Prop} {B : S → State → Prop} {BX : String → SX → State → Prop} {AX : Nat → Prop} (hr : vx_Run p l e R s m args below meth c H locs cells slots mc ms (F0 m pc ls st0) rest (va_Ql post B A1 a) (vx_X px BX AX) free) (hS : va_S A0 H0 H locs) (hA : ∀ q, q < H.size → A1 q → A0 q) (hf : ∀ q, free q → A0 q) (hAX : ∀ q, q < H.size → AX q → A0 q)
    (kx : ∀ (E : String) (ce : Cell) (q9 : Addr) (u : SX) (t : State) (H1 : Heap) (locs1 : List Loc), t.heap = H1 → s.vm.Alike t.vm → px u → BX E u t → H.size ≤ H1.size → (∀ q : Nat, q < H.size → ¬ AX q → H1[q]? = H[q]?) → va_S A0 H0 H1 locs1 → H1[q9]? = some ce → ce.vm = .none → s.vm.findClass E = some ce.cls → vx_W p l e R s m args below meth c H1 locs1 (cells + mc) (slots + ms) Q (F0 m pc ls rest) q9)
    (kk : ∀ (r : Int64) (u : S) (t : State) (H1 : Heap) (locs1 : List Loc), t.heap = H1 → s.vm.Alike t.vm → post r u → B u t → H.size ≤ H1.size → (∀ q : Nat, q < H.size → ¬ A1 q → H1[q]? = H[q]?) → va_S A0 H0 H1 locs1 → W p l e R s m args below meth c H1 locs1 (cells + mc) (slots + ms) Q (F0 m (pc + 3) ls (.long r :: rest))) : W p l e R s m args below meth c H locs cells slots Q (F0 m pc ls st0) := by
  intro T hT X
  rcases hr T hT X with ⟨v, st₀, t, T', L, h0, X', hL, e1, e2, ⟨⟨r, u, hv, hp, hb⟩, hF⟩, st⟩ | ⟨q, st₀, t, T', L, E, ce, h0, X', hL, e1, e2, ⟨u, hp, hb, hF⟩, hce, hcv, hcl, st⟩
  · cases hv
    obtain ⟨k1, k2, k3⟩ := vx_keep h0 e1 hS hA hf hL hF
    obtain ⟨t2, a1, b1⟩ := kk r u t T'.heap (locs ++ L) e1.symm (by rw [← e2]; exact X'.warmed.alike) hp hb k1 k2 k3 T' rfl X'
    exact ⟨t2, st t2 a1, b1⟩
  · obtain ⟨k1, k2, k3⟩ := vx_keep h0 e1 hS hAX hf hL hF
    obtain ⟨t2, a1, b1⟩ := kx E ce q u t T'.heap (locs ++ L) e1.symm (by rw [← e2]; exact X'.warmed.alike) hp hb k1 k2 k3 (by rw [e1]; exact hce) hcv hcl T' rfl X'
    exact ⟨t2, st.trans a1, b1⟩
theorem vx_callf {S SX : Type} {post : UInt32 → S → Prop} {px : SX → Prop} {B : S → State → Prop} {BX : String → SX → State → Prop} {AX : Nat → Prop} (hr : vx_Run p l e R s m args below meth c H locs cells slots mc ms (F0 m pc ls st0) rest (va_Qf post B A1 a) (vx_X px BX AX) free) (hS : va_S A0 H0 H locs) (hA : ∀ q, q < H.size → A1 q → A0 q) (hf : ∀ q, free q → A0 q) (hAX : ∀ q, q < H.size → AX q → A0 q)
    (kx : ∀ (E : String) (ce : Cell) (q9 : Addr) (u : SX) (t : State) (H1 : Heap) (locs1 : List Loc), t.heap = H1 → s.vm.Alike t.vm → px u → BX E u t → H.size ≤ H1.size → (∀ q : Nat, q < H.size → ¬ AX q → H1[q]? = H[q]?) → va_S A0 H0 H1 locs1 → H1[q9]? = some ce → ce.vm = .none → s.vm.findClass E = some ce.cls → vx_W p l e R s m args below meth c H1 locs1 (cells + mc) (slots + ms) Q (F0 m pc ls rest) q9)
    (kk : ∀ (r : UInt32) (u : S) (t : State) (H1 : Heap) (locs1 : List Loc), t.heap = H1 → s.vm.Alike t.vm → post r u → B u t → H.size ≤ H1.size → (∀ q : Nat, q < H.size → ¬ A1 q → H1[q]? = H[q]?) → va_S A0 H0 H1 locs1 → W p l e R s m args below meth c H1 locs1 (cells + mc) (slots + ms) Q (F0 m (pc + 3) ls (.float r :: rest))) : W p l e R s m args below meth c H locs cells slots Q (F0 m pc ls st0) := by
  intro T hT X
  rcases hr T hT X with ⟨v, st₀, t, T', L, h0, X', hL, e1, e2, ⟨⟨r, u, hv, hp, hb⟩, hF⟩, st⟩ | ⟨q, st₀, t, T', L, E, ce, h0, X', hL, e1, e2, ⟨u, hp, hb, hF⟩, hce, hcv, hcl, st⟩
  · cases hv
    obtain ⟨k1, k2, k3⟩ := vx_keep h0 e1 hS hA hf hL hF
    obtain ⟨t2, a1, b1⟩ := kk r u t T'.heap (locs ++ L) e1.symm (by rw [← e2]; exact X'.warmed.alike) hp hb k1 k2 k3 T' rfl X'
    exact ⟨t2, st t2 a1, b1⟩
  · obtain ⟨k1, k2, k3⟩ := vx_keep h0 e1 hS hAX hf hL hF
    obtain ⟨t2, a1, b1⟩ := kx E ce q u t T'.heap (locs ++ L) e1.symm (by rw [← e2]; exact X'.warmed.alike) hp hb k1 k2 k3 (by rw [e1]; exact hce) hcv hcl T' rfl X'
    exact ⟨t2, st.trans a1, b1⟩
theorem vx_calld {S SX : Type} {post : UInt64 → S → Prop} {px : SX → Prop} {B : S → State → Prop} {BX : String → SX → State → Prop} {AX : Nat → Prop} (hr : vx_Run p l e R s m args below meth c H locs cells slots mc ms (F0 m pc ls st0) rest (va_Qd post B A1 a) (vx_X px BX AX) free) (hS : va_S A0 H0 H locs) (hA : ∀ q, q < H.size → A1 q → A0 q) (hf : ∀ q, free q → A0 q) (hAX : ∀ q, q < H.size → AX q → A0 q)
    (kx : ∀ (E : String) (ce : Cell) (q9 : Addr) (u : SX) (t : State) (H1 : Heap) (locs1 : List Loc), t.heap = H1 → s.vm.Alike t.vm → px u → BX E u t → H.size ≤ H1.size → (∀ q : Nat, q < H.size → ¬ AX q → H1[q]? = H[q]?) → va_S A0 H0 H1 locs1 → H1[q9]? = some ce → ce.vm = .none → s.vm.findClass E = some ce.cls → vx_W p l e R s m args below meth c H1 locs1 (cells + mc) (slots + ms) Q (F0 m pc ls rest) q9)
    (kk : ∀ (r : UInt64) (u : S) (t : State) (H1 : Heap) (locs1 : List Loc), t.heap = H1 → s.vm.Alike t.vm → post r u → B u t → H.size ≤ H1.size → (∀ q : Nat, q < H.size → ¬ A1 q → H1[q]? = H[q]?) → va_S A0 H0 H1 locs1 → W p l e R s m args below meth c H1 locs1 (cells + mc) (slots + ms) Q (F0 m (pc + 3) ls (.double r :: rest))) : W p l e R s m args below meth c H locs cells slots Q (F0 m pc ls st0) := by
  intro T hT X
  rcases hr T hT X with ⟨v, st₀, t, T', L, h0, X', hL, e1, e2, ⟨⟨r, u, hv, hp, hb⟩, hF⟩, st⟩ | ⟨q, st₀, t, T', L, E, ce, h0, X', hL, e1, e2, ⟨u, hp, hb, hF⟩, hce, hcv, hcl, st⟩
  · cases hv
    obtain ⟨k1, k2, k3⟩ := vx_keep h0 e1 hS hA hf hL hF
    obtain ⟨t2, a1, b1⟩ := kk r u t T'.heap (locs ++ L) e1.symm (by rw [← e2]; exact X'.warmed.alike) hp hb k1 k2 k3 T' rfl X'
    exact ⟨t2, st t2 a1, b1⟩
  · obtain ⟨k1, k2, k3⟩ := vx_keep h0 e1 hS hAX hf hL hF
    obtain ⟨t2, a1, b1⟩ := kx E ce q u t T'.heap (locs ++ L) e1.symm (by rw [← e2]; exact X'.warmed.alike) hp hb k1 k2 k3 (by rw [e1]; exact hce) hcv hcl T' rfl X'
    exact ⟨t2, st.trans a1, b1⟩
theorem vx_callv {S SX : Type} {post : S → Prop} {px : SX → Prop} {B : S → State → Prop} {BX : String → SX → State → Prop} {AX : Nat → Prop} (hr : vx_Run p l e R s m args below meth c H locs cells slots mc ms (F0 m pc ls st0) rest (va_Qv post B A1 a) (vx_X px BX AX) free) (hS : va_S A0 H0 H locs) (hA : ∀ q, q < H.size → A1 q → A0 q) (hf : ∀ q, free q → A0 q) (hAX : ∀ q, q < H.size → AX q → A0 q)
    (kx : ∀ (E : String) (ce : Cell) (q9 : Addr) (u : SX) (t : State) (H1 : Heap) (locs1 : List Loc), t.heap = H1 → s.vm.Alike t.vm → px u → BX E u t → H.size ≤ H1.size → (∀ q : Nat, q < H.size → ¬ AX q → H1[q]? = H[q]?) → va_S A0 H0 H1 locs1 → H1[q9]? = some ce → ce.vm = .none → s.vm.findClass E = some ce.cls → vx_W p l e R s m args below meth c H1 locs1 (cells + mc) (slots + ms) Q (F0 m pc ls rest) q9)
    (kk : ∀ (u : S) (t : State) (H1 : Heap) (locs1 : List Loc), t.heap = H1 → s.vm.Alike t.vm → post u → B u t → H.size ≤ H1.size → (∀ q : Nat, q < H.size → ¬ A1 q → H1[q]? = H[q]?) → va_S A0 H0 H1 locs1 → W p l e R s m args below meth c H1 locs1 (cells + mc) (slots + ms) Q (F0 m (pc + 3) ls (rest))) : W p l e R s m args below meth c H locs cells slots Q (F0 m pc ls st0) := by
  intro T hT X
  rcases hr T hT X with ⟨v, st₀, t, T', L, h0, X', hL, e1, e2, ⟨⟨u, hv, hp, hb⟩, hF⟩, st⟩ | ⟨q, st₀, t, T', L, E, ce, h0, X', hL, e1, e2, ⟨u, hp, hb, hF⟩, hce, hcv, hcl, st⟩
  · cases hv
    obtain ⟨k1, k2, k3⟩ := vx_keep h0 e1 hS hA hf hL hF
    obtain ⟨t2, a1, b1⟩ := kk u t T'.heap (locs ++ L) e1.symm (by rw [← e2]; exact X'.warmed.alike) hp hb k1 k2 k3 T' rfl X'
    exact ⟨t2, st t2 a1, b1⟩
  · obtain ⟨k1, k2, k3⟩ := vx_keep h0 e1 hS hAX hf hL hF
    obtain ⟨t2, a1, b1⟩ := kx E ce q u t T'.heap (locs ++ L) e1.symm (by rw [← e2]; exact X'.warmed.alike) hp hb k1 k2 k3 (by rw [e1]; exact hce) hcv hcl T' rfl X'
    exact ⟨t2, st.trans a1, b1⟩
/-- caught by the row x of this method's table; the rows ahead don't take it -/
theorem vx_catch {own name : String} {E : String} {ce : Cell} {q : Addr} (hown : s.vm.findClass own = some m.cls) (pre : List ExceptionTableEntry) (x : ExceptionTableEntry) (suf : List ExceptionTableEntry) (hsplit : c.exceptionTable.toList = pre ++ x :: suf)
    (hpass : ∀ z ∈ pre, covers z pc = false ∨ (z.catchType ≠ 0 ∧ ∃ nm : String, (Cond.classLink own z.catchType nm).before args s = true ∧ va_Nc E nm s)) (hx : covers x pc = true) (h0 : x.catchType ≠ 0)
    (hlink : (Cond.classLink own x.catchType name).before args s = true) (hcast : (Cond.castable E name).before args s = true) (hcell : H[q]? = some ce) (hv : ce.vm = .none) (hcl : s.vm.findClass E = some ce.cls)
    (kk : W p l e R s m args below meth c H locs cells slots Q (F0 m x.handlerPc ls [.ref q])) : vx_W p l e R s m args below meth c H locs cells slots Q (F0 m pc ls rest) q := by
  intro T hT X
  have hpl : e.platform.magicAccessors = ({} : Platform).magicAccessors := by rw [X.admits.platform]
  obtain ⟨c3, c4, hc3, hc4, hasg⟩ := Cond.castable_spec hcast
  cases Option.some.inj (hc3.symm.trans hcl)
  obtain ⟨c5, hc5, hcl5⟩ := Cond.classLink_spec hown hlink e.platform hpl
  cases Option.some.inj (hc4.symm.trans hc5)
  obtain ⟨vm', X', st⟩ := X.thenCaughtThrough q (g := F0 m pc ls rest) rfl (Steps.refl _) (by rw [hT]; exact hcell) (by rw [hv]; rfl) (by obtain ⟨k9, h9, -⟩ := Vm.findClass_spec hcl; exact ⟨k9, h9⟩) pre x suf hsplit
    (fun z hz => by
      rcases hpass z hz with h | ⟨hz0, nm, hl1, hn1⟩
      · exact Or.inl h
      · obtain ⟨c6, hc6, hcl6⟩ := Cond.classLink_spec hown hl1 e.platform hpl
        obtain ⟨a8, b8, h1, h2, h3⟩ := hn1
        cases Option.some.inj (h1.symm.trans hcl)
        cases Option.some.inj (h2.symm.trans hc6)
        exact Or.inr ⟨hz0, _, hcl6, h3⟩) hx (Or.inr ⟨h0, c4, hcl5, hasg⟩)
  obtain ⟨t, a1, b1⟩ := kk (T.setVm vm') hT X'
  exact ⟨t, st.trans a1, b1⟩
end Rows
section Ends
variable {p : Program} {l : Launch} {e : Env} {R : Room} {s : State} {m : MethodId} {args : Array Value} {below : List Frame} {meth : Method} {c : Code} {H : Heap} {locs : List Loc} {cells slots : Nat} {Q : State → Prop}
variable {mc ms : Nat} {free : Addr → Prop} {A0 A1 : Nat → Prop} {H0 : Heap} {a : Array Value} {ls : Array Slot} {st0 rest : List Value}
variable {Qc : Array Value → State → Outcome → State → Prop} {XC : String → State → State → Prop}
/-- what a body that may throw owes at its end -/
def vx_MQ (below : List Frame) (Qc : Array Value → State → Outcome → State → Prop) (XC : String → State → State → Prop) (a : Array Value) (s : State) (mc ms : Nat) (free : Addr → Prop) : State → Prop := fun t =>
  ∃ o, t.status = .running ∧ Ended t below o ∧ vx_Q Qc XC mc ms free a s o t
theorem vx_ret {g : JFrame} {mc ms : Nat} (k : W p l e R s m args below meth c H locs cells slots (MQ below Qc args s mc ms free) g) : W p l e R s m args below meth c H locs cells slots (vx_MQ below Qc XC args s mc ms free) g := by
  intro T hT X
  obtain ⟨t, a1, o, b1, b2, b3, b4⟩ := k T hT X
  exact ⟨t, a1, o, b1, b2, Or.inl ⟨b3, b4⟩⟩
/-- not caught here: it goes on to the caller -/
theorem vx_widen {g : JFrame} {q : Addr} {k n : Nat} (h1 : cells ≤ k) (h2 : slots ≤ n) (kk : vx_W p l e R s m args below meth c H locs k n Q g q) : vx_W p l e R s m args below meth c H locs cells slots Q g q := fun T hT X => kk T hT (stand_widen X h1 h2)
theorem vx_out {pc : Nat} {E : String} {ce : Cell} {q : Addr} {mc ms : Nat} (hout : ∀ x ∈ c.exceptionTable.toList, covers x pc = false) (hlocks : meth.locks = false) (hcell : H[q]? = some ce) (hv : ce.vm = .none) (hcl : s.vm.findClass E = some ce.cls)
    (hx : ∀ t : State, t.heap = H → s.vm.Alike t.vm → XC E s t) (hf : ∀ z ∈ locs, free z.base) (hc : cells ≤ mc) (hs : slots ≤ ms) :
    vx_W p l e R s m args below meth c H locs cells slots (vx_MQ below Qc XC args s mc ms free) (F0 m pc ls rest) q := by
  intro T hT X
  obtain ⟨st1, hrun, hend, hW, hsm⟩ := X.leaveThrown q (g := F0 m pc ls rest) rfl rfl rfl hout hlocks
  have hcell9 : (T.setFrames (.throwing q :: below)).heap[q]? = some ce := by
    show T.heap[q]? = some ce
    rw [hT]; exact hcell
  exact ⟨_, st1, .threw q, hrun, hend, Or.inr ⟨q, rfl, E, ce, locs, hx _ hT hW.alike, hcell9, hv, hcl, hW, hsm.mono hc hs, hf⟩⟩
theorem vx_frame {U : State} {k n : Nat} (h : s.sameButNew ({ U with vm := s.vm } : State) locs k n) : s.heap.size ≤ U.heap.size ∧ ∀ q : Nat, q < s.heap.size → (∀ z ∈ locs, z.base ≠ q) → U.heap[q]? = s.heap[q]? := by
  obtain ⟨-, h2, -, -, -, h6⟩ := h
  refine ⟨h2, fun q hq hz => ?_⟩
  obtain ⟨c9, e1, e2, e3, e4⟩ := h6 q _ (Array.getElem?_eq_getElem hq)
  have hs : c9.slots = (s.heap[q]).slots := Array.ext_getElem? fun i => e4 i fun hm => hz _ hm rfl
  have h9 : c9 = s.heap[q] := by
    rw [hs] at e2
    exact e2
  have e5 : U.heap[q]? = some c9 := e1
  rw [e5, h9, Array.getElem?_eq_getElem hq]
/-- the words of a throw but the four that speak of the heap -/
def vx_no (w : Cond) : Bool := decide (w ≠ .isRef (.static Bundle.tN "UNASSIGNED_STACK" Bundle.steD)) && decide (w ≠ .isRef (.static Bundle.tN "SUPPRESSED_SENTINEL" Bundle.listD)) && decide (w ≠ .laysStatic Bundle.tN "UNASSIGNED_STACK" Bundle.steD) && decide (w ≠ .laysStatic Bundle.tN "SUPPRESSED_SENTINEL" Bundle.listD)
def vx_at0 (own : String) (ic : Nat) (X : String) (names : List String) : List Cond := (Bundle.ownAtoms0 own ic X names).filter vx_no
def vx_atS (own : String) (ic : Nat) (X : String) (names : List String) : List Cond := (Bundle.ownAtoms own ic X names).filter vx_no
/-- a word that the tables alone decide, or a good one -/
def vx_ot (w : Cond) : Bool := w.onTables || goodWord w
theorem vx_ot_at {args a' : Array Value} {s U : State} {w : Cond} (hW : s.WarmedH U.vm) (hvm : s.vm = U.vm) (hg : vx_ot w = true) (h : w.before args s = true) : w.before a' U = true := by
  simp only [vx_ot, Bool.or_eq_true] at hg
  rcases hg with hg | hg
  · exact va_tabs hg hvm h
  · exact word_at hW (good_of_word hg) h
/-- a list's words: the good ones out of the method's own list, the others by premises of their own -/
theorem vx_hat {args : Array Value} {s : State} {L B : List Cond} (h1 : ∀ w ∈ L.filter goodWord, w.before args s = true) (h2 : ∀ w ∈ L.filter (fun w => !goodWord w), w ∈ B) (h3 : ∀ w ∈ B, w.before args s = true) : ∀ w ∈ L, w.before args s = true := by
  intro w hw
  by_cases g : goodWord w = true
  · exact h1 w (List.mem_filter.mpr ⟨hw, g⟩)
  · refine h3 w (h2 w (List.mem_filter.mpr ⟨hw, ?_⟩))
    show (!goodWord w) = true
    cases hgw : goodWord w
    · rfl
    · exact absurd hgw g
theorem vx_c {args : Array Value} {s : State} {w : Cond} {B : List Cond} (h : w.before args s = true) (t : ∀ w ∈ B, w.before args s = true) : ∀ w' ∈ w :: B, w'.before args s = true := fun w' h' => (List.mem_cons.mp h').elim (fun e => by rw [e]; exact h) (t w')
theorem vx_n {args : Array Value} {s : State} : ∀ w ∈ ([] : List Cond), w.before args s = true := fun _ h => nomatch h
theorem vx_own {args : Array Value} {s : State} {L : List Cond} (h1 : ∀ w ∈ L.filter vx_no, w.before args s = true)
    (hU : (Cond.isRef (.static Bundle.tN "UNASSIGNED_STACK" Bundle.steD)).before args s = true) (hN : (Cond.isRef (.static Bundle.tN "SUPPRESSED_SENTINEL" Bundle.listD)).before args s = true)
    (lU : (Cond.laysStatic Bundle.tN "UNASSIGNED_STACK" Bundle.steD).before args s = true) (lN : (Cond.laysStatic Bundle.tN "SUPPRESSED_SENTINEL" Bundle.listD).before args s = true) : ∀ w ∈ L, w.before args s = true := by
  intro w hw
  by_cases e1 : w = .isRef (.static Bundle.tN "UNASSIGNED_STACK" Bundle.steD)
  · rw [e1]; exact hU
  · by_cases e2 : w = .isRef (.static Bundle.tN "SUPPRESSED_SENTINEL" Bundle.listD)
    · rw [e2]; exact hN
    · by_cases e3 : w = .laysStatic Bundle.tN "UNASSIGNED_STACK" Bundle.steD
      · rw [e3]; exact lU
      · by_cases e4 : w = .laysStatic Bundle.tN "SUPPRESSED_SENTINEL" Bundle.listD
        · rw [e4]; exact lN
        · exact h1 w (List.mem_filter.mpr ⟨hw, by unfold vx_no; rw [decide_eq_true e1, decide_eq_true e2, decide_eq_true e3, decide_eq_true e4]; rfl⟩)
/-- where a static field lies, its class's statics cell in H -/
def vx_L (C n d : String) (A : Nat → Prop) (U : State) (H : Heap) : Prop := ∃ (c : ClassId) (k : Class) (i : Nat) (f : Field) (a : Nat) (cell : Cell), U.vm.findClass C = some c ∧ U.fieldFound? C n d = some (c, k, i, f) ∧ f.isStatic = true ∧ k.statics = some a ∧ H[a]? = some cell ∧ cell.vm.isStatics = true ∧ cell.cls = c ∧ f.slot < cell.slots.size ∧ k.staticTypes[f.slot]? = some f.type ∧ ¬ A a
theorem vx_L.moved {C n d : String} {A : Nat → Prop} {u U : State} {H : Heap} (hvm : u.vm.Alike U.vm) (h : vx_L C n d A u H) : vx_L C n d A U H := by
  obtain ⟨c, k, i, f, a, cell, h1, h2, h3, h4, h5, h6, h7, h8, h9, h10⟩ := h
  obtain ⟨k', hi', he⟩ := State.fieldFound?_setVm hvm h2
  exact ⟨c, k', i, f, a, cell, by rw [hvm.findClass]; exact h1, hi', h3, by rw [he]; exact h4, h5, h6, h7, h8, by rw [he]; exact h9, h10⟩
theorem vx_L.kept {C n d : String} {A : Nat → Prop} {U : State} {H H1 : Heap} (h : vx_L C n d A U H) (hq : ∀ a : Nat, a < H.size → ¬ A a → H1[a]? = H[a]?) : vx_L C n d A U H1 := by
  obtain ⟨c, k, i, f, a, cell, h1, h2, h3, h4, h5, h6, h7, h8, h9, h10⟩ := h
  exact ⟨c, k, i, f, a, cell, h1, h2, h3, h4, by rw [hq a (Array.getElem?_eq_some_iff.mp h5).1 h10]; exact h5, h6, h7, h8, h9, h10⟩
theorem vx_L.narrow {C n d : String} {A B : Nat → Prop} {U : State} {H : Heap} (h : vx_L C n d A U H) (hAB : ∀ q, B q → A q) : vx_L C n d B U H := by
  obtain ⟨c, k, i, f, a, cell, h1, h2, h3, h4, h5, h6, h7, h8, h9, h10⟩ := h
  exact ⟨c, k, i, f, a, cell, h1, h2, h3, h4, h5, h6, h7, h8, h9, fun z => h10 (hAB _ z)⟩
theorem vx_L.word {C n d : String} {A : Nat → Prop} {s : State} {args : Array Value} (h : vx_L C n d A s s.heap) : (Cond.laysStatic C n d).before args s = true := by
  obtain ⟨c, k, i, f, a, cell, h1, h2, h3, h4, h5, h6, h7, h8, h9, -⟩ := h
  show (Cond.laysStatic C n d).holds args s none s [] = true
  exact Cond.laysStatic_of h1 h2 h3 h4 h5 h6 h7 h8 h9
/-- .. and what it holds: null or some reference -/
def vx_Zq (C n d : String) (A : Nat → Prop) (U : State) (H : Heap) : Prop := va_Zq C n d A U H ∧ vx_L C n d A U H
theorem vx_Zq.moved {C n d : String} {A : Nat → Prop} {u U : State} {H : Heap} (hvm : u.vm.Alike U.vm) (h : vx_Zq C n d A u H) : vx_Zq C n d A U H := ⟨va_Zq.moved hvm h.1, vx_L.moved hvm h.2⟩
theorem vx_Zq.kept {C n d : String} {A : Nat → Prop} {U : State} {H H1 : Heap} (h : vx_Zq C n d A U H) (hq : ∀ a : Nat, a < H.size → ¬ A a → H1[a]? = H[a]?) : vx_Zq C n d A U H1 := ⟨va_Zq.kept h.1 hq, vx_L.kept h.2 hq⟩
theorem vx_Zq.narrow {C n d : String} {A B : Nat → Prop} {U : State} {H : Heap} (h : vx_Zq C n d A U H) (hAB : ∀ q, B q → A q) : vx_Zq C n d B U H := ⟨va_Zq.narrow h.1 hAB, vx_L.narrow h.2 hAB⟩
theorem vx_Zqof {args : Array Value} {s : State} {C n d : String} {A : Nat → Prop} (hl : (Cond.laysStatic C n d).before args s = true) (hini : (Cond.initialized C).before args s = true) (h : (Cond.isRef (.static C n d)).before args s = true) (hA : ∀ a : Nat, a < s.heap.size → ¬ A a) : vx_Zq C n d A s s.heap := by
  refine ⟨va_Zqof hl hini h hA, ?_⟩
  obtain ⟨c, k, i, f, a, cell, h1, h2, h3, h4, h5, h6, h7, h8, h9⟩ := Cond.laysStatic_spec hl
  exact ⟨c, k, i, f, a, cell, h1, h2, h3, h4, h5, h6, h7, h8, h9, hA a (Array.getElem?_eq_some_iff.mp h5).1⟩
theorem vx_isRef {C n d : String} {v : Value} {A : Nat → Prop} {s : State} {args : Array Value} (h : va_Z C n d v A s s.heap) (hv : v.isRef = true) : (Cond.isRef (.static C n d)).before args s = true := by
  obtain ⟨cf, kf, fi, f, a, cell, h1, h2, h3, h4, h5, h6, h7, -⟩ := h
  have he : (Term.static C n d).eval args s none [] s = some v := by
    simp [Term.eval, State.fieldNamed?, h1, h2, h4, h5, h6, h7]
  simp only [Cond.before, Cond.holds, Cond.value, he]
  cases v <;> simp_all [Value.isRef]
theorem vx_isRefq {C n d : String} {A : Nat → Prop} {s : State} {args : Array Value} (h : va_Zq C n d A s s.heap) : (Cond.isRef (.static C n d)).before args s = true := by
  rcases h with h | ⟨t, h⟩
  · exact vx_isRef h rfl
  · exact vx_isRef h rfl
/-- the same frame, seen from here: as if the method were called anew in this heap -/
theorem vx_rebase {T : State} (X : Stand p l e R s m args below meth c T locs cells slots) {R' : Room} (hf : R'.frames ≤ R.frames) (hl : R'.locals ≤ R.locals) (hc : cells + R'.cells ≤ R.cells) (hs : slots + R'.slots ≤ R.slots) :
    Stand p l e R' ((T.setVm s.vm).setFrames (.invoking m args :: below)) m args below meth c T [] 0 0 := by
  have htop : (T.setVm s.vm).topJava?.isSome := X.here.top
  have hF : ((T.setVm s.vm).setFrames (.invoking m args :: below)).frames = .invoking m args :: below := State.frames_setFrames _ (State.cur_lt_of_top htop)
  obtain ⟨g₀, hg0⟩ := Option.isSome_iff_exists.mp htop
  obtain ⟨r, hr⟩ := State.topJava?_eq_some.mp hg0
  have hl9 : e.platform.stackLimits (T.setVm s.vm).me = e.platform.stackLimits s.me := X.limits
  have hb9 : (T.setVm s.vm).me.stackBytes = s.me.stackBytes := X.bytes
  refine ⟨X.admits, X.cas, X.clock, hF, ?_, X.hears, X.method, X.code, X.here, X.tail, X.warmed, ?_, ?_, ?_⟩
  · have h := X.room
    have hU : ((T.setVm s.vm).setFrames (.invoking m args :: below)).localsInUse = s.localsInUse := by
      rw [State.localsInUse_invoking hF (meth := meth) (c := c) X.method X.code, State.localsInUse_invoking X.frames X.method X.code]
    simp only [State.hasRoom, Bool.and_eq_true, decide_eq_true_eq] at h ⊢
    obtain ⟨⟨⟨⟨h1, h2, h3, h4, h5, h6⟩, h7⟩, h8⟩, h9⟩ := h
    rw [X.frames, List.length_cons] at h2 h3
    have q1 := X.heapSize
    have q2 := X.used
    simp only [hF, hU, List.length_cons, State.stackLimits_setFrames, State.stackBytes_setFrames, hl9, hb9]
    refine ⟨⟨⟨⟨by omega, by omega, by omega, by omega, by omega, h6⟩, ?_⟩, ?_⟩, X.book⟩
    · show T.heap.size + R'.cells ≤ e.platform.maxCells
      omega
    · show T.slotsUsed + R'.slots ≤ e.platform.maxSlots
      omega
  · rw [State.stackLimits_setFrames]; rfl
  · rw [State.stackBytes_setFrames]; rfl
  · refine ⟨?_, Nat.le_refl _, Nat.le_refl _, ?_, ?_, fun a c9 h9 => ⟨c9, h9, rfl, rfl, fun _ _ => rfl⟩⟩
    · obtain ⟨t, ht, -⟩ := State.frames_cons hr
      show T.setVm s.vm = { ((T.setVm s.vm).setFrames (.invoking m args :: below)).setFrames (T.setVm s.vm).frames with heap := T.heap, slotsUsed := T.slotsUsed }
      rw [State.setFrames_setFrames, State.setFrames_self ht]
      rfl
    · show T.slotsUsed = T.slotsUsed + ((T.heap.toList.drop T.heap.size).map (·.slots.size)).sum
      rw [List.drop_eq_nil_of_le (Nat.le_of_eq Array.length_toList)]
      rfl
    · show ((T.heap.toList.drop T.heap.size).map (·.slots.size)).sum ≤ 0
      rw [List.drop_eq_nil_of_le (Nat.le_of_eq Array.length_toList)]
      exact Nat.le_refl _
/-- 'throw new E()': new; dup; invokespecial; athrow -/
theorem vx_throw0 {cc : ByteArray} {pc : Nat} (hexec : p.tables.exec = Jvm.exec) (hb : c.code = cc) (hl : l.stackTraces = false) {own cls : String} {names : List String} {ik ic mc ms : Nat} {A : Nat → Prop}
    (hown : s.vm.findClass own = some m.cls) (hcls : Bundle.fit cls = true) (hnames : ∀ n ∈ names, Bundle.fit n = true)
    (hk : (Cond.classLink own ik cls).before args s = true) (hini : (Cond.initialized cls).before args s = true) (hat : ∀ w ∈ vx_at0 own ic cls names, w.before args s = true)
    (hgood : ∀ w ∈ Cond.classLink own ik cls :: Cond.initialized cls :: vx_at0 own ic cls names, vx_ot w = true)
    (hU : vx_Zq Bundle.tN "UNASSIGNED_STACK" Bundle.steD A s s.heap) (hN : vx_Zq Bundle.tN "SUPPRESSED_SENTINEL" Bundle.listD A s s.heap) (hS : va_S A s.heap H locs) (hsize : ls.size = c.maxLocals)
    (d0 : decode cc pc = .ok (.new ik, 3)) (d3 : decode cc (pc + 3) = .ok (.dup, 1)) (d4 : decode cc (pc + 4) = .ok (.invokespecial ic, 3)) (d7 : decode cc (pc + 7) = .ok (.athrow, 1))
    (hout : ∀ x ∈ c.exceptionTable.toList, covers x (pc + 7) = false)
    (hRframes : names.length + 3 < R.frames) (hRlocals : (rest.map fun v => v.category).sum + (13 * (names.length + 1) + 42) ≤ R.locals) (hRcells : cells + 1 ≤ R.cells) (hRslots : slots + 6 ≤ R.slots) (hlocks : meth.locks = false)
    (hx : ∀ t : State, s.vm.Alike t.vm → H.size ≤ t.heap.size → (∀ q : Nat, q < H.size → t.heap[q]? = H[q]?) → XC cls s t)
    (hf : ∀ z ∈ locs, free z.base) (hc : cells + 1 ≤ mc) (hs : slots + 6 ≤ ms) :
    W p l e R s m args below meth c H locs cells slots (vx_MQ below Qc XC args s mc ms free) (F0 m pc ls rest) := by
  intro T hT X
  have htr : e.platform.stackTraces = false := (show e.platform.stackTraces = l.stackTraces by rw [X.admits.platform]).trans hl
  have Y := vx_rebase X (R' := { frames := R.frames, locals := R.locals, cells := 1, slots := 6 }) (Nat.le_refl _) (Nat.le_refl _) hRcells hRslots
  obtain ⟨s', hA⟩ : ∃ z, z = (T.setVm s.vm).setFrames (.invoking m args :: below) := ⟨_, rfl⟩
  rw [← hA] at Y
  have hvm : s'.vm = s.vm := by rw [hA]; rfl
  have hhp : s'.heap = H := by rw [hA]; exact hT
  have hW0 : s.WarmedH s'.vm := by rw [hvm]; exact State.WarmedH.refl s
  have hat' : ∀ w ∈ vx_at0 own ic cls names, w.before args s' = true := fun w hw => vx_ot_at hW0 hvm.symm (hgood w (List.mem_cons_of_mem _ (List.mem_cons_of_mem _ hw))) (hat w hw)
  have hk' : (Cond.classLink own ik cls).before args s' = true := vx_ot_at hW0 hvm.symm (hgood _ List.mem_cons_self) hk
  have hini' : (Cond.initialized cls).before args s' = true := vx_ot_at hW0 hvm.symm (hgood _ (List.mem_cons_of_mem _ List.mem_cons_self)) hini
  have hU' : vx_Zq Bundle.tN "UNASSIGNED_STACK" Bundle.steD A s' s'.heap := by rw [hhp]; exact vx_Zq.moved hW0.alike (hU.kept hS.2.1)
  have hN' : vx_Zq Bundle.tN "SUPPRESSED_SENTINEL" Bundle.listD A s' s'.heap := by rw [hhp]; exact vx_Zq.moved hW0.alike (hN.kept hS.2.1)
  have h : ∀ w ∈ Bundle.ownAtoms0 own ic cls names, w.before args s' = true := vx_own hat' (vx_isRefq hU'.1) (vx_isRefq hN'.1) hU'.2.word hN'.2.word
  have hown' : s'.vm.findClass own = some m.cls := by rw [hvm]; exact hown
  have hins : (Cond.instantiable cls 6).before args s' = true := h _ (by simp [Bundle.ownAtoms0])
  obtain ⟨vm₁, cX, kX, hfX, hkX, -, -, X₁, st1⟩ := Y.newCold hexec (own := own) (C := cls) (index := ik) (n := 6) hown' hk' hins hini'
    (g := F0 m pc ls rest) rfl (by rw [hb]; exact d0) (Nat.le_refl _) (Nat.le_refl _)
  generalize hT1 : (T.setVm vm₁).pushCell { cls := cX, slots := kX.instanceTypes.map defaultValue, vm := .none } = T1 at X₁ st1
  have hcat : (Value.ref T.heap.size).category = 1 := rfl
  have hcellA : T1.heap[T.heap.size]? = some (freshCell cX kX) := by rw [← hT1]; exact State.heap_pushCell_size _ _
  have d3' : decode c.code (pc + 3) = .ok (.dup, 1) := by rw [hb]; exact d3
  obtain ⟨U, hsteps, hrun, hend, hW, hsame, ce, hce, hO⟩ := X₁.ctorThrow0 hexec htr (own := own) (cls := cls) (names := names) (ic := ic) hown' hcls hnames h (fun x hx => nomatch hx) hfX hkX hcellA (by rw [hhp, hT]; exact Nat.le_refl _)
    (g := { method := m, pc := pc + 4, locals := ls, stack := .ref T.heap.size :: .ref T.heap.size :: rest, locked := none }) rfl hsize rfl rfl (rest := rest) rfl
    (by rw [hb]; exact d4) (by rw [hb]; exact d7) hout hRframes (by simp only [List.map_cons, List.sum_cons, hcat]; omega) hlocks
  obtain ⟨f1, f2⟩ := vx_frame hsame
  rw [hhp] at f1 f2
  have hWs : s.WarmedH U.vm := State.WarmedH.trans hW0 hW
  have hcl : s.vm.findClass cls = some ce.cls := by
    have h9 := hO.cls
    rw [hvm] at h9
    exact h9
  have hall : s.sameButNew ({ U with vm := s.vm } : State) locs mc ms := by
    subst hA
    obtain ⟨e1, e2⟩ := hsame
    rw [State.setFrames_setFrames] at e1
    have h2 : (T.setVm s.vm).sameButNew ({ U with vm := s.vm } : State) [] (0 + 1) (0 + 6) := ⟨e1, e2⟩
    have h3 := X.same.trans h2
    rw [List.append_nil] at h3
    exact h3.mono hc hs
  refine ⟨U, ?_, .threw T.heap.size, hrun, hend, Or.inr ⟨T.heap.size, rfl, cls, ce, locs, hx U hWs.alike f1 (fun q hq => f2 q hq (fun z hz => nomatch hz)), hce, hO.vm, hcl, hWs, hall, hf⟩⟩
  refine st1 _ ?_
  show Steps p.tables e below (T1.setTop { method := m, pc := pc + 3, locals := ls, stack := .ref T.heap.size :: rest, locked := none }) _
  jvm_step X₁.here [X₁.here.top, hexec, d3', Value.category]
  exact hsteps
/-- 'throw new E("text")': new; dup; ldc; invokespecial; athrow -/
theorem vx_throwS {cc : ByteArray} {pc : Nat} (hexec : p.tables.exec = Jvm.exec) (hb : c.code = cc) (hl : l.stackTraces = false) {own cls text : String} {names : List String} {ik is ic mc ms sa : Nat} {A : Nat → Prop}
    (hown : s.vm.findClass own = some m.cls) (hcls : Bundle.fit cls = true) (hnames : ∀ n ∈ names, Bundle.fit n = true)
    (hk : (Cond.classLink own ik cls).before args s = true) (hini : (Cond.initialized cls).before args s = true) (hstr : vk_R own is text sa s) (hat : ∀ w ∈ vx_atS own ic cls names, w.before args s = true)
    (hgood : ∀ w ∈ Cond.classLink own ik cls :: Cond.initialized cls :: vx_atS own ic cls names, vx_ot w = true)
    (hU : vx_Zq Bundle.tN "UNASSIGNED_STACK" Bundle.steD A s s.heap) (hN : vx_Zq Bundle.tN "SUPPRESSED_SENTINEL" Bundle.listD A s s.heap) (hS : va_S A s.heap H locs) (hsize : ls.size = c.maxLocals)
    (d0 : decode cc pc = .ok (.new ik, 3)) (d3 : decode cc (pc + 3) = .ok (.dup, 1)) (d4 : decode cc (pc + 4) = .ok (.ldc is, 2)) (d6 : decode cc (pc + 6) = .ok (.invokespecial ic, 3)) (d9 : decode cc (pc + 9) = .ok (.athrow, 1))
    (hout : ∀ x ∈ c.exceptionTable.toList, covers x (pc + 9) = false)
    (hRframes : names.length + 3 < R.frames) (hRlocals : (rest.map fun v => v.category).sum + (13 * (names.length + 1) + 43) ≤ R.locals) (hRcells : cells + 1 ≤ R.cells) (hRslots : slots + 6 ≤ R.slots) (hlocks : meth.locks = false)
    (hx : ∀ t : State, s.vm.Alike t.vm → H.size ≤ t.heap.size → (∀ q : Nat, q < H.size → t.heap[q]? = H[q]?) → XC cls s t)
    (hf : ∀ z ∈ locs, free z.base) (hc : cells + 1 ≤ mc) (hs : slots + 6 ≤ ms) :
    W p l e R s m args below meth c H locs cells slots (vx_MQ below Qc XC args s mc ms free) (F0 m pc ls rest) := by
  intro T hT X
  have htr : e.platform.stackTraces = false := (show e.platform.stackTraces = l.stackTraces by rw [X.admits.platform]).trans hl
  have Y := vx_rebase X (R' := { frames := R.frames, locals := R.locals, cells := 1, slots := 6 }) (Nat.le_refl _) (Nat.le_refl _) hRcells hRslots
  obtain ⟨s', hA⟩ : ∃ z, z = (T.setVm s.vm).setFrames (.invoking m args :: below) := ⟨_, rfl⟩
  rw [← hA] at Y
  have hvm : s'.vm = s.vm := by rw [hA]; rfl
  have hhp : s'.heap = H := by rw [hA]; exact hT
  have hW0 : s.WarmedH s'.vm := by rw [hvm]; exact State.WarmedH.refl s
  have hat' : ∀ w ∈ vx_atS own ic cls names, w.before args s' = true := fun w hw => vx_ot_at hW0 hvm.symm (hgood w (List.mem_cons_of_mem _ (List.mem_cons_of_mem _ hw))) (hat w hw)
  have hk' : (Cond.classLink own ik cls).before args s' = true := vx_ot_at hW0 hvm.symm (hgood _ List.mem_cons_self) hk
  have hini' : (Cond.initialized cls).before args s' = true := vx_ot_at hW0 hvm.symm (hgood _ (List.mem_cons_of_mem _ List.mem_cons_self)) hini
  have hU' : vx_Zq Bundle.tN "UNASSIGNED_STACK" Bundle.steD A s' s'.heap := by rw [hhp]; exact vx_Zq.moved hW0.alike (hU.kept hS.2.1)
  have hN' : vx_Zq Bundle.tN "SUPPRESSED_SENTINEL" Bundle.listD A s' s'.heap := by rw [hhp]; exact vx_Zq.moved hW0.alike (hN.kept hS.2.1)
  have h : ∀ w ∈ Bundle.ownAtoms own ic cls names, w.before args s' = true := vx_own hat' (vx_isRefq hU'.1) (vx_isRefq hN'.1) hU'.2.word hN'.2.word
  have hown' : s'.vm.findClass own = some m.cls := by rw [hvm]; exact hown
  have hins : (Cond.instantiable cls 6).before args s' = true := h _ (by simp [Bundle.ownAtoms])
  obtain ⟨vm₁, cX, kX, hfX, hkX, -, -, X₁, st1⟩ := Y.newCold hexec (own := own) (C := cls) (index := ik) (n := 6) hown' hk' hins hini'
    (g := F0 m pc ls rest) rfl (by rw [hb]; exact d0) (Nat.le_refl _) (Nat.le_refl _)
  generalize hT1 : (T.setVm vm₁).pushCell { cls := cX, slots := kX.instanceTypes.map defaultValue, vm := .none } = T1 at X₁ st1
  have hcat : (Value.ref T.heap.size).category = 1 := rfl
  have hcellA : T1.heap[T.heap.size]? = some (freshCell cX kX) := by rw [← hT1]; exact State.heap_pushCell_size _ _
  have d3' : decode c.code (pc + 3) = .ok (.dup, 1) := by rw [hb]; exact d3
  have d4' : decode c.code (pc + 4) = .ok (.ldc is, 2) := by rw [hb]; exact d4
  have hstr' : vk_R own is text sa s' := vk_R.warm hW0 hstr
  obtain ⟨U, hsteps, hrun, hend, hW, hsame, ce, hce, hO⟩ := X₁.ctorThrowS hexec htr (own := own) (cls := cls) (names := names) (ic := ic) hown' hcls hnames h (fun x hx => nomatch hx) hfX hkX hcellA (by rw [hhp, hT]; exact Nat.le_refl _) (msg := .ref sa) rfl
    (g := { method := m, pc := pc + 6, locals := ls, stack := .ref sa :: .ref T.heap.size :: .ref T.heap.size :: rest, locked := none }) rfl hsize rfl rfl (rest := rest) rfl
    (by rw [hb]; exact d6) (by rw [hb]; exact d9) hout hRframes (by simp only [List.map_cons, List.sum_cons, hcat]; omega) hlocks
  obtain ⟨f1, f2⟩ := vx_frame hsame
  rw [hhp] at f1 f2
  have hWs : s.WarmedH U.vm := State.WarmedH.trans hW0 hW
  have hcl : s.vm.findClass cls = some ce.cls := by
    have h9 := hO.cls
    rw [hvm] at h9
    exact h9
  have hall : s.sameButNew ({ U with vm := s.vm } : State) locs mc ms := by
    subst hA
    obtain ⟨e1, e2⟩ := hsame
    rw [State.setFrames_setFrames] at e1
    have h2 : (T.setVm s.vm).sameButNew ({ U with vm := s.vm } : State) [] (0 + 1) (0 + 6) := ⟨e1, e2⟩
    have h3 := X.same.trans h2
    rw [List.append_nil] at h3
    exact h3.mono hc hs
  refine ⟨U, ?_, .threw T.heap.size, hrun, hend, Or.inr ⟨T.heap.size, rfl, cls, ce, locs, hx U hWs.alike f1 (fun q hq => f2 q hq (fun z hz => nomatch hz)), hce, hO.vm, hcl, hWs, hall, hf⟩⟩
  refine st1 _ ?_
  show Steps p.tables e below (T1.setTop { method := m, pc := pc + 3, locals := ls, stack := .ref T.heap.size :: rest, locked := none }) _
  jvm_step X₁.here [X₁.here.top, hexec, d3', Value.category]
  exact X₁.ldcString hexec (own := own) (text := text) (index := is) (a := sa) hown' hstr'.1 hstr'.2
    (g := { method := m, pc := pc + 4, locals := ls, stack := .ref T.heap.size :: .ref T.heap.size :: rest, locked := none }) rfl d4' _ hsteps
/-- 'throw new E("text")', the text by a wide index -/
theorem vx_throwSW {cc : ByteArray} {pc : Nat} (hexec : p.tables.exec = Jvm.exec) (hb : c.code = cc) (hl : l.stackTraces = false) {own cls text : String} {names : List String} {ik is ic mc ms sa : Nat} {A : Nat → Prop}
    (hown : s.vm.findClass own = some m.cls) (hcls : Bundle.fit cls = true) (hnames : ∀ n ∈ names, Bundle.fit n = true)
    (hk : (Cond.classLink own ik cls).before args s = true) (hini : (Cond.initialized cls).before args s = true) (hstr : vk_R own is text sa s) (hat : ∀ w ∈ vx_atS own ic cls names, w.before args s = true)
    (hgood : ∀ w ∈ Cond.classLink own ik cls :: Cond.initialized cls :: vx_atS own ic cls names, vx_ot w = true)
    (hU : vx_Zq Bundle.tN "UNASSIGNED_STACK" Bundle.steD A s s.heap) (hN : vx_Zq Bundle.tN "SUPPRESSED_SENTINEL" Bundle.listD A s s.heap) (hS : va_S A s.heap H locs) (hsize : ls.size = c.maxLocals)
    (d0 : decode cc pc = .ok (.new ik, 3)) (d3 : decode cc (pc + 3) = .ok (.dup, 1)) (d4 : decode cc (pc + 4) = .ok (.ldc_w is, 3)) (d7 : decode cc (pc + 7) = .ok (.invokespecial ic, 3)) (d10 : decode cc (pc + 10) = .ok (.athrow, 1))
    (hout : ∀ x ∈ c.exceptionTable.toList, covers x (pc + 10) = false)
    (hRframes : names.length + 3 < R.frames) (hRlocals : (rest.map fun v => v.category).sum + (13 * (names.length + 1) + 43) ≤ R.locals) (hRcells : cells + 1 ≤ R.cells) (hRslots : slots + 6 ≤ R.slots) (hlocks : meth.locks = false)
    (hx : ∀ t : State, s.vm.Alike t.vm → H.size ≤ t.heap.size → (∀ q : Nat, q < H.size → t.heap[q]? = H[q]?) → XC cls s t)
    (hf : ∀ z ∈ locs, free z.base) (hc : cells + 1 ≤ mc) (hs : slots + 6 ≤ ms) :
    W p l e R s m args below meth c H locs cells slots (vx_MQ below Qc XC args s mc ms free) (F0 m pc ls rest) := by
  intro T hT X
  have htr : e.platform.stackTraces = false := (show e.platform.stackTraces = l.stackTraces by rw [X.admits.platform]).trans hl
  have Y := vx_rebase X (R' := { frames := R.frames, locals := R.locals, cells := 1, slots := 6 }) (Nat.le_refl _) (Nat.le_refl _) hRcells hRslots
  obtain ⟨s', hA⟩ : ∃ z, z = (T.setVm s.vm).setFrames (.invoking m args :: below) := ⟨_, rfl⟩
  rw [← hA] at Y
  have hvm : s'.vm = s.vm := by rw [hA]; rfl
  have hhp : s'.heap = H := by rw [hA]; exact hT
  have hW0 : s.WarmedH s'.vm := by rw [hvm]; exact State.WarmedH.refl s
  have hat' : ∀ w ∈ vx_atS own ic cls names, w.before args s' = true := fun w hw => vx_ot_at hW0 hvm.symm (hgood w (List.mem_cons_of_mem _ (List.mem_cons_of_mem _ hw))) (hat w hw)
  have hk' : (Cond.classLink own ik cls).before args s' = true := vx_ot_at hW0 hvm.symm (hgood _ List.mem_cons_self) hk
  have hini' : (Cond.initialized cls).before args s' = true := vx_ot_at hW0 hvm.symm (hgood _ (List.mem_cons_of_mem _ List.mem_cons_self)) hini
  have hU' : vx_Zq Bundle.tN "UNASSIGNED_STACK" Bundle.steD A s' s'.heap := by rw [hhp]; exact vx_Zq.moved hW0.alike (hU.kept hS.2.1)
  have hN' : vx_Zq Bundle.tN "SUPPRESSED_SENTINEL" Bundle.listD A s' s'.heap := by rw [hhp]; exact vx_Zq.moved hW0.alike (hN.kept hS.2.1)
  have h : ∀ w ∈ Bundle.ownAtoms own ic cls names, w.before args s' = true := vx_own hat' (vx_isRefq hU'.1) (vx_isRefq hN'.1) hU'.2.word hN'.2.word
  have hown' : s'.vm.findClass own = some m.cls := by rw [hvm]; exact hown
  have hins : (Cond.instantiable cls 6).before args s' = true := h _ (by simp [Bundle.ownAtoms])
  obtain ⟨vm₁, cX, kX, hfX, hkX, -, -, X₁, st1⟩ := Y.newCold hexec (own := own) (C := cls) (index := ik) (n := 6) hown' hk' hins hini'
    (g := F0 m pc ls rest) rfl (by rw [hb]; exact d0) (Nat.le_refl _) (Nat.le_refl _)
  generalize hT1 : (T.setVm vm₁).pushCell { cls := cX, slots := kX.instanceTypes.map defaultValue, vm := .none } = T1 at X₁ st1
  have hcat : (Value.ref T.heap.size).category = 1 := rfl
  have hcellA : T1.heap[T.heap.size]? = some (freshCell cX kX) := by rw [← hT1]; exact State.heap_pushCell_size _ _
  have d3' : decode c.code (pc + 3) = .ok (.dup, 1) := by rw [hb]; exact d3
  have d4' : decode c.code (pc + 4) = .ok (.ldc_w is, 3) := by rw [hb]; exact d4
  have hstr' : vk_R own is text sa s' := vk_R.warm hW0 hstr
  obtain ⟨U, hsteps, hrun, hend, hW, hsame, ce, hce, hO⟩ := X₁.ctorThrowS hexec htr (own := own) (cls := cls) (names := names) (ic := ic) hown' hcls hnames h (fun x hx => nomatch hx) hfX hkX hcellA (by rw [hhp, hT]; exact Nat.le_refl _) (msg := .ref sa) rfl
    (g := { method := m, pc := pc + 7, locals := ls, stack := .ref sa :: .ref T.heap.size :: .ref T.heap.size :: rest, locked := none }) rfl hsize rfl rfl (rest := rest) rfl
    (by rw [hb]; exact d7) (by rw [hb]; exact d10) hout hRframes (by simp only [List.map_cons, List.sum_cons, hcat]; omega) hlocks
  obtain ⟨f1, f2⟩ := vx_frame hsame
  rw [hhp] at f1 f2
  have hWs : s.WarmedH U.vm := State.WarmedH.trans hW0 hW
  have hcl : s.vm.findClass cls = some ce.cls := by
    have h9 := hO.cls
    rw [hvm] at h9
    exact h9
  have hall : s.sameButNew ({ U with vm := s.vm } : State) locs mc ms := by
    subst hA
    obtain ⟨e1, e2⟩ := hsame
    rw [State.setFrames_setFrames] at e1
    have h2 : (T.setVm s.vm).sameButNew ({ U with vm := s.vm } : State) [] (0 + 1) (0 + 6) := ⟨e1, e2⟩
    have h3 := X.same.trans h2
    rw [List.append_nil] at h3
    exact h3.mono hc hs
  refine ⟨U, ?_, .threw T.heap.size, hrun, hend, Or.inr ⟨T.heap.size, rfl, cls, ce, locs, hx U hWs.alike f1 (fun q hq => f2 q hq (fun z hz => nomatch hz)), hce, hO.vm, hcl, hWs, hall, hf⟩⟩
  refine st1 _ ?_
  show Steps p.tables e below (T1.setTop { method := m, pc := pc + 3, locals := ls, stack := .ref T.heap.size :: rest, locked := none }) _
  jvm_step X₁.here [X₁.here.top, hexec, d3', Value.category]
  exact X₁.ldcStringW hexec (own := own) (text := text) (index := is) (a := sa) hown' hstr'.1 hstr'.2
    (g := { method := m, pc := pc + 4, locals := ls, stack := .ref T.heap.size :: .ref T.heap.size :: rest, locked := none }) rfl d4' _ hsteps
end Ends
section Bodies
variable {l : Launch}
theorem vx_ofW {y : MethodName} {ws ws' : List Cond} {rm : Room} {Pc : Array Value → State → Prop} {Qc : Array Value → State → Outcome → State → Prop} {XC : String → State → State → Prop} {mc ms : Nat} {free : Addr → Prop} {cc : ByteArray} {maxL : Nat} {ret : Option FieldType}
    (hy : plainName y.cls = true) (hw : ws = Cond.code y cc maxL ret :: ws')
    (body : ∀ p e s m args below meth c s₁, BodyLoose p l y (headSpec ws rm) cc maxL ret e s m args below meth c s₁ → c.maxLocals = maxL → (∀ x ∈ c.exceptionTable.toList, False) → Pc args s →
      W p l e (headSpec ws rm).room s m args below meth c s.heap [] 0 0 (vx_MQ below Qc XC args s mc ms free) (entryFrame m args maxL)) : vx_Met l y ws rm Pc Qc XC mc ms free := by
  refine MetFree.of_bodyS (code := cc) (maxLocals := maxL) (ret := ret) hy ?_ ?_
  · intro args s m h hn
    obtain ⟨meth, c, h1, h2, h3, h4, h5, h6, -, -⟩ := Cond.code_spec hn (atoms_spec (ws := ws) h _ (by rw [hw]; exact List.mem_cons_self))
    exact ⟨meth, c, h1, h2, h3, h4, h5, h6⟩
  · intro p e s m args below meth c s₁ B hml hP _
    have hh0 : s₁.heap = s.heap := by rw [B.state]; rfl
    have ht : ∀ x ∈ c.exceptionTable.toList, False := by
      obtain ⟨meth9, c9, h1, h2, -, -, -, -, h7, -⟩ := Cond.code_spec B.named (atoms_spec (ws := ws) B.pre _ (by rw [hw]; exact List.mem_cons_self))
      cases Option.some.inj (h1.symm.trans B.method)
      cases Option.some.inj (h2.symm.trans (Stand.of_body B).code)
      intro x hx
      rw [Array.isEmpty_iff.mp h7] at hx
      cases hx
    obtain ⟨t, a1, o, b1, b2, b3⟩ := body p e s m args below meth c s₁ B hml ht hP s₁ hh0 (Stand.of_body B)
    exact ⟨t, o, a1, b1, b2, b3⟩
/-- the table of a body with handlers -/
theorem vx_table {p : Program} {x y : MethodName} {S : Spec} {cc bytes : ByteArray} {maxL maxL' : Nat} {ret ret' : Option FieldType} {e : Env} {s s₁ : State} {m : MethodId} {args : Array Value} {below : List Frame} {meth : Method} {c : Code} {hh : List (Nat × Nat × Nat × Nat)}
    (B : BodyLoose p l y S cc maxL ret e s m args below meth c s₁) (h : (Cond.codeWith y bytes maxL' ret' hh).before args s = true) : c.exceptionTable.toList = tableOf hh := by
  obtain ⟨m9, meth9, c9, hn9, h1, h2, -, -, h6, -⟩ := Cond.codeWith_spec h
  cases Option.some.inj (hn9.symm.trans B.named)
  cases Option.some.inj (h1.symm.trans B.method)
  cases Option.some.inj (h2.symm.trans (Stand.of_body B).code)
  rw [← h6, table_eq]
end Bodies
end VXA
/-! ===== END ===== -/
/-! ===== BEGIN a static call of a method with an exception table ===== -/
section VXS
variable {p : Program} {l : Launch} {e : Env} {R : Room} {s : State} {m : MethodId} {args : Array Value} {below : List Frame} {meth : Method} {c : Code} {T : State} {H : Heap} {locs : List Loc} {cells slots : Nat}
abbrev vx_CSW (R : Room) (s : State) (args : Array Value) (own : String) (index : Nat) (y : MethodName) (bytes : ByteArray) (maxL : Nat) (ret : Option FieldType) (hh : List (Nat × Nat × Nat × Nat)) (ws : List Cond) (rm : Room) (mc ms n : Nat) : Prop :=
  (rm.cells = mc ∧ rm.slots = ms ∧ rm.frames + 1 ≤ R.frames ∧ 8 + (maxL + 11) + rm.locals ≤ R.locals ∧ (∀ w ∈ ws, ∀ (a' : Array Value) (U : State), s.WarmedH U.vm → w.before a' U = true) ∧ Cond.codeWith y bytes maxL ret hh ∈ ws) ∧
  (Cond.codeWith y bytes maxL ret hh).before args s = true ∧ (Cond.initialized y.cls).before args s = true ∧ (y.cls ≠ "java/lang/invoke/MethodHandle" ∧ y.cls ≠ "java/lang/invoke/VarHandle") ∧
  (∀ sig, parseMethodDescriptor y.desc = some sig → n = sig.parameters.length) ∧ (Cond.methodLink own index y).before args s = true ∧ (Cond.static y).before args s = true
theorem vx_cwSW {own : String} {index maxL mc ms : Nat} {y : MethodName} {bytes : ByteArray} {ret : Option FieldType} {hh : List (Nat × Nat × Nat × Nat)} {Ts ws ws' : List Cond} {rm : Room} (n : Nat) (ht : ∀ w ∈ Ts, w.before args s = true) (hT : GoodIn Ts (va_wsS own index y ws)) (hw : ws = Cond.codeWith y bytes maxL ret hh :: ws') (hrc : rm.cells = mc) (hrs : rm.slots = ms)
    (hd : y.cls ≠ "java/lang/invoke/MethodHandle" ∧ y.cls ≠ "java/lang/invoke/VarHandle" ∧ (parseMethodDescriptor y.desc).map (fun d => d.parameters.length) = some n) (hR : rm.frames + 1 ≤ R.frames ∧ 8 + (maxL + 11) + rm.locals ≤ R.locals) :
    vx_CSW R s args own index y bytes maxL ret hh ws rm mc ms n := by
  have ok : ∀ w ∈ va_wsS own index y ws, w.before args s = true := fun w h => ht w (hT w h).1
  have hG : GoodIn Ts ws := fun w h => hT w (by unfold va_wsS; exact List.mem_append_right _ h)
  have hc : Cond.codeWith y bytes maxL ret hh ∈ ws := by rw [hw]; exact List.mem_cons_self
  refine ⟨⟨hrc, hrs, hR.1, hR.2, pay_in ht hG, hc⟩, ht _ (hG _ hc).1, ok _ (by simp [va_wsS]), ⟨hd.1, hd.2.1⟩, fun sig h => ?_, ok _ (by simp [va_wsS]), ok _ (by simp [va_wsS])⟩
  have h2 := hd.2.2
  rw [h] at h2
  exact (Option.some.inj h2).symm
theorem vx_callSW (X : Stand p l e R s m args below meth c T locs cells slots) (hexec : p.tables.exec = Jvm.exec) {own : String} {index : Nat} {y : MethodName} {bytes : ByteArray} {maxL : Nat} {ret : Option FieldType} {hh : List (Nat × Nat × Nat × Nat)}
    (hown : s.vm.findClass own = some m.cls) (hlink : (Cond.methodLink own index y).before args s = true) (hstat : (Cond.static y).before args s = true) (hinit : (Cond.initialized y.cls).before args s = true)
    (hcode : (Cond.codeWith y bytes maxL ret hh).before args s = true) (hy : y.cls ≠ "java/lang/invoke/MethodHandle" ∧ y.cls ≠ "java/lang/invoke/VarHandle")
    {W9 : Nat} {Pre : Pt → Array Value → Prop} {Post : Pt → Array Value → Option Value → Pt → Prop} (hK : Back l R p e below s args y 3 W9 Pre Post)
    {g : JFrame} (hg : g.method = m) (hsize : g.locals.size = c.maxLocals) {argsL rest : List Value} (hlen : ∀ sig, parseMethodDescriptor y.desc = some sig → argsL.length = sig.parameters.length)
    (hstack : g.stack = argsL.reverse ++ rest) (hW : 2 * g.monitorRoom + (rest.map fun v => v.category).sum ≤ W9) (hdg : decode c.code g.pc = .ok (.invokestatic index, 3))
    (hpre : ∀ vm₁, s.WarmedH vm₁ → Pre ⟨T.setVm vm₁, locs, cells, slots⟩ argsL.toArray) :
    ∃ (v : Option Value) (vm₁ : Vm) (B : Pt), s.WarmedH vm₁ ∧ Stand p l e R s m args below meth c B.U B.locs B.cells B.slots ∧ Post ⟨T.setVm vm₁, locs, cells, slots⟩ argsL.toArray v B ∧
      ∀ target, Steps p.tables e below (B.U.setTop { g with pc := g.pc + 3, stack := v.toList ++ rest }) target → Steps p.tables e below (T.setTop g) target := by
  obtain ⟨mk, methM, cM, hnamed, hmethM, -, -, -, -, -, -, hsigM⟩ := Cond.codeWith_spec hcode
  have hstatic : methM.isStatic = true := Cond.static_spec hnamed hmethM hstat
  obtain ⟨kP, hkP, -⟩ := className_of_methodNamed hnamed
  have hinitP : kP.init = .initialized := Cond.initialized_spec (findClass_of_methodNamed hnamed) hkP hinit
  obtain ⟨vm₁, X₁, hstep₁⟩ := X.invokestatic hexec hown hlink hnamed hmethM hstatic hkP hinitP hy (g := g) hg (argsL := argsL) (rest := rest) (hlen _ hsigM) hstack hdg
  obtain ⟨v, B, X', hpost, hsteps⟩ := hK m meth c ⟨T.setVm vm₁, locs, cells, slots⟩ { g with stack := rest } (.invokestatic index) mk argsL.toArray X₁ hg hsize hdg hW (X₁.named hnamed) (hpre vm₁ X₁.warmed)
  exact ⟨v, vm₁, B, X₁.warmed, X', hpost, fun target h => hstep₁ _ fun acts => by rw [doInvoke_state]; exact hsteps.trans h⟩
theorem vx_runSW {y : MethodName} {bytes cc : ByteArray} {maxL nL mc ms n index : Nat} {ret : Option FieldType} {hh : List (Nat × Nat × Nat × Nat)} {ws : List Cond} {rm : Room} {Pc : Array Value → State → Prop} {Qc : Array Value → State → Outcome → State → Prop} {free : Addr → Prop} {Ts : List Cond} {own : String} {As rest : List Value} {g : JFrame}
    (S : CallFix p m c cc nL s args Ts own) (hM : Met l y ws rm Pc Qc mc ms free) (cw : vx_CSW R s args own index y bytes maxL ret hh ws rm mc ms n) (hp : PreS s H Pc As)
    (hg : g.method = m) (hn : As.length = n) (hsize : g.locals.size = nL) (hstack : g.stack = As.reverse ++ rest) (hW : 2 * g.monitorRoom + (rest.map fun v => v.category).sum ≤ 8) (hdg : decode cc g.pc = .ok (.invokestatic index, 3)) (hf : cells + mc ≤ R.cells ∧ slots + ms ≤ R.slots) :
    va_Run p l e R s m args below meth c H locs cells slots mc ms g rest (Qc As.toArray) (free) := by
  obtain ⟨⟨hrc, hrs, hfr, hlo, hws, hcw⟩, hcode, hini, hy, hlen, hl, hstt⟩ := cw
  have hK : Back l R p e below s args y 3 8 (PreOf R mc ms Pc) (PostOf Qc mc ms free) := va_backW (hh := hh) (bytes := bytes) (maxL := maxL) (ret := ret) hM hp.1 hrc hrs hfr hlo hws hcw (fun a' U hW => word_at hW (Or.inl (by first | rfl | simp [Cond.onTables, Cond.keeps, Cond.steady])) hini)
  obtain ⟨hx, hb, hml, ho, -⟩ := S
  intro T hT X
  obtain ⟨v, vm₁, ⟨U', l2, c2, s2⟩, hW₁, X', ⟨g', mk, t, L, e1, e2, hq, h1, hL, h2, h3⟩, st⟩ := vx_callSW X hx (hh := hh) (bytes := bytes) (maxL := maxL) (ret := ret) ho hl hstt hini hcode hy hK hg (hsize.trans hml.symm) (argsL := As) (rest := rest) (fun sig h => hn.trans (hlen sig h)) hstack hW (by rw [hb]; exact hdg)
    (fun vm₁ hW₁ => ⟨hf.1, hf.2, hp.2 (T.setVm vm₁) hT hW₁⟩)
  dsimp only [Pt.U, Pt.locs, Pt.cells, Pt.slots] at X' e1 e2 h1 h2 h3 st
  subst h1; subst h2; subst h3
  exact ⟨v, (T.setVm vm₁).calling g' mk As.toArray, t, U', L, hT, X', hL, e1, e2, hq, st⟩
/-- not caught here, past rows that name other classes: it goes on to the caller -/
theorem vx_outP {p : Program} {l : Launch} {e : Env} {R : Room} {s : State} {m : MethodId} {args : Array Value} {below : List Frame} {meth : Method} {c : Code} {H : Heap} {locs : List Loc} {cells slots : Nat} {free : Addr → Prop} {ls : Array Slot} {rest : List Value} {Qc : Array Value → State → Outcome → State → Prop} {XC : String → State → State → Prop}
    {pc : Nat} {own E : String} {ce : Cell} {q : Addr} {mc ms : Nat} (hown : s.vm.findClass own = some m.cls) (hlocks : meth.locks = false)
    (hpass : ∀ z ∈ c.exceptionTable.toList, covers z pc = false ∨ (z.catchType ≠ 0 ∧ ∃ nm : String, (Cond.classLink own z.catchType nm).before args s = true ∧ va_Nc E nm s)) (hcell : H[q]? = some ce) (hv : ce.vm = .none) (hcl : s.vm.findClass E = some ce.cls)
    (hx : ∀ t : State, t.heap = H → s.vm.Alike t.vm → XC E s t) (hf : ∀ z ∈ locs, free z.base) (hc : cells ≤ mc) (hs : slots ≤ ms) :
    vx_W p l e R s m args below meth c H locs cells slots (vx_MQ below Qc XC args s mc ms free) (F0 m pc ls rest) q := by
  intro T hT X
  have hpl : e.platform.magicAccessors = ({} : Platform).magicAccessors := by rw [X.admits.platform]
  obtain ⟨vm', hW', X', st⟩ := X.outThrough hlocks q (g := F0 m pc ls rest) rfl rfl rfl (cell := ce) (by rw [hT]; exact hcell) (by rw [hv]; rfl)
    (by obtain ⟨k9, h9, -⟩ := Vm.findClass_spec hcl; exact ⟨k9, h9⟩) (fun z hz => by
      rcases hpass z hz with h | ⟨hz0, nm, hl1, hn1⟩
      · exact Or.inl h
      · obtain ⟨c6, hc6, hcl6⟩ := Cond.classLink_spec hown hl1 e.platform hpl
        obtain ⟨a8, b8, h1, h2, h3⟩ := hn1
        cases Option.some.inj (h1.symm.trans hcl)
        cases Option.some.inj (h2.symm.trans hc6)
        exact Or.inr ⟨hz0, _, hcl6, h3⟩)
  obtain ⟨g₀, hfr⟩ := X'.frames_eq
  have hcell9 : ((T.setVm vm').setFrames (.throwing q :: below)).heap[q]? = some ce := by
    show T.heap[q]? = some ce
    rw [hT]; exact hcell
  have hend : Ended ((T.setVm vm').setFrames (.throwing q :: below)) below (.threw q) := State.frames_setFrames _ (State.cur_lt_of_frames hfr)
  refine ⟨(T.setVm vm').setFrames (.throwing q :: below), ?_, .threw q, X'.here.running, hend, Or.inr ⟨q, rfl, E, ce, locs, hx _ hT (X'.ends _).1.alike, hcell9, hv, hcl, (X'.ends _).1, (X'.ends _).2.mono hc hs, hf⟩⟩
  rw [X.pushThrowing_eq]
  exact st
/-- a thing of a world lies in the heap -/
theorem vx_lt {D : va_G} {cl : List vw_C} {ws : va_W} {H1 : Heap} (h : va_P D cl ws H1) {k : Nat} {q : Nat × va_E} (hk : ws[k]? = some q) : q.1 < H1.size := (h k q hk).lt
end VXS
/-! ===== END ===== -/
/-! ===== BEGIN methods with a table of their own: called by a name, returning or throwing ===== -/
section VXH
/-! vx_backW, vx_callVX, vx_callSX, vx_callVW, vx_runVW, vx_runVX, vx_runSX, vx_ofWH follow the same proofs as their sisters above (Free/Laws.lean, Shelf42/LK1.lean); vx_outP calls Shelf42/NT130.lean (outThrough). -/
section
variable {l : Launch} {R : Room} {p : Program} {e : Env} {below : List Frame} {s : State} {sargs : Array Value} {y : MethodName} {len W9 : Nat}
theorem vx_backW {ws : List Cond} {rm : Room} {Pc : Array Value → State → Prop} {Qc : Array Value → State → Outcome → State → Prop} {XC : String → State → State → Prop} {mc ms : Nat} {free : Addr → Prop} {bytes : ByteArray} {maxL : Nat} {ret : Option FieldType} {hh : List (Nat × Nat × Nat × Nat)}
    (hM : vx_Met l y ws rm Pc Qc XC mc ms free) (hblind : FrameBlind Pc) (hrc : rm.cells = mc) (hrs : rm.slots = ms)
    (hframes : rm.frames + 1 ≤ R.frames) (hlocals : W9 + (maxL + 11) + rm.locals ≤ R.locals)
    (hws : ∀ w ∈ ws, ∀ a' U, s.WarmedH U.vm → w.before a' U = true) (hcode : Cond.codeWith y bytes maxL ret hh ∈ ws) (hinit : ∀ a' U, s.WarmedH U.vm → (Cond.initialized y.cls).before a' U = true) :
    vx_Back l R p e below s sargs y len W9 (PreOf R mc ms Pc) (PostOf Qc mc ms free) (vx_Post XC mc ms free) := by
  intro m meth c A g ig mk a X hg hsize hdg hW hn hp
  have h1 : (headSpec ws rm).pre.before a A.U = true := atoms_intro fun w hw => hws w hw _ _ X.warmed
  have h2 : (Cond.codeWith y bytes maxL ret hh).before a A.U = true := hws _ hcode _ _ X.warmed
  have h3 : (Cond.initialized y.cls).before a A.U = true := hinit _ _ X.warmed
  have h4 : A.cells + (headSpec ws rm).room.cells ≤ R.cells := by rw [show (headSpec ws rm).room.cells = mc from hrc]; exact hp.1
  have h5 : A.slots + (headSpec ws rm).room.slots ≤ R.slots := by rw [show (headSpec ws rm).room.slots = ms from hrs]; exact hp.2.1
  have hPc : Pc a (A.U.calling g mk a) := hblind _ _ _ _ hp.2.2
  obtain ⟨U, Ls, c0, s0⟩ := A
  dsimp only [Pt.U, Pt.locs, Pt.cells, Pt.slots] at h1 h2 h3 h4 h5 X hn hPc ⊢
  obtain ⟨m9, methY, cY, hn9, hmY, hcY, -, hlY, -⟩ := Cond.codeWith_spec h2
  cases Option.some.inj (hn9.symm.trans hn)
  obtain ⟨kY, hkY, -⟩ := className_of_methodNamed hn
  have hinitY : kY.init = .initialized := Cond.initialized_spec (findClass_of_methodNamed hn) hkY h3
  have h : At U g.method c below := by rw [hg]; exact X.here
  have hlocals9 : W9 + (maxL + 11) + (headSpec ws rm).room.locals ≤ R.locals := hlocals
  have happ : (headSpec ws rm).appliesLoose y e.platform (U.calling g mk a) = true :=
    Spec.appliesLoose_calling (g := g) h hdg hn hkY hinitY
      (X.room_calling (g := g) (R' := (headSpec ws rm).room) hsize hmY hcY hframes (by rw [hlY]; omega) h4 h5) h1
  obtain ⟨mid, hmid⟩ := h.above
  have hfr : (U.setTop g).frames = (.java g :: mid) ++ below := by rw [State.frames_setTop' g h.top, hmid]; rfl
  obtain ⟨o, s₂, hsteps, -, hend, hq⟩ := Steps.callFree hM p X.admits X.cas X.clock (acts := []) hfr happ hPc trivial
  have hq' : vx_Q Qc XC mc ms free a (U.calling g mk a) o s₂ := hq
  rw [State.frames_setTop' g h.top] at hend
  obtain ⟨g₀, hg0⟩ := Option.isSome_iff_exists.mp h.top
  obtain ⟨r, hr⟩ := State.topJava?_eq_some.mp hg0
  have hr' : (({ U with heap := s₂.heap, slotsUsed := s₂.slotsUsed } : State).setVm s₂.vm).frames = .java g₀ :: r := hr
  rcases hq' with ⟨hqc, L, hfe, hL⟩ | ⟨q, rfl, E, ce, L, hx, hce, hcv, hcl, hW₂, hsm, hL⟩
  · obtain ⟨⟨v, rfl⟩, hW₂, e2, q2, q3, q4, q5, q6⟩ := id hfe
    have e3 : s₂ = ({ (U.calling g mk a).setFrames s₂.frames with heap := s₂.heap, slotsUsed := s₂.slotsUsed } : State).setVm s₂.vm := by
      have : s₂ = ({ s₂ with vm := (U.calling g mk a).vm } : State).setVm s₂.vm := rfl
      rw [e2] at this
      exact this
    obtain ⟨c₂, i₂, len₂, hc₂, hd₂, hf₂⟩ := hend
    have hW' : U.WarmedH s₂.vm := hW₂
    have hcc : c₂ = c := by
      have h1 : s₂.code? g.method = U.code? g.method := by
        rw [State.code?_eq, State.code?_eq, hW'.alike.method?]
      exact Option.some.inj (hc₂.symm.trans (h1.trans h.code))
    subst hcc
    have hlen : len₂ = len := by rw [hdg] at hd₂; cases hd₂; rfl
    subst hlen
    have hs₂ : s₂ = (({ U with heap := s₂.heap, slotsUsed := s₂.slotsUsed } : State).setVm s₂.vm).setTop { g with pc := g.pc + len₂, stack := v.toList ++ g.stack } := by
      refine e3.trans ?_
      rw [hf₂, State.calling_eq h.top, State.setFrames_setFrames, State.setTop_of_frames _ hr', hr]
      rfl
    have hsame : U.sameButNew ({ U with heap := s₂.heap, slotsUsed := s₂.slotsUsed } : State) L mc ms := by
      refine ⟨?_, q2, q3, q4, q5, q6⟩
      obtain ⟨t, ht, -⟩ := State.frames_cons hr
      show ({ U with heap := s₂.heap, slotsUsed := s₂.slotsUsed } : State) = { U.setFrames U.frames with heap := s₂.heap, slotsUsed := s₂.slotsUsed }
      rw [State.setFrames_self ht]
    subst hg
    refine Or.inl ⟨v, ⟨(({ U with heap := s₂.heap, slotsUsed := s₂.slotsUsed } : State).setVm s₂.vm), Ls ++ L, c0 + mc, s0 + ms⟩,
      ⟨X.admits, X.cas, X.clock, X.frames, X.room, X.hears, X.method, X.code, (X.here.setHeapUsed s₂.heap s₂.slotsUsed).setVm hW'.alike, X.tail, State.WarmedH.trans X.warmed hW', X.limits, X.bytes, X.same.trans (hsame.setVm s.vm)⟩,
      ⟨g, mk, s₂, L, rfl, rfl, hqc, rfl, hL, rfl, rfl⟩, ?_⟩
    show Steps p.tables e below _ ((({ U with heap := s₂.heap, slotsUsed := s₂.slotsUsed } : State).setVm s₂.vm).setTop { g with pc := g.pc + len₂, stack := v.toList ++ g.stack })
    rw [← hs₂]
    exact hsteps
  · obtain ⟨e2, q2, q3, q4, q5, q6⟩ := id hsm
    have e3 : s₂ = ({ (U.calling g mk a).setFrames s₂.frames with heap := s₂.heap, slotsUsed := s₂.slotsUsed } : State).setVm s₂.vm := by
      have : s₂ = ({ s₂ with vm := (U.calling g mk a).vm } : State).setVm s₂.vm := rfl
      rw [e2] at this
      exact this
    have hf₂ : s₂.frames = .throwing q :: .java g :: U.frames.tail := hend
    have hW' : U.WarmedH s₂.vm := hW₂
    have hs₂ : s₂ = ((({ U with heap := s₂.heap, slotsUsed := s₂.slotsUsed } : State).setVm s₂.vm).setTop g).pushFrame (.throwing q) := by
      refine e3.trans ?_
      rw [hf₂, State.calling_eq h.top, State.setFrames_setFrames, State.pushFrame, State.frames_setTop _ hr', State.setTop_of_frames _ hr', State.setFrames_setFrames, hr]
      rfl
    have hsame : U.sameButNew ({ U with heap := s₂.heap, slotsUsed := s₂.slotsUsed } : State) L mc ms := by
      refine ⟨?_, q2, q3, q4, q5, q6⟩
      obtain ⟨t, ht, -⟩ := State.frames_cons hr
      show ({ U with heap := s₂.heap, slotsUsed := s₂.slotsUsed } : State) = { U.setFrames U.frames with heap := s₂.heap, slotsUsed := s₂.slotsUsed }
      rw [State.setFrames_self ht]
    subst hg
    refine Or.inr ⟨q, ⟨(({ U with heap := s₂.heap, slotsUsed := s₂.slotsUsed } : State).setVm s₂.vm), Ls ++ L, c0 + mc, s0 + ms⟩,
      ⟨X.admits, X.cas, X.clock, X.frames, X.room, X.hears, X.method, X.code, (X.here.setHeapUsed s₂.heap s₂.slotsUsed).setVm hW'.alike, X.tail, State.WarmedH.trans X.warmed hW', X.limits, X.bytes, X.same.trans (hsame.setVm s.vm)⟩,
      ⟨g, mk, s₂, L, E, ce, rfl, rfl, hx, hce, hcv, hcl, rfl, hL, rfl, rfl⟩, ?_⟩
    show Steps p.tables e below _ (((({ U with heap := s₂.heap, slotsUsed := s₂.slotsUsed } : State).setVm s₂.vm).setTop g).pushFrame (.throwing q))
    rw [← hs₂]
    exact hsteps
end
variable {p : Program} {l : Launch} {e : Env} {R : Room} {s : State} {m : MethodId} {args : Array Value} {below : List Frame} {meth : Method} {c : Code} {T : State} {H : Heap} {locs : List Loc} {cells slots : Nat}
theorem vx_callVX (X : Stand p l e R s m args below meth c T locs cells slots) (hexec : p.tables.exec = Jvm.exec) {own C : String} {index : Nat} {y : MethodName} {bytes : ByteArray} {maxL : Nat} {ret : Option FieldType} {hh : List (Nat × Nat × Nat × Nat)}
    (hown : s.vm.findClass own = some m.cls) (hlink : (Cond.methodLink own index y).before args s = true) (hinst : (Cond.instanceMethod y).before args s = true) (hsel : (Cond.selects C y y).before args s = true)
    (hcode : (Cond.codeWith y bytes maxL ret hh).before args s = true) (hy : y.cls ≠ "java/lang/invoke/MethodHandle" ∧ y.cls ≠ "java/lang/invoke/VarHandle")
    {W9 : Nat} {Pre : Pt → Array Value → Prop} {Post : Pt → Array Value → Option Value → Pt → Prop} {PostX : Pt → Array Value → Addr → Pt → Prop} (hK : vx_Back l R p e below s args y 3 W9 Pre Post PostX)
    {b : Addr} {cellB : Cell} (hcell : T.heap[b]? = some cellB) (hobj : cellB.vm.isStatics = false) (hcls : s.vm.findClass C = some cellB.cls)
    {g : JFrame} (hg : g.method = m) (hsize : g.locals.size = c.maxLocals) {argsL rest : List Value} (hlen : ∀ sig, parseMethodDescriptor y.desc = some sig → argsL.length = sig.parameters.length)
    (hstack : g.stack = argsL.reverse ++ .ref b :: rest) (hW : 2 * g.monitorRoom + (rest.map fun v => v.category).sum ≤ W9) (hdg : decode c.code g.pc = .ok (.invokevirtual index, 3))
    (hpre : ∀ vm₁, s.WarmedH vm₁ → Pre ⟨T.setVm vm₁, locs, cells, slots⟩ (Value.ref b :: argsL).toArray) :
    (∃ (v : Option Value) (vm₁ : Vm) (B : Pt), s.WarmedH vm₁ ∧ Stand p l e R s m args below meth c B.U B.locs B.cells B.slots ∧ Post ⟨T.setVm vm₁, locs, cells, slots⟩ (Value.ref b :: argsL).toArray v B ∧
      ∀ target, Steps p.tables e below (B.U.setTop { g with pc := g.pc + 3, stack := v.toList ++ rest }) target → Steps p.tables e below (T.setTop g) target) ∨
    (∃ (q : Addr) (vm₁ : Vm) (B : Pt), s.WarmedH vm₁ ∧ Stand p l e R s m args below meth c B.U B.locs B.cells B.slots ∧ PostX ⟨T.setVm vm₁, locs, cells, slots⟩ (Value.ref b :: argsL).toArray q B ∧
      Steps p.tables e below (T.setTop g) ((B.U.setTop { g with stack := rest }).pushFrame (.throwing q))) := by
  obtain ⟨mk, methM, hnamed, hmethM, hstM, habM⟩ := Cond.instanceMethod_spec hinst
  obtain ⟨m8, methM', cM, hn8, hmethM', -, -, -, -, -, -, hsigM⟩ := Cond.codeWith_spec hcode
  cases Option.some.inj (hn8.symm.trans hnamed)
  cases hmethM.symm.trans hmethM'
  obtain ⟨c2, r2, m2, q1, q2, q3, q4, kP, hkP, hkPi⟩ := Cond.selects_spec hsel
  cases hcls.symm.trans q1
  cases (State.methodFound?_of_named hnamed hy).symm.trans q2
  cases hnamed.symm.trans q3
  have hselP : selectMethod e.platform s.vm cellB.cls mk = .method mk := by rw [Launch.admits_selectMethod X.admits]; exact q4
  obtain ⟨vm₁, X₁, hstep₁⟩ := X.invokevirtual hexec hown hlink hnamed hmethM hstM hkP hkPi hy (a := b) (cell := cellB) hcell
    (fun z h => by rw [h] at hobj; cases hobj) hselP hmethM habM hkP hkPi (g := g) hg (argsL := argsL) (rest := rest) (hlen _ hsigM) hstack hdg
  rcases hK m meth c ⟨T.setVm vm₁, locs, cells, slots⟩ { g with stack := rest } (.invokevirtual index) mk (Value.ref b :: argsL).toArray X₁ hg hsize hdg hW (X₁.named hnamed) (hpre vm₁ X₁.warmed) with ⟨v, B, X', hpost, hsteps⟩ | ⟨q, B, X', hpost, hsteps⟩
  · exact Or.inl ⟨v, vm₁, B, X₁.warmed, X', hpost, fun target h => hstep₁ _ fun acts => by rw [doInvoke_state]; exact hsteps.trans h⟩
  · exact Or.inr ⟨q, vm₁, B, X₁.warmed, X', hpost, hstep₁ _ fun acts => by rw [doInvoke_state]; exact hsteps⟩
theorem vx_callSX (X : Stand p l e R s m args below meth c T locs cells slots) (hexec : p.tables.exec = Jvm.exec) {own : String} {index : Nat} {y : MethodName} {bytes : ByteArray} {maxL : Nat} {ret : Option FieldType} {hh : List (Nat × Nat × Nat × Nat)}
    (hown : s.vm.findClass own = some m.cls) (hlink : (Cond.methodLink own index y).before args s = true) (hstat : (Cond.static y).before args s = true) (hinit : (Cond.initialized y.cls).before args s = true)
    (hcode : (Cond.codeWith y bytes maxL ret hh).before args s = true) (hy : y.cls ≠ "java/lang/invoke/MethodHandle" ∧ y.cls ≠ "java/lang/invoke/VarHandle")
    {W9 : Nat} {Pre : Pt → Array Value → Prop} {Post : Pt → Array Value → Option Value → Pt → Prop} {PostX : Pt → Array Value → Addr → Pt → Prop} (hK : vx_Back l R p e below s args y 3 W9 Pre Post PostX)
    {g : JFrame} (hg : g.method = m) (hsize : g.locals.size = c.maxLocals) {argsL rest : List Value} (hlen : ∀ sig, parseMethodDescriptor y.desc = some sig → argsL.length = sig.parameters.length)
    (hstack : g.stack = argsL.reverse ++ rest) (hW : 2 * g.monitorRoom + (rest.map fun v => v.category).sum ≤ W9) (hdg : decode c.code g.pc = .ok (.invokestatic index, 3))
    (hpre : ∀ vm₁, s.WarmedH vm₁ → Pre ⟨T.setVm vm₁, locs, cells, slots⟩ argsL.toArray) :
    (∃ (v : Option Value) (vm₁ : Vm) (B : Pt), s.WarmedH vm₁ ∧ Stand p l e R s m args below meth c B.U B.locs B.cells B.slots ∧ Post ⟨T.setVm vm₁, locs, cells, slots⟩ argsL.toArray v B ∧
      ∀ target, Steps p.tables e below (B.U.setTop { g with pc := g.pc + 3, stack := v.toList ++ rest }) target → Steps p.tables e below (T.setTop g) target) ∨
    (∃ (q : Addr) (vm₁ : Vm) (B : Pt), s.WarmedH vm₁ ∧ Stand p l e R s m args below meth c B.U B.locs B.cells B.slots ∧ PostX ⟨T.setVm vm₁, locs, cells, slots⟩ argsL.toArray q B ∧
      Steps p.tables e below (T.setTop g) ((B.U.setTop { g with stack := rest }).pushFrame (.throwing q))) := by
  obtain ⟨mk, methM, cM, hnamed, hmethM, -, -, -, -, -, -, hsigM⟩ := Cond.codeWith_spec hcode
  have hstatic : methM.isStatic = true := Cond.static_spec hnamed hmethM hstat
  obtain ⟨kP, hkP, -⟩ := className_of_methodNamed hnamed
  have hinitP : kP.init = .initialized := Cond.initialized_spec (findClass_of_methodNamed hnamed) hkP hinit
  obtain ⟨vm₁, X₁, hstep₁⟩ := X.invokestatic hexec hown hlink hnamed hmethM hstatic hkP hinitP hy (g := g) hg (argsL := argsL) (rest := rest) (hlen _ hsigM) hstack hdg
  rcases hK m meth c ⟨T.setVm vm₁, locs, cells, slots⟩ { g with stack := rest } (.invokestatic index) mk argsL.toArray X₁ hg hsize hdg hW (X₁.named hnamed) (hpre vm₁ X₁.warmed) with ⟨v, B, X', hpost, hsteps⟩ | ⟨q, B, X', hpost, hsteps⟩
  · exact Or.inl ⟨v, vm₁, B, X₁.warmed, X', hpost, fun target h => hstep₁ _ fun acts => by rw [doInvoke_state]; exact hsteps.trans h⟩
  · exact Or.inr ⟨q, vm₁, B, X₁.warmed, X', hpost, hstep₁ _ fun acts => by rw [doInvoke_state]; exact hsteps⟩
theorem vx_callVW (X : Stand p l e R s m args below meth c T locs cells slots) (hexec : p.tables.exec = Jvm.exec) {own C : String} {index : Nat} {y : MethodName} {bytes : ByteArray} {maxL : Nat} {ret : Option FieldType} {hh : List (Nat × Nat × Nat × Nat)}
    (hown : s.vm.findClass own = some m.cls) (hlink : (Cond.methodLink own index y).before args s = true) (hinst : (Cond.instanceMethod y).before args s = true) (hsel : (Cond.selects C y y).before args s = true)
    (hcode : (Cond.codeWith y bytes maxL ret hh).before args s = true) (hy : y.cls ≠ "java/lang/invoke/MethodHandle" ∧ y.cls ≠ "java/lang/invoke/VarHandle")
    {W9 : Nat} {Pre : Pt → Array Value → Prop} {Post : Pt → Array Value → Option Value → Pt → Prop} (hK : Back l R p e below s args y 3 W9 Pre Post)
    {b : Addr} {cellB : Cell} (hcell : T.heap[b]? = some cellB) (hobj : cellB.vm.isStatics = false) (hcls : s.vm.findClass C = some cellB.cls)
    {g : JFrame} (hg : g.method = m) (hsize : g.locals.size = c.maxLocals) {argsL rest : List Value} (hlen : ∀ sig, parseMethodDescriptor y.desc = some sig → argsL.length = sig.parameters.length)
    (hstack : g.stack = argsL.reverse ++ .ref b :: rest) (hW : 2 * g.monitorRoom + (rest.map fun v => v.category).sum ≤ W9) (hdg : decode c.code g.pc = .ok (.invokevirtual index, 3))
    (hpre : ∀ vm₁, s.WarmedH vm₁ → Pre ⟨T.setVm vm₁, locs, cells, slots⟩ (Value.ref b :: argsL).toArray) :
    ∃ (v : Option Value) (vm₁ : Vm) (B : Pt), s.WarmedH vm₁ ∧ Stand p l e R s m args below meth c B.U B.locs B.cells B.slots ∧ Post ⟨T.setVm vm₁, locs, cells, slots⟩ (Value.ref b :: argsL).toArray v B ∧
      ∀ target, Steps p.tables e below (B.U.setTop { g with pc := g.pc + 3, stack := v.toList ++ rest }) target → Steps p.tables e below (T.setTop g) target := by
  obtain ⟨mk, methM, hnamed, hmethM, hstM, habM⟩ := Cond.instanceMethod_spec hinst
  obtain ⟨m8, methM', cM, hn8, hmethM', -, -, -, -, -, -, hsigM⟩ := Cond.codeWith_spec hcode
  cases Option.some.inj (hn8.symm.trans hnamed)
  cases hmethM.symm.trans hmethM'
  obtain ⟨c2, r2, m2, q1, q2, q3, q4, kP, hkP, hkPi⟩ := Cond.selects_spec hsel
  cases hcls.symm.trans q1
  cases (State.methodFound?_of_named hnamed hy).symm.trans q2
  cases hnamed.symm.trans q3
  have hselP : selectMethod e.platform s.vm cellB.cls mk = .method mk := by rw [Launch.admits_selectMethod X.admits]; exact q4
  obtain ⟨vm₁, X₁, hstep₁⟩ := X.invokevirtual hexec hown hlink hnamed hmethM hstM hkP hkPi hy (a := b) (cell := cellB) hcell
    (fun z h => by rw [h] at hobj; cases hobj) hselP hmethM habM hkP hkPi (g := g) hg (argsL := argsL) (rest := rest) (hlen _ hsigM) hstack hdg
  obtain ⟨v, B, X', hpost, hsteps⟩ := hK m meth c ⟨T.setVm vm₁, locs, cells, slots⟩ { g with stack := rest } (.invokevirtual index) mk (Value.ref b :: argsL).toArray X₁ hg hsize hdg hW (X₁.named hnamed) (hpre vm₁ X₁.warmed)
  exact ⟨v, vm₁, B, X₁.warmed, X', hpost, fun target h => hstep₁ _ fun acts => by rw [doInvoke_state]; exact hsteps.trans h⟩
abbrev vx_CVW (R : Room) (s : State) (args : Array Value) (own C : String) (index : Nat) (y : MethodName) (bytes : ByteArray) (maxL : Nat) (ret : Option FieldType) (hh : List (Nat × Nat × Nat × Nat)) (ws : List Cond) (rm : Room) (mc ms n : Nat) : Prop :=
  (rm.cells = mc ∧ rm.slots = ms ∧ rm.frames + 1 ≤ R.frames ∧ 8 + (maxL + 11) + rm.locals ≤ R.locals ∧ (∀ w ∈ ws, ∀ (a' : Array Value) (U : State), s.WarmedH U.vm → w.before a' U = true) ∧ Cond.codeWith y bytes maxL ret hh ∈ ws) ∧
  (Cond.codeWith y bytes maxL ret hh).before args s = true ∧ (Cond.initialized y.cls).before args s = true ∧ (y.cls ≠ "java/lang/invoke/MethodHandle" ∧ y.cls ≠ "java/lang/invoke/VarHandle") ∧
  (∀ sig, parseMethodDescriptor y.desc = some sig → n = sig.parameters.length) ∧ (Cond.methodLink own index y).before args s = true ∧ (Cond.instanceMethod y).before args s = true ∧ (Cond.selects C y y).before args s = true
theorem vx_cwVW {own C : String} {index maxL mc ms : Nat} {y : MethodName} {bytes : ByteArray} {ret : Option FieldType} {hh : List (Nat × Nat × Nat × Nat)} {Ts ws ws' : List Cond} {rm : Room} (n : Nat) (ht : ∀ w ∈ Ts, w.before args s = true) (hT : GoodIn Ts (wsV own index C y ws)) (hw : ws = Cond.codeWith y bytes maxL ret hh :: ws') (hrc : rm.cells = mc) (hrs : rm.slots = ms)
    (hd : y.cls = C ∧ y.cls ≠ "java/lang/invoke/MethodHandle" ∧ y.cls ≠ "java/lang/invoke/VarHandle" ∧ (parseMethodDescriptor y.desc).map (fun d => d.parameters.length) = some n) (hR : rm.frames + 1 ≤ R.frames ∧ 8 + (maxL + 11) + rm.locals ≤ R.locals) :
    vx_CVW R s args own C index y bytes maxL ret hh ws rm mc ms n := by
  obtain ⟨hC, hd⟩ := hd
  subst hC
  have ok : ∀ w ∈ wsV own index y.cls y ws, w.before args s = true := fun w h => ht w (hT w h).1
  have hG : GoodIn Ts ws := fun w h => hT w (by unfold wsV; exact List.mem_append_right _ h)
  have hc : Cond.codeWith y bytes maxL ret hh ∈ ws := by rw [hw]; exact List.mem_cons_self
  refine ⟨⟨hrc, hrs, hR.1, hR.2, pay_in ht hG, hc⟩, ht _ (hG _ hc).1, ok _ (by simp [wsV]), ⟨hd.1, hd.2.1⟩, fun sig h => ?_, ok _ (by simp [wsV]), ok _ (by simp [wsV]), ok _ (by simp [wsV])⟩
  have h2 := hd.2.2
  rw [h] at h2
  exact (Option.some.inj h2).symm
theorem vx_runVW {y : MethodName} {bytes cc : ByteArray} {maxL nL mc ms n index : Nat} {ret : Option FieldType} {hh : List (Nat × Nat × Nat × Nat)} {ws : List Cond} {rm : Room} {Pc : Array Value → State → Prop} {Qc : Array Value → State → Outcome → State → Prop} {free : Addr → Prop} {Ts : List Cond} {own C : String} {b : Addr} {As rest : List Value} {g : JFrame}
    (S : CallFix p m c cc nL s args Ts own) (hM : Met l y ws rm Pc Qc mc ms free) (cw : vx_CVW R s args own C index y bytes maxL ret hh ws rm mc ms n) (hp : PreV s H C b Pc As)
    (hg : g.method = m) (hn : As.length = n) (hsize : g.locals.size = nL) (hstack : g.stack = As.reverse ++ .ref b :: rest) (hW : 2 * g.monitorRoom + (rest.map fun v => v.category).sum ≤ 8) (hdg : decode cc g.pc = .ok (.invokevirtual index, 3)) (hf : cells + mc ≤ R.cells ∧ slots + ms ≤ R.slots) :
    va_Run p l e R s m args below meth c H locs cells slots mc ms g rest (Qc (Value.ref b :: As).toArray) free := by
  obtain ⟨⟨hrc, hrs, hfr, hlo, hws, hcw⟩, hcode, hini, hy, hlen, hl, hin, hse⟩ := cw
  have hK : Back l R p e below s args y 3 8 (PreOf R mc ms Pc) (PostOf Qc mc ms free) := va_backW (hh := hh) (bytes := bytes) (maxL := maxL) (ret := ret) hM hp.1 hrc hrs hfr hlo hws hcw (fun a' U hW => word_at hW (Or.inl (by first | rfl | simp [Cond.onTables, Cond.keeps, Cond.steady])) hini)
  obtain ⟨hx, hb, hml, ho, -⟩ := S
  obtain ⟨-, ⟨cellB, hcB, hoB, hclB⟩, hPc⟩ := hp
  intro T hT X
  obtain ⟨v, vm₁, ⟨U', l2, c2, s2⟩, hW₁, X', ⟨g', mk, t, L, e1, e2, hq, h1, hL, h2, h3⟩, st⟩ := vx_callVW X hx (C := C) (hh := hh) (bytes := bytes) (maxL := maxL) (ret := ret) ho hl hin hse hcode hy hK (by rw [hT]; exact hcB) hoB hclB hg (hsize.trans hml.symm) (argsL := As) (rest := rest) (fun sig h => hn.trans (hlen sig h)) hstack hW (by rw [hb]; exact hdg)
    (fun vm₁ hW₁ => ⟨hf.1, hf.2, hPc (T.setVm vm₁) hT hW₁⟩)
  dsimp only [Pt.U, Pt.locs, Pt.cells, Pt.slots] at X' e1 e2 h1 h2 h3 st
  subst h1; subst h2; subst h3
  exact ⟨v, (T.setVm vm₁).calling g' mk (Value.ref b :: As).toArray, t, U', L, hT, X', hL, e1, e2, hq, st⟩
section
variable {y : MethodName} {bytes cc : ByteArray} {maxL nL mc ms n index : Nat} {ret : Option FieldType} {ws : List Cond} {rm : Room} {Pc : Array Value → State → Prop} {Qc : Array Value → State → Outcome → State → Prop} {XC : String → State → State → Prop} {free : Addr → Prop} {Ts : List Cond} {own C : String} {b : Addr} {As rest : List Value} {g : JFrame}
theorem vx_runVX {hh : List (Nat × Nat × Nat × Nat)} (S : CallFix p m c cc nL s args Ts own) (hM : vx_Met l y ws rm Pc Qc XC mc ms free) (cw : vx_CVW R s args own C index y bytes maxL ret hh ws rm mc ms n) (hp : PreV s H C b Pc As)
    (hg : g.method = m) (hn : As.length = n) (hsize : g.locals.size = nL) (hstack : g.stack = As.reverse ++ .ref b :: rest) (hW : 2 * g.monitorRoom + (rest.map fun v => v.category).sum ≤ 8) (hdg : decode cc g.pc = .ok (.invokevirtual index, 3)) (hf : cells + mc ≤ R.cells ∧ slots + ms ≤ R.slots) :
    vx_Run p l e R s m args below meth c H locs cells slots mc ms g rest (Qc (Value.ref b :: As).toArray) XC free := by
  obtain ⟨⟨hrc, hrs, hfr, hlo, hws, hcw⟩, hcode, hini, hy, hlen, hl, hin, hse⟩ := cw
  have hK : vx_Back l R p e below s args y 3 8 (PreOf R mc ms Pc) (PostOf Qc mc ms free) (vx_Post XC mc ms free) := vx_backW (hh := hh) (bytes := bytes) (maxL := maxL) (ret := ret) hM hp.1 hrc hrs hfr hlo hws hcw (fun a' U hW => word_at hW (Or.inl (by first | rfl | simp [Cond.onTables, Cond.keeps, Cond.steady])) hini)
  obtain ⟨hx, hb, hml, ho, -⟩ := S
  obtain ⟨-, ⟨cellB, hcB, hoB, hclB⟩, hPc⟩ := hp
  intro T hT X
  rcases vx_callVX X hx (C := C) (hh := hh) (bytes := bytes) (maxL := maxL) (ret := ret) ho hl hin hse hcode hy hK (by rw [hT]; exact hcB) hoB hclB hg (hsize.trans hml.symm) (argsL := As) (rest := rest) (fun sig h => hn.trans (hlen sig h)) hstack hW (by rw [hb]; exact hdg)
    (fun vm₁ hW₁ => ⟨hf.1, hf.2, hPc (T.setVm vm₁) hT hW₁⟩) with ⟨v, vm₁, ⟨U', l2, c2, s2⟩, hW₁, X', ⟨g', mk, t, L, e1, e2, hq, h1, hL, h2, h3⟩, st⟩ | ⟨q, vm₁, ⟨U', l2, c2, s2⟩, hW₁, X', ⟨g', mk, t, L, E, ce, e1, e2, hq, hce, hcv, hcl, h1, hL, h2, h3⟩, st⟩
  · dsimp only [Pt.U, Pt.locs, Pt.cells, Pt.slots] at X' e1 e2 h1 h2 h3 st
    subst h1; subst h2; subst h3
    exact Or.inl ⟨v, (T.setVm vm₁).calling g' mk (Value.ref b :: As).toArray, t, U', L, hT, X', hL, e1, e2, hq, st⟩
  · dsimp only [Pt.U, Pt.locs, Pt.cells, Pt.slots] at X' e1 e2 h1 h2 h3 st hcl
    subst h1; subst h2; subst h3
    exact Or.inr ⟨q, (T.setVm vm₁).calling g' mk (Value.ref b :: As).toArray, t, U', L, E, ce, hT, X', hL, e1, e2, hq, hce, hcv, vx_cls hW₁ hcl, st⟩
theorem vx_runSX {hh : List (Nat × Nat × Nat × Nat)} (S : CallFix p m c cc nL s args Ts own) (hM : vx_Met l y ws rm Pc Qc XC mc ms free) (cw : vx_CSW R s args own index y bytes maxL ret hh ws rm mc ms n) (hp : PreS s H Pc As)
    (hg : g.method = m) (hn : As.length = n) (hsize : g.locals.size = nL) (hstack : g.stack = As.reverse ++ rest) (hW : 2 * g.monitorRoom + (rest.map fun v => v.category).sum ≤ 8) (hdg : decode cc g.pc = .ok (.invokestatic index, 3)) (hf : cells + mc ≤ R.cells ∧ slots + ms ≤ R.slots) :
    vx_Run p l e R s m args below meth c H locs cells slots mc ms g rest (Qc As.toArray) XC free := by
  obtain ⟨⟨hrc, hrs, hfr, hlo, hws, hcw⟩, hcode, hini, hy, hlen, hl, hstt⟩ := cw
  have hK : vx_Back l R p e below s args y 3 8 (PreOf R mc ms Pc) (PostOf Qc mc ms free) (vx_Post XC mc ms free) := vx_backW (hh := hh) (bytes := bytes) (maxL := maxL) (ret := ret) hM hp.1 hrc hrs hfr hlo hws hcw (fun a' U hW => word_at hW (Or.inl (by first | rfl | simp [Cond.onTables, Cond.keeps, Cond.steady])) hini)
  obtain ⟨hx, hb, hml, ho, -⟩ := S
  intro T hT X
  rcases vx_callSX X hx (hh := hh) (bytes := bytes) (maxL := maxL) (ret := ret) ho hl hstt hini hcode hy hK hg (hsize.trans hml.symm) (argsL := As) (rest := rest) (fun sig h => hn.trans (hlen sig h)) hstack hW (by rw [hb]; exact hdg)
    (fun vm₁ hW₁ => ⟨hf.1, hf.2, hp.2 (T.setVm vm₁) hT hW₁⟩) with ⟨v, vm₁, ⟨U', l2, c2, s2⟩, hW₁, X', ⟨g', mk, t, L, e1, e2, hq, h1, hL, h2, h3⟩, st⟩ | ⟨q, vm₁, ⟨U', l2, c2, s2⟩, hW₁, X', ⟨g', mk, t, L, E, ce, e1, e2, hq, hce, hcv, hcl, h1, hL, h2, h3⟩, st⟩
  · dsimp only [Pt.U, Pt.locs, Pt.cells, Pt.slots] at X' e1 e2 h1 h2 h3 st
    subst h1; subst h2; subst h3
    exact Or.inl ⟨v, (T.setVm vm₁).calling g' mk As.toArray, t, U', L, hT, X', hL, e1, e2, hq, st⟩
  · dsimp only [Pt.U, Pt.locs, Pt.cells, Pt.slots] at X' e1 e2 h1 h2 h3 st hcl
    subst h1; subst h2; subst h3
    exact Or.inr ⟨q, (T.setVm vm₁).calling g' mk As.toArray, t, U', L, E, ce, hT, X', hL, e1, e2, hq, hce, hcv, vx_cls hW₁ hcl, st⟩
end
end VXH
theorem vx_ofWH {l : Launch} {y : MethodName} {ws ws' : List Cond} {rm : Room} {Pc : Array Value → State → Prop} {Qc : Array Value → State → Outcome → State → Prop} {XC : String → State → State → Prop} {mc ms : Nat} {free : Addr → Prop} {cc : ByteArray} {maxL : Nat} {ret : Option FieldType} {hh : List (Nat × Nat × Nat × Nat)}
    (hy : plainName y.cls = true) (hw : ws = Cond.codeWith y cc maxL ret hh :: ws')
    (body : ∀ p e s m args below meth c s₁, BodyLoose p l y (headSpec ws rm) cc maxL ret e s m args below meth c s₁ → c.maxLocals = maxL → Pc args s →
      W p l e (headSpec ws rm).room s m args below meth c s.heap [] 0 0 (vx_MQ below Qc XC args s mc ms free) (entryFrame m args maxL)) : vx_Met l y ws rm Pc Qc XC mc ms free := by
  refine MetFree.of_bodyS (code := cc) (maxLocals := maxL) (ret := ret) hy ?_ ?_
  · intro args s m h hn
    obtain ⟨m9, meth, c, hn9, h1, h2, h3, h4, -, h5, h6, -⟩ := Cond.codeWith_spec (atoms_spec (ws := ws) h _ (by rw [hw]; exact List.mem_cons_self))
    cases hn.symm.trans hn9
    exact ⟨meth, c, h1, h2, h3, h4, h5, h6⟩
  · intro p e s m args below meth c s₁ B hml hP _
    have hh0 : s₁.heap = s.heap := by rw [B.state]; rfl
    obtain ⟨t, a1, o, b1, b2, b3⟩ := body p e s m args below meth c s₁ B hml hP s₁ hh0 (Stand.of_body B)
    exact ⟨t, o, a1, b1, b2, b3⟩
/-! ===== END ===== -/
end
section
/-! ===== BEGIN printed: names, fields, word lists, decode rows ===== -/
def RX0 : String := "RankMesh"
def TX0 : u_T := fun k => match k with
  | 0 => ("RankMesh", "hysteresis", "I", false)
  | 1 => ("RankMesh", "increase", "I", false)
  | 2 => ("RankMesh", "leastInterval", "I", false)
  | 3 => ("RankMesh", "doublings", "I", false)
  | 4 => ("RankMesh", "now", "I", false)
  | 5 => ("RankMesh", "droppedPackets", "I", false)
  | 6 => ("RankMesh", "costOf", "[[I", true)
  | 7 => ("RankMesh", "heardTree", "[[I", true)
  | 8 => ("RankMesh", "heardVersion", "[[I", true)
  | 9 => ("RankMesh", "heardRank", "[[I", true)
  | 10 => ("RankMesh", "isRoot", "[Z", true)
  | 11 => ("RankMesh", "lastRootVersion", "[I", true)
  | 12 => ("RankMesh", "treeOf", "[I", true)
  | 13 => ("RankMesh", "versionOf", "[I", true)
  | 14 => ("RankMesh", "rankOf", "[I", true)
  | 15 => ("RankMesh", "lowestRank", "[I", true)
  | 16 => ("RankMesh", "parentOf", "[I", true)
  | 17 => ("RankMesh", "interval", "[I", true)
  | 18 => ("RankMesh", "tellsAt", "[I", true)
  | _ => ("RankMesh", "wayCost", "[I", true)
def tyX0 : Nat → FieldType := fun k => match k with
  | 0 => .int
  | 1 => .int
  | 2 => .int
  | 3 => .int
  | 4 => .int
  | 5 => .int
  | 6 => .array (.array .int)
  | 7 => .array (.array .int)
  | 8 => .array (.array .int)
  | 9 => .array (.array .int)
  | 10 => .array .boolean
  | 11 => .array .int
  | 12 => .array .int
  | 13 => .array .int
  | 14 => .array .int
  | 15 => .array .int
  | 16 => .array .int
  | 17 => .array .int
  | 18 => .array .int
  | _ => .array .int
abbrev wsX00 : List Cond := u_ws RX0 TX0 20
theorem nmX0 : ∀ a, a < 20 → ∀ b, b < 20 → a ≠ b → (TX0 a).2.1 ≠ (TX0 b).2.1 := by decide +kernel
theorem tyX0_ok : ∀ k, k < 20 → parseFieldDescriptor (TX0 k).2.2.1 = some (tyX0 k) := by decide +kernel
abbrev cX0_init : ByteArray := prog_1_method_1_code
def yX0_init : MethodName := ⟨RX0, "<init>", "()V"⟩
abbrev cX0_setRules : ByteArray := prog_1_method_2_code
def yX0_setRules : MethodName := ⟨RX0, "setRules", "(IIII)V"⟩
abbrev cX0_link : ByteArray := prog_1_method_3_code
def yX0_link : MethodName := ⟨RX0, "link", "(III)I"⟩
abbrev cX0_makeRoot : ByteArray := prog_1_method_4_code
def yX0_makeRoot : MethodName := ⟨RX0, "makeRoot", "(I)I"⟩
abbrev cX0_endRoot : ByteArray := prog_1_method_5_code
def yX0_endRoot : MethodName := ⟨RX0, "endRoot", "(I)V"⟩
abbrev cX0_renew : ByteArray := prog_1_method_6_code
def yX0_renew : MethodName := ⟨RX0, "renew", "(I)I"⟩
abbrev cX0_pass : ByteArray := prog_1_method_7_code
def yX0_pass : MethodName := ⟨RX0, "pass", "(I)I"⟩
abbrev cX0_time : ByteArray := prog_1_method_8_code
def yX0_time : MethodName := ⟨RX0, "time", "()I"⟩
abbrev cX0_rank : ByteArray := prog_1_method_9_code
def yX0_rank : MethodName := ⟨RX0, "rank", "(I)I"⟩
abbrev cX0_parent : ByteArray := prog_1_method_10_code
def yX0_parent : MethodName := ⟨RX0, "parent", "(I)I"⟩
abbrev cX0_tree : ByteArray := prog_1_method_11_code
def yX0_tree : MethodName := ⟨RX0, "tree", "(I)I"⟩
abbrev cX0_nextTelling : ByteArray := prog_1_method_12_code
def yX0_nextTelling : MethodName := ⟨RX0, "nextTelling", "(I)I"⟩
abbrev cX0_heard : ByteArray := prog_1_method_13_code
def yX0_heard : MethodName := ⟨RX0, "heard", "(II)I"⟩
abbrev cX0_leastRank : ByteArray := prog_1_method_14_code
def yX0_leastRank : MethodName := ⟨RX0, "leastRank", "(I)I"⟩
abbrev cX0_up : ByteArray := prog_1_method_15_code
def yX0_up : MethodName := ⟨RX0, "up", "(I)I"⟩
abbrev cX0_loops : ByteArray := prog_1_method_16_code
def yX0_loops : MethodName := ⟨RX0, "loops", "()I"⟩
abbrev cX0_below : ByteArray := prog_1_method_17_code
def yX0_below : MethodName := ⟨RX0, "below", "(I)I"⟩
abbrev cX0_down : ByteArray := prog_1_method_18_code
def yX0_down : MethodName := ⟨RX0, "down", "(II)I"⟩
abbrev cX0_isNode : ByteArray := prog_1_method_19_code
def yX0_isNode : MethodName := ⟨RX0, "isNode", "(I)Z"⟩
abbrev cX0_requireNode : ByteArray := prog_1_method_20_code
def yX0_requireNode : MethodName := ⟨RX0, "requireNode", "(I)V"⟩
abbrev cX0_requireRoot : ByteArray := prog_1_method_21_code
def yX0_requireRoot : MethodName := ⟨RX0, "requireRoot", "(I)V"⟩
abbrev cX0_requireRange : ByteArray := prog_1_method_22_code
def yX0_requireRange : MethodName := ⟨RX0, "requireRange", "(III)V"⟩
abbrev cX0_clearNode : ByteArray := prog_1_method_23_code
def yX0_clearNode : MethodName := ⟨RX0, "clearNode", "(I)V"⟩
abbrev cX0_beginVersion : ByteArray := prog_1_method_24_code
def yX0_beginVersion : MethodName := ⟨RX0, "beginVersion", "(I)I"⟩
abbrev cX0_forget : ByteArray := prog_1_method_25_code
def yX0_forget : MethodName := ⟨RX0, "forget", "(II)V"⟩
abbrev cX0_resetTimer : ByteArray := prog_1_method_26_code
def yX0_resetTimer : MethodName := ⟨RX0, "resetTimer", "(I)V"⟩
abbrev cX0_lengthenTimer : ByteArray := prog_1_method_27_code
def yX0_lengthenTimer : MethodName := ⟨RX0, "lengthenTimer", "(I)V"⟩
abbrev cX0_passTick : ByteArray := prog_1_method_28_code
def yX0_passTick : MethodName := ⟨RX0, "passTick", "()I"⟩
abbrev cX0_tell : ByteArray := prog_1_method_29_code
def yX0_tell : MethodName := ⟨RX0, "tell", "(I)V"⟩
abbrev cX0_lowerWayCosts : ByteArray := prog_1_method_30_code
def yX0_lowerWayCosts : MethodName := ⟨RX0, "lowerWayCosts", "()V"⟩
abbrev cX0_childrenOf : ByteArray := prog_1_method_31_code
def yX0_childrenOf : MethodName := ⟨RX0, "childrenOf", "(I)I"⟩
abbrev cX0_choose : ByteArray := prog_1_method_32_code
def yX0_choose : MethodName := ⟨RX0, "choose", "(I)V"⟩
abbrev cX0_keepsParent : ByteArray := prog_1_method_33_code
def yX0_keepsParent : MethodName := ⟨RX0, "keepsParent", "(II)Z"⟩
abbrev cX0_bestCandidate : ByteArray := prog_1_method_34_code
def yX0_bestCandidate : MethodName := ⟨RX0, "bestCandidate", "(I)I"⟩
abbrev cX0_isCandidate : ByteArray := prog_1_method_35_code
def yX0_isCandidate : MethodName := ⟨RX0, "isCandidate", "(II)Z"⟩
abbrev cX0_rankBy : ByteArray := prog_1_method_36_code
def yX0_rankBy : MethodName := ⟨RX0, "rankBy", "(II)I"⟩
abbrev cX0_isOutdated : ByteArray := prog_1_method_37_code
def yX0_isOutdated : MethodName := ⟨RX0, "isOutdated", "(II)Z"⟩
abbrev cX0_isTooDeep : ByteArray := prog_1_method_38_code
def yX0_isTooDeep : MethodName := ⟨RX0, "isTooDeep", "(II)Z"⟩
abbrev cX0_heardOwnVersion : ByteArray := prog_1_method_39_code
def yX0_heardOwnVersion : MethodName := ⟨RX0, "heardOwnVersion", "(II)Z"⟩
abbrev cX0_follow : ByteArray := prog_1_method_40_code
def yX0_follow : MethodName := ⟨RX0, "follow", "(II)V"⟩
abbrev cX0_loseParent : ByteArray := prog_1_method_41_code
def yX0_loseParent : MethodName := ⟨RX0, "loseParent", "(I)V"⟩
def RX1 : String := "RankMeshModel"
def TX1 : u_T := fun k => match k with
  | _ => ("", "", "", false)
def tyX1 : Nat → FieldType := fun k => match k with
  | _ => .int
abbrev wsX10 : List Cond := u_ws RX1 TX1 0
theorem nmX1 : ∀ a, a < 0 → ∀ b, b < 0 → a ≠ b → (TX1 a).2.1 ≠ (TX1 b).2.1 := by decide +kernel
theorem tyX1_ok : ∀ k, k < 0 → parseFieldDescriptor (TX1 k).2.2.1 = some (tyX1 k) := by decide +kernel
def RJ9 : String := "java/lang/Math"
def TJ9 : u_T := fun k => match k with
  | _ => ("", "", "", false)
def tyJ9 : Nat → FieldType := fun k => match k with
  | _ => .int
abbrev wsJ90 : List Cond := u_ws RJ9 TJ9 0
theorem nmJ9 : ∀ a, a < 0 → ∀ b, b < 0 → a ≠ b → (TJ9 a).2.1 ≠ (TJ9 b).2.1 := by decide +kernel
theorem tyJ9_ok : ∀ k, k < 0 → parseFieldDescriptor (TJ9 k).2.2.1 = some (tyJ9 k) := by decide +kernel
abbrev cJ9_min_7cf53 : ByteArray := prog_8_method_69_code
def yJ9_min_7cf53 : MethodName := ⟨RJ9, "min", "(II)I"⟩
def RJ0 : String := "java/lang/String"
def TJ0 : u_T := fun k => match k with
  | _ => ("", "", "", false)
def tyJ0 : Nat → FieldType := fun k => match k with
  | _ => .int
abbrev wsJ00 : List Cond := u_ws RJ0 TJ0 0
theorem nmJ0 : ∀ a, a < 0 → ∀ b, b < 0 → a ≠ b → (TJ0 a).2.1 ≠ (TJ0 b).2.1 := by decide +kernel
theorem tyJ0_ok : ∀ k, k < 0 → parseFieldDescriptor (TJ0 k).2.2.1 = some (tyJ0 k) := by decide +kernel
def RL : String := "RankMeshLaw"
abbrev cL_part : ByteArray := method_2_code
def yL_part : MethodName := ⟨RL, "part", "([III)I"⟩
abbrev cL_told : ByteArray := method_3_code
def yL_told : MethodName := ⟨RL, "told", "(LRankMesh;IIIII)I"⟩
abbrev cL_does : ByteArray := method_4_code
def yL_does : MethodName := ⟨RL, "does", "(LRankMesh;IIIII)I"⟩
abbrev cL_asks : ByteArray := method_5_code
def yL_asks : MethodName := ⟨RL, "asks", "(LRankMesh;III)I"⟩
abbrev cL_cost : ByteArray := method_6_code
def yL_cost : MethodName := ⟨RL, "cost", "([III)I"⟩
abbrev cL_isNode : ByteArray := method_7_code
def yL_isNode : MethodName := ⟨RL, "isNode", "(LRankMesh;[I[I[II)Z"⟩
abbrev cL_isLeast : ByteArray := method_8_code
def yL_isLeast : MethodName := ⟨RL, "isLeast", "(LRankMesh;[I[I)Z"⟩
abbrev cL_isPacket : ByteArray := method_9_code
def yL_isPacket : MethodName := ⟨RL, "isPacket", "(LRankMesh;[I[II)Z"⟩
abbrev cL_isBelow : ByteArray := method_10_code
def yL_isBelow : MethodName := ⟨RL, "isBelow", "(LRankMesh;II)Z"⟩
abbrev cL_isSo : ByteArray := method_11_code
def yL_isSo : MethodName := ⟨RL, "isSo", "(LRankMesh;[I[I[III)Z"⟩
abbrev cL_isLink : ByteArray := method_12_code
def yL_isLink : MethodName := ⟨RL, "isLink", "(LRankMesh;[IIII)Z"⟩
abbrev cL_isRoot : ByteArray := method_13_code
def yL_isRoot : MethodName := ⟨RL, "isRoot", "(LRankMesh;[I[III)Z"⟩
abbrev cL_isTick : ByteArray := method_14_code
def yL_isTick : MethodName := ⟨RL, "isTick", "(LRankMesh;[I[I)Z"⟩
abbrev cL_isDone : ByteArray := method_15_code
def yL_isDone : MethodName := ⟨RL, "isDone", "(LRankMesh;[II[I[I[I)Z"⟩
abbrev cL_law : ByteArray := code
def yL_law : MethodName := ⟨RL, "law", "([I)Z"⟩
def wsX0_clearNode : List Cond := .code yX0_clearNode cX0_clearNode 2 none :: ([.fieldLink RX0 50 "RankMesh" "treeOf" "[I", .fieldLink RX0 53 "RankMesh" "versionOf" "[I", .fieldLink RX0 56 "RankMesh" "rankOf" "[I", .fieldLink RX0 59 "RankMesh" "lowestRank" "[I", .fieldLink RX0 62 "RankMesh" "parentOf" "[I"] ++ wsX00)
def wsX0_resetTimer : List Cond := .code yX0_resetTimer cX0_resetTimer 2 none :: ([.fieldLink RX0 65 "RankMesh" "interval" "[I", .fieldLink RX0 16 "RankMesh" "leastInterval" "I", .fieldLink RX0 68 "RankMesh" "tellsAt" "[I", .fieldLink RX0 22 "RankMesh" "now" "I"] ++ wsX00)
def wsX0_forget : List Cond := .code yX0_forget cX0_forget 3 none :: ([.fieldLink RX0 33 "RankMesh" "heardTree" "[[I", .fieldLink RX0 36 "RankMesh" "heardVersion" "[[I", .fieldLink RX0 39 "RankMesh" "heardRank" "[[I"] ++ wsX00)
def wsX0_init_r1 : List Cond := [Cond.methodLink RX0 3 objectInit, Cond.instanceMethod objectInit, Cond.code objectInit ⟨#[0xb1]⟩ 1 none, Cond.fieldLink RX0 9 "RankMesh" "hysteresis" "I", Cond.fieldLink RX0 13 "RankMesh" "increase" "I", Cond.fieldLink RX0 16 "RankMesh" "leastInterval" "I", Cond.fieldLink RX0 19 "RankMesh" "doublings" "I", Cond.fieldLink RX0 22 "RankMesh" "now" "I", Cond.fieldLink RX0 25 "RankMesh" "droppedPackets" "I", Cond.classLink RX0 28 "[[I", Cond.arrayClass .int, Cond.fieldLink RX0 30 "RankMesh" "costOf" "[[I", Cond.fieldLink RX0 33 "RankMesh" "heardTree" "[[I", Cond.fieldLink RX0 36 "RankMesh" "heardVersion" "[[I", Cond.fieldLink RX0 39 "RankMesh" "heardRank" "[[I", Cond.arrayClass .boolean, Cond.fieldLink RX0 42 "RankMesh" "isRoot" "[Z", Cond.fieldLink RX0 46 "RankMesh" "lastRootVersion" "[I", Cond.fieldLink RX0 50 "RankMesh" "treeOf" "[I", Cond.fieldLink RX0 53 "RankMesh" "versionOf" "[I", Cond.fieldLink RX0 56 "RankMesh" "rankOf" "[I", Cond.fieldLink RX0 59 "RankMesh" "lowestRank" "[I", Cond.fieldLink RX0 62 "RankMesh" "parentOf" "[I", Cond.fieldLink RX0 65 "RankMesh" "interval" "[I"]
def wsX0_init_r2 : List Cond := [Cond.fieldLink RX0 68 "RankMesh" "tellsAt" "[I", Cond.fieldLink RX0 71 "RankMesh" "wayCost" "[I", Cond.methodLink RX0 74 yX0_clearNode, Cond.instanceMethod yX0_clearNode, Cond.selects RX0 yX0_clearNode yX0_clearNode, Cond.initialized RX0, Cond.code yX0_clearNode cX0_clearNode 2 none, Cond.methodLink RX0 78 yX0_resetTimer, Cond.instanceMethod yX0_resetTimer, Cond.selects RX0 yX0_resetTimer yX0_resetTimer, Cond.code yX0_resetTimer cX0_resetTimer 2 none, Cond.methodLink RX0 81 yX0_forget, Cond.instanceMethod yX0_forget, Cond.selects RX0 yX0_forget yX0_forget, Cond.code yX0_forget cX0_forget 3 none]
def wsX0_init : List Cond := .code yX0_init cX0_init 3 none :: ((wsX0_init_r1 ++ wsX0_init_r2) ++ wsX00)
def wsX0_requireRange : List Cond := .code yX0_requireRange cX0_requireRange 3 none :: ([.classLink RX0 92 "java/lang/IllegalArgumentException", .initialized "java/lang/IllegalArgumentException"] ++ (vx_atS RX0 96 "java/lang/IllegalArgumentException" ["java/lang/RuntimeException", "java/lang/Exception"]).filter goodWord)
def wsX0_setRules : List Cond := .code yX0_setRules cX0_setRules 5 none :: ([.fieldLink RX0 9 "RankMesh" "hysteresis" "I", .fieldLink RX0 13 "RankMesh" "increase" "I", .fieldLink RX0 16 "RankMesh" "leastInterval" "I", .fieldLink RX0 19 "RankMesh" "doublings" "I", .methodLink RX0 85 yX0_requireRange, .static yX0_requireRange, .initialized RX0, .code yX0_requireRange cX0_requireRange 3 none, .classLink RX0 92 "java/lang/IllegalArgumentException", .initialized "java/lang/IllegalArgumentException"] ++ wsX00 ++ (vx_atS RX0 96 "java/lang/IllegalArgumentException" ["java/lang/RuntimeException", "java/lang/Exception"]).filter goodWord)
def wsX0_isNode : List Cond := .code yX0_isNode cX0_isNode 1 (some .boolean) :: ([])
def wsX0_requireNode : List Cond := .code yX0_requireNode cX0_requireNode 1 none :: ([.classLink RX0 132 "java/lang/IndexOutOfBoundsException", .initialized "java/lang/IndexOutOfBoundsException", .methodLink RX0 121 yX0_isNode, .static yX0_isNode, .initialized RX0, .code yX0_isNode cX0_isNode 1 (some .boolean)] ++ (vx_atS RX0 136 "java/lang/IndexOutOfBoundsException" ["java/lang/RuntimeException", "java/lang/Exception"]).filter goodWord)
def wsX0_rankBy : List Cond := .code yX0_rankBy cX0_rankBy 3 (some .int) :: ([.fieldLink RX0 39 "RankMesh" "heardRank" "[[I", .fieldLink RX0 30 "RankMesh" "costOf" "[[I"] ++ wsX00)
def wsX0_isOutdated : List Cond := .code yX0_isOutdated cX0_isOutdated 6 (some .boolean) :: ([.fieldLink RX0 33 "RankMesh" "heardTree" "[[I", .fieldLink RX0 36 "RankMesh" "heardVersion" "[[I", .fieldLink RX0 50 "RankMesh" "treeOf" "[I", .fieldLink RX0 53 "RankMesh" "versionOf" "[I"] ++ wsX00)
def wsX0_heardOwnVersion : List Cond := .code yX0_heardOwnVersion cX0_heardOwnVersion 3 (some .boolean) :: ([.fieldLink RX0 33 "RankMesh" "heardTree" "[[I", .fieldLink RX0 50 "RankMesh" "treeOf" "[I", .fieldLink RX0 36 "RankMesh" "heardVersion" "[[I", .fieldLink RX0 53 "RankMesh" "versionOf" "[I"] ++ wsX00)
def wsX0_isTooDeep : List Cond := .code yX0_isTooDeep cX0_isTooDeep 3 (some .boolean) :: ([.fieldLink RX0 56 "RankMesh" "rankOf" "[I", .fieldLink RX0 39 "RankMesh" "heardRank" "[[I", .fieldLink RX0 59 "RankMesh" "lowestRank" "[I", .fieldLink RX0 13 "RankMesh" "increase" "I", .methodLink RX0 178 yX0_heardOwnVersion, .instanceMethod yX0_heardOwnVersion, .selects RX0 yX0_heardOwnVersion yX0_heardOwnVersion, .initialized RX0, .code yX0_heardOwnVersion cX0_heardOwnVersion 3 (some .boolean), .fieldLink RX0 33 "RankMesh" "heardTree" "[[I", .fieldLink RX0 50 "RankMesh" "treeOf" "[I", .fieldLink RX0 36 "RankMesh" "heardVersion" "[[I", .fieldLink RX0 53 "RankMesh" "versionOf" "[I", .methodLink RX0 169 yX0_rankBy, .instanceMethod yX0_rankBy, .selects RX0 yX0_rankBy yX0_rankBy, .code yX0_rankBy cX0_rankBy 3 (some .int), .fieldLink RX0 30 "RankMesh" "costOf" "[[I"] ++ wsX00)
def wsX0_isCandidate_r1 : List Cond := [Cond.fieldLink RX0 39 "RankMesh" "heardRank" "[[I", Cond.methodLink RX0 169 yX0_rankBy, Cond.instanceMethod yX0_rankBy, Cond.selects RX0 yX0_rankBy yX0_rankBy, Cond.initialized RX0, Cond.code yX0_rankBy cX0_rankBy 3 (some .int), Cond.fieldLink RX0 30 "RankMesh" "costOf" "[[I", Cond.methodLink RX0 172 yX0_isOutdated, Cond.instanceMethod yX0_isOutdated, Cond.selects RX0 yX0_isOutdated yX0_isOutdated, Cond.code yX0_isOutdated cX0_isOutdated 6 (some .boolean), Cond.fieldLink RX0 33 "RankMesh" "heardTree" "[[I", Cond.fieldLink RX0 36 "RankMesh" "heardVersion" "[[I", Cond.fieldLink RX0 50 "RankMesh" "treeOf" "[I", Cond.fieldLink RX0 53 "RankMesh" "versionOf" "[I", Cond.methodLink RX0 175 yX0_isTooDeep, Cond.instanceMethod yX0_isTooDeep, Cond.selects RX0 yX0_isTooDeep yX0_isTooDeep, Cond.code yX0_isTooDeep cX0_isTooDeep 3 (some .boolean), Cond.fieldLink RX0 56 "RankMesh" "rankOf" "[I", Cond.fieldLink RX0 59 "RankMesh" "lowestRank" "[I", Cond.fieldLink RX0 13 "RankMesh" "increase" "I", Cond.methodLink RX0 178 yX0_heardOwnVersion, Cond.instanceMethod yX0_heardOwnVersion]
def wsX0_isCandidate_r2 : List Cond := [Cond.selects RX0 yX0_heardOwnVersion yX0_heardOwnVersion, Cond.code yX0_heardOwnVersion cX0_heardOwnVersion 3 (some .boolean)]
def wsX0_isCandidate : List Cond := .code yX0_isCandidate cX0_isCandidate 4 (some .boolean) :: ((wsX0_isCandidate_r1 ++ wsX0_isCandidate_r2) ++ wsX00)
def wsX0_bestCandidate_r1 : List Cond := [Cond.methodLink RX0 169 yX0_rankBy, Cond.instanceMethod yX0_rankBy, Cond.selects RX0 yX0_rankBy yX0_rankBy, Cond.initialized RX0, Cond.code yX0_rankBy cX0_rankBy 3 (some .int), Cond.fieldLink RX0 39 "RankMesh" "heardRank" "[[I", Cond.fieldLink RX0 30 "RankMesh" "costOf" "[[I", Cond.methodLink RX0 166 yX0_isCandidate, Cond.instanceMethod yX0_isCandidate, Cond.selects RX0 yX0_isCandidate yX0_isCandidate, Cond.code yX0_isCandidate cX0_isCandidate 4 (some .boolean), Cond.methodLink RX0 172 yX0_isOutdated, Cond.instanceMethod yX0_isOutdated, Cond.selects RX0 yX0_isOutdated yX0_isOutdated, Cond.code yX0_isOutdated cX0_isOutdated 6 (some .boolean), Cond.fieldLink RX0 33 "RankMesh" "heardTree" "[[I", Cond.fieldLink RX0 36 "RankMesh" "heardVersion" "[[I", Cond.fieldLink RX0 50 "RankMesh" "treeOf" "[I", Cond.fieldLink RX0 53 "RankMesh" "versionOf" "[I", Cond.methodLink RX0 175 yX0_isTooDeep, Cond.instanceMethod yX0_isTooDeep, Cond.selects RX0 yX0_isTooDeep yX0_isTooDeep, Cond.code yX0_isTooDeep cX0_isTooDeep 3 (some .boolean), Cond.fieldLink RX0 56 "RankMesh" "rankOf" "[I"]
def wsX0_bestCandidate_r2 : List Cond := [Cond.fieldLink RX0 59 "RankMesh" "lowestRank" "[I", Cond.fieldLink RX0 13 "RankMesh" "increase" "I", Cond.methodLink RX0 178 yX0_heardOwnVersion, Cond.instanceMethod yX0_heardOwnVersion, Cond.selects RX0 yX0_heardOwnVersion yX0_heardOwnVersion, Cond.code yX0_heardOwnVersion cX0_heardOwnVersion 3 (some .boolean)]
def wsX0_bestCandidate : List Cond := .code yX0_bestCandidate cX0_bestCandidate 6 (some .int) :: ((wsX0_bestCandidate_r1 ++ wsX0_bestCandidate_r2) ++ wsX00)
def wsX0_loseParent : List Cond := .code yX0_loseParent cX0_loseParent 3 none :: ([.fieldLink RX0 56 "RankMesh" "rankOf" "[I", .fieldLink RX0 62 "RankMesh" "parentOf" "[I", .methodLink RX0 78 yX0_resetTimer, .instanceMethod yX0_resetTimer, .selects RX0 yX0_resetTimer yX0_resetTimer, .initialized RX0, .code yX0_resetTimer cX0_resetTimer 2 none, .fieldLink RX0 65 "RankMesh" "interval" "[I", .fieldLink RX0 16 "RankMesh" "leastInterval" "I", .fieldLink RX0 68 "RankMesh" "tellsAt" "[I", .fieldLink RX0 22 "RankMesh" "now" "I"] ++ wsX00)
def wsX0_keepsParent_r1 : List Cond := [Cond.fieldLink RX0 62 "RankMesh" "parentOf" "[I", Cond.fieldLink RX0 9 "RankMesh" "hysteresis" "I", Cond.methodLink RX0 121 yX0_isNode, Cond.static yX0_isNode, Cond.initialized RX0, Cond.code yX0_isNode cX0_isNode 1 (some .boolean), Cond.methodLink RX0 166 yX0_isCandidate, Cond.instanceMethod yX0_isCandidate, Cond.selects RX0 yX0_isCandidate yX0_isCandidate, Cond.code yX0_isCandidate cX0_isCandidate 4 (some .boolean), Cond.fieldLink RX0 39 "RankMesh" "heardRank" "[[I", Cond.methodLink RX0 169 yX0_rankBy, Cond.instanceMethod yX0_rankBy, Cond.selects RX0 yX0_rankBy yX0_rankBy, Cond.code yX0_rankBy cX0_rankBy 3 (some .int), Cond.fieldLink RX0 30 "RankMesh" "costOf" "[[I", Cond.methodLink RX0 172 yX0_isOutdated, Cond.instanceMethod yX0_isOutdated, Cond.selects RX0 yX0_isOutdated yX0_isOutdated, Cond.code yX0_isOutdated cX0_isOutdated 6 (some .boolean), Cond.fieldLink RX0 33 "RankMesh" "heardTree" "[[I", Cond.fieldLink RX0 36 "RankMesh" "heardVersion" "[[I", Cond.fieldLink RX0 50 "RankMesh" "treeOf" "[I", Cond.fieldLink RX0 53 "RankMesh" "versionOf" "[I"]
def wsX0_keepsParent_r2 : List Cond := [Cond.methodLink RX0 175 yX0_isTooDeep, Cond.instanceMethod yX0_isTooDeep, Cond.selects RX0 yX0_isTooDeep yX0_isTooDeep, Cond.code yX0_isTooDeep cX0_isTooDeep 3 (some .boolean), Cond.fieldLink RX0 56 "RankMesh" "rankOf" "[I", Cond.fieldLink RX0 59 "RankMesh" "lowestRank" "[I", Cond.fieldLink RX0 13 "RankMesh" "increase" "I", Cond.methodLink RX0 178 yX0_heardOwnVersion, Cond.instanceMethod yX0_heardOwnVersion, Cond.selects RX0 yX0_heardOwnVersion yX0_heardOwnVersion, Cond.code yX0_heardOwnVersion cX0_heardOwnVersion 3 (some .boolean)]
def wsX0_keepsParent : List Cond := .code yX0_keepsParent cX0_keepsParent 5 (some .boolean) :: ((wsX0_keepsParent_r1 ++ wsX0_keepsParent_r2) ++ wsX00)
def wsX0_follow_r1 : List Cond := [Cond.fieldLink RX0 56 "RankMesh" "rankOf" "[I", Cond.fieldLink RX0 62 "RankMesh" "parentOf" "[I", Cond.fieldLink RX0 59 "RankMesh" "lowestRank" "[I", Cond.methodLink RX0 141 Lib.Math.min.name, Cond.static Lib.Math.min.name, Cond.initialized "java/lang/Math", Cond.code Lib.Math.min.name Lib.Math.min.code 2 (some .int), Cond.fieldLink RX0 50 "RankMesh" "treeOf" "[I", Cond.fieldLink RX0 33 "RankMesh" "heardTree" "[[I", Cond.fieldLink RX0 53 "RankMesh" "versionOf" "[I", Cond.fieldLink RX0 36 "RankMesh" "heardVersion" "[[I", Cond.methodLink RX0 169 yX0_rankBy, Cond.instanceMethod yX0_rankBy, Cond.selects RX0 yX0_rankBy yX0_rankBy, Cond.initialized RX0, Cond.code yX0_rankBy cX0_rankBy 3 (some .int), Cond.fieldLink RX0 39 "RankMesh" "heardRank" "[[I", Cond.fieldLink RX0 30 "RankMesh" "costOf" "[[I", Cond.methodLink RX0 178 yX0_heardOwnVersion, Cond.instanceMethod yX0_heardOwnVersion, Cond.selects RX0 yX0_heardOwnVersion yX0_heardOwnVersion, Cond.code yX0_heardOwnVersion cX0_heardOwnVersion 3 (some .boolean), Cond.methodLink RX0 78 yX0_resetTimer, Cond.instanceMethod yX0_resetTimer]
def wsX0_follow_r2 : List Cond := [Cond.selects RX0 yX0_resetTimer yX0_resetTimer, Cond.code yX0_resetTimer cX0_resetTimer 2 none, Cond.fieldLink RX0 65 "RankMesh" "interval" "[I", Cond.fieldLink RX0 16 "RankMesh" "leastInterval" "I", Cond.fieldLink RX0 68 "RankMesh" "tellsAt" "[I", Cond.fieldLink RX0 22 "RankMesh" "now" "I"]
def wsX0_follow : List Cond := .code yX0_follow cX0_follow 6 none :: ((wsX0_follow_r1 ++ wsX0_follow_r2) ++ wsX00)
def wsX0_choose_r1 : List Cond := [Cond.fieldLink RX0 42 "RankMesh" "isRoot" "[Z", Cond.fieldLink RX0 62 "RankMesh" "parentOf" "[I", Cond.methodLink RX0 153 yX0_bestCandidate, Cond.instanceMethod yX0_bestCandidate, Cond.selects RX0 yX0_bestCandidate yX0_bestCandidate, Cond.initialized RX0, Cond.code yX0_bestCandidate cX0_bestCandidate 6 (some .int), Cond.methodLink RX0 169 yX0_rankBy, Cond.instanceMethod yX0_rankBy, Cond.selects RX0 yX0_rankBy yX0_rankBy, Cond.code yX0_rankBy cX0_rankBy 3 (some .int), Cond.fieldLink RX0 39 "RankMesh" "heardRank" "[[I", Cond.fieldLink RX0 30 "RankMesh" "costOf" "[[I", Cond.methodLink RX0 166 yX0_isCandidate, Cond.instanceMethod yX0_isCandidate, Cond.selects RX0 yX0_isCandidate yX0_isCandidate, Cond.code yX0_isCandidate cX0_isCandidate 4 (some .boolean), Cond.methodLink RX0 172 yX0_isOutdated, Cond.instanceMethod yX0_isOutdated, Cond.selects RX0 yX0_isOutdated yX0_isOutdated, Cond.code yX0_isOutdated cX0_isOutdated 6 (some .boolean), Cond.fieldLink RX0 33 "RankMesh" "heardTree" "[[I", Cond.fieldLink RX0 36 "RankMesh" "heardVersion" "[[I", Cond.fieldLink RX0 50 "RankMesh" "treeOf" "[I"]
def wsX0_choose_r2 : List Cond := [Cond.fieldLink RX0 53 "RankMesh" "versionOf" "[I", Cond.methodLink RX0 175 yX0_isTooDeep, Cond.instanceMethod yX0_isTooDeep, Cond.selects RX0 yX0_isTooDeep yX0_isTooDeep, Cond.code yX0_isTooDeep cX0_isTooDeep 3 (some .boolean), Cond.fieldLink RX0 56 "RankMesh" "rankOf" "[I", Cond.fieldLink RX0 59 "RankMesh" "lowestRank" "[I", Cond.fieldLink RX0 13 "RankMesh" "increase" "I", Cond.methodLink RX0 178 yX0_heardOwnVersion, Cond.instanceMethod yX0_heardOwnVersion, Cond.selects RX0 yX0_heardOwnVersion yX0_heardOwnVersion, Cond.code yX0_heardOwnVersion cX0_heardOwnVersion 3 (some .boolean), Cond.methodLink RX0 121 yX0_isNode, Cond.static yX0_isNode, Cond.code yX0_isNode cX0_isNode 1 (some .boolean), Cond.methodLink RX0 156 yX0_loseParent, Cond.instanceMethod yX0_loseParent, Cond.selects RX0 yX0_loseParent yX0_loseParent, Cond.code yX0_loseParent cX0_loseParent 3 none, Cond.methodLink RX0 78 yX0_resetTimer, Cond.instanceMethod yX0_resetTimer, Cond.selects RX0 yX0_resetTimer yX0_resetTimer, Cond.code yX0_resetTimer cX0_resetTimer 2 none, Cond.fieldLink RX0 65 "RankMesh" "interval" "[I"]
def wsX0_choose_r3 : List Cond := [Cond.fieldLink RX0 16 "RankMesh" "leastInterval" "I", Cond.fieldLink RX0 68 "RankMesh" "tellsAt" "[I", Cond.fieldLink RX0 22 "RankMesh" "now" "I", Cond.methodLink RX0 159 yX0_keepsParent, Cond.instanceMethod yX0_keepsParent, Cond.selects RX0 yX0_keepsParent yX0_keepsParent, Cond.code yX0_keepsParent cX0_keepsParent 5 (some .boolean), Cond.fieldLink RX0 9 "RankMesh" "hysteresis" "I", Cond.methodLink RX0 163 yX0_follow, Cond.instanceMethod yX0_follow, Cond.selects RX0 yX0_follow yX0_follow, Cond.code yX0_follow cX0_follow 6 none, Cond.methodLink RX0 141 Lib.Math.min.name, Cond.static Lib.Math.min.name, Cond.initialized "java/lang/Math", Cond.code Lib.Math.min.name Lib.Math.min.code 2 (some .int)]
def wsX0_choose : List Cond := .code yX0_choose cX0_choose 3 none :: ((wsX0_choose_r1 ++ (wsX0_choose_r2 ++ wsX0_choose_r3)) ++ wsX00)
def wsX0_link_r1 : List Cond := [Cond.classLink RX0 92 "java/lang/IllegalArgumentException", Cond.initialized "java/lang/IllegalArgumentException", Cond.fieldLink RX0 30 "RankMesh" "costOf" "[[I", Cond.methodLink RX0 89 yX0_requireNode, Cond.static yX0_requireNode, Cond.initialized RX0, Cond.code yX0_requireNode cX0_requireNode 1 none, Cond.classLink RX0 132 "java/lang/IndexOutOfBoundsException", Cond.initialized "java/lang/IndexOutOfBoundsException", Cond.methodLink RX0 121 yX0_isNode, Cond.static yX0_isNode, Cond.code yX0_isNode cX0_isNode 1 (some .boolean), Cond.methodLink RX0 85 yX0_requireRange, Cond.static yX0_requireRange, Cond.code yX0_requireRange cX0_requireRange 3 none, Cond.methodLink RX0 81 yX0_forget, Cond.instanceMethod yX0_forget, Cond.selects RX0 yX0_forget yX0_forget, Cond.code yX0_forget cX0_forget 3 none, Cond.fieldLink RX0 33 "RankMesh" "heardTree" "[[I", Cond.fieldLink RX0 36 "RankMesh" "heardVersion" "[[I", Cond.fieldLink RX0 39 "RankMesh" "heardRank" "[[I", Cond.methodLink RX0 99 yX0_choose, Cond.instanceMethod yX0_choose]
def wsX0_link_r2 : List Cond := [Cond.selects RX0 yX0_choose yX0_choose, Cond.code yX0_choose cX0_choose 3 none, Cond.fieldLink RX0 42 "RankMesh" "isRoot" "[Z", Cond.fieldLink RX0 62 "RankMesh" "parentOf" "[I", Cond.methodLink RX0 153 yX0_bestCandidate, Cond.instanceMethod yX0_bestCandidate, Cond.selects RX0 yX0_bestCandidate yX0_bestCandidate, Cond.code yX0_bestCandidate cX0_bestCandidate 6 (some .int), Cond.methodLink RX0 169 yX0_rankBy, Cond.instanceMethod yX0_rankBy, Cond.selects RX0 yX0_rankBy yX0_rankBy, Cond.code yX0_rankBy cX0_rankBy 3 (some .int), Cond.methodLink RX0 166 yX0_isCandidate, Cond.instanceMethod yX0_isCandidate, Cond.selects RX0 yX0_isCandidate yX0_isCandidate, Cond.code yX0_isCandidate cX0_isCandidate 4 (some .boolean), Cond.methodLink RX0 172 yX0_isOutdated, Cond.instanceMethod yX0_isOutdated, Cond.selects RX0 yX0_isOutdated yX0_isOutdated, Cond.code yX0_isOutdated cX0_isOutdated 6 (some .boolean), Cond.fieldLink RX0 50 "RankMesh" "treeOf" "[I", Cond.fieldLink RX0 53 "RankMesh" "versionOf" "[I", Cond.methodLink RX0 175 yX0_isTooDeep, Cond.instanceMethod yX0_isTooDeep]
def wsX0_link_r3 : List Cond := [Cond.selects RX0 yX0_isTooDeep yX0_isTooDeep, Cond.code yX0_isTooDeep cX0_isTooDeep 3 (some .boolean), Cond.fieldLink RX0 56 "RankMesh" "rankOf" "[I", Cond.fieldLink RX0 59 "RankMesh" "lowestRank" "[I", Cond.fieldLink RX0 13 "RankMesh" "increase" "I", Cond.methodLink RX0 178 yX0_heardOwnVersion, Cond.instanceMethod yX0_heardOwnVersion, Cond.selects RX0 yX0_heardOwnVersion yX0_heardOwnVersion, Cond.code yX0_heardOwnVersion cX0_heardOwnVersion 3 (some .boolean), Cond.methodLink RX0 156 yX0_loseParent, Cond.instanceMethod yX0_loseParent, Cond.selects RX0 yX0_loseParent yX0_loseParent, Cond.code yX0_loseParent cX0_loseParent 3 none, Cond.methodLink RX0 78 yX0_resetTimer, Cond.instanceMethod yX0_resetTimer, Cond.selects RX0 yX0_resetTimer yX0_resetTimer, Cond.code yX0_resetTimer cX0_resetTimer 2 none, Cond.fieldLink RX0 65 "RankMesh" "interval" "[I", Cond.fieldLink RX0 16 "RankMesh" "leastInterval" "I", Cond.fieldLink RX0 68 "RankMesh" "tellsAt" "[I", Cond.fieldLink RX0 22 "RankMesh" "now" "I", Cond.methodLink RX0 159 yX0_keepsParent, Cond.instanceMethod yX0_keepsParent, Cond.selects RX0 yX0_keepsParent yX0_keepsParent]
def wsX0_link_r4 : List Cond := [Cond.code yX0_keepsParent cX0_keepsParent 5 (some .boolean), Cond.fieldLink RX0 9 "RankMesh" "hysteresis" "I", Cond.methodLink RX0 163 yX0_follow, Cond.instanceMethod yX0_follow, Cond.selects RX0 yX0_follow yX0_follow, Cond.code yX0_follow cX0_follow 6 none, Cond.methodLink RX0 141 Lib.Math.min.name, Cond.static Lib.Math.min.name, Cond.initialized "java/lang/Math", Cond.code Lib.Math.min.name Lib.Math.min.code 2 (some .int)]
def wsX0_link : List Cond := .code yX0_link cX0_link 5 (some .int) :: ((wsX0_link_r1 ++ (wsX0_link_r2 ++ (wsX0_link_r3 ++ wsX0_link_r4))) ++ wsX00 ++ (vx_atS RX0 96 "java/lang/IllegalArgumentException" ["java/lang/RuntimeException", "java/lang/Exception"]).filter goodWord ++ (vx_atS RX0 136 "java/lang/IndexOutOfBoundsException" ["java/lang/RuntimeException", "java/lang/Exception"]).filter goodWord)
def wsX0_beginVersion : List Cond := .code yX0_beginVersion cX0_beginVersion 2 (some .int) :: ([.fieldLink RX0 46 "RankMesh" "lastRootVersion" "[I", .fieldLink RX0 53 "RankMesh" "versionOf" "[I", .methodLink RX0 78 yX0_resetTimer, .instanceMethod yX0_resetTimer, .selects RX0 yX0_resetTimer yX0_resetTimer, .initialized RX0, .code yX0_resetTimer cX0_resetTimer 2 none, .fieldLink RX0 65 "RankMesh" "interval" "[I", .fieldLink RX0 16 "RankMesh" "leastInterval" "I", .fieldLink RX0 68 "RankMesh" "tellsAt" "[I", .fieldLink RX0 22 "RankMesh" "now" "I"] ++ wsX00)
def wsX0_makeRoot_r1 : List Cond := [Cond.classLink RX0 102 "java/lang/IllegalStateException", Cond.initialized "java/lang/IllegalStateException", Cond.fieldLink RX0 42 "RankMesh" "isRoot" "[Z", Cond.fieldLink RX0 50 "RankMesh" "treeOf" "[I", Cond.fieldLink RX0 56 "RankMesh" "rankOf" "[I", Cond.fieldLink RX0 59 "RankMesh" "lowestRank" "[I", Cond.fieldLink RX0 62 "RankMesh" "parentOf" "[I", Cond.methodLink RX0 89 yX0_requireNode, Cond.static yX0_requireNode, Cond.initialized RX0, Cond.code yX0_requireNode cX0_requireNode 1 none, Cond.classLink RX0 132 "java/lang/IndexOutOfBoundsException", Cond.initialized "java/lang/IndexOutOfBoundsException", Cond.methodLink RX0 121 yX0_isNode, Cond.static yX0_isNode, Cond.code yX0_isNode cX0_isNode 1 (some .boolean), Cond.methodLink RX0 107 yX0_beginVersion, Cond.instanceMethod yX0_beginVersion, Cond.selects RX0 yX0_beginVersion yX0_beginVersion, Cond.code yX0_beginVersion cX0_beginVersion 2 (some .int), Cond.fieldLink RX0 46 "RankMesh" "lastRootVersion" "[I", Cond.fieldLink RX0 53 "RankMesh" "versionOf" "[I", Cond.methodLink RX0 78 yX0_resetTimer, Cond.instanceMethod yX0_resetTimer]
def wsX0_makeRoot_r2 : List Cond := [Cond.selects RX0 yX0_resetTimer yX0_resetTimer, Cond.code yX0_resetTimer cX0_resetTimer 2 none, Cond.fieldLink RX0 65 "RankMesh" "interval" "[I", Cond.fieldLink RX0 16 "RankMesh" "leastInterval" "I", Cond.fieldLink RX0 68 "RankMesh" "tellsAt" "[I", Cond.fieldLink RX0 22 "RankMesh" "now" "I"]
def wsX0_makeRoot : List Cond := .code yX0_makeRoot cX0_makeRoot 2 (some .int) :: ((wsX0_makeRoot_r1 ++ wsX0_makeRoot_r2) ++ wsX00 ++ (vx_atS RX0 106 "java/lang/IllegalStateException" ["java/lang/RuntimeException", "java/lang/Exception"]).filter goodWord ++ (vx_atS RX0 136 "java/lang/IndexOutOfBoundsException" ["java/lang/RuntimeException", "java/lang/Exception"]).filter goodWord)
def wsX0_requireRoot : List Cond := .code yX0_requireRoot cX0_requireRoot 2 none :: ([.classLink RX0 102 "java/lang/IllegalStateException", .initialized "java/lang/IllegalStateException", .fieldLink RX0 42 "RankMesh" "isRoot" "[Z", .methodLink RX0 89 yX0_requireNode, .static yX0_requireNode, .initialized RX0, .code yX0_requireNode cX0_requireNode 1 none, .classLink RX0 132 "java/lang/IndexOutOfBoundsException", .initialized "java/lang/IndexOutOfBoundsException", .methodLink RX0 121 yX0_isNode, .static yX0_isNode, .code yX0_isNode cX0_isNode 1 (some .boolean)] ++ wsX00 ++ (vx_atS RX0 106 "java/lang/IllegalStateException" ["java/lang/RuntimeException", "java/lang/Exception"]).filter goodWord ++ (vx_atS RX0 136 "java/lang/IndexOutOfBoundsException" ["java/lang/RuntimeException", "java/lang/Exception"]).filter goodWord)
def wsX0_endRoot_r1 : List Cond := [Cond.fieldLink RX0 42 "RankMesh" "isRoot" "[Z", Cond.methodLink RX0 111 yX0_requireRoot, Cond.instanceMethod yX0_requireRoot, Cond.selects RX0 yX0_requireRoot yX0_requireRoot, Cond.initialized RX0, Cond.code yX0_requireRoot cX0_requireRoot 2 none, Cond.classLink RX0 102 "java/lang/IllegalStateException", Cond.initialized "java/lang/IllegalStateException", Cond.methodLink RX0 89 yX0_requireNode, Cond.static yX0_requireNode, Cond.code yX0_requireNode cX0_requireNode 1 none, Cond.classLink RX0 132 "java/lang/IndexOutOfBoundsException", Cond.initialized "java/lang/IndexOutOfBoundsException", Cond.methodLink RX0 121 yX0_isNode, Cond.static yX0_isNode, Cond.code yX0_isNode cX0_isNode 1 (some .boolean), Cond.methodLink RX0 74 yX0_clearNode, Cond.instanceMethod yX0_clearNode, Cond.selects RX0 yX0_clearNode yX0_clearNode, Cond.code yX0_clearNode cX0_clearNode 2 none, Cond.fieldLink RX0 50 "RankMesh" "treeOf" "[I", Cond.fieldLink RX0 53 "RankMesh" "versionOf" "[I", Cond.fieldLink RX0 56 "RankMesh" "rankOf" "[I", Cond.fieldLink RX0 59 "RankMesh" "lowestRank" "[I"]
def wsX0_endRoot_r2 : List Cond := [Cond.fieldLink RX0 62 "RankMesh" "parentOf" "[I", Cond.methodLink RX0 78 yX0_resetTimer, Cond.instanceMethod yX0_resetTimer, Cond.selects RX0 yX0_resetTimer yX0_resetTimer, Cond.code yX0_resetTimer cX0_resetTimer 2 none, Cond.fieldLink RX0 65 "RankMesh" "interval" "[I", Cond.fieldLink RX0 16 "RankMesh" "leastInterval" "I", Cond.fieldLink RX0 68 "RankMesh" "tellsAt" "[I", Cond.fieldLink RX0 22 "RankMesh" "now" "I", Cond.methodLink RX0 99 yX0_choose, Cond.instanceMethod yX0_choose, Cond.selects RX0 yX0_choose yX0_choose, Cond.code yX0_choose cX0_choose 3 none, Cond.methodLink RX0 153 yX0_bestCandidate, Cond.instanceMethod yX0_bestCandidate, Cond.selects RX0 yX0_bestCandidate yX0_bestCandidate, Cond.code yX0_bestCandidate cX0_bestCandidate 6 (some .int), Cond.methodLink RX0 169 yX0_rankBy, Cond.instanceMethod yX0_rankBy, Cond.selects RX0 yX0_rankBy yX0_rankBy, Cond.code yX0_rankBy cX0_rankBy 3 (some .int), Cond.fieldLink RX0 39 "RankMesh" "heardRank" "[[I", Cond.fieldLink RX0 30 "RankMesh" "costOf" "[[I", Cond.methodLink RX0 166 yX0_isCandidate]
def wsX0_endRoot_r3 : List Cond := [Cond.instanceMethod yX0_isCandidate, Cond.selects RX0 yX0_isCandidate yX0_isCandidate, Cond.code yX0_isCandidate cX0_isCandidate 4 (some .boolean), Cond.methodLink RX0 172 yX0_isOutdated, Cond.instanceMethod yX0_isOutdated, Cond.selects RX0 yX0_isOutdated yX0_isOutdated, Cond.code yX0_isOutdated cX0_isOutdated 6 (some .boolean), Cond.fieldLink RX0 33 "RankMesh" "heardTree" "[[I", Cond.fieldLink RX0 36 "RankMesh" "heardVersion" "[[I", Cond.methodLink RX0 175 yX0_isTooDeep, Cond.instanceMethod yX0_isTooDeep, Cond.selects RX0 yX0_isTooDeep yX0_isTooDeep, Cond.code yX0_isTooDeep cX0_isTooDeep 3 (some .boolean), Cond.fieldLink RX0 13 "RankMesh" "increase" "I", Cond.methodLink RX0 178 yX0_heardOwnVersion, Cond.instanceMethod yX0_heardOwnVersion, Cond.selects RX0 yX0_heardOwnVersion yX0_heardOwnVersion, Cond.code yX0_heardOwnVersion cX0_heardOwnVersion 3 (some .boolean), Cond.methodLink RX0 156 yX0_loseParent, Cond.instanceMethod yX0_loseParent, Cond.selects RX0 yX0_loseParent yX0_loseParent, Cond.code yX0_loseParent cX0_loseParent 3 none, Cond.methodLink RX0 159 yX0_keepsParent, Cond.instanceMethod yX0_keepsParent]
def wsX0_endRoot_r4 : List Cond := [Cond.selects RX0 yX0_keepsParent yX0_keepsParent, Cond.code yX0_keepsParent cX0_keepsParent 5 (some .boolean), Cond.fieldLink RX0 9 "RankMesh" "hysteresis" "I", Cond.methodLink RX0 163 yX0_follow, Cond.instanceMethod yX0_follow, Cond.selects RX0 yX0_follow yX0_follow, Cond.code yX0_follow cX0_follow 6 none, Cond.methodLink RX0 141 Lib.Math.min.name, Cond.static Lib.Math.min.name, Cond.initialized "java/lang/Math", Cond.code Lib.Math.min.name Lib.Math.min.code 2 (some .int)]
def wsX0_endRoot : List Cond := .code yX0_endRoot cX0_endRoot 2 none :: ((wsX0_endRoot_r1 ++ (wsX0_endRoot_r2 ++ (wsX0_endRoot_r3 ++ wsX0_endRoot_r4))) ++ wsX00 ++ (vx_atS RX0 106 "java/lang/IllegalStateException" ["java/lang/RuntimeException", "java/lang/Exception"]).filter goodWord ++ (vx_atS RX0 136 "java/lang/IndexOutOfBoundsException" ["java/lang/RuntimeException", "java/lang/Exception"]).filter goodWord)
def wsX0_renew_r1 : List Cond := [Cond.methodLink RX0 111 yX0_requireRoot, Cond.instanceMethod yX0_requireRoot, Cond.selects RX0 yX0_requireRoot yX0_requireRoot, Cond.initialized RX0, Cond.code yX0_requireRoot cX0_requireRoot 2 none, Cond.classLink RX0 102 "java/lang/IllegalStateException", Cond.initialized "java/lang/IllegalStateException", Cond.fieldLink RX0 42 "RankMesh" "isRoot" "[Z", Cond.methodLink RX0 89 yX0_requireNode, Cond.static yX0_requireNode, Cond.code yX0_requireNode cX0_requireNode 1 none, Cond.classLink RX0 132 "java/lang/IndexOutOfBoundsException", Cond.initialized "java/lang/IndexOutOfBoundsException", Cond.methodLink RX0 121 yX0_isNode, Cond.static yX0_isNode, Cond.code yX0_isNode cX0_isNode 1 (some .boolean), Cond.methodLink RX0 107 yX0_beginVersion, Cond.instanceMethod yX0_beginVersion, Cond.selects RX0 yX0_beginVersion yX0_beginVersion, Cond.code yX0_beginVersion cX0_beginVersion 2 (some .int), Cond.fieldLink RX0 46 "RankMesh" "lastRootVersion" "[I", Cond.fieldLink RX0 53 "RankMesh" "versionOf" "[I", Cond.methodLink RX0 78 yX0_resetTimer, Cond.instanceMethod yX0_resetTimer]
def wsX0_renew_r2 : List Cond := [Cond.selects RX0 yX0_resetTimer yX0_resetTimer, Cond.code yX0_resetTimer cX0_resetTimer 2 none, Cond.fieldLink RX0 65 "RankMesh" "interval" "[I", Cond.fieldLink RX0 16 "RankMesh" "leastInterval" "I", Cond.fieldLink RX0 68 "RankMesh" "tellsAt" "[I", Cond.fieldLink RX0 22 "RankMesh" "now" "I"]
def wsX0_renew : List Cond := .code yX0_renew cX0_renew 2 (some .int) :: ((wsX0_renew_r1 ++ wsX0_renew_r2) ++ wsX00 ++ (vx_atS RX0 106 "java/lang/IllegalStateException" ["java/lang/RuntimeException", "java/lang/Exception"]).filter goodWord ++ (vx_atS RX0 136 "java/lang/IndexOutOfBoundsException" ["java/lang/RuntimeException", "java/lang/Exception"]).filter goodWord)
def wsX0_tell_r1 : List Cond := [Cond.fieldLink RX0 30 "RankMesh" "costOf" "[[I", Cond.fieldLink RX0 33 "RankMesh" "heardTree" "[[I", Cond.fieldLink RX0 50 "RankMesh" "treeOf" "[I", Cond.fieldLink RX0 36 "RankMesh" "heardVersion" "[[I", Cond.fieldLink RX0 53 "RankMesh" "versionOf" "[I", Cond.fieldLink RX0 39 "RankMesh" "heardRank" "[[I", Cond.fieldLink RX0 56 "RankMesh" "rankOf" "[I", Cond.methodLink RX0 99 yX0_choose, Cond.instanceMethod yX0_choose, Cond.selects RX0 yX0_choose yX0_choose, Cond.initialized RX0, Cond.code yX0_choose cX0_choose 3 none, Cond.fieldLink RX0 42 "RankMesh" "isRoot" "[Z", Cond.fieldLink RX0 62 "RankMesh" "parentOf" "[I", Cond.methodLink RX0 153 yX0_bestCandidate, Cond.instanceMethod yX0_bestCandidate, Cond.selects RX0 yX0_bestCandidate yX0_bestCandidate, Cond.code yX0_bestCandidate cX0_bestCandidate 6 (some .int), Cond.methodLink RX0 169 yX0_rankBy, Cond.instanceMethod yX0_rankBy, Cond.selects RX0 yX0_rankBy yX0_rankBy, Cond.code yX0_rankBy cX0_rankBy 3 (some .int), Cond.methodLink RX0 166 yX0_isCandidate, Cond.instanceMethod yX0_isCandidate]
def wsX0_tell_r2 : List Cond := [Cond.selects RX0 yX0_isCandidate yX0_isCandidate, Cond.code yX0_isCandidate cX0_isCandidate 4 (some .boolean), Cond.methodLink RX0 172 yX0_isOutdated, Cond.instanceMethod yX0_isOutdated, Cond.selects RX0 yX0_isOutdated yX0_isOutdated, Cond.code yX0_isOutdated cX0_isOutdated 6 (some .boolean), Cond.methodLink RX0 175 yX0_isTooDeep, Cond.instanceMethod yX0_isTooDeep, Cond.selects RX0 yX0_isTooDeep yX0_isTooDeep, Cond.code yX0_isTooDeep cX0_isTooDeep 3 (some .boolean), Cond.fieldLink RX0 59 "RankMesh" "lowestRank" "[I", Cond.fieldLink RX0 13 "RankMesh" "increase" "I", Cond.methodLink RX0 178 yX0_heardOwnVersion, Cond.instanceMethod yX0_heardOwnVersion, Cond.selects RX0 yX0_heardOwnVersion yX0_heardOwnVersion, Cond.code yX0_heardOwnVersion cX0_heardOwnVersion 3 (some .boolean), Cond.methodLink RX0 121 yX0_isNode, Cond.static yX0_isNode, Cond.code yX0_isNode cX0_isNode 1 (some .boolean), Cond.methodLink RX0 156 yX0_loseParent, Cond.instanceMethod yX0_loseParent, Cond.selects RX0 yX0_loseParent yX0_loseParent, Cond.code yX0_loseParent cX0_loseParent 3 none, Cond.methodLink RX0 78 yX0_resetTimer]
def wsX0_tell_r3 : List Cond := [Cond.instanceMethod yX0_resetTimer, Cond.selects RX0 yX0_resetTimer yX0_resetTimer, Cond.code yX0_resetTimer cX0_resetTimer 2 none, Cond.fieldLink RX0 65 "RankMesh" "interval" "[I", Cond.fieldLink RX0 16 "RankMesh" "leastInterval" "I", Cond.fieldLink RX0 68 "RankMesh" "tellsAt" "[I", Cond.fieldLink RX0 22 "RankMesh" "now" "I", Cond.methodLink RX0 159 yX0_keepsParent, Cond.instanceMethod yX0_keepsParent, Cond.selects RX0 yX0_keepsParent yX0_keepsParent, Cond.code yX0_keepsParent cX0_keepsParent 5 (some .boolean), Cond.fieldLink RX0 9 "RankMesh" "hysteresis" "I", Cond.methodLink RX0 163 yX0_follow, Cond.instanceMethod yX0_follow, Cond.selects RX0 yX0_follow yX0_follow, Cond.code yX0_follow cX0_follow 6 none, Cond.methodLink RX0 141 Lib.Math.min.name, Cond.static Lib.Math.min.name, Cond.initialized "java/lang/Math", Cond.code Lib.Math.min.name Lib.Math.min.code 2 (some .int)]
def wsX0_tell : List Cond := .code yX0_tell cX0_tell 3 none :: ((wsX0_tell_r1 ++ (wsX0_tell_r2 ++ wsX0_tell_r3)) ++ wsX00)
def wsX0_lengthenTimer : List Cond := .code yX0_lengthenTimer cX0_lengthenTimer 2 none :: ([.fieldLink RX0 65 "RankMesh" "interval" "[I", .fieldLink RX0 16 "RankMesh" "leastInterval" "I", .fieldLink RX0 19 "RankMesh" "doublings" "I", .methodLink RX0 141 Lib.Math.min.name, .static Lib.Math.min.name, .initialized "java/lang/Math", .code Lib.Math.min.name Lib.Math.min.code 2 (some .int), .fieldLink RX0 68 "RankMesh" "tellsAt" "[I", .fieldLink RX0 22 "RankMesh" "now" "I"] ++ wsX00)
def wsX0_passTick_r1 : List Cond := [Cond.fieldLink RX0 22 "RankMesh" "now" "I", Cond.fieldLink RX0 68 "RankMesh" "tellsAt" "[I", Cond.methodLink RX0 147 yX0_tell, Cond.instanceMethod yX0_tell, Cond.selects RX0 yX0_tell yX0_tell, Cond.initialized RX0, Cond.code yX0_tell cX0_tell 3 none, Cond.fieldLink RX0 30 "RankMesh" "costOf" "[[I", Cond.fieldLink RX0 33 "RankMesh" "heardTree" "[[I", Cond.fieldLink RX0 50 "RankMesh" "treeOf" "[I", Cond.fieldLink RX0 36 "RankMesh" "heardVersion" "[[I", Cond.fieldLink RX0 53 "RankMesh" "versionOf" "[I", Cond.fieldLink RX0 39 "RankMesh" "heardRank" "[[I", Cond.fieldLink RX0 56 "RankMesh" "rankOf" "[I", Cond.methodLink RX0 99 yX0_choose, Cond.instanceMethod yX0_choose, Cond.selects RX0 yX0_choose yX0_choose, Cond.code yX0_choose cX0_choose 3 none, Cond.fieldLink RX0 42 "RankMesh" "isRoot" "[Z", Cond.fieldLink RX0 62 "RankMesh" "parentOf" "[I", Cond.methodLink RX0 153 yX0_bestCandidate, Cond.instanceMethod yX0_bestCandidate, Cond.selects RX0 yX0_bestCandidate yX0_bestCandidate, Cond.code yX0_bestCandidate cX0_bestCandidate 6 (some .int)]
def wsX0_passTick_r2 : List Cond := [Cond.methodLink RX0 169 yX0_rankBy, Cond.instanceMethod yX0_rankBy, Cond.selects RX0 yX0_rankBy yX0_rankBy, Cond.code yX0_rankBy cX0_rankBy 3 (some .int), Cond.methodLink RX0 166 yX0_isCandidate, Cond.instanceMethod yX0_isCandidate, Cond.selects RX0 yX0_isCandidate yX0_isCandidate, Cond.code yX0_isCandidate cX0_isCandidate 4 (some .boolean), Cond.methodLink RX0 172 yX0_isOutdated, Cond.instanceMethod yX0_isOutdated, Cond.selects RX0 yX0_isOutdated yX0_isOutdated, Cond.code yX0_isOutdated cX0_isOutdated 6 (some .boolean), Cond.methodLink RX0 175 yX0_isTooDeep, Cond.instanceMethod yX0_isTooDeep, Cond.selects RX0 yX0_isTooDeep yX0_isTooDeep, Cond.code yX0_isTooDeep cX0_isTooDeep 3 (some .boolean), Cond.fieldLink RX0 59 "RankMesh" "lowestRank" "[I", Cond.fieldLink RX0 13 "RankMesh" "increase" "I", Cond.methodLink RX0 178 yX0_heardOwnVersion, Cond.instanceMethod yX0_heardOwnVersion, Cond.selects RX0 yX0_heardOwnVersion yX0_heardOwnVersion, Cond.code yX0_heardOwnVersion cX0_heardOwnVersion 3 (some .boolean), Cond.methodLink RX0 121 yX0_isNode, Cond.static yX0_isNode]
def wsX0_passTick_r3 : List Cond := [Cond.code yX0_isNode cX0_isNode 1 (some .boolean), Cond.methodLink RX0 156 yX0_loseParent, Cond.instanceMethod yX0_loseParent, Cond.selects RX0 yX0_loseParent yX0_loseParent, Cond.code yX0_loseParent cX0_loseParent 3 none, Cond.methodLink RX0 78 yX0_resetTimer, Cond.instanceMethod yX0_resetTimer, Cond.selects RX0 yX0_resetTimer yX0_resetTimer, Cond.code yX0_resetTimer cX0_resetTimer 2 none, Cond.fieldLink RX0 65 "RankMesh" "interval" "[I", Cond.fieldLink RX0 16 "RankMesh" "leastInterval" "I", Cond.methodLink RX0 159 yX0_keepsParent, Cond.instanceMethod yX0_keepsParent, Cond.selects RX0 yX0_keepsParent yX0_keepsParent, Cond.code yX0_keepsParent cX0_keepsParent 5 (some .boolean), Cond.fieldLink RX0 9 "RankMesh" "hysteresis" "I", Cond.methodLink RX0 163 yX0_follow, Cond.instanceMethod yX0_follow, Cond.selects RX0 yX0_follow yX0_follow, Cond.code yX0_follow cX0_follow 6 none, Cond.methodLink RX0 141 Lib.Math.min.name, Cond.static Lib.Math.min.name, Cond.initialized "java/lang/Math", Cond.code Lib.Math.min.name Lib.Math.min.code 2 (some .int)]
def wsX0_passTick_r4 : List Cond := [Cond.methodLink RX0 150 yX0_lengthenTimer, Cond.instanceMethod yX0_lengthenTimer, Cond.selects RX0 yX0_lengthenTimer yX0_lengthenTimer, Cond.code yX0_lengthenTimer cX0_lengthenTimer 2 none, Cond.fieldLink RX0 19 "RankMesh" "doublings" "I"]
def wsX0_passTick : List Cond := .code yX0_passTick cX0_passTick 3 (some .int) :: ((wsX0_passTick_r1 ++ (wsX0_passTick_r2 ++ (wsX0_passTick_r3 ++ wsX0_passTick_r4))) ++ wsX00)
def wsX0_pass_r1 : List Cond := [Cond.methodLink RX0 85 yX0_requireRange, Cond.static yX0_requireRange, Cond.initialized RX0, Cond.code yX0_requireRange cX0_requireRange 3 none, Cond.classLink RX0 92 "java/lang/IllegalArgumentException", Cond.initialized "java/lang/IllegalArgumentException", Cond.methodLink RX0 114 yX0_passTick, Cond.instanceMethod yX0_passTick, Cond.selects RX0 yX0_passTick yX0_passTick, Cond.code yX0_passTick cX0_passTick 3 (some .int), Cond.fieldLink RX0 22 "RankMesh" "now" "I", Cond.fieldLink RX0 68 "RankMesh" "tellsAt" "[I", Cond.methodLink RX0 147 yX0_tell, Cond.instanceMethod yX0_tell, Cond.selects RX0 yX0_tell yX0_tell, Cond.code yX0_tell cX0_tell 3 none, Cond.fieldLink RX0 30 "RankMesh" "costOf" "[[I", Cond.fieldLink RX0 33 "RankMesh" "heardTree" "[[I", Cond.fieldLink RX0 50 "RankMesh" "treeOf" "[I", Cond.fieldLink RX0 36 "RankMesh" "heardVersion" "[[I", Cond.fieldLink RX0 53 "RankMesh" "versionOf" "[I", Cond.fieldLink RX0 39 "RankMesh" "heardRank" "[[I", Cond.fieldLink RX0 56 "RankMesh" "rankOf" "[I", Cond.methodLink RX0 99 yX0_choose]
def wsX0_pass_r2 : List Cond := [Cond.instanceMethod yX0_choose, Cond.selects RX0 yX0_choose yX0_choose, Cond.code yX0_choose cX0_choose 3 none, Cond.fieldLink RX0 42 "RankMesh" "isRoot" "[Z", Cond.fieldLink RX0 62 "RankMesh" "parentOf" "[I", Cond.methodLink RX0 153 yX0_bestCandidate, Cond.instanceMethod yX0_bestCandidate, Cond.selects RX0 yX0_bestCandidate yX0_bestCandidate, Cond.code yX0_bestCandidate cX0_bestCandidate 6 (some .int), Cond.methodLink RX0 169 yX0_rankBy, Cond.instanceMethod yX0_rankBy, Cond.selects RX0 yX0_rankBy yX0_rankBy, Cond.code yX0_rankBy cX0_rankBy 3 (some .int), Cond.methodLink RX0 166 yX0_isCandidate, Cond.instanceMethod yX0_isCandidate, Cond.selects RX0 yX0_isCandidate yX0_isCandidate, Cond.code yX0_isCandidate cX0_isCandidate 4 (some .boolean), Cond.methodLink RX0 172 yX0_isOutdated, Cond.instanceMethod yX0_isOutdated, Cond.selects RX0 yX0_isOutdated yX0_isOutdated, Cond.code yX0_isOutdated cX0_isOutdated 6 (some .boolean), Cond.methodLink RX0 175 yX0_isTooDeep, Cond.instanceMethod yX0_isTooDeep, Cond.selects RX0 yX0_isTooDeep yX0_isTooDeep]
def wsX0_pass_r3 : List Cond := [Cond.code yX0_isTooDeep cX0_isTooDeep 3 (some .boolean), Cond.fieldLink RX0 59 "RankMesh" "lowestRank" "[I", Cond.fieldLink RX0 13 "RankMesh" "increase" "I", Cond.methodLink RX0 178 yX0_heardOwnVersion, Cond.instanceMethod yX0_heardOwnVersion, Cond.selects RX0 yX0_heardOwnVersion yX0_heardOwnVersion, Cond.code yX0_heardOwnVersion cX0_heardOwnVersion 3 (some .boolean), Cond.methodLink RX0 121 yX0_isNode, Cond.static yX0_isNode, Cond.code yX0_isNode cX0_isNode 1 (some .boolean), Cond.methodLink RX0 156 yX0_loseParent, Cond.instanceMethod yX0_loseParent, Cond.selects RX0 yX0_loseParent yX0_loseParent, Cond.code yX0_loseParent cX0_loseParent 3 none, Cond.methodLink RX0 78 yX0_resetTimer, Cond.instanceMethod yX0_resetTimer, Cond.selects RX0 yX0_resetTimer yX0_resetTimer, Cond.code yX0_resetTimer cX0_resetTimer 2 none, Cond.fieldLink RX0 65 "RankMesh" "interval" "[I", Cond.fieldLink RX0 16 "RankMesh" "leastInterval" "I", Cond.methodLink RX0 159 yX0_keepsParent, Cond.instanceMethod yX0_keepsParent, Cond.selects RX0 yX0_keepsParent yX0_keepsParent, Cond.code yX0_keepsParent cX0_keepsParent 5 (some .boolean)]
def wsX0_pass_r4 : List Cond := [Cond.fieldLink RX0 9 "RankMesh" "hysteresis" "I", Cond.methodLink RX0 163 yX0_follow, Cond.instanceMethod yX0_follow, Cond.selects RX0 yX0_follow yX0_follow, Cond.code yX0_follow cX0_follow 6 none, Cond.methodLink RX0 141 Lib.Math.min.name, Cond.static Lib.Math.min.name, Cond.initialized "java/lang/Math", Cond.code Lib.Math.min.name Lib.Math.min.code 2 (some .int), Cond.methodLink RX0 150 yX0_lengthenTimer, Cond.instanceMethod yX0_lengthenTimer, Cond.selects RX0 yX0_lengthenTimer yX0_lengthenTimer, Cond.code yX0_lengthenTimer cX0_lengthenTimer 2 none, Cond.fieldLink RX0 19 "RankMesh" "doublings" "I"]
def wsX0_pass : List Cond := .code yX0_pass cX0_pass 4 (some .int) :: ((wsX0_pass_r1 ++ (wsX0_pass_r2 ++ (wsX0_pass_r3 ++ wsX0_pass_r4))) ++ wsX00 ++ (vx_atS RX0 96 "java/lang/IllegalArgumentException" ["java/lang/RuntimeException", "java/lang/Exception"]).filter goodWord)
def wsX0_time : List Cond := .code yX0_time cX0_time 1 (some .int) :: ([.fieldLink RX0 22 "RankMesh" "now" "I"] ++ wsX00)
def wsX0_rank : List Cond := .code yX0_rank cX0_rank 2 (some .int) :: ([.fieldLink RX0 56 "RankMesh" "rankOf" "[I", .methodLink RX0 89 yX0_requireNode, .static yX0_requireNode, .initialized RX0, .code yX0_requireNode cX0_requireNode 1 none, .classLink RX0 132 "java/lang/IndexOutOfBoundsException", .initialized "java/lang/IndexOutOfBoundsException", .methodLink RX0 121 yX0_isNode, .static yX0_isNode, .code yX0_isNode cX0_isNode 1 (some .boolean)] ++ wsX00 ++ (vx_atS RX0 136 "java/lang/IndexOutOfBoundsException" ["java/lang/RuntimeException", "java/lang/Exception"]).filter goodWord)
def wsX0_parent : List Cond := .code yX0_parent cX0_parent 2 (some .int) :: ([.fieldLink RX0 62 "RankMesh" "parentOf" "[I", .methodLink RX0 89 yX0_requireNode, .static yX0_requireNode, .initialized RX0, .code yX0_requireNode cX0_requireNode 1 none, .classLink RX0 132 "java/lang/IndexOutOfBoundsException", .initialized "java/lang/IndexOutOfBoundsException", .methodLink RX0 121 yX0_isNode, .static yX0_isNode, .code yX0_isNode cX0_isNode 1 (some .boolean)] ++ wsX00 ++ (vx_atS RX0 136 "java/lang/IndexOutOfBoundsException" ["java/lang/RuntimeException", "java/lang/Exception"]).filter goodWord)
def wsX0_tree : List Cond := .code yX0_tree cX0_tree 2 (some .int) :: ([.fieldLink RX0 50 "RankMesh" "treeOf" "[I", .fieldLink RX0 53 "RankMesh" "versionOf" "[I", .methodLink RX0 89 yX0_requireNode, .static yX0_requireNode, .initialized RX0, .code yX0_requireNode cX0_requireNode 1 none, .classLink RX0 132 "java/lang/IndexOutOfBoundsException", .initialized "java/lang/IndexOutOfBoundsException", .methodLink RX0 121 yX0_isNode, .static yX0_isNode, .code yX0_isNode cX0_isNode 1 (some .boolean)] ++ wsX00 ++ (vx_atS RX0 136 "java/lang/IndexOutOfBoundsException" ["java/lang/RuntimeException", "java/lang/Exception"]).filter goodWord)
def wsX0_nextTelling : List Cond := .code yX0_nextTelling cX0_nextTelling 2 (some .int) :: ([.fieldLink RX0 68 "RankMesh" "tellsAt" "[I", .methodLink RX0 89 yX0_requireNode, .static yX0_requireNode, .initialized RX0, .code yX0_requireNode cX0_requireNode 1 none, .classLink RX0 132 "java/lang/IndexOutOfBoundsException", .initialized "java/lang/IndexOutOfBoundsException", .methodLink RX0 121 yX0_isNode, .static yX0_isNode, .code yX0_isNode cX0_isNode 1 (some .boolean)] ++ wsX00 ++ (vx_atS RX0 136 "java/lang/IndexOutOfBoundsException" ["java/lang/RuntimeException", "java/lang/Exception"]).filter goodWord)
def wsX0_heard : List Cond := .code yX0_heard cX0_heard 3 (some .int) :: ([.fieldLink RX0 39 "RankMesh" "heardRank" "[[I", .methodLink RX0 89 yX0_requireNode, .static yX0_requireNode, .initialized RX0, .code yX0_requireNode cX0_requireNode 1 none, .classLink RX0 132 "java/lang/IndexOutOfBoundsException", .initialized "java/lang/IndexOutOfBoundsException", .methodLink RX0 121 yX0_isNode, .static yX0_isNode, .code yX0_isNode cX0_isNode 1 (some .boolean)] ++ wsX00 ++ (vx_atS RX0 136 "java/lang/IndexOutOfBoundsException" ["java/lang/RuntimeException", "java/lang/Exception"]).filter goodWord)
def wsX0_lowerWayCosts : List Cond := .code yX0_lowerWayCosts cX0_lowerWayCosts 4 none :: ([.fieldLink RX0 30 "RankMesh" "costOf" "[[I", .fieldLink RX0 71 "RankMesh" "wayCost" "[I", .methodLink RX0 141 Lib.Math.min.name, .static Lib.Math.min.name, .initialized "java/lang/Math", .code Lib.Math.min.name Lib.Math.min.code 2 (some .int)] ++ wsX00)
def wsX0_leastRank : List Cond := .code yX0_leastRank cX0_leastRank 3 (some .int) :: ([.fieldLink RX0 71 "RankMesh" "wayCost" "[I", .fieldLink RX0 42 "RankMesh" "isRoot" "[Z", .methodLink RX0 89 yX0_requireNode, .static yX0_requireNode, .initialized RX0, .code yX0_requireNode cX0_requireNode 1 none, .classLink RX0 132 "java/lang/IndexOutOfBoundsException", .initialized "java/lang/IndexOutOfBoundsException", .methodLink RX0 121 yX0_isNode, .static yX0_isNode, .code yX0_isNode cX0_isNode 1 (some .boolean), .methodLink RX0 118 yX0_lowerWayCosts, .instanceMethod yX0_lowerWayCosts, .selects RX0 yX0_lowerWayCosts yX0_lowerWayCosts, .code yX0_lowerWayCosts cX0_lowerWayCosts 4 none, .fieldLink RX0 30 "RankMesh" "costOf" "[[I", .methodLink RX0 141 Lib.Math.min.name, .static Lib.Math.min.name, .initialized "java/lang/Math", .code Lib.Math.min.name Lib.Math.min.code 2 (some .int)] ++ wsX00 ++ (vx_atS RX0 136 "java/lang/IndexOutOfBoundsException" ["java/lang/RuntimeException", "java/lang/Exception"]).filter goodWord)
def wsX0_up : List Cond := .code yX0_up cX0_up 7 (some .int) :: ([.fieldLink RX0 42 "RankMesh" "isRoot" "[Z", .fieldLink RX0 62 "RankMesh" "parentOf" "[I", .fieldLink RX0 56 "RankMesh" "rankOf" "[I", .fieldLink RX0 25 "RankMesh" "droppedPackets" "I", .methodLink RX0 89 yX0_requireNode, .static yX0_requireNode, .initialized RX0, .code yX0_requireNode cX0_requireNode 1 none, .classLink RX0 132 "java/lang/IndexOutOfBoundsException", .initialized "java/lang/IndexOutOfBoundsException", .methodLink RX0 121 yX0_isNode, .static yX0_isNode, .code yX0_isNode cX0_isNode 1 (some .boolean)] ++ wsX00 ++ (vx_atS RX0 136 "java/lang/IndexOutOfBoundsException" ["java/lang/RuntimeException", "java/lang/Exception"]).filter goodWord)
def wsX0_loops : List Cond := .code yX0_loops cX0_loops 1 (some .int) :: ([.fieldLink RX0 25 "RankMesh" "droppedPackets" "I"] ++ wsX00)
def wsX0_childrenOf : List Cond := .code yX0_childrenOf cX0_childrenOf 5 (some .int) :: ([.fieldLink RX0 62 "RankMesh" "parentOf" "[I", .methodLink RX0 121 yX0_isNode, .static yX0_isNode, .initialized RX0, .code yX0_isNode cX0_isNode 1 (some .boolean)] ++ wsX00)
def wsX0_below : List Cond := .code yX0_below cX0_below 4 (some .int) :: ([.methodLink RX0 89 yX0_requireNode, .static yX0_requireNode, .initialized RX0, .code yX0_requireNode cX0_requireNode 1 none, .classLink RX0 132 "java/lang/IndexOutOfBoundsException", .initialized "java/lang/IndexOutOfBoundsException", .methodLink RX0 121 yX0_isNode, .static yX0_isNode, .code yX0_isNode cX0_isNode 1 (some .boolean), .methodLink RX0 125 yX0_childrenOf, .instanceMethod yX0_childrenOf, .selects RX0 yX0_childrenOf yX0_childrenOf, .code yX0_childrenOf cX0_childrenOf 5 (some .int), .fieldLink RX0 62 "RankMesh" "parentOf" "[I"] ++ wsX00 ++ (vx_atS RX0 136 "java/lang/IndexOutOfBoundsException" ["java/lang/RuntimeException", "java/lang/Exception"]).filter goodWord)
def wsX0_down : List Cond := .code yX0_down cX0_down 5 (some .int) :: ([.classLink RX0 102 "java/lang/IllegalStateException", .initialized "java/lang/IllegalStateException", .fieldLink RX0 62 "RankMesh" "parentOf" "[I", .methodLink RX0 89 yX0_requireNode, .static yX0_requireNode, .initialized RX0, .code yX0_requireNode cX0_requireNode 1 none, .classLink RX0 132 "java/lang/IndexOutOfBoundsException", .initialized "java/lang/IndexOutOfBoundsException", .methodLink RX0 121 yX0_isNode, .static yX0_isNode, .code yX0_isNode cX0_isNode 1 (some .boolean)] ++ wsX00 ++ (vx_atS RX0 106 "java/lang/IllegalStateException" ["java/lang/RuntimeException", "java/lang/Exception"]).filter goodWord ++ (vx_atS RX0 136 "java/lang/IndexOutOfBoundsException" ["java/lang/RuntimeException", "java/lang/Exception"]).filter goodWord)
def wsJ9_min_7cf53 : List Cond := .code yJ9_min_7cf53 cJ9_min_7cf53 2 (some .int) :: ([])
def wsL_part : List Cond := .code yL_part cL_part 4 (some .int) :: ([.constant RL 7 (2147483647)])
def wsL_told_r1 : List Cond := [Cond.methodLink RL 8 yX0_setRules, Cond.instanceMethod yX0_setRules, Cond.selects RX0 yX0_setRules yX0_setRules, Cond.initialized RX0, Cond.code yX0_setRules cX0_setRules 5 none, Cond.fieldLink RX0 9 "RankMesh" "hysteresis" "I", Cond.fieldLink RX0 13 "RankMesh" "increase" "I", Cond.fieldLink RX0 16 "RankMesh" "leastInterval" "I", Cond.fieldLink RX0 19 "RankMesh" "doublings" "I", Cond.methodLink RX0 85 yX0_requireRange, Cond.static yX0_requireRange, Cond.code yX0_requireRange cX0_requireRange 3 none, Cond.classLink RX0 92 "java/lang/IllegalArgumentException", Cond.initialized "java/lang/IllegalArgumentException", Cond.methodLink RL 14 yX0_endRoot, Cond.instanceMethod yX0_endRoot, Cond.selects RX0 yX0_endRoot yX0_endRoot, Cond.code yX0_endRoot cX0_endRoot 2 none, Cond.fieldLink RX0 42 "RankMesh" "isRoot" "[Z", Cond.methodLink RX0 111 yX0_requireRoot, Cond.instanceMethod yX0_requireRoot, Cond.selects RX0 yX0_requireRoot yX0_requireRoot, Cond.code yX0_requireRoot cX0_requireRoot 2 none, Cond.classLink RX0 102 "java/lang/IllegalStateException"]
def wsL_told_r2 : List Cond := [Cond.initialized "java/lang/IllegalStateException", Cond.methodLink RX0 89 yX0_requireNode, Cond.static yX0_requireNode, Cond.code yX0_requireNode cX0_requireNode 1 none, Cond.classLink RX0 132 "java/lang/IndexOutOfBoundsException", Cond.initialized "java/lang/IndexOutOfBoundsException", Cond.methodLink RX0 121 yX0_isNode, Cond.static yX0_isNode, Cond.code yX0_isNode cX0_isNode 1 (some .boolean), Cond.methodLink RX0 74 yX0_clearNode, Cond.instanceMethod yX0_clearNode, Cond.selects RX0 yX0_clearNode yX0_clearNode, Cond.code yX0_clearNode cX0_clearNode 2 none, Cond.fieldLink RX0 50 "RankMesh" "treeOf" "[I", Cond.fieldLink RX0 53 "RankMesh" "versionOf" "[I", Cond.fieldLink RX0 56 "RankMesh" "rankOf" "[I", Cond.fieldLink RX0 59 "RankMesh" "lowestRank" "[I", Cond.fieldLink RX0 62 "RankMesh" "parentOf" "[I", Cond.methodLink RX0 78 yX0_resetTimer, Cond.instanceMethod yX0_resetTimer, Cond.selects RX0 yX0_resetTimer yX0_resetTimer, Cond.code yX0_resetTimer cX0_resetTimer 2 none, Cond.fieldLink RX0 65 "RankMesh" "interval" "[I", Cond.fieldLink RX0 68 "RankMesh" "tellsAt" "[I"]
def wsL_told_r3 : List Cond := [Cond.fieldLink RX0 22 "RankMesh" "now" "I", Cond.methodLink RX0 99 yX0_choose, Cond.instanceMethod yX0_choose, Cond.selects RX0 yX0_choose yX0_choose, Cond.code yX0_choose cX0_choose 3 none, Cond.methodLink RX0 153 yX0_bestCandidate, Cond.instanceMethod yX0_bestCandidate, Cond.selects RX0 yX0_bestCandidate yX0_bestCandidate, Cond.code yX0_bestCandidate cX0_bestCandidate 6 (some .int), Cond.methodLink RX0 169 yX0_rankBy, Cond.instanceMethod yX0_rankBy, Cond.selects RX0 yX0_rankBy yX0_rankBy, Cond.code yX0_rankBy cX0_rankBy 3 (some .int), Cond.fieldLink RX0 39 "RankMesh" "heardRank" "[[I", Cond.fieldLink RX0 30 "RankMesh" "costOf" "[[I", Cond.methodLink RX0 166 yX0_isCandidate, Cond.instanceMethod yX0_isCandidate, Cond.selects RX0 yX0_isCandidate yX0_isCandidate, Cond.code yX0_isCandidate cX0_isCandidate 4 (some .boolean), Cond.methodLink RX0 172 yX0_isOutdated, Cond.instanceMethod yX0_isOutdated, Cond.selects RX0 yX0_isOutdated yX0_isOutdated, Cond.code yX0_isOutdated cX0_isOutdated 6 (some .boolean), Cond.fieldLink RX0 33 "RankMesh" "heardTree" "[[I"]
def wsL_told_r4 : List Cond := [Cond.fieldLink RX0 36 "RankMesh" "heardVersion" "[[I", Cond.methodLink RX0 175 yX0_isTooDeep, Cond.instanceMethod yX0_isTooDeep, Cond.selects RX0 yX0_isTooDeep yX0_isTooDeep, Cond.code yX0_isTooDeep cX0_isTooDeep 3 (some .boolean), Cond.methodLink RX0 178 yX0_heardOwnVersion, Cond.instanceMethod yX0_heardOwnVersion, Cond.selects RX0 yX0_heardOwnVersion yX0_heardOwnVersion, Cond.code yX0_heardOwnVersion cX0_heardOwnVersion 3 (some .boolean), Cond.methodLink RX0 156 yX0_loseParent, Cond.instanceMethod yX0_loseParent, Cond.selects RX0 yX0_loseParent yX0_loseParent, Cond.code yX0_loseParent cX0_loseParent 3 none, Cond.methodLink RX0 159 yX0_keepsParent, Cond.instanceMethod yX0_keepsParent, Cond.selects RX0 yX0_keepsParent yX0_keepsParent, Cond.code yX0_keepsParent cX0_keepsParent 5 (some .boolean), Cond.methodLink RX0 163 yX0_follow, Cond.instanceMethod yX0_follow, Cond.selects RX0 yX0_follow yX0_follow, Cond.code yX0_follow cX0_follow 6 none, Cond.methodLink RX0 141 Lib.Math.min.name, Cond.static Lib.Math.min.name, Cond.initialized "java/lang/Math"]
def wsL_told_r5 : List Cond := [Cond.code Lib.Math.min.name Lib.Math.min.code 2 (some .int)]
def wsL_told : List Cond := .code yL_told cL_told 6 (some .int) :: ((wsL_told_r1 ++ (wsL_told_r2 ++ (wsL_told_r3 ++ (wsL_told_r4 ++ wsL_told_r5)))) ++ wsX00 ++ (vx_atS RX0 96 "java/lang/IllegalArgumentException" ["java/lang/RuntimeException", "java/lang/Exception"]).filter goodWord ++ (vx_atS RX0 106 "java/lang/IllegalStateException" ["java/lang/RuntimeException", "java/lang/Exception"]).filter goodWord ++ (vx_atS RX0 136 "java/lang/IndexOutOfBoundsException" ["java/lang/RuntimeException", "java/lang/Exception"]).filter goodWord)
def wsL_does_r1 : List Cond := [Cond.classLink RL 42 "java/lang/IndexOutOfBoundsException", Cond.classLink RL 44 "java/lang/IllegalArgumentException", Cond.classLink RL 46 "java/lang/IllegalStateException", Cond.methodLink RL 18 yL_told, Cond.static yL_told, Cond.initialized RL, Cond.code yL_told cL_told 6 (some .int), Cond.methodLink RL 8 yX0_setRules, Cond.instanceMethod yX0_setRules, Cond.selects RX0 yX0_setRules yX0_setRules, Cond.initialized RX0, Cond.code yX0_setRules cX0_setRules 5 none, Cond.fieldLink RX0 9 "RankMesh" "hysteresis" "I", Cond.fieldLink RX0 13 "RankMesh" "increase" "I", Cond.fieldLink RX0 16 "RankMesh" "leastInterval" "I", Cond.fieldLink RX0 19 "RankMesh" "doublings" "I", Cond.methodLink RX0 85 yX0_requireRange, Cond.static yX0_requireRange, Cond.code yX0_requireRange cX0_requireRange 3 none, Cond.classLink RX0 92 "java/lang/IllegalArgumentException", Cond.initialized "java/lang/IllegalArgumentException", Cond.methodLink RL 14 yX0_endRoot, Cond.instanceMethod yX0_endRoot, Cond.selects RX0 yX0_endRoot yX0_endRoot]
def wsL_does_r2 : List Cond := [Cond.code yX0_endRoot cX0_endRoot 2 none, Cond.fieldLink RX0 42 "RankMesh" "isRoot" "[Z", Cond.methodLink RX0 111 yX0_requireRoot, Cond.instanceMethod yX0_requireRoot, Cond.selects RX0 yX0_requireRoot yX0_requireRoot, Cond.code yX0_requireRoot cX0_requireRoot 2 none, Cond.classLink RX0 102 "java/lang/IllegalStateException", Cond.initialized "java/lang/IllegalStateException", Cond.methodLink RX0 89 yX0_requireNode, Cond.static yX0_requireNode, Cond.code yX0_requireNode cX0_requireNode 1 none, Cond.classLink RX0 132 "java/lang/IndexOutOfBoundsException", Cond.initialized "java/lang/IndexOutOfBoundsException", Cond.methodLink RX0 121 yX0_isNode, Cond.static yX0_isNode, Cond.code yX0_isNode cX0_isNode 1 (some .boolean), Cond.methodLink RX0 74 yX0_clearNode, Cond.instanceMethod yX0_clearNode, Cond.selects RX0 yX0_clearNode yX0_clearNode, Cond.code yX0_clearNode cX0_clearNode 2 none, Cond.fieldLink RX0 50 "RankMesh" "treeOf" "[I", Cond.fieldLink RX0 53 "RankMesh" "versionOf" "[I", Cond.fieldLink RX0 56 "RankMesh" "rankOf" "[I", Cond.fieldLink RX0 59 "RankMesh" "lowestRank" "[I"]
def wsL_does_r3 : List Cond := [Cond.fieldLink RX0 62 "RankMesh" "parentOf" "[I", Cond.methodLink RX0 78 yX0_resetTimer, Cond.instanceMethod yX0_resetTimer, Cond.selects RX0 yX0_resetTimer yX0_resetTimer, Cond.code yX0_resetTimer cX0_resetTimer 2 none, Cond.fieldLink RX0 65 "RankMesh" "interval" "[I", Cond.fieldLink RX0 68 "RankMesh" "tellsAt" "[I", Cond.fieldLink RX0 22 "RankMesh" "now" "I", Cond.methodLink RX0 99 yX0_choose, Cond.instanceMethod yX0_choose, Cond.selects RX0 yX0_choose yX0_choose, Cond.code yX0_choose cX0_choose 3 none, Cond.methodLink RX0 153 yX0_bestCandidate, Cond.instanceMethod yX0_bestCandidate, Cond.selects RX0 yX0_bestCandidate yX0_bestCandidate, Cond.code yX0_bestCandidate cX0_bestCandidate 6 (some .int), Cond.methodLink RX0 169 yX0_rankBy, Cond.instanceMethod yX0_rankBy, Cond.selects RX0 yX0_rankBy yX0_rankBy, Cond.code yX0_rankBy cX0_rankBy 3 (some .int), Cond.fieldLink RX0 39 "RankMesh" "heardRank" "[[I", Cond.fieldLink RX0 30 "RankMesh" "costOf" "[[I", Cond.methodLink RX0 166 yX0_isCandidate, Cond.instanceMethod yX0_isCandidate]
def wsL_does_r4 : List Cond := [Cond.selects RX0 yX0_isCandidate yX0_isCandidate, Cond.code yX0_isCandidate cX0_isCandidate 4 (some .boolean), Cond.methodLink RX0 172 yX0_isOutdated, Cond.instanceMethod yX0_isOutdated, Cond.selects RX0 yX0_isOutdated yX0_isOutdated, Cond.code yX0_isOutdated cX0_isOutdated 6 (some .boolean), Cond.fieldLink RX0 33 "RankMesh" "heardTree" "[[I", Cond.fieldLink RX0 36 "RankMesh" "heardVersion" "[[I", Cond.methodLink RX0 175 yX0_isTooDeep, Cond.instanceMethod yX0_isTooDeep, Cond.selects RX0 yX0_isTooDeep yX0_isTooDeep, Cond.code yX0_isTooDeep cX0_isTooDeep 3 (some .boolean), Cond.methodLink RX0 178 yX0_heardOwnVersion, Cond.instanceMethod yX0_heardOwnVersion, Cond.selects RX0 yX0_heardOwnVersion yX0_heardOwnVersion, Cond.code yX0_heardOwnVersion cX0_heardOwnVersion 3 (some .boolean), Cond.methodLink RX0 156 yX0_loseParent, Cond.instanceMethod yX0_loseParent, Cond.selects RX0 yX0_loseParent yX0_loseParent, Cond.code yX0_loseParent cX0_loseParent 3 none, Cond.methodLink RX0 159 yX0_keepsParent, Cond.instanceMethod yX0_keepsParent, Cond.selects RX0 yX0_keepsParent yX0_keepsParent, Cond.code yX0_keepsParent cX0_keepsParent 5 (some .boolean)]
def wsL_does_r5 : List Cond := [Cond.methodLink RX0 163 yX0_follow, Cond.instanceMethod yX0_follow, Cond.selects RX0 yX0_follow yX0_follow, Cond.code yX0_follow cX0_follow 6 none, Cond.methodLink RX0 141 Lib.Math.min.name, Cond.static Lib.Math.min.name, Cond.initialized "java/lang/Math", Cond.code Lib.Math.min.name Lib.Math.min.code 2 (some .int), Cond.methodLink RL 24 yX0_link, Cond.instanceMethod yX0_link, Cond.selects RX0 yX0_link yX0_link, Cond.code yX0_link cX0_link 5 (some .int), Cond.methodLink RX0 81 yX0_forget, Cond.instanceMethod yX0_forget, Cond.selects RX0 yX0_forget yX0_forget, Cond.code yX0_forget cX0_forget 3 none, Cond.methodLink RL 28 yX0_makeRoot, Cond.instanceMethod yX0_makeRoot, Cond.selects RX0 yX0_makeRoot yX0_makeRoot, Cond.code yX0_makeRoot cX0_makeRoot 2 (some .int), Cond.methodLink RX0 107 yX0_beginVersion, Cond.instanceMethod yX0_beginVersion, Cond.selects RX0 yX0_beginVersion yX0_beginVersion, Cond.code yX0_beginVersion cX0_beginVersion 2 (some .int)]
def wsL_does_r6 : List Cond := [Cond.fieldLink RX0 46 "RankMesh" "lastRootVersion" "[I", Cond.methodLink RL 32 yX0_renew, Cond.instanceMethod yX0_renew, Cond.selects RX0 yX0_renew yX0_renew, Cond.code yX0_renew cX0_renew 2 (some .int), Cond.methodLink RL 35 yX0_pass, Cond.instanceMethod yX0_pass, Cond.selects RX0 yX0_pass yX0_pass, Cond.code yX0_pass cX0_pass 4 (some .int), Cond.methodLink RX0 114 yX0_passTick, Cond.instanceMethod yX0_passTick, Cond.selects RX0 yX0_passTick yX0_passTick, Cond.code yX0_passTick cX0_passTick 3 (some .int), Cond.methodLink RX0 147 yX0_tell, Cond.instanceMethod yX0_tell, Cond.selects RX0 yX0_tell yX0_tell, Cond.code yX0_tell cX0_tell 3 none, Cond.methodLink RX0 150 yX0_lengthenTimer, Cond.instanceMethod yX0_lengthenTimer, Cond.selects RX0 yX0_lengthenTimer yX0_lengthenTimer, Cond.code yX0_lengthenTimer cX0_lengthenTimer 2 none, Cond.methodLink RL 38 yX0_down, Cond.instanceMethod yX0_down, Cond.selects RX0 yX0_down yX0_down]
def wsL_does_r7 : List Cond := [Cond.code yX0_down cX0_down 5 (some .int)]
def wsL_does : List Cond := .codeWith yL_does cL_does 7 (some .int) [(0, 80, 81, 42), (0, 80, 86, 44), (0, 80, 91, 46)] :: ((wsL_does_r1 ++ (wsL_does_r2 ++ (wsL_does_r3 ++ (wsL_does_r4 ++ (wsL_does_r5 ++ (wsL_does_r6 ++ wsL_does_r7)))))) ++ wsX00 ++ (vx_atS RX0 96 "java/lang/IllegalArgumentException" ["java/lang/RuntimeException", "java/lang/Exception"]).filter goodWord ++ (vx_atS RX0 106 "java/lang/IllegalStateException" ["java/lang/RuntimeException", "java/lang/Exception"]).filter goodWord ++ (vx_atS RX0 136 "java/lang/IndexOutOfBoundsException" ["java/lang/RuntimeException", "java/lang/Exception"]).filter goodWord)
def wsL_asks_r1 : List Cond := [Cond.classLink RL 42 "java/lang/IndexOutOfBoundsException", Cond.methodLink RL 48 yX0_rank, Cond.instanceMethod yX0_rank, Cond.selects RX0 yX0_rank yX0_rank, Cond.initialized RX0, Cond.code yX0_rank cX0_rank 2 (some .int), Cond.fieldLink RX0 56 "RankMesh" "rankOf" "[I", Cond.methodLink RX0 89 yX0_requireNode, Cond.static yX0_requireNode, Cond.code yX0_requireNode cX0_requireNode 1 none, Cond.classLink RX0 132 "java/lang/IndexOutOfBoundsException", Cond.initialized "java/lang/IndexOutOfBoundsException", Cond.methodLink RX0 121 yX0_isNode, Cond.static yX0_isNode, Cond.code yX0_isNode cX0_isNode 1 (some .boolean), Cond.methodLink RL 51 yX0_parent, Cond.instanceMethod yX0_parent, Cond.selects RX0 yX0_parent yX0_parent, Cond.code yX0_parent cX0_parent 2 (some .int), Cond.fieldLink RX0 62 "RankMesh" "parentOf" "[I", Cond.methodLink RL 54 yX0_tree, Cond.instanceMethod yX0_tree, Cond.selects RX0 yX0_tree yX0_tree, Cond.code yX0_tree cX0_tree 2 (some .int)]
def wsL_asks_r2 : List Cond := [Cond.fieldLink RX0 50 "RankMesh" "treeOf" "[I", Cond.fieldLink RX0 53 "RankMesh" "versionOf" "[I", Cond.methodLink RL 57 yX0_nextTelling, Cond.instanceMethod yX0_nextTelling, Cond.selects RX0 yX0_nextTelling yX0_nextTelling, Cond.code yX0_nextTelling cX0_nextTelling 2 (some .int), Cond.fieldLink RX0 68 "RankMesh" "tellsAt" "[I", Cond.methodLink RL 60 yX0_heard, Cond.instanceMethod yX0_heard, Cond.selects RX0 yX0_heard yX0_heard, Cond.code yX0_heard cX0_heard 3 (some .int), Cond.fieldLink RX0 39 "RankMesh" "heardRank" "[[I", Cond.methodLink RL 63 yX0_leastRank, Cond.instanceMethod yX0_leastRank, Cond.selects RX0 yX0_leastRank yX0_leastRank, Cond.code yX0_leastRank cX0_leastRank 3 (some .int), Cond.fieldLink RX0 71 "RankMesh" "wayCost" "[I", Cond.fieldLink RX0 42 "RankMesh" "isRoot" "[Z", Cond.methodLink RX0 118 yX0_lowerWayCosts, Cond.instanceMethod yX0_lowerWayCosts, Cond.selects RX0 yX0_lowerWayCosts yX0_lowerWayCosts, Cond.code yX0_lowerWayCosts cX0_lowerWayCosts 4 none, Cond.fieldLink RX0 30 "RankMesh" "costOf" "[[I", Cond.methodLink RX0 141 Lib.Math.min.name]
def wsL_asks_r3 : List Cond := [Cond.static Lib.Math.min.name, Cond.initialized "java/lang/Math", Cond.code Lib.Math.min.name Lib.Math.min.code 2 (some .int), Cond.methodLink RL 66 yX0_up, Cond.instanceMethod yX0_up, Cond.selects RX0 yX0_up yX0_up, Cond.code yX0_up cX0_up 7 (some .int), Cond.fieldLink RX0 25 "RankMesh" "droppedPackets" "I", Cond.methodLink RL 69 yX0_below, Cond.instanceMethod yX0_below, Cond.selects RX0 yX0_below yX0_below, Cond.code yX0_below cX0_below 4 (some .int), Cond.methodLink RX0 125 yX0_childrenOf, Cond.instanceMethod yX0_childrenOf, Cond.selects RX0 yX0_childrenOf yX0_childrenOf, Cond.code yX0_childrenOf cX0_childrenOf 5 (some .int)]
def wsL_asks : List Cond := .codeWith yL_asks cL_asks 5 (some .int) [(0, 97, 98, 42)] :: ((wsL_asks_r1 ++ (wsL_asks_r2 ++ wsL_asks_r3)) ++ wsX00 ++ (vx_atS RX0 136 "java/lang/IndexOutOfBoundsException" ["java/lang/RuntimeException", "java/lang/Exception"]).filter goodWord)
def wsL_cost : List Cond := .code yL_cost cL_cost 3 (some .int) :: ([])
def wsL_isNode_r1 : List Cond := [Cond.methodLink RL 48 yX0_rank, Cond.instanceMethod yX0_rank, Cond.selects RX0 yX0_rank yX0_rank, Cond.initialized RX0, Cond.code yX0_rank cX0_rank 2 (some .int), Cond.fieldLink RX0 56 "RankMesh" "rankOf" "[I", Cond.methodLink RX0 89 yX0_requireNode, Cond.static yX0_requireNode, Cond.code yX0_requireNode cX0_requireNode 1 none, Cond.classLink RX0 132 "java/lang/IndexOutOfBoundsException", Cond.initialized "java/lang/IndexOutOfBoundsException", Cond.methodLink RX0 121 yX0_isNode, Cond.static yX0_isNode, Cond.code yX0_isNode cX0_isNode 1 (some .boolean), Cond.methodLink RL 51 yX0_parent, Cond.instanceMethod yX0_parent, Cond.selects RX0 yX0_parent yX0_parent, Cond.code yX0_parent cX0_parent 2 (some .int), Cond.fieldLink RX0 62 "RankMesh" "parentOf" "[I", Cond.methodLink RL 54 yX0_tree, Cond.instanceMethod yX0_tree, Cond.selects RX0 yX0_tree yX0_tree, Cond.code yX0_tree cX0_tree 2 (some .int), Cond.fieldLink RX0 50 "RankMesh" "treeOf" "[I"]
def wsL_isNode_r2 : List Cond := [Cond.fieldLink RX0 53 "RankMesh" "versionOf" "[I", Cond.methodLink RL 57 yX0_nextTelling, Cond.instanceMethod yX0_nextTelling, Cond.selects RX0 yX0_nextTelling yX0_nextTelling, Cond.code yX0_nextTelling cX0_nextTelling 2 (some .int), Cond.fieldLink RX0 68 "RankMesh" "tellsAt" "[I", Cond.methodLink RL 60 yX0_heard, Cond.instanceMethod yX0_heard, Cond.selects RX0 yX0_heard yX0_heard, Cond.code yX0_heard cX0_heard 3 (some .int), Cond.fieldLink RX0 39 "RankMesh" "heardRank" "[[I", Cond.methodLink RL 72 yL_cost, Cond.static yL_cost, Cond.initialized RL, Cond.code yL_cost cL_cost 3 (some .int)]
def wsL_isNode : List Cond := .code yL_isNode cL_isNode 11 (some .boolean) :: ((wsL_isNode_r1 ++ wsL_isNode_r2) ++ wsX00 ++ (vx_atS RX0 136 "java/lang/IndexOutOfBoundsException" ["java/lang/RuntimeException", "java/lang/Exception"]).filter goodWord)
def wsL_isLeast_r1 : List Cond := [Cond.methodLink RL 72 yL_cost, Cond.static yL_cost, Cond.initialized RL, Cond.code yL_cost cL_cost 3 (some .int), Cond.methodLink RL 63 yX0_leastRank, Cond.instanceMethod yX0_leastRank, Cond.selects RX0 yX0_leastRank yX0_leastRank, Cond.initialized RX0, Cond.code yX0_leastRank cX0_leastRank 3 (some .int), Cond.fieldLink RX0 71 "RankMesh" "wayCost" "[I", Cond.fieldLink RX0 42 "RankMesh" "isRoot" "[Z", Cond.methodLink RX0 89 yX0_requireNode, Cond.static yX0_requireNode, Cond.code yX0_requireNode cX0_requireNode 1 none, Cond.classLink RX0 132 "java/lang/IndexOutOfBoundsException", Cond.initialized "java/lang/IndexOutOfBoundsException", Cond.methodLink RX0 121 yX0_isNode, Cond.static yX0_isNode, Cond.code yX0_isNode cX0_isNode 1 (some .boolean), Cond.methodLink RX0 118 yX0_lowerWayCosts, Cond.instanceMethod yX0_lowerWayCosts, Cond.selects RX0 yX0_lowerWayCosts yX0_lowerWayCosts, Cond.code yX0_lowerWayCosts cX0_lowerWayCosts 4 none, Cond.fieldLink RX0 30 "RankMesh" "costOf" "[[I"]
def wsL_isLeast_r2 : List Cond := [Cond.methodLink RX0 141 Lib.Math.min.name, Cond.static Lib.Math.min.name, Cond.initialized "java/lang/Math", Cond.code Lib.Math.min.name Lib.Math.min.code 2 (some .int)]
def wsL_isLeast : List Cond := .code yL_isLeast cL_isLeast 8 (some .boolean) :: ((wsL_isLeast_r1 ++ wsL_isLeast_r2) ++ wsX00 ++ (vx_atS RX0 136 "java/lang/IndexOutOfBoundsException" ["java/lang/RuntimeException", "java/lang/Exception"]).filter goodWord)
def wsL_isPacket_r1 : List Cond := [Cond.methodLink RL 51 yX0_parent, Cond.instanceMethod yX0_parent, Cond.selects RX0 yX0_parent yX0_parent, Cond.initialized RX0, Cond.code yX0_parent cX0_parent 2 (some .int), Cond.fieldLink RX0 62 "RankMesh" "parentOf" "[I", Cond.methodLink RX0 89 yX0_requireNode, Cond.static yX0_requireNode, Cond.code yX0_requireNode cX0_requireNode 1 none, Cond.classLink RX0 132 "java/lang/IndexOutOfBoundsException", Cond.initialized "java/lang/IndexOutOfBoundsException", Cond.methodLink RX0 121 yX0_isNode, Cond.static yX0_isNode, Cond.code yX0_isNode cX0_isNode 1 (some .boolean), Cond.methodLink RL 48 yX0_rank, Cond.instanceMethod yX0_rank, Cond.selects RX0 yX0_rank yX0_rank, Cond.code yX0_rank cX0_rank 2 (some .int), Cond.fieldLink RX0 56 "RankMesh" "rankOf" "[I", Cond.methodLink RL 66 yX0_up, Cond.instanceMethod yX0_up, Cond.selects RX0 yX0_up yX0_up, Cond.code yX0_up cX0_up 7 (some .int), Cond.fieldLink RX0 42 "RankMesh" "isRoot" "[Z"]
def wsL_isPacket_r2 : List Cond := [Cond.fieldLink RX0 25 "RankMesh" "droppedPackets" "I", Cond.methodLink RL 76 yX0_loops, Cond.instanceMethod yX0_loops, Cond.selects RX0 yX0_loops yX0_loops, Cond.code yX0_loops cX0_loops 1 (some .int)]
def wsL_isPacket : List Cond := .code yL_isPacket cL_isPacket 7 (some .boolean) :: ((wsL_isPacket_r1 ++ wsL_isPacket_r2) ++ wsX00 ++ (vx_atS RX0 136 "java/lang/IndexOutOfBoundsException" ["java/lang/RuntimeException", "java/lang/Exception"]).filter goodWord)
def wsL_isBelow_r1 : List Cond := [Cond.methodLink RL 69 yX0_below, Cond.instanceMethod yX0_below, Cond.selects RX0 yX0_below yX0_below, Cond.initialized RX0, Cond.code yX0_below cX0_below 4 (some .int), Cond.methodLink RX0 89 yX0_requireNode, Cond.static yX0_requireNode, Cond.code yX0_requireNode cX0_requireNode 1 none, Cond.classLink RX0 132 "java/lang/IndexOutOfBoundsException", Cond.initialized "java/lang/IndexOutOfBoundsException", Cond.methodLink RX0 121 yX0_isNode, Cond.static yX0_isNode, Cond.code yX0_isNode cX0_isNode 1 (some .boolean), Cond.methodLink RX0 125 yX0_childrenOf, Cond.instanceMethod yX0_childrenOf, Cond.selects RX0 yX0_childrenOf yX0_childrenOf, Cond.code yX0_childrenOf cX0_childrenOf 5 (some .int), Cond.fieldLink RX0 62 "RankMesh" "parentOf" "[I", Cond.methodLink RL 51 yX0_parent, Cond.instanceMethod yX0_parent, Cond.selects RX0 yX0_parent yX0_parent, Cond.code yX0_parent cX0_parent 2 (some .int), Cond.methodLink RL 80 yL_does, Cond.static yL_does]
def wsL_isBelow_r2 : List Cond := [Cond.initialized RL, Cond.codeWith yL_does cL_does 7 (some .int) [(0, 80, 81, 42), (0, 80, 86, 44), (0, 80, 91, 46)], Cond.classLink RL 42 "java/lang/IndexOutOfBoundsException", Cond.classLink RL 44 "java/lang/IllegalArgumentException", Cond.classLink RL 46 "java/lang/IllegalStateException", Cond.methodLink RL 18 yL_told, Cond.static yL_told, Cond.code yL_told cL_told 6 (some .int), Cond.methodLink RL 8 yX0_setRules, Cond.instanceMethod yX0_setRules, Cond.selects RX0 yX0_setRules yX0_setRules, Cond.code yX0_setRules cX0_setRules 5 none, Cond.fieldLink RX0 9 "RankMesh" "hysteresis" "I", Cond.fieldLink RX0 13 "RankMesh" "increase" "I", Cond.fieldLink RX0 16 "RankMesh" "leastInterval" "I", Cond.fieldLink RX0 19 "RankMesh" "doublings" "I", Cond.methodLink RX0 85 yX0_requireRange, Cond.static yX0_requireRange, Cond.code yX0_requireRange cX0_requireRange 3 none, Cond.classLink RX0 92 "java/lang/IllegalArgumentException", Cond.initialized "java/lang/IllegalArgumentException", Cond.methodLink RL 14 yX0_endRoot, Cond.instanceMethod yX0_endRoot, Cond.selects RX0 yX0_endRoot yX0_endRoot]
def wsL_isBelow_r3 : List Cond := [Cond.code yX0_endRoot cX0_endRoot 2 none, Cond.fieldLink RX0 42 "RankMesh" "isRoot" "[Z", Cond.methodLink RX0 111 yX0_requireRoot, Cond.instanceMethod yX0_requireRoot, Cond.selects RX0 yX0_requireRoot yX0_requireRoot, Cond.code yX0_requireRoot cX0_requireRoot 2 none, Cond.classLink RX0 102 "java/lang/IllegalStateException", Cond.initialized "java/lang/IllegalStateException", Cond.methodLink RX0 74 yX0_clearNode, Cond.instanceMethod yX0_clearNode, Cond.selects RX0 yX0_clearNode yX0_clearNode, Cond.code yX0_clearNode cX0_clearNode 2 none, Cond.fieldLink RX0 50 "RankMesh" "treeOf" "[I", Cond.fieldLink RX0 53 "RankMesh" "versionOf" "[I", Cond.fieldLink RX0 56 "RankMesh" "rankOf" "[I", Cond.fieldLink RX0 59 "RankMesh" "lowestRank" "[I", Cond.methodLink RX0 78 yX0_resetTimer, Cond.instanceMethod yX0_resetTimer, Cond.selects RX0 yX0_resetTimer yX0_resetTimer, Cond.code yX0_resetTimer cX0_resetTimer 2 none, Cond.fieldLink RX0 65 "RankMesh" "interval" "[I", Cond.fieldLink RX0 68 "RankMesh" "tellsAt" "[I", Cond.fieldLink RX0 22 "RankMesh" "now" "I", Cond.methodLink RX0 99 yX0_choose]
def wsL_isBelow_r4 : List Cond := [Cond.instanceMethod yX0_choose, Cond.selects RX0 yX0_choose yX0_choose, Cond.code yX0_choose cX0_choose 3 none, Cond.methodLink RX0 153 yX0_bestCandidate, Cond.instanceMethod yX0_bestCandidate, Cond.selects RX0 yX0_bestCandidate yX0_bestCandidate, Cond.code yX0_bestCandidate cX0_bestCandidate 6 (some .int), Cond.methodLink RX0 169 yX0_rankBy, Cond.instanceMethod yX0_rankBy, Cond.selects RX0 yX0_rankBy yX0_rankBy, Cond.code yX0_rankBy cX0_rankBy 3 (some .int), Cond.fieldLink RX0 39 "RankMesh" "heardRank" "[[I", Cond.fieldLink RX0 30 "RankMesh" "costOf" "[[I", Cond.methodLink RX0 166 yX0_isCandidate, Cond.instanceMethod yX0_isCandidate, Cond.selects RX0 yX0_isCandidate yX0_isCandidate, Cond.code yX0_isCandidate cX0_isCandidate 4 (some .boolean), Cond.methodLink RX0 172 yX0_isOutdated, Cond.instanceMethod yX0_isOutdated, Cond.selects RX0 yX0_isOutdated yX0_isOutdated, Cond.code yX0_isOutdated cX0_isOutdated 6 (some .boolean), Cond.fieldLink RX0 33 "RankMesh" "heardTree" "[[I", Cond.fieldLink RX0 36 "RankMesh" "heardVersion" "[[I", Cond.methodLink RX0 175 yX0_isTooDeep]
def wsL_isBelow_r5 : List Cond := [Cond.instanceMethod yX0_isTooDeep, Cond.selects RX0 yX0_isTooDeep yX0_isTooDeep, Cond.code yX0_isTooDeep cX0_isTooDeep 3 (some .boolean), Cond.methodLink RX0 178 yX0_heardOwnVersion, Cond.instanceMethod yX0_heardOwnVersion, Cond.selects RX0 yX0_heardOwnVersion yX0_heardOwnVersion, Cond.code yX0_heardOwnVersion cX0_heardOwnVersion 3 (some .boolean), Cond.methodLink RX0 156 yX0_loseParent, Cond.instanceMethod yX0_loseParent, Cond.selects RX0 yX0_loseParent yX0_loseParent, Cond.code yX0_loseParent cX0_loseParent 3 none, Cond.methodLink RX0 159 yX0_keepsParent, Cond.instanceMethod yX0_keepsParent, Cond.selects RX0 yX0_keepsParent yX0_keepsParent, Cond.code yX0_keepsParent cX0_keepsParent 5 (some .boolean), Cond.methodLink RX0 163 yX0_follow, Cond.instanceMethod yX0_follow, Cond.selects RX0 yX0_follow yX0_follow, Cond.code yX0_follow cX0_follow 6 none, Cond.methodLink RX0 141 Lib.Math.min.name, Cond.static Lib.Math.min.name, Cond.initialized "java/lang/Math", Cond.code Lib.Math.min.name Lib.Math.min.code 2 (some .int), Cond.methodLink RL 24 yX0_link]
def wsL_isBelow_r6 : List Cond := [Cond.instanceMethod yX0_link, Cond.selects RX0 yX0_link yX0_link, Cond.code yX0_link cX0_link 5 (some .int), Cond.methodLink RX0 81 yX0_forget, Cond.instanceMethod yX0_forget, Cond.selects RX0 yX0_forget yX0_forget, Cond.code yX0_forget cX0_forget 3 none, Cond.methodLink RL 28 yX0_makeRoot, Cond.instanceMethod yX0_makeRoot, Cond.selects RX0 yX0_makeRoot yX0_makeRoot, Cond.code yX0_makeRoot cX0_makeRoot 2 (some .int), Cond.methodLink RX0 107 yX0_beginVersion, Cond.instanceMethod yX0_beginVersion, Cond.selects RX0 yX0_beginVersion yX0_beginVersion, Cond.code yX0_beginVersion cX0_beginVersion 2 (some .int), Cond.fieldLink RX0 46 "RankMesh" "lastRootVersion" "[I", Cond.methodLink RL 32 yX0_renew, Cond.instanceMethod yX0_renew, Cond.selects RX0 yX0_renew yX0_renew, Cond.code yX0_renew cX0_renew 2 (some .int), Cond.methodLink RL 35 yX0_pass, Cond.instanceMethod yX0_pass, Cond.selects RX0 yX0_pass yX0_pass, Cond.code yX0_pass cX0_pass 4 (some .int)]
def wsL_isBelow_r7 : List Cond := [Cond.methodLink RX0 114 yX0_passTick, Cond.instanceMethod yX0_passTick, Cond.selects RX0 yX0_passTick yX0_passTick, Cond.code yX0_passTick cX0_passTick 3 (some .int), Cond.methodLink RX0 147 yX0_tell, Cond.instanceMethod yX0_tell, Cond.selects RX0 yX0_tell yX0_tell, Cond.code yX0_tell cX0_tell 3 none, Cond.methodLink RX0 150 yX0_lengthenTimer, Cond.instanceMethod yX0_lengthenTimer, Cond.selects RX0 yX0_lengthenTimer yX0_lengthenTimer, Cond.code yX0_lengthenTimer cX0_lengthenTimer 2 none, Cond.methodLink RL 38 yX0_down, Cond.instanceMethod yX0_down, Cond.selects RX0 yX0_down yX0_down, Cond.code yX0_down cX0_down 5 (some .int)]
def wsL_isBelow : List Cond := .code yL_isBelow cL_isBelow 7 (some .boolean) :: ((wsL_isBelow_r1 ++ (wsL_isBelow_r2 ++ (wsL_isBelow_r3 ++ (wsL_isBelow_r4 ++ (wsL_isBelow_r5 ++ (wsL_isBelow_r6 ++ wsL_isBelow_r7)))))) ++ wsX00 ++ (vx_atS RX0 136 "java/lang/IndexOutOfBoundsException" ["java/lang/RuntimeException", "java/lang/Exception"]).filter goodWord ++ (vx_atS RX0 96 "java/lang/IllegalArgumentException" ["java/lang/RuntimeException", "java/lang/Exception"]).filter goodWord ++ (vx_atS RX0 106 "java/lang/IllegalStateException" ["java/lang/RuntimeException", "java/lang/Exception"]).filter goodWord)
def wsL_isSo_r1 : List Cond := [Cond.methodLink RL 83 yX0_time, Cond.instanceMethod yX0_time, Cond.selects RX0 yX0_time yX0_time, Cond.initialized RX0, Cond.code yX0_time cX0_time 1 (some .int), Cond.fieldLink RX0 22 "RankMesh" "now" "I", Cond.methodLink RL 86 yL_asks, Cond.static yL_asks, Cond.initialized RL, Cond.codeWith yL_asks cL_asks 5 (some .int) [(0, 97, 98, 42)], Cond.classLink RL 42 "java/lang/IndexOutOfBoundsException", Cond.methodLink RL 48 yX0_rank, Cond.instanceMethod yX0_rank, Cond.selects RX0 yX0_rank yX0_rank, Cond.code yX0_rank cX0_rank 2 (some .int), Cond.fieldLink RX0 56 "RankMesh" "rankOf" "[I", Cond.methodLink RX0 89 yX0_requireNode, Cond.static yX0_requireNode, Cond.code yX0_requireNode cX0_requireNode 1 none, Cond.classLink RX0 132 "java/lang/IndexOutOfBoundsException", Cond.initialized "java/lang/IndexOutOfBoundsException", Cond.methodLink RX0 121 yX0_isNode, Cond.static yX0_isNode, Cond.code yX0_isNode cX0_isNode 1 (some .boolean)]
def wsL_isSo_r2 : List Cond := [Cond.methodLink RL 51 yX0_parent, Cond.instanceMethod yX0_parent, Cond.selects RX0 yX0_parent yX0_parent, Cond.code yX0_parent cX0_parent 2 (some .int), Cond.fieldLink RX0 62 "RankMesh" "parentOf" "[I", Cond.methodLink RL 54 yX0_tree, Cond.instanceMethod yX0_tree, Cond.selects RX0 yX0_tree yX0_tree, Cond.code yX0_tree cX0_tree 2 (some .int), Cond.fieldLink RX0 50 "RankMesh" "treeOf" "[I", Cond.fieldLink RX0 53 "RankMesh" "versionOf" "[I", Cond.methodLink RL 57 yX0_nextTelling, Cond.instanceMethod yX0_nextTelling, Cond.selects RX0 yX0_nextTelling yX0_nextTelling, Cond.code yX0_nextTelling cX0_nextTelling 2 (some .int), Cond.fieldLink RX0 68 "RankMesh" "tellsAt" "[I", Cond.methodLink RL 60 yX0_heard, Cond.instanceMethod yX0_heard, Cond.selects RX0 yX0_heard yX0_heard, Cond.code yX0_heard cX0_heard 3 (some .int), Cond.fieldLink RX0 39 "RankMesh" "heardRank" "[[I", Cond.methodLink RL 63 yX0_leastRank, Cond.instanceMethod yX0_leastRank, Cond.selects RX0 yX0_leastRank yX0_leastRank]
def wsL_isSo_r3 : List Cond := [Cond.code yX0_leastRank cX0_leastRank 3 (some .int), Cond.fieldLink RX0 71 "RankMesh" "wayCost" "[I", Cond.fieldLink RX0 42 "RankMesh" "isRoot" "[Z", Cond.methodLink RX0 118 yX0_lowerWayCosts, Cond.instanceMethod yX0_lowerWayCosts, Cond.selects RX0 yX0_lowerWayCosts yX0_lowerWayCosts, Cond.code yX0_lowerWayCosts cX0_lowerWayCosts 4 none, Cond.fieldLink RX0 30 "RankMesh" "costOf" "[[I", Cond.methodLink RX0 141 Lib.Math.min.name, Cond.static Lib.Math.min.name, Cond.initialized "java/lang/Math", Cond.code Lib.Math.min.name Lib.Math.min.code 2 (some .int), Cond.methodLink RL 66 yX0_up, Cond.instanceMethod yX0_up, Cond.selects RX0 yX0_up yX0_up, Cond.code yX0_up cX0_up 7 (some .int), Cond.fieldLink RX0 25 "RankMesh" "droppedPackets" "I", Cond.methodLink RL 69 yX0_below, Cond.instanceMethod yX0_below, Cond.selects RX0 yX0_below yX0_below, Cond.code yX0_below cX0_below 4 (some .int), Cond.methodLink RX0 125 yX0_childrenOf, Cond.instanceMethod yX0_childrenOf, Cond.selects RX0 yX0_childrenOf yX0_childrenOf]
def wsL_isSo_r4 : List Cond := [Cond.code yX0_childrenOf cX0_childrenOf 5 (some .int), Cond.methodLink RL 90 yL_isNode, Cond.static yL_isNode, Cond.code yL_isNode cL_isNode 11 (some .boolean), Cond.methodLink RL 72 yL_cost, Cond.static yL_cost, Cond.code yL_cost cL_cost 3 (some .int), Cond.methodLink RL 94 yL_isPacket, Cond.static yL_isPacket, Cond.code yL_isPacket cL_isPacket 7 (some .boolean), Cond.methodLink RL 76 yX0_loops, Cond.instanceMethod yX0_loops, Cond.selects RX0 yX0_loops yX0_loops, Cond.code yX0_loops cX0_loops 1 (some .int), Cond.methodLink RL 98 yL_isBelow, Cond.static yL_isBelow, Cond.code yL_isBelow cL_isBelow 7 (some .boolean), Cond.methodLink RL 80 yL_does, Cond.static yL_does, Cond.codeWith yL_does cL_does 7 (some .int) [(0, 80, 81, 42), (0, 80, 86, 44), (0, 80, 91, 46)], Cond.classLink RL 44 "java/lang/IllegalArgumentException", Cond.classLink RL 46 "java/lang/IllegalStateException", Cond.methodLink RL 18 yL_told, Cond.static yL_told]
def wsL_isSo_r5 : List Cond := [Cond.code yL_told cL_told 6 (some .int), Cond.methodLink RL 8 yX0_setRules, Cond.instanceMethod yX0_setRules, Cond.selects RX0 yX0_setRules yX0_setRules, Cond.code yX0_setRules cX0_setRules 5 none, Cond.fieldLink RX0 9 "RankMesh" "hysteresis" "I", Cond.fieldLink RX0 13 "RankMesh" "increase" "I", Cond.fieldLink RX0 16 "RankMesh" "leastInterval" "I", Cond.fieldLink RX0 19 "RankMesh" "doublings" "I", Cond.methodLink RX0 85 yX0_requireRange, Cond.static yX0_requireRange, Cond.code yX0_requireRange cX0_requireRange 3 none, Cond.classLink RX0 92 "java/lang/IllegalArgumentException", Cond.initialized "java/lang/IllegalArgumentException", Cond.methodLink RL 14 yX0_endRoot, Cond.instanceMethod yX0_endRoot, Cond.selects RX0 yX0_endRoot yX0_endRoot, Cond.code yX0_endRoot cX0_endRoot 2 none, Cond.methodLink RX0 111 yX0_requireRoot, Cond.instanceMethod yX0_requireRoot, Cond.selects RX0 yX0_requireRoot yX0_requireRoot, Cond.code yX0_requireRoot cX0_requireRoot 2 none, Cond.classLink RX0 102 "java/lang/IllegalStateException", Cond.initialized "java/lang/IllegalStateException"]
def wsL_isSo_r6 : List Cond := [Cond.methodLink RX0 74 yX0_clearNode, Cond.instanceMethod yX0_clearNode, Cond.selects RX0 yX0_clearNode yX0_clearNode, Cond.code yX0_clearNode cX0_clearNode 2 none, Cond.fieldLink RX0 59 "RankMesh" "lowestRank" "[I", Cond.methodLink RX0 78 yX0_resetTimer, Cond.instanceMethod yX0_resetTimer, Cond.selects RX0 yX0_resetTimer yX0_resetTimer, Cond.code yX0_resetTimer cX0_resetTimer 2 none, Cond.fieldLink RX0 65 "RankMesh" "interval" "[I", Cond.methodLink RX0 99 yX0_choose, Cond.instanceMethod yX0_choose, Cond.selects RX0 yX0_choose yX0_choose, Cond.code yX0_choose cX0_choose 3 none, Cond.methodLink RX0 153 yX0_bestCandidate, Cond.instanceMethod yX0_bestCandidate, Cond.selects RX0 yX0_bestCandidate yX0_bestCandidate, Cond.code yX0_bestCandidate cX0_bestCandidate 6 (some .int), Cond.methodLink RX0 169 yX0_rankBy, Cond.instanceMethod yX0_rankBy, Cond.selects RX0 yX0_rankBy yX0_rankBy, Cond.code yX0_rankBy cX0_rankBy 3 (some .int), Cond.methodLink RX0 166 yX0_isCandidate, Cond.instanceMethod yX0_isCandidate]
def wsL_isSo_r7 : List Cond := [Cond.selects RX0 yX0_isCandidate yX0_isCandidate, Cond.code yX0_isCandidate cX0_isCandidate 4 (some .boolean), Cond.methodLink RX0 172 yX0_isOutdated, Cond.instanceMethod yX0_isOutdated, Cond.selects RX0 yX0_isOutdated yX0_isOutdated, Cond.code yX0_isOutdated cX0_isOutdated 6 (some .boolean), Cond.fieldLink RX0 33 "RankMesh" "heardTree" "[[I", Cond.fieldLink RX0 36 "RankMesh" "heardVersion" "[[I", Cond.methodLink RX0 175 yX0_isTooDeep, Cond.instanceMethod yX0_isTooDeep, Cond.selects RX0 yX0_isTooDeep yX0_isTooDeep, Cond.code yX0_isTooDeep cX0_isTooDeep 3 (some .boolean), Cond.methodLink RX0 178 yX0_heardOwnVersion, Cond.instanceMethod yX0_heardOwnVersion, Cond.selects RX0 yX0_heardOwnVersion yX0_heardOwnVersion, Cond.code yX0_heardOwnVersion cX0_heardOwnVersion 3 (some .boolean), Cond.methodLink RX0 156 yX0_loseParent, Cond.instanceMethod yX0_loseParent, Cond.selects RX0 yX0_loseParent yX0_loseParent, Cond.code yX0_loseParent cX0_loseParent 3 none, Cond.methodLink RX0 159 yX0_keepsParent, Cond.instanceMethod yX0_keepsParent, Cond.selects RX0 yX0_keepsParent yX0_keepsParent, Cond.code yX0_keepsParent cX0_keepsParent 5 (some .boolean)]
def wsL_isSo_r8 : List Cond := [Cond.methodLink RX0 163 yX0_follow, Cond.instanceMethod yX0_follow, Cond.selects RX0 yX0_follow yX0_follow, Cond.code yX0_follow cX0_follow 6 none, Cond.methodLink RL 24 yX0_link, Cond.instanceMethod yX0_link, Cond.selects RX0 yX0_link yX0_link, Cond.code yX0_link cX0_link 5 (some .int), Cond.methodLink RX0 81 yX0_forget, Cond.instanceMethod yX0_forget, Cond.selects RX0 yX0_forget yX0_forget, Cond.code yX0_forget cX0_forget 3 none, Cond.methodLink RL 28 yX0_makeRoot, Cond.instanceMethod yX0_makeRoot, Cond.selects RX0 yX0_makeRoot yX0_makeRoot, Cond.code yX0_makeRoot cX0_makeRoot 2 (some .int), Cond.methodLink RX0 107 yX0_beginVersion, Cond.instanceMethod yX0_beginVersion, Cond.selects RX0 yX0_beginVersion yX0_beginVersion, Cond.code yX0_beginVersion cX0_beginVersion 2 (some .int), Cond.fieldLink RX0 46 "RankMesh" "lastRootVersion" "[I", Cond.methodLink RL 32 yX0_renew, Cond.instanceMethod yX0_renew, Cond.selects RX0 yX0_renew yX0_renew]
def wsL_isSo_r9 : List Cond := [Cond.code yX0_renew cX0_renew 2 (some .int), Cond.methodLink RL 35 yX0_pass, Cond.instanceMethod yX0_pass, Cond.selects RX0 yX0_pass yX0_pass, Cond.code yX0_pass cX0_pass 4 (some .int), Cond.methodLink RX0 114 yX0_passTick, Cond.instanceMethod yX0_passTick, Cond.selects RX0 yX0_passTick yX0_passTick, Cond.code yX0_passTick cX0_passTick 3 (some .int), Cond.methodLink RX0 147 yX0_tell, Cond.instanceMethod yX0_tell, Cond.selects RX0 yX0_tell yX0_tell, Cond.code yX0_tell cX0_tell 3 none, Cond.methodLink RX0 150 yX0_lengthenTimer, Cond.instanceMethod yX0_lengthenTimer, Cond.selects RX0 yX0_lengthenTimer yX0_lengthenTimer, Cond.code yX0_lengthenTimer cX0_lengthenTimer 2 none, Cond.methodLink RL 38 yX0_down, Cond.instanceMethod yX0_down, Cond.selects RX0 yX0_down yX0_down, Cond.code yX0_down cX0_down 5 (some .int)]
def wsL_isSo : List Cond := .code yL_isSo cL_isSo 8 (some .boolean) :: ((wsL_isSo_r1 ++ (wsL_isSo_r2 ++ (wsL_isSo_r3 ++ (wsL_isSo_r4 ++ (wsL_isSo_r5 ++ (wsL_isSo_r6 ++ (wsL_isSo_r7 ++ (wsL_isSo_r8 ++ wsL_isSo_r9)))))))) ++ wsX00 ++ (vx_atS RX0 136 "java/lang/IndexOutOfBoundsException" ["java/lang/RuntimeException", "java/lang/Exception"]).filter goodWord ++ (vx_atS RX0 96 "java/lang/IllegalArgumentException" ["java/lang/RuntimeException", "java/lang/Exception"]).filter goodWord ++ (vx_atS RX0 106 "java/lang/IllegalStateException" ["java/lang/RuntimeException", "java/lang/Exception"]).filter goodWord)
def wsL_isLink_r1 : List Cond := [Cond.methodLink RL 72 yL_cost, Cond.static yL_cost, Cond.initialized RL, Cond.code yL_cost cL_cost 3 (some .int), Cond.methodLink RL 80 yL_does, Cond.static yL_does, Cond.codeWith yL_does cL_does 7 (some .int) [(0, 80, 81, 42), (0, 80, 86, 44), (0, 80, 91, 46)], Cond.classLink RL 42 "java/lang/IndexOutOfBoundsException", Cond.classLink RL 44 "java/lang/IllegalArgumentException", Cond.classLink RL 46 "java/lang/IllegalStateException", Cond.methodLink RL 18 yL_told, Cond.static yL_told, Cond.code yL_told cL_told 6 (some .int), Cond.methodLink RL 8 yX0_setRules, Cond.instanceMethod yX0_setRules, Cond.selects RX0 yX0_setRules yX0_setRules, Cond.initialized RX0, Cond.code yX0_setRules cX0_setRules 5 none, Cond.fieldLink RX0 9 "RankMesh" "hysteresis" "I", Cond.fieldLink RX0 13 "RankMesh" "increase" "I", Cond.fieldLink RX0 16 "RankMesh" "leastInterval" "I", Cond.fieldLink RX0 19 "RankMesh" "doublings" "I", Cond.methodLink RX0 85 yX0_requireRange, Cond.static yX0_requireRange]
def wsL_isLink_r2 : List Cond := [Cond.code yX0_requireRange cX0_requireRange 3 none, Cond.classLink RX0 92 "java/lang/IllegalArgumentException", Cond.initialized "java/lang/IllegalArgumentException", Cond.methodLink RL 14 yX0_endRoot, Cond.instanceMethod yX0_endRoot, Cond.selects RX0 yX0_endRoot yX0_endRoot, Cond.code yX0_endRoot cX0_endRoot 2 none, Cond.fieldLink RX0 42 "RankMesh" "isRoot" "[Z", Cond.methodLink RX0 111 yX0_requireRoot, Cond.instanceMethod yX0_requireRoot, Cond.selects RX0 yX0_requireRoot yX0_requireRoot, Cond.code yX0_requireRoot cX0_requireRoot 2 none, Cond.classLink RX0 102 "java/lang/IllegalStateException", Cond.initialized "java/lang/IllegalStateException", Cond.methodLink RX0 89 yX0_requireNode, Cond.static yX0_requireNode, Cond.code yX0_requireNode cX0_requireNode 1 none, Cond.classLink RX0 132 "java/lang/IndexOutOfBoundsException", Cond.initialized "java/lang/IndexOutOfBoundsException", Cond.methodLink RX0 121 yX0_isNode, Cond.static yX0_isNode, Cond.code yX0_isNode cX0_isNode 1 (some .boolean), Cond.methodLink RX0 74 yX0_clearNode, Cond.instanceMethod yX0_clearNode]
def wsL_isLink_r3 : List Cond := [Cond.selects RX0 yX0_clearNode yX0_clearNode, Cond.code yX0_clearNode cX0_clearNode 2 none, Cond.fieldLink RX0 50 "RankMesh" "treeOf" "[I", Cond.fieldLink RX0 53 "RankMesh" "versionOf" "[I", Cond.fieldLink RX0 56 "RankMesh" "rankOf" "[I", Cond.fieldLink RX0 59 "RankMesh" "lowestRank" "[I", Cond.fieldLink RX0 62 "RankMesh" "parentOf" "[I", Cond.methodLink RX0 78 yX0_resetTimer, Cond.instanceMethod yX0_resetTimer, Cond.selects RX0 yX0_resetTimer yX0_resetTimer, Cond.code yX0_resetTimer cX0_resetTimer 2 none, Cond.fieldLink RX0 65 "RankMesh" "interval" "[I", Cond.fieldLink RX0 68 "RankMesh" "tellsAt" "[I", Cond.fieldLink RX0 22 "RankMesh" "now" "I", Cond.methodLink RX0 99 yX0_choose, Cond.instanceMethod yX0_choose, Cond.selects RX0 yX0_choose yX0_choose, Cond.code yX0_choose cX0_choose 3 none, Cond.methodLink RX0 153 yX0_bestCandidate, Cond.instanceMethod yX0_bestCandidate, Cond.selects RX0 yX0_bestCandidate yX0_bestCandidate, Cond.code yX0_bestCandidate cX0_bestCandidate 6 (some .int), Cond.methodLink RX0 169 yX0_rankBy, Cond.instanceMethod yX0_rankBy]
def wsL_isLink_r4 : List Cond := [Cond.selects RX0 yX0_rankBy yX0_rankBy, Cond.code yX0_rankBy cX0_rankBy 3 (some .int), Cond.fieldLink RX0 39 "RankMesh" "heardRank" "[[I", Cond.fieldLink RX0 30 "RankMesh" "costOf" "[[I", Cond.methodLink RX0 166 yX0_isCandidate, Cond.instanceMethod yX0_isCandidate, Cond.selects RX0 yX0_isCandidate yX0_isCandidate, Cond.code yX0_isCandidate cX0_isCandidate 4 (some .boolean), Cond.methodLink RX0 172 yX0_isOutdated, Cond.instanceMethod yX0_isOutdated, Cond.selects RX0 yX0_isOutdated yX0_isOutdated, Cond.code yX0_isOutdated cX0_isOutdated 6 (some .boolean), Cond.fieldLink RX0 33 "RankMesh" "heardTree" "[[I", Cond.fieldLink RX0 36 "RankMesh" "heardVersion" "[[I", Cond.methodLink RX0 175 yX0_isTooDeep, Cond.instanceMethod yX0_isTooDeep, Cond.selects RX0 yX0_isTooDeep yX0_isTooDeep, Cond.code yX0_isTooDeep cX0_isTooDeep 3 (some .boolean), Cond.methodLink RX0 178 yX0_heardOwnVersion, Cond.instanceMethod yX0_heardOwnVersion, Cond.selects RX0 yX0_heardOwnVersion yX0_heardOwnVersion, Cond.code yX0_heardOwnVersion cX0_heardOwnVersion 3 (some .boolean), Cond.methodLink RX0 156 yX0_loseParent, Cond.instanceMethod yX0_loseParent]
def wsL_isLink_r5 : List Cond := [Cond.selects RX0 yX0_loseParent yX0_loseParent, Cond.code yX0_loseParent cX0_loseParent 3 none, Cond.methodLink RX0 159 yX0_keepsParent, Cond.instanceMethod yX0_keepsParent, Cond.selects RX0 yX0_keepsParent yX0_keepsParent, Cond.code yX0_keepsParent cX0_keepsParent 5 (some .boolean), Cond.methodLink RX0 163 yX0_follow, Cond.instanceMethod yX0_follow, Cond.selects RX0 yX0_follow yX0_follow, Cond.code yX0_follow cX0_follow 6 none, Cond.methodLink RX0 141 Lib.Math.min.name, Cond.static Lib.Math.min.name, Cond.initialized "java/lang/Math", Cond.code Lib.Math.min.name Lib.Math.min.code 2 (some .int), Cond.methodLink RL 24 yX0_link, Cond.instanceMethod yX0_link, Cond.selects RX0 yX0_link yX0_link, Cond.code yX0_link cX0_link 5 (some .int), Cond.methodLink RX0 81 yX0_forget, Cond.instanceMethod yX0_forget, Cond.selects RX0 yX0_forget yX0_forget, Cond.code yX0_forget cX0_forget 3 none, Cond.methodLink RL 28 yX0_makeRoot, Cond.instanceMethod yX0_makeRoot]
def wsL_isLink_r6 : List Cond := [Cond.selects RX0 yX0_makeRoot yX0_makeRoot, Cond.code yX0_makeRoot cX0_makeRoot 2 (some .int), Cond.methodLink RX0 107 yX0_beginVersion, Cond.instanceMethod yX0_beginVersion, Cond.selects RX0 yX0_beginVersion yX0_beginVersion, Cond.code yX0_beginVersion cX0_beginVersion 2 (some .int), Cond.fieldLink RX0 46 "RankMesh" "lastRootVersion" "[I", Cond.methodLink RL 32 yX0_renew, Cond.instanceMethod yX0_renew, Cond.selects RX0 yX0_renew yX0_renew, Cond.code yX0_renew cX0_renew 2 (some .int), Cond.methodLink RL 35 yX0_pass, Cond.instanceMethod yX0_pass, Cond.selects RX0 yX0_pass yX0_pass, Cond.code yX0_pass cX0_pass 4 (some .int), Cond.methodLink RX0 114 yX0_passTick, Cond.instanceMethod yX0_passTick, Cond.selects RX0 yX0_passTick yX0_passTick, Cond.code yX0_passTick cX0_passTick 3 (some .int), Cond.methodLink RX0 147 yX0_tell, Cond.instanceMethod yX0_tell, Cond.selects RX0 yX0_tell yX0_tell, Cond.code yX0_tell cX0_tell 3 none, Cond.methodLink RX0 150 yX0_lengthenTimer]
def wsL_isLink_r7 : List Cond := [Cond.instanceMethod yX0_lengthenTimer, Cond.selects RX0 yX0_lengthenTimer yX0_lengthenTimer, Cond.code yX0_lengthenTimer cX0_lengthenTimer 2 none, Cond.methodLink RL 38 yX0_down, Cond.instanceMethod yX0_down, Cond.selects RX0 yX0_down yX0_down, Cond.code yX0_down cX0_down 5 (some .int), Cond.methodLink RL 60 yX0_heard, Cond.instanceMethod yX0_heard, Cond.selects RX0 yX0_heard yX0_heard, Cond.code yX0_heard cX0_heard 3 (some .int)]
def wsL_isLink : List Cond := .code yL_isLink cL_isLink 6 (some .boolean) :: ((wsL_isLink_r1 ++ (wsL_isLink_r2 ++ (wsL_isLink_r3 ++ (wsL_isLink_r4 ++ (wsL_isLink_r5 ++ (wsL_isLink_r6 ++ wsL_isLink_r7)))))) ++ wsX00 ++ (vx_atS RX0 96 "java/lang/IllegalArgumentException" ["java/lang/RuntimeException", "java/lang/Exception"]).filter goodWord ++ (vx_atS RX0 106 "java/lang/IllegalStateException" ["java/lang/RuntimeException", "java/lang/Exception"]).filter goodWord ++ (vx_atS RX0 136 "java/lang/IndexOutOfBoundsException" ["java/lang/RuntimeException", "java/lang/Exception"]).filter goodWord)
def wsL_isRoot_r1 : List Cond := [Cond.methodLink RL 80 yL_does, Cond.static yL_does, Cond.initialized RL, Cond.codeWith yL_does cL_does 7 (some .int) [(0, 80, 81, 42), (0, 80, 86, 44), (0, 80, 91, 46)], Cond.classLink RL 42 "java/lang/IndexOutOfBoundsException", Cond.classLink RL 44 "java/lang/IllegalArgumentException", Cond.classLink RL 46 "java/lang/IllegalStateException", Cond.methodLink RL 18 yL_told, Cond.static yL_told, Cond.code yL_told cL_told 6 (some .int), Cond.methodLink RL 8 yX0_setRules, Cond.instanceMethod yX0_setRules, Cond.selects RX0 yX0_setRules yX0_setRules, Cond.initialized RX0, Cond.code yX0_setRules cX0_setRules 5 none, Cond.fieldLink RX0 9 "RankMesh" "hysteresis" "I", Cond.fieldLink RX0 13 "RankMesh" "increase" "I", Cond.fieldLink RX0 16 "RankMesh" "leastInterval" "I", Cond.fieldLink RX0 19 "RankMesh" "doublings" "I", Cond.methodLink RX0 85 yX0_requireRange, Cond.static yX0_requireRange, Cond.code yX0_requireRange cX0_requireRange 3 none, Cond.classLink RX0 92 "java/lang/IllegalArgumentException", Cond.initialized "java/lang/IllegalArgumentException"]
def wsL_isRoot_r2 : List Cond := [Cond.methodLink RL 14 yX0_endRoot, Cond.instanceMethod yX0_endRoot, Cond.selects RX0 yX0_endRoot yX0_endRoot, Cond.code yX0_endRoot cX0_endRoot 2 none, Cond.fieldLink RX0 42 "RankMesh" "isRoot" "[Z", Cond.methodLink RX0 111 yX0_requireRoot, Cond.instanceMethod yX0_requireRoot, Cond.selects RX0 yX0_requireRoot yX0_requireRoot, Cond.code yX0_requireRoot cX0_requireRoot 2 none, Cond.classLink RX0 102 "java/lang/IllegalStateException", Cond.initialized "java/lang/IllegalStateException", Cond.methodLink RX0 89 yX0_requireNode, Cond.static yX0_requireNode, Cond.code yX0_requireNode cX0_requireNode 1 none, Cond.classLink RX0 132 "java/lang/IndexOutOfBoundsException", Cond.initialized "java/lang/IndexOutOfBoundsException", Cond.methodLink RX0 121 yX0_isNode, Cond.static yX0_isNode, Cond.code yX0_isNode cX0_isNode 1 (some .boolean), Cond.methodLink RX0 74 yX0_clearNode, Cond.instanceMethod yX0_clearNode, Cond.selects RX0 yX0_clearNode yX0_clearNode, Cond.code yX0_clearNode cX0_clearNode 2 none, Cond.fieldLink RX0 50 "RankMesh" "treeOf" "[I"]
def wsL_isRoot_r3 : List Cond := [Cond.fieldLink RX0 53 "RankMesh" "versionOf" "[I", Cond.fieldLink RX0 56 "RankMesh" "rankOf" "[I", Cond.fieldLink RX0 59 "RankMesh" "lowestRank" "[I", Cond.fieldLink RX0 62 "RankMesh" "parentOf" "[I", Cond.methodLink RX0 78 yX0_resetTimer, Cond.instanceMethod yX0_resetTimer, Cond.selects RX0 yX0_resetTimer yX0_resetTimer, Cond.code yX0_resetTimer cX0_resetTimer 2 none, Cond.fieldLink RX0 65 "RankMesh" "interval" "[I", Cond.fieldLink RX0 68 "RankMesh" "tellsAt" "[I", Cond.fieldLink RX0 22 "RankMesh" "now" "I", Cond.methodLink RX0 99 yX0_choose, Cond.instanceMethod yX0_choose, Cond.selects RX0 yX0_choose yX0_choose, Cond.code yX0_choose cX0_choose 3 none, Cond.methodLink RX0 153 yX0_bestCandidate, Cond.instanceMethod yX0_bestCandidate, Cond.selects RX0 yX0_bestCandidate yX0_bestCandidate, Cond.code yX0_bestCandidate cX0_bestCandidate 6 (some .int), Cond.methodLink RX0 169 yX0_rankBy, Cond.instanceMethod yX0_rankBy, Cond.selects RX0 yX0_rankBy yX0_rankBy, Cond.code yX0_rankBy cX0_rankBy 3 (some .int), Cond.fieldLink RX0 39 "RankMesh" "heardRank" "[[I"]
def wsL_isRoot_r4 : List Cond := [Cond.fieldLink RX0 30 "RankMesh" "costOf" "[[I", Cond.methodLink RX0 166 yX0_isCandidate, Cond.instanceMethod yX0_isCandidate, Cond.selects RX0 yX0_isCandidate yX0_isCandidate, Cond.code yX0_isCandidate cX0_isCandidate 4 (some .boolean), Cond.methodLink RX0 172 yX0_isOutdated, Cond.instanceMethod yX0_isOutdated, Cond.selects RX0 yX0_isOutdated yX0_isOutdated, Cond.code yX0_isOutdated cX0_isOutdated 6 (some .boolean), Cond.fieldLink RX0 33 "RankMesh" "heardTree" "[[I", Cond.fieldLink RX0 36 "RankMesh" "heardVersion" "[[I", Cond.methodLink RX0 175 yX0_isTooDeep, Cond.instanceMethod yX0_isTooDeep, Cond.selects RX0 yX0_isTooDeep yX0_isTooDeep, Cond.code yX0_isTooDeep cX0_isTooDeep 3 (some .boolean), Cond.methodLink RX0 178 yX0_heardOwnVersion, Cond.instanceMethod yX0_heardOwnVersion, Cond.selects RX0 yX0_heardOwnVersion yX0_heardOwnVersion, Cond.code yX0_heardOwnVersion cX0_heardOwnVersion 3 (some .boolean), Cond.methodLink RX0 156 yX0_loseParent, Cond.instanceMethod yX0_loseParent, Cond.selects RX0 yX0_loseParent yX0_loseParent, Cond.code yX0_loseParent cX0_loseParent 3 none, Cond.methodLink RX0 159 yX0_keepsParent]
def wsL_isRoot_r5 : List Cond := [Cond.instanceMethod yX0_keepsParent, Cond.selects RX0 yX0_keepsParent yX0_keepsParent, Cond.code yX0_keepsParent cX0_keepsParent 5 (some .boolean), Cond.methodLink RX0 163 yX0_follow, Cond.instanceMethod yX0_follow, Cond.selects RX0 yX0_follow yX0_follow, Cond.code yX0_follow cX0_follow 6 none, Cond.methodLink RX0 141 Lib.Math.min.name, Cond.static Lib.Math.min.name, Cond.initialized "java/lang/Math", Cond.code Lib.Math.min.name Lib.Math.min.code 2 (some .int), Cond.methodLink RL 24 yX0_link, Cond.instanceMethod yX0_link, Cond.selects RX0 yX0_link yX0_link, Cond.code yX0_link cX0_link 5 (some .int), Cond.methodLink RX0 81 yX0_forget, Cond.instanceMethod yX0_forget, Cond.selects RX0 yX0_forget yX0_forget, Cond.code yX0_forget cX0_forget 3 none, Cond.methodLink RL 28 yX0_makeRoot, Cond.instanceMethod yX0_makeRoot, Cond.selects RX0 yX0_makeRoot yX0_makeRoot, Cond.code yX0_makeRoot cX0_makeRoot 2 (some .int), Cond.methodLink RX0 107 yX0_beginVersion]
def wsL_isRoot_r6 : List Cond := [Cond.instanceMethod yX0_beginVersion, Cond.selects RX0 yX0_beginVersion yX0_beginVersion, Cond.code yX0_beginVersion cX0_beginVersion 2 (some .int), Cond.fieldLink RX0 46 "RankMesh" "lastRootVersion" "[I", Cond.methodLink RL 32 yX0_renew, Cond.instanceMethod yX0_renew, Cond.selects RX0 yX0_renew yX0_renew, Cond.code yX0_renew cX0_renew 2 (some .int), Cond.methodLink RL 35 yX0_pass, Cond.instanceMethod yX0_pass, Cond.selects RX0 yX0_pass yX0_pass, Cond.code yX0_pass cX0_pass 4 (some .int), Cond.methodLink RX0 114 yX0_passTick, Cond.instanceMethod yX0_passTick, Cond.selects RX0 yX0_passTick yX0_passTick, Cond.code yX0_passTick cX0_passTick 3 (some .int), Cond.methodLink RX0 147 yX0_tell, Cond.instanceMethod yX0_tell, Cond.selects RX0 yX0_tell yX0_tell, Cond.code yX0_tell cX0_tell 3 none, Cond.methodLink RX0 150 yX0_lengthenTimer, Cond.instanceMethod yX0_lengthenTimer, Cond.selects RX0 yX0_lengthenTimer yX0_lengthenTimer, Cond.code yX0_lengthenTimer cX0_lengthenTimer 2 none]
def wsL_isRoot_r7 : List Cond := [Cond.methodLink RL 38 yX0_down, Cond.instanceMethod yX0_down, Cond.selects RX0 yX0_down yX0_down, Cond.code yX0_down cX0_down 5 (some .int), Cond.methodLink RL 57 yX0_nextTelling, Cond.instanceMethod yX0_nextTelling, Cond.selects RX0 yX0_nextTelling yX0_nextTelling, Cond.code yX0_nextTelling cX0_nextTelling 2 (some .int)]
def wsL_isRoot : List Cond := .code yL_isRoot cL_isRoot 8 (some .boolean) :: ((wsL_isRoot_r1 ++ (wsL_isRoot_r2 ++ (wsL_isRoot_r3 ++ (wsL_isRoot_r4 ++ (wsL_isRoot_r5 ++ (wsL_isRoot_r6 ++ wsL_isRoot_r7)))))) ++ wsX00 ++ (vx_atS RX0 96 "java/lang/IllegalArgumentException" ["java/lang/RuntimeException", "java/lang/Exception"]).filter goodWord ++ (vx_atS RX0 106 "java/lang/IllegalStateException" ["java/lang/RuntimeException", "java/lang/Exception"]).filter goodWord ++ (vx_atS RX0 136 "java/lang/IndexOutOfBoundsException" ["java/lang/RuntimeException", "java/lang/Exception"]).filter goodWord)
def wsL_isTick_r1 : List Cond := [Cond.methodLink RL 57 yX0_nextTelling, Cond.instanceMethod yX0_nextTelling, Cond.selects RX0 yX0_nextTelling yX0_nextTelling, Cond.initialized RX0, Cond.code yX0_nextTelling cX0_nextTelling 2 (some .int), Cond.fieldLink RX0 68 "RankMesh" "tellsAt" "[I", Cond.methodLink RX0 89 yX0_requireNode, Cond.static yX0_requireNode, Cond.code yX0_requireNode cX0_requireNode 1 none, Cond.classLink RX0 132 "java/lang/IndexOutOfBoundsException", Cond.initialized "java/lang/IndexOutOfBoundsException", Cond.methodLink RX0 121 yX0_isNode, Cond.static yX0_isNode, Cond.code yX0_isNode cX0_isNode 1 (some .boolean), Cond.methodLink RL 48 yX0_rank, Cond.instanceMethod yX0_rank, Cond.selects RX0 yX0_rank yX0_rank, Cond.code yX0_rank cX0_rank 2 (some .int), Cond.fieldLink RX0 56 "RankMesh" "rankOf" "[I", Cond.methodLink RL 35 yX0_pass, Cond.instanceMethod yX0_pass, Cond.selects RX0 yX0_pass yX0_pass, Cond.code yX0_pass cX0_pass 4 (some .int), Cond.methodLink RX0 85 yX0_requireRange]
def wsL_isTick_r2 : List Cond := [Cond.static yX0_requireRange, Cond.code yX0_requireRange cX0_requireRange 3 none, Cond.classLink RX0 92 "java/lang/IllegalArgumentException", Cond.initialized "java/lang/IllegalArgumentException", Cond.methodLink RX0 114 yX0_passTick, Cond.instanceMethod yX0_passTick, Cond.selects RX0 yX0_passTick yX0_passTick, Cond.code yX0_passTick cX0_passTick 3 (some .int), Cond.fieldLink RX0 22 "RankMesh" "now" "I", Cond.methodLink RX0 147 yX0_tell, Cond.instanceMethod yX0_tell, Cond.selects RX0 yX0_tell yX0_tell, Cond.code yX0_tell cX0_tell 3 none, Cond.fieldLink RX0 30 "RankMesh" "costOf" "[[I", Cond.fieldLink RX0 33 "RankMesh" "heardTree" "[[I", Cond.fieldLink RX0 50 "RankMesh" "treeOf" "[I", Cond.fieldLink RX0 36 "RankMesh" "heardVersion" "[[I", Cond.fieldLink RX0 53 "RankMesh" "versionOf" "[I", Cond.fieldLink RX0 39 "RankMesh" "heardRank" "[[I", Cond.methodLink RX0 99 yX0_choose, Cond.instanceMethod yX0_choose, Cond.selects RX0 yX0_choose yX0_choose, Cond.code yX0_choose cX0_choose 3 none, Cond.fieldLink RX0 42 "RankMesh" "isRoot" "[Z"]
def wsL_isTick_r3 : List Cond := [Cond.fieldLink RX0 62 "RankMesh" "parentOf" "[I", Cond.methodLink RX0 153 yX0_bestCandidate, Cond.instanceMethod yX0_bestCandidate, Cond.selects RX0 yX0_bestCandidate yX0_bestCandidate, Cond.code yX0_bestCandidate cX0_bestCandidate 6 (some .int), Cond.methodLink RX0 169 yX0_rankBy, Cond.instanceMethod yX0_rankBy, Cond.selects RX0 yX0_rankBy yX0_rankBy, Cond.code yX0_rankBy cX0_rankBy 3 (some .int), Cond.methodLink RX0 166 yX0_isCandidate, Cond.instanceMethod yX0_isCandidate, Cond.selects RX0 yX0_isCandidate yX0_isCandidate, Cond.code yX0_isCandidate cX0_isCandidate 4 (some .boolean), Cond.methodLink RX0 172 yX0_isOutdated, Cond.instanceMethod yX0_isOutdated, Cond.selects RX0 yX0_isOutdated yX0_isOutdated, Cond.code yX0_isOutdated cX0_isOutdated 6 (some .boolean), Cond.methodLink RX0 175 yX0_isTooDeep, Cond.instanceMethod yX0_isTooDeep, Cond.selects RX0 yX0_isTooDeep yX0_isTooDeep, Cond.code yX0_isTooDeep cX0_isTooDeep 3 (some .boolean), Cond.fieldLink RX0 59 "RankMesh" "lowestRank" "[I", Cond.fieldLink RX0 13 "RankMesh" "increase" "I", Cond.methodLink RX0 178 yX0_heardOwnVersion]
def wsL_isTick_r4 : List Cond := [Cond.instanceMethod yX0_heardOwnVersion, Cond.selects RX0 yX0_heardOwnVersion yX0_heardOwnVersion, Cond.code yX0_heardOwnVersion cX0_heardOwnVersion 3 (some .boolean), Cond.methodLink RX0 156 yX0_loseParent, Cond.instanceMethod yX0_loseParent, Cond.selects RX0 yX0_loseParent yX0_loseParent, Cond.code yX0_loseParent cX0_loseParent 3 none, Cond.methodLink RX0 78 yX0_resetTimer, Cond.instanceMethod yX0_resetTimer, Cond.selects RX0 yX0_resetTimer yX0_resetTimer, Cond.code yX0_resetTimer cX0_resetTimer 2 none, Cond.fieldLink RX0 65 "RankMesh" "interval" "[I", Cond.fieldLink RX0 16 "RankMesh" "leastInterval" "I", Cond.methodLink RX0 159 yX0_keepsParent, Cond.instanceMethod yX0_keepsParent, Cond.selects RX0 yX0_keepsParent yX0_keepsParent, Cond.code yX0_keepsParent cX0_keepsParent 5 (some .boolean), Cond.fieldLink RX0 9 "RankMesh" "hysteresis" "I", Cond.methodLink RX0 163 yX0_follow, Cond.instanceMethod yX0_follow, Cond.selects RX0 yX0_follow yX0_follow, Cond.code yX0_follow cX0_follow 6 none, Cond.methodLink RX0 141 Lib.Math.min.name, Cond.static Lib.Math.min.name]
def wsL_isTick_r5 : List Cond := [Cond.initialized "java/lang/Math", Cond.code Lib.Math.min.name Lib.Math.min.code 2 (some .int), Cond.methodLink RX0 150 yX0_lengthenTimer, Cond.instanceMethod yX0_lengthenTimer, Cond.selects RX0 yX0_lengthenTimer yX0_lengthenTimer, Cond.code yX0_lengthenTimer cX0_lengthenTimer 2 none, Cond.fieldLink RX0 19 "RankMesh" "doublings" "I", Cond.methodLink RL 72 yL_cost, Cond.static yL_cost, Cond.initialized RL, Cond.code yL_cost cL_cost 3 (some .int), Cond.methodLink RL 60 yX0_heard, Cond.instanceMethod yX0_heard, Cond.selects RX0 yX0_heard yX0_heard, Cond.code yX0_heard cX0_heard 3 (some .int)]
def wsL_isTick : List Cond := .code yL_isTick cL_isTick 9 (some .boolean) :: ((wsL_isTick_r1 ++ (wsL_isTick_r2 ++ (wsL_isTick_r3 ++ (wsL_isTick_r4 ++ wsL_isTick_r5)))) ++ wsX00 ++ (vx_atS RX0 136 "java/lang/IndexOutOfBoundsException" ["java/lang/RuntimeException", "java/lang/Exception"]).filter goodWord ++ (vx_atS RX0 96 "java/lang/IllegalArgumentException" ["java/lang/RuntimeException", "java/lang/Exception"]).filter goodWord)
def wsL_isDone_r1 : List Cond := [Cond.methodLink RL 102 yL_part, Cond.static yL_part, Cond.initialized RL, Cond.code yL_part cL_part 4 (some .int), Cond.constant RL 7 (2147483647), Cond.methodLink RL 105 yL_isLink, Cond.static yL_isLink, Cond.code yL_isLink cL_isLink 6 (some .boolean), Cond.methodLink RL 72 yL_cost, Cond.static yL_cost, Cond.code yL_cost cL_cost 3 (some .int), Cond.methodLink RL 80 yL_does, Cond.static yL_does, Cond.codeWith yL_does cL_does 7 (some .int) [(0, 80, 81, 42), (0, 80, 86, 44), (0, 80, 91, 46)], Cond.classLink RL 42 "java/lang/IndexOutOfBoundsException", Cond.classLink RL 44 "java/lang/IllegalArgumentException", Cond.classLink RL 46 "java/lang/IllegalStateException", Cond.methodLink RL 18 yL_told, Cond.static yL_told, Cond.code yL_told cL_told 6 (some .int), Cond.methodLink RL 8 yX0_setRules, Cond.instanceMethod yX0_setRules, Cond.selects RX0 yX0_setRules yX0_setRules, Cond.initialized RX0]
def wsL_isDone_r2 : List Cond := [Cond.code yX0_setRules cX0_setRules 5 none, Cond.fieldLink RX0 9 "RankMesh" "hysteresis" "I", Cond.fieldLink RX0 13 "RankMesh" "increase" "I", Cond.fieldLink RX0 16 "RankMesh" "leastInterval" "I", Cond.fieldLink RX0 19 "RankMesh" "doublings" "I", Cond.methodLink RX0 85 yX0_requireRange, Cond.static yX0_requireRange, Cond.code yX0_requireRange cX0_requireRange 3 none, Cond.classLink RX0 92 "java/lang/IllegalArgumentException", Cond.initialized "java/lang/IllegalArgumentException", Cond.methodLink RL 14 yX0_endRoot, Cond.instanceMethod yX0_endRoot, Cond.selects RX0 yX0_endRoot yX0_endRoot, Cond.code yX0_endRoot cX0_endRoot 2 none, Cond.fieldLink RX0 42 "RankMesh" "isRoot" "[Z", Cond.methodLink RX0 111 yX0_requireRoot, Cond.instanceMethod yX0_requireRoot, Cond.selects RX0 yX0_requireRoot yX0_requireRoot, Cond.code yX0_requireRoot cX0_requireRoot 2 none, Cond.classLink RX0 102 "java/lang/IllegalStateException", Cond.initialized "java/lang/IllegalStateException", Cond.methodLink RX0 89 yX0_requireNode, Cond.static yX0_requireNode, Cond.code yX0_requireNode cX0_requireNode 1 none]
def wsL_isDone_r3 : List Cond := [Cond.classLink RX0 132 "java/lang/IndexOutOfBoundsException", Cond.initialized "java/lang/IndexOutOfBoundsException", Cond.methodLink RX0 121 yX0_isNode, Cond.static yX0_isNode, Cond.code yX0_isNode cX0_isNode 1 (some .boolean), Cond.methodLink RX0 74 yX0_clearNode, Cond.instanceMethod yX0_clearNode, Cond.selects RX0 yX0_clearNode yX0_clearNode, Cond.code yX0_clearNode cX0_clearNode 2 none, Cond.fieldLink RX0 50 "RankMesh" "treeOf" "[I", Cond.fieldLink RX0 53 "RankMesh" "versionOf" "[I", Cond.fieldLink RX0 56 "RankMesh" "rankOf" "[I", Cond.fieldLink RX0 59 "RankMesh" "lowestRank" "[I", Cond.fieldLink RX0 62 "RankMesh" "parentOf" "[I", Cond.methodLink RX0 78 yX0_resetTimer, Cond.instanceMethod yX0_resetTimer, Cond.selects RX0 yX0_resetTimer yX0_resetTimer, Cond.code yX0_resetTimer cX0_resetTimer 2 none, Cond.fieldLink RX0 65 "RankMesh" "interval" "[I", Cond.fieldLink RX0 68 "RankMesh" "tellsAt" "[I", Cond.fieldLink RX0 22 "RankMesh" "now" "I", Cond.methodLink RX0 99 yX0_choose, Cond.instanceMethod yX0_choose, Cond.selects RX0 yX0_choose yX0_choose]
def wsL_isDone_r4 : List Cond := [Cond.code yX0_choose cX0_choose 3 none, Cond.methodLink RX0 153 yX0_bestCandidate, Cond.instanceMethod yX0_bestCandidate, Cond.selects RX0 yX0_bestCandidate yX0_bestCandidate, Cond.code yX0_bestCandidate cX0_bestCandidate 6 (some .int), Cond.methodLink RX0 169 yX0_rankBy, Cond.instanceMethod yX0_rankBy, Cond.selects RX0 yX0_rankBy yX0_rankBy, Cond.code yX0_rankBy cX0_rankBy 3 (some .int), Cond.fieldLink RX0 39 "RankMesh" "heardRank" "[[I", Cond.fieldLink RX0 30 "RankMesh" "costOf" "[[I", Cond.methodLink RX0 166 yX0_isCandidate, Cond.instanceMethod yX0_isCandidate, Cond.selects RX0 yX0_isCandidate yX0_isCandidate, Cond.code yX0_isCandidate cX0_isCandidate 4 (some .boolean), Cond.methodLink RX0 172 yX0_isOutdated, Cond.instanceMethod yX0_isOutdated, Cond.selects RX0 yX0_isOutdated yX0_isOutdated, Cond.code yX0_isOutdated cX0_isOutdated 6 (some .boolean), Cond.fieldLink RX0 33 "RankMesh" "heardTree" "[[I", Cond.fieldLink RX0 36 "RankMesh" "heardVersion" "[[I", Cond.methodLink RX0 175 yX0_isTooDeep, Cond.instanceMethod yX0_isTooDeep, Cond.selects RX0 yX0_isTooDeep yX0_isTooDeep]
def wsL_isDone_r5 : List Cond := [Cond.code yX0_isTooDeep cX0_isTooDeep 3 (some .boolean), Cond.methodLink RX0 178 yX0_heardOwnVersion, Cond.instanceMethod yX0_heardOwnVersion, Cond.selects RX0 yX0_heardOwnVersion yX0_heardOwnVersion, Cond.code yX0_heardOwnVersion cX0_heardOwnVersion 3 (some .boolean), Cond.methodLink RX0 156 yX0_loseParent, Cond.instanceMethod yX0_loseParent, Cond.selects RX0 yX0_loseParent yX0_loseParent, Cond.code yX0_loseParent cX0_loseParent 3 none, Cond.methodLink RX0 159 yX0_keepsParent, Cond.instanceMethod yX0_keepsParent, Cond.selects RX0 yX0_keepsParent yX0_keepsParent, Cond.code yX0_keepsParent cX0_keepsParent 5 (some .boolean), Cond.methodLink RX0 163 yX0_follow, Cond.instanceMethod yX0_follow, Cond.selects RX0 yX0_follow yX0_follow, Cond.code yX0_follow cX0_follow 6 none, Cond.methodLink RX0 141 Lib.Math.min.name, Cond.static Lib.Math.min.name, Cond.initialized "java/lang/Math", Cond.code Lib.Math.min.name Lib.Math.min.code 2 (some .int), Cond.methodLink RL 24 yX0_link, Cond.instanceMethod yX0_link, Cond.selects RX0 yX0_link yX0_link]
def wsL_isDone_r6 : List Cond := [Cond.code yX0_link cX0_link 5 (some .int), Cond.methodLink RX0 81 yX0_forget, Cond.instanceMethod yX0_forget, Cond.selects RX0 yX0_forget yX0_forget, Cond.code yX0_forget cX0_forget 3 none, Cond.methodLink RL 28 yX0_makeRoot, Cond.instanceMethod yX0_makeRoot, Cond.selects RX0 yX0_makeRoot yX0_makeRoot, Cond.code yX0_makeRoot cX0_makeRoot 2 (some .int), Cond.methodLink RX0 107 yX0_beginVersion, Cond.instanceMethod yX0_beginVersion, Cond.selects RX0 yX0_beginVersion yX0_beginVersion, Cond.code yX0_beginVersion cX0_beginVersion 2 (some .int), Cond.fieldLink RX0 46 "RankMesh" "lastRootVersion" "[I", Cond.methodLink RL 32 yX0_renew, Cond.instanceMethod yX0_renew, Cond.selects RX0 yX0_renew yX0_renew, Cond.code yX0_renew cX0_renew 2 (some .int), Cond.methodLink RL 35 yX0_pass, Cond.instanceMethod yX0_pass, Cond.selects RX0 yX0_pass yX0_pass, Cond.code yX0_pass cX0_pass 4 (some .int), Cond.methodLink RX0 114 yX0_passTick, Cond.instanceMethod yX0_passTick]
def wsL_isDone_r7 : List Cond := [Cond.selects RX0 yX0_passTick yX0_passTick, Cond.code yX0_passTick cX0_passTick 3 (some .int), Cond.methodLink RX0 147 yX0_tell, Cond.instanceMethod yX0_tell, Cond.selects RX0 yX0_tell yX0_tell, Cond.code yX0_tell cX0_tell 3 none, Cond.methodLink RX0 150 yX0_lengthenTimer, Cond.instanceMethod yX0_lengthenTimer, Cond.selects RX0 yX0_lengthenTimer yX0_lengthenTimer, Cond.code yX0_lengthenTimer cX0_lengthenTimer 2 none, Cond.methodLink RL 38 yX0_down, Cond.instanceMethod yX0_down, Cond.selects RX0 yX0_down yX0_down, Cond.code yX0_down cX0_down 5 (some .int), Cond.methodLink RL 60 yX0_heard, Cond.instanceMethod yX0_heard, Cond.selects RX0 yX0_heard yX0_heard, Cond.code yX0_heard cX0_heard 3 (some .int), Cond.methodLink RL 109 yL_isRoot, Cond.static yL_isRoot, Cond.code yL_isRoot cL_isRoot 8 (some .boolean), Cond.methodLink RL 57 yX0_nextTelling, Cond.instanceMethod yX0_nextTelling, Cond.selects RX0 yX0_nextTelling yX0_nextTelling]
def wsL_isDone_r8 : List Cond := [Cond.code yX0_nextTelling cX0_nextTelling 2 (some .int), Cond.methodLink RL 113 yL_isTick, Cond.static yL_isTick, Cond.code yL_isTick cL_isTick 9 (some .boolean), Cond.methodLink RL 48 yX0_rank, Cond.instanceMethod yX0_rank, Cond.selects RX0 yX0_rank yX0_rank, Cond.code yX0_rank cX0_rank 2 (some .int), Cond.methodLink RL 117 yL_isLeast, Cond.static yL_isLeast, Cond.code yL_isLeast cL_isLeast 8 (some .boolean), Cond.methodLink RL 63 yX0_leastRank, Cond.instanceMethod yX0_leastRank, Cond.selects RX0 yX0_leastRank yX0_leastRank, Cond.code yX0_leastRank cX0_leastRank 3 (some .int), Cond.fieldLink RX0 71 "RankMesh" "wayCost" "[I", Cond.methodLink RX0 118 yX0_lowerWayCosts, Cond.instanceMethod yX0_lowerWayCosts, Cond.selects RX0 yX0_lowerWayCosts yX0_lowerWayCosts, Cond.code yX0_lowerWayCosts cX0_lowerWayCosts 4 none]
def wsL_isDone : List Cond := .code yL_isDone cL_isDone 13 (some .boolean) :: ((wsL_isDone_r1 ++ (wsL_isDone_r2 ++ (wsL_isDone_r3 ++ (wsL_isDone_r4 ++ (wsL_isDone_r5 ++ (wsL_isDone_r6 ++ (wsL_isDone_r7 ++ wsL_isDone_r8))))))) ++ wsX00 ++ (vx_atS RX0 96 "java/lang/IllegalArgumentException" ["java/lang/RuntimeException", "java/lang/Exception"]).filter goodWord ++ (vx_atS RX0 106 "java/lang/IllegalStateException" ["java/lang/RuntimeException", "java/lang/Exception"]).filter goodWord ++ (vx_atS RX0 136 "java/lang/IndexOutOfBoundsException" ["java/lang/RuntimeException", "java/lang/Exception"]).filter goodWord)
def wsL_law0_r1 : List Cond := [Cond.classLink RL 9 RX0, Cond.instantiable RX0 20, Cond.initialized RX0, Cond.arrayClass .int, Cond.methodLink RL 120 yX0_init, Cond.instanceMethod yX0_init, Cond.code yX0_init cX0_init 3 none, Cond.methodLink RX0 3 objectInit, Cond.instanceMethod objectInit, Cond.code objectInit ⟨#[0xb1]⟩ 1 none, Cond.fieldLink RX0 9 "RankMesh" "hysteresis" "I", Cond.fieldLink RX0 13 "RankMesh" "increase" "I", Cond.fieldLink RX0 16 "RankMesh" "leastInterval" "I", Cond.fieldLink RX0 19 "RankMesh" "doublings" "I", Cond.fieldLink RX0 22 "RankMesh" "now" "I", Cond.fieldLink RX0 25 "RankMesh" "droppedPackets" "I", Cond.classLink RX0 28 "[[I", Cond.fieldLink RX0 30 "RankMesh" "costOf" "[[I", Cond.fieldLink RX0 33 "RankMesh" "heardTree" "[[I", Cond.fieldLink RX0 36 "RankMesh" "heardVersion" "[[I", Cond.fieldLink RX0 39 "RankMesh" "heardRank" "[[I", Cond.arrayClass .boolean, Cond.fieldLink RX0 42 "RankMesh" "isRoot" "[Z", Cond.fieldLink RX0 46 "RankMesh" "lastRootVersion" "[I"]
def wsL_law0_r2 : List Cond := [Cond.fieldLink RX0 50 "RankMesh" "treeOf" "[I", Cond.fieldLink RX0 53 "RankMesh" "versionOf" "[I", Cond.fieldLink RX0 56 "RankMesh" "rankOf" "[I", Cond.fieldLink RX0 59 "RankMesh" "lowestRank" "[I", Cond.fieldLink RX0 62 "RankMesh" "parentOf" "[I", Cond.fieldLink RX0 65 "RankMesh" "interval" "[I", Cond.fieldLink RX0 68 "RankMesh" "tellsAt" "[I", Cond.fieldLink RX0 71 "RankMesh" "wayCost" "[I", Cond.methodLink RX0 74 yX0_clearNode, Cond.instanceMethod yX0_clearNode, Cond.selects RX0 yX0_clearNode yX0_clearNode, Cond.code yX0_clearNode cX0_clearNode 2 none, Cond.methodLink RX0 78 yX0_resetTimer, Cond.instanceMethod yX0_resetTimer, Cond.selects RX0 yX0_resetTimer yX0_resetTimer, Cond.code yX0_resetTimer cX0_resetTimer 2 none, Cond.methodLink RX0 81 yX0_forget, Cond.instanceMethod yX0_forget, Cond.selects RX0 yX0_forget yX0_forget, Cond.code yX0_forget cX0_forget 3 none, Cond.methodLink RL 121 yL_isSo, Cond.static yL_isSo, Cond.initialized RL, Cond.code yL_isSo cL_isSo 8 (some .boolean)]
def wsL_law0_r3 : List Cond := [Cond.methodLink RL 83 yX0_time, Cond.instanceMethod yX0_time, Cond.selects RX0 yX0_time yX0_time, Cond.code yX0_time cX0_time 1 (some .int), Cond.methodLink RL 86 yL_asks, Cond.static yL_asks, Cond.codeWith yL_asks cL_asks 5 (some .int) [(0, 97, 98, 42)], Cond.classLink RL 42 "java/lang/IndexOutOfBoundsException", Cond.methodLink RL 48 yX0_rank, Cond.instanceMethod yX0_rank, Cond.selects RX0 yX0_rank yX0_rank, Cond.code yX0_rank cX0_rank 2 (some .int), Cond.methodLink RX0 89 yX0_requireNode, Cond.static yX0_requireNode, Cond.code yX0_requireNode cX0_requireNode 1 none, Cond.classLink RX0 132 "java/lang/IndexOutOfBoundsException", Cond.initialized "java/lang/IndexOutOfBoundsException", Cond.methodLink RX0 121 yX0_isNode, Cond.static yX0_isNode, Cond.code yX0_isNode cX0_isNode 1 (some .boolean), Cond.methodLink RL 51 yX0_parent, Cond.instanceMethod yX0_parent, Cond.selects RX0 yX0_parent yX0_parent, Cond.code yX0_parent cX0_parent 2 (some .int)]
def wsL_law0_r4 : List Cond := [Cond.methodLink RL 54 yX0_tree, Cond.instanceMethod yX0_tree, Cond.selects RX0 yX0_tree yX0_tree, Cond.code yX0_tree cX0_tree 2 (some .int), Cond.methodLink RL 57 yX0_nextTelling, Cond.instanceMethod yX0_nextTelling, Cond.selects RX0 yX0_nextTelling yX0_nextTelling, Cond.code yX0_nextTelling cX0_nextTelling 2 (some .int), Cond.methodLink RL 60 yX0_heard, Cond.instanceMethod yX0_heard, Cond.selects RX0 yX0_heard yX0_heard, Cond.code yX0_heard cX0_heard 3 (some .int), Cond.methodLink RL 63 yX0_leastRank, Cond.instanceMethod yX0_leastRank, Cond.selects RX0 yX0_leastRank yX0_leastRank, Cond.code yX0_leastRank cX0_leastRank 3 (some .int), Cond.methodLink RX0 118 yX0_lowerWayCosts, Cond.instanceMethod yX0_lowerWayCosts, Cond.selects RX0 yX0_lowerWayCosts yX0_lowerWayCosts, Cond.code yX0_lowerWayCosts cX0_lowerWayCosts 4 none, Cond.methodLink RX0 141 Lib.Math.min.name, Cond.static Lib.Math.min.name, Cond.initialized "java/lang/Math", Cond.code Lib.Math.min.name Lib.Math.min.code 2 (some .int)]
def wsL_law0_r5 : List Cond := [Cond.methodLink RL 66 yX0_up, Cond.instanceMethod yX0_up, Cond.selects RX0 yX0_up yX0_up, Cond.code yX0_up cX0_up 7 (some .int), Cond.methodLink RL 69 yX0_below, Cond.instanceMethod yX0_below, Cond.selects RX0 yX0_below yX0_below, Cond.code yX0_below cX0_below 4 (some .int), Cond.methodLink RX0 125 yX0_childrenOf, Cond.instanceMethod yX0_childrenOf, Cond.selects RX0 yX0_childrenOf yX0_childrenOf, Cond.code yX0_childrenOf cX0_childrenOf 5 (some .int), Cond.methodLink RL 90 yL_isNode, Cond.static yL_isNode, Cond.code yL_isNode cL_isNode 11 (some .boolean), Cond.methodLink RL 72 yL_cost, Cond.static yL_cost, Cond.code yL_cost cL_cost 3 (some .int), Cond.methodLink RL 94 yL_isPacket, Cond.static yL_isPacket, Cond.code yL_isPacket cL_isPacket 7 (some .boolean), Cond.methodLink RL 76 yX0_loops, Cond.instanceMethod yX0_loops, Cond.selects RX0 yX0_loops yX0_loops]
def wsL_law0_r6 : List Cond := [Cond.code yX0_loops cX0_loops 1 (some .int), Cond.methodLink RL 98 yL_isBelow, Cond.static yL_isBelow, Cond.code yL_isBelow cL_isBelow 7 (some .boolean), Cond.methodLink RL 80 yL_does, Cond.static yL_does, Cond.codeWith yL_does cL_does 7 (some .int) [(0, 80, 81, 42), (0, 80, 86, 44), (0, 80, 91, 46)], Cond.classLink RL 44 "java/lang/IllegalArgumentException", Cond.classLink RL 46 "java/lang/IllegalStateException", Cond.methodLink RL 18 yL_told, Cond.static yL_told, Cond.code yL_told cL_told 6 (some .int), Cond.methodLink RL 8 yX0_setRules, Cond.instanceMethod yX0_setRules, Cond.selects RX0 yX0_setRules yX0_setRules, Cond.code yX0_setRules cX0_setRules 5 none, Cond.methodLink RX0 85 yX0_requireRange, Cond.static yX0_requireRange, Cond.code yX0_requireRange cX0_requireRange 3 none, Cond.classLink RX0 92 "java/lang/IllegalArgumentException", Cond.initialized "java/lang/IllegalArgumentException", Cond.methodLink RL 14 yX0_endRoot, Cond.instanceMethod yX0_endRoot, Cond.selects RX0 yX0_endRoot yX0_endRoot]
def wsL_law0_r7 : List Cond := [Cond.code yX0_endRoot cX0_endRoot 2 none, Cond.methodLink RX0 111 yX0_requireRoot, Cond.instanceMethod yX0_requireRoot, Cond.selects RX0 yX0_requireRoot yX0_requireRoot, Cond.code yX0_requireRoot cX0_requireRoot 2 none, Cond.classLink RX0 102 "java/lang/IllegalStateException", Cond.initialized "java/lang/IllegalStateException", Cond.methodLink RX0 99 yX0_choose, Cond.instanceMethod yX0_choose, Cond.selects RX0 yX0_choose yX0_choose, Cond.code yX0_choose cX0_choose 3 none, Cond.methodLink RX0 153 yX0_bestCandidate, Cond.instanceMethod yX0_bestCandidate, Cond.selects RX0 yX0_bestCandidate yX0_bestCandidate, Cond.code yX0_bestCandidate cX0_bestCandidate 6 (some .int), Cond.methodLink RX0 169 yX0_rankBy, Cond.instanceMethod yX0_rankBy, Cond.selects RX0 yX0_rankBy yX0_rankBy, Cond.code yX0_rankBy cX0_rankBy 3 (some .int), Cond.methodLink RX0 166 yX0_isCandidate, Cond.instanceMethod yX0_isCandidate, Cond.selects RX0 yX0_isCandidate yX0_isCandidate, Cond.code yX0_isCandidate cX0_isCandidate 4 (some .boolean), Cond.methodLink RX0 172 yX0_isOutdated]
def wsL_law0_r8 : List Cond := [Cond.instanceMethod yX0_isOutdated, Cond.selects RX0 yX0_isOutdated yX0_isOutdated, Cond.code yX0_isOutdated cX0_isOutdated 6 (some .boolean), Cond.methodLink RX0 175 yX0_isTooDeep, Cond.instanceMethod yX0_isTooDeep, Cond.selects RX0 yX0_isTooDeep yX0_isTooDeep, Cond.code yX0_isTooDeep cX0_isTooDeep 3 (some .boolean), Cond.methodLink RX0 178 yX0_heardOwnVersion, Cond.instanceMethod yX0_heardOwnVersion, Cond.selects RX0 yX0_heardOwnVersion yX0_heardOwnVersion, Cond.code yX0_heardOwnVersion cX0_heardOwnVersion 3 (some .boolean), Cond.methodLink RX0 156 yX0_loseParent, Cond.instanceMethod yX0_loseParent, Cond.selects RX0 yX0_loseParent yX0_loseParent, Cond.code yX0_loseParent cX0_loseParent 3 none, Cond.methodLink RX0 159 yX0_keepsParent, Cond.instanceMethod yX0_keepsParent, Cond.selects RX0 yX0_keepsParent yX0_keepsParent, Cond.code yX0_keepsParent cX0_keepsParent 5 (some .boolean), Cond.methodLink RX0 163 yX0_follow, Cond.instanceMethod yX0_follow, Cond.selects RX0 yX0_follow yX0_follow, Cond.code yX0_follow cX0_follow 6 none, Cond.methodLink RL 24 yX0_link]
def wsL_law0_r9 : List Cond := [Cond.instanceMethod yX0_link, Cond.selects RX0 yX0_link yX0_link, Cond.code yX0_link cX0_link 5 (some .int), Cond.methodLink RL 28 yX0_makeRoot, Cond.instanceMethod yX0_makeRoot, Cond.selects RX0 yX0_makeRoot yX0_makeRoot, Cond.code yX0_makeRoot cX0_makeRoot 2 (some .int), Cond.methodLink RX0 107 yX0_beginVersion, Cond.instanceMethod yX0_beginVersion, Cond.selects RX0 yX0_beginVersion yX0_beginVersion, Cond.code yX0_beginVersion cX0_beginVersion 2 (some .int), Cond.methodLink RL 32 yX0_renew, Cond.instanceMethod yX0_renew, Cond.selects RX0 yX0_renew yX0_renew, Cond.code yX0_renew cX0_renew 2 (some .int), Cond.methodLink RL 35 yX0_pass, Cond.instanceMethod yX0_pass, Cond.selects RX0 yX0_pass yX0_pass, Cond.code yX0_pass cX0_pass 4 (some .int), Cond.methodLink RX0 114 yX0_passTick, Cond.instanceMethod yX0_passTick, Cond.selects RX0 yX0_passTick yX0_passTick, Cond.code yX0_passTick cX0_passTick 3 (some .int), Cond.methodLink RX0 147 yX0_tell]
def wsL_law0_r10 : List Cond := [Cond.instanceMethod yX0_tell, Cond.selects RX0 yX0_tell yX0_tell, Cond.code yX0_tell cX0_tell 3 none, Cond.methodLink RX0 150 yX0_lengthenTimer, Cond.instanceMethod yX0_lengthenTimer, Cond.selects RX0 yX0_lengthenTimer yX0_lengthenTimer, Cond.code yX0_lengthenTimer cX0_lengthenTimer 2 none, Cond.methodLink RL 38 yX0_down, Cond.instanceMethod yX0_down, Cond.selects RX0 yX0_down yX0_down, Cond.code yX0_down cX0_down 5 (some .int), Cond.methodLink RL 125 yL_isDone, Cond.static yL_isDone, Cond.code yL_isDone cL_isDone 13 (some .boolean), Cond.methodLink RL 102 yL_part, Cond.static yL_part, Cond.code yL_part cL_part 4 (some .int), Cond.constant RL 7 (2147483647), Cond.methodLink RL 105 yL_isLink, Cond.static yL_isLink, Cond.code yL_isLink cL_isLink 6 (some .boolean), Cond.methodLink RL 109 yL_isRoot, Cond.static yL_isRoot, Cond.code yL_isRoot cL_isRoot 8 (some .boolean)]
def wsL_law0_r11 : List Cond := [Cond.methodLink RL 113 yL_isTick, Cond.static yL_isTick, Cond.code yL_isTick cL_isTick 9 (some .boolean), Cond.methodLink RL 117 yL_isLeast, Cond.static yL_isLeast, Cond.code yL_isLeast cL_isLeast 8 (some .boolean)]
def wsL_law0 : List Cond := (wsL_law0_r1 ++ (wsL_law0_r2 ++ (wsL_law0_r3 ++ (wsL_law0_r4 ++ (wsL_law0_r5 ++ (wsL_law0_r6 ++ (wsL_law0_r7 ++ (wsL_law0_r8 ++ (wsL_law0_r9 ++ (wsL_law0_r10 ++ wsL_law0_r11)))))))))) ++ wsX00 ++ ([] : List Cond)
def wsL_law : List Cond := wsL_law0 ++ (vx_atS RX0 136 "java/lang/IndexOutOfBoundsException" ["java/lang/RuntimeException", "java/lang/Exception"]).filter goodWord ++ (vx_atS RX0 96 "java/lang/IllegalArgumentException" ["java/lang/RuntimeException", "java/lang/Exception"]).filter goodWord ++ (vx_atS RX0 106 "java/lang/IllegalStateException" ["java/lang/RuntimeException", "java/lang/Exception"]).filter goodWord
set_option maxRecDepth 20000 in
theorem in_wsL_law0_r1 : ∀ w ∈ wsL_law0_r1, w ∈ lw_tbl := fun w h => (goodIn_p wsL_law0_r1 [34, 37] (by decide +kernel) (by decide +kernel) w h).1
set_option maxRecDepth 20000 in
theorem in_wsL_law0_r2 : ∀ w ∈ wsL_law0_r2, w ∈ lw_tbl := fun w h => (goodIn_p wsL_law0_r2 [43, 47, 51, 348] (by decide +kernel) (by decide +kernel) w h).1
set_option maxRecDepth 20000 in
theorem in_wsL_law0_r3 : ∀ w ∈ wsL_law0_r3, w ∈ lw_tbl := fun w h => (goodIn_p wsL_law0_r3 [352, 359, 213, 216, 363] (by decide +kernel) (by decide +kernel) w h).1
set_option maxRecDepth 20000 in
theorem in_wsL_law0_r4 : ∀ w ∈ wsL_law0_r4, w ∈ lw_tbl := fun w h => (goodIn_p wsL_law0_r4 [367, 371, 375, 341, 345, 291] (by decide +kernel) (by decide +kernel) w h).1
set_option maxRecDepth 20000 in
theorem in_wsL_law0_r5 : ∀ w ∈ wsL_law0_r5, w ∈ lw_tbl := fun w h => (goodIn_p wsL_law0_r5 [379, 383, 387, 390, 337, 393] (by decide +kernel) (by decide +kernel) w h).1
set_option maxRecDepth 20000 in
theorem in_wsL_law0_r6 : ∀ w ∈ wsL_law0_r6, w ∈ lw_tbl := fun w h => (goodIn_p wsL_law0_r6 [397, 400, 127, 131, 134] (by decide +kernel) (by decide +kernel) w h).1
set_option maxRecDepth 20000 in
theorem in_wsL_law0_r7 : ∀ w ∈ wsL_law0_r7, w ∈ lw_tbl := fun w h => (goodIn_p wsL_law0_r7 [206, 210, 252, 256, 260, 264] (by decide +kernel) (by decide +kernel) w h).1
set_option maxRecDepth 20000 in
theorem in_wsL_law0_r8 : ∀ w ∈ wsL_law0_r8, w ∈ lw_tbl := fun w h => (goodIn_p wsL_law0_r8 [268, 272, 276, 280, 284, 288] (by decide +kernel) (by decide +kernel) w h).1
set_option maxRecDepth 20000 in
theorem in_wsL_law0_r9 : ∀ w ∈ wsL_law0_r9, w ∈ lw_tbl := fun w h => (goodIn_p wsL_law0_r9 [295, 300, 305, 309, 313, 317] (by decide +kernel) (by decide +kernel) w h).1
set_option maxRecDepth 20000 in
theorem in_wsL_law0_r10 : ∀ w ∈ wsL_law0_r10, w ∈ lw_tbl := fun w h => (goodIn_p wsL_law0_r10 [321, 325, 329, 403, 117, 406, 409] (by decide +kernel) (by decide +kernel) w h).1
set_option maxRecDepth 20000 in
theorem in_wsL_law0_r11 : ∀ w ∈ wsL_law0_r11, w ∈ lw_tbl := fun w h => (goodIn_p wsL_law0_r11 [412, 334] (by decide +kernel) (by decide +kernel) w h).1
theorem in_app {a b c : List Cond} (h1 : ∀ w ∈ a, w ∈ c) (h2 : ∀ w ∈ b, w ∈ c) : ∀ w ∈ a ++ b, w ∈ c := fun w h => (List.mem_append.mp h).elim (h1 w) (h2 w)
set_option maxRecDepth 20000 in
theorem in_wsX00 : ∀ w ∈ wsX00, w ∈ lw_tbl := by decide +kernel
theorem wsL_law_in0 : ∀ w ∈ wsL_law0, w ∈ lw_tbl := (in_app (in_app (in_app in_wsL_law0_r1 (in_app in_wsL_law0_r2 (in_app in_wsL_law0_r3 (in_app in_wsL_law0_r4 (in_app in_wsL_law0_r5 (in_app in_wsL_law0_r6 (in_app in_wsL_law0_r7 (in_app in_wsL_law0_r8 (in_app in_wsL_law0_r9 (in_app in_wsL_law0_r10 in_wsL_law0_r11)))))))))) in_wsX00) (fun _ h => absurd h List.not_mem_nil))
theorem wsL_law_x0 : ∀ w ∈ (vx_atS RX0 136 "java/lang/IndexOutOfBoundsException" ["java/lang/RuntimeException", "java/lang/Exception"]).filter goodWord, w ∈ lw_tbl := by decide +kernel
theorem wsL_law_x1 : ∀ w ∈ (vx_atS RX0 96 "java/lang/IllegalArgumentException" ["java/lang/RuntimeException", "java/lang/Exception"]).filter goodWord, w ∈ lw_tbl := by decide +kernel
theorem wsL_law_x2 : ∀ w ∈ (vx_atS RX0 106 "java/lang/IllegalStateException" ["java/lang/RuntimeException", "java/lang/Exception"]).filter goodWord, w ∈ lw_tbl := by decide +kernel
theorem wsL_law_in : ∀ w ∈ wsL_law, w ∈ lw_tbl := fun w h => (List.mem_append.mp h).elim (fun h => (List.mem_append.mp h).elim (fun h => (List.mem_append.mp h).elim (fun h => wsL_law_in0 w h) (fun h => wsL_law_x0 w h)) (fun h => wsL_law_x1 w h)) (fun h => wsL_law_x2 w h)
theorem inlX0 : ∀ w ∈ wsX00, w ∈ wsL_law := fun _ h => List.mem_append_left _ (List.mem_append_left _ (List.mem_append_left _ (List.mem_append_left _ (List.mem_append_right _ h))))
theorem inX0 : ∀ w ∈ wsX00, w ∈ lw_tbl := fun w h => wsL_law_in w (inlX0 w h)
theorem inX1 : ∀ w ∈ wsX10, w ∈ lw_tbl := by decide +kernel
theorem inJ9 : ∀ w ∈ wsJ90, w ∈ lw_tbl := by decide +kernel
theorem inJ0 : ∀ w ∈ wsJ00, w ∈ lw_tbl := by decide +kernel
abbrev vwCl : List vw_C := [(RX0, TX0, 20)]
end
section
theorem dJ9_min_7cf53_0 : decode cJ9_min_7cf53 0 = .ok (.iload_n 0, 1) := by decide +kernel
theorem dJ9_min_7cf53_1 : decode cJ9_min_7cf53 1 = .ok (.iload_n 1, 1) := by decide +kernel
theorem dJ9_min_7cf53_2 : decode cJ9_min_7cf53 2 = .ok (.if_icmp .gt 7, 3) := by decide +kernel
theorem dJ9_min_7cf53_5 : decode cJ9_min_7cf53 5 = .ok (.iload_n 0, 1) := by decide +kernel
theorem dJ9_min_7cf53_6 : decode cJ9_min_7cf53 6 = .ok (.goto 4, 3) := by decide +kernel
theorem dJ9_min_7cf53_9 : decode cJ9_min_7cf53 9 = .ok (.iload_n 1, 1) := by decide +kernel
theorem dJ9_min_7cf53_10 : decode cJ9_min_7cf53 10 = .ok (.ireturn, 1) := by decide +kernel
end
section
set_option maxRecDepth 20000 in
theorem ggX0_init_X0_clearNode : GoodIn wsX0_init wsX0_clearNode := goodIn_r _ [31, 19, 20, 21, 22, 23, 40, 41, 42, 43, 44, 45, 46, 47, 48, 49, 50, 51, 52, 53, 54, 55, 56, 57, 58, 59] (by decide +kernel) (by decide +kernel)
set_option maxRecDepth 20000 in
theorem gX0_init_X0_clearNode : GoodIn wsX0_init (wsV RX0 74 RX0 yX0_clearNode wsX0_clearNode) := goodIn_app (goodIn_of _ (by decide +kernel)) ggX0_init_X0_clearNode
set_option maxRecDepth 20000 in
theorem ggX0_init_X0_resetTimer : GoodIn wsX0_init wsX0_resetTimer := goodIn_r _ [35, 24, 6, 25, 8, 40, 41, 42, 43, 44, 45, 46, 47, 48, 49, 50, 51, 52, 53, 54, 55, 56, 57, 58, 59] (by decide +kernel) (by decide +kernel)
set_option maxRecDepth 20000 in
theorem gX0_init_X0_resetTimer : GoodIn wsX0_init (wsV RX0 78 RX0 yX0_resetTimer wsX0_resetTimer) := goodIn_app (goodIn_of _ (by decide +kernel)) ggX0_init_X0_resetTimer
set_option maxRecDepth 20000 in
theorem ggX0_init_X0_forget : GoodIn wsX0_init wsX0_forget := goodIn_r _ [39, 13, 14, 15, 40, 41, 42, 43, 44, 45, 46, 47, 48, 49, 50, 51, 52, 53, 54, 55, 56, 57, 58, 59] (by decide +kernel) (by decide +kernel)
set_option maxRecDepth 20000 in
theorem gX0_init_X0_forget : GoodIn wsX0_init (wsV RX0 81 RX0 yX0_forget wsX0_forget) := goodIn_app (goodIn_of _ (by decide +kernel)) ggX0_init_X0_forget
theorem dX0_init_0 : decode cX0_init 0 = .ok (.aload_n 0, 1) := by decide +kernel
theorem dX0_init_1 : decode cX0_init 1 = .ok (.invokespecial 3, 3) := by decide +kernel
theorem dX0_init_4 : decode cX0_init 4 = .ok (.aload_n 0, 1) := by decide +kernel
theorem dX0_init_5 : decode cX0_init 5 = .ok (.iconst 0, 1) := by decide +kernel
theorem dX0_init_6 : decode cX0_init 6 = .ok (.putfield 9, 3) := by decide +kernel
theorem dX0_init_9 : decode cX0_init 9 = .ok (.aload_n 0, 1) := by decide +kernel
theorem dX0_init_10 : decode cX0_init 10 = .ok (.sipush 10000, 3) := by decide +kernel
theorem dX0_init_13 : decode cX0_init 13 = .ok (.putfield 13, 3) := by decide +kernel
theorem dX0_init_16 : decode cX0_init 16 = .ok (.aload_n 0, 1) := by decide +kernel
theorem dX0_init_17 : decode cX0_init 17 = .ok (.iconst 1, 1) := by decide +kernel
theorem dX0_init_18 : decode cX0_init 18 = .ok (.putfield 16, 3) := by decide +kernel
theorem dX0_init_21 : decode cX0_init 21 = .ok (.aload_n 0, 1) := by decide +kernel
theorem dX0_init_22 : decode cX0_init 22 = .ok (.iconst 4, 1) := by decide +kernel
theorem dX0_init_23 : decode cX0_init 23 = .ok (.putfield 19, 3) := by decide +kernel
theorem dX0_init_26 : decode cX0_init 26 = .ok (.aload_n 0, 1) := by decide +kernel
theorem dX0_init_27 : decode cX0_init 27 = .ok (.iconst 0, 1) := by decide +kernel
theorem dX0_init_28 : decode cX0_init 28 = .ok (.putfield 22, 3) := by decide +kernel
theorem dX0_init_31 : decode cX0_init 31 = .ok (.aload_n 0, 1) := by decide +kernel
theorem dX0_init_32 : decode cX0_init 32 = .ok (.iconst 0, 1) := by decide +kernel
theorem dX0_init_33 : decode cX0_init 33 = .ok (.putfield 25, 3) := by decide +kernel
theorem dX0_init_36 : decode cX0_init 36 = .ok (.aload_n 0, 1) := by decide +kernel
theorem dX0_init_37 : decode cX0_init 37 = .ok (.bipush 10, 2) := by decide +kernel
theorem dX0_init_39 : decode cX0_init 39 = .ok (.bipush 10, 2) := by decide +kernel
theorem dX0_init_41 : decode cX0_init 41 = .ok (.multianewarray 28 2, 4) := by decide +kernel
theorem dX0_init_45 : decode cX0_init 45 = .ok (.putfield 30, 3) := by decide +kernel
theorem dX0_init_48 : decode cX0_init 48 = .ok (.aload_n 0, 1) := by decide +kernel
theorem dX0_init_49 : decode cX0_init 49 = .ok (.bipush 10, 2) := by decide +kernel
theorem dX0_init_51 : decode cX0_init 51 = .ok (.bipush 10, 2) := by decide +kernel
theorem dX0_init_53 : decode cX0_init 53 = .ok (.multianewarray 28 2, 4) := by decide +kernel
theorem dX0_init_57 : decode cX0_init 57 = .ok (.putfield 33, 3) := by decide +kernel
theorem dX0_init_60 : decode cX0_init 60 = .ok (.aload_n 0, 1) := by decide +kernel
theorem dX0_init_61 : decode cX0_init 61 = .ok (.bipush 10, 2) := by decide +kernel
theorem dX0_init_63 : decode cX0_init 63 = .ok (.bipush 10, 2) := by decide +kernel
theorem dX0_init_65 : decode cX0_init 65 = .ok (.multianewarray 28 2, 4) := by decide +kernel
theorem dX0_init_69 : decode cX0_init 69 = .ok (.putfield 36, 3) := by decide +kernel
theorem dX0_init_72 : decode cX0_init 72 = .ok (.aload_n 0, 1) := by decide +kernel
theorem dX0_init_73 : decode cX0_init 73 = .ok (.bipush 10, 2) := by decide +kernel
theorem dX0_init_75 : decode cX0_init 75 = .ok (.bipush 10, 2) := by decide +kernel
theorem dX0_init_77 : decode cX0_init 77 = .ok (.multianewarray 28 2, 4) := by decide +kernel
theorem dX0_init_81 : decode cX0_init 81 = .ok (.putfield 39, 3) := by decide +kernel
theorem dX0_init_84 : decode cX0_init 84 = .ok (.aload_n 0, 1) := by decide +kernel
theorem dX0_init_85 : decode cX0_init 85 = .ok (.bipush 10, 2) := by decide +kernel
theorem dX0_init_87 : decode cX0_init 87 = .ok (.newarray .boolean, 2) := by decide +kernel
theorem dX0_init_89 : decode cX0_init 89 = .ok (.putfield 42, 3) := by decide +kernel
theorem dX0_init_92 : decode cX0_init 92 = .ok (.aload_n 0, 1) := by decide +kernel
theorem dX0_init_93 : decode cX0_init 93 = .ok (.bipush 10, 2) := by decide +kernel
theorem dX0_init_95 : decode cX0_init 95 = .ok (.newarray .int, 2) := by decide +kernel
theorem dX0_init_97 : decode cX0_init 97 = .ok (.putfield 46, 3) := by decide +kernel
theorem dX0_init_100 : decode cX0_init 100 = .ok (.aload_n 0, 1) := by decide +kernel
theorem dX0_init_101 : decode cX0_init 101 = .ok (.bipush 10, 2) := by decide +kernel
theorem dX0_init_103 : decode cX0_init 103 = .ok (.newarray .int, 2) := by decide +kernel
theorem dX0_init_105 : decode cX0_init 105 = .ok (.putfield 50, 3) := by decide +kernel
theorem dX0_init_108 : decode cX0_init 108 = .ok (.aload_n 0, 1) := by decide +kernel
theorem dX0_init_109 : decode cX0_init 109 = .ok (.bipush 10, 2) := by decide +kernel
theorem dX0_init_111 : decode cX0_init 111 = .ok (.newarray .int, 2) := by decide +kernel
theorem dX0_init_113 : decode cX0_init 113 = .ok (.putfield 53, 3) := by decide +kernel
theorem dX0_init_116 : decode cX0_init 116 = .ok (.aload_n 0, 1) := by decide +kernel
theorem dX0_init_117 : decode cX0_init 117 = .ok (.bipush 10, 2) := by decide +kernel
theorem dX0_init_119 : decode cX0_init 119 = .ok (.newarray .int, 2) := by decide +kernel
theorem dX0_init_121 : decode cX0_init 121 = .ok (.putfield 56, 3) := by decide +kernel
theorem dX0_init_124 : decode cX0_init 124 = .ok (.aload_n 0, 1) := by decide +kernel
theorem dX0_init_125 : decode cX0_init 125 = .ok (.bipush 10, 2) := by decide +kernel
theorem dX0_init_127 : decode cX0_init 127 = .ok (.newarray .int, 2) := by decide +kernel
theorem dX0_init_129 : decode cX0_init 129 = .ok (.putfield 59, 3) := by decide +kernel
theorem dX0_init_132 : decode cX0_init 132 = .ok (.aload_n 0, 1) := by decide +kernel
theorem dX0_init_133 : decode cX0_init 133 = .ok (.bipush 10, 2) := by decide +kernel
theorem dX0_init_135 : decode cX0_init 135 = .ok (.newarray .int, 2) := by decide +kernel
theorem dX0_init_137 : decode cX0_init 137 = .ok (.putfield 62, 3) := by decide +kernel
theorem dX0_init_140 : decode cX0_init 140 = .ok (.aload_n 0, 1) := by decide +kernel
theorem dX0_init_141 : decode cX0_init 141 = .ok (.bipush 10, 2) := by decide +kernel
theorem dX0_init_143 : decode cX0_init 143 = .ok (.newarray .int, 2) := by decide +kernel
theorem dX0_init_145 : decode cX0_init 145 = .ok (.putfield 65, 3) := by decide +kernel
theorem dX0_init_148 : decode cX0_init 148 = .ok (.aload_n 0, 1) := by decide +kernel
theorem dX0_init_149 : decode cX0_init 149 = .ok (.bipush 10, 2) := by decide +kernel
theorem dX0_init_151 : decode cX0_init 151 = .ok (.newarray .int, 2) := by decide +kernel
theorem dX0_init_153 : decode cX0_init 153 = .ok (.putfield 68, 3) := by decide +kernel
theorem dX0_init_156 : decode cX0_init 156 = .ok (.aload_n 0, 1) := by decide +kernel
theorem dX0_init_157 : decode cX0_init 157 = .ok (.bipush 10, 2) := by decide +kernel
theorem dX0_init_159 : decode cX0_init 159 = .ok (.newarray .int, 2) := by decide +kernel
theorem dX0_init_161 : decode cX0_init 161 = .ok (.putfield 71, 3) := by decide +kernel
theorem dX0_init_164 : decode cX0_init 164 = .ok (.iconst 0, 1) := by decide +kernel
theorem dX0_init_165 : decode cX0_init 165 = .ok (.istore_n 1, 1) := by decide +kernel
theorem dX0_init_166 : decode cX0_init 166 = .ok (.iload_n 1, 1) := by decide +kernel
theorem dX0_init_167 : decode cX0_init 167 = .ok (.bipush 10, 2) := by decide +kernel
theorem dX0_init_169 : decode cX0_init 169 = .ok (.if_icmp .ge 39, 3) := by decide +kernel
theorem dX0_init_172 : decode cX0_init 172 = .ok (.aload_n 0, 1) := by decide +kernel
theorem dX0_init_173 : decode cX0_init 173 = .ok (.iload_n 1, 1) := by decide +kernel
theorem dX0_init_174 : decode cX0_init 174 = .ok (.invokevirtual 74, 3) := by decide +kernel
theorem dX0_init_177 : decode cX0_init 177 = .ok (.aload_n 0, 1) := by decide +kernel
theorem dX0_init_178 : decode cX0_init 178 = .ok (.iload_n 1, 1) := by decide +kernel
theorem dX0_init_179 : decode cX0_init 179 = .ok (.invokevirtual 78, 3) := by decide +kernel
theorem dX0_init_182 : decode cX0_init 182 = .ok (.iconst 0, 1) := by decide +kernel
theorem dX0_init_183 : decode cX0_init 183 = .ok (.istore_n 2, 1) := by decide +kernel
theorem dX0_init_184 : decode cX0_init 184 = .ok (.iload_n 2, 1) := by decide +kernel
theorem dX0_init_185 : decode cX0_init 185 = .ok (.bipush 10, 2) := by decide +kernel
theorem dX0_init_187 : decode cX0_init 187 = .ok (.if_icmp .ge 15, 3) := by decide +kernel
theorem dX0_init_190 : decode cX0_init 190 = .ok (.aload_n 0, 1) := by decide +kernel
theorem dX0_init_191 : decode cX0_init 191 = .ok (.iload_n 1, 1) := by decide +kernel
theorem dX0_init_192 : decode cX0_init 192 = .ok (.iload_n 2, 1) := by decide +kernel
theorem dX0_init_193 : decode cX0_init 193 = .ok (.invokevirtual 81, 3) := by decide +kernel
theorem dX0_init_196 : decode cX0_init 196 = .ok (.iinc 2 1, 3) := by decide +kernel
theorem dX0_init_199 : decode cX0_init 199 = .ok (.goto (-15), 3) := by decide +kernel
theorem dX0_init_202 : decode cX0_init 202 = .ok (.iinc 1 1, 3) := by decide +kernel
theorem dX0_init_205 : decode cX0_init 205 = .ok (.goto (-39), 3) := by decide +kernel
theorem dX0_init_208 : decode cX0_init 208 = .ok (.return_, 1) := by decide +kernel
set_option maxRecDepth 20000 in
theorem ggX0_setRules_X0_requireRange : GoodIn wsX0_setRules wsX0_requireRange := goodIn_ca (goodIn_r _ [8, 9, 10] (by decide +kernel) (by decide +kernel)) (goodIn_sub (fun _ h => List.mem_cons_of_mem _ (List.mem_append_right _ h)) (by decide +kernel))
set_option maxRecDepth 20000 in
theorem gX0_setRules_X0_requireRange : GoodIn wsX0_setRules (va_wsS RX0 85 yX0_requireRange wsX0_requireRange) := goodIn_app (goodIn_of _ (by decide +kernel)) ggX0_setRules_X0_requireRange
theorem dX0_setRules_0 : decode cX0_setRules 0 = .ok (.iload_n 1, 1) := by decide +kernel
theorem dX0_setRules_1 : decode cX0_setRules 1 = .ok (.iconst 0, 1) := by decide +kernel
theorem dX0_setRules_2 : decode cX0_setRules 2 = .ok (.bipush 100, 2) := by decide +kernel
theorem dX0_setRules_4 : decode cX0_setRules 4 = .ok (.invokestatic 85, 3) := by decide +kernel
theorem dX0_setRules_7 : decode cX0_setRules 7 = .ok (.iload_n 2, 1) := by decide +kernel
theorem dX0_setRules_8 : decode cX0_setRules 8 = .ok (.iconst 0, 1) := by decide +kernel
theorem dX0_setRules_9 : decode cX0_setRules 9 = .ok (.sipush 10000, 3) := by decide +kernel
theorem dX0_setRules_12 : decode cX0_setRules 12 = .ok (.invokestatic 85, 3) := by decide +kernel
theorem dX0_setRules_15 : decode cX0_setRules 15 = .ok (.iload_n 3, 1) := by decide +kernel
theorem dX0_setRules_16 : decode cX0_setRules 16 = .ok (.iconst 1, 1) := by decide +kernel
theorem dX0_setRules_17 : decode cX0_setRules 17 = .ok (.bipush 8, 2) := by decide +kernel
theorem dX0_setRules_19 : decode cX0_setRules 19 = .ok (.invokestatic 85, 3) := by decide +kernel
theorem dX0_setRules_22 : decode cX0_setRules 22 = .ok (.iload 4, 2) := by decide +kernel
theorem dX0_setRules_24 : decode cX0_setRules 24 = .ok (.iconst 0, 1) := by decide +kernel
theorem dX0_setRules_25 : decode cX0_setRules 25 = .ok (.bipush 6, 2) := by decide +kernel
theorem dX0_setRules_27 : decode cX0_setRules 27 = .ok (.invokestatic 85, 3) := by decide +kernel
theorem dX0_setRules_30 : decode cX0_setRules 30 = .ok (.aload_n 0, 1) := by decide +kernel
theorem dX0_setRules_31 : decode cX0_setRules 31 = .ok (.iload_n 1, 1) := by decide +kernel
theorem dX0_setRules_32 : decode cX0_setRules 32 = .ok (.putfield 9, 3) := by decide +kernel
theorem dX0_setRules_35 : decode cX0_setRules 35 = .ok (.aload_n 0, 1) := by decide +kernel
theorem dX0_setRules_36 : decode cX0_setRules 36 = .ok (.iload_n 2, 1) := by decide +kernel
theorem dX0_setRules_37 : decode cX0_setRules 37 = .ok (.putfield 13, 3) := by decide +kernel
theorem dX0_setRules_40 : decode cX0_setRules 40 = .ok (.aload_n 0, 1) := by decide +kernel
theorem dX0_setRules_41 : decode cX0_setRules 41 = .ok (.iload_n 3, 1) := by decide +kernel
theorem dX0_setRules_42 : decode cX0_setRules 42 = .ok (.putfield 16, 3) := by decide +kernel
theorem dX0_setRules_45 : decode cX0_setRules 45 = .ok (.aload_n 0, 1) := by decide +kernel
theorem dX0_setRules_46 : decode cX0_setRules 46 = .ok (.iload 4, 2) := by decide +kernel
theorem dX0_setRules_48 : decode cX0_setRules 48 = .ok (.putfield 19, 3) := by decide +kernel
theorem dX0_setRules_51 : decode cX0_setRules 51 = .ok (.return_, 1) := by decide +kernel
set_option maxRecDepth 20000 in
theorem ggX0_link_X0_requireNode : GoodIn wsX0_link wsX0_requireNode := goodIn_ca (goodIn_r _ [7, 8, 9, 10, 11, 6, 12] (by decide +kernel) (by decide +kernel)) (goodIn_sub (fun _ h => List.mem_cons_of_mem _ (List.mem_append_right _ h)) (by decide +kernel))
set_option maxRecDepth 20000 in
theorem gX0_link_X0_requireNode : GoodIn wsX0_link (va_wsS RX0 89 yX0_requireNode wsX0_requireNode) := goodIn_app (goodIn_of _ (by decide +kernel)) ggX0_link_X0_requireNode
set_option maxRecDepth 20000 in
theorem ggX0_link_X0_requireRange : GoodIn wsX0_link wsX0_requireRange := goodIn_ca (goodIn_r _ [15, 1, 2] (by decide +kernel) (by decide +kernel)) (goodIn_sub (fun _ h => List.mem_cons_of_mem _ (List.mem_append_left _ (List.mem_append_right _ h))) (by decide +kernel))
set_option maxRecDepth 20000 in
theorem gX0_link_X0_requireRange : GoodIn wsX0_link (va_wsS RX0 85 yX0_requireRange wsX0_requireRange) := goodIn_app (goodIn_of _ (by decide +kernel)) ggX0_link_X0_requireRange
set_option maxRecDepth 20000 in
theorem ggX0_link_X0_forget : GoodIn wsX0_link wsX0_forget := goodIn_r _ [19, 20, 21, 22, 83, 84, 85, 86, 87, 88, 89, 90, 91, 92, 93, 94, 95, 96, 97, 98, 99, 100, 101, 102] (by decide +kernel) (by decide +kernel)
set_option maxRecDepth 20000 in
theorem gX0_link_X0_forget : GoodIn wsX0_link (wsV RX0 81 RX0 yX0_forget wsX0_forget) := goodIn_app (goodIn_of _ (by decide +kernel)) ggX0_link_X0_forget
set_option maxRecDepth 20000 in
theorem ggX0_link_X0_choose : GoodIn wsX0_link wsX0_choose := goodIn_r _ [26, 27, 28, 29, 30, 31, 6, 32, 33, 34, 35, 36, 22, 3, 37, 38, 39, 40, 41, 42, 43, 44, 20, 21, 45, 46, 47, 48, 49, 50, 51, 52, 53, 54, 55, 56, 57, 10, 11, 12, 58, 59, 60, 61, 62, 63, 64, 65, 66, 67, 68, 69, 70, 71, 72, 73, 74, 75, 76, 77, 78, 79, 80, 81, 82, 83, 84, 85, 86, 87, 88, 89, 90, 91, 92, 93, 94, 95, 96, 97, 98, 99, 100, 101, 102] (by decide +kernel) (by decide +kernel)
set_option maxRecDepth 20000 in
theorem gX0_link_X0_choose : GoodIn wsX0_link (wsV RX0 99 RX0 yX0_choose wsX0_choose) := goodIn_app (goodIn_of _ (by decide +kernel)) ggX0_link_X0_choose
theorem dX0_link_0 : decode cX0_link 0 = .ok (.iload_n 1, 1) := by decide +kernel
theorem dX0_link_1 : decode cX0_link 1 = .ok (.invokestatic 89, 3) := by decide +kernel
theorem dX0_link_4 : decode cX0_link 4 = .ok (.iload_n 2, 1) := by decide +kernel
theorem dX0_link_5 : decode cX0_link 5 = .ok (.invokestatic 89, 3) := by decide +kernel
theorem dX0_link_8 : decode cX0_link 8 = .ok (.iload_n 1, 1) := by decide +kernel
theorem dX0_link_9 : decode cX0_link 9 = .ok (.iload_n 2, 1) := by decide +kernel
theorem dX0_link_10 : decode cX0_link 10 = .ok (.if_icmp .ne 13, 3) := by decide +kernel
theorem dX0_link_13 : decode cX0_link 13 = .ok (.new 92, 3) := by decide +kernel
theorem dX0_link_16 : decode cX0_link 16 = .ok (.dup, 1) := by decide +kernel
theorem dX0_link_17 : decode cX0_link 17 = .ok (.ldc 94, 2) := by decide +kernel
theorem dX0_link_19 : decode cX0_link 19 = .ok (.invokespecial 96, 3) := by decide +kernel
theorem dX0_link_22 : decode cX0_link 22 = .ok (.athrow, 1) := by decide +kernel
theorem dX0_link_23 : decode cX0_link 23 = .ok (.iload_n 3, 1) := by decide +kernel
theorem dX0_link_24 : decode cX0_link 24 = .ok (.iconst 0, 1) := by decide +kernel
theorem dX0_link_25 : decode cX0_link 25 = .ok (.bipush 100, 2) := by decide +kernel
theorem dX0_link_27 : decode cX0_link 27 = .ok (.invokestatic 85, 3) := by decide +kernel
theorem dX0_link_30 : decode cX0_link 30 = .ok (.aload_n 0, 1) := by decide +kernel
theorem dX0_link_31 : decode cX0_link 31 = .ok (.getfield 30, 3) := by decide +kernel
theorem dX0_link_34 : decode cX0_link 34 = .ok (.iload_n 1, 1) := by decide +kernel
theorem dX0_link_35 : decode cX0_link 35 = .ok (.aaload, 1) := by decide +kernel
theorem dX0_link_36 : decode cX0_link 36 = .ok (.iload_n 2, 1) := by decide +kernel
theorem dX0_link_37 : decode cX0_link 37 = .ok (.iaload, 1) := by decide +kernel
theorem dX0_link_38 : decode cX0_link 38 = .ok (.istore 4, 2) := by decide +kernel
theorem dX0_link_40 : decode cX0_link 40 = .ok (.aload_n 0, 1) := by decide +kernel
theorem dX0_link_41 : decode cX0_link 41 = .ok (.getfield 30, 3) := by decide +kernel
theorem dX0_link_44 : decode cX0_link 44 = .ok (.iload_n 1, 1) := by decide +kernel
theorem dX0_link_45 : decode cX0_link 45 = .ok (.aaload, 1) := by decide +kernel
theorem dX0_link_46 : decode cX0_link 46 = .ok (.iload_n 2, 1) := by decide +kernel
theorem dX0_link_47 : decode cX0_link 47 = .ok (.iload_n 3, 1) := by decide +kernel
theorem dX0_link_48 : decode cX0_link 48 = .ok (.iastore, 1) := by decide +kernel
theorem dX0_link_49 : decode cX0_link 49 = .ok (.aload_n 0, 1) := by decide +kernel
theorem dX0_link_50 : decode cX0_link 50 = .ok (.getfield 30, 3) := by decide +kernel
theorem dX0_link_53 : decode cX0_link 53 = .ok (.iload_n 2, 1) := by decide +kernel
theorem dX0_link_54 : decode cX0_link 54 = .ok (.aaload, 1) := by decide +kernel
theorem dX0_link_55 : decode cX0_link 55 = .ok (.iload_n 1, 1) := by decide +kernel
theorem dX0_link_56 : decode cX0_link 56 = .ok (.iload_n 3, 1) := by decide +kernel
theorem dX0_link_57 : decode cX0_link 57 = .ok (.iastore, 1) := by decide +kernel
theorem dX0_link_58 : decode cX0_link 58 = .ok (.iload_n 3, 1) := by decide +kernel
theorem dX0_link_59 : decode cX0_link 59 = .ok (.ifCond .ne 15, 3) := by decide +kernel
theorem dX0_link_62 : decode cX0_link 62 = .ok (.aload_n 0, 1) := by decide +kernel
theorem dX0_link_63 : decode cX0_link 63 = .ok (.iload_n 1, 1) := by decide +kernel
theorem dX0_link_64 : decode cX0_link 64 = .ok (.iload_n 2, 1) := by decide +kernel
theorem dX0_link_65 : decode cX0_link 65 = .ok (.invokevirtual 81, 3) := by decide +kernel
theorem dX0_link_68 : decode cX0_link 68 = .ok (.aload_n 0, 1) := by decide +kernel
theorem dX0_link_69 : decode cX0_link 69 = .ok (.iload_n 2, 1) := by decide +kernel
theorem dX0_link_70 : decode cX0_link 70 = .ok (.iload_n 1, 1) := by decide +kernel
theorem dX0_link_71 : decode cX0_link 71 = .ok (.invokevirtual 81, 3) := by decide +kernel
theorem dX0_link_74 : decode cX0_link 74 = .ok (.aload_n 0, 1) := by decide +kernel
theorem dX0_link_75 : decode cX0_link 75 = .ok (.iload_n 1, 1) := by decide +kernel
theorem dX0_link_76 : decode cX0_link 76 = .ok (.invokevirtual 99, 3) := by decide +kernel
theorem dX0_link_79 : decode cX0_link 79 = .ok (.aload_n 0, 1) := by decide +kernel
theorem dX0_link_80 : decode cX0_link 80 = .ok (.iload_n 2, 1) := by decide +kernel
theorem dX0_link_81 : decode cX0_link 81 = .ok (.invokevirtual 99, 3) := by decide +kernel
theorem dX0_link_84 : decode cX0_link 84 = .ok (.iload 4, 2) := by decide +kernel
theorem dX0_link_86 : decode cX0_link 86 = .ok (.ireturn, 1) := by decide +kernel
set_option maxRecDepth 20000 in
theorem ggX0_makeRoot_X0_requireNode : GoodIn wsX0_makeRoot wsX0_requireNode := goodIn_ca (goodIn_r _ [11, 12, 13, 14, 15, 10, 16] (by decide +kernel) (by decide +kernel)) (goodIn_sub (fun _ h => List.mem_cons_of_mem _ (List.mem_append_right _ h)) (by decide +kernel))
set_option maxRecDepth 20000 in
theorem gX0_makeRoot_X0_requireNode : GoodIn wsX0_makeRoot (va_wsS RX0 89 yX0_requireNode wsX0_requireNode) := goodIn_app (goodIn_of _ (by decide +kernel)) ggX0_makeRoot_X0_requireNode
set_option maxRecDepth 20000 in
theorem ggX0_makeRoot_X0_beginVersion : GoodIn wsX0_makeRoot wsX0_beginVersion := goodIn_r _ [20, 21, 22, 23, 24, 25, 10, 26, 27, 28, 29, 30, 31, 32, 33, 34, 35, 36, 37, 38, 39, 40, 41, 42, 43, 44, 45, 46, 47, 48, 49, 50] (by decide +kernel) (by decide +kernel)
set_option maxRecDepth 20000 in
theorem gX0_makeRoot_X0_beginVersion : GoodIn wsX0_makeRoot (wsV RX0 107 RX0 yX0_beginVersion wsX0_beginVersion) := goodIn_app (goodIn_of _ (by decide +kernel)) ggX0_makeRoot_X0_beginVersion
theorem dX0_makeRoot_0 : decode cX0_makeRoot 0 = .ok (.iload_n 1, 1) := by decide +kernel
theorem dX0_makeRoot_1 : decode cX0_makeRoot 1 = .ok (.invokestatic 89, 3) := by decide +kernel
theorem dX0_makeRoot_4 : decode cX0_makeRoot 4 = .ok (.aload_n 0, 1) := by decide +kernel
theorem dX0_makeRoot_5 : decode cX0_makeRoot 5 = .ok (.getfield 42, 3) := by decide +kernel
theorem dX0_makeRoot_8 : decode cX0_makeRoot 8 = .ok (.iload_n 1, 1) := by decide +kernel
theorem dX0_makeRoot_9 : decode cX0_makeRoot 9 = .ok (.baload, 1) := by decide +kernel
theorem dX0_makeRoot_10 : decode cX0_makeRoot 10 = .ok (.ifCond .eq 13, 3) := by decide +kernel
theorem dX0_makeRoot_13 : decode cX0_makeRoot 13 = .ok (.new 102, 3) := by decide +kernel
theorem dX0_makeRoot_16 : decode cX0_makeRoot 16 = .ok (.dup, 1) := by decide +kernel
theorem dX0_makeRoot_17 : decode cX0_makeRoot 17 = .ok (.ldc 104, 2) := by decide +kernel
theorem dX0_makeRoot_19 : decode cX0_makeRoot 19 = .ok (.invokespecial 106, 3) := by decide +kernel
theorem dX0_makeRoot_22 : decode cX0_makeRoot 22 = .ok (.athrow, 1) := by decide +kernel
theorem dX0_makeRoot_23 : decode cX0_makeRoot 23 = .ok (.aload_n 0, 1) := by decide +kernel
theorem dX0_makeRoot_24 : decode cX0_makeRoot 24 = .ok (.getfield 42, 3) := by decide +kernel
theorem dX0_makeRoot_27 : decode cX0_makeRoot 27 = .ok (.iload_n 1, 1) := by decide +kernel
theorem dX0_makeRoot_28 : decode cX0_makeRoot 28 = .ok (.iconst 1, 1) := by decide +kernel
theorem dX0_makeRoot_29 : decode cX0_makeRoot 29 = .ok (.bastore, 1) := by decide +kernel
theorem dX0_makeRoot_30 : decode cX0_makeRoot 30 = .ok (.aload_n 0, 1) := by decide +kernel
theorem dX0_makeRoot_31 : decode cX0_makeRoot 31 = .ok (.getfield 50, 3) := by decide +kernel
theorem dX0_makeRoot_34 : decode cX0_makeRoot 34 = .ok (.iload_n 1, 1) := by decide +kernel
theorem dX0_makeRoot_35 : decode cX0_makeRoot 35 = .ok (.iload_n 1, 1) := by decide +kernel
theorem dX0_makeRoot_36 : decode cX0_makeRoot 36 = .ok (.iastore, 1) := by decide +kernel
theorem dX0_makeRoot_37 : decode cX0_makeRoot 37 = .ok (.aload_n 0, 1) := by decide +kernel
theorem dX0_makeRoot_38 : decode cX0_makeRoot 38 = .ok (.getfield 56, 3) := by decide +kernel
theorem dX0_makeRoot_41 : decode cX0_makeRoot 41 = .ok (.iload_n 1, 1) := by decide +kernel
theorem dX0_makeRoot_42 : decode cX0_makeRoot 42 = .ok (.iconst 0, 1) := by decide +kernel
theorem dX0_makeRoot_43 : decode cX0_makeRoot 43 = .ok (.iastore, 1) := by decide +kernel
theorem dX0_makeRoot_44 : decode cX0_makeRoot 44 = .ok (.aload_n 0, 1) := by decide +kernel
theorem dX0_makeRoot_45 : decode cX0_makeRoot 45 = .ok (.getfield 59, 3) := by decide +kernel
theorem dX0_makeRoot_48 : decode cX0_makeRoot 48 = .ok (.iload_n 1, 1) := by decide +kernel
theorem dX0_makeRoot_49 : decode cX0_makeRoot 49 = .ok (.iconst 0, 1) := by decide +kernel
theorem dX0_makeRoot_50 : decode cX0_makeRoot 50 = .ok (.iastore, 1) := by decide +kernel
theorem dX0_makeRoot_51 : decode cX0_makeRoot 51 = .ok (.aload_n 0, 1) := by decide +kernel
theorem dX0_makeRoot_52 : decode cX0_makeRoot 52 = .ok (.getfield 62, 3) := by decide +kernel
theorem dX0_makeRoot_55 : decode cX0_makeRoot 55 = .ok (.iload_n 1, 1) := by decide +kernel
theorem dX0_makeRoot_56 : decode cX0_makeRoot 56 = .ok (.iconst (-1), 1) := by decide +kernel
theorem dX0_makeRoot_57 : decode cX0_makeRoot 57 = .ok (.iastore, 1) := by decide +kernel
theorem dX0_makeRoot_58 : decode cX0_makeRoot 58 = .ok (.aload_n 0, 1) := by decide +kernel
theorem dX0_makeRoot_59 : decode cX0_makeRoot 59 = .ok (.iload_n 1, 1) := by decide +kernel
theorem dX0_makeRoot_60 : decode cX0_makeRoot 60 = .ok (.invokevirtual 107, 3) := by decide +kernel
theorem dX0_makeRoot_63 : decode cX0_makeRoot 63 = .ok (.ireturn, 1) := by decide +kernel
set_option maxRecDepth 20000 in
theorem ggX0_endRoot_X0_requireRoot : GoodIn wsX0_endRoot wsX0_requireRoot := goodIn_ca (goodIn_ca (goodIn_r _ [6, 7, 8, 1, 9, 10, 5, 11, 12, 13, 14, 15, 16, 84, 85, 86, 87, 88, 89, 90, 91, 92, 93, 94, 95, 96, 97, 98, 99, 100, 101, 102, 103] (by decide +kernel) (by decide +kernel)) (goodIn_sub (fun _ h => List.mem_cons_of_mem _ (List.mem_append_left _ (List.mem_append_right _ h))) (by decide +kernel))) (goodIn_sub (fun _ h => List.mem_cons_of_mem _ (List.mem_append_right _ h)) (by decide +kernel))
set_option maxRecDepth 20000 in
theorem gX0_endRoot_X0_requireRoot : GoodIn wsX0_endRoot (wsV RX0 111 RX0 yX0_requireRoot wsX0_requireRoot) := goodIn_app (goodIn_of _ (by decide +kernel)) ggX0_endRoot_X0_requireRoot
set_option maxRecDepth 20000 in
theorem ggX0_endRoot_X0_clearNode : GoodIn wsX0_endRoot wsX0_clearNode := goodIn_r _ [20, 21, 22, 23, 24, 25, 84, 85, 86, 87, 88, 89, 90, 91, 92, 93, 94, 95, 96, 97, 98, 99, 100, 101, 102, 103] (by decide +kernel) (by decide +kernel)
set_option maxRecDepth 20000 in
theorem gX0_endRoot_X0_clearNode : GoodIn wsX0_endRoot (wsV RX0 74 RX0 yX0_clearNode wsX0_clearNode) := goodIn_app (goodIn_of _ (by decide +kernel)) ggX0_endRoot_X0_clearNode
set_option maxRecDepth 20000 in
theorem ggX0_endRoot_X0_resetTimer : GoodIn wsX0_endRoot wsX0_resetTimer := goodIn_r _ [29, 30, 31, 32, 33, 84, 85, 86, 87, 88, 89, 90, 91, 92, 93, 94, 95, 96, 97, 98, 99, 100, 101, 102, 103] (by decide +kernel) (by decide +kernel)
set_option maxRecDepth 20000 in
theorem gX0_endRoot_X0_resetTimer : GoodIn wsX0_endRoot (wsV RX0 78 RX0 yX0_resetTimer wsX0_resetTimer) := goodIn_app (goodIn_of _ (by decide +kernel)) ggX0_endRoot_X0_resetTimer
set_option maxRecDepth 20000 in
theorem ggX0_endRoot_X0_choose : GoodIn wsX0_endRoot wsX0_choose := goodIn_r _ [37, 1, 25, 38, 39, 40, 5, 41, 42, 43, 44, 45, 46, 47, 48, 49, 50, 51, 52, 53, 54, 55, 56, 57, 21, 22, 58, 59, 60, 61, 23, 24, 62, 63, 64, 65, 66, 14, 15, 16, 67, 68, 69, 70, 26, 27, 28, 29, 30, 31, 32, 33, 71, 72, 73, 74, 75, 76, 77, 78, 79, 80, 81, 82, 83, 84, 85, 86, 87, 88, 89, 90, 91, 92, 93, 94, 95, 96, 97, 98, 99, 100, 101, 102, 103] (by decide +kernel) (by decide +kernel)
set_option maxRecDepth 20000 in
theorem gX0_endRoot_X0_choose : GoodIn wsX0_endRoot (wsV RX0 99 RX0 yX0_choose wsX0_choose) := goodIn_app (goodIn_of _ (by decide +kernel)) ggX0_endRoot_X0_choose
theorem dX0_endRoot_0 : decode cX0_endRoot 0 = .ok (.aload_n 0, 1) := by decide +kernel
theorem dX0_endRoot_1 : decode cX0_endRoot 1 = .ok (.iload_n 1, 1) := by decide +kernel
theorem dX0_endRoot_2 : decode cX0_endRoot 2 = .ok (.invokevirtual 111, 3) := by decide +kernel
theorem dX0_endRoot_5 : decode cX0_endRoot 5 = .ok (.aload_n 0, 1) := by decide +kernel
theorem dX0_endRoot_6 : decode cX0_endRoot 6 = .ok (.getfield 42, 3) := by decide +kernel
theorem dX0_endRoot_9 : decode cX0_endRoot 9 = .ok (.iload_n 1, 1) := by decide +kernel
theorem dX0_endRoot_10 : decode cX0_endRoot 10 = .ok (.iconst 0, 1) := by decide +kernel
theorem dX0_endRoot_11 : decode cX0_endRoot 11 = .ok (.bastore, 1) := by decide +kernel
theorem dX0_endRoot_12 : decode cX0_endRoot 12 = .ok (.aload_n 0, 1) := by decide +kernel
theorem dX0_endRoot_13 : decode cX0_endRoot 13 = .ok (.iload_n 1, 1) := by decide +kernel
theorem dX0_endRoot_14 : decode cX0_endRoot 14 = .ok (.invokevirtual 74, 3) := by decide +kernel
theorem dX0_endRoot_17 : decode cX0_endRoot 17 = .ok (.aload_n 0, 1) := by decide +kernel
theorem dX0_endRoot_18 : decode cX0_endRoot 18 = .ok (.iload_n 1, 1) := by decide +kernel
theorem dX0_endRoot_19 : decode cX0_endRoot 19 = .ok (.invokevirtual 78, 3) := by decide +kernel
theorem dX0_endRoot_22 : decode cX0_endRoot 22 = .ok (.aload_n 0, 1) := by decide +kernel
theorem dX0_endRoot_23 : decode cX0_endRoot 23 = .ok (.iload_n 1, 1) := by decide +kernel
theorem dX0_endRoot_24 : decode cX0_endRoot 24 = .ok (.invokevirtual 99, 3) := by decide +kernel
theorem dX0_endRoot_27 : decode cX0_endRoot 27 = .ok (.return_, 1) := by decide +kernel
set_option maxRecDepth 20000 in
theorem ggX0_renew_X0_requireRoot : GoodIn wsX0_renew wsX0_requireRoot := goodIn_ca (goodIn_ca (goodIn_r _ [5, 6, 7, 8, 9, 10, 4, 11, 12, 13, 14, 15, 16, 31, 32, 33, 34, 35, 36, 37, 38, 39, 40, 41, 42, 43, 44, 45, 46, 47, 48, 49, 50] (by decide +kernel) (by decide +kernel)) (goodIn_sub (fun _ h => List.mem_cons_of_mem _ (List.mem_append_left _ (List.mem_append_right _ h))) (by decide +kernel))) (goodIn_sub (fun _ h => List.mem_cons_of_mem _ (List.mem_append_right _ h)) (by decide +kernel))
set_option maxRecDepth 20000 in
theorem gX0_renew_X0_requireRoot : GoodIn wsX0_renew (wsV RX0 111 RX0 yX0_requireRoot wsX0_requireRoot) := goodIn_app (goodIn_of _ (by decide +kernel)) ggX0_renew_X0_requireRoot
set_option maxRecDepth 20000 in
theorem ggX0_renew_X0_beginVersion : GoodIn wsX0_renew wsX0_beginVersion := goodIn_r _ [20, 21, 22, 23, 24, 25, 4, 26, 27, 28, 29, 30, 31, 32, 33, 34, 35, 36, 37, 38, 39, 40, 41, 42, 43, 44, 45, 46, 47, 48, 49, 50] (by decide +kernel) (by decide +kernel)
set_option maxRecDepth 20000 in
theorem gX0_renew_X0_beginVersion : GoodIn wsX0_renew (wsV RX0 107 RX0 yX0_beginVersion wsX0_beginVersion) := goodIn_app (goodIn_of _ (by decide +kernel)) ggX0_renew_X0_beginVersion
theorem dX0_renew_0 : decode cX0_renew 0 = .ok (.aload_n 0, 1) := by decide +kernel
theorem dX0_renew_1 : decode cX0_renew 1 = .ok (.iload_n 1, 1) := by decide +kernel
theorem dX0_renew_2 : decode cX0_renew 2 = .ok (.invokevirtual 111, 3) := by decide +kernel
theorem dX0_renew_5 : decode cX0_renew 5 = .ok (.aload_n 0, 1) := by decide +kernel
theorem dX0_renew_6 : decode cX0_renew 6 = .ok (.iload_n 1, 1) := by decide +kernel
theorem dX0_renew_7 : decode cX0_renew 7 = .ok (.invokevirtual 107, 3) := by decide +kernel
theorem dX0_renew_10 : decode cX0_renew 10 = .ok (.ireturn, 1) := by decide +kernel
set_option maxRecDepth 20000 in
theorem ggX0_pass_X0_requireRange : GoodIn wsX0_pass wsX0_requireRange := goodIn_ca (goodIn_r _ [4, 5, 6] (by decide +kernel) (by decide +kernel)) (goodIn_sub (fun _ h => List.mem_cons_of_mem _ (List.mem_append_right _ h)) (by decide +kernel))
set_option maxRecDepth 20000 in
theorem gX0_pass_X0_requireRange : GoodIn wsX0_pass (va_wsS RX0 85 yX0_requireRange wsX0_requireRange) := goodIn_app (goodIn_of _ (by decide +kernel)) ggX0_pass_X0_requireRange
set_option maxRecDepth 20000 in
theorem ggX0_pass_X0_passTick : GoodIn wsX0_pass wsX0_passTick := goodIn_r _ [10, 11, 12, 13, 14, 15, 3, 16, 17, 18, 19, 20, 21, 22, 23, 24, 25, 26, 27, 28, 29, 30, 31, 32, 33, 34, 35, 36, 37, 38, 39, 40, 41, 42, 43, 44, 45, 46, 47, 48, 49, 50, 51, 52, 53, 54, 55, 56, 57, 58, 59, 60, 61, 62, 63, 64, 65, 66, 67, 68, 69, 70, 71, 72, 73, 74, 75, 76, 77, 78, 79, 80, 81, 82, 83, 84, 85, 86, 87, 88, 89, 90, 91, 92, 93, 94, 95, 96, 97, 98, 99, 100, 101, 102, 103, 104, 105, 106] (by decide +kernel) (by decide +kernel)
set_option maxRecDepth 20000 in
theorem gX0_pass_X0_passTick : GoodIn wsX0_pass (wsV RX0 114 RX0 yX0_passTick wsX0_passTick) := goodIn_app (goodIn_of _ (by decide +kernel)) ggX0_pass_X0_passTick
theorem dX0_pass_0 : decode cX0_pass 0 = .ok (.iload_n 1, 1) := by decide +kernel
theorem dX0_pass_1 : decode cX0_pass 1 = .ok (.iconst 1, 1) := by decide +kernel
theorem dX0_pass_2 : decode cX0_pass 2 = .ok (.bipush 100, 2) := by decide +kernel
theorem dX0_pass_4 : decode cX0_pass 4 = .ok (.invokestatic 85, 3) := by decide +kernel
theorem dX0_pass_7 : decode cX0_pass 7 = .ok (.iconst 0, 1) := by decide +kernel
theorem dX0_pass_8 : decode cX0_pass 8 = .ok (.istore_n 2, 1) := by decide +kernel
theorem dX0_pass_9 : decode cX0_pass 9 = .ok (.iconst 0, 1) := by decide +kernel
theorem dX0_pass_10 : decode cX0_pass 10 = .ok (.istore_n 3, 1) := by decide +kernel
theorem dX0_pass_11 : decode cX0_pass 11 = .ok (.iload_n 3, 1) := by decide +kernel
theorem dX0_pass_12 : decode cX0_pass 12 = .ok (.iload_n 1, 1) := by decide +kernel
theorem dX0_pass_13 : decode cX0_pass 13 = .ok (.if_icmp .ge 16, 3) := by decide +kernel
theorem dX0_pass_16 : decode cX0_pass 16 = .ok (.iload_n 2, 1) := by decide +kernel
theorem dX0_pass_17 : decode cX0_pass 17 = .ok (.aload_n 0, 1) := by decide +kernel
theorem dX0_pass_18 : decode cX0_pass 18 = .ok (.invokevirtual 114, 3) := by decide +kernel
theorem dX0_pass_21 : decode cX0_pass 21 = .ok (.iadd, 1) := by decide +kernel
theorem dX0_pass_22 : decode cX0_pass 22 = .ok (.istore_n 2, 1) := by decide +kernel
theorem dX0_pass_23 : decode cX0_pass 23 = .ok (.iinc 3 1, 3) := by decide +kernel
theorem dX0_pass_26 : decode cX0_pass 26 = .ok (.goto (-15), 3) := by decide +kernel
theorem dX0_pass_29 : decode cX0_pass 29 = .ok (.iload_n 2, 1) := by decide +kernel
theorem dX0_pass_30 : decode cX0_pass 30 = .ok (.ireturn, 1) := by decide +kernel
theorem dX0_time_0 : decode cX0_time 0 = .ok (.aload_n 0, 1) := by decide +kernel
theorem dX0_time_1 : decode cX0_time 1 = .ok (.getfield 22, 3) := by decide +kernel
theorem dX0_time_4 : decode cX0_time 4 = .ok (.ireturn, 1) := by decide +kernel
set_option maxRecDepth 20000 in
theorem ggX0_rank_X0_requireNode : GoodIn wsX0_rank wsX0_requireNode := goodIn_ca (goodIn_r _ [5, 6, 7, 8, 9, 4, 10] (by decide +kernel) (by decide +kernel)) (goodIn_sub (fun _ h => List.mem_cons_of_mem _ (List.mem_append_right _ h)) (by decide +kernel))
set_option maxRecDepth 20000 in
theorem gX0_rank_X0_requireNode : GoodIn wsX0_rank (va_wsS RX0 89 yX0_requireNode wsX0_requireNode) := goodIn_app (goodIn_of _ (by decide +kernel)) ggX0_rank_X0_requireNode
theorem dX0_rank_0 : decode cX0_rank 0 = .ok (.iload_n 1, 1) := by decide +kernel
theorem dX0_rank_1 : decode cX0_rank 1 = .ok (.invokestatic 89, 3) := by decide +kernel
theorem dX0_rank_4 : decode cX0_rank 4 = .ok (.aload_n 0, 1) := by decide +kernel
theorem dX0_rank_5 : decode cX0_rank 5 = .ok (.getfield 56, 3) := by decide +kernel
theorem dX0_rank_8 : decode cX0_rank 8 = .ok (.iload_n 1, 1) := by decide +kernel
theorem dX0_rank_9 : decode cX0_rank 9 = .ok (.iaload, 1) := by decide +kernel
theorem dX0_rank_10 : decode cX0_rank 10 = .ok (.ireturn, 1) := by decide +kernel
set_option maxRecDepth 20000 in
theorem ggX0_parent_X0_requireNode : GoodIn wsX0_parent wsX0_requireNode := goodIn_ca (goodIn_r _ [5, 6, 7, 8, 9, 4, 10] (by decide +kernel) (by decide +kernel)) (goodIn_sub (fun _ h => List.mem_cons_of_mem _ (List.mem_append_right _ h)) (by decide +kernel))
set_option maxRecDepth 20000 in
theorem gX0_parent_X0_requireNode : GoodIn wsX0_parent (va_wsS RX0 89 yX0_requireNode wsX0_requireNode) := goodIn_app (goodIn_of _ (by decide +kernel)) ggX0_parent_X0_requireNode
theorem dX0_parent_0 : decode cX0_parent 0 = .ok (.iload_n 1, 1) := by decide +kernel
theorem dX0_parent_1 : decode cX0_parent 1 = .ok (.invokestatic 89, 3) := by decide +kernel
theorem dX0_parent_4 : decode cX0_parent 4 = .ok (.aload_n 0, 1) := by decide +kernel
theorem dX0_parent_5 : decode cX0_parent 5 = .ok (.getfield 62, 3) := by decide +kernel
theorem dX0_parent_8 : decode cX0_parent 8 = .ok (.iload_n 1, 1) := by decide +kernel
theorem dX0_parent_9 : decode cX0_parent 9 = .ok (.iaload, 1) := by decide +kernel
theorem dX0_parent_10 : decode cX0_parent 10 = .ok (.ireturn, 1) := by decide +kernel
set_option maxRecDepth 20000 in
theorem ggX0_tree_X0_requireNode : GoodIn wsX0_tree wsX0_requireNode := goodIn_ca (goodIn_r _ [6, 7, 8, 9, 10, 5, 11] (by decide +kernel) (by decide +kernel)) (goodIn_sub (fun _ h => List.mem_cons_of_mem _ (List.mem_append_right _ h)) (by decide +kernel))
set_option maxRecDepth 20000 in
theorem gX0_tree_X0_requireNode : GoodIn wsX0_tree (va_wsS RX0 89 yX0_requireNode wsX0_requireNode) := goodIn_app (goodIn_of _ (by decide +kernel)) ggX0_tree_X0_requireNode
theorem dX0_tree_0 : decode cX0_tree 0 = .ok (.iload_n 1, 1) := by decide +kernel
theorem dX0_tree_1 : decode cX0_tree 1 = .ok (.invokestatic 89, 3) := by decide +kernel
theorem dX0_tree_4 : decode cX0_tree 4 = .ok (.aload_n 0, 1) := by decide +kernel
theorem dX0_tree_5 : decode cX0_tree 5 = .ok (.getfield 50, 3) := by decide +kernel
theorem dX0_tree_8 : decode cX0_tree 8 = .ok (.iload_n 1, 1) := by decide +kernel
theorem dX0_tree_9 : decode cX0_tree 9 = .ok (.iaload, 1) := by decide +kernel
theorem dX0_tree_10 : decode cX0_tree 10 = .ok (.iconst (-1), 1) := by decide +kernel
theorem dX0_tree_11 : decode cX0_tree 11 = .ok (.if_icmp .ne 7, 3) := by decide +kernel
theorem dX0_tree_14 : decode cX0_tree 14 = .ok (.iconst (-1), 1) := by decide +kernel
theorem dX0_tree_15 : decode cX0_tree 15 = .ok (.goto 19, 3) := by decide +kernel
theorem dX0_tree_18 : decode cX0_tree 18 = .ok (.bipush 10, 2) := by decide +kernel
theorem dX0_tree_20 : decode cX0_tree 20 = .ok (.aload_n 0, 1) := by decide +kernel
theorem dX0_tree_21 : decode cX0_tree 21 = .ok (.getfield 53, 3) := by decide +kernel
theorem dX0_tree_24 : decode cX0_tree 24 = .ok (.iload_n 1, 1) := by decide +kernel
theorem dX0_tree_25 : decode cX0_tree 25 = .ok (.iaload, 1) := by decide +kernel
theorem dX0_tree_26 : decode cX0_tree 26 = .ok (.imul, 1) := by decide +kernel
theorem dX0_tree_27 : decode cX0_tree 27 = .ok (.aload_n 0, 1) := by decide +kernel
theorem dX0_tree_28 : decode cX0_tree 28 = .ok (.getfield 50, 3) := by decide +kernel
theorem dX0_tree_31 : decode cX0_tree 31 = .ok (.iload_n 1, 1) := by decide +kernel
theorem dX0_tree_32 : decode cX0_tree 32 = .ok (.iaload, 1) := by decide +kernel
theorem dX0_tree_33 : decode cX0_tree 33 = .ok (.iadd, 1) := by decide +kernel
theorem dX0_tree_34 : decode cX0_tree 34 = .ok (.ireturn, 1) := by decide +kernel
set_option maxRecDepth 20000 in
theorem ggX0_nextTelling_X0_requireNode : GoodIn wsX0_nextTelling wsX0_requireNode := goodIn_ca (goodIn_r _ [5, 6, 7, 8, 9, 4, 10] (by decide +kernel) (by decide +kernel)) (goodIn_sub (fun _ h => List.mem_cons_of_mem _ (List.mem_append_right _ h)) (by decide +kernel))
set_option maxRecDepth 20000 in
theorem gX0_nextTelling_X0_requireNode : GoodIn wsX0_nextTelling (va_wsS RX0 89 yX0_requireNode wsX0_requireNode) := goodIn_app (goodIn_of _ (by decide +kernel)) ggX0_nextTelling_X0_requireNode
theorem dX0_nextTelling_0 : decode cX0_nextTelling 0 = .ok (.iload_n 1, 1) := by decide +kernel
theorem dX0_nextTelling_1 : decode cX0_nextTelling 1 = .ok (.invokestatic 89, 3) := by decide +kernel
theorem dX0_nextTelling_4 : decode cX0_nextTelling 4 = .ok (.aload_n 0, 1) := by decide +kernel
theorem dX0_nextTelling_5 : decode cX0_nextTelling 5 = .ok (.getfield 68, 3) := by decide +kernel
theorem dX0_nextTelling_8 : decode cX0_nextTelling 8 = .ok (.iload_n 1, 1) := by decide +kernel
theorem dX0_nextTelling_9 : decode cX0_nextTelling 9 = .ok (.iaload, 1) := by decide +kernel
theorem dX0_nextTelling_10 : decode cX0_nextTelling 10 = .ok (.ireturn, 1) := by decide +kernel
set_option maxRecDepth 20000 in
theorem ggX0_heard_X0_requireNode : GoodIn wsX0_heard wsX0_requireNode := goodIn_ca (goodIn_r _ [5, 6, 7, 8, 9, 4, 10] (by decide +kernel) (by decide +kernel)) (goodIn_sub (fun _ h => List.mem_cons_of_mem _ (List.mem_append_right _ h)) (by decide +kernel))
set_option maxRecDepth 20000 in
theorem gX0_heard_X0_requireNode : GoodIn wsX0_heard (va_wsS RX0 89 yX0_requireNode wsX0_requireNode) := goodIn_app (goodIn_of _ (by decide +kernel)) ggX0_heard_X0_requireNode
theorem dX0_heard_0 : decode cX0_heard 0 = .ok (.iload_n 1, 1) := by decide +kernel
theorem dX0_heard_1 : decode cX0_heard 1 = .ok (.invokestatic 89, 3) := by decide +kernel
theorem dX0_heard_4 : decode cX0_heard 4 = .ok (.iload_n 2, 1) := by decide +kernel
theorem dX0_heard_5 : decode cX0_heard 5 = .ok (.invokestatic 89, 3) := by decide +kernel
theorem dX0_heard_8 : decode cX0_heard 8 = .ok (.aload_n 0, 1) := by decide +kernel
theorem dX0_heard_9 : decode cX0_heard 9 = .ok (.getfield 39, 3) := by decide +kernel
theorem dX0_heard_12 : decode cX0_heard 12 = .ok (.iload_n 1, 1) := by decide +kernel
theorem dX0_heard_13 : decode cX0_heard 13 = .ok (.aaload, 1) := by decide +kernel
theorem dX0_heard_14 : decode cX0_heard 14 = .ok (.iload_n 2, 1) := by decide +kernel
theorem dX0_heard_15 : decode cX0_heard 15 = .ok (.iaload, 1) := by decide +kernel
theorem dX0_heard_16 : decode cX0_heard 16 = .ok (.ireturn, 1) := by decide +kernel
set_option maxRecDepth 20000 in
theorem ggX0_leastRank_X0_requireNode : GoodIn wsX0_leastRank wsX0_requireNode := goodIn_ca (goodIn_r _ [6, 7, 8, 9, 10, 5, 11] (by decide +kernel) (by decide +kernel)) (goodIn_sub (fun _ h => List.mem_cons_of_mem _ (List.mem_append_right _ h)) (by decide +kernel))
set_option maxRecDepth 20000 in
theorem gX0_leastRank_X0_requireNode : GoodIn wsX0_leastRank (va_wsS RX0 89 yX0_requireNode wsX0_requireNode) := goodIn_app (goodIn_of _ (by decide +kernel)) ggX0_leastRank_X0_requireNode
set_option maxRecDepth 20000 in
theorem ggX0_leastRank_X0_lowerWayCosts : GoodIn wsX0_leastRank wsX0_lowerWayCosts := goodIn_r _ [15, 16, 1, 17, 18, 19, 20, 21, 22, 23, 24, 25, 26, 27, 28, 29, 30, 31, 32, 33, 34, 35, 36, 37, 38, 39, 40] (by decide +kernel) (by decide +kernel)
set_option maxRecDepth 20000 in
theorem gX0_leastRank_X0_lowerWayCosts : GoodIn wsX0_leastRank (wsV RX0 118 RX0 yX0_lowerWayCosts wsX0_lowerWayCosts) := goodIn_app (goodIn_of _ (by decide +kernel)) ggX0_leastRank_X0_lowerWayCosts
theorem dX0_leastRank_0 : decode cX0_leastRank 0 = .ok (.iload_n 1, 1) := by decide +kernel
theorem dX0_leastRank_1 : decode cX0_leastRank 1 = .ok (.invokestatic 89, 3) := by decide +kernel
theorem dX0_leastRank_4 : decode cX0_leastRank 4 = .ok (.iconst 0, 1) := by decide +kernel
theorem dX0_leastRank_5 : decode cX0_leastRank 5 = .ok (.istore_n 2, 1) := by decide +kernel
theorem dX0_leastRank_6 : decode cX0_leastRank 6 = .ok (.iload_n 2, 1) := by decide +kernel
theorem dX0_leastRank_7 : decode cX0_leastRank 7 = .ok (.bipush 10, 2) := by decide +kernel
theorem dX0_leastRank_9 : decode cX0_leastRank 9 = .ok (.if_icmp .ge 31, 3) := by decide +kernel
theorem dX0_leastRank_12 : decode cX0_leastRank 12 = .ok (.aload_n 0, 1) := by decide +kernel
theorem dX0_leastRank_13 : decode cX0_leastRank 13 = .ok (.getfield 71, 3) := by decide +kernel
theorem dX0_leastRank_16 : decode cX0_leastRank 16 = .ok (.iload_n 2, 1) := by decide +kernel
theorem dX0_leastRank_17 : decode cX0_leastRank 17 = .ok (.aload_n 0, 1) := by decide +kernel
theorem dX0_leastRank_18 : decode cX0_leastRank 18 = .ok (.getfield 42, 3) := by decide +kernel
theorem dX0_leastRank_21 : decode cX0_leastRank 21 = .ok (.iload_n 2, 1) := by decide +kernel
theorem dX0_leastRank_22 : decode cX0_leastRank 22 = .ok (.baload, 1) := by decide +kernel
theorem dX0_leastRank_23 : decode cX0_leastRank 23 = .ok (.ifCond .eq 7, 3) := by decide +kernel
theorem dX0_leastRank_26 : decode cX0_leastRank 26 = .ok (.iconst 0, 1) := by decide +kernel
theorem dX0_leastRank_27 : decode cX0_leastRank 27 = .ok (.goto 6, 3) := by decide +kernel
theorem dX0_leastRank_30 : decode cX0_leastRank 30 = .ok (.sipush 10000, 3) := by decide +kernel
theorem dX0_leastRank_33 : decode cX0_leastRank 33 = .ok (.iastore, 1) := by decide +kernel
theorem dX0_leastRank_34 : decode cX0_leastRank 34 = .ok (.iinc 2 1, 3) := by decide +kernel
theorem dX0_leastRank_37 : decode cX0_leastRank 37 = .ok (.goto (-31), 3) := by decide +kernel
theorem dX0_leastRank_40 : decode cX0_leastRank 40 = .ok (.iconst 1, 1) := by decide +kernel
theorem dX0_leastRank_41 : decode cX0_leastRank 41 = .ok (.istore_n 2, 1) := by decide +kernel
theorem dX0_leastRank_42 : decode cX0_leastRank 42 = .ok (.iload_n 2, 1) := by decide +kernel
theorem dX0_leastRank_43 : decode cX0_leastRank 43 = .ok (.bipush 10, 2) := by decide +kernel
theorem dX0_leastRank_45 : decode cX0_leastRank 45 = .ok (.if_icmp .ge 13, 3) := by decide +kernel
theorem dX0_leastRank_48 : decode cX0_leastRank 48 = .ok (.aload_n 0, 1) := by decide +kernel
theorem dX0_leastRank_49 : decode cX0_leastRank 49 = .ok (.invokevirtual 118, 3) := by decide +kernel
theorem dX0_leastRank_52 : decode cX0_leastRank 52 = .ok (.iinc 2 1, 3) := by decide +kernel
theorem dX0_leastRank_55 : decode cX0_leastRank 55 = .ok (.goto (-13), 3) := by decide +kernel
theorem dX0_leastRank_58 : decode cX0_leastRank 58 = .ok (.aload_n 0, 1) := by decide +kernel
theorem dX0_leastRank_59 : decode cX0_leastRank 59 = .ok (.getfield 71, 3) := by decide +kernel
theorem dX0_leastRank_62 : decode cX0_leastRank 62 = .ok (.iload_n 1, 1) := by decide +kernel
theorem dX0_leastRank_63 : decode cX0_leastRank 63 = .ok (.iaload, 1) := by decide +kernel
theorem dX0_leastRank_64 : decode cX0_leastRank 64 = .ok (.ireturn, 1) := by decide +kernel
set_option maxRecDepth 20000 in
theorem ggX0_up_X0_requireNode : GoodIn wsX0_up wsX0_requireNode := goodIn_ca (goodIn_r _ [8, 9, 10, 11, 12, 7, 13] (by decide +kernel) (by decide +kernel)) (goodIn_sub (fun _ h => List.mem_cons_of_mem _ (List.mem_append_right _ h)) (by decide +kernel))
set_option maxRecDepth 20000 in
theorem gX0_up_X0_requireNode : GoodIn wsX0_up (va_wsS RX0 89 yX0_requireNode wsX0_requireNode) := goodIn_app (goodIn_of _ (by decide +kernel)) ggX0_up_X0_requireNode
set_option maxRecDepth 20000 in
theorem ggX0_up_X0_isNode : GoodIn wsX0_up wsX0_isNode := goodIn_r _ [13] (by decide +kernel) (by decide +kernel)
set_option maxRecDepth 20000 in
theorem gX0_up_X0_isNode : GoodIn wsX0_up (va_wsS RX0 121 yX0_isNode wsX0_isNode) := goodIn_app (goodIn_of _ (by decide +kernel)) ggX0_up_X0_isNode
theorem dX0_up_0 : decode cX0_up 0 = .ok (.iload_n 1, 1) := by decide +kernel
theorem dX0_up_1 : decode cX0_up 1 = .ok (.invokestatic 89, 3) := by decide +kernel
theorem dX0_up_4 : decode cX0_up 4 = .ok (.iload_n 1, 1) := by decide +kernel
theorem dX0_up_5 : decode cX0_up 5 = .ok (.istore_n 2, 1) := by decide +kernel
theorem dX0_up_6 : decode cX0_up 6 = .ok (.iconst 0, 1) := by decide +kernel
theorem dX0_up_7 : decode cX0_up 7 = .ok (.istore_n 3, 1) := by decide +kernel
theorem dX0_up_8 : decode cX0_up 8 = .ok (.iconst 0, 1) := by decide +kernel
theorem dX0_up_9 : decode cX0_up 9 = .ok (.istore 4, 2) := by decide +kernel
theorem dX0_up_11 : decode cX0_up 11 = .ok (.iload 4, 2) := by decide +kernel
theorem dX0_up_13 : decode cX0_up 13 = .ok (.bipush 20, 2) := by decide +kernel
theorem dX0_up_15 : decode cX0_up 15 = .ok (.if_icmp .gt 92, 3) := by decide +kernel
theorem dX0_up_18 : decode cX0_up 18 = .ok (.aload_n 0, 1) := by decide +kernel
theorem dX0_up_19 : decode cX0_up 19 = .ok (.getfield 42, 3) := by decide +kernel
theorem dX0_up_22 : decode cX0_up 22 = .ok (.iload_n 2, 1) := by decide +kernel
theorem dX0_up_23 : decode cX0_up 23 = .ok (.baload, 1) := by decide +kernel
theorem dX0_up_24 : decode cX0_up 24 = .ok (.ifCond .eq 6, 3) := by decide +kernel
theorem dX0_up_27 : decode cX0_up 27 = .ok (.iload 4, 2) := by decide +kernel
theorem dX0_up_29 : decode cX0_up 29 = .ok (.ireturn, 1) := by decide +kernel
theorem dX0_up_30 : decode cX0_up 30 = .ok (.aload_n 0, 1) := by decide +kernel
end
section
theorem dX0_up_31 : decode cX0_up 31 = .ok (.getfield 62, 3) := by decide +kernel
theorem dX0_up_34 : decode cX0_up 34 = .ok (.iload_n 2, 1) := by decide +kernel
theorem dX0_up_35 : decode cX0_up 35 = .ok (.iaload, 1) := by decide +kernel
theorem dX0_up_36 : decode cX0_up 36 = .ok (.istore 5, 2) := by decide +kernel
theorem dX0_up_38 : decode cX0_up 38 = .ok (.iload 5, 2) := by decide +kernel
theorem dX0_up_40 : decode cX0_up 40 = .ok (.invokestatic 121, 3) := by decide +kernel
theorem dX0_up_43 : decode cX0_up 43 = .ok (.ifCond .ne 5, 3) := by decide +kernel
theorem dX0_up_46 : decode cX0_up 46 = .ok (.iconst (-1), 1) := by decide +kernel
theorem dX0_up_47 : decode cX0_up 47 = .ok (.ireturn, 1) := by decide +kernel
theorem dX0_up_48 : decode cX0_up 48 = .ok (.aload_n 0, 1) := by decide +kernel
theorem dX0_up_49 : decode cX0_up 49 = .ok (.getfield 56, 3) := by decide +kernel
theorem dX0_up_52 : decode cX0_up 52 = .ok (.iload 5, 2) := by decide +kernel
theorem dX0_up_54 : decode cX0_up 54 = .ok (.iaload, 1) := by decide +kernel
theorem dX0_up_55 : decode cX0_up 55 = .ok (.aload_n 0, 1) := by decide +kernel
theorem dX0_up_56 : decode cX0_up 56 = .ok (.getfield 56, 3) := by decide +kernel
theorem dX0_up_59 : decode cX0_up 59 = .ok (.iload_n 2, 1) := by decide +kernel
theorem dX0_up_60 : decode cX0_up 60 = .ok (.iaload, 1) := by decide +kernel
theorem dX0_up_61 : decode cX0_up 61 = .ok (.if_icmp .lt 7, 3) := by decide +kernel
theorem dX0_up_64 : decode cX0_up 64 = .ok (.iconst 1, 1) := by decide +kernel
theorem dX0_up_65 : decode cX0_up 65 = .ok (.goto 4, 3) := by decide +kernel
theorem dX0_up_68 : decode cX0_up 68 = .ok (.iconst 0, 1) := by decide +kernel
theorem dX0_up_69 : decode cX0_up 69 = .ok (.istore 6, 2) := by decide +kernel
theorem dX0_up_71 : decode cX0_up 71 = .ok (.iload 6, 2) := by decide +kernel
theorem dX0_up_73 : decode cX0_up 73 = .ok (.ifCond .eq 10, 3) := by decide +kernel
theorem dX0_up_76 : decode cX0_up 76 = .ok (.iload_n 3, 1) := by decide +kernel
theorem dX0_up_77 : decode cX0_up 77 = .ok (.ifCond .eq 6, 3) := by decide +kernel
theorem dX0_up_80 : decode cX0_up 80 = .ok (.goto 27, 3) := by decide +kernel
theorem dX0_up_83 : decode cX0_up 83 = .ok (.iload_n 3, 1) := by decide +kernel
theorem dX0_up_84 : decode cX0_up 84 = .ok (.ifCond .ne 8, 3) := by decide +kernel
theorem dX0_up_87 : decode cX0_up 87 = .ok (.iload 6, 2) := by decide +kernel
theorem dX0_up_89 : decode cX0_up 89 = .ok (.ifCond .eq 7, 3) := by decide +kernel
theorem dX0_up_92 : decode cX0_up 92 = .ok (.iconst 1, 1) := by decide +kernel
theorem dX0_up_93 : decode cX0_up 93 = .ok (.goto 4, 3) := by decide +kernel
theorem dX0_up_96 : decode cX0_up 96 = .ok (.iconst 0, 1) := by decide +kernel
theorem dX0_up_97 : decode cX0_up 97 = .ok (.istore_n 3, 1) := by decide +kernel
theorem dX0_up_98 : decode cX0_up 98 = .ok (.iload 5, 2) := by decide +kernel
theorem dX0_up_100 : decode cX0_up 100 = .ok (.istore_n 2, 1) := by decide +kernel
theorem dX0_up_101 : decode cX0_up 101 = .ok (.iinc 4 1, 3) := by decide +kernel
theorem dX0_up_104 : decode cX0_up 104 = .ok (.goto (-93), 3) := by decide +kernel
theorem dX0_up_107 : decode cX0_up 107 = .ok (.aload_n 0, 1) := by decide +kernel
theorem dX0_up_108 : decode cX0_up 108 = .ok (.dup, 1) := by decide +kernel
theorem dX0_up_109 : decode cX0_up 109 = .ok (.getfield 25, 3) := by decide +kernel
theorem dX0_up_112 : decode cX0_up 112 = .ok (.iconst 1, 1) := by decide +kernel
theorem dX0_up_113 : decode cX0_up 113 = .ok (.iadd, 1) := by decide +kernel
theorem dX0_up_114 : decode cX0_up 114 = .ok (.putfield 25, 3) := by decide +kernel
theorem dX0_up_117 : decode cX0_up 117 = .ok (.bipush (-2), 2) := by decide +kernel
theorem dX0_up_119 : decode cX0_up 119 = .ok (.ireturn, 1) := by decide +kernel
theorem dX0_loops_0 : decode cX0_loops 0 = .ok (.aload_n 0, 1) := by decide +kernel
theorem dX0_loops_1 : decode cX0_loops 1 = .ok (.getfield 25, 3) := by decide +kernel
theorem dX0_loops_4 : decode cX0_loops 4 = .ok (.ireturn, 1) := by decide +kernel
set_option maxRecDepth 20000 in
theorem ggX0_below_X0_requireNode : GoodIn wsX0_below wsX0_requireNode := goodIn_ca (goodIn_r _ [4, 5, 6, 7, 8, 3, 9] (by decide +kernel) (by decide +kernel)) (goodIn_sub (fun _ h => List.mem_cons_of_mem _ (List.mem_append_right _ h)) (by decide +kernel))
set_option maxRecDepth 20000 in
theorem gX0_below_X0_requireNode : GoodIn wsX0_below (va_wsS RX0 89 yX0_requireNode wsX0_requireNode) := goodIn_app (goodIn_of _ (by decide +kernel)) ggX0_below_X0_requireNode
set_option maxRecDepth 20000 in
theorem ggX0_below_X0_childrenOf : GoodIn wsX0_below wsX0_childrenOf := goodIn_r _ [13, 14, 7, 8, 3, 9, 15, 16, 17, 18, 19, 20, 21, 22, 23, 24, 25, 26, 27, 28, 29, 30, 31, 32, 33, 34] (by decide +kernel) (by decide +kernel)
set_option maxRecDepth 20000 in
theorem gX0_below_X0_childrenOf : GoodIn wsX0_below (wsV RX0 125 RX0 yX0_childrenOf wsX0_childrenOf) := goodIn_app (goodIn_of _ (by decide +kernel)) ggX0_below_X0_childrenOf
theorem dX0_below_0 : decode cX0_below 0 = .ok (.iload_n 1, 1) := by decide +kernel
theorem dX0_below_1 : decode cX0_below 1 = .ok (.invokestatic 89, 3) := by decide +kernel
theorem dX0_below_4 : decode cX0_below 4 = .ok (.iconst 1, 1) := by decide +kernel
theorem dX0_below_5 : decode cX0_below 5 = .ok (.iload_n 1, 1) := by decide +kernel
theorem dX0_below_6 : decode cX0_below 6 = .ok (.ishl, 1) := by decide +kernel
theorem dX0_below_7 : decode cX0_below 7 = .ok (.istore_n 2, 1) := by decide +kernel
theorem dX0_below_8 : decode cX0_below 8 = .ok (.iconst 1, 1) := by decide +kernel
theorem dX0_below_9 : decode cX0_below 9 = .ok (.istore_n 3, 1) := by decide +kernel
theorem dX0_below_10 : decode cX0_below 10 = .ok (.iload_n 3, 1) := by decide +kernel
theorem dX0_below_11 : decode cX0_below 11 = .ok (.bipush 10, 2) := by decide +kernel
theorem dX0_below_13 : decode cX0_below 13 = .ok (.if_icmp .ge 17, 3) := by decide +kernel
theorem dX0_below_16 : decode cX0_below 16 = .ok (.iload_n 2, 1) := by decide +kernel
theorem dX0_below_17 : decode cX0_below 17 = .ok (.aload_n 0, 1) := by decide +kernel
theorem dX0_below_18 : decode cX0_below 18 = .ok (.iload_n 2, 1) := by decide +kernel
theorem dX0_below_19 : decode cX0_below 19 = .ok (.invokevirtual 125, 3) := by decide +kernel
theorem dX0_below_22 : decode cX0_below 22 = .ok (.ior, 1) := by decide +kernel
theorem dX0_below_23 : decode cX0_below 23 = .ok (.istore_n 2, 1) := by decide +kernel
theorem dX0_below_24 : decode cX0_below 24 = .ok (.iinc 3 1, 3) := by decide +kernel
theorem dX0_below_27 : decode cX0_below 27 = .ok (.goto (-17), 3) := by decide +kernel
theorem dX0_below_30 : decode cX0_below 30 = .ok (.iload_n 2, 1) := by decide +kernel
theorem dX0_below_31 : decode cX0_below 31 = .ok (.ireturn, 1) := by decide +kernel
set_option maxRecDepth 20000 in
theorem ggX0_down_X0_requireNode : GoodIn wsX0_down wsX0_requireNode := goodIn_ca (goodIn_r _ [7, 8, 9, 10, 11, 6, 12] (by decide +kernel) (by decide +kernel)) (goodIn_sub (fun _ h => List.mem_cons_of_mem _ (List.mem_append_right _ h)) (by decide +kernel))
set_option maxRecDepth 20000 in
theorem gX0_down_X0_requireNode : GoodIn wsX0_down (va_wsS RX0 89 yX0_requireNode wsX0_requireNode) := goodIn_app (goodIn_of _ (by decide +kernel)) ggX0_down_X0_requireNode
set_option maxRecDepth 20000 in
theorem ggX0_down_X0_isNode : GoodIn wsX0_down wsX0_isNode := goodIn_r _ [12] (by decide +kernel) (by decide +kernel)
set_option maxRecDepth 20000 in
theorem gX0_down_X0_isNode : GoodIn wsX0_down (va_wsS RX0 121 yX0_isNode wsX0_isNode) := goodIn_app (goodIn_of _ (by decide +kernel)) ggX0_down_X0_isNode
theorem dX0_down_0 : decode cX0_down 0 = .ok (.iload_n 1, 1) := by decide +kernel
theorem dX0_down_1 : decode cX0_down 1 = .ok (.invokestatic 89, 3) := by decide +kernel
theorem dX0_down_4 : decode cX0_down 4 = .ok (.iload_n 2, 1) := by decide +kernel
theorem dX0_down_5 : decode cX0_down 5 = .ok (.invokestatic 89, 3) := by decide +kernel
theorem dX0_down_8 : decode cX0_down 8 = .ok (.iload_n 1, 1) := by decide +kernel
theorem dX0_down_9 : decode cX0_down 9 = .ok (.iload_n 2, 1) := by decide +kernel
theorem dX0_down_10 : decode cX0_down 10 = .ok (.if_icmp .ne 13, 3) := by decide +kernel
theorem dX0_down_13 : decode cX0_down 13 = .ok (.new 102, 3) := by decide +kernel
theorem dX0_down_16 : decode cX0_down 16 = .ok (.dup, 1) := by decide +kernel
theorem dX0_down_17 : decode cX0_down 17 = .ok (.ldc 128, 2) := by decide +kernel
theorem dX0_down_19 : decode cX0_down 19 = .ok (.invokespecial 106, 3) := by decide +kernel
theorem dX0_down_22 : decode cX0_down 22 = .ok (.athrow, 1) := by decide +kernel
theorem dX0_down_23 : decode cX0_down 23 = .ok (.iload_n 2, 1) := by decide +kernel
theorem dX0_down_24 : decode cX0_down 24 = .ok (.istore_n 3, 1) := by decide +kernel
theorem dX0_down_25 : decode cX0_down 25 = .ok (.iconst 0, 1) := by decide +kernel
theorem dX0_down_26 : decode cX0_down 26 = .ok (.istore 4, 2) := by decide +kernel
theorem dX0_down_28 : decode cX0_down 28 = .ok (.iload 4, 2) := by decide +kernel
theorem dX0_down_30 : decode cX0_down 30 = .ok (.bipush 10, 2) := by decide +kernel
theorem dX0_down_32 : decode cX0_down 32 = .ok (.if_icmp .ge 35, 3) := by decide +kernel
theorem dX0_down_35 : decode cX0_down 35 = .ok (.iload_n 3, 1) := by decide +kernel
theorem dX0_down_36 : decode cX0_down 36 = .ok (.invokestatic 121, 3) := by decide +kernel
theorem dX0_down_39 : decode cX0_down 39 = .ok (.ifCond .eq 28, 3) := by decide +kernel
theorem dX0_down_42 : decode cX0_down 42 = .ok (.aload_n 0, 1) := by decide +kernel
theorem dX0_down_43 : decode cX0_down 43 = .ok (.getfield 62, 3) := by decide +kernel
theorem dX0_down_46 : decode cX0_down 46 = .ok (.iload_n 3, 1) := by decide +kernel
theorem dX0_down_47 : decode cX0_down 47 = .ok (.iaload, 1) := by decide +kernel
theorem dX0_down_48 : decode cX0_down 48 = .ok (.iload_n 1, 1) := by decide +kernel
theorem dX0_down_49 : decode cX0_down 49 = .ok (.if_icmp .ne 5, 3) := by decide +kernel
theorem dX0_down_52 : decode cX0_down 52 = .ok (.iload_n 3, 1) := by decide +kernel
theorem dX0_down_53 : decode cX0_down 53 = .ok (.ireturn, 1) := by decide +kernel
theorem dX0_down_54 : decode cX0_down 54 = .ok (.aload_n 0, 1) := by decide +kernel
theorem dX0_down_55 : decode cX0_down 55 = .ok (.getfield 62, 3) := by decide +kernel
theorem dX0_down_58 : decode cX0_down 58 = .ok (.iload_n 3, 1) := by decide +kernel
theorem dX0_down_59 : decode cX0_down 59 = .ok (.iaload, 1) := by decide +kernel
theorem dX0_down_60 : decode cX0_down 60 = .ok (.istore_n 3, 1) := by decide +kernel
theorem dX0_down_61 : decode cX0_down 61 = .ok (.iinc 4 1, 3) := by decide +kernel
theorem dX0_down_64 : decode cX0_down 64 = .ok (.goto (-36), 3) := by decide +kernel
theorem dX0_down_67 : decode cX0_down 67 = .ok (.new 102, 3) := by decide +kernel
theorem dX0_down_70 : decode cX0_down 70 = .ok (.dup, 1) := by decide +kernel
theorem dX0_down_71 : decode cX0_down 71 = .ok (.ldc 130, 2) := by decide +kernel
theorem dX0_down_73 : decode cX0_down 73 = .ok (.invokespecial 106, 3) := by decide +kernel
theorem dX0_down_76 : decode cX0_down 76 = .ok (.athrow, 1) := by decide +kernel
theorem dX0_isNode_0 : decode cX0_isNode 0 = .ok (.iload_n 0, 1) := by decide +kernel
theorem dX0_isNode_1 : decode cX0_isNode 1 = .ok (.ifCond .lt 13, 3) := by decide +kernel
theorem dX0_isNode_4 : decode cX0_isNode 4 = .ok (.iload_n 0, 1) := by decide +kernel
theorem dX0_isNode_5 : decode cX0_isNode 5 = .ok (.bipush 10, 2) := by decide +kernel
theorem dX0_isNode_7 : decode cX0_isNode 7 = .ok (.if_icmp .ge 7, 3) := by decide +kernel
theorem dX0_isNode_10 : decode cX0_isNode 10 = .ok (.iconst 1, 1) := by decide +kernel
theorem dX0_isNode_11 : decode cX0_isNode 11 = .ok (.goto 4, 3) := by decide +kernel
theorem dX0_isNode_14 : decode cX0_isNode 14 = .ok (.iconst 0, 1) := by decide +kernel
theorem dX0_isNode_15 : decode cX0_isNode 15 = .ok (.ireturn, 1) := by decide +kernel
set_option maxRecDepth 20000 in
theorem ggX0_requireNode_X0_isNode : GoodIn wsX0_requireNode wsX0_isNode := goodIn_r _ [6] (by decide +kernel) (by decide +kernel)
set_option maxRecDepth 20000 in
theorem gX0_requireNode_X0_isNode : GoodIn wsX0_requireNode (va_wsS RX0 121 yX0_isNode wsX0_isNode) := goodIn_app (goodIn_of _ (by decide +kernel)) ggX0_requireNode_X0_isNode
theorem dX0_requireNode_0 : decode cX0_requireNode 0 = .ok (.iload_n 0, 1) := by decide +kernel
theorem dX0_requireNode_1 : decode cX0_requireNode 1 = .ok (.invokestatic 121, 3) := by decide +kernel
theorem dX0_requireNode_4 : decode cX0_requireNode 4 = .ok (.ifCond .ne 13, 3) := by decide +kernel
theorem dX0_requireNode_7 : decode cX0_requireNode 7 = .ok (.new 132, 3) := by decide +kernel
theorem dX0_requireNode_10 : decode cX0_requireNode 10 = .ok (.dup, 1) := by decide +kernel
theorem dX0_requireNode_11 : decode cX0_requireNode 11 = .ok (.ldc 134, 2) := by decide +kernel
theorem dX0_requireNode_13 : decode cX0_requireNode 13 = .ok (.invokespecial 136, 3) := by decide +kernel
theorem dX0_requireNode_16 : decode cX0_requireNode 16 = .ok (.athrow, 1) := by decide +kernel
theorem dX0_requireNode_17 : decode cX0_requireNode 17 = .ok (.return_, 1) := by decide +kernel
set_option maxRecDepth 20000 in
theorem ggX0_requireRoot_X0_requireNode : GoodIn wsX0_requireRoot wsX0_requireNode := goodIn_ca (goodIn_r _ [7, 8, 9, 10, 11, 6, 12] (by decide +kernel) (by decide +kernel)) (goodIn_sub (fun _ h => List.mem_cons_of_mem _ (List.mem_append_right _ h)) (by decide +kernel))
set_option maxRecDepth 20000 in
theorem gX0_requireRoot_X0_requireNode : GoodIn wsX0_requireRoot (va_wsS RX0 89 yX0_requireNode wsX0_requireNode) := goodIn_app (goodIn_of _ (by decide +kernel)) ggX0_requireRoot_X0_requireNode
theorem dX0_requireRoot_0 : decode cX0_requireRoot 0 = .ok (.iload_n 1, 1) := by decide +kernel
theorem dX0_requireRoot_1 : decode cX0_requireRoot 1 = .ok (.invokestatic 89, 3) := by decide +kernel
theorem dX0_requireRoot_4 : decode cX0_requireRoot 4 = .ok (.aload_n 0, 1) := by decide +kernel
theorem dX0_requireRoot_5 : decode cX0_requireRoot 5 = .ok (.getfield 42, 3) := by decide +kernel
theorem dX0_requireRoot_8 : decode cX0_requireRoot 8 = .ok (.iload_n 1, 1) := by decide +kernel
theorem dX0_requireRoot_9 : decode cX0_requireRoot 9 = .ok (.baload, 1) := by decide +kernel
theorem dX0_requireRoot_10 : decode cX0_requireRoot 10 = .ok (.ifCond .ne 13, 3) := by decide +kernel
theorem dX0_requireRoot_13 : decode cX0_requireRoot 13 = .ok (.new 102, 3) := by decide +kernel
theorem dX0_requireRoot_16 : decode cX0_requireRoot 16 = .ok (.dup, 1) := by decide +kernel
theorem dX0_requireRoot_17 : decode cX0_requireRoot 17 = .ok (.ldc 137, 2) := by decide +kernel
theorem dX0_requireRoot_19 : decode cX0_requireRoot 19 = .ok (.invokespecial 106, 3) := by decide +kernel
theorem dX0_requireRoot_22 : decode cX0_requireRoot 22 = .ok (.athrow, 1) := by decide +kernel
theorem dX0_requireRoot_23 : decode cX0_requireRoot 23 = .ok (.return_, 1) := by decide +kernel
theorem dX0_requireRange_0 : decode cX0_requireRange 0 = .ok (.iload_n 0, 1) := by decide +kernel
theorem dX0_requireRange_1 : decode cX0_requireRange 1 = .ok (.iload_n 1, 1) := by decide +kernel
theorem dX0_requireRange_2 : decode cX0_requireRange 2 = .ok (.if_icmp .lt 8, 3) := by decide +kernel
theorem dX0_requireRange_5 : decode cX0_requireRange 5 = .ok (.iload_n 0, 1) := by decide +kernel
theorem dX0_requireRange_6 : decode cX0_requireRange 6 = .ok (.iload_n 2, 1) := by decide +kernel
theorem dX0_requireRange_7 : decode cX0_requireRange 7 = .ok (.if_icmp .le 13, 3) := by decide +kernel
theorem dX0_requireRange_10 : decode cX0_requireRange 10 = .ok (.new 92, 3) := by decide +kernel
theorem dX0_requireRange_13 : decode cX0_requireRange 13 = .ok (.dup, 1) := by decide +kernel
theorem dX0_requireRange_14 : decode cX0_requireRange 14 = .ok (.ldc 139, 2) := by decide +kernel
theorem dX0_requireRange_16 : decode cX0_requireRange 16 = .ok (.invokespecial 96, 3) := by decide +kernel
theorem dX0_requireRange_19 : decode cX0_requireRange 19 = .ok (.athrow, 1) := by decide +kernel
theorem dX0_requireRange_20 : decode cX0_requireRange 20 = .ok (.return_, 1) := by decide +kernel
theorem dX0_clearNode_0 : decode cX0_clearNode 0 = .ok (.aload_n 0, 1) := by decide +kernel
theorem dX0_clearNode_1 : decode cX0_clearNode 1 = .ok (.getfield 50, 3) := by decide +kernel
theorem dX0_clearNode_4 : decode cX0_clearNode 4 = .ok (.iload_n 1, 1) := by decide +kernel
theorem dX0_clearNode_5 : decode cX0_clearNode 5 = .ok (.iconst (-1), 1) := by decide +kernel
theorem dX0_clearNode_6 : decode cX0_clearNode 6 = .ok (.iastore, 1) := by decide +kernel
theorem dX0_clearNode_7 : decode cX0_clearNode 7 = .ok (.aload_n 0, 1) := by decide +kernel
theorem dX0_clearNode_8 : decode cX0_clearNode 8 = .ok (.getfield 53, 3) := by decide +kernel
theorem dX0_clearNode_11 : decode cX0_clearNode 11 = .ok (.iload_n 1, 1) := by decide +kernel
theorem dX0_clearNode_12 : decode cX0_clearNode 12 = .ok (.iconst 0, 1) := by decide +kernel
theorem dX0_clearNode_13 : decode cX0_clearNode 13 = .ok (.iastore, 1) := by decide +kernel
theorem dX0_clearNode_14 : decode cX0_clearNode 14 = .ok (.aload_n 0, 1) := by decide +kernel
theorem dX0_clearNode_15 : decode cX0_clearNode 15 = .ok (.getfield 56, 3) := by decide +kernel
theorem dX0_clearNode_18 : decode cX0_clearNode 18 = .ok (.iload_n 1, 1) := by decide +kernel
theorem dX0_clearNode_19 : decode cX0_clearNode 19 = .ok (.sipush 10000, 3) := by decide +kernel
theorem dX0_clearNode_22 : decode cX0_clearNode 22 = .ok (.iastore, 1) := by decide +kernel
theorem dX0_clearNode_23 : decode cX0_clearNode 23 = .ok (.aload_n 0, 1) := by decide +kernel
theorem dX0_clearNode_24 : decode cX0_clearNode 24 = .ok (.getfield 59, 3) := by decide +kernel
theorem dX0_clearNode_27 : decode cX0_clearNode 27 = .ok (.iload_n 1, 1) := by decide +kernel
theorem dX0_clearNode_28 : decode cX0_clearNode 28 = .ok (.sipush 10000, 3) := by decide +kernel
theorem dX0_clearNode_31 : decode cX0_clearNode 31 = .ok (.iastore, 1) := by decide +kernel
theorem dX0_clearNode_32 : decode cX0_clearNode 32 = .ok (.aload_n 0, 1) := by decide +kernel
theorem dX0_clearNode_33 : decode cX0_clearNode 33 = .ok (.getfield 62, 3) := by decide +kernel
theorem dX0_clearNode_36 : decode cX0_clearNode 36 = .ok (.iload_n 1, 1) := by decide +kernel
theorem dX0_clearNode_37 : decode cX0_clearNode 37 = .ok (.iconst (-1), 1) := by decide +kernel
theorem dX0_clearNode_38 : decode cX0_clearNode 38 = .ok (.iastore, 1) := by decide +kernel
theorem dX0_clearNode_39 : decode cX0_clearNode 39 = .ok (.return_, 1) := by decide +kernel
set_option maxRecDepth 20000 in
theorem ggX0_beginVersion_X0_resetTimer : GoodIn wsX0_beginVersion wsX0_resetTimer := goodIn_r _ [7, 8, 9, 10, 11, 12, 13, 14, 15, 16, 17, 18, 19, 20, 21, 22, 23, 24, 25, 26, 27, 28, 29, 30, 31] (by decide +kernel) (by decide +kernel)
set_option maxRecDepth 20000 in
theorem gX0_beginVersion_X0_resetTimer : GoodIn wsX0_beginVersion (wsV RX0 78 RX0 yX0_resetTimer wsX0_resetTimer) := goodIn_app (goodIn_of _ (by decide +kernel)) ggX0_beginVersion_X0_resetTimer
theorem dX0_beginVersion_0 : decode cX0_beginVersion 0 = .ok (.aload_n 0, 1) := by decide +kernel
theorem dX0_beginVersion_1 : decode cX0_beginVersion 1 = .ok (.getfield 46, 3) := by decide +kernel
theorem dX0_beginVersion_4 : decode cX0_beginVersion 4 = .ok (.iload_n 1, 1) := by decide +kernel
theorem dX0_beginVersion_5 : decode cX0_beginVersion 5 = .ok (.dup2, 1) := by decide +kernel
theorem dX0_beginVersion_6 : decode cX0_beginVersion 6 = .ok (.iaload, 1) := by decide +kernel
theorem dX0_beginVersion_7 : decode cX0_beginVersion 7 = .ok (.iconst 1, 1) := by decide +kernel
theorem dX0_beginVersion_8 : decode cX0_beginVersion 8 = .ok (.iadd, 1) := by decide +kernel
theorem dX0_beginVersion_9 : decode cX0_beginVersion 9 = .ok (.iastore, 1) := by decide +kernel
theorem dX0_beginVersion_10 : decode cX0_beginVersion 10 = .ok (.aload_n 0, 1) := by decide +kernel
theorem dX0_beginVersion_11 : decode cX0_beginVersion 11 = .ok (.getfield 53, 3) := by decide +kernel
theorem dX0_beginVersion_14 : decode cX0_beginVersion 14 = .ok (.iload_n 1, 1) := by decide +kernel
theorem dX0_beginVersion_15 : decode cX0_beginVersion 15 = .ok (.aload_n 0, 1) := by decide +kernel
theorem dX0_beginVersion_16 : decode cX0_beginVersion 16 = .ok (.getfield 46, 3) := by decide +kernel
theorem dX0_beginVersion_19 : decode cX0_beginVersion 19 = .ok (.iload_n 1, 1) := by decide +kernel
theorem dX0_beginVersion_20 : decode cX0_beginVersion 20 = .ok (.iaload, 1) := by decide +kernel
theorem dX0_beginVersion_21 : decode cX0_beginVersion 21 = .ok (.iastore, 1) := by decide +kernel
theorem dX0_beginVersion_22 : decode cX0_beginVersion 22 = .ok (.aload_n 0, 1) := by decide +kernel
theorem dX0_beginVersion_23 : decode cX0_beginVersion 23 = .ok (.iload_n 1, 1) := by decide +kernel
theorem dX0_beginVersion_24 : decode cX0_beginVersion 24 = .ok (.invokevirtual 78, 3) := by decide +kernel
theorem dX0_beginVersion_27 : decode cX0_beginVersion 27 = .ok (.aload_n 0, 1) := by decide +kernel
theorem dX0_beginVersion_28 : decode cX0_beginVersion 28 = .ok (.getfield 53, 3) := by decide +kernel
theorem dX0_beginVersion_31 : decode cX0_beginVersion 31 = .ok (.iload_n 1, 1) := by decide +kernel
theorem dX0_beginVersion_32 : decode cX0_beginVersion 32 = .ok (.iaload, 1) := by decide +kernel
theorem dX0_beginVersion_33 : decode cX0_beginVersion 33 = .ok (.ireturn, 1) := by decide +kernel
theorem dX0_forget_0 : decode cX0_forget 0 = .ok (.aload_n 0, 1) := by decide +kernel
theorem dX0_forget_1 : decode cX0_forget 1 = .ok (.getfield 33, 3) := by decide +kernel
theorem dX0_forget_4 : decode cX0_forget 4 = .ok (.iload_n 1, 1) := by decide +kernel
theorem dX0_forget_5 : decode cX0_forget 5 = .ok (.aaload, 1) := by decide +kernel
theorem dX0_forget_6 : decode cX0_forget 6 = .ok (.iload_n 2, 1) := by decide +kernel
theorem dX0_forget_7 : decode cX0_forget 7 = .ok (.iconst (-1), 1) := by decide +kernel
theorem dX0_forget_8 : decode cX0_forget 8 = .ok (.iastore, 1) := by decide +kernel
theorem dX0_forget_9 : decode cX0_forget 9 = .ok (.aload_n 0, 1) := by decide +kernel
theorem dX0_forget_10 : decode cX0_forget 10 = .ok (.getfield 36, 3) := by decide +kernel
theorem dX0_forget_13 : decode cX0_forget 13 = .ok (.iload_n 1, 1) := by decide +kernel
theorem dX0_forget_14 : decode cX0_forget 14 = .ok (.aaload, 1) := by decide +kernel
theorem dX0_forget_15 : decode cX0_forget 15 = .ok (.iload_n 2, 1) := by decide +kernel
theorem dX0_forget_16 : decode cX0_forget 16 = .ok (.iconst 0, 1) := by decide +kernel
theorem dX0_forget_17 : decode cX0_forget 17 = .ok (.iastore, 1) := by decide +kernel
theorem dX0_forget_18 : decode cX0_forget 18 = .ok (.aload_n 0, 1) := by decide +kernel
theorem dX0_forget_19 : decode cX0_forget 19 = .ok (.getfield 39, 3) := by decide +kernel
theorem dX0_forget_22 : decode cX0_forget 22 = .ok (.iload_n 1, 1) := by decide +kernel
theorem dX0_forget_23 : decode cX0_forget 23 = .ok (.aaload, 1) := by decide +kernel
theorem dX0_forget_24 : decode cX0_forget 24 = .ok (.iload_n 2, 1) := by decide +kernel
theorem dX0_forget_25 : decode cX0_forget 25 = .ok (.iconst (-1), 1) := by decide +kernel
theorem dX0_forget_26 : decode cX0_forget 26 = .ok (.iastore, 1) := by decide +kernel
theorem dX0_forget_27 : decode cX0_forget 27 = .ok (.return_, 1) := by decide +kernel
theorem dX0_resetTimer_0 : decode cX0_resetTimer 0 = .ok (.aload_n 0, 1) := by decide +kernel
theorem dX0_resetTimer_1 : decode cX0_resetTimer 1 = .ok (.getfield 65, 3) := by decide +kernel
theorem dX0_resetTimer_4 : decode cX0_resetTimer 4 = .ok (.iload_n 1, 1) := by decide +kernel
theorem dX0_resetTimer_5 : decode cX0_resetTimer 5 = .ok (.aload_n 0, 1) := by decide +kernel
theorem dX0_resetTimer_6 : decode cX0_resetTimer 6 = .ok (.getfield 16, 3) := by decide +kernel
theorem dX0_resetTimer_9 : decode cX0_resetTimer 9 = .ok (.iastore, 1) := by decide +kernel
theorem dX0_resetTimer_10 : decode cX0_resetTimer 10 = .ok (.aload_n 0, 1) := by decide +kernel
theorem dX0_resetTimer_11 : decode cX0_resetTimer 11 = .ok (.getfield 68, 3) := by decide +kernel
theorem dX0_resetTimer_14 : decode cX0_resetTimer 14 = .ok (.iload_n 1, 1) := by decide +kernel
theorem dX0_resetTimer_15 : decode cX0_resetTimer 15 = .ok (.aload_n 0, 1) := by decide +kernel
theorem dX0_resetTimer_16 : decode cX0_resetTimer 16 = .ok (.getfield 22, 3) := by decide +kernel
theorem dX0_resetTimer_19 : decode cX0_resetTimer 19 = .ok (.aload_n 0, 1) := by decide +kernel
theorem dX0_resetTimer_20 : decode cX0_resetTimer 20 = .ok (.getfield 16, 3) := by decide +kernel
theorem dX0_resetTimer_23 : decode cX0_resetTimer 23 = .ok (.iadd, 1) := by decide +kernel
theorem dX0_resetTimer_24 : decode cX0_resetTimer 24 = .ok (.iastore, 1) := by decide +kernel
theorem dX0_resetTimer_25 : decode cX0_resetTimer 25 = .ok (.return_, 1) := by decide +kernel
theorem dX0_lengthenTimer_0 : decode cX0_lengthenTimer 0 = .ok (.aload_n 0, 1) := by decide +kernel
theorem dX0_lengthenTimer_1 : decode cX0_lengthenTimer 1 = .ok (.getfield 65, 3) := by decide +kernel
theorem dX0_lengthenTimer_4 : decode cX0_lengthenTimer 4 = .ok (.iload_n 1, 1) := by decide +kernel
theorem dX0_lengthenTimer_5 : decode cX0_lengthenTimer 5 = .ok (.iconst 2, 1) := by decide +kernel
theorem dX0_lengthenTimer_6 : decode cX0_lengthenTimer 6 = .ok (.aload_n 0, 1) := by decide +kernel
theorem dX0_lengthenTimer_7 : decode cX0_lengthenTimer 7 = .ok (.getfield 65, 3) := by decide +kernel
theorem dX0_lengthenTimer_10 : decode cX0_lengthenTimer 10 = .ok (.iload_n 1, 1) := by decide +kernel
theorem dX0_lengthenTimer_11 : decode cX0_lengthenTimer 11 = .ok (.iaload, 1) := by decide +kernel
theorem dX0_lengthenTimer_12 : decode cX0_lengthenTimer 12 = .ok (.imul, 1) := by decide +kernel
theorem dX0_lengthenTimer_13 : decode cX0_lengthenTimer 13 = .ok (.aload_n 0, 1) := by decide +kernel
theorem dX0_lengthenTimer_14 : decode cX0_lengthenTimer 14 = .ok (.getfield 16, 3) := by decide +kernel
theorem dX0_lengthenTimer_17 : decode cX0_lengthenTimer 17 = .ok (.aload_n 0, 1) := by decide +kernel
theorem dX0_lengthenTimer_18 : decode cX0_lengthenTimer 18 = .ok (.getfield 19, 3) := by decide +kernel
theorem dX0_lengthenTimer_21 : decode cX0_lengthenTimer 21 = .ok (.ishl, 1) := by decide +kernel
theorem dX0_lengthenTimer_22 : decode cX0_lengthenTimer 22 = .ok (.invokestatic 141, 3) := by decide +kernel
theorem dX0_lengthenTimer_25 : decode cX0_lengthenTimer 25 = .ok (.iastore, 1) := by decide +kernel
theorem dX0_lengthenTimer_26 : decode cX0_lengthenTimer 26 = .ok (.aload_n 0, 1) := by decide +kernel
theorem dX0_lengthenTimer_27 : decode cX0_lengthenTimer 27 = .ok (.getfield 68, 3) := by decide +kernel
theorem dX0_lengthenTimer_30 : decode cX0_lengthenTimer 30 = .ok (.iload_n 1, 1) := by decide +kernel
theorem dX0_lengthenTimer_31 : decode cX0_lengthenTimer 31 = .ok (.aload_n 0, 1) := by decide +kernel
theorem dX0_lengthenTimer_32 : decode cX0_lengthenTimer 32 = .ok (.getfield 22, 3) := by decide +kernel
theorem dX0_lengthenTimer_35 : decode cX0_lengthenTimer 35 = .ok (.aload_n 0, 1) := by decide +kernel
theorem dX0_lengthenTimer_36 : decode cX0_lengthenTimer 36 = .ok (.getfield 65, 3) := by decide +kernel
theorem dX0_lengthenTimer_39 : decode cX0_lengthenTimer 39 = .ok (.iload_n 1, 1) := by decide +kernel
theorem dX0_lengthenTimer_40 : decode cX0_lengthenTimer 40 = .ok (.iaload, 1) := by decide +kernel
theorem dX0_lengthenTimer_41 : decode cX0_lengthenTimer 41 = .ok (.iadd, 1) := by decide +kernel
theorem dX0_lengthenTimer_42 : decode cX0_lengthenTimer 42 = .ok (.iastore, 1) := by decide +kernel
theorem dX0_lengthenTimer_43 : decode cX0_lengthenTimer 43 = .ok (.return_, 1) := by decide +kernel
set_option maxRecDepth 20000 in
theorem ggX0_passTick_X0_tell : GoodIn wsX0_passTick wsX0_tell := goodIn_r _ [7, 8, 9, 10, 11, 12, 13, 14, 15, 16, 17, 6, 18, 19, 20, 21, 22, 23, 24, 25, 26, 27, 28, 29, 30, 31, 32, 33, 34, 35, 36, 37, 38, 39, 40, 41, 42, 43, 44, 45, 46, 47, 48, 49, 50, 51, 52, 53, 54, 55, 56, 57, 58, 59, 2, 1, 60, 61, 62, 63, 64, 65, 66, 67, 68, 69, 70, 71, 72, 78, 79, 80, 81, 82, 83, 84, 85, 86, 87, 88, 89, 90, 91, 92, 93, 94, 95, 96, 97] (by decide +kernel) (by decide +kernel)
set_option maxRecDepth 20000 in
theorem gX0_passTick_X0_tell : GoodIn wsX0_passTick (wsV RX0 147 RX0 yX0_tell wsX0_tell) := goodIn_app (goodIn_of _ (by decide +kernel)) ggX0_passTick_X0_tell
set_option maxRecDepth 20000 in
theorem ggX0_passTick_X0_lengthenTimer : GoodIn wsX0_passTick wsX0_lengthenTimer := goodIn_r _ [76, 58, 59, 77, 69, 70, 71, 72, 2, 1, 78, 79, 80, 81, 82, 83, 84, 85, 86, 87, 88, 89, 90, 91, 92, 93, 94, 95, 96, 97] (by decide +kernel) (by decide +kernel)
set_option maxRecDepth 20000 in
theorem gX0_passTick_X0_lengthenTimer : GoodIn wsX0_passTick (wsV RX0 150 RX0 yX0_lengthenTimer wsX0_lengthenTimer) := goodIn_app (goodIn_of _ (by decide +kernel)) ggX0_passTick_X0_lengthenTimer
theorem dX0_passTick_0 : decode cX0_passTick 0 = .ok (.iconst 0, 1) := by decide +kernel
theorem dX0_passTick_1 : decode cX0_passTick 1 = .ok (.istore_n 1, 1) := by decide +kernel
theorem dX0_passTick_2 : decode cX0_passTick 2 = .ok (.aload_n 0, 1) := by decide +kernel
theorem dX0_passTick_3 : decode cX0_passTick 3 = .ok (.dup, 1) := by decide +kernel
theorem dX0_passTick_4 : decode cX0_passTick 4 = .ok (.getfield 22, 3) := by decide +kernel
theorem dX0_passTick_7 : decode cX0_passTick 7 = .ok (.iconst 1, 1) := by decide +kernel
theorem dX0_passTick_8 : decode cX0_passTick 8 = .ok (.iadd, 1) := by decide +kernel
theorem dX0_passTick_9 : decode cX0_passTick 9 = .ok (.putfield 22, 3) := by decide +kernel
theorem dX0_passTick_12 : decode cX0_passTick 12 = .ok (.iconst 0, 1) := by decide +kernel
theorem dX0_passTick_13 : decode cX0_passTick 13 = .ok (.istore_n 2, 1) := by decide +kernel
theorem dX0_passTick_14 : decode cX0_passTick 14 = .ok (.iload_n 2, 1) := by decide +kernel
theorem dX0_passTick_15 : decode cX0_passTick 15 = .ok (.bipush 10, 2) := by decide +kernel
theorem dX0_passTick_17 : decode cX0_passTick 17 = .ok (.if_icmp .ge 35, 3) := by decide +kernel
theorem dX0_passTick_20 : decode cX0_passTick 20 = .ok (.aload_n 0, 1) := by decide +kernel
theorem dX0_passTick_21 : decode cX0_passTick 21 = .ok (.getfield 68, 3) := by decide +kernel
theorem dX0_passTick_24 : decode cX0_passTick 24 = .ok (.iload_n 2, 1) := by decide +kernel
theorem dX0_passTick_25 : decode cX0_passTick 25 = .ok (.iaload, 1) := by decide +kernel
theorem dX0_passTick_26 : decode cX0_passTick 26 = .ok (.aload_n 0, 1) := by decide +kernel
theorem dX0_passTick_27 : decode cX0_passTick 27 = .ok (.getfield 22, 3) := by decide +kernel
theorem dX0_passTick_30 : decode cX0_passTick 30 = .ok (.if_icmp .ne 16, 3) := by decide +kernel
theorem dX0_passTick_33 : decode cX0_passTick 33 = .ok (.aload_n 0, 1) := by decide +kernel
theorem dX0_passTick_34 : decode cX0_passTick 34 = .ok (.iload_n 2, 1) := by decide +kernel
theorem dX0_passTick_35 : decode cX0_passTick 35 = .ok (.invokevirtual 147, 3) := by decide +kernel
theorem dX0_passTick_38 : decode cX0_passTick 38 = .ok (.aload_n 0, 1) := by decide +kernel
theorem dX0_passTick_39 : decode cX0_passTick 39 = .ok (.iload_n 2, 1) := by decide +kernel
theorem dX0_passTick_40 : decode cX0_passTick 40 = .ok (.invokevirtual 150, 3) := by decide +kernel
theorem dX0_passTick_43 : decode cX0_passTick 43 = .ok (.iinc 1 1, 3) := by decide +kernel
theorem dX0_passTick_46 : decode cX0_passTick 46 = .ok (.iinc 2 1, 3) := by decide +kernel
theorem dX0_passTick_49 : decode cX0_passTick 49 = .ok (.goto (-35), 3) := by decide +kernel
theorem dX0_passTick_52 : decode cX0_passTick 52 = .ok (.iload_n 1, 1) := by decide +kernel
theorem dX0_passTick_53 : decode cX0_passTick 53 = .ok (.ireturn, 1) := by decide +kernel
set_option maxRecDepth 20000 in
theorem ggX0_tell_X0_choose : GoodIn wsX0_tell wsX0_choose := goodIn_r _ [12, 13, 14, 15, 16, 17, 11, 18, 19, 20, 21, 22, 6, 1, 23, 24, 25, 26, 27, 28, 29, 30, 2, 4, 3, 5, 31, 32, 33, 34, 7, 35, 36, 37, 38, 39, 40, 41, 42, 43, 44, 45, 46, 47, 48, 49, 50, 51, 52, 53, 54, 55, 56, 57, 58, 59, 60, 61, 62, 63, 64, 65, 66, 67, 68, 69, 70, 71, 72, 73, 74, 75, 76, 77, 78, 79, 80, 81, 82, 83, 84, 85, 86, 87, 88] (by decide +kernel) (by decide +kernel)
set_option maxRecDepth 20000 in
theorem gX0_tell_X0_choose : GoodIn wsX0_tell (wsV RX0 99 RX0 yX0_choose wsX0_choose) := goodIn_app (goodIn_of _ (by decide +kernel)) ggX0_tell_X0_choose
theorem dX0_tell_0 : decode cX0_tell 0 = .ok (.iconst 0, 1) := by decide +kernel
theorem dX0_tell_1 : decode cX0_tell 1 = .ok (.istore_n 2, 1) := by decide +kernel
theorem dX0_tell_2 : decode cX0_tell 2 = .ok (.iload_n 2, 1) := by decide +kernel
theorem dX0_tell_3 : decode cX0_tell 3 = .ok (.bipush 10, 2) := by decide +kernel
theorem dX0_tell_5 : decode cX0_tell 5 = .ok (.if_icmp .ge 67, 3) := by decide +kernel
theorem dX0_tell_8 : decode cX0_tell 8 = .ok (.aload_n 0, 1) := by decide +kernel
theorem dX0_tell_9 : decode cX0_tell 9 = .ok (.getfield 30, 3) := by decide +kernel
theorem dX0_tell_12 : decode cX0_tell 12 = .ok (.iload_n 1, 1) := by decide +kernel
theorem dX0_tell_13 : decode cX0_tell 13 = .ok (.aaload, 1) := by decide +kernel
theorem dX0_tell_14 : decode cX0_tell 14 = .ok (.iload_n 2, 1) := by decide +kernel
theorem dX0_tell_15 : decode cX0_tell 15 = .ok (.iaload, 1) := by decide +kernel
theorem dX0_tell_16 : decode cX0_tell 16 = .ok (.ifCond .le 50, 3) := by decide +kernel
theorem dX0_tell_19 : decode cX0_tell 19 = .ok (.aload_n 0, 1) := by decide +kernel
theorem dX0_tell_20 : decode cX0_tell 20 = .ok (.getfield 33, 3) := by decide +kernel
theorem dX0_tell_23 : decode cX0_tell 23 = .ok (.iload_n 2, 1) := by decide +kernel
theorem dX0_tell_24 : decode cX0_tell 24 = .ok (.aaload, 1) := by decide +kernel
theorem dX0_tell_25 : decode cX0_tell 25 = .ok (.iload_n 1, 1) := by decide +kernel
theorem dX0_tell_26 : decode cX0_tell 26 = .ok (.aload_n 0, 1) := by decide +kernel
theorem dX0_tell_27 : decode cX0_tell 27 = .ok (.getfield 50, 3) := by decide +kernel
theorem dX0_tell_30 : decode cX0_tell 30 = .ok (.iload_n 1, 1) := by decide +kernel
theorem dX0_tell_31 : decode cX0_tell 31 = .ok (.iaload, 1) := by decide +kernel
theorem dX0_tell_32 : decode cX0_tell 32 = .ok (.iastore, 1) := by decide +kernel
theorem dX0_tell_33 : decode cX0_tell 33 = .ok (.aload_n 0, 1) := by decide +kernel
theorem dX0_tell_34 : decode cX0_tell 34 = .ok (.getfield 36, 3) := by decide +kernel
theorem dX0_tell_37 : decode cX0_tell 37 = .ok (.iload_n 2, 1) := by decide +kernel
theorem dX0_tell_38 : decode cX0_tell 38 = .ok (.aaload, 1) := by decide +kernel
theorem dX0_tell_39 : decode cX0_tell 39 = .ok (.iload_n 1, 1) := by decide +kernel
theorem dX0_tell_40 : decode cX0_tell 40 = .ok (.aload_n 0, 1) := by decide +kernel
theorem dX0_tell_41 : decode cX0_tell 41 = .ok (.getfield 53, 3) := by decide +kernel
theorem dX0_tell_44 : decode cX0_tell 44 = .ok (.iload_n 1, 1) := by decide +kernel
theorem dX0_tell_45 : decode cX0_tell 45 = .ok (.iaload, 1) := by decide +kernel
theorem dX0_tell_46 : decode cX0_tell 46 = .ok (.iastore, 1) := by decide +kernel
theorem dX0_tell_47 : decode cX0_tell 47 = .ok (.aload_n 0, 1) := by decide +kernel
theorem dX0_tell_48 : decode cX0_tell 48 = .ok (.getfield 39, 3) := by decide +kernel
theorem dX0_tell_51 : decode cX0_tell 51 = .ok (.iload_n 2, 1) := by decide +kernel
theorem dX0_tell_52 : decode cX0_tell 52 = .ok (.aaload, 1) := by decide +kernel
theorem dX0_tell_53 : decode cX0_tell 53 = .ok (.iload_n 1, 1) := by decide +kernel
theorem dX0_tell_54 : decode cX0_tell 54 = .ok (.aload_n 0, 1) := by decide +kernel
theorem dX0_tell_55 : decode cX0_tell 55 = .ok (.getfield 56, 3) := by decide +kernel
theorem dX0_tell_58 : decode cX0_tell 58 = .ok (.iload_n 1, 1) := by decide +kernel
theorem dX0_tell_59 : decode cX0_tell 59 = .ok (.iaload, 1) := by decide +kernel
theorem dX0_tell_60 : decode cX0_tell 60 = .ok (.iastore, 1) := by decide +kernel
theorem dX0_tell_61 : decode cX0_tell 61 = .ok (.aload_n 0, 1) := by decide +kernel
theorem dX0_tell_62 : decode cX0_tell 62 = .ok (.iload_n 2, 1) := by decide +kernel
theorem dX0_tell_63 : decode cX0_tell 63 = .ok (.invokevirtual 99, 3) := by decide +kernel
theorem dX0_tell_66 : decode cX0_tell 66 = .ok (.iinc 2 1, 3) := by decide +kernel
theorem dX0_tell_69 : decode cX0_tell 69 = .ok (.goto (-67), 3) := by decide +kernel
theorem dX0_tell_72 : decode cX0_tell 72 = .ok (.return_, 1) := by decide +kernel
theorem dX0_lowerWayCosts_0 : decode cX0_lowerWayCosts 0 = .ok (.iconst 0, 1) := by decide +kernel
theorem dX0_lowerWayCosts_1 : decode cX0_lowerWayCosts 1 = .ok (.istore_n 1, 1) := by decide +kernel
theorem dX0_lowerWayCosts_2 : decode cX0_lowerWayCosts 2 = .ok (.iload_n 1, 1) := by decide +kernel
theorem dX0_lowerWayCosts_3 : decode cX0_lowerWayCosts 3 = .ok (.bipush 10, 2) := by decide +kernel
theorem dX0_lowerWayCosts_5 : decode cX0_lowerWayCosts 5 = .ok (.if_icmp .ge 59, 3) := by decide +kernel
theorem dX0_lowerWayCosts_8 : decode cX0_lowerWayCosts 8 = .ok (.iconst 0, 1) := by decide +kernel
theorem dX0_lowerWayCosts_9 : decode cX0_lowerWayCosts 9 = .ok (.istore_n 2, 1) := by decide +kernel
theorem dX0_lowerWayCosts_10 : decode cX0_lowerWayCosts 10 = .ok (.iload_n 2, 1) := by decide +kernel
theorem dX0_lowerWayCosts_11 : decode cX0_lowerWayCosts 11 = .ok (.bipush 10, 2) := by decide +kernel
theorem dX0_lowerWayCosts_13 : decode cX0_lowerWayCosts 13 = .ok (.if_icmp .ge 45, 3) := by decide +kernel
theorem dX0_lowerWayCosts_16 : decode cX0_lowerWayCosts 16 = .ok (.aload_n 0, 1) := by decide +kernel
theorem dX0_lowerWayCosts_17 : decode cX0_lowerWayCosts 17 = .ok (.getfield 30, 3) := by decide +kernel
theorem dX0_lowerWayCosts_20 : decode cX0_lowerWayCosts 20 = .ok (.iload_n 1, 1) := by decide +kernel
theorem dX0_lowerWayCosts_21 : decode cX0_lowerWayCosts 21 = .ok (.aaload, 1) := by decide +kernel
theorem dX0_lowerWayCosts_22 : decode cX0_lowerWayCosts 22 = .ok (.iload_n 2, 1) := by decide +kernel
theorem dX0_lowerWayCosts_23 : decode cX0_lowerWayCosts 23 = .ok (.iaload, 1) := by decide +kernel
theorem dX0_lowerWayCosts_24 : decode cX0_lowerWayCosts 24 = .ok (.istore_n 3, 1) := by decide +kernel
theorem dX0_lowerWayCosts_25 : decode cX0_lowerWayCosts 25 = .ok (.iload_n 3, 1) := by decide +kernel
theorem dX0_lowerWayCosts_26 : decode cX0_lowerWayCosts 26 = .ok (.ifCond .le 26, 3) := by decide +kernel
theorem dX0_lowerWayCosts_29 : decode cX0_lowerWayCosts 29 = .ok (.aload_n 0, 1) := by decide +kernel
theorem dX0_lowerWayCosts_30 : decode cX0_lowerWayCosts 30 = .ok (.getfield 71, 3) := by decide +kernel
theorem dX0_lowerWayCosts_33 : decode cX0_lowerWayCosts 33 = .ok (.iload_n 1, 1) := by decide +kernel
theorem dX0_lowerWayCosts_34 : decode cX0_lowerWayCosts 34 = .ok (.aload_n 0, 1) := by decide +kernel
theorem dX0_lowerWayCosts_35 : decode cX0_lowerWayCosts 35 = .ok (.getfield 71, 3) := by decide +kernel
theorem dX0_lowerWayCosts_38 : decode cX0_lowerWayCosts 38 = .ok (.iload_n 1, 1) := by decide +kernel
theorem dX0_lowerWayCosts_39 : decode cX0_lowerWayCosts 39 = .ok (.iaload, 1) := by decide +kernel
theorem dX0_lowerWayCosts_40 : decode cX0_lowerWayCosts 40 = .ok (.aload_n 0, 1) := by decide +kernel
theorem dX0_lowerWayCosts_41 : decode cX0_lowerWayCosts 41 = .ok (.getfield 71, 3) := by decide +kernel
theorem dX0_lowerWayCosts_44 : decode cX0_lowerWayCosts 44 = .ok (.iload_n 2, 1) := by decide +kernel
theorem dX0_lowerWayCosts_45 : decode cX0_lowerWayCosts 45 = .ok (.iaload, 1) := by decide +kernel
theorem dX0_lowerWayCosts_46 : decode cX0_lowerWayCosts 46 = .ok (.iload_n 3, 1) := by decide +kernel
theorem dX0_lowerWayCosts_47 : decode cX0_lowerWayCosts 47 = .ok (.iadd, 1) := by decide +kernel
theorem dX0_lowerWayCosts_48 : decode cX0_lowerWayCosts 48 = .ok (.invokestatic 141, 3) := by decide +kernel
theorem dX0_lowerWayCosts_51 : decode cX0_lowerWayCosts 51 = .ok (.iastore, 1) := by decide +kernel
theorem dX0_lowerWayCosts_52 : decode cX0_lowerWayCosts 52 = .ok (.iinc 2 1, 3) := by decide +kernel
theorem dX0_lowerWayCosts_55 : decode cX0_lowerWayCosts 55 = .ok (.goto (-45), 3) := by decide +kernel
theorem dX0_lowerWayCosts_58 : decode cX0_lowerWayCosts 58 = .ok (.iinc 1 1, 3) := by decide +kernel
theorem dX0_lowerWayCosts_61 : decode cX0_lowerWayCosts 61 = .ok (.goto (-59), 3) := by decide +kernel
theorem dX0_lowerWayCosts_64 : decode cX0_lowerWayCosts 64 = .ok (.return_, 1) := by decide +kernel
set_option maxRecDepth 20000 in
theorem ggX0_childrenOf_X0_isNode : GoodIn wsX0_childrenOf wsX0_isNode := goodIn_r _ [5] (by decide +kernel) (by decide +kernel)
set_option maxRecDepth 20000 in
theorem gX0_childrenOf_X0_isNode : GoodIn wsX0_childrenOf (va_wsS RX0 121 yX0_isNode wsX0_isNode) := goodIn_app (goodIn_of _ (by decide +kernel)) ggX0_childrenOf_X0_isNode
theorem dX0_childrenOf_0 : decode cX0_childrenOf 0 = .ok (.iconst 0, 1) := by decide +kernel
theorem dX0_childrenOf_1 : decode cX0_childrenOf 1 = .ok (.istore_n 2, 1) := by decide +kernel
theorem dX0_childrenOf_2 : decode cX0_childrenOf 2 = .ok (.iconst 0, 1) := by decide +kernel
theorem dX0_childrenOf_3 : decode cX0_childrenOf 3 = .ok (.istore_n 3, 1) := by decide +kernel
theorem dX0_childrenOf_4 : decode cX0_childrenOf 4 = .ok (.iload_n 3, 1) := by decide +kernel
theorem dX0_childrenOf_5 : decode cX0_childrenOf 5 = .ok (.bipush 10, 2) := by decide +kernel
theorem dX0_childrenOf_7 : decode cX0_childrenOf 7 = .ok (.if_icmp .ge 40, 3) := by decide +kernel
theorem dX0_childrenOf_10 : decode cX0_childrenOf 10 = .ok (.aload_n 0, 1) := by decide +kernel
theorem dX0_childrenOf_11 : decode cX0_childrenOf 11 = .ok (.getfield 62, 3) := by decide +kernel
theorem dX0_childrenOf_14 : decode cX0_childrenOf 14 = .ok (.iload_n 3, 1) := by decide +kernel
theorem dX0_childrenOf_15 : decode cX0_childrenOf 15 = .ok (.iaload, 1) := by decide +kernel
theorem dX0_childrenOf_16 : decode cX0_childrenOf 16 = .ok (.istore 4, 2) := by decide +kernel
theorem dX0_childrenOf_18 : decode cX0_childrenOf 18 = .ok (.iload 4, 2) := by decide +kernel
theorem dX0_childrenOf_20 : decode cX0_childrenOf 20 = .ok (.invokestatic 121, 3) := by decide +kernel
theorem dX0_childrenOf_23 : decode cX0_childrenOf 23 = .ok (.ifCond .eq 18, 3) := by decide +kernel
theorem dX0_childrenOf_26 : decode cX0_childrenOf 26 = .ok (.iload_n 1, 1) := by decide +kernel
theorem dX0_childrenOf_27 : decode cX0_childrenOf 27 = .ok (.iload 4, 2) := by decide +kernel
theorem dX0_childrenOf_29 : decode cX0_childrenOf 29 = .ok (.ishr, 1) := by decide +kernel
theorem dX0_childrenOf_30 : decode cX0_childrenOf 30 = .ok (.iconst 1, 1) := by decide +kernel
theorem dX0_childrenOf_31 : decode cX0_childrenOf 31 = .ok (.iand, 1) := by decide +kernel
theorem dX0_childrenOf_32 : decode cX0_childrenOf 32 = .ok (.ifCond .eq 9, 3) := by decide +kernel
theorem dX0_childrenOf_35 : decode cX0_childrenOf 35 = .ok (.iload_n 2, 1) := by decide +kernel
theorem dX0_childrenOf_36 : decode cX0_childrenOf 36 = .ok (.iconst 1, 1) := by decide +kernel
theorem dX0_childrenOf_37 : decode cX0_childrenOf 37 = .ok (.iload_n 3, 1) := by decide +kernel
theorem dX0_childrenOf_38 : decode cX0_childrenOf 38 = .ok (.ishl, 1) := by decide +kernel
theorem dX0_childrenOf_39 : decode cX0_childrenOf 39 = .ok (.ior, 1) := by decide +kernel
theorem dX0_childrenOf_40 : decode cX0_childrenOf 40 = .ok (.istore_n 2, 1) := by decide +kernel
theorem dX0_childrenOf_41 : decode cX0_childrenOf 41 = .ok (.iinc 3 1, 3) := by decide +kernel
end
section
theorem dX0_childrenOf_44 : decode cX0_childrenOf 44 = .ok (.goto (-40), 3) := by decide +kernel
theorem dX0_childrenOf_47 : decode cX0_childrenOf 47 = .ok (.iload_n 2, 1) := by decide +kernel
theorem dX0_childrenOf_48 : decode cX0_childrenOf 48 = .ok (.ireturn, 1) := by decide +kernel
set_option maxRecDepth 20000 in
theorem ggX0_choose_X0_bestCandidate : GoodIn wsX0_choose wsX0_bestCandidate := goodIn_r _ [7, 8, 9, 10, 6, 11, 12, 13, 14, 15, 16, 17, 18, 19, 20, 21, 22, 23, 24, 25, 26, 27, 28, 29, 30, 31, 32, 33, 34, 35, 36, 65, 66, 67, 68, 69, 70, 71, 72, 73, 74, 75, 76, 77, 78, 79, 80, 81, 82, 83, 84] (by decide +kernel) (by decide +kernel)
set_option maxRecDepth 20000 in
theorem gX0_choose_X0_bestCandidate : GoodIn wsX0_choose (wsV RX0 153 RX0 yX0_bestCandidate wsX0_bestCandidate) := goodIn_app (goodIn_of _ (by decide +kernel)) ggX0_choose_X0_bestCandidate
set_option maxRecDepth 20000 in
theorem ggX0_choose_X0_isNode : GoodIn wsX0_choose wsX0_isNode := goodIn_r _ [39] (by decide +kernel) (by decide +kernel)
set_option maxRecDepth 20000 in
theorem gX0_choose_X0_isNode : GoodIn wsX0_choose (va_wsS RX0 121 yX0_isNode wsX0_isNode) := goodIn_app (goodIn_of _ (by decide +kernel)) ggX0_choose_X0_isNode
set_option maxRecDepth 20000 in
theorem ggX0_choose_X0_loseParent : GoodIn wsX0_choose wsX0_loseParent := goodIn_r _ [43, 30, 2, 44, 45, 46, 6, 47, 48, 49, 50, 51, 65, 66, 67, 68, 69, 70, 71, 72, 73, 74, 75, 76, 77, 78, 79, 80, 81, 82, 83, 84] (by decide +kernel) (by decide +kernel)
set_option maxRecDepth 20000 in
theorem gX0_choose_X0_loseParent : GoodIn wsX0_choose (wsV RX0 156 RX0 yX0_loseParent wsX0_loseParent) := goodIn_app (goodIn_of _ (by decide +kernel)) ggX0_choose_X0_loseParent
set_option maxRecDepth 20000 in
theorem ggX0_choose_X0_keepsParent : GoodIn wsX0_choose wsX0_keepsParent := goodIn_r _ [55, 2, 56, 37, 38, 6, 39, 14, 15, 16, 17, 12, 8, 9, 10, 11, 13, 18, 19, 20, 21, 22, 23, 24, 25, 26, 27, 28, 29, 30, 31, 32, 33, 34, 35, 36, 65, 66, 67, 68, 69, 70, 71, 72, 73, 74, 75, 76, 77, 78, 79, 80, 81, 82, 83, 84] (by decide +kernel) (by decide +kernel)
set_option maxRecDepth 20000 in
theorem gX0_choose_X0_keepsParent : GoodIn wsX0_choose (wsV RX0 159 RX0 yX0_keepsParent wsX0_keepsParent) := goodIn_app (goodIn_of _ (by decide +kernel)) ggX0_choose_X0_keepsParent
set_option maxRecDepth 20000 in
theorem ggX0_choose_X0_follow : GoodIn wsX0_choose wsX0_follow := goodIn_r _ [60, 30, 2, 31, 61, 62, 63, 64, 24, 22, 25, 23, 8, 9, 10, 6, 11, 12, 13, 33, 34, 35, 36, 44, 45, 46, 47, 48, 49, 50, 51, 65, 66, 67, 68, 69, 70, 71, 72, 73, 74, 75, 76, 77, 78, 79, 80, 81, 82, 83, 84] (by decide +kernel) (by decide +kernel)
set_option maxRecDepth 20000 in
theorem gX0_choose_X0_follow : GoodIn wsX0_choose (wsV RX0 163 RX0 yX0_follow wsX0_follow) := goodIn_app (goodIn_of _ (by decide +kernel)) ggX0_choose_X0_follow
theorem dX0_choose_0 : decode cX0_choose 0 = .ok (.aload_n 0, 1) := by decide +kernel
theorem dX0_choose_1 : decode cX0_choose 1 = .ok (.getfield 42, 3) := by decide +kernel
theorem dX0_choose_4 : decode cX0_choose 4 = .ok (.iload_n 1, 1) := by decide +kernel
theorem dX0_choose_5 : decode cX0_choose 5 = .ok (.baload, 1) := by decide +kernel
theorem dX0_choose_6 : decode cX0_choose 6 = .ok (.ifCond .eq 4, 3) := by decide +kernel
theorem dX0_choose_9 : decode cX0_choose 9 = .ok (.return_, 1) := by decide +kernel
theorem dX0_choose_10 : decode cX0_choose 10 = .ok (.aload_n 0, 1) := by decide +kernel
theorem dX0_choose_11 : decode cX0_choose 11 = .ok (.iload_n 1, 1) := by decide +kernel
theorem dX0_choose_12 : decode cX0_choose 12 = .ok (.invokevirtual 153, 3) := by decide +kernel
theorem dX0_choose_15 : decode cX0_choose 15 = .ok (.istore_n 2, 1) := by decide +kernel
theorem dX0_choose_16 : decode cX0_choose 16 = .ok (.iload_n 2, 1) := by decide +kernel
theorem dX0_choose_17 : decode cX0_choose 17 = .ok (.invokestatic 121, 3) := by decide +kernel
theorem dX0_choose_20 : decode cX0_choose 20 = .ok (.ifCond .ne 11, 3) := by decide +kernel
theorem dX0_choose_23 : decode cX0_choose 23 = .ok (.aload_n 0, 1) := by decide +kernel
theorem dX0_choose_24 : decode cX0_choose 24 = .ok (.iload_n 1, 1) := by decide +kernel
theorem dX0_choose_25 : decode cX0_choose 25 = .ok (.invokevirtual 156, 3) := by decide +kernel
theorem dX0_choose_28 : decode cX0_choose 28 = .ok (.goto 32, 3) := by decide +kernel
theorem dX0_choose_31 : decode cX0_choose 31 = .ok (.aload_n 0, 1) := by decide +kernel
theorem dX0_choose_32 : decode cX0_choose 32 = .ok (.iload_n 1, 1) := by decide +kernel
theorem dX0_choose_33 : decode cX0_choose 33 = .ok (.iload_n 2, 1) := by decide +kernel
theorem dX0_choose_34 : decode cX0_choose 34 = .ok (.invokevirtual 159, 3) := by decide +kernel
theorem dX0_choose_37 : decode cX0_choose 37 = .ok (.ifCond .eq 17, 3) := by decide +kernel
theorem dX0_choose_40 : decode cX0_choose 40 = .ok (.aload_n 0, 1) := by decide +kernel
theorem dX0_choose_41 : decode cX0_choose 41 = .ok (.iload_n 1, 1) := by decide +kernel
theorem dX0_choose_42 : decode cX0_choose 42 = .ok (.aload_n 0, 1) := by decide +kernel
theorem dX0_choose_43 : decode cX0_choose 43 = .ok (.getfield 62, 3) := by decide +kernel
theorem dX0_choose_46 : decode cX0_choose 46 = .ok (.iload_n 1, 1) := by decide +kernel
theorem dX0_choose_47 : decode cX0_choose 47 = .ok (.iaload, 1) := by decide +kernel
theorem dX0_choose_48 : decode cX0_choose 48 = .ok (.invokevirtual 163, 3) := by decide +kernel
theorem dX0_choose_51 : decode cX0_choose 51 = .ok (.goto 9, 3) := by decide +kernel
theorem dX0_choose_54 : decode cX0_choose 54 = .ok (.aload_n 0, 1) := by decide +kernel
theorem dX0_choose_55 : decode cX0_choose 55 = .ok (.iload_n 1, 1) := by decide +kernel
theorem dX0_choose_56 : decode cX0_choose 56 = .ok (.iload_n 2, 1) := by decide +kernel
theorem dX0_choose_57 : decode cX0_choose 57 = .ok (.invokevirtual 163, 3) := by decide +kernel
theorem dX0_choose_60 : decode cX0_choose 60 = .ok (.return_, 1) := by decide +kernel
set_option maxRecDepth 20000 in
theorem ggX0_keepsParent_X0_isNode : GoodIn wsX0_keepsParent wsX0_isNode := goodIn_r _ [6] (by decide +kernel) (by decide +kernel)
set_option maxRecDepth 20000 in
theorem gX0_keepsParent_X0_isNode : GoodIn wsX0_keepsParent (va_wsS RX0 121 yX0_isNode wsX0_isNode) := goodIn_app (goodIn_of _ (by decide +kernel)) ggX0_keepsParent_X0_isNode
set_option maxRecDepth 20000 in
theorem ggX0_keepsParent_X0_isCandidate : GoodIn wsX0_keepsParent wsX0_isCandidate := goodIn_r _ [10, 11, 12, 13, 14, 5, 15, 16, 17, 18, 19, 20, 21, 22, 23, 24, 25, 26, 27, 28, 29, 30, 31, 32, 33, 34, 35, 36, 37, 38, 39, 40, 41, 42, 43, 44, 45, 46, 47, 48, 49, 50, 51, 52, 53, 54, 55] (by decide +kernel) (by decide +kernel)
set_option maxRecDepth 20000 in
theorem gX0_keepsParent_X0_isCandidate : GoodIn wsX0_keepsParent (wsV RX0 166 RX0 yX0_isCandidate wsX0_isCandidate) := goodIn_app (goodIn_of _ (by decide +kernel)) ggX0_keepsParent_X0_isCandidate
set_option maxRecDepth 20000 in
theorem ggX0_keepsParent_X0_rankBy : GoodIn wsX0_keepsParent wsX0_rankBy := goodIn_r _ [15, 11, 16, 36, 37, 38, 39, 40, 41, 42, 43, 44, 45, 46, 47, 48, 49, 50, 51, 52, 53, 54, 55] (by decide +kernel) (by decide +kernel)
set_option maxRecDepth 20000 in
theorem gX0_keepsParent_X0_rankBy : GoodIn wsX0_keepsParent (wsV RX0 169 RX0 yX0_rankBy wsX0_rankBy) := goodIn_app (goodIn_of _ (by decide +kernel)) ggX0_keepsParent_X0_rankBy
theorem dX0_keepsParent_0 : decode cX0_keepsParent 0 = .ok (.aload_n 0, 1) := by decide +kernel
theorem dX0_keepsParent_1 : decode cX0_keepsParent 1 = .ok (.getfield 62, 3) := by decide +kernel
theorem dX0_keepsParent_4 : decode cX0_keepsParent 4 = .ok (.iload_n 1, 1) := by decide +kernel
theorem dX0_keepsParent_5 : decode cX0_keepsParent 5 = .ok (.iaload, 1) := by decide +kernel
theorem dX0_keepsParent_6 : decode cX0_keepsParent 6 = .ok (.istore_n 3, 1) := by decide +kernel
theorem dX0_keepsParent_7 : decode cX0_keepsParent 7 = .ok (.iload_n 3, 1) := by decide +kernel
theorem dX0_keepsParent_8 : decode cX0_keepsParent 8 = .ok (.invokestatic 121, 3) := by decide +kernel
theorem dX0_keepsParent_11 : decode cX0_keepsParent 11 = .ok (.ifCond .eq 12, 3) := by decide +kernel
theorem dX0_keepsParent_14 : decode cX0_keepsParent 14 = .ok (.aload_n 0, 1) := by decide +kernel
theorem dX0_keepsParent_15 : decode cX0_keepsParent 15 = .ok (.iload_n 1, 1) := by decide +kernel
theorem dX0_keepsParent_16 : decode cX0_keepsParent 16 = .ok (.iload_n 3, 1) := by decide +kernel
theorem dX0_keepsParent_17 : decode cX0_keepsParent 17 = .ok (.invokevirtual 166, 3) := by decide +kernel
theorem dX0_keepsParent_20 : decode cX0_keepsParent 20 = .ok (.ifCond .ne 5, 3) := by decide +kernel
theorem dX0_keepsParent_23 : decode cX0_keepsParent 23 = .ok (.iconst 0, 1) := by decide +kernel
theorem dX0_keepsParent_24 : decode cX0_keepsParent 24 = .ok (.ireturn, 1) := by decide +kernel
theorem dX0_keepsParent_25 : decode cX0_keepsParent 25 = .ok (.aload_n 0, 1) := by decide +kernel
theorem dX0_keepsParent_26 : decode cX0_keepsParent 26 = .ok (.iload_n 1, 1) := by decide +kernel
theorem dX0_keepsParent_27 : decode cX0_keepsParent 27 = .ok (.iload_n 3, 1) := by decide +kernel
theorem dX0_keepsParent_28 : decode cX0_keepsParent 28 = .ok (.invokevirtual 169, 3) := by decide +kernel
theorem dX0_keepsParent_31 : decode cX0_keepsParent 31 = .ok (.aload_n 0, 1) := by decide +kernel
theorem dX0_keepsParent_32 : decode cX0_keepsParent 32 = .ok (.iload_n 1, 1) := by decide +kernel
theorem dX0_keepsParent_33 : decode cX0_keepsParent 33 = .ok (.iload_n 2, 1) := by decide +kernel
theorem dX0_keepsParent_34 : decode cX0_keepsParent 34 = .ok (.invokevirtual 169, 3) := by decide +kernel
theorem dX0_keepsParent_37 : decode cX0_keepsParent 37 = .ok (.isub, 1) := by decide +kernel
theorem dX0_keepsParent_38 : decode cX0_keepsParent 38 = .ok (.istore 4, 2) := by decide +kernel
theorem dX0_keepsParent_40 : decode cX0_keepsParent 40 = .ok (.iload 4, 2) := by decide +kernel
theorem dX0_keepsParent_42 : decode cX0_keepsParent 42 = .ok (.aload_n 0, 1) := by decide +kernel
theorem dX0_keepsParent_43 : decode cX0_keepsParent 43 = .ok (.getfield 9, 3) := by decide +kernel
theorem dX0_keepsParent_46 : decode cX0_keepsParent 46 = .ok (.if_icmp .lt 9, 3) := by decide +kernel
theorem dX0_keepsParent_49 : decode cX0_keepsParent 49 = .ok (.iload 4, 2) := by decide +kernel
theorem dX0_keepsParent_51 : decode cX0_keepsParent 51 = .ok (.iconst 1, 1) := by decide +kernel
theorem dX0_keepsParent_52 : decode cX0_keepsParent 52 = .ok (.if_icmp .ge 7, 3) := by decide +kernel
theorem dX0_keepsParent_55 : decode cX0_keepsParent 55 = .ok (.iconst 1, 1) := by decide +kernel
theorem dX0_keepsParent_56 : decode cX0_keepsParent 56 = .ok (.goto 4, 3) := by decide +kernel
theorem dX0_keepsParent_59 : decode cX0_keepsParent 59 = .ok (.iconst 0, 1) := by decide +kernel
theorem dX0_keepsParent_60 : decode cX0_keepsParent 60 = .ok (.ireturn, 1) := by decide +kernel
set_option maxRecDepth 20000 in
theorem ggX0_bestCandidate_X0_rankBy : GoodIn wsX0_bestCandidate wsX0_rankBy := goodIn_r _ [5, 6, 7, 31, 32, 33, 34, 35, 36, 37, 38, 39, 40, 41, 42, 43, 44, 45, 46, 47, 48, 49, 50] (by decide +kernel) (by decide +kernel)
set_option maxRecDepth 20000 in
theorem gX0_bestCandidate_X0_rankBy : GoodIn wsX0_bestCandidate (wsV RX0 169 RX0 yX0_rankBy wsX0_rankBy) := goodIn_app (goodIn_of _ (by decide +kernel)) ggX0_bestCandidate_X0_rankBy
set_option maxRecDepth 20000 in
theorem ggX0_bestCandidate_X0_isCandidate : GoodIn wsX0_bestCandidate wsX0_isCandidate := goodIn_r _ [11, 6, 1, 2, 3, 4, 5, 7, 12, 13, 14, 15, 16, 17, 18, 19, 20, 21, 22, 23, 24, 25, 26, 27, 28, 29, 30, 31, 32, 33, 34, 35, 36, 37, 38, 39, 40, 41, 42, 43, 44, 45, 46, 47, 48, 49, 50] (by decide +kernel) (by decide +kernel)
set_option maxRecDepth 20000 in
theorem gX0_bestCandidate_X0_isCandidate : GoodIn wsX0_bestCandidate (wsV RX0 166 RX0 yX0_isCandidate wsX0_isCandidate) := goodIn_app (goodIn_of _ (by decide +kernel)) ggX0_bestCandidate_X0_isCandidate
theorem dX0_bestCandidate_0 : decode cX0_bestCandidate 0 = .ok (.iconst (-1), 1) := by decide +kernel
theorem dX0_bestCandidate_1 : decode cX0_bestCandidate 1 = .ok (.istore_n 2, 1) := by decide +kernel
theorem dX0_bestCandidate_2 : decode cX0_bestCandidate 2 = .ok (.sipush 10000, 3) := by decide +kernel
theorem dX0_bestCandidate_5 : decode cX0_bestCandidate 5 = .ok (.istore_n 3, 1) := by decide +kernel
theorem dX0_bestCandidate_6 : decode cX0_bestCandidate 6 = .ok (.iconst 0, 1) := by decide +kernel
theorem dX0_bestCandidate_7 : decode cX0_bestCandidate 7 = .ok (.istore 4, 2) := by decide +kernel
theorem dX0_bestCandidate_9 : decode cX0_bestCandidate 9 = .ok (.iload 4, 2) := by decide +kernel
theorem dX0_bestCandidate_11 : decode cX0_bestCandidate 11 = .ok (.bipush 10, 2) := by decide +kernel
theorem dX0_bestCandidate_13 : decode cX0_bestCandidate 13 = .ok (.if_icmp .ge 40, 3) := by decide +kernel
theorem dX0_bestCandidate_16 : decode cX0_bestCandidate 16 = .ok (.aload_n 0, 1) := by decide +kernel
theorem dX0_bestCandidate_17 : decode cX0_bestCandidate 17 = .ok (.iload_n 1, 1) := by decide +kernel
theorem dX0_bestCandidate_18 : decode cX0_bestCandidate 18 = .ok (.iload 4, 2) := by decide +kernel
theorem dX0_bestCandidate_20 : decode cX0_bestCandidate 20 = .ok (.invokevirtual 169, 3) := by decide +kernel
theorem dX0_bestCandidate_23 : decode cX0_bestCandidate 23 = .ok (.istore 5, 2) := by decide +kernel
theorem dX0_bestCandidate_25 : decode cX0_bestCandidate 25 = .ok (.iload 5, 2) := by decide +kernel
theorem dX0_bestCandidate_27 : decode cX0_bestCandidate 27 = .ok (.iload_n 3, 1) := by decide +kernel
theorem dX0_bestCandidate_28 : decode cX0_bestCandidate 28 = .ok (.if_icmp .ge 19, 3) := by decide +kernel
theorem dX0_bestCandidate_31 : decode cX0_bestCandidate 31 = .ok (.aload_n 0, 1) := by decide +kernel
theorem dX0_bestCandidate_32 : decode cX0_bestCandidate 32 = .ok (.iload_n 1, 1) := by decide +kernel
theorem dX0_bestCandidate_33 : decode cX0_bestCandidate 33 = .ok (.iload 4, 2) := by decide +kernel
theorem dX0_bestCandidate_35 : decode cX0_bestCandidate 35 = .ok (.invokevirtual 166, 3) := by decide +kernel
theorem dX0_bestCandidate_38 : decode cX0_bestCandidate 38 = .ok (.ifCond .eq 9, 3) := by decide +kernel
theorem dX0_bestCandidate_41 : decode cX0_bestCandidate 41 = .ok (.iload 4, 2) := by decide +kernel
theorem dX0_bestCandidate_43 : decode cX0_bestCandidate 43 = .ok (.istore_n 2, 1) := by decide +kernel
theorem dX0_bestCandidate_44 : decode cX0_bestCandidate 44 = .ok (.iload 5, 2) := by decide +kernel
theorem dX0_bestCandidate_46 : decode cX0_bestCandidate 46 = .ok (.istore_n 3, 1) := by decide +kernel
theorem dX0_bestCandidate_47 : decode cX0_bestCandidate 47 = .ok (.iinc 4 1, 3) := by decide +kernel
theorem dX0_bestCandidate_50 : decode cX0_bestCandidate 50 = .ok (.goto (-41), 3) := by decide +kernel
theorem dX0_bestCandidate_53 : decode cX0_bestCandidate 53 = .ok (.iload_n 2, 1) := by decide +kernel
theorem dX0_bestCandidate_54 : decode cX0_bestCandidate 54 = .ok (.ireturn, 1) := by decide +kernel
set_option maxRecDepth 20000 in
theorem ggX0_isCandidate_X0_rankBy : GoodIn wsX0_isCandidate wsX0_rankBy := goodIn_r _ [6, 1, 7, 27, 28, 29, 30, 31, 32, 33, 34, 35, 36, 37, 38, 39, 40, 41, 42, 43, 44, 45, 46] (by decide +kernel) (by decide +kernel)
set_option maxRecDepth 20000 in
theorem gX0_isCandidate_X0_rankBy : GoodIn wsX0_isCandidate (wsV RX0 169 RX0 yX0_rankBy wsX0_rankBy) := goodIn_app (goodIn_of _ (by decide +kernel)) ggX0_isCandidate_X0_rankBy
set_option maxRecDepth 20000 in
theorem ggX0_isCandidate_X0_isOutdated : GoodIn wsX0_isCandidate wsX0_isOutdated := goodIn_r _ [11, 12, 13, 14, 15, 27, 28, 29, 30, 31, 32, 33, 34, 35, 36, 37, 38, 39, 40, 41, 42, 43, 44, 45, 46] (by decide +kernel) (by decide +kernel)
set_option maxRecDepth 20000 in
theorem gX0_isCandidate_X0_isOutdated : GoodIn wsX0_isCandidate (wsV RX0 172 RX0 yX0_isOutdated wsX0_isOutdated) := goodIn_app (goodIn_of _ (by decide +kernel)) ggX0_isCandidate_X0_isOutdated
set_option maxRecDepth 20000 in
theorem ggX0_isCandidate_X0_isTooDeep : GoodIn wsX0_isCandidate wsX0_isTooDeep := goodIn_r _ [19, 20, 1, 21, 22, 23, 24, 25, 5, 26, 12, 14, 13, 15, 2, 3, 4, 6, 7, 27, 28, 29, 30, 31, 32, 33, 34, 35, 36, 37, 38, 39, 40, 41, 42, 43, 44, 45, 46] (by decide +kernel) (by decide +kernel)
set_option maxRecDepth 20000 in
theorem gX0_isCandidate_X0_isTooDeep : GoodIn wsX0_isCandidate (wsV RX0 175 RX0 yX0_isTooDeep wsX0_isTooDeep) := goodIn_app (goodIn_of _ (by decide +kernel)) ggX0_isCandidate_X0_isTooDeep
theorem dX0_isCandidate_0 : decode cX0_isCandidate 0 = .ok (.aload_n 0, 1) := by decide +kernel
theorem dX0_isCandidate_1 : decode cX0_isCandidate 1 = .ok (.getfield 39, 3) := by decide +kernel
theorem dX0_isCandidate_4 : decode cX0_isCandidate 4 = .ok (.iload_n 1, 1) := by decide +kernel
theorem dX0_isCandidate_5 : decode cX0_isCandidate 5 = .ok (.aaload, 1) := by decide +kernel
theorem dX0_isCandidate_6 : decode cX0_isCandidate 6 = .ok (.iload_n 2, 1) := by decide +kernel
theorem dX0_isCandidate_7 : decode cX0_isCandidate 7 = .ok (.iaload, 1) := by decide +kernel
theorem dX0_isCandidate_8 : decode cX0_isCandidate 8 = .ok (.istore_n 3, 1) := by decide +kernel
theorem dX0_isCandidate_9 : decode cX0_isCandidate 9 = .ok (.iload_n 3, 1) := by decide +kernel
theorem dX0_isCandidate_10 : decode cX0_isCandidate 10 = .ok (.iconst (-1), 1) := by decide +kernel
theorem dX0_isCandidate_11 : decode cX0_isCandidate 11 = .ok (.if_icmp .eq 22, 3) := by decide +kernel
theorem dX0_isCandidate_14 : decode cX0_isCandidate 14 = .ok (.iload_n 3, 1) := by decide +kernel
theorem dX0_isCandidate_15 : decode cX0_isCandidate 15 = .ok (.sipush 10000, 3) := by decide +kernel
theorem dX0_isCandidate_18 : decode cX0_isCandidate 18 = .ok (.if_icmp .ge 15, 3) := by decide +kernel
theorem dX0_isCandidate_21 : decode cX0_isCandidate 21 = .ok (.aload_n 0, 1) := by decide +kernel
theorem dX0_isCandidate_22 : decode cX0_isCandidate 22 = .ok (.iload_n 1, 1) := by decide +kernel
theorem dX0_isCandidate_23 : decode cX0_isCandidate 23 = .ok (.iload_n 2, 1) := by decide +kernel
theorem dX0_isCandidate_24 : decode cX0_isCandidate 24 = .ok (.invokevirtual 169, 3) := by decide +kernel
theorem dX0_isCandidate_27 : decode cX0_isCandidate 27 = .ok (.sipush 10000, 3) := by decide +kernel
theorem dX0_isCandidate_30 : decode cX0_isCandidate 30 = .ok (.if_icmp .lt 5, 3) := by decide +kernel
theorem dX0_isCandidate_33 : decode cX0_isCandidate 33 = .ok (.iconst 0, 1) := by decide +kernel
theorem dX0_isCandidate_34 : decode cX0_isCandidate 34 = .ok (.ireturn, 1) := by decide +kernel
theorem dX0_isCandidate_35 : decode cX0_isCandidate 35 = .ok (.aload_n 0, 1) := by decide +kernel
theorem dX0_isCandidate_36 : decode cX0_isCandidate 36 = .ok (.iload_n 1, 1) := by decide +kernel
theorem dX0_isCandidate_37 : decode cX0_isCandidate 37 = .ok (.iload_n 2, 1) := by decide +kernel
theorem dX0_isCandidate_38 : decode cX0_isCandidate 38 = .ok (.invokevirtual 172, 3) := by decide +kernel
theorem dX0_isCandidate_41 : decode cX0_isCandidate 41 = .ok (.ifCond .ne 16, 3) := by decide +kernel
theorem dX0_isCandidate_44 : decode cX0_isCandidate 44 = .ok (.aload_n 0, 1) := by decide +kernel
theorem dX0_isCandidate_45 : decode cX0_isCandidate 45 = .ok (.iload_n 1, 1) := by decide +kernel
theorem dX0_isCandidate_46 : decode cX0_isCandidate 46 = .ok (.iload_n 2, 1) := by decide +kernel
theorem dX0_isCandidate_47 : decode cX0_isCandidate 47 = .ok (.invokevirtual 175, 3) := by decide +kernel
theorem dX0_isCandidate_50 : decode cX0_isCandidate 50 = .ok (.ifCond .ne 7, 3) := by decide +kernel
theorem dX0_isCandidate_53 : decode cX0_isCandidate 53 = .ok (.iconst 1, 1) := by decide +kernel
theorem dX0_isCandidate_54 : decode cX0_isCandidate 54 = .ok (.goto 4, 3) := by decide +kernel
theorem dX0_isCandidate_57 : decode cX0_isCandidate 57 = .ok (.iconst 0, 1) := by decide +kernel
theorem dX0_isCandidate_58 : decode cX0_isCandidate 58 = .ok (.ireturn, 1) := by decide +kernel
theorem dX0_rankBy_0 : decode cX0_rankBy 0 = .ok (.aload_n 0, 1) := by decide +kernel
theorem dX0_rankBy_1 : decode cX0_rankBy 1 = .ok (.getfield 39, 3) := by decide +kernel
theorem dX0_rankBy_4 : decode cX0_rankBy 4 = .ok (.iload_n 1, 1) := by decide +kernel
theorem dX0_rankBy_5 : decode cX0_rankBy 5 = .ok (.aaload, 1) := by decide +kernel
theorem dX0_rankBy_6 : decode cX0_rankBy 6 = .ok (.iload_n 2, 1) := by decide +kernel
theorem dX0_rankBy_7 : decode cX0_rankBy 7 = .ok (.iaload, 1) := by decide +kernel
theorem dX0_rankBy_8 : decode cX0_rankBy 8 = .ok (.aload_n 0, 1) := by decide +kernel
theorem dX0_rankBy_9 : decode cX0_rankBy 9 = .ok (.getfield 30, 3) := by decide +kernel
theorem dX0_rankBy_12 : decode cX0_rankBy 12 = .ok (.iload_n 1, 1) := by decide +kernel
theorem dX0_rankBy_13 : decode cX0_rankBy 13 = .ok (.aaload, 1) := by decide +kernel
theorem dX0_rankBy_14 : decode cX0_rankBy 14 = .ok (.iload_n 2, 1) := by decide +kernel
theorem dX0_rankBy_15 : decode cX0_rankBy 15 = .ok (.iaload, 1) := by decide +kernel
theorem dX0_rankBy_16 : decode cX0_rankBy 16 = .ok (.iadd, 1) := by decide +kernel
theorem dX0_rankBy_17 : decode cX0_rankBy 17 = .ok (.ireturn, 1) := by decide +kernel
theorem dX0_isOutdated_0 : decode cX0_isOutdated 0 = .ok (.aload_n 0, 1) := by decide +kernel
theorem dX0_isOutdated_1 : decode cX0_isOutdated 1 = .ok (.getfield 33, 3) := by decide +kernel
theorem dX0_isOutdated_4 : decode cX0_isOutdated 4 = .ok (.iload_n 1, 1) := by decide +kernel
theorem dX0_isOutdated_5 : decode cX0_isOutdated 5 = .ok (.aaload, 1) := by decide +kernel
theorem dX0_isOutdated_6 : decode cX0_isOutdated 6 = .ok (.iload_n 2, 1) := by decide +kernel
theorem dX0_isOutdated_7 : decode cX0_isOutdated 7 = .ok (.iaload, 1) := by decide +kernel
theorem dX0_isOutdated_8 : decode cX0_isOutdated 8 = .ok (.istore_n 3, 1) := by decide +kernel
theorem dX0_isOutdated_9 : decode cX0_isOutdated 9 = .ok (.aload_n 0, 1) := by decide +kernel
theorem dX0_isOutdated_10 : decode cX0_isOutdated 10 = .ok (.getfield 36, 3) := by decide +kernel
theorem dX0_isOutdated_13 : decode cX0_isOutdated 13 = .ok (.iload_n 1, 1) := by decide +kernel
theorem dX0_isOutdated_14 : decode cX0_isOutdated 14 = .ok (.aaload, 1) := by decide +kernel
theorem dX0_isOutdated_15 : decode cX0_isOutdated 15 = .ok (.iload_n 2, 1) := by decide +kernel
theorem dX0_isOutdated_16 : decode cX0_isOutdated 16 = .ok (.iaload, 1) := by decide +kernel
theorem dX0_isOutdated_17 : decode cX0_isOutdated 17 = .ok (.istore 4, 2) := by decide +kernel
theorem dX0_isOutdated_19 : decode cX0_isOutdated 19 = .ok (.aload_n 0, 1) := by decide +kernel
theorem dX0_isOutdated_20 : decode cX0_isOutdated 20 = .ok (.getfield 50, 3) := by decide +kernel
theorem dX0_isOutdated_23 : decode cX0_isOutdated 23 = .ok (.iload_n 1, 1) := by decide +kernel
theorem dX0_isOutdated_24 : decode cX0_isOutdated 24 = .ok (.iaload, 1) := by decide +kernel
theorem dX0_isOutdated_25 : decode cX0_isOutdated 25 = .ok (.iload_n 3, 1) := by decide +kernel
theorem dX0_isOutdated_26 : decode cX0_isOutdated 26 = .ok (.if_icmp .ne 16, 3) := by decide +kernel
theorem dX0_isOutdated_29 : decode cX0_isOutdated 29 = .ok (.aload_n 0, 1) := by decide +kernel
theorem dX0_isOutdated_30 : decode cX0_isOutdated 30 = .ok (.getfield 53, 3) := by decide +kernel
theorem dX0_isOutdated_33 : decode cX0_isOutdated 33 = .ok (.iload_n 1, 1) := by decide +kernel
theorem dX0_isOutdated_34 : decode cX0_isOutdated 34 = .ok (.iaload, 1) := by decide +kernel
theorem dX0_isOutdated_35 : decode cX0_isOutdated 35 = .ok (.iload 4, 2) := by decide +kernel
theorem dX0_isOutdated_37 : decode cX0_isOutdated 37 = .ok (.if_icmp .le 5, 3) := by decide +kernel
theorem dX0_isOutdated_40 : decode cX0_isOutdated 40 = .ok (.iconst 1, 1) := by decide +kernel
theorem dX0_isOutdated_41 : decode cX0_isOutdated 41 = .ok (.ireturn, 1) := by decide +kernel
theorem dX0_isOutdated_42 : decode cX0_isOutdated 42 = .ok (.iconst 0, 1) := by decide +kernel
theorem dX0_isOutdated_43 : decode cX0_isOutdated 43 = .ok (.istore 5, 2) := by decide +kernel
theorem dX0_isOutdated_45 : decode cX0_isOutdated 45 = .ok (.iload 5, 2) := by decide +kernel
theorem dX0_isOutdated_47 : decode cX0_isOutdated 47 = .ok (.bipush 10, 2) := by decide +kernel
theorem dX0_isOutdated_49 : decode cX0_isOutdated 49 = .ok (.if_icmp .ge 38, 3) := by decide +kernel
theorem dX0_isOutdated_52 : decode cX0_isOutdated 52 = .ok (.aload_n 0, 1) := by decide +kernel
theorem dX0_isOutdated_53 : decode cX0_isOutdated 53 = .ok (.getfield 33, 3) := by decide +kernel
theorem dX0_isOutdated_56 : decode cX0_isOutdated 56 = .ok (.iload_n 1, 1) := by decide +kernel
theorem dX0_isOutdated_57 : decode cX0_isOutdated 57 = .ok (.aaload, 1) := by decide +kernel
theorem dX0_isOutdated_58 : decode cX0_isOutdated 58 = .ok (.iload 5, 2) := by decide +kernel
theorem dX0_isOutdated_60 : decode cX0_isOutdated 60 = .ok (.iaload, 1) := by decide +kernel
theorem dX0_isOutdated_61 : decode cX0_isOutdated 61 = .ok (.iload_n 3, 1) := by decide +kernel
theorem dX0_isOutdated_62 : decode cX0_isOutdated 62 = .ok (.if_icmp .ne 19, 3) := by decide +kernel
theorem dX0_isOutdated_65 : decode cX0_isOutdated 65 = .ok (.aload_n 0, 1) := by decide +kernel
theorem dX0_isOutdated_66 : decode cX0_isOutdated 66 = .ok (.getfield 36, 3) := by decide +kernel
theorem dX0_isOutdated_69 : decode cX0_isOutdated 69 = .ok (.iload_n 1, 1) := by decide +kernel
theorem dX0_isOutdated_70 : decode cX0_isOutdated 70 = .ok (.aaload, 1) := by decide +kernel
theorem dX0_isOutdated_71 : decode cX0_isOutdated 71 = .ok (.iload 5, 2) := by decide +kernel
theorem dX0_isOutdated_73 : decode cX0_isOutdated 73 = .ok (.iaload, 1) := by decide +kernel
theorem dX0_isOutdated_74 : decode cX0_isOutdated 74 = .ok (.iload 4, 2) := by decide +kernel
theorem dX0_isOutdated_76 : decode cX0_isOutdated 76 = .ok (.if_icmp .le 5, 3) := by decide +kernel
theorem dX0_isOutdated_79 : decode cX0_isOutdated 79 = .ok (.iconst 1, 1) := by decide +kernel
theorem dX0_isOutdated_80 : decode cX0_isOutdated 80 = .ok (.ireturn, 1) := by decide +kernel
theorem dX0_isOutdated_81 : decode cX0_isOutdated 81 = .ok (.iinc 5 1, 3) := by decide +kernel
theorem dX0_isOutdated_84 : decode cX0_isOutdated 84 = .ok (.goto (-39), 3) := by decide +kernel
theorem dX0_isOutdated_87 : decode cX0_isOutdated 87 = .ok (.iconst 0, 1) := by decide +kernel
theorem dX0_isOutdated_88 : decode cX0_isOutdated 88 = .ok (.ireturn, 1) := by decide +kernel
set_option maxRecDepth 20000 in
theorem ggX0_isTooDeep_X0_heardOwnVersion : GoodIn wsX0_isTooDeep wsX0_heardOwnVersion := goodIn_r _ [9, 10, 11, 12, 13, 19, 20, 21, 22, 23, 24, 25, 26, 27, 28, 29, 30, 31, 32, 33, 34, 35, 36, 37, 38] (by decide +kernel) (by decide +kernel)
set_option maxRecDepth 20000 in
theorem gX0_isTooDeep_X0_heardOwnVersion : GoodIn wsX0_isTooDeep (wsV RX0 178 RX0 yX0_heardOwnVersion wsX0_heardOwnVersion) := goodIn_app (goodIn_of _ (by decide +kernel)) ggX0_isTooDeep_X0_heardOwnVersion
set_option maxRecDepth 20000 in
theorem ggX0_isTooDeep_X0_rankBy : GoodIn wsX0_isTooDeep wsX0_rankBy := goodIn_r _ [17, 2, 18, 19, 20, 21, 22, 23, 24, 25, 26, 27, 28, 29, 30, 31, 32, 33, 34, 35, 36, 37, 38] (by decide +kernel) (by decide +kernel)
set_option maxRecDepth 20000 in
theorem gX0_isTooDeep_X0_rankBy : GoodIn wsX0_isTooDeep (wsV RX0 169 RX0 yX0_rankBy wsX0_rankBy) := goodIn_app (goodIn_of _ (by decide +kernel)) ggX0_isTooDeep_X0_rankBy
theorem dX0_isTooDeep_0 : decode cX0_isTooDeep 0 = .ok (.aload_n 0, 1) := by decide +kernel
theorem dX0_isTooDeep_1 : decode cX0_isTooDeep 1 = .ok (.iload_n 1, 1) := by decide +kernel
theorem dX0_isTooDeep_2 : decode cX0_isTooDeep 2 = .ok (.iload_n 2, 1) := by decide +kernel
theorem dX0_isTooDeep_3 : decode cX0_isTooDeep 3 = .ok (.invokevirtual 178, 3) := by decide +kernel
theorem dX0_isTooDeep_6 : decode cX0_isTooDeep 6 = .ok (.ifCond .eq 15, 3) := by decide +kernel
theorem dX0_isTooDeep_9 : decode cX0_isTooDeep 9 = .ok (.aload_n 0, 1) := by decide +kernel
theorem dX0_isTooDeep_10 : decode cX0_isTooDeep 10 = .ok (.getfield 56, 3) := by decide +kernel
theorem dX0_isTooDeep_13 : decode cX0_isTooDeep 13 = .ok (.iload_n 1, 1) := by decide +kernel
theorem dX0_isTooDeep_14 : decode cX0_isTooDeep 14 = .ok (.iaload, 1) := by decide +kernel
theorem dX0_isTooDeep_15 : decode cX0_isTooDeep 15 = .ok (.sipush 10000, 3) := by decide +kernel
theorem dX0_isTooDeep_18 : decode cX0_isTooDeep 18 = .ok (.if_icmp .ne 5, 3) := by decide +kernel
theorem dX0_isTooDeep_21 : decode cX0_isTooDeep 21 = .ok (.iconst 0, 1) := by decide +kernel
theorem dX0_isTooDeep_22 : decode cX0_isTooDeep 22 = .ok (.ireturn, 1) := by decide +kernel
theorem dX0_isTooDeep_23 : decode cX0_isTooDeep 23 = .ok (.aload_n 0, 1) := by decide +kernel
theorem dX0_isTooDeep_24 : decode cX0_isTooDeep 24 = .ok (.getfield 39, 3) := by decide +kernel
theorem dX0_isTooDeep_27 : decode cX0_isTooDeep 27 = .ok (.iload_n 1, 1) := by decide +kernel
theorem dX0_isTooDeep_28 : decode cX0_isTooDeep 28 = .ok (.aaload, 1) := by decide +kernel
theorem dX0_isTooDeep_29 : decode cX0_isTooDeep 29 = .ok (.iload_n 2, 1) := by decide +kernel
theorem dX0_isTooDeep_30 : decode cX0_isTooDeep 30 = .ok (.iaload, 1) := by decide +kernel
theorem dX0_isTooDeep_31 : decode cX0_isTooDeep 31 = .ok (.aload_n 0, 1) := by decide +kernel
theorem dX0_isTooDeep_32 : decode cX0_isTooDeep 32 = .ok (.getfield 56, 3) := by decide +kernel
theorem dX0_isTooDeep_35 : decode cX0_isTooDeep 35 = .ok (.iload_n 1, 1) := by decide +kernel
theorem dX0_isTooDeep_36 : decode cX0_isTooDeep 36 = .ok (.iaload, 1) := by decide +kernel
theorem dX0_isTooDeep_37 : decode cX0_isTooDeep 37 = .ok (.if_icmp .ge 23, 3) := by decide +kernel
theorem dX0_isTooDeep_40 : decode cX0_isTooDeep 40 = .ok (.aload_n 0, 1) := by decide +kernel
theorem dX0_isTooDeep_41 : decode cX0_isTooDeep 41 = .ok (.iload_n 1, 1) := by decide +kernel
theorem dX0_isTooDeep_42 : decode cX0_isTooDeep 42 = .ok (.iload_n 2, 1) := by decide +kernel
theorem dX0_isTooDeep_43 : decode cX0_isTooDeep 43 = .ok (.invokevirtual 169, 3) := by decide +kernel
theorem dX0_isTooDeep_46 : decode cX0_isTooDeep 46 = .ok (.aload_n 0, 1) := by decide +kernel
theorem dX0_isTooDeep_47 : decode cX0_isTooDeep 47 = .ok (.getfield 59, 3) := by decide +kernel
theorem dX0_isTooDeep_50 : decode cX0_isTooDeep 50 = .ok (.iload_n 1, 1) := by decide +kernel
theorem dX0_isTooDeep_51 : decode cX0_isTooDeep 51 = .ok (.iaload, 1) := by decide +kernel
theorem dX0_isTooDeep_52 : decode cX0_isTooDeep 52 = .ok (.aload_n 0, 1) := by decide +kernel
theorem dX0_isTooDeep_53 : decode cX0_isTooDeep 53 = .ok (.getfield 13, 3) := by decide +kernel
theorem dX0_isTooDeep_56 : decode cX0_isTooDeep 56 = .ok (.iadd, 1) := by decide +kernel
theorem dX0_isTooDeep_57 : decode cX0_isTooDeep 57 = .ok (.if_icmp .le 7, 3) := by decide +kernel
theorem dX0_isTooDeep_60 : decode cX0_isTooDeep 60 = .ok (.iconst 1, 1) := by decide +kernel
theorem dX0_isTooDeep_61 : decode cX0_isTooDeep 61 = .ok (.goto 4, 3) := by decide +kernel
theorem dX0_isTooDeep_64 : decode cX0_isTooDeep 64 = .ok (.iconst 0, 1) := by decide +kernel
theorem dX0_isTooDeep_65 : decode cX0_isTooDeep 65 = .ok (.ireturn, 1) := by decide +kernel
theorem dX0_heardOwnVersion_0 : decode cX0_heardOwnVersion 0 = .ok (.aload_n 0, 1) := by decide +kernel
theorem dX0_heardOwnVersion_1 : decode cX0_heardOwnVersion 1 = .ok (.getfield 33, 3) := by decide +kernel
theorem dX0_heardOwnVersion_4 : decode cX0_heardOwnVersion 4 = .ok (.iload_n 1, 1) := by decide +kernel
theorem dX0_heardOwnVersion_5 : decode cX0_heardOwnVersion 5 = .ok (.aaload, 1) := by decide +kernel
theorem dX0_heardOwnVersion_6 : decode cX0_heardOwnVersion 6 = .ok (.iload_n 2, 1) := by decide +kernel
theorem dX0_heardOwnVersion_7 : decode cX0_heardOwnVersion 7 = .ok (.iaload, 1) := by decide +kernel
theorem dX0_heardOwnVersion_8 : decode cX0_heardOwnVersion 8 = .ok (.aload_n 0, 1) := by decide +kernel
theorem dX0_heardOwnVersion_9 : decode cX0_heardOwnVersion 9 = .ok (.getfield 50, 3) := by decide +kernel
theorem dX0_heardOwnVersion_12 : decode cX0_heardOwnVersion 12 = .ok (.iload_n 1, 1) := by decide +kernel
theorem dX0_heardOwnVersion_13 : decode cX0_heardOwnVersion 13 = .ok (.iaload, 1) := by decide +kernel
theorem dX0_heardOwnVersion_14 : decode cX0_heardOwnVersion 14 = .ok (.if_icmp .ne 24, 3) := by decide +kernel
theorem dX0_heardOwnVersion_17 : decode cX0_heardOwnVersion 17 = .ok (.aload_n 0, 1) := by decide +kernel
theorem dX0_heardOwnVersion_18 : decode cX0_heardOwnVersion 18 = .ok (.getfield 36, 3) := by decide +kernel
theorem dX0_heardOwnVersion_21 : decode cX0_heardOwnVersion 21 = .ok (.iload_n 1, 1) := by decide +kernel
theorem dX0_heardOwnVersion_22 : decode cX0_heardOwnVersion 22 = .ok (.aaload, 1) := by decide +kernel
theorem dX0_heardOwnVersion_23 : decode cX0_heardOwnVersion 23 = .ok (.iload_n 2, 1) := by decide +kernel
theorem dX0_heardOwnVersion_24 : decode cX0_heardOwnVersion 24 = .ok (.iaload, 1) := by decide +kernel
theorem dX0_heardOwnVersion_25 : decode cX0_heardOwnVersion 25 = .ok (.aload_n 0, 1) := by decide +kernel
theorem dX0_heardOwnVersion_26 : decode cX0_heardOwnVersion 26 = .ok (.getfield 53, 3) := by decide +kernel
theorem dX0_heardOwnVersion_29 : decode cX0_heardOwnVersion 29 = .ok (.iload_n 1, 1) := by decide +kernel
theorem dX0_heardOwnVersion_30 : decode cX0_heardOwnVersion 30 = .ok (.iaload, 1) := by decide +kernel
theorem dX0_heardOwnVersion_31 : decode cX0_heardOwnVersion 31 = .ok (.if_icmp .ne 7, 3) := by decide +kernel
theorem dX0_heardOwnVersion_34 : decode cX0_heardOwnVersion 34 = .ok (.iconst 1, 1) := by decide +kernel
theorem dX0_heardOwnVersion_35 : decode cX0_heardOwnVersion 35 = .ok (.goto 4, 3) := by decide +kernel
theorem dX0_heardOwnVersion_38 : decode cX0_heardOwnVersion 38 = .ok (.iconst 0, 1) := by decide +kernel
theorem dX0_heardOwnVersion_39 : decode cX0_heardOwnVersion 39 = .ok (.ireturn, 1) := by decide +kernel
set_option maxRecDepth 20000 in
theorem ggX0_follow_X0_rankBy : GoodIn wsX0_follow wsX0_rankBy := goodIn_r _ [16, 17, 18, 31, 32, 33, 34, 35, 36, 37, 38, 39, 40, 41, 42, 43, 44, 45, 46, 47, 48, 49, 50] (by decide +kernel) (by decide +kernel)
set_option maxRecDepth 20000 in
theorem gX0_follow_X0_rankBy : GoodIn wsX0_follow (wsV RX0 169 RX0 yX0_rankBy wsX0_rankBy) := goodIn_app (goodIn_of _ (by decide +kernel)) ggX0_follow_X0_rankBy
set_option maxRecDepth 20000 in
theorem ggX0_follow_X0_heardOwnVersion : GoodIn wsX0_follow wsX0_heardOwnVersion := goodIn_r _ [22, 9, 8, 11, 10, 31, 32, 33, 34, 35, 36, 37, 38, 39, 40, 41, 42, 43, 44, 45, 46, 47, 48, 49, 50] (by decide +kernel) (by decide +kernel)
set_option maxRecDepth 20000 in
theorem gX0_follow_X0_heardOwnVersion : GoodIn wsX0_follow (wsV RX0 178 RX0 yX0_heardOwnVersion wsX0_heardOwnVersion) := goodIn_app (goodIn_of _ (by decide +kernel)) ggX0_follow_X0_heardOwnVersion
set_option maxRecDepth 20000 in
theorem ggX0_follow_X0_resetTimer : GoodIn wsX0_follow wsX0_resetTimer := goodIn_r _ [26, 27, 28, 29, 30, 31, 32, 33, 34, 35, 36, 37, 38, 39, 40, 41, 42, 43, 44, 45, 46, 47, 48, 49, 50] (by decide +kernel) (by decide +kernel)
set_option maxRecDepth 20000 in
theorem gX0_follow_X0_resetTimer : GoodIn wsX0_follow (wsV RX0 78 RX0 yX0_resetTimer wsX0_resetTimer) := goodIn_app (goodIn_of _ (by decide +kernel)) ggX0_follow_X0_resetTimer
theorem dX0_follow_0 : decode cX0_follow 0 = .ok (.aload_n 0, 1) := by decide +kernel
theorem dX0_follow_1 : decode cX0_follow 1 = .ok (.iload_n 1, 1) := by decide +kernel
theorem dX0_follow_2 : decode cX0_follow 2 = .ok (.iload_n 2, 1) := by decide +kernel
theorem dX0_follow_3 : decode cX0_follow 3 = .ok (.invokevirtual 169, 3) := by decide +kernel
theorem dX0_follow_6 : decode cX0_follow 6 = .ok (.istore_n 3, 1) := by decide +kernel
theorem dX0_follow_7 : decode cX0_follow 7 = .ok (.aload_n 0, 1) := by decide +kernel
theorem dX0_follow_8 : decode cX0_follow 8 = .ok (.iload_n 1, 1) := by decide +kernel
theorem dX0_follow_9 : decode cX0_follow 9 = .ok (.iload_n 2, 1) := by decide +kernel
theorem dX0_follow_10 : decode cX0_follow 10 = .ok (.invokevirtual 178, 3) := by decide +kernel
theorem dX0_follow_13 : decode cX0_follow 13 = .ok (.istore 4, 2) := by decide +kernel
theorem dX0_follow_15 : decode cX0_follow 15 = .ok (.iload 4, 2) := by decide +kernel
theorem dX0_follow_17 : decode cX0_follow 17 = .ok (.ifCond .eq 27, 3) := by decide +kernel
theorem dX0_follow_20 : decode cX0_follow 20 = .ok (.iload_n 3, 1) := by decide +kernel
theorem dX0_follow_21 : decode cX0_follow 21 = .ok (.aload_n 0, 1) := by decide +kernel
theorem dX0_follow_22 : decode cX0_follow 22 = .ok (.getfield 56, 3) := by decide +kernel
theorem dX0_follow_25 : decode cX0_follow 25 = .ok (.iload_n 1, 1) := by decide +kernel
theorem dX0_follow_26 : decode cX0_follow 26 = .ok (.iaload, 1) := by decide +kernel
theorem dX0_follow_27 : decode cX0_follow 27 = .ok (.if_icmp .ne 17, 3) := by decide +kernel
theorem dX0_follow_30 : decode cX0_follow 30 = .ok (.iload_n 2, 1) := by decide +kernel
theorem dX0_follow_31 : decode cX0_follow 31 = .ok (.aload_n 0, 1) := by decide +kernel
theorem dX0_follow_32 : decode cX0_follow 32 = .ok (.getfield 62, 3) := by decide +kernel
theorem dX0_follow_35 : decode cX0_follow 35 = .ok (.iload_n 1, 1) := by decide +kernel
theorem dX0_follow_36 : decode cX0_follow 36 = .ok (.iaload, 1) := by decide +kernel
theorem dX0_follow_37 : decode cX0_follow 37 = .ok (.if_icmp .ne 7, 3) := by decide +kernel
theorem dX0_follow_40 : decode cX0_follow 40 = .ok (.iconst 1, 1) := by decide +kernel
theorem dX0_follow_41 : decode cX0_follow 41 = .ok (.goto 4, 3) := by decide +kernel
theorem dX0_follow_44 : decode cX0_follow 44 = .ok (.iconst 0, 1) := by decide +kernel
theorem dX0_follow_45 : decode cX0_follow 45 = .ok (.istore 5, 2) := by decide +kernel
theorem dX0_follow_47 : decode cX0_follow 47 = .ok (.aload_n 0, 1) := by decide +kernel
theorem dX0_follow_48 : decode cX0_follow 48 = .ok (.getfield 59, 3) := by decide +kernel
theorem dX0_follow_51 : decode cX0_follow 51 = .ok (.iload_n 1, 1) := by decide +kernel
theorem dX0_follow_52 : decode cX0_follow 52 = .ok (.iload 4, 2) := by decide +kernel
theorem dX0_follow_54 : decode cX0_follow 54 = .ok (.ifCond .eq 16, 3) := by decide +kernel
theorem dX0_follow_57 : decode cX0_follow 57 = .ok (.iload_n 3, 1) := by decide +kernel
theorem dX0_follow_58 : decode cX0_follow 58 = .ok (.aload_n 0, 1) := by decide +kernel
theorem dX0_follow_59 : decode cX0_follow 59 = .ok (.getfield 59, 3) := by decide +kernel
theorem dX0_follow_62 : decode cX0_follow 62 = .ok (.iload_n 1, 1) := by decide +kernel
theorem dX0_follow_63 : decode cX0_follow 63 = .ok (.iaload, 1) := by decide +kernel
theorem dX0_follow_64 : decode cX0_follow 64 = .ok (.invokestatic 141, 3) := by decide +kernel
theorem dX0_follow_67 : decode cX0_follow 67 = .ok (.goto 4, 3) := by decide +kernel
theorem dX0_follow_70 : decode cX0_follow 70 = .ok (.iload_n 3, 1) := by decide +kernel
theorem dX0_follow_71 : decode cX0_follow 71 = .ok (.iastore, 1) := by decide +kernel
theorem dX0_follow_72 : decode cX0_follow 72 = .ok (.aload_n 0, 1) := by decide +kernel
theorem dX0_follow_73 : decode cX0_follow 73 = .ok (.getfield 50, 3) := by decide +kernel
theorem dX0_follow_76 : decode cX0_follow 76 = .ok (.iload_n 1, 1) := by decide +kernel
theorem dX0_follow_77 : decode cX0_follow 77 = .ok (.aload_n 0, 1) := by decide +kernel
theorem dX0_follow_78 : decode cX0_follow 78 = .ok (.getfield 33, 3) := by decide +kernel
theorem dX0_follow_81 : decode cX0_follow 81 = .ok (.iload_n 1, 1) := by decide +kernel
theorem dX0_follow_82 : decode cX0_follow 82 = .ok (.aaload, 1) := by decide +kernel
theorem dX0_follow_83 : decode cX0_follow 83 = .ok (.iload_n 2, 1) := by decide +kernel
theorem dX0_follow_84 : decode cX0_follow 84 = .ok (.iaload, 1) := by decide +kernel
theorem dX0_follow_85 : decode cX0_follow 85 = .ok (.iastore, 1) := by decide +kernel
theorem dX0_follow_86 : decode cX0_follow 86 = .ok (.aload_n 0, 1) := by decide +kernel
theorem dX0_follow_87 : decode cX0_follow 87 = .ok (.getfield 53, 3) := by decide +kernel
theorem dX0_follow_90 : decode cX0_follow 90 = .ok (.iload_n 1, 1) := by decide +kernel
theorem dX0_follow_91 : decode cX0_follow 91 = .ok (.aload_n 0, 1) := by decide +kernel
theorem dX0_follow_92 : decode cX0_follow 92 = .ok (.getfield 36, 3) := by decide +kernel
theorem dX0_follow_95 : decode cX0_follow 95 = .ok (.iload_n 1, 1) := by decide +kernel
theorem dX0_follow_96 : decode cX0_follow 96 = .ok (.aaload, 1) := by decide +kernel
theorem dX0_follow_97 : decode cX0_follow 97 = .ok (.iload_n 2, 1) := by decide +kernel
theorem dX0_follow_98 : decode cX0_follow 98 = .ok (.iaload, 1) := by decide +kernel
theorem dX0_follow_99 : decode cX0_follow 99 = .ok (.iastore, 1) := by decide +kernel
theorem dX0_follow_100 : decode cX0_follow 100 = .ok (.aload_n 0, 1) := by decide +kernel
theorem dX0_follow_101 : decode cX0_follow 101 = .ok (.getfield 56, 3) := by decide +kernel
theorem dX0_follow_104 : decode cX0_follow 104 = .ok (.iload_n 1, 1) := by decide +kernel
theorem dX0_follow_105 : decode cX0_follow 105 = .ok (.iload_n 3, 1) := by decide +kernel
theorem dX0_follow_106 : decode cX0_follow 106 = .ok (.iastore, 1) := by decide +kernel
theorem dX0_follow_107 : decode cX0_follow 107 = .ok (.aload_n 0, 1) := by decide +kernel
theorem dX0_follow_108 : decode cX0_follow 108 = .ok (.getfield 62, 3) := by decide +kernel
theorem dX0_follow_111 : decode cX0_follow 111 = .ok (.iload_n 1, 1) := by decide +kernel
theorem dX0_follow_112 : decode cX0_follow 112 = .ok (.iload_n 2, 1) := by decide +kernel
theorem dX0_follow_113 : decode cX0_follow 113 = .ok (.iastore, 1) := by decide +kernel
theorem dX0_follow_114 : decode cX0_follow 114 = .ok (.iload 5, 2) := by decide +kernel
theorem dX0_follow_116 : decode cX0_follow 116 = .ok (.ifCond .ne 8, 3) := by decide +kernel
theorem dX0_follow_119 : decode cX0_follow 119 = .ok (.aload_n 0, 1) := by decide +kernel
theorem dX0_follow_120 : decode cX0_follow 120 = .ok (.iload_n 1, 1) := by decide +kernel
theorem dX0_follow_121 : decode cX0_follow 121 = .ok (.invokevirtual 78, 3) := by decide +kernel
theorem dX0_follow_124 : decode cX0_follow 124 = .ok (.return_, 1) := by decide +kernel
set_option maxRecDepth 20000 in
theorem ggX0_loseParent_X0_resetTimer : GoodIn wsX0_loseParent wsX0_resetTimer := goodIn_r _ [7, 8, 9, 10, 11, 12, 13, 14, 15, 16, 17, 18, 19, 20, 21, 22, 23, 24, 25, 26, 27, 28, 29, 30, 31] (by decide +kernel) (by decide +kernel)
set_option maxRecDepth 20000 in
theorem gX0_loseParent_X0_resetTimer : GoodIn wsX0_loseParent (wsV RX0 78 RX0 yX0_resetTimer wsX0_resetTimer) := goodIn_app (goodIn_of _ (by decide +kernel)) ggX0_loseParent_X0_resetTimer
theorem dX0_loseParent_0 : decode cX0_loseParent 0 = .ok (.aload_n 0, 1) := by decide +kernel
theorem dX0_loseParent_1 : decode cX0_loseParent 1 = .ok (.getfield 56, 3) := by decide +kernel
theorem dX0_loseParent_4 : decode cX0_loseParent 4 = .ok (.iload_n 1, 1) := by decide +kernel
theorem dX0_loseParent_5 : decode cX0_loseParent 5 = .ok (.iaload, 1) := by decide +kernel
theorem dX0_loseParent_6 : decode cX0_loseParent 6 = .ok (.sipush 10000, 3) := by decide +kernel
theorem dX0_loseParent_9 : decode cX0_loseParent 9 = .ok (.if_icmp .ne 17, 3) := by decide +kernel
theorem dX0_loseParent_12 : decode cX0_loseParent 12 = .ok (.aload_n 0, 1) := by decide +kernel
theorem dX0_loseParent_13 : decode cX0_loseParent 13 = .ok (.getfield 62, 3) := by decide +kernel
theorem dX0_loseParent_16 : decode cX0_loseParent 16 = .ok (.iload_n 1, 1) := by decide +kernel
theorem dX0_loseParent_17 : decode cX0_loseParent 17 = .ok (.iaload, 1) := by decide +kernel
theorem dX0_loseParent_18 : decode cX0_loseParent 18 = .ok (.iconst (-1), 1) := by decide +kernel
theorem dX0_loseParent_19 : decode cX0_loseParent 19 = .ok (.if_icmp .ne 7, 3) := by decide +kernel
theorem dX0_loseParent_22 : decode cX0_loseParent 22 = .ok (.iconst 1, 1) := by decide +kernel
theorem dX0_loseParent_23 : decode cX0_loseParent 23 = .ok (.goto 4, 3) := by decide +kernel
theorem dX0_loseParent_26 : decode cX0_loseParent 26 = .ok (.iconst 0, 1) := by decide +kernel
theorem dX0_loseParent_27 : decode cX0_loseParent 27 = .ok (.istore_n 2, 1) := by decide +kernel
theorem dX0_loseParent_28 : decode cX0_loseParent 28 = .ok (.aload_n 0, 1) := by decide +kernel
theorem dX0_loseParent_29 : decode cX0_loseParent 29 = .ok (.getfield 56, 3) := by decide +kernel
theorem dX0_loseParent_32 : decode cX0_loseParent 32 = .ok (.iload_n 1, 1) := by decide +kernel
theorem dX0_loseParent_33 : decode cX0_loseParent 33 = .ok (.sipush 10000, 3) := by decide +kernel
theorem dX0_loseParent_36 : decode cX0_loseParent 36 = .ok (.iastore, 1) := by decide +kernel
theorem dX0_loseParent_37 : decode cX0_loseParent 37 = .ok (.aload_n 0, 1) := by decide +kernel
theorem dX0_loseParent_38 : decode cX0_loseParent 38 = .ok (.getfield 62, 3) := by decide +kernel
theorem dX0_loseParent_41 : decode cX0_loseParent 41 = .ok (.iload_n 1, 1) := by decide +kernel
theorem dX0_loseParent_42 : decode cX0_loseParent 42 = .ok (.iconst (-1), 1) := by decide +kernel
theorem dX0_loseParent_43 : decode cX0_loseParent 43 = .ok (.iastore, 1) := by decide +kernel
theorem dX0_loseParent_44 : decode cX0_loseParent 44 = .ok (.iload_n 2, 1) := by decide +kernel
theorem dX0_loseParent_45 : decode cX0_loseParent 45 = .ok (.ifCond .ne 8, 3) := by decide +kernel
theorem dX0_loseParent_48 : decode cX0_loseParent 48 = .ok (.aload_n 0, 1) := by decide +kernel
theorem dX0_loseParent_49 : decode cX0_loseParent 49 = .ok (.iload_n 1, 1) := by decide +kernel
theorem dX0_loseParent_50 : decode cX0_loseParent 50 = .ok (.invokevirtual 78, 3) := by decide +kernel
theorem dX0_loseParent_53 : decode cX0_loseParent 53 = .ok (.return_, 1) := by decide +kernel
end
section
theorem dL_part_0 : decode cL_part 0 = .ok (.iload_n 1, 1) := by decide +kernel
theorem dL_part_1 : decode cL_part 1 = .ok (.aload_n 0, 1) := by decide +kernel
theorem dL_part_2 : decode cL_part 2 = .ok (.arraylength, 1) := by decide +kernel
theorem dL_part_3 : decode cL_part 3 = .ok (.if_icmp .ge 9, 3) := by decide +kernel
theorem dL_part_6 : decode cL_part 6 = .ok (.aload_n 0, 1) := by decide +kernel
theorem dL_part_7 : decode cL_part 7 = .ok (.iload_n 1, 1) := by decide +kernel
theorem dL_part_8 : decode cL_part 8 = .ok (.iaload, 1) := by decide +kernel
theorem dL_part_9 : decode cL_part 9 = .ok (.goto 16, 3) := by decide +kernel
theorem dL_part_12 : decode cL_part 12 = .ok (.sipush 401, 3) := by decide +kernel
theorem dL_part_15 : decode cL_part 15 = .ok (.iload_n 1, 1) := by decide +kernel
theorem dL_part_16 : decode cL_part 16 = .ok (.imul, 1) := by decide +kernel
theorem dL_part_17 : decode cL_part 17 = .ok (.sipush 269, 3) := by decide +kernel
theorem dL_part_20 : decode cL_part 20 = .ok (.iload_n 1, 1) := by decide +kernel
theorem dL_part_21 : decode cL_part 21 = .ok (.imul, 1) := by decide +kernel
theorem dL_part_22 : decode cL_part 22 = .ok (.iload_n 1, 1) := by decide +kernel
theorem dL_part_23 : decode cL_part 23 = .ok (.imul, 1) := by decide +kernel
theorem dL_part_24 : decode cL_part 24 = .ok (.iadd, 1) := by decide +kernel
theorem dL_part_25 : decode cL_part 25 = .ok (.istore_n 3, 1) := by decide +kernel
theorem dL_part_26 : decode cL_part 26 = .ok (.iload_n 3, 1) := by decide +kernel
theorem dL_part_27 : decode cL_part 27 = .ok (.ldc 7, 2) := by decide +kernel
theorem dL_part_29 : decode cL_part 29 = .ok (.iand, 1) := by decide +kernel
theorem dL_part_30 : decode cL_part 30 = .ok (.iload_n 2, 1) := by decide +kernel
theorem dL_part_31 : decode cL_part 31 = .ok (.irem, 1) := by decide +kernel
theorem dL_part_32 : decode cL_part 32 = .ok (.ireturn, 1) := by decide +kernel
set_option maxRecDepth 20000 in
theorem ggL_told_X0_setRules : GoodIn wsL_told wsX0_setRules := goodIn_ca (goodIn_r _ [5, 6, 7, 8, 9, 10, 11, 4, 12, 13, 14, 98, 99, 100, 101, 102, 103, 104, 105, 106, 107, 108, 109, 110, 111, 112, 113, 114, 115, 116, 117] (by decide +kernel) (by decide +kernel)) (goodIn_sub (fun _ h => List.mem_cons_of_mem _ (List.mem_append_left _ (List.mem_append_left _ (List.mem_append_right _ h)))) (by decide +kernel))
set_option maxRecDepth 20000 in
theorem gL_told_X0_setRules : GoodIn wsL_told (wsV RL 8 RX0 yX0_setRules wsX0_setRules) := goodIn_app (goodIn_of _ (by decide +kernel)) ggL_told_X0_setRules
set_option maxRecDepth 20000 in
theorem ggL_told_X0_endRoot : GoodIn wsL_told wsX0_endRoot := goodIn_ca (goodIn_ca (goodIn_r _ [18, 19, 20, 21, 22, 4, 23, 24, 25, 26, 27, 28, 29, 30, 31, 32, 33, 34, 35, 36, 37, 38, 39, 40, 41, 42, 43, 44, 45, 46, 47, 8, 48, 49, 50, 51, 52, 53, 54, 55, 56, 57, 58, 59, 60, 61, 62, 63, 64, 65, 66, 67, 68, 69, 70, 71, 72, 73, 74, 75, 76, 77, 7, 78, 79, 80, 81, 82, 83, 84, 85, 86, 87, 88, 89, 6, 90, 91, 92, 93, 94, 95, 96, 97, 98, 99, 100, 101, 102, 103, 104, 105, 106, 107, 108, 109, 110, 111, 112, 113, 114, 115, 116, 117] (by decide +kernel) (by decide +kernel)) (goodIn_sub (fun _ h => List.mem_cons_of_mem _ (List.mem_append_left _ (List.mem_append_right _ h))) (by decide +kernel))) (goodIn_sub (fun _ h => List.mem_cons_of_mem _ (List.mem_append_right _ h)) (by decide +kernel))
set_option maxRecDepth 20000 in
theorem gL_told_X0_endRoot : GoodIn wsL_told (wsV RL 14 RX0 yX0_endRoot wsX0_endRoot) := goodIn_app (goodIn_of _ (by decide +kernel)) ggL_told_X0_endRoot
theorem dL_told_0 : decode cL_told 0 = .ok (.iload_n 1, 1) := by decide +kernel
theorem dL_told_1 : decode cL_told 1 = .ok (.ifCond .ne 16, 3) := by decide +kernel
theorem dL_told_4 : decode cL_told 4 = .ok (.aload_n 0, 1) := by decide +kernel
theorem dL_told_5 : decode cL_told 5 = .ok (.iload_n 2, 1) := by decide +kernel
theorem dL_told_6 : decode cL_told 6 = .ok (.iload_n 3, 1) := by decide +kernel
theorem dL_told_7 : decode cL_told 7 = .ok (.iload 4, 2) := by decide +kernel
theorem dL_told_9 : decode cL_told 9 = .ok (.iload 5, 2) := by decide +kernel
theorem dL_told_11 : decode cL_told 11 = .ok (.invokevirtual 8, 3) := by decide +kernel
theorem dL_told_14 : decode cL_told 14 = .ok (.goto 8, 3) := by decide +kernel
theorem dL_told_17 : decode cL_told 17 = .ok (.aload_n 0, 1) := by decide +kernel
theorem dL_told_18 : decode cL_told 18 = .ok (.iload_n 2, 1) := by decide +kernel
theorem dL_told_19 : decode cL_told 19 = .ok (.invokevirtual 14, 3) := by decide +kernel
theorem dL_told_22 : decode cL_told 22 = .ok (.iconst 0, 1) := by decide +kernel
theorem dL_told_23 : decode cL_told 23 = .ok (.ireturn, 1) := by decide +kernel
set_option maxRecDepth 20000 in
theorem ggL_does_L_told : GoodIn wsL_does wsL_told := goodIn_ca (goodIn_ca (goodIn_ca (goodIn_r _ [7, 8, 9, 10, 11, 12, 13, 14, 15, 16, 17, 18, 19, 20, 21, 22, 23, 24, 25, 26, 27, 28, 29, 30, 31, 32, 33, 34, 35, 36, 37, 38, 39, 40, 41, 42, 43, 44, 45, 46, 47, 48, 49, 50, 51, 52, 53, 54, 55, 56, 57, 58, 59, 60, 61, 62, 63, 64, 65, 66, 67, 68, 69, 70, 71, 72, 73, 74, 75, 76, 77, 78, 79, 80, 81, 82, 83, 84, 85, 86, 87, 88, 89, 90, 91, 92, 93, 94, 95, 96, 97, 98, 99, 100, 101, 102, 103, 104, 146, 147, 148, 149, 150, 151, 152, 153, 154, 155, 156, 157, 158, 159, 160, 161, 162, 163, 164, 165] (by decide +kernel) (by decide +kernel)) (goodIn_sub (fun _ h => List.mem_cons_of_mem _ (List.mem_append_left _ (List.mem_append_left _ (List.mem_append_right _ h)))) (by decide +kernel))) (goodIn_sub (fun _ h => List.mem_cons_of_mem _ (List.mem_append_left _ (List.mem_append_right _ h))) (by decide +kernel))) (goodIn_sub (fun _ h => List.mem_cons_of_mem _ (List.mem_append_right _ h)) (by decide +kernel))
set_option maxRecDepth 20000 in
theorem gL_does_L_told : GoodIn wsL_does (va_wsS RL 18 yL_told wsL_told) := goodIn_app (goodIn_of _ (by decide +kernel)) ggL_does_L_told
set_option maxRecDepth 20000 in
theorem ggL_does_X0_link : GoodIn wsL_does wsX0_link := goodIn_ca (goodIn_ca (goodIn_r _ [108, 20, 21, 70, 33, 34, 11, 35, 36, 37, 38, 39, 40, 17, 18, 19, 109, 110, 111, 112, 79, 80, 69, 57, 58, 59, 60, 26, 49, 61, 62, 63, 64, 65, 66, 67, 68, 71, 72, 73, 74, 75, 76, 77, 78, 45, 46, 81, 82, 83, 84, 47, 48, 14, 85, 86, 87, 88, 89, 90, 91, 92, 50, 51, 52, 53, 54, 15, 55, 56, 93, 94, 95, 96, 13, 97, 98, 99, 100, 101, 102, 103, 104, 146, 147, 148, 149, 150, 151, 152, 153, 154, 155, 156, 157, 158, 159, 160, 161, 162, 163, 164, 165] (by decide +kernel) (by decide +kernel)) (goodIn_sub (fun _ h => List.mem_cons_of_mem _ (List.mem_append_left _ (List.mem_append_left _ (List.mem_append_right _ h)))) (by decide +kernel))) (goodIn_sub (fun _ h => List.mem_cons_of_mem _ (List.mem_append_right _ h)) (by decide +kernel))
set_option maxRecDepth 20000 in
theorem gL_does_X0_link : GoodIn wsL_does (wsV RL 24 RX0 yX0_link wsX0_link) := goodIn_app (goodIn_of _ (by decide +kernel)) ggL_does_X0_link
set_option maxRecDepth 20000 in
theorem ggL_does_X0_makeRoot : GoodIn wsL_does wsX0_makeRoot := goodIn_ca (goodIn_ca (goodIn_r _ [116, 31, 32, 26, 45, 47, 48, 49, 33, 34, 11, 35, 36, 37, 38, 39, 40, 117, 118, 119, 120, 121, 46, 50, 51, 52, 53, 54, 15, 55, 56, 146, 147, 148, 149, 150, 151, 152, 153, 154, 155, 156, 157, 158, 159, 160, 161, 162, 163, 164, 165] (by decide +kernel) (by decide +kernel)) (goodIn_sub (fun _ h => List.mem_cons_of_mem _ (List.mem_append_left _ (List.mem_append_right _ h))) (by decide +kernel))) (goodIn_sub (fun _ h => List.mem_cons_of_mem _ (List.mem_append_right _ h)) (by decide +kernel))
set_option maxRecDepth 20000 in
theorem gL_does_X0_makeRoot : GoodIn wsL_does (wsV RL 28 RX0 yX0_makeRoot wsX0_makeRoot) := goodIn_app (goodIn_of _ (by decide +kernel)) ggL_does_X0_makeRoot
set_option maxRecDepth 20000 in
theorem ggL_does_X0_renew : GoodIn wsL_does wsX0_renew := goodIn_ca (goodIn_ca (goodIn_r _ [125, 27, 28, 29, 11, 30, 31, 32, 26, 33, 34, 35, 36, 37, 38, 39, 40, 117, 118, 119, 120, 121, 46, 50, 51, 52, 53, 54, 15, 55, 56, 146, 147, 148, 149, 150, 151, 152, 153, 154, 155, 156, 157, 158, 159, 160, 161, 162, 163, 164, 165] (by decide +kernel) (by decide +kernel)) (goodIn_sub (fun _ h => List.mem_cons_of_mem _ (List.mem_append_left _ (List.mem_append_right _ h))) (by decide +kernel))) (goodIn_sub (fun _ h => List.mem_cons_of_mem _ (List.mem_append_right _ h)) (by decide +kernel))
set_option maxRecDepth 20000 in
theorem gL_does_X0_renew : GoodIn wsL_does (wsV RL 32 RX0 yX0_renew wsX0_renew) := goodIn_app (goodIn_of _ (by decide +kernel)) ggL_does_X0_renew
set_option maxRecDepth 20000 in
theorem ggL_does_X0_pass : GoodIn wsL_does wsX0_pass := goodIn_ca (goodIn_r _ [129, 17, 18, 11, 19, 20, 21, 130, 131, 132, 133, 56, 55, 134, 135, 136, 137, 70, 79, 45, 80, 46, 69, 47, 57, 58, 59, 60, 26, 49, 61, 62, 63, 64, 65, 66, 67, 68, 71, 72, 73, 74, 75, 76, 77, 78, 81, 82, 83, 84, 48, 14, 85, 86, 87, 88, 38, 39, 40, 89, 90, 91, 92, 50, 51, 52, 53, 54, 15, 93, 94, 95, 96, 13, 97, 98, 99, 100, 101, 102, 103, 104, 138, 139, 140, 141, 16, 146, 147, 148, 149, 150, 151, 152, 153, 154, 155, 156, 157, 158, 159, 160, 161, 162, 163, 164, 165] (by decide +kernel) (by decide +kernel)) (goodIn_sub (fun _ h => List.mem_cons_of_mem _ (List.mem_append_left _ (List.mem_append_left _ (List.mem_append_right _ h)))) (by decide +kernel))
set_option maxRecDepth 20000 in
theorem gL_does_X0_pass : GoodIn wsL_does (wsV RL 35 RX0 yX0_pass wsX0_pass) := goodIn_app (goodIn_of _ (by decide +kernel)) ggL_does_X0_pass
set_option maxRecDepth 20000 in
theorem ggL_does_X0_down : GoodIn wsL_does wsX0_down := goodIn_ca (goodIn_ca (goodIn_r _ [145, 31, 32, 49, 33, 34, 11, 35, 36, 37, 38, 39, 40, 146, 147, 148, 149, 150, 151, 152, 153, 154, 155, 156, 157, 158, 159, 160, 161, 162, 163, 164, 165] (by decide +kernel) (by decide +kernel)) (goodIn_sub (fun _ h => List.mem_cons_of_mem _ (List.mem_append_left _ (List.mem_append_right _ h))) (by decide +kernel))) (goodIn_sub (fun _ h => List.mem_cons_of_mem _ (List.mem_append_right _ h)) (by decide +kernel))
set_option maxRecDepth 20000 in
theorem gL_does_X0_down : GoodIn wsL_does (wsV RL 38 RX0 yX0_down wsX0_down) := goodIn_app (goodIn_of _ (by decide +kernel)) ggL_does_X0_down
theorem dL_does_0 : decode cL_does 0 = .ok (.iload_n 1, 1) := by decide +kernel
theorem dL_does_1 : decode cL_does 1 = .ok (.iconst 2, 1) := by decide +kernel
theorem dL_does_2 : decode cL_does 2 = .ok (.if_icmp .ge 17, 3) := by decide +kernel
theorem dL_does_5 : decode cL_does 5 = .ok (.aload_n 0, 1) := by decide +kernel
theorem dL_does_6 : decode cL_does 6 = .ok (.iload_n 1, 1) := by decide +kernel
theorem dL_does_7 : decode cL_does 7 = .ok (.iload_n 2, 1) := by decide +kernel
theorem dL_does_8 : decode cL_does 8 = .ok (.iload_n 3, 1) := by decide +kernel
theorem dL_does_9 : decode cL_does 9 = .ok (.iload 4, 2) := by decide +kernel
theorem dL_does_11 : decode cL_does 11 = .ok (.iload 5, 2) := by decide +kernel
theorem dL_does_13 : decode cL_does 13 = .ok (.invokestatic 18, 3) := by decide +kernel
theorem dL_does_16 : decode cL_does 16 = .ok (.goto 64, 3) := by decide +kernel
theorem dL_does_19 : decode cL_does 19 = .ok (.iload_n 1, 1) := by decide +kernel
theorem dL_does_20 : decode cL_does 20 = .ok (.iconst 2, 1) := by decide +kernel
theorem dL_does_21 : decode cL_does 21 = .ok (.if_icmp .ne 14, 3) := by decide +kernel
theorem dL_does_24 : decode cL_does 24 = .ok (.aload_n 0, 1) := by decide +kernel
theorem dL_does_25 : decode cL_does 25 = .ok (.iload_n 2, 1) := by decide +kernel
theorem dL_does_26 : decode cL_does 26 = .ok (.iload_n 3, 1) := by decide +kernel
theorem dL_does_27 : decode cL_does 27 = .ok (.iload 4, 2) := by decide +kernel
theorem dL_does_29 : decode cL_does 29 = .ok (.invokevirtual 24, 3) := by decide +kernel
theorem dL_does_32 : decode cL_does 32 = .ok (.goto 48, 3) := by decide +kernel
theorem dL_does_35 : decode cL_does 35 = .ok (.iload_n 1, 1) := by decide +kernel
theorem dL_does_36 : decode cL_does 36 = .ok (.iconst 3, 1) := by decide +kernel
theorem dL_does_37 : decode cL_does 37 = .ok (.if_icmp .ne 11, 3) := by decide +kernel
theorem dL_does_40 : decode cL_does 40 = .ok (.aload_n 0, 1) := by decide +kernel
theorem dL_does_41 : decode cL_does 41 = .ok (.iload_n 2, 1) := by decide +kernel
theorem dL_does_42 : decode cL_does 42 = .ok (.invokevirtual 28, 3) := by decide +kernel
theorem dL_does_45 : decode cL_does 45 = .ok (.goto 35, 3) := by decide +kernel
theorem dL_does_48 : decode cL_does 48 = .ok (.iload_n 1, 1) := by decide +kernel
theorem dL_does_49 : decode cL_does 49 = .ok (.iconst 4, 1) := by decide +kernel
theorem dL_does_50 : decode cL_does 50 = .ok (.if_icmp .ne 11, 3) := by decide +kernel
theorem dL_does_53 : decode cL_does 53 = .ok (.aload_n 0, 1) := by decide +kernel
theorem dL_does_54 : decode cL_does 54 = .ok (.iload_n 2, 1) := by decide +kernel
theorem dL_does_55 : decode cL_does 55 = .ok (.invokevirtual 32, 3) := by decide +kernel
theorem dL_does_58 : decode cL_does 58 = .ok (.goto 22, 3) := by decide +kernel
theorem dL_does_61 : decode cL_does 61 = .ok (.iload_n 1, 1) := by decide +kernel
theorem dL_does_62 : decode cL_does 62 = .ok (.iconst 5, 1) := by decide +kernel
theorem dL_does_63 : decode cL_does 63 = .ok (.if_icmp .ne 11, 3) := by decide +kernel
theorem dL_does_66 : decode cL_does 66 = .ok (.aload_n 0, 1) := by decide +kernel
theorem dL_does_67 : decode cL_does 67 = .ok (.iload_n 2, 1) := by decide +kernel
theorem dL_does_68 : decode cL_does 68 = .ok (.invokevirtual 35, 3) := by decide +kernel
theorem dL_does_71 : decode cL_does 71 = .ok (.goto 9, 3) := by decide +kernel
theorem dL_does_74 : decode cL_does 74 = .ok (.aload_n 0, 1) := by decide +kernel
theorem dL_does_75 : decode cL_does 75 = .ok (.iload_n 2, 1) := by decide +kernel
theorem dL_does_76 : decode cL_does 76 = .ok (.iload_n 3, 1) := by decide +kernel
theorem dL_does_77 : decode cL_does 77 = .ok (.invokevirtual 38, 3) := by decide +kernel
theorem dL_does_80 : decode cL_does 80 = .ok (.ireturn, 1) := by decide +kernel
theorem dL_does_81 : decode cL_does 81 = .ok (.astore 6, 2) := by decide +kernel
theorem dL_does_83 : decode cL_does 83 = .ok (.bipush (-30), 2) := by decide +kernel
theorem dL_does_85 : decode cL_does 85 = .ok (.ireturn, 1) := by decide +kernel
theorem dL_does_86 : decode cL_does 86 = .ok (.astore 6, 2) := by decide +kernel
theorem dL_does_88 : decode cL_does 88 = .ok (.bipush (-20), 2) := by decide +kernel
theorem dL_does_90 : decode cL_does 90 = .ok (.ireturn, 1) := by decide +kernel
theorem dL_does_91 : decode cL_does 91 = .ok (.astore 6, 2) := by decide +kernel
theorem dL_does_93 : decode cL_does 93 = .ok (.bipush (-10), 2) := by decide +kernel
theorem dL_does_95 : decode cL_does 95 = .ok (.ireturn, 1) := by decide +kernel
set_option maxRecDepth 20000 in
theorem ggL_asks_X0_rank : GoodIn wsL_asks wsX0_rank := goodIn_ca (goodIn_r _ [6, 7, 8, 9, 5, 10, 11, 12, 13, 14, 15, 65, 66, 67, 68, 69, 70, 71, 72, 73, 74, 75, 76, 77, 78, 79, 80, 81, 82, 83, 84] (by decide +kernel) (by decide +kernel)) (goodIn_sub (fun _ h => List.mem_cons_of_mem _ (List.mem_append_right _ h)) (by decide +kernel))
set_option maxRecDepth 20000 in
theorem gL_asks_X0_rank : GoodIn wsL_asks (wsV RL 48 RX0 yX0_rank wsX0_rank) := goodIn_app (goodIn_of _ (by decide +kernel)) ggL_asks_X0_rank
set_option maxRecDepth 20000 in
theorem ggL_asks_X0_parent : GoodIn wsL_asks wsX0_parent := goodIn_ca (goodIn_r _ [19, 20, 8, 9, 5, 10, 11, 12, 13, 14, 15, 65, 66, 67, 68, 69, 70, 71, 72, 73, 74, 75, 76, 77, 78, 79, 80, 81, 82, 83, 84] (by decide +kernel) (by decide +kernel)) (goodIn_sub (fun _ h => List.mem_cons_of_mem _ (List.mem_append_right _ h)) (by decide +kernel))
set_option maxRecDepth 20000 in
theorem gL_asks_X0_parent : GoodIn wsL_asks (wsV RL 51 RX0 yX0_parent wsX0_parent) := goodIn_app (goodIn_of _ (by decide +kernel)) ggL_asks_X0_parent
set_option maxRecDepth 20000 in
theorem ggL_asks_X0_tree : GoodIn wsL_asks wsX0_tree := goodIn_ca (goodIn_r _ [24, 25, 26, 8, 9, 5, 10, 11, 12, 13, 14, 15, 65, 66, 67, 68, 69, 70, 71, 72, 73, 74, 75, 76, 77, 78, 79, 80, 81, 82, 83, 84] (by decide +kernel) (by decide +kernel)) (goodIn_sub (fun _ h => List.mem_cons_of_mem _ (List.mem_append_right _ h)) (by decide +kernel))
set_option maxRecDepth 20000 in
theorem gL_asks_X0_tree : GoodIn wsL_asks (wsV RL 54 RX0 yX0_tree wsX0_tree) := goodIn_app (goodIn_of _ (by decide +kernel)) ggL_asks_X0_tree
set_option maxRecDepth 20000 in
theorem ggL_asks_X0_nextTelling : GoodIn wsL_asks wsX0_nextTelling := goodIn_ca (goodIn_r _ [30, 31, 8, 9, 5, 10, 11, 12, 13, 14, 15, 65, 66, 67, 68, 69, 70, 71, 72, 73, 74, 75, 76, 77, 78, 79, 80, 81, 82, 83, 84] (by decide +kernel) (by decide +kernel)) (goodIn_sub (fun _ h => List.mem_cons_of_mem _ (List.mem_append_right _ h)) (by decide +kernel))
set_option maxRecDepth 20000 in
theorem gL_asks_X0_nextTelling : GoodIn wsL_asks (wsV RL 57 RX0 yX0_nextTelling wsX0_nextTelling) := goodIn_app (goodIn_of _ (by decide +kernel)) ggL_asks_X0_nextTelling
set_option maxRecDepth 20000 in
theorem ggL_asks_X0_heard : GoodIn wsL_asks wsX0_heard := goodIn_ca (goodIn_r _ [35, 36, 8, 9, 5, 10, 11, 12, 13, 14, 15, 65, 66, 67, 68, 69, 70, 71, 72, 73, 74, 75, 76, 77, 78, 79, 80, 81, 82, 83, 84] (by decide +kernel) (by decide +kernel)) (goodIn_sub (fun _ h => List.mem_cons_of_mem _ (List.mem_append_right _ h)) (by decide +kernel))
set_option maxRecDepth 20000 in
theorem gL_asks_X0_heard : GoodIn wsL_asks (wsV RL 60 RX0 yX0_heard wsX0_heard) := goodIn_app (goodIn_of _ (by decide +kernel)) ggL_asks_X0_heard
set_option maxRecDepth 20000 in
theorem ggL_asks_X0_leastRank : GoodIn wsL_asks wsX0_leastRank := goodIn_ca (goodIn_r _ [40, 41, 42, 8, 9, 5, 10, 11, 12, 13, 14, 15, 43, 44, 45, 46, 47, 48, 49, 50, 51, 65, 66, 67, 68, 69, 70, 71, 72, 73, 74, 75, 76, 77, 78, 79, 80, 81, 82, 83, 84] (by decide +kernel) (by decide +kernel)) (goodIn_sub (fun _ h => List.mem_cons_of_mem _ (List.mem_append_right _ h)) (by decide +kernel))
set_option maxRecDepth 20000 in
theorem gL_asks_X0_leastRank : GoodIn wsL_asks (wsV RL 63 RX0 yX0_leastRank wsX0_leastRank) := goodIn_app (goodIn_of _ (by decide +kernel)) ggL_asks_X0_leastRank
set_option maxRecDepth 20000 in
theorem ggL_asks_X0_up : GoodIn wsL_asks wsX0_up := goodIn_ca (goodIn_r _ [55, 42, 20, 7, 56, 8, 9, 5, 10, 11, 12, 13, 14, 15, 65, 66, 67, 68, 69, 70, 71, 72, 73, 74, 75, 76, 77, 78, 79, 80, 81, 82, 83, 84] (by decide +kernel) (by decide +kernel)) (goodIn_sub (fun _ h => List.mem_cons_of_mem _ (List.mem_append_right _ h)) (by decide +kernel))
set_option maxRecDepth 20000 in
theorem gL_asks_X0_up : GoodIn wsL_asks (wsV RL 66 RX0 yX0_up wsX0_up) := goodIn_app (goodIn_of _ (by decide +kernel)) ggL_asks_X0_up
set_option maxRecDepth 20000 in
theorem ggL_asks_X0_below : GoodIn wsL_asks wsX0_below := goodIn_ca (goodIn_r _ [60, 8, 9, 5, 10, 11, 12, 13, 14, 15, 61, 62, 63, 64, 20, 65, 66, 67, 68, 69, 70, 71, 72, 73, 74, 75, 76, 77, 78, 79, 80, 81, 82, 83, 84] (by decide +kernel) (by decide +kernel)) (goodIn_sub (fun _ h => List.mem_cons_of_mem _ (List.mem_append_right _ h)) (by decide +kernel))
set_option maxRecDepth 20000 in
theorem gL_asks_X0_below : GoodIn wsL_asks (wsV RL 69 RX0 yX0_below wsX0_below) := goodIn_app (goodIn_of _ (by decide +kernel)) ggL_asks_X0_below
theorem dL_asks_0 : decode cL_asks 0 = .ok (.iload_n 1, 1) := by decide +kernel
theorem dL_asks_1 : decode cL_asks 1 = .ok (.ifCond .ne 11, 3) := by decide +kernel
theorem dL_asks_4 : decode cL_asks 4 = .ok (.aload_n 0, 1) := by decide +kernel
theorem dL_asks_5 : decode cL_asks 5 = .ok (.iload_n 2, 1) := by decide +kernel
theorem dL_asks_6 : decode cL_asks 6 = .ok (.invokevirtual 48, 3) := by decide +kernel
theorem dL_asks_9 : decode cL_asks 9 = .ok (.goto 88, 3) := by decide +kernel
theorem dL_asks_12 : decode cL_asks 12 = .ok (.iload_n 1, 1) := by decide +kernel
theorem dL_asks_13 : decode cL_asks 13 = .ok (.iconst 1, 1) := by decide +kernel
theorem dL_asks_14 : decode cL_asks 14 = .ok (.if_icmp .ne 11, 3) := by decide +kernel
theorem dL_asks_17 : decode cL_asks 17 = .ok (.aload_n 0, 1) := by decide +kernel
theorem dL_asks_18 : decode cL_asks 18 = .ok (.iload_n 2, 1) := by decide +kernel
theorem dL_asks_19 : decode cL_asks 19 = .ok (.invokevirtual 51, 3) := by decide +kernel
theorem dL_asks_22 : decode cL_asks 22 = .ok (.goto 75, 3) := by decide +kernel
theorem dL_asks_25 : decode cL_asks 25 = .ok (.iload_n 1, 1) := by decide +kernel
theorem dL_asks_26 : decode cL_asks 26 = .ok (.iconst 2, 1) := by decide +kernel
theorem dL_asks_27 : decode cL_asks 27 = .ok (.if_icmp .ne 11, 3) := by decide +kernel
theorem dL_asks_30 : decode cL_asks 30 = .ok (.aload_n 0, 1) := by decide +kernel
theorem dL_asks_31 : decode cL_asks 31 = .ok (.iload_n 2, 1) := by decide +kernel
theorem dL_asks_32 : decode cL_asks 32 = .ok (.invokevirtual 54, 3) := by decide +kernel
theorem dL_asks_35 : decode cL_asks 35 = .ok (.goto 62, 3) := by decide +kernel
theorem dL_asks_38 : decode cL_asks 38 = .ok (.iload_n 1, 1) := by decide +kernel
theorem dL_asks_39 : decode cL_asks 39 = .ok (.iconst 3, 1) := by decide +kernel
theorem dL_asks_40 : decode cL_asks 40 = .ok (.if_icmp .ne 11, 3) := by decide +kernel
theorem dL_asks_43 : decode cL_asks 43 = .ok (.aload_n 0, 1) := by decide +kernel
theorem dL_asks_44 : decode cL_asks 44 = .ok (.iload_n 2, 1) := by decide +kernel
theorem dL_asks_45 : decode cL_asks 45 = .ok (.invokevirtual 57, 3) := by decide +kernel
theorem dL_asks_48 : decode cL_asks 48 = .ok (.goto 49, 3) := by decide +kernel
theorem dL_asks_51 : decode cL_asks 51 = .ok (.iload_n 1, 1) := by decide +kernel
theorem dL_asks_52 : decode cL_asks 52 = .ok (.iconst 4, 1) := by decide +kernel
theorem dL_asks_53 : decode cL_asks 53 = .ok (.if_icmp .ne 12, 3) := by decide +kernel
theorem dL_asks_56 : decode cL_asks 56 = .ok (.aload_n 0, 1) := by decide +kernel
theorem dL_asks_57 : decode cL_asks 57 = .ok (.iload_n 2, 1) := by decide +kernel
theorem dL_asks_58 : decode cL_asks 58 = .ok (.iload_n 3, 1) := by decide +kernel
theorem dL_asks_59 : decode cL_asks 59 = .ok (.invokevirtual 60, 3) := by decide +kernel
theorem dL_asks_62 : decode cL_asks 62 = .ok (.goto 35, 3) := by decide +kernel
theorem dL_asks_65 : decode cL_asks 65 = .ok (.iload_n 1, 1) := by decide +kernel
theorem dL_asks_66 : decode cL_asks 66 = .ok (.iconst 5, 1) := by decide +kernel
theorem dL_asks_67 : decode cL_asks 67 = .ok (.if_icmp .ne 11, 3) := by decide +kernel
theorem dL_asks_70 : decode cL_asks 70 = .ok (.aload_n 0, 1) := by decide +kernel
theorem dL_asks_71 : decode cL_asks 71 = .ok (.iload_n 2, 1) := by decide +kernel
theorem dL_asks_72 : decode cL_asks 72 = .ok (.invokevirtual 63, 3) := by decide +kernel
theorem dL_asks_75 : decode cL_asks 75 = .ok (.goto 22, 3) := by decide +kernel
theorem dL_asks_78 : decode cL_asks 78 = .ok (.iload_n 1, 1) := by decide +kernel
theorem dL_asks_79 : decode cL_asks 79 = .ok (.bipush 6, 2) := by decide +kernel
theorem dL_asks_81 : decode cL_asks 81 = .ok (.if_icmp .ne 11, 3) := by decide +kernel
theorem dL_asks_84 : decode cL_asks 84 = .ok (.aload_n 0, 1) := by decide +kernel
theorem dL_asks_85 : decode cL_asks 85 = .ok (.iload_n 2, 1) := by decide +kernel
theorem dL_asks_86 : decode cL_asks 86 = .ok (.invokevirtual 66, 3) := by decide +kernel
theorem dL_asks_89 : decode cL_asks 89 = .ok (.goto 8, 3) := by decide +kernel
theorem dL_asks_92 : decode cL_asks 92 = .ok (.aload_n 0, 1) := by decide +kernel
theorem dL_asks_93 : decode cL_asks 93 = .ok (.iload_n 2, 1) := by decide +kernel
theorem dL_asks_94 : decode cL_asks 94 = .ok (.invokevirtual 69, 3) := by decide +kernel
theorem dL_asks_97 : decode cL_asks 97 = .ok (.ireturn, 1) := by decide +kernel
theorem dL_asks_98 : decode cL_asks 98 = .ok (.astore 4, 2) := by decide +kernel
theorem dL_asks_100 : decode cL_asks 100 = .ok (.bipush (-30), 2) := by decide +kernel
theorem dL_asks_102 : decode cL_asks 102 = .ok (.ireturn, 1) := by decide +kernel
theorem dL_cost_0 : decode cL_cost 0 = .ok (.iload_n 1, 1) := by decide +kernel
theorem dL_cost_1 : decode cL_cost 1 = .ok (.bipush 8, 2) := by decide +kernel
theorem dL_cost_3 : decode cL_cost 3 = .ok (.if_icmp .ge 20, 3) := by decide +kernel
theorem dL_cost_6 : decode cL_cost 6 = .ok (.iload_n 2, 1) := by decide +kernel
theorem dL_cost_7 : decode cL_cost 7 = .ok (.bipush 8, 2) := by decide +kernel
theorem dL_cost_9 : decode cL_cost 9 = .ok (.if_icmp .ge 14, 3) := by decide +kernel
theorem dL_cost_12 : decode cL_cost 12 = .ok (.aload_n 0, 1) := by decide +kernel
theorem dL_cost_13 : decode cL_cost 13 = .ok (.bipush 8, 2) := by decide +kernel
theorem dL_cost_15 : decode cL_cost 15 = .ok (.iload_n 1, 1) := by decide +kernel
theorem dL_cost_16 : decode cL_cost 16 = .ok (.imul, 1) := by decide +kernel
theorem dL_cost_17 : decode cL_cost 17 = .ok (.iload_n 2, 1) := by decide +kernel
theorem dL_cost_18 : decode cL_cost 18 = .ok (.iadd, 1) := by decide +kernel
theorem dL_cost_19 : decode cL_cost 19 = .ok (.iaload, 1) := by decide +kernel
theorem dL_cost_20 : decode cL_cost 20 = .ok (.goto 4, 3) := by decide +kernel
theorem dL_cost_23 : decode cL_cost 23 = .ok (.iconst 0, 1) := by decide +kernel
theorem dL_cost_24 : decode cL_cost 24 = .ok (.ireturn, 1) := by decide +kernel
set_option maxRecDepth 20000 in
theorem ggL_isNode_X0_rank : GoodIn wsL_isNode wsX0_rank := goodIn_ca (goodIn_r _ [5, 6, 7, 8, 4, 9, 10, 11, 12, 13, 14, 40, 41, 42, 43, 44, 45, 46, 47, 48, 49, 50, 51, 52, 53, 54, 55, 56, 57, 58, 59] (by decide +kernel) (by decide +kernel)) (goodIn_sub (fun _ h => List.mem_cons_of_mem _ (List.mem_append_right _ h)) (by decide +kernel))
set_option maxRecDepth 20000 in
theorem gL_isNode_X0_rank : GoodIn wsL_isNode (wsV RL 48 RX0 yX0_rank wsX0_rank) := goodIn_app (goodIn_of _ (by decide +kernel)) ggL_isNode_X0_rank
set_option maxRecDepth 20000 in
theorem ggL_isNode_X0_parent : GoodIn wsL_isNode wsX0_parent := goodIn_ca (goodIn_r _ [18, 19, 7, 8, 4, 9, 10, 11, 12, 13, 14, 40, 41, 42, 43, 44, 45, 46, 47, 48, 49, 50, 51, 52, 53, 54, 55, 56, 57, 58, 59] (by decide +kernel) (by decide +kernel)) (goodIn_sub (fun _ h => List.mem_cons_of_mem _ (List.mem_append_right _ h)) (by decide +kernel))
set_option maxRecDepth 20000 in
theorem gL_isNode_X0_parent : GoodIn wsL_isNode (wsV RL 51 RX0 yX0_parent wsX0_parent) := goodIn_app (goodIn_of _ (by decide +kernel)) ggL_isNode_X0_parent
set_option maxRecDepth 20000 in
theorem ggL_isNode_X0_tree : GoodIn wsL_isNode wsX0_tree := goodIn_ca (goodIn_r _ [23, 24, 25, 7, 8, 4, 9, 10, 11, 12, 13, 14, 40, 41, 42, 43, 44, 45, 46, 47, 48, 49, 50, 51, 52, 53, 54, 55, 56, 57, 58, 59] (by decide +kernel) (by decide +kernel)) (goodIn_sub (fun _ h => List.mem_cons_of_mem _ (List.mem_append_right _ h)) (by decide +kernel))
set_option maxRecDepth 20000 in
theorem gL_isNode_X0_tree : GoodIn wsL_isNode (wsV RL 54 RX0 yX0_tree wsX0_tree) := goodIn_app (goodIn_of _ (by decide +kernel)) ggL_isNode_X0_tree
set_option maxRecDepth 20000 in
theorem ggL_isNode_X0_nextTelling : GoodIn wsL_isNode wsX0_nextTelling := goodIn_ca (goodIn_r _ [29, 30, 7, 8, 4, 9, 10, 11, 12, 13, 14, 40, 41, 42, 43, 44, 45, 46, 47, 48, 49, 50, 51, 52, 53, 54, 55, 56, 57, 58, 59] (by decide +kernel) (by decide +kernel)) (goodIn_sub (fun _ h => List.mem_cons_of_mem _ (List.mem_append_right _ h)) (by decide +kernel))
set_option maxRecDepth 20000 in
theorem gL_isNode_X0_nextTelling : GoodIn wsL_isNode (wsV RL 57 RX0 yX0_nextTelling wsX0_nextTelling) := goodIn_app (goodIn_of _ (by decide +kernel)) ggL_isNode_X0_nextTelling
set_option maxRecDepth 20000 in
theorem ggL_isNode_X0_heard : GoodIn wsL_isNode wsX0_heard := goodIn_ca (goodIn_r _ [34, 35, 7, 8, 4, 9, 10, 11, 12, 13, 14, 40, 41, 42, 43, 44, 45, 46, 47, 48, 49, 50, 51, 52, 53, 54, 55, 56, 57, 58, 59] (by decide +kernel) (by decide +kernel)) (goodIn_sub (fun _ h => List.mem_cons_of_mem _ (List.mem_append_right _ h)) (by decide +kernel))
set_option maxRecDepth 20000 in
theorem gL_isNode_X0_heard : GoodIn wsL_isNode (wsV RL 60 RX0 yX0_heard wsX0_heard) := goodIn_app (goodIn_of _ (by decide +kernel)) ggL_isNode_X0_heard
set_option maxRecDepth 20000 in
theorem ggL_isNode_L_cost : GoodIn wsL_isNode wsL_cost := goodIn_r _ [39] (by decide +kernel) (by decide +kernel)
set_option maxRecDepth 20000 in
theorem gL_isNode_L_cost : GoodIn wsL_isNode (va_wsS RL 72 yL_cost wsL_cost) := goodIn_app (goodIn_of _ (by decide +kernel)) ggL_isNode_L_cost
theorem dL_isNode_0 : decode cL_isNode 0 = .ok (.aload_n 0, 1) := by decide +kernel
theorem dL_isNode_1 : decode cL_isNode 1 = .ok (.iload 4, 2) := by decide +kernel
theorem dL_isNode_3 : decode cL_isNode 3 = .ok (.invokevirtual 48, 3) := by decide +kernel
theorem dL_isNode_6 : decode cL_isNode 6 = .ok (.istore 5, 2) := by decide +kernel
theorem dL_isNode_8 : decode cL_isNode 8 = .ok (.aload_n 0, 1) := by decide +kernel
theorem dL_isNode_9 : decode cL_isNode 9 = .ok (.iload 4, 2) := by decide +kernel
theorem dL_isNode_11 : decode cL_isNode 11 = .ok (.invokevirtual 51, 3) := by decide +kernel
theorem dL_isNode_14 : decode cL_isNode 14 = .ok (.istore 6, 2) := by decide +kernel
theorem dL_isNode_16 : decode cL_isNode 16 = .ok (.aload_n 0, 1) := by decide +kernel
theorem dL_isNode_17 : decode cL_isNode 17 = .ok (.iload 4, 2) := by decide +kernel
theorem dL_isNode_19 : decode cL_isNode 19 = .ok (.invokevirtual 54, 3) := by decide +kernel
theorem dL_isNode_22 : decode cL_isNode 22 = .ok (.istore 7, 2) := by decide +kernel
theorem dL_isNode_24 : decode cL_isNode 24 = .ok (.aload_n 0, 1) := by decide +kernel
theorem dL_isNode_25 : decode cL_isNode 25 = .ok (.iload 4, 2) := by decide +kernel
theorem dL_isNode_27 : decode cL_isNode 27 = .ok (.invokevirtual 57, 3) := by decide +kernel
theorem dL_isNode_30 : decode cL_isNode 30 = .ok (.aload_n 3, 1) := by decide +kernel
theorem dL_isNode_31 : decode cL_isNode 31 = .ok (.iconst 0, 1) := by decide +kernel
theorem dL_isNode_32 : decode cL_isNode 32 = .ok (.iaload, 1) := by decide +kernel
theorem dL_isNode_33 : decode cL_isNode 33 = .ok (.if_icmp .le 19, 3) := by decide +kernel
theorem dL_isNode_36 : decode cL_isNode 36 = .ok (.aload_n 0, 1) := by decide +kernel
theorem dL_isNode_37 : decode cL_isNode 37 = .ok (.iload 4, 2) := by decide +kernel
theorem dL_isNode_39 : decode cL_isNode 39 = .ok (.iload 4, 2) := by decide +kernel
theorem dL_isNode_41 : decode cL_isNode 41 = .ok (.invokevirtual 60, 3) := by decide +kernel
theorem dL_isNode_44 : decode cL_isNode 44 = .ok (.iconst (-1), 1) := by decide +kernel
theorem dL_isNode_45 : decode cL_isNode 45 = .ok (.if_icmp .ne 7, 3) := by decide +kernel
theorem dL_isNode_48 : decode cL_isNode 48 = .ok (.iconst 1, 1) := by decide +kernel
theorem dL_isNode_49 : decode cL_isNode 49 = .ok (.goto 4, 3) := by decide +kernel
theorem dL_isNode_52 : decode cL_isNode 52 = .ok (.iconst 0, 1) := by decide +kernel
theorem dL_isNode_53 : decode cL_isNode 53 = .ok (.istore 8, 2) := by decide +kernel
theorem dL_isNode_55 : decode cL_isNode 55 = .ok (.aload_n 2, 1) := by decide +kernel
theorem dL_isNode_56 : decode cL_isNode 56 = .ok (.iload 4, 2) := by decide +kernel
theorem dL_isNode_58 : decode cL_isNode 58 = .ok (.iaload, 1) := by decide +kernel
theorem dL_isNode_59 : decode cL_isNode 59 = .ok (.iconst 1, 1) := by decide +kernel
theorem dL_isNode_60 : decode cL_isNode 60 = .ok (.if_icmp .ne 47, 3) := by decide +kernel
theorem dL_isNode_63 : decode cL_isNode 63 = .ok (.iload 8, 2) := by decide +kernel
theorem dL_isNode_65 : decode cL_isNode 65 = .ok (.ifCond .eq 36, 3) := by decide +kernel
theorem dL_isNode_68 : decode cL_isNode 68 = .ok (.iload 5, 2) := by decide +kernel
theorem dL_isNode_70 : decode cL_isNode 70 = .ok (.ifCond .ne 31, 3) := by decide +kernel
theorem dL_isNode_73 : decode cL_isNode 73 = .ok (.iload 6, 2) := by decide +kernel
theorem dL_isNode_75 : decode cL_isNode 75 = .ok (.iconst (-1), 1) := by decide +kernel
theorem dL_isNode_76 : decode cL_isNode 76 = .ok (.if_icmp .ne 25, 3) := by decide +kernel
theorem dL_isNode_79 : decode cL_isNode 79 = .ok (.iload 7, 2) := by decide +kernel
theorem dL_isNode_81 : decode cL_isNode 81 = .ok (.bipush 10, 2) := by decide +kernel
theorem dL_isNode_83 : decode cL_isNode 83 = .ok (.aload_n 2, 1) := by decide +kernel
theorem dL_isNode_84 : decode cL_isNode 84 = .ok (.bipush 10, 2) := by decide +kernel
theorem dL_isNode_86 : decode cL_isNode 86 = .ok (.iload 4, 2) := by decide +kernel
theorem dL_isNode_88 : decode cL_isNode 88 = .ok (.iadd, 1) := by decide +kernel
theorem dL_isNode_89 : decode cL_isNode 89 = .ok (.iaload, 1) := by decide +kernel
theorem dL_isNode_90 : decode cL_isNode 90 = .ok (.imul, 1) := by decide +kernel
theorem dL_isNode_91 : decode cL_isNode 91 = .ok (.iload 4, 2) := by decide +kernel
theorem dL_isNode_93 : decode cL_isNode 93 = .ok (.iadd, 1) := by decide +kernel
end
section
theorem dL_isNode_94 : decode cL_isNode 94 = .ok (.if_icmp .ne 7, 3) := by decide +kernel
theorem dL_isNode_97 : decode cL_isNode 97 = .ok (.iconst 1, 1) := by decide +kernel
theorem dL_isNode_98 : decode cL_isNode 98 = .ok (.goto 4, 3) := by decide +kernel
theorem dL_isNode_101 : decode cL_isNode 101 = .ok (.iconst 0, 1) := by decide +kernel
theorem dL_isNode_102 : decode cL_isNode 102 = .ok (.istore 8, 2) := by decide +kernel
theorem dL_isNode_104 : decode cL_isNode 104 = .ok (.goto 127, 3) := by decide +kernel
theorem dL_isNode_107 : decode cL_isNode 107 = .ok (.iload 6, 2) := by decide +kernel
theorem dL_isNode_109 : decode cL_isNode 109 = .ok (.ifCond .ge 32, 3) := by decide +kernel
theorem dL_isNode_112 : decode cL_isNode 112 = .ok (.iload 8, 2) := by decide +kernel
theorem dL_isNode_114 : decode cL_isNode 114 = .ok (.ifCond .eq 21, 3) := by decide +kernel
theorem dL_isNode_117 : decode cL_isNode 117 = .ok (.iload 6, 2) := by decide +kernel
theorem dL_isNode_119 : decode cL_isNode 119 = .ok (.iconst (-1), 1) := by decide +kernel
theorem dL_isNode_120 : decode cL_isNode 120 = .ok (.if_icmp .ne 15, 3) := by decide +kernel
theorem dL_isNode_123 : decode cL_isNode 123 = .ok (.iload 5, 2) := by decide +kernel
theorem dL_isNode_125 : decode cL_isNode 125 = .ok (.sipush 10000, 3) := by decide +kernel
theorem dL_isNode_128 : decode cL_isNode 128 = .ok (.if_icmp .ne 7, 3) := by decide +kernel
theorem dL_isNode_131 : decode cL_isNode 131 = .ok (.iconst 1, 1) := by decide +kernel
theorem dL_isNode_132 : decode cL_isNode 132 = .ok (.goto 4, 3) := by decide +kernel
theorem dL_isNode_135 : decode cL_isNode 135 = .ok (.iconst 0, 1) := by decide +kernel
theorem dL_isNode_136 : decode cL_isNode 136 = .ok (.istore 8, 2) := by decide +kernel
theorem dL_isNode_138 : decode cL_isNode 138 = .ok (.goto 93, 3) := by decide +kernel
theorem dL_isNode_141 : decode cL_isNode 141 = .ok (.iload 8, 2) := by decide +kernel
theorem dL_isNode_143 : decode cL_isNode 143 = .ok (.ifCond .eq 85, 3) := by decide +kernel
theorem dL_isNode_146 : decode cL_isNode 146 = .ok (.iload 6, 2) := by decide +kernel
theorem dL_isNode_148 : decode cL_isNode 148 = .ok (.bipush 10, 2) := by decide +kernel
theorem dL_isNode_150 : decode cL_isNode 150 = .ok (.if_icmp .ge 78, 3) := by decide +kernel
theorem dL_isNode_153 : decode cL_isNode 153 = .ok (.iload 5, 2) := by decide +kernel
theorem dL_isNode_155 : decode cL_isNode 155 = .ok (.ifCond .le 73, 3) := by decide +kernel
theorem dL_isNode_158 : decode cL_isNode 158 = .ok (.iload 5, 2) := by decide +kernel
theorem dL_isNode_160 : decode cL_isNode 160 = .ok (.sipush 10000, 3) := by decide +kernel
theorem dL_isNode_163 : decode cL_isNode 163 = .ok (.if_icmp .ge 65, 3) := by decide +kernel
theorem dL_isNode_166 : decode cL_isNode 166 = .ok (.aload_n 1, 1) := by decide +kernel
theorem dL_isNode_167 : decode cL_isNode 167 = .ok (.iload 4, 2) := by decide +kernel
theorem dL_isNode_169 : decode cL_isNode 169 = .ok (.iload 6, 2) := by decide +kernel
theorem dL_isNode_171 : decode cL_isNode 171 = .ok (.invokestatic 72, 3) := by decide +kernel
theorem dL_isNode_174 : decode cL_isNode 174 = .ok (.ifCond .le 54, 3) := by decide +kernel
theorem dL_isNode_177 : decode cL_isNode 177 = .ok (.iload 5, 2) := by decide +kernel
theorem dL_isNode_179 : decode cL_isNode 179 = .ok (.aload_n 0, 1) := by decide +kernel
theorem dL_isNode_180 : decode cL_isNode 180 = .ok (.iload 4, 2) := by decide +kernel
theorem dL_isNode_182 : decode cL_isNode 182 = .ok (.iload 6, 2) := by decide +kernel
theorem dL_isNode_184 : decode cL_isNode 184 = .ok (.invokevirtual 60, 3) := by decide +kernel
theorem dL_isNode_187 : decode cL_isNode 187 = .ok (.aload_n 1, 1) := by decide +kernel
theorem dL_isNode_188 : decode cL_isNode 188 = .ok (.iload 4, 2) := by decide +kernel
theorem dL_isNode_190 : decode cL_isNode 190 = .ok (.iload 6, 2) := by decide +kernel
theorem dL_isNode_192 : decode cL_isNode 192 = .ok (.invokestatic 72, 3) := by decide +kernel
theorem dL_isNode_195 : decode cL_isNode 195 = .ok (.iadd, 1) := by decide +kernel
theorem dL_isNode_196 : decode cL_isNode 196 = .ok (.if_icmp .ne 32, 3) := by decide +kernel
theorem dL_isNode_199 : decode cL_isNode 199 = .ok (.iload 7, 2) := by decide +kernel
theorem dL_isNode_201 : decode cL_isNode 201 = .ok (.bipush 10, 2) := by decide +kernel
theorem dL_isNode_203 : decode cL_isNode 203 = .ok (.if_icmp .lt 25, 3) := by decide +kernel
theorem dL_isNode_206 : decode cL_isNode 206 = .ok (.aload_n 2, 1) := by decide +kernel
theorem dL_isNode_207 : decode cL_isNode 207 = .ok (.bipush 10, 2) := by decide +kernel
theorem dL_isNode_209 : decode cL_isNode 209 = .ok (.iload 7, 2) := by decide +kernel
theorem dL_isNode_211 : decode cL_isNode 211 = .ok (.bipush 10, 2) := by decide +kernel
theorem dL_isNode_213 : decode cL_isNode 213 = .ok (.irem, 1) := by decide +kernel
theorem dL_isNode_214 : decode cL_isNode 214 = .ok (.iadd, 1) := by decide +kernel
theorem dL_isNode_215 : decode cL_isNode 215 = .ok (.iaload, 1) := by decide +kernel
theorem dL_isNode_216 : decode cL_isNode 216 = .ok (.iload 7, 2) := by decide +kernel
theorem dL_isNode_218 : decode cL_isNode 218 = .ok (.bipush 10, 2) := by decide +kernel
theorem dL_isNode_220 : decode cL_isNode 220 = .ok (.idiv, 1) := by decide +kernel
theorem dL_isNode_221 : decode cL_isNode 221 = .ok (.if_icmp .lt 7, 3) := by decide +kernel
theorem dL_isNode_224 : decode cL_isNode 224 = .ok (.iconst 1, 1) := by decide +kernel
theorem dL_isNode_225 : decode cL_isNode 225 = .ok (.goto 4, 3) := by decide +kernel
theorem dL_isNode_228 : decode cL_isNode 228 = .ok (.iconst 0, 1) := by decide +kernel
theorem dL_isNode_229 : decode cL_isNode 229 = .ok (.istore 8, 2) := by decide +kernel
theorem dL_isNode_231 : decode cL_isNode 231 = .ok (.iconst 0, 1) := by decide +kernel
theorem dL_isNode_232 : decode cL_isNode 232 = .ok (.istore 9, 2) := by decide +kernel
theorem dL_isNode_234 : decode cL_isNode 234 = .ok (.iload 9, 2) := by decide +kernel
theorem dL_isNode_236 : decode cL_isNode 236 = .ok (.bipush 10, 2) := by decide +kernel
theorem dL_isNode_238 : decode cL_isNode 238 = .ok (.if_icmp .ge 62, 3) := by decide +kernel
theorem dL_isNode_241 : decode cL_isNode 241 = .ok (.iload 8, 2) := by decide +kernel
theorem dL_isNode_243 : decode cL_isNode 243 = .ok (.ifCond .eq 57, 3) := by decide +kernel
theorem dL_isNode_246 : decode cL_isNode 246 = .ok (.aload_n 0, 1) := by decide +kernel
theorem dL_isNode_247 : decode cL_isNode 247 = .ok (.iload 4, 2) := by decide +kernel
theorem dL_isNode_249 : decode cL_isNode 249 = .ok (.iload 9, 2) := by decide +kernel
theorem dL_isNode_251 : decode cL_isNode 251 = .ok (.invokevirtual 60, 3) := by decide +kernel
theorem dL_isNode_254 : decode cL_isNode 254 = .ok (.istore 10, 2) := by decide +kernel
theorem dL_isNode_256 : decode cL_isNode 256 = .ok (.iload 10, 2) := by decide +kernel
theorem dL_isNode_258 : decode cL_isNode 258 = .ok (.iconst (-1), 1) := by decide +kernel
theorem dL_isNode_259 : decode cL_isNode 259 = .ok (.if_icmp .lt 32, 3) := by decide +kernel
theorem dL_isNode_262 : decode cL_isNode 262 = .ok (.iload 10, 2) := by decide +kernel
theorem dL_isNode_264 : decode cL_isNode 264 = .ok (.sipush 10001, 3) := by decide +kernel
theorem dL_isNode_267 : decode cL_isNode 267 = .ok (.if_icmp .ge 24, 3) := by decide +kernel
theorem dL_isNode_270 : decode cL_isNode 270 = .ok (.aload_n 1, 1) := by decide +kernel
theorem dL_isNode_271 : decode cL_isNode 271 = .ok (.iload 4, 2) := by decide +kernel
theorem dL_isNode_273 : decode cL_isNode 273 = .ok (.iload 9, 2) := by decide +kernel
theorem dL_isNode_275 : decode cL_isNode 275 = .ok (.invokestatic 72, 3) := by decide +kernel
theorem dL_isNode_278 : decode cL_isNode 278 = .ok (.ifCond .gt 9, 3) := by decide +kernel
theorem dL_isNode_281 : decode cL_isNode 281 = .ok (.iload 10, 2) := by decide +kernel
theorem dL_isNode_283 : decode cL_isNode 283 = .ok (.iconst (-1), 1) := by decide +kernel
theorem dL_isNode_284 : decode cL_isNode 284 = .ok (.if_icmp .ne 7, 3) := by decide +kernel
theorem dL_isNode_287 : decode cL_isNode 287 = .ok (.iconst 1, 1) := by decide +kernel
theorem dL_isNode_288 : decode cL_isNode 288 = .ok (.goto 4, 3) := by decide +kernel
theorem dL_isNode_291 : decode cL_isNode 291 = .ok (.iconst 0, 1) := by decide +kernel
theorem dL_isNode_292 : decode cL_isNode 292 = .ok (.istore 8, 2) := by decide +kernel
theorem dL_isNode_294 : decode cL_isNode 294 = .ok (.iinc 9 1, 3) := by decide +kernel
theorem dL_isNode_297 : decode cL_isNode 297 = .ok (.goto (-63), 3) := by decide +kernel
theorem dL_isNode_300 : decode cL_isNode 300 = .ok (.iload 8, 2) := by decide +kernel
theorem dL_isNode_302 : decode cL_isNode 302 = .ok (.ireturn, 1) := by decide +kernel
set_option maxRecDepth 20000 in
theorem ggL_isLeast_L_cost : GoodIn wsL_isLeast wsL_cost := goodIn_r _ [4] (by decide +kernel) (by decide +kernel)
set_option maxRecDepth 20000 in
theorem gL_isLeast_L_cost : GoodIn wsL_isLeast (va_wsS RL 72 yL_cost wsL_cost) := goodIn_app (goodIn_of _ (by decide +kernel)) ggL_isLeast_L_cost
set_option maxRecDepth 20000 in
theorem ggL_isLeast_X0_leastRank : GoodIn wsL_isLeast wsX0_leastRank := goodIn_ca (goodIn_r _ [9, 10, 11, 12, 13, 8, 14, 15, 16, 17, 18, 19, 20, 21, 22, 23, 24, 25, 26, 27, 28, 29, 30, 31, 32, 33, 34, 35, 36, 37, 38, 39, 40, 41, 42, 43, 44, 45, 46, 47, 48] (by decide +kernel) (by decide +kernel)) (goodIn_sub (fun _ h => List.mem_cons_of_mem _ (List.mem_append_right _ h)) (by decide +kernel))
set_option maxRecDepth 20000 in
theorem gL_isLeast_X0_leastRank : GoodIn wsL_isLeast (wsV RL 63 RX0 yX0_leastRank wsX0_leastRank) := goodIn_app (goodIn_of _ (by decide +kernel)) ggL_isLeast_X0_leastRank
theorem dL_isLeast_0 : decode cL_isLeast 0 = .ok (.iconst 1, 1) := by decide +kernel
theorem dL_isLeast_1 : decode cL_isLeast 1 = .ok (.istore_n 3, 1) := by decide +kernel
theorem dL_isLeast_2 : decode cL_isLeast 2 = .ok (.iconst 0, 1) := by decide +kernel
theorem dL_isLeast_3 : decode cL_isLeast 3 = .ok (.istore 4, 2) := by decide +kernel
theorem dL_isLeast_5 : decode cL_isLeast 5 = .ok (.iload 4, 2) := by decide +kernel
theorem dL_isLeast_7 : decode cL_isLeast 7 = .ok (.bipush 10, 2) := by decide +kernel
theorem dL_isLeast_9 : decode cL_isLeast 9 = .ok (.if_icmp .ge 113, 3) := by decide +kernel
theorem dL_isLeast_12 : decode cL_isLeast 12 = .ok (.iload_n 3, 1) := by decide +kernel
theorem dL_isLeast_13 : decode cL_isLeast 13 = .ok (.ifCond .eq 109, 3) := by decide +kernel
theorem dL_isLeast_16 : decode cL_isLeast 16 = .ok (.aload_n 2, 1) := by decide +kernel
theorem dL_isLeast_17 : decode cL_isLeast 17 = .ok (.iload 4, 2) := by decide +kernel
theorem dL_isLeast_19 : decode cL_isLeast 19 = .ok (.iaload, 1) := by decide +kernel
theorem dL_isLeast_20 : decode cL_isLeast 20 = .ok (.iconst 1, 1) := by decide +kernel
theorem dL_isLeast_21 : decode cL_isLeast 21 = .ok (.if_icmp .ne 7, 3) := by decide +kernel
theorem dL_isLeast_24 : decode cL_isLeast 24 = .ok (.iconst 0, 1) := by decide +kernel
theorem dL_isLeast_25 : decode cL_isLeast 25 = .ok (.goto 6, 3) := by decide +kernel
theorem dL_isLeast_28 : decode cL_isLeast 28 = .ok (.sipush 10000, 3) := by decide +kernel
theorem dL_isLeast_31 : decode cL_isLeast 31 = .ok (.istore 5, 2) := by decide +kernel
theorem dL_isLeast_33 : decode cL_isLeast 33 = .ok (.iconst 0, 1) := by decide +kernel
theorem dL_isLeast_34 : decode cL_isLeast 34 = .ok (.istore 6, 2) := by decide +kernel
theorem dL_isLeast_36 : decode cL_isLeast 36 = .ok (.iload 6, 2) := by decide +kernel
theorem dL_isLeast_38 : decode cL_isLeast 38 = .ok (.bipush 8, 2) := by decide +kernel
theorem dL_isLeast_40 : decode cL_isLeast 40 = .ok (.if_icmp .ge 59, 3) := by decide +kernel
theorem dL_isLeast_43 : decode cL_isLeast 43 = .ok (.aload_n 1, 1) := by decide +kernel
theorem dL_isLeast_44 : decode cL_isLeast 44 = .ok (.iload 4, 2) := by decide +kernel
theorem dL_isLeast_46 : decode cL_isLeast 46 = .ok (.iload 6, 2) := by decide +kernel
theorem dL_isLeast_48 : decode cL_isLeast 48 = .ok (.invokestatic 72, 3) := by decide +kernel
theorem dL_isLeast_51 : decode cL_isLeast 51 = .ok (.ifCond .le 21, 3) := by decide +kernel
theorem dL_isLeast_54 : decode cL_isLeast 54 = .ok (.aload_n 0, 1) := by decide +kernel
theorem dL_isLeast_55 : decode cL_isLeast 55 = .ok (.iload 6, 2) := by decide +kernel
theorem dL_isLeast_57 : decode cL_isLeast 57 = .ok (.invokevirtual 63, 3) := by decide +kernel
theorem dL_isLeast_60 : decode cL_isLeast 60 = .ok (.aload_n 1, 1) := by decide +kernel
theorem dL_isLeast_61 : decode cL_isLeast 61 = .ok (.iload 4, 2) := by decide +kernel
theorem dL_isLeast_63 : decode cL_isLeast 63 = .ok (.iload 6, 2) := by decide +kernel
theorem dL_isLeast_65 : decode cL_isLeast 65 = .ok (.invokestatic 72, 3) := by decide +kernel
theorem dL_isLeast_68 : decode cL_isLeast 68 = .ok (.iadd, 1) := by decide +kernel
theorem dL_isLeast_69 : decode cL_isLeast 69 = .ok (.goto 6, 3) := by decide +kernel
theorem dL_isLeast_72 : decode cL_isLeast 72 = .ok (.sipush 10000, 3) := by decide +kernel
theorem dL_isLeast_75 : decode cL_isLeast 75 = .ok (.istore 7, 2) := by decide +kernel
theorem dL_isLeast_77 : decode cL_isLeast 77 = .ok (.iload 7, 2) := by decide +kernel
theorem dL_isLeast_79 : decode cL_isLeast 79 = .ok (.iload 5, 2) := by decide +kernel
theorem dL_isLeast_81 : decode cL_isLeast 81 = .ok (.if_icmp .ge 8, 3) := by decide +kernel
theorem dL_isLeast_84 : decode cL_isLeast 84 = .ok (.iload 7, 2) := by decide +kernel
theorem dL_isLeast_86 : decode cL_isLeast 86 = .ok (.goto 5, 3) := by decide +kernel
theorem dL_isLeast_89 : decode cL_isLeast 89 = .ok (.iload 5, 2) := by decide +kernel
theorem dL_isLeast_91 : decode cL_isLeast 91 = .ok (.istore 5, 2) := by decide +kernel
theorem dL_isLeast_93 : decode cL_isLeast 93 = .ok (.iinc 6 1, 3) := by decide +kernel
theorem dL_isLeast_96 : decode cL_isLeast 96 = .ok (.goto (-60), 3) := by decide +kernel
theorem dL_isLeast_99 : decode cL_isLeast 99 = .ok (.aload_n 0, 1) := by decide +kernel
theorem dL_isLeast_100 : decode cL_isLeast 100 = .ok (.iload 4, 2) := by decide +kernel
theorem dL_isLeast_102 : decode cL_isLeast 102 = .ok (.invokevirtual 63, 3) := by decide +kernel
theorem dL_isLeast_105 : decode cL_isLeast 105 = .ok (.iload 5, 2) := by decide +kernel
theorem dL_isLeast_107 : decode cL_isLeast 107 = .ok (.if_icmp .ne 7, 3) := by decide +kernel
theorem dL_isLeast_110 : decode cL_isLeast 110 = .ok (.iconst 1, 1) := by decide +kernel
theorem dL_isLeast_111 : decode cL_isLeast 111 = .ok (.goto 4, 3) := by decide +kernel
theorem dL_isLeast_114 : decode cL_isLeast 114 = .ok (.iconst 0, 1) := by decide +kernel
theorem dL_isLeast_115 : decode cL_isLeast 115 = .ok (.istore_n 3, 1) := by decide +kernel
theorem dL_isLeast_116 : decode cL_isLeast 116 = .ok (.iinc 4 1, 3) := by decide +kernel
theorem dL_isLeast_119 : decode cL_isLeast 119 = .ok (.goto (-114), 3) := by decide +kernel
theorem dL_isLeast_122 : decode cL_isLeast 122 = .ok (.iload_n 3, 1) := by decide +kernel
theorem dL_isLeast_123 : decode cL_isLeast 123 = .ok (.ireturn, 1) := by decide +kernel
set_option maxRecDepth 20000 in
theorem ggL_isPacket_X0_parent : GoodIn wsL_isPacket wsX0_parent := goodIn_ca (goodIn_r _ [5, 6, 7, 8, 4, 9, 10, 11, 12, 13, 14, 30, 31, 32, 33, 34, 35, 36, 37, 38, 39, 40, 41, 42, 43, 44, 45, 46, 47, 48, 49] (by decide +kernel) (by decide +kernel)) (goodIn_sub (fun _ h => List.mem_cons_of_mem _ (List.mem_append_right _ h)) (by decide +kernel))
set_option maxRecDepth 20000 in
theorem gL_isPacket_X0_parent : GoodIn wsL_isPacket (wsV RL 51 RX0 yX0_parent wsX0_parent) := goodIn_app (goodIn_of _ (by decide +kernel)) ggL_isPacket_X0_parent
set_option maxRecDepth 20000 in
theorem ggL_isPacket_X0_rank : GoodIn wsL_isPacket wsX0_rank := goodIn_ca (goodIn_r _ [18, 19, 7, 8, 4, 9, 10, 11, 12, 13, 14, 30, 31, 32, 33, 34, 35, 36, 37, 38, 39, 40, 41, 42, 43, 44, 45, 46, 47, 48, 49] (by decide +kernel) (by decide +kernel)) (goodIn_sub (fun _ h => List.mem_cons_of_mem _ (List.mem_append_right _ h)) (by decide +kernel))
set_option maxRecDepth 20000 in
theorem gL_isPacket_X0_rank : GoodIn wsL_isPacket (wsV RL 48 RX0 yX0_rank wsX0_rank) := goodIn_app (goodIn_of _ (by decide +kernel)) ggL_isPacket_X0_rank
set_option maxRecDepth 20000 in
theorem ggL_isPacket_X0_up : GoodIn wsL_isPacket wsX0_up := goodIn_ca (goodIn_r _ [23, 24, 6, 19, 25, 7, 8, 4, 9, 10, 11, 12, 13, 14, 30, 31, 32, 33, 34, 35, 36, 37, 38, 39, 40, 41, 42, 43, 44, 45, 46, 47, 48, 49] (by decide +kernel) (by decide +kernel)) (goodIn_sub (fun _ h => List.mem_cons_of_mem _ (List.mem_append_right _ h)) (by decide +kernel))
set_option maxRecDepth 20000 in
theorem gL_isPacket_X0_up : GoodIn wsL_isPacket (wsV RL 66 RX0 yX0_up wsX0_up) := goodIn_app (goodIn_of _ (by decide +kernel)) ggL_isPacket_X0_up
set_option maxRecDepth 20000 in
theorem ggL_isPacket_X0_loops : GoodIn wsL_isPacket wsX0_loops := goodIn_r _ [29, 25, 30, 31, 32, 33, 34, 35, 36, 37, 38, 39, 40, 41, 42, 43, 44, 45, 46, 47, 48, 49] (by decide +kernel) (by decide +kernel)
set_option maxRecDepth 20000 in
theorem gL_isPacket_X0_loops : GoodIn wsL_isPacket (wsV RL 76 RX0 yX0_loops wsX0_loops) := goodIn_app (goodIn_of _ (by decide +kernel)) ggL_isPacket_X0_loops
theorem dL_isPacket_0 : decode cL_isPacket 0 = .ok (.iload_n 3, 1) := by decide +kernel
theorem dL_isPacket_1 : decode cL_isPacket 1 = .ok (.istore 4, 2) := by decide +kernel
theorem dL_isPacket_3 : decode cL_isPacket 3 = .ok (.iconst 0, 1) := by decide +kernel
theorem dL_isPacket_4 : decode cL_isPacket 4 = .ok (.istore 5, 2) := by decide +kernel
theorem dL_isPacket_6 : decode cL_isPacket 6 = .ok (.iconst 0, 1) := by decide +kernel
theorem dL_isPacket_7 : decode cL_isPacket 7 = .ok (.istore 6, 2) := by decide +kernel
theorem dL_isPacket_9 : decode cL_isPacket 9 = .ok (.aload_n 1, 1) := by decide +kernel
theorem dL_isPacket_10 : decode cL_isPacket 10 = .ok (.iload 4, 2) := by decide +kernel
theorem dL_isPacket_12 : decode cL_isPacket 12 = .ok (.iaload, 1) := by decide +kernel
theorem dL_isPacket_13 : decode cL_isPacket 13 = .ok (.ifCond .ne 61, 3) := by decide +kernel
theorem dL_isPacket_16 : decode cL_isPacket 16 = .ok (.aload_n 0, 1) := by decide +kernel
theorem dL_isPacket_17 : decode cL_isPacket 17 = .ok (.iload 4, 2) := by decide +kernel
theorem dL_isPacket_19 : decode cL_isPacket 19 = .ok (.invokevirtual 51, 3) := by decide +kernel
theorem dL_isPacket_22 : decode cL_isPacket 22 = .ok (.ifCond .lt 52, 3) := by decide +kernel
theorem dL_isPacket_25 : decode cL_isPacket 25 = .ok (.iload 6, 2) := by decide +kernel
theorem dL_isPacket_27 : decode cL_isPacket 27 = .ok (.iconst 2, 1) := by decide +kernel
theorem dL_isPacket_28 : decode cL_isPacket 28 = .ok (.if_icmp .ge 46, 3) := by decide +kernel
theorem dL_isPacket_31 : decode cL_isPacket 31 = .ok (.iload 6, 2) := by decide +kernel
theorem dL_isPacket_33 : decode cL_isPacket 33 = .ok (.aload_n 0, 1) := by decide +kernel
theorem dL_isPacket_34 : decode cL_isPacket 34 = .ok (.aload_n 0, 1) := by decide +kernel
theorem dL_isPacket_35 : decode cL_isPacket 35 = .ok (.iload 4, 2) := by decide +kernel
theorem dL_isPacket_37 : decode cL_isPacket 37 = .ok (.invokevirtual 51, 3) := by decide +kernel
theorem dL_isPacket_40 : decode cL_isPacket 40 = .ok (.invokevirtual 48, 3) := by decide +kernel
theorem dL_isPacket_43 : decode cL_isPacket 43 = .ok (.aload_n 0, 1) := by decide +kernel
theorem dL_isPacket_44 : decode cL_isPacket 44 = .ok (.iload 4, 2) := by decide +kernel
theorem dL_isPacket_46 : decode cL_isPacket 46 = .ok (.invokevirtual 48, 3) := by decide +kernel
theorem dL_isPacket_49 : decode cL_isPacket 49 = .ok (.if_icmp .lt 7, 3) := by decide +kernel
theorem dL_isPacket_52 : decode cL_isPacket 52 = .ok (.iconst 1, 1) := by decide +kernel
theorem dL_isPacket_53 : decode cL_isPacket 53 = .ok (.goto 4, 3) := by decide +kernel
theorem dL_isPacket_56 : decode cL_isPacket 56 = .ok (.iconst 0, 1) := by decide +kernel
theorem dL_isPacket_57 : decode cL_isPacket 57 = .ok (.iadd, 1) := by decide +kernel
theorem dL_isPacket_58 : decode cL_isPacket 58 = .ok (.istore 6, 2) := by decide +kernel
theorem dL_isPacket_60 : decode cL_isPacket 60 = .ok (.aload_n 0, 1) := by decide +kernel
theorem dL_isPacket_61 : decode cL_isPacket 61 = .ok (.iload 4, 2) := by decide +kernel
theorem dL_isPacket_63 : decode cL_isPacket 63 = .ok (.invokevirtual 51, 3) := by decide +kernel
theorem dL_isPacket_66 : decode cL_isPacket 66 = .ok (.istore 4, 2) := by decide +kernel
theorem dL_isPacket_68 : decode cL_isPacket 68 = .ok (.iinc 5 1, 3) := by decide +kernel
theorem dL_isPacket_71 : decode cL_isPacket 71 = .ok (.goto (-62), 3) := by decide +kernel
theorem dL_isPacket_74 : decode cL_isPacket 74 = .ok (.aload_n 2, 1) := by decide +kernel
theorem dL_isPacket_75 : decode cL_isPacket 75 = .ok (.iconst 2, 1) := by decide +kernel
theorem dL_isPacket_76 : decode cL_isPacket 76 = .ok (.dup2, 1) := by decide +kernel
theorem dL_isPacket_77 : decode cL_isPacket 77 = .ok (.iaload, 1) := by decide +kernel
theorem dL_isPacket_78 : decode cL_isPacket 78 = .ok (.iload 6, 2) := by decide +kernel
theorem dL_isPacket_80 : decode cL_isPacket 80 = .ok (.iconst 2, 1) := by decide +kernel
theorem dL_isPacket_81 : decode cL_isPacket 81 = .ok (.if_icmp .ne 7, 3) := by decide +kernel
theorem dL_isPacket_84 : decode cL_isPacket 84 = .ok (.iconst 1, 1) := by decide +kernel
theorem dL_isPacket_85 : decode cL_isPacket 85 = .ok (.goto 4, 3) := by decide +kernel
theorem dL_isPacket_88 : decode cL_isPacket 88 = .ok (.iconst 0, 1) := by decide +kernel
theorem dL_isPacket_89 : decode cL_isPacket 89 = .ok (.iadd, 1) := by decide +kernel
theorem dL_isPacket_90 : decode cL_isPacket 90 = .ok (.iastore, 1) := by decide +kernel
theorem dL_isPacket_91 : decode cL_isPacket 91 = .ok (.aload_n 0, 1) := by decide +kernel
theorem dL_isPacket_92 : decode cL_isPacket 92 = .ok (.iload_n 3, 1) := by decide +kernel
theorem dL_isPacket_93 : decode cL_isPacket 93 = .ok (.invokevirtual 66, 3) := by decide +kernel
theorem dL_isPacket_96 : decode cL_isPacket 96 = .ok (.iload 6, 2) := by decide +kernel
theorem dL_isPacket_98 : decode cL_isPacket 98 = .ok (.iconst 2, 1) := by decide +kernel
theorem dL_isPacket_99 : decode cL_isPacket 99 = .ok (.if_icmp .ne 8, 3) := by decide +kernel
theorem dL_isPacket_102 : decode cL_isPacket 102 = .ok (.bipush (-2), 2) := by decide +kernel
theorem dL_isPacket_104 : decode cL_isPacket 104 = .ok (.goto 17, 3) := by decide +kernel
theorem dL_isPacket_107 : decode cL_isPacket 107 = .ok (.aload_n 1, 1) := by decide +kernel
theorem dL_isPacket_108 : decode cL_isPacket 108 = .ok (.iload 4, 2) := by decide +kernel
theorem dL_isPacket_110 : decode cL_isPacket 110 = .ok (.iaload, 1) := by decide +kernel
theorem dL_isPacket_111 : decode cL_isPacket 111 = .ok (.iconst 1, 1) := by decide +kernel
theorem dL_isPacket_112 : decode cL_isPacket 112 = .ok (.if_icmp .ne 8, 3) := by decide +kernel
theorem dL_isPacket_115 : decode cL_isPacket 115 = .ok (.iload 5, 2) := by decide +kernel
theorem dL_isPacket_117 : decode cL_isPacket 117 = .ok (.goto 4, 3) := by decide +kernel
theorem dL_isPacket_120 : decode cL_isPacket 120 = .ok (.iconst (-1), 1) := by decide +kernel
theorem dL_isPacket_121 : decode cL_isPacket 121 = .ok (.if_icmp .ne 17, 3) := by decide +kernel
theorem dL_isPacket_124 : decode cL_isPacket 124 = .ok (.aload_n 0, 1) := by decide +kernel
theorem dL_isPacket_125 : decode cL_isPacket 125 = .ok (.invokevirtual 76, 3) := by decide +kernel
theorem dL_isPacket_128 : decode cL_isPacket 128 = .ok (.aload_n 2, 1) := by decide +kernel
theorem dL_isPacket_129 : decode cL_isPacket 129 = .ok (.iconst 2, 1) := by decide +kernel
theorem dL_isPacket_130 : decode cL_isPacket 130 = .ok (.iaload, 1) := by decide +kernel
theorem dL_isPacket_131 : decode cL_isPacket 131 = .ok (.if_icmp .ne 7, 3) := by decide +kernel
theorem dL_isPacket_134 : decode cL_isPacket 134 = .ok (.iconst 1, 1) := by decide +kernel
theorem dL_isPacket_135 : decode cL_isPacket 135 = .ok (.goto 4, 3) := by decide +kernel
theorem dL_isPacket_138 : decode cL_isPacket 138 = .ok (.iconst 0, 1) := by decide +kernel
theorem dL_isPacket_139 : decode cL_isPacket 139 = .ok (.ireturn, 1) := by decide +kernel
set_option maxRecDepth 20000 in
theorem ggL_isBelow_X0_below : GoodIn wsL_isBelow wsX0_below := goodIn_ca (goodIn_r _ [5, 6, 7, 4, 8, 9, 10, 11, 12, 13, 14, 15, 16, 17, 18, 161, 162, 163, 164, 165, 166, 167, 168, 169, 170, 171, 172, 173, 174, 175, 176, 177, 178, 179, 180] (by decide +kernel) (by decide +kernel)) (goodIn_sub (fun _ h => List.mem_cons_of_mem _ (List.mem_append_left _ (List.mem_append_left _ (List.mem_append_right _ h)))) (by decide +kernel))
set_option maxRecDepth 20000 in
theorem gL_isBelow_X0_below : GoodIn wsL_isBelow (wsV RL 69 RX0 yX0_below wsX0_below) := goodIn_app (goodIn_of _ (by decide +kernel)) ggL_isBelow_X0_below
set_option maxRecDepth 20000 in
theorem ggL_isBelow_X0_parent : GoodIn wsL_isBelow wsX0_parent := goodIn_ca (goodIn_r _ [22, 18, 6, 7, 4, 8, 9, 10, 11, 12, 13, 161, 162, 163, 164, 165, 166, 167, 168, 169, 170, 171, 172, 173, 174, 175, 176, 177, 178, 179, 180] (by decide +kernel) (by decide +kernel)) (goodIn_sub (fun _ h => List.mem_cons_of_mem _ (List.mem_append_left _ (List.mem_append_left _ (List.mem_append_right _ h)))) (by decide +kernel))
set_option maxRecDepth 20000 in
theorem gL_isBelow_X0_parent : GoodIn wsL_isBelow (wsV RL 51 RX0 yX0_parent wsX0_parent) := goodIn_app (goodIn_of _ (by decide +kernel)) ggL_isBelow_X0_parent
set_option maxRecDepth 20000 in
theorem ggL_isBelow_L_does : GoodIn wsL_isBelow wsL_does := goodIn_ca (goodIn_ca (goodIn_ca (goodIn_r _ [26, 27, 28, 29, 30, 31, 25, 32, 33, 34, 35, 4, 36, 37, 38, 39, 40, 41, 42, 43, 44, 45, 46, 47, 48, 49, 50, 51, 52, 53, 54, 55, 56, 6, 7, 8, 9, 10, 11, 12, 13, 57, 58, 59, 60, 61, 62, 63, 64, 18, 65, 66, 67, 68, 69, 70, 71, 72, 73, 74, 75, 76, 77, 78, 79, 80, 81, 82, 83, 84, 85, 86, 87, 88, 89, 90, 91, 92, 93, 94, 95, 96, 97, 98, 99, 100, 101, 102, 103, 104, 105, 106, 107, 108, 109, 110, 111, 112, 113, 114, 115, 116, 117, 118, 119, 120, 121, 122, 123, 124, 125, 126, 127, 128, 129, 130, 131, 132, 133, 134, 135, 136, 137, 138, 139, 140, 141, 142, 143, 144, 145, 146, 147, 148, 149, 150, 151, 152, 153, 154, 155, 156, 157, 158, 159, 160, 161, 162, 163, 164, 165, 166, 167, 168, 169, 170, 171, 172, 173, 174, 175, 176, 177, 178, 179, 180] (by decide +kernel) (by decide +kernel)) (goodIn_sub (fun _ h => List.mem_cons_of_mem _ (List.mem_append_left _ (List.mem_append_right _ h))) (by decide +kernel))) (goodIn_sub (fun _ h => List.mem_cons_of_mem _ (List.mem_append_right _ h)) (by decide +kernel))) (goodIn_sub (fun _ h => List.mem_cons_of_mem _ (List.mem_append_left _ (List.mem_append_left _ (List.mem_append_right _ h)))) (by decide +kernel))
set_option maxRecDepth 20000 in
theorem gL_isBelow_L_does : GoodIn wsL_isBelow (va_wsS RL 80 yL_does wsL_does) := goodIn_app (goodIn_of _ (by decide +kernel)) ggL_isBelow_L_does
theorem dL_isBelow_0 : decode cL_isBelow 0 = .ok (.aload_n 0, 1) := by decide +kernel
theorem dL_isBelow_1 : decode cL_isBelow 1 = .ok (.iload_n 1, 1) := by decide +kernel
theorem dL_isBelow_2 : decode cL_isBelow 2 = .ok (.invokevirtual 69, 3) := by decide +kernel
theorem dL_isBelow_5 : decode cL_isBelow 5 = .ok (.istore_n 3, 1) := by decide +kernel
theorem dL_isBelow_6 : decode cL_isBelow 6 = .ok (.iload_n 3, 1) := by decide +kernel
end
section
theorem dL_isBelow_7 : decode cL_isBelow 7 = .ok (.iload_n 1, 1) := by decide +kernel
theorem dL_isBelow_8 : decode cL_isBelow 8 = .ok (.ishr, 1) := by decide +kernel
theorem dL_isBelow_9 : decode cL_isBelow 9 = .ok (.iconst 1, 1) := by decide +kernel
theorem dL_isBelow_10 : decode cL_isBelow 10 = .ok (.iand, 1) := by decide +kernel
theorem dL_isBelow_11 : decode cL_isBelow 11 = .ok (.iconst 1, 1) := by decide +kernel
theorem dL_isBelow_12 : decode cL_isBelow 12 = .ok (.if_icmp .ne 18, 3) := by decide +kernel
theorem dL_isBelow_15 : decode cL_isBelow 15 = .ok (.iload_n 3, 1) := by decide +kernel
theorem dL_isBelow_16 : decode cL_isBelow 16 = .ok (.sipush 1024, 3) := by decide +kernel
theorem dL_isBelow_19 : decode cL_isBelow 19 = .ok (.if_icmp .ge 11, 3) := by decide +kernel
theorem dL_isBelow_22 : decode cL_isBelow 22 = .ok (.iload_n 3, 1) := by decide +kernel
theorem dL_isBelow_23 : decode cL_isBelow 23 = .ok (.ifCond .le 7, 3) := by decide +kernel
theorem dL_isBelow_26 : decode cL_isBelow 26 = .ok (.iconst 1, 1) := by decide +kernel
theorem dL_isBelow_27 : decode cL_isBelow 27 = .ok (.goto 4, 3) := by decide +kernel
theorem dL_isBelow_30 : decode cL_isBelow 30 = .ok (.iconst 0, 1) := by decide +kernel
theorem dL_isBelow_31 : decode cL_isBelow 31 = .ok (.istore 4, 2) := by decide +kernel
theorem dL_isBelow_33 : decode cL_isBelow 33 = .ok (.iconst 0, 1) := by decide +kernel
theorem dL_isBelow_34 : decode cL_isBelow 34 = .ok (.istore 5, 2) := by decide +kernel
theorem dL_isBelow_36 : decode cL_isBelow 36 = .ok (.iload 5, 2) := by decide +kernel
theorem dL_isBelow_38 : decode cL_isBelow 38 = .ok (.bipush 10, 2) := by decide +kernel
theorem dL_isBelow_40 : decode cL_isBelow 40 = .ok (.if_icmp .ge 73, 3) := by decide +kernel
theorem dL_isBelow_43 : decode cL_isBelow 43 = .ok (.iload 4, 2) := by decide +kernel
theorem dL_isBelow_45 : decode cL_isBelow 45 = .ok (.ifCond .eq 68, 3) := by decide +kernel
theorem dL_isBelow_48 : decode cL_isBelow 48 = .ok (.aload_n 0, 1) := by decide +kernel
theorem dL_isBelow_49 : decode cL_isBelow 49 = .ok (.iload 5, 2) := by decide +kernel
theorem dL_isBelow_51 : decode cL_isBelow 51 = .ok (.invokevirtual 51, 3) := by decide +kernel
theorem dL_isBelow_54 : decode cL_isBelow 54 = .ok (.istore 6, 2) := by decide +kernel
theorem dL_isBelow_56 : decode cL_isBelow 56 = .ok (.iload 5, 2) := by decide +kernel
theorem dL_isBelow_58 : decode cL_isBelow 58 = .ok (.iload_n 1, 1) := by decide +kernel
theorem dL_isBelow_59 : decode cL_isBelow 59 = .ok (.if_icmp .eq 41, 3) := by decide +kernel
theorem dL_isBelow_62 : decode cL_isBelow 62 = .ok (.iload_n 3, 1) := by decide +kernel
theorem dL_isBelow_63 : decode cL_isBelow 63 = .ok (.iload 5, 2) := by decide +kernel
theorem dL_isBelow_65 : decode cL_isBelow 65 = .ok (.ishr, 1) := by decide +kernel
theorem dL_isBelow_66 : decode cL_isBelow 66 = .ok (.iconst 1, 1) := by decide +kernel
theorem dL_isBelow_67 : decode cL_isBelow 67 = .ok (.iand, 1) := by decide +kernel
theorem dL_isBelow_68 : decode cL_isBelow 68 = .ok (.iconst 1, 1) := by decide +kernel
theorem dL_isBelow_69 : decode cL_isBelow 69 = .ok (.if_icmp .ne 7, 3) := by decide +kernel
theorem dL_isBelow_72 : decode cL_isBelow 72 = .ok (.iconst 1, 1) := by decide +kernel
theorem dL_isBelow_73 : decode cL_isBelow 73 = .ok (.goto 4, 3) := by decide +kernel
theorem dL_isBelow_76 : decode cL_isBelow 76 = .ok (.iconst 0, 1) := by decide +kernel
theorem dL_isBelow_77 : decode cL_isBelow 77 = .ok (.iload 6, 2) := by decide +kernel
theorem dL_isBelow_79 : decode cL_isBelow 79 = .ok (.ifCond .lt 17, 3) := by decide +kernel
theorem dL_isBelow_82 : decode cL_isBelow 82 = .ok (.iload_n 3, 1) := by decide +kernel
theorem dL_isBelow_83 : decode cL_isBelow 83 = .ok (.iload 6, 2) := by decide +kernel
theorem dL_isBelow_85 : decode cL_isBelow 85 = .ok (.ishr, 1) := by decide +kernel
theorem dL_isBelow_86 : decode cL_isBelow 86 = .ok (.iconst 1, 1) := by decide +kernel
theorem dL_isBelow_87 : decode cL_isBelow 87 = .ok (.iand, 1) := by decide +kernel
theorem dL_isBelow_88 : decode cL_isBelow 88 = .ok (.iconst 1, 1) := by decide +kernel
theorem dL_isBelow_89 : decode cL_isBelow 89 = .ok (.if_icmp .ne 7, 3) := by decide +kernel
theorem dL_isBelow_92 : decode cL_isBelow 92 = .ok (.iconst 1, 1) := by decide +kernel
theorem dL_isBelow_93 : decode cL_isBelow 93 = .ok (.goto 4, 3) := by decide +kernel
theorem dL_isBelow_96 : decode cL_isBelow 96 = .ok (.iconst 0, 1) := by decide +kernel
theorem dL_isBelow_97 : decode cL_isBelow 97 = .ok (.if_icmp .ne 7, 3) := by decide +kernel
theorem dL_isBelow_100 : decode cL_isBelow 100 = .ok (.iconst 1, 1) := by decide +kernel
theorem dL_isBelow_101 : decode cL_isBelow 101 = .ok (.goto 4, 3) := by decide +kernel
theorem dL_isBelow_104 : decode cL_isBelow 104 = .ok (.iconst 0, 1) := by decide +kernel
theorem dL_isBelow_105 : decode cL_isBelow 105 = .ok (.istore 4, 2) := by decide +kernel
theorem dL_isBelow_107 : decode cL_isBelow 107 = .ok (.iinc 5 1, 3) := by decide +kernel
theorem dL_isBelow_110 : decode cL_isBelow 110 = .ok (.goto (-74), 3) := by decide +kernel
theorem dL_isBelow_113 : decode cL_isBelow 113 = .ok (.aload_n 0, 1) := by decide +kernel
theorem dL_isBelow_114 : decode cL_isBelow 114 = .ok (.bipush 6, 2) := by decide +kernel
theorem dL_isBelow_116 : decode cL_isBelow 116 = .ok (.iload_n 1, 1) := by decide +kernel
theorem dL_isBelow_117 : decode cL_isBelow 117 = .ok (.iload_n 2, 1) := by decide +kernel
theorem dL_isBelow_118 : decode cL_isBelow 118 = .ok (.iconst 0, 1) := by decide +kernel
theorem dL_isBelow_119 : decode cL_isBelow 119 = .ok (.iconst 0, 1) := by decide +kernel
theorem dL_isBelow_120 : decode cL_isBelow 120 = .ok (.invokestatic 80, 3) := by decide +kernel
theorem dL_isBelow_123 : decode cL_isBelow 123 = .ok (.istore 5, 2) := by decide +kernel
theorem dL_isBelow_125 : decode cL_isBelow 125 = .ok (.iload_n 2, 1) := by decide +kernel
theorem dL_isBelow_126 : decode cL_isBelow 126 = .ok (.iload_n 1, 1) := by decide +kernel
theorem dL_isBelow_127 : decode cL_isBelow 127 = .ok (.if_icmp .eq 11, 3) := by decide +kernel
theorem dL_isBelow_130 : decode cL_isBelow 130 = .ok (.iload_n 3, 1) := by decide +kernel
theorem dL_isBelow_131 : decode cL_isBelow 131 = .ok (.iload_n 2, 1) := by decide +kernel
theorem dL_isBelow_132 : decode cL_isBelow 132 = .ok (.ishr, 1) := by decide +kernel
theorem dL_isBelow_133 : decode cL_isBelow 133 = .ok (.iconst 1, 1) := by decide +kernel
theorem dL_isBelow_134 : decode cL_isBelow 134 = .ok (.iand, 1) := by decide +kernel
theorem dL_isBelow_135 : decode cL_isBelow 135 = .ok (.ifCond .ne 21, 3) := by decide +kernel
theorem dL_isBelow_138 : decode cL_isBelow 138 = .ok (.iload 4, 2) := by decide +kernel
theorem dL_isBelow_140 : decode cL_isBelow 140 = .ok (.ifCond .eq 14, 3) := by decide +kernel
theorem dL_isBelow_143 : decode cL_isBelow 143 = .ok (.iload 5, 2) := by decide +kernel
theorem dL_isBelow_145 : decode cL_isBelow 145 = .ok (.bipush (-10), 2) := by decide +kernel
theorem dL_isBelow_147 : decode cL_isBelow 147 = .ok (.if_icmp .ne 7, 3) := by decide +kernel
theorem dL_isBelow_150 : decode cL_isBelow 150 = .ok (.iconst 1, 1) := by decide +kernel
theorem dL_isBelow_151 : decode cL_isBelow 151 = .ok (.goto 4, 3) := by decide +kernel
theorem dL_isBelow_154 : decode cL_isBelow 154 = .ok (.iconst 0, 1) := by decide +kernel
theorem dL_isBelow_155 : decode cL_isBelow 155 = .ok (.ireturn, 1) := by decide +kernel
theorem dL_isBelow_156 : decode cL_isBelow 156 = .ok (.iload 4, 2) := by decide +kernel
theorem dL_isBelow_158 : decode cL_isBelow 158 = .ok (.ifCond .eq 36, 3) := by decide +kernel
theorem dL_isBelow_161 : decode cL_isBelow 161 = .ok (.iload 5, 2) := by decide +kernel
theorem dL_isBelow_163 : decode cL_isBelow 163 = .ok (.ifCond .lt 31, 3) := by decide +kernel
theorem dL_isBelow_166 : decode cL_isBelow 166 = .ok (.aload_n 0, 1) := by decide +kernel
theorem dL_isBelow_167 : decode cL_isBelow 167 = .ok (.iload 5, 2) := by decide +kernel
theorem dL_isBelow_169 : decode cL_isBelow 169 = .ok (.invokevirtual 51, 3) := by decide +kernel
theorem dL_isBelow_172 : decode cL_isBelow 172 = .ok (.iload_n 1, 1) := by decide +kernel
theorem dL_isBelow_173 : decode cL_isBelow 173 = .ok (.if_icmp .ne 21, 3) := by decide +kernel
theorem dL_isBelow_176 : decode cL_isBelow 176 = .ok (.aload_n 0, 1) := by decide +kernel
theorem dL_isBelow_177 : decode cL_isBelow 177 = .ok (.iload 5, 2) := by decide +kernel
theorem dL_isBelow_179 : decode cL_isBelow 179 = .ok (.invokevirtual 69, 3) := by decide +kernel
theorem dL_isBelow_182 : decode cL_isBelow 182 = .ok (.iload_n 2, 1) := by decide +kernel
theorem dL_isBelow_183 : decode cL_isBelow 183 = .ok (.ishr, 1) := by decide +kernel
theorem dL_isBelow_184 : decode cL_isBelow 184 = .ok (.iconst 1, 1) := by decide +kernel
theorem dL_isBelow_185 : decode cL_isBelow 185 = .ok (.iand, 1) := by decide +kernel
theorem dL_isBelow_186 : decode cL_isBelow 186 = .ok (.iconst 1, 1) := by decide +kernel
theorem dL_isBelow_187 : decode cL_isBelow 187 = .ok (.if_icmp .ne 7, 3) := by decide +kernel
theorem dL_isBelow_190 : decode cL_isBelow 190 = .ok (.iconst 1, 1) := by decide +kernel
theorem dL_isBelow_191 : decode cL_isBelow 191 = .ok (.goto 4, 3) := by decide +kernel
theorem dL_isBelow_194 : decode cL_isBelow 194 = .ok (.iconst 0, 1) := by decide +kernel
theorem dL_isBelow_195 : decode cL_isBelow 195 = .ok (.ireturn, 1) := by decide +kernel
set_option maxRecDepth 20000 in
theorem ggL_isSo_X0_time : GoodIn wsL_isSo wsX0_time := goodIn_r _ [5, 6, 214, 215, 216, 217, 218, 219, 220, 221, 222, 223, 224, 225, 226, 227, 228, 229, 230, 231, 232, 233] (by decide +kernel) (by decide +kernel)
set_option maxRecDepth 20000 in
theorem gL_isSo_X0_time : GoodIn wsL_isSo (wsV RL 83 RX0 yX0_time wsX0_time) := goodIn_app (goodIn_of _ (by decide +kernel)) ggL_isSo_X0_time
set_option maxRecDepth 20000 in
theorem ggL_isSo_L_asks : GoodIn wsL_isSo wsL_asks := goodIn_ca (goodIn_r _ [10, 11, 12, 13, 14, 4, 15, 16, 17, 18, 19, 20, 21, 22, 23, 24, 25, 26, 27, 28, 29, 30, 31, 32, 33, 34, 35, 36, 37, 38, 39, 40, 41, 42, 43, 44, 45, 46, 47, 48, 49, 50, 51, 52, 53, 54, 55, 56, 57, 58, 59, 60, 61, 62, 63, 64, 65, 66, 67, 68, 69, 70, 71, 72, 73, 214, 215, 216, 217, 218, 219, 220, 221, 222, 223, 224, 225, 226, 227, 228, 229, 230, 231, 232, 233] (by decide +kernel) (by decide +kernel)) (goodIn_sub (fun _ h => List.mem_cons_of_mem _ (List.mem_append_left _ (List.mem_append_left _ (List.mem_append_right _ h)))) (by decide +kernel))
set_option maxRecDepth 20000 in
theorem gL_isSo_L_asks : GoodIn wsL_isSo (va_wsS RL 86 yL_asks wsL_asks) := goodIn_app (goodIn_of _ (by decide +kernel)) ggL_isSo_L_asks
set_option maxRecDepth 20000 in
theorem ggL_isSo_L_isNode : GoodIn wsL_isSo wsL_isNode := goodIn_ca (goodIn_r _ [76, 12, 13, 14, 4, 15, 16, 17, 18, 19, 20, 21, 22, 23, 24, 25, 26, 27, 28, 29, 30, 31, 32, 33, 34, 35, 36, 37, 38, 39, 40, 41, 42, 43, 44, 45, 77, 78, 9, 79, 214, 215, 216, 217, 218, 219, 220, 221, 222, 223, 224, 225, 226, 227, 228, 229, 230, 231, 232, 233] (by decide +kernel) (by decide +kernel)) (goodIn_sub (fun _ h => List.mem_cons_of_mem _ (List.mem_append_left _ (List.mem_append_left _ (List.mem_append_right _ h)))) (by decide +kernel))
set_option maxRecDepth 20000 in
theorem gL_isSo_L_isNode : GoodIn wsL_isSo (va_wsS RL 90 yL_isNode wsL_isNode) := goodIn_app (goodIn_of _ (by decide +kernel)) ggL_isSo_L_isNode
set_option maxRecDepth 20000 in
theorem ggL_isSo_L_isPacket : GoodIn wsL_isSo wsL_isPacket := goodIn_ca (goodIn_r _ [82, 25, 26, 27, 4, 28, 29, 17, 18, 19, 20, 21, 22, 23, 24, 12, 13, 14, 15, 16, 61, 62, 63, 64, 51, 65, 83, 84, 85, 86, 214, 215, 216, 217, 218, 219, 220, 221, 222, 223, 224, 225, 226, 227, 228, 229, 230, 231, 232, 233] (by decide +kernel) (by decide +kernel)) (goodIn_sub (fun _ h => List.mem_cons_of_mem _ (List.mem_append_left _ (List.mem_append_left _ (List.mem_append_right _ h)))) (by decide +kernel))
set_option maxRecDepth 20000 in
theorem gL_isSo_L_isPacket : GoodIn wsL_isSo (va_wsS RL 94 yL_isPacket wsL_isPacket) := goodIn_app (goodIn_of _ (by decide +kernel)) ggL_isSo_L_isPacket
set_option maxRecDepth 20000 in
theorem ggL_isSo_L_isBelow : GoodIn wsL_isSo wsL_isBelow := goodIn_ca (goodIn_ca (goodIn_ca (goodIn_r _ [89, 66, 67, 68, 4, 69, 17, 18, 19, 20, 21, 22, 23, 24, 70, 71, 72, 73, 29, 25, 26, 27, 28, 90, 91, 9, 92, 11, 93, 94, 95, 96, 97, 98, 99, 100, 101, 102, 103, 104, 105, 106, 107, 108, 109, 110, 111, 112, 113, 114, 51, 115, 116, 117, 118, 119, 120, 121, 122, 123, 124, 34, 35, 16, 125, 126, 127, 128, 129, 130, 40, 6, 131, 132, 133, 134, 135, 136, 137, 138, 139, 140, 141, 142, 45, 56, 143, 144, 145, 146, 147, 148, 149, 150, 151, 152, 153, 154, 155, 156, 157, 158, 159, 160, 161, 162, 163, 164, 165, 166, 167, 168, 169, 170, 171, 172, 57, 58, 59, 60, 173, 174, 175, 176, 177, 178, 179, 180, 181, 182, 183, 184, 185, 186, 187, 188, 189, 190, 191, 192, 193, 194, 195, 196, 197, 198, 199, 200, 201, 202, 203, 204, 205, 206, 207, 208, 209, 210, 211, 212, 213, 214, 215, 216, 217, 218, 219, 220, 221, 222, 223, 224, 225, 226, 227, 228, 229, 230, 231, 232, 233] (by decide +kernel) (by decide +kernel)) (goodIn_sub (fun _ h => List.mem_cons_of_mem _ (List.mem_append_left _ (List.mem_append_left _ (List.mem_append_right _ h)))) (by decide +kernel))) (goodIn_sub (fun _ h => List.mem_cons_of_mem _ (List.mem_append_left _ (List.mem_append_right _ h))) (by decide +kernel))) (goodIn_sub (fun _ h => List.mem_cons_of_mem _ (List.mem_append_right _ h)) (by decide +kernel))
set_option maxRecDepth 20000 in
theorem gL_isSo_L_isBelow : GoodIn wsL_isSo (va_wsS RL 98 yL_isBelow wsL_isBelow) := goodIn_app (goodIn_of _ (by decide +kernel)) ggL_isSo_L_isBelow
theorem dL_isSo_0 : decode cL_isSo 0 = .ok (.aload_n 0, 1) := by decide +kernel
theorem dL_isSo_1 : decode cL_isSo 1 = .ok (.invokevirtual 83, 3) := by decide +kernel
theorem dL_isSo_4 : decode cL_isSo 4 = .ok (.aload_n 3, 1) := by decide +kernel
theorem dL_isSo_5 : decode cL_isSo 5 = .ok (.iconst 0, 1) := by decide +kernel
theorem dL_isSo_6 : decode cL_isSo 6 = .ok (.iaload, 1) := by decide +kernel
theorem dL_isSo_7 : decode cL_isSo 7 = .ok (.if_icmp .ne 109, 3) := by decide +kernel
theorem dL_isSo_10 : decode cL_isSo 10 = .ok (.aload_n 0, 1) := by decide +kernel
theorem dL_isSo_11 : decode cL_isSo 11 = .ok (.iconst 0, 1) := by decide +kernel
theorem dL_isSo_12 : decode cL_isSo 12 = .ok (.bipush 10, 2) := by decide +kernel
theorem dL_isSo_14 : decode cL_isSo 14 = .ok (.iconst 0, 1) := by decide +kernel
theorem dL_isSo_15 : decode cL_isSo 15 = .ok (.invokestatic 86, 3) := by decide +kernel
theorem dL_isSo_18 : decode cL_isSo 18 = .ok (.bipush (-30), 2) := by decide +kernel
theorem dL_isSo_20 : decode cL_isSo 20 = .ok (.if_icmp .ne 96, 3) := by decide +kernel
theorem dL_isSo_23 : decode cL_isSo 23 = .ok (.aload_n 0, 1) := by decide +kernel
theorem dL_isSo_24 : decode cL_isSo 24 = .ok (.iconst 1, 1) := by decide +kernel
theorem dL_isSo_25 : decode cL_isSo 25 = .ok (.iconst (-1), 1) := by decide +kernel
theorem dL_isSo_26 : decode cL_isSo 26 = .ok (.iconst 0, 1) := by decide +kernel
theorem dL_isSo_27 : decode cL_isSo 27 = .ok (.invokestatic 86, 3) := by decide +kernel
theorem dL_isSo_30 : decode cL_isSo 30 = .ok (.bipush (-30), 2) := by decide +kernel
theorem dL_isSo_32 : decode cL_isSo 32 = .ok (.if_icmp .ne 84, 3) := by decide +kernel
theorem dL_isSo_35 : decode cL_isSo 35 = .ok (.aload_n 0, 1) := by decide +kernel
theorem dL_isSo_36 : decode cL_isSo 36 = .ok (.iconst 2, 1) := by decide +kernel
theorem dL_isSo_37 : decode cL_isSo 37 = .ok (.bipush 10, 2) := by decide +kernel
theorem dL_isSo_39 : decode cL_isSo 39 = .ok (.iconst 0, 1) := by decide +kernel
theorem dL_isSo_40 : decode cL_isSo 40 = .ok (.invokestatic 86, 3) := by decide +kernel
theorem dL_isSo_43 : decode cL_isSo 43 = .ok (.bipush (-30), 2) := by decide +kernel
theorem dL_isSo_45 : decode cL_isSo 45 = .ok (.if_icmp .ne 71, 3) := by decide +kernel
theorem dL_isSo_48 : decode cL_isSo 48 = .ok (.aload_n 0, 1) := by decide +kernel
theorem dL_isSo_49 : decode cL_isSo 49 = .ok (.iconst 3, 1) := by decide +kernel
theorem dL_isSo_50 : decode cL_isSo 50 = .ok (.iconst (-1), 1) := by decide +kernel
theorem dL_isSo_51 : decode cL_isSo 51 = .ok (.iconst 0, 1) := by decide +kernel
theorem dL_isSo_52 : decode cL_isSo 52 = .ok (.invokestatic 86, 3) := by decide +kernel
theorem dL_isSo_55 : decode cL_isSo 55 = .ok (.bipush (-30), 2) := by decide +kernel
theorem dL_isSo_57 : decode cL_isSo 57 = .ok (.if_icmp .ne 59, 3) := by decide +kernel
theorem dL_isSo_60 : decode cL_isSo 60 = .ok (.aload_n 0, 1) := by decide +kernel
theorem dL_isSo_61 : decode cL_isSo 61 = .ok (.iconst 4, 1) := by decide +kernel
theorem dL_isSo_62 : decode cL_isSo 62 = .ok (.iconst 0, 1) := by decide +kernel
theorem dL_isSo_63 : decode cL_isSo 63 = .ok (.bipush 10, 2) := by decide +kernel
theorem dL_isSo_65 : decode cL_isSo 65 = .ok (.invokestatic 86, 3) := by decide +kernel
theorem dL_isSo_68 : decode cL_isSo 68 = .ok (.bipush (-30), 2) := by decide +kernel
theorem dL_isSo_70 : decode cL_isSo 70 = .ok (.if_icmp .ne 46, 3) := by decide +kernel
theorem dL_isSo_73 : decode cL_isSo 73 = .ok (.aload_n 0, 1) := by decide +kernel
theorem dL_isSo_74 : decode cL_isSo 74 = .ok (.iconst 5, 1) := by decide +kernel
theorem dL_isSo_75 : decode cL_isSo 75 = .ok (.iconst (-1), 1) := by decide +kernel
theorem dL_isSo_76 : decode cL_isSo 76 = .ok (.iconst 0, 1) := by decide +kernel
theorem dL_isSo_77 : decode cL_isSo 77 = .ok (.invokestatic 86, 3) := by decide +kernel
theorem dL_isSo_80 : decode cL_isSo 80 = .ok (.bipush (-30), 2) := by decide +kernel
theorem dL_isSo_82 : decode cL_isSo 82 = .ok (.if_icmp .ne 34, 3) := by decide +kernel
theorem dL_isSo_85 : decode cL_isSo 85 = .ok (.aload_n 0, 1) := by decide +kernel
theorem dL_isSo_86 : decode cL_isSo 86 = .ok (.bipush 6, 2) := by decide +kernel
theorem dL_isSo_88 : decode cL_isSo 88 = .ok (.bipush 10, 2) := by decide +kernel
theorem dL_isSo_90 : decode cL_isSo 90 = .ok (.iconst 0, 1) := by decide +kernel
theorem dL_isSo_91 : decode cL_isSo 91 = .ok (.invokestatic 86, 3) := by decide +kernel
theorem dL_isSo_94 : decode cL_isSo 94 = .ok (.bipush (-30), 2) := by decide +kernel
theorem dL_isSo_96 : decode cL_isSo 96 = .ok (.if_icmp .ne 20, 3) := by decide +kernel
theorem dL_isSo_99 : decode cL_isSo 99 = .ok (.aload_n 0, 1) := by decide +kernel
theorem dL_isSo_100 : decode cL_isSo 100 = .ok (.bipush 7, 2) := by decide +kernel
theorem dL_isSo_102 : decode cL_isSo 102 = .ok (.iconst (-1), 1) := by decide +kernel
theorem dL_isSo_103 : decode cL_isSo 103 = .ok (.iconst 0, 1) := by decide +kernel
theorem dL_isSo_104 : decode cL_isSo 104 = .ok (.invokestatic 86, 3) := by decide +kernel
theorem dL_isSo_107 : decode cL_isSo 107 = .ok (.bipush (-30), 2) := by decide +kernel
theorem dL_isSo_109 : decode cL_isSo 109 = .ok (.if_icmp .ne 7, 3) := by decide +kernel
theorem dL_isSo_112 : decode cL_isSo 112 = .ok (.iconst 1, 1) := by decide +kernel
theorem dL_isSo_113 : decode cL_isSo 113 = .ok (.goto 4, 3) := by decide +kernel
theorem dL_isSo_116 : decode cL_isSo 116 = .ok (.iconst 0, 1) := by decide +kernel
theorem dL_isSo_117 : decode cL_isSo 117 = .ok (.istore 6, 2) := by decide +kernel
theorem dL_isSo_119 : decode cL_isSo 119 = .ok (.iconst 0, 1) := by decide +kernel
theorem dL_isSo_120 : decode cL_isSo 120 = .ok (.istore 7, 2) := by decide +kernel
theorem dL_isSo_122 : decode cL_isSo 122 = .ok (.iload 7, 2) := by decide +kernel
theorem dL_isSo_124 : decode cL_isSo 124 = .ok (.bipush 10, 2) := by decide +kernel
theorem dL_isSo_126 : decode cL_isSo 126 = .ok (.if_icmp .ge 25, 3) := by decide +kernel
theorem dL_isSo_129 : decode cL_isSo 129 = .ok (.iload 6, 2) := by decide +kernel
theorem dL_isSo_131 : decode cL_isSo 131 = .ok (.ifCond .eq 20, 3) := by decide +kernel
theorem dL_isSo_134 : decode cL_isSo 134 = .ok (.aload_n 0, 1) := by decide +kernel
theorem dL_isSo_135 : decode cL_isSo 135 = .ok (.aload_n 1, 1) := by decide +kernel
theorem dL_isSo_136 : decode cL_isSo 136 = .ok (.aload_n 2, 1) := by decide +kernel
theorem dL_isSo_137 : decode cL_isSo 137 = .ok (.aload_n 3, 1) := by decide +kernel
theorem dL_isSo_138 : decode cL_isSo 138 = .ok (.iload 7, 2) := by decide +kernel
theorem dL_isSo_140 : decode cL_isSo 140 = .ok (.invokestatic 90, 3) := by decide +kernel
theorem dL_isSo_143 : decode cL_isSo 143 = .ok (.istore 6, 2) := by decide +kernel
theorem dL_isSo_145 : decode cL_isSo 145 = .ok (.iinc 7 1, 3) := by decide +kernel
theorem dL_isSo_148 : decode cL_isSo 148 = .ok (.goto (-26), 3) := by decide +kernel
theorem dL_isSo_151 : decode cL_isSo 151 = .ok (.iload 6, 2) := by decide +kernel
theorem dL_isSo_153 : decode cL_isSo 153 = .ok (.ifCond .eq 29, 3) := by decide +kernel
theorem dL_isSo_156 : decode cL_isSo 156 = .ok (.aload_n 0, 1) := by decide +kernel
theorem dL_isSo_157 : decode cL_isSo 157 = .ok (.aload_n 2, 1) := by decide +kernel
theorem dL_isSo_158 : decode cL_isSo 158 = .ok (.aload_n 3, 1) := by decide +kernel
theorem dL_isSo_159 : decode cL_isSo 159 = .ok (.iload 4, 2) := by decide +kernel
theorem dL_isSo_161 : decode cL_isSo 161 = .ok (.invokestatic 94, 3) := by decide +kernel
theorem dL_isSo_164 : decode cL_isSo 164 = .ok (.ifCond .eq 18, 3) := by decide +kernel
theorem dL_isSo_167 : decode cL_isSo 167 = .ok (.aload_n 0, 1) := by decide +kernel
theorem dL_isSo_168 : decode cL_isSo 168 = .ok (.iload 4, 2) := by decide +kernel
theorem dL_isSo_170 : decode cL_isSo 170 = .ok (.iload 5, 2) := by decide +kernel
theorem dL_isSo_172 : decode cL_isSo 172 = .ok (.invokestatic 98, 3) := by decide +kernel
theorem dL_isSo_175 : decode cL_isSo 175 = .ok (.ifCond .eq 7, 3) := by decide +kernel
theorem dL_isSo_178 : decode cL_isSo 178 = .ok (.iconst 1, 1) := by decide +kernel
theorem dL_isSo_179 : decode cL_isSo 179 = .ok (.goto 4, 3) := by decide +kernel
theorem dL_isSo_182 : decode cL_isSo 182 = .ok (.iconst 0, 1) := by decide +kernel
theorem dL_isSo_183 : decode cL_isSo 183 = .ok (.ireturn, 1) := by decide +kernel
set_option maxRecDepth 20000 in
theorem ggL_isLink_L_cost : GoodIn wsL_isLink wsL_cost := goodIn_r _ [4] (by decide +kernel) (by decide +kernel)
set_option maxRecDepth 20000 in
theorem gL_isLink_L_cost : GoodIn wsL_isLink (va_wsS RL 72 yL_cost wsL_cost) := goodIn_app (goodIn_of _ (by decide +kernel)) ggL_isLink_L_cost
set_option maxRecDepth 20000 in
theorem ggL_isLink_L_does : GoodIn wsL_isLink wsL_does := goodIn_ca (goodIn_ca (goodIn_ca (goodIn_r _ [7, 8, 9, 10, 11, 12, 3, 13, 14, 15, 16, 17, 18, 19, 20, 21, 22, 23, 24, 25, 26, 27, 28, 29, 30, 31, 32, 33, 34, 35, 36, 37, 38, 39, 40, 41, 42, 43, 44, 45, 46, 47, 48, 49, 50, 51, 52, 53, 54, 55, 56, 57, 58, 59, 60, 61, 62, 63, 64, 65, 66, 67, 68, 69, 70, 71, 72, 73, 74, 75, 76, 77, 78, 79, 80, 81, 82, 83, 84, 85, 86, 87, 88, 89, 90, 91, 92, 93, 94, 95, 96, 97, 98, 99, 100, 101, 102, 103, 104, 105, 106, 107, 108, 109, 110, 111, 112, 113, 114, 115, 116, 117, 118, 119, 120, 121, 122, 123, 124, 125, 126, 127, 128, 129, 130, 131, 132, 133, 134, 135, 136, 137, 138, 139, 140, 141, 142, 143, 144, 145, 146, 147, 148, 149, 150, 151, 156, 157, 158, 159, 160, 161, 162, 163, 164, 165, 166, 167, 168, 169, 170, 171, 172, 173, 174, 175] (by decide +kernel) (by decide +kernel)) (goodIn_sub (fun _ h => List.mem_cons_of_mem _ (List.mem_append_left _ (List.mem_append_left _ (List.mem_append_right _ h)))) (by decide +kernel))) (goodIn_sub (fun _ h => List.mem_cons_of_mem _ (List.mem_append_left _ (List.mem_append_right _ h))) (by decide +kernel))) (goodIn_sub (fun _ h => List.mem_cons_of_mem _ (List.mem_append_right _ h)) (by decide +kernel))
set_option maxRecDepth 20000 in
theorem gL_isLink_L_does : GoodIn wsL_isLink (va_wsS RL 80 yL_does wsL_does) := goodIn_app (goodIn_of _ (by decide +kernel)) ggL_isLink_L_does
set_option maxRecDepth 20000 in
theorem ggL_isLink_X0_heard : GoodIn wsL_isLink wsX0_heard := goodIn_ca (goodIn_r _ [155, 75, 39, 40, 17, 41, 42, 43, 44, 45, 46, 156, 157, 158, 159, 160, 161, 162, 163, 164, 165, 166, 167, 168, 169, 170, 171, 172, 173, 174, 175] (by decide +kernel) (by decide +kernel)) (goodIn_sub (fun _ h => List.mem_cons_of_mem _ (List.mem_append_right _ h)) (by decide +kernel))
set_option maxRecDepth 20000 in
theorem gL_isLink_X0_heard : GoodIn wsL_isLink (wsV RL 60 RX0 yX0_heard wsX0_heard) := goodIn_app (goodIn_of _ (by decide +kernel)) ggL_isLink_X0_heard
theorem dL_isLink_0 : decode cL_isLink 0 = .ok (.iload_n 2, 1) := by decide +kernel
theorem dL_isLink_1 : decode cL_isLink 1 = .ok (.bipush 9, 2) := by decide +kernel
theorem dL_isLink_3 : decode cL_isLink 3 = .ok (.if_icmp .gt 9, 3) := by decide +kernel
theorem dL_isLink_6 : decode cL_isLink 6 = .ok (.iload_n 3, 1) := by decide +kernel
theorem dL_isLink_7 : decode cL_isLink 7 = .ok (.bipush 9, 2) := by decide +kernel
theorem dL_isLink_9 : decode cL_isLink 9 = .ok (.if_icmp .le 8, 3) := by decide +kernel
theorem dL_isLink_12 : decode cL_isLink 12 = .ok (.bipush (-30), 2) := by decide +kernel
theorem dL_isLink_14 : decode cL_isLink 14 = .ok (.goto 26, 3) := by decide +kernel
theorem dL_isLink_17 : decode cL_isLink 17 = .ok (.iload_n 2, 1) := by decide +kernel
theorem dL_isLink_18 : decode cL_isLink 18 = .ok (.iload_n 3, 1) := by decide +kernel
theorem dL_isLink_19 : decode cL_isLink 19 = .ok (.if_icmp .eq 10, 3) := by decide +kernel
theorem dL_isLink_22 : decode cL_isLink 22 = .ok (.iload 4, 2) := by decide +kernel
theorem dL_isLink_24 : decode cL_isLink 24 = .ok (.bipush 100, 2) := by decide +kernel
theorem dL_isLink_26 : decode cL_isLink 26 = .ok (.if_icmp .le 8, 3) := by decide +kernel
theorem dL_isLink_29 : decode cL_isLink 29 = .ok (.bipush (-20), 2) := by decide +kernel
theorem dL_isLink_31 : decode cL_isLink 31 = .ok (.goto 9, 3) := by decide +kernel
theorem dL_isLink_34 : decode cL_isLink 34 = .ok (.aload_n 1, 1) := by decide +kernel
theorem dL_isLink_35 : decode cL_isLink 35 = .ok (.iload_n 2, 1) := by decide +kernel
theorem dL_isLink_36 : decode cL_isLink 36 = .ok (.iload_n 3, 1) := by decide +kernel
theorem dL_isLink_37 : decode cL_isLink 37 = .ok (.invokestatic 72, 3) := by decide +kernel
theorem dL_isLink_40 : decode cL_isLink 40 = .ok (.istore 5, 2) := by decide +kernel
theorem dL_isLink_42 : decode cL_isLink 42 = .ok (.iload 5, 2) := by decide +kernel
theorem dL_isLink_44 : decode cL_isLink 44 = .ok (.ifCond .lt 23, 3) := by decide +kernel
theorem dL_isLink_47 : decode cL_isLink 47 = .ok (.aload_n 1, 1) := by decide +kernel
theorem dL_isLink_48 : decode cL_isLink 48 = .ok (.bipush 8, 2) := by decide +kernel
theorem dL_isLink_50 : decode cL_isLink 50 = .ok (.iload_n 2, 1) := by decide +kernel
theorem dL_isLink_51 : decode cL_isLink 51 = .ok (.imul, 1) := by decide +kernel
theorem dL_isLink_52 : decode cL_isLink 52 = .ok (.iload_n 3, 1) := by decide +kernel
theorem dL_isLink_53 : decode cL_isLink 53 = .ok (.iadd, 1) := by decide +kernel
theorem dL_isLink_54 : decode cL_isLink 54 = .ok (.iload 4, 2) := by decide +kernel
theorem dL_isLink_56 : decode cL_isLink 56 = .ok (.iastore, 1) := by decide +kernel
theorem dL_isLink_57 : decode cL_isLink 57 = .ok (.aload_n 1, 1) := by decide +kernel
theorem dL_isLink_58 : decode cL_isLink 58 = .ok (.bipush 8, 2) := by decide +kernel
theorem dL_isLink_60 : decode cL_isLink 60 = .ok (.iload_n 3, 1) := by decide +kernel
theorem dL_isLink_61 : decode cL_isLink 61 = .ok (.imul, 1) := by decide +kernel
theorem dL_isLink_62 : decode cL_isLink 62 = .ok (.iload_n 2, 1) := by decide +kernel
theorem dL_isLink_63 : decode cL_isLink 63 = .ok (.iadd, 1) := by decide +kernel
theorem dL_isLink_64 : decode cL_isLink 64 = .ok (.iload 4, 2) := by decide +kernel
theorem dL_isLink_66 : decode cL_isLink 66 = .ok (.iastore, 1) := by decide +kernel
end
section
theorem dL_isLink_67 : decode cL_isLink 67 = .ok (.aload_n 0, 1) := by decide +kernel
theorem dL_isLink_68 : decode cL_isLink 68 = .ok (.iconst 2, 1) := by decide +kernel
theorem dL_isLink_69 : decode cL_isLink 69 = .ok (.iload_n 2, 1) := by decide +kernel
theorem dL_isLink_70 : decode cL_isLink 70 = .ok (.iload_n 3, 1) := by decide +kernel
theorem dL_isLink_71 : decode cL_isLink 71 = .ok (.iload 4, 2) := by decide +kernel
theorem dL_isLink_73 : decode cL_isLink 73 = .ok (.iconst 0, 1) := by decide +kernel
theorem dL_isLink_74 : decode cL_isLink 74 = .ok (.invokestatic 80, 3) := by decide +kernel
theorem dL_isLink_77 : decode cL_isLink 77 = .ok (.iload 5, 2) := by decide +kernel
theorem dL_isLink_79 : decode cL_isLink 79 = .ok (.if_icmp .ne 37, 3) := by decide +kernel
theorem dL_isLink_82 : decode cL_isLink 82 = .ok (.iload 5, 2) := by decide +kernel
theorem dL_isLink_84 : decode cL_isLink 84 = .ok (.ifCond .lt 28, 3) := by decide +kernel
theorem dL_isLink_87 : decode cL_isLink 87 = .ok (.iload 4, 2) := by decide +kernel
theorem dL_isLink_89 : decode cL_isLink 89 = .ok (.ifCond .gt 23, 3) := by decide +kernel
theorem dL_isLink_92 : decode cL_isLink 92 = .ok (.aload_n 0, 1) := by decide +kernel
theorem dL_isLink_93 : decode cL_isLink 93 = .ok (.iload_n 2, 1) := by decide +kernel
theorem dL_isLink_94 : decode cL_isLink 94 = .ok (.iload_n 3, 1) := by decide +kernel
theorem dL_isLink_95 : decode cL_isLink 95 = .ok (.invokevirtual 60, 3) := by decide +kernel
theorem dL_isLink_98 : decode cL_isLink 98 = .ok (.iconst (-1), 1) := by decide +kernel
theorem dL_isLink_99 : decode cL_isLink 99 = .ok (.if_icmp .ne 17, 3) := by decide +kernel
theorem dL_isLink_102 : decode cL_isLink 102 = .ok (.aload_n 0, 1) := by decide +kernel
theorem dL_isLink_103 : decode cL_isLink 103 = .ok (.iload_n 3, 1) := by decide +kernel
theorem dL_isLink_104 : decode cL_isLink 104 = .ok (.iload_n 2, 1) := by decide +kernel
theorem dL_isLink_105 : decode cL_isLink 105 = .ok (.invokevirtual 60, 3) := by decide +kernel
theorem dL_isLink_108 : decode cL_isLink 108 = .ok (.iconst (-1), 1) := by decide +kernel
theorem dL_isLink_109 : decode cL_isLink 109 = .ok (.if_icmp .ne 7, 3) := by decide +kernel
theorem dL_isLink_112 : decode cL_isLink 112 = .ok (.iconst 1, 1) := by decide +kernel
theorem dL_isLink_113 : decode cL_isLink 113 = .ok (.goto 4, 3) := by decide +kernel
theorem dL_isLink_116 : decode cL_isLink 116 = .ok (.iconst 0, 1) := by decide +kernel
theorem dL_isLink_117 : decode cL_isLink 117 = .ok (.ireturn, 1) := by decide +kernel
set_option maxRecDepth 20000 in
theorem ggL_isRoot_L_does : GoodIn wsL_isRoot wsL_does := goodIn_ca (goodIn_ca (goodIn_ca (goodIn_r _ [4, 5, 6, 7, 8, 9, 3, 10, 11, 12, 13, 14, 15, 16, 17, 18, 19, 20, 21, 22, 23, 24, 25, 26, 27, 28, 29, 30, 31, 32, 33, 34, 35, 36, 37, 38, 39, 40, 41, 42, 43, 44, 45, 46, 47, 48, 49, 50, 51, 52, 53, 54, 55, 56, 57, 58, 59, 60, 61, 62, 63, 64, 65, 66, 67, 68, 69, 70, 71, 72, 73, 74, 75, 76, 77, 78, 79, 80, 81, 82, 83, 84, 85, 86, 87, 88, 89, 90, 91, 92, 93, 94, 95, 96, 97, 98, 99, 100, 101, 102, 103, 104, 105, 106, 107, 108, 109, 110, 111, 112, 113, 114, 115, 116, 117, 118, 119, 120, 121, 122, 123, 124, 125, 126, 127, 128, 129, 130, 131, 132, 133, 134, 135, 136, 137, 138, 139, 140, 141, 142, 143, 144, 145, 146, 147, 148, 153, 154, 155, 156, 157, 158, 159, 160, 161, 162, 163, 164, 165, 166, 167, 168, 169, 170, 171, 172] (by decide +kernel) (by decide +kernel)) (goodIn_sub (fun _ h => List.mem_cons_of_mem _ (List.mem_append_left _ (List.mem_append_left _ (List.mem_append_right _ h)))) (by decide +kernel))) (goodIn_sub (fun _ h => List.mem_cons_of_mem _ (List.mem_append_left _ (List.mem_append_right _ h))) (by decide +kernel))) (goodIn_sub (fun _ h => List.mem_cons_of_mem _ (List.mem_append_right _ h)) (by decide +kernel))
set_option maxRecDepth 20000 in
theorem gL_isRoot_L_does : GoodIn wsL_isRoot (va_wsS RL 80 yL_does wsL_does) := goodIn_app (goodIn_of _ (by decide +kernel)) ggL_isRoot_L_does
set_option maxRecDepth 20000 in
theorem ggL_isRoot_X0_nextTelling : GoodIn wsL_isRoot wsX0_nextTelling := goodIn_ca (goodIn_r _ [152, 58, 36, 37, 14, 38, 39, 40, 41, 42, 43, 153, 154, 155, 156, 157, 158, 159, 160, 161, 162, 163, 164, 165, 166, 167, 168, 169, 170, 171, 172] (by decide +kernel) (by decide +kernel)) (goodIn_sub (fun _ h => List.mem_cons_of_mem _ (List.mem_append_right _ h)) (by decide +kernel))
set_option maxRecDepth 20000 in
theorem gL_isRoot_X0_nextTelling : GoodIn wsL_isRoot (wsV RL 57 RX0 yX0_nextTelling wsX0_nextTelling) := goodIn_app (goodIn_of _ (by decide +kernel)) ggL_isRoot_X0_nextTelling
theorem dL_isRoot_0 : decode cL_isRoot 0 = .ok (.iload 4, 2) := by decide +kernel
theorem dL_isRoot_2 : decode cL_isRoot 2 = .ok (.bipush 10, 2) := by decide +kernel
theorem dL_isRoot_4 : decode cL_isRoot 4 = .ok (.if_icmp .ge 7, 3) := by decide +kernel
theorem dL_isRoot_7 : decode cL_isRoot 7 = .ok (.iconst 1, 1) := by decide +kernel
theorem dL_isRoot_8 : decode cL_isRoot 8 = .ok (.goto 4, 3) := by decide +kernel
theorem dL_isRoot_11 : decode cL_isRoot 11 = .ok (.iconst 0, 1) := by decide +kernel
theorem dL_isRoot_12 : decode cL_isRoot 12 = .ok (.istore 5, 2) := by decide +kernel
theorem dL_isRoot_14 : decode cL_isRoot 14 = .ok (.iload 5, 2) := by decide +kernel
theorem dL_isRoot_16 : decode cL_isRoot 16 = .ok (.ifCond .eq 15, 3) := by decide +kernel
theorem dL_isRoot_19 : decode cL_isRoot 19 = .ok (.aload_n 1, 1) := by decide +kernel
theorem dL_isRoot_20 : decode cL_isRoot 20 = .ok (.iload 4, 2) := by decide +kernel
theorem dL_isRoot_22 : decode cL_isRoot 22 = .ok (.iaload, 1) := by decide +kernel
theorem dL_isRoot_23 : decode cL_isRoot 23 = .ok (.iconst 1, 1) := by decide +kernel
theorem dL_isRoot_24 : decode cL_isRoot 24 = .ok (.if_icmp .ne 7, 3) := by decide +kernel
theorem dL_isRoot_27 : decode cL_isRoot 27 = .ok (.iconst 1, 1) := by decide +kernel
theorem dL_isRoot_28 : decode cL_isRoot 28 = .ok (.goto 4, 3) := by decide +kernel
theorem dL_isRoot_31 : decode cL_isRoot 31 = .ok (.iconst 0, 1) := by decide +kernel
theorem dL_isRoot_32 : decode cL_isRoot 32 = .ok (.istore 6, 2) := by decide +kernel
theorem dL_isRoot_34 : decode cL_isRoot 34 = .ok (.iload_n 3, 1) := by decide +kernel
theorem dL_isRoot_35 : decode cL_isRoot 35 = .ok (.iconst 3, 1) := by decide +kernel
theorem dL_isRoot_36 : decode cL_isRoot 36 = .ok (.if_icmp .ne 97, 3) := by decide +kernel
theorem dL_isRoot_39 : decode cL_isRoot 39 = .ok (.iload 5, 2) := by decide +kernel
theorem dL_isRoot_41 : decode cL_isRoot 41 = .ok (.ifCond .ne 8, 3) := by decide +kernel
theorem dL_isRoot_44 : decode cL_isRoot 44 = .ok (.bipush (-30), 2) := by decide +kernel
theorem dL_isRoot_46 : decode cL_isRoot 46 = .ok (.goto 22, 3) := by decide +kernel
theorem dL_isRoot_49 : decode cL_isRoot 49 = .ok (.iload 6, 2) := by decide +kernel
theorem dL_isRoot_51 : decode cL_isRoot 51 = .ok (.ifCond .eq 8, 3) := by decide +kernel
theorem dL_isRoot_54 : decode cL_isRoot 54 = .ok (.bipush (-10), 2) := by decide +kernel
theorem dL_isRoot_56 : decode cL_isRoot 56 = .ok (.goto 12, 3) := by decide +kernel
theorem dL_isRoot_59 : decode cL_isRoot 59 = .ok (.aload_n 1, 1) := by decide +kernel
theorem dL_isRoot_60 : decode cL_isRoot 60 = .ok (.bipush 10, 2) := by decide +kernel
theorem dL_isRoot_62 : decode cL_isRoot 62 = .ok (.iload 4, 2) := by decide +kernel
theorem dL_isRoot_64 : decode cL_isRoot 64 = .ok (.iadd, 1) := by decide +kernel
theorem dL_isRoot_65 : decode cL_isRoot 65 = .ok (.iaload, 1) := by decide +kernel
theorem dL_isRoot_66 : decode cL_isRoot 66 = .ok (.iconst 1, 1) := by decide +kernel
theorem dL_isRoot_67 : decode cL_isRoot 67 = .ok (.iadd, 1) := by decide +kernel
theorem dL_isRoot_68 : decode cL_isRoot 68 = .ok (.istore 7, 2) := by decide +kernel
theorem dL_isRoot_70 : decode cL_isRoot 70 = .ok (.iload 7, 2) := by decide +kernel
theorem dL_isRoot_72 : decode cL_isRoot 72 = .ok (.ifCond .le 19, 3) := by decide +kernel
theorem dL_isRoot_75 : decode cL_isRoot 75 = .ok (.aload_n 1, 1) := by decide +kernel
theorem dL_isRoot_76 : decode cL_isRoot 76 = .ok (.iload 4, 2) := by decide +kernel
theorem dL_isRoot_78 : decode cL_isRoot 78 = .ok (.iconst 1, 1) := by decide +kernel
theorem dL_isRoot_79 : decode cL_isRoot 79 = .ok (.iastore, 1) := by decide +kernel
theorem dL_isRoot_80 : decode cL_isRoot 80 = .ok (.aload_n 1, 1) := by decide +kernel
theorem dL_isRoot_81 : decode cL_isRoot 81 = .ok (.bipush 10, 2) := by decide +kernel
theorem dL_isRoot_83 : decode cL_isRoot 83 = .ok (.iload 4, 2) := by decide +kernel
theorem dL_isRoot_85 : decode cL_isRoot 85 = .ok (.iadd, 1) := by decide +kernel
theorem dL_isRoot_86 : decode cL_isRoot 86 = .ok (.dup2, 1) := by decide +kernel
theorem dL_isRoot_87 : decode cL_isRoot 87 = .ok (.iaload, 1) := by decide +kernel
theorem dL_isRoot_88 : decode cL_isRoot 88 = .ok (.iconst 1, 1) := by decide +kernel
theorem dL_isRoot_89 : decode cL_isRoot 89 = .ok (.iadd, 1) := by decide +kernel
theorem dL_isRoot_90 : decode cL_isRoot 90 = .ok (.iastore, 1) := by decide +kernel
theorem dL_isRoot_91 : decode cL_isRoot 91 = .ok (.aload_n 0, 1) := by decide +kernel
theorem dL_isRoot_92 : decode cL_isRoot 92 = .ok (.iconst 3, 1) := by decide +kernel
theorem dL_isRoot_93 : decode cL_isRoot 93 = .ok (.iload 4, 2) := by decide +kernel
theorem dL_isRoot_95 : decode cL_isRoot 95 = .ok (.iconst 0, 1) := by decide +kernel
theorem dL_isRoot_96 : decode cL_isRoot 96 = .ok (.iconst 0, 1) := by decide +kernel
theorem dL_isRoot_97 : decode cL_isRoot 97 = .ok (.iconst 0, 1) := by decide +kernel
theorem dL_isRoot_98 : decode cL_isRoot 98 = .ok (.invokestatic 80, 3) := by decide +kernel
theorem dL_isRoot_101 : decode cL_isRoot 101 = .ok (.iload 7, 2) := by decide +kernel
theorem dL_isRoot_103 : decode cL_isRoot 103 = .ok (.if_icmp .ne 28, 3) := by decide +kernel
theorem dL_isRoot_106 : decode cL_isRoot 106 = .ok (.iload 7, 2) := by decide +kernel
theorem dL_isRoot_108 : decode cL_isRoot 108 = .ok (.ifCond .lt 19, 3) := by decide +kernel
theorem dL_isRoot_111 : decode cL_isRoot 111 = .ok (.aload_n 0, 1) := by decide +kernel
theorem dL_isRoot_112 : decode cL_isRoot 112 = .ok (.iload 4, 2) := by decide +kernel
theorem dL_isRoot_114 : decode cL_isRoot 114 = .ok (.invokevirtual 57, 3) := by decide +kernel
theorem dL_isRoot_117 : decode cL_isRoot 117 = .ok (.aload_n 2, 1) := by decide +kernel
theorem dL_isRoot_118 : decode cL_isRoot 118 = .ok (.iconst 0, 1) := by decide +kernel
theorem dL_isRoot_119 : decode cL_isRoot 119 = .ok (.iaload, 1) := by decide +kernel
theorem dL_isRoot_120 : decode cL_isRoot 120 = .ok (.aload_n 2, 1) := by decide +kernel
theorem dL_isRoot_121 : decode cL_isRoot 121 = .ok (.iconst 1, 1) := by decide +kernel
theorem dL_isRoot_122 : decode cL_isRoot 122 = .ok (.iaload, 1) := by decide +kernel
theorem dL_isRoot_123 : decode cL_isRoot 123 = .ok (.iadd, 1) := by decide +kernel
theorem dL_isRoot_124 : decode cL_isRoot 124 = .ok (.if_icmp .ne 7, 3) := by decide +kernel
theorem dL_isRoot_127 : decode cL_isRoot 127 = .ok (.iconst 1, 1) := by decide +kernel
theorem dL_isRoot_128 : decode cL_isRoot 128 = .ok (.goto 4, 3) := by decide +kernel
theorem dL_isRoot_131 : decode cL_isRoot 131 = .ok (.iconst 0, 1) := by decide +kernel
theorem dL_isRoot_132 : decode cL_isRoot 132 = .ok (.ireturn, 1) := by decide +kernel
theorem dL_isRoot_133 : decode cL_isRoot 133 = .ok (.iload_n 3, 1) := by decide +kernel
theorem dL_isRoot_134 : decode cL_isRoot 134 = .ok (.iconst 4, 1) := by decide +kernel
theorem dL_isRoot_135 : decode cL_isRoot 135 = .ok (.if_icmp .ne 92, 3) := by decide +kernel
theorem dL_isRoot_138 : decode cL_isRoot 138 = .ok (.iload 5, 2) := by decide +kernel
theorem dL_isRoot_140 : decode cL_isRoot 140 = .ok (.ifCond .ne 8, 3) := by decide +kernel
theorem dL_isRoot_143 : decode cL_isRoot 143 = .ok (.bipush (-30), 2) := by decide +kernel
theorem dL_isRoot_145 : decode cL_isRoot 145 = .ok (.goto 22, 3) := by decide +kernel
theorem dL_isRoot_148 : decode cL_isRoot 148 = .ok (.iload 6, 2) := by decide +kernel
theorem dL_isRoot_150 : decode cL_isRoot 150 = .ok (.ifCond .eq 15, 3) := by decide +kernel
theorem dL_isRoot_153 : decode cL_isRoot 153 = .ok (.aload_n 1, 1) := by decide +kernel
theorem dL_isRoot_154 : decode cL_isRoot 154 = .ok (.bipush 10, 2) := by decide +kernel
theorem dL_isRoot_156 : decode cL_isRoot 156 = .ok (.iload 4, 2) := by decide +kernel
theorem dL_isRoot_158 : decode cL_isRoot 158 = .ok (.iadd, 1) := by decide +kernel
theorem dL_isRoot_159 : decode cL_isRoot 159 = .ok (.iaload, 1) := by decide +kernel
theorem dL_isRoot_160 : decode cL_isRoot 160 = .ok (.iconst 1, 1) := by decide +kernel
theorem dL_isRoot_161 : decode cL_isRoot 161 = .ok (.iadd, 1) := by decide +kernel
theorem dL_isRoot_162 : decode cL_isRoot 162 = .ok (.goto 5, 3) := by decide +kernel
theorem dL_isRoot_165 : decode cL_isRoot 165 = .ok (.bipush (-10), 2) := by decide +kernel
theorem dL_isRoot_167 : decode cL_isRoot 167 = .ok (.istore 7, 2) := by decide +kernel
theorem dL_isRoot_169 : decode cL_isRoot 169 = .ok (.iload 7, 2) := by decide +kernel
theorem dL_isRoot_171 : decode cL_isRoot 171 = .ok (.ifCond .le 14, 3) := by decide +kernel
theorem dL_isRoot_174 : decode cL_isRoot 174 = .ok (.aload_n 1, 1) := by decide +kernel
theorem dL_isRoot_175 : decode cL_isRoot 175 = .ok (.bipush 10, 2) := by decide +kernel
theorem dL_isRoot_177 : decode cL_isRoot 177 = .ok (.iload 4, 2) := by decide +kernel
theorem dL_isRoot_179 : decode cL_isRoot 179 = .ok (.iadd, 1) := by decide +kernel
theorem dL_isRoot_180 : decode cL_isRoot 180 = .ok (.dup2, 1) := by decide +kernel
theorem dL_isRoot_181 : decode cL_isRoot 181 = .ok (.iaload, 1) := by decide +kernel
theorem dL_isRoot_182 : decode cL_isRoot 182 = .ok (.iconst 1, 1) := by decide +kernel
theorem dL_isRoot_183 : decode cL_isRoot 183 = .ok (.iadd, 1) := by decide +kernel
theorem dL_isRoot_184 : decode cL_isRoot 184 = .ok (.iastore, 1) := by decide +kernel
theorem dL_isRoot_185 : decode cL_isRoot 185 = .ok (.aload_n 0, 1) := by decide +kernel
theorem dL_isRoot_186 : decode cL_isRoot 186 = .ok (.iconst 4, 1) := by decide +kernel
theorem dL_isRoot_187 : decode cL_isRoot 187 = .ok (.iload 4, 2) := by decide +kernel
theorem dL_isRoot_189 : decode cL_isRoot 189 = .ok (.iconst 0, 1) := by decide +kernel
theorem dL_isRoot_190 : decode cL_isRoot 190 = .ok (.iconst 0, 1) := by decide +kernel
theorem dL_isRoot_191 : decode cL_isRoot 191 = .ok (.iconst 0, 1) := by decide +kernel
theorem dL_isRoot_192 : decode cL_isRoot 192 = .ok (.invokestatic 80, 3) := by decide +kernel
theorem dL_isRoot_195 : decode cL_isRoot 195 = .ok (.iload 7, 2) := by decide +kernel
theorem dL_isRoot_197 : decode cL_isRoot 197 = .ok (.if_icmp .ne 28, 3) := by decide +kernel
theorem dL_isRoot_200 : decode cL_isRoot 200 = .ok (.iload 7, 2) := by decide +kernel
theorem dL_isRoot_202 : decode cL_isRoot 202 = .ok (.ifCond .lt 19, 3) := by decide +kernel
theorem dL_isRoot_205 : decode cL_isRoot 205 = .ok (.aload_n 0, 1) := by decide +kernel
theorem dL_isRoot_206 : decode cL_isRoot 206 = .ok (.iload 4, 2) := by decide +kernel
theorem dL_isRoot_208 : decode cL_isRoot 208 = .ok (.invokevirtual 57, 3) := by decide +kernel
theorem dL_isRoot_211 : decode cL_isRoot 211 = .ok (.aload_n 2, 1) := by decide +kernel
theorem dL_isRoot_212 : decode cL_isRoot 212 = .ok (.iconst 0, 1) := by decide +kernel
theorem dL_isRoot_213 : decode cL_isRoot 213 = .ok (.iaload, 1) := by decide +kernel
theorem dL_isRoot_214 : decode cL_isRoot 214 = .ok (.aload_n 2, 1) := by decide +kernel
theorem dL_isRoot_215 : decode cL_isRoot 215 = .ok (.iconst 1, 1) := by decide +kernel
theorem dL_isRoot_216 : decode cL_isRoot 216 = .ok (.iaload, 1) := by decide +kernel
theorem dL_isRoot_217 : decode cL_isRoot 217 = .ok (.iadd, 1) := by decide +kernel
theorem dL_isRoot_218 : decode cL_isRoot 218 = .ok (.if_icmp .ne 7, 3) := by decide +kernel
theorem dL_isRoot_221 : decode cL_isRoot 221 = .ok (.iconst 1, 1) := by decide +kernel
theorem dL_isRoot_222 : decode cL_isRoot 222 = .ok (.goto 4, 3) := by decide +kernel
theorem dL_isRoot_225 : decode cL_isRoot 225 = .ok (.iconst 0, 1) := by decide +kernel
theorem dL_isRoot_226 : decode cL_isRoot 226 = .ok (.ireturn, 1) := by decide +kernel
theorem dL_isRoot_227 : decode cL_isRoot 227 = .ok (.iload 6, 2) := by decide +kernel
theorem dL_isRoot_229 : decode cL_isRoot 229 = .ok (.ifCond .eq 8, 3) := by decide +kernel
theorem dL_isRoot_232 : decode cL_isRoot 232 = .ok (.aload_n 1, 1) := by decide +kernel
theorem dL_isRoot_233 : decode cL_isRoot 233 = .ok (.iload 4, 2) := by decide +kernel
theorem dL_isRoot_235 : decode cL_isRoot 235 = .ok (.iconst 0, 1) := by decide +kernel
theorem dL_isRoot_236 : decode cL_isRoot 236 = .ok (.iastore, 1) := by decide +kernel
theorem dL_isRoot_237 : decode cL_isRoot 237 = .ok (.aload_n 0, 1) := by decide +kernel
theorem dL_isRoot_238 : decode cL_isRoot 238 = .ok (.iconst 1, 1) := by decide +kernel
theorem dL_isRoot_239 : decode cL_isRoot 239 = .ok (.iload 4, 2) := by decide +kernel
theorem dL_isRoot_241 : decode cL_isRoot 241 = .ok (.iconst 0, 1) := by decide +kernel
theorem dL_isRoot_242 : decode cL_isRoot 242 = .ok (.iconst 0, 1) := by decide +kernel
theorem dL_isRoot_243 : decode cL_isRoot 243 = .ok (.iconst 0, 1) := by decide +kernel
theorem dL_isRoot_244 : decode cL_isRoot 244 = .ok (.invokestatic 80, 3) := by decide +kernel
theorem dL_isRoot_247 : decode cL_isRoot 247 = .ok (.iload 5, 2) := by decide +kernel
theorem dL_isRoot_249 : decode cL_isRoot 249 = .ok (.ifCond .ne 8, 3) := by decide +kernel
theorem dL_isRoot_252 : decode cL_isRoot 252 = .ok (.bipush (-30), 2) := by decide +kernel
theorem dL_isRoot_254 : decode cL_isRoot 254 = .ok (.goto 14, 3) := by decide +kernel
theorem dL_isRoot_257 : decode cL_isRoot 257 = .ok (.iload 6, 2) := by decide +kernel
theorem dL_isRoot_259 : decode cL_isRoot 259 = .ok (.ifCond .eq 7, 3) := by decide +kernel
theorem dL_isRoot_262 : decode cL_isRoot 262 = .ok (.iconst 0, 1) := by decide +kernel
theorem dL_isRoot_263 : decode cL_isRoot 263 = .ok (.goto 5, 3) := by decide +kernel
theorem dL_isRoot_266 : decode cL_isRoot 266 = .ok (.bipush (-10), 2) := by decide +kernel
theorem dL_isRoot_268 : decode cL_isRoot 268 = .ok (.if_icmp .ne 28, 3) := by decide +kernel
theorem dL_isRoot_271 : decode cL_isRoot 271 = .ok (.iload 6, 2) := by decide +kernel
theorem dL_isRoot_273 : decode cL_isRoot 273 = .ok (.ifCond .eq 19, 3) := by decide +kernel
theorem dL_isRoot_276 : decode cL_isRoot 276 = .ok (.aload_n 0, 1) := by decide +kernel
theorem dL_isRoot_277 : decode cL_isRoot 277 = .ok (.iload 4, 2) := by decide +kernel
theorem dL_isRoot_279 : decode cL_isRoot 279 = .ok (.invokevirtual 57, 3) := by decide +kernel
theorem dL_isRoot_282 : decode cL_isRoot 282 = .ok (.aload_n 2, 1) := by decide +kernel
theorem dL_isRoot_283 : decode cL_isRoot 283 = .ok (.iconst 0, 1) := by decide +kernel
theorem dL_isRoot_284 : decode cL_isRoot 284 = .ok (.iaload, 1) := by decide +kernel
theorem dL_isRoot_285 : decode cL_isRoot 285 = .ok (.aload_n 2, 1) := by decide +kernel
theorem dL_isRoot_286 : decode cL_isRoot 286 = .ok (.iconst 1, 1) := by decide +kernel
theorem dL_isRoot_287 : decode cL_isRoot 287 = .ok (.iaload, 1) := by decide +kernel
theorem dL_isRoot_288 : decode cL_isRoot 288 = .ok (.iadd, 1) := by decide +kernel
theorem dL_isRoot_289 : decode cL_isRoot 289 = .ok (.if_icmp .ne 7, 3) := by decide +kernel
theorem dL_isRoot_292 : decode cL_isRoot 292 = .ok (.iconst 1, 1) := by decide +kernel
theorem dL_isRoot_293 : decode cL_isRoot 293 = .ok (.goto 4, 3) := by decide +kernel
theorem dL_isRoot_296 : decode cL_isRoot 296 = .ok (.iconst 0, 1) := by decide +kernel
theorem dL_isRoot_297 : decode cL_isRoot 297 = .ok (.ireturn, 1) := by decide +kernel
set_option maxRecDepth 20000 in
theorem ggL_isTick_X0_nextTelling : GoodIn wsL_isTick wsX0_nextTelling := goodIn_ca (goodIn_r _ [5, 6, 7, 8, 4, 9, 10, 11, 12, 13, 14, 112, 113, 114, 115, 116, 117, 118, 119, 120, 121, 122, 123, 124, 125, 126, 127, 128, 129, 130, 131] (by decide +kernel) (by decide +kernel)) (goodIn_sub (fun _ h => List.mem_cons_of_mem _ (List.mem_append_left _ (List.mem_append_right _ h))) (by decide +kernel))
set_option maxRecDepth 20000 in
theorem gL_isTick_X0_nextTelling : GoodIn wsL_isTick (wsV RL 57 RX0 yX0_nextTelling wsX0_nextTelling) := goodIn_app (goodIn_of _ (by decide +kernel)) ggL_isTick_X0_nextTelling
set_option maxRecDepth 20000 in
theorem ggL_isTick_X0_rank : GoodIn wsL_isTick wsX0_rank := goodIn_ca (goodIn_r _ [18, 19, 7, 8, 4, 9, 10, 11, 12, 13, 14, 112, 113, 114, 115, 116, 117, 118, 119, 120, 121, 122, 123, 124, 125, 126, 127, 128, 129, 130, 131] (by decide +kernel) (by decide +kernel)) (goodIn_sub (fun _ h => List.mem_cons_of_mem _ (List.mem_append_left _ (List.mem_append_right _ h))) (by decide +kernel))
set_option maxRecDepth 20000 in
theorem gL_isTick_X0_rank : GoodIn wsL_isTick (wsV RL 48 RX0 yX0_rank wsX0_rank) := goodIn_app (goodIn_of _ (by decide +kernel)) ggL_isTick_X0_rank
set_option maxRecDepth 20000 in
theorem ggL_isTick_X0_pass : GoodIn wsL_isTick wsX0_pass := goodIn_ca (goodIn_r _ [23, 24, 25, 4, 26, 27, 28, 29, 30, 31, 32, 33, 6, 34, 35, 36, 37, 38, 39, 40, 41, 42, 43, 19, 44, 45, 46, 47, 48, 49, 50, 51, 52, 53, 54, 55, 56, 57, 58, 59, 60, 61, 62, 63, 64, 65, 66, 67, 68, 69, 70, 71, 72, 73, 74, 75, 12, 13, 14, 76, 77, 78, 79, 80, 81, 82, 83, 84, 85, 86, 87, 88, 89, 90, 91, 92, 93, 94, 95, 96, 97, 98, 99, 100, 101, 102, 103, 112, 113, 114, 115, 116, 117, 118, 119, 120, 121, 122, 123, 124, 125, 126, 127, 128, 129, 130, 131] (by decide +kernel) (by decide +kernel)) (goodIn_sub (fun _ h => List.mem_cons_of_mem _ (List.mem_append_right _ h)) (by decide +kernel))
set_option maxRecDepth 20000 in
theorem gL_isTick_X0_pass : GoodIn wsL_isTick (wsV RL 35 RX0 yX0_pass wsX0_pass) := goodIn_app (goodIn_of _ (by decide +kernel)) ggL_isTick_X0_pass
set_option maxRecDepth 20000 in
theorem ggL_isTick_L_cost : GoodIn wsL_isTick wsL_cost := goodIn_r _ [107] (by decide +kernel) (by decide +kernel)
set_option maxRecDepth 20000 in
theorem gL_isTick_L_cost : GoodIn wsL_isTick (va_wsS RL 72 yL_cost wsL_cost) := goodIn_app (goodIn_of _ (by decide +kernel)) ggL_isTick_L_cost
set_option maxRecDepth 20000 in
theorem ggL_isTick_X0_heard : GoodIn wsL_isTick wsX0_heard := goodIn_ca (goodIn_r _ [111, 43, 7, 8, 4, 9, 10, 11, 12, 13, 14, 112, 113, 114, 115, 116, 117, 118, 119, 120, 121, 122, 123, 124, 125, 126, 127, 128, 129, 130, 131] (by decide +kernel) (by decide +kernel)) (goodIn_sub (fun _ h => List.mem_cons_of_mem _ (List.mem_append_left _ (List.mem_append_right _ h))) (by decide +kernel))
set_option maxRecDepth 20000 in
theorem gL_isTick_X0_heard : GoodIn wsL_isTick (wsV RL 60 RX0 yX0_heard wsX0_heard) := goodIn_app (goodIn_of _ (by decide +kernel)) ggL_isTick_X0_heard
theorem dL_isTick_0 : decode cL_isTick 0 = .ok (.iconst 0, 1) := by decide +kernel
theorem dL_isTick_1 : decode cL_isTick 1 = .ok (.istore_n 3, 1) := by decide +kernel
theorem dL_isTick_2 : decode cL_isTick 2 = .ok (.bipush 10, 2) := by decide +kernel
theorem dL_isTick_4 : decode cL_isTick 4 = .ok (.istore 4, 2) := by decide +kernel
theorem dL_isTick_6 : decode cL_isTick 6 = .ok (.iconst 0, 1) := by decide +kernel
theorem dL_isTick_7 : decode cL_isTick 7 = .ok (.istore 5, 2) := by decide +kernel
theorem dL_isTick_9 : decode cL_isTick 9 = .ok (.iload 5, 2) := by decide +kernel
theorem dL_isTick_11 : decode cL_isTick 11 = .ok (.bipush 10, 2) := by decide +kernel
theorem dL_isTick_13 : decode cL_isTick 13 = .ok (.if_icmp .ge 64, 3) := by decide +kernel
theorem dL_isTick_16 : decode cL_isTick 16 = .ok (.aload_n 0, 1) := by decide +kernel
theorem dL_isTick_17 : decode cL_isTick 17 = .ok (.iload 5, 2) := by decide +kernel
theorem dL_isTick_19 : decode cL_isTick 19 = .ok (.invokevirtual 57, 3) := by decide +kernel
theorem dL_isTick_22 : decode cL_isTick 22 = .ok (.aload_n 2, 1) := by decide +kernel
theorem dL_isTick_23 : decode cL_isTick 23 = .ok (.iconst 0, 1) := by decide +kernel
theorem dL_isTick_24 : decode cL_isTick 24 = .ok (.iaload, 1) := by decide +kernel
theorem dL_isTick_25 : decode cL_isTick 25 = .ok (.iconst 1, 1) := by decide +kernel
theorem dL_isTick_26 : decode cL_isTick 26 = .ok (.iadd, 1) := by decide +kernel
theorem dL_isTick_27 : decode cL_isTick 27 = .ok (.if_icmp .ne 7, 3) := by decide +kernel
theorem dL_isTick_30 : decode cL_isTick 30 = .ok (.iconst 1, 1) := by decide +kernel
theorem dL_isTick_31 : decode cL_isTick 31 = .ok (.goto 4, 3) := by decide +kernel
theorem dL_isTick_34 : decode cL_isTick 34 = .ok (.iconst 0, 1) := by decide +kernel
theorem dL_isTick_35 : decode cL_isTick 35 = .ok (.istore 6, 2) := by decide +kernel
theorem dL_isTick_37 : decode cL_isTick 37 = .ok (.iload_n 3, 1) := by decide +kernel
theorem dL_isTick_38 : decode cL_isTick 38 = .ok (.iload 6, 2) := by decide +kernel
theorem dL_isTick_40 : decode cL_isTick 40 = .ok (.ifCond .eq 7, 3) := by decide +kernel
theorem dL_isTick_43 : decode cL_isTick 43 = .ok (.iconst 1, 1) := by decide +kernel
theorem dL_isTick_44 : decode cL_isTick 44 = .ok (.goto 4, 3) := by decide +kernel
theorem dL_isTick_47 : decode cL_isTick 47 = .ok (.iconst 0, 1) := by decide +kernel
theorem dL_isTick_48 : decode cL_isTick 48 = .ok (.iadd, 1) := by decide +kernel
theorem dL_isTick_49 : decode cL_isTick 49 = .ok (.istore_n 3, 1) := by decide +kernel
theorem dL_isTick_50 : decode cL_isTick 50 = .ok (.iload 6, 2) := by decide +kernel
theorem dL_isTick_52 : decode cL_isTick 52 = .ok (.ifCond .eq 15, 3) := by decide +kernel
theorem dL_isTick_55 : decode cL_isTick 55 = .ok (.iload 4, 2) := by decide +kernel
theorem dL_isTick_57 : decode cL_isTick 57 = .ok (.bipush 10, 2) := by decide +kernel
theorem dL_isTick_59 : decode cL_isTick 59 = .ok (.if_icmp .ne 8, 3) := by decide +kernel
theorem dL_isTick_62 : decode cL_isTick 62 = .ok (.iload 5, 2) := by decide +kernel
theorem dL_isTick_64 : decode cL_isTick 64 = .ok (.goto 5, 3) := by decide +kernel
theorem dL_isTick_67 : decode cL_isTick 67 = .ok (.iload 4, 2) := by decide +kernel
theorem dL_isTick_69 : decode cL_isTick 69 = .ok (.istore 4, 2) := by decide +kernel
theorem dL_isTick_71 : decode cL_isTick 71 = .ok (.iinc 5 1, 3) := by decide +kernel
theorem dL_isTick_74 : decode cL_isTick 74 = .ok (.goto (-65), 3) := by decide +kernel
theorem dL_isTick_77 : decode cL_isTick 77 = .ok (.aload_n 2, 1) := by decide +kernel
theorem dL_isTick_78 : decode cL_isTick 78 = .ok (.iconst 0, 1) := by decide +kernel
end
section
theorem dL_isTick_79 : decode cL_isTick 79 = .ok (.dup2, 1) := by decide +kernel
theorem dL_isTick_80 : decode cL_isTick 80 = .ok (.iaload, 1) := by decide +kernel
theorem dL_isTick_81 : decode cL_isTick 81 = .ok (.iconst 1, 1) := by decide +kernel
theorem dL_isTick_82 : decode cL_isTick 82 = .ok (.iadd, 1) := by decide +kernel
theorem dL_isTick_83 : decode cL_isTick 83 = .ok (.iastore, 1) := by decide +kernel
theorem dL_isTick_84 : decode cL_isTick 84 = .ok (.iload 4, 2) := by decide +kernel
theorem dL_isTick_86 : decode cL_isTick 86 = .ok (.bipush 10, 2) := by decide +kernel
theorem dL_isTick_88 : decode cL_isTick 88 = .ok (.if_icmp .ge 12, 3) := by decide +kernel
theorem dL_isTick_91 : decode cL_isTick 91 = .ok (.aload_n 0, 1) := by decide +kernel
theorem dL_isTick_92 : decode cL_isTick 92 = .ok (.iload 4, 2) := by decide +kernel
theorem dL_isTick_94 : decode cL_isTick 94 = .ok (.invokevirtual 48, 3) := by decide +kernel
theorem dL_isTick_97 : decode cL_isTick 97 = .ok (.goto 4, 3) := by decide +kernel
theorem dL_isTick_100 : decode cL_isTick 100 = .ok (.iconst 0, 1) := by decide +kernel
theorem dL_isTick_101 : decode cL_isTick 101 = .ok (.istore 5, 2) := by decide +kernel
theorem dL_isTick_103 : decode cL_isTick 103 = .ok (.aload_n 0, 1) := by decide +kernel
theorem dL_isTick_104 : decode cL_isTick 104 = .ok (.iconst 1, 1) := by decide +kernel
theorem dL_isTick_105 : decode cL_isTick 105 = .ok (.invokevirtual 35, 3) := by decide +kernel
theorem dL_isTick_108 : decode cL_isTick 108 = .ok (.istore 6, 2) := by decide +kernel
theorem dL_isTick_110 : decode cL_isTick 110 = .ok (.iload 6, 2) := by decide +kernel
theorem dL_isTick_112 : decode cL_isTick 112 = .ok (.iload_n 3, 1) := by decide +kernel
theorem dL_isTick_113 : decode cL_isTick 113 = .ok (.if_icmp .gt 24, 3) := by decide +kernel
theorem dL_isTick_116 : decode cL_isTick 116 = .ok (.iload_n 3, 1) := by decide +kernel
theorem dL_isTick_117 : decode cL_isTick 117 = .ok (.ifCond .ne 11, 3) := by decide +kernel
theorem dL_isTick_120 : decode cL_isTick 120 = .ok (.iload 6, 2) := by decide +kernel
theorem dL_isTick_122 : decode cL_isTick 122 = .ok (.ifCond .ne 15, 3) := by decide +kernel
theorem dL_isTick_125 : decode cL_isTick 125 = .ok (.goto 8, 3) := by decide +kernel
theorem dL_isTick_128 : decode cL_isTick 128 = .ok (.iload 6, 2) := by decide +kernel
theorem dL_isTick_130 : decode cL_isTick 130 = .ok (.ifCond .le 7, 3) := by decide +kernel
theorem dL_isTick_133 : decode cL_isTick 133 = .ok (.iconst 1, 1) := by decide +kernel
theorem dL_isTick_134 : decode cL_isTick 134 = .ok (.goto 4, 3) := by decide +kernel
theorem dL_isTick_137 : decode cL_isTick 137 = .ok (.iconst 0, 1) := by decide +kernel
theorem dL_isTick_138 : decode cL_isTick 138 = .ok (.istore 7, 2) := by decide +kernel
theorem dL_isTick_140 : decode cL_isTick 140 = .ok (.iconst 0, 1) := by decide +kernel
theorem dL_isTick_141 : decode cL_isTick 141 = .ok (.istore 8, 2) := by decide +kernel
theorem dL_isTick_143 : decode cL_isTick 143 = .ok (.iload 8, 2) := by decide +kernel
theorem dL_isTick_145 : decode cL_isTick 145 = .ok (.bipush 8, 2) := by decide +kernel
theorem dL_isTick_147 : decode cL_isTick 147 = .ok (.if_icmp .ge 52, 3) := by decide +kernel
theorem dL_isTick_150 : decode cL_isTick 150 = .ok (.iload 4, 2) := by decide +kernel
theorem dL_isTick_152 : decode cL_isTick 152 = .ok (.bipush 8, 2) := by decide +kernel
theorem dL_isTick_154 : decode cL_isTick 154 = .ok (.if_icmp .ge 45, 3) := by decide +kernel
theorem dL_isTick_157 : decode cL_isTick 157 = .ok (.iload 7, 2) := by decide +kernel
theorem dL_isTick_159 : decode cL_isTick 159 = .ok (.ifCond .eq 40, 3) := by decide +kernel
theorem dL_isTick_162 : decode cL_isTick 162 = .ok (.aload_n 1, 1) := by decide +kernel
theorem dL_isTick_163 : decode cL_isTick 163 = .ok (.iload 4, 2) := by decide +kernel
theorem dL_isTick_165 : decode cL_isTick 165 = .ok (.iload 8, 2) := by decide +kernel
theorem dL_isTick_167 : decode cL_isTick 167 = .ok (.invokestatic 72, 3) := by decide +kernel
theorem dL_isTick_170 : decode cL_isTick 170 = .ok (.ifCond .eq 16, 3) := by decide +kernel
theorem dL_isTick_173 : decode cL_isTick 173 = .ok (.aload_n 0, 1) := by decide +kernel
theorem dL_isTick_174 : decode cL_isTick 174 = .ok (.iload 8, 2) := by decide +kernel
theorem dL_isTick_176 : decode cL_isTick 176 = .ok (.iload 4, 2) := by decide +kernel
theorem dL_isTick_178 : decode cL_isTick 178 = .ok (.invokevirtual 60, 3) := by decide +kernel
theorem dL_isTick_181 : decode cL_isTick 181 = .ok (.iload 5, 2) := by decide +kernel
theorem dL_isTick_183 : decode cL_isTick 183 = .ok (.if_icmp .ne 7, 3) := by decide +kernel
theorem dL_isTick_186 : decode cL_isTick 186 = .ok (.iconst 1, 1) := by decide +kernel
theorem dL_isTick_187 : decode cL_isTick 187 = .ok (.goto 4, 3) := by decide +kernel
theorem dL_isTick_190 : decode cL_isTick 190 = .ok (.iconst 0, 1) := by decide +kernel
theorem dL_isTick_191 : decode cL_isTick 191 = .ok (.istore 7, 2) := by decide +kernel
theorem dL_isTick_193 : decode cL_isTick 193 = .ok (.iinc 8 1, 3) := by decide +kernel
theorem dL_isTick_196 : decode cL_isTick 196 = .ok (.goto (-53), 3) := by decide +kernel
theorem dL_isTick_199 : decode cL_isTick 199 = .ok (.iload 7, 2) := by decide +kernel
theorem dL_isTick_201 : decode cL_isTick 201 = .ok (.ireturn, 1) := by decide +kernel
set_option maxRecDepth 20000 in
theorem ggL_isDone_L_part : GoodIn wsL_isDone wsL_part := goodIn_r _ [4, 5] (by decide +kernel) (by decide +kernel)
set_option maxRecDepth 20000 in
theorem gL_isDone_L_part : GoodIn wsL_isDone (va_wsS RL 102 yL_part wsL_part) := goodIn_app (goodIn_of _ (by decide +kernel)) ggL_isDone_L_part
set_option maxRecDepth 20000 in
theorem ggL_isDone_L_isLink : GoodIn wsL_isDone wsL_isLink := goodIn_ca (goodIn_ca (goodIn_ca (goodIn_r _ [8, 9, 10, 3, 11, 12, 13, 14, 15, 16, 17, 18, 19, 20, 21, 22, 23, 24, 25, 26, 27, 28, 29, 30, 31, 32, 33, 34, 35, 36, 37, 38, 39, 40, 41, 42, 43, 44, 45, 46, 47, 48, 49, 50, 51, 52, 53, 54, 55, 56, 57, 58, 59, 60, 61, 62, 63, 64, 65, 66, 67, 68, 69, 70, 71, 72, 73, 74, 75, 76, 77, 78, 79, 80, 81, 82, 83, 84, 85, 86, 87, 88, 89, 90, 91, 92, 93, 94, 95, 96, 97, 98, 99, 100, 101, 102, 103, 104, 105, 106, 107, 108, 109, 110, 111, 112, 113, 114, 115, 116, 117, 118, 119, 120, 121, 122, 123, 124, 125, 126, 127, 128, 129, 130, 131, 132, 133, 134, 135, 136, 137, 138, 139, 140, 141, 142, 143, 144, 145, 146, 147, 148, 149, 150, 151, 152, 153, 154, 155, 156, 157, 158, 159, 160, 161, 162, 189, 190, 191, 192, 193, 194, 195, 196, 197, 198, 199, 200, 201, 202, 203, 204, 205, 206, 207, 208] (by decide +kernel) (by decide +kernel)) (goodIn_sub (fun _ h => List.mem_cons_of_mem _ (List.mem_append_left _ (List.mem_append_left _ (List.mem_append_right _ h)))) (by decide +kernel))) (goodIn_sub (fun _ h => List.mem_cons_of_mem _ (List.mem_append_left _ (List.mem_append_right _ h))) (by decide +kernel))) (goodIn_sub (fun _ h => List.mem_cons_of_mem _ (List.mem_append_right _ h)) (by decide +kernel))
set_option maxRecDepth 20000 in
theorem gL_isDone_L_isLink : GoodIn wsL_isDone (va_wsS RL 105 yL_isLink wsL_isLink) := goodIn_app (goodIn_of _ (by decide +kernel)) ggL_isDone_L_isLink
set_option maxRecDepth 20000 in
theorem ggL_isDone_L_isRoot : GoodIn wsL_isDone wsL_isRoot := goodIn_ca (goodIn_ca (goodIn_ca (goodIn_r _ [165, 12, 13, 3, 14, 15, 16, 17, 18, 19, 20, 21, 22, 23, 24, 25, 26, 27, 28, 29, 30, 31, 32, 33, 34, 35, 36, 37, 38, 39, 40, 41, 42, 43, 44, 45, 46, 47, 48, 49, 50, 51, 52, 53, 54, 55, 56, 57, 58, 59, 60, 61, 62, 63, 64, 65, 66, 67, 68, 69, 70, 71, 72, 73, 74, 75, 76, 77, 78, 79, 80, 81, 82, 83, 84, 85, 86, 87, 88, 89, 90, 91, 92, 93, 94, 95, 96, 97, 98, 99, 100, 101, 102, 103, 104, 105, 106, 107, 108, 109, 110, 111, 112, 113, 114, 115, 116, 117, 118, 119, 120, 121, 122, 123, 124, 125, 126, 127, 128, 129, 130, 131, 132, 133, 134, 135, 136, 137, 138, 139, 140, 141, 142, 143, 144, 145, 146, 147, 148, 149, 150, 151, 152, 153, 154, 155, 156, 157, 158, 166, 167, 168, 169, 189, 190, 191, 192, 193, 194, 195, 196, 197, 198, 199, 200, 201, 202, 203, 204, 205, 206, 207, 208] (by decide +kernel) (by decide +kernel)) (goodIn_sub (fun _ h => List.mem_cons_of_mem _ (List.mem_append_left _ (List.mem_append_left _ (List.mem_append_right _ h)))) (by decide +kernel))) (goodIn_sub (fun _ h => List.mem_cons_of_mem _ (List.mem_append_left _ (List.mem_append_right _ h))) (by decide +kernel))) (goodIn_sub (fun _ h => List.mem_cons_of_mem _ (List.mem_append_right _ h)) (by decide +kernel))
set_option maxRecDepth 20000 in
theorem gL_isDone_L_isRoot : GoodIn wsL_isDone (va_wsS RL 109 yL_isRoot wsL_isRoot) := goodIn_app (goodIn_of _ (by decide +kernel)) ggL_isDone_L_isRoot
set_option maxRecDepth 20000 in
theorem ggL_isDone_L_does : GoodIn wsL_isDone wsL_does := goodIn_ca (goodIn_ca (goodIn_ca (goodIn_r _ [14, 15, 16, 17, 18, 19, 3, 20, 21, 22, 23, 24, 25, 26, 27, 28, 29, 30, 31, 32, 33, 34, 35, 36, 37, 38, 39, 40, 41, 42, 43, 44, 45, 46, 47, 48, 49, 50, 51, 52, 53, 54, 55, 56, 57, 58, 59, 60, 61, 62, 63, 64, 65, 66, 67, 68, 69, 70, 71, 72, 73, 74, 75, 76, 77, 78, 79, 80, 81, 82, 83, 84, 85, 86, 87, 88, 89, 90, 91, 92, 93, 94, 95, 96, 97, 98, 99, 100, 101, 102, 103, 104, 105, 106, 107, 108, 109, 110, 111, 112, 113, 114, 115, 116, 117, 118, 119, 120, 121, 122, 123, 124, 125, 126, 127, 128, 129, 130, 131, 132, 133, 134, 135, 136, 137, 138, 139, 140, 141, 142, 143, 144, 145, 146, 147, 148, 149, 150, 151, 152, 153, 154, 155, 156, 157, 158, 189, 190, 191, 192, 193, 194, 195, 196, 197, 198, 199, 200, 201, 202, 203, 204, 205, 206, 207, 208] (by decide +kernel) (by decide +kernel)) (goodIn_sub (fun _ h => List.mem_cons_of_mem _ (List.mem_append_left _ (List.mem_append_left _ (List.mem_append_right _ h)))) (by decide +kernel))) (goodIn_sub (fun _ h => List.mem_cons_of_mem _ (List.mem_append_left _ (List.mem_append_right _ h))) (by decide +kernel))) (goodIn_sub (fun _ h => List.mem_cons_of_mem _ (List.mem_append_right _ h)) (by decide +kernel))
set_option maxRecDepth 20000 in
theorem gL_isDone_L_does : GoodIn wsL_isDone (va_wsS RL 80 yL_does wsL_does) := goodIn_app (goodIn_of _ (by decide +kernel)) ggL_isDone_L_does
set_option maxRecDepth 20000 in
theorem ggL_isDone_L_isTick : GoodIn wsL_isDone wsL_isTick := goodIn_ca (goodIn_ca (goodIn_r _ [172, 166, 167, 168, 24, 169, 68, 46, 47, 48, 49, 50, 51, 52, 53, 173, 174, 175, 176, 60, 139, 140, 141, 142, 30, 31, 32, 33, 34, 143, 144, 145, 146, 69, 147, 148, 149, 150, 83, 92, 58, 93, 59, 82, 70, 71, 72, 73, 39, 62, 74, 75, 76, 77, 78, 79, 80, 81, 84, 85, 86, 87, 88, 89, 90, 91, 94, 95, 96, 97, 61, 27, 98, 99, 100, 101, 102, 103, 104, 105, 63, 64, 65, 66, 67, 28, 106, 107, 108, 109, 26, 110, 111, 112, 113, 114, 115, 116, 117, 151, 152, 153, 154, 29, 9, 10, 3, 11, 159, 160, 161, 162, 189, 190, 191, 192, 193, 194, 195, 196, 197, 198, 199, 200, 201, 202, 203, 204, 205, 206, 207, 208] (by decide +kernel) (by decide +kernel)) (goodIn_sub (fun _ h => List.mem_cons_of_mem _ (List.mem_append_right _ h)) (by decide +kernel))) (goodIn_sub (fun _ h => List.mem_cons_of_mem _ (List.mem_append_left _ (List.mem_append_left _ (List.mem_append_right _ h)))) (by decide +kernel))
set_option maxRecDepth 20000 in
theorem gL_isDone_L_isTick : GoodIn wsL_isDone (va_wsS RL 113 yL_isTick wsL_isTick) := goodIn_app (goodIn_of _ (by decide +kernel)) ggL_isDone_L_isTick
set_option maxRecDepth 20000 in
theorem ggL_isDone_L_isLeast : GoodIn wsL_isDone wsL_isLeast := goodIn_ca (goodIn_r _ [179, 9, 10, 3, 11, 180, 181, 182, 24, 183, 184, 39, 46, 47, 48, 49, 50, 51, 52, 53, 185, 186, 187, 188, 83, 114, 115, 116, 117, 189, 190, 191, 192, 193, 194, 195, 196, 197, 198, 199, 200, 201, 202, 203, 204, 205, 206, 207, 208] (by decide +kernel) (by decide +kernel)) (goodIn_sub (fun _ h => List.mem_cons_of_mem _ (List.mem_append_right _ h)) (by decide +kernel))
set_option maxRecDepth 20000 in
theorem gL_isDone_L_isLeast : GoodIn wsL_isDone (va_wsS RL 117 yL_isLeast wsL_isLeast) := goodIn_app (goodIn_of _ (by decide +kernel)) ggL_isDone_L_isLeast
theorem dL_isDone_0 : decode cL_isDone 0 = .ok (.aload_n 1, 1) := by decide +kernel
theorem dL_isDone_1 : decode cL_isDone 1 = .ok (.iload_n 2, 1) := by decide +kernel
theorem dL_isDone_2 : decode cL_isDone 2 = .ok (.bipush 40, 2) := by decide +kernel
theorem dL_isDone_4 : decode cL_isDone 4 = .ok (.invokestatic 102, 3) := by decide +kernel
theorem dL_isDone_7 : decode cL_isDone 7 = .ok (.istore 6, 2) := by decide +kernel
theorem dL_isDone_9 : decode cL_isDone 9 = .ok (.aload_n 1, 1) := by decide +kernel
theorem dL_isDone_10 : decode cL_isDone 10 = .ok (.iload_n 2, 1) := by decide +kernel
theorem dL_isDone_11 : decode cL_isDone 11 = .ok (.iconst 1, 1) := by decide +kernel
theorem dL_isDone_12 : decode cL_isDone 12 = .ok (.iadd, 1) := by decide +kernel
theorem dL_isDone_13 : decode cL_isDone 13 = .ok (.sipush 6000, 3) := by decide +kernel
theorem dL_isDone_16 : decode cL_isDone 16 = .ok (.invokestatic 102, 3) := by decide +kernel
theorem dL_isDone_19 : decode cL_isDone 19 = .ok (.istore 7, 2) := by decide +kernel
theorem dL_isDone_21 : decode cL_isDone 21 = .ok (.aload_n 1, 1) := by decide +kernel
theorem dL_isDone_22 : decode cL_isDone 22 = .ok (.iload_n 2, 1) := by decide +kernel
theorem dL_isDone_23 : decode cL_isDone 23 = .ok (.iconst 2, 1) := by decide +kernel
theorem dL_isDone_24 : decode cL_isDone 24 = .ok (.iadd, 1) := by decide +kernel
theorem dL_isDone_25 : decode cL_isDone 25 = .ok (.sipush 7000, 3) := by decide +kernel
theorem dL_isDone_28 : decode cL_isDone 28 = .ok (.invokestatic 102, 3) := by decide +kernel
theorem dL_isDone_31 : decode cL_isDone 31 = .ok (.istore 8, 2) := by decide +kernel
theorem dL_isDone_33 : decode cL_isDone 33 = .ok (.aload_n 1, 1) := by decide +kernel
theorem dL_isDone_34 : decode cL_isDone 34 = .ok (.iload_n 2, 1) := by decide +kernel
theorem dL_isDone_35 : decode cL_isDone 35 = .ok (.iconst 3, 1) := by decide +kernel
theorem dL_isDone_36 : decode cL_isDone 36 = .ok (.iadd, 1) := by decide +kernel
theorem dL_isDone_37 : decode cL_isDone 37 = .ok (.sipush 8000, 3) := by decide +kernel
theorem dL_isDone_40 : decode cL_isDone 40 = .ok (.invokestatic 102, 3) := by decide +kernel
theorem dL_isDone_43 : decode cL_isDone 43 = .ok (.istore 9, 2) := by decide +kernel
theorem dL_isDone_45 : decode cL_isDone 45 = .ok (.iload 6, 2) := by decide +kernel
theorem dL_isDone_47 : decode cL_isDone 47 = .ok (.bipush 14, 2) := by decide +kernel
theorem dL_isDone_49 : decode cL_isDone 49 = .ok (.if_icmp .ge 75, 3) := by decide +kernel
theorem dL_isDone_52 : decode cL_isDone 52 = .ok (.iload 7, 2) := by decide +kernel
theorem dL_isDone_54 : decode cL_isDone 54 = .ok (.bipush 40, 2) := by decide +kernel
theorem dL_isDone_56 : decode cL_isDone 56 = .ok (.irem, 1) := by decide +kernel
theorem dL_isDone_57 : decode cL_isDone 57 = .ok (.ifCond .ne 19, 3) := by decide +kernel
theorem dL_isDone_60 : decode cL_isDone 60 = .ok (.aload_n 0, 1) := by decide +kernel
theorem dL_isDone_61 : decode cL_isDone 61 = .ok (.aload_n 3, 1) := by decide +kernel
theorem dL_isDone_62 : decode cL_isDone 62 = .ok (.bipush 10, 2) := by decide +kernel
theorem dL_isDone_64 : decode cL_isDone 64 = .ok (.iload 8, 2) := by decide +kernel
theorem dL_isDone_66 : decode cL_isDone 66 = .ok (.bipush 8, 2) := by decide +kernel
theorem dL_isDone_68 : decode cL_isDone 68 = .ok (.irem, 1) := by decide +kernel
theorem dL_isDone_69 : decode cL_isDone 69 = .ok (.iconst 5, 1) := by decide +kernel
theorem dL_isDone_70 : decode cL_isDone 70 = .ok (.invokestatic 105, 3) := by decide +kernel
theorem dL_isDone_73 : decode cL_isDone 73 = .ok (.goto 50, 3) := by decide +kernel
theorem dL_isDone_76 : decode cL_isDone 76 = .ok (.aload_n 0, 1) := by decide +kernel
theorem dL_isDone_77 : decode cL_isDone 77 = .ok (.aload_n 3, 1) := by decide +kernel
theorem dL_isDone_78 : decode cL_isDone 78 = .ok (.iload 7, 2) := by decide +kernel
theorem dL_isDone_80 : decode cL_isDone 80 = .ok (.bipush 8, 2) := by decide +kernel
theorem dL_isDone_82 : decode cL_isDone 82 = .ok (.irem, 1) := by decide +kernel
theorem dL_isDone_83 : decode cL_isDone 83 = .ok (.iload 8, 2) := by decide +kernel
theorem dL_isDone_85 : decode cL_isDone 85 = .ok (.bipush 8, 2) := by decide +kernel
theorem dL_isDone_87 : decode cL_isDone 87 = .ok (.irem, 1) := by decide +kernel
theorem dL_isDone_88 : decode cL_isDone 88 = .ok (.iload 9, 2) := by decide +kernel
theorem dL_isDone_90 : decode cL_isDone 90 = .ok (.bipush 30, 2) := by decide +kernel
theorem dL_isDone_92 : decode cL_isDone 92 = .ok (.irem, 1) := by decide +kernel
theorem dL_isDone_93 : decode cL_isDone 93 = .ok (.ifCond .ne 8, 3) := by decide +kernel
theorem dL_isDone_96 : decode cL_isDone 96 = .ok (.bipush 101, 2) := by decide +kernel
theorem dL_isDone_98 : decode cL_isDone 98 = .ok (.goto 22, 3) := by decide +kernel
theorem dL_isDone_101 : decode cL_isDone 101 = .ok (.iload 9, 2) := by decide +kernel
theorem dL_isDone_103 : decode cL_isDone 103 = .ok (.bipush 6, 2) := by decide +kernel
theorem dL_isDone_105 : decode cL_isDone 105 = .ok (.irem, 1) := by decide +kernel
theorem dL_isDone_106 : decode cL_isDone 106 = .ok (.ifCond .ne 7, 3) := by decide +kernel
theorem dL_isDone_109 : decode cL_isDone 109 = .ok (.iconst 0, 1) := by decide +kernel
theorem dL_isDone_110 : decode cL_isDone 110 = .ok (.goto 10, 3) := by decide +kernel
theorem dL_isDone_113 : decode cL_isDone 113 = .ok (.iconst 1, 1) := by decide +kernel
theorem dL_isDone_114 : decode cL_isDone 114 = .ok (.iload 9, 2) := by decide +kernel
theorem dL_isDone_116 : decode cL_isDone 116 = .ok (.bipush 40, 2) := by decide +kernel
theorem dL_isDone_118 : decode cL_isDone 118 = .ok (.irem, 1) := by decide +kernel
theorem dL_isDone_119 : decode cL_isDone 119 = .ok (.iadd, 1) := by decide +kernel
theorem dL_isDone_120 : decode cL_isDone 120 = .ok (.invokestatic 105, 3) := by decide +kernel
theorem dL_isDone_123 : decode cL_isDone 123 = .ok (.ireturn, 1) := by decide +kernel
theorem dL_isDone_124 : decode cL_isDone 124 = .ok (.iload 6, 2) := by decide +kernel
theorem dL_isDone_126 : decode cL_isDone 126 = .ok (.bipush 17, 2) := by decide +kernel
theorem dL_isDone_128 : decode cL_isDone 128 = .ok (.if_icmp .ge 31, 3) := by decide +kernel
theorem dL_isDone_131 : decode cL_isDone 131 = .ok (.aload_n 0, 1) := by decide +kernel
theorem dL_isDone_132 : decode cL_isDone 132 = .ok (.aload 4, 2) := by decide +kernel
theorem dL_isDone_134 : decode cL_isDone 134 = .ok (.aload 5, 2) := by decide +kernel
theorem dL_isDone_136 : decode cL_isDone 136 = .ok (.iconst 3, 1) := by decide +kernel
theorem dL_isDone_137 : decode cL_isDone 137 = .ok (.iload 7, 2) := by decide +kernel
theorem dL_isDone_139 : decode cL_isDone 139 = .ok (.bipush 30, 2) := by decide +kernel
theorem dL_isDone_141 : decode cL_isDone 141 = .ok (.irem, 1) := by decide +kernel
theorem dL_isDone_142 : decode cL_isDone 142 = .ok (.ifCond .ne 8, 3) := by decide +kernel
theorem dL_isDone_145 : decode cL_isDone 145 = .ok (.bipush 10, 2) := by decide +kernel
theorem dL_isDone_147 : decode cL_isDone 147 = .ok (.goto 8, 3) := by decide +kernel
theorem dL_isDone_150 : decode cL_isDone 150 = .ok (.iload 8, 2) := by decide +kernel
theorem dL_isDone_152 : decode cL_isDone 152 = .ok (.bipush 10, 2) := by decide +kernel
theorem dL_isDone_154 : decode cL_isDone 154 = .ok (.irem, 1) := by decide +kernel
theorem dL_isDone_155 : decode cL_isDone 155 = .ok (.invokestatic 109, 3) := by decide +kernel
theorem dL_isDone_158 : decode cL_isDone 158 = .ok (.ireturn, 1) := by decide +kernel
theorem dL_isDone_159 : decode cL_isDone 159 = .ok (.iload 6, 2) := by decide +kernel
theorem dL_isDone_161 : decode cL_isDone 161 = .ok (.bipush 19, 2) := by decide +kernel
theorem dL_isDone_163 : decode cL_isDone 163 = .ok (.if_icmp .ge 42, 3) := by decide +kernel
theorem dL_isDone_166 : decode cL_isDone 166 = .ok (.aload_n 0, 1) := by decide +kernel
theorem dL_isDone_167 : decode cL_isDone 167 = .ok (.aload 4, 2) := by decide +kernel
theorem dL_isDone_169 : decode cL_isDone 169 = .ok (.aload 5, 2) := by decide +kernel
theorem dL_isDone_171 : decode cL_isDone 171 = .ok (.iload 6, 2) := by decide +kernel
theorem dL_isDone_173 : decode cL_isDone 173 = .ok (.bipush 17, 2) := by decide +kernel
theorem dL_isDone_175 : decode cL_isDone 175 = .ok (.if_icmp .ne 7, 3) := by decide +kernel
theorem dL_isDone_178 : decode cL_isDone 178 = .ok (.iconst 4, 1) := by decide +kernel
theorem dL_isDone_179 : decode cL_isDone 179 = .ok (.goto 4, 3) := by decide +kernel
theorem dL_isDone_182 : decode cL_isDone 182 = .ok (.iconst 1, 1) := by decide +kernel
theorem dL_isDone_183 : decode cL_isDone 183 = .ok (.iload 7, 2) := by decide +kernel
theorem dL_isDone_185 : decode cL_isDone 185 = .ok (.bipush 30, 2) := by decide +kernel
theorem dL_isDone_187 : decode cL_isDone 187 = .ok (.irem, 1) := by decide +kernel
theorem dL_isDone_188 : decode cL_isDone 188 = .ok (.ifCond .ne 8, 3) := by decide +kernel
theorem dL_isDone_191 : decode cL_isDone 191 = .ok (.bipush 10, 2) := by decide +kernel
theorem dL_isDone_193 : decode cL_isDone 193 = .ok (.goto 8, 3) := by decide +kernel
theorem dL_isDone_196 : decode cL_isDone 196 = .ok (.iload 8, 2) := by decide +kernel
theorem dL_isDone_198 : decode cL_isDone 198 = .ok (.bipush 10, 2) := by decide +kernel
theorem dL_isDone_200 : decode cL_isDone 200 = .ok (.irem, 1) := by decide +kernel
theorem dL_isDone_201 : decode cL_isDone 201 = .ok (.invokestatic 109, 3) := by decide +kernel
theorem dL_isDone_204 : decode cL_isDone 204 = .ok (.ireturn, 1) := by decide +kernel
theorem dL_isDone_205 : decode cL_isDone 205 = .ok (.iload 6, 2) := by decide +kernel
theorem dL_isDone_207 : decode cL_isDone 207 = .ok (.bipush 19, 2) := by decide +kernel
theorem dL_isDone_209 : decode cL_isDone 209 = .ok (.if_icmp .ne 120, 3) := by decide +kernel
theorem dL_isDone_212 : decode cL_isDone 212 = .ok (.iload 7, 2) := by decide +kernel
theorem dL_isDone_214 : decode cL_isDone 214 = .ok (.bipush 30, 2) := by decide +kernel
theorem dL_isDone_216 : decode cL_isDone 216 = .ok (.irem, 1) := by decide +kernel
theorem dL_isDone_217 : decode cL_isDone 217 = .ok (.ifCond .ne 8, 3) := by decide +kernel
theorem dL_isDone_220 : decode cL_isDone 220 = .ok (.bipush 101, 2) := by decide +kernel
theorem dL_isDone_222 : decode cL_isDone 222 = .ok (.goto 8, 3) := by decide +kernel
theorem dL_isDone_225 : decode cL_isDone 225 = .ok (.iload 7, 2) := by decide +kernel
theorem dL_isDone_227 : decode cL_isDone 227 = .ok (.bipush 20, 2) := by decide +kernel
theorem dL_isDone_229 : decode cL_isDone 229 = .ok (.irem, 1) := by decide +kernel
theorem dL_isDone_230 : decode cL_isDone 230 = .ok (.istore 10, 2) := by decide +kernel
theorem dL_isDone_232 : decode cL_isDone 232 = .ok (.iload 8, 2) := by decide +kernel
theorem dL_isDone_234 : decode cL_isDone 234 = .ok (.bipush 10, 2) := by decide +kernel
theorem dL_isDone_236 : decode cL_isDone 236 = .ok (.irem, 1) := by decide +kernel
theorem dL_isDone_237 : decode cL_isDone 237 = .ok (.istore 11, 2) := by decide +kernel
theorem dL_isDone_239 : decode cL_isDone 239 = .ok (.iload 10, 2) := by decide +kernel
theorem dL_isDone_241 : decode cL_isDone 241 = .ok (.bipush 101, 2) := by decide +kernel
theorem dL_isDone_243 : decode cL_isDone 243 = .ok (.if_icmp .ge 29, 3) := by decide +kernel
theorem dL_isDone_246 : decode cL_isDone 246 = .ok (.iload 11, 2) := by decide +kernel
theorem dL_isDone_248 : decode cL_isDone 248 = .ok (.ifCond .le 24, 3) := by decide +kernel
theorem dL_isDone_251 : decode cL_isDone 251 = .ok (.iload 11, 2) := by decide +kernel
theorem dL_isDone_253 : decode cL_isDone 253 = .ok (.bipush 9, 2) := by decide +kernel
theorem dL_isDone_255 : decode cL_isDone 255 = .ok (.if_icmp .ge 17, 3) := by decide +kernel
theorem dL_isDone_258 : decode cL_isDone 258 = .ok (.iload 9, 2) := by decide +kernel
theorem dL_isDone_260 : decode cL_isDone 260 = .ok (.bipush 8, 2) := by decide +kernel
theorem dL_isDone_262 : decode cL_isDone 262 = .ok (.irem, 1) := by decide +kernel
theorem dL_isDone_263 : decode cL_isDone 263 = .ok (.bipush 7, 2) := by decide +kernel
theorem dL_isDone_265 : decode cL_isDone 265 = .ok (.if_icmp .ge 7, 3) := by decide +kernel
theorem dL_isDone_268 : decode cL_isDone 268 = .ok (.iconst 1, 1) := by decide +kernel
theorem dL_isDone_269 : decode cL_isDone 269 = .ok (.goto 4, 3) := by decide +kernel
theorem dL_isDone_272 : decode cL_isDone 272 = .ok (.iconst 0, 1) := by decide +kernel
theorem dL_isDone_273 : decode cL_isDone 273 = .ok (.istore 12, 2) := by decide +kernel
theorem dL_isDone_275 : decode cL_isDone 275 = .ok (.aload 5, 2) := by decide +kernel
theorem dL_isDone_277 : decode cL_isDone 277 = .ok (.iconst 1, 1) := by decide +kernel
theorem dL_isDone_278 : decode cL_isDone 278 = .ok (.iload 12, 2) := by decide +kernel
theorem dL_isDone_280 : decode cL_isDone 280 = .ok (.ifCond .eq 8, 3) := by decide +kernel
theorem dL_isDone_283 : decode cL_isDone 283 = .ok (.iload 11, 2) := by decide +kernel
theorem dL_isDone_285 : decode cL_isDone 285 = .ok (.goto 7, 3) := by decide +kernel
theorem dL_isDone_288 : decode cL_isDone 288 = .ok (.aload 5, 2) := by decide +kernel
theorem dL_isDone_290 : decode cL_isDone 290 = .ok (.iconst 1, 1) := by decide +kernel
theorem dL_isDone_291 : decode cL_isDone 291 = .ok (.iaload, 1) := by decide +kernel
theorem dL_isDone_292 : decode cL_isDone 292 = .ok (.iastore, 1) := by decide +kernel
theorem dL_isDone_293 : decode cL_isDone 293 = .ok (.aload_n 0, 1) := by decide +kernel
theorem dL_isDone_294 : decode cL_isDone 294 = .ok (.iconst 0, 1) := by decide +kernel
theorem dL_isDone_295 : decode cL_isDone 295 = .ok (.iload 10, 2) := by decide +kernel
theorem dL_isDone_297 : decode cL_isDone 297 = .ok (.iload 8, 2) := by decide +kernel
theorem dL_isDone_299 : decode cL_isDone 299 = .ok (.iload 11, 2) := by decide +kernel
theorem dL_isDone_301 : decode cL_isDone 301 = .ok (.iload 9, 2) := by decide +kernel
theorem dL_isDone_303 : decode cL_isDone 303 = .ok (.bipush 8, 2) := by decide +kernel
theorem dL_isDone_305 : decode cL_isDone 305 = .ok (.irem, 1) := by decide +kernel
theorem dL_isDone_306 : decode cL_isDone 306 = .ok (.invokestatic 80, 3) := by decide +kernel
theorem dL_isDone_309 : decode cL_isDone 309 = .ok (.iload 12, 2) := by decide +kernel
theorem dL_isDone_311 : decode cL_isDone 311 = .ok (.ifCond .eq 7, 3) := by decide +kernel
theorem dL_isDone_314 : decode cL_isDone 314 = .ok (.iconst 0, 1) := by decide +kernel
theorem dL_isDone_315 : decode cL_isDone 315 = .ok (.goto 5, 3) := by decide +kernel
theorem dL_isDone_318 : decode cL_isDone 318 = .ok (.bipush (-20), 2) := by decide +kernel
theorem dL_isDone_320 : decode cL_isDone 320 = .ok (.if_icmp .ne 7, 3) := by decide +kernel
theorem dL_isDone_323 : decode cL_isDone 323 = .ok (.iconst 1, 1) := by decide +kernel
theorem dL_isDone_324 : decode cL_isDone 324 = .ok (.goto 4, 3) := by decide +kernel
theorem dL_isDone_327 : decode cL_isDone 327 = .ok (.iconst 0, 1) := by decide +kernel
theorem dL_isDone_328 : decode cL_isDone 328 = .ok (.ireturn, 1) := by decide +kernel
theorem dL_isDone_329 : decode cL_isDone 329 = .ok (.iload 6, 2) := by decide +kernel
theorem dL_isDone_331 : decode cL_isDone 331 = .ok (.bipush 34, 2) := by decide +kernel
theorem dL_isDone_333 : decode cL_isDone 333 = .ok (.if_icmp .ge 43, 3) := by decide +kernel
theorem dL_isDone_336 : decode cL_isDone 336 = .ok (.iconst 1, 1) := by decide +kernel
theorem dL_isDone_337 : decode cL_isDone 337 = .ok (.istore 10, 2) := by decide +kernel
theorem dL_isDone_339 : decode cL_isDone 339 = .ok (.iconst 0, 1) := by decide +kernel
theorem dL_isDone_340 : decode cL_isDone 340 = .ok (.istore 11, 2) := by decide +kernel
theorem dL_isDone_342 : decode cL_isDone 342 = .ok (.iload 11, 2) := by decide +kernel
theorem dL_isDone_344 : decode cL_isDone 344 = .ok (.iconst 1, 1) := by decide +kernel
theorem dL_isDone_345 : decode cL_isDone 345 = .ok (.iload 7, 2) := by decide +kernel
theorem dL_isDone_347 : decode cL_isDone 347 = .ok (.iconst 4, 1) := by decide +kernel
theorem dL_isDone_348 : decode cL_isDone 348 = .ok (.irem, 1) := by decide +kernel
theorem dL_isDone_349 : decode cL_isDone 349 = .ok (.iadd, 1) := by decide +kernel
theorem dL_isDone_350 : decode cL_isDone 350 = .ok (.if_icmp .ge 23, 3) := by decide +kernel
end
section
theorem dL_isDone_353 : decode cL_isDone 353 = .ok (.iload 10, 2) := by decide +kernel
theorem dL_isDone_355 : decode cL_isDone 355 = .ok (.ifCond .eq 18, 3) := by decide +kernel
theorem dL_isDone_358 : decode cL_isDone 358 = .ok (.aload_n 0, 1) := by decide +kernel
theorem dL_isDone_359 : decode cL_isDone 359 = .ok (.aload_n 3, 1) := by decide +kernel
theorem dL_isDone_360 : decode cL_isDone 360 = .ok (.aload 5, 2) := by decide +kernel
theorem dL_isDone_362 : decode cL_isDone 362 = .ok (.invokestatic 113, 3) := by decide +kernel
theorem dL_isDone_365 : decode cL_isDone 365 = .ok (.istore 10, 2) := by decide +kernel
theorem dL_isDone_367 : decode cL_isDone 367 = .ok (.iinc 11 1, 3) := by decide +kernel
theorem dL_isDone_370 : decode cL_isDone 370 = .ok (.goto (-28), 3) := by decide +kernel
theorem dL_isDone_373 : decode cL_isDone 373 = .ok (.iload 10, 2) := by decide +kernel
theorem dL_isDone_375 : decode cL_isDone 375 = .ok (.ireturn, 1) := by decide +kernel
theorem dL_isDone_376 : decode cL_isDone 376 = .ok (.iload 6, 2) := by decide +kernel
theorem dL_isDone_378 : decode cL_isDone 378 = .ok (.bipush 37, 2) := by decide +kernel
theorem dL_isDone_380 : decode cL_isDone 380 = .ok (.if_icmp .ge 100, 3) := by decide +kernel
theorem dL_isDone_383 : decode cL_isDone 383 = .ok (.iload 8, 2) := by decide +kernel
theorem dL_isDone_385 : decode cL_isDone 385 = .ok (.bipush 30, 2) := by decide +kernel
theorem dL_isDone_387 : decode cL_isDone 387 = .ok (.irem, 1) := by decide +kernel
theorem dL_isDone_388 : decode cL_isDone 388 = .ok (.ifCond .ne 8, 3) := by decide +kernel
theorem dL_isDone_391 : decode cL_isDone 391 = .ok (.bipush 101, 2) := by decide +kernel
theorem dL_isDone_393 : decode cL_isDone 393 = .ok (.goto 10, 3) := by decide +kernel
theorem dL_isDone_396 : decode cL_isDone 396 = .ok (.iconst 1, 1) := by decide +kernel
theorem dL_isDone_397 : decode cL_isDone 397 = .ok (.iload 8, 2) := by decide +kernel
theorem dL_isDone_399 : decode cL_isDone 399 = .ok (.bipush 20, 2) := by decide +kernel
theorem dL_isDone_401 : decode cL_isDone 401 = .ok (.irem, 1) := by decide +kernel
theorem dL_isDone_402 : decode cL_isDone 402 = .ok (.iadd, 1) := by decide +kernel
theorem dL_isDone_403 : decode cL_isDone 403 = .ok (.istore 10, 2) := by decide +kernel
theorem dL_isDone_405 : decode cL_isDone 405 = .ok (.aload_n 0, 1) := by decide +kernel
theorem dL_isDone_406 : decode cL_isDone 406 = .ok (.iconst 5, 1) := by decide +kernel
theorem dL_isDone_407 : decode cL_isDone 407 = .ok (.iload 10, 2) := by decide +kernel
theorem dL_isDone_409 : decode cL_isDone 409 = .ok (.iconst 0, 1) := by decide +kernel
theorem dL_isDone_410 : decode cL_isDone 410 = .ok (.iconst 0, 1) := by decide +kernel
theorem dL_isDone_411 : decode cL_isDone 411 = .ok (.iconst 0, 1) := by decide +kernel
theorem dL_isDone_412 : decode cL_isDone 412 = .ok (.invokestatic 80, 3) := by decide +kernel
theorem dL_isDone_415 : decode cL_isDone 415 = .ok (.istore 11, 2) := by decide +kernel
theorem dL_isDone_417 : decode cL_isDone 417 = .ok (.aload 5, 2) := by decide +kernel
theorem dL_isDone_419 : decode cL_isDone 419 = .ok (.iconst 0, 1) := by decide +kernel
theorem dL_isDone_420 : decode cL_isDone 420 = .ok (.dup2, 1) := by decide +kernel
theorem dL_isDone_421 : decode cL_isDone 421 = .ok (.iaload, 1) := by decide +kernel
theorem dL_isDone_422 : decode cL_isDone 422 = .ok (.iload 10, 2) := by decide +kernel
theorem dL_isDone_424 : decode cL_isDone 424 = .ok (.bipush 101, 2) := by decide +kernel
theorem dL_isDone_426 : decode cL_isDone 426 = .ok (.if_icmp .ge 8, 3) := by decide +kernel
theorem dL_isDone_429 : decode cL_isDone 429 = .ok (.iload 10, 2) := by decide +kernel
theorem dL_isDone_431 : decode cL_isDone 431 = .ok (.goto 4, 3) := by decide +kernel
theorem dL_isDone_434 : decode cL_isDone 434 = .ok (.iconst 0, 1) := by decide +kernel
theorem dL_isDone_435 : decode cL_isDone 435 = .ok (.iadd, 1) := by decide +kernel
theorem dL_isDone_436 : decode cL_isDone 436 = .ok (.iastore, 1) := by decide +kernel
theorem dL_isDone_437 : decode cL_isDone 437 = .ok (.iload 10, 2) := by decide +kernel
theorem dL_isDone_439 : decode cL_isDone 439 = .ok (.bipush 101, 2) := by decide +kernel
theorem dL_isDone_441 : decode cL_isDone 441 = .ok (.if_icmp .ge 26, 3) := by decide +kernel
theorem dL_isDone_444 : decode cL_isDone 444 = .ok (.iload 11, 2) := by decide +kernel
theorem dL_isDone_446 : decode cL_isDone 446 = .ok (.ifCond .lt 17, 3) := by decide +kernel
theorem dL_isDone_449 : decode cL_isDone 449 = .ok (.iload 11, 2) := by decide +kernel
theorem dL_isDone_451 : decode cL_isDone 451 = .ok (.bipush 10, 2) := by decide +kernel
theorem dL_isDone_453 : decode cL_isDone 453 = .ok (.iload 10, 2) := by decide +kernel
theorem dL_isDone_455 : decode cL_isDone 455 = .ok (.imul, 1) := by decide +kernel
theorem dL_isDone_456 : decode cL_isDone 456 = .ok (.if_icmp .gt 7, 3) := by decide +kernel
theorem dL_isDone_459 : decode cL_isDone 459 = .ok (.iconst 1, 1) := by decide +kernel
theorem dL_isDone_460 : decode cL_isDone 460 = .ok (.goto 19, 3) := by decide +kernel
theorem dL_isDone_463 : decode cL_isDone 463 = .ok (.iconst 0, 1) := by decide +kernel
theorem dL_isDone_464 : decode cL_isDone 464 = .ok (.goto 15, 3) := by decide +kernel
theorem dL_isDone_467 : decode cL_isDone 467 = .ok (.iload 11, 2) := by decide +kernel
theorem dL_isDone_469 : decode cL_isDone 469 = .ok (.bipush (-20), 2) := by decide +kernel
theorem dL_isDone_471 : decode cL_isDone 471 = .ok (.if_icmp .ne 7, 3) := by decide +kernel
theorem dL_isDone_474 : decode cL_isDone 474 = .ok (.iconst 1, 1) := by decide +kernel
theorem dL_isDone_475 : decode cL_isDone 475 = .ok (.goto 4, 3) := by decide +kernel
theorem dL_isDone_478 : decode cL_isDone 478 = .ok (.iconst 0, 1) := by decide +kernel
theorem dL_isDone_479 : decode cL_isDone 479 = .ok (.ireturn, 1) := by decide +kernel
theorem dL_isDone_480 : decode cL_isDone 480 = .ok (.aload_n 0, 1) := by decide +kernel
theorem dL_isDone_481 : decode cL_isDone 481 = .ok (.aload_n 3, 1) := by decide +kernel
theorem dL_isDone_482 : decode cL_isDone 482 = .ok (.aload 4, 2) := by decide +kernel
theorem dL_isDone_484 : decode cL_isDone 484 = .ok (.invokestatic 117, 3) := by decide +kernel
theorem dL_isDone_487 : decode cL_isDone 487 = .ok (.ireturn, 1) := by decide +kernel
set_option maxRecDepth 20000 in
theorem ggL_law_X0_init : GoodIn wsL_law wsX0_init := goodIn_r _ [6, 7, 8, 9, 10, 11, 12, 13, 14, 15, 16, 3, 17, 18, 19, 20, 21, 22, 23, 24, 25, 26, 27, 28, 29, 30, 31, 32, 33, 34, 2, 35, 36, 37, 38, 39, 40, 41, 42, 43, 246, 247, 248, 249, 250, 251, 252, 253, 254, 255, 256, 257, 258, 259, 260, 261, 262, 263, 264, 265] (by decide +kernel) (by decide +kernel)
set_option maxRecDepth 20000 in
theorem gL_law_X0_init : GoodIn wsL_law (wsX0_init) := ggL_law_X0_init
set_option maxRecDepth 20000 in
theorem ggL_law_L_isSo : GoodIn wsL_law wsL_isSo := goodIn_ca (goodIn_ca (goodIn_ca (goodIn_r _ [47, 48, 49, 50, 2, 51, 14, 52, 53, 46, 54, 55, 56, 57, 58, 59, 26, 60, 61, 62, 63, 64, 65, 66, 67, 68, 69, 70, 71, 28, 72, 73, 74, 75, 24, 25, 76, 77, 78, 79, 30, 80, 81, 82, 83, 20, 84, 85, 86, 87, 31, 22, 88, 89, 90, 91, 17, 92, 93, 94, 95, 96, 97, 98, 99, 15, 100, 101, 102, 103, 104, 105, 106, 107, 108, 109, 110, 111, 112, 113, 114, 115, 116, 117, 118, 119, 120, 121, 122, 123, 124, 125, 126, 127, 128, 129, 130, 131, 132, 133, 134, 135, 10, 11, 12, 13, 136, 137, 138, 139, 140, 141, 142, 143, 144, 145, 146, 147, 148, 149, 150, 32, 33, 34, 35, 27, 36, 37, 38, 39, 29, 151, 152, 153, 154, 155, 156, 157, 158, 159, 160, 161, 162, 163, 164, 165, 166, 167, 168, 169, 170, 18, 19, 171, 172, 173, 174, 175, 176, 177, 178, 179, 180, 181, 182, 183, 184, 185, 186, 187, 188, 189, 190, 191, 192, 193, 194, 40, 41, 42, 43, 195, 196, 197, 198, 199, 200, 201, 202, 23, 203, 204, 205, 206, 207, 208, 209, 210, 211, 212, 213, 214, 215, 216, 217, 218, 219, 220, 221, 222, 223, 224, 225, 226, 246, 247, 248, 249, 250, 251, 252, 253, 254, 255, 256, 257, 258, 259, 260, 261, 262, 263, 264, 265] (by decide +kernel) (by decide +kernel)) (goodIn_sub (fun _ h => List.mem_append_left _ (List.mem_append_left _ (List.mem_append_right _ h))) (by decide +kernel))) (goodIn_sub (fun _ h => List.mem_append_left _ (List.mem_append_right _ h)) (by decide +kernel))) (goodIn_sub (fun _ h => List.mem_append_right _ h) (by decide +kernel))
set_option maxRecDepth 20000 in
theorem gL_law_L_isSo : GoodIn wsL_law (va_wsS RL 121 yL_isSo wsL_isSo) := goodIn_app (goodIn_of _ (by decide +kernel)) ggL_law_L_isSo
set_option maxRecDepth 20000 in
theorem ggL_law_L_isDone : GoodIn wsL_law wsL_isDone := goodIn_ca (goodIn_ca (goodIn_ca (goodIn_r _ [229, 230, 231, 46, 232, 233, 234, 235, 236, 111, 112, 113, 124, 125, 126, 55, 127, 128, 129, 130, 131, 132, 133, 134, 2, 135, 10, 11, 12, 13, 136, 137, 138, 139, 140, 141, 142, 143, 144, 22, 145, 146, 147, 148, 149, 150, 60, 61, 62, 63, 64, 65, 66, 67, 32, 33, 34, 35, 24, 25, 26, 27, 28, 36, 37, 38, 39, 29, 30, 14, 151, 152, 153, 154, 155, 156, 157, 158, 159, 160, 161, 162, 20, 17, 163, 164, 165, 166, 167, 168, 169, 170, 18, 19, 171, 172, 173, 174, 175, 176, 177, 178, 179, 180, 181, 182, 183, 184, 185, 186, 187, 188, 189, 190, 92, 93, 94, 95, 191, 192, 193, 194, 40, 41, 42, 43, 195, 196, 197, 198, 199, 200, 201, 202, 23, 203, 204, 205, 206, 207, 208, 209, 210, 211, 212, 213, 214, 215, 216, 217, 218, 219, 220, 221, 222, 223, 224, 225, 226, 80, 81, 82, 83, 237, 238, 239, 76, 77, 78, 79, 240, 241, 242, 56, 57, 58, 59, 243, 244, 245, 84, 85, 86, 87, 31, 88, 89, 90, 91, 246, 247, 248, 249, 250, 251, 252, 253, 254, 255, 256, 257, 258, 259, 260, 261, 262, 263, 264, 265] (by decide +kernel) (by decide +kernel)) (goodIn_sub (fun _ h => List.mem_append_left _ (List.mem_append_right _ h)) (by decide +kernel))) (goodIn_sub (fun _ h => List.mem_append_right _ h) (by decide +kernel))) (goodIn_sub (fun _ h => List.mem_append_left _ (List.mem_append_left _ (List.mem_append_right _ h))) (by decide +kernel))
set_option maxRecDepth 20000 in
theorem gL_law_L_isDone : GoodIn wsL_law (va_wsS RL 125 yL_isDone wsL_isDone) := goodIn_app (goodIn_of _ (by decide +kernel)) ggL_law_L_isDone
set_option maxRecDepth 20000 in
theorem ggL_law_L_part : GoodIn wsL_law wsL_part := goodIn_r _ [232, 233] (by decide +kernel) (by decide +kernel)
set_option maxRecDepth 20000 in
theorem gL_law_L_part : GoodIn wsL_law (va_wsS RL 102 yL_part wsL_part) := goodIn_app (goodIn_of _ (by decide +kernel)) ggL_law_L_part
set_option maxRecDepth 20000 in
theorem ggL_law_L_isLeast : GoodIn wsL_law wsL_isLeast := goodIn_ca (goodIn_r _ [245, 111, 112, 46, 113, 84, 85, 86, 2, 87, 31, 22, 60, 61, 62, 63, 64, 65, 66, 67, 88, 89, 90, 91, 17, 92, 93, 94, 95, 246, 247, 248, 249, 250, 251, 252, 253, 254, 255, 256, 257, 258, 259, 260, 261, 262, 263, 264, 265] (by decide +kernel) (by decide +kernel)) (goodIn_sub (fun _ h => List.mem_append_left _ (List.mem_append_left _ (List.mem_append_right _ h))) (by decide +kernel))
set_option maxRecDepth 20000 in
theorem gL_law_L_isLeast : GoodIn wsL_law (va_wsS RL 117 yL_isLeast wsL_isLeast) := goodIn_app (goodIn_of _ (by decide +kernel)) ggL_law_L_isLeast
set_option maxRecDepth 20000 in
theorem ggL_law_L_does : GoodIn wsL_law wsL_does := goodIn_ca (goodIn_ca (goodIn_ca (goodIn_r _ [126, 55, 127, 128, 129, 130, 46, 131, 132, 133, 134, 2, 135, 10, 11, 12, 13, 136, 137, 138, 139, 140, 141, 142, 143, 144, 22, 145, 146, 147, 148, 149, 150, 60, 61, 62, 63, 64, 65, 66, 67, 32, 33, 34, 35, 24, 25, 26, 27, 28, 36, 37, 38, 39, 29, 30, 14, 151, 152, 153, 154, 155, 156, 157, 158, 159, 160, 161, 162, 20, 17, 163, 164, 165, 166, 167, 168, 169, 170, 18, 19, 171, 172, 173, 174, 175, 176, 177, 178, 179, 180, 181, 182, 183, 184, 185, 186, 187, 188, 189, 190, 92, 93, 94, 95, 191, 192, 193, 194, 40, 41, 42, 43, 195, 196, 197, 198, 199, 200, 201, 202, 23, 203, 204, 205, 206, 207, 208, 209, 210, 211, 212, 213, 214, 215, 216, 217, 218, 219, 220, 221, 222, 223, 224, 225, 226, 246, 247, 248, 249, 250, 251, 252, 253, 254, 255, 256, 257, 258, 259, 260, 261, 262, 263, 264, 265] (by decide +kernel) (by decide +kernel)) (goodIn_sub (fun _ h => List.mem_append_left _ (List.mem_append_right _ h)) (by decide +kernel))) (goodIn_sub (fun _ h => List.mem_append_right _ h) (by decide +kernel))) (goodIn_sub (fun _ h => List.mem_append_left _ (List.mem_append_left _ (List.mem_append_right _ h))) (by decide +kernel))
set_option maxRecDepth 20000 in
theorem gL_law_L_does : GoodIn wsL_law (va_wsS RL 80 yL_does wsL_does) := goodIn_app (goodIn_of _ (by decide +kernel)) ggL_law_L_does
theorem dL_law_0 : decode cL_law 0 = .ok (.new 9, 3) := by decide +kernel
theorem dL_law_3 : decode cL_law 3 = .ok (.dup, 1) := by decide +kernel
theorem dL_law_4 : decode cL_law 4 = .ok (.invokespecial 120, 3) := by decide +kernel
theorem dL_law_7 : decode cL_law 7 = .ok (.astore_n 1, 1) := by decide +kernel
theorem dL_law_8 : decode cL_law 8 = .ok (.bipush 64, 2) := by decide +kernel
theorem dL_law_10 : decode cL_law 10 = .ok (.newarray .int, 2) := by decide +kernel
theorem dL_law_12 : decode cL_law 12 = .ok (.astore_n 2, 1) := by decide +kernel
theorem dL_law_13 : decode cL_law 13 = .ok (.bipush 20, 2) := by decide +kernel
theorem dL_law_15 : decode cL_law 15 = .ok (.newarray .int, 2) := by decide +kernel
theorem dL_law_17 : decode cL_law 17 = .ok (.astore_n 3, 1) := by decide +kernel
theorem dL_law_18 : decode cL_law 18 = .ok (.iconst 3, 1) := by decide +kernel
theorem dL_law_19 : decode cL_law 19 = .ok (.newarray .int, 2) := by decide +kernel
theorem dL_law_21 : decode cL_law 21 = .ok (.astore 4, 2) := by decide +kernel
theorem dL_law_23 : decode cL_law 23 = .ok (.aload 4, 2) := by decide +kernel
theorem dL_law_25 : decode cL_law 25 = .ok (.iconst 1, 1) := by decide +kernel
theorem dL_law_26 : decode cL_law 26 = .ok (.iconst 1, 1) := by decide +kernel
theorem dL_law_27 : decode cL_law 27 = .ok (.iastore, 1) := by decide +kernel
theorem dL_law_28 : decode cL_law 28 = .ok (.aload_n 1, 1) := by decide +kernel
theorem dL_law_29 : decode cL_law 29 = .ok (.aload_n 2, 1) := by decide +kernel
theorem dL_law_30 : decode cL_law 30 = .ok (.aload_n 3, 1) := by decide +kernel
theorem dL_law_31 : decode cL_law 31 = .ok (.aload 4, 2) := by decide +kernel
theorem dL_law_33 : decode cL_law 33 = .ok (.iconst 0, 1) := by decide +kernel
theorem dL_law_34 : decode cL_law 34 = .ok (.iconst 1, 1) := by decide +kernel
theorem dL_law_35 : decode cL_law 35 = .ok (.invokestatic 121, 3) := by decide +kernel
theorem dL_law_38 : decode cL_law 38 = .ok (.istore 5, 2) := by decide +kernel
theorem dL_law_40 : decode cL_law 40 = .ok (.iconst 0, 1) := by decide +kernel
theorem dL_law_41 : decode cL_law 41 = .ok (.istore 6, 2) := by decide +kernel
theorem dL_law_43 : decode cL_law 43 = .ok (.iload 6, 2) := by decide +kernel
theorem dL_law_45 : decode cL_law 45 = .ok (.bipush 60, 2) := by decide +kernel
theorem dL_law_47 : decode cL_law 47 = .ok (.if_icmp .ge 72, 3) := by decide +kernel
theorem dL_law_50 : decode cL_law 50 = .ok (.iload 5, 2) := by decide +kernel
theorem dL_law_52 : decode cL_law 52 = .ok (.ifCond .eq 67, 3) := by decide +kernel
theorem dL_law_55 : decode cL_law 55 = .ok (.aload_n 1, 1) := by decide +kernel
theorem dL_law_56 : decode cL_law 56 = .ok (.aload_n 0, 1) := by decide +kernel
theorem dL_law_57 : decode cL_law 57 = .ok (.iconst 4, 1) := by decide +kernel
theorem dL_law_58 : decode cL_law 58 = .ok (.iload 6, 2) := by decide +kernel
theorem dL_law_60 : decode cL_law 60 = .ok (.imul, 1) := by decide +kernel
theorem dL_law_61 : decode cL_law 61 = .ok (.aload_n 2, 1) := by decide +kernel
theorem dL_law_62 : decode cL_law 62 = .ok (.aload_n 3, 1) := by decide +kernel
theorem dL_law_63 : decode cL_law 63 = .ok (.aload 4, 2) := by decide +kernel
theorem dL_law_65 : decode cL_law 65 = .ok (.invokestatic 125, 3) := by decide +kernel
theorem dL_law_68 : decode cL_law 68 = .ok (.ifCond .eq 42, 3) := by decide +kernel
theorem dL_law_71 : decode cL_law 71 = .ok (.aload_n 1, 1) := by decide +kernel
theorem dL_law_72 : decode cL_law 72 = .ok (.aload_n 2, 1) := by decide +kernel
theorem dL_law_73 : decode cL_law 73 = .ok (.aload_n 3, 1) := by decide +kernel
theorem dL_law_74 : decode cL_law 74 = .ok (.aload 4, 2) := by decide +kernel
theorem dL_law_76 : decode cL_law 76 = .ok (.aload_n 0, 1) := by decide +kernel
theorem dL_law_77 : decode cL_law 77 = .ok (.iconst 4, 1) := by decide +kernel
theorem dL_law_78 : decode cL_law 78 = .ok (.iload 6, 2) := by decide +kernel
theorem dL_law_80 : decode cL_law 80 = .ok (.imul, 1) := by decide +kernel
theorem dL_law_81 : decode cL_law 81 = .ok (.iconst 1, 1) := by decide +kernel
theorem dL_law_82 : decode cL_law 82 = .ok (.iadd, 1) := by decide +kernel
theorem dL_law_83 : decode cL_law 83 = .ok (.bipush 10, 2) := by decide +kernel
theorem dL_law_85 : decode cL_law 85 = .ok (.invokestatic 102, 3) := by decide +kernel
theorem dL_law_88 : decode cL_law 88 = .ok (.aload_n 0, 1) := by decide +kernel
theorem dL_law_89 : decode cL_law 89 = .ok (.iconst 4, 1) := by decide +kernel
theorem dL_law_90 : decode cL_law 90 = .ok (.iload 6, 2) := by decide +kernel
theorem dL_law_92 : decode cL_law 92 = .ok (.imul, 1) := by decide +kernel
theorem dL_law_93 : decode cL_law 93 = .ok (.iconst 2, 1) := by decide +kernel
theorem dL_law_94 : decode cL_law 94 = .ok (.iadd, 1) := by decide +kernel
theorem dL_law_95 : decode cL_law 95 = .ok (.bipush 10, 2) := by decide +kernel
theorem dL_law_97 : decode cL_law 97 = .ok (.invokestatic 102, 3) := by decide +kernel
theorem dL_law_100 : decode cL_law 100 = .ok (.invokestatic 121, 3) := by decide +kernel
theorem dL_law_103 : decode cL_law 103 = .ok (.ifCond .eq 7, 3) := by decide +kernel
theorem dL_law_106 : decode cL_law 106 = .ok (.iconst 1, 1) := by decide +kernel
theorem dL_law_107 : decode cL_law 107 = .ok (.goto 4, 3) := by decide +kernel
theorem dL_law_110 : decode cL_law 110 = .ok (.iconst 0, 1) := by decide +kernel
theorem dL_law_111 : decode cL_law 111 = .ok (.istore 5, 2) := by decide +kernel
theorem dL_law_113 : decode cL_law 113 = .ok (.iinc 6 1, 3) := by decide +kernel
theorem dL_law_116 : decode cL_law 116 = .ok (.goto (-73), 3) := by decide +kernel
theorem dL_law_119 : decode cL_law 119 = .ok (.iload 5, 2) := by decide +kernel
theorem dL_law_121 : decode cL_law 121 = .ok (.ifCond .eq 132, 3) := by decide +kernel
theorem dL_law_124 : decode cL_law 124 = .ok (.aload_n 1, 1) := by decide +kernel
theorem dL_law_125 : decode cL_law 125 = .ok (.aload_n 2, 1) := by decide +kernel
theorem dL_law_126 : decode cL_law 126 = .ok (.aload_n 3, 1) := by decide +kernel
theorem dL_law_127 : decode cL_law 127 = .ok (.invokestatic 117, 3) := by decide +kernel
theorem dL_law_130 : decode cL_law 130 = .ok (.ifCond .eq 123, 3) := by decide +kernel
theorem dL_law_133 : decode cL_law 133 = .ok (.aload_n 1, 1) := by decide +kernel
theorem dL_law_134 : decode cL_law 134 = .ok (.iconst 0, 1) := by decide +kernel
theorem dL_law_135 : decode cL_law 135 = .ok (.iconst (-1), 1) := by decide +kernel
theorem dL_law_136 : decode cL_law 136 = .ok (.iconst 0, 1) := by decide +kernel
theorem dL_law_137 : decode cL_law 137 = .ok (.iconst 1, 1) := by decide +kernel
theorem dL_law_138 : decode cL_law 138 = .ok (.iconst 0, 1) := by decide +kernel
theorem dL_law_139 : decode cL_law 139 = .ok (.invokestatic 80, 3) := by decide +kernel
theorem dL_law_142 : decode cL_law 142 = .ok (.bipush (-20), 2) := by decide +kernel
theorem dL_law_144 : decode cL_law 144 = .ok (.if_icmp .ne 109, 3) := by decide +kernel
theorem dL_law_147 : decode cL_law 147 = .ok (.aload_n 1, 1) := by decide +kernel
theorem dL_law_148 : decode cL_law 148 = .ok (.iconst 0, 1) := by decide +kernel
theorem dL_law_149 : decode cL_law 149 = .ok (.iconst 0, 1) := by decide +kernel
theorem dL_law_150 : decode cL_law 150 = .ok (.iconst 0, 1) := by decide +kernel
theorem dL_law_151 : decode cL_law 151 = .ok (.iconst 0, 1) := by decide +kernel
theorem dL_law_152 : decode cL_law 152 = .ok (.iconst 0, 1) := by decide +kernel
theorem dL_law_153 : decode cL_law 153 = .ok (.invokestatic 80, 3) := by decide +kernel
theorem dL_law_156 : decode cL_law 156 = .ok (.bipush (-20), 2) := by decide +kernel
theorem dL_law_158 : decode cL_law 158 = .ok (.if_icmp .ne 95, 3) := by decide +kernel
theorem dL_law_161 : decode cL_law 161 = .ok (.aload_n 1, 1) := by decide +kernel
theorem dL_law_162 : decode cL_law 162 = .ok (.iconst 1, 1) := by decide +kernel
theorem dL_law_163 : decode cL_law 163 = .ok (.iconst (-1), 1) := by decide +kernel
theorem dL_law_164 : decode cL_law 164 = .ok (.iconst 0, 1) := by decide +kernel
theorem dL_law_165 : decode cL_law 165 = .ok (.iconst 0, 1) := by decide +kernel
theorem dL_law_166 : decode cL_law 166 = .ok (.iconst 0, 1) := by decide +kernel
theorem dL_law_167 : decode cL_law 167 = .ok (.invokestatic 80, 3) := by decide +kernel
theorem dL_law_170 : decode cL_law 170 = .ok (.bipush (-30), 2) := by decide +kernel
theorem dL_law_172 : decode cL_law 172 = .ok (.if_icmp .ne 81, 3) := by decide +kernel
theorem dL_law_175 : decode cL_law 175 = .ok (.aload_n 1, 1) := by decide +kernel
theorem dL_law_176 : decode cL_law 176 = .ok (.iconst 2, 1) := by decide +kernel
theorem dL_law_177 : decode cL_law 177 = .ok (.iconst 0, 1) := by decide +kernel
theorem dL_law_178 : decode cL_law 178 = .ok (.iconst (-1), 1) := by decide +kernel
theorem dL_law_179 : decode cL_law 179 = .ok (.bipush 101, 2) := by decide +kernel
theorem dL_law_181 : decode cL_law 181 = .ok (.iconst 0, 1) := by decide +kernel
theorem dL_law_182 : decode cL_law 182 = .ok (.invokestatic 80, 3) := by decide +kernel
theorem dL_law_185 : decode cL_law 185 = .ok (.bipush (-30), 2) := by decide +kernel
theorem dL_law_187 : decode cL_law 187 = .ok (.if_icmp .ne 66, 3) := by decide +kernel
theorem dL_law_190 : decode cL_law 190 = .ok (.aload_n 1, 1) := by decide +kernel
theorem dL_law_191 : decode cL_law 191 = .ok (.iconst 3, 1) := by decide +kernel
theorem dL_law_192 : decode cL_law 192 = .ok (.bipush 10, 2) := by decide +kernel
theorem dL_law_194 : decode cL_law 194 = .ok (.iconst 0, 1) := by decide +kernel
theorem dL_law_195 : decode cL_law 195 = .ok (.iconst 0, 1) := by decide +kernel
theorem dL_law_196 : decode cL_law 196 = .ok (.iconst 0, 1) := by decide +kernel
theorem dL_law_197 : decode cL_law 197 = .ok (.invokestatic 80, 3) := by decide +kernel
theorem dL_law_200 : decode cL_law 200 = .ok (.bipush (-30), 2) := by decide +kernel
theorem dL_law_202 : decode cL_law 202 = .ok (.if_icmp .ne 51, 3) := by decide +kernel
theorem dL_law_205 : decode cL_law 205 = .ok (.aload_n 1, 1) := by decide +kernel
theorem dL_law_206 : decode cL_law 206 = .ok (.iconst 4, 1) := by decide +kernel
theorem dL_law_207 : decode cL_law 207 = .ok (.iconst (-1), 1) := by decide +kernel
theorem dL_law_208 : decode cL_law 208 = .ok (.iconst 0, 1) := by decide +kernel
theorem dL_law_209 : decode cL_law 209 = .ok (.iconst 0, 1) := by decide +kernel
theorem dL_law_210 : decode cL_law 210 = .ok (.iconst 0, 1) := by decide +kernel
theorem dL_law_211 : decode cL_law 211 = .ok (.invokestatic 80, 3) := by decide +kernel
theorem dL_law_214 : decode cL_law 214 = .ok (.bipush (-30), 2) := by decide +kernel
theorem dL_law_216 : decode cL_law 216 = .ok (.if_icmp .ne 37, 3) := by decide +kernel
theorem dL_law_219 : decode cL_law 219 = .ok (.aload_n 1, 1) := by decide +kernel
theorem dL_law_220 : decode cL_law 220 = .ok (.iconst 5, 1) := by decide +kernel
theorem dL_law_221 : decode cL_law 221 = .ok (.iconst 0, 1) := by decide +kernel
theorem dL_law_222 : decode cL_law 222 = .ok (.iconst 0, 1) := by decide +kernel
theorem dL_law_223 : decode cL_law 223 = .ok (.iconst 0, 1) := by decide +kernel
theorem dL_law_224 : decode cL_law 224 = .ok (.iconst 0, 1) := by decide +kernel
theorem dL_law_225 : decode cL_law 225 = .ok (.invokestatic 80, 3) := by decide +kernel
theorem dL_law_228 : decode cL_law 228 = .ok (.bipush (-20), 2) := by decide +kernel
theorem dL_law_230 : decode cL_law 230 = .ok (.if_icmp .ne 23, 3) := by decide +kernel
theorem dL_law_233 : decode cL_law 233 = .ok (.aload_n 1, 1) := by decide +kernel
theorem dL_law_234 : decode cL_law 234 = .ok (.bipush 6, 2) := by decide +kernel
theorem dL_law_236 : decode cL_law 236 = .ok (.iconst 0, 1) := by decide +kernel
theorem dL_law_237 : decode cL_law 237 = .ok (.bipush 10, 2) := by decide +kernel
theorem dL_law_239 : decode cL_law 239 = .ok (.iconst 0, 1) := by decide +kernel
theorem dL_law_240 : decode cL_law 240 = .ok (.iconst 0, 1) := by decide +kernel
theorem dL_law_241 : decode cL_law 241 = .ok (.invokestatic 80, 3) := by decide +kernel
theorem dL_law_244 : decode cL_law 244 = .ok (.bipush (-30), 2) := by decide +kernel
theorem dL_law_246 : decode cL_law 246 = .ok (.if_icmp .ne 7, 3) := by decide +kernel
theorem dL_law_249 : decode cL_law 249 = .ok (.iconst 1, 1) := by decide +kernel
theorem dL_law_250 : decode cL_law 250 = .ok (.goto 4, 3) := by decide +kernel
theorem dL_law_253 : decode cL_law 253 = .ok (.iconst 0, 1) := by decide +kernel
theorem dL_law_254 : decode cL_law 254 = .ok (.ireturn, 1) := by decide +kernel
end
section
/-! the mesh's world: one object and 54 arrays, told by a function of place and index -/
abbrev rm_St : Type := Nat → Nat → Int32
def rm_up (σ : rm_St) (k j : Nat) (v : Int32) : rm_St := fun a b => if a = k ∧ b = j then v else σ a b
theorem rm_up_s (σ : rm_St) (k j : Nat) (v : Int32) : rm_up σ k j v k j = v := if_pos ⟨rfl, rfl⟩
theorem rm_up_k {σ : rm_St} {k j : Nat} {v : Int32} {a b : Nat} (h : a ≠ k) : rm_up σ k j v a b = σ a b := if_neg fun q => h q.1
theorem rm_up_j {σ : rm_St} {k j : Nat} {v : Int32} {a b : Nat} (h : b ≠ j) : rm_up σ k j v a b = σ a b := if_neg fun q => h q.2
theorem rm_up_row {σ : rm_St} {k j : Nat} {v : Int32} : rm_up σ k j v k = upd (σ k) j v := by
  funext b
  by_cases h : b = j
  · subst h
    rw [rm_up_s]
    simp [upd]
  · rw [rm_up_j h]
    simp [upd, h]
theorem rm_up_row_ne {σ : rm_St} {k j : Nat} {v : Int32} {a : Nat} (h : a ≠ k) : rm_up σ k j v a = σ a := funext fun _ => rm_up_k h
def bI (b : Bool) : Int32 := if b then 1 else 0
theorem bI_t : bI true = 1 := rfl
theorem bI_f : bI false = 0 := rfl
theorem bI_0 {b : Bool} (h : bI b = 0) : b = false := by cases b <;> first | rfl | exact absurd h (by decide)
theorem bI_n {b : Bool} (h : ¬ bI b = 0) : b = true := by cases b <;> first | rfl | exact absurd rfl h
def isNd (x : Int32) : Bool := decide (¬ x < 0) && decide (x < 10)
theorem isNd_of {x : Int32} (h : isNd x = true) : ∃ o : Nat, o < 10 ∧ x = nI o := by
  simp only [isNd, Bool.and_eq_true, decide_eq_true_eq] at h
  obtain ⟨j, hj, e⟩ := nI_of h.1
  refine ⟨j, ?_, e⟩
  have h2 := h.2
  rw [e, show (10 : Int32) = nI 10 from rfl, nI_ltI hj (by decide)] at h2
  exact h2
theorem isNd_nI {o : Nat} (h : o < 10) : isNd (nI o) = true := by
  simp only [isNd, Bool.and_eq_true, decide_eq_true_eq]
  exact ⟨nI_pos (by omega), (show nI o < nI 10 from nI_lt h (by decide))⟩
abbrev rm_K : Type := va_G × (ClassId × ClassId × ClassId)
def rm_ty (k : rm_K) : List (ClassId × FieldType) := [(k.2.1, .int), (k.2.2.1, .boolean), (k.2.2.2, .array .int)]
def rm_F (a : Nat → Nat) (σ : rm_St) : List Value := [.int (σ 0 0), .int (σ 0 1), .int (σ 0 2), .int (σ 0 3), .int (σ 0 4), .int (σ 0 5), .ref (a 1), .ref (a 2), .ref (a 3), .ref (a 4), .ref (a 5), .ref (a 6), .ref (a 7), .ref (a 8), .ref (a 9), .ref (a 10), .ref (a 11), .ref (a 12), .ref (a 13), .ref (a 14)]
def rm_G (a : Nat → Nat) (g : Nat) : Nat → Option Nat := fun i => if i < 10 then some (a (5 + 10 * g + i)) else none
def rm_E (k : rm_K) (a : Nat → Nat) (σ : rm_St) (q : Nat) : va_E :=
  if q = 0 then .inr (0, rm_F a σ)
  else if q < 5 then .inl (k.2.2.2, 10, .inr (.inr (.inr (.inr (rm_G a q)))))
  else if q = 5 then .inl (k.2.2.1, 10, .inl (σ q))
  else .inl (k.2.1, 10, .inl (σ q))
def rm_W (k : rm_K) (a : Nat → Nat) (σ : rm_St) : va_W := (List.range 55).map (fun q => (a q, rm_E k a σ q))
theorem rm_get {k : rm_K} {a : Nat → Nat} {σ : rm_St} {q : Nat} (hq : q < 55) : (rm_W k a σ)[q]? = some (a q, rm_E k a σ q) := by simp [rm_W, hq]
theorem rm_get_of {k : rm_K} {a : Nat → Nat} {σ : rm_St} {j : Nat} {x : Nat × va_E} (h : (rm_W k a σ)[j]? = some x) : j < 55 ∧ x = (a j, rm_E k a σ j) := by
  have hj : j < 55 := by
    have := (List.getElem?_eq_some_iff.mp h).1
    simpa [rm_W] using this
  rw [rm_get hj] at h
  exact ⟨hj, (Option.some.inj h).symm⟩
theorem rm_E0 {k : rm_K} {a : Nat → Nat} {σ : rm_St} : rm_E k a σ 0 = .inr (0, rm_F a σ) := rfl
theorem rm_E5 {k : rm_K} {a : Nat → Nat} {σ : rm_St} : rm_E k a σ 5 = .inl (k.2.2.1, 10, .inl (σ 5)) := rfl
theorem rm_Eg {k : rm_K} {a : Nat → Nat} {σ : rm_St} {q : Nat} (h : 1 ≤ q ∧ q < 5) : rm_E k a σ q = .inl (k.2.2.2, 10, .inr (.inr (.inr (.inr (rm_G a q))))) := by
  unfold rm_E
  rw [if_neg (by omega), if_pos h.2]
theorem rm_Er {k : rm_K} {a : Nat → Nat} {σ : rm_St} {q : Nat} (h : 6 ≤ q) : rm_E k a σ q = .inl (k.2.1, 10, .inl (σ q)) := by
  unfold rm_E
  rw [if_neg (by omega), if_neg (by omega), if_neg (by omega)]
theorem rm_E_ne {k : rm_K} {a : Nat → Nat} {σ : rm_St} {q j r : Nat} {v : Int32} (h : r ≠ q) : rm_E k a (rm_up σ q j v) r = rm_E k a σ r := by
  unfold rm_E
  by_cases h0 : r = 0
  · subst h0
    rw [if_pos rfl, if_pos rfl]
    unfold rm_F
    rw [rm_up_row_ne h]
  · rw [if_neg h0, if_neg h0, rm_up_row_ne h]
theorem rm_set {k : rm_K} {a : Nat → Nat} {σ : rm_St} {q j : Nat} {v : Int32} {e : va_E} (hq : q < 55) (he : rm_E k a (rm_up σ q j v) q = e) : (rm_W k a σ).set q (a q, e) = rm_W k a (rm_up σ q j v) := by
  apply List.ext_getElem?
  intro i
  by_cases hi : i = q
  · subst hi
    rw [List.getElem?_set_self (by simp [rm_W, hq]), rm_get hq, he]
  · rw [List.getElem?_set_ne (Ne.symm hi)]
    by_cases hl : i < 55
    · rw [rm_get hl, rm_get hl, rm_E_ne hi]
    · rw [List.getElem?_eq_none (by simp [rm_W]; omega), List.getElem?_eq_none (by simp [rm_W]; omega)]
def rm_inj (a : Nat → Nat) : Prop := ∀ i j, i < 55 → j < 55 → a i = a j → i = j
def rm_A (a : Nat → Nat) (sz : Nat) : Nat → Prop := fun q => (∃ j, j < 55 ∧ q = a j) ∨ sz ≤ q
def rm_P (k : rm_K) (a : Nat → Nat) (σ : rm_St) (U : State) : Prop := va_P k.1 vwCl (rm_W k a σ) U.heap ∧ va_K k.1 vwCl (rm_ty k) U
theorem rm_D {k : rm_K} {a : Nat → Nat} {σ : rm_St} {A : Nat → Prop} (h : rm_inj a) (hA : ∀ j, j < 55 → A (a j)) : va_D A (rm_W k a σ) := by
  refine ⟨fun i j x y hi hj hxy => ?_, fun q x hq => ?_⟩
  · obtain ⟨h1, e1⟩ := rm_get_of hi
    obtain ⟨h2, e2⟩ := rm_get_of hj
    rw [e1, e2] at hxy
    exact h i j h1 h2 hxy
  · obtain ⟨h1, e1⟩ := rm_get_of hq
    rw [e1]
    exact hA q h1
theorem rm_D_inj {k : rm_K} {a : Nat → Nat} {σ : rm_St} {A : Nat → Prop} (h : va_D A (rm_W k a σ)) : rm_inj a := fun i j hi hj e => h.1 i j _ _ (rm_get hi) (rm_get hj) e
theorem rm_D_A {k : rm_K} {a : Nat → Nat} {σ : rm_St} {A : Nat → Prop} (h : va_D A (rm_W k a σ)) : ∀ j, j < 55 → A (a j) := fun j hj => h.2 j _ (rm_get hj)
/-- the world of a walk: the classes, the cells, apart and among those that may change, and what has changed so far -/
def rm_Wd (k : rm_K) (a : Nat → Nat) (A : Nat → Prop) (H0 : Heap) (s : State) (σ : rm_St) (H : Heap) (locs : List Loc) : Prop :=
  va_K k.1 vwCl (rm_ty k) s ∧ va_P k.1 vwCl (rm_W k a σ) H ∧ va_D A (rm_W k a σ) ∧ va_S A H0 H locs
section RMR
variable {p : Program} {l : Launch} {e : Env} {R : Room} {s : State} {m : MethodId} {args : Array Value} {below : List Frame} {meth : Method} {c : Code} {H : Heap} {locs : List Loc} {cells slots : Nat} {Q : State → Prop}
variable {cc : ByteArray} {pc nL : Nat} {ls : Array Slot} {rest : List Value} {Ts : List Cond} {own : String} {k : rm_K} {a : Nat → Nat} {A : Nat → Prop} {H0 : Heap} {σ : rm_St}
abbrev rm_C (p : Program) (m : MethodId) (c : Code) (cc : ByteArray) (nL : Nat) (s : State) (args : Array Value) (Ts : List Cond) : Prop := CallFix p m c cc nL s args Ts RX0 ∧ ∀ w ∈ u_ws RX0 TX0 20, w ∈ Ts
theorem rm_iald (C : rm_C p m c cc nL s args Ts) (hw : rm_Wd k a A H0 s σ H locs) {q i : Nat} (hq : 6 ≤ q ∧ q < 55) (hi : i < 10) (hdg : decode cc pc = .ok (.iaload, 1))
    (kk : W p l e R s m args below meth c H locs cells slots Q (F0 m (pc + 1) ls (.int (σ q i) :: rest))) : W p l e R s m args below meth c H locs cells slots Q (F0 m pc ls (.int (nI i) :: .ref (a q) :: rest)) := by
  have hc : (nI i).toNatClampNeg = i := nI_clamp (by omega)
  refine va_iald C.1.1 C.1.2.1 hw.1 hw.2.1 q 0 (n := 10) (f := σ q) (cA := k.2.1) (by rw [rm_get hq.2, rm_Er hq.1]) rfl (vp_in_nI hi (by decide)) hdg ?_
  rw [hc]
  exact kk
theorem rm_zald (C : rm_C p m c cc nL s args Ts) (hw : rm_Wd k a A H0 s σ H locs) {i : Nat} (hi : i < 10) (hdg : decode cc pc = .ok (.baload, 1))
    (kk : W p l e R s m args below meth c H locs cells slots Q (F0 m (pc + 1) ls (.int (σ 5 i) :: rest))) : W p l e R s m args below meth c H locs cells slots Q (F0 m pc ls (.int (nI i) :: .ref (a 5) :: rest)) := by
  have hc : (nI i).toNatClampNeg = i := nI_clamp (by omega)
  refine va_zald C.1.1 C.1.2.1 hw.1 hw.2.1 5 1 (n := 10) (f := σ 5) (cA := k.2.2.1) (by rw [rm_get (by decide), rm_E5]) rfl (vp_in_nI hi (by decide)) hdg ?_
  rw [hc]
  exact kk
theorem rm_iast (C : rm_C p m c cc nL s args Ts) (hw : rm_Wd k a A H0 s σ H locs) {q i : Nat} {x : Int32} (hq : 6 ≤ q ∧ q < 55) (hi : i < 10) (hdg : decode cc pc = .ok (.iastore, 1))
    (kk : ∀ (H1 : Heap) (locs1 : List Loc), rm_Wd k a A H0 s (rm_up σ q i x) H1 locs1 → W p l e R s m args below meth c H1 locs1 cells slots Q (F0 m (pc + 1) ls rest)) : W p l e R s m args below meth c H locs cells slots Q (F0 m pc ls (.int x :: .int (nI i) :: .ref (a q) :: rest)) := by
  have hc : (nI i).toNatClampNeg = i := nI_clamp (by omega)
  refine va_iast C.1.1 C.1.2.1 hw.1 hw.2.1 hw.2.2.1 hw.2.2.2 q 0 (n := 10) (f := σ q) (cA := k.2.1) (by rw [rm_get hq.2, rm_Er hq.1]) rfl (vp_in_nI hi (by decide)) hdg (fun H1 locs1 hP hD hS => ?_)
  rw [hc, rm_set (j := i) (v := x) hq.2 (by rw [rm_Er hq.1, rm_up_row])] at hP hD
  exact kk H1 locs1 ⟨hw.1, hP, hD, hS⟩
theorem rm_zast (C : rm_C p m c cc nL s args Ts) (hw : rm_Wd k a A H0 s σ H locs) {i : Nat} {x : Int32} (hi : i < 10) (hx : vp_nar .boolean x = x) (hdg : decode cc pc = .ok (.bastore, 1))
    (kk : ∀ (H1 : Heap) (locs1 : List Loc), rm_Wd k a A H0 s (rm_up σ 5 i x) H1 locs1 → W p l e R s m args below meth c H1 locs1 cells slots Q (F0 m (pc + 1) ls rest)) : W p l e R s m args below meth c H locs cells slots Q (F0 m pc ls (.int x :: .int (nI i) :: .ref (a 5) :: rest)) := by
  have hc : (nI i).toNatClampNeg = i := nI_clamp (by omega)
  refine va_zast C.1.1 C.1.2.1 hw.1 hw.2.1 hw.2.2.1 hw.2.2.2 5 1 (n := 10) (f := σ 5) (cA := k.2.2.1) (by rw [rm_get (by decide), rm_E5]) rfl (vp_in_nI hi (by decide)) hdg (fun H1 locs1 hP hD hS => ?_)
  rw [hc, hx, rm_set (j := i) (v := x) (by decide) (by rw [rm_E5, rm_up_row])] at hP hD
  exact kk H1 locs1 ⟨hw.1, hP, hD, hS⟩
theorem rm_aald (C : rm_C p m c cc nL s args Ts) (hw : rm_Wd k a A H0 s σ H locs) {g i : Nat} (r : Nat) (hg : 1 ≤ g ∧ g < 5 ∧ 5 + 10 * g = r) (hi : i < 10) (hdg : decode cc pc = .ok (.aaload, 1))
    (kk : W p l e R s m args below meth c H locs cells slots Q (F0 m (pc + 1) ls (.ref (a (r + i)) :: rest))) : W p l e R s m args below meth c H locs cells slots Q (F0 m pc ls (.int (nI i) :: .ref (a g) :: rest)) := by
  have hc : (nI i).toNatClampNeg = i := nI_clamp (by omega)
  have hin : vp_in (nI i) 10 := vp_in_nI hi (by decide)
  have ha : (rm_W k a σ)[g]? = some (a g, .inl (k.2.2.2, 10, .inr (.inr (.inr (.inr (rm_G a g)))))) := by rw [rm_get (by omega), rm_Eg ⟨hg.1, hg.2.1⟩]
  have hlt : (nI i).toNatClampNeg < 10 := by rw [hc]; exact hi
  have hv : va_rf (rm_G a g (nI i).toNatClampNeg) = .ref (a (r + i)) := by rw [hc]; unfold rm_G; rw [if_pos hi, hg.2.2]; rfl
  refine W.aald (v := va_rf (rm_G a g (nI i).toNatClampNeg)) (ty := .array .int) C.1.1 C.1.2.1 (hw.2.1 g _ ha) ((hw.1.2 2 _ rfl).1 10 (fun j => va_rf (rm_G a g j))) rfl (fun q => by cases q) (by show ¬ (nI i < 0 ∨ (arrV _ _ _).slots.size ≤ _); rw [arrV_size]; exact hin) (by show (arrV _ _ _).slots[_]? = _; rw [arrV_read _ _ hlt]) rfl rfl hdg ?_
  rw [hv]
  exact kk
theorem rm_F_i {j : Nat} (hj : j < 6) : (rm_F a σ)[j]? = some (.int (σ 0 j)) := by
  match j, hj with
  | 0, _ => rfl
  | 1, _ => rfl
  | 2, _ => rfl
  | 3, _ => rfl
  | 4, _ => rfl
  | 5, _ => rfl
theorem rm_F_set {j : Nat} (hj : j < 6) {v : Int32} : rm_F a (rm_up σ 0 j v) = (rm_F a σ).set j (.int v) := by
  match j, hj with
  | 0, _ => simp [rm_F, rm_up]
  | 1, _ => simp [rm_F, rm_up]
  | 2, _ => simp [rm_F, rm_up]
  | 3, _ => simp [rm_F, rm_up]
  | 4, _ => simp [rm_F, rm_up]
  | 5, _ => simp [rm_F, rm_up]
theorem rm_geti (C : rm_C p m c cc nL s args Ts) (hw : rm_Wd k a A H0 s σ H locs) (j : Nat) (hj : j < 6) {index : Nat} (hl : (Cond.fieldLink RX0 index "RankMesh" (TX0 j).2.1 (TX0 j).2.2.1).before args s = true) (hsame : (TX0 j).1 = "RankMesh") (hdg : decode cc pc = .ok (.getfield index, 3))
    (kk : W p l e R s m args below meth c H locs cells slots Q (F0 m (pc + 3) ls (.int (σ 0 j) :: rest))) : W p l e R s m args below meth c H locs cells slots Q (F0 m pc ls (.ref (a 0) :: rest)) :=
  va_get (D := k.1) (ci := 0) (v := .int (σ 0 j)) (C := RX0) (T := TX0) (N := 20) C.1.1 C.1.2.1 C.1.2.2.2.2 C.2 C.1.2.2.2.1 hw.1 hw.2.1 0 (rm_get (by decide)) rfl j (by omega) hl (fun _ h9 => by rw [hsame] at h9; exact h9) (rm_F_i hj) hdg kk
theorem rm_geta (C : rm_C p m c cc nL s args Ts) (hw : rm_Wd k a A H0 s σ H locs) (f q : Nat) (hf : f < 20) (hv : (rm_F a σ)[f]? = some (.ref (a q))) {index : Nat} (hl : (Cond.fieldLink RX0 index "RankMesh" (TX0 f).2.1 (TX0 f).2.2.1).before args s = true) (hsame : (TX0 f).1 = "RankMesh") (hdg : decode cc pc = .ok (.getfield index, 3))
    (kk : W p l e R s m args below meth c H locs cells slots Q (F0 m (pc + 3) ls (.ref (a q) :: rest))) : W p l e R s m args below meth c H locs cells slots Q (F0 m pc ls (.ref (a 0) :: rest)) :=
  va_get (D := k.1) (ci := 0) (v := .ref (a q)) (C := RX0) (T := TX0) (N := 20) C.1.1 C.1.2.1 C.1.2.2.2.2 C.2 C.1.2.2.2.1 hw.1 hw.2.1 0 (rm_get (by decide)) rfl f hf hl (fun _ h9 => by rw [hsame] at h9; exact h9) hv hdg kk
theorem rm_puti (C : rm_C p m c cc nL s args Ts) (hw : rm_Wd k a A H0 s σ H locs) (j : Nat) (hj : j < 6) {x : Int32} {index : Nat} (hl : (Cond.fieldLink RX0 index "RankMesh" (TX0 j).2.1 (TX0 j).2.2.1).before args s = true) (hsame : (TX0 j).1 = "RankMesh") (hfin : (TX0 j).2.2.2 = false) (hd : parseFieldDescriptor (TX0 j).2.2.1 = some .int) (hdg : decode cc pc = .ok (.putfield index, 3))
    (kk : ∀ (H1 : Heap) (locs1 : List Loc), rm_Wd k a A H0 s (rm_up σ 0 j x) H1 locs1 → W p l e R s m args below meth c H1 locs1 cells slots Q (F0 m (pc + 3) ls rest)) : W p l e R s m args below meth c H locs cells slots Q (F0 m pc ls (.int x :: .ref (a 0) :: rest)) := by
  refine va_put (D := k.1) (ci := 0) (v := .int x) (ty := .int) (C := RX0) (T := TX0) (N := 20) (fs := rm_F a σ) C.1.1 C.1.2.1 C.1.2.2.2.2 C.2 tyX0 tyX0_ok nmX0 C.1.2.2.2.1 hw.1 hw.2.1 hw.2.2.1 hw.2.2.2 0 (rm_get (by decide)) rfl j (by omega) hl (fun _ h9 => by rw [hsame] at h9; exact h9) hfin hd rfl rfl (by show j < 20; omega) hdg (fun H1 locs1 hP hD hS => ?_)
  rw [rm_set (j := j) (v := x) (by decide) (by rw [rm_E0, rm_F_set hj])] at hP hD
  exact kk H1 locs1 ⟨hw.1, hP, hD, hS⟩
/-- a branch on a truth value -/
theorem rm_ifeq (hexec : p.tables.exec = Jvm.exec) (hb : c.code = cc) {b : Bool} {off : Int} {tgt : Nat} (hdg : decode cc pc = .ok (.ifCond .eq off, 3)) (ht : (pc : Int) + off = (tgt : Int))
    (kt : b = false → W p l e R s m args below meth c H locs cells slots Q (F0 m tgt ls rest)) (kf : b = true → W p l e R s m args below meth c H locs cells slots Q (F0 m (pc + 3) ls rest)) : W p l e R s m args below meth c H locs cells slots Q (F0 m pc ls (.int (bI b) :: rest)) :=
  lv_if_eq hexec hb hdg ht (fun h => kt (bI_0 h)) (fun h => kf (bI_n h))
theorem rm_ifne (hexec : p.tables.exec = Jvm.exec) (hb : c.code = cc) {b : Bool} {off : Int} {tgt : Nat} (hdg : decode cc pc = .ok (.ifCond .ne off, 3)) (ht : (pc : Int) + off = (tgt : Int))
    (kt : b = true → W p l e R s m args below meth c H locs cells slots Q (F0 m tgt ls rest)) (kf : b = false → W p l e R s m args below meth c H locs cells slots Q (F0 m (pc + 3) ls rest)) : W p l e R s m args below meth c H locs cells slots Q (F0 m pc ls (.int (bI b) :: rest)) :=
  lv_if_ne hexec hb hdg ht (fun h => kt (bI_n h)) (fun h => kf (bI_0 h))
end RMR
/-- contracts: an int, nothing -/
def rm_MI (l : Launch) (k : rm_K) (a : Nat → Nat) (y : MethodName) (ws : List Cond) (rmm : Room) (As : List Value) (σ : rm_St) (r0 : Int32) (σ0 : rm_St) : Prop :=
  ∀ sz : Nat, Met l y ws rmm (va_Pc (.ref (a 0) :: As) (fun U => U.heap.size = sz ∧ rm_P k a σ U)) (va_Qi (fun (r : Int32) (τ : rm_St) => r = r0 ∧ τ = σ0) (fun τ t => rm_P k a τ t) (rm_A a sz)) 0 0 (rm_A a sz)
def rm_MV (l : Launch) (k : rm_K) (a : Nat → Nat) (y : MethodName) (ws : List Cond) (rmm : Room) (As : List Value) (σ : rm_St) (σ0 : rm_St) : Prop :=
  ∀ sz : Nat, Met l y ws rmm (va_Pc (.ref (a 0) :: As) (fun U => U.heap.size = sz ∧ rm_P k a σ U)) (va_Qv (fun (τ : rm_St) => τ = σ0) (fun τ t => rm_P k a τ t) (rm_A a sz)) 0 0 (rm_A a sz)
section RME
variable {l : Launch} {k : rm_K} {a : Nat → Nat} {y : MethodName} {ws ws' : List Cond} {rmm : Room} {As : List Value} {σ σ0 σ' : rm_St} {r0 : Int32} {cc : ByteArray} {nL : Nat} {ret : Option FieldType}
theorem rm_start {s : State} (ha : rm_inj a) (h : rm_P k a σ s) : rm_Wd k a (rm_A a s.heap.size) s.heap s σ s.heap [] :=
  ⟨h.2, h.1, rm_D ha (fun j hj => Or.inl ⟨j, hj, rfl⟩), va_S.rf⟩
theorem rm_enterI (ha : rm_inj a) (hy : plainName y.cls = true) (hcls : y.cls = RX0) (hw : ws = Cond.code y cc nL ret :: ws') (hin : ∀ w ∈ u_ws RX0 TX0 20, w ∈ ws) (hn : (lg_sl (.ref (a 0) :: As)).length ≤ nL)
    (body : ∀ (p : Program) (e : Env) (s : State) (m : MethodId) (args : Array Value) (below : List Frame) (meth : Method) (c : Code) (ls : Array Slot), rm_C p m c cc nL s args ws → meth.sig.returnType = ret → meth.locks = false → rm_Wd k a (rm_A a s.heap.size) s.heap s σ s.heap [] → lv_has ls nL (lv_args 0 (.ref (a 0) :: As)) →
      W p l e (headSpec ws rmm).room s m args below meth c s.heap [] 0 0 (MQ below (va_Qi (fun (r : Int32) (τ : rm_St) => r = r0 ∧ τ = σ0) (fun τ t => rm_P k a τ t) (rm_A a s.heap.size)) args s 0 0 (rm_A a s.heap.size)) (F0 m 0 ls [])) : rm_MI l k a y ws rmm As σ r0 σ0 := by
  intro sz
  refine Met.ofW (cc := cc) (maxL := nL) (ret := ret) hy hw ?_
  intro p e s m args below meth c s₁ B hml hv
  obtain ⟨rfl, hsz, hP⟩ := hv
  have hown : s.vm.findClass RX0 = some m.cls := hcls ▸ findClass_of_methodNamed B.named
  subst hsz
  have hl := lv_entry (.ref (a 0) :: As) (n := nL) hn
  rw [lg_entry_eq]
  exact body p e s m _ below meth c _ ⟨⟨B.exec, B.bytes, hml, hown, atoms_spec (ws := ws) B.pre⟩, hin⟩ B.returns B.notSynchronized (rm_start ha hP) hl
theorem rm_enterV (ha : rm_inj a) (hy : plainName y.cls = true) (hcls : y.cls = RX0) (hw : ws = Cond.code y cc nL ret :: ws') (hin : ∀ w ∈ u_ws RX0 TX0 20, w ∈ ws) (hn : (lg_sl (.ref (a 0) :: As)).length ≤ nL)
    (body : ∀ (p : Program) (e : Env) (s : State) (m : MethodId) (args : Array Value) (below : List Frame) (meth : Method) (c : Code) (ls : Array Slot), rm_C p m c cc nL s args ws → meth.sig.returnType = ret → meth.locks = false → rm_Wd k a (rm_A a s.heap.size) s.heap s σ s.heap [] → lv_has ls nL (lv_args 0 (.ref (a 0) :: As)) →
      W p l e (headSpec ws rmm).room s m args below meth c s.heap [] 0 0 (MQ below (va_Qv (fun (τ : rm_St) => τ = σ0) (fun τ t => rm_P k a τ t) (rm_A a s.heap.size)) args s 0 0 (rm_A a s.heap.size)) (F0 m 0 ls [])) : rm_MV l k a y ws rmm As σ σ0 := by
  intro sz
  refine Met.ofW (cc := cc) (maxL := nL) (ret := ret) hy hw ?_
  intro p e s m args below meth c s₁ B hml hv
  obtain ⟨rfl, hsz, hP⟩ := hv
  have hown : s.vm.findClass RX0 = some m.cls := hcls ▸ findClass_of_methodNamed B.named
  subst hsz
  have hl := lv_entry (.ref (a 0) :: As) (n := nL) hn
  rw [lg_entry_eq]
  exact body p e s m _ below meth c _ ⟨⟨B.exec, B.bytes, hml, hown, atoms_spec (ws := ws) B.pre⟩, hin⟩ B.returns B.notSynchronized (rm_start ha hP) hl
end RME
section RMQ
variable {p : Program} {l : Launch} {e : Env} {R : Room} {s : State} {m : MethodId} {args : Array Value} {below : List Frame} {meth : Method} {c : Code} {H : Heap} {locs : List Loc} {cells slots : Nat} {Q : State → Prop}
variable {cc : ByteArray} {pc nL : Nat} {ls : Array Slot} {rest : List Value} {Ts : List Cond} {k : rm_K} {a : Nat → Nat} {A : Nat → Prop} {H0 : Heap} {σ σ0 : rm_St} {r0 v : Int32}
theorem rm_end {t : State} (hw : rm_Wd k a (rm_A a s.heap.size) s.heap s σ H locs) (ht : t.heap = H) (hW : s.WarmedH t.vm) : rm_P k a σ t ∧ va_F (rm_A a s.heap.size) s t :=
  ⟨⟨by rw [ht]; exact hw.2.1, va_K.moved hW.alike hw.1⟩, hw.2.2.2.F ht⟩
theorem rm_iret (C : rm_C p m c cc nL s args Ts) (hr : meth.sig.returnType = some .int) (hlocks : meth.locks = false) (hw : rm_Wd k a (rm_A a s.heap.size) s.heap s σ H locs) (hdg : decode cc pc = .ok (.ireturn, 1)) (h : v = r0 ∧ σ = σ0) :
    W p l e R s m args below meth c H locs cells slots (MQ below (va_Qi (fun (r : Int32) (τ : rm_St) => r = r0 ∧ τ = σ0) (fun τ t => rm_P k a τ t) (rm_A a s.heap.size)) args s cells slots (rm_A a s.heap.size)) (F0 m pc ls [.int v]) :=
  W.iret (v := v) C.1.1 C.1.2.1 hr (fun t ht hW => ⟨⟨v, σ, rfl, h, (rm_end hw ht hW).1⟩, (rm_end hw ht hW).2⟩) hw.2.2.2.2.2 hdg hlocks
theorem rm_zret (C : rm_C p m c cc nL s args Ts) (hr : meth.sig.returnType = some .boolean) (hlocks : meth.locks = false) (hw : rm_Wd k a (rm_A a s.heap.size) s.heap s σ H locs) (hn : narrow .boolean (.int v) = .int v) (hdg : decode cc pc = .ok (.ireturn, 1)) (h : v = r0 ∧ σ = σ0) :
    W p l e R s m args below meth c H locs cells slots (MQ below (va_Qi (fun (r : Int32) (τ : rm_St) => r = r0 ∧ τ = σ0) (fun τ t => rm_P k a τ t) (rm_A a s.heap.size)) args s cells slots (rm_A a s.heap.size)) (F0 m pc ls [.int v]) :=
  W.zret (v := v) C.1.1 C.1.2.1 hr hn (fun t ht hW => ⟨⟨v, σ, rfl, h, (rm_end hw ht hW).1⟩, (rm_end hw ht hW).2⟩) hw.2.2.2.2.2 hdg hlocks
theorem rm_vret (C : rm_C p m c cc nL s args Ts) (hr : meth.sig.returnType = none) (hlocks : meth.locks = false) (hw : rm_Wd k a (rm_A a s.heap.size) s.heap s σ H locs) (hdg : decode cc pc = .ok (.return_, 1)) (h : σ = σ0) :
    W p l e R s m args below meth c H locs cells slots (MQ below (va_Qv (fun (τ : rm_St) => τ = σ0) (fun τ t => rm_P k a τ t) (rm_A a s.heap.size)) args s cells slots (rm_A a s.heap.size)) (F0 m pc ls []) :=
  W.vret C.1.1 C.1.2.1 hr (fun t ht hW => ⟨⟨σ, rfl, h, (rm_end hw ht hW).1⟩, (rm_end hw ht hW).2⟩) hw.2.2.2.2.2 hdg hlocks
/-- what a call needs of the caller's world, and what it leaves -/
theorem rm_pre (hw : rm_Wd k a A H0 s σ H locs) (av : List Value) : PreV s H RX0 (a 0) (va_Pc (.ref (a 0) :: av) (fun U => U.heap.size = H.size ∧ rm_P k a σ U)) av :=
  ⟨fun x U g mk q => by obtain ⟨q0, q1, q2, q3⟩ := q; exact ⟨q0, q1, q2, va_K.moved (u := U) (U := U.calling g mk x) (Vm.Alike.refl U.vm) q3⟩,
    va_recv hw.1 hw.2.1 (ci := 0) (q0 := 0) (show vwCl[0]? = some (RX0, TX0, 20) from rfl) (rm_get (q := 0) (by decide)), fun U hU hW => ⟨rfl, by rw [hU], by rw [hU]; exact hw.2.1, va_K.moved hW.alike hw.1⟩⟩
theorem rm_sub (hw : rm_Wd k a A H0 s σ H locs) (hA : ∀ q, H0.size ≤ q → A q) : ∀ q, rm_A a H.size q → A q := fun q h => by
  rcases h with ⟨j, hj, rfl⟩ | h
  · exact rm_D_A hw.2.2.1 j hj
  · exact hA q (Nat.le_trans hw.2.2.2.1 h)
theorem rm_post {t : State} {H1 : Heap} {locs1 : List Loc} {τ : rm_St} (hw : rm_Wd k a A H0 s σ H locs) (ht : t.heap = H1) (hvm : s.vm.Alike t.vm) (hB : rm_P k a τ t) (hS : va_S A H0 H1 locs1) : rm_Wd k a A H0 s τ H1 locs1 :=
  ⟨va_K.moved hvm.symm hB.2, by rw [← ht]; exact hB.1, rm_D (rm_D_inj hw.2.2.1) (rm_D_A hw.2.2.1), hS⟩
variable {y : MethodName} {bytes : ByteArray} {maxL index n : Nat} {ret : Option FieldType} {ws : List Cond} {rmm : Room} {As st0 : List Value}
theorem rm_callI (C : rm_C p m c cc nL s args Ts) (hw : rm_Wd k a A H0 s σ H locs) (hA : ∀ q, H0.size ≤ q → A q) (hM : rm_MI l k a y ws rmm As σ r0 σ0) (cw : CallW R s args RX0 RX0 index y bytes maxL ret ws rmm 0 0 n) (hn : As.length = n) (hsize : ls.size = nL) (hstack : st0 = As.reverse ++ .ref (a 0) :: rest)
    (hW : 2 * (F0 m pc ls st0).monitorRoom + (rest.map fun v => v.category).sum ≤ 8) (hdg : decode cc pc = .ok (.invokevirtual index, 3)) (hf : cells ≤ R.cells ∧ slots ≤ R.slots)
    (kk : ∀ (H1 : Heap) (locs1 : List Loc), rm_Wd k a A H0 s σ0 H1 locs1 → W p l e R s m args below meth c H1 locs1 cells slots Q (F0 m (pc + 3) ls (.int r0 :: rest))) : W p l e R s m args below meth c H locs cells slots Q (F0 m pc ls st0) := by
  refine va_calli (va_runV (As := As) (rest := rest) C.1 (hM H.size) cw (rm_pre hw As) rfl hn hsize hstack hW hdg hf) hw.2.2.2 (fun q _ h => rm_sub hw hA q h) (fun q h => rm_sub hw hA q h) (fun r u t H1 locs1 ht hvm hp hB hz1 hk1 hS => ?_)
  obtain ⟨rfl, rfl⟩ := hp
  exact kk H1 locs1 (rm_post hw ht hvm hB hS)
theorem rm_callV (C : rm_C p m c cc nL s args Ts) (hw : rm_Wd k a A H0 s σ H locs) (hA : ∀ q, H0.size ≤ q → A q) (hM : rm_MV l k a y ws rmm As σ σ0) (cw : CallW R s args RX0 RX0 index y bytes maxL ret ws rmm 0 0 n) (hn : As.length = n) (hsize : ls.size = nL) (hstack : st0 = As.reverse ++ .ref (a 0) :: rest)
    (hW : 2 * (F0 m pc ls st0).monitorRoom + (rest.map fun v => v.category).sum ≤ 8) (hdg : decode cc pc = .ok (.invokevirtual index, 3)) (hf : cells ≤ R.cells ∧ slots ≤ R.slots)
    (kk : ∀ (H1 : Heap) (locs1 : List Loc), rm_Wd k a A H0 s σ0 H1 locs1 → W p l e R s m args below meth c H1 locs1 cells slots Q (F0 m (pc + 3) ls rest)) : W p l e R s m args below meth c H locs cells slots Q (F0 m pc ls st0) := by
  refine va_callv (va_runV (As := As) (rest := rest) C.1 (hM H.size) cw (rm_pre hw As) rfl hn hsize hstack hW hdg hf) hw.2.2.2 (fun q _ h => rm_sub hw hA q h) (fun q h => rm_sub hw hA q h) (fun u t H1 locs1 ht hvm hp hB hz1 hk1 hS => ?_)
  obtain rfl := hp
  exact kk H1 locs1 (rm_post hw ht hvm hB hS)
end RMQ
end
section
/-! what the mesh's private methods do, as functions of its state -/
theorem rm_inc (n : Nat) : nI n + Int32.ofInt 1 = nI (n + 1) := nI_1 n
theorem rm_cl {o : Nat} (h : o < 10) : (nI o).toNatClampNeg = o := nI_clamp (by omega)
def rm_mn (x y : Int32) : Int32 := if y < x then y else x
def rm_reset (σ : rm_St) (n : Nat) : rm_St := rm_up (rm_up σ 12 n (σ 0 2)) 13 n ((rm_up σ 12 n (σ 0 2)) 0 4 + (rm_up σ 12 n (σ 0 2)) 0 2)
def rm_clear (σ : rm_St) (n : Nat) : rm_St := rm_up (rm_up (rm_up (rm_up (rm_up σ 7 n (-1)) 8 n 0) 9 n 10000) 10 n 10000) 11 n (-1)
def rm_forget (σ : rm_St) (n o : Nat) : rm_St := rm_up (rm_up (rm_up σ (25 + n) o (-1)) (35 + n) o 0) (45 + n) o (-1)
def rm_begin0 (σ : rm_St) (n : Nat) : rm_St := rm_up σ 6 n (σ 6 n + 1)
def rm_begin (σ : rm_St) (n : Nat) : rm_St := rm_reset (rm_up (rm_begin0 σ n) 8 n (rm_begin0 σ n 6 n)) n
def rm_len0 (σ : rm_St) (n : Nat) : rm_St := rm_up σ 12 n (rm_mn (2 * σ 12 n) (σ 0 2 <<< (σ 0 3 &&& 31)))
def rm_len (σ : rm_St) (n : Nat) : rm_St := rm_up (rm_len0 σ n) 13 n (rm_len0 σ n 0 4 + rm_len0 σ n 12 n)
def rm_rankBy (σ : rm_St) (n o : Nat) : Int32 := σ (45 + n) o + σ (15 + n) o
def rm_own (σ : rm_St) (n o : Nat) : Bool := if σ (25 + n) o = σ 7 n then (if σ (35 + n) o = σ 8 n then true else false) else false
def rm_deep (σ : rm_St) (n o : Nat) : Bool :=
  if rm_own σ n o = true then (if σ 9 n = 10000 then false else if σ 9 n ≤ σ (45 + n) o then true else if rm_rankBy σ n o ≤ σ 10 n + σ 0 1 then false else true) else false
def rm_outdL (σ : rm_St) (n : Nat) (t v : Int32) : Nat → Nat → Bool
  | 0, _ => false
  | r + 1, i => if σ (25 + n) i = t then (if σ (35 + n) i ≤ v then rm_outdL σ n t v r (i + 1) else true) else rm_outdL σ n t v r (i + 1)
def rm_outd (σ : rm_St) (n o : Nat) : Bool :=
  if σ 7 n = σ (25 + n) o then (if σ 8 n ≤ σ (35 + n) o then rm_outdL σ n (σ (25 + n) o) (σ (35 + n) o) 10 0 else true) else rm_outdL σ n (σ (25 + n) o) (σ (35 + n) o) 10 0
def rm_cand (σ : rm_St) (n o : Nat) : Bool :=
  if σ (45 + n) o = -1 then false else if 10000 ≤ σ (45 + n) o then false else if rm_rankBy σ n o < 10000 then (if rm_outd σ n o = true then false else if rm_deep σ n o = true then false else true) else false
def rm_bestL (σ : rm_St) (n : Nat) : Nat → Nat → Int32 → Int32 → Int32
  | 0, _, b, _ => b
  | r + 1, i, b, x => if x ≤ rm_rankBy σ n i then rm_bestL σ n r (i + 1) b x else if rm_cand σ n i = true then rm_bestL σ n r (i + 1) (nI i) (rm_rankBy σ n i) else rm_bestL σ n r (i + 1) b x
def rm_best (σ : rm_St) (n : Nat) : Int32 := rm_bestL σ n 10 0 (-1) 10000
def rm_keeps (σ : rm_St) (n o : Nat) : Bool :=
  if isNd (σ 11 n) = true then (if rm_cand σ n (σ 11 n).toNatClampNeg = true then
    (if rm_rankBy σ n (σ 11 n).toNatClampNeg - rm_rankBy σ n o < σ 0 0 then true else if 1 ≤ rm_rankBy σ n (σ 11 n).toNatClampNeg - rm_rankBy σ n o then false else true) else false) else false
theorem rm_keeps_nd {σ : rm_St} {n o : Nat} (h : rm_keeps σ n o = true) : isNd (σ 11 n) = true := by
  unfold rm_keeps at h
  by_cases c : isNd (σ 11 n) = true
  · exact c
  · rw [if_neg c] at h
    cases h
def rm_fol (σ : rm_St) (n o : Nat) (low : Int32) : rm_St :=
  rm_up (rm_up (rm_up (rm_up (rm_up σ 10 n low) 7 n ((rm_up σ 10 n low) (25 + n) o)) 8 n ((rm_up (rm_up σ 10 n low) 7 n ((rm_up σ 10 n low) (25 + n) o)) (35 + n) o)) 9 n (rm_rankBy σ n o)) 11 n (nI o)
def rm_follow (σ : rm_St) (n o : Nat) : rm_St :=
  if rm_own σ n o = true then
    (if rm_rankBy σ n o = σ 9 n then (if nI o = σ 11 n then rm_fol σ n o (rm_mn (rm_rankBy σ n o) (σ 10 n)) else rm_reset (rm_fol σ n o (rm_mn (rm_rankBy σ n o) (σ 10 n))) n)
     else rm_reset (rm_fol σ n o (rm_mn (rm_rankBy σ n o) (σ 10 n))) n)
  else rm_reset (rm_fol σ n o (rm_rankBy σ n o)) n
def rm_lose (σ : rm_St) (n : Nat) : rm_St :=
  if σ 9 n = 10000 then (if σ 11 n = -1 then rm_up (rm_up σ 9 n 10000) 11 n (-1) else rm_reset (rm_up (rm_up σ 9 n 10000) 11 n (-1)) n) else rm_reset (rm_up (rm_up σ 9 n 10000) 11 n (-1)) n
def rm_choose (σ : rm_St) (n : Nat) : rm_St :=
  if σ 5 n = 0 then (if isNd (rm_best σ n) = true then (if rm_keeps σ n (rm_best σ n).toNatClampNeg = true then rm_follow σ n (σ 11 n).toNatClampNeg else rm_follow σ n (rm_best σ n).toNatClampNeg) else rm_lose σ n) else σ
def rm_hear (σ : rm_St) (t i : Nat) : rm_St :=
  rm_up (rm_up (rm_up σ (25 + i) t (σ 7 t)) (35 + i) t ((rm_up σ (25 + i) t (σ 7 t)) 8 t)) (45 + i) t ((rm_up (rm_up σ (25 + i) t (σ 7 t)) (35 + i) t ((rm_up σ (25 + i) t (σ 7 t)) 8 t)) 9 t)
def rm_tellL (t : Nat) : Nat → Nat → rm_St → rm_St
  | 0, _, σ => σ
  | r + 1, i, σ => if σ (15 + t) i ≤ 0 then rm_tellL t r (i + 1) σ else rm_tellL t r (i + 1) (rm_choose (rm_hear σ t i) i)
def rm_tell (σ : rm_St) (t : Nat) : rm_St := rm_tellL t 10 0 σ
def rm_tickL : Nat → Nat → Int32 → rm_St → rm_St × Int32
  | 0, _, x, σ => (σ, x)
  | r + 1, i, x, σ => if σ 13 i = σ 0 4 then rm_tickL r (i + 1) (x + 1) (rm_len (rm_tell σ i) i) else rm_tickL r (i + 1) x σ
def rm_tick (σ : rm_St) : rm_St × Int32 := rm_tickL 10 0 0 (rm_up σ 0 4 (σ 0 4 + 1))
def rm_chL (σ : rm_St) (v : Int32) : Nat → Nat → Int32 → Int32
  | 0, _, x => x
  | r + 1, i, x => if isNd (σ 11 i) = true then (if (v >>> (σ 11 i &&& 31)) &&& 1 = 0 then rm_chL σ v r (i + 1) x else rm_chL σ v r (i + 1) (x ||| ((1 : Int32) <<< (nI i &&& 31)))) else rm_chL σ v r (i + 1) x
def rm_ch (σ : rm_St) (v : Int32) : Int32 := rm_chL σ v 10 0 0
def rm_lowJ (i : Nat) : Nat → Nat → rm_St → rm_St
  | 0, _, σ => σ
  | r + 1, j, σ => if σ (15 + i) j ≤ 0 then rm_lowJ i r (j + 1) σ else rm_lowJ i r (j + 1) (rm_up σ 14 i (rm_mn (σ 14 i) (σ 14 j + σ (15 + i) j)))
def rm_lowL : Nat → Nat → rm_St → rm_St
  | 0, _, σ => σ
  | r + 1, i, σ => rm_lowL r (i + 1) (rm_lowJ i 10 0 σ)
def rm_lower (σ : rm_St) : rm_St := rm_lowL 10 0 σ
/-! the static test of a node, called from a walk in the mesh's world -/
def rm_SI (l : Launch) (y : MethodName) (ws : List Cond) (rmm : Room) (As : List Value) (r0 : Int32) : Prop :=
  Met l y ws rmm (va_Pc As (fun _ => True)) (va_Qi (fun (r : Int32) (_ : Unit) => r = r0) (fun _ _ => True) (fun _ => False)) 0 0 (fun _ => False)
theorem rm_kept {D : va_G} {cl : List vw_C} {ws : va_W} {H H1 : Heap} (hP : va_P D cl ws H) (hk : ∀ q : Nat, q < H.size → H1[q]? = H[q]?) : va_P D cl ws H1 := hP.kept (fun i q h => hk q.1 (hP i q h).lt)
section RMS
variable {p : Program} {l : Launch} {e : Env} {R : Room} {s : State} {m : MethodId} {args : Array Value} {below : List Frame} {meth : Method} {c : Code} {H : Heap} {locs : List Loc} {cells slots : Nat} {Q : State → Prop}
variable {cc : ByteArray} {pc nL : Nat} {ls : Array Slot} {rest : List Value} {Ts : List Cond} {k : rm_K} {a : Nat → Nat} {A : Nat → Prop} {H0 : Heap} {σ σ0 : rm_St} {r0 v : Int32} {own : String}
variable {y : MethodName} {bytes : ByteArray} {maxL index n : Nat} {ret : Option FieldType} {ws : List Cond} {rmm : Room} {As st0 : List Value}
theorem rm_callSI0 (CF : CallFix p m c cc nL s args Ts own) (hS : va_S A H0 H locs) (hM : rm_SI l y ws rmm As r0) (cw : CallB R s args own index y bytes maxL ret ws rmm 0 0 n ∧ (Cond.static y).before args s = true) (hn : As.length = n) (hsize : ls.size = nL) (hstack : st0 = As.reverse ++ rest)
    (hW : 2 * (F0 m pc ls st0).monitorRoom + (rest.map fun v => v.category).sum ≤ 8) (hdg : decode cc pc = .ok (.invokestatic index, 3)) (hf : cells ≤ R.cells ∧ slots ≤ R.slots)
    (kk : ∀ (H1 : Heap) (locs1 : List Loc), (∀ q : Nat, q < H.size → H1[q]? = H[q]?) → va_S A H0 H1 locs1 → W p l e R s m args below meth c H1 locs1 cells slots Q (F0 m (pc + 3) ls (.int r0 :: rest))) : W p l e R s m args below meth c H locs cells slots Q (F0 m pc ls st0) := by
  refine va_calli (va_runS (As := As) (rest := rest) CF hM cw ⟨fun _ _ _ _ q => q, fun U hU hW => ⟨rfl, trivial⟩⟩ rfl hn hsize hstack hW hdg hf) hS (fun q _ h => h.elim) (fun q h => h.elim) (fun r u t H1 locs1 ht hvm hp hB hz1 hk1 hS => ?_)
  obtain rfl := hp
  exact kk H1 locs1 (fun q hq => hk1 q hq id) hS
theorem rm_callSI (C : rm_C p m c cc nL s args Ts) (hw : rm_Wd k a A H0 s σ H locs) (hM : rm_SI l y ws rmm As r0) (cw : CallB R s args RX0 index y bytes maxL ret ws rmm 0 0 n ∧ (Cond.static y).before args s = true) (hn : As.length = n) (hsize : ls.size = nL) (hstack : st0 = As.reverse ++ rest)
    (hW : 2 * (F0 m pc ls st0).monitorRoom + (rest.map fun v => v.category).sum ≤ 8) (hdg : decode cc pc = .ok (.invokestatic index, 3)) (hf : cells ≤ R.cells ∧ slots ≤ R.slots)
    (kk : ∀ (H1 : Heap) (locs1 : List Loc), rm_Wd k a A H0 s σ H1 locs1 → W p l e R s m args below meth c H1 locs1 cells slots Q (F0 m (pc + 3) ls (.int r0 :: rest))) : W p l e R s m args below meth c H locs cells slots Q (F0 m pc ls st0) :=
  rm_callSI0 C.1 hw.2.2.2 hM cw hn hsize hstack hW hdg hf (fun H1 locs1 hk hS => kk H1 locs1 ⟨hw.1, rm_kept hw.2.1 hk, hw.2.2.1, hS⟩)
end RMS
set_option maxHeartbeats 4000000 in
set_option maxRecDepth 100000 in
theorem kX0_isNode (l : Launch) (v : Int32) : rm_SI l yX0_isNode wsX0_isNode ({ frames := 0, cells := 0, slots := 0, locals := 0 }) [.int v] (bI (isNd v)) := by
  refine Met.ofW (cc := cX0_isNode) (maxL := 1) (ret := (some .boolean)) (by decide) rfl ?_
  intro p e s m args below meth c s₁ B hml hv
  obtain ⟨rfl, -⟩ := hv
  have hx := B.exec
  have hb := B.bytes
  have hr := B.returns
  have hlocks := B.notSynchronized
  have hl := lv_entry ([.int v]) (n := 1) (Nat.le_of_ble_eq_true rfl)
  rw [lg_entry_eq]
  generalize (lg_sl ([.int v]) ++ List.replicate (1 - (lg_sl ([.int v])).length) Slot.unset).toArray = ls at hl ⊢
  have hl : lv_has ls 1 [(0, .int v)] := hl
  have fin : ∀ {t : State}, t.heap = s.heap → va_F (fun _ => False) s t := fun ht => ⟨by rw [ht]; exact Nat.le_refl _, fun q _ _ => by rw [ht]⟩
  refine lv_iload_n hx hb dX0_isNode_0 rfl (lv_at hl 0 rfl) ?_
  refine lv_if_lt (tgt := 14) hx hb dX0_isNode_1 (by decide) (fun c1 => ?_) (fun c1 => ?_)
  · refine lv_iconst (v := 0) hx hb dX0_isNode_14 (by decide) ?_
    exact W.zret (v := 0) hx hb hr (by decide) (fun t ht hW => ⟨⟨0, (), rfl, by simp [isNd, c1, bI], trivial⟩, fin ht⟩) (fun q h => nomatch h) dX0_isNode_15 hlocks
  · refine lv_iload_n hx hb dX0_isNode_4 rfl (lv_at hl 0 rfl) ?_
    refine lv_bipush (v := 10) hx hb dX0_isNode_5 (by decide) ?_
    refine lv_icmp_ge (tgt := 14) hx hb dX0_isNode_7 (by decide) (fun c2 => ?_) (fun c2 => ?_)
    · refine lv_iconst (v := 0) hx hb dX0_isNode_14 (by decide) ?_
      exact W.zret (v := 0) hx hb hr (by decide) (fun t ht hW => ⟨⟨0, (), rfl, by rw [isNd, show decide (v < 10) = false from decide_eq_false (fun h => by rw [Int32.lt_iff_toInt_lt] at h; rw [Int32.le_iff_toInt_le] at c2; omega), Bool.and_false]; rfl, trivial⟩, fin ht⟩) (fun q h => nomatch h) dX0_isNode_15 hlocks
    · refine lv_iconst (v := 1) hx hb dX0_isNode_10 (by decide) ?_
      refine lv_goto (tgt := 15) hx hb dX0_isNode_11 (by decide) ?_
      exact W.zret (v := 1) hx hb hr (by decide) (fun t ht hW => ⟨⟨1, (), rfl, by rw [isNd, show decide (v < 10) = true from decide_eq_true (by rw [Int32.lt_iff_toInt_lt]; rw [Int32.le_iff_toInt_le] at c2; omega), decide_eq_true c1]; rfl, trivial⟩, fin ht⟩) (fun q h => nomatch h) dX0_isNode_15 hlocks
end
section
set_option maxHeartbeats 4000000 in
set_option maxRecDepth 100000 in
theorem kX0_time (l : Launch) (k : rm_K) (a : Nat → Nat) (ha : rm_inj a) (σ : rm_St)   : rm_MI l k a yX0_time wsX0_time ({ frames := 0, cells := 0, slots := 0, locals := 0 }) [] σ (σ 0 4) σ := by
  refine rm_enterI (cc := cX0_time) (nL := 1) (ret := (some .int)) ha (by decide) rfl rfl (by decide +kernel) (Nat.le_of_ble_eq_true rfl) ?_
  intro p e s m args below meth c ls C hr hlocks hw hl
  have hx := C.1.1
  have hb := C.1.2.1
  have hts := C.1.2.2.2.2
  have hA : ∀ q, s.heap.size ≤ q → rm_A a s.heap.size q := fun q h => Or.inr h
  replace hl : lv_has ls 1 [(0, .ref (a 0))] := hl
  refine lv_aload_n hx hb dX0_time_0 rfl (lv_at hl 0 rfl) ?_
  refine rm_geti C hw 4 (by decide) (hts _ (by decide +kernel)) rfl dX0_time_1 ?_
  exact rm_iret C hr hlocks hw dX0_time_4 ⟨by first | with_reducible rfl | (simp only [↓reduceIte, Bool.false_eq_true]; done) | (simp only [↓reduceIte, Bool.false_eq_true]; rfl) | rfl, by first | with_reducible rfl | (simp only [↓reduceIte, Bool.false_eq_true]; done) | (simp only [↓reduceIte, Bool.false_eq_true]; rfl) | rfl⟩
set_option maxHeartbeats 4000000 in
set_option maxRecDepth 100000 in
theorem kX0_loops (l : Launch) (k : rm_K) (a : Nat → Nat) (ha : rm_inj a) (σ : rm_St)   : rm_MI l k a yX0_loops wsX0_loops ({ frames := 0, cells := 0, slots := 0, locals := 0 }) [] σ (σ 0 5) σ := by
  refine rm_enterI (cc := cX0_loops) (nL := 1) (ret := (some .int)) ha (by decide) rfl rfl (by decide +kernel) (Nat.le_of_ble_eq_true rfl) ?_
  intro p e s m args below meth c ls C hr hlocks hw hl
  have hx := C.1.1
  have hb := C.1.2.1
  have hts := C.1.2.2.2.2
  have hA : ∀ q, s.heap.size ≤ q → rm_A a s.heap.size q := fun q h => Or.inr h
  replace hl : lv_has ls 1 [(0, .ref (a 0))] := hl
  refine lv_aload_n hx hb dX0_loops_0 rfl (lv_at hl 0 rfl) ?_
  refine rm_geti C hw 5 (by decide) (hts _ (by decide +kernel)) rfl dX0_loops_1 ?_
  exact rm_iret C hr hlocks hw dX0_loops_4 ⟨by first | with_reducible rfl | (simp only [↓reduceIte, Bool.false_eq_true]; done) | (simp only [↓reduceIte, Bool.false_eq_true]; rfl) | rfl, by first | with_reducible rfl | (simp only [↓reduceIte, Bool.false_eq_true]; done) | (simp only [↓reduceIte, Bool.false_eq_true]; rfl) | rfl⟩
set_option maxHeartbeats 4000000 in
set_option maxRecDepth 100000 in
theorem kX0_resetTimer (l : Launch) (k : rm_K) (a : Nat → Nat) (ha : rm_inj a) (σ : rm_St) (n : Nat) (hn : n < 10) : rm_MV l k a yX0_resetTimer wsX0_resetTimer ({ frames := 0, cells := 0, slots := 0, locals := 0 }) [.int (nI n)] σ  (rm_reset σ n) := by
  refine rm_enterV (cc := cX0_resetTimer) (nL := 2) (ret := none) ha (by decide) rfl rfl (by decide +kernel) (Nat.le_of_ble_eq_true rfl) ?_
  intro p e s m args below meth c ls C hr hlocks hw hl
  have hx := C.1.1
  have hb := C.1.2.1
  have hts := C.1.2.2.2.2
  have hA : ∀ q, s.heap.size ≤ q → rm_A a s.heap.size q := fun q h => Or.inr h
  replace hl : lv_has ls 2 [(0, .ref (a 0)), (1, .int (nI n))] := hl
  refine lv_aload_n hx hb dX0_resetTimer_0 rfl (lv_at hl 0 rfl) ?_
  refine rm_geta C hw 17 12 (by decide) rfl (hts _ (by decide +kernel)) rfl dX0_resetTimer_1 ?_
  refine lv_iload_n hx hb dX0_resetTimer_4 rfl (lv_at hl 1 rfl) ?_
  refine lv_aload_n hx hb dX0_resetTimer_5 rfl (lv_at hl 0 rfl) ?_
  refine rm_geti C hw 2 (by decide) (hts _ (by decide +kernel)) rfl dX0_resetTimer_6 ?_
  refine rm_iast C hw (by decide) hn dX0_resetTimer_9 (fun H locs hw => ?_)
  refine lv_aload_n hx hb dX0_resetTimer_10 rfl (lv_at hl 0 rfl) ?_
  refine rm_geta C hw 18 13 (by decide) rfl (hts _ (by decide +kernel)) rfl dX0_resetTimer_11 ?_
  refine lv_iload_n hx hb dX0_resetTimer_14 rfl (lv_at hl 1 rfl) ?_
  refine lv_aload_n hx hb dX0_resetTimer_15 rfl (lv_at hl 0 rfl) ?_
  refine rm_geti C hw 4 (by decide) (hts _ (by decide +kernel)) rfl dX0_resetTimer_16 ?_
  refine lv_aload_n hx hb dX0_resetTimer_19 rfl (lv_at hl 0 rfl) ?_
  refine rm_geti C hw 2 (by decide) (hts _ (by decide +kernel)) rfl dX0_resetTimer_20 ?_
  refine lv_iadd hx hb dX0_resetTimer_23 ?_
  refine rm_iast C hw (by decide) hn dX0_resetTimer_24 (fun H locs hw => ?_)
  exact rm_vret C hr hlocks hw dX0_resetTimer_25 (by first | with_reducible rfl | (simp only [↓reduceIte, Bool.false_eq_true]; done) | (simp only [↓reduceIte, Bool.false_eq_true]; rfl) | rfl)
set_option maxHeartbeats 4000000 in
set_option maxRecDepth 100000 in
theorem kX0_clearNode (l : Launch) (k : rm_K) (a : Nat → Nat) (ha : rm_inj a) (σ : rm_St) (n : Nat) (hn : n < 10) : rm_MV l k a yX0_clearNode wsX0_clearNode ({ frames := 0, cells := 0, slots := 0, locals := 0 }) [.int (nI n)] σ  (rm_clear σ n) := by
  refine rm_enterV (cc := cX0_clearNode) (nL := 2) (ret := none) ha (by decide) rfl rfl (by decide +kernel) (Nat.le_of_ble_eq_true rfl) ?_
  intro p e s m args below meth c ls C hr hlocks hw hl
  have hx := C.1.1
  have hb := C.1.2.1
  have hts := C.1.2.2.2.2
  have hA : ∀ q, s.heap.size ≤ q → rm_A a s.heap.size q := fun q h => Or.inr h
  replace hl : lv_has ls 2 [(0, .ref (a 0)), (1, .int (nI n))] := hl
  refine lv_aload_n hx hb dX0_clearNode_0 rfl (lv_at hl 0 rfl) ?_
  refine rm_geta C hw 12 7 (by decide) rfl (hts _ (by decide +kernel)) rfl dX0_clearNode_1 ?_
  refine lv_iload_n hx hb dX0_clearNode_4 rfl (lv_at hl 1 rfl) ?_
  refine lv_iconst (v := (-1)) hx hb dX0_clearNode_5 (by decide) ?_
  refine rm_iast C hw (by decide) hn dX0_clearNode_6 (fun H locs hw => ?_)
  refine lv_aload_n hx hb dX0_clearNode_7 rfl (lv_at hl 0 rfl) ?_
  refine rm_geta C hw 13 8 (by decide) rfl (hts _ (by decide +kernel)) rfl dX0_clearNode_8 ?_
  refine lv_iload_n hx hb dX0_clearNode_11 rfl (lv_at hl 1 rfl) ?_
  refine lv_iconst (v := 0) hx hb dX0_clearNode_12 (by decide) ?_
  refine rm_iast C hw (by decide) hn dX0_clearNode_13 (fun H locs hw => ?_)
  refine lv_aload_n hx hb dX0_clearNode_14 rfl (lv_at hl 0 rfl) ?_
  refine rm_geta C hw 14 9 (by decide) rfl (hts _ (by decide +kernel)) rfl dX0_clearNode_15 ?_
  refine lv_iload_n hx hb dX0_clearNode_18 rfl (lv_at hl 1 rfl) ?_
  refine lv_sipush (v := 10000) hx hb dX0_clearNode_19 (by decide) ?_
  refine rm_iast C hw (by decide) hn dX0_clearNode_22 (fun H locs hw => ?_)
  refine lv_aload_n hx hb dX0_clearNode_23 rfl (lv_at hl 0 rfl) ?_
  refine rm_geta C hw 15 10 (by decide) rfl (hts _ (by decide +kernel)) rfl dX0_clearNode_24 ?_
  refine lv_iload_n hx hb dX0_clearNode_27 rfl (lv_at hl 1 rfl) ?_
  refine lv_sipush (v := 10000) hx hb dX0_clearNode_28 (by decide) ?_
  refine rm_iast C hw (by decide) hn dX0_clearNode_31 (fun H locs hw => ?_)
  refine lv_aload_n hx hb dX0_clearNode_32 rfl (lv_at hl 0 rfl) ?_
  refine rm_geta C hw 16 11 (by decide) rfl (hts _ (by decide +kernel)) rfl dX0_clearNode_33 ?_
  refine lv_iload_n hx hb dX0_clearNode_36 rfl (lv_at hl 1 rfl) ?_
  refine lv_iconst (v := (-1)) hx hb dX0_clearNode_37 (by decide) ?_
  refine rm_iast C hw (by decide) hn dX0_clearNode_38 (fun H locs hw => ?_)
  exact rm_vret C hr hlocks hw dX0_clearNode_39 (by first | with_reducible rfl | (simp only [↓reduceIte, Bool.false_eq_true]; done) | (simp only [↓reduceIte, Bool.false_eq_true]; rfl) | rfl)
set_option maxHeartbeats 4000000 in
set_option maxRecDepth 100000 in
theorem kX0_forget (l : Launch) (k : rm_K) (a : Nat → Nat) (ha : rm_inj a) (σ : rm_St) (n : Nat) (o : Nat) (hn : n < 10) (ho : o < 10) : rm_MV l k a yX0_forget wsX0_forget ({ frames := 0, cells := 0, slots := 0, locals := 0 }) [.int (nI n), .int (nI o)] σ  (rm_forget σ n o) := by
  refine rm_enterV (cc := cX0_forget) (nL := 3) (ret := none) ha (by decide) rfl rfl (by decide +kernel) (Nat.le_of_ble_eq_true rfl) ?_
  intro p e s m args below meth c ls C hr hlocks hw hl
  have hx := C.1.1
  have hb := C.1.2.1
  have hts := C.1.2.2.2.2
  have hA : ∀ q, s.heap.size ≤ q → rm_A a s.heap.size q := fun q h => Or.inr h
  replace hl : lv_has ls 3 [(0, .ref (a 0)), (1, .int (nI n)), (2, .int (nI o))] := hl
  refine lv_aload_n hx hb dX0_forget_0 rfl (lv_at hl 0 rfl) ?_
  refine rm_geta C hw 7 2 (by decide) rfl (hts _ (by decide +kernel)) rfl dX0_forget_1 ?_
  refine lv_iload_n hx hb dX0_forget_4 rfl (lv_at hl 1 rfl) ?_
  refine rm_aald C hw 25 (by decide) hn dX0_forget_5 ?_
  refine lv_iload_n hx hb dX0_forget_6 rfl (lv_at hl 2 rfl) ?_
  refine lv_iconst (v := (-1)) hx hb dX0_forget_7 (by decide) ?_
  refine rm_iast C hw ⟨by omega, by omega⟩ ho dX0_forget_8 (fun H locs hw => ?_)
  refine lv_aload_n hx hb dX0_forget_9 rfl (lv_at hl 0 rfl) ?_
  refine rm_geta C hw 8 3 (by decide) rfl (hts _ (by decide +kernel)) rfl dX0_forget_10 ?_
  refine lv_iload_n hx hb dX0_forget_13 rfl (lv_at hl 1 rfl) ?_
  refine rm_aald C hw 35 (by decide) hn dX0_forget_14 ?_
  refine lv_iload_n hx hb dX0_forget_15 rfl (lv_at hl 2 rfl) ?_
  refine lv_iconst (v := 0) hx hb dX0_forget_16 (by decide) ?_
  refine rm_iast C hw ⟨by omega, by omega⟩ ho dX0_forget_17 (fun H locs hw => ?_)
  refine lv_aload_n hx hb dX0_forget_18 rfl (lv_at hl 0 rfl) ?_
  refine rm_geta C hw 9 4 (by decide) rfl (hts _ (by decide +kernel)) rfl dX0_forget_19 ?_
  refine lv_iload_n hx hb dX0_forget_22 rfl (lv_at hl 1 rfl) ?_
  refine rm_aald C hw 45 (by decide) hn dX0_forget_23 ?_
  refine lv_iload_n hx hb dX0_forget_24 rfl (lv_at hl 2 rfl) ?_
  refine lv_iconst (v := (-1)) hx hb dX0_forget_25 (by decide) ?_
  refine rm_iast C hw ⟨by omega, by omega⟩ ho dX0_forget_26 (fun H locs hw => ?_)
  exact rm_vret C hr hlocks hw dX0_forget_27 (by first | with_reducible rfl | (simp only [↓reduceIte, Bool.false_eq_true]; done) | (simp only [↓reduceIte, Bool.false_eq_true]; rfl) | rfl)
set_option maxHeartbeats 4000000 in
set_option maxRecDepth 100000 in
theorem kX0_beginVersion (l : Launch) (k : rm_K) (a : Nat → Nat) (ha : rm_inj a) (σ : rm_St) (n : Nat) (hn : n < 10) : rm_MI l k a yX0_beginVersion wsX0_beginVersion ({ frames := 1, cells := 0, slots := 0, locals := 21 }) [.int (nI n)] σ (rm_begin σ n 8 n) (rm_begin σ n) := by
  refine rm_enterI (cc := cX0_beginVersion) (nL := 2) (ret := (some .int)) ha (by decide) rfl rfl (by decide +kernel) (Nat.le_of_ble_eq_true rfl) ?_
  intro p e s m args below meth c ls C hr hlocks hw hl
  have hx := C.1.1
  have hb := C.1.2.1
  have hts := C.1.2.2.2.2
  have hA : ∀ q, s.heap.size ≤ q → rm_A a s.heap.size q := fun q h => Or.inr h
  replace hl : lv_has ls 2 [(0, .ref (a 0)), (1, .int (nI n))] := hl
  refine lv_aload_n hx hb dX0_beginVersion_0 rfl (lv_at hl 0 rfl) ?_
  refine rm_geta C hw 11 6 (by decide) rfl (hts _ (by decide +kernel)) rfl dX0_beginVersion_1 ?_
  refine lv_iload_n hx hb dX0_beginVersion_4 rfl (lv_at hl 1 rfl) ?_
  refine lv_dup2_11 hx hb dX0_beginVersion_5 rfl rfl ?_
  refine rm_iald C hw (by decide) hn dX0_beginVersion_6 ?_
  refine lv_iconst (v := 1) hx hb dX0_beginVersion_7 (by decide) ?_
  refine lv_iadd hx hb dX0_beginVersion_8 ?_
  refine rm_iast C hw (by decide) hn dX0_beginVersion_9 (fun H locs hw => ?_)
  refine lv_aload_n hx hb dX0_beginVersion_10 rfl (lv_at hl 0 rfl) ?_
  refine rm_geta C hw 13 8 (by decide) rfl (hts _ (by decide +kernel)) rfl dX0_beginVersion_11 ?_
  refine lv_iload_n hx hb dX0_beginVersion_14 rfl (lv_at hl 1 rfl) ?_
  refine lv_aload_n hx hb dX0_beginVersion_15 rfl (lv_at hl 0 rfl) ?_
  refine rm_geta C hw 11 6 (by decide) rfl (hts _ (by decide +kernel)) rfl dX0_beginVersion_16 ?_
  refine lv_iload_n hx hb dX0_beginVersion_19 rfl (lv_at hl 1 rfl) ?_
  refine rm_iald C hw (by decide) hn dX0_beginVersion_20 ?_
  refine rm_iast C hw (by decide) hn dX0_beginVersion_21 (fun H locs hw => ?_)
  refine lv_aload_n hx hb dX0_beginVersion_22 rfl (lv_at hl 0 rfl) ?_
  refine lv_iload_n hx hb dX0_beginVersion_23 rfl (lv_at hl 1 rfl) ?_
  refine rm_callV C hw hA (As := [.int (nI n)]) (rest := []) (kX0_resetTimer l k a ha (rm_up (rm_up σ 6 n ((σ 6 n) + (1))) 8 n ((rm_up σ 6 n ((σ 6 n) + (1))) 6 n)) n hn) (cwV 1 hts gX0_beginVersion_X0_resetTimer rfl rfl rfl (by decide +kernel) ⟨Nat.le_of_ble_eq_true rfl, Nat.le_of_ble_eq_true rfl⟩) rfl hl.1 rfl (lv_room (Nat.le_of_ble_eq_true rfl)) dX0_beginVersion_24 ⟨Nat.zero_le _, Nat.zero_le _⟩ (fun H locs hw => ?_)
  refine lv_aload_n hx hb dX0_beginVersion_27 rfl (lv_at hl 0 rfl) ?_
  refine rm_geta C hw 13 8 (by decide) rfl (hts _ (by decide +kernel)) rfl dX0_beginVersion_28 ?_
  refine lv_iload_n hx hb dX0_beginVersion_31 rfl (lv_at hl 1 rfl) ?_
  refine rm_iald C hw (by decide) hn dX0_beginVersion_32 ?_
  exact rm_iret C hr hlocks hw dX0_beginVersion_33 ⟨by first | with_reducible rfl | (simp only [↓reduceIte, Bool.false_eq_true]; done) | (simp only [↓reduceIte, Bool.false_eq_true]; rfl) | rfl, by first | with_reducible rfl | (simp only [↓reduceIte, Bool.false_eq_true]; done) | (simp only [↓reduceIte, Bool.false_eq_true]; rfl) | rfl⟩
set_option maxHeartbeats 4000000 in
set_option maxRecDepth 100000 in
theorem kX0_lengthenTimer (l : Launch) (k : rm_K) (a : Nat → Nat) (ha : rm_inj a) (σ : rm_St) (n : Nat) (hn : n < 10) : rm_MV l k a yX0_lengthenTimer wsX0_lengthenTimer ({ frames := 1, cells := 0, slots := 0, locals := 30 }) [.int (nI n)] σ  (rm_len σ n) := by
  refine rm_enterV (cc := cX0_lengthenTimer) (nL := 2) (ret := none) ha (by decide) rfl rfl (by decide +kernel) (Nat.le_of_ble_eq_true rfl) ?_
  intro p e s m args below meth c ls C hr hlocks hw hl
  have hx := C.1.1
  have hb := C.1.2.1
  have hts := C.1.2.2.2.2
  have hA : ∀ q, s.heap.size ≤ q → rm_A a s.heap.size q := fun q h => Or.inr h
  replace hl : lv_has ls 2 [(0, .ref (a 0)), (1, .int (nI n))] := hl
  refine lv_aload_n hx hb dX0_lengthenTimer_0 rfl (lv_at hl 0 rfl) ?_
  refine rm_geta C hw 17 12 (by decide) rfl (hts _ (by decide +kernel)) rfl dX0_lengthenTimer_1 ?_
  refine lv_iload_n hx hb dX0_lengthenTimer_4 rfl (lv_at hl 1 rfl) ?_
  refine lv_iconst (v := 2) hx hb dX0_lengthenTimer_5 (by decide) ?_
  refine lv_aload_n hx hb dX0_lengthenTimer_6 rfl (lv_at hl 0 rfl) ?_
  refine rm_geta C hw 17 12 (by decide) rfl (hts _ (by decide +kernel)) rfl dX0_lengthenTimer_7 ?_
  refine lv_iload_n hx hb dX0_lengthenTimer_10 rfl (lv_at hl 1 rfl) ?_
  refine rm_iald C hw (by decide) hn dX0_lengthenTimer_11 ?_
  refine lv_imul hx hb dX0_lengthenTimer_12 ?_
  refine lv_aload_n hx hb dX0_lengthenTimer_13 rfl (lv_at hl 0 rfl) ?_
  refine rm_geti C hw 2 (by decide) (hts _ (by decide +kernel)) rfl dX0_lengthenTimer_14 ?_
  refine lv_aload_n hx hb dX0_lengthenTimer_17 rfl (lv_at hl 0 rfl) ?_
  refine rm_geti C hw 3 (by decide) (hts _ (by decide +kernel)) rfl dX0_lengthenTimer_18 ?_
  refine lv_ishl hx hb dX0_lengthenTimer_21 ?_
  refine va_mmin hx hb (C.1.2.2.1.trans hl.1.symm) C.1.2.2.2.1 (hts (.methodLink RX0 141 Lib.Math.min.name) (by decide +kernel)) (hts (.static Lib.Math.min.name) (by decide +kernel)) (hts (.initialized "java/lang/Math") (by decide +kernel)) (hts (.code Lib.Math.min.name Lib.Math.min.code 2 (some .int)) (by decide +kernel)) (Nat.le_of_ble_eq_true rfl) (Nat.le_of_ble_eq_true rfl) (Nat.le_of_ble_eq_true rfl) (Nat.le_of_ble_eq_true rfl) dX0_lengthenTimer_22 ?_
  refine rm_iast C hw (by decide) hn dX0_lengthenTimer_25 (fun H locs hw => ?_)
  refine lv_aload_n hx hb dX0_lengthenTimer_26 rfl (lv_at hl 0 rfl) ?_
  refine rm_geta C hw 18 13 (by decide) rfl (hts _ (by decide +kernel)) rfl dX0_lengthenTimer_27 ?_
  refine lv_iload_n hx hb dX0_lengthenTimer_30 rfl (lv_at hl 1 rfl) ?_
  refine lv_aload_n hx hb dX0_lengthenTimer_31 rfl (lv_at hl 0 rfl) ?_
  refine rm_geti C hw 4 (by decide) (hts _ (by decide +kernel)) rfl dX0_lengthenTimer_32 ?_
  refine lv_aload_n hx hb dX0_lengthenTimer_35 rfl (lv_at hl 0 rfl) ?_
  refine rm_geta C hw 17 12 (by decide) rfl (hts _ (by decide +kernel)) rfl dX0_lengthenTimer_36 ?_
  refine lv_iload_n hx hb dX0_lengthenTimer_39 rfl (lv_at hl 1 rfl) ?_
  refine rm_iald C hw (by decide) hn dX0_lengthenTimer_40 ?_
  refine lv_iadd hx hb dX0_lengthenTimer_41 ?_
  refine rm_iast C hw (by decide) hn dX0_lengthenTimer_42 (fun H locs hw => ?_)
  exact rm_vret C hr hlocks hw dX0_lengthenTimer_43 (by first | with_reducible rfl | (simp only [↓reduceIte, Bool.false_eq_true]; done) | (simp only [↓reduceIte, Bool.false_eq_true]; rfl) | rfl)
set_option maxHeartbeats 4000000 in
set_option maxRecDepth 100000 in
theorem kX0_rankBy (l : Launch) (k : rm_K) (a : Nat → Nat) (ha : rm_inj a) (σ : rm_St) (n : Nat) (o : Nat) (hn : n < 10) (ho : o < 10) : rm_MI l k a yX0_rankBy wsX0_rankBy ({ frames := 0, cells := 0, slots := 0, locals := 0 }) [.int (nI n), .int (nI o)] σ (rm_rankBy σ n o) σ := by
  refine rm_enterI (cc := cX0_rankBy) (nL := 3) (ret := (some .int)) ha (by decide) rfl rfl (by decide +kernel) (Nat.le_of_ble_eq_true rfl) ?_
  intro p e s m args below meth c ls C hr hlocks hw hl
  have hx := C.1.1
  have hb := C.1.2.1
  have hts := C.1.2.2.2.2
  have hA : ∀ q, s.heap.size ≤ q → rm_A a s.heap.size q := fun q h => Or.inr h
  replace hl : lv_has ls 3 [(0, .ref (a 0)), (1, .int (nI n)), (2, .int (nI o))] := hl
  refine lv_aload_n hx hb dX0_rankBy_0 rfl (lv_at hl 0 rfl) ?_
  refine rm_geta C hw 9 4 (by decide) rfl (hts _ (by decide +kernel)) rfl dX0_rankBy_1 ?_
  refine lv_iload_n hx hb dX0_rankBy_4 rfl (lv_at hl 1 rfl) ?_
  refine rm_aald C hw 45 (by decide) hn dX0_rankBy_5 ?_
  refine lv_iload_n hx hb dX0_rankBy_6 rfl (lv_at hl 2 rfl) ?_
  refine rm_iald C hw ⟨by omega, by omega⟩ ho dX0_rankBy_7 ?_
  refine lv_aload_n hx hb dX0_rankBy_8 rfl (lv_at hl 0 rfl) ?_
  refine rm_geta C hw 6 1 (by decide) rfl (hts _ (by decide +kernel)) rfl dX0_rankBy_9 ?_
  refine lv_iload_n hx hb dX0_rankBy_12 rfl (lv_at hl 1 rfl) ?_
  refine rm_aald C hw 15 (by decide) hn dX0_rankBy_13 ?_
  refine lv_iload_n hx hb dX0_rankBy_14 rfl (lv_at hl 2 rfl) ?_
  refine rm_iald C hw ⟨by omega, by omega⟩ ho dX0_rankBy_15 ?_
  refine lv_iadd hx hb dX0_rankBy_16 ?_
  exact rm_iret C hr hlocks hw dX0_rankBy_17 ⟨by first | with_reducible rfl | (simp only [↓reduceIte, Bool.false_eq_true]; done) | (simp only [↓reduceIte, Bool.false_eq_true]; rfl) | rfl, by first | with_reducible rfl | (simp only [↓reduceIte, Bool.false_eq_true]; done) | (simp only [↓reduceIte, Bool.false_eq_true]; rfl) | rfl⟩
set_option maxHeartbeats 4000000 in
set_option maxRecDepth 100000 in
theorem kX0_heardOwnVersion (l : Launch) (k : rm_K) (a : Nat → Nat) (ha : rm_inj a) (σ : rm_St) (n : Nat) (o : Nat) (hn : n < 10) (ho : o < 10) : rm_MI l k a yX0_heardOwnVersion wsX0_heardOwnVersion ({ frames := 0, cells := 0, slots := 0, locals := 0 }) [.int (nI n), .int (nI o)] σ (bI (rm_own σ n o)) σ := by
  refine rm_enterI (cc := cX0_heardOwnVersion) (nL := 3) (ret := (some .boolean)) ha (by decide) rfl rfl (by decide +kernel) (Nat.le_of_ble_eq_true rfl) ?_
  intro p e s m args below meth c ls C hr hlocks hw hl
  have hx := C.1.1
  have hb := C.1.2.1
  have hts := C.1.2.2.2.2
  have hA : ∀ q, s.heap.size ≤ q → rm_A a s.heap.size q := fun q h => Or.inr h
  replace hl : lv_has ls 3 [(0, .ref (a 0)), (1, .int (nI n)), (2, .int (nI o))] := hl
  refine lv_aload_n hx hb dX0_heardOwnVersion_0 rfl (lv_at hl 0 rfl) ?_
  refine rm_geta C hw 7 2 (by decide) rfl (hts _ (by decide +kernel)) rfl dX0_heardOwnVersion_1 ?_
  refine lv_iload_n hx hb dX0_heardOwnVersion_4 rfl (lv_at hl 1 rfl) ?_
  refine rm_aald C hw 25 (by decide) hn dX0_heardOwnVersion_5 ?_
  refine lv_iload_n hx hb dX0_heardOwnVersion_6 rfl (lv_at hl 2 rfl) ?_
  refine rm_iald C hw ⟨by omega, by omega⟩ ho dX0_heardOwnVersion_7 ?_
  refine lv_aload_n hx hb dX0_heardOwnVersion_8 rfl (lv_at hl 0 rfl) ?_
  refine rm_geta C hw 12 7 (by decide) rfl (hts _ (by decide +kernel)) rfl dX0_heardOwnVersion_9 ?_
  refine lv_iload_n hx hb dX0_heardOwnVersion_12 rfl (lv_at hl 1 rfl) ?_
  refine rm_iald C hw (by decide) hn dX0_heardOwnVersion_13 ?_
  refine lv_icmp_ne (tgt := 38) hx hb dX0_heardOwnVersion_14 (by decide) (fun c_14 => ?_) (fun c_14 => ?_)
  · skip
    refine lv_iconst (v := 0) hx hb dX0_heardOwnVersion_38 (by decide) ?_
    exact rm_zret C hr hlocks hw (by decide) dX0_heardOwnVersion_39 ⟨by first | with_reducible rfl | (simp only [rm_own, if_neg c_14, ↓reduceIte, Bool.false_eq_true]; done) | (simp only [rm_own, if_neg c_14, ↓reduceIte, Bool.false_eq_true]; rfl) | rfl, by first | with_reducible rfl | (simp only [rm_own, if_neg c_14, ↓reduceIte, Bool.false_eq_true]; done) | (simp only [rm_own, if_neg c_14, ↓reduceIte, Bool.false_eq_true]; rfl) | rfl⟩
  · skip
    refine lv_aload_n hx hb dX0_heardOwnVersion_17 rfl (lv_at hl 0 rfl) ?_
    refine rm_geta C hw 8 3 (by decide) rfl (hts _ (by decide +kernel)) rfl dX0_heardOwnVersion_18 ?_
    refine lv_iload_n hx hb dX0_heardOwnVersion_21 rfl (lv_at hl 1 rfl) ?_
    refine rm_aald C hw 35 (by decide) hn dX0_heardOwnVersion_22 ?_
    refine lv_iload_n hx hb dX0_heardOwnVersion_23 rfl (lv_at hl 2 rfl) ?_
    refine rm_iald C hw ⟨by omega, by omega⟩ ho dX0_heardOwnVersion_24 ?_
    refine lv_aload_n hx hb dX0_heardOwnVersion_25 rfl (lv_at hl 0 rfl) ?_
    refine rm_geta C hw 13 8 (by decide) rfl (hts _ (by decide +kernel)) rfl dX0_heardOwnVersion_26 ?_
    refine lv_iload_n hx hb dX0_heardOwnVersion_29 rfl (lv_at hl 1 rfl) ?_
    refine rm_iald C hw (by decide) hn dX0_heardOwnVersion_30 ?_
    refine lv_icmp_ne (tgt := 38) hx hb dX0_heardOwnVersion_31 (by decide) (fun c_31 => ?_) (fun c_31 => ?_)
    · skip
      refine lv_iconst (v := 0) hx hb dX0_heardOwnVersion_38 (by decide) ?_
      exact rm_zret C hr hlocks hw (by decide) dX0_heardOwnVersion_39 ⟨by first | with_reducible rfl | (simp only [rm_own, if_pos c_14, if_neg c_31, ↓reduceIte, Bool.false_eq_true]; done) | (simp only [rm_own, if_pos c_14, if_neg c_31, ↓reduceIte, Bool.false_eq_true]; rfl) | rfl, by first | with_reducible rfl | (simp only [rm_own, if_pos c_14, if_neg c_31, ↓reduceIte, Bool.false_eq_true]; done) | (simp only [rm_own, if_pos c_14, if_neg c_31, ↓reduceIte, Bool.false_eq_true]; rfl) | rfl⟩
    · skip
      refine lv_iconst (v := 1) hx hb dX0_heardOwnVersion_34 (by decide) ?_
      refine lv_goto (tgt := 39) hx hb dX0_heardOwnVersion_35 (by decide) ?_
      exact rm_zret C hr hlocks hw (by decide) dX0_heardOwnVersion_39 ⟨by first | with_reducible rfl | (simp only [rm_own, if_pos c_14, if_pos c_31, ↓reduceIte, Bool.false_eq_true]; done) | (simp only [rm_own, if_pos c_14, if_pos c_31, ↓reduceIte, Bool.false_eq_true]; rfl) | rfl, by first | with_reducible rfl | (simp only [rm_own, if_pos c_14, if_pos c_31, ↓reduceIte, Bool.false_eq_true]; done) | (simp only [rm_own, if_pos c_14, if_pos c_31, ↓reduceIte, Bool.false_eq_true]; rfl) | rfl⟩
set_option maxHeartbeats 4000000 in
set_option maxRecDepth 100000 in
theorem kX0_isTooDeep (l : Launch) (k : rm_K) (a : Nat → Nat) (ha : rm_inj a) (σ : rm_St) (n : Nat) (o : Nat) (hn : n < 10) (ho : o < 10) : rm_MI l k a yX0_isTooDeep wsX0_isTooDeep ({ frames := 1, cells := 0, slots := 0, locals := 22 }) [.int (nI n), .int (nI o)] σ (bI (rm_deep σ n o)) σ := by
  refine rm_enterI (cc := cX0_isTooDeep) (nL := 3) (ret := (some .boolean)) ha (by decide) rfl rfl (by decide +kernel) (Nat.le_of_ble_eq_true rfl) ?_
  intro p e s m args below meth c ls C hr hlocks hw hl
  have hx := C.1.1
  have hb := C.1.2.1
  have hts := C.1.2.2.2.2
  have hA : ∀ q, s.heap.size ≤ q → rm_A a s.heap.size q := fun q h => Or.inr h
  replace hl : lv_has ls 3 [(0, .ref (a 0)), (1, .int (nI n)), (2, .int (nI o))] := hl
  refine lv_aload_n hx hb dX0_isTooDeep_0 rfl (lv_at hl 0 rfl) ?_
  refine lv_iload_n hx hb dX0_isTooDeep_1 rfl (lv_at hl 1 rfl) ?_
  refine lv_iload_n hx hb dX0_isTooDeep_2 rfl (lv_at hl 2 rfl) ?_
  refine rm_callI C hw hA (As := [.int (nI n), .int (nI o)]) (rest := []) (kX0_heardOwnVersion l k a ha σ n o hn ho) (cwV 2 hts gX0_isTooDeep_X0_heardOwnVersion rfl rfl rfl (by decide +kernel) ⟨Nat.le_of_ble_eq_true rfl, Nat.le_of_ble_eq_true rfl⟩) rfl hl.1 rfl (lv_room (Nat.le_of_ble_eq_true rfl)) dX0_isTooDeep_3 ⟨Nat.zero_le _, Nat.zero_le _⟩ (fun H locs hw => ?_)
  refine rm_ifeq (tgt := 21) hx hb dX0_isTooDeep_6 (by decide) (fun c_6 => ?_) (fun c_6 => ?_)
  · skip
    refine lv_iconst (v := 0) hx hb dX0_isTooDeep_21 (by decide) ?_
    exact rm_zret C hr hlocks hw (by decide) dX0_isTooDeep_22 ⟨by first | with_reducible rfl | (simp only [rm_deep, c_6, ↓reduceIte, Bool.false_eq_true]; done) | (simp only [rm_deep, c_6, ↓reduceIte, Bool.false_eq_true]; rfl) | rfl, by first | with_reducible rfl | (simp only [rm_deep, c_6, ↓reduceIte, Bool.false_eq_true]; done) | (simp only [rm_deep, c_6, ↓reduceIte, Bool.false_eq_true]; rfl) | rfl⟩
  · skip
    refine lv_aload_n hx hb dX0_isTooDeep_9 rfl (lv_at hl 0 rfl) ?_
    refine rm_geta C hw 14 9 (by decide) rfl (hts _ (by decide +kernel)) rfl dX0_isTooDeep_10 ?_
    refine lv_iload_n hx hb dX0_isTooDeep_13 rfl (lv_at hl 1 rfl) ?_
    refine rm_iald C hw (by decide) hn dX0_isTooDeep_14 ?_
    refine lv_sipush (v := 10000) hx hb dX0_isTooDeep_15 (by decide) ?_
    refine lv_icmp_ne (tgt := 23) hx hb dX0_isTooDeep_18 (by decide) (fun c_18 => ?_) (fun c_18 => ?_)
    · skip
      refine lv_aload_n hx hb dX0_isTooDeep_23 rfl (lv_at hl 0 rfl) ?_
      refine rm_geta C hw 9 4 (by decide) rfl (hts _ (by decide +kernel)) rfl dX0_isTooDeep_24 ?_
      refine lv_iload_n hx hb dX0_isTooDeep_27 rfl (lv_at hl 1 rfl) ?_
      refine rm_aald C hw 45 (by decide) hn dX0_isTooDeep_28 ?_
      refine lv_iload_n hx hb dX0_isTooDeep_29 rfl (lv_at hl 2 rfl) ?_
      refine rm_iald C hw ⟨by omega, by omega⟩ ho dX0_isTooDeep_30 ?_
      refine lv_aload_n hx hb dX0_isTooDeep_31 rfl (lv_at hl 0 rfl) ?_
      refine rm_geta C hw 14 9 (by decide) rfl (hts _ (by decide +kernel)) rfl dX0_isTooDeep_32 ?_
      refine lv_iload_n hx hb dX0_isTooDeep_35 rfl (lv_at hl 1 rfl) ?_
      refine rm_iald C hw (by decide) hn dX0_isTooDeep_36 ?_
      refine lv_icmp_ge (tgt := 60) hx hb dX0_isTooDeep_37 (by decide) (fun c_37 => ?_) (fun c_37 => ?_)
      · skip
        refine lv_iconst (v := 1) hx hb dX0_isTooDeep_60 (by decide) ?_
        refine lv_goto (tgt := 65) hx hb dX0_isTooDeep_61 (by decide) ?_
        exact rm_zret C hr hlocks hw (by decide) dX0_isTooDeep_65 ⟨by first | with_reducible rfl | (simp only [rm_deep, c_6, if_neg c_18, if_pos c_37, ↓reduceIte, Bool.false_eq_true]; done) | (simp only [rm_deep, c_6, if_neg c_18, if_pos c_37, ↓reduceIte, Bool.false_eq_true]; rfl) | rfl, by first | with_reducible rfl | (simp only [rm_deep, c_6, if_neg c_18, if_pos c_37, ↓reduceIte, Bool.false_eq_true]; done) | (simp only [rm_deep, c_6, if_neg c_18, if_pos c_37, ↓reduceIte, Bool.false_eq_true]; rfl) | rfl⟩
      · skip
        refine lv_aload_n hx hb dX0_isTooDeep_40 rfl (lv_at hl 0 rfl) ?_
        refine lv_iload_n hx hb dX0_isTooDeep_41 rfl (lv_at hl 1 rfl) ?_
        refine lv_iload_n hx hb dX0_isTooDeep_42 rfl (lv_at hl 2 rfl) ?_
        refine rm_callI C hw hA (As := [.int (nI n), .int (nI o)]) (rest := []) (kX0_rankBy l k a ha σ n o hn ho) (cwV 2 hts gX0_isTooDeep_X0_rankBy rfl rfl rfl (by decide +kernel) ⟨Nat.le_of_ble_eq_true rfl, Nat.le_of_ble_eq_true rfl⟩) rfl hl.1 rfl (lv_room (Nat.le_of_ble_eq_true rfl)) dX0_isTooDeep_43 ⟨Nat.zero_le _, Nat.zero_le _⟩ (fun H locs hw => ?_)
        refine lv_aload_n hx hb dX0_isTooDeep_46 rfl (lv_at hl 0 rfl) ?_
        refine rm_geta C hw 15 10 (by decide) rfl (hts _ (by decide +kernel)) rfl dX0_isTooDeep_47 ?_
        refine lv_iload_n hx hb dX0_isTooDeep_50 rfl (lv_at hl 1 rfl) ?_
        refine rm_iald C hw (by decide) hn dX0_isTooDeep_51 ?_
        refine lv_aload_n hx hb dX0_isTooDeep_52 rfl (lv_at hl 0 rfl) ?_
        refine rm_geti C hw 1 (by decide) (hts _ (by decide +kernel)) rfl dX0_isTooDeep_53 ?_
        refine lv_iadd hx hb dX0_isTooDeep_56 ?_
        refine lv_icmp_le (tgt := 64) hx hb dX0_isTooDeep_57 (by decide) (fun c_57 => ?_) (fun c_57 => ?_)
        · skip
          refine lv_iconst (v := 0) hx hb dX0_isTooDeep_64 (by decide) ?_
          exact rm_zret C hr hlocks hw (by decide) dX0_isTooDeep_65 ⟨by first | with_reducible rfl | (simp only [rm_deep, c_6, if_neg c_18, if_neg c_37, if_pos c_57, ↓reduceIte, Bool.false_eq_true]; done) | (simp only [rm_deep, c_6, if_neg c_18, if_neg c_37, if_pos c_57, ↓reduceIte, Bool.false_eq_true]; rfl) | rfl, by first | with_reducible rfl | (simp only [rm_deep, c_6, if_neg c_18, if_neg c_37, if_pos c_57, ↓reduceIte, Bool.false_eq_true]; done) | (simp only [rm_deep, c_6, if_neg c_18, if_neg c_37, if_pos c_57, ↓reduceIte, Bool.false_eq_true]; rfl) | rfl⟩
        · skip
          refine lv_iconst (v := 1) hx hb dX0_isTooDeep_60 (by decide) ?_
          refine lv_goto (tgt := 65) hx hb dX0_isTooDeep_61 (by decide) ?_
          exact rm_zret C hr hlocks hw (by decide) dX0_isTooDeep_65 ⟨by first | with_reducible rfl | (simp only [rm_deep, c_6, if_neg c_18, if_neg c_37, if_neg c_57, ↓reduceIte, Bool.false_eq_true]; done) | (simp only [rm_deep, c_6, if_neg c_18, if_neg c_37, if_neg c_57, ↓reduceIte, Bool.false_eq_true]; rfl) | rfl, by first | with_reducible rfl | (simp only [rm_deep, c_6, if_neg c_18, if_neg c_37, if_neg c_57, ↓reduceIte, Bool.false_eq_true]; done) | (simp only [rm_deep, c_6, if_neg c_18, if_neg c_37, if_neg c_57, ↓reduceIte, Bool.false_eq_true]; rfl) | rfl⟩
    · skip
      refine lv_iconst (v := 0) hx hb dX0_isTooDeep_21 (by decide) ?_
      exact rm_zret C hr hlocks hw (by decide) dX0_isTooDeep_22 ⟨by first | with_reducible rfl | (simp only [rm_deep, c_6, if_pos c_18, ↓reduceIte, Bool.false_eq_true]; done) | (simp only [rm_deep, c_6, if_pos c_18, ↓reduceIte, Bool.false_eq_true]; rfl) | rfl, by first | with_reducible rfl | (simp only [rm_deep, c_6, if_pos c_18, ↓reduceIte, Bool.false_eq_true]; done) | (simp only [rm_deep, c_6, if_pos c_18, ↓reduceIte, Bool.false_eq_true]; rfl) | rfl⟩
set_option maxHeartbeats 4000000 in
set_option maxRecDepth 100000 in
theorem kX0_isOutdated (l : Launch) (k : rm_K) (a : Nat → Nat) (ha : rm_inj a) (σ : rm_St) (n : Nat) (o : Nat) (hn : n < 10) (ho : o < 10) : rm_MI l k a yX0_isOutdated wsX0_isOutdated ({ frames := 0, cells := 0, slots := 0, locals := 0 }) [.int (nI n), .int (nI o)] σ (bI (rm_outd σ n o)) σ := by
  refine rm_enterI (cc := cX0_isOutdated) (nL := 6) (ret := (some .boolean)) ha (by decide) rfl rfl (by decide +kernel) (Nat.le_of_ble_eq_true rfl) ?_
  intro p e s m args below meth c ls C hr hlocks hw hl
  have hx := C.1.1
  have hb := C.1.2.1
  have hts := C.1.2.2.2.2
  have hA : ∀ q, s.heap.size ≤ q → rm_A a s.heap.size q := fun q h => Or.inr h
  replace hl : lv_has ls 6 [(0, .ref (a 0)), (1, .int (nI n)), (2, .int (nI o))] := hl
  refine lv_aload_n hx hb dX0_isOutdated_0 rfl (lv_at hl 0 rfl) ?_
  refine rm_geta C hw 7 2 (by decide) rfl (hts _ (by decide +kernel)) rfl dX0_isOutdated_1 ?_
  refine lv_iload_n hx hb dX0_isOutdated_4 rfl (lv_at hl 1 rfl) ?_
  refine rm_aald C hw 25 (by decide) hn dX0_isOutdated_5 ?_
  refine lv_iload_n hx hb dX0_isOutdated_6 rfl (lv_at hl 2 rfl) ?_
  refine rm_iald C hw ⟨by omega, by omega⟩ ho dX0_isOutdated_7 ?_
  refine lv_istore_n (lv' := [(3, .int (σ (25 + n) o)), (0, .ref (a 0)), (1, .int (nI n)), (2, .int (nI o))]) hx hb dX0_isOutdated_8 rfl hl (by decide) rfl (fun ls hl => ?_)
  refine lv_aload_n hx hb dX0_isOutdated_9 rfl (lv_at hl 1 rfl) ?_
  refine rm_geta C hw 8 3 (by decide) rfl (hts _ (by decide +kernel)) rfl dX0_isOutdated_10 ?_
  refine lv_iload_n hx hb dX0_isOutdated_13 rfl (lv_at hl 2 rfl) ?_
  refine rm_aald C hw 35 (by decide) hn dX0_isOutdated_14 ?_
  refine lv_iload_n hx hb dX0_isOutdated_15 rfl (lv_at hl 3 rfl) ?_
  refine rm_iald C hw ⟨by omega, by omega⟩ ho dX0_isOutdated_16 ?_
  refine lv_istore (lv' := [(4, .int (σ (35 + n) o)), (3, .int (σ (25 + n) o)), (0, .ref (a 0)), (1, .int (nI n)), (2, .int (nI o))]) hx hb dX0_isOutdated_17 hl (by decide) rfl (fun ls hl => ?_)
  refine lv_aload_n hx hb dX0_isOutdated_19 rfl (lv_at hl 2 rfl) ?_
  refine rm_geta C hw 12 7 (by decide) rfl (hts _ (by decide +kernel)) rfl dX0_isOutdated_20 ?_
  refine lv_iload_n hx hb dX0_isOutdated_23 rfl (lv_at hl 3 rfl) ?_
  refine rm_iald C hw (by decide) hn dX0_isOutdated_24 ?_
  refine lv_iload_n hx hb dX0_isOutdated_25 rfl (lv_at hl 1 rfl) ?_
  refine lv_icmp_ne (tgt := 42) hx hb dX0_isOutdated_26 (by decide) (fun c_26 => ?_) (fun c_26 => ?_)
  · skip
    refine lv_iconst (v := 0) hx hb dX0_isOutdated_42 (by decide) ?_
    refine lv_istore (lv' := [(5, .int 0), (4, .int (σ (35 + n) o)), (3, .int (σ (25 + n) o)), (0, .ref (a 0)), (1, .int (nI n)), (2, .int (nI o))]) hx hb dX0_isOutdated_43 hl (by decide) rfl (fun ls hl => ?_)
    have lp_45 : ∀ (r i : Nat), i + r = 10 → ∀ (_ : Unit), rm_outdL σ n (σ (25 + n) o) (σ (35 + n) o) r i = rm_outd σ n o → ∀ (H : Heap) (locs : List Loc), rm_Wd k a (rm_A a s.heap.size) s.heap s σ H locs → ∀ (ls : Array Slot), lv_has ls 6 [(0, .ref (a 0)), (1, .int (nI n)), (3, .int (σ (25 + n) o)), (4, .int (σ (35 + n) o)), (5, .int (nI i))] → W p l e (headSpec wsX0_isOutdated ({ frames := 0, cells := 0, slots := 0, locals := 0 })).room s m args below meth c H locs 0 0 (MQ below (va_Qi (fun (r : Int32) (τ : rm_St) => r = (bI (rm_outd σ n o)) ∧ τ = σ) (fun τ t => rm_P k a τ t) (rm_A a s.heap.size)) args s 0 0 (rm_A a s.heap.size)) (F0 m 45 ls []) := by
      intro r
      induction r with
      | zero =>
        intro i hi45 _ ht45 H locs hw ls hl
        obtain rfl : 10 = i := by omega
        have hz45 : false = rm_outd σ n o := ht45
        refine lv_iload hx hb dX0_isOutdated_45 (lv_at hl 4 rfl) ?_
        refine lv_bipush (v := 10) hx hb dX0_isOutdated_47 (by decide) ?_
        refine lv_icmp_ge (tgt := 87) hx hb dX0_isOutdated_49 (by decide) (fun c_49 => ?_) (fun c_49 => ?_)
        · skip
          refine lv_iconst (v := 0) hx hb dX0_isOutdated_87 (by decide) ?_
          exact rm_zret C hr hlocks hw (by decide) dX0_isOutdated_88 ⟨by first | with_reducible rfl | with_reducible exact hz45 | (rw [← hz45]; done) | (rw [← hz45]; exact bI_f.symm) | (simp only [rm_outd, if_neg c_26, ↓reduceIte, Bool.false_eq_true]; rw [← hz45]; done) | (rw [← hz45]; simp only [rm_outdL, ↓reduceIte, Bool.false_eq_true]; done) | (rw [← hz45]; simp only [rm_outdL, ↓reduceIte, Bool.false_eq_true]; with_reducible rfl) | (rw [← hz45]; simp only [rm_outdL, ↓reduceIte, Bool.false_eq_true]; rfl) | (simp only [rm_outd, if_neg c_26, ↓reduceIte, Bool.false_eq_true]; done) | (simp only [rm_outd, if_neg c_26, ↓reduceIte, Bool.false_eq_true]; with_reducible rfl), by first | with_reducible rfl | with_reducible exact hz45 | (rw [← hz45]; done) | (rw [← hz45]; exact bI_f.symm) | (simp only [rm_outd, if_neg c_26, ↓reduceIte, Bool.false_eq_true]; rw [← hz45]; done) | (rw [← hz45]; simp only [rm_outdL, ↓reduceIte, Bool.false_eq_true]; done) | (rw [← hz45]; simp only [rm_outdL, ↓reduceIte, Bool.false_eq_true]; with_reducible rfl) | (rw [← hz45]; simp only [rm_outdL, ↓reduceIte, Bool.false_eq_true]; rfl) | (simp only [rm_outd, if_neg c_26, ↓reduceIte, Bool.false_eq_true]; done) | (simp only [rm_outd, if_neg c_26, ↓reduceIte, Bool.false_eq_true]; with_reducible rfl)⟩
        · exact absurd (show (10 : Int32) ≤ nI 10 from nI_le (a := 10) (b := 10) (Nat.le_refl _) (by decide)) c_49
      | succ r ih45 =>
        intro i hi45 _ ht45 H locs hw ls hl
        have hlt45 : i < 10 := by omega
        refine lv_iload hx hb dX0_isOutdated_45 (lv_at hl 4 rfl) ?_
        refine lv_bipush (v := 10) hx hb dX0_isOutdated_47 (by decide) ?_
        refine lv_icmp_ge (tgt := 87) hx hb dX0_isOutdated_49 (by decide) (fun c_49 => ?_) (fun c_49 => ?_)
        · exact absurd c_49 (nI_ge (a := i) (b := 10) hlt45 (by decide))
        · skip
          refine lv_aload_n hx hb dX0_isOutdated_52 rfl (lv_at hl 0 rfl) ?_
          refine rm_geta C hw 7 2 (by decide) rfl (hts _ (by decide +kernel)) rfl dX0_isOutdated_53 ?_
          refine lv_iload_n hx hb dX0_isOutdated_56 rfl (lv_at hl 1 rfl) ?_
          refine rm_aald C hw 25 (by decide) hn dX0_isOutdated_57 ?_
          refine lv_iload hx hb dX0_isOutdated_58 (lv_at hl 4 rfl) ?_
          refine rm_iald C hw ⟨by omega, by omega⟩ hlt45 dX0_isOutdated_60 ?_
          refine lv_iload_n hx hb dX0_isOutdated_61 rfl (lv_at hl 2 rfl) ?_
          refine lv_icmp_ne (tgt := 81) hx hb dX0_isOutdated_62 (by decide) (fun c_62 => ?_) (fun c_62 => ?_)
          · skip
            refine lv_iinc (v := nI (i + 1)) (lv' := [(5, .int (nI (i + 1))), (0, .ref (a 0)), (1, .int (nI n)), (3, .int (σ (25 + n) o)), (4, .int (σ (35 + n) o))]) hx hb dX0_isOutdated_81 hl (k := 4) rfl (rm_inc i) (by decide) rfl (fun ls hl => ?_)
            refine lv_goto (tgt := 45) hx hb dX0_isOutdated_84 (by decide) ?_
            exact ih45 (i + 1) (by omega) () (by refine Eq.trans ?_ ht45; first | with_reducible rfl | (simp only [rm_outdL, if_neg c_62, ↓reduceIte, Bool.false_eq_true]; done) | (simp only [rm_outdL, if_neg c_62, ↓reduceIte, Bool.false_eq_true]; with_reducible rfl)) _ _ hw _ (lv_sub hl [1, 2, 3, 4, 0] rfl)
          · skip
            refine lv_aload_n hx hb dX0_isOutdated_65 rfl (lv_at hl 0 rfl) ?_
            refine rm_geta C hw 8 3 (by decide) rfl (hts _ (by decide +kernel)) rfl dX0_isOutdated_66 ?_
            refine lv_iload_n hx hb dX0_isOutdated_69 rfl (lv_at hl 1 rfl) ?_
            refine rm_aald C hw 35 (by decide) hn dX0_isOutdated_70 ?_
            refine lv_iload hx hb dX0_isOutdated_71 (lv_at hl 4 rfl) ?_
            refine rm_iald C hw ⟨by omega, by omega⟩ hlt45 dX0_isOutdated_73 ?_
            refine lv_iload hx hb dX0_isOutdated_74 (lv_at hl 3 rfl) ?_
            refine lv_icmp_le (tgt := 81) hx hb dX0_isOutdated_76 (by decide) (fun c_76 => ?_) (fun c_76 => ?_)
            · skip
              refine lv_iinc (v := nI (i + 1)) (lv' := [(5, .int (nI (i + 1))), (0, .ref (a 0)), (1, .int (nI n)), (3, .int (σ (25 + n) o)), (4, .int (σ (35 + n) o))]) hx hb dX0_isOutdated_81 hl (k := 4) rfl (rm_inc i) (by decide) rfl (fun ls hl => ?_)
              refine lv_goto (tgt := 45) hx hb dX0_isOutdated_84 (by decide) ?_
              exact ih45 (i + 1) (by omega) () (by refine Eq.trans ?_ ht45; first | with_reducible rfl | (simp only [rm_outdL, if_pos c_62, if_pos c_76, ↓reduceIte, Bool.false_eq_true]; done) | (simp only [rm_outdL, if_pos c_62, if_pos c_76, ↓reduceIte, Bool.false_eq_true]; with_reducible rfl)) _ _ hw _ (lv_sub hl [1, 2, 3, 4, 0] rfl)
            · skip
              refine lv_iconst (v := 1) hx hb dX0_isOutdated_79 (by decide) ?_
              exact rm_zret C hr hlocks hw (by decide) dX0_isOutdated_80 ⟨by first | with_reducible rfl | (rw [← ht45]; simp only [rm_outdL, if_pos c_62, if_neg c_76, ↓reduceIte, Bool.false_eq_true]; done) | (rw [← ht45]; simp only [rm_outdL, if_pos c_62, if_neg c_76, ↓reduceIte, Bool.false_eq_true]; with_reducible rfl) | (rw [← ht45]; simp only [rm_outdL, if_pos c_62, if_neg c_76, ↓reduceIte, Bool.false_eq_true]; rfl) | (simp only [rm_outd, if_neg c_26, if_pos c_62, if_neg c_76, ↓reduceIte, Bool.false_eq_true]; rw [← ht45]; simp only [rm_outdL, if_pos c_62, if_neg c_76, ↓reduceIte, Bool.false_eq_true]; done) | (simp only [rm_outd, if_neg c_26, if_pos c_62, if_neg c_76, ↓reduceIte, Bool.false_eq_true]; done) | (simp only [rm_outd, if_neg c_26, if_pos c_62, if_neg c_76, ↓reduceIte, Bool.false_eq_true]; with_reducible rfl), by first | with_reducible rfl | (rw [← ht45]; simp only [rm_outdL, if_pos c_62, if_neg c_76, ↓reduceIte, Bool.false_eq_true]; done) | (rw [← ht45]; simp only [rm_outdL, if_pos c_62, if_neg c_76, ↓reduceIte, Bool.false_eq_true]; with_reducible rfl) | (rw [← ht45]; simp only [rm_outdL, if_pos c_62, if_neg c_76, ↓reduceIte, Bool.false_eq_true]; rfl) | (simp only [rm_outd, if_neg c_26, if_pos c_62, if_neg c_76, ↓reduceIte, Bool.false_eq_true]; rw [← ht45]; simp only [rm_outdL, if_pos c_62, if_neg c_76, ↓reduceIte, Bool.false_eq_true]; done) | (simp only [rm_outd, if_neg c_26, if_pos c_62, if_neg c_76, ↓reduceIte, Bool.false_eq_true]; done) | (simp only [rm_outd, if_neg c_26, if_pos c_62, if_neg c_76, ↓reduceIte, Bool.false_eq_true]; with_reducible rfl)⟩
    exact lp_45 10 0 (by omega) () (by first | with_reducible rfl | (unfold rm_outd; with_reducible rfl) | (simp only [rm_outd, if_neg c_26, ↓reduceIte, Bool.false_eq_true]; done) | (simp only [rm_outd, if_neg c_26, ↓reduceIte, Bool.false_eq_true]; with_reducible rfl)) _ _ hw _ (lv_sub hl [3, 4, 2, 1, 0] rfl)
  · skip
    refine lv_aload_n hx hb dX0_isOutdated_29 rfl (lv_at hl 2 rfl) ?_
    refine rm_geta C hw 13 8 (by decide) rfl (hts _ (by decide +kernel)) rfl dX0_isOutdated_30 ?_
    refine lv_iload_n hx hb dX0_isOutdated_33 rfl (lv_at hl 3 rfl) ?_
    refine rm_iald C hw (by decide) hn dX0_isOutdated_34 ?_
    refine lv_iload hx hb dX0_isOutdated_35 (lv_at hl 0 rfl) ?_
    refine lv_icmp_le (tgt := 42) hx hb dX0_isOutdated_37 (by decide) (fun c_37 => ?_) (fun c_37 => ?_)
    · skip
      refine lv_iconst (v := 0) hx hb dX0_isOutdated_42 (by decide) ?_
      refine lv_istore (lv' := [(5, .int 0), (4, .int (σ (35 + n) o)), (3, .int (σ (25 + n) o)), (0, .ref (a 0)), (1, .int (nI n)), (2, .int (nI o))]) hx hb dX0_isOutdated_43 hl (by decide) rfl (fun ls hl => ?_)
      have lp_45 : ∀ (r i : Nat), i + r = 10 → ∀ (_ : Unit), rm_outdL σ n (σ (25 + n) o) (σ (35 + n) o) r i = rm_outd σ n o → ∀ (H : Heap) (locs : List Loc), rm_Wd k a (rm_A a s.heap.size) s.heap s σ H locs → ∀ (ls : Array Slot), lv_has ls 6 [(0, .ref (a 0)), (1, .int (nI n)), (3, .int (σ (25 + n) o)), (4, .int (σ (35 + n) o)), (5, .int (nI i))] → W p l e (headSpec wsX0_isOutdated ({ frames := 0, cells := 0, slots := 0, locals := 0 })).room s m args below meth c H locs 0 0 (MQ below (va_Qi (fun (r : Int32) (τ : rm_St) => r = (bI (rm_outd σ n o)) ∧ τ = σ) (fun τ t => rm_P k a τ t) (rm_A a s.heap.size)) args s 0 0 (rm_A a s.heap.size)) (F0 m 45 ls []) := by
        intro r
        induction r with
        | zero =>
          intro i hi45 _ ht45 H locs hw ls hl
          obtain rfl : 10 = i := by omega
          have hz45 : false = rm_outd σ n o := ht45
          refine lv_iload hx hb dX0_isOutdated_45 (lv_at hl 4 rfl) ?_
          refine lv_bipush (v := 10) hx hb dX0_isOutdated_47 (by decide) ?_
          refine lv_icmp_ge (tgt := 87) hx hb dX0_isOutdated_49 (by decide) (fun c_49 => ?_) (fun c_49 => ?_)
          · skip
            refine lv_iconst (v := 0) hx hb dX0_isOutdated_87 (by decide) ?_
            exact rm_zret C hr hlocks hw (by decide) dX0_isOutdated_88 ⟨by first | with_reducible rfl | with_reducible exact hz45 | (rw [← hz45]; done) | (rw [← hz45]; exact bI_f.symm) | (simp only [rm_outd, if_pos c_26, if_pos c_37, ↓reduceIte, Bool.false_eq_true]; rw [← hz45]; done) | (rw [← hz45]; simp only [rm_outdL, ↓reduceIte, Bool.false_eq_true]; done) | (rw [← hz45]; simp only [rm_outdL, ↓reduceIte, Bool.false_eq_true]; with_reducible rfl) | (rw [← hz45]; simp only [rm_outdL, ↓reduceIte, Bool.false_eq_true]; rfl) | (simp only [rm_outd, if_pos c_26, if_pos c_37, ↓reduceIte, Bool.false_eq_true]; done) | (simp only [rm_outd, if_pos c_26, if_pos c_37, ↓reduceIte, Bool.false_eq_true]; with_reducible rfl), by first | with_reducible rfl | with_reducible exact hz45 | (rw [← hz45]; done) | (rw [← hz45]; exact bI_f.symm) | (simp only [rm_outd, if_pos c_26, if_pos c_37, ↓reduceIte, Bool.false_eq_true]; rw [← hz45]; done) | (rw [← hz45]; simp only [rm_outdL, ↓reduceIte, Bool.false_eq_true]; done) | (rw [← hz45]; simp only [rm_outdL, ↓reduceIte, Bool.false_eq_true]; with_reducible rfl) | (rw [← hz45]; simp only [rm_outdL, ↓reduceIte, Bool.false_eq_true]; rfl) | (simp only [rm_outd, if_pos c_26, if_pos c_37, ↓reduceIte, Bool.false_eq_true]; done) | (simp only [rm_outd, if_pos c_26, if_pos c_37, ↓reduceIte, Bool.false_eq_true]; with_reducible rfl)⟩
          · exact absurd (show (10 : Int32) ≤ nI 10 from nI_le (a := 10) (b := 10) (Nat.le_refl _) (by decide)) c_49
        | succ r ih45 =>
          intro i hi45 _ ht45 H locs hw ls hl
          have hlt45 : i < 10 := by omega
          refine lv_iload hx hb dX0_isOutdated_45 (lv_at hl 4 rfl) ?_
          refine lv_bipush (v := 10) hx hb dX0_isOutdated_47 (by decide) ?_
          refine lv_icmp_ge (tgt := 87) hx hb dX0_isOutdated_49 (by decide) (fun c_49 => ?_) (fun c_49 => ?_)
          · exact absurd c_49 (nI_ge (a := i) (b := 10) hlt45 (by decide))
          · skip
            refine lv_aload_n hx hb dX0_isOutdated_52 rfl (lv_at hl 0 rfl) ?_
            refine rm_geta C hw 7 2 (by decide) rfl (hts _ (by decide +kernel)) rfl dX0_isOutdated_53 ?_
            refine lv_iload_n hx hb dX0_isOutdated_56 rfl (lv_at hl 1 rfl) ?_
            refine rm_aald C hw 25 (by decide) hn dX0_isOutdated_57 ?_
            refine lv_iload hx hb dX0_isOutdated_58 (lv_at hl 4 rfl) ?_
            refine rm_iald C hw ⟨by omega, by omega⟩ hlt45 dX0_isOutdated_60 ?_
            refine lv_iload_n hx hb dX0_isOutdated_61 rfl (lv_at hl 2 rfl) ?_
            refine lv_icmp_ne (tgt := 81) hx hb dX0_isOutdated_62 (by decide) (fun c_62 => ?_) (fun c_62 => ?_)
            · skip
              refine lv_iinc (v := nI (i + 1)) (lv' := [(5, .int (nI (i + 1))), (0, .ref (a 0)), (1, .int (nI n)), (3, .int (σ (25 + n) o)), (4, .int (σ (35 + n) o))]) hx hb dX0_isOutdated_81 hl (k := 4) rfl (rm_inc i) (by decide) rfl (fun ls hl => ?_)
              refine lv_goto (tgt := 45) hx hb dX0_isOutdated_84 (by decide) ?_
              exact ih45 (i + 1) (by omega) () (by refine Eq.trans ?_ ht45; first | with_reducible rfl | (simp only [rm_outdL, if_neg c_62, ↓reduceIte, Bool.false_eq_true]; done) | (simp only [rm_outdL, if_neg c_62, ↓reduceIte, Bool.false_eq_true]; with_reducible rfl)) _ _ hw _ (lv_sub hl [1, 2, 3, 4, 0] rfl)
            · skip
              refine lv_aload_n hx hb dX0_isOutdated_65 rfl (lv_at hl 0 rfl) ?_
              refine rm_geta C hw 8 3 (by decide) rfl (hts _ (by decide +kernel)) rfl dX0_isOutdated_66 ?_
              refine lv_iload_n hx hb dX0_isOutdated_69 rfl (lv_at hl 1 rfl) ?_
              refine rm_aald C hw 35 (by decide) hn dX0_isOutdated_70 ?_
              refine lv_iload hx hb dX0_isOutdated_71 (lv_at hl 4 rfl) ?_
              refine rm_iald C hw ⟨by omega, by omega⟩ hlt45 dX0_isOutdated_73 ?_
              refine lv_iload hx hb dX0_isOutdated_74 (lv_at hl 3 rfl) ?_
              refine lv_icmp_le (tgt := 81) hx hb dX0_isOutdated_76 (by decide) (fun c_76 => ?_) (fun c_76 => ?_)
              · skip
                refine lv_iinc (v := nI (i + 1)) (lv' := [(5, .int (nI (i + 1))), (0, .ref (a 0)), (1, .int (nI n)), (3, .int (σ (25 + n) o)), (4, .int (σ (35 + n) o))]) hx hb dX0_isOutdated_81 hl (k := 4) rfl (rm_inc i) (by decide) rfl (fun ls hl => ?_)
                refine lv_goto (tgt := 45) hx hb dX0_isOutdated_84 (by decide) ?_
                exact ih45 (i + 1) (by omega) () (by refine Eq.trans ?_ ht45; first | with_reducible rfl | (simp only [rm_outdL, if_pos c_62, if_pos c_76, ↓reduceIte, Bool.false_eq_true]; done) | (simp only [rm_outdL, if_pos c_62, if_pos c_76, ↓reduceIte, Bool.false_eq_true]; with_reducible rfl)) _ _ hw _ (lv_sub hl [1, 2, 3, 4, 0] rfl)
              · skip
                refine lv_iconst (v := 1) hx hb dX0_isOutdated_79 (by decide) ?_
                exact rm_zret C hr hlocks hw (by decide) dX0_isOutdated_80 ⟨by first | with_reducible rfl | (rw [← ht45]; simp only [rm_outdL, if_pos c_62, if_neg c_76, ↓reduceIte, Bool.false_eq_true]; done) | (rw [← ht45]; simp only [rm_outdL, if_pos c_62, if_neg c_76, ↓reduceIte, Bool.false_eq_true]; with_reducible rfl) | (rw [← ht45]; simp only [rm_outdL, if_pos c_62, if_neg c_76, ↓reduceIte, Bool.false_eq_true]; rfl) | (simp only [rm_outd, if_pos c_26, if_pos c_37, if_pos c_62, if_neg c_76, ↓reduceIte, Bool.false_eq_true]; rw [← ht45]; simp only [rm_outdL, if_pos c_62, if_neg c_76, ↓reduceIte, Bool.false_eq_true]; done) | (simp only [rm_outd, if_pos c_26, if_pos c_37, if_pos c_62, if_neg c_76, ↓reduceIte, Bool.false_eq_true]; done) | (simp only [rm_outd, if_pos c_26, if_pos c_37, if_pos c_62, if_neg c_76, ↓reduceIte, Bool.false_eq_true]; with_reducible rfl), by first | with_reducible rfl | (rw [← ht45]; simp only [rm_outdL, if_pos c_62, if_neg c_76, ↓reduceIte, Bool.false_eq_true]; done) | (rw [← ht45]; simp only [rm_outdL, if_pos c_62, if_neg c_76, ↓reduceIte, Bool.false_eq_true]; with_reducible rfl) | (rw [← ht45]; simp only [rm_outdL, if_pos c_62, if_neg c_76, ↓reduceIte, Bool.false_eq_true]; rfl) | (simp only [rm_outd, if_pos c_26, if_pos c_37, if_pos c_62, if_neg c_76, ↓reduceIte, Bool.false_eq_true]; rw [← ht45]; simp only [rm_outdL, if_pos c_62, if_neg c_76, ↓reduceIte, Bool.false_eq_true]; done) | (simp only [rm_outd, if_pos c_26, if_pos c_37, if_pos c_62, if_neg c_76, ↓reduceIte, Bool.false_eq_true]; done) | (simp only [rm_outd, if_pos c_26, if_pos c_37, if_pos c_62, if_neg c_76, ↓reduceIte, Bool.false_eq_true]; with_reducible rfl)⟩
      exact lp_45 10 0 (by omega) () (by first | with_reducible rfl | (unfold rm_outd; with_reducible rfl) | (simp only [rm_outd, if_pos c_26, if_pos c_37, ↓reduceIte, Bool.false_eq_true]; done) | (simp only [rm_outd, if_pos c_26, if_pos c_37, ↓reduceIte, Bool.false_eq_true]; with_reducible rfl)) _ _ hw _ (lv_sub hl [3, 4, 2, 1, 0] rfl)
    · skip
      refine lv_iconst (v := 1) hx hb dX0_isOutdated_40 (by decide) ?_
      exact rm_zret C hr hlocks hw (by decide) dX0_isOutdated_41 ⟨by first | with_reducible rfl | (simp only [rm_outd, if_pos c_26, if_neg c_37, ↓reduceIte, Bool.false_eq_true]; done) | (simp only [rm_outd, if_pos c_26, if_neg c_37, ↓reduceIte, Bool.false_eq_true]; rfl) | rfl, by first | with_reducible rfl | (simp only [rm_outd, if_pos c_26, if_neg c_37, ↓reduceIte, Bool.false_eq_true]; done) | (simp only [rm_outd, if_pos c_26, if_neg c_37, ↓reduceIte, Bool.false_eq_true]; rfl) | rfl⟩
set_option maxHeartbeats 4000000 in
set_option maxRecDepth 100000 in
theorem kX0_isCandidate (l : Launch) (k : rm_K) (a : Nat → Nat) (ha : rm_inj a) (σ : rm_St) (n : Nat) (o : Nat) (hn : n < 10) (ho : o < 10) : rm_MI l k a yX0_isCandidate wsX0_isCandidate ({ frames := 2, cells := 0, slots := 0, locals := 44 }) [.int (nI n), .int (nI o)] σ (bI (rm_cand σ n o)) σ := by
  refine rm_enterI (cc := cX0_isCandidate) (nL := 4) (ret := (some .boolean)) ha (by decide) rfl rfl (by decide +kernel) (Nat.le_of_ble_eq_true rfl) ?_
  intro p e s m args below meth c ls C hr hlocks hw hl
  have hx := C.1.1
  have hb := C.1.2.1
  have hts := C.1.2.2.2.2
  have hA : ∀ q, s.heap.size ≤ q → rm_A a s.heap.size q := fun q h => Or.inr h
  replace hl : lv_has ls 4 [(0, .ref (a 0)), (1, .int (nI n)), (2, .int (nI o))] := hl
  refine lv_aload_n hx hb dX0_isCandidate_0 rfl (lv_at hl 0 rfl) ?_
  refine rm_geta C hw 9 4 (by decide) rfl (hts _ (by decide +kernel)) rfl dX0_isCandidate_1 ?_
  refine lv_iload_n hx hb dX0_isCandidate_4 rfl (lv_at hl 1 rfl) ?_
  refine rm_aald C hw 45 (by decide) hn dX0_isCandidate_5 ?_
  refine lv_iload_n hx hb dX0_isCandidate_6 rfl (lv_at hl 2 rfl) ?_
  refine rm_iald C hw ⟨by omega, by omega⟩ ho dX0_isCandidate_7 ?_
  refine lv_istore_n (lv' := [(3, .int (σ (45 + n) o)), (0, .ref (a 0)), (1, .int (nI n)), (2, .int (nI o))]) hx hb dX0_isCandidate_8 rfl hl (by decide) rfl (fun ls hl => ?_)
  refine lv_iload_n hx hb dX0_isCandidate_9 rfl (lv_at hl 0 rfl) ?_
  refine lv_iconst (v := (-1)) hx hb dX0_isCandidate_10 (by decide) ?_
  refine lv_icmp_eq (tgt := 33) hx hb dX0_isCandidate_11 (by decide) (fun c_11 => ?_) (fun c_11 => ?_)
  · skip
    refine lv_iconst (v := 0) hx hb dX0_isCandidate_33 (by decide) ?_
    exact rm_zret C hr hlocks hw (by decide) dX0_isCandidate_34 ⟨by first | with_reducible rfl | (simp only [rm_cand, if_pos c_11, ↓reduceIte, Bool.false_eq_true]; done) | (simp only [rm_cand, if_pos c_11, ↓reduceIte, Bool.false_eq_true]; rfl) | rfl, by first | with_reducible rfl | (simp only [rm_cand, if_pos c_11, ↓reduceIte, Bool.false_eq_true]; done) | (simp only [rm_cand, if_pos c_11, ↓reduceIte, Bool.false_eq_true]; rfl) | rfl⟩
  · skip
    refine lv_iload_n hx hb dX0_isCandidate_14 rfl (lv_at hl 0 rfl) ?_
    refine lv_sipush (v := 10000) hx hb dX0_isCandidate_15 (by decide) ?_
    refine lv_icmp_ge (tgt := 33) hx hb dX0_isCandidate_18 (by decide) (fun c_18 => ?_) (fun c_18 => ?_)
    · skip
      refine lv_iconst (v := 0) hx hb dX0_isCandidate_33 (by decide) ?_
      exact rm_zret C hr hlocks hw (by decide) dX0_isCandidate_34 ⟨by first | with_reducible rfl | (simp only [rm_cand, if_neg c_11, if_pos c_18, ↓reduceIte, Bool.false_eq_true]; done) | (simp only [rm_cand, if_neg c_11, if_pos c_18, ↓reduceIte, Bool.false_eq_true]; rfl) | rfl, by first | with_reducible rfl | (simp only [rm_cand, if_neg c_11, if_pos c_18, ↓reduceIte, Bool.false_eq_true]; done) | (simp only [rm_cand, if_neg c_11, if_pos c_18, ↓reduceIte, Bool.false_eq_true]; rfl) | rfl⟩
    · skip
      refine lv_aload_n hx hb dX0_isCandidate_21 rfl (lv_at hl 1 rfl) ?_
      refine lv_iload_n hx hb dX0_isCandidate_22 rfl (lv_at hl 2 rfl) ?_
      refine lv_iload_n hx hb dX0_isCandidate_23 rfl (lv_at hl 3 rfl) ?_
      refine rm_callI C hw hA (As := [.int (nI n), .int (nI o)]) (rest := []) (kX0_rankBy l k a ha σ n o hn ho) (cwV 2 hts gX0_isCandidate_X0_rankBy rfl rfl rfl (by decide +kernel) ⟨Nat.le_of_ble_eq_true rfl, Nat.le_of_ble_eq_true rfl⟩) rfl hl.1 rfl (lv_room (Nat.le_of_ble_eq_true rfl)) dX0_isCandidate_24 ⟨Nat.zero_le _, Nat.zero_le _⟩ (fun H locs hw => ?_)
      refine lv_sipush (v := 10000) hx hb dX0_isCandidate_27 (by decide) ?_
      refine lv_icmp_lt (tgt := 35) hx hb dX0_isCandidate_30 (by decide) (fun c_30 => ?_) (fun c_30 => ?_)
      · skip
        refine lv_aload_n hx hb dX0_isCandidate_35 rfl (lv_at hl 1 rfl) ?_
        refine lv_iload_n hx hb dX0_isCandidate_36 rfl (lv_at hl 2 rfl) ?_
        refine lv_iload_n hx hb dX0_isCandidate_37 rfl (lv_at hl 3 rfl) ?_
        refine rm_callI C hw hA (As := [.int (nI n), .int (nI o)]) (rest := []) (kX0_isOutdated l k a ha σ n o hn ho) (cwV 2 hts gX0_isCandidate_X0_isOutdated rfl rfl rfl (by decide +kernel) ⟨Nat.le_of_ble_eq_true rfl, Nat.le_of_ble_eq_true rfl⟩) rfl hl.1 rfl (lv_room (Nat.le_of_ble_eq_true rfl)) dX0_isCandidate_38 ⟨Nat.zero_le _, Nat.zero_le _⟩ (fun H locs hw => ?_)
        refine rm_ifne (tgt := 57) hx hb dX0_isCandidate_41 (by decide) (fun c_41 => ?_) (fun c_41 => ?_)
        · skip
          refine lv_iconst (v := 0) hx hb dX0_isCandidate_57 (by decide) ?_
          exact rm_zret C hr hlocks hw (by decide) dX0_isCandidate_58 ⟨by first | with_reducible rfl | (simp only [rm_cand, if_neg c_11, if_neg c_18, if_pos c_30, c_41, ↓reduceIte, Bool.false_eq_true]; done) | (simp only [rm_cand, if_neg c_11, if_neg c_18, if_pos c_30, c_41, ↓reduceIte, Bool.false_eq_true]; rfl) | rfl, by first | with_reducible rfl | (simp only [rm_cand, if_neg c_11, if_neg c_18, if_pos c_30, c_41, ↓reduceIte, Bool.false_eq_true]; done) | (simp only [rm_cand, if_neg c_11, if_neg c_18, if_pos c_30, c_41, ↓reduceIte, Bool.false_eq_true]; rfl) | rfl⟩
        · skip
          refine lv_aload_n hx hb dX0_isCandidate_44 rfl (lv_at hl 1 rfl) ?_
          refine lv_iload_n hx hb dX0_isCandidate_45 rfl (lv_at hl 2 rfl) ?_
          refine lv_iload_n hx hb dX0_isCandidate_46 rfl (lv_at hl 3 rfl) ?_
          refine rm_callI C hw hA (As := [.int (nI n), .int (nI o)]) (rest := []) (kX0_isTooDeep l k a ha σ n o hn ho) (cwV 2 hts gX0_isCandidate_X0_isTooDeep rfl rfl rfl (by decide +kernel) ⟨Nat.le_of_ble_eq_true rfl, Nat.le_of_ble_eq_true rfl⟩) rfl hl.1 rfl (lv_room (Nat.le_of_ble_eq_true rfl)) dX0_isCandidate_47 ⟨Nat.zero_le _, Nat.zero_le _⟩ (fun H locs hw => ?_)
          refine rm_ifne (tgt := 57) hx hb dX0_isCandidate_50 (by decide) (fun c_50 => ?_) (fun c_50 => ?_)
          · skip
            refine lv_iconst (v := 0) hx hb dX0_isCandidate_57 (by decide) ?_
            exact rm_zret C hr hlocks hw (by decide) dX0_isCandidate_58 ⟨by first | with_reducible rfl | (simp only [rm_cand, if_neg c_11, if_neg c_18, if_pos c_30, c_41, c_50, ↓reduceIte, Bool.false_eq_true]; done) | (simp only [rm_cand, if_neg c_11, if_neg c_18, if_pos c_30, c_41, c_50, ↓reduceIte, Bool.false_eq_true]; rfl) | rfl, by first | with_reducible rfl | (simp only [rm_cand, if_neg c_11, if_neg c_18, if_pos c_30, c_41, c_50, ↓reduceIte, Bool.false_eq_true]; done) | (simp only [rm_cand, if_neg c_11, if_neg c_18, if_pos c_30, c_41, c_50, ↓reduceIte, Bool.false_eq_true]; rfl) | rfl⟩
          · skip
            refine lv_iconst (v := 1) hx hb dX0_isCandidate_53 (by decide) ?_
            refine lv_goto (tgt := 58) hx hb dX0_isCandidate_54 (by decide) ?_
            exact rm_zret C hr hlocks hw (by decide) dX0_isCandidate_58 ⟨by first | with_reducible rfl | (simp only [rm_cand, if_neg c_11, if_neg c_18, if_pos c_30, c_41, c_50, ↓reduceIte, Bool.false_eq_true]; done) | (simp only [rm_cand, if_neg c_11, if_neg c_18, if_pos c_30, c_41, c_50, ↓reduceIte, Bool.false_eq_true]; rfl) | rfl, by first | with_reducible rfl | (simp only [rm_cand, if_neg c_11, if_neg c_18, if_pos c_30, c_41, c_50, ↓reduceIte, Bool.false_eq_true]; done) | (simp only [rm_cand, if_neg c_11, if_neg c_18, if_pos c_30, c_41, c_50, ↓reduceIte, Bool.false_eq_true]; rfl) | rfl⟩
      · skip
        refine lv_iconst (v := 0) hx hb dX0_isCandidate_33 (by decide) ?_
        exact rm_zret C hr hlocks hw (by decide) dX0_isCandidate_34 ⟨by first | with_reducible rfl | (simp only [rm_cand, if_neg c_11, if_neg c_18, if_neg c_30, ↓reduceIte, Bool.false_eq_true]; done) | (simp only [rm_cand, if_neg c_11, if_neg c_18, if_neg c_30, ↓reduceIte, Bool.false_eq_true]; rfl) | rfl, by first | with_reducible rfl | (simp only [rm_cand, if_neg c_11, if_neg c_18, if_neg c_30, ↓reduceIte, Bool.false_eq_true]; done) | (simp only [rm_cand, if_neg c_11, if_neg c_18, if_neg c_30, ↓reduceIte, Bool.false_eq_true]; rfl) | rfl⟩
set_option maxHeartbeats 4000000 in
set_option maxRecDepth 100000 in
theorem kX0_bestCandidate (l : Launch) (k : rm_K) (a : Nat → Nat) (ha : rm_inj a) (σ : rm_St) (n : Nat) (hn : n < 10) : rm_MI l k a yX0_bestCandidate wsX0_bestCandidate ({ frames := 3, cells := 0, slots := 0, locals := 67 }) [.int (nI n)] σ (rm_best σ n) σ := by
  refine rm_enterI (cc := cX0_bestCandidate) (nL := 6) (ret := (some .int)) ha (by decide) rfl rfl (by decide +kernel) (Nat.le_of_ble_eq_true rfl) ?_
  intro p e s m args below meth c ls C hr hlocks hw hl
  have hx := C.1.1
  have hb := C.1.2.1
  have hts := C.1.2.2.2.2
  have hA : ∀ q, s.heap.size ≤ q → rm_A a s.heap.size q := fun q h => Or.inr h
  replace hl : lv_has ls 6 [(0, .ref (a 0)), (1, .int (nI n))] := hl
  refine lv_iconst (v := (-1)) hx hb dX0_bestCandidate_0 (by decide) ?_
  refine lv_istore_n (lv' := [(2, .int ((-1))), (0, .ref (a 0)), (1, .int (nI n))]) hx hb dX0_bestCandidate_1 rfl hl (by decide) rfl (fun ls hl => ?_)
  refine lv_sipush (v := 10000) hx hb dX0_bestCandidate_2 (by decide) ?_
  refine lv_istore_n (lv' := [(3, .int 10000), (2, .int ((-1))), (0, .ref (a 0)), (1, .int (nI n))]) hx hb dX0_bestCandidate_5 rfl hl (by decide) rfl (fun ls hl => ?_)
  refine lv_iconst (v := 0) hx hb dX0_bestCandidate_6 (by decide) ?_
  refine lv_istore (lv' := [(4, .int 0), (3, .int 10000), (2, .int ((-1))), (0, .ref (a 0)), (1, .int (nI n))]) hx hb dX0_bestCandidate_7 hl (by decide) rfl (fun ls hl => ?_)
  have lp_9 : ∀ (r i : Nat), i + r = 10 → ∀ (x2 : Int32) (x3 : Int32), rm_bestL σ n r i x2 x3 = rm_best σ n → ∀ (H : Heap) (locs : List Loc), rm_Wd k a (rm_A a s.heap.size) s.heap s σ H locs → ∀ (ls : Array Slot), lv_has ls 6 [(0, .ref (a 0)), (1, .int (nI n)), (2, .int x2), (3, .int x3), (4, .int (nI i))] → W p l e (headSpec wsX0_bestCandidate ({ frames := 3, cells := 0, slots := 0, locals := 67 })).room s m args below meth c H locs 0 0 (MQ below (va_Qi (fun (r : Int32) (τ : rm_St) => r = (rm_best σ n) ∧ τ = σ) (fun τ t => rm_P k a τ t) (rm_A a s.heap.size)) args s 0 0 (rm_A a s.heap.size)) (F0 m 9 ls []) := by
    intro r
    induction r with
    | zero =>
      intro i hi9 x2 x3 ht9 H locs hw ls hl
      obtain rfl : 10 = i := by omega
      have hz9 : x2 = rm_best σ n := ht9
      refine lv_iload hx hb dX0_bestCandidate_9 (lv_at hl 4 rfl) ?_
      refine lv_bipush (v := 10) hx hb dX0_bestCandidate_11 (by decide) ?_
      refine lv_icmp_ge (tgt := 53) hx hb dX0_bestCandidate_13 (by decide) (fun c_13 => ?_) (fun c_13 => ?_)
      · skip
        refine lv_iload_n hx hb dX0_bestCandidate_53 rfl (lv_at hl 2 rfl) ?_
        exact rm_iret C hr hlocks hw dX0_bestCandidate_54 ⟨by first | with_reducible rfl | with_reducible exact hz9 | (rw [← hz9]; done) | (rw [← hz9]; exact bI_f.symm) | (simp only [rm_best, ↓reduceIte, Bool.false_eq_true]; rw [← hz9]; done) | (rw [← hz9]; simp only [rm_bestL, ↓reduceIte, Bool.false_eq_true]; done) | (rw [← hz9]; simp only [rm_bestL, ↓reduceIte, Bool.false_eq_true]; with_reducible rfl) | (rw [← hz9]; simp only [rm_bestL, ↓reduceIte, Bool.false_eq_true]; rfl) | (simp only [rm_best, ↓reduceIte, Bool.false_eq_true]; done) | (simp only [rm_best, ↓reduceIte, Bool.false_eq_true]; with_reducible rfl), by first | with_reducible rfl | with_reducible exact hz9 | (rw [← hz9]; done) | (rw [← hz9]; exact bI_f.symm) | (simp only [rm_best, ↓reduceIte, Bool.false_eq_true]; rw [← hz9]; done) | (rw [← hz9]; simp only [rm_bestL, ↓reduceIte, Bool.false_eq_true]; done) | (rw [← hz9]; simp only [rm_bestL, ↓reduceIte, Bool.false_eq_true]; with_reducible rfl) | (rw [← hz9]; simp only [rm_bestL, ↓reduceIte, Bool.false_eq_true]; rfl) | (simp only [rm_best, ↓reduceIte, Bool.false_eq_true]; done) | (simp only [rm_best, ↓reduceIte, Bool.false_eq_true]; with_reducible rfl)⟩
      · exact absurd (show (10 : Int32) ≤ nI 10 from nI_le (a := 10) (b := 10) (Nat.le_refl _) (by decide)) c_13
    | succ r ih9 =>
      intro i hi9 x2 x3 ht9 H locs hw ls hl
      have hlt9 : i < 10 := by omega
      refine lv_iload hx hb dX0_bestCandidate_9 (lv_at hl 4 rfl) ?_
      refine lv_bipush (v := 10) hx hb dX0_bestCandidate_11 (by decide) ?_
      refine lv_icmp_ge (tgt := 53) hx hb dX0_bestCandidate_13 (by decide) (fun c_13 => ?_) (fun c_13 => ?_)
      · exact absurd c_13 (nI_ge (a := i) (b := 10) hlt9 (by decide))
      · skip
        refine lv_aload_n hx hb dX0_bestCandidate_16 rfl (lv_at hl 0 rfl) ?_
        refine lv_iload_n hx hb dX0_bestCandidate_17 rfl (lv_at hl 1 rfl) ?_
        refine lv_iload hx hb dX0_bestCandidate_18 (lv_at hl 4 rfl) ?_
        refine rm_callI C hw hA (As := [.int (nI n), .int (nI i)]) (rest := []) (kX0_rankBy l k a ha σ n i hn hlt9) (cwV 2 hts gX0_bestCandidate_X0_rankBy rfl rfl rfl (by decide +kernel) ⟨Nat.le_of_ble_eq_true rfl, Nat.le_of_ble_eq_true rfl⟩) rfl hl.1 rfl (lv_room (Nat.le_of_ble_eq_true rfl)) dX0_bestCandidate_20 ⟨Nat.zero_le _, Nat.zero_le _⟩ (fun H locs hw => ?_)
        refine lv_istore (lv' := [(5, .int (rm_rankBy σ n i)), (0, .ref (a 0)), (1, .int (nI n)), (2, .int x2), (3, .int x3), (4, .int (nI i))]) hx hb dX0_bestCandidate_23 hl (by decide) rfl (fun ls hl => ?_)
        refine lv_iload hx hb dX0_bestCandidate_25 (lv_at hl 0 rfl) ?_
        refine lv_iload_n hx hb dX0_bestCandidate_27 rfl (lv_at hl 4 rfl) ?_
        refine lv_icmp_ge (tgt := 47) hx hb dX0_bestCandidate_28 (by decide) (fun c_28 => ?_) (fun c_28 => ?_)
        · skip
          refine lv_iinc (v := nI (i + 1)) (lv' := [(4, .int (nI (i + 1))), (5, .int (rm_rankBy σ n i)), (0, .ref (a 0)), (1, .int (nI n)), (2, .int x2), (3, .int x3)]) hx hb dX0_bestCandidate_47 hl (k := 5) rfl (rm_inc i) (by decide) rfl (fun ls hl => ?_)
          refine lv_goto (tgt := 9) hx hb dX0_bestCandidate_50 (by decide) ?_
          exact ih9 (i + 1) (by omega) (x2) (x3) (by refine Eq.trans ?_ ht9; first | with_reducible rfl | (simp only [rm_bestL, if_pos c_28, ↓reduceIte, Bool.false_eq_true]; done) | (simp only [rm_bestL, if_pos c_28, ↓reduceIte, Bool.false_eq_true]; with_reducible rfl)) _ _ hw _ (lv_sub hl [2, 3, 4, 5, 0] rfl)
        · skip
          refine lv_aload_n hx hb dX0_bestCandidate_31 rfl (lv_at hl 1 rfl) ?_
          refine lv_iload_n hx hb dX0_bestCandidate_32 rfl (lv_at hl 2 rfl) ?_
          refine lv_iload hx hb dX0_bestCandidate_33 (lv_at hl 5 rfl) ?_
          refine rm_callI C hw hA (As := [.int (nI n), .int (nI i)]) (rest := []) (kX0_isCandidate l k a ha σ n i hn hlt9) (cwV 2 hts gX0_bestCandidate_X0_isCandidate rfl rfl rfl (by decide +kernel) ⟨Nat.le_of_ble_eq_true rfl, Nat.le_of_ble_eq_true rfl⟩) rfl hl.1 rfl (lv_room (Nat.le_of_ble_eq_true rfl)) dX0_bestCandidate_35 ⟨Nat.zero_le _, Nat.zero_le _⟩ (fun H locs hw => ?_)
          refine rm_ifeq (tgt := 47) hx hb dX0_bestCandidate_38 (by decide) (fun c_38 => ?_) (fun c_38 => ?_)
          · skip
            refine lv_iinc (v := nI (i + 1)) (lv' := [(4, .int (nI (i + 1))), (5, .int (rm_rankBy σ n i)), (0, .ref (a 0)), (1, .int (nI n)), (2, .int x2), (3, .int x3)]) hx hb dX0_bestCandidate_47 hl (k := 5) rfl (rm_inc i) (by decide) rfl (fun ls hl => ?_)
            refine lv_goto (tgt := 9) hx hb dX0_bestCandidate_50 (by decide) ?_
            exact ih9 (i + 1) (by omega) (x2) (x3) (by refine Eq.trans ?_ ht9; first | with_reducible rfl | (simp only [rm_bestL, if_neg c_28, c_38, ↓reduceIte, Bool.false_eq_true]; done) | (simp only [rm_bestL, if_neg c_28, c_38, ↓reduceIte, Bool.false_eq_true]; with_reducible rfl)) _ _ hw _ (lv_sub hl [2, 3, 4, 5, 0] rfl)
          · skip
            refine lv_iload hx hb dX0_bestCandidate_41 (lv_at hl 5 rfl) ?_
            refine lv_istore_n (lv' := [(2, .int (nI i)), (5, .int (rm_rankBy σ n i)), (0, .ref (a 0)), (1, .int (nI n)), (3, .int x3), (4, .int (nI i))]) hx hb dX0_bestCandidate_43 rfl hl (by decide) rfl (fun ls hl => ?_)
            refine lv_iload hx hb dX0_bestCandidate_44 (lv_at hl 1 rfl) ?_
            refine lv_istore_n (lv' := [(3, .int (rm_rankBy σ n i)), (2, .int (nI i)), (5, .int (rm_rankBy σ n i)), (0, .ref (a 0)), (1, .int (nI n)), (4, .int (nI i))]) hx hb dX0_bestCandidate_46 rfl hl (by decide) rfl (fun ls hl => ?_)
            refine lv_iinc (v := nI (i + 1)) (lv' := [(4, .int (nI (i + 1))), (3, .int (rm_rankBy σ n i)), (2, .int (nI i)), (5, .int (rm_rankBy σ n i)), (0, .ref (a 0)), (1, .int (nI n))]) hx hb dX0_bestCandidate_47 hl (k := 5) rfl (rm_inc i) (by decide) rfl (fun ls hl => ?_)
            refine lv_goto (tgt := 9) hx hb dX0_bestCandidate_50 (by decide) ?_
            exact ih9 (i + 1) (by omega) (nI i) (rm_rankBy σ n i) (by refine Eq.trans ?_ ht9; first | with_reducible rfl | (simp only [rm_bestL, if_neg c_28, c_38, ↓reduceIte, Bool.false_eq_true]; done) | (simp only [rm_bestL, if_neg c_28, c_38, ↓reduceIte, Bool.false_eq_true]; with_reducible rfl)) _ _ hw _ (lv_sub hl [4, 5, 2, 1, 0] rfl)
  exact lp_9 10 0 (by omega) ((-1)) (10000) (by first | with_reducible rfl | (unfold rm_best; with_reducible rfl) | (simp only [rm_best, ↓reduceIte, Bool.false_eq_true]; done) | (simp only [rm_best, ↓reduceIte, Bool.false_eq_true]; with_reducible rfl)) _ _ hw _ (lv_sub hl [3, 4, 2, 1, 0] rfl)
set_option maxHeartbeats 4000000 in
set_option maxRecDepth 100000 in
theorem kX0_keepsParent (l : Launch) (k : rm_K) (a : Nat → Nat) (ha : rm_inj a) (σ : rm_St) (n : Nat) (o : Nat) (hn : n < 10) (ho : o < 10) : rm_MI l k a yX0_keepsParent wsX0_keepsParent ({ frames := 3, cells := 0, slots := 0, locals := 67 }) [.int (nI n), .int (nI o)] σ (bI (rm_keeps σ n o)) σ := by
  refine rm_enterI (cc := cX0_keepsParent) (nL := 5) (ret := (some .boolean)) ha (by decide) rfl rfl (by decide +kernel) (Nat.le_of_ble_eq_true rfl) ?_
  intro p e s m args below meth c ls C hr hlocks hw hl
  have hx := C.1.1
  have hb := C.1.2.1
  have hts := C.1.2.2.2.2
  have hA : ∀ q, s.heap.size ≤ q → rm_A a s.heap.size q := fun q h => Or.inr h
  replace hl : lv_has ls 5 [(0, .ref (a 0)), (1, .int (nI n)), (2, .int (nI o))] := hl
  refine lv_aload_n hx hb dX0_keepsParent_0 rfl (lv_at hl 0 rfl) ?_
  refine rm_geta C hw 16 11 (by decide) rfl (hts _ (by decide +kernel)) rfl dX0_keepsParent_1 ?_
  refine lv_iload_n hx hb dX0_keepsParent_4 rfl (lv_at hl 1 rfl) ?_
  refine rm_iald C hw (by decide) hn dX0_keepsParent_5 ?_
  refine lv_istore_n (lv' := [(3, .int (σ 11 n)), (0, .ref (a 0)), (1, .int (nI n)), (2, .int (nI o))]) hx hb dX0_keepsParent_6 rfl hl (by decide) rfl (fun ls hl => ?_)
  refine lv_iload_n hx hb dX0_keepsParent_7 rfl (lv_at hl 0 rfl) ?_
  refine rm_callSI C hw (As := [.int (σ 11 n)]) (rest := []) (kX0_isNode l (σ 11 n)) (va_cwS 1 hts gX0_keepsParent_X0_isNode rfl rfl rfl (by decide +kernel) ⟨Nat.le_of_ble_eq_true rfl, Nat.le_of_ble_eq_true rfl⟩) rfl hl.1 rfl (lv_room (Nat.le_of_ble_eq_true rfl)) dX0_keepsParent_8 ⟨Nat.zero_le _, Nat.zero_le _⟩ (fun H locs hw => ?_)
  refine rm_ifeq (tgt := 23) hx hb dX0_keepsParent_11 (by decide) (fun c_11 => ?_) (fun c_11 => ?_)
  · skip
    refine lv_iconst (v := 0) hx hb dX0_keepsParent_23 (by decide) ?_
    exact rm_zret C hr hlocks hw (by decide) dX0_keepsParent_24 ⟨by first | with_reducible rfl | (simp only [rm_keeps, c_11, ↓reduceIte, Bool.false_eq_true]; done) | (simp only [rm_keeps, c_11, ↓reduceIte, Bool.false_eq_true]; rfl) | rfl, by first | with_reducible rfl | (simp only [rm_keeps, c_11, ↓reduceIte, Bool.false_eq_true]; done) | (simp only [rm_keeps, c_11, ↓reduceIte, Bool.false_eq_true]; rfl) | rfl⟩
  · skip
    obtain ⟨o1, ho1, eo1⟩ := isNd_of c_11
    rw [eo1] at hl
    refine lv_aload_n hx hb dX0_keepsParent_14 rfl (lv_at hl 1 rfl) ?_
    refine lv_iload_n hx hb dX0_keepsParent_15 rfl (lv_at hl 2 rfl) ?_
    refine lv_iload_n hx hb dX0_keepsParent_16 rfl (lv_at hl 0 rfl) ?_
    refine rm_callI C hw hA (As := [.int (nI n), .int (nI o1)]) (rest := []) (kX0_isCandidate l k a ha σ n o1 hn ho1) (cwV 2 hts gX0_keepsParent_X0_isCandidate rfl rfl rfl (by decide +kernel) ⟨Nat.le_of_ble_eq_true rfl, Nat.le_of_ble_eq_true rfl⟩) rfl hl.1 rfl (lv_room (Nat.le_of_ble_eq_true rfl)) dX0_keepsParent_17 ⟨Nat.zero_le _, Nat.zero_le _⟩ (fun H locs hw => ?_)
    refine rm_ifne (tgt := 25) hx hb dX0_keepsParent_20 (by decide) (fun c_20 => ?_) (fun c_20 => ?_)
    · skip
      refine lv_aload_n hx hb dX0_keepsParent_25 rfl (lv_at hl 1 rfl) ?_
      refine lv_iload_n hx hb dX0_keepsParent_26 rfl (lv_at hl 2 rfl) ?_
      refine lv_iload_n hx hb dX0_keepsParent_27 rfl (lv_at hl 0 rfl) ?_
      refine rm_callI C hw hA (As := [.int (nI n), .int (nI o1)]) (rest := []) (kX0_rankBy l k a ha σ n o1 hn ho1) (cwV 2 hts gX0_keepsParent_X0_rankBy rfl rfl rfl (by decide +kernel) ⟨Nat.le_of_ble_eq_true rfl, Nat.le_of_ble_eq_true rfl⟩) rfl hl.1 rfl (lv_room (Nat.le_of_ble_eq_true rfl)) dX0_keepsParent_28 ⟨Nat.zero_le _, Nat.zero_le _⟩ (fun H locs hw => ?_)
      refine lv_aload_n hx hb dX0_keepsParent_31 rfl (lv_at hl 1 rfl) ?_
      refine lv_iload_n hx hb dX0_keepsParent_32 rfl (lv_at hl 2 rfl) ?_
      refine lv_iload_n hx hb dX0_keepsParent_33 rfl (lv_at hl 3 rfl) ?_
      refine rm_callI C hw hA (As := [.int (nI n), .int (nI o)]) (rest := [.int (rm_rankBy σ n o1)]) (kX0_rankBy l k a ha σ n o hn ho) (cwV 2 hts gX0_keepsParent_X0_rankBy rfl rfl rfl (by decide +kernel) ⟨Nat.le_of_ble_eq_true rfl, Nat.le_of_ble_eq_true rfl⟩) rfl hl.1 rfl (lv_room (Nat.le_of_ble_eq_true rfl)) dX0_keepsParent_34 ⟨Nat.zero_le _, Nat.zero_le _⟩ (fun H locs hw => ?_)
      refine lv_isub hx hb dX0_keepsParent_37 ?_
      refine lv_istore (lv' := [(4, .int ((rm_rankBy σ n o1) - (rm_rankBy σ n o))), (3, .int (nI o1)), (0, .ref (a 0)), (1, .int (nI n)), (2, .int (nI o))]) hx hb dX0_keepsParent_38 hl (by decide) rfl (fun ls hl => ?_)
      refine lv_iload hx hb dX0_keepsParent_40 (lv_at hl 0 rfl) ?_
      refine lv_aload_n hx hb dX0_keepsParent_42 rfl (lv_at hl 2 rfl) ?_
      refine rm_geti C hw 0 (by decide) (hts _ (by decide +kernel)) rfl dX0_keepsParent_43 ?_
      refine lv_icmp_lt (tgt := 55) hx hb dX0_keepsParent_46 (by decide) (fun c_46 => ?_) (fun c_46 => ?_)
      · skip
        refine lv_iconst (v := 1) hx hb dX0_keepsParent_55 (by decide) ?_
        refine lv_goto (tgt := 60) hx hb dX0_keepsParent_56 (by decide) ?_
        exact rm_zret C hr hlocks hw (by decide) dX0_keepsParent_60 ⟨by first | with_reducible rfl | (simp only [rm_keeps, eo1, rm_cl ho1, isNd_nI ho1, c_20, if_pos c_46, ↓reduceIte, Bool.false_eq_true]; done) | (simp only [rm_keeps, eo1, rm_cl ho1, isNd_nI ho1, c_20, if_pos c_46, ↓reduceIte, Bool.false_eq_true]; rfl) | rfl, by first | with_reducible rfl | (simp only [rm_keeps, eo1, rm_cl ho1, isNd_nI ho1, c_20, if_pos c_46, ↓reduceIte, Bool.false_eq_true]; done) | (simp only [rm_keeps, eo1, rm_cl ho1, isNd_nI ho1, c_20, if_pos c_46, ↓reduceIte, Bool.false_eq_true]; rfl) | rfl⟩
      · skip
        refine lv_iload hx hb dX0_keepsParent_49 (lv_at hl 0 rfl) ?_
        refine lv_iconst (v := 1) hx hb dX0_keepsParent_51 (by decide) ?_
        refine lv_icmp_ge (tgt := 59) hx hb dX0_keepsParent_52 (by decide) (fun c_52 => ?_) (fun c_52 => ?_)
        · skip
          refine lv_iconst (v := 0) hx hb dX0_keepsParent_59 (by decide) ?_
          exact rm_zret C hr hlocks hw (by decide) dX0_keepsParent_60 ⟨by first | with_reducible rfl | (simp only [rm_keeps, eo1, rm_cl ho1, isNd_nI ho1, c_20, if_neg c_46, if_pos c_52, ↓reduceIte, Bool.false_eq_true]; done) | (simp only [rm_keeps, eo1, rm_cl ho1, isNd_nI ho1, c_20, if_neg c_46, if_pos c_52, ↓reduceIte, Bool.false_eq_true]; rfl) | rfl, by first | with_reducible rfl | (simp only [rm_keeps, eo1, rm_cl ho1, isNd_nI ho1, c_20, if_neg c_46, if_pos c_52, ↓reduceIte, Bool.false_eq_true]; done) | (simp only [rm_keeps, eo1, rm_cl ho1, isNd_nI ho1, c_20, if_neg c_46, if_pos c_52, ↓reduceIte, Bool.false_eq_true]; rfl) | rfl⟩
        · skip
          refine lv_iconst (v := 1) hx hb dX0_keepsParent_55 (by decide) ?_
          refine lv_goto (tgt := 60) hx hb dX0_keepsParent_56 (by decide) ?_
          exact rm_zret C hr hlocks hw (by decide) dX0_keepsParent_60 ⟨by first | with_reducible rfl | (simp only [rm_keeps, eo1, rm_cl ho1, isNd_nI ho1, c_20, if_neg c_46, if_neg c_52, ↓reduceIte, Bool.false_eq_true]; done) | (simp only [rm_keeps, eo1, rm_cl ho1, isNd_nI ho1, c_20, if_neg c_46, if_neg c_52, ↓reduceIte, Bool.false_eq_true]; rfl) | rfl, by first | with_reducible rfl | (simp only [rm_keeps, eo1, rm_cl ho1, isNd_nI ho1, c_20, if_neg c_46, if_neg c_52, ↓reduceIte, Bool.false_eq_true]; done) | (simp only [rm_keeps, eo1, rm_cl ho1, isNd_nI ho1, c_20, if_neg c_46, if_neg c_52, ↓reduceIte, Bool.false_eq_true]; rfl) | rfl⟩
    · skip
      refine lv_iconst (v := 0) hx hb dX0_keepsParent_23 (by decide) ?_
      exact rm_zret C hr hlocks hw (by decide) dX0_keepsParent_24 ⟨by first | with_reducible rfl | (simp only [rm_keeps, eo1, rm_cl ho1, isNd_nI ho1, c_20, ↓reduceIte, Bool.false_eq_true]; done) | (simp only [rm_keeps, eo1, rm_cl ho1, isNd_nI ho1, c_20, ↓reduceIte, Bool.false_eq_true]; rfl) | rfl, by first | with_reducible rfl | (simp only [rm_keeps, eo1, rm_cl ho1, isNd_nI ho1, c_20, ↓reduceIte, Bool.false_eq_true]; done) | (simp only [rm_keeps, eo1, rm_cl ho1, isNd_nI ho1, c_20, ↓reduceIte, Bool.false_eq_true]; rfl) | rfl⟩
set_option maxHeartbeats 4000000 in
set_option maxRecDepth 100000 in
theorem kX0_follow (l : Launch) (k : rm_K) (a : Nat → Nat) (ha : rm_inj a) (σ : rm_St) (n : Nat) (o : Nat) (hn : n < 10) (ho : o < 10) : rm_MV l k a yX0_follow wsX0_follow ({ frames := 1, cells := 0, slots := 0, locals := 30 }) [.int (nI n), .int (nI o)] σ  (rm_follow σ n o) := by
  refine rm_enterV (cc := cX0_follow) (nL := 6) (ret := none) ha (by decide) rfl rfl (by decide +kernel) (Nat.le_of_ble_eq_true rfl) ?_
  intro p e s m args below meth c ls C hr hlocks hw hl
  have hx := C.1.1
  have hb := C.1.2.1
  have hts := C.1.2.2.2.2
  have hA : ∀ q, s.heap.size ≤ q → rm_A a s.heap.size q := fun q h => Or.inr h
  replace hl : lv_has ls 6 [(0, .ref (a 0)), (1, .int (nI n)), (2, .int (nI o))] := hl
  refine lv_aload_n hx hb dX0_follow_0 rfl (lv_at hl 0 rfl) ?_
  refine lv_iload_n hx hb dX0_follow_1 rfl (lv_at hl 1 rfl) ?_
  refine lv_iload_n hx hb dX0_follow_2 rfl (lv_at hl 2 rfl) ?_
  refine rm_callI C hw hA (As := [.int (nI n), .int (nI o)]) (rest := []) (kX0_rankBy l k a ha σ n o hn ho) (cwV 2 hts gX0_follow_X0_rankBy rfl rfl rfl (by decide +kernel) ⟨Nat.le_of_ble_eq_true rfl, Nat.le_of_ble_eq_true rfl⟩) rfl hl.1 rfl (lv_room (Nat.le_of_ble_eq_true rfl)) dX0_follow_3 ⟨Nat.zero_le _, Nat.zero_le _⟩ (fun H locs hw => ?_)
  refine lv_istore_n (lv' := [(3, .int (rm_rankBy σ n o)), (0, .ref (a 0)), (1, .int (nI n)), (2, .int (nI o))]) hx hb dX0_follow_6 rfl hl (by decide) rfl (fun ls hl => ?_)
  refine lv_aload_n hx hb dX0_follow_7 rfl (lv_at hl 1 rfl) ?_
  refine lv_iload_n hx hb dX0_follow_8 rfl (lv_at hl 2 rfl) ?_
  refine lv_iload_n hx hb dX0_follow_9 rfl (lv_at hl 3 rfl) ?_
  refine rm_callI C hw hA (As := [.int (nI n), .int (nI o)]) (rest := []) (kX0_heardOwnVersion l k a ha σ n o hn ho) (cwV 2 hts gX0_follow_X0_heardOwnVersion rfl rfl rfl (by decide +kernel) ⟨Nat.le_of_ble_eq_true rfl, Nat.le_of_ble_eq_true rfl⟩) rfl hl.1 rfl (lv_room (Nat.le_of_ble_eq_true rfl)) dX0_follow_10 ⟨Nat.zero_le _, Nat.zero_le _⟩ (fun H locs hw => ?_)
  refine lv_istore (lv' := [(4, .int (bI (rm_own σ n o))), (3, .int (rm_rankBy σ n o)), (0, .ref (a 0)), (1, .int (nI n)), (2, .int (nI o))]) hx hb dX0_follow_13 hl (by decide) rfl (fun ls hl => ?_)
  refine lv_iload hx hb dX0_follow_15 (lv_at hl 0 rfl) ?_
  refine rm_ifeq (tgt := 44) hx hb dX0_follow_17 (by decide) (fun c_17 => ?_) (fun c_17 => ?_)
  · skip
    refine lv_iconst (v := 0) hx hb dX0_follow_44 (by decide) ?_
    refine lv_istore (lv' := [(5, .int 0), (4, .int (bI (rm_own σ n o))), (3, .int (rm_rankBy σ n o)), (0, .ref (a 0)), (1, .int (nI n)), (2, .int (nI o))]) hx hb dX0_follow_45 hl (by decide) rfl (fun ls hl => ?_)
    refine lv_aload_n hx hb dX0_follow_47 rfl (lv_at hl 3 rfl) ?_
    refine rm_geta C hw 15 10 (by decide) rfl (hts _ (by decide +kernel)) rfl dX0_follow_48 ?_
    refine lv_iload_n hx hb dX0_follow_51 rfl (lv_at hl 4 rfl) ?_
    refine lv_iload hx hb dX0_follow_52 (lv_at hl 1 rfl) ?_
    refine rm_ifeq (tgt := 70) hx hb dX0_follow_54 (by decide) (fun c_54x => ?_) (fun c_54x => ?_)
    · skip
      refine lv_iload_n hx hb dX0_follow_70 rfl (lv_at hl 2 rfl) ?_
      refine rm_iast C hw (by decide) hn dX0_follow_71 (fun H locs hw => ?_)
      refine lv_aload_n hx hb dX0_follow_72 rfl (lv_at hl 3 rfl) ?_
      refine rm_geta C hw 12 7 (by decide) rfl (hts _ (by decide +kernel)) rfl dX0_follow_73 ?_
      refine lv_iload_n hx hb dX0_follow_76 rfl (lv_at hl 4 rfl) ?_
      refine lv_aload_n hx hb dX0_follow_77 rfl (lv_at hl 3 rfl) ?_
      refine rm_geta C hw 7 2 (by decide) rfl (hts _ (by decide +kernel)) rfl dX0_follow_78 ?_
      refine lv_iload_n hx hb dX0_follow_81 rfl (lv_at hl 4 rfl) ?_
      refine rm_aald C hw 25 (by decide) hn dX0_follow_82 ?_
      refine lv_iload_n hx hb dX0_follow_83 rfl (lv_at hl 5 rfl) ?_
      refine rm_iald C hw ⟨by omega, by omega⟩ ho dX0_follow_84 ?_
      refine rm_iast C hw (by decide) hn dX0_follow_85 (fun H locs hw => ?_)
      refine lv_aload_n hx hb dX0_follow_86 rfl (lv_at hl 3 rfl) ?_
      refine rm_geta C hw 13 8 (by decide) rfl (hts _ (by decide +kernel)) rfl dX0_follow_87 ?_
      refine lv_iload_n hx hb dX0_follow_90 rfl (lv_at hl 4 rfl) ?_
      refine lv_aload_n hx hb dX0_follow_91 rfl (lv_at hl 3 rfl) ?_
      refine rm_geta C hw 8 3 (by decide) rfl (hts _ (by decide +kernel)) rfl dX0_follow_92 ?_
      refine lv_iload_n hx hb dX0_follow_95 rfl (lv_at hl 4 rfl) ?_
      refine rm_aald C hw 35 (by decide) hn dX0_follow_96 ?_
      refine lv_iload_n hx hb dX0_follow_97 rfl (lv_at hl 5 rfl) ?_
      refine rm_iald C hw ⟨by omega, by omega⟩ ho dX0_follow_98 ?_
      refine rm_iast C hw (by decide) hn dX0_follow_99 (fun H locs hw => ?_)
      refine lv_aload_n hx hb dX0_follow_100 rfl (lv_at hl 3 rfl) ?_
      refine rm_geta C hw 14 9 (by decide) rfl (hts _ (by decide +kernel)) rfl dX0_follow_101 ?_
      refine lv_iload_n hx hb dX0_follow_104 rfl (lv_at hl 4 rfl) ?_
      refine lv_iload_n hx hb dX0_follow_105 rfl (lv_at hl 2 rfl) ?_
      refine rm_iast C hw (by decide) hn dX0_follow_106 (fun H locs hw => ?_)
      refine lv_aload_n hx hb dX0_follow_107 rfl (lv_at hl 3 rfl) ?_
      refine rm_geta C hw 16 11 (by decide) rfl (hts _ (by decide +kernel)) rfl dX0_follow_108 ?_
      refine lv_iload_n hx hb dX0_follow_111 rfl (lv_at hl 4 rfl) ?_
      refine lv_iload_n hx hb dX0_follow_112 rfl (lv_at hl 5 rfl) ?_
      refine rm_iast C hw (by decide) hn dX0_follow_113 (fun H locs hw => ?_)
      refine lv_iload hx hb dX0_follow_114 (lv_at hl 0 rfl) ?_
      refine lv_if_ne (tgt := 124) hx hb dX0_follow_116 (by decide) (fun c_116 => ?_) (fun c_116 => ?_)
      · exact absurd rfl c_116
      · skip
        refine lv_aload_n hx hb dX0_follow_119 rfl (lv_at hl 3 rfl) ?_
        refine lv_iload_n hx hb dX0_follow_120 rfl (lv_at hl 4 rfl) ?_
        refine rm_callV C hw hA (As := [.int (nI n)]) (rest := []) (kX0_resetTimer l k a ha (rm_up (rm_up (rm_up (rm_up (rm_up σ 10 n (rm_rankBy σ n o)) 7 n ((rm_up σ 10 n (rm_rankBy σ n o)) (25 + n) o)) 8 n ((rm_up (rm_up σ 10 n (rm_rankBy σ n o)) 7 n ((rm_up σ 10 n (rm_rankBy σ n o)) (25 + n) o)) (35 + n) o)) 9 n (rm_rankBy σ n o)) 11 n (nI o)) n hn) (cwV 1 hts gX0_follow_X0_resetTimer rfl rfl rfl (by decide +kernel) ⟨Nat.le_of_ble_eq_true rfl, Nat.le_of_ble_eq_true rfl⟩) rfl hl.1 rfl (lv_room (Nat.le_of_ble_eq_true rfl)) dX0_follow_121 ⟨Nat.zero_le _, Nat.zero_le _⟩ (fun H locs hw => ?_)
        exact rm_vret C hr hlocks hw dX0_follow_124 (by first | with_reducible rfl | (simp only [rm_follow, rm_fol, c_17, ↓reduceIte, Bool.false_eq_true]; done) | (simp only [rm_follow, rm_fol, c_17, ↓reduceIte, Bool.false_eq_true]; rfl) | rfl)
    · exact Bool.noConfusion (c_17.symm.trans c_54x)
  · skip
    refine lv_iload_n hx hb dX0_follow_20 rfl (lv_at hl 1 rfl) ?_
    refine lv_aload_n hx hb dX0_follow_21 rfl (lv_at hl 2 rfl) ?_
    refine rm_geta C hw 14 9 (by decide) rfl (hts _ (by decide +kernel)) rfl dX0_follow_22 ?_
    refine lv_iload_n hx hb dX0_follow_25 rfl (lv_at hl 3 rfl) ?_
    refine rm_iald C hw (by decide) hn dX0_follow_26 ?_
    refine lv_icmp_ne (tgt := 44) hx hb dX0_follow_27 (by decide) (fun c_27 => ?_) (fun c_27 => ?_)
    · skip
      refine lv_iconst (v := 0) hx hb dX0_follow_44 (by decide) ?_
      refine lv_istore (lv' := [(5, .int 0), (4, .int (bI (rm_own σ n o))), (3, .int (rm_rankBy σ n o)), (0, .ref (a 0)), (1, .int (nI n)), (2, .int (nI o))]) hx hb dX0_follow_45 hl (by decide) rfl (fun ls hl => ?_)
      refine lv_aload_n hx hb dX0_follow_47 rfl (lv_at hl 3 rfl) ?_
      refine rm_geta C hw 15 10 (by decide) rfl (hts _ (by decide +kernel)) rfl dX0_follow_48 ?_
      refine lv_iload_n hx hb dX0_follow_51 rfl (lv_at hl 4 rfl) ?_
      refine lv_iload hx hb dX0_follow_52 (lv_at hl 1 rfl) ?_
      refine rm_ifeq (tgt := 70) hx hb dX0_follow_54 (by decide) (fun c_54x => ?_) (fun c_54x => ?_)
      · exact Bool.noConfusion (c_17.symm.trans c_54x)
      · skip
        refine lv_iload_n hx hb dX0_follow_57 rfl (lv_at hl 2 rfl) ?_
        refine lv_aload_n hx hb dX0_follow_58 rfl (lv_at hl 3 rfl) ?_
        refine rm_geta C hw 15 10 (by decide) rfl (hts _ (by decide +kernel)) rfl dX0_follow_59 ?_
        refine lv_iload_n hx hb dX0_follow_62 rfl (lv_at hl 4 rfl) ?_
        refine rm_iald C hw (by decide) hn dX0_follow_63 ?_
        refine va_mmin hx hb (C.1.2.2.1.trans hl.1.symm) C.1.2.2.2.1 (hts (.methodLink RX0 141 Lib.Math.min.name) (by decide +kernel)) (hts (.static Lib.Math.min.name) (by decide +kernel)) (hts (.initialized "java/lang/Math") (by decide +kernel)) (hts (.code Lib.Math.min.name Lib.Math.min.code 2 (some .int)) (by decide +kernel)) (Nat.le_of_ble_eq_true rfl) (Nat.le_of_ble_eq_true rfl) (Nat.le_of_ble_eq_true rfl) (Nat.le_of_ble_eq_true rfl) dX0_follow_64 ?_
        refine lv_goto (tgt := 71) hx hb dX0_follow_67 (by decide) ?_
        refine rm_iast C hw (by decide) hn dX0_follow_71 (fun H locs hw => ?_)
        refine lv_aload_n hx hb dX0_follow_72 rfl (lv_at hl 3 rfl) ?_
        refine rm_geta C hw 12 7 (by decide) rfl (hts _ (by decide +kernel)) rfl dX0_follow_73 ?_
        refine lv_iload_n hx hb dX0_follow_76 rfl (lv_at hl 4 rfl) ?_
        refine lv_aload_n hx hb dX0_follow_77 rfl (lv_at hl 3 rfl) ?_
        refine rm_geta C hw 7 2 (by decide) rfl (hts _ (by decide +kernel)) rfl dX0_follow_78 ?_
        refine lv_iload_n hx hb dX0_follow_81 rfl (lv_at hl 4 rfl) ?_
        refine rm_aald C hw 25 (by decide) hn dX0_follow_82 ?_
        refine lv_iload_n hx hb dX0_follow_83 rfl (lv_at hl 5 rfl) ?_
        refine rm_iald C hw ⟨by omega, by omega⟩ ho dX0_follow_84 ?_
        refine rm_iast C hw (by decide) hn dX0_follow_85 (fun H locs hw => ?_)
        refine lv_aload_n hx hb dX0_follow_86 rfl (lv_at hl 3 rfl) ?_
        refine rm_geta C hw 13 8 (by decide) rfl (hts _ (by decide +kernel)) rfl dX0_follow_87 ?_
        refine lv_iload_n hx hb dX0_follow_90 rfl (lv_at hl 4 rfl) ?_
        refine lv_aload_n hx hb dX0_follow_91 rfl (lv_at hl 3 rfl) ?_
        refine rm_geta C hw 8 3 (by decide) rfl (hts _ (by decide +kernel)) rfl dX0_follow_92 ?_
        refine lv_iload_n hx hb dX0_follow_95 rfl (lv_at hl 4 rfl) ?_
        refine rm_aald C hw 35 (by decide) hn dX0_follow_96 ?_
        refine lv_iload_n hx hb dX0_follow_97 rfl (lv_at hl 5 rfl) ?_
        refine rm_iald C hw ⟨by omega, by omega⟩ ho dX0_follow_98 ?_
        refine rm_iast C hw (by decide) hn dX0_follow_99 (fun H locs hw => ?_)
        refine lv_aload_n hx hb dX0_follow_100 rfl (lv_at hl 3 rfl) ?_
        refine rm_geta C hw 14 9 (by decide) rfl (hts _ (by decide +kernel)) rfl dX0_follow_101 ?_
        refine lv_iload_n hx hb dX0_follow_104 rfl (lv_at hl 4 rfl) ?_
        refine lv_iload_n hx hb dX0_follow_105 rfl (lv_at hl 2 rfl) ?_
        refine rm_iast C hw (by decide) hn dX0_follow_106 (fun H locs hw => ?_)
        refine lv_aload_n hx hb dX0_follow_107 rfl (lv_at hl 3 rfl) ?_
        refine rm_geta C hw 16 11 (by decide) rfl (hts _ (by decide +kernel)) rfl dX0_follow_108 ?_
        refine lv_iload_n hx hb dX0_follow_111 rfl (lv_at hl 4 rfl) ?_
        refine lv_iload_n hx hb dX0_follow_112 rfl (lv_at hl 5 rfl) ?_
        refine rm_iast C hw (by decide) hn dX0_follow_113 (fun H locs hw => ?_)
        refine lv_iload hx hb dX0_follow_114 (lv_at hl 0 rfl) ?_
        refine lv_if_ne (tgt := 124) hx hb dX0_follow_116 (by decide) (fun c_116 => ?_) (fun c_116 => ?_)
        · exact absurd rfl c_116
        · skip
          refine lv_aload_n hx hb dX0_follow_119 rfl (lv_at hl 3 rfl) ?_
          refine lv_iload_n hx hb dX0_follow_120 rfl (lv_at hl 4 rfl) ?_
          refine rm_callV C hw hA (As := [.int (nI n)]) (rest := []) (kX0_resetTimer l k a ha (rm_up (rm_up (rm_up (rm_up (rm_up σ 10 n (rm_mn (rm_rankBy σ n o) (σ 10 n))) 7 n ((rm_up σ 10 n (rm_mn (rm_rankBy σ n o) (σ 10 n))) (25 + n) o)) 8 n ((rm_up (rm_up σ 10 n (rm_mn (rm_rankBy σ n o) (σ 10 n))) 7 n ((rm_up σ 10 n (rm_mn (rm_rankBy σ n o) (σ 10 n))) (25 + n) o)) (35 + n) o)) 9 n (rm_rankBy σ n o)) 11 n (nI o)) n hn) (cwV 1 hts gX0_follow_X0_resetTimer rfl rfl rfl (by decide +kernel) ⟨Nat.le_of_ble_eq_true rfl, Nat.le_of_ble_eq_true rfl⟩) rfl hl.1 rfl (lv_room (Nat.le_of_ble_eq_true rfl)) dX0_follow_121 ⟨Nat.zero_le _, Nat.zero_le _⟩ (fun H locs hw => ?_)
          exact rm_vret C hr hlocks hw dX0_follow_124 (by first | with_reducible rfl | (simp only [rm_follow, rm_fol, c_17, if_neg c_27, ↓reduceIte, Bool.false_eq_true]; done) | (simp only [rm_follow, rm_fol, c_17, if_neg c_27, ↓reduceIte, Bool.false_eq_true]; rfl) | rfl)
    · skip
      refine lv_iload_n hx hb dX0_follow_30 rfl (lv_at hl 4 rfl) ?_
      refine lv_aload_n hx hb dX0_follow_31 rfl (lv_at hl 2 rfl) ?_
      refine rm_geta C hw 16 11 (by decide) rfl (hts _ (by decide +kernel)) rfl dX0_follow_32 ?_
      refine lv_iload_n hx hb dX0_follow_35 rfl (lv_at hl 3 rfl) ?_
      refine rm_iald C hw (by decide) hn dX0_follow_36 ?_
      refine lv_icmp_ne (tgt := 44) hx hb dX0_follow_37 (by decide) (fun c_37 => ?_) (fun c_37 => ?_)
      · skip
        refine lv_iconst (v := 0) hx hb dX0_follow_44 (by decide) ?_
        refine lv_istore (lv' := [(5, .int 0), (4, .int (bI (rm_own σ n o))), (3, .int (rm_rankBy σ n o)), (0, .ref (a 0)), (1, .int (nI n)), (2, .int (nI o))]) hx hb dX0_follow_45 hl (by decide) rfl (fun ls hl => ?_)
        refine lv_aload_n hx hb dX0_follow_47 rfl (lv_at hl 3 rfl) ?_
        refine rm_geta C hw 15 10 (by decide) rfl (hts _ (by decide +kernel)) rfl dX0_follow_48 ?_
        refine lv_iload_n hx hb dX0_follow_51 rfl (lv_at hl 4 rfl) ?_
        refine lv_iload hx hb dX0_follow_52 (lv_at hl 1 rfl) ?_
        refine rm_ifeq (tgt := 70) hx hb dX0_follow_54 (by decide) (fun c_54x => ?_) (fun c_54x => ?_)
        · exact Bool.noConfusion (c_17.symm.trans c_54x)
        · skip
          refine lv_iload_n hx hb dX0_follow_57 rfl (lv_at hl 2 rfl) ?_
          refine lv_aload_n hx hb dX0_follow_58 rfl (lv_at hl 3 rfl) ?_
          refine rm_geta C hw 15 10 (by decide) rfl (hts _ (by decide +kernel)) rfl dX0_follow_59 ?_
          refine lv_iload_n hx hb dX0_follow_62 rfl (lv_at hl 4 rfl) ?_
          refine rm_iald C hw (by decide) hn dX0_follow_63 ?_
          refine va_mmin hx hb (C.1.2.2.1.trans hl.1.symm) C.1.2.2.2.1 (hts (.methodLink RX0 141 Lib.Math.min.name) (by decide +kernel)) (hts (.static Lib.Math.min.name) (by decide +kernel)) (hts (.initialized "java/lang/Math") (by decide +kernel)) (hts (.code Lib.Math.min.name Lib.Math.min.code 2 (some .int)) (by decide +kernel)) (Nat.le_of_ble_eq_true rfl) (Nat.le_of_ble_eq_true rfl) (Nat.le_of_ble_eq_true rfl) (Nat.le_of_ble_eq_true rfl) dX0_follow_64 ?_
          refine lv_goto (tgt := 71) hx hb dX0_follow_67 (by decide) ?_
          refine rm_iast C hw (by decide) hn dX0_follow_71 (fun H locs hw => ?_)
          refine lv_aload_n hx hb dX0_follow_72 rfl (lv_at hl 3 rfl) ?_
          refine rm_geta C hw 12 7 (by decide) rfl (hts _ (by decide +kernel)) rfl dX0_follow_73 ?_
          refine lv_iload_n hx hb dX0_follow_76 rfl (lv_at hl 4 rfl) ?_
          refine lv_aload_n hx hb dX0_follow_77 rfl (lv_at hl 3 rfl) ?_
          refine rm_geta C hw 7 2 (by decide) rfl (hts _ (by decide +kernel)) rfl dX0_follow_78 ?_
          refine lv_iload_n hx hb dX0_follow_81 rfl (lv_at hl 4 rfl) ?_
          refine rm_aald C hw 25 (by decide) hn dX0_follow_82 ?_
          refine lv_iload_n hx hb dX0_follow_83 rfl (lv_at hl 5 rfl) ?_
          refine rm_iald C hw ⟨by omega, by omega⟩ ho dX0_follow_84 ?_
          refine rm_iast C hw (by decide) hn dX0_follow_85 (fun H locs hw => ?_)
          refine lv_aload_n hx hb dX0_follow_86 rfl (lv_at hl 3 rfl) ?_
          refine rm_geta C hw 13 8 (by decide) rfl (hts _ (by decide +kernel)) rfl dX0_follow_87 ?_
          refine lv_iload_n hx hb dX0_follow_90 rfl (lv_at hl 4 rfl) ?_
          refine lv_aload_n hx hb dX0_follow_91 rfl (lv_at hl 3 rfl) ?_
          refine rm_geta C hw 8 3 (by decide) rfl (hts _ (by decide +kernel)) rfl dX0_follow_92 ?_
          refine lv_iload_n hx hb dX0_follow_95 rfl (lv_at hl 4 rfl) ?_
          refine rm_aald C hw 35 (by decide) hn dX0_follow_96 ?_
          refine lv_iload_n hx hb dX0_follow_97 rfl (lv_at hl 5 rfl) ?_
          refine rm_iald C hw ⟨by omega, by omega⟩ ho dX0_follow_98 ?_
          refine rm_iast C hw (by decide) hn dX0_follow_99 (fun H locs hw => ?_)
          refine lv_aload_n hx hb dX0_follow_100 rfl (lv_at hl 3 rfl) ?_
          refine rm_geta C hw 14 9 (by decide) rfl (hts _ (by decide +kernel)) rfl dX0_follow_101 ?_
          refine lv_iload_n hx hb dX0_follow_104 rfl (lv_at hl 4 rfl) ?_
          refine lv_iload_n hx hb dX0_follow_105 rfl (lv_at hl 2 rfl) ?_
          refine rm_iast C hw (by decide) hn dX0_follow_106 (fun H locs hw => ?_)
          refine lv_aload_n hx hb dX0_follow_107 rfl (lv_at hl 3 rfl) ?_
          refine rm_geta C hw 16 11 (by decide) rfl (hts _ (by decide +kernel)) rfl dX0_follow_108 ?_
          refine lv_iload_n hx hb dX0_follow_111 rfl (lv_at hl 4 rfl) ?_
          refine lv_iload_n hx hb dX0_follow_112 rfl (lv_at hl 5 rfl) ?_
          refine rm_iast C hw (by decide) hn dX0_follow_113 (fun H locs hw => ?_)
          refine lv_iload hx hb dX0_follow_114 (lv_at hl 0 rfl) ?_
          refine lv_if_ne (tgt := 124) hx hb dX0_follow_116 (by decide) (fun c_116 => ?_) (fun c_116 => ?_)
          · exact absurd rfl c_116
          · skip
            refine lv_aload_n hx hb dX0_follow_119 rfl (lv_at hl 3 rfl) ?_
            refine lv_iload_n hx hb dX0_follow_120 rfl (lv_at hl 4 rfl) ?_
            refine rm_callV C hw hA (As := [.int (nI n)]) (rest := []) (kX0_resetTimer l k a ha (rm_up (rm_up (rm_up (rm_up (rm_up σ 10 n (rm_mn (rm_rankBy σ n o) (σ 10 n))) 7 n ((rm_up σ 10 n (rm_mn (rm_rankBy σ n o) (σ 10 n))) (25 + n) o)) 8 n ((rm_up (rm_up σ 10 n (rm_mn (rm_rankBy σ n o) (σ 10 n))) 7 n ((rm_up σ 10 n (rm_mn (rm_rankBy σ n o) (σ 10 n))) (25 + n) o)) (35 + n) o)) 9 n (rm_rankBy σ n o)) 11 n (nI o)) n hn) (cwV 1 hts gX0_follow_X0_resetTimer rfl rfl rfl (by decide +kernel) ⟨Nat.le_of_ble_eq_true rfl, Nat.le_of_ble_eq_true rfl⟩) rfl hl.1 rfl (lv_room (Nat.le_of_ble_eq_true rfl)) dX0_follow_121 ⟨Nat.zero_le _, Nat.zero_le _⟩ (fun H locs hw => ?_)
            exact rm_vret C hr hlocks hw dX0_follow_124 (by first | with_reducible rfl | (simp only [rm_follow, rm_fol, c_17, if_pos c_27, if_neg c_37, ↓reduceIte, Bool.false_eq_true]; done) | (simp only [rm_follow, rm_fol, c_17, if_pos c_27, if_neg c_37, ↓reduceIte, Bool.false_eq_true]; rfl) | rfl)
      · skip
        refine lv_iconst (v := 1) hx hb dX0_follow_40 (by decide) ?_
        refine lv_goto (tgt := 45) hx hb dX0_follow_41 (by decide) ?_
        refine lv_istore (lv' := [(5, .int 1), (4, .int (bI (rm_own σ n o))), (3, .int (rm_rankBy σ n o)), (0, .ref (a 0)), (1, .int (nI n)), (2, .int (nI o))]) hx hb dX0_follow_45 hl (by decide) rfl (fun ls hl => ?_)
        refine lv_aload_n hx hb dX0_follow_47 rfl (lv_at hl 3 rfl) ?_
        refine rm_geta C hw 15 10 (by decide) rfl (hts _ (by decide +kernel)) rfl dX0_follow_48 ?_
        refine lv_iload_n hx hb dX0_follow_51 rfl (lv_at hl 4 rfl) ?_
        refine lv_iload hx hb dX0_follow_52 (lv_at hl 1 rfl) ?_
        refine rm_ifeq (tgt := 70) hx hb dX0_follow_54 (by decide) (fun c_54x => ?_) (fun c_54x => ?_)
        · exact Bool.noConfusion (c_17.symm.trans c_54x)
        · skip
          refine lv_iload_n hx hb dX0_follow_57 rfl (lv_at hl 2 rfl) ?_
          refine lv_aload_n hx hb dX0_follow_58 rfl (lv_at hl 3 rfl) ?_
          refine rm_geta C hw 15 10 (by decide) rfl (hts _ (by decide +kernel)) rfl dX0_follow_59 ?_
          refine lv_iload_n hx hb dX0_follow_62 rfl (lv_at hl 4 rfl) ?_
          refine rm_iald C hw (by decide) hn dX0_follow_63 ?_
          refine va_mmin hx hb (C.1.2.2.1.trans hl.1.symm) C.1.2.2.2.1 (hts (.methodLink RX0 141 Lib.Math.min.name) (by decide +kernel)) (hts (.static Lib.Math.min.name) (by decide +kernel)) (hts (.initialized "java/lang/Math") (by decide +kernel)) (hts (.code Lib.Math.min.name Lib.Math.min.code 2 (some .int)) (by decide +kernel)) (Nat.le_of_ble_eq_true rfl) (Nat.le_of_ble_eq_true rfl) (Nat.le_of_ble_eq_true rfl) (Nat.le_of_ble_eq_true rfl) dX0_follow_64 ?_
          refine lv_goto (tgt := 71) hx hb dX0_follow_67 (by decide) ?_
          refine rm_iast C hw (by decide) hn dX0_follow_71 (fun H locs hw => ?_)
          refine lv_aload_n hx hb dX0_follow_72 rfl (lv_at hl 3 rfl) ?_
          refine rm_geta C hw 12 7 (by decide) rfl (hts _ (by decide +kernel)) rfl dX0_follow_73 ?_
          refine lv_iload_n hx hb dX0_follow_76 rfl (lv_at hl 4 rfl) ?_
          refine lv_aload_n hx hb dX0_follow_77 rfl (lv_at hl 3 rfl) ?_
          refine rm_geta C hw 7 2 (by decide) rfl (hts _ (by decide +kernel)) rfl dX0_follow_78 ?_
          refine lv_iload_n hx hb dX0_follow_81 rfl (lv_at hl 4 rfl) ?_
          refine rm_aald C hw 25 (by decide) hn dX0_follow_82 ?_
          refine lv_iload_n hx hb dX0_follow_83 rfl (lv_at hl 5 rfl) ?_
          refine rm_iald C hw ⟨by omega, by omega⟩ ho dX0_follow_84 ?_
          refine rm_iast C hw (by decide) hn dX0_follow_85 (fun H locs hw => ?_)
          refine lv_aload_n hx hb dX0_follow_86 rfl (lv_at hl 3 rfl) ?_
          refine rm_geta C hw 13 8 (by decide) rfl (hts _ (by decide +kernel)) rfl dX0_follow_87 ?_
          refine lv_iload_n hx hb dX0_follow_90 rfl (lv_at hl 4 rfl) ?_
          refine lv_aload_n hx hb dX0_follow_91 rfl (lv_at hl 3 rfl) ?_
          refine rm_geta C hw 8 3 (by decide) rfl (hts _ (by decide +kernel)) rfl dX0_follow_92 ?_
          refine lv_iload_n hx hb dX0_follow_95 rfl (lv_at hl 4 rfl) ?_
          refine rm_aald C hw 35 (by decide) hn dX0_follow_96 ?_
          refine lv_iload_n hx hb dX0_follow_97 rfl (lv_at hl 5 rfl) ?_
          refine rm_iald C hw ⟨by omega, by omega⟩ ho dX0_follow_98 ?_
          refine rm_iast C hw (by decide) hn dX0_follow_99 (fun H locs hw => ?_)
          refine lv_aload_n hx hb dX0_follow_100 rfl (lv_at hl 3 rfl) ?_
          refine rm_geta C hw 14 9 (by decide) rfl (hts _ (by decide +kernel)) rfl dX0_follow_101 ?_
          refine lv_iload_n hx hb dX0_follow_104 rfl (lv_at hl 4 rfl) ?_
          refine lv_iload_n hx hb dX0_follow_105 rfl (lv_at hl 2 rfl) ?_
          refine rm_iast C hw (by decide) hn dX0_follow_106 (fun H locs hw => ?_)
          refine lv_aload_n hx hb dX0_follow_107 rfl (lv_at hl 3 rfl) ?_
          refine rm_geta C hw 16 11 (by decide) rfl (hts _ (by decide +kernel)) rfl dX0_follow_108 ?_
          refine lv_iload_n hx hb dX0_follow_111 rfl (lv_at hl 4 rfl) ?_
          refine lv_iload_n hx hb dX0_follow_112 rfl (lv_at hl 5 rfl) ?_
          refine rm_iast C hw (by decide) hn dX0_follow_113 (fun H locs hw => ?_)
          refine lv_iload hx hb dX0_follow_114 (lv_at hl 0 rfl) ?_
          refine lv_if_ne (tgt := 124) hx hb dX0_follow_116 (by decide) (fun c_116 => ?_) (fun c_116 => ?_)
          · skip
            exact rm_vret C hr hlocks hw dX0_follow_124 (by first | with_reducible rfl | (simp only [rm_follow, rm_fol, c_17, if_pos c_27, if_pos c_37, ↓reduceIte, Bool.false_eq_true]; done) | (simp only [rm_follow, rm_fol, c_17, if_pos c_27, if_pos c_37, ↓reduceIte, Bool.false_eq_true]; rfl) | rfl)
          · exact absurd c_116 (by decide)
set_option maxHeartbeats 4000000 in
set_option maxRecDepth 100000 in
theorem kX0_loseParent (l : Launch) (k : rm_K) (a : Nat → Nat) (ha : rm_inj a) (σ : rm_St) (n : Nat) (hn : n < 10) : rm_MV l k a yX0_loseParent wsX0_loseParent ({ frames := 1, cells := 0, slots := 0, locals := 21 }) [.int (nI n)] σ  (rm_lose σ n) := by
  refine rm_enterV (cc := cX0_loseParent) (nL := 3) (ret := none) ha (by decide) rfl rfl (by decide +kernel) (Nat.le_of_ble_eq_true rfl) ?_
  intro p e s m args below meth c ls C hr hlocks hw hl
  have hx := C.1.1
  have hb := C.1.2.1
  have hts := C.1.2.2.2.2
  have hA : ∀ q, s.heap.size ≤ q → rm_A a s.heap.size q := fun q h => Or.inr h
  replace hl : lv_has ls 3 [(0, .ref (a 0)), (1, .int (nI n))] := hl
  refine lv_aload_n hx hb dX0_loseParent_0 rfl (lv_at hl 0 rfl) ?_
  refine rm_geta C hw 14 9 (by decide) rfl (hts _ (by decide +kernel)) rfl dX0_loseParent_1 ?_
  refine lv_iload_n hx hb dX0_loseParent_4 rfl (lv_at hl 1 rfl) ?_
  refine rm_iald C hw (by decide) hn dX0_loseParent_5 ?_
  refine lv_sipush (v := 10000) hx hb dX0_loseParent_6 (by decide) ?_
  refine lv_icmp_ne (tgt := 26) hx hb dX0_loseParent_9 (by decide) (fun c_9 => ?_) (fun c_9 => ?_)
  · skip
    refine lv_iconst (v := 0) hx hb dX0_loseParent_26 (by decide) ?_
    refine lv_istore_n (lv' := [(2, .int 0), (0, .ref (a 0)), (1, .int (nI n))]) hx hb dX0_loseParent_27 rfl hl (by decide) rfl (fun ls hl => ?_)
    refine lv_aload_n hx hb dX0_loseParent_28 rfl (lv_at hl 1 rfl) ?_
    refine rm_geta C hw 14 9 (by decide) rfl (hts _ (by decide +kernel)) rfl dX0_loseParent_29 ?_
    refine lv_iload_n hx hb dX0_loseParent_32 rfl (lv_at hl 2 rfl) ?_
    refine lv_sipush (v := 10000) hx hb dX0_loseParent_33 (by decide) ?_
    refine rm_iast C hw (by decide) hn dX0_loseParent_36 (fun H locs hw => ?_)
    refine lv_aload_n hx hb dX0_loseParent_37 rfl (lv_at hl 1 rfl) ?_
    refine rm_geta C hw 16 11 (by decide) rfl (hts _ (by decide +kernel)) rfl dX0_loseParent_38 ?_
    refine lv_iload_n hx hb dX0_loseParent_41 rfl (lv_at hl 2 rfl) ?_
    refine lv_iconst (v := (-1)) hx hb dX0_loseParent_42 (by decide) ?_
    refine rm_iast C hw (by decide) hn dX0_loseParent_43 (fun H locs hw => ?_)
    refine lv_iload_n hx hb dX0_loseParent_44 rfl (lv_at hl 0 rfl) ?_
    refine lv_if_ne (tgt := 53) hx hb dX0_loseParent_45 (by decide) (fun c_45 => ?_) (fun c_45 => ?_)
    · exact absurd rfl c_45
    · skip
      refine lv_aload_n hx hb dX0_loseParent_48 rfl (lv_at hl 1 rfl) ?_
      refine lv_iload_n hx hb dX0_loseParent_49 rfl (lv_at hl 2 rfl) ?_
      refine rm_callV C hw hA (As := [.int (nI n)]) (rest := []) (kX0_resetTimer l k a ha (rm_up (rm_up σ 9 n (10000)) 11 n ((-1))) n hn) (cwV 1 hts gX0_loseParent_X0_resetTimer rfl rfl rfl (by decide +kernel) ⟨Nat.le_of_ble_eq_true rfl, Nat.le_of_ble_eq_true rfl⟩) rfl hl.1 rfl (lv_room (Nat.le_of_ble_eq_true rfl)) dX0_loseParent_50 ⟨Nat.zero_le _, Nat.zero_le _⟩ (fun H locs hw => ?_)
      exact rm_vret C hr hlocks hw dX0_loseParent_53 (by first | with_reducible rfl | (simp only [rm_lose, if_neg c_9, ↓reduceIte, Bool.false_eq_true]; done) | (simp only [rm_lose, if_neg c_9, ↓reduceIte, Bool.false_eq_true]; rfl) | rfl)
  · skip
    refine lv_aload_n hx hb dX0_loseParent_12 rfl (lv_at hl 0 rfl) ?_
    refine rm_geta C hw 16 11 (by decide) rfl (hts _ (by decide +kernel)) rfl dX0_loseParent_13 ?_
    refine lv_iload_n hx hb dX0_loseParent_16 rfl (lv_at hl 1 rfl) ?_
    refine rm_iald C hw (by decide) hn dX0_loseParent_17 ?_
    refine lv_iconst (v := (-1)) hx hb dX0_loseParent_18 (by decide) ?_
    refine lv_icmp_ne (tgt := 26) hx hb dX0_loseParent_19 (by decide) (fun c_19 => ?_) (fun c_19 => ?_)
    · skip
      refine lv_iconst (v := 0) hx hb dX0_loseParent_26 (by decide) ?_
      refine lv_istore_n (lv' := [(2, .int 0), (0, .ref (a 0)), (1, .int (nI n))]) hx hb dX0_loseParent_27 rfl hl (by decide) rfl (fun ls hl => ?_)
      refine lv_aload_n hx hb dX0_loseParent_28 rfl (lv_at hl 1 rfl) ?_
      refine rm_geta C hw 14 9 (by decide) rfl (hts _ (by decide +kernel)) rfl dX0_loseParent_29 ?_
      refine lv_iload_n hx hb dX0_loseParent_32 rfl (lv_at hl 2 rfl) ?_
      refine lv_sipush (v := 10000) hx hb dX0_loseParent_33 (by decide) ?_
      refine rm_iast C hw (by decide) hn dX0_loseParent_36 (fun H locs hw => ?_)
      refine lv_aload_n hx hb dX0_loseParent_37 rfl (lv_at hl 1 rfl) ?_
      refine rm_geta C hw 16 11 (by decide) rfl (hts _ (by decide +kernel)) rfl dX0_loseParent_38 ?_
      refine lv_iload_n hx hb dX0_loseParent_41 rfl (lv_at hl 2 rfl) ?_
      refine lv_iconst (v := (-1)) hx hb dX0_loseParent_42 (by decide) ?_
      refine rm_iast C hw (by decide) hn dX0_loseParent_43 (fun H locs hw => ?_)
      refine lv_iload_n hx hb dX0_loseParent_44 rfl (lv_at hl 0 rfl) ?_
      refine lv_if_ne (tgt := 53) hx hb dX0_loseParent_45 (by decide) (fun c_45 => ?_) (fun c_45 => ?_)
      · exact absurd rfl c_45
      · skip
        refine lv_aload_n hx hb dX0_loseParent_48 rfl (lv_at hl 1 rfl) ?_
        refine lv_iload_n hx hb dX0_loseParent_49 rfl (lv_at hl 2 rfl) ?_
        refine rm_callV C hw hA (As := [.int (nI n)]) (rest := []) (kX0_resetTimer l k a ha (rm_up (rm_up σ 9 n (10000)) 11 n ((-1))) n hn) (cwV 1 hts gX0_loseParent_X0_resetTimer rfl rfl rfl (by decide +kernel) ⟨Nat.le_of_ble_eq_true rfl, Nat.le_of_ble_eq_true rfl⟩) rfl hl.1 rfl (lv_room (Nat.le_of_ble_eq_true rfl)) dX0_loseParent_50 ⟨Nat.zero_le _, Nat.zero_le _⟩ (fun H locs hw => ?_)
        exact rm_vret C hr hlocks hw dX0_loseParent_53 (by first | with_reducible rfl | (simp only [rm_lose, if_pos c_9, if_neg c_19, ↓reduceIte, Bool.false_eq_true]; done) | (simp only [rm_lose, if_pos c_9, if_neg c_19, ↓reduceIte, Bool.false_eq_true]; rfl) | rfl)
    · skip
      refine lv_iconst (v := 1) hx hb dX0_loseParent_22 (by decide) ?_
      refine lv_goto (tgt := 27) hx hb dX0_loseParent_23 (by decide) ?_
      refine lv_istore_n (lv' := [(2, .int 1), (0, .ref (a 0)), (1, .int (nI n))]) hx hb dX0_loseParent_27 rfl hl (by decide) rfl (fun ls hl => ?_)
      refine lv_aload_n hx hb dX0_loseParent_28 rfl (lv_at hl 1 rfl) ?_
      refine rm_geta C hw 14 9 (by decide) rfl (hts _ (by decide +kernel)) rfl dX0_loseParent_29 ?_
      refine lv_iload_n hx hb dX0_loseParent_32 rfl (lv_at hl 2 rfl) ?_
      refine lv_sipush (v := 10000) hx hb dX0_loseParent_33 (by decide) ?_
      refine rm_iast C hw (by decide) hn dX0_loseParent_36 (fun H locs hw => ?_)
      refine lv_aload_n hx hb dX0_loseParent_37 rfl (lv_at hl 1 rfl) ?_
      refine rm_geta C hw 16 11 (by decide) rfl (hts _ (by decide +kernel)) rfl dX0_loseParent_38 ?_
      refine lv_iload_n hx hb dX0_loseParent_41 rfl (lv_at hl 2 rfl) ?_
      refine lv_iconst (v := (-1)) hx hb dX0_loseParent_42 (by decide) ?_
      refine rm_iast C hw (by decide) hn dX0_loseParent_43 (fun H locs hw => ?_)
      refine lv_iload_n hx hb dX0_loseParent_44 rfl (lv_at hl 0 rfl) ?_
      refine lv_if_ne (tgt := 53) hx hb dX0_loseParent_45 (by decide) (fun c_45 => ?_) (fun c_45 => ?_)
      · skip
        exact rm_vret C hr hlocks hw dX0_loseParent_53 (by first | with_reducible rfl | (simp only [rm_lose, if_pos c_9, if_pos c_19, ↓reduceIte, Bool.false_eq_true]; done) | (simp only [rm_lose, if_pos c_9, if_pos c_19, ↓reduceIte, Bool.false_eq_true]; rfl) | rfl)
      · exact absurd c_45 (by decide)
set_option maxHeartbeats 4000000 in
set_option maxRecDepth 100000 in
theorem kX0_choose (l : Launch) (k : rm_K) (a : Nat → Nat) (ha : rm_inj a) (σ : rm_St) (n : Nat) (hn : n < 10) : rm_MV l k a yX0_choose wsX0_choose ({ frames := 4, cells := 0, slots := 0, locals := 92 }) [.int (nI n)] σ  (rm_choose σ n) := by
  refine rm_enterV (cc := cX0_choose) (nL := 3) (ret := none) ha (by decide) rfl rfl (by decide +kernel) (Nat.le_of_ble_eq_true rfl) ?_
  intro p e s m args below meth c ls C hr hlocks hw hl
  have hx := C.1.1
  have hb := C.1.2.1
  have hts := C.1.2.2.2.2
  have hA : ∀ q, s.heap.size ≤ q → rm_A a s.heap.size q := fun q h => Or.inr h
  replace hl : lv_has ls 3 [(0, .ref (a 0)), (1, .int (nI n))] := hl
  refine lv_aload_n hx hb dX0_choose_0 rfl (lv_at hl 0 rfl) ?_
  refine rm_geta C hw 10 5 (by decide) rfl (hts _ (by decide +kernel)) rfl dX0_choose_1 ?_
  refine lv_iload_n hx hb dX0_choose_4 rfl (lv_at hl 1 rfl) ?_
  refine rm_zald C hw hn dX0_choose_5 ?_
  refine lv_if_eq (tgt := 10) hx hb dX0_choose_6 (by decide) (fun c_6 => ?_) (fun c_6 => ?_)
  · skip
    refine lv_aload_n hx hb dX0_choose_10 rfl (lv_at hl 0 rfl) ?_
    refine lv_iload_n hx hb dX0_choose_11 rfl (lv_at hl 1 rfl) ?_
    refine rm_callI C hw hA (As := [.int (nI n)]) (rest := []) (kX0_bestCandidate l k a ha σ n hn) (cwV 1 hts gX0_choose_X0_bestCandidate rfl rfl rfl (by decide +kernel) ⟨Nat.le_of_ble_eq_true rfl, Nat.le_of_ble_eq_true rfl⟩) rfl hl.1 rfl (lv_room (Nat.le_of_ble_eq_true rfl)) dX0_choose_12 ⟨Nat.zero_le _, Nat.zero_le _⟩ (fun H locs hw => ?_)
    refine lv_istore_n (lv' := [(2, .int (rm_best σ n)), (0, .ref (a 0)), (1, .int (nI n))]) hx hb dX0_choose_15 rfl hl (by decide) rfl (fun ls hl => ?_)
    refine lv_iload_n hx hb dX0_choose_16 rfl (lv_at hl 0 rfl) ?_
    refine rm_callSI C hw (As := [.int (rm_best σ n)]) (rest := []) (kX0_isNode l (rm_best σ n)) (va_cwS 1 hts gX0_choose_X0_isNode rfl rfl rfl (by decide +kernel) ⟨Nat.le_of_ble_eq_true rfl, Nat.le_of_ble_eq_true rfl⟩) rfl hl.1 rfl (lv_room (Nat.le_of_ble_eq_true rfl)) dX0_choose_17 ⟨Nat.zero_le _, Nat.zero_le _⟩ (fun H locs hw => ?_)
    refine rm_ifne (tgt := 31) hx hb dX0_choose_20 (by decide) (fun c_20 => ?_) (fun c_20 => ?_)
    · skip
      obtain ⟨o1, ho1, eo1⟩ := isNd_of c_20
      rw [eo1] at hl
      refine lv_aload_n hx hb dX0_choose_31 rfl (lv_at hl 1 rfl) ?_
      refine lv_iload_n hx hb dX0_choose_32 rfl (lv_at hl 2 rfl) ?_
      refine lv_iload_n hx hb dX0_choose_33 rfl (lv_at hl 0 rfl) ?_
      refine rm_callI C hw hA (As := [.int (nI n), .int (nI o1)]) (rest := []) (kX0_keepsParent l k a ha σ n o1 hn ho1) (cwV 2 hts gX0_choose_X0_keepsParent rfl rfl rfl (by decide +kernel) ⟨Nat.le_of_ble_eq_true rfl, Nat.le_of_ble_eq_true rfl⟩) rfl hl.1 rfl (lv_room (Nat.le_of_ble_eq_true rfl)) dX0_choose_34 ⟨Nat.zero_le _, Nat.zero_le _⟩ (fun H locs hw => ?_)
      refine rm_ifeq (tgt := 54) hx hb dX0_choose_37 (by decide) (fun c_37 => ?_) (fun c_37 => ?_)
      · skip
        refine lv_aload_n hx hb dX0_choose_54 rfl (lv_at hl 1 rfl) ?_
        refine lv_iload_n hx hb dX0_choose_55 rfl (lv_at hl 2 rfl) ?_
        refine lv_iload_n hx hb dX0_choose_56 rfl (lv_at hl 0 rfl) ?_
        refine rm_callV C hw hA (As := [.int (nI n), .int (nI o1)]) (rest := []) (kX0_follow l k a ha σ n o1 hn ho1) (cwV 2 hts gX0_choose_X0_follow rfl rfl rfl (by decide +kernel) ⟨Nat.le_of_ble_eq_true rfl, Nat.le_of_ble_eq_true rfl⟩) rfl hl.1 rfl (lv_room (Nat.le_of_ble_eq_true rfl)) dX0_choose_57 ⟨Nat.zero_le _, Nat.zero_le _⟩ (fun H locs hw => ?_)
        exact rm_vret C hr hlocks hw dX0_choose_60 (by first | with_reducible rfl | (simp only [rm_choose, if_pos c_6, eo1, rm_cl ho1, isNd_nI ho1, c_37, ↓reduceIte, Bool.false_eq_true]; done) | (simp only [rm_choose, if_pos c_6, eo1, rm_cl ho1, isNd_nI ho1, c_37, ↓reduceIte, Bool.false_eq_true]; rfl) | rfl)
      · skip
        obtain ⟨o2, ho2, eo2⟩ := isNd_of (rm_keeps_nd c_37)
        refine lv_aload_n hx hb dX0_choose_40 rfl (lv_at hl 1 rfl) ?_
        refine lv_iload_n hx hb dX0_choose_41 rfl (lv_at hl 2 rfl) ?_
        refine lv_aload_n hx hb dX0_choose_42 rfl (lv_at hl 1 rfl) ?_
        refine rm_geta C hw 16 11 (by decide) rfl (hts _ (by decide +kernel)) rfl dX0_choose_43 ?_
        refine lv_iload_n hx hb dX0_choose_46 rfl (lv_at hl 2 rfl) ?_
        refine rm_iald C hw (by decide) hn dX0_choose_47 ?_
        rw [eo2]
        refine rm_callV C hw hA (As := [.int (nI n), .int (nI o2)]) (rest := []) (kX0_follow l k a ha σ n o2 hn ho2) (cwV 2 hts gX0_choose_X0_follow rfl rfl rfl (by decide +kernel) ⟨Nat.le_of_ble_eq_true rfl, Nat.le_of_ble_eq_true rfl⟩) rfl hl.1 rfl (lv_room (Nat.le_of_ble_eq_true rfl)) dX0_choose_48 ⟨Nat.zero_le _, Nat.zero_le _⟩ (fun H locs hw => ?_)
        refine lv_goto (tgt := 60) hx hb dX0_choose_51 (by decide) ?_
        exact rm_vret C hr hlocks hw dX0_choose_60 (by first | with_reducible rfl | (simp only [rm_choose, if_pos c_6, eo1, rm_cl ho1, isNd_nI ho1, c_37, eo2, rm_cl ho2, ↓reduceIte, Bool.false_eq_true]; done) | (simp only [rm_choose, if_pos c_6, eo1, rm_cl ho1, isNd_nI ho1, c_37, eo2, rm_cl ho2, ↓reduceIte, Bool.false_eq_true]; rfl) | rfl)
    · skip
      refine lv_aload_n hx hb dX0_choose_23 rfl (lv_at hl 1 rfl) ?_
      refine lv_iload_n hx hb dX0_choose_24 rfl (lv_at hl 2 rfl) ?_
      refine rm_callV C hw hA (As := [.int (nI n)]) (rest := []) (kX0_loseParent l k a ha σ n hn) (cwV 1 hts gX0_choose_X0_loseParent rfl rfl rfl (by decide +kernel) ⟨Nat.le_of_ble_eq_true rfl, Nat.le_of_ble_eq_true rfl⟩) rfl hl.1 rfl (lv_room (Nat.le_of_ble_eq_true rfl)) dX0_choose_25 ⟨Nat.zero_le _, Nat.zero_le _⟩ (fun H locs hw => ?_)
      refine lv_goto (tgt := 60) hx hb dX0_choose_28 (by decide) ?_
      exact rm_vret C hr hlocks hw dX0_choose_60 (by first | with_reducible rfl | (simp only [rm_choose, if_pos c_6, c_20, ↓reduceIte, Bool.false_eq_true]; done) | (simp only [rm_choose, if_pos c_6, c_20, ↓reduceIte, Bool.false_eq_true]; rfl) | rfl)
  · skip
    exact rm_vret C hr hlocks hw dX0_choose_9 (by first | with_reducible rfl | (simp only [rm_choose, if_neg c_6, ↓reduceIte, Bool.false_eq_true]; done) | (simp only [rm_choose, if_neg c_6, ↓reduceIte, Bool.false_eq_true]; rfl) | rfl)
set_option maxHeartbeats 4000000 in
set_option maxRecDepth 100000 in
theorem kX0_tell (l : Launch) (k : rm_K) (a : Nat → Nat) (ha : rm_inj a) (σ : rm_St) (t : Nat) (ht : t < 10) : rm_MV l k a yX0_tell wsX0_tell ({ frames := 5, cells := 0, slots := 0, locals := 114 }) [.int (nI t)] σ  (rm_tell σ t) := by
  refine rm_enterV (cc := cX0_tell) (nL := 3) (ret := none) ha (by decide) rfl rfl (by decide +kernel) (Nat.le_of_ble_eq_true rfl) ?_
  intro p e s m args below meth c ls C hr hlocks hw hl
  have hx := C.1.1
  have hb := C.1.2.1
  have hts := C.1.2.2.2.2
  have hA : ∀ q, s.heap.size ≤ q → rm_A a s.heap.size q := fun q h => Or.inr h
  replace hl : lv_has ls 3 [(0, .ref (a 0)), (1, .int (nI t))] := hl
  refine lv_iconst (v := 0) hx hb dX0_tell_0 (by decide) ?_
  refine lv_istore_n (lv' := [(2, .int 0), (0, .ref (a 0)), (1, .int (nI t))]) hx hb dX0_tell_1 rfl hl (by decide) rfl (fun ls hl => ?_)
  have lp_2 : ∀ (r i : Nat), i + r = 10 → ∀ (τ2 : rm_St), rm_tellL t r i τ2 = rm_tell σ t → ∀ (H : Heap) (locs : List Loc), rm_Wd k a (rm_A a s.heap.size) s.heap s τ2 H locs → ∀ (ls : Array Slot), lv_has ls 3 [(0, .ref (a 0)), (1, .int (nI t)), (2, .int (nI i))] → W p l e (headSpec wsX0_tell ({ frames := 5, cells := 0, slots := 0, locals := 114 })).room s m args below meth c H locs 0 0 (MQ below (va_Qv (fun (τ : rm_St) => τ = (rm_tell σ t)) (fun τ t => rm_P k a τ t) (rm_A a s.heap.size)) args s 0 0 (rm_A a s.heap.size)) (F0 m 2 ls []) := by
    intro r
    induction r with
    | zero =>
      intro i hi2 τ2 ht2 H locs hw ls hl
      obtain rfl : 10 = i := by omega
      have hz2 : τ2 = rm_tell σ t := ht2
      refine lv_iload_n hx hb dX0_tell_2 rfl (lv_at hl 2 rfl) ?_
      refine lv_bipush (v := 10) hx hb dX0_tell_3 (by decide) ?_
      refine lv_icmp_ge (tgt := 72) hx hb dX0_tell_5 (by decide) (fun c_5 => ?_) (fun c_5 => ?_)
      · skip
        exact rm_vret C hr hlocks hw dX0_tell_72 (by first | with_reducible rfl | with_reducible exact hz2 | (rw [← hz2]; done) | (rw [← hz2]; exact bI_f.symm) | (simp only [rm_tell, ↓reduceIte, Bool.false_eq_true]; rw [← hz2]; done) | (rw [← hz2]; simp only [rm_tellL, rm_hear, ↓reduceIte, Bool.false_eq_true]; done) | (rw [← hz2]; simp only [rm_tellL, rm_hear, ↓reduceIte, Bool.false_eq_true]; with_reducible rfl) | (rw [← hz2]; simp only [rm_tellL, rm_hear, ↓reduceIte, Bool.false_eq_true]; rfl) | (simp only [rm_tell, ↓reduceIte, Bool.false_eq_true]; done) | (simp only [rm_tell, ↓reduceIte, Bool.false_eq_true]; with_reducible rfl))
      · exact absurd (show (10 : Int32) ≤ nI 10 from nI_le (a := 10) (b := 10) (Nat.le_refl _) (by decide)) c_5
    | succ r ih2 =>
      intro i hi2 τ2 ht2 H locs hw ls hl
      have hlt2 : i < 10 := by omega
      refine lv_iload_n hx hb dX0_tell_2 rfl (lv_at hl 2 rfl) ?_
      refine lv_bipush (v := 10) hx hb dX0_tell_3 (by decide) ?_
      refine lv_icmp_ge (tgt := 72) hx hb dX0_tell_5 (by decide) (fun c_5 => ?_) (fun c_5 => ?_)
      · exact absurd c_5 (nI_ge (a := i) (b := 10) hlt2 (by decide))
      · skip
        refine lv_aload_n hx hb dX0_tell_8 rfl (lv_at hl 0 rfl) ?_
        refine rm_geta C hw 6 1 (by decide) rfl (hts _ (by decide +kernel)) rfl dX0_tell_9 ?_
        refine lv_iload_n hx hb dX0_tell_12 rfl (lv_at hl 1 rfl) ?_
        refine rm_aald C hw 15 (by decide) ht dX0_tell_13 ?_
        refine lv_iload_n hx hb dX0_tell_14 rfl (lv_at hl 2 rfl) ?_
        refine rm_iald C hw ⟨by omega, by omega⟩ hlt2 dX0_tell_15 ?_
        refine lv_if_le (tgt := 66) hx hb dX0_tell_16 (by decide) (fun c_16 => ?_) (fun c_16 => ?_)
        · skip
          refine lv_iinc (v := nI (i + 1)) (lv' := [(2, .int (nI (i + 1))), (0, .ref (a 0)), (1, .int (nI t))]) hx hb dX0_tell_66 hl (k := 2) rfl (rm_inc i) (by decide) rfl (fun ls hl => ?_)
          refine lv_goto (tgt := 2) hx hb dX0_tell_69 (by decide) ?_
          exact ih2 (i + 1) (by omega) (τ2) (by refine Eq.trans ?_ ht2; first | with_reducible rfl | (simp only [rm_tellL, rm_hear, if_pos c_16, ↓reduceIte, Bool.false_eq_true]; done) | (simp only [rm_tellL, rm_hear, if_pos c_16, ↓reduceIte, Bool.false_eq_true]; with_reducible rfl)) _ _ hw _ (lv_sub hl [1, 2, 0] rfl)
        · skip
          refine lv_aload_n hx hb dX0_tell_19 rfl (lv_at hl 0 rfl) ?_
          refine rm_geta C hw 7 2 (by decide) rfl (hts _ (by decide +kernel)) rfl dX0_tell_20 ?_
          refine lv_iload_n hx hb dX0_tell_23 rfl (lv_at hl 2 rfl) ?_
          refine rm_aald C hw 25 (by decide) hlt2 dX0_tell_24 ?_
          refine lv_iload_n hx hb dX0_tell_25 rfl (lv_at hl 1 rfl) ?_
          refine lv_aload_n hx hb dX0_tell_26 rfl (lv_at hl 0 rfl) ?_
          refine rm_geta C hw 12 7 (by decide) rfl (hts _ (by decide +kernel)) rfl dX0_tell_27 ?_
          refine lv_iload_n hx hb dX0_tell_30 rfl (lv_at hl 1 rfl) ?_
          refine rm_iald C hw (by decide) ht dX0_tell_31 ?_
          refine rm_iast C hw ⟨by omega, by omega⟩ ht dX0_tell_32 (fun H locs hw => ?_)
          refine lv_aload_n hx hb dX0_tell_33 rfl (lv_at hl 0 rfl) ?_
          refine rm_geta C hw 8 3 (by decide) rfl (hts _ (by decide +kernel)) rfl dX0_tell_34 ?_
          refine lv_iload_n hx hb dX0_tell_37 rfl (lv_at hl 2 rfl) ?_
          refine rm_aald C hw 35 (by decide) hlt2 dX0_tell_38 ?_
          refine lv_iload_n hx hb dX0_tell_39 rfl (lv_at hl 1 rfl) ?_
          refine lv_aload_n hx hb dX0_tell_40 rfl (lv_at hl 0 rfl) ?_
          refine rm_geta C hw 13 8 (by decide) rfl (hts _ (by decide +kernel)) rfl dX0_tell_41 ?_
          refine lv_iload_n hx hb dX0_tell_44 rfl (lv_at hl 1 rfl) ?_
          refine rm_iald C hw (by decide) ht dX0_tell_45 ?_
          refine rm_iast C hw ⟨by omega, by omega⟩ ht dX0_tell_46 (fun H locs hw => ?_)
          refine lv_aload_n hx hb dX0_tell_47 rfl (lv_at hl 0 rfl) ?_
          refine rm_geta C hw 9 4 (by decide) rfl (hts _ (by decide +kernel)) rfl dX0_tell_48 ?_
          refine lv_iload_n hx hb dX0_tell_51 rfl (lv_at hl 2 rfl) ?_
          refine rm_aald C hw 45 (by decide) hlt2 dX0_tell_52 ?_
          refine lv_iload_n hx hb dX0_tell_53 rfl (lv_at hl 1 rfl) ?_
          refine lv_aload_n hx hb dX0_tell_54 rfl (lv_at hl 0 rfl) ?_
          refine rm_geta C hw 14 9 (by decide) rfl (hts _ (by decide +kernel)) rfl dX0_tell_55 ?_
          refine lv_iload_n hx hb dX0_tell_58 rfl (lv_at hl 1 rfl) ?_
          refine rm_iald C hw (by decide) ht dX0_tell_59 ?_
          refine rm_iast C hw ⟨by omega, by omega⟩ ht dX0_tell_60 (fun H locs hw => ?_)
          refine lv_aload_n hx hb dX0_tell_61 rfl (lv_at hl 0 rfl) ?_
          refine lv_iload_n hx hb dX0_tell_62 rfl (lv_at hl 2 rfl) ?_
          refine rm_callV C hw hA (As := [.int (nI i)]) (rest := []) (kX0_choose l k a ha (rm_up (rm_up (rm_up τ2 (25 + i) t (τ2 7 t)) (35 + i) t ((rm_up τ2 (25 + i) t (τ2 7 t)) 8 t)) (45 + i) t ((rm_up (rm_up τ2 (25 + i) t (τ2 7 t)) (35 + i) t ((rm_up τ2 (25 + i) t (τ2 7 t)) 8 t)) 9 t)) i hlt2) (cwV 1 hts gX0_tell_X0_choose rfl rfl rfl (by decide +kernel) ⟨Nat.le_of_ble_eq_true rfl, Nat.le_of_ble_eq_true rfl⟩) rfl hl.1 rfl (lv_room (Nat.le_of_ble_eq_true rfl)) dX0_tell_63 ⟨Nat.zero_le _, Nat.zero_le _⟩ (fun H locs hw => ?_)
          refine lv_iinc (v := nI (i + 1)) (lv' := [(2, .int (nI (i + 1))), (0, .ref (a 0)), (1, .int (nI t))]) hx hb dX0_tell_66 hl (k := 2) rfl (rm_inc i) (by decide) rfl (fun ls hl => ?_)
          refine lv_goto (tgt := 2) hx hb dX0_tell_69 (by decide) ?_
          exact ih2 (i + 1) (by omega) (rm_choose (rm_up (rm_up (rm_up τ2 (25 + i) t (τ2 7 t)) (35 + i) t ((rm_up τ2 (25 + i) t (τ2 7 t)) 8 t)) (45 + i) t ((rm_up (rm_up τ2 (25 + i) t (τ2 7 t)) (35 + i) t ((rm_up τ2 (25 + i) t (τ2 7 t)) 8 t)) 9 t)) i) (by refine Eq.trans ?_ ht2; first | with_reducible rfl | (simp only [rm_tellL, rm_hear, if_neg c_16, ↓reduceIte, Bool.false_eq_true]; done) | (simp only [rm_tellL, rm_hear, if_neg c_16, ↓reduceIte, Bool.false_eq_true]; with_reducible rfl)) _ _ hw _ (lv_sub hl [1, 2, 0] rfl)
  exact lp_2 10 0 (by omega) (σ) (by first | with_reducible rfl | (unfold rm_tell; with_reducible rfl) | (simp only [rm_tell, ↓reduceIte, Bool.false_eq_true]; done) | (simp only [rm_tell, ↓reduceIte, Bool.false_eq_true]; with_reducible rfl)) _ _ hw _ (lv_sub hl [1, 2, 0] rfl)
set_option maxHeartbeats 4000000 in
set_option maxRecDepth 100000 in
theorem kX0_passTick (l : Launch) (k : rm_K) (a : Nat → Nat) (ha : rm_inj a) (σ : rm_St)   : rm_MI l k a yX0_passTick wsX0_passTick ({ frames := 6, cells := 0, slots := 0, locals := 136 }) [] σ ((rm_tick σ).2) ((rm_tick σ).1) := by
  refine rm_enterI (cc := cX0_passTick) (nL := 3) (ret := (some .int)) ha (by decide) rfl rfl (by decide +kernel) (Nat.le_of_ble_eq_true rfl) ?_
  intro p e s m args below meth c ls C hr hlocks hw hl
  have hx := C.1.1
  have hb := C.1.2.1
  have hts := C.1.2.2.2.2
  have hA : ∀ q, s.heap.size ≤ q → rm_A a s.heap.size q := fun q h => Or.inr h
  replace hl : lv_has ls 3 [(0, .ref (a 0))] := hl
  refine lv_iconst (v := 0) hx hb dX0_passTick_0 (by decide) ?_
  refine lv_istore_n (lv' := [(1, .int 0), (0, .ref (a 0))]) hx hb dX0_passTick_1 rfl hl (by decide) rfl (fun ls hl => ?_)
  refine lv_aload_n hx hb dX0_passTick_2 rfl (lv_at hl 1 rfl) ?_
  refine lv_dup hx hb dX0_passTick_3 rfl ?_
  refine rm_geti C hw 4 (by decide) (hts _ (by decide +kernel)) rfl dX0_passTick_4 ?_
  refine lv_iconst (v := 1) hx hb dX0_passTick_7 (by decide) ?_
  refine lv_iadd hx hb dX0_passTick_8 ?_
  refine rm_puti C hw 4 (by decide) (hts _ (by decide +kernel)) rfl rfl rfl dX0_passTick_9 (fun H locs hw => ?_)
  refine lv_iconst (v := 0) hx hb dX0_passTick_12 (by decide) ?_
  refine lv_istore_n (lv' := [(2, .int 0), (1, .int 0), (0, .ref (a 0))]) hx hb dX0_passTick_13 rfl hl (by decide) rfl (fun ls hl => ?_)
  have lp_14 : ∀ (r i : Nat), i + r = 10 → ∀ (x1 : Int32) (τ14 : rm_St), rm_tickL r i x1 τ14 = rm_tick σ → ∀ (H : Heap) (locs : List Loc), rm_Wd k a (rm_A a s.heap.size) s.heap s τ14 H locs → ∀ (ls : Array Slot), lv_has ls 3 [(0, .ref (a 0)), (1, .int x1), (2, .int (nI i))] → W p l e (headSpec wsX0_passTick ({ frames := 6, cells := 0, slots := 0, locals := 136 })).room s m args below meth c H locs 0 0 (MQ below (va_Qi (fun (r : Int32) (τ : rm_St) => r = ((rm_tick σ).2) ∧ τ = ((rm_tick σ).1)) (fun τ t => rm_P k a τ t) (rm_A a s.heap.size)) args s 0 0 (rm_A a s.heap.size)) (F0 m 14 ls []) := by
    intro r
    induction r with
    | zero =>
      intro i hi14 x1 τ14 ht14 H locs hw ls hl
      obtain rfl : 10 = i := by omega
      have hz14 : (τ14, x1) = rm_tick σ := ht14
      refine lv_iload_n hx hb dX0_passTick_14 rfl (lv_at hl 2 rfl) ?_
      refine lv_bipush (v := 10) hx hb dX0_passTick_15 (by decide) ?_
      refine lv_icmp_ge (tgt := 52) hx hb dX0_passTick_17 (by decide) (fun c_17 => ?_) (fun c_17 => ?_)
      · skip
        refine lv_iload_n hx hb dX0_passTick_52 rfl (lv_at hl 1 rfl) ?_
        exact rm_iret C hr hlocks hw dX0_passTick_53 ⟨by first | with_reducible rfl | with_reducible exact hz14 | (rw [← hz14]; done) | (rw [← hz14]; exact bI_f.symm) | (simp only [rm_tick, ↓reduceIte, Bool.false_eq_true]; rw [← hz14]; done) | (rw [← hz14]; simp only [rm_tickL, ↓reduceIte, Bool.false_eq_true]; done) | (rw [← hz14]; simp only [rm_tickL, ↓reduceIte, Bool.false_eq_true]; with_reducible rfl) | (rw [← hz14]; simp only [rm_tickL, ↓reduceIte, Bool.false_eq_true]; rfl) | (simp only [rm_tick, ↓reduceIte, Bool.false_eq_true]; done) | (simp only [rm_tick, ↓reduceIte, Bool.false_eq_true]; with_reducible rfl), by first | with_reducible rfl | with_reducible exact hz14 | (rw [← hz14]; done) | (rw [← hz14]; exact bI_f.symm) | (simp only [rm_tick, ↓reduceIte, Bool.false_eq_true]; rw [← hz14]; done) | (rw [← hz14]; simp only [rm_tickL, ↓reduceIte, Bool.false_eq_true]; done) | (rw [← hz14]; simp only [rm_tickL, ↓reduceIte, Bool.false_eq_true]; with_reducible rfl) | (rw [← hz14]; simp only [rm_tickL, ↓reduceIte, Bool.false_eq_true]; rfl) | (simp only [rm_tick, ↓reduceIte, Bool.false_eq_true]; done) | (simp only [rm_tick, ↓reduceIte, Bool.false_eq_true]; with_reducible rfl)⟩
      · exact absurd (show (10 : Int32) ≤ nI 10 from nI_le (a := 10) (b := 10) (Nat.le_refl _) (by decide)) c_17
    | succ r ih14 =>
      intro i hi14 x1 τ14 ht14 H locs hw ls hl
      have hlt14 : i < 10 := by omega
      refine lv_iload_n hx hb dX0_passTick_14 rfl (lv_at hl 2 rfl) ?_
      refine lv_bipush (v := 10) hx hb dX0_passTick_15 (by decide) ?_
      refine lv_icmp_ge (tgt := 52) hx hb dX0_passTick_17 (by decide) (fun c_17 => ?_) (fun c_17 => ?_)
      · exact absurd c_17 (nI_ge (a := i) (b := 10) hlt14 (by decide))
      · skip
        refine lv_aload_n hx hb dX0_passTick_20 rfl (lv_at hl 0 rfl) ?_
        refine rm_geta C hw 18 13 (by decide) rfl (hts _ (by decide +kernel)) rfl dX0_passTick_21 ?_
        refine lv_iload_n hx hb dX0_passTick_24 rfl (lv_at hl 2 rfl) ?_
        refine rm_iald C hw (by decide) hlt14 dX0_passTick_25 ?_
        refine lv_aload_n hx hb dX0_passTick_26 rfl (lv_at hl 0 rfl) ?_
        refine rm_geti C hw 4 (by decide) (hts _ (by decide +kernel)) rfl dX0_passTick_27 ?_
        refine lv_icmp_ne (tgt := 46) hx hb dX0_passTick_30 (by decide) (fun c_30 => ?_) (fun c_30 => ?_)
        · skip
          refine lv_iinc (v := nI (i + 1)) (lv' := [(2, .int (nI (i + 1))), (0, .ref (a 0)), (1, .int x1)]) hx hb dX0_passTick_46 hl (k := 2) rfl (rm_inc i) (by decide) rfl (fun ls hl => ?_)
          refine lv_goto (tgt := 14) hx hb dX0_passTick_49 (by decide) ?_
          exact ih14 (i + 1) (by omega) (x1) (τ14) (by refine Eq.trans ?_ ht14; first | with_reducible rfl | (simp only [rm_tickL, if_neg c_30, ↓reduceIte, Bool.false_eq_true]; done) | (simp only [rm_tickL, if_neg c_30, ↓reduceIte, Bool.false_eq_true]; with_reducible rfl)) _ _ hw _ (lv_sub hl [1, 2, 0] rfl)
        · skip
          refine lv_aload_n hx hb dX0_passTick_33 rfl (lv_at hl 0 rfl) ?_
          refine lv_iload_n hx hb dX0_passTick_34 rfl (lv_at hl 2 rfl) ?_
          refine rm_callV C hw hA (As := [.int (nI i)]) (rest := []) (kX0_tell l k a ha τ14 i hlt14) (cwV 1 hts gX0_passTick_X0_tell rfl rfl rfl (by decide +kernel) ⟨Nat.le_of_ble_eq_true rfl, Nat.le_of_ble_eq_true rfl⟩) rfl hl.1 rfl (lv_room (Nat.le_of_ble_eq_true rfl)) dX0_passTick_35 ⟨Nat.zero_le _, Nat.zero_le _⟩ (fun H locs hw => ?_)
          refine lv_aload_n hx hb dX0_passTick_38 rfl (lv_at hl 0 rfl) ?_
          refine lv_iload_n hx hb dX0_passTick_39 rfl (lv_at hl 2 rfl) ?_
          refine rm_callV C hw hA (As := [.int (nI i)]) (rest := []) (kX0_lengthenTimer l k a ha (rm_tell τ14 i) i hlt14) (cwV 1 hts gX0_passTick_X0_lengthenTimer rfl rfl rfl (by decide +kernel) ⟨Nat.le_of_ble_eq_true rfl, Nat.le_of_ble_eq_true rfl⟩) rfl hl.1 rfl (lv_room (Nat.le_of_ble_eq_true rfl)) dX0_passTick_40 ⟨Nat.zero_le _, Nat.zero_le _⟩ (fun H locs hw => ?_)
          refine lv_iinc (v := (x1) + 1) (lv' := [(1, .int ((x1) + 1)), (0, .ref (a 0)), (2, .int (nI i))]) hx hb dX0_passTick_43 hl (k := 1) rfl rfl (by decide) rfl (fun ls hl => ?_)
          refine lv_iinc (v := nI (i + 1)) (lv' := [(2, .int (nI (i + 1))), (1, .int ((x1) + 1)), (0, .ref (a 0))]) hx hb dX0_passTick_46 hl (k := 2) rfl (rm_inc i) (by decide) rfl (fun ls hl => ?_)
          refine lv_goto (tgt := 14) hx hb dX0_passTick_49 (by decide) ?_
          exact ih14 (i + 1) (by omega) ((x1) + 1) (rm_len (rm_tell τ14 i) i) (by refine Eq.trans ?_ ht14; first | with_reducible rfl | (simp only [rm_tickL, if_pos c_30, ↓reduceIte, Bool.false_eq_true]; done) | (simp only [rm_tickL, if_pos c_30, ↓reduceIte, Bool.false_eq_true]; with_reducible rfl)) _ _ hw _ (lv_sub hl [2, 1, 0] rfl)
  exact lp_14 10 0 (by omega) (0) (rm_up σ 0 4 ((σ 0 4) + (1))) (by first | with_reducible rfl | (unfold rm_tick; with_reducible rfl) | (simp only [rm_tick, ↓reduceIte, Bool.false_eq_true]; done) | (simp only [rm_tick, ↓reduceIte, Bool.false_eq_true]; with_reducible rfl)) _ _ hw _ (lv_sub hl [2, 1, 0] rfl)
set_option maxHeartbeats 4000000 in
set_option maxRecDepth 100000 in
theorem kX0_childrenOf (l : Launch) (k : rm_K) (a : Nat → Nat) (ha : rm_inj a) (σ : rm_St) (v : Int32)  : rm_MI l k a yX0_childrenOf wsX0_childrenOf ({ frames := 1, cells := 0, slots := 0, locals := 20 }) [.int v] σ (rm_ch σ v) σ := by
  refine rm_enterI (cc := cX0_childrenOf) (nL := 5) (ret := (some .int)) ha (by decide) rfl rfl (by decide +kernel) (Nat.le_of_ble_eq_true rfl) ?_
  intro p e s m args below meth c ls C hr hlocks hw hl
  have hx := C.1.1
  have hb := C.1.2.1
  have hts := C.1.2.2.2.2
  have hA : ∀ q, s.heap.size ≤ q → rm_A a s.heap.size q := fun q h => Or.inr h
  replace hl : lv_has ls 5 [(0, .ref (a 0)), (1, .int v)] := hl
  refine lv_iconst (v := 0) hx hb dX0_childrenOf_0 (by decide) ?_
  refine lv_istore_n (lv' := [(2, .int 0), (0, .ref (a 0)), (1, .int v)]) hx hb dX0_childrenOf_1 rfl hl (by decide) rfl (fun ls hl => ?_)
  refine lv_iconst (v := 0) hx hb dX0_childrenOf_2 (by decide) ?_
  refine lv_istore_n (lv' := [(3, .int 0), (2, .int 0), (0, .ref (a 0)), (1, .int v)]) hx hb dX0_childrenOf_3 rfl hl (by decide) rfl (fun ls hl => ?_)
  have lp_4 : ∀ (r i : Nat), i + r = 10 → ∀ (x2 : Int32), rm_chL σ v r i x2 = rm_ch σ v → ∀ (H : Heap) (locs : List Loc), rm_Wd k a (rm_A a s.heap.size) s.heap s σ H locs → ∀ (ls : Array Slot), lv_has ls 5 [(0, .ref (a 0)), (1, .int v), (2, .int x2), (3, .int (nI i))] → W p l e (headSpec wsX0_childrenOf ({ frames := 1, cells := 0, slots := 0, locals := 20 })).room s m args below meth c H locs 0 0 (MQ below (va_Qi (fun (r : Int32) (τ : rm_St) => r = (rm_ch σ v) ∧ τ = σ) (fun τ t => rm_P k a τ t) (rm_A a s.heap.size)) args s 0 0 (rm_A a s.heap.size)) (F0 m 4 ls []) := by
    intro r
    induction r with
    | zero =>
      intro i hi4 x2 ht4 H locs hw ls hl
      obtain rfl : 10 = i := by omega
      have hz4 : x2 = rm_ch σ v := ht4
      refine lv_iload_n hx hb dX0_childrenOf_4 rfl (lv_at hl 3 rfl) ?_
      refine lv_bipush (v := 10) hx hb dX0_childrenOf_5 (by decide) ?_
      refine lv_icmp_ge (tgt := 47) hx hb dX0_childrenOf_7 (by decide) (fun c_7 => ?_) (fun c_7 => ?_)
      · skip
        refine lv_iload_n hx hb dX0_childrenOf_47 rfl (lv_at hl 2 rfl) ?_
        exact rm_iret C hr hlocks hw dX0_childrenOf_48 ⟨by first | with_reducible rfl | with_reducible exact hz4 | (rw [← hz4]; done) | (rw [← hz4]; exact bI_f.symm) | (simp only [rm_ch, ↓reduceIte, Bool.false_eq_true]; rw [← hz4]; done) | (rw [← hz4]; simp only [rm_chL, ↓reduceIte, Bool.false_eq_true]; done) | (rw [← hz4]; simp only [rm_chL, ↓reduceIte, Bool.false_eq_true]; with_reducible rfl) | (rw [← hz4]; simp only [rm_chL, ↓reduceIte, Bool.false_eq_true]; rfl) | (simp only [rm_ch, ↓reduceIte, Bool.false_eq_true]; done) | (simp only [rm_ch, ↓reduceIte, Bool.false_eq_true]; with_reducible rfl), by first | with_reducible rfl | with_reducible exact hz4 | (rw [← hz4]; done) | (rw [← hz4]; exact bI_f.symm) | (simp only [rm_ch, ↓reduceIte, Bool.false_eq_true]; rw [← hz4]; done) | (rw [← hz4]; simp only [rm_chL, ↓reduceIte, Bool.false_eq_true]; done) | (rw [← hz4]; simp only [rm_chL, ↓reduceIte, Bool.false_eq_true]; with_reducible rfl) | (rw [← hz4]; simp only [rm_chL, ↓reduceIte, Bool.false_eq_true]; rfl) | (simp only [rm_ch, ↓reduceIte, Bool.false_eq_true]; done) | (simp only [rm_ch, ↓reduceIte, Bool.false_eq_true]; with_reducible rfl)⟩
      · exact absurd (show (10 : Int32) ≤ nI 10 from nI_le (a := 10) (b := 10) (Nat.le_refl _) (by decide)) c_7
    | succ r ih4 =>
      intro i hi4 x2 ht4 H locs hw ls hl
      have hlt4 : i < 10 := by omega
      refine lv_iload_n hx hb dX0_childrenOf_4 rfl (lv_at hl 3 rfl) ?_
      refine lv_bipush (v := 10) hx hb dX0_childrenOf_5 (by decide) ?_
      refine lv_icmp_ge (tgt := 47) hx hb dX0_childrenOf_7 (by decide) (fun c_7 => ?_) (fun c_7 => ?_)
      · exact absurd c_7 (nI_ge (a := i) (b := 10) hlt4 (by decide))
      · skip
        refine lv_aload_n hx hb dX0_childrenOf_10 rfl (lv_at hl 0 rfl) ?_
        refine rm_geta C hw 16 11 (by decide) rfl (hts _ (by decide +kernel)) rfl dX0_childrenOf_11 ?_
        refine lv_iload_n hx hb dX0_childrenOf_14 rfl (lv_at hl 3 rfl) ?_
        refine rm_iald C hw (by decide) hlt4 dX0_childrenOf_15 ?_
        refine lv_istore (lv' := [(4, .int (σ 11 i)), (0, .ref (a 0)), (1, .int v), (2, .int x2), (3, .int (nI i))]) hx hb dX0_childrenOf_16 hl (by decide) rfl (fun ls hl => ?_)
        refine lv_iload hx hb dX0_childrenOf_18 (lv_at hl 0 rfl) ?_
        refine rm_callSI C hw (As := [.int (σ 11 i)]) (rest := []) (kX0_isNode l (σ 11 i)) (va_cwS 1 hts gX0_childrenOf_X0_isNode rfl rfl rfl (by decide +kernel) ⟨Nat.le_of_ble_eq_true rfl, Nat.le_of_ble_eq_true rfl⟩) rfl hl.1 rfl (lv_room (Nat.le_of_ble_eq_true rfl)) dX0_childrenOf_20 ⟨Nat.zero_le _, Nat.zero_le _⟩ (fun H locs hw => ?_)
        refine rm_ifeq (tgt := 41) hx hb dX0_childrenOf_23 (by decide) (fun c_23 => ?_) (fun c_23 => ?_)
        · skip
          refine lv_iinc (v := nI (i + 1)) (lv' := [(3, .int (nI (i + 1))), (4, .int (σ 11 i)), (0, .ref (a 0)), (1, .int v), (2, .int x2)]) hx hb dX0_childrenOf_41 hl (k := 4) rfl (rm_inc i) (by decide) rfl (fun ls hl => ?_)
          refine lv_goto (tgt := 4) hx hb dX0_childrenOf_44 (by decide) ?_
          exact ih4 (i + 1) (by omega) (x2) (by refine Eq.trans ?_ ht4; first | with_reducible rfl | (simp only [rm_chL, c_23, ↓reduceIte, Bool.false_eq_true]; done) | (simp only [rm_chL, c_23, ↓reduceIte, Bool.false_eq_true]; with_reducible rfl)) _ _ hw _ (lv_sub hl [2, 3, 4, 0] rfl)
        · skip
          refine lv_iload_n hx hb dX0_childrenOf_26 rfl (lv_at hl 2 rfl) ?_
          refine lv_iload hx hb dX0_childrenOf_27 (lv_at hl 0 rfl) ?_
          refine lv_ishr hx hb dX0_childrenOf_29 ?_
          refine lv_iconst (v := 1) hx hb dX0_childrenOf_30 (by decide) ?_
          refine lv_iand hx hb dX0_childrenOf_31 ?_
          refine lv_if_eq (tgt := 41) hx hb dX0_childrenOf_32 (by decide) (fun c_32 => ?_) (fun c_32 => ?_)
          · skip
            refine lv_iinc (v := nI (i + 1)) (lv' := [(3, .int (nI (i + 1))), (4, .int (σ 11 i)), (0, .ref (a 0)), (1, .int v), (2, .int x2)]) hx hb dX0_childrenOf_41 hl (k := 4) rfl (rm_inc i) (by decide) rfl (fun ls hl => ?_)
            refine lv_goto (tgt := 4) hx hb dX0_childrenOf_44 (by decide) ?_
            exact ih4 (i + 1) (by omega) (x2) (by refine Eq.trans ?_ ht4; first | with_reducible rfl | (simp only [rm_chL, c_23, if_pos c_32, ↓reduceIte, Bool.false_eq_true]; done) | (simp only [rm_chL, c_23, if_pos c_32, ↓reduceIte, Bool.false_eq_true]; with_reducible rfl)) _ _ hw _ (lv_sub hl [2, 3, 4, 0] rfl)
          · skip
            refine lv_iload_n hx hb dX0_childrenOf_35 rfl (lv_at hl 3 rfl) ?_
            refine lv_iconst (v := 1) hx hb dX0_childrenOf_36 (by decide) ?_
            refine lv_iload_n hx hb dX0_childrenOf_37 rfl (lv_at hl 4 rfl) ?_
            refine lv_ishl hx hb dX0_childrenOf_38 ?_
            refine lv_ior hx hb dX0_childrenOf_39 ?_
            refine lv_istore_n (lv' := [(2, .int ((x2) ||| ((1) <<< ((nI i) &&& 31)))), (4, .int (σ 11 i)), (0, .ref (a 0)), (1, .int v), (3, .int (nI i))]) hx hb dX0_childrenOf_40 rfl hl (by decide) rfl (fun ls hl => ?_)
            refine lv_iinc (v := nI (i + 1)) (lv' := [(3, .int (nI (i + 1))), (2, .int ((x2) ||| ((1) <<< ((nI i) &&& 31)))), (4, .int (σ 11 i)), (0, .ref (a 0)), (1, .int v)]) hx hb dX0_childrenOf_41 hl (k := 4) rfl (rm_inc i) (by decide) rfl (fun ls hl => ?_)
            refine lv_goto (tgt := 4) hx hb dX0_childrenOf_44 (by decide) ?_
            exact ih4 (i + 1) (by omega) ((x2) ||| ((1) <<< ((nI i) &&& 31))) (by refine Eq.trans ?_ ht4; first | with_reducible rfl | (simp only [rm_chL, c_23, if_neg c_32, ↓reduceIte, Bool.false_eq_true]; done) | (simp only [rm_chL, c_23, if_neg c_32, ↓reduceIte, Bool.false_eq_true]; with_reducible rfl)) _ _ hw _ (lv_sub hl [3, 4, 1, 0] rfl)
  exact lp_4 10 0 (by omega) (0) (by first | with_reducible rfl | (unfold rm_ch; with_reducible rfl) | (simp only [rm_ch, ↓reduceIte, Bool.false_eq_true]; done) | (simp only [rm_ch, ↓reduceIte, Bool.false_eq_true]; with_reducible rfl)) _ _ hw _ (lv_sub hl [2, 3, 1, 0] rfl)
set_option maxHeartbeats 4000000 in
set_option maxRecDepth 100000 in
theorem kX0_lowerWayCosts (l : Launch) (k : rm_K) (a : Nat → Nat) (ha : rm_inj a) (σ : rm_St)   : rm_MV l k a yX0_lowerWayCosts wsX0_lowerWayCosts ({ frames := 1, cells := 0, slots := 0, locals := 30 }) [] σ  (rm_lower σ) := by
  refine rm_enterV (cc := cX0_lowerWayCosts) (nL := 4) (ret := none) ha (by decide) rfl rfl (by decide +kernel) (Nat.le_of_ble_eq_true rfl) ?_
  intro p e s m args below meth c ls C hr hlocks hw hl
  have hx := C.1.1
  have hb := C.1.2.1
  have hts := C.1.2.2.2.2
  have hA : ∀ q, s.heap.size ≤ q → rm_A a s.heap.size q := fun q h => Or.inr h
  replace hl : lv_has ls 4 [(0, .ref (a 0))] := hl
  refine lv_iconst (v := 0) hx hb dX0_lowerWayCosts_0 (by decide) ?_
  refine lv_istore_n (lv' := [(1, .int 0), (0, .ref (a 0))]) hx hb dX0_lowerWayCosts_1 rfl hl (by decide) rfl (fun ls hl => ?_)
  have lp_2 : ∀ (r i : Nat), i + r = 10 → ∀ (τ2 : rm_St), rm_lowL r i τ2 = rm_lower σ → ∀ (H : Heap) (locs : List Loc), rm_Wd k a (rm_A a s.heap.size) s.heap s τ2 H locs → ∀ (ls : Array Slot), lv_has ls 4 [(0, .ref (a 0)), (1, .int (nI i))] → W p l e (headSpec wsX0_lowerWayCosts ({ frames := 1, cells := 0, slots := 0, locals := 30 })).room s m args below meth c H locs 0 0 (MQ below (va_Qv (fun (τ : rm_St) => τ = (rm_lower σ)) (fun τ t => rm_P k a τ t) (rm_A a s.heap.size)) args s 0 0 (rm_A a s.heap.size)) (F0 m 2 ls []) := by
    intro r
    induction r with
    | zero =>
      intro i hi2 τ2 ht2 H locs hw ls hl
      obtain rfl : 10 = i := by omega
      have hz2 : τ2 = rm_lower σ := ht2
      refine lv_iload_n hx hb dX0_lowerWayCosts_2 rfl (lv_at hl 1 rfl) ?_
      refine lv_bipush (v := 10) hx hb dX0_lowerWayCosts_3 (by decide) ?_
      refine lv_icmp_ge (tgt := 64) hx hb dX0_lowerWayCosts_5 (by decide) (fun c_5 => ?_) (fun c_5 => ?_)
      · skip
        exact rm_vret C hr hlocks hw dX0_lowerWayCosts_64 (by first | with_reducible rfl | with_reducible exact hz2 | (rw [← hz2]; done) | (rw [← hz2]; exact bI_f.symm) | (simp only [rm_lower, ↓reduceIte, Bool.false_eq_true]; rw [← hz2]; done) | (rw [← hz2]; simp only [rm_lowL, ↓reduceIte, Bool.false_eq_true]; done) | (rw [← hz2]; simp only [rm_lowL, ↓reduceIte, Bool.false_eq_true]; with_reducible rfl) | (rw [← hz2]; simp only [rm_lowL, ↓reduceIte, Bool.false_eq_true]; rfl) | (simp only [rm_lower, ↓reduceIte, Bool.false_eq_true]; done) | (simp only [rm_lower, ↓reduceIte, Bool.false_eq_true]; with_reducible rfl))
      · exact absurd (show (10 : Int32) ≤ nI 10 from nI_le (a := 10) (b := 10) (Nat.le_refl _) (by decide)) c_5
    | succ r ih2 =>
      intro i hi2 τ2 ht2 H locs hw ls hl
      have hlt2 : i < 10 := by omega
      refine lv_iload_n hx hb dX0_lowerWayCosts_2 rfl (lv_at hl 1 rfl) ?_
      refine lv_bipush (v := 10) hx hb dX0_lowerWayCosts_3 (by decide) ?_
      refine lv_icmp_ge (tgt := 64) hx hb dX0_lowerWayCosts_5 (by decide) (fun c_5 => ?_) (fun c_5 => ?_)
      · exact absurd c_5 (nI_ge (a := i) (b := 10) hlt2 (by decide))
      · skip
        refine lv_iconst (v := 0) hx hb dX0_lowerWayCosts_8 (by decide) ?_
        refine lv_istore_n (lv' := [(2, .int 0), (0, .ref (a 0)), (1, .int (nI i))]) hx hb dX0_lowerWayCosts_9 rfl hl (by decide) rfl (fun ls hl => ?_)
        have lp_10 : ∀ (r j : Nat), j + r = 10 → ∀ (τ10 : rm_St), rm_lowJ i r j τ10 = rm_lowJ i 10 0 τ2 → ∀ (H : Heap) (locs : List Loc), rm_Wd k a (rm_A a s.heap.size) s.heap s τ10 H locs → ∀ (ls : Array Slot), lv_has ls 4 [(0, .ref (a 0)), (1, .int (nI i)), (2, .int (nI j))] → W p l e (headSpec wsX0_lowerWayCosts ({ frames := 1, cells := 0, slots := 0, locals := 30 })).room s m args below meth c H locs 0 0 (MQ below (va_Qv (fun (τ : rm_St) => τ = (rm_lower σ)) (fun τ t => rm_P k a τ t) (rm_A a s.heap.size)) args s 0 0 (rm_A a s.heap.size)) (F0 m 10 ls []) := by
          intro r
          induction r with
          | zero =>
            intro j hi10 τ10 ht10 H locs hw ls hl
            obtain rfl : 10 = j := by omega
            have hz10 : τ10 = rm_lowJ i 10 0 τ2 := ht10
            refine lv_iload_n hx hb dX0_lowerWayCosts_10 rfl (lv_at hl 2 rfl) ?_
            refine lv_bipush (v := 10) hx hb dX0_lowerWayCosts_11 (by decide) ?_
            refine lv_icmp_ge (tgt := 58) hx hb dX0_lowerWayCosts_13 (by decide) (fun c_13 => ?_) (fun c_13 => ?_)
            · skip
              refine lv_iinc (v := nI (i + 1)) (lv' := [(1, .int (nI (i + 1))), (0, .ref (a 0)), (2, .int (nI 10))]) hx hb dX0_lowerWayCosts_58 hl (k := 1) rfl (rm_inc i) (by decide) rfl (fun ls hl => ?_)
              refine lv_goto (tgt := 2) hx hb dX0_lowerWayCosts_61 (by decide) ?_
              exact ih2 (i + 1) (by omega) (τ10) (by refine Eq.trans ?_ ht2; first | with_reducible rfl | (simp only [rm_lowL, ↓reduceIte, Bool.false_eq_true]; done) | (simp only [rm_lowL, ↓reduceIte, Bool.false_eq_true]; rw [← hz10]) | (simp only [rm_lowL, ↓reduceIte, Bool.false_eq_true]; with_reducible rfl)) _ _ hw _ (lv_sub hl [1, 0] rfl)
            · exact absurd (show (10 : Int32) ≤ nI 10 from nI_le (a := 10) (b := 10) (Nat.le_refl _) (by decide)) c_13
          | succ r ih10 =>
            intro j hi10 τ10 ht10 H locs hw ls hl
            have hlt10 : j < 10 := by omega
            refine lv_iload_n hx hb dX0_lowerWayCosts_10 rfl (lv_at hl 2 rfl) ?_
            refine lv_bipush (v := 10) hx hb dX0_lowerWayCosts_11 (by decide) ?_
            refine lv_icmp_ge (tgt := 58) hx hb dX0_lowerWayCosts_13 (by decide) (fun c_13 => ?_) (fun c_13 => ?_)
            · exact absurd c_13 (nI_ge (a := j) (b := 10) hlt10 (by decide))
            · skip
              refine lv_aload_n hx hb dX0_lowerWayCosts_16 rfl (lv_at hl 0 rfl) ?_
              refine rm_geta C hw 6 1 (by decide) rfl (hts _ (by decide +kernel)) rfl dX0_lowerWayCosts_17 ?_
              refine lv_iload_n hx hb dX0_lowerWayCosts_20 rfl (lv_at hl 1 rfl) ?_
              refine rm_aald C hw 15 (by decide) hlt2 dX0_lowerWayCosts_21 ?_
              refine lv_iload_n hx hb dX0_lowerWayCosts_22 rfl (lv_at hl 2 rfl) ?_
              refine rm_iald C hw ⟨by omega, by omega⟩ hlt10 dX0_lowerWayCosts_23 ?_
              refine lv_istore_n (lv' := [(3, .int (τ10 (15 + i) j)), (0, .ref (a 0)), (1, .int (nI i)), (2, .int (nI j))]) hx hb dX0_lowerWayCosts_24 rfl hl (by decide) rfl (fun ls hl => ?_)
              refine lv_iload_n hx hb dX0_lowerWayCosts_25 rfl (lv_at hl 0 rfl) ?_
              refine lv_if_le (tgt := 52) hx hb dX0_lowerWayCosts_26 (by decide) (fun c_26 => ?_) (fun c_26 => ?_)
              · skip
                refine lv_iinc (v := nI (j + 1)) (lv' := [(2, .int (nI (j + 1))), (3, .int (τ10 (15 + i) j)), (0, .ref (a 0)), (1, .int (nI i))]) hx hb dX0_lowerWayCosts_52 hl (k := 3) rfl (rm_inc j) (by decide) rfl (fun ls hl => ?_)
                refine lv_goto (tgt := 10) hx hb dX0_lowerWayCosts_55 (by decide) ?_
                exact ih10 (j + 1) (by omega) (τ10) (by refine Eq.trans ?_ ht10; first | with_reducible rfl | (simp only [rm_lowJ, if_pos c_26, ↓reduceIte, Bool.false_eq_true]; done) | (simp only [rm_lowJ, if_pos c_26, ↓reduceIte, Bool.false_eq_true]; with_reducible rfl)) _ _ hw _ (lv_sub hl [2, 3, 0] rfl)
              · skip
                refine lv_aload_n hx hb dX0_lowerWayCosts_29 rfl (lv_at hl 1 rfl) ?_
                refine rm_geta C hw 19 14 (by decide) rfl (hts _ (by decide +kernel)) rfl dX0_lowerWayCosts_30 ?_
                refine lv_iload_n hx hb dX0_lowerWayCosts_33 rfl (lv_at hl 2 rfl) ?_
                refine lv_aload_n hx hb dX0_lowerWayCosts_34 rfl (lv_at hl 1 rfl) ?_
                refine rm_geta C hw 19 14 (by decide) rfl (hts _ (by decide +kernel)) rfl dX0_lowerWayCosts_35 ?_
                refine lv_iload_n hx hb dX0_lowerWayCosts_38 rfl (lv_at hl 2 rfl) ?_
                refine rm_iald C hw (by decide) hlt2 dX0_lowerWayCosts_39 ?_
                refine lv_aload_n hx hb dX0_lowerWayCosts_40 rfl (lv_at hl 1 rfl) ?_
                refine rm_geta C hw 19 14 (by decide) rfl (hts _ (by decide +kernel)) rfl dX0_lowerWayCosts_41 ?_
                refine lv_iload_n hx hb dX0_lowerWayCosts_44 rfl (lv_at hl 3 rfl) ?_
                refine rm_iald C hw (by decide) hlt10 dX0_lowerWayCosts_45 ?_
                refine lv_iload_n hx hb dX0_lowerWayCosts_46 rfl (lv_at hl 0 rfl) ?_
                refine lv_iadd hx hb dX0_lowerWayCosts_47 ?_
                refine va_mmin hx hb (C.1.2.2.1.trans hl.1.symm) C.1.2.2.2.1 (hts (.methodLink RX0 141 Lib.Math.min.name) (by decide +kernel)) (hts (.static Lib.Math.min.name) (by decide +kernel)) (hts (.initialized "java/lang/Math") (by decide +kernel)) (hts (.code Lib.Math.min.name Lib.Math.min.code 2 (some .int)) (by decide +kernel)) (Nat.le_of_ble_eq_true rfl) (Nat.le_of_ble_eq_true rfl) (Nat.le_of_ble_eq_true rfl) (Nat.le_of_ble_eq_true rfl) dX0_lowerWayCosts_48 ?_
                refine rm_iast C hw (by decide) hlt2 dX0_lowerWayCosts_51 (fun H locs hw => ?_)
                refine lv_iinc (v := nI (j + 1)) (lv' := [(2, .int (nI (j + 1))), (3, .int (τ10 (15 + i) j)), (0, .ref (a 0)), (1, .int (nI i))]) hx hb dX0_lowerWayCosts_52 hl (k := 3) rfl (rm_inc j) (by decide) rfl (fun ls hl => ?_)
                refine lv_goto (tgt := 10) hx hb dX0_lowerWayCosts_55 (by decide) ?_
                exact ih10 (j + 1) (by omega) (rm_up τ10 14 i (rm_mn (τ10 14 i) ((τ10 14 j) + (τ10 (15 + i) j)))) (by refine Eq.trans ?_ ht10; first | with_reducible rfl | (simp only [rm_lowJ, if_neg c_26, ↓reduceIte, Bool.false_eq_true]; done) | (simp only [rm_lowJ, if_neg c_26, ↓reduceIte, Bool.false_eq_true]; with_reducible rfl)) _ _ hw _ (lv_sub hl [2, 3, 0] rfl)
        exact lp_10 10 0 (by omega) (τ2) (by first | with_reducible rfl | (unfold rm_lower; with_reducible rfl) | (simp only [rm_lower, ↓reduceIte, Bool.false_eq_true]; done) | (simp only [rm_lower, ↓reduceIte, Bool.false_eq_true]; with_reducible rfl)) _ _ hw _ (lv_sub hl [1, 2, 0] rfl)
  exact lp_2 10 0 (by omega) (σ) (by first | with_reducible rfl | (unfold rm_lower; with_reducible rfl) | (simp only [rm_lower, ↓reduceIte, Bool.false_eq_true]; done) | (simp only [rm_lower, ↓reduceIte, Bool.false_eq_true]; with_reducible rfl)) _ _ hw _ (lv_sub hl [1, 0] rfl)
end
section
/-! what a call of the mesh needs to throw, and the contracts of methods that may throw -/
def rm_str (U : State) : Prop :=
  (∃ q, vk_R RX0 94 "a node is not linked to itself" q U) ∧ (∃ q, vk_R RX0 104 "the node is a root" q U) ∧ (∃ q, vk_R RX0 128 "the node is not below itself" q U) ∧ (∃ q, vk_R RX0 130 "the node is not below the other one" q U) ∧
  (∃ q, vk_R RX0 134 "no such node" q U) ∧ (∃ q, vk_R RX0 137 "the node is no root" q U) ∧ (∃ q, vk_R RX0 139 "an argument is out of range" q U)
theorem rm_str.warm {s U : State} (hW : s.WarmedH U.vm) (h : rm_str s) : rm_str U := by
  obtain ⟨⟨q1, h1⟩, ⟨q2, h2⟩, ⟨q3, h3⟩, ⟨q4, h4⟩, ⟨q5, h5⟩, ⟨q6, h6⟩, ⟨q7, h7⟩⟩ := h
  exact ⟨⟨q1, h1.warm hW⟩, ⟨q2, h2.warm hW⟩, ⟨q3, h3.warm hW⟩, ⟨q4, h4.warm hW⟩, ⟨q5, h5.warm hW⟩, ⟨q6, h6.warm hW⟩, ⟨q7, h7.warm hW⟩⟩
theorem rm_str.same {u U : State} (hv : U.vm = u.vm) (h : rm_str u) : rm_str U := by
  obtain ⟨⟨q1, h1⟩, ⟨q2, h2⟩, ⟨q3, h3⟩, ⟨q4, h4⟩, ⟨q5, h5⟩, ⟨q6, h6⟩, ⟨q7, h7⟩⟩ := h
  exact ⟨⟨q1, h1.same hv⟩, ⟨q2, h2.same hv⟩, ⟨q3, h3.same hv⟩, ⟨q4, h4.same hv⟩, ⟨q5, h5.same hv⟩, ⟨q6, h6.same hv⟩, ⟨q7, h7.same hv⟩⟩
def rm_IO : String := "java/lang/IndexOutOfBoundsException"
/-- what the tables say of the exceptions' classes beside the good words -/
def rm_nw (U : State) : Prop := va_Nw (.declares (Bundle.initS "java/lang/RuntimeException")) U ∧ va_Nw (.declares (Bundle.initS "java/lang/Exception")) U ∧ va_Nw (.declares (Bundle.initS "java/lang/Throwable")) U ∧
  va_Nw (.castable "java/lang/IndexOutOfBoundsException" "java/lang/IndexOutOfBoundsException") U ∧ va_Nw (.castable "java/lang/IllegalArgumentException" "java/lang/IllegalArgumentException") U ∧ va_Nw (.castable "java/lang/IllegalStateException" "java/lang/IllegalStateException") U
theorem rm_nw.warm {s U : State} (hW : s.WarmedH U.vm) (h : rm_nw s) : rm_nw U :=
  ⟨h.1.warmD hW, h.2.1.warmD hW, h.2.2.1.warmD hW, h.2.2.2.1.warmC hW, h.2.2.2.2.1.warmC hW, h.2.2.2.2.2.warmC hW⟩
theorem rm_nw.same {u U : State} (hv : u.vm = U.vm) (h : rm_nw u) : rm_nw U :=
  ⟨h.1.same rfl hv, h.2.1.same rfl hv, h.2.2.1.same rfl hv, h.2.2.2.1.same rfl hv, h.2.2.2.2.1.same rfl hv, h.2.2.2.2.2.same rfl hv⟩
def rm_Th (A : Nat → Prop) (U : State) : Prop := vx_Zq Bundle.tN "UNASSIGNED_STACK" Bundle.steD A U U.heap ∧ vx_Zq Bundle.tN "SUPPRESSED_SENTINEL" Bundle.listD A U U.heap ∧ rm_str U ∧ rm_nw U
theorem rm_Th.blind {A : Nat → Prop} {U : State} (g : JFrame) (mk : MethodId) (a : Array Value) (h : rm_Th A U) : rm_Th A (U.calling g mk a) :=
  ⟨vx_Zq.moved (u := U) (U := U.calling g mk a) (Vm.Alike.refl U.vm) h.1, vx_Zq.moved (u := U) (U := U.calling g mk a) (Vm.Alike.refl U.vm) h.2.1, rm_str.same (u := U) rfl h.2.2.1, rm_nw.same (u := U) rfl h.2.2.2⟩
theorem rm_Th.call {A A1 : Nat → Prop} {s U : State} {H : Heap} {locs : List Loc} (h : rm_Th A s) (hS : va_S A s.heap H locs) (hU : U.heap = H) (hW : s.WarmedH U.vm) (hA : ∀ q, A1 q → A q) : rm_Th A1 U := by
  refine ⟨?_, ?_, h.2.2.1.warm hW, h.2.2.2.warm hW⟩
  · rw [hU]
    exact vx_Zq.narrow (vx_Zq.moved hW.alike (h.1.kept hS.2.1)) hA
  · rw [hU]
    exact vx_Zq.narrow (vx_Zq.moved hW.alike (h.2.1.kept hS.2.1)) hA
def rm_XC (k : rm_K) (a : Nat → Nat) (σ : rm_St) (thr : Option String) (A : Nat → Prop) : String → State → State → Prop := vx_X (fun τ : rm_St => τ = σ) (fun E τ t => thr = some E ∧ rm_P k a τ t) A
def rm_XV (l : Launch) (k : rm_K) (a : Nat → Nat) (y : MethodName) (ws : List Cond) (rmm : Room) (As : List Value) (σ : rm_St) (thr : Option String) (σ0 : rm_St) : Prop :=
  ∀ sz : Nat, vx_Met l y ws rmm (va_Pc (.ref (a 0) :: As) (fun U => U.heap.size = sz ∧ rm_P k a σ U ∧ rm_Th (rm_A a sz) U)) (va_Qv (fun (τ : rm_St) => thr = none ∧ τ = σ0) (fun τ t => rm_P k a τ t) (rm_A a sz)) (rm_XC k a σ thr (rm_A a sz)) rmm.cells rmm.slots (rm_A a sz)
def rm_XI (l : Launch) (k : rm_K) (a : Nat → Nat) (y : MethodName) (ws : List Cond) (rmm : Room) (As : List Value) (σ : rm_St) (thr : Option String) (r0 : Int32) (σ0 : rm_St) : Prop :=
  ∀ sz : Nat, vx_Met l y ws rmm (va_Pc (.ref (a 0) :: As) (fun U => U.heap.size = sz ∧ rm_P k a σ U ∧ rm_Th (rm_A a sz) U)) (va_Qi (fun (r : Int32) (τ : rm_St) => thr = none ∧ r = r0 ∧ τ = σ0) (fun τ t => rm_P k a τ t) (rm_A a sz)) (rm_XC k a σ thr (rm_A a sz)) rmm.cells rmm.slots (rm_A a sz)
def rm_XS (l : Launch) (y : MethodName) (ws : List Cond) (rmm : Room) (As : List Value) (thr : Option String) : Prop :=
  vx_Met l y ws rmm (va_Pc As (fun U => rm_Th (fun _ => False) U)) (va_Qv (fun _ : Unit => thr = none) (fun _ _ => True) (fun _ => False)) (vx_X (fun _ : Unit => True) (fun E _ _ => thr = some E) (fun _ => False)) rmm.cells rmm.slots (fun _ => False)
section RXE
variable {l : Launch} {k : rm_K} {a : Nat → Nat} {y : MethodName} {ws ws' : List Cond} {rmm : Room} {As : List Value} {σ σ0 σ' : rm_St} {r0 : Int32} {cc : ByteArray} {nL : Nat} {ret : Option FieldType} {thr : Option String}
theorem rm_enterXI (ha : rm_inj a) (hy : plainName y.cls = true) (hcls : y.cls = RX0) (hw : ws = Cond.code y cc nL ret :: ws') (hin : ∀ w ∈ u_ws RX0 TX0 20, w ∈ ws) (hn : (lg_sl (.ref (a 0) :: As)).length ≤ nL)
    (body : ∀ (p : Program) (e : Env) (s : State) (m : MethodId) (args : Array Value) (below : List Frame) (meth : Method) (c : Code) (ls : Array Slot), rm_C p m c cc nL s args ws → meth.sig.returnType = ret → meth.locks = false → (∀ x ∈ c.exceptionTable.toList, False) → rm_Th (rm_A a s.heap.size) s → rm_Wd k a (rm_A a s.heap.size) s.heap s σ s.heap [] → lv_has ls nL (lv_args 0 (.ref (a 0) :: As)) →
      W p l e (headSpec ws rmm).room s m args below meth c s.heap [] 0 0 (vx_MQ below (va_Qi (fun (r : Int32) (τ : rm_St) => thr = none ∧ r = r0 ∧ τ = σ0) (fun τ t => rm_P k a τ t) (rm_A a s.heap.size)) (rm_XC k a σ thr (rm_A a s.heap.size)) args s rmm.cells rmm.slots (rm_A a s.heap.size)) (F0 m 0 ls [])) : rm_XI l k a y ws rmm As σ thr r0 σ0 := by
  intro sz
  refine vx_ofW (cc := cc) (maxL := nL) (ret := ret) hy hw ?_
  intro p e s m args below meth c s₁ B hml htab hv
  obtain ⟨rfl, hsz, hP, hT⟩ := hv
  have hown : s.vm.findClass RX0 = some m.cls := hcls ▸ findClass_of_methodNamed B.named
  subst hsz
  have hl := lv_entry (.ref (a 0) :: As) (n := nL) hn
  rw [lg_entry_eq]
  exact body p e s m _ below meth c _ ⟨⟨B.exec, B.bytes, hml, hown, atoms_spec (ws := ws) B.pre⟩, hin⟩ B.returns B.notSynchronized htab hT (rm_start ha hP) hl
theorem rm_enterXV (ha : rm_inj a) (hy : plainName y.cls = true) (hcls : y.cls = RX0) (hw : ws = Cond.code y cc nL ret :: ws') (hin : ∀ w ∈ u_ws RX0 TX0 20, w ∈ ws) (hn : (lg_sl (.ref (a 0) :: As)).length ≤ nL)
    (body : ∀ (p : Program) (e : Env) (s : State) (m : MethodId) (args : Array Value) (below : List Frame) (meth : Method) (c : Code) (ls : Array Slot), rm_C p m c cc nL s args ws → meth.sig.returnType = ret → meth.locks = false → (∀ x ∈ c.exceptionTable.toList, False) → rm_Th (rm_A a s.heap.size) s → rm_Wd k a (rm_A a s.heap.size) s.heap s σ s.heap [] → lv_has ls nL (lv_args 0 (.ref (a 0) :: As)) →
      W p l e (headSpec ws rmm).room s m args below meth c s.heap [] 0 0 (vx_MQ below (va_Qv (fun (τ : rm_St) => thr = none ∧ τ = σ0) (fun τ t => rm_P k a τ t) (rm_A a s.heap.size)) (rm_XC k a σ thr (rm_A a s.heap.size)) args s rmm.cells rmm.slots (rm_A a s.heap.size)) (F0 m 0 ls [])) : rm_XV l k a y ws rmm As σ thr σ0 := by
  intro sz
  refine vx_ofW (cc := cc) (maxL := nL) (ret := ret) hy hw ?_
  intro p e s m args below meth c s₁ B hml htab hv
  obtain ⟨rfl, hsz, hP, hT⟩ := hv
  have hown : s.vm.findClass RX0 = some m.cls := hcls ▸ findClass_of_methodNamed B.named
  subst hsz
  have hl := lv_entry (.ref (a 0) :: As) (n := nL) hn
  rw [lg_entry_eq]
  exact body p e s m _ below meth c _ ⟨⟨B.exec, B.bytes, hml, hown, atoms_spec (ws := ws) B.pre⟩, hin⟩ B.returns B.notSynchronized htab hT (rm_start ha hP) hl
end RXE
section RXQ
variable {p : Program} {l : Launch} {e : Env} {R : Room} {s : State} {m : MethodId} {args : Array Value} {below : List Frame} {meth : Method} {c : Code} {H : Heap} {locs : List Loc} {cells slots mc ms : Nat} {Q : State → Prop}
variable {cc : ByteArray} {pc nL : Nat} {ls : Array Slot} {rest : List Value} {Ts : List Cond} {k : rm_K} {a : Nat → Nat} {A : Nat → Prop} {H0 : Heap} {σ σ0 : rm_St} {r0 v : Int32} {thr thr1 : Option String} {Qc : Array Value → State → Outcome → State → Prop}
theorem rm_endA {t : State} (hw : rm_Wd k a (rm_A a s.heap.size) s.heap s σ H locs) (ht : t.heap = H) (hvm : s.vm.Alike t.vm) : rm_P k a σ t ∧ va_F (rm_A a s.heap.size) s t :=
  ⟨⟨by rw [ht]; exact hw.2.1, va_K.moved hvm hw.1⟩, hw.2.2.2.F ht⟩
theorem rm_xret (C : rm_C p m c cc nL s args Ts) (hr : meth.sig.returnType = some .int) (hlocks : meth.locks = false) (hw : rm_Wd k a (rm_A a s.heap.size) s.heap s σ H locs) (hc : cells ≤ mc) (hs : slots ≤ ms) (hdg : decode cc pc = .ok (.ireturn, 1)) (h : thr = none ∧ v = r0 ∧ σ = σ0) {XC : String → State → State → Prop} :
    W p l e R s m args below meth c H locs cells slots (vx_MQ below (va_Qi (fun (r : Int32) (τ : rm_St) => thr = none ∧ r = r0 ∧ τ = σ0) (fun τ t => rm_P k a τ t) (rm_A a s.heap.size)) XC args s mc ms (rm_A a s.heap.size)) (F0 m pc ls [.int v]) :=
  W.widen (k := mc) (n := ms) hc hs (vx_ret (W.iret (v := v) C.1.1 C.1.2.1 hr (fun t ht hW => ⟨⟨v, σ, rfl, h, (rm_end hw ht hW).1⟩, (rm_end hw ht hW).2⟩) hw.2.2.2.2.2 hdg hlocks))
theorem rm_xvret (C : rm_C p m c cc nL s args Ts) (hr : meth.sig.returnType = none) (hlocks : meth.locks = false) (hw : rm_Wd k a (rm_A a s.heap.size) s.heap s σ H locs) (hc : cells ≤ mc) (hs : slots ≤ ms) (hdg : decode cc pc = .ok (.return_, 1)) (h : thr = none ∧ σ = σ0) {XC : String → State → State → Prop} :
    W p l e R s m args below meth c H locs cells slots (vx_MQ below (va_Qv (fun (τ : rm_St) => thr = none ∧ τ = σ0) (fun τ t => rm_P k a τ t) (rm_A a s.heap.size)) XC args s mc ms (rm_A a s.heap.size)) (F0 m pc ls []) :=
  W.widen (k := mc) (n := ms) hc hs (vx_ret (W.vret C.1.1 C.1.2.1 hr (fun t ht hW => ⟨⟨σ, rfl, h, (rm_end hw ht hW).1⟩, (rm_end hw ht hW).2⟩) hw.2.2.2.2.2 hdg hlocks))
theorem rm_covers (ht : ∀ x ∈ c.exceptionTable.toList, False) (pc : Nat) : ∀ x ∈ c.exceptionTable.toList, covers x pc = false := fun x h => (ht x h).elim
/-- an exception goes on to the caller -/
theorem rm_goes (hlocks : meth.locks = false) (ht : ∀ x ∈ c.exceptionTable.toList, False) (hw : rm_Wd k a (rm_A a s.heap.size) s.heap s σ H locs) {E : String} {ce : Cell} {q9 : Addr} (hce : H[q9]? = some ce) (hcv : ce.vm = .none) (hcl : s.vm.findClass E = some ce.cls) (hthr : thr = some E) (hc : cells ≤ mc) (hs : slots ≤ ms) :
    vx_W p l e R s m args below meth c H locs cells slots (vx_MQ below Qc (rm_XC k a σ thr (rm_A a s.heap.size)) args s mc ms (rm_A a s.heap.size)) (F0 m pc ls rest) q9 :=
  vx_out (rm_covers ht pc) hlocks hce hcv hcl (fun t ht hvm => ⟨σ, rfl, ⟨hthr, (rm_endA hw ht hvm).1⟩, (rm_endA hw ht hvm).2⟩) hw.2.2.2.2.2 hc hs
variable {y : MethodName} {bytes : ByteArray} {maxL index n : Nat} {ret : Option FieldType} {ws : List Cond} {rmm : Room} {As st0 : List Value}
theorem rm_callXS (C : rm_C p m c cc nL s args Ts) (hlocks : meth.locks = false) (htab : ∀ x ∈ c.exceptionTable.toList, False) (hTh : rm_Th (rm_A a s.heap.size) s) (hw : rm_Wd k a (rm_A a s.heap.size) s.heap s σ H locs) (hM : rm_XS l y ws rmm As thr1) (cw : CallB R s args RX0 index y bytes maxL ret ws rmm rmm.cells rmm.slots n ∧ (Cond.static y).before args s = true) (hn : As.length = n) (hsize : ls.size = nL) (hstack : st0 = As.reverse ++ rest)
    (hW : 2 * (F0 m pc ls st0).monitorRoom + (rest.map fun v => v.category).sum ≤ 8) (hdg : decode cc pc = .ok (.invokestatic index, 3)) (hf : cells + rmm.cells ≤ R.cells ∧ slots + rmm.slots ≤ R.slots) (hc : cells + rmm.cells ≤ mc) (hs : slots + rmm.slots ≤ ms)
    (kx : ∀ E : String, thr1 = some E → thr = some E)
    (kk : thr1 = none → ∀ (H1 : Heap) (locs1 : List Loc), rm_Wd k a (rm_A a s.heap.size) s.heap s σ H1 locs1 → W p l e R s m args below meth c H1 locs1 (cells + rmm.cells) (slots + rmm.slots) (vx_MQ below Qc (rm_XC k a σ thr (rm_A a s.heap.size)) args s mc ms (rm_A a s.heap.size)) (F0 m (pc + 3) ls rest)) :
    W p l e R s m args below meth c H locs cells slots (vx_MQ below Qc (rm_XC k a σ thr (rm_A a s.heap.size)) args s mc ms (rm_A a s.heap.size)) (F0 m pc ls st0) := by
  refine vx_callv (vx_runS (As := As) (rest := rest) C.1 hM cw ⟨fun x U g mk q => ⟨q.1, q.2.blind g mk x⟩, fun U hU hW => ⟨rfl, hTh.call hw.2.2.2 hU hW (fun _ h => h.elim)⟩⟩ rfl hn hsize hstack hW hdg hf) hw.2.2.2 (fun q _ h => h.elim) (fun q h => h.elim) (fun q _ h => h.elim) ?_ ?_
  · intro E ce q9 u t H1 locs1 ht hvm hp hB hz hk hS hce hcv hcl
    exact rm_goes hlocks htab ⟨hw.1, rm_kept hw.2.1 (fun q hq => hk q hq id), hw.2.2.1, hS⟩ hce hcv hcl (kx E hB) hc hs
  · intro u t H1 locs1 ht hvm hp hB hz hk hS
    exact kk hp H1 locs1 ⟨hw.1, rm_kept hw.2.1 (fun q hq => hk q hq id), hw.2.2.1, hS⟩
/-- what a call of an instance method that may throw needs -/
theorem rm_preX (hTh : rm_Th (rm_A a s.heap.size) s) (hw : rm_Wd k a (rm_A a s.heap.size) s.heap s σ H locs) (av : List Value) : PreV s H RX0 (a 0) (va_Pc (.ref (a 0) :: av) (fun U => U.heap.size = H.size ∧ rm_P k a σ U ∧ rm_Th (rm_A a H.size) U)) av :=
  ⟨fun x U g mk q => by obtain ⟨q0, q1, ⟨q2, q3⟩, q4⟩ := q; exact ⟨q0, q1, ⟨q2, va_K.moved (u := U) (U := U.calling g mk x) (Vm.Alike.refl U.vm) q3⟩, q4.blind g mk x⟩,
    va_recv hw.1 hw.2.1 (ci := 0) (q0 := 0) (show vwCl[0]? = some (RX0, TX0, 20) from rfl) (rm_get (q := 0) (by decide)), fun U hU hW => ⟨rfl, by rw [hU], ⟨by rw [hU]; exact hw.2.1, va_K.moved hW.alike hw.1⟩, hTh.call hw.2.2.2 hU hW (rm_sub hw (fun q h => Or.inr h))⟩⟩
theorem rm_callXV (C : rm_C p m c cc nL s args Ts) (hlocks : meth.locks = false) (htab : ∀ x ∈ c.exceptionTable.toList, False) (hTh : rm_Th (rm_A a s.heap.size) s) (hw : rm_Wd k a (rm_A a s.heap.size) s.heap s σ H locs) (hM : rm_XV l k a y ws rmm As σ thr1 σ) (cw : CallW R s args RX0 RX0 index y bytes maxL ret ws rmm rmm.cells rmm.slots n) (hn : As.length = n) (hsize : ls.size = nL) (hstack : st0 = As.reverse ++ .ref (a 0) :: rest)
    (hW : 2 * (F0 m pc ls st0).monitorRoom + (rest.map fun v => v.category).sum ≤ 8) (hdg : decode cc pc = .ok (.invokevirtual index, 3)) (hf : cells + rmm.cells ≤ R.cells ∧ slots + rmm.slots ≤ R.slots) (hc : cells + rmm.cells ≤ mc) (hs : slots + rmm.slots ≤ ms)
    (kx : ∀ E : String, thr1 = some E → thr = some E)
    (kk : thr1 = none → ∀ (H1 : Heap) (locs1 : List Loc), rm_Wd k a (rm_A a s.heap.size) s.heap s σ H1 locs1 → W p l e R s m args below meth c H1 locs1 (cells + rmm.cells) (slots + rmm.slots) (vx_MQ below Qc (rm_XC k a σ thr (rm_A a s.heap.size)) args s mc ms (rm_A a s.heap.size)) (F0 m (pc + 3) ls rest)) :
    W p l e R s m args below meth c H locs cells slots (vx_MQ below Qc (rm_XC k a σ thr (rm_A a s.heap.size)) args s mc ms (rm_A a s.heap.size)) (F0 m pc ls st0) := by
  have hsub : ∀ q, rm_A a H.size q → rm_A a s.heap.size q := rm_sub hw (fun q h => Or.inr h)
  refine vx_callv (vx_runV (As := As) (rest := rest) C.1 (hM H.size) cw (rm_preX hTh hw As) rfl hn hsize hstack hW hdg hf) hw.2.2.2 (fun q _ h => hsub q h) hsub (fun q _ h => hsub q h) ?_ ?_
  · intro E ce q9 u t H1 locs1 ht hvm hp hB hz hk hS hce hcv hcl
    obtain rfl := hp
    exact rm_goes hlocks htab (rm_post hw ht hvm hB.2 hS) hce hcv hcl (kx E hB.1) hc hs
  · intro u t H1 locs1 ht hvm hp hB hz hk hS
    obtain ⟨h1, rfl⟩ := hp
    exact kk h1 H1 locs1 (rm_post hw ht hvm hB hS)
abbrev rm_RE : List String := ["java/lang/RuntimeException", "java/lang/Exception"]
theorem rm_throwS (C : rm_C p m c cc nL s args Ts) (hl : l.stackTraces = false) (hlocks : meth.locks = false) (htab : ∀ x ∈ c.exceptionTable.toList, False) (hTh : rm_Th (rm_A a s.heap.size) s) (hw : rm_Wd k a (rm_A a s.heap.size) s.heap s σ H locs) {cls text : String} {ik is ic : Nat}
    (hcls : Bundle.fit cls = true) (hk : Cond.classLink RX0 ik cls ∈ Ts) (hini : Cond.initialized cls ∈ Ts) (hstr : ∃ q, vk_R RX0 is text q s) (hat : ∀ w ∈ (vx_atS RX0 ic cls rm_RE).filter goodWord, w ∈ Ts) (hat2 : ∀ w ∈ (vx_atS RX0 ic cls rm_RE).filter (fun w => !goodWord w), w ∈ ([.declares (Bundle.initS "java/lang/RuntimeException"), .declares (Bundle.initS "java/lang/Exception"), .declares (Bundle.initS "java/lang/Throwable"), .castable cls cls] : List Cond)) (hcc : va_Nw (.castable cls cls) s)
    (hgood : (Cond.classLink RX0 ik cls :: Cond.initialized cls :: vx_atS RX0 ic cls rm_RE).all vx_ot = true) (hsize : ls.size = nL)
    (d0 : decode cc pc = .ok (.new ik, 3)) (d3 : decode cc (pc + 3) = .ok (.dup, 1)) (d4 : decode cc (pc + 4) = .ok (.ldc is, 2)) (d6 : decode cc (pc + 6) = .ok (.invokespecial ic, 3)) (d9 : decode cc (pc + 9) = .ok (.athrow, 1))
    (hRf : 6 ≤ R.frames) (hRl : (rest.map fun v => v.category).sum + 82 ≤ R.locals) (hRc : cells + 1 ≤ R.cells) (hRs : slots + 6 ≤ R.slots) (hc : cells + 1 ≤ mc) (hs : slots + 6 ≤ ms) (hthr : thr = some cls) :
    W p l e R s m args below meth c H locs cells slots (vx_MQ below Qc (rm_XC k a σ thr (rm_A a s.heap.size)) args s mc ms (rm_A a s.heap.size)) (F0 m pc ls rest) := by
  obtain ⟨sa, hsa⟩ := hstr
  have hts := C.1.2.2.2.2
  refine vx_throwS (names := rm_RE) (sa := sa) (text := text) C.1.1 C.1.2.1 hl C.1.2.2.2.1 hcls (by decide +kernel) (hts _ hk) (hts _ hini) hsa (vx_hat (fun w h => hts w (hat w h)) hat2 (vx_c (hTh.2.2.2.1.use rfl) (vx_c (hTh.2.2.2.2.1.use rfl) (vx_c (hTh.2.2.2.2.2.1.use rfl) (vx_c (hcc.use rfl) vx_n))))) (List.all_eq_true.mp hgood) hTh.1 hTh.2.1 hw.2.2.2 (hsize.trans C.1.2.2.1.symm) d0 d3 d4 d6 d9 (rm_covers htab _) hRf hRl hRc hRs hlocks ?_ hw.2.2.2.2.2 hc hs
  intro t hvm hz hk9
  have hw2 : va_P k.1 vwCl (rm_W k a σ) t.heap := rm_kept hw.2.1 hk9
  refine ⟨σ, rfl, ⟨hthr, hw2, va_K.moved hvm hw.1⟩, ?_⟩
  exact ⟨Nat.le_trans hw.2.2.2.1 hz, fun q h1 h2 => (hk9 q (Nat.lt_of_lt_of_le h1 hw.2.2.2.1)).trans (hw.2.2.2.2.1 q h1 h2)⟩
end RXQ
theorem rm_ot1 : (Cond.classLink RX0 132 "java/lang/IndexOutOfBoundsException" :: Cond.initialized "java/lang/IndexOutOfBoundsException" :: vx_atS RX0 136 "java/lang/IndexOutOfBoundsException" rm_RE).all vx_ot = true := by decide +kernel
theorem rm_ot2 : (Cond.classLink RX0 92 "java/lang/IllegalArgumentException" :: Cond.initialized "java/lang/IllegalArgumentException" :: vx_atS RX0 96 "java/lang/IllegalArgumentException" rm_RE).all vx_ot = true := by decide +kernel
theorem rm_ot3 : (Cond.classLink RX0 102 "java/lang/IllegalStateException" :: Cond.initialized "java/lang/IllegalStateException" :: vx_atS RX0 106 "java/lang/IllegalStateException" rm_RE).all vx_ot = true := by decide +kernel
theorem rm_nb1 : ∀ w ∈ (vx_atS RX0 136 "java/lang/IndexOutOfBoundsException" rm_RE).filter (fun w => !goodWord w), w ∈ ([.declares (Bundle.initS "java/lang/RuntimeException"), .declares (Bundle.initS "java/lang/Exception"), .declares (Bundle.initS "java/lang/Throwable"), .castable "java/lang/IndexOutOfBoundsException" "java/lang/IndexOutOfBoundsException"] : List Cond) := by decide +kernel
theorem rm_nb2 : ∀ w ∈ (vx_atS RX0 96 "java/lang/IllegalArgumentException" rm_RE).filter (fun w => !goodWord w), w ∈ ([.declares (Bundle.initS "java/lang/RuntimeException"), .declares (Bundle.initS "java/lang/Exception"), .declares (Bundle.initS "java/lang/Throwable"), .castable "java/lang/IllegalArgumentException" "java/lang/IllegalArgumentException"] : List Cond) := by decide +kernel
theorem rm_nb3 : ∀ w ∈ (vx_atS RX0 106 "java/lang/IllegalStateException" rm_RE).filter (fun w => !goodWord w), w ∈ ([.declares (Bundle.initS "java/lang/RuntimeException"), .declares (Bundle.initS "java/lang/Exception"), .declares (Bundle.initS "java/lang/Throwable"), .castable "java/lang/IllegalStateException" "java/lang/IllegalStateException"] : List Cond) := by decide +kernel
end
section
def isIn (v f t : Int32) : Bool := if v < f then false else if t < v then false else true
theorem isIn_of {v : Int32} (h : isIn v 1 100 = true) : ∃ T : Nat, 1 ≤ T ∧ T ≤ 100 ∧ v = nI T := by
  unfold isIn at h
  by_cases h1 : v < 1
  · rw [if_pos h1] at h; cases h
  · rw [if_neg h1] at h
    by_cases h2 : 100 < v
    · rw [if_pos h2] at h; cases h
    · rw [Int32.lt_iff_toInt_lt] at h1 h2
      have e1 : (1 : Int32).toInt = 1 := rfl
      have e2 : (100 : Int32).toInt = 100 := rfl
      have h0 : ¬ v < 0 := by
        rw [Int32.lt_iff_toInt_lt, Int32.toInt_zero]; omega
      obtain ⟨j, hj, e⟩ := nI_of h0
      rw [e, nI_toInt hj] at h1 h2
      exact ⟨j, by omega, by omega, e⟩
/-! the mesh's calls of the face, as functions of its state: what is thrown, what is answered, the state behind -/
def rm_IA : String := "java/lang/IllegalArgumentException"
def rm_IS : String := "java/lang/IllegalStateException"
def rm_or : Option String → Option String → Option String
  | none, b => b
  | some e, _ => some e
theorem rm_or_n (b : Option String) : rm_or none b = b := rfl
theorem rm_or_s (e : String) (b : Option String) : rm_or (some e) b = some e := rfl
def rm_tN (v : Int32) : Option String := if isNd v = true then none else some rm_IO
def rm_tR (v f t : Int32) : Option String := if v < f then some rm_IA else if v ≤ t then none else some rm_IA
theorem rm_tN_none {v : Int32} (h : rm_tN v = none) : ∃ o : Nat, o < 10 ∧ v = nI o := by
  unfold rm_tN at h
  by_cases c : isNd v = true
  · exact isNd_of c
  · rw [if_neg c] at h; cases h
theorem rm_tR_none {v f t : Int32} (h : rm_tR v f t = none) : ¬ v < f ∧ v ≤ t := by
  unfold rm_tR at h
  by_cases c : v < f
  · rw [if_pos c] at h; cases h
  · rw [if_neg c] at h
    by_cases c2 : v ≤ t
    · exact ⟨c, c2⟩
    · rw [if_neg c2] at h; cases h
theorem rm_tT {v : Int32} (h : rm_tR v 1 100 = none) : ∃ T : Nat, 1 ≤ T ∧ T ≤ 100 ∧ v = nI T := by
  obtain ⟨h1, h2⟩ := rm_tR_none h
  refine isIn_of ?_
  unfold isIn
  rw [if_neg h1, if_neg (fun q => by rw [Int32.lt_iff_toInt_lt] at q; rw [Int32.le_iff_toInt_le] at h2; omega)]
def rm_tRoot (σ : rm_St) (v : Int32) : Option String := rm_or (rm_tN v) (if σ 5 v.toNatClampNeg = 0 then some rm_IS else none)
def rm_tSet (x y z w : Int32) : Option String := rm_or (rm_tR x 0 100) (rm_or (rm_tR y 0 10000) (rm_or (rm_tR z 1 8) (rm_tR w 0 6)))
def rm_setS (σ : rm_St) (x y z w : Int32) : rm_St := rm_up (rm_up (rm_up (rm_up σ 0 0 x) 0 1 y) 0 2 z) 0 3 w
def rm_tLink (x y v : Int32) : Option String := rm_or (rm_tN x) (rm_or (rm_tN y) (if x = y then some rm_IA else rm_tR v 0 100))
def rm_lnk (σ : rm_St) (n o : Nat) (v : Int32) : rm_St :=
  if v = 0 then rm_forget (rm_forget (rm_up (rm_up σ (15 + n) o v) (15 + o) n v) n o) o n else rm_up (rm_up σ (15 + n) o v) (15 + o) n v
def rm_linkS (σ : rm_St) (x y v : Int32) : rm_St := rm_choose (rm_choose (rm_lnk σ x.toNatClampNeg y.toNatClampNeg v) x.toNatClampNeg) y.toNatClampNeg
def rm_tMake (σ : rm_St) (v : Int32) : Option String := rm_or (rm_tN v) (if σ 5 v.toNatClampNeg = 0 then none else some rm_IS)
def rm_mk (σ : rm_St) (n : Nat) : rm_St := rm_up (rm_up (rm_up (rm_up (rm_up σ 5 n 1) 7 n (nI n)) 9 n 0) 10 n 0) 11 n (-1)
def rm_passL : Nat → Nat → Int32 → rm_St → rm_St × Int32
  | 0, _, x, σ => (σ, x)
  | r + 1, t, x, σ => rm_passL r (t + 1) (x + (rm_tick σ).2) (rm_tick σ).1
def rm_pass (σ : rm_St) (v : Int32) : rm_St × Int32 := rm_passL v.toNatClampNeg 0 0 σ
def rm_tree (σ : rm_St) (v : Int32) : Int32 := if σ 7 v.toNatClampNeg = -1 then -1 else 10 * σ 8 v.toNatClampNeg + σ 7 v.toNatClampNeg
def rm_t2 (x y : Int32) : Option String := rm_or (rm_tN x) (rm_tN y)
def rm_wayI : Nat → Nat → rm_St → rm_St
  | 0, _, σ => σ
  | r + 1, i, σ => if σ 5 i = 0 then rm_wayI r (i + 1) (rm_up σ 14 i 10000) else rm_wayI r (i + 1) (rm_up σ 14 i 0)
def rm_lwL : Nat → Nat → rm_St → rm_St
  | 0, _, σ => σ
  | r + 1, i, σ => rm_lwL r (i + 1) (rm_lower σ)
def rm_least (σ : rm_St) : rm_St := rm_lwL 9 1 (rm_wayI 10 0 σ)
def rm_blL (σ : rm_St) : Nat → Nat → Int32 → Int32
  | 0, _, x => x
  | r + 1, i, x => rm_blL σ r (i + 1) (x ||| rm_ch σ x)
def rm_below (σ : rm_St) (v : Int32) : Int32 := rm_blL σ 9 1 ((1 : Int32) <<< (v &&& 31))
def rm_drop (σ : rm_St) : rm_St := rm_up σ 0 5 (σ 0 5 + 1)
def rm_upL (σ : rm_St) : Nat → Nat → Nat → Bool → rm_St × Int32
  | 0, _, _, _ => (rm_drop σ, -2)
  | r + 1, i, k, w => if σ 5 k = 0 then (if isNd (σ 11 k) = true then (if σ 9 (σ 11 k).toNatClampNeg < σ 9 k then rm_upL σ r (i + 1) (σ 11 k).toNatClampNeg w else if w = true then (rm_drop σ, -2) else rm_upL σ r (i + 1) (σ 11 k).toNatClampNeg true) else (σ, -1)) else (σ, nI i)
def rm_upS (σ : rm_St) (v : Int32) : rm_St × Int32 := rm_upL σ 21 0 v.toNatClampNeg false
def rm_dnL (σ : rm_St) (f : Int32) : Nat → Nat → Int32 → Option Int32
  | 0, _, _ => none
  | r + 1, i, v => if isNd v = true then (if σ 11 v.toNatClampNeg = f then some v else rm_dnL σ f r (i + 1) (σ 11 v.toNatClampNeg)) else none
def rm_tDown (σ : rm_St) (x y : Int32) : Option String := rm_or (rm_tN x) (rm_or (rm_tN y) (if x = y then some rm_IS else if rm_dnL σ x 10 0 y = none then some rm_IS else none))
section RXS
variable {p : Program} {l : Launch} {e : Env} {R : Room} {s : State} {m : MethodId} {args : Array Value} {below : List Frame} {meth : Method} {c : Code} {H : Heap} {locs : List Loc} {cells slots mc ms : Nat} {Q : State → Prop}
variable {cc : ByteArray} {pc nL : Nat} {ls : Array Slot} {rest : List Value} {Ts : List Cond} {thr thr1 : Option String} {Qc : Array Value → State → Outcome → State → Prop}
abbrev rm_XCS (thr : Option String) : String → State → State → Prop := vx_X (fun _ : Unit => True) (fun E _ _ => thr = some E) (fun _ => False)
theorem rm_throwSS (CF : CallFix p m c cc nL s args Ts RX0) (hl : l.stackTraces = false) (hlocks : meth.locks = false) (htab : ∀ x ∈ c.exceptionTable.toList, False) (hTh : rm_Th (fun _ => False) s) (hS : va_S (fun _ => False) s.heap H locs) {cls text : String} {ik is ic : Nat}
    (hcls : Bundle.fit cls = true) (hk : Cond.classLink RX0 ik cls ∈ Ts) (hini : Cond.initialized cls ∈ Ts) (hstr : ∃ q, vk_R RX0 is text q s) (hat : ∀ w ∈ (vx_atS RX0 ic cls rm_RE).filter goodWord, w ∈ Ts) (hat2 : ∀ w ∈ (vx_atS RX0 ic cls rm_RE).filter (fun w => !goodWord w), w ∈ ([.declares (Bundle.initS "java/lang/RuntimeException"), .declares (Bundle.initS "java/lang/Exception"), .declares (Bundle.initS "java/lang/Throwable"), .castable cls cls] : List Cond)) (hcc : va_Nw (.castable cls cls) s)
    (hgood : (Cond.classLink RX0 ik cls :: Cond.initialized cls :: vx_atS RX0 ic cls rm_RE).all vx_ot = true) (hsize : ls.size = nL)
    (d0 : decode cc pc = .ok (.new ik, 3)) (d3 : decode cc (pc + 3) = .ok (.dup, 1)) (d4 : decode cc (pc + 4) = .ok (.ldc is, 2)) (d6 : decode cc (pc + 6) = .ok (.invokespecial ic, 3)) (d9 : decode cc (pc + 9) = .ok (.athrow, 1))
    (hRf : 6 ≤ R.frames) (hRl : (rest.map fun v => v.category).sum + 82 ≤ R.locals) (hRc : cells + 1 ≤ R.cells) (hRs : slots + 6 ≤ R.slots) (hc : cells + 1 ≤ mc) (hs : slots + 6 ≤ ms) (hthr : thr = some cls) :
    W p l e R s m args below meth c H locs cells slots (vx_MQ below Qc (rm_XCS thr) args s mc ms (fun _ => False)) (F0 m pc ls rest) := by
  obtain ⟨sa, hsa⟩ := hstr
  have hts := CF.2.2.2.2
  refine vx_throwS (names := rm_RE) (sa := sa) (text := text) CF.1 CF.2.1 hl CF.2.2.2.1 hcls (by decide +kernel) (hts _ hk) (hts _ hini) hsa (vx_hat (fun w h => hts w (hat w h)) hat2 (vx_c (hTh.2.2.2.1.use rfl) (vx_c (hTh.2.2.2.2.1.use rfl) (vx_c (hTh.2.2.2.2.2.1.use rfl) (vx_c (hcc.use rfl) vx_n))))) (List.all_eq_true.mp hgood) hTh.1 hTh.2.1 hS (hsize.trans CF.2.2.1.symm) d0 d3 d4 d6 d9 (rm_covers htab _) hRf hRl hRc hRs hlocks ?_ hS.2.2 hc hs
  intro t hvm hz hk9
  exact ⟨(), trivial, hthr, Nat.le_trans hS.1 hz, fun q h1 h2 => (hk9 q (Nat.lt_of_lt_of_le h1 hS.1)).trans (hS.2.1 q h1 h2)⟩
theorem rm_sret (hexec : p.tables.exec = Jvm.exec) (hb : c.code = cc) (hr : meth.sig.returnType = none) (hlocks : meth.locks = false) (hS : va_S (fun _ => False) s.heap H locs) (hc : cells ≤ mc) (hs : slots ≤ ms) (hdg : decode cc pc = .ok (.return_, 1)) (h : thr = none) {XC : String → State → State → Prop} :
    W p l e R s m args below meth c H locs cells slots (vx_MQ below (va_Qv (fun _ : Unit => thr = none) (fun _ _ => True) (fun _ => False)) XC args s mc ms (fun _ => False)) (F0 m pc ls []) :=
  W.widen (k := mc) (n := ms) hc hs (vx_ret (W.vret hexec hb hr (fun t ht hW => ⟨⟨(), rfl, h, trivial⟩, hS.F ht⟩) hS.2.2 hdg hlocks))
end RXS
set_option maxHeartbeats 4000000 in
set_option maxRecDepth 100000 in
theorem kX0_requireNode (l : Launch) (hfl : l.stackTraces = false) (v : Int32) : rm_XS l yX0_requireNode wsX0_requireNode ({ frames := 6, cells := 1, slots := 6, locals := 90 }) [.int v] (rm_tN v) := by
  refine vx_ofW (cc := cX0_requireNode) (maxL := 1) (ret := none) (by decide) rfl ?_
  intro p e s m args below meth c s₁ B hml htab hv
  obtain ⟨rfl, hTh⟩ := hv
  have hx := B.exec
  have hb := B.bytes
  have hr := B.returns
  have hlocks := B.notSynchronized
  have hts := atoms_spec (ws := wsX0_requireNode) B.pre
  have hown : s.vm.findClass RX0 = some m.cls := findClass_of_methodNamed B.named
  have hl := lv_entry ([.int v]) (n := 1) (Nat.le_of_ble_eq_true rfl)
  rw [lg_entry_eq]
  generalize (lg_sl ([.int v]) ++ List.replicate (1 - (lg_sl ([.int v])).length) Slot.unset).toArray = ls at hl ⊢
  have hl : lv_has ls 1 [(0, .int v)] := hl
  have hS : va_S (fun _ => False) s.heap s.heap [] := va_S.rf
  refine lv_iload_n hx hb dX0_requireNode_0 rfl (lv_at hl 0 rfl) ?_
  refine rm_callSI0 (own := RX0) ⟨hx, hb, hml, hown, hts⟩ hS (As := [.int v]) (rest := []) (kX0_isNode l v) (va_cwS 1 hts gX0_requireNode_X0_isNode rfl rfl rfl (by decide +kernel) ⟨Nat.le_of_ble_eq_true rfl, Nat.le_of_ble_eq_true rfl⟩) rfl hl.1 rfl (lv_room (Nat.le_of_ble_eq_true rfl)) dX0_requireNode_1 ⟨Nat.zero_le _, Nat.zero_le _⟩ (fun H locs hk hS => ?_)
  refine rm_ifne (tgt := 17) hx hb dX0_requireNode_4 (by decide) (fun c_4 => ?_) (fun c_4 => ?_)
  · exact rm_sret hx hb hr hlocks hS (Nat.zero_le _) (Nat.zero_le _) dX0_requireNode_17 (by rw [rm_tN, if_pos c_4])
  · exact rm_throwSS ⟨hx, hb, hml, hown, hts⟩ hfl hlocks htab hTh hS (by decide +kernel) (by decide +kernel) (by decide +kernel) hTh.2.2.1.2.2.2.2.1 (by decide +kernel) rm_nb1 hTh.2.2.2.2.2.2.1 rm_ot1 hl.1 dX0_requireNode_7 dX0_requireNode_10 dX0_requireNode_11 dX0_requireNode_13 dX0_requireNode_16 (Nat.le_of_ble_eq_true rfl) (Nat.le_of_ble_eq_true rfl) (Nat.le_of_ble_eq_true rfl) (Nat.le_of_ble_eq_true rfl) (Nat.le_of_ble_eq_true rfl) (Nat.le_of_ble_eq_true rfl) (by rw [rm_tN, if_neg (by rw [c_4]; decide)]; rfl)
set_option maxHeartbeats 4000000 in
set_option maxRecDepth 100000 in
theorem kX0_requireRange (l : Launch) (hfl : l.stackTraces = false) (v f t : Int32) : rm_XS l yX0_requireRange wsX0_requireRange ({ frames := 6, cells := 1, slots := 6, locals := 90 }) [.int v, .int f, .int t] (rm_tR v f t) := by
  refine vx_ofW (cc := cX0_requireRange) (maxL := 3) (ret := none) (by decide) rfl ?_
  intro p e s m args below meth c s₁ B hml htab hv
  obtain ⟨rfl, hTh⟩ := hv
  have hx := B.exec
  have hb := B.bytes
  have hr := B.returns
  have hlocks := B.notSynchronized
  have hts := atoms_spec (ws := wsX0_requireRange) B.pre
  have hown : s.vm.findClass RX0 = some m.cls := findClass_of_methodNamed B.named
  have hl := lv_entry ([.int v, .int f, .int t]) (n := 3) (Nat.le_of_ble_eq_true rfl)
  rw [lg_entry_eq]
  generalize (lg_sl ([.int v, .int f, .int t]) ++ List.replicate (3 - (lg_sl ([.int v, .int f, .int t])).length) Slot.unset).toArray = ls at hl ⊢
  have hl : lv_has ls 3 [(0, .int v), (1, .int f), (2, .int t)] := hl
  have hS : va_S (fun _ => False) s.heap s.heap [] := va_S.rf
  have thrw : rm_tR v f t = some "java/lang/IllegalArgumentException" → W p l e (headSpec wsX0_requireRange ({ frames := 6, cells := 1, slots := 6, locals := 90 })).room s m _ below meth c s.heap [] 0 0 (vx_MQ below (va_Qv (fun _ : Unit => rm_tR v f t = none) (fun _ _ => True) (fun _ => False)) (rm_XCS (rm_tR v f t)) _ s 1 6 (fun _ => False)) (F0 m 10 ls []) := fun h =>
    rm_throwSS ⟨hx, hb, hml, hown, hts⟩ hfl hlocks htab hTh hS (by decide +kernel) (by decide +kernel) (by decide +kernel) hTh.2.2.1.2.2.2.2.2.2 (by decide +kernel) rm_nb2 hTh.2.2.2.2.2.2.2.1 rm_ot2 hl.1 dX0_requireRange_10 dX0_requireRange_13 dX0_requireRange_14 dX0_requireRange_16 dX0_requireRange_19 (Nat.le_of_ble_eq_true rfl) (Nat.le_of_ble_eq_true rfl) (Nat.le_of_ble_eq_true rfl) (Nat.le_of_ble_eq_true rfl) (Nat.le_of_ble_eq_true rfl) (Nat.le_of_ble_eq_true rfl) h
  refine lv_iload_n hx hb dX0_requireRange_0 rfl (lv_at hl 0 rfl) ?_
  refine lv_iload_n hx hb dX0_requireRange_1 rfl (lv_at hl 1 rfl) ?_
  refine lv_icmp_lt (tgt := 10) hx hb dX0_requireRange_2 (by decide) (fun c1 => ?_) (fun c1 => ?_)
  · exact thrw (by rw [rm_tR, if_pos c1]; rfl)
  · refine lv_iload_n hx hb dX0_requireRange_5 rfl (lv_at hl 0 rfl) ?_
    refine lv_iload_n hx hb dX0_requireRange_6 rfl (lv_at hl 2 rfl) ?_
    refine lv_icmp_le (tgt := 20) hx hb dX0_requireRange_7 (by decide) (fun c2 => ?_) (fun c2 => ?_)
    · exact rm_sret hx hb hr hlocks hS (Nat.zero_le _) (Nat.zero_le _) dX0_requireRange_20 (by rw [rm_tR, if_neg c1, if_pos c2])
    · exact thrw (by rw [rm_tR, if_neg c1, if_neg c2]; rfl)
end
section
set_option maxHeartbeats 4000000 in
set_option maxRecDepth 100000 in
theorem kX0_requireRoot (l : Launch) (hfl : l.stackTraces = false) (k : rm_K) (a : Nat → Nat) (ha : rm_inj a) (σ : rm_St) (x : Int32) : rm_XV l k a yX0_requireRoot wsX0_requireRoot ({ frames := 7, cells := 2, slots := 12, locals := 110 }) [.int x] σ (rm_tRoot σ x)  σ := by
  refine rm_enterXV (cc := cX0_requireRoot) (nL := 2) (ret := none) ha (by decide) rfl rfl (by decide +kernel) (Nat.le_of_ble_eq_true rfl) ?_
  intro p e s m args below meth c ls C hr hlocks htab hTh hw hl
  have hx := C.1.1
  have hb := C.1.2.1
  have hts := C.1.2.2.2.2
  have hA : ∀ q, s.heap.size ≤ q → rm_A a s.heap.size q := fun q h => Or.inr h
  replace hl : lv_has ls 2 [(0, .ref (a 0)), (1, .int x)] := hl
  refine lv_iload_n hx hb dX0_requireRoot_0 rfl (lv_at hl 1 rfl) ?_
  refine rm_callXS C hlocks htab hTh hw (As := [.int x]) (rest := []) (kX0_requireNode l hfl (x)) (va_cwS 1 hts gX0_requireRoot_X0_requireNode rfl rfl rfl (by decide +kernel) ⟨Nat.le_of_ble_eq_true rfl, Nat.le_of_ble_eq_true rfl⟩) rfl hl.1 rfl (lv_room (Nat.le_of_ble_eq_true rfl)) dX0_requireRoot_1 ⟨Nat.le_of_ble_eq_true rfl, Nat.le_of_ble_eq_true rfl⟩ (Nat.le_of_ble_eq_true rfl) (Nat.le_of_ble_eq_true rfl) (fun E hE => by simp only [rm_tRoot, hE, rm_or_n, rm_or_s, ↓reduceIte, Bool.false_eq_true]) (fun c_1 H locs hw => ?_)
  obtain ⟨xn, hxn, rfl⟩ := rm_tN_none c_1
  refine lv_aload_n hx hb dX0_requireRoot_4 rfl (lv_at hl 0 rfl) ?_
  refine rm_geta C hw 10 5 (by decide) rfl (hts _ (by decide +kernel)) rfl dX0_requireRoot_5 ?_
  refine lv_iload_n hx hb dX0_requireRoot_8 rfl (lv_at hl 1 rfl) ?_
  refine rm_zald C hw hxn dX0_requireRoot_9 ?_
  refine lv_if_ne (tgt := 23) hx hb dX0_requireRoot_10 (by decide) (fun c_10 => ?_) (fun c_10 => ?_)
  · skip
    exact rm_xvret C hr hlocks hw (Nat.le_of_ble_eq_true rfl) (Nat.le_of_ble_eq_true rfl) dX0_requireRoot_23 ⟨by first | (simp only [rm_tRoot, c_1, rm_cl hxn, if_neg c_10, ↓reduceIte, Bool.false_eq_true, rm_or_n, rm_or_s]; done) | (simp only [rm_tRoot, c_1, rm_cl hxn, if_neg c_10, ↓reduceIte, Bool.false_eq_true, rm_or_n, rm_or_s]; rfl), by first | with_reducible rfl | (simp only [c_1, rm_cl hxn, if_neg c_10, ↓reduceIte, Bool.false_eq_true]; done) | (simp only [c_1, rm_cl hxn, if_neg c_10, ↓reduceIte, Bool.false_eq_true]; rfl) | rfl⟩
  · skip
    exact rm_throwS C hfl hlocks htab hTh hw (by decide +kernel) (by decide +kernel) (by decide +kernel) hTh.2.2.1.2.2.2.2.2.1 (by decide +kernel) rm_nb3 hTh.2.2.2.2.2.2.2.2 rm_ot3 hl.1 dX0_requireRoot_13 dX0_requireRoot_16 dX0_requireRoot_17 dX0_requireRoot_19 dX0_requireRoot_22 (Nat.le_of_ble_eq_true rfl) (Nat.le_of_ble_eq_true rfl) (Nat.le_of_ble_eq_true rfl) (Nat.le_of_ble_eq_true rfl) (Nat.le_of_ble_eq_true rfl) (Nat.le_of_ble_eq_true rfl) (by first | (simp only [rm_tRoot, c_1, rm_cl hxn, if_pos c_10, ↓reduceIte, Bool.false_eq_true, rm_or_n, rm_or_s]; done) | (simp only [rm_tRoot, c_1, rm_cl hxn, if_pos c_10, ↓reduceIte, Bool.false_eq_true, rm_or_n, rm_or_s]; rfl))
theorem rm_tRoot_none {σ : rm_St} {v : Int32} (h : rm_tRoot σ v = none) : ∃ o : Nat, o < 10 ∧ v = nI o := by
  unfold rm_tRoot at h
  cases c : rm_tN v with
  | none => exact rm_tN_none c
  | some e => rw [c] at h; cases h
set_option maxHeartbeats 4000000 in
set_option maxRecDepth 100000 in
theorem kX0_setRules (l : Launch) (hfl : l.stackTraces = false) (k : rm_K) (a : Nat → Nat) (ha : rm_inj a) (σ : rm_St) (x : Int32) (y : Int32) (z : Int32) (w : Int32) : rm_XV l k a yX0_setRules wsX0_setRules ({ frames := 7, cells := 4, slots := 24, locals := 112 }) [.int x, .int y, .int z, .int w] σ (rm_tSet x y z w)  (rm_setS σ x y z w) := by
  refine rm_enterXV (cc := cX0_setRules) (nL := 5) (ret := none) ha (by decide) rfl rfl (by decide +kernel) (Nat.le_of_ble_eq_true rfl) ?_
  intro p e s m args below meth c ls C hr hlocks htab hTh hw hl
  have hx := C.1.1
  have hb := C.1.2.1
  have hts := C.1.2.2.2.2
  have hA : ∀ q, s.heap.size ≤ q → rm_A a s.heap.size q := fun q h => Or.inr h
  replace hl : lv_has ls 5 [(0, .ref (a 0)), (1, .int x), (2, .int y), (3, .int z), (4, .int w)] := hl
  refine lv_iload_n hx hb dX0_setRules_0 rfl (lv_at hl 1 rfl) ?_
  refine lv_iconst (v := 0) hx hb dX0_setRules_1 (by decide) ?_
  refine lv_bipush (v := 100) hx hb dX0_setRules_2 (by decide) ?_
  refine rm_callXS C hlocks htab hTh hw (As := [.int x, .int 0, .int 100]) (rest := []) (kX0_requireRange l hfl (x) (0) (100)) (va_cwS 3 hts gX0_setRules_X0_requireRange rfl rfl rfl (by decide +kernel) ⟨Nat.le_of_ble_eq_true rfl, Nat.le_of_ble_eq_true rfl⟩) rfl hl.1 rfl (lv_room (Nat.le_of_ble_eq_true rfl)) dX0_setRules_4 ⟨Nat.le_of_ble_eq_true rfl, Nat.le_of_ble_eq_true rfl⟩ (Nat.le_of_ble_eq_true rfl) (Nat.le_of_ble_eq_true rfl) (fun E hE => by simp only [rm_tSet, hE, rm_or_n, rm_or_s, ↓reduceIte, Bool.false_eq_true]) (fun c_4 H locs hw => ?_)
  refine lv_iload_n hx hb dX0_setRules_7 rfl (lv_at hl 2 rfl) ?_
  refine lv_iconst (v := 0) hx hb dX0_setRules_8 (by decide) ?_
  refine lv_sipush (v := 10000) hx hb dX0_setRules_9 (by decide) ?_
  refine rm_callXS C hlocks htab hTh hw (As := [.int y, .int 0, .int 10000]) (rest := []) (kX0_requireRange l hfl (y) (0) (10000)) (va_cwS 3 hts gX0_setRules_X0_requireRange rfl rfl rfl (by decide +kernel) ⟨Nat.le_of_ble_eq_true rfl, Nat.le_of_ble_eq_true rfl⟩) rfl hl.1 rfl (lv_room (Nat.le_of_ble_eq_true rfl)) dX0_setRules_12 ⟨Nat.le_of_ble_eq_true rfl, Nat.le_of_ble_eq_true rfl⟩ (Nat.le_of_ble_eq_true rfl) (Nat.le_of_ble_eq_true rfl) (fun E hE => by simp only [rm_tSet, hE, rm_or_n, rm_or_s, c_4, ↓reduceIte, Bool.false_eq_true]) (fun c_12 H locs hw => ?_)
  refine lv_iload_n hx hb dX0_setRules_15 rfl (lv_at hl 3 rfl) ?_
  refine lv_iconst (v := 1) hx hb dX0_setRules_16 (by decide) ?_
  refine lv_bipush (v := 8) hx hb dX0_setRules_17 (by decide) ?_
  refine rm_callXS C hlocks htab hTh hw (As := [.int z, .int 1, .int 8]) (rest := []) (kX0_requireRange l hfl (z) (1) (8)) (va_cwS 3 hts gX0_setRules_X0_requireRange rfl rfl rfl (by decide +kernel) ⟨Nat.le_of_ble_eq_true rfl, Nat.le_of_ble_eq_true rfl⟩) rfl hl.1 rfl (lv_room (Nat.le_of_ble_eq_true rfl)) dX0_setRules_19 ⟨Nat.le_of_ble_eq_true rfl, Nat.le_of_ble_eq_true rfl⟩ (Nat.le_of_ble_eq_true rfl) (Nat.le_of_ble_eq_true rfl) (fun E hE => by simp only [rm_tSet, hE, rm_or_n, rm_or_s, c_4, c_12, ↓reduceIte, Bool.false_eq_true]) (fun c_19 H locs hw => ?_)
  refine lv_iload hx hb dX0_setRules_22 (lv_at hl 4 rfl) ?_
  refine lv_iconst (v := 0) hx hb dX0_setRules_24 (by decide) ?_
  refine lv_bipush (v := 6) hx hb dX0_setRules_25 (by decide) ?_
  refine rm_callXS C hlocks htab hTh hw (As := [.int w, .int 0, .int 6]) (rest := []) (kX0_requireRange l hfl (w) (0) (6)) (va_cwS 3 hts gX0_setRules_X0_requireRange rfl rfl rfl (by decide +kernel) ⟨Nat.le_of_ble_eq_true rfl, Nat.le_of_ble_eq_true rfl⟩) rfl hl.1 rfl (lv_room (Nat.le_of_ble_eq_true rfl)) dX0_setRules_27 ⟨Nat.le_of_ble_eq_true rfl, Nat.le_of_ble_eq_true rfl⟩ (Nat.le_of_ble_eq_true rfl) (Nat.le_of_ble_eq_true rfl) (fun E hE => by simp only [rm_tSet, hE, rm_or_n, rm_or_s, c_4, c_12, c_19, ↓reduceIte, Bool.false_eq_true]) (fun c_27 H locs hw => ?_)
  refine lv_aload_n hx hb dX0_setRules_30 rfl (lv_at hl 0 rfl) ?_
  refine lv_iload_n hx hb dX0_setRules_31 rfl (lv_at hl 1 rfl) ?_
  refine rm_puti C hw 0 (by decide) (hts _ (by decide +kernel)) rfl rfl rfl dX0_setRules_32 (fun H locs hw => ?_)
  refine lv_aload_n hx hb dX0_setRules_35 rfl (lv_at hl 0 rfl) ?_
  refine lv_iload_n hx hb dX0_setRules_36 rfl (lv_at hl 2 rfl) ?_
  refine rm_puti C hw 1 (by decide) (hts _ (by decide +kernel)) rfl rfl rfl dX0_setRules_37 (fun H locs hw => ?_)
  refine lv_aload_n hx hb dX0_setRules_40 rfl (lv_at hl 0 rfl) ?_
  refine lv_iload_n hx hb dX0_setRules_41 rfl (lv_at hl 3 rfl) ?_
  refine rm_puti C hw 2 (by decide) (hts _ (by decide +kernel)) rfl rfl rfl dX0_setRules_42 (fun H locs hw => ?_)
  refine lv_aload_n hx hb dX0_setRules_45 rfl (lv_at hl 0 rfl) ?_
  refine lv_iload hx hb dX0_setRules_46 (lv_at hl 4 rfl) ?_
  refine rm_puti C hw 3 (by decide) (hts _ (by decide +kernel)) rfl rfl rfl dX0_setRules_48 (fun H locs hw => ?_)
  exact rm_xvret C hr hlocks hw (Nat.le_of_ble_eq_true rfl) (Nat.le_of_ble_eq_true rfl) dX0_setRules_51 ⟨by first | (simp only [rm_tSet, c_4, c_12, c_19, c_27, ↓reduceIte, Bool.false_eq_true, rm_or_n, rm_or_s]; done) | (simp only [rm_tSet, c_4, c_12, c_19, c_27, ↓reduceIte, Bool.false_eq_true, rm_or_n, rm_or_s]; rfl), by first | with_reducible rfl | (simp only [rm_setS, c_4, c_12, c_19, c_27, ↓reduceIte, Bool.false_eq_true]; done) | (simp only [rm_setS, c_4, c_12, c_19, c_27, ↓reduceIte, Bool.false_eq_true]; rfl) | rfl⟩
set_option maxHeartbeats 4000000 in
set_option maxRecDepth 100000 in
theorem kX0_link (l : Launch) (hfl : l.stackTraces = false) (k : rm_K) (a : Nat → Nat) (ha : rm_inj a) (σ : rm_St) (x : Int32) (y : Int32) (pv : Int32) : rm_XI l k a yX0_link wsX0_link ({ frames := 7, cells := 4, slots := 24, locals := 114 }) [.int x, .int y, .int pv] σ (rm_tLink x y pv) (σ (15 + x.toNatClampNeg) y.toNatClampNeg) (rm_linkS σ x y pv) := by
  refine rm_enterXI (cc := cX0_link) (nL := 5) (ret := (some .int)) ha (by decide) rfl rfl (by decide +kernel) (Nat.le_of_ble_eq_true rfl) ?_
  intro p e s m args below meth c ls C hr hlocks htab hTh hw hl
  have hx := C.1.1
  have hb := C.1.2.1
  have hts := C.1.2.2.2.2
  have hA : ∀ q, s.heap.size ≤ q → rm_A a s.heap.size q := fun q h => Or.inr h
  replace hl : lv_has ls 5 [(0, .ref (a 0)), (1, .int x), (2, .int y), (3, .int pv)] := hl
  refine lv_iload_n hx hb dX0_link_0 rfl (lv_at hl 1 rfl) ?_
  refine rm_callXS C hlocks htab hTh hw (As := [.int x]) (rest := []) (kX0_requireNode l hfl (x)) (va_cwS 1 hts gX0_link_X0_requireNode rfl rfl rfl (by decide +kernel) ⟨Nat.le_of_ble_eq_true rfl, Nat.le_of_ble_eq_true rfl⟩) rfl hl.1 rfl (lv_room (Nat.le_of_ble_eq_true rfl)) dX0_link_1 ⟨Nat.le_of_ble_eq_true rfl, Nat.le_of_ble_eq_true rfl⟩ (Nat.le_of_ble_eq_true rfl) (Nat.le_of_ble_eq_true rfl) (fun E hE => by simp only [rm_tLink, hE, rm_or_n, rm_or_s, ↓reduceIte, Bool.false_eq_true]) (fun c_1 H locs hw => ?_)
  obtain ⟨xn, hxn, rfl⟩ := rm_tN_none c_1
  refine lv_iload_n hx hb dX0_link_4 rfl (lv_at hl 2 rfl) ?_
  refine rm_callXS C hlocks htab hTh hw (As := [.int y]) (rest := []) (kX0_requireNode l hfl (y)) (va_cwS 1 hts gX0_link_X0_requireNode rfl rfl rfl (by decide +kernel) ⟨Nat.le_of_ble_eq_true rfl, Nat.le_of_ble_eq_true rfl⟩) rfl hl.1 rfl (lv_room (Nat.le_of_ble_eq_true rfl)) dX0_link_5 ⟨Nat.le_of_ble_eq_true rfl, Nat.le_of_ble_eq_true rfl⟩ (Nat.le_of_ble_eq_true rfl) (Nat.le_of_ble_eq_true rfl) (fun E hE => by simp only [rm_tLink, hE, rm_or_n, rm_or_s, c_1, rm_cl hxn, ↓reduceIte, Bool.false_eq_true]) (fun c_5 H locs hw => ?_)
  obtain ⟨yn, hyn, rfl⟩ := rm_tN_none c_5
  refine lv_iload_n hx hb dX0_link_8 rfl (lv_at hl 1 rfl) ?_
  refine lv_iload_n hx hb dX0_link_9 rfl (lv_at hl 2 rfl) ?_
  refine lv_icmp_ne (tgt := 23) hx hb dX0_link_10 (by decide) (fun c_10 => ?_) (fun c_10 => ?_)
  · skip
    refine lv_iload_n hx hb dX0_link_23 rfl (lv_at hl 3 rfl) ?_
    refine lv_iconst (v := 0) hx hb dX0_link_24 (by decide) ?_
    refine lv_bipush (v := 100) hx hb dX0_link_25 (by decide) ?_
    refine rm_callXS C hlocks htab hTh hw (As := [.int pv, .int 0, .int 100]) (rest := []) (kX0_requireRange l hfl (pv) (0) (100)) (va_cwS 3 hts gX0_link_X0_requireRange rfl rfl rfl (by decide +kernel) ⟨Nat.le_of_ble_eq_true rfl, Nat.le_of_ble_eq_true rfl⟩) rfl hl.1 rfl (lv_room (Nat.le_of_ble_eq_true rfl)) dX0_link_27 ⟨Nat.le_of_ble_eq_true rfl, Nat.le_of_ble_eq_true rfl⟩ (Nat.le_of_ble_eq_true rfl) (Nat.le_of_ble_eq_true rfl) (fun E hE => by simp only [rm_tLink, hE, rm_or_n, rm_or_s, c_1, rm_cl hxn, c_5, rm_cl hyn, if_neg c_10, ↓reduceIte, Bool.false_eq_true]) (fun c_27 H locs hw => ?_)
    refine lv_aload_n hx hb dX0_link_30 rfl (lv_at hl 0 rfl) ?_
    refine rm_geta C hw 6 1 (by decide) rfl (hts _ (by decide +kernel)) rfl dX0_link_31 ?_
    refine lv_iload_n hx hb dX0_link_34 rfl (lv_at hl 1 rfl) ?_
    refine rm_aald C hw 15 (by decide) hxn dX0_link_35 ?_
    refine lv_iload_n hx hb dX0_link_36 rfl (lv_at hl 2 rfl) ?_
    refine rm_iald C hw ⟨by omega, by omega⟩ hyn dX0_link_37 ?_
    refine lv_istore (lv' := [(4, .int (σ (15 + xn) yn)), (0, .ref (a 0)), (1, .int (nI xn)), (2, .int (nI yn)), (3, .int pv)]) hx hb dX0_link_38 hl (by decide) rfl (fun ls hl => ?_)
    refine lv_aload_n hx hb dX0_link_40 rfl (lv_at hl 1 rfl) ?_
    refine rm_geta C hw 6 1 (by decide) rfl (hts _ (by decide +kernel)) rfl dX0_link_41 ?_
    refine lv_iload_n hx hb dX0_link_44 rfl (lv_at hl 2 rfl) ?_
    refine rm_aald C hw 15 (by decide) hxn dX0_link_45 ?_
    refine lv_iload_n hx hb dX0_link_46 rfl (lv_at hl 3 rfl) ?_
    refine lv_iload_n hx hb dX0_link_47 rfl (lv_at hl 4 rfl) ?_
    refine rm_iast C hw ⟨by omega, by omega⟩ hyn dX0_link_48 (fun H locs hw => ?_)
    refine lv_aload_n hx hb dX0_link_49 rfl (lv_at hl 1 rfl) ?_
    refine rm_geta C hw 6 1 (by decide) rfl (hts _ (by decide +kernel)) rfl dX0_link_50 ?_
    refine lv_iload_n hx hb dX0_link_53 rfl (lv_at hl 3 rfl) ?_
    refine rm_aald C hw 15 (by decide) hyn dX0_link_54 ?_
    refine lv_iload_n hx hb dX0_link_55 rfl (lv_at hl 2 rfl) ?_
    refine lv_iload_n hx hb dX0_link_56 rfl (lv_at hl 4 rfl) ?_
    refine rm_iast C hw ⟨by omega, by omega⟩ hxn dX0_link_57 (fun H locs hw => ?_)
    refine lv_iload_n hx hb dX0_link_58 rfl (lv_at hl 4 rfl) ?_
    refine lv_if_ne (tgt := 74) hx hb dX0_link_59 (by decide) (fun c_59 => ?_) (fun c_59 => ?_)
    · skip
      refine lv_aload_n hx hb dX0_link_74 rfl (lv_at hl 1 rfl) ?_
      refine lv_iload_n hx hb dX0_link_75 rfl (lv_at hl 2 rfl) ?_
      refine rm_callV C hw hA (As := [.int (nI xn)]) (rest := []) (kX0_choose l k a ha (rm_up (rm_up σ (15 + xn) yn (pv)) (15 + yn) xn (pv)) xn hxn) (cwV 1 hts gX0_link_X0_choose rfl rfl rfl (by decide +kernel) ⟨Nat.le_of_ble_eq_true rfl, Nat.le_of_ble_eq_true rfl⟩) rfl hl.1 rfl (lv_room (Nat.le_of_ble_eq_true rfl)) dX0_link_76 ⟨Nat.le_of_ble_eq_true rfl, Nat.le_of_ble_eq_true rfl⟩ (fun H locs hw => ?_)
      refine lv_aload_n hx hb dX0_link_79 rfl (lv_at hl 1 rfl) ?_
      refine lv_iload_n hx hb dX0_link_80 rfl (lv_at hl 3 rfl) ?_
      refine rm_callV C hw hA (As := [.int (nI yn)]) (rest := []) (kX0_choose l k a ha (rm_choose (rm_up (rm_up σ (15 + xn) yn (pv)) (15 + yn) xn (pv)) xn) yn hyn) (cwV 1 hts gX0_link_X0_choose rfl rfl rfl (by decide +kernel) ⟨Nat.le_of_ble_eq_true rfl, Nat.le_of_ble_eq_true rfl⟩) rfl hl.1 rfl (lv_room (Nat.le_of_ble_eq_true rfl)) dX0_link_81 ⟨Nat.le_of_ble_eq_true rfl, Nat.le_of_ble_eq_true rfl⟩ (fun H locs hw => ?_)
      refine lv_iload hx hb dX0_link_84 (lv_at hl 0 rfl) ?_
      exact rm_xret C hr hlocks hw (Nat.le_of_ble_eq_true rfl) (Nat.le_of_ble_eq_true rfl) dX0_link_86 ⟨by first | (simp only [rm_tLink, c_1, rm_cl hxn, c_5, rm_cl hyn, if_neg c_10, c_27, if_neg c_59, ↓reduceIte, Bool.false_eq_true, rm_or_n, rm_or_s]; done) | (simp only [rm_tLink, c_1, rm_cl hxn, c_5, rm_cl hyn, if_neg c_10, c_27, if_neg c_59, ↓reduceIte, Bool.false_eq_true, rm_or_n, rm_or_s]; rfl), by first | with_reducible rfl | (simp only [rm_linkS, rm_lnk, c_1, rm_cl hxn, c_5, rm_cl hyn, if_neg c_10, c_27, if_neg c_59, ↓reduceIte, Bool.false_eq_true]; done) | (simp only [rm_linkS, rm_lnk, c_1, rm_cl hxn, c_5, rm_cl hyn, if_neg c_10, c_27, if_neg c_59, ↓reduceIte, Bool.false_eq_true]; rfl) | rfl, by first | with_reducible rfl | (simp only [rm_linkS, rm_lnk, c_1, rm_cl hxn, c_5, rm_cl hyn, if_neg c_10, c_27, if_neg c_59, ↓reduceIte, Bool.false_eq_true]; done) | (simp only [rm_linkS, rm_lnk, c_1, rm_cl hxn, c_5, rm_cl hyn, if_neg c_10, c_27, if_neg c_59, ↓reduceIte, Bool.false_eq_true]; rfl) | rfl⟩
    · skip
      refine lv_aload_n hx hb dX0_link_62 rfl (lv_at hl 1 rfl) ?_
      refine lv_iload_n hx hb dX0_link_63 rfl (lv_at hl 2 rfl) ?_
      refine lv_iload_n hx hb dX0_link_64 rfl (lv_at hl 3 rfl) ?_
      refine rm_callV C hw hA (As := [.int (nI xn), .int (nI yn)]) (rest := []) (kX0_forget l k a ha (rm_up (rm_up σ (15 + xn) yn (pv)) (15 + yn) xn (pv)) xn yn hxn hyn) (cwV 2 hts gX0_link_X0_forget rfl rfl rfl (by decide +kernel) ⟨Nat.le_of_ble_eq_true rfl, Nat.le_of_ble_eq_true rfl⟩) rfl hl.1 rfl (lv_room (Nat.le_of_ble_eq_true rfl)) dX0_link_65 ⟨Nat.le_of_ble_eq_true rfl, Nat.le_of_ble_eq_true rfl⟩ (fun H locs hw => ?_)
      refine lv_aload_n hx hb dX0_link_68 rfl (lv_at hl 1 rfl) ?_
      refine lv_iload_n hx hb dX0_link_69 rfl (lv_at hl 3 rfl) ?_
      refine lv_iload_n hx hb dX0_link_70 rfl (lv_at hl 2 rfl) ?_
      refine rm_callV C hw hA (As := [.int (nI yn), .int (nI xn)]) (rest := []) (kX0_forget l k a ha (rm_forget (rm_up (rm_up σ (15 + xn) yn (pv)) (15 + yn) xn (pv)) xn yn) yn xn hyn hxn) (cwV 2 hts gX0_link_X0_forget rfl rfl rfl (by decide +kernel) ⟨Nat.le_of_ble_eq_true rfl, Nat.le_of_ble_eq_true rfl⟩) rfl hl.1 rfl (lv_room (Nat.le_of_ble_eq_true rfl)) dX0_link_71 ⟨Nat.le_of_ble_eq_true rfl, Nat.le_of_ble_eq_true rfl⟩ (fun H locs hw => ?_)
      refine lv_aload_n hx hb dX0_link_74 rfl (lv_at hl 1 rfl) ?_
      refine lv_iload_n hx hb dX0_link_75 rfl (lv_at hl 2 rfl) ?_
      refine rm_callV C hw hA (As := [.int (nI xn)]) (rest := []) (kX0_choose l k a ha (rm_forget (rm_forget (rm_up (rm_up σ (15 + xn) yn (pv)) (15 + yn) xn (pv)) xn yn) yn xn) xn hxn) (cwV 1 hts gX0_link_X0_choose rfl rfl rfl (by decide +kernel) ⟨Nat.le_of_ble_eq_true rfl, Nat.le_of_ble_eq_true rfl⟩) rfl hl.1 rfl (lv_room (Nat.le_of_ble_eq_true rfl)) dX0_link_76 ⟨Nat.le_of_ble_eq_true rfl, Nat.le_of_ble_eq_true rfl⟩ (fun H locs hw => ?_)
      refine lv_aload_n hx hb dX0_link_79 rfl (lv_at hl 1 rfl) ?_
      refine lv_iload_n hx hb dX0_link_80 rfl (lv_at hl 3 rfl) ?_
      refine rm_callV C hw hA (As := [.int (nI yn)]) (rest := []) (kX0_choose l k a ha (rm_choose (rm_forget (rm_forget (rm_up (rm_up σ (15 + xn) yn (pv)) (15 + yn) xn (pv)) xn yn) yn xn) xn) yn hyn) (cwV 1 hts gX0_link_X0_choose rfl rfl rfl (by decide +kernel) ⟨Nat.le_of_ble_eq_true rfl, Nat.le_of_ble_eq_true rfl⟩) rfl hl.1 rfl (lv_room (Nat.le_of_ble_eq_true rfl)) dX0_link_81 ⟨Nat.le_of_ble_eq_true rfl, Nat.le_of_ble_eq_true rfl⟩ (fun H locs hw => ?_)
      refine lv_iload hx hb dX0_link_84 (lv_at hl 0 rfl) ?_
      exact rm_xret C hr hlocks hw (Nat.le_of_ble_eq_true rfl) (Nat.le_of_ble_eq_true rfl) dX0_link_86 ⟨by first | (simp only [rm_tLink, c_1, rm_cl hxn, c_5, rm_cl hyn, if_neg c_10, c_27, if_pos c_59, ↓reduceIte, Bool.false_eq_true, rm_or_n, rm_or_s]; done) | (simp only [rm_tLink, c_1, rm_cl hxn, c_5, rm_cl hyn, if_neg c_10, c_27, if_pos c_59, ↓reduceIte, Bool.false_eq_true, rm_or_n, rm_or_s]; rfl), by first | with_reducible rfl | (simp only [rm_linkS, rm_lnk, c_1, rm_cl hxn, c_5, rm_cl hyn, if_neg c_10, c_27, if_pos c_59, ↓reduceIte, Bool.false_eq_true]; done) | (simp only [rm_linkS, rm_lnk, c_1, rm_cl hxn, c_5, rm_cl hyn, if_neg c_10, c_27, if_pos c_59, ↓reduceIte, Bool.false_eq_true]; rfl) | rfl, by first | with_reducible rfl | (simp only [rm_linkS, rm_lnk, c_1, rm_cl hxn, c_5, rm_cl hyn, if_neg c_10, c_27, if_pos c_59, ↓reduceIte, Bool.false_eq_true]; done) | (simp only [rm_linkS, rm_lnk, c_1, rm_cl hxn, c_5, rm_cl hyn, if_neg c_10, c_27, if_pos c_59, ↓reduceIte, Bool.false_eq_true]; rfl) | rfl⟩
  · skip
    exact rm_throwS C hfl hlocks htab hTh hw (by decide +kernel) (by decide +kernel) (by decide +kernel) hTh.2.2.1.1 (by decide +kernel) rm_nb2 hTh.2.2.2.2.2.2.2.1 rm_ot2 hl.1 dX0_link_13 dX0_link_16 dX0_link_17 dX0_link_19 dX0_link_22 (Nat.le_of_ble_eq_true rfl) (Nat.le_of_ble_eq_true rfl) (Nat.le_of_ble_eq_true rfl) (Nat.le_of_ble_eq_true rfl) (Nat.le_of_ble_eq_true rfl) (Nat.le_of_ble_eq_true rfl) (by first | (simp only [rm_tLink, c_1, rm_cl hxn, c_5, rm_cl hyn, if_pos c_10, ↓reduceIte, Bool.false_eq_true, rm_or_n, rm_or_s]; done) | (simp only [rm_tLink, c_1, rm_cl hxn, c_5, rm_cl hyn, if_pos c_10, ↓reduceIte, Bool.false_eq_true, rm_or_n, rm_or_s]; rfl))
set_option maxHeartbeats 4000000 in
set_option maxRecDepth 100000 in
theorem kX0_makeRoot (l : Launch) (hfl : l.stackTraces = false) (k : rm_K) (a : Nat → Nat) (ha : rm_inj a) (σ : rm_St) (x : Int32) : rm_XI l k a yX0_makeRoot wsX0_makeRoot ({ frames := 7, cells := 2, slots := 12, locals := 110 }) [.int x] σ (rm_tMake σ x) (rm_begin (rm_mk σ x.toNatClampNeg) x.toNatClampNeg 8 x.toNatClampNeg) (rm_begin (rm_mk σ x.toNatClampNeg) x.toNatClampNeg) := by
  refine rm_enterXI (cc := cX0_makeRoot) (nL := 2) (ret := (some .int)) ha (by decide) rfl rfl (by decide +kernel) (Nat.le_of_ble_eq_true rfl) ?_
  intro p e s m args below meth c ls C hr hlocks htab hTh hw hl
  have hx := C.1.1
  have hb := C.1.2.1
  have hts := C.1.2.2.2.2
  have hA : ∀ q, s.heap.size ≤ q → rm_A a s.heap.size q := fun q h => Or.inr h
  replace hl : lv_has ls 2 [(0, .ref (a 0)), (1, .int x)] := hl
  refine lv_iload_n hx hb dX0_makeRoot_0 rfl (lv_at hl 1 rfl) ?_
  refine rm_callXS C hlocks htab hTh hw (As := [.int x]) (rest := []) (kX0_requireNode l hfl (x)) (va_cwS 1 hts gX0_makeRoot_X0_requireNode rfl rfl rfl (by decide +kernel) ⟨Nat.le_of_ble_eq_true rfl, Nat.le_of_ble_eq_true rfl⟩) rfl hl.1 rfl (lv_room (Nat.le_of_ble_eq_true rfl)) dX0_makeRoot_1 ⟨Nat.le_of_ble_eq_true rfl, Nat.le_of_ble_eq_true rfl⟩ (Nat.le_of_ble_eq_true rfl) (Nat.le_of_ble_eq_true rfl) (fun E hE => by simp only [rm_tMake, hE, rm_or_n, rm_or_s, ↓reduceIte, Bool.false_eq_true]) (fun c_1 H locs hw => ?_)
  obtain ⟨xn, hxn, rfl⟩ := rm_tN_none c_1
  refine lv_aload_n hx hb dX0_makeRoot_4 rfl (lv_at hl 0 rfl) ?_
  refine rm_geta C hw 10 5 (by decide) rfl (hts _ (by decide +kernel)) rfl dX0_makeRoot_5 ?_
  refine lv_iload_n hx hb dX0_makeRoot_8 rfl (lv_at hl 1 rfl) ?_
  refine rm_zald C hw hxn dX0_makeRoot_9 ?_
  refine lv_if_eq (tgt := 23) hx hb dX0_makeRoot_10 (by decide) (fun c_10 => ?_) (fun c_10 => ?_)
  · skip
    refine lv_aload_n hx hb dX0_makeRoot_23 rfl (lv_at hl 0 rfl) ?_
    refine rm_geta C hw 10 5 (by decide) rfl (hts _ (by decide +kernel)) rfl dX0_makeRoot_24 ?_
    refine lv_iload_n hx hb dX0_makeRoot_27 rfl (lv_at hl 1 rfl) ?_
    refine lv_iconst (v := 1) hx hb dX0_makeRoot_28 (by decide) ?_
    refine rm_zast C hw hxn (by decide) dX0_makeRoot_29 (fun H locs hw => ?_)
    refine lv_aload_n hx hb dX0_makeRoot_30 rfl (lv_at hl 0 rfl) ?_
    refine rm_geta C hw 12 7 (by decide) rfl (hts _ (by decide +kernel)) rfl dX0_makeRoot_31 ?_
    refine lv_iload_n hx hb dX0_makeRoot_34 rfl (lv_at hl 1 rfl) ?_
    refine lv_iload_n hx hb dX0_makeRoot_35 rfl (lv_at hl 1 rfl) ?_
    refine rm_iast C hw (by decide) hxn dX0_makeRoot_36 (fun H locs hw => ?_)
    refine lv_aload_n hx hb dX0_makeRoot_37 rfl (lv_at hl 0 rfl) ?_
    refine rm_geta C hw 14 9 (by decide) rfl (hts _ (by decide +kernel)) rfl dX0_makeRoot_38 ?_
    refine lv_iload_n hx hb dX0_makeRoot_41 rfl (lv_at hl 1 rfl) ?_
    refine lv_iconst (v := 0) hx hb dX0_makeRoot_42 (by decide) ?_
    refine rm_iast C hw (by decide) hxn dX0_makeRoot_43 (fun H locs hw => ?_)
    refine lv_aload_n hx hb dX0_makeRoot_44 rfl (lv_at hl 0 rfl) ?_
    refine rm_geta C hw 15 10 (by decide) rfl (hts _ (by decide +kernel)) rfl dX0_makeRoot_45 ?_
    refine lv_iload_n hx hb dX0_makeRoot_48 rfl (lv_at hl 1 rfl) ?_
    refine lv_iconst (v := 0) hx hb dX0_makeRoot_49 (by decide) ?_
    refine rm_iast C hw (by decide) hxn dX0_makeRoot_50 (fun H locs hw => ?_)
    refine lv_aload_n hx hb dX0_makeRoot_51 rfl (lv_at hl 0 rfl) ?_
    refine rm_geta C hw 16 11 (by decide) rfl (hts _ (by decide +kernel)) rfl dX0_makeRoot_52 ?_
    refine lv_iload_n hx hb dX0_makeRoot_55 rfl (lv_at hl 1 rfl) ?_
    refine lv_iconst (v := (-1)) hx hb dX0_makeRoot_56 (by decide) ?_
    refine rm_iast C hw (by decide) hxn dX0_makeRoot_57 (fun H locs hw => ?_)
    refine lv_aload_n hx hb dX0_makeRoot_58 rfl (lv_at hl 0 rfl) ?_
    refine lv_iload_n hx hb dX0_makeRoot_59 rfl (lv_at hl 1 rfl) ?_
    refine rm_callI C hw hA (As := [.int (nI xn)]) (rest := []) (kX0_beginVersion l k a ha (rm_up (rm_up (rm_up (rm_up (rm_up σ 5 xn (1)) 7 xn (nI xn)) 9 xn (0)) 10 xn (0)) 11 xn ((-1))) xn hxn) (cwV 1 hts gX0_makeRoot_X0_beginVersion rfl rfl rfl (by decide +kernel) ⟨Nat.le_of_ble_eq_true rfl, Nat.le_of_ble_eq_true rfl⟩) rfl hl.1 rfl (lv_room (Nat.le_of_ble_eq_true rfl)) dX0_makeRoot_60 ⟨Nat.le_of_ble_eq_true rfl, Nat.le_of_ble_eq_true rfl⟩ (fun H locs hw => ?_)
    exact rm_xret C hr hlocks hw (Nat.le_of_ble_eq_true rfl) (Nat.le_of_ble_eq_true rfl) dX0_makeRoot_63 ⟨by first | (simp only [rm_tMake, c_1, rm_cl hxn, if_pos c_10, ↓reduceIte, Bool.false_eq_true, rm_or_n, rm_or_s]; done) | (simp only [rm_tMake, c_1, rm_cl hxn, if_pos c_10, ↓reduceIte, Bool.false_eq_true, rm_or_n, rm_or_s]; rfl), by first | with_reducible rfl | (simp only [rm_mk, c_1, rm_cl hxn, if_pos c_10, ↓reduceIte, Bool.false_eq_true]; done) | (simp only [rm_mk, c_1, rm_cl hxn, if_pos c_10, ↓reduceIte, Bool.false_eq_true]; rfl) | rfl, by first | with_reducible rfl | (simp only [rm_mk, c_1, rm_cl hxn, if_pos c_10, ↓reduceIte, Bool.false_eq_true]; done) | (simp only [rm_mk, c_1, rm_cl hxn, if_pos c_10, ↓reduceIte, Bool.false_eq_true]; rfl) | rfl⟩
  · skip
    exact rm_throwS C hfl hlocks htab hTh hw (by decide +kernel) (by decide +kernel) (by decide +kernel) hTh.2.2.1.2.1 (by decide +kernel) rm_nb3 hTh.2.2.2.2.2.2.2.2 rm_ot3 hl.1 dX0_makeRoot_13 dX0_makeRoot_16 dX0_makeRoot_17 dX0_makeRoot_19 dX0_makeRoot_22 (Nat.le_of_ble_eq_true rfl) (Nat.le_of_ble_eq_true rfl) (Nat.le_of_ble_eq_true rfl) (Nat.le_of_ble_eq_true rfl) (Nat.le_of_ble_eq_true rfl) (Nat.le_of_ble_eq_true rfl) (by first | (simp only [rm_tMake, c_1, rm_cl hxn, if_neg c_10, ↓reduceIte, Bool.false_eq_true, rm_or_n, rm_or_s]; done) | (simp only [rm_tMake, c_1, rm_cl hxn, if_neg c_10, ↓reduceIte, Bool.false_eq_true, rm_or_n, rm_or_s]; rfl))
set_option maxHeartbeats 4000000 in
set_option maxRecDepth 100000 in
theorem kX0_endRoot (l : Launch) (hfl : l.stackTraces = false) (k : rm_K) (a : Nat → Nat) (ha : rm_inj a) (σ : rm_St) (x : Int32) : rm_XV l k a yX0_endRoot wsX0_endRoot ({ frames := 8, cells := 2, slots := 12, locals := 131 }) [.int x] σ (rm_tRoot σ x)  (rm_choose (rm_reset (rm_clear (rm_up σ 5 x.toNatClampNeg 0) x.toNatClampNeg) x.toNatClampNeg) x.toNatClampNeg) := by
  refine rm_enterXV (cc := cX0_endRoot) (nL := 2) (ret := none) ha (by decide) rfl rfl (by decide +kernel) (Nat.le_of_ble_eq_true rfl) ?_
  intro p e s m args below meth c ls C hr hlocks htab hTh hw hl
  have hx := C.1.1
  have hb := C.1.2.1
  have hts := C.1.2.2.2.2
  have hA : ∀ q, s.heap.size ≤ q → rm_A a s.heap.size q := fun q h => Or.inr h
  replace hl : lv_has ls 2 [(0, .ref (a 0)), (1, .int x)] := hl
  refine lv_aload_n hx hb dX0_endRoot_0 rfl (lv_at hl 0 rfl) ?_
  refine lv_iload_n hx hb dX0_endRoot_1 rfl (lv_at hl 1 rfl) ?_
  refine rm_callXV C hlocks htab hTh hw (As := [.int x]) (rest := []) (kX0_requireRoot l hfl k a ha σ (x)) (cwV 1 hts gX0_endRoot_X0_requireRoot rfl rfl rfl (by decide +kernel) ⟨Nat.le_of_ble_eq_true rfl, Nat.le_of_ble_eq_true rfl⟩) rfl hl.1 rfl (lv_room (Nat.le_of_ble_eq_true rfl)) dX0_endRoot_2 ⟨Nat.le_of_ble_eq_true rfl, Nat.le_of_ble_eq_true rfl⟩ (Nat.le_of_ble_eq_true rfl) (Nat.le_of_ble_eq_true rfl) (fun E hE => by simp only [hE, rm_or_n, rm_or_s, ↓reduceIte, Bool.false_eq_true]) (fun c_2 H locs hw => ?_)
  obtain ⟨xn, hxn, rfl⟩ := rm_tRoot_none c_2
  refine lv_aload_n hx hb dX0_endRoot_5 rfl (lv_at hl 0 rfl) ?_
  refine rm_geta C hw 10 5 (by decide) rfl (hts _ (by decide +kernel)) rfl dX0_endRoot_6 ?_
  refine lv_iload_n hx hb dX0_endRoot_9 rfl (lv_at hl 1 rfl) ?_
  refine lv_iconst (v := 0) hx hb dX0_endRoot_10 (by decide) ?_
  refine rm_zast C hw hxn (by decide) dX0_endRoot_11 (fun H locs hw => ?_)
  refine lv_aload_n hx hb dX0_endRoot_12 rfl (lv_at hl 0 rfl) ?_
  refine lv_iload_n hx hb dX0_endRoot_13 rfl (lv_at hl 1 rfl) ?_
  refine rm_callV C hw hA (As := [.int (nI xn)]) (rest := []) (kX0_clearNode l k a ha (rm_up σ 5 xn (0)) xn hxn) (cwV 1 hts gX0_endRoot_X0_clearNode rfl rfl rfl (by decide +kernel) ⟨Nat.le_of_ble_eq_true rfl, Nat.le_of_ble_eq_true rfl⟩) rfl hl.1 rfl (lv_room (Nat.le_of_ble_eq_true rfl)) dX0_endRoot_14 ⟨Nat.le_of_ble_eq_true rfl, Nat.le_of_ble_eq_true rfl⟩ (fun H locs hw => ?_)
  refine lv_aload_n hx hb dX0_endRoot_17 rfl (lv_at hl 0 rfl) ?_
  refine lv_iload_n hx hb dX0_endRoot_18 rfl (lv_at hl 1 rfl) ?_
  refine rm_callV C hw hA (As := [.int (nI xn)]) (rest := []) (kX0_resetTimer l k a ha (rm_clear (rm_up σ 5 xn (0)) xn) xn hxn) (cwV 1 hts gX0_endRoot_X0_resetTimer rfl rfl rfl (by decide +kernel) ⟨Nat.le_of_ble_eq_true rfl, Nat.le_of_ble_eq_true rfl⟩) rfl hl.1 rfl (lv_room (Nat.le_of_ble_eq_true rfl)) dX0_endRoot_19 ⟨Nat.le_of_ble_eq_true rfl, Nat.le_of_ble_eq_true rfl⟩ (fun H locs hw => ?_)
  refine lv_aload_n hx hb dX0_endRoot_22 rfl (lv_at hl 0 rfl) ?_
  refine lv_iload_n hx hb dX0_endRoot_23 rfl (lv_at hl 1 rfl) ?_
  refine rm_callV C hw hA (As := [.int (nI xn)]) (rest := []) (kX0_choose l k a ha (rm_reset (rm_clear (rm_up σ 5 xn (0)) xn) xn) xn hxn) (cwV 1 hts gX0_endRoot_X0_choose rfl rfl rfl (by decide +kernel) ⟨Nat.le_of_ble_eq_true rfl, Nat.le_of_ble_eq_true rfl⟩) rfl hl.1 rfl (lv_room (Nat.le_of_ble_eq_true rfl)) dX0_endRoot_24 ⟨Nat.le_of_ble_eq_true rfl, Nat.le_of_ble_eq_true rfl⟩ (fun H locs hw => ?_)
  exact rm_xvret C hr hlocks hw (Nat.le_of_ble_eq_true rfl) (Nat.le_of_ble_eq_true rfl) dX0_endRoot_27 ⟨by first | (simp only [c_2, rm_cl hxn, ↓reduceIte, Bool.false_eq_true, rm_or_n, rm_or_s]; done) | (simp only [c_2, rm_cl hxn, ↓reduceIte, Bool.false_eq_true, rm_or_n, rm_or_s]; rfl), by first | with_reducible rfl | (simp only [c_2, rm_cl hxn, ↓reduceIte, Bool.false_eq_true]; done) | (simp only [c_2, rm_cl hxn, ↓reduceIte, Bool.false_eq_true]; rfl) | rfl⟩
set_option maxHeartbeats 4000000 in
set_option maxRecDepth 100000 in
theorem kX0_renew (l : Launch) (hfl : l.stackTraces = false) (k : rm_K) (a : Nat → Nat) (ha : rm_inj a) (σ : rm_St) (x : Int32) : rm_XI l k a yX0_renew wsX0_renew ({ frames := 8, cells := 2, slots := 12, locals := 131 }) [.int x] σ (rm_tRoot σ x) (rm_begin σ x.toNatClampNeg 8 x.toNatClampNeg) (rm_begin σ x.toNatClampNeg) := by
  refine rm_enterXI (cc := cX0_renew) (nL := 2) (ret := (some .int)) ha (by decide) rfl rfl (by decide +kernel) (Nat.le_of_ble_eq_true rfl) ?_
  intro p e s m args below meth c ls C hr hlocks htab hTh hw hl
  have hx := C.1.1
  have hb := C.1.2.1
  have hts := C.1.2.2.2.2
  have hA : ∀ q, s.heap.size ≤ q → rm_A a s.heap.size q := fun q h => Or.inr h
  replace hl : lv_has ls 2 [(0, .ref (a 0)), (1, .int x)] := hl
  refine lv_aload_n hx hb dX0_renew_0 rfl (lv_at hl 0 rfl) ?_
  refine lv_iload_n hx hb dX0_renew_1 rfl (lv_at hl 1 rfl) ?_
  refine rm_callXV C hlocks htab hTh hw (As := [.int x]) (rest := []) (kX0_requireRoot l hfl k a ha σ (x)) (cwV 1 hts gX0_renew_X0_requireRoot rfl rfl rfl (by decide +kernel) ⟨Nat.le_of_ble_eq_true rfl, Nat.le_of_ble_eq_true rfl⟩) rfl hl.1 rfl (lv_room (Nat.le_of_ble_eq_true rfl)) dX0_renew_2 ⟨Nat.le_of_ble_eq_true rfl, Nat.le_of_ble_eq_true rfl⟩ (Nat.le_of_ble_eq_true rfl) (Nat.le_of_ble_eq_true rfl) (fun E hE => by simp only [hE, rm_or_n, rm_or_s, ↓reduceIte, Bool.false_eq_true]) (fun c_2 H locs hw => ?_)
  obtain ⟨xn, hxn, rfl⟩ := rm_tRoot_none c_2
  refine lv_aload_n hx hb dX0_renew_5 rfl (lv_at hl 0 rfl) ?_
  refine lv_iload_n hx hb dX0_renew_6 rfl (lv_at hl 1 rfl) ?_
  refine rm_callI C hw hA (As := [.int (nI xn)]) (rest := []) (kX0_beginVersion l k a ha σ xn hxn) (cwV 1 hts gX0_renew_X0_beginVersion rfl rfl rfl (by decide +kernel) ⟨Nat.le_of_ble_eq_true rfl, Nat.le_of_ble_eq_true rfl⟩) rfl hl.1 rfl (lv_room (Nat.le_of_ble_eq_true rfl)) dX0_renew_7 ⟨Nat.le_of_ble_eq_true rfl, Nat.le_of_ble_eq_true rfl⟩ (fun H locs hw => ?_)
  exact rm_xret C hr hlocks hw (Nat.le_of_ble_eq_true rfl) (Nat.le_of_ble_eq_true rfl) dX0_renew_10 ⟨by first | (simp only [c_2, rm_cl hxn, ↓reduceIte, Bool.false_eq_true, rm_or_n, rm_or_s]; done) | (simp only [c_2, rm_cl hxn, ↓reduceIte, Bool.false_eq_true, rm_or_n, rm_or_s]; rfl), by first | with_reducible rfl | (simp only [c_2, rm_cl hxn, ↓reduceIte, Bool.false_eq_true]; done) | (simp only [c_2, rm_cl hxn, ↓reduceIte, Bool.false_eq_true]; rfl) | rfl, by first | with_reducible rfl | (simp only [c_2, rm_cl hxn, ↓reduceIte, Bool.false_eq_true]; done) | (simp only [c_2, rm_cl hxn, ↓reduceIte, Bool.false_eq_true]; rfl) | rfl⟩
set_option maxHeartbeats 4000000 in
set_option maxRecDepth 100000 in
theorem kX0_rank (l : Launch) (hfl : l.stackTraces = false) (k : rm_K) (a : Nat → Nat) (ha : rm_inj a) (σ : rm_St) (x : Int32) : rm_XI l k a yX0_rank wsX0_rank ({ frames := 7, cells := 1, slots := 6, locals := 110 }) [.int x] σ (rm_tN x) (σ 9 x.toNatClampNeg) σ := by
  refine rm_enterXI (cc := cX0_rank) (nL := 2) (ret := (some .int)) ha (by decide) rfl rfl (by decide +kernel) (Nat.le_of_ble_eq_true rfl) ?_
  intro p e s m args below meth c ls C hr hlocks htab hTh hw hl
  have hx := C.1.1
  have hb := C.1.2.1
  have hts := C.1.2.2.2.2
  have hA : ∀ q, s.heap.size ≤ q → rm_A a s.heap.size q := fun q h => Or.inr h
  replace hl : lv_has ls 2 [(0, .ref (a 0)), (1, .int x)] := hl
  refine lv_iload_n hx hb dX0_rank_0 rfl (lv_at hl 1 rfl) ?_
  refine rm_callXS C hlocks htab hTh hw (As := [.int x]) (rest := []) (kX0_requireNode l hfl (x)) (va_cwS 1 hts gX0_rank_X0_requireNode rfl rfl rfl (by decide +kernel) ⟨Nat.le_of_ble_eq_true rfl, Nat.le_of_ble_eq_true rfl⟩) rfl hl.1 rfl (lv_room (Nat.le_of_ble_eq_true rfl)) dX0_rank_1 ⟨Nat.le_of_ble_eq_true rfl, Nat.le_of_ble_eq_true rfl⟩ (Nat.le_of_ble_eq_true rfl) (Nat.le_of_ble_eq_true rfl) (fun E hE => by simp only [hE, rm_or_n, rm_or_s, ↓reduceIte, Bool.false_eq_true]) (fun c_1 H locs hw => ?_)
  obtain ⟨xn, hxn, rfl⟩ := rm_tN_none c_1
  refine lv_aload_n hx hb dX0_rank_4 rfl (lv_at hl 0 rfl) ?_
  refine rm_geta C hw 14 9 (by decide) rfl (hts _ (by decide +kernel)) rfl dX0_rank_5 ?_
  refine lv_iload_n hx hb dX0_rank_8 rfl (lv_at hl 1 rfl) ?_
  refine rm_iald C hw (by decide) hxn dX0_rank_9 ?_
  exact rm_xret C hr hlocks hw (Nat.le_of_ble_eq_true rfl) (Nat.le_of_ble_eq_true rfl) dX0_rank_10 ⟨by first | (simp only [c_1, rm_cl hxn, ↓reduceIte, Bool.false_eq_true, rm_or_n, rm_or_s]; done) | (simp only [c_1, rm_cl hxn, ↓reduceIte, Bool.false_eq_true, rm_or_n, rm_or_s]; rfl), by first | with_reducible rfl | (simp only [c_1, rm_cl hxn, ↓reduceIte, Bool.false_eq_true]; done) | (simp only [c_1, rm_cl hxn, ↓reduceIte, Bool.false_eq_true]; rfl) | rfl, by first | with_reducible rfl | (simp only [c_1, rm_cl hxn, ↓reduceIte, Bool.false_eq_true]; done) | (simp only [c_1, rm_cl hxn, ↓reduceIte, Bool.false_eq_true]; rfl) | rfl⟩
set_option maxHeartbeats 4000000 in
set_option maxRecDepth 100000 in
theorem kX0_parent (l : Launch) (hfl : l.stackTraces = false) (k : rm_K) (a : Nat → Nat) (ha : rm_inj a) (σ : rm_St) (x : Int32) : rm_XI l k a yX0_parent wsX0_parent ({ frames := 7, cells := 1, slots := 6, locals := 110 }) [.int x] σ (rm_tN x) (σ 11 x.toNatClampNeg) σ := by
  refine rm_enterXI (cc := cX0_parent) (nL := 2) (ret := (some .int)) ha (by decide) rfl rfl (by decide +kernel) (Nat.le_of_ble_eq_true rfl) ?_
  intro p e s m args below meth c ls C hr hlocks htab hTh hw hl
  have hx := C.1.1
  have hb := C.1.2.1
  have hts := C.1.2.2.2.2
  have hA : ∀ q, s.heap.size ≤ q → rm_A a s.heap.size q := fun q h => Or.inr h
  replace hl : lv_has ls 2 [(0, .ref (a 0)), (1, .int x)] := hl
  refine lv_iload_n hx hb dX0_parent_0 rfl (lv_at hl 1 rfl) ?_
  refine rm_callXS C hlocks htab hTh hw (As := [.int x]) (rest := []) (kX0_requireNode l hfl (x)) (va_cwS 1 hts gX0_parent_X0_requireNode rfl rfl rfl (by decide +kernel) ⟨Nat.le_of_ble_eq_true rfl, Nat.le_of_ble_eq_true rfl⟩) rfl hl.1 rfl (lv_room (Nat.le_of_ble_eq_true rfl)) dX0_parent_1 ⟨Nat.le_of_ble_eq_true rfl, Nat.le_of_ble_eq_true rfl⟩ (Nat.le_of_ble_eq_true rfl) (Nat.le_of_ble_eq_true rfl) (fun E hE => by simp only [hE, rm_or_n, rm_or_s, ↓reduceIte, Bool.false_eq_true]) (fun c_1 H locs hw => ?_)
  obtain ⟨xn, hxn, rfl⟩ := rm_tN_none c_1
  refine lv_aload_n hx hb dX0_parent_4 rfl (lv_at hl 0 rfl) ?_
  refine rm_geta C hw 16 11 (by decide) rfl (hts _ (by decide +kernel)) rfl dX0_parent_5 ?_
  refine lv_iload_n hx hb dX0_parent_8 rfl (lv_at hl 1 rfl) ?_
  refine rm_iald C hw (by decide) hxn dX0_parent_9 ?_
  exact rm_xret C hr hlocks hw (Nat.le_of_ble_eq_true rfl) (Nat.le_of_ble_eq_true rfl) dX0_parent_10 ⟨by first | (simp only [c_1, rm_cl hxn, ↓reduceIte, Bool.false_eq_true, rm_or_n, rm_or_s]; done) | (simp only [c_1, rm_cl hxn, ↓reduceIte, Bool.false_eq_true, rm_or_n, rm_or_s]; rfl), by first | with_reducible rfl | (simp only [c_1, rm_cl hxn, ↓reduceIte, Bool.false_eq_true]; done) | (simp only [c_1, rm_cl hxn, ↓reduceIte, Bool.false_eq_true]; rfl) | rfl, by first | with_reducible rfl | (simp only [c_1, rm_cl hxn, ↓reduceIte, Bool.false_eq_true]; done) | (simp only [c_1, rm_cl hxn, ↓reduceIte, Bool.false_eq_true]; rfl) | rfl⟩
set_option maxHeartbeats 4000000 in
set_option maxRecDepth 100000 in
theorem kX0_nextTelling (l : Launch) (hfl : l.stackTraces = false) (k : rm_K) (a : Nat → Nat) (ha : rm_inj a) (σ : rm_St) (x : Int32) : rm_XI l k a yX0_nextTelling wsX0_nextTelling ({ frames := 7, cells := 1, slots := 6, locals := 110 }) [.int x] σ (rm_tN x) (σ 13 x.toNatClampNeg) σ := by
  refine rm_enterXI (cc := cX0_nextTelling) (nL := 2) (ret := (some .int)) ha (by decide) rfl rfl (by decide +kernel) (Nat.le_of_ble_eq_true rfl) ?_
  intro p e s m args below meth c ls C hr hlocks htab hTh hw hl
  have hx := C.1.1
  have hb := C.1.2.1
  have hts := C.1.2.2.2.2
  have hA : ∀ q, s.heap.size ≤ q → rm_A a s.heap.size q := fun q h => Or.inr h
  replace hl : lv_has ls 2 [(0, .ref (a 0)), (1, .int x)] := hl
  refine lv_iload_n hx hb dX0_nextTelling_0 rfl (lv_at hl 1 rfl) ?_
  refine rm_callXS C hlocks htab hTh hw (As := [.int x]) (rest := []) (kX0_requireNode l hfl (x)) (va_cwS 1 hts gX0_nextTelling_X0_requireNode rfl rfl rfl (by decide +kernel) ⟨Nat.le_of_ble_eq_true rfl, Nat.le_of_ble_eq_true rfl⟩) rfl hl.1 rfl (lv_room (Nat.le_of_ble_eq_true rfl)) dX0_nextTelling_1 ⟨Nat.le_of_ble_eq_true rfl, Nat.le_of_ble_eq_true rfl⟩ (Nat.le_of_ble_eq_true rfl) (Nat.le_of_ble_eq_true rfl) (fun E hE => by simp only [hE, rm_or_n, rm_or_s, ↓reduceIte, Bool.false_eq_true]) (fun c_1 H locs hw => ?_)
  obtain ⟨xn, hxn, rfl⟩ := rm_tN_none c_1
  refine lv_aload_n hx hb dX0_nextTelling_4 rfl (lv_at hl 0 rfl) ?_
  refine rm_geta C hw 18 13 (by decide) rfl (hts _ (by decide +kernel)) rfl dX0_nextTelling_5 ?_
  refine lv_iload_n hx hb dX0_nextTelling_8 rfl (lv_at hl 1 rfl) ?_
  refine rm_iald C hw (by decide) hxn dX0_nextTelling_9 ?_
  exact rm_xret C hr hlocks hw (Nat.le_of_ble_eq_true rfl) (Nat.le_of_ble_eq_true rfl) dX0_nextTelling_10 ⟨by first | (simp only [c_1, rm_cl hxn, ↓reduceIte, Bool.false_eq_true, rm_or_n, rm_or_s]; done) | (simp only [c_1, rm_cl hxn, ↓reduceIte, Bool.false_eq_true, rm_or_n, rm_or_s]; rfl), by first | with_reducible rfl | (simp only [c_1, rm_cl hxn, ↓reduceIte, Bool.false_eq_true]; done) | (simp only [c_1, rm_cl hxn, ↓reduceIte, Bool.false_eq_true]; rfl) | rfl, by first | with_reducible rfl | (simp only [c_1, rm_cl hxn, ↓reduceIte, Bool.false_eq_true]; done) | (simp only [c_1, rm_cl hxn, ↓reduceIte, Bool.false_eq_true]; rfl) | rfl⟩
set_option maxHeartbeats 4000000 in
set_option maxRecDepth 100000 in
theorem kX0_tree (l : Launch) (hfl : l.stackTraces = false) (k : rm_K) (a : Nat → Nat) (ha : rm_inj a) (σ : rm_St) (x : Int32) : rm_XI l k a yX0_tree wsX0_tree ({ frames := 7, cells := 1, slots := 6, locals := 110 }) [.int x] σ (rm_tN x) (rm_tree σ x) σ := by
  refine rm_enterXI (cc := cX0_tree) (nL := 2) (ret := (some .int)) ha (by decide) rfl rfl (by decide +kernel) (Nat.le_of_ble_eq_true rfl) ?_
  intro p e s m args below meth c ls C hr hlocks htab hTh hw hl
  have hx := C.1.1
  have hb := C.1.2.1
  have hts := C.1.2.2.2.2
  have hA : ∀ q, s.heap.size ≤ q → rm_A a s.heap.size q := fun q h => Or.inr h
  replace hl : lv_has ls 2 [(0, .ref (a 0)), (1, .int x)] := hl
  refine lv_iload_n hx hb dX0_tree_0 rfl (lv_at hl 1 rfl) ?_
  refine rm_callXS C hlocks htab hTh hw (As := [.int x]) (rest := []) (kX0_requireNode l hfl (x)) (va_cwS 1 hts gX0_tree_X0_requireNode rfl rfl rfl (by decide +kernel) ⟨Nat.le_of_ble_eq_true rfl, Nat.le_of_ble_eq_true rfl⟩) rfl hl.1 rfl (lv_room (Nat.le_of_ble_eq_true rfl)) dX0_tree_1 ⟨Nat.le_of_ble_eq_true rfl, Nat.le_of_ble_eq_true rfl⟩ (Nat.le_of_ble_eq_true rfl) (Nat.le_of_ble_eq_true rfl) (fun E hE => by simp only [hE, rm_or_n, rm_or_s, ↓reduceIte, Bool.false_eq_true]) (fun c_1 H locs hw => ?_)
  obtain ⟨xn, hxn, rfl⟩ := rm_tN_none c_1
  refine lv_aload_n hx hb dX0_tree_4 rfl (lv_at hl 0 rfl) ?_
  refine rm_geta C hw 12 7 (by decide) rfl (hts _ (by decide +kernel)) rfl dX0_tree_5 ?_
  refine lv_iload_n hx hb dX0_tree_8 rfl (lv_at hl 1 rfl) ?_
  refine rm_iald C hw (by decide) hxn dX0_tree_9 ?_
  refine lv_iconst (v := (-1)) hx hb dX0_tree_10 (by decide) ?_
  refine lv_icmp_ne (tgt := 18) hx hb dX0_tree_11 (by decide) (fun c_11 => ?_) (fun c_11 => ?_)
  · skip
    refine lv_bipush (v := 10) hx hb dX0_tree_18 (by decide) ?_
    refine lv_aload_n hx hb dX0_tree_20 rfl (lv_at hl 0 rfl) ?_
    refine rm_geta C hw 13 8 (by decide) rfl (hts _ (by decide +kernel)) rfl dX0_tree_21 ?_
    refine lv_iload_n hx hb dX0_tree_24 rfl (lv_at hl 1 rfl) ?_
    refine rm_iald C hw (by decide) hxn dX0_tree_25 ?_
    refine lv_imul hx hb dX0_tree_26 ?_
    refine lv_aload_n hx hb dX0_tree_27 rfl (lv_at hl 0 rfl) ?_
    refine rm_geta C hw 12 7 (by decide) rfl (hts _ (by decide +kernel)) rfl dX0_tree_28 ?_
    refine lv_iload_n hx hb dX0_tree_31 rfl (lv_at hl 1 rfl) ?_
    refine rm_iald C hw (by decide) hxn dX0_tree_32 ?_
    refine lv_iadd hx hb dX0_tree_33 ?_
    exact rm_xret C hr hlocks hw (Nat.le_of_ble_eq_true rfl) (Nat.le_of_ble_eq_true rfl) dX0_tree_34 ⟨by first | (simp only [c_1, rm_cl hxn, if_neg c_11, ↓reduceIte, Bool.false_eq_true, rm_or_n, rm_or_s]; done) | (simp only [c_1, rm_cl hxn, if_neg c_11, ↓reduceIte, Bool.false_eq_true, rm_or_n, rm_or_s]; rfl), by first | with_reducible rfl | (simp only [rm_tree, c_1, rm_cl hxn, if_neg c_11, ↓reduceIte, Bool.false_eq_true]; done) | (simp only [rm_tree, c_1, rm_cl hxn, if_neg c_11, ↓reduceIte, Bool.false_eq_true]; rfl) | rfl, by first | with_reducible rfl | (simp only [rm_tree, c_1, rm_cl hxn, if_neg c_11, ↓reduceIte, Bool.false_eq_true]; done) | (simp only [rm_tree, c_1, rm_cl hxn, if_neg c_11, ↓reduceIte, Bool.false_eq_true]; rfl) | rfl⟩
  · skip
    refine lv_iconst (v := (-1)) hx hb dX0_tree_14 (by decide) ?_
    refine lv_goto (tgt := 34) hx hb dX0_tree_15 (by decide) ?_
    exact rm_xret C hr hlocks hw (Nat.le_of_ble_eq_true rfl) (Nat.le_of_ble_eq_true rfl) dX0_tree_34 ⟨by first | (simp only [c_1, rm_cl hxn, if_pos c_11, ↓reduceIte, Bool.false_eq_true, rm_or_n, rm_or_s]; done) | (simp only [c_1, rm_cl hxn, if_pos c_11, ↓reduceIte, Bool.false_eq_true, rm_or_n, rm_or_s]; rfl), by first | with_reducible rfl | (simp only [rm_tree, c_1, rm_cl hxn, if_pos c_11, ↓reduceIte, Bool.false_eq_true]; done) | (simp only [rm_tree, c_1, rm_cl hxn, if_pos c_11, ↓reduceIte, Bool.false_eq_true]; rfl) | rfl, by first | with_reducible rfl | (simp only [rm_tree, c_1, rm_cl hxn, if_pos c_11, ↓reduceIte, Bool.false_eq_true]; done) | (simp only [rm_tree, c_1, rm_cl hxn, if_pos c_11, ↓reduceIte, Bool.false_eq_true]; rfl) | rfl⟩
set_option maxHeartbeats 4000000 in
set_option maxRecDepth 100000 in
theorem kX0_heard (l : Launch) (hfl : l.stackTraces = false) (k : rm_K) (a : Nat → Nat) (ha : rm_inj a) (σ : rm_St) (x : Int32) (y : Int32) : rm_XI l k a yX0_heard wsX0_heard ({ frames := 7, cells := 2, slots := 12, locals := 110 }) [.int x, .int y] σ (rm_t2 x y) (σ (45 + x.toNatClampNeg) y.toNatClampNeg) σ := by
  refine rm_enterXI (cc := cX0_heard) (nL := 3) (ret := (some .int)) ha (by decide) rfl rfl (by decide +kernel) (Nat.le_of_ble_eq_true rfl) ?_
  intro p e s m args below meth c ls C hr hlocks htab hTh hw hl
  have hx := C.1.1
  have hb := C.1.2.1
  have hts := C.1.2.2.2.2
  have hA : ∀ q, s.heap.size ≤ q → rm_A a s.heap.size q := fun q h => Or.inr h
  replace hl : lv_has ls 3 [(0, .ref (a 0)), (1, .int x), (2, .int y)] := hl
  refine lv_iload_n hx hb dX0_heard_0 rfl (lv_at hl 1 rfl) ?_
  refine rm_callXS C hlocks htab hTh hw (As := [.int x]) (rest := []) (kX0_requireNode l hfl (x)) (va_cwS 1 hts gX0_heard_X0_requireNode rfl rfl rfl (by decide +kernel) ⟨Nat.le_of_ble_eq_true rfl, Nat.le_of_ble_eq_true rfl⟩) rfl hl.1 rfl (lv_room (Nat.le_of_ble_eq_true rfl)) dX0_heard_1 ⟨Nat.le_of_ble_eq_true rfl, Nat.le_of_ble_eq_true rfl⟩ (Nat.le_of_ble_eq_true rfl) (Nat.le_of_ble_eq_true rfl) (fun E hE => by simp only [rm_t2, hE, rm_or_n, rm_or_s, ↓reduceIte, Bool.false_eq_true]) (fun c_1 H locs hw => ?_)
  obtain ⟨xn, hxn, rfl⟩ := rm_tN_none c_1
  refine lv_iload_n hx hb dX0_heard_4 rfl (lv_at hl 2 rfl) ?_
  refine rm_callXS C hlocks htab hTh hw (As := [.int y]) (rest := []) (kX0_requireNode l hfl (y)) (va_cwS 1 hts gX0_heard_X0_requireNode rfl rfl rfl (by decide +kernel) ⟨Nat.le_of_ble_eq_true rfl, Nat.le_of_ble_eq_true rfl⟩) rfl hl.1 rfl (lv_room (Nat.le_of_ble_eq_true rfl)) dX0_heard_5 ⟨Nat.le_of_ble_eq_true rfl, Nat.le_of_ble_eq_true rfl⟩ (Nat.le_of_ble_eq_true rfl) (Nat.le_of_ble_eq_true rfl) (fun E hE => by simp only [rm_t2, hE, rm_or_n, rm_or_s, c_1, rm_cl hxn, ↓reduceIte, Bool.false_eq_true]) (fun c_5 H locs hw => ?_)
  obtain ⟨yn, hyn, rfl⟩ := rm_tN_none c_5
  refine lv_aload_n hx hb dX0_heard_8 rfl (lv_at hl 0 rfl) ?_
  refine rm_geta C hw 9 4 (by decide) rfl (hts _ (by decide +kernel)) rfl dX0_heard_9 ?_
  refine lv_iload_n hx hb dX0_heard_12 rfl (lv_at hl 1 rfl) ?_
  refine rm_aald C hw 45 (by decide) hxn dX0_heard_13 ?_
  refine lv_iload_n hx hb dX0_heard_14 rfl (lv_at hl 2 rfl) ?_
  refine rm_iald C hw ⟨by omega, by omega⟩ hyn dX0_heard_15 ?_
  exact rm_xret C hr hlocks hw (Nat.le_of_ble_eq_true rfl) (Nat.le_of_ble_eq_true rfl) dX0_heard_16 ⟨by first | (simp only [rm_t2, c_1, rm_cl hxn, c_5, rm_cl hyn, ↓reduceIte, Bool.false_eq_true, rm_or_n, rm_or_s]; done) | (simp only [rm_t2, c_1, rm_cl hxn, c_5, rm_cl hyn, ↓reduceIte, Bool.false_eq_true, rm_or_n, rm_or_s]; rfl), by first | with_reducible rfl | (simp only [c_1, rm_cl hxn, c_5, rm_cl hyn, ↓reduceIte, Bool.false_eq_true]; done) | (simp only [c_1, rm_cl hxn, c_5, rm_cl hyn, ↓reduceIte, Bool.false_eq_true]; rfl) | rfl, by first | with_reducible rfl | (simp only [c_1, rm_cl hxn, c_5, rm_cl hyn, ↓reduceIte, Bool.false_eq_true]; done) | (simp only [c_1, rm_cl hxn, c_5, rm_cl hyn, ↓reduceIte, Bool.false_eq_true]; rfl) | rfl⟩
end
section
set_option maxHeartbeats 4000000 in
set_option maxRecDepth 100000 in
theorem kX0_pass (l : Launch) (hfl : l.stackTraces = false) (k : rm_K) (a : Nat → Nat) (ha : rm_inj a) (σ : rm_St) (x : Int32) : rm_XI l k a yX0_pass wsX0_pass ({ frames := 7, cells := 1, slots := 6, locals := 158 }) [.int x] σ (rm_tR x 1 100) ((rm_pass σ x).2) ((rm_pass σ x).1) := by
  refine rm_enterXI (cc := cX0_pass) (nL := 4) (ret := (some .int)) ha (by decide) rfl rfl (by decide +kernel) (Nat.le_of_ble_eq_true rfl) ?_
  intro p e s m args below meth c ls C hr hlocks htab hTh hw hl
  have hx := C.1.1
  have hb := C.1.2.1
  have hts := C.1.2.2.2.2
  have hA : ∀ q, s.heap.size ≤ q → rm_A a s.heap.size q := fun q h => Or.inr h
  replace hl : lv_has ls 4 [(0, .ref (a 0)), (1, .int x)] := hl
  refine lv_iload_n hx hb dX0_pass_0 rfl (lv_at hl 1 rfl) ?_
  refine lv_iconst (v := 1) hx hb dX0_pass_1 (by decide) ?_
  refine lv_bipush (v := 100) hx hb dX0_pass_2 (by decide) ?_
  refine rm_callXS C hlocks htab hTh hw (As := [.int x, .int 1, .int 100]) (rest := []) (kX0_requireRange l hfl (x) (1) (100)) (va_cwS 3 hts gX0_pass_X0_requireRange rfl rfl rfl (by decide +kernel) ⟨Nat.le_of_ble_eq_true rfl, Nat.le_of_ble_eq_true rfl⟩) rfl hl.1 rfl (lv_room (Nat.le_of_ble_eq_true rfl)) dX0_pass_4 ⟨Nat.le_of_ble_eq_true rfl, Nat.le_of_ble_eq_true rfl⟩ (Nat.le_of_ble_eq_true rfl) (Nat.le_of_ble_eq_true rfl) (fun E hE => by simp only [hE, rm_or_n, rm_or_s, ↓reduceIte, Bool.false_eq_true]) (fun c_4 H locs hw => ?_)
  obtain ⟨T, hT1, hT2, rfl⟩ := rm_tT c_4
  have hTc : (nI T).toNatClampNeg = T := nI_clamp (by omega)
  refine lv_iconst (v := 0) hx hb dX0_pass_7 (by decide) ?_
  refine lv_istore_n (lv' := [(2, .int 0), (0, .ref (a 0)), (1, .int (nI T))]) hx hb dX0_pass_8 rfl hl (by decide) rfl (fun ls hl => ?_)
  refine lv_iconst (v := 0) hx hb dX0_pass_9 (by decide) ?_
  refine lv_istore_n (lv' := [(3, .int 0), (2, .int 0), (0, .ref (a 0)), (1, .int (nI T))]) hx hb dX0_pass_10 rfl hl (by decide) rfl (fun ls hl => ?_)
  have lp_11 : ∀ (r t : Nat), t + r = T → ∀ (x2 : Int32) (τ11 : rm_St), rm_passL r t x2 τ11 = rm_pass σ (nI T) → ∀ (H : Heap) (locs : List Loc), rm_Wd k a (rm_A a s.heap.size) s.heap s τ11 H locs → ∀ (ls : Array Slot), lv_has ls 4 [(0, .ref (a 0)), (1, .int (nI T)), (2, .int x2), (3, .int (nI t))] → W p l e (headSpec wsX0_pass ({ frames := 7, cells := 1, slots := 6, locals := 158 })).room s m args below meth c H locs 1 6 (vx_MQ below (va_Qi (fun (r : Int32) (τ : rm_St) => (rm_tR (nI T) 1 100) = none ∧ r = ((rm_pass σ (nI T)).2) ∧ τ = ((rm_pass σ (nI T)).1)) (fun τ t => rm_P k a τ t) (rm_A a s.heap.size)) (rm_XC k a σ (rm_tR (nI T) 1 100) (rm_A a s.heap.size)) args s 1 6 (rm_A a s.heap.size)) (F0 m 11 ls []) := by
    intro r
    induction r with
    | zero =>
      intro t hi11 x2 τ11 ht11 H locs hw ls hl
      obtain rfl : T = t := by omega
      have hz11 : (τ11, x2) = rm_pass σ (nI T) := ht11
      refine lv_iload_n hx hb dX0_pass_11 rfl (lv_at hl 3 rfl) ?_
      refine lv_iload_n hx hb dX0_pass_12 rfl (lv_at hl 1 rfl) ?_
      refine lv_icmp_ge (tgt := 29) hx hb dX0_pass_13 (by decide) (fun c_13 => ?_) (fun c_13 => ?_)
      · skip
        refine lv_iload_n hx hb dX0_pass_29 rfl (lv_at hl 2 rfl) ?_
        exact rm_xret C hr hlocks hw (Nat.le_of_ble_eq_true rfl) (Nat.le_of_ble_eq_true rfl) dX0_pass_30 ⟨by first | (simp only [c_4, hTc, ↓reduceIte, Bool.false_eq_true, rm_or_n, rm_or_s]; done) | (simp only [c_4, hTc, ↓reduceIte, Bool.false_eq_true, rm_or_n, rm_or_s]; rfl), by first | with_reducible rfl | with_reducible exact hz11 | (rw [← hz11]; done) | (rw [← hz11]; exact bI_f.symm) | (simp only [rm_pass, c_4, hTc, ↓reduceIte, Bool.false_eq_true]; rw [← hz11]; done) | (rw [← hz11]; simp only [rm_passL, ↓reduceIte, Bool.false_eq_true]; done) | (rw [← hz11]; simp only [rm_passL, ↓reduceIte, Bool.false_eq_true]; with_reducible rfl) | (rw [← hz11]; simp only [rm_passL, ↓reduceIte, Bool.false_eq_true]; rfl) | (simp only [rm_pass, c_4, hTc, ↓reduceIte, Bool.false_eq_true]; done) | (simp only [rm_pass, c_4, hTc, ↓reduceIte, Bool.false_eq_true]; with_reducible rfl), by first | with_reducible rfl | with_reducible exact hz11 | (rw [← hz11]; done) | (rw [← hz11]; exact bI_f.symm) | (simp only [rm_pass, c_4, hTc, ↓reduceIte, Bool.false_eq_true]; rw [← hz11]; done) | (rw [← hz11]; simp only [rm_passL, ↓reduceIte, Bool.false_eq_true]; done) | (rw [← hz11]; simp only [rm_passL, ↓reduceIte, Bool.false_eq_true]; with_reducible rfl) | (rw [← hz11]; simp only [rm_passL, ↓reduceIte, Bool.false_eq_true]; rfl) | (simp only [rm_pass, c_4, hTc, ↓reduceIte, Bool.false_eq_true]; done) | (simp only [rm_pass, c_4, hTc, ↓reduceIte, Bool.false_eq_true]; with_reducible rfl)⟩
      · exact absurd (nI_le (a := T) (b := T) (Nat.le_refl _) (by omega)) c_13
    | succ r ih11 =>
      intro t hi11 x2 τ11 ht11 H locs hw ls hl
      have hlt11 : t < T := by omega
      refine lv_iload_n hx hb dX0_pass_11 rfl (lv_at hl 3 rfl) ?_
      refine lv_iload_n hx hb dX0_pass_12 rfl (lv_at hl 1 rfl) ?_
      refine lv_icmp_ge (tgt := 29) hx hb dX0_pass_13 (by decide) (fun c_13 => ?_) (fun c_13 => ?_)
      · exact absurd c_13 (nI_ge (a := t) (b := T) (by omega) (by omega))
      · skip
        refine lv_iload_n hx hb dX0_pass_16 rfl (lv_at hl 2 rfl) ?_
        refine lv_aload_n hx hb dX0_pass_17 rfl (lv_at hl 0 rfl) ?_
        refine rm_callI C hw hA (As := []) (rest := [.int x2]) (kX0_passTick l k a ha τ11 ) (cwV 0 hts gX0_pass_X0_passTick rfl rfl rfl (by decide +kernel) ⟨Nat.le_of_ble_eq_true rfl, Nat.le_of_ble_eq_true rfl⟩) rfl hl.1 rfl (lv_room (Nat.le_of_ble_eq_true rfl)) dX0_pass_18 ⟨Nat.le_of_ble_eq_true rfl, Nat.le_of_ble_eq_true rfl⟩ (fun H locs hw => ?_)
        refine lv_iadd hx hb dX0_pass_21 ?_
        refine lv_istore_n (lv' := [(2, .int ((x2) + ((rm_tick τ11).2))), (0, .ref (a 0)), (1, .int (nI T)), (3, .int (nI t))]) hx hb dX0_pass_22 rfl hl (by decide) rfl (fun ls hl => ?_)
        refine lv_iinc (v := nI (t + 1)) (lv' := [(3, .int (nI (t + 1))), (2, .int ((x2) + ((rm_tick τ11).2))), (0, .ref (a 0)), (1, .int (nI T))]) hx hb dX0_pass_23 hl (k := 3) rfl (rm_inc t) (by decide) rfl (fun ls hl => ?_)
        refine lv_goto (tgt := 11) hx hb dX0_pass_26 (by decide) ?_
        exact ih11 (t + 1) (by omega) ((x2) + ((rm_tick τ11).2)) ((rm_tick τ11).1) (by refine Eq.trans ?_ ht11; first | with_reducible rfl | (simp only [rm_passL, ↓reduceIte, Bool.false_eq_true]; done) | (simp only [rm_passL, ↓reduceIte, Bool.false_eq_true]; with_reducible rfl)) _ _ hw _ (lv_sub hl [2, 3, 1, 0] rfl)
  exact lp_11 T 0 (by omega) (0) (σ) (by first | with_reducible rfl | (unfold rm_pass; with_reducible rfl) | (simp only [rm_pass, c_4, hTc, ↓reduceIte, Bool.false_eq_true]; done) | (simp only [rm_pass, c_4, hTc, ↓reduceIte, Bool.false_eq_true]; with_reducible rfl)) _ _ hw _ (lv_sub hl [2, 3, 1, 0] rfl)
set_option maxHeartbeats 4000000 in
set_option maxRecDepth 100000 in
theorem kX0_leastRank (l : Launch) (hfl : l.stackTraces = false) (k : rm_K) (a : Nat → Nat) (ha : rm_inj a) (σ : rm_St) (x : Int32) : rm_XI l k a yX0_leastRank wsX0_leastRank ({ frames := 7, cells := 1, slots := 6, locals := 110 }) [.int x] σ (rm_tN x) (rm_least σ 14 x.toNatClampNeg) (rm_least σ) := by
  refine rm_enterXI (cc := cX0_leastRank) (nL := 3) (ret := (some .int)) ha (by decide) rfl rfl (by decide +kernel) (Nat.le_of_ble_eq_true rfl) ?_
  intro p e s m args below meth c ls C hr hlocks htab hTh hw hl
  have hx := C.1.1
  have hb := C.1.2.1
  have hts := C.1.2.2.2.2
  have hA : ∀ q, s.heap.size ≤ q → rm_A a s.heap.size q := fun q h => Or.inr h
  replace hl : lv_has ls 3 [(0, .ref (a 0)), (1, .int x)] := hl
  refine lv_iload_n hx hb dX0_leastRank_0 rfl (lv_at hl 1 rfl) ?_
  refine rm_callXS C hlocks htab hTh hw (As := [.int x]) (rest := []) (kX0_requireNode l hfl (x)) (va_cwS 1 hts gX0_leastRank_X0_requireNode rfl rfl rfl (by decide +kernel) ⟨Nat.le_of_ble_eq_true rfl, Nat.le_of_ble_eq_true rfl⟩) rfl hl.1 rfl (lv_room (Nat.le_of_ble_eq_true rfl)) dX0_leastRank_1 ⟨Nat.le_of_ble_eq_true rfl, Nat.le_of_ble_eq_true rfl⟩ (Nat.le_of_ble_eq_true rfl) (Nat.le_of_ble_eq_true rfl) (fun E hE => by simp only [hE, rm_or_n, rm_or_s, ↓reduceIte, Bool.false_eq_true]) (fun c_1 H locs hw => ?_)
  obtain ⟨xn, hxn, rfl⟩ := rm_tN_none c_1
  refine lv_iconst (v := 0) hx hb dX0_leastRank_4 (by decide) ?_
  refine lv_istore_n (lv' := [(2, .int 0), (0, .ref (a 0)), (1, .int (nI xn))]) hx hb dX0_leastRank_5 rfl hl (by decide) rfl (fun ls hl => ?_)
  have lp_6 : ∀ (r i : Nat), i + r = 10 → ∀ (τ6 : rm_St), rm_wayI r i τ6 = rm_wayI 10 0 σ → ∀ (H : Heap) (locs : List Loc), rm_Wd k a (rm_A a s.heap.size) s.heap s τ6 H locs → ∀ (ls : Array Slot), lv_has ls 3 [(0, .ref (a 0)), (1, .int (nI xn)), (2, .int (nI i))] → W p l e (headSpec wsX0_leastRank ({ frames := 7, cells := 1, slots := 6, locals := 110 })).room s m args below meth c H locs 1 6 (vx_MQ below (va_Qi (fun (r : Int32) (τ : rm_St) => (rm_tN (nI xn)) = none ∧ r = (rm_least σ 14 (nI xn).toNatClampNeg) ∧ τ = (rm_least σ)) (fun τ t => rm_P k a τ t) (rm_A a s.heap.size)) (rm_XC k a σ (rm_tN (nI xn)) (rm_A a s.heap.size)) args s 1 6 (rm_A a s.heap.size)) (F0 m 6 ls []) := by
    intro r
    induction r with
    | zero =>
      intro i hi6 τ6 ht6 H locs hw ls hl
      obtain rfl : 10 = i := by omega
      have hz6 : τ6 = rm_wayI 10 0 σ := ht6
      refine lv_iload_n hx hb dX0_leastRank_6 rfl (lv_at hl 2 rfl) ?_
      refine lv_bipush (v := 10) hx hb dX0_leastRank_7 (by decide) ?_
      refine lv_icmp_ge (tgt := 40) hx hb dX0_leastRank_9 (by decide) (fun c_9 => ?_) (fun c_9 => ?_)
      · skip
        refine lv_iconst (v := 1) hx hb dX0_leastRank_40 (by decide) ?_
        refine lv_istore_n (lv' := [(2, .int 1), (0, .ref (a 0)), (1, .int (nI xn))]) hx hb dX0_leastRank_41 rfl hl (by decide) rfl (fun ls hl => ?_)
        have lp_42 : ∀ (r t : Nat), t + r = 10 → ∀ (τ42 : rm_St), rm_lwL r t τ42 = rm_lwL 9 1 (rm_wayI 10 0 σ) → ∀ (H : Heap) (locs : List Loc), rm_Wd k a (rm_A a s.heap.size) s.heap s τ42 H locs → ∀ (ls : Array Slot), lv_has ls 3 [(0, .ref (a 0)), (1, .int (nI xn)), (2, .int (nI t))] → W p l e (headSpec wsX0_leastRank ({ frames := 7, cells := 1, slots := 6, locals := 110 })).room s m args below meth c H locs 1 6 (vx_MQ below (va_Qi (fun (r : Int32) (τ : rm_St) => (rm_tN (nI xn)) = none ∧ r = (rm_least σ 14 (nI xn).toNatClampNeg) ∧ τ = (rm_least σ)) (fun τ t => rm_P k a τ t) (rm_A a s.heap.size)) (rm_XC k a σ (rm_tN (nI xn)) (rm_A a s.heap.size)) args s 1 6 (rm_A a s.heap.size)) (F0 m 42 ls []) := by
          intro r
          induction r with
          | zero =>
            intro t hi42 τ42 ht42 H locs hw ls hl
            obtain rfl : 10 = t := by omega
            have hz42 : τ42 = rm_lwL 9 1 (rm_wayI 10 0 σ) := ht42
            refine lv_iload_n hx hb dX0_leastRank_42 rfl (lv_at hl 2 rfl) ?_
            refine lv_bipush (v := 10) hx hb dX0_leastRank_43 (by decide) ?_
            refine lv_icmp_ge (tgt := 58) hx hb dX0_leastRank_45 (by decide) (fun c_45 => ?_) (fun c_45 => ?_)
            · skip
              refine lv_aload_n hx hb dX0_leastRank_58 rfl (lv_at hl 0 rfl) ?_
              refine rm_geta C hw 19 14 (by decide) rfl (hts _ (by decide +kernel)) rfl dX0_leastRank_59 ?_
              refine lv_iload_n hx hb dX0_leastRank_62 rfl (lv_at hl 1 rfl) ?_
              refine rm_iald C hw (by decide) hxn dX0_leastRank_63 ?_
              exact rm_xret C hr hlocks hw (Nat.le_of_ble_eq_true rfl) (Nat.le_of_ble_eq_true rfl) dX0_leastRank_64 ⟨by first | (simp only [c_1, rm_cl hxn, ↓reduceIte, Bool.false_eq_true, rm_or_n, rm_or_s]; done) | (simp only [c_1, rm_cl hxn, ↓reduceIte, Bool.false_eq_true, rm_or_n, rm_or_s]; rfl), by first | with_reducible rfl | with_reducible exact hz42 | (rw [← hz42]; done) | (rw [← hz42]; exact bI_f.symm) | (simp only [rm_least, c_1, rm_cl hxn, ↓reduceIte, Bool.false_eq_true]; rw [← hz42]; done) | (rw [← hz42]; simp only [rm_lwL, ↓reduceIte, Bool.false_eq_true]; done) | (rw [← hz42]; simp only [rm_lwL, ↓reduceIte, Bool.false_eq_true]; with_reducible rfl) | (rw [← hz42]; simp only [rm_lwL, ↓reduceIte, Bool.false_eq_true]; rfl) | with_reducible exact hz6 | (rw [← hz6]; done) | (rw [← hz6]; exact bI_f.symm) | (simp only [rm_least, c_1, rm_cl hxn, ↓reduceIte, Bool.false_eq_true]; rw [← hz6]; done) | (rw [← hz6]; simp only [rm_wayI, ↓reduceIte, Bool.false_eq_true]; done) | (rw [← hz6]; simp only [rm_wayI, ↓reduceIte, Bool.false_eq_true]; with_reducible rfl) | (rw [← hz6]; simp only [rm_wayI, ↓reduceIte, Bool.false_eq_true]; rfl) | (simp only [rm_least, c_1, rm_cl hxn, ↓reduceIte, Bool.false_eq_true]; done) | (simp only [rm_least, c_1, rm_cl hxn, ↓reduceIte, Bool.false_eq_true]; with_reducible rfl), by first | with_reducible rfl | with_reducible exact hz42 | (rw [← hz42]; done) | (rw [← hz42]; exact bI_f.symm) | (simp only [rm_least, c_1, rm_cl hxn, ↓reduceIte, Bool.false_eq_true]; rw [← hz42]; done) | (rw [← hz42]; simp only [rm_lwL, ↓reduceIte, Bool.false_eq_true]; done) | (rw [← hz42]; simp only [rm_lwL, ↓reduceIte, Bool.false_eq_true]; with_reducible rfl) | (rw [← hz42]; simp only [rm_lwL, ↓reduceIte, Bool.false_eq_true]; rfl) | with_reducible exact hz6 | (rw [← hz6]; done) | (rw [← hz6]; exact bI_f.symm) | (simp only [rm_least, c_1, rm_cl hxn, ↓reduceIte, Bool.false_eq_true]; rw [← hz6]; done) | (rw [← hz6]; simp only [rm_wayI, ↓reduceIte, Bool.false_eq_true]; done) | (rw [← hz6]; simp only [rm_wayI, ↓reduceIte, Bool.false_eq_true]; with_reducible rfl) | (rw [← hz6]; simp only [rm_wayI, ↓reduceIte, Bool.false_eq_true]; rfl) | (simp only [rm_least, c_1, rm_cl hxn, ↓reduceIte, Bool.false_eq_true]; done) | (simp only [rm_least, c_1, rm_cl hxn, ↓reduceIte, Bool.false_eq_true]; with_reducible rfl)⟩
            · exact absurd (show (10 : Int32) ≤ nI 10 from nI_le (a := 10) (b := 10) (Nat.le_refl _) (by decide)) c_45
          | succ r ih42 =>
            intro t hi42 τ42 ht42 H locs hw ls hl
            have hlt42 : t < 10 := by omega
            refine lv_iload_n hx hb dX0_leastRank_42 rfl (lv_at hl 2 rfl) ?_
            refine lv_bipush (v := 10) hx hb dX0_leastRank_43 (by decide) ?_
            refine lv_icmp_ge (tgt := 58) hx hb dX0_leastRank_45 (by decide) (fun c_45 => ?_) (fun c_45 => ?_)
            · exact absurd c_45 (nI_ge (a := t) (b := 10) hlt42 (by decide))
            · skip
              refine lv_aload_n hx hb dX0_leastRank_48 rfl (lv_at hl 0 rfl) ?_
              refine rm_callV C hw hA (As := []) (rest := []) (kX0_lowerWayCosts l k a ha τ42 ) (cwV 0 hts gX0_leastRank_X0_lowerWayCosts rfl rfl rfl (by decide +kernel) ⟨Nat.le_of_ble_eq_true rfl, Nat.le_of_ble_eq_true rfl⟩) rfl hl.1 rfl (lv_room (Nat.le_of_ble_eq_true rfl)) dX0_leastRank_49 ⟨Nat.le_of_ble_eq_true rfl, Nat.le_of_ble_eq_true rfl⟩ (fun H locs hw => ?_)
              refine lv_iinc (v := nI (t + 1)) (lv' := [(2, .int (nI (t + 1))), (0, .ref (a 0)), (1, .int (nI xn))]) hx hb dX0_leastRank_52 hl (k := 2) rfl (rm_inc t) (by decide) rfl (fun ls hl => ?_)
              refine lv_goto (tgt := 42) hx hb dX0_leastRank_55 (by decide) ?_
              exact ih42 (t + 1) (by omega) (rm_lower τ42) (by refine Eq.trans ?_ ht42; first | with_reducible rfl | (simp only [rm_lwL, ↓reduceIte, Bool.false_eq_true]; done) | (simp only [rm_lwL, ↓reduceIte, Bool.false_eq_true]; rw [← hz6]) | (simp only [rm_lwL, ↓reduceIte, Bool.false_eq_true]; with_reducible rfl)) _ _ hw _ (lv_sub hl [1, 2, 0] rfl)
        exact lp_42 9 1 (by omega) (τ6) (by first | with_reducible rfl | (unfold rm_least; with_reducible rfl) | (simp only [rm_least, c_1, rm_cl hxn, ↓reduceIte, Bool.false_eq_true]; done) | (simp only [rm_least, c_1, rm_cl hxn, ↓reduceIte, Bool.false_eq_true]; with_reducible rfl) | (rw [← hz6])) _ _ hw _ (lv_sub hl [1, 2, 0] rfl)
      · exact absurd (show (10 : Int32) ≤ nI 10 from nI_le (a := 10) (b := 10) (Nat.le_refl _) (by decide)) c_9
    | succ r ih6 =>
      intro i hi6 τ6 ht6 H locs hw ls hl
      have hlt6 : i < 10 := by omega
      refine lv_iload_n hx hb dX0_leastRank_6 rfl (lv_at hl 2 rfl) ?_
      refine lv_bipush (v := 10) hx hb dX0_leastRank_7 (by decide) ?_
      refine lv_icmp_ge (tgt := 40) hx hb dX0_leastRank_9 (by decide) (fun c_9 => ?_) (fun c_9 => ?_)
      · exact absurd c_9 (nI_ge (a := i) (b := 10) hlt6 (by decide))
      · skip
        refine lv_aload_n hx hb dX0_leastRank_12 rfl (lv_at hl 0 rfl) ?_
        refine rm_geta C hw 19 14 (by decide) rfl (hts _ (by decide +kernel)) rfl dX0_leastRank_13 ?_
        refine lv_iload_n hx hb dX0_leastRank_16 rfl (lv_at hl 2 rfl) ?_
        refine lv_aload_n hx hb dX0_leastRank_17 rfl (lv_at hl 0 rfl) ?_
        refine rm_geta C hw 10 5 (by decide) rfl (hts _ (by decide +kernel)) rfl dX0_leastRank_18 ?_
        refine lv_iload_n hx hb dX0_leastRank_21 rfl (lv_at hl 2 rfl) ?_
        refine rm_zald C hw hlt6 dX0_leastRank_22 ?_
        refine lv_if_eq (tgt := 30) hx hb dX0_leastRank_23 (by decide) (fun c_23 => ?_) (fun c_23 => ?_)
        · skip
          refine lv_sipush (v := 10000) hx hb dX0_leastRank_30 (by decide) ?_
          refine rm_iast C hw (by decide) hlt6 dX0_leastRank_33 (fun H locs hw => ?_)
          refine lv_iinc (v := nI (i + 1)) (lv' := [(2, .int (nI (i + 1))), (0, .ref (a 0)), (1, .int (nI xn))]) hx hb dX0_leastRank_34 hl (k := 2) rfl (rm_inc i) (by decide) rfl (fun ls hl => ?_)
          refine lv_goto (tgt := 6) hx hb dX0_leastRank_37 (by decide) ?_
          exact ih6 (i + 1) (by omega) (rm_up τ6 14 i (10000)) (by refine Eq.trans ?_ ht6; first | with_reducible rfl | (simp only [rm_wayI, if_pos c_23, ↓reduceIte, Bool.false_eq_true]; done) | (simp only [rm_wayI, if_pos c_23, ↓reduceIte, Bool.false_eq_true]; with_reducible rfl)) _ _ hw _ (lv_sub hl [1, 2, 0] rfl)
        · skip
          refine lv_iconst (v := 0) hx hb dX0_leastRank_26 (by decide) ?_
          refine lv_goto (tgt := 33) hx hb dX0_leastRank_27 (by decide) ?_
          refine rm_iast C hw (by decide) hlt6 dX0_leastRank_33 (fun H locs hw => ?_)
          refine lv_iinc (v := nI (i + 1)) (lv' := [(2, .int (nI (i + 1))), (0, .ref (a 0)), (1, .int (nI xn))]) hx hb dX0_leastRank_34 hl (k := 2) rfl (rm_inc i) (by decide) rfl (fun ls hl => ?_)
          refine lv_goto (tgt := 6) hx hb dX0_leastRank_37 (by decide) ?_
          exact ih6 (i + 1) (by omega) (rm_up τ6 14 i (0)) (by refine Eq.trans ?_ ht6; first | with_reducible rfl | (simp only [rm_wayI, if_neg c_23, ↓reduceIte, Bool.false_eq_true]; done) | (simp only [rm_wayI, if_neg c_23, ↓reduceIte, Bool.false_eq_true]; with_reducible rfl)) _ _ hw _ (lv_sub hl [1, 2, 0] rfl)
  exact lp_6 10 0 (by omega) (σ) (by first | with_reducible rfl | (unfold rm_least; with_reducible rfl) | (simp only [rm_least, c_1, rm_cl hxn, ↓reduceIte, Bool.false_eq_true]; done) | (simp only [rm_least, c_1, rm_cl hxn, ↓reduceIte, Bool.false_eq_true]; with_reducible rfl)) _ _ hw _ (lv_sub hl [1, 2, 0] rfl)
set_option maxHeartbeats 4000000 in
set_option maxRecDepth 100000 in
theorem kX0_below (l : Launch) (hfl : l.stackTraces = false) (k : rm_K) (a : Nat → Nat) (ha : rm_inj a) (σ : rm_St) (x : Int32) : rm_XI l k a yX0_below wsX0_below ({ frames := 7, cells := 1, slots := 6, locals := 110 }) [.int x] σ (rm_tN x) (rm_below σ x) σ := by
  refine rm_enterXI (cc := cX0_below) (nL := 4) (ret := (some .int)) ha (by decide) rfl rfl (by decide +kernel) (Nat.le_of_ble_eq_true rfl) ?_
  intro p e s m args below meth c ls C hr hlocks htab hTh hw hl
  have hx := C.1.1
  have hb := C.1.2.1
  have hts := C.1.2.2.2.2
  have hA : ∀ q, s.heap.size ≤ q → rm_A a s.heap.size q := fun q h => Or.inr h
  replace hl : lv_has ls 4 [(0, .ref (a 0)), (1, .int x)] := hl
  refine lv_iload_n hx hb dX0_below_0 rfl (lv_at hl 1 rfl) ?_
  refine rm_callXS C hlocks htab hTh hw (As := [.int x]) (rest := []) (kX0_requireNode l hfl (x)) (va_cwS 1 hts gX0_below_X0_requireNode rfl rfl rfl (by decide +kernel) ⟨Nat.le_of_ble_eq_true rfl, Nat.le_of_ble_eq_true rfl⟩) rfl hl.1 rfl (lv_room (Nat.le_of_ble_eq_true rfl)) dX0_below_1 ⟨Nat.le_of_ble_eq_true rfl, Nat.le_of_ble_eq_true rfl⟩ (Nat.le_of_ble_eq_true rfl) (Nat.le_of_ble_eq_true rfl) (fun E hE => by simp only [hE, rm_or_n, rm_or_s, ↓reduceIte, Bool.false_eq_true]) (fun c_1 H locs hw => ?_)
  obtain ⟨xn, hxn, rfl⟩ := rm_tN_none c_1
  refine lv_iconst (v := 1) hx hb dX0_below_4 (by decide) ?_
  refine lv_iload_n hx hb dX0_below_5 rfl (lv_at hl 1 rfl) ?_
  refine lv_ishl hx hb dX0_below_6 ?_
  refine lv_istore_n (lv' := [(2, .int ((1) <<< ((nI xn) &&& 31))), (0, .ref (a 0)), (1, .int (nI xn))]) hx hb dX0_below_7 rfl hl (by decide) rfl (fun ls hl => ?_)
  refine lv_iconst (v := 1) hx hb dX0_below_8 (by decide) ?_
  refine lv_istore_n (lv' := [(3, .int 1), (2, .int ((1) <<< ((nI xn) &&& 31))), (0, .ref (a 0)), (1, .int (nI xn))]) hx hb dX0_below_9 rfl hl (by decide) rfl (fun ls hl => ?_)
  have lp_10 : ∀ (r t : Nat), t + r = 10 → ∀ (x2 : Int32), rm_blL σ r t x2 = rm_below σ (nI xn) → ∀ (H : Heap) (locs : List Loc), rm_Wd k a (rm_A a s.heap.size) s.heap s σ H locs → ∀ (ls : Array Slot), lv_has ls 4 [(0, .ref (a 0)), (1, .int (nI xn)), (2, .int x2), (3, .int (nI t))] → W p l e (headSpec wsX0_below ({ frames := 7, cells := 1, slots := 6, locals := 110 })).room s m args below meth c H locs 1 6 (vx_MQ below (va_Qi (fun (r : Int32) (τ : rm_St) => (rm_tN (nI xn)) = none ∧ r = (rm_below σ (nI xn)) ∧ τ = σ) (fun τ t => rm_P k a τ t) (rm_A a s.heap.size)) (rm_XC k a σ (rm_tN (nI xn)) (rm_A a s.heap.size)) args s 1 6 (rm_A a s.heap.size)) (F0 m 10 ls []) := by
    intro r
    induction r with
    | zero =>
      intro t hi10 x2 ht10 H locs hw ls hl
      obtain rfl : 10 = t := by omega
      have hz10 : x2 = rm_below σ (nI xn) := ht10
      refine lv_iload_n hx hb dX0_below_10 rfl (lv_at hl 3 rfl) ?_
      refine lv_bipush (v := 10) hx hb dX0_below_11 (by decide) ?_
      refine lv_icmp_ge (tgt := 30) hx hb dX0_below_13 (by decide) (fun c_13 => ?_) (fun c_13 => ?_)
      · skip
        refine lv_iload_n hx hb dX0_below_30 rfl (lv_at hl 2 rfl) ?_
        exact rm_xret C hr hlocks hw (Nat.le_of_ble_eq_true rfl) (Nat.le_of_ble_eq_true rfl) dX0_below_31 ⟨by first | (simp only [c_1, rm_cl hxn, ↓reduceIte, Bool.false_eq_true, rm_or_n, rm_or_s]; done) | (simp only [c_1, rm_cl hxn, ↓reduceIte, Bool.false_eq_true, rm_or_n, rm_or_s]; rfl), by first | with_reducible rfl | with_reducible exact hz10 | (rw [← hz10]; done) | (rw [← hz10]; exact bI_f.symm) | (simp only [rm_below, c_1, rm_cl hxn, ↓reduceIte, Bool.false_eq_true]; rw [← hz10]; done) | (rw [← hz10]; simp only [rm_blL, ↓reduceIte, Bool.false_eq_true]; done) | (rw [← hz10]; simp only [rm_blL, ↓reduceIte, Bool.false_eq_true]; with_reducible rfl) | (rw [← hz10]; simp only [rm_blL, ↓reduceIte, Bool.false_eq_true]; rfl) | (simp only [rm_below, c_1, rm_cl hxn, ↓reduceIte, Bool.false_eq_true]; done) | (simp only [rm_below, c_1, rm_cl hxn, ↓reduceIte, Bool.false_eq_true]; with_reducible rfl), by first | with_reducible rfl | with_reducible exact hz10 | (rw [← hz10]; done) | (rw [← hz10]; exact bI_f.symm) | (simp only [rm_below, c_1, rm_cl hxn, ↓reduceIte, Bool.false_eq_true]; rw [← hz10]; done) | (rw [← hz10]; simp only [rm_blL, ↓reduceIte, Bool.false_eq_true]; done) | (rw [← hz10]; simp only [rm_blL, ↓reduceIte, Bool.false_eq_true]; with_reducible rfl) | (rw [← hz10]; simp only [rm_blL, ↓reduceIte, Bool.false_eq_true]; rfl) | (simp only [rm_below, c_1, rm_cl hxn, ↓reduceIte, Bool.false_eq_true]; done) | (simp only [rm_below, c_1, rm_cl hxn, ↓reduceIte, Bool.false_eq_true]; with_reducible rfl)⟩
      · exact absurd (show (10 : Int32) ≤ nI 10 from nI_le (a := 10) (b := 10) (Nat.le_refl _) (by decide)) c_13
    | succ r ih10 =>
      intro t hi10 x2 ht10 H locs hw ls hl
      have hlt10 : t < 10 := by omega
      refine lv_iload_n hx hb dX0_below_10 rfl (lv_at hl 3 rfl) ?_
      refine lv_bipush (v := 10) hx hb dX0_below_11 (by decide) ?_
      refine lv_icmp_ge (tgt := 30) hx hb dX0_below_13 (by decide) (fun c_13 => ?_) (fun c_13 => ?_)
      · exact absurd c_13 (nI_ge (a := t) (b := 10) hlt10 (by decide))
      · skip
        refine lv_iload_n hx hb dX0_below_16 rfl (lv_at hl 2 rfl) ?_
        refine lv_aload_n hx hb dX0_below_17 rfl (lv_at hl 0 rfl) ?_
        refine lv_iload_n hx hb dX0_below_18 rfl (lv_at hl 2 rfl) ?_
        refine rm_callI C hw hA (As := [.int x2]) (rest := [.int x2]) (kX0_childrenOf l k a ha σ (x2)) (cwV 1 hts gX0_below_X0_childrenOf rfl rfl rfl (by decide +kernel) ⟨Nat.le_of_ble_eq_true rfl, Nat.le_of_ble_eq_true rfl⟩) rfl hl.1 rfl (lv_room (Nat.le_of_ble_eq_true rfl)) dX0_below_19 ⟨Nat.le_of_ble_eq_true rfl, Nat.le_of_ble_eq_true rfl⟩ (fun H locs hw => ?_)
        refine lv_ior hx hb dX0_below_22 ?_
        refine lv_istore_n (lv' := [(2, .int ((x2) ||| (rm_ch σ (x2)))), (0, .ref (a 0)), (1, .int (nI xn)), (3, .int (nI t))]) hx hb dX0_below_23 rfl hl (by decide) rfl (fun ls hl => ?_)
        refine lv_iinc (v := nI (t + 1)) (lv' := [(3, .int (nI (t + 1))), (2, .int ((x2) ||| (rm_ch σ (x2)))), (0, .ref (a 0)), (1, .int (nI xn))]) hx hb dX0_below_24 hl (k := 3) rfl (rm_inc t) (by decide) rfl (fun ls hl => ?_)
        refine lv_goto (tgt := 10) hx hb dX0_below_27 (by decide) ?_
        exact ih10 (t + 1) (by omega) ((x2) ||| (rm_ch σ (x2))) (by refine Eq.trans ?_ ht10; first | with_reducible rfl | (simp only [rm_blL, ↓reduceIte, Bool.false_eq_true]; done) | (simp only [rm_blL, ↓reduceIte, Bool.false_eq_true]; with_reducible rfl)) _ _ hw _ (lv_sub hl [2, 3, 1, 0] rfl)
  exact lp_10 9 1 (by omega) ((1) <<< ((nI xn) &&& 31)) (by first | with_reducible rfl | (unfold rm_below; with_reducible rfl) | (simp only [rm_below, c_1, rm_cl hxn, ↓reduceIte, Bool.false_eq_true]; done) | (simp only [rm_below, c_1, rm_cl hxn, ↓reduceIte, Bool.false_eq_true]; with_reducible rfl)) _ _ hw _ (lv_sub hl [2, 3, 1, 0] rfl)
end
section
set_option maxHeartbeats 4000000 in
set_option maxRecDepth 100000 in
theorem kX0_up (l : Launch) (hfl : l.stackTraces = false) (k : rm_K) (a : Nat → Nat) (ha : rm_inj a) (σ : rm_St) (x : Int32) : rm_XI l k a yX0_up wsX0_up ({ frames := 7, cells := 1, slots := 6, locals := 110 }) [.int x] σ (rm_tN x) ((rm_upS σ x).2) ((rm_upS σ x).1) := by
  refine rm_enterXI (cc := cX0_up) (nL := 7) (ret := (some .int)) ha (by decide) rfl rfl (by decide +kernel) (Nat.le_of_ble_eq_true rfl) ?_
  intro p e s m args below meth c ls C hr hlocks htab hTh hw hl
  have hx := C.1.1
  have hb := C.1.2.1
  have hts := C.1.2.2.2.2
  have hA : ∀ q, s.heap.size ≤ q → rm_A a s.heap.size q := fun q h => Or.inr h
  replace hl : lv_has ls 7 [(0, .ref (a 0)), (1, .int x)] := hl
  refine lv_iload_n hx hb dX0_up_0 rfl (lv_at hl 1 rfl) ?_
  refine rm_callXS C hlocks htab hTh hw (As := [.int x]) (rest := []) (kX0_requireNode l hfl (x)) (va_cwS 1 hts gX0_up_X0_requireNode rfl rfl rfl (by decide +kernel) ⟨Nat.le_of_ble_eq_true rfl, Nat.le_of_ble_eq_true rfl⟩) rfl hl.1 rfl (lv_room (Nat.le_of_ble_eq_true rfl)) dX0_up_1 ⟨Nat.le_of_ble_eq_true rfl, Nat.le_of_ble_eq_true rfl⟩ (Nat.le_of_ble_eq_true rfl) (Nat.le_of_ble_eq_true rfl) (fun E hE => by simp only [hE, rm_or_n, rm_or_s, ↓reduceIte, Bool.false_eq_true]) (fun c_1 H locs hw => ?_)
  obtain ⟨xn, hxn, rfl⟩ := rm_tN_none c_1
  refine lv_iload_n hx hb dX0_up_4 rfl (lv_at hl 1 rfl) ?_
  refine lv_istore_n (lv' := [(2, .int (nI xn)), (0, .ref (a 0)), (1, .int (nI xn))]) hx hb dX0_up_5 rfl hl (by decide) rfl (fun ls hl => ?_)
  refine lv_iconst (v := 0) hx hb dX0_up_6 (by decide) ?_
  refine lv_istore_n (lv' := [(3, .int 0), (2, .int (nI xn)), (0, .ref (a 0)), (1, .int (nI xn))]) hx hb dX0_up_7 rfl hl (by decide) rfl (fun ls hl => ?_)
  refine lv_iconst (v := 0) hx hb dX0_up_8 (by decide) ?_
  refine lv_istore (lv' := [(4, .int 0), (3, .int 0), (2, .int (nI xn)), (0, .ref (a 0)), (1, .int (nI xn))]) hx hb dX0_up_9 hl (by decide) rfl (fun ls hl => ?_)
  have lp_11 : ∀ (r i : Nat), i + r = 21 → ∀ (kk : Nat) (w : Bool), rm_upL σ r i kk w = rm_upS σ (nI xn) → kk < 10 → ∀ (H : Heap) (locs : List Loc), rm_Wd k a (rm_A a s.heap.size) s.heap s σ H locs → ∀ (ls : Array Slot), lv_has ls 7 [(0, .ref (a 0)), (1, .int (nI xn)), (2, .int (nI kk)), (3, .int (bI (w))), (4, .int (nI i))] → W p l e (headSpec wsX0_up ({ frames := 7, cells := 1, slots := 6, locals := 110 })).room s m args below meth c H locs 1 6 (vx_MQ below (va_Qi (fun (r : Int32) (τ : rm_St) => (rm_tN (nI xn)) = none ∧ r = ((rm_upS σ (nI xn)).2) ∧ τ = ((rm_upS σ (nI xn)).1)) (fun τ t => rm_P k a τ t) (rm_A a s.heap.size)) (rm_XC k a σ (rm_tN (nI xn)) (rm_A a s.heap.size)) args s 1 6 (rm_A a s.heap.size)) (F0 m 11 ls []) := by
    intro r
    induction r with
    | zero =>
      intro i hi11 kk w ht11 hv11 H locs hw ls hl
      obtain rfl : 21 = i := by omega
      have hz11 : (rm_drop σ, -2) = rm_upS σ (nI xn) := ht11
      refine lv_iload hx hb dX0_up_11 (lv_at hl 4 rfl) ?_
      refine lv_bipush (v := 20) hx hb dX0_up_13 (by decide) ?_
      refine lv_icmp_gt (tgt := 107) hx hb dX0_up_15 (by decide) (fun c_15 => ?_) (fun c_15 => ?_)
      · skip
        refine lv_aload_n hx hb dX0_up_107 rfl (lv_at hl 0 rfl) ?_
        refine lv_dup hx hb dX0_up_108 rfl ?_
        refine rm_geti C hw 5 (by decide) (hts _ (by decide +kernel)) rfl dX0_up_109 ?_
        refine lv_iconst (v := 1) hx hb dX0_up_112 (by decide) ?_
        refine lv_iadd hx hb dX0_up_113 ?_
        refine rm_puti C hw 5 (by decide) (hts _ (by decide +kernel)) rfl rfl rfl dX0_up_114 (fun H locs hw => ?_)
        refine lv_bipush (v := (-2)) hx hb dX0_up_117 (by decide) ?_
        exact rm_xret C hr hlocks hw (Nat.le_of_ble_eq_true rfl) (Nat.le_of_ble_eq_true rfl) dX0_up_119 ⟨by first | (simp only [c_1, rm_cl hxn, ↓reduceIte, Bool.false_eq_true, rm_or_n, rm_or_s]; done) | (simp only [c_1, rm_cl hxn, ↓reduceIte, Bool.false_eq_true, rm_or_n, rm_or_s]; rfl), by first | with_reducible rfl | with_reducible exact hz11 | (rw [← hz11]; done) | (rw [← hz11]; exact bI_f.symm) | (simp only [rm_upS, c_1, rm_cl hxn, ↓reduceIte, Bool.false_eq_true]; rw [← hz11]; done) | (rw [← hz11]; simp only [rm_upL, rm_drop, ↓reduceIte, Bool.false_eq_true]; done) | (rw [← hz11]; simp only [rm_upL, rm_drop, ↓reduceIte, Bool.false_eq_true]; with_reducible rfl) | (rw [← hz11]; simp only [rm_upL, rm_drop, ↓reduceIte, Bool.false_eq_true]; rfl) | (simp only [rm_upS, c_1, rm_cl hxn, ↓reduceIte, Bool.false_eq_true]; done) | (simp only [rm_upS, c_1, rm_cl hxn, ↓reduceIte, Bool.false_eq_true]; with_reducible rfl), by first | with_reducible rfl | with_reducible exact hz11 | (rw [← hz11]; done) | (rw [← hz11]; exact bI_f.symm) | (simp only [rm_upS, c_1, rm_cl hxn, ↓reduceIte, Bool.false_eq_true]; rw [← hz11]; done) | (rw [← hz11]; simp only [rm_upL, rm_drop, ↓reduceIte, Bool.false_eq_true]; done) | (rw [← hz11]; simp only [rm_upL, rm_drop, ↓reduceIte, Bool.false_eq_true]; with_reducible rfl) | (rw [← hz11]; simp only [rm_upL, rm_drop, ↓reduceIte, Bool.false_eq_true]; rfl) | (simp only [rm_upS, c_1, rm_cl hxn, ↓reduceIte, Bool.false_eq_true]; done) | (simp only [rm_upS, c_1, rm_cl hxn, ↓reduceIte, Bool.false_eq_true]; with_reducible rfl)⟩
      · exact absurd (show (20 : Int32) < nI 21 from nI_lt (a := 20) (b := 21) (by decide) (by decide)) c_15
    | succ r ih11 =>
      intro i hi11 kk w ht11 hv11 H locs hw ls hl
      have hlt11 : i < 21 := by omega
      refine lv_iload hx hb dX0_up_11 (lv_at hl 4 rfl) ?_
      refine lv_bipush (v := 20) hx hb dX0_up_13 (by decide) ?_
      refine lv_icmp_gt (tgt := 107) hx hb dX0_up_15 (by decide) (fun c_15 => ?_) (fun c_15 => ?_)
      · exact absurd c_15 (nI_nlt (a := 20) (b := i) (by omega) (by decide))
      · skip
        refine lv_aload_n hx hb dX0_up_18 rfl (lv_at hl 0 rfl) ?_
        refine rm_geta C hw 10 5 (by decide) rfl (hts _ (by decide +kernel)) rfl dX0_up_19 ?_
        refine lv_iload_n hx hb dX0_up_22 rfl (lv_at hl 2 rfl) ?_
        refine rm_zald C hw hv11 dX0_up_23 ?_
        refine lv_if_eq (tgt := 30) hx hb dX0_up_24 (by decide) (fun c_24 => ?_) (fun c_24 => ?_)
        · skip
          refine lv_aload_n hx hb dX0_up_30 rfl (lv_at hl 0 rfl) ?_
          refine rm_geta C hw 16 11 (by decide) rfl (hts _ (by decide +kernel)) rfl dX0_up_31 ?_
          refine lv_iload_n hx hb dX0_up_34 rfl (lv_at hl 2 rfl) ?_
          refine rm_iald C hw (by decide) hv11 dX0_up_35 ?_
          refine lv_istore (lv' := [(5, .int (σ 11 kk)), (0, .ref (a 0)), (1, .int (nI xn)), (2, .int (nI kk)), (3, .int (bI (w))), (4, .int (nI i))]) hx hb dX0_up_36 hl (by decide) rfl (fun ls hl => ?_)
          refine lv_iload hx hb dX0_up_38 (lv_at hl 0 rfl) ?_
          refine rm_callSI C hw (As := [.int (σ 11 kk)]) (rest := []) (kX0_isNode l (σ 11 kk)) (va_cwS 1 hts gX0_up_X0_isNode rfl rfl rfl (by decide +kernel) ⟨Nat.le_of_ble_eq_true rfl, Nat.le_of_ble_eq_true rfl⟩) rfl hl.1 rfl (lv_room (Nat.le_of_ble_eq_true rfl)) dX0_up_40 ⟨Nat.le_of_ble_eq_true rfl, Nat.le_of_ble_eq_true rfl⟩ (fun H locs hw => ?_)
          refine rm_ifne (tgt := 48) hx hb dX0_up_43 (by decide) (fun c_43 => ?_) (fun c_43 => ?_)
          · skip
            obtain ⟨o1, ho1, eo1⟩ := isNd_of c_43
            rw [eo1] at hl
            refine lv_aload_n hx hb dX0_up_48 rfl (lv_at hl 1 rfl) ?_
            refine rm_geta C hw 14 9 (by decide) rfl (hts _ (by decide +kernel)) rfl dX0_up_49 ?_
            refine lv_iload hx hb dX0_up_52 (lv_at hl 0 rfl) ?_
            refine rm_iald C hw (by decide) ho1 dX0_up_54 ?_
            refine lv_aload_n hx hb dX0_up_55 rfl (lv_at hl 1 rfl) ?_
            refine rm_geta C hw 14 9 (by decide) rfl (hts _ (by decide +kernel)) rfl dX0_up_56 ?_
            refine lv_iload_n hx hb dX0_up_59 rfl (lv_at hl 3 rfl) ?_
            refine rm_iald C hw (by decide) hv11 dX0_up_60 ?_
            refine lv_icmp_lt (tgt := 68) hx hb dX0_up_61 (by decide) (fun c_61 => ?_) (fun c_61 => ?_)
            · skip
              refine lv_iconst (v := 0) hx hb dX0_up_68 (by decide) ?_
              refine lv_istore (lv' := [(6, .int 0), (5, .int (nI o1)), (0, .ref (a 0)), (1, .int (nI xn)), (2, .int (nI kk)), (3, .int (bI (w))), (4, .int (nI i))]) hx hb dX0_up_69 hl (by decide) rfl (fun ls hl => ?_)
              refine lv_iload hx hb dX0_up_71 (lv_at hl 0 rfl) ?_
              refine lv_if_eq (tgt := 83) hx hb dX0_up_73 (by decide) (fun c_73 => ?_) (fun c_73 => ?_)
              · skip
                refine lv_iload_n hx hb dX0_up_83 rfl (lv_at hl 5 rfl) ?_
                refine rm_ifne (tgt := 92) hx hb dX0_up_84 (by decide) (fun c_84 => ?_) (fun c_84 => ?_)
                · skip
                  refine lv_iconst (v := 1) hx hb dX0_up_92 (by decide) ?_
                  refine lv_goto (tgt := 97) hx hb dX0_up_93 (by decide) ?_
                  refine lv_istore_n (lv' := [(3, .int 1), (6, .int 0), (5, .int (nI o1)), (0, .ref (a 0)), (1, .int (nI xn)), (2, .int (nI kk)), (4, .int (nI i))]) hx hb dX0_up_97 rfl hl (by decide) rfl (fun ls hl => ?_)
                  refine lv_iload hx hb dX0_up_98 (lv_at hl 2 rfl) ?_
                  refine lv_istore_n (lv' := [(2, .int (nI o1)), (3, .int 1), (6, .int 0), (5, .int (nI o1)), (0, .ref (a 0)), (1, .int (nI xn)), (4, .int (nI i))]) hx hb dX0_up_100 rfl hl (by decide) rfl (fun ls hl => ?_)
                  refine lv_iinc (v := nI (i + 1)) (lv' := [(4, .int (nI (i + 1))), (2, .int (nI o1)), (3, .int 1), (6, .int 0), (5, .int (nI o1)), (0, .ref (a 0)), (1, .int (nI xn))]) hx hb dX0_up_101 hl (k := 6) rfl (rm_inc i) (by decide) rfl (fun ls hl => ?_)
                  refine lv_goto (tgt := 11) hx hb dX0_up_104 (by decide) ?_
                  exact ih11 (i + 1) (by omega) (o1) (true) (by refine Eq.trans ?_ ht11; first | with_reducible rfl | (simp only [rm_upL, rm_drop, if_pos c_24, eo1, rm_cl ho1, isNd_nI ho1, if_pos c_61, c_84, ↓reduceIte, Bool.false_eq_true]; done) | (simp only [rm_upL, rm_drop, if_pos c_24, eo1, rm_cl ho1, isNd_nI ho1, if_pos c_61, c_84, ↓reduceIte, Bool.false_eq_true]; with_reducible rfl)) (ho1) _ _ hw _ (lv_sub hl [5, 6, 1, 2, 0] rfl)
                · skip
                  refine lv_iload hx hb dX0_up_87 (lv_at hl 0 rfl) ?_
                  refine lv_if_eq (tgt := 96) hx hb dX0_up_89 (by decide) (fun c_89 => ?_) (fun c_89 => ?_)
                  · skip
                    refine lv_iconst (v := 0) hx hb dX0_up_96 (by decide) ?_
                    refine lv_istore_n (lv' := [(3, .int 0), (6, .int 0), (5, .int (nI o1)), (0, .ref (a 0)), (1, .int (nI xn)), (2, .int (nI kk)), (4, .int (nI i))]) hx hb dX0_up_97 rfl hl (by decide) rfl (fun ls hl => ?_)
                    refine lv_iload hx hb dX0_up_98 (lv_at hl 2 rfl) ?_
                    refine lv_istore_n (lv' := [(2, .int (nI o1)), (3, .int 0), (6, .int 0), (5, .int (nI o1)), (0, .ref (a 0)), (1, .int (nI xn)), (4, .int (nI i))]) hx hb dX0_up_100 rfl hl (by decide) rfl (fun ls hl => ?_)
                    refine lv_iinc (v := nI (i + 1)) (lv' := [(4, .int (nI (i + 1))), (2, .int (nI o1)), (3, .int 0), (6, .int 0), (5, .int (nI o1)), (0, .ref (a 0)), (1, .int (nI xn))]) hx hb dX0_up_101 hl (k := 6) rfl (rm_inc i) (by decide) rfl (fun ls hl => ?_)
                    refine lv_goto (tgt := 11) hx hb dX0_up_104 (by decide) ?_
                    exact ih11 (i + 1) (by omega) (o1) (false) (by refine Eq.trans ?_ ht11; first | with_reducible rfl | (simp only [rm_upL, rm_drop, if_pos c_24, eo1, rm_cl ho1, isNd_nI ho1, if_pos c_61, c_84, ↓reduceIte, Bool.false_eq_true]; done) | (simp only [rm_upL, rm_drop, if_pos c_24, eo1, rm_cl ho1, isNd_nI ho1, if_pos c_61, c_84, ↓reduceIte, Bool.false_eq_true]; with_reducible rfl)) (ho1) _ _ hw _ (lv_sub hl [5, 6, 1, 2, 0] rfl)
                  · exact absurd rfl c_89
              · exact absurd rfl c_73
            · skip
              refine lv_iconst (v := 1) hx hb dX0_up_64 (by decide) ?_
              refine lv_goto (tgt := 69) hx hb dX0_up_65 (by decide) ?_
              refine lv_istore (lv' := [(6, .int 1), (5, .int (nI o1)), (0, .ref (a 0)), (1, .int (nI xn)), (2, .int (nI kk)), (3, .int (bI (w))), (4, .int (nI i))]) hx hb dX0_up_69 hl (by decide) rfl (fun ls hl => ?_)
              refine lv_iload hx hb dX0_up_71 (lv_at hl 0 rfl) ?_
              refine lv_if_eq (tgt := 83) hx hb dX0_up_73 (by decide) (fun c_73 => ?_) (fun c_73 => ?_)
              · exact absurd c_73 (by decide)
              · skip
                refine lv_iload_n hx hb dX0_up_76 rfl (lv_at hl 5 rfl) ?_
                refine rm_ifeq (tgt := 83) hx hb dX0_up_77 (by decide) (fun c_77 => ?_) (fun c_77 => ?_)
                · skip
                  refine lv_iload_n hx hb dX0_up_83 rfl (lv_at hl 5 rfl) ?_
                  refine rm_ifne (tgt := 92) hx hb dX0_up_84 (by decide) (fun c_84x => ?_) (fun c_84x => ?_)
                  · exact Bool.noConfusion (c_77.symm.trans c_84x)
                  · skip
                    refine lv_iload hx hb dX0_up_87 (lv_at hl 0 rfl) ?_
                    refine lv_if_eq (tgt := 96) hx hb dX0_up_89 (by decide) (fun c_89 => ?_) (fun c_89 => ?_)
                    · exact absurd c_89 (by decide)
                    · skip
                      refine lv_iconst (v := 1) hx hb dX0_up_92 (by decide) ?_
                      refine lv_goto (tgt := 97) hx hb dX0_up_93 (by decide) ?_
                      refine lv_istore_n (lv' := [(3, .int 1), (6, .int 1), (5, .int (nI o1)), (0, .ref (a 0)), (1, .int (nI xn)), (2, .int (nI kk)), (4, .int (nI i))]) hx hb dX0_up_97 rfl hl (by decide) rfl (fun ls hl => ?_)
                      refine lv_iload hx hb dX0_up_98 (lv_at hl 2 rfl) ?_
                      refine lv_istore_n (lv' := [(2, .int (nI o1)), (3, .int 1), (6, .int 1), (5, .int (nI o1)), (0, .ref (a 0)), (1, .int (nI xn)), (4, .int (nI i))]) hx hb dX0_up_100 rfl hl (by decide) rfl (fun ls hl => ?_)
                      refine lv_iinc (v := nI (i + 1)) (lv' := [(4, .int (nI (i + 1))), (2, .int (nI o1)), (3, .int 1), (6, .int 1), (5, .int (nI o1)), (0, .ref (a 0)), (1, .int (nI xn))]) hx hb dX0_up_101 hl (k := 6) rfl (rm_inc i) (by decide) rfl (fun ls hl => ?_)
                      refine lv_goto (tgt := 11) hx hb dX0_up_104 (by decide) ?_
                      exact ih11 (i + 1) (by omega) (o1) (true) (by refine Eq.trans ?_ ht11; first | with_reducible rfl | (simp only [rm_upL, rm_drop, if_pos c_24, eo1, rm_cl ho1, isNd_nI ho1, if_neg c_61, c_77, ↓reduceIte, Bool.false_eq_true]; done) | (simp only [rm_upL, rm_drop, if_pos c_24, eo1, rm_cl ho1, isNd_nI ho1, if_neg c_61, c_77, ↓reduceIte, Bool.false_eq_true]; with_reducible rfl)) (ho1) _ _ hw _ (lv_sub hl [5, 6, 1, 2, 0] rfl)
                · skip
                  refine lv_goto (tgt := 107) hx hb dX0_up_80 (by decide) ?_
                  refine lv_aload_n hx hb dX0_up_107 rfl (lv_at hl 2 rfl) ?_
                  refine lv_dup hx hb dX0_up_108 rfl ?_
                  refine rm_geti C hw 5 (by decide) (hts _ (by decide +kernel)) rfl dX0_up_109 ?_
                  refine lv_iconst (v := 1) hx hb dX0_up_112 (by decide) ?_
                  refine lv_iadd hx hb dX0_up_113 ?_
                  refine rm_puti C hw 5 (by decide) (hts _ (by decide +kernel)) rfl rfl rfl dX0_up_114 (fun H locs hw => ?_)
                  refine lv_bipush (v := (-2)) hx hb dX0_up_117 (by decide) ?_
                  exact rm_xret C hr hlocks hw (Nat.le_of_ble_eq_true rfl) (Nat.le_of_ble_eq_true rfl) dX0_up_119 ⟨by first | (simp only [c_1, rm_cl hxn, if_pos c_24, eo1, rm_cl ho1, isNd_nI ho1, if_neg c_61, c_77, ↓reduceIte, Bool.false_eq_true, rm_or_n, rm_or_s]; done) | (simp only [c_1, rm_cl hxn, if_pos c_24, eo1, rm_cl ho1, isNd_nI ho1, if_neg c_61, c_77, ↓reduceIte, Bool.false_eq_true, rm_or_n, rm_or_s]; rfl), by first | with_reducible rfl | (rw [← ht11]; simp only [rm_upL, rm_drop, if_pos c_24, eo1, rm_cl ho1, isNd_nI ho1, if_neg c_61, c_77, ↓reduceIte, Bool.false_eq_true]; done) | (rw [← ht11]; simp only [rm_upL, rm_drop, if_pos c_24, eo1, rm_cl ho1, isNd_nI ho1, if_neg c_61, c_77, ↓reduceIte, Bool.false_eq_true]; with_reducible rfl) | (rw [← ht11]; simp only [rm_upL, rm_drop, if_pos c_24, eo1, rm_cl ho1, isNd_nI ho1, if_neg c_61, c_77, ↓reduceIte, Bool.false_eq_true]; rfl) | (simp only [rm_upS, c_1, rm_cl hxn, if_pos c_24, eo1, rm_cl ho1, isNd_nI ho1, if_neg c_61, c_77, ↓reduceIte, Bool.false_eq_true]; rw [← ht11]; simp only [rm_upL, rm_drop, if_pos c_24, eo1, rm_cl ho1, isNd_nI ho1, if_neg c_61, c_77, ↓reduceIte, Bool.false_eq_true]; done) | (simp only [rm_upS, c_1, rm_cl hxn, if_pos c_24, eo1, rm_cl ho1, isNd_nI ho1, if_neg c_61, c_77, ↓reduceIte, Bool.false_eq_true]; done) | (simp only [rm_upS, c_1, rm_cl hxn, if_pos c_24, eo1, rm_cl ho1, isNd_nI ho1, if_neg c_61, c_77, ↓reduceIte, Bool.false_eq_true]; with_reducible rfl), by first | with_reducible rfl | (rw [← ht11]; simp only [rm_upL, rm_drop, if_pos c_24, eo1, rm_cl ho1, isNd_nI ho1, if_neg c_61, c_77, ↓reduceIte, Bool.false_eq_true]; done) | (rw [← ht11]; simp only [rm_upL, rm_drop, if_pos c_24, eo1, rm_cl ho1, isNd_nI ho1, if_neg c_61, c_77, ↓reduceIte, Bool.false_eq_true]; with_reducible rfl) | (rw [← ht11]; simp only [rm_upL, rm_drop, if_pos c_24, eo1, rm_cl ho1, isNd_nI ho1, if_neg c_61, c_77, ↓reduceIte, Bool.false_eq_true]; rfl) | (simp only [rm_upS, c_1, rm_cl hxn, if_pos c_24, eo1, rm_cl ho1, isNd_nI ho1, if_neg c_61, c_77, ↓reduceIte, Bool.false_eq_true]; rw [← ht11]; simp only [rm_upL, rm_drop, if_pos c_24, eo1, rm_cl ho1, isNd_nI ho1, if_neg c_61, c_77, ↓reduceIte, Bool.false_eq_true]; done) | (simp only [rm_upS, c_1, rm_cl hxn, if_pos c_24, eo1, rm_cl ho1, isNd_nI ho1, if_neg c_61, c_77, ↓reduceIte, Bool.false_eq_true]; done) | (simp only [rm_upS, c_1, rm_cl hxn, if_pos c_24, eo1, rm_cl ho1, isNd_nI ho1, if_neg c_61, c_77, ↓reduceIte, Bool.false_eq_true]; with_reducible rfl)⟩
          · skip
            refine lv_iconst (v := (-1)) hx hb dX0_up_46 (by decide) ?_
            exact rm_xret C hr hlocks hw (Nat.le_of_ble_eq_true rfl) (Nat.le_of_ble_eq_true rfl) dX0_up_47 ⟨by first | (simp only [c_1, rm_cl hxn, if_pos c_24, c_43, ↓reduceIte, Bool.false_eq_true, rm_or_n, rm_or_s]; done) | (simp only [c_1, rm_cl hxn, if_pos c_24, c_43, ↓reduceIte, Bool.false_eq_true, rm_or_n, rm_or_s]; rfl), by first | with_reducible rfl | (rw [← ht11]; simp only [rm_upL, rm_drop, if_pos c_24, c_43, ↓reduceIte, Bool.false_eq_true]; done) | (rw [← ht11]; simp only [rm_upL, rm_drop, if_pos c_24, c_43, ↓reduceIte, Bool.false_eq_true]; with_reducible rfl) | (rw [← ht11]; simp only [rm_upL, rm_drop, if_pos c_24, c_43, ↓reduceIte, Bool.false_eq_true]; rfl) | (simp only [rm_upS, c_1, rm_cl hxn, if_pos c_24, c_43, ↓reduceIte, Bool.false_eq_true]; rw [← ht11]; simp only [rm_upL, rm_drop, if_pos c_24, c_43, ↓reduceIte, Bool.false_eq_true]; done) | (simp only [rm_upS, c_1, rm_cl hxn, if_pos c_24, c_43, ↓reduceIte, Bool.false_eq_true]; done) | (simp only [rm_upS, c_1, rm_cl hxn, if_pos c_24, c_43, ↓reduceIte, Bool.false_eq_true]; with_reducible rfl), by first | with_reducible rfl | (rw [← ht11]; simp only [rm_upL, rm_drop, if_pos c_24, c_43, ↓reduceIte, Bool.false_eq_true]; done) | (rw [← ht11]; simp only [rm_upL, rm_drop, if_pos c_24, c_43, ↓reduceIte, Bool.false_eq_true]; with_reducible rfl) | (rw [← ht11]; simp only [rm_upL, rm_drop, if_pos c_24, c_43, ↓reduceIte, Bool.false_eq_true]; rfl) | (simp only [rm_upS, c_1, rm_cl hxn, if_pos c_24, c_43, ↓reduceIte, Bool.false_eq_true]; rw [← ht11]; simp only [rm_upL, rm_drop, if_pos c_24, c_43, ↓reduceIte, Bool.false_eq_true]; done) | (simp only [rm_upS, c_1, rm_cl hxn, if_pos c_24, c_43, ↓reduceIte, Bool.false_eq_true]; done) | (simp only [rm_upS, c_1, rm_cl hxn, if_pos c_24, c_43, ↓reduceIte, Bool.false_eq_true]; with_reducible rfl)⟩
        · skip
          refine lv_iload hx hb dX0_up_27 (lv_at hl 4 rfl) ?_
          exact rm_xret C hr hlocks hw (Nat.le_of_ble_eq_true rfl) (Nat.le_of_ble_eq_true rfl) dX0_up_29 ⟨by first | (simp only [c_1, rm_cl hxn, if_neg c_24, ↓reduceIte, Bool.false_eq_true, rm_or_n, rm_or_s]; done) | (simp only [c_1, rm_cl hxn, if_neg c_24, ↓reduceIte, Bool.false_eq_true, rm_or_n, rm_or_s]; rfl), by first | with_reducible rfl | (rw [← ht11]; simp only [rm_upL, rm_drop, if_neg c_24, ↓reduceIte, Bool.false_eq_true]; done) | (rw [← ht11]; simp only [rm_upL, rm_drop, if_neg c_24, ↓reduceIte, Bool.false_eq_true]; with_reducible rfl) | (rw [← ht11]; simp only [rm_upL, rm_drop, if_neg c_24, ↓reduceIte, Bool.false_eq_true]; rfl) | (simp only [rm_upS, c_1, rm_cl hxn, if_neg c_24, ↓reduceIte, Bool.false_eq_true]; rw [← ht11]; simp only [rm_upL, rm_drop, if_neg c_24, ↓reduceIte, Bool.false_eq_true]; done) | (simp only [rm_upS, c_1, rm_cl hxn, if_neg c_24, ↓reduceIte, Bool.false_eq_true]; done) | (simp only [rm_upS, c_1, rm_cl hxn, if_neg c_24, ↓reduceIte, Bool.false_eq_true]; with_reducible rfl), by first | with_reducible rfl | (rw [← ht11]; simp only [rm_upL, rm_drop, if_neg c_24, ↓reduceIte, Bool.false_eq_true]; done) | (rw [← ht11]; simp only [rm_upL, rm_drop, if_neg c_24, ↓reduceIte, Bool.false_eq_true]; with_reducible rfl) | (rw [← ht11]; simp only [rm_upL, rm_drop, if_neg c_24, ↓reduceIte, Bool.false_eq_true]; rfl) | (simp only [rm_upS, c_1, rm_cl hxn, if_neg c_24, ↓reduceIte, Bool.false_eq_true]; rw [← ht11]; simp only [rm_upL, rm_drop, if_neg c_24, ↓reduceIte, Bool.false_eq_true]; done) | (simp only [rm_upS, c_1, rm_cl hxn, if_neg c_24, ↓reduceIte, Bool.false_eq_true]; done) | (simp only [rm_upS, c_1, rm_cl hxn, if_neg c_24, ↓reduceIte, Bool.false_eq_true]; with_reducible rfl)⟩
  exact lp_11 21 0 (by omega) (xn) (false) (by first | with_reducible rfl | (unfold rm_upS; with_reducible rfl) | (simp only [rm_upS, c_1, rm_cl hxn, ↓reduceIte, Bool.false_eq_true]; done) | (simp only [rm_upS, c_1, rm_cl hxn, ↓reduceIte, Bool.false_eq_true]; with_reducible rfl)) (hxn) _ _ hw _ (lv_sub hl [3, 4, 2, 1, 0] rfl)
set_option maxHeartbeats 4000000 in
set_option maxRecDepth 100000 in
theorem kX0_down (l : Launch) (hfl : l.stackTraces = false) (k : rm_K) (a : Nat → Nat) (ha : rm_inj a) (σ : rm_St) (x : Int32) (y : Int32) : rm_XI l k a yX0_down wsX0_down ({ frames := 7, cells := 3, slots := 18, locals := 110 }) [.int x, .int y] σ (rm_tDown σ x y) ((rm_dnL σ x 10 0 y).getD 0) σ := by
  refine rm_enterXI (cc := cX0_down) (nL := 5) (ret := (some .int)) ha (by decide) rfl rfl (by decide +kernel) (Nat.le_of_ble_eq_true rfl) ?_
  intro p e s m args below meth c ls C hr hlocks htab hTh hw hl
  have hx := C.1.1
  have hb := C.1.2.1
  have hts := C.1.2.2.2.2
  have hA : ∀ q, s.heap.size ≤ q → rm_A a s.heap.size q := fun q h => Or.inr h
  replace hl : lv_has ls 5 [(0, .ref (a 0)), (1, .int x), (2, .int y)] := hl
  refine lv_iload_n hx hb dX0_down_0 rfl (lv_at hl 1 rfl) ?_
  refine rm_callXS C hlocks htab hTh hw (As := [.int x]) (rest := []) (kX0_requireNode l hfl (x)) (va_cwS 1 hts gX0_down_X0_requireNode rfl rfl rfl (by decide +kernel) ⟨Nat.le_of_ble_eq_true rfl, Nat.le_of_ble_eq_true rfl⟩) rfl hl.1 rfl (lv_room (Nat.le_of_ble_eq_true rfl)) dX0_down_1 ⟨Nat.le_of_ble_eq_true rfl, Nat.le_of_ble_eq_true rfl⟩ (Nat.le_of_ble_eq_true rfl) (Nat.le_of_ble_eq_true rfl) (fun E hE => by simp only [rm_tDown, hE, rm_or_n, rm_or_s, ↓reduceIte, Bool.false_eq_true]) (fun c_1 H locs hw => ?_)
  obtain ⟨xn, hxn, rfl⟩ := rm_tN_none c_1
  refine lv_iload_n hx hb dX0_down_4 rfl (lv_at hl 2 rfl) ?_
  refine rm_callXS C hlocks htab hTh hw (As := [.int y]) (rest := []) (kX0_requireNode l hfl (y)) (va_cwS 1 hts gX0_down_X0_requireNode rfl rfl rfl (by decide +kernel) ⟨Nat.le_of_ble_eq_true rfl, Nat.le_of_ble_eq_true rfl⟩) rfl hl.1 rfl (lv_room (Nat.le_of_ble_eq_true rfl)) dX0_down_5 ⟨Nat.le_of_ble_eq_true rfl, Nat.le_of_ble_eq_true rfl⟩ (Nat.le_of_ble_eq_true rfl) (Nat.le_of_ble_eq_true rfl) (fun E hE => by simp only [rm_tDown, hE, rm_or_n, rm_or_s, c_1, rm_cl hxn, ↓reduceIte, Bool.false_eq_true]) (fun c_5 H locs hw => ?_)
  obtain ⟨yn, hyn, rfl⟩ := rm_tN_none c_5
  refine lv_iload_n hx hb dX0_down_8 rfl (lv_at hl 1 rfl) ?_
  refine lv_iload_n hx hb dX0_down_9 rfl (lv_at hl 2 rfl) ?_
  refine lv_icmp_ne (tgt := 23) hx hb dX0_down_10 (by decide) (fun c_10 => ?_) (fun c_10 => ?_)
  · skip
    refine lv_iload_n hx hb dX0_down_23 rfl (lv_at hl 2 rfl) ?_
    refine lv_istore_n (lv' := [(3, .int (nI yn)), (0, .ref (a 0)), (1, .int (nI xn)), (2, .int (nI yn))]) hx hb dX0_down_24 rfl hl (by decide) rfl (fun ls hl => ?_)
    refine lv_iconst (v := 0) hx hb dX0_down_25 (by decide) ?_
    refine lv_istore (lv' := [(4, .int 0), (3, .int (nI yn)), (0, .ref (a 0)), (1, .int (nI xn)), (2, .int (nI yn))]) hx hb dX0_down_26 hl (by decide) rfl (fun ls hl => ?_)
    have lp_28 : ∀ (r i : Nat), i + r = 10 → ∀ (x3 : Int32), rm_dnL σ (nI xn) r i x3 = rm_dnL σ (nI xn) 10 0 (nI yn) → ∀ (H : Heap) (locs : List Loc), rm_Wd k a (rm_A a s.heap.size) s.heap s σ H locs → ∀ (ls : Array Slot), lv_has ls 5 [(0, .ref (a 0)), (1, .int (nI xn)), (3, .int x3), (4, .int (nI i))] → W p l e (headSpec wsX0_down ({ frames := 7, cells := 3, slots := 18, locals := 110 })).room s m args below meth c H locs 2 12 (vx_MQ below (va_Qi (fun (r : Int32) (τ : rm_St) => (rm_tDown σ (nI xn) (nI yn)) = none ∧ r = ((rm_dnL σ (nI xn) 10 0 (nI yn)).getD 0) ∧ τ = σ) (fun τ t => rm_P k a τ t) (rm_A a s.heap.size)) (rm_XC k a σ (rm_tDown σ (nI xn) (nI yn)) (rm_A a s.heap.size)) args s 3 18 (rm_A a s.heap.size)) (F0 m 28 ls []) := by
      intro r
      induction r with
      | zero =>
        intro i hi28 x3 ht28 H locs hw ls hl
        obtain rfl : 10 = i := by omega
        have hz28 : none = rm_dnL σ (nI xn) 10 0 (nI yn) := ht28
        refine lv_iload hx hb dX0_down_28 (lv_at hl 3 rfl) ?_
        refine lv_bipush (v := 10) hx hb dX0_down_30 (by decide) ?_
        refine lv_icmp_ge (tgt := 67) hx hb dX0_down_32 (by decide) (fun c_32 => ?_) (fun c_32 => ?_)
        · skip
          exact rm_throwS C hfl hlocks htab hTh hw (by decide +kernel) (by decide +kernel) (by decide +kernel) hTh.2.2.1.2.2.2.1 (by decide +kernel) rm_nb3 hTh.2.2.2.2.2.2.2.2 rm_ot3 hl.1 dX0_down_67 dX0_down_70 dX0_down_71 dX0_down_73 dX0_down_76 (Nat.le_of_ble_eq_true rfl) (Nat.le_of_ble_eq_true rfl) (Nat.le_of_ble_eq_true rfl) (Nat.le_of_ble_eq_true rfl) (Nat.le_of_ble_eq_true rfl) (Nat.le_of_ble_eq_true rfl) (by simp only [rm_tDown, c_1, c_5, if_neg c_10, ↓reduceIte, Bool.false_eq_true, rm_or_n, rm_or_s, if_pos hz28.symm]; rfl)
        · exact absurd (show (10 : Int32) ≤ nI 10 from nI_le (a := 10) (b := 10) (Nat.le_refl _) (by decide)) c_32
      | succ r ih28 =>
        intro i hi28 x3 ht28 H locs hw ls hl
        have hlt28 : i < 10 := by omega
        refine lv_iload hx hb dX0_down_28 (lv_at hl 3 rfl) ?_
        refine lv_bipush (v := 10) hx hb dX0_down_30 (by decide) ?_
        refine lv_icmp_ge (tgt := 67) hx hb dX0_down_32 (by decide) (fun c_32 => ?_) (fun c_32 => ?_)
        · exact absurd c_32 (nI_ge (a := i) (b := 10) hlt28 (by decide))
        · skip
          refine lv_iload_n hx hb dX0_down_35 rfl (lv_at hl 2 rfl) ?_
          refine rm_callSI C hw (As := [.int x3]) (rest := []) (kX0_isNode l (x3)) (va_cwS 1 hts gX0_down_X0_isNode rfl rfl rfl (by decide +kernel) ⟨Nat.le_of_ble_eq_true rfl, Nat.le_of_ble_eq_true rfl⟩) rfl hl.1 rfl (lv_room (Nat.le_of_ble_eq_true rfl)) dX0_down_36 ⟨Nat.le_of_ble_eq_true rfl, Nat.le_of_ble_eq_true rfl⟩ (fun H locs hw => ?_)
          refine rm_ifeq (tgt := 67) hx hb dX0_down_39 (by decide) (fun c_39 => ?_) (fun c_39 => ?_)
          · skip
            exact rm_throwS C hfl hlocks htab hTh hw (by decide +kernel) (by decide +kernel) (by decide +kernel) hTh.2.2.1.2.2.2.1 (by decide +kernel) rm_nb3 hTh.2.2.2.2.2.2.2.2 rm_ot3 hl.1 dX0_down_67 dX0_down_70 dX0_down_71 dX0_down_73 dX0_down_76 (Nat.le_of_ble_eq_true rfl) (Nat.le_of_ble_eq_true rfl) (Nat.le_of_ble_eq_true rfl) (Nat.le_of_ble_eq_true rfl) (Nat.le_of_ble_eq_true rfl) (Nat.le_of_ble_eq_true rfl) (by simp only [rm_tDown, c_1, c_5, if_neg c_10, ↓reduceIte, Bool.false_eq_true, rm_or_n, rm_or_s, if_pos (show rm_dnL σ (nI xn) 10 0 (nI yn) = none by rw [← ht28]; simp only [rm_dnL, c_1, rm_cl hxn, c_5, rm_cl hyn, if_neg c_10, c_39, ↓reduceIte, Bool.false_eq_true])]; rfl)
          · skip
            obtain ⟨x3n, hx3n, rfl⟩ := isNd_of c_39
            refine lv_aload_n hx hb dX0_down_42 rfl (lv_at hl 0 rfl) ?_
            refine rm_geta C hw 16 11 (by decide) rfl (hts _ (by decide +kernel)) rfl dX0_down_43 ?_
            refine lv_iload_n hx hb dX0_down_46 rfl (lv_at hl 2 rfl) ?_
            refine rm_iald C hw (by decide) hx3n dX0_down_47 ?_
            refine lv_iload_n hx hb dX0_down_48 rfl (lv_at hl 1 rfl) ?_
            refine lv_icmp_ne (tgt := 54) hx hb dX0_down_49 (by decide) (fun c_49 => ?_) (fun c_49 => ?_)
            · skip
              refine lv_aload_n hx hb dX0_down_54 rfl (lv_at hl 0 rfl) ?_
              refine rm_geta C hw 16 11 (by decide) rfl (hts _ (by decide +kernel)) rfl dX0_down_55 ?_
              refine lv_iload_n hx hb dX0_down_58 rfl (lv_at hl 2 rfl) ?_
              refine rm_iald C hw (by decide) hx3n dX0_down_59 ?_
              refine lv_istore_n (lv' := [(3, .int (σ 11 x3n)), (0, .ref (a 0)), (1, .int (nI xn)), (4, .int (nI i))]) hx hb dX0_down_60 rfl hl (by decide) rfl (fun ls hl => ?_)
              refine lv_iinc (v := nI (i + 1)) (lv' := [(4, .int (nI (i + 1))), (3, .int (σ 11 x3n)), (0, .ref (a 0)), (1, .int (nI xn))]) hx hb dX0_down_61 hl (k := 3) rfl (rm_inc i) (by decide) rfl (fun ls hl => ?_)
              refine lv_goto (tgt := 28) hx hb dX0_down_64 (by decide) ?_
              exact ih28 (i + 1) (by omega) (σ 11 x3n) (by refine Eq.trans ?_ ht28; first | with_reducible rfl | (simp only [rm_dnL, Option.getD_some, c_39, rm_cl hx3n, isNd_nI hx3n, if_neg c_49, ↓reduceIte, Bool.false_eq_true]; done) | (simp only [rm_dnL, Option.getD_some, c_39, rm_cl hx3n, isNd_nI hx3n, if_neg c_49, ↓reduceIte, Bool.false_eq_true]; with_reducible rfl)) _ _ hw _ (lv_sub hl [2, 3, 1, 0] rfl)
            · skip
              refine lv_iload_n hx hb dX0_down_52 rfl (lv_at hl 2 rfl) ?_
              exact rm_xret C hr hlocks hw (Nat.le_of_ble_eq_true rfl) (Nat.le_of_ble_eq_true rfl) dX0_down_53 ⟨by simp only [rm_tDown, c_1, c_5, if_neg c_10, ↓reduceIte, Bool.false_eq_true, rm_or_n, rm_or_s, if_neg (show ¬ rm_dnL σ (nI xn) 10 0 (nI yn) = none by rw [← ht28]; simp [rm_dnL, c_1, rm_cl hxn, c_5, rm_cl hyn, if_neg c_10, c_39, rm_cl hx3n, isNd_nI hx3n, if_pos c_49, ↓reduceIte, Bool.false_eq_true])], by first | with_reducible rfl | (rw [← ht28]; simp only [rm_dnL, Option.getD_some, c_39, rm_cl hx3n, isNd_nI hx3n, if_pos c_49, ↓reduceIte, Bool.false_eq_true]; done) | (rw [← ht28]; simp only [rm_dnL, Option.getD_some, c_39, rm_cl hx3n, isNd_nI hx3n, if_pos c_49, ↓reduceIte, Bool.false_eq_true]; with_reducible rfl) | (rw [← ht28]; simp only [rm_dnL, Option.getD_some, c_39, rm_cl hx3n, isNd_nI hx3n, if_pos c_49, ↓reduceIte, Bool.false_eq_true]; rfl) | (simp only [c_1, rm_cl hxn, c_5, rm_cl hyn, if_neg c_10, c_39, rm_cl hx3n, isNd_nI hx3n, if_pos c_49, ↓reduceIte, Bool.false_eq_true]; rw [← ht28]; simp only [rm_dnL, Option.getD_some, c_39, rm_cl hx3n, isNd_nI hx3n, if_pos c_49, ↓reduceIte, Bool.false_eq_true]; done) | (simp only [c_1, rm_cl hxn, c_5, rm_cl hyn, if_neg c_10, c_39, rm_cl hx3n, isNd_nI hx3n, if_pos c_49, ↓reduceIte, Bool.false_eq_true]; done) | (simp only [c_1, rm_cl hxn, c_5, rm_cl hyn, if_neg c_10, c_39, rm_cl hx3n, isNd_nI hx3n, if_pos c_49, ↓reduceIte, Bool.false_eq_true]; with_reducible rfl), by first | with_reducible rfl | (rw [← ht28]; simp only [rm_dnL, Option.getD_some, c_39, rm_cl hx3n, isNd_nI hx3n, if_pos c_49, ↓reduceIte, Bool.false_eq_true]; done) | (rw [← ht28]; simp only [rm_dnL, Option.getD_some, c_39, rm_cl hx3n, isNd_nI hx3n, if_pos c_49, ↓reduceIte, Bool.false_eq_true]; with_reducible rfl) | (rw [← ht28]; simp only [rm_dnL, Option.getD_some, c_39, rm_cl hx3n, isNd_nI hx3n, if_pos c_49, ↓reduceIte, Bool.false_eq_true]; rfl) | (simp only [c_1, rm_cl hxn, c_5, rm_cl hyn, if_neg c_10, c_39, rm_cl hx3n, isNd_nI hx3n, if_pos c_49, ↓reduceIte, Bool.false_eq_true]; rw [← ht28]; simp only [rm_dnL, Option.getD_some, c_39, rm_cl hx3n, isNd_nI hx3n, if_pos c_49, ↓reduceIte, Bool.false_eq_true]; done) | (simp only [c_1, rm_cl hxn, c_5, rm_cl hyn, if_neg c_10, c_39, rm_cl hx3n, isNd_nI hx3n, if_pos c_49, ↓reduceIte, Bool.false_eq_true]; done) | (simp only [c_1, rm_cl hxn, c_5, rm_cl hyn, if_neg c_10, c_39, rm_cl hx3n, isNd_nI hx3n, if_pos c_49, ↓reduceIte, Bool.false_eq_true]; with_reducible rfl)⟩
    exact lp_28 10 0 (by omega) (nI yn) (by first | with_reducible rfl | (simp only [c_1, rm_cl hxn, c_5, rm_cl hyn, if_neg c_10, ↓reduceIte, Bool.false_eq_true]; done) | (simp only [c_1, rm_cl hxn, c_5, rm_cl hyn, if_neg c_10, ↓reduceIte, Bool.false_eq_true]; with_reducible rfl)) _ _ hw _ (lv_sub hl [2, 3, 1, 0] rfl)
  · skip
    exact rm_throwS C hfl hlocks htab hTh hw (by decide +kernel) (by decide +kernel) (by decide +kernel) hTh.2.2.1.2.2.1 (by decide +kernel) rm_nb3 hTh.2.2.2.2.2.2.2.2 rm_ot3 hl.1 dX0_down_13 dX0_down_16 dX0_down_17 dX0_down_19 dX0_down_22 (Nat.le_of_ble_eq_true rfl) (Nat.le_of_ble_eq_true rfl) (Nat.le_of_ble_eq_true rfl) (Nat.le_of_ble_eq_true rfl) (Nat.le_of_ble_eq_true rfl) (Nat.le_of_ble_eq_true rfl) (by first | (simp only [rm_tDown, c_1, rm_cl hxn, c_5, rm_cl hyn, if_pos c_10, ↓reduceIte, Bool.false_eq_true, rm_or_n, rm_or_s]; done) | (simp only [rm_tDown, c_1, rm_cl hxn, c_5, rm_cl hyn, if_pos c_10, ↓reduceIte, Bool.false_eq_true, rm_or_n, rm_or_s]; rfl))
end
section
/-! rows of the two constructors: arrays are made, fields are set -/
theorem va_AOA.moved {t : FieldType} {u U : State} (hvm : u.vm.Alike U.vm) (h : va_AOA t u) : va_AOA t U := Jvm.Stand.arrayOver_alikeB hvm h
abbrev rm_R0 (k : rm_K) : va_E := .inl (k.2.1, 10, .inl (fun _ => 0))
section RXN
variable {p : Program} {l : Launch} {e : Env} {R : Room} {s : State} {m : MethodId} {args : Array Value} {below : List Frame} {meth : Method} {c : Code} {H : Heap} {locs : List Loc} {cells slots : Nat} {Q : State → Prop}
variable {cc : ByteArray} {pc nL : Nat} {ls : Array Slot} {rest : List Value} {Ts : List Cond} {k : rm_K} {A : Nat → Prop} {H0 : Heap} {ws : va_W} {own : String}
theorem rx_newI (CF : CallFix p m c cc nL s args Ts own) (harr : Cond.arrayClass .int ∈ Ts) (hK : va_K k.1 vwCl (rm_ty k) s) (hP : va_P k.1 vwCl ws H) (hD : va_D A ws) (hS : va_S A H0 H locs) (hA : ∀ q, H0.size ≤ q → A q)
    {n : Int32} {N : Nat} (hn : ¬ n < 0) (hN : n.toNatClampNeg = N) (hN1 : N ≤ 100) (hcells : cells + 1 ≤ R.cells) (hslots : slots + N ≤ R.slots) (hdg : decode cc pc = .ok (.newarray .int, 2))
    (kk : ∀ (q : Nat) (H1 : Heap), va_P k.1 vwCl (ws ++ [(q, .inl (k.2.1, N, .inl (fun _ => 0)))]) H1 → va_D A (ws ++ [(q, .inl (k.2.1, N, .inl (fun _ => 0)))]) → va_S A H0 H1 locs →
      W p l e R s m args below meth c H1 locs (cells + 1) (slots + N) Q (F0 m (pc + 2) ls (.ref q :: rest))) : W p l e R s m args below meth c H locs cells slots Q (F0 m pc ls (.int n :: rest)) := by
  refine va_newa (atype := .int) (ty := .int) (a0 := (N, .inl (fun _ => 0))) (N' := N) CF.1 CF.2.1 (CF.2.2.2.2 _ harr) rfl hK hP hD hS hA (fun cA => rfl) hn hN (by show N * 4 ≤ 536870912; omega) hcells hslots hdg (fun q cA H1 hK2 hP1 hD1 hS1 => ?_)
  have e1 : s.vm.findClass ("[" ++ FieldType.int.toString) = some cA := (hK2.2 (rm_ty k).length (cA, .int) (by simp)).2
  have e2 : s.vm.findClass ("[" ++ FieldType.int.toString) = some k.2.1 := (hK.2 0 _ rfl).2
  obtain rfl : k.2.1 = cA := Option.some.inj (e2.symm.trans e1)
  exact kk q H1 hP1 hD1 hS1
theorem rx_newZ (CF : CallFix p m c cc nL s args Ts own) (harr : Cond.arrayClass .boolean ∈ Ts) (hK : va_K k.1 vwCl (rm_ty k) s) (hP : va_P k.1 vwCl ws H) (hD : va_D A ws) (hS : va_S A H0 H locs) (hA : ∀ q, H0.size ≤ q → A q)
    {n : Int32} {N : Nat} (hn : ¬ n < 0) (hN : n.toNatClampNeg = N) (hN1 : N ≤ 100) (hcells : cells + 1 ≤ R.cells) (hslots : slots + N ≤ R.slots) (hdg : decode cc pc = .ok (.newarray .boolean, 2))
    (kk : ∀ (q : Nat) (H1 : Heap), va_P k.1 vwCl (ws ++ [(q, .inl (k.2.2.1, N, .inl (fun _ => 0)))]) H1 → va_D A (ws ++ [(q, .inl (k.2.2.1, N, .inl (fun _ => 0)))]) → va_S A H0 H1 locs →
      W p l e R s m args below meth c H1 locs (cells + 1) (slots + N) Q (F0 m (pc + 2) ls (.ref q :: rest))) : W p l e R s m args below meth c H locs cells slots Q (F0 m pc ls (.int n :: rest)) := by
  refine va_newa (atype := .boolean) (ty := .boolean) (a0 := (N, .inl (fun _ => 0))) (N' := N) CF.1 CF.2.1 (CF.2.2.2.2 _ harr) rfl hK hP hD hS hA (fun cA => rfl) hn hN (by show N * 1 ≤ 536870912; omega) hcells hslots hdg (fun q cA H1 hK2 hP1 hD1 hS1 => ?_)
  have e1 : s.vm.findClass ("[" ++ FieldType.boolean.toString) = some cA := (hK2.2 (rm_ty k).length (cA, .boolean) (by simp)).2
  have e2 : s.vm.findClass ("[" ++ FieldType.boolean.toString) = some k.2.2.1 := (hK.2 1 _ rfl).2
  obtain rfl : k.2.2.1 = cA := Option.some.inj (e2.symm.trans e1)
  exact kk q H1 hP1 hD1 hS1
theorem rx_newG (CF : CallFix p m c cc nL s args Ts own) {index : Nat} (hcl : Cond.classLink own index "[[I" ∈ Ts) (harr : Cond.arrayClass .int ∈ Ts) (hover : va_AOA .int s) (hK : va_K k.1 vwCl (rm_ty k) s) (hP : va_P k.1 vwCl ws H) (hD : va_D A ws) (hS : va_S A H0 H locs) (hA : ∀ q, H0.size ≤ q → A q)
    (hcells : cells + 11 ≤ R.cells) (hslots : slots + 110 ≤ R.slots) (hdg : decode cc pc = .ok (.multianewarray index 2, 4))
    (kk : ∀ (q : Nat) (r : Nat → Nat) (H1 : Heap), va_P k.1 vwCl (ws ++ ((q, .inl (k.2.2.2, 10, .inr (.inr (.inr (.inr (fun i => if i < 10 then some (r i) else none)))))) :: (List.range 10).map (fun i => (r i, rm_R0 k)))) H1 → va_D A (ws ++ ((q, .inl (k.2.2.2, 10, .inr (.inr (.inr (.inr (fun i => if i < 10 then some (r i) else none)))))) :: (List.range 10).map (fun i => (r i, rm_R0 k)))) → va_S A H0 H1 locs →
      W p l e R s m args below meth c H1 locs (cells + 11) (slots + 110) Q (F0 m (pc + 4) ls (.ref q :: rest))) : W p l e R s m args below meth c H locs cells slots Q (F0 m pc ls (.int 10 :: .int 10 :: rest)) := by
  have e2 : s.vm.findClass ("[" ++ FieldType.int.toString) = some k.2.1 := (hK.2 0 _ rfl).2
  have hP0 : va_P k.1 vwCl (ws ++ va_pl [] (fun _ => rm_R0 k)) H := by
    show va_P k.1 vwCl (ws ++ []) H
    rw [List.append_nil]
    exact hP
  have hD0 : va_D A (ws ++ va_pl [] (fun _ => rm_R0 k)) := by
    show va_D A (ws ++ [])
    rw [List.append_nil]
    exact hD
  refine va_mna (ty := .int) (cy := k.2.1) (N' := 10) (K' := 10) (z := (10, .inl (fun _ => 0))) CF.1 CF.2.1 CF.2.2.2.1 (CF.2.2.2.2 _ hcl) hover (CF.2.2.2.2 _ harr) e2 hK hP0 hD0 hS hA (by decide) (by decide) (by decide) (by decide) (by decide) (by decide) (by decide) rfl rfl hcells hslots (fun c9 => by unfold Jvm.Free.Multi.innerC; rw [vp_cell_i, ← arrV_new]; rfl) hdg ?_
  intro q r cA H1 hr1 hr2 hK2 hP1 hD1 hS1
  have e3 : s.vm.findClass ("[" ++ (FieldType.array .int).toString) = some cA := (hK2.2 (rm_ty k).length (cA, .array .int) (by simp)).2
  have e4 : s.vm.findClass ("[" ++ (FieldType.array .int).toString) = some k.2.2.2 := (hK.2 2 _ rfl).2
  obtain rfl : k.2.2.2 = cA := Option.some.inj (e4.symm.trans e3)
  have hlist : va_pl ([] ++ (List.range 10).map r) (vr_up (fun _ => rm_R0 k) ((List.range 10).map r) (.inl (k.2.1, (10, .inl (fun _ => 0))))) = (List.range 10).map (fun i => (r i, rm_R0 k)) := by
    rw [List.nil_append]
    unfold va_pl
    rw [List.map_map]
    apply List.map_congr_left
    intro i hi
    show (r i, vr_up _ _ _ (r i)) = (r i, rm_R0 k)
    rw [vr_up_in (List.mem_map.mpr ⟨i, hi, rfl⟩)]
  rw [hlist] at hP1 hD1
  have hassoc : (ws ++ [(q, .inl (k.2.2.2, 10, .inr (.inr (.inr (.inr (fun i => if i < 10 then some (r i) else none))))))]) ++ (List.range 10).map (fun i => (r i, rm_R0 k)) = ws ++ ((q, .inl (k.2.2.2, 10, .inr (.inr (.inr (.inr (fun i => if i < 10 then some (r i) else none)))))) :: (List.range 10).map (fun i => (r i, rm_R0 k))) := by
    rw [List.append_assoc]; rfl
  rw [hassoc] at hP1 hD1
  exact kk q r H1 hP1 hD1 hS1
end RXN
end
section
def rx_adr (l : List Nat) : Nat → Nat := fun j => l.getD j 0
theorem rx_sub {D : va_G} {cl : List vw_C} {H : Heap} {A : Nat → Prop} {src : va_W} {n : Nat} (a : Nat → Nat) (E : Nat → va_E) (idx : Nat → Nat) (hidx : ∀ i, i < n → ∀ j, j < n → idx i = idx j → i = j) (h : ∀ j, j < n → src[idx j]? = some (a j, E j)) (hP : va_P D cl src H) (hD : va_D A src) :
    va_P D cl ((List.range n).map (fun q => (a q, E q))) H ∧ va_D A ((List.range n).map (fun q => (a q, E q))) := by
  have key : ∀ (j : Nat) (x : Nat × va_E), ((List.range n).map (fun q => (a q, E q)))[j]? = some x → j < n ∧ x = (a j, E j) := by
    intro j x hx
    have hj : j < n := by
      have := (List.getElem?_eq_some_iff.mp hx).1
      simpa using this
    rw [List.getElem?_map, List.getElem?_range hj] at hx
    exact ⟨hj, (Option.some.inj hx).symm⟩
  refine ⟨fun j x hx => ?_, fun i j x y hi hj hxy => ?_, fun j x hx => ?_⟩
  · obtain ⟨hj, rfl⟩ := key j x hx
    exact hP _ _ (h j hj)
  · obtain ⟨h1, rfl⟩ := key i x hi
    obtain ⟨h2, rfl⟩ := key j y hj
    exact hidx i h1 j h2 (hD.1 _ _ _ _ (h i h1) (h j h2) hxy)
  · obtain ⟨hj, rfl⟩ := key j x hx
    exact hD.2 _ _ (h j hj)
def rm_s0 : rm_St := fun a b => if a = 0 then (if b = 1 then 10000 else if b = 2 then 1 else if b = 3 then 4 else 0) else 0
set_option maxHeartbeats 4000000 in
set_option maxRecDepth 100000 in
theorem rm_asm (k : rm_K) (A : Nat → Prop) (H : Heap) (h0 q1 q2 q3 q4 q5 q6 q7 q8 q9 q10 q11 q12 q13 q14 : Nat) (r1 r2 r3 r4 : Nat → Nat) (hP : va_P k.1 vwCl [(h0, .inr (0, [.int 0, .int 10000, .int 1, .int 4, .int 0, .int 0, .ref q1, .ref q2, .ref q3, .ref q4, .ref q5, .ref q6, .ref q7, .ref q8, .ref q9, .ref q10, .ref q11, .ref q12, .ref q13, .ref q14])), (q1, .inl (k.2.2.2, 10, .inr (.inr (.inr (.inr (fun i => if i < 10 then some (r1 i) else none)))))), (r1 0, rm_R0 k), (r1 1, rm_R0 k), (r1 2, rm_R0 k), (r1 3, rm_R0 k), (r1 4, rm_R0 k), (r1 5, rm_R0 k), (r1 6, rm_R0 k), (r1 7, rm_R0 k), (r1 8, rm_R0 k), (r1 9, rm_R0 k), (q2, .inl (k.2.2.2, 10, .inr (.inr (.inr (.inr (fun i => if i < 10 then some (r2 i) else none)))))), (r2 0, rm_R0 k), (r2 1, rm_R0 k), (r2 2, rm_R0 k), (r2 3, rm_R0 k), (r2 4, rm_R0 k), (r2 5, rm_R0 k), (r2 6, rm_R0 k), (r2 7, rm_R0 k), (r2 8, rm_R0 k), (r2 9, rm_R0 k), (q3, .inl (k.2.2.2, 10, .inr (.inr (.inr (.inr (fun i => if i < 10 then some (r3 i) else none)))))), (r3 0, rm_R0 k), (r3 1, rm_R0 k), (r3 2, rm_R0 k), (r3 3, rm_R0 k), (r3 4, rm_R0 k), (r3 5, rm_R0 k), (r3 6, rm_R0 k), (r3 7, rm_R0 k), (r3 8, rm_R0 k), (r3 9, rm_R0 k), (q4, .inl (k.2.2.2, 10, .inr (.inr (.inr (.inr (fun i => if i < 10 then some (r4 i) else none)))))), (r4 0, rm_R0 k), (r4 1, rm_R0 k), (r4 2, rm_R0 k), (r4 3, rm_R0 k), (r4 4, rm_R0 k), (r4 5, rm_R0 k), (r4 6, rm_R0 k), (r4 7, rm_R0 k), (r4 8, rm_R0 k), (r4 9, rm_R0 k), (q5, .inl (k.2.2.1, 10, .inl (fun _ => 0))), (q6, .inl (k.2.1, 10, .inl (fun _ => 0))), (q7, .inl (k.2.1, 10, .inl (fun _ => 0))), (q8, .inl (k.2.1, 10, .inl (fun _ => 0))), (q9, .inl (k.2.1, 10, .inl (fun _ => 0))), (q10, .inl (k.2.1, 10, .inl (fun _ => 0))), (q11, .inl (k.2.1, 10, .inl (fun _ => 0))), (q12, .inl (k.2.1, 10, .inl (fun _ => 0))), (q13, .inl (k.2.1, 10, .inl (fun _ => 0))), (q14, .inl (k.2.1, 10, .inl (fun _ => 0)))] H) (hD : va_D A [(h0, .inr (0, [.int 0, .int 10000, .int 1, .int 4, .int 0, .int 0, .ref q1, .ref q2, .ref q3, .ref q4, .ref q5, .ref q6, .ref q7, .ref q8, .ref q9, .ref q10, .ref q11, .ref q12, .ref q13, .ref q14])), (q1, .inl (k.2.2.2, 10, .inr (.inr (.inr (.inr (fun i => if i < 10 then some (r1 i) else none)))))), (r1 0, rm_R0 k), (r1 1, rm_R0 k), (r1 2, rm_R0 k), (r1 3, rm_R0 k), (r1 4, rm_R0 k), (r1 5, rm_R0 k), (r1 6, rm_R0 k), (r1 7, rm_R0 k), (r1 8, rm_R0 k), (r1 9, rm_R0 k), (q2, .inl (k.2.2.2, 10, .inr (.inr (.inr (.inr (fun i => if i < 10 then some (r2 i) else none)))))), (r2 0, rm_R0 k), (r2 1, rm_R0 k), (r2 2, rm_R0 k), (r2 3, rm_R0 k), (r2 4, rm_R0 k), (r2 5, rm_R0 k), (r2 6, rm_R0 k), (r2 7, rm_R0 k), (r2 8, rm_R0 k), (r2 9, rm_R0 k), (q3, .inl (k.2.2.2, 10, .inr (.inr (.inr (.inr (fun i => if i < 10 then some (r3 i) else none)))))), (r3 0, rm_R0 k), (r3 1, rm_R0 k), (r3 2, rm_R0 k), (r3 3, rm_R0 k), (r3 4, rm_R0 k), (r3 5, rm_R0 k), (r3 6, rm_R0 k), (r3 7, rm_R0 k), (r3 8, rm_R0 k), (r3 9, rm_R0 k), (q4, .inl (k.2.2.2, 10, .inr (.inr (.inr (.inr (fun i => if i < 10 then some (r4 i) else none)))))), (r4 0, rm_R0 k), (r4 1, rm_R0 k), (r4 2, rm_R0 k), (r4 3, rm_R0 k), (r4 4, rm_R0 k), (r4 5, rm_R0 k), (r4 6, rm_R0 k), (r4 7, rm_R0 k), (r4 8, rm_R0 k), (r4 9, rm_R0 k), (q5, .inl (k.2.2.1, 10, .inl (fun _ => 0))), (q6, .inl (k.2.1, 10, .inl (fun _ => 0))), (q7, .inl (k.2.1, 10, .inl (fun _ => 0))), (q8, .inl (k.2.1, 10, .inl (fun _ => 0))), (q9, .inl (k.2.1, 10, .inl (fun _ => 0))), (q10, .inl (k.2.1, 10, .inl (fun _ => 0))), (q11, .inl (k.2.1, 10, .inl (fun _ => 0))), (q12, .inl (k.2.1, 10, .inl (fun _ => 0))), (q13, .inl (k.2.1, 10, .inl (fun _ => 0))), (q14, .inl (k.2.1, 10, .inl (fun _ => 0)))]) : ∃ a : Nat → Nat, a 0 = h0 ∧ va_P k.1 vwCl (rm_W k a rm_s0) H ∧ va_D A (rm_W k a rm_s0) := by
  have hg1 : (fun i => if i < 10 then some (r1 i) else none) = rm_G (rx_adr [h0, q1, q2, q3, q4, q5, q6, q7, q8, q9, q10, q11, q12, q13, q14, r1 0, r1 1, r1 2, r1 3, r1 4, r1 5, r1 6, r1 7, r1 8, r1 9, r2 0, r2 1, r2 2, r2 3, r2 4, r2 5, r2 6, r2 7, r2 8, r2 9, r3 0, r3 1, r3 2, r3 3, r3 4, r3 5, r3 6, r3 7, r3 8, r3 9, r4 0, r4 1, r4 2, r4 3, r4 4, r4 5, r4 6, r4 7, r4 8, r4 9]) 1 := by
    funext i
    unfold rm_G
    by_cases h : i < 10
    · rw [if_pos h, if_pos h]
      rcases (show i = 0 ∨ i = 1 ∨ i = 2 ∨ i = 3 ∨ i = 4 ∨ i = 5 ∨ i = 6 ∨ i = 7 ∨ i = 8 ∨ i = 9 by omega) with rfl | rfl | rfl | rfl | rfl | rfl | rfl | rfl | rfl | rfl <;> rfl
    · rw [if_neg h, if_neg h]
  have hg2 : (fun i => if i < 10 then some (r2 i) else none) = rm_G (rx_adr [h0, q1, q2, q3, q4, q5, q6, q7, q8, q9, q10, q11, q12, q13, q14, r1 0, r1 1, r1 2, r1 3, r1 4, r1 5, r1 6, r1 7, r1 8, r1 9, r2 0, r2 1, r2 2, r2 3, r2 4, r2 5, r2 6, r2 7, r2 8, r2 9, r3 0, r3 1, r3 2, r3 3, r3 4, r3 5, r3 6, r3 7, r3 8, r3 9, r4 0, r4 1, r4 2, r4 3, r4 4, r4 5, r4 6, r4 7, r4 8, r4 9]) 2 := by
    funext i
    unfold rm_G
    by_cases h : i < 10
    · rw [if_pos h, if_pos h]
      rcases (show i = 0 ∨ i = 1 ∨ i = 2 ∨ i = 3 ∨ i = 4 ∨ i = 5 ∨ i = 6 ∨ i = 7 ∨ i = 8 ∨ i = 9 by omega) with rfl | rfl | rfl | rfl | rfl | rfl | rfl | rfl | rfl | rfl <;> rfl
    · rw [if_neg h, if_neg h]
  have hg3 : (fun i => if i < 10 then some (r3 i) else none) = rm_G (rx_adr [h0, q1, q2, q3, q4, q5, q6, q7, q8, q9, q10, q11, q12, q13, q14, r1 0, r1 1, r1 2, r1 3, r1 4, r1 5, r1 6, r1 7, r1 8, r1 9, r2 0, r2 1, r2 2, r2 3, r2 4, r2 5, r2 6, r2 7, r2 8, r2 9, r3 0, r3 1, r3 2, r3 3, r3 4, r3 5, r3 6, r3 7, r3 8, r3 9, r4 0, r4 1, r4 2, r4 3, r4 4, r4 5, r4 6, r4 7, r4 8, r4 9]) 3 := by
    funext i
    unfold rm_G
    by_cases h : i < 10
    · rw [if_pos h, if_pos h]
      rcases (show i = 0 ∨ i = 1 ∨ i = 2 ∨ i = 3 ∨ i = 4 ∨ i = 5 ∨ i = 6 ∨ i = 7 ∨ i = 8 ∨ i = 9 by omega) with rfl | rfl | rfl | rfl | rfl | rfl | rfl | rfl | rfl | rfl <;> rfl
    · rw [if_neg h, if_neg h]
  have hg4 : (fun i => if i < 10 then some (r4 i) else none) = rm_G (rx_adr [h0, q1, q2, q3, q4, q5, q6, q7, q8, q9, q10, q11, q12, q13, q14, r1 0, r1 1, r1 2, r1 3, r1 4, r1 5, r1 6, r1 7, r1 8, r1 9, r2 0, r2 1, r2 2, r2 3, r2 4, r2 5, r2 6, r2 7, r2 8, r2 9, r3 0, r3 1, r3 2, r3 3, r3 4, r3 5, r3 6, r3 7, r3 8, r3 9, r4 0, r4 1, r4 2, r4 3, r4 4, r4 5, r4 6, r4 7, r4 8, r4 9]) 4 := by
    funext i
    unfold rm_G
    by_cases h : i < 10
    · rw [if_pos h, if_pos h]
      rcases (show i = 0 ∨ i = 1 ∨ i = 2 ∨ i = 3 ∨ i = 4 ∨ i = 5 ∨ i = 6 ∨ i = 7 ∨ i = 8 ∨ i = 9 by omega) with rfl | rfl | rfl | rfl | rfl | rfl | rfl | rfl | rfl | rfl <;> rfl
    · rw [if_neg h, if_neg h]
  rw [hg1, hg2, hg3, hg4] at hP hD
  exact ⟨(rx_adr [h0, q1, q2, q3, q4, q5, q6, q7, q8, q9, q10, q11, q12, q13, q14, r1 0, r1 1, r1 2, r1 3, r1 4, r1 5, r1 6, r1 7, r1 8, r1 9, r2 0, r2 1, r2 2, r2 3, r2 4, r2 5, r2 6, r2 7, r2 8, r2 9, r3 0, r3 1, r3 2, r3 3, r3 4, r3 5, r3 6, r3 7, r3 8, r3 9, r4 0, r4 1, r4 2, r4 3, r4 4, r4 5, r4 6, r4 7, r4 8, r4 9]), rfl, rx_sub (n := 55) (rx_adr [h0, q1, q2, q3, q4, q5, q6, q7, q8, q9, q10, q11, q12, q13, q14, r1 0, r1 1, r1 2, r1 3, r1 4, r1 5, r1 6, r1 7, r1 8, r1 9, r2 0, r2 1, r2 2, r2 3, r2 4, r2 5, r2 6, r2 7, r2 8, r2 9, r3 0, r3 1, r3 2, r3 3, r3 4, r3 5, r3 6, r3 7, r3 8, r3 9, r4 0, r4 1, r4 2, r4 3, r4 4, r4 5, r4 6, r4 7, r4 8, r4 9]) (rm_E k (rx_adr [h0, q1, q2, q3, q4, q5, q6, q7, q8, q9, q10, q11, q12, q13, q14, r1 0, r1 1, r1 2, r1 3, r1 4, r1 5, r1 6, r1 7, r1 8, r1 9, r2 0, r2 1, r2 2, r2 3, r2 4, r2 5, r2 6, r2 7, r2 8, r2 9, r3 0, r3 1, r3 2, r3 3, r3 4, r3 5, r3 6, r3 7, r3 8, r3 9, r4 0, r4 1, r4 2, r4 3, r4 4, r4 5, r4 6, r4 7, r4 8, r4 9]) rm_s0) (fun j => ([0, 1, 12, 23, 34, 45, 46, 47, 48, 49, 50, 51, 52, 53, 54, 2, 3, 4, 5, 6, 7, 8, 9, 10, 11, 13, 14, 15, 16, 17, 18, 19, 20, 21, 22, 24, 25, 26, 27, 28, 29, 30, 31, 32, 33, 35, 36, 37, 38, 39, 40, 41, 42, 43, 44] : List Nat).getD j 0) (by decide +kernel) (lt_s (lt_s (lt_s (lt_s (lt_s (lt_s (lt_s (lt_s (lt_s (lt_s (lt_s (lt_s (lt_s (lt_s (lt_s (lt_s (lt_s (lt_s (lt_s (lt_s (lt_s (lt_s (lt_s (lt_s (lt_s (lt_s (lt_s (lt_s (lt_s (lt_s (lt_s (lt_s (lt_s (lt_s (lt_s (lt_s (lt_s (lt_s (lt_s (lt_s (lt_s (lt_s (lt_s (lt_s (lt_s (lt_s (lt_s (lt_s (lt_s (lt_s (lt_s (lt_s (lt_s (lt_s (lt_s lt_0 rfl) rfl) rfl) rfl) rfl) rfl) rfl) rfl) rfl) rfl) rfl) rfl) rfl) rfl) rfl) rfl) rfl) rfl) rfl) rfl) rfl) rfl) rfl) rfl) rfl) rfl) rfl) rfl) rfl) rfl) rfl) rfl) rfl) rfl) rfl) rfl) rfl) rfl) rfl) rfl) rfl) rfl) rfl) rfl) rfl) rfl) rfl) rfl) rfl) rfl) rfl) rfl) rfl) rfl) rfl) hP hD⟩
def rm_iniJ (i : Nat) : Nat → Nat → rm_St → rm_St
  | 0, _, σ => σ
  | r + 1, j, σ => rm_iniJ i r (j + 1) (rm_forget σ i j)
def rm_iniL : Nat → Nat → rm_St → rm_St
  | 0, _, σ => σ
  | r + 1, i, σ => rm_iniL r (i + 1) (rm_iniJ i 10 0 (rm_reset (rm_clear σ i) i))
set_option maxHeartbeats 4000000 in
set_option maxRecDepth 100000 in
theorem rm_initL {p : Program} {l : Launch} {e : Env} {s : State} {m : MethodId} {args : Array Value} {below : List Frame} {meth : Method} {c : Code} {H0 H : Heap} {locs : List Loc} {Q : State → Prop} {ls : Array Slot} {k : rm_K} {a : Nat → Nat} {A : Nat → Prop} {σ : rm_St} (C : rm_C p m c cX0_init 3 s args wsX0_init) (ha : rm_inj a) (hA : ∀ q, H0.size ≤ q → A q) (hw : rm_Wd k a A H0 s σ H locs) (hl : lv_has ls 3 [(0, .ref (a 0))]) (fin : ∀ (H : Heap) (locs : List Loc) (ls : Array Slot), rm_Wd k a A H0 s (rm_iniL 10 0 σ) H locs → W p l e (headSpec wsX0_init ({ frames := 2, cells := 54, slots := 540, locals := 60 })).room s m args below meth c H locs 54 540 Q (F0 m 208 ls [])) : W p l e (headSpec wsX0_init ({ frames := 2, cells := 54, slots := 540, locals := 60 })).room s m args below meth c H locs 54 540 Q (F0 m 164 ls []) := by
  have hx := C.1.1
  have hb := C.1.2.1
  have hts := C.1.2.2.2.2
  refine lv_iconst (v := 0) hx hb dX0_init_164 (by decide) ?_
  refine lv_istore_n (lv' := [(1, .int 0), (0, .ref (a 0))]) hx hb dX0_init_165 rfl hl (by decide) rfl (fun ls hl => ?_)
  have lp_166 : ∀ (r i : Nat), i + r = 10 → ∀ (τ166 : rm_St), rm_iniL r i τ166 = rm_iniL 10 0 σ → ∀ (H : Heap) (locs : List Loc), rm_Wd k a A H0 s τ166 H locs → ∀ (ls : Array Slot), lv_has ls 3 [(0, .ref (a 0)), (1, .int (nI i))] → W p l e (headSpec wsX0_init ({ frames := 2, cells := 54, slots := 540, locals := 60 })).room s m args below meth c H locs 54 540 Q (F0 m 166 ls []) := by
    intro r
    induction r with
    | zero =>
      intro i hi166 τ166 ht166 H locs hw ls hl
      obtain rfl : 10 = i := by omega
      have hz166 : τ166 = rm_iniL 10 0 σ := ht166
      refine lv_iload_n hx hb dX0_init_166 rfl (lv_at hl 1 rfl) ?_
      refine lv_bipush (v := 10) hx hb dX0_init_167 (by decide) ?_
      refine lv_icmp_ge (tgt := 208) hx hb dX0_init_169 (by decide) (fun c_169 => ?_) (fun c_169 => ?_)
      · skip
        rw [hz166] at hw
        exact fin _ _ _ hw
      · exact absurd (show (10 : Int32) ≤ nI 10 from nI_le (a := 10) (b := 10) (Nat.le_refl _) (by decide)) c_169
    | succ r ih166 =>
      intro i hi166 τ166 ht166 H locs hw ls hl
      have hlt166 : i < 10 := by omega
      refine lv_iload_n hx hb dX0_init_166 rfl (lv_at hl 1 rfl) ?_
      refine lv_bipush (v := 10) hx hb dX0_init_167 (by decide) ?_
      refine lv_icmp_ge (tgt := 208) hx hb dX0_init_169 (by decide) (fun c_169 => ?_) (fun c_169 => ?_)
      · exact absurd c_169 (nI_ge (a := i) (b := 10) hlt166 (by decide))
      · skip
        refine lv_aload_n hx hb dX0_init_172 rfl (lv_at hl 0 rfl) ?_
        refine lv_iload_n hx hb dX0_init_173 rfl (lv_at hl 1 rfl) ?_
        refine rm_callV C hw hA (As := [.int (nI i)]) (rest := []) (kX0_clearNode l k a ha τ166 i hlt166) (cwV 1 hts gX0_init_X0_clearNode rfl rfl rfl (by decide +kernel) ⟨Nat.le_of_ble_eq_true rfl, Nat.le_of_ble_eq_true rfl⟩) rfl hl.1 rfl (lv_room (Nat.le_of_ble_eq_true rfl)) dX0_init_174 ⟨Nat.le_of_ble_eq_true rfl, Nat.le_of_ble_eq_true rfl⟩ (fun H locs hw => ?_)
        refine lv_aload_n hx hb dX0_init_177 rfl (lv_at hl 0 rfl) ?_
        refine lv_iload_n hx hb dX0_init_178 rfl (lv_at hl 1 rfl) ?_
        refine rm_callV C hw hA (As := [.int (nI i)]) (rest := []) (kX0_resetTimer l k a ha (rm_clear τ166 i) i hlt166) (cwV 1 hts gX0_init_X0_resetTimer rfl rfl rfl (by decide +kernel) ⟨Nat.le_of_ble_eq_true rfl, Nat.le_of_ble_eq_true rfl⟩) rfl hl.1 rfl (lv_room (Nat.le_of_ble_eq_true rfl)) dX0_init_179 ⟨Nat.le_of_ble_eq_true rfl, Nat.le_of_ble_eq_true rfl⟩ (fun H locs hw => ?_)
        refine lv_iconst (v := 0) hx hb dX0_init_182 (by decide) ?_
        refine lv_istore_n (lv' := [(2, .int 0), (0, .ref (a 0)), (1, .int (nI i))]) hx hb dX0_init_183 rfl hl (by decide) rfl (fun ls hl => ?_)
        have lp_184 : ∀ (r j : Nat), j + r = 10 → ∀ (τ184 : rm_St), rm_iniJ i r j τ184 = rm_iniJ i 10 0 (rm_reset (rm_clear τ166 i) i) → ∀ (H : Heap) (locs : List Loc), rm_Wd k a A H0 s τ184 H locs → ∀ (ls : Array Slot), lv_has ls 3 [(0, .ref (a 0)), (1, .int (nI i)), (2, .int (nI j))] → W p l e (headSpec wsX0_init ({ frames := 2, cells := 54, slots := 540, locals := 60 })).room s m args below meth c H locs 54 540 Q (F0 m 184 ls []) := by
          intro r
          induction r with
          | zero =>
            intro j hi184 τ184 ht184 H locs hw ls hl
            obtain rfl : 10 = j := by omega
            have hz184 : τ184 = rm_iniJ i 10 0 (rm_reset (rm_clear τ166 i) i) := ht184
            refine lv_iload_n hx hb dX0_init_184 rfl (lv_at hl 2 rfl) ?_
            refine lv_bipush (v := 10) hx hb dX0_init_185 (by decide) ?_
            refine lv_icmp_ge (tgt := 202) hx hb dX0_init_187 (by decide) (fun c_187 => ?_) (fun c_187 => ?_)
            · skip
              refine lv_iinc (v := nI (i + 1)) (lv' := [(1, .int (nI (i + 1))), (0, .ref (a 0)), (2, .int (nI 10))]) hx hb dX0_init_202 hl (k := 1) rfl (rm_inc i) (by decide) rfl (fun ls hl => ?_)
              refine lv_goto (tgt := 166) hx hb dX0_init_205 (by decide) ?_
              exact ih166 (i + 1) (by omega) (τ184) (by refine Eq.trans ?_ ht166; first | with_reducible rfl | (simp only [rm_iniL, ↓reduceIte, Bool.false_eq_true]; done) | (simp only [rm_iniL, ↓reduceIte, Bool.false_eq_true]; rw [← hz184]) | (simp only [rm_iniL, ↓reduceIte, Bool.false_eq_true]; with_reducible rfl)) _ _ hw _ (lv_sub hl [1, 0] rfl)
            · exact absurd (show (10 : Int32) ≤ nI 10 from nI_le (a := 10) (b := 10) (Nat.le_refl _) (by decide)) c_187
          | succ r ih184 =>
            intro j hi184 τ184 ht184 H locs hw ls hl
            have hlt184 : j < 10 := by omega
            refine lv_iload_n hx hb dX0_init_184 rfl (lv_at hl 2 rfl) ?_
            refine lv_bipush (v := 10) hx hb dX0_init_185 (by decide) ?_
            refine lv_icmp_ge (tgt := 202) hx hb dX0_init_187 (by decide) (fun c_187 => ?_) (fun c_187 => ?_)
            · exact absurd c_187 (nI_ge (a := j) (b := 10) hlt184 (by decide))
            · skip
              refine lv_aload_n hx hb dX0_init_190 rfl (lv_at hl 0 rfl) ?_
              refine lv_iload_n hx hb dX0_init_191 rfl (lv_at hl 1 rfl) ?_
              refine lv_iload_n hx hb dX0_init_192 rfl (lv_at hl 2 rfl) ?_
              refine rm_callV C hw hA (As := [.int (nI i), .int (nI j)]) (rest := []) (kX0_forget l k a ha τ184 i j hlt166 hlt184) (cwV 2 hts gX0_init_X0_forget rfl rfl rfl (by decide +kernel) ⟨Nat.le_of_ble_eq_true rfl, Nat.le_of_ble_eq_true rfl⟩) rfl hl.1 rfl (lv_room (Nat.le_of_ble_eq_true rfl)) dX0_init_193 ⟨Nat.le_of_ble_eq_true rfl, Nat.le_of_ble_eq_true rfl⟩ (fun H locs hw => ?_)
              refine lv_iinc (v := nI (j + 1)) (lv' := [(2, .int (nI (j + 1))), (0, .ref (a 0)), (1, .int (nI i))]) hx hb dX0_init_196 hl (k := 2) rfl (rm_inc j) (by decide) rfl (fun ls hl => ?_)
              refine lv_goto (tgt := 184) hx hb dX0_init_199 (by decide) ?_
              exact ih184 (j + 1) (by omega) (rm_forget τ184 i j) (by refine Eq.trans ?_ ht184; first | with_reducible rfl | (simp only [rm_iniJ, ↓reduceIte, Bool.false_eq_true]; done) | (simp only [rm_iniJ, ↓reduceIte, Bool.false_eq_true]; with_reducible rfl)) _ _ hw _ (lv_sub hl [1, 2, 0] rfl)
        exact lp_184 10 0 (by omega) (rm_reset (rm_clear τ166 i) i) (by first | with_reducible rfl | (simp only [↓reduceIte, Bool.false_eq_true]; done) | (simp only [↓reduceIte, Bool.false_eq_true]; with_reducible rfl)) _ _ hw _ (lv_sub hl [1, 2, 0] rfl)
  exact lp_166 10 0 (by omega) (σ) (by first | with_reducible rfl | (simp only [↓reduceIte, Bool.false_eq_true]; done) | (simp only [↓reduceIte, Bool.false_eq_true]; with_reducible rfl)) _ _ hw _ (lv_sub hl [1, 0] rfl)
def rm_ini : rm_St := rm_iniL 10 0 rm_s0
set_option maxHeartbeats 4000000 in
set_option maxRecDepth 100000 in
theorem kX0_init (l : Launch) (k : rm_K) (h0 sz : Nat) : Met l yX0_init wsX0_init ({ frames := 2, cells := 54, slots := 540, locals := 60 }) (va_Pc [.ref h0] (fun U => U.heap.size = sz ∧ va_P k.1 vwCl [(h0, .inr (0, [.int 0, .int 0, .int 0, .int 0, .int 0, .int 0, .null, .null, .null, .null, .null, .null, .null, .null, .null, .null, .null, .null, .null, .null]))] U.heap ∧ va_K k.1 vwCl (rm_ty k) U ∧ va_AOA .int U)) (va_Qv (fun x : Nat → Nat => x 0 = h0) (fun x t => rm_P k x rm_ini t ∧ va_D (va_A [(h0, .inr (0, [.int 0, .int 0, .int 0, .int 0, .int 0, .int 0, .null, .null, .null, .null, .null, .null, .null, .null, .null, .null, .null, .null, .null, .null]))] sz) (rm_W k x rm_ini)) (va_A [(h0, .inr (0, [.int 0, .int 0, .int 0, .int 0, .int 0, .int 0, .null, .null, .null, .null, .null, .null, .null, .null, .null, .null, .null, .null, .null, .null]))] sz)) 54 540 (va_A [(h0, .inr (0, [.int 0, .int 0, .int 0, .int 0, .int 0, .int 0, .null, .null, .null, .null, .null, .null, .null, .null, .null, .null, .null, .null, .null, .null]))] sz) := by
  refine Met.ofW (cc := cX0_init) (maxL := 3) (ret := none) (by decide) rfl ?_
  intro p e s m args below meth c s₁ B hml hv
  obtain ⟨rfl, hsz, hP, hK, hover⟩ := hv
  have hx := B.exec
  have hb := B.bytes
  have hr := B.returns
  have hts := atoms_spec (ws := wsX0_init) B.pre
  have hown : s.vm.findClass RX0 = some m.cls := findClass_of_methodNamed B.named
  have hlocks := B.notSynchronized
  have hinit : meth.name = "<init>" := (name_of_methodNamed B.named B.method).1
  have hin : ∀ w ∈ u_ws RX0 TX0 20, w ∈ wsX0_init := by decide +kernel
  subst hsz
  have hD1 : va_D (fun _ => True) ([(h0, .inr (0, [.int 0, .int 0, .int 0, .int 0, .int 0, .int 0, .null, .null, .null, .null, .null, .null, .null, .null, .null, .null, .null, .null, .null, .null]))] : va_W) := ⟨fun i j x y hi hj _ => by
    have h1 := (List.getElem?_eq_some_iff.mp hi).1
    have h2 := (List.getElem?_eq_some_iff.mp hj).1
    simp at h1 h2
    omega, fun _ _ _ => trivial⟩
  have hD := hD1.self (sz := s.heap.size)
  generalize hAe : va_A [(h0, .inr (0, [.int 0, .int 0, .int 0, .int 0, .int 0, .int 0, .null, .null, .null, .null, .null, .null, .null, .null, .null, .null, .null, .null, .null, .null]))] s.heap.size = A at hD ⊢
  have hA : ∀ q : Nat, s.heap.size ≤ q → A q := fun q h => by rw [← hAe]; exact Or.inr h
  have hS : va_S A s.heap s.heap [] := va_S.rf
  have hl := lv_entry ([.ref h0]) (n := 3) (Nat.le_of_ble_eq_true rfl)
  rw [lg_entry_eq]
  generalize (lg_sl ([.ref h0]) ++ List.replicate (3 - (lg_sl ([.ref h0])).length) Slot.unset).toArray = ls at hl ⊢
  have hl : lv_has ls 3 [(0, .ref h0)] := hl
  refine lv_aload_n hx hb dX0_init_0 rfl (lv_at hl 0 rfl) ?_
  refine W.objInit hx hb hown (hts (.methodLink RX0 3 objectInit) (by decide +kernel)) (hts (.instanceMethod objectInit) (by decide +kernel)) (hts (.code objectInit ⟨#[0xb1]⟩ 1 none) (by decide +kernel)) rfl (by rw [hml]; exact hl.1) rfl dX0_init_1 (Nat.le_of_ble_eq_true rfl) (Nat.le_of_ble_eq_true rfl) ?_
  refine W.eq (g2 := F0 m 4 ls []) rfl ?_
  refine lv_aload_n hx hb dX0_init_4 rfl (lv_at hl 0 rfl) ?_
  refine lv_iconst (v := 0) hx hb dX0_init_5 (by decide) ?_
  refine va_put (D := k.1) (ci := 0) (v := .int 0) (ty := .int) (C := RX0) (T := TX0) (N := 20) hx hb hts hin tyX0 tyX0_ok nmX0 hown hK hP hD hS 0 rfl rfl 0 (by decide) (hts (.fieldLink RX0 9 "RankMesh" "hysteresis" "I") (by decide +kernel)) (fun _ h9 => h9) rfl (by decide +kernel) rfl rfl (Nat.le_of_ble_eq_true rfl) dX0_init_6 (fun H locs hP hD hS => ?_)
  have hP : va_P k.1 vwCl ((h0, .inr (0, [.int 0, .int 0, .int 0, .int 0, .int 0, .int 0, .null, .null, .null, .null, .null, .null, .null, .null, .null, .null, .null, .null, .null, .null])) :: ([] : va_W)) H := hP
  have hD : va_D A ((h0, .inr (0, [.int 0, .int 0, .int 0, .int 0, .int 0, .int 0, .null, .null, .null, .null, .null, .null, .null, .null, .null, .null, .null, .null, .null, .null])) :: ([] : va_W)) := hD
  refine lv_aload_n hx hb dX0_init_9 rfl (lv_at hl 0 rfl) ?_
  refine lv_sipush (v := 10000) hx hb dX0_init_10 (by decide) ?_
  refine va_put (D := k.1) (ci := 0) (v := .int 10000) (ty := .int) (C := RX0) (T := TX0) (N := 20) hx hb hts hin tyX0 tyX0_ok nmX0 hown hK hP hD hS 0 rfl rfl 1 (by decide) (hts (.fieldLink RX0 13 "RankMesh" "increase" "I") (by decide +kernel)) (fun _ h9 => h9) rfl (by decide +kernel) rfl rfl (Nat.le_of_ble_eq_true rfl) dX0_init_13 (fun H locs hP hD hS => ?_)
  have hP : va_P k.1 vwCl ((h0, .inr (0, [.int 0, .int 10000, .int 0, .int 0, .int 0, .int 0, .null, .null, .null, .null, .null, .null, .null, .null, .null, .null, .null, .null, .null, .null])) :: ([] : va_W)) H := hP
  have hD : va_D A ((h0, .inr (0, [.int 0, .int 10000, .int 0, .int 0, .int 0, .int 0, .null, .null, .null, .null, .null, .null, .null, .null, .null, .null, .null, .null, .null, .null])) :: ([] : va_W)) := hD
  refine lv_aload_n hx hb dX0_init_16 rfl (lv_at hl 0 rfl) ?_
  refine lv_iconst (v := 1) hx hb dX0_init_17 (by decide) ?_
  refine va_put (D := k.1) (ci := 0) (v := .int 1) (ty := .int) (C := RX0) (T := TX0) (N := 20) hx hb hts hin tyX0 tyX0_ok nmX0 hown hK hP hD hS 0 rfl rfl 2 (by decide) (hts (.fieldLink RX0 16 "RankMesh" "leastInterval" "I") (by decide +kernel)) (fun _ h9 => h9) rfl (by decide +kernel) rfl rfl (Nat.le_of_ble_eq_true rfl) dX0_init_18 (fun H locs hP hD hS => ?_)
  have hP : va_P k.1 vwCl ((h0, .inr (0, [.int 0, .int 10000, .int 1, .int 0, .int 0, .int 0, .null, .null, .null, .null, .null, .null, .null, .null, .null, .null, .null, .null, .null, .null])) :: ([] : va_W)) H := hP
  have hD : va_D A ((h0, .inr (0, [.int 0, .int 10000, .int 1, .int 0, .int 0, .int 0, .null, .null, .null, .null, .null, .null, .null, .null, .null, .null, .null, .null, .null, .null])) :: ([] : va_W)) := hD
  refine lv_aload_n hx hb dX0_init_21 rfl (lv_at hl 0 rfl) ?_
  refine lv_iconst (v := 4) hx hb dX0_init_22 (by decide) ?_
  refine va_put (D := k.1) (ci := 0) (v := .int 4) (ty := .int) (C := RX0) (T := TX0) (N := 20) hx hb hts hin tyX0 tyX0_ok nmX0 hown hK hP hD hS 0 rfl rfl 3 (by decide) (hts (.fieldLink RX0 19 "RankMesh" "doublings" "I") (by decide +kernel)) (fun _ h9 => h9) rfl (by decide +kernel) rfl rfl (Nat.le_of_ble_eq_true rfl) dX0_init_23 (fun H locs hP hD hS => ?_)
  have hP : va_P k.1 vwCl ((h0, .inr (0, [.int 0, .int 10000, .int 1, .int 4, .int 0, .int 0, .null, .null, .null, .null, .null, .null, .null, .null, .null, .null, .null, .null, .null, .null])) :: ([] : va_W)) H := hP
  have hD : va_D A ((h0, .inr (0, [.int 0, .int 10000, .int 1, .int 4, .int 0, .int 0, .null, .null, .null, .null, .null, .null, .null, .null, .null, .null, .null, .null, .null, .null])) :: ([] : va_W)) := hD
  refine lv_aload_n hx hb dX0_init_26 rfl (lv_at hl 0 rfl) ?_
  refine lv_iconst (v := 0) hx hb dX0_init_27 (by decide) ?_
  refine va_put (D := k.1) (ci := 0) (v := .int 0) (ty := .int) (C := RX0) (T := TX0) (N := 20) hx hb hts hin tyX0 tyX0_ok nmX0 hown hK hP hD hS 0 rfl rfl 4 (by decide) (hts (.fieldLink RX0 22 "RankMesh" "now" "I") (by decide +kernel)) (fun _ h9 => h9) rfl (by decide +kernel) rfl rfl (Nat.le_of_ble_eq_true rfl) dX0_init_28 (fun H locs hP hD hS => ?_)
  have hP : va_P k.1 vwCl ((h0, .inr (0, [.int 0, .int 10000, .int 1, .int 4, .int 0, .int 0, .null, .null, .null, .null, .null, .null, .null, .null, .null, .null, .null, .null, .null, .null])) :: ([] : va_W)) H := hP
  have hD : va_D A ((h0, .inr (0, [.int 0, .int 10000, .int 1, .int 4, .int 0, .int 0, .null, .null, .null, .null, .null, .null, .null, .null, .null, .null, .null, .null, .null, .null])) :: ([] : va_W)) := hD
  refine lv_aload_n hx hb dX0_init_31 rfl (lv_at hl 0 rfl) ?_
  refine lv_iconst (v := 0) hx hb dX0_init_32 (by decide) ?_
  refine va_put (D := k.1) (ci := 0) (v := .int 0) (ty := .int) (C := RX0) (T := TX0) (N := 20) hx hb hts hin tyX0 tyX0_ok nmX0 hown hK hP hD hS 0 rfl rfl 5 (by decide) (hts (.fieldLink RX0 25 "RankMesh" "droppedPackets" "I") (by decide +kernel)) (fun _ h9 => h9) rfl (by decide +kernel) rfl rfl (Nat.le_of_ble_eq_true rfl) dX0_init_33 (fun H locs hP hD hS => ?_)
  have hP : va_P k.1 vwCl ((h0, .inr (0, [.int 0, .int 10000, .int 1, .int 4, .int 0, .int 0, .null, .null, .null, .null, .null, .null, .null, .null, .null, .null, .null, .null, .null, .null])) :: ([] : va_W)) H := hP
  have hD : va_D A ((h0, .inr (0, [.int 0, .int 10000, .int 1, .int 4, .int 0, .int 0, .null, .null, .null, .null, .null, .null, .null, .null, .null, .null, .null, .null, .null, .null])) :: ([] : va_W)) := hD
  refine lv_aload_n hx hb dX0_init_36 rfl (lv_at hl 0 rfl) ?_
  refine lv_bipush (v := 10) hx hb dX0_init_37 (by decide) ?_
  refine lv_bipush (v := 10) hx hb dX0_init_39 (by decide) ?_
  refine rx_newG ⟨hx, hb, hml, hown, hts⟩ (by decide +kernel) (by decide +kernel) hover hK hP hD hS hA (Nat.le_of_ble_eq_true rfl) (Nat.le_of_ble_eq_true rfl) dX0_init_41 (fun q1 r1 H hP hD hS => ?_)
  have hP : va_P k.1 vwCl ((h0, .inr (0, [.int 0, .int 10000, .int 1, .int 4, .int 0, .int 0, .null, .null, .null, .null, .null, .null, .null, .null, .null, .null, .null, .null, .null, .null])) :: (([] : va_W) ++ ((q1, .inl (k.2.2.2, 10, .inr (.inr (.inr (.inr (fun i => if i < 10 then some (r1 i) else none)))))) :: (List.range 10).map (fun i => (r1 i, rm_R0 k))))) H := hP
  have hD : va_D A ((h0, .inr (0, [.int 0, .int 10000, .int 1, .int 4, .int 0, .int 0, .null, .null, .null, .null, .null, .null, .null, .null, .null, .null, .null, .null, .null, .null])) :: (([] : va_W) ++ ((q1, .inl (k.2.2.2, 10, .inr (.inr (.inr (.inr (fun i => if i < 10 then some (r1 i) else none)))))) :: (List.range 10).map (fun i => (r1 i, rm_R0 k))))) := hD
  obtain ⟨T1, hT1⟩ : ∃ TT : va_W, TT = ([] : va_W) ++ ((q1, .inl (k.2.2.2, 10, .inr (.inr (.inr (.inr (fun i => if i < 10 then some (r1 i) else none)))))) :: (List.range 10).map (fun i => (r1 i, rm_R0 k))) := ⟨_, rfl⟩
  rw [← hT1] at hP hD
  refine va_putF (D := k.1) (ci := 0) (v := .ref q1) (ty := .array (.array .int)) (C := RX0) (T := TX0) (N := 20) hx hb hts hin tyX0 tyX0_ok nmX0 hown hK hP hD hS 0 rfl rfl 6 (by decide) (hts (.fieldLink RX0 30 "RankMesh" "costOf" "[[I") (by decide +kernel)) (fun _ h9 => h9) rfl hinit rfl (by decide +kernel) rfl rfl (Nat.le_of_ble_eq_true rfl) dX0_init_45 (fun H locs hP hD hS => ?_)
  have hP : va_P k.1 vwCl ((h0, .inr (0, [.int 0, .int 10000, .int 1, .int 4, .int 0, .int 0, .ref q1, .null, .null, .null, .null, .null, .null, .null, .null, .null, .null, .null, .null, .null])) :: T1) H := hP
  have hD : va_D A ((h0, .inr (0, [.int 0, .int 10000, .int 1, .int 4, .int 0, .int 0, .ref q1, .null, .null, .null, .null, .null, .null, .null, .null, .null, .null, .null, .null, .null])) :: T1) := hD
  refine lv_aload_n hx hb dX0_init_48 rfl (lv_at hl 0 rfl) ?_
  refine lv_bipush (v := 10) hx hb dX0_init_49 (by decide) ?_
  refine lv_bipush (v := 10) hx hb dX0_init_51 (by decide) ?_
  refine rx_newG ⟨hx, hb, hml, hown, hts⟩ (by decide +kernel) (by decide +kernel) hover hK hP hD hS hA (Nat.le_of_ble_eq_true rfl) (Nat.le_of_ble_eq_true rfl) dX0_init_53 (fun q2 r2 H hP hD hS => ?_)
  have hP : va_P k.1 vwCl ((h0, .inr (0, [.int 0, .int 10000, .int 1, .int 4, .int 0, .int 0, .ref q1, .null, .null, .null, .null, .null, .null, .null, .null, .null, .null, .null, .null, .null])) :: (T1 ++ ((q2, .inl (k.2.2.2, 10, .inr (.inr (.inr (.inr (fun i => if i < 10 then some (r2 i) else none)))))) :: (List.range 10).map (fun i => (r2 i, rm_R0 k))))) H := hP
  have hD : va_D A ((h0, .inr (0, [.int 0, .int 10000, .int 1, .int 4, .int 0, .int 0, .ref q1, .null, .null, .null, .null, .null, .null, .null, .null, .null, .null, .null, .null, .null])) :: (T1 ++ ((q2, .inl (k.2.2.2, 10, .inr (.inr (.inr (.inr (fun i => if i < 10 then some (r2 i) else none)))))) :: (List.range 10).map (fun i => (r2 i, rm_R0 k))))) := hD
  obtain ⟨T2, hT2⟩ : ∃ TT : va_W, TT = T1 ++ ((q2, .inl (k.2.2.2, 10, .inr (.inr (.inr (.inr (fun i => if i < 10 then some (r2 i) else none)))))) :: (List.range 10).map (fun i => (r2 i, rm_R0 k))) := ⟨_, rfl⟩
  rw [← hT2] at hP hD
  refine va_putF (D := k.1) (ci := 0) (v := .ref q2) (ty := .array (.array .int)) (C := RX0) (T := TX0) (N := 20) hx hb hts hin tyX0 tyX0_ok nmX0 hown hK hP hD hS 0 rfl rfl 7 (by decide) (hts (.fieldLink RX0 33 "RankMesh" "heardTree" "[[I") (by decide +kernel)) (fun _ h9 => h9) rfl hinit rfl (by decide +kernel) rfl rfl (Nat.le_of_ble_eq_true rfl) dX0_init_57 (fun H locs hP hD hS => ?_)
  have hP : va_P k.1 vwCl ((h0, .inr (0, [.int 0, .int 10000, .int 1, .int 4, .int 0, .int 0, .ref q1, .ref q2, .null, .null, .null, .null, .null, .null, .null, .null, .null, .null, .null, .null])) :: T2) H := hP
  have hD : va_D A ((h0, .inr (0, [.int 0, .int 10000, .int 1, .int 4, .int 0, .int 0, .ref q1, .ref q2, .null, .null, .null, .null, .null, .null, .null, .null, .null, .null, .null, .null])) :: T2) := hD
  refine lv_aload_n hx hb dX0_init_60 rfl (lv_at hl 0 rfl) ?_
  refine lv_bipush (v := 10) hx hb dX0_init_61 (by decide) ?_
  refine lv_bipush (v := 10) hx hb dX0_init_63 (by decide) ?_
  refine rx_newG ⟨hx, hb, hml, hown, hts⟩ (by decide +kernel) (by decide +kernel) hover hK hP hD hS hA (Nat.le_of_ble_eq_true rfl) (Nat.le_of_ble_eq_true rfl) dX0_init_65 (fun q3 r3 H hP hD hS => ?_)
  have hP : va_P k.1 vwCl ((h0, .inr (0, [.int 0, .int 10000, .int 1, .int 4, .int 0, .int 0, .ref q1, .ref q2, .null, .null, .null, .null, .null, .null, .null, .null, .null, .null, .null, .null])) :: (T2 ++ ((q3, .inl (k.2.2.2, 10, .inr (.inr (.inr (.inr (fun i => if i < 10 then some (r3 i) else none)))))) :: (List.range 10).map (fun i => (r3 i, rm_R0 k))))) H := hP
  have hD : va_D A ((h0, .inr (0, [.int 0, .int 10000, .int 1, .int 4, .int 0, .int 0, .ref q1, .ref q2, .null, .null, .null, .null, .null, .null, .null, .null, .null, .null, .null, .null])) :: (T2 ++ ((q3, .inl (k.2.2.2, 10, .inr (.inr (.inr (.inr (fun i => if i < 10 then some (r3 i) else none)))))) :: (List.range 10).map (fun i => (r3 i, rm_R0 k))))) := hD
  obtain ⟨T3, hT3⟩ : ∃ TT : va_W, TT = T2 ++ ((q3, .inl (k.2.2.2, 10, .inr (.inr (.inr (.inr (fun i => if i < 10 then some (r3 i) else none)))))) :: (List.range 10).map (fun i => (r3 i, rm_R0 k))) := ⟨_, rfl⟩
  rw [← hT3] at hP hD
  refine va_putF (D := k.1) (ci := 0) (v := .ref q3) (ty := .array (.array .int)) (C := RX0) (T := TX0) (N := 20) hx hb hts hin tyX0 tyX0_ok nmX0 hown hK hP hD hS 0 rfl rfl 8 (by decide) (hts (.fieldLink RX0 36 "RankMesh" "heardVersion" "[[I") (by decide +kernel)) (fun _ h9 => h9) rfl hinit rfl (by decide +kernel) rfl rfl (Nat.le_of_ble_eq_true rfl) dX0_init_69 (fun H locs hP hD hS => ?_)
  have hP : va_P k.1 vwCl ((h0, .inr (0, [.int 0, .int 10000, .int 1, .int 4, .int 0, .int 0, .ref q1, .ref q2, .ref q3, .null, .null, .null, .null, .null, .null, .null, .null, .null, .null, .null])) :: T3) H := hP
  have hD : va_D A ((h0, .inr (0, [.int 0, .int 10000, .int 1, .int 4, .int 0, .int 0, .ref q1, .ref q2, .ref q3, .null, .null, .null, .null, .null, .null, .null, .null, .null, .null, .null])) :: T3) := hD
  refine lv_aload_n hx hb dX0_init_72 rfl (lv_at hl 0 rfl) ?_
  refine lv_bipush (v := 10) hx hb dX0_init_73 (by decide) ?_
  refine lv_bipush (v := 10) hx hb dX0_init_75 (by decide) ?_
  refine rx_newG ⟨hx, hb, hml, hown, hts⟩ (by decide +kernel) (by decide +kernel) hover hK hP hD hS hA (Nat.le_of_ble_eq_true rfl) (Nat.le_of_ble_eq_true rfl) dX0_init_77 (fun q4 r4 H hP hD hS => ?_)
  have hP : va_P k.1 vwCl ((h0, .inr (0, [.int 0, .int 10000, .int 1, .int 4, .int 0, .int 0, .ref q1, .ref q2, .ref q3, .null, .null, .null, .null, .null, .null, .null, .null, .null, .null, .null])) :: (T3 ++ ((q4, .inl (k.2.2.2, 10, .inr (.inr (.inr (.inr (fun i => if i < 10 then some (r4 i) else none)))))) :: (List.range 10).map (fun i => (r4 i, rm_R0 k))))) H := hP
  have hD : va_D A ((h0, .inr (0, [.int 0, .int 10000, .int 1, .int 4, .int 0, .int 0, .ref q1, .ref q2, .ref q3, .null, .null, .null, .null, .null, .null, .null, .null, .null, .null, .null])) :: (T3 ++ ((q4, .inl (k.2.2.2, 10, .inr (.inr (.inr (.inr (fun i => if i < 10 then some (r4 i) else none)))))) :: (List.range 10).map (fun i => (r4 i, rm_R0 k))))) := hD
  obtain ⟨T4, hT4⟩ : ∃ TT : va_W, TT = T3 ++ ((q4, .inl (k.2.2.2, 10, .inr (.inr (.inr (.inr (fun i => if i < 10 then some (r4 i) else none)))))) :: (List.range 10).map (fun i => (r4 i, rm_R0 k))) := ⟨_, rfl⟩
  rw [← hT4] at hP hD
  refine va_putF (D := k.1) (ci := 0) (v := .ref q4) (ty := .array (.array .int)) (C := RX0) (T := TX0) (N := 20) hx hb hts hin tyX0 tyX0_ok nmX0 hown hK hP hD hS 0 rfl rfl 9 (by decide) (hts (.fieldLink RX0 39 "RankMesh" "heardRank" "[[I") (by decide +kernel)) (fun _ h9 => h9) rfl hinit rfl (by decide +kernel) rfl rfl (Nat.le_of_ble_eq_true rfl) dX0_init_81 (fun H locs hP hD hS => ?_)
  have hP : va_P k.1 vwCl ((h0, .inr (0, [.int 0, .int 10000, .int 1, .int 4, .int 0, .int 0, .ref q1, .ref q2, .ref q3, .ref q4, .null, .null, .null, .null, .null, .null, .null, .null, .null, .null])) :: T4) H := hP
  have hD : va_D A ((h0, .inr (0, [.int 0, .int 10000, .int 1, .int 4, .int 0, .int 0, .ref q1, .ref q2, .ref q3, .ref q4, .null, .null, .null, .null, .null, .null, .null, .null, .null, .null])) :: T4) := hD
  refine lv_aload_n hx hb dX0_init_84 rfl (lv_at hl 0 rfl) ?_
  refine lv_bipush (v := 10) hx hb dX0_init_85 (by decide) ?_
  refine rx_newZ ⟨hx, hb, hml, hown, hts⟩ (by decide +kernel) hK hP hD hS hA (n := 10) (N := 10) (by decide) (by decide) (by decide) (Nat.le_of_ble_eq_true rfl) (Nat.le_of_ble_eq_true rfl) dX0_init_87 (fun q5 H hP hD hS => ?_)
  have hP : va_P k.1 vwCl ((h0, .inr (0, [.int 0, .int 10000, .int 1, .int 4, .int 0, .int 0, .ref q1, .ref q2, .ref q3, .ref q4, .null, .null, .null, .null, .null, .null, .null, .null, .null, .null])) :: (T4 ++ [(q5, .inl (k.2.2.1, 10, .inl (fun _ => 0)))])) H := hP
  have hD : va_D A ((h0, .inr (0, [.int 0, .int 10000, .int 1, .int 4, .int 0, .int 0, .ref q1, .ref q2, .ref q3, .ref q4, .null, .null, .null, .null, .null, .null, .null, .null, .null, .null])) :: (T4 ++ [(q5, .inl (k.2.2.1, 10, .inl (fun _ => 0)))])) := hD
  obtain ⟨T5, hT5⟩ : ∃ TT : va_W, TT = T4 ++ [(q5, .inl (k.2.2.1, 10, .inl (fun _ => 0)))] := ⟨_, rfl⟩
  rw [← hT5] at hP hD
  refine va_putF (D := k.1) (ci := 0) (v := .ref q5) (ty := .array .boolean) (C := RX0) (T := TX0) (N := 20) hx hb hts hin tyX0 tyX0_ok nmX0 hown hK hP hD hS 0 rfl rfl 10 (by decide) (hts (.fieldLink RX0 42 "RankMesh" "isRoot" "[Z") (by decide +kernel)) (fun _ h9 => h9) rfl hinit rfl (by decide +kernel) rfl rfl (Nat.le_of_ble_eq_true rfl) dX0_init_89 (fun H locs hP hD hS => ?_)
  have hP : va_P k.1 vwCl ((h0, .inr (0, [.int 0, .int 10000, .int 1, .int 4, .int 0, .int 0, .ref q1, .ref q2, .ref q3, .ref q4, .ref q5, .null, .null, .null, .null, .null, .null, .null, .null, .null])) :: T5) H := hP
  have hD : va_D A ((h0, .inr (0, [.int 0, .int 10000, .int 1, .int 4, .int 0, .int 0, .ref q1, .ref q2, .ref q3, .ref q4, .ref q5, .null, .null, .null, .null, .null, .null, .null, .null, .null])) :: T5) := hD
  refine lv_aload_n hx hb dX0_init_92 rfl (lv_at hl 0 rfl) ?_
  refine lv_bipush (v := 10) hx hb dX0_init_93 (by decide) ?_
  refine rx_newI ⟨hx, hb, hml, hown, hts⟩ (by decide +kernel) hK hP hD hS hA (n := 10) (N := 10) (by decide) (by decide) (by decide) (Nat.le_of_ble_eq_true rfl) (Nat.le_of_ble_eq_true rfl) dX0_init_95 (fun q6 H hP hD hS => ?_)
  have hP : va_P k.1 vwCl ((h0, .inr (0, [.int 0, .int 10000, .int 1, .int 4, .int 0, .int 0, .ref q1, .ref q2, .ref q3, .ref q4, .ref q5, .null, .null, .null, .null, .null, .null, .null, .null, .null])) :: (T5 ++ [(q6, .inl (k.2.1, 10, .inl (fun _ => 0)))])) H := hP
  have hD : va_D A ((h0, .inr (0, [.int 0, .int 10000, .int 1, .int 4, .int 0, .int 0, .ref q1, .ref q2, .ref q3, .ref q4, .ref q5, .null, .null, .null, .null, .null, .null, .null, .null, .null])) :: (T5 ++ [(q6, .inl (k.2.1, 10, .inl (fun _ => 0)))])) := hD
  obtain ⟨T6, hT6⟩ : ∃ TT : va_W, TT = T5 ++ [(q6, .inl (k.2.1, 10, .inl (fun _ => 0)))] := ⟨_, rfl⟩
  rw [← hT6] at hP hD
  refine va_putF (D := k.1) (ci := 0) (v := .ref q6) (ty := .array .int) (C := RX0) (T := TX0) (N := 20) hx hb hts hin tyX0 tyX0_ok nmX0 hown hK hP hD hS 0 rfl rfl 11 (by decide) (hts (.fieldLink RX0 46 "RankMesh" "lastRootVersion" "[I") (by decide +kernel)) (fun _ h9 => h9) rfl hinit rfl (by decide +kernel) rfl rfl (Nat.le_of_ble_eq_true rfl) dX0_init_97 (fun H locs hP hD hS => ?_)
  have hP : va_P k.1 vwCl ((h0, .inr (0, [.int 0, .int 10000, .int 1, .int 4, .int 0, .int 0, .ref q1, .ref q2, .ref q3, .ref q4, .ref q5, .ref q6, .null, .null, .null, .null, .null, .null, .null, .null])) :: T6) H := hP
  have hD : va_D A ((h0, .inr (0, [.int 0, .int 10000, .int 1, .int 4, .int 0, .int 0, .ref q1, .ref q2, .ref q3, .ref q4, .ref q5, .ref q6, .null, .null, .null, .null, .null, .null, .null, .null])) :: T6) := hD
  refine lv_aload_n hx hb dX0_init_100 rfl (lv_at hl 0 rfl) ?_
  refine lv_bipush (v := 10) hx hb dX0_init_101 (by decide) ?_
  refine rx_newI ⟨hx, hb, hml, hown, hts⟩ (by decide +kernel) hK hP hD hS hA (n := 10) (N := 10) (by decide) (by decide) (by decide) (Nat.le_of_ble_eq_true rfl) (Nat.le_of_ble_eq_true rfl) dX0_init_103 (fun q7 H hP hD hS => ?_)
  have hP : va_P k.1 vwCl ((h0, .inr (0, [.int 0, .int 10000, .int 1, .int 4, .int 0, .int 0, .ref q1, .ref q2, .ref q3, .ref q4, .ref q5, .ref q6, .null, .null, .null, .null, .null, .null, .null, .null])) :: (T6 ++ [(q7, .inl (k.2.1, 10, .inl (fun _ => 0)))])) H := hP
  have hD : va_D A ((h0, .inr (0, [.int 0, .int 10000, .int 1, .int 4, .int 0, .int 0, .ref q1, .ref q2, .ref q3, .ref q4, .ref q5, .ref q6, .null, .null, .null, .null, .null, .null, .null, .null])) :: (T6 ++ [(q7, .inl (k.2.1, 10, .inl (fun _ => 0)))])) := hD
  obtain ⟨T7, hT7⟩ : ∃ TT : va_W, TT = T6 ++ [(q7, .inl (k.2.1, 10, .inl (fun _ => 0)))] := ⟨_, rfl⟩
  rw [← hT7] at hP hD
  refine va_putF (D := k.1) (ci := 0) (v := .ref q7) (ty := .array .int) (C := RX0) (T := TX0) (N := 20) hx hb hts hin tyX0 tyX0_ok nmX0 hown hK hP hD hS 0 rfl rfl 12 (by decide) (hts (.fieldLink RX0 50 "RankMesh" "treeOf" "[I") (by decide +kernel)) (fun _ h9 => h9) rfl hinit rfl (by decide +kernel) rfl rfl (Nat.le_of_ble_eq_true rfl) dX0_init_105 (fun H locs hP hD hS => ?_)
  have hP : va_P k.1 vwCl ((h0, .inr (0, [.int 0, .int 10000, .int 1, .int 4, .int 0, .int 0, .ref q1, .ref q2, .ref q3, .ref q4, .ref q5, .ref q6, .ref q7, .null, .null, .null, .null, .null, .null, .null])) :: T7) H := hP
  have hD : va_D A ((h0, .inr (0, [.int 0, .int 10000, .int 1, .int 4, .int 0, .int 0, .ref q1, .ref q2, .ref q3, .ref q4, .ref q5, .ref q6, .ref q7, .null, .null, .null, .null, .null, .null, .null])) :: T7) := hD
  refine lv_aload_n hx hb dX0_init_108 rfl (lv_at hl 0 rfl) ?_
  refine lv_bipush (v := 10) hx hb dX0_init_109 (by decide) ?_
  refine rx_newI ⟨hx, hb, hml, hown, hts⟩ (by decide +kernel) hK hP hD hS hA (n := 10) (N := 10) (by decide) (by decide) (by decide) (Nat.le_of_ble_eq_true rfl) (Nat.le_of_ble_eq_true rfl) dX0_init_111 (fun q8 H hP hD hS => ?_)
  have hP : va_P k.1 vwCl ((h0, .inr (0, [.int 0, .int 10000, .int 1, .int 4, .int 0, .int 0, .ref q1, .ref q2, .ref q3, .ref q4, .ref q5, .ref q6, .ref q7, .null, .null, .null, .null, .null, .null, .null])) :: (T7 ++ [(q8, .inl (k.2.1, 10, .inl (fun _ => 0)))])) H := hP
  have hD : va_D A ((h0, .inr (0, [.int 0, .int 10000, .int 1, .int 4, .int 0, .int 0, .ref q1, .ref q2, .ref q3, .ref q4, .ref q5, .ref q6, .ref q7, .null, .null, .null, .null, .null, .null, .null])) :: (T7 ++ [(q8, .inl (k.2.1, 10, .inl (fun _ => 0)))])) := hD
  obtain ⟨T8, hT8⟩ : ∃ TT : va_W, TT = T7 ++ [(q8, .inl (k.2.1, 10, .inl (fun _ => 0)))] := ⟨_, rfl⟩
  rw [← hT8] at hP hD
  refine va_putF (D := k.1) (ci := 0) (v := .ref q8) (ty := .array .int) (C := RX0) (T := TX0) (N := 20) hx hb hts hin tyX0 tyX0_ok nmX0 hown hK hP hD hS 0 rfl rfl 13 (by decide) (hts (.fieldLink RX0 53 "RankMesh" "versionOf" "[I") (by decide +kernel)) (fun _ h9 => h9) rfl hinit rfl (by decide +kernel) rfl rfl (Nat.le_of_ble_eq_true rfl) dX0_init_113 (fun H locs hP hD hS => ?_)
  have hP : va_P k.1 vwCl ((h0, .inr (0, [.int 0, .int 10000, .int 1, .int 4, .int 0, .int 0, .ref q1, .ref q2, .ref q3, .ref q4, .ref q5, .ref q6, .ref q7, .ref q8, .null, .null, .null, .null, .null, .null])) :: T8) H := hP
  have hD : va_D A ((h0, .inr (0, [.int 0, .int 10000, .int 1, .int 4, .int 0, .int 0, .ref q1, .ref q2, .ref q3, .ref q4, .ref q5, .ref q6, .ref q7, .ref q8, .null, .null, .null, .null, .null, .null])) :: T8) := hD
  refine lv_aload_n hx hb dX0_init_116 rfl (lv_at hl 0 rfl) ?_
  refine lv_bipush (v := 10) hx hb dX0_init_117 (by decide) ?_
  refine rx_newI ⟨hx, hb, hml, hown, hts⟩ (by decide +kernel) hK hP hD hS hA (n := 10) (N := 10) (by decide) (by decide) (by decide) (Nat.le_of_ble_eq_true rfl) (Nat.le_of_ble_eq_true rfl) dX0_init_119 (fun q9 H hP hD hS => ?_)
  have hP : va_P k.1 vwCl ((h0, .inr (0, [.int 0, .int 10000, .int 1, .int 4, .int 0, .int 0, .ref q1, .ref q2, .ref q3, .ref q4, .ref q5, .ref q6, .ref q7, .ref q8, .null, .null, .null, .null, .null, .null])) :: (T8 ++ [(q9, .inl (k.2.1, 10, .inl (fun _ => 0)))])) H := hP
  have hD : va_D A ((h0, .inr (0, [.int 0, .int 10000, .int 1, .int 4, .int 0, .int 0, .ref q1, .ref q2, .ref q3, .ref q4, .ref q5, .ref q6, .ref q7, .ref q8, .null, .null, .null, .null, .null, .null])) :: (T8 ++ [(q9, .inl (k.2.1, 10, .inl (fun _ => 0)))])) := hD
  obtain ⟨T9, hT9⟩ : ∃ TT : va_W, TT = T8 ++ [(q9, .inl (k.2.1, 10, .inl (fun _ => 0)))] := ⟨_, rfl⟩
  rw [← hT9] at hP hD
  refine va_putF (D := k.1) (ci := 0) (v := .ref q9) (ty := .array .int) (C := RX0) (T := TX0) (N := 20) hx hb hts hin tyX0 tyX0_ok nmX0 hown hK hP hD hS 0 rfl rfl 14 (by decide) (hts (.fieldLink RX0 56 "RankMesh" "rankOf" "[I") (by decide +kernel)) (fun _ h9 => h9) rfl hinit rfl (by decide +kernel) rfl rfl (Nat.le_of_ble_eq_true rfl) dX0_init_121 (fun H locs hP hD hS => ?_)
  have hP : va_P k.1 vwCl ((h0, .inr (0, [.int 0, .int 10000, .int 1, .int 4, .int 0, .int 0, .ref q1, .ref q2, .ref q3, .ref q4, .ref q5, .ref q6, .ref q7, .ref q8, .ref q9, .null, .null, .null, .null, .null])) :: T9) H := hP
  have hD : va_D A ((h0, .inr (0, [.int 0, .int 10000, .int 1, .int 4, .int 0, .int 0, .ref q1, .ref q2, .ref q3, .ref q4, .ref q5, .ref q6, .ref q7, .ref q8, .ref q9, .null, .null, .null, .null, .null])) :: T9) := hD
  refine lv_aload_n hx hb dX0_init_124 rfl (lv_at hl 0 rfl) ?_
  refine lv_bipush (v := 10) hx hb dX0_init_125 (by decide) ?_
  refine rx_newI ⟨hx, hb, hml, hown, hts⟩ (by decide +kernel) hK hP hD hS hA (n := 10) (N := 10) (by decide) (by decide) (by decide) (Nat.le_of_ble_eq_true rfl) (Nat.le_of_ble_eq_true rfl) dX0_init_127 (fun q10 H hP hD hS => ?_)
  have hP : va_P k.1 vwCl ((h0, .inr (0, [.int 0, .int 10000, .int 1, .int 4, .int 0, .int 0, .ref q1, .ref q2, .ref q3, .ref q4, .ref q5, .ref q6, .ref q7, .ref q8, .ref q9, .null, .null, .null, .null, .null])) :: (T9 ++ [(q10, .inl (k.2.1, 10, .inl (fun _ => 0)))])) H := hP
  have hD : va_D A ((h0, .inr (0, [.int 0, .int 10000, .int 1, .int 4, .int 0, .int 0, .ref q1, .ref q2, .ref q3, .ref q4, .ref q5, .ref q6, .ref q7, .ref q8, .ref q9, .null, .null, .null, .null, .null])) :: (T9 ++ [(q10, .inl (k.2.1, 10, .inl (fun _ => 0)))])) := hD
  obtain ⟨T10, hT10⟩ : ∃ TT : va_W, TT = T9 ++ [(q10, .inl (k.2.1, 10, .inl (fun _ => 0)))] := ⟨_, rfl⟩
  rw [← hT10] at hP hD
  refine va_putF (D := k.1) (ci := 0) (v := .ref q10) (ty := .array .int) (C := RX0) (T := TX0) (N := 20) hx hb hts hin tyX0 tyX0_ok nmX0 hown hK hP hD hS 0 rfl rfl 15 (by decide) (hts (.fieldLink RX0 59 "RankMesh" "lowestRank" "[I") (by decide +kernel)) (fun _ h9 => h9) rfl hinit rfl (by decide +kernel) rfl rfl (Nat.le_of_ble_eq_true rfl) dX0_init_129 (fun H locs hP hD hS => ?_)
  have hP : va_P k.1 vwCl ((h0, .inr (0, [.int 0, .int 10000, .int 1, .int 4, .int 0, .int 0, .ref q1, .ref q2, .ref q3, .ref q4, .ref q5, .ref q6, .ref q7, .ref q8, .ref q9, .ref q10, .null, .null, .null, .null])) :: T10) H := hP
  have hD : va_D A ((h0, .inr (0, [.int 0, .int 10000, .int 1, .int 4, .int 0, .int 0, .ref q1, .ref q2, .ref q3, .ref q4, .ref q5, .ref q6, .ref q7, .ref q8, .ref q9, .ref q10, .null, .null, .null, .null])) :: T10) := hD
  refine lv_aload_n hx hb dX0_init_132 rfl (lv_at hl 0 rfl) ?_
  refine lv_bipush (v := 10) hx hb dX0_init_133 (by decide) ?_
  refine rx_newI ⟨hx, hb, hml, hown, hts⟩ (by decide +kernel) hK hP hD hS hA (n := 10) (N := 10) (by decide) (by decide) (by decide) (Nat.le_of_ble_eq_true rfl) (Nat.le_of_ble_eq_true rfl) dX0_init_135 (fun q11 H hP hD hS => ?_)
  have hP : va_P k.1 vwCl ((h0, .inr (0, [.int 0, .int 10000, .int 1, .int 4, .int 0, .int 0, .ref q1, .ref q2, .ref q3, .ref q4, .ref q5, .ref q6, .ref q7, .ref q8, .ref q9, .ref q10, .null, .null, .null, .null])) :: (T10 ++ [(q11, .inl (k.2.1, 10, .inl (fun _ => 0)))])) H := hP
  have hD : va_D A ((h0, .inr (0, [.int 0, .int 10000, .int 1, .int 4, .int 0, .int 0, .ref q1, .ref q2, .ref q3, .ref q4, .ref q5, .ref q6, .ref q7, .ref q8, .ref q9, .ref q10, .null, .null, .null, .null])) :: (T10 ++ [(q11, .inl (k.2.1, 10, .inl (fun _ => 0)))])) := hD
  obtain ⟨T11, hT11⟩ : ∃ TT : va_W, TT = T10 ++ [(q11, .inl (k.2.1, 10, .inl (fun _ => 0)))] := ⟨_, rfl⟩
  rw [← hT11] at hP hD
  refine va_putF (D := k.1) (ci := 0) (v := .ref q11) (ty := .array .int) (C := RX0) (T := TX0) (N := 20) hx hb hts hin tyX0 tyX0_ok nmX0 hown hK hP hD hS 0 rfl rfl 16 (by decide) (hts (.fieldLink RX0 62 "RankMesh" "parentOf" "[I") (by decide +kernel)) (fun _ h9 => h9) rfl hinit rfl (by decide +kernel) rfl rfl (Nat.le_of_ble_eq_true rfl) dX0_init_137 (fun H locs hP hD hS => ?_)
  have hP : va_P k.1 vwCl ((h0, .inr (0, [.int 0, .int 10000, .int 1, .int 4, .int 0, .int 0, .ref q1, .ref q2, .ref q3, .ref q4, .ref q5, .ref q6, .ref q7, .ref q8, .ref q9, .ref q10, .ref q11, .null, .null, .null])) :: T11) H := hP
  have hD : va_D A ((h0, .inr (0, [.int 0, .int 10000, .int 1, .int 4, .int 0, .int 0, .ref q1, .ref q2, .ref q3, .ref q4, .ref q5, .ref q6, .ref q7, .ref q8, .ref q9, .ref q10, .ref q11, .null, .null, .null])) :: T11) := hD
  refine lv_aload_n hx hb dX0_init_140 rfl (lv_at hl 0 rfl) ?_
  refine lv_bipush (v := 10) hx hb dX0_init_141 (by decide) ?_
  refine rx_newI ⟨hx, hb, hml, hown, hts⟩ (by decide +kernel) hK hP hD hS hA (n := 10) (N := 10) (by decide) (by decide) (by decide) (Nat.le_of_ble_eq_true rfl) (Nat.le_of_ble_eq_true rfl) dX0_init_143 (fun q12 H hP hD hS => ?_)
  have hP : va_P k.1 vwCl ((h0, .inr (0, [.int 0, .int 10000, .int 1, .int 4, .int 0, .int 0, .ref q1, .ref q2, .ref q3, .ref q4, .ref q5, .ref q6, .ref q7, .ref q8, .ref q9, .ref q10, .ref q11, .null, .null, .null])) :: (T11 ++ [(q12, .inl (k.2.1, 10, .inl (fun _ => 0)))])) H := hP
  have hD : va_D A ((h0, .inr (0, [.int 0, .int 10000, .int 1, .int 4, .int 0, .int 0, .ref q1, .ref q2, .ref q3, .ref q4, .ref q5, .ref q6, .ref q7, .ref q8, .ref q9, .ref q10, .ref q11, .null, .null, .null])) :: (T11 ++ [(q12, .inl (k.2.1, 10, .inl (fun _ => 0)))])) := hD
  obtain ⟨T12, hT12⟩ : ∃ TT : va_W, TT = T11 ++ [(q12, .inl (k.2.1, 10, .inl (fun _ => 0)))] := ⟨_, rfl⟩
  rw [← hT12] at hP hD
  refine va_putF (D := k.1) (ci := 0) (v := .ref q12) (ty := .array .int) (C := RX0) (T := TX0) (N := 20) hx hb hts hin tyX0 tyX0_ok nmX0 hown hK hP hD hS 0 rfl rfl 17 (by decide) (hts (.fieldLink RX0 65 "RankMesh" "interval" "[I") (by decide +kernel)) (fun _ h9 => h9) rfl hinit rfl (by decide +kernel) rfl rfl (Nat.le_of_ble_eq_true rfl) dX0_init_145 (fun H locs hP hD hS => ?_)
  have hP : va_P k.1 vwCl ((h0, .inr (0, [.int 0, .int 10000, .int 1, .int 4, .int 0, .int 0, .ref q1, .ref q2, .ref q3, .ref q4, .ref q5, .ref q6, .ref q7, .ref q8, .ref q9, .ref q10, .ref q11, .ref q12, .null, .null])) :: T12) H := hP
  have hD : va_D A ((h0, .inr (0, [.int 0, .int 10000, .int 1, .int 4, .int 0, .int 0, .ref q1, .ref q2, .ref q3, .ref q4, .ref q5, .ref q6, .ref q7, .ref q8, .ref q9, .ref q10, .ref q11, .ref q12, .null, .null])) :: T12) := hD
  refine lv_aload_n hx hb dX0_init_148 rfl (lv_at hl 0 rfl) ?_
  refine lv_bipush (v := 10) hx hb dX0_init_149 (by decide) ?_
  refine rx_newI ⟨hx, hb, hml, hown, hts⟩ (by decide +kernel) hK hP hD hS hA (n := 10) (N := 10) (by decide) (by decide) (by decide) (Nat.le_of_ble_eq_true rfl) (Nat.le_of_ble_eq_true rfl) dX0_init_151 (fun q13 H hP hD hS => ?_)
  have hP : va_P k.1 vwCl ((h0, .inr (0, [.int 0, .int 10000, .int 1, .int 4, .int 0, .int 0, .ref q1, .ref q2, .ref q3, .ref q4, .ref q5, .ref q6, .ref q7, .ref q8, .ref q9, .ref q10, .ref q11, .ref q12, .null, .null])) :: (T12 ++ [(q13, .inl (k.2.1, 10, .inl (fun _ => 0)))])) H := hP
  have hD : va_D A ((h0, .inr (0, [.int 0, .int 10000, .int 1, .int 4, .int 0, .int 0, .ref q1, .ref q2, .ref q3, .ref q4, .ref q5, .ref q6, .ref q7, .ref q8, .ref q9, .ref q10, .ref q11, .ref q12, .null, .null])) :: (T12 ++ [(q13, .inl (k.2.1, 10, .inl (fun _ => 0)))])) := hD
  obtain ⟨T13, hT13⟩ : ∃ TT : va_W, TT = T12 ++ [(q13, .inl (k.2.1, 10, .inl (fun _ => 0)))] := ⟨_, rfl⟩
  rw [← hT13] at hP hD
  refine va_putF (D := k.1) (ci := 0) (v := .ref q13) (ty := .array .int) (C := RX0) (T := TX0) (N := 20) hx hb hts hin tyX0 tyX0_ok nmX0 hown hK hP hD hS 0 rfl rfl 18 (by decide) (hts (.fieldLink RX0 68 "RankMesh" "tellsAt" "[I") (by decide +kernel)) (fun _ h9 => h9) rfl hinit rfl (by decide +kernel) rfl rfl (Nat.le_of_ble_eq_true rfl) dX0_init_153 (fun H locs hP hD hS => ?_)
  have hP : va_P k.1 vwCl ((h0, .inr (0, [.int 0, .int 10000, .int 1, .int 4, .int 0, .int 0, .ref q1, .ref q2, .ref q3, .ref q4, .ref q5, .ref q6, .ref q7, .ref q8, .ref q9, .ref q10, .ref q11, .ref q12, .ref q13, .null])) :: T13) H := hP
  have hD : va_D A ((h0, .inr (0, [.int 0, .int 10000, .int 1, .int 4, .int 0, .int 0, .ref q1, .ref q2, .ref q3, .ref q4, .ref q5, .ref q6, .ref q7, .ref q8, .ref q9, .ref q10, .ref q11, .ref q12, .ref q13, .null])) :: T13) := hD
  refine lv_aload_n hx hb dX0_init_156 rfl (lv_at hl 0 rfl) ?_
  refine lv_bipush (v := 10) hx hb dX0_init_157 (by decide) ?_
  refine rx_newI ⟨hx, hb, hml, hown, hts⟩ (by decide +kernel) hK hP hD hS hA (n := 10) (N := 10) (by decide) (by decide) (by decide) (Nat.le_of_ble_eq_true rfl) (Nat.le_of_ble_eq_true rfl) dX0_init_159 (fun q14 H hP hD hS => ?_)
  have hP : va_P k.1 vwCl ((h0, .inr (0, [.int 0, .int 10000, .int 1, .int 4, .int 0, .int 0, .ref q1, .ref q2, .ref q3, .ref q4, .ref q5, .ref q6, .ref q7, .ref q8, .ref q9, .ref q10, .ref q11, .ref q12, .ref q13, .null])) :: (T13 ++ [(q14, .inl (k.2.1, 10, .inl (fun _ => 0)))])) H := hP
  have hD : va_D A ((h0, .inr (0, [.int 0, .int 10000, .int 1, .int 4, .int 0, .int 0, .ref q1, .ref q2, .ref q3, .ref q4, .ref q5, .ref q6, .ref q7, .ref q8, .ref q9, .ref q10, .ref q11, .ref q12, .ref q13, .null])) :: (T13 ++ [(q14, .inl (k.2.1, 10, .inl (fun _ => 0)))])) := hD
  obtain ⟨T14, hT14⟩ : ∃ TT : va_W, TT = T13 ++ [(q14, .inl (k.2.1, 10, .inl (fun _ => 0)))] := ⟨_, rfl⟩
  rw [← hT14] at hP hD
  refine va_putF (D := k.1) (ci := 0) (v := .ref q14) (ty := .array .int) (C := RX0) (T := TX0) (N := 20) hx hb hts hin tyX0 tyX0_ok nmX0 hown hK hP hD hS 0 rfl rfl 19 (by decide) (hts (.fieldLink RX0 71 "RankMesh" "wayCost" "[I") (by decide +kernel)) (fun _ h9 => h9) rfl hinit rfl (by decide +kernel) rfl rfl (Nat.le_of_ble_eq_true rfl) dX0_init_161 (fun H locs hP hD hS => ?_)
  have hP : va_P k.1 vwCl ((h0, .inr (0, [.int 0, .int 10000, .int 1, .int 4, .int 0, .int 0, .ref q1, .ref q2, .ref q3, .ref q4, .ref q5, .ref q6, .ref q7, .ref q8, .ref q9, .ref q10, .ref q11, .ref q12, .ref q13, .ref q14])) :: T14) H := hP
  have hD : va_D A ((h0, .inr (0, [.int 0, .int 10000, .int 1, .int 4, .int 0, .int 0, .ref q1, .ref q2, .ref q3, .ref q4, .ref q5, .ref q6, .ref q7, .ref q8, .ref q9, .ref q10, .ref q11, .ref q12, .ref q13, .ref q14])) :: T14) := hD
  subst hT14
  subst hT13
  subst hT12
  subst hT11
  subst hT10
  subst hT9
  subst hT8
  subst hT7
  subst hT6
  subst hT5
  subst hT4
  subst hT3
  subst hT2
  subst hT1
  obtain ⟨a, ha0, hPa, hDa⟩ := rm_asm k A _ h0 q1 q2 q3 q4 q5 q6 q7 q8 q9 q10 q11 q12 q13 q14 r1 r2 r3 r4 hP hD
  subst ha0
  refine rm_initL (C := ⟨⟨hx, hb, hml, hown, hts⟩, hin⟩) (rm_D_inj hDa) hA ⟨hK, hPa, hDa, hS⟩ hl (fun H locs ls hw => ?_)
  exact W.vret hx hb hr (fun t ht hW => ⟨⟨a, rfl, rfl, ⟨by rw [ht]; exact hw.2.1, va_K.moved hW.alike hw.1⟩, hw.2.2.1⟩, hw.2.2.2.F ht⟩) hw.2.2.2.2.2 dX0_init_208 hlocks
end

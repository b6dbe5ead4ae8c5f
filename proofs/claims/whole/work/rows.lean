section
-- ===== PART A: goes FIRST, ahead of the names: the tables' words, and 'selects' of the private methods out of them =====
/-- a private method of a class that the tables say can be made, by its rows of tables_1 -/
def lw_okq (q : MethodName × Nat) : Prop := (q.1.cls ≠ "java/lang/invoke/MethodHandle" ∧ q.1.cls ≠ "java/lang/invoke/VarHandle") ∧ Cond.instantiable q.1.cls q.2 ∈ tables_1 ∧ Cond.privateMethod q.1 ∈ tables_1 ∧ Cond.instanceMethod q.1 ∈ tables_1
theorem lw_p0 : lw_okq (⟨"RankMesh", "clearNode", "(I)V"⟩, 20) := ⟨⟨by decide +kernel, by decide +kernel⟩, List.mem_of_getElem? (i := 11) (by decide +kernel), List.mem_of_getElem? (i := 21) (by decide +kernel), List.mem_of_getElem? (i := 22) (by decide +kernel)⟩
theorem lw_p1 : lw_okq (⟨"RankMesh", "resetTimer", "(I)V"⟩, 20) := ⟨⟨by decide +kernel, by decide +kernel⟩, List.mem_of_getElem? (i := 11) (by decide +kernel), List.mem_of_getElem? (i := 25) (by decide +kernel), List.mem_of_getElem? (i := 26) (by decide +kernel)⟩
theorem lw_p2 : lw_okq (⟨"RankMesh", "forget", "(II)V"⟩, 20) := ⟨⟨by decide +kernel, by decide +kernel⟩, List.mem_of_getElem? (i := 11) (by decide +kernel), List.mem_of_getElem? (i := 29) (by decide +kernel), List.mem_of_getElem? (i := 30) (by decide +kernel)⟩
theorem lw_p3 : lw_okq (⟨"java/lang/Throwable", "fillInStackTrace", "(I)Ljava/lang/Throwable;"⟩, 6) := ⟨⟨by decide +kernel, by decide +kernel⟩, List.mem_of_getElem? (i := 153) (by decide +kernel), List.mem_of_getElem? (i := 151) (by decide +kernel), List.mem_of_getElem? (i := 152) (by decide +kernel)⟩
theorem lw_p4 : lw_okq (⟨"RankMesh", "choose", "(I)V"⟩, 20) := ⟨⟨by decide +kernel, by decide +kernel⟩, List.mem_of_getElem? (i := 11) (by decide +kernel), List.mem_of_getElem? (i := 214) (by decide +kernel), List.mem_of_getElem? (i := 215) (by decide +kernel)⟩
theorem lw_p5 : lw_okq (⟨"RankMesh", "bestCandidate", "(I)I"⟩, 20) := ⟨⟨by decide +kernel, by decide +kernel⟩, List.mem_of_getElem? (i := 11) (by decide +kernel), List.mem_of_getElem? (i := 218) (by decide +kernel), List.mem_of_getElem? (i := 219) (by decide +kernel)⟩
theorem lw_p6 : lw_okq (⟨"RankMesh", "rankBy", "(II)I"⟩, 20) := ⟨⟨by decide +kernel, by decide +kernel⟩, List.mem_of_getElem? (i := 11) (by decide +kernel), List.mem_of_getElem? (i := 222) (by decide +kernel), List.mem_of_getElem? (i := 223) (by decide +kernel)⟩
theorem lw_p7 : lw_okq (⟨"RankMesh", "isCandidate", "(II)Z"⟩, 20) := ⟨⟨by decide +kernel, by decide +kernel⟩, List.mem_of_getElem? (i := 11) (by decide +kernel), List.mem_of_getElem? (i := 226) (by decide +kernel), List.mem_of_getElem? (i := 227) (by decide +kernel)⟩
theorem lw_p8 : lw_okq (⟨"RankMesh", "isOutdated", "(II)Z"⟩, 20) := ⟨⟨by decide +kernel, by decide +kernel⟩, List.mem_of_getElem? (i := 11) (by decide +kernel), List.mem_of_getElem? (i := 230) (by decide +kernel), List.mem_of_getElem? (i := 231) (by decide +kernel)⟩
theorem lw_p9 : lw_okq (⟨"RankMesh", "isTooDeep", "(II)Z"⟩, 20) := ⟨⟨by decide +kernel, by decide +kernel⟩, List.mem_of_getElem? (i := 11) (by decide +kernel), List.mem_of_getElem? (i := 234) (by decide +kernel), List.mem_of_getElem? (i := 235) (by decide +kernel)⟩
theorem lw_p10 : lw_okq (⟨"RankMesh", "heardOwnVersion", "(II)Z"⟩, 20) := ⟨⟨by decide +kernel, by decide +kernel⟩, List.mem_of_getElem? (i := 11) (by decide +kernel), List.mem_of_getElem? (i := 238) (by decide +kernel), List.mem_of_getElem? (i := 239) (by decide +kernel)⟩
theorem lw_p11 : lw_okq (⟨"RankMesh", "loseParent", "(I)V"⟩, 20) := ⟨⟨by decide +kernel, by decide +kernel⟩, List.mem_of_getElem? (i := 11) (by decide +kernel), List.mem_of_getElem? (i := 242) (by decide +kernel), List.mem_of_getElem? (i := 243) (by decide +kernel)⟩
theorem lw_p12 : lw_okq (⟨"RankMesh", "keepsParent", "(II)Z"⟩, 20) := ⟨⟨by decide +kernel, by decide +kernel⟩, List.mem_of_getElem? (i := 11) (by decide +kernel), List.mem_of_getElem? (i := 246) (by decide +kernel), List.mem_of_getElem? (i := 247) (by decide +kernel)⟩
theorem lw_p13 : lw_okq (⟨"RankMesh", "follow", "(II)V"⟩, 20) := ⟨⟨by decide +kernel, by decide +kernel⟩, List.mem_of_getElem? (i := 11) (by decide +kernel), List.mem_of_getElem? (i := 250) (by decide +kernel), List.mem_of_getElem? (i := 251) (by decide +kernel)⟩
theorem lw_p14 : lw_okq (⟨"RankMesh", "beginVersion", "(I)I"⟩, 20) := ⟨⟨by decide +kernel, by decide +kernel⟩, List.mem_of_getElem? (i := 11) (by decide +kernel), List.mem_of_getElem? (i := 281) (by decide +kernel), List.mem_of_getElem? (i := 282) (by decide +kernel)⟩
theorem lw_p15 : lw_okq (⟨"RankMesh", "requireRoot", "(I)V"⟩, 20) := ⟨⟨by decide +kernel, by decide +kernel⟩, List.mem_of_getElem? (i := 11) (by decide +kernel), List.mem_of_getElem? (i := 292) (by decide +kernel), List.mem_of_getElem? (i := 293) (by decide +kernel)⟩
def lw_privs_1 : List (MethodName × Nat) := [(⟨"RankMesh", "clearNode", "(I)V"⟩, 20), (⟨"RankMesh", "resetTimer", "(I)V"⟩, 20), (⟨"RankMesh", "forget", "(II)V"⟩, 20), (⟨"java/lang/Throwable", "fillInStackTrace", "(I)Ljava/lang/Throwable;"⟩, 6), (⟨"RankMesh", "choose", "(I)V"⟩, 20), (⟨"RankMesh", "bestCandidate", "(I)I"⟩, 20), (⟨"RankMesh", "rankBy", "(II)I"⟩, 20), (⟨"RankMesh", "isCandidate", "(II)Z"⟩, 20), (⟨"RankMesh", "isOutdated", "(II)Z"⟩, 20), (⟨"RankMesh", "isTooDeep", "(II)Z"⟩, 20), (⟨"RankMesh", "heardOwnVersion", "(II)Z"⟩, 20), (⟨"RankMesh", "loseParent", "(I)V"⟩, 20), (⟨"RankMesh", "keepsParent", "(II)Z"⟩, 20), (⟨"RankMesh", "follow", "(II)V"⟩, 20), (⟨"RankMesh", "beginVersion", "(I)I"⟩, 20), (⟨"RankMesh", "requireRoot", "(I)V"⟩, 20)]
theorem lw_r1 : ∀ q ∈ lw_privs_1, lw_okq q := List.forall_mem_cons.mpr ⟨lw_p0, List.forall_mem_cons.mpr ⟨lw_p1, List.forall_mem_cons.mpr ⟨lw_p2, List.forall_mem_cons.mpr ⟨lw_p3, List.forall_mem_cons.mpr ⟨lw_p4, List.forall_mem_cons.mpr ⟨lw_p5, List.forall_mem_cons.mpr ⟨lw_p6, List.forall_mem_cons.mpr ⟨lw_p7, List.forall_mem_cons.mpr ⟨lw_p8, List.forall_mem_cons.mpr ⟨lw_p9, List.forall_mem_cons.mpr ⟨lw_p10, List.forall_mem_cons.mpr ⟨lw_p11, List.forall_mem_cons.mpr ⟨lw_p12, List.forall_mem_cons.mpr ⟨lw_p13, List.forall_mem_cons.mpr ⟨lw_p14, List.forall_mem_cons.mpr ⟨lw_p15, fun _ h => absurd h List.not_mem_nil⟩⟩⟩⟩⟩⟩⟩⟩⟩⟩⟩⟩⟩⟩⟩⟩
theorem lw_p16 : lw_okq (⟨"RankMesh", "passTick", "()I"⟩, 20) := ⟨⟨by decide +kernel, by decide +kernel⟩, List.mem_of_getElem? (i := 11) (by decide +kernel), List.mem_of_getElem? (i := 311) (by decide +kernel), List.mem_of_getElem? (i := 312) (by decide +kernel)⟩
theorem lw_p17 : lw_okq (⟨"RankMesh", "tell", "(I)V"⟩, 20) := ⟨⟨by decide +kernel, by decide +kernel⟩, List.mem_of_getElem? (i := 11) (by decide +kernel), List.mem_of_getElem? (i := 315) (by decide +kernel), List.mem_of_getElem? (i := 316) (by decide +kernel)⟩
theorem lw_p18 : lw_okq (⟨"RankMesh", "lengthenTimer", "(I)V"⟩, 20) := ⟨⟨by decide +kernel, by decide +kernel⟩, List.mem_of_getElem? (i := 11) (by decide +kernel), List.mem_of_getElem? (i := 319) (by decide +kernel), List.mem_of_getElem? (i := 320) (by decide +kernel)⟩
theorem lw_p19 : lw_okq (⟨"RankMesh", "lowerWayCosts", "()V"⟩, 20) := ⟨⟨by decide +kernel, by decide +kernel⟩, List.mem_of_getElem? (i := 11) (by decide +kernel), List.mem_of_getElem? (i := 365) (by decide +kernel), List.mem_of_getElem? (i := 366) (by decide +kernel)⟩
theorem lw_p20 : lw_okq (⟨"RankMesh", "childrenOf", "(I)I"⟩, 20) := ⟨⟨by decide +kernel, by decide +kernel⟩, List.mem_of_getElem? (i := 11) (by decide +kernel), List.mem_of_getElem? (i := 383) (by decide +kernel), List.mem_of_getElem? (i := 384) (by decide +kernel)⟩
theorem lw_p21 : lw_okq (⟨"RankMeshModel", "fails", "(I)Z"⟩, 21) := ⟨⟨by decide +kernel, by decide +kernel⟩, List.mem_of_getElem? (i := 396) (by decide +kernel), List.mem_of_getElem? (i := 477) (by decide +kernel), List.mem_of_getElem? (i := 478) (by decide +kernel)⟩
theorem lw_p22 : lw_okq (⟨"RankMeshModel", "chooses", "(I)V"⟩, 21) := ⟨⟨by decide +kernel, by decide +kernel⟩, List.mem_of_getElem? (i := 396) (by decide +kernel), List.mem_of_getElem? (i := 488) (by decide +kernel), List.mem_of_getElem? (i := 489) (by decide +kernel)⟩
theorem lw_p23 : lw_okq (⟨"RankMeshModel", "isCandidate", "(II)Z"⟩, 21) := ⟨⟨by decide +kernel, by decide +kernel⟩, List.mem_of_getElem? (i := 396) (by decide +kernel), List.mem_of_getElem? (i := 492) (by decide +kernel), List.mem_of_getElem? (i := 493) (by decide +kernel)⟩
theorem lw_p24 : lw_okq (⟨"RankMeshModel", "rankBy", "(II)I"⟩, 21) := ⟨⟨by decide +kernel, by decide +kernel⟩, List.mem_of_getElem? (i := 396) (by decide +kernel), List.mem_of_getElem? (i := 496) (by decide +kernel), List.mem_of_getElem? (i := 497) (by decide +kernel)⟩
theorem lw_p25 : lw_okq (⟨"RankMeshModel", "takes", "(II)V"⟩, 21) := ⟨⟨by decide +kernel, by decide +kernel⟩, List.mem_of_getElem? (i := 396) (by decide +kernel), List.mem_of_getElem? (i := 500) (by decide +kernel), List.mem_of_getElem? (i := 501) (by decide +kernel)⟩
theorem lw_p26 : lw_okq (⟨"RankMeshModel", "resets", "(I)V"⟩, 21) := ⟨⟨by decide +kernel, by decide +kernel⟩, List.mem_of_getElem? (i := 396) (by decide +kernel), List.mem_of_getElem? (i := 504) (by decide +kernel), List.mem_of_getElem? (i := 505) (by decide +kernel)⟩
theorem lw_p27 : lw_okq (⟨"RankMeshModel", "begins", "(I)V"⟩, 21) := ⟨⟨by decide +kernel, by decide +kernel⟩, List.mem_of_getElem? (i := 396) (by decide +kernel), List.mem_of_getElem? (i := 512) (by decide +kernel), List.mem_of_getElem? (i := 513) (by decide +kernel)⟩
theorem lw_p28 : lw_okq (⟨"RankMeshModel", "tells", "(I)V"⟩, 21) := ⟨⟨by decide +kernel, by decide +kernel⟩, List.mem_of_getElem? (i := 396) (by decide +kernel), List.mem_of_getElem? (i := 528) (by decide +kernel), List.mem_of_getElem? (i := 529) (by decide +kernel)⟩
theorem lw_p29 : lw_okq (⟨"RankMeshModel", "of", "([II)I"⟩, 21) := ⟨⟨by decide +kernel, by decide +kernel⟩, List.mem_of_getElem? (i := 396) (by decide +kernel), List.mem_of_getElem? (i := 540) (by decide +kernel), List.mem_of_getElem? (i := 541) (by decide +kernel)⟩
theorem lw_p30 : lw_okq (⟨"RankMeshModel", "under", "(I)I"⟩, 21) := ⟨⟨by decide +kernel, by decide +kernel⟩, List.mem_of_getElem? (i := 396) (by decide +kernel), List.mem_of_getElem? (i := 576) (by decide +kernel), List.mem_of_getElem? (i := 577) (by decide +kernel)⟩
def lw_privs_2 : List (MethodName × Nat) := [(⟨"RankMesh", "passTick", "()I"⟩, 20), (⟨"RankMesh", "tell", "(I)V"⟩, 20), (⟨"RankMesh", "lengthenTimer", "(I)V"⟩, 20), (⟨"RankMesh", "lowerWayCosts", "()V"⟩, 20), (⟨"RankMesh", "childrenOf", "(I)I"⟩, 20), (⟨"RankMeshModel", "fails", "(I)Z"⟩, 21), (⟨"RankMeshModel", "chooses", "(I)V"⟩, 21), (⟨"RankMeshModel", "isCandidate", "(II)Z"⟩, 21), (⟨"RankMeshModel", "rankBy", "(II)I"⟩, 21), (⟨"RankMeshModel", "takes", "(II)V"⟩, 21), (⟨"RankMeshModel", "resets", "(I)V"⟩, 21), (⟨"RankMeshModel", "begins", "(I)V"⟩, 21), (⟨"RankMeshModel", "tells", "(I)V"⟩, 21), (⟨"RankMeshModel", "of", "([II)I"⟩, 21), (⟨"RankMeshModel", "under", "(I)I"⟩, 21)]
theorem lw_r2 : ∀ q ∈ lw_privs_2, lw_okq q := List.forall_mem_cons.mpr ⟨lw_p16, List.forall_mem_cons.mpr ⟨lw_p17, List.forall_mem_cons.mpr ⟨lw_p18, List.forall_mem_cons.mpr ⟨lw_p19, List.forall_mem_cons.mpr ⟨lw_p20, List.forall_mem_cons.mpr ⟨lw_p21, List.forall_mem_cons.mpr ⟨lw_p22, List.forall_mem_cons.mpr ⟨lw_p23, List.forall_mem_cons.mpr ⟨lw_p24, List.forall_mem_cons.mpr ⟨lw_p25, List.forall_mem_cons.mpr ⟨lw_p26, List.forall_mem_cons.mpr ⟨lw_p27, List.forall_mem_cons.mpr ⟨lw_p28, List.forall_mem_cons.mpr ⟨lw_p29, List.forall_mem_cons.mpr ⟨lw_p30, fun _ h => absurd h List.not_mem_nil⟩⟩⟩⟩⟩⟩⟩⟩⟩⟩⟩⟩⟩⟩⟩
def lw_privs : List (MethodName × Nat) := lw_privs_1 ++ (lw_privs_2)
def lw_tbl : List Cond := k2_sels lw_privs ++ tables_1
theorem lw_privs_ok : ∀ q ∈ lw_privs, lw_okq q := by
  show ∀ q ∈ lw_privs_1 ++ (lw_privs_2), lw_okq q
  exact List.forall_mem_append.mpr ⟨lw_r1, lw_r2⟩
-- ===== end of PART A; then your names; then what follows =====
end
section
/-- the tables hold an array class over arrays of this type -/
def va_AOA (t : FieldType) (U : State) : Prop := (Cond.arrayOver (.array t)).before #[] U = true
theorem va_AOA.of {t : FieldType} {A : Array Value} {U : State} (h : (Cond.arrayOver (.array t)).before A U = true) : va_AOA t U := h
theorem va_AOA.use {t : FieldType} {A : Array Value} {U : State} (h : va_AOA t U) : (Cond.arrayOver (.array t)).before A U = true := h
end
section
/-! ===== BEGIN words of one list among another's, by their places ===== -/
theorem goodIn_r {big : List Cond} (ws : List Cond) (ps : List Nat) (hp : ws = ps.filterMap (fun i => big[i]?)) (h : ws.all goodWord = true) : GoodIn big ws := by
  intro w hw
  have h1 := List.all_eq_true.mp h w hw
  rw [hp] at hw
  obtain ⟨i, -, hi⟩ := List.mem_filterMap.mp hw
  have hm : w ∈ big := by first | exact List.mem_of_getElem? hi | exact List.getElem?_mem hi
  exact ⟨hm, good_of_word h1⟩
theorem goodIn_app {big a b : List Cond} (ha : GoodIn big a) (hb : GoodIn big b) : GoodIn big (a ++ b) := fun w h => (List.mem_append.mp h).elim (ha w) (hb w)
theorem goodIn_ca {big a b : List Cond} {c : Cond} (ha : GoodIn big (c :: a)) (hb : GoodIn big b) : GoodIn big (c :: (a ++ b)) := fun w h => (List.mem_cons.mp h).elim (fun e => ha w (List.mem_cons.mpr (Or.inl e))) (fun h => (List.mem_append.mp h).elim (fun h => ha w (List.mem_cons.mpr (Or.inr h))) (hb w))
theorem goodIn_sub {big ws : List Cond} (hm : ∀ w ∈ ws, w ∈ big) (h : ws.all goodWord = true) : GoodIn big ws := fun w hw => ⟨hm w hw, good_of_word (List.all_eq_true.mp h w hw)⟩
/-! ===== END ===== -/

/-! ===== BEGIN new T[n][m]: the outer array a place, the inner ones among the pooled ===== -/
/-- f, but v at every address of l -/
def vr_up {α : Type} (f : Nat → α) (l : List Nat) (v : α) : Nat → α := fun a => if a ∈ l then v else f a
theorem vr_up_in {α : Type} {f : Nat → α} {l : List Nat} {v : α} {a : Nat} (h : a ∈ l) : vr_up f l v a = v := if_pos h
theorem vr_up_ne {α : Type} {f : Nat → α} {l : List Nat} {v : α} {a : Nat} (h : a ∉ l) : vr_up f l v a = f a := if_neg h
theorem vr_rows {L l : List Nat} {f : Nat → va_E} {e : va_E} (h : ∀ a, a ∈ l → a ∉ L) : va_pl L f ++ l.map (fun a => (a, e)) = va_pl (L ++ l) (vr_up f l e) := by
  unfold va_pl
  rw [List.map_append]
  congr 1
  · apply List.map_congr_left
    intro a ha
    rw [vr_up_ne (fun q => h a q ha)]
  · apply List.map_congr_left
    intro a ha
    rw [vr_up_in ha]
theorem vr_lay {X rows : va_W} {x : Nat × va_E} {pl : va_W} {D : va_G} {cl : List vw_C} {H : Heap} (hP : va_P D cl (((X ++ pl) ++ [x]) ++ rows) H) : va_P D cl ((X ++ [x]) ++ (pl ++ rows)) H := by
  rw [List.append_assoc (X ++ pl)] at hP
  have h := va_P.swap hP
  rw [← List.append_assoc X] at h
  have h2 := va_P.swap h
  rw [List.append_assoc (X ++ [x])] at h2
  exact h2
theorem vr_layD {X rows : va_W} {x : Nat × va_E} {pl : va_W} {A : Nat → Prop} (hD : va_D A (((X ++ pl) ++ [x]) ++ rows)) : va_D A ((X ++ [x]) ++ (pl ++ rows)) := by
  rw [List.append_assoc (X ++ pl)] at hD
  have h := va_D.swap hD
  rw [← List.append_assoc X] at h
  have h2 := va_D.swap h
  rw [List.append_assoc (X ++ [x])] at h2
  exact h2
theorem vr_outer (c : ClassId) (N h0 : Nat) : ∀ i : Nat, Jvm.Free.Multi.outerC c N h0 i = arrV c N (fun j => va_rf (if j < i then some (h0 + 1 + j) else none))
  | 0 => by
    show ({ cls := c, slots := Array.replicate N .null, vm := .none } : Cell) = _
    rw [arrV_new]
    refine congrArg (arrV c N) (funext fun j => ?_)
    simp [va_rf]
  | i + 1 => by
    show (Jvm.Free.Multi.outerC c N h0 i).setSlot i (.ref (h0 + 1 + i)) = _
    rw [vr_outer c N h0 i, arrV_store]
    refine congrArg (arrV c N) (funext fun j => ?_)
    by_cases e : j = i
    · subst e
      simp [updV, va_rf]
    · by_cases h : j < i
      · simp [updV, e, h, Nat.lt_succ_of_lt h]
      · simp [updV, e, h, show ¬ j < i + 1 by omega]
section VGM
variable {p : Program} {l : Launch} {e : Env} {R : Room} {s : State} {m : MethodId} {args : Array Value} {below : List Frame} {meth : Method} {c : Code} {H : Heap} {locs : List Loc} {cells slots : Nat} {Q : State → Prop}
variable {cc : ByteArray} {pc : Nat} {ls : Array Slot} {rest : List Value} {D : va_G} {cl : List vw_C} {A : Nat → Prop} {a : Nat} {tys : List (ClassId × FieldType)} {ws : va_W} {H0 : Heap}
theorem va_mna {X : va_W} {L : List Nat} {f : Nat → va_E} {cc : ByteArray} (hexec : p.tables.exec = Jvm.exec) (hb : c.code = cc) {own : String} {index : Nat} {ty : FieldType} {cy : ClassId} (hown : s.vm.findClass own = some m.cls) (hclink : (Cond.classLink own index ("[" ++ (FieldType.array ty).toString)).before args s = true) (hover : va_AOA ty s) (harr : (Cond.arrayClass ty).before args s = true) (hcy : s.vm.findClass (FieldType.array ty).toString = some cy)
    (hK : va_K D cl tys s) (hP : va_P D cl (X ++ va_pl L f) H) (hD : va_D A (X ++ va_pl L f)) (hS : va_S A H0 H locs) (hA : ∀ q, H0.size ≤ q → A q) {n k : Int32} {N' K' : Nat} {z : vp_A} (hn : ¬ n < 0) (hk : ¬ k < 0) (hN : n.toNatClampNeg = N') (hM : k.toNatClampNeg = K')
    (hb1 : N' * 4 ≤ 536870912) (hb2 : K' * componentBytes ty ≤ 536870912) (hb3 : K' ≤ 536870912) (hdf : fits ty (defaultValue ty) = true) (hdd : (defaultValue ty).isDefault = true) (hcells : cells + (1 + N') ≤ R.cells) (hslots : slots + (N' + N' * K') ≤ R.slots) (hz : ∀ c : ClassId, Jvm.Free.Multi.innerC c K' (defaultValue ty) = vp_cell c z) (hdg : decode cc pc = .ok (.multianewarray index 2, 4))
    (kk : ∀ (q : Nat) (r : Nat → Nat) (cA : ClassId) (H1 : Heap), (∀ i j : Nat, i < N' → j < N' → r i = r j → i = j) → (∀ i : Nat, i < N' → r i ∉ L) → va_K D cl (tys ++ [(cA, .array ty)]) s →
      va_P D cl ((X ++ [(q, .inl (cA, N', .inr (.inr (.inr (.inr (fun i => if i < N' then some (r i) else none))))))]) ++ va_pl (L ++ (List.range N').map r) (vr_up f ((List.range N').map r) (.inl (cy, z)))) H1 → va_D A ((X ++ [(q, .inl (cA, N', .inr (.inr (.inr (.inr (fun i => if i < N' then some (r i) else none))))))]) ++ va_pl (L ++ (List.range N').map r) (vr_up f ((List.range N').map r) (.inl (cy, z)))) → va_S A H0 H1 locs →
      W p l e R s m args below meth c H1 locs (cells + 1 + N') (slots + N' + N' * K') Q (F0 m (pc + 4) ls (.ref q :: rest))) : W p l e R s m args below meth c H locs cells slots Q (F0 m pc ls (.int k :: .int n :: rest)) := by
  subst hN
  subst hM
  intro T hT Xs
  obtain ⟨vm₁, cA, comp, -, fA, fC, hO, -, X', step⟩ := Xs.multianewarray2F hexec hown hclink (va_AOA.use hover) harr (g := F0 m pc ls (.int k :: .int n :: rest)) rfl (by rw [hb]; exact hdg) rfl hn hk hb1 hb2 hb3 hdf hdd hcells hslots
  have ec : some cy = some comp := hcy.symm.trans fC
  cases ec
  generalize hF : Jvm.Free.Multi.fill (T.setVm vm₁) cA cy n.toNatClampNeg k.toNatClampNeg (defaultValue ty) n.toNatClampNeg = F at X' step
  have hTh : (T.setVm vm₁).heap = H := hT
  obtain ⟨f1, f2, -, -⟩ := Jvm.Free.Multi.fill_facts (T.setVm vm₁) cA cy n.toNatClampNeg k.toNatClampNeg (defaultValue ty) n.toNatClampNeg
  rw [hF, hTh] at f1 f2
  have hold : ∀ x : Nat, x < H.size → F.heap[x]? = H[x]? := fun x hx => by
    have := Jvm.Free.Multi.fill_old (T.setVm vm₁) cA cy n.toNatClampNeg k.toNatClampNeg (defaultValue ty) (a := x) (by rw [hTh]; exact hx) n.toNatClampNeg
    rw [hF, hTh] at this
    exact this
  have hrow : ∀ j : Nat, j < n.toNatClampNeg → F.heap[H.size + 1 + j]? = some (vp_cell cy z) := fun j hj => by
    have := Jvm.Free.Multi.fill_inner (T.setVm vm₁) cA cy n.toNatClampNeg k.toNatClampNeg (defaultValue ty) n.toNatClampNeg j hj
    rw [hF, hTh, hz] at this
    exact this
  have hout : Jvm.Free.Multi.outerC cA n.toNatClampNeg H.size n.toNatClampNeg = vp_cell cA (n.toNatClampNeg, .inr (.inr (.inr (.inr (fun i => if i < n.toNatClampNeg then some (H.size + 1 + i) else none))))) := by
    rw [vp_cell_q]
    exact vr_outer cA n.toNatClampNeg H.size n.toNatClampNeg
  rw [hout] at f2
  have hlt : ∀ a, a ∈ L → a < H.size := fun a ha => by
    obtain ⟨k9, hk9⟩ := va_pl_get (X := X) (f := f) ha
    exact (hP k9 _ hk9).lt
  have hnl : ∀ i : Nat, i < n.toNatClampNeg → H.size + 1 + i ∉ L := fun i _ h => by
    have := hlt _ h
    omega
  have hnm : ∀ a, a ∈ (List.range n.toNatClampNeg).map (fun i => H.size + 1 + i) → a ∉ L := fun a ha h => by
    obtain ⟨i, -, rfl⟩ := List.mem_map.mp ha
    have := hlt _ h
    omega
  have hP0 : va_P D cl (X ++ va_pl L f) F.heap := hP.kept (fun k9 x hx => hold x.1 ((hP k9 x hx).lt))
  have hP1 : va_P D cl ((X ++ va_pl L f) ++ [(H.size, .inl (cA, n.toNatClampNeg, .inr (.inr (.inr (.inr (fun i => if i < n.toNatClampNeg then some (H.size + 1 + i) else none))))))]) F.heap := hP0.app (fun k9 x hx => by
    have h0 : k9 < 1 := (List.getElem?_eq_some_iff.mp hx).1
    rw [show k9 = 0 by omega] at hx
    cases hx
    exact f2)
  have hP2 : va_P D cl (((X ++ va_pl L f) ++ [(H.size, .inl (cA, n.toNatClampNeg, .inr (.inr (.inr (.inr (fun i => if i < n.toNatClampNeg then some (H.size + 1 + i) else none))))))]) ++ ((List.range n.toNatClampNeg).map (fun i => H.size + 1 + i)).map (fun a => (a, .inl (cy, z)))) F.heap := hP1.app (fun k9 x hx => by
    obtain ⟨a, ha, rfl⟩ := List.mem_map.mp (List.mem_of_getElem? hx)
    obtain ⟨i, hi, rfl⟩ := List.mem_map.mp ha
    exact hrow i (List.mem_range.mp hi))
  have hD2 : va_D A (((X ++ va_pl L f) ++ [(H.size, .inl (cA, n.toNatClampNeg, .inr (.inr (.inr (.inr (fun i => if i < n.toNatClampNeg then some (H.size + 1 + i) else none))))))]) ++ ((List.range n.toNatClampNeg).map (fun i => H.size + 1 + i)).map (fun a => (a, .inl (cy, z)))) := by
    have hD1 := hD.push (e := .inl (cA, n.toNatClampNeg, .inr (.inr (.inr (.inr (fun i => if i < n.toNatClampNeg then some (H.size + 1 + i) else none)))))) hP rfl (hA _ hS.1)
    generalize hW1 : (X ++ va_pl L f) ++ [(H.size, .inl (cA, n.toNatClampNeg, .inr (.inr (.inr (.inr (fun i => if i < n.toNatClampNeg then some (H.size + 1 + i) else none))))))] = W1 at hD1 hP1 ⊢
    have hle : ∀ (k9 : Nat) (x : Nat × va_E), W1[k9]? = some x → x.1 ≤ H.size := fun k9 x hx => by
      rw [← hW1] at hx
      by_cases hl : k9 < (X ++ va_pl L f).length
      · rw [List.getElem?_append_left hl] at hx
        exact Nat.le_of_lt ((hP k9 x hx).lt)
      · rw [List.getElem?_append_right (by omega)] at hx
        have h0 : k9 - (X ++ va_pl L f).length < 1 := (List.getElem?_eq_some_iff.mp hx).1
        rw [show k9 - (X ++ va_pl L f).length = 0 by omega] at hx
        cases hx
        exact Nat.le_refl _
    have hr : ∀ (k9 : Nat) (x : Nat × va_E), (((List.range n.toNatClampNeg).map (fun i => H.size + 1 + i)).map (fun a => ((a, .inl (cy, z)) : Nat × va_E)))[k9]? = some x → x.1 = H.size + 1 + k9 := fun k9 x hx => by
      rw [List.getElem?_map, List.getElem?_map] at hx
      by_cases h9 : k9 < n.toNatClampNeg
      · rw [List.getElem?_range h9] at hx
        cases hx
        rfl
      · have hn0 : (List.range n.toNatClampNeg)[k9]? = none := List.getElem?_eq_none (by rw [List.length_range]; omega)
        rw [hn0] at hx
        cases hx
    refine ⟨fun i j x y hi hj hxy => ?_, fun k9 x hx => ?_⟩
    · by_cases h1 : i < W1.length <;> by_cases h2 : j < W1.length
      · rw [List.getElem?_append_left h1] at hi
        rw [List.getElem?_append_left h2] at hj
        exact hD1.1 i j x y hi hj hxy
      · rw [List.getElem?_append_left h1] at hi
        rw [List.getElem?_append_right (by omega)] at hj
        have := hle _ _ hi
        have := hr _ _ hj
        omega
      · rw [List.getElem?_append_right (by omega)] at hi
        rw [List.getElem?_append_left h2] at hj
        have := hle _ _ hj
        have := hr _ _ hi
        omega
      · rw [List.getElem?_append_right (by omega)] at hi hj
        have := hr _ _ hi
        have := hr _ _ hj
        omega
    · by_cases h1 : k9 < W1.length
      · rw [List.getElem?_append_left h1] at hx
        exact hD1.2 k9 x hx
      · rw [List.getElem?_append_right (by omega)] at hx
        have := hr _ _ hx
        exact hA _ (by have := hS.1; omega)
  have hAr : ArrOfT s cA (.array ty) := fun N9 z9 => by
    obtain ⟨-, k9, hk9, cm9, hkk9⟩ := (hO 0 0 0).1
    exact ⟨(fun q hq => by cases hq), k9, hk9, cm9, hkk9⟩
  have hK2 : va_K D cl (tys ++ [(cA, .array ty)]) s := ⟨hK.1, fun k9 x hx => by
    by_cases hl : k9 < tys.length
    · rw [List.getElem?_append_left hl] at hx
      exact hK.2 k9 x hx
    · rw [List.getElem?_append_right (by omega)] at hx
      have h0 : k9 - tys.length < 1 := (List.getElem?_eq_some_iff.mp hx).1
      rw [show k9 - tys.length = 0 by omega] at hx
      cases hx
      exact ⟨hAr, fA⟩⟩
  obtain ⟨t, a1, b1⟩ := kk H.size (fun i => H.size + 1 + i) cA F.heap (fun i j _ _ h => by have h9 : H.size + 1 + i = H.size + 1 + j := h; omega) hnl hK2 (by rw [← vr_rows hnm]; exact vr_lay hP2) (by rw [← vr_rows hnm]; exact vr_layD hD2) ⟨by rw [f1]; have := hS.1; omega, fun x h1 h2 => (hold x (Nat.lt_of_lt_of_le h1 hS.1)).trans (hS.2.1 x h1 h2), hS.2.2⟩ F rfl X'
  refine ⟨t, step t ?_, b1⟩
  have e : T.heap.size = H.size := by rw [hT]
  rw [e]
  exact a1
end VGM
/-! ===== END ===== -/

/-! ===== BEGIN exceptions that leave a method, and their catching by the caller (launches without stack traces) ===== -/
section VXA
/-! The laws vx_back, vx_callV, vx_callS, vx_callSW, vx_throw0, vx_throwS follow proofs of the library, with one case more: JvmDerived/Free/Laws.lean (Back.of_free), Shelf42/LK1.lean (callV, callS), Shelf/KitTraced.lean (throwNew0V, throwNewS). -/
/-- where a method has thrown q: the class by its name, the cell, what was written, the world -/
def vx_T (XC : String → State → State → Prop) (st : State) (q : Addr) (t : State) (mc ms : Nat) (free : Addr → Prop) : Prop :=
  ∃ (E : String) (ce : Cell) (L : List Loc), XC E st t ∧ t.heap[q]? = some ce ∧ ce.vm = .none ∧ st.vm.findClass E = some ce.cls ∧ st.WarmedH t.vm ∧ st.sameButNew ({ t with vm := st.vm } : State) L mc ms ∧ ∀ z ∈ L, free z.base
def vx_Q (Qc : Array Value → State → Outcome → State → Prop) (XC : String → State → State → Prop) (mc ms : Nat) (free : Addr → Prop) : Array Value → State → Outcome → State → Prop := fun a st o t =>
  (Qc a st o t ∧ ∃ L, FrameEnd st o t L mc ms ∧ ∀ q ∈ L, free q.base) ∨ ∃ q, o = .threw q ∧ vx_T XC st q t mc ms free
/-- a callee that returns or throws -/
def vx_Met (l : Launch) (y : MethodName) (ws : List Cond) (rm : Room) (Pc : Array Value → State → Prop) (Qc : Array Value → State → Outcome → State → Prop) (XC : String → State → State → Prop) (mc ms : Nat) (free : Addr → Prop) : Prop :=
  MetFree l y (headSpec ws rm) Pc (fun _ _ _ _ _ => True) (vx_Q Qc XC mc ms free)
def vx_Post (XC : String → State → State → Prop) (mc ms : Nat) (free : Addr → Prop) : Pt → Array Value → Addr → Pt → Prop := fun A a q B =>
  ∃ (g : JFrame) (mk : MethodId) (t : State) (L : List Loc) (E : String) (ce : Cell), B.U.heap = t.heap ∧ B.U.vm = t.vm ∧ XC E (A.U.calling g mk a) t ∧ t.heap[q]? = some ce ∧ ce.vm = .none ∧ A.U.vm.findClass E = some ce.cls ∧ B.locs = A.locs ++ L ∧ (∀ z ∈ L, free z.base) ∧ B.cells = A.cells + mc ∧ B.slots = A.slots + ms
def vx_Back (l : Launch) (R : Room) (p : Program) (e : Env) (below : List Frame) (s : State) (sargs : Array Value) (y : MethodName) (len W9 : Nat)
    (Pre : Pt → Array Value → Prop) (Post : Pt → Array Value → Option Value → Pt → Prop) (PostX : Pt → Array Value → Addr → Pt → Prop) : Prop :=
  ∀ (m : MethodId) (meth : Method) (c : Code) (A : Pt) (g : JFrame) (ig : Instr) (mk : MethodId) (a : Array Value),
    Stand p l e R s m sargs below meth c A.U A.locs A.cells A.slots → g.method = m → g.locals.size = c.maxLocals → decode c.code g.pc = .ok (ig, len) →
    2 * g.monitorRoom + (g.stack.map fun v => v.category).sum ≤ W9 → A.U.methodNamed? y = some mk → Pre A a →
    (∃ (v : Option Value) (B : Pt), Stand p l e R s m sargs below meth c B.U B.locs B.cells B.slots ∧ Post A a v B ∧
      Steps p.tables e below (doInvoke e (A.U.setTop g) [] mk a).1 (B.U.setTop { g with pc := g.pc + len, stack := v.toList ++ g.stack })) ∨
    (∃ (q : Addr) (B : Pt), Stand p l e R s m sargs below meth c B.U B.locs B.cells B.slots ∧ PostX A a q B ∧
      Steps p.tables e below (doInvoke e (A.U.setTop g) [] mk a).1 ((B.U.setTop g).pushFrame (.throwing q)))
section Payer
variable {l : Launch} {R : Room} {p : Program} {e : Env} {below : List Frame} {s : State} {sargs : Array Value} {y : MethodName} {len W9 : Nat}
theorem vx_back {ws : List Cond} {rm : Room} {Pc : Array Value → State → Prop} {Qc : Array Value → State → Outcome → State → Prop} {XC : String → State → State → Prop} {mc ms : Nat} {free : Addr → Prop} {bytes : ByteArray} {maxL : Nat} {ret : Option FieldType}
    (hM : vx_Met l y ws rm Pc Qc XC mc ms free) (hblind : FrameBlind Pc) (hrc : rm.cells = mc) (hrs : rm.slots = ms)
    (hframes : rm.frames + 1 ≤ R.frames) (hlocals : W9 + (maxL + 11) + rm.locals ≤ R.locals)
    (hws : ∀ w ∈ ws, ∀ a' U, s.WarmedH U.vm → w.before a' U = true) (hcode : Cond.code y bytes maxL ret ∈ ws) (hinit : ∀ a' U, s.WarmedH U.vm → (Cond.initialized y.cls).before a' U = true) :
    vx_Back l R p e below s sargs y len W9 (PreOf R mc ms Pc) (PostOf Qc mc ms free) (vx_Post XC mc ms free) := by
  intro m meth c A g ig mk a X hg hsize hdg hW hn hp
  have h1 : (headSpec ws rm).pre.before a A.U = true := atoms_intro fun w hw => hws w hw _ _ X.warmed
  have h2 : (Cond.code y bytes maxL ret).before a A.U = true := hws _ hcode _ _ X.warmed
  have h3 : (Cond.initialized y.cls).before a A.U = true := hinit _ _ X.warmed
  have h4 : A.cells + (headSpec ws rm).room.cells ≤ R.cells := by rw [show (headSpec ws rm).room.cells = mc from hrc]; exact hp.1
  have h5 : A.slots + (headSpec ws rm).room.slots ≤ R.slots := by rw [show (headSpec ws rm).room.slots = ms from hrs]; exact hp.2.1
  have hPc : Pc a (A.U.calling g mk a) := hblind _ _ _ _ hp.2.2
  obtain ⟨U, Ls, c0, s0⟩ := A
  dsimp only [Pt.U, Pt.locs, Pt.cells, Pt.slots] at h1 h2 h3 h4 h5 X hn hPc ⊢
  obtain ⟨methY, cY, hmY, hcY, -, hlY, -, -, -, -⟩ := Cond.code_spec hn h2
  obtain ⟨kY, hkY, -⟩ := className_of_methodNamed hn
  have hinitY : kY.init = .initialized := Cond.initialized_spec (findClass_of_methodNamed hn) hkY h3
  have h : At U g.method c below := by rw [hg]; exact X.here
  have hlocals9 : W9 + (maxL + 11) + (headSpec ws rm).room.locals ≤ R.locals := hlocals
  have happ : (headSpec ws rm).appliesLoose y e.platform (U.calling g mk a) = true :=
    Spec.appliesLoose_calling (g := g) h hdg hn hkY hinitY
      (X.room_calling (g := g) (R' := (headSpec ws rm).room) hsize hmY hcY hframes (by rw [hlY]; omega) h4 h5) h1
  obtain ⟨mid, hmid⟩ := h.above
  have hfr : (U.setTop g).frames = (.java g :: mid) ++ below := by rw [State.frames_setTop' g h.top, hmid]; rfl
  obtain ⟨o, s₂, hsteps, -, hend, hq⟩ := Steps.callFree hM p X.admits X.cas X.clock (acts := []) hfr happ hPc trivial
  have hq' : vx_Q Qc XC mc ms free a (U.calling g mk a) o s₂ := hq
  rw [State.frames_setTop' g h.top] at hend
  obtain ⟨g₀, hg0⟩ := Option.isSome_iff_exists.mp h.top
  obtain ⟨r, hr⟩ := State.topJava?_eq_some.mp hg0
  have hr' : (({ U with heap := s₂.heap, slotsUsed := s₂.slotsUsed } : State).setVm s₂.vm).frames = .java g₀ :: r := hr
  rcases hq' with ⟨hqc, L, hfe, hL⟩ | ⟨q, rfl, E, ce, L, hx, hce, hcv, hcl, hW₂, hsm, hL⟩
  · obtain ⟨⟨v, rfl⟩, hW₂, e2, q2, q3, q4, q5, q6⟩ := id hfe
    have e3 : s₂ = ({ (U.calling g mk a).setFrames s₂.frames with heap := s₂.heap, slotsUsed := s₂.slotsUsed } : State).setVm s₂.vm := by
      have : s₂ = ({ s₂ with vm := (U.calling g mk a).vm } : State).setVm s₂.vm := rfl
      rw [e2] at this
      exact this
    obtain ⟨c₂, i₂, len₂, hc₂, hd₂, hf₂⟩ := hend
    have hW' : U.WarmedH s₂.vm := hW₂
    have hcc : c₂ = c := by
      have h1 : s₂.code? g.method = U.code? g.method := by
        rw [State.code?_eq, State.code?_eq, hW'.alike.method?]
      exact Option.some.inj (hc₂.symm.trans (h1.trans h.code))
    subst hcc
    have hlen : len₂ = len := by rw [hdg] at hd₂; cases hd₂; rfl
    subst hlen
    have hs₂ : s₂ = (({ U with heap := s₂.heap, slotsUsed := s₂.slotsUsed } : State).setVm s₂.vm).setTop { g with pc := g.pc + len₂, stack := v.toList ++ g.stack } := by
      refine e3.trans ?_
      rw [hf₂, State.calling_eq h.top, State.setFrames_setFrames, State.setTop_of_frames _ hr', hr]
      rfl
    have hsame : U.sameButNew ({ U with heap := s₂.heap, slotsUsed := s₂.slotsUsed } : State) L mc ms := by
      refine ⟨?_, q2, q3, q4, q5, q6⟩
      obtain ⟨t, ht, -⟩ := State.frames_cons hr
      show ({ U with heap := s₂.heap, slotsUsed := s₂.slotsUsed } : State) = { U.setFrames U.frames with heap := s₂.heap, slotsUsed := s₂.slotsUsed }
      rw [State.setFrames_self ht]
    subst hg
    refine Or.inl ⟨v, ⟨(({ U with heap := s₂.heap, slotsUsed := s₂.slotsUsed } : State).setVm s₂.vm), Ls ++ L, c0 + mc, s0 + ms⟩,
      ⟨X.admits, X.cas, X.clock, X.frames, X.room, X.hears, X.method, X.code, (X.here.setHeapUsed s₂.heap s₂.slotsUsed).setVm hW'.alike, X.tail, State.WarmedH.trans X.warmed hW', X.limits, X.bytes, X.same.trans (hsame.setVm s.vm)⟩,
      ⟨g, mk, s₂, L, rfl, rfl, hqc, rfl, hL, rfl, rfl⟩, ?_⟩
    show Steps p.tables e below _ ((({ U with heap := s₂.heap, slotsUsed := s₂.slotsUsed } : State).setVm s₂.vm).setTop { g with pc := g.pc + len₂, stack := v.toList ++ g.stack })
    rw [← hs₂]
    exact hsteps
  · obtain ⟨e2, q2, q3, q4, q5, q6⟩ := id hsm
    have e3 : s₂ = ({ (U.calling g mk a).setFrames s₂.frames with heap := s₂.heap, slotsUsed := s₂.slotsUsed } : State).setVm s₂.vm := by
      have : s₂ = ({ s₂ with vm := (U.calling g mk a).vm } : State).setVm s₂.vm := rfl
      rw [e2] at this
      exact this
    have hf₂ : s₂.frames = .throwing q :: .java g :: U.frames.tail := hend
    have hW' : U.WarmedH s₂.vm := hW₂
    have hs₂ : s₂ = ((({ U with heap := s₂.heap, slotsUsed := s₂.slotsUsed } : State).setVm s₂.vm).setTop g).pushFrame (.throwing q) := by
      refine e3.trans ?_
      rw [hf₂, State.calling_eq h.top, State.setFrames_setFrames, State.pushFrame, State.frames_setTop _ hr', State.setTop_of_frames _ hr', State.setFrames_setFrames, hr]
      rfl
    have hsame : U.sameButNew ({ U with heap := s₂.heap, slotsUsed := s₂.slotsUsed } : State) L mc ms := by
      refine ⟨?_, q2, q3, q4, q5, q6⟩
      obtain ⟨t, ht, -⟩ := State.frames_cons hr
      show ({ U with heap := s₂.heap, slotsUsed := s₂.slotsUsed } : State) = { U.setFrames U.frames with heap := s₂.heap, slotsUsed := s₂.slotsUsed }
      rw [State.setFrames_self ht]
    subst hg
    refine Or.inr ⟨q, ⟨(({ U with heap := s₂.heap, slotsUsed := s₂.slotsUsed } : State).setVm s₂.vm), Ls ++ L, c0 + mc, s0 + ms⟩,
      ⟨X.admits, X.cas, X.clock, X.frames, X.room, X.hears, X.method, X.code, (X.here.setHeapUsed s₂.heap s₂.slotsUsed).setVm hW'.alike, X.tail, State.WarmedH.trans X.warmed hW', X.limits, X.bytes, X.same.trans (hsame.setVm s.vm)⟩,
      ⟨g, mk, s₂, L, E, ce, rfl, rfl, hx, hce, hcv, hcl, rfl, hL, rfl, rfl⟩, ?_⟩
    show Steps p.tables e below _ (((({ U with heap := s₂.heap, slotsUsed := s₂.slotsUsed } : State).setVm s₂.vm).setTop g).pushFrame (.throwing q))
    rw [← hs₂]
    exact hsteps
end Payer
section Calls
variable {p : Program} {l : Launch} {e : Env} {R : Room} {s : State} {m : MethodId} {args : Array Value} {below : List Frame} {meth : Method} {c : Code} {T : State} {locs : List Loc} {cells slots : Nat}
theorem vx_callV (X : Stand p l e R s m args below meth c T locs cells slots) (hexec : p.tables.exec = Jvm.exec) {own C : String} {index : Nat} {y : MethodName} {bytes : ByteArray} {maxL : Nat} {ret : Option FieldType}
    (hown : s.vm.findClass own = some m.cls) (hlink : (Cond.methodLink own index y).before args s = true) (hinst : (Cond.instanceMethod y).before args s = true) (hsel : (Cond.selects C y y).before args s = true)
    (hcode : (Cond.code y bytes maxL ret).before args s = true) (hy : y.cls ≠ "java/lang/invoke/MethodHandle" ∧ y.cls ≠ "java/lang/invoke/VarHandle")
    {W9 : Nat} {Pre : Pt → Array Value → Prop} {Post : Pt → Array Value → Option Value → Pt → Prop} {PostX : Pt → Array Value → Addr → Pt → Prop} (hK : vx_Back l R p e below s args y 3 W9 Pre Post PostX)
    {b : Addr} {cellB : Cell} (hcell : T.heap[b]? = some cellB) (hobj : cellB.vm.isStatics = false) (hcls : s.vm.findClass C = some cellB.cls)
    {g : JFrame} (hg : g.method = m) (hsize : g.locals.size = c.maxLocals) {argsL rest : List Value} (hlen : ∀ sig, parseMethodDescriptor y.desc = some sig → argsL.length = sig.parameters.length)
    (hstack : g.stack = argsL.reverse ++ .ref b :: rest) (hW : 2 * g.monitorRoom + (rest.map fun v => v.category).sum ≤ W9) (hdg : decode c.code g.pc = .ok (.invokevirtual index, 3))
    (hpre : ∀ vm₁, s.WarmedH vm₁ → Pre ⟨T.setVm vm₁, locs, cells, slots⟩ (Value.ref b :: argsL).toArray) :
    (∃ (v : Option Value) (vm₁ : Vm) (B : Pt), s.WarmedH vm₁ ∧ Stand p l e R s m args below meth c B.U B.locs B.cells B.slots ∧ Post ⟨T.setVm vm₁, locs, cells, slots⟩ (Value.ref b :: argsL).toArray v B ∧
      ∀ target, Steps p.tables e below (B.U.setTop { g with pc := g.pc + 3, stack := v.toList ++ rest }) target → Steps p.tables e below (T.setTop g) target) ∨
    (∃ (q : Addr) (vm₁ : Vm) (B : Pt), s.WarmedH vm₁ ∧ Stand p l e R s m args below meth c B.U B.locs B.cells B.slots ∧ PostX ⟨T.setVm vm₁, locs, cells, slots⟩ (Value.ref b :: argsL).toArray q B ∧
      Steps p.tables e below (T.setTop g) ((B.U.setTop { g with stack := rest }).pushFrame (.throwing q))) := by
  obtain ⟨mk, methM, hnamed, hmethM, hstM, habM⟩ := Cond.instanceMethod_spec hinst
  obtain ⟨methM', cM, hmethM', -, -, -, -, -, -, hsigM⟩ := Cond.code_spec hnamed hcode
  cases hmethM.symm.trans hmethM'
  obtain ⟨c2, r2, m2, q1, q2, q3, q4, kP, hkP, hkPi⟩ := Cond.selects_spec hsel
  cases hcls.symm.trans q1
  cases (State.methodFound?_of_named hnamed hy).symm.trans q2
  cases hnamed.symm.trans q3
  have hselP : selectMethod e.platform s.vm cellB.cls mk = .method mk := by rw [Launch.admits_selectMethod X.admits]; exact q4
  obtain ⟨vm₁, X₁, hstep₁⟩ := X.invokevirtual hexec hown hlink hnamed hmethM hstM hkP hkPi hy (a := b) (cell := cellB) hcell
    (fun z h => by rw [h] at hobj; cases hobj) hselP hmethM habM hkP hkPi (g := g) hg (argsL := argsL) (rest := rest) (hlen _ hsigM) hstack hdg
  rcases hK m meth c ⟨T.setVm vm₁, locs, cells, slots⟩ { g with stack := rest } (.invokevirtual index) mk (Value.ref b :: argsL).toArray X₁ hg hsize hdg hW (X₁.named hnamed) (hpre vm₁ X₁.warmed) with ⟨v, B, X', hpost, hsteps⟩ | ⟨q, B, X', hpost, hsteps⟩
  · exact Or.inl ⟨v, vm₁, B, X₁.warmed, X', hpost, fun target h => hstep₁ _ fun acts => by rw [doInvoke_state]; exact hsteps.trans h⟩
  · exact Or.inr ⟨q, vm₁, B, X₁.warmed, X', hpost, hstep₁ _ fun acts => by rw [doInvoke_state]; exact hsteps⟩
theorem vx_callS (X : Stand p l e R s m args below meth c T locs cells slots) (hexec : p.tables.exec = Jvm.exec) {own : String} {index : Nat} {y : MethodName} {bytes : ByteArray} {maxL : Nat} {ret : Option FieldType}
    (hown : s.vm.findClass own = some m.cls) (hlink : (Cond.methodLink own index y).before args s = true) (hstat : (Cond.static y).before args s = true) (hinit : (Cond.initialized y.cls).before args s = true)
    (hcode : (Cond.code y bytes maxL ret).before args s = true) (hy : y.cls ≠ "java/lang/invoke/MethodHandle" ∧ y.cls ≠ "java/lang/invoke/VarHandle")
    {W9 : Nat} {Pre : Pt → Array Value → Prop} {Post : Pt → Array Value → Option Value → Pt → Prop} {PostX : Pt → Array Value → Addr → Pt → Prop} (hK : vx_Back l R p e below s args y 3 W9 Pre Post PostX)
    {g : JFrame} (hg : g.method = m) (hsize : g.locals.size = c.maxLocals) {argsL rest : List Value} (hlen : ∀ sig, parseMethodDescriptor y.desc = some sig → argsL.length = sig.parameters.length)
    (hstack : g.stack = argsL.reverse ++ rest) (hW : 2 * g.monitorRoom + (rest.map fun v => v.category).sum ≤ W9) (hdg : decode c.code g.pc = .ok (.invokestatic index, 3))
    (hpre : ∀ vm₁, s.WarmedH vm₁ → Pre ⟨T.setVm vm₁, locs, cells, slots⟩ argsL.toArray) :
    (∃ (v : Option Value) (vm₁ : Vm) (B : Pt), s.WarmedH vm₁ ∧ Stand p l e R s m args below meth c B.U B.locs B.cells B.slots ∧ Post ⟨T.setVm vm₁, locs, cells, slots⟩ argsL.toArray v B ∧
      ∀ target, Steps p.tables e below (B.U.setTop { g with pc := g.pc + 3, stack := v.toList ++ rest }) target → Steps p.tables e below (T.setTop g) target) ∨
    (∃ (q : Addr) (vm₁ : Vm) (B : Pt), s.WarmedH vm₁ ∧ Stand p l e R s m args below meth c B.U B.locs B.cells B.slots ∧ PostX ⟨T.setVm vm₁, locs, cells, slots⟩ argsL.toArray q B ∧
      Steps p.tables e below (T.setTop g) ((B.U.setTop { g with stack := rest }).pushFrame (.throwing q))) := by
  obtain ⟨mk, hnamed⟩ := Cond.code_named hcode
  obtain ⟨methM, cM, hmethM, -, -, -, -, -, -, hsigM⟩ := Cond.code_spec hnamed hcode
  have hstatic : methM.isStatic = true := Cond.static_spec hnamed hmethM hstat
  obtain ⟨kP, hkP, -⟩ := className_of_methodNamed hnamed
  have hinitP : kP.init = .initialized := Cond.initialized_spec (findClass_of_methodNamed hnamed) hkP hinit
  obtain ⟨vm₁, X₁, hstep₁⟩ := X.invokestatic hexec hown hlink hnamed hmethM hstatic hkP hinitP hy (g := g) hg (argsL := argsL) (rest := rest) (hlen _ hsigM) hstack hdg
  rcases hK m meth c ⟨T.setVm vm₁, locs, cells, slots⟩ { g with stack := rest } (.invokestatic index) mk argsL.toArray X₁ hg hsize hdg hW (X₁.named hnamed) (hpre vm₁ X₁.warmed) with ⟨v, B, X', hpost, hsteps⟩ | ⟨q, B, X', hpost, hsteps⟩
  · exact Or.inl ⟨v, vm₁, B, X₁.warmed, X', hpost, fun target h => hstep₁ _ fun acts => by rw [doInvoke_state]; exact hsteps.trans h⟩
  · exact Or.inr ⟨q, vm₁, B, X₁.warmed, X', hpost, hstep₁ _ fun acts => by rw [doInvoke_state]; exact hsteps⟩
end Calls
theorem vx_cls {s : State} {T : State} {vm₁ : Vm} {E : String} {k : ClassId} (hW : s.WarmedH vm₁) (h : (T.setVm vm₁).vm.findClass E = some k) : s.vm.findClass E = some k := by
  have h1 : vm₁.findClass E = some k := h
  rw [hW.alike.findClass] at h1
  exact h1
/-- the method's frame g, with q thrown over it -/
def vx_W (p : Program) (l : Launch) (e : Env) (R : Room) (s : State) (m : MethodId) (args : Array Value) (below : List Frame) (meth : Method) (c : Code) (H : Heap) (locs : List Loc) (cells slots : Nat) (Q : State → Prop) (g : JFrame) (q : Addr) : Prop :=
  ∀ T : State, T.heap = H → Stand p l e R s m args below meth c T locs cells slots → ∃ t, Steps p.tables e below ((T.setTop g).pushFrame (.throwing q)) t ∧ Q t
def vx_Run (p : Program) (l : Launch) (e : Env) (R : Room) (s : State) (m : MethodId) (args : Array Value) (below : List Frame) (meth : Method) (c : Code) (H : Heap) (locs : List Loc) (cells slots mc ms : Nat) (g : JFrame) (rest : List Value) (Qa : State → Outcome → State → Prop) (XC : String → State → State → Prop) (free : Addr → Prop) : Prop :=
  ∀ T : State, T.heap = H → Stand p l e R s m args below meth c T locs cells slots →
    (∃ (v : Option Value) (st₀ t T' : State) (L : List Loc), st₀.heap = H ∧ Stand p l e R s m args below meth c T' (locs ++ L) (cells + mc) (slots + ms) ∧ (∀ q ∈ L, free q.base) ∧ T'.heap = t.heap ∧ T'.vm = t.vm ∧ Qa st₀ (.returned v) t ∧
      Goes p e below T g T' { g with pc := g.pc + 3, stack := v.toList ++ rest }) ∨
    (∃ (q : Addr) (st₀ t T' : State) (L : List Loc) (E : String) (ce : Cell), st₀.heap = H ∧ Stand p l e R s m args below meth c T' (locs ++ L) (cells + mc) (slots + ms) ∧ (∀ z ∈ L, free z.base) ∧ T'.heap = t.heap ∧ T'.vm = t.vm ∧ XC E st₀ t ∧ t.heap[q]? = some ce ∧ ce.vm = .none ∧ s.vm.findClass E = some ce.cls ∧
      Steps p.tables e below (T.setTop g) ((T'.setTop { g with stack := rest }).pushFrame (.throwing q)))
def vx_X {S : Type} (px : S → Prop) (B : String → S → State → Prop) (A : Nat → Prop) : String → State → State → Prop := fun E st t => ∃ u : S, px u ∧ B E u t ∧ va_F A st t
section Runs
variable {p : Program} {l : Launch} {e : Env} {R : Room} {s : State} {m : MethodId} {args : Array Value} {below : List Frame} {meth : Method} {c : Code} {H : Heap} {locs : List Loc} {cells slots : Nat}
variable {y : MethodName} {bytes cc : ByteArray} {maxL nL mc ms n index : Nat} {ret : Option FieldType} {ws : List Cond} {rm : Room} {Pc : Array Value → State → Prop} {Qc : Array Value → State → Outcome → State → Prop} {XC : String → State → State → Prop} {free : Addr → Prop} {Ts : List Cond} {own C : String} {b : Addr} {As rest : List Value} {g : JFrame}
theorem vx_callBack (cb : CallB R s args own index y bytes maxL ret ws rm mc ms n) (hM : vx_Met l y ws rm Pc Qc XC mc ms free) (hbl : FrameBlind Pc) : vx_Back l R p e below s args y 3 8 (PreOf R mc ms Pc) (PostOf Qc mc ms free) (vx_Post XC mc ms free) := by
  obtain ⟨hrc, hrs, hfr, hlo, hws, hcw, -, hini, -⟩ := cb
  exact vx_back (bytes := bytes) (maxL := maxL) (ret := ret) hM hbl hrc hrs hfr hlo hws hcw (fun a' U hW => word_at hW (Or.inl (by first | rfl | simp [Cond.onTables, Cond.keeps, Cond.steady])) hini)
theorem vx_runV (S : CallFix p m c cc nL s args Ts own) (hM : vx_Met l y ws rm Pc Qc XC mc ms free) (cw : CallW R s args own C index y bytes maxL ret ws rm mc ms n) (hp : PreV s H C b Pc As)
    (hg : g.method = m) (hn : As.length = n) (hsize : g.locals.size = nL) (hstack : g.stack = As.reverse ++ .ref b :: rest) (hW : 2 * g.monitorRoom + (rest.map fun v => v.category).sum ≤ 8) (hdg : decode cc g.pc = .ok (.invokevirtual index, 3)) (hf : cells + mc ≤ R.cells ∧ slots + ms ≤ R.slots) :
    vx_Run p l e R s m args below meth c H locs cells slots mc ms g rest (Qc (Value.ref b :: As).toArray) XC free := by
  have hK : vx_Back l R p e below s args y 3 8 (PreOf R mc ms Pc) (PostOf Qc mc ms free) (vx_Post XC mc ms free) := vx_callBack cw.1 hM hp.1
  obtain ⟨⟨-, -, -, -, -, -, hcode, -, hy, hlen, hl⟩, hin, hse⟩ := cw
  obtain ⟨hx, hb, hml, ho, -⟩ := S
  obtain ⟨-, ⟨cellB, hcB, hoB, hclB⟩, hPc⟩ := hp
  intro T hT X
  rcases vx_callV X hx (C := C) (bytes := bytes) (maxL := maxL) (ret := ret) ho hl hin hse hcode hy hK (by rw [hT]; exact hcB) hoB hclB hg (hsize.trans hml.symm) (argsL := As) (rest := rest) (fun sig h => hn.trans (hlen sig h)) hstack hW (by rw [hb]; exact hdg)
    (fun vm₁ hW₁ => ⟨hf.1, hf.2, hPc (T.setVm vm₁) hT hW₁⟩) with ⟨v, vm₁, ⟨U', l2, c2, s2⟩, hW₁, X', ⟨g', mk, t, L, e1, e2, hq, h1, hL, h2, h3⟩, st⟩ | ⟨q, vm₁, ⟨U', l2, c2, s2⟩, hW₁, X', ⟨g', mk, t, L, E, ce, e1, e2, hq, hce, hcv, hcl, h1, hL, h2, h3⟩, st⟩
  · dsimp only [Pt.U, Pt.locs, Pt.cells, Pt.slots] at X' e1 e2 h1 h2 h3 st
    subst h1; subst h2; subst h3
    exact Or.inl ⟨v, (T.setVm vm₁).calling g' mk (Value.ref b :: As).toArray, t, U', L, hT, X', hL, e1, e2, hq, st⟩
  · dsimp only [Pt.U, Pt.locs, Pt.cells, Pt.slots] at X' e1 e2 h1 h2 h3 st hcl
    subst h1; subst h2; subst h3
    exact Or.inr ⟨q, (T.setVm vm₁).calling g' mk (Value.ref b :: As).toArray, t, U', L, E, ce, hT, X', hL, e1, e2, hq, hce, hcv, vx_cls hW₁ hcl, st⟩
theorem vx_runS (S : CallFix p m c cc nL s args Ts own) (hM : vx_Met l y ws rm Pc Qc XC mc ms free) (cw : CallB R s args own index y bytes maxL ret ws rm mc ms n ∧ (Cond.static y).before args s = true) (hp : PreS s H Pc As)
    (hg : g.method = m) (hn : As.length = n) (hsize : g.locals.size = nL) (hstack : g.stack = As.reverse ++ rest) (hW : 2 * g.monitorRoom + (rest.map fun v => v.category).sum ≤ 8) (hdg : decode cc g.pc = .ok (.invokestatic index, 3)) (hf : cells + mc ≤ R.cells ∧ slots + ms ≤ R.slots) :
    vx_Run p l e R s m args below meth c H locs cells slots mc ms g rest (Qc As.toArray) XC free := by
  have hK : vx_Back l R p e below s args y 3 8 (PreOf R mc ms Pc) (PostOf Qc mc ms free) (vx_Post XC mc ms free) := vx_callBack cw.1 hM hp.1
  obtain ⟨⟨-, -, -, -, -, -, hcode, hini, hy, hlen, hl⟩, hstt⟩ := cw
  obtain ⟨hx, hb, hml, ho, -⟩ := S
  intro T hT X
  rcases vx_callS X hx (bytes := bytes) (maxL := maxL) (ret := ret) ho hl hstt hini hcode hy hK hg (hsize.trans hml.symm) (argsL := As) (rest := rest) (fun sig h => hn.trans (hlen sig h)) hstack hW (by rw [hb]; exact hdg)
    (fun vm₁ hW₁ => ⟨hf.1, hf.2, hp.2 (T.setVm vm₁) hT hW₁⟩) with ⟨v, vm₁, ⟨U', l2, c2, s2⟩, hW₁, X', ⟨g', mk, t, L, e1, e2, hq, h1, hL, h2, h3⟩, st⟩ | ⟨q, vm₁, ⟨U', l2, c2, s2⟩, hW₁, X', ⟨g', mk, t, L, E, ce, e1, e2, hq, hce, hcv, hcl, h1, hL, h2, h3⟩, st⟩
  · dsimp only [Pt.U, Pt.locs, Pt.cells, Pt.slots] at X' e1 e2 h1 h2 h3 st
    subst h1; subst h2; subst h3
    exact Or.inl ⟨v, (T.setVm vm₁).calling g' mk As.toArray, t, U', L, hT, X', hL, e1, e2, hq, st⟩
  · dsimp only [Pt.U, Pt.locs, Pt.cells, Pt.slots] at X' e1 e2 h1 h2 h3 st hcl
    subst h1; subst h2; subst h3
    exact Or.inr ⟨q, (T.setVm vm₁).calling g' mk As.toArray, t, U', L, E, ce, hT, X', hL, e1, e2, hq, hce, hcv, vx_cls hW₁ hcl, st⟩
end Runs
section Rows
variable {p : Program} {l : Launch} {e : Env} {R : Room} {s : State} {m : MethodId} {args : Array Value} {below : List Frame} {meth : Method} {c : Code} {H : Heap} {locs : List Loc} {cells slots : Nat} {Q : State → Prop}
variable {mc ms : Nat} {free : Addr → Prop} {A0 A1 : Nat → Prop} {H0 : Heap} {a : Array Value} {pc : Nat} {ls : Array Slot} {st0 rest : List Value}
theorem vx_keep {st₀ t T' : State} {L : List Loc} (h0 : st₀.heap = H) (e1 : T'.heap = t.heap) (hS : va_S A0 H0 H locs) (hA : ∀ q, q < H.size → A1 q → A0 q) (hf : ∀ q, free q → A0 q) (hL : ∀ q ∈ L, free q.base) (hF : va_F A1 st₀ t) :
    H.size ≤ T'.heap.size ∧ (∀ q : Nat, q < H.size → ¬ A1 q → T'.heap[q]? = H[q]?) ∧ va_S A0 H0 T'.heap (locs ++ L) := by
  obtain ⟨hz, hk⟩ := hF
  rw [h0] at hz hk
  exact ⟨by rw [e1]; exact hz, fun q h1 h2 => by rw [e1]; exact hk q h1 h2,
    ⟨Nat.le_trans hS.1 (by rw [e1]; exact hz), fun q h1 h2 => by rw [e1, hk q (Nat.lt_of_lt_of_le h1 hS.1) (fun z => h2 (hA q (Nat.lt_of_lt_of_le h1 hS.1) z))]; exact hS.2.1 q h1 h2, fun q hq => by
      rcases List.mem_append.mp hq with h | h
      · exact hS.2.2 q h
      · exact hf _ (hL q h)⟩⟩
theorem vx_calli {S SX : Type} {post : Int32 → S → Prop} {px : SX → Prop} {B : S → State → Prop} {BX : String → SX → State → Prop} {AX : Nat → Prop} (hr : vx_Run p l e R s m args below meth c H locs cells slots mc ms (F0 m pc ls st0) rest (va_Qi post B A1 a) (vx_X px BX AX) free) (hS : va_S A0 H0 H locs) (hA : ∀ q, q < H.size → A1 q → A0 q) (hf : ∀ q, free q → A0 q) (hAX : ∀ q, q < H.size → AX q → A0 q)
    (kx : ∀ (E : String) (ce : Cell) (q9 : Addr) (u : SX) (t : State) (H1 : Heap) (locs1 : List Loc), t.heap = H1 → s.vm.Alike t.vm → px u → BX E u t → H.size ≤ H1.size → (∀ q : Nat, q < H.size → ¬ AX q → H1[q]? = H[q]?) → va_S A0 H0 H1 locs1 → H1[q9]? = some ce → ce.vm = .none → s.vm.findClass E = some ce.cls → vx_W p l e R s m args below meth c H1 locs1 (cells + mc) (slots + ms) Q (F0 m pc ls rest) q9)
    (kk : ∀ (r : Int32) (u : S) (t : State) (H1 : Heap) (locs1 : List Loc), t.heap = H1 → s.vm.Alike t.vm → post r u → B u t → H.size ≤ H1.size → (∀ q : Nat, q < H.size → ¬ A1 q → H1[q]? = H[q]?) → va_S A0 H0 H1 locs1 → W p l e R s m args below meth c H1 locs1 (cells + mc) (slots + ms) Q (F0 m (pc + 3) ls (.int r :: rest))) : W p l e R s m args below meth c H locs cells slots Q (F0 m pc ls st0) := by
  intro T hT X
  rcases hr T hT X with ⟨v, st₀, t, T', L, h0, X', hL, e1, e2, ⟨⟨r, u, hv, hp, hb⟩, hF⟩, st⟩ | ⟨q, st₀, t, T', L, E, ce, h0, X', hL, e1, e2, ⟨u, hp, hb, hF⟩, hce, hcv, hcl, st⟩
  · cases hv
    obtain ⟨k1, k2, k3⟩ := vx_keep h0 e1 hS hA hf hL hF
    obtain ⟨t2, a1, b1⟩ := kk r u t T'.heap (locs ++ L) e1.symm (by rw [← e2]; exact X'.warmed.alike) hp hb k1 k2 k3 T' rfl X'
    exact ⟨t2, st t2 a1, b1⟩
  · obtain ⟨k1, k2, k3⟩ := vx_keep h0 e1 hS hAX hf hL hF
    obtain ⟨t2, a1, b1⟩ := kx E ce q u t T'.heap (locs ++ L) e1.symm (by rw [← e2]; exact X'.warmed.alike) hp hb k1 k2 k3 (by rw [e1]; exact hce) hcv hcl T' rfl X'
    exact ⟨t2, st.trans a1, b1⟩
theorem vx_calll {S SX : Type} {post : Int64 → S → Prop} {px : SX → Prop} {B : S → State → Prop} {BX : String → SX → State → Prop} {AX : Nat → Prop} (hr : vx_Run p l e R s m args below meth c H locs cells slots mc ms (F0 m pc ls st0) rest (va_Ql post B A1 a) (vx_X px BX AX) free) (hS : va_S A0 H0 H locs) (hA : ∀ q, q < H.size → A1 q → A0 q) (hf : ∀ q, free q → A0 q) (hAX : ∀ q, q < H.size → AX q → A0 q)
    (kx : ∀ (E : String) (ce : Cell) (q9 : Addr) (u : SX) (t : State) (H1 : Heap) (locs1 : List Loc), t.heap = H1 → s.vm.Alike t.vm → px u → BX E u t → H.size ≤ H1.size → (∀ q : Nat, q < H.size → ¬ AX q → H1[q]? = H[q]?) → va_S A0 H0 H1 locs1 → H1[q9]? = some ce → ce.vm = .none → s.vm.findClass E = some ce.cls → vx_W p l e R s m args below meth c H1 locs1 (cells + mc) (slots + ms) Q (F0 m pc ls rest) q9)
    (kk : ∀ (r : Int64) (u : S) (t : State) (H1 : Heap) (locs1 : List Loc), t.heap = H1 → s.vm.Alike t.vm → post r u → B u t → H.size ≤ H1.size → (∀ q : Nat, q < H.size → ¬ A1 q → H1[q]? = H[q]?) → va_S A0 H0 H1 locs1 → W p l e R s m args below meth c H1 locs1 (cells + mc) (slots + ms) Q (F0 m (pc + 3) ls (.long r :: rest))) : W p l e R s m args below meth c H locs cells slots Q (F0 m pc ls st0) := by
  intro T hT X
  rcases hr T hT X with ⟨v, st₀, t, T', L, h0, X', hL, e1, e2, ⟨⟨r, u, hv, hp, hb⟩, hF⟩, st⟩ | ⟨q, st₀, t, T', L, E, ce, h0, X', hL, e1, e2, ⟨u, hp, hb, hF⟩, hce, hcv, hcl, st⟩
  · cases hv
    obtain ⟨k1, k2, k3⟩ := vx_keep h0 e1 hS hA hf hL hF
    obtain ⟨t2, a1, b1⟩ := kk r u t T'.heap (locs ++ L) e1.symm (by rw [← e2]; exact X'.warmed.alike) hp hb k1 k2 k3 T' rfl X'
    exact ⟨t2, st t2 a1, b1⟩
  · obtain ⟨k1, k2, k3⟩ := vx_keep h0 e1 hS hAX hf hL hF
    obtain ⟨t2, a1, b1⟩ := kx E ce q u t T'.heap (locs ++ L) e1.symm (by rw [← e2]; exact X'.warmed.alike) hp hb k1 k2 k3 (by rw [e1]; exact hce) hcv hcl T' rfl X'
    exact ⟨t2, st.trans a1, b1⟩
theorem vx_callf {S SX : Type} {post : UInt32 → S → Prop} {px : SX → Prop} {B : S → State → Prop} {BX : String → SX → State → Prop} {AX : Nat → Prop} (hr : vx_Run p l e R s m args below meth c H locs cells slots mc ms (F0 m pc ls st0) rest (va_Qf post B A1 a) (vx_X px BX AX) free) (hS : va_S A0 H0 H locs) (hA : ∀ q, q < H.size → A1 q → A0 q) (hf : ∀ q, free q → A0 q) (hAX : ∀ q, q < H.size → AX q → A0 q)
    (kx : ∀ (E : String) (ce : Cell) (q9 : Addr) (u : SX) (t : State) (H1 : Heap) (locs1 : List Loc), t.heap = H1 → s.vm.Alike t.vm → px u → BX E u t → H.size ≤ H1.size → (∀ q : Nat, q < H.size → ¬ AX q → H1[q]? = H[q]?) → va_S A0 H0 H1 locs1 → H1[q9]? = some ce → ce.vm = .none → s.vm.findClass E = some ce.cls → vx_W p l e R s m args below meth c H1 locs1 (cells + mc) (slots + ms) Q (F0 m pc ls rest) q9)
    (kk : ∀ (r : UInt32) (u : S) (t : State) (H1 : Heap) (locs1 : List Loc), t.heap = H1 → s.vm.Alike t.vm → post r u → B u t → H.size ≤ H1.size → (∀ q : Nat, q < H.size → ¬ A1 q → H1[q]? = H[q]?) → va_S A0 H0 H1 locs1 → W p l e R s m args below meth c H1 locs1 (cells + mc) (slots + ms) Q (F0 m (pc + 3) ls (.float r :: rest))) : W p l e R s m args below meth c H locs cells slots Q (F0 m pc ls st0) := by
  intro T hT X
  rcases hr T hT X with ⟨v, st₀, t, T', L, h0, X', hL, e1, e2, ⟨⟨r, u, hv, hp, hb⟩, hF⟩, st⟩ | ⟨q, st₀, t, T', L, E, ce, h0, X', hL, e1, e2, ⟨u, hp, hb, hF⟩, hce, hcv, hcl, st⟩
  · cases hv
    obtain ⟨k1, k2, k3⟩ := vx_keep h0 e1 hS hA hf hL hF
    obtain ⟨t2, a1, b1⟩ := kk r u t T'.heap (locs ++ L) e1.symm (by rw [← e2]; exact X'.warmed.alike) hp hb k1 k2 k3 T' rfl X'
    exact ⟨t2, st t2 a1, b1⟩
  · obtain ⟨k1, k2, k3⟩ := vx_keep h0 e1 hS hAX hf hL hF
    obtain ⟨t2, a1, b1⟩ := kx E ce q u t T'.heap (locs ++ L) e1.symm (by rw [← e2]; exact X'.warmed.alike) hp hb k1 k2 k3 (by rw [e1]; exact hce) hcv hcl T' rfl X'
    exact ⟨t2, st.trans a1, b1⟩
theorem vx_calld {S SX : Type} {post : UInt64 → S → Prop} {px : SX → Prop} {B : S → State → Prop} {BX : String → SX → State → Prop} {AX : Nat → Prop} (hr : vx_Run p l e R s m args below meth c H locs cells slots mc ms (F0 m pc ls st0) rest (va_Qd post B A1 a) (vx_X px BX AX) free) (hS : va_S A0 H0 H locs) (hA : ∀ q, q < H.size → A1 q → A0 q) (hf : ∀ q, free q → A0 q) (hAX : ∀ q, q < H.size → AX q → A0 q)
    (kx : ∀ (E : String) (ce : Cell) (q9 : Addr) (u : SX) (t : State) (H1 : Heap) (locs1 : List Loc), t.heap = H1 → s.vm.Alike t.vm → px u → BX E u t → H.size ≤ H1.size → (∀ q : Nat, q < H.size → ¬ AX q → H1[q]? = H[q]?) → va_S A0 H0 H1 locs1 → H1[q9]? = some ce → ce.vm = .none → s.vm.findClass E = some ce.cls → vx_W p l e R s m args below meth c H1 locs1 (cells + mc) (slots + ms) Q (F0 m pc ls rest) q9)
    (kk : ∀ (r : UInt64) (u : S) (t : State) (H1 : Heap) (locs1 : List Loc), t.heap = H1 → s.vm.Alike t.vm → post r u → B u t → H.size ≤ H1.size → (∀ q : Nat, q < H.size → ¬ A1 q → H1[q]? = H[q]?) → va_S A0 H0 H1 locs1 → W p l e R s m args below meth c H1 locs1 (cells + mc) (slots + ms) Q (F0 m (pc + 3) ls (.double r :: rest))) : W p l e R s m args below meth c H locs cells slots Q (F0 m pc ls st0) := by
  intro T hT X
  rcases hr T hT X with ⟨v, st₀, t, T', L, h0, X', hL, e1, e2, ⟨⟨r, u, hv, hp, hb⟩, hF⟩, st⟩ | ⟨q, st₀, t, T', L, E, ce, h0, X', hL, e1, e2, ⟨u, hp, hb, hF⟩, hce, hcv, hcl, st⟩
  · cases hv
    obtain ⟨k1, k2, k3⟩ := vx_keep h0 e1 hS hA hf hL hF
    obtain ⟨t2, a1, b1⟩ := kk r u t T'.heap (locs ++ L) e1.symm (by rw [← e2]; exact X'.warmed.alike) hp hb k1 k2 k3 T' rfl X'
    exact ⟨t2, st t2 a1, b1⟩
  · obtain ⟨k1, k2, k3⟩ := vx_keep h0 e1 hS hAX hf hL hF
    obtain ⟨t2, a1, b1⟩ := kx E ce q u t T'.heap (locs ++ L) e1.symm (by rw [← e2]; exact X'.warmed.alike) hp hb k1 k2 k3 (by rw [e1]; exact hce) hcv hcl T' rfl X'
    exact ⟨t2, st.trans a1, b1⟩
theorem vx_callv {S SX : Type} {post : S → Prop} {px : SX → Prop} {B : S → State → Prop} {BX : String → SX → State → Prop} {AX : Nat → Prop} (hr : vx_Run p l e R s m args below meth c H locs cells slots mc ms (F0 m pc ls st0) rest (va_Qv post B A1 a) (vx_X px BX AX) free) (hS : va_S A0 H0 H locs) (hA : ∀ q, q < H.size → A1 q → A0 q) (hf : ∀ q, free q → A0 q) (hAX : ∀ q, q < H.size → AX q → A0 q)
    (kx : ∀ (E : String) (ce : Cell) (q9 : Addr) (u : SX) (t : State) (H1 : Heap) (locs1 : List Loc), t.heap = H1 → s.vm.Alike t.vm → px u → BX E u t → H.size ≤ H1.size → (∀ q : Nat, q < H.size → ¬ AX q → H1[q]? = H[q]?) → va_S A0 H0 H1 locs1 → H1[q9]? = some ce → ce.vm = .none → s.vm.findClass E = some ce.cls → vx_W p l e R s m args below meth c H1 locs1 (cells + mc) (slots + ms) Q (F0 m pc ls rest) q9)
    (kk : ∀ (u : S) (t : State) (H1 : Heap) (locs1 : List Loc), t.heap = H1 → s.vm.Alike t.vm → post u → B u t → H.size ≤ H1.size → (∀ q : Nat, q < H.size → ¬ A1 q → H1[q]? = H[q]?) → va_S A0 H0 H1 locs1 → W p l e R s m args below meth c H1 locs1 (cells + mc) (slots + ms) Q (F0 m (pc + 3) ls (rest))) : W p l e R s m args below meth c H locs cells slots Q (F0 m pc ls st0) := by
  intro T hT X
  rcases hr T hT X with ⟨v, st₀, t, T', L, h0, X', hL, e1, e2, ⟨⟨u, hv, hp, hb⟩, hF⟩, st⟩ | ⟨q, st₀, t, T', L, E, ce, h0, X', hL, e1, e2, ⟨u, hp, hb, hF⟩, hce, hcv, hcl, st⟩
  · cases hv
    obtain ⟨k1, k2, k3⟩ := vx_keep h0 e1 hS hA hf hL hF
    obtain ⟨t2, a1, b1⟩ := kk u t T'.heap (locs ++ L) e1.symm (by rw [← e2]; exact X'.warmed.alike) hp hb k1 k2 k3 T' rfl X'
    exact ⟨t2, st t2 a1, b1⟩
  · obtain ⟨k1, k2, k3⟩ := vx_keep h0 e1 hS hAX hf hL hF
    obtain ⟨t2, a1, b1⟩ := kx E ce q u t T'.heap (locs ++ L) e1.symm (by rw [← e2]; exact X'.warmed.alike) hp hb k1 k2 k3 (by rw [e1]; exact hce) hcv hcl T' rfl X'
    exact ⟨t2, st.trans a1, b1⟩
/-- caught by the row x of this method's table; the rows ahead don't take it -/
theorem vx_catch {own name : String} {E : String} {ce : Cell} {q : Addr} (hown : s.vm.findClass own = some m.cls) (pre : List ExceptionTableEntry) (x : ExceptionTableEntry) (suf : List ExceptionTableEntry) (hsplit : c.exceptionTable.toList = pre ++ x :: suf)
    (hpass : ∀ z ∈ pre, covers z pc = false ∨ (z.catchType ≠ 0 ∧ ∃ nm : String, (Cond.classLink own z.catchType nm).before args s = true ∧ va_Nc E nm s)) (hx : covers x pc = true) (h0 : x.catchType ≠ 0)
    (hlink : (Cond.classLink own x.catchType name).before args s = true) (hcast : (Cond.castable E name).before args s = true) (hcell : H[q]? = some ce) (hv : ce.vm = .none) (hcl : s.vm.findClass E = some ce.cls)
    (kk : W p l e R s m args below meth c H locs cells slots Q (F0 m x.handlerPc ls [.ref q])) : vx_W p l e R s m args below meth c H locs cells slots Q (F0 m pc ls rest) q := by
  intro T hT X
  have hpl : e.platform.magicAccessors = ({} : Platform).magicAccessors := by rw [X.admits.platform]
  obtain ⟨c3, c4, hc3, hc4, hasg⟩ := Cond.castable_spec hcast
  cases Option.some.inj (hc3.symm.trans hcl)
  obtain ⟨c5, hc5, hcl5⟩ := Cond.classLink_spec hown hlink e.platform hpl
  cases Option.some.inj (hc4.symm.trans hc5)
  obtain ⟨vm', X', st⟩ := X.thenCaughtThrough q (g := F0 m pc ls rest) rfl (Steps.refl _) (by rw [hT]; exact hcell) (by rw [hv]; rfl) (by obtain ⟨k9, h9, -⟩ := Vm.findClass_spec hcl; exact ⟨k9, h9⟩) pre x suf hsplit
    (fun z hz => by
      rcases hpass z hz with h | ⟨hz0, nm, hl1, hn1⟩
      · exact Or.inl h
      · obtain ⟨c6, hc6, hcl6⟩ := Cond.classLink_spec hown hl1 e.platform hpl
        obtain ⟨a8, b8, h1, h2, h3⟩ := hn1
        cases Option.some.inj (h1.symm.trans hcl)
        cases Option.some.inj (h2.symm.trans hc6)
        exact Or.inr ⟨hz0, _, hcl6, h3⟩) hx (Or.inr ⟨h0, c4, hcl5, hasg⟩)
  obtain ⟨t, a1, b1⟩ := kk (T.setVm vm') hT X'
  exact ⟨t, st.trans a1, b1⟩
end Rows
section Ends
variable {p : Program} {l : Launch} {e : Env} {R : Room} {s : State} {m : MethodId} {args : Array Value} {below : List Frame} {meth : Method} {c : Code} {H : Heap} {locs : List Loc} {cells slots : Nat} {Q : State → Prop}
variable {mc ms : Nat} {free : Addr → Prop} {A0 A1 : Nat → Prop} {H0 : Heap} {a : Array Value} {ls : Array Slot} {st0 rest : List Value}
variable {Qc : Array Value → State → Outcome → State → Prop} {XC : String → State → State → Prop}
/-- what a body that may throw owes at its end -/
def vx_MQ (below : List Frame) (Qc : Array Value → State → Outcome → State → Prop) (XC : String → State → State → Prop) (a : Array Value) (s : State) (mc ms : Nat) (free : Addr → Prop) : State → Prop := fun t =>
  ∃ o, t.status = .running ∧ Ended t below o ∧ vx_Q Qc XC mc ms free a s o t
theorem vx_ret {g : JFrame} {mc ms : Nat} (k : W p l e R s m args below meth c H locs cells slots (MQ below Qc args s mc ms free) g) : W p l e R s m args below meth c H locs cells slots (vx_MQ below Qc XC args s mc ms free) g := by
  intro T hT X
  obtain ⟨t, a1, o, b1, b2, b3, b4⟩ := k T hT X
  exact ⟨t, a1, o, b1, b2, Or.inl ⟨b3, b4⟩⟩
/-- not caught here: it goes on to the caller -/
theorem vx_widen {g : JFrame} {q : Addr} {k n : Nat} (h1 : cells ≤ k) (h2 : slots ≤ n) (kk : vx_W p l e R s m args below meth c H locs k n Q g q) : vx_W p l e R s m args below meth c H locs cells slots Q g q := fun T hT X => kk T hT (stand_widen X h1 h2)
theorem vx_out {pc : Nat} {E : String} {ce : Cell} {q : Addr} {mc ms : Nat} (hout : ∀ x ∈ c.exceptionTable.toList, covers x pc = false) (hlocks : meth.locks = false) (hcell : H[q]? = some ce) (hv : ce.vm = .none) (hcl : s.vm.findClass E = some ce.cls)
    (hx : ∀ t : State, t.heap = H → s.vm.Alike t.vm → XC E s t) (hf : ∀ z ∈ locs, free z.base) (hc : cells ≤ mc) (hs : slots ≤ ms) :
    vx_W p l e R s m args below meth c H locs cells slots (vx_MQ below Qc XC args s mc ms free) (F0 m pc ls rest) q := by
  intro T hT X
  obtain ⟨st1, hrun, hend, hW, hsm⟩ := X.leaveThrown q (g := F0 m pc ls rest) rfl rfl rfl hout hlocks
  have hcell9 : (T.setFrames (.throwing q :: below)).heap[q]? = some ce := by
    show T.heap[q]? = some ce
    rw [hT]; exact hcell
  exact ⟨_, st1, .threw q, hrun, hend, Or.inr ⟨q, rfl, E, ce, locs, hx _ hT hW.alike, hcell9, hv, hcl, hW, hsm.mono hc hs, hf⟩⟩
theorem vx_frame {U : State} {k n : Nat} (h : s.sameButNew ({ U with vm := s.vm } : State) locs k n) : s.heap.size ≤ U.heap.size ∧ ∀ q : Nat, q < s.heap.size → (∀ z ∈ locs, z.base ≠ q) → U.heap[q]? = s.heap[q]? := by
  obtain ⟨-, h2, -, -, -, h6⟩ := h
  refine ⟨h2, fun q hq hz => ?_⟩
  obtain ⟨c9, e1, e2, e3, e4⟩ := h6 q _ (Array.getElem?_eq_getElem hq)
  have hs : c9.slots = (s.heap[q]).slots := Array.ext_getElem? fun i => e4 i fun hm => hz _ hm rfl
  have h9 : c9 = s.heap[q] := by
    rw [hs] at e2
    exact e2
  have e5 : U.heap[q]? = some c9 := e1
  rw [e5, h9, Array.getElem?_eq_getElem hq]
/-- the words of a throw but the four that speak of the heap -/
def vx_no (w : Cond) : Bool := decide (w ≠ .isRef (.static Bundle.tN "UNASSIGNED_STACK" Bundle.steD)) && decide (w ≠ .isRef (.static Bundle.tN "SUPPRESSED_SENTINEL" Bundle.listD)) && decide (w ≠ .laysStatic Bundle.tN "UNASSIGNED_STACK" Bundle.steD) && decide (w ≠ .laysStatic Bundle.tN "SUPPRESSED_SENTINEL" Bundle.listD)
def vx_at0 (own : String) (ic : Nat) (X : String) (names : List String) : List Cond := (Bundle.ownAtoms0 own ic X names).filter vx_no
def vx_atS (own : String) (ic : Nat) (X : String) (names : List String) : List Cond := (Bundle.ownAtoms own ic X names).filter vx_no
/-- a word that the tables alone decide, or a good one -/
def vx_ot (w : Cond) : Bool := w.onTables || goodWord w
theorem vx_ot_at {args a' : Array Value} {s U : State} {w : Cond} (hW : s.WarmedH U.vm) (hvm : s.vm = U.vm) (hg : vx_ot w = true) (h : w.before args s = true) : w.before a' U = true := by
  simp only [vx_ot, Bool.or_eq_true] at hg
  rcases hg with hg | hg
  · exact va_tabs hg hvm h
  · exact word_at hW (good_of_word hg) h
/-- a list's words: the good ones out of the method's own list, the others by premises of their own -/
theorem vx_hat {args : Array Value} {s : State} {L B : List Cond} (h1 : ∀ w ∈ L.filter goodWord, w.before args s = true) (h2 : ∀ w ∈ L.filter (fun w => !goodWord w), w ∈ B) (h3 : ∀ w ∈ B, w.before args s = true) : ∀ w ∈ L, w.before args s = true := by
  intro w hw
  by_cases g : goodWord w = true
  · exact h1 w (List.mem_filter.mpr ⟨hw, g⟩)
  · refine h3 w (h2 w (List.mem_filter.mpr ⟨hw, ?_⟩))
    show (!goodWord w) = true
    cases hgw : goodWord w
    · rfl
    · exact absurd hgw g
theorem vx_c {args : Array Value} {s : State} {w : Cond} {B : List Cond} (h : w.before args s = true) (t : ∀ w ∈ B, w.before args s = true) : ∀ w' ∈ w :: B, w'.before args s = true := fun w' h' => (List.mem_cons.mp h').elim (fun e => by rw [e]; exact h) (t w')
theorem vx_n {args : Array Value} {s : State} : ∀ w ∈ ([] : List Cond), w.before args s = true := fun _ h => nomatch h
theorem vx_own {args : Array Value} {s : State} {L : List Cond} (h1 : ∀ w ∈ L.filter vx_no, w.before args s = true)
    (hU : (Cond.isRef (.static Bundle.tN "UNASSIGNED_STACK" Bundle.steD)).before args s = true) (hN : (Cond.isRef (.static Bundle.tN "SUPPRESSED_SENTINEL" Bundle.listD)).before args s = true)
    (lU : (Cond.laysStatic Bundle.tN "UNASSIGNED_STACK" Bundle.steD).before args s = true) (lN : (Cond.laysStatic Bundle.tN "SUPPRESSED_SENTINEL" Bundle.listD).before args s = true) : ∀ w ∈ L, w.before args s = true := by
  intro w hw
  by_cases e1 : w = .isRef (.static Bundle.tN "UNASSIGNED_STACK" Bundle.steD)
  · rw [e1]; exact hU
  · by_cases e2 : w = .isRef (.static Bundle.tN "SUPPRESSED_SENTINEL" Bundle.listD)
    · rw [e2]; exact hN
    · by_cases e3 : w = .laysStatic Bundle.tN "UNASSIGNED_STACK" Bundle.steD
      · rw [e3]; exact lU
      · by_cases e4 : w = .laysStatic Bundle.tN "SUPPRESSED_SENTINEL" Bundle.listD
        · rw [e4]; exact lN
        · exact h1 w (List.mem_filter.mpr ⟨hw, by unfold vx_no; rw [decide_eq_true e1, decide_eq_true e2, decide_eq_true e3, decide_eq_true e4]; rfl⟩)
/-- where a static field lies, its class's statics cell in H -/
def vx_L (C n d : String) (A : Nat → Prop) (U : State) (H : Heap) : Prop := ∃ (c : ClassId) (k : Class) (i : Nat) (f : Field) (a : Nat) (cell : Cell), U.vm.findClass C = some c ∧ U.fieldFound? C n d = some (c, k, i, f) ∧ f.isStatic = true ∧ k.statics = some a ∧ H[a]? = some cell ∧ cell.vm.isStatics = true ∧ cell.cls = c ∧ f.slot < cell.slots.size ∧ k.staticTypes[f.slot]? = some f.type ∧ ¬ A a
theorem vx_L.moved {C n d : String} {A : Nat → Prop} {u U : State} {H : Heap} (hvm : u.vm.Alike U.vm) (h : vx_L C n d A u H) : vx_L C n d A U H := by
  obtain ⟨c, k, i, f, a, cell, h1, h2, h3, h4, h5, h6, h7, h8, h9, h10⟩ := h
  obtain ⟨k', hi', he⟩ := State.fieldFound?_setVm hvm h2
  exact ⟨c, k', i, f, a, cell, by rw [hvm.findClass]; exact h1, hi', h3, by rw [he]; exact h4, h5, h6, h7, h8, by rw [he]; exact h9, h10⟩
theorem vx_L.kept {C n d : String} {A : Nat → Prop} {U : State} {H H1 : Heap} (h : vx_L C n d A U H) (hq : ∀ a : Nat, a < H.size → ¬ A a → H1[a]? = H[a]?) : vx_L C n d A U H1 := by
  obtain ⟨c, k, i, f, a, cell, h1, h2, h3, h4, h5, h6, h7, h8, h9, h10⟩ := h
  exact ⟨c, k, i, f, a, cell, h1, h2, h3, h4, by rw [hq a (Array.getElem?_eq_some_iff.mp h5).1 h10]; exact h5, h6, h7, h8, h9, h10⟩
theorem vx_L.narrow {C n d : String} {A B : Nat → Prop} {U : State} {H : Heap} (h : vx_L C n d A U H) (hAB : ∀ q, B q → A q) : vx_L C n d B U H := by
  obtain ⟨c, k, i, f, a, cell, h1, h2, h3, h4, h5, h6, h7, h8, h9, h10⟩ := h
  exact ⟨c, k, i, f, a, cell, h1, h2, h3, h4, h5, h6, h7, h8, h9, fun z => h10 (hAB _ z)⟩
theorem vx_L.word {C n d : String} {A : Nat → Prop} {s : State} {args : Array Value} (h : vx_L C n d A s s.heap) : (Cond.laysStatic C n d).before args s = true := by
  obtain ⟨c, k, i, f, a, cell, h1, h2, h3, h4, h5, h6, h7, h8, h9, -⟩ := h
  show (Cond.laysStatic C n d).holds args s none s [] = true
  exact Cond.laysStatic_of h1 h2 h3 h4 h5 h6 h7 h8 h9
/-- .. and what it holds: null or some reference -/
def vx_Zq (C n d : String) (A : Nat → Prop) (U : State) (H : Heap) : Prop := va_Zq C n d A U H ∧ vx_L C n d A U H
theorem vx_Zq.moved {C n d : String} {A : Nat → Prop} {u U : State} {H : Heap} (hvm : u.vm.Alike U.vm) (h : vx_Zq C n d A u H) : vx_Zq C n d A U H := ⟨va_Zq.moved hvm h.1, vx_L.moved hvm h.2⟩
theorem vx_Zq.kept {C n d : String} {A : Nat → Prop} {U : State} {H H1 : Heap} (h : vx_Zq C n d A U H) (hq : ∀ a : Nat, a < H.size → ¬ A a → H1[a]? = H[a]?) : vx_Zq C n d A U H1 := ⟨va_Zq.kept h.1 hq, vx_L.kept h.2 hq⟩
theorem vx_Zq.narrow {C n d : String} {A B : Nat → Prop} {U : State} {H : Heap} (h : vx_Zq C n d A U H) (hAB : ∀ q, B q → A q) : vx_Zq C n d B U H := ⟨va_Zq.narrow h.1 hAB, vx_L.narrow h.2 hAB⟩
theorem vx_Zqof {args : Array Value} {s : State} {C n d : String} {A : Nat → Prop} (hl : (Cond.laysStatic C n d).before args s = true) (hini : (Cond.initialized C).before args s = true) (h : (Cond.isRef (.static C n d)).before args s = true) (hA : ∀ a : Nat, a < s.heap.size → ¬ A a) : vx_Zq C n d A s s.heap := by
  refine ⟨va_Zqof hl hini h hA, ?_⟩
  obtain ⟨c, k, i, f, a, cell, h1, h2, h3, h4, h5, h6, h7, h8, h9⟩ := Cond.laysStatic_spec hl
  exact ⟨c, k, i, f, a, cell, h1, h2, h3, h4, h5, h6, h7, h8, h9, hA a (Array.getElem?_eq_some_iff.mp h5).1⟩
theorem vx_isRef {C n d : String} {v : Value} {A : Nat → Prop} {s : State} {args : Array Value} (h : va_Z C n d v A s s.heap) (hv : v.isRef = true) : (Cond.isRef (.static C n d)).before args s = true := by
  obtain ⟨cf, kf, fi, f, a, cell, h1, h2, h3, h4, h5, h6, h7, -⟩ := h
  have he : (Term.static C n d).eval args s none [] s = some v := by
    simp [Term.eval, State.fieldNamed?, h1, h2, h4, h5, h6, h7]
  simp only [Cond.before, Cond.holds, Cond.value, he]
  cases v <;> simp_all [Value.isRef]
theorem vx_isRefq {C n d : String} {A : Nat → Prop} {s : State} {args : Array Value} (h : va_Zq C n d A s s.heap) : (Cond.isRef (.static C n d)).before args s = true := by
  rcases h with h | ⟨t, h⟩
  · exact vx_isRef h rfl
  · exact vx_isRef h rfl
/-- the same frame, seen from here: as if the method were called anew in this heap -/
theorem vx_rebase {T : State} (X : Stand p l e R s m args below meth c T locs cells slots) {R' : Room} (hf : R'.frames ≤ R.frames) (hl : R'.locals ≤ R.locals) (hc : cells + R'.cells ≤ R.cells) (hs : slots + R'.slots ≤ R.slots) :
    Stand p l e R' ((T.setVm s.vm).setFrames (.invoking m args :: below)) m args below meth c T [] 0 0 := by
  have htop : (T.setVm s.vm).topJava?.isSome := X.here.top
  have hF : ((T.setVm s.vm).setFrames (.invoking m args :: below)).frames = .invoking m args :: below := State.frames_setFrames _ (State.cur_lt_of_top htop)
  obtain ⟨g₀, hg0⟩ := Option.isSome_iff_exists.mp htop
  obtain ⟨r, hr⟩ := State.topJava?_eq_some.mp hg0
  have hl9 : e.platform.stackLimits (T.setVm s.vm).me = e.platform.stackLimits s.me := X.limits
  have hb9 : (T.setVm s.vm).me.stackBytes = s.me.stackBytes := X.bytes
  refine ⟨X.admits, X.cas, X.clock, hF, ?_, X.hears, X.method, X.code, X.here, X.tail, X.warmed, ?_, ?_, ?_⟩
  · have h := X.room
    have hU : ((T.setVm s.vm).setFrames (.invoking m args :: below)).localsInUse = s.localsInUse := by
      rw [State.localsInUse_invoking hF (meth := meth) (c := c) X.method X.code, State.localsInUse_invoking X.frames X.method X.code]
    simp only [State.hasRoom, Bool.and_eq_true, decide_eq_true_eq] at h ⊢
    obtain ⟨⟨⟨⟨h1, h2, h3, h4, h5, h6⟩, h7⟩, h8⟩, h9⟩ := h
    rw [X.frames, List.length_cons] at h2 h3
    have q1 := X.heapSize
    have q2 := X.used
    simp only [hF, hU, List.length_cons, State.stackLimits_setFrames, State.stackBytes_setFrames, hl9, hb9]
    refine ⟨⟨⟨⟨by omega, by omega, by omega, by omega, by omega, h6⟩, ?_⟩, ?_⟩, X.book⟩
    · show T.heap.size + R'.cells ≤ e.platform.maxCells
      omega
    · show T.slotsUsed + R'.slots ≤ e.platform.maxSlots
      omega
  · rw [State.stackLimits_setFrames]; rfl
  · rw [State.stackBytes_setFrames]; rfl
  · refine ⟨?_, Nat.le_refl _, Nat.le_refl _, ?_, ?_, fun a c9 h9 => ⟨c9, h9, rfl, rfl, fun _ _ => rfl⟩⟩
    · obtain ⟨t, ht, -⟩ := State.frames_cons hr
      show T.setVm s.vm = { ((T.setVm s.vm).setFrames (.invoking m args :: below)).setFrames (T.setVm s.vm).frames with heap := T.heap, slotsUsed := T.slotsUsed }
      rw [State.setFrames_setFrames, State.setFrames_self ht]
      rfl
    · show T.slotsUsed = T.slotsUsed + ((T.heap.toList.drop T.heap.size).map (·.slots.size)).sum
      rw [List.drop_eq_nil_of_le (Nat.le_of_eq Array.length_toList)]
      rfl
    · show ((T.heap.toList.drop T.heap.size).map (·.slots.size)).sum ≤ 0
      rw [List.drop_eq_nil_of_le (Nat.le_of_eq Array.length_toList)]
      exact Nat.le_refl _
/-- 'throw new E()': new; dup; invokespecial; athrow -/
theorem vx_throw0 {cc : ByteArray} {pc : Nat} (hexec : p.tables.exec = Jvm.exec) (hb : c.code = cc) (hl : l.stackTraces = false) {own cls : String} {names : List String} {ik ic mc ms : Nat} {A : Nat → Prop}
    (hown : s.vm.findClass own = some m.cls) (hcls : Bundle.fit cls = true) (hnames : ∀ n ∈ names, Bundle.fit n = true)
    (hk : (Cond.classLink own ik cls).before args s = true) (hini : (Cond.initialized cls).before args s = true) (hat : ∀ w ∈ vx_at0 own ic cls names, w.before args s = true)
    (hgood : ∀ w ∈ Cond.classLink own ik cls :: Cond.initialized cls :: vx_at0 own ic cls names, vx_ot w = true)
    (hU : vx_Zq Bundle.tN "UNASSIGNED_STACK" Bundle.steD A s s.heap) (hN : vx_Zq Bundle.tN "SUPPRESSED_SENTINEL" Bundle.listD A s s.heap) (hS : va_S A s.heap H locs) (hsize : ls.size = c.maxLocals)
    (d0 : decode cc pc = .ok (.new ik, 3)) (d3 : decode cc (pc + 3) = .ok (.dup, 1)) (d4 : decode cc (pc + 4) = .ok (.invokespecial ic, 3)) (d7 : decode cc (pc + 7) = .ok (.athrow, 1))
    (hout : ∀ x ∈ c.exceptionTable.toList, covers x (pc + 7) = false)
    (hRframes : names.length + 3 < R.frames) (hRlocals : (rest.map fun v => v.category).sum + (13 * (names.length + 1) + 42) ≤ R.locals) (hRcells : cells + 1 ≤ R.cells) (hRslots : slots + 6 ≤ R.slots) (hlocks : meth.locks = false)
    (hx : ∀ t : State, s.vm.Alike t.vm → H.size ≤ t.heap.size → (∀ q : Nat, q < H.size → t.heap[q]? = H[q]?) → XC cls s t)
    (hf : ∀ z ∈ locs, free z.base) (hc : cells + 1 ≤ mc) (hs : slots + 6 ≤ ms) :
    W p l e R s m args below meth c H locs cells slots (vx_MQ below Qc XC args s mc ms free) (F0 m pc ls rest) := by
  intro T hT X
  have htr : e.platform.stackTraces = false := (show e.platform.stackTraces = l.stackTraces by rw [X.admits.platform]).trans hl
  have Y := vx_rebase X (R' := { frames := R.frames, locals := R.locals, cells := 1, slots := 6 }) (Nat.le_refl _) (Nat.le_refl _) hRcells hRslots
  obtain ⟨s', hA⟩ : ∃ z, z = (T.setVm s.vm).setFrames (.invoking m args :: below) := ⟨_, rfl⟩
  rw [← hA] at Y
  have hvm : s'.vm = s.vm := by rw [hA]; rfl
  have hhp : s'.heap = H := by rw [hA]; exact hT
  have hW0 : s.WarmedH s'.vm := by rw [hvm]; exact State.WarmedH.refl s
  have hat' : ∀ w ∈ vx_at0 own ic cls names, w.before args s' = true := fun w hw => vx_ot_at hW0 hvm.symm (hgood w (List.mem_cons_of_mem _ (List.mem_cons_of_mem _ hw))) (hat w hw)
  have hk' : (Cond.classLink own ik cls).before args s' = true := vx_ot_at hW0 hvm.symm (hgood _ List.mem_cons_self) hk
  have hini' : (Cond.initialized cls).before args s' = true := vx_ot_at hW0 hvm.symm (hgood _ (List.mem_cons_of_mem _ List.mem_cons_self)) hini
  have hU' : vx_Zq Bundle.tN "UNASSIGNED_STACK" Bundle.steD A s' s'.heap := by rw [hhp]; exact vx_Zq.moved hW0.alike (hU.kept hS.2.1)
  have hN' : vx_Zq Bundle.tN "SUPPRESSED_SENTINEL" Bundle.listD A s' s'.heap := by rw [hhp]; exact vx_Zq.moved hW0.alike (hN.kept hS.2.1)
  have h : ∀ w ∈ Bundle.ownAtoms0 own ic cls names, w.before args s' = true := vx_own hat' (vx_isRefq hU'.1) (vx_isRefq hN'.1) hU'.2.word hN'.2.word
  have hown' : s'.vm.findClass own = some m.cls := by rw [hvm]; exact hown
  have hins : (Cond.instantiable cls 6).before args s' = true := h _ (by simp [Bundle.ownAtoms0])
  obtain ⟨vm₁, cX, kX, hfX, hkX, -, -, X₁, st1⟩ := Y.newCold hexec (own := own) (C := cls) (index := ik) (n := 6) hown' hk' hins hini'
    (g := F0 m pc ls rest) rfl (by rw [hb]; exact d0) (Nat.le_refl _) (Nat.le_refl _)
  generalize hT1 : (T.setVm vm₁).pushCell { cls := cX, slots := kX.instanceTypes.map defaultValue, vm := .none } = T1 at X₁ st1
  have hcat : (Value.ref T.heap.size).category = 1 := rfl
  have hcellA : T1.heap[T.heap.size]? = some (freshCell cX kX) := by rw [← hT1]; exact State.heap_pushCell_size _ _
  have d3' : decode c.code (pc + 3) = .ok (.dup, 1) := by rw [hb]; exact d3
  obtain ⟨U, hsteps, hrun, hend, hW, hsame, ce, hce, hO⟩ := X₁.ctorThrow0 hexec htr (own := own) (cls := cls) (names := names) (ic := ic) hown' hcls hnames h (fun x hx => nomatch hx) hfX hkX hcellA (by rw [hhp, hT]; exact Nat.le_refl _)
    (g := { method := m, pc := pc + 4, locals := ls, stack := .ref T.heap.size :: .ref T.heap.size :: rest, locked := none }) rfl hsize rfl rfl (rest := rest) rfl
    (by rw [hb]; exact d4) (by rw [hb]; exact d7) hout hRframes (by simp only [List.map_cons, List.sum_cons, hcat]; omega) hlocks
  obtain ⟨f1, f2⟩ := vx_frame hsame
  rw [hhp] at f1 f2
  have hWs : s.WarmedH U.vm := State.WarmedH.trans hW0 hW
  have hcl : s.vm.findClass cls = some ce.cls := by
    have h9 := hO.cls
    rw [hvm] at h9
    exact h9
  have hall : s.sameButNew ({ U with vm := s.vm } : State) locs mc ms := by
    subst hA
    obtain ⟨e1, e2⟩ := hsame
    rw [State.setFrames_setFrames] at e1
    have h2 : (T.setVm s.vm).sameButNew ({ U with vm := s.vm } : State) [] (0 + 1) (0 + 6) := ⟨e1, e2⟩
    have h3 := X.same.trans h2
    rw [List.append_nil] at h3
    exact h3.mono hc hs
  refine ⟨U, ?_, .threw T.heap.size, hrun, hend, Or.inr ⟨T.heap.size, rfl, cls, ce, locs, hx U hWs.alike f1 (fun q hq => f2 q hq (fun z hz => nomatch hz)), hce, hO.vm, hcl, hWs, hall, hf⟩⟩
  refine st1 _ ?_
  show Steps p.tables e below (T1.setTop { method := m, pc := pc + 3, locals := ls, stack := .ref T.heap.size :: rest, locked := none }) _
  jvm_step X₁.here [X₁.here.top, hexec, d3', Value.category]
  exact hsteps
/-- 'throw new E("text")': new; dup; ldc; invokespecial; athrow -/
theorem vx_throwS {cc : ByteArray} {pc : Nat} (hexec : p.tables.exec = Jvm.exec) (hb : c.code = cc) (hl : l.stackTraces = false) {own cls text : String} {names : List String} {ik is ic mc ms sa : Nat} {A : Nat → Prop}
    (hown : s.vm.findClass own = some m.cls) (hcls : Bundle.fit cls = true) (hnames : ∀ n ∈ names, Bundle.fit n = true)
    (hk : (Cond.classLink own ik cls).before args s = true) (hini : (Cond.initialized cls).before args s = true) (hstr : vk_R own is text sa s) (hat : ∀ w ∈ vx_atS own ic cls names, w.before args s = true)
    (hgood : ∀ w ∈ Cond.classLink own ik cls :: Cond.initialized cls :: vx_atS own ic cls names, vx_ot w = true)
    (hU : vx_Zq Bundle.tN "UNASSIGNED_STACK" Bundle.steD A s s.heap) (hN : vx_Zq Bundle.tN "SUPPRESSED_SENTINEL" Bundle.listD A s s.heap) (hS : va_S A s.heap H locs) (hsize : ls.size = c.maxLocals)
    (d0 : decode cc pc = .ok (.new ik, 3)) (d3 : decode cc (pc + 3) = .ok (.dup, 1)) (d4 : decode cc (pc + 4) = .ok (.ldc is, 2)) (d6 : decode cc (pc + 6) = .ok (.invokespecial ic, 3)) (d9 : decode cc (pc + 9) = .ok (.athrow, 1))
    (hout : ∀ x ∈ c.exceptionTable.toList, covers x (pc + 9) = false)
    (hRframes : names.length + 3 < R.frames) (hRlocals : (rest.map fun v => v.category).sum + (13 * (names.length + 1) + 43) ≤ R.locals) (hRcells : cells + 1 ≤ R.cells) (hRslots : slots + 6 ≤ R.slots) (hlocks : meth.locks = false)
    (hx : ∀ t : State, s.vm.Alike t.vm → H.size ≤ t.heap.size → (∀ q : Nat, q < H.size → t.heap[q]? = H[q]?) → XC cls s t)
    (hf : ∀ z ∈ locs, free z.base) (hc : cells + 1 ≤ mc) (hs : slots + 6 ≤ ms) :
    W p l e R s m args below meth c H locs cells slots (vx_MQ below Qc XC args s mc ms free) (F0 m pc ls rest) := by
  intro T hT X
  have htr : e.platform.stackTraces = false := (show e.platform.stackTraces = l.stackTraces by rw [X.admits.platform]).trans hl
  have Y := vx_rebase X (R' := { frames := R.frames, locals := R.locals, cells := 1, slots := 6 }) (Nat.le_refl _) (Nat.le_refl _) hRcells hRslots
  obtain ⟨s', hA⟩ : ∃ z, z = (T.setVm s.vm).setFrames (.invoking m args :: below) := ⟨_, rfl⟩
  rw [← hA] at Y
  have hvm : s'.vm = s.vm := by rw [hA]; rfl
  have hhp : s'.heap = H := by rw [hA]; exact hT
  have hW0 : s.WarmedH s'.vm := by rw [hvm]; exact State.WarmedH.refl s
  have hat' : ∀ w ∈ vx_atS own ic cls names, w.before args s' = true := fun w hw => vx_ot_at hW0 hvm.symm (hgood w (List.mem_cons_of_mem _ (List.mem_cons_of_mem _ hw))) (hat w hw)
  have hk' : (Cond.classLink own ik cls).before args s' = true := vx_ot_at hW0 hvm.symm (hgood _ List.mem_cons_self) hk
  have hini' : (Cond.initialized cls).before args s' = true := vx_ot_at hW0 hvm.symm (hgood _ (List.mem_cons_of_mem _ List.mem_cons_self)) hini
  have hU' : vx_Zq Bundle.tN "UNASSIGNED_STACK" Bundle.steD A s' s'.heap := by rw [hhp]; exact vx_Zq.moved hW0.alike (hU.kept hS.2.1)
  have hN' : vx_Zq Bundle.tN "SUPPRESSED_SENTINEL" Bundle.listD A s' s'.heap := by rw [hhp]; exact vx_Zq.moved hW0.alike (hN.kept hS.2.1)
  have h : ∀ w ∈ Bundle.ownAtoms own ic cls names, w.before args s' = true := vx_own hat' (vx_isRefq hU'.1) (vx_isRefq hN'.1) hU'.2.word hN'.2.word
  have hown' : s'.vm.findClass own = some m.cls := by rw [hvm]; exact hown
  have hins : (Cond.instantiable cls 6).before args s' = true := h _ (by simp [Bundle.ownAtoms])
  obtain ⟨vm₁, cX, kX, hfX, hkX, -, -, X₁, st1⟩ := Y.newCold hexec (own := own) (C := cls) (index := ik) (n := 6) hown' hk' hins hini'
    (g := F0 m pc ls rest) rfl (by rw [hb]; exact d0) (Nat.le_refl _) (Nat.le_refl _)
  generalize hT1 : (T.setVm vm₁).pushCell { cls := cX, slots := kX.instanceTypes.map defaultValue, vm := .none } = T1 at X₁ st1
  have hcat : (Value.ref T.heap.size).category = 1 := rfl
  have hcellA : T1.heap[T.heap.size]? = some (freshCell cX kX) := by rw [← hT1]; exact State.heap_pushCell_size _ _
  have d3' : decode c.code (pc + 3) = .ok (.dup, 1) := by rw [hb]; exact d3
  have d4' : decode c.code (pc + 4) = .ok (.ldc is, 2) := by rw [hb]; exact d4
  have hstr' : vk_R own is text sa s' := vk_R.warm hW0 hstr
  obtain ⟨U, hsteps, hrun, hend, hW, hsame, ce, hce, hO⟩ := X₁.ctorThrowS hexec htr (own := own) (cls := cls) (names := names) (ic := ic) hown' hcls hnames h (fun x hx => nomatch hx) hfX hkX hcellA (by rw [hhp, hT]; exact Nat.le_refl _) (msg := .ref sa) rfl
    (g := { method := m, pc := pc + 6, locals := ls, stack := .ref sa :: .ref T.heap.size :: .ref T.heap.size :: rest, locked := none }) rfl hsize rfl rfl (rest := rest) rfl
    (by rw [hb]; exact d6) (by rw [hb]; exact d9) hout hRframes (by simp only [List.map_cons, List.sum_cons, hcat]; omega) hlocks
  obtain ⟨f1, f2⟩ := vx_frame hsame
  rw [hhp] at f1 f2
  have hWs : s.WarmedH U.vm := State.WarmedH.trans hW0 hW
  have hcl : s.vm.findClass cls = some ce.cls := by
    have h9 := hO.cls
    rw [hvm] at h9
    exact h9
  have hall : s.sameButNew ({ U with vm := s.vm } : State) locs mc ms := by
    subst hA
    obtain ⟨e1, e2⟩ := hsame
    rw [State.setFrames_setFrames] at e1
    have h2 : (T.setVm s.vm).sameButNew ({ U with vm := s.vm } : State) [] (0 + 1) (0 + 6) := ⟨e1, e2⟩
    have h3 := X.same.trans h2
    rw [List.append_nil] at h3
    exact h3.mono hc hs
  refine ⟨U, ?_, .threw T.heap.size, hrun, hend, Or.inr ⟨T.heap.size, rfl, cls, ce, locs, hx U hWs.alike f1 (fun q hq => f2 q hq (fun z hz => nomatch hz)), hce, hO.vm, hcl, hWs, hall, hf⟩⟩
  refine st1 _ ?_
  show Steps p.tables e below (T1.setTop { method := m, pc := pc + 3, locals := ls, stack := .ref T.heap.size :: rest, locked := none }) _
  jvm_step X₁.here [X₁.here.top, hexec, d3', Value.category]
  exact X₁.ldcString hexec (own := own) (text := text) (index := is) (a := sa) hown' hstr'.1 hstr'.2
    (g := { method := m, pc := pc + 4, locals := ls, stack := .ref T.heap.size :: .ref T.heap.size :: rest, locked := none }) rfl d4' _ hsteps
/-- 'throw new E("text")', the text by a wide index -/
theorem vx_throwSW {cc : ByteArray} {pc : Nat} (hexec : p.tables.exec = Jvm.exec) (hb : c.code = cc) (hl : l.stackTraces = false) {own cls text : String} {names : List String} {ik is ic mc ms sa : Nat} {A : Nat → Prop}
    (hown : s.vm.findClass own = some m.cls) (hcls : Bundle.fit cls = true) (hnames : ∀ n ∈ names, Bundle.fit n = true)
    (hk : (Cond.classLink own ik cls).before args s = true) (hini : (Cond.initialized cls).before args s = true) (hstr : vk_R own is text sa s) (hat : ∀ w ∈ vx_atS own ic cls names, w.before args s = true)
    (hgood : ∀ w ∈ Cond.classLink own ik cls :: Cond.initialized cls :: vx_atS own ic cls names, vx_ot w = true)
    (hU : vx_Zq Bundle.tN "UNASSIGNED_STACK" Bundle.steD A s s.heap) (hN : vx_Zq Bundle.tN "SUPPRESSED_SENTINEL" Bundle.listD A s s.heap) (hS : va_S A s.heap H locs) (hsize : ls.size = c.maxLocals)
    (d0 : decode cc pc = .ok (.new ik, 3)) (d3 : decode cc (pc + 3) = .ok (.dup, 1)) (d4 : decode cc (pc + 4) = .ok (.ldc_w is, 3)) (d7 : decode cc (pc + 7) = .ok (.invokespecial ic, 3)) (d10 : decode cc (pc + 10) = .ok (.athrow, 1))
    (hout : ∀ x ∈ c.exceptionTable.toList, covers x (pc + 10) = false)
    (hRframes : names.length + 3 < R.frames) (hRlocals : (rest.map fun v => v.category).sum + (13 * (names.length + 1) + 43) ≤ R.locals) (hRcells : cells + 1 ≤ R.cells) (hRslots : slots + 6 ≤ R.slots) (hlocks : meth.locks = false)
    (hx : ∀ t : State, s.vm.Alike t.vm → H.size ≤ t.heap.size → (∀ q : Nat, q < H.size → t.heap[q]? = H[q]?) → XC cls s t)
    (hf : ∀ z ∈ locs, free z.base) (hc : cells + 1 ≤ mc) (hs : slots + 6 ≤ ms) :
    W p l e R s m args below meth c H locs cells slots (vx_MQ below Qc XC args s mc ms free) (F0 m pc ls rest) := by
  intro T hT X
  have htr : e.platform.stackTraces = false := (show e.platform.stackTraces = l.stackTraces by rw [X.admits.platform]).trans hl
  have Y := vx_rebase X (R' := { frames := R.frames, locals := R.locals, cells := 1, slots := 6 }) (Nat.le_refl _) (Nat.le_refl _) hRcells hRslots
  obtain ⟨s', hA⟩ : ∃ z, z = (T.setVm s.vm).setFrames (.invoking m args :: below) := ⟨_, rfl⟩
  rw [← hA] at Y
  have hvm : s'.vm = s.vm := by rw [hA]; rfl
  have hhp : s'.heap = H := by rw [hA]; exact hT
  have hW0 : s.WarmedH s'.vm := by rw [hvm]; exact State.WarmedH.refl s
  have hat' : ∀ w ∈ vx_atS own ic cls names, w.before args s' = true := fun w hw => vx_ot_at hW0 hvm.symm (hgood w (List.mem_cons_of_mem _ (List.mem_cons_of_mem _ hw))) (hat w hw)
  have hk' : (Cond.classLink own ik cls).before args s' = true := vx_ot_at hW0 hvm.symm (hgood _ List.mem_cons_self) hk
  have hini' : (Cond.initialized cls).before args s' = true := vx_ot_at hW0 hvm.symm (hgood _ (List.mem_cons_of_mem _ List.mem_cons_self)) hini
  have hU' : vx_Zq Bundle.tN "UNASSIGNED_STACK" Bundle.steD A s' s'.heap := by rw [hhp]; exact vx_Zq.moved hW0.alike (hU.kept hS.2.1)
  have hN' : vx_Zq Bundle.tN "SUPPRESSED_SENTINEL" Bundle.listD A s' s'.heap := by rw [hhp]; exact vx_Zq.moved hW0.alike (hN.kept hS.2.1)
  have h : ∀ w ∈ Bundle.ownAtoms own ic cls names, w.before args s' = true := vx_own hat' (vx_isRefq hU'.1) (vx_isRefq hN'.1) hU'.2.word hN'.2.word
  have hown' : s'.vm.findClass own = some m.cls := by rw [hvm]; exact hown
  have hins : (Cond.instantiable cls 6).before args s' = true := h _ (by simp [Bundle.ownAtoms])
  obtain ⟨vm₁, cX, kX, hfX, hkX, -, -, X₁, st1⟩ := Y.newCold hexec (own := own) (C := cls) (index := ik) (n := 6) hown' hk' hins hini'
    (g := F0 m pc ls rest) rfl (by rw [hb]; exact d0) (Nat.le_refl _) (Nat.le_refl _)
  generalize hT1 : (T.setVm vm₁).pushCell { cls := cX, slots := kX.instanceTypes.map defaultValue, vm := .none } = T1 at X₁ st1
  have hcat : (Value.ref T.heap.size).category = 1 := rfl
  have hcellA : T1.heap[T.heap.size]? = some (freshCell cX kX) := by rw [← hT1]; exact State.heap_pushCell_size _ _
  have d3' : decode c.code (pc + 3) = .ok (.dup, 1) := by rw [hb]; exact d3
  have d4' : decode c.code (pc + 4) = .ok (.ldc_w is, 3) := by rw [hb]; exact d4
  have hstr' : vk_R own is text sa s' := vk_R.warm hW0 hstr
  obtain ⟨U, hsteps, hrun, hend, hW, hsame, ce, hce, hO⟩ := X₁.ctorThrowS hexec htr (own := own) (cls := cls) (names := names) (ic := ic) hown' hcls hnames h (fun x hx => nomatch hx) hfX hkX hcellA (by rw [hhp, hT]; exact Nat.le_refl _) (msg := .ref sa) rfl
    (g := { method := m, pc := pc + 7, locals := ls, stack := .ref sa :: .ref T.heap.size :: .ref T.heap.size :: rest, locked := none }) rfl hsize rfl rfl (rest := rest) rfl
    (by rw [hb]; exact d7) (by rw [hb]; exact d10) hout hRframes (by simp only [List.map_cons, List.sum_cons, hcat]; omega) hlocks
  obtain ⟨f1, f2⟩ := vx_frame hsame
  rw [hhp] at f1 f2
  have hWs : s.WarmedH U.vm := State.WarmedH.trans hW0 hW
  have hcl : s.vm.findClass cls = some ce.cls := by
    have h9 := hO.cls
    rw [hvm] at h9
    exact h9
  have hall : s.sameButNew ({ U with vm := s.vm } : State) locs mc ms := by
    subst hA
    obtain ⟨e1, e2⟩ := hsame
    rw [State.setFrames_setFrames] at e1
    have h2 : (T.setVm s.vm).sameButNew ({ U with vm := s.vm } : State) [] (0 + 1) (0 + 6) := ⟨e1, e2⟩
    have h3 := X.same.trans h2
    rw [List.append_nil] at h3
    exact h3.mono hc hs
  refine ⟨U, ?_, .threw T.heap.size, hrun, hend, Or.inr ⟨T.heap.size, rfl, cls, ce, locs, hx U hWs.alike f1 (fun q hq => f2 q hq (fun z hz => nomatch hz)), hce, hO.vm, hcl, hWs, hall, hf⟩⟩
  refine st1 _ ?_
  show Steps p.tables e below (T1.setTop { method := m, pc := pc + 3, locals := ls, stack := .ref T.heap.size :: rest, locked := none }) _
  jvm_step X₁.here [X₁.here.top, hexec, d3', Value.category]
  exact X₁.ldcStringW hexec (own := own) (text := text) (index := is) (a := sa) hown' hstr'.1 hstr'.2
    (g := { method := m, pc := pc + 4, locals := ls, stack := .ref T.heap.size :: .ref T.heap.size :: rest, locked := none }) rfl d4' _ hsteps
end Ends
section Bodies
variable {l : Launch}
theorem vx_ofW {y : MethodName} {ws ws' : List Cond} {rm : Room} {Pc : Array Value → State → Prop} {Qc : Array Value → State → Outcome → State → Prop} {XC : String → State → State → Prop} {mc ms : Nat} {free : Addr → Prop} {cc : ByteArray} {maxL : Nat} {ret : Option FieldType}
    (hy : plainName y.cls = true) (hw : ws = Cond.code y cc maxL ret :: ws')
    (body : ∀ p e s m args below meth c s₁, BodyLoose p l y (headSpec ws rm) cc maxL ret e s m args below meth c s₁ → c.maxLocals = maxL → (∀ x ∈ c.exceptionTable.toList, False) → Pc args s →
      W p l e (headSpec ws rm).room s m args below meth c s.heap [] 0 0 (vx_MQ below Qc XC args s mc ms free) (entryFrame m args maxL)) : vx_Met l y ws rm Pc Qc XC mc ms free := by
  refine MetFree.of_bodyS (code := cc) (maxLocals := maxL) (ret := ret) hy ?_ ?_
  · intro args s m h hn
    obtain ⟨meth, c, h1, h2, h3, h4, h5, h6, -, -⟩ := Cond.code_spec hn (atoms_spec (ws := ws) h _ (by rw [hw]; exact List.mem_cons_self))
    exact ⟨meth, c, h1, h2, h3, h4, h5, h6⟩
  · intro p e s m args below meth c s₁ B hml hP _
    have hh0 : s₁.heap = s.heap := by rw [B.state]; rfl
    have ht : ∀ x ∈ c.exceptionTable.toList, False := by
      obtain ⟨meth9, c9, h1, h2, -, -, -, -, h7, -⟩ := Cond.code_spec B.named (atoms_spec (ws := ws) B.pre _ (by rw [hw]; exact List.mem_cons_self))
      cases Option.some.inj (h1.symm.trans B.method)
      cases Option.some.inj (h2.symm.trans (Stand.of_body B).code)
      intro x hx
      rw [Array.isEmpty_iff.mp h7] at hx
      cases hx
    obtain ⟨t, a1, o, b1, b2, b3⟩ := body p e s m args below meth c s₁ B hml ht hP s₁ hh0 (Stand.of_body B)
    exact ⟨t, o, a1, b1, b2, b3⟩
/-- the table of a body with handlers -/
theorem vx_table {p : Program} {x y : MethodName} {S : Spec} {cc bytes : ByteArray} {maxL maxL' : Nat} {ret ret' : Option FieldType} {e : Env} {s s₁ : State} {m : MethodId} {args : Array Value} {below : List Frame} {meth : Method} {c : Code} {hh : List (Nat × Nat × Nat × Nat)}
    (B : BodyLoose p l y S cc maxL ret e s m args below meth c s₁) (h : (Cond.codeWith y bytes maxL' ret' hh).before args s = true) : c.exceptionTable.toList = tableOf hh := by
  obtain ⟨m9, meth9, c9, hn9, h1, h2, -, -, h6, -⟩ := Cond.codeWith_spec h
  cases Option.some.inj (hn9.symm.trans B.named)
  cases Option.some.inj (h1.symm.trans B.method)
  cases Option.some.inj (h2.symm.trans (Stand.of_body B).code)
  rw [← h6, table_eq]
end Bodies
end VXA
/-! ===== END ===== -/
/-! ===== BEGIN a static call of a method with an exception table ===== -/
section VXS
variable {p : Program} {l : Launch} {e : Env} {R : Room} {s : State} {m : MethodId} {args : Array Value} {below : List Frame} {meth : Method} {c : Code} {T : State} {H : Heap} {locs : List Loc} {cells slots : Nat}
abbrev vx_CSW (R : Room) (s : State) (args : Array Value) (own : String) (index : Nat) (y : MethodName) (bytes : ByteArray) (maxL : Nat) (ret : Option FieldType) (hh : List (Nat × Nat × Nat × Nat)) (ws : List Cond) (rm : Room) (mc ms n : Nat) : Prop :=
  (rm.cells = mc ∧ rm.slots = ms ∧ rm.frames + 1 ≤ R.frames ∧ 8 + (maxL + 11) + rm.locals ≤ R.locals ∧ (∀ w ∈ ws, ∀ (a' : Array Value) (U : State), s.WarmedH U.vm → w.before a' U = true) ∧ Cond.codeWith y bytes maxL ret hh ∈ ws) ∧
  (Cond.codeWith y bytes maxL ret hh).before args s = true ∧ (Cond.initialized y.cls).before args s = true ∧ (y.cls ≠ "java/lang/invoke/MethodHandle" ∧ y.cls ≠ "java/lang/invoke/VarHandle") ∧
  (∀ sig, parseMethodDescriptor y.desc = some sig → n = sig.parameters.length) ∧ (Cond.methodLink own index y).before args s = true ∧ (Cond.static y).before args s = true
theorem vx_cwSW {own : String} {index maxL mc ms : Nat} {y : MethodName} {bytes : ByteArray} {ret : Option FieldType} {hh : List (Nat × Nat × Nat × Nat)} {Ts ws ws' : List Cond} {rm : Room} (n : Nat) (ht : ∀ w ∈ Ts, w.before args s = true) (hT : GoodIn Ts (va_wsS own index y ws)) (hw : ws = Cond.codeWith y bytes maxL ret hh :: ws') (hrc : rm.cells = mc) (hrs : rm.slots = ms)
    (hd : y.cls ≠ "java/lang/invoke/MethodHandle" ∧ y.cls ≠ "java/lang/invoke/VarHandle" ∧ (parseMethodDescriptor y.desc).map (fun d => d.parameters.length) = some n) (hR : rm.frames + 1 ≤ R.frames ∧ 8 + (maxL + 11) + rm.locals ≤ R.locals) :
    vx_CSW R s args own index y bytes maxL ret hh ws rm mc ms n := by
  have ok : ∀ w ∈ va_wsS own index y ws, w.before args s = true := fun w h => ht w (hT w h).1
  have hG : GoodIn Ts ws := fun w h => hT w (by unfold va_wsS; exact List.mem_append_right _ h)
  have hc : Cond.codeWith y bytes maxL ret hh ∈ ws := by rw [hw]; exact List.mem_cons_self
  refine ⟨⟨hrc, hrs, hR.1, hR.2, pay_in ht hG, hc⟩, ht _ (hG _ hc).1, ok _ (by simp [va_wsS]), ⟨hd.1, hd.2.1⟩, fun sig h => ?_, ok _ (by simp [va_wsS]), ok _ (by simp [va_wsS])⟩
  have h2 := hd.2.2
  rw [h] at h2
  exact (Option.some.inj h2).symm
theorem vx_callSW (X : Stand p l e R s m args below meth c T locs cells slots) (hexec : p.tables.exec = Jvm.exec) {own : String} {index : Nat} {y : MethodName} {bytes : ByteArray} {maxL : Nat} {ret : Option FieldType} {hh : List (Nat × Nat × Nat × Nat)}
    (hown : s.vm.findClass own = some m.cls) (hlink : (Cond.methodLink own index y).before args s = true) (hstat : (Cond.static y).before args s = true) (hinit : (Cond.initialized y.cls).before args s = true)
    (hcode : (Cond.codeWith y bytes maxL ret hh).before args s = true) (hy : y.cls ≠ "java/lang/invoke/MethodHandle" ∧ y.cls ≠ "java/lang/invoke/VarHandle")
    {W9 : Nat} {Pre : Pt → Array Value → Prop} {Post : Pt → Array Value → Option Value → Pt → Prop} (hK : Back l R p e below s args y 3 W9 Pre Post)
    {g : JFrame} (hg : g.method = m) (hsize : g.locals.size = c.maxLocals) {argsL rest : List Value} (hlen : ∀ sig, parseMethodDescriptor y.desc = some sig → argsL.length = sig.parameters.length)
    (hstack : g.stack = argsL.reverse ++ rest) (hW : 2 * g.monitorRoom + (rest.map fun v => v.category).sum ≤ W9) (hdg : decode c.code g.pc = .ok (.invokestatic index, 3))
    (hpre : ∀ vm₁, s.WarmedH vm₁ → Pre ⟨T.setVm vm₁, locs, cells, slots⟩ argsL.toArray) :
    ∃ (v : Option Value) (vm₁ : Vm) (B : Pt), s.WarmedH vm₁ ∧ Stand p l e R s m args below meth c B.U B.locs B.cells B.slots ∧ Post ⟨T.setVm vm₁, locs, cells, slots⟩ argsL.toArray v B ∧
      ∀ target, Steps p.tables e below (B.U.setTop { g with pc := g.pc + 3, stack := v.toList ++ rest }) target → Steps p.tables e below (T.setTop g) target := by
  obtain ⟨mk, methM, cM, hnamed, hmethM, -, -, -, -, -, -, hsigM⟩ := Cond.codeWith_spec hcode
  have hstatic : methM.isStatic = true := Cond.static_spec hnamed hmethM hstat
  obtain ⟨kP, hkP, -⟩ := className_of_methodNamed hnamed
  have hinitP : kP.init = .initialized := Cond.initialized_spec (findClass_of_methodNamed hnamed) hkP hinit
  obtain ⟨vm₁, X₁, hstep₁⟩ := X.invokestatic hexec hown hlink hnamed hmethM hstatic hkP hinitP hy (g := g) hg (argsL := argsL) (rest := rest) (hlen _ hsigM) hstack hdg
  obtain ⟨v, B, X', hpost, hsteps⟩ := hK m meth c ⟨T.setVm vm₁, locs, cells, slots⟩ { g with stack := rest } (.invokestatic index) mk argsL.toArray X₁ hg hsize hdg hW (X₁.named hnamed) (hpre vm₁ X₁.warmed)
  exact ⟨v, vm₁, B, X₁.warmed, X', hpost, fun target h => hstep₁ _ fun acts => by rw [doInvoke_state]; exact hsteps.trans h⟩
theorem vx_runSW {y : MethodName} {bytes cc : ByteArray} {maxL nL mc ms n index : Nat} {ret : Option FieldType} {hh : List (Nat × Nat × Nat × Nat)} {ws : List Cond} {rm : Room} {Pc : Array Value → State → Prop} {Qc : Array Value → State → Outcome → State → Prop} {free : Addr → Prop} {Ts : List Cond} {own : String} {As rest : List Value} {g : JFrame}
    (S : CallFix p m c cc nL s args Ts own) (hM : Met l y ws rm Pc Qc mc ms free) (cw : vx_CSW R s args own index y bytes maxL ret hh ws rm mc ms n) (hp : PreS s H Pc As)
    (hg : g.method = m) (hn : As.length = n) (hsize : g.locals.size = nL) (hstack : g.stack = As.reverse ++ rest) (hW : 2 * g.monitorRoom + (rest.map fun v => v.category).sum ≤ 8) (hdg : decode cc g.pc = .ok (.invokestatic index, 3)) (hf : cells + mc ≤ R.cells ∧ slots + ms ≤ R.slots) :
    va_Run p l e R s m args below meth c H locs cells slots mc ms g rest (Qc As.toArray) (free) := by
  obtain ⟨⟨hrc, hrs, hfr, hlo, hws, hcw⟩, hcode, hini, hy, hlen, hl, hstt⟩ := cw
  have hK : Back l R p e below s args y 3 8 (PreOf R mc ms Pc) (PostOf Qc mc ms free) := va_backW (hh := hh) (bytes := bytes) (maxL := maxL) (ret := ret) hM hp.1 hrc hrs hfr hlo hws hcw (fun a' U hW => word_at hW (Or.inl (by first | rfl | simp [Cond.onTables, Cond.keeps, Cond.steady])) hini)
  obtain ⟨hx, hb, hml, ho, -⟩ := S
  intro T hT X
  obtain ⟨v, vm₁, ⟨U', l2, c2, s2⟩, hW₁, X', ⟨g', mk, t, L, e1, e2, hq, h1, hL, h2, h3⟩, st⟩ := vx_callSW X hx (hh := hh) (bytes := bytes) (maxL := maxL) (ret := ret) ho hl hstt hini hcode hy hK hg (hsize.trans hml.symm) (argsL := As) (rest := rest) (fun sig h => hn.trans (hlen sig h)) hstack hW (by rw [hb]; exact hdg)
    (fun vm₁ hW₁ => ⟨hf.1, hf.2, hp.2 (T.setVm vm₁) hT hW₁⟩)
  dsimp only [Pt.U, Pt.locs, Pt.cells, Pt.slots] at X' e1 e2 h1 h2 h3 st
  subst h1; subst h2; subst h3
  exact ⟨v, (T.setVm vm₁).calling g' mk As.toArray, t, U', L, hT, X', hL, e1, e2, hq, st⟩
/-- not caught here, past rows that name other classes: it goes on to the caller -/
theorem vx_outP {p : Program} {l : Launch} {e : Env} {R : Room} {s : State} {m : MethodId} {args : Array Value} {below : List Frame} {meth : Method} {c : Code} {H : Heap} {locs : List Loc} {cells slots : Nat} {free : Addr → Prop} {ls : Array Slot} {rest : List Value} {Qc : Array Value → State → Outcome → State → Prop} {XC : String → State → State → Prop}
    {pc : Nat} {own E : String} {ce : Cell} {q : Addr} {mc ms : Nat} (hown : s.vm.findClass own = some m.cls) (hlocks : meth.locks = false)
    (hpass : ∀ z ∈ c.exceptionTable.toList, covers z pc = false ∨ (z.catchType ≠ 0 ∧ ∃ nm : String, (Cond.classLink own z.catchType nm).before args s = true ∧ va_Nc E nm s)) (hcell : H[q]? = some ce) (hv : ce.vm = .none) (hcl : s.vm.findClass E = some ce.cls)
    (hx : ∀ t : State, t.heap = H → s.vm.Alike t.vm → XC E s t) (hf : ∀ z ∈ locs, free z.base) (hc : cells ≤ mc) (hs : slots ≤ ms) :
    vx_W p l e R s m args below meth c H locs cells slots (vx_MQ below Qc XC args s mc ms free) (F0 m pc ls rest) q := by
  intro T hT X
  have hpl : e.platform.magicAccessors = ({} : Platform).magicAccessors := by rw [X.admits.platform]
  obtain ⟨vm', hW', X', st⟩ := X.outThrough hlocks q (g := F0 m pc ls rest) rfl rfl rfl (cell := ce) (by rw [hT]; exact hcell) (by rw [hv]; rfl)
    (by obtain ⟨k9, h9, -⟩ := Vm.findClass_spec hcl; exact ⟨k9, h9⟩) (fun z hz => by
      rcases hpass z hz with h | ⟨hz0, nm, hl1, hn1⟩
      · exact Or.inl h
      · obtain ⟨c6, hc6, hcl6⟩ := Cond.classLink_spec hown hl1 e.platform hpl
        obtain ⟨a8, b8, h1, h2, h3⟩ := hn1
        cases Option.some.inj (h1.symm.trans hcl)
        cases Option.some.inj (h2.symm.trans hc6)
        exact Or.inr ⟨hz0, _, hcl6, h3⟩)
  obtain ⟨g₀, hfr⟩ := X'.frames_eq
  have hcell9 : ((T.setVm vm').setFrames (.throwing q :: below)).heap[q]? = some ce := by
    show T.heap[q]? = some ce
    rw [hT]; exact hcell
  have hend : Ended ((T.setVm vm').setFrames (.throwing q :: below)) below (.threw q) := State.frames_setFrames _ (State.cur_lt_of_frames hfr)
  refine ⟨(T.setVm vm').setFrames (.throwing q :: below), ?_, .threw q, X'.here.running, hend, Or.inr ⟨q, rfl, E, ce, locs, hx _ hT (X'.ends _).1.alike, hcell9, hv, hcl, (X'.ends _).1, (X'.ends _).2.mono hc hs, hf⟩⟩
  rw [X.pushThrowing_eq]
  exact st
/-- a thing of a world lies in the heap -/
theorem vx_lt {D : va_G} {cl : List vw_C} {ws : va_W} {H1 : Heap} (h : va_P D cl ws H1) {k : Nat} {q : Nat × va_E} (hk : ws[k]? = some q) : q.1 < H1.size := (h k q hk).lt
end VXS
/-! ===== END ===== -/
/-! ===== BEGIN methods with a table of their own: called by a name, returning or throwing ===== -/
section VXH
/-! vx_backW, vx_callVX, vx_callSX, vx_callVW, vx_runVW, vx_runVX, vx_runSX, vx_ofWH follow the same proofs as their sisters above (Free/Laws.lean, Shelf42/LK1.lean); vx_outP calls Shelf42/NT130.lean (outThrough). -/
section
variable {l : Launch} {R : Room} {p : Program} {e : Env} {below : List Frame} {s : State} {sargs : Array Value} {y : MethodName} {len W9 : Nat}
theorem vx_backW {ws : List Cond} {rm : Room} {Pc : Array Value → State → Prop} {Qc : Array Value → State → Outcome → State → Prop} {XC : String → State → State → Prop} {mc ms : Nat} {free : Addr → Prop} {bytes : ByteArray} {maxL : Nat} {ret : Option FieldType} {hh : List (Nat × Nat × Nat × Nat)}
    (hM : vx_Met l y ws rm Pc Qc XC mc ms free) (hblind : FrameBlind Pc) (hrc : rm.cells = mc) (hrs : rm.slots = ms)
    (hframes : rm.frames + 1 ≤ R.frames) (hlocals : W9 + (maxL + 11) + rm.locals ≤ R.locals)
    (hws : ∀ w ∈ ws, ∀ a' U, s.WarmedH U.vm → w.before a' U = true) (hcode : Cond.codeWith y bytes maxL ret hh ∈ ws) (hinit : ∀ a' U, s.WarmedH U.vm → (Cond.initialized y.cls).before a' U = true) :
    vx_Back l R p e below s sargs y len W9 (PreOf R mc ms Pc) (PostOf Qc mc ms free) (vx_Post XC mc ms free) := by
  intro m meth c A g ig mk a X hg hsize hdg hW hn hp
  have h1 : (headSpec ws rm).pre.before a A.U = true := atoms_intro fun w hw => hws w hw _ _ X.warmed
  have h2 : (Cond.codeWith y bytes maxL ret hh).before a A.U = true := hws _ hcode _ _ X.warmed
  have h3 : (Cond.initialized y.cls).before a A.U = true := hinit _ _ X.warmed
  have h4 : A.cells + (headSpec ws rm).room.cells ≤ R.cells := by rw [show (headSpec ws rm).room.cells = mc from hrc]; exact hp.1
  have h5 : A.slots + (headSpec ws rm).room.slots ≤ R.slots := by rw [show (headSpec ws rm).room.slots = ms from hrs]; exact hp.2.1
  have hPc : Pc a (A.U.calling g mk a) := hblind _ _ _ _ hp.2.2
  obtain ⟨U, Ls, c0, s0⟩ := A
  dsimp only [Pt.U, Pt.locs, Pt.cells, Pt.slots] at h1 h2 h3 h4 h5 X hn hPc ⊢
  obtain ⟨m9, methY, cY, hn9, hmY, hcY, -, hlY, -⟩ := Cond.codeWith_spec h2
  cases Option.some.inj (hn9.symm.trans hn)
  obtain ⟨kY, hkY, -⟩ := className_of_methodNamed hn
  have hinitY : kY.init = .initialized := Cond.initialized_spec (findClass_of_methodNamed hn) hkY h3
  have h : At U g.method c below := by rw [hg]; exact X.here
  have hlocals9 : W9 + (maxL + 11) + (headSpec ws rm).room.locals ≤ R.locals := hlocals
  have happ : (headSpec ws rm).appliesLoose y e.platform (U.calling g mk a) = true :=
    Spec.appliesLoose_calling (g := g) h hdg hn hkY hinitY
      (X.room_calling (g := g) (R' := (headSpec ws rm).room) hsize hmY hcY hframes (by rw [hlY]; omega) h4 h5) h1
  obtain ⟨mid, hmid⟩ := h.above
  have hfr : (U.setTop g).frames = (.java g :: mid) ++ below := by rw [State.frames_setTop' g h.top, hmid]; rfl
  obtain ⟨o, s₂, hsteps, -, hend, hq⟩ := Steps.callFree hM p X.admits X.cas X.clock (acts := []) hfr happ hPc trivial
  have hq' : vx_Q Qc XC mc ms free a (U.calling g mk a) o s₂ := hq
  rw [State.frames_setTop' g h.top] at hend
  obtain ⟨g₀, hg0⟩ := Option.isSome_iff_exists.mp h.top
  obtain ⟨r, hr⟩ := State.topJava?_eq_some.mp hg0
  have hr' : (({ U with heap := s₂.heap, slotsUsed := s₂.slotsUsed } : State).setVm s₂.vm).frames = .java g₀ :: r := hr
  rcases hq' with ⟨hqc, L, hfe, hL⟩ | ⟨q, rfl, E, ce, L, hx, hce, hcv, hcl, hW₂, hsm, hL⟩
  · obtain ⟨⟨v, rfl⟩, hW₂, e2, q2, q3, q4, q5, q6⟩ := id hfe
    have e3 : s₂ = ({ (U.calling g mk a).setFrames s₂.frames with heap := s₂.heap, slotsUsed := s₂.slotsUsed } : State).setVm s₂.vm := by
      have : s₂ = ({ s₂ with vm := (U.calling g mk a).vm } : State).setVm s₂.vm := rfl
      rw [e2] at this
      exact this
    obtain ⟨c₂, i₂, len₂, hc₂, hd₂, hf₂⟩ := hend
    have hW' : U.WarmedH s₂.vm := hW₂
    have hcc : c₂ = c := by
      have h1 : s₂.code? g.method = U.code? g.method := by
        rw [State.code?_eq, State.code?_eq, hW'.alike.method?]
      exact Option.some.inj (hc₂.symm.trans (h1.trans h.code))
    subst hcc
    have hlen : len₂ = len := by rw [hdg] at hd₂; cases hd₂; rfl
    subst hlen
    have hs₂ : s₂ = (({ U with heap := s₂.heap, slotsUsed := s₂.slotsUsed } : State).setVm s₂.vm).setTop { g with pc := g.pc + len₂, stack := v.toList ++ g.stack } := by
      refine e3.trans ?_
      rw [hf₂, State.calling_eq h.top, State.setFrames_setFrames, State.setTop_of_frames _ hr', hr]
      rfl
    have hsame : U.sameButNew ({ U with heap := s₂.heap, slotsUsed := s₂.slotsUsed } : State) L mc ms := by
      refine ⟨?_, q2, q3, q4, q5, q6⟩
      obtain ⟨t, ht, -⟩ := State.frames_cons hr
      show ({ U with heap := s₂.heap, slotsUsed := s₂.slotsUsed } : State) = { U.setFrames U.frames with heap := s₂.heap, slotsUsed := s₂.slotsUsed }
      rw [State.setFrames_self ht]
    subst hg
    refine Or.inl ⟨v, ⟨(({ U with heap := s₂.heap, slotsUsed := s₂.slotsUsed } : State).setVm s₂.vm), Ls ++ L, c0 + mc, s0 + ms⟩,
      ⟨X.admits, X.cas, X.clock, X.frames, X.room, X.hears, X.method, X.code, (X.here.setHeapUsed s₂.heap s₂.slotsUsed).setVm hW'.alike, X.tail, State.WarmedH.trans X.warmed hW', X.limits, X.bytes, X.same.trans (hsame.setVm s.vm)⟩,
      ⟨g, mk, s₂, L, rfl, rfl, hqc, rfl, hL, rfl, rfl⟩, ?_⟩
    show Steps p.tables e below _ ((({ U with heap := s₂.heap, slotsUsed := s₂.slotsUsed } : State).setVm s₂.vm).setTop { g with pc := g.pc + len₂, stack := v.toList ++ g.stack })
    rw [← hs₂]
    exact hsteps
  · obtain ⟨e2, q2, q3, q4, q5, q6⟩ := id hsm
    have e3 : s₂ = ({ (U.calling g mk a).setFrames s₂.frames with heap := s₂.heap, slotsUsed := s₂.slotsUsed } : State).setVm s₂.vm := by
      have : s₂ = ({ s₂ with vm := (U.calling g mk a).vm } : State).setVm s₂.vm := rfl
      rw [e2] at this
      exact this
    have hf₂ : s₂.frames = .throwing q :: .java g :: U.frames.tail := hend
    have hW' : U.WarmedH s₂.vm := hW₂
    have hs₂ : s₂ = ((({ U with heap := s₂.heap, slotsUsed := s₂.slotsUsed } : State).setVm s₂.vm).setTop g).pushFrame (.throwing q) := by
      refine e3.trans ?_
      rw [hf₂, State.calling_eq h.top, State.setFrames_setFrames, State.pushFrame, State.frames_setTop _ hr', State.setTop_of_frames _ hr', State.setFrames_setFrames, hr]
      rfl
    have hsame : U.sameButNew ({ U with heap := s₂.heap, slotsUsed := s₂.slotsUsed } : State) L mc ms := by
      refine ⟨?_, q2, q3, q4, q5, q6⟩
      obtain ⟨t, ht, -⟩ := State.frames_cons hr
      show ({ U with heap := s₂.heap, slotsUsed := s₂.slotsUsed } : State) = { U.setFrames U.frames with heap := s₂.heap, slotsUsed := s₂.slotsUsed }
      rw [State.setFrames_self ht]
    subst hg
    refine Or.inr ⟨q, ⟨(({ U with heap := s₂.heap, slotsUsed := s₂.slotsUsed } : State).setVm s₂.vm), Ls ++ L, c0 + mc, s0 + ms⟩,
      ⟨X.admits, X.cas, X.clock, X.frames, X.room, X.hears, X.method, X.code, (X.here.setHeapUsed s₂.heap s₂.slotsUsed).setVm hW'.alike, X.tail, State.WarmedH.trans X.warmed hW', X.limits, X.bytes, X.same.trans (hsame.setVm s.vm)⟩,
      ⟨g, mk, s₂, L, E, ce, rfl, rfl, hx, hce, hcv, hcl, rfl, hL, rfl, rfl⟩, ?_⟩
    show Steps p.tables e below _ (((({ U with heap := s₂.heap, slotsUsed := s₂.slotsUsed } : State).setVm s₂.vm).setTop g).pushFrame (.throwing q))
    rw [← hs₂]
    exact hsteps
end
variable {p : Program} {l : Launch} {e : Env} {R : Room} {s : State} {m : MethodId} {args : Array Value} {below : List Frame} {meth : Method} {c : Code} {T : State} {H : Heap} {locs : List Loc} {cells slots : Nat}
theorem vx_callVX (X : Stand p l e R s m args below meth c T locs cells slots) (hexec : p.tables.exec = Jvm.exec) {own C : String} {index : Nat} {y : MethodName} {bytes : ByteArray} {maxL : Nat} {ret : Option FieldType} {hh : List (Nat × Nat × Nat × Nat)}
    (hown : s.vm.findClass own = some m.cls) (hlink : (Cond.methodLink own index y).before args s = true) (hinst : (Cond.instanceMethod y).before args s = true) (hsel : (Cond.selects C y y).before args s = true)
    (hcode : (Cond.codeWith y bytes maxL ret hh).before args s = true) (hy : y.cls ≠ "java/lang/invoke/MethodHandle" ∧ y.cls ≠ "java/lang/invoke/VarHandle")
    {W9 : Nat} {Pre : Pt → Array Value → Prop} {Post : Pt → Array Value → Option Value → Pt → Prop} {PostX : Pt → Array Value → Addr → Pt → Prop} (hK : vx_Back l R p e below s args y 3 W9 Pre Post PostX)
    {b : Addr} {cellB : Cell} (hcell : T.heap[b]? = some cellB) (hobj : cellB.vm.isStatics = false) (hcls : s.vm.findClass C = some cellB.cls)
    {g : JFrame} (hg : g.method = m) (hsize : g.locals.size = c.maxLocals) {argsL rest : List Value} (hlen : ∀ sig, parseMethodDescriptor y.desc = some sig → argsL.length = sig.parameters.length)
    (hstack : g.stack = argsL.reverse ++ .ref b :: rest) (hW : 2 * g.monitorRoom + (rest.map fun v => v.category).sum ≤ W9) (hdg : decode c.code g.pc = .ok (.invokevirtual index, 3))
    (hpre : ∀ vm₁, s.WarmedH vm₁ → Pre ⟨T.setVm vm₁, locs, cells, slots⟩ (Value.ref b :: argsL).toArray) :
    (∃ (v : Option Value) (vm₁ : Vm) (B : Pt), s.WarmedH vm₁ ∧ Stand p l e R s m args below meth c B.U B.locs B.cells B.slots ∧ Post ⟨T.setVm vm₁, locs, cells, slots⟩ (Value.ref b :: argsL).toArray v B ∧
      ∀ target, Steps p.tables e below (B.U.setTop { g with pc := g.pc + 3, stack := v.toList ++ rest }) target → Steps p.tables e below (T.setTop g) target) ∨
    (∃ (q : Addr) (vm₁ : Vm) (B : Pt), s.WarmedH vm₁ ∧ Stand p l e R s m args below meth c B.U B.locs B.cells B.slots ∧ PostX ⟨T.setVm vm₁, locs, cells, slots⟩ (Value.ref b :: argsL).toArray q B ∧
      Steps p.tables e below (T.setTop g) ((B.U.setTop { g with stack := rest }).pushFrame (.throwing q))) := by
  obtain ⟨mk, methM, hnamed, hmethM, hstM, habM⟩ := Cond.instanceMethod_spec hinst
  obtain ⟨m8, methM', cM, hn8, hmethM', -, -, -, -, -, -, hsigM⟩ := Cond.codeWith_spec hcode
  cases Option.some.inj (hn8.symm.trans hnamed)
  cases hmethM.symm.trans hmethM'
  obtain ⟨c2, r2, m2, q1, q2, q3, q4, kP, hkP, hkPi⟩ := Cond.selects_spec hsel
  cases hcls.symm.trans q1
  cases (State.methodFound?_of_named hnamed hy).symm.trans q2
  cases hnamed.symm.trans q3
  have hselP : selectMethod e.platform s.vm cellB.cls mk = .method mk := by rw [Launch.admits_selectMethod X.admits]; exact q4
  obtain ⟨vm₁, X₁, hstep₁⟩ := X.invokevirtual hexec hown hlink hnamed hmethM hstM hkP hkPi hy (a := b) (cell := cellB) hcell
    (fun z h => by rw [h] at hobj; cases hobj) hselP hmethM habM hkP hkPi (g := g) hg (argsL := argsL) (rest := rest) (hlen _ hsigM) hstack hdg
  rcases hK m meth c ⟨T.setVm vm₁, locs, cells, slots⟩ { g with stack := rest } (.invokevirtual index) mk (Value.ref b :: argsL).toArray X₁ hg hsize hdg hW (X₁.named hnamed) (hpre vm₁ X₁.warmed) with ⟨v, B, X', hpost, hsteps⟩ | ⟨q, B, X', hpost, hsteps⟩
  · exact Or.inl ⟨v, vm₁, B, X₁.warmed, X', hpost, fun target h => hstep₁ _ fun acts => by rw [doInvoke_state]; exact hsteps.trans h⟩
  · exact Or.inr ⟨q, vm₁, B, X₁.warmed, X', hpost, hstep₁ _ fun acts => by rw [doInvoke_state]; exact hsteps⟩
theorem vx_callSX (X : Stand p l e R s m args below meth c T locs cells slots) (hexec : p.tables.exec = Jvm.exec) {own : String} {index : Nat} {y : MethodName} {bytes : ByteArray} {maxL : Nat} {ret : Option FieldType} {hh : List (Nat × Nat × Nat × Nat)}
    (hown : s.vm.findClass own = some m.cls) (hlink : (Cond.methodLink own index y).before args s = true) (hstat : (Cond.static y).before args s = true) (hinit : (Cond.initialized y.cls).before args s = true)
    (hcode : (Cond.codeWith y bytes maxL ret hh).before args s = true) (hy : y.cls ≠ "java/lang/invoke/MethodHandle" ∧ y.cls ≠ "java/lang/invoke/VarHandle")
    {W9 : Nat} {Pre : Pt → Array Value → Prop} {Post : Pt → Array Value → Option Value → Pt → Prop} {PostX : Pt → Array Value → Addr → Pt → Prop} (hK : vx_Back l R p e below s args y 3 W9 Pre Post PostX)
    {g : JFrame} (hg : g.method = m) (hsize : g.locals.size = c.maxLocals) {argsL rest : List Value} (hlen : ∀ sig, parseMethodDescriptor y.desc = some sig → argsL.length = sig.parameters.length)
    (hstack : g.stack = argsL.reverse ++ rest) (hW : 2 * g.monitorRoom + (rest.map fun v => v.category).sum ≤ W9) (hdg : decode c.code g.pc = .ok (.invokestatic index, 3))
    (hpre : ∀ vm₁, s.WarmedH vm₁ → Pre ⟨T.setVm vm₁, locs, cells, slots⟩ argsL.toArray) :
    (∃ (v : Option Value) (vm₁ : Vm) (B : Pt), s.WarmedH vm₁ ∧ Stand p l e R s m args below meth c B.U B.locs B.cells B.slots ∧ Post ⟨T.setVm vm₁, locs, cells, slots⟩ argsL.toArray v B ∧
      ∀ target, Steps p.tables e below (B.U.setTop { g with pc := g.pc + 3, stack := v.toList ++ rest }) target → Steps p.tables e below (T.setTop g) target) ∨
    (∃ (q : Addr) (vm₁ : Vm) (B : Pt), s.WarmedH vm₁ ∧ Stand p l e R s m args below meth c B.U B.locs B.cells B.slots ∧ PostX ⟨T.setVm vm₁, locs, cells, slots⟩ argsL.toArray q B ∧
      Steps p.tables e below (T.setTop g) ((B.U.setTop { g with stack := rest }).pushFrame (.throwing q))) := by
  obtain ⟨mk, methM, cM, hnamed, hmethM, -, -, -, -, -, -, hsigM⟩ := Cond.codeWith_spec hcode
  have hstatic : methM.isStatic = true := Cond.static_spec hnamed hmethM hstat
  obtain ⟨kP, hkP, -⟩ := className_of_methodNamed hnamed
  have hinitP : kP.init = .initialized := Cond.initialized_spec (findClass_of_methodNamed hnamed) hkP hinit
  obtain ⟨vm₁, X₁, hstep₁⟩ := X.invokestatic hexec hown hlink hnamed hmethM hstatic hkP hinitP hy (g := g) hg (argsL := argsL) (rest := rest) (hlen _ hsigM) hstack hdg
  rcases hK m meth c ⟨T.setVm vm₁, locs, cells, slots⟩ { g with stack := rest } (.invokestatic index) mk argsL.toArray X₁ hg hsize hdg hW (X₁.named hnamed) (hpre vm₁ X₁.warmed) with ⟨v, B, X', hpost, hsteps⟩ | ⟨q, B, X', hpost, hsteps⟩
  · exact Or.inl ⟨v, vm₁, B, X₁.warmed, X', hpost, fun target h => hstep₁ _ fun acts => by rw [doInvoke_state]; exact hsteps.trans h⟩
  · exact Or.inr ⟨q, vm₁, B, X₁.warmed, X', hpost, hstep₁ _ fun acts => by rw [doInvoke_state]; exact hsteps⟩
theorem vx_callVW (X : Stand p l e R s m args below meth c T locs cells slots) (hexec : p.tables.exec = Jvm.exec) {own C : String} {index : Nat} {y : MethodName} {bytes : ByteArray} {maxL : Nat} {ret : Option FieldType} {hh : List (Nat × Nat × Nat × Nat)}
    (hown : s.vm.findClass own = some m.cls) (hlink : (Cond.methodLink own index y).before args s = true) (hinst : (Cond.instanceMethod y).before args s = true) (hsel : (Cond.selects C y y).before args s = true)
    (hcode : (Cond.codeWith y bytes maxL ret hh).before args s = true) (hy : y.cls ≠ "java/lang/invoke/MethodHandle" ∧ y.cls ≠ "java/lang/invoke/VarHandle")
    {W9 : Nat} {Pre : Pt → Array Value → Prop} {Post : Pt → Array Value → Option Value → Pt → Prop} (hK : Back l R p e below s args y 3 W9 Pre Post)
    {b : Addr} {cellB : Cell} (hcell : T.heap[b]? = some cellB) (hobj : cellB.vm.isStatics = false) (hcls : s.vm.findClass C = some cellB.cls)
    {g : JFrame} (hg : g.method = m) (hsize : g.locals.size = c.maxLocals) {argsL rest : List Value} (hlen : ∀ sig, parseMethodDescriptor y.desc = some sig → argsL.length = sig.parameters.length)
    (hstack : g.stack = argsL.reverse ++ .ref b :: rest) (hW : 2 * g.monitorRoom + (rest.map fun v => v.category).sum ≤ W9) (hdg : decode c.code g.pc = .ok (.invokevirtual index, 3))
    (hpre : ∀ vm₁, s.WarmedH vm₁ → Pre ⟨T.setVm vm₁, locs, cells, slots⟩ (Value.ref b :: argsL).toArray) :
    ∃ (v : Option Value) (vm₁ : Vm) (B : Pt), s.WarmedH vm₁ ∧ Stand p l e R s m args below meth c B.U B.locs B.cells B.slots ∧ Post ⟨T.setVm vm₁, locs, cells, slots⟩ (Value.ref b :: argsL).toArray v B ∧
      ∀ target, Steps p.tables e below (B.U.setTop { g with pc := g.pc + 3, stack := v.toList ++ rest }) target → Steps p.tables e below (T.setTop g) target := by
  obtain ⟨mk, methM, hnamed, hmethM, hstM, habM⟩ := Cond.instanceMethod_spec hinst
  obtain ⟨m8, methM', cM, hn8, hmethM', -, -, -, -, -, -, hsigM⟩ := Cond.codeWith_spec hcode
  cases Option.some.inj (hn8.symm.trans hnamed)
  cases hmethM.symm.trans hmethM'
  obtain ⟨c2, r2, m2, q1, q2, q3, q4, kP, hkP, hkPi⟩ := Cond.selects_spec hsel
  cases hcls.symm.trans q1
  cases (State.methodFound?_of_named hnamed hy).symm.trans q2
  cases hnamed.symm.trans q3
  have hselP : selectMethod e.platform s.vm cellB.cls mk = .method mk := by rw [Launch.admits_selectMethod X.admits]; exact q4
  obtain ⟨vm₁, X₁, hstep₁⟩ := X.invokevirtual hexec hown hlink hnamed hmethM hstM hkP hkPi hy (a := b) (cell := cellB) hcell
    (fun z h => by rw [h] at hobj; cases hobj) hselP hmethM habM hkP hkPi (g := g) hg (argsL := argsL) (rest := rest) (hlen _ hsigM) hstack hdg
  obtain ⟨v, B, X', hpost, hsteps⟩ := hK m meth c ⟨T.setVm vm₁, locs, cells, slots⟩ { g with stack := rest } (.invokevirtual index) mk (Value.ref b :: argsL).toArray X₁ hg hsize hdg hW (X₁.named hnamed) (hpre vm₁ X₁.warmed)
  exact ⟨v, vm₁, B, X₁.warmed, X', hpost, fun target h => hstep₁ _ fun acts => by rw [doInvoke_state]; exact hsteps.trans h⟩
abbrev vx_CVW (R : Room) (s : State) (args : Array Value) (own C : String) (index : Nat) (y : MethodName) (bytes : ByteArray) (maxL : Nat) (ret : Option FieldType) (hh : List (Nat × Nat × Nat × Nat)) (ws : List Cond) (rm : Room) (mc ms n : Nat) : Prop :=
  (rm.cells = mc ∧ rm.slots = ms ∧ rm.frames + 1 ≤ R.frames ∧ 8 + (maxL + 11) + rm.locals ≤ R.locals ∧ (∀ w ∈ ws, ∀ (a' : Array Value) (U : State), s.WarmedH U.vm → w.before a' U = true) ∧ Cond.codeWith y bytes maxL ret hh ∈ ws) ∧
  (Cond.codeWith y bytes maxL ret hh).before args s = true ∧ (Cond.initialized y.cls).before args s = true ∧ (y.cls ≠ "java/lang/invoke/MethodHandle" ∧ y.cls ≠ "java/lang/invoke/VarHandle") ∧
  (∀ sig, parseMethodDescriptor y.desc = some sig → n = sig.parameters.length) ∧ (Cond.methodLink own index y).before args s = true ∧ (Cond.instanceMethod y).before args s = true ∧ (Cond.selects C y y).before args s = true
theorem vx_cwVW {own C : String} {index maxL mc ms : Nat} {y : MethodName} {bytes : ByteArray} {ret : Option FieldType} {hh : List (Nat × Nat × Nat × Nat)} {Ts ws ws' : List Cond} {rm : Room} (n : Nat) (ht : ∀ w ∈ Ts, w.before args s = true) (hT : GoodIn Ts (wsV own index C y ws)) (hw : ws = Cond.codeWith y bytes maxL ret hh :: ws') (hrc : rm.cells = mc) (hrs : rm.slots = ms)
    (hd : y.cls = C ∧ y.cls ≠ "java/lang/invoke/MethodHandle" ∧ y.cls ≠ "java/lang/invoke/VarHandle" ∧ (parseMethodDescriptor y.desc).map (fun d => d.parameters.length) = some n) (hR : rm.frames + 1 ≤ R.frames ∧ 8 + (maxL + 11) + rm.locals ≤ R.locals) :
    vx_CVW R s args own C index y bytes maxL ret hh ws rm mc ms n := by
  obtain ⟨hC, hd⟩ := hd
  subst hC
  have ok : ∀ w ∈ wsV own index y.cls y ws, w.before args s = true := fun w h => ht w (hT w h).1
  have hG : GoodIn Ts ws := fun w h => hT w (by unfold wsV; exact List.mem_append_right _ h)
  have hc : Cond.codeWith y bytes maxL ret hh ∈ ws := by rw [hw]; exact List.mem_cons_self
  refine ⟨⟨hrc, hrs, hR.1, hR.2, pay_in ht hG, hc⟩, ht _ (hG _ hc).1, ok _ (by simp [wsV]), ⟨hd.1, hd.2.1⟩, fun sig h => ?_, ok _ (by simp [wsV]), ok _ (by simp [wsV]), ok _ (by simp [wsV])⟩
  have h2 := hd.2.2
  rw [h] at h2
  exact (Option.some.inj h2).symm
theorem vx_runVW {y : MethodName} {bytes cc : ByteArray} {maxL nL mc ms n index : Nat} {ret : Option FieldType} {hh : List (Nat × Nat × Nat × Nat)} {ws : List Cond} {rm : Room} {Pc : Array Value → State → Prop} {Qc : Array Value → State → Outcome → State → Prop} {free : Addr → Prop} {Ts : List Cond} {own C : String} {b : Addr} {As rest : List Value} {g : JFrame}
    (S : CallFix p m c cc nL s args Ts own) (hM : Met l y ws rm Pc Qc mc ms free) (cw : vx_CVW R s args own C index y bytes maxL ret hh ws rm mc ms n) (hp : PreV s H C b Pc As)
    (hg : g.method = m) (hn : As.length = n) (hsize : g.locals.size = nL) (hstack : g.stack = As.reverse ++ .ref b :: rest) (hW : 2 * g.monitorRoom + (rest.map fun v => v.category).sum ≤ 8) (hdg : decode cc g.pc = .ok (.invokevirtual index, 3)) (hf : cells + mc ≤ R.cells ∧ slots + ms ≤ R.slots) :
    va_Run p l e R s m args below meth c H locs cells slots mc ms g rest (Qc (Value.ref b :: As).toArray) free := by
  obtain ⟨⟨hrc, hrs, hfr, hlo, hws, hcw⟩, hcode, hini, hy, hlen, hl, hin, hse⟩ := cw
  have hK : Back l R p e below s args y 3 8 (PreOf R mc ms Pc) (PostOf Qc mc ms free) := va_backW (hh := hh) (bytes := bytes) (maxL := maxL) (ret := ret) hM hp.1 hrc hrs hfr hlo hws hcw (fun a' U hW => word_at hW (Or.inl (by first | rfl | simp [Cond.onTables, Cond.keeps, Cond.steady])) hini)
  obtain ⟨hx, hb, hml, ho, -⟩ := S
  obtain ⟨-, ⟨cellB, hcB, hoB, hclB⟩, hPc⟩ := hp
  intro T hT X
  obtain ⟨v, vm₁, ⟨U', l2, c2, s2⟩, hW₁, X', ⟨g', mk, t, L, e1, e2, hq, h1, hL, h2, h3⟩, st⟩ := vx_callVW X hx (C := C) (hh := hh) (bytes := bytes) (maxL := maxL) (ret := ret) ho hl hin hse hcode hy hK (by rw [hT]; exact hcB) hoB hclB hg (hsize.trans hml.symm) (argsL := As) (rest := rest) (fun sig h => hn.trans (hlen sig h)) hstack hW (by rw [hb]; exact hdg)
    (fun vm₁ hW₁ => ⟨hf.1, hf.2, hPc (T.setVm vm₁) hT hW₁⟩)
  dsimp only [Pt.U, Pt.locs, Pt.cells, Pt.slots] at X' e1 e2 h1 h2 h3 st
  subst h1; subst h2; subst h3
  exact ⟨v, (T.setVm vm₁).calling g' mk (Value.ref b :: As).toArray, t, U', L, hT, X', hL, e1, e2, hq, st⟩
section
variable {y : MethodName} {bytes cc : ByteArray} {maxL nL mc ms n index : Nat} {ret : Option FieldType} {ws : List Cond} {rm : Room} {Pc : Array Value → State → Prop} {Qc : Array Value → State → Outcome → State → Prop} {XC : String → State → State → Prop} {free : Addr → Prop} {Ts : List Cond} {own C : String} {b : Addr} {As rest : List Value} {g : JFrame}
theorem vx_runVX {hh : List (Nat × Nat × Nat × Nat)} (S : CallFix p m c cc nL s args Ts own) (hM : vx_Met l y ws rm Pc Qc XC mc ms free) (cw : vx_CVW R s args own C index y bytes maxL ret hh ws rm mc ms n) (hp : PreV s H C b Pc As)
    (hg : g.method = m) (hn : As.length = n) (hsize : g.locals.size = nL) (hstack : g.stack = As.reverse ++ .ref b :: rest) (hW : 2 * g.monitorRoom + (rest.map fun v => v.category).sum ≤ 8) (hdg : decode cc g.pc = .ok (.invokevirtual index, 3)) (hf : cells + mc ≤ R.cells ∧ slots + ms ≤ R.slots) :
    vx_Run p l e R s m args below meth c H locs cells slots mc ms g rest (Qc (Value.ref b :: As).toArray) XC free := by
  obtain ⟨⟨hrc, hrs, hfr, hlo, hws, hcw⟩, hcode, hini, hy, hlen, hl, hin, hse⟩ := cw
  have hK : vx_Back l R p e below s args y 3 8 (PreOf R mc ms Pc) (PostOf Qc mc ms free) (vx_Post XC mc ms free) := vx_backW (hh := hh) (bytes := bytes) (maxL := maxL) (ret := ret) hM hp.1 hrc hrs hfr hlo hws hcw (fun a' U hW => word_at hW (Or.inl (by first | rfl | simp [Cond.onTables, Cond.keeps, Cond.steady])) hini)
  obtain ⟨hx, hb, hml, ho, -⟩ := S
  obtain ⟨-, ⟨cellB, hcB, hoB, hclB⟩, hPc⟩ := hp
  intro T hT X
  rcases vx_callVX X hx (C := C) (hh := hh) (bytes := bytes) (maxL := maxL) (ret := ret) ho hl hin hse hcode hy hK (by rw [hT]; exact hcB) hoB hclB hg (hsize.trans hml.symm) (argsL := As) (rest := rest) (fun sig h => hn.trans (hlen sig h)) hstack hW (by rw [hb]; exact hdg)
    (fun vm₁ hW₁ => ⟨hf.1, hf.2, hPc (T.setVm vm₁) hT hW₁⟩) with ⟨v, vm₁, ⟨U', l2, c2, s2⟩, hW₁, X', ⟨g', mk, t, L, e1, e2, hq, h1, hL, h2, h3⟩, st⟩ | ⟨q, vm₁, ⟨U', l2, c2, s2⟩, hW₁, X', ⟨g', mk, t, L, E, ce, e1, e2, hq, hce, hcv, hcl, h1, hL, h2, h3⟩, st⟩
  · dsimp only [Pt.U, Pt.locs, Pt.cells, Pt.slots] at X' e1 e2 h1 h2 h3 st
    subst h1; subst h2; subst h3
    exact Or.inl ⟨v, (T.setVm vm₁).calling g' mk (Value.ref b :: As).toArray, t, U', L, hT, X', hL, e1, e2, hq, st⟩
  · dsimp only [Pt.U, Pt.locs, Pt.cells, Pt.slots] at X' e1 e2 h1 h2 h3 st hcl
    subst h1; subst h2; subst h3
    exact Or.inr ⟨q, (T.setVm vm₁).calling g' mk (Value.ref b :: As).toArray, t, U', L, E, ce, hT, X', hL, e1, e2, hq, hce, hcv, vx_cls hW₁ hcl, st⟩
theorem vx_runSX {hh : List (Nat × Nat × Nat × Nat)} (S : CallFix p m c cc nL s args Ts own) (hM : vx_Met l y ws rm Pc Qc XC mc ms free) (cw : vx_CSW R s args own index y bytes maxL ret hh ws rm mc ms n) (hp : PreS s H Pc As)
    (hg : g.method = m) (hn : As.length = n) (hsize : g.locals.size = nL) (hstack : g.stack = As.reverse ++ rest) (hW : 2 * g.monitorRoom + (rest.map fun v => v.category).sum ≤ 8) (hdg : decode cc g.pc = .ok (.invokestatic index, 3)) (hf : cells + mc ≤ R.cells ∧ slots + ms ≤ R.slots) :
    vx_Run p l e R s m args below meth c H locs cells slots mc ms g rest (Qc As.toArray) XC free := by
  obtain ⟨⟨hrc, hrs, hfr, hlo, hws, hcw⟩, hcode, hini, hy, hlen, hl, hstt⟩ := cw
  have hK : vx_Back l R p e below s args y 3 8 (PreOf R mc ms Pc) (PostOf Qc mc ms free) (vx_Post XC mc ms free) := vx_backW (hh := hh) (bytes := bytes) (maxL := maxL) (ret := ret) hM hp.1 hrc hrs hfr hlo hws hcw (fun a' U hW => word_at hW (Or.inl (by first | rfl | simp [Cond.onTables, Cond.keeps, Cond.steady])) hini)
  obtain ⟨hx, hb, hml, ho, -⟩ := S
  intro T hT X
  rcases vx_callSX X hx (hh := hh) (bytes := bytes) (maxL := maxL) (ret := ret) ho hl hstt hini hcode hy hK hg (hsize.trans hml.symm) (argsL := As) (rest := rest) (fun sig h => hn.trans (hlen sig h)) hstack hW (by rw [hb]; exact hdg)
    (fun vm₁ hW₁ => ⟨hf.1, hf.2, hp.2 (T.setVm vm₁) hT hW₁⟩) with ⟨v, vm₁, ⟨U', l2, c2, s2⟩, hW₁, X', ⟨g', mk, t, L, e1, e2, hq, h1, hL, h2, h3⟩, st⟩ | ⟨q, vm₁, ⟨U', l2, c2, s2⟩, hW₁, X', ⟨g', mk, t, L, E, ce, e1, e2, hq, hce, hcv, hcl, h1, hL, h2, h3⟩, st⟩
  · dsimp only [Pt.U, Pt.locs, Pt.cells, Pt.slots] at X' e1 e2 h1 h2 h3 st
    subst h1; subst h2; subst h3
    exact Or.inl ⟨v, (T.setVm vm₁).calling g' mk As.toArray, t, U', L, hT, X', hL, e1, e2, hq, st⟩
  · dsimp only [Pt.U, Pt.locs, Pt.cells, Pt.slots] at X' e1 e2 h1 h2 h3 st hcl
    subst h1; subst h2; subst h3
    exact Or.inr ⟨q, (T.setVm vm₁).calling g' mk As.toArray, t, U', L, E, ce, hT, X', hL, e1, e2, hq, hce, hcv, vx_cls hW₁ hcl, st⟩
end
end VXH
theorem vx_ofWH {l : Launch} {y : MethodName} {ws ws' : List Cond} {rm : Room} {Pc : Array Value → State → Prop} {Qc : Array Value → State → Outcome → State → Prop} {XC : String → State → State → Prop} {mc ms : Nat} {free : Addr → Prop} {cc : ByteArray} {maxL : Nat} {ret : Option FieldType} {hh : List (Nat × Nat × Nat × Nat)}
    (hy : plainName y.cls = true) (hw : ws = Cond.codeWith y cc maxL ret hh :: ws')
    (body : ∀ p e s m args below meth c s₁, BodyLoose p l y (headSpec ws rm) cc maxL ret e s m args below meth c s₁ → c.maxLocals = maxL → Pc args s →
      W p l e (headSpec ws rm).room s m args below meth c s.heap [] 0 0 (vx_MQ below Qc XC args s mc ms free) (entryFrame m args maxL)) : vx_Met l y ws rm Pc Qc XC mc ms free := by
  refine MetFree.of_bodyS (code := cc) (maxLocals := maxL) (ret := ret) hy ?_ ?_
  · intro args s m h hn
    obtain ⟨m9, meth, c, hn9, h1, h2, h3, h4, -, h5, h6, -⟩ := Cond.codeWith_spec (atoms_spec (ws := ws) h _ (by rw [hw]; exact List.mem_cons_self))
    cases hn.symm.trans hn9
    exact ⟨meth, c, h1, h2, h3, h4, h5, h6⟩
  · intro p e s m args below meth c s₁ B hml hP _
    have hh0 : s₁.heap = s.heap := by rw [B.state]; rfl
    obtain ⟨t, a1, o, b1, b2, b3⟩ := body p e s m args below meth c s₁ B hml hP s₁ hh0 (Stand.of_body B)
    exact ⟨t, o, a1, b1, b2, b3⟩
/-! ===== END ===== -/
end
section
/-! ===== BEGIN printed: names, fields, word lists, decode rows ===== -/
def RX0 : String := "RankMesh"
def TX0 : u_T := fun k => match k with
  | 0 => ("RankMesh", "hysteresis", "I", false)
  | 1 => ("RankMesh", "increase", "I", false)
  | 2 => ("RankMesh", "leastInterval", "I", false)
  | 3 => ("RankMesh", "doublings", "I", false)
  | 4 => ("RankMesh", "now", "I", false)
  | 5 => ("RankMesh", "droppedPackets", "I", false)
  | 6 => ("RankMesh", "costOf", "[[I", true)
  | 7 => ("RankMesh", "heardTree", "[[I", true)
  | 8 => ("RankMesh", "heardVersion", "[[I", true)
  | 9 => ("RankMesh", "heardRank", "[[I", true)
  | 10 => ("RankMesh", "isRoot", "[Z", true)
  | 11 => ("RankMesh", "lastRootVersion", "[I", true)
  | 12 => ("RankMesh", "treeOf", "[I", true)
  | 13 => ("RankMesh", "versionOf", "[I", true)
  | 14 => ("RankMesh", "rankOf", "[I", true)
  | 15 => ("RankMesh", "lowestRank", "[I", true)
  | 16 => ("RankMesh", "parentOf", "[I", true)
  | 17 => ("RankMesh", "interval", "[I", true)
  | 18 => ("RankMesh", "tellsAt", "[I", true)
  | _ => ("RankMesh", "wayCost", "[I", true)
def tyX0 : Nat → FieldType := fun k => match k with
  | 0 => .int
  | 1 => .int
  | 2 => .int
  | 3 => .int
  | 4 => .int
  | 5 => .int
  | 6 => .array (.array .int)
  | 7 => .array (.array .int)
  | 8 => .array (.array .int)
  | 9 => .array (.array .int)
  | 10 => .array .boolean
  | 11 => .array .int
  | 12 => .array .int
  | 13 => .array .int
  | 14 => .array .int
  | 15 => .array .int
  | 16 => .array .int
  | 17 => .array .int
  | 18 => .array .int
  | _ => .array .int
abbrev wsX00 : List Cond := u_ws RX0 TX0 20
theorem nmX0 : ∀ a, a < 20 → ∀ b, b < 20 → a ≠ b → (TX0 a).2.1 ≠ (TX0 b).2.1 := by decide +kernel
theorem tyX0_ok : ∀ k, k < 20 → parseFieldDescriptor (TX0 k).2.2.1 = some (tyX0 k) := by decide +kernel
abbrev cX0_init : ByteArray := prog_1_method_1_code
def yX0_init : MethodName := ⟨RX0, "<init>", "()V"⟩
abbrev cX0_setRules : ByteArray := prog_1_method_2_code
def yX0_setRules : MethodName := ⟨RX0, "setRules", "(IIII)V"⟩
abbrev cX0_link : ByteArray := prog_1_method_3_code
def yX0_link : MethodName := ⟨RX0, "link", "(III)I"⟩
abbrev cX0_makeRoot : ByteArray := prog_1_method_4_code
def yX0_makeRoot : MethodName := ⟨RX0, "makeRoot", "(I)I"⟩
abbrev cX0_endRoot : ByteArray := prog_1_method_5_code
def yX0_endRoot : MethodName := ⟨RX0, "endRoot", "(I)V"⟩
abbrev cX0_renew : ByteArray := prog_1_method_6_code
def yX0_renew : MethodName := ⟨RX0, "renew", "(I)I"⟩
abbrev cX0_pass : ByteArray := prog_1_method_7_code
def yX0_pass : MethodName := ⟨RX0, "pass", "(I)I"⟩
abbrev cX0_time : ByteArray := prog_1_method_8_code
def yX0_time : MethodName := ⟨RX0, "time", "()I"⟩
abbrev cX0_rank : ByteArray := prog_1_method_9_code
def yX0_rank : MethodName := ⟨RX0, "rank", "(I)I"⟩
abbrev cX0_parent : ByteArray := prog_1_method_10_code
def yX0_parent : MethodName := ⟨RX0, "parent", "(I)I"⟩
abbrev cX0_tree : ByteArray := prog_1_method_11_code
def yX0_tree : MethodName := ⟨RX0, "tree", "(I)I"⟩
abbrev cX0_nextTelling : ByteArray := prog_1_method_12_code
def yX0_nextTelling : MethodName := ⟨RX0, "nextTelling", "(I)I"⟩
abbrev cX0_heard : ByteArray := prog_1_method_13_code
def yX0_heard : MethodName := ⟨RX0, "heard", "(II)I"⟩
abbrev cX0_leastRank : ByteArray := prog_1_method_14_code
def yX0_leastRank : MethodName := ⟨RX0, "leastRank", "(I)I"⟩
abbrev cX0_up : ByteArray := prog_1_method_15_code
def yX0_up : MethodName := ⟨RX0, "up", "(I)I"⟩
abbrev cX0_loops : ByteArray := prog_1_method_16_code
def yX0_loops : MethodName := ⟨RX0, "loops", "()I"⟩
abbrev cX0_below : ByteArray := prog_1_method_17_code
def yX0_below : MethodName := ⟨RX0, "below", "(I)I"⟩
abbrev cX0_down : ByteArray := prog_1_method_18_code
def yX0_down : MethodName := ⟨RX0, "down", "(II)I"⟩
abbrev cX0_isNode : ByteArray := prog_1_method_19_code
def yX0_isNode : MethodName := ⟨RX0, "isNode", "(I)Z"⟩
abbrev cX0_requireNode : ByteArray := prog_1_method_20_code
def yX0_requireNode : MethodName := ⟨RX0, "requireNode", "(I)V"⟩
abbrev cX0_requireRoot : ByteArray := prog_1_method_21_code
def yX0_requireRoot : MethodName := ⟨RX0, "requireRoot", "(I)V"⟩
abbrev cX0_requireRange : ByteArray := prog_1_method_22_code
def yX0_requireRange : MethodName := ⟨RX0, "requireRange", "(III)V"⟩
abbrev cX0_clearNode : ByteArray := prog_1_method_23_code
def yX0_clearNode : MethodName := ⟨RX0, "clearNode", "(I)V"⟩
abbrev cX0_beginVersion : ByteArray := prog_1_method_24_code
def yX0_beginVersion : MethodName := ⟨RX0, "beginVersion", "(I)I"⟩
abbrev cX0_forget : ByteArray := prog_1_method_25_code
def yX0_forget : MethodName := ⟨RX0, "forget", "(II)V"⟩
abbrev cX0_resetTimer : ByteArray := prog_1_method_26_code
def yX0_resetTimer : MethodName := ⟨RX0, "resetTimer", "(I)V"⟩
abbrev cX0_lengthenTimer : ByteArray := prog_1_method_27_code
def yX0_lengthenTimer : MethodName := ⟨RX0, "lengthenTimer", "(I)V"⟩
abbrev cX0_passTick : ByteArray := prog_1_method_28_code
def yX0_passTick : MethodName := ⟨RX0, "passTick", "()I"⟩
abbrev cX0_tell : ByteArray := prog_1_method_29_code
def yX0_tell : MethodName := ⟨RX0, "tell", "(I)V"⟩
abbrev cX0_lowerWayCosts : ByteArray := prog_1_method_30_code
def yX0_lowerWayCosts : MethodName := ⟨RX0, "lowerWayCosts", "()V"⟩
abbrev cX0_childrenOf : ByteArray := prog_1_method_31_code
def yX0_childrenOf : MethodName := ⟨RX0, "childrenOf", "(I)I"⟩
abbrev cX0_choose : ByteArray := prog_1_method_32_code
def yX0_choose : MethodName := ⟨RX0, "choose", "(I)V"⟩
abbrev cX0_keepsParent : ByteArray := prog_1_method_33_code
def yX0_keepsParent : MethodName := ⟨RX0, "keepsParent", "(II)Z"⟩
abbrev cX0_bestCandidate : ByteArray := prog_1_method_34_code
def yX0_bestCandidate : MethodName := ⟨RX0, "bestCandidate", "(I)I"⟩
abbrev cX0_isCandidate : ByteArray := prog_1_method_35_code
def yX0_isCandidate : MethodName := ⟨RX0, "isCandidate", "(II)Z"⟩
abbrev cX0_rankBy : ByteArray := prog_1_method_36_code
def yX0_rankBy : MethodName := ⟨RX0, "rankBy", "(II)I"⟩
abbrev cX0_isOutdated : ByteArray := prog_1_method_37_code
def yX0_isOutdated : MethodName := ⟨RX0, "isOutdated", "(II)Z"⟩
abbrev cX0_isTooDeep : ByteArray := prog_1_method_38_code
def yX0_isTooDeep : MethodName := ⟨RX0, "isTooDeep", "(II)Z"⟩
abbrev cX0_heardOwnVersion : ByteArray := prog_1_method_39_code
def yX0_heardOwnVersion : MethodName := ⟨RX0, "heardOwnVersion", "(II)Z"⟩
abbrev cX0_follow : ByteArray := prog_1_method_40_code
def yX0_follow : MethodName := ⟨RX0, "follow", "(II)V"⟩
abbrev cX0_loseParent : ByteArray := prog_1_method_41_code
def yX0_loseParent : MethodName := ⟨RX0, "loseParent", "(I)V"⟩
def RX1 : String := "RankMeshModel"
def TX1 : u_T := fun k => match k with
  | 0 => ("RankMeshModel", "hysteresis", "I", false)
  | 1 => ("RankMeshModel", "increase", "I", false)
  | 2 => ("RankMeshModel", "least", "I", false)
  | 3 => ("RankMeshModel", "doublings", "I", false)
  | 4 => ("RankMeshModel", "time", "I", false)
  | 5 => ("RankMeshModel", "cost", "[I", true)
  | 6 => ("RankMeshModel", "isRoot", "[Z", true)
  | 7 => ("RankMeshModel", "rooted", "[I", true)
  | 8 => ("RankMeshModel", "tree", "[I", true)
  | 9 => ("RankMeshModel", "version", "[I", true)
  | 10 => ("RankMeshModel", "rank", "[I", true)
  | 11 => ("RankMeshModel", "parent", "[I", true)
  | 12 => ("RankMeshModel", "lowest", "[I", true)
  | 13 => ("RankMeshModel", "interval", "[I", true)
  | 14 => ("RankMeshModel", "next", "[I", true)
  | 15 => ("RankMeshModel", "heardTree", "[I", true)
  | 16 => ("RankMeshModel", "heardVersion", "[I", true)
  | 17 => ("RankMeshModel", "heardRank", "[I", true)
  | 18 => ("RankMeshModel", "way", "[I", true)
  | 19 => ("RankMeshModel", "loops", "I", false)
  | _ => ("RankMeshModel", "thrown", "I", false)
def tyX1 : Nat → FieldType := fun k => match k with
  | 0 => .int
  | 1 => .int
  | 2 => .int
  | 3 => .int
  | 4 => .int
  | 5 => .array .int
  | 6 => .array .boolean
  | 7 => .array .int
  | 8 => .array .int
  | 9 => .array .int
  | 10 => .array .int
  | 11 => .array .int
  | 12 => .array .int
  | 13 => .array .int
  | 14 => .array .int
  | 15 => .array .int
  | 16 => .array .int
  | 17 => .array .int
  | 18 => .array .int
  | 19 => .int
  | _ => .int
abbrev wsX10 : List Cond := u_ws RX1 TX1 21
theorem nmX1 : ∀ a, a < 21 → ∀ b, b < 21 → a ≠ b → (TX1 a).2.1 ≠ (TX1 b).2.1 := by decide +kernel
theorem tyX1_ok : ∀ k, k < 21 → parseFieldDescriptor (TX1 k).2.2.1 = some (tyX1 k) := by decide +kernel
abbrev cX1_init : ByteArray := prog_3_method_1_code
def yX1_init : MethodName := ⟨RX1, "<init>", "()V"⟩
abbrev cX1_thrown : ByteArray := prog_3_method_2_code
def yX1_thrown : MethodName := ⟨RX1, "thrown", "()I"⟩
abbrev cX1_fails : ByteArray := prog_3_method_3_code
def yX1_fails : MethodName := ⟨RX1, "fails", "(I)Z"⟩
abbrev cX1_isIn : ByteArray := prog_3_method_4_code
def yX1_isIn : MethodName := ⟨RX1, "isIn", "(III)Z"⟩
abbrev cX1_isNode : ByteArray := prog_3_method_5_code
def yX1_isNode : MethodName := ⟨RX1, "isNode", "(I)Z"⟩
abbrev cX1_resets : ByteArray := prog_3_method_6_code
def yX1_resets : MethodName := ⟨RX1, "resets", "(I)V"⟩
abbrev cX1_rankBy : ByteArray := prog_3_method_7_code
def yX1_rankBy : MethodName := ⟨RX1, "rankBy", "(II)I"⟩
abbrev cX1_isCandidate : ByteArray := prog_3_method_8_code
def yX1_isCandidate : MethodName := ⟨RX1, "isCandidate", "(II)Z"⟩
abbrev cX1_takes : ByteArray := prog_3_method_9_code
def yX1_takes : MethodName := ⟨RX1, "takes", "(II)V"⟩
abbrev cX1_chooses : ByteArray := prog_3_method_10_code
def yX1_chooses : MethodName := ⟨RX1, "chooses", "(I)V"⟩
abbrev cX1_tells : ByteArray := prog_3_method_11_code
def yX1_tells : MethodName := ⟨RX1, "tells", "(I)V"⟩
abbrev cX1_setRules : ByteArray := prog_3_method_12_code
def yX1_setRules : MethodName := ⟨RX1, "setRules", "(IIII)V"⟩
abbrev cX1_link : ByteArray := prog_3_method_13_code
def yX1_link : MethodName := ⟨RX1, "link", "(III)I"⟩
abbrev cX1_begins : ByteArray := prog_3_method_14_code
def yX1_begins : MethodName := ⟨RX1, "begins", "(I)V"⟩
abbrev cX1_makeRoot : ByteArray := prog_3_method_15_code
def yX1_makeRoot : MethodName := ⟨RX1, "makeRoot", "(I)I"⟩
abbrev cX1_endRoot : ByteArray := prog_3_method_16_code
def yX1_endRoot : MethodName := ⟨RX1, "endRoot", "(I)V"⟩
abbrev cX1_renew : ByteArray := prog_3_method_17_code
def yX1_renew : MethodName := ⟨RX1, "renew", "(I)I"⟩
abbrev cX1_pass : ByteArray := prog_3_method_18_code
def yX1_pass : MethodName := ⟨RX1, "pass", "(I)I"⟩
abbrev cX1_time : ByteArray := prog_3_method_19_code
def yX1_time : MethodName := ⟨RX1, "time", "()I"⟩
abbrev cX1_of : ByteArray := prog_3_method_20_code
def yX1_of : MethodName := ⟨RX1, "of", "([II)I"⟩
abbrev cX1_rank : ByteArray := prog_3_method_21_code
def yX1_rank : MethodName := ⟨RX1, "rank", "(I)I"⟩
abbrev cX1_parent : ByteArray := prog_3_method_22_code
def yX1_parent : MethodName := ⟨RX1, "parent", "(I)I"⟩
abbrev cX1_tree : ByteArray := prog_3_method_23_code
def yX1_tree : MethodName := ⟨RX1, "tree", "(I)I"⟩
abbrev cX1_nextTelling : ByteArray := prog_3_method_24_code
def yX1_nextTelling : MethodName := ⟨RX1, "nextTelling", "(I)I"⟩
abbrev cX1_heard : ByteArray := prog_3_method_25_code
def yX1_heard : MethodName := ⟨RX1, "heard", "(II)I"⟩
abbrev cX1_leastRank : ByteArray := prog_3_method_26_code
def yX1_leastRank : MethodName := ⟨RX1, "leastRank", "(I)I"⟩
abbrev cX1_up : ByteArray := prog_3_method_27_code
def yX1_up : MethodName := ⟨RX1, "up", "(I)I"⟩
abbrev cX1_loops : ByteArray := prog_3_method_28_code
def yX1_loops : MethodName := ⟨RX1, "loops", "()I"⟩
abbrev cX1_under : ByteArray := prog_3_method_29_code
def yX1_under : MethodName := ⟨RX1, "under", "(I)I"⟩
abbrev cX1_below : ByteArray := prog_3_method_30_code
def yX1_below : MethodName := ⟨RX1, "below", "(I)I"⟩
abbrev cX1_down : ByteArray := prog_3_method_31_code
def yX1_down : MethodName := ⟨RX1, "down", "(II)I"⟩
def RJ9 : String := "java/lang/Math"
def TJ9 : u_T := fun k => match k with
  | _ => ("", "", "", false)
def tyJ9 : Nat → FieldType := fun k => match k with
  | _ => .int
abbrev wsJ90 : List Cond := u_ws RJ9 TJ9 0
theorem nmJ9 : ∀ a, a < 0 → ∀ b, b < 0 → a ≠ b → (TJ9 a).2.1 ≠ (TJ9 b).2.1 := by decide +kernel
theorem tyJ9_ok : ∀ k, k < 0 → parseFieldDescriptor (TJ9 k).2.2.1 = some (tyJ9 k) := by decide +kernel
abbrev cJ9_min_7cf53 : ByteArray := prog_8_method_69_code
def yJ9_min_7cf53 : MethodName := ⟨RJ9, "min", "(II)I"⟩
def RJ0 : String := "java/lang/String"
def TJ0 : u_T := fun k => match k with
  | _ => ("", "", "", false)
def tyJ0 : Nat → FieldType := fun k => match k with
  | _ => .int
abbrev wsJ00 : List Cond := u_ws RJ0 TJ0 0
theorem nmJ0 : ∀ a, a < 0 → ∀ b, b < 0 → a ≠ b → (TJ0 a).2.1 ≠ (TJ0 b).2.1 := by decide +kernel
theorem tyJ0_ok : ∀ k, k < 0 → parseFieldDescriptor (TJ0 k).2.2.1 = some (tyJ0 k) := by decide +kernel
def RL : String := "RankMeshLaw"
abbrev cL_setRules : ByteArray := method_3_code
def yL_setRules : MethodName := ⟨RL, "setRules", "(LRankMesh;IIII)I"⟩
abbrev cL_link : ByteArray := method_4_code
def yL_link : MethodName := ⟨RL, "link", "(LRankMesh;III[J)I"⟩
abbrev cL_makeRoot : ByteArray := method_5_code
def yL_makeRoot : MethodName := ⟨RL, "makeRoot", "(LRankMesh;I[J)I"⟩
abbrev cL_endRoot : ByteArray := method_6_code
def yL_endRoot : MethodName := ⟨RL, "endRoot", "(LRankMesh;I)I"⟩
abbrev cL_renew : ByteArray := method_7_code
def yL_renew : MethodName := ⟨RL, "renew", "(LRankMesh;I[J)I"⟩
abbrev cL_pass : ByteArray := method_8_code
def yL_pass : MethodName := ⟨RL, "pass", "(LRankMesh;I[J)I"⟩
abbrev cL_rank : ByteArray := method_9_code
def yL_rank : MethodName := ⟨RL, "rank", "(LRankMesh;I[J)I"⟩
abbrev cL_parent : ByteArray := method_10_code
def yL_parent : MethodName := ⟨RL, "parent", "(LRankMesh;I[J)I"⟩
abbrev cL_tree : ByteArray := method_11_code
def yL_tree : MethodName := ⟨RL, "tree", "(LRankMesh;I[J)I"⟩
abbrev cL_nextTelling : ByteArray := method_12_code
def yL_nextTelling : MethodName := ⟨RL, "nextTelling", "(LRankMesh;I[J)I"⟩
abbrev cL_heard : ByteArray := method_13_code
def yL_heard : MethodName := ⟨RL, "heard", "(LRankMesh;II[J)I"⟩
abbrev cL_leastRank : ByteArray := method_14_code
def yL_leastRank : MethodName := ⟨RL, "leastRank", "(LRankMesh;I[J)I"⟩
abbrev cL_up : ByteArray := method_15_code
def yL_up : MethodName := ⟨RL, "up", "(LRankMesh;I[J)I"⟩
abbrev cL_below : ByteArray := method_16_code
def yL_below : MethodName := ⟨RL, "below", "(LRankMesh;I[J)I"⟩
abbrev cL_down : ByteArray := method_17_code
def yL_down : MethodName := ⟨RL, "down", "(LRankMesh;II[J)I"⟩
abbrev cL_law : ByteArray := code
def yL_law : MethodName := ⟨RL, "law", "([I)Z"⟩
def wsX0_clearNode : List Cond := .code yX0_clearNode cX0_clearNode 2 none :: ([.fieldLink RX0 50 "RankMesh" "treeOf" "[I", .fieldLink RX0 53 "RankMesh" "versionOf" "[I", .fieldLink RX0 56 "RankMesh" "rankOf" "[I", .fieldLink RX0 59 "RankMesh" "lowestRank" "[I", .fieldLink RX0 62 "RankMesh" "parentOf" "[I"] ++ wsX00)
def wsX0_resetTimer : List Cond := .code yX0_resetTimer cX0_resetTimer 2 none :: ([.fieldLink RX0 65 "RankMesh" "interval" "[I", .fieldLink RX0 16 "RankMesh" "leastInterval" "I", .fieldLink RX0 68 "RankMesh" "tellsAt" "[I", .fieldLink RX0 22 "RankMesh" "now" "I"] ++ wsX00)
def wsX0_forget : List Cond := .code yX0_forget cX0_forget 3 none :: ([.fieldLink RX0 33 "RankMesh" "heardTree" "[[I", .fieldLink RX0 36 "RankMesh" "heardVersion" "[[I", .fieldLink RX0 39 "RankMesh" "heardRank" "[[I"] ++ wsX00)
def wsX0_init_r1 : List Cond := [Cond.methodLink RX0 3 objectInit, Cond.instanceMethod objectInit, Cond.code objectInit ⟨#[0xb1]⟩ 1 none, Cond.fieldLink RX0 9 "RankMesh" "hysteresis" "I", Cond.fieldLink RX0 13 "RankMesh" "increase" "I", Cond.fieldLink RX0 16 "RankMesh" "leastInterval" "I", Cond.fieldLink RX0 19 "RankMesh" "doublings" "I", Cond.fieldLink RX0 22 "RankMesh" "now" "I", Cond.fieldLink RX0 25 "RankMesh" "droppedPackets" "I", Cond.classLink RX0 28 "[[I", Cond.arrayClass .int, Cond.fieldLink RX0 30 "RankMesh" "costOf" "[[I", Cond.fieldLink RX0 33 "RankMesh" "heardTree" "[[I", Cond.fieldLink RX0 36 "RankMesh" "heardVersion" "[[I", Cond.fieldLink RX0 39 "RankMesh" "heardRank" "[[I", Cond.arrayClass .boolean, Cond.fieldLink RX0 42 "RankMesh" "isRoot" "[Z", Cond.fieldLink RX0 46 "RankMesh" "lastRootVersion" "[I", Cond.fieldLink RX0 50 "RankMesh" "treeOf" "[I", Cond.fieldLink RX0 53 "RankMesh" "versionOf" "[I", Cond.fieldLink RX0 56 "RankMesh" "rankOf" "[I", Cond.fieldLink RX0 59 "RankMesh" "lowestRank" "[I", Cond.fieldLink RX0 62 "RankMesh" "parentOf" "[I", Cond.fieldLink RX0 65 "RankMesh" "interval" "[I"]
def wsX0_init_r2 : List Cond := [Cond.fieldLink RX0 68 "RankMesh" "tellsAt" "[I", Cond.fieldLink RX0 71 "RankMesh" "wayCost" "[I", Cond.methodLink RX0 74 yX0_clearNode, Cond.instanceMethod yX0_clearNode, Cond.selects RX0 yX0_clearNode yX0_clearNode, Cond.initialized RX0, Cond.code yX0_clearNode cX0_clearNode 2 none, Cond.methodLink RX0 78 yX0_resetTimer, Cond.instanceMethod yX0_resetTimer, Cond.selects RX0 yX0_resetTimer yX0_resetTimer, Cond.code yX0_resetTimer cX0_resetTimer 2 none, Cond.methodLink RX0 81 yX0_forget, Cond.instanceMethod yX0_forget, Cond.selects RX0 yX0_forget yX0_forget, Cond.code yX0_forget cX0_forget 3 none]
def wsX0_init : List Cond := .code yX0_init cX0_init 3 none :: ((wsX0_init_r1 ++ wsX0_init_r2) ++ wsX00)
def wsX0_requireRange : List Cond := .code yX0_requireRange cX0_requireRange 3 none :: ([.classLink RX0 92 "java/lang/IllegalArgumentException", .initialized "java/lang/IllegalArgumentException"] ++ (vx_atS RX0 96 "java/lang/IllegalArgumentException" ["java/lang/RuntimeException", "java/lang/Exception"]).filter goodWord)
def wsX0_setRules : List Cond := .code yX0_setRules cX0_setRules 5 none :: ([.fieldLink RX0 9 "RankMesh" "hysteresis" "I", .fieldLink RX0 13 "RankMesh" "increase" "I", .fieldLink RX0 16 "RankMesh" "leastInterval" "I", .fieldLink RX0 19 "RankMesh" "doublings" "I", .methodLink RX0 85 yX0_requireRange, .static yX0_requireRange, .initialized RX0, .code yX0_requireRange cX0_requireRange 3 none, .classLink RX0 92 "java/lang/IllegalArgumentException", .initialized "java/lang/IllegalArgumentException"] ++ wsX00 ++ (vx_atS RX0 96 "java/lang/IllegalArgumentException" ["java/lang/RuntimeException", "java/lang/Exception"]).filter goodWord)
def wsX0_isNode : List Cond := .code yX0_isNode cX0_isNode 1 (some .boolean) :: ([])
def wsX0_requireNode : List Cond := .code yX0_requireNode cX0_requireNode 1 none :: ([.classLink RX0 132 "java/lang/IndexOutOfBoundsException", .initialized "java/lang/IndexOutOfBoundsException", .methodLink RX0 121 yX0_isNode, .static yX0_isNode, .initialized RX0, .code yX0_isNode cX0_isNode 1 (some .boolean)] ++ (vx_atS RX0 136 "java/lang/IndexOutOfBoundsException" ["java/lang/RuntimeException", "java/lang/Exception"]).filter goodWord)
def wsX0_rankBy : List Cond := .code yX0_rankBy cX0_rankBy 3 (some .int) :: ([.fieldLink RX0 39 "RankMesh" "heardRank" "[[I", .fieldLink RX0 30 "RankMesh" "costOf" "[[I"] ++ wsX00)
def wsX0_isOutdated : List Cond := .code yX0_isOutdated cX0_isOutdated 6 (some .boolean) :: ([.fieldLink RX0 33 "RankMesh" "heardTree" "[[I", .fieldLink RX0 36 "RankMesh" "heardVersion" "[[I", .fieldLink RX0 50 "RankMesh" "treeOf" "[I", .fieldLink RX0 53 "RankMesh" "versionOf" "[I"] ++ wsX00)
def wsX0_heardOwnVersion : List Cond := .code yX0_heardOwnVersion cX0_heardOwnVersion 3 (some .boolean) :: ([.fieldLink RX0 33 "RankMesh" "heardTree" "[[I", .fieldLink RX0 50 "RankMesh" "treeOf" "[I", .fieldLink RX0 36 "RankMesh" "heardVersion" "[[I", .fieldLink RX0 53 "RankMesh" "versionOf" "[I"] ++ wsX00)
def wsX0_isTooDeep : List Cond := .code yX0_isTooDeep cX0_isTooDeep 3 (some .boolean) :: ([.fieldLink RX0 56 "RankMesh" "rankOf" "[I", .fieldLink RX0 39 "RankMesh" "heardRank" "[[I", .fieldLink RX0 59 "RankMesh" "lowestRank" "[I", .fieldLink RX0 13 "RankMesh" "increase" "I", .methodLink RX0 178 yX0_heardOwnVersion, .instanceMethod yX0_heardOwnVersion, .selects RX0 yX0_heardOwnVersion yX0_heardOwnVersion, .initialized RX0, .code yX0_heardOwnVersion cX0_heardOwnVersion 3 (some .boolean), .fieldLink RX0 33 "RankMesh" "heardTree" "[[I", .fieldLink RX0 50 "RankMesh" "treeOf" "[I", .fieldLink RX0 36 "RankMesh" "heardVersion" "[[I", .fieldLink RX0 53 "RankMesh" "versionOf" "[I", .methodLink RX0 169 yX0_rankBy, .instanceMethod yX0_rankBy, .selects RX0 yX0_rankBy yX0_rankBy, .code yX0_rankBy cX0_rankBy 3 (some .int), .fieldLink RX0 30 "RankMesh" "costOf" "[[I"] ++ wsX00)
def wsX0_isCandidate_r1 : List Cond := [Cond.fieldLink RX0 39 "RankMesh" "heardRank" "[[I", Cond.methodLink RX0 169 yX0_rankBy, Cond.instanceMethod yX0_rankBy, Cond.selects RX0 yX0_rankBy yX0_rankBy, Cond.initialized RX0, Cond.code yX0_rankBy cX0_rankBy 3 (some .int), Cond.fieldLink RX0 30 "RankMesh" "costOf" "[[I", Cond.methodLink RX0 172 yX0_isOutdated, Cond.instanceMethod yX0_isOutdated, Cond.selects RX0 yX0_isOutdated yX0_isOutdated, Cond.code yX0_isOutdated cX0_isOutdated 6 (some .boolean), Cond.fieldLink RX0 33 "RankMesh" "heardTree" "[[I", Cond.fieldLink RX0 36 "RankMesh" "heardVersion" "[[I", Cond.fieldLink RX0 50 "RankMesh" "treeOf" "[I", Cond.fieldLink RX0 53 "RankMesh" "versionOf" "[I", Cond.methodLink RX0 175 yX0_isTooDeep, Cond.instanceMethod yX0_isTooDeep, Cond.selects RX0 yX0_isTooDeep yX0_isTooDeep, Cond.code yX0_isTooDeep cX0_isTooDeep 3 (some .boolean), Cond.fieldLink RX0 56 "RankMesh" "rankOf" "[I", Cond.fieldLink RX0 59 "RankMesh" "lowestRank" "[I", Cond.fieldLink RX0 13 "RankMesh" "increase" "I", Cond.methodLink RX0 178 yX0_heardOwnVersion, Cond.instanceMethod yX0_heardOwnVersion]
def wsX0_isCandidate_r2 : List Cond := [Cond.selects RX0 yX0_heardOwnVersion yX0_heardOwnVersion, Cond.code yX0_heardOwnVersion cX0_heardOwnVersion 3 (some .boolean)]
def wsX0_isCandidate : List Cond := .code yX0_isCandidate cX0_isCandidate 4 (some .boolean) :: ((wsX0_isCandidate_r1 ++ wsX0_isCandidate_r2) ++ wsX00)
def wsX0_bestCandidate_r1 : List Cond := [Cond.methodLink RX0 169 yX0_rankBy, Cond.instanceMethod yX0_rankBy, Cond.selects RX0 yX0_rankBy yX0_rankBy, Cond.initialized RX0, Cond.code yX0_rankBy cX0_rankBy 3 (some .int), Cond.fieldLink RX0 39 "RankMesh" "heardRank" "[[I", Cond.fieldLink RX0 30 "RankMesh" "costOf" "[[I", Cond.methodLink RX0 166 yX0_isCandidate, Cond.instanceMethod yX0_isCandidate, Cond.selects RX0 yX0_isCandidate yX0_isCandidate, Cond.code yX0_isCandidate cX0_isCandidate 4 (some .boolean), Cond.methodLink RX0 172 yX0_isOutdated, Cond.instanceMethod yX0_isOutdated, Cond.selects RX0 yX0_isOutdated yX0_isOutdated, Cond.code yX0_isOutdated cX0_isOutdated 6 (some .boolean), Cond.fieldLink RX0 33 "RankMesh" "heardTree" "[[I", Cond.fieldLink RX0 36 "RankMesh" "heardVersion" "[[I", Cond.fieldLink RX0 50 "RankMesh" "treeOf" "[I", Cond.fieldLink RX0 53 "RankMesh" "versionOf" "[I", Cond.methodLink RX0 175 yX0_isTooDeep, Cond.instanceMethod yX0_isTooDeep, Cond.selects RX0 yX0_isTooDeep yX0_isTooDeep, Cond.code yX0_isTooDeep cX0_isTooDeep 3 (some .boolean), Cond.fieldLink RX0 56 "RankMesh" "rankOf" "[I"]
def wsX0_bestCandidate_r2 : List Cond := [Cond.fieldLink RX0 59 "RankMesh" "lowestRank" "[I", Cond.fieldLink RX0 13 "RankMesh" "increase" "I", Cond.methodLink RX0 178 yX0_heardOwnVersion, Cond.instanceMethod yX0_heardOwnVersion, Cond.selects RX0 yX0_heardOwnVersion yX0_heardOwnVersion, Cond.code yX0_heardOwnVersion cX0_heardOwnVersion 3 (some .boolean)]
def wsX0_bestCandidate : List Cond := .code yX0_bestCandidate cX0_bestCandidate 6 (some .int) :: ((wsX0_bestCandidate_r1 ++ wsX0_bestCandidate_r2) ++ wsX00)
def wsX0_loseParent : List Cond := .code yX0_loseParent cX0_loseParent 3 none :: ([.fieldLink RX0 56 "RankMesh" "rankOf" "[I", .fieldLink RX0 62 "RankMesh" "parentOf" "[I", .methodLink RX0 78 yX0_resetTimer, .instanceMethod yX0_resetTimer, .selects RX0 yX0_resetTimer yX0_resetTimer, .initialized RX0, .code yX0_resetTimer cX0_resetTimer 2 none, .fieldLink RX0 65 "RankMesh" "interval" "[I", .fieldLink RX0 16 "RankMesh" "leastInterval" "I", .fieldLink RX0 68 "RankMesh" "tellsAt" "[I", .fieldLink RX0 22 "RankMesh" "now" "I"] ++ wsX00)
def wsX0_keepsParent_r1 : List Cond := [Cond.fieldLink RX0 62 "RankMesh" "parentOf" "[I", Cond.fieldLink RX0 9 "RankMesh" "hysteresis" "I", Cond.methodLink RX0 121 yX0_isNode, Cond.static yX0_isNode, Cond.initialized RX0, Cond.code yX0_isNode cX0_isNode 1 (some .boolean), Cond.methodLink RX0 166 yX0_isCandidate, Cond.instanceMethod yX0_isCandidate, Cond.selects RX0 yX0_isCandidate yX0_isCandidate, Cond.code yX0_isCandidate cX0_isCandidate 4 (some .boolean), Cond.fieldLink RX0 39 "RankMesh" "heardRank" "[[I", Cond.methodLink RX0 169 yX0_rankBy, Cond.instanceMethod yX0_rankBy, Cond.selects RX0 yX0_rankBy yX0_rankBy, Cond.code yX0_rankBy cX0_rankBy 3 (some .int), Cond.fieldLink RX0 30 "RankMesh" "costOf" "[[I", Cond.methodLink RX0 172 yX0_isOutdated, Cond.instanceMethod yX0_isOutdated, Cond.selects RX0 yX0_isOutdated yX0_isOutdated, Cond.code yX0_isOutdated cX0_isOutdated 6 (some .boolean), Cond.fieldLink RX0 33 "RankMesh" "heardTree" "[[I", Cond.fieldLink RX0 36 "RankMesh" "heardVersion" "[[I", Cond.fieldLink RX0 50 "RankMesh" "treeOf" "[I", Cond.fieldLink RX0 53 "RankMesh" "versionOf" "[I"]
def wsX0_keepsParent_r2 : List Cond := [Cond.methodLink RX0 175 yX0_isTooDeep, Cond.instanceMethod yX0_isTooDeep, Cond.selects RX0 yX0_isTooDeep yX0_isTooDeep, Cond.code yX0_isTooDeep cX0_isTooDeep 3 (some .boolean), Cond.fieldLink RX0 56 "RankMesh" "rankOf" "[I", Cond.fieldLink RX0 59 "RankMesh" "lowestRank" "[I", Cond.fieldLink RX0 13 "RankMesh" "increase" "I", Cond.methodLink RX0 178 yX0_heardOwnVersion, Cond.instanceMethod yX0_heardOwnVersion, Cond.selects RX0 yX0_heardOwnVersion yX0_heardOwnVersion, Cond.code yX0_heardOwnVersion cX0_heardOwnVersion 3 (some .boolean)]
def wsX0_keepsParent : List Cond := .code yX0_keepsParent cX0_keepsParent 5 (some .boolean) :: ((wsX0_keepsParent_r1 ++ wsX0_keepsParent_r2) ++ wsX00)
def wsX0_follow_r1 : List Cond := [Cond.fieldLink RX0 56 "RankMesh" "rankOf" "[I", Cond.fieldLink RX0 62 "RankMesh" "parentOf" "[I", Cond.fieldLink RX0 59 "RankMesh" "lowestRank" "[I", Cond.methodLink RX0 141 Lib.Math.min.name, Cond.static Lib.Math.min.name, Cond.initialized "java/lang/Math", Cond.code Lib.Math.min.name Lib.Math.min.code 2 (some .int), Cond.fieldLink RX0 50 "RankMesh" "treeOf" "[I", Cond.fieldLink RX0 33 "RankMesh" "heardTree" "[[I", Cond.fieldLink RX0 53 "RankMesh" "versionOf" "[I", Cond.fieldLink RX0 36 "RankMesh" "heardVersion" "[[I", Cond.methodLink RX0 169 yX0_rankBy, Cond.instanceMethod yX0_rankBy, Cond.selects RX0 yX0_rankBy yX0_rankBy, Cond.initialized RX0, Cond.code yX0_rankBy cX0_rankBy 3 (some .int), Cond.fieldLink RX0 39 "RankMesh" "heardRank" "[[I", Cond.fieldLink RX0 30 "RankMesh" "costOf" "[[I", Cond.methodLink RX0 178 yX0_heardOwnVersion, Cond.instanceMethod yX0_heardOwnVersion, Cond.selects RX0 yX0_heardOwnVersion yX0_heardOwnVersion, Cond.code yX0_heardOwnVersion cX0_heardOwnVersion 3 (some .boolean), Cond.methodLink RX0 78 yX0_resetTimer, Cond.instanceMethod yX0_resetTimer]
def wsX0_follow_r2 : List Cond := [Cond.selects RX0 yX0_resetTimer yX0_resetTimer, Cond.code yX0_resetTimer cX0_resetTimer 2 none, Cond.fieldLink RX0 65 "RankMesh" "interval" "[I", Cond.fieldLink RX0 16 "RankMesh" "leastInterval" "I", Cond.fieldLink RX0 68 "RankMesh" "tellsAt" "[I", Cond.fieldLink RX0 22 "RankMesh" "now" "I"]
def wsX0_follow : List Cond := .code yX0_follow cX0_follow 6 none :: ((wsX0_follow_r1 ++ wsX0_follow_r2) ++ wsX00)
def wsX0_choose_r1 : List Cond := [Cond.fieldLink RX0 42 "RankMesh" "isRoot" "[Z", Cond.fieldLink RX0 62 "RankMesh" "parentOf" "[I", Cond.methodLink RX0 153 yX0_bestCandidate, Cond.instanceMethod yX0_bestCandidate, Cond.selects RX0 yX0_bestCandidate yX0_bestCandidate, Cond.initialized RX0, Cond.code yX0_bestCandidate cX0_bestCandidate 6 (some .int), Cond.methodLink RX0 169 yX0_rankBy, Cond.instanceMethod yX0_rankBy, Cond.selects RX0 yX0_rankBy yX0_rankBy, Cond.code yX0_rankBy cX0_rankBy 3 (some .int), Cond.fieldLink RX0 39 "RankMesh" "heardRank" "[[I", Cond.fieldLink RX0 30 "RankMesh" "costOf" "[[I", Cond.methodLink RX0 166 yX0_isCandidate, Cond.instanceMethod yX0_isCandidate, Cond.selects RX0 yX0_isCandidate yX0_isCandidate, Cond.code yX0_isCandidate cX0_isCandidate 4 (some .boolean), Cond.methodLink RX0 172 yX0_isOutdated, Cond.instanceMethod yX0_isOutdated, Cond.selects RX0 yX0_isOutdated yX0_isOutdated, Cond.code yX0_isOutdated cX0_isOutdated 6 (some .boolean), Cond.fieldLink RX0 33 "RankMesh" "heardTree" "[[I", Cond.fieldLink RX0 36 "RankMesh" "heardVersion" "[[I", Cond.fieldLink RX0 50 "RankMesh" "treeOf" "[I"]
def wsX0_choose_r2 : List Cond := [Cond.fieldLink RX0 53 "RankMesh" "versionOf" "[I", Cond.methodLink RX0 175 yX0_isTooDeep, Cond.instanceMethod yX0_isTooDeep, Cond.selects RX0 yX0_isTooDeep yX0_isTooDeep, Cond.code yX0_isTooDeep cX0_isTooDeep 3 (some .boolean), Cond.fieldLink RX0 56 "RankMesh" "rankOf" "[I", Cond.fieldLink RX0 59 "RankMesh" "lowestRank" "[I", Cond.fieldLink RX0 13 "RankMesh" "increase" "I", Cond.methodLink RX0 178 yX0_heardOwnVersion, Cond.instanceMethod yX0_heardOwnVersion, Cond.selects RX0 yX0_heardOwnVersion yX0_heardOwnVersion, Cond.code yX0_heardOwnVersion cX0_heardOwnVersion 3 (some .boolean), Cond.methodLink RX0 121 yX0_isNode, Cond.static yX0_isNode, Cond.code yX0_isNode cX0_isNode 1 (some .boolean), Cond.methodLink RX0 156 yX0_loseParent, Cond.instanceMethod yX0_loseParent, Cond.selects RX0 yX0_loseParent yX0_loseParent, Cond.code yX0_loseParent cX0_loseParent 3 none, Cond.methodLink RX0 78 yX0_resetTimer, Cond.instanceMethod yX0_resetTimer, Cond.selects RX0 yX0_resetTimer yX0_resetTimer, Cond.code yX0_resetTimer cX0_resetTimer 2 none, Cond.fieldLink RX0 65 "RankMesh" "interval" "[I"]
def wsX0_choose_r3 : List Cond := [Cond.fieldLink RX0 16 "RankMesh" "leastInterval" "I", Cond.fieldLink RX0 68 "RankMesh" "tellsAt" "[I", Cond.fieldLink RX0 22 "RankMesh" "now" "I", Cond.methodLink RX0 159 yX0_keepsParent, Cond.instanceMethod yX0_keepsParent, Cond.selects RX0 yX0_keepsParent yX0_keepsParent, Cond.code yX0_keepsParent cX0_keepsParent 5 (some .boolean), Cond.fieldLink RX0 9 "RankMesh" "hysteresis" "I", Cond.methodLink RX0 163 yX0_follow, Cond.instanceMethod yX0_follow, Cond.selects RX0 yX0_follow yX0_follow, Cond.code yX0_follow cX0_follow 6 none, Cond.methodLink RX0 141 Lib.Math.min.name, Cond.static Lib.Math.min.name, Cond.initialized "java/lang/Math", Cond.code Lib.Math.min.name Lib.Math.min.code 2 (some .int)]
def wsX0_choose : List Cond := .code yX0_choose cX0_choose 3 none :: ((wsX0_choose_r1 ++ (wsX0_choose_r2 ++ wsX0_choose_r3)) ++ wsX00)
def wsX0_link_r1 : List Cond := [Cond.classLink RX0 92 "java/lang/IllegalArgumentException", Cond.initialized "java/lang/IllegalArgumentException", Cond.fieldLink RX0 30 "RankMesh" "costOf" "[[I", Cond.methodLink RX0 89 yX0_requireNode, Cond.static yX0_requireNode, Cond.initialized RX0, Cond.code yX0_requireNode cX0_requireNode 1 none, Cond.classLink RX0 132 "java/lang/IndexOutOfBoundsException", Cond.initialized "java/lang/IndexOutOfBoundsException", Cond.methodLink RX0 121 yX0_isNode, Cond.static yX0_isNode, Cond.code yX0_isNode cX0_isNode 1 (some .boolean), Cond.methodLink RX0 85 yX0_requireRange, Cond.static yX0_requireRange, Cond.code yX0_requireRange cX0_requireRange 3 none, Cond.methodLink RX0 81 yX0_forget, Cond.instanceMethod yX0_forget, Cond.selects RX0 yX0_forget yX0_forget, Cond.code yX0_forget cX0_forget 3 none, Cond.fieldLink RX0 33 "RankMesh" "heardTree" "[[I", Cond.fieldLink RX0 36 "RankMesh" "heardVersion" "[[I", Cond.fieldLink RX0 39 "RankMesh" "heardRank" "[[I", Cond.methodLink RX0 99 yX0_choose, Cond.instanceMethod yX0_choose]
def wsX0_link_r2 : List Cond := [Cond.selects RX0 yX0_choose yX0_choose, Cond.code yX0_choose cX0_choose 3 none, Cond.fieldLink RX0 42 "RankMesh" "isRoot" "[Z", Cond.fieldLink RX0 62 "RankMesh" "parentOf" "[I", Cond.methodLink RX0 153 yX0_bestCandidate, Cond.instanceMethod yX0_bestCandidate, Cond.selects RX0 yX0_bestCandidate yX0_bestCandidate, Cond.code yX0_bestCandidate cX0_bestCandidate 6 (some .int), Cond.methodLink RX0 169 yX0_rankBy, Cond.instanceMethod yX0_rankBy, Cond.selects RX0 yX0_rankBy yX0_rankBy, Cond.code yX0_rankBy cX0_rankBy 3 (some .int), Cond.methodLink RX0 166 yX0_isCandidate, Cond.instanceMethod yX0_isCandidate, Cond.selects RX0 yX0_isCandidate yX0_isCandidate, Cond.code yX0_isCandidate cX0_isCandidate 4 (some .boolean), Cond.methodLink RX0 172 yX0_isOutdated, Cond.instanceMethod yX0_isOutdated, Cond.selects RX0 yX0_isOutdated yX0_isOutdated, Cond.code yX0_isOutdated cX0_isOutdated 6 (some .boolean), Cond.fieldLink RX0 50 "RankMesh" "treeOf" "[I", Cond.fieldLink RX0 53 "RankMesh" "versionOf" "[I", Cond.methodLink RX0 175 yX0_isTooDeep, Cond.instanceMethod yX0_isTooDeep]
def wsX0_link_r3 : List Cond := [Cond.selects RX0 yX0_isTooDeep yX0_isTooDeep, Cond.code yX0_isTooDeep cX0_isTooDeep 3 (some .boolean), Cond.fieldLink RX0 56 "RankMesh" "rankOf" "[I", Cond.fieldLink RX0 59 "RankMesh" "lowestRank" "[I", Cond.fieldLink RX0 13 "RankMesh" "increase" "I", Cond.methodLink RX0 178 yX0_heardOwnVersion, Cond.instanceMethod yX0_heardOwnVersion, Cond.selects RX0 yX0_heardOwnVersion yX0_heardOwnVersion, Cond.code yX0_heardOwnVersion cX0_heardOwnVersion 3 (some .boolean), Cond.methodLink RX0 156 yX0_loseParent, Cond.instanceMethod yX0_loseParent, Cond.selects RX0 yX0_loseParent yX0_loseParent, Cond.code yX0_loseParent cX0_loseParent 3 none, Cond.methodLink RX0 78 yX0_resetTimer, Cond.instanceMethod yX0_resetTimer, Cond.selects RX0 yX0_resetTimer yX0_resetTimer, Cond.code yX0_resetTimer cX0_resetTimer 2 none, Cond.fieldLink RX0 65 "RankMesh" "interval" "[I", Cond.fieldLink RX0 16 "RankMesh" "leastInterval" "I", Cond.fieldLink RX0 68 "RankMesh" "tellsAt" "[I", Cond.fieldLink RX0 22 "RankMesh" "now" "I", Cond.methodLink RX0 159 yX0_keepsParent, Cond.instanceMethod yX0_keepsParent, Cond.selects RX0 yX0_keepsParent yX0_keepsParent]
def wsX0_link_r4 : List Cond := [Cond.code yX0_keepsParent cX0_keepsParent 5 (some .boolean), Cond.fieldLink RX0 9 "RankMesh" "hysteresis" "I", Cond.methodLink RX0 163 yX0_follow, Cond.instanceMethod yX0_follow, Cond.selects RX0 yX0_follow yX0_follow, Cond.code yX0_follow cX0_follow 6 none, Cond.methodLink RX0 141 Lib.Math.min.name, Cond.static Lib.Math.min.name, Cond.initialized "java/lang/Math", Cond.code Lib.Math.min.name Lib.Math.min.code 2 (some .int)]
def wsX0_link : List Cond := .code yX0_link cX0_link 5 (some .int) :: ((wsX0_link_r1 ++ (wsX0_link_r2 ++ (wsX0_link_r3 ++ wsX0_link_r4))) ++ wsX00 ++ (vx_atS RX0 96 "java/lang/IllegalArgumentException" ["java/lang/RuntimeException", "java/lang/Exception"]).filter goodWord ++ (vx_atS RX0 136 "java/lang/IndexOutOfBoundsException" ["java/lang/RuntimeException", "java/lang/Exception"]).filter goodWord)
def wsX0_beginVersion : List Cond := .code yX0_beginVersion cX0_beginVersion 2 (some .int) :: ([.fieldLink RX0 46 "RankMesh" "lastRootVersion" "[I", .fieldLink RX0 53 "RankMesh" "versionOf" "[I", .methodLink RX0 78 yX0_resetTimer, .instanceMethod yX0_resetTimer, .selects RX0 yX0_resetTimer yX0_resetTimer, .initialized RX0, .code yX0_resetTimer cX0_resetTimer 2 none, .fieldLink RX0 65 "RankMesh" "interval" "[I", .fieldLink RX0 16 "RankMesh" "leastInterval" "I", .fieldLink RX0 68 "RankMesh" "tellsAt" "[I", .fieldLink RX0 22 "RankMesh" "now" "I"] ++ wsX00)
def wsX0_makeRoot_r1 : List Cond := [Cond.classLink RX0 102 "java/lang/IllegalStateException", Cond.initialized "java/lang/IllegalStateException", Cond.fieldLink RX0 42 "RankMesh" "isRoot" "[Z", Cond.fieldLink RX0 50 "RankMesh" "treeOf" "[I", Cond.fieldLink RX0 56 "RankMesh" "rankOf" "[I", Cond.fieldLink RX0 59 "RankMesh" "lowestRank" "[I", Cond.fieldLink RX0 62 "RankMesh" "parentOf" "[I", Cond.methodLink RX0 89 yX0_requireNode, Cond.static yX0_requireNode, Cond.initialized RX0, Cond.code yX0_requireNode cX0_requireNode 1 none, Cond.classLink RX0 132 "java/lang/IndexOutOfBoundsException", Cond.initialized "java/lang/IndexOutOfBoundsException", Cond.methodLink RX0 121 yX0_isNode, Cond.static yX0_isNode, Cond.code yX0_isNode cX0_isNode 1 (some .boolean), Cond.methodLink RX0 107 yX0_beginVersion, Cond.instanceMethod yX0_beginVersion, Cond.selects RX0 yX0_beginVersion yX0_beginVersion, Cond.code yX0_beginVersion cX0_beginVersion 2 (some .int), Cond.fieldLink RX0 46 "RankMesh" "lastRootVersion" "[I", Cond.fieldLink RX0 53 "RankMesh" "versionOf" "[I", Cond.methodLink RX0 78 yX0_resetTimer, Cond.instanceMethod yX0_resetTimer]
def wsX0_makeRoot_r2 : List Cond := [Cond.selects RX0 yX0_resetTimer yX0_resetTimer, Cond.code yX0_resetTimer cX0_resetTimer 2 none, Cond.fieldLink RX0 65 "RankMesh" "interval" "[I", Cond.fieldLink RX0 16 "RankMesh" "leastInterval" "I", Cond.fieldLink RX0 68 "RankMesh" "tellsAt" "[I", Cond.fieldLink RX0 22 "RankMesh" "now" "I"]
def wsX0_makeRoot : List Cond := .code yX0_makeRoot cX0_makeRoot 2 (some .int) :: ((wsX0_makeRoot_r1 ++ wsX0_makeRoot_r2) ++ wsX00 ++ (vx_atS RX0 106 "java/lang/IllegalStateException" ["java/lang/RuntimeException", "java/lang/Exception"]).filter goodWord ++ (vx_atS RX0 136 "java/lang/IndexOutOfBoundsException" ["java/lang/RuntimeException", "java/lang/Exception"]).filter goodWord)
def wsX0_requireRoot : List Cond := .code yX0_requireRoot cX0_requireRoot 2 none :: ([.classLink RX0 102 "java/lang/IllegalStateException", .initialized "java/lang/IllegalStateException", .fieldLink RX0 42 "RankMesh" "isRoot" "[Z", .methodLink RX0 89 yX0_requireNode, .static yX0_requireNode, .initialized RX0, .code yX0_requireNode cX0_requireNode 1 none, .classLink RX0 132 "java/lang/IndexOutOfBoundsException", .initialized "java/lang/IndexOutOfBoundsException", .methodLink RX0 121 yX0_isNode, .static yX0_isNode, .code yX0_isNode cX0_isNode 1 (some .boolean)] ++ wsX00 ++ (vx_atS RX0 106 "java/lang/IllegalStateException" ["java/lang/RuntimeException", "java/lang/Exception"]).filter goodWord ++ (vx_atS RX0 136 "java/lang/IndexOutOfBoundsException" ["java/lang/RuntimeException", "java/lang/Exception"]).filter goodWord)
def wsX0_endRoot_r1 : List Cond := [Cond.fieldLink RX0 42 "RankMesh" "isRoot" "[Z", Cond.methodLink RX0 111 yX0_requireRoot, Cond.instanceMethod yX0_requireRoot, Cond.selects RX0 yX0_requireRoot yX0_requireRoot, Cond.initialized RX0, Cond.code yX0_requireRoot cX0_requireRoot 2 none, Cond.classLink RX0 102 "java/lang/IllegalStateException", Cond.initialized "java/lang/IllegalStateException", Cond.methodLink RX0 89 yX0_requireNode, Cond.static yX0_requireNode, Cond.code yX0_requireNode cX0_requireNode 1 none, Cond.classLink RX0 132 "java/lang/IndexOutOfBoundsException", Cond.initialized "java/lang/IndexOutOfBoundsException", Cond.methodLink RX0 121 yX0_isNode, Cond.static yX0_isNode, Cond.code yX0_isNode cX0_isNode 1 (some .boolean), Cond.methodLink RX0 74 yX0_clearNode, Cond.instanceMethod yX0_clearNode, Cond.selects RX0 yX0_clearNode yX0_clearNode, Cond.code yX0_clearNode cX0_clearNode 2 none, Cond.fieldLink RX0 50 "RankMesh" "treeOf" "[I", Cond.fieldLink RX0 53 "RankMesh" "versionOf" "[I", Cond.fieldLink RX0 56 "RankMesh" "rankOf" "[I", Cond.fieldLink RX0 59 "RankMesh" "lowestRank" "[I"]
def wsX0_endRoot_r2 : List Cond := [Cond.fieldLink RX0 62 "RankMesh" "parentOf" "[I", Cond.methodLink RX0 78 yX0_resetTimer, Cond.instanceMethod yX0_resetTimer, Cond.selects RX0 yX0_resetTimer yX0_resetTimer, Cond.code yX0_resetTimer cX0_resetTimer 2 none, Cond.fieldLink RX0 65 "RankMesh" "interval" "[I", Cond.fieldLink RX0 16 "RankMesh" "leastInterval" "I", Cond.fieldLink RX0 68 "RankMesh" "tellsAt" "[I", Cond.fieldLink RX0 22 "RankMesh" "now" "I", Cond.methodLink RX0 99 yX0_choose, Cond.instanceMethod yX0_choose, Cond.selects RX0 yX0_choose yX0_choose, Cond.code yX0_choose cX0_choose 3 none, Cond.methodLink RX0 153 yX0_bestCandidate, Cond.instanceMethod yX0_bestCandidate, Cond.selects RX0 yX0_bestCandidate yX0_bestCandidate, Cond.code yX0_bestCandidate cX0_bestCandidate 6 (some .int), Cond.methodLink RX0 169 yX0_rankBy, Cond.instanceMethod yX0_rankBy, Cond.selects RX0 yX0_rankBy yX0_rankBy, Cond.code yX0_rankBy cX0_rankBy 3 (some .int), Cond.fieldLink RX0 39 "RankMesh" "heardRank" "[[I", Cond.fieldLink RX0 30 "RankMesh" "costOf" "[[I", Cond.methodLink RX0 166 yX0_isCandidate]
def wsX0_endRoot_r3 : List Cond := [Cond.instanceMethod yX0_isCandidate, Cond.selects RX0 yX0_isCandidate yX0_isCandidate, Cond.code yX0_isCandidate cX0_isCandidate 4 (some .boolean), Cond.methodLink RX0 172 yX0_isOutdated, Cond.instanceMethod yX0_isOutdated, Cond.selects RX0 yX0_isOutdated yX0_isOutdated, Cond.code yX0_isOutdated cX0_isOutdated 6 (some .boolean), Cond.fieldLink RX0 33 "RankMesh" "heardTree" "[[I", Cond.fieldLink RX0 36 "RankMesh" "heardVersion" "[[I", Cond.methodLink RX0 175 yX0_isTooDeep, Cond.instanceMethod yX0_isTooDeep, Cond.selects RX0 yX0_isTooDeep yX0_isTooDeep, Cond.code yX0_isTooDeep cX0_isTooDeep 3 (some .boolean), Cond.fieldLink RX0 13 "RankMesh" "increase" "I", Cond.methodLink RX0 178 yX0_heardOwnVersion, Cond.instanceMethod yX0_heardOwnVersion, Cond.selects RX0 yX0_heardOwnVersion yX0_heardOwnVersion, Cond.code yX0_heardOwnVersion cX0_heardOwnVersion 3 (some .boolean), Cond.methodLink RX0 156 yX0_loseParent, Cond.instanceMethod yX0_loseParent, Cond.selects RX0 yX0_loseParent yX0_loseParent, Cond.code yX0_loseParent cX0_loseParent 3 none, Cond.methodLink RX0 159 yX0_keepsParent, Cond.instanceMethod yX0_keepsParent]
def wsX0_endRoot_r4 : List Cond := [Cond.selects RX0 yX0_keepsParent yX0_keepsParent, Cond.code yX0_keepsParent cX0_keepsParent 5 (some .boolean), Cond.fieldLink RX0 9 "RankMesh" "hysteresis" "I", Cond.methodLink RX0 163 yX0_follow, Cond.instanceMethod yX0_follow, Cond.selects RX0 yX0_follow yX0_follow, Cond.code yX0_follow cX0_follow 6 none, Cond.methodLink RX0 141 Lib.Math.min.name, Cond.static Lib.Math.min.name, Cond.initialized "java/lang/Math", Cond.code Lib.Math.min.name Lib.Math.min.code 2 (some .int)]
def wsX0_endRoot : List Cond := .code yX0_endRoot cX0_endRoot 2 none :: ((wsX0_endRoot_r1 ++ (wsX0_endRoot_r2 ++ (wsX0_endRoot_r3 ++ wsX0_endRoot_r4))) ++ wsX00 ++ (vx_atS RX0 106 "java/lang/IllegalStateException" ["java/lang/RuntimeException", "java/lang/Exception"]).filter goodWord ++ (vx_atS RX0 136 "java/lang/IndexOutOfBoundsException" ["java/lang/RuntimeException", "java/lang/Exception"]).filter goodWord)
def wsX0_renew_r1 : List Cond := [Cond.methodLink RX0 111 yX0_requireRoot, Cond.instanceMethod yX0_requireRoot, Cond.selects RX0 yX0_requireRoot yX0_requireRoot, Cond.initialized RX0, Cond.code yX0_requireRoot cX0_requireRoot 2 none, Cond.classLink RX0 102 "java/lang/IllegalStateException", Cond.initialized "java/lang/IllegalStateException", Cond.fieldLink RX0 42 "RankMesh" "isRoot" "[Z", Cond.methodLink RX0 89 yX0_requireNode, Cond.static yX0_requireNode, Cond.code yX0_requireNode cX0_requireNode 1 none, Cond.classLink RX0 132 "java/lang/IndexOutOfBoundsException", Cond.initialized "java/lang/IndexOutOfBoundsException", Cond.methodLink RX0 121 yX0_isNode, Cond.static yX0_isNode, Cond.code yX0_isNode cX0_isNode 1 (some .boolean), Cond.methodLink RX0 107 yX0_beginVersion, Cond.instanceMethod yX0_beginVersion, Cond.selects RX0 yX0_beginVersion yX0_beginVersion, Cond.code yX0_beginVersion cX0_beginVersion 2 (some .int), Cond.fieldLink RX0 46 "RankMesh" "lastRootVersion" "[I", Cond.fieldLink RX0 53 "RankMesh" "versionOf" "[I", Cond.methodLink RX0 78 yX0_resetTimer, Cond.instanceMethod yX0_resetTimer]
def wsX0_renew_r2 : List Cond := [Cond.selects RX0 yX0_resetTimer yX0_resetTimer, Cond.code yX0_resetTimer cX0_resetTimer 2 none, Cond.fieldLink RX0 65 "RankMesh" "interval" "[I", Cond.fieldLink RX0 16 "RankMesh" "leastInterval" "I", Cond.fieldLink RX0 68 "RankMesh" "tellsAt" "[I", Cond.fieldLink RX0 22 "RankMesh" "now" "I"]
def wsX0_renew : List Cond := .code yX0_renew cX0_renew 2 (some .int) :: ((wsX0_renew_r1 ++ wsX0_renew_r2) ++ wsX00 ++ (vx_atS RX0 106 "java/lang/IllegalStateException" ["java/lang/RuntimeException", "java/lang/Exception"]).filter goodWord ++ (vx_atS RX0 136 "java/lang/IndexOutOfBoundsException" ["java/lang/RuntimeException", "java/lang/Exception"]).filter goodWord)
def wsX0_tell_r1 : List Cond := [Cond.fieldLink RX0 30 "RankMesh" "costOf" "[[I", Cond.fieldLink RX0 33 "RankMesh" "heardTree" "[[I", Cond.fieldLink RX0 50 "RankMesh" "treeOf" "[I", Cond.fieldLink RX0 36 "RankMesh" "heardVersion" "[[I", Cond.fieldLink RX0 53 "RankMesh" "versionOf" "[I", Cond.fieldLink RX0 39 "RankMesh" "heardRank" "[[I", Cond.fieldLink RX0 56 "RankMesh" "rankOf" "[I", Cond.methodLink RX0 99 yX0_choose, Cond.instanceMethod yX0_choose, Cond.selects RX0 yX0_choose yX0_choose, Cond.initialized RX0, Cond.code yX0_choose cX0_choose 3 none, Cond.fieldLink RX0 42 "RankMesh" "isRoot" "[Z", Cond.fieldLink RX0 62 "RankMesh" "parentOf" "[I", Cond.methodLink RX0 153 yX0_bestCandidate, Cond.instanceMethod yX0_bestCandidate, Cond.selects RX0 yX0_bestCandidate yX0_bestCandidate, Cond.code yX0_bestCandidate cX0_bestCandidate 6 (some .int), Cond.methodLink RX0 169 yX0_rankBy, Cond.instanceMethod yX0_rankBy, Cond.selects RX0 yX0_rankBy yX0_rankBy, Cond.code yX0_rankBy cX0_rankBy 3 (some .int), Cond.methodLink RX0 166 yX0_isCandidate, Cond.instanceMethod yX0_isCandidate]
def wsX0_tell_r2 : List Cond := [Cond.selects RX0 yX0_isCandidate yX0_isCandidate, Cond.code yX0_isCandidate cX0_isCandidate 4 (some .boolean), Cond.methodLink RX0 172 yX0_isOutdated, Cond.instanceMethod yX0_isOutdated, Cond.selects RX0 yX0_isOutdated yX0_isOutdated, Cond.code yX0_isOutdated cX0_isOutdated 6 (some .boolean), Cond.methodLink RX0 175 yX0_isTooDeep, Cond.instanceMethod yX0_isTooDeep, Cond.selects RX0 yX0_isTooDeep yX0_isTooDeep, Cond.code yX0_isTooDeep cX0_isTooDeep 3 (some .boolean), Cond.fieldLink RX0 59 "RankMesh" "lowestRank" "[I", Cond.fieldLink RX0 13 "RankMesh" "increase" "I", Cond.methodLink RX0 178 yX0_heardOwnVersion, Cond.instanceMethod yX0_heardOwnVersion, Cond.selects RX0 yX0_heardOwnVersion yX0_heardOwnVersion, Cond.code yX0_heardOwnVersion cX0_heardOwnVersion 3 (some .boolean), Cond.methodLink RX0 121 yX0_isNode, Cond.static yX0_isNode, Cond.code yX0_isNode cX0_isNode 1 (some .boolean), Cond.methodLink RX0 156 yX0_loseParent, Cond.instanceMethod yX0_loseParent, Cond.selects RX0 yX0_loseParent yX0_loseParent, Cond.code yX0_loseParent cX0_loseParent 3 none, Cond.methodLink RX0 78 yX0_resetTimer]
def wsX0_tell_r3 : List Cond := [Cond.instanceMethod yX0_resetTimer, Cond.selects RX0 yX0_resetTimer yX0_resetTimer, Cond.code yX0_resetTimer cX0_resetTimer 2 none, Cond.fieldLink RX0 65 "RankMesh" "interval" "[I", Cond.fieldLink RX0 16 "RankMesh" "leastInterval" "I", Cond.fieldLink RX0 68 "RankMesh" "tellsAt" "[I", Cond.fieldLink RX0 22 "RankMesh" "now" "I", Cond.methodLink RX0 159 yX0_keepsParent, Cond.instanceMethod yX0_keepsParent, Cond.selects RX0 yX0_keepsParent yX0_keepsParent, Cond.code yX0_keepsParent cX0_keepsParent 5 (some .boolean), Cond.fieldLink RX0 9 "RankMesh" "hysteresis" "I", Cond.methodLink RX0 163 yX0_follow, Cond.instanceMethod yX0_follow, Cond.selects RX0 yX0_follow yX0_follow, Cond.code yX0_follow cX0_follow 6 none, Cond.methodLink RX0 141 Lib.Math.min.name, Cond.static Lib.Math.min.name, Cond.initialized "java/lang/Math", Cond.code Lib.Math.min.name Lib.Math.min.code 2 (some .int)]
def wsX0_tell : List Cond := .code yX0_tell cX0_tell 3 none :: ((wsX0_tell_r1 ++ (wsX0_tell_r2 ++ wsX0_tell_r3)) ++ wsX00)
def wsX0_lengthenTimer : List Cond := .code yX0_lengthenTimer cX0_lengthenTimer 2 none :: ([.fieldLink RX0 65 "RankMesh" "interval" "[I", .fieldLink RX0 16 "RankMesh" "leastInterval" "I", .fieldLink RX0 19 "RankMesh" "doublings" "I", .methodLink RX0 141 Lib.Math.min.name, .static Lib.Math.min.name, .initialized "java/lang/Math", .code Lib.Math.min.name Lib.Math.min.code 2 (some .int), .fieldLink RX0 68 "RankMesh" "tellsAt" "[I", .fieldLink RX0 22 "RankMesh" "now" "I"] ++ wsX00)
def wsX0_passTick_r1 : List Cond := [Cond.fieldLink RX0 22 "RankMesh" "now" "I", Cond.fieldLink RX0 68 "RankMesh" "tellsAt" "[I", Cond.methodLink RX0 147 yX0_tell, Cond.instanceMethod yX0_tell, Cond.selects RX0 yX0_tell yX0_tell, Cond.initialized RX0, Cond.code yX0_tell cX0_tell 3 none, Cond.fieldLink RX0 30 "RankMesh" "costOf" "[[I", Cond.fieldLink RX0 33 "RankMesh" "heardTree" "[[I", Cond.fieldLink RX0 50 "RankMesh" "treeOf" "[I", Cond.fieldLink RX0 36 "RankMesh" "heardVersion" "[[I", Cond.fieldLink RX0 53 "RankMesh" "versionOf" "[I", Cond.fieldLink RX0 39 "RankMesh" "heardRank" "[[I", Cond.fieldLink RX0 56 "RankMesh" "rankOf" "[I", Cond.methodLink RX0 99 yX0_choose, Cond.instanceMethod yX0_choose, Cond.selects RX0 yX0_choose yX0_choose, Cond.code yX0_choose cX0_choose 3 none, Cond.fieldLink RX0 42 "RankMesh" "isRoot" "[Z", Cond.fieldLink RX0 62 "RankMesh" "parentOf" "[I", Cond.methodLink RX0 153 yX0_bestCandidate, Cond.instanceMethod yX0_bestCandidate, Cond.selects RX0 yX0_bestCandidate yX0_bestCandidate, Cond.code yX0_bestCandidate cX0_bestCandidate 6 (some .int)]
def wsX0_passTick_r2 : List Cond := [Cond.methodLink RX0 169 yX0_rankBy, Cond.instanceMethod yX0_rankBy, Cond.selects RX0 yX0_rankBy yX0_rankBy, Cond.code yX0_rankBy cX0_rankBy 3 (some .int), Cond.methodLink RX0 166 yX0_isCandidate, Cond.instanceMethod yX0_isCandidate, Cond.selects RX0 yX0_isCandidate yX0_isCandidate, Cond.code yX0_isCandidate cX0_isCandidate 4 (some .boolean), Cond.methodLink RX0 172 yX0_isOutdated, Cond.instanceMethod yX0_isOutdated, Cond.selects RX0 yX0_isOutdated yX0_isOutdated, Cond.code yX0_isOutdated cX0_isOutdated 6 (some .boolean), Cond.methodLink RX0 175 yX0_isTooDeep, Cond.instanceMethod yX0_isTooDeep, Cond.selects RX0 yX0_isTooDeep yX0_isTooDeep, Cond.code yX0_isTooDeep cX0_isTooDeep 3 (some .boolean), Cond.fieldLink RX0 59 "RankMesh" "lowestRank" "[I", Cond.fieldLink RX0 13 "RankMesh" "increase" "I", Cond.methodLink RX0 178 yX0_heardOwnVersion, Cond.instanceMethod yX0_heardOwnVersion, Cond.selects RX0 yX0_heardOwnVersion yX0_heardOwnVersion, Cond.code yX0_heardOwnVersion cX0_heardOwnVersion 3 (some .boolean), Cond.methodLink RX0 121 yX0_isNode, Cond.static yX0_isNode]
def wsX0_passTick_r3 : List Cond := [Cond.code yX0_isNode cX0_isNode 1 (some .boolean), Cond.methodLink RX0 156 yX0_loseParent, Cond.instanceMethod yX0_loseParent, Cond.selects RX0 yX0_loseParent yX0_loseParent, Cond.code yX0_loseParent cX0_loseParent 3 none, Cond.methodLink RX0 78 yX0_resetTimer, Cond.instanceMethod yX0_resetTimer, Cond.selects RX0 yX0_resetTimer yX0_resetTimer, Cond.code yX0_resetTimer cX0_resetTimer 2 none, Cond.fieldLink RX0 65 "RankMesh" "interval" "[I", Cond.fieldLink RX0 16 "RankMesh" "leastInterval" "I", Cond.methodLink RX0 159 yX0_keepsParent, Cond.instanceMethod yX0_keepsParent, Cond.selects RX0 yX0_keepsParent yX0_keepsParent, Cond.code yX0_keepsParent cX0_keepsParent 5 (some .boolean), Cond.fieldLink RX0 9 "RankMesh" "hysteresis" "I", Cond.methodLink RX0 163 yX0_follow, Cond.instanceMethod yX0_follow, Cond.selects RX0 yX0_follow yX0_follow, Cond.code yX0_follow cX0_follow 6 none, Cond.methodLink RX0 141 Lib.Math.min.name, Cond.static Lib.Math.min.name, Cond.initialized "java/lang/Math", Cond.code Lib.Math.min.name Lib.Math.min.code 2 (some .int)]
def wsX0_passTick_r4 : List Cond := [Cond.methodLink RX0 150 yX0_lengthenTimer, Cond.instanceMethod yX0_lengthenTimer, Cond.selects RX0 yX0_lengthenTimer yX0_lengthenTimer, Cond.code yX0_lengthenTimer cX0_lengthenTimer 2 none, Cond.fieldLink RX0 19 "RankMesh" "doublings" "I"]
def wsX0_passTick : List Cond := .code yX0_passTick cX0_passTick 3 (some .int) :: ((wsX0_passTick_r1 ++ (wsX0_passTick_r2 ++ (wsX0_passTick_r3 ++ wsX0_passTick_r4))) ++ wsX00)
def wsX0_pass_r1 : List Cond := [Cond.methodLink RX0 85 yX0_requireRange, Cond.static yX0_requireRange, Cond.initialized RX0, Cond.code yX0_requireRange cX0_requireRange 3 none, Cond.classLink RX0 92 "java/lang/IllegalArgumentException", Cond.initialized "java/lang/IllegalArgumentException", Cond.methodLink RX0 114 yX0_passTick, Cond.instanceMethod yX0_passTick, Cond.selects RX0 yX0_passTick yX0_passTick, Cond.code yX0_passTick cX0_passTick 3 (some .int), Cond.fieldLink RX0 22 "RankMesh" "now" "I", Cond.fieldLink RX0 68 "RankMesh" "tellsAt" "[I", Cond.methodLink RX0 147 yX0_tell, Cond.instanceMethod yX0_tell, Cond.selects RX0 yX0_tell yX0_tell, Cond.code yX0_tell cX0_tell 3 none, Cond.fieldLink RX0 30 "RankMesh" "costOf" "[[I", Cond.fieldLink RX0 33 "RankMesh" "heardTree" "[[I", Cond.fieldLink RX0 50 "RankMesh" "treeOf" "[I", Cond.fieldLink RX0 36 "RankMesh" "heardVersion" "[[I", Cond.fieldLink RX0 53 "RankMesh" "versionOf" "[I", Cond.fieldLink RX0 39 "RankMesh" "heardRank" "[[I", Cond.fieldLink RX0 56 "RankMesh" "rankOf" "[I", Cond.methodLink RX0 99 yX0_choose]
def wsX0_pass_r2 : List Cond := [Cond.instanceMethod yX0_choose, Cond.selects RX0 yX0_choose yX0_choose, Cond.code yX0_choose cX0_choose 3 none, Cond.fieldLink RX0 42 "RankMesh" "isRoot" "[Z", Cond.fieldLink RX0 62 "RankMesh" "parentOf" "[I", Cond.methodLink RX0 153 yX0_bestCandidate, Cond.instanceMethod yX0_bestCandidate, Cond.selects RX0 yX0_bestCandidate yX0_bestCandidate, Cond.code yX0_bestCandidate cX0_bestCandidate 6 (some .int), Cond.methodLink RX0 169 yX0_rankBy, Cond.instanceMethod yX0_rankBy, Cond.selects RX0 yX0_rankBy yX0_rankBy, Cond.code yX0_rankBy cX0_rankBy 3 (some .int), Cond.methodLink RX0 166 yX0_isCandidate, Cond.instanceMethod yX0_isCandidate, Cond.selects RX0 yX0_isCandidate yX0_isCandidate, Cond.code yX0_isCandidate cX0_isCandidate 4 (some .boolean), Cond.methodLink RX0 172 yX0_isOutdated, Cond.instanceMethod yX0_isOutdated, Cond.selects RX0 yX0_isOutdated yX0_isOutdated, Cond.code yX0_isOutdated cX0_isOutdated 6 (some .boolean), Cond.methodLink RX0 175 yX0_isTooDeep, Cond.instanceMethod yX0_isTooDeep, Cond.selects RX0 yX0_isTooDeep yX0_isTooDeep]
def wsX0_pass_r3 : List Cond := [Cond.code yX0_isTooDeep cX0_isTooDeep 3 (some .boolean), Cond.fieldLink RX0 59 "RankMesh" "lowestRank" "[I", Cond.fieldLink RX0 13 "RankMesh" "increase" "I", Cond.methodLink RX0 178 yX0_heardOwnVersion, Cond.instanceMethod yX0_heardOwnVersion, Cond.selects RX0 yX0_heardOwnVersion yX0_heardOwnVersion, Cond.code yX0_heardOwnVersion cX0_heardOwnVersion 3 (some .boolean), Cond.methodLink RX0 121 yX0_isNode, Cond.static yX0_isNode, Cond.code yX0_isNode cX0_isNode 1 (some .boolean), Cond.methodLink RX0 156 yX0_loseParent, Cond.instanceMethod yX0_loseParent, Cond.selects RX0 yX0_loseParent yX0_loseParent, Cond.code yX0_loseParent cX0_loseParent 3 none, Cond.methodLink RX0 78 yX0_resetTimer, Cond.instanceMethod yX0_resetTimer, Cond.selects RX0 yX0_resetTimer yX0_resetTimer, Cond.code yX0_resetTimer cX0_resetTimer 2 none, Cond.fieldLink RX0 65 "RankMesh" "interval" "[I", Cond.fieldLink RX0 16 "RankMesh" "leastInterval" "I", Cond.methodLink RX0 159 yX0_keepsParent, Cond.instanceMethod yX0_keepsParent, Cond.selects RX0 yX0_keepsParent yX0_keepsParent, Cond.code yX0_keepsParent cX0_keepsParent 5 (some .boolean)]
def wsX0_pass_r4 : List Cond := [Cond.fieldLink RX0 9 "RankMesh" "hysteresis" "I", Cond.methodLink RX0 163 yX0_follow, Cond.instanceMethod yX0_follow, Cond.selects RX0 yX0_follow yX0_follow, Cond.code yX0_follow cX0_follow 6 none, Cond.methodLink RX0 141 Lib.Math.min.name, Cond.static Lib.Math.min.name, Cond.initialized "java/lang/Math", Cond.code Lib.Math.min.name Lib.Math.min.code 2 (some .int), Cond.methodLink RX0 150 yX0_lengthenTimer, Cond.instanceMethod yX0_lengthenTimer, Cond.selects RX0 yX0_lengthenTimer yX0_lengthenTimer, Cond.code yX0_lengthenTimer cX0_lengthenTimer 2 none, Cond.fieldLink RX0 19 "RankMesh" "doublings" "I"]
def wsX0_pass : List Cond := .code yX0_pass cX0_pass 4 (some .int) :: ((wsX0_pass_r1 ++ (wsX0_pass_r2 ++ (wsX0_pass_r3 ++ wsX0_pass_r4))) ++ wsX00 ++ (vx_atS RX0 96 "java/lang/IllegalArgumentException" ["java/lang/RuntimeException", "java/lang/Exception"]).filter goodWord)
def wsX0_time : List Cond := .code yX0_time cX0_time 1 (some .int) :: ([.fieldLink RX0 22 "RankMesh" "now" "I"] ++ wsX00)
def wsX0_rank : List Cond := .code yX0_rank cX0_rank 2 (some .int) :: ([.fieldLink RX0 56 "RankMesh" "rankOf" "[I", .methodLink RX0 89 yX0_requireNode, .static yX0_requireNode, .initialized RX0, .code yX0_requireNode cX0_requireNode 1 none, .classLink RX0 132 "java/lang/IndexOutOfBoundsException", .initialized "java/lang/IndexOutOfBoundsException", .methodLink RX0 121 yX0_isNode, .static yX0_isNode, .code yX0_isNode cX0_isNode 1 (some .boolean)] ++ wsX00 ++ (vx_atS RX0 136 "java/lang/IndexOutOfBoundsException" ["java/lang/RuntimeException", "java/lang/Exception"]).filter goodWord)
def wsX0_parent : List Cond := .code yX0_parent cX0_parent 2 (some .int) :: ([.fieldLink RX0 62 "RankMesh" "parentOf" "[I", .methodLink RX0 89 yX0_requireNode, .static yX0_requireNode, .initialized RX0, .code yX0_requireNode cX0_requireNode 1 none, .classLink RX0 132 "java/lang/IndexOutOfBoundsException", .initialized "java/lang/IndexOutOfBoundsException", .methodLink RX0 121 yX0_isNode, .static yX0_isNode, .code yX0_isNode cX0_isNode 1 (some .boolean)] ++ wsX00 ++ (vx_atS RX0 136 "java/lang/IndexOutOfBoundsException" ["java/lang/RuntimeException", "java/lang/Exception"]).filter goodWord)
def wsX0_tree : List Cond := .code yX0_tree cX0_tree 2 (some .int) :: ([.fieldLink RX0 50 "RankMesh" "treeOf" "[I", .fieldLink RX0 53 "RankMesh" "versionOf" "[I", .methodLink RX0 89 yX0_requireNode, .static yX0_requireNode, .initialized RX0, .code yX0_requireNode cX0_requireNode 1 none, .classLink RX0 132 "java/lang/IndexOutOfBoundsException", .initialized "java/lang/IndexOutOfBoundsException", .methodLink RX0 121 yX0_isNode, .static yX0_isNode, .code yX0_isNode cX0_isNode 1 (some .boolean)] ++ wsX00 ++ (vx_atS RX0 136 "java/lang/IndexOutOfBoundsException" ["java/lang/RuntimeException", "java/lang/Exception"]).filter goodWord)
def wsX0_nextTelling : List Cond := .code yX0_nextTelling cX0_nextTelling 2 (some .int) :: ([.fieldLink RX0 68 "RankMesh" "tellsAt" "[I", .methodLink RX0 89 yX0_requireNode, .static yX0_requireNode, .initialized RX0, .code yX0_requireNode cX0_requireNode 1 none, .classLink RX0 132 "java/lang/IndexOutOfBoundsException", .initialized "java/lang/IndexOutOfBoundsException", .methodLink RX0 121 yX0_isNode, .static yX0_isNode, .code yX0_isNode cX0_isNode 1 (some .boolean)] ++ wsX00 ++ (vx_atS RX0 136 "java/lang/IndexOutOfBoundsException" ["java/lang/RuntimeException", "java/lang/Exception"]).filter goodWord)
def wsX0_heard : List Cond := .code yX0_heard cX0_heard 3 (some .int) :: ([.fieldLink RX0 39 "RankMesh" "heardRank" "[[I", .methodLink RX0 89 yX0_requireNode, .static yX0_requireNode, .initialized RX0, .code yX0_requireNode cX0_requireNode 1 none, .classLink RX0 132 "java/lang/IndexOutOfBoundsException", .initialized "java/lang/IndexOutOfBoundsException", .methodLink RX0 121 yX0_isNode, .static yX0_isNode, .code yX0_isNode cX0_isNode 1 (some .boolean)] ++ wsX00 ++ (vx_atS RX0 136 "java/lang/IndexOutOfBoundsException" ["java/lang/RuntimeException", "java/lang/Exception"]).filter goodWord)
def wsX0_lowerWayCosts : List Cond := .code yX0_lowerWayCosts cX0_lowerWayCosts 4 none :: ([.fieldLink RX0 30 "RankMesh" "costOf" "[[I", .fieldLink RX0 71 "RankMesh" "wayCost" "[I", .methodLink RX0 141 Lib.Math.min.name, .static Lib.Math.min.name, .initialized "java/lang/Math", .code Lib.Math.min.name Lib.Math.min.code 2 (some .int)] ++ wsX00)
def wsX0_leastRank : List Cond := .code yX0_leastRank cX0_leastRank 3 (some .int) :: ([.fieldLink RX0 71 "RankMesh" "wayCost" "[I", .fieldLink RX0 42 "RankMesh" "isRoot" "[Z", .methodLink RX0 89 yX0_requireNode, .static yX0_requireNode, .initialized RX0, .code yX0_requireNode cX0_requireNode 1 none, .classLink RX0 132 "java/lang/IndexOutOfBoundsException", .initialized "java/lang/IndexOutOfBoundsException", .methodLink RX0 121 yX0_isNode, .static yX0_isNode, .code yX0_isNode cX0_isNode 1 (some .boolean), .methodLink RX0 118 yX0_lowerWayCosts, .instanceMethod yX0_lowerWayCosts, .selects RX0 yX0_lowerWayCosts yX0_lowerWayCosts, .code yX0_lowerWayCosts cX0_lowerWayCosts 4 none, .fieldLink RX0 30 "RankMesh" "costOf" "[[I", .methodLink RX0 141 Lib.Math.min.name, .static Lib.Math.min.name, .initialized "java/lang/Math", .code Lib.Math.min.name Lib.Math.min.code 2 (some .int)] ++ wsX00 ++ (vx_atS RX0 136 "java/lang/IndexOutOfBoundsException" ["java/lang/RuntimeException", "java/lang/Exception"]).filter goodWord)
def wsX0_up : List Cond := .code yX0_up cX0_up 7 (some .int) :: ([.fieldLink RX0 42 "RankMesh" "isRoot" "[Z", .fieldLink RX0 62 "RankMesh" "parentOf" "[I", .fieldLink RX0 56 "RankMesh" "rankOf" "[I", .fieldLink RX0 25 "RankMesh" "droppedPackets" "I", .methodLink RX0 89 yX0_requireNode, .static yX0_requireNode, .initialized RX0, .code yX0_requireNode cX0_requireNode 1 none, .classLink RX0 132 "java/lang/IndexOutOfBoundsException", .initialized "java/lang/IndexOutOfBoundsException", .methodLink RX0 121 yX0_isNode, .static yX0_isNode, .code yX0_isNode cX0_isNode 1 (some .boolean)] ++ wsX00 ++ (vx_atS RX0 136 "java/lang/IndexOutOfBoundsException" ["java/lang/RuntimeException", "java/lang/Exception"]).filter goodWord)
def wsX0_loops : List Cond := .code yX0_loops cX0_loops 1 (some .int) :: ([.fieldLink RX0 25 "RankMesh" "droppedPackets" "I"] ++ wsX00)
def wsX0_childrenOf : List Cond := .code yX0_childrenOf cX0_childrenOf 5 (some .int) :: ([.fieldLink RX0 62 "RankMesh" "parentOf" "[I", .methodLink RX0 121 yX0_isNode, .static yX0_isNode, .initialized RX0, .code yX0_isNode cX0_isNode 1 (some .boolean)] ++ wsX00)
def wsX0_below : List Cond := .code yX0_below cX0_below 4 (some .int) :: ([.methodLink RX0 89 yX0_requireNode, .static yX0_requireNode, .initialized RX0, .code yX0_requireNode cX0_requireNode 1 none, .classLink RX0 132 "java/lang/IndexOutOfBoundsException", .initialized "java/lang/IndexOutOfBoundsException", .methodLink RX0 121 yX0_isNode, .static yX0_isNode, .code yX0_isNode cX0_isNode 1 (some .boolean), .methodLink RX0 125 yX0_childrenOf, .instanceMethod yX0_childrenOf, .selects RX0 yX0_childrenOf yX0_childrenOf, .code yX0_childrenOf cX0_childrenOf 5 (some .int), .fieldLink RX0 62 "RankMesh" "parentOf" "[I"] ++ wsX00 ++ (vx_atS RX0 136 "java/lang/IndexOutOfBoundsException" ["java/lang/RuntimeException", "java/lang/Exception"]).filter goodWord)
def wsX0_down : List Cond := .code yX0_down cX0_down 5 (some .int) :: ([.classLink RX0 102 "java/lang/IllegalStateException", .initialized "java/lang/IllegalStateException", .fieldLink RX0 62 "RankMesh" "parentOf" "[I", .methodLink RX0 89 yX0_requireNode, .static yX0_requireNode, .initialized RX0, .code yX0_requireNode cX0_requireNode 1 none, .classLink RX0 132 "java/lang/IndexOutOfBoundsException", .initialized "java/lang/IndexOutOfBoundsException", .methodLink RX0 121 yX0_isNode, .static yX0_isNode, .code yX0_isNode cX0_isNode 1 (some .boolean)] ++ wsX00 ++ (vx_atS RX0 106 "java/lang/IllegalStateException" ["java/lang/RuntimeException", "java/lang/Exception"]).filter goodWord ++ (vx_atS RX0 136 "java/lang/IndexOutOfBoundsException" ["java/lang/RuntimeException", "java/lang/Exception"]).filter goodWord)
def wsX1_init : List Cond := .code yX1_init cX1_init 2 none :: ([.methodLink RX1 1 objectInit, .instanceMethod objectInit, .code objectInit ⟨#[0xb1]⟩ 1 none, .fieldLink RX1 7 "RankMeshModel" "increase" "I", .fieldLink RX1 13 "RankMeshModel" "least" "I", .fieldLink RX1 16 "RankMeshModel" "doublings" "I", .arrayClass .int, .fieldLink RX1 19 "RankMeshModel" "cost" "[I", .arrayClass .boolean, .fieldLink RX1 23 "RankMeshModel" "isRoot" "[Z", .fieldLink RX1 27 "RankMeshModel" "rooted" "[I", .fieldLink RX1 30 "RankMeshModel" "tree" "[I", .fieldLink RX1 33 "RankMeshModel" "version" "[I", .fieldLink RX1 36 "RankMeshModel" "rank" "[I", .fieldLink RX1 39 "RankMeshModel" "parent" "[I", .fieldLink RX1 42 "RankMeshModel" "lowest" "[I", .fieldLink RX1 45 "RankMeshModel" "interval" "[I", .fieldLink RX1 48 "RankMeshModel" "next" "[I", .fieldLink RX1 51 "RankMeshModel" "heardTree" "[I", .fieldLink RX1 54 "RankMeshModel" "heardVersion" "[I", .fieldLink RX1 57 "RankMeshModel" "heardRank" "[I", .fieldLink RX1 60 "RankMeshModel" "way" "[I"] ++ wsX10)
def wsX1_thrown : List Cond := .code yX1_thrown cX1_thrown 1 (some .int) :: ([.fieldLink RX1 63 "RankMeshModel" "thrown" "I"] ++ wsX10)
def wsX1_fails : List Cond := .code yX1_fails cX1_fails 2 (some .boolean) :: ([.fieldLink RX1 63 "RankMeshModel" "thrown" "I"] ++ wsX10)
def wsX1_isIn : List Cond := .code yX1_isIn cX1_isIn 3 (some .boolean) :: ([])
def wsX1_isNode : List Cond := .code yX1_isNode cX1_isNode 1 (some .boolean) :: ([.methodLink RX1 66 yX1_isIn, .static yX1_isIn, .initialized RX1, .code yX1_isIn cX1_isIn 3 (some .boolean)])
def wsX1_resets : List Cond := .code yX1_resets cX1_resets 2 none :: ([.fieldLink RX1 45 "RankMeshModel" "interval" "[I", .fieldLink RX1 13 "RankMeshModel" "least" "I", .fieldLink RX1 48 "RankMeshModel" "next" "[I", .fieldLink RX1 70 "RankMeshModel" "time" "I"] ++ wsX10)
def wsX1_rankBy : List Cond := .code yX1_rankBy cX1_rankBy 3 (some .int) :: ([.fieldLink RX1 57 "RankMeshModel" "heardRank" "[I", .fieldLink RX1 19 "RankMeshModel" "cost" "[I"] ++ wsX10)
def wsX1_isCandidate : List Cond := .code yX1_isCandidate cX1_isCandidate 8 (some .boolean) :: ([.fieldLink RX1 57 "RankMeshModel" "heardRank" "[I", .fieldLink RX1 51 "RankMeshModel" "heardTree" "[I", .fieldLink RX1 30 "RankMeshModel" "tree" "[I", .fieldLink RX1 54 "RankMeshModel" "heardVersion" "[I", .fieldLink RX1 33 "RankMeshModel" "version" "[I", .fieldLink RX1 36 "RankMeshModel" "rank" "[I", .fieldLink RX1 42 "RankMeshModel" "lowest" "[I", .fieldLink RX1 7 "RankMeshModel" "increase" "I", .methodLink RX1 66 yX1_isIn, .static yX1_isIn, .initialized RX1, .code yX1_isIn cX1_isIn 3 (some .boolean), .methodLink RX1 73 yX1_rankBy, .instanceMethod yX1_rankBy, .selects RX1 yX1_rankBy yX1_rankBy, .code yX1_rankBy cX1_rankBy 3 (some .int), .fieldLink RX1 19 "RankMeshModel" "cost" "[I"] ++ wsX10)
def wsX1_takes : List Cond := .code yX1_takes cX1_takes 5 none :: ([.fieldLink RX1 51 "RankMeshModel" "heardTree" "[I", .fieldLink RX1 30 "RankMeshModel" "tree" "[I", .fieldLink RX1 54 "RankMeshModel" "heardVersion" "[I", .fieldLink RX1 33 "RankMeshModel" "version" "[I", .fieldLink RX1 39 "RankMeshModel" "parent" "[I", .fieldLink RX1 36 "RankMeshModel" "rank" "[I", .fieldLink RX1 42 "RankMeshModel" "lowest" "[I", .methodLink RX1 73 yX1_rankBy, .instanceMethod yX1_rankBy, .selects RX1 yX1_rankBy yX1_rankBy, .initialized RX1, .code yX1_rankBy cX1_rankBy 3 (some .int), .fieldLink RX1 57 "RankMeshModel" "heardRank" "[I", .fieldLink RX1 19 "RankMeshModel" "cost" "[I"] ++ wsX10)
def wsX1_chooses_r1 : List Cond := [Cond.fieldLink RX1 23 "RankMeshModel" "isRoot" "[Z", Cond.fieldLink RX1 39 "RankMeshModel" "parent" "[I", Cond.fieldLink RX1 81 "RankMeshModel" "hysteresis" "I", Cond.fieldLink RX1 30 "RankMeshModel" "tree" "[I", Cond.fieldLink RX1 33 "RankMeshModel" "version" "[I", Cond.fieldLink RX1 36 "RankMeshModel" "rank" "[I", Cond.methodLink RX1 77 yX1_isCandidate, Cond.instanceMethod yX1_isCandidate, Cond.selects RX1 yX1_isCandidate yX1_isCandidate, Cond.initialized RX1, Cond.code yX1_isCandidate cX1_isCandidate 8 (some .boolean), Cond.fieldLink RX1 57 "RankMeshModel" "heardRank" "[I", Cond.fieldLink RX1 51 "RankMeshModel" "heardTree" "[I", Cond.fieldLink RX1 54 "RankMeshModel" "heardVersion" "[I", Cond.fieldLink RX1 42 "RankMeshModel" "lowest" "[I", Cond.fieldLink RX1 7 "RankMeshModel" "increase" "I", Cond.methodLink RX1 66 yX1_isIn, Cond.static yX1_isIn, Cond.code yX1_isIn cX1_isIn 3 (some .boolean), Cond.methodLink RX1 73 yX1_rankBy, Cond.instanceMethod yX1_rankBy, Cond.selects RX1 yX1_rankBy yX1_rankBy, Cond.code yX1_rankBy cX1_rankBy 3 (some .int), Cond.fieldLink RX1 19 "RankMeshModel" "cost" "[I"]
def wsX1_chooses_r2 : List Cond := [Cond.methodLink RX1 84 yX1_takes, Cond.instanceMethod yX1_takes, Cond.selects RX1 yX1_takes yX1_takes, Cond.code yX1_takes cX1_takes 5 none, Cond.methodLink RX1 88 yX1_resets, Cond.instanceMethod yX1_resets, Cond.selects RX1 yX1_resets yX1_resets, Cond.code yX1_resets cX1_resets 2 none, Cond.fieldLink RX1 45 "RankMeshModel" "interval" "[I", Cond.fieldLink RX1 13 "RankMeshModel" "least" "I", Cond.fieldLink RX1 48 "RankMeshModel" "next" "[I", Cond.fieldLink RX1 70 "RankMeshModel" "time" "I"]
def wsX1_chooses : List Cond := .code yX1_chooses cX1_chooses 7 none :: ((wsX1_chooses_r1 ++ wsX1_chooses_r2) ++ wsX10)
def wsX1_tells_r1 : List Cond := [Cond.fieldLink RX1 19 "RankMeshModel" "cost" "[I", Cond.fieldLink RX1 51 "RankMeshModel" "heardTree" "[I", Cond.fieldLink RX1 30 "RankMeshModel" "tree" "[I", Cond.fieldLink RX1 54 "RankMeshModel" "heardVersion" "[I", Cond.fieldLink RX1 33 "RankMeshModel" "version" "[I", Cond.fieldLink RX1 57 "RankMeshModel" "heardRank" "[I", Cond.fieldLink RX1 36 "RankMeshModel" "rank" "[I", Cond.methodLink RX1 92 yX1_chooses, Cond.instanceMethod yX1_chooses, Cond.selects RX1 yX1_chooses yX1_chooses, Cond.initialized RX1, Cond.code yX1_chooses cX1_chooses 7 none, Cond.fieldLink RX1 23 "RankMeshModel" "isRoot" "[Z", Cond.fieldLink RX1 39 "RankMeshModel" "parent" "[I", Cond.fieldLink RX1 81 "RankMeshModel" "hysteresis" "I", Cond.methodLink RX1 77 yX1_isCandidate, Cond.instanceMethod yX1_isCandidate, Cond.selects RX1 yX1_isCandidate yX1_isCandidate, Cond.code yX1_isCandidate cX1_isCandidate 8 (some .boolean), Cond.fieldLink RX1 42 "RankMeshModel" "lowest" "[I", Cond.fieldLink RX1 7 "RankMeshModel" "increase" "I", Cond.methodLink RX1 66 yX1_isIn, Cond.static yX1_isIn, Cond.code yX1_isIn cX1_isIn 3 (some .boolean)]
def wsX1_tells_r2 : List Cond := [Cond.methodLink RX1 73 yX1_rankBy, Cond.instanceMethod yX1_rankBy, Cond.selects RX1 yX1_rankBy yX1_rankBy, Cond.code yX1_rankBy cX1_rankBy 3 (some .int), Cond.methodLink RX1 84 yX1_takes, Cond.instanceMethod yX1_takes, Cond.selects RX1 yX1_takes yX1_takes, Cond.code yX1_takes cX1_takes 5 none, Cond.methodLink RX1 88 yX1_resets, Cond.instanceMethod yX1_resets, Cond.selects RX1 yX1_resets yX1_resets, Cond.code yX1_resets cX1_resets 2 none, Cond.fieldLink RX1 45 "RankMeshModel" "interval" "[I", Cond.fieldLink RX1 13 "RankMeshModel" "least" "I", Cond.fieldLink RX1 48 "RankMeshModel" "next" "[I", Cond.fieldLink RX1 70 "RankMeshModel" "time" "I"]
def wsX1_tells : List Cond := .code yX1_tells cX1_tells 4 none :: ((wsX1_tells_r1 ++ wsX1_tells_r2) ++ wsX10)
def wsX1_setRules : List Cond := .code yX1_setRules cX1_setRules 6 none :: ([.fieldLink RX1 81 "RankMeshModel" "hysteresis" "I", .fieldLink RX1 7 "RankMeshModel" "increase" "I", .fieldLink RX1 13 "RankMeshModel" "least" "I", .fieldLink RX1 16 "RankMeshModel" "doublings" "I", .methodLink RX1 66 yX1_isIn, .static yX1_isIn, .initialized RX1, .code yX1_isIn cX1_isIn 3 (some .boolean), .methodLink RX1 95 yX1_fails, .instanceMethod yX1_fails, .selects RX1 yX1_fails yX1_fails, .code yX1_fails cX1_fails 2 (some .boolean), .fieldLink RX1 63 "RankMeshModel" "thrown" "I"] ++ wsX10)
def wsX1_link_r1 : List Cond := [Cond.fieldLink RX1 19 "RankMeshModel" "cost" "[I", Cond.fieldLink RX1 57 "RankMeshModel" "heardRank" "[I", Cond.methodLink RX1 99 yX1_isNode, Cond.static yX1_isNode, Cond.initialized RX1, Cond.code yX1_isNode cX1_isNode 1 (some .boolean), Cond.methodLink RX1 66 yX1_isIn, Cond.static yX1_isIn, Cond.code yX1_isIn cX1_isIn 3 (some .boolean), Cond.methodLink RX1 95 yX1_fails, Cond.instanceMethod yX1_fails, Cond.selects RX1 yX1_fails yX1_fails, Cond.code yX1_fails cX1_fails 2 (some .boolean), Cond.fieldLink RX1 63 "RankMeshModel" "thrown" "I", Cond.methodLink RX1 92 yX1_chooses, Cond.instanceMethod yX1_chooses, Cond.selects RX1 yX1_chooses yX1_chooses, Cond.code yX1_chooses cX1_chooses 7 none, Cond.fieldLink RX1 23 "RankMeshModel" "isRoot" "[Z", Cond.fieldLink RX1 39 "RankMeshModel" "parent" "[I", Cond.fieldLink RX1 81 "RankMeshModel" "hysteresis" "I", Cond.fieldLink RX1 30 "RankMeshModel" "tree" "[I", Cond.fieldLink RX1 33 "RankMeshModel" "version" "[I", Cond.fieldLink RX1 36 "RankMeshModel" "rank" "[I"]
def wsX1_link_r2 : List Cond := [Cond.methodLink RX1 77 yX1_isCandidate, Cond.instanceMethod yX1_isCandidate, Cond.selects RX1 yX1_isCandidate yX1_isCandidate, Cond.code yX1_isCandidate cX1_isCandidate 8 (some .boolean), Cond.fieldLink RX1 51 "RankMeshModel" "heardTree" "[I", Cond.fieldLink RX1 54 "RankMeshModel" "heardVersion" "[I", Cond.fieldLink RX1 42 "RankMeshModel" "lowest" "[I", Cond.fieldLink RX1 7 "RankMeshModel" "increase" "I", Cond.methodLink RX1 73 yX1_rankBy, Cond.instanceMethod yX1_rankBy, Cond.selects RX1 yX1_rankBy yX1_rankBy, Cond.code yX1_rankBy cX1_rankBy 3 (some .int), Cond.methodLink RX1 84 yX1_takes, Cond.instanceMethod yX1_takes, Cond.selects RX1 yX1_takes yX1_takes, Cond.code yX1_takes cX1_takes 5 none, Cond.methodLink RX1 88 yX1_resets, Cond.instanceMethod yX1_resets, Cond.selects RX1 yX1_resets yX1_resets, Cond.code yX1_resets cX1_resets 2 none, Cond.fieldLink RX1 45 "RankMeshModel" "interval" "[I", Cond.fieldLink RX1 13 "RankMeshModel" "least" "I", Cond.fieldLink RX1 48 "RankMeshModel" "next" "[I", Cond.fieldLink RX1 70 "RankMeshModel" "time" "I"]
def wsX1_link : List Cond := .code yX1_link cX1_link 6 (some .int) :: ((wsX1_link_r1 ++ wsX1_link_r2) ++ wsX10)
def wsX1_begins : List Cond := .code yX1_begins cX1_begins 2 none :: ([.fieldLink RX1 27 "RankMeshModel" "rooted" "[I", .fieldLink RX1 30 "RankMeshModel" "tree" "[I", .fieldLink RX1 33 "RankMeshModel" "version" "[I", .fieldLink RX1 36 "RankMeshModel" "rank" "[I", .fieldLink RX1 39 "RankMeshModel" "parent" "[I", .fieldLink RX1 42 "RankMeshModel" "lowest" "[I", .methodLink RX1 88 yX1_resets, .instanceMethod yX1_resets, .selects RX1 yX1_resets yX1_resets, .initialized RX1, .code yX1_resets cX1_resets 2 none, .fieldLink RX1 45 "RankMeshModel" "interval" "[I", .fieldLink RX1 13 "RankMeshModel" "least" "I", .fieldLink RX1 48 "RankMeshModel" "next" "[I", .fieldLink RX1 70 "RankMeshModel" "time" "I"] ++ wsX10)
def wsX1_makeRoot_r1 : List Cond := [Cond.fieldLink RX1 23 "RankMeshModel" "isRoot" "[Z", Cond.fieldLink RX1 33 "RankMeshModel" "version" "[I", Cond.methodLink RX1 99 yX1_isNode, Cond.static yX1_isNode, Cond.initialized RX1, Cond.code yX1_isNode cX1_isNode 1 (some .boolean), Cond.methodLink RX1 66 yX1_isIn, Cond.static yX1_isIn, Cond.code yX1_isIn cX1_isIn 3 (some .boolean), Cond.methodLink RX1 95 yX1_fails, Cond.instanceMethod yX1_fails, Cond.selects RX1 yX1_fails yX1_fails, Cond.code yX1_fails cX1_fails 2 (some .boolean), Cond.fieldLink RX1 63 "RankMeshModel" "thrown" "I", Cond.methodLink RX1 102 yX1_begins, Cond.instanceMethod yX1_begins, Cond.selects RX1 yX1_begins yX1_begins, Cond.code yX1_begins cX1_begins 2 none, Cond.fieldLink RX1 27 "RankMeshModel" "rooted" "[I", Cond.fieldLink RX1 30 "RankMeshModel" "tree" "[I", Cond.fieldLink RX1 36 "RankMeshModel" "rank" "[I", Cond.fieldLink RX1 39 "RankMeshModel" "parent" "[I", Cond.fieldLink RX1 42 "RankMeshModel" "lowest" "[I", Cond.methodLink RX1 88 yX1_resets]
def wsX1_makeRoot_r2 : List Cond := [Cond.instanceMethod yX1_resets, Cond.selects RX1 yX1_resets yX1_resets, Cond.code yX1_resets cX1_resets 2 none, Cond.fieldLink RX1 45 "RankMeshModel" "interval" "[I", Cond.fieldLink RX1 13 "RankMeshModel" "least" "I", Cond.fieldLink RX1 48 "RankMeshModel" "next" "[I", Cond.fieldLink RX1 70 "RankMeshModel" "time" "I"]
def wsX1_makeRoot : List Cond := .code yX1_makeRoot cX1_makeRoot 3 (some .int) :: ((wsX1_makeRoot_r1 ++ wsX1_makeRoot_r2) ++ wsX10)
def wsX1_endRoot_r1 : List Cond := [Cond.fieldLink RX1 23 "RankMeshModel" "isRoot" "[Z", Cond.fieldLink RX1 30 "RankMeshModel" "tree" "[I", Cond.fieldLink RX1 33 "RankMeshModel" "version" "[I", Cond.fieldLink RX1 36 "RankMeshModel" "rank" "[I", Cond.methodLink RX1 99 yX1_isNode, Cond.static yX1_isNode, Cond.initialized RX1, Cond.code yX1_isNode cX1_isNode 1 (some .boolean), Cond.methodLink RX1 66 yX1_isIn, Cond.static yX1_isIn, Cond.code yX1_isIn cX1_isIn 3 (some .boolean), Cond.methodLink RX1 95 yX1_fails, Cond.instanceMethod yX1_fails, Cond.selects RX1 yX1_fails yX1_fails, Cond.code yX1_fails cX1_fails 2 (some .boolean), Cond.fieldLink RX1 63 "RankMeshModel" "thrown" "I", Cond.methodLink RX1 88 yX1_resets, Cond.instanceMethod yX1_resets, Cond.selects RX1 yX1_resets yX1_resets, Cond.code yX1_resets cX1_resets 2 none, Cond.fieldLink RX1 45 "RankMeshModel" "interval" "[I", Cond.fieldLink RX1 13 "RankMeshModel" "least" "I", Cond.fieldLink RX1 48 "RankMeshModel" "next" "[I", Cond.fieldLink RX1 70 "RankMeshModel" "time" "I"]
def wsX1_endRoot_r2 : List Cond := [Cond.methodLink RX1 92 yX1_chooses, Cond.instanceMethod yX1_chooses, Cond.selects RX1 yX1_chooses yX1_chooses, Cond.code yX1_chooses cX1_chooses 7 none, Cond.fieldLink RX1 39 "RankMeshModel" "parent" "[I", Cond.fieldLink RX1 81 "RankMeshModel" "hysteresis" "I", Cond.methodLink RX1 77 yX1_isCandidate, Cond.instanceMethod yX1_isCandidate, Cond.selects RX1 yX1_isCandidate yX1_isCandidate, Cond.code yX1_isCandidate cX1_isCandidate 8 (some .boolean), Cond.fieldLink RX1 57 "RankMeshModel" "heardRank" "[I", Cond.fieldLink RX1 51 "RankMeshModel" "heardTree" "[I", Cond.fieldLink RX1 54 "RankMeshModel" "heardVersion" "[I", Cond.fieldLink RX1 42 "RankMeshModel" "lowest" "[I", Cond.fieldLink RX1 7 "RankMeshModel" "increase" "I", Cond.methodLink RX1 73 yX1_rankBy, Cond.instanceMethod yX1_rankBy, Cond.selects RX1 yX1_rankBy yX1_rankBy, Cond.code yX1_rankBy cX1_rankBy 3 (some .int), Cond.fieldLink RX1 19 "RankMeshModel" "cost" "[I", Cond.methodLink RX1 84 yX1_takes, Cond.instanceMethod yX1_takes, Cond.selects RX1 yX1_takes yX1_takes, Cond.code yX1_takes cX1_takes 5 none]
def wsX1_endRoot : List Cond := .code yX1_endRoot cX1_endRoot 3 none :: ((wsX1_endRoot_r1 ++ wsX1_endRoot_r2) ++ wsX10)
def wsX1_renew_r1 : List Cond := [Cond.fieldLink RX1 23 "RankMeshModel" "isRoot" "[Z", Cond.fieldLink RX1 33 "RankMeshModel" "version" "[I", Cond.methodLink RX1 99 yX1_isNode, Cond.static yX1_isNode, Cond.initialized RX1, Cond.code yX1_isNode cX1_isNode 1 (some .boolean), Cond.methodLink RX1 66 yX1_isIn, Cond.static yX1_isIn, Cond.code yX1_isIn cX1_isIn 3 (some .boolean), Cond.methodLink RX1 95 yX1_fails, Cond.instanceMethod yX1_fails, Cond.selects RX1 yX1_fails yX1_fails, Cond.code yX1_fails cX1_fails 2 (some .boolean), Cond.fieldLink RX1 63 "RankMeshModel" "thrown" "I", Cond.methodLink RX1 102 yX1_begins, Cond.instanceMethod yX1_begins, Cond.selects RX1 yX1_begins yX1_begins, Cond.code yX1_begins cX1_begins 2 none, Cond.fieldLink RX1 27 "RankMeshModel" "rooted" "[I", Cond.fieldLink RX1 30 "RankMeshModel" "tree" "[I", Cond.fieldLink RX1 36 "RankMeshModel" "rank" "[I", Cond.fieldLink RX1 39 "RankMeshModel" "parent" "[I", Cond.fieldLink RX1 42 "RankMeshModel" "lowest" "[I", Cond.methodLink RX1 88 yX1_resets]
def wsX1_renew_r2 : List Cond := [Cond.instanceMethod yX1_resets, Cond.selects RX1 yX1_resets yX1_resets, Cond.code yX1_resets cX1_resets 2 none, Cond.fieldLink RX1 45 "RankMeshModel" "interval" "[I", Cond.fieldLink RX1 13 "RankMeshModel" "least" "I", Cond.fieldLink RX1 48 "RankMeshModel" "next" "[I", Cond.fieldLink RX1 70 "RankMeshModel" "time" "I"]
def wsX1_renew : List Cond := .code yX1_renew cX1_renew 3 (some .int) :: ((wsX1_renew_r1 ++ wsX1_renew_r2) ++ wsX10)
def wsX1_pass_r1 : List Cond := [Cond.fieldLink RX1 70 "RankMeshModel" "time" "I", Cond.fieldLink RX1 48 "RankMeshModel" "next" "[I", Cond.fieldLink RX1 13 "RankMeshModel" "least" "I", Cond.fieldLink RX1 16 "RankMeshModel" "doublings" "I", Cond.fieldLink RX1 45 "RankMeshModel" "interval" "[I", Cond.methodLink RX1 66 yX1_isIn, Cond.static yX1_isIn, Cond.initialized RX1, Cond.code yX1_isIn cX1_isIn 3 (some .boolean), Cond.methodLink RX1 95 yX1_fails, Cond.instanceMethod yX1_fails, Cond.selects RX1 yX1_fails yX1_fails, Cond.code yX1_fails cX1_fails 2 (some .boolean), Cond.fieldLink RX1 63 "RankMeshModel" "thrown" "I", Cond.methodLink RX1 105 yX1_tells, Cond.instanceMethod yX1_tells, Cond.selects RX1 yX1_tells yX1_tells, Cond.code yX1_tells cX1_tells 4 none, Cond.fieldLink RX1 19 "RankMeshModel" "cost" "[I", Cond.fieldLink RX1 51 "RankMeshModel" "heardTree" "[I", Cond.fieldLink RX1 30 "RankMeshModel" "tree" "[I", Cond.fieldLink RX1 54 "RankMeshModel" "heardVersion" "[I", Cond.fieldLink RX1 33 "RankMeshModel" "version" "[I", Cond.fieldLink RX1 57 "RankMeshModel" "heardRank" "[I"]
def wsX1_pass_r2 : List Cond := [Cond.fieldLink RX1 36 "RankMeshModel" "rank" "[I", Cond.methodLink RX1 92 yX1_chooses, Cond.instanceMethod yX1_chooses, Cond.selects RX1 yX1_chooses yX1_chooses, Cond.code yX1_chooses cX1_chooses 7 none, Cond.fieldLink RX1 23 "RankMeshModel" "isRoot" "[Z", Cond.fieldLink RX1 39 "RankMeshModel" "parent" "[I", Cond.fieldLink RX1 81 "RankMeshModel" "hysteresis" "I", Cond.methodLink RX1 77 yX1_isCandidate, Cond.instanceMethod yX1_isCandidate, Cond.selects RX1 yX1_isCandidate yX1_isCandidate, Cond.code yX1_isCandidate cX1_isCandidate 8 (some .boolean), Cond.fieldLink RX1 42 "RankMeshModel" "lowest" "[I", Cond.fieldLink RX1 7 "RankMeshModel" "increase" "I", Cond.methodLink RX1 73 yX1_rankBy, Cond.instanceMethod yX1_rankBy, Cond.selects RX1 yX1_rankBy yX1_rankBy, Cond.code yX1_rankBy cX1_rankBy 3 (some .int), Cond.methodLink RX1 84 yX1_takes, Cond.instanceMethod yX1_takes, Cond.selects RX1 yX1_takes yX1_takes, Cond.code yX1_takes cX1_takes 5 none, Cond.methodLink RX1 88 yX1_resets, Cond.instanceMethod yX1_resets]
def wsX1_pass_r3 : List Cond := [Cond.selects RX1 yX1_resets yX1_resets, Cond.code yX1_resets cX1_resets 2 none]
def wsX1_pass : List Cond := .code yX1_pass cX1_pass 6 (some .int) :: ((wsX1_pass_r1 ++ (wsX1_pass_r2 ++ wsX1_pass_r3)) ++ wsX10)
def wsX1_time : List Cond := .code yX1_time cX1_time 1 (some .int) :: ([.fieldLink RX1 63 "RankMeshModel" "thrown" "I", .fieldLink RX1 70 "RankMeshModel" "time" "I"] ++ wsX10)
def wsX1_of : List Cond := .code yX1_of cX1_of 3 (some .int) :: ([.methodLink RX1 99 yX1_isNode, .static yX1_isNode, .initialized RX1, .code yX1_isNode cX1_isNode 1 (some .boolean), .methodLink RX1 66 yX1_isIn, .static yX1_isIn, .code yX1_isIn cX1_isIn 3 (some .boolean), .methodLink RX1 95 yX1_fails, .instanceMethod yX1_fails, .selects RX1 yX1_fails yX1_fails, .code yX1_fails cX1_fails 2 (some .boolean), .fieldLink RX1 63 "RankMeshModel" "thrown" "I"] ++ wsX10)
def wsX1_rank : List Cond := .code yX1_rank cX1_rank 2 (some .int) :: ([.fieldLink RX1 36 "RankMeshModel" "rank" "[I", .methodLink RX1 108 yX1_of, .instanceMethod yX1_of, .selects RX1 yX1_of yX1_of, .initialized RX1, .code yX1_of cX1_of 3 (some .int), .methodLink RX1 99 yX1_isNode, .static yX1_isNode, .code yX1_isNode cX1_isNode 1 (some .boolean), .methodLink RX1 66 yX1_isIn, .static yX1_isIn, .code yX1_isIn cX1_isIn 3 (some .boolean), .methodLink RX1 95 yX1_fails, .instanceMethod yX1_fails, .selects RX1 yX1_fails yX1_fails, .code yX1_fails cX1_fails 2 (some .boolean), .fieldLink RX1 63 "RankMeshModel" "thrown" "I"] ++ wsX10)
def wsX1_parent : List Cond := .code yX1_parent cX1_parent 2 (some .int) :: ([.fieldLink RX1 39 "RankMeshModel" "parent" "[I", .methodLink RX1 108 yX1_of, .instanceMethod yX1_of, .selects RX1 yX1_of yX1_of, .initialized RX1, .code yX1_of cX1_of 3 (some .int), .methodLink RX1 99 yX1_isNode, .static yX1_isNode, .code yX1_isNode cX1_isNode 1 (some .boolean), .methodLink RX1 66 yX1_isIn, .static yX1_isIn, .code yX1_isIn cX1_isIn 3 (some .boolean), .methodLink RX1 95 yX1_fails, .instanceMethod yX1_fails, .selects RX1 yX1_fails yX1_fails, .code yX1_fails cX1_fails 2 (some .boolean), .fieldLink RX1 63 "RankMeshModel" "thrown" "I"] ++ wsX10)
def wsX1_tree : List Cond := .code yX1_tree cX1_tree 2 (some .int) :: ([.fieldLink RX1 30 "RankMeshModel" "tree" "[I", .fieldLink RX1 33 "RankMeshModel" "version" "[I", .methodLink RX1 99 yX1_isNode, .static yX1_isNode, .initialized RX1, .code yX1_isNode cX1_isNode 1 (some .boolean), .methodLink RX1 66 yX1_isIn, .static yX1_isIn, .code yX1_isIn cX1_isIn 3 (some .boolean), .methodLink RX1 95 yX1_fails, .instanceMethod yX1_fails, .selects RX1 yX1_fails yX1_fails, .code yX1_fails cX1_fails 2 (some .boolean), .fieldLink RX1 63 "RankMeshModel" "thrown" "I"] ++ wsX10)
def wsX1_nextTelling : List Cond := .code yX1_nextTelling cX1_nextTelling 2 (some .int) :: ([.fieldLink RX1 48 "RankMeshModel" "next" "[I", .methodLink RX1 108 yX1_of, .instanceMethod yX1_of, .selects RX1 yX1_of yX1_of, .initialized RX1, .code yX1_of cX1_of 3 (some .int), .methodLink RX1 99 yX1_isNode, .static yX1_isNode, .code yX1_isNode cX1_isNode 1 (some .boolean), .methodLink RX1 66 yX1_isIn, .static yX1_isIn, .code yX1_isIn cX1_isIn 3 (some .boolean), .methodLink RX1 95 yX1_fails, .instanceMethod yX1_fails, .selects RX1 yX1_fails yX1_fails, .code yX1_fails cX1_fails 2 (some .boolean), .fieldLink RX1 63 "RankMeshModel" "thrown" "I"] ++ wsX10)
def wsX1_heard : List Cond := .code yX1_heard cX1_heard 3 (some .int) :: ([.fieldLink RX1 57 "RankMeshModel" "heardRank" "[I", .methodLink RX1 99 yX1_isNode, .static yX1_isNode, .initialized RX1, .code yX1_isNode cX1_isNode 1 (some .boolean), .methodLink RX1 66 yX1_isIn, .static yX1_isIn, .code yX1_isIn cX1_isIn 3 (some .boolean), .methodLink RX1 95 yX1_fails, .instanceMethod yX1_fails, .selects RX1 yX1_fails yX1_fails, .code yX1_fails cX1_fails 2 (some .boolean), .fieldLink RX1 63 "RankMeshModel" "thrown" "I"] ++ wsX10)
def wsX1_leastRank : List Cond := .code yX1_leastRank cX1_leastRank 6 (some .int) :: ([.fieldLink RX1 60 "RankMeshModel" "way" "[I", .fieldLink RX1 23 "RankMeshModel" "isRoot" "[Z", .fieldLink RX1 19 "RankMeshModel" "cost" "[I", .methodLink RX1 99 yX1_isNode, .static yX1_isNode, .initialized RX1, .code yX1_isNode cX1_isNode 1 (some .boolean), .methodLink RX1 66 yX1_isIn, .static yX1_isIn, .code yX1_isIn cX1_isIn 3 (some .boolean), .methodLink RX1 95 yX1_fails, .instanceMethod yX1_fails, .selects RX1 yX1_fails yX1_fails, .code yX1_fails cX1_fails 2 (some .boolean), .fieldLink RX1 63 "RankMeshModel" "thrown" "I"] ++ wsX10)
def wsX1_up : List Cond := .code yX1_up cX1_up 6 (some .int) :: ([.fieldLink RX1 23 "RankMeshModel" "isRoot" "[Z", .fieldLink RX1 39 "RankMeshModel" "parent" "[I", .fieldLink RX1 36 "RankMeshModel" "rank" "[I", .fieldLink RX1 112 "RankMeshModel" "loops" "I", .methodLink RX1 99 yX1_isNode, .static yX1_isNode, .initialized RX1, .code yX1_isNode cX1_isNode 1 (some .boolean), .methodLink RX1 66 yX1_isIn, .static yX1_isIn, .code yX1_isIn cX1_isIn 3 (some .boolean), .methodLink RX1 95 yX1_fails, .instanceMethod yX1_fails, .selects RX1 yX1_fails yX1_fails, .code yX1_fails cX1_fails 2 (some .boolean), .fieldLink RX1 63 "RankMeshModel" "thrown" "I"] ++ wsX10)
def wsX1_loops : List Cond := .code yX1_loops cX1_loops 1 (some .int) :: ([.fieldLink RX1 63 "RankMeshModel" "thrown" "I", .fieldLink RX1 112 "RankMeshModel" "loops" "I"] ++ wsX10)
def wsX1_under : List Cond := .code yX1_under cX1_under 5 (some .int) :: ([.fieldLink RX1 39 "RankMeshModel" "parent" "[I"] ++ wsX10)
def wsX1_below : List Cond := .code yX1_below cX1_below 2 (some .int) :: ([.methodLink RX1 99 yX1_isNode, .static yX1_isNode, .initialized RX1, .code yX1_isNode cX1_isNode 1 (some .boolean), .methodLink RX1 66 yX1_isIn, .static yX1_isIn, .code yX1_isIn cX1_isIn 3 (some .boolean), .methodLink RX1 95 yX1_fails, .instanceMethod yX1_fails, .selects RX1 yX1_fails yX1_fails, .code yX1_fails cX1_fails 2 (some .boolean), .fieldLink RX1 63 "RankMeshModel" "thrown" "I", .methodLink RX1 115 yX1_under, .instanceMethod yX1_under, .selects RX1 yX1_under yX1_under, .code yX1_under cX1_under 5 (some .int), .fieldLink RX1 39 "RankMeshModel" "parent" "[I"] ++ wsX10)
def wsX1_down : List Cond := .code yX1_down cX1_down 5 (some .int) :: ([.fieldLink RX1 39 "RankMeshModel" "parent" "[I", .methodLink RX1 99 yX1_isNode, .static yX1_isNode, .initialized RX1, .code yX1_isNode cX1_isNode 1 (some .boolean), .methodLink RX1 66 yX1_isIn, .static yX1_isIn, .code yX1_isIn cX1_isIn 3 (some .boolean), .methodLink RX1 115 yX1_under, .instanceMethod yX1_under, .selects RX1 yX1_under yX1_under, .code yX1_under cX1_under 5 (some .int), .methodLink RX1 95 yX1_fails, .instanceMethod yX1_fails, .selects RX1 yX1_fails yX1_fails, .code yX1_fails cX1_fails 2 (some .boolean), .fieldLink RX1 63 "RankMeshModel" "thrown" "I"] ++ wsX10)
def wsJ9_min_7cf53 : List Cond := .code yJ9_min_7cf53 cJ9_min_7cf53 2 (some .int) :: ([])
def wsL_setRules : List Cond := .codeWith yL_setRules cL_setRules 6 (some .int) [(0, 9, 12, 13)] :: ([.classLink RL 13 "java/lang/IllegalArgumentException", .methodLink RL 7 yX0_setRules, .instanceMethod yX0_setRules, .selects RX0 yX0_setRules yX0_setRules, .initialized RX0, .code yX0_setRules cX0_setRules 5 none, .fieldLink RX0 9 "RankMesh" "hysteresis" "I", .fieldLink RX0 13 "RankMesh" "increase" "I", .fieldLink RX0 16 "RankMesh" "leastInterval" "I", .fieldLink RX0 19 "RankMesh" "doublings" "I", .methodLink RX0 85 yX0_requireRange, .static yX0_requireRange, .code yX0_requireRange cX0_requireRange 3 none, .classLink RX0 92 "java/lang/IllegalArgumentException", .initialized "java/lang/IllegalArgumentException"] ++ wsX00 ++ (vx_atS RX0 96 "java/lang/IllegalArgumentException" ["java/lang/RuntimeException", "java/lang/Exception"]).filter goodWord)
def wsL_link_r1 : List Cond := [Cond.classLink RL 19 "java/lang/IndexOutOfBoundsException", Cond.classLink RL 13 "java/lang/IllegalArgumentException", Cond.methodLink RL 15 yX0_link, Cond.instanceMethod yX0_link, Cond.selects RX0 yX0_link yX0_link, Cond.initialized RX0, Cond.code yX0_link cX0_link 5 (some .int), Cond.classLink RX0 92 "java/lang/IllegalArgumentException", Cond.initialized "java/lang/IllegalArgumentException", Cond.fieldLink RX0 30 "RankMesh" "costOf" "[[I", Cond.methodLink RX0 89 yX0_requireNode, Cond.static yX0_requireNode, Cond.code yX0_requireNode cX0_requireNode 1 none, Cond.classLink RX0 132 "java/lang/IndexOutOfBoundsException", Cond.initialized "java/lang/IndexOutOfBoundsException", Cond.methodLink RX0 121 yX0_isNode, Cond.static yX0_isNode, Cond.code yX0_isNode cX0_isNode 1 (some .boolean), Cond.methodLink RX0 85 yX0_requireRange, Cond.static yX0_requireRange, Cond.code yX0_requireRange cX0_requireRange 3 none, Cond.methodLink RX0 81 yX0_forget, Cond.instanceMethod yX0_forget, Cond.selects RX0 yX0_forget yX0_forget]
def wsL_link_r2 : List Cond := [Cond.code yX0_forget cX0_forget 3 none, Cond.fieldLink RX0 33 "RankMesh" "heardTree" "[[I", Cond.fieldLink RX0 36 "RankMesh" "heardVersion" "[[I", Cond.fieldLink RX0 39 "RankMesh" "heardRank" "[[I", Cond.methodLink RX0 99 yX0_choose, Cond.instanceMethod yX0_choose, Cond.selects RX0 yX0_choose yX0_choose, Cond.code yX0_choose cX0_choose 3 none, Cond.fieldLink RX0 42 "RankMesh" "isRoot" "[Z", Cond.fieldLink RX0 62 "RankMesh" "parentOf" "[I", Cond.methodLink RX0 153 yX0_bestCandidate, Cond.instanceMethod yX0_bestCandidate, Cond.selects RX0 yX0_bestCandidate yX0_bestCandidate, Cond.code yX0_bestCandidate cX0_bestCandidate 6 (some .int), Cond.methodLink RX0 169 yX0_rankBy, Cond.instanceMethod yX0_rankBy, Cond.selects RX0 yX0_rankBy yX0_rankBy, Cond.code yX0_rankBy cX0_rankBy 3 (some .int), Cond.methodLink RX0 166 yX0_isCandidate, Cond.instanceMethod yX0_isCandidate, Cond.selects RX0 yX0_isCandidate yX0_isCandidate, Cond.code yX0_isCandidate cX0_isCandidate 4 (some .boolean), Cond.methodLink RX0 172 yX0_isOutdated, Cond.instanceMethod yX0_isOutdated]
def wsL_link_r3 : List Cond := [Cond.selects RX0 yX0_isOutdated yX0_isOutdated, Cond.code yX0_isOutdated cX0_isOutdated 6 (some .boolean), Cond.fieldLink RX0 50 "RankMesh" "treeOf" "[I", Cond.fieldLink RX0 53 "RankMesh" "versionOf" "[I", Cond.methodLink RX0 175 yX0_isTooDeep, Cond.instanceMethod yX0_isTooDeep, Cond.selects RX0 yX0_isTooDeep yX0_isTooDeep, Cond.code yX0_isTooDeep cX0_isTooDeep 3 (some .boolean), Cond.fieldLink RX0 56 "RankMesh" "rankOf" "[I", Cond.fieldLink RX0 59 "RankMesh" "lowestRank" "[I", Cond.fieldLink RX0 13 "RankMesh" "increase" "I", Cond.methodLink RX0 178 yX0_heardOwnVersion, Cond.instanceMethod yX0_heardOwnVersion, Cond.selects RX0 yX0_heardOwnVersion yX0_heardOwnVersion, Cond.code yX0_heardOwnVersion cX0_heardOwnVersion 3 (some .boolean), Cond.methodLink RX0 156 yX0_loseParent, Cond.instanceMethod yX0_loseParent, Cond.selects RX0 yX0_loseParent yX0_loseParent, Cond.code yX0_loseParent cX0_loseParent 3 none, Cond.methodLink RX0 78 yX0_resetTimer, Cond.instanceMethod yX0_resetTimer, Cond.selects RX0 yX0_resetTimer yX0_resetTimer, Cond.code yX0_resetTimer cX0_resetTimer 2 none, Cond.fieldLink RX0 65 "RankMesh" "interval" "[I"]
def wsL_link_r4 : List Cond := [Cond.fieldLink RX0 16 "RankMesh" "leastInterval" "I", Cond.fieldLink RX0 68 "RankMesh" "tellsAt" "[I", Cond.fieldLink RX0 22 "RankMesh" "now" "I", Cond.methodLink RX0 159 yX0_keepsParent, Cond.instanceMethod yX0_keepsParent, Cond.selects RX0 yX0_keepsParent yX0_keepsParent, Cond.code yX0_keepsParent cX0_keepsParent 5 (some .boolean), Cond.fieldLink RX0 9 "RankMesh" "hysteresis" "I", Cond.methodLink RX0 163 yX0_follow, Cond.instanceMethod yX0_follow, Cond.selects RX0 yX0_follow yX0_follow, Cond.code yX0_follow cX0_follow 6 none, Cond.methodLink RX0 141 Lib.Math.min.name, Cond.static Lib.Math.min.name, Cond.initialized "java/lang/Math", Cond.code Lib.Math.min.name Lib.Math.min.code 2 (some .int)]
def wsL_link : List Cond := .codeWith yL_link cL_link 6 (some .int) [(0, 12, 15, 19), (0, 12, 19, 13)] :: ((wsL_link_r1 ++ (wsL_link_r2 ++ (wsL_link_r3 ++ wsL_link_r4))) ++ wsX00 ++ (vx_atS RX0 96 "java/lang/IllegalArgumentException" ["java/lang/RuntimeException", "java/lang/Exception"]).filter goodWord ++ (vx_atS RX0 136 "java/lang/IndexOutOfBoundsException" ["java/lang/RuntimeException", "java/lang/Exception"]).filter goodWord)
def wsL_makeRoot_r1 : List Cond := [Cond.classLink RL 19 "java/lang/IndexOutOfBoundsException", Cond.classLink RL 25 "java/lang/IllegalStateException", Cond.methodLink RL 21 yX0_makeRoot, Cond.instanceMethod yX0_makeRoot, Cond.selects RX0 yX0_makeRoot yX0_makeRoot, Cond.initialized RX0, Cond.code yX0_makeRoot cX0_makeRoot 2 (some .int), Cond.classLink RX0 102 "java/lang/IllegalStateException", Cond.initialized "java/lang/IllegalStateException", Cond.fieldLink RX0 42 "RankMesh" "isRoot" "[Z", Cond.fieldLink RX0 50 "RankMesh" "treeOf" "[I", Cond.fieldLink RX0 56 "RankMesh" "rankOf" "[I", Cond.fieldLink RX0 59 "RankMesh" "lowestRank" "[I", Cond.fieldLink RX0 62 "RankMesh" "parentOf" "[I", Cond.methodLink RX0 89 yX0_requireNode, Cond.static yX0_requireNode, Cond.code yX0_requireNode cX0_requireNode 1 none, Cond.classLink RX0 132 "java/lang/IndexOutOfBoundsException", Cond.initialized "java/lang/IndexOutOfBoundsException", Cond.methodLink RX0 121 yX0_isNode, Cond.static yX0_isNode, Cond.code yX0_isNode cX0_isNode 1 (some .boolean), Cond.methodLink RX0 107 yX0_beginVersion, Cond.instanceMethod yX0_beginVersion]
def wsL_makeRoot_r2 : List Cond := [Cond.selects RX0 yX0_beginVersion yX0_beginVersion, Cond.code yX0_beginVersion cX0_beginVersion 2 (some .int), Cond.fieldLink RX0 46 "RankMesh" "lastRootVersion" "[I", Cond.fieldLink RX0 53 "RankMesh" "versionOf" "[I", Cond.methodLink RX0 78 yX0_resetTimer, Cond.instanceMethod yX0_resetTimer, Cond.selects RX0 yX0_resetTimer yX0_resetTimer, Cond.code yX0_resetTimer cX0_resetTimer 2 none, Cond.fieldLink RX0 65 "RankMesh" "interval" "[I", Cond.fieldLink RX0 16 "RankMesh" "leastInterval" "I", Cond.fieldLink RX0 68 "RankMesh" "tellsAt" "[I", Cond.fieldLink RX0 22 "RankMesh" "now" "I"]
def wsL_makeRoot : List Cond := .codeWith yL_makeRoot cL_makeRoot 4 (some .int) [(0, 9, 12, 19), (0, 9, 15, 25)] :: ((wsL_makeRoot_r1 ++ wsL_makeRoot_r2) ++ wsX00 ++ (vx_atS RX0 106 "java/lang/IllegalStateException" ["java/lang/RuntimeException", "java/lang/Exception"]).filter goodWord ++ (vx_atS RX0 136 "java/lang/IndexOutOfBoundsException" ["java/lang/RuntimeException", "java/lang/Exception"]).filter goodWord)
def wsL_endRoot_r1 : List Cond := [Cond.classLink RL 19 "java/lang/IndexOutOfBoundsException", Cond.classLink RL 25 "java/lang/IllegalStateException", Cond.methodLink RL 27 yX0_endRoot, Cond.instanceMethod yX0_endRoot, Cond.selects RX0 yX0_endRoot yX0_endRoot, Cond.initialized RX0, Cond.code yX0_endRoot cX0_endRoot 2 none, Cond.fieldLink RX0 42 "RankMesh" "isRoot" "[Z", Cond.methodLink RX0 111 yX0_requireRoot, Cond.instanceMethod yX0_requireRoot, Cond.selects RX0 yX0_requireRoot yX0_requireRoot, Cond.code yX0_requireRoot cX0_requireRoot 2 none, Cond.classLink RX0 102 "java/lang/IllegalStateException", Cond.initialized "java/lang/IllegalStateException", Cond.methodLink RX0 89 yX0_requireNode, Cond.static yX0_requireNode, Cond.code yX0_requireNode cX0_requireNode 1 none, Cond.classLink RX0 132 "java/lang/IndexOutOfBoundsException", Cond.initialized "java/lang/IndexOutOfBoundsException", Cond.methodLink RX0 121 yX0_isNode, Cond.static yX0_isNode, Cond.code yX0_isNode cX0_isNode 1 (some .boolean), Cond.methodLink RX0 74 yX0_clearNode, Cond.instanceMethod yX0_clearNode]
def wsL_endRoot_r2 : List Cond := [Cond.selects RX0 yX0_clearNode yX0_clearNode, Cond.code yX0_clearNode cX0_clearNode 2 none, Cond.fieldLink RX0 50 "RankMesh" "treeOf" "[I", Cond.fieldLink RX0 53 "RankMesh" "versionOf" "[I", Cond.fieldLink RX0 56 "RankMesh" "rankOf" "[I", Cond.fieldLink RX0 59 "RankMesh" "lowestRank" "[I", Cond.fieldLink RX0 62 "RankMesh" "parentOf" "[I", Cond.methodLink RX0 78 yX0_resetTimer, Cond.instanceMethod yX0_resetTimer, Cond.selects RX0 yX0_resetTimer yX0_resetTimer, Cond.code yX0_resetTimer cX0_resetTimer 2 none, Cond.fieldLink RX0 65 "RankMesh" "interval" "[I", Cond.fieldLink RX0 16 "RankMesh" "leastInterval" "I", Cond.fieldLink RX0 68 "RankMesh" "tellsAt" "[I", Cond.fieldLink RX0 22 "RankMesh" "now" "I", Cond.methodLink RX0 99 yX0_choose, Cond.instanceMethod yX0_choose, Cond.selects RX0 yX0_choose yX0_choose, Cond.code yX0_choose cX0_choose 3 none, Cond.methodLink RX0 153 yX0_bestCandidate, Cond.instanceMethod yX0_bestCandidate, Cond.selects RX0 yX0_bestCandidate yX0_bestCandidate, Cond.code yX0_bestCandidate cX0_bestCandidate 6 (some .int), Cond.methodLink RX0 169 yX0_rankBy]
def wsL_endRoot_r3 : List Cond := [Cond.instanceMethod yX0_rankBy, Cond.selects RX0 yX0_rankBy yX0_rankBy, Cond.code yX0_rankBy cX0_rankBy 3 (some .int), Cond.fieldLink RX0 39 "RankMesh" "heardRank" "[[I", Cond.fieldLink RX0 30 "RankMesh" "costOf" "[[I", Cond.methodLink RX0 166 yX0_isCandidate, Cond.instanceMethod yX0_isCandidate, Cond.selects RX0 yX0_isCandidate yX0_isCandidate, Cond.code yX0_isCandidate cX0_isCandidate 4 (some .boolean), Cond.methodLink RX0 172 yX0_isOutdated, Cond.instanceMethod yX0_isOutdated, Cond.selects RX0 yX0_isOutdated yX0_isOutdated, Cond.code yX0_isOutdated cX0_isOutdated 6 (some .boolean), Cond.fieldLink RX0 33 "RankMesh" "heardTree" "[[I", Cond.fieldLink RX0 36 "RankMesh" "heardVersion" "[[I", Cond.methodLink RX0 175 yX0_isTooDeep, Cond.instanceMethod yX0_isTooDeep, Cond.selects RX0 yX0_isTooDeep yX0_isTooDeep, Cond.code yX0_isTooDeep cX0_isTooDeep 3 (some .boolean), Cond.fieldLink RX0 13 "RankMesh" "increase" "I", Cond.methodLink RX0 178 yX0_heardOwnVersion, Cond.instanceMethod yX0_heardOwnVersion, Cond.selects RX0 yX0_heardOwnVersion yX0_heardOwnVersion, Cond.code yX0_heardOwnVersion cX0_heardOwnVersion 3 (some .boolean)]
def wsL_endRoot_r4 : List Cond := [Cond.methodLink RX0 156 yX0_loseParent, Cond.instanceMethod yX0_loseParent, Cond.selects RX0 yX0_loseParent yX0_loseParent, Cond.code yX0_loseParent cX0_loseParent 3 none, Cond.methodLink RX0 159 yX0_keepsParent, Cond.instanceMethod yX0_keepsParent, Cond.selects RX0 yX0_keepsParent yX0_keepsParent, Cond.code yX0_keepsParent cX0_keepsParent 5 (some .boolean), Cond.fieldLink RX0 9 "RankMesh" "hysteresis" "I", Cond.methodLink RX0 163 yX0_follow, Cond.instanceMethod yX0_follow, Cond.selects RX0 yX0_follow yX0_follow, Cond.code yX0_follow cX0_follow 6 none, Cond.methodLink RX0 141 Lib.Math.min.name, Cond.static Lib.Math.min.name, Cond.initialized "java/lang/Math", Cond.code Lib.Math.min.name Lib.Math.min.code 2 (some .int)]
def wsL_endRoot : List Cond := .codeWith yL_endRoot cL_endRoot 3 (some .int) [(0, 5, 8, 19), (0, 5, 11, 25)] :: ((wsL_endRoot_r1 ++ (wsL_endRoot_r2 ++ (wsL_endRoot_r3 ++ wsL_endRoot_r4))) ++ wsX00 ++ (vx_atS RX0 106 "java/lang/IllegalStateException" ["java/lang/RuntimeException", "java/lang/Exception"]).filter goodWord ++ (vx_atS RX0 136 "java/lang/IndexOutOfBoundsException" ["java/lang/RuntimeException", "java/lang/Exception"]).filter goodWord)
def wsL_renew_r1 : List Cond := [Cond.classLink RL 19 "java/lang/IndexOutOfBoundsException", Cond.classLink RL 25 "java/lang/IllegalStateException", Cond.methodLink RL 31 yX0_renew, Cond.instanceMethod yX0_renew, Cond.selects RX0 yX0_renew yX0_renew, Cond.initialized RX0, Cond.code yX0_renew cX0_renew 2 (some .int), Cond.methodLink RX0 111 yX0_requireRoot, Cond.instanceMethod yX0_requireRoot, Cond.selects RX0 yX0_requireRoot yX0_requireRoot, Cond.code yX0_requireRoot cX0_requireRoot 2 none, Cond.classLink RX0 102 "java/lang/IllegalStateException", Cond.initialized "java/lang/IllegalStateException", Cond.fieldLink RX0 42 "RankMesh" "isRoot" "[Z", Cond.methodLink RX0 89 yX0_requireNode, Cond.static yX0_requireNode, Cond.code yX0_requireNode cX0_requireNode 1 none, Cond.classLink RX0 132 "java/lang/IndexOutOfBoundsException", Cond.initialized "java/lang/IndexOutOfBoundsException", Cond.methodLink RX0 121 yX0_isNode, Cond.static yX0_isNode, Cond.code yX0_isNode cX0_isNode 1 (some .boolean), Cond.methodLink RX0 107 yX0_beginVersion, Cond.instanceMethod yX0_beginVersion]
def wsL_renew_r2 : List Cond := [Cond.selects RX0 yX0_beginVersion yX0_beginVersion, Cond.code yX0_beginVersion cX0_beginVersion 2 (some .int), Cond.fieldLink RX0 46 "RankMesh" "lastRootVersion" "[I", Cond.fieldLink RX0 53 "RankMesh" "versionOf" "[I", Cond.methodLink RX0 78 yX0_resetTimer, Cond.instanceMethod yX0_resetTimer, Cond.selects RX0 yX0_resetTimer yX0_resetTimer, Cond.code yX0_resetTimer cX0_resetTimer 2 none, Cond.fieldLink RX0 65 "RankMesh" "interval" "[I", Cond.fieldLink RX0 16 "RankMesh" "leastInterval" "I", Cond.fieldLink RX0 68 "RankMesh" "tellsAt" "[I", Cond.fieldLink RX0 22 "RankMesh" "now" "I"]
def wsL_renew : List Cond := .codeWith yL_renew cL_renew 4 (some .int) [(0, 9, 12, 19), (0, 9, 15, 25)] :: ((wsL_renew_r1 ++ wsL_renew_r2) ++ wsX00 ++ (vx_atS RX0 106 "java/lang/IllegalStateException" ["java/lang/RuntimeException", "java/lang/Exception"]).filter goodWord ++ (vx_atS RX0 136 "java/lang/IndexOutOfBoundsException" ["java/lang/RuntimeException", "java/lang/Exception"]).filter goodWord)
def wsL_pass_r1 : List Cond := [Cond.classLink RL 13 "java/lang/IllegalArgumentException", Cond.methodLink RL 34 yX0_pass, Cond.instanceMethod yX0_pass, Cond.selects RX0 yX0_pass yX0_pass, Cond.initialized RX0, Cond.code yX0_pass cX0_pass 4 (some .int), Cond.methodLink RX0 85 yX0_requireRange, Cond.static yX0_requireRange, Cond.code yX0_requireRange cX0_requireRange 3 none, Cond.classLink RX0 92 "java/lang/IllegalArgumentException", Cond.initialized "java/lang/IllegalArgumentException", Cond.methodLink RX0 114 yX0_passTick, Cond.instanceMethod yX0_passTick, Cond.selects RX0 yX0_passTick yX0_passTick, Cond.code yX0_passTick cX0_passTick 3 (some .int), Cond.fieldLink RX0 22 "RankMesh" "now" "I", Cond.fieldLink RX0 68 "RankMesh" "tellsAt" "[I", Cond.methodLink RX0 147 yX0_tell, Cond.instanceMethod yX0_tell, Cond.selects RX0 yX0_tell yX0_tell, Cond.code yX0_tell cX0_tell 3 none, Cond.fieldLink RX0 30 "RankMesh" "costOf" "[[I", Cond.fieldLink RX0 33 "RankMesh" "heardTree" "[[I", Cond.fieldLink RX0 50 "RankMesh" "treeOf" "[I"]
def wsL_pass_r2 : List Cond := [Cond.fieldLink RX0 36 "RankMesh" "heardVersion" "[[I", Cond.fieldLink RX0 53 "RankMesh" "versionOf" "[I", Cond.fieldLink RX0 39 "RankMesh" "heardRank" "[[I", Cond.fieldLink RX0 56 "RankMesh" "rankOf" "[I", Cond.methodLink RX0 99 yX0_choose, Cond.instanceMethod yX0_choose, Cond.selects RX0 yX0_choose yX0_choose, Cond.code yX0_choose cX0_choose 3 none, Cond.fieldLink RX0 42 "RankMesh" "isRoot" "[Z", Cond.fieldLink RX0 62 "RankMesh" "parentOf" "[I", Cond.methodLink RX0 153 yX0_bestCandidate, Cond.instanceMethod yX0_bestCandidate, Cond.selects RX0 yX0_bestCandidate yX0_bestCandidate, Cond.code yX0_bestCandidate cX0_bestCandidate 6 (some .int), Cond.methodLink RX0 169 yX0_rankBy, Cond.instanceMethod yX0_rankBy, Cond.selects RX0 yX0_rankBy yX0_rankBy, Cond.code yX0_rankBy cX0_rankBy 3 (some .int), Cond.methodLink RX0 166 yX0_isCandidate, Cond.instanceMethod yX0_isCandidate, Cond.selects RX0 yX0_isCandidate yX0_isCandidate, Cond.code yX0_isCandidate cX0_isCandidate 4 (some .boolean), Cond.methodLink RX0 172 yX0_isOutdated, Cond.instanceMethod yX0_isOutdated]
def wsL_pass_r3 : List Cond := [Cond.selects RX0 yX0_isOutdated yX0_isOutdated, Cond.code yX0_isOutdated cX0_isOutdated 6 (some .boolean), Cond.methodLink RX0 175 yX0_isTooDeep, Cond.instanceMethod yX0_isTooDeep, Cond.selects RX0 yX0_isTooDeep yX0_isTooDeep, Cond.code yX0_isTooDeep cX0_isTooDeep 3 (some .boolean), Cond.fieldLink RX0 59 "RankMesh" "lowestRank" "[I", Cond.fieldLink RX0 13 "RankMesh" "increase" "I", Cond.methodLink RX0 178 yX0_heardOwnVersion, Cond.instanceMethod yX0_heardOwnVersion, Cond.selects RX0 yX0_heardOwnVersion yX0_heardOwnVersion, Cond.code yX0_heardOwnVersion cX0_heardOwnVersion 3 (some .boolean), Cond.methodLink RX0 121 yX0_isNode, Cond.static yX0_isNode, Cond.code yX0_isNode cX0_isNode 1 (some .boolean), Cond.methodLink RX0 156 yX0_loseParent, Cond.instanceMethod yX0_loseParent, Cond.selects RX0 yX0_loseParent yX0_loseParent, Cond.code yX0_loseParent cX0_loseParent 3 none, Cond.methodLink RX0 78 yX0_resetTimer, Cond.instanceMethod yX0_resetTimer, Cond.selects RX0 yX0_resetTimer yX0_resetTimer, Cond.code yX0_resetTimer cX0_resetTimer 2 none, Cond.fieldLink RX0 65 "RankMesh" "interval" "[I"]
def wsL_pass_r4 : List Cond := [Cond.fieldLink RX0 16 "RankMesh" "leastInterval" "I", Cond.methodLink RX0 159 yX0_keepsParent, Cond.instanceMethod yX0_keepsParent, Cond.selects RX0 yX0_keepsParent yX0_keepsParent, Cond.code yX0_keepsParent cX0_keepsParent 5 (some .boolean), Cond.fieldLink RX0 9 "RankMesh" "hysteresis" "I", Cond.methodLink RX0 163 yX0_follow, Cond.instanceMethod yX0_follow, Cond.selects RX0 yX0_follow yX0_follow, Cond.code yX0_follow cX0_follow 6 none, Cond.methodLink RX0 141 Lib.Math.min.name, Cond.static Lib.Math.min.name, Cond.initialized "java/lang/Math", Cond.code Lib.Math.min.name Lib.Math.min.code 2 (some .int), Cond.methodLink RX0 150 yX0_lengthenTimer, Cond.instanceMethod yX0_lengthenTimer, Cond.selects RX0 yX0_lengthenTimer yX0_lengthenTimer, Cond.code yX0_lengthenTimer cX0_lengthenTimer 2 none, Cond.fieldLink RX0 19 "RankMesh" "doublings" "I"]
def wsL_pass : List Cond := .codeWith yL_pass cL_pass 4 (some .int) [(0, 9, 12, 13)] :: ((wsL_pass_r1 ++ (wsL_pass_r2 ++ (wsL_pass_r3 ++ wsL_pass_r4))) ++ wsX00 ++ (vx_atS RX0 96 "java/lang/IllegalArgumentException" ["java/lang/RuntimeException", "java/lang/Exception"]).filter goodWord)
def wsL_rank : List Cond := .codeWith yL_rank cL_rank 4 (some .int) [(0, 9, 12, 19)] :: ([.classLink RL 19 "java/lang/IndexOutOfBoundsException", .methodLink RL 37 yX0_rank, .instanceMethod yX0_rank, .selects RX0 yX0_rank yX0_rank, .initialized RX0, .code yX0_rank cX0_rank 2 (some .int), .fieldLink RX0 56 "RankMesh" "rankOf" "[I", .methodLink RX0 89 yX0_requireNode, .static yX0_requireNode, .code yX0_requireNode cX0_requireNode 1 none, .classLink RX0 132 "java/lang/IndexOutOfBoundsException", .initialized "java/lang/IndexOutOfBoundsException", .methodLink RX0 121 yX0_isNode, .static yX0_isNode, .code yX0_isNode cX0_isNode 1 (some .boolean)] ++ wsX00 ++ (vx_atS RX0 136 "java/lang/IndexOutOfBoundsException" ["java/lang/RuntimeException", "java/lang/Exception"]).filter goodWord)
def wsL_parent : List Cond := .codeWith yL_parent cL_parent 4 (some .int) [(0, 9, 12, 19)] :: ([.classLink RL 19 "java/lang/IndexOutOfBoundsException", .methodLink RL 40 yX0_parent, .instanceMethod yX0_parent, .selects RX0 yX0_parent yX0_parent, .initialized RX0, .code yX0_parent cX0_parent 2 (some .int), .fieldLink RX0 62 "RankMesh" "parentOf" "[I", .methodLink RX0 89 yX0_requireNode, .static yX0_requireNode, .code yX0_requireNode cX0_requireNode 1 none, .classLink RX0 132 "java/lang/IndexOutOfBoundsException", .initialized "java/lang/IndexOutOfBoundsException", .methodLink RX0 121 yX0_isNode, .static yX0_isNode, .code yX0_isNode cX0_isNode 1 (some .boolean)] ++ wsX00 ++ (vx_atS RX0 136 "java/lang/IndexOutOfBoundsException" ["java/lang/RuntimeException", "java/lang/Exception"]).filter goodWord)
def wsL_tree : List Cond := .codeWith yL_tree cL_tree 4 (some .int) [(0, 9, 12, 19)] :: ([.classLink RL 19 "java/lang/IndexOutOfBoundsException", .methodLink RL 43 yX0_tree, .instanceMethod yX0_tree, .selects RX0 yX0_tree yX0_tree, .initialized RX0, .code yX0_tree cX0_tree 2 (some .int), .fieldLink RX0 50 "RankMesh" "treeOf" "[I", .fieldLink RX0 53 "RankMesh" "versionOf" "[I", .methodLink RX0 89 yX0_requireNode, .static yX0_requireNode, .code yX0_requireNode cX0_requireNode 1 none, .classLink RX0 132 "java/lang/IndexOutOfBoundsException", .initialized "java/lang/IndexOutOfBoundsException", .methodLink RX0 121 yX0_isNode, .static yX0_isNode, .code yX0_isNode cX0_isNode 1 (some .boolean)] ++ wsX00 ++ (vx_atS RX0 136 "java/lang/IndexOutOfBoundsException" ["java/lang/RuntimeException", "java/lang/Exception"]).filter goodWord)
def wsL_nextTelling : List Cond := .codeWith yL_nextTelling cL_nextTelling 4 (some .int) [(0, 9, 12, 19)] :: ([.classLink RL 19 "java/lang/IndexOutOfBoundsException", .methodLink RL 46 yX0_nextTelling, .instanceMethod yX0_nextTelling, .selects RX0 yX0_nextTelling yX0_nextTelling, .initialized RX0, .code yX0_nextTelling cX0_nextTelling 2 (some .int), .fieldLink RX0 68 "RankMesh" "tellsAt" "[I", .methodLink RX0 89 yX0_requireNode, .static yX0_requireNode, .code yX0_requireNode cX0_requireNode 1 none, .classLink RX0 132 "java/lang/IndexOutOfBoundsException", .initialized "java/lang/IndexOutOfBoundsException", .methodLink RX0 121 yX0_isNode, .static yX0_isNode, .code yX0_isNode cX0_isNode 1 (some .boolean)] ++ wsX00 ++ (vx_atS RX0 136 "java/lang/IndexOutOfBoundsException" ["java/lang/RuntimeException", "java/lang/Exception"]).filter goodWord)
def wsL_heard : List Cond := .codeWith yL_heard cL_heard 5 (some .int) [(0, 10, 13, 19)] :: ([.classLink RL 19 "java/lang/IndexOutOfBoundsException", .methodLink RL 49 yX0_heard, .instanceMethod yX0_heard, .selects RX0 yX0_heard yX0_heard, .initialized RX0, .code yX0_heard cX0_heard 3 (some .int), .fieldLink RX0 39 "RankMesh" "heardRank" "[[I", .methodLink RX0 89 yX0_requireNode, .static yX0_requireNode, .code yX0_requireNode cX0_requireNode 1 none, .classLink RX0 132 "java/lang/IndexOutOfBoundsException", .initialized "java/lang/IndexOutOfBoundsException", .methodLink RX0 121 yX0_isNode, .static yX0_isNode, .code yX0_isNode cX0_isNode 1 (some .boolean)] ++ wsX00 ++ (vx_atS RX0 136 "java/lang/IndexOutOfBoundsException" ["java/lang/RuntimeException", "java/lang/Exception"]).filter goodWord)
def wsL_leastRank_r1 : List Cond := [Cond.classLink RL 19 "java/lang/IndexOutOfBoundsException", Cond.methodLink RL 53 yX0_leastRank, Cond.instanceMethod yX0_leastRank, Cond.selects RX0 yX0_leastRank yX0_leastRank, Cond.initialized RX0, Cond.code yX0_leastRank cX0_leastRank 3 (some .int), Cond.fieldLink RX0 71 "RankMesh" "wayCost" "[I", Cond.fieldLink RX0 42 "RankMesh" "isRoot" "[Z", Cond.methodLink RX0 89 yX0_requireNode, Cond.static yX0_requireNode, Cond.code yX0_requireNode cX0_requireNode 1 none, Cond.classLink RX0 132 "java/lang/IndexOutOfBoundsException", Cond.initialized "java/lang/IndexOutOfBoundsException", Cond.methodLink RX0 121 yX0_isNode, Cond.static yX0_isNode, Cond.code yX0_isNode cX0_isNode 1 (some .boolean), Cond.methodLink RX0 118 yX0_lowerWayCosts, Cond.instanceMethod yX0_lowerWayCosts, Cond.selects RX0 yX0_lowerWayCosts yX0_lowerWayCosts, Cond.code yX0_lowerWayCosts cX0_lowerWayCosts 4 none, Cond.fieldLink RX0 30 "RankMesh" "costOf" "[[I", Cond.methodLink RX0 141 Lib.Math.min.name, Cond.static Lib.Math.min.name, Cond.initialized "java/lang/Math"]
def wsL_leastRank_r2 : List Cond := [Cond.code Lib.Math.min.name Lib.Math.min.code 2 (some .int)]
def wsL_leastRank : List Cond := .codeWith yL_leastRank cL_leastRank 4 (some .int) [(0, 9, 12, 19)] :: ((wsL_leastRank_r1 ++ wsL_leastRank_r2) ++ wsX00 ++ (vx_atS RX0 136 "java/lang/IndexOutOfBoundsException" ["java/lang/RuntimeException", "java/lang/Exception"]).filter goodWord)
def wsL_up : List Cond := .codeWith yL_up cL_up 4 (some .int) [(0, 9, 12, 19)] :: ([.classLink RL 19 "java/lang/IndexOutOfBoundsException", .methodLink RL 56 yX0_up, .instanceMethod yX0_up, .selects RX0 yX0_up yX0_up, .initialized RX0, .code yX0_up cX0_up 7 (some .int), .fieldLink RX0 42 "RankMesh" "isRoot" "[Z", .fieldLink RX0 62 "RankMesh" "parentOf" "[I", .fieldLink RX0 56 "RankMesh" "rankOf" "[I", .fieldLink RX0 25 "RankMesh" "droppedPackets" "I", .methodLink RX0 89 yX0_requireNode, .static yX0_requireNode, .code yX0_requireNode cX0_requireNode 1 none, .classLink RX0 132 "java/lang/IndexOutOfBoundsException", .initialized "java/lang/IndexOutOfBoundsException", .methodLink RX0 121 yX0_isNode, .static yX0_isNode, .code yX0_isNode cX0_isNode 1 (some .boolean)] ++ wsX00 ++ (vx_atS RX0 136 "java/lang/IndexOutOfBoundsException" ["java/lang/RuntimeException", "java/lang/Exception"]).filter goodWord)
def wsL_below : List Cond := .codeWith yL_below cL_below 4 (some .int) [(0, 9, 12, 19)] :: ([.classLink RL 19 "java/lang/IndexOutOfBoundsException", .methodLink RL 59 yX0_below, .instanceMethod yX0_below, .selects RX0 yX0_below yX0_below, .initialized RX0, .code yX0_below cX0_below 4 (some .int), .methodLink RX0 89 yX0_requireNode, .static yX0_requireNode, .code yX0_requireNode cX0_requireNode 1 none, .classLink RX0 132 "java/lang/IndexOutOfBoundsException", .initialized "java/lang/IndexOutOfBoundsException", .methodLink RX0 121 yX0_isNode, .static yX0_isNode, .code yX0_isNode cX0_isNode 1 (some .boolean), .methodLink RX0 125 yX0_childrenOf, .instanceMethod yX0_childrenOf, .selects RX0 yX0_childrenOf yX0_childrenOf, .code yX0_childrenOf cX0_childrenOf 5 (some .int), .fieldLink RX0 62 "RankMesh" "parentOf" "[I"] ++ wsX00 ++ (vx_atS RX0 136 "java/lang/IndexOutOfBoundsException" ["java/lang/RuntimeException", "java/lang/Exception"]).filter goodWord)
def wsL_down : List Cond := .codeWith yL_down cL_down 5 (some .int) [(0, 10, 13, 19), (0, 10, 17, 25)] :: ([.classLink RL 19 "java/lang/IndexOutOfBoundsException", .classLink RL 25 "java/lang/IllegalStateException", .methodLink RL 62 yX0_down, .instanceMethod yX0_down, .selects RX0 yX0_down yX0_down, .initialized RX0, .code yX0_down cX0_down 5 (some .int), .classLink RX0 102 "java/lang/IllegalStateException", .initialized "java/lang/IllegalStateException", .fieldLink RX0 62 "RankMesh" "parentOf" "[I", .methodLink RX0 89 yX0_requireNode, .static yX0_requireNode, .code yX0_requireNode cX0_requireNode 1 none, .classLink RX0 132 "java/lang/IndexOutOfBoundsException", .initialized "java/lang/IndexOutOfBoundsException", .methodLink RX0 121 yX0_isNode, .static yX0_isNode, .code yX0_isNode cX0_isNode 1 (some .boolean)] ++ wsX00 ++ (vx_atS RX0 106 "java/lang/IllegalStateException" ["java/lang/RuntimeException", "java/lang/Exception"]).filter goodWord ++ (vx_atS RX0 136 "java/lang/IndexOutOfBoundsException" ["java/lang/RuntimeException", "java/lang/Exception"]).filter goodWord)
def wsL_law0_r1 : List Cond := [Cond.classLink RL 8 RX0, Cond.instantiable RX0 20, Cond.initialized RX0, Cond.classLink RL 66 RX1, Cond.instantiable RX1 21, Cond.initialized RX1, Cond.arrayClass .long, Cond.methodLink RL 65 yX0_init, Cond.instanceMethod yX0_init, Cond.code yX0_init cX0_init 3 none, Cond.methodLink RX0 3 objectInit, Cond.instanceMethod objectInit, Cond.code objectInit ⟨#[0xb1]⟩ 1 none, Cond.fieldLink RX0 9 "RankMesh" "hysteresis" "I", Cond.fieldLink RX0 13 "RankMesh" "increase" "I", Cond.fieldLink RX0 16 "RankMesh" "leastInterval" "I", Cond.fieldLink RX0 19 "RankMesh" "doublings" "I", Cond.fieldLink RX0 22 "RankMesh" "now" "I", Cond.fieldLink RX0 25 "RankMesh" "droppedPackets" "I", Cond.classLink RX0 28 "[[I", Cond.arrayClass .int, Cond.fieldLink RX0 30 "RankMesh" "costOf" "[[I", Cond.fieldLink RX0 33 "RankMesh" "heardTree" "[[I", Cond.fieldLink RX0 36 "RankMesh" "heardVersion" "[[I"]
def wsL_law0_r2 : List Cond := [Cond.fieldLink RX0 39 "RankMesh" "heardRank" "[[I", Cond.arrayClass .boolean, Cond.fieldLink RX0 42 "RankMesh" "isRoot" "[Z", Cond.fieldLink RX0 46 "RankMesh" "lastRootVersion" "[I", Cond.fieldLink RX0 50 "RankMesh" "treeOf" "[I", Cond.fieldLink RX0 53 "RankMesh" "versionOf" "[I", Cond.fieldLink RX0 56 "RankMesh" "rankOf" "[I", Cond.fieldLink RX0 59 "RankMesh" "lowestRank" "[I", Cond.fieldLink RX0 62 "RankMesh" "parentOf" "[I", Cond.fieldLink RX0 65 "RankMesh" "interval" "[I", Cond.fieldLink RX0 68 "RankMesh" "tellsAt" "[I", Cond.fieldLink RX0 71 "RankMesh" "wayCost" "[I", Cond.methodLink RX0 74 yX0_clearNode, Cond.instanceMethod yX0_clearNode, Cond.selects RX0 yX0_clearNode yX0_clearNode, Cond.code yX0_clearNode cX0_clearNode 2 none, Cond.methodLink RX0 78 yX0_resetTimer, Cond.instanceMethod yX0_resetTimer, Cond.selects RX0 yX0_resetTimer yX0_resetTimer, Cond.code yX0_resetTimer cX0_resetTimer 2 none, Cond.methodLink RX0 81 yX0_forget, Cond.instanceMethod yX0_forget, Cond.selects RX0 yX0_forget yX0_forget, Cond.code yX0_forget cX0_forget 3 none]
def wsL_law0_r3 : List Cond := [Cond.methodLink RL 68 yX1_init, Cond.instanceMethod yX1_init, Cond.code yX1_init cX1_init 2 none, Cond.methodLink RX1 1 objectInit, Cond.fieldLink RX1 7 "RankMeshModel" "increase" "I", Cond.fieldLink RX1 13 "RankMeshModel" "least" "I", Cond.fieldLink RX1 16 "RankMeshModel" "doublings" "I", Cond.fieldLink RX1 19 "RankMeshModel" "cost" "[I", Cond.fieldLink RX1 23 "RankMeshModel" "isRoot" "[Z", Cond.fieldLink RX1 27 "RankMeshModel" "rooted" "[I", Cond.fieldLink RX1 30 "RankMeshModel" "tree" "[I", Cond.fieldLink RX1 33 "RankMeshModel" "version" "[I", Cond.fieldLink RX1 36 "RankMeshModel" "rank" "[I", Cond.fieldLink RX1 39 "RankMeshModel" "parent" "[I", Cond.fieldLink RX1 42 "RankMeshModel" "lowest" "[I", Cond.fieldLink RX1 45 "RankMeshModel" "interval" "[I", Cond.fieldLink RX1 48 "RankMeshModel" "next" "[I", Cond.fieldLink RX1 51 "RankMeshModel" "heardTree" "[I", Cond.fieldLink RX1 54 "RankMeshModel" "heardVersion" "[I", Cond.fieldLink RX1 57 "RankMeshModel" "heardRank" "[I", Cond.fieldLink RX1 60 "RankMeshModel" "way" "[I", Cond.methodLink RL 69 yL_setRules, Cond.static yL_setRules, Cond.initialized RL]
def wsL_law0_r4 : List Cond := [Cond.codeWith yL_setRules cL_setRules 6 (some .int) [(0, 9, 12, 13)], Cond.classLink RL 13 "java/lang/IllegalArgumentException", Cond.methodLink RL 7 yX0_setRules, Cond.instanceMethod yX0_setRules, Cond.selects RX0 yX0_setRules yX0_setRules, Cond.code yX0_setRules cX0_setRules 5 none, Cond.methodLink RX0 85 yX0_requireRange, Cond.static yX0_requireRange, Cond.code yX0_requireRange cX0_requireRange 3 none, Cond.classLink RX0 92 "java/lang/IllegalArgumentException", Cond.initialized "java/lang/IllegalArgumentException", Cond.methodLink RL 74 yX1_setRules, Cond.instanceMethod yX1_setRules, Cond.selects RX1 yX1_setRules yX1_setRules, Cond.code yX1_setRules cX1_setRules 6 none, Cond.fieldLink RX1 81 "RankMeshModel" "hysteresis" "I", Cond.methodLink RX1 66 yX1_isIn, Cond.static yX1_isIn, Cond.code yX1_isIn cX1_isIn 3 (some .boolean), Cond.methodLink RX1 95 yX1_fails, Cond.instanceMethod yX1_fails, Cond.selects RX1 yX1_fails yX1_fails, Cond.code yX1_fails cX1_fails 2 (some .boolean), Cond.fieldLink RX1 63 "RankMeshModel" "thrown" "I"]
def wsL_law0_r5 : List Cond := [Cond.methodLink RL 75 yX1_thrown, Cond.instanceMethod yX1_thrown, Cond.selects RX1 yX1_thrown yX1_thrown, Cond.code yX1_thrown cX1_thrown 1 (some .int), Cond.methodLink RL 79 yL_link, Cond.static yL_link, Cond.codeWith yL_link cL_link 6 (some .int) [(0, 12, 15, 19), (0, 12, 19, 13)], Cond.classLink RL 19 "java/lang/IndexOutOfBoundsException", Cond.methodLink RL 15 yX0_link, Cond.instanceMethod yX0_link, Cond.selects RX0 yX0_link yX0_link, Cond.code yX0_link cX0_link 5 (some .int), Cond.methodLink RX0 89 yX0_requireNode, Cond.static yX0_requireNode, Cond.code yX0_requireNode cX0_requireNode 1 none, Cond.classLink RX0 132 "java/lang/IndexOutOfBoundsException", Cond.initialized "java/lang/IndexOutOfBoundsException", Cond.methodLink RX0 121 yX0_isNode, Cond.static yX0_isNode, Cond.code yX0_isNode cX0_isNode 1 (some .boolean), Cond.methodLink RX0 99 yX0_choose, Cond.instanceMethod yX0_choose, Cond.selects RX0 yX0_choose yX0_choose, Cond.code yX0_choose cX0_choose 3 none]
def wsL_law0_r6 : List Cond := [Cond.methodLink RX0 153 yX0_bestCandidate, Cond.instanceMethod yX0_bestCandidate, Cond.selects RX0 yX0_bestCandidate yX0_bestCandidate, Cond.code yX0_bestCandidate cX0_bestCandidate 6 (some .int), Cond.methodLink RX0 169 yX0_rankBy, Cond.instanceMethod yX0_rankBy, Cond.selects RX0 yX0_rankBy yX0_rankBy, Cond.code yX0_rankBy cX0_rankBy 3 (some .int), Cond.methodLink RX0 166 yX0_isCandidate, Cond.instanceMethod yX0_isCandidate, Cond.selects RX0 yX0_isCandidate yX0_isCandidate, Cond.code yX0_isCandidate cX0_isCandidate 4 (some .boolean), Cond.methodLink RX0 172 yX0_isOutdated, Cond.instanceMethod yX0_isOutdated, Cond.selects RX0 yX0_isOutdated yX0_isOutdated, Cond.code yX0_isOutdated cX0_isOutdated 6 (some .boolean), Cond.methodLink RX0 175 yX0_isTooDeep, Cond.instanceMethod yX0_isTooDeep, Cond.selects RX0 yX0_isTooDeep yX0_isTooDeep, Cond.code yX0_isTooDeep cX0_isTooDeep 3 (some .boolean), Cond.methodLink RX0 178 yX0_heardOwnVersion, Cond.instanceMethod yX0_heardOwnVersion, Cond.selects RX0 yX0_heardOwnVersion yX0_heardOwnVersion, Cond.code yX0_heardOwnVersion cX0_heardOwnVersion 3 (some .boolean)]
def wsL_law0_r7 : List Cond := [Cond.methodLink RX0 156 yX0_loseParent, Cond.instanceMethod yX0_loseParent, Cond.selects RX0 yX0_loseParent yX0_loseParent, Cond.code yX0_loseParent cX0_loseParent 3 none, Cond.methodLink RX0 159 yX0_keepsParent, Cond.instanceMethod yX0_keepsParent, Cond.selects RX0 yX0_keepsParent yX0_keepsParent, Cond.code yX0_keepsParent cX0_keepsParent 5 (some .boolean), Cond.methodLink RX0 163 yX0_follow, Cond.instanceMethod yX0_follow, Cond.selects RX0 yX0_follow yX0_follow, Cond.code yX0_follow cX0_follow 6 none, Cond.methodLink RX0 141 Lib.Math.min.name, Cond.static Lib.Math.min.name, Cond.initialized "java/lang/Math", Cond.code Lib.Math.min.name Lib.Math.min.code 2 (some .int), Cond.methodLink RL 82 yX1_link, Cond.instanceMethod yX1_link, Cond.selects RX1 yX1_link yX1_link, Cond.code yX1_link cX1_link 6 (some .int), Cond.methodLink RX1 99 yX1_isNode, Cond.static yX1_isNode, Cond.code yX1_isNode cX1_isNode 1 (some .boolean), Cond.methodLink RX1 92 yX1_chooses]
def wsL_law0_r8 : List Cond := [Cond.instanceMethod yX1_chooses, Cond.selects RX1 yX1_chooses yX1_chooses, Cond.code yX1_chooses cX1_chooses 7 none, Cond.methodLink RX1 77 yX1_isCandidate, Cond.instanceMethod yX1_isCandidate, Cond.selects RX1 yX1_isCandidate yX1_isCandidate, Cond.code yX1_isCandidate cX1_isCandidate 8 (some .boolean), Cond.methodLink RX1 73 yX1_rankBy, Cond.instanceMethod yX1_rankBy, Cond.selects RX1 yX1_rankBy yX1_rankBy, Cond.code yX1_rankBy cX1_rankBy 3 (some .int), Cond.methodLink RX1 84 yX1_takes, Cond.instanceMethod yX1_takes, Cond.selects RX1 yX1_takes yX1_takes, Cond.code yX1_takes cX1_takes 5 none, Cond.methodLink RX1 88 yX1_resets, Cond.instanceMethod yX1_resets, Cond.selects RX1 yX1_resets yX1_resets, Cond.code yX1_resets cX1_resets 2 none, Cond.fieldLink RX1 70 "RankMeshModel" "time" "I", Cond.methodLink RL 83 yL_makeRoot, Cond.static yL_makeRoot, Cond.codeWith yL_makeRoot cL_makeRoot 4 (some .int) [(0, 9, 12, 19), (0, 9, 15, 25)], Cond.classLink RL 25 "java/lang/IllegalStateException"]
def wsL_law0_r9 : List Cond := [Cond.methodLink RL 21 yX0_makeRoot, Cond.instanceMethod yX0_makeRoot, Cond.selects RX0 yX0_makeRoot yX0_makeRoot, Cond.code yX0_makeRoot cX0_makeRoot 2 (some .int), Cond.classLink RX0 102 "java/lang/IllegalStateException", Cond.initialized "java/lang/IllegalStateException", Cond.methodLink RX0 107 yX0_beginVersion, Cond.instanceMethod yX0_beginVersion, Cond.selects RX0 yX0_beginVersion yX0_beginVersion, Cond.code yX0_beginVersion cX0_beginVersion 2 (some .int), Cond.methodLink RL 86 yX1_makeRoot, Cond.instanceMethod yX1_makeRoot, Cond.selects RX1 yX1_makeRoot yX1_makeRoot, Cond.code yX1_makeRoot cX1_makeRoot 3 (some .int), Cond.methodLink RX1 102 yX1_begins, Cond.instanceMethod yX1_begins, Cond.selects RX1 yX1_begins yX1_begins, Cond.code yX1_begins cX1_begins 2 none, Cond.methodLink RL 87 yL_endRoot, Cond.static yL_endRoot, Cond.codeWith yL_endRoot cL_endRoot 3 (some .int) [(0, 5, 8, 19), (0, 5, 11, 25)], Cond.methodLink RL 27 yX0_endRoot, Cond.instanceMethod yX0_endRoot, Cond.selects RX0 yX0_endRoot yX0_endRoot]
def wsL_law0_r10 : List Cond := [Cond.code yX0_endRoot cX0_endRoot 2 none, Cond.methodLink RX0 111 yX0_requireRoot, Cond.instanceMethod yX0_requireRoot, Cond.selects RX0 yX0_requireRoot yX0_requireRoot, Cond.code yX0_requireRoot cX0_requireRoot 2 none, Cond.methodLink RL 90 yX1_endRoot, Cond.instanceMethod yX1_endRoot, Cond.selects RX1 yX1_endRoot yX1_endRoot, Cond.code yX1_endRoot cX1_endRoot 3 none, Cond.methodLink RL 91 yL_renew, Cond.static yL_renew, Cond.codeWith yL_renew cL_renew 4 (some .int) [(0, 9, 12, 19), (0, 9, 15, 25)], Cond.methodLink RL 31 yX0_renew, Cond.instanceMethod yX0_renew, Cond.selects RX0 yX0_renew yX0_renew, Cond.code yX0_renew cX0_renew 2 (some .int), Cond.methodLink RL 93 yX1_renew, Cond.instanceMethod yX1_renew, Cond.selects RX1 yX1_renew yX1_renew, Cond.code yX1_renew cX1_renew 3 (some .int), Cond.methodLink RL 94 yL_pass, Cond.static yL_pass, Cond.codeWith yL_pass cL_pass 4 (some .int) [(0, 9, 12, 13)], Cond.methodLink RL 34 yX0_pass]
def wsL_law0_r11 : List Cond := [Cond.instanceMethod yX0_pass, Cond.selects RX0 yX0_pass yX0_pass, Cond.code yX0_pass cX0_pass 4 (some .int), Cond.methodLink RX0 114 yX0_passTick, Cond.instanceMethod yX0_passTick, Cond.selects RX0 yX0_passTick yX0_passTick, Cond.code yX0_passTick cX0_passTick 3 (some .int), Cond.methodLink RX0 147 yX0_tell, Cond.instanceMethod yX0_tell, Cond.selects RX0 yX0_tell yX0_tell, Cond.code yX0_tell cX0_tell 3 none, Cond.methodLink RX0 150 yX0_lengthenTimer, Cond.instanceMethod yX0_lengthenTimer, Cond.selects RX0 yX0_lengthenTimer yX0_lengthenTimer, Cond.code yX0_lengthenTimer cX0_lengthenTimer 2 none, Cond.methodLink RL 96 yX1_pass, Cond.instanceMethod yX1_pass, Cond.selects RX1 yX1_pass yX1_pass, Cond.code yX1_pass cX1_pass 6 (some .int), Cond.methodLink RX1 105 yX1_tells, Cond.instanceMethod yX1_tells, Cond.selects RX1 yX1_tells yX1_tells, Cond.code yX1_tells cX1_tells 4 none, Cond.methodLink RL 97 yX0_time]
def wsL_law0_r12 : List Cond := [Cond.instanceMethod yX0_time, Cond.selects RX0 yX0_time yX0_time, Cond.code yX0_time cX0_time 1 (some .int), Cond.methodLink RL 100 yX1_time, Cond.instanceMethod yX1_time, Cond.selects RX1 yX1_time yX1_time, Cond.code yX1_time cX1_time 1 (some .int), Cond.methodLink RL 101 yL_rank, Cond.static yL_rank, Cond.codeWith yL_rank cL_rank 4 (some .int) [(0, 9, 12, 19)], Cond.methodLink RL 37 yX0_rank, Cond.instanceMethod yX0_rank, Cond.selects RX0 yX0_rank yX0_rank, Cond.code yX0_rank cX0_rank 2 (some .int), Cond.methodLink RL 103 yX1_rank, Cond.instanceMethod yX1_rank, Cond.selects RX1 yX1_rank yX1_rank, Cond.code yX1_rank cX1_rank 2 (some .int), Cond.methodLink RX1 108 yX1_of, Cond.instanceMethod yX1_of, Cond.selects RX1 yX1_of yX1_of, Cond.code yX1_of cX1_of 3 (some .int), Cond.methodLink RL 104 yL_parent, Cond.static yL_parent]
def wsL_law0_r13 : List Cond := [Cond.codeWith yL_parent cL_parent 4 (some .int) [(0, 9, 12, 19)], Cond.methodLink RL 40 yX0_parent, Cond.instanceMethod yX0_parent, Cond.selects RX0 yX0_parent yX0_parent, Cond.code yX0_parent cX0_parent 2 (some .int), Cond.methodLink RL 106 yX1_parent, Cond.instanceMethod yX1_parent, Cond.selects RX1 yX1_parent yX1_parent, Cond.code yX1_parent cX1_parent 2 (some .int), Cond.methodLink RL 107 yL_tree, Cond.static yL_tree, Cond.codeWith yL_tree cL_tree 4 (some .int) [(0, 9, 12, 19)], Cond.methodLink RL 43 yX0_tree, Cond.instanceMethod yX0_tree, Cond.selects RX0 yX0_tree yX0_tree, Cond.code yX0_tree cX0_tree 2 (some .int), Cond.methodLink RL 109 yX1_tree, Cond.instanceMethod yX1_tree, Cond.selects RX1 yX1_tree yX1_tree, Cond.code yX1_tree cX1_tree 2 (some .int), Cond.methodLink RL 110 yL_nextTelling, Cond.static yL_nextTelling, Cond.codeWith yL_nextTelling cL_nextTelling 4 (some .int) [(0, 9, 12, 19)], Cond.methodLink RL 46 yX0_nextTelling]
def wsL_law0_r14 : List Cond := [Cond.instanceMethod yX0_nextTelling, Cond.selects RX0 yX0_nextTelling yX0_nextTelling, Cond.code yX0_nextTelling cX0_nextTelling 2 (some .int), Cond.methodLink RL 112 yX1_nextTelling, Cond.instanceMethod yX1_nextTelling, Cond.selects RX1 yX1_nextTelling yX1_nextTelling, Cond.code yX1_nextTelling cX1_nextTelling 2 (some .int), Cond.methodLink RL 113 yL_heard, Cond.static yL_heard, Cond.codeWith yL_heard cL_heard 5 (some .int) [(0, 10, 13, 19)], Cond.methodLink RL 49 yX0_heard, Cond.instanceMethod yX0_heard, Cond.selects RX0 yX0_heard yX0_heard, Cond.code yX0_heard cX0_heard 3 (some .int), Cond.methodLink RL 116 yX1_heard, Cond.instanceMethod yX1_heard, Cond.selects RX1 yX1_heard yX1_heard, Cond.code yX1_heard cX1_heard 3 (some .int), Cond.methodLink RL 117 yL_leastRank, Cond.static yL_leastRank, Cond.codeWith yL_leastRank cL_leastRank 4 (some .int) [(0, 9, 12, 19)], Cond.methodLink RL 53 yX0_leastRank, Cond.instanceMethod yX0_leastRank, Cond.selects RX0 yX0_leastRank yX0_leastRank]
def wsL_law0_r15 : List Cond := [Cond.code yX0_leastRank cX0_leastRank 3 (some .int), Cond.methodLink RX0 118 yX0_lowerWayCosts, Cond.instanceMethod yX0_lowerWayCosts, Cond.selects RX0 yX0_lowerWayCosts yX0_lowerWayCosts, Cond.code yX0_lowerWayCosts cX0_lowerWayCosts 4 none, Cond.methodLink RL 119 yX1_leastRank, Cond.instanceMethod yX1_leastRank, Cond.selects RX1 yX1_leastRank yX1_leastRank, Cond.code yX1_leastRank cX1_leastRank 6 (some .int), Cond.methodLink RL 120 yL_up, Cond.static yL_up, Cond.codeWith yL_up cL_up 4 (some .int) [(0, 9, 12, 19)], Cond.methodLink RL 56 yX0_up, Cond.instanceMethod yX0_up, Cond.selects RX0 yX0_up yX0_up, Cond.code yX0_up cX0_up 7 (some .int), Cond.methodLink RL 122 yX1_up, Cond.instanceMethod yX1_up, Cond.selects RX1 yX1_up yX1_up, Cond.code yX1_up cX1_up 6 (some .int), Cond.fieldLink RX1 112 "RankMeshModel" "loops" "I", Cond.methodLink RL 123 yX0_loops, Cond.instanceMethod yX0_loops, Cond.selects RX0 yX0_loops yX0_loops]
def wsL_law0_r16 : List Cond := [Cond.code yX0_loops cX0_loops 1 (some .int), Cond.methodLink RL 126 yX1_loops, Cond.instanceMethod yX1_loops, Cond.selects RX1 yX1_loops yX1_loops, Cond.code yX1_loops cX1_loops 1 (some .int), Cond.methodLink RL 127 yL_below, Cond.static yL_below, Cond.codeWith yL_below cL_below 4 (some .int) [(0, 9, 12, 19)], Cond.methodLink RL 59 yX0_below, Cond.instanceMethod yX0_below, Cond.selects RX0 yX0_below yX0_below, Cond.code yX0_below cX0_below 4 (some .int), Cond.methodLink RX0 125 yX0_childrenOf, Cond.instanceMethod yX0_childrenOf, Cond.selects RX0 yX0_childrenOf yX0_childrenOf, Cond.code yX0_childrenOf cX0_childrenOf 5 (some .int), Cond.methodLink RL 129 yX1_below, Cond.instanceMethod yX1_below, Cond.selects RX1 yX1_below yX1_below, Cond.code yX1_below cX1_below 2 (some .int), Cond.methodLink RX1 115 yX1_under, Cond.instanceMethod yX1_under, Cond.selects RX1 yX1_under yX1_under, Cond.code yX1_under cX1_under 5 (some .int)]
def wsL_law0_r17 : List Cond := [Cond.methodLink RL 130 yL_down, Cond.static yL_down, Cond.codeWith yL_down cL_down 5 (some .int) [(0, 10, 13, 19), (0, 10, 17, 25)], Cond.methodLink RL 62 yX0_down, Cond.instanceMethod yX0_down, Cond.selects RX0 yX0_down yX0_down, Cond.code yX0_down cX0_down 5 (some .int), Cond.methodLink RL 132 yX1_down, Cond.instanceMethod yX1_down, Cond.selects RX1 yX1_down yX1_down, Cond.code yX1_down cX1_down 5 (some .int)]
def wsL_law0 : List Cond := (wsL_law0_r1 ++ (wsL_law0_r2 ++ (wsL_law0_r3 ++ (wsL_law0_r4 ++ (wsL_law0_r5 ++ (wsL_law0_r6 ++ (wsL_law0_r7 ++ (wsL_law0_r8 ++ (wsL_law0_r9 ++ (wsL_law0_r10 ++ (wsL_law0_r11 ++ (wsL_law0_r12 ++ (wsL_law0_r13 ++ (wsL_law0_r14 ++ (wsL_law0_r15 ++ (wsL_law0_r16 ++ wsL_law0_r17)))))))))))))))) ++ wsX00 ++ wsX10 ++ ([] : List Cond)
def wsL_law : List Cond := wsL_law0 ++ (vx_atS RX0 96 "java/lang/IllegalArgumentException" ["java/lang/RuntimeException", "java/lang/Exception"]).filter goodWord ++ (vx_atS RX0 136 "java/lang/IndexOutOfBoundsException" ["java/lang/RuntimeException", "java/lang/Exception"]).filter goodWord ++ (vx_atS RX0 106 "java/lang/IllegalStateException" ["java/lang/RuntimeException", "java/lang/Exception"]).filter goodWord
set_option maxRecDepth 20000 in
theorem in_wsL_law0_r1 : ∀ w ∈ wsL_law0_r1, w ∈ lw_tbl := fun w h => (goodIn_p wsL_law0_r1 [45, 48] (by decide +kernel) (by decide +kernel) w h).1
set_option maxRecDepth 20000 in
theorem in_wsL_law0_r2 : ∀ w ∈ wsL_law0_r2, w ∈ lw_tbl := fun w h => (goodIn_p wsL_law0_r2 [54, 58, 62] (by decide +kernel) (by decide +kernel) w h).1
set_option maxRecDepth 20000 in
theorem in_wsL_law0_r3 : ∀ w ∈ wsL_law0_r3, w ∈ lw_tbl := fun w h => (goodIn_p wsL_law0_r3 [430] (by decide +kernel) (by decide +kernel) w h).1
set_option maxRecDepth 20000 in
theorem in_wsL_law0_r4 : ∀ w ∈ wsL_law0_r4, w ∈ lw_tbl := fun w h => (goodIn_p wsL_law0_r4 [141, 144, 503, 506, 510] (by decide +kernel) (by decide +kernel) w h).1
set_option maxRecDepth 20000 in
theorem in_wsL_law0_r5 : ∀ w ∈ wsL_law0_r5, w ∈ lw_tbl := fun w h => (goodIn_p wsL_law0_r5 [499, 220, 223, 226, 247] (by decide +kernel) (by decide +kernel) w h).1
set_option maxRecDepth 20000 in
theorem in_wsL_law0_r6 : ∀ w ∈ wsL_law0_r6, w ∈ lw_tbl := fun w h => (goodIn_p wsL_law0_r6 [251, 255, 259, 263, 267, 271] (by decide +kernel) (by decide +kernel) w h).1
set_option maxRecDepth 20000 in
theorem in_wsL_law0_r7 : ∀ w ∈ wsL_law0_r7, w ∈ lw_tbl := fun w h => (goodIn_p wsL_law0_r7 [275, 279, 283, 286, 514, 517] (by decide +kernel) (by decide +kernel) w h).1
set_option maxRecDepth 20000 in
theorem in_wsL_law0_r8 : ∀ w ∈ wsL_law0_r8, w ∈ lw_tbl := fun w h => (goodIn_p wsL_law0_r8 [521, 525, 529, 533, 537] (by decide +kernel) (by decide +kernel) w h).1
set_option maxRecDepth 20000 in
theorem in_wsL_law0_r9 : ∀ w ∈ wsL_law0_r9, w ∈ lw_tbl := fun w h => (goodIn_p wsL_law0_r9 [294, 314, 541, 545] (by decide +kernel) (by decide +kernel) w h).1
set_option maxRecDepth 20000 in
theorem in_wsL_law0_r10 : ∀ w ∈ wsL_law0_r10, w ∈ lw_tbl := fun w h => (goodIn_p wsL_law0_r10 [321, 325, 549, 333, 553] (by decide +kernel) (by decide +kernel) w h).1
set_option maxRecDepth 20000 in
theorem in_wsL_law0_r11 : ∀ w ∈ wsL_law0_r11, w ∈ lw_tbl := fun w h => (goodIn_p wsL_law0_r11 [340, 344, 348, 352, 557, 561] (by decide +kernel) (by decide +kernel) w h).1
set_option maxRecDepth 20000 in
theorem in_wsL_law0_r12 : ∀ w ∈ wsL_law0_r12, w ∈ lw_tbl := fun w h => (goodIn_p wsL_law0_r12 [129, 565, 359, 569, 573] (by decide +kernel) (by decide +kernel) w h).1
set_option maxRecDepth 20000 in
theorem in_wsL_law0_r13 : ∀ w ∈ wsL_law0_r13, w ∈ lw_tbl := fun w h => (goodIn_p wsL_law0_r13 [366, 577, 373, 581] (by decide +kernel) (by decide +kernel) w h).1
set_option maxRecDepth 20000 in
theorem in_wsL_law0_r14 : ∀ w ∈ wsL_law0_r14, w ∈ lw_tbl := fun w h => (goodIn_p wsL_law0_r14 [380, 585, 387, 589] (by decide +kernel) (by decide +kernel) w h).1
set_option maxRecDepth 20000 in
theorem in_wsL_law0_r15 : ∀ w ∈ wsL_law0_r15, w ∈ lw_tbl := fun w h => (goodIn_p wsL_law0_r15 [394, 398, 593, 405, 597] (by decide +kernel) (by decide +kernel) w h).1
set_option maxRecDepth 20000 in
theorem in_wsL_law0_r16 : ∀ w ∈ wsL_law0_r16, w ∈ lw_tbl := fun w h => (goodIn_p wsL_law0_r16 [133, 601, 412, 416, 605, 609] (by decide +kernel) (by decide +kernel) w h).1
set_option maxRecDepth 20000 in
theorem in_wsL_law0_r17 : ∀ w ∈ wsL_law0_r17, w ∈ lw_tbl := fun w h => (goodIn_p wsL_law0_r17 [423, 613] (by decide +kernel) (by decide +kernel) w h).1
set_option maxRecDepth 20000 in
theorem in_wsX00 : ∀ w ∈ wsX00, w ∈ lw_tbl := by decide +kernel
set_option maxRecDepth 20000 in
theorem in_wsX10 : ∀ w ∈ wsX10, w ∈ lw_tbl := by decide +kernel
theorem in_app {a b c : List Cond} (h1 : ∀ w ∈ a, w ∈ c) (h2 : ∀ w ∈ b, w ∈ c) : ∀ w ∈ a ++ b, w ∈ c := fun w h => (List.mem_append.mp h).elim (h1 w) (h2 w)
theorem wsL_law_in0 : ∀ w ∈ wsL_law0, w ∈ lw_tbl := in_app (in_app (in_app (in_app in_wsL_law0_r1 (in_app in_wsL_law0_r2 (in_app in_wsL_law0_r3 (in_app in_wsL_law0_r4 (in_app in_wsL_law0_r5 (in_app in_wsL_law0_r6 (in_app in_wsL_law0_r7 (in_app in_wsL_law0_r8 (in_app in_wsL_law0_r9 (in_app in_wsL_law0_r10 (in_app in_wsL_law0_r11 (in_app in_wsL_law0_r12 (in_app in_wsL_law0_r13 (in_app in_wsL_law0_r14 (in_app in_wsL_law0_r15 (in_app in_wsL_law0_r16 (in_wsL_law0_r17))))))))))))))))) in_wsX00) in_wsX10) (fun _ h => absurd h List.not_mem_nil)
theorem wsL_law_x0 : ∀ w ∈ (vx_atS RX0 96 "java/lang/IllegalArgumentException" ["java/lang/RuntimeException", "java/lang/Exception"]).filter goodWord, w ∈ lw_tbl := by decide +kernel
theorem wsL_law_x1 : ∀ w ∈ (vx_atS RX0 136 "java/lang/IndexOutOfBoundsException" ["java/lang/RuntimeException", "java/lang/Exception"]).filter goodWord, w ∈ lw_tbl := by decide +kernel
theorem wsL_law_x2 : ∀ w ∈ (vx_atS RX0 106 "java/lang/IllegalStateException" ["java/lang/RuntimeException", "java/lang/Exception"]).filter goodWord, w ∈ lw_tbl := by decide +kernel
theorem wsL_law_in : ∀ w ∈ wsL_law, w ∈ lw_tbl := fun w h => (List.mem_append.mp h).elim (fun h => (List.mem_append.mp h).elim (fun h => (List.mem_append.mp h).elim (fun h => wsL_law_in0 w h) (fun h => wsL_law_x0 w h)) (fun h => wsL_law_x1 w h)) (fun h => wsL_law_x2 w h)
theorem inlX0 : ∀ w ∈ wsX00, w ∈ wsL_law := fun _ h => List.mem_append_left _ (List.mem_append_left _ (List.mem_append_left _ (List.mem_append_left _ (List.mem_append_left _ (List.mem_append_right _ h)))))
theorem inX0 : ∀ w ∈ wsX00, w ∈ lw_tbl := fun w h => wsL_law_in w (inlX0 w h)
theorem inlX1 : ∀ w ∈ wsX10, w ∈ wsL_law := fun _ h => List.mem_append_left _ (List.mem_append_left _ (List.mem_append_left _ (List.mem_append_left _ (List.mem_append_right _ h))))
theorem inX1 : ∀ w ∈ wsX10, w ∈ lw_tbl := fun w h => wsL_law_in w (inlX1 w h)
theorem inJ9 : ∀ w ∈ wsJ90, w ∈ lw_tbl := by decide +kernel
theorem inJ0 : ∀ w ∈ wsJ00, w ∈ lw_tbl := by decide +kernel
abbrev vwCl : List vw_C := [(RX0, TX0, 20), (RX1, TX1, 21)]
end
section
theorem dJ9_min_7cf53_0 : decode cJ9_min_7cf53 0 = .ok (.iload_n 0, 1) := by decide +kernel
theorem dJ9_min_7cf53_1 : decode cJ9_min_7cf53 1 = .ok (.iload_n 1, 1) := by decide +kernel
theorem dJ9_min_7cf53_2 : decode cJ9_min_7cf53 2 = .ok (.if_icmp .gt 7, 3) := by decide +kernel
theorem dJ9_min_7cf53_5 : decode cJ9_min_7cf53 5 = .ok (.iload_n 0, 1) := by decide +kernel
theorem dJ9_min_7cf53_6 : decode cJ9_min_7cf53 6 = .ok (.goto 4, 3) := by decide +kernel
theorem dJ9_min_7cf53_9 : decode cJ9_min_7cf53 9 = .ok (.iload_n 1, 1) := by decide +kernel
theorem dJ9_min_7cf53_10 : decode cJ9_min_7cf53 10 = .ok (.ireturn, 1) := by decide +kernel
end
section
set_option maxRecDepth 20000 in
theorem ggX0_init_X0_clearNode : GoodIn wsX0_init wsX0_clearNode := goodIn_r _ [31, 19, 20, 21, 22, 23, 40, 41, 42, 43, 44, 45, 46, 47, 48, 49, 50, 51, 52, 53, 54, 55, 56, 57, 58, 59] (by decide +kernel) (by decide +kernel)
set_option maxRecDepth 20000 in
theorem gX0_init_X0_clearNode : GoodIn wsX0_init (wsV RX0 74 RX0 yX0_clearNode wsX0_clearNode) := goodIn_app (goodIn_of _ (by decide +kernel)) ggX0_init_X0_clearNode
set_option maxRecDepth 20000 in
theorem ggX0_init_X0_resetTimer : GoodIn wsX0_init wsX0_resetTimer := goodIn_r _ [35, 24, 6, 25, 8, 40, 41, 42, 43, 44, 45, 46, 47, 48, 49, 50, 51, 52, 53, 54, 55, 56, 57, 58, 59] (by decide +kernel) (by decide +kernel)
set_option maxRecDepth 20000 in
theorem gX0_init_X0_resetTimer : GoodIn wsX0_init (wsV RX0 78 RX0 yX0_resetTimer wsX0_resetTimer) := goodIn_app (goodIn_of _ (by decide +kernel)) ggX0_init_X0_resetTimer
set_option maxRecDepth 20000 in
theorem ggX0_init_X0_forget : GoodIn wsX0_init wsX0_forget := goodIn_r _ [39, 13, 14, 15, 40, 41, 42, 43, 44, 45, 46, 47, 48, 49, 50, 51, 52, 53, 54, 55, 56, 57, 58, 59] (by decide +kernel) (by decide +kernel)
set_option maxRecDepth 20000 in
theorem gX0_init_X0_forget : GoodIn wsX0_init (wsV RX0 81 RX0 yX0_forget wsX0_forget) := goodIn_app (goodIn_of _ (by decide +kernel)) ggX0_init_X0_forget
theorem dX0_init_0 : decode cX0_init 0 = .ok (.aload_n 0, 1) := by decide +kernel
theorem dX0_init_1 : decode cX0_init 1 = .ok (.invokespecial 3, 3) := by decide +kernel
theorem dX0_init_4 : decode cX0_init 4 = .ok (.aload_n 0, 1) := by decide +kernel
theorem dX0_init_5 : decode cX0_init 5 = .ok (.iconst 0, 1) := by decide +kernel
theorem dX0_init_6 : decode cX0_init 6 = .ok (.putfield 9, 3) := by decide +kernel
theorem dX0_init_9 : decode cX0_init 9 = .ok (.aload_n 0, 1) := by decide +kernel
theorem dX0_init_10 : decode cX0_init 10 = .ok (.sipush 10000, 3) := by decide +kernel
theorem dX0_init_13 : decode cX0_init 13 = .ok (.putfield 13, 3) := by decide +kernel
theorem dX0_init_16 : decode cX0_init 16 = .ok (.aload_n 0, 1) := by decide +kernel
theorem dX0_init_17 : decode cX0_init 17 = .ok (.iconst 1, 1) := by decide +kernel
theorem dX0_init_18 : decode cX0_init 18 = .ok (.putfield 16, 3) := by decide +kernel
theorem dX0_init_21 : decode cX0_init 21 = .ok (.aload_n 0, 1) := by decide +kernel
theorem dX0_init_22 : decode cX0_init 22 = .ok (.iconst 4, 1) := by decide +kernel
theorem dX0_init_23 : decode cX0_init 23 = .ok (.putfield 19, 3) := by decide +kernel
theorem dX0_init_26 : decode cX0_init 26 = .ok (.aload_n 0, 1) := by decide +kernel
theorem dX0_init_27 : decode cX0_init 27 = .ok (.iconst 0, 1) := by decide +kernel
theorem dX0_init_28 : decode cX0_init 28 = .ok (.putfield 22, 3) := by decide +kernel
theorem dX0_init_31 : decode cX0_init 31 = .ok (.aload_n 0, 1) := by decide +kernel
theorem dX0_init_32 : decode cX0_init 32 = .ok (.iconst 0, 1) := by decide +kernel
theorem dX0_init_33 : decode cX0_init 33 = .ok (.putfield 25, 3) := by decide +kernel
theorem dX0_init_36 : decode cX0_init 36 = .ok (.aload_n 0, 1) := by decide +kernel
theorem dX0_init_37 : decode cX0_init 37 = .ok (.bipush 10, 2) := by decide +kernel
theorem dX0_init_39 : decode cX0_init 39 = .ok (.bipush 10, 2) := by decide +kernel
theorem dX0_init_41 : decode cX0_init 41 = .ok (.multianewarray 28 2, 4) := by decide +kernel
theorem dX0_init_45 : decode cX0_init 45 = .ok (.putfield 30, 3) := by decide +kernel
theorem dX0_init_48 : decode cX0_init 48 = .ok (.aload_n 0, 1) := by decide +kernel
theorem dX0_init_49 : decode cX0_init 49 = .ok (.bipush 10, 2) := by decide +kernel
theorem dX0_init_51 : decode cX0_init 51 = .ok (.bipush 10, 2) := by decide +kernel
theorem dX0_init_53 : decode cX0_init 53 = .ok (.multianewarray 28 2, 4) := by decide +kernel
theorem dX0_init_57 : decode cX0_init 57 = .ok (.putfield 33, 3) := by decide +kernel
theorem dX0_init_60 : decode cX0_init 60 = .ok (.aload_n 0, 1) := by decide +kernel
theorem dX0_init_61 : decode cX0_init 61 = .ok (.bipush 10, 2) := by decide +kernel
theorem dX0_init_63 : decode cX0_init 63 = .ok (.bipush 10, 2) := by decide +kernel
theorem dX0_init_65 : decode cX0_init 65 = .ok (.multianewarray 28 2, 4) := by decide +kernel
theorem dX0_init_69 : decode cX0_init 69 = .ok (.putfield 36, 3) := by decide +kernel
theorem dX0_init_72 : decode cX0_init 72 = .ok (.aload_n 0, 1) := by decide +kernel
theorem dX0_init_73 : decode cX0_init 73 = .ok (.bipush 10, 2) := by decide +kernel
theorem dX0_init_75 : decode cX0_init 75 = .ok (.bipush 10, 2) := by decide +kernel
theorem dX0_init_77 : decode cX0_init 77 = .ok (.multianewarray 28 2, 4) := by decide +kernel
theorem dX0_init_81 : decode cX0_init 81 = .ok (.putfield 39, 3) := by decide +kernel
theorem dX0_init_84 : decode cX0_init 84 = .ok (.aload_n 0, 1) := by decide +kernel
theorem dX0_init_85 : decode cX0_init 85 = .ok (.bipush 10, 2) := by decide +kernel
theorem dX0_init_87 : decode cX0_init 87 = .ok (.newarray .boolean, 2) := by decide +kernel
theorem dX0_init_89 : decode cX0_init 89 = .ok (.putfield 42, 3) := by decide +kernel
theorem dX0_init_92 : decode cX0_init 92 = .ok (.aload_n 0, 1) := by decide +kernel
theorem dX0_init_93 : decode cX0_init 93 = .ok (.bipush 10, 2) := by decide +kernel
theorem dX0_init_95 : decode cX0_init 95 = .ok (.newarray .int, 2) := by decide +kernel
theorem dX0_init_97 : decode cX0_init 97 = .ok (.putfield 46, 3) := by decide +kernel
theorem dX0_init_100 : decode cX0_init 100 = .ok (.aload_n 0, 1) := by decide +kernel
theorem dX0_init_101 : decode cX0_init 101 = .ok (.bipush 10, 2) := by decide +kernel
theorem dX0_init_103 : decode cX0_init 103 = .ok (.newarray .int, 2) := by decide +kernel
theorem dX0_init_105 : decode cX0_init 105 = .ok (.putfield 50, 3) := by decide +kernel
theorem dX0_init_108 : decode cX0_init 108 = .ok (.aload_n 0, 1) := by decide +kernel
theorem dX0_init_109 : decode cX0_init 109 = .ok (.bipush 10, 2) := by decide +kernel
theorem dX0_init_111 : decode cX0_init 111 = .ok (.newarray .int, 2) := by decide +kernel
theorem dX0_init_113 : decode cX0_init 113 = .ok (.putfield 53, 3) := by decide +kernel
theorem dX0_init_116 : decode cX0_init 116 = .ok (.aload_n 0, 1) := by decide +kernel
theorem dX0_init_117 : decode cX0_init 117 = .ok (.bipush 10, 2) := by decide +kernel
theorem dX0_init_119 : decode cX0_init 119 = .ok (.newarray .int, 2) := by decide +kernel
theorem dX0_init_121 : decode cX0_init 121 = .ok (.putfield 56, 3) := by decide +kernel
theorem dX0_init_124 : decode cX0_init 124 = .ok (.aload_n 0, 1) := by decide +kernel
theorem dX0_init_125 : decode cX0_init 125 = .ok (.bipush 10, 2) := by decide +kernel
theorem dX0_init_127 : decode cX0_init 127 = .ok (.newarray .int, 2) := by decide +kernel
theorem dX0_init_129 : decode cX0_init 129 = .ok (.putfield 59, 3) := by decide +kernel
theorem dX0_init_132 : decode cX0_init 132 = .ok (.aload_n 0, 1) := by decide +kernel
theorem dX0_init_133 : decode cX0_init 133 = .ok (.bipush 10, 2) := by decide +kernel
theorem dX0_init_135 : decode cX0_init 135 = .ok (.newarray .int, 2) := by decide +kernel
theorem dX0_init_137 : decode cX0_init 137 = .ok (.putfield 62, 3) := by decide +kernel
theorem dX0_init_140 : decode cX0_init 140 = .ok (.aload_n 0, 1) := by decide +kernel
theorem dX0_init_141 : decode cX0_init 141 = .ok (.bipush 10, 2) := by decide +kernel
theorem dX0_init_143 : decode cX0_init 143 = .ok (.newarray .int, 2) := by decide +kernel
theorem dX0_init_145 : decode cX0_init 145 = .ok (.putfield 65, 3) := by decide +kernel
theorem dX0_init_148 : decode cX0_init 148 = .ok (.aload_n 0, 1) := by decide +kernel
theorem dX0_init_149 : decode cX0_init 149 = .ok (.bipush 10, 2) := by decide +kernel
theorem dX0_init_151 : decode cX0_init 151 = .ok (.newarray .int, 2) := by decide +kernel
theorem dX0_init_153 : decode cX0_init 153 = .ok (.putfield 68, 3) := by decide +kernel
theorem dX0_init_156 : decode cX0_init 156 = .ok (.aload_n 0, 1) := by decide +kernel
theorem dX0_init_157 : decode cX0_init 157 = .ok (.bipush 10, 2) := by decide +kernel
theorem dX0_init_159 : decode cX0_init 159 = .ok (.newarray .int, 2) := by decide +kernel
theorem dX0_init_161 : decode cX0_init 161 = .ok (.putfield 71, 3) := by decide +kernel
theorem dX0_init_164 : decode cX0_init 164 = .ok (.iconst 0, 1) := by decide +kernel
theorem dX0_init_165 : decode cX0_init 165 = .ok (.istore_n 1, 1) := by decide +kernel
theorem dX0_init_166 : decode cX0_init 166 = .ok (.iload_n 1, 1) := by decide +kernel
theorem dX0_init_167 : decode cX0_init 167 = .ok (.bipush 10, 2) := by decide +kernel
theorem dX0_init_169 : decode cX0_init 169 = .ok (.if_icmp .ge 39, 3) := by decide +kernel
theorem dX0_init_172 : decode cX0_init 172 = .ok (.aload_n 0, 1) := by decide +kernel
theorem dX0_init_173 : decode cX0_init 173 = .ok (.iload_n 1, 1) := by decide +kernel
theorem dX0_init_174 : decode cX0_init 174 = .ok (.invokevirtual 74, 3) := by decide +kernel
theorem dX0_init_177 : decode cX0_init 177 = .ok (.aload_n 0, 1) := by decide +kernel
theorem dX0_init_178 : decode cX0_init 178 = .ok (.iload_n 1, 1) := by decide +kernel
theorem dX0_init_179 : decode cX0_init 179 = .ok (.invokevirtual 78, 3) := by decide +kernel
theorem dX0_init_182 : decode cX0_init 182 = .ok (.iconst 0, 1) := by decide +kernel
theorem dX0_init_183 : decode cX0_init 183 = .ok (.istore_n 2, 1) := by decide +kernel
theorem dX0_init_184 : decode cX0_init 184 = .ok (.iload_n 2, 1) := by decide +kernel
theorem dX0_init_185 : decode cX0_init 185 = .ok (.bipush 10, 2) := by decide +kernel
theorem dX0_init_187 : decode cX0_init 187 = .ok (.if_icmp .ge 15, 3) := by decide +kernel
theorem dX0_init_190 : decode cX0_init 190 = .ok (.aload_n 0, 1) := by decide +kernel
theorem dX0_init_191 : decode cX0_init 191 = .ok (.iload_n 1, 1) := by decide +kernel
theorem dX0_init_192 : decode cX0_init 192 = .ok (.iload_n 2, 1) := by decide +kernel
theorem dX0_init_193 : decode cX0_init 193 = .ok (.invokevirtual 81, 3) := by decide +kernel
theorem dX0_init_196 : decode cX0_init 196 = .ok (.iinc 2 1, 3) := by decide +kernel
theorem dX0_init_199 : decode cX0_init 199 = .ok (.goto (-15), 3) := by decide +kernel
theorem dX0_init_202 : decode cX0_init 202 = .ok (.iinc 1 1, 3) := by decide +kernel
theorem dX0_init_205 : decode cX0_init 205 = .ok (.goto (-39), 3) := by decide +kernel
theorem dX0_init_208 : decode cX0_init 208 = .ok (.return_, 1) := by decide +kernel
set_option maxRecDepth 20000 in
theorem ggX0_setRules_X0_requireRange : GoodIn wsX0_setRules wsX0_requireRange := goodIn_ca (goodIn_r _ [8, 9, 10] (by decide +kernel) (by decide +kernel)) (goodIn_sub (fun _ h => List.mem_cons_of_mem _ (List.mem_append_right _ h)) (by decide +kernel))
set_option maxRecDepth 20000 in
theorem gX0_setRules_X0_requireRange : GoodIn wsX0_setRules (va_wsS RX0 85 yX0_requireRange wsX0_requireRange) := goodIn_app (goodIn_of _ (by decide +kernel)) ggX0_setRules_X0_requireRange
theorem dX0_setRules_0 : decode cX0_setRules 0 = .ok (.iload_n 1, 1) := by decide +kernel
theorem dX0_setRules_1 : decode cX0_setRules 1 = .ok (.iconst 0, 1) := by decide +kernel
theorem dX0_setRules_2 : decode cX0_setRules 2 = .ok (.bipush 100, 2) := by decide +kernel
theorem dX0_setRules_4 : decode cX0_setRules 4 = .ok (.invokestatic 85, 3) := by decide +kernel
theorem dX0_setRules_7 : decode cX0_setRules 7 = .ok (.iload_n 2, 1) := by decide +kernel
theorem dX0_setRules_8 : decode cX0_setRules 8 = .ok (.iconst 0, 1) := by decide +kernel
theorem dX0_setRules_9 : decode cX0_setRules 9 = .ok (.sipush 10000, 3) := by decide +kernel
theorem dX0_setRules_12 : decode cX0_setRules 12 = .ok (.invokestatic 85, 3) := by decide +kernel
theorem dX0_setRules_15 : decode cX0_setRules 15 = .ok (.iload_n 3, 1) := by decide +kernel
theorem dX0_setRules_16 : decode cX0_setRules 16 = .ok (.iconst 1, 1) := by decide +kernel
theorem dX0_setRules_17 : decode cX0_setRules 17 = .ok (.bipush 8, 2) := by decide +kernel
theorem dX0_setRules_19 : decode cX0_setRules 19 = .ok (.invokestatic 85, 3) := by decide +kernel
theorem dX0_setRules_22 : decode cX0_setRules 22 = .ok (.iload 4, 2) := by decide +kernel
theorem dX0_setRules_24 : decode cX0_setRules 24 = .ok (.iconst 0, 1) := by decide +kernel
theorem dX0_setRules_25 : decode cX0_setRules 25 = .ok (.bipush 6, 2) := by decide +kernel
theorem dX0_setRules_27 : decode cX0_setRules 27 = .ok (.invokestatic 85, 3) := by decide +kernel
theorem dX0_setRules_30 : decode cX0_setRules 30 = .ok (.aload_n 0, 1) := by decide +kernel
theorem dX0_setRules_31 : decode cX0_setRules 31 = .ok (.iload_n 1, 1) := by decide +kernel
theorem dX0_setRules_32 : decode cX0_setRules 32 = .ok (.putfield 9, 3) := by decide +kernel
theorem dX0_setRules_35 : decode cX0_setRules 35 = .ok (.aload_n 0, 1) := by decide +kernel
theorem dX0_setRules_36 : decode cX0_setRules 36 = .ok (.iload_n 2, 1) := by decide +kernel
theorem dX0_setRules_37 : decode cX0_setRules 37 = .ok (.putfield 13, 3) := by decide +kernel
theorem dX0_setRules_40 : decode cX0_setRules 40 = .ok (.aload_n 0, 1) := by decide +kernel
theorem dX0_setRules_41 : decode cX0_setRules 41 = .ok (.iload_n 3, 1) := by decide +kernel
theorem dX0_setRules_42 : decode cX0_setRules 42 = .ok (.putfield 16, 3) := by decide +kernel
theorem dX0_setRules_45 : decode cX0_setRules 45 = .ok (.aload_n 0, 1) := by decide +kernel
theorem dX0_setRules_46 : decode cX0_setRules 46 = .ok (.iload 4, 2) := by decide +kernel
theorem dX0_setRules_48 : decode cX0_setRules 48 = .ok (.putfield 19, 3) := by decide +kernel
theorem dX0_setRules_51 : decode cX0_setRules 51 = .ok (.return_, 1) := by decide +kernel
set_option maxRecDepth 20000 in
theorem ggX0_link_X0_requireNode : GoodIn wsX0_link wsX0_requireNode := goodIn_ca (goodIn_r _ [7, 8, 9, 10, 11, 6, 12] (by decide +kernel) (by decide +kernel)) (goodIn_sub (fun _ h => List.mem_cons_of_mem _ (List.mem_append_right _ h)) (by decide +kernel))
set_option maxRecDepth 20000 in
theorem gX0_link_X0_requireNode : GoodIn wsX0_link (va_wsS RX0 89 yX0_requireNode wsX0_requireNode) := goodIn_app (goodIn_of _ (by decide +kernel)) ggX0_link_X0_requireNode
set_option maxRecDepth 20000 in
theorem ggX0_link_X0_requireRange : GoodIn wsX0_link wsX0_requireRange := goodIn_ca (goodIn_r _ [15, 1, 2] (by decide +kernel) (by decide +kernel)) (goodIn_sub (fun _ h => List.mem_cons_of_mem _ (List.mem_append_left _ (List.mem_append_right _ h))) (by decide +kernel))
set_option maxRecDepth 20000 in
theorem gX0_link_X0_requireRange : GoodIn wsX0_link (va_wsS RX0 85 yX0_requireRange wsX0_requireRange) := goodIn_app (goodIn_of _ (by decide +kernel)) ggX0_link_X0_requireRange
set_option maxRecDepth 20000 in
theorem ggX0_link_X0_forget : GoodIn wsX0_link wsX0_forget := goodIn_r _ [19, 20, 21, 22, 83, 84, 85, 86, 87, 88, 89, 90, 91, 92, 93, 94, 95, 96, 97, 98, 99, 100, 101, 102] (by decide +kernel) (by decide +kernel)
set_option maxRecDepth 20000 in
theorem gX0_link_X0_forget : GoodIn wsX0_link (wsV RX0 81 RX0 yX0_forget wsX0_forget) := goodIn_app (goodIn_of _ (by decide +kernel)) ggX0_link_X0_forget
set_option maxRecDepth 20000 in
theorem ggX0_link_X0_choose : GoodIn wsX0_link wsX0_choose := goodIn_r _ [26, 27, 28, 29, 30, 31, 6, 32, 33, 34, 35, 36, 22, 3, 37, 38, 39, 40, 41, 42, 43, 44, 20, 21, 45, 46, 47, 48, 49, 50, 51, 52, 53, 54, 55, 56, 57, 10, 11, 12, 58, 59, 60, 61, 62, 63, 64, 65, 66, 67, 68, 69, 70, 71, 72, 73, 74, 75, 76, 77, 78, 79, 80, 81, 82, 83, 84, 85, 86, 87, 88, 89, 90, 91, 92, 93, 94, 95, 96, 97, 98, 99, 100, 101, 102] (by decide +kernel) (by decide +kernel)
set_option maxRecDepth 20000 in
theorem gX0_link_X0_choose : GoodIn wsX0_link (wsV RX0 99 RX0 yX0_choose wsX0_choose) := goodIn_app (goodIn_of _ (by decide +kernel)) ggX0_link_X0_choose
theorem dX0_link_0 : decode cX0_link 0 = .ok (.iload_n 1, 1) := by decide +kernel
theorem dX0_link_1 : decode cX0_link 1 = .ok (.invokestatic 89, 3) := by decide +kernel
theorem dX0_link_4 : decode cX0_link 4 = .ok (.iload_n 2, 1) := by decide +kernel
theorem dX0_link_5 : decode cX0_link 5 = .ok (.invokestatic 89, 3) := by decide +kernel
theorem dX0_link_8 : decode cX0_link 8 = .ok (.iload_n 1, 1) := by decide +kernel
theorem dX0_link_9 : decode cX0_link 9 = .ok (.iload_n 2, 1) := by decide +kernel
theorem dX0_link_10 : decode cX0_link 10 = .ok (.if_icmp .ne 13, 3) := by decide +kernel
theorem dX0_link_13 : decode cX0_link 13 = .ok (.new 92, 3) := by decide +kernel
theorem dX0_link_16 : decode cX0_link 16 = .ok (.dup, 1) := by decide +kernel
theorem dX0_link_17 : decode cX0_link 17 = .ok (.ldc 94, 2) := by decide +kernel
theorem dX0_link_19 : decode cX0_link 19 = .ok (.invokespecial 96, 3) := by decide +kernel
theorem dX0_link_22 : decode cX0_link 22 = .ok (.athrow, 1) := by decide +kernel
theorem dX0_link_23 : decode cX0_link 23 = .ok (.iload_n 3, 1) := by decide +kernel
theorem dX0_link_24 : decode cX0_link 24 = .ok (.iconst 0, 1) := by decide +kernel
theorem dX0_link_25 : decode cX0_link 25 = .ok (.bipush 100, 2) := by decide +kernel
theorem dX0_link_27 : decode cX0_link 27 = .ok (.invokestatic 85, 3) := by decide +kernel
theorem dX0_link_30 : decode cX0_link 30 = .ok (.aload_n 0, 1) := by decide +kernel
theorem dX0_link_31 : decode cX0_link 31 = .ok (.getfield 30, 3) := by decide +kernel
theorem dX0_link_34 : decode cX0_link 34 = .ok (.iload_n 1, 1) := by decide +kernel
theorem dX0_link_35 : decode cX0_link 35 = .ok (.aaload, 1) := by decide +kernel
theorem dX0_link_36 : decode cX0_link 36 = .ok (.iload_n 2, 1) := by decide +kernel
theorem dX0_link_37 : decode cX0_link 37 = .ok (.iaload, 1) := by decide +kernel
theorem dX0_link_38 : decode cX0_link 38 = .ok (.istore 4, 2) := by decide +kernel
theorem dX0_link_40 : decode cX0_link 40 = .ok (.aload_n 0, 1) := by decide +kernel
theorem dX0_link_41 : decode cX0_link 41 = .ok (.getfield 30, 3) := by decide +kernel
theorem dX0_link_44 : decode cX0_link 44 = .ok (.iload_n 1, 1) := by decide +kernel
theorem dX0_link_45 : decode cX0_link 45 = .ok (.aaload, 1) := by decide +kernel
theorem dX0_link_46 : decode cX0_link 46 = .ok (.iload_n 2, 1) := by decide +kernel
theorem dX0_link_47 : decode cX0_link 47 = .ok (.iload_n 3, 1) := by decide +kernel
theorem dX0_link_48 : decode cX0_link 48 = .ok (.iastore, 1) := by decide +kernel
theorem dX0_link_49 : decode cX0_link 49 = .ok (.aload_n 0, 1) := by decide +kernel
theorem dX0_link_50 : decode cX0_link 50 = .ok (.getfield 30, 3) := by decide +kernel
theorem dX0_link_53 : decode cX0_link 53 = .ok (.iload_n 2, 1) := by decide +kernel
theorem dX0_link_54 : decode cX0_link 54 = .ok (.aaload, 1) := by decide +kernel
theorem dX0_link_55 : decode cX0_link 55 = .ok (.iload_n 1, 1) := by decide +kernel
theorem dX0_link_56 : decode cX0_link 56 = .ok (.iload_n 3, 1) := by decide +kernel
theorem dX0_link_57 : decode cX0_link 57 = .ok (.iastore, 1) := by decide +kernel
theorem dX0_link_58 : decode cX0_link 58 = .ok (.iload_n 3, 1) := by decide +kernel
theorem dX0_link_59 : decode cX0_link 59 = .ok (.ifCond .ne 15, 3) := by decide +kernel
theorem dX0_link_62 : decode cX0_link 62 = .ok (.aload_n 0, 1) := by decide +kernel
theorem dX0_link_63 : decode cX0_link 63 = .ok (.iload_n 1, 1) := by decide +kernel
theorem dX0_link_64 : decode cX0_link 64 = .ok (.iload_n 2, 1) := by decide +kernel
theorem dX0_link_65 : decode cX0_link 65 = .ok (.invokevirtual 81, 3) := by decide +kernel
theorem dX0_link_68 : decode cX0_link 68 = .ok (.aload_n 0, 1) := by decide +kernel
theorem dX0_link_69 : decode cX0_link 69 = .ok (.iload_n 2, 1) := by decide +kernel
theorem dX0_link_70 : decode cX0_link 70 = .ok (.iload_n 1, 1) := by decide +kernel
theorem dX0_link_71 : decode cX0_link 71 = .ok (.invokevirtual 81, 3) := by decide +kernel
theorem dX0_link_74 : decode cX0_link 74 = .ok (.aload_n 0, 1) := by decide +kernel
theorem dX0_link_75 : decode cX0_link 75 = .ok (.iload_n 1, 1) := by decide +kernel
theorem dX0_link_76 : decode cX0_link 76 = .ok (.invokevirtual 99, 3) := by decide +kernel
theorem dX0_link_79 : decode cX0_link 79 = .ok (.aload_n 0, 1) := by decide +kernel
theorem dX0_link_80 : decode cX0_link 80 = .ok (.iload_n 2, 1) := by decide +kernel
theorem dX0_link_81 : decode cX0_link 81 = .ok (.invokevirtual 99, 3) := by decide +kernel
theorem dX0_link_84 : decode cX0_link 84 = .ok (.iload 4, 2) := by decide +kernel
theorem dX0_link_86 : decode cX0_link 86 = .ok (.ireturn, 1) := by decide +kernel
set_option maxRecDepth 20000 in
theorem ggX0_makeRoot_X0_requireNode : GoodIn wsX0_makeRoot wsX0_requireNode := goodIn_ca (goodIn_r _ [11, 12, 13, 14, 15, 10, 16] (by decide +kernel) (by decide +kernel)) (goodIn_sub (fun _ h => List.mem_cons_of_mem _ (List.mem_append_right _ h)) (by decide +kernel))
set_option maxRecDepth 20000 in
theorem gX0_makeRoot_X0_requireNode : GoodIn wsX0_makeRoot (va_wsS RX0 89 yX0_requireNode wsX0_requireNode) := goodIn_app (goodIn_of _ (by decide +kernel)) ggX0_makeRoot_X0_requireNode
set_option maxRecDepth 20000 in
theorem ggX0_makeRoot_X0_beginVersion : GoodIn wsX0_makeRoot wsX0_beginVersion := goodIn_r _ [20, 21, 22, 23, 24, 25, 10, 26, 27, 28, 29, 30, 31, 32, 33, 34, 35, 36, 37, 38, 39, 40, 41, 42, 43, 44, 45, 46, 47, 48, 49, 50] (by decide +kernel) (by decide +kernel)
set_option maxRecDepth 20000 in
theorem gX0_makeRoot_X0_beginVersion : GoodIn wsX0_makeRoot (wsV RX0 107 RX0 yX0_beginVersion wsX0_beginVersion) := goodIn_app (goodIn_of _ (by decide +kernel)) ggX0_makeRoot_X0_beginVersion
theorem dX0_makeRoot_0 : decode cX0_makeRoot 0 = .ok (.iload_n 1, 1) := by decide +kernel
theorem dX0_makeRoot_1 : decode cX0_makeRoot 1 = .ok (.invokestatic 89, 3) := by decide +kernel
theorem dX0_makeRoot_4 : decode cX0_makeRoot 4 = .ok (.aload_n 0, 1) := by decide +kernel
theorem dX0_makeRoot_5 : decode cX0_makeRoot 5 = .ok (.getfield 42, 3) := by decide +kernel
theorem dX0_makeRoot_8 : decode cX0_makeRoot 8 = .ok (.iload_n 1, 1) := by decide +kernel
theorem dX0_makeRoot_9 : decode cX0_makeRoot 9 = .ok (.baload, 1) := by decide +kernel
theorem dX0_makeRoot_10 : decode cX0_makeRoot 10 = .ok (.ifCond .eq 13, 3) := by decide +kernel
theorem dX0_makeRoot_13 : decode cX0_makeRoot 13 = .ok (.new 102, 3) := by decide +kernel
theorem dX0_makeRoot_16 : decode cX0_makeRoot 16 = .ok (.dup, 1) := by decide +kernel
theorem dX0_makeRoot_17 : decode cX0_makeRoot 17 = .ok (.ldc 104, 2) := by decide +kernel
theorem dX0_makeRoot_19 : decode cX0_makeRoot 19 = .ok (.invokespecial 106, 3) := by decide +kernel
theorem dX0_makeRoot_22 : decode cX0_makeRoot 22 = .ok (.athrow, 1) := by decide +kernel
theorem dX0_makeRoot_23 : decode cX0_makeRoot 23 = .ok (.aload_n 0, 1) := by decide +kernel
theorem dX0_makeRoot_24 : decode cX0_makeRoot 24 = .ok (.getfield 42, 3) := by decide +kernel
theorem dX0_makeRoot_27 : decode cX0_makeRoot 27 = .ok (.iload_n 1, 1) := by decide +kernel
theorem dX0_makeRoot_28 : decode cX0_makeRoot 28 = .ok (.iconst 1, 1) := by decide +kernel
theorem dX0_makeRoot_29 : decode cX0_makeRoot 29 = .ok (.bastore, 1) := by decide +kernel
theorem dX0_makeRoot_30 : decode cX0_makeRoot 30 = .ok (.aload_n 0, 1) := by decide +kernel
theorem dX0_makeRoot_31 : decode cX0_makeRoot 31 = .ok (.getfield 50, 3) := by decide +kernel
theorem dX0_makeRoot_34 : decode cX0_makeRoot 34 = .ok (.iload_n 1, 1) := by decide +kernel
theorem dX0_makeRoot_35 : decode cX0_makeRoot 35 = .ok (.iload_n 1, 1) := by decide +kernel
theorem dX0_makeRoot_36 : decode cX0_makeRoot 36 = .ok (.iastore, 1) := by decide +kernel
theorem dX0_makeRoot_37 : decode cX0_makeRoot 37 = .ok (.aload_n 0, 1) := by decide +kernel
theorem dX0_makeRoot_38 : decode cX0_makeRoot 38 = .ok (.getfield 56, 3) := by decide +kernel
theorem dX0_makeRoot_41 : decode cX0_makeRoot 41 = .ok (.iload_n 1, 1) := by decide +kernel
theorem dX0_makeRoot_42 : decode cX0_makeRoot 42 = .ok (.iconst 0, 1) := by decide +kernel
theorem dX0_makeRoot_43 : decode cX0_makeRoot 43 = .ok (.iastore, 1) := by decide +kernel
theorem dX0_makeRoot_44 : decode cX0_makeRoot 44 = .ok (.aload_n 0, 1) := by decide +kernel
theorem dX0_makeRoot_45 : decode cX0_makeRoot 45 = .ok (.getfield 59, 3) := by decide +kernel
theorem dX0_makeRoot_48 : decode cX0_makeRoot 48 = .ok (.iload_n 1, 1) := by decide +kernel
theorem dX0_makeRoot_49 : decode cX0_makeRoot 49 = .ok (.iconst 0, 1) := by decide +kernel
theorem dX0_makeRoot_50 : decode cX0_makeRoot 50 = .ok (.iastore, 1) := by decide +kernel
theorem dX0_makeRoot_51 : decode cX0_makeRoot 51 = .ok (.aload_n 0, 1) := by decide +kernel
theorem dX0_makeRoot_52 : decode cX0_makeRoot 52 = .ok (.getfield 62, 3) := by decide +kernel
theorem dX0_makeRoot_55 : decode cX0_makeRoot 55 = .ok (.iload_n 1, 1) := by decide +kernel
theorem dX0_makeRoot_56 : decode cX0_makeRoot 56 = .ok (.iconst (-1), 1) := by decide +kernel
theorem dX0_makeRoot_57 : decode cX0_makeRoot 57 = .ok (.iastore, 1) := by decide +kernel
theorem dX0_makeRoot_58 : decode cX0_makeRoot 58 = .ok (.aload_n 0, 1) := by decide +kernel
theorem dX0_makeRoot_59 : decode cX0_makeRoot 59 = .ok (.iload_n 1, 1) := by decide +kernel
theorem dX0_makeRoot_60 : decode cX0_makeRoot 60 = .ok (.invokevirtual 107, 3) := by decide +kernel
theorem dX0_makeRoot_63 : decode cX0_makeRoot 63 = .ok (.ireturn, 1) := by decide +kernel
set_option maxRecDepth 20000 in
theorem ggX0_endRoot_X0_requireRoot : GoodIn wsX0_endRoot wsX0_requireRoot := goodIn_ca (goodIn_ca (goodIn_r _ [6, 7, 8, 1, 9, 10, 5, 11, 12, 13, 14, 15, 16, 84, 85, 86, 87, 88, 89, 90, 91, 92, 93, 94, 95, 96, 97, 98, 99, 100, 101, 102, 103] (by decide +kernel) (by decide +kernel)) (goodIn_sub (fun _ h => List.mem_cons_of_mem _ (List.mem_append_left _ (List.mem_append_right _ h))) (by decide +kernel))) (goodIn_sub (fun _ h => List.mem_cons_of_mem _ (List.mem_append_right _ h)) (by decide +kernel))
set_option maxRecDepth 20000 in
theorem gX0_endRoot_X0_requireRoot : GoodIn wsX0_endRoot (wsV RX0 111 RX0 yX0_requireRoot wsX0_requireRoot) := goodIn_app (goodIn_of _ (by decide +kernel)) ggX0_endRoot_X0_requireRoot
set_option maxRecDepth 20000 in
theorem ggX0_endRoot_X0_clearNode : GoodIn wsX0_endRoot wsX0_clearNode := goodIn_r _ [20, 21, 22, 23, 24, 25, 84, 85, 86, 87, 88, 89, 90, 91, 92, 93, 94, 95, 96, 97, 98, 99, 100, 101, 102, 103] (by decide +kernel) (by decide +kernel)
set_option maxRecDepth 20000 in
theorem gX0_endRoot_X0_clearNode : GoodIn wsX0_endRoot (wsV RX0 74 RX0 yX0_clearNode wsX0_clearNode) := goodIn_app (goodIn_of _ (by decide +kernel)) ggX0_endRoot_X0_clearNode
set_option maxRecDepth 20000 in
theorem ggX0_endRoot_X0_resetTimer : GoodIn wsX0_endRoot wsX0_resetTimer := goodIn_r _ [29, 30, 31, 32, 33, 84, 85, 86, 87, 88, 89, 90, 91, 92, 93, 94, 95, 96, 97, 98, 99, 100, 101, 102, 103] (by decide +kernel) (by decide +kernel)
set_option maxRecDepth 20000 in
theorem gX0_endRoot_X0_resetTimer : GoodIn wsX0_endRoot (wsV RX0 78 RX0 yX0_resetTimer wsX0_resetTimer) := goodIn_app (goodIn_of _ (by decide +kernel)) ggX0_endRoot_X0_resetTimer
set_option maxRecDepth 20000 in
theorem ggX0_endRoot_X0_choose : GoodIn wsX0_endRoot wsX0_choose := goodIn_r _ [37, 1, 25, 38, 39, 40, 5, 41, 42, 43, 44, 45, 46, 47, 48, 49, 50, 51, 52, 53, 54, 55, 56, 57, 21, 22, 58, 59, 60, 61, 23, 24, 62, 63, 64, 65, 66, 14, 15, 16, 67, 68, 69, 70, 26, 27, 28, 29, 30, 31, 32, 33, 71, 72, 73, 74, 75, 76, 77, 78, 79, 80, 81, 82, 83, 84, 85, 86, 87, 88, 89, 90, 91, 92, 93, 94, 95, 96, 97, 98, 99, 100, 101, 102, 103] (by decide +kernel) (by decide +kernel)
set_option maxRecDepth 20000 in
theorem gX0_endRoot_X0_choose : GoodIn wsX0_endRoot (wsV RX0 99 RX0 yX0_choose wsX0_choose) := goodIn_app (goodIn_of _ (by decide +kernel)) ggX0_endRoot_X0_choose
theorem dX0_endRoot_0 : decode cX0_endRoot 0 = .ok (.aload_n 0, 1) := by decide +kernel
theorem dX0_endRoot_1 : decode cX0_endRoot 1 = .ok (.iload_n 1, 1) := by decide +kernel
theorem dX0_endRoot_2 : decode cX0_endRoot 2 = .ok (.invokevirtual 111, 3) := by decide +kernel
theorem dX0_endRoot_5 : decode cX0_endRoot 5 = .ok (.aload_n 0, 1) := by decide +kernel
theorem dX0_endRoot_6 : decode cX0_endRoot 6 = .ok (.getfield 42, 3) := by decide +kernel
theorem dX0_endRoot_9 : decode cX0_endRoot 9 = .ok (.iload_n 1, 1) := by decide +kernel
theorem dX0_endRoot_10 : decode cX0_endRoot 10 = .ok (.iconst 0, 1) := by decide +kernel
theorem dX0_endRoot_11 : decode cX0_endRoot 11 = .ok (.bastore, 1) := by decide +kernel
theorem dX0_endRoot_12 : decode cX0_endRoot 12 = .ok (.aload_n 0, 1) := by decide +kernel
theorem dX0_endRoot_13 : decode cX0_endRoot 13 = .ok (.iload_n 1, 1) := by decide +kernel
theorem dX0_endRoot_14 : decode cX0_endRoot 14 = .ok (.invokevirtual 74, 3) := by decide +kernel
theorem dX0_endRoot_17 : decode cX0_endRoot 17 = .ok (.aload_n 0, 1) := by decide +kernel
theorem dX0_endRoot_18 : decode cX0_endRoot 18 = .ok (.iload_n 1, 1) := by decide +kernel
theorem dX0_endRoot_19 : decode cX0_endRoot 19 = .ok (.invokevirtual 78, 3) := by decide +kernel
theorem dX0_endRoot_22 : decode cX0_endRoot 22 = .ok (.aload_n 0, 1) := by decide +kernel
theorem dX0_endRoot_23 : decode cX0_endRoot 23 = .ok (.iload_n 1, 1) := by decide +kernel
theorem dX0_endRoot_24 : decode cX0_endRoot 24 = .ok (.invokevirtual 99, 3) := by decide +kernel
theorem dX0_endRoot_27 : decode cX0_endRoot 27 = .ok (.return_, 1) := by decide +kernel
set_option maxRecDepth 20000 in
theorem ggX0_renew_X0_requireRoot : GoodIn wsX0_renew wsX0_requireRoot := goodIn_ca (goodIn_ca (goodIn_r _ [5, 6, 7, 8, 9, 10, 4, 11, 12, 13, 14, 15, 16, 31, 32, 33, 34, 35, 36, 37, 38, 39, 40, 41, 42, 43, 44, 45, 46, 47, 48, 49, 50] (by decide +kernel) (by decide +kernel)) (goodIn_sub (fun _ h => List.mem_cons_of_mem _ (List.mem_append_left _ (List.mem_append_right _ h))) (by decide +kernel))) (goodIn_sub (fun _ h => List.mem_cons_of_mem _ (List.mem_append_right _ h)) (by decide +kernel))
set_option maxRecDepth 20000 in
theorem gX0_renew_X0_requireRoot : GoodIn wsX0_renew (wsV RX0 111 RX0 yX0_requireRoot wsX0_requireRoot) := goodIn_app (goodIn_of _ (by decide +kernel)) ggX0_renew_X0_requireRoot
set_option maxRecDepth 20000 in
theorem ggX0_renew_X0_beginVersion : GoodIn wsX0_renew wsX0_beginVersion := goodIn_r _ [20, 21, 22, 23, 24, 25, 4, 26, 27, 28, 29, 30, 31, 32, 33, 34, 35, 36, 37, 38, 39, 40, 41, 42, 43, 44, 45, 46, 47, 48, 49, 50] (by decide +kernel) (by decide +kernel)
set_option maxRecDepth 20000 in
theorem gX0_renew_X0_beginVersion : GoodIn wsX0_renew (wsV RX0 107 RX0 yX0_beginVersion wsX0_beginVersion) := goodIn_app (goodIn_of _ (by decide +kernel)) ggX0_renew_X0_beginVersion
theorem dX0_renew_0 : decode cX0_renew 0 = .ok (.aload_n 0, 1) := by decide +kernel
theorem dX0_renew_1 : decode cX0_renew 1 = .ok (.iload_n 1, 1) := by decide +kernel
theorem dX0_renew_2 : decode cX0_renew 2 = .ok (.invokevirtual 111, 3) := by decide +kernel
theorem dX0_renew_5 : decode cX0_renew 5 = .ok (.aload_n 0, 1) := by decide +kernel
theorem dX0_renew_6 : decode cX0_renew 6 = .ok (.iload_n 1, 1) := by decide +kernel
theorem dX0_renew_7 : decode cX0_renew 7 = .ok (.invokevirtual 107, 3) := by decide +kernel
theorem dX0_renew_10 : decode cX0_renew 10 = .ok (.ireturn, 1) := by decide +kernel
set_option maxRecDepth 20000 in
theorem ggX0_pass_X0_requireRange : GoodIn wsX0_pass wsX0_requireRange := goodIn_ca (goodIn_r _ [4, 5, 6] (by decide +kernel) (by decide +kernel)) (goodIn_sub (fun _ h => List.mem_cons_of_mem _ (List.mem_append_right _ h)) (by decide +kernel))
set_option maxRecDepth 20000 in
theorem gX0_pass_X0_requireRange : GoodIn wsX0_pass (va_wsS RX0 85 yX0_requireRange wsX0_requireRange) := goodIn_app (goodIn_of _ (by decide +kernel)) ggX0_pass_X0_requireRange
set_option maxRecDepth 20000 in
theorem ggX0_pass_X0_passTick : GoodIn wsX0_pass wsX0_passTick := goodIn_r _ [10, 11, 12, 13, 14, 15, 3, 16, 17, 18, 19, 20, 21, 22, 23, 24, 25, 26, 27, 28, 29, 30, 31, 32, 33, 34, 35, 36, 37, 38, 39, 40, 41, 42, 43, 44, 45, 46, 47, 48, 49, 50, 51, 52, 53, 54, 55, 56, 57, 58, 59, 60, 61, 62, 63, 64, 65, 66, 67, 68, 69, 70, 71, 72, 73, 74, 75, 76, 77, 78, 79, 80, 81, 82, 83, 84, 85, 86, 87, 88, 89, 90, 91, 92, 93, 94, 95, 96, 97, 98, 99, 100, 101, 102, 103, 104, 105, 106] (by decide +kernel) (by decide +kernel)
set_option maxRecDepth 20000 in
theorem gX0_pass_X0_passTick : GoodIn wsX0_pass (wsV RX0 114 RX0 yX0_passTick wsX0_passTick) := goodIn_app (goodIn_of _ (by decide +kernel)) ggX0_pass_X0_passTick
theorem dX0_pass_0 : decode cX0_pass 0 = .ok (.iload_n 1, 1) := by decide +kernel
theorem dX0_pass_1 : decode cX0_pass 1 = .ok (.iconst 1, 1) := by decide +kernel
theorem dX0_pass_2 : decode cX0_pass 2 = .ok (.bipush 100, 2) := by decide +kernel
theorem dX0_pass_4 : decode cX0_pass 4 = .ok (.invokestatic 85, 3) := by decide +kernel
theorem dX0_pass_7 : decode cX0_pass 7 = .ok (.iconst 0, 1) := by decide +kernel
theorem dX0_pass_8 : decode cX0_pass 8 = .ok (.istore_n 2, 1) := by decide +kernel
theorem dX0_pass_9 : decode cX0_pass 9 = .ok (.iconst 0, 1) := by decide +kernel
theorem dX0_pass_10 : decode cX0_pass 10 = .ok (.istore_n 3, 1) := by decide +kernel
theorem dX0_pass_11 : decode cX0_pass 11 = .ok (.iload_n 3, 1) := by decide +kernel
theorem dX0_pass_12 : decode cX0_pass 12 = .ok (.iload_n 1, 1) := by decide +kernel
theorem dX0_pass_13 : decode cX0_pass 13 = .ok (.if_icmp .ge 16, 3) := by decide +kernel
theorem dX0_pass_16 : decode cX0_pass 16 = .ok (.iload_n 2, 1) := by decide +kernel
theorem dX0_pass_17 : decode cX0_pass 17 = .ok (.aload_n 0, 1) := by decide +kernel
theorem dX0_pass_18 : decode cX0_pass 18 = .ok (.invokevirtual 114, 3) := by decide +kernel
theorem dX0_pass_21 : decode cX0_pass 21 = .ok (.iadd, 1) := by decide +kernel
theorem dX0_pass_22 : decode cX0_pass 22 = .ok (.istore_n 2, 1) := by decide +kernel
theorem dX0_pass_23 : decode cX0_pass 23 = .ok (.iinc 3 1, 3) := by decide +kernel
theorem dX0_pass_26 : decode cX0_pass 26 = .ok (.goto (-15), 3) := by decide +kernel
theorem dX0_pass_29 : decode cX0_pass 29 = .ok (.iload_n 2, 1) := by decide +kernel
theorem dX0_pass_30 : decode cX0_pass 30 = .ok (.ireturn, 1) := by decide +kernel
theorem dX0_time_0 : decode cX0_time 0 = .ok (.aload_n 0, 1) := by decide +kernel
theorem dX0_time_1 : decode cX0_time 1 = .ok (.getfield 22, 3) := by decide +kernel
theorem dX0_time_4 : decode cX0_time 4 = .ok (.ireturn, 1) := by decide +kernel
set_option maxRecDepth 20000 in
theorem ggX0_rank_X0_requireNode : GoodIn wsX0_rank wsX0_requireNode := goodIn_ca (goodIn_r _ [5, 6, 7, 8, 9, 4, 10] (by decide +kernel) (by decide +kernel)) (goodIn_sub (fun _ h => List.mem_cons_of_mem _ (List.mem_append_right _ h)) (by decide +kernel))
set_option maxRecDepth 20000 in
theorem gX0_rank_X0_requireNode : GoodIn wsX0_rank (va_wsS RX0 89 yX0_requireNode wsX0_requireNode) := goodIn_app (goodIn_of _ (by decide +kernel)) ggX0_rank_X0_requireNode
theorem dX0_rank_0 : decode cX0_rank 0 = .ok (.iload_n 1, 1) := by decide +kernel
theorem dX0_rank_1 : decode cX0_rank 1 = .ok (.invokestatic 89, 3) := by decide +kernel
theorem dX0_rank_4 : decode cX0_rank 4 = .ok (.aload_n 0, 1) := by decide +kernel
theorem dX0_rank_5 : decode cX0_rank 5 = .ok (.getfield 56, 3) := by decide +kernel
theorem dX0_rank_8 : decode cX0_rank 8 = .ok (.iload_n 1, 1) := by decide +kernel
theorem dX0_rank_9 : decode cX0_rank 9 = .ok (.iaload, 1) := by decide +kernel
theorem dX0_rank_10 : decode cX0_rank 10 = .ok (.ireturn, 1) := by decide +kernel
set_option maxRecDepth 20000 in
theorem ggX0_parent_X0_requireNode : GoodIn wsX0_parent wsX0_requireNode := goodIn_ca (goodIn_r _ [5, 6, 7, 8, 9, 4, 10] (by decide +kernel) (by decide +kernel)) (goodIn_sub (fun _ h => List.mem_cons_of_mem _ (List.mem_append_right _ h)) (by decide +kernel))
set_option maxRecDepth 20000 in
theorem gX0_parent_X0_requireNode : GoodIn wsX0_parent (va_wsS RX0 89 yX0_requireNode wsX0_requireNode) := goodIn_app (goodIn_of _ (by decide +kernel)) ggX0_parent_X0_requireNode
theorem dX0_parent_0 : decode cX0_parent 0 = .ok (.iload_n 1, 1) := by decide +kernel
theorem dX0_parent_1 : decode cX0_parent 1 = .ok (.invokestatic 89, 3) := by decide +kernel
theorem dX0_parent_4 : decode cX0_parent 4 = .ok (.aload_n 0, 1) := by decide +kernel
theorem dX0_parent_5 : decode cX0_parent 5 = .ok (.getfield 62, 3) := by decide +kernel
theorem dX0_parent_8 : decode cX0_parent 8 = .ok (.iload_n 1, 1) := by decide +kernel
theorem dX0_parent_9 : decode cX0_parent 9 = .ok (.iaload, 1) := by decide +kernel
theorem dX0_parent_10 : decode cX0_parent 10 = .ok (.ireturn, 1) := by decide +kernel
set_option maxRecDepth 20000 in
theorem ggX0_tree_X0_requireNode : GoodIn wsX0_tree wsX0_requireNode := goodIn_ca (goodIn_r _ [6, 7, 8, 9, 10, 5, 11] (by decide +kernel) (by decide +kernel)) (goodIn_sub (fun _ h => List.mem_cons_of_mem _ (List.mem_append_right _ h)) (by decide +kernel))
set_option maxRecDepth 20000 in
theorem gX0_tree_X0_requireNode : GoodIn wsX0_tree (va_wsS RX0 89 yX0_requireNode wsX0_requireNode) := goodIn_app (goodIn_of _ (by decide +kernel)) ggX0_tree_X0_requireNode
theorem dX0_tree_0 : decode cX0_tree 0 = .ok (.iload_n 1, 1) := by decide +kernel
theorem dX0_tree_1 : decode cX0_tree 1 = .ok (.invokestatic 89, 3) := by decide +kernel
theorem dX0_tree_4 : decode cX0_tree 4 = .ok (.aload_n 0, 1) := by decide +kernel
theorem dX0_tree_5 : decode cX0_tree 5 = .ok (.getfield 50, 3) := by decide +kernel
theorem dX0_tree_8 : decode cX0_tree 8 = .ok (.iload_n 1, 1) := by decide +kernel
theorem dX0_tree_9 : decode cX0_tree 9 = .ok (.iaload, 1) := by decide +kernel
theorem dX0_tree_10 : decode cX0_tree 10 = .ok (.iconst (-1), 1) := by decide +kernel
theorem dX0_tree_11 : decode cX0_tree 11 = .ok (.if_icmp .ne 7, 3) := by decide +kernel
theorem dX0_tree_14 : decode cX0_tree 14 = .ok (.iconst (-1), 1) := by decide +kernel
theorem dX0_tree_15 : decode cX0_tree 15 = .ok (.goto 19, 3) := by decide +kernel
theorem dX0_tree_18 : decode cX0_tree 18 = .ok (.bipush 10, 2) := by decide +kernel
theorem dX0_tree_20 : decode cX0_tree 20 = .ok (.aload_n 0, 1) := by decide +kernel
theorem dX0_tree_21 : decode cX0_tree 21 = .ok (.getfield 53, 3) := by decide +kernel
theorem dX0_tree_24 : decode cX0_tree 24 = .ok (.iload_n 1, 1) := by decide +kernel
theorem dX0_tree_25 : decode cX0_tree 25 = .ok (.iaload, 1) := by decide +kernel
theorem dX0_tree_26 : decode cX0_tree 26 = .ok (.imul, 1) := by decide +kernel
theorem dX0_tree_27 : decode cX0_tree 27 = .ok (.aload_n 0, 1) := by decide +kernel
theorem dX0_tree_28 : decode cX0_tree 28 = .ok (.getfield 50, 3) := by decide +kernel
theorem dX0_tree_31 : decode cX0_tree 31 = .ok (.iload_n 1, 1) := by decide +kernel
theorem dX0_tree_32 : decode cX0_tree 32 = .ok (.iaload, 1) := by decide +kernel
theorem dX0_tree_33 : decode cX0_tree 33 = .ok (.iadd, 1) := by decide +kernel
theorem dX0_tree_34 : decode cX0_tree 34 = .ok (.ireturn, 1) := by decide +kernel
set_option maxRecDepth 20000 in
theorem ggX0_nextTelling_X0_requireNode : GoodIn wsX0_nextTelling wsX0_requireNode := goodIn_ca (goodIn_r _ [5, 6, 7, 8, 9, 4, 10] (by decide +kernel) (by decide +kernel)) (goodIn_sub (fun _ h => List.mem_cons_of_mem _ (List.mem_append_right _ h)) (by decide +kernel))
set_option maxRecDepth 20000 in
theorem gX0_nextTelling_X0_requireNode : GoodIn wsX0_nextTelling (va_wsS RX0 89 yX0_requireNode wsX0_requireNode) := goodIn_app (goodIn_of _ (by decide +kernel)) ggX0_nextTelling_X0_requireNode
theorem dX0_nextTelling_0 : decode cX0_nextTelling 0 = .ok (.iload_n 1, 1) := by decide +kernel
theorem dX0_nextTelling_1 : decode cX0_nextTelling 1 = .ok (.invokestatic 89, 3) := by decide +kernel
theorem dX0_nextTelling_4 : decode cX0_nextTelling 4 = .ok (.aload_n 0, 1) := by decide +kernel
theorem dX0_nextTelling_5 : decode cX0_nextTelling 5 = .ok (.getfield 68, 3) := by decide +kernel
theorem dX0_nextTelling_8 : decode cX0_nextTelling 8 = .ok (.iload_n 1, 1) := by decide +kernel
theorem dX0_nextTelling_9 : decode cX0_nextTelling 9 = .ok (.iaload, 1) := by decide +kernel
theorem dX0_nextTelling_10 : decode cX0_nextTelling 10 = .ok (.ireturn, 1) := by decide +kernel
set_option maxRecDepth 20000 in
theorem ggX0_heard_X0_requireNode : GoodIn wsX0_heard wsX0_requireNode := goodIn_ca (goodIn_r _ [5, 6, 7, 8, 9, 4, 10] (by decide +kernel) (by decide +kernel)) (goodIn_sub (fun _ h => List.mem_cons_of_mem _ (List.mem_append_right _ h)) (by decide +kernel))
set_option maxRecDepth 20000 in
theorem gX0_heard_X0_requireNode : GoodIn wsX0_heard (va_wsS RX0 89 yX0_requireNode wsX0_requireNode) := goodIn_app (goodIn_of _ (by decide +kernel)) ggX0_heard_X0_requireNode
theorem dX0_heard_0 : decode cX0_heard 0 = .ok (.iload_n 1, 1) := by decide +kernel
theorem dX0_heard_1 : decode cX0_heard 1 = .ok (.invokestatic 89, 3) := by decide +kernel
theorem dX0_heard_4 : decode cX0_heard 4 = .ok (.iload_n 2, 1) := by decide +kernel
theorem dX0_heard_5 : decode cX0_heard 5 = .ok (.invokestatic 89, 3) := by decide +kernel
theorem dX0_heard_8 : decode cX0_heard 8 = .ok (.aload_n 0, 1) := by decide +kernel
theorem dX0_heard_9 : decode cX0_heard 9 = .ok (.getfield 39, 3) := by decide +kernel
theorem dX0_heard_12 : decode cX0_heard 12 = .ok (.iload_n 1, 1) := by decide +kernel
theorem dX0_heard_13 : decode cX0_heard 13 = .ok (.aaload, 1) := by decide +kernel
theorem dX0_heard_14 : decode cX0_heard 14 = .ok (.iload_n 2, 1) := by decide +kernel
theorem dX0_heard_15 : decode cX0_heard 15 = .ok (.iaload, 1) := by decide +kernel
theorem dX0_heard_16 : decode cX0_heard 16 = .ok (.ireturn, 1) := by decide +kernel
set_option maxRecDepth 20000 in
theorem ggX0_leastRank_X0_requireNode : GoodIn wsX0_leastRank wsX0_requireNode := goodIn_ca (goodIn_r _ [6, 7, 8, 9, 10, 5, 11] (by decide +kernel) (by decide +kernel)) (goodIn_sub (fun _ h => List.mem_cons_of_mem _ (List.mem_append_right _ h)) (by decide +kernel))
set_option maxRecDepth 20000 in
theorem gX0_leastRank_X0_requireNode : GoodIn wsX0_leastRank (va_wsS RX0 89 yX0_requireNode wsX0_requireNode) := goodIn_app (goodIn_of _ (by decide +kernel)) ggX0_leastRank_X0_requireNode
set_option maxRecDepth 20000 in
theorem ggX0_leastRank_X0_lowerWayCosts : GoodIn wsX0_leastRank wsX0_lowerWayCosts := goodIn_r _ [15, 16, 1, 17, 18, 19, 20, 21, 22, 23, 24, 25, 26, 27, 28, 29, 30, 31, 32, 33, 34, 35, 36, 37, 38, 39, 40] (by decide +kernel) (by decide +kernel)
set_option maxRecDepth 20000 in
theorem gX0_leastRank_X0_lowerWayCosts : GoodIn wsX0_leastRank (wsV RX0 118 RX0 yX0_lowerWayCosts wsX0_lowerWayCosts) := goodIn_app (goodIn_of _ (by decide +kernel)) ggX0_leastRank_X0_lowerWayCosts
theorem dX0_leastRank_0 : decode cX0_leastRank 0 = .ok (.iload_n 1, 1) := by decide +kernel
theorem dX0_leastRank_1 : decode cX0_leastRank 1 = .ok (.invokestatic 89, 3) := by decide +kernel
theorem dX0_leastRank_4 : decode cX0_leastRank 4 = .ok (.iconst 0, 1) := by decide +kernel
theorem dX0_leastRank_5 : decode cX0_leastRank 5 = .ok (.istore_n 2, 1) := by decide +kernel
theorem dX0_leastRank_6 : decode cX0_leastRank 6 = .ok (.iload_n 2, 1) := by decide +kernel
theorem dX0_leastRank_7 : decode cX0_leastRank 7 = .ok (.bipush 10, 2) := by decide +kernel
theorem dX0_leastRank_9 : decode cX0_leastRank 9 = .ok (.if_icmp .ge 31, 3) := by decide +kernel
theorem dX0_leastRank_12 : decode cX0_leastRank 12 = .ok (.aload_n 0, 1) := by decide +kernel
theorem dX0_leastRank_13 : decode cX0_leastRank 13 = .ok (.getfield 71, 3) := by decide +kernel
theorem dX0_leastRank_16 : decode cX0_leastRank 16 = .ok (.iload_n 2, 1) := by decide +kernel
theorem dX0_leastRank_17 : decode cX0_leastRank 17 = .ok (.aload_n 0, 1) := by decide +kernel
theorem dX0_leastRank_18 : decode cX0_leastRank 18 = .ok (.getfield 42, 3) := by decide +kernel
theorem dX0_leastRank_21 : decode cX0_leastRank 21 = .ok (.iload_n 2, 1) := by decide +kernel
theorem dX0_leastRank_22 : decode cX0_leastRank 22 = .ok (.baload, 1) := by decide +kernel
theorem dX0_leastRank_23 : decode cX0_leastRank 23 = .ok (.ifCond .eq 7, 3) := by decide +kernel
theorem dX0_leastRank_26 : decode cX0_leastRank 26 = .ok (.iconst 0, 1) := by decide +kernel
theorem dX0_leastRank_27 : decode cX0_leastRank 27 = .ok (.goto 6, 3) := by decide +kernel
theorem dX0_leastRank_30 : decode cX0_leastRank 30 = .ok (.sipush 10000, 3) := by decide +kernel
theorem dX0_leastRank_33 : decode cX0_leastRank 33 = .ok (.iastore, 1) := by decide +kernel
theorem dX0_leastRank_34 : decode cX0_leastRank 34 = .ok (.iinc 2 1, 3) := by decide +kernel
theorem dX0_leastRank_37 : decode cX0_leastRank 37 = .ok (.goto (-31), 3) := by decide +kernel
theorem dX0_leastRank_40 : decode cX0_leastRank 40 = .ok (.iconst 1, 1) := by decide +kernel
theorem dX0_leastRank_41 : decode cX0_leastRank 41 = .ok (.istore_n 2, 1) := by decide +kernel
theorem dX0_leastRank_42 : decode cX0_leastRank 42 = .ok (.iload_n 2, 1) := by decide +kernel
theorem dX0_leastRank_43 : decode cX0_leastRank 43 = .ok (.bipush 10, 2) := by decide +kernel
theorem dX0_leastRank_45 : decode cX0_leastRank 45 = .ok (.if_icmp .ge 13, 3) := by decide +kernel
theorem dX0_leastRank_48 : decode cX0_leastRank 48 = .ok (.aload_n 0, 1) := by decide +kernel
theorem dX0_leastRank_49 : decode cX0_leastRank 49 = .ok (.invokevirtual 118, 3) := by decide +kernel
theorem dX0_leastRank_52 : decode cX0_leastRank 52 = .ok (.iinc 2 1, 3) := by decide +kernel
theorem dX0_leastRank_55 : decode cX0_leastRank 55 = .ok (.goto (-13), 3) := by decide +kernel
theorem dX0_leastRank_58 : decode cX0_leastRank 58 = .ok (.aload_n 0, 1) := by decide +kernel
theorem dX0_leastRank_59 : decode cX0_leastRank 59 = .ok (.getfield 71, 3) := by decide +kernel
theorem dX0_leastRank_62 : decode cX0_leastRank 62 = .ok (.iload_n 1, 1) := by decide +kernel
theorem dX0_leastRank_63 : decode cX0_leastRank 63 = .ok (.iaload, 1) := by decide +kernel
theorem dX0_leastRank_64 : decode cX0_leastRank 64 = .ok (.ireturn, 1) := by decide +kernel
set_option maxRecDepth 20000 in
theorem ggX0_up_X0_requireNode : GoodIn wsX0_up wsX0_requireNode := goodIn_ca (goodIn_r _ [8, 9, 10, 11, 12, 7, 13] (by decide +kernel) (by decide +kernel)) (goodIn_sub (fun _ h => List.mem_cons_of_mem _ (List.mem_append_right _ h)) (by decide +kernel))
set_option maxRecDepth 20000 in
theorem gX0_up_X0_requireNode : GoodIn wsX0_up (va_wsS RX0 89 yX0_requireNode wsX0_requireNode) := goodIn_app (goodIn_of _ (by decide +kernel)) ggX0_up_X0_requireNode
set_option maxRecDepth 20000 in
theorem ggX0_up_X0_isNode : GoodIn wsX0_up wsX0_isNode := goodIn_r _ [13] (by decide +kernel) (by decide +kernel)
set_option maxRecDepth 20000 in
theorem gX0_up_X0_isNode : GoodIn wsX0_up (va_wsS RX0 121 yX0_isNode wsX0_isNode) := goodIn_app (goodIn_of _ (by decide +kernel)) ggX0_up_X0_isNode
theorem dX0_up_0 : decode cX0_up 0 = .ok (.iload_n 1, 1) := by decide +kernel
theorem dX0_up_1 : decode cX0_up 1 = .ok (.invokestatic 89, 3) := by decide +kernel
theorem dX0_up_4 : decode cX0_up 4 = .ok (.iload_n 1, 1) := by decide +kernel
theorem dX0_up_5 : decode cX0_up 5 = .ok (.istore_n 2, 1) := by decide +kernel
theorem dX0_up_6 : decode cX0_up 6 = .ok (.iconst 0, 1) := by decide +kernel
theorem dX0_up_7 : decode cX0_up 7 = .ok (.istore_n 3, 1) := by decide +kernel
theorem dX0_up_8 : decode cX0_up 8 = .ok (.iconst 0, 1) := by decide +kernel
theorem dX0_up_9 : decode cX0_up 9 = .ok (.istore 4, 2) := by decide +kernel
theorem dX0_up_11 : decode cX0_up 11 = .ok (.iload 4, 2) := by decide +kernel
theorem dX0_up_13 : decode cX0_up 13 = .ok (.bipush 20, 2) := by decide +kernel
theorem dX0_up_15 : decode cX0_up 15 = .ok (.if_icmp .gt 92, 3) := by decide +kernel
theorem dX0_up_18 : decode cX0_up 18 = .ok (.aload_n 0, 1) := by decide +kernel
theorem dX0_up_19 : decode cX0_up 19 = .ok (.getfield 42, 3) := by decide +kernel
theorem dX0_up_22 : decode cX0_up 22 = .ok (.iload_n 2, 1) := by decide +kernel
theorem dX0_up_23 : decode cX0_up 23 = .ok (.baload, 1) := by decide +kernel
theorem dX0_up_24 : decode cX0_up 24 = .ok (.ifCond .eq 6, 3) := by decide +kernel
theorem dX0_up_27 : decode cX0_up 27 = .ok (.iload 4, 2) := by decide +kernel
theorem dX0_up_29 : decode cX0_up 29 = .ok (.ireturn, 1) := by decide +kernel
theorem dX0_up_30 : decode cX0_up 30 = .ok (.aload_n 0, 1) := by decide +kernel
theorem dX0_up_31 : decode cX0_up 31 = .ok (.getfield 62, 3) := by decide +kernel
theorem dX0_up_34 : decode cX0_up 34 = .ok (.iload_n 2, 1) := by decide +kernel
theorem dX0_up_35 : decode cX0_up 35 = .ok (.iaload, 1) := by decide +kernel
theorem dX0_up_36 : decode cX0_up 36 = .ok (.istore 5, 2) := by decide +kernel
theorem dX0_up_38 : decode cX0_up 38 = .ok (.iload 5, 2) := by decide +kernel
theorem dX0_up_40 : decode cX0_up 40 = .ok (.invokestatic 121, 3) := by decide +kernel
theorem dX0_up_43 : decode cX0_up 43 = .ok (.ifCond .ne 5, 3) := by decide +kernel
theorem dX0_up_46 : decode cX0_up 46 = .ok (.iconst (-1), 1) := by decide +kernel
theorem dX0_up_47 : decode cX0_up 47 = .ok (.ireturn, 1) := by decide +kernel
theorem dX0_up_48 : decode cX0_up 48 = .ok (.aload_n 0, 1) := by decide +kernel
end
section
theorem dX0_up_49 : decode cX0_up 49 = .ok (.getfield 56, 3) := by decide +kernel
theorem dX0_up_52 : decode cX0_up 52 = .ok (.iload 5, 2) := by decide +kernel
theorem dX0_up_54 : decode cX0_up 54 = .ok (.iaload, 1) := by decide +kernel
theorem dX0_up_55 : decode cX0_up 55 = .ok (.aload_n 0, 1) := by decide +kernel
theorem dX0_up_56 : decode cX0_up 56 = .ok (.getfield 56, 3) := by decide +kernel
theorem dX0_up_59 : decode cX0_up 59 = .ok (.iload_n 2, 1) := by decide +kernel
theorem dX0_up_60 : decode cX0_up 60 = .ok (.iaload, 1) := by decide +kernel
theorem dX0_up_61 : decode cX0_up 61 = .ok (.if_icmp .lt 7, 3) := by decide +kernel
theorem dX0_up_64 : decode cX0_up 64 = .ok (.iconst 1, 1) := by decide +kernel
theorem dX0_up_65 : decode cX0_up 65 = .ok (.goto 4, 3) := by decide +kernel
theorem dX0_up_68 : decode cX0_up 68 = .ok (.iconst 0, 1) := by decide +kernel
theorem dX0_up_69 : decode cX0_up 69 = .ok (.istore 6, 2) := by decide +kernel
theorem dX0_up_71 : decode cX0_up 71 = .ok (.iload 6, 2) := by decide +kernel
theorem dX0_up_73 : decode cX0_up 73 = .ok (.ifCond .eq 10, 3) := by decide +kernel
theorem dX0_up_76 : decode cX0_up 76 = .ok (.iload_n 3, 1) := by decide +kernel
theorem dX0_up_77 : decode cX0_up 77 = .ok (.ifCond .eq 6, 3) := by decide +kernel
theorem dX0_up_80 : decode cX0_up 80 = .ok (.goto 27, 3) := by decide +kernel
theorem dX0_up_83 : decode cX0_up 83 = .ok (.iload_n 3, 1) := by decide +kernel
theorem dX0_up_84 : decode cX0_up 84 = .ok (.ifCond .ne 8, 3) := by decide +kernel
theorem dX0_up_87 : decode cX0_up 87 = .ok (.iload 6, 2) := by decide +kernel
theorem dX0_up_89 : decode cX0_up 89 = .ok (.ifCond .eq 7, 3) := by decide +kernel
theorem dX0_up_92 : decode cX0_up 92 = .ok (.iconst 1, 1) := by decide +kernel
theorem dX0_up_93 : decode cX0_up 93 = .ok (.goto 4, 3) := by decide +kernel
theorem dX0_up_96 : decode cX0_up 96 = .ok (.iconst 0, 1) := by decide +kernel
theorem dX0_up_97 : decode cX0_up 97 = .ok (.istore_n 3, 1) := by decide +kernel
theorem dX0_up_98 : decode cX0_up 98 = .ok (.iload 5, 2) := by decide +kernel
theorem dX0_up_100 : decode cX0_up 100 = .ok (.istore_n 2, 1) := by decide +kernel
theorem dX0_up_101 : decode cX0_up 101 = .ok (.iinc 4 1, 3) := by decide +kernel
theorem dX0_up_104 : decode cX0_up 104 = .ok (.goto (-93), 3) := by decide +kernel
theorem dX0_up_107 : decode cX0_up 107 = .ok (.aload_n 0, 1) := by decide +kernel
theorem dX0_up_108 : decode cX0_up 108 = .ok (.dup, 1) := by decide +kernel
theorem dX0_up_109 : decode cX0_up 109 = .ok (.getfield 25, 3) := by decide +kernel
theorem dX0_up_112 : decode cX0_up 112 = .ok (.iconst 1, 1) := by decide +kernel
theorem dX0_up_113 : decode cX0_up 113 = .ok (.iadd, 1) := by decide +kernel
theorem dX0_up_114 : decode cX0_up 114 = .ok (.putfield 25, 3) := by decide +kernel
theorem dX0_up_117 : decode cX0_up 117 = .ok (.bipush (-2), 2) := by decide +kernel
theorem dX0_up_119 : decode cX0_up 119 = .ok (.ireturn, 1) := by decide +kernel
theorem dX0_loops_0 : decode cX0_loops 0 = .ok (.aload_n 0, 1) := by decide +kernel
theorem dX0_loops_1 : decode cX0_loops 1 = .ok (.getfield 25, 3) := by decide +kernel
theorem dX0_loops_4 : decode cX0_loops 4 = .ok (.ireturn, 1) := by decide +kernel
set_option maxRecDepth 20000 in
theorem ggX0_below_X0_requireNode : GoodIn wsX0_below wsX0_requireNode := goodIn_ca (goodIn_r _ [4, 5, 6, 7, 8, 3, 9] (by decide +kernel) (by decide +kernel)) (goodIn_sub (fun _ h => List.mem_cons_of_mem _ (List.mem_append_right _ h)) (by decide +kernel))
set_option maxRecDepth 20000 in
theorem gX0_below_X0_requireNode : GoodIn wsX0_below (va_wsS RX0 89 yX0_requireNode wsX0_requireNode) := goodIn_app (goodIn_of _ (by decide +kernel)) ggX0_below_X0_requireNode
set_option maxRecDepth 20000 in
theorem ggX0_below_X0_childrenOf : GoodIn wsX0_below wsX0_childrenOf := goodIn_r _ [13, 14, 7, 8, 3, 9, 15, 16, 17, 18, 19, 20, 21, 22, 23, 24, 25, 26, 27, 28, 29, 30, 31, 32, 33, 34] (by decide +kernel) (by decide +kernel)
set_option maxRecDepth 20000 in
theorem gX0_below_X0_childrenOf : GoodIn wsX0_below (wsV RX0 125 RX0 yX0_childrenOf wsX0_childrenOf) := goodIn_app (goodIn_of _ (by decide +kernel)) ggX0_below_X0_childrenOf
theorem dX0_below_0 : decode cX0_below 0 = .ok (.iload_n 1, 1) := by decide +kernel
theorem dX0_below_1 : decode cX0_below 1 = .ok (.invokestatic 89, 3) := by decide +kernel
theorem dX0_below_4 : decode cX0_below 4 = .ok (.iconst 1, 1) := by decide +kernel
theorem dX0_below_5 : decode cX0_below 5 = .ok (.iload_n 1, 1) := by decide +kernel
theorem dX0_below_6 : decode cX0_below 6 = .ok (.ishl, 1) := by decide +kernel
theorem dX0_below_7 : decode cX0_below 7 = .ok (.istore_n 2, 1) := by decide +kernel
theorem dX0_below_8 : decode cX0_below 8 = .ok (.iconst 1, 1) := by decide +kernel
theorem dX0_below_9 : decode cX0_below 9 = .ok (.istore_n 3, 1) := by decide +kernel
theorem dX0_below_10 : decode cX0_below 10 = .ok (.iload_n 3, 1) := by decide +kernel
theorem dX0_below_11 : decode cX0_below 11 = .ok (.bipush 10, 2) := by decide +kernel
theorem dX0_below_13 : decode cX0_below 13 = .ok (.if_icmp .ge 17, 3) := by decide +kernel
theorem dX0_below_16 : decode cX0_below 16 = .ok (.iload_n 2, 1) := by decide +kernel
theorem dX0_below_17 : decode cX0_below 17 = .ok (.aload_n 0, 1) := by decide +kernel
theorem dX0_below_18 : decode cX0_below 18 = .ok (.iload_n 2, 1) := by decide +kernel
theorem dX0_below_19 : decode cX0_below 19 = .ok (.invokevirtual 125, 3) := by decide +kernel
theorem dX0_below_22 : decode cX0_below 22 = .ok (.ior, 1) := by decide +kernel
theorem dX0_below_23 : decode cX0_below 23 = .ok (.istore_n 2, 1) := by decide +kernel
theorem dX0_below_24 : decode cX0_below 24 = .ok (.iinc 3 1, 3) := by decide +kernel
theorem dX0_below_27 : decode cX0_below 27 = .ok (.goto (-17), 3) := by decide +kernel
theorem dX0_below_30 : decode cX0_below 30 = .ok (.iload_n 2, 1) := by decide +kernel
theorem dX0_below_31 : decode cX0_below 31 = .ok (.ireturn, 1) := by decide +kernel
set_option maxRecDepth 20000 in
theorem ggX0_down_X0_requireNode : GoodIn wsX0_down wsX0_requireNode := goodIn_ca (goodIn_r _ [7, 8, 9, 10, 11, 6, 12] (by decide +kernel) (by decide +kernel)) (goodIn_sub (fun _ h => List.mem_cons_of_mem _ (List.mem_append_right _ h)) (by decide +kernel))
set_option maxRecDepth 20000 in
theorem gX0_down_X0_requireNode : GoodIn wsX0_down (va_wsS RX0 89 yX0_requireNode wsX0_requireNode) := goodIn_app (goodIn_of _ (by decide +kernel)) ggX0_down_X0_requireNode
set_option maxRecDepth 20000 in
theorem ggX0_down_X0_isNode : GoodIn wsX0_down wsX0_isNode := goodIn_r _ [12] (by decide +kernel) (by decide +kernel)
set_option maxRecDepth 20000 in
theorem gX0_down_X0_isNode : GoodIn wsX0_down (va_wsS RX0 121 yX0_isNode wsX0_isNode) := goodIn_app (goodIn_of _ (by decide +kernel)) ggX0_down_X0_isNode
theorem dX0_down_0 : decode cX0_down 0 = .ok (.iload_n 1, 1) := by decide +kernel
theorem dX0_down_1 : decode cX0_down 1 = .ok (.invokestatic 89, 3) := by decide +kernel
theorem dX0_down_4 : decode cX0_down 4 = .ok (.iload_n 2, 1) := by decide +kernel
theorem dX0_down_5 : decode cX0_down 5 = .ok (.invokestatic 89, 3) := by decide +kernel
theorem dX0_down_8 : decode cX0_down 8 = .ok (.iload_n 1, 1) := by decide +kernel
theorem dX0_down_9 : decode cX0_down 9 = .ok (.iload_n 2, 1) := by decide +kernel
theorem dX0_down_10 : decode cX0_down 10 = .ok (.if_icmp .ne 13, 3) := by decide +kernel
theorem dX0_down_13 : decode cX0_down 13 = .ok (.new 102, 3) := by decide +kernel
theorem dX0_down_16 : decode cX0_down 16 = .ok (.dup, 1) := by decide +kernel
theorem dX0_down_17 : decode cX0_down 17 = .ok (.ldc 128, 2) := by decide +kernel
theorem dX0_down_19 : decode cX0_down 19 = .ok (.invokespecial 106, 3) := by decide +kernel
theorem dX0_down_22 : decode cX0_down 22 = .ok (.athrow, 1) := by decide +kernel
theorem dX0_down_23 : decode cX0_down 23 = .ok (.iload_n 2, 1) := by decide +kernel
theorem dX0_down_24 : decode cX0_down 24 = .ok (.istore_n 3, 1) := by decide +kernel
theorem dX0_down_25 : decode cX0_down 25 = .ok (.iconst 0, 1) := by decide +kernel
theorem dX0_down_26 : decode cX0_down 26 = .ok (.istore 4, 2) := by decide +kernel
theorem dX0_down_28 : decode cX0_down 28 = .ok (.iload 4, 2) := by decide +kernel
theorem dX0_down_30 : decode cX0_down 30 = .ok (.bipush 10, 2) := by decide +kernel
theorem dX0_down_32 : decode cX0_down 32 = .ok (.if_icmp .ge 35, 3) := by decide +kernel
theorem dX0_down_35 : decode cX0_down 35 = .ok (.iload_n 3, 1) := by decide +kernel
theorem dX0_down_36 : decode cX0_down 36 = .ok (.invokestatic 121, 3) := by decide +kernel
theorem dX0_down_39 : decode cX0_down 39 = .ok (.ifCond .eq 28, 3) := by decide +kernel
theorem dX0_down_42 : decode cX0_down 42 = .ok (.aload_n 0, 1) := by decide +kernel
theorem dX0_down_43 : decode cX0_down 43 = .ok (.getfield 62, 3) := by decide +kernel
theorem dX0_down_46 : decode cX0_down 46 = .ok (.iload_n 3, 1) := by decide +kernel
theorem dX0_down_47 : decode cX0_down 47 = .ok (.iaload, 1) := by decide +kernel
theorem dX0_down_48 : decode cX0_down 48 = .ok (.iload_n 1, 1) := by decide +kernel
theorem dX0_down_49 : decode cX0_down 49 = .ok (.if_icmp .ne 5, 3) := by decide +kernel
theorem dX0_down_52 : decode cX0_down 52 = .ok (.iload_n 3, 1) := by decide +kernel
theorem dX0_down_53 : decode cX0_down 53 = .ok (.ireturn, 1) := by decide +kernel
theorem dX0_down_54 : decode cX0_down 54 = .ok (.aload_n 0, 1) := by decide +kernel
theorem dX0_down_55 : decode cX0_down 55 = .ok (.getfield 62, 3) := by decide +kernel
theorem dX0_down_58 : decode cX0_down 58 = .ok (.iload_n 3, 1) := by decide +kernel
theorem dX0_down_59 : decode cX0_down 59 = .ok (.iaload, 1) := by decide +kernel
theorem dX0_down_60 : decode cX0_down 60 = .ok (.istore_n 3, 1) := by decide +kernel
theorem dX0_down_61 : decode cX0_down 61 = .ok (.iinc 4 1, 3) := by decide +kernel
theorem dX0_down_64 : decode cX0_down 64 = .ok (.goto (-36), 3) := by decide +kernel
theorem dX0_down_67 : decode cX0_down 67 = .ok (.new 102, 3) := by decide +kernel
theorem dX0_down_70 : decode cX0_down 70 = .ok (.dup, 1) := by decide +kernel
theorem dX0_down_71 : decode cX0_down 71 = .ok (.ldc 130, 2) := by decide +kernel
theorem dX0_down_73 : decode cX0_down 73 = .ok (.invokespecial 106, 3) := by decide +kernel
theorem dX0_down_76 : decode cX0_down 76 = .ok (.athrow, 1) := by decide +kernel
theorem dX0_isNode_0 : decode cX0_isNode 0 = .ok (.iload_n 0, 1) := by decide +kernel
theorem dX0_isNode_1 : decode cX0_isNode 1 = .ok (.ifCond .lt 13, 3) := by decide +kernel
theorem dX0_isNode_4 : decode cX0_isNode 4 = .ok (.iload_n 0, 1) := by decide +kernel
theorem dX0_isNode_5 : decode cX0_isNode 5 = .ok (.bipush 10, 2) := by decide +kernel
theorem dX0_isNode_7 : decode cX0_isNode 7 = .ok (.if_icmp .ge 7, 3) := by decide +kernel
theorem dX0_isNode_10 : decode cX0_isNode 10 = .ok (.iconst 1, 1) := by decide +kernel
theorem dX0_isNode_11 : decode cX0_isNode 11 = .ok (.goto 4, 3) := by decide +kernel
theorem dX0_isNode_14 : decode cX0_isNode 14 = .ok (.iconst 0, 1) := by decide +kernel
theorem dX0_isNode_15 : decode cX0_isNode 15 = .ok (.ireturn, 1) := by decide +kernel
set_option maxRecDepth 20000 in
theorem ggX0_requireNode_X0_isNode : GoodIn wsX0_requireNode wsX0_isNode := goodIn_r _ [6] (by decide +kernel) (by decide +kernel)
set_option maxRecDepth 20000 in
theorem gX0_requireNode_X0_isNode : GoodIn wsX0_requireNode (va_wsS RX0 121 yX0_isNode wsX0_isNode) := goodIn_app (goodIn_of _ (by decide +kernel)) ggX0_requireNode_X0_isNode
theorem dX0_requireNode_0 : decode cX0_requireNode 0 = .ok (.iload_n 0, 1) := by decide +kernel
theorem dX0_requireNode_1 : decode cX0_requireNode 1 = .ok (.invokestatic 121, 3) := by decide +kernel
theorem dX0_requireNode_4 : decode cX0_requireNode 4 = .ok (.ifCond .ne 13, 3) := by decide +kernel
theorem dX0_requireNode_7 : decode cX0_requireNode 7 = .ok (.new 132, 3) := by decide +kernel
theorem dX0_requireNode_10 : decode cX0_requireNode 10 = .ok (.dup, 1) := by decide +kernel
theorem dX0_requireNode_11 : decode cX0_requireNode 11 = .ok (.ldc 134, 2) := by decide +kernel
theorem dX0_requireNode_13 : decode cX0_requireNode 13 = .ok (.invokespecial 136, 3) := by decide +kernel
theorem dX0_requireNode_16 : decode cX0_requireNode 16 = .ok (.athrow, 1) := by decide +kernel
theorem dX0_requireNode_17 : decode cX0_requireNode 17 = .ok (.return_, 1) := by decide +kernel
set_option maxRecDepth 20000 in
theorem ggX0_requireRoot_X0_requireNode : GoodIn wsX0_requireRoot wsX0_requireNode := goodIn_ca (goodIn_r _ [7, 8, 9, 10, 11, 6, 12] (by decide +kernel) (by decide +kernel)) (goodIn_sub (fun _ h => List.mem_cons_of_mem _ (List.mem_append_right _ h)) (by decide +kernel))
set_option maxRecDepth 20000 in
theorem gX0_requireRoot_X0_requireNode : GoodIn wsX0_requireRoot (va_wsS RX0 89 yX0_requireNode wsX0_requireNode) := goodIn_app (goodIn_of _ (by decide +kernel)) ggX0_requireRoot_X0_requireNode
theorem dX0_requireRoot_0 : decode cX0_requireRoot 0 = .ok (.iload_n 1, 1) := by decide +kernel
theorem dX0_requireRoot_1 : decode cX0_requireRoot 1 = .ok (.invokestatic 89, 3) := by decide +kernel
theorem dX0_requireRoot_4 : decode cX0_requireRoot 4 = .ok (.aload_n 0, 1) := by decide +kernel
theorem dX0_requireRoot_5 : decode cX0_requireRoot 5 = .ok (.getfield 42, 3) := by decide +kernel
theorem dX0_requireRoot_8 : decode cX0_requireRoot 8 = .ok (.iload_n 1, 1) := by decide +kernel
theorem dX0_requireRoot_9 : decode cX0_requireRoot 9 = .ok (.baload, 1) := by decide +kernel
theorem dX0_requireRoot_10 : decode cX0_requireRoot 10 = .ok (.ifCond .ne 13, 3) := by decide +kernel
theorem dX0_requireRoot_13 : decode cX0_requireRoot 13 = .ok (.new 102, 3) := by decide +kernel
theorem dX0_requireRoot_16 : decode cX0_requireRoot 16 = .ok (.dup, 1) := by decide +kernel
theorem dX0_requireRoot_17 : decode cX0_requireRoot 17 = .ok (.ldc 137, 2) := by decide +kernel
theorem dX0_requireRoot_19 : decode cX0_requireRoot 19 = .ok (.invokespecial 106, 3) := by decide +kernel
theorem dX0_requireRoot_22 : decode cX0_requireRoot 22 = .ok (.athrow, 1) := by decide +kernel
theorem dX0_requireRoot_23 : decode cX0_requireRoot 23 = .ok (.return_, 1) := by decide +kernel
theorem dX0_requireRange_0 : decode cX0_requireRange 0 = .ok (.iload_n 0, 1) := by decide +kernel
theorem dX0_requireRange_1 : decode cX0_requireRange 1 = .ok (.iload_n 1, 1) := by decide +kernel
theorem dX0_requireRange_2 : decode cX0_requireRange 2 = .ok (.if_icmp .lt 8, 3) := by decide +kernel
theorem dX0_requireRange_5 : decode cX0_requireRange 5 = .ok (.iload_n 0, 1) := by decide +kernel
theorem dX0_requireRange_6 : decode cX0_requireRange 6 = .ok (.iload_n 2, 1) := by decide +kernel
theorem dX0_requireRange_7 : decode cX0_requireRange 7 = .ok (.if_icmp .le 13, 3) := by decide +kernel
theorem dX0_requireRange_10 : decode cX0_requireRange 10 = .ok (.new 92, 3) := by decide +kernel
theorem dX0_requireRange_13 : decode cX0_requireRange 13 = .ok (.dup, 1) := by decide +kernel
theorem dX0_requireRange_14 : decode cX0_requireRange 14 = .ok (.ldc 139, 2) := by decide +kernel
theorem dX0_requireRange_16 : decode cX0_requireRange 16 = .ok (.invokespecial 96, 3) := by decide +kernel
theorem dX0_requireRange_19 : decode cX0_requireRange 19 = .ok (.athrow, 1) := by decide +kernel
theorem dX0_requireRange_20 : decode cX0_requireRange 20 = .ok (.return_, 1) := by decide +kernel
theorem dX0_clearNode_0 : decode cX0_clearNode 0 = .ok (.aload_n 0, 1) := by decide +kernel
theorem dX0_clearNode_1 : decode cX0_clearNode 1 = .ok (.getfield 50, 3) := by decide +kernel
theorem dX0_clearNode_4 : decode cX0_clearNode 4 = .ok (.iload_n 1, 1) := by decide +kernel
theorem dX0_clearNode_5 : decode cX0_clearNode 5 = .ok (.iconst (-1), 1) := by decide +kernel
theorem dX0_clearNode_6 : decode cX0_clearNode 6 = .ok (.iastore, 1) := by decide +kernel
theorem dX0_clearNode_7 : decode cX0_clearNode 7 = .ok (.aload_n 0, 1) := by decide +kernel
theorem dX0_clearNode_8 : decode cX0_clearNode 8 = .ok (.getfield 53, 3) := by decide +kernel
theorem dX0_clearNode_11 : decode cX0_clearNode 11 = .ok (.iload_n 1, 1) := by decide +kernel
theorem dX0_clearNode_12 : decode cX0_clearNode 12 = .ok (.iconst 0, 1) := by decide +kernel
theorem dX0_clearNode_13 : decode cX0_clearNode 13 = .ok (.iastore, 1) := by decide +kernel
theorem dX0_clearNode_14 : decode cX0_clearNode 14 = .ok (.aload_n 0, 1) := by decide +kernel
theorem dX0_clearNode_15 : decode cX0_clearNode 15 = .ok (.getfield 56, 3) := by decide +kernel
theorem dX0_clearNode_18 : decode cX0_clearNode 18 = .ok (.iload_n 1, 1) := by decide +kernel
theorem dX0_clearNode_19 : decode cX0_clearNode 19 = .ok (.sipush 10000, 3) := by decide +kernel
theorem dX0_clearNode_22 : decode cX0_clearNode 22 = .ok (.iastore, 1) := by decide +kernel
theorem dX0_clearNode_23 : decode cX0_clearNode 23 = .ok (.aload_n 0, 1) := by decide +kernel
theorem dX0_clearNode_24 : decode cX0_clearNode 24 = .ok (.getfield 59, 3) := by decide +kernel
theorem dX0_clearNode_27 : decode cX0_clearNode 27 = .ok (.iload_n 1, 1) := by decide +kernel
theorem dX0_clearNode_28 : decode cX0_clearNode 28 = .ok (.sipush 10000, 3) := by decide +kernel
theorem dX0_clearNode_31 : decode cX0_clearNode 31 = .ok (.iastore, 1) := by decide +kernel
theorem dX0_clearNode_32 : decode cX0_clearNode 32 = .ok (.aload_n 0, 1) := by decide +kernel
theorem dX0_clearNode_33 : decode cX0_clearNode 33 = .ok (.getfield 62, 3) := by decide +kernel
theorem dX0_clearNode_36 : decode cX0_clearNode 36 = .ok (.iload_n 1, 1) := by decide +kernel
theorem dX0_clearNode_37 : decode cX0_clearNode 37 = .ok (.iconst (-1), 1) := by decide +kernel
theorem dX0_clearNode_38 : decode cX0_clearNode 38 = .ok (.iastore, 1) := by decide +kernel
theorem dX0_clearNode_39 : decode cX0_clearNode 39 = .ok (.return_, 1) := by decide +kernel
set_option maxRecDepth 20000 in
theorem ggX0_beginVersion_X0_resetTimer : GoodIn wsX0_beginVersion wsX0_resetTimer := goodIn_r _ [7, 8, 9, 10, 11, 12, 13, 14, 15, 16, 17, 18, 19, 20, 21, 22, 23, 24, 25, 26, 27, 28, 29, 30, 31] (by decide +kernel) (by decide +kernel)
set_option maxRecDepth 20000 in
theorem gX0_beginVersion_X0_resetTimer : GoodIn wsX0_beginVersion (wsV RX0 78 RX0 yX0_resetTimer wsX0_resetTimer) := goodIn_app (goodIn_of _ (by decide +kernel)) ggX0_beginVersion_X0_resetTimer
theorem dX0_beginVersion_0 : decode cX0_beginVersion 0 = .ok (.aload_n 0, 1) := by decide +kernel
theorem dX0_beginVersion_1 : decode cX0_beginVersion 1 = .ok (.getfield 46, 3) := by decide +kernel
theorem dX0_beginVersion_4 : decode cX0_beginVersion 4 = .ok (.iload_n 1, 1) := by decide +kernel
theorem dX0_beginVersion_5 : decode cX0_beginVersion 5 = .ok (.dup2, 1) := by decide +kernel
theorem dX0_beginVersion_6 : decode cX0_beginVersion 6 = .ok (.iaload, 1) := by decide +kernel
theorem dX0_beginVersion_7 : decode cX0_beginVersion 7 = .ok (.iconst 1, 1) := by decide +kernel
theorem dX0_beginVersion_8 : decode cX0_beginVersion 8 = .ok (.iadd, 1) := by decide +kernel
theorem dX0_beginVersion_9 : decode cX0_beginVersion 9 = .ok (.iastore, 1) := by decide +kernel
theorem dX0_beginVersion_10 : decode cX0_beginVersion 10 = .ok (.aload_n 0, 1) := by decide +kernel
theorem dX0_beginVersion_11 : decode cX0_beginVersion 11 = .ok (.getfield 53, 3) := by decide +kernel
theorem dX0_beginVersion_14 : decode cX0_beginVersion 14 = .ok (.iload_n 1, 1) := by decide +kernel
theorem dX0_beginVersion_15 : decode cX0_beginVersion 15 = .ok (.aload_n 0, 1) := by decide +kernel
theorem dX0_beginVersion_16 : decode cX0_beginVersion 16 = .ok (.getfield 46, 3) := by decide +kernel
theorem dX0_beginVersion_19 : decode cX0_beginVersion 19 = .ok (.iload_n 1, 1) := by decide +kernel
theorem dX0_beginVersion_20 : decode cX0_beginVersion 20 = .ok (.iaload, 1) := by decide +kernel
theorem dX0_beginVersion_21 : decode cX0_beginVersion 21 = .ok (.iastore, 1) := by decide +kernel
theorem dX0_beginVersion_22 : decode cX0_beginVersion 22 = .ok (.aload_n 0, 1) := by decide +kernel
theorem dX0_beginVersion_23 : decode cX0_beginVersion 23 = .ok (.iload_n 1, 1) := by decide +kernel
theorem dX0_beginVersion_24 : decode cX0_beginVersion 24 = .ok (.invokevirtual 78, 3) := by decide +kernel
theorem dX0_beginVersion_27 : decode cX0_beginVersion 27 = .ok (.aload_n 0, 1) := by decide +kernel
theorem dX0_beginVersion_28 : decode cX0_beginVersion 28 = .ok (.getfield 53, 3) := by decide +kernel
theorem dX0_beginVersion_31 : decode cX0_beginVersion 31 = .ok (.iload_n 1, 1) := by decide +kernel
theorem dX0_beginVersion_32 : decode cX0_beginVersion 32 = .ok (.iaload, 1) := by decide +kernel
theorem dX0_beginVersion_33 : decode cX0_beginVersion 33 = .ok (.ireturn, 1) := by decide +kernel
theorem dX0_forget_0 : decode cX0_forget 0 = .ok (.aload_n 0, 1) := by decide +kernel
theorem dX0_forget_1 : decode cX0_forget 1 = .ok (.getfield 33, 3) := by decide +kernel
theorem dX0_forget_4 : decode cX0_forget 4 = .ok (.iload_n 1, 1) := by decide +kernel
theorem dX0_forget_5 : decode cX0_forget 5 = .ok (.aaload, 1) := by decide +kernel
theorem dX0_forget_6 : decode cX0_forget 6 = .ok (.iload_n 2, 1) := by decide +kernel
theorem dX0_forget_7 : decode cX0_forget 7 = .ok (.iconst (-1), 1) := by decide +kernel
theorem dX0_forget_8 : decode cX0_forget 8 = .ok (.iastore, 1) := by decide +kernel
theorem dX0_forget_9 : decode cX0_forget 9 = .ok (.aload_n 0, 1) := by decide +kernel
theorem dX0_forget_10 : decode cX0_forget 10 = .ok (.getfield 36, 3) := by decide +kernel
theorem dX0_forget_13 : decode cX0_forget 13 = .ok (.iload_n 1, 1) := by decide +kernel
theorem dX0_forget_14 : decode cX0_forget 14 = .ok (.aaload, 1) := by decide +kernel
theorem dX0_forget_15 : decode cX0_forget 15 = .ok (.iload_n 2, 1) := by decide +kernel
theorem dX0_forget_16 : decode cX0_forget 16 = .ok (.iconst 0, 1) := by decide +kernel
theorem dX0_forget_17 : decode cX0_forget 17 = .ok (.iastore, 1) := by decide +kernel
theorem dX0_forget_18 : decode cX0_forget 18 = .ok (.aload_n 0, 1) := by decide +kernel
theorem dX0_forget_19 : decode cX0_forget 19 = .ok (.getfield 39, 3) := by decide +kernel
theorem dX0_forget_22 : decode cX0_forget 22 = .ok (.iload_n 1, 1) := by decide +kernel
theorem dX0_forget_23 : decode cX0_forget 23 = .ok (.aaload, 1) := by decide +kernel
theorem dX0_forget_24 : decode cX0_forget 24 = .ok (.iload_n 2, 1) := by decide +kernel
theorem dX0_forget_25 : decode cX0_forget 25 = .ok (.iconst (-1), 1) := by decide +kernel
theorem dX0_forget_26 : decode cX0_forget 26 = .ok (.iastore, 1) := by decide +kernel
theorem dX0_forget_27 : decode cX0_forget 27 = .ok (.return_, 1) := by decide +kernel
theorem dX0_resetTimer_0 : decode cX0_resetTimer 0 = .ok (.aload_n 0, 1) := by decide +kernel
theorem dX0_resetTimer_1 : decode cX0_resetTimer 1 = .ok (.getfield 65, 3) := by decide +kernel
theorem dX0_resetTimer_4 : decode cX0_resetTimer 4 = .ok (.iload_n 1, 1) := by decide +kernel
theorem dX0_resetTimer_5 : decode cX0_resetTimer 5 = .ok (.aload_n 0, 1) := by decide +kernel
theorem dX0_resetTimer_6 : decode cX0_resetTimer 6 = .ok (.getfield 16, 3) := by decide +kernel
theorem dX0_resetTimer_9 : decode cX0_resetTimer 9 = .ok (.iastore, 1) := by decide +kernel
theorem dX0_resetTimer_10 : decode cX0_resetTimer 10 = .ok (.aload_n 0, 1) := by decide +kernel
theorem dX0_resetTimer_11 : decode cX0_resetTimer 11 = .ok (.getfield 68, 3) := by decide +kernel
theorem dX0_resetTimer_14 : decode cX0_resetTimer 14 = .ok (.iload_n 1, 1) := by decide +kernel
theorem dX0_resetTimer_15 : decode cX0_resetTimer 15 = .ok (.aload_n 0, 1) := by decide +kernel
theorem dX0_resetTimer_16 : decode cX0_resetTimer 16 = .ok (.getfield 22, 3) := by decide +kernel
theorem dX0_resetTimer_19 : decode cX0_resetTimer 19 = .ok (.aload_n 0, 1) := by decide +kernel
theorem dX0_resetTimer_20 : decode cX0_resetTimer 20 = .ok (.getfield 16, 3) := by decide +kernel
theorem dX0_resetTimer_23 : decode cX0_resetTimer 23 = .ok (.iadd, 1) := by decide +kernel
theorem dX0_resetTimer_24 : decode cX0_resetTimer 24 = .ok (.iastore, 1) := by decide +kernel
theorem dX0_resetTimer_25 : decode cX0_resetTimer 25 = .ok (.return_, 1) := by decide +kernel
theorem dX0_lengthenTimer_0 : decode cX0_lengthenTimer 0 = .ok (.aload_n 0, 1) := by decide +kernel
theorem dX0_lengthenTimer_1 : decode cX0_lengthenTimer 1 = .ok (.getfield 65, 3) := by decide +kernel
theorem dX0_lengthenTimer_4 : decode cX0_lengthenTimer 4 = .ok (.iload_n 1, 1) := by decide +kernel
theorem dX0_lengthenTimer_5 : decode cX0_lengthenTimer 5 = .ok (.iconst 2, 1) := by decide +kernel
theorem dX0_lengthenTimer_6 : decode cX0_lengthenTimer 6 = .ok (.aload_n 0, 1) := by decide +kernel
theorem dX0_lengthenTimer_7 : decode cX0_lengthenTimer 7 = .ok (.getfield 65, 3) := by decide +kernel
theorem dX0_lengthenTimer_10 : decode cX0_lengthenTimer 10 = .ok (.iload_n 1, 1) := by decide +kernel
theorem dX0_lengthenTimer_11 : decode cX0_lengthenTimer 11 = .ok (.iaload, 1) := by decide +kernel
theorem dX0_lengthenTimer_12 : decode cX0_lengthenTimer 12 = .ok (.imul, 1) := by decide +kernel
theorem dX0_lengthenTimer_13 : decode cX0_lengthenTimer 13 = .ok (.aload_n 0, 1) := by decide +kernel
theorem dX0_lengthenTimer_14 : decode cX0_lengthenTimer 14 = .ok (.getfield 16, 3) := by decide +kernel
theorem dX0_lengthenTimer_17 : decode cX0_lengthenTimer 17 = .ok (.aload_n 0, 1) := by decide +kernel
theorem dX0_lengthenTimer_18 : decode cX0_lengthenTimer 18 = .ok (.getfield 19, 3) := by decide +kernel
theorem dX0_lengthenTimer_21 : decode cX0_lengthenTimer 21 = .ok (.ishl, 1) := by decide +kernel
theorem dX0_lengthenTimer_22 : decode cX0_lengthenTimer 22 = .ok (.invokestatic 141, 3) := by decide +kernel
theorem dX0_lengthenTimer_25 : decode cX0_lengthenTimer 25 = .ok (.iastore, 1) := by decide +kernel
theorem dX0_lengthenTimer_26 : decode cX0_lengthenTimer 26 = .ok (.aload_n 0, 1) := by decide +kernel
theorem dX0_lengthenTimer_27 : decode cX0_lengthenTimer 27 = .ok (.getfield 68, 3) := by decide +kernel
theorem dX0_lengthenTimer_30 : decode cX0_lengthenTimer 30 = .ok (.iload_n 1, 1) := by decide +kernel
theorem dX0_lengthenTimer_31 : decode cX0_lengthenTimer 31 = .ok (.aload_n 0, 1) := by decide +kernel
theorem dX0_lengthenTimer_32 : decode cX0_lengthenTimer 32 = .ok (.getfield 22, 3) := by decide +kernel
theorem dX0_lengthenTimer_35 : decode cX0_lengthenTimer 35 = .ok (.aload_n 0, 1) := by decide +kernel
theorem dX0_lengthenTimer_36 : decode cX0_lengthenTimer 36 = .ok (.getfield 65, 3) := by decide +kernel
theorem dX0_lengthenTimer_39 : decode cX0_lengthenTimer 39 = .ok (.iload_n 1, 1) := by decide +kernel
theorem dX0_lengthenTimer_40 : decode cX0_lengthenTimer 40 = .ok (.iaload, 1) := by decide +kernel
theorem dX0_lengthenTimer_41 : decode cX0_lengthenTimer 41 = .ok (.iadd, 1) := by decide +kernel
theorem dX0_lengthenTimer_42 : decode cX0_lengthenTimer 42 = .ok (.iastore, 1) := by decide +kernel
theorem dX0_lengthenTimer_43 : decode cX0_lengthenTimer 43 = .ok (.return_, 1) := by decide +kernel
set_option maxRecDepth 20000 in
theorem ggX0_passTick_X0_tell : GoodIn wsX0_passTick wsX0_tell := goodIn_r _ [7, 8, 9, 10, 11, 12, 13, 14, 15, 16, 17, 6, 18, 19, 20, 21, 22, 23, 24, 25, 26, 27, 28, 29, 30, 31, 32, 33, 34, 35, 36, 37, 38, 39, 40, 41, 42, 43, 44, 45, 46, 47, 48, 49, 50, 51, 52, 53, 54, 55, 56, 57, 58, 59, 2, 1, 60, 61, 62, 63, 64, 65, 66, 67, 68, 69, 70, 71, 72, 78, 79, 80, 81, 82, 83, 84, 85, 86, 87, 88, 89, 90, 91, 92, 93, 94, 95, 96, 97] (by decide +kernel) (by decide +kernel)
set_option maxRecDepth 20000 in
theorem gX0_passTick_X0_tell : GoodIn wsX0_passTick (wsV RX0 147 RX0 yX0_tell wsX0_tell) := goodIn_app (goodIn_of _ (by decide +kernel)) ggX0_passTick_X0_tell
set_option maxRecDepth 20000 in
theorem ggX0_passTick_X0_lengthenTimer : GoodIn wsX0_passTick wsX0_lengthenTimer := goodIn_r _ [76, 58, 59, 77, 69, 70, 71, 72, 2, 1, 78, 79, 80, 81, 82, 83, 84, 85, 86, 87, 88, 89, 90, 91, 92, 93, 94, 95, 96, 97] (by decide +kernel) (by decide +kernel)
set_option maxRecDepth 20000 in
theorem gX0_passTick_X0_lengthenTimer : GoodIn wsX0_passTick (wsV RX0 150 RX0 yX0_lengthenTimer wsX0_lengthenTimer) := goodIn_app (goodIn_of _ (by decide +kernel)) ggX0_passTick_X0_lengthenTimer
theorem dX0_passTick_0 : decode cX0_passTick 0 = .ok (.iconst 0, 1) := by decide +kernel
theorem dX0_passTick_1 : decode cX0_passTick 1 = .ok (.istore_n 1, 1) := by decide +kernel
theorem dX0_passTick_2 : decode cX0_passTick 2 = .ok (.aload_n 0, 1) := by decide +kernel
theorem dX0_passTick_3 : decode cX0_passTick 3 = .ok (.dup, 1) := by decide +kernel
theorem dX0_passTick_4 : decode cX0_passTick 4 = .ok (.getfield 22, 3) := by decide +kernel
theorem dX0_passTick_7 : decode cX0_passTick 7 = .ok (.iconst 1, 1) := by decide +kernel
theorem dX0_passTick_8 : decode cX0_passTick 8 = .ok (.iadd, 1) := by decide +kernel
theorem dX0_passTick_9 : decode cX0_passTick 9 = .ok (.putfield 22, 3) := by decide +kernel
theorem dX0_passTick_12 : decode cX0_passTick 12 = .ok (.iconst 0, 1) := by decide +kernel
theorem dX0_passTick_13 : decode cX0_passTick 13 = .ok (.istore_n 2, 1) := by decide +kernel
theorem dX0_passTick_14 : decode cX0_passTick 14 = .ok (.iload_n 2, 1) := by decide +kernel
theorem dX0_passTick_15 : decode cX0_passTick 15 = .ok (.bipush 10, 2) := by decide +kernel
theorem dX0_passTick_17 : decode cX0_passTick 17 = .ok (.if_icmp .ge 35, 3) := by decide +kernel
theorem dX0_passTick_20 : decode cX0_passTick 20 = .ok (.aload_n 0, 1) := by decide +kernel
theorem dX0_passTick_21 : decode cX0_passTick 21 = .ok (.getfield 68, 3) := by decide +kernel
theorem dX0_passTick_24 : decode cX0_passTick 24 = .ok (.iload_n 2, 1) := by decide +kernel
theorem dX0_passTick_25 : decode cX0_passTick 25 = .ok (.iaload, 1) := by decide +kernel
theorem dX0_passTick_26 : decode cX0_passTick 26 = .ok (.aload_n 0, 1) := by decide +kernel
theorem dX0_passTick_27 : decode cX0_passTick 27 = .ok (.getfield 22, 3) := by decide +kernel
theorem dX0_passTick_30 : decode cX0_passTick 30 = .ok (.if_icmp .ne 16, 3) := by decide +kernel
theorem dX0_passTick_33 : decode cX0_passTick 33 = .ok (.aload_n 0, 1) := by decide +kernel
theorem dX0_passTick_34 : decode cX0_passTick 34 = .ok (.iload_n 2, 1) := by decide +kernel
theorem dX0_passTick_35 : decode cX0_passTick 35 = .ok (.invokevirtual 147, 3) := by decide +kernel
theorem dX0_passTick_38 : decode cX0_passTick 38 = .ok (.aload_n 0, 1) := by decide +kernel
theorem dX0_passTick_39 : decode cX0_passTick 39 = .ok (.iload_n 2, 1) := by decide +kernel
theorem dX0_passTick_40 : decode cX0_passTick 40 = .ok (.invokevirtual 150, 3) := by decide +kernel
theorem dX0_passTick_43 : decode cX0_passTick 43 = .ok (.iinc 1 1, 3) := by decide +kernel
theorem dX0_passTick_46 : decode cX0_passTick 46 = .ok (.iinc 2 1, 3) := by decide +kernel
theorem dX0_passTick_49 : decode cX0_passTick 49 = .ok (.goto (-35), 3) := by decide +kernel
theorem dX0_passTick_52 : decode cX0_passTick 52 = .ok (.iload_n 1, 1) := by decide +kernel
theorem dX0_passTick_53 : decode cX0_passTick 53 = .ok (.ireturn, 1) := by decide +kernel
set_option maxRecDepth 20000 in
theorem ggX0_tell_X0_choose : GoodIn wsX0_tell wsX0_choose := goodIn_r _ [12, 13, 14, 15, 16, 17, 11, 18, 19, 20, 21, 22, 6, 1, 23, 24, 25, 26, 27, 28, 29, 30, 2, 4, 3, 5, 31, 32, 33, 34, 7, 35, 36, 37, 38, 39, 40, 41, 42, 43, 44, 45, 46, 47, 48, 49, 50, 51, 52, 53, 54, 55, 56, 57, 58, 59, 60, 61, 62, 63, 64, 65, 66, 67, 68, 69, 70, 71, 72, 73, 74, 75, 76, 77, 78, 79, 80, 81, 82, 83, 84, 85, 86, 87, 88] (by decide +kernel) (by decide +kernel)
set_option maxRecDepth 20000 in
theorem gX0_tell_X0_choose : GoodIn wsX0_tell (wsV RX0 99 RX0 yX0_choose wsX0_choose) := goodIn_app (goodIn_of _ (by decide +kernel)) ggX0_tell_X0_choose
theorem dX0_tell_0 : decode cX0_tell 0 = .ok (.iconst 0, 1) := by decide +kernel
theorem dX0_tell_1 : decode cX0_tell 1 = .ok (.istore_n 2, 1) := by decide +kernel
theorem dX0_tell_2 : decode cX0_tell 2 = .ok (.iload_n 2, 1) := by decide +kernel
theorem dX0_tell_3 : decode cX0_tell 3 = .ok (.bipush 10, 2) := by decide +kernel
theorem dX0_tell_5 : decode cX0_tell 5 = .ok (.if_icmp .ge 67, 3) := by decide +kernel
theorem dX0_tell_8 : decode cX0_tell 8 = .ok (.aload_n 0, 1) := by decide +kernel
theorem dX0_tell_9 : decode cX0_tell 9 = .ok (.getfield 30, 3) := by decide +kernel
theorem dX0_tell_12 : decode cX0_tell 12 = .ok (.iload_n 1, 1) := by decide +kernel
theorem dX0_tell_13 : decode cX0_tell 13 = .ok (.aaload, 1) := by decide +kernel
theorem dX0_tell_14 : decode cX0_tell 14 = .ok (.iload_n 2, 1) := by decide +kernel
theorem dX0_tell_15 : decode cX0_tell 15 = .ok (.iaload, 1) := by decide +kernel
theorem dX0_tell_16 : decode cX0_tell 16 = .ok (.ifCond .le 50, 3) := by decide +kernel
theorem dX0_tell_19 : decode cX0_tell 19 = .ok (.aload_n 0, 1) := by decide +kernel
theorem dX0_tell_20 : decode cX0_tell 20 = .ok (.getfield 33, 3) := by decide +kernel
theorem dX0_tell_23 : decode cX0_tell 23 = .ok (.iload_n 2, 1) := by decide +kernel
theorem dX0_tell_24 : decode cX0_tell 24 = .ok (.aaload, 1) := by decide +kernel
theorem dX0_tell_25 : decode cX0_tell 25 = .ok (.iload_n 1, 1) := by decide +kernel
theorem dX0_tell_26 : decode cX0_tell 26 = .ok (.aload_n 0, 1) := by decide +kernel
theorem dX0_tell_27 : decode cX0_tell 27 = .ok (.getfield 50, 3) := by decide +kernel
theorem dX0_tell_30 : decode cX0_tell 30 = .ok (.iload_n 1, 1) := by decide +kernel
theorem dX0_tell_31 : decode cX0_tell 31 = .ok (.iaload, 1) := by decide +kernel
theorem dX0_tell_32 : decode cX0_tell 32 = .ok (.iastore, 1) := by decide +kernel
theorem dX0_tell_33 : decode cX0_tell 33 = .ok (.aload_n 0, 1) := by decide +kernel
theorem dX0_tell_34 : decode cX0_tell 34 = .ok (.getfield 36, 3) := by decide +kernel
theorem dX0_tell_37 : decode cX0_tell 37 = .ok (.iload_n 2, 1) := by decide +kernel
theorem dX0_tell_38 : decode cX0_tell 38 = .ok (.aaload, 1) := by decide +kernel
theorem dX0_tell_39 : decode cX0_tell 39 = .ok (.iload_n 1, 1) := by decide +kernel
theorem dX0_tell_40 : decode cX0_tell 40 = .ok (.aload_n 0, 1) := by decide +kernel
theorem dX0_tell_41 : decode cX0_tell 41 = .ok (.getfield 53, 3) := by decide +kernel
theorem dX0_tell_44 : decode cX0_tell 44 = .ok (.iload_n 1, 1) := by decide +kernel
theorem dX0_tell_45 : decode cX0_tell 45 = .ok (.iaload, 1) := by decide +kernel
theorem dX0_tell_46 : decode cX0_tell 46 = .ok (.iastore, 1) := by decide +kernel
theorem dX0_tell_47 : decode cX0_tell 47 = .ok (.aload_n 0, 1) := by decide +kernel
theorem dX0_tell_48 : decode cX0_tell 48 = .ok (.getfield 39, 3) := by decide +kernel
theorem dX0_tell_51 : decode cX0_tell 51 = .ok (.iload_n 2, 1) := by decide +kernel
theorem dX0_tell_52 : decode cX0_tell 52 = .ok (.aaload, 1) := by decide +kernel
theorem dX0_tell_53 : decode cX0_tell 53 = .ok (.iload_n 1, 1) := by decide +kernel
theorem dX0_tell_54 : decode cX0_tell 54 = .ok (.aload_n 0, 1) := by decide +kernel
theorem dX0_tell_55 : decode cX0_tell 55 = .ok (.getfield 56, 3) := by decide +kernel
theorem dX0_tell_58 : decode cX0_tell 58 = .ok (.iload_n 1, 1) := by decide +kernel
theorem dX0_tell_59 : decode cX0_tell 59 = .ok (.iaload, 1) := by decide +kernel
theorem dX0_tell_60 : decode cX0_tell 60 = .ok (.iastore, 1) := by decide +kernel
theorem dX0_tell_61 : decode cX0_tell 61 = .ok (.aload_n 0, 1) := by decide +kernel
theorem dX0_tell_62 : decode cX0_tell 62 = .ok (.iload_n 2, 1) := by decide +kernel
theorem dX0_tell_63 : decode cX0_tell 63 = .ok (.invokevirtual 99, 3) := by decide +kernel
theorem dX0_tell_66 : decode cX0_tell 66 = .ok (.iinc 2 1, 3) := by decide +kernel
theorem dX0_tell_69 : decode cX0_tell 69 = .ok (.goto (-67), 3) := by decide +kernel
theorem dX0_tell_72 : decode cX0_tell 72 = .ok (.return_, 1) := by decide +kernel
theorem dX0_lowerWayCosts_0 : decode cX0_lowerWayCosts 0 = .ok (.iconst 0, 1) := by decide +kernel
theorem dX0_lowerWayCosts_1 : decode cX0_lowerWayCosts 1 = .ok (.istore_n 1, 1) := by decide +kernel
theorem dX0_lowerWayCosts_2 : decode cX0_lowerWayCosts 2 = .ok (.iload_n 1, 1) := by decide +kernel
theorem dX0_lowerWayCosts_3 : decode cX0_lowerWayCosts 3 = .ok (.bipush 10, 2) := by decide +kernel
theorem dX0_lowerWayCosts_5 : decode cX0_lowerWayCosts 5 = .ok (.if_icmp .ge 59, 3) := by decide +kernel
theorem dX0_lowerWayCosts_8 : decode cX0_lowerWayCosts 8 = .ok (.iconst 0, 1) := by decide +kernel
theorem dX0_lowerWayCosts_9 : decode cX0_lowerWayCosts 9 = .ok (.istore_n 2, 1) := by decide +kernel
theorem dX0_lowerWayCosts_10 : decode cX0_lowerWayCosts 10 = .ok (.iload_n 2, 1) := by decide +kernel
theorem dX0_lowerWayCosts_11 : decode cX0_lowerWayCosts 11 = .ok (.bipush 10, 2) := by decide +kernel
theorem dX0_lowerWayCosts_13 : decode cX0_lowerWayCosts 13 = .ok (.if_icmp .ge 45, 3) := by decide +kernel
theorem dX0_lowerWayCosts_16 : decode cX0_lowerWayCosts 16 = .ok (.aload_n 0, 1) := by decide +kernel
theorem dX0_lowerWayCosts_17 : decode cX0_lowerWayCosts 17 = .ok (.getfield 30, 3) := by decide +kernel
theorem dX0_lowerWayCosts_20 : decode cX0_lowerWayCosts 20 = .ok (.iload_n 1, 1) := by decide +kernel
theorem dX0_lowerWayCosts_21 : decode cX0_lowerWayCosts 21 = .ok (.aaload, 1) := by decide +kernel
theorem dX0_lowerWayCosts_22 : decode cX0_lowerWayCosts 22 = .ok (.iload_n 2, 1) := by decide +kernel
theorem dX0_lowerWayCosts_23 : decode cX0_lowerWayCosts 23 = .ok (.iaload, 1) := by decide +kernel
theorem dX0_lowerWayCosts_24 : decode cX0_lowerWayCosts 24 = .ok (.istore_n 3, 1) := by decide +kernel
theorem dX0_lowerWayCosts_25 : decode cX0_lowerWayCosts 25 = .ok (.iload_n 3, 1) := by decide +kernel
theorem dX0_lowerWayCosts_26 : decode cX0_lowerWayCosts 26 = .ok (.ifCond .le 26, 3) := by decide +kernel
theorem dX0_lowerWayCosts_29 : decode cX0_lowerWayCosts 29 = .ok (.aload_n 0, 1) := by decide +kernel
theorem dX0_lowerWayCosts_30 : decode cX0_lowerWayCosts 30 = .ok (.getfield 71, 3) := by decide +kernel
theorem dX0_lowerWayCosts_33 : decode cX0_lowerWayCosts 33 = .ok (.iload_n 1, 1) := by decide +kernel
theorem dX0_lowerWayCosts_34 : decode cX0_lowerWayCosts 34 = .ok (.aload_n 0, 1) := by decide +kernel
theorem dX0_lowerWayCosts_35 : decode cX0_lowerWayCosts 35 = .ok (.getfield 71, 3) := by decide +kernel
theorem dX0_lowerWayCosts_38 : decode cX0_lowerWayCosts 38 = .ok (.iload_n 1, 1) := by decide +kernel
theorem dX0_lowerWayCosts_39 : decode cX0_lowerWayCosts 39 = .ok (.iaload, 1) := by decide +kernel
theorem dX0_lowerWayCosts_40 : decode cX0_lowerWayCosts 40 = .ok (.aload_n 0, 1) := by decide +kernel
theorem dX0_lowerWayCosts_41 : decode cX0_lowerWayCosts 41 = .ok (.getfield 71, 3) := by decide +kernel
theorem dX0_lowerWayCosts_44 : decode cX0_lowerWayCosts 44 = .ok (.iload_n 2, 1) := by decide +kernel
theorem dX0_lowerWayCosts_45 : decode cX0_lowerWayCosts 45 = .ok (.iaload, 1) := by decide +kernel
theorem dX0_lowerWayCosts_46 : decode cX0_lowerWayCosts 46 = .ok (.iload_n 3, 1) := by decide +kernel
theorem dX0_lowerWayCosts_47 : decode cX0_lowerWayCosts 47 = .ok (.iadd, 1) := by decide +kernel
theorem dX0_lowerWayCosts_48 : decode cX0_lowerWayCosts 48 = .ok (.invokestatic 141, 3) := by decide +kernel
theorem dX0_lowerWayCosts_51 : decode cX0_lowerWayCosts 51 = .ok (.iastore, 1) := by decide +kernel
theorem dX0_lowerWayCosts_52 : decode cX0_lowerWayCosts 52 = .ok (.iinc 2 1, 3) := by decide +kernel
theorem dX0_lowerWayCosts_55 : decode cX0_lowerWayCosts 55 = .ok (.goto (-45), 3) := by decide +kernel
theorem dX0_lowerWayCosts_58 : decode cX0_lowerWayCosts 58 = .ok (.iinc 1 1, 3) := by decide +kernel
theorem dX0_lowerWayCosts_61 : decode cX0_lowerWayCosts 61 = .ok (.goto (-59), 3) := by decide +kernel
theorem dX0_lowerWayCosts_64 : decode cX0_lowerWayCosts 64 = .ok (.return_, 1) := by decide +kernel
set_option maxRecDepth 20000 in
theorem ggX0_childrenOf_X0_isNode : GoodIn wsX0_childrenOf wsX0_isNode := goodIn_r _ [5] (by decide +kernel) (by decide +kernel)
set_option maxRecDepth 20000 in
theorem gX0_childrenOf_X0_isNode : GoodIn wsX0_childrenOf (va_wsS RX0 121 yX0_isNode wsX0_isNode) := goodIn_app (goodIn_of _ (by decide +kernel)) ggX0_childrenOf_X0_isNode
theorem dX0_childrenOf_0 : decode cX0_childrenOf 0 = .ok (.iconst 0, 1) := by decide +kernel
theorem dX0_childrenOf_1 : decode cX0_childrenOf 1 = .ok (.istore_n 2, 1) := by decide +kernel
theorem dX0_childrenOf_2 : decode cX0_childrenOf 2 = .ok (.iconst 0, 1) := by decide +kernel
theorem dX0_childrenOf_3 : decode cX0_childrenOf 3 = .ok (.istore_n 3, 1) := by decide +kernel
theorem dX0_childrenOf_4 : decode cX0_childrenOf 4 = .ok (.iload_n 3, 1) := by decide +kernel
theorem dX0_childrenOf_5 : decode cX0_childrenOf 5 = .ok (.bipush 10, 2) := by decide +kernel
theorem dX0_childrenOf_7 : decode cX0_childrenOf 7 = .ok (.if_icmp .ge 40, 3) := by decide +kernel
theorem dX0_childrenOf_10 : decode cX0_childrenOf 10 = .ok (.aload_n 0, 1) := by decide +kernel
theorem dX0_childrenOf_11 : decode cX0_childrenOf 11 = .ok (.getfield 62, 3) := by decide +kernel
theorem dX0_childrenOf_14 : decode cX0_childrenOf 14 = .ok (.iload_n 3, 1) := by decide +kernel
theorem dX0_childrenOf_15 : decode cX0_childrenOf 15 = .ok (.iaload, 1) := by decide +kernel
theorem dX0_childrenOf_16 : decode cX0_childrenOf 16 = .ok (.istore 4, 2) := by decide +kernel
theorem dX0_childrenOf_18 : decode cX0_childrenOf 18 = .ok (.iload 4, 2) := by decide +kernel
theorem dX0_childrenOf_20 : decode cX0_childrenOf 20 = .ok (.invokestatic 121, 3) := by decide +kernel
theorem dX0_childrenOf_23 : decode cX0_childrenOf 23 = .ok (.ifCond .eq 18, 3) := by decide +kernel
theorem dX0_childrenOf_26 : decode cX0_childrenOf 26 = .ok (.iload_n 1, 1) := by decide +kernel
theorem dX0_childrenOf_27 : decode cX0_childrenOf 27 = .ok (.iload 4, 2) := by decide +kernel
theorem dX0_childrenOf_29 : decode cX0_childrenOf 29 = .ok (.ishr, 1) := by decide +kernel
theorem dX0_childrenOf_30 : decode cX0_childrenOf 30 = .ok (.iconst 1, 1) := by decide +kernel
theorem dX0_childrenOf_31 : decode cX0_childrenOf 31 = .ok (.iand, 1) := by decide +kernel
theorem dX0_childrenOf_32 : decode cX0_childrenOf 32 = .ok (.ifCond .eq 9, 3) := by decide +kernel
theorem dX0_childrenOf_35 : decode cX0_childrenOf 35 = .ok (.iload_n 2, 1) := by decide +kernel
theorem dX0_childrenOf_36 : decode cX0_childrenOf 36 = .ok (.iconst 1, 1) := by decide +kernel
theorem dX0_childrenOf_37 : decode cX0_childrenOf 37 = .ok (.iload_n 3, 1) := by decide +kernel
theorem dX0_childrenOf_38 : decode cX0_childrenOf 38 = .ok (.ishl, 1) := by decide +kernel
theorem dX0_childrenOf_39 : decode cX0_childrenOf 39 = .ok (.ior, 1) := by decide +kernel
theorem dX0_childrenOf_40 : decode cX0_childrenOf 40 = .ok (.istore_n 2, 1) := by decide +kernel
theorem dX0_childrenOf_41 : decode cX0_childrenOf 41 = .ok (.iinc 3 1, 3) := by decide +kernel
theorem dX0_childrenOf_44 : decode cX0_childrenOf 44 = .ok (.goto (-40), 3) := by decide +kernel
theorem dX0_childrenOf_47 : decode cX0_childrenOf 47 = .ok (.iload_n 2, 1) := by decide +kernel
theorem dX0_childrenOf_48 : decode cX0_childrenOf 48 = .ok (.ireturn, 1) := by decide +kernel
set_option maxRecDepth 20000 in
theorem ggX0_choose_X0_bestCandidate : GoodIn wsX0_choose wsX0_bestCandidate := goodIn_r _ [7, 8, 9, 10, 6, 11, 12, 13, 14, 15, 16, 17, 18, 19, 20, 21, 22, 23, 24, 25, 26, 27, 28, 29, 30, 31, 32, 33, 34, 35, 36, 65, 66, 67, 68, 69, 70, 71, 72, 73, 74, 75, 76, 77, 78, 79, 80, 81, 82, 83, 84] (by decide +kernel) (by decide +kernel)
set_option maxRecDepth 20000 in
theorem gX0_choose_X0_bestCandidate : GoodIn wsX0_choose (wsV RX0 153 RX0 yX0_bestCandidate wsX0_bestCandidate) := goodIn_app (goodIn_of _ (by decide +kernel)) ggX0_choose_X0_bestCandidate
set_option maxRecDepth 20000 in
theorem ggX0_choose_X0_isNode : GoodIn wsX0_choose wsX0_isNode := goodIn_r _ [39] (by decide +kernel) (by decide +kernel)
set_option maxRecDepth 20000 in
theorem gX0_choose_X0_isNode : GoodIn wsX0_choose (va_wsS RX0 121 yX0_isNode wsX0_isNode) := goodIn_app (goodIn_of _ (by decide +kernel)) ggX0_choose_X0_isNode
set_option maxRecDepth 20000 in
theorem ggX0_choose_X0_loseParent : GoodIn wsX0_choose wsX0_loseParent := goodIn_r _ [43, 30, 2, 44, 45, 46, 6, 47, 48, 49, 50, 51, 65, 66, 67, 68, 69, 70, 71, 72, 73, 74, 75, 76, 77, 78, 79, 80, 81, 82, 83, 84] (by decide +kernel) (by decide +kernel)
set_option maxRecDepth 20000 in
theorem gX0_choose_X0_loseParent : GoodIn wsX0_choose (wsV RX0 156 RX0 yX0_loseParent wsX0_loseParent) := goodIn_app (goodIn_of _ (by decide +kernel)) ggX0_choose_X0_loseParent
set_option maxRecDepth 20000 in
theorem ggX0_choose_X0_keepsParent : GoodIn wsX0_choose wsX0_keepsParent := goodIn_r _ [55, 2, 56, 37, 38, 6, 39, 14, 15, 16, 17, 12, 8, 9, 10, 11, 13, 18, 19, 20, 21, 22, 23, 24, 25, 26, 27, 28, 29, 30, 31, 32, 33, 34, 35, 36, 65, 66, 67, 68, 69, 70, 71, 72, 73, 74, 75, 76, 77, 78, 79, 80, 81, 82, 83, 84] (by decide +kernel) (by decide +kernel)
set_option maxRecDepth 20000 in
theorem gX0_choose_X0_keepsParent : GoodIn wsX0_choose (wsV RX0 159 RX0 yX0_keepsParent wsX0_keepsParent) := goodIn_app (goodIn_of _ (by decide +kernel)) ggX0_choose_X0_keepsParent
set_option maxRecDepth 20000 in
theorem ggX0_choose_X0_follow : GoodIn wsX0_choose wsX0_follow := goodIn_r _ [60, 30, 2, 31, 61, 62, 63, 64, 24, 22, 25, 23, 8, 9, 10, 6, 11, 12, 13, 33, 34, 35, 36, 44, 45, 46, 47, 48, 49, 50, 51, 65, 66, 67, 68, 69, 70, 71, 72, 73, 74, 75, 76, 77, 78, 79, 80, 81, 82, 83, 84] (by decide +kernel) (by decide +kernel)
set_option maxRecDepth 20000 in
theorem gX0_choose_X0_follow : GoodIn wsX0_choose (wsV RX0 163 RX0 yX0_follow wsX0_follow) := goodIn_app (goodIn_of _ (by decide +kernel)) ggX0_choose_X0_follow
theorem dX0_choose_0 : decode cX0_choose 0 = .ok (.aload_n 0, 1) := by decide +kernel
theorem dX0_choose_1 : decode cX0_choose 1 = .ok (.getfield 42, 3) := by decide +kernel
theorem dX0_choose_4 : decode cX0_choose 4 = .ok (.iload_n 1, 1) := by decide +kernel
theorem dX0_choose_5 : decode cX0_choose 5 = .ok (.baload, 1) := by decide +kernel
theorem dX0_choose_6 : decode cX0_choose 6 = .ok (.ifCond .eq 4, 3) := by decide +kernel
theorem dX0_choose_9 : decode cX0_choose 9 = .ok (.return_, 1) := by decide +kernel
theorem dX0_choose_10 : decode cX0_choose 10 = .ok (.aload_n 0, 1) := by decide +kernel
end
section
theorem dX0_choose_11 : decode cX0_choose 11 = .ok (.iload_n 1, 1) := by decide +kernel
theorem dX0_choose_12 : decode cX0_choose 12 = .ok (.invokevirtual 153, 3) := by decide +kernel
theorem dX0_choose_15 : decode cX0_choose 15 = .ok (.istore_n 2, 1) := by decide +kernel
theorem dX0_choose_16 : decode cX0_choose 16 = .ok (.iload_n 2, 1) := by decide +kernel
theorem dX0_choose_17 : decode cX0_choose 17 = .ok (.invokestatic 121, 3) := by decide +kernel
theorem dX0_choose_20 : decode cX0_choose 20 = .ok (.ifCond .ne 11, 3) := by decide +kernel
theorem dX0_choose_23 : decode cX0_choose 23 = .ok (.aload_n 0, 1) := by decide +kernel
theorem dX0_choose_24 : decode cX0_choose 24 = .ok (.iload_n 1, 1) := by decide +kernel
theorem dX0_choose_25 : decode cX0_choose 25 = .ok (.invokevirtual 156, 3) := by decide +kernel
theorem dX0_choose_28 : decode cX0_choose 28 = .ok (.goto 32, 3) := by decide +kernel
theorem dX0_choose_31 : decode cX0_choose 31 = .ok (.aload_n 0, 1) := by decide +kernel
theorem dX0_choose_32 : decode cX0_choose 32 = .ok (.iload_n 1, 1) := by decide +kernel
theorem dX0_choose_33 : decode cX0_choose 33 = .ok (.iload_n 2, 1) := by decide +kernel
theorem dX0_choose_34 : decode cX0_choose 34 = .ok (.invokevirtual 159, 3) := by decide +kernel
theorem dX0_choose_37 : decode cX0_choose 37 = .ok (.ifCond .eq 17, 3) := by decide +kernel
theorem dX0_choose_40 : decode cX0_choose 40 = .ok (.aload_n 0, 1) := by decide +kernel
theorem dX0_choose_41 : decode cX0_choose 41 = .ok (.iload_n 1, 1) := by decide +kernel
theorem dX0_choose_42 : decode cX0_choose 42 = .ok (.aload_n 0, 1) := by decide +kernel
theorem dX0_choose_43 : decode cX0_choose 43 = .ok (.getfield 62, 3) := by decide +kernel
theorem dX0_choose_46 : decode cX0_choose 46 = .ok (.iload_n 1, 1) := by decide +kernel
theorem dX0_choose_47 : decode cX0_choose 47 = .ok (.iaload, 1) := by decide +kernel
theorem dX0_choose_48 : decode cX0_choose 48 = .ok (.invokevirtual 163, 3) := by decide +kernel
theorem dX0_choose_51 : decode cX0_choose 51 = .ok (.goto 9, 3) := by decide +kernel
theorem dX0_choose_54 : decode cX0_choose 54 = .ok (.aload_n 0, 1) := by decide +kernel
theorem dX0_choose_55 : decode cX0_choose 55 = .ok (.iload_n 1, 1) := by decide +kernel
theorem dX0_choose_56 : decode cX0_choose 56 = .ok (.iload_n 2, 1) := by decide +kernel
theorem dX0_choose_57 : decode cX0_choose 57 = .ok (.invokevirtual 163, 3) := by decide +kernel
theorem dX0_choose_60 : decode cX0_choose 60 = .ok (.return_, 1) := by decide +kernel
set_option maxRecDepth 20000 in
theorem ggX0_keepsParent_X0_isNode : GoodIn wsX0_keepsParent wsX0_isNode := goodIn_r _ [6] (by decide +kernel) (by decide +kernel)
set_option maxRecDepth 20000 in
theorem gX0_keepsParent_X0_isNode : GoodIn wsX0_keepsParent (va_wsS RX0 121 yX0_isNode wsX0_isNode) := goodIn_app (goodIn_of _ (by decide +kernel)) ggX0_keepsParent_X0_isNode
set_option maxRecDepth 20000 in
theorem ggX0_keepsParent_X0_isCandidate : GoodIn wsX0_keepsParent wsX0_isCandidate := goodIn_r _ [10, 11, 12, 13, 14, 5, 15, 16, 17, 18, 19, 20, 21, 22, 23, 24, 25, 26, 27, 28, 29, 30, 31, 32, 33, 34, 35, 36, 37, 38, 39, 40, 41, 42, 43, 44, 45, 46, 47, 48, 49, 50, 51, 52, 53, 54, 55] (by decide +kernel) (by decide +kernel)
set_option maxRecDepth 20000 in
theorem gX0_keepsParent_X0_isCandidate : GoodIn wsX0_keepsParent (wsV RX0 166 RX0 yX0_isCandidate wsX0_isCandidate) := goodIn_app (goodIn_of _ (by decide +kernel)) ggX0_keepsParent_X0_isCandidate
set_option maxRecDepth 20000 in
theorem ggX0_keepsParent_X0_rankBy : GoodIn wsX0_keepsParent wsX0_rankBy := goodIn_r _ [15, 11, 16, 36, 37, 38, 39, 40, 41, 42, 43, 44, 45, 46, 47, 48, 49, 50, 51, 52, 53, 54, 55] (by decide +kernel) (by decide +kernel)
set_option maxRecDepth 20000 in
theorem gX0_keepsParent_X0_rankBy : GoodIn wsX0_keepsParent (wsV RX0 169 RX0 yX0_rankBy wsX0_rankBy) := goodIn_app (goodIn_of _ (by decide +kernel)) ggX0_keepsParent_X0_rankBy
theorem dX0_keepsParent_0 : decode cX0_keepsParent 0 = .ok (.aload_n 0, 1) := by decide +kernel
theorem dX0_keepsParent_1 : decode cX0_keepsParent 1 = .ok (.getfield 62, 3) := by decide +kernel
theorem dX0_keepsParent_4 : decode cX0_keepsParent 4 = .ok (.iload_n 1, 1) := by decide +kernel
theorem dX0_keepsParent_5 : decode cX0_keepsParent 5 = .ok (.iaload, 1) := by decide +kernel
theorem dX0_keepsParent_6 : decode cX0_keepsParent 6 = .ok (.istore_n 3, 1) := by decide +kernel
theorem dX0_keepsParent_7 : decode cX0_keepsParent 7 = .ok (.iload_n 3, 1) := by decide +kernel
theorem dX0_keepsParent_8 : decode cX0_keepsParent 8 = .ok (.invokestatic 121, 3) := by decide +kernel
theorem dX0_keepsParent_11 : decode cX0_keepsParent 11 = .ok (.ifCond .eq 12, 3) := by decide +kernel
theorem dX0_keepsParent_14 : decode cX0_keepsParent 14 = .ok (.aload_n 0, 1) := by decide +kernel
theorem dX0_keepsParent_15 : decode cX0_keepsParent 15 = .ok (.iload_n 1, 1) := by decide +kernel
theorem dX0_keepsParent_16 : decode cX0_keepsParent 16 = .ok (.iload_n 3, 1) := by decide +kernel
theorem dX0_keepsParent_17 : decode cX0_keepsParent 17 = .ok (.invokevirtual 166, 3) := by decide +kernel
theorem dX0_keepsParent_20 : decode cX0_keepsParent 20 = .ok (.ifCond .ne 5, 3) := by decide +kernel
theorem dX0_keepsParent_23 : decode cX0_keepsParent 23 = .ok (.iconst 0, 1) := by decide +kernel
theorem dX0_keepsParent_24 : decode cX0_keepsParent 24 = .ok (.ireturn, 1) := by decide +kernel
theorem dX0_keepsParent_25 : decode cX0_keepsParent 25 = .ok (.aload_n 0, 1) := by decide +kernel
theorem dX0_keepsParent_26 : decode cX0_keepsParent 26 = .ok (.iload_n 1, 1) := by decide +kernel
theorem dX0_keepsParent_27 : decode cX0_keepsParent 27 = .ok (.iload_n 3, 1) := by decide +kernel
theorem dX0_keepsParent_28 : decode cX0_keepsParent 28 = .ok (.invokevirtual 169, 3) := by decide +kernel
theorem dX0_keepsParent_31 : decode cX0_keepsParent 31 = .ok (.aload_n 0, 1) := by decide +kernel
theorem dX0_keepsParent_32 : decode cX0_keepsParent 32 = .ok (.iload_n 1, 1) := by decide +kernel
theorem dX0_keepsParent_33 : decode cX0_keepsParent 33 = .ok (.iload_n 2, 1) := by decide +kernel
theorem dX0_keepsParent_34 : decode cX0_keepsParent 34 = .ok (.invokevirtual 169, 3) := by decide +kernel
theorem dX0_keepsParent_37 : decode cX0_keepsParent 37 = .ok (.isub, 1) := by decide +kernel
theorem dX0_keepsParent_38 : decode cX0_keepsParent 38 = .ok (.istore 4, 2) := by decide +kernel
theorem dX0_keepsParent_40 : decode cX0_keepsParent 40 = .ok (.iload 4, 2) := by decide +kernel
theorem dX0_keepsParent_42 : decode cX0_keepsParent 42 = .ok (.aload_n 0, 1) := by decide +kernel
theorem dX0_keepsParent_43 : decode cX0_keepsParent 43 = .ok (.getfield 9, 3) := by decide +kernel
theorem dX0_keepsParent_46 : decode cX0_keepsParent 46 = .ok (.if_icmp .lt 9, 3) := by decide +kernel
theorem dX0_keepsParent_49 : decode cX0_keepsParent 49 = .ok (.iload 4, 2) := by decide +kernel
theorem dX0_keepsParent_51 : decode cX0_keepsParent 51 = .ok (.iconst 1, 1) := by decide +kernel
theorem dX0_keepsParent_52 : decode cX0_keepsParent 52 = .ok (.if_icmp .ge 7, 3) := by decide +kernel
theorem dX0_keepsParent_55 : decode cX0_keepsParent 55 = .ok (.iconst 1, 1) := by decide +kernel
theorem dX0_keepsParent_56 : decode cX0_keepsParent 56 = .ok (.goto 4, 3) := by decide +kernel
theorem dX0_keepsParent_59 : decode cX0_keepsParent 59 = .ok (.iconst 0, 1) := by decide +kernel
theorem dX0_keepsParent_60 : decode cX0_keepsParent 60 = .ok (.ireturn, 1) := by decide +kernel
set_option maxRecDepth 20000 in
theorem ggX0_bestCandidate_X0_rankBy : GoodIn wsX0_bestCandidate wsX0_rankBy := goodIn_r _ [5, 6, 7, 31, 32, 33, 34, 35, 36, 37, 38, 39, 40, 41, 42, 43, 44, 45, 46, 47, 48, 49, 50] (by decide +kernel) (by decide +kernel)
set_option maxRecDepth 20000 in
theorem gX0_bestCandidate_X0_rankBy : GoodIn wsX0_bestCandidate (wsV RX0 169 RX0 yX0_rankBy wsX0_rankBy) := goodIn_app (goodIn_of _ (by decide +kernel)) ggX0_bestCandidate_X0_rankBy
set_option maxRecDepth 20000 in
theorem ggX0_bestCandidate_X0_isCandidate : GoodIn wsX0_bestCandidate wsX0_isCandidate := goodIn_r _ [11, 6, 1, 2, 3, 4, 5, 7, 12, 13, 14, 15, 16, 17, 18, 19, 20, 21, 22, 23, 24, 25, 26, 27, 28, 29, 30, 31, 32, 33, 34, 35, 36, 37, 38, 39, 40, 41, 42, 43, 44, 45, 46, 47, 48, 49, 50] (by decide +kernel) (by decide +kernel)
set_option maxRecDepth 20000 in
theorem gX0_bestCandidate_X0_isCandidate : GoodIn wsX0_bestCandidate (wsV RX0 166 RX0 yX0_isCandidate wsX0_isCandidate) := goodIn_app (goodIn_of _ (by decide +kernel)) ggX0_bestCandidate_X0_isCandidate
theorem dX0_bestCandidate_0 : decode cX0_bestCandidate 0 = .ok (.iconst (-1), 1) := by decide +kernel
theorem dX0_bestCandidate_1 : decode cX0_bestCandidate 1 = .ok (.istore_n 2, 1) := by decide +kernel
theorem dX0_bestCandidate_2 : decode cX0_bestCandidate 2 = .ok (.sipush 10000, 3) := by decide +kernel
theorem dX0_bestCandidate_5 : decode cX0_bestCandidate 5 = .ok (.istore_n 3, 1) := by decide +kernel
theorem dX0_bestCandidate_6 : decode cX0_bestCandidate 6 = .ok (.iconst 0, 1) := by decide +kernel
theorem dX0_bestCandidate_7 : decode cX0_bestCandidate 7 = .ok (.istore 4, 2) := by decide +kernel
theorem dX0_bestCandidate_9 : decode cX0_bestCandidate 9 = .ok (.iload 4, 2) := by decide +kernel
theorem dX0_bestCandidate_11 : decode cX0_bestCandidate 11 = .ok (.bipush 10, 2) := by decide +kernel
theorem dX0_bestCandidate_13 : decode cX0_bestCandidate 13 = .ok (.if_icmp .ge 40, 3) := by decide +kernel
theorem dX0_bestCandidate_16 : decode cX0_bestCandidate 16 = .ok (.aload_n 0, 1) := by decide +kernel
theorem dX0_bestCandidate_17 : decode cX0_bestCandidate 17 = .ok (.iload_n 1, 1) := by decide +kernel
theorem dX0_bestCandidate_18 : decode cX0_bestCandidate 18 = .ok (.iload 4, 2) := by decide +kernel
theorem dX0_bestCandidate_20 : decode cX0_bestCandidate 20 = .ok (.invokevirtual 169, 3) := by decide +kernel
theorem dX0_bestCandidate_23 : decode cX0_bestCandidate 23 = .ok (.istore 5, 2) := by decide +kernel
theorem dX0_bestCandidate_25 : decode cX0_bestCandidate 25 = .ok (.iload 5, 2) := by decide +kernel
theorem dX0_bestCandidate_27 : decode cX0_bestCandidate 27 = .ok (.iload_n 3, 1) := by decide +kernel
theorem dX0_bestCandidate_28 : decode cX0_bestCandidate 28 = .ok (.if_icmp .ge 19, 3) := by decide +kernel
theorem dX0_bestCandidate_31 : decode cX0_bestCandidate 31 = .ok (.aload_n 0, 1) := by decide +kernel
theorem dX0_bestCandidate_32 : decode cX0_bestCandidate 32 = .ok (.iload_n 1, 1) := by decide +kernel
theorem dX0_bestCandidate_33 : decode cX0_bestCandidate 33 = .ok (.iload 4, 2) := by decide +kernel
theorem dX0_bestCandidate_35 : decode cX0_bestCandidate 35 = .ok (.invokevirtual 166, 3) := by decide +kernel
theorem dX0_bestCandidate_38 : decode cX0_bestCandidate 38 = .ok (.ifCond .eq 9, 3) := by decide +kernel
theorem dX0_bestCandidate_41 : decode cX0_bestCandidate 41 = .ok (.iload 4, 2) := by decide +kernel
theorem dX0_bestCandidate_43 : decode cX0_bestCandidate 43 = .ok (.istore_n 2, 1) := by decide +kernel
theorem dX0_bestCandidate_44 : decode cX0_bestCandidate 44 = .ok (.iload 5, 2) := by decide +kernel
theorem dX0_bestCandidate_46 : decode cX0_bestCandidate 46 = .ok (.istore_n 3, 1) := by decide +kernel
theorem dX0_bestCandidate_47 : decode cX0_bestCandidate 47 = .ok (.iinc 4 1, 3) := by decide +kernel
theorem dX0_bestCandidate_50 : decode cX0_bestCandidate 50 = .ok (.goto (-41), 3) := by decide +kernel
theorem dX0_bestCandidate_53 : decode cX0_bestCandidate 53 = .ok (.iload_n 2, 1) := by decide +kernel
theorem dX0_bestCandidate_54 : decode cX0_bestCandidate 54 = .ok (.ireturn, 1) := by decide +kernel
set_option maxRecDepth 20000 in
theorem ggX0_isCandidate_X0_rankBy : GoodIn wsX0_isCandidate wsX0_rankBy := goodIn_r _ [6, 1, 7, 27, 28, 29, 30, 31, 32, 33, 34, 35, 36, 37, 38, 39, 40, 41, 42, 43, 44, 45, 46] (by decide +kernel) (by decide +kernel)
set_option maxRecDepth 20000 in
theorem gX0_isCandidate_X0_rankBy : GoodIn wsX0_isCandidate (wsV RX0 169 RX0 yX0_rankBy wsX0_rankBy) := goodIn_app (goodIn_of _ (by decide +kernel)) ggX0_isCandidate_X0_rankBy
set_option maxRecDepth 20000 in
theorem ggX0_isCandidate_X0_isOutdated : GoodIn wsX0_isCandidate wsX0_isOutdated := goodIn_r _ [11, 12, 13, 14, 15, 27, 28, 29, 30, 31, 32, 33, 34, 35, 36, 37, 38, 39, 40, 41, 42, 43, 44, 45, 46] (by decide +kernel) (by decide +kernel)
set_option maxRecDepth 20000 in
theorem gX0_isCandidate_X0_isOutdated : GoodIn wsX0_isCandidate (wsV RX0 172 RX0 yX0_isOutdated wsX0_isOutdated) := goodIn_app (goodIn_of _ (by decide +kernel)) ggX0_isCandidate_X0_isOutdated
set_option maxRecDepth 20000 in
theorem ggX0_isCandidate_X0_isTooDeep : GoodIn wsX0_isCandidate wsX0_isTooDeep := goodIn_r _ [19, 20, 1, 21, 22, 23, 24, 25, 5, 26, 12, 14, 13, 15, 2, 3, 4, 6, 7, 27, 28, 29, 30, 31, 32, 33, 34, 35, 36, 37, 38, 39, 40, 41, 42, 43, 44, 45, 46] (by decide +kernel) (by decide +kernel)
set_option maxRecDepth 20000 in
theorem gX0_isCandidate_X0_isTooDeep : GoodIn wsX0_isCandidate (wsV RX0 175 RX0 yX0_isTooDeep wsX0_isTooDeep) := goodIn_app (goodIn_of _ (by decide +kernel)) ggX0_isCandidate_X0_isTooDeep
theorem dX0_isCandidate_0 : decode cX0_isCandidate 0 = .ok (.aload_n 0, 1) := by decide +kernel
theorem dX0_isCandidate_1 : decode cX0_isCandidate 1 = .ok (.getfield 39, 3) := by decide +kernel
theorem dX0_isCandidate_4 : decode cX0_isCandidate 4 = .ok (.iload_n 1, 1) := by decide +kernel
theorem dX0_isCandidate_5 : decode cX0_isCandidate 5 = .ok (.aaload, 1) := by decide +kernel
theorem dX0_isCandidate_6 : decode cX0_isCandidate 6 = .ok (.iload_n 2, 1) := by decide +kernel
theorem dX0_isCandidate_7 : decode cX0_isCandidate 7 = .ok (.iaload, 1) := by decide +kernel
theorem dX0_isCandidate_8 : decode cX0_isCandidate 8 = .ok (.istore_n 3, 1) := by decide +kernel
theorem dX0_isCandidate_9 : decode cX0_isCandidate 9 = .ok (.iload_n 3, 1) := by decide +kernel
theorem dX0_isCandidate_10 : decode cX0_isCandidate 10 = .ok (.iconst (-1), 1) := by decide +kernel
theorem dX0_isCandidate_11 : decode cX0_isCandidate 11 = .ok (.if_icmp .eq 22, 3) := by decide +kernel
theorem dX0_isCandidate_14 : decode cX0_isCandidate 14 = .ok (.iload_n 3, 1) := by decide +kernel
theorem dX0_isCandidate_15 : decode cX0_isCandidate 15 = .ok (.sipush 10000, 3) := by decide +kernel
theorem dX0_isCandidate_18 : decode cX0_isCandidate 18 = .ok (.if_icmp .ge 15, 3) := by decide +kernel
theorem dX0_isCandidate_21 : decode cX0_isCandidate 21 = .ok (.aload_n 0, 1) := by decide +kernel
theorem dX0_isCandidate_22 : decode cX0_isCandidate 22 = .ok (.iload_n 1, 1) := by decide +kernel
theorem dX0_isCandidate_23 : decode cX0_isCandidate 23 = .ok (.iload_n 2, 1) := by decide +kernel
theorem dX0_isCandidate_24 : decode cX0_isCandidate 24 = .ok (.invokevirtual 169, 3) := by decide +kernel
theorem dX0_isCandidate_27 : decode cX0_isCandidate 27 = .ok (.sipush 10000, 3) := by decide +kernel
theorem dX0_isCandidate_30 : decode cX0_isCandidate 30 = .ok (.if_icmp .lt 5, 3) := by decide +kernel
theorem dX0_isCandidate_33 : decode cX0_isCandidate 33 = .ok (.iconst 0, 1) := by decide +kernel
theorem dX0_isCandidate_34 : decode cX0_isCandidate 34 = .ok (.ireturn, 1) := by decide +kernel
theorem dX0_isCandidate_35 : decode cX0_isCandidate 35 = .ok (.aload_n 0, 1) := by decide +kernel
theorem dX0_isCandidate_36 : decode cX0_isCandidate 36 = .ok (.iload_n 1, 1) := by decide +kernel
theorem dX0_isCandidate_37 : decode cX0_isCandidate 37 = .ok (.iload_n 2, 1) := by decide +kernel
theorem dX0_isCandidate_38 : decode cX0_isCandidate 38 = .ok (.invokevirtual 172, 3) := by decide +kernel
theorem dX0_isCandidate_41 : decode cX0_isCandidate 41 = .ok (.ifCond .ne 16, 3) := by decide +kernel
theorem dX0_isCandidate_44 : decode cX0_isCandidate 44 = .ok (.aload_n 0, 1) := by decide +kernel
theorem dX0_isCandidate_45 : decode cX0_isCandidate 45 = .ok (.iload_n 1, 1) := by decide +kernel
theorem dX0_isCandidate_46 : decode cX0_isCandidate 46 = .ok (.iload_n 2, 1) := by decide +kernel
theorem dX0_isCandidate_47 : decode cX0_isCandidate 47 = .ok (.invokevirtual 175, 3) := by decide +kernel
theorem dX0_isCandidate_50 : decode cX0_isCandidate 50 = .ok (.ifCond .ne 7, 3) := by decide +kernel
theorem dX0_isCandidate_53 : decode cX0_isCandidate 53 = .ok (.iconst 1, 1) := by decide +kernel
theorem dX0_isCandidate_54 : decode cX0_isCandidate 54 = .ok (.goto 4, 3) := by decide +kernel
theorem dX0_isCandidate_57 : decode cX0_isCandidate 57 = .ok (.iconst 0, 1) := by decide +kernel
theorem dX0_isCandidate_58 : decode cX0_isCandidate 58 = .ok (.ireturn, 1) := by decide +kernel
theorem dX0_rankBy_0 : decode cX0_rankBy 0 = .ok (.aload_n 0, 1) := by decide +kernel
theorem dX0_rankBy_1 : decode cX0_rankBy 1 = .ok (.getfield 39, 3) := by decide +kernel
theorem dX0_rankBy_4 : decode cX0_rankBy 4 = .ok (.iload_n 1, 1) := by decide +kernel
theorem dX0_rankBy_5 : decode cX0_rankBy 5 = .ok (.aaload, 1) := by decide +kernel
theorem dX0_rankBy_6 : decode cX0_rankBy 6 = .ok (.iload_n 2, 1) := by decide +kernel
theorem dX0_rankBy_7 : decode cX0_rankBy 7 = .ok (.iaload, 1) := by decide +kernel
theorem dX0_rankBy_8 : decode cX0_rankBy 8 = .ok (.aload_n 0, 1) := by decide +kernel
theorem dX0_rankBy_9 : decode cX0_rankBy 9 = .ok (.getfield 30, 3) := by decide +kernel
theorem dX0_rankBy_12 : decode cX0_rankBy 12 = .ok (.iload_n 1, 1) := by decide +kernel
theorem dX0_rankBy_13 : decode cX0_rankBy 13 = .ok (.aaload, 1) := by decide +kernel
theorem dX0_rankBy_14 : decode cX0_rankBy 14 = .ok (.iload_n 2, 1) := by decide +kernel
theorem dX0_rankBy_15 : decode cX0_rankBy 15 = .ok (.iaload, 1) := by decide +kernel
theorem dX0_rankBy_16 : decode cX0_rankBy 16 = .ok (.iadd, 1) := by decide +kernel
theorem dX0_rankBy_17 : decode cX0_rankBy 17 = .ok (.ireturn, 1) := by decide +kernel
theorem dX0_isOutdated_0 : decode cX0_isOutdated 0 = .ok (.aload_n 0, 1) := by decide +kernel
theorem dX0_isOutdated_1 : decode cX0_isOutdated 1 = .ok (.getfield 33, 3) := by decide +kernel
theorem dX0_isOutdated_4 : decode cX0_isOutdated 4 = .ok (.iload_n 1, 1) := by decide +kernel
theorem dX0_isOutdated_5 : decode cX0_isOutdated 5 = .ok (.aaload, 1) := by decide +kernel
theorem dX0_isOutdated_6 : decode cX0_isOutdated 6 = .ok (.iload_n 2, 1) := by decide +kernel
theorem dX0_isOutdated_7 : decode cX0_isOutdated 7 = .ok (.iaload, 1) := by decide +kernel
theorem dX0_isOutdated_8 : decode cX0_isOutdated 8 = .ok (.istore_n 3, 1) := by decide +kernel
theorem dX0_isOutdated_9 : decode cX0_isOutdated 9 = .ok (.aload_n 0, 1) := by decide +kernel
theorem dX0_isOutdated_10 : decode cX0_isOutdated 10 = .ok (.getfield 36, 3) := by decide +kernel
theorem dX0_isOutdated_13 : decode cX0_isOutdated 13 = .ok (.iload_n 1, 1) := by decide +kernel
theorem dX0_isOutdated_14 : decode cX0_isOutdated 14 = .ok (.aaload, 1) := by decide +kernel
theorem dX0_isOutdated_15 : decode cX0_isOutdated 15 = .ok (.iload_n 2, 1) := by decide +kernel
theorem dX0_isOutdated_16 : decode cX0_isOutdated 16 = .ok (.iaload, 1) := by decide +kernel
theorem dX0_isOutdated_17 : decode cX0_isOutdated 17 = .ok (.istore 4, 2) := by decide +kernel
theorem dX0_isOutdated_19 : decode cX0_isOutdated 19 = .ok (.aload_n 0, 1) := by decide +kernel
theorem dX0_isOutdated_20 : decode cX0_isOutdated 20 = .ok (.getfield 50, 3) := by decide +kernel
theorem dX0_isOutdated_23 : decode cX0_isOutdated 23 = .ok (.iload_n 1, 1) := by decide +kernel
theorem dX0_isOutdated_24 : decode cX0_isOutdated 24 = .ok (.iaload, 1) := by decide +kernel
theorem dX0_isOutdated_25 : decode cX0_isOutdated 25 = .ok (.iload_n 3, 1) := by decide +kernel
theorem dX0_isOutdated_26 : decode cX0_isOutdated 26 = .ok (.if_icmp .ne 16, 3) := by decide +kernel
theorem dX0_isOutdated_29 : decode cX0_isOutdated 29 = .ok (.aload_n 0, 1) := by decide +kernel
theorem dX0_isOutdated_30 : decode cX0_isOutdated 30 = .ok (.getfield 53, 3) := by decide +kernel
theorem dX0_isOutdated_33 : decode cX0_isOutdated 33 = .ok (.iload_n 1, 1) := by decide +kernel
theorem dX0_isOutdated_34 : decode cX0_isOutdated 34 = .ok (.iaload, 1) := by decide +kernel
theorem dX0_isOutdated_35 : decode cX0_isOutdated 35 = .ok (.iload 4, 2) := by decide +kernel
theorem dX0_isOutdated_37 : decode cX0_isOutdated 37 = .ok (.if_icmp .le 5, 3) := by decide +kernel
theorem dX0_isOutdated_40 : decode cX0_isOutdated 40 = .ok (.iconst 1, 1) := by decide +kernel
theorem dX0_isOutdated_41 : decode cX0_isOutdated 41 = .ok (.ireturn, 1) := by decide +kernel
theorem dX0_isOutdated_42 : decode cX0_isOutdated 42 = .ok (.iconst 0, 1) := by decide +kernel
theorem dX0_isOutdated_43 : decode cX0_isOutdated 43 = .ok (.istore 5, 2) := by decide +kernel
theorem dX0_isOutdated_45 : decode cX0_isOutdated 45 = .ok (.iload 5, 2) := by decide +kernel
theorem dX0_isOutdated_47 : decode cX0_isOutdated 47 = .ok (.bipush 10, 2) := by decide +kernel
theorem dX0_isOutdated_49 : decode cX0_isOutdated 49 = .ok (.if_icmp .ge 38, 3) := by decide +kernel
theorem dX0_isOutdated_52 : decode cX0_isOutdated 52 = .ok (.aload_n 0, 1) := by decide +kernel
theorem dX0_isOutdated_53 : decode cX0_isOutdated 53 = .ok (.getfield 33, 3) := by decide +kernel
theorem dX0_isOutdated_56 : decode cX0_isOutdated 56 = .ok (.iload_n 1, 1) := by decide +kernel
theorem dX0_isOutdated_57 : decode cX0_isOutdated 57 = .ok (.aaload, 1) := by decide +kernel
theorem dX0_isOutdated_58 : decode cX0_isOutdated 58 = .ok (.iload 5, 2) := by decide +kernel
theorem dX0_isOutdated_60 : decode cX0_isOutdated 60 = .ok (.iaload, 1) := by decide +kernel
theorem dX0_isOutdated_61 : decode cX0_isOutdated 61 = .ok (.iload_n 3, 1) := by decide +kernel
theorem dX0_isOutdated_62 : decode cX0_isOutdated 62 = .ok (.if_icmp .ne 19, 3) := by decide +kernel
theorem dX0_isOutdated_65 : decode cX0_isOutdated 65 = .ok (.aload_n 0, 1) := by decide +kernel
theorem dX0_isOutdated_66 : decode cX0_isOutdated 66 = .ok (.getfield 36, 3) := by decide +kernel
theorem dX0_isOutdated_69 : decode cX0_isOutdated 69 = .ok (.iload_n 1, 1) := by decide +kernel
theorem dX0_isOutdated_70 : decode cX0_isOutdated 70 = .ok (.aaload, 1) := by decide +kernel
theorem dX0_isOutdated_71 : decode cX0_isOutdated 71 = .ok (.iload 5, 2) := by decide +kernel
theorem dX0_isOutdated_73 : decode cX0_isOutdated 73 = .ok (.iaload, 1) := by decide +kernel
theorem dX0_isOutdated_74 : decode cX0_isOutdated 74 = .ok (.iload 4, 2) := by decide +kernel
theorem dX0_isOutdated_76 : decode cX0_isOutdated 76 = .ok (.if_icmp .le 5, 3) := by decide +kernel
theorem dX0_isOutdated_79 : decode cX0_isOutdated 79 = .ok (.iconst 1, 1) := by decide +kernel
theorem dX0_isOutdated_80 : decode cX0_isOutdated 80 = .ok (.ireturn, 1) := by decide +kernel
theorem dX0_isOutdated_81 : decode cX0_isOutdated 81 = .ok (.iinc 5 1, 3) := by decide +kernel
theorem dX0_isOutdated_84 : decode cX0_isOutdated 84 = .ok (.goto (-39), 3) := by decide +kernel
theorem dX0_isOutdated_87 : decode cX0_isOutdated 87 = .ok (.iconst 0, 1) := by decide +kernel
theorem dX0_isOutdated_88 : decode cX0_isOutdated 88 = .ok (.ireturn, 1) := by decide +kernel
set_option maxRecDepth 20000 in
theorem ggX0_isTooDeep_X0_heardOwnVersion : GoodIn wsX0_isTooDeep wsX0_heardOwnVersion := goodIn_r _ [9, 10, 11, 12, 13, 19, 20, 21, 22, 23, 24, 25, 26, 27, 28, 29, 30, 31, 32, 33, 34, 35, 36, 37, 38] (by decide +kernel) (by decide +kernel)
set_option maxRecDepth 20000 in
theorem gX0_isTooDeep_X0_heardOwnVersion : GoodIn wsX0_isTooDeep (wsV RX0 178 RX0 yX0_heardOwnVersion wsX0_heardOwnVersion) := goodIn_app (goodIn_of _ (by decide +kernel)) ggX0_isTooDeep_X0_heardOwnVersion
set_option maxRecDepth 20000 in
theorem ggX0_isTooDeep_X0_rankBy : GoodIn wsX0_isTooDeep wsX0_rankBy := goodIn_r _ [17, 2, 18, 19, 20, 21, 22, 23, 24, 25, 26, 27, 28, 29, 30, 31, 32, 33, 34, 35, 36, 37, 38] (by decide +kernel) (by decide +kernel)
set_option maxRecDepth 20000 in
theorem gX0_isTooDeep_X0_rankBy : GoodIn wsX0_isTooDeep (wsV RX0 169 RX0 yX0_rankBy wsX0_rankBy) := goodIn_app (goodIn_of _ (by decide +kernel)) ggX0_isTooDeep_X0_rankBy
theorem dX0_isTooDeep_0 : decode cX0_isTooDeep 0 = .ok (.aload_n 0, 1) := by decide +kernel
theorem dX0_isTooDeep_1 : decode cX0_isTooDeep 1 = .ok (.iload_n 1, 1) := by decide +kernel
theorem dX0_isTooDeep_2 : decode cX0_isTooDeep 2 = .ok (.iload_n 2, 1) := by decide +kernel
theorem dX0_isTooDeep_3 : decode cX0_isTooDeep 3 = .ok (.invokevirtual 178, 3) := by decide +kernel
theorem dX0_isTooDeep_6 : decode cX0_isTooDeep 6 = .ok (.ifCond .eq 15, 3) := by decide +kernel
theorem dX0_isTooDeep_9 : decode cX0_isTooDeep 9 = .ok (.aload_n 0, 1) := by decide +kernel
theorem dX0_isTooDeep_10 : decode cX0_isTooDeep 10 = .ok (.getfield 56, 3) := by decide +kernel
theorem dX0_isTooDeep_13 : decode cX0_isTooDeep 13 = .ok (.iload_n 1, 1) := by decide +kernel
theorem dX0_isTooDeep_14 : decode cX0_isTooDeep 14 = .ok (.iaload, 1) := by decide +kernel
theorem dX0_isTooDeep_15 : decode cX0_isTooDeep 15 = .ok (.sipush 10000, 3) := by decide +kernel
theorem dX0_isTooDeep_18 : decode cX0_isTooDeep 18 = .ok (.if_icmp .ne 5, 3) := by decide +kernel
theorem dX0_isTooDeep_21 : decode cX0_isTooDeep 21 = .ok (.iconst 0, 1) := by decide +kernel
theorem dX0_isTooDeep_22 : decode cX0_isTooDeep 22 = .ok (.ireturn, 1) := by decide +kernel
theorem dX0_isTooDeep_23 : decode cX0_isTooDeep 23 = .ok (.aload_n 0, 1) := by decide +kernel
theorem dX0_isTooDeep_24 : decode cX0_isTooDeep 24 = .ok (.getfield 39, 3) := by decide +kernel
theorem dX0_isTooDeep_27 : decode cX0_isTooDeep 27 = .ok (.iload_n 1, 1) := by decide +kernel
theorem dX0_isTooDeep_28 : decode cX0_isTooDeep 28 = .ok (.aaload, 1) := by decide +kernel
theorem dX0_isTooDeep_29 : decode cX0_isTooDeep 29 = .ok (.iload_n 2, 1) := by decide +kernel
theorem dX0_isTooDeep_30 : decode cX0_isTooDeep 30 = .ok (.iaload, 1) := by decide +kernel
theorem dX0_isTooDeep_31 : decode cX0_isTooDeep 31 = .ok (.aload_n 0, 1) := by decide +kernel
theorem dX0_isTooDeep_32 : decode cX0_isTooDeep 32 = .ok (.getfield 56, 3) := by decide +kernel
theorem dX0_isTooDeep_35 : decode cX0_isTooDeep 35 = .ok (.iload_n 1, 1) := by decide +kernel
theorem dX0_isTooDeep_36 : decode cX0_isTooDeep 36 = .ok (.iaload, 1) := by decide +kernel
theorem dX0_isTooDeep_37 : decode cX0_isTooDeep 37 = .ok (.if_icmp .ge 23, 3) := by decide +kernel
theorem dX0_isTooDeep_40 : decode cX0_isTooDeep 40 = .ok (.aload_n 0, 1) := by decide +kernel
theorem dX0_isTooDeep_41 : decode cX0_isTooDeep 41 = .ok (.iload_n 1, 1) := by decide +kernel
theorem dX0_isTooDeep_42 : decode cX0_isTooDeep 42 = .ok (.iload_n 2, 1) := by decide +kernel
theorem dX0_isTooDeep_43 : decode cX0_isTooDeep 43 = .ok (.invokevirtual 169, 3) := by decide +kernel
theorem dX0_isTooDeep_46 : decode cX0_isTooDeep 46 = .ok (.aload_n 0, 1) := by decide +kernel
theorem dX0_isTooDeep_47 : decode cX0_isTooDeep 47 = .ok (.getfield 59, 3) := by decide +kernel
theorem dX0_isTooDeep_50 : decode cX0_isTooDeep 50 = .ok (.iload_n 1, 1) := by decide +kernel
theorem dX0_isTooDeep_51 : decode cX0_isTooDeep 51 = .ok (.iaload, 1) := by decide +kernel
theorem dX0_isTooDeep_52 : decode cX0_isTooDeep 52 = .ok (.aload_n 0, 1) := by decide +kernel
theorem dX0_isTooDeep_53 : decode cX0_isTooDeep 53 = .ok (.getfield 13, 3) := by decide +kernel
theorem dX0_isTooDeep_56 : decode cX0_isTooDeep 56 = .ok (.iadd, 1) := by decide +kernel
theorem dX0_isTooDeep_57 : decode cX0_isTooDeep 57 = .ok (.if_icmp .le 7, 3) := by decide +kernel
theorem dX0_isTooDeep_60 : decode cX0_isTooDeep 60 = .ok (.iconst 1, 1) := by decide +kernel
theorem dX0_isTooDeep_61 : decode cX0_isTooDeep 61 = .ok (.goto 4, 3) := by decide +kernel
theorem dX0_isTooDeep_64 : decode cX0_isTooDeep 64 = .ok (.iconst 0, 1) := by decide +kernel
theorem dX0_isTooDeep_65 : decode cX0_isTooDeep 65 = .ok (.ireturn, 1) := by decide +kernel
theorem dX0_heardOwnVersion_0 : decode cX0_heardOwnVersion 0 = .ok (.aload_n 0, 1) := by decide +kernel
theorem dX0_heardOwnVersion_1 : decode cX0_heardOwnVersion 1 = .ok (.getfield 33, 3) := by decide +kernel
theorem dX0_heardOwnVersion_4 : decode cX0_heardOwnVersion 4 = .ok (.iload_n 1, 1) := by decide +kernel
theorem dX0_heardOwnVersion_5 : decode cX0_heardOwnVersion 5 = .ok (.aaload, 1) := by decide +kernel
theorem dX0_heardOwnVersion_6 : decode cX0_heardOwnVersion 6 = .ok (.iload_n 2, 1) := by decide +kernel
theorem dX0_heardOwnVersion_7 : decode cX0_heardOwnVersion 7 = .ok (.iaload, 1) := by decide +kernel
theorem dX0_heardOwnVersion_8 : decode cX0_heardOwnVersion 8 = .ok (.aload_n 0, 1) := by decide +kernel
theorem dX0_heardOwnVersion_9 : decode cX0_heardOwnVersion 9 = .ok (.getfield 50, 3) := by decide +kernel
theorem dX0_heardOwnVersion_12 : decode cX0_heardOwnVersion 12 = .ok (.iload_n 1, 1) := by decide +kernel
theorem dX0_heardOwnVersion_13 : decode cX0_heardOwnVersion 13 = .ok (.iaload, 1) := by decide +kernel
theorem dX0_heardOwnVersion_14 : decode cX0_heardOwnVersion 14 = .ok (.if_icmp .ne 24, 3) := by decide +kernel
theorem dX0_heardOwnVersion_17 : decode cX0_heardOwnVersion 17 = .ok (.aload_n 0, 1) := by decide +kernel
theorem dX0_heardOwnVersion_18 : decode cX0_heardOwnVersion 18 = .ok (.getfield 36, 3) := by decide +kernel
theorem dX0_heardOwnVersion_21 : decode cX0_heardOwnVersion 21 = .ok (.iload_n 1, 1) := by decide +kernel
theorem dX0_heardOwnVersion_22 : decode cX0_heardOwnVersion 22 = .ok (.aaload, 1) := by decide +kernel
theorem dX0_heardOwnVersion_23 : decode cX0_heardOwnVersion 23 = .ok (.iload_n 2, 1) := by decide +kernel
theorem dX0_heardOwnVersion_24 : decode cX0_heardOwnVersion 24 = .ok (.iaload, 1) := by decide +kernel
theorem dX0_heardOwnVersion_25 : decode cX0_heardOwnVersion 25 = .ok (.aload_n 0, 1) := by decide +kernel
theorem dX0_heardOwnVersion_26 : decode cX0_heardOwnVersion 26 = .ok (.getfield 53, 3) := by decide +kernel
theorem dX0_heardOwnVersion_29 : decode cX0_heardOwnVersion 29 = .ok (.iload_n 1, 1) := by decide +kernel
theorem dX0_heardOwnVersion_30 : decode cX0_heardOwnVersion 30 = .ok (.iaload, 1) := by decide +kernel
theorem dX0_heardOwnVersion_31 : decode cX0_heardOwnVersion 31 = .ok (.if_icmp .ne 7, 3) := by decide +kernel
theorem dX0_heardOwnVersion_34 : decode cX0_heardOwnVersion 34 = .ok (.iconst 1, 1) := by decide +kernel
theorem dX0_heardOwnVersion_35 : decode cX0_heardOwnVersion 35 = .ok (.goto 4, 3) := by decide +kernel
theorem dX0_heardOwnVersion_38 : decode cX0_heardOwnVersion 38 = .ok (.iconst 0, 1) := by decide +kernel
theorem dX0_heardOwnVersion_39 : decode cX0_heardOwnVersion 39 = .ok (.ireturn, 1) := by decide +kernel
set_option maxRecDepth 20000 in
theorem ggX0_follow_X0_rankBy : GoodIn wsX0_follow wsX0_rankBy := goodIn_r _ [16, 17, 18, 31, 32, 33, 34, 35, 36, 37, 38, 39, 40, 41, 42, 43, 44, 45, 46, 47, 48, 49, 50] (by decide +kernel) (by decide +kernel)
set_option maxRecDepth 20000 in
theorem gX0_follow_X0_rankBy : GoodIn wsX0_follow (wsV RX0 169 RX0 yX0_rankBy wsX0_rankBy) := goodIn_app (goodIn_of _ (by decide +kernel)) ggX0_follow_X0_rankBy
set_option maxRecDepth 20000 in
theorem ggX0_follow_X0_heardOwnVersion : GoodIn wsX0_follow wsX0_heardOwnVersion := goodIn_r _ [22, 9, 8, 11, 10, 31, 32, 33, 34, 35, 36, 37, 38, 39, 40, 41, 42, 43, 44, 45, 46, 47, 48, 49, 50] (by decide +kernel) (by decide +kernel)
set_option maxRecDepth 20000 in
theorem gX0_follow_X0_heardOwnVersion : GoodIn wsX0_follow (wsV RX0 178 RX0 yX0_heardOwnVersion wsX0_heardOwnVersion) := goodIn_app (goodIn_of _ (by decide +kernel)) ggX0_follow_X0_heardOwnVersion
set_option maxRecDepth 20000 in
theorem ggX0_follow_X0_resetTimer : GoodIn wsX0_follow wsX0_resetTimer := goodIn_r _ [26, 27, 28, 29, 30, 31, 32, 33, 34, 35, 36, 37, 38, 39, 40, 41, 42, 43, 44, 45, 46, 47, 48, 49, 50] (by decide +kernel) (by decide +kernel)
set_option maxRecDepth 20000 in
theorem gX0_follow_X0_resetTimer : GoodIn wsX0_follow (wsV RX0 78 RX0 yX0_resetTimer wsX0_resetTimer) := goodIn_app (goodIn_of _ (by decide +kernel)) ggX0_follow_X0_resetTimer
theorem dX0_follow_0 : decode cX0_follow 0 = .ok (.aload_n 0, 1) := by decide +kernel
theorem dX0_follow_1 : decode cX0_follow 1 = .ok (.iload_n 1, 1) := by decide +kernel
theorem dX0_follow_2 : decode cX0_follow 2 = .ok (.iload_n 2, 1) := by decide +kernel
theorem dX0_follow_3 : decode cX0_follow 3 = .ok (.invokevirtual 169, 3) := by decide +kernel
theorem dX0_follow_6 : decode cX0_follow 6 = .ok (.istore_n 3, 1) := by decide +kernel
theorem dX0_follow_7 : decode cX0_follow 7 = .ok (.aload_n 0, 1) := by decide +kernel
theorem dX0_follow_8 : decode cX0_follow 8 = .ok (.iload_n 1, 1) := by decide +kernel
theorem dX0_follow_9 : decode cX0_follow 9 = .ok (.iload_n 2, 1) := by decide +kernel
theorem dX0_follow_10 : decode cX0_follow 10 = .ok (.invokevirtual 178, 3) := by decide +kernel
theorem dX0_follow_13 : decode cX0_follow 13 = .ok (.istore 4, 2) := by decide +kernel
theorem dX0_follow_15 : decode cX0_follow 15 = .ok (.iload 4, 2) := by decide +kernel
theorem dX0_follow_17 : decode cX0_follow 17 = .ok (.ifCond .eq 27, 3) := by decide +kernel
theorem dX0_follow_20 : decode cX0_follow 20 = .ok (.iload_n 3, 1) := by decide +kernel
theorem dX0_follow_21 : decode cX0_follow 21 = .ok (.aload_n 0, 1) := by decide +kernel
theorem dX0_follow_22 : decode cX0_follow 22 = .ok (.getfield 56, 3) := by decide +kernel
theorem dX0_follow_25 : decode cX0_follow 25 = .ok (.iload_n 1, 1) := by decide +kernel
theorem dX0_follow_26 : decode cX0_follow 26 = .ok (.iaload, 1) := by decide +kernel
theorem dX0_follow_27 : decode cX0_follow 27 = .ok (.if_icmp .ne 17, 3) := by decide +kernel
theorem dX0_follow_30 : decode cX0_follow 30 = .ok (.iload_n 2, 1) := by decide +kernel
theorem dX0_follow_31 : decode cX0_follow 31 = .ok (.aload_n 0, 1) := by decide +kernel
theorem dX0_follow_32 : decode cX0_follow 32 = .ok (.getfield 62, 3) := by decide +kernel
theorem dX0_follow_35 : decode cX0_follow 35 = .ok (.iload_n 1, 1) := by decide +kernel
theorem dX0_follow_36 : decode cX0_follow 36 = .ok (.iaload, 1) := by decide +kernel
theorem dX0_follow_37 : decode cX0_follow 37 = .ok (.if_icmp .ne 7, 3) := by decide +kernel
theorem dX0_follow_40 : decode cX0_follow 40 = .ok (.iconst 1, 1) := by decide +kernel
theorem dX0_follow_41 : decode cX0_follow 41 = .ok (.goto 4, 3) := by decide +kernel
theorem dX0_follow_44 : decode cX0_follow 44 = .ok (.iconst 0, 1) := by decide +kernel
theorem dX0_follow_45 : decode cX0_follow 45 = .ok (.istore 5, 2) := by decide +kernel
theorem dX0_follow_47 : decode cX0_follow 47 = .ok (.aload_n 0, 1) := by decide +kernel
theorem dX0_follow_48 : decode cX0_follow 48 = .ok (.getfield 59, 3) := by decide +kernel
theorem dX0_follow_51 : decode cX0_follow 51 = .ok (.iload_n 1, 1) := by decide +kernel
theorem dX0_follow_52 : decode cX0_follow 52 = .ok (.iload 4, 2) := by decide +kernel
theorem dX0_follow_54 : decode cX0_follow 54 = .ok (.ifCond .eq 16, 3) := by decide +kernel
theorem dX0_follow_57 : decode cX0_follow 57 = .ok (.iload_n 3, 1) := by decide +kernel
theorem dX0_follow_58 : decode cX0_follow 58 = .ok (.aload_n 0, 1) := by decide +kernel
theorem dX0_follow_59 : decode cX0_follow 59 = .ok (.getfield 59, 3) := by decide +kernel
theorem dX0_follow_62 : decode cX0_follow 62 = .ok (.iload_n 1, 1) := by decide +kernel
theorem dX0_follow_63 : decode cX0_follow 63 = .ok (.iaload, 1) := by decide +kernel
theorem dX0_follow_64 : decode cX0_follow 64 = .ok (.invokestatic 141, 3) := by decide +kernel
theorem dX0_follow_67 : decode cX0_follow 67 = .ok (.goto 4, 3) := by decide +kernel
theorem dX0_follow_70 : decode cX0_follow 70 = .ok (.iload_n 3, 1) := by decide +kernel
theorem dX0_follow_71 : decode cX0_follow 71 = .ok (.iastore, 1) := by decide +kernel
theorem dX0_follow_72 : decode cX0_follow 72 = .ok (.aload_n 0, 1) := by decide +kernel
theorem dX0_follow_73 : decode cX0_follow 73 = .ok (.getfield 50, 3) := by decide +kernel
theorem dX0_follow_76 : decode cX0_follow 76 = .ok (.iload_n 1, 1) := by decide +kernel
theorem dX0_follow_77 : decode cX0_follow 77 = .ok (.aload_n 0, 1) := by decide +kernel
theorem dX0_follow_78 : decode cX0_follow 78 = .ok (.getfield 33, 3) := by decide +kernel
theorem dX0_follow_81 : decode cX0_follow 81 = .ok (.iload_n 1, 1) := by decide +kernel
theorem dX0_follow_82 : decode cX0_follow 82 = .ok (.aaload, 1) := by decide +kernel
theorem dX0_follow_83 : decode cX0_follow 83 = .ok (.iload_n 2, 1) := by decide +kernel
theorem dX0_follow_84 : decode cX0_follow 84 = .ok (.iaload, 1) := by decide +kernel
theorem dX0_follow_85 : decode cX0_follow 85 = .ok (.iastore, 1) := by decide +kernel
theorem dX0_follow_86 : decode cX0_follow 86 = .ok (.aload_n 0, 1) := by decide +kernel
theorem dX0_follow_87 : decode cX0_follow 87 = .ok (.getfield 53, 3) := by decide +kernel
theorem dX0_follow_90 : decode cX0_follow 90 = .ok (.iload_n 1, 1) := by decide +kernel
theorem dX0_follow_91 : decode cX0_follow 91 = .ok (.aload_n 0, 1) := by decide +kernel
theorem dX0_follow_92 : decode cX0_follow 92 = .ok (.getfield 36, 3) := by decide +kernel
theorem dX0_follow_95 : decode cX0_follow 95 = .ok (.iload_n 1, 1) := by decide +kernel
theorem dX0_follow_96 : decode cX0_follow 96 = .ok (.aaload, 1) := by decide +kernel
theorem dX0_follow_97 : decode cX0_follow 97 = .ok (.iload_n 2, 1) := by decide +kernel
theorem dX0_follow_98 : decode cX0_follow 98 = .ok (.iaload, 1) := by decide +kernel
theorem dX0_follow_99 : decode cX0_follow 99 = .ok (.iastore, 1) := by decide +kernel
theorem dX0_follow_100 : decode cX0_follow 100 = .ok (.aload_n 0, 1) := by decide +kernel
theorem dX0_follow_101 : decode cX0_follow 101 = .ok (.getfield 56, 3) := by decide +kernel
theorem dX0_follow_104 : decode cX0_follow 104 = .ok (.iload_n 1, 1) := by decide +kernel
theorem dX0_follow_105 : decode cX0_follow 105 = .ok (.iload_n 3, 1) := by decide +kernel
theorem dX0_follow_106 : decode cX0_follow 106 = .ok (.iastore, 1) := by decide +kernel
theorem dX0_follow_107 : decode cX0_follow 107 = .ok (.aload_n 0, 1) := by decide +kernel
theorem dX0_follow_108 : decode cX0_follow 108 = .ok (.getfield 62, 3) := by decide +kernel
theorem dX0_follow_111 : decode cX0_follow 111 = .ok (.iload_n 1, 1) := by decide +kernel
theorem dX0_follow_112 : decode cX0_follow 112 = .ok (.iload_n 2, 1) := by decide +kernel
theorem dX0_follow_113 : decode cX0_follow 113 = .ok (.iastore, 1) := by decide +kernel
theorem dX0_follow_114 : decode cX0_follow 114 = .ok (.iload 5, 2) := by decide +kernel
theorem dX0_follow_116 : decode cX0_follow 116 = .ok (.ifCond .ne 8, 3) := by decide +kernel
theorem dX0_follow_119 : decode cX0_follow 119 = .ok (.aload_n 0, 1) := by decide +kernel
theorem dX0_follow_120 : decode cX0_follow 120 = .ok (.iload_n 1, 1) := by decide +kernel
theorem dX0_follow_121 : decode cX0_follow 121 = .ok (.invokevirtual 78, 3) := by decide +kernel
theorem dX0_follow_124 : decode cX0_follow 124 = .ok (.return_, 1) := by decide +kernel
set_option maxRecDepth 20000 in
theorem ggX0_loseParent_X0_resetTimer : GoodIn wsX0_loseParent wsX0_resetTimer := goodIn_r _ [7, 8, 9, 10, 11, 12, 13, 14, 15, 16, 17, 18, 19, 20, 21, 22, 23, 24, 25, 26, 27, 28, 29, 30, 31] (by decide +kernel) (by decide +kernel)
set_option maxRecDepth 20000 in
theorem gX0_loseParent_X0_resetTimer : GoodIn wsX0_loseParent (wsV RX0 78 RX0 yX0_resetTimer wsX0_resetTimer) := goodIn_app (goodIn_of _ (by decide +kernel)) ggX0_loseParent_X0_resetTimer
theorem dX0_loseParent_0 : decode cX0_loseParent 0 = .ok (.aload_n 0, 1) := by decide +kernel
theorem dX0_loseParent_1 : decode cX0_loseParent 1 = .ok (.getfield 56, 3) := by decide +kernel
theorem dX0_loseParent_4 : decode cX0_loseParent 4 = .ok (.iload_n 1, 1) := by decide +kernel
theorem dX0_loseParent_5 : decode cX0_loseParent 5 = .ok (.iaload, 1) := by decide +kernel
theorem dX0_loseParent_6 : decode cX0_loseParent 6 = .ok (.sipush 10000, 3) := by decide +kernel
theorem dX0_loseParent_9 : decode cX0_loseParent 9 = .ok (.if_icmp .ne 17, 3) := by decide +kernel
theorem dX0_loseParent_12 : decode cX0_loseParent 12 = .ok (.aload_n 0, 1) := by decide +kernel
theorem dX0_loseParent_13 : decode cX0_loseParent 13 = .ok (.getfield 62, 3) := by decide +kernel
theorem dX0_loseParent_16 : decode cX0_loseParent 16 = .ok (.iload_n 1, 1) := by decide +kernel
theorem dX0_loseParent_17 : decode cX0_loseParent 17 = .ok (.iaload, 1) := by decide +kernel
theorem dX0_loseParent_18 : decode cX0_loseParent 18 = .ok (.iconst (-1), 1) := by decide +kernel
theorem dX0_loseParent_19 : decode cX0_loseParent 19 = .ok (.if_icmp .ne 7, 3) := by decide +kernel
theorem dX0_loseParent_22 : decode cX0_loseParent 22 = .ok (.iconst 1, 1) := by decide +kernel
theorem dX0_loseParent_23 : decode cX0_loseParent 23 = .ok (.goto 4, 3) := by decide +kernel
theorem dX0_loseParent_26 : decode cX0_loseParent 26 = .ok (.iconst 0, 1) := by decide +kernel
theorem dX0_loseParent_27 : decode cX0_loseParent 27 = .ok (.istore_n 2, 1) := by decide +kernel
theorem dX0_loseParent_28 : decode cX0_loseParent 28 = .ok (.aload_n 0, 1) := by decide +kernel
theorem dX0_loseParent_29 : decode cX0_loseParent 29 = .ok (.getfield 56, 3) := by decide +kernel
theorem dX0_loseParent_32 : decode cX0_loseParent 32 = .ok (.iload_n 1, 1) := by decide +kernel
theorem dX0_loseParent_33 : decode cX0_loseParent 33 = .ok (.sipush 10000, 3) := by decide +kernel
theorem dX0_loseParent_36 : decode cX0_loseParent 36 = .ok (.iastore, 1) := by decide +kernel
theorem dX0_loseParent_37 : decode cX0_loseParent 37 = .ok (.aload_n 0, 1) := by decide +kernel
theorem dX0_loseParent_38 : decode cX0_loseParent 38 = .ok (.getfield 62, 3) := by decide +kernel
theorem dX0_loseParent_41 : decode cX0_loseParent 41 = .ok (.iload_n 1, 1) := by decide +kernel
theorem dX0_loseParent_42 : decode cX0_loseParent 42 = .ok (.iconst (-1), 1) := by decide +kernel
theorem dX0_loseParent_43 : decode cX0_loseParent 43 = .ok (.iastore, 1) := by decide +kernel
theorem dX0_loseParent_44 : decode cX0_loseParent 44 = .ok (.iload_n 2, 1) := by decide +kernel
theorem dX0_loseParent_45 : decode cX0_loseParent 45 = .ok (.ifCond .ne 8, 3) := by decide +kernel
theorem dX0_loseParent_48 : decode cX0_loseParent 48 = .ok (.aload_n 0, 1) := by decide +kernel
theorem dX0_loseParent_49 : decode cX0_loseParent 49 = .ok (.iload_n 1, 1) := by decide +kernel
theorem dX0_loseParent_50 : decode cX0_loseParent 50 = .ok (.invokevirtual 78, 3) := by decide +kernel
theorem dX0_loseParent_53 : decode cX0_loseParent 53 = .ok (.return_, 1) := by decide +kernel
end
section
theorem dX1_init_0 : decode cX1_init 0 = .ok (.aload_n 0, 1) := by decide +kernel
theorem dX1_init_1 : decode cX1_init 1 = .ok (.invokespecial 1, 3) := by decide +kernel
theorem dX1_init_4 : decode cX1_init 4 = .ok (.aload_n 0, 1) := by decide +kernel
theorem dX1_init_5 : decode cX1_init 5 = .ok (.sipush 10000, 3) := by decide +kernel
theorem dX1_init_8 : decode cX1_init 8 = .ok (.putfield 7, 3) := by decide +kernel
theorem dX1_init_11 : decode cX1_init 11 = .ok (.aload_n 0, 1) := by decide +kernel
theorem dX1_init_12 : decode cX1_init 12 = .ok (.iconst 1, 1) := by decide +kernel
theorem dX1_init_13 : decode cX1_init 13 = .ok (.putfield 13, 3) := by decide +kernel
theorem dX1_init_16 : decode cX1_init 16 = .ok (.aload_n 0, 1) := by decide +kernel
theorem dX1_init_17 : decode cX1_init 17 = .ok (.iconst 4, 1) := by decide +kernel
theorem dX1_init_18 : decode cX1_init 18 = .ok (.putfield 16, 3) := by decide +kernel
theorem dX1_init_21 : decode cX1_init 21 = .ok (.aload_n 0, 1) := by decide +kernel
theorem dX1_init_22 : decode cX1_init 22 = .ok (.bipush 100, 2) := by decide +kernel
theorem dX1_init_24 : decode cX1_init 24 = .ok (.newarray .int, 2) := by decide +kernel
theorem dX1_init_26 : decode cX1_init 26 = .ok (.putfield 19, 3) := by decide +kernel
theorem dX1_init_29 : decode cX1_init 29 = .ok (.aload_n 0, 1) := by decide +kernel
theorem dX1_init_30 : decode cX1_init 30 = .ok (.bipush 10, 2) := by decide +kernel
theorem dX1_init_32 : decode cX1_init 32 = .ok (.newarray .boolean, 2) := by decide +kernel
theorem dX1_init_34 : decode cX1_init 34 = .ok (.putfield 23, 3) := by decide +kernel
theorem dX1_init_37 : decode cX1_init 37 = .ok (.aload_n 0, 1) := by decide +kernel
theorem dX1_init_38 : decode cX1_init 38 = .ok (.bipush 10, 2) := by decide +kernel
theorem dX1_init_40 : decode cX1_init 40 = .ok (.newarray .int, 2) := by decide +kernel
theorem dX1_init_42 : decode cX1_init 42 = .ok (.putfield 27, 3) := by decide +kernel
theorem dX1_init_45 : decode cX1_init 45 = .ok (.aload_n 0, 1) := by decide +kernel
theorem dX1_init_46 : decode cX1_init 46 = .ok (.bipush 10, 2) := by decide +kernel
theorem dX1_init_48 : decode cX1_init 48 = .ok (.newarray .int, 2) := by decide +kernel
theorem dX1_init_50 : decode cX1_init 50 = .ok (.putfield 30, 3) := by decide +kernel
theorem dX1_init_53 : decode cX1_init 53 = .ok (.aload_n 0, 1) := by decide +kernel
theorem dX1_init_54 : decode cX1_init 54 = .ok (.bipush 10, 2) := by decide +kernel
theorem dX1_init_56 : decode cX1_init 56 = .ok (.newarray .int, 2) := by decide +kernel
theorem dX1_init_58 : decode cX1_init 58 = .ok (.putfield 33, 3) := by decide +kernel
theorem dX1_init_61 : decode cX1_init 61 = .ok (.aload_n 0, 1) := by decide +kernel
theorem dX1_init_62 : decode cX1_init 62 = .ok (.bipush 10, 2) := by decide +kernel
theorem dX1_init_64 : decode cX1_init 64 = .ok (.newarray .int, 2) := by decide +kernel
theorem dX1_init_66 : decode cX1_init 66 = .ok (.putfield 36, 3) := by decide +kernel
theorem dX1_init_69 : decode cX1_init 69 = .ok (.aload_n 0, 1) := by decide +kernel
theorem dX1_init_70 : decode cX1_init 70 = .ok (.bipush 10, 2) := by decide +kernel
theorem dX1_init_72 : decode cX1_init 72 = .ok (.newarray .int, 2) := by decide +kernel
theorem dX1_init_74 : decode cX1_init 74 = .ok (.putfield 39, 3) := by decide +kernel
theorem dX1_init_77 : decode cX1_init 77 = .ok (.aload_n 0, 1) := by decide +kernel
theorem dX1_init_78 : decode cX1_init 78 = .ok (.bipush 10, 2) := by decide +kernel
theorem dX1_init_80 : decode cX1_init 80 = .ok (.newarray .int, 2) := by decide +kernel
theorem dX1_init_82 : decode cX1_init 82 = .ok (.putfield 42, 3) := by decide +kernel
theorem dX1_init_85 : decode cX1_init 85 = .ok (.aload_n 0, 1) := by decide +kernel
theorem dX1_init_86 : decode cX1_init 86 = .ok (.bipush 10, 2) := by decide +kernel
theorem dX1_init_88 : decode cX1_init 88 = .ok (.newarray .int, 2) := by decide +kernel
theorem dX1_init_90 : decode cX1_init 90 = .ok (.putfield 45, 3) := by decide +kernel
theorem dX1_init_93 : decode cX1_init 93 = .ok (.aload_n 0, 1) := by decide +kernel
theorem dX1_init_94 : decode cX1_init 94 = .ok (.bipush 10, 2) := by decide +kernel
theorem dX1_init_96 : decode cX1_init 96 = .ok (.newarray .int, 2) := by decide +kernel
theorem dX1_init_98 : decode cX1_init 98 = .ok (.putfield 48, 3) := by decide +kernel
theorem dX1_init_101 : decode cX1_init 101 = .ok (.aload_n 0, 1) := by decide +kernel
theorem dX1_init_102 : decode cX1_init 102 = .ok (.bipush 100, 2) := by decide +kernel
theorem dX1_init_104 : decode cX1_init 104 = .ok (.newarray .int, 2) := by decide +kernel
theorem dX1_init_106 : decode cX1_init 106 = .ok (.putfield 51, 3) := by decide +kernel
theorem dX1_init_109 : decode cX1_init 109 = .ok (.aload_n 0, 1) := by decide +kernel
theorem dX1_init_110 : decode cX1_init 110 = .ok (.bipush 100, 2) := by decide +kernel
theorem dX1_init_112 : decode cX1_init 112 = .ok (.newarray .int, 2) := by decide +kernel
theorem dX1_init_114 : decode cX1_init 114 = .ok (.putfield 54, 3) := by decide +kernel
theorem dX1_init_117 : decode cX1_init 117 = .ok (.aload_n 0, 1) := by decide +kernel
theorem dX1_init_118 : decode cX1_init 118 = .ok (.bipush 100, 2) := by decide +kernel
theorem dX1_init_120 : decode cX1_init 120 = .ok (.newarray .int, 2) := by decide +kernel
theorem dX1_init_122 : decode cX1_init 122 = .ok (.putfield 57, 3) := by decide +kernel
theorem dX1_init_125 : decode cX1_init 125 = .ok (.aload_n 0, 1) := by decide +kernel
theorem dX1_init_126 : decode cX1_init 126 = .ok (.bipush 10, 2) := by decide +kernel
theorem dX1_init_128 : decode cX1_init 128 = .ok (.newarray .int, 2) := by decide +kernel
theorem dX1_init_130 : decode cX1_init 130 = .ok (.putfield 60, 3) := by decide +kernel
theorem dX1_init_133 : decode cX1_init 133 = .ok (.iconst 0, 1) := by decide +kernel
theorem dX1_init_134 : decode cX1_init 134 = .ok (.istore_n 1, 1) := by decide +kernel
theorem dX1_init_135 : decode cX1_init 135 = .ok (.iload_n 1, 1) := by decide +kernel
theorem dX1_init_136 : decode cX1_init 136 = .ok (.bipush 10, 2) := by decide +kernel
theorem dX1_init_138 : decode cX1_init 138 = .ok (.if_icmp .ge 46, 3) := by decide +kernel
theorem dX1_init_141 : decode cX1_init 141 = .ok (.aload_n 0, 1) := by decide +kernel
theorem dX1_init_142 : decode cX1_init 142 = .ok (.getfield 30, 3) := by decide +kernel
theorem dX1_init_145 : decode cX1_init 145 = .ok (.iload_n 1, 1) := by decide +kernel
theorem dX1_init_146 : decode cX1_init 146 = .ok (.iconst (-1), 1) := by decide +kernel
theorem dX1_init_147 : decode cX1_init 147 = .ok (.iastore, 1) := by decide +kernel
theorem dX1_init_148 : decode cX1_init 148 = .ok (.aload_n 0, 1) := by decide +kernel
theorem dX1_init_149 : decode cX1_init 149 = .ok (.getfield 36, 3) := by decide +kernel
theorem dX1_init_152 : decode cX1_init 152 = .ok (.iload_n 1, 1) := by decide +kernel
theorem dX1_init_153 : decode cX1_init 153 = .ok (.sipush 10000, 3) := by decide +kernel
theorem dX1_init_156 : decode cX1_init 156 = .ok (.iastore, 1) := by decide +kernel
theorem dX1_init_157 : decode cX1_init 157 = .ok (.aload_n 0, 1) := by decide +kernel
theorem dX1_init_158 : decode cX1_init 158 = .ok (.getfield 39, 3) := by decide +kernel
theorem dX1_init_161 : decode cX1_init 161 = .ok (.iload_n 1, 1) := by decide +kernel
theorem dX1_init_162 : decode cX1_init 162 = .ok (.iconst (-1), 1) := by decide +kernel
theorem dX1_init_163 : decode cX1_init 163 = .ok (.iastore, 1) := by decide +kernel
theorem dX1_init_164 : decode cX1_init 164 = .ok (.aload_n 0, 1) := by decide +kernel
theorem dX1_init_165 : decode cX1_init 165 = .ok (.getfield 45, 3) := by decide +kernel
theorem dX1_init_168 : decode cX1_init 168 = .ok (.iload_n 1, 1) := by decide +kernel
theorem dX1_init_169 : decode cX1_init 169 = .ok (.iconst 1, 1) := by decide +kernel
theorem dX1_init_170 : decode cX1_init 170 = .ok (.iastore, 1) := by decide +kernel
theorem dX1_init_171 : decode cX1_init 171 = .ok (.aload_n 0, 1) := by decide +kernel
theorem dX1_init_172 : decode cX1_init 172 = .ok (.getfield 48, 3) := by decide +kernel
theorem dX1_init_175 : decode cX1_init 175 = .ok (.iload_n 1, 1) := by decide +kernel
theorem dX1_init_176 : decode cX1_init 176 = .ok (.iconst 1, 1) := by decide +kernel
theorem dX1_init_177 : decode cX1_init 177 = .ok (.iastore, 1) := by decide +kernel
theorem dX1_init_178 : decode cX1_init 178 = .ok (.iinc 1 1, 3) := by decide +kernel
theorem dX1_init_181 : decode cX1_init 181 = .ok (.goto (-46), 3) := by decide +kernel
theorem dX1_init_184 : decode cX1_init 184 = .ok (.iconst 0, 1) := by decide +kernel
theorem dX1_init_185 : decode cX1_init 185 = .ok (.istore_n 1, 1) := by decide +kernel
theorem dX1_init_186 : decode cX1_init 186 = .ok (.iload_n 1, 1) := by decide +kernel
theorem dX1_init_187 : decode cX1_init 187 = .ok (.bipush 100, 2) := by decide +kernel
theorem dX1_init_189 : decode cX1_init 189 = .ok (.if_icmp .ge 16, 3) := by decide +kernel
theorem dX1_init_192 : decode cX1_init 192 = .ok (.aload_n 0, 1) := by decide +kernel
theorem dX1_init_193 : decode cX1_init 193 = .ok (.getfield 57, 3) := by decide +kernel
theorem dX1_init_196 : decode cX1_init 196 = .ok (.iload_n 1, 1) := by decide +kernel
theorem dX1_init_197 : decode cX1_init 197 = .ok (.iconst (-1), 1) := by decide +kernel
theorem dX1_init_198 : decode cX1_init 198 = .ok (.iastore, 1) := by decide +kernel
theorem dX1_init_199 : decode cX1_init 199 = .ok (.iinc 1 1, 3) := by decide +kernel
theorem dX1_init_202 : decode cX1_init 202 = .ok (.goto (-16), 3) := by decide +kernel
theorem dX1_init_205 : decode cX1_init 205 = .ok (.return_, 1) := by decide +kernel
theorem dX1_thrown_0 : decode cX1_thrown 0 = .ok (.aload_n 0, 1) := by decide +kernel
theorem dX1_thrown_1 : decode cX1_thrown 1 = .ok (.getfield 63, 3) := by decide +kernel
theorem dX1_thrown_4 : decode cX1_thrown 4 = .ok (.ireturn, 1) := by decide +kernel
theorem dX1_fails_0 : decode cX1_fails 0 = .ok (.aload_n 0, 1) := by decide +kernel
theorem dX1_fails_1 : decode cX1_fails 1 = .ok (.iload_n 1, 1) := by decide +kernel
theorem dX1_fails_2 : decode cX1_fails 2 = .ok (.putfield 63, 3) := by decide +kernel
theorem dX1_fails_5 : decode cX1_fails 5 = .ok (.iload_n 1, 1) := by decide +kernel
theorem dX1_fails_6 : decode cX1_fails 6 = .ok (.ifCond .le 7, 3) := by decide +kernel
theorem dX1_fails_9 : decode cX1_fails 9 = .ok (.iconst 1, 1) := by decide +kernel
theorem dX1_fails_10 : decode cX1_fails 10 = .ok (.goto 4, 3) := by decide +kernel
theorem dX1_fails_13 : decode cX1_fails 13 = .ok (.iconst 0, 1) := by decide +kernel
theorem dX1_fails_14 : decode cX1_fails 14 = .ok (.ireturn, 1) := by decide +kernel
theorem dX1_isIn_0 : decode cX1_isIn 0 = .ok (.iload_n 0, 1) := by decide +kernel
theorem dX1_isIn_1 : decode cX1_isIn 1 = .ok (.iload_n 1, 1) := by decide +kernel
theorem dX1_isIn_2 : decode cX1_isIn 2 = .ok (.if_icmp .lt 12, 3) := by decide +kernel
theorem dX1_isIn_5 : decode cX1_isIn 5 = .ok (.iload_n 0, 1) := by decide +kernel
theorem dX1_isIn_6 : decode cX1_isIn 6 = .ok (.iload_n 2, 1) := by decide +kernel
theorem dX1_isIn_7 : decode cX1_isIn 7 = .ok (.if_icmp .gt 7, 3) := by decide +kernel
theorem dX1_isIn_10 : decode cX1_isIn 10 = .ok (.iconst 1, 1) := by decide +kernel
theorem dX1_isIn_11 : decode cX1_isIn 11 = .ok (.goto 4, 3) := by decide +kernel
theorem dX1_isIn_14 : decode cX1_isIn 14 = .ok (.iconst 0, 1) := by decide +kernel
theorem dX1_isIn_15 : decode cX1_isIn 15 = .ok (.ireturn, 1) := by decide +kernel
set_option maxRecDepth 20000 in
theorem ggX1_isNode_X1_isIn : GoodIn wsX1_isNode wsX1_isIn := goodIn_r _ [4] (by decide +kernel) (by decide +kernel)
set_option maxRecDepth 20000 in
theorem gX1_isNode_X1_isIn : GoodIn wsX1_isNode (va_wsS RX1 66 yX1_isIn wsX1_isIn) := goodIn_app (goodIn_of _ (by decide +kernel)) ggX1_isNode_X1_isIn
theorem dX1_isNode_0 : decode cX1_isNode 0 = .ok (.iload_n 0, 1) := by decide +kernel
theorem dX1_isNode_1 : decode cX1_isNode 1 = .ok (.iconst 0, 1) := by decide +kernel
theorem dX1_isNode_2 : decode cX1_isNode 2 = .ok (.bipush 9, 2) := by decide +kernel
theorem dX1_isNode_4 : decode cX1_isNode 4 = .ok (.invokestatic 66, 3) := by decide +kernel
theorem dX1_isNode_7 : decode cX1_isNode 7 = .ok (.ireturn, 1) := by decide +kernel
theorem dX1_resets_0 : decode cX1_resets 0 = .ok (.aload_n 0, 1) := by decide +kernel
theorem dX1_resets_1 : decode cX1_resets 1 = .ok (.getfield 45, 3) := by decide +kernel
theorem dX1_resets_4 : decode cX1_resets 4 = .ok (.iload_n 1, 1) := by decide +kernel
theorem dX1_resets_5 : decode cX1_resets 5 = .ok (.aload_n 0, 1) := by decide +kernel
theorem dX1_resets_6 : decode cX1_resets 6 = .ok (.getfield 13, 3) := by decide +kernel
theorem dX1_resets_9 : decode cX1_resets 9 = .ok (.iastore, 1) := by decide +kernel
theorem dX1_resets_10 : decode cX1_resets 10 = .ok (.aload_n 0, 1) := by decide +kernel
theorem dX1_resets_11 : decode cX1_resets 11 = .ok (.getfield 48, 3) := by decide +kernel
theorem dX1_resets_14 : decode cX1_resets 14 = .ok (.iload_n 1, 1) := by decide +kernel
theorem dX1_resets_15 : decode cX1_resets 15 = .ok (.aload_n 0, 1) := by decide +kernel
theorem dX1_resets_16 : decode cX1_resets 16 = .ok (.getfield 70, 3) := by decide +kernel
theorem dX1_resets_19 : decode cX1_resets 19 = .ok (.aload_n 0, 1) := by decide +kernel
theorem dX1_resets_20 : decode cX1_resets 20 = .ok (.getfield 13, 3) := by decide +kernel
theorem dX1_resets_23 : decode cX1_resets 23 = .ok (.iadd, 1) := by decide +kernel
theorem dX1_resets_24 : decode cX1_resets 24 = .ok (.iastore, 1) := by decide +kernel
theorem dX1_resets_25 : decode cX1_resets 25 = .ok (.return_, 1) := by decide +kernel
theorem dX1_rankBy_0 : decode cX1_rankBy 0 = .ok (.aload_n 0, 1) := by decide +kernel
theorem dX1_rankBy_1 : decode cX1_rankBy 1 = .ok (.getfield 57, 3) := by decide +kernel
theorem dX1_rankBy_4 : decode cX1_rankBy 4 = .ok (.bipush 10, 2) := by decide +kernel
theorem dX1_rankBy_6 : decode cX1_rankBy 6 = .ok (.iload_n 1, 1) := by decide +kernel
theorem dX1_rankBy_7 : decode cX1_rankBy 7 = .ok (.imul, 1) := by decide +kernel
theorem dX1_rankBy_8 : decode cX1_rankBy 8 = .ok (.iload_n 2, 1) := by decide +kernel
theorem dX1_rankBy_9 : decode cX1_rankBy 9 = .ok (.iadd, 1) := by decide +kernel
theorem dX1_rankBy_10 : decode cX1_rankBy 10 = .ok (.iaload, 1) := by decide +kernel
theorem dX1_rankBy_11 : decode cX1_rankBy 11 = .ok (.aload_n 0, 1) := by decide +kernel
theorem dX1_rankBy_12 : decode cX1_rankBy 12 = .ok (.getfield 19, 3) := by decide +kernel
theorem dX1_rankBy_15 : decode cX1_rankBy 15 = .ok (.bipush 10, 2) := by decide +kernel
theorem dX1_rankBy_17 : decode cX1_rankBy 17 = .ok (.iload_n 1, 1) := by decide +kernel
theorem dX1_rankBy_18 : decode cX1_rankBy 18 = .ok (.imul, 1) := by decide +kernel
theorem dX1_rankBy_19 : decode cX1_rankBy 19 = .ok (.iload_n 2, 1) := by decide +kernel
theorem dX1_rankBy_20 : decode cX1_rankBy 20 = .ok (.iadd, 1) := by decide +kernel
theorem dX1_rankBy_21 : decode cX1_rankBy 21 = .ok (.iaload, 1) := by decide +kernel
theorem dX1_rankBy_22 : decode cX1_rankBy 22 = .ok (.iadd, 1) := by decide +kernel
theorem dX1_rankBy_23 : decode cX1_rankBy 23 = .ok (.ireturn, 1) := by decide +kernel
set_option maxRecDepth 20000 in
theorem ggX1_isCandidate_X1_isIn : GoodIn wsX1_isCandidate wsX1_isIn := goodIn_r _ [12] (by decide +kernel) (by decide +kernel)
set_option maxRecDepth 20000 in
theorem gX1_isCandidate_X1_isIn : GoodIn wsX1_isCandidate (va_wsS RX1 66 yX1_isIn wsX1_isIn) := goodIn_app (goodIn_of _ (by decide +kernel)) ggX1_isCandidate_X1_isIn
set_option maxRecDepth 20000 in
theorem ggX1_isCandidate_X1_rankBy : GoodIn wsX1_isCandidate wsX1_rankBy := goodIn_r _ [16, 1, 17, 18, 19, 20, 21, 22, 23, 24, 25, 26, 27, 28, 29, 30, 31, 32, 33, 34, 35, 36, 37, 38] (by decide +kernel) (by decide +kernel)
set_option maxRecDepth 20000 in
theorem gX1_isCandidate_X1_rankBy : GoodIn wsX1_isCandidate (wsV RX1 73 RX1 yX1_rankBy wsX1_rankBy) := goodIn_app (goodIn_of _ (by decide +kernel)) ggX1_isCandidate_X1_rankBy
theorem dX1_isCandidate_0 : decode cX1_isCandidate 0 = .ok (.bipush 10, 2) := by decide +kernel
theorem dX1_isCandidate_2 : decode cX1_isCandidate 2 = .ok (.iload_n 1, 1) := by decide +kernel
theorem dX1_isCandidate_3 : decode cX1_isCandidate 3 = .ok (.imul, 1) := by decide +kernel
theorem dX1_isCandidate_4 : decode cX1_isCandidate 4 = .ok (.iload_n 2, 1) := by decide +kernel
theorem dX1_isCandidate_5 : decode cX1_isCandidate 5 = .ok (.iadd, 1) := by decide +kernel
theorem dX1_isCandidate_6 : decode cX1_isCandidate 6 = .ok (.istore_n 3, 1) := by decide +kernel
theorem dX1_isCandidate_7 : decode cX1_isCandidate 7 = .ok (.aload_n 0, 1) := by decide +kernel
theorem dX1_isCandidate_8 : decode cX1_isCandidate 8 = .ok (.getfield 57, 3) := by decide +kernel
theorem dX1_isCandidate_11 : decode cX1_isCandidate 11 = .ok (.iload_n 3, 1) := by decide +kernel
theorem dX1_isCandidate_12 : decode cX1_isCandidate 12 = .ok (.iaload, 1) := by decide +kernel
theorem dX1_isCandidate_13 : decode cX1_isCandidate 13 = .ok (.iconst 0, 1) := by decide +kernel
theorem dX1_isCandidate_14 : decode cX1_isCandidate 14 = .ok (.sipush 9999, 3) := by decide +kernel
theorem dX1_isCandidate_17 : decode cX1_isCandidate 17 = .ok (.invokestatic 66, 3) := by decide +kernel
theorem dX1_isCandidate_20 : decode cX1_isCandidate 20 = .ok (.ifCond .eq 15, 3) := by decide +kernel
theorem dX1_isCandidate_23 : decode cX1_isCandidate 23 = .ok (.aload_n 0, 1) := by decide +kernel
theorem dX1_isCandidate_24 : decode cX1_isCandidate 24 = .ok (.iload_n 1, 1) := by decide +kernel
theorem dX1_isCandidate_25 : decode cX1_isCandidate 25 = .ok (.iload_n 2, 1) := by decide +kernel
theorem dX1_isCandidate_26 : decode cX1_isCandidate 26 = .ok (.invokevirtual 73, 3) := by decide +kernel
theorem dX1_isCandidate_29 : decode cX1_isCandidate 29 = .ok (.sipush 10000, 3) := by decide +kernel
theorem dX1_isCandidate_32 : decode cX1_isCandidate 32 = .ok (.if_icmp .lt 5, 3) := by decide +kernel
theorem dX1_isCandidate_35 : decode cX1_isCandidate 35 = .ok (.iconst 0, 1) := by decide +kernel
theorem dX1_isCandidate_36 : decode cX1_isCandidate 36 = .ok (.ireturn, 1) := by decide +kernel
theorem dX1_isCandidate_37 : decode cX1_isCandidate 37 = .ok (.aload_n 0, 1) := by decide +kernel
theorem dX1_isCandidate_38 : decode cX1_isCandidate 38 = .ok (.getfield 51, 3) := by decide +kernel
theorem dX1_isCandidate_41 : decode cX1_isCandidate 41 = .ok (.iload_n 3, 1) := by decide +kernel
theorem dX1_isCandidate_42 : decode cX1_isCandidate 42 = .ok (.iaload, 1) := by decide +kernel
theorem dX1_isCandidate_43 : decode cX1_isCandidate 43 = .ok (.aload_n 0, 1) := by decide +kernel
theorem dX1_isCandidate_44 : decode cX1_isCandidate 44 = .ok (.getfield 30, 3) := by decide +kernel
theorem dX1_isCandidate_47 : decode cX1_isCandidate 47 = .ok (.iload_n 1, 1) := by decide +kernel
theorem dX1_isCandidate_48 : decode cX1_isCandidate 48 = .ok (.iaload, 1) := by decide +kernel
theorem dX1_isCandidate_49 : decode cX1_isCandidate 49 = .ok (.if_icmp .ne 7, 3) := by decide +kernel
theorem dX1_isCandidate_52 : decode cX1_isCandidate 52 = .ok (.iconst 1, 1) := by decide +kernel
theorem dX1_isCandidate_53 : decode cX1_isCandidate 53 = .ok (.goto 4, 3) := by decide +kernel
theorem dX1_isCandidate_56 : decode cX1_isCandidate 56 = .ok (.iconst 0, 1) := by decide +kernel
theorem dX1_isCandidate_57 : decode cX1_isCandidate 57 = .ok (.istore 4, 2) := by decide +kernel
theorem dX1_isCandidate_59 : decode cX1_isCandidate 59 = .ok (.iload 4, 2) := by decide +kernel
theorem dX1_isCandidate_61 : decode cX1_isCandidate 61 = .ok (.ifCond .eq 18, 3) := by decide +kernel
theorem dX1_isCandidate_64 : decode cX1_isCandidate 64 = .ok (.aload_n 0, 1) := by decide +kernel
theorem dX1_isCandidate_65 : decode cX1_isCandidate 65 = .ok (.getfield 54, 3) := by decide +kernel
theorem dX1_isCandidate_68 : decode cX1_isCandidate 68 = .ok (.iload_n 3, 1) := by decide +kernel
theorem dX1_isCandidate_69 : decode cX1_isCandidate 69 = .ok (.iaload, 1) := by decide +kernel
theorem dX1_isCandidate_70 : decode cX1_isCandidate 70 = .ok (.aload_n 0, 1) := by decide +kernel
theorem dX1_isCandidate_71 : decode cX1_isCandidate 71 = .ok (.getfield 33, 3) := by decide +kernel
theorem dX1_isCandidate_74 : decode cX1_isCandidate 74 = .ok (.iload_n 1, 1) := by decide +kernel
theorem dX1_isCandidate_75 : decode cX1_isCandidate 75 = .ok (.iaload, 1) := by decide +kernel
theorem dX1_isCandidate_76 : decode cX1_isCandidate 76 = .ok (.if_icmp .lt 7, 3) := by decide +kernel
theorem dX1_isCandidate_79 : decode cX1_isCandidate 79 = .ok (.iconst 1, 1) := by decide +kernel
theorem dX1_isCandidate_80 : decode cX1_isCandidate 80 = .ok (.goto 4, 3) := by decide +kernel
theorem dX1_isCandidate_83 : decode cX1_isCandidate 83 = .ok (.iconst 0, 1) := by decide +kernel
theorem dX1_isCandidate_84 : decode cX1_isCandidate 84 = .ok (.istore 5, 2) := by decide +kernel
theorem dX1_isCandidate_86 : decode cX1_isCandidate 86 = .ok (.bipush 10, 2) := by decide +kernel
theorem dX1_isCandidate_88 : decode cX1_isCandidate 88 = .ok (.iload_n 1, 1) := by decide +kernel
theorem dX1_isCandidate_89 : decode cX1_isCandidate 89 = .ok (.imul, 1) := by decide +kernel
theorem dX1_isCandidate_90 : decode cX1_isCandidate 90 = .ok (.istore 6, 2) := by decide +kernel
theorem dX1_isCandidate_92 : decode cX1_isCandidate 92 = .ok (.iload 6, 2) := by decide +kernel
theorem dX1_isCandidate_94 : decode cX1_isCandidate 94 = .ok (.bipush 10, 2) := by decide +kernel
theorem dX1_isCandidate_96 : decode cX1_isCandidate 96 = .ok (.iload_n 1, 1) := by decide +kernel
theorem dX1_isCandidate_97 : decode cX1_isCandidate 97 = .ok (.imul, 1) := by decide +kernel
theorem dX1_isCandidate_98 : decode cX1_isCandidate 98 = .ok (.bipush 10, 2) := by decide +kernel
theorem dX1_isCandidate_100 : decode cX1_isCandidate 100 = .ok (.iadd, 1) := by decide +kernel
theorem dX1_isCandidate_101 : decode cX1_isCandidate 101 = .ok (.if_icmp .ge 76, 3) := by decide +kernel
theorem dX1_isCandidate_104 : decode cX1_isCandidate 104 = .ok (.aload_n 0, 1) := by decide +kernel
theorem dX1_isCandidate_105 : decode cX1_isCandidate 105 = .ok (.getfield 57, 3) := by decide +kernel
theorem dX1_isCandidate_108 : decode cX1_isCandidate 108 = .ok (.iload 6, 2) := by decide +kernel
theorem dX1_isCandidate_110 : decode cX1_isCandidate 110 = .ok (.iaload, 1) := by decide +kernel
theorem dX1_isCandidate_111 : decode cX1_isCandidate 111 = .ok (.iconst (-1), 1) := by decide +kernel
theorem dX1_isCandidate_112 : decode cX1_isCandidate 112 = .ok (.if_icmp .eq 23, 3) := by decide +kernel
theorem dX1_isCandidate_115 : decode cX1_isCandidate 115 = .ok (.aload_n 0, 1) := by decide +kernel
theorem dX1_isCandidate_116 : decode cX1_isCandidate 116 = .ok (.getfield 51, 3) := by decide +kernel
theorem dX1_isCandidate_119 : decode cX1_isCandidate 119 = .ok (.iload 6, 2) := by decide +kernel
theorem dX1_isCandidate_121 : decode cX1_isCandidate 121 = .ok (.iaload, 1) := by decide +kernel
theorem dX1_isCandidate_122 : decode cX1_isCandidate 122 = .ok (.aload_n 0, 1) := by decide +kernel
theorem dX1_isCandidate_123 : decode cX1_isCandidate 123 = .ok (.getfield 51, 3) := by decide +kernel
theorem dX1_isCandidate_126 : decode cX1_isCandidate 126 = .ok (.iload_n 3, 1) := by decide +kernel
theorem dX1_isCandidate_127 : decode cX1_isCandidate 127 = .ok (.iaload, 1) := by decide +kernel
theorem dX1_isCandidate_128 : decode cX1_isCandidate 128 = .ok (.if_icmp .ne 7, 3) := by decide +kernel
theorem dX1_isCandidate_131 : decode cX1_isCandidate 131 = .ok (.iconst 1, 1) := by decide +kernel
theorem dX1_isCandidate_132 : decode cX1_isCandidate 132 = .ok (.goto 4, 3) := by decide +kernel
theorem dX1_isCandidate_135 : decode cX1_isCandidate 135 = .ok (.iconst 0, 1) := by decide +kernel
theorem dX1_isCandidate_136 : decode cX1_isCandidate 136 = .ok (.istore 7, 2) := by decide +kernel
theorem dX1_isCandidate_138 : decode cX1_isCandidate 138 = .ok (.iload 5, 2) := by decide +kernel
theorem dX1_isCandidate_140 : decode cX1_isCandidate 140 = .ok (.ifCond .eq 28, 3) := by decide +kernel
theorem dX1_isCandidate_143 : decode cX1_isCandidate 143 = .ok (.iload 7, 2) := by decide +kernel
theorem dX1_isCandidate_145 : decode cX1_isCandidate 145 = .ok (.ifCond .eq 19, 3) := by decide +kernel
theorem dX1_isCandidate_148 : decode cX1_isCandidate 148 = .ok (.aload_n 0, 1) := by decide +kernel
theorem dX1_isCandidate_149 : decode cX1_isCandidate 149 = .ok (.getfield 54, 3) := by decide +kernel
theorem dX1_isCandidate_152 : decode cX1_isCandidate 152 = .ok (.iload 6, 2) := by decide +kernel
theorem dX1_isCandidate_154 : decode cX1_isCandidate 154 = .ok (.iaload, 1) := by decide +kernel
theorem dX1_isCandidate_155 : decode cX1_isCandidate 155 = .ok (.aload_n 0, 1) := by decide +kernel
theorem dX1_isCandidate_156 : decode cX1_isCandidate 156 = .ok (.getfield 54, 3) := by decide +kernel
theorem dX1_isCandidate_159 : decode cX1_isCandidate 159 = .ok (.iload_n 3, 1) := by decide +kernel
theorem dX1_isCandidate_160 : decode cX1_isCandidate 160 = .ok (.iaload, 1) := by decide +kernel
theorem dX1_isCandidate_161 : decode cX1_isCandidate 161 = .ok (.if_icmp .gt 7, 3) := by decide +kernel
theorem dX1_isCandidate_164 : decode cX1_isCandidate 164 = .ok (.iconst 1, 1) := by decide +kernel
theorem dX1_isCandidate_165 : decode cX1_isCandidate 165 = .ok (.goto 4, 3) := by decide +kernel
theorem dX1_isCandidate_168 : decode cX1_isCandidate 168 = .ok (.iconst 0, 1) := by decide +kernel
theorem dX1_isCandidate_169 : decode cX1_isCandidate 169 = .ok (.istore 5, 2) := by decide +kernel
theorem dX1_isCandidate_171 : decode cX1_isCandidate 171 = .ok (.iinc 6 1, 3) := by decide +kernel
theorem dX1_isCandidate_174 : decode cX1_isCandidate 174 = .ok (.goto (-82), 3) := by decide +kernel
theorem dX1_isCandidate_177 : decode cX1_isCandidate 177 = .ok (.iload 4, 2) := by decide +kernel
theorem dX1_isCandidate_179 : decode cX1_isCandidate 179 = .ok (.ifCond .eq 77, 3) := by decide +kernel
theorem dX1_isCandidate_182 : decode cX1_isCandidate 182 = .ok (.aload_n 0, 1) := by decide +kernel
theorem dX1_isCandidate_183 : decode cX1_isCandidate 183 = .ok (.getfield 54, 3) := by decide +kernel
theorem dX1_isCandidate_186 : decode cX1_isCandidate 186 = .ok (.iload_n 3, 1) := by decide +kernel
theorem dX1_isCandidate_187 : decode cX1_isCandidate 187 = .ok (.iaload, 1) := by decide +kernel
theorem dX1_isCandidate_188 : decode cX1_isCandidate 188 = .ok (.aload_n 0, 1) := by decide +kernel
theorem dX1_isCandidate_189 : decode cX1_isCandidate 189 = .ok (.getfield 33, 3) := by decide +kernel
theorem dX1_isCandidate_192 : decode cX1_isCandidate 192 = .ok (.iload_n 1, 1) := by decide +kernel
theorem dX1_isCandidate_193 : decode cX1_isCandidate 193 = .ok (.iaload, 1) := by decide +kernel
theorem dX1_isCandidate_194 : decode cX1_isCandidate 194 = .ok (.if_icmp .ne 62, 3) := by decide +kernel
theorem dX1_isCandidate_197 : decode cX1_isCandidate 197 = .ok (.aload_n 0, 1) := by decide +kernel
theorem dX1_isCandidate_198 : decode cX1_isCandidate 198 = .ok (.getfield 36, 3) := by decide +kernel
theorem dX1_isCandidate_201 : decode cX1_isCandidate 201 = .ok (.iload_n 1, 1) := by decide +kernel
theorem dX1_isCandidate_202 : decode cX1_isCandidate 202 = .ok (.iaload, 1) := by decide +kernel
theorem dX1_isCandidate_203 : decode cX1_isCandidate 203 = .ok (.sipush 10000, 3) := by decide +kernel
theorem dX1_isCandidate_206 : decode cX1_isCandidate 206 = .ok (.if_icmp .ge 50, 3) := by decide +kernel
theorem dX1_isCandidate_209 : decode cX1_isCandidate 209 = .ok (.iload 5, 2) := by decide +kernel
theorem dX1_isCandidate_211 : decode cX1_isCandidate 211 = .ok (.ifCond .eq 42, 3) := by decide +kernel
theorem dX1_isCandidate_214 : decode cX1_isCandidate 214 = .ok (.aload_n 0, 1) := by decide +kernel
theorem dX1_isCandidate_215 : decode cX1_isCandidate 215 = .ok (.getfield 57, 3) := by decide +kernel
theorem dX1_isCandidate_218 : decode cX1_isCandidate 218 = .ok (.iload_n 3, 1) := by decide +kernel
theorem dX1_isCandidate_219 : decode cX1_isCandidate 219 = .ok (.iaload, 1) := by decide +kernel
theorem dX1_isCandidate_220 : decode cX1_isCandidate 220 = .ok (.aload_n 0, 1) := by decide +kernel
theorem dX1_isCandidate_221 : decode cX1_isCandidate 221 = .ok (.getfield 36, 3) := by decide +kernel
theorem dX1_isCandidate_224 : decode cX1_isCandidate 224 = .ok (.iload_n 1, 1) := by decide +kernel
theorem dX1_isCandidate_225 : decode cX1_isCandidate 225 = .ok (.iaload, 1) := by decide +kernel
theorem dX1_isCandidate_226 : decode cX1_isCandidate 226 = .ok (.if_icmp .ge 27, 3) := by decide +kernel
theorem dX1_isCandidate_229 : decode cX1_isCandidate 229 = .ok (.aload_n 0, 1) := by decide +kernel
theorem dX1_isCandidate_230 : decode cX1_isCandidate 230 = .ok (.iload_n 1, 1) := by decide +kernel
theorem dX1_isCandidate_231 : decode cX1_isCandidate 231 = .ok (.iload_n 2, 1) := by decide +kernel
theorem dX1_isCandidate_232 : decode cX1_isCandidate 232 = .ok (.invokevirtual 73, 3) := by decide +kernel
theorem dX1_isCandidate_235 : decode cX1_isCandidate 235 = .ok (.aload_n 0, 1) := by decide +kernel
theorem dX1_isCandidate_236 : decode cX1_isCandidate 236 = .ok (.getfield 42, 3) := by decide +kernel
theorem dX1_isCandidate_239 : decode cX1_isCandidate 239 = .ok (.iload_n 1, 1) := by decide +kernel
theorem dX1_isCandidate_240 : decode cX1_isCandidate 240 = .ok (.iaload, 1) := by decide +kernel
theorem dX1_isCandidate_241 : decode cX1_isCandidate 241 = .ok (.aload_n 0, 1) := by decide +kernel
theorem dX1_isCandidate_242 : decode cX1_isCandidate 242 = .ok (.getfield 7, 3) := by decide +kernel
theorem dX1_isCandidate_245 : decode cX1_isCandidate 245 = .ok (.iadd, 1) := by decide +kernel
theorem dX1_isCandidate_246 : decode cX1_isCandidate 246 = .ok (.if_icmp .gt 7, 3) := by decide +kernel
theorem dX1_isCandidate_249 : decode cX1_isCandidate 249 = .ok (.iconst 1, 1) := by decide +kernel
theorem dX1_isCandidate_250 : decode cX1_isCandidate 250 = .ok (.goto 4, 3) := by decide +kernel
theorem dX1_isCandidate_253 : decode cX1_isCandidate 253 = .ok (.iconst 0, 1) := by decide +kernel
theorem dX1_isCandidate_254 : decode cX1_isCandidate 254 = .ok (.istore 5, 2) := by decide +kernel
theorem dX1_isCandidate_256 : decode cX1_isCandidate 256 = .ok (.iload 5, 2) := by decide +kernel
theorem dX1_isCandidate_258 : decode cX1_isCandidate 258 = .ok (.ireturn, 1) := by decide +kernel
set_option maxRecDepth 20000 in
theorem ggX1_takes_X1_rankBy : GoodIn wsX1_takes wsX1_rankBy := goodIn_r _ [12, 13, 14, 15, 16, 17, 18, 19, 20, 21, 22, 23, 24, 25, 26, 27, 28, 29, 30, 31, 32, 33, 34, 35] (by decide +kernel) (by decide +kernel)
set_option maxRecDepth 20000 in
theorem gX1_takes_X1_rankBy : GoodIn wsX1_takes (wsV RX1 73 RX1 yX1_rankBy wsX1_rankBy) := goodIn_app (goodIn_of _ (by decide +kernel)) ggX1_takes_X1_rankBy
theorem dX1_takes_0 : decode cX1_takes 0 = .ok (.bipush 10, 2) := by decide +kernel
theorem dX1_takes_2 : decode cX1_takes 2 = .ok (.iload_n 1, 1) := by decide +kernel
theorem dX1_takes_3 : decode cX1_takes 3 = .ok (.imul, 1) := by decide +kernel
theorem dX1_takes_4 : decode cX1_takes 4 = .ok (.iload_n 2, 1) := by decide +kernel
theorem dX1_takes_5 : decode cX1_takes 5 = .ok (.iadd, 1) := by decide +kernel
theorem dX1_takes_6 : decode cX1_takes 6 = .ok (.istore_n 3, 1) := by decide +kernel
theorem dX1_takes_7 : decode cX1_takes 7 = .ok (.aload_n 0, 1) := by decide +kernel
theorem dX1_takes_8 : decode cX1_takes 8 = .ok (.getfield 51, 3) := by decide +kernel
theorem dX1_takes_11 : decode cX1_takes 11 = .ok (.iload_n 3, 1) := by decide +kernel
theorem dX1_takes_12 : decode cX1_takes 12 = .ok (.iaload, 1) := by decide +kernel
theorem dX1_takes_13 : decode cX1_takes 13 = .ok (.aload_n 0, 1) := by decide +kernel
theorem dX1_takes_14 : decode cX1_takes 14 = .ok (.getfield 30, 3) := by decide +kernel
theorem dX1_takes_17 : decode cX1_takes 17 = .ok (.iload_n 1, 1) := by decide +kernel
theorem dX1_takes_18 : decode cX1_takes 18 = .ok (.iaload, 1) := by decide +kernel
theorem dX1_takes_19 : decode cX1_takes 19 = .ok (.if_icmp .ne 18, 3) := by decide +kernel
theorem dX1_takes_22 : decode cX1_takes 22 = .ok (.aload_n 0, 1) := by decide +kernel
theorem dX1_takes_23 : decode cX1_takes 23 = .ok (.getfield 54, 3) := by decide +kernel
theorem dX1_takes_26 : decode cX1_takes 26 = .ok (.iload_n 3, 1) := by decide +kernel
theorem dX1_takes_27 : decode cX1_takes 27 = .ok (.iaload, 1) := by decide +kernel
theorem dX1_takes_28 : decode cX1_takes 28 = .ok (.aload_n 0, 1) := by decide +kernel
theorem dX1_takes_29 : decode cX1_takes 29 = .ok (.getfield 33, 3) := by decide +kernel
theorem dX1_takes_32 : decode cX1_takes 32 = .ok (.iload_n 1, 1) := by decide +kernel
theorem dX1_takes_33 : decode cX1_takes 33 = .ok (.iaload, 1) := by decide +kernel
theorem dX1_takes_34 : decode cX1_takes 34 = .ok (.if_icmp .eq 7, 3) := by decide +kernel
theorem dX1_takes_37 : decode cX1_takes 37 = .ok (.iconst 1, 1) := by decide +kernel
theorem dX1_takes_38 : decode cX1_takes 38 = .ok (.goto 4, 3) := by decide +kernel
theorem dX1_takes_41 : decode cX1_takes 41 = .ok (.iconst 0, 1) := by decide +kernel
theorem dX1_takes_42 : decode cX1_takes 42 = .ok (.istore 4, 2) := by decide +kernel
theorem dX1_takes_44 : decode cX1_takes 44 = .ok (.aload_n 0, 1) := by decide +kernel
theorem dX1_takes_45 : decode cX1_takes 45 = .ok (.getfield 39, 3) := by decide +kernel
theorem dX1_takes_48 : decode cX1_takes 48 = .ok (.iload_n 1, 1) := by decide +kernel
theorem dX1_takes_49 : decode cX1_takes 49 = .ok (.iload_n 2, 1) := by decide +kernel
theorem dX1_takes_50 : decode cX1_takes 50 = .ok (.iastore, 1) := by decide +kernel
theorem dX1_takes_51 : decode cX1_takes 51 = .ok (.aload_n 0, 1) := by decide +kernel
theorem dX1_takes_52 : decode cX1_takes 52 = .ok (.getfield 30, 3) := by decide +kernel
theorem dX1_takes_55 : decode cX1_takes 55 = .ok (.iload_n 1, 1) := by decide +kernel
theorem dX1_takes_56 : decode cX1_takes 56 = .ok (.aload_n 0, 1) := by decide +kernel
theorem dX1_takes_57 : decode cX1_takes 57 = .ok (.getfield 51, 3) := by decide +kernel
theorem dX1_takes_60 : decode cX1_takes 60 = .ok (.iload_n 3, 1) := by decide +kernel
theorem dX1_takes_61 : decode cX1_takes 61 = .ok (.iaload, 1) := by decide +kernel
theorem dX1_takes_62 : decode cX1_takes 62 = .ok (.iastore, 1) := by decide +kernel
theorem dX1_takes_63 : decode cX1_takes 63 = .ok (.aload_n 0, 1) := by decide +kernel
theorem dX1_takes_64 : decode cX1_takes 64 = .ok (.getfield 33, 3) := by decide +kernel
theorem dX1_takes_67 : decode cX1_takes 67 = .ok (.iload_n 1, 1) := by decide +kernel
theorem dX1_takes_68 : decode cX1_takes 68 = .ok (.aload_n 0, 1) := by decide +kernel
theorem dX1_takes_69 : decode cX1_takes 69 = .ok (.getfield 54, 3) := by decide +kernel
theorem dX1_takes_72 : decode cX1_takes 72 = .ok (.iload_n 3, 1) := by decide +kernel
theorem dX1_takes_73 : decode cX1_takes 73 = .ok (.iaload, 1) := by decide +kernel
theorem dX1_takes_74 : decode cX1_takes 74 = .ok (.iastore, 1) := by decide +kernel
theorem dX1_takes_75 : decode cX1_takes 75 = .ok (.aload_n 0, 1) := by decide +kernel
theorem dX1_takes_76 : decode cX1_takes 76 = .ok (.getfield 36, 3) := by decide +kernel
theorem dX1_takes_79 : decode cX1_takes 79 = .ok (.iload_n 1, 1) := by decide +kernel
theorem dX1_takes_80 : decode cX1_takes 80 = .ok (.aload_n 0, 1) := by decide +kernel
theorem dX1_takes_81 : decode cX1_takes 81 = .ok (.iload_n 1, 1) := by decide +kernel
theorem dX1_takes_82 : decode cX1_takes 82 = .ok (.iload_n 2, 1) := by decide +kernel
theorem dX1_takes_83 : decode cX1_takes 83 = .ok (.invokevirtual 73, 3) := by decide +kernel
theorem dX1_takes_86 : decode cX1_takes 86 = .ok (.iastore, 1) := by decide +kernel
theorem dX1_takes_87 : decode cX1_takes 87 = .ok (.aload_n 0, 1) := by decide +kernel
theorem dX1_takes_88 : decode cX1_takes 88 = .ok (.getfield 42, 3) := by decide +kernel
theorem dX1_takes_91 : decode cX1_takes 91 = .ok (.iload_n 1, 1) := by decide +kernel
theorem dX1_takes_92 : decode cX1_takes 92 = .ok (.iload 4, 2) := by decide +kernel
theorem dX1_takes_94 : decode cX1_takes 94 = .ok (.ifCond .ne 18, 3) := by decide +kernel
theorem dX1_takes_97 : decode cX1_takes 97 = .ok (.aload_n 0, 1) := by decide +kernel
theorem dX1_takes_98 : decode cX1_takes 98 = .ok (.getfield 36, 3) := by decide +kernel
theorem dX1_takes_101 : decode cX1_takes 101 = .ok (.iload_n 1, 1) := by decide +kernel
theorem dX1_takes_102 : decode cX1_takes 102 = .ok (.iaload, 1) := by decide +kernel
theorem dX1_takes_103 : decode cX1_takes 103 = .ok (.aload_n 0, 1) := by decide +kernel
theorem dX1_takes_104 : decode cX1_takes 104 = .ok (.getfield 42, 3) := by decide +kernel
theorem dX1_takes_107 : decode cX1_takes 107 = .ok (.iload_n 1, 1) := by decide +kernel
theorem dX1_takes_108 : decode cX1_takes 108 = .ok (.iaload, 1) := by decide +kernel
theorem dX1_takes_109 : decode cX1_takes 109 = .ok (.if_icmp .ge 12, 3) := by decide +kernel
theorem dX1_takes_112 : decode cX1_takes 112 = .ok (.aload_n 0, 1) := by decide +kernel
theorem dX1_takes_113 : decode cX1_takes 113 = .ok (.getfield 36, 3) := by decide +kernel
theorem dX1_takes_116 : decode cX1_takes 116 = .ok (.iload_n 1, 1) := by decide +kernel
theorem dX1_takes_117 : decode cX1_takes 117 = .ok (.iaload, 1) := by decide +kernel
theorem dX1_takes_118 : decode cX1_takes 118 = .ok (.goto 9, 3) := by decide +kernel
theorem dX1_takes_121 : decode cX1_takes 121 = .ok (.aload_n 0, 1) := by decide +kernel
theorem dX1_takes_122 : decode cX1_takes 122 = .ok (.getfield 42, 3) := by decide +kernel
theorem dX1_takes_125 : decode cX1_takes 125 = .ok (.iload_n 1, 1) := by decide +kernel
theorem dX1_takes_126 : decode cX1_takes 126 = .ok (.iaload, 1) := by decide +kernel
theorem dX1_takes_127 : decode cX1_takes 127 = .ok (.iastore, 1) := by decide +kernel
theorem dX1_takes_128 : decode cX1_takes 128 = .ok (.return_, 1) := by decide +kernel
set_option maxRecDepth 20000 in
theorem ggX1_chooses_X1_isCandidate : GoodIn wsX1_chooses wsX1_isCandidate := goodIn_r _ [11, 12, 13, 4, 14, 5, 6, 15, 16, 17, 18, 10, 19, 20, 21, 22, 23, 24, 37, 38, 39, 40, 41, 42, 43, 44, 45, 46, 47, 48, 49, 50, 51, 52, 53, 54, 55, 56, 57] (by decide +kernel) (by decide +kernel)
set_option maxRecDepth 20000 in
theorem gX1_chooses_X1_isCandidate : GoodIn wsX1_chooses (wsV RX1 77 RX1 yX1_isCandidate wsX1_isCandidate) := goodIn_app (goodIn_of _ (by decide +kernel)) ggX1_chooses_X1_isCandidate
set_option maxRecDepth 20000 in
theorem ggX1_chooses_X1_rankBy : GoodIn wsX1_chooses wsX1_rankBy := goodIn_r _ [23, 12, 24, 37, 38, 39, 40, 41, 42, 43, 44, 45, 46, 47, 48, 49, 50, 51, 52, 53, 54, 55, 56, 57] (by decide +kernel) (by decide +kernel)
set_option maxRecDepth 20000 in
theorem gX1_chooses_X1_rankBy : GoodIn wsX1_chooses (wsV RX1 73 RX1 yX1_rankBy wsX1_rankBy) := goodIn_app (goodIn_of _ (by decide +kernel)) ggX1_chooses_X1_rankBy
set_option maxRecDepth 20000 in
theorem ggX1_chooses_X1_takes : GoodIn wsX1_chooses wsX1_takes := goodIn_r _ [28, 13, 4, 14, 5, 2, 6, 15, 20, 21, 22, 10, 23, 12, 24, 37, 38, 39, 40, 41, 42, 43, 44, 45, 46, 47, 48, 49, 50, 51, 52, 53, 54, 55, 56, 57] (by decide +kernel) (by decide +kernel)
set_option maxRecDepth 20000 in
theorem gX1_chooses_X1_takes : GoodIn wsX1_chooses (wsV RX1 84 RX1 yX1_takes wsX1_takes) := goodIn_app (goodIn_of _ (by decide +kernel)) ggX1_chooses_X1_takes
set_option maxRecDepth 20000 in
theorem ggX1_chooses_X1_resets : GoodIn wsX1_chooses wsX1_resets := goodIn_r _ [32, 33, 34, 35, 36, 37, 38, 39, 40, 41, 42, 43, 44, 45, 46, 47, 48, 49, 50, 51, 52, 53, 54, 55, 56, 57] (by decide +kernel) (by decide +kernel)
set_option maxRecDepth 20000 in
theorem gX1_chooses_X1_resets : GoodIn wsX1_chooses (wsV RX1 88 RX1 yX1_resets wsX1_resets) := goodIn_app (goodIn_of _ (by decide +kernel)) ggX1_chooses_X1_resets
theorem dX1_chooses_0 : decode cX1_chooses 0 = .ok (.aload_n 0, 1) := by decide +kernel
theorem dX1_chooses_1 : decode cX1_chooses 1 = .ok (.getfield 23, 3) := by decide +kernel
theorem dX1_chooses_4 : decode cX1_chooses 4 = .ok (.iload_n 1, 1) := by decide +kernel
theorem dX1_chooses_5 : decode cX1_chooses 5 = .ok (.baload, 1) := by decide +kernel
theorem dX1_chooses_6 : decode cX1_chooses 6 = .ok (.ifCond .eq 4, 3) := by decide +kernel
theorem dX1_chooses_9 : decode cX1_chooses 9 = .ok (.return_, 1) := by decide +kernel
theorem dX1_chooses_10 : decode cX1_chooses 10 = .ok (.iconst (-1), 1) := by decide +kernel
theorem dX1_chooses_11 : decode cX1_chooses 11 = .ok (.istore_n 2, 1) := by decide +kernel
theorem dX1_chooses_12 : decode cX1_chooses 12 = .ok (.iconst 0, 1) := by decide +kernel
theorem dX1_chooses_13 : decode cX1_chooses 13 = .ok (.istore_n 3, 1) := by decide +kernel
theorem dX1_chooses_14 : decode cX1_chooses 14 = .ok (.iload_n 3, 1) := by decide +kernel
theorem dX1_chooses_15 : decode cX1_chooses 15 = .ok (.bipush 10, 2) := by decide +kernel
theorem dX1_chooses_17 : decode cX1_chooses 17 = .ok (.if_icmp .ge 44, 3) := by decide +kernel
theorem dX1_chooses_20 : decode cX1_chooses 20 = .ok (.aload_n 0, 1) := by decide +kernel
theorem dX1_chooses_21 : decode cX1_chooses 21 = .ok (.iload_n 1, 1) := by decide +kernel
theorem dX1_chooses_22 : decode cX1_chooses 22 = .ok (.iload_n 3, 1) := by decide +kernel
theorem dX1_chooses_23 : decode cX1_chooses 23 = .ok (.invokevirtual 77, 3) := by decide +kernel
theorem dX1_chooses_26 : decode cX1_chooses 26 = .ok (.ifCond .eq 27, 3) := by decide +kernel
theorem dX1_chooses_29 : decode cX1_chooses 29 = .ok (.iload_n 2, 1) := by decide +kernel
theorem dX1_chooses_30 : decode cX1_chooses 30 = .ok (.iconst (-1), 1) := by decide +kernel
theorem dX1_chooses_31 : decode cX1_chooses 31 = .ok (.if_icmp .eq 18, 3) := by decide +kernel
theorem dX1_chooses_34 : decode cX1_chooses 34 = .ok (.aload_n 0, 1) := by decide +kernel
theorem dX1_chooses_35 : decode cX1_chooses 35 = .ok (.iload_n 1, 1) := by decide +kernel
theorem dX1_chooses_36 : decode cX1_chooses 36 = .ok (.iload_n 3, 1) := by decide +kernel
theorem dX1_chooses_37 : decode cX1_chooses 37 = .ok (.invokevirtual 73, 3) := by decide +kernel
theorem dX1_chooses_40 : decode cX1_chooses 40 = .ok (.aload_n 0, 1) := by decide +kernel
theorem dX1_chooses_41 : decode cX1_chooses 41 = .ok (.iload_n 1, 1) := by decide +kernel
theorem dX1_chooses_42 : decode cX1_chooses 42 = .ok (.iload_n 2, 1) := by decide +kernel
theorem dX1_chooses_43 : decode cX1_chooses 43 = .ok (.invokevirtual 73, 3) := by decide +kernel
theorem dX1_chooses_46 : decode cX1_chooses 46 = .ok (.if_icmp .ge 7, 3) := by decide +kernel
theorem dX1_chooses_49 : decode cX1_chooses 49 = .ok (.iload_n 3, 1) := by decide +kernel
theorem dX1_chooses_50 : decode cX1_chooses 50 = .ok (.goto 4, 3) := by decide +kernel
theorem dX1_chooses_53 : decode cX1_chooses 53 = .ok (.iload_n 2, 1) := by decide +kernel
theorem dX1_chooses_54 : decode cX1_chooses 54 = .ok (.istore_n 2, 1) := by decide +kernel
end
section
theorem dX1_chooses_55 : decode cX1_chooses 55 = .ok (.iinc 3 1, 3) := by decide +kernel
theorem dX1_chooses_58 : decode cX1_chooses 58 = .ok (.goto (-44), 3) := by decide +kernel
theorem dX1_chooses_61 : decode cX1_chooses 61 = .ok (.aload_n 0, 1) := by decide +kernel
theorem dX1_chooses_62 : decode cX1_chooses 62 = .ok (.getfield 39, 3) := by decide +kernel
theorem dX1_chooses_65 : decode cX1_chooses 65 = .ok (.iload_n 1, 1) := by decide +kernel
theorem dX1_chooses_66 : decode cX1_chooses 66 = .ok (.iaload, 1) := by decide +kernel
theorem dX1_chooses_67 : decode cX1_chooses 67 = .ok (.istore_n 3, 1) := by decide +kernel
theorem dX1_chooses_68 : decode cX1_chooses 68 = .ok (.iload_n 2, 1) := by decide +kernel
theorem dX1_chooses_69 : decode cX1_chooses 69 = .ok (.iconst (-1), 1) := by decide +kernel
theorem dX1_chooses_70 : decode cX1_chooses 70 = .ok (.if_icmp .eq 53, 3) := by decide +kernel
theorem dX1_chooses_73 : decode cX1_chooses 73 = .ok (.iload_n 3, 1) := by decide +kernel
theorem dX1_chooses_74 : decode cX1_chooses 74 = .ok (.iconst (-1), 1) := by decide +kernel
theorem dX1_chooses_75 : decode cX1_chooses 75 = .ok (.if_icmp .eq 48, 3) := by decide +kernel
theorem dX1_chooses_78 : decode cX1_chooses 78 = .ok (.aload_n 0, 1) := by decide +kernel
theorem dX1_chooses_79 : decode cX1_chooses 79 = .ok (.iload_n 1, 1) := by decide +kernel
theorem dX1_chooses_80 : decode cX1_chooses 80 = .ok (.iload_n 3, 1) := by decide +kernel
theorem dX1_chooses_81 : decode cX1_chooses 81 = .ok (.invokevirtual 77, 3) := by decide +kernel
theorem dX1_chooses_84 : decode cX1_chooses 84 = .ok (.ifCond .eq 39, 3) := by decide +kernel
theorem dX1_chooses_87 : decode cX1_chooses 87 = .ok (.aload_n 0, 1) := by decide +kernel
theorem dX1_chooses_88 : decode cX1_chooses 88 = .ok (.iload_n 1, 1) := by decide +kernel
theorem dX1_chooses_89 : decode cX1_chooses 89 = .ok (.iload_n 3, 1) := by decide +kernel
theorem dX1_chooses_90 : decode cX1_chooses 90 = .ok (.invokevirtual 73, 3) := by decide +kernel
theorem dX1_chooses_93 : decode cX1_chooses 93 = .ok (.aload_n 0, 1) := by decide +kernel
theorem dX1_chooses_94 : decode cX1_chooses 94 = .ok (.iload_n 1, 1) := by decide +kernel
theorem dX1_chooses_95 : decode cX1_chooses 95 = .ok (.iload_n 2, 1) := by decide +kernel
theorem dX1_chooses_96 : decode cX1_chooses 96 = .ok (.invokevirtual 73, 3) := by decide +kernel
theorem dX1_chooses_99 : decode cX1_chooses 99 = .ok (.isub, 1) := by decide +kernel
theorem dX1_chooses_100 : decode cX1_chooses 100 = .ok (.istore 4, 2) := by decide +kernel
theorem dX1_chooses_102 : decode cX1_chooses 102 = .ok (.iload 4, 2) := by decide +kernel
theorem dX1_chooses_104 : decode cX1_chooses 104 = .ok (.aload_n 0, 1) := by decide +kernel
theorem dX1_chooses_105 : decode cX1_chooses 105 = .ok (.getfield 81, 3) := by decide +kernel
theorem dX1_chooses_108 : decode cX1_chooses 108 = .ok (.if_icmp .lt 13, 3) := by decide +kernel
theorem dX1_chooses_111 : decode cX1_chooses 111 = .ok (.iload 4, 2) := by decide +kernel
theorem dX1_chooses_113 : decode cX1_chooses 113 = .ok (.iconst 1, 1) := by decide +kernel
theorem dX1_chooses_114 : decode cX1_chooses 114 = .ok (.if_icmp .lt 7, 3) := by decide +kernel
theorem dX1_chooses_117 : decode cX1_chooses 117 = .ok (.iload_n 2, 1) := by decide +kernel
theorem dX1_chooses_118 : decode cX1_chooses 118 = .ok (.goto 4, 3) := by decide +kernel
theorem dX1_chooses_121 : decode cX1_chooses 121 = .ok (.iload_n 3, 1) := by decide +kernel
theorem dX1_chooses_122 : decode cX1_chooses 122 = .ok (.istore_n 2, 1) := by decide +kernel
theorem dX1_chooses_123 : decode cX1_chooses 123 = .ok (.aload_n 0, 1) := by decide +kernel
theorem dX1_chooses_124 : decode cX1_chooses 124 = .ok (.getfield 30, 3) := by decide +kernel
theorem dX1_chooses_127 : decode cX1_chooses 127 = .ok (.iload_n 1, 1) := by decide +kernel
theorem dX1_chooses_128 : decode cX1_chooses 128 = .ok (.iaload, 1) := by decide +kernel
theorem dX1_chooses_129 : decode cX1_chooses 129 = .ok (.istore 4, 2) := by decide +kernel
theorem dX1_chooses_131 : decode cX1_chooses 131 = .ok (.aload_n 0, 1) := by decide +kernel
theorem dX1_chooses_132 : decode cX1_chooses 132 = .ok (.getfield 33, 3) := by decide +kernel
theorem dX1_chooses_135 : decode cX1_chooses 135 = .ok (.iload_n 1, 1) := by decide +kernel
theorem dX1_chooses_136 : decode cX1_chooses 136 = .ok (.iaload, 1) := by decide +kernel
theorem dX1_chooses_137 : decode cX1_chooses 137 = .ok (.istore 5, 2) := by decide +kernel
theorem dX1_chooses_139 : decode cX1_chooses 139 = .ok (.aload_n 0, 1) := by decide +kernel
theorem dX1_chooses_140 : decode cX1_chooses 140 = .ok (.getfield 36, 3) := by decide +kernel
theorem dX1_chooses_143 : decode cX1_chooses 143 = .ok (.iload_n 1, 1) := by decide +kernel
theorem dX1_chooses_144 : decode cX1_chooses 144 = .ok (.iaload, 1) := by decide +kernel
theorem dX1_chooses_145 : decode cX1_chooses 145 = .ok (.istore 6, 2) := by decide +kernel
theorem dX1_chooses_147 : decode cX1_chooses 147 = .ok (.iload_n 2, 1) := by decide +kernel
theorem dX1_chooses_148 : decode cX1_chooses 148 = .ok (.iconst (-1), 1) := by decide +kernel
theorem dX1_chooses_149 : decode cX1_chooses 149 = .ok (.if_icmp .ne 22, 3) := by decide +kernel
theorem dX1_chooses_152 : decode cX1_chooses 152 = .ok (.aload_n 0, 1) := by decide +kernel
theorem dX1_chooses_153 : decode cX1_chooses 153 = .ok (.getfield 39, 3) := by decide +kernel
theorem dX1_chooses_156 : decode cX1_chooses 156 = .ok (.iload_n 1, 1) := by decide +kernel
theorem dX1_chooses_157 : decode cX1_chooses 157 = .ok (.iconst (-1), 1) := by decide +kernel
theorem dX1_chooses_158 : decode cX1_chooses 158 = .ok (.iastore, 1) := by decide +kernel
theorem dX1_chooses_159 : decode cX1_chooses 159 = .ok (.aload_n 0, 1) := by decide +kernel
theorem dX1_chooses_160 : decode cX1_chooses 160 = .ok (.getfield 36, 3) := by decide +kernel
theorem dX1_chooses_163 : decode cX1_chooses 163 = .ok (.iload_n 1, 1) := by decide +kernel
theorem dX1_chooses_164 : decode cX1_chooses 164 = .ok (.sipush 10000, 3) := by decide +kernel
theorem dX1_chooses_167 : decode cX1_chooses 167 = .ok (.iastore, 1) := by decide +kernel
theorem dX1_chooses_168 : decode cX1_chooses 168 = .ok (.goto 9, 3) := by decide +kernel
theorem dX1_chooses_171 : decode cX1_chooses 171 = .ok (.aload_n 0, 1) := by decide +kernel
theorem dX1_chooses_172 : decode cX1_chooses 172 = .ok (.iload_n 1, 1) := by decide +kernel
theorem dX1_chooses_173 : decode cX1_chooses 173 = .ok (.iload_n 2, 1) := by decide +kernel
theorem dX1_chooses_174 : decode cX1_chooses 174 = .ok (.invokevirtual 84, 3) := by decide +kernel
theorem dX1_chooses_177 : decode cX1_chooses 177 = .ok (.aload_n 0, 1) := by decide +kernel
theorem dX1_chooses_178 : decode cX1_chooses 178 = .ok (.getfield 30, 3) := by decide +kernel
theorem dX1_chooses_181 : decode cX1_chooses 181 = .ok (.iload_n 1, 1) := by decide +kernel
theorem dX1_chooses_182 : decode cX1_chooses 182 = .ok (.iaload, 1) := by decide +kernel
theorem dX1_chooses_183 : decode cX1_chooses 183 = .ok (.iload 4, 2) := by decide +kernel
theorem dX1_chooses_185 : decode cX1_chooses 185 = .ok (.if_icmp .ne 35, 3) := by decide +kernel
theorem dX1_chooses_188 : decode cX1_chooses 188 = .ok (.aload_n 0, 1) := by decide +kernel
theorem dX1_chooses_189 : decode cX1_chooses 189 = .ok (.getfield 33, 3) := by decide +kernel
theorem dX1_chooses_192 : decode cX1_chooses 192 = .ok (.iload_n 1, 1) := by decide +kernel
theorem dX1_chooses_193 : decode cX1_chooses 193 = .ok (.iaload, 1) := by decide +kernel
theorem dX1_chooses_194 : decode cX1_chooses 194 = .ok (.iload 5, 2) := by decide +kernel
theorem dX1_chooses_196 : decode cX1_chooses 196 = .ok (.if_icmp .ne 24, 3) := by decide +kernel
theorem dX1_chooses_199 : decode cX1_chooses 199 = .ok (.aload_n 0, 1) := by decide +kernel
theorem dX1_chooses_200 : decode cX1_chooses 200 = .ok (.getfield 36, 3) := by decide +kernel
theorem dX1_chooses_203 : decode cX1_chooses 203 = .ok (.iload_n 1, 1) := by decide +kernel
theorem dX1_chooses_204 : decode cX1_chooses 204 = .ok (.iaload, 1) := by decide +kernel
theorem dX1_chooses_205 : decode cX1_chooses 205 = .ok (.iload 6, 2) := by decide +kernel
theorem dX1_chooses_207 : decode cX1_chooses 207 = .ok (.if_icmp .ne 13, 3) := by decide +kernel
theorem dX1_chooses_210 : decode cX1_chooses 210 = .ok (.aload_n 0, 1) := by decide +kernel
theorem dX1_chooses_211 : decode cX1_chooses 211 = .ok (.getfield 39, 3) := by decide +kernel
theorem dX1_chooses_214 : decode cX1_chooses 214 = .ok (.iload_n 1, 1) := by decide +kernel
theorem dX1_chooses_215 : decode cX1_chooses 215 = .ok (.iaload, 1) := by decide +kernel
theorem dX1_chooses_216 : decode cX1_chooses 216 = .ok (.iload_n 3, 1) := by decide +kernel
theorem dX1_chooses_217 : decode cX1_chooses 217 = .ok (.if_icmp .eq 8, 3) := by decide +kernel
theorem dX1_chooses_220 : decode cX1_chooses 220 = .ok (.aload_n 0, 1) := by decide +kernel
theorem dX1_chooses_221 : decode cX1_chooses 221 = .ok (.iload_n 1, 1) := by decide +kernel
theorem dX1_chooses_222 : decode cX1_chooses 222 = .ok (.invokevirtual 88, 3) := by decide +kernel
theorem dX1_chooses_225 : decode cX1_chooses 225 = .ok (.return_, 1) := by decide +kernel
set_option maxRecDepth 20000 in
theorem ggX1_tells_X1_chooses : GoodIn wsX1_tells wsX1_chooses := goodIn_r _ [12, 13, 14, 15, 3, 5, 7, 16, 17, 18, 11, 19, 6, 2, 4, 20, 21, 22, 23, 24, 25, 26, 27, 28, 1, 29, 30, 31, 32, 33, 34, 35, 36, 37, 38, 39, 40, 41, 42, 43, 44, 45, 46, 47, 48, 49, 50, 51, 52, 53, 54, 55, 56, 57, 58, 59, 60, 61] (by decide +kernel) (by decide +kernel)
set_option maxRecDepth 20000 in
theorem gX1_tells_X1_chooses : GoodIn wsX1_tells (wsV RX1 92 RX1 yX1_chooses wsX1_chooses) := goodIn_app (goodIn_of _ (by decide +kernel)) ggX1_tells_X1_chooses
theorem dX1_tells_0 : decode cX1_tells 0 = .ok (.iconst 0, 1) := by decide +kernel
theorem dX1_tells_1 : decode cX1_tells 1 = .ok (.istore_n 2, 1) := by decide +kernel
theorem dX1_tells_2 : decode cX1_tells 2 = .ok (.iload_n 2, 1) := by decide +kernel
theorem dX1_tells_3 : decode cX1_tells 3 = .ok (.bipush 10, 2) := by decide +kernel
theorem dX1_tells_5 : decode cX1_tells 5 = .ok (.if_icmp .ge 71, 3) := by decide +kernel
theorem dX1_tells_8 : decode cX1_tells 8 = .ok (.aload_n 0, 1) := by decide +kernel
theorem dX1_tells_9 : decode cX1_tells 9 = .ok (.getfield 19, 3) := by decide +kernel
theorem dX1_tells_12 : decode cX1_tells 12 = .ok (.bipush 10, 2) := by decide +kernel
theorem dX1_tells_14 : decode cX1_tells 14 = .ok (.iload_n 1, 1) := by decide +kernel
theorem dX1_tells_15 : decode cX1_tells 15 = .ok (.imul, 1) := by decide +kernel
theorem dX1_tells_16 : decode cX1_tells 16 = .ok (.iload_n 2, 1) := by decide +kernel
theorem dX1_tells_17 : decode cX1_tells 17 = .ok (.iadd, 1) := by decide +kernel
theorem dX1_tells_18 : decode cX1_tells 18 = .ok (.iaload, 1) := by decide +kernel
theorem dX1_tells_19 : decode cX1_tells 19 = .ok (.ifCond .le 51, 3) := by decide +kernel
theorem dX1_tells_22 : decode cX1_tells 22 = .ok (.bipush 10, 2) := by decide +kernel
theorem dX1_tells_24 : decode cX1_tells 24 = .ok (.iload_n 2, 1) := by decide +kernel
theorem dX1_tells_25 : decode cX1_tells 25 = .ok (.imul, 1) := by decide +kernel
theorem dX1_tells_26 : decode cX1_tells 26 = .ok (.iload_n 1, 1) := by decide +kernel
theorem dX1_tells_27 : decode cX1_tells 27 = .ok (.iadd, 1) := by decide +kernel
theorem dX1_tells_28 : decode cX1_tells 28 = .ok (.istore_n 3, 1) := by decide +kernel
theorem dX1_tells_29 : decode cX1_tells 29 = .ok (.aload_n 0, 1) := by decide +kernel
theorem dX1_tells_30 : decode cX1_tells 30 = .ok (.getfield 51, 3) := by decide +kernel
theorem dX1_tells_33 : decode cX1_tells 33 = .ok (.iload_n 3, 1) := by decide +kernel
theorem dX1_tells_34 : decode cX1_tells 34 = .ok (.aload_n 0, 1) := by decide +kernel
theorem dX1_tells_35 : decode cX1_tells 35 = .ok (.getfield 30, 3) := by decide +kernel
theorem dX1_tells_38 : decode cX1_tells 38 = .ok (.iload_n 1, 1) := by decide +kernel
theorem dX1_tells_39 : decode cX1_tells 39 = .ok (.iaload, 1) := by decide +kernel
theorem dX1_tells_40 : decode cX1_tells 40 = .ok (.iastore, 1) := by decide +kernel
theorem dX1_tells_41 : decode cX1_tells 41 = .ok (.aload_n 0, 1) := by decide +kernel
theorem dX1_tells_42 : decode cX1_tells 42 = .ok (.getfield 54, 3) := by decide +kernel
theorem dX1_tells_45 : decode cX1_tells 45 = .ok (.iload_n 3, 1) := by decide +kernel
theorem dX1_tells_46 : decode cX1_tells 46 = .ok (.aload_n 0, 1) := by decide +kernel
theorem dX1_tells_47 : decode cX1_tells 47 = .ok (.getfield 33, 3) := by decide +kernel
theorem dX1_tells_50 : decode cX1_tells 50 = .ok (.iload_n 1, 1) := by decide +kernel
theorem dX1_tells_51 : decode cX1_tells 51 = .ok (.iaload, 1) := by decide +kernel
theorem dX1_tells_52 : decode cX1_tells 52 = .ok (.iastore, 1) := by decide +kernel
theorem dX1_tells_53 : decode cX1_tells 53 = .ok (.aload_n 0, 1) := by decide +kernel
theorem dX1_tells_54 : decode cX1_tells 54 = .ok (.getfield 57, 3) := by decide +kernel
theorem dX1_tells_57 : decode cX1_tells 57 = .ok (.iload_n 3, 1) := by decide +kernel
theorem dX1_tells_58 : decode cX1_tells 58 = .ok (.aload_n 0, 1) := by decide +kernel
theorem dX1_tells_59 : decode cX1_tells 59 = .ok (.getfield 36, 3) := by decide +kernel
theorem dX1_tells_62 : decode cX1_tells 62 = .ok (.iload_n 1, 1) := by decide +kernel
theorem dX1_tells_63 : decode cX1_tells 63 = .ok (.iaload, 1) := by decide +kernel
theorem dX1_tells_64 : decode cX1_tells 64 = .ok (.iastore, 1) := by decide +kernel
theorem dX1_tells_65 : decode cX1_tells 65 = .ok (.aload_n 0, 1) := by decide +kernel
theorem dX1_tells_66 : decode cX1_tells 66 = .ok (.iload_n 2, 1) := by decide +kernel
theorem dX1_tells_67 : decode cX1_tells 67 = .ok (.invokevirtual 92, 3) := by decide +kernel
theorem dX1_tells_70 : decode cX1_tells 70 = .ok (.iinc 2 1, 3) := by decide +kernel
theorem dX1_tells_73 : decode cX1_tells 73 = .ok (.goto (-71), 3) := by decide +kernel
theorem dX1_tells_76 : decode cX1_tells 76 = .ok (.return_, 1) := by decide +kernel
set_option maxRecDepth 20000 in
theorem ggX1_setRules_X1_isIn : GoodIn wsX1_setRules wsX1_isIn := goodIn_r _ [8] (by decide +kernel) (by decide +kernel)
set_option maxRecDepth 20000 in
theorem gX1_setRules_X1_isIn : GoodIn wsX1_setRules (va_wsS RX1 66 yX1_isIn wsX1_isIn) := goodIn_app (goodIn_of _ (by decide +kernel)) ggX1_setRules_X1_isIn
set_option maxRecDepth 20000 in
theorem ggX1_setRules_X1_fails : GoodIn wsX1_setRules wsX1_fails := goodIn_r _ [12, 13, 14, 15, 16, 17, 18, 19, 20, 21, 22, 23, 24, 25, 26, 27, 28, 29, 30, 31, 32, 33, 34] (by decide +kernel) (by decide +kernel)
set_option maxRecDepth 20000 in
theorem gX1_setRules_X1_fails : GoodIn wsX1_setRules (wsV RX1 95 RX1 yX1_fails wsX1_fails) := goodIn_app (goodIn_of _ (by decide +kernel)) ggX1_setRules_X1_fails
theorem dX1_setRules_0 : decode cX1_setRules 0 = .ok (.iload_n 1, 1) := by decide +kernel
theorem dX1_setRules_1 : decode cX1_setRules 1 = .ok (.iconst 0, 1) := by decide +kernel
theorem dX1_setRules_2 : decode cX1_setRules 2 = .ok (.bipush 100, 2) := by decide +kernel
theorem dX1_setRules_4 : decode cX1_setRules 4 = .ok (.invokestatic 66, 3) := by decide +kernel
theorem dX1_setRules_7 : decode cX1_setRules 7 = .ok (.ifCond .eq 39, 3) := by decide +kernel
theorem dX1_setRules_10 : decode cX1_setRules 10 = .ok (.iload_n 2, 1) := by decide +kernel
theorem dX1_setRules_11 : decode cX1_setRules 11 = .ok (.iconst 0, 1) := by decide +kernel
theorem dX1_setRules_12 : decode cX1_setRules 12 = .ok (.sipush 10000, 3) := by decide +kernel
theorem dX1_setRules_15 : decode cX1_setRules 15 = .ok (.invokestatic 66, 3) := by decide +kernel
theorem dX1_setRules_18 : decode cX1_setRules 18 = .ok (.ifCond .eq 28, 3) := by decide +kernel
theorem dX1_setRules_21 : decode cX1_setRules 21 = .ok (.iload_n 3, 1) := by decide +kernel
theorem dX1_setRules_22 : decode cX1_setRules 22 = .ok (.iconst 1, 1) := by decide +kernel
theorem dX1_setRules_23 : decode cX1_setRules 23 = .ok (.bipush 8, 2) := by decide +kernel
theorem dX1_setRules_25 : decode cX1_setRules 25 = .ok (.invokestatic 66, 3) := by decide +kernel
theorem dX1_setRules_28 : decode cX1_setRules 28 = .ok (.ifCond .eq 18, 3) := by decide +kernel
theorem dX1_setRules_31 : decode cX1_setRules 31 = .ok (.iload 4, 2) := by decide +kernel
theorem dX1_setRules_33 : decode cX1_setRules 33 = .ok (.iconst 0, 1) := by decide +kernel
theorem dX1_setRules_34 : decode cX1_setRules 34 = .ok (.bipush 6, 2) := by decide +kernel
theorem dX1_setRules_36 : decode cX1_setRules 36 = .ok (.invokestatic 66, 3) := by decide +kernel
theorem dX1_setRules_39 : decode cX1_setRules 39 = .ok (.ifCond .eq 7, 3) := by decide +kernel
theorem dX1_setRules_42 : decode cX1_setRules 42 = .ok (.iconst 1, 1) := by decide +kernel
theorem dX1_setRules_43 : decode cX1_setRules 43 = .ok (.goto 4, 3) := by decide +kernel
theorem dX1_setRules_46 : decode cX1_setRules 46 = .ok (.iconst 0, 1) := by decide +kernel
theorem dX1_setRules_47 : decode cX1_setRules 47 = .ok (.istore 5, 2) := by decide +kernel
theorem dX1_setRules_49 : decode cX1_setRules 49 = .ok (.aload_n 0, 1) := by decide +kernel
theorem dX1_setRules_50 : decode cX1_setRules 50 = .ok (.iload 5, 2) := by decide +kernel
theorem dX1_setRules_52 : decode cX1_setRules 52 = .ok (.ifCond .eq 7, 3) := by decide +kernel
theorem dX1_setRules_55 : decode cX1_setRules 55 = .ok (.iconst 0, 1) := by decide +kernel
theorem dX1_setRules_56 : decode cX1_setRules 56 = .ok (.goto 4, 3) := by decide +kernel
theorem dX1_setRules_59 : decode cX1_setRules 59 = .ok (.iconst 1, 1) := by decide +kernel
theorem dX1_setRules_60 : decode cX1_setRules 60 = .ok (.invokevirtual 95, 3) := by decide +kernel
theorem dX1_setRules_63 : decode cX1_setRules 63 = .ok (.ifCond .ne 24, 3) := by decide +kernel
theorem dX1_setRules_66 : decode cX1_setRules 66 = .ok (.aload_n 0, 1) := by decide +kernel
theorem dX1_setRules_67 : decode cX1_setRules 67 = .ok (.iload_n 1, 1) := by decide +kernel
theorem dX1_setRules_68 : decode cX1_setRules 68 = .ok (.putfield 81, 3) := by decide +kernel
theorem dX1_setRules_71 : decode cX1_setRules 71 = .ok (.aload_n 0, 1) := by decide +kernel
theorem dX1_setRules_72 : decode cX1_setRules 72 = .ok (.iload_n 2, 1) := by decide +kernel
theorem dX1_setRules_73 : decode cX1_setRules 73 = .ok (.putfield 7, 3) := by decide +kernel
theorem dX1_setRules_76 : decode cX1_setRules 76 = .ok (.aload_n 0, 1) := by decide +kernel
theorem dX1_setRules_77 : decode cX1_setRules 77 = .ok (.iload_n 3, 1) := by decide +kernel
theorem dX1_setRules_78 : decode cX1_setRules 78 = .ok (.putfield 13, 3) := by decide +kernel
theorem dX1_setRules_81 : decode cX1_setRules 81 = .ok (.aload_n 0, 1) := by decide +kernel
theorem dX1_setRules_82 : decode cX1_setRules 82 = .ok (.iload 4, 2) := by decide +kernel
theorem dX1_setRules_84 : decode cX1_setRules 84 = .ok (.putfield 16, 3) := by decide +kernel
theorem dX1_setRules_87 : decode cX1_setRules 87 = .ok (.return_, 1) := by decide +kernel
set_option maxRecDepth 20000 in
theorem ggX1_link_X1_isNode : GoodIn wsX1_link wsX1_isNode := goodIn_r _ [6, 7, 8, 5, 9] (by decide +kernel) (by decide +kernel)
set_option maxRecDepth 20000 in
theorem gX1_link_X1_isNode : GoodIn wsX1_link (va_wsS RX1 99 yX1_isNode wsX1_isNode) := goodIn_app (goodIn_of _ (by decide +kernel)) ggX1_link_X1_isNode
set_option maxRecDepth 20000 in
theorem ggX1_link_X1_isIn : GoodIn wsX1_link wsX1_isIn := goodIn_r _ [9] (by decide +kernel) (by decide +kernel)
set_option maxRecDepth 20000 in
theorem gX1_link_X1_isIn : GoodIn wsX1_link (va_wsS RX1 66 yX1_isIn wsX1_isIn) := goodIn_app (goodIn_of _ (by decide +kernel)) ggX1_link_X1_isIn
set_option maxRecDepth 20000 in
theorem ggX1_link_X1_fails : GoodIn wsX1_link wsX1_fails := goodIn_r _ [13, 14, 49, 50, 51, 52, 53, 54, 55, 56, 57, 58, 59, 60, 61, 62, 63, 64, 65, 66, 67, 68, 69] (by decide +kernel) (by decide +kernel)
set_option maxRecDepth 20000 in
theorem gX1_link_X1_fails : GoodIn wsX1_link (wsV RX1 95 RX1 yX1_fails wsX1_fails) := goodIn_app (goodIn_of _ (by decide +kernel)) ggX1_link_X1_fails
set_option maxRecDepth 20000 in
theorem ggX1_link_X1_chooses : GoodIn wsX1_link wsX1_chooses := goodIn_r _ [18, 19, 20, 21, 22, 23, 24, 25, 26, 27, 5, 28, 2, 29, 30, 31, 32, 7, 8, 9, 33, 34, 35, 36, 1, 37, 38, 39, 40, 41, 42, 43, 44, 45, 46, 47, 48, 49, 50, 51, 52, 53, 54, 55, 56, 57, 58, 59, 60, 61, 62, 63, 64, 65, 66, 67, 68, 69] (by decide +kernel) (by decide +kernel)
set_option maxRecDepth 20000 in
theorem gX1_link_X1_chooses : GoodIn wsX1_link (wsV RX1 92 RX1 yX1_chooses wsX1_chooses) := goodIn_app (goodIn_of _ (by decide +kernel)) ggX1_link_X1_chooses
theorem dX1_link_0 : decode cX1_link 0 = .ok (.iload_n 1, 1) := by decide +kernel
theorem dX1_link_1 : decode cX1_link 1 = .ok (.invokestatic 99, 3) := by decide +kernel
theorem dX1_link_4 : decode cX1_link 4 = .ok (.ifCond .eq 14, 3) := by decide +kernel
theorem dX1_link_7 : decode cX1_link 7 = .ok (.iload_n 2, 1) := by decide +kernel
theorem dX1_link_8 : decode cX1_link 8 = .ok (.invokestatic 99, 3) := by decide +kernel
theorem dX1_link_11 : decode cX1_link 11 = .ok (.ifCond .eq 7, 3) := by decide +kernel
theorem dX1_link_14 : decode cX1_link 14 = .ok (.iconst 1, 1) := by decide +kernel
theorem dX1_link_15 : decode cX1_link 15 = .ok (.goto 4, 3) := by decide +kernel
theorem dX1_link_18 : decode cX1_link 18 = .ok (.iconst 0, 1) := by decide +kernel
theorem dX1_link_19 : decode cX1_link 19 = .ok (.istore 4, 2) := by decide +kernel
theorem dX1_link_21 : decode cX1_link 21 = .ok (.aload_n 0, 1) := by decide +kernel
theorem dX1_link_22 : decode cX1_link 22 = .ok (.iload 4, 2) := by decide +kernel
theorem dX1_link_24 : decode cX1_link 24 = .ok (.ifCond .ne 7, 3) := by decide +kernel
theorem dX1_link_27 : decode cX1_link 27 = .ok (.iconst 1, 1) := by decide +kernel
theorem dX1_link_28 : decode cX1_link 28 = .ok (.goto 23, 3) := by decide +kernel
theorem dX1_link_31 : decode cX1_link 31 = .ok (.iload_n 1, 1) := by decide +kernel
theorem dX1_link_32 : decode cX1_link 32 = .ok (.iload_n 2, 1) := by decide +kernel
theorem dX1_link_33 : decode cX1_link 33 = .ok (.if_icmp .eq 17, 3) := by decide +kernel
theorem dX1_link_36 : decode cX1_link 36 = .ok (.iload_n 3, 1) := by decide +kernel
theorem dX1_link_37 : decode cX1_link 37 = .ok (.iconst 0, 1) := by decide +kernel
theorem dX1_link_38 : decode cX1_link 38 = .ok (.bipush 100, 2) := by decide +kernel
theorem dX1_link_40 : decode cX1_link 40 = .ok (.invokestatic 66, 3) := by decide +kernel
theorem dX1_link_43 : decode cX1_link 43 = .ok (.ifCond .eq 7, 3) := by decide +kernel
theorem dX1_link_46 : decode cX1_link 46 = .ok (.iconst 0, 1) := by decide +kernel
theorem dX1_link_47 : decode cX1_link 47 = .ok (.goto 4, 3) := by decide +kernel
theorem dX1_link_50 : decode cX1_link 50 = .ok (.iconst 2, 1) := by decide +kernel
theorem dX1_link_51 : decode cX1_link 51 = .ok (.invokevirtual 95, 3) := by decide +kernel
theorem dX1_link_54 : decode cX1_link 54 = .ok (.ifCond .eq 5, 3) := by decide +kernel
theorem dX1_link_57 : decode cX1_link 57 = .ok (.iconst 0, 1) := by decide +kernel
theorem dX1_link_58 : decode cX1_link 58 = .ok (.ireturn, 1) := by decide +kernel
theorem dX1_link_59 : decode cX1_link 59 = .ok (.aload_n 0, 1) := by decide +kernel
theorem dX1_link_60 : decode cX1_link 60 = .ok (.getfield 19, 3) := by decide +kernel
theorem dX1_link_63 : decode cX1_link 63 = .ok (.bipush 10, 2) := by decide +kernel
theorem dX1_link_65 : decode cX1_link 65 = .ok (.iload_n 1, 1) := by decide +kernel
theorem dX1_link_66 : decode cX1_link 66 = .ok (.imul, 1) := by decide +kernel
theorem dX1_link_67 : decode cX1_link 67 = .ok (.iload_n 2, 1) := by decide +kernel
theorem dX1_link_68 : decode cX1_link 68 = .ok (.iadd, 1) := by decide +kernel
theorem dX1_link_69 : decode cX1_link 69 = .ok (.iaload, 1) := by decide +kernel
theorem dX1_link_70 : decode cX1_link 70 = .ok (.istore 5, 2) := by decide +kernel
theorem dX1_link_72 : decode cX1_link 72 = .ok (.aload_n 0, 1) := by decide +kernel
theorem dX1_link_73 : decode cX1_link 73 = .ok (.getfield 19, 3) := by decide +kernel
theorem dX1_link_76 : decode cX1_link 76 = .ok (.bipush 10, 2) := by decide +kernel
theorem dX1_link_78 : decode cX1_link 78 = .ok (.iload_n 1, 1) := by decide +kernel
theorem dX1_link_79 : decode cX1_link 79 = .ok (.imul, 1) := by decide +kernel
theorem dX1_link_80 : decode cX1_link 80 = .ok (.iload_n 2, 1) := by decide +kernel
theorem dX1_link_81 : decode cX1_link 81 = .ok (.iadd, 1) := by decide +kernel
theorem dX1_link_82 : decode cX1_link 82 = .ok (.iload_n 3, 1) := by decide +kernel
theorem dX1_link_83 : decode cX1_link 83 = .ok (.iastore, 1) := by decide +kernel
theorem dX1_link_84 : decode cX1_link 84 = .ok (.aload_n 0, 1) := by decide +kernel
theorem dX1_link_85 : decode cX1_link 85 = .ok (.getfield 19, 3) := by decide +kernel
theorem dX1_link_88 : decode cX1_link 88 = .ok (.bipush 10, 2) := by decide +kernel
theorem dX1_link_90 : decode cX1_link 90 = .ok (.iload_n 2, 1) := by decide +kernel
theorem dX1_link_91 : decode cX1_link 91 = .ok (.imul, 1) := by decide +kernel
theorem dX1_link_92 : decode cX1_link 92 = .ok (.iload_n 1, 1) := by decide +kernel
theorem dX1_link_93 : decode cX1_link 93 = .ok (.iadd, 1) := by decide +kernel
theorem dX1_link_94 : decode cX1_link 94 = .ok (.iload_n 3, 1) := by decide +kernel
theorem dX1_link_95 : decode cX1_link 95 = .ok (.iastore, 1) := by decide +kernel
theorem dX1_link_96 : decode cX1_link 96 = .ok (.iload_n 3, 1) := by decide +kernel
theorem dX1_link_97 : decode cX1_link 97 = .ok (.ifCond .ne 27, 3) := by decide +kernel
theorem dX1_link_100 : decode cX1_link 100 = .ok (.aload_n 0, 1) := by decide +kernel
theorem dX1_link_101 : decode cX1_link 101 = .ok (.getfield 57, 3) := by decide +kernel
theorem dX1_link_104 : decode cX1_link 104 = .ok (.bipush 10, 2) := by decide +kernel
theorem dX1_link_106 : decode cX1_link 106 = .ok (.iload_n 1, 1) := by decide +kernel
theorem dX1_link_107 : decode cX1_link 107 = .ok (.imul, 1) := by decide +kernel
theorem dX1_link_108 : decode cX1_link 108 = .ok (.iload_n 2, 1) := by decide +kernel
theorem dX1_link_109 : decode cX1_link 109 = .ok (.iadd, 1) := by decide +kernel
theorem dX1_link_110 : decode cX1_link 110 = .ok (.iconst (-1), 1) := by decide +kernel
theorem dX1_link_111 : decode cX1_link 111 = .ok (.iastore, 1) := by decide +kernel
theorem dX1_link_112 : decode cX1_link 112 = .ok (.aload_n 0, 1) := by decide +kernel
theorem dX1_link_113 : decode cX1_link 113 = .ok (.getfield 57, 3) := by decide +kernel
theorem dX1_link_116 : decode cX1_link 116 = .ok (.bipush 10, 2) := by decide +kernel
theorem dX1_link_118 : decode cX1_link 118 = .ok (.iload_n 2, 1) := by decide +kernel
theorem dX1_link_119 : decode cX1_link 119 = .ok (.imul, 1) := by decide +kernel
theorem dX1_link_120 : decode cX1_link 120 = .ok (.iload_n 1, 1) := by decide +kernel
theorem dX1_link_121 : decode cX1_link 121 = .ok (.iadd, 1) := by decide +kernel
theorem dX1_link_122 : decode cX1_link 122 = .ok (.iconst (-1), 1) := by decide +kernel
theorem dX1_link_123 : decode cX1_link 123 = .ok (.iastore, 1) := by decide +kernel
theorem dX1_link_124 : decode cX1_link 124 = .ok (.aload_n 0, 1) := by decide +kernel
theorem dX1_link_125 : decode cX1_link 125 = .ok (.iload_n 1, 1) := by decide +kernel
theorem dX1_link_126 : decode cX1_link 126 = .ok (.invokevirtual 92, 3) := by decide +kernel
theorem dX1_link_129 : decode cX1_link 129 = .ok (.aload_n 0, 1) := by decide +kernel
theorem dX1_link_130 : decode cX1_link 130 = .ok (.iload_n 2, 1) := by decide +kernel
theorem dX1_link_131 : decode cX1_link 131 = .ok (.invokevirtual 92, 3) := by decide +kernel
theorem dX1_link_134 : decode cX1_link 134 = .ok (.iload 5, 2) := by decide +kernel
theorem dX1_link_136 : decode cX1_link 136 = .ok (.ireturn, 1) := by decide +kernel
set_option maxRecDepth 20000 in
theorem ggX1_begins_X1_resets : GoodIn wsX1_begins wsX1_resets := goodIn_r _ [11, 12, 13, 14, 15, 16, 17, 18, 19, 20, 21, 22, 23, 24, 25, 26, 27, 28, 29, 30, 31, 32, 33, 34, 35, 36] (by decide +kernel) (by decide +kernel)
set_option maxRecDepth 20000 in
theorem gX1_begins_X1_resets : GoodIn wsX1_begins (wsV RX1 88 RX1 yX1_resets wsX1_resets) := goodIn_app (goodIn_of _ (by decide +kernel)) ggX1_begins_X1_resets
theorem dX1_begins_0 : decode cX1_begins 0 = .ok (.aload_n 0, 1) := by decide +kernel
theorem dX1_begins_1 : decode cX1_begins 1 = .ok (.getfield 27, 3) := by decide +kernel
theorem dX1_begins_4 : decode cX1_begins 4 = .ok (.iload_n 1, 1) := by decide +kernel
theorem dX1_begins_5 : decode cX1_begins 5 = .ok (.dup2, 1) := by decide +kernel
theorem dX1_begins_6 : decode cX1_begins 6 = .ok (.iaload, 1) := by decide +kernel
theorem dX1_begins_7 : decode cX1_begins 7 = .ok (.iconst 1, 1) := by decide +kernel
theorem dX1_begins_8 : decode cX1_begins 8 = .ok (.iadd, 1) := by decide +kernel
theorem dX1_begins_9 : decode cX1_begins 9 = .ok (.iastore, 1) := by decide +kernel
theorem dX1_begins_10 : decode cX1_begins 10 = .ok (.aload_n 0, 1) := by decide +kernel
theorem dX1_begins_11 : decode cX1_begins 11 = .ok (.getfield 30, 3) := by decide +kernel
theorem dX1_begins_14 : decode cX1_begins 14 = .ok (.iload_n 1, 1) := by decide +kernel
theorem dX1_begins_15 : decode cX1_begins 15 = .ok (.iload_n 1, 1) := by decide +kernel
theorem dX1_begins_16 : decode cX1_begins 16 = .ok (.iastore, 1) := by decide +kernel
theorem dX1_begins_17 : decode cX1_begins 17 = .ok (.aload_n 0, 1) := by decide +kernel
theorem dX1_begins_18 : decode cX1_begins 18 = .ok (.getfield 33, 3) := by decide +kernel
theorem dX1_begins_21 : decode cX1_begins 21 = .ok (.iload_n 1, 1) := by decide +kernel
theorem dX1_begins_22 : decode cX1_begins 22 = .ok (.aload_n 0, 1) := by decide +kernel
theorem dX1_begins_23 : decode cX1_begins 23 = .ok (.getfield 27, 3) := by decide +kernel
theorem dX1_begins_26 : decode cX1_begins 26 = .ok (.iload_n 1, 1) := by decide +kernel
theorem dX1_begins_27 : decode cX1_begins 27 = .ok (.iaload, 1) := by decide +kernel
theorem dX1_begins_28 : decode cX1_begins 28 = .ok (.iastore, 1) := by decide +kernel
theorem dX1_begins_29 : decode cX1_begins 29 = .ok (.aload_n 0, 1) := by decide +kernel
theorem dX1_begins_30 : decode cX1_begins 30 = .ok (.getfield 36, 3) := by decide +kernel
theorem dX1_begins_33 : decode cX1_begins 33 = .ok (.iload_n 1, 1) := by decide +kernel
theorem dX1_begins_34 : decode cX1_begins 34 = .ok (.iconst 0, 1) := by decide +kernel
theorem dX1_begins_35 : decode cX1_begins 35 = .ok (.iastore, 1) := by decide +kernel
theorem dX1_begins_36 : decode cX1_begins 36 = .ok (.aload_n 0, 1) := by decide +kernel
theorem dX1_begins_37 : decode cX1_begins 37 = .ok (.getfield 39, 3) := by decide +kernel
theorem dX1_begins_40 : decode cX1_begins 40 = .ok (.iload_n 1, 1) := by decide +kernel
theorem dX1_begins_41 : decode cX1_begins 41 = .ok (.iconst (-1), 1) := by decide +kernel
theorem dX1_begins_42 : decode cX1_begins 42 = .ok (.iastore, 1) := by decide +kernel
theorem dX1_begins_43 : decode cX1_begins 43 = .ok (.aload_n 0, 1) := by decide +kernel
theorem dX1_begins_44 : decode cX1_begins 44 = .ok (.getfield 42, 3) := by decide +kernel
theorem dX1_begins_47 : decode cX1_begins 47 = .ok (.iload_n 1, 1) := by decide +kernel
theorem dX1_begins_48 : decode cX1_begins 48 = .ok (.iconst 0, 1) := by decide +kernel
theorem dX1_begins_49 : decode cX1_begins 49 = .ok (.iastore, 1) := by decide +kernel
theorem dX1_begins_50 : decode cX1_begins 50 = .ok (.aload_n 0, 1) := by decide +kernel
theorem dX1_begins_51 : decode cX1_begins 51 = .ok (.iload_n 1, 1) := by decide +kernel
theorem dX1_begins_52 : decode cX1_begins 52 = .ok (.invokevirtual 88, 3) := by decide +kernel
theorem dX1_begins_55 : decode cX1_begins 55 = .ok (.return_, 1) := by decide +kernel
set_option maxRecDepth 20000 in
theorem ggX1_makeRoot_X1_isNode : GoodIn wsX1_makeRoot wsX1_isNode := goodIn_r _ [6, 7, 8, 5, 9] (by decide +kernel) (by decide +kernel)
set_option maxRecDepth 20000 in
theorem gX1_makeRoot_X1_isNode : GoodIn wsX1_makeRoot (va_wsS RX1 99 yX1_isNode wsX1_isNode) := goodIn_app (goodIn_of _ (by decide +kernel)) ggX1_makeRoot_X1_isNode
set_option maxRecDepth 20000 in
theorem ggX1_makeRoot_X1_fails : GoodIn wsX1_makeRoot wsX1_fails := goodIn_r _ [13, 14, 32, 33, 34, 35, 36, 37, 38, 39, 40, 41, 42, 43, 44, 45, 46, 47, 48, 49, 50, 51, 52] (by decide +kernel) (by decide +kernel)
set_option maxRecDepth 20000 in
theorem gX1_makeRoot_X1_fails : GoodIn wsX1_makeRoot (wsV RX1 95 RX1 yX1_fails wsX1_fails) := goodIn_app (goodIn_of _ (by decide +kernel)) ggX1_makeRoot_X1_fails
set_option maxRecDepth 20000 in
theorem ggX1_makeRoot_X1_begins : GoodIn wsX1_makeRoot wsX1_begins := goodIn_r _ [18, 19, 20, 2, 21, 22, 23, 24, 25, 26, 5, 27, 28, 29, 30, 31, 32, 33, 34, 35, 36, 37, 38, 39, 40, 41, 42, 43, 44, 45, 46, 47, 48, 49, 50, 51, 52] (by decide +kernel) (by decide +kernel)
set_option maxRecDepth 20000 in
theorem gX1_makeRoot_X1_begins : GoodIn wsX1_makeRoot (wsV RX1 102 RX1 yX1_begins wsX1_begins) := goodIn_app (goodIn_of _ (by decide +kernel)) ggX1_makeRoot_X1_begins
theorem dX1_makeRoot_0 : decode cX1_makeRoot 0 = .ok (.iload_n 1, 1) := by decide +kernel
theorem dX1_makeRoot_1 : decode cX1_makeRoot 1 = .ok (.invokestatic 99, 3) := by decide +kernel
theorem dX1_makeRoot_4 : decode cX1_makeRoot 4 = .ok (.istore_n 2, 1) := by decide +kernel
theorem dX1_makeRoot_5 : decode cX1_makeRoot 5 = .ok (.aload_n 0, 1) := by decide +kernel
theorem dX1_makeRoot_6 : decode cX1_makeRoot 6 = .ok (.iload_n 2, 1) := by decide +kernel
theorem dX1_makeRoot_7 : decode cX1_makeRoot 7 = .ok (.ifCond .ne 7, 3) := by decide +kernel
theorem dX1_makeRoot_10 : decode cX1_makeRoot 10 = .ok (.iconst 1, 1) := by decide +kernel
theorem dX1_makeRoot_11 : decode cX1_makeRoot 11 = .ok (.goto 17, 3) := by decide +kernel
theorem dX1_makeRoot_14 : decode cX1_makeRoot 14 = .ok (.aload_n 0, 1) := by decide +kernel
theorem dX1_makeRoot_15 : decode cX1_makeRoot 15 = .ok (.getfield 23, 3) := by decide +kernel
theorem dX1_makeRoot_18 : decode cX1_makeRoot 18 = .ok (.iload_n 1, 1) := by decide +kernel
theorem dX1_makeRoot_19 : decode cX1_makeRoot 19 = .ok (.baload, 1) := by decide +kernel
theorem dX1_makeRoot_20 : decode cX1_makeRoot 20 = .ok (.ifCond .eq 7, 3) := by decide +kernel
theorem dX1_makeRoot_23 : decode cX1_makeRoot 23 = .ok (.iconst 2, 1) := by decide +kernel
theorem dX1_makeRoot_24 : decode cX1_makeRoot 24 = .ok (.goto 4, 3) := by decide +kernel
theorem dX1_makeRoot_27 : decode cX1_makeRoot 27 = .ok (.iconst 0, 1) := by decide +kernel
theorem dX1_makeRoot_28 : decode cX1_makeRoot 28 = .ok (.invokevirtual 95, 3) := by decide +kernel
theorem dX1_makeRoot_31 : decode cX1_makeRoot 31 = .ok (.ifCond .eq 5, 3) := by decide +kernel
theorem dX1_makeRoot_34 : decode cX1_makeRoot 34 = .ok (.iconst 0, 1) := by decide +kernel
theorem dX1_makeRoot_35 : decode cX1_makeRoot 35 = .ok (.ireturn, 1) := by decide +kernel
theorem dX1_makeRoot_36 : decode cX1_makeRoot 36 = .ok (.aload_n 0, 1) := by decide +kernel
theorem dX1_makeRoot_37 : decode cX1_makeRoot 37 = .ok (.getfield 23, 3) := by decide +kernel
theorem dX1_makeRoot_40 : decode cX1_makeRoot 40 = .ok (.iload_n 1, 1) := by decide +kernel
theorem dX1_makeRoot_41 : decode cX1_makeRoot 41 = .ok (.iconst 1, 1) := by decide +kernel
theorem dX1_makeRoot_42 : decode cX1_makeRoot 42 = .ok (.bastore, 1) := by decide +kernel
theorem dX1_makeRoot_43 : decode cX1_makeRoot 43 = .ok (.aload_n 0, 1) := by decide +kernel
theorem dX1_makeRoot_44 : decode cX1_makeRoot 44 = .ok (.iload_n 1, 1) := by decide +kernel
theorem dX1_makeRoot_45 : decode cX1_makeRoot 45 = .ok (.invokevirtual 102, 3) := by decide +kernel
theorem dX1_makeRoot_48 : decode cX1_makeRoot 48 = .ok (.aload_n 0, 1) := by decide +kernel
theorem dX1_makeRoot_49 : decode cX1_makeRoot 49 = .ok (.getfield 33, 3) := by decide +kernel
theorem dX1_makeRoot_52 : decode cX1_makeRoot 52 = .ok (.iload_n 1, 1) := by decide +kernel
theorem dX1_makeRoot_53 : decode cX1_makeRoot 53 = .ok (.iaload, 1) := by decide +kernel
theorem dX1_makeRoot_54 : decode cX1_makeRoot 54 = .ok (.ireturn, 1) := by decide +kernel
set_option maxRecDepth 20000 in
theorem ggX1_endRoot_X1_isNode : GoodIn wsX1_endRoot wsX1_isNode := goodIn_r _ [8, 9, 10, 7, 11] (by decide +kernel) (by decide +kernel)
set_option maxRecDepth 20000 in
theorem gX1_endRoot_X1_isNode : GoodIn wsX1_endRoot (va_wsS RX1 99 yX1_isNode wsX1_isNode) := goodIn_app (goodIn_of _ (by decide +kernel)) ggX1_endRoot_X1_isNode
set_option maxRecDepth 20000 in
theorem ggX1_endRoot_X1_fails : GoodIn wsX1_endRoot wsX1_fails := goodIn_r _ [15, 16, 49, 50, 51, 52, 53, 54, 55, 56, 57, 58, 59, 60, 61, 62, 63, 64, 65, 66, 67, 68, 69] (by decide +kernel) (by decide +kernel)
set_option maxRecDepth 20000 in
theorem gX1_endRoot_X1_fails : GoodIn wsX1_endRoot (wsV RX1 95 RX1 yX1_fails wsX1_fails) := goodIn_app (goodIn_of _ (by decide +kernel)) ggX1_endRoot_X1_fails
set_option maxRecDepth 20000 in
theorem ggX1_endRoot_X1_resets : GoodIn wsX1_endRoot wsX1_resets := goodIn_r _ [20, 21, 22, 23, 24, 49, 50, 51, 52, 53, 54, 55, 56, 57, 58, 59, 60, 61, 62, 63, 64, 65, 66, 67, 68, 69] (by decide +kernel) (by decide +kernel)
set_option maxRecDepth 20000 in
theorem gX1_endRoot_X1_resets : GoodIn wsX1_endRoot (wsV RX1 88 RX1 yX1_resets wsX1_resets) := goodIn_app (goodIn_of _ (by decide +kernel)) ggX1_endRoot_X1_resets
set_option maxRecDepth 20000 in
theorem ggX1_endRoot_X1_chooses : GoodIn wsX1_endRoot wsX1_chooses := goodIn_r _ [28, 1, 29, 30, 2, 3, 4, 31, 32, 33, 7, 34, 35, 36, 37, 38, 39, 9, 10, 11, 40, 41, 42, 43, 44, 45, 46, 47, 48, 17, 18, 19, 20, 21, 22, 23, 24, 49, 50, 51, 52, 53, 54, 55, 56, 57, 58, 59, 60, 61, 62, 63, 64, 65, 66, 67, 68, 69] (by decide +kernel) (by decide +kernel)
set_option maxRecDepth 20000 in
theorem gX1_endRoot_X1_chooses : GoodIn wsX1_endRoot (wsV RX1 92 RX1 yX1_chooses wsX1_chooses) := goodIn_app (goodIn_of _ (by decide +kernel)) ggX1_endRoot_X1_chooses
theorem dX1_endRoot_0 : decode cX1_endRoot 0 = .ok (.iload_n 1, 1) := by decide +kernel
theorem dX1_endRoot_1 : decode cX1_endRoot 1 = .ok (.invokestatic 99, 3) := by decide +kernel
theorem dX1_endRoot_4 : decode cX1_endRoot 4 = .ok (.istore_n 2, 1) := by decide +kernel
theorem dX1_endRoot_5 : decode cX1_endRoot 5 = .ok (.aload_n 0, 1) := by decide +kernel
theorem dX1_endRoot_6 : decode cX1_endRoot 6 = .ok (.iload_n 2, 1) := by decide +kernel
theorem dX1_endRoot_7 : decode cX1_endRoot 7 = .ok (.ifCond .ne 7, 3) := by decide +kernel
theorem dX1_endRoot_10 : decode cX1_endRoot 10 = .ok (.iconst 1, 1) := by decide +kernel
theorem dX1_endRoot_11 : decode cX1_endRoot 11 = .ok (.goto 17, 3) := by decide +kernel
theorem dX1_endRoot_14 : decode cX1_endRoot 14 = .ok (.aload_n 0, 1) := by decide +kernel
theorem dX1_endRoot_15 : decode cX1_endRoot 15 = .ok (.getfield 23, 3) := by decide +kernel
theorem dX1_endRoot_18 : decode cX1_endRoot 18 = .ok (.iload_n 1, 1) := by decide +kernel
theorem dX1_endRoot_19 : decode cX1_endRoot 19 = .ok (.baload, 1) := by decide +kernel
theorem dX1_endRoot_20 : decode cX1_endRoot 20 = .ok (.ifCond .eq 7, 3) := by decide +kernel
theorem dX1_endRoot_23 : decode cX1_endRoot 23 = .ok (.iconst 0, 1) := by decide +kernel
theorem dX1_endRoot_24 : decode cX1_endRoot 24 = .ok (.goto 4, 3) := by decide +kernel
theorem dX1_endRoot_27 : decode cX1_endRoot 27 = .ok (.iconst 2, 1) := by decide +kernel
theorem dX1_endRoot_28 : decode cX1_endRoot 28 = .ok (.invokevirtual 95, 3) := by decide +kernel
theorem dX1_endRoot_31 : decode cX1_endRoot 31 = .ok (.ifCond .ne 43, 3) := by decide +kernel
theorem dX1_endRoot_34 : decode cX1_endRoot 34 = .ok (.aload_n 0, 1) := by decide +kernel
theorem dX1_endRoot_35 : decode cX1_endRoot 35 = .ok (.getfield 23, 3) := by decide +kernel
theorem dX1_endRoot_38 : decode cX1_endRoot 38 = .ok (.iload_n 1, 1) := by decide +kernel
theorem dX1_endRoot_39 : decode cX1_endRoot 39 = .ok (.iconst 0, 1) := by decide +kernel
theorem dX1_endRoot_40 : decode cX1_endRoot 40 = .ok (.bastore, 1) := by decide +kernel
theorem dX1_endRoot_41 : decode cX1_endRoot 41 = .ok (.aload_n 0, 1) := by decide +kernel
theorem dX1_endRoot_42 : decode cX1_endRoot 42 = .ok (.getfield 30, 3) := by decide +kernel
theorem dX1_endRoot_45 : decode cX1_endRoot 45 = .ok (.iload_n 1, 1) := by decide +kernel
theorem dX1_endRoot_46 : decode cX1_endRoot 46 = .ok (.iconst (-1), 1) := by decide +kernel
theorem dX1_endRoot_47 : decode cX1_endRoot 47 = .ok (.iastore, 1) := by decide +kernel
theorem dX1_endRoot_48 : decode cX1_endRoot 48 = .ok (.aload_n 0, 1) := by decide +kernel
theorem dX1_endRoot_49 : decode cX1_endRoot 49 = .ok (.getfield 33, 3) := by decide +kernel
theorem dX1_endRoot_52 : decode cX1_endRoot 52 = .ok (.iload_n 1, 1) := by decide +kernel
theorem dX1_endRoot_53 : decode cX1_endRoot 53 = .ok (.iconst 0, 1) := by decide +kernel
theorem dX1_endRoot_54 : decode cX1_endRoot 54 = .ok (.iastore, 1) := by decide +kernel
theorem dX1_endRoot_55 : decode cX1_endRoot 55 = .ok (.aload_n 0, 1) := by decide +kernel
theorem dX1_endRoot_56 : decode cX1_endRoot 56 = .ok (.getfield 36, 3) := by decide +kernel
theorem dX1_endRoot_59 : decode cX1_endRoot 59 = .ok (.iload_n 1, 1) := by decide +kernel
theorem dX1_endRoot_60 : decode cX1_endRoot 60 = .ok (.sipush 10000, 3) := by decide +kernel
theorem dX1_endRoot_63 : decode cX1_endRoot 63 = .ok (.iastore, 1) := by decide +kernel
theorem dX1_endRoot_64 : decode cX1_endRoot 64 = .ok (.aload_n 0, 1) := by decide +kernel
theorem dX1_endRoot_65 : decode cX1_endRoot 65 = .ok (.iload_n 1, 1) := by decide +kernel
theorem dX1_endRoot_66 : decode cX1_endRoot 66 = .ok (.invokevirtual 88, 3) := by decide +kernel
theorem dX1_endRoot_69 : decode cX1_endRoot 69 = .ok (.aload_n 0, 1) := by decide +kernel
theorem dX1_endRoot_70 : decode cX1_endRoot 70 = .ok (.iload_n 1, 1) := by decide +kernel
theorem dX1_endRoot_71 : decode cX1_endRoot 71 = .ok (.invokevirtual 92, 3) := by decide +kernel
theorem dX1_endRoot_74 : decode cX1_endRoot 74 = .ok (.return_, 1) := by decide +kernel
set_option maxRecDepth 20000 in
theorem ggX1_renew_X1_isNode : GoodIn wsX1_renew wsX1_isNode := goodIn_r _ [6, 7, 8, 5, 9] (by decide +kernel) (by decide +kernel)
set_option maxRecDepth 20000 in
theorem gX1_renew_X1_isNode : GoodIn wsX1_renew (va_wsS RX1 99 yX1_isNode wsX1_isNode) := goodIn_app (goodIn_of _ (by decide +kernel)) ggX1_renew_X1_isNode
set_option maxRecDepth 20000 in
theorem ggX1_renew_X1_fails : GoodIn wsX1_renew wsX1_fails := goodIn_r _ [13, 14, 32, 33, 34, 35, 36, 37, 38, 39, 40, 41, 42, 43, 44, 45, 46, 47, 48, 49, 50, 51, 52] (by decide +kernel) (by decide +kernel)
set_option maxRecDepth 20000 in
theorem gX1_renew_X1_fails : GoodIn wsX1_renew (wsV RX1 95 RX1 yX1_fails wsX1_fails) := goodIn_app (goodIn_of _ (by decide +kernel)) ggX1_renew_X1_fails
set_option maxRecDepth 20000 in
theorem ggX1_renew_X1_begins : GoodIn wsX1_renew wsX1_begins := goodIn_r _ [18, 19, 20, 2, 21, 22, 23, 24, 25, 26, 5, 27, 28, 29, 30, 31, 32, 33, 34, 35, 36, 37, 38, 39, 40, 41, 42, 43, 44, 45, 46, 47, 48, 49, 50, 51, 52] (by decide +kernel) (by decide +kernel)
set_option maxRecDepth 20000 in
theorem gX1_renew_X1_begins : GoodIn wsX1_renew (wsV RX1 102 RX1 yX1_begins wsX1_begins) := goodIn_app (goodIn_of _ (by decide +kernel)) ggX1_renew_X1_begins
theorem dX1_renew_0 : decode cX1_renew 0 = .ok (.iload_n 1, 1) := by decide +kernel
theorem dX1_renew_1 : decode cX1_renew 1 = .ok (.invokestatic 99, 3) := by decide +kernel
theorem dX1_renew_4 : decode cX1_renew 4 = .ok (.istore_n 2, 1) := by decide +kernel
theorem dX1_renew_5 : decode cX1_renew 5 = .ok (.aload_n 0, 1) := by decide +kernel
theorem dX1_renew_6 : decode cX1_renew 6 = .ok (.iload_n 2, 1) := by decide +kernel
theorem dX1_renew_7 : decode cX1_renew 7 = .ok (.ifCond .ne 7, 3) := by decide +kernel
theorem dX1_renew_10 : decode cX1_renew 10 = .ok (.iconst 1, 1) := by decide +kernel
theorem dX1_renew_11 : decode cX1_renew 11 = .ok (.goto 17, 3) := by decide +kernel
theorem dX1_renew_14 : decode cX1_renew 14 = .ok (.aload_n 0, 1) := by decide +kernel
theorem dX1_renew_15 : decode cX1_renew 15 = .ok (.getfield 23, 3) := by decide +kernel
theorem dX1_renew_18 : decode cX1_renew 18 = .ok (.iload_n 1, 1) := by decide +kernel
theorem dX1_renew_19 : decode cX1_renew 19 = .ok (.baload, 1) := by decide +kernel
theorem dX1_renew_20 : decode cX1_renew 20 = .ok (.ifCond .eq 7, 3) := by decide +kernel
theorem dX1_renew_23 : decode cX1_renew 23 = .ok (.iconst 0, 1) := by decide +kernel
theorem dX1_renew_24 : decode cX1_renew 24 = .ok (.goto 4, 3) := by decide +kernel
theorem dX1_renew_27 : decode cX1_renew 27 = .ok (.iconst 2, 1) := by decide +kernel
end
section
theorem dX1_renew_28 : decode cX1_renew 28 = .ok (.invokevirtual 95, 3) := by decide +kernel
theorem dX1_renew_31 : decode cX1_renew 31 = .ok (.ifCond .eq 5, 3) := by decide +kernel
theorem dX1_renew_34 : decode cX1_renew 34 = .ok (.iconst 0, 1) := by decide +kernel
theorem dX1_renew_35 : decode cX1_renew 35 = .ok (.ireturn, 1) := by decide +kernel
theorem dX1_renew_36 : decode cX1_renew 36 = .ok (.aload_n 0, 1) := by decide +kernel
theorem dX1_renew_37 : decode cX1_renew 37 = .ok (.iload_n 1, 1) := by decide +kernel
theorem dX1_renew_38 : decode cX1_renew 38 = .ok (.invokevirtual 102, 3) := by decide +kernel
theorem dX1_renew_41 : decode cX1_renew 41 = .ok (.aload_n 0, 1) := by decide +kernel
theorem dX1_renew_42 : decode cX1_renew 42 = .ok (.getfield 33, 3) := by decide +kernel
theorem dX1_renew_45 : decode cX1_renew 45 = .ok (.iload_n 1, 1) := by decide +kernel
theorem dX1_renew_46 : decode cX1_renew 46 = .ok (.iaload, 1) := by decide +kernel
theorem dX1_renew_47 : decode cX1_renew 47 = .ok (.ireturn, 1) := by decide +kernel
set_option maxRecDepth 20000 in
theorem ggX1_pass_X1_isIn : GoodIn wsX1_pass wsX1_isIn := goodIn_r _ [9] (by decide +kernel) (by decide +kernel)
set_option maxRecDepth 20000 in
theorem gX1_pass_X1_isIn : GoodIn wsX1_pass (va_wsS RX1 66 yX1_isIn wsX1_isIn) := goodIn_app (goodIn_of _ (by decide +kernel)) ggX1_pass_X1_isIn
set_option maxRecDepth 20000 in
theorem ggX1_pass_X1_fails : GoodIn wsX1_pass wsX1_fails := goodIn_r _ [13, 14, 51, 52, 53, 54, 55, 56, 57, 58, 59, 60, 61, 62, 63, 64, 65, 66, 67, 68, 69, 70, 71] (by decide +kernel) (by decide +kernel)
set_option maxRecDepth 20000 in
theorem gX1_pass_X1_fails : GoodIn wsX1_pass (wsV RX1 95 RX1 yX1_fails wsX1_fails) := goodIn_app (goodIn_of _ (by decide +kernel)) ggX1_pass_X1_fails
set_option maxRecDepth 20000 in
theorem ggX1_pass_X1_tells : GoodIn wsX1_pass wsX1_tells := goodIn_r _ [18, 19, 20, 21, 22, 23, 24, 25, 26, 27, 28, 8, 29, 30, 31, 32, 33, 34, 35, 36, 37, 38, 6, 7, 9, 39, 40, 41, 42, 43, 44, 45, 46, 47, 48, 49, 50, 5, 3, 2, 1, 51, 52, 53, 54, 55, 56, 57, 58, 59, 60, 61, 62, 63, 64, 65, 66, 67, 68, 69, 70, 71] (by decide +kernel) (by decide +kernel)
set_option maxRecDepth 20000 in
theorem gX1_pass_X1_tells : GoodIn wsX1_pass (wsV RX1 105 RX1 yX1_tells wsX1_tells) := goodIn_app (goodIn_of _ (by decide +kernel)) ggX1_pass_X1_tells
theorem dX1_pass_0 : decode cX1_pass 0 = .ok (.aload_n 0, 1) := by decide +kernel
theorem dX1_pass_1 : decode cX1_pass 1 = .ok (.iload_n 1, 1) := by decide +kernel
theorem dX1_pass_2 : decode cX1_pass 2 = .ok (.iconst 1, 1) := by decide +kernel
theorem dX1_pass_3 : decode cX1_pass 3 = .ok (.bipush 100, 2) := by decide +kernel
theorem dX1_pass_5 : decode cX1_pass 5 = .ok (.invokestatic 66, 3) := by decide +kernel
theorem dX1_pass_8 : decode cX1_pass 8 = .ok (.ifCond .eq 7, 3) := by decide +kernel
theorem dX1_pass_11 : decode cX1_pass 11 = .ok (.iconst 0, 1) := by decide +kernel
theorem dX1_pass_12 : decode cX1_pass 12 = .ok (.goto 4, 3) := by decide +kernel
theorem dX1_pass_15 : decode cX1_pass 15 = .ok (.iconst 1, 1) := by decide +kernel
theorem dX1_pass_16 : decode cX1_pass 16 = .ok (.invokevirtual 95, 3) := by decide +kernel
theorem dX1_pass_19 : decode cX1_pass 19 = .ok (.ifCond .eq 5, 3) := by decide +kernel
theorem dX1_pass_22 : decode cX1_pass 22 = .ok (.iconst 0, 1) := by decide +kernel
theorem dX1_pass_23 : decode cX1_pass 23 = .ok (.ireturn, 1) := by decide +kernel
theorem dX1_pass_24 : decode cX1_pass 24 = .ok (.iconst 0, 1) := by decide +kernel
theorem dX1_pass_25 : decode cX1_pass 25 = .ok (.istore_n 2, 1) := by decide +kernel
theorem dX1_pass_26 : decode cX1_pass 26 = .ok (.iconst 0, 1) := by decide +kernel
theorem dX1_pass_27 : decode cX1_pass 27 = .ok (.istore_n 3, 1) := by decide +kernel
theorem dX1_pass_28 : decode cX1_pass 28 = .ok (.iload_n 3, 1) := by decide +kernel
theorem dX1_pass_29 : decode cX1_pass 29 = .ok (.iload_n 1, 1) := by decide +kernel
theorem dX1_pass_30 : decode cX1_pass 30 = .ok (.if_icmp .ge 123, 3) := by decide +kernel
theorem dX1_pass_33 : decode cX1_pass 33 = .ok (.aload_n 0, 1) := by decide +kernel
theorem dX1_pass_34 : decode cX1_pass 34 = .ok (.dup, 1) := by decide +kernel
theorem dX1_pass_35 : decode cX1_pass 35 = .ok (.getfield 70, 3) := by decide +kernel
theorem dX1_pass_38 : decode cX1_pass 38 = .ok (.iconst 1, 1) := by decide +kernel
theorem dX1_pass_39 : decode cX1_pass 39 = .ok (.iadd, 1) := by decide +kernel
theorem dX1_pass_40 : decode cX1_pass 40 = .ok (.putfield 70, 3) := by decide +kernel
theorem dX1_pass_43 : decode cX1_pass 43 = .ok (.iconst 0, 1) := by decide +kernel
theorem dX1_pass_44 : decode cX1_pass 44 = .ok (.istore 4, 2) := by decide +kernel
theorem dX1_pass_46 : decode cX1_pass 46 = .ok (.iload 4, 2) := by decide +kernel
theorem dX1_pass_48 : decode cX1_pass 48 = .ok (.bipush 10, 2) := by decide +kernel
theorem dX1_pass_50 : decode cX1_pass 50 = .ok (.if_icmp .ge 97, 3) := by decide +kernel
theorem dX1_pass_53 : decode cX1_pass 53 = .ok (.aload_n 0, 1) := by decide +kernel
theorem dX1_pass_54 : decode cX1_pass 54 = .ok (.getfield 48, 3) := by decide +kernel
theorem dX1_pass_57 : decode cX1_pass 57 = .ok (.iload 4, 2) := by decide +kernel
theorem dX1_pass_59 : decode cX1_pass 59 = .ok (.iaload, 1) := by decide +kernel
theorem dX1_pass_60 : decode cX1_pass 60 = .ok (.aload_n 0, 1) := by decide +kernel
theorem dX1_pass_61 : decode cX1_pass 61 = .ok (.getfield 70, 3) := by decide +kernel
theorem dX1_pass_64 : decode cX1_pass 64 = .ok (.if_icmp .ne 77, 3) := by decide +kernel
theorem dX1_pass_67 : decode cX1_pass 67 = .ok (.aload_n 0, 1) := by decide +kernel
theorem dX1_pass_68 : decode cX1_pass 68 = .ok (.iload 4, 2) := by decide +kernel
theorem dX1_pass_70 : decode cX1_pass 70 = .ok (.invokevirtual 105, 3) := by decide +kernel
theorem dX1_pass_73 : decode cX1_pass 73 = .ok (.aload_n 0, 1) := by decide +kernel
theorem dX1_pass_74 : decode cX1_pass 74 = .ok (.getfield 13, 3) := by decide +kernel
theorem dX1_pass_77 : decode cX1_pass 77 = .ok (.aload_n 0, 1) := by decide +kernel
theorem dX1_pass_78 : decode cX1_pass 78 = .ok (.getfield 16, 3) := by decide +kernel
theorem dX1_pass_81 : decode cX1_pass 81 = .ok (.ishl, 1) := by decide +kernel
theorem dX1_pass_82 : decode cX1_pass 82 = .ok (.istore 5, 2) := by decide +kernel
theorem dX1_pass_84 : decode cX1_pass 84 = .ok (.aload_n 0, 1) := by decide +kernel
theorem dX1_pass_85 : decode cX1_pass 85 = .ok (.getfield 45, 3) := by decide +kernel
theorem dX1_pass_88 : decode cX1_pass 88 = .ok (.iload 4, 2) := by decide +kernel
theorem dX1_pass_90 : decode cX1_pass 90 = .ok (.iconst 2, 1) := by decide +kernel
theorem dX1_pass_91 : decode cX1_pass 91 = .ok (.aload_n 0, 1) := by decide +kernel
theorem dX1_pass_92 : decode cX1_pass 92 = .ok (.getfield 45, 3) := by decide +kernel
theorem dX1_pass_95 : decode cX1_pass 95 = .ok (.iload 4, 2) := by decide +kernel
theorem dX1_pass_97 : decode cX1_pass 97 = .ok (.iaload, 1) := by decide +kernel
theorem dX1_pass_98 : decode cX1_pass 98 = .ok (.imul, 1) := by decide +kernel
theorem dX1_pass_99 : decode cX1_pass 99 = .ok (.iload 5, 2) := by decide +kernel
theorem dX1_pass_101 : decode cX1_pass 101 = .ok (.if_icmp .le 8, 3) := by decide +kernel
theorem dX1_pass_104 : decode cX1_pass 104 = .ok (.iload 5, 2) := by decide +kernel
theorem dX1_pass_106 : decode cX1_pass 106 = .ok (.goto 12, 3) := by decide +kernel
theorem dX1_pass_109 : decode cX1_pass 109 = .ok (.iconst 2, 1) := by decide +kernel
theorem dX1_pass_110 : decode cX1_pass 110 = .ok (.aload_n 0, 1) := by decide +kernel
theorem dX1_pass_111 : decode cX1_pass 111 = .ok (.getfield 45, 3) := by decide +kernel
theorem dX1_pass_114 : decode cX1_pass 114 = .ok (.iload 4, 2) := by decide +kernel
theorem dX1_pass_116 : decode cX1_pass 116 = .ok (.iaload, 1) := by decide +kernel
theorem dX1_pass_117 : decode cX1_pass 117 = .ok (.imul, 1) := by decide +kernel
theorem dX1_pass_118 : decode cX1_pass 118 = .ok (.iastore, 1) := by decide +kernel
theorem dX1_pass_119 : decode cX1_pass 119 = .ok (.aload_n 0, 1) := by decide +kernel
theorem dX1_pass_120 : decode cX1_pass 120 = .ok (.getfield 48, 3) := by decide +kernel
theorem dX1_pass_123 : decode cX1_pass 123 = .ok (.iload 4, 2) := by decide +kernel
theorem dX1_pass_125 : decode cX1_pass 125 = .ok (.aload_n 0, 1) := by decide +kernel
theorem dX1_pass_126 : decode cX1_pass 126 = .ok (.getfield 70, 3) := by decide +kernel
theorem dX1_pass_129 : decode cX1_pass 129 = .ok (.aload_n 0, 1) := by decide +kernel
theorem dX1_pass_130 : decode cX1_pass 130 = .ok (.getfield 45, 3) := by decide +kernel
theorem dX1_pass_133 : decode cX1_pass 133 = .ok (.iload 4, 2) := by decide +kernel
theorem dX1_pass_135 : decode cX1_pass 135 = .ok (.iaload, 1) := by decide +kernel
theorem dX1_pass_136 : decode cX1_pass 136 = .ok (.iadd, 1) := by decide +kernel
theorem dX1_pass_137 : decode cX1_pass 137 = .ok (.iastore, 1) := by decide +kernel
theorem dX1_pass_138 : decode cX1_pass 138 = .ok (.iinc 2 1, 3) := by decide +kernel
theorem dX1_pass_141 : decode cX1_pass 141 = .ok (.iinc 4 1, 3) := by decide +kernel
theorem dX1_pass_144 : decode cX1_pass 144 = .ok (.goto (-98), 3) := by decide +kernel
theorem dX1_pass_147 : decode cX1_pass 147 = .ok (.iinc 3 1, 3) := by decide +kernel
theorem dX1_pass_150 : decode cX1_pass 150 = .ok (.goto (-122), 3) := by decide +kernel
theorem dX1_pass_153 : decode cX1_pass 153 = .ok (.iload_n 2, 1) := by decide +kernel
theorem dX1_pass_154 : decode cX1_pass 154 = .ok (.ireturn, 1) := by decide +kernel
theorem dX1_time_0 : decode cX1_time 0 = .ok (.aload_n 0, 1) := by decide +kernel
theorem dX1_time_1 : decode cX1_time 1 = .ok (.iconst 0, 1) := by decide +kernel
theorem dX1_time_2 : decode cX1_time 2 = .ok (.putfield 63, 3) := by decide +kernel
theorem dX1_time_5 : decode cX1_time 5 = .ok (.aload_n 0, 1) := by decide +kernel
theorem dX1_time_6 : decode cX1_time 6 = .ok (.getfield 70, 3) := by decide +kernel
theorem dX1_time_9 : decode cX1_time 9 = .ok (.ireturn, 1) := by decide +kernel
set_option maxRecDepth 20000 in
theorem ggX1_of_X1_isNode : GoodIn wsX1_of wsX1_isNode := goodIn_r _ [4, 5, 6, 3, 7] (by decide +kernel) (by decide +kernel)
set_option maxRecDepth 20000 in
theorem gX1_of_X1_isNode : GoodIn wsX1_of (va_wsS RX1 99 yX1_isNode wsX1_isNode) := goodIn_app (goodIn_of _ (by decide +kernel)) ggX1_of_X1_isNode
set_option maxRecDepth 20000 in
theorem ggX1_of_X1_fails : GoodIn wsX1_of wsX1_fails := goodIn_r _ [11, 12, 13, 14, 15, 16, 17, 18, 19, 20, 21, 22, 23, 24, 25, 26, 27, 28, 29, 30, 31, 32, 33] (by decide +kernel) (by decide +kernel)
set_option maxRecDepth 20000 in
theorem gX1_of_X1_fails : GoodIn wsX1_of (wsV RX1 95 RX1 yX1_fails wsX1_fails) := goodIn_app (goodIn_of _ (by decide +kernel)) ggX1_of_X1_fails
theorem dX1_of_0 : decode cX1_of 0 = .ok (.aload_n 0, 1) := by decide +kernel
theorem dX1_of_1 : decode cX1_of 1 = .ok (.iload_n 2, 1) := by decide +kernel
theorem dX1_of_2 : decode cX1_of 2 = .ok (.invokestatic 99, 3) := by decide +kernel
theorem dX1_of_5 : decode cX1_of 5 = .ok (.ifCond .eq 7, 3) := by decide +kernel
theorem dX1_of_8 : decode cX1_of 8 = .ok (.iconst 0, 1) := by decide +kernel
theorem dX1_of_9 : decode cX1_of 9 = .ok (.goto 4, 3) := by decide +kernel
theorem dX1_of_12 : decode cX1_of 12 = .ok (.iconst 1, 1) := by decide +kernel
theorem dX1_of_13 : decode cX1_of 13 = .ok (.invokevirtual 95, 3) := by decide +kernel
theorem dX1_of_16 : decode cX1_of 16 = .ok (.ifCond .eq 7, 3) := by decide +kernel
theorem dX1_of_19 : decode cX1_of 19 = .ok (.iconst 0, 1) := by decide +kernel
theorem dX1_of_20 : decode cX1_of 20 = .ok (.goto 6, 3) := by decide +kernel
theorem dX1_of_23 : decode cX1_of 23 = .ok (.aload_n 1, 1) := by decide +kernel
theorem dX1_of_24 : decode cX1_of 24 = .ok (.iload_n 2, 1) := by decide +kernel
theorem dX1_of_25 : decode cX1_of 25 = .ok (.iaload, 1) := by decide +kernel
theorem dX1_of_26 : decode cX1_of 26 = .ok (.ireturn, 1) := by decide +kernel
set_option maxRecDepth 20000 in
theorem ggX1_rank_X1_of : GoodIn wsX1_rank wsX1_of := goodIn_r _ [6, 7, 8, 5, 9, 10, 11, 12, 13, 14, 15, 16, 17, 18, 19, 20, 21, 22, 23, 24, 25, 26, 27, 28, 29, 30, 31, 32, 33, 34, 35, 36, 37, 38] (by decide +kernel) (by decide +kernel)
set_option maxRecDepth 20000 in
theorem gX1_rank_X1_of : GoodIn wsX1_rank (wsV RX1 108 RX1 yX1_of wsX1_of) := goodIn_app (goodIn_of _ (by decide +kernel)) ggX1_rank_X1_of
theorem dX1_rank_0 : decode cX1_rank 0 = .ok (.aload_n 0, 1) := by decide +kernel
theorem dX1_rank_1 : decode cX1_rank 1 = .ok (.aload_n 0, 1) := by decide +kernel
theorem dX1_rank_2 : decode cX1_rank 2 = .ok (.getfield 36, 3) := by decide +kernel
theorem dX1_rank_5 : decode cX1_rank 5 = .ok (.iload_n 1, 1) := by decide +kernel
theorem dX1_rank_6 : decode cX1_rank 6 = .ok (.invokevirtual 108, 3) := by decide +kernel
theorem dX1_rank_9 : decode cX1_rank 9 = .ok (.ireturn, 1) := by decide +kernel
set_option maxRecDepth 20000 in
theorem ggX1_parent_X1_of : GoodIn wsX1_parent wsX1_of := goodIn_r _ [6, 7, 8, 5, 9, 10, 11, 12, 13, 14, 15, 16, 17, 18, 19, 20, 21, 22, 23, 24, 25, 26, 27, 28, 29, 30, 31, 32, 33, 34, 35, 36, 37, 38] (by decide +kernel) (by decide +kernel)
set_option maxRecDepth 20000 in
theorem gX1_parent_X1_of : GoodIn wsX1_parent (wsV RX1 108 RX1 yX1_of wsX1_of) := goodIn_app (goodIn_of _ (by decide +kernel)) ggX1_parent_X1_of
theorem dX1_parent_0 : decode cX1_parent 0 = .ok (.aload_n 0, 1) := by decide +kernel
theorem dX1_parent_1 : decode cX1_parent 1 = .ok (.aload_n 0, 1) := by decide +kernel
theorem dX1_parent_2 : decode cX1_parent 2 = .ok (.getfield 39, 3) := by decide +kernel
theorem dX1_parent_5 : decode cX1_parent 5 = .ok (.iload_n 1, 1) := by decide +kernel
theorem dX1_parent_6 : decode cX1_parent 6 = .ok (.invokevirtual 108, 3) := by decide +kernel
theorem dX1_parent_9 : decode cX1_parent 9 = .ok (.ireturn, 1) := by decide +kernel
set_option maxRecDepth 20000 in
theorem ggX1_tree_X1_isNode : GoodIn wsX1_tree wsX1_isNode := goodIn_r _ [6, 7, 8, 5, 9] (by decide +kernel) (by decide +kernel)
set_option maxRecDepth 20000 in
theorem gX1_tree_X1_isNode : GoodIn wsX1_tree (va_wsS RX1 99 yX1_isNode wsX1_isNode) := goodIn_app (goodIn_of _ (by decide +kernel)) ggX1_tree_X1_isNode
set_option maxRecDepth 20000 in
theorem ggX1_tree_X1_fails : GoodIn wsX1_tree wsX1_fails := goodIn_r _ [13, 14, 15, 16, 17, 18, 19, 20, 21, 22, 23, 24, 25, 26, 27, 28, 29, 30, 31, 32, 33, 34, 35] (by decide +kernel) (by decide +kernel)
set_option maxRecDepth 20000 in
theorem gX1_tree_X1_fails : GoodIn wsX1_tree (wsV RX1 95 RX1 yX1_fails wsX1_fails) := goodIn_app (goodIn_of _ (by decide +kernel)) ggX1_tree_X1_fails
theorem dX1_tree_0 : decode cX1_tree 0 = .ok (.aload_n 0, 1) := by decide +kernel
theorem dX1_tree_1 : decode cX1_tree 1 = .ok (.iload_n 1, 1) := by decide +kernel
theorem dX1_tree_2 : decode cX1_tree 2 = .ok (.invokestatic 99, 3) := by decide +kernel
theorem dX1_tree_5 : decode cX1_tree 5 = .ok (.ifCond .eq 7, 3) := by decide +kernel
theorem dX1_tree_8 : decode cX1_tree 8 = .ok (.iconst 0, 1) := by decide +kernel
theorem dX1_tree_9 : decode cX1_tree 9 = .ok (.goto 4, 3) := by decide +kernel
theorem dX1_tree_12 : decode cX1_tree 12 = .ok (.iconst 1, 1) := by decide +kernel
theorem dX1_tree_13 : decode cX1_tree 13 = .ok (.invokevirtual 95, 3) := by decide +kernel
theorem dX1_tree_16 : decode cX1_tree 16 = .ok (.ifCond .eq 7, 3) := by decide +kernel
theorem dX1_tree_19 : decode cX1_tree 19 = .ok (.iconst 0, 1) := by decide +kernel
theorem dX1_tree_20 : decode cX1_tree 20 = .ok (.goto 33, 3) := by decide +kernel
theorem dX1_tree_23 : decode cX1_tree 23 = .ok (.aload_n 0, 1) := by decide +kernel
theorem dX1_tree_24 : decode cX1_tree 24 = .ok (.getfield 30, 3) := by decide +kernel
theorem dX1_tree_27 : decode cX1_tree 27 = .ok (.iload_n 1, 1) := by decide +kernel
theorem dX1_tree_28 : decode cX1_tree 28 = .ok (.iaload, 1) := by decide +kernel
theorem dX1_tree_29 : decode cX1_tree 29 = .ok (.iconst (-1), 1) := by decide +kernel
theorem dX1_tree_30 : decode cX1_tree 30 = .ok (.if_icmp .ne 7, 3) := by decide +kernel
theorem dX1_tree_33 : decode cX1_tree 33 = .ok (.iconst (-1), 1) := by decide +kernel
theorem dX1_tree_34 : decode cX1_tree 34 = .ok (.goto 19, 3) := by decide +kernel
theorem dX1_tree_37 : decode cX1_tree 37 = .ok (.bipush 10, 2) := by decide +kernel
theorem dX1_tree_39 : decode cX1_tree 39 = .ok (.aload_n 0, 1) := by decide +kernel
theorem dX1_tree_40 : decode cX1_tree 40 = .ok (.getfield 33, 3) := by decide +kernel
theorem dX1_tree_43 : decode cX1_tree 43 = .ok (.iload_n 1, 1) := by decide +kernel
theorem dX1_tree_44 : decode cX1_tree 44 = .ok (.iaload, 1) := by decide +kernel
theorem dX1_tree_45 : decode cX1_tree 45 = .ok (.imul, 1) := by decide +kernel
theorem dX1_tree_46 : decode cX1_tree 46 = .ok (.aload_n 0, 1) := by decide +kernel
theorem dX1_tree_47 : decode cX1_tree 47 = .ok (.getfield 30, 3) := by decide +kernel
theorem dX1_tree_50 : decode cX1_tree 50 = .ok (.iload_n 1, 1) := by decide +kernel
theorem dX1_tree_51 : decode cX1_tree 51 = .ok (.iaload, 1) := by decide +kernel
theorem dX1_tree_52 : decode cX1_tree 52 = .ok (.iadd, 1) := by decide +kernel
theorem dX1_tree_53 : decode cX1_tree 53 = .ok (.ireturn, 1) := by decide +kernel
set_option maxRecDepth 20000 in
theorem ggX1_nextTelling_X1_of : GoodIn wsX1_nextTelling wsX1_of := goodIn_r _ [6, 7, 8, 5, 9, 10, 11, 12, 13, 14, 15, 16, 17, 18, 19, 20, 21, 22, 23, 24, 25, 26, 27, 28, 29, 30, 31, 32, 33, 34, 35, 36, 37, 38] (by decide +kernel) (by decide +kernel)
set_option maxRecDepth 20000 in
theorem gX1_nextTelling_X1_of : GoodIn wsX1_nextTelling (wsV RX1 108 RX1 yX1_of wsX1_of) := goodIn_app (goodIn_of _ (by decide +kernel)) ggX1_nextTelling_X1_of
theorem dX1_nextTelling_0 : decode cX1_nextTelling 0 = .ok (.aload_n 0, 1) := by decide +kernel
theorem dX1_nextTelling_1 : decode cX1_nextTelling 1 = .ok (.aload_n 0, 1) := by decide +kernel
theorem dX1_nextTelling_2 : decode cX1_nextTelling 2 = .ok (.getfield 48, 3) := by decide +kernel
theorem dX1_nextTelling_5 : decode cX1_nextTelling 5 = .ok (.iload_n 1, 1) := by decide +kernel
theorem dX1_nextTelling_6 : decode cX1_nextTelling 6 = .ok (.invokevirtual 108, 3) := by decide +kernel
theorem dX1_nextTelling_9 : decode cX1_nextTelling 9 = .ok (.ireturn, 1) := by decide +kernel
set_option maxRecDepth 20000 in
theorem ggX1_heard_X1_isNode : GoodIn wsX1_heard wsX1_isNode := goodIn_r _ [5, 6, 7, 4, 8] (by decide +kernel) (by decide +kernel)
set_option maxRecDepth 20000 in
theorem gX1_heard_X1_isNode : GoodIn wsX1_heard (va_wsS RX1 99 yX1_isNode wsX1_isNode) := goodIn_app (goodIn_of _ (by decide +kernel)) ggX1_heard_X1_isNode
set_option maxRecDepth 20000 in
theorem ggX1_heard_X1_fails : GoodIn wsX1_heard wsX1_fails := goodIn_r _ [12, 13, 14, 15, 16, 17, 18, 19, 20, 21, 22, 23, 24, 25, 26, 27, 28, 29, 30, 31, 32, 33, 34] (by decide +kernel) (by decide +kernel)
set_option maxRecDepth 20000 in
theorem gX1_heard_X1_fails : GoodIn wsX1_heard (wsV RX1 95 RX1 yX1_fails wsX1_fails) := goodIn_app (goodIn_of _ (by decide +kernel)) ggX1_heard_X1_fails
theorem dX1_heard_0 : decode cX1_heard 0 = .ok (.aload_n 0, 1) := by decide +kernel
theorem dX1_heard_1 : decode cX1_heard 1 = .ok (.iload_n 1, 1) := by decide +kernel
theorem dX1_heard_2 : decode cX1_heard 2 = .ok (.invokestatic 99, 3) := by decide +kernel
theorem dX1_heard_5 : decode cX1_heard 5 = .ok (.ifCond .eq 14, 3) := by decide +kernel
theorem dX1_heard_8 : decode cX1_heard 8 = .ok (.iload_n 2, 1) := by decide +kernel
theorem dX1_heard_9 : decode cX1_heard 9 = .ok (.invokestatic 99, 3) := by decide +kernel
theorem dX1_heard_12 : decode cX1_heard 12 = .ok (.ifCond .eq 7, 3) := by decide +kernel
theorem dX1_heard_15 : decode cX1_heard 15 = .ok (.iconst 0, 1) := by decide +kernel
theorem dX1_heard_16 : decode cX1_heard 16 = .ok (.goto 4, 3) := by decide +kernel
theorem dX1_heard_19 : decode cX1_heard 19 = .ok (.iconst 1, 1) := by decide +kernel
theorem dX1_heard_20 : decode cX1_heard 20 = .ok (.invokevirtual 95, 3) := by decide +kernel
theorem dX1_heard_23 : decode cX1_heard 23 = .ok (.ifCond .eq 7, 3) := by decide +kernel
theorem dX1_heard_26 : decode cX1_heard 26 = .ok (.iconst 0, 1) := by decide +kernel
theorem dX1_heard_27 : decode cX1_heard 27 = .ok (.goto 14, 3) := by decide +kernel
theorem dX1_heard_30 : decode cX1_heard 30 = .ok (.aload_n 0, 1) := by decide +kernel
theorem dX1_heard_31 : decode cX1_heard 31 = .ok (.getfield 57, 3) := by decide +kernel
theorem dX1_heard_34 : decode cX1_heard 34 = .ok (.bipush 10, 2) := by decide +kernel
theorem dX1_heard_36 : decode cX1_heard 36 = .ok (.iload_n 1, 1) := by decide +kernel
theorem dX1_heard_37 : decode cX1_heard 37 = .ok (.imul, 1) := by decide +kernel
theorem dX1_heard_38 : decode cX1_heard 38 = .ok (.iload_n 2, 1) := by decide +kernel
theorem dX1_heard_39 : decode cX1_heard 39 = .ok (.iadd, 1) := by decide +kernel
theorem dX1_heard_40 : decode cX1_heard 40 = .ok (.iaload, 1) := by decide +kernel
theorem dX1_heard_41 : decode cX1_heard 41 = .ok (.ireturn, 1) := by decide +kernel
set_option maxRecDepth 20000 in
theorem ggX1_leastRank_X1_isNode : GoodIn wsX1_leastRank wsX1_isNode := goodIn_r _ [7, 8, 9, 6, 10] (by decide +kernel) (by decide +kernel)
set_option maxRecDepth 20000 in
theorem gX1_leastRank_X1_isNode : GoodIn wsX1_leastRank (va_wsS RX1 99 yX1_isNode wsX1_isNode) := goodIn_app (goodIn_of _ (by decide +kernel)) ggX1_leastRank_X1_isNode
set_option maxRecDepth 20000 in
theorem ggX1_leastRank_X1_fails : GoodIn wsX1_leastRank wsX1_fails := goodIn_r _ [14, 15, 16, 17, 18, 19, 20, 21, 22, 23, 24, 25, 26, 27, 28, 29, 30, 31, 32, 33, 34, 35, 36] (by decide +kernel) (by decide +kernel)
set_option maxRecDepth 20000 in
theorem gX1_leastRank_X1_fails : GoodIn wsX1_leastRank (wsV RX1 95 RX1 yX1_fails wsX1_fails) := goodIn_app (goodIn_of _ (by decide +kernel)) ggX1_leastRank_X1_fails
theorem dX1_leastRank_0 : decode cX1_leastRank 0 = .ok (.aload_n 0, 1) := by decide +kernel
theorem dX1_leastRank_1 : decode cX1_leastRank 1 = .ok (.iload_n 1, 1) := by decide +kernel
theorem dX1_leastRank_2 : decode cX1_leastRank 2 = .ok (.invokestatic 99, 3) := by decide +kernel
theorem dX1_leastRank_5 : decode cX1_leastRank 5 = .ok (.ifCond .eq 7, 3) := by decide +kernel
theorem dX1_leastRank_8 : decode cX1_leastRank 8 = .ok (.iconst 0, 1) := by decide +kernel
theorem dX1_leastRank_9 : decode cX1_leastRank 9 = .ok (.goto 4, 3) := by decide +kernel
theorem dX1_leastRank_12 : decode cX1_leastRank 12 = .ok (.iconst 1, 1) := by decide +kernel
theorem dX1_leastRank_13 : decode cX1_leastRank 13 = .ok (.invokevirtual 95, 3) := by decide +kernel
theorem dX1_leastRank_16 : decode cX1_leastRank 16 = .ok (.ifCond .eq 5, 3) := by decide +kernel
theorem dX1_leastRank_19 : decode cX1_leastRank 19 = .ok (.iconst 0, 1) := by decide +kernel
theorem dX1_leastRank_20 : decode cX1_leastRank 20 = .ok (.ireturn, 1) := by decide +kernel
theorem dX1_leastRank_21 : decode cX1_leastRank 21 = .ok (.iconst 0, 1) := by decide +kernel
theorem dX1_leastRank_22 : decode cX1_leastRank 22 = .ok (.istore_n 2, 1) := by decide +kernel
theorem dX1_leastRank_23 : decode cX1_leastRank 23 = .ok (.iload_n 2, 1) := by decide +kernel
theorem dX1_leastRank_24 : decode cX1_leastRank 24 = .ok (.bipush 10, 2) := by decide +kernel
theorem dX1_leastRank_26 : decode cX1_leastRank 26 = .ok (.if_icmp .ge 31, 3) := by decide +kernel
theorem dX1_leastRank_29 : decode cX1_leastRank 29 = .ok (.aload_n 0, 1) := by decide +kernel
theorem dX1_leastRank_30 : decode cX1_leastRank 30 = .ok (.getfield 60, 3) := by decide +kernel
theorem dX1_leastRank_33 : decode cX1_leastRank 33 = .ok (.iload_n 2, 1) := by decide +kernel
theorem dX1_leastRank_34 : decode cX1_leastRank 34 = .ok (.aload_n 0, 1) := by decide +kernel
theorem dX1_leastRank_35 : decode cX1_leastRank 35 = .ok (.getfield 23, 3) := by decide +kernel
theorem dX1_leastRank_38 : decode cX1_leastRank 38 = .ok (.iload_n 2, 1) := by decide +kernel
theorem dX1_leastRank_39 : decode cX1_leastRank 39 = .ok (.baload, 1) := by decide +kernel
theorem dX1_leastRank_40 : decode cX1_leastRank 40 = .ok (.ifCond .eq 7, 3) := by decide +kernel
theorem dX1_leastRank_43 : decode cX1_leastRank 43 = .ok (.iconst 0, 1) := by decide +kernel
theorem dX1_leastRank_44 : decode cX1_leastRank 44 = .ok (.goto 6, 3) := by decide +kernel
theorem dX1_leastRank_47 : decode cX1_leastRank 47 = .ok (.sipush 10000, 3) := by decide +kernel
theorem dX1_leastRank_50 : decode cX1_leastRank 50 = .ok (.iastore, 1) := by decide +kernel
theorem dX1_leastRank_51 : decode cX1_leastRank 51 = .ok (.iinc 2 1, 3) := by decide +kernel
theorem dX1_leastRank_54 : decode cX1_leastRank 54 = .ok (.goto (-31), 3) := by decide +kernel
theorem dX1_leastRank_57 : decode cX1_leastRank 57 = .ok (.iconst 0, 1) := by decide +kernel
theorem dX1_leastRank_58 : decode cX1_leastRank 58 = .ok (.istore_n 2, 1) := by decide +kernel
theorem dX1_leastRank_59 : decode cX1_leastRank 59 = .ok (.iload_n 2, 1) := by decide +kernel
theorem dX1_leastRank_60 : decode cX1_leastRank 60 = .ok (.bipush 10, 2) := by decide +kernel
theorem dX1_leastRank_62 : decode cX1_leastRank 62 = .ok (.if_icmp .ge 114, 3) := by decide +kernel
theorem dX1_leastRank_65 : decode cX1_leastRank 65 = .ok (.iconst 0, 1) := by decide +kernel
theorem dX1_leastRank_66 : decode cX1_leastRank 66 = .ok (.istore_n 3, 1) := by decide +kernel
theorem dX1_leastRank_67 : decode cX1_leastRank 67 = .ok (.iload_n 3, 1) := by decide +kernel
theorem dX1_leastRank_68 : decode cX1_leastRank 68 = .ok (.bipush 100, 2) := by decide +kernel
theorem dX1_leastRank_70 : decode cX1_leastRank 70 = .ok (.if_icmp .ge 100, 3) := by decide +kernel
theorem dX1_leastRank_73 : decode cX1_leastRank 73 = .ok (.aload_n 0, 1) := by decide +kernel
theorem dX1_leastRank_74 : decode cX1_leastRank 74 = .ok (.getfield 60, 3) := by decide +kernel
theorem dX1_leastRank_77 : decode cX1_leastRank 77 = .ok (.iload_n 3, 1) := by decide +kernel
theorem dX1_leastRank_78 : decode cX1_leastRank 78 = .ok (.bipush 10, 2) := by decide +kernel
theorem dX1_leastRank_80 : decode cX1_leastRank 80 = .ok (.idiv, 1) := by decide +kernel
theorem dX1_leastRank_81 : decode cX1_leastRank 81 = .ok (.iaload, 1) := by decide +kernel
theorem dX1_leastRank_82 : decode cX1_leastRank 82 = .ok (.aload_n 0, 1) := by decide +kernel
theorem dX1_leastRank_83 : decode cX1_leastRank 83 = .ok (.getfield 19, 3) := by decide +kernel
theorem dX1_leastRank_86 : decode cX1_leastRank 86 = .ok (.iload_n 3, 1) := by decide +kernel
theorem dX1_leastRank_87 : decode cX1_leastRank 87 = .ok (.iaload, 1) := by decide +kernel
theorem dX1_leastRank_88 : decode cX1_leastRank 88 = .ok (.iadd, 1) := by decide +kernel
theorem dX1_leastRank_89 : decode cX1_leastRank 89 = .ok (.istore 4, 2) := by decide +kernel
theorem dX1_leastRank_91 : decode cX1_leastRank 91 = .ok (.aload_n 0, 1) := by decide +kernel
theorem dX1_leastRank_92 : decode cX1_leastRank 92 = .ok (.getfield 19, 3) := by decide +kernel
theorem dX1_leastRank_95 : decode cX1_leastRank 95 = .ok (.iload_n 3, 1) := by decide +kernel
theorem dX1_leastRank_96 : decode cX1_leastRank 96 = .ok (.iaload, 1) := by decide +kernel
theorem dX1_leastRank_97 : decode cX1_leastRank 97 = .ok (.ifCond .le 36, 3) := by decide +kernel
theorem dX1_leastRank_100 : decode cX1_leastRank 100 = .ok (.aload_n 0, 1) := by decide +kernel
theorem dX1_leastRank_101 : decode cX1_leastRank 101 = .ok (.getfield 60, 3) := by decide +kernel
theorem dX1_leastRank_104 : decode cX1_leastRank 104 = .ok (.iload_n 3, 1) := by decide +kernel
theorem dX1_leastRank_105 : decode cX1_leastRank 105 = .ok (.bipush 10, 2) := by decide +kernel
theorem dX1_leastRank_107 : decode cX1_leastRank 107 = .ok (.idiv, 1) := by decide +kernel
theorem dX1_leastRank_108 : decode cX1_leastRank 108 = .ok (.iaload, 1) := by decide +kernel
theorem dX1_leastRank_109 : decode cX1_leastRank 109 = .ok (.sipush 10000, 3) := by decide +kernel
theorem dX1_leastRank_112 : decode cX1_leastRank 112 = .ok (.if_icmp .ge 21, 3) := by decide +kernel
theorem dX1_leastRank_115 : decode cX1_leastRank 115 = .ok (.iload 4, 2) := by decide +kernel
theorem dX1_leastRank_117 : decode cX1_leastRank 117 = .ok (.aload_n 0, 1) := by decide +kernel
theorem dX1_leastRank_118 : decode cX1_leastRank 118 = .ok (.getfield 60, 3) := by decide +kernel
theorem dX1_leastRank_121 : decode cX1_leastRank 121 = .ok (.iload_n 3, 1) := by decide +kernel
theorem dX1_leastRank_122 : decode cX1_leastRank 122 = .ok (.bipush 10, 2) := by decide +kernel
theorem dX1_leastRank_124 : decode cX1_leastRank 124 = .ok (.irem, 1) := by decide +kernel
theorem dX1_leastRank_125 : decode cX1_leastRank 125 = .ok (.iaload, 1) := by decide +kernel
theorem dX1_leastRank_126 : decode cX1_leastRank 126 = .ok (.if_icmp .ge 7, 3) := by decide +kernel
theorem dX1_leastRank_129 : decode cX1_leastRank 129 = .ok (.iconst 1, 1) := by decide +kernel
theorem dX1_leastRank_130 : decode cX1_leastRank 130 = .ok (.goto 4, 3) := by decide +kernel
theorem dX1_leastRank_133 : decode cX1_leastRank 133 = .ok (.iconst 0, 1) := by decide +kernel
theorem dX1_leastRank_134 : decode cX1_leastRank 134 = .ok (.istore 5, 2) := by decide +kernel
theorem dX1_leastRank_136 : decode cX1_leastRank 136 = .ok (.aload_n 0, 1) := by decide +kernel
theorem dX1_leastRank_137 : decode cX1_leastRank 137 = .ok (.getfield 60, 3) := by decide +kernel
theorem dX1_leastRank_140 : decode cX1_leastRank 140 = .ok (.iload_n 3, 1) := by decide +kernel
theorem dX1_leastRank_141 : decode cX1_leastRank 141 = .ok (.bipush 10, 2) := by decide +kernel
theorem dX1_leastRank_143 : decode cX1_leastRank 143 = .ok (.irem, 1) := by decide +kernel
theorem dX1_leastRank_144 : decode cX1_leastRank 144 = .ok (.iload 5, 2) := by decide +kernel
theorem dX1_leastRank_146 : decode cX1_leastRank 146 = .ok (.ifCond .eq 8, 3) := by decide +kernel
theorem dX1_leastRank_149 : decode cX1_leastRank 149 = .ok (.iload 4, 2) := by decide +kernel
theorem dX1_leastRank_151 : decode cX1_leastRank 151 = .ok (.goto 12, 3) := by decide +kernel
theorem dX1_leastRank_154 : decode cX1_leastRank 154 = .ok (.aload_n 0, 1) := by decide +kernel
theorem dX1_leastRank_155 : decode cX1_leastRank 155 = .ok (.getfield 60, 3) := by decide +kernel
theorem dX1_leastRank_158 : decode cX1_leastRank 158 = .ok (.iload_n 3, 1) := by decide +kernel
theorem dX1_leastRank_159 : decode cX1_leastRank 159 = .ok (.bipush 10, 2) := by decide +kernel
theorem dX1_leastRank_161 : decode cX1_leastRank 161 = .ok (.irem, 1) := by decide +kernel
theorem dX1_leastRank_162 : decode cX1_leastRank 162 = .ok (.iaload, 1) := by decide +kernel
theorem dX1_leastRank_163 : decode cX1_leastRank 163 = .ok (.iastore, 1) := by decide +kernel
theorem dX1_leastRank_164 : decode cX1_leastRank 164 = .ok (.iinc 3 1, 3) := by decide +kernel
theorem dX1_leastRank_167 : decode cX1_leastRank 167 = .ok (.goto (-100), 3) := by decide +kernel
theorem dX1_leastRank_170 : decode cX1_leastRank 170 = .ok (.iinc 2 1, 3) := by decide +kernel
theorem dX1_leastRank_173 : decode cX1_leastRank 173 = .ok (.goto (-114), 3) := by decide +kernel
theorem dX1_leastRank_176 : decode cX1_leastRank 176 = .ok (.aload_n 0, 1) := by decide +kernel
theorem dX1_leastRank_177 : decode cX1_leastRank 177 = .ok (.getfield 60, 3) := by decide +kernel
theorem dX1_leastRank_180 : decode cX1_leastRank 180 = .ok (.iload_n 1, 1) := by decide +kernel
theorem dX1_leastRank_181 : decode cX1_leastRank 181 = .ok (.iaload, 1) := by decide +kernel
theorem dX1_leastRank_182 : decode cX1_leastRank 182 = .ok (.ireturn, 1) := by decide +kernel
set_option maxRecDepth 20000 in
theorem ggX1_up_X1_isNode : GoodIn wsX1_up wsX1_isNode := goodIn_r _ [8, 9, 10, 7, 11] (by decide +kernel) (by decide +kernel)
set_option maxRecDepth 20000 in
theorem gX1_up_X1_isNode : GoodIn wsX1_up (va_wsS RX1 99 yX1_isNode wsX1_isNode) := goodIn_app (goodIn_of _ (by decide +kernel)) ggX1_up_X1_isNode
set_option maxRecDepth 20000 in
theorem ggX1_up_X1_fails : GoodIn wsX1_up wsX1_fails := goodIn_r _ [15, 16, 17, 18, 19, 20, 21, 22, 23, 24, 25, 26, 27, 28, 29, 30, 31, 32, 33, 34, 35, 36, 37] (by decide +kernel) (by decide +kernel)
set_option maxRecDepth 20000 in
theorem gX1_up_X1_fails : GoodIn wsX1_up (wsV RX1 95 RX1 yX1_fails wsX1_fails) := goodIn_app (goodIn_of _ (by decide +kernel)) ggX1_up_X1_fails
theorem dX1_up_0 : decode cX1_up 0 = .ok (.aload_n 0, 1) := by decide +kernel
theorem dX1_up_1 : decode cX1_up 1 = .ok (.iload_n 1, 1) := by decide +kernel
theorem dX1_up_2 : decode cX1_up 2 = .ok (.invokestatic 99, 3) := by decide +kernel
theorem dX1_up_5 : decode cX1_up 5 = .ok (.ifCond .eq 7, 3) := by decide +kernel
theorem dX1_up_8 : decode cX1_up 8 = .ok (.iconst 0, 1) := by decide +kernel
theorem dX1_up_9 : decode cX1_up 9 = .ok (.goto 4, 3) := by decide +kernel
theorem dX1_up_12 : decode cX1_up 12 = .ok (.iconst 1, 1) := by decide +kernel
theorem dX1_up_13 : decode cX1_up 13 = .ok (.invokevirtual 95, 3) := by decide +kernel
theorem dX1_up_16 : decode cX1_up 16 = .ok (.ifCond .eq 5, 3) := by decide +kernel
theorem dX1_up_19 : decode cX1_up 19 = .ok (.iconst 0, 1) := by decide +kernel
theorem dX1_up_20 : decode cX1_up 20 = .ok (.ireturn, 1) := by decide +kernel
theorem dX1_up_21 : decode cX1_up 21 = .ok (.iload_n 1, 1) := by decide +kernel
theorem dX1_up_22 : decode cX1_up 22 = .ok (.istore_n 2, 1) := by decide +kernel
theorem dX1_up_23 : decode cX1_up 23 = .ok (.iconst 0, 1) := by decide +kernel
theorem dX1_up_24 : decode cX1_up 24 = .ok (.istore_n 3, 1) := by decide +kernel
theorem dX1_up_25 : decode cX1_up 25 = .ok (.iconst 0, 1) := by decide +kernel
theorem dX1_up_26 : decode cX1_up 26 = .ok (.istore 4, 2) := by decide +kernel
theorem dX1_up_28 : decode cX1_up 28 = .ok (.aload_n 0, 1) := by decide +kernel
theorem dX1_up_29 : decode cX1_up 29 = .ok (.getfield 23, 3) := by decide +kernel
theorem dX1_up_32 : decode cX1_up 32 = .ok (.iload_n 2, 1) := by decide +kernel
theorem dX1_up_33 : decode cX1_up 33 = .ok (.baload, 1) := by decide +kernel
theorem dX1_up_34 : decode cX1_up 34 = .ok (.ifCond .ne 75, 3) := by decide +kernel
theorem dX1_up_37 : decode cX1_up 37 = .ok (.aload_n 0, 1) := by decide +kernel
theorem dX1_up_38 : decode cX1_up 38 = .ok (.getfield 39, 3) := by decide +kernel
theorem dX1_up_41 : decode cX1_up 41 = .ok (.iload_n 2, 1) := by decide +kernel
theorem dX1_up_42 : decode cX1_up 42 = .ok (.iaload, 1) := by decide +kernel
theorem dX1_up_43 : decode cX1_up 43 = .ok (.iconst (-1), 1) := by decide +kernel
theorem dX1_up_44 : decode cX1_up 44 = .ok (.if_icmp .eq 65, 3) := by decide +kernel
theorem dX1_up_47 : decode cX1_up 47 = .ok (.aload_n 0, 1) := by decide +kernel
theorem dX1_up_48 : decode cX1_up 48 = .ok (.getfield 39, 3) := by decide +kernel
theorem dX1_up_51 : decode cX1_up 51 = .ok (.iload_n 2, 1) := by decide +kernel
theorem dX1_up_52 : decode cX1_up 52 = .ok (.iaload, 1) := by decide +kernel
theorem dX1_up_53 : decode cX1_up 53 = .ok (.istore 5, 2) := by decide +kernel
theorem dX1_up_55 : decode cX1_up 55 = .ok (.iload 4, 2) := by decide +kernel
theorem dX1_up_57 : decode cX1_up 57 = .ok (.aload_n 0, 1) := by decide +kernel
theorem dX1_up_58 : decode cX1_up 58 = .ok (.getfield 36, 3) := by decide +kernel
theorem dX1_up_61 : decode cX1_up 61 = .ok (.iload 5, 2) := by decide +kernel
theorem dX1_up_63 : decode cX1_up 63 = .ok (.iaload, 1) := by decide +kernel
theorem dX1_up_64 : decode cX1_up 64 = .ok (.aload_n 0, 1) := by decide +kernel
theorem dX1_up_65 : decode cX1_up 65 = .ok (.getfield 36, 3) := by decide +kernel
theorem dX1_up_68 : decode cX1_up 68 = .ok (.iload_n 2, 1) := by decide +kernel
theorem dX1_up_69 : decode cX1_up 69 = .ok (.iaload, 1) := by decide +kernel
theorem dX1_up_70 : decode cX1_up 70 = .ok (.if_icmp .lt 7, 3) := by decide +kernel
theorem dX1_up_73 : decode cX1_up 73 = .ok (.iconst 1, 1) := by decide +kernel
theorem dX1_up_74 : decode cX1_up 74 = .ok (.goto 4, 3) := by decide +kernel
theorem dX1_up_77 : decode cX1_up 77 = .ok (.iconst 0, 1) := by decide +kernel
theorem dX1_up_78 : decode cX1_up 78 = .ok (.iadd, 1) := by decide +kernel
theorem dX1_up_79 : decode cX1_up 79 = .ok (.istore 4, 2) := by decide +kernel
theorem dX1_up_81 : decode cX1_up 81 = .ok (.iload 4, 2) := by decide +kernel
theorem dX1_up_83 : decode cX1_up 83 = .ok (.iconst 2, 1) := by decide +kernel
theorem dX1_up_84 : decode cX1_up 84 = .ok (.if_icmp .ne 16, 3) := by decide +kernel
theorem dX1_up_87 : decode cX1_up 87 = .ok (.aload_n 0, 1) := by decide +kernel
theorem dX1_up_88 : decode cX1_up 88 = .ok (.dup, 1) := by decide +kernel
theorem dX1_up_89 : decode cX1_up 89 = .ok (.getfield 112, 3) := by decide +kernel
theorem dX1_up_92 : decode cX1_up 92 = .ok (.iconst 1, 1) := by decide +kernel
theorem dX1_up_93 : decode cX1_up 93 = .ok (.iadd, 1) := by decide +kernel
theorem dX1_up_94 : decode cX1_up 94 = .ok (.putfield 112, 3) := by decide +kernel
theorem dX1_up_97 : decode cX1_up 97 = .ok (.bipush (-2), 2) := by decide +kernel
theorem dX1_up_99 : decode cX1_up 99 = .ok (.ireturn, 1) := by decide +kernel
theorem dX1_up_100 : decode cX1_up 100 = .ok (.iload 5, 2) := by decide +kernel
theorem dX1_up_102 : decode cX1_up 102 = .ok (.istore_n 2, 1) := by decide +kernel
theorem dX1_up_103 : decode cX1_up 103 = .ok (.iinc 3 1, 3) := by decide +kernel
theorem dX1_up_106 : decode cX1_up 106 = .ok (.goto (-78), 3) := by decide +kernel
theorem dX1_up_109 : decode cX1_up 109 = .ok (.aload_n 0, 1) := by decide +kernel
theorem dX1_up_110 : decode cX1_up 110 = .ok (.getfield 23, 3) := by decide +kernel
theorem dX1_up_113 : decode cX1_up 113 = .ok (.iload_n 2, 1) := by decide +kernel
theorem dX1_up_114 : decode cX1_up 114 = .ok (.baload, 1) := by decide +kernel
theorem dX1_up_115 : decode cX1_up 115 = .ok (.ifCond .eq 7, 3) := by decide +kernel
theorem dX1_up_118 : decode cX1_up 118 = .ok (.iload_n 3, 1) := by decide +kernel
theorem dX1_up_119 : decode cX1_up 119 = .ok (.goto 4, 3) := by decide +kernel
theorem dX1_up_122 : decode cX1_up 122 = .ok (.iconst (-1), 1) := by decide +kernel
theorem dX1_up_123 : decode cX1_up 123 = .ok (.ireturn, 1) := by decide +kernel
theorem dX1_loops_0 : decode cX1_loops 0 = .ok (.aload_n 0, 1) := by decide +kernel
theorem dX1_loops_1 : decode cX1_loops 1 = .ok (.iconst 0, 1) := by decide +kernel
theorem dX1_loops_2 : decode cX1_loops 2 = .ok (.putfield 63, 3) := by decide +kernel
theorem dX1_loops_5 : decode cX1_loops 5 = .ok (.aload_n 0, 1) := by decide +kernel
theorem dX1_loops_6 : decode cX1_loops 6 = .ok (.getfield 112, 3) := by decide +kernel
theorem dX1_loops_9 : decode cX1_loops 9 = .ok (.ireturn, 1) := by decide +kernel
theorem dX1_under_0 : decode cX1_under 0 = .ok (.iconst 1, 1) := by decide +kernel
theorem dX1_under_1 : decode cX1_under 1 = .ok (.iload_n 1, 1) := by decide +kernel
theorem dX1_under_2 : decode cX1_under 2 = .ok (.ishl, 1) := by decide +kernel
theorem dX1_under_3 : decode cX1_under 3 = .ok (.istore_n 2, 1) := by decide +kernel
theorem dX1_under_4 : decode cX1_under 4 = .ok (.iconst 0, 1) := by decide +kernel
theorem dX1_under_5 : decode cX1_under 5 = .ok (.istore_n 3, 1) := by decide +kernel
theorem dX1_under_6 : decode cX1_under 6 = .ok (.iload_n 3, 1) := by decide +kernel
theorem dX1_under_7 : decode cX1_under 7 = .ok (.bipush 10, 2) := by decide +kernel
theorem dX1_under_9 : decode cX1_under 9 = .ok (.if_icmp .ge 62, 3) := by decide +kernel
theorem dX1_under_12 : decode cX1_under 12 = .ok (.iconst 0, 1) := by decide +kernel
theorem dX1_under_13 : decode cX1_under 13 = .ok (.istore 4, 2) := by decide +kernel
theorem dX1_under_15 : decode cX1_under 15 = .ok (.iload 4, 2) := by decide +kernel
theorem dX1_under_17 : decode cX1_under 17 = .ok (.bipush 10, 2) := by decide +kernel
theorem dX1_under_19 : decode cX1_under 19 = .ok (.if_icmp .ge 46, 3) := by decide +kernel
theorem dX1_under_22 : decode cX1_under 22 = .ok (.iload_n 2, 1) := by decide +kernel
theorem dX1_under_23 : decode cX1_under 23 = .ok (.aload_n 0, 1) := by decide +kernel
theorem dX1_under_24 : decode cX1_under 24 = .ok (.getfield 39, 3) := by decide +kernel
theorem dX1_under_27 : decode cX1_under 27 = .ok (.iload 4, 2) := by decide +kernel
theorem dX1_under_29 : decode cX1_under 29 = .ok (.iaload, 1) := by decide +kernel
theorem dX1_under_30 : decode cX1_under 30 = .ok (.iconst (-1), 1) := by decide +kernel
theorem dX1_under_31 : decode cX1_under 31 = .ok (.if_icmp .eq 25, 3) := by decide +kernel
theorem dX1_under_34 : decode cX1_under 34 = .ok (.iload_n 2, 1) := by decide +kernel
theorem dX1_under_35 : decode cX1_under 35 = .ok (.aload_n 0, 1) := by decide +kernel
theorem dX1_under_36 : decode cX1_under 36 = .ok (.getfield 39, 3) := by decide +kernel
theorem dX1_under_39 : decode cX1_under 39 = .ok (.iload 4, 2) := by decide +kernel
theorem dX1_under_41 : decode cX1_under 41 = .ok (.iaload, 1) := by decide +kernel
theorem dX1_under_42 : decode cX1_under 42 = .ok (.ishr, 1) := by decide +kernel
theorem dX1_under_43 : decode cX1_under 43 = .ok (.iconst 1, 1) := by decide +kernel
theorem dX1_under_44 : decode cX1_under 44 = .ok (.iand, 1) := by decide +kernel
theorem dX1_under_45 : decode cX1_under 45 = .ok (.iconst 1, 1) := by decide +kernel
theorem dX1_under_46 : decode cX1_under 46 = .ok (.if_icmp .ne 10, 3) := by decide +kernel
theorem dX1_under_49 : decode cX1_under 49 = .ok (.iconst 1, 1) := by decide +kernel
theorem dX1_under_50 : decode cX1_under 50 = .ok (.iload 4, 2) := by decide +kernel
theorem dX1_under_52 : decode cX1_under 52 = .ok (.ishl, 1) := by decide +kernel
theorem dX1_under_53 : decode cX1_under 53 = .ok (.goto 4, 3) := by decide +kernel
theorem dX1_under_56 : decode cX1_under 56 = .ok (.iconst 0, 1) := by decide +kernel
theorem dX1_under_57 : decode cX1_under 57 = .ok (.ior, 1) := by decide +kernel
theorem dX1_under_58 : decode cX1_under 58 = .ok (.istore_n 2, 1) := by decide +kernel
theorem dX1_under_59 : decode cX1_under 59 = .ok (.iinc 4 1, 3) := by decide +kernel
theorem dX1_under_62 : decode cX1_under 62 = .ok (.goto (-47), 3) := by decide +kernel
theorem dX1_under_65 : decode cX1_under 65 = .ok (.iinc 3 1, 3) := by decide +kernel
theorem dX1_under_68 : decode cX1_under 68 = .ok (.goto (-62), 3) := by decide +kernel
theorem dX1_under_71 : decode cX1_under 71 = .ok (.iload_n 2, 1) := by decide +kernel
theorem dX1_under_72 : decode cX1_under 72 = .ok (.ireturn, 1) := by decide +kernel
set_option maxRecDepth 20000 in
theorem ggX1_below_X1_isNode : GoodIn wsX1_below wsX1_isNode := goodIn_r _ [4, 5, 6, 3, 7] (by decide +kernel) (by decide +kernel)
set_option maxRecDepth 20000 in
theorem gX1_below_X1_isNode : GoodIn wsX1_below (va_wsS RX1 99 yX1_isNode wsX1_isNode) := goodIn_app (goodIn_of _ (by decide +kernel)) ggX1_below_X1_isNode
set_option maxRecDepth 20000 in
theorem ggX1_below_X1_fails : GoodIn wsX1_below wsX1_fails := goodIn_r _ [11, 12, 18, 19, 20, 21, 22, 23, 24, 25, 26, 27, 28, 29, 30, 31, 32, 33, 34, 35, 36, 37, 38] (by decide +kernel) (by decide +kernel)
set_option maxRecDepth 20000 in
theorem gX1_below_X1_fails : GoodIn wsX1_below (wsV RX1 95 RX1 yX1_fails wsX1_fails) := goodIn_app (goodIn_of _ (by decide +kernel)) ggX1_below_X1_fails
end
section
set_option maxRecDepth 20000 in
theorem ggX1_below_X1_under : GoodIn wsX1_below wsX1_under := goodIn_r _ [16, 17, 18, 19, 20, 21, 22, 23, 24, 25, 26, 27, 28, 29, 30, 31, 32, 33, 34, 35, 36, 37, 38] (by decide +kernel) (by decide +kernel)
set_option maxRecDepth 20000 in
theorem gX1_below_X1_under : GoodIn wsX1_below (wsV RX1 115 RX1 yX1_under wsX1_under) := goodIn_app (goodIn_of _ (by decide +kernel)) ggX1_below_X1_under
theorem dX1_below_0 : decode cX1_below 0 = .ok (.aload_n 0, 1) := by decide +kernel
theorem dX1_below_1 : decode cX1_below 1 = .ok (.iload_n 1, 1) := by decide +kernel
theorem dX1_below_2 : decode cX1_below 2 = .ok (.invokestatic 99, 3) := by decide +kernel
theorem dX1_below_5 : decode cX1_below 5 = .ok (.ifCond .eq 7, 3) := by decide +kernel
theorem dX1_below_8 : decode cX1_below 8 = .ok (.iconst 0, 1) := by decide +kernel
theorem dX1_below_9 : decode cX1_below 9 = .ok (.goto 4, 3) := by decide +kernel
theorem dX1_below_12 : decode cX1_below 12 = .ok (.iconst 1, 1) := by decide +kernel
theorem dX1_below_13 : decode cX1_below 13 = .ok (.invokevirtual 95, 3) := by decide +kernel
theorem dX1_below_16 : decode cX1_below 16 = .ok (.ifCond .eq 7, 3) := by decide +kernel
theorem dX1_below_19 : decode cX1_below 19 = .ok (.iconst 0, 1) := by decide +kernel
theorem dX1_below_20 : decode cX1_below 20 = .ok (.goto 8, 3) := by decide +kernel
theorem dX1_below_23 : decode cX1_below 23 = .ok (.aload_n 0, 1) := by decide +kernel
theorem dX1_below_24 : decode cX1_below 24 = .ok (.iload_n 1, 1) := by decide +kernel
theorem dX1_below_25 : decode cX1_below 25 = .ok (.invokevirtual 115, 3) := by decide +kernel
theorem dX1_below_28 : decode cX1_below 28 = .ok (.ireturn, 1) := by decide +kernel
set_option maxRecDepth 20000 in
theorem ggX1_down_X1_isNode : GoodIn wsX1_down wsX1_isNode := goodIn_r _ [5, 6, 7, 4, 8] (by decide +kernel) (by decide +kernel)
set_option maxRecDepth 20000 in
theorem gX1_down_X1_isNode : GoodIn wsX1_down (va_wsS RX1 99 yX1_isNode wsX1_isNode) := goodIn_app (goodIn_of _ (by decide +kernel)) ggX1_down_X1_isNode
set_option maxRecDepth 20000 in
theorem ggX1_down_X1_under : GoodIn wsX1_down wsX1_under := goodIn_r _ [12, 1, 18, 19, 20, 21, 22, 23, 24, 25, 26, 27, 28, 29, 30, 31, 32, 33, 34, 35, 36, 37, 38] (by decide +kernel) (by decide +kernel)
set_option maxRecDepth 20000 in
theorem gX1_down_X1_under : GoodIn wsX1_down (wsV RX1 115 RX1 yX1_under wsX1_under) := goodIn_app (goodIn_of _ (by decide +kernel)) ggX1_down_X1_under
set_option maxRecDepth 20000 in
theorem ggX1_down_X1_fails : GoodIn wsX1_down wsX1_fails := goodIn_r _ [16, 17, 18, 19, 20, 21, 22, 23, 24, 25, 26, 27, 28, 29, 30, 31, 32, 33, 34, 35, 36, 37, 38] (by decide +kernel) (by decide +kernel)
set_option maxRecDepth 20000 in
theorem gX1_down_X1_fails : GoodIn wsX1_down (wsV RX1 95 RX1 yX1_fails wsX1_fails) := goodIn_app (goodIn_of _ (by decide +kernel)) ggX1_down_X1_fails
theorem dX1_down_0 : decode cX1_down 0 = .ok (.iload_n 1, 1) := by decide +kernel
theorem dX1_down_1 : decode cX1_down 1 = .ok (.invokestatic 99, 3) := by decide +kernel
theorem dX1_down_4 : decode cX1_down 4 = .ok (.ifCond .eq 14, 3) := by decide +kernel
theorem dX1_down_7 : decode cX1_down 7 = .ok (.iload_n 2, 1) := by decide +kernel
theorem dX1_down_8 : decode cX1_down 8 = .ok (.invokestatic 99, 3) := by decide +kernel
theorem dX1_down_11 : decode cX1_down 11 = .ok (.ifCond .eq 7, 3) := by decide +kernel
theorem dX1_down_14 : decode cX1_down 14 = .ok (.iconst 1, 1) := by decide +kernel
theorem dX1_down_15 : decode cX1_down 15 = .ok (.goto 4, 3) := by decide +kernel
theorem dX1_down_18 : decode cX1_down 18 = .ok (.iconst 0, 1) := by decide +kernel
theorem dX1_down_19 : decode cX1_down 19 = .ok (.istore_n 3, 1) := by decide +kernel
theorem dX1_down_20 : decode cX1_down 20 = .ok (.aload_n 0, 1) := by decide +kernel
theorem dX1_down_21 : decode cX1_down 21 = .ok (.iload_n 3, 1) := by decide +kernel
theorem dX1_down_22 : decode cX1_down 22 = .ok (.ifCond .ne 7, 3) := by decide +kernel
theorem dX1_down_25 : decode cX1_down 25 = .ok (.iconst 1, 1) := by decide +kernel
theorem dX1_down_26 : decode cX1_down 26 = .ok (.goto 26, 3) := by decide +kernel
theorem dX1_down_29 : decode cX1_down 29 = .ok (.iload_n 1, 1) := by decide +kernel
theorem dX1_down_30 : decode cX1_down 30 = .ok (.iload_n 2, 1) := by decide +kernel
theorem dX1_down_31 : decode cX1_down 31 = .ok (.if_icmp .eq 20, 3) := by decide +kernel
theorem dX1_down_34 : decode cX1_down 34 = .ok (.aload_n 0, 1) := by decide +kernel
theorem dX1_down_35 : decode cX1_down 35 = .ok (.iload_n 1, 1) := by decide +kernel
theorem dX1_down_36 : decode cX1_down 36 = .ok (.invokevirtual 115, 3) := by decide +kernel
theorem dX1_down_39 : decode cX1_down 39 = .ok (.iload_n 2, 1) := by decide +kernel
theorem dX1_down_40 : decode cX1_down 40 = .ok (.ishr, 1) := by decide +kernel
theorem dX1_down_41 : decode cX1_down 41 = .ok (.iconst 1, 1) := by decide +kernel
theorem dX1_down_42 : decode cX1_down 42 = .ok (.iand, 1) := by decide +kernel
theorem dX1_down_43 : decode cX1_down 43 = .ok (.iconst 1, 1) := by decide +kernel
theorem dX1_down_44 : decode cX1_down 44 = .ok (.if_icmp .ne 7, 3) := by decide +kernel
theorem dX1_down_47 : decode cX1_down 47 = .ok (.iconst 0, 1) := by decide +kernel
theorem dX1_down_48 : decode cX1_down 48 = .ok (.goto 4, 3) := by decide +kernel
theorem dX1_down_51 : decode cX1_down 51 = .ok (.iconst 2, 1) := by decide +kernel
theorem dX1_down_52 : decode cX1_down 52 = .ok (.invokevirtual 95, 3) := by decide +kernel
theorem dX1_down_55 : decode cX1_down 55 = .ok (.ifCond .eq 5, 3) := by decide +kernel
theorem dX1_down_58 : decode cX1_down 58 = .ok (.iconst 0, 1) := by decide +kernel
theorem dX1_down_59 : decode cX1_down 59 = .ok (.ireturn, 1) := by decide +kernel
theorem dX1_down_60 : decode cX1_down 60 = .ok (.iload_n 2, 1) := by decide +kernel
theorem dX1_down_61 : decode cX1_down 61 = .ok (.istore 4, 2) := by decide +kernel
theorem dX1_down_63 : decode cX1_down 63 = .ok (.aload_n 0, 1) := by decide +kernel
theorem dX1_down_64 : decode cX1_down 64 = .ok (.getfield 39, 3) := by decide +kernel
theorem dX1_down_67 : decode cX1_down 67 = .ok (.iload 4, 2) := by decide +kernel
theorem dX1_down_69 : decode cX1_down 69 = .ok (.iaload, 1) := by decide +kernel
theorem dX1_down_70 : decode cX1_down 70 = .ok (.iload_n 1, 1) := by decide +kernel
theorem dX1_down_71 : decode cX1_down 71 = .ok (.if_icmp .eq 15, 3) := by decide +kernel
theorem dX1_down_74 : decode cX1_down 74 = .ok (.aload_n 0, 1) := by decide +kernel
theorem dX1_down_75 : decode cX1_down 75 = .ok (.getfield 39, 3) := by decide +kernel
theorem dX1_down_78 : decode cX1_down 78 = .ok (.iload 4, 2) := by decide +kernel
theorem dX1_down_80 : decode cX1_down 80 = .ok (.iaload, 1) := by decide +kernel
theorem dX1_down_81 : decode cX1_down 81 = .ok (.istore 4, 2) := by decide +kernel
theorem dX1_down_83 : decode cX1_down 83 = .ok (.goto (-20), 3) := by decide +kernel
theorem dX1_down_86 : decode cX1_down 86 = .ok (.iload 4, 2) := by decide +kernel
theorem dX1_down_88 : decode cX1_down 88 = .ok (.ireturn, 1) := by decide +kernel
end
section
/-! the mesh's world: one object and 54 arrays, told by a function of place and index -/
abbrev rm_St : Type := Nat → Nat → Int32
def rm_up (σ : rm_St) (k j : Nat) (v : Int32) : rm_St := fun a b => if a = k ∧ b = j then v else σ a b
theorem rm_up_s (σ : rm_St) (k j : Nat) (v : Int32) : rm_up σ k j v k j = v := if_pos ⟨rfl, rfl⟩
theorem rm_up_k {σ : rm_St} {k j : Nat} {v : Int32} {a b : Nat} (h : a ≠ k) : rm_up σ k j v a b = σ a b := if_neg fun q => h q.1
theorem rm_up_j {σ : rm_St} {k j : Nat} {v : Int32} {a b : Nat} (h : b ≠ j) : rm_up σ k j v a b = σ a b := if_neg fun q => h q.2
theorem rm_up_row {σ : rm_St} {k j : Nat} {v : Int32} : rm_up σ k j v k = upd (σ k) j v := by
  funext b
  by_cases h : b = j
  · subst h
    rw [rm_up_s]
    simp [upd]
  · rw [rm_up_j h]
    simp [upd, h]
theorem rm_up_row_ne {σ : rm_St} {k j : Nat} {v : Int32} {a : Nat} (h : a ≠ k) : rm_up σ k j v a = σ a := funext fun _ => rm_up_k h
def bI (b : Bool) : Int32 := if b then 1 else 0
theorem bI_t : bI true = 1 := rfl
theorem bI_f : bI false = 0 := rfl
theorem bI_0 {b : Bool} (h : bI b = 0) : b = false := by cases b <;> first | rfl | exact absurd h (by decide)
theorem bI_n {b : Bool} (h : ¬ bI b = 0) : b = true := by cases b <;> first | rfl | exact absurd rfl h
def isNd (x : Int32) : Bool := decide (¬ x < 0) && decide (x < 10)
theorem isNd_of {x : Int32} (h : isNd x = true) : ∃ o : Nat, o < 10 ∧ x = nI o := by
  simp only [isNd, Bool.and_eq_true, decide_eq_true_eq] at h
  obtain ⟨j, hj, e⟩ := nI_of h.1
  refine ⟨j, ?_, e⟩
  have h2 := h.2
  rw [e, show (10 : Int32) = nI 10 from rfl, nI_ltI hj (by decide)] at h2
  exact h2
theorem isNd_nI {o : Nat} (h : o < 10) : isNd (nI o) = true := by
  simp only [isNd, Bool.and_eq_true, decide_eq_true_eq]
  exact ⟨nI_pos (by omega), (show nI o < nI 10 from nI_lt h (by decide))⟩
abbrev rm_K : Type := va_G × (ClassId × ClassId × ClassId × ClassId)
def rm_ty (k : rm_K) : List (ClassId × FieldType) := [(k.2.1, .int), (k.2.2.1, .boolean), (k.2.2.2.1, .array .int), (k.2.2.2.2, .long)]
def rm_F (a : Nat → Nat) (σ : rm_St) : List Value := [.int (σ 0 0), .int (σ 0 1), .int (σ 0 2), .int (σ 0 3), .int (σ 0 4), .int (σ 0 5), .ref (a 1), .ref (a 2), .ref (a 3), .ref (a 4), .ref (a 5), .ref (a 6), .ref (a 7), .ref (a 8), .ref (a 9), .ref (a 10), .ref (a 11), .ref (a 12), .ref (a 13), .ref (a 14)]
def rm_G (a : Nat → Nat) (g : Nat) : Nat → Option Nat := fun i => if i < 10 then some (a (5 + 10 * g + i)) else none
def rm_E (k : rm_K) (a : Nat → Nat) (σ : rm_St) (q : Nat) : va_E :=
  if q = 0 then .inr (0, rm_F a σ)
  else if q < 5 then .inl (k.2.2.2.1, 10, .inr (.inr (.inr (.inr (rm_G a q)))))
  else if q = 5 then .inl (k.2.2.1, 10, .inl (σ q))
  else .inl (k.2.1, 10, .inl (σ q))
def rm_W (k : rm_K) (a : Nat → Nat) (σ : rm_St) : va_W := (List.range 55).map (fun q => (a q, rm_E k a σ q))
theorem rm_get {k : rm_K} {a : Nat → Nat} {σ : rm_St} {q : Nat} (hq : q < 55) : (rm_W k a σ)[q]? = some (a q, rm_E k a σ q) := by simp [rm_W, hq]
theorem rm_get_of {k : rm_K} {a : Nat → Nat} {σ : rm_St} {j : Nat} {x : Nat × va_E} (h : (rm_W k a σ)[j]? = some x) : j < 55 ∧ x = (a j, rm_E k a σ j) := by
  have hj : j < 55 := by
    have := (List.getElem?_eq_some_iff.mp h).1
    simpa [rm_W] using this
  rw [rm_get hj] at h
  exact ⟨hj, (Option.some.inj h).symm⟩
theorem rm_E0 {k : rm_K} {a : Nat → Nat} {σ : rm_St} : rm_E k a σ 0 = .inr (0, rm_F a σ) := rfl
theorem rm_E5 {k : rm_K} {a : Nat → Nat} {σ : rm_St} : rm_E k a σ 5 = .inl (k.2.2.1, 10, .inl (σ 5)) := rfl
theorem rm_Eg {k : rm_K} {a : Nat → Nat} {σ : rm_St} {q : Nat} (h : 1 ≤ q ∧ q < 5) : rm_E k a σ q = .inl (k.2.2.2.1, 10, .inr (.inr (.inr (.inr (rm_G a q))))) := by
  unfold rm_E
  rw [if_neg (by omega), if_pos h.2]
theorem rm_Er {k : rm_K} {a : Nat → Nat} {σ : rm_St} {q : Nat} (h : 6 ≤ q) : rm_E k a σ q = .inl (k.2.1, 10, .inl (σ q)) := by
  unfold rm_E
  rw [if_neg (by omega), if_neg (by omega), if_neg (by omega)]
theorem rm_E_ne {k : rm_K} {a : Nat → Nat} {σ : rm_St} {q j r : Nat} {v : Int32} (h : r ≠ q) : rm_E k a (rm_up σ q j v) r = rm_E k a σ r := by
  unfold rm_E
  by_cases h0 : r = 0
  · subst h0
    rw [if_pos rfl, if_pos rfl]
    unfold rm_F
    rw [rm_up_row_ne h]
  · rw [if_neg h0, if_neg h0, rm_up_row_ne h]
theorem rm_set {k : rm_K} {a : Nat → Nat} {σ : rm_St} {q j : Nat} {v : Int32} {e : va_E} (hq : q < 55) (he : rm_E k a (rm_up σ q j v) q = e) : (rm_W k a σ).set q (a q, e) = rm_W k a (rm_up σ q j v) := by
  apply List.ext_getElem?
  intro i
  by_cases hi : i = q
  · subst hi
    rw [List.getElem?_set_self (by simp [rm_W, hq]), rm_get hq, he]
  · rw [List.getElem?_set_ne (Ne.symm hi)]
    by_cases hl : i < 55
    · rw [rm_get hl, rm_get hl, rm_E_ne hi]
    · rw [List.getElem?_eq_none (by simp [rm_W]; omega), List.getElem?_eq_none (by simp [rm_W]; omega)]
def rm_inj (a : Nat → Nat) : Prop := ∀ i j, i < 55 → j < 55 → a i = a j → i = j
def rm_A (a : Nat → Nat) (sz : Nat) : Nat → Prop := fun q => (∃ j, j < 55 ∧ q = a j) ∨ sz ≤ q
def rm_P (k : rm_K) (a : Nat → Nat) (σ : rm_St) (U : State) : Prop := va_P k.1 vwCl (rm_W k a σ) U.heap ∧ va_K k.1 vwCl (rm_ty k) U
theorem rm_D {k : rm_K} {a : Nat → Nat} {σ : rm_St} {A : Nat → Prop} (h : rm_inj a) (hA : ∀ j, j < 55 → A (a j)) : va_D A (rm_W k a σ) := by
  refine ⟨fun i j x y hi hj hxy => ?_, fun q x hq => ?_⟩
  · obtain ⟨h1, e1⟩ := rm_get_of hi
    obtain ⟨h2, e2⟩ := rm_get_of hj
    rw [e1, e2] at hxy
    exact h i j h1 h2 hxy
  · obtain ⟨h1, e1⟩ := rm_get_of hq
    rw [e1]
    exact hA q h1
theorem rm_D_inj {k : rm_K} {a : Nat → Nat} {σ : rm_St} {A : Nat → Prop} (h : va_D A (rm_W k a σ)) : rm_inj a := fun i j hi hj e => h.1 i j _ _ (rm_get hi) (rm_get hj) e
theorem rm_D_A {k : rm_K} {a : Nat → Nat} {σ : rm_St} {A : Nat → Prop} (h : va_D A (rm_W k a σ)) : ∀ j, j < 55 → A (a j) := fun j hj => h.2 j _ (rm_get hj)
/-- the world of a walk: the classes, the cells, apart and among those that may change, and what has changed so far -/
def rm_Wd (k : rm_K) (a : Nat → Nat) (A : Nat → Prop) (H0 : Heap) (s : State) (σ : rm_St) (H : Heap) (locs : List Loc) : Prop :=
  va_K k.1 vwCl (rm_ty k) s ∧ va_P k.1 vwCl (rm_W k a σ) H ∧ va_D A (rm_W k a σ) ∧ va_S A H0 H locs
section RMR
variable {p : Program} {l : Launch} {e : Env} {R : Room} {s : State} {m : MethodId} {args : Array Value} {below : List Frame} {meth : Method} {c : Code} {H : Heap} {locs : List Loc} {cells slots : Nat} {Q : State → Prop}
variable {cc : ByteArray} {pc nL : Nat} {ls : Array Slot} {rest : List Value} {Ts : List Cond} {own : String} {k : rm_K} {a : Nat → Nat} {A : Nat → Prop} {H0 : Heap} {σ : rm_St}
abbrev rm_C (p : Program) (m : MethodId) (c : Code) (cc : ByteArray) (nL : Nat) (s : State) (args : Array Value) (Ts : List Cond) : Prop := CallFix p m c cc nL s args Ts RX0 ∧ ∀ w ∈ u_ws RX0 TX0 20, w ∈ Ts
theorem rm_iald (C : rm_C p m c cc nL s args Ts) (hw : rm_Wd k a A H0 s σ H locs) {q i : Nat} (hq : 6 ≤ q ∧ q < 55) (hi : i < 10) (hdg : decode cc pc = .ok (.iaload, 1))
    (kk : W p l e R s m args below meth c H locs cells slots Q (F0 m (pc + 1) ls (.int (σ q i) :: rest))) : W p l e R s m args below meth c H locs cells slots Q (F0 m pc ls (.int (nI i) :: .ref (a q) :: rest)) := by
  have hc : (nI i).toNatClampNeg = i := nI_clamp (by omega)
  refine va_iald C.1.1 C.1.2.1 hw.1 hw.2.1 q 0 (n := 10) (f := σ q) (cA := k.2.1) (by rw [rm_get hq.2, rm_Er hq.1]) rfl (vp_in_nI hi (by decide)) hdg ?_
  rw [hc]
  exact kk
theorem rm_zald (C : rm_C p m c cc nL s args Ts) (hw : rm_Wd k a A H0 s σ H locs) {i : Nat} (hi : i < 10) (hdg : decode cc pc = .ok (.baload, 1))
    (kk : W p l e R s m args below meth c H locs cells slots Q (F0 m (pc + 1) ls (.int (σ 5 i) :: rest))) : W p l e R s m args below meth c H locs cells slots Q (F0 m pc ls (.int (nI i) :: .ref (a 5) :: rest)) := by
  have hc : (nI i).toNatClampNeg = i := nI_clamp (by omega)
  refine va_zald C.1.1 C.1.2.1 hw.1 hw.2.1 5 1 (n := 10) (f := σ 5) (cA := k.2.2.1) (by rw [rm_get (by decide), rm_E5]) rfl (vp_in_nI hi (by decide)) hdg ?_
  rw [hc]
  exact kk
theorem rm_iast (C : rm_C p m c cc nL s args Ts) (hw : rm_Wd k a A H0 s σ H locs) {q i : Nat} {x : Int32} (hq : 6 ≤ q ∧ q < 55) (hi : i < 10) (hdg : decode cc pc = .ok (.iastore, 1))
    (kk : ∀ (H1 : Heap) (locs1 : List Loc), rm_Wd k a A H0 s (rm_up σ q i x) H1 locs1 → W p l e R s m args below meth c H1 locs1 cells slots Q (F0 m (pc + 1) ls rest)) : W p l e R s m args below meth c H locs cells slots Q (F0 m pc ls (.int x :: .int (nI i) :: .ref (a q) :: rest)) := by
  have hc : (nI i).toNatClampNeg = i := nI_clamp (by omega)
  refine va_iast C.1.1 C.1.2.1 hw.1 hw.2.1 hw.2.2.1 hw.2.2.2 q 0 (n := 10) (f := σ q) (cA := k.2.1) (by rw [rm_get hq.2, rm_Er hq.1]) rfl (vp_in_nI hi (by decide)) hdg (fun H1 locs1 hP hD hS => ?_)
  rw [hc, rm_set (j := i) (v := x) hq.2 (by rw [rm_Er hq.1, rm_up_row])] at hP hD
  exact kk H1 locs1 ⟨hw.1, hP, hD, hS⟩
theorem rm_zast (C : rm_C p m c cc nL s args Ts) (hw : rm_Wd k a A H0 s σ H locs) {i : Nat} {x : Int32} (hi : i < 10) (hx : vp_nar .boolean x = x) (hdg : decode cc pc = .ok (.bastore, 1))
    (kk : ∀ (H1 : Heap) (locs1 : List Loc), rm_Wd k a A H0 s (rm_up σ 5 i x) H1 locs1 → W p l e R s m args below meth c H1 locs1 cells slots Q (F0 m (pc + 1) ls rest)) : W p l e R s m args below meth c H locs cells slots Q (F0 m pc ls (.int x :: .int (nI i) :: .ref (a 5) :: rest)) := by
  have hc : (nI i).toNatClampNeg = i := nI_clamp (by omega)
  refine va_zast C.1.1 C.1.2.1 hw.1 hw.2.1 hw.2.2.1 hw.2.2.2 5 1 (n := 10) (f := σ 5) (cA := k.2.2.1) (by rw [rm_get (by decide), rm_E5]) rfl (vp_in_nI hi (by decide)) hdg (fun H1 locs1 hP hD hS => ?_)
  rw [hc, hx, rm_set (j := i) (v := x) (by decide) (by rw [rm_E5, rm_up_row])] at hP hD
  exact kk H1 locs1 ⟨hw.1, hP, hD, hS⟩
theorem rm_aald (C : rm_C p m c cc nL s args Ts) (hw : rm_Wd k a A H0 s σ H locs) {g i : Nat} (r : Nat) (hg : 1 ≤ g ∧ g < 5 ∧ 5 + 10 * g = r) (hi : i < 10) (hdg : decode cc pc = .ok (.aaload, 1))
    (kk : W p l e R s m args below meth c H locs cells slots Q (F0 m (pc + 1) ls (.ref (a (r + i)) :: rest))) : W p l e R s m args below meth c H locs cells slots Q (F0 m pc ls (.int (nI i) :: .ref (a g) :: rest)) := by
  have hc : (nI i).toNatClampNeg = i := nI_clamp (by omega)
  have hin : vp_in (nI i) 10 := vp_in_nI hi (by decide)
  have ha : (rm_W k a σ)[g]? = some (a g, .inl (k.2.2.2.1, 10, .inr (.inr (.inr (.inr (rm_G a g)))))) := by rw [rm_get (by omega), rm_Eg ⟨hg.1, hg.2.1⟩]
  have hlt : (nI i).toNatClampNeg < 10 := by rw [hc]; exact hi
  have hv : va_rf (rm_G a g (nI i).toNatClampNeg) = .ref (a (r + i)) := by rw [hc]; unfold rm_G; rw [if_pos hi, hg.2.2]; rfl
  refine W.aald (v := va_rf (rm_G a g (nI i).toNatClampNeg)) (ty := .array .int) C.1.1 C.1.2.1 (hw.2.1 g _ ha) ((hw.1.2 2 _ rfl).1 10 (fun j => va_rf (rm_G a g j))) rfl (fun q => by cases q) (by show ¬ (nI i < 0 ∨ (arrV _ _ _).slots.size ≤ _); rw [arrV_size]; exact hin) (by show (arrV _ _ _).slots[_]? = _; rw [arrV_read _ _ hlt]) rfl rfl hdg ?_
  rw [hv]
  exact kk
theorem rm_F_i {j : Nat} (hj : j < 6) : (rm_F a σ)[j]? = some (.int (σ 0 j)) := by
  match j, hj with
  | 0, _ => rfl
  | 1, _ => rfl
  | 2, _ => rfl
  | 3, _ => rfl
  | 4, _ => rfl
  | 5, _ => rfl
theorem rm_F_set {j : Nat} (hj : j < 6) {v : Int32} : rm_F a (rm_up σ 0 j v) = (rm_F a σ).set j (.int v) := by
  match j, hj with
  | 0, _ => simp [rm_F, rm_up]
  | 1, _ => simp [rm_F, rm_up]
  | 2, _ => simp [rm_F, rm_up]
  | 3, _ => simp [rm_F, rm_up]
  | 4, _ => simp [rm_F, rm_up]
  | 5, _ => simp [rm_F, rm_up]
theorem rm_geti (C : rm_C p m c cc nL s args Ts) (hw : rm_Wd k a A H0 s σ H locs) (j : Nat) (hj : j < 6) {index : Nat} (hl : (Cond.fieldLink RX0 index "RankMesh" (TX0 j).2.1 (TX0 j).2.2.1).before args s = true) (hsame : (TX0 j).1 = "RankMesh") (hdg : decode cc pc = .ok (.getfield index, 3))
    (kk : W p l e R s m args below meth c H locs cells slots Q (F0 m (pc + 3) ls (.int (σ 0 j) :: rest))) : W p l e R s m args below meth c H locs cells slots Q (F0 m pc ls (.ref (a 0) :: rest)) :=
  va_get (D := k.1) (ci := 0) (v := .int (σ 0 j)) (C := RX0) (T := TX0) (N := 20) C.1.1 C.1.2.1 C.1.2.2.2.2 C.2 C.1.2.2.2.1 hw.1 hw.2.1 0 (rm_get (by decide)) rfl j (by omega) hl (fun _ h9 => by rw [hsame] at h9; exact h9) (rm_F_i hj) hdg kk
theorem rm_geta (C : rm_C p m c cc nL s args Ts) (hw : rm_Wd k a A H0 s σ H locs) (f q : Nat) (hf : f < 20) (hv : (rm_F a σ)[f]? = some (.ref (a q))) {index : Nat} (hl : (Cond.fieldLink RX0 index "RankMesh" (TX0 f).2.1 (TX0 f).2.2.1).before args s = true) (hsame : (TX0 f).1 = "RankMesh") (hdg : decode cc pc = .ok (.getfield index, 3))
    (kk : W p l e R s m args below meth c H locs cells slots Q (F0 m (pc + 3) ls (.ref (a q) :: rest))) : W p l e R s m args below meth c H locs cells slots Q (F0 m pc ls (.ref (a 0) :: rest)) :=
  va_get (D := k.1) (ci := 0) (v := .ref (a q)) (C := RX0) (T := TX0) (N := 20) C.1.1 C.1.2.1 C.1.2.2.2.2 C.2 C.1.2.2.2.1 hw.1 hw.2.1 0 (rm_get (by decide)) rfl f hf hl (fun _ h9 => by rw [hsame] at h9; exact h9) hv hdg kk
theorem rm_puti (C : rm_C p m c cc nL s args Ts) (hw : rm_Wd k a A H0 s σ H locs) (j : Nat) (hj : j < 6) {x : Int32} {index : Nat} (hl : (Cond.fieldLink RX0 index "RankMesh" (TX0 j).2.1 (TX0 j).2.2.1).before args s = true) (hsame : (TX0 j).1 = "RankMesh") (hfin : (TX0 j).2.2.2 = false) (hd : parseFieldDescriptor (TX0 j).2.2.1 = some .int) (hdg : decode cc pc = .ok (.putfield index, 3))
    (kk : ∀ (H1 : Heap) (locs1 : List Loc), rm_Wd k a A H0 s (rm_up σ 0 j x) H1 locs1 → W p l e R s m args below meth c H1 locs1 cells slots Q (F0 m (pc + 3) ls rest)) : W p l e R s m args below meth c H locs cells slots Q (F0 m pc ls (.int x :: .ref (a 0) :: rest)) := by
  refine va_put (D := k.1) (ci := 0) (v := .int x) (ty := .int) (C := RX0) (T := TX0) (N := 20) (fs := rm_F a σ) C.1.1 C.1.2.1 C.1.2.2.2.2 C.2 tyX0 tyX0_ok nmX0 C.1.2.2.2.1 hw.1 hw.2.1 hw.2.2.1 hw.2.2.2 0 (rm_get (by decide)) rfl j (by omega) hl (fun _ h9 => by rw [hsame] at h9; exact h9) hfin hd rfl rfl (by show j < 20; omega) hdg (fun H1 locs1 hP hD hS => ?_)
  rw [rm_set (j := j) (v := x) (by decide) (by rw [rm_E0, rm_F_set hj])] at hP hD
  exact kk H1 locs1 ⟨hw.1, hP, hD, hS⟩
/-- a branch on a truth value -/
theorem rm_ifeq (hexec : p.tables.exec = Jvm.exec) (hb : c.code = cc) {b : Bool} {off : Int} {tgt : Nat} (hdg : decode cc pc = .ok (.ifCond .eq off, 3)) (ht : (pc : Int) + off = (tgt : Int))
    (kt : b = false → W p l e R s m args below meth c H locs cells slots Q (F0 m tgt ls rest)) (kf : b = true → W p l e R s m args below meth c H locs cells slots Q (F0 m (pc + 3) ls rest)) : W p l e R s m args below meth c H locs cells slots Q (F0 m pc ls (.int (bI b) :: rest)) :=
  lv_if_eq hexec hb hdg ht (fun h => kt (bI_0 h)) (fun h => kf (bI_n h))
theorem rm_ifne (hexec : p.tables.exec = Jvm.exec) (hb : c.code = cc) {b : Bool} {off : Int} {tgt : Nat} (hdg : decode cc pc = .ok (.ifCond .ne off, 3)) (ht : (pc : Int) + off = (tgt : Int))
    (kt : b = true → W p l e R s m args below meth c H locs cells slots Q (F0 m tgt ls rest)) (kf : b = false → W p l e R s m args below meth c H locs cells slots Q (F0 m (pc + 3) ls rest)) : W p l e R s m args below meth c H locs cells slots Q (F0 m pc ls (.int (bI b) :: rest)) :=
  lv_if_ne hexec hb hdg ht (fun h => kt (bI_n h)) (fun h => kf (bI_0 h))
end RMR
/-- contracts: an int, nothing -/
def rm_MI (l : Launch) (k : rm_K) (a : Nat → Nat) (y : MethodName) (ws : List Cond) (rmm : Room) (As : List Value) (σ : rm_St) (r0 : Int32) (σ0 : rm_St) : Prop :=
  ∀ sz : Nat, Met l y ws rmm (va_Pc (.ref (a 0) :: As) (fun U => U.heap.size = sz ∧ rm_P k a σ U)) (va_Qi (fun (r : Int32) (τ : rm_St) => r = r0 ∧ τ = σ0) (fun τ t => rm_P k a τ t) (rm_A a sz)) 0 0 (rm_A a sz)
def rm_MV (l : Launch) (k : rm_K) (a : Nat → Nat) (y : MethodName) (ws : List Cond) (rmm : Room) (As : List Value) (σ : rm_St) (σ0 : rm_St) : Prop :=
  ∀ sz : Nat, Met l y ws rmm (va_Pc (.ref (a 0) :: As) (fun U => U.heap.size = sz ∧ rm_P k a σ U)) (va_Qv (fun (τ : rm_St) => τ = σ0) (fun τ t => rm_P k a τ t) (rm_A a sz)) 0 0 (rm_A a sz)
section RME
variable {l : Launch} {k : rm_K} {a : Nat → Nat} {y : MethodName} {ws ws' : List Cond} {rmm : Room} {As : List Value} {σ σ0 σ' : rm_St} {r0 : Int32} {cc : ByteArray} {nL : Nat} {ret : Option FieldType}
theorem rm_start {s : State} (ha : rm_inj a) (h : rm_P k a σ s) : rm_Wd k a (rm_A a s.heap.size) s.heap s σ s.heap [] :=
  ⟨h.2, h.1, rm_D ha (fun j hj => Or.inl ⟨j, hj, rfl⟩), va_S.rf⟩
theorem rm_enterI (ha : rm_inj a) (hy : plainName y.cls = true) (hcls : y.cls = RX0) (hw : ws = Cond.code y cc nL ret :: ws') (hin : ∀ w ∈ u_ws RX0 TX0 20, w ∈ ws) (hn : (lg_sl (.ref (a 0) :: As)).length ≤ nL)
    (body : ∀ (p : Program) (e : Env) (s : State) (m : MethodId) (args : Array Value) (below : List Frame) (meth : Method) (c : Code) (ls : Array Slot), rm_C p m c cc nL s args ws → meth.sig.returnType = ret → meth.locks = false → rm_Wd k a (rm_A a s.heap.size) s.heap s σ s.heap [] → lv_has ls nL (lv_args 0 (.ref (a 0) :: As)) →
      W p l e (headSpec ws rmm).room s m args below meth c s.heap [] 0 0 (MQ below (va_Qi (fun (r : Int32) (τ : rm_St) => r = r0 ∧ τ = σ0) (fun τ t => rm_P k a τ t) (rm_A a s.heap.size)) args s 0 0 (rm_A a s.heap.size)) (F0 m 0 ls [])) : rm_MI l k a y ws rmm As σ r0 σ0 := by
  intro sz
  refine Met.ofW (cc := cc) (maxL := nL) (ret := ret) hy hw ?_
  intro p e s m args below meth c s₁ B hml hv
  obtain ⟨rfl, hsz, hP⟩ := hv
  have hown : s.vm.findClass RX0 = some m.cls := hcls ▸ findClass_of_methodNamed B.named
  subst hsz
  have hl := lv_entry (.ref (a 0) :: As) (n := nL) hn
  rw [lg_entry_eq]
  exact body p e s m _ below meth c _ ⟨⟨B.exec, B.bytes, hml, hown, atoms_spec (ws := ws) B.pre⟩, hin⟩ B.returns B.notSynchronized (rm_start ha hP) hl
theorem rm_enterV (ha : rm_inj a) (hy : plainName y.cls = true) (hcls : y.cls = RX0) (hw : ws = Cond.code y cc nL ret :: ws') (hin : ∀ w ∈ u_ws RX0 TX0 20, w ∈ ws) (hn : (lg_sl (.ref (a 0) :: As)).length ≤ nL)
    (body : ∀ (p : Program) (e : Env) (s : State) (m : MethodId) (args : Array Value) (below : List Frame) (meth : Method) (c : Code) (ls : Array Slot), rm_C p m c cc nL s args ws → meth.sig.returnType = ret → meth.locks = false → rm_Wd k a (rm_A a s.heap.size) s.heap s σ s.heap [] → lv_has ls nL (lv_args 0 (.ref (a 0) :: As)) →
      W p l e (headSpec ws rmm).room s m args below meth c s.heap [] 0 0 (MQ below (va_Qv (fun (τ : rm_St) => τ = σ0) (fun τ t => rm_P k a τ t) (rm_A a s.heap.size)) args s 0 0 (rm_A a s.heap.size)) (F0 m 0 ls [])) : rm_MV l k a y ws rmm As σ σ0 := by
  intro sz
  refine Met.ofW (cc := cc) (maxL := nL) (ret := ret) hy hw ?_
  intro p e s m args below meth c s₁ B hml hv
  obtain ⟨rfl, hsz, hP⟩ := hv
  have hown : s.vm.findClass RX0 = some m.cls := hcls ▸ findClass_of_methodNamed B.named
  subst hsz
  have hl := lv_entry (.ref (a 0) :: As) (n := nL) hn
  rw [lg_entry_eq]
  exact body p e s m _ below meth c _ ⟨⟨B.exec, B.bytes, hml, hown, atoms_spec (ws := ws) B.pre⟩, hin⟩ B.returns B.notSynchronized (rm_start ha hP) hl
end RME
section RMQ
variable {p : Program} {l : Launch} {e : Env} {R : Room} {s : State} {m : MethodId} {args : Array Value} {below : List Frame} {meth : Method} {c : Code} {H : Heap} {locs : List Loc} {cells slots : Nat} {Q : State → Prop}
variable {cc : ByteArray} {pc nL : Nat} {ls : Array Slot} {rest : List Value} {Ts : List Cond} {k : rm_K} {a : Nat → Nat} {A : Nat → Prop} {H0 : Heap} {σ σ0 : rm_St} {r0 v : Int32}
theorem rm_end {t : State} (hw : rm_Wd k a (rm_A a s.heap.size) s.heap s σ H locs) (ht : t.heap = H) (hW : s.WarmedH t.vm) : rm_P k a σ t ∧ va_F (rm_A a s.heap.size) s t :=
  ⟨⟨by rw [ht]; exact hw.2.1, va_K.moved hW.alike hw.1⟩, hw.2.2.2.F ht⟩
theorem rm_iret (C : rm_C p m c cc nL s args Ts) (hr : meth.sig.returnType = some .int) (hlocks : meth.locks = false) (hw : rm_Wd k a (rm_A a s.heap.size) s.heap s σ H locs) (hdg : decode cc pc = .ok (.ireturn, 1)) (h : v = r0 ∧ σ = σ0) :
    W p l e R s m args below meth c H locs cells slots (MQ below (va_Qi (fun (r : Int32) (τ : rm_St) => r = r0 ∧ τ = σ0) (fun τ t => rm_P k a τ t) (rm_A a s.heap.size)) args s cells slots (rm_A a s.heap.size)) (F0 m pc ls [.int v]) :=
  W.iret (v := v) C.1.1 C.1.2.1 hr (fun t ht hW => ⟨⟨v, σ, rfl, h, (rm_end hw ht hW).1⟩, (rm_end hw ht hW).2⟩) hw.2.2.2.2.2 hdg hlocks
theorem rm_zret (C : rm_C p m c cc nL s args Ts) (hr : meth.sig.returnType = some .boolean) (hlocks : meth.locks = false) (hw : rm_Wd k a (rm_A a s.heap.size) s.heap s σ H locs) (hn : narrow .boolean (.int v) = .int v) (hdg : decode cc pc = .ok (.ireturn, 1)) (h : v = r0 ∧ σ = σ0) :
    W p l e R s m args below meth c H locs cells slots (MQ below (va_Qi (fun (r : Int32) (τ : rm_St) => r = r0 ∧ τ = σ0) (fun τ t => rm_P k a τ t) (rm_A a s.heap.size)) args s cells slots (rm_A a s.heap.size)) (F0 m pc ls [.int v]) :=
  W.zret (v := v) C.1.1 C.1.2.1 hr hn (fun t ht hW => ⟨⟨v, σ, rfl, h, (rm_end hw ht hW).1⟩, (rm_end hw ht hW).2⟩) hw.2.2.2.2.2 hdg hlocks
theorem rm_vret (C : rm_C p m c cc nL s args Ts) (hr : meth.sig.returnType = none) (hlocks : meth.locks = false) (hw : rm_Wd k a (rm_A a s.heap.size) s.heap s σ H locs) (hdg : decode cc pc = .ok (.return_, 1)) (h : σ = σ0) :
    W p l e R s m args below meth c H locs cells slots (MQ below (va_Qv (fun (τ : rm_St) => τ = σ0) (fun τ t => rm_P k a τ t) (rm_A a s.heap.size)) args s cells slots (rm_A a s.heap.size)) (F0 m pc ls []) :=
  W.vret C.1.1 C.1.2.1 hr (fun t ht hW => ⟨⟨σ, rfl, h, (rm_end hw ht hW).1⟩, (rm_end hw ht hW).2⟩) hw.2.2.2.2.2 hdg hlocks
/-- what a call needs of the caller's world, and what it leaves -/
theorem rm_pre (hw : rm_Wd k a A H0 s σ H locs) (av : List Value) : PreV s H RX0 (a 0) (va_Pc (.ref (a 0) :: av) (fun U => U.heap.size = H.size ∧ rm_P k a σ U)) av :=
  ⟨fun x U g mk q => by obtain ⟨q0, q1, q2, q3⟩ := q; exact ⟨q0, q1, q2, va_K.moved (u := U) (U := U.calling g mk x) (Vm.Alike.refl U.vm) q3⟩,
    va_recv hw.1 hw.2.1 (ci := 0) (q0 := 0) (show vwCl[0]? = some (RX0, TX0, 20) from rfl) (rm_get (q := 0) (by decide)), fun U hU hW => ⟨rfl, by rw [hU], by rw [hU]; exact hw.2.1, va_K.moved hW.alike hw.1⟩⟩
theorem rm_sub (hw : rm_Wd k a A H0 s σ H locs) (hA : ∀ q, H0.size ≤ q → A q) : ∀ q, rm_A a H.size q → A q := fun q h => by
  rcases h with ⟨j, hj, rfl⟩ | h
  · exact rm_D_A hw.2.2.1 j hj
  · exact hA q (Nat.le_trans hw.2.2.2.1 h)
theorem rm_post {t : State} {H1 : Heap} {locs1 : List Loc} {τ : rm_St} (hw : rm_Wd k a A H0 s σ H locs) (ht : t.heap = H1) (hvm : s.vm.Alike t.vm) (hB : rm_P k a τ t) (hS : va_S A H0 H1 locs1) : rm_Wd k a A H0 s τ H1 locs1 :=
  ⟨va_K.moved hvm.symm hB.2, by rw [← ht]; exact hB.1, rm_D (rm_D_inj hw.2.2.1) (rm_D_A hw.2.2.1), hS⟩
variable {y : MethodName} {bytes : ByteArray} {maxL index n : Nat} {ret : Option FieldType} {ws : List Cond} {rmm : Room} {As st0 : List Value}
theorem rm_callI (C : rm_C p m c cc nL s args Ts) (hw : rm_Wd k a A H0 s σ H locs) (hA : ∀ q, H0.size ≤ q → A q) (hM : rm_MI l k a y ws rmm As σ r0 σ0) (cw : CallW R s args RX0 RX0 index y bytes maxL ret ws rmm 0 0 n) (hn : As.length = n) (hsize : ls.size = nL) (hstack : st0 = As.reverse ++ .ref (a 0) :: rest)
    (hW : 2 * (F0 m pc ls st0).monitorRoom + (rest.map fun v => v.category).sum ≤ 8) (hdg : decode cc pc = .ok (.invokevirtual index, 3)) (hf : cells ≤ R.cells ∧ slots ≤ R.slots)
    (kk : ∀ (H1 : Heap) (locs1 : List Loc), rm_Wd k a A H0 s σ0 H1 locs1 → W p l e R s m args below meth c H1 locs1 cells slots Q (F0 m (pc + 3) ls (.int r0 :: rest))) : W p l e R s m args below meth c H locs cells slots Q (F0 m pc ls st0) := by
  refine va_calli (va_runV (As := As) (rest := rest) C.1 (hM H.size) cw (rm_pre hw As) rfl hn hsize hstack hW hdg hf) hw.2.2.2 (fun q _ h => rm_sub hw hA q h) (fun q h => rm_sub hw hA q h) (fun r u t H1 locs1 ht hvm hp hB hz1 hk1 hS => ?_)
  obtain ⟨rfl, rfl⟩ := hp
  exact kk H1 locs1 (rm_post hw ht hvm hB hS)
theorem rm_callV (C : rm_C p m c cc nL s args Ts) (hw : rm_Wd k a A H0 s σ H locs) (hA : ∀ q, H0.size ≤ q → A q) (hM : rm_MV l k a y ws rmm As σ σ0) (cw : CallW R s args RX0 RX0 index y bytes maxL ret ws rmm 0 0 n) (hn : As.length = n) (hsize : ls.size = nL) (hstack : st0 = As.reverse ++ .ref (a 0) :: rest)
    (hW : 2 * (F0 m pc ls st0).monitorRoom + (rest.map fun v => v.category).sum ≤ 8) (hdg : decode cc pc = .ok (.invokevirtual index, 3)) (hf : cells ≤ R.cells ∧ slots ≤ R.slots)
    (kk : ∀ (H1 : Heap) (locs1 : List Loc), rm_Wd k a A H0 s σ0 H1 locs1 → W p l e R s m args below meth c H1 locs1 cells slots Q (F0 m (pc + 3) ls rest)) : W p l e R s m args below meth c H locs cells slots Q (F0 m pc ls st0) := by
  refine va_callv (va_runV (As := As) (rest := rest) C.1 (hM H.size) cw (rm_pre hw As) rfl hn hsize hstack hW hdg hf) hw.2.2.2 (fun q _ h => rm_sub hw hA q h) (fun q h => rm_sub hw hA q h) (fun u t H1 locs1 ht hvm hp hB hz1 hk1 hS => ?_)
  obtain rfl := hp
  exact kk H1 locs1 (rm_post hw ht hvm hB hS)
end RMQ
end
section
/-! what the mesh's private methods do, as functions of its state -/
theorem rm_inc (n : Nat) : nI n + Int32.ofInt 1 = nI (n + 1) := nI_1 n
theorem rm_cl {o : Nat} (h : o < 10) : (nI o).toNatClampNeg = o := nI_clamp (by omega)
def rm_mn (x y : Int32) : Int32 := if y < x then y else x
def rm_reset (σ : rm_St) (n : Nat) : rm_St := rm_up (rm_up σ 12 n (σ 0 2)) 13 n ((rm_up σ 12 n (σ 0 2)) 0 4 + (rm_up σ 12 n (σ 0 2)) 0 2)
def rm_clear (σ : rm_St) (n : Nat) : rm_St := rm_up (rm_up (rm_up (rm_up (rm_up σ 7 n (-1)) 8 n 0) 9 n 10000) 10 n 10000) 11 n (-1)
def rm_forget (σ : rm_St) (n o : Nat) : rm_St := rm_up (rm_up (rm_up σ (25 + n) o (-1)) (35 + n) o 0) (45 + n) o (-1)
def rm_begin0 (σ : rm_St) (n : Nat) : rm_St := rm_up σ 6 n (σ 6 n + 1)
def rm_begin (σ : rm_St) (n : Nat) : rm_St := rm_reset (rm_up (rm_begin0 σ n) 8 n (rm_begin0 σ n 6 n)) n
def rm_len0 (σ : rm_St) (n : Nat) : rm_St := rm_up σ 12 n (rm_mn (2 * σ 12 n) (σ 0 2 <<< (σ 0 3 &&& 31)))
def rm_len (σ : rm_St) (n : Nat) : rm_St := rm_up (rm_len0 σ n) 13 n (rm_len0 σ n 0 4 + rm_len0 σ n 12 n)
def rm_rankBy (σ : rm_St) (n o : Nat) : Int32 := σ (45 + n) o + σ (15 + n) o
def rm_own (σ : rm_St) (n o : Nat) : Bool := if σ (25 + n) o = σ 7 n then (if σ (35 + n) o = σ 8 n then true else false) else false
def rm_deep (σ : rm_St) (n o : Nat) : Bool :=
  if rm_own σ n o = true then (if σ 9 n = 10000 then false else if σ 9 n ≤ σ (45 + n) o then true else if rm_rankBy σ n o ≤ σ 10 n + σ 0 1 then false else true) else false
def rm_outdL (σ : rm_St) (n : Nat) (t v : Int32) : Nat → Nat → Bool
  | 0, _ => false
  | r + 1, i => if σ (25 + n) i = t then (if σ (35 + n) i ≤ v then rm_outdL σ n t v r (i + 1) else true) else rm_outdL σ n t v r (i + 1)
def rm_outd (σ : rm_St) (n o : Nat) : Bool :=
  if σ 7 n = σ (25 + n) o then (if σ 8 n ≤ σ (35 + n) o then rm_outdL σ n (σ (25 + n) o) (σ (35 + n) o) 10 0 else true) else rm_outdL σ n (σ (25 + n) o) (σ (35 + n) o) 10 0
def rm_cand (σ : rm_St) (n o : Nat) : Bool :=
  if σ (45 + n) o = -1 then false else if 10000 ≤ σ (45 + n) o then false else if rm_rankBy σ n o < 10000 then (if rm_outd σ n o = true then false else if rm_deep σ n o = true then false else true) else false
def rm_bestL (σ : rm_St) (n : Nat) : Nat → Nat → Int32 → Int32 → Int32
  | 0, _, b, _ => b
  | r + 1, i, b, x => if x ≤ rm_rankBy σ n i then rm_bestL σ n r (i + 1) b x else if rm_cand σ n i = true then rm_bestL σ n r (i + 1) (nI i) (rm_rankBy σ n i) else rm_bestL σ n r (i + 1) b x
def rm_best (σ : rm_St) (n : Nat) : Int32 := rm_bestL σ n 10 0 (-1) 10000
def rm_keeps (σ : rm_St) (n o : Nat) : Bool :=
  if isNd (σ 11 n) = true then (if rm_cand σ n (σ 11 n).toNatClampNeg = true then
    (if rm_rankBy σ n (σ 11 n).toNatClampNeg - rm_rankBy σ n o < σ 0 0 then true else if 1 ≤ rm_rankBy σ n (σ 11 n).toNatClampNeg - rm_rankBy σ n o then false else true) else false) else false
theorem rm_keeps_nd {σ : rm_St} {n o : Nat} (h : rm_keeps σ n o = true) : isNd (σ 11 n) = true := by
  unfold rm_keeps at h
  by_cases c : isNd (σ 11 n) = true
  · exact c
  · rw [if_neg c] at h
    cases h
def rm_fol (σ : rm_St) (n o : Nat) (low : Int32) : rm_St :=
  rm_up (rm_up (rm_up (rm_up (rm_up σ 10 n low) 7 n ((rm_up σ 10 n low) (25 + n) o)) 8 n ((rm_up (rm_up σ 10 n low) 7 n ((rm_up σ 10 n low) (25 + n) o)) (35 + n) o)) 9 n (rm_rankBy σ n o)) 11 n (nI o)
def rm_follow (σ : rm_St) (n o : Nat) : rm_St :=
  if rm_own σ n o = true then
    (if rm_rankBy σ n o = σ 9 n then (if nI o = σ 11 n then rm_fol σ n o (rm_mn (rm_rankBy σ n o) (σ 10 n)) else rm_reset (rm_fol σ n o (rm_mn (rm_rankBy σ n o) (σ 10 n))) n)
     else rm_reset (rm_fol σ n o (rm_mn (rm_rankBy σ n o) (σ 10 n))) n)
  else rm_reset (rm_fol σ n o (rm_rankBy σ n o)) n
def rm_lose (σ : rm_St) (n : Nat) : rm_St :=
  if σ 9 n = 10000 then (if σ 11 n = -1 then rm_up (rm_up σ 9 n 10000) 11 n (-1) else rm_reset (rm_up (rm_up σ 9 n 10000) 11 n (-1)) n) else rm_reset (rm_up (rm_up σ 9 n 10000) 11 n (-1)) n
def rm_choose (σ : rm_St) (n : Nat) : rm_St :=
  if σ 5 n = 0 then (if isNd (rm_best σ n) = true then (if rm_keeps σ n (rm_best σ n).toNatClampNeg = true then rm_follow σ n (σ 11 n).toNatClampNeg else rm_follow σ n (rm_best σ n).toNatClampNeg) else rm_lose σ n) else σ
def rm_hear (σ : rm_St) (t i : Nat) : rm_St :=
  rm_up (rm_up (rm_up σ (25 + i) t (σ 7 t)) (35 + i) t ((rm_up σ (25 + i) t (σ 7 t)) 8 t)) (45 + i) t ((rm_up (rm_up σ (25 + i) t (σ 7 t)) (35 + i) t ((rm_up σ (25 + i) t (σ 7 t)) 8 t)) 9 t)
def rm_tellL (t : Nat) : Nat → Nat → rm_St → rm_St
  | 0, _, σ => σ
  | r + 1, i, σ => if σ (15 + t) i ≤ 0 then rm_tellL t r (i + 1) σ else rm_tellL t r (i + 1) (rm_choose (rm_hear σ t i) i)
def rm_tell (σ : rm_St) (t : Nat) : rm_St := rm_tellL t 10 0 σ
def rm_tickL : Nat → Nat → Int32 → rm_St → rm_St × Int32
  | 0, _, x, σ => (σ, x)
  | r + 1, i, x, σ => if σ 13 i = σ 0 4 then rm_tickL r (i + 1) (x + 1) (rm_len (rm_tell σ i) i) else rm_tickL r (i + 1) x σ
def rm_tick (σ : rm_St) : rm_St × Int32 := rm_tickL 10 0 0 (rm_up σ 0 4 (σ 0 4 + 1))
def rm_chL (σ : rm_St) (v : Int32) : Nat → Nat → Int32 → Int32
  | 0, _, x => x
  | r + 1, i, x => if isNd (σ 11 i) = true then (if (v >>> (σ 11 i &&& 31)) &&& 1 = 0 then rm_chL σ v r (i + 1) x else rm_chL σ v r (i + 1) (x ||| ((1 : Int32) <<< (nI i &&& 31)))) else rm_chL σ v r (i + 1) x
def rm_ch (σ : rm_St) (v : Int32) : Int32 := rm_chL σ v 10 0 0
def rm_lowJ (i : Nat) : Nat → Nat → rm_St → rm_St
  | 0, _, σ => σ
  | r + 1, j, σ => if σ (15 + i) j ≤ 0 then rm_lowJ i r (j + 1) σ else rm_lowJ i r (j + 1) (rm_up σ 14 i (rm_mn (σ 14 i) (σ 14 j + σ (15 + i) j)))
def rm_lowL : Nat → Nat → rm_St → rm_St
  | 0, _, σ => σ
  | r + 1, i, σ => rm_lowL r (i + 1) (rm_lowJ i 10 0 σ)
def rm_lower (σ : rm_St) : rm_St := rm_lowL 10 0 σ
/-! the static test of a node, called from a walk in the mesh's world -/
def rm_SI (l : Launch) (y : MethodName) (ws : List Cond) (rmm : Room) (As : List Value) (r0 : Int32) : Prop :=
  Met l y ws rmm (va_Pc As (fun _ => True)) (va_Qi (fun (r : Int32) (_ : Unit) => r = r0) (fun _ _ => True) (fun _ => False)) 0 0 (fun _ => False)
theorem rm_kept {D : va_G} {cl : List vw_C} {ws : va_W} {H H1 : Heap} (hP : va_P D cl ws H) (hk : ∀ q : Nat, q < H.size → H1[q]? = H[q]?) : va_P D cl ws H1 := hP.kept (fun i q h => hk q.1 (hP i q h).lt)
section RMS
variable {p : Program} {l : Launch} {e : Env} {R : Room} {s : State} {m : MethodId} {args : Array Value} {below : List Frame} {meth : Method} {c : Code} {H : Heap} {locs : List Loc} {cells slots : Nat} {Q : State → Prop}
variable {cc : ByteArray} {pc nL : Nat} {ls : Array Slot} {rest : List Value} {Ts : List Cond} {k : rm_K} {a : Nat → Nat} {A : Nat → Prop} {H0 : Heap} {σ σ0 : rm_St} {r0 v : Int32} {own : String}
variable {y : MethodName} {bytes : ByteArray} {maxL index n : Nat} {ret : Option FieldType} {ws : List Cond} {rmm : Room} {As st0 : List Value}
theorem rm_callSI0 (CF : CallFix p m c cc nL s args Ts own) (hS : va_S A H0 H locs) (hM : rm_SI l y ws rmm As r0) (cw : CallB R s args own index y bytes maxL ret ws rmm 0 0 n ∧ (Cond.static y).before args s = true) (hn : As.length = n) (hsize : ls.size = nL) (hstack : st0 = As.reverse ++ rest)
    (hW : 2 * (F0 m pc ls st0).monitorRoom + (rest.map fun v => v.category).sum ≤ 8) (hdg : decode cc pc = .ok (.invokestatic index, 3)) (hf : cells ≤ R.cells ∧ slots ≤ R.slots)
    (kk : ∀ (H1 : Heap) (locs1 : List Loc), (∀ q : Nat, q < H.size → H1[q]? = H[q]?) → va_S A H0 H1 locs1 → W p l e R s m args below meth c H1 locs1 cells slots Q (F0 m (pc + 3) ls (.int r0 :: rest))) : W p l e R s m args below meth c H locs cells slots Q (F0 m pc ls st0) := by
  refine va_calli (va_runS (As := As) (rest := rest) CF hM cw ⟨fun _ _ _ _ q => q, fun U hU hW => ⟨rfl, trivial⟩⟩ rfl hn hsize hstack hW hdg hf) hS (fun q _ h => h.elim) (fun q h => h.elim) (fun r u t H1 locs1 ht hvm hp hB hz1 hk1 hS => ?_)
  obtain rfl := hp
  exact kk H1 locs1 (fun q hq => hk1 q hq id) hS
theorem rm_callSI (C : rm_C p m c cc nL s args Ts) (hw : rm_Wd k a A H0 s σ H locs) (hM : rm_SI l y ws rmm As r0) (cw : CallB R s args RX0 index y bytes maxL ret ws rmm 0 0 n ∧ (Cond.static y).before args s = true) (hn : As.length = n) (hsize : ls.size = nL) (hstack : st0 = As.reverse ++ rest)
    (hW : 2 * (F0 m pc ls st0).monitorRoom + (rest.map fun v => v.category).sum ≤ 8) (hdg : decode cc pc = .ok (.invokestatic index, 3)) (hf : cells ≤ R.cells ∧ slots ≤ R.slots)
    (kk : ∀ (H1 : Heap) (locs1 : List Loc), rm_Wd k a A H0 s σ H1 locs1 → W p l e R s m args below meth c H1 locs1 cells slots Q (F0 m (pc + 3) ls (.int r0 :: rest))) : W p l e R s m args below meth c H locs cells slots Q (F0 m pc ls st0) :=
  rm_callSI0 C.1 hw.2.2.2 hM cw hn hsize hstack hW hdg hf (fun H1 locs1 hk hS => kk H1 locs1 ⟨hw.1, rm_kept hw.2.1 hk, hw.2.2.1, hS⟩)
end RMS
set_option maxHeartbeats 4000000 in
set_option maxRecDepth 100000 in
theorem kX0_isNode (l : Launch) (v : Int32) : rm_SI l yX0_isNode wsX0_isNode ({ frames := 0, cells := 0, slots := 0, locals := 0 }) [.int v] (bI (isNd v)) := by
  refine Met.ofW (cc := cX0_isNode) (maxL := 1) (ret := (some .boolean)) (by decide) rfl ?_
  intro p e s m args below meth c s₁ B hml hv
  obtain ⟨rfl, -⟩ := hv
  have hx := B.exec
  have hb := B.bytes
  have hr := B.returns
  have hlocks := B.notSynchronized
  have hl := lv_entry ([.int v]) (n := 1) (Nat.le_of_ble_eq_true rfl)
  rw [lg_entry_eq]
  generalize (lg_sl ([.int v]) ++ List.replicate (1 - (lg_sl ([.int v])).length) Slot.unset).toArray = ls at hl ⊢
  have hl : lv_has ls 1 [(0, .int v)] := hl
  have fin : ∀ {t : State}, t.heap = s.heap → va_F (fun _ => False) s t := fun ht => ⟨by rw [ht]; exact Nat.le_refl _, fun q _ _ => by rw [ht]⟩
  refine lv_iload_n hx hb dX0_isNode_0 rfl (lv_at hl 0 rfl) ?_
  refine lv_if_lt (tgt := 14) hx hb dX0_isNode_1 (by decide) (fun c1 => ?_) (fun c1 => ?_)
  · refine lv_iconst (v := 0) hx hb dX0_isNode_14 (by decide) ?_
    exact W.zret (v := 0) hx hb hr (by decide) (fun t ht hW => ⟨⟨0, (), rfl, by simp [isNd, c1, bI], trivial⟩, fin ht⟩) (fun q h => nomatch h) dX0_isNode_15 hlocks
  · refine lv_iload_n hx hb dX0_isNode_4 rfl (lv_at hl 0 rfl) ?_
    refine lv_bipush (v := 10) hx hb dX0_isNode_5 (by decide) ?_
    refine lv_icmp_ge (tgt := 14) hx hb dX0_isNode_7 (by decide) (fun c2 => ?_) (fun c2 => ?_)
    · refine lv_iconst (v := 0) hx hb dX0_isNode_14 (by decide) ?_
      exact W.zret (v := 0) hx hb hr (by decide) (fun t ht hW => ⟨⟨0, (), rfl, by rw [isNd, show decide (v < 10) = false from decide_eq_false (fun h => by rw [Int32.lt_iff_toInt_lt] at h; rw [Int32.le_iff_toInt_le] at c2; omega), Bool.and_false]; rfl, trivial⟩, fin ht⟩) (fun q h => nomatch h) dX0_isNode_15 hlocks
    · refine lv_iconst (v := 1) hx hb dX0_isNode_10 (by decide) ?_
      refine lv_goto (tgt := 15) hx hb dX0_isNode_11 (by decide) ?_
      exact W.zret (v := 1) hx hb hr (by decide) (fun t ht hW => ⟨⟨1, (), rfl, by rw [isNd, show decide (v < 10) = true from decide_eq_true (by rw [Int32.lt_iff_toInt_lt]; rw [Int32.le_iff_toInt_le] at c2; omega), decide_eq_true c1]; rfl, trivial⟩, fin ht⟩) (fun q h => nomatch h) dX0_isNode_15 hlocks
end
section
set_option maxHeartbeats 4000000 in
set_option maxRecDepth 100000 in
theorem kX0_time (l : Launch) (k : rm_K) (a : Nat → Nat) (ha : rm_inj a) (σ : rm_St)   : rm_MI l k a yX0_time wsX0_time ({ frames := 0, cells := 0, slots := 0, locals := 0 }) [] σ (σ 0 4) σ := by
  refine rm_enterI (cc := cX0_time) (nL := 1) (ret := (some .int)) ha (by decide) rfl rfl (by decide +kernel) (Nat.le_of_ble_eq_true rfl) ?_
  intro p e s m args below meth c ls C hr hlocks hw hl
  have hx := C.1.1
  have hb := C.1.2.1
  have hts := C.1.2.2.2.2
  have hA : ∀ q, s.heap.size ≤ q → rm_A a s.heap.size q := fun q h => Or.inr h
  replace hl : lv_has ls 1 [(0, .ref (a 0))] := hl
  refine lv_aload_n hx hb dX0_time_0 rfl (lv_at hl 0 rfl) ?_
  refine rm_geti C hw 4 (by decide) (hts _ (by decide +kernel)) rfl dX0_time_1 ?_
  exact rm_iret C hr hlocks hw dX0_time_4 ⟨by first | with_reducible rfl | (simp only [↓reduceIte, Bool.false_eq_true]; done) | (simp only [↓reduceIte, Bool.false_eq_true]; rfl) | rfl, by first | with_reducible rfl | (simp only [↓reduceIte, Bool.false_eq_true]; done) | (simp only [↓reduceIte, Bool.false_eq_true]; rfl) | rfl⟩
set_option maxHeartbeats 4000000 in
set_option maxRecDepth 100000 in
theorem kX0_loops (l : Launch) (k : rm_K) (a : Nat → Nat) (ha : rm_inj a) (σ : rm_St)   : rm_MI l k a yX0_loops wsX0_loops ({ frames := 0, cells := 0, slots := 0, locals := 0 }) [] σ (σ 0 5) σ := by
  refine rm_enterI (cc := cX0_loops) (nL := 1) (ret := (some .int)) ha (by decide) rfl rfl (by decide +kernel) (Nat.le_of_ble_eq_true rfl) ?_
  intro p e s m args below meth c ls C hr hlocks hw hl
  have hx := C.1.1
  have hb := C.1.2.1
  have hts := C.1.2.2.2.2
  have hA : ∀ q, s.heap.size ≤ q → rm_A a s.heap.size q := fun q h => Or.inr h
  replace hl : lv_has ls 1 [(0, .ref (a 0))] := hl
  refine lv_aload_n hx hb dX0_loops_0 rfl (lv_at hl 0 rfl) ?_
  refine rm_geti C hw 5 (by decide) (hts _ (by decide +kernel)) rfl dX0_loops_1 ?_
  exact rm_iret C hr hlocks hw dX0_loops_4 ⟨by first | with_reducible rfl | (simp only [↓reduceIte, Bool.false_eq_true]; done) | (simp only [↓reduceIte, Bool.false_eq_true]; rfl) | rfl, by first | with_reducible rfl | (simp only [↓reduceIte, Bool.false_eq_true]; done) | (simp only [↓reduceIte, Bool.false_eq_true]; rfl) | rfl⟩
set_option maxHeartbeats 4000000 in
set_option maxRecDepth 100000 in
theorem kX0_resetTimer (l : Launch) (k : rm_K) (a : Nat → Nat) (ha : rm_inj a) (σ : rm_St) (n : Nat) (hn : n < 10) : rm_MV l k a yX0_resetTimer wsX0_resetTimer ({ frames := 0, cells := 0, slots := 0, locals := 0 }) [.int (nI n)] σ  (rm_reset σ n) := by
  refine rm_enterV (cc := cX0_resetTimer) (nL := 2) (ret := none) ha (by decide) rfl rfl (by decide +kernel) (Nat.le_of_ble_eq_true rfl) ?_
  intro p e s m args below meth c ls C hr hlocks hw hl
  have hx := C.1.1
  have hb := C.1.2.1
  have hts := C.1.2.2.2.2
  have hA : ∀ q, s.heap.size ≤ q → rm_A a s.heap.size q := fun q h => Or.inr h
  replace hl : lv_has ls 2 [(0, .ref (a 0)), (1, .int (nI n))] := hl
  refine lv_aload_n hx hb dX0_resetTimer_0 rfl (lv_at hl 0 rfl) ?_
  refine rm_geta C hw 17 12 (by decide) rfl (hts _ (by decide +kernel)) rfl dX0_resetTimer_1 ?_
  refine lv_iload_n hx hb dX0_resetTimer_4 rfl (lv_at hl 1 rfl) ?_
  refine lv_aload_n hx hb dX0_resetTimer_5 rfl (lv_at hl 0 rfl) ?_
  refine rm_geti C hw 2 (by decide) (hts _ (by decide +kernel)) rfl dX0_resetTimer_6 ?_
  refine rm_iast C hw (by decide) hn dX0_resetTimer_9 (fun H locs hw => ?_)
  refine lv_aload_n hx hb dX0_resetTimer_10 rfl (lv_at hl 0 rfl) ?_
  refine rm_geta C hw 18 13 (by decide) rfl (hts _ (by decide +kernel)) rfl dX0_resetTimer_11 ?_
  refine lv_iload_n hx hb dX0_resetTimer_14 rfl (lv_at hl 1 rfl) ?_
  refine lv_aload_n hx hb dX0_resetTimer_15 rfl (lv_at hl 0 rfl) ?_
  refine rm_geti C hw 4 (by decide) (hts _ (by decide +kernel)) rfl dX0_resetTimer_16 ?_
  refine lv_aload_n hx hb dX0_resetTimer_19 rfl (lv_at hl 0 rfl) ?_
  refine rm_geti C hw 2 (by decide) (hts _ (by decide +kernel)) rfl dX0_resetTimer_20 ?_
  refine lv_iadd hx hb dX0_resetTimer_23 ?_
  refine rm_iast C hw (by decide) hn dX0_resetTimer_24 (fun H locs hw => ?_)
  exact rm_vret C hr hlocks hw dX0_resetTimer_25 (by first | with_reducible rfl | (simp only [↓reduceIte, Bool.false_eq_true]; done) | (simp only [↓reduceIte, Bool.false_eq_true]; rfl) | rfl)
set_option maxHeartbeats 4000000 in
set_option maxRecDepth 100000 in
theorem kX0_clearNode (l : Launch) (k : rm_K) (a : Nat → Nat) (ha : rm_inj a) (σ : rm_St) (n : Nat) (hn : n < 10) : rm_MV l k a yX0_clearNode wsX0_clearNode ({ frames := 0, cells := 0, slots := 0, locals := 0 }) [.int (nI n)] σ  (rm_clear σ n) := by
  refine rm_enterV (cc := cX0_clearNode) (nL := 2) (ret := none) ha (by decide) rfl rfl (by decide +kernel) (Nat.le_of_ble_eq_true rfl) ?_
  intro p e s m args below meth c ls C hr hlocks hw hl
  have hx := C.1.1
  have hb := C.1.2.1
  have hts := C.1.2.2.2.2
  have hA : ∀ q, s.heap.size ≤ q → rm_A a s.heap.size q := fun q h => Or.inr h
  replace hl : lv_has ls 2 [(0, .ref (a 0)), (1, .int (nI n))] := hl
  refine lv_aload_n hx hb dX0_clearNode_0 rfl (lv_at hl 0 rfl) ?_
  refine rm_geta C hw 12 7 (by decide) rfl (hts _ (by decide +kernel)) rfl dX0_clearNode_1 ?_
  refine lv_iload_n hx hb dX0_clearNode_4 rfl (lv_at hl 1 rfl) ?_
  refine lv_iconst (v := (-1)) hx hb dX0_clearNode_5 (by decide) ?_
  refine rm_iast C hw (by decide) hn dX0_clearNode_6 (fun H locs hw => ?_)
  refine lv_aload_n hx hb dX0_clearNode_7 rfl (lv_at hl 0 rfl) ?_
  refine rm_geta C hw 13 8 (by decide) rfl (hts _ (by decide +kernel)) rfl dX0_clearNode_8 ?_
  refine lv_iload_n hx hb dX0_clearNode_11 rfl (lv_at hl 1 rfl) ?_
  refine lv_iconst (v := 0) hx hb dX0_clearNode_12 (by decide) ?_
  refine rm_iast C hw (by decide) hn dX0_clearNode_13 (fun H locs hw => ?_)
  refine lv_aload_n hx hb dX0_clearNode_14 rfl (lv_at hl 0 rfl) ?_
  refine rm_geta C hw 14 9 (by decide) rfl (hts _ (by decide +kernel)) rfl dX0_clearNode_15 ?_
  refine lv_iload_n hx hb dX0_clearNode_18 rfl (lv_at hl 1 rfl) ?_
  refine lv_sipush (v := 10000) hx hb dX0_clearNode_19 (by decide) ?_
  refine rm_iast C hw (by decide) hn dX0_clearNode_22 (fun H locs hw => ?_)
  refine lv_aload_n hx hb dX0_clearNode_23 rfl (lv_at hl 0 rfl) ?_
  refine rm_geta C hw 15 10 (by decide) rfl (hts _ (by decide +kernel)) rfl dX0_clearNode_24 ?_
  refine lv_iload_n hx hb dX0_clearNode_27 rfl (lv_at hl 1 rfl) ?_
  refine lv_sipush (v := 10000) hx hb dX0_clearNode_28 (by decide) ?_
  refine rm_iast C hw (by decide) hn dX0_clearNode_31 (fun H locs hw => ?_)
  refine lv_aload_n hx hb dX0_clearNode_32 rfl (lv_at hl 0 rfl) ?_
  refine rm_geta C hw 16 11 (by decide) rfl (hts _ (by decide +kernel)) rfl dX0_clearNode_33 ?_
  refine lv_iload_n hx hb dX0_clearNode_36 rfl (lv_at hl 1 rfl) ?_
  refine lv_iconst (v := (-1)) hx hb dX0_clearNode_37 (by decide) ?_
  refine rm_iast C hw (by decide) hn dX0_clearNode_38 (fun H locs hw => ?_)
  exact rm_vret C hr hlocks hw dX0_clearNode_39 (by first | with_reducible rfl | (simp only [↓reduceIte, Bool.false_eq_true]; done) | (simp only [↓reduceIte, Bool.false_eq_true]; rfl) | rfl)
set_option maxHeartbeats 4000000 in
set_option maxRecDepth 100000 in
theorem kX0_forget (l : Launch) (k : rm_K) (a : Nat → Nat) (ha : rm_inj a) (σ : rm_St) (n : Nat) (o : Nat) (hn : n < 10) (ho : o < 10) : rm_MV l k a yX0_forget wsX0_forget ({ frames := 0, cells := 0, slots := 0, locals := 0 }) [.int (nI n), .int (nI o)] σ  (rm_forget σ n o) := by
  refine rm_enterV (cc := cX0_forget) (nL := 3) (ret := none) ha (by decide) rfl rfl (by decide +kernel) (Nat.le_of_ble_eq_true rfl) ?_
  intro p e s m args below meth c ls C hr hlocks hw hl
  have hx := C.1.1
  have hb := C.1.2.1
  have hts := C.1.2.2.2.2
  have hA : ∀ q, s.heap.size ≤ q → rm_A a s.heap.size q := fun q h => Or.inr h
  replace hl : lv_has ls 3 [(0, .ref (a 0)), (1, .int (nI n)), (2, .int (nI o))] := hl
  refine lv_aload_n hx hb dX0_forget_0 rfl (lv_at hl 0 rfl) ?_
  refine rm_geta C hw 7 2 (by decide) rfl (hts _ (by decide +kernel)) rfl dX0_forget_1 ?_
  refine lv_iload_n hx hb dX0_forget_4 rfl (lv_at hl 1 rfl) ?_
  refine rm_aald C hw 25 (by decide) hn dX0_forget_5 ?_
  refine lv_iload_n hx hb dX0_forget_6 rfl (lv_at hl 2 rfl) ?_
  refine lv_iconst (v := (-1)) hx hb dX0_forget_7 (by decide) ?_
  refine rm_iast C hw ⟨by omega, by omega⟩ ho dX0_forget_8 (fun H locs hw => ?_)
  refine lv_aload_n hx hb dX0_forget_9 rfl (lv_at hl 0 rfl) ?_
  refine rm_geta C hw 8 3 (by decide) rfl (hts _ (by decide +kernel)) rfl dX0_forget_10 ?_
  refine lv_iload_n hx hb dX0_forget_13 rfl (lv_at hl 1 rfl) ?_
  refine rm_aald C hw 35 (by decide) hn dX0_forget_14 ?_
  refine lv_iload_n hx hb dX0_forget_15 rfl (lv_at hl 2 rfl) ?_
  refine lv_iconst (v := 0) hx hb dX0_forget_16 (by decide) ?_
  refine rm_iast C hw ⟨by omega, by omega⟩ ho dX0_forget_17 (fun H locs hw => ?_)
  refine lv_aload_n hx hb dX0_forget_18 rfl (lv_at hl 0 rfl) ?_
  refine rm_geta C hw 9 4 (by decide) rfl (hts _ (by decide +kernel)) rfl dX0_forget_19 ?_
  refine lv_iload_n hx hb dX0_forget_22 rfl (lv_at hl 1 rfl) ?_
  refine rm_aald C hw 45 (by decide) hn dX0_forget_23 ?_
  refine lv_iload_n hx hb dX0_forget_24 rfl (lv_at hl 2 rfl) ?_
  refine lv_iconst (v := (-1)) hx hb dX0_forget_25 (by decide) ?_
  refine rm_iast C hw ⟨by omega, by omega⟩ ho dX0_forget_26 (fun H locs hw => ?_)
  exact rm_vret C hr hlocks hw dX0_forget_27 (by first | with_reducible rfl | (simp only [↓reduceIte, Bool.false_eq_true]; done) | (simp only [↓reduceIte, Bool.false_eq_true]; rfl) | rfl)
set_option maxHeartbeats 4000000 in
set_option maxRecDepth 100000 in
theorem kX0_beginVersion (l : Launch) (k : rm_K) (a : Nat → Nat) (ha : rm_inj a) (σ : rm_St) (n : Nat) (hn : n < 10) : rm_MI l k a yX0_beginVersion wsX0_beginVersion ({ frames := 1, cells := 0, slots := 0, locals := 21 }) [.int (nI n)] σ (rm_begin σ n 8 n) (rm_begin σ n) := by
  refine rm_enterI (cc := cX0_beginVersion) (nL := 2) (ret := (some .int)) ha (by decide) rfl rfl (by decide +kernel) (Nat.le_of_ble_eq_true rfl) ?_
  intro p e s m args below meth c ls C hr hlocks hw hl
  have hx := C.1.1
  have hb := C.1.2.1
  have hts := C.1.2.2.2.2
  have hA : ∀ q, s.heap.size ≤ q → rm_A a s.heap.size q := fun q h => Or.inr h
  replace hl : lv_has ls 2 [(0, .ref (a 0)), (1, .int (nI n))] := hl
  refine lv_aload_n hx hb dX0_beginVersion_0 rfl (lv_at hl 0 rfl) ?_
  refine rm_geta C hw 11 6 (by decide) rfl (hts _ (by decide +kernel)) rfl dX0_beginVersion_1 ?_
  refine lv_iload_n hx hb dX0_beginVersion_4 rfl (lv_at hl 1 rfl) ?_
  refine lv_dup2_11 hx hb dX0_beginVersion_5 rfl rfl ?_
  refine rm_iald C hw (by decide) hn dX0_beginVersion_6 ?_
  refine lv_iconst (v := 1) hx hb dX0_beginVersion_7 (by decide) ?_
  refine lv_iadd hx hb dX0_beginVersion_8 ?_
  refine rm_iast C hw (by decide) hn dX0_beginVersion_9 (fun H locs hw => ?_)
  refine lv_aload_n hx hb dX0_beginVersion_10 rfl (lv_at hl 0 rfl) ?_
  refine rm_geta C hw 13 8 (by decide) rfl (hts _ (by decide +kernel)) rfl dX0_beginVersion_11 ?_
  refine lv_iload_n hx hb dX0_beginVersion_14 rfl (lv_at hl 1 rfl) ?_
  refine lv_aload_n hx hb dX0_beginVersion_15 rfl (lv_at hl 0 rfl) ?_
  refine rm_geta C hw 11 6 (by decide) rfl (hts _ (by decide +kernel)) rfl dX0_beginVersion_16 ?_
  refine lv_iload_n hx hb dX0_beginVersion_19 rfl (lv_at hl 1 rfl) ?_
  refine rm_iald C hw (by decide) hn dX0_beginVersion_20 ?_
  refine rm_iast C hw (by decide) hn dX0_beginVersion_21 (fun H locs hw => ?_)
  refine lv_aload_n hx hb dX0_beginVersion_22 rfl (lv_at hl 0 rfl) ?_
  refine lv_iload_n hx hb dX0_beginVersion_23 rfl (lv_at hl 1 rfl) ?_
  refine rm_callV C hw hA (As := [.int (nI n)]) (rest := []) (kX0_resetTimer l k a ha (rm_up (rm_up σ 6 n ((σ 6 n) + (1))) 8 n ((rm_up σ 6 n ((σ 6 n) + (1))) 6 n)) n hn) (cwV 1 hts gX0_beginVersion_X0_resetTimer rfl rfl rfl (by decide +kernel) ⟨Nat.le_of_ble_eq_true rfl, Nat.le_of_ble_eq_true rfl⟩) rfl hl.1 rfl (lv_room (Nat.le_of_ble_eq_true rfl)) dX0_beginVersion_24 ⟨Nat.zero_le _, Nat.zero_le _⟩ (fun H locs hw => ?_)
  refine lv_aload_n hx hb dX0_beginVersion_27 rfl (lv_at hl 0 rfl) ?_
  refine rm_geta C hw 13 8 (by decide) rfl (hts _ (by decide +kernel)) rfl dX0_beginVersion_28 ?_
  refine lv_iload_n hx hb dX0_beginVersion_31 rfl (lv_at hl 1 rfl) ?_
  refine rm_iald C hw (by decide) hn dX0_beginVersion_32 ?_
  exact rm_iret C hr hlocks hw dX0_beginVersion_33 ⟨by first | with_reducible rfl | (simp only [↓reduceIte, Bool.false_eq_true]; done) | (simp only [↓reduceIte, Bool.false_eq_true]; rfl) | rfl, by first | with_reducible rfl | (simp only [↓reduceIte, Bool.false_eq_true]; done) | (simp only [↓reduceIte, Bool.false_eq_true]; rfl) | rfl⟩
set_option maxHeartbeats 4000000 in
set_option maxRecDepth 100000 in
theorem kX0_lengthenTimer (l : Launch) (k : rm_K) (a : Nat → Nat) (ha : rm_inj a) (σ : rm_St) (n : Nat) (hn : n < 10) : rm_MV l k a yX0_lengthenTimer wsX0_lengthenTimer ({ frames := 1, cells := 0, slots := 0, locals := 30 }) [.int (nI n)] σ  (rm_len σ n) := by
  refine rm_enterV (cc := cX0_lengthenTimer) (nL := 2) (ret := none) ha (by decide) rfl rfl (by decide +kernel) (Nat.le_of_ble_eq_true rfl) ?_
  intro p e s m args below meth c ls C hr hlocks hw hl
  have hx := C.1.1
  have hb := C.1.2.1
  have hts := C.1.2.2.2.2
  have hA : ∀ q, s.heap.size ≤ q → rm_A a s.heap.size q := fun q h => Or.inr h
  replace hl : lv_has ls 2 [(0, .ref (a 0)), (1, .int (nI n))] := hl
  refine lv_aload_n hx hb dX0_lengthenTimer_0 rfl (lv_at hl 0 rfl) ?_
  refine rm_geta C hw 17 12 (by decide) rfl (hts _ (by decide +kernel)) rfl dX0_lengthenTimer_1 ?_
  refine lv_iload_n hx hb dX0_lengthenTimer_4 rfl (lv_at hl 1 rfl) ?_
  refine lv_iconst (v := 2) hx hb dX0_lengthenTimer_5 (by decide) ?_
  refine lv_aload_n hx hb dX0_lengthenTimer_6 rfl (lv_at hl 0 rfl) ?_
  refine rm_geta C hw 17 12 (by decide) rfl (hts _ (by decide +kernel)) rfl dX0_lengthenTimer_7 ?_
  refine lv_iload_n hx hb dX0_lengthenTimer_10 rfl (lv_at hl 1 rfl) ?_
  refine rm_iald C hw (by decide) hn dX0_lengthenTimer_11 ?_
  refine lv_imul hx hb dX0_lengthenTimer_12 ?_
  refine lv_aload_n hx hb dX0_lengthenTimer_13 rfl (lv_at hl 0 rfl) ?_
  refine rm_geti C hw 2 (by decide) (hts _ (by decide +kernel)) rfl dX0_lengthenTimer_14 ?_
  refine lv_aload_n hx hb dX0_lengthenTimer_17 rfl (lv_at hl 0 rfl) ?_
  refine rm_geti C hw 3 (by decide) (hts _ (by decide +kernel)) rfl dX0_lengthenTimer_18 ?_
  refine lv_ishl hx hb dX0_lengthenTimer_21 ?_
  refine va_mmin hx hb (C.1.2.2.1.trans hl.1.symm) C.1.2.2.2.1 (hts (.methodLink RX0 141 Lib.Math.min.name) (by decide +kernel)) (hts (.static Lib.Math.min.name) (by decide +kernel)) (hts (.initialized "java/lang/Math") (by decide +kernel)) (hts (.code Lib.Math.min.name Lib.Math.min.code 2 (some .int)) (by decide +kernel)) (Nat.le_of_ble_eq_true rfl) (Nat.le_of_ble_eq_true rfl) (Nat.le_of_ble_eq_true rfl) (Nat.le_of_ble_eq_true rfl) dX0_lengthenTimer_22 ?_
  refine rm_iast C hw (by decide) hn dX0_lengthenTimer_25 (fun H locs hw => ?_)
  refine lv_aload_n hx hb dX0_lengthenTimer_26 rfl (lv_at hl 0 rfl) ?_
  refine rm_geta C hw 18 13 (by decide) rfl (hts _ (by decide +kernel)) rfl dX0_lengthenTimer_27 ?_
  refine lv_iload_n hx hb dX0_lengthenTimer_30 rfl (lv_at hl 1 rfl) ?_
  refine lv_aload_n hx hb dX0_lengthenTimer_31 rfl (lv_at hl 0 rfl) ?_
  refine rm_geti C hw 4 (by decide) (hts _ (by decide +kernel)) rfl dX0_lengthenTimer_32 ?_
  refine lv_aload_n hx hb dX0_lengthenTimer_35 rfl (lv_at hl 0 rfl) ?_
  refine rm_geta C hw 17 12 (by decide) rfl (hts _ (by decide +kernel)) rfl dX0_lengthenTimer_36 ?_
  refine lv_iload_n hx hb dX0_lengthenTimer_39 rfl (lv_at hl 1 rfl) ?_
  refine rm_iald C hw (by decide) hn dX0_lengthenTimer_40 ?_
  refine lv_iadd hx hb dX0_lengthenTimer_41 ?_
  refine rm_iast C hw (by decide) hn dX0_lengthenTimer_42 (fun H locs hw => ?_)
  exact rm_vret C hr hlocks hw dX0_lengthenTimer_43 (by first | with_reducible rfl | (simp only [↓reduceIte, Bool.false_eq_true]; done) | (simp only [↓reduceIte, Bool.false_eq_true]; rfl) | rfl)
set_option maxHeartbeats 4000000 in
set_option maxRecDepth 100000 in
theorem kX0_rankBy (l : Launch) (k : rm_K) (a : Nat → Nat) (ha : rm_inj a) (σ : rm_St) (n : Nat) (o : Nat) (hn : n < 10) (ho : o < 10) : rm_MI l k a yX0_rankBy wsX0_rankBy ({ frames := 0, cells := 0, slots := 0, locals := 0 }) [.int (nI n), .int (nI o)] σ (rm_rankBy σ n o) σ := by
  refine rm_enterI (cc := cX0_rankBy) (nL := 3) (ret := (some .int)) ha (by decide) rfl rfl (by decide +kernel) (Nat.le_of_ble_eq_true rfl) ?_
  intro p e s m args below meth c ls C hr hlocks hw hl
  have hx := C.1.1
  have hb := C.1.2.1
  have hts := C.1.2.2.2.2
  have hA : ∀ q, s.heap.size ≤ q → rm_A a s.heap.size q := fun q h => Or.inr h
  replace hl : lv_has ls 3 [(0, .ref (a 0)), (1, .int (nI n)), (2, .int (nI o))] := hl
  refine lv_aload_n hx hb dX0_rankBy_0 rfl (lv_at hl 0 rfl) ?_
  refine rm_geta C hw 9 4 (by decide) rfl (hts _ (by decide +kernel)) rfl dX0_rankBy_1 ?_
  refine lv_iload_n hx hb dX0_rankBy_4 rfl (lv_at hl 1 rfl) ?_
  refine rm_aald C hw 45 (by decide) hn dX0_rankBy_5 ?_
  refine lv_iload_n hx hb dX0_rankBy_6 rfl (lv_at hl 2 rfl) ?_
  refine rm_iald C hw ⟨by omega, by omega⟩ ho dX0_rankBy_7 ?_
  refine lv_aload_n hx hb dX0_rankBy_8 rfl (lv_at hl 0 rfl) ?_
  refine rm_geta C hw 6 1 (by decide) rfl (hts _ (by decide +kernel)) rfl dX0_rankBy_9 ?_
  refine lv_iload_n hx hb dX0_rankBy_12 rfl (lv_at hl 1 rfl) ?_
  refine rm_aald C hw 15 (by decide) hn dX0_rankBy_13 ?_
  refine lv_iload_n hx hb dX0_rankBy_14 rfl (lv_at hl 2 rfl) ?_
  refine rm_iald C hw ⟨by omega, by omega⟩ ho dX0_rankBy_15 ?_
  refine lv_iadd hx hb dX0_rankBy_16 ?_
  exact rm_iret C hr hlocks hw dX0_rankBy_17 ⟨by first | with_reducible rfl | (simp only [↓reduceIte, Bool.false_eq_true]; done) | (simp only [↓reduceIte, Bool.false_eq_true]; rfl) | rfl, by first | with_reducible rfl | (simp only [↓reduceIte, Bool.false_eq_true]; done) | (simp only [↓reduceIte, Bool.false_eq_true]; rfl) | rfl⟩
set_option maxHeartbeats 4000000 in
set_option maxRecDepth 100000 in
theorem kX0_heardOwnVersion (l : Launch) (k : rm_K) (a : Nat → Nat) (ha : rm_inj a) (σ : rm_St) (n : Nat) (o : Nat) (hn : n < 10) (ho : o < 10) : rm_MI l k a yX0_heardOwnVersion wsX0_heardOwnVersion ({ frames := 0, cells := 0, slots := 0, locals := 0 }) [.int (nI n), .int (nI o)] σ (bI (rm_own σ n o)) σ := by
  refine rm_enterI (cc := cX0_heardOwnVersion) (nL := 3) (ret := (some .boolean)) ha (by decide) rfl rfl (by decide +kernel) (Nat.le_of_ble_eq_true rfl) ?_
  intro p e s m args below meth c ls C hr hlocks hw hl
  have hx := C.1.1
  have hb := C.1.2.1
  have hts := C.1.2.2.2.2
  have hA : ∀ q, s.heap.size ≤ q → rm_A a s.heap.size q := fun q h => Or.inr h
  replace hl : lv_has ls 3 [(0, .ref (a 0)), (1, .int (nI n)), (2, .int (nI o))] := hl
  refine lv_aload_n hx hb dX0_heardOwnVersion_0 rfl (lv_at hl 0 rfl) ?_
  refine rm_geta C hw 7 2 (by decide) rfl (hts _ (by decide +kernel)) rfl dX0_heardOwnVersion_1 ?_
  refine lv_iload_n hx hb dX0_heardOwnVersion_4 rfl (lv_at hl 1 rfl) ?_
  refine rm_aald C hw 25 (by decide) hn dX0_heardOwnVersion_5 ?_
  refine lv_iload_n hx hb dX0_heardOwnVersion_6 rfl (lv_at hl 2 rfl) ?_
  refine rm_iald C hw ⟨by omega, by omega⟩ ho dX0_heardOwnVersion_7 ?_
  refine lv_aload_n hx hb dX0_heardOwnVersion_8 rfl (lv_at hl 0 rfl) ?_
  refine rm_geta C hw 12 7 (by decide) rfl (hts _ (by decide +kernel)) rfl dX0_heardOwnVersion_9 ?_
  refine lv_iload_n hx hb dX0_heardOwnVersion_12 rfl (lv_at hl 1 rfl) ?_
  refine rm_iald C hw (by decide) hn dX0_heardOwnVersion_13 ?_
  refine lv_icmp_ne (tgt := 38) hx hb dX0_heardOwnVersion_14 (by decide) (fun c_14 => ?_) (fun c_14 => ?_)
  · skip
    refine lv_iconst (v := 0) hx hb dX0_heardOwnVersion_38 (by decide) ?_
    exact rm_zret C hr hlocks hw (by decide) dX0_heardOwnVersion_39 ⟨by first | with_reducible rfl | (simp only [rm_own, if_neg c_14, ↓reduceIte, Bool.false_eq_true]; done) | (simp only [rm_own, if_neg c_14, ↓reduceIte, Bool.false_eq_true]; rfl) | rfl, by first | with_reducible rfl | (simp only [rm_own, if_neg c_14, ↓reduceIte, Bool.false_eq_true]; done) | (simp only [rm_own, if_neg c_14, ↓reduceIte, Bool.false_eq_true]; rfl) | rfl⟩
  · skip
    refine lv_aload_n hx hb dX0_heardOwnVersion_17 rfl (lv_at hl 0 rfl) ?_
    refine rm_geta C hw 8 3 (by decide) rfl (hts _ (by decide +kernel)) rfl dX0_heardOwnVersion_18 ?_
    refine lv_iload_n hx hb dX0_heardOwnVersion_21 rfl (lv_at hl 1 rfl) ?_
    refine rm_aald C hw 35 (by decide) hn dX0_heardOwnVersion_22 ?_
    refine lv_iload_n hx hb dX0_heardOwnVersion_23 rfl (lv_at hl 2 rfl) ?_
    refine rm_iald C hw ⟨by omega, by omega⟩ ho dX0_heardOwnVersion_24 ?_
    refine lv_aload_n hx hb dX0_heardOwnVersion_25 rfl (lv_at hl 0 rfl) ?_
    refine rm_geta C hw 13 8 (by decide) rfl (hts _ (by decide +kernel)) rfl dX0_heardOwnVersion_26 ?_
    refine lv_iload_n hx hb dX0_heardOwnVersion_29 rfl (lv_at hl 1 rfl) ?_
    refine rm_iald C hw (by decide) hn dX0_heardOwnVersion_30 ?_
    refine lv_icmp_ne (tgt := 38) hx hb dX0_heardOwnVersion_31 (by decide) (fun c_31 => ?_) (fun c_31 => ?_)
    · skip
      refine lv_iconst (v := 0) hx hb dX0_heardOwnVersion_38 (by decide) ?_
      exact rm_zret C hr hlocks hw (by decide) dX0_heardOwnVersion_39 ⟨by first | with_reducible rfl | (simp only [rm_own, if_pos c_14, if_neg c_31, ↓reduceIte, Bool.false_eq_true]; done) | (simp only [rm_own, if_pos c_14, if_neg c_31, ↓reduceIte, Bool.false_eq_true]; rfl) | rfl, by first | with_reducible rfl | (simp only [rm_own, if_pos c_14, if_neg c_31, ↓reduceIte, Bool.false_eq_true]; done) | (simp only [rm_own, if_pos c_14, if_neg c_31, ↓reduceIte, Bool.false_eq_true]; rfl) | rfl⟩
    · skip
      refine lv_iconst (v := 1) hx hb dX0_heardOwnVersion_34 (by decide) ?_
      refine lv_goto (tgt := 39) hx hb dX0_heardOwnVersion_35 (by decide) ?_
      exact rm_zret C hr hlocks hw (by decide) dX0_heardOwnVersion_39 ⟨by first | with_reducible rfl | (simp only [rm_own, if_pos c_14, if_pos c_31, ↓reduceIte, Bool.false_eq_true]; done) | (simp only [rm_own, if_pos c_14, if_pos c_31, ↓reduceIte, Bool.false_eq_true]; rfl) | rfl, by first | with_reducible rfl | (simp only [rm_own, if_pos c_14, if_pos c_31, ↓reduceIte, Bool.false_eq_true]; done) | (simp only [rm_own, if_pos c_14, if_pos c_31, ↓reduceIte, Bool.false_eq_true]; rfl) | rfl⟩
set_option maxHeartbeats 4000000 in
set_option maxRecDepth 100000 in
theorem kX0_isTooDeep (l : Launch) (k : rm_K) (a : Nat → Nat) (ha : rm_inj a) (σ : rm_St) (n : Nat) (o : Nat) (hn : n < 10) (ho : o < 10) : rm_MI l k a yX0_isTooDeep wsX0_isTooDeep ({ frames := 1, cells := 0, slots := 0, locals := 22 }) [.int (nI n), .int (nI o)] σ (bI (rm_deep σ n o)) σ := by
  refine rm_enterI (cc := cX0_isTooDeep) (nL := 3) (ret := (some .boolean)) ha (by decide) rfl rfl (by decide +kernel) (Nat.le_of_ble_eq_true rfl) ?_
  intro p e s m args below meth c ls C hr hlocks hw hl
  have hx := C.1.1
  have hb := C.1.2.1
  have hts := C.1.2.2.2.2
  have hA : ∀ q, s.heap.size ≤ q → rm_A a s.heap.size q := fun q h => Or.inr h
  replace hl : lv_has ls 3 [(0, .ref (a 0)), (1, .int (nI n)), (2, .int (nI o))] := hl
  refine lv_aload_n hx hb dX0_isTooDeep_0 rfl (lv_at hl 0 rfl) ?_
  refine lv_iload_n hx hb dX0_isTooDeep_1 rfl (lv_at hl 1 rfl) ?_
  refine lv_iload_n hx hb dX0_isTooDeep_2 rfl (lv_at hl 2 rfl) ?_
  refine rm_callI C hw hA (As := [.int (nI n), .int (nI o)]) (rest := []) (kX0_heardOwnVersion l k a ha σ n o hn ho) (cwV 2 hts gX0_isTooDeep_X0_heardOwnVersion rfl rfl rfl (by decide +kernel) ⟨Nat.le_of_ble_eq_true rfl, Nat.le_of_ble_eq_true rfl⟩) rfl hl.1 rfl (lv_room (Nat.le_of_ble_eq_true rfl)) dX0_isTooDeep_3 ⟨Nat.zero_le _, Nat.zero_le _⟩ (fun H locs hw => ?_)
  refine rm_ifeq (tgt := 21) hx hb dX0_isTooDeep_6 (by decide) (fun c_6 => ?_) (fun c_6 => ?_)
  · skip
    refine lv_iconst (v := 0) hx hb dX0_isTooDeep_21 (by decide) ?_
    exact rm_zret C hr hlocks hw (by decide) dX0_isTooDeep_22 ⟨by first | with_reducible rfl | (simp only [rm_deep, c_6, ↓reduceIte, Bool.false_eq_true]; done) | (simp only [rm_deep, c_6, ↓reduceIte, Bool.false_eq_true]; rfl) | rfl, by first | with_reducible rfl | (simp only [rm_deep, c_6, ↓reduceIte, Bool.false_eq_true]; done) | (simp only [rm_deep, c_6, ↓reduceIte, Bool.false_eq_true]; rfl) | rfl⟩
  · skip
    refine lv_aload_n hx hb dX0_isTooDeep_9 rfl (lv_at hl 0 rfl) ?_
    refine rm_geta C hw 14 9 (by decide) rfl (hts _ (by decide +kernel)) rfl dX0_isTooDeep_10 ?_
    refine lv_iload_n hx hb dX0_isTooDeep_13 rfl (lv_at hl 1 rfl) ?_
    refine rm_iald C hw (by decide) hn dX0_isTooDeep_14 ?_
    refine lv_sipush (v := 10000) hx hb dX0_isTooDeep_15 (by decide) ?_
    refine lv_icmp_ne (tgt := 23) hx hb dX0_isTooDeep_18 (by decide) (fun c_18 => ?_) (fun c_18 => ?_)
    · skip
      refine lv_aload_n hx hb dX0_isTooDeep_23 rfl (lv_at hl 0 rfl) ?_
      refine rm_geta C hw 9 4 (by decide) rfl (hts _ (by decide +kernel)) rfl dX0_isTooDeep_24 ?_
      refine lv_iload_n hx hb dX0_isTooDeep_27 rfl (lv_at hl 1 rfl) ?_
      refine rm_aald C hw 45 (by decide) hn dX0_isTooDeep_28 ?_
      refine lv_iload_n hx hb dX0_isTooDeep_29 rfl (lv_at hl 2 rfl) ?_
      refine rm_iald C hw ⟨by omega, by omega⟩ ho dX0_isTooDeep_30 ?_
      refine lv_aload_n hx hb dX0_isTooDeep_31 rfl (lv_at hl 0 rfl) ?_
      refine rm_geta C hw 14 9 (by decide) rfl (hts _ (by decide +kernel)) rfl dX0_isTooDeep_32 ?_
      refine lv_iload_n hx hb dX0_isTooDeep_35 rfl (lv_at hl 1 rfl) ?_
      refine rm_iald C hw (by decide) hn dX0_isTooDeep_36 ?_
      refine lv_icmp_ge (tgt := 60) hx hb dX0_isTooDeep_37 (by decide) (fun c_37 => ?_) (fun c_37 => ?_)
      · skip
        refine lv_iconst (v := 1) hx hb dX0_isTooDeep_60 (by decide) ?_
        refine lv_goto (tgt := 65) hx hb dX0_isTooDeep_61 (by decide) ?_
        exact rm_zret C hr hlocks hw (by decide) dX0_isTooDeep_65 ⟨by first | with_reducible rfl | (simp only [rm_deep, c_6, if_neg c_18, if_pos c_37, ↓reduceIte, Bool.false_eq_true]; done) | (simp only [rm_deep, c_6, if_neg c_18, if_pos c_37, ↓reduceIte, Bool.false_eq_true]; rfl) | rfl, by first | with_reducible rfl | (simp only [rm_deep, c_6, if_neg c_18, if_pos c_37, ↓reduceIte, Bool.false_eq_true]; done) | (simp only [rm_deep, c_6, if_neg c_18, if_pos c_37, ↓reduceIte, Bool.false_eq_true]; rfl) | rfl⟩
      · skip
        refine lv_aload_n hx hb dX0_isTooDeep_40 rfl (lv_at hl 0 rfl) ?_
        refine lv_iload_n hx hb dX0_isTooDeep_41 rfl (lv_at hl 1 rfl) ?_
        refine lv_iload_n hx hb dX0_isTooDeep_42 rfl (lv_at hl 2 rfl) ?_
        refine rm_callI C hw hA (As := [.int (nI n), .int (nI o)]) (rest := []) (kX0_rankBy l k a ha σ n o hn ho) (cwV 2 hts gX0_isTooDeep_X0_rankBy rfl rfl rfl (by decide +kernel) ⟨Nat.le_of_ble_eq_true rfl, Nat.le_of_ble_eq_true rfl⟩) rfl hl.1 rfl (lv_room (Nat.le_of_ble_eq_true rfl)) dX0_isTooDeep_43 ⟨Nat.zero_le _, Nat.zero_le _⟩ (fun H locs hw => ?_)
        refine lv_aload_n hx hb dX0_isTooDeep_46 rfl (lv_at hl 0 rfl) ?_
        refine rm_geta C hw 15 10 (by decide) rfl (hts _ (by decide +kernel)) rfl dX0_isTooDeep_47 ?_
        refine lv_iload_n hx hb dX0_isTooDeep_50 rfl (lv_at hl 1 rfl) ?_
        refine rm_iald C hw (by decide) hn dX0_isTooDeep_51 ?_
        refine lv_aload_n hx hb dX0_isTooDeep_52 rfl (lv_at hl 0 rfl) ?_
        refine rm_geti C hw 1 (by decide) (hts _ (by decide +kernel)) rfl dX0_isTooDeep_53 ?_
        refine lv_iadd hx hb dX0_isTooDeep_56 ?_
        refine lv_icmp_le (tgt := 64) hx hb dX0_isTooDeep_57 (by decide) (fun c_57 => ?_) (fun c_57 => ?_)
        · skip
          refine lv_iconst (v := 0) hx hb dX0_isTooDeep_64 (by decide) ?_
          exact rm_zret C hr hlocks hw (by decide) dX0_isTooDeep_65 ⟨by first | with_reducible rfl | (simp only [rm_deep, c_6, if_neg c_18, if_neg c_37, if_pos c_57, ↓reduceIte, Bool.false_eq_true]; done) | (simp only [rm_deep, c_6, if_neg c_18, if_neg c_37, if_pos c_57, ↓reduceIte, Bool.false_eq_true]; rfl) | rfl, by first | with_reducible rfl | (simp only [rm_deep, c_6, if_neg c_18, if_neg c_37, if_pos c_57, ↓reduceIte, Bool.false_eq_true]; done) | (simp only [rm_deep, c_6, if_neg c_18, if_neg c_37, if_pos c_57, ↓reduceIte, Bool.false_eq_true]; rfl) | rfl⟩
        · skip
          refine lv_iconst (v := 1) hx hb dX0_isTooDeep_60 (by decide) ?_
          refine lv_goto (tgt := 65) hx hb dX0_isTooDeep_61 (by decide) ?_
          exact rm_zret C hr hlocks hw (by decide) dX0_isTooDeep_65 ⟨by first | with_reducible rfl | (simp only [rm_deep, c_6, if_neg c_18, if_neg c_37, if_neg c_57, ↓reduceIte, Bool.false_eq_true]; done) | (simp only [rm_deep, c_6, if_neg c_18, if_neg c_37, if_neg c_57, ↓reduceIte, Bool.false_eq_true]; rfl) | rfl, by first | with_reducible rfl | (simp only [rm_deep, c_6, if_neg c_18, if_neg c_37, if_neg c_57, ↓reduceIte, Bool.false_eq_true]; done) | (simp only [rm_deep, c_6, if_neg c_18, if_neg c_37, if_neg c_57, ↓reduceIte, Bool.false_eq_true]; rfl) | rfl⟩
    · skip
      refine lv_iconst (v := 0) hx hb dX0_isTooDeep_21 (by decide) ?_
      exact rm_zret C hr hlocks hw (by decide) dX0_isTooDeep_22 ⟨by first | with_reducible rfl | (simp only [rm_deep, c_6, if_pos c_18, ↓reduceIte, Bool.false_eq_true]; done) | (simp only [rm_deep, c_6, if_pos c_18, ↓reduceIte, Bool.false_eq_true]; rfl) | rfl, by first | with_reducible rfl | (simp only [rm_deep, c_6, if_pos c_18, ↓reduceIte, Bool.false_eq_true]; done) | (simp only [rm_deep, c_6, if_pos c_18, ↓reduceIte, Bool.false_eq_true]; rfl) | rfl⟩
set_option maxHeartbeats 4000000 in
set_option maxRecDepth 100000 in
theorem kX0_isOutdated (l : Launch) (k : rm_K) (a : Nat → Nat) (ha : rm_inj a) (σ : rm_St) (n : Nat) (o : Nat) (hn : n < 10) (ho : o < 10) : rm_MI l k a yX0_isOutdated wsX0_isOutdated ({ frames := 0, cells := 0, slots := 0, locals := 0 }) [.int (nI n), .int (nI o)] σ (bI (rm_outd σ n o)) σ := by
  refine rm_enterI (cc := cX0_isOutdated) (nL := 6) (ret := (some .boolean)) ha (by decide) rfl rfl (by decide +kernel) (Nat.le_of_ble_eq_true rfl) ?_
  intro p e s m args below meth c ls C hr hlocks hw hl
  have hx := C.1.1
  have hb := C.1.2.1
  have hts := C.1.2.2.2.2
  have hA : ∀ q, s.heap.size ≤ q → rm_A a s.heap.size q := fun q h => Or.inr h
  replace hl : lv_has ls 6 [(0, .ref (a 0)), (1, .int (nI n)), (2, .int (nI o))] := hl
  refine lv_aload_n hx hb dX0_isOutdated_0 rfl (lv_at hl 0 rfl) ?_
  refine rm_geta C hw 7 2 (by decide) rfl (hts _ (by decide +kernel)) rfl dX0_isOutdated_1 ?_
  refine lv_iload_n hx hb dX0_isOutdated_4 rfl (lv_at hl 1 rfl) ?_
  refine rm_aald C hw 25 (by decide) hn dX0_isOutdated_5 ?_
  refine lv_iload_n hx hb dX0_isOutdated_6 rfl (lv_at hl 2 rfl) ?_
  refine rm_iald C hw ⟨by omega, by omega⟩ ho dX0_isOutdated_7 ?_
  refine lv_istore_n (lv' := [(3, .int (σ (25 + n) o)), (0, .ref (a 0)), (1, .int (nI n)), (2, .int (nI o))]) hx hb dX0_isOutdated_8 rfl hl (by decide) rfl (fun ls hl => ?_)
  refine lv_aload_n hx hb dX0_isOutdated_9 rfl (lv_at hl 1 rfl) ?_
  refine rm_geta C hw 8 3 (by decide) rfl (hts _ (by decide +kernel)) rfl dX0_isOutdated_10 ?_
  refine lv_iload_n hx hb dX0_isOutdated_13 rfl (lv_at hl 2 rfl) ?_
  refine rm_aald C hw 35 (by decide) hn dX0_isOutdated_14 ?_
  refine lv_iload_n hx hb dX0_isOutdated_15 rfl (lv_at hl 3 rfl) ?_
  refine rm_iald C hw ⟨by omega, by omega⟩ ho dX0_isOutdated_16 ?_
  refine lv_istore (lv' := [(4, .int (σ (35 + n) o)), (3, .int (σ (25 + n) o)), (0, .ref (a 0)), (1, .int (nI n)), (2, .int (nI o))]) hx hb dX0_isOutdated_17 hl (by decide) rfl (fun ls hl => ?_)
  refine lv_aload_n hx hb dX0_isOutdated_19 rfl (lv_at hl 2 rfl) ?_
  refine rm_geta C hw 12 7 (by decide) rfl (hts _ (by decide +kernel)) rfl dX0_isOutdated_20 ?_
  refine lv_iload_n hx hb dX0_isOutdated_23 rfl (lv_at hl 3 rfl) ?_
  refine rm_iald C hw (by decide) hn dX0_isOutdated_24 ?_
  refine lv_iload_n hx hb dX0_isOutdated_25 rfl (lv_at hl 1 rfl) ?_
  refine lv_icmp_ne (tgt := 42) hx hb dX0_isOutdated_26 (by decide) (fun c_26 => ?_) (fun c_26 => ?_)
  · skip
    refine lv_iconst (v := 0) hx hb dX0_isOutdated_42 (by decide) ?_
    refine lv_istore (lv' := [(5, .int 0), (4, .int (σ (35 + n) o)), (3, .int (σ (25 + n) o)), (0, .ref (a 0)), (1, .int (nI n)), (2, .int (nI o))]) hx hb dX0_isOutdated_43 hl (by decide) rfl (fun ls hl => ?_)
    have lp_45 : ∀ (r i : Nat), i + r = 10 → ∀ (_ : Unit), rm_outdL σ n (σ (25 + n) o) (σ (35 + n) o) r i = rm_outd σ n o → ∀ (H : Heap) (locs : List Loc), rm_Wd k a (rm_A a s.heap.size) s.heap s σ H locs → ∀ (ls : Array Slot), lv_has ls 6 [(0, .ref (a 0)), (1, .int (nI n)), (3, .int (σ (25 + n) o)), (4, .int (σ (35 + n) o)), (5, .int (nI i))] → W p l e (headSpec wsX0_isOutdated ({ frames := 0, cells := 0, slots := 0, locals := 0 })).room s m args below meth c H locs 0 0 (MQ below (va_Qi (fun (r : Int32) (τ : rm_St) => r = (bI (rm_outd σ n o)) ∧ τ = σ) (fun τ t => rm_P k a τ t) (rm_A a s.heap.size)) args s 0 0 (rm_A a s.heap.size)) (F0 m 45 ls []) := by
      intro r
      induction r with
      | zero =>
        intro i hi45 _ ht45 H locs hw ls hl
        obtain rfl : i = 10 := by omega
        refine lv_iload hx hb dX0_isOutdated_45 (lv_at hl 4 rfl) ?_
        refine lv_bipush (v := 10) hx hb dX0_isOutdated_47 (by decide) ?_
        refine lv_icmp_ge (tgt := 87) hx hb dX0_isOutdated_49 (by decide) (fun c_49 => ?_) (fun c_49 => ?_)
        · skip
          refine lv_iconst (v := 0) hx hb dX0_isOutdated_87 (by decide) ?_
          exact rm_zret C hr hlocks hw (by decide) dX0_isOutdated_88 ⟨by first | with_reducible rfl | exact ht45 | (rw [← ht45]; first | with_reducible rfl | (simp only [rm_outdL, ↓reduceIte, Bool.false_eq_true]; done) | (simp only [rm_outdL, ↓reduceIte, Bool.false_eq_true]; rfl) | rfl) | (first | with_reducible rfl | (simp only [rm_outd, if_neg c_26, ↓reduceIte, Bool.false_eq_true]; done) | (simp only [rm_outd, if_neg c_26, ↓reduceIte, Bool.false_eq_true]; rfl) | rfl), by first | with_reducible rfl | exact ht45 | (rw [← ht45]; first | with_reducible rfl | (simp only [rm_outdL, ↓reduceIte, Bool.false_eq_true]; done) | (simp only [rm_outdL, ↓reduceIte, Bool.false_eq_true]; rfl) | rfl) | (first | with_reducible rfl | (simp only [rm_outd, if_neg c_26, ↓reduceIte, Bool.false_eq_true]; done) | (simp only [rm_outd, if_neg c_26, ↓reduceIte, Bool.false_eq_true]; rfl) | rfl)⟩
        · exact absurd (show (10 : Int32) ≤ nI 10 from nI_le (a := 10) (b := 10) (Nat.le_refl _) (by decide)) c_49
      | succ r ih45 =>
        intro i hi45 _ ht45 H locs hw ls hl
        have hlt45 : i < 10 := by omega
        refine lv_iload hx hb dX0_isOutdated_45 (lv_at hl 4 rfl) ?_
        refine lv_bipush (v := 10) hx hb dX0_isOutdated_47 (by decide) ?_
        refine lv_icmp_ge (tgt := 87) hx hb dX0_isOutdated_49 (by decide) (fun c_49 => ?_) (fun c_49 => ?_)
        · exact absurd c_49 (nI_ge (a := i) (b := 10) hlt45 (by decide))
        · skip
          refine lv_aload_n hx hb dX0_isOutdated_52 rfl (lv_at hl 0 rfl) ?_
          refine rm_geta C hw 7 2 (by decide) rfl (hts _ (by decide +kernel)) rfl dX0_isOutdated_53 ?_
          refine lv_iload_n hx hb dX0_isOutdated_56 rfl (lv_at hl 1 rfl) ?_
          refine rm_aald C hw 25 (by decide) hn dX0_isOutdated_57 ?_
          refine lv_iload hx hb dX0_isOutdated_58 (lv_at hl 4 rfl) ?_
          refine rm_iald C hw ⟨by omega, by omega⟩ hlt45 dX0_isOutdated_60 ?_
          refine lv_iload_n hx hb dX0_isOutdated_61 rfl (lv_at hl 2 rfl) ?_
          refine lv_icmp_ne (tgt := 81) hx hb dX0_isOutdated_62 (by decide) (fun c_62 => ?_) (fun c_62 => ?_)
          · skip
            refine lv_iinc (v := nI (i + 1)) (lv' := [(5, .int (nI (i + 1))), (0, .ref (a 0)), (1, .int (nI n)), (3, .int (σ (25 + n) o)), (4, .int (σ (35 + n) o))]) hx hb dX0_isOutdated_81 hl (k := 4) rfl (rm_inc i) (by decide) rfl (fun ls hl => ?_)
            refine lv_goto (tgt := 45) hx hb dX0_isOutdated_84 (by decide) ?_
            exact ih45 (i + 1) (by omega) () (by refine Eq.trans ?_ ht45; first | with_reducible rfl | (simp only [rm_outdL, if_neg c_62, ↓reduceIte, Bool.false_eq_true]; done) | (simp only [rm_outdL, if_neg c_62, ↓reduceIte, Bool.false_eq_true]; rfl) | rfl) _ _ hw _ (lv_sub hl [1, 2, 3, 4, 0] rfl)
          · skip
            refine lv_aload_n hx hb dX0_isOutdated_65 rfl (lv_at hl 0 rfl) ?_
            refine rm_geta C hw 8 3 (by decide) rfl (hts _ (by decide +kernel)) rfl dX0_isOutdated_66 ?_
            refine lv_iload_n hx hb dX0_isOutdated_69 rfl (lv_at hl 1 rfl) ?_
            refine rm_aald C hw 35 (by decide) hn dX0_isOutdated_70 ?_
            refine lv_iload hx hb dX0_isOutdated_71 (lv_at hl 4 rfl) ?_
            refine rm_iald C hw ⟨by omega, by omega⟩ hlt45 dX0_isOutdated_73 ?_
            refine lv_iload hx hb dX0_isOutdated_74 (lv_at hl 3 rfl) ?_
            refine lv_icmp_le (tgt := 81) hx hb dX0_isOutdated_76 (by decide) (fun c_76 => ?_) (fun c_76 => ?_)
            · skip
              refine lv_iinc (v := nI (i + 1)) (lv' := [(5, .int (nI (i + 1))), (0, .ref (a 0)), (1, .int (nI n)), (3, .int (σ (25 + n) o)), (4, .int (σ (35 + n) o))]) hx hb dX0_isOutdated_81 hl (k := 4) rfl (rm_inc i) (by decide) rfl (fun ls hl => ?_)
              refine lv_goto (tgt := 45) hx hb dX0_isOutdated_84 (by decide) ?_
              exact ih45 (i + 1) (by omega) () (by refine Eq.trans ?_ ht45; first | with_reducible rfl | (simp only [rm_outdL, if_pos c_62, if_pos c_76, ↓reduceIte, Bool.false_eq_true]; done) | (simp only [rm_outdL, if_pos c_62, if_pos c_76, ↓reduceIte, Bool.false_eq_true]; rfl) | rfl) _ _ hw _ (lv_sub hl [1, 2, 3, 4, 0] rfl)
            · skip
              refine lv_iconst (v := 1) hx hb dX0_isOutdated_79 (by decide) ?_
              exact rm_zret C hr hlocks hw (by decide) dX0_isOutdated_80 ⟨by first | with_reducible rfl | exact ht45 | (rw [← ht45]; first | with_reducible rfl | (simp only [rm_outdL, if_pos c_62, if_neg c_76, ↓reduceIte, Bool.false_eq_true]; done) | (simp only [rm_outdL, if_pos c_62, if_neg c_76, ↓reduceIte, Bool.false_eq_true]; rfl) | rfl) | (first | with_reducible rfl | (simp only [rm_outd, if_neg c_26, if_pos c_62, if_neg c_76, ↓reduceIte, Bool.false_eq_true]; done) | (simp only [rm_outd, if_neg c_26, if_pos c_62, if_neg c_76, ↓reduceIte, Bool.false_eq_true]; rfl) | rfl), by first | with_reducible rfl | exact ht45 | (rw [← ht45]; first | with_reducible rfl | (simp only [rm_outdL, if_pos c_62, if_neg c_76, ↓reduceIte, Bool.false_eq_true]; done) | (simp only [rm_outdL, if_pos c_62, if_neg c_76, ↓reduceIte, Bool.false_eq_true]; rfl) | rfl) | (first | with_reducible rfl | (simp only [rm_outd, if_neg c_26, if_pos c_62, if_neg c_76, ↓reduceIte, Bool.false_eq_true]; done) | (simp only [rm_outd, if_neg c_26, if_pos c_62, if_neg c_76, ↓reduceIte, Bool.false_eq_true]; rfl) | rfl)⟩
    exact lp_45 10 0 (by omega) () (by first | with_reducible rfl | (simp only [rm_outd, rm_outdL, if_neg c_26, ↓reduceIte, Bool.false_eq_true]; done) | (simp only [rm_outd, rm_outdL, if_neg c_26, ↓reduceIte, Bool.false_eq_true]; rfl) | rfl) _ _ hw _ (lv_sub hl [3, 4, 2, 1, 0] rfl)
  · skip
    refine lv_aload_n hx hb dX0_isOutdated_29 rfl (lv_at hl 2 rfl) ?_
    refine rm_geta C hw 13 8 (by decide) rfl (hts _ (by decide +kernel)) rfl dX0_isOutdated_30 ?_
    refine lv_iload_n hx hb dX0_isOutdated_33 rfl (lv_at hl 3 rfl) ?_
    refine rm_iald C hw (by decide) hn dX0_isOutdated_34 ?_
    refine lv_iload hx hb dX0_isOutdated_35 (lv_at hl 0 rfl) ?_
    refine lv_icmp_le (tgt := 42) hx hb dX0_isOutdated_37 (by decide) (fun c_37 => ?_) (fun c_37 => ?_)
    · skip
      refine lv_iconst (v := 0) hx hb dX0_isOutdated_42 (by decide) ?_
      refine lv_istore (lv' := [(5, .int 0), (4, .int (σ (35 + n) o)), (3, .int (σ (25 + n) o)), (0, .ref (a 0)), (1, .int (nI n)), (2, .int (nI o))]) hx hb dX0_isOutdated_43 hl (by decide) rfl (fun ls hl => ?_)
      have lp_45 : ∀ (r i : Nat), i + r = 10 → ∀ (_ : Unit), rm_outdL σ n (σ (25 + n) o) (σ (35 + n) o) r i = rm_outd σ n o → ∀ (H : Heap) (locs : List Loc), rm_Wd k a (rm_A a s.heap.size) s.heap s σ H locs → ∀ (ls : Array Slot), lv_has ls 6 [(0, .ref (a 0)), (1, .int (nI n)), (3, .int (σ (25 + n) o)), (4, .int (σ (35 + n) o)), (5, .int (nI i))] → W p l e (headSpec wsX0_isOutdated ({ frames := 0, cells := 0, slots := 0, locals := 0 })).room s m args below meth c H locs 0 0 (MQ below (va_Qi (fun (r : Int32) (τ : rm_St) => r = (bI (rm_outd σ n o)) ∧ τ = σ) (fun τ t => rm_P k a τ t) (rm_A a s.heap.size)) args s 0 0 (rm_A a s.heap.size)) (F0 m 45 ls []) := by
        intro r
        induction r with
        | zero =>
          intro i hi45 _ ht45 H locs hw ls hl
          obtain rfl : i = 10 := by omega
          refine lv_iload hx hb dX0_isOutdated_45 (lv_at hl 4 rfl) ?_
          refine lv_bipush (v := 10) hx hb dX0_isOutdated_47 (by decide) ?_
          refine lv_icmp_ge (tgt := 87) hx hb dX0_isOutdated_49 (by decide) (fun c_49 => ?_) (fun c_49 => ?_)
          · skip
            refine lv_iconst (v := 0) hx hb dX0_isOutdated_87 (by decide) ?_
            exact rm_zret C hr hlocks hw (by decide) dX0_isOutdated_88 ⟨by first | with_reducible rfl | exact ht45 | (rw [← ht45]; first | with_reducible rfl | (simp only [rm_outdL, ↓reduceIte, Bool.false_eq_true]; done) | (simp only [rm_outdL, ↓reduceIte, Bool.false_eq_true]; rfl) | rfl) | (first | with_reducible rfl | (simp only [rm_outd, if_pos c_26, if_pos c_37, ↓reduceIte, Bool.false_eq_true]; done) | (simp only [rm_outd, if_pos c_26, if_pos c_37, ↓reduceIte, Bool.false_eq_true]; rfl) | rfl), by first | with_reducible rfl | exact ht45 | (rw [← ht45]; first | with_reducible rfl | (simp only [rm_outdL, ↓reduceIte, Bool.false_eq_true]; done) | (simp only [rm_outdL, ↓reduceIte, Bool.false_eq_true]; rfl) | rfl) | (first | with_reducible rfl | (simp only [rm_outd, if_pos c_26, if_pos c_37, ↓reduceIte, Bool.false_eq_true]; done) | (simp only [rm_outd, if_pos c_26, if_pos c_37, ↓reduceIte, Bool.false_eq_true]; rfl) | rfl)⟩
          · exact absurd (show (10 : Int32) ≤ nI 10 from nI_le (a := 10) (b := 10) (Nat.le_refl _) (by decide)) c_49
        | succ r ih45 =>
          intro i hi45 _ ht45 H locs hw ls hl
          have hlt45 : i < 10 := by omega
          refine lv_iload hx hb dX0_isOutdated_45 (lv_at hl 4 rfl) ?_
          refine lv_bipush (v := 10) hx hb dX0_isOutdated_47 (by decide) ?_
          refine lv_icmp_ge (tgt := 87) hx hb dX0_isOutdated_49 (by decide) (fun c_49 => ?_) (fun c_49 => ?_)
          · exact absurd c_49 (nI_ge (a := i) (b := 10) hlt45 (by decide))
          · skip
            refine lv_aload_n hx hb dX0_isOutdated_52 rfl (lv_at hl 0 rfl) ?_
            refine rm_geta C hw 7 2 (by decide) rfl (hts _ (by decide +kernel)) rfl dX0_isOutdated_53 ?_
            refine lv_iload_n hx hb dX0_isOutdated_56 rfl (lv_at hl 1 rfl) ?_
            refine rm_aald C hw 25 (by decide) hn dX0_isOutdated_57 ?_
            refine lv_iload hx hb dX0_isOutdated_58 (lv_at hl 4 rfl) ?_
            refine rm_iald C hw ⟨by omega, by omega⟩ hlt45 dX0_isOutdated_60 ?_
            refine lv_iload_n hx hb dX0_isOutdated_61 rfl (lv_at hl 2 rfl) ?_
            refine lv_icmp_ne (tgt := 81) hx hb dX0_isOutdated_62 (by decide) (fun c_62 => ?_) (fun c_62 => ?_)
            · skip
              refine lv_iinc (v := nI (i + 1)) (lv' := [(5, .int (nI (i + 1))), (0, .ref (a 0)), (1, .int (nI n)), (3, .int (σ (25 + n) o)), (4, .int (σ (35 + n) o))]) hx hb dX0_isOutdated_81 hl (k := 4) rfl (rm_inc i) (by decide) rfl (fun ls hl => ?_)
              refine lv_goto (tgt := 45) hx hb dX0_isOutdated_84 (by decide) ?_
              exact ih45 (i + 1) (by omega) () (by refine Eq.trans ?_ ht45; first | with_reducible rfl | (simp only [rm_outdL, if_neg c_62, ↓reduceIte, Bool.false_eq_true]; done) | (simp only [rm_outdL, if_neg c_62, ↓reduceIte, Bool.false_eq_true]; rfl) | rfl) _ _ hw _ (lv_sub hl [1, 2, 3, 4, 0] rfl)
            · skip
              refine lv_aload_n hx hb dX0_isOutdated_65 rfl (lv_at hl 0 rfl) ?_
              refine rm_geta C hw 8 3 (by decide) rfl (hts _ (by decide +kernel)) rfl dX0_isOutdated_66 ?_
              refine lv_iload_n hx hb dX0_isOutdated_69 rfl (lv_at hl 1 rfl) ?_
              refine rm_aald C hw 35 (by decide) hn dX0_isOutdated_70 ?_
              refine lv_iload hx hb dX0_isOutdated_71 (lv_at hl 4 rfl) ?_
              refine rm_iald C hw ⟨by omega, by omega⟩ hlt45 dX0_isOutdated_73 ?_
              refine lv_iload hx hb dX0_isOutdated_74 (lv_at hl 3 rfl) ?_
              refine lv_icmp_le (tgt := 81) hx hb dX0_isOutdated_76 (by decide) (fun c_76 => ?_) (fun c_76 => ?_)
              · skip
                refine lv_iinc (v := nI (i + 1)) (lv' := [(5, .int (nI (i + 1))), (0, .ref (a 0)), (1, .int (nI n)), (3, .int (σ (25 + n) o)), (4, .int (σ (35 + n) o))]) hx hb dX0_isOutdated_81 hl (k := 4) rfl (rm_inc i) (by decide) rfl (fun ls hl => ?_)
                refine lv_goto (tgt := 45) hx hb dX0_isOutdated_84 (by decide) ?_
                exact ih45 (i + 1) (by omega) () (by refine Eq.trans ?_ ht45; first | with_reducible rfl | (simp only [rm_outdL, if_pos c_62, if_pos c_76, ↓reduceIte, Bool.false_eq_true]; done) | (simp only [rm_outdL, if_pos c_62, if_pos c_76, ↓reduceIte, Bool.false_eq_true]; rfl) | rfl) _ _ hw _ (lv_sub hl [1, 2, 3, 4, 0] rfl)
              · skip
                refine lv_iconst (v := 1) hx hb dX0_isOutdated_79 (by decide) ?_
                exact rm_zret C hr hlocks hw (by decide) dX0_isOutdated_80 ⟨by first | with_reducible rfl | exact ht45 | (rw [← ht45]; first | with_reducible rfl | (simp only [rm_outdL, if_pos c_62, if_neg c_76, ↓reduceIte, Bool.false_eq_true]; done) | (simp only [rm_outdL, if_pos c_62, if_neg c_76, ↓reduceIte, Bool.false_eq_true]; rfl) | rfl) | (first | with_reducible rfl | (simp only [rm_outd, if_pos c_26, if_pos c_37, if_pos c_62, if_neg c_76, ↓reduceIte, Bool.false_eq_true]; done) | (simp only [rm_outd, if_pos c_26, if_pos c_37, if_pos c_62, if_neg c_76, ↓reduceIte, Bool.false_eq_true]; rfl) | rfl), by first | with_reducible rfl | exact ht45 | (rw [← ht45]; first | with_reducible rfl | (simp only [rm_outdL, if_pos c_62, if_neg c_76, ↓reduceIte, Bool.false_eq_true]; done) | (simp only [rm_outdL, if_pos c_62, if_neg c_76, ↓reduceIte, Bool.false_eq_true]; rfl) | rfl) | (first | with_reducible rfl | (simp only [rm_outd, if_pos c_26, if_pos c_37, if_pos c_62, if_neg c_76, ↓reduceIte, Bool.false_eq_true]; done) | (simp only [rm_outd, if_pos c_26, if_pos c_37, if_pos c_62, if_neg c_76, ↓reduceIte, Bool.false_eq_true]; rfl) | rfl)⟩
      exact lp_45 10 0 (by omega) () (by first | with_reducible rfl | (simp only [rm_outd, rm_outdL, if_pos c_26, if_pos c_37, ↓reduceIte, Bool.false_eq_true]; done) | (simp only [rm_outd, rm_outdL, if_pos c_26, if_pos c_37, ↓reduceIte, Bool.false_eq_true]; rfl) | rfl) _ _ hw _ (lv_sub hl [3, 4, 2, 1, 0] rfl)
    · skip
      refine lv_iconst (v := 1) hx hb dX0_isOutdated_40 (by decide) ?_
      exact rm_zret C hr hlocks hw (by decide) dX0_isOutdated_41 ⟨by first | with_reducible rfl | (simp only [rm_outd, if_pos c_26, if_neg c_37, ↓reduceIte, Bool.false_eq_true]; done) | (simp only [rm_outd, if_pos c_26, if_neg c_37, ↓reduceIte, Bool.false_eq_true]; rfl) | rfl, by first | with_reducible rfl | (simp only [rm_outd, if_pos c_26, if_neg c_37, ↓reduceIte, Bool.false_eq_true]; done) | (simp only [rm_outd, if_pos c_26, if_neg c_37, ↓reduceIte, Bool.false_eq_true]; rfl) | rfl⟩
set_option maxHeartbeats 4000000 in
set_option maxRecDepth 100000 in
theorem kX0_isCandidate (l : Launch) (k : rm_K) (a : Nat → Nat) (ha : rm_inj a) (σ : rm_St) (n : Nat) (o : Nat) (hn : n < 10) (ho : o < 10) : rm_MI l k a yX0_isCandidate wsX0_isCandidate ({ frames := 2, cells := 0, slots := 0, locals := 44 }) [.int (nI n), .int (nI o)] σ (bI (rm_cand σ n o)) σ := by
  refine rm_enterI (cc := cX0_isCandidate) (nL := 4) (ret := (some .boolean)) ha (by decide) rfl rfl (by decide +kernel) (Nat.le_of_ble_eq_true rfl) ?_
  intro p e s m args below meth c ls C hr hlocks hw hl
  have hx := C.1.1
  have hb := C.1.2.1
  have hts := C.1.2.2.2.2
  have hA : ∀ q, s.heap.size ≤ q → rm_A a s.heap.size q := fun q h => Or.inr h
  replace hl : lv_has ls 4 [(0, .ref (a 0)), (1, .int (nI n)), (2, .int (nI o))] := hl
  refine lv_aload_n hx hb dX0_isCandidate_0 rfl (lv_at hl 0 rfl) ?_
  refine rm_geta C hw 9 4 (by decide) rfl (hts _ (by decide +kernel)) rfl dX0_isCandidate_1 ?_
  refine lv_iload_n hx hb dX0_isCandidate_4 rfl (lv_at hl 1 rfl) ?_
  refine rm_aald C hw 45 (by decide) hn dX0_isCandidate_5 ?_
  refine lv_iload_n hx hb dX0_isCandidate_6 rfl (lv_at hl 2 rfl) ?_
  refine rm_iald C hw ⟨by omega, by omega⟩ ho dX0_isCandidate_7 ?_
  refine lv_istore_n (lv' := [(3, .int (σ (45 + n) o)), (0, .ref (a 0)), (1, .int (nI n)), (2, .int (nI o))]) hx hb dX0_isCandidate_8 rfl hl (by decide) rfl (fun ls hl => ?_)
  refine lv_iload_n hx hb dX0_isCandidate_9 rfl (lv_at hl 0 rfl) ?_
  refine lv_iconst (v := (-1)) hx hb dX0_isCandidate_10 (by decide) ?_
  refine lv_icmp_eq (tgt := 33) hx hb dX0_isCandidate_11 (by decide) (fun c_11 => ?_) (fun c_11 => ?_)
  · skip
    refine lv_iconst (v := 0) hx hb dX0_isCandidate_33 (by decide) ?_
    exact rm_zret C hr hlocks hw (by decide) dX0_isCandidate_34 ⟨by first | with_reducible rfl | (simp only [rm_cand, if_pos c_11, ↓reduceIte, Bool.false_eq_true]; done) | (simp only [rm_cand, if_pos c_11, ↓reduceIte, Bool.false_eq_true]; rfl) | rfl, by first | with_reducible rfl | (simp only [rm_cand, if_pos c_11, ↓reduceIte, Bool.false_eq_true]; done) | (simp only [rm_cand, if_pos c_11, ↓reduceIte, Bool.false_eq_true]; rfl) | rfl⟩
  · skip
    refine lv_iload_n hx hb dX0_isCandidate_14 rfl (lv_at hl 0 rfl) ?_
    refine lv_sipush (v := 10000) hx hb dX0_isCandidate_15 (by decide) ?_
    refine lv_icmp_ge (tgt := 33) hx hb dX0_isCandidate_18 (by decide) (fun c_18 => ?_) (fun c_18 => ?_)
    · skip
      refine lv_iconst (v := 0) hx hb dX0_isCandidate_33 (by decide) ?_
      exact rm_zret C hr hlocks hw (by decide) dX0_isCandidate_34 ⟨by first | with_reducible rfl | (simp only [rm_cand, if_neg c_11, if_pos c_18, ↓reduceIte, Bool.false_eq_true]; done) | (simp only [rm_cand, if_neg c_11, if_pos c_18, ↓reduceIte, Bool.false_eq_true]; rfl) | rfl, by first | with_reducible rfl | (simp only [rm_cand, if_neg c_11, if_pos c_18, ↓reduceIte, Bool.false_eq_true]; done) | (simp only [rm_cand, if_neg c_11, if_pos c_18, ↓reduceIte, Bool.false_eq_true]; rfl) | rfl⟩
    · skip
      refine lv_aload_n hx hb dX0_isCandidate_21 rfl (lv_at hl 1 rfl) ?_
      refine lv_iload_n hx hb dX0_isCandidate_22 rfl (lv_at hl 2 rfl) ?_
      refine lv_iload_n hx hb dX0_isCandidate_23 rfl (lv_at hl 3 rfl) ?_
      refine rm_callI C hw hA (As := [.int (nI n), .int (nI o)]) (rest := []) (kX0_rankBy l k a ha σ n o hn ho) (cwV 2 hts gX0_isCandidate_X0_rankBy rfl rfl rfl (by decide +kernel) ⟨Nat.le_of_ble_eq_true rfl, Nat.le_of_ble_eq_true rfl⟩) rfl hl.1 rfl (lv_room (Nat.le_of_ble_eq_true rfl)) dX0_isCandidate_24 ⟨Nat.zero_le _, Nat.zero_le _⟩ (fun H locs hw => ?_)
      refine lv_sipush (v := 10000) hx hb dX0_isCandidate_27 (by decide) ?_
      refine lv_icmp_lt (tgt := 35) hx hb dX0_isCandidate_30 (by decide) (fun c_30 => ?_) (fun c_30 => ?_)
      · skip
        refine lv_aload_n hx hb dX0_isCandidate_35 rfl (lv_at hl 1 rfl) ?_
        refine lv_iload_n hx hb dX0_isCandidate_36 rfl (lv_at hl 2 rfl) ?_
        refine lv_iload_n hx hb dX0_isCandidate_37 rfl (lv_at hl 3 rfl) ?_
        refine rm_callI C hw hA (As := [.int (nI n), .int (nI o)]) (rest := []) (kX0_isOutdated l k a ha σ n o hn ho) (cwV 2 hts gX0_isCandidate_X0_isOutdated rfl rfl rfl (by decide +kernel) ⟨Nat.le_of_ble_eq_true rfl, Nat.le_of_ble_eq_true rfl⟩) rfl hl.1 rfl (lv_room (Nat.le_of_ble_eq_true rfl)) dX0_isCandidate_38 ⟨Nat.zero_le _, Nat.zero_le _⟩ (fun H locs hw => ?_)
        refine rm_ifne (tgt := 57) hx hb dX0_isCandidate_41 (by decide) (fun c_41 => ?_) (fun c_41 => ?_)
        · skip
          refine lv_iconst (v := 0) hx hb dX0_isCandidate_57 (by decide) ?_
          exact rm_zret C hr hlocks hw (by decide) dX0_isCandidate_58 ⟨by first | with_reducible rfl | (simp only [rm_cand, if_neg c_11, if_neg c_18, if_pos c_30, c_41, ↓reduceIte, Bool.false_eq_true]; done) | (simp only [rm_cand, if_neg c_11, if_neg c_18, if_pos c_30, c_41, ↓reduceIte, Bool.false_eq_true]; rfl) | rfl, by first | with_reducible rfl | (simp only [rm_cand, if_neg c_11, if_neg c_18, if_pos c_30, c_41, ↓reduceIte, Bool.false_eq_true]; done) | (simp only [rm_cand, if_neg c_11, if_neg c_18, if_pos c_30, c_41, ↓reduceIte, Bool.false_eq_true]; rfl) | rfl⟩
        · skip
          refine lv_aload_n hx hb dX0_isCandidate_44 rfl (lv_at hl 1 rfl) ?_
          refine lv_iload_n hx hb dX0_isCandidate_45 rfl (lv_at hl 2 rfl) ?_
          refine lv_iload_n hx hb dX0_isCandidate_46 rfl (lv_at hl 3 rfl) ?_
          refine rm_callI C hw hA (As := [.int (nI n), .int (nI o)]) (rest := []) (kX0_isTooDeep l k a ha σ n o hn ho) (cwV 2 hts gX0_isCandidate_X0_isTooDeep rfl rfl rfl (by decide +kernel) ⟨Nat.le_of_ble_eq_true rfl, Nat.le_of_ble_eq_true rfl⟩) rfl hl.1 rfl (lv_room (Nat.le_of_ble_eq_true rfl)) dX0_isCandidate_47 ⟨Nat.zero_le _, Nat.zero_le _⟩ (fun H locs hw => ?_)
          refine rm_ifne (tgt := 57) hx hb dX0_isCandidate_50 (by decide) (fun c_50 => ?_) (fun c_50 => ?_)
          · skip
            refine lv_iconst (v := 0) hx hb dX0_isCandidate_57 (by decide) ?_
            exact rm_zret C hr hlocks hw (by decide) dX0_isCandidate_58 ⟨by first | with_reducible rfl | (simp only [rm_cand, if_neg c_11, if_neg c_18, if_pos c_30, c_41, c_50, ↓reduceIte, Bool.false_eq_true]; done) | (simp only [rm_cand, if_neg c_11, if_neg c_18, if_pos c_30, c_41, c_50, ↓reduceIte, Bool.false_eq_true]; rfl) | rfl, by first | with_reducible rfl | (simp only [rm_cand, if_neg c_11, if_neg c_18, if_pos c_30, c_41, c_50, ↓reduceIte, Bool.false_eq_true]; done) | (simp only [rm_cand, if_neg c_11, if_neg c_18, if_pos c_30, c_41, c_50, ↓reduceIte, Bool.false_eq_true]; rfl) | rfl⟩
          · skip
            refine lv_iconst (v := 1) hx hb dX0_isCandidate_53 (by decide) ?_
            refine lv_goto (tgt := 58) hx hb dX0_isCandidate_54 (by decide) ?_
            exact rm_zret C hr hlocks hw (by decide) dX0_isCandidate_58 ⟨by first | with_reducible rfl | (simp only [rm_cand, if_neg c_11, if_neg c_18, if_pos c_30, c_41, c_50, ↓reduceIte, Bool.false_eq_true]; done) | (simp only [rm_cand, if_neg c_11, if_neg c_18, if_pos c_30, c_41, c_50, ↓reduceIte, Bool.false_eq_true]; rfl) | rfl, by first | with_reducible rfl | (simp only [rm_cand, if_neg c_11, if_neg c_18, if_pos c_30, c_41, c_50, ↓reduceIte, Bool.false_eq_true]; done) | (simp only [rm_cand, if_neg c_11, if_neg c_18, if_pos c_30, c_41, c_50, ↓reduceIte, Bool.false_eq_true]; rfl) | rfl⟩
      · skip
        refine lv_iconst (v := 0) hx hb dX0_isCandidate_33 (by decide) ?_
        exact rm_zret C hr hlocks hw (by decide) dX0_isCandidate_34 ⟨by first | with_reducible rfl | (simp only [rm_cand, if_neg c_11, if_neg c_18, if_neg c_30, ↓reduceIte, Bool.false_eq_true]; done) | (simp only [rm_cand, if_neg c_11, if_neg c_18, if_neg c_30, ↓reduceIte, Bool.false_eq_true]; rfl) | rfl, by first | with_reducible rfl | (simp only [rm_cand, if_neg c_11, if_neg c_18, if_neg c_30, ↓reduceIte, Bool.false_eq_true]; done) | (simp only [rm_cand, if_neg c_11, if_neg c_18, if_neg c_30, ↓reduceIte, Bool.false_eq_true]; rfl) | rfl⟩
set_option maxHeartbeats 4000000 in
set_option maxRecDepth 100000 in
theorem kX0_bestCandidate (l : Launch) (k : rm_K) (a : Nat → Nat) (ha : rm_inj a) (σ : rm_St) (n : Nat) (hn : n < 10) : rm_MI l k a yX0_bestCandidate wsX0_bestCandidate ({ frames := 3, cells := 0, slots := 0, locals := 67 }) [.int (nI n)] σ (rm_best σ n) σ := by
  refine rm_enterI (cc := cX0_bestCandidate) (nL := 6) (ret := (some .int)) ha (by decide) rfl rfl (by decide +kernel) (Nat.le_of_ble_eq_true rfl) ?_
  intro p e s m args below meth c ls C hr hlocks hw hl
  have hx := C.1.1
  have hb := C.1.2.1
  have hts := C.1.2.2.2.2
  have hA : ∀ q, s.heap.size ≤ q → rm_A a s.heap.size q := fun q h => Or.inr h
  replace hl : lv_has ls 6 [(0, .ref (a 0)), (1, .int (nI n))] := hl
  refine lv_iconst (v := (-1)) hx hb dX0_bestCandidate_0 (by decide) ?_
  refine lv_istore_n (lv' := [(2, .int ((-1))), (0, .ref (a 0)), (1, .int (nI n))]) hx hb dX0_bestCandidate_1 rfl hl (by decide) rfl (fun ls hl => ?_)
  refine lv_sipush (v := 10000) hx hb dX0_bestCandidate_2 (by decide) ?_
  refine lv_istore_n (lv' := [(3, .int 10000), (2, .int ((-1))), (0, .ref (a 0)), (1, .int (nI n))]) hx hb dX0_bestCandidate_5 rfl hl (by decide) rfl (fun ls hl => ?_)
  refine lv_iconst (v := 0) hx hb dX0_bestCandidate_6 (by decide) ?_
  refine lv_istore (lv' := [(4, .int 0), (3, .int 10000), (2, .int ((-1))), (0, .ref (a 0)), (1, .int (nI n))]) hx hb dX0_bestCandidate_7 hl (by decide) rfl (fun ls hl => ?_)
  have lp_9 : ∀ (r i : Nat), i + r = 10 → ∀ (x2 : Int32) (x3 : Int32), rm_bestL σ n r i x2 x3 = rm_best σ n → ∀ (H : Heap) (locs : List Loc), rm_Wd k a (rm_A a s.heap.size) s.heap s σ H locs → ∀ (ls : Array Slot), lv_has ls 6 [(0, .ref (a 0)), (1, .int (nI n)), (2, .int x2), (3, .int x3), (4, .int (nI i))] → W p l e (headSpec wsX0_bestCandidate ({ frames := 3, cells := 0, slots := 0, locals := 67 })).room s m args below meth c H locs 0 0 (MQ below (va_Qi (fun (r : Int32) (τ : rm_St) => r = (rm_best σ n) ∧ τ = σ) (fun τ t => rm_P k a τ t) (rm_A a s.heap.size)) args s 0 0 (rm_A a s.heap.size)) (F0 m 9 ls []) := by
    intro r
    induction r with
    | zero =>
      intro i hi9 x2 x3 ht9 H locs hw ls hl
      obtain rfl : i = 10 := by omega
      refine lv_iload hx hb dX0_bestCandidate_9 (lv_at hl 4 rfl) ?_
      refine lv_bipush (v := 10) hx hb dX0_bestCandidate_11 (by decide) ?_
      refine lv_icmp_ge (tgt := 53) hx hb dX0_bestCandidate_13 (by decide) (fun c_13 => ?_) (fun c_13 => ?_)
      · skip
        refine lv_iload_n hx hb dX0_bestCandidate_53 rfl (lv_at hl 2 rfl) ?_
        exact rm_iret C hr hlocks hw dX0_bestCandidate_54 ⟨by first | with_reducible rfl | exact ht9 | (rw [← ht9]; first | with_reducible rfl | (simp only [rm_bestL, ↓reduceIte, Bool.false_eq_true]; done) | (simp only [rm_bestL, ↓reduceIte, Bool.false_eq_true]; rfl) | rfl) | (first | with_reducible rfl | (simp only [rm_best, ↓reduceIte, Bool.false_eq_true]; done) | (simp only [rm_best, ↓reduceIte, Bool.false_eq_true]; rfl) | rfl), by first | with_reducible rfl | exact ht9 | (rw [← ht9]; first | with_reducible rfl | (simp only [rm_bestL, ↓reduceIte, Bool.false_eq_true]; done) | (simp only [rm_bestL, ↓reduceIte, Bool.false_eq_true]; rfl) | rfl) | (first | with_reducible rfl | (simp only [rm_best, ↓reduceIte, Bool.false_eq_true]; done) | (simp only [rm_best, ↓reduceIte, Bool.false_eq_true]; rfl) | rfl)⟩
      · exact absurd (show (10 : Int32) ≤ nI 10 from nI_le (a := 10) (b := 10) (Nat.le_refl _) (by decide)) c_13
    | succ r ih9 =>
      intro i hi9 x2 x3 ht9 H locs hw ls hl
      have hlt9 : i < 10 := by omega
      refine lv_iload hx hb dX0_bestCandidate_9 (lv_at hl 4 rfl) ?_
      refine lv_bipush (v := 10) hx hb dX0_bestCandidate_11 (by decide) ?_
      refine lv_icmp_ge (tgt := 53) hx hb dX0_bestCandidate_13 (by decide) (fun c_13 => ?_) (fun c_13 => ?_)
      · exact absurd c_13 (nI_ge (a := i) (b := 10) hlt9 (by decide))
      · skip
        refine lv_aload_n hx hb dX0_bestCandidate_16 rfl (lv_at hl 0 rfl) ?_
        refine lv_iload_n hx hb dX0_bestCandidate_17 rfl (lv_at hl 1 rfl) ?_
        refine lv_iload hx hb dX0_bestCandidate_18 (lv_at hl 4 rfl) ?_
        refine rm_callI C hw hA (As := [.int (nI n), .int (nI i)]) (rest := []) (kX0_rankBy l k a ha σ n i hn hlt9) (cwV 2 hts gX0_bestCandidate_X0_rankBy rfl rfl rfl (by decide +kernel) ⟨Nat.le_of_ble_eq_true rfl, Nat.le_of_ble_eq_true rfl⟩) rfl hl.1 rfl (lv_room (Nat.le_of_ble_eq_true rfl)) dX0_bestCandidate_20 ⟨Nat.zero_le _, Nat.zero_le _⟩ (fun H locs hw => ?_)
        refine lv_istore (lv' := [(5, .int (rm_rankBy σ n i)), (0, .ref (a 0)), (1, .int (nI n)), (2, .int x2), (3, .int x3), (4, .int (nI i))]) hx hb dX0_bestCandidate_23 hl (by decide) rfl (fun ls hl => ?_)
        refine lv_iload hx hb dX0_bestCandidate_25 (lv_at hl 0 rfl) ?_
        refine lv_iload_n hx hb dX0_bestCandidate_27 rfl (lv_at hl 4 rfl) ?_
        refine lv_icmp_ge (tgt := 47) hx hb dX0_bestCandidate_28 (by decide) (fun c_28 => ?_) (fun c_28 => ?_)
        · skip
          refine lv_iinc (v := nI (i + 1)) (lv' := [(4, .int (nI (i + 1))), (5, .int (rm_rankBy σ n i)), (0, .ref (a 0)), (1, .int (nI n)), (2, .int x2), (3, .int x3)]) hx hb dX0_bestCandidate_47 hl (k := 5) rfl (rm_inc i) (by decide) rfl (fun ls hl => ?_)
          refine lv_goto (tgt := 9) hx hb dX0_bestCandidate_50 (by decide) ?_
          exact ih9 (i + 1) (by omega) (x2) (x3) (by refine Eq.trans ?_ ht9; first | with_reducible rfl | (simp only [rm_bestL, if_pos c_28, ↓reduceIte, Bool.false_eq_true]; done) | (simp only [rm_bestL, if_pos c_28, ↓reduceIte, Bool.false_eq_true]; rfl) | rfl) _ _ hw _ (lv_sub hl [2, 3, 4, 5, 0] rfl)
        · skip
          refine lv_aload_n hx hb dX0_bestCandidate_31 rfl (lv_at hl 1 rfl) ?_
          refine lv_iload_n hx hb dX0_bestCandidate_32 rfl (lv_at hl 2 rfl) ?_
          refine lv_iload hx hb dX0_bestCandidate_33 (lv_at hl 5 rfl) ?_
          refine rm_callI C hw hA (As := [.int (nI n), .int (nI i)]) (rest := []) (kX0_isCandidate l k a ha σ n i hn hlt9) (cwV 2 hts gX0_bestCandidate_X0_isCandidate rfl rfl rfl (by decide +kernel) ⟨Nat.le_of_ble_eq_true rfl, Nat.le_of_ble_eq_true rfl⟩) rfl hl.1 rfl (lv_room (Nat.le_of_ble_eq_true rfl)) dX0_bestCandidate_35 ⟨Nat.zero_le _, Nat.zero_le _⟩ (fun H locs hw => ?_)
          refine rm_ifeq (tgt := 47) hx hb dX0_bestCandidate_38 (by decide) (fun c_38 => ?_) (fun c_38 => ?_)
          · skip
            refine lv_iinc (v := nI (i + 1)) (lv' := [(4, .int (nI (i + 1))), (5, .int (rm_rankBy σ n i)), (0, .ref (a 0)), (1, .int (nI n)), (2, .int x2), (3, .int x3)]) hx hb dX0_bestCandidate_47 hl (k := 5) rfl (rm_inc i) (by decide) rfl (fun ls hl => ?_)
            refine lv_goto (tgt := 9) hx hb dX0_bestCandidate_50 (by decide) ?_
            exact ih9 (i + 1) (by omega) (x2) (x3) (by refine Eq.trans ?_ ht9; first | with_reducible rfl | (simp only [rm_bestL, if_neg c_28, c_38, ↓reduceIte, Bool.false_eq_true]; done) | (simp only [rm_bestL, if_neg c_28, c_38, ↓reduceIte, Bool.false_eq_true]; rfl) | rfl) _ _ hw _ (lv_sub hl [2, 3, 4, 5, 0] rfl)
          · skip
            refine lv_iload hx hb dX0_bestCandidate_41 (lv_at hl 5 rfl) ?_
            refine lv_istore_n (lv' := [(2, .int (nI i)), (5, .int (rm_rankBy σ n i)), (0, .ref (a 0)), (1, .int (nI n)), (3, .int x3), (4, .int (nI i))]) hx hb dX0_bestCandidate_43 rfl hl (by decide) rfl (fun ls hl => ?_)
            refine lv_iload hx hb dX0_bestCandidate_44 (lv_at hl 1 rfl) ?_
            refine lv_istore_n (lv' := [(3, .int (rm_rankBy σ n i)), (2, .int (nI i)), (5, .int (rm_rankBy σ n i)), (0, .ref (a 0)), (1, .int (nI n)), (4, .int (nI i))]) hx hb dX0_bestCandidate_46 rfl hl (by decide) rfl (fun ls hl => ?_)
            refine lv_iinc (v := nI (i + 1)) (lv' := [(4, .int (nI (i + 1))), (3, .int (rm_rankBy σ n i)), (2, .int (nI i)), (5, .int (rm_rankBy σ n i)), (0, .ref (a 0)), (1, .int (nI n))]) hx hb dX0_bestCandidate_47 hl (k := 5) rfl (rm_inc i) (by decide) rfl (fun ls hl => ?_)
            refine lv_goto (tgt := 9) hx hb dX0_bestCandidate_50 (by decide) ?_
            exact ih9 (i + 1) (by omega) (nI i) (rm_rankBy σ n i) (by refine Eq.trans ?_ ht9; first | with_reducible rfl | (simp only [rm_bestL, if_neg c_28, c_38, ↓reduceIte, Bool.false_eq_true]; done) | (simp only [rm_bestL, if_neg c_28, c_38, ↓reduceIte, Bool.false_eq_true]; rfl) | rfl) _ _ hw _ (lv_sub hl [4, 5, 2, 1, 0] rfl)
  exact lp_9 10 0 (by omega) ((-1)) (10000) (by first | with_reducible rfl | (simp only [rm_best, rm_bestL, ↓reduceIte, Bool.false_eq_true]; done) | (simp only [rm_best, rm_bestL, ↓reduceIte, Bool.false_eq_true]; rfl) | rfl) _ _ hw _ (lv_sub hl [3, 4, 2, 1, 0] rfl)
set_option maxHeartbeats 4000000 in
set_option maxRecDepth 100000 in
theorem kX0_keepsParent (l : Launch) (k : rm_K) (a : Nat → Nat) (ha : rm_inj a) (σ : rm_St) (n : Nat) (o : Nat) (hn : n < 10) (ho : o < 10) : rm_MI l k a yX0_keepsParent wsX0_keepsParent ({ frames := 3, cells := 0, slots := 0, locals := 67 }) [.int (nI n), .int (nI o)] σ (bI (rm_keeps σ n o)) σ := by
  refine rm_enterI (cc := cX0_keepsParent) (nL := 5) (ret := (some .boolean)) ha (by decide) rfl rfl (by decide +kernel) (Nat.le_of_ble_eq_true rfl) ?_
  intro p e s m args below meth c ls C hr hlocks hw hl
  have hx := C.1.1
  have hb := C.1.2.1
  have hts := C.1.2.2.2.2
  have hA : ∀ q, s.heap.size ≤ q → rm_A a s.heap.size q := fun q h => Or.inr h
  replace hl : lv_has ls 5 [(0, .ref (a 0)), (1, .int (nI n)), (2, .int (nI o))] := hl
  refine lv_aload_n hx hb dX0_keepsParent_0 rfl (lv_at hl 0 rfl) ?_
  refine rm_geta C hw 16 11 (by decide) rfl (hts _ (by decide +kernel)) rfl dX0_keepsParent_1 ?_
  refine lv_iload_n hx hb dX0_keepsParent_4 rfl (lv_at hl 1 rfl) ?_
  refine rm_iald C hw (by decide) hn dX0_keepsParent_5 ?_
  refine lv_istore_n (lv' := [(3, .int (σ 11 n)), (0, .ref (a 0)), (1, .int (nI n)), (2, .int (nI o))]) hx hb dX0_keepsParent_6 rfl hl (by decide) rfl (fun ls hl => ?_)
  refine lv_iload_n hx hb dX0_keepsParent_7 rfl (lv_at hl 0 rfl) ?_
  refine rm_callSI C hw (As := [.int (σ 11 n)]) (rest := []) (kX0_isNode l (σ 11 n)) (va_cwS 1 hts gX0_keepsParent_X0_isNode rfl rfl rfl (by decide +kernel) ⟨Nat.le_of_ble_eq_true rfl, Nat.le_of_ble_eq_true rfl⟩) rfl hl.1 rfl (lv_room (Nat.le_of_ble_eq_true rfl)) dX0_keepsParent_8 ⟨Nat.zero_le _, Nat.zero_le _⟩ (fun H locs hw => ?_)
  refine rm_ifeq (tgt := 23) hx hb dX0_keepsParent_11 (by decide) (fun c_11 => ?_) (fun c_11 => ?_)
  · skip
    refine lv_iconst (v := 0) hx hb dX0_keepsParent_23 (by decide) ?_
    exact rm_zret C hr hlocks hw (by decide) dX0_keepsParent_24 ⟨by first | with_reducible rfl | (simp only [rm_keeps, c_11, ↓reduceIte, Bool.false_eq_true]; done) | (simp only [rm_keeps, c_11, ↓reduceIte, Bool.false_eq_true]; rfl) | rfl, by first | with_reducible rfl | (simp only [rm_keeps, c_11, ↓reduceIte, Bool.false_eq_true]; done) | (simp only [rm_keeps, c_11, ↓reduceIte, Bool.false_eq_true]; rfl) | rfl⟩
  · skip
    obtain ⟨o1, ho1, eo1⟩ := isNd_of c_11
    rw [eo1] at hl
    refine lv_aload_n hx hb dX0_keepsParent_14 rfl (lv_at hl 1 rfl) ?_
    refine lv_iload_n hx hb dX0_keepsParent_15 rfl (lv_at hl 2 rfl) ?_
    refine lv_iload_n hx hb dX0_keepsParent_16 rfl (lv_at hl 0 rfl) ?_
    refine rm_callI C hw hA (As := [.int (nI n), .int (nI o1)]) (rest := []) (kX0_isCandidate l k a ha σ n o1 hn ho1) (cwV 2 hts gX0_keepsParent_X0_isCandidate rfl rfl rfl (by decide +kernel) ⟨Nat.le_of_ble_eq_true rfl, Nat.le_of_ble_eq_true rfl⟩) rfl hl.1 rfl (lv_room (Nat.le_of_ble_eq_true rfl)) dX0_keepsParent_17 ⟨Nat.zero_le _, Nat.zero_le _⟩ (fun H locs hw => ?_)
    refine rm_ifne (tgt := 25) hx hb dX0_keepsParent_20 (by decide) (fun c_20 => ?_) (fun c_20 => ?_)
    · skip
      refine lv_aload_n hx hb dX0_keepsParent_25 rfl (lv_at hl 1 rfl) ?_
      refine lv_iload_n hx hb dX0_keepsParent_26 rfl (lv_at hl 2 rfl) ?_
      refine lv_iload_n hx hb dX0_keepsParent_27 rfl (lv_at hl 0 rfl) ?_
      refine rm_callI C hw hA (As := [.int (nI n), .int (nI o1)]) (rest := []) (kX0_rankBy l k a ha σ n o1 hn ho1) (cwV 2 hts gX0_keepsParent_X0_rankBy rfl rfl rfl (by decide +kernel) ⟨Nat.le_of_ble_eq_true rfl, Nat.le_of_ble_eq_true rfl⟩) rfl hl.1 rfl (lv_room (Nat.le_of_ble_eq_true rfl)) dX0_keepsParent_28 ⟨Nat.zero_le _, Nat.zero_le _⟩ (fun H locs hw => ?_)
      refine lv_aload_n hx hb dX0_keepsParent_31 rfl (lv_at hl 1 rfl) ?_
      refine lv_iload_n hx hb dX0_keepsParent_32 rfl (lv_at hl 2 rfl) ?_
      refine lv_iload_n hx hb dX0_keepsParent_33 rfl (lv_at hl 3 rfl) ?_
      refine rm_callI C hw hA (As := [.int (nI n), .int (nI o)]) (rest := [.int (rm_rankBy σ n o1)]) (kX0_rankBy l k a ha σ n o hn ho) (cwV 2 hts gX0_keepsParent_X0_rankBy rfl rfl rfl (by decide +kernel) ⟨Nat.le_of_ble_eq_true rfl, Nat.le_of_ble_eq_true rfl⟩) rfl hl.1 rfl (lv_room (Nat.le_of_ble_eq_true rfl)) dX0_keepsParent_34 ⟨Nat.zero_le _, Nat.zero_le _⟩ (fun H locs hw => ?_)
      refine lv_isub hx hb dX0_keepsParent_37 ?_
      refine lv_istore (lv' := [(4, .int ((rm_rankBy σ n o1) - (rm_rankBy σ n o))), (3, .int (nI o1)), (0, .ref (a 0)), (1, .int (nI n)), (2, .int (nI o))]) hx hb dX0_keepsParent_38 hl (by decide) rfl (fun ls hl => ?_)
      refine lv_iload hx hb dX0_keepsParent_40 (lv_at hl 0 rfl) ?_
      refine lv_aload_n hx hb dX0_keepsParent_42 rfl (lv_at hl 2 rfl) ?_
      refine rm_geti C hw 0 (by decide) (hts _ (by decide +kernel)) rfl dX0_keepsParent_43 ?_
      refine lv_icmp_lt (tgt := 55) hx hb dX0_keepsParent_46 (by decide) (fun c_46 => ?_) (fun c_46 => ?_)
      · skip
        refine lv_iconst (v := 1) hx hb dX0_keepsParent_55 (by decide) ?_
        refine lv_goto (tgt := 60) hx hb dX0_keepsParent_56 (by decide) ?_
        exact rm_zret C hr hlocks hw (by decide) dX0_keepsParent_60 ⟨by first | with_reducible rfl | (simp only [rm_keeps, eo1, rm_cl ho1, isNd_nI ho1, c_20, if_pos c_46, ↓reduceIte, Bool.false_eq_true]; done) | (simp only [rm_keeps, eo1, rm_cl ho1, isNd_nI ho1, c_20, if_pos c_46, ↓reduceIte, Bool.false_eq_true]; rfl) | rfl, by first | with_reducible rfl | (simp only [rm_keeps, eo1, rm_cl ho1, isNd_nI ho1, c_20, if_pos c_46, ↓reduceIte, Bool.false_eq_true]; done) | (simp only [rm_keeps, eo1, rm_cl ho1, isNd_nI ho1, c_20, if_pos c_46, ↓reduceIte, Bool.false_eq_true]; rfl) | rfl⟩
      · skip
        refine lv_iload hx hb dX0_keepsParent_49 (lv_at hl 0 rfl) ?_
        refine lv_iconst (v := 1) hx hb dX0_keepsParent_51 (by decide) ?_
        refine lv_icmp_ge (tgt := 59) hx hb dX0_keepsParent_52 (by decide) (fun c_52 => ?_) (fun c_52 => ?_)
        · skip
          refine lv_iconst (v := 0) hx hb dX0_keepsParent_59 (by decide) ?_
          exact rm_zret C hr hlocks hw (by decide) dX0_keepsParent_60 ⟨by first | with_reducible rfl | (simp only [rm_keeps, eo1, rm_cl ho1, isNd_nI ho1, c_20, if_neg c_46, if_pos c_52, ↓reduceIte, Bool.false_eq_true]; done) | (simp only [rm_keeps, eo1, rm_cl ho1, isNd_nI ho1, c_20, if_neg c_46, if_pos c_52, ↓reduceIte, Bool.false_eq_true]; rfl) | rfl, by first | with_reducible rfl | (simp only [rm_keeps, eo1, rm_cl ho1, isNd_nI ho1, c_20, if_neg c_46, if_pos c_52, ↓reduceIte, Bool.false_eq_true]; done) | (simp only [rm_keeps, eo1, rm_cl ho1, isNd_nI ho1, c_20, if_neg c_46, if_pos c_52, ↓reduceIte, Bool.false_eq_true]; rfl) | rfl⟩
        · skip
          refine lv_iconst (v := 1) hx hb dX0_keepsParent_55 (by decide) ?_
          refine lv_goto (tgt := 60) hx hb dX0_keepsParent_56 (by decide) ?_
          exact rm_zret C hr hlocks hw (by decide) dX0_keepsParent_60 ⟨by first | with_reducible rfl | (simp only [rm_keeps, eo1, rm_cl ho1, isNd_nI ho1, c_20, if_neg c_46, if_neg c_52, ↓reduceIte, Bool.false_eq_true]; done) | (simp only [rm_keeps, eo1, rm_cl ho1, isNd_nI ho1, c_20, if_neg c_46, if_neg c_52, ↓reduceIte, Bool.false_eq_true]; rfl) | rfl, by first | with_reducible rfl | (simp only [rm_keeps, eo1, rm_cl ho1, isNd_nI ho1, c_20, if_neg c_46, if_neg c_52, ↓reduceIte, Bool.false_eq_true]; done) | (simp only [rm_keeps, eo1, rm_cl ho1, isNd_nI ho1, c_20, if_neg c_46, if_neg c_52, ↓reduceIte, Bool.false_eq_true]; rfl) | rfl⟩
    · skip
      refine lv_iconst (v := 0) hx hb dX0_keepsParent_23 (by decide) ?_
      exact rm_zret C hr hlocks hw (by decide) dX0_keepsParent_24 ⟨by first | with_reducible rfl | (simp only [rm_keeps, eo1, rm_cl ho1, isNd_nI ho1, c_20, ↓reduceIte, Bool.false_eq_true]; done) | (simp only [rm_keeps, eo1, rm_cl ho1, isNd_nI ho1, c_20, ↓reduceIte, Bool.false_eq_true]; rfl) | rfl, by first | with_reducible rfl | (simp only [rm_keeps, eo1, rm_cl ho1, isNd_nI ho1, c_20, ↓reduceIte, Bool.false_eq_true]; done) | (simp only [rm_keeps, eo1, rm_cl ho1, isNd_nI ho1, c_20, ↓reduceIte, Bool.false_eq_true]; rfl) | rfl⟩
set_option maxHeartbeats 4000000 in
set_option maxRecDepth 100000 in
theorem kX0_follow (l : Launch) (k : rm_K) (a : Nat → Nat) (ha : rm_inj a) (σ : rm_St) (n : Nat) (o : Nat) (hn : n < 10) (ho : o < 10) : rm_MV l k a yX0_follow wsX0_follow ({ frames := 1, cells := 0, slots := 0, locals := 30 }) [.int (nI n), .int (nI o)] σ  (rm_follow σ n o) := by
  refine rm_enterV (cc := cX0_follow) (nL := 6) (ret := none) ha (by decide) rfl rfl (by decide +kernel) (Nat.le_of_ble_eq_true rfl) ?_
  intro p e s m args below meth c ls C hr hlocks hw hl
  have hx := C.1.1
  have hb := C.1.2.1
  have hts := C.1.2.2.2.2
  have hA : ∀ q, s.heap.size ≤ q → rm_A a s.heap.size q := fun q h => Or.inr h
  replace hl : lv_has ls 6 [(0, .ref (a 0)), (1, .int (nI n)), (2, .int (nI o))] := hl
  refine lv_aload_n hx hb dX0_follow_0 rfl (lv_at hl 0 rfl) ?_
  refine lv_iload_n hx hb dX0_follow_1 rfl (lv_at hl 1 rfl) ?_
  refine lv_iload_n hx hb dX0_follow_2 rfl (lv_at hl 2 rfl) ?_
  refine rm_callI C hw hA (As := [.int (nI n), .int (nI o)]) (rest := []) (kX0_rankBy l k a ha σ n o hn ho) (cwV 2 hts gX0_follow_X0_rankBy rfl rfl rfl (by decide +kernel) ⟨Nat.le_of_ble_eq_true rfl, Nat.le_of_ble_eq_true rfl⟩) rfl hl.1 rfl (lv_room (Nat.le_of_ble_eq_true rfl)) dX0_follow_3 ⟨Nat.zero_le _, Nat.zero_le _⟩ (fun H locs hw => ?_)
  refine lv_istore_n (lv' := [(3, .int (rm_rankBy σ n o)), (0, .ref (a 0)), (1, .int (nI n)), (2, .int (nI o))]) hx hb dX0_follow_6 rfl hl (by decide) rfl (fun ls hl => ?_)
  refine lv_aload_n hx hb dX0_follow_7 rfl (lv_at hl 1 rfl) ?_
  refine lv_iload_n hx hb dX0_follow_8 rfl (lv_at hl 2 rfl) ?_
  refine lv_iload_n hx hb dX0_follow_9 rfl (lv_at hl 3 rfl) ?_
  refine rm_callI C hw hA (As := [.int (nI n), .int (nI o)]) (rest := []) (kX0_heardOwnVersion l k a ha σ n o hn ho) (cwV 2 hts gX0_follow_X0_heardOwnVersion rfl rfl rfl (by decide +kernel) ⟨Nat.le_of_ble_eq_true rfl, Nat.le_of_ble_eq_true rfl⟩) rfl hl.1 rfl (lv_room (Nat.le_of_ble_eq_true rfl)) dX0_follow_10 ⟨Nat.zero_le _, Nat.zero_le _⟩ (fun H locs hw => ?_)
  refine lv_istore (lv' := [(4, .int (bI (rm_own σ n o))), (3, .int (rm_rankBy σ n o)), (0, .ref (a 0)), (1, .int (nI n)), (2, .int (nI o))]) hx hb dX0_follow_13 hl (by decide) rfl (fun ls hl => ?_)
  refine lv_iload hx hb dX0_follow_15 (lv_at hl 0 rfl) ?_
  refine rm_ifeq (tgt := 44) hx hb dX0_follow_17 (by decide) (fun c_17 => ?_) (fun c_17 => ?_)
  · skip
    refine lv_iconst (v := 0) hx hb dX0_follow_44 (by decide) ?_
    refine lv_istore (lv' := [(5, .int 0), (4, .int (bI (rm_own σ n o))), (3, .int (rm_rankBy σ n o)), (0, .ref (a 0)), (1, .int (nI n)), (2, .int (nI o))]) hx hb dX0_follow_45 hl (by decide) rfl (fun ls hl => ?_)
    refine lv_aload_n hx hb dX0_follow_47 rfl (lv_at hl 3 rfl) ?_
    refine rm_geta C hw 15 10 (by decide) rfl (hts _ (by decide +kernel)) rfl dX0_follow_48 ?_
    refine lv_iload_n hx hb dX0_follow_51 rfl (lv_at hl 4 rfl) ?_
    refine lv_iload hx hb dX0_follow_52 (lv_at hl 1 rfl) ?_
    refine rm_ifeq (tgt := 70) hx hb dX0_follow_54 (by decide) (fun c_54x => ?_) (fun c_54x => ?_)
    · skip
      refine lv_iload_n hx hb dX0_follow_70 rfl (lv_at hl 2 rfl) ?_
      refine rm_iast C hw (by decide) hn dX0_follow_71 (fun H locs hw => ?_)
      refine lv_aload_n hx hb dX0_follow_72 rfl (lv_at hl 3 rfl) ?_
      refine rm_geta C hw 12 7 (by decide) rfl (hts _ (by decide +kernel)) rfl dX0_follow_73 ?_
      refine lv_iload_n hx hb dX0_follow_76 rfl (lv_at hl 4 rfl) ?_
      refine lv_aload_n hx hb dX0_follow_77 rfl (lv_at hl 3 rfl) ?_
      refine rm_geta C hw 7 2 (by decide) rfl (hts _ (by decide +kernel)) rfl dX0_follow_78 ?_
      refine lv_iload_n hx hb dX0_follow_81 rfl (lv_at hl 4 rfl) ?_
      refine rm_aald C hw 25 (by decide) hn dX0_follow_82 ?_
      refine lv_iload_n hx hb dX0_follow_83 rfl (lv_at hl 5 rfl) ?_
      refine rm_iald C hw ⟨by omega, by omega⟩ ho dX0_follow_84 ?_
      refine rm_iast C hw (by decide) hn dX0_follow_85 (fun H locs hw => ?_)
      refine lv_aload_n hx hb dX0_follow_86 rfl (lv_at hl 3 rfl) ?_
      refine rm_geta C hw 13 8 (by decide) rfl (hts _ (by decide +kernel)) rfl dX0_follow_87 ?_
      refine lv_iload_n hx hb dX0_follow_90 rfl (lv_at hl 4 rfl) ?_
      refine lv_aload_n hx hb dX0_follow_91 rfl (lv_at hl 3 rfl) ?_
      refine rm_geta C hw 8 3 (by decide) rfl (hts _ (by decide +kernel)) rfl dX0_follow_92 ?_
      refine lv_iload_n hx hb dX0_follow_95 rfl (lv_at hl 4 rfl) ?_
      refine rm_aald C hw 35 (by decide) hn dX0_follow_96 ?_
      refine lv_iload_n hx hb dX0_follow_97 rfl (lv_at hl 5 rfl) ?_
      refine rm_iald C hw ⟨by omega, by omega⟩ ho dX0_follow_98 ?_
      refine rm_iast C hw (by decide) hn dX0_follow_99 (fun H locs hw => ?_)
      refine lv_aload_n hx hb dX0_follow_100 rfl (lv_at hl 3 rfl) ?_
      refine rm_geta C hw 14 9 (by decide) rfl (hts _ (by decide +kernel)) rfl dX0_follow_101 ?_
      refine lv_iload_n hx hb dX0_follow_104 rfl (lv_at hl 4 rfl) ?_
      refine lv_iload_n hx hb dX0_follow_105 rfl (lv_at hl 2 rfl) ?_
      refine rm_iast C hw (by decide) hn dX0_follow_106 (fun H locs hw => ?_)
      refine lv_aload_n hx hb dX0_follow_107 rfl (lv_at hl 3 rfl) ?_
      refine rm_geta C hw 16 11 (by decide) rfl (hts _ (by decide +kernel)) rfl dX0_follow_108 ?_
      refine lv_iload_n hx hb dX0_follow_111 rfl (lv_at hl 4 rfl) ?_
      refine lv_iload_n hx hb dX0_follow_112 rfl (lv_at hl 5 rfl) ?_
      refine rm_iast C hw (by decide) hn dX0_follow_113 (fun H locs hw => ?_)
      refine lv_iload hx hb dX0_follow_114 (lv_at hl 0 rfl) ?_
      refine lv_if_ne (tgt := 124) hx hb dX0_follow_116 (by decide) (fun c_116 => ?_) (fun c_116 => ?_)
      · exact absurd rfl c_116
      · skip
        refine lv_aload_n hx hb dX0_follow_119 rfl (lv_at hl 3 rfl) ?_
        refine lv_iload_n hx hb dX0_follow_120 rfl (lv_at hl 4 rfl) ?_
        refine rm_callV C hw hA (As := [.int (nI n)]) (rest := []) (kX0_resetTimer l k a ha (rm_up (rm_up (rm_up (rm_up (rm_up σ 10 n (rm_rankBy σ n o)) 7 n ((rm_up σ 10 n (rm_rankBy σ n o)) (25 + n) o)) 8 n ((rm_up (rm_up σ 10 n (rm_rankBy σ n o)) 7 n ((rm_up σ 10 n (rm_rankBy σ n o)) (25 + n) o)) (35 + n) o)) 9 n (rm_rankBy σ n o)) 11 n (nI o)) n hn) (cwV 1 hts gX0_follow_X0_resetTimer rfl rfl rfl (by decide +kernel) ⟨Nat.le_of_ble_eq_true rfl, Nat.le_of_ble_eq_true rfl⟩) rfl hl.1 rfl (lv_room (Nat.le_of_ble_eq_true rfl)) dX0_follow_121 ⟨Nat.zero_le _, Nat.zero_le _⟩ (fun H locs hw => ?_)
        exact rm_vret C hr hlocks hw dX0_follow_124 (by first | with_reducible rfl | (simp only [rm_follow, rm_fol, c_17, ↓reduceIte, Bool.false_eq_true]; done) | (simp only [rm_follow, rm_fol, c_17, ↓reduceIte, Bool.false_eq_true]; rfl) | rfl)
    · exact Bool.noConfusion (c_17.symm.trans c_54x)
  · skip
    refine lv_iload_n hx hb dX0_follow_20 rfl (lv_at hl 1 rfl) ?_
    refine lv_aload_n hx hb dX0_follow_21 rfl (lv_at hl 2 rfl) ?_
    refine rm_geta C hw 14 9 (by decide) rfl (hts _ (by decide +kernel)) rfl dX0_follow_22 ?_
    refine lv_iload_n hx hb dX0_follow_25 rfl (lv_at hl 3 rfl) ?_
    refine rm_iald C hw (by decide) hn dX0_follow_26 ?_
    refine lv_icmp_ne (tgt := 44) hx hb dX0_follow_27 (by decide) (fun c_27 => ?_) (fun c_27 => ?_)
    · skip
      refine lv_iconst (v := 0) hx hb dX0_follow_44 (by decide) ?_
      refine lv_istore (lv' := [(5, .int 0), (4, .int (bI (rm_own σ n o))), (3, .int (rm_rankBy σ n o)), (0, .ref (a 0)), (1, .int (nI n)), (2, .int (nI o))]) hx hb dX0_follow_45 hl (by decide) rfl (fun ls hl => ?_)
      refine lv_aload_n hx hb dX0_follow_47 rfl (lv_at hl 3 rfl) ?_
      refine rm_geta C hw 15 10 (by decide) rfl (hts _ (by decide +kernel)) rfl dX0_follow_48 ?_
      refine lv_iload_n hx hb dX0_follow_51 rfl (lv_at hl 4 rfl) ?_
      refine lv_iload hx hb dX0_follow_52 (lv_at hl 1 rfl) ?_
      refine rm_ifeq (tgt := 70) hx hb dX0_follow_54 (by decide) (fun c_54x => ?_) (fun c_54x => ?_)
      · exact Bool.noConfusion (c_17.symm.trans c_54x)
      · skip
        refine lv_iload_n hx hb dX0_follow_57 rfl (lv_at hl 2 rfl) ?_
        refine lv_aload_n hx hb dX0_follow_58 rfl (lv_at hl 3 rfl) ?_
        refine rm_geta C hw 15 10 (by decide) rfl (hts _ (by decide +kernel)) rfl dX0_follow_59 ?_
        refine lv_iload_n hx hb dX0_follow_62 rfl (lv_at hl 4 rfl) ?_
        refine rm_iald C hw (by decide) hn dX0_follow_63 ?_
        refine va_mmin hx hb (C.1.2.2.1.trans hl.1.symm) C.1.2.2.2.1 (hts (.methodLink RX0 141 Lib.Math.min.name) (by decide +kernel)) (hts (.static Lib.Math.min.name) (by decide +kernel)) (hts (.initialized "java/lang/Math") (by decide +kernel)) (hts (.code Lib.Math.min.name Lib.Math.min.code 2 (some .int)) (by decide +kernel)) (Nat.le_of_ble_eq_true rfl) (Nat.le_of_ble_eq_true rfl) (Nat.le_of_ble_eq_true rfl) (Nat.le_of_ble_eq_true rfl) dX0_follow_64 ?_
        refine lv_goto (tgt := 71) hx hb dX0_follow_67 (by decide) ?_
        refine rm_iast C hw (by decide) hn dX0_follow_71 (fun H locs hw => ?_)
        refine lv_aload_n hx hb dX0_follow_72 rfl (lv_at hl 3 rfl) ?_
        refine rm_geta C hw 12 7 (by decide) rfl (hts _ (by decide +kernel)) rfl dX0_follow_73 ?_
        refine lv_iload_n hx hb dX0_follow_76 rfl (lv_at hl 4 rfl) ?_
        refine lv_aload_n hx hb dX0_follow_77 rfl (lv_at hl 3 rfl) ?_
        refine rm_geta C hw 7 2 (by decide) rfl (hts _ (by decide +kernel)) rfl dX0_follow_78 ?_
        refine lv_iload_n hx hb dX0_follow_81 rfl (lv_at hl 4 rfl) ?_
        refine rm_aald C hw 25 (by decide) hn dX0_follow_82 ?_
        refine lv_iload_n hx hb dX0_follow_83 rfl (lv_at hl 5 rfl) ?_
        refine rm_iald C hw ⟨by omega, by omega⟩ ho dX0_follow_84 ?_
        refine rm_iast C hw (by decide) hn dX0_follow_85 (fun H locs hw => ?_)
        refine lv_aload_n hx hb dX0_follow_86 rfl (lv_at hl 3 rfl) ?_
        refine rm_geta C hw 13 8 (by decide) rfl (hts _ (by decide +kernel)) rfl dX0_follow_87 ?_
        refine lv_iload_n hx hb dX0_follow_90 rfl (lv_at hl 4 rfl) ?_
        refine lv_aload_n hx hb dX0_follow_91 rfl (lv_at hl 3 rfl) ?_
        refine rm_geta C hw 8 3 (by decide) rfl (hts _ (by decide +kernel)) rfl dX0_follow_92 ?_
        refine lv_iload_n hx hb dX0_follow_95 rfl (lv_at hl 4 rfl) ?_
        refine rm_aald C hw 35 (by decide) hn dX0_follow_96 ?_
        refine lv_iload_n hx hb dX0_follow_97 rfl (lv_at hl 5 rfl) ?_
        refine rm_iald C hw ⟨by omega, by omega⟩ ho dX0_follow_98 ?_
        refine rm_iast C hw (by decide) hn dX0_follow_99 (fun H locs hw => ?_)
        refine lv_aload_n hx hb dX0_follow_100 rfl (lv_at hl 3 rfl) ?_
        refine rm_geta C hw 14 9 (by decide) rfl (hts _ (by decide +kernel)) rfl dX0_follow_101 ?_
        refine lv_iload_n hx hb dX0_follow_104 rfl (lv_at hl 4 rfl) ?_
        refine lv_iload_n hx hb dX0_follow_105 rfl (lv_at hl 2 rfl) ?_
        refine rm_iast C hw (by decide) hn dX0_follow_106 (fun H locs hw => ?_)
        refine lv_aload_n hx hb dX0_follow_107 rfl (lv_at hl 3 rfl) ?_
        refine rm_geta C hw 16 11 (by decide) rfl (hts _ (by decide +kernel)) rfl dX0_follow_108 ?_
        refine lv_iload_n hx hb dX0_follow_111 rfl (lv_at hl 4 rfl) ?_
        refine lv_iload_n hx hb dX0_follow_112 rfl (lv_at hl 5 rfl) ?_
        refine rm_iast C hw (by decide) hn dX0_follow_113 (fun H locs hw => ?_)
        refine lv_iload hx hb dX0_follow_114 (lv_at hl 0 rfl) ?_
        refine lv_if_ne (tgt := 124) hx hb dX0_follow_116 (by decide) (fun c_116 => ?_) (fun c_116 => ?_)
        · exact absurd rfl c_116
        · skip
          refine lv_aload_n hx hb dX0_follow_119 rfl (lv_at hl 3 rfl) ?_
          refine lv_iload_n hx hb dX0_follow_120 rfl (lv_at hl 4 rfl) ?_
          refine rm_callV C hw hA (As := [.int (nI n)]) (rest := []) (kX0_resetTimer l k a ha (rm_up (rm_up (rm_up (rm_up (rm_up σ 10 n (rm_mn (rm_rankBy σ n o) (σ 10 n))) 7 n ((rm_up σ 10 n (rm_mn (rm_rankBy σ n o) (σ 10 n))) (25 + n) o)) 8 n ((rm_up (rm_up σ 10 n (rm_mn (rm_rankBy σ n o) (σ 10 n))) 7 n ((rm_up σ 10 n (rm_mn (rm_rankBy σ n o) (σ 10 n))) (25 + n) o)) (35 + n) o)) 9 n (rm_rankBy σ n o)) 11 n (nI o)) n hn) (cwV 1 hts gX0_follow_X0_resetTimer rfl rfl rfl (by decide +kernel) ⟨Nat.le_of_ble_eq_true rfl, Nat.le_of_ble_eq_true rfl⟩) rfl hl.1 rfl (lv_room (Nat.le_of_ble_eq_true rfl)) dX0_follow_121 ⟨Nat.zero_le _, Nat.zero_le _⟩ (fun H locs hw => ?_)
          exact rm_vret C hr hlocks hw dX0_follow_124 (by first | with_reducible rfl | (simp only [rm_follow, rm_fol, c_17, if_neg c_27, ↓reduceIte, Bool.false_eq_true]; done) | (simp only [rm_follow, rm_fol, c_17, if_neg c_27, ↓reduceIte, Bool.false_eq_true]; rfl) | rfl)
    · skip
      refine lv_iload_n hx hb dX0_follow_30 rfl (lv_at hl 4 rfl) ?_
      refine lv_aload_n hx hb dX0_follow_31 rfl (lv_at hl 2 rfl) ?_
      refine rm_geta C hw 16 11 (by decide) rfl (hts _ (by decide +kernel)) rfl dX0_follow_32 ?_
      refine lv_iload_n hx hb dX0_follow_35 rfl (lv_at hl 3 rfl) ?_
      refine rm_iald C hw (by decide) hn dX0_follow_36 ?_
      refine lv_icmp_ne (tgt := 44) hx hb dX0_follow_37 (by decide) (fun c_37 => ?_) (fun c_37 => ?_)
      · skip
        refine lv_iconst (v := 0) hx hb dX0_follow_44 (by decide) ?_
        refine lv_istore (lv' := [(5, .int 0), (4, .int (bI (rm_own σ n o))), (3, .int (rm_rankBy σ n o)), (0, .ref (a 0)), (1, .int (nI n)), (2, .int (nI o))]) hx hb dX0_follow_45 hl (by decide) rfl (fun ls hl => ?_)
        refine lv_aload_n hx hb dX0_follow_47 rfl (lv_at hl 3 rfl) ?_
        refine rm_geta C hw 15 10 (by decide) rfl (hts _ (by decide +kernel)) rfl dX0_follow_48 ?_
        refine lv_iload_n hx hb dX0_follow_51 rfl (lv_at hl 4 rfl) ?_
        refine lv_iload hx hb dX0_follow_52 (lv_at hl 1 rfl) ?_
        refine rm_ifeq (tgt := 70) hx hb dX0_follow_54 (by decide) (fun c_54x => ?_) (fun c_54x => ?_)
        · exact Bool.noConfusion (c_17.symm.trans c_54x)
        · skip
          refine lv_iload_n hx hb dX0_follow_57 rfl (lv_at hl 2 rfl) ?_
          refine lv_aload_n hx hb dX0_follow_58 rfl (lv_at hl 3 rfl) ?_
          refine rm_geta C hw 15 10 (by decide) rfl (hts _ (by decide +kernel)) rfl dX0_follow_59 ?_
          refine lv_iload_n hx hb dX0_follow_62 rfl (lv_at hl 4 rfl) ?_
          refine rm_iald C hw (by decide) hn dX0_follow_63 ?_
          refine va_mmin hx hb (C.1.2.2.1.trans hl.1.symm) C.1.2.2.2.1 (hts (.methodLink RX0 141 Lib.Math.min.name) (by decide +kernel)) (hts (.static Lib.Math.min.name) (by decide +kernel)) (hts (.initialized "java/lang/Math") (by decide +kernel)) (hts (.code Lib.Math.min.name Lib.Math.min.code 2 (some .int)) (by decide +kernel)) (Nat.le_of_ble_eq_true rfl) (Nat.le_of_ble_eq_true rfl) (Nat.le_of_ble_eq_true rfl) (Nat.le_of_ble_eq_true rfl) dX0_follow_64 ?_
          refine lv_goto (tgt := 71) hx hb dX0_follow_67 (by decide) ?_
          refine rm_iast C hw (by decide) hn dX0_follow_71 (fun H locs hw => ?_)
          refine lv_aload_n hx hb dX0_follow_72 rfl (lv_at hl 3 rfl) ?_
          refine rm_geta C hw 12 7 (by decide) rfl (hts _ (by decide +kernel)) rfl dX0_follow_73 ?_
          refine lv_iload_n hx hb dX0_follow_76 rfl (lv_at hl 4 rfl) ?_
          refine lv_aload_n hx hb dX0_follow_77 rfl (lv_at hl 3 rfl) ?_
          refine rm_geta C hw 7 2 (by decide) rfl (hts _ (by decide +kernel)) rfl dX0_follow_78 ?_
          refine lv_iload_n hx hb dX0_follow_81 rfl (lv_at hl 4 rfl) ?_
          refine rm_aald C hw 25 (by decide) hn dX0_follow_82 ?_
          refine lv_iload_n hx hb dX0_follow_83 rfl (lv_at hl 5 rfl) ?_
          refine rm_iald C hw ⟨by omega, by omega⟩ ho dX0_follow_84 ?_
          refine rm_iast C hw (by decide) hn dX0_follow_85 (fun H locs hw => ?_)
          refine lv_aload_n hx hb dX0_follow_86 rfl (lv_at hl 3 rfl) ?_
          refine rm_geta C hw 13 8 (by decide) rfl (hts _ (by decide +kernel)) rfl dX0_follow_87 ?_
          refine lv_iload_n hx hb dX0_follow_90 rfl (lv_at hl 4 rfl) ?_
          refine lv_aload_n hx hb dX0_follow_91 rfl (lv_at hl 3 rfl) ?_
          refine rm_geta C hw 8 3 (by decide) rfl (hts _ (by decide +kernel)) rfl dX0_follow_92 ?_
          refine lv_iload_n hx hb dX0_follow_95 rfl (lv_at hl 4 rfl) ?_
          refine rm_aald C hw 35 (by decide) hn dX0_follow_96 ?_
          refine lv_iload_n hx hb dX0_follow_97 rfl (lv_at hl 5 rfl) ?_
          refine rm_iald C hw ⟨by omega, by omega⟩ ho dX0_follow_98 ?_
          refine rm_iast C hw (by decide) hn dX0_follow_99 (fun H locs hw => ?_)
          refine lv_aload_n hx hb dX0_follow_100 rfl (lv_at hl 3 rfl) ?_
          refine rm_geta C hw 14 9 (by decide) rfl (hts _ (by decide +kernel)) rfl dX0_follow_101 ?_
          refine lv_iload_n hx hb dX0_follow_104 rfl (lv_at hl 4 rfl) ?_
          refine lv_iload_n hx hb dX0_follow_105 rfl (lv_at hl 2 rfl) ?_
          refine rm_iast C hw (by decide) hn dX0_follow_106 (fun H locs hw => ?_)
          refine lv_aload_n hx hb dX0_follow_107 rfl (lv_at hl 3 rfl) ?_
          refine rm_geta C hw 16 11 (by decide) rfl (hts _ (by decide +kernel)) rfl dX0_follow_108 ?_
          refine lv_iload_n hx hb dX0_follow_111 rfl (lv_at hl 4 rfl) ?_
          refine lv_iload_n hx hb dX0_follow_112 rfl (lv_at hl 5 rfl) ?_
          refine rm_iast C hw (by decide) hn dX0_follow_113 (fun H locs hw => ?_)
          refine lv_iload hx hb dX0_follow_114 (lv_at hl 0 rfl) ?_
          refine lv_if_ne (tgt := 124) hx hb dX0_follow_116 (by decide) (fun c_116 => ?_) (fun c_116 => ?_)
          · exact absurd rfl c_116
          · skip
            refine lv_aload_n hx hb dX0_follow_119 rfl (lv_at hl 3 rfl) ?_
            refine lv_iload_n hx hb dX0_follow_120 rfl (lv_at hl 4 rfl) ?_
            refine rm_callV C hw hA (As := [.int (nI n)]) (rest := []) (kX0_resetTimer l k a ha (rm_up (rm_up (rm_up (rm_up (rm_up σ 10 n (rm_mn (rm_rankBy σ n o) (σ 10 n))) 7 n ((rm_up σ 10 n (rm_mn (rm_rankBy σ n o) (σ 10 n))) (25 + n) o)) 8 n ((rm_up (rm_up σ 10 n (rm_mn (rm_rankBy σ n o) (σ 10 n))) 7 n ((rm_up σ 10 n (rm_mn (rm_rankBy σ n o) (σ 10 n))) (25 + n) o)) (35 + n) o)) 9 n (rm_rankBy σ n o)) 11 n (nI o)) n hn) (cwV 1 hts gX0_follow_X0_resetTimer rfl rfl rfl (by decide +kernel) ⟨Nat.le_of_ble_eq_true rfl, Nat.le_of_ble_eq_true rfl⟩) rfl hl.1 rfl (lv_room (Nat.le_of_ble_eq_true rfl)) dX0_follow_121 ⟨Nat.zero_le _, Nat.zero_le _⟩ (fun H locs hw => ?_)
            exact rm_vret C hr hlocks hw dX0_follow_124 (by first | with_reducible rfl | (simp only [rm_follow, rm_fol, c_17, if_pos c_27, if_neg c_37, ↓reduceIte, Bool.false_eq_true]; done) | (simp only [rm_follow, rm_fol, c_17, if_pos c_27, if_neg c_37, ↓reduceIte, Bool.false_eq_true]; rfl) | rfl)
      · skip
        refine lv_iconst (v := 1) hx hb dX0_follow_40 (by decide) ?_
        refine lv_goto (tgt := 45) hx hb dX0_follow_41 (by decide) ?_
        refine lv_istore (lv' := [(5, .int 1), (4, .int (bI (rm_own σ n o))), (3, .int (rm_rankBy σ n o)), (0, .ref (a 0)), (1, .int (nI n)), (2, .int (nI o))]) hx hb dX0_follow_45 hl (by decide) rfl (fun ls hl => ?_)
        refine lv_aload_n hx hb dX0_follow_47 rfl (lv_at hl 3 rfl) ?_
        refine rm_geta C hw 15 10 (by decide) rfl (hts _ (by decide +kernel)) rfl dX0_follow_48 ?_
        refine lv_iload_n hx hb dX0_follow_51 rfl (lv_at hl 4 rfl) ?_
        refine lv_iload hx hb dX0_follow_52 (lv_at hl 1 rfl) ?_
        refine rm_ifeq (tgt := 70) hx hb dX0_follow_54 (by decide) (fun c_54x => ?_) (fun c_54x => ?_)
        · exact Bool.noConfusion (c_17.symm.trans c_54x)
        · skip
          refine lv_iload_n hx hb dX0_follow_57 rfl (lv_at hl 2 rfl) ?_
          refine lv_aload_n hx hb dX0_follow_58 rfl (lv_at hl 3 rfl) ?_
          refine rm_geta C hw 15 10 (by decide) rfl (hts _ (by decide +kernel)) rfl dX0_follow_59 ?_
          refine lv_iload_n hx hb dX0_follow_62 rfl (lv_at hl 4 rfl) ?_
          refine rm_iald C hw (by decide) hn dX0_follow_63 ?_
          refine va_mmin hx hb (C.1.2.2.1.trans hl.1.symm) C.1.2.2.2.1 (hts (.methodLink RX0 141 Lib.Math.min.name) (by decide +kernel)) (hts (.static Lib.Math.min.name) (by decide +kernel)) (hts (.initialized "java/lang/Math") (by decide +kernel)) (hts (.code Lib.Math.min.name Lib.Math.min.code 2 (some .int)) (by decide +kernel)) (Nat.le_of_ble_eq_true rfl) (Nat.le_of_ble_eq_true rfl) (Nat.le_of_ble_eq_true rfl) (Nat.le_of_ble_eq_true rfl) dX0_follow_64 ?_
          refine lv_goto (tgt := 71) hx hb dX0_follow_67 (by decide) ?_
          refine rm_iast C hw (by decide) hn dX0_follow_71 (fun H locs hw => ?_)
          refine lv_aload_n hx hb dX0_follow_72 rfl (lv_at hl 3 rfl) ?_
          refine rm_geta C hw 12 7 (by decide) rfl (hts _ (by decide +kernel)) rfl dX0_follow_73 ?_
          refine lv_iload_n hx hb dX0_follow_76 rfl (lv_at hl 4 rfl) ?_
          refine lv_aload_n hx hb dX0_follow_77 rfl (lv_at hl 3 rfl) ?_
          refine rm_geta C hw 7 2 (by decide) rfl (hts _ (by decide +kernel)) rfl dX0_follow_78 ?_
          refine lv_iload_n hx hb dX0_follow_81 rfl (lv_at hl 4 rfl) ?_
          refine rm_aald C hw 25 (by decide) hn dX0_follow_82 ?_
          refine lv_iload_n hx hb dX0_follow_83 rfl (lv_at hl 5 rfl) ?_
          refine rm_iald C hw ⟨by omega, by omega⟩ ho dX0_follow_84 ?_
          refine rm_iast C hw (by decide) hn dX0_follow_85 (fun H locs hw => ?_)
          refine lv_aload_n hx hb dX0_follow_86 rfl (lv_at hl 3 rfl) ?_
          refine rm_geta C hw 13 8 (by decide) rfl (hts _ (by decide +kernel)) rfl dX0_follow_87 ?_
          refine lv_iload_n hx hb dX0_follow_90 rfl (lv_at hl 4 rfl) ?_
          refine lv_aload_n hx hb dX0_follow_91 rfl (lv_at hl 3 rfl) ?_
          refine rm_geta C hw 8 3 (by decide) rfl (hts _ (by decide +kernel)) rfl dX0_follow_92 ?_
          refine lv_iload_n hx hb dX0_follow_95 rfl (lv_at hl 4 rfl) ?_
          refine rm_aald C hw 35 (by decide) hn dX0_follow_96 ?_
          refine lv_iload_n hx hb dX0_follow_97 rfl (lv_at hl 5 rfl) ?_
          refine rm_iald C hw ⟨by omega, by omega⟩ ho dX0_follow_98 ?_
          refine rm_iast C hw (by decide) hn dX0_follow_99 (fun H locs hw => ?_)
          refine lv_aload_n hx hb dX0_follow_100 rfl (lv_at hl 3 rfl) ?_
          refine rm_geta C hw 14 9 (by decide) rfl (hts _ (by decide +kernel)) rfl dX0_follow_101 ?_
          refine lv_iload_n hx hb dX0_follow_104 rfl (lv_at hl 4 rfl) ?_
          refine lv_iload_n hx hb dX0_follow_105 rfl (lv_at hl 2 rfl) ?_
          refine rm_iast C hw (by decide) hn dX0_follow_106 (fun H locs hw => ?_)
          refine lv_aload_n hx hb dX0_follow_107 rfl (lv_at hl 3 rfl) ?_
          refine rm_geta C hw 16 11 (by decide) rfl (hts _ (by decide +kernel)) rfl dX0_follow_108 ?_
          refine lv_iload_n hx hb dX0_follow_111 rfl (lv_at hl 4 rfl) ?_
          refine lv_iload_n hx hb dX0_follow_112 rfl (lv_at hl 5 rfl) ?_
          refine rm_iast C hw (by decide) hn dX0_follow_113 (fun H locs hw => ?_)
          refine lv_iload hx hb dX0_follow_114 (lv_at hl 0 rfl) ?_
          refine lv_if_ne (tgt := 124) hx hb dX0_follow_116 (by decide) (fun c_116 => ?_) (fun c_116 => ?_)
          · skip
            exact rm_vret C hr hlocks hw dX0_follow_124 (by first | with_reducible rfl | (simp only [rm_follow, rm_fol, c_17, if_pos c_27, if_pos c_37, ↓reduceIte, Bool.false_eq_true]; done) | (simp only [rm_follow, rm_fol, c_17, if_pos c_27, if_pos c_37, ↓reduceIte, Bool.false_eq_true]; rfl) | rfl)
          · exact absurd c_116 (by decide)
set_option maxHeartbeats 4000000 in
set_option maxRecDepth 100000 in
theorem kX0_loseParent (l : Launch) (k : rm_K) (a : Nat → Nat) (ha : rm_inj a) (σ : rm_St) (n : Nat) (hn : n < 10) : rm_MV l k a yX0_loseParent wsX0_loseParent ({ frames := 1, cells := 0, slots := 0, locals := 21 }) [.int (nI n)] σ  (rm_lose σ n) := by
  refine rm_enterV (cc := cX0_loseParent) (nL := 3) (ret := none) ha (by decide) rfl rfl (by decide +kernel) (Nat.le_of_ble_eq_true rfl) ?_
  intro p e s m args below meth c ls C hr hlocks hw hl
  have hx := C.1.1
  have hb := C.1.2.1
  have hts := C.1.2.2.2.2
  have hA : ∀ q, s.heap.size ≤ q → rm_A a s.heap.size q := fun q h => Or.inr h
  replace hl : lv_has ls 3 [(0, .ref (a 0)), (1, .int (nI n))] := hl
  refine lv_aload_n hx hb dX0_loseParent_0 rfl (lv_at hl 0 rfl) ?_
  refine rm_geta C hw 14 9 (by decide) rfl (hts _ (by decide +kernel)) rfl dX0_loseParent_1 ?_
  refine lv_iload_n hx hb dX0_loseParent_4 rfl (lv_at hl 1 rfl) ?_
  refine rm_iald C hw (by decide) hn dX0_loseParent_5 ?_
  refine lv_sipush (v := 10000) hx hb dX0_loseParent_6 (by decide) ?_
  refine lv_icmp_ne (tgt := 26) hx hb dX0_loseParent_9 (by decide) (fun c_9 => ?_) (fun c_9 => ?_)
  · skip
    refine lv_iconst (v := 0) hx hb dX0_loseParent_26 (by decide) ?_
    refine lv_istore_n (lv' := [(2, .int 0), (0, .ref (a 0)), (1, .int (nI n))]) hx hb dX0_loseParent_27 rfl hl (by decide) rfl (fun ls hl => ?_)
    refine lv_aload_n hx hb dX0_loseParent_28 rfl (lv_at hl 1 rfl) ?_
    refine rm_geta C hw 14 9 (by decide) rfl (hts _ (by decide +kernel)) rfl dX0_loseParent_29 ?_
    refine lv_iload_n hx hb dX0_loseParent_32 rfl (lv_at hl 2 rfl) ?_
    refine lv_sipush (v := 10000) hx hb dX0_loseParent_33 (by decide) ?_
    refine rm_iast C hw (by decide) hn dX0_loseParent_36 (fun H locs hw => ?_)
    refine lv_aload_n hx hb dX0_loseParent_37 rfl (lv_at hl 1 rfl) ?_
    refine rm_geta C hw 16 11 (by decide) rfl (hts _ (by decide +kernel)) rfl dX0_loseParent_38 ?_
    refine lv_iload_n hx hb dX0_loseParent_41 rfl (lv_at hl 2 rfl) ?_
    refine lv_iconst (v := (-1)) hx hb dX0_loseParent_42 (by decide) ?_
    refine rm_iast C hw (by decide) hn dX0_loseParent_43 (fun H locs hw => ?_)
    refine lv_iload_n hx hb dX0_loseParent_44 rfl (lv_at hl 0 rfl) ?_
    refine lv_if_ne (tgt := 53) hx hb dX0_loseParent_45 (by decide) (fun c_45 => ?_) (fun c_45 => ?_)
    · exact absurd rfl c_45
    · skip
      refine lv_aload_n hx hb dX0_loseParent_48 rfl (lv_at hl 1 rfl) ?_
      refine lv_iload_n hx hb dX0_loseParent_49 rfl (lv_at hl 2 rfl) ?_
      refine rm_callV C hw hA (As := [.int (nI n)]) (rest := []) (kX0_resetTimer l k a ha (rm_up (rm_up σ 9 n (10000)) 11 n ((-1))) n hn) (cwV 1 hts gX0_loseParent_X0_resetTimer rfl rfl rfl (by decide +kernel) ⟨Nat.le_of_ble_eq_true rfl, Nat.le_of_ble_eq_true rfl⟩) rfl hl.1 rfl (lv_room (Nat.le_of_ble_eq_true rfl)) dX0_loseParent_50 ⟨Nat.zero_le _, Nat.zero_le _⟩ (fun H locs hw => ?_)
      exact rm_vret C hr hlocks hw dX0_loseParent_53 (by first | with_reducible rfl | (simp only [rm_lose, if_neg c_9, ↓reduceIte, Bool.false_eq_true]; done) | (simp only [rm_lose, if_neg c_9, ↓reduceIte, Bool.false_eq_true]; rfl) | rfl)
  · skip
    refine lv_aload_n hx hb dX0_loseParent_12 rfl (lv_at hl 0 rfl) ?_
    refine rm_geta C hw 16 11 (by decide) rfl (hts _ (by decide +kernel)) rfl dX0_loseParent_13 ?_
    refine lv_iload_n hx hb dX0_loseParent_16 rfl (lv_at hl 1 rfl) ?_
    refine rm_iald C hw (by decide) hn dX0_loseParent_17 ?_
    refine lv_iconst (v := (-1)) hx hb dX0_loseParent_18 (by decide) ?_
    refine lv_icmp_ne (tgt := 26) hx hb dX0_loseParent_19 (by decide) (fun c_19 => ?_) (fun c_19 => ?_)
    · skip
      refine lv_iconst (v := 0) hx hb dX0_loseParent_26 (by decide) ?_
      refine lv_istore_n (lv' := [(2, .int 0), (0, .ref (a 0)), (1, .int (nI n))]) hx hb dX0_loseParent_27 rfl hl (by decide) rfl (fun ls hl => ?_)
      refine lv_aload_n hx hb dX0_loseParent_28 rfl (lv_at hl 1 rfl) ?_
      refine rm_geta C hw 14 9 (by decide) rfl (hts _ (by decide +kernel)) rfl dX0_loseParent_29 ?_
      refine lv_iload_n hx hb dX0_loseParent_32 rfl (lv_at hl 2 rfl) ?_
      refine lv_sipush (v := 10000) hx hb dX0_loseParent_33 (by decide) ?_
      refine rm_iast C hw (by decide) hn dX0_loseParent_36 (fun H locs hw => ?_)
      refine lv_aload_n hx hb dX0_loseParent_37 rfl (lv_at hl 1 rfl) ?_
      refine rm_geta C hw 16 11 (by decide) rfl (hts _ (by decide +kernel)) rfl dX0_loseParent_38 ?_
      refine lv_iload_n hx hb dX0_loseParent_41 rfl (lv_at hl 2 rfl) ?_
      refine lv_iconst (v := (-1)) hx hb dX0_loseParent_42 (by decide) ?_
      refine rm_iast C hw (by decide) hn dX0_loseParent_43 (fun H locs hw => ?_)
      refine lv_iload_n hx hb dX0_loseParent_44 rfl (lv_at hl 0 rfl) ?_
      refine lv_if_ne (tgt := 53) hx hb dX0_loseParent_45 (by decide) (fun c_45 => ?_) (fun c_45 => ?_)
      · exact absurd rfl c_45
      · skip
        refine lv_aload_n hx hb dX0_loseParent_48 rfl (lv_at hl 1 rfl) ?_
        refine lv_iload_n hx hb dX0_loseParent_49 rfl (lv_at hl 2 rfl) ?_
        refine rm_callV C hw hA (As := [.int (nI n)]) (rest := []) (kX0_resetTimer l k a ha (rm_up (rm_up σ 9 n (10000)) 11 n ((-1))) n hn) (cwV 1 hts gX0_loseParent_X0_resetTimer rfl rfl rfl (by decide +kernel) ⟨Nat.le_of_ble_eq_true rfl, Nat.le_of_ble_eq_true rfl⟩) rfl hl.1 rfl (lv_room (Nat.le_of_ble_eq_true rfl)) dX0_loseParent_50 ⟨Nat.zero_le _, Nat.zero_le _⟩ (fun H locs hw => ?_)
        exact rm_vret C hr hlocks hw dX0_loseParent_53 (by first | with_reducible rfl | (simp only [rm_lose, if_pos c_9, if_neg c_19, ↓reduceIte, Bool.false_eq_true]; done) | (simp only [rm_lose, if_pos c_9, if_neg c_19, ↓reduceIte, Bool.false_eq_true]; rfl) | rfl)
    · skip
      refine lv_iconst (v := 1) hx hb dX0_loseParent_22 (by decide) ?_
      refine lv_goto (tgt := 27) hx hb dX0_loseParent_23 (by decide) ?_
      refine lv_istore_n (lv' := [(2, .int 1), (0, .ref (a 0)), (1, .int (nI n))]) hx hb dX0_loseParent_27 rfl hl (by decide) rfl (fun ls hl => ?_)
      refine lv_aload_n hx hb dX0_loseParent_28 rfl (lv_at hl 1 rfl) ?_
      refine rm_geta C hw 14 9 (by decide) rfl (hts _ (by decide +kernel)) rfl dX0_loseParent_29 ?_
      refine lv_iload_n hx hb dX0_loseParent_32 rfl (lv_at hl 2 rfl) ?_
      refine lv_sipush (v := 10000) hx hb dX0_loseParent_33 (by decide) ?_
      refine rm_iast C hw (by decide) hn dX0_loseParent_36 (fun H locs hw => ?_)
      refine lv_aload_n hx hb dX0_loseParent_37 rfl (lv_at hl 1 rfl) ?_
      refine rm_geta C hw 16 11 (by decide) rfl (hts _ (by decide +kernel)) rfl dX0_loseParent_38 ?_
      refine lv_iload_n hx hb dX0_loseParent_41 rfl (lv_at hl 2 rfl) ?_
      refine lv_iconst (v := (-1)) hx hb dX0_loseParent_42 (by decide) ?_
      refine rm_iast C hw (by decide) hn dX0_loseParent_43 (fun H locs hw => ?_)
      refine lv_iload_n hx hb dX0_loseParent_44 rfl (lv_at hl 0 rfl) ?_
      refine lv_if_ne (tgt := 53) hx hb dX0_loseParent_45 (by decide) (fun c_45 => ?_) (fun c_45 => ?_)
      · skip
        exact rm_vret C hr hlocks hw dX0_loseParent_53 (by first | with_reducible rfl | (simp only [rm_lose, if_pos c_9, if_pos c_19, ↓reduceIte, Bool.false_eq_true]; done) | (simp only [rm_lose, if_pos c_9, if_pos c_19, ↓reduceIte, Bool.false_eq_true]; rfl) | rfl)
      · exact absurd c_45 (by decide)
set_option maxHeartbeats 4000000 in
set_option maxRecDepth 100000 in
theorem kX0_choose (l : Launch) (k : rm_K) (a : Nat → Nat) (ha : rm_inj a) (σ : rm_St) (n : Nat) (hn : n < 10) : rm_MV l k a yX0_choose wsX0_choose ({ frames := 4, cells := 0, slots := 0, locals := 92 }) [.int (nI n)] σ  (rm_choose σ n) := by
  refine rm_enterV (cc := cX0_choose) (nL := 3) (ret := none) ha (by decide) rfl rfl (by decide +kernel) (Nat.le_of_ble_eq_true rfl) ?_
  intro p e s m args below meth c ls C hr hlocks hw hl
  have hx := C.1.1
  have hb := C.1.2.1
  have hts := C.1.2.2.2.2
  have hA : ∀ q, s.heap.size ≤ q → rm_A a s.heap.size q := fun q h => Or.inr h
  replace hl : lv_has ls 3 [(0, .ref (a 0)), (1, .int (nI n))] := hl
  refine lv_aload_n hx hb dX0_choose_0 rfl (lv_at hl 0 rfl) ?_
  refine rm_geta C hw 10 5 (by decide) rfl (hts _ (by decide +kernel)) rfl dX0_choose_1 ?_
  refine lv_iload_n hx hb dX0_choose_4 rfl (lv_at hl 1 rfl) ?_
  refine rm_zald C hw hn dX0_choose_5 ?_
  refine lv_if_eq (tgt := 10) hx hb dX0_choose_6 (by decide) (fun c_6 => ?_) (fun c_6 => ?_)
  · skip
    refine lv_aload_n hx hb dX0_choose_10 rfl (lv_at hl 0 rfl) ?_
    refine lv_iload_n hx hb dX0_choose_11 rfl (lv_at hl 1 rfl) ?_
    refine rm_callI C hw hA (As := [.int (nI n)]) (rest := []) (kX0_bestCandidate l k a ha σ n hn) (cwV 1 hts gX0_choose_X0_bestCandidate rfl rfl rfl (by decide +kernel) ⟨Nat.le_of_ble_eq_true rfl, Nat.le_of_ble_eq_true rfl⟩) rfl hl.1 rfl (lv_room (Nat.le_of_ble_eq_true rfl)) dX0_choose_12 ⟨Nat.zero_le _, Nat.zero_le _⟩ (fun H locs hw => ?_)
    refine lv_istore_n (lv' := [(2, .int (rm_best σ n)), (0, .ref (a 0)), (1, .int (nI n))]) hx hb dX0_choose_15 rfl hl (by decide) rfl (fun ls hl => ?_)
    refine lv_iload_n hx hb dX0_choose_16 rfl (lv_at hl 0 rfl) ?_
    refine rm_callSI C hw (As := [.int (rm_best σ n)]) (rest := []) (kX0_isNode l (rm_best σ n)) (va_cwS 1 hts gX0_choose_X0_isNode rfl rfl rfl (by decide +kernel) ⟨Nat.le_of_ble_eq_true rfl, Nat.le_of_ble_eq_true rfl⟩) rfl hl.1 rfl (lv_room (Nat.le_of_ble_eq_true rfl)) dX0_choose_17 ⟨Nat.zero_le _, Nat.zero_le _⟩ (fun H locs hw => ?_)
    refine rm_ifne (tgt := 31) hx hb dX0_choose_20 (by decide) (fun c_20 => ?_) (fun c_20 => ?_)
    · skip
      obtain ⟨o1, ho1, eo1⟩ := isNd_of c_20
      rw [eo1] at hl
      refine lv_aload_n hx hb dX0_choose_31 rfl (lv_at hl 1 rfl) ?_
      refine lv_iload_n hx hb dX0_choose_32 rfl (lv_at hl 2 rfl) ?_
      refine lv_iload_n hx hb dX0_choose_33 rfl (lv_at hl 0 rfl) ?_
      refine rm_callI C hw hA (As := [.int (nI n), .int (nI o1)]) (rest := []) (kX0_keepsParent l k a ha σ n o1 hn ho1) (cwV 2 hts gX0_choose_X0_keepsParent rfl rfl rfl (by decide +kernel) ⟨Nat.le_of_ble_eq_true rfl, Nat.le_of_ble_eq_true rfl⟩) rfl hl.1 rfl (lv_room (Nat.le_of_ble_eq_true rfl)) dX0_choose_34 ⟨Nat.zero_le _, Nat.zero_le _⟩ (fun H locs hw => ?_)
      refine rm_ifeq (tgt := 54) hx hb dX0_choose_37 (by decide) (fun c_37 => ?_) (fun c_37 => ?_)
      · skip
        refine lv_aload_n hx hb dX0_choose_54 rfl (lv_at hl 1 rfl) ?_
        refine lv_iload_n hx hb dX0_choose_55 rfl (lv_at hl 2 rfl) ?_
        refine lv_iload_n hx hb dX0_choose_56 rfl (lv_at hl 0 rfl) ?_
        refine rm_callV C hw hA (As := [.int (nI n), .int (nI o1)]) (rest := []) (kX0_follow l k a ha σ n o1 hn ho1) (cwV 2 hts gX0_choose_X0_follow rfl rfl rfl (by decide +kernel) ⟨Nat.le_of_ble_eq_true rfl, Nat.le_of_ble_eq_true rfl⟩) rfl hl.1 rfl (lv_room (Nat.le_of_ble_eq_true rfl)) dX0_choose_57 ⟨Nat.zero_le _, Nat.zero_le _⟩ (fun H locs hw => ?_)
        exact rm_vret C hr hlocks hw dX0_choose_60 (by first | with_reducible rfl | (simp only [rm_choose, if_pos c_6, eo1, rm_cl ho1, isNd_nI ho1, c_37, ↓reduceIte, Bool.false_eq_true]; done) | (simp only [rm_choose, if_pos c_6, eo1, rm_cl ho1, isNd_nI ho1, c_37, ↓reduceIte, Bool.false_eq_true]; rfl) | rfl)
      · skip
        obtain ⟨o2, ho2, eo2⟩ := isNd_of (rm_keeps_nd c_37)
        refine lv_aload_n hx hb dX0_choose_40 rfl (lv_at hl 1 rfl) ?_
        refine lv_iload_n hx hb dX0_choose_41 rfl (lv_at hl 2 rfl) ?_
        refine lv_aload_n hx hb dX0_choose_42 rfl (lv_at hl 1 rfl) ?_
        refine rm_geta C hw 16 11 (by decide) rfl (hts _ (by decide +kernel)) rfl dX0_choose_43 ?_
        refine lv_iload_n hx hb dX0_choose_46 rfl (lv_at hl 2 rfl) ?_
        refine rm_iald C hw (by decide) hn dX0_choose_47 ?_
        rw [eo2]
        refine rm_callV C hw hA (As := [.int (nI n), .int (nI o2)]) (rest := []) (kX0_follow l k a ha σ n o2 hn ho2) (cwV 2 hts gX0_choose_X0_follow rfl rfl rfl (by decide +kernel) ⟨Nat.le_of_ble_eq_true rfl, Nat.le_of_ble_eq_true rfl⟩) rfl hl.1 rfl (lv_room (Nat.le_of_ble_eq_true rfl)) dX0_choose_48 ⟨Nat.zero_le _, Nat.zero_le _⟩ (fun H locs hw => ?_)
        refine lv_goto (tgt := 60) hx hb dX0_choose_51 (by decide) ?_
        exact rm_vret C hr hlocks hw dX0_choose_60 (by first | with_reducible rfl | (simp only [rm_choose, if_pos c_6, eo1, rm_cl ho1, isNd_nI ho1, c_37, eo2, rm_cl ho2, ↓reduceIte, Bool.false_eq_true]; done) | (simp only [rm_choose, if_pos c_6, eo1, rm_cl ho1, isNd_nI ho1, c_37, eo2, rm_cl ho2, ↓reduceIte, Bool.false_eq_true]; rfl) | rfl)
    · skip
      refine lv_aload_n hx hb dX0_choose_23 rfl (lv_at hl 1 rfl) ?_
      refine lv_iload_n hx hb dX0_choose_24 rfl (lv_at hl 2 rfl) ?_
      refine rm_callV C hw hA (As := [.int (nI n)]) (rest := []) (kX0_loseParent l k a ha σ n hn) (cwV 1 hts gX0_choose_X0_loseParent rfl rfl rfl (by decide +kernel) ⟨Nat.le_of_ble_eq_true rfl, Nat.le_of_ble_eq_true rfl⟩) rfl hl.1 rfl (lv_room (Nat.le_of_ble_eq_true rfl)) dX0_choose_25 ⟨Nat.zero_le _, Nat.zero_le _⟩ (fun H locs hw => ?_)
      refine lv_goto (tgt := 60) hx hb dX0_choose_28 (by decide) ?_
      exact rm_vret C hr hlocks hw dX0_choose_60 (by first | with_reducible rfl | (simp only [rm_choose, if_pos c_6, c_20, ↓reduceIte, Bool.false_eq_true]; done) | (simp only [rm_choose, if_pos c_6, c_20, ↓reduceIte, Bool.false_eq_true]; rfl) | rfl)
  · skip
    exact rm_vret C hr hlocks hw dX0_choose_9 (by first | with_reducible rfl | (simp only [rm_choose, if_neg c_6, ↓reduceIte, Bool.false_eq_true]; done) | (simp only [rm_choose, if_neg c_6, ↓reduceIte, Bool.false_eq_true]; rfl) | rfl)
set_option maxHeartbeats 4000000 in
set_option maxRecDepth 100000 in
theorem kX0_tell (l : Launch) (k : rm_K) (a : Nat → Nat) (ha : rm_inj a) (σ : rm_St) (t : Nat) (ht : t < 10) : rm_MV l k a yX0_tell wsX0_tell ({ frames := 5, cells := 0, slots := 0, locals := 114 }) [.int (nI t)] σ  (rm_tell σ t) := by
  refine rm_enterV (cc := cX0_tell) (nL := 3) (ret := none) ha (by decide) rfl rfl (by decide +kernel) (Nat.le_of_ble_eq_true rfl) ?_
  intro p e s m args below meth c ls C hr hlocks hw hl
  have hx := C.1.1
  have hb := C.1.2.1
  have hts := C.1.2.2.2.2
  have hA : ∀ q, s.heap.size ≤ q → rm_A a s.heap.size q := fun q h => Or.inr h
  replace hl : lv_has ls 3 [(0, .ref (a 0)), (1, .int (nI t))] := hl
  refine lv_iconst (v := 0) hx hb dX0_tell_0 (by decide) ?_
  refine lv_istore_n (lv' := [(2, .int 0), (0, .ref (a 0)), (1, .int (nI t))]) hx hb dX0_tell_1 rfl hl (by decide) rfl (fun ls hl => ?_)
  have lp_2 : ∀ (r i : Nat), i + r = 10 → ∀ (τ2 : rm_St), rm_tellL t r i τ2 = rm_tell σ t → ∀ (H : Heap) (locs : List Loc), rm_Wd k a (rm_A a s.heap.size) s.heap s τ2 H locs → ∀ (ls : Array Slot), lv_has ls 3 [(0, .ref (a 0)), (1, .int (nI t)), (2, .int (nI i))] → W p l e (headSpec wsX0_tell ({ frames := 5, cells := 0, slots := 0, locals := 114 })).room s m args below meth c H locs 0 0 (MQ below (va_Qv (fun (τ : rm_St) => τ = (rm_tell σ t)) (fun τ t => rm_P k a τ t) (rm_A a s.heap.size)) args s 0 0 (rm_A a s.heap.size)) (F0 m 2 ls []) := by
    intro r
    induction r with
    | zero =>
      intro i hi2 τ2 ht2 H locs hw ls hl
      obtain rfl : i = 10 := by omega
      refine lv_iload_n hx hb dX0_tell_2 rfl (lv_at hl 2 rfl) ?_
      refine lv_bipush (v := 10) hx hb dX0_tell_3 (by decide) ?_
      refine lv_icmp_ge (tgt := 72) hx hb dX0_tell_5 (by decide) (fun c_5 => ?_) (fun c_5 => ?_)
      · skip
        exact rm_vret C hr hlocks hw dX0_tell_72 (by first | with_reducible rfl | exact ht2 | (rw [← ht2]; first | with_reducible rfl | (simp only [rm_tellL, rm_hear, ↓reduceIte, Bool.false_eq_true]; done) | (simp only [rm_tellL, rm_hear, ↓reduceIte, Bool.false_eq_true]; rfl) | rfl) | (first | with_reducible rfl | (simp only [rm_tell, ↓reduceIte, Bool.false_eq_true]; done) | (simp only [rm_tell, ↓reduceIte, Bool.false_eq_true]; rfl) | rfl))
      · exact absurd (show (10 : Int32) ≤ nI 10 from nI_le (a := 10) (b := 10) (Nat.le_refl _) (by decide)) c_5
    | succ r ih2 =>
      intro i hi2 τ2 ht2 H locs hw ls hl
      have hlt2 : i < 10 := by omega
      refine lv_iload_n hx hb dX0_tell_2 rfl (lv_at hl 2 rfl) ?_
      refine lv_bipush (v := 10) hx hb dX0_tell_3 (by decide) ?_
      refine lv_icmp_ge (tgt := 72) hx hb dX0_tell_5 (by decide) (fun c_5 => ?_) (fun c_5 => ?_)
      · exact absurd c_5 (nI_ge (a := i) (b := 10) hlt2 (by decide))
      · skip
        refine lv_aload_n hx hb dX0_tell_8 rfl (lv_at hl 0 rfl) ?_
        refine rm_geta C hw 6 1 (by decide) rfl (hts _ (by decide +kernel)) rfl dX0_tell_9 ?_
        refine lv_iload_n hx hb dX0_tell_12 rfl (lv_at hl 1 rfl) ?_
        refine rm_aald C hw 15 (by decide) ht dX0_tell_13 ?_
        refine lv_iload_n hx hb dX0_tell_14 rfl (lv_at hl 2 rfl) ?_
        refine rm_iald C hw ⟨by omega, by omega⟩ hlt2 dX0_tell_15 ?_
        refine lv_if_le (tgt := 66) hx hb dX0_tell_16 (by decide) (fun c_16 => ?_) (fun c_16 => ?_)
        · skip
          refine lv_iinc (v := nI (i + 1)) (lv' := [(2, .int (nI (i + 1))), (0, .ref (a 0)), (1, .int (nI t))]) hx hb dX0_tell_66 hl (k := 2) rfl (rm_inc i) (by decide) rfl (fun ls hl => ?_)
          refine lv_goto (tgt := 2) hx hb dX0_tell_69 (by decide) ?_
          exact ih2 (i + 1) (by omega) (τ2) (by refine Eq.trans ?_ ht2; first | with_reducible rfl | (simp only [rm_tellL, rm_hear, if_pos c_16, ↓reduceIte, Bool.false_eq_true]; done) | (simp only [rm_tellL, rm_hear, if_pos c_16, ↓reduceIte, Bool.false_eq_true]; rfl) | rfl) _ _ hw _ (lv_sub hl [1, 2, 0] rfl)
        · skip
          refine lv_aload_n hx hb dX0_tell_19 rfl (lv_at hl 0 rfl) ?_
          refine rm_geta C hw 7 2 (by decide) rfl (hts _ (by decide +kernel)) rfl dX0_tell_20 ?_
          refine lv_iload_n hx hb dX0_tell_23 rfl (lv_at hl 2 rfl) ?_
          refine rm_aald C hw 25 (by decide) hlt2 dX0_tell_24 ?_
          refine lv_iload_n hx hb dX0_tell_25 rfl (lv_at hl 1 rfl) ?_
          refine lv_aload_n hx hb dX0_tell_26 rfl (lv_at hl 0 rfl) ?_
          refine rm_geta C hw 12 7 (by decide) rfl (hts _ (by decide +kernel)) rfl dX0_tell_27 ?_
          refine lv_iload_n hx hb dX0_tell_30 rfl (lv_at hl 1 rfl) ?_
          refine rm_iald C hw (by decide) ht dX0_tell_31 ?_
          refine rm_iast C hw ⟨by omega, by omega⟩ ht dX0_tell_32 (fun H locs hw => ?_)
          refine lv_aload_n hx hb dX0_tell_33 rfl (lv_at hl 0 rfl) ?_
          refine rm_geta C hw 8 3 (by decide) rfl (hts _ (by decide +kernel)) rfl dX0_tell_34 ?_
          refine lv_iload_n hx hb dX0_tell_37 rfl (lv_at hl 2 rfl) ?_
          refine rm_aald C hw 35 (by decide) hlt2 dX0_tell_38 ?_
          refine lv_iload_n hx hb dX0_tell_39 rfl (lv_at hl 1 rfl) ?_
          refine lv_aload_n hx hb dX0_tell_40 rfl (lv_at hl 0 rfl) ?_
          refine rm_geta C hw 13 8 (by decide) rfl (hts _ (by decide +kernel)) rfl dX0_tell_41 ?_
          refine lv_iload_n hx hb dX0_tell_44 rfl (lv_at hl 1 rfl) ?_
          refine rm_iald C hw (by decide) ht dX0_tell_45 ?_
          refine rm_iast C hw ⟨by omega, by omega⟩ ht dX0_tell_46 (fun H locs hw => ?_)
          refine lv_aload_n hx hb dX0_tell_47 rfl (lv_at hl 0 rfl) ?_
          refine rm_geta C hw 9 4 (by decide) rfl (hts _ (by decide +kernel)) rfl dX0_tell_48 ?_
          refine lv_iload_n hx hb dX0_tell_51 rfl (lv_at hl 2 rfl) ?_
          refine rm_aald C hw 45 (by decide) hlt2 dX0_tell_52 ?_
          refine lv_iload_n hx hb dX0_tell_53 rfl (lv_at hl 1 rfl) ?_
          refine lv_aload_n hx hb dX0_tell_54 rfl (lv_at hl 0 rfl) ?_
          refine rm_geta C hw 14 9 (by decide) rfl (hts _ (by decide +kernel)) rfl dX0_tell_55 ?_
          refine lv_iload_n hx hb dX0_tell_58 rfl (lv_at hl 1 rfl) ?_
          refine rm_iald C hw (by decide) ht dX0_tell_59 ?_
          refine rm_iast C hw ⟨by omega, by omega⟩ ht dX0_tell_60 (fun H locs hw => ?_)
          refine lv_aload_n hx hb dX0_tell_61 rfl (lv_at hl 0 rfl) ?_
          refine lv_iload_n hx hb dX0_tell_62 rfl (lv_at hl 2 rfl) ?_
          refine rm_callV C hw hA (As := [.int (nI i)]) (rest := []) (kX0_choose l k a ha (rm_up (rm_up (rm_up τ2 (25 + i) t (τ2 7 t)) (35 + i) t ((rm_up τ2 (25 + i) t (τ2 7 t)) 8 t)) (45 + i) t ((rm_up (rm_up τ2 (25 + i) t (τ2 7 t)) (35 + i) t ((rm_up τ2 (25 + i) t (τ2 7 t)) 8 t)) 9 t)) i hlt2) (cwV 1 hts gX0_tell_X0_choose rfl rfl rfl (by decide +kernel) ⟨Nat.le_of_ble_eq_true rfl, Nat.le_of_ble_eq_true rfl⟩) rfl hl.1 rfl (lv_room (Nat.le_of_ble_eq_true rfl)) dX0_tell_63 ⟨Nat.zero_le _, Nat.zero_le _⟩ (fun H locs hw => ?_)
          refine lv_iinc (v := nI (i + 1)) (lv' := [(2, .int (nI (i + 1))), (0, .ref (a 0)), (1, .int (nI t))]) hx hb dX0_tell_66 hl (k := 2) rfl (rm_inc i) (by decide) rfl (fun ls hl => ?_)
          refine lv_goto (tgt := 2) hx hb dX0_tell_69 (by decide) ?_
          exact ih2 (i + 1) (by omega) (rm_choose (rm_up (rm_up (rm_up τ2 (25 + i) t (τ2 7 t)) (35 + i) t ((rm_up τ2 (25 + i) t (τ2 7 t)) 8 t)) (45 + i) t ((rm_up (rm_up τ2 (25 + i) t (τ2 7 t)) (35 + i) t ((rm_up τ2 (25 + i) t (τ2 7 t)) 8 t)) 9 t)) i) (by refine Eq.trans ?_ ht2; first | with_reducible rfl | (simp only [rm_tellL, rm_hear, if_neg c_16, ↓reduceIte, Bool.false_eq_true]; done) | (simp only [rm_tellL, rm_hear, if_neg c_16, ↓reduceIte, Bool.false_eq_true]; rfl) | rfl) _ _ hw _ (lv_sub hl [1, 2, 0] rfl)
  exact lp_2 10 0 (by omega) (σ) (by first | with_reducible rfl | (simp only [rm_tell, rm_tellL, rm_hear, ↓reduceIte, Bool.false_eq_true]; done) | (simp only [rm_tell, rm_tellL, rm_hear, ↓reduceIte, Bool.false_eq_true]; rfl) | rfl) _ _ hw _ (lv_sub hl [1, 2, 0] rfl)
set_option maxHeartbeats 4000000 in
set_option maxRecDepth 100000 in
theorem kX0_passTick (l : Launch) (k : rm_K) (a : Nat → Nat) (ha : rm_inj a) (σ : rm_St)   : rm_MI l k a yX0_passTick wsX0_passTick ({ frames := 6, cells := 0, slots := 0, locals := 136 }) [] σ ((rm_tick σ).2) ((rm_tick σ).1) := by
  refine rm_enterI (cc := cX0_passTick) (nL := 3) (ret := (some .int)) ha (by decide) rfl rfl (by decide +kernel) (Nat.le_of_ble_eq_true rfl) ?_
  intro p e s m args below meth c ls C hr hlocks hw hl
  have hx := C.1.1
  have hb := C.1.2.1
  have hts := C.1.2.2.2.2
  have hA : ∀ q, s.heap.size ≤ q → rm_A a s.heap.size q := fun q h => Or.inr h
  replace hl : lv_has ls 3 [(0, .ref (a 0))] := hl
  refine lv_iconst (v := 0) hx hb dX0_passTick_0 (by decide) ?_
  refine lv_istore_n (lv' := [(1, .int 0), (0, .ref (a 0))]) hx hb dX0_passTick_1 rfl hl (by decide) rfl (fun ls hl => ?_)
  refine lv_aload_n hx hb dX0_passTick_2 rfl (lv_at hl 1 rfl) ?_
  refine lv_dup hx hb dX0_passTick_3 rfl ?_
  refine rm_geti C hw 4 (by decide) (hts _ (by decide +kernel)) rfl dX0_passTick_4 ?_
  refine lv_iconst (v := 1) hx hb dX0_passTick_7 (by decide) ?_
  refine lv_iadd hx hb dX0_passTick_8 ?_
  refine rm_puti C hw 4 (by decide) (hts _ (by decide +kernel)) rfl rfl rfl dX0_passTick_9 (fun H locs hw => ?_)
  refine lv_iconst (v := 0) hx hb dX0_passTick_12 (by decide) ?_
  refine lv_istore_n (lv' := [(2, .int 0), (1, .int 0), (0, .ref (a 0))]) hx hb dX0_passTick_13 rfl hl (by decide) rfl (fun ls hl => ?_)
  have lp_14 : ∀ (r i : Nat), i + r = 10 → ∀ (x1 : Int32) (τ14 : rm_St), rm_tickL r i x1 τ14 = rm_tick σ → ∀ (H : Heap) (locs : List Loc), rm_Wd k a (rm_A a s.heap.size) s.heap s τ14 H locs → ∀ (ls : Array Slot), lv_has ls 3 [(0, .ref (a 0)), (1, .int x1), (2, .int (nI i))] → W p l e (headSpec wsX0_passTick ({ frames := 6, cells := 0, slots := 0, locals := 136 })).room s m args below meth c H locs 0 0 (MQ below (va_Qi (fun (r : Int32) (τ : rm_St) => r = ((rm_tick σ).2) ∧ τ = ((rm_tick σ).1)) (fun τ t => rm_P k a τ t) (rm_A a s.heap.size)) args s 0 0 (rm_A a s.heap.size)) (F0 m 14 ls []) := by
    intro r
    induction r with
    | zero =>
      intro i hi14 x1 τ14 ht14 H locs hw ls hl
      obtain rfl : i = 10 := by omega
      refine lv_iload_n hx hb dX0_passTick_14 rfl (lv_at hl 2 rfl) ?_
      refine lv_bipush (v := 10) hx hb dX0_passTick_15 (by decide) ?_
      refine lv_icmp_ge (tgt := 52) hx hb dX0_passTick_17 (by decide) (fun c_17 => ?_) (fun c_17 => ?_)
      · skip
        refine lv_iload_n hx hb dX0_passTick_52 rfl (lv_at hl 1 rfl) ?_
        exact rm_iret C hr hlocks hw dX0_passTick_53 ⟨by first | with_reducible rfl | exact ht14 | (rw [← ht14]; first | with_reducible rfl | (simp only [rm_tickL, ↓reduceIte, Bool.false_eq_true]; done) | (simp only [rm_tickL, ↓reduceIte, Bool.false_eq_true]; rfl) | rfl) | (first | with_reducible rfl | (simp only [rm_tick, ↓reduceIte, Bool.false_eq_true]; done) | (simp only [rm_tick, ↓reduceIte, Bool.false_eq_true]; rfl) | rfl), by first | with_reducible rfl | exact ht14 | (rw [← ht14]; first | with_reducible rfl | (simp only [rm_tickL, ↓reduceIte, Bool.false_eq_true]; done) | (simp only [rm_tickL, ↓reduceIte, Bool.false_eq_true]; rfl) | rfl) | (first | with_reducible rfl | (simp only [rm_tick, ↓reduceIte, Bool.false_eq_true]; done) | (simp only [rm_tick, ↓reduceIte, Bool.false_eq_true]; rfl) | rfl)⟩
      · exact absurd (show (10 : Int32) ≤ nI 10 from nI_le (a := 10) (b := 10) (Nat.le_refl _) (by decide)) c_17
    | succ r ih14 =>
      intro i hi14 x1 τ14 ht14 H locs hw ls hl
      have hlt14 : i < 10 := by omega
      refine lv_iload_n hx hb dX0_passTick_14 rfl (lv_at hl 2 rfl) ?_
      refine lv_bipush (v := 10) hx hb dX0_passTick_15 (by decide) ?_
      refine lv_icmp_ge (tgt := 52) hx hb dX0_passTick_17 (by decide) (fun c_17 => ?_) (fun c_17 => ?_)
      · exact absurd c_17 (nI_ge (a := i) (b := 10) hlt14 (by decide))
      · skip
        refine lv_aload_n hx hb dX0_passTick_20 rfl (lv_at hl 0 rfl) ?_
        refine rm_geta C hw 18 13 (by decide) rfl (hts _ (by decide +kernel)) rfl dX0_passTick_21 ?_
        refine lv_iload_n hx hb dX0_passTick_24 rfl (lv_at hl 2 rfl) ?_
        refine rm_iald C hw (by decide) hlt14 dX0_passTick_25 ?_
        refine lv_aload_n hx hb dX0_passTick_26 rfl (lv_at hl 0 rfl) ?_
        refine rm_geti C hw 4 (by decide) (hts _ (by decide +kernel)) rfl dX0_passTick_27 ?_
        refine lv_icmp_ne (tgt := 46) hx hb dX0_passTick_30 (by decide) (fun c_30 => ?_) (fun c_30 => ?_)
        · skip
          refine lv_iinc (v := nI (i + 1)) (lv' := [(2, .int (nI (i + 1))), (0, .ref (a 0)), (1, .int x1)]) hx hb dX0_passTick_46 hl (k := 2) rfl (rm_inc i) (by decide) rfl (fun ls hl => ?_)
          refine lv_goto (tgt := 14) hx hb dX0_passTick_49 (by decide) ?_
          exact ih14 (i + 1) (by omega) (x1) (τ14) (by refine Eq.trans ?_ ht14; first | with_reducible rfl | (simp only [rm_tickL, if_neg c_30, ↓reduceIte, Bool.false_eq_true]; done) | (simp only [rm_tickL, if_neg c_30, ↓reduceIte, Bool.false_eq_true]; rfl) | rfl) _ _ hw _ (lv_sub hl [1, 2, 0] rfl)
        · skip
          refine lv_aload_n hx hb dX0_passTick_33 rfl (lv_at hl 0 rfl) ?_
          refine lv_iload_n hx hb dX0_passTick_34 rfl (lv_at hl 2 rfl) ?_
          refine rm_callV C hw hA (As := [.int (nI i)]) (rest := []) (kX0_tell l k a ha τ14 i hlt14) (cwV 1 hts gX0_passTick_X0_tell rfl rfl rfl (by decide +kernel) ⟨Nat.le_of_ble_eq_true rfl, Nat.le_of_ble_eq_true rfl⟩) rfl hl.1 rfl (lv_room (Nat.le_of_ble_eq_true rfl)) dX0_passTick_35 ⟨Nat.zero_le _, Nat.zero_le _⟩ (fun H locs hw => ?_)
          refine lv_aload_n hx hb dX0_passTick_38 rfl (lv_at hl 0 rfl) ?_
          refine lv_iload_n hx hb dX0_passTick_39 rfl (lv_at hl 2 rfl) ?_
          refine rm_callV C hw hA (As := [.int (nI i)]) (rest := []) (kX0_lengthenTimer l k a ha (rm_tell τ14 i) i hlt14) (cwV 1 hts gX0_passTick_X0_lengthenTimer rfl rfl rfl (by decide +kernel) ⟨Nat.le_of_ble_eq_true rfl, Nat.le_of_ble_eq_true rfl⟩) rfl hl.1 rfl (lv_room (Nat.le_of_ble_eq_true rfl)) dX0_passTick_40 ⟨Nat.zero_le _, Nat.zero_le _⟩ (fun H locs hw => ?_)
          refine lv_iinc (v := (x1) + 1) (lv' := [(1, .int ((x1) + 1)), (0, .ref (a 0)), (2, .int (nI i))]) hx hb dX0_passTick_43 hl (k := 1) rfl rfl (by decide) rfl (fun ls hl => ?_)
          refine lv_iinc (v := nI (i + 1)) (lv' := [(2, .int (nI (i + 1))), (1, .int ((x1) + 1)), (0, .ref (a 0))]) hx hb dX0_passTick_46 hl (k := 2) rfl (rm_inc i) (by decide) rfl (fun ls hl => ?_)
          refine lv_goto (tgt := 14) hx hb dX0_passTick_49 (by decide) ?_
          exact ih14 (i + 1) (by omega) ((x1) + 1) (rm_len (rm_tell τ14 i) i) (by refine Eq.trans ?_ ht14; first | with_reducible rfl | (simp only [rm_tickL, if_pos c_30, ↓reduceIte, Bool.false_eq_true]; done) | (simp only [rm_tickL, if_pos c_30, ↓reduceIte, Bool.false_eq_true]; rfl) | rfl) _ _ hw _ (lv_sub hl [2, 1, 0] rfl)
  exact lp_14 10 0 (by omega) (0) (rm_up σ 0 4 ((σ 0 4) + (1))) (by first | with_reducible rfl | (simp only [rm_tick, rm_tickL, ↓reduceIte, Bool.false_eq_true]; done) | (simp only [rm_tick, rm_tickL, ↓reduceIte, Bool.false_eq_true]; rfl) | rfl) _ _ hw _ (lv_sub hl [2, 1, 0] rfl)
set_option maxHeartbeats 4000000 in
set_option maxRecDepth 100000 in
theorem kX0_childrenOf (l : Launch) (k : rm_K) (a : Nat → Nat) (ha : rm_inj a) (σ : rm_St) (v : Int32)  : rm_MI l k a yX0_childrenOf wsX0_childrenOf ({ frames := 1, cells := 0, slots := 0, locals := 20 }) [.int v] σ (rm_ch σ v) σ := by
  refine rm_enterI (cc := cX0_childrenOf) (nL := 5) (ret := (some .int)) ha (by decide) rfl rfl (by decide +kernel) (Nat.le_of_ble_eq_true rfl) ?_
  intro p e s m args below meth c ls C hr hlocks hw hl
  have hx := C.1.1
  have hb := C.1.2.1
  have hts := C.1.2.2.2.2
  have hA : ∀ q, s.heap.size ≤ q → rm_A a s.heap.size q := fun q h => Or.inr h
  replace hl : lv_has ls 5 [(0, .ref (a 0)), (1, .int v)] := hl
  refine lv_iconst (v := 0) hx hb dX0_childrenOf_0 (by decide) ?_
  refine lv_istore_n (lv' := [(2, .int 0), (0, .ref (a 0)), (1, .int v)]) hx hb dX0_childrenOf_1 rfl hl (by decide) rfl (fun ls hl => ?_)
  refine lv_iconst (v := 0) hx hb dX0_childrenOf_2 (by decide) ?_
  refine lv_istore_n (lv' := [(3, .int 0), (2, .int 0), (0, .ref (a 0)), (1, .int v)]) hx hb dX0_childrenOf_3 rfl hl (by decide) rfl (fun ls hl => ?_)
  have lp_4 : ∀ (r i : Nat), i + r = 10 → ∀ (x2 : Int32), rm_chL σ v r i x2 = rm_ch σ v → ∀ (H : Heap) (locs : List Loc), rm_Wd k a (rm_A a s.heap.size) s.heap s σ H locs → ∀ (ls : Array Slot), lv_has ls 5 [(0, .ref (a 0)), (1, .int v), (2, .int x2), (3, .int (nI i))] → W p l e (headSpec wsX0_childrenOf ({ frames := 1, cells := 0, slots := 0, locals := 20 })).room s m args below meth c H locs 0 0 (MQ below (va_Qi (fun (r : Int32) (τ : rm_St) => r = (rm_ch σ v) ∧ τ = σ) (fun τ t => rm_P k a τ t) (rm_A a s.heap.size)) args s 0 0 (rm_A a s.heap.size)) (F0 m 4 ls []) := by
    intro r
    induction r with
    | zero =>
      intro i hi4 x2 ht4 H locs hw ls hl
      obtain rfl : i = 10 := by omega
      refine lv_iload_n hx hb dX0_childrenOf_4 rfl (lv_at hl 3 rfl) ?_
      refine lv_bipush (v := 10) hx hb dX0_childrenOf_5 (by decide) ?_
      refine lv_icmp_ge (tgt := 47) hx hb dX0_childrenOf_7 (by decide) (fun c_7 => ?_) (fun c_7 => ?_)
      · skip
        refine lv_iload_n hx hb dX0_childrenOf_47 rfl (lv_at hl 2 rfl) ?_
        exact rm_iret C hr hlocks hw dX0_childrenOf_48 ⟨by first | with_reducible rfl | exact ht4 | (rw [← ht4]; first | with_reducible rfl | (simp only [rm_chL, ↓reduceIte, Bool.false_eq_true]; done) | (simp only [rm_chL, ↓reduceIte, Bool.false_eq_true]; rfl) | rfl) | (first | with_reducible rfl | (simp only [rm_ch, ↓reduceIte, Bool.false_eq_true]; done) | (simp only [rm_ch, ↓reduceIte, Bool.false_eq_true]; rfl) | rfl), by first | with_reducible rfl | exact ht4 | (rw [← ht4]; first | with_reducible rfl | (simp only [rm_chL, ↓reduceIte, Bool.false_eq_true]; done) | (simp only [rm_chL, ↓reduceIte, Bool.false_eq_true]; rfl) | rfl) | (first | with_reducible rfl | (simp only [rm_ch, ↓reduceIte, Bool.false_eq_true]; done) | (simp only [rm_ch, ↓reduceIte, Bool.false_eq_true]; rfl) | rfl)⟩
      · exact absurd (show (10 : Int32) ≤ nI 10 from nI_le (a := 10) (b := 10) (Nat.le_refl _) (by decide)) c_7
    | succ r ih4 =>
      intro i hi4 x2 ht4 H locs hw ls hl
      have hlt4 : i < 10 := by omega
      refine lv_iload_n hx hb dX0_childrenOf_4 rfl (lv_at hl 3 rfl) ?_
      refine lv_bipush (v := 10) hx hb dX0_childrenOf_5 (by decide) ?_
      refine lv_icmp_ge (tgt := 47) hx hb dX0_childrenOf_7 (by decide) (fun c_7 => ?_) (fun c_7 => ?_)
      · exact absurd c_7 (nI_ge (a := i) (b := 10) hlt4 (by decide))
      · skip
        refine lv_aload_n hx hb dX0_childrenOf_10 rfl (lv_at hl 0 rfl) ?_
        refine rm_geta C hw 16 11 (by decide) rfl (hts _ (by decide +kernel)) rfl dX0_childrenOf_11 ?_
        refine lv_iload_n hx hb dX0_childrenOf_14 rfl (lv_at hl 3 rfl) ?_
        refine rm_iald C hw (by decide) hlt4 dX0_childrenOf_15 ?_
        refine lv_istore (lv' := [(4, .int (σ 11 i)), (0, .ref (a 0)), (1, .int v), (2, .int x2), (3, .int (nI i))]) hx hb dX0_childrenOf_16 hl (by decide) rfl (fun ls hl => ?_)
        refine lv_iload hx hb dX0_childrenOf_18 (lv_at hl 0 rfl) ?_
        refine rm_callSI C hw (As := [.int (σ 11 i)]) (rest := []) (kX0_isNode l (σ 11 i)) (va_cwS 1 hts gX0_childrenOf_X0_isNode rfl rfl rfl (by decide +kernel) ⟨Nat.le_of_ble_eq_true rfl, Nat.le_of_ble_eq_true rfl⟩) rfl hl.1 rfl (lv_room (Nat.le_of_ble_eq_true rfl)) dX0_childrenOf_20 ⟨Nat.zero_le _, Nat.zero_le _⟩ (fun H locs hw => ?_)
        refine rm_ifeq (tgt := 41) hx hb dX0_childrenOf_23 (by decide) (fun c_23 => ?_) (fun c_23 => ?_)
        · skip
          refine lv_iinc (v := nI (i + 1)) (lv' := [(3, .int (nI (i + 1))), (4, .int (σ 11 i)), (0, .ref (a 0)), (1, .int v), (2, .int x2)]) hx hb dX0_childrenOf_41 hl (k := 4) rfl (rm_inc i) (by decide) rfl (fun ls hl => ?_)
          refine lv_goto (tgt := 4) hx hb dX0_childrenOf_44 (by decide) ?_
          exact ih4 (i + 1) (by omega) (x2) (by refine Eq.trans ?_ ht4; first | with_reducible rfl | (simp only [rm_chL, c_23, ↓reduceIte, Bool.false_eq_true]; done) | (simp only [rm_chL, c_23, ↓reduceIte, Bool.false_eq_true]; rfl) | rfl) _ _ hw _ (lv_sub hl [2, 3, 4, 0] rfl)
        · skip
          refine lv_iload_n hx hb dX0_childrenOf_26 rfl (lv_at hl 2 rfl) ?_
          refine lv_iload hx hb dX0_childrenOf_27 (lv_at hl 0 rfl) ?_
          refine lv_ishr hx hb dX0_childrenOf_29 ?_
          refine lv_iconst (v := 1) hx hb dX0_childrenOf_30 (by decide) ?_
          refine lv_iand hx hb dX0_childrenOf_31 ?_
          refine lv_if_eq (tgt := 41) hx hb dX0_childrenOf_32 (by decide) (fun c_32 => ?_) (fun c_32 => ?_)
          · skip
            refine lv_iinc (v := nI (i + 1)) (lv' := [(3, .int (nI (i + 1))), (4, .int (σ 11 i)), (0, .ref (a 0)), (1, .int v), (2, .int x2)]) hx hb dX0_childrenOf_41 hl (k := 4) rfl (rm_inc i) (by decide) rfl (fun ls hl => ?_)
            refine lv_goto (tgt := 4) hx hb dX0_childrenOf_44 (by decide) ?_
            exact ih4 (i + 1) (by omega) (x2) (by refine Eq.trans ?_ ht4; first | with_reducible rfl | (simp only [rm_chL, c_23, if_pos c_32, ↓reduceIte, Bool.false_eq_true]; done) | (simp only [rm_chL, c_23, if_pos c_32, ↓reduceIte, Bool.false_eq_true]; rfl) | rfl) _ _ hw _ (lv_sub hl [2, 3, 4, 0] rfl)
          · skip
            refine lv_iload_n hx hb dX0_childrenOf_35 rfl (lv_at hl 3 rfl) ?_
            refine lv_iconst (v := 1) hx hb dX0_childrenOf_36 (by decide) ?_
            refine lv_iload_n hx hb dX0_childrenOf_37 rfl (lv_at hl 4 rfl) ?_
            refine lv_ishl hx hb dX0_childrenOf_38 ?_
            refine lv_ior hx hb dX0_childrenOf_39 ?_
            refine lv_istore_n (lv' := [(2, .int ((x2) ||| ((1) <<< ((nI i) &&& 31)))), (4, .int (σ 11 i)), (0, .ref (a 0)), (1, .int v), (3, .int (nI i))]) hx hb dX0_childrenOf_40 rfl hl (by decide) rfl (fun ls hl => ?_)
            refine lv_iinc (v := nI (i + 1)) (lv' := [(3, .int (nI (i + 1))), (2, .int ((x2) ||| ((1) <<< ((nI i) &&& 31)))), (4, .int (σ 11 i)), (0, .ref (a 0)), (1, .int v)]) hx hb dX0_childrenOf_41 hl (k := 4) rfl (rm_inc i) (by decide) rfl (fun ls hl => ?_)
            refine lv_goto (tgt := 4) hx hb dX0_childrenOf_44 (by decide) ?_
            exact ih4 (i + 1) (by omega) ((x2) ||| ((1) <<< ((nI i) &&& 31))) (by refine Eq.trans ?_ ht4; first | with_reducible rfl | (simp only [rm_chL, c_23, if_neg c_32, ↓reduceIte, Bool.false_eq_true]; done) | (simp only [rm_chL, c_23, if_neg c_32, ↓reduceIte, Bool.false_eq_true]; rfl) | rfl) _ _ hw _ (lv_sub hl [3, 4, 1, 0] rfl)
  exact lp_4 10 0 (by omega) (0) (by first | with_reducible rfl | (simp only [rm_ch, rm_chL, ↓reduceIte, Bool.false_eq_true]; done) | (simp only [rm_ch, rm_chL, ↓reduceIte, Bool.false_eq_true]; rfl) | rfl) _ _ hw _ (lv_sub hl [2, 3, 1, 0] rfl)
set_option maxHeartbeats 4000000 in
set_option maxRecDepth 100000 in
theorem kX0_lowerWayCosts (l : Launch) (k : rm_K) (a : Nat → Nat) (ha : rm_inj a) (σ : rm_St)   : rm_MV l k a yX0_lowerWayCosts wsX0_lowerWayCosts ({ frames := 1, cells := 0, slots := 0, locals := 30 }) [] σ  (rm_lower σ) := by
  refine rm_enterV (cc := cX0_lowerWayCosts) (nL := 4) (ret := none) ha (by decide) rfl rfl (by decide +kernel) (Nat.le_of_ble_eq_true rfl) ?_
  intro p e s m args below meth c ls C hr hlocks hw hl
  have hx := C.1.1
  have hb := C.1.2.1
  have hts := C.1.2.2.2.2
  have hA : ∀ q, s.heap.size ≤ q → rm_A a s.heap.size q := fun q h => Or.inr h
  replace hl : lv_has ls 4 [(0, .ref (a 0))] := hl
  refine lv_iconst (v := 0) hx hb dX0_lowerWayCosts_0 (by decide) ?_
  refine lv_istore_n (lv' := [(1, .int 0), (0, .ref (a 0))]) hx hb dX0_lowerWayCosts_1 rfl hl (by decide) rfl (fun ls hl => ?_)
  have lp_2 : ∀ (r i : Nat), i + r = 10 → ∀ (τ2 : rm_St), rm_lowL r i τ2 = rm_lower σ → ∀ (H : Heap) (locs : List Loc), rm_Wd k a (rm_A a s.heap.size) s.heap s τ2 H locs → ∀ (ls : Array Slot), lv_has ls 4 [(0, .ref (a 0)), (1, .int (nI i))] → W p l e (headSpec wsX0_lowerWayCosts ({ frames := 1, cells := 0, slots := 0, locals := 30 })).room s m args below meth c H locs 0 0 (MQ below (va_Qv (fun (τ : rm_St) => τ = (rm_lower σ)) (fun τ t => rm_P k a τ t) (rm_A a s.heap.size)) args s 0 0 (rm_A a s.heap.size)) (F0 m 2 ls []) := by
    intro r
    induction r with
    | zero =>
      intro i hi2 τ2 ht2 H locs hw ls hl
      obtain rfl : i = 10 := by omega
      refine lv_iload_n hx hb dX0_lowerWayCosts_2 rfl (lv_at hl 1 rfl) ?_
      refine lv_bipush (v := 10) hx hb dX0_lowerWayCosts_3 (by decide) ?_
      refine lv_icmp_ge (tgt := 64) hx hb dX0_lowerWayCosts_5 (by decide) (fun c_5 => ?_) (fun c_5 => ?_)
      · skip
        exact rm_vret C hr hlocks hw dX0_lowerWayCosts_64 (by first | with_reducible rfl | exact ht2 | (rw [← ht2]; first | with_reducible rfl | (simp only [rm_lowL, ↓reduceIte, Bool.false_eq_true]; done) | (simp only [rm_lowL, ↓reduceIte, Bool.false_eq_true]; rfl) | rfl) | (first | with_reducible rfl | (simp only [rm_lower, ↓reduceIte, Bool.false_eq_true]; done) | (simp only [rm_lower, ↓reduceIte, Bool.false_eq_true]; rfl) | rfl))
      · exact absurd (show (10 : Int32) ≤ nI 10 from nI_le (a := 10) (b := 10) (Nat.le_refl _) (by decide)) c_5
    | succ r ih2 =>
      intro i hi2 τ2 ht2 H locs hw ls hl
      have hlt2 : i < 10 := by omega
      refine lv_iload_n hx hb dX0_lowerWayCosts_2 rfl (lv_at hl 1 rfl) ?_
      refine lv_bipush (v := 10) hx hb dX0_lowerWayCosts_3 (by decide) ?_
      refine lv_icmp_ge (tgt := 64) hx hb dX0_lowerWayCosts_5 (by decide) (fun c_5 => ?_) (fun c_5 => ?_)
      · exact absurd c_5 (nI_ge (a := i) (b := 10) hlt2 (by decide))
      · skip
        refine lv_iconst (v := 0) hx hb dX0_lowerWayCosts_8 (by decide) ?_
        refine lv_istore_n (lv' := [(2, .int 0), (0, .ref (a 0)), (1, .int (nI i))]) hx hb dX0_lowerWayCosts_9 rfl hl (by decide) rfl (fun ls hl => ?_)
        have lp_10 : ∀ (r j : Nat), j + r = 10 → ∀ (τ10 : rm_St), rm_lowJ i r j τ10 = rm_lowJ i 10 0 τ2 → ∀ (H : Heap) (locs : List Loc), rm_Wd k a (rm_A a s.heap.size) s.heap s τ10 H locs → ∀ (ls : Array Slot), lv_has ls 4 [(0, .ref (a 0)), (1, .int (nI i)), (2, .int (nI j))] → W p l e (headSpec wsX0_lowerWayCosts ({ frames := 1, cells := 0, slots := 0, locals := 30 })).room s m args below meth c H locs 0 0 (MQ below (va_Qv (fun (τ : rm_St) => τ = (rm_lower σ)) (fun τ t => rm_P k a τ t) (rm_A a s.heap.size)) args s 0 0 (rm_A a s.heap.size)) (F0 m 10 ls []) := by
          intro r
          induction r with
          | zero =>
            intro j hi10 τ10 ht10 H locs hw ls hl
            obtain rfl : j = 10 := by omega
            refine lv_iload_n hx hb dX0_lowerWayCosts_10 rfl (lv_at hl 2 rfl) ?_
            refine lv_bipush (v := 10) hx hb dX0_lowerWayCosts_11 (by decide) ?_
            refine lv_icmp_ge (tgt := 58) hx hb dX0_lowerWayCosts_13 (by decide) (fun c_13 => ?_) (fun c_13 => ?_)
            · skip
              refine lv_iinc (v := nI (i + 1)) (lv' := [(1, .int (nI (i + 1))), (0, .ref (a 0)), (2, .int (nI 10))]) hx hb dX0_lowerWayCosts_58 hl (k := 1) rfl (rm_inc i) (by decide) rfl (fun ls hl => ?_)
              refine lv_goto (tgt := 2) hx hb dX0_lowerWayCosts_61 (by decide) ?_
              exact ih2 (i + 1) (by omega) (τ10) (by refine Eq.trans ?_ ht2; first | with_reducible rfl | (simp only [rm_lowL, ↓reduceIte, Bool.false_eq_true]; done) | (simp only [rm_lowL, ↓reduceIte, Bool.false_eq_true]; rw [← ht10]; rfl) | (simp only [rm_lowL, ↓reduceIte, Bool.false_eq_true]; rfl) | rfl) _ _ hw _ (lv_sub hl [1, 0] rfl)
            · exact absurd (show (10 : Int32) ≤ nI 10 from nI_le (a := 10) (b := 10) (Nat.le_refl _) (by decide)) c_13
          | succ r ih10 =>
            intro j hi10 τ10 ht10 H locs hw ls hl
            have hlt10 : j < 10 := by omega
            refine lv_iload_n hx hb dX0_lowerWayCosts_10 rfl (lv_at hl 2 rfl) ?_
            refine lv_bipush (v := 10) hx hb dX0_lowerWayCosts_11 (by decide) ?_
            refine lv_icmp_ge (tgt := 58) hx hb dX0_lowerWayCosts_13 (by decide) (fun c_13 => ?_) (fun c_13 => ?_)
            · exact absurd c_13 (nI_ge (a := j) (b := 10) hlt10 (by decide))
            · skip
              refine lv_aload_n hx hb dX0_lowerWayCosts_16 rfl (lv_at hl 0 rfl) ?_
              refine rm_geta C hw 6 1 (by decide) rfl (hts _ (by decide +kernel)) rfl dX0_lowerWayCosts_17 ?_
              refine lv_iload_n hx hb dX0_lowerWayCosts_20 rfl (lv_at hl 1 rfl) ?_
              refine rm_aald C hw 15 (by decide) hlt2 dX0_lowerWayCosts_21 ?_
              refine lv_iload_n hx hb dX0_lowerWayCosts_22 rfl (lv_at hl 2 rfl) ?_
              refine rm_iald C hw ⟨by omega, by omega⟩ hlt10 dX0_lowerWayCosts_23 ?_
              refine lv_istore_n (lv' := [(3, .int (τ10 (15 + i) j)), (0, .ref (a 0)), (1, .int (nI i)), (2, .int (nI j))]) hx hb dX0_lowerWayCosts_24 rfl hl (by decide) rfl (fun ls hl => ?_)
              refine lv_iload_n hx hb dX0_lowerWayCosts_25 rfl (lv_at hl 0 rfl) ?_
              refine lv_if_le (tgt := 52) hx hb dX0_lowerWayCosts_26 (by decide) (fun c_26 => ?_) (fun c_26 => ?_)
              · skip
                refine lv_iinc (v := nI (j + 1)) (lv' := [(2, .int (nI (j + 1))), (3, .int (τ10 (15 + i) j)), (0, .ref (a 0)), (1, .int (nI i))]) hx hb dX0_lowerWayCosts_52 hl (k := 3) rfl (rm_inc j) (by decide) rfl (fun ls hl => ?_)
                refine lv_goto (tgt := 10) hx hb dX0_lowerWayCosts_55 (by decide) ?_
                exact ih10 (j + 1) (by omega) (τ10) (by refine Eq.trans ?_ ht10; first | with_reducible rfl | (simp only [rm_lowJ, if_pos c_26, ↓reduceIte, Bool.false_eq_true]; done) | (simp only [rm_lowJ, if_pos c_26, ↓reduceIte, Bool.false_eq_true]; rfl) | rfl) _ _ hw _ (lv_sub hl [2, 3, 0] rfl)
              · skip
                refine lv_aload_n hx hb dX0_lowerWayCosts_29 rfl (lv_at hl 1 rfl) ?_
                refine rm_geta C hw 19 14 (by decide) rfl (hts _ (by decide +kernel)) rfl dX0_lowerWayCosts_30 ?_
                refine lv_iload_n hx hb dX0_lowerWayCosts_33 rfl (lv_at hl 2 rfl) ?_
                refine lv_aload_n hx hb dX0_lowerWayCosts_34 rfl (lv_at hl 1 rfl) ?_
                refine rm_geta C hw 19 14 (by decide) rfl (hts _ (by decide +kernel)) rfl dX0_lowerWayCosts_35 ?_
                refine lv_iload_n hx hb dX0_lowerWayCosts_38 rfl (lv_at hl 2 rfl) ?_
                refine rm_iald C hw (by decide) hlt2 dX0_lowerWayCosts_39 ?_
                refine lv_aload_n hx hb dX0_lowerWayCosts_40 rfl (lv_at hl 1 rfl) ?_
                refine rm_geta C hw 19 14 (by decide) rfl (hts _ (by decide +kernel)) rfl dX0_lowerWayCosts_41 ?_
                refine lv_iload_n hx hb dX0_lowerWayCosts_44 rfl (lv_at hl 3 rfl) ?_
                refine rm_iald C hw (by decide) hlt10 dX0_lowerWayCosts_45 ?_
                refine lv_iload_n hx hb dX0_lowerWayCosts_46 rfl (lv_at hl 0 rfl) ?_
                refine lv_iadd hx hb dX0_lowerWayCosts_47 ?_
                refine va_mmin hx hb (C.1.2.2.1.trans hl.1.symm) C.1.2.2.2.1 (hts (.methodLink RX0 141 Lib.Math.min.name) (by decide +kernel)) (hts (.static Lib.Math.min.name) (by decide +kernel)) (hts (.initialized "java/lang/Math") (by decide +kernel)) (hts (.code Lib.Math.min.name Lib.Math.min.code 2 (some .int)) (by decide +kernel)) (Nat.le_of_ble_eq_true rfl) (Nat.le_of_ble_eq_true rfl) (Nat.le_of_ble_eq_true rfl) (Nat.le_of_ble_eq_true rfl) dX0_lowerWayCosts_48 ?_
                refine rm_iast C hw (by decide) hlt2 dX0_lowerWayCosts_51 (fun H locs hw => ?_)
                refine lv_iinc (v := nI (j + 1)) (lv' := [(2, .int (nI (j + 1))), (3, .int (τ10 (15 + i) j)), (0, .ref (a 0)), (1, .int (nI i))]) hx hb dX0_lowerWayCosts_52 hl (k := 3) rfl (rm_inc j) (by decide) rfl (fun ls hl => ?_)
                refine lv_goto (tgt := 10) hx hb dX0_lowerWayCosts_55 (by decide) ?_
                exact ih10 (j + 1) (by omega) (rm_up τ10 14 i (rm_mn (τ10 14 i) ((τ10 14 j) + (τ10 (15 + i) j)))) (by refine Eq.trans ?_ ht10; first | with_reducible rfl | (simp only [rm_lowJ, if_neg c_26, ↓reduceIte, Bool.false_eq_true]; done) | (simp only [rm_lowJ, if_neg c_26, ↓reduceIte, Bool.false_eq_true]; rfl) | rfl) _ _ hw _ (lv_sub hl [2, 3, 0] rfl)
        exact lp_10 10 0 (by omega) (τ2) (by first | with_reducible rfl | exact ht2 | (rw [← ht2]; first | with_reducible rfl | (simp only [rm_lowL, rm_lowJ, ↓reduceIte, Bool.false_eq_true]; done) | (simp only [rm_lowL, rm_lowJ, ↓reduceIte, Bool.false_eq_true]; rfl) | rfl) | (first | with_reducible rfl | (simp only [rm_lower, rm_lowJ, ↓reduceIte, Bool.false_eq_true]; done) | (simp only [rm_lower, rm_lowJ, ↓reduceIte, Bool.false_eq_true]; rfl) | rfl)) _ _ hw _ (lv_sub hl [1, 2, 0] rfl)
  exact lp_2 10 0 (by omega) (σ) (by first | with_reducible rfl | (simp only [rm_lower, rm_lowL, ↓reduceIte, Bool.false_eq_true]; done) | (simp only [rm_lower, rm_lowL, ↓reduceIte, Bool.false_eq_true]; rfl) | rfl) _ _ hw _ (lv_sub hl [1, 0] rfl)
end
section
/-! the model's world: one object and 14 arrays -/
def rn_len (q : Nat) : Nat := if q = 1 ∨ (11 ≤ q ∧ q ≤ 13) then 100 else 10
def rn_F (a : Nat → Nat) (σ : rm_St) : List Value := [.int (σ 0 0), .int (σ 0 1), .int (σ 0 2), .int (σ 0 3), .int (σ 0 4), .ref (a 1), .ref (a 2), .ref (a 3), .ref (a 4), .ref (a 5), .ref (a 6), .ref (a 7), .ref (a 8), .ref (a 9), .ref (a 10), .ref (a 11), .ref (a 12), .ref (a 13), .ref (a 14), .int (σ 0 19), .int (σ 0 20)]
def rn_E (k : rm_K) (a : Nat → Nat) (σ : rm_St) (q : Nat) : va_E :=
  if q = 0 then .inr (1, rn_F a σ)
  else if q = 2 then .inl (k.2.2.1, 10, .inl (σ q))
  else .inl (k.2.1, rn_len q, .inl (σ q))
def rn_W (k : rm_K) (a : Nat → Nat) (σ : rm_St) : va_W := (List.range 15).map (fun q => (a q, rn_E k a σ q))
theorem rn_get {k : rm_K} {a : Nat → Nat} {σ : rm_St} {q : Nat} (hq : q < 15) : (rn_W k a σ)[q]? = some (a q, rn_E k a σ q) := by simp [rn_W, hq]
theorem rn_get_of {k : rm_K} {a : Nat → Nat} {σ : rm_St} {j : Nat} {x : Nat × va_E} (h : (rn_W k a σ)[j]? = some x) : j < 15 ∧ x = (a j, rn_E k a σ j) := by
  have hj : j < 15 := by
    have := (List.getElem?_eq_some_iff.mp h).1
    simpa [rn_W] using this
  rw [rn_get hj] at h
  exact ⟨hj, (Option.some.inj h).symm⟩
theorem rn_E0 {k : rm_K} {a : Nat → Nat} {σ : rm_St} : rn_E k a σ 0 = .inr (1, rn_F a σ) := rfl
theorem rn_E2 {k : rm_K} {a : Nat → Nat} {σ : rm_St} : rn_E k a σ 2 = .inl (k.2.2.1, 10, .inl (σ 2)) := rfl
theorem rn_Er {k : rm_K} {a : Nat → Nat} {σ : rm_St} {q N : Nat} (h : q ≠ 0 ∧ q ≠ 2) (hN : rn_len q = N) : rn_E k a σ q = .inl (k.2.1, N, .inl (σ q)) := by
  subst hN
  unfold rn_E
  rw [if_neg h.1, if_neg h.2]
theorem rn_E_ne {k : rm_K} {a : Nat → Nat} {σ : rm_St} {q j r : Nat} {v : Int32} (h : r ≠ q) : rn_E k a (rm_up σ q j v) r = rn_E k a σ r := by
  unfold rn_E
  by_cases h0 : r = 0
  · subst h0
    rw [if_pos rfl, if_pos rfl]
    unfold rn_F
    rw [rm_up_row_ne h]
  · rw [if_neg h0, if_neg h0, rm_up_row_ne h]
theorem rn_set {k : rm_K} {a : Nat → Nat} {σ : rm_St} {q j : Nat} {v : Int32} {e : va_E} (hq : q < 15) (he : rn_E k a (rm_up σ q j v) q = e) : (rn_W k a σ).set q (a q, e) = rn_W k a (rm_up σ q j v) := by
  apply List.ext_getElem?
  intro i
  by_cases hi : i = q
  · subst hi
    rw [List.getElem?_set_self (by simp [rn_W, hq]), rn_get hq, he]
  · rw [List.getElem?_set_ne (Ne.symm hi)]
    by_cases hl : i < 15
    · rw [rn_get hl, rn_get hl, rn_E_ne hi]
    · rw [List.getElem?_eq_none (by simp [rn_W]; omega), List.getElem?_eq_none (by simp [rn_W]; omega)]
def rn_inj (a : Nat → Nat) : Prop := ∀ i j, i < 15 → j < 15 → a i = a j → i = j
def rn_A (a : Nat → Nat) (sz : Nat) : Nat → Prop := fun q => (∃ j, j < 15 ∧ q = a j) ∨ sz ≤ q
def rn_P (k : rm_K) (a : Nat → Nat) (σ : rm_St) (U : State) : Prop := va_P k.1 vwCl (rn_W k a σ) U.heap ∧ va_K k.1 vwCl (rm_ty k) U
theorem rn_D {k : rm_K} {a : Nat → Nat} {σ : rm_St} {A : Nat → Prop} (h : rn_inj a) (hA : ∀ j, j < 15 → A (a j)) : va_D A (rn_W k a σ) := by
  refine ⟨fun i j x y hi hj hxy => ?_, fun q x hq => ?_⟩
  · obtain ⟨h1, e1⟩ := rn_get_of hi
    obtain ⟨h2, e2⟩ := rn_get_of hj
    rw [e1, e2] at hxy
    exact h i j h1 h2 hxy
  · obtain ⟨h1, e1⟩ := rn_get_of hq
    rw [e1]
    exact hA q h1
theorem rn_D_inj {k : rm_K} {a : Nat → Nat} {σ : rm_St} {A : Nat → Prop} (h : va_D A (rn_W k a σ)) : rn_inj a := fun i j hi hj e => h.1 i j _ _ (rn_get hi) (rn_get hj) e
theorem rn_D_A {k : rm_K} {a : Nat → Nat} {σ : rm_St} {A : Nat → Prop} (h : va_D A (rn_W k a σ)) : ∀ j, j < 15 → A (a j) := fun j hj => h.2 j _ (rn_get hj)
/-- the world of a walk: the classes, the cells, apart and among those that may change, and what has changed so far -/
def rn_Wd (k : rm_K) (a : Nat → Nat) (A : Nat → Prop) (H0 : Heap) (s : State) (σ : rm_St) (H : Heap) (locs : List Loc) : Prop :=
  va_K k.1 vwCl (rm_ty k) s ∧ va_P k.1 vwCl (rn_W k a σ) H ∧ va_D A (rn_W k a σ) ∧ va_S A H0 H locs
section RNR
variable {p : Program} {l : Launch} {e : Env} {R : Room} {s : State} {m : MethodId} {args : Array Value} {below : List Frame} {meth : Method} {c : Code} {H : Heap} {locs : List Loc} {cells slots : Nat} {Q : State → Prop}
variable {cc : ByteArray} {pc nL : Nat} {ls : Array Slot} {rest : List Value} {Ts : List Cond} {own : String} {k : rm_K} {a : Nat → Nat} {A : Nat → Prop} {H0 : Heap} {σ : rm_St}
abbrev rn_C (p : Program) (m : MethodId) (c : Code) (cc : ByteArray) (nL : Nat) (s : State) (args : Array Value) (Ts : List Cond) : Prop := CallFix p m c cc nL s args Ts RX1 ∧ ∀ w ∈ u_ws RX1 TX1 21, w ∈ Ts
theorem rn_iald (C : rn_C p m c cc nL s args Ts) (hw : rn_Wd k a A H0 s σ H locs) {q N i : Nat} (hq : q ≠ 0 ∧ q ≠ 2 ∧ q < 15 ∧ rn_len q = N) (hi : i < N) (hN : N ≤ 100) (hdg : decode cc pc = .ok (.iaload, 1))
    (kk : W p l e R s m args below meth c H locs cells slots Q (F0 m (pc + 1) ls (.int (σ q i) :: rest))) : W p l e R s m args below meth c H locs cells slots Q (F0 m pc ls (.int (nI i) :: .ref (a q) :: rest)) := by
  have hc : (nI i).toNatClampNeg = i := nI_clamp (by omega)
  refine va_iald C.1.1 C.1.2.1 hw.1 hw.2.1 q 0 (n := N) (f := σ q) (cA := k.2.1) (by rw [rn_get hq.2.2.1, rn_Er ⟨hq.1, hq.2.1⟩ hq.2.2.2]) rfl (vp_in_nI hi (by omega)) hdg ?_
  rw [hc]
  exact kk
theorem rn_zald (C : rn_C p m c cc nL s args Ts) (hw : rn_Wd k a A H0 s σ H locs) {i : Nat} (hi : i < 10) (hdg : decode cc pc = .ok (.baload, 1))
    (kk : W p l e R s m args below meth c H locs cells slots Q (F0 m (pc + 1) ls (.int (σ 2 i) :: rest))) : W p l e R s m args below meth c H locs cells slots Q (F0 m pc ls (.int (nI i) :: .ref (a 2) :: rest)) := by
  have hc : (nI i).toNatClampNeg = i := nI_clamp (by omega)
  refine va_zald C.1.1 C.1.2.1 hw.1 hw.2.1 2 1 (n := 10) (f := σ 2) (cA := k.2.2.1) (by rw [rn_get (by decide), rn_E2]) rfl (vp_in_nI hi (by decide)) hdg ?_
  rw [hc]
  exact kk
theorem rn_iast (C : rn_C p m c cc nL s args Ts) (hw : rn_Wd k a A H0 s σ H locs) {q N i : Nat} {x : Int32} (hq : q ≠ 0 ∧ q ≠ 2 ∧ q < 15 ∧ rn_len q = N) (hi : i < N) (hN : N ≤ 100) (hdg : decode cc pc = .ok (.iastore, 1))
    (kk : ∀ (H1 : Heap) (locs1 : List Loc), rn_Wd k a A H0 s (rm_up σ q i x) H1 locs1 → W p l e R s m args below meth c H1 locs1 cells slots Q (F0 m (pc + 1) ls rest)) : W p l e R s m args below meth c H locs cells slots Q (F0 m pc ls (.int x :: .int (nI i) :: .ref (a q) :: rest)) := by
  have hc : (nI i).toNatClampNeg = i := nI_clamp (by omega)
  refine va_iast C.1.1 C.1.2.1 hw.1 hw.2.1 hw.2.2.1 hw.2.2.2 q 0 (n := N) (f := σ q) (cA := k.2.1) (by rw [rn_get hq.2.2.1, rn_Er ⟨hq.1, hq.2.1⟩ hq.2.2.2]) rfl (vp_in_nI hi (by omega)) hdg (fun H1 locs1 hP hD hS => ?_)
  rw [hc, rn_set (j := i) (v := x) hq.2.2.1 (by rw [rn_Er ⟨hq.1, hq.2.1⟩ hq.2.2.2, rm_up_row])] at hP hD
  exact kk H1 locs1 ⟨hw.1, hP, hD, hS⟩
theorem rn_zast (C : rn_C p m c cc nL s args Ts) (hw : rn_Wd k a A H0 s σ H locs) {i : Nat} {x : Int32} (hi : i < 10) (hx : vp_nar .boolean x = x) (hdg : decode cc pc = .ok (.bastore, 1))
    (kk : ∀ (H1 : Heap) (locs1 : List Loc), rn_Wd k a A H0 s (rm_up σ 2 i x) H1 locs1 → W p l e R s m args below meth c H1 locs1 cells slots Q (F0 m (pc + 1) ls rest)) : W p l e R s m args below meth c H locs cells slots Q (F0 m pc ls (.int x :: .int (nI i) :: .ref (a 2) :: rest)) := by
  have hc : (nI i).toNatClampNeg = i := nI_clamp (by omega)
  refine va_zast C.1.1 C.1.2.1 hw.1 hw.2.1 hw.2.2.1 hw.2.2.2 2 1 (n := 10) (f := σ 2) (cA := k.2.2.1) (by rw [rn_get (by decide), rn_E2]) rfl (vp_in_nI hi (by decide)) hdg (fun H1 locs1 hP hD hS => ?_)
  rw [hc, hx, rn_set (j := i) (v := x) (by decide) (by rw [rn_E2, rm_up_row])] at hP hD
  exact kk H1 locs1 ⟨hw.1, hP, hD, hS⟩
theorem rn_F_i {j : Nat} (hj : j < 5 ∨ (18 < j ∧ j < 21)) : (rn_F a σ)[j]? = some (.int (σ 0 j)) := by
  rcases (show j = 0 ∨ j = 1 ∨ j = 2 ∨ j = 3 ∨ j = 4 ∨ j = 19 ∨ j = 20 by omega) with rfl | rfl | rfl | rfl | rfl | rfl | rfl <;> rfl
theorem rn_F_set {j : Nat} (hj : j < 5 ∨ (18 < j ∧ j < 21)) {v : Int32} : rn_F a (rm_up σ 0 j v) = (rn_F a σ).set j (.int v) := by
  rcases (show j = 0 ∨ j = 1 ∨ j = 2 ∨ j = 3 ∨ j = 4 ∨ j = 19 ∨ j = 20 by omega) with rfl | rfl | rfl | rfl | rfl | rfl | rfl <;> simp [rn_F, rm_up]
theorem rn_geti (C : rn_C p m c cc nL s args Ts) (hw : rn_Wd k a A H0 s σ H locs) (j : Nat) (hj : j < 5 ∨ (18 < j ∧ j < 21)) {index : Nat} (hl : (Cond.fieldLink RX1 index "RankMeshModel" (TX1 j).2.1 (TX1 j).2.2.1).before args s = true) (hsame : (TX1 j).1 = "RankMeshModel") (hdg : decode cc pc = .ok (.getfield index, 3))
    (kk : W p l e R s m args below meth c H locs cells slots Q (F0 m (pc + 3) ls (.int (σ 0 j) :: rest))) : W p l e R s m args below meth c H locs cells slots Q (F0 m pc ls (.ref (a 0) :: rest)) :=
  va_get (D := k.1) (ci := 1) (v := .int (σ 0 j)) (C := RX1) (T := TX1) (N := 21) C.1.1 C.1.2.1 C.1.2.2.2.2 C.2 C.1.2.2.2.1 hw.1 hw.2.1 0 (rn_get (by decide)) rfl j (by omega) hl (fun _ h9 => by rw [hsame] at h9; exact h9) (rn_F_i hj) hdg kk
theorem rn_geta (C : rn_C p m c cc nL s args Ts) (hw : rn_Wd k a A H0 s σ H locs) (f q : Nat) (hf : f < 21) (hv : (rn_F a σ)[f]? = some (.ref (a q))) {index : Nat} (hl : (Cond.fieldLink RX1 index "RankMeshModel" (TX1 f).2.1 (TX1 f).2.2.1).before args s = true) (hsame : (TX1 f).1 = "RankMeshModel") (hdg : decode cc pc = .ok (.getfield index, 3))
    (kk : W p l e R s m args below meth c H locs cells slots Q (F0 m (pc + 3) ls (.ref (a q) :: rest))) : W p l e R s m args below meth c H locs cells slots Q (F0 m pc ls (.ref (a 0) :: rest)) :=
  va_get (D := k.1) (ci := 1) (v := .ref (a q)) (C := RX1) (T := TX1) (N := 21) C.1.1 C.1.2.1 C.1.2.2.2.2 C.2 C.1.2.2.2.1 hw.1 hw.2.1 0 (rn_get (by decide)) rfl f hf hl (fun _ h9 => by rw [hsame] at h9; exact h9) hv hdg kk
theorem rn_puti (C : rn_C p m c cc nL s args Ts) (hw : rn_Wd k a A H0 s σ H locs) (j : Nat) (hj : j < 5 ∨ (18 < j ∧ j < 21)) {x : Int32} {index : Nat} (hl : (Cond.fieldLink RX1 index "RankMeshModel" (TX1 j).2.1 (TX1 j).2.2.1).before args s = true) (hsame : (TX1 j).1 = "RankMeshModel") (hfin : (TX1 j).2.2.2 = false) (hd : parseFieldDescriptor (TX1 j).2.2.1 = some .int) (hdg : decode cc pc = .ok (.putfield index, 3))
    (kk : ∀ (H1 : Heap) (locs1 : List Loc), rn_Wd k a A H0 s (rm_up σ 0 j x) H1 locs1 → W p l e R s m args below meth c H1 locs1 cells slots Q (F0 m (pc + 3) ls rest)) : W p l e R s m args below meth c H locs cells slots Q (F0 m pc ls (.int x :: .ref (a 0) :: rest)) := by
  refine va_put (D := k.1) (ci := 1) (v := .int x) (ty := .int) (C := RX1) (T := TX1) (N := 21) (fs := rn_F a σ) C.1.1 C.1.2.1 C.1.2.2.2.2 C.2 tyX1 tyX1_ok nmX1 C.1.2.2.2.1 hw.1 hw.2.1 hw.2.2.1 hw.2.2.2 0 (rn_get (by decide)) rfl j (by omega) hl (fun _ h9 => by rw [hsame] at h9; exact h9) hfin hd rfl rfl (by show j < 21; omega) hdg (fun H1 locs1 hP hD hS => ?_)
  rw [rn_set (j := j) (v := x) (by decide) (by rw [rn_E0, rn_F_set hj])] at hP hD
  exact kk H1 locs1 ⟨hw.1, hP, hD, hS⟩
end RNR
/-- contracts: an int, nothing -/
def rn_MI (l : Launch) (k : rm_K) (a : Nat → Nat) (y : MethodName) (ws : List Cond) (rmm : Room) (As : List Value) (σ : rm_St) (r0 : Int32) (σ0 : rm_St) : Prop :=
  ∀ sz : Nat, Met l y ws rmm (va_Pc (.ref (a 0) :: As) (fun U => U.heap.size = sz ∧ rn_P k a σ U)) (va_Qi (fun (r : Int32) (τ : rm_St) => r = r0 ∧ τ = σ0) (fun τ t => rn_P k a τ t) (rn_A a sz)) 0 0 (rn_A a sz)
def rn_MV (l : Launch) (k : rm_K) (a : Nat → Nat) (y : MethodName) (ws : List Cond) (rmm : Room) (As : List Value) (σ : rm_St) (σ0 : rm_St) : Prop :=
  ∀ sz : Nat, Met l y ws rmm (va_Pc (.ref (a 0) :: As) (fun U => U.heap.size = sz ∧ rn_P k a σ U)) (va_Qv (fun (τ : rm_St) => τ = σ0) (fun τ t => rn_P k a τ t) (rn_A a sz)) 0 0 (rn_A a sz)
section RNE
variable {l : Launch} {k : rm_K} {a : Nat → Nat} {y : MethodName} {ws ws' : List Cond} {rmm : Room} {As : List Value} {σ σ0 σ' : rm_St} {r0 : Int32} {cc : ByteArray} {nL : Nat} {ret : Option FieldType}
theorem rn_start {s : State} (ha : rn_inj a) (h : rn_P k a σ s) : rn_Wd k a (rn_A a s.heap.size) s.heap s σ s.heap [] :=
  ⟨h.2, h.1, rn_D ha (fun j hj => Or.inl ⟨j, hj, rfl⟩), va_S.rf⟩
theorem rn_enterI (ha : rn_inj a) (hy : plainName y.cls = true) (hcls : y.cls = RX1) (hw : ws = Cond.code y cc nL ret :: ws') (hin : ∀ w ∈ u_ws RX1 TX1 21, w ∈ ws) (hn : (lg_sl (.ref (a 0) :: As)).length ≤ nL)
    (body : ∀ (p : Program) (e : Env) (s : State) (m : MethodId) (args : Array Value) (below : List Frame) (meth : Method) (c : Code) (ls : Array Slot), rn_C p m c cc nL s args ws → meth.sig.returnType = ret → meth.locks = false → rn_Wd k a (rn_A a s.heap.size) s.heap s σ s.heap [] → lv_has ls nL (lv_args 0 (.ref (a 0) :: As)) →
      W p l e (headSpec ws rmm).room s m args below meth c s.heap [] 0 0 (MQ below (va_Qi (fun (r : Int32) (τ : rm_St) => r = r0 ∧ τ = σ0) (fun τ t => rn_P k a τ t) (rn_A a s.heap.size)) args s 0 0 (rn_A a s.heap.size)) (F0 m 0 ls [])) : rn_MI l k a y ws rmm As σ r0 σ0 := by
  intro sz
  refine Met.ofW (cc := cc) (maxL := nL) (ret := ret) hy hw ?_
  intro p e s m args below meth c s₁ B hml hv
  obtain ⟨rfl, hsz, hP⟩ := hv
  have hown : s.vm.findClass RX1 = some m.cls := hcls ▸ findClass_of_methodNamed B.named
  subst hsz
  have hl := lv_entry (.ref (a 0) :: As) (n := nL) hn
  rw [lg_entry_eq]
  exact body p e s m _ below meth c _ ⟨⟨B.exec, B.bytes, hml, hown, atoms_spec (ws := ws) B.pre⟩, hin⟩ B.returns B.notSynchronized (rn_start ha hP) hl
theorem rn_enterV (ha : rn_inj a) (hy : plainName y.cls = true) (hcls : y.cls = RX1) (hw : ws = Cond.code y cc nL ret :: ws') (hin : ∀ w ∈ u_ws RX1 TX1 21, w ∈ ws) (hn : (lg_sl (.ref (a 0) :: As)).length ≤ nL)
    (body : ∀ (p : Program) (e : Env) (s : State) (m : MethodId) (args : Array Value) (below : List Frame) (meth : Method) (c : Code) (ls : Array Slot), rn_C p m c cc nL s args ws → meth.sig.returnType = ret → meth.locks = false → rn_Wd k a (rn_A a s.heap.size) s.heap s σ s.heap [] → lv_has ls nL (lv_args 0 (.ref (a 0) :: As)) →
      W p l e (headSpec ws rmm).room s m args below meth c s.heap [] 0 0 (MQ below (va_Qv (fun (τ : rm_St) => τ = σ0) (fun τ t => rn_P k a τ t) (rn_A a s.heap.size)) args s 0 0 (rn_A a s.heap.size)) (F0 m 0 ls [])) : rn_MV l k a y ws rmm As σ σ0 := by
  intro sz
  refine Met.ofW (cc := cc) (maxL := nL) (ret := ret) hy hw ?_
  intro p e s m args below meth c s₁ B hml hv
  obtain ⟨rfl, hsz, hP⟩ := hv
  have hown : s.vm.findClass RX1 = some m.cls := hcls ▸ findClass_of_methodNamed B.named
  subst hsz
  have hl := lv_entry (.ref (a 0) :: As) (n := nL) hn
  rw [lg_entry_eq]
  exact body p e s m _ below meth c _ ⟨⟨B.exec, B.bytes, hml, hown, atoms_spec (ws := ws) B.pre⟩, hin⟩ B.returns B.notSynchronized (rn_start ha hP) hl
end RNE
section RNQ
variable {p : Program} {l : Launch} {e : Env} {R : Room} {s : State} {m : MethodId} {args : Array Value} {below : List Frame} {meth : Method} {c : Code} {H : Heap} {locs : List Loc} {cells slots : Nat} {Q : State → Prop}
variable {cc : ByteArray} {pc nL : Nat} {ls : Array Slot} {rest : List Value} {Ts : List Cond} {k : rm_K} {a : Nat → Nat} {A : Nat → Prop} {H0 : Heap} {σ σ0 : rm_St} {r0 v : Int32}
theorem rn_end {t : State} (hw : rn_Wd k a (rn_A a s.heap.size) s.heap s σ H locs) (ht : t.heap = H) (hW : s.WarmedH t.vm) : rn_P k a σ t ∧ va_F (rn_A a s.heap.size) s t :=
  ⟨⟨by rw [ht]; exact hw.2.1, va_K.moved hW.alike hw.1⟩, hw.2.2.2.F ht⟩
theorem rn_iret (C : rn_C p m c cc nL s args Ts) (hr : meth.sig.returnType = some .int) (hlocks : meth.locks = false) (hw : rn_Wd k a (rn_A a s.heap.size) s.heap s σ H locs) (hdg : decode cc pc = .ok (.ireturn, 1)) (h : v = r0 ∧ σ = σ0) :
    W p l e R s m args below meth c H locs cells slots (MQ below (va_Qi (fun (r : Int32) (τ : rm_St) => r = r0 ∧ τ = σ0) (fun τ t => rn_P k a τ t) (rn_A a s.heap.size)) args s cells slots (rn_A a s.heap.size)) (F0 m pc ls [.int v]) :=
  W.iret (v := v) C.1.1 C.1.2.1 hr (fun t ht hW => ⟨⟨v, σ, rfl, h, (rn_end hw ht hW).1⟩, (rn_end hw ht hW).2⟩) hw.2.2.2.2.2 hdg hlocks
theorem rn_zret (C : rn_C p m c cc nL s args Ts) (hr : meth.sig.returnType = some .boolean) (hlocks : meth.locks = false) (hw : rn_Wd k a (rn_A a s.heap.size) s.heap s σ H locs) (hn : narrow .boolean (.int v) = .int v) (hdg : decode cc pc = .ok (.ireturn, 1)) (h : v = r0 ∧ σ = σ0) :
    W p l e R s m args below meth c H locs cells slots (MQ below (va_Qi (fun (r : Int32) (τ : rm_St) => r = r0 ∧ τ = σ0) (fun τ t => rn_P k a τ t) (rn_A a s.heap.size)) args s cells slots (rn_A a s.heap.size)) (F0 m pc ls [.int v]) :=
  W.zret (v := v) C.1.1 C.1.2.1 hr hn (fun t ht hW => ⟨⟨v, σ, rfl, h, (rn_end hw ht hW).1⟩, (rn_end hw ht hW).2⟩) hw.2.2.2.2.2 hdg hlocks
theorem rn_vret (C : rn_C p m c cc nL s args Ts) (hr : meth.sig.returnType = none) (hlocks : meth.locks = false) (hw : rn_Wd k a (rn_A a s.heap.size) s.heap s σ H locs) (hdg : decode cc pc = .ok (.return_, 1)) (h : σ = σ0) :
    W p l e R s m args below meth c H locs cells slots (MQ below (va_Qv (fun (τ : rm_St) => τ = σ0) (fun τ t => rn_P k a τ t) (rn_A a s.heap.size)) args s cells slots (rn_A a s.heap.size)) (F0 m pc ls []) :=
  W.vret C.1.1 C.1.2.1 hr (fun t ht hW => ⟨⟨σ, rfl, h, (rn_end hw ht hW).1⟩, (rn_end hw ht hW).2⟩) hw.2.2.2.2.2 hdg hlocks
/-- what a call needs of the caller's world, and what it leaves -/
theorem rn_pre (hw : rn_Wd k a A H0 s σ H locs) (av : List Value) : PreV s H RX1 (a 0) (va_Pc (.ref (a 0) :: av) (fun U => U.heap.size = H.size ∧ rn_P k a σ U)) av :=
  ⟨fun x U g mk q => by obtain ⟨q0, q1, q2, q3⟩ := q; exact ⟨q0, q1, q2, va_K.moved (u := U) (U := U.calling g mk x) (Vm.Alike.refl U.vm) q3⟩,
    va_recv hw.1 hw.2.1 (ci := 1) (q0 := 0) (show vwCl[1]? = some (RX1, TX1, 21) from rfl) (rn_get (q := 0) (by decide)), fun U hU hW => ⟨rfl, by rw [hU], by rw [hU]; exact hw.2.1, va_K.moved hW.alike hw.1⟩⟩
theorem rn_sub (hw : rn_Wd k a A H0 s σ H locs) (hA : ∀ q, H0.size ≤ q → A q) : ∀ q, rn_A a H.size q → A q := fun q h => by
  rcases h with ⟨j, hj, rfl⟩ | h
  · exact rn_D_A hw.2.2.1 j hj
  · exact hA q (Nat.le_trans hw.2.2.2.1 h)
theorem rn_post {t : State} {H1 : Heap} {locs1 : List Loc} {τ : rm_St} (hw : rn_Wd k a A H0 s σ H locs) (ht : t.heap = H1) (hvm : s.vm.Alike t.vm) (hB : rn_P k a τ t) (hS : va_S A H0 H1 locs1) : rn_Wd k a A H0 s τ H1 locs1 :=
  ⟨va_K.moved hvm.symm hB.2, by rw [← ht]; exact hB.1, rn_D (rn_D_inj hw.2.2.1) (rn_D_A hw.2.2.1), hS⟩
variable {y : MethodName} {bytes : ByteArray} {maxL index n : Nat} {ret : Option FieldType} {ws : List Cond} {rmm : Room} {As st0 : List Value}
theorem rn_callI (C : rn_C p m c cc nL s args Ts) (hw : rn_Wd k a A H0 s σ H locs) (hA : ∀ q, H0.size ≤ q → A q) (hM : rn_MI l k a y ws rmm As σ r0 σ0) (cw : CallW R s args RX1 RX1 index y bytes maxL ret ws rmm 0 0 n) (hn : As.length = n) (hsize : ls.size = nL) (hstack : st0 = As.reverse ++ .ref (a 0) :: rest)
    (hW : 2 * (F0 m pc ls st0).monitorRoom + (rest.map fun v => v.category).sum ≤ 8) (hdg : decode cc pc = .ok (.invokevirtual index, 3)) (hf : cells ≤ R.cells ∧ slots ≤ R.slots)
    (kk : ∀ (H1 : Heap) (locs1 : List Loc), rn_Wd k a A H0 s σ0 H1 locs1 → W p l e R s m args below meth c H1 locs1 cells slots Q (F0 m (pc + 3) ls (.int r0 :: rest))) : W p l e R s m args below meth c H locs cells slots Q (F0 m pc ls st0) := by
  refine va_calli (va_runV (As := As) (rest := rest) C.1 (hM H.size) cw (rn_pre hw As) rfl hn hsize hstack hW hdg hf) hw.2.2.2 (fun q _ h => rn_sub hw hA q h) (fun q h => rn_sub hw hA q h) (fun r u t H1 locs1 ht hvm hp hB hz1 hk1 hS => ?_)
  obtain ⟨rfl, rfl⟩ := hp
  exact kk H1 locs1 (rn_post hw ht hvm hB hS)
theorem rn_callV (C : rn_C p m c cc nL s args Ts) (hw : rn_Wd k a A H0 s σ H locs) (hA : ∀ q, H0.size ≤ q → A q) (hM : rn_MV l k a y ws rmm As σ σ0) (cw : CallW R s args RX1 RX1 index y bytes maxL ret ws rmm 0 0 n) (hn : As.length = n) (hsize : ls.size = nL) (hstack : st0 = As.reverse ++ .ref (a 0) :: rest)
    (hW : 2 * (F0 m pc ls st0).monitorRoom + (rest.map fun v => v.category).sum ≤ 8) (hdg : decode cc pc = .ok (.invokevirtual index, 3)) (hf : cells ≤ R.cells ∧ slots ≤ R.slots)
    (kk : ∀ (H1 : Heap) (locs1 : List Loc), rn_Wd k a A H0 s σ0 H1 locs1 → W p l e R s m args below meth c H1 locs1 cells slots Q (F0 m (pc + 3) ls rest)) : W p l e R s m args below meth c H locs cells slots Q (F0 m pc ls st0) := by
  refine va_callv (va_runV (As := As) (rest := rest) C.1 (hM H.size) cw (rn_pre hw As) rfl hn hsize hstack hW hdg hf) hw.2.2.2 (fun q _ h => rn_sub hw hA q h) (fun q h => rn_sub hw hA q h) (fun u t H1 locs1 ht hvm hp hB hz1 hk1 hS => ?_)
  obtain rfl := hp
  exact kk H1 locs1 (rn_post hw ht hvm hB hS)
end RNQ

theorem rn_mul (n : Nat) : (10 : Int32) * nI n = nI (10 * n) := pk_mul 10 n
theorem rn_inc (b i : Nat) : nI (b + i) + Int32.ofInt 1 = nI (b + (i + 1)) := nI_1 (b + i)
theorem rn_add10 (b : Nat) : nI b + 10 = nI (b + 10) := nI_add b 10
theorem bI_nar (b : Bool) : narrow .boolean (.int (bI b)) = .int (bI b) := by cases b <;> rfl
section RNS
variable {p : Program} {l : Launch} {e : Env} {R : Room} {s : State} {m : MethodId} {args : Array Value} {below : List Frame} {meth : Method} {c : Code} {H : Heap} {locs : List Loc} {cells slots : Nat} {Q : State → Prop}
variable {cc : ByteArray} {pc nL : Nat} {ls : Array Slot} {rest : List Value} {Ts : List Cond} {k : rm_K} {a : Nat → Nat} {A : Nat → Prop} {H0 : Heap} {σ σ0 : rm_St} {r0 v : Int32} {own : String}
variable {y : MethodName} {bytes : ByteArray} {maxL index n : Nat} {ret : Option FieldType} {ws : List Cond} {rmm : Room} {As st0 : List Value}
theorem rn_callSI (C : rn_C p m c cc nL s args Ts) (hw : rn_Wd k a A H0 s σ H locs) (hM : rm_SI l y ws rmm As r0) (cw : CallB R s args RX1 index y bytes maxL ret ws rmm 0 0 n ∧ (Cond.static y).before args s = true) (hn : As.length = n) (hsize : ls.size = nL) (hstack : st0 = As.reverse ++ rest)
    (hW : 2 * (F0 m pc ls st0).monitorRoom + (rest.map fun v => v.category).sum ≤ 8) (hdg : decode cc pc = .ok (.invokestatic index, 3)) (hf : cells ≤ R.cells ∧ slots ≤ R.slots)
    (kk : ∀ (H1 : Heap) (locs1 : List Loc), rn_Wd k a A H0 s σ H1 locs1 → W p l e R s m args below meth c H1 locs1 cells slots Q (F0 m (pc + 3) ls (.int r0 :: rest))) : W p l e R s m args below meth c H locs cells slots Q (F0 m pc ls st0) :=
  rm_callSI0 C.1 hw.2.2.2 hM cw hn hsize hstack hW hdg hf (fun H1 locs1 hk hS => kk H1 locs1 ⟨hw.1, rm_kept hw.2.1 hk, hw.2.2.1, hS⟩)
end RNS
end
section
/-! what the model's methods do, as functions of its state -/
def isIn (v f t : Int32) : Bool := if v < f then false else if t < v then false else true
theorem isIn_nd (v : Int32) : isIn v 0 9 = isNd v := by
  unfold isIn isNd
  by_cases h : v < 0
  · rw [if_pos h, decide_eq_false (fun q => q h), Bool.false_and]
  · rw [if_neg h, decide_eq_true h, Bool.true_and]
    by_cases h2 : 9 < v
    · rw [if_pos h2]
      symm
      apply decide_eq_false
      intro q
      rw [Int32.lt_iff_toInt_lt] at h2 q
      have e9 : (9 : Int32).toInt = 9 := rfl
      have e10 : (10 : Int32).toInt = 10 := rfl
      omega
    · rw [if_neg h2]
      symm
      apply decide_eq_true
      rw [Int32.lt_iff_toInt_lt] at h2 ⊢
      have e9 : (9 : Int32).toInt = 9 := rfl
      have e10 : (10 : Int32).toInt = 10 := rfl
      omega
theorem isIn_of {v : Int32} (h : isIn v 1 100 = true) : ∃ T : Nat, 1 ≤ T ∧ T ≤ 100 ∧ v = nI T := by
  unfold isIn at h
  by_cases h1 : v < 1
  · rw [if_pos h1] at h; cases h
  · rw [if_neg h1] at h
    by_cases h2 : 100 < v
    · rw [if_pos h2] at h; cases h
    · rw [Int32.lt_iff_toInt_lt] at h1 h2
      have e1 : (1 : Int32).toInt = 1 := rfl
      have e2 : (100 : Int32).toInt = 100 := rfl
      have h0 : ¬ v < 0 := by
        rw [Int32.lt_iff_toInt_lt, Int32.toInt_zero]; omega
      obtain ⟨j, hj, e⟩ := nI_of h0
      rw [e, nI_toInt hj] at h1 h2
      exact ⟨j, by omega, by omega, e⟩
theorem rn_div {j : Nat} (h : j < 2 ^ 31) : nI j / 10 = nI (j / 10) := pk_div (d := 10) h (by decide) (by decide)
theorem rn_rem {j : Nat} (h : j < 2 ^ 31) : nI j - nI j / 10 * 10 = nI (j % 10) := pk_rem (d := 10) h (by decide) (by decide)
/-- every parent is a node or none -/
def rn_ok (σ : rm_St) : Prop := ∀ n, n < 10 → σ 7 n = -1 ∨ isNd (σ 7 n) = true
theorem rn_ok_up {σ : rm_St} {k j : Nat} {v : Int32} (h : rn_ok σ) (hk : k ≠ 7) : rn_ok (rm_up σ k j v) := fun n hn => by
  rw [rm_up_k (Ne.symm hk)]
  exact h n hn
theorem rn_ok_m1 {σ : rm_St} {j : Nat} (h : rn_ok σ) : rn_ok (rm_up σ 7 j (-1)) := fun n hn => by
  by_cases e : n = j
  · subst e
    exact Or.inl (rm_up_s _ _ _ _)
  · rw [rm_up_j e]
    exact h n hn
theorem rn_ok_nI {σ : rm_St} {j o : Nat} (h : rn_ok σ) (ho : o < 10) : rn_ok (rm_up σ 7 j (nI o)) := fun n hn => by
  by_cases e : n = j
  · subst e
    rw [rm_up_s]
    exact Or.inr (isNd_nI ho)
  · rw [rm_up_j e]
    exact h n hn
def rn_resets (σ : rm_St) (n : Nat) : rm_St := rm_up (rm_up σ 9 n (σ 0 2)) 10 n ((rm_up σ 9 n (σ 0 2)) 0 4 + (rm_up σ 9 n (σ 0 2)) 0 2)
def rn_rankBy (σ : rm_St) (n o : Nat) : Int32 := σ 13 (10 * n + o) + σ 1 (10 * n + o)
def rn_candL (σ : rm_St) (n o : Nat) : Nat → Nat → Bool → Bool
  | 0, _, x => x
  | r + 1, i, x => rn_candL σ n o r (i + 1) (if x = true then (if σ 13 (10 * n + i) = -1 then true else if σ 11 (10 * n + i) = σ 11 (10 * n + o) then (if σ 12 (10 * n + o) < σ 12 (10 * n + i) then false else true) else true) else false)
def rn_candT (σ : rm_St) (n o : Nat) (own x : Bool) : Bool :=
  if own = true then (if σ 12 (10 * n + o) = σ 5 n then (if 10000 ≤ σ 6 n then x else if x = true then (if σ 6 n ≤ σ 13 (10 * n + o) then false else if σ 8 n + σ 0 1 < rn_rankBy σ n o then false else true) else false) else x) else x
def rn_cand (σ : rm_St) (n o : Nat) : Bool :=
  if isIn (σ 13 (10 * n + o)) 0 9999 = true then (if rn_rankBy σ n o < 10000 then
    (if σ 11 (10 * n + o) = σ 4 n then (if σ 12 (10 * n + o) < σ 5 n then rn_candT σ n o true (rn_candL σ n o 10 0 false) else rn_candT σ n o true (rn_candL σ n o 10 0 true)) else rn_candT σ n o false (rn_candL σ n o 10 0 true)) else false) else false
def rn_tk1 (σ : rm_St) (n o : Nat) : rm_St := rm_up σ 7 n (nI o)
def rn_tk2 (σ : rm_St) (n o : Nat) : rm_St := rm_up (rn_tk1 σ n o) 4 n (rn_tk1 σ n o 11 (10 * n + o))
def rn_tk3 (σ : rm_St) (n o : Nat) : rm_St := rm_up (rn_tk2 σ n o) 5 n (rn_tk2 σ n o 12 (10 * n + o))
def rn_tk (σ : rm_St) (n o : Nat) : rm_St := rm_up (rn_tk3 σ n o) 6 n (rn_rankBy (rn_tk3 σ n o) n o)
def rn_takes (σ : rm_St) (n o : Nat) : rm_St :=
  if σ 11 (10 * n + o) = σ 4 n then (if σ 12 (10 * n + o) = σ 5 n then (if rn_tk σ n o 8 n ≤ rn_tk σ n o 6 n then rm_up (rn_tk σ n o) 8 n (rn_tk σ n o 8 n) else rm_up (rn_tk σ n o) 8 n (rn_tk σ n o 6 n)) else rm_up (rn_tk σ n o) 8 n (rn_tk σ n o 6 n)) else rm_up (rn_tk σ n o) 8 n (rn_tk σ n o 6 n)
def rn_bestL (σ : rm_St) (n : Nat) : Nat → Nat → Int32 → Int32
  | 0, _, b => b
  | r + 1, i, b => if rn_cand σ n i = true then (if b = -1 then rn_bestL σ n r (i + 1) (nI i) else if rn_rankBy σ n b.toNatClampNeg ≤ rn_rankBy σ n i then rn_bestL σ n r (i + 1) b else rn_bestL σ n r (i + 1) (nI i)) else rn_bestL σ n r (i + 1) b
def rn_best (σ : rm_St) (n : Nat) : Int32 := rn_bestL σ n 10 0 (-1)
def rn_pick (σ : rm_St) (n : Nat) (b : Int32) : Int32 :=
  if b = -1 then b else if σ 7 n = -1 then b else if rn_cand σ n (σ 7 n).toNatClampNeg = true then
    (if rn_rankBy σ n (σ 7 n).toNatClampNeg - rn_rankBy σ n b.toNatClampNeg < σ 0 0 then σ 7 n else if rn_rankBy σ n (σ 7 n).toNatClampNeg - rn_rankBy σ n b.toNatClampNeg < 1 then σ 7 n else b) else b
theorem rn_pick_ok {σ : rm_St} {n : Nat} {b : Int32} (h1 : b = -1 ∨ isNd b = true) (h2 : σ 7 n = -1 ∨ isNd (σ 7 n) = true) : rn_pick σ n b = -1 ∨ isNd (rn_pick σ n b) = true := by
  unfold rn_pick
  repeat' split
  all_goals first | exact h1 | exact h2
def rn_after (σ : rm_St) (n : Nat) (b : Int32) : rm_St := if b = -1 then rm_up (rm_up σ 7 n (-1)) 6 n 10000 else rn_takes σ n b.toNatClampNeg
def rn_chooseT (σ τ : rm_St) (n : Nat) : rm_St :=
  if τ 4 n = σ 4 n then (if τ 5 n = σ 5 n then (if τ 6 n = σ 6 n then (if τ 7 n = σ 7 n then τ else rn_resets τ n) else rn_resets τ n) else rn_resets τ n) else rn_resets τ n
def rn_chooses (σ : rm_St) (n : Nat) : rm_St :=
  if σ 2 n = 0 then rn_chooseT σ (rn_after σ n (rn_pick σ n (rn_best σ n))) n else σ
theorem rn_best_ok {σ : rm_St} {n : Nat} : ∀ (r i : Nat) (b : Int32), i + r = 10 → (b = -1 ∨ isNd b = true) → rn_bestL σ n r i b = -1 ∨ isNd (rn_bestL σ n r i b) = true := by
  intro r
  induction r with
  | zero => intro i b _ h; exact h
  | succ r ih =>
    intro i b hi h
    have hn : nI i = -1 ∨ isNd (nI i) = true := Or.inr (isNd_nI (by omega))
    unfold rn_bestL
    repeat' split
    all_goals first | exact ih _ _ (by omega) h | exact ih _ _ (by omega) hn
theorem rn_ok_resets {σ : rm_St} {n : Nat} (h : rn_ok σ) : rn_ok (rn_resets σ n) := rn_ok_up (rn_ok_up h (by decide)) (by decide)
theorem rn_ok_takes {σ : rm_St} {n o : Nat} (h : rn_ok σ) (ho : o < 10) : rn_ok (rn_takes σ n o) := by
  have h4 : rn_ok (rn_tk σ n o) := rn_ok_up (rn_ok_up (rn_ok_up (rn_ok_nI h ho) (by decide)) (by decide)) (by decide)
  unfold rn_takes
  repeat' split
  all_goals exact rn_ok_up h4 (by decide)
theorem rn_ok_after {σ : rm_St} {n : Nat} {b : Int32} (h : rn_ok σ) (hb : b = -1 ∨ isNd b = true) : rn_ok (rn_after σ n b) := by
  unfold rn_after
  split
  · exact rn_ok_up (rn_ok_m1 h) (by decide)
  · next hne =>
    obtain ⟨o, ho, rfl⟩ := isNd_of (hb.resolve_left hne)
    rw [rm_cl ho]
    exact rn_ok_takes h ho
theorem rn_ok_ch {σ : rm_St} {n : Nat} (h : rn_ok σ) (hn : n < 10) : rn_ok (rn_chooses σ n) := by
  have h1 : rn_ok (rn_after σ n (rn_pick σ n (rn_best σ n))) := rn_ok_after h (rn_pick_ok (rn_best_ok 10 0 (-1) rfl (Or.inl rfl)) (h n hn))
  unfold rn_chooses rn_chooseT
  repeat' split
  all_goals first | exact h | exact h1 | exact rn_ok_resets h1
def rn_hear (σ : rm_St) (t i : Nat) : rm_St :=
  rm_up (rm_up (rm_up σ 11 (10 * i + t) (σ 4 t)) 12 (10 * i + t) ((rm_up σ 11 (10 * i + t) (σ 4 t)) 5 t)) 13 (10 * i + t) ((rm_up (rm_up σ 11 (10 * i + t) (σ 4 t)) 12 (10 * i + t) ((rm_up σ 11 (10 * i + t) (σ 4 t)) 5 t)) 6 t)
theorem rn_ok_hear {σ : rm_St} {t i : Nat} (h : rn_ok σ) : rn_ok (rn_hear σ t i) := rn_ok_up (rn_ok_up (rn_ok_up h (by decide)) (by decide)) (by decide)
def rn_tellL (t : Nat) : Nat → Nat → rm_St → rm_St
  | 0, _, σ => σ
  | r + 1, i, σ => if σ 1 (10 * t + i) ≤ 0 then rn_tellL t r (i + 1) σ else rn_tellL t r (i + 1) (rn_chooses (rn_hear σ t i) i)
def rn_tells (σ : rm_St) (t : Nat) : rm_St := rn_tellL t 10 0 σ
theorem rn_ok_tellL {t : Nat} : ∀ (r i : Nat) (σ : rm_St), i + r = 10 → rn_ok σ → rn_ok (rn_tellL t r i σ) := by
  intro r
  induction r with
  | zero => intro i σ _ h; exact h
  | succ r ih =>
    intro i σ hi h
    unfold rn_tellL
    split
    · exact ih _ _ (by omega) h
    · exact ih _ _ (by omega) (rn_ok_ch (rn_ok_hear h) (by omega))
theorem rn_ok_tells {σ : rm_St} {t : Nat} (h : rn_ok σ) : rn_ok (rn_tells σ t) := rn_ok_tellL 10 0 σ rfl h
def rn_beg1 (σ : rm_St) (n : Nat) : rm_St := rm_up (rm_up σ 3 n (σ 3 n + 1)) 4 n (nI n)
def rn_begins (σ : rm_St) (n : Nat) : rm_St := rn_resets (rm_up (rm_up (rm_up (rm_up (rn_beg1 σ n) 5 n (rn_beg1 σ n 3 n)) 6 n 0) 7 n (-1)) 8 n 0) n
theorem rn_ok_begins {σ : rm_St} {n : Nat} (h : rn_ok σ) : rn_ok (rn_begins σ n) :=
  rn_ok_resets (rn_ok_up (rn_ok_m1 (rn_ok_up (rn_ok_up (rn_ok_up (rn_ok_up h (by decide)) (by decide)) (by decide)) (by decide))) (by decide))
def rn_g (σ : rm_St) : Int32 := σ 0 2 <<< (σ 0 3 &&& 31)
def rn_len0 (σ : rm_St) (n : Nat) : rm_St := if 2 * σ 9 n ≤ rn_g σ then rm_up σ 9 n (2 * σ 9 n) else rm_up σ 9 n (rn_g σ)
def rn_len2 (σ : rm_St) (n : Nat) : rm_St := rm_up (rn_len0 σ n) 10 n (rn_len0 σ n 0 4 + rn_len0 σ n 9 n)
theorem rn_ok_len {σ : rm_St} {n : Nat} (h : rn_ok σ) : rn_ok (rn_len2 σ n) := by
  refine rn_ok_up ?_ (by decide)
  unfold rn_len0
  split
  all_goals exact rn_ok_up h (by decide)
def rn_tickL : Nat → Nat → Int32 → rm_St → rm_St × Int32
  | 0, _, x, σ => (σ, x)
  | r + 1, i, x, σ => if σ 10 i = σ 0 4 then rn_tickL r (i + 1) (x + 1) (rn_len2 (rn_tells σ i) i) else rn_tickL r (i + 1) x σ
def rn_passL : Nat → Nat → Int32 → rm_St → rm_St × Int32
  | 0, _, x, σ => (σ, x)
  | r + 1, t, x, σ => rn_passL r (t + 1) (rn_tickL 10 0 x (rm_up σ 0 4 (σ 0 4 + 1))).2 (rn_tickL 10 0 x (rm_up σ 0 4 (σ 0 4 + 1))).1
def rn_pass (σ : rm_St) (v : Int32) : rm_St × Int32 :=
  if isIn v 1 100 = true then rn_passL v.toNatClampNeg 0 0 (rm_up σ 0 20 0) else (rm_up σ 0 20 1, 0)
/-! the calls of the face -/
def rn_of (σ : rm_St) (q : Nat) (v : Int32) : Int32 := if isNd v = true then σ q v.toNatClampNeg else 0
def rn_t1 (σ : rm_St) (v : Int32) : rm_St := if isNd v = true then rm_up σ 0 20 0 else rm_up σ 0 20 1
def rn_setRules (σ : rm_St) (x y z w : Int32) : rm_St :=
  if isIn x 0 100 = true then (if isIn y 0 10000 = true then (if isIn z 1 8 = true then (if isIn w 0 6 = true then
    rm_up (rm_up (rm_up (rm_up (rm_up σ 0 20 0) 0 0 x) 0 1 y) 0 2 z) 0 3 w else rm_up σ 0 20 1) else rm_up σ 0 20 1) else rm_up σ 0 20 1) else rm_up σ 0 20 1
def rn_lnk (σ : rm_St) (n o : Nat) (v : Int32) : rm_St :=
  if v = 0 then rm_up (rm_up (rm_up (rm_up σ 1 (10 * n + o) v) 1 (10 * o + n) v) 13 (10 * n + o) (-1)) 13 (10 * o + n) (-1) else rm_up (rm_up σ 1 (10 * n + o) v) 1 (10 * o + n) v
def rn_link (σ : rm_St) (x y v : Int32) : rm_St × Int32 :=
  if isNd x = true then (if isNd y = true then (if x = y then (rm_up σ 0 20 2, 0) else if isIn v 0 100 = true then
    (rn_chooses (rn_chooses (rn_lnk (rm_up σ 0 20 0) x.toNatClampNeg y.toNatClampNeg v) x.toNatClampNeg) y.toNatClampNeg, (rm_up σ 0 20 0) 1 (10 * x.toNatClampNeg + y.toNatClampNeg)) else (rm_up σ 0 20 2, 0)) else (rm_up σ 0 20 1, 0)) else (rm_up σ 0 20 1, 0)
def rn_makeRoot (σ : rm_St) (x : Int32) : rm_St × Int32 :=
  if isNd x = true then (if σ 2 x.toNatClampNeg = 0 then (rn_begins (rm_up (rm_up σ 0 20 0) 2 x.toNatClampNeg 1) x.toNatClampNeg, rn_begins (rm_up (rm_up σ 0 20 0) 2 x.toNatClampNeg 1) x.toNatClampNeg 5 x.toNatClampNeg) else (rm_up σ 0 20 2, 0)) else (rm_up σ 0 20 1, 0)
def rn_endS (σ : rm_St) (n : Nat) : rm_St := rn_resets (rm_up (rm_up (rm_up (rm_up σ 2 n 0) 4 n (-1)) 5 n 0) 6 n 10000) n
def rn_endRoot (σ : rm_St) (x : Int32) : rm_St :=
  if isNd x = true then (if σ 2 x.toNatClampNeg = 0 then rm_up σ 0 20 2 else rn_chooses (rn_endS (rm_up σ 0 20 0) x.toNatClampNeg) x.toNatClampNeg) else rm_up σ 0 20 1
def rn_renew (σ : rm_St) (x : Int32) : rm_St × Int32 :=
  if isNd x = true then (if σ 2 x.toNatClampNeg = 0 then (rm_up σ 0 20 2, 0) else (rn_begins (rm_up σ 0 20 0) x.toNatClampNeg, rn_begins (rm_up σ 0 20 0) x.toNatClampNeg 5 x.toNatClampNeg)) else (rm_up σ 0 20 1, 0)
def rn_tree (σ : rm_St) (x : Int32) : Int32 := if isNd x = true then (if σ 4 x.toNatClampNeg = -1 then -1 else 10 * σ 5 x.toNatClampNeg + σ 4 x.toNatClampNeg) else 0
def rn_t2 (σ : rm_St) (x y : Int32) : rm_St := if isNd x = true then (if isNd y = true then rm_up σ 0 20 0 else rm_up σ 0 20 1) else rm_up σ 0 20 1
def rn_heard (σ : rm_St) (x y : Int32) : Int32 := if isNd x = true then (if isNd y = true then σ 13 (10 * x.toNatClampNeg + y.toNatClampNeg) else 0) else 0
def rn_wayI : Nat → Nat → rm_St → rm_St
  | 0, _, σ => σ
  | r + 1, i, σ => if σ 2 i = 0 then rn_wayI r (i + 1) (rm_up σ 14 i 10000) else rn_wayI r (i + 1) (rm_up σ 14 i 0)
def rn_rel (σ : rm_St) (j : Nat) : rm_St :=
  if σ 1 j ≤ 0 then rm_up σ 14 (j % 10) (σ 14 (j % 10)) else if 10000 ≤ σ 14 (j / 10) then rm_up σ 14 (j % 10) (σ 14 (j % 10)) else if σ 14 (j % 10) ≤ σ 14 (j / 10) + σ 1 j then rm_up σ 14 (j % 10) (σ 14 (j % 10)) else rm_up σ 14 (j % 10) (σ 14 (j / 10) + σ 1 j)
def rn_relL : Nat → Nat → rm_St → rm_St
  | 0, _, σ => σ
  | r + 1, j, σ => rn_relL r (j + 1) (rn_rel σ j)
def rn_lrL : Nat → Nat → rm_St → rm_St
  | 0, _, σ => σ
  | r + 1, i, σ => rn_lrL r (i + 1) (rn_relL 100 0 σ)
def rn_leastRank (σ : rm_St) (x : Int32) : rm_St × Int32 :=
  if isNd x = true then (rn_lrL 10 0 (rn_wayI 10 0 (rm_up σ 0 20 0)), rn_lrL 10 0 (rn_wayI 10 0 (rm_up σ 0 20 0)) 14 x.toNatClampNeg) else (rm_up σ 0 20 1, 0)
def rn_undL (σ : rm_St) : Nat → Nat → Int32 → Int32
  | 0, _, x => x
  | r + 1, i, x => if σ 7 i = -1 then rn_undL σ r (i + 1) (x ||| 0) else if (x >>> (σ 7 i &&& 31)) &&& 1 = 1 then rn_undL σ r (i + 1) (x ||| ((1 : Int32) <<< (nI i &&& 31))) else rn_undL σ r (i + 1) (x ||| 0)
def rn_undO (σ : rm_St) : Nat → Nat → Int32 → Int32
  | 0, _, x => x
  | r + 1, t, x => rn_undO σ r (t + 1) (rn_undL σ 10 0 x)
def rn_under (σ : rm_St) (n : Nat) : Int32 := rn_undO σ 10 0 ((1 : Int32) <<< (nI n &&& 31))
def rn_below (σ : rm_St) (x : Int32) : Int32 := if isNd x = true then rn_under (rm_up σ 0 20 0) x.toNatClampNeg else 0
/-! the model's two static tests -/
set_option maxHeartbeats 4000000 in
set_option maxRecDepth 100000 in
theorem kX1_isIn (l : Launch) (v f t : Int32) : rm_SI l yX1_isIn wsX1_isIn ({ frames := 0, cells := 0, slots := 0, locals := 0 }) [.int v, .int f, .int t] (bI (isIn v f t)) := by
  refine Met.ofW (cc := cX1_isIn) (maxL := 3) (ret := (some .boolean)) (by decide) rfl ?_
  intro p e s m args below meth c s₁ B hml hv
  obtain ⟨rfl, -⟩ := hv
  have hx := B.exec
  have hb := B.bytes
  have hr := B.returns
  have hlocks := B.notSynchronized
  have hl := lv_entry ([.int v, .int f, .int t]) (n := 3) (Nat.le_of_ble_eq_true rfl)
  rw [lg_entry_eq]
  generalize (lg_sl ([.int v, .int f, .int t]) ++ List.replicate (3 - (lg_sl ([.int v, .int f, .int t])).length) Slot.unset).toArray = ls at hl ⊢
  have hl : lv_has ls 3 [(0, .int v), (1, .int f), (2, .int t)] := hl
  have fin : ∀ {t : State}, t.heap = s.heap → va_F (fun _ => False) s t := fun ht => ⟨by rw [ht]; exact Nat.le_refl _, fun q _ _ => by rw [ht]⟩
  refine lv_iload_n hx hb dX1_isIn_0 rfl (lv_at hl 0 rfl) ?_
  refine lv_iload_n hx hb dX1_isIn_1 rfl (lv_at hl 1 rfl) ?_
  refine lv_icmp_lt (tgt := 14) hx hb dX1_isIn_2 (by decide) (fun c1 => ?_) (fun c1 => ?_)
  · refine lv_iconst (v := 0) hx hb dX1_isIn_14 (by decide) ?_
    exact W.zret (v := 0) hx hb hr (by decide) (fun t ht hW => ⟨⟨0, (), rfl, by rw [isIn, if_pos c1]; rfl, trivial⟩, fin ht⟩) (fun q h => nomatch h) dX1_isIn_15 hlocks
  · refine lv_iload_n hx hb dX1_isIn_5 rfl (lv_at hl 0 rfl) ?_
    refine lv_iload_n hx hb dX1_isIn_6 rfl (lv_at hl 2 rfl) ?_
    refine lv_icmp_gt (tgt := 14) hx hb dX1_isIn_7 (by decide) (fun c2 => ?_) (fun c2 => ?_)
    · refine lv_iconst (v := 0) hx hb dX1_isIn_14 (by decide) ?_
      exact W.zret (v := 0) hx hb hr (by decide) (fun t ht hW => ⟨⟨0, (), rfl, by rw [isIn, if_neg c1, if_pos c2]; rfl, trivial⟩, fin ht⟩) (fun q h => nomatch h) dX1_isIn_15 hlocks
    · refine lv_iconst (v := 1) hx hb dX1_isIn_10 (by decide) ?_
      refine lv_goto (tgt := 15) hx hb dX1_isIn_11 (by decide) ?_
      exact W.zret (v := 1) hx hb hr (by decide) (fun t ht hW => ⟨⟨1, (), rfl, by rw [isIn, if_neg c1, if_neg c2]; rfl, trivial⟩, fin ht⟩) (fun q h => nomatch h) dX1_isIn_15 hlocks
set_option maxHeartbeats 4000000 in
set_option maxRecDepth 100000 in
theorem kX1_isNode (l : Launch) (v : Int32) : rm_SI l yX1_isNode wsX1_isNode ({ frames := 1, cells := 0, slots := 0, locals := 22 }) [.int v] (bI (isNd v)) := by
  refine Met.ofW (cc := cX1_isNode) (maxL := 1) (ret := (some .boolean)) (by decide) rfl ?_
  intro p e s m args below meth c s₁ B hml hv
  obtain ⟨rfl, -⟩ := hv
  have hx := B.exec
  have hb := B.bytes
  have hr := B.returns
  have hlocks := B.notSynchronized
  have hts := atoms_spec (ws := wsX1_isNode) B.pre
  have hown : s.vm.findClass RX1 = some m.cls := findClass_of_methodNamed B.named
  have hl := lv_entry ([.int v]) (n := 1) (Nat.le_of_ble_eq_true rfl)
  rw [lg_entry_eq]
  generalize (lg_sl ([.int v]) ++ List.replicate (1 - (lg_sl ([.int v])).length) Slot.unset).toArray = ls at hl ⊢
  have hl : lv_has ls 1 [(0, .int v)] := hl
  have hS : va_S (fun _ => False) s.heap s.heap [] := va_S.rf
  refine lv_iload_n hx hb dX1_isNode_0 rfl (lv_at hl 0 rfl) ?_
  refine lv_iconst (v := 0) hx hb dX1_isNode_1 (by decide) ?_
  refine lv_bipush (v := 9) hx hb dX1_isNode_2 (by decide) ?_
  refine rm_callSI0 (own := RX1) ⟨hx, hb, hml, hown, hts⟩ hS (As := [.int v, .int 0, .int 9]) (rest := []) (kX1_isIn l v 0 9) (va_cwS 3 hts gX1_isNode_X1_isIn rfl rfl rfl (by decide +kernel) ⟨Nat.le_of_ble_eq_true rfl, Nat.le_of_ble_eq_true rfl⟩) rfl hl.1 rfl (lv_room (Nat.le_of_ble_eq_true rfl)) dX1_isNode_4 ⟨Nat.zero_le _, Nat.zero_le _⟩ (fun H locs hk hS => ?_)
  rw [isIn_nd]
  exact W.zret (v := bI (isNd v)) hx hb hr (bI_nar _) (fun t ht hW => ⟨⟨bI (isNd v), (), rfl, rfl, trivial⟩, hS.F ht⟩) hS.2.2 dX1_isNode_7 hlocks
end
section
set_option maxHeartbeats 4000000 in
set_option maxRecDepth 100000 in
theorem kX1_fails (l : Launch) (k : rm_K) (a : Nat → Nat) (ha : rn_inj a) (σ : rm_St) (v r0 : Int32) (h : (if v ≤ 0 then 0 else 1) = r0) : rn_MI l k a yX1_fails wsX1_fails ({ frames := 0, cells := 0, slots := 0, locals := 0 }) [.int v] σ r0 (rm_up σ 0 20 v) := by
  refine rn_enterI (cc := cX1_fails) (nL := 2) (ret := (some .boolean)) ha (by decide) rfl rfl (by decide +kernel) (Nat.le_of_ble_eq_true rfl) ?_
  intro p e s m args below meth c ls C hr hlocks hw hl
  have hx := C.1.1
  have hb := C.1.2.1
  have hts := C.1.2.2.2.2
  replace hl : lv_has ls 2 [(0, .ref (a 0)), (1, .int v)] := hl
  refine lv_aload_n hx hb dX1_fails_0 rfl (lv_at hl 0 rfl) ?_
  refine lv_iload_n hx hb dX1_fails_1 rfl (lv_at hl 1 rfl) ?_
  refine rn_puti C hw 20 (by decide) (hts _ (by decide +kernel)) rfl rfl rfl dX1_fails_2 (fun H locs hw => ?_)
  refine lv_iload_n hx hb dX1_fails_5 rfl (lv_at hl 1 rfl) ?_
  refine lv_if_le (tgt := 13) hx hb dX1_fails_6 (by decide) (fun c_6 => ?_) (fun c_6 => ?_)
  · refine lv_iconst (v := 0) hx hb dX1_fails_13 (by decide) ?_
    exact rn_zret C hr hlocks hw (by decide) dX1_fails_14 ⟨by rw [← h, if_pos c_6], rfl⟩
  · refine lv_iconst (v := 1) hx hb dX1_fails_9 (by decide) ?_
    refine lv_goto (tgt := 14) hx hb dX1_fails_10 (by decide) ?_
    exact rn_zret C hr hlocks hw (by decide) dX1_fails_14 ⟨by rw [← h, if_neg c_6], rfl⟩
set_option maxHeartbeats 4000000 in
set_option maxRecDepth 100000 in
theorem kX1_thrown (l : Launch) (k : rm_K) (a : Nat → Nat) (ha : rn_inj a) (σ : rm_St)   : rn_MI l k a yX1_thrown wsX1_thrown ({ frames := 0, cells := 0, slots := 0, locals := 0 }) [] σ (σ 0 20) σ := by
  refine rn_enterI (cc := cX1_thrown) (nL := 1) (ret := (some .int)) ha (by decide) rfl rfl (by decide +kernel) (Nat.le_of_ble_eq_true rfl) ?_
  intro p e s m args below meth c ls C hr hlocks hw hl
  have hx := C.1.1
  have hb := C.1.2.1
  have hts := C.1.2.2.2.2
  have hA : ∀ q, s.heap.size ≤ q → rn_A a s.heap.size q := fun q h => Or.inr h
  replace hl : lv_has ls 1 [(0, .ref (a 0))] := hl
  refine lv_aload_n hx hb dX1_thrown_0 rfl (lv_at hl 0 rfl) ?_
  refine rn_geti C hw 20 (by decide) (hts _ (by decide +kernel)) rfl dX1_thrown_1 ?_
  exact rn_iret C hr hlocks hw dX1_thrown_4 ⟨by first | with_reducible rfl | (simp only [↓reduceIte, Bool.false_eq_true]; done) | (simp only [↓reduceIte, Bool.false_eq_true]; rfl) | rfl, by first | with_reducible rfl | (simp only [↓reduceIte, Bool.false_eq_true]; done) | (simp only [↓reduceIte, Bool.false_eq_true]; rfl) | rfl⟩
set_option maxHeartbeats 4000000 in
set_option maxRecDepth 100000 in
theorem kX1_resets (l : Launch) (k : rm_K) (a : Nat → Nat) (ha : rn_inj a) (σ : rm_St) (n : Nat) (hn : n < 10) : rn_MV l k a yX1_resets wsX1_resets ({ frames := 0, cells := 0, slots := 0, locals := 0 }) [.int (nI n)] σ  (rn_resets σ n) := by
  refine rn_enterV (cc := cX1_resets) (nL := 2) (ret := none) ha (by decide) rfl rfl (by decide +kernel) (Nat.le_of_ble_eq_true rfl) ?_
  intro p e s m args below meth c ls C hr hlocks hw hl
  have hx := C.1.1
  have hb := C.1.2.1
  have hts := C.1.2.2.2.2
  have hA : ∀ q, s.heap.size ≤ q → rn_A a s.heap.size q := fun q h => Or.inr h
  replace hl : lv_has ls 2 [(0, .ref (a 0)), (1, .int (nI n))] := hl
  refine lv_aload_n hx hb dX1_resets_0 rfl (lv_at hl 0 rfl) ?_
  refine rn_geta C hw 13 9 (by decide) rfl (hts _ (by decide +kernel)) rfl dX1_resets_1 ?_
  refine lv_iload_n hx hb dX1_resets_4 rfl (lv_at hl 1 rfl) ?_
  refine lv_aload_n hx hb dX1_resets_5 rfl (lv_at hl 0 rfl) ?_
  refine rn_geti C hw 2 (by decide) (hts _ (by decide +kernel)) rfl dX1_resets_6 ?_
  refine rn_iast C hw (N := 10) (by decide) hn (by decide) dX1_resets_9 (fun H locs hw => ?_)
  refine lv_aload_n hx hb dX1_resets_10 rfl (lv_at hl 0 rfl) ?_
  refine rn_geta C hw 14 10 (by decide) rfl (hts _ (by decide +kernel)) rfl dX1_resets_11 ?_
  refine lv_iload_n hx hb dX1_resets_14 rfl (lv_at hl 1 rfl) ?_
  refine lv_aload_n hx hb dX1_resets_15 rfl (lv_at hl 0 rfl) ?_
  refine rn_geti C hw 4 (by decide) (hts _ (by decide +kernel)) rfl dX1_resets_16 ?_
  refine lv_aload_n hx hb dX1_resets_19 rfl (lv_at hl 0 rfl) ?_
  refine rn_geti C hw 2 (by decide) (hts _ (by decide +kernel)) rfl dX1_resets_20 ?_
  refine lv_iadd hx hb dX1_resets_23 ?_
  refine rn_iast C hw (N := 10) (by decide) hn (by decide) dX1_resets_24 (fun H locs hw => ?_)
  exact rn_vret C hr hlocks hw dX1_resets_25 (by first | with_reducible rfl | (simp only [↓reduceIte, Bool.false_eq_true]; done) | (simp only [↓reduceIte, Bool.false_eq_true]; rfl) | rfl)
set_option maxHeartbeats 4000000 in
set_option maxRecDepth 100000 in
theorem kX1_rankBy (l : Launch) (k : rm_K) (a : Nat → Nat) (ha : rn_inj a) (σ : rm_St) (n : Nat) (o : Nat) (hn : n < 10) (ho : o < 10) : rn_MI l k a yX1_rankBy wsX1_rankBy ({ frames := 0, cells := 0, slots := 0, locals := 0 }) [.int (nI n), .int (nI o)] σ (rn_rankBy σ n o) σ := by
  refine rn_enterI (cc := cX1_rankBy) (nL := 3) (ret := (some .int)) ha (by decide) rfl rfl (by decide +kernel) (Nat.le_of_ble_eq_true rfl) ?_
  intro p e s m args below meth c ls C hr hlocks hw hl
  have hx := C.1.1
  have hb := C.1.2.1
  have hts := C.1.2.2.2.2
  have hA : ∀ q, s.heap.size ≤ q → rn_A a s.heap.size q := fun q h => Or.inr h
  replace hl : lv_has ls 3 [(0, .ref (a 0)), (1, .int (nI n)), (2, .int (nI o))] := hl
  refine lv_aload_n hx hb dX1_rankBy_0 rfl (lv_at hl 0 rfl) ?_
  refine rn_geta C hw 17 13 (by decide) rfl (hts _ (by decide +kernel)) rfl dX1_rankBy_1 ?_
  refine lv_bipush (v := 10) hx hb dX1_rankBy_4 (by decide) ?_
  refine lv_iload_n hx hb dX1_rankBy_6 rfl (lv_at hl 1 rfl) ?_
  refine lv_imul hx hb dX1_rankBy_7 ?_
  rw [rn_mul]
  refine lv_iload_n hx hb dX1_rankBy_8 rfl (lv_at hl 2 rfl) ?_
  refine lv_iadd hx hb dX1_rankBy_9 ?_
  rw [nI_add]
  refine rn_iald C hw (N := 100) (by decide) (by omega) (by decide) dX1_rankBy_10 ?_
  refine lv_aload_n hx hb dX1_rankBy_11 rfl (lv_at hl 0 rfl) ?_
  refine rn_geta C hw 5 1 (by decide) rfl (hts _ (by decide +kernel)) rfl dX1_rankBy_12 ?_
  refine lv_bipush (v := 10) hx hb dX1_rankBy_15 (by decide) ?_
  refine lv_iload_n hx hb dX1_rankBy_17 rfl (lv_at hl 1 rfl) ?_
  refine lv_imul hx hb dX1_rankBy_18 ?_
  rw [rn_mul]
  refine lv_iload_n hx hb dX1_rankBy_19 rfl (lv_at hl 2 rfl) ?_
  refine lv_iadd hx hb dX1_rankBy_20 ?_
  rw [nI_add]
  refine rn_iald C hw (N := 100) (by decide) (by omega) (by decide) dX1_rankBy_21 ?_
  refine lv_iadd hx hb dX1_rankBy_22 ?_
  exact rn_iret C hr hlocks hw dX1_rankBy_23 ⟨by first | with_reducible rfl | (simp only [↓reduceIte, Bool.false_eq_true]; done) | (simp only [↓reduceIte, Bool.false_eq_true]; rfl) | rfl, by first | with_reducible rfl | (simp only [↓reduceIte, Bool.false_eq_true]; done) | (simp only [↓reduceIte, Bool.false_eq_true]; rfl) | rfl⟩
set_option maxHeartbeats 4000000 in
set_option maxRecDepth 100000 in
theorem kX1_isCandidate (l : Launch) (k : rm_K) (a : Nat → Nat) (ha : rn_inj a) (σ : rm_St) (n : Nat) (o : Nat) (hn : n < 10) (ho : o < 10) : rn_MI l k a yX1_isCandidate wsX1_isCandidate ({ frames := 1, cells := 0, slots := 0, locals := 22 }) [.int (nI n), .int (nI o)] σ (bI (rn_cand σ n o)) σ := by
  refine rn_enterI (cc := cX1_isCandidate) (nL := 8) (ret := (some .boolean)) ha (by decide) rfl rfl (by decide +kernel) (Nat.le_of_ble_eq_true rfl) ?_
  intro p e s m args below meth c ls C hr hlocks hw hl
  have hx := C.1.1
  have hb := C.1.2.1
  have hts := C.1.2.2.2.2
  have hA : ∀ q, s.heap.size ≤ q → rn_A a s.heap.size q := fun q h => Or.inr h
  replace hl : lv_has ls 8 [(0, .ref (a 0)), (1, .int (nI n)), (2, .int (nI o))] := hl
  refine lv_bipush (v := 10) hx hb dX1_isCandidate_0 (by decide) ?_
  refine lv_iload_n hx hb dX1_isCandidate_2 rfl (lv_at hl 1 rfl) ?_
  refine lv_imul hx hb dX1_isCandidate_3 ?_
  rw [rn_mul]
  refine lv_iload_n hx hb dX1_isCandidate_4 rfl (lv_at hl 2 rfl) ?_
  refine lv_iadd hx hb dX1_isCandidate_5 ?_
  rw [nI_add]
  refine lv_istore_n (lv' := [(3, .int (nI (10 * n + o))), (0, .ref (a 0)), (1, .int (nI n)), (2, .int (nI o))]) hx hb dX1_isCandidate_6 rfl hl (by decide) rfl (fun ls hl => ?_)
  refine lv_aload_n hx hb dX1_isCandidate_7 rfl (lv_at hl 1 rfl) ?_
  refine rn_geta C hw 17 13 (by decide) rfl (hts _ (by decide +kernel)) rfl dX1_isCandidate_8 ?_
  refine lv_iload_n hx hb dX1_isCandidate_11 rfl (lv_at hl 0 rfl) ?_
  refine rn_iald C hw (N := 100) (by decide) (by omega) (by decide) dX1_isCandidate_12 ?_
  refine lv_iconst (v := 0) hx hb dX1_isCandidate_13 (by decide) ?_
  refine lv_sipush (v := 9999) hx hb dX1_isCandidate_14 (by decide) ?_
  refine rn_callSI C hw (As := [.int (σ 13 (10 * n + o)), .int 0, .int 9999]) (rest := []) (kX1_isIn l (σ 13 (10 * n + o)) (0) (9999)) (va_cwS 3 hts gX1_isCandidate_X1_isIn rfl rfl rfl (by decide +kernel) ⟨Nat.le_of_ble_eq_true rfl, Nat.le_of_ble_eq_true rfl⟩) rfl hl.1 rfl (lv_room (Nat.le_of_ble_eq_true rfl)) dX1_isCandidate_17 ⟨Nat.zero_le _, Nat.zero_le _⟩ (fun H locs hw => ?_)
  refine rm_ifeq (tgt := 35) hx hb dX1_isCandidate_20 (by decide) (fun c_20 => ?_) (fun c_20 => ?_)
  · skip
    refine lv_iconst (v := 0) hx hb dX1_isCandidate_35 (by decide) ?_
    exact rn_zret C hr hlocks hw (by decide) dX1_isCandidate_36 ⟨by first | with_reducible rfl | (simp only [rn_cand, c_20, ↓reduceIte, Bool.false_eq_true]; done) | (simp only [rn_cand, c_20, ↓reduceIte, Bool.false_eq_true]; rfl) | rfl, by first | with_reducible rfl | (simp only [rn_cand, c_20, ↓reduceIte, Bool.false_eq_true]; done) | (simp only [rn_cand, c_20, ↓reduceIte, Bool.false_eq_true]; rfl) | rfl⟩
  · skip
    refine lv_aload_n hx hb dX1_isCandidate_23 rfl (lv_at hl 1 rfl) ?_
    refine lv_iload_n hx hb dX1_isCandidate_24 rfl (lv_at hl 2 rfl) ?_
    refine lv_iload_n hx hb dX1_isCandidate_25 rfl (lv_at hl 3 rfl) ?_
    refine rn_callI C hw hA (As := [.int (nI n), .int (nI o)]) (rest := []) (kX1_rankBy l k a ha σ n o hn ho) (cwV 2 hts gX1_isCandidate_X1_rankBy rfl rfl rfl (by decide +kernel) ⟨Nat.le_of_ble_eq_true rfl, Nat.le_of_ble_eq_true rfl⟩) rfl hl.1 rfl (lv_room (Nat.le_of_ble_eq_true rfl)) dX1_isCandidate_26 ⟨Nat.zero_le _, Nat.zero_le _⟩ (fun H locs hw => ?_)
    refine lv_sipush (v := 10000) hx hb dX1_isCandidate_29 (by decide) ?_
    refine lv_icmp_lt (tgt := 37) hx hb dX1_isCandidate_32 (by decide) (fun c_32 => ?_) (fun c_32 => ?_)
    · skip
      refine lv_aload_n hx hb dX1_isCandidate_37 rfl (lv_at hl 1 rfl) ?_
      refine rn_geta C hw 15 11 (by decide) rfl (hts _ (by decide +kernel)) rfl dX1_isCandidate_38 ?_
      refine lv_iload_n hx hb dX1_isCandidate_41 rfl (lv_at hl 0 rfl) ?_
      refine rn_iald C hw (N := 100) (by decide) (by omega) (by decide) dX1_isCandidate_42 ?_
      refine lv_aload_n hx hb dX1_isCandidate_43 rfl (lv_at hl 1 rfl) ?_
      refine rn_geta C hw 8 4 (by decide) rfl (hts _ (by decide +kernel)) rfl dX1_isCandidate_44 ?_
      refine lv_iload_n hx hb dX1_isCandidate_47 rfl (lv_at hl 2 rfl) ?_
      refine rn_iald C hw (N := 10) (by decide) hn (by decide) dX1_isCandidate_48 ?_
      refine lv_icmp_ne (tgt := 56) hx hb dX1_isCandidate_49 (by decide) (fun c_49 => ?_) (fun c_49 => ?_)
      · skip
        refine lv_iconst (v := 0) hx hb dX1_isCandidate_56 (by decide) ?_
        refine lv_istore (lv' := [(4, .int 0), (3, .int (nI (10 * n + o))), (0, .ref (a 0)), (1, .int (nI n)), (2, .int (nI o))]) hx hb dX1_isCandidate_57 hl (by decide) rfl (fun ls hl => ?_)
        refine lv_iload hx hb dX1_isCandidate_59 (lv_at hl 0 rfl) ?_
        refine lv_if_eq (tgt := 79) hx hb dX1_isCandidate_61 (by decide) (fun c_61 => ?_) (fun c_61 => ?_)
        · skip
          refine lv_iconst (v := 1) hx hb dX1_isCandidate_79 (by decide) ?_
          refine lv_goto (tgt := 84) hx hb dX1_isCandidate_80 (by decide) ?_
          refine lv_istore (lv' := [(5, .int 1), (4, .int 0), (3, .int (nI (10 * n + o))), (0, .ref (a 0)), (1, .int (nI n)), (2, .int (nI o))]) hx hb dX1_isCandidate_84 hl (by decide) rfl (fun ls hl => ?_)
          refine lv_bipush (v := 10) hx hb dX1_isCandidate_86 (by decide) ?_
          refine lv_iload_n hx hb dX1_isCandidate_88 rfl (lv_at hl 4 rfl) ?_
          refine lv_imul hx hb dX1_isCandidate_89 ?_
          rw [rn_mul]
          refine lv_istore (lv' := [(6, .int (nI (10 * n))), (5, .int 1), (4, .int 0), (3, .int (nI (10 * n + o))), (0, .ref (a 0)), (1, .int (nI n)), (2, .int (nI o))]) hx hb dX1_isCandidate_90 hl (by decide) rfl (fun ls hl => ?_)
          have lp_92 : ∀ (r i : Nat), i + r = 10 → ∀ (x5 : Bool), rn_candT σ n o false (rn_candL σ n o r i x5) = rn_cand σ n o → ∀ (H : Heap) (locs : List Loc), rn_Wd k a (rn_A a s.heap.size) s.heap s σ H locs → ∀ (ls : Array Slot), lv_has ls 8 [(0, .ref (a 0)), (1, .int (nI n)), (2, .int (nI o)), (3, .int (nI (10 * n + o))), (4, .int 0), (5, .int (bI (x5))), (6, .int (nI (10 * n + i)))] → W p l e (headSpec wsX1_isCandidate ({ frames := 1, cells := 0, slots := 0, locals := 22 })).room s m args below meth c H locs 0 0 (MQ below (va_Qi (fun (r : Int32) (τ : rm_St) => r = (bI (rn_cand σ n o)) ∧ τ = σ) (fun τ t => rn_P k a τ t) (rn_A a s.heap.size)) args s 0 0 (rn_A a s.heap.size)) (F0 m 92 ls []) := by
            intro r
            induction r with
            | zero =>
              intro i hi92 x5 ht92 H locs hw ls hl
              obtain rfl : i = 10 := by omega
              refine lv_iload hx hb dX1_isCandidate_92 (lv_at hl 6 rfl) ?_
              refine lv_bipush (v := 10) hx hb dX1_isCandidate_94 (by decide) ?_
              refine lv_iload_n hx hb dX1_isCandidate_96 rfl (lv_at hl 1 rfl) ?_
              refine lv_imul hx hb dX1_isCandidate_97 ?_
              rw [rn_mul]
              refine lv_bipush (v := 10) hx hb dX1_isCandidate_98 (by decide) ?_
              refine lv_iadd hx hb dX1_isCandidate_100 ?_
              rw [rn_add10]
              refine lv_icmp_ge (tgt := 177) hx hb dX1_isCandidate_101 (by decide) (fun c_101 => ?_) (fun c_101 => ?_)
              · skip
                refine lv_iload hx hb dX1_isCandidate_177 (lv_at hl 4 rfl) ?_
                refine lv_if_eq (tgt := 256) hx hb dX1_isCandidate_179 (by decide) (fun c_179 => ?_) (fun c_179 => ?_)
                · skip
                  refine lv_iload hx hb dX1_isCandidate_256 (lv_at hl 5 rfl) ?_
                  exact rn_zret C hr hlocks hw (bI_nar _) dX1_isCandidate_258 ⟨by first | with_reducible rfl | exact ht92 | (rw [← ht92]; first | with_reducible rfl | (simp only [rn_candL, rn_candT, ↓reduceIte, Bool.false_eq_true]; done) | (simp only [rn_candL, rn_candT, ↓reduceIte, Bool.false_eq_true]; rfl) | rfl) | (first | with_reducible rfl | (simp only [rn_cand, c_20, if_pos c_32, if_neg c_49, ↓reduceIte, Bool.false_eq_true]; done) | (simp only [rn_cand, c_20, if_pos c_32, if_neg c_49, ↓reduceIte, Bool.false_eq_true]; rfl) | rfl), by first | with_reducible rfl | exact ht92 | (rw [← ht92]; first | with_reducible rfl | (simp only [rn_candL, rn_candT, ↓reduceIte, Bool.false_eq_true]; done) | (simp only [rn_candL, rn_candT, ↓reduceIte, Bool.false_eq_true]; rfl) | rfl) | (first | with_reducible rfl | (simp only [rn_cand, c_20, if_pos c_32, if_neg c_49, ↓reduceIte, Bool.false_eq_true]; done) | (simp only [rn_cand, c_20, if_pos c_32, if_neg c_49, ↓reduceIte, Bool.false_eq_true]; rfl) | rfl)⟩
                · exact absurd rfl c_179
              · exact absurd (nI_le (a := 10 * n + 10) (b := 10 * n + 10) (Nat.le_refl _) (by omega)) c_101
            | succ r ih92 =>
              intro i hi92 x5 ht92 H locs hw ls hl
              have hlt92 : i < 10 := by omega
              refine lv_iload hx hb dX1_isCandidate_92 (lv_at hl 6 rfl) ?_
              refine lv_bipush (v := 10) hx hb dX1_isCandidate_94 (by decide) ?_
              refine lv_iload_n hx hb dX1_isCandidate_96 rfl (lv_at hl 1 rfl) ?_
              refine lv_imul hx hb dX1_isCandidate_97 ?_
              rw [rn_mul]
              refine lv_bipush (v := 10) hx hb dX1_isCandidate_98 (by decide) ?_
              refine lv_iadd hx hb dX1_isCandidate_100 ?_
              rw [rn_add10]
              refine lv_icmp_ge (tgt := 177) hx hb dX1_isCandidate_101 (by decide) (fun c_101 => ?_) (fun c_101 => ?_)
              · exact absurd c_101 (nI_ge (a := 10 * n + i) (b := 10 * n + 10) (by omega) (by omega))
              · skip
                refine lv_aload_n hx hb dX1_isCandidate_104 rfl (lv_at hl 0 rfl) ?_
                refine rn_geta C hw 17 13 (by decide) rfl (hts _ (by decide +kernel)) rfl dX1_isCandidate_105 ?_
                refine lv_iload hx hb dX1_isCandidate_108 (lv_at hl 6 rfl) ?_
                refine rn_iald C hw (N := 100) (by decide) (by omega) (by decide) dX1_isCandidate_110 ?_
                refine lv_iconst (v := (-1)) hx hb dX1_isCandidate_111 (by decide) ?_
                refine lv_icmp_eq (tgt := 135) hx hb dX1_isCandidate_112 (by decide) (fun c_112 => ?_) (fun c_112 => ?_)
                · skip
                  refine lv_iconst (v := 0) hx hb dX1_isCandidate_135 (by decide) ?_
                  refine lv_istore (lv' := [(7, .int 0), (0, .ref (a 0)), (1, .int (nI n)), (2, .int (nI o)), (3, .int (nI (10 * n + o))), (4, .int 0), (5, .int (bI (x5))), (6, .int (nI (10 * n + i)))]) hx hb dX1_isCandidate_136 hl (by decide) rfl (fun ls hl => ?_)
                  refine lv_iload hx hb dX1_isCandidate_138 (lv_at hl 6 rfl) ?_
                  refine rm_ifeq (tgt := 168) hx hb dX1_isCandidate_140 (by decide) (fun c_140 => ?_) (fun c_140 => ?_)
                  · skip
                    refine lv_iconst (v := 0) hx hb dX1_isCandidate_168 (by decide) ?_
                    refine lv_istore (lv' := [(5, .int 0), (7, .int 0), (0, .ref (a 0)), (1, .int (nI n)), (2, .int (nI o)), (3, .int (nI (10 * n + o))), (4, .int 0), (6, .int (nI (10 * n + i)))]) hx hb dX1_isCandidate_169 hl (by decide) rfl (fun ls hl => ?_)
                    refine lv_iinc (v := nI (10 * n + (i + 1))) (lv' := [(6, .int (nI (10 * n + (i + 1)))), (5, .int 0), (7, .int 0), (0, .ref (a 0)), (1, .int (nI n)), (2, .int (nI o)), (3, .int (nI (10 * n + o))), (4, .int 0)]) hx hb dX1_isCandidate_171 hl (k := 7) rfl (rn_inc (10 * n) i) (by decide) rfl (fun ls hl => ?_)
                    refine lv_goto (tgt := 92) hx hb dX1_isCandidate_174 (by decide) ?_
                    exact ih92 (i + 1) (by omega) (false) (by refine Eq.trans ?_ ht92; first | with_reducible rfl | (simp only [rn_candL, rn_candT, if_pos c_112, c_140, ↓reduceIte, Bool.false_eq_true]; done) | (simp only [rn_candL, rn_candT, if_pos c_112, c_140, ↓reduceIte, Bool.false_eq_true]; rfl) | rfl) _ _ hw _ (lv_sub hl [3, 4, 5, 6, 7, 1, 0] rfl)
                  · skip
                    refine lv_iload hx hb dX1_isCandidate_143 (lv_at hl 0 rfl) ?_
                    refine lv_if_eq (tgt := 164) hx hb dX1_isCandidate_145 (by decide) (fun c_145 => ?_) (fun c_145 => ?_)
                    · skip
                      refine lv_iconst (v := 1) hx hb dX1_isCandidate_164 (by decide) ?_
                      refine lv_goto (tgt := 169) hx hb dX1_isCandidate_165 (by decide) ?_
                      refine lv_istore (lv' := [(5, .int 1), (7, .int 0), (0, .ref (a 0)), (1, .int (nI n)), (2, .int (nI o)), (3, .int (nI (10 * n + o))), (4, .int 0), (6, .int (nI (10 * n + i)))]) hx hb dX1_isCandidate_169 hl (by decide) rfl (fun ls hl => ?_)
                      refine lv_iinc (v := nI (10 * n + (i + 1))) (lv' := [(6, .int (nI (10 * n + (i + 1)))), (5, .int 1), (7, .int 0), (0, .ref (a 0)), (1, .int (nI n)), (2, .int (nI o)), (3, .int (nI (10 * n + o))), (4, .int 0)]) hx hb dX1_isCandidate_171 hl (k := 7) rfl (rn_inc (10 * n) i) (by decide) rfl (fun ls hl => ?_)
                      refine lv_goto (tgt := 92) hx hb dX1_isCandidate_174 (by decide) ?_
                      exact ih92 (i + 1) (by omega) (true) (by refine Eq.trans ?_ ht92; first | with_reducible rfl | (simp only [rn_candL, rn_candT, if_pos c_112, c_140, ↓reduceIte, Bool.false_eq_true]; done) | (simp only [rn_candL, rn_candT, if_pos c_112, c_140, ↓reduceIte, Bool.false_eq_true]; rfl) | rfl) _ _ hw _ (lv_sub hl [3, 4, 5, 6, 7, 1, 0] rfl)
                    · exact absurd rfl c_145
                · skip
                  refine lv_aload_n hx hb dX1_isCandidate_115 rfl (lv_at hl 0 rfl) ?_
                  refine rn_geta C hw 15 11 (by decide) rfl (hts _ (by decide +kernel)) rfl dX1_isCandidate_116 ?_
                  refine lv_iload hx hb dX1_isCandidate_119 (lv_at hl 6 rfl) ?_
                  refine rn_iald C hw (N := 100) (by decide) (by omega) (by decide) dX1_isCandidate_121 ?_
                  refine lv_aload_n hx hb dX1_isCandidate_122 rfl (lv_at hl 0 rfl) ?_
                  refine rn_geta C hw 15 11 (by decide) rfl (hts _ (by decide +kernel)) rfl dX1_isCandidate_123 ?_
                  refine lv_iload_n hx hb dX1_isCandidate_126 rfl (lv_at hl 3 rfl) ?_
                  refine rn_iald C hw (N := 100) (by decide) (by omega) (by decide) dX1_isCandidate_127 ?_
                  refine lv_icmp_ne (tgt := 135) hx hb dX1_isCandidate_128 (by decide) (fun c_128 => ?_) (fun c_128 => ?_)
                  · skip
                    refine lv_iconst (v := 0) hx hb dX1_isCandidate_135 (by decide) ?_
                    refine lv_istore (lv' := [(7, .int 0), (0, .ref (a 0)), (1, .int (nI n)), (2, .int (nI o)), (3, .int (nI (10 * n + o))), (4, .int 0), (5, .int (bI (x5))), (6, .int (nI (10 * n + i)))]) hx hb dX1_isCandidate_136 hl (by decide) rfl (fun ls hl => ?_)
                    refine lv_iload hx hb dX1_isCandidate_138 (lv_at hl 6 rfl) ?_
                    refine rm_ifeq (tgt := 168) hx hb dX1_isCandidate_140 (by decide) (fun c_140 => ?_) (fun c_140 => ?_)
                    · skip
                      refine lv_iconst (v := 0) hx hb dX1_isCandidate_168 (by decide) ?_
                      refine lv_istore (lv' := [(5, .int 0), (7, .int 0), (0, .ref (a 0)), (1, .int (nI n)), (2, .int (nI o)), (3, .int (nI (10 * n + o))), (4, .int 0), (6, .int (nI (10 * n + i)))]) hx hb dX1_isCandidate_169 hl (by decide) rfl (fun ls hl => ?_)
                      refine lv_iinc (v := nI (10 * n + (i + 1))) (lv' := [(6, .int (nI (10 * n + (i + 1)))), (5, .int 0), (7, .int 0), (0, .ref (a 0)), (1, .int (nI n)), (2, .int (nI o)), (3, .int (nI (10 * n + o))), (4, .int 0)]) hx hb dX1_isCandidate_171 hl (k := 7) rfl (rn_inc (10 * n) i) (by decide) rfl (fun ls hl => ?_)
                      refine lv_goto (tgt := 92) hx hb dX1_isCandidate_174 (by decide) ?_
                      exact ih92 (i + 1) (by omega) (false) (by refine Eq.trans ?_ ht92; first | with_reducible rfl | (simp only [rn_candL, rn_candT, if_neg c_112, if_neg c_128, c_140, ↓reduceIte, Bool.false_eq_true]; done) | (simp only [rn_candL, rn_candT, if_neg c_112, if_neg c_128, c_140, ↓reduceIte, Bool.false_eq_true]; rfl) | rfl) _ _ hw _ (lv_sub hl [3, 4, 5, 6, 7, 1, 0] rfl)
                    · skip
                      refine lv_iload hx hb dX1_isCandidate_143 (lv_at hl 0 rfl) ?_
                      refine lv_if_eq (tgt := 164) hx hb dX1_isCandidate_145 (by decide) (fun c_145 => ?_) (fun c_145 => ?_)
                      · skip
                        refine lv_iconst (v := 1) hx hb dX1_isCandidate_164 (by decide) ?_
                        refine lv_goto (tgt := 169) hx hb dX1_isCandidate_165 (by decide) ?_
                        refine lv_istore (lv' := [(5, .int 1), (7, .int 0), (0, .ref (a 0)), (1, .int (nI n)), (2, .int (nI o)), (3, .int (nI (10 * n + o))), (4, .int 0), (6, .int (nI (10 * n + i)))]) hx hb dX1_isCandidate_169 hl (by decide) rfl (fun ls hl => ?_)
                        refine lv_iinc (v := nI (10 * n + (i + 1))) (lv' := [(6, .int (nI (10 * n + (i + 1)))), (5, .int 1), (7, .int 0), (0, .ref (a 0)), (1, .int (nI n)), (2, .int (nI o)), (3, .int (nI (10 * n + o))), (4, .int 0)]) hx hb dX1_isCandidate_171 hl (k := 7) rfl (rn_inc (10 * n) i) (by decide) rfl (fun ls hl => ?_)
                        refine lv_goto (tgt := 92) hx hb dX1_isCandidate_174 (by decide) ?_
                        exact ih92 (i + 1) (by omega) (true) (by refine Eq.trans ?_ ht92; first | with_reducible rfl | (simp only [rn_candL, rn_candT, if_neg c_112, if_neg c_128, c_140, ↓reduceIte, Bool.false_eq_true]; done) | (simp only [rn_candL, rn_candT, if_neg c_112, if_neg c_128, c_140, ↓reduceIte, Bool.false_eq_true]; rfl) | rfl) _ _ hw _ (lv_sub hl [3, 4, 5, 6, 7, 1, 0] rfl)
                      · exact absurd rfl c_145
                  · skip
                    refine lv_iconst (v := 1) hx hb dX1_isCandidate_131 (by decide) ?_
                    refine lv_goto (tgt := 136) hx hb dX1_isCandidate_132 (by decide) ?_
                    refine lv_istore (lv' := [(7, .int 1), (0, .ref (a 0)), (1, .int (nI n)), (2, .int (nI o)), (3, .int (nI (10 * n + o))), (4, .int 0), (5, .int (bI (x5))), (6, .int (nI (10 * n + i)))]) hx hb dX1_isCandidate_136 hl (by decide) rfl (fun ls hl => ?_)
                    refine lv_iload hx hb dX1_isCandidate_138 (lv_at hl 6 rfl) ?_
                    refine rm_ifeq (tgt := 168) hx hb dX1_isCandidate_140 (by decide) (fun c_140 => ?_) (fun c_140 => ?_)
                    · skip
                      refine lv_iconst (v := 0) hx hb dX1_isCandidate_168 (by decide) ?_
                      refine lv_istore (lv' := [(5, .int 0), (7, .int 1), (0, .ref (a 0)), (1, .int (nI n)), (2, .int (nI o)), (3, .int (nI (10 * n + o))), (4, .int 0), (6, .int (nI (10 * n + i)))]) hx hb dX1_isCandidate_169 hl (by decide) rfl (fun ls hl => ?_)
                      refine lv_iinc (v := nI (10 * n + (i + 1))) (lv' := [(6, .int (nI (10 * n + (i + 1)))), (5, .int 0), (7, .int 1), (0, .ref (a 0)), (1, .int (nI n)), (2, .int (nI o)), (3, .int (nI (10 * n + o))), (4, .int 0)]) hx hb dX1_isCandidate_171 hl (k := 7) rfl (rn_inc (10 * n) i) (by decide) rfl (fun ls hl => ?_)
                      refine lv_goto (tgt := 92) hx hb dX1_isCandidate_174 (by decide) ?_
                      exact ih92 (i + 1) (by omega) (false) (by refine Eq.trans ?_ ht92; first | with_reducible rfl | (simp only [rn_candL, rn_candT, if_neg c_112, if_pos c_128, c_140, ↓reduceIte, Bool.false_eq_true]; done) | (simp only [rn_candL, rn_candT, if_neg c_112, if_pos c_128, c_140, ↓reduceIte, Bool.false_eq_true]; rfl) | rfl) _ _ hw _ (lv_sub hl [3, 4, 5, 6, 7, 1, 0] rfl)
                    · skip
                      refine lv_iload hx hb dX1_isCandidate_143 (lv_at hl 0 rfl) ?_
                      refine lv_if_eq (tgt := 164) hx hb dX1_isCandidate_145 (by decide) (fun c_145 => ?_) (fun c_145 => ?_)
                      · exact absurd c_145 (by decide)
                      · skip
                        refine lv_aload_n hx hb dX1_isCandidate_148 rfl (lv_at hl 1 rfl) ?_
                        refine rn_geta C hw 16 12 (by decide) rfl (hts _ (by decide +kernel)) rfl dX1_isCandidate_149 ?_
                        refine lv_iload hx hb dX1_isCandidate_152 (lv_at hl 7 rfl) ?_
                        refine rn_iald C hw (N := 100) (by decide) (by omega) (by decide) dX1_isCandidate_154 ?_
                        refine lv_aload_n hx hb dX1_isCandidate_155 rfl (lv_at hl 1 rfl) ?_
                        refine rn_geta C hw 16 12 (by decide) rfl (hts _ (by decide +kernel)) rfl dX1_isCandidate_156 ?_
                        refine lv_iload_n hx hb dX1_isCandidate_159 rfl (lv_at hl 4 rfl) ?_
                        refine rn_iald C hw (N := 100) (by decide) (by omega) (by decide) dX1_isCandidate_160 ?_
                        refine lv_icmp_gt (tgt := 168) hx hb dX1_isCandidate_161 (by decide) (fun c_161 => ?_) (fun c_161 => ?_)
                        · skip
                          refine lv_iconst (v := 0) hx hb dX1_isCandidate_168 (by decide) ?_
                          refine lv_istore (lv' := [(5, .int 0), (7, .int 1), (0, .ref (a 0)), (1, .int (nI n)), (2, .int (nI o)), (3, .int (nI (10 * n + o))), (4, .int 0), (6, .int (nI (10 * n + i)))]) hx hb dX1_isCandidate_169 hl (by decide) rfl (fun ls hl => ?_)
                          refine lv_iinc (v := nI (10 * n + (i + 1))) (lv' := [(6, .int (nI (10 * n + (i + 1)))), (5, .int 0), (7, .int 1), (0, .ref (a 0)), (1, .int (nI n)), (2, .int (nI o)), (3, .int (nI (10 * n + o))), (4, .int 0)]) hx hb dX1_isCandidate_171 hl (k := 7) rfl (rn_inc (10 * n) i) (by decide) rfl (fun ls hl => ?_)
                          refine lv_goto (tgt := 92) hx hb dX1_isCandidate_174 (by decide) ?_
                          exact ih92 (i + 1) (by omega) (false) (by refine Eq.trans ?_ ht92; first | with_reducible rfl | (simp only [rn_candL, rn_candT, if_neg c_112, if_pos c_128, c_140, if_pos c_161, ↓reduceIte, Bool.false_eq_true]; done) | (simp only [rn_candL, rn_candT, if_neg c_112, if_pos c_128, c_140, if_pos c_161, ↓reduceIte, Bool.false_eq_true]; rfl) | rfl) _ _ hw _ (lv_sub hl [3, 4, 5, 6, 7, 1, 0] rfl)
                        · skip
                          refine lv_iconst (v := 1) hx hb dX1_isCandidate_164 (by decide) ?_
                          refine lv_goto (tgt := 169) hx hb dX1_isCandidate_165 (by decide) ?_
                          refine lv_istore (lv' := [(5, .int 1), (7, .int 1), (0, .ref (a 0)), (1, .int (nI n)), (2, .int (nI o)), (3, .int (nI (10 * n + o))), (4, .int 0), (6, .int (nI (10 * n + i)))]) hx hb dX1_isCandidate_169 hl (by decide) rfl (fun ls hl => ?_)
                          refine lv_iinc (v := nI (10 * n + (i + 1))) (lv' := [(6, .int (nI (10 * n + (i + 1)))), (5, .int 1), (7, .int 1), (0, .ref (a 0)), (1, .int (nI n)), (2, .int (nI o)), (3, .int (nI (10 * n + o))), (4, .int 0)]) hx hb dX1_isCandidate_171 hl (k := 7) rfl (rn_inc (10 * n) i) (by decide) rfl (fun ls hl => ?_)
                          refine lv_goto (tgt := 92) hx hb dX1_isCandidate_174 (by decide) ?_
                          exact ih92 (i + 1) (by omega) (true) (by refine Eq.trans ?_ ht92; first | with_reducible rfl | (simp only [rn_candL, rn_candT, if_neg c_112, if_pos c_128, c_140, if_neg c_161, ↓reduceIte, Bool.false_eq_true]; done) | (simp only [rn_candL, rn_candT, if_neg c_112, if_pos c_128, c_140, if_neg c_161, ↓reduceIte, Bool.false_eq_true]; rfl) | rfl) _ _ hw _ (lv_sub hl [3, 4, 5, 6, 7, 1, 0] rfl)
          exact lp_92 10 0 (by omega) (true) (by first | with_reducible rfl | (unfold rn_cand; with_reducible rfl) | (simp only [rn_cand, c_20, if_pos c_32, if_neg c_49, ↓reduceIte, Bool.false_eq_true]; done) | (simp only [rn_cand, c_20, if_pos c_32, if_neg c_49, ↓reduceIte, Bool.false_eq_true]; with_reducible rfl) | rfl) _ _ hw _ (lv_sub hl [4, 5, 6, 3, 2, 1, 0] rfl)
        · exact absurd rfl c_61
      · skip
        refine lv_iconst (v := 1) hx hb dX1_isCandidate_52 (by decide) ?_
        refine lv_goto (tgt := 57) hx hb dX1_isCandidate_53 (by decide) ?_
        refine lv_istore (lv' := [(4, .int 1), (3, .int (nI (10 * n + o))), (0, .ref (a 0)), (1, .int (nI n)), (2, .int (nI o))]) hx hb dX1_isCandidate_57 hl (by decide) rfl (fun ls hl => ?_)
        refine lv_iload hx hb dX1_isCandidate_59 (lv_at hl 0 rfl) ?_
        refine lv_if_eq (tgt := 79) hx hb dX1_isCandidate_61 (by decide) (fun c_61 => ?_) (fun c_61 => ?_)
        · exact absurd c_61 (by decide)
        · skip
          refine lv_aload_n hx hb dX1_isCandidate_64 rfl (lv_at hl 2 rfl) ?_
          refine rn_geta C hw 16 12 (by decide) rfl (hts _ (by decide +kernel)) rfl dX1_isCandidate_65 ?_
          refine lv_iload_n hx hb dX1_isCandidate_68 rfl (lv_at hl 1 rfl) ?_
          refine rn_iald C hw (N := 100) (by decide) (by omega) (by decide) dX1_isCandidate_69 ?_
          refine lv_aload_n hx hb dX1_isCandidate_70 rfl (lv_at hl 2 rfl) ?_
          refine rn_geta C hw 9 5 (by decide) rfl (hts _ (by decide +kernel)) rfl dX1_isCandidate_71 ?_
          refine lv_iload_n hx hb dX1_isCandidate_74 rfl (lv_at hl 3 rfl) ?_
          refine rn_iald C hw (N := 10) (by decide) hn (by decide) dX1_isCandidate_75 ?_
          refine lv_icmp_lt (tgt := 83) hx hb dX1_isCandidate_76 (by decide) (fun c_76 => ?_) (fun c_76 => ?_)
          · skip
            refine lv_iconst (v := 0) hx hb dX1_isCandidate_83 (by decide) ?_
            refine lv_istore (lv' := [(5, .int 0), (4, .int 1), (3, .int (nI (10 * n + o))), (0, .ref (a 0)), (1, .int (nI n)), (2, .int (nI o))]) hx hb dX1_isCandidate_84 hl (by decide) rfl (fun ls hl => ?_)
            refine lv_bipush (v := 10) hx hb dX1_isCandidate_86 (by decide) ?_
            refine lv_iload_n hx hb dX1_isCandidate_88 rfl (lv_at hl 4 rfl) ?_
            refine lv_imul hx hb dX1_isCandidate_89 ?_
            rw [rn_mul]
            refine lv_istore (lv' := [(6, .int (nI (10 * n))), (5, .int 0), (4, .int 1), (3, .int (nI (10 * n + o))), (0, .ref (a 0)), (1, .int (nI n)), (2, .int (nI o))]) hx hb dX1_isCandidate_90 hl (by decide) rfl (fun ls hl => ?_)
            have lp_92 : ∀ (r i : Nat), i + r = 10 → ∀ (x5 : Bool), rn_candT σ n o true (rn_candL σ n o r i x5) = rn_cand σ n o → ∀ (H : Heap) (locs : List Loc), rn_Wd k a (rn_A a s.heap.size) s.heap s σ H locs → ∀ (ls : Array Slot), lv_has ls 8 [(0, .ref (a 0)), (1, .int (nI n)), (2, .int (nI o)), (3, .int (nI (10 * n + o))), (4, .int 1), (5, .int (bI (x5))), (6, .int (nI (10 * n + i)))] → W p l e (headSpec wsX1_isCandidate ({ frames := 1, cells := 0, slots := 0, locals := 22 })).room s m args below meth c H locs 0 0 (MQ below (va_Qi (fun (r : Int32) (τ : rm_St) => r = (bI (rn_cand σ n o)) ∧ τ = σ) (fun τ t => rn_P k a τ t) (rn_A a s.heap.size)) args s 0 0 (rn_A a s.heap.size)) (F0 m 92 ls []) := by
              intro r
              induction r with
              | zero =>
                intro i hi92 x5 ht92 H locs hw ls hl
                obtain rfl : i = 10 := by omega
                refine lv_iload hx hb dX1_isCandidate_92 (lv_at hl 6 rfl) ?_
                refine lv_bipush (v := 10) hx hb dX1_isCandidate_94 (by decide) ?_
                refine lv_iload_n hx hb dX1_isCandidate_96 rfl (lv_at hl 1 rfl) ?_
                refine lv_imul hx hb dX1_isCandidate_97 ?_
                rw [rn_mul]
                refine lv_bipush (v := 10) hx hb dX1_isCandidate_98 (by decide) ?_
                refine lv_iadd hx hb dX1_isCandidate_100 ?_
                rw [rn_add10]
                refine lv_icmp_ge (tgt := 177) hx hb dX1_isCandidate_101 (by decide) (fun c_101 => ?_) (fun c_101 => ?_)
                · skip
                  refine lv_iload hx hb dX1_isCandidate_177 (lv_at hl 4 rfl) ?_
                  refine lv_if_eq (tgt := 256) hx hb dX1_isCandidate_179 (by decide) (fun c_179 => ?_) (fun c_179 => ?_)
                  · exact absurd c_179 (by decide)
                  · skip
                    refine lv_aload_n hx hb dX1_isCandidate_182 rfl (lv_at hl 0 rfl) ?_
                    refine rn_geta C hw 16 12 (by decide) rfl (hts _ (by decide +kernel)) rfl dX1_isCandidate_183 ?_
                    refine lv_iload_n hx hb dX1_isCandidate_186 rfl (lv_at hl 3 rfl) ?_
                    refine rn_iald C hw (N := 100) (by decide) (by omega) (by decide) dX1_isCandidate_187 ?_
                    refine lv_aload_n hx hb dX1_isCandidate_188 rfl (lv_at hl 0 rfl) ?_
                    refine rn_geta C hw 9 5 (by decide) rfl (hts _ (by decide +kernel)) rfl dX1_isCandidate_189 ?_
                    refine lv_iload_n hx hb dX1_isCandidate_192 rfl (lv_at hl 1 rfl) ?_
                    refine rn_iald C hw (N := 10) (by decide) hn (by decide) dX1_isCandidate_193 ?_
                    refine lv_icmp_ne (tgt := 256) hx hb dX1_isCandidate_194 (by decide) (fun c_194 => ?_) (fun c_194 => ?_)
                    · skip
                      refine lv_iload hx hb dX1_isCandidate_256 (lv_at hl 5 rfl) ?_
                      exact rn_zret C hr hlocks hw (bI_nar _) dX1_isCandidate_258 ⟨by first | with_reducible rfl | exact ht92 | (rw [← ht92]; first | with_reducible rfl | (simp only [rn_candL, rn_candT, if_neg c_194, ↓reduceIte, Bool.false_eq_true]; done) | (simp only [rn_candL, rn_candT, if_neg c_194, ↓reduceIte, Bool.false_eq_true]; rfl) | rfl) | (first | with_reducible rfl | (simp only [rn_cand, c_20, if_pos c_32, if_pos c_49, if_pos c_76, if_neg c_194, ↓reduceIte, Bool.false_eq_true]; done) | (simp only [rn_cand, c_20, if_pos c_32, if_pos c_49, if_pos c_76, if_neg c_194, ↓reduceIte, Bool.false_eq_true]; rfl) | rfl), by first | with_reducible rfl | exact ht92 | (rw [← ht92]; first | with_reducible rfl | (simp only [rn_candL, rn_candT, if_neg c_194, ↓reduceIte, Bool.false_eq_true]; done) | (simp only [rn_candL, rn_candT, if_neg c_194, ↓reduceIte, Bool.false_eq_true]; rfl) | rfl) | (first | with_reducible rfl | (simp only [rn_cand, c_20, if_pos c_32, if_pos c_49, if_pos c_76, if_neg c_194, ↓reduceIte, Bool.false_eq_true]; done) | (simp only [rn_cand, c_20, if_pos c_32, if_pos c_49, if_pos c_76, if_neg c_194, ↓reduceIte, Bool.false_eq_true]; rfl) | rfl)⟩
                    · skip
                      refine lv_aload_n hx hb dX1_isCandidate_197 rfl (lv_at hl 0 rfl) ?_
                      refine rn_geta C hw 10 6 (by decide) rfl (hts _ (by decide +kernel)) rfl dX1_isCandidate_198 ?_
                      refine lv_iload_n hx hb dX1_isCandidate_201 rfl (lv_at hl 1 rfl) ?_
                      refine rn_iald C hw (N := 10) (by decide) hn (by decide) dX1_isCandidate_202 ?_
                      refine lv_sipush (v := 10000) hx hb dX1_isCandidate_203 (by decide) ?_
                      refine lv_icmp_ge (tgt := 256) hx hb dX1_isCandidate_206 (by decide) (fun c_206 => ?_) (fun c_206 => ?_)
                      · skip
                        refine lv_iload hx hb dX1_isCandidate_256 (lv_at hl 5 rfl) ?_
                        exact rn_zret C hr hlocks hw (bI_nar _) dX1_isCandidate_258 ⟨by first | with_reducible rfl | exact ht92 | (rw [← ht92]; first | with_reducible rfl | (simp only [rn_candL, rn_candT, if_pos c_194, if_pos c_206, ↓reduceIte, Bool.false_eq_true]; done) | (simp only [rn_candL, rn_candT, if_pos c_194, if_pos c_206, ↓reduceIte, Bool.false_eq_true]; rfl) | rfl) | (first | with_reducible rfl | (simp only [rn_cand, c_20, if_pos c_32, if_pos c_49, if_pos c_76, if_pos c_194, if_pos c_206, ↓reduceIte, Bool.false_eq_true]; done) | (simp only [rn_cand, c_20, if_pos c_32, if_pos c_49, if_pos c_76, if_pos c_194, if_pos c_206, ↓reduceIte, Bool.false_eq_true]; rfl) | rfl), by first | with_reducible rfl | exact ht92 | (rw [← ht92]; first | with_reducible rfl | (simp only [rn_candL, rn_candT, if_pos c_194, if_pos c_206, ↓reduceIte, Bool.false_eq_true]; done) | (simp only [rn_candL, rn_candT, if_pos c_194, if_pos c_206, ↓reduceIte, Bool.false_eq_true]; rfl) | rfl) | (first | with_reducible rfl | (simp only [rn_cand, c_20, if_pos c_32, if_pos c_49, if_pos c_76, if_pos c_194, if_pos c_206, ↓reduceIte, Bool.false_eq_true]; done) | (simp only [rn_cand, c_20, if_pos c_32, if_pos c_49, if_pos c_76, if_pos c_194, if_pos c_206, ↓reduceIte, Bool.false_eq_true]; rfl) | rfl)⟩
                      · skip
                        refine lv_iload hx hb dX1_isCandidate_209 (lv_at hl 5 rfl) ?_
                        refine rm_ifeq (tgt := 253) hx hb dX1_isCandidate_211 (by decide) (fun c_211 => ?_) (fun c_211 => ?_)
                        · skip
                          refine lv_iconst (v := 0) hx hb dX1_isCandidate_253 (by decide) ?_
                          refine lv_istore (lv' := [(5, .int 0), (0, .ref (a 0)), (1, .int (nI n)), (2, .int (nI o)), (3, .int (nI (10 * n + o))), (4, .int 1), (6, .int (nI (10 * n + 10)))]) hx hb dX1_isCandidate_254 hl (by decide) rfl (fun ls hl => ?_)
                          refine lv_iload hx hb dX1_isCandidate_256 (lv_at hl 0 rfl) ?_
                          exact rn_zret C hr hlocks hw (by decide) dX1_isCandidate_258 ⟨by first | with_reducible rfl | exact ht92 | (rw [← ht92]; first | with_reducible rfl | (simp only [rn_candL, rn_candT, if_pos c_194, if_neg c_206, c_211, ↓reduceIte, Bool.false_eq_true]; done) | (simp only [rn_candL, rn_candT, if_pos c_194, if_neg c_206, c_211, ↓reduceIte, Bool.false_eq_true]; rfl) | rfl) | (first | with_reducible rfl | (simp only [rn_cand, c_20, if_pos c_32, if_pos c_49, if_pos c_76, if_pos c_194, if_neg c_206, c_211, ↓reduceIte, Bool.false_eq_true]; done) | (simp only [rn_cand, c_20, if_pos c_32, if_pos c_49, if_pos c_76, if_pos c_194, if_neg c_206, c_211, ↓reduceIte, Bool.false_eq_true]; rfl) | rfl), by first | with_reducible rfl | exact ht92 | (rw [← ht92]; first | with_reducible rfl | (simp only [rn_candL, rn_candT, if_pos c_194, if_neg c_206, c_211, ↓reduceIte, Bool.false_eq_true]; done) | (simp only [rn_candL, rn_candT, if_pos c_194, if_neg c_206, c_211, ↓reduceIte, Bool.false_eq_true]; rfl) | rfl) | (first | with_reducible rfl | (simp only [rn_cand, c_20, if_pos c_32, if_pos c_49, if_pos c_76, if_pos c_194, if_neg c_206, c_211, ↓reduceIte, Bool.false_eq_true]; done) | (simp only [rn_cand, c_20, if_pos c_32, if_pos c_49, if_pos c_76, if_pos c_194, if_neg c_206, c_211, ↓reduceIte, Bool.false_eq_true]; rfl) | rfl)⟩
                        · skip
                          refine lv_aload_n hx hb dX1_isCandidate_214 rfl (lv_at hl 0 rfl) ?_
                          refine rn_geta C hw 17 13 (by decide) rfl (hts _ (by decide +kernel)) rfl dX1_isCandidate_215 ?_
                          refine lv_iload_n hx hb dX1_isCandidate_218 rfl (lv_at hl 3 rfl) ?_
                          refine rn_iald C hw (N := 100) (by decide) (by omega) (by decide) dX1_isCandidate_219 ?_
                          refine lv_aload_n hx hb dX1_isCandidate_220 rfl (lv_at hl 0 rfl) ?_
                          refine rn_geta C hw 10 6 (by decide) rfl (hts _ (by decide +kernel)) rfl dX1_isCandidate_221 ?_
                          refine lv_iload_n hx hb dX1_isCandidate_224 rfl (lv_at hl 1 rfl) ?_
                          refine rn_iald C hw (N := 10) (by decide) hn (by decide) dX1_isCandidate_225 ?_
                          refine lv_icmp_ge (tgt := 253) hx hb dX1_isCandidate_226 (by decide) (fun c_226 => ?_) (fun c_226 => ?_)
                          · skip
                            refine lv_iconst (v := 0) hx hb dX1_isCandidate_253 (by decide) ?_
                            refine lv_istore (lv' := [(5, .int 0), (0, .ref (a 0)), (1, .int (nI n)), (2, .int (nI o)), (3, .int (nI (10 * n + o))), (4, .int 1), (6, .int (nI (10 * n + 10)))]) hx hb dX1_isCandidate_254 hl (by decide) rfl (fun ls hl => ?_)
                            refine lv_iload hx hb dX1_isCandidate_256 (lv_at hl 0 rfl) ?_
                            exact rn_zret C hr hlocks hw (by decide) dX1_isCandidate_258 ⟨by first | with_reducible rfl | exact ht92 | (rw [← ht92]; first | with_reducible rfl | (simp only [rn_candL, rn_candT, if_pos c_194, if_neg c_206, c_211, if_pos c_226, ↓reduceIte, Bool.false_eq_true]; done) | (simp only [rn_candL, rn_candT, if_pos c_194, if_neg c_206, c_211, if_pos c_226, ↓reduceIte, Bool.false_eq_true]; rfl) | rfl) | (first | with_reducible rfl | (simp only [rn_cand, c_20, if_pos c_32, if_pos c_49, if_pos c_76, if_pos c_194, if_neg c_206, c_211, if_pos c_226, ↓reduceIte, Bool.false_eq_true]; done) | (simp only [rn_cand, c_20, if_pos c_32, if_pos c_49, if_pos c_76, if_pos c_194, if_neg c_206, c_211, if_pos c_226, ↓reduceIte, Bool.false_eq_true]; rfl) | rfl), by first | with_reducible rfl | exact ht92 | (rw [← ht92]; first | with_reducible rfl | (simp only [rn_candL, rn_candT, if_pos c_194, if_neg c_206, c_211, if_pos c_226, ↓reduceIte, Bool.false_eq_true]; done) | (simp only [rn_candL, rn_candT, if_pos c_194, if_neg c_206, c_211, if_pos c_226, ↓reduceIte, Bool.false_eq_true]; rfl) | rfl) | (first | with_reducible rfl | (simp only [rn_cand, c_20, if_pos c_32, if_pos c_49, if_pos c_76, if_pos c_194, if_neg c_206, c_211, if_pos c_226, ↓reduceIte, Bool.false_eq_true]; done) | (simp only [rn_cand, c_20, if_pos c_32, if_pos c_49, if_pos c_76, if_pos c_194, if_neg c_206, c_211, if_pos c_226, ↓reduceIte, Bool.false_eq_true]; rfl) | rfl)⟩
                          · skip
                            refine lv_aload_n hx hb dX1_isCandidate_229 rfl (lv_at hl 0 rfl) ?_
                            refine lv_iload_n hx hb dX1_isCandidate_230 rfl (lv_at hl 1 rfl) ?_
                            refine lv_iload_n hx hb dX1_isCandidate_231 rfl (lv_at hl 2 rfl) ?_
                            refine rn_callI C hw hA (As := [.int (nI n), .int (nI o)]) (rest := []) (kX1_rankBy l k a ha σ n o hn ho) (cwV 2 hts gX1_isCandidate_X1_rankBy rfl rfl rfl (by decide +kernel) ⟨Nat.le_of_ble_eq_true rfl, Nat.le_of_ble_eq_true rfl⟩) rfl hl.1 rfl (lv_room (Nat.le_of_ble_eq_true rfl)) dX1_isCandidate_232 ⟨Nat.zero_le _, Nat.zero_le _⟩ (fun H locs hw => ?_)
                            refine lv_aload_n hx hb dX1_isCandidate_235 rfl (lv_at hl 0 rfl) ?_
                            refine rn_geta C hw 12 8 (by decide) rfl (hts _ (by decide +kernel)) rfl dX1_isCandidate_236 ?_
                            refine lv_iload_n hx hb dX1_isCandidate_239 rfl (lv_at hl 1 rfl) ?_
                            refine rn_iald C hw (N := 10) (by decide) hn (by decide) dX1_isCandidate_240 ?_
                            refine lv_aload_n hx hb dX1_isCandidate_241 rfl (lv_at hl 0 rfl) ?_
                            refine rn_geti C hw 1 (by decide) (hts _ (by decide +kernel)) rfl dX1_isCandidate_242 ?_
                            refine lv_iadd hx hb dX1_isCandidate_245 ?_
                            refine lv_icmp_gt (tgt := 253) hx hb dX1_isCandidate_246 (by decide) (fun c_246 => ?_) (fun c_246 => ?_)
                            · skip
                              refine lv_iconst (v := 0) hx hb dX1_isCandidate_253 (by decide) ?_
                              refine lv_istore (lv' := [(5, .int 0), (0, .ref (a 0)), (1, .int (nI n)), (2, .int (nI o)), (3, .int (nI (10 * n + o))), (4, .int 1), (6, .int (nI (10 * n + 10)))]) hx hb dX1_isCandidate_254 hl (by decide) rfl (fun ls hl => ?_)
                              refine lv_iload hx hb dX1_isCandidate_256 (lv_at hl 0 rfl) ?_
                              exact rn_zret C hr hlocks hw (by decide) dX1_isCandidate_258 ⟨by first | with_reducible rfl | exact ht92 | (rw [← ht92]; first | with_reducible rfl | (simp only [rn_candL, rn_candT, if_pos c_194, if_neg c_206, c_211, if_neg c_226, if_pos c_246, ↓reduceIte, Bool.false_eq_true]; done) | (simp only [rn_candL, rn_candT, if_pos c_194, if_neg c_206, c_211, if_neg c_226, if_pos c_246, ↓reduceIte, Bool.false_eq_true]; rfl) | rfl) | (first | with_reducible rfl | (simp only [rn_cand, c_20, if_pos c_32, if_pos c_49, if_pos c_76, if_pos c_194, if_neg c_206, c_211, if_neg c_226, if_pos c_246, ↓reduceIte, Bool.false_eq_true]; done) | (simp only [rn_cand, c_20, if_pos c_32, if_pos c_49, if_pos c_76, if_pos c_194, if_neg c_206, c_211, if_neg c_226, if_pos c_246, ↓reduceIte, Bool.false_eq_true]; rfl) | rfl), by first | with_reducible rfl | exact ht92 | (rw [← ht92]; first | with_reducible rfl | (simp only [rn_candL, rn_candT, if_pos c_194, if_neg c_206, c_211, if_neg c_226, if_pos c_246, ↓reduceIte, Bool.false_eq_true]; done) | (simp only [rn_candL, rn_candT, if_pos c_194, if_neg c_206, c_211, if_neg c_226, if_pos c_246, ↓reduceIte, Bool.false_eq_true]; rfl) | rfl) | (first | with_reducible rfl | (simp only [rn_cand, c_20, if_pos c_32, if_pos c_49, if_pos c_76, if_pos c_194, if_neg c_206, c_211, if_neg c_226, if_pos c_246, ↓reduceIte, Bool.false_eq_true]; done) | (simp only [rn_cand, c_20, if_pos c_32, if_pos c_49, if_pos c_76, if_pos c_194, if_neg c_206, c_211, if_neg c_226, if_pos c_246, ↓reduceIte, Bool.false_eq_true]; rfl) | rfl)⟩
                            · skip
                              refine lv_iconst (v := 1) hx hb dX1_isCandidate_249 (by decide) ?_
                              refine lv_goto (tgt := 254) hx hb dX1_isCandidate_250 (by decide) ?_
                              refine lv_istore (lv' := [(5, .int 1), (0, .ref (a 0)), (1, .int (nI n)), (2, .int (nI o)), (3, .int (nI (10 * n + o))), (4, .int 1), (6, .int (nI (10 * n + 10)))]) hx hb dX1_isCandidate_254 hl (by decide) rfl (fun ls hl => ?_)
                              refine lv_iload hx hb dX1_isCandidate_256 (lv_at hl 0 rfl) ?_
                              exact rn_zret C hr hlocks hw (by decide) dX1_isCandidate_258 ⟨by first | with_reducible rfl | exact ht92 | (rw [← ht92]; first | with_reducible rfl | (simp only [rn_candL, rn_candT, if_pos c_194, if_neg c_206, c_211, if_neg c_226, if_neg c_246, ↓reduceIte, Bool.false_eq_true]; done) | (simp only [rn_candL, rn_candT, if_pos c_194, if_neg c_206, c_211, if_neg c_226, if_neg c_246, ↓reduceIte, Bool.false_eq_true]; rfl) | rfl) | (first | with_reducible rfl | (simp only [rn_cand, c_20, if_pos c_32, if_pos c_49, if_pos c_76, if_pos c_194, if_neg c_206, c_211, if_neg c_226, if_neg c_246, ↓reduceIte, Bool.false_eq_true]; done) | (simp only [rn_cand, c_20, if_pos c_32, if_pos c_49, if_pos c_76, if_pos c_194, if_neg c_206, c_211, if_neg c_226, if_neg c_246, ↓reduceIte, Bool.false_eq_true]; rfl) | rfl), by first | with_reducible rfl | exact ht92 | (rw [← ht92]; first | with_reducible rfl | (simp only [rn_candL, rn_candT, if_pos c_194, if_neg c_206, c_211, if_neg c_226, if_neg c_246, ↓reduceIte, Bool.false_eq_true]; done) | (simp only [rn_candL, rn_candT, if_pos c_194, if_neg c_206, c_211, if_neg c_226, if_neg c_246, ↓reduceIte, Bool.false_eq_true]; rfl) | rfl) | (first | with_reducible rfl | (simp only [rn_cand, c_20, if_pos c_32, if_pos c_49, if_pos c_76, if_pos c_194, if_neg c_206, c_211, if_neg c_226, if_neg c_246, ↓reduceIte, Bool.false_eq_true]; done) | (simp only [rn_cand, c_20, if_pos c_32, if_pos c_49, if_pos c_76, if_pos c_194, if_neg c_206, c_211, if_neg c_226, if_neg c_246, ↓reduceIte, Bool.false_eq_true]; rfl) | rfl)⟩
                · exact absurd (nI_le (a := 10 * n + 10) (b := 10 * n + 10) (Nat.le_refl _) (by omega)) c_101
              | succ r ih92 =>
                intro i hi92 x5 ht92 H locs hw ls hl
                have hlt92 : i < 10 := by omega
                refine lv_iload hx hb dX1_isCandidate_92 (lv_at hl 6 rfl) ?_
                refine lv_bipush (v := 10) hx hb dX1_isCandidate_94 (by decide) ?_
                refine lv_iload_n hx hb dX1_isCandidate_96 rfl (lv_at hl 1 rfl) ?_
                refine lv_imul hx hb dX1_isCandidate_97 ?_
                rw [rn_mul]
                refine lv_bipush (v := 10) hx hb dX1_isCandidate_98 (by decide) ?_
                refine lv_iadd hx hb dX1_isCandidate_100 ?_
                rw [rn_add10]
                refine lv_icmp_ge (tgt := 177) hx hb dX1_isCandidate_101 (by decide) (fun c_101 => ?_) (fun c_101 => ?_)
                · exact absurd c_101 (nI_ge (a := 10 * n + i) (b := 10 * n + 10) (by omega) (by omega))
                · skip
                  refine lv_aload_n hx hb dX1_isCandidate_104 rfl (lv_at hl 0 rfl) ?_
                  refine rn_geta C hw 17 13 (by decide) rfl (hts _ (by decide +kernel)) rfl dX1_isCandidate_105 ?_
                  refine lv_iload hx hb dX1_isCandidate_108 (lv_at hl 6 rfl) ?_
                  refine rn_iald C hw (N := 100) (by decide) (by omega) (by decide) dX1_isCandidate_110 ?_
                  refine lv_iconst (v := (-1)) hx hb dX1_isCandidate_111 (by decide) ?_
                  refine lv_icmp_eq (tgt := 135) hx hb dX1_isCandidate_112 (by decide) (fun c_112 => ?_) (fun c_112 => ?_)
                  · skip
                    refine lv_iconst (v := 0) hx hb dX1_isCandidate_135 (by decide) ?_
                    refine lv_istore (lv' := [(7, .int 0), (0, .ref (a 0)), (1, .int (nI n)), (2, .int (nI o)), (3, .int (nI (10 * n + o))), (4, .int 1), (5, .int (bI (x5))), (6, .int (nI (10 * n + i)))]) hx hb dX1_isCandidate_136 hl (by decide) rfl (fun ls hl => ?_)
                    refine lv_iload hx hb dX1_isCandidate_138 (lv_at hl 6 rfl) ?_
                    refine rm_ifeq (tgt := 168) hx hb dX1_isCandidate_140 (by decide) (fun c_140 => ?_) (fun c_140 => ?_)
                    · skip
                      refine lv_iconst (v := 0) hx hb dX1_isCandidate_168 (by decide) ?_
                      refine lv_istore (lv' := [(5, .int 0), (7, .int 0), (0, .ref (a 0)), (1, .int (nI n)), (2, .int (nI o)), (3, .int (nI (10 * n + o))), (4, .int 1), (6, .int (nI (10 * n + i)))]) hx hb dX1_isCandidate_169 hl (by decide) rfl (fun ls hl => ?_)
                      refine lv_iinc (v := nI (10 * n + (i + 1))) (lv' := [(6, .int (nI (10 * n + (i + 1)))), (5, .int 0), (7, .int 0), (0, .ref (a 0)), (1, .int (nI n)), (2, .int (nI o)), (3, .int (nI (10 * n + o))), (4, .int 1)]) hx hb dX1_isCandidate_171 hl (k := 7) rfl (rn_inc (10 * n) i) (by decide) rfl (fun ls hl => ?_)
                      refine lv_goto (tgt := 92) hx hb dX1_isCandidate_174 (by decide) ?_
                      exact ih92 (i + 1) (by omega) (false) (by refine Eq.trans ?_ ht92; first | with_reducible rfl | (simp only [rn_candL, rn_candT, if_pos c_112, c_140, ↓reduceIte, Bool.false_eq_true]; done) | (simp only [rn_candL, rn_candT, if_pos c_112, c_140, ↓reduceIte, Bool.false_eq_true]; rfl) | rfl) _ _ hw _ (lv_sub hl [3, 4, 5, 6, 7, 1, 0] rfl)
                    · skip
                      refine lv_iload hx hb dX1_isCandidate_143 (lv_at hl 0 rfl) ?_
                      refine lv_if_eq (tgt := 164) hx hb dX1_isCandidate_145 (by decide) (fun c_145 => ?_) (fun c_145 => ?_)
                      · skip
                        refine lv_iconst (v := 1) hx hb dX1_isCandidate_164 (by decide) ?_
                        refine lv_goto (tgt := 169) hx hb dX1_isCandidate_165 (by decide) ?_
                        refine lv_istore (lv' := [(5, .int 1), (7, .int 0), (0, .ref (a 0)), (1, .int (nI n)), (2, .int (nI o)), (3, .int (nI (10 * n + o))), (4, .int 1), (6, .int (nI (10 * n + i)))]) hx hb dX1_isCandidate_169 hl (by decide) rfl (fun ls hl => ?_)
                        refine lv_iinc (v := nI (10 * n + (i + 1))) (lv' := [(6, .int (nI (10 * n + (i + 1)))), (5, .int 1), (7, .int 0), (0, .ref (a 0)), (1, .int (nI n)), (2, .int (nI o)), (3, .int (nI (10 * n + o))), (4, .int 1)]) hx hb dX1_isCandidate_171 hl (k := 7) rfl (rn_inc (10 * n) i) (by decide) rfl (fun ls hl => ?_)
                        refine lv_goto (tgt := 92) hx hb dX1_isCandidate_174 (by decide) ?_
                        exact ih92 (i + 1) (by omega) (true) (by refine Eq.trans ?_ ht92; first | with_reducible rfl | (simp only [rn_candL, rn_candT, if_pos c_112, c_140, ↓reduceIte, Bool.false_eq_true]; done) | (simp only [rn_candL, rn_candT, if_pos c_112, c_140, ↓reduceIte, Bool.false_eq_true]; rfl) | rfl) _ _ hw _ (lv_sub hl [3, 4, 5, 6, 7, 1, 0] rfl)
                      · exact absurd rfl c_145
                  · skip
                    refine lv_aload_n hx hb dX1_isCandidate_115 rfl (lv_at hl 0 rfl) ?_
                    refine rn_geta C hw 15 11 (by decide) rfl (hts _ (by decide +kernel)) rfl dX1_isCandidate_116 ?_
                    refine lv_iload hx hb dX1_isCandidate_119 (lv_at hl 6 rfl) ?_
                    refine rn_iald C hw (N := 100) (by decide) (by omega) (by decide) dX1_isCandidate_121 ?_
                    refine lv_aload_n hx hb dX1_isCandidate_122 rfl (lv_at hl 0 rfl) ?_
                    refine rn_geta C hw 15 11 (by decide) rfl (hts _ (by decide +kernel)) rfl dX1_isCandidate_123 ?_
                    refine lv_iload_n hx hb dX1_isCandidate_126 rfl (lv_at hl 3 rfl) ?_
                    refine rn_iald C hw (N := 100) (by decide) (by omega) (by decide) dX1_isCandidate_127 ?_
                    refine lv_icmp_ne (tgt := 135) hx hb dX1_isCandidate_128 (by decide) (fun c_128 => ?_) (fun c_128 => ?_)
                    · skip
                      refine lv_iconst (v := 0) hx hb dX1_isCandidate_135 (by decide) ?_
                      refine lv_istore (lv' := [(7, .int 0), (0, .ref (a 0)), (1, .int (nI n)), (2, .int (nI o)), (3, .int (nI (10 * n + o))), (4, .int 1), (5, .int (bI (x5))), (6, .int (nI (10 * n + i)))]) hx hb dX1_isCandidate_136 hl (by decide) rfl (fun ls hl => ?_)
                      refine lv_iload hx hb dX1_isCandidate_138 (lv_at hl 6 rfl) ?_
                      refine rm_ifeq (tgt := 168) hx hb dX1_isCandidate_140 (by decide) (fun c_140 => ?_) (fun c_140 => ?_)
                      · skip
                        refine lv_iconst (v := 0) hx hb dX1_isCandidate_168 (by decide) ?_
                        refine lv_istore (lv' := [(5, .int 0), (7, .int 0), (0, .ref (a 0)), (1, .int (nI n)), (2, .int (nI o)), (3, .int (nI (10 * n + o))), (4, .int 1), (6, .int (nI (10 * n + i)))]) hx hb dX1_isCandidate_169 hl (by decide) rfl (fun ls hl => ?_)
                        refine lv_iinc (v := nI (10 * n + (i + 1))) (lv' := [(6, .int (nI (10 * n + (i + 1)))), (5, .int 0), (7, .int 0), (0, .ref (a 0)), (1, .int (nI n)), (2, .int (nI o)), (3, .int (nI (10 * n + o))), (4, .int 1)]) hx hb dX1_isCandidate_171 hl (k := 7) rfl (rn_inc (10 * n) i) (by decide) rfl (fun ls hl => ?_)
                        refine lv_goto (tgt := 92) hx hb dX1_isCandidate_174 (by decide) ?_
                        exact ih92 (i + 1) (by omega) (false) (by refine Eq.trans ?_ ht92; first | with_reducible rfl | (simp only [rn_candL, rn_candT, if_neg c_112, if_neg c_128, c_140, ↓reduceIte, Bool.false_eq_true]; done) | (simp only [rn_candL, rn_candT, if_neg c_112, if_neg c_128, c_140, ↓reduceIte, Bool.false_eq_true]; rfl) | rfl) _ _ hw _ (lv_sub hl [3, 4, 5, 6, 7, 1, 0] rfl)
                      · skip
                        refine lv_iload hx hb dX1_isCandidate_143 (lv_at hl 0 rfl) ?_
                        refine lv_if_eq (tgt := 164) hx hb dX1_isCandidate_145 (by decide) (fun c_145 => ?_) (fun c_145 => ?_)
                        · skip
                          refine lv_iconst (v := 1) hx hb dX1_isCandidate_164 (by decide) ?_
                          refine lv_goto (tgt := 169) hx hb dX1_isCandidate_165 (by decide) ?_
                          refine lv_istore (lv' := [(5, .int 1), (7, .int 0), (0, .ref (a 0)), (1, .int (nI n)), (2, .int (nI o)), (3, .int (nI (10 * n + o))), (4, .int 1), (6, .int (nI (10 * n + i)))]) hx hb dX1_isCandidate_169 hl (by decide) rfl (fun ls hl => ?_)
                          refine lv_iinc (v := nI (10 * n + (i + 1))) (lv' := [(6, .int (nI (10 * n + (i + 1)))), (5, .int 1), (7, .int 0), (0, .ref (a 0)), (1, .int (nI n)), (2, .int (nI o)), (3, .int (nI (10 * n + o))), (4, .int 1)]) hx hb dX1_isCandidate_171 hl (k := 7) rfl (rn_inc (10 * n) i) (by decide) rfl (fun ls hl => ?_)
                          refine lv_goto (tgt := 92) hx hb dX1_isCandidate_174 (by decide) ?_
                          exact ih92 (i + 1) (by omega) (true) (by refine Eq.trans ?_ ht92; first | with_reducible rfl | (simp only [rn_candL, rn_candT, if_neg c_112, if_neg c_128, c_140, ↓reduceIte, Bool.false_eq_true]; done) | (simp only [rn_candL, rn_candT, if_neg c_112, if_neg c_128, c_140, ↓reduceIte, Bool.false_eq_true]; rfl) | rfl) _ _ hw _ (lv_sub hl [3, 4, 5, 6, 7, 1, 0] rfl)
                        · exact absurd rfl c_145
                    · skip
                      refine lv_iconst (v := 1) hx hb dX1_isCandidate_131 (by decide) ?_
                      refine lv_goto (tgt := 136) hx hb dX1_isCandidate_132 (by decide) ?_
                      refine lv_istore (lv' := [(7, .int 1), (0, .ref (a 0)), (1, .int (nI n)), (2, .int (nI o)), (3, .int (nI (10 * n + o))), (4, .int 1), (5, .int (bI (x5))), (6, .int (nI (10 * n + i)))]) hx hb dX1_isCandidate_136 hl (by decide) rfl (fun ls hl => ?_)
                      refine lv_iload hx hb dX1_isCandidate_138 (lv_at hl 6 rfl) ?_
                      refine rm_ifeq (tgt := 168) hx hb dX1_isCandidate_140 (by decide) (fun c_140 => ?_) (fun c_140 => ?_)
                      · skip
                        refine lv_iconst (v := 0) hx hb dX1_isCandidate_168 (by decide) ?_
                        refine lv_istore (lv' := [(5, .int 0), (7, .int 1), (0, .ref (a 0)), (1, .int (nI n)), (2, .int (nI o)), (3, .int (nI (10 * n + o))), (4, .int 1), (6, .int (nI (10 * n + i)))]) hx hb dX1_isCandidate_169 hl (by decide) rfl (fun ls hl => ?_)
                        refine lv_iinc (v := nI (10 * n + (i + 1))) (lv' := [(6, .int (nI (10 * n + (i + 1)))), (5, .int 0), (7, .int 1), (0, .ref (a 0)), (1, .int (nI n)), (2, .int (nI o)), (3, .int (nI (10 * n + o))), (4, .int 1)]) hx hb dX1_isCandidate_171 hl (k := 7) rfl (rn_inc (10 * n) i) (by decide) rfl (fun ls hl => ?_)
                        refine lv_goto (tgt := 92) hx hb dX1_isCandidate_174 (by decide) ?_
                        exact ih92 (i + 1) (by omega) (false) (by refine Eq.trans ?_ ht92; first | with_reducible rfl | (simp only [rn_candL, rn_candT, if_neg c_112, if_pos c_128, c_140, ↓reduceIte, Bool.false_eq_true]; done) | (simp only [rn_candL, rn_candT, if_neg c_112, if_pos c_128, c_140, ↓reduceIte, Bool.false_eq_true]; rfl) | rfl) _ _ hw _ (lv_sub hl [3, 4, 5, 6, 7, 1, 0] rfl)
                      · skip
                        refine lv_iload hx hb dX1_isCandidate_143 (lv_at hl 0 rfl) ?_
                        refine lv_if_eq (tgt := 164) hx hb dX1_isCandidate_145 (by decide) (fun c_145 => ?_) (fun c_145 => ?_)
                        · exact absurd c_145 (by decide)
                        · skip
                          refine lv_aload_n hx hb dX1_isCandidate_148 rfl (lv_at hl 1 rfl) ?_
                          refine rn_geta C hw 16 12 (by decide) rfl (hts _ (by decide +kernel)) rfl dX1_isCandidate_149 ?_
                          refine lv_iload hx hb dX1_isCandidate_152 (lv_at hl 7 rfl) ?_
                          refine rn_iald C hw (N := 100) (by decide) (by omega) (by decide) dX1_isCandidate_154 ?_
                          refine lv_aload_n hx hb dX1_isCandidate_155 rfl (lv_at hl 1 rfl) ?_
                          refine rn_geta C hw 16 12 (by decide) rfl (hts _ (by decide +kernel)) rfl dX1_isCandidate_156 ?_
                          refine lv_iload_n hx hb dX1_isCandidate_159 rfl (lv_at hl 4 rfl) ?_
                          refine rn_iald C hw (N := 100) (by decide) (by omega) (by decide) dX1_isCandidate_160 ?_
                          refine lv_icmp_gt (tgt := 168) hx hb dX1_isCandidate_161 (by decide) (fun c_161 => ?_) (fun c_161 => ?_)
                          · skip
                            refine lv_iconst (v := 0) hx hb dX1_isCandidate_168 (by decide) ?_
                            refine lv_istore (lv' := [(5, .int 0), (7, .int 1), (0, .ref (a 0)), (1, .int (nI n)), (2, .int (nI o)), (3, .int (nI (10 * n + o))), (4, .int 1), (6, .int (nI (10 * n + i)))]) hx hb dX1_isCandidate_169 hl (by decide) rfl (fun ls hl => ?_)
                            refine lv_iinc (v := nI (10 * n + (i + 1))) (lv' := [(6, .int (nI (10 * n + (i + 1)))), (5, .int 0), (7, .int 1), (0, .ref (a 0)), (1, .int (nI n)), (2, .int (nI o)), (3, .int (nI (10 * n + o))), (4, .int 1)]) hx hb dX1_isCandidate_171 hl (k := 7) rfl (rn_inc (10 * n) i) (by decide) rfl (fun ls hl => ?_)
                            refine lv_goto (tgt := 92) hx hb dX1_isCandidate_174 (by decide) ?_
                            exact ih92 (i + 1) (by omega) (false) (by refine Eq.trans ?_ ht92; first | with_reducible rfl | (simp only [rn_candL, rn_candT, if_neg c_112, if_pos c_128, c_140, if_pos c_161, ↓reduceIte, Bool.false_eq_true]; done) | (simp only [rn_candL, rn_candT, if_neg c_112, if_pos c_128, c_140, if_pos c_161, ↓reduceIte, Bool.false_eq_true]; rfl) | rfl) _ _ hw _ (lv_sub hl [3, 4, 5, 6, 7, 1, 0] rfl)
                          · skip
                            refine lv_iconst (v := 1) hx hb dX1_isCandidate_164 (by decide) ?_
                            refine lv_goto (tgt := 169) hx hb dX1_isCandidate_165 (by decide) ?_
                            refine lv_istore (lv' := [(5, .int 1), (7, .int 1), (0, .ref (a 0)), (1, .int (nI n)), (2, .int (nI o)), (3, .int (nI (10 * n + o))), (4, .int 1), (6, .int (nI (10 * n + i)))]) hx hb dX1_isCandidate_169 hl (by decide) rfl (fun ls hl => ?_)
                            refine lv_iinc (v := nI (10 * n + (i + 1))) (lv' := [(6, .int (nI (10 * n + (i + 1)))), (5, .int 1), (7, .int 1), (0, .ref (a 0)), (1, .int (nI n)), (2, .int (nI o)), (3, .int (nI (10 * n + o))), (4, .int 1)]) hx hb dX1_isCandidate_171 hl (k := 7) rfl (rn_inc (10 * n) i) (by decide) rfl (fun ls hl => ?_)
                            refine lv_goto (tgt := 92) hx hb dX1_isCandidate_174 (by decide) ?_
                            exact ih92 (i + 1) (by omega) (true) (by refine Eq.trans ?_ ht92; first | with_reducible rfl | (simp only [rn_candL, rn_candT, if_neg c_112, if_pos c_128, c_140, if_neg c_161, ↓reduceIte, Bool.false_eq_true]; done) | (simp only [rn_candL, rn_candT, if_neg c_112, if_pos c_128, c_140, if_neg c_161, ↓reduceIte, Bool.false_eq_true]; rfl) | rfl) _ _ hw _ (lv_sub hl [3, 4, 5, 6, 7, 1, 0] rfl)
            exact lp_92 10 0 (by omega) (false) (by first | with_reducible rfl | (unfold rn_cand; with_reducible rfl) | (simp only [rn_cand, c_20, if_pos c_32, if_pos c_49, if_pos c_76, ↓reduceIte, Bool.false_eq_true]; done) | (simp only [rn_cand, c_20, if_pos c_32, if_pos c_49, if_pos c_76, ↓reduceIte, Bool.false_eq_true]; with_reducible rfl) | rfl) _ _ hw _ (lv_sub hl [4, 5, 6, 3, 2, 1, 0] rfl)
          · skip
            refine lv_iconst (v := 1) hx hb dX1_isCandidate_79 (by decide) ?_
            refine lv_goto (tgt := 84) hx hb dX1_isCandidate_80 (by decide) ?_
            refine lv_istore (lv' := [(5, .int 1), (4, .int 1), (3, .int (nI (10 * n + o))), (0, .ref (a 0)), (1, .int (nI n)), (2, .int (nI o))]) hx hb dX1_isCandidate_84 hl (by decide) rfl (fun ls hl => ?_)
            refine lv_bipush (v := 10) hx hb dX1_isCandidate_86 (by decide) ?_
            refine lv_iload_n hx hb dX1_isCandidate_88 rfl (lv_at hl 4 rfl) ?_
            refine lv_imul hx hb dX1_isCandidate_89 ?_
            rw [rn_mul]
            refine lv_istore (lv' := [(6, .int (nI (10 * n))), (5, .int 1), (4, .int 1), (3, .int (nI (10 * n + o))), (0, .ref (a 0)), (1, .int (nI n)), (2, .int (nI o))]) hx hb dX1_isCandidate_90 hl (by decide) rfl (fun ls hl => ?_)
            have lp_92 : ∀ (r i : Nat), i + r = 10 → ∀ (x5 : Bool), rn_candT σ n o true (rn_candL σ n o r i x5) = rn_cand σ n o → ∀ (H : Heap) (locs : List Loc), rn_Wd k a (rn_A a s.heap.size) s.heap s σ H locs → ∀ (ls : Array Slot), lv_has ls 8 [(0, .ref (a 0)), (1, .int (nI n)), (2, .int (nI o)), (3, .int (nI (10 * n + o))), (4, .int 1), (5, .int (bI (x5))), (6, .int (nI (10 * n + i)))] → W p l e (headSpec wsX1_isCandidate ({ frames := 1, cells := 0, slots := 0, locals := 22 })).room s m args below meth c H locs 0 0 (MQ below (va_Qi (fun (r : Int32) (τ : rm_St) => r = (bI (rn_cand σ n o)) ∧ τ = σ) (fun τ t => rn_P k a τ t) (rn_A a s.heap.size)) args s 0 0 (rn_A a s.heap.size)) (F0 m 92 ls []) := by
              intro r
              induction r with
              | zero =>
                intro i hi92 x5 ht92 H locs hw ls hl
                obtain rfl : i = 10 := by omega
                refine lv_iload hx hb dX1_isCandidate_92 (lv_at hl 6 rfl) ?_
                refine lv_bipush (v := 10) hx hb dX1_isCandidate_94 (by decide) ?_
                refine lv_iload_n hx hb dX1_isCandidate_96 rfl (lv_at hl 1 rfl) ?_
                refine lv_imul hx hb dX1_isCandidate_97 ?_
                rw [rn_mul]
                refine lv_bipush (v := 10) hx hb dX1_isCandidate_98 (by decide) ?_
                refine lv_iadd hx hb dX1_isCandidate_100 ?_
                rw [rn_add10]
                refine lv_icmp_ge (tgt := 177) hx hb dX1_isCandidate_101 (by decide) (fun c_101 => ?_) (fun c_101 => ?_)
                · skip
                  refine lv_iload hx hb dX1_isCandidate_177 (lv_at hl 4 rfl) ?_
                  refine lv_if_eq (tgt := 256) hx hb dX1_isCandidate_179 (by decide) (fun c_179 => ?_) (fun c_179 => ?_)
                  · exact absurd c_179 (by decide)
                  · skip
                    refine lv_aload_n hx hb dX1_isCandidate_182 rfl (lv_at hl 0 rfl) ?_
                    refine rn_geta C hw 16 12 (by decide) rfl (hts _ (by decide +kernel)) rfl dX1_isCandidate_183 ?_
                    refine lv_iload_n hx hb dX1_isCandidate_186 rfl (lv_at hl 3 rfl) ?_
                    refine rn_iald C hw (N := 100) (by decide) (by omega) (by decide) dX1_isCandidate_187 ?_
                    refine lv_aload_n hx hb dX1_isCandidate_188 rfl (lv_at hl 0 rfl) ?_
                    refine rn_geta C hw 9 5 (by decide) rfl (hts _ (by decide +kernel)) rfl dX1_isCandidate_189 ?_
                    refine lv_iload_n hx hb dX1_isCandidate_192 rfl (lv_at hl 1 rfl) ?_
                    refine rn_iald C hw (N := 10) (by decide) hn (by decide) dX1_isCandidate_193 ?_
                    refine lv_icmp_ne (tgt := 256) hx hb dX1_isCandidate_194 (by decide) (fun c_194 => ?_) (fun c_194 => ?_)
                    · skip
                      refine lv_iload hx hb dX1_isCandidate_256 (lv_at hl 5 rfl) ?_
                      exact rn_zret C hr hlocks hw (bI_nar _) dX1_isCandidate_258 ⟨by first | with_reducible rfl | exact ht92 | (rw [← ht92]; first | with_reducible rfl | (simp only [rn_candL, rn_candT, if_neg c_194, ↓reduceIte, Bool.false_eq_true]; done) | (simp only [rn_candL, rn_candT, if_neg c_194, ↓reduceIte, Bool.false_eq_true]; rfl) | rfl) | (first | with_reducible rfl | (simp only [rn_cand, c_20, if_pos c_32, if_pos c_49, if_neg c_76, if_neg c_194, ↓reduceIte, Bool.false_eq_true]; done) | (simp only [rn_cand, c_20, if_pos c_32, if_pos c_49, if_neg c_76, if_neg c_194, ↓reduceIte, Bool.false_eq_true]; rfl) | rfl), by first | with_reducible rfl | exact ht92 | (rw [← ht92]; first | with_reducible rfl | (simp only [rn_candL, rn_candT, if_neg c_194, ↓reduceIte, Bool.false_eq_true]; done) | (simp only [rn_candL, rn_candT, if_neg c_194, ↓reduceIte, Bool.false_eq_true]; rfl) | rfl) | (first | with_reducible rfl | (simp only [rn_cand, c_20, if_pos c_32, if_pos c_49, if_neg c_76, if_neg c_194, ↓reduceIte, Bool.false_eq_true]; done) | (simp only [rn_cand, c_20, if_pos c_32, if_pos c_49, if_neg c_76, if_neg c_194, ↓reduceIte, Bool.false_eq_true]; rfl) | rfl)⟩
                    · skip
                      refine lv_aload_n hx hb dX1_isCandidate_197 rfl (lv_at hl 0 rfl) ?_
                      refine rn_geta C hw 10 6 (by decide) rfl (hts _ (by decide +kernel)) rfl dX1_isCandidate_198 ?_
                      refine lv_iload_n hx hb dX1_isCandidate_201 rfl (lv_at hl 1 rfl) ?_
                      refine rn_iald C hw (N := 10) (by decide) hn (by decide) dX1_isCandidate_202 ?_
                      refine lv_sipush (v := 10000) hx hb dX1_isCandidate_203 (by decide) ?_
                      refine lv_icmp_ge (tgt := 256) hx hb dX1_isCandidate_206 (by decide) (fun c_206 => ?_) (fun c_206 => ?_)
                      · skip
                        refine lv_iload hx hb dX1_isCandidate_256 (lv_at hl 5 rfl) ?_
                        exact rn_zret C hr hlocks hw (bI_nar _) dX1_isCandidate_258 ⟨by first | with_reducible rfl | exact ht92 | (rw [← ht92]; first | with_reducible rfl | (simp only [rn_candL, rn_candT, if_pos c_194, if_pos c_206, ↓reduceIte, Bool.false_eq_true]; done) | (simp only [rn_candL, rn_candT, if_pos c_194, if_pos c_206, ↓reduceIte, Bool.false_eq_true]; rfl) | rfl) | (first | with_reducible rfl | (simp only [rn_cand, c_20, if_pos c_32, if_pos c_49, if_neg c_76, if_pos c_194, if_pos c_206, ↓reduceIte, Bool.false_eq_true]; done) | (simp only [rn_cand, c_20, if_pos c_32, if_pos c_49, if_neg c_76, if_pos c_194, if_pos c_206, ↓reduceIte, Bool.false_eq_true]; rfl) | rfl), by first | with_reducible rfl | exact ht92 | (rw [← ht92]; first | with_reducible rfl | (simp only [rn_candL, rn_candT, if_pos c_194, if_pos c_206, ↓reduceIte, Bool.false_eq_true]; done) | (simp only [rn_candL, rn_candT, if_pos c_194, if_pos c_206, ↓reduceIte, Bool.false_eq_true]; rfl) | rfl) | (first | with_reducible rfl | (simp only [rn_cand, c_20, if_pos c_32, if_pos c_49, if_neg c_76, if_pos c_194, if_pos c_206, ↓reduceIte, Bool.false_eq_true]; done) | (simp only [rn_cand, c_20, if_pos c_32, if_pos c_49, if_neg c_76, if_pos c_194, if_pos c_206, ↓reduceIte, Bool.false_eq_true]; rfl) | rfl)⟩
                      · skip
                        refine lv_iload hx hb dX1_isCandidate_209 (lv_at hl 5 rfl) ?_
                        refine rm_ifeq (tgt := 253) hx hb dX1_isCandidate_211 (by decide) (fun c_211 => ?_) (fun c_211 => ?_)
                        · skip
                          refine lv_iconst (v := 0) hx hb dX1_isCandidate_253 (by decide) ?_
                          refine lv_istore (lv' := [(5, .int 0), (0, .ref (a 0)), (1, .int (nI n)), (2, .int (nI o)), (3, .int (nI (10 * n + o))), (4, .int 1), (6, .int (nI (10 * n + 10)))]) hx hb dX1_isCandidate_254 hl (by decide) rfl (fun ls hl => ?_)
                          refine lv_iload hx hb dX1_isCandidate_256 (lv_at hl 0 rfl) ?_
                          exact rn_zret C hr hlocks hw (by decide) dX1_isCandidate_258 ⟨by first | with_reducible rfl | exact ht92 | (rw [← ht92]; first | with_reducible rfl | (simp only [rn_candL, rn_candT, if_pos c_194, if_neg c_206, c_211, ↓reduceIte, Bool.false_eq_true]; done) | (simp only [rn_candL, rn_candT, if_pos c_194, if_neg c_206, c_211, ↓reduceIte, Bool.false_eq_true]; rfl) | rfl) | (first | with_reducible rfl | (simp only [rn_cand, c_20, if_pos c_32, if_pos c_49, if_neg c_76, if_pos c_194, if_neg c_206, c_211, ↓reduceIte, Bool.false_eq_true]; done) | (simp only [rn_cand, c_20, if_pos c_32, if_pos c_49, if_neg c_76, if_pos c_194, if_neg c_206, c_211, ↓reduceIte, Bool.false_eq_true]; rfl) | rfl), by first | with_reducible rfl | exact ht92 | (rw [← ht92]; first | with_reducible rfl | (simp only [rn_candL, rn_candT, if_pos c_194, if_neg c_206, c_211, ↓reduceIte, Bool.false_eq_true]; done) | (simp only [rn_candL, rn_candT, if_pos c_194, if_neg c_206, c_211, ↓reduceIte, Bool.false_eq_true]; rfl) | rfl) | (first | with_reducible rfl | (simp only [rn_cand, c_20, if_pos c_32, if_pos c_49, if_neg c_76, if_pos c_194, if_neg c_206, c_211, ↓reduceIte, Bool.false_eq_true]; done) | (simp only [rn_cand, c_20, if_pos c_32, if_pos c_49, if_neg c_76, if_pos c_194, if_neg c_206, c_211, ↓reduceIte, Bool.false_eq_true]; rfl) | rfl)⟩
                        · skip
                          refine lv_aload_n hx hb dX1_isCandidate_214 rfl (lv_at hl 0 rfl) ?_
                          refine rn_geta C hw 17 13 (by decide) rfl (hts _ (by decide +kernel)) rfl dX1_isCandidate_215 ?_
                          refine lv_iload_n hx hb dX1_isCandidate_218 rfl (lv_at hl 3 rfl) ?_
                          refine rn_iald C hw (N := 100) (by decide) (by omega) (by decide) dX1_isCandidate_219 ?_
                          refine lv_aload_n hx hb dX1_isCandidate_220 rfl (lv_at hl 0 rfl) ?_
                          refine rn_geta C hw 10 6 (by decide) rfl (hts _ (by decide +kernel)) rfl dX1_isCandidate_221 ?_
                          refine lv_iload_n hx hb dX1_isCandidate_224 rfl (lv_at hl 1 rfl) ?_
                          refine rn_iald C hw (N := 10) (by decide) hn (by decide) dX1_isCandidate_225 ?_
                          refine lv_icmp_ge (tgt := 253) hx hb dX1_isCandidate_226 (by decide) (fun c_226 => ?_) (fun c_226 => ?_)
                          · skip
                            refine lv_iconst (v := 0) hx hb dX1_isCandidate_253 (by decide) ?_
                            refine lv_istore (lv' := [(5, .int 0), (0, .ref (a 0)), (1, .int (nI n)), (2, .int (nI o)), (3, .int (nI (10 * n + o))), (4, .int 1), (6, .int (nI (10 * n + 10)))]) hx hb dX1_isCandidate_254 hl (by decide) rfl (fun ls hl => ?_)
                            refine lv_iload hx hb dX1_isCandidate_256 (lv_at hl 0 rfl) ?_
                            exact rn_zret C hr hlocks hw (by decide) dX1_isCandidate_258 ⟨by first | with_reducible rfl | exact ht92 | (rw [← ht92]; first | with_reducible rfl | (simp only [rn_candL, rn_candT, if_pos c_194, if_neg c_206, c_211, if_pos c_226, ↓reduceIte, Bool.false_eq_true]; done) | (simp only [rn_candL, rn_candT, if_pos c_194, if_neg c_206, c_211, if_pos c_226, ↓reduceIte, Bool.false_eq_true]; rfl) | rfl) | (first | with_reducible rfl | (simp only [rn_cand, c_20, if_pos c_32, if_pos c_49, if_neg c_76, if_pos c_194, if_neg c_206, c_211, if_pos c_226, ↓reduceIte, Bool.false_eq_true]; done) | (simp only [rn_cand, c_20, if_pos c_32, if_pos c_49, if_neg c_76, if_pos c_194, if_neg c_206, c_211, if_pos c_226, ↓reduceIte, Bool.false_eq_true]; rfl) | rfl), by first | with_reducible rfl | exact ht92 | (rw [← ht92]; first | with_reducible rfl | (simp only [rn_candL, rn_candT, if_pos c_194, if_neg c_206, c_211, if_pos c_226, ↓reduceIte, Bool.false_eq_true]; done) | (simp only [rn_candL, rn_candT, if_pos c_194, if_neg c_206, c_211, if_pos c_226, ↓reduceIte, Bool.false_eq_true]; rfl) | rfl) | (first | with_reducible rfl | (simp only [rn_cand, c_20, if_pos c_32, if_pos c_49, if_neg c_76, if_pos c_194, if_neg c_206, c_211, if_pos c_226, ↓reduceIte, Bool.false_eq_true]; done) | (simp only [rn_cand, c_20, if_pos c_32, if_pos c_49, if_neg c_76, if_pos c_194, if_neg c_206, c_211, if_pos c_226, ↓reduceIte, Bool.false_eq_true]; rfl) | rfl)⟩
                          · skip
                            refine lv_aload_n hx hb dX1_isCandidate_229 rfl (lv_at hl 0 rfl) ?_
                            refine lv_iload_n hx hb dX1_isCandidate_230 rfl (lv_at hl 1 rfl) ?_
                            refine lv_iload_n hx hb dX1_isCandidate_231 rfl (lv_at hl 2 rfl) ?_
                            refine rn_callI C hw hA (As := [.int (nI n), .int (nI o)]) (rest := []) (kX1_rankBy l k a ha σ n o hn ho) (cwV 2 hts gX1_isCandidate_X1_rankBy rfl rfl rfl (by decide +kernel) ⟨Nat.le_of_ble_eq_true rfl, Nat.le_of_ble_eq_true rfl⟩) rfl hl.1 rfl (lv_room (Nat.le_of_ble_eq_true rfl)) dX1_isCandidate_232 ⟨Nat.zero_le _, Nat.zero_le _⟩ (fun H locs hw => ?_)
                            refine lv_aload_n hx hb dX1_isCandidate_235 rfl (lv_at hl 0 rfl) ?_
                            refine rn_geta C hw 12 8 (by decide) rfl (hts _ (by decide +kernel)) rfl dX1_isCandidate_236 ?_
                            refine lv_iload_n hx hb dX1_isCandidate_239 rfl (lv_at hl 1 rfl) ?_
                            refine rn_iald C hw (N := 10) (by decide) hn (by decide) dX1_isCandidate_240 ?_
                            refine lv_aload_n hx hb dX1_isCandidate_241 rfl (lv_at hl 0 rfl) ?_
                            refine rn_geti C hw 1 (by decide) (hts _ (by decide +kernel)) rfl dX1_isCandidate_242 ?_
                            refine lv_iadd hx hb dX1_isCandidate_245 ?_
                            refine lv_icmp_gt (tgt := 253) hx hb dX1_isCandidate_246 (by decide) (fun c_246 => ?_) (fun c_246 => ?_)
                            · skip
                              refine lv_iconst (v := 0) hx hb dX1_isCandidate_253 (by decide) ?_
                              refine lv_istore (lv' := [(5, .int 0), (0, .ref (a 0)), (1, .int (nI n)), (2, .int (nI o)), (3, .int (nI (10 * n + o))), (4, .int 1), (6, .int (nI (10 * n + 10)))]) hx hb dX1_isCandidate_254 hl (by decide) rfl (fun ls hl => ?_)
                              refine lv_iload hx hb dX1_isCandidate_256 (lv_at hl 0 rfl) ?_
                              exact rn_zret C hr hlocks hw (by decide) dX1_isCandidate_258 ⟨by first | with_reducible rfl | exact ht92 | (rw [← ht92]; first | with_reducible rfl | (simp only [rn_candL, rn_candT, if_pos c_194, if_neg c_206, c_211, if_neg c_226, if_pos c_246, ↓reduceIte, Bool.false_eq_true]; done) | (simp only [rn_candL, rn_candT, if_pos c_194, if_neg c_206, c_211, if_neg c_226, if_pos c_246, ↓reduceIte, Bool.false_eq_true]; rfl) | rfl) | (first | with_reducible rfl | (simp only [rn_cand, c_20, if_pos c_32, if_pos c_49, if_neg c_76, if_pos c_194, if_neg c_206, c_211, if_neg c_226, if_pos c_246, ↓reduceIte, Bool.false_eq_true]; done) | (simp only [rn_cand, c_20, if_pos c_32, if_pos c_49, if_neg c_76, if_pos c_194, if_neg c_206, c_211, if_neg c_226, if_pos c_246, ↓reduceIte, Bool.false_eq_true]; rfl) | rfl), by first | with_reducible rfl | exact ht92 | (rw [← ht92]; first | with_reducible rfl | (simp only [rn_candL, rn_candT, if_pos c_194, if_neg c_206, c_211, if_neg c_226, if_pos c_246, ↓reduceIte, Bool.false_eq_true]; done) | (simp only [rn_candL, rn_candT, if_pos c_194, if_neg c_206, c_211, if_neg c_226, if_pos c_246, ↓reduceIte, Bool.false_eq_true]; rfl) | rfl) | (first | with_reducible rfl | (simp only [rn_cand, c_20, if_pos c_32, if_pos c_49, if_neg c_76, if_pos c_194, if_neg c_206, c_211, if_neg c_226, if_pos c_246, ↓reduceIte, Bool.false_eq_true]; done) | (simp only [rn_cand, c_20, if_pos c_32, if_pos c_49, if_neg c_76, if_pos c_194, if_neg c_206, c_211, if_neg c_226, if_pos c_246, ↓reduceIte, Bool.false_eq_true]; rfl) | rfl)⟩
                            · skip
                              refine lv_iconst (v := 1) hx hb dX1_isCandidate_249 (by decide) ?_
                              refine lv_goto (tgt := 254) hx hb dX1_isCandidate_250 (by decide) ?_
                              refine lv_istore (lv' := [(5, .int 1), (0, .ref (a 0)), (1, .int (nI n)), (2, .int (nI o)), (3, .int (nI (10 * n + o))), (4, .int 1), (6, .int (nI (10 * n + 10)))]) hx hb dX1_isCandidate_254 hl (by decide) rfl (fun ls hl => ?_)
                              refine lv_iload hx hb dX1_isCandidate_256 (lv_at hl 0 rfl) ?_
                              exact rn_zret C hr hlocks hw (by decide) dX1_isCandidate_258 ⟨by first | with_reducible rfl | exact ht92 | (rw [← ht92]; first | with_reducible rfl | (simp only [rn_candL, rn_candT, if_pos c_194, if_neg c_206, c_211, if_neg c_226, if_neg c_246, ↓reduceIte, Bool.false_eq_true]; done) | (simp only [rn_candL, rn_candT, if_pos c_194, if_neg c_206, c_211, if_neg c_226, if_neg c_246, ↓reduceIte, Bool.false_eq_true]; rfl) | rfl) | (first | with_reducible rfl | (simp only [rn_cand, c_20, if_pos c_32, if_pos c_49, if_neg c_76, if_pos c_194, if_neg c_206, c_211, if_neg c_226, if_neg c_246, ↓reduceIte, Bool.false_eq_true]; done) | (simp only [rn_cand, c_20, if_pos c_32, if_pos c_49, if_neg c_76, if_pos c_194, if_neg c_206, c_211, if_neg c_226, if_neg c_246, ↓reduceIte, Bool.false_eq_true]; rfl) | rfl), by first | with_reducible rfl | exact ht92 | (rw [← ht92]; first | with_reducible rfl | (simp only [rn_candL, rn_candT, if_pos c_194, if_neg c_206, c_211, if_neg c_226, if_neg c_246, ↓reduceIte, Bool.false_eq_true]; done) | (simp only [rn_candL, rn_candT, if_pos c_194, if_neg c_206, c_211, if_neg c_226, if_neg c_246, ↓reduceIte, Bool.false_eq_true]; rfl) | rfl) | (first | with_reducible rfl | (simp only [rn_cand, c_20, if_pos c_32, if_pos c_49, if_neg c_76, if_pos c_194, if_neg c_206, c_211, if_neg c_226, if_neg c_246, ↓reduceIte, Bool.false_eq_true]; done) | (simp only [rn_cand, c_20, if_pos c_32, if_pos c_49, if_neg c_76, if_pos c_194, if_neg c_206, c_211, if_neg c_226, if_neg c_246, ↓reduceIte, Bool.false_eq_true]; rfl) | rfl)⟩
                · exact absurd (nI_le (a := 10 * n + 10) (b := 10 * n + 10) (Nat.le_refl _) (by omega)) c_101
              | succ r ih92 =>
                intro i hi92 x5 ht92 H locs hw ls hl
                have hlt92 : i < 10 := by omega
                refine lv_iload hx hb dX1_isCandidate_92 (lv_at hl 6 rfl) ?_
                refine lv_bipush (v := 10) hx hb dX1_isCandidate_94 (by decide) ?_
                refine lv_iload_n hx hb dX1_isCandidate_96 rfl (lv_at hl 1 rfl) ?_
                refine lv_imul hx hb dX1_isCandidate_97 ?_
                rw [rn_mul]
                refine lv_bipush (v := 10) hx hb dX1_isCandidate_98 (by decide) ?_
                refine lv_iadd hx hb dX1_isCandidate_100 ?_
                rw [rn_add10]
                refine lv_icmp_ge (tgt := 177) hx hb dX1_isCandidate_101 (by decide) (fun c_101 => ?_) (fun c_101 => ?_)
                · exact absurd c_101 (nI_ge (a := 10 * n + i) (b := 10 * n + 10) (by omega) (by omega))
                · skip
                  refine lv_aload_n hx hb dX1_isCandidate_104 rfl (lv_at hl 0 rfl) ?_
                  refine rn_geta C hw 17 13 (by decide) rfl (hts _ (by decide +kernel)) rfl dX1_isCandidate_105 ?_
                  refine lv_iload hx hb dX1_isCandidate_108 (lv_at hl 6 rfl) ?_
                  refine rn_iald C hw (N := 100) (by decide) (by omega) (by decide) dX1_isCandidate_110 ?_
                  refine lv_iconst (v := (-1)) hx hb dX1_isCandidate_111 (by decide) ?_
                  refine lv_icmp_eq (tgt := 135) hx hb dX1_isCandidate_112 (by decide) (fun c_112 => ?_) (fun c_112 => ?_)
                  · skip
                    refine lv_iconst (v := 0) hx hb dX1_isCandidate_135 (by decide) ?_
                    refine lv_istore (lv' := [(7, .int 0), (0, .ref (a 0)), (1, .int (nI n)), (2, .int (nI o)), (3, .int (nI (10 * n + o))), (4, .int 1), (5, .int (bI (x5))), (6, .int (nI (10 * n + i)))]) hx hb dX1_isCandidate_136 hl (by decide) rfl (fun ls hl => ?_)
                    refine lv_iload hx hb dX1_isCandidate_138 (lv_at hl 6 rfl) ?_
                    refine rm_ifeq (tgt := 168) hx hb dX1_isCandidate_140 (by decide) (fun c_140 => ?_) (fun c_140 => ?_)
                    · skip
                      refine lv_iconst (v := 0) hx hb dX1_isCandidate_168 (by decide) ?_
                      refine lv_istore (lv' := [(5, .int 0), (7, .int 0), (0, .ref (a 0)), (1, .int (nI n)), (2, .int (nI o)), (3, .int (nI (10 * n + o))), (4, .int 1), (6, .int (nI (10 * n + i)))]) hx hb dX1_isCandidate_169 hl (by decide) rfl (fun ls hl => ?_)
                      refine lv_iinc (v := nI (10 * n + (i + 1))) (lv' := [(6, .int (nI (10 * n + (i + 1)))), (5, .int 0), (7, .int 0), (0, .ref (a 0)), (1, .int (nI n)), (2, .int (nI o)), (3, .int (nI (10 * n + o))), (4, .int 1)]) hx hb dX1_isCandidate_171 hl (k := 7) rfl (rn_inc (10 * n) i) (by decide) rfl (fun ls hl => ?_)
                      refine lv_goto (tgt := 92) hx hb dX1_isCandidate_174 (by decide) ?_
                      exact ih92 (i + 1) (by omega) (false) (by refine Eq.trans ?_ ht92; first | with_reducible rfl | (simp only [rn_candL, rn_candT, if_pos c_112, c_140, ↓reduceIte, Bool.false_eq_true]; done) | (simp only [rn_candL, rn_candT, if_pos c_112, c_140, ↓reduceIte, Bool.false_eq_true]; rfl) | rfl) _ _ hw _ (lv_sub hl [3, 4, 5, 6, 7, 1, 0] rfl)
                    · skip
                      refine lv_iload hx hb dX1_isCandidate_143 (lv_at hl 0 rfl) ?_
                      refine lv_if_eq (tgt := 164) hx hb dX1_isCandidate_145 (by decide) (fun c_145 => ?_) (fun c_145 => ?_)
                      · skip
                        refine lv_iconst (v := 1) hx hb dX1_isCandidate_164 (by decide) ?_
                        refine lv_goto (tgt := 169) hx hb dX1_isCandidate_165 (by decide) ?_
                        refine lv_istore (lv' := [(5, .int 1), (7, .int 0), (0, .ref (a 0)), (1, .int (nI n)), (2, .int (nI o)), (3, .int (nI (10 * n + o))), (4, .int 1), (6, .int (nI (10 * n + i)))]) hx hb dX1_isCandidate_169 hl (by decide) rfl (fun ls hl => ?_)
                        refine lv_iinc (v := nI (10 * n + (i + 1))) (lv' := [(6, .int (nI (10 * n + (i + 1)))), (5, .int 1), (7, .int 0), (0, .ref (a 0)), (1, .int (nI n)), (2, .int (nI o)), (3, .int (nI (10 * n + o))), (4, .int 1)]) hx hb dX1_isCandidate_171 hl (k := 7) rfl (rn_inc (10 * n) i) (by decide) rfl (fun ls hl => ?_)
                        refine lv_goto (tgt := 92) hx hb dX1_isCandidate_174 (by decide) ?_
                        exact ih92 (i + 1) (by omega) (true) (by refine Eq.trans ?_ ht92; first | with_reducible rfl | (simp only [rn_candL, rn_candT, if_pos c_112, c_140, ↓reduceIte, Bool.false_eq_true]; done) | (simp only [rn_candL, rn_candT, if_pos c_112, c_140, ↓reduceIte, Bool.false_eq_true]; rfl) | rfl) _ _ hw _ (lv_sub hl [3, 4, 5, 6, 7, 1, 0] rfl)
                      · exact absurd rfl c_145
                  · skip
                    refine lv_aload_n hx hb dX1_isCandidate_115 rfl (lv_at hl 0 rfl) ?_
                    refine rn_geta C hw 15 11 (by decide) rfl (hts _ (by decide +kernel)) rfl dX1_isCandidate_116 ?_
                    refine lv_iload hx hb dX1_isCandidate_119 (lv_at hl 6 rfl) ?_
                    refine rn_iald C hw (N := 100) (by decide) (by omega) (by decide) dX1_isCandidate_121 ?_
                    refine lv_aload_n hx hb dX1_isCandidate_122 rfl (lv_at hl 0 rfl) ?_
                    refine rn_geta C hw 15 11 (by decide) rfl (hts _ (by decide +kernel)) rfl dX1_isCandidate_123 ?_
                    refine lv_iload_n hx hb dX1_isCandidate_126 rfl (lv_at hl 3 rfl) ?_
                    refine rn_iald C hw (N := 100) (by decide) (by omega) (by decide) dX1_isCandidate_127 ?_
                    refine lv_icmp_ne (tgt := 135) hx hb dX1_isCandidate_128 (by decide) (fun c_128 => ?_) (fun c_128 => ?_)
                    · skip
                      refine lv_iconst (v := 0) hx hb dX1_isCandidate_135 (by decide) ?_
                      refine lv_istore (lv' := [(7, .int 0), (0, .ref (a 0)), (1, .int (nI n)), (2, .int (nI o)), (3, .int (nI (10 * n + o))), (4, .int 1), (5, .int (bI (x5))), (6, .int (nI (10 * n + i)))]) hx hb dX1_isCandidate_136 hl (by decide) rfl (fun ls hl => ?_)
                      refine lv_iload hx hb dX1_isCandidate_138 (lv_at hl 6 rfl) ?_
                      refine rm_ifeq (tgt := 168) hx hb dX1_isCandidate_140 (by decide) (fun c_140 => ?_) (fun c_140 => ?_)
                      · skip
                        refine lv_iconst (v := 0) hx hb dX1_isCandidate_168 (by decide) ?_
                        refine lv_istore (lv' := [(5, .int 0), (7, .int 0), (0, .ref (a 0)), (1, .int (nI n)), (2, .int (nI o)), (3, .int (nI (10 * n + o))), (4, .int 1), (6, .int (nI (10 * n + i)))]) hx hb dX1_isCandidate_169 hl (by decide) rfl (fun ls hl => ?_)
                        refine lv_iinc (v := nI (10 * n + (i + 1))) (lv' := [(6, .int (nI (10 * n + (i + 1)))), (5, .int 0), (7, .int 0), (0, .ref (a 0)), (1, .int (nI n)), (2, .int (nI o)), (3, .int (nI (10 * n + o))), (4, .int 1)]) hx hb dX1_isCandidate_171 hl (k := 7) rfl (rn_inc (10 * n) i) (by decide) rfl (fun ls hl => ?_)
                        refine lv_goto (tgt := 92) hx hb dX1_isCandidate_174 (by decide) ?_
                        exact ih92 (i + 1) (by omega) (false) (by refine Eq.trans ?_ ht92; first | with_reducible rfl | (simp only [rn_candL, rn_candT, if_neg c_112, if_neg c_128, c_140, ↓reduceIte, Bool.false_eq_true]; done) | (simp only [rn_candL, rn_candT, if_neg c_112, if_neg c_128, c_140, ↓reduceIte, Bool.false_eq_true]; rfl) | rfl) _ _ hw _ (lv_sub hl [3, 4, 5, 6, 7, 1, 0] rfl)
                      · skip
                        refine lv_iload hx hb dX1_isCandidate_143 (lv_at hl 0 rfl) ?_
                        refine lv_if_eq (tgt := 164) hx hb dX1_isCandidate_145 (by decide) (fun c_145 => ?_) (fun c_145 => ?_)
                        · skip
                          refine lv_iconst (v := 1) hx hb dX1_isCandidate_164 (by decide) ?_
                          refine lv_goto (tgt := 169) hx hb dX1_isCandidate_165 (by decide) ?_
                          refine lv_istore (lv' := [(5, .int 1), (7, .int 0), (0, .ref (a 0)), (1, .int (nI n)), (2, .int (nI o)), (3, .int (nI (10 * n + o))), (4, .int 1), (6, .int (nI (10 * n + i)))]) hx hb dX1_isCandidate_169 hl (by decide) rfl (fun ls hl => ?_)
                          refine lv_iinc (v := nI (10 * n + (i + 1))) (lv' := [(6, .int (nI (10 * n + (i + 1)))), (5, .int 1), (7, .int 0), (0, .ref (a 0)), (1, .int (nI n)), (2, .int (nI o)), (3, .int (nI (10 * n + o))), (4, .int 1)]) hx hb dX1_isCandidate_171 hl (k := 7) rfl (rn_inc (10 * n) i) (by decide) rfl (fun ls hl => ?_)
                          refine lv_goto (tgt := 92) hx hb dX1_isCandidate_174 (by decide) ?_
                          exact ih92 (i + 1) (by omega) (true) (by refine Eq.trans ?_ ht92; first | with_reducible rfl | (simp only [rn_candL, rn_candT, if_neg c_112, if_neg c_128, c_140, ↓reduceIte, Bool.false_eq_true]; done) | (simp only [rn_candL, rn_candT, if_neg c_112, if_neg c_128, c_140, ↓reduceIte, Bool.false_eq_true]; rfl) | rfl) _ _ hw _ (lv_sub hl [3, 4, 5, 6, 7, 1, 0] rfl)
                        · exact absurd rfl c_145
                    · skip
                      refine lv_iconst (v := 1) hx hb dX1_isCandidate_131 (by decide) ?_
                      refine lv_goto (tgt := 136) hx hb dX1_isCandidate_132 (by decide) ?_
                      refine lv_istore (lv' := [(7, .int 1), (0, .ref (a 0)), (1, .int (nI n)), (2, .int (nI o)), (3, .int (nI (10 * n + o))), (4, .int 1), (5, .int (bI (x5))), (6, .int (nI (10 * n + i)))]) hx hb dX1_isCandidate_136 hl (by decide) rfl (fun ls hl => ?_)
                      refine lv_iload hx hb dX1_isCandidate_138 (lv_at hl 6 rfl) ?_
                      refine rm_ifeq (tgt := 168) hx hb dX1_isCandidate_140 (by decide) (fun c_140 => ?_) (fun c_140 => ?_)
                      · skip
                        refine lv_iconst (v := 0) hx hb dX1_isCandidate_168 (by decide) ?_
                        refine lv_istore (lv' := [(5, .int 0), (7, .int 1), (0, .ref (a 0)), (1, .int (nI n)), (2, .int (nI o)), (3, .int (nI (10 * n + o))), (4, .int 1), (6, .int (nI (10 * n + i)))]) hx hb dX1_isCandidate_169 hl (by decide) rfl (fun ls hl => ?_)
                        refine lv_iinc (v := nI (10 * n + (i + 1))) (lv' := [(6, .int (nI (10 * n + (i + 1)))), (5, .int 0), (7, .int 1), (0, .ref (a 0)), (1, .int (nI n)), (2, .int (nI o)), (3, .int (nI (10 * n + o))), (4, .int 1)]) hx hb dX1_isCandidate_171 hl (k := 7) rfl (rn_inc (10 * n) i) (by decide) rfl (fun ls hl => ?_)
                        refine lv_goto (tgt := 92) hx hb dX1_isCandidate_174 (by decide) ?_
                        exact ih92 (i + 1) (by omega) (false) (by refine Eq.trans ?_ ht92; first | with_reducible rfl | (simp only [rn_candL, rn_candT, if_neg c_112, if_pos c_128, c_140, ↓reduceIte, Bool.false_eq_true]; done) | (simp only [rn_candL, rn_candT, if_neg c_112, if_pos c_128, c_140, ↓reduceIte, Bool.false_eq_true]; rfl) | rfl) _ _ hw _ (lv_sub hl [3, 4, 5, 6, 7, 1, 0] rfl)
                      · skip
                        refine lv_iload hx hb dX1_isCandidate_143 (lv_at hl 0 rfl) ?_
                        refine lv_if_eq (tgt := 164) hx hb dX1_isCandidate_145 (by decide) (fun c_145 => ?_) (fun c_145 => ?_)
                        · exact absurd c_145 (by decide)
                        · skip
                          refine lv_aload_n hx hb dX1_isCandidate_148 rfl (lv_at hl 1 rfl) ?_
                          refine rn_geta C hw 16 12 (by decide) rfl (hts _ (by decide +kernel)) rfl dX1_isCandidate_149 ?_
                          refine lv_iload hx hb dX1_isCandidate_152 (lv_at hl 7 rfl) ?_
                          refine rn_iald C hw (N := 100) (by decide) (by omega) (by decide) dX1_isCandidate_154 ?_
                          refine lv_aload_n hx hb dX1_isCandidate_155 rfl (lv_at hl 1 rfl) ?_
                          refine rn_geta C hw 16 12 (by decide) rfl (hts _ (by decide +kernel)) rfl dX1_isCandidate_156 ?_
                          refine lv_iload_n hx hb dX1_isCandidate_159 rfl (lv_at hl 4 rfl) ?_
                          refine rn_iald C hw (N := 100) (by decide) (by omega) (by decide) dX1_isCandidate_160 ?_
                          refine lv_icmp_gt (tgt := 168) hx hb dX1_isCandidate_161 (by decide) (fun c_161 => ?_) (fun c_161 => ?_)
                          · skip
                            refine lv_iconst (v := 0) hx hb dX1_isCandidate_168 (by decide) ?_
                            refine lv_istore (lv' := [(5, .int 0), (7, .int 1), (0, .ref (a 0)), (1, .int (nI n)), (2, .int (nI o)), (3, .int (nI (10 * n + o))), (4, .int 1), (6, .int (nI (10 * n + i)))]) hx hb dX1_isCandidate_169 hl (by decide) rfl (fun ls hl => ?_)
                            refine lv_iinc (v := nI (10 * n + (i + 1))) (lv' := [(6, .int (nI (10 * n + (i + 1)))), (5, .int 0), (7, .int 1), (0, .ref (a 0)), (1, .int (nI n)), (2, .int (nI o)), (3, .int (nI (10 * n + o))), (4, .int 1)]) hx hb dX1_isCandidate_171 hl (k := 7) rfl (rn_inc (10 * n) i) (by decide) rfl (fun ls hl => ?_)
                            refine lv_goto (tgt := 92) hx hb dX1_isCandidate_174 (by decide) ?_
                            exact ih92 (i + 1) (by omega) (false) (by refine Eq.trans ?_ ht92; first | with_reducible rfl | (simp only [rn_candL, rn_candT, if_neg c_112, if_pos c_128, c_140, if_pos c_161, ↓reduceIte, Bool.false_eq_true]; done) | (simp only [rn_candL, rn_candT, if_neg c_112, if_pos c_128, c_140, if_pos c_161, ↓reduceIte, Bool.false_eq_true]; rfl) | rfl) _ _ hw _ (lv_sub hl [3, 4, 5, 6, 7, 1, 0] rfl)
                          · skip
                            refine lv_iconst (v := 1) hx hb dX1_isCandidate_164 (by decide) ?_
                            refine lv_goto (tgt := 169) hx hb dX1_isCandidate_165 (by decide) ?_
                            refine lv_istore (lv' := [(5, .int 1), (7, .int 1), (0, .ref (a 0)), (1, .int (nI n)), (2, .int (nI o)), (3, .int (nI (10 * n + o))), (4, .int 1), (6, .int (nI (10 * n + i)))]) hx hb dX1_isCandidate_169 hl (by decide) rfl (fun ls hl => ?_)
                            refine lv_iinc (v := nI (10 * n + (i + 1))) (lv' := [(6, .int (nI (10 * n + (i + 1)))), (5, .int 1), (7, .int 1), (0, .ref (a 0)), (1, .int (nI n)), (2, .int (nI o)), (3, .int (nI (10 * n + o))), (4, .int 1)]) hx hb dX1_isCandidate_171 hl (k := 7) rfl (rn_inc (10 * n) i) (by decide) rfl (fun ls hl => ?_)
                            refine lv_goto (tgt := 92) hx hb dX1_isCandidate_174 (by decide) ?_
                            exact ih92 (i + 1) (by omega) (true) (by refine Eq.trans ?_ ht92; first | with_reducible rfl | (simp only [rn_candL, rn_candT, if_neg c_112, if_pos c_128, c_140, if_neg c_161, ↓reduceIte, Bool.false_eq_true]; done) | (simp only [rn_candL, rn_candT, if_neg c_112, if_pos c_128, c_140, if_neg c_161, ↓reduceIte, Bool.false_eq_true]; rfl) | rfl) _ _ hw _ (lv_sub hl [3, 4, 5, 6, 7, 1, 0] rfl)
            exact lp_92 10 0 (by omega) (true) (by first | with_reducible rfl | (unfold rn_cand; with_reducible rfl) | (simp only [rn_cand, c_20, if_pos c_32, if_pos c_49, if_neg c_76, ↓reduceIte, Bool.false_eq_true]; done) | (simp only [rn_cand, c_20, if_pos c_32, if_pos c_49, if_neg c_76, ↓reduceIte, Bool.false_eq_true]; with_reducible rfl) | rfl) _ _ hw _ (lv_sub hl [4, 5, 6, 3, 2, 1, 0] rfl)
    · skip
      refine lv_iconst (v := 0) hx hb dX1_isCandidate_35 (by decide) ?_
      exact rn_zret C hr hlocks hw (by decide) dX1_isCandidate_36 ⟨by first | with_reducible rfl | (simp only [rn_cand, c_20, if_neg c_32, ↓reduceIte, Bool.false_eq_true]; done) | (simp only [rn_cand, c_20, if_neg c_32, ↓reduceIte, Bool.false_eq_true]; rfl) | rfl, by first | with_reducible rfl | (simp only [rn_cand, c_20, if_neg c_32, ↓reduceIte, Bool.false_eq_true]; done) | (simp only [rn_cand, c_20, if_neg c_32, ↓reduceIte, Bool.false_eq_true]; rfl) | rfl⟩
set_option maxHeartbeats 4000000 in
set_option maxRecDepth 100000 in
theorem kX1_takes (l : Launch) (k : rm_K) (a : Nat → Nat) (ha : rn_inj a) (σ : rm_St) (n : Nat) (o : Nat) (hn : n < 10) (ho : o < 10) : rn_MV l k a yX1_takes wsX1_takes ({ frames := 1, cells := 0, slots := 0, locals := 22 }) [.int (nI n), .int (nI o)] σ  (rn_takes σ n o) := by
  refine rn_enterV (cc := cX1_takes) (nL := 5) (ret := none) ha (by decide) rfl rfl (by decide +kernel) (Nat.le_of_ble_eq_true rfl) ?_
  intro p e s m args below meth c ls C hr hlocks hw hl
  have hx := C.1.1
  have hb := C.1.2.1
  have hts := C.1.2.2.2.2
  have hA : ∀ q, s.heap.size ≤ q → rn_A a s.heap.size q := fun q h => Or.inr h
  replace hl : lv_has ls 5 [(0, .ref (a 0)), (1, .int (nI n)), (2, .int (nI o))] := hl
  refine lv_bipush (v := 10) hx hb dX1_takes_0 (by decide) ?_
  refine lv_iload_n hx hb dX1_takes_2 rfl (lv_at hl 1 rfl) ?_
  refine lv_imul hx hb dX1_takes_3 ?_
  rw [rn_mul]
  refine lv_iload_n hx hb dX1_takes_4 rfl (lv_at hl 2 rfl) ?_
  refine lv_iadd hx hb dX1_takes_5 ?_
  rw [nI_add]
  refine lv_istore_n (lv' := [(3, .int (nI (10 * n + o))), (0, .ref (a 0)), (1, .int (nI n)), (2, .int (nI o))]) hx hb dX1_takes_6 rfl hl (by decide) rfl (fun ls hl => ?_)
  refine lv_aload_n hx hb dX1_takes_7 rfl (lv_at hl 1 rfl) ?_
  refine rn_geta C hw 15 11 (by decide) rfl (hts _ (by decide +kernel)) rfl dX1_takes_8 ?_
  refine lv_iload_n hx hb dX1_takes_11 rfl (lv_at hl 0 rfl) ?_
  refine rn_iald C hw (N := 100) (by decide) (by omega) (by decide) dX1_takes_12 ?_
  refine lv_aload_n hx hb dX1_takes_13 rfl (lv_at hl 1 rfl) ?_
  refine rn_geta C hw 8 4 (by decide) rfl (hts _ (by decide +kernel)) rfl dX1_takes_14 ?_
  refine lv_iload_n hx hb dX1_takes_17 rfl (lv_at hl 2 rfl) ?_
  refine rn_iald C hw (N := 10) (by decide) hn (by decide) dX1_takes_18 ?_
  refine lv_icmp_ne (tgt := 37) hx hb dX1_takes_19 (by decide) (fun c_19 => ?_) (fun c_19 => ?_)
  · skip
    refine lv_iconst (v := 1) hx hb dX1_takes_37 (by decide) ?_
    refine lv_goto (tgt := 42) hx hb dX1_takes_38 (by decide) ?_
    refine lv_istore (lv' := [(4, .int 1), (3, .int (nI (10 * n + o))), (0, .ref (a 0)), (1, .int (nI n)), (2, .int (nI o))]) hx hb dX1_takes_42 hl (by decide) rfl (fun ls hl => ?_)
    refine lv_aload_n hx hb dX1_takes_44 rfl (lv_at hl 2 rfl) ?_
    refine rn_geta C hw 11 7 (by decide) rfl (hts _ (by decide +kernel)) rfl dX1_takes_45 ?_
    refine lv_iload_n hx hb dX1_takes_48 rfl (lv_at hl 3 rfl) ?_
    refine lv_iload_n hx hb dX1_takes_49 rfl (lv_at hl 4 rfl) ?_
    refine rn_iast C hw (N := 10) (by decide) hn (by decide) dX1_takes_50 (fun H locs hw => ?_)
    refine lv_aload_n hx hb dX1_takes_51 rfl (lv_at hl 2 rfl) ?_
    refine rn_geta C hw 8 4 (by decide) rfl (hts _ (by decide +kernel)) rfl dX1_takes_52 ?_
    refine lv_iload_n hx hb dX1_takes_55 rfl (lv_at hl 3 rfl) ?_
    refine lv_aload_n hx hb dX1_takes_56 rfl (lv_at hl 2 rfl) ?_
    refine rn_geta C hw 15 11 (by decide) rfl (hts _ (by decide +kernel)) rfl dX1_takes_57 ?_
    refine lv_iload_n hx hb dX1_takes_60 rfl (lv_at hl 1 rfl) ?_
    refine rn_iald C hw (N := 100) (by decide) (by omega) (by decide) dX1_takes_61 ?_
    refine rn_iast C hw (N := 10) (by decide) hn (by decide) dX1_takes_62 (fun H locs hw => ?_)
    refine lv_aload_n hx hb dX1_takes_63 rfl (lv_at hl 2 rfl) ?_
    refine rn_geta C hw 9 5 (by decide) rfl (hts _ (by decide +kernel)) rfl dX1_takes_64 ?_
    refine lv_iload_n hx hb dX1_takes_67 rfl (lv_at hl 3 rfl) ?_
    refine lv_aload_n hx hb dX1_takes_68 rfl (lv_at hl 2 rfl) ?_
    refine rn_geta C hw 16 12 (by decide) rfl (hts _ (by decide +kernel)) rfl dX1_takes_69 ?_
    refine lv_iload_n hx hb dX1_takes_72 rfl (lv_at hl 1 rfl) ?_
    refine rn_iald C hw (N := 100) (by decide) (by omega) (by decide) dX1_takes_73 ?_
    refine rn_iast C hw (N := 10) (by decide) hn (by decide) dX1_takes_74 (fun H locs hw => ?_)
    refine lv_aload_n hx hb dX1_takes_75 rfl (lv_at hl 2 rfl) ?_
    refine rn_geta C hw 10 6 (by decide) rfl (hts _ (by decide +kernel)) rfl dX1_takes_76 ?_
    refine lv_iload_n hx hb dX1_takes_79 rfl (lv_at hl 3 rfl) ?_
    refine lv_aload_n hx hb dX1_takes_80 rfl (lv_at hl 2 rfl) ?_
    refine lv_iload_n hx hb dX1_takes_81 rfl (lv_at hl 3 rfl) ?_
    refine lv_iload_n hx hb dX1_takes_82 rfl (lv_at hl 4 rfl) ?_
    refine rn_callI C hw hA (As := [.int (nI n), .int (nI o)]) (rest := [.int (nI n), .ref (a 6)]) (kX1_rankBy l k a ha (rm_up (rm_up (rm_up σ 7 n (nI o)) 4 n ((rm_up σ 7 n (nI o)) 11 (10 * n + o))) 5 n ((rm_up (rm_up σ 7 n (nI o)) 4 n ((rm_up σ 7 n (nI o)) 11 (10 * n + o))) 12 (10 * n + o))) n o hn ho) (cwV 2 hts gX1_takes_X1_rankBy rfl rfl rfl (by decide +kernel) ⟨Nat.le_of_ble_eq_true rfl, Nat.le_of_ble_eq_true rfl⟩) rfl hl.1 rfl (lv_room (Nat.le_of_ble_eq_true rfl)) dX1_takes_83 ⟨Nat.zero_le _, Nat.zero_le _⟩ (fun H locs hw => ?_)
    refine rn_iast C hw (N := 10) (by decide) hn (by decide) dX1_takes_86 (fun H locs hw => ?_)
    refine lv_aload_n hx hb dX1_takes_87 rfl (lv_at hl 2 rfl) ?_
    refine rn_geta C hw 12 8 (by decide) rfl (hts _ (by decide +kernel)) rfl dX1_takes_88 ?_
    refine lv_iload_n hx hb dX1_takes_91 rfl (lv_at hl 3 rfl) ?_
    refine lv_iload hx hb dX1_takes_92 (lv_at hl 0 rfl) ?_
    refine lv_if_ne (tgt := 112) hx hb dX1_takes_94 (by decide) (fun c_94 => ?_) (fun c_94 => ?_)
    · skip
      refine lv_aload_n hx hb dX1_takes_112 rfl (lv_at hl 2 rfl) ?_
      refine rn_geta C hw 10 6 (by decide) rfl (hts _ (by decide +kernel)) rfl dX1_takes_113 ?_
      refine lv_iload_n hx hb dX1_takes_116 rfl (lv_at hl 3 rfl) ?_
      refine rn_iald C hw (N := 10) (by decide) hn (by decide) dX1_takes_117 ?_
      refine lv_goto (tgt := 127) hx hb dX1_takes_118 (by decide) ?_
      refine rn_iast C hw (N := 10) (by decide) hn (by decide) dX1_takes_127 (fun H locs hw => ?_)
      exact rn_vret C hr hlocks hw dX1_takes_128 (by first | with_reducible rfl | (rw [rn_takes]; exact (if_neg c_19).symm) | (first | with_reducible rfl | (simp only [rn_takes, rn_tk, rn_tk1, rn_tk2, rn_tk3, if_neg c_19, ↓reduceIte, Bool.false_eq_true]; done) | (simp only [rn_takes, rn_tk, rn_tk1, rn_tk2, rn_tk3, if_neg c_19, ↓reduceIte, Bool.false_eq_true]; rfl) | rfl))
    · exact absurd c_94 (by decide)
  · skip
    refine lv_aload_n hx hb dX1_takes_22 rfl (lv_at hl 1 rfl) ?_
    refine rn_geta C hw 16 12 (by decide) rfl (hts _ (by decide +kernel)) rfl dX1_takes_23 ?_
    refine lv_iload_n hx hb dX1_takes_26 rfl (lv_at hl 0 rfl) ?_
    refine rn_iald C hw (N := 100) (by decide) (by omega) (by decide) dX1_takes_27 ?_
    refine lv_aload_n hx hb dX1_takes_28 rfl (lv_at hl 1 rfl) ?_
    refine rn_geta C hw 9 5 (by decide) rfl (hts _ (by decide +kernel)) rfl dX1_takes_29 ?_
    refine lv_iload_n hx hb dX1_takes_32 rfl (lv_at hl 2 rfl) ?_
    refine rn_iald C hw (N := 10) (by decide) hn (by decide) dX1_takes_33 ?_
    refine lv_icmp_eq (tgt := 41) hx hb dX1_takes_34 (by decide) (fun c_34 => ?_) (fun c_34 => ?_)
    · skip
      refine lv_iconst (v := 0) hx hb dX1_takes_41 (by decide) ?_
      refine lv_istore (lv' := [(4, .int 0), (3, .int (nI (10 * n + o))), (0, .ref (a 0)), (1, .int (nI n)), (2, .int (nI o))]) hx hb dX1_takes_42 hl (by decide) rfl (fun ls hl => ?_)
      refine lv_aload_n hx hb dX1_takes_44 rfl (lv_at hl 2 rfl) ?_
      refine rn_geta C hw 11 7 (by decide) rfl (hts _ (by decide +kernel)) rfl dX1_takes_45 ?_
      refine lv_iload_n hx hb dX1_takes_48 rfl (lv_at hl 3 rfl) ?_
      refine lv_iload_n hx hb dX1_takes_49 rfl (lv_at hl 4 rfl) ?_
      refine rn_iast C hw (N := 10) (by decide) hn (by decide) dX1_takes_50 (fun H locs hw => ?_)
      refine lv_aload_n hx hb dX1_takes_51 rfl (lv_at hl 2 rfl) ?_
      refine rn_geta C hw 8 4 (by decide) rfl (hts _ (by decide +kernel)) rfl dX1_takes_52 ?_
      refine lv_iload_n hx hb dX1_takes_55 rfl (lv_at hl 3 rfl) ?_
      refine lv_aload_n hx hb dX1_takes_56 rfl (lv_at hl 2 rfl) ?_
      refine rn_geta C hw 15 11 (by decide) rfl (hts _ (by decide +kernel)) rfl dX1_takes_57 ?_
      refine lv_iload_n hx hb dX1_takes_60 rfl (lv_at hl 1 rfl) ?_
      refine rn_iald C hw (N := 100) (by decide) (by omega) (by decide) dX1_takes_61 ?_
      refine rn_iast C hw (N := 10) (by decide) hn (by decide) dX1_takes_62 (fun H locs hw => ?_)
      refine lv_aload_n hx hb dX1_takes_63 rfl (lv_at hl 2 rfl) ?_
      refine rn_geta C hw 9 5 (by decide) rfl (hts _ (by decide +kernel)) rfl dX1_takes_64 ?_
      refine lv_iload_n hx hb dX1_takes_67 rfl (lv_at hl 3 rfl) ?_
      refine lv_aload_n hx hb dX1_takes_68 rfl (lv_at hl 2 rfl) ?_
      refine rn_geta C hw 16 12 (by decide) rfl (hts _ (by decide +kernel)) rfl dX1_takes_69 ?_
      refine lv_iload_n hx hb dX1_takes_72 rfl (lv_at hl 1 rfl) ?_
      refine rn_iald C hw (N := 100) (by decide) (by omega) (by decide) dX1_takes_73 ?_
      refine rn_iast C hw (N := 10) (by decide) hn (by decide) dX1_takes_74 (fun H locs hw => ?_)
      refine lv_aload_n hx hb dX1_takes_75 rfl (lv_at hl 2 rfl) ?_
      refine rn_geta C hw 10 6 (by decide) rfl (hts _ (by decide +kernel)) rfl dX1_takes_76 ?_
      refine lv_iload_n hx hb dX1_takes_79 rfl (lv_at hl 3 rfl) ?_
      refine lv_aload_n hx hb dX1_takes_80 rfl (lv_at hl 2 rfl) ?_
      refine lv_iload_n hx hb dX1_takes_81 rfl (lv_at hl 3 rfl) ?_
      refine lv_iload_n hx hb dX1_takes_82 rfl (lv_at hl 4 rfl) ?_
      refine rn_callI C hw hA (As := [.int (nI n), .int (nI o)]) (rest := [.int (nI n), .ref (a 6)]) (kX1_rankBy l k a ha (rm_up (rm_up (rm_up σ 7 n (nI o)) 4 n ((rm_up σ 7 n (nI o)) 11 (10 * n + o))) 5 n ((rm_up (rm_up σ 7 n (nI o)) 4 n ((rm_up σ 7 n (nI o)) 11 (10 * n + o))) 12 (10 * n + o))) n o hn ho) (cwV 2 hts gX1_takes_X1_rankBy rfl rfl rfl (by decide +kernel) ⟨Nat.le_of_ble_eq_true rfl, Nat.le_of_ble_eq_true rfl⟩) rfl hl.1 rfl (lv_room (Nat.le_of_ble_eq_true rfl)) dX1_takes_83 ⟨Nat.zero_le _, Nat.zero_le _⟩ (fun H locs hw => ?_)
      refine rn_iast C hw (N := 10) (by decide) hn (by decide) dX1_takes_86 (fun H locs hw => ?_)
      refine lv_aload_n hx hb dX1_takes_87 rfl (lv_at hl 2 rfl) ?_
      refine rn_geta C hw 12 8 (by decide) rfl (hts _ (by decide +kernel)) rfl dX1_takes_88 ?_
      refine lv_iload_n hx hb dX1_takes_91 rfl (lv_at hl 3 rfl) ?_
      refine lv_iload hx hb dX1_takes_92 (lv_at hl 0 rfl) ?_
      refine lv_if_ne (tgt := 112) hx hb dX1_takes_94 (by decide) (fun c_94 => ?_) (fun c_94 => ?_)
      · exact absurd rfl c_94
      · skip
        refine lv_aload_n hx hb dX1_takes_97 rfl (lv_at hl 2 rfl) ?_
        refine rn_geta C hw 10 6 (by decide) rfl (hts _ (by decide +kernel)) rfl dX1_takes_98 ?_
        refine lv_iload_n hx hb dX1_takes_101 rfl (lv_at hl 3 rfl) ?_
        refine rn_iald C hw (N := 10) (by decide) hn (by decide) dX1_takes_102 ?_
        refine lv_aload_n hx hb dX1_takes_103 rfl (lv_at hl 2 rfl) ?_
        refine rn_geta C hw 12 8 (by decide) rfl (hts _ (by decide +kernel)) rfl dX1_takes_104 ?_
        refine lv_iload_n hx hb dX1_takes_107 rfl (lv_at hl 3 rfl) ?_
        refine rn_iald C hw (N := 10) (by decide) hn (by decide) dX1_takes_108 ?_
        refine lv_icmp_ge (tgt := 121) hx hb dX1_takes_109 (by decide) (fun c_109 => ?_) (fun c_109 => ?_)
        · skip
          refine lv_aload_n hx hb dX1_takes_121 rfl (lv_at hl 2 rfl) ?_
          refine rn_geta C hw 12 8 (by decide) rfl (hts _ (by decide +kernel)) rfl dX1_takes_122 ?_
          refine lv_iload_n hx hb dX1_takes_125 rfl (lv_at hl 3 rfl) ?_
          refine rn_iald C hw (N := 10) (by decide) hn (by decide) dX1_takes_126 ?_
          refine rn_iast C hw (N := 10) (by decide) hn (by decide) dX1_takes_127 (fun H locs hw => ?_)
          exact rn_vret C hr hlocks hw dX1_takes_128 (by first | with_reducible rfl | (rw [rn_takes, if_pos c_19, if_pos c_34]; exact (if_pos c_109).symm) | (first | with_reducible rfl | (simp only [rn_takes, rn_tk, rn_tk1, rn_tk2, rn_tk3, if_pos c_19, if_pos c_34, if_pos c_109, ↓reduceIte, Bool.false_eq_true]; done) | (simp only [rn_takes, rn_tk, rn_tk1, rn_tk2, rn_tk3, if_pos c_19, if_pos c_34, if_pos c_109, ↓reduceIte, Bool.false_eq_true]; rfl) | rfl))
        · skip
          refine lv_aload_n hx hb dX1_takes_112 rfl (lv_at hl 2 rfl) ?_
          refine rn_geta C hw 10 6 (by decide) rfl (hts _ (by decide +kernel)) rfl dX1_takes_113 ?_
          refine lv_iload_n hx hb dX1_takes_116 rfl (lv_at hl 3 rfl) ?_
          refine rn_iald C hw (N := 10) (by decide) hn (by decide) dX1_takes_117 ?_
          refine lv_goto (tgt := 127) hx hb dX1_takes_118 (by decide) ?_
          refine rn_iast C hw (N := 10) (by decide) hn (by decide) dX1_takes_127 (fun H locs hw => ?_)
          exact rn_vret C hr hlocks hw dX1_takes_128 (by first | with_reducible rfl | (rw [rn_takes, if_pos c_19, if_pos c_34]; exact (if_neg c_109).symm) | (first | with_reducible rfl | (simp only [rn_takes, rn_tk, rn_tk1, rn_tk2, rn_tk3, if_pos c_19, if_pos c_34, if_neg c_109, ↓reduceIte, Bool.false_eq_true]; done) | (simp only [rn_takes, rn_tk, rn_tk1, rn_tk2, rn_tk3, if_pos c_19, if_pos c_34, if_neg c_109, ↓reduceIte, Bool.false_eq_true]; rfl) | rfl))
    · skip
      refine lv_iconst (v := 1) hx hb dX1_takes_37 (by decide) ?_
      refine lv_goto (tgt := 42) hx hb dX1_takes_38 (by decide) ?_
      refine lv_istore (lv' := [(4, .int 1), (3, .int (nI (10 * n + o))), (0, .ref (a 0)), (1, .int (nI n)), (2, .int (nI o))]) hx hb dX1_takes_42 hl (by decide) rfl (fun ls hl => ?_)
      refine lv_aload_n hx hb dX1_takes_44 rfl (lv_at hl 2 rfl) ?_
      refine rn_geta C hw 11 7 (by decide) rfl (hts _ (by decide +kernel)) rfl dX1_takes_45 ?_
      refine lv_iload_n hx hb dX1_takes_48 rfl (lv_at hl 3 rfl) ?_
      refine lv_iload_n hx hb dX1_takes_49 rfl (lv_at hl 4 rfl) ?_
      refine rn_iast C hw (N := 10) (by decide) hn (by decide) dX1_takes_50 (fun H locs hw => ?_)
      refine lv_aload_n hx hb dX1_takes_51 rfl (lv_at hl 2 rfl) ?_
      refine rn_geta C hw 8 4 (by decide) rfl (hts _ (by decide +kernel)) rfl dX1_takes_52 ?_
      refine lv_iload_n hx hb dX1_takes_55 rfl (lv_at hl 3 rfl) ?_
      refine lv_aload_n hx hb dX1_takes_56 rfl (lv_at hl 2 rfl) ?_
      refine rn_geta C hw 15 11 (by decide) rfl (hts _ (by decide +kernel)) rfl dX1_takes_57 ?_
      refine lv_iload_n hx hb dX1_takes_60 rfl (lv_at hl 1 rfl) ?_
      refine rn_iald C hw (N := 100) (by decide) (by omega) (by decide) dX1_takes_61 ?_
      refine rn_iast C hw (N := 10) (by decide) hn (by decide) dX1_takes_62 (fun H locs hw => ?_)
      refine lv_aload_n hx hb dX1_takes_63 rfl (lv_at hl 2 rfl) ?_
      refine rn_geta C hw 9 5 (by decide) rfl (hts _ (by decide +kernel)) rfl dX1_takes_64 ?_
      refine lv_iload_n hx hb dX1_takes_67 rfl (lv_at hl 3 rfl) ?_
      refine lv_aload_n hx hb dX1_takes_68 rfl (lv_at hl 2 rfl) ?_
      refine rn_geta C hw 16 12 (by decide) rfl (hts _ (by decide +kernel)) rfl dX1_takes_69 ?_
      refine lv_iload_n hx hb dX1_takes_72 rfl (lv_at hl 1 rfl) ?_
      refine rn_iald C hw (N := 100) (by decide) (by omega) (by decide) dX1_takes_73 ?_
      refine rn_iast C hw (N := 10) (by decide) hn (by decide) dX1_takes_74 (fun H locs hw => ?_)
      refine lv_aload_n hx hb dX1_takes_75 rfl (lv_at hl 2 rfl) ?_
      refine rn_geta C hw 10 6 (by decide) rfl (hts _ (by decide +kernel)) rfl dX1_takes_76 ?_
      refine lv_iload_n hx hb dX1_takes_79 rfl (lv_at hl 3 rfl) ?_
      refine lv_aload_n hx hb dX1_takes_80 rfl (lv_at hl 2 rfl) ?_
      refine lv_iload_n hx hb dX1_takes_81 rfl (lv_at hl 3 rfl) ?_
      refine lv_iload_n hx hb dX1_takes_82 rfl (lv_at hl 4 rfl) ?_
      refine rn_callI C hw hA (As := [.int (nI n), .int (nI o)]) (rest := [.int (nI n), .ref (a 6)]) (kX1_rankBy l k a ha (rm_up (rm_up (rm_up σ 7 n (nI o)) 4 n ((rm_up σ 7 n (nI o)) 11 (10 * n + o))) 5 n ((rm_up (rm_up σ 7 n (nI o)) 4 n ((rm_up σ 7 n (nI o)) 11 (10 * n + o))) 12 (10 * n + o))) n o hn ho) (cwV 2 hts gX1_takes_X1_rankBy rfl rfl rfl (by decide +kernel) ⟨Nat.le_of_ble_eq_true rfl, Nat.le_of_ble_eq_true rfl⟩) rfl hl.1 rfl (lv_room (Nat.le_of_ble_eq_true rfl)) dX1_takes_83 ⟨Nat.zero_le _, Nat.zero_le _⟩ (fun H locs hw => ?_)
      refine rn_iast C hw (N := 10) (by decide) hn (by decide) dX1_takes_86 (fun H locs hw => ?_)
      refine lv_aload_n hx hb dX1_takes_87 rfl (lv_at hl 2 rfl) ?_
      refine rn_geta C hw 12 8 (by decide) rfl (hts _ (by decide +kernel)) rfl dX1_takes_88 ?_
      refine lv_iload_n hx hb dX1_takes_91 rfl (lv_at hl 3 rfl) ?_
      refine lv_iload hx hb dX1_takes_92 (lv_at hl 0 rfl) ?_
      refine lv_if_ne (tgt := 112) hx hb dX1_takes_94 (by decide) (fun c_94 => ?_) (fun c_94 => ?_)
      · skip
        refine lv_aload_n hx hb dX1_takes_112 rfl (lv_at hl 2 rfl) ?_
        refine rn_geta C hw 10 6 (by decide) rfl (hts _ (by decide +kernel)) rfl dX1_takes_113 ?_
        refine lv_iload_n hx hb dX1_takes_116 rfl (lv_at hl 3 rfl) ?_
        refine rn_iald C hw (N := 10) (by decide) hn (by decide) dX1_takes_117 ?_
        refine lv_goto (tgt := 127) hx hb dX1_takes_118 (by decide) ?_
        refine rn_iast C hw (N := 10) (by decide) hn (by decide) dX1_takes_127 (fun H locs hw => ?_)
        exact rn_vret C hr hlocks hw dX1_takes_128 (by first | with_reducible rfl | (rw [rn_takes, if_pos c_19]; exact (if_neg c_34).symm) | (first | with_reducible rfl | (simp only [rn_takes, rn_tk, rn_tk1, rn_tk2, rn_tk3, if_pos c_19, if_neg c_34, ↓reduceIte, Bool.false_eq_true]; done) | (simp only [rn_takes, rn_tk, rn_tk1, rn_tk2, rn_tk3, if_pos c_19, if_neg c_34, ↓reduceIte, Bool.false_eq_true]; rfl) | rfl))
      · exact absurd c_94 (by decide)
set_option maxHeartbeats 4000000 in
set_option maxRecDepth 100000 in
theorem kX1_chooses (l : Launch) (k : rm_K) (a : Nat → Nat) (ha : rn_inj a) (σ : rm_St) (n : Nat) (hn : n < 10) (hok : rn_ok σ) : rn_MV l k a yX1_chooses wsX1_chooses ({ frames := 2, cells := 0, slots := 0, locals := 49 }) [.int (nI n)] σ  (rn_chooses σ n) := by
  refine rn_enterV (cc := cX1_chooses) (nL := 7) (ret := none) ha (by decide) rfl rfl (by decide +kernel) (Nat.le_of_ble_eq_true rfl) ?_
  intro p e s m args below meth c ls C hr hlocks hw hl
  have hx := C.1.1
  have hb := C.1.2.1
  have hts := C.1.2.2.2.2
  have hA : ∀ q, s.heap.size ≤ q → rn_A a s.heap.size q := fun q h => Or.inr h
  replace hl : lv_has ls 7 [(0, .ref (a 0)), (1, .int (nI n))] := hl
  refine lv_aload_n hx hb dX1_chooses_0 rfl (lv_at hl 0 rfl) ?_
  refine rn_geta C hw 6 2 (by decide) rfl (hts _ (by decide +kernel)) rfl dX1_chooses_1 ?_
  refine lv_iload_n hx hb dX1_chooses_4 rfl (lv_at hl 1 rfl) ?_
  refine rn_zald C hw hn dX1_chooses_5 ?_
  refine lv_if_eq (tgt := 10) hx hb dX1_chooses_6 (by decide) (fun c_6 => ?_) (fun c_6 => ?_)
  · skip
    refine lv_iconst (v := (-1)) hx hb dX1_chooses_10 (by decide) ?_
    refine lv_istore_n (lv' := [(2, .int ((-1))), (0, .ref (a 0)), (1, .int (nI n))]) hx hb dX1_chooses_11 rfl hl (by decide) rfl (fun ls hl => ?_)
    refine lv_iconst (v := 0) hx hb dX1_chooses_12 (by decide) ?_
    refine lv_istore_n (lv' := [(3, .int 0), (2, .int ((-1))), (0, .ref (a 0)), (1, .int (nI n))]) hx hb dX1_chooses_13 rfl hl (by decide) rfl (fun ls hl => ?_)
    have lp_14 : ∀ (r i : Nat), i + r = 10 → ∀ (x2 : Int32), rn_bestL σ n r i x2 = rn_best σ n → (x2 = -1 ∨ isNd x2 = true) → ∀ (H : Heap) (locs : List Loc), rn_Wd k a (rn_A a s.heap.size) s.heap s σ H locs → ∀ (ls : Array Slot), lv_has ls 7 [(0, .ref (a 0)), (1, .int (nI n)), (2, .int x2), (3, .int (nI i))] → W p l e (headSpec wsX1_chooses ({ frames := 2, cells := 0, slots := 0, locals := 49 })).room s m args below meth c H locs 0 0 (MQ below (va_Qv (fun (τ : rm_St) => τ = (rn_chooses σ n)) (fun τ t => rn_P k a τ t) (rn_A a s.heap.size)) args s 0 0 (rn_A a s.heap.size)) (F0 m 14 ls []) := by
      intro r
      induction r with
      | zero =>
        intro i hi14 x2 ht14 hv14 H locs hw ls hl
        obtain rfl : i = 10 := by omega
        refine lv_iload_n hx hb dX1_chooses_14 rfl (lv_at hl 3 rfl) ?_
        refine lv_bipush (v := 10) hx hb dX1_chooses_15 (by decide) ?_
        refine lv_icmp_ge (tgt := 61) hx hb dX1_chooses_17 (by decide) (fun c_17 => ?_) (fun c_17 => ?_)
        · skip
          have j177 : ∀ (τ : rm_St), τ = rn_after σ n (rn_pick σ n (rn_best σ n)) → ∀ (H : Heap) (locs : List Loc), rn_Wd k a (rn_A a s.heap.size) s.heap s τ H locs → ∀ (ls : Array Slot), lv_has ls 7 [(0, .ref (a 0)), (1, .int (nI n)), (3, .int (σ 7 n)), (4, .int (σ 4 n)), (5, .int (σ 5 n)), (6, .int (σ 6 n))] → W p l e (headSpec wsX1_chooses ({ frames := 2, cells := 0, slots := 0, locals := 49 })).room s m args below meth c H locs 0 0 (MQ below (va_Qv (fun (τ : rm_St) => τ = (rn_chooses σ n)) (fun τ t => rn_P k a τ t) (rn_A a s.heap.size)) args s 0 0 (rn_A a s.heap.size)) (F0 m 177 ls []) := by
            intro τ hτ H locs hw ls hl
            refine lv_aload_n hx hb dX1_chooses_177 rfl (lv_at hl 0 rfl) ?_
            refine rn_geta C hw 8 4 (by decide) rfl (hts _ (by decide +kernel)) rfl dX1_chooses_178 ?_
            refine lv_iload_n hx hb dX1_chooses_181 rfl (lv_at hl 1 rfl) ?_
            refine rn_iald C hw (N := 10) (by decide) hn (by decide) dX1_chooses_182 ?_
            refine lv_iload hx hb dX1_chooses_183 (lv_at hl 3 rfl) ?_
            refine lv_icmp_ne (tgt := 220) hx hb dX1_chooses_185 (by decide) (fun c_185 => ?_) (fun c_185 => ?_)
            · skip
              refine lv_aload_n hx hb dX1_chooses_220 rfl (lv_at hl 0 rfl) ?_
              refine lv_iload_n hx hb dX1_chooses_221 rfl (lv_at hl 1 rfl) ?_
              refine rn_callV C hw hA (As := [.int (nI n)]) (rest := []) (kX1_resets l k a ha τ n hn) (cwV 1 hts gX1_chooses_X1_resets rfl rfl rfl (by decide +kernel) ⟨Nat.le_of_ble_eq_true rfl, Nat.le_of_ble_eq_true rfl⟩) rfl hl.1 rfl (lv_room (Nat.le_of_ble_eq_true rfl)) dX1_chooses_222 ⟨Nat.zero_le _, Nat.zero_le _⟩ (fun H locs hw => ?_)
              exact rn_vret C hr hlocks hw dX1_chooses_225 (by first | with_reducible rfl | exact ht14 | (rw [← ht14]; first | with_reducible rfl | (simp only [rn_bestL, ← hτ, if_neg c_185, ↓reduceIte, Bool.false_eq_true]; done) | (simp only [rn_bestL, ← hτ, if_neg c_185, ↓reduceIte, Bool.false_eq_true]; rfl) | rfl) | (first | with_reducible rfl | (simp only [rn_chooses, rn_chooseT, if_pos c_6, ← hτ, if_neg c_185, ↓reduceIte, Bool.false_eq_true]; done) | (simp only [rn_chooses, rn_chooseT, if_pos c_6, ← hτ, if_neg c_185, ↓reduceIte, Bool.false_eq_true]; rfl) | rfl))
            · skip
              refine lv_aload_n hx hb dX1_chooses_188 rfl (lv_at hl 0 rfl) ?_
              refine rn_geta C hw 9 5 (by decide) rfl (hts _ (by decide +kernel)) rfl dX1_chooses_189 ?_
              refine lv_iload_n hx hb dX1_chooses_192 rfl (lv_at hl 1 rfl) ?_
              refine rn_iald C hw (N := 10) (by decide) hn (by decide) dX1_chooses_193 ?_
              refine lv_iload hx hb dX1_chooses_194 (lv_at hl 4 rfl) ?_
              refine lv_icmp_ne (tgt := 220) hx hb dX1_chooses_196 (by decide) (fun c_196 => ?_) (fun c_196 => ?_)
              · skip
                refine lv_aload_n hx hb dX1_chooses_220 rfl (lv_at hl 0 rfl) ?_
                refine lv_iload_n hx hb dX1_chooses_221 rfl (lv_at hl 1 rfl) ?_
                refine rn_callV C hw hA (As := [.int (nI n)]) (rest := []) (kX1_resets l k a ha τ n hn) (cwV 1 hts gX1_chooses_X1_resets rfl rfl rfl (by decide +kernel) ⟨Nat.le_of_ble_eq_true rfl, Nat.le_of_ble_eq_true rfl⟩) rfl hl.1 rfl (lv_room (Nat.le_of_ble_eq_true rfl)) dX1_chooses_222 ⟨Nat.zero_le _, Nat.zero_le _⟩ (fun H locs hw => ?_)
                exact rn_vret C hr hlocks hw dX1_chooses_225 (by first | with_reducible rfl | exact ht14 | (rw [← ht14]; first | with_reducible rfl | (simp only [rn_bestL, ← hτ, if_pos c_185, if_neg c_196, ↓reduceIte, Bool.false_eq_true]; done) | (simp only [rn_bestL, ← hτ, if_pos c_185, if_neg c_196, ↓reduceIte, Bool.false_eq_true]; rfl) | rfl) | (first | with_reducible rfl | (simp only [rn_chooses, rn_chooseT, if_pos c_6, ← hτ, if_pos c_185, if_neg c_196, ↓reduceIte, Bool.false_eq_true]; done) | (simp only [rn_chooses, rn_chooseT, if_pos c_6, ← hτ, if_pos c_185, if_neg c_196, ↓reduceIte, Bool.false_eq_true]; rfl) | rfl))
              · skip
                refine lv_aload_n hx hb dX1_chooses_199 rfl (lv_at hl 0 rfl) ?_
                refine rn_geta C hw 10 6 (by decide) rfl (hts _ (by decide +kernel)) rfl dX1_chooses_200 ?_
                refine lv_iload_n hx hb dX1_chooses_203 rfl (lv_at hl 1 rfl) ?_
                refine rn_iald C hw (N := 10) (by decide) hn (by decide) dX1_chooses_204 ?_
                refine lv_iload hx hb dX1_chooses_205 (lv_at hl 5 rfl) ?_
                refine lv_icmp_ne (tgt := 220) hx hb dX1_chooses_207 (by decide) (fun c_207 => ?_) (fun c_207 => ?_)
                · skip
                  refine lv_aload_n hx hb dX1_chooses_220 rfl (lv_at hl 0 rfl) ?_
                  refine lv_iload_n hx hb dX1_chooses_221 rfl (lv_at hl 1 rfl) ?_
                  refine rn_callV C hw hA (As := [.int (nI n)]) (rest := []) (kX1_resets l k a ha τ n hn) (cwV 1 hts gX1_chooses_X1_resets rfl rfl rfl (by decide +kernel) ⟨Nat.le_of_ble_eq_true rfl, Nat.le_of_ble_eq_true rfl⟩) rfl hl.1 rfl (lv_room (Nat.le_of_ble_eq_true rfl)) dX1_chooses_222 ⟨Nat.zero_le _, Nat.zero_le _⟩ (fun H locs hw => ?_)
                  exact rn_vret C hr hlocks hw dX1_chooses_225 (by first | with_reducible rfl | exact ht14 | (rw [← ht14]; first | with_reducible rfl | (simp only [rn_bestL, ← hτ, if_pos c_185, if_pos c_196, if_neg c_207, ↓reduceIte, Bool.false_eq_true]; done) | (simp only [rn_bestL, ← hτ, if_pos c_185, if_pos c_196, if_neg c_207, ↓reduceIte, Bool.false_eq_true]; rfl) | rfl) | (first | with_reducible rfl | (simp only [rn_chooses, rn_chooseT, if_pos c_6, ← hτ, if_pos c_185, if_pos c_196, if_neg c_207, ↓reduceIte, Bool.false_eq_true]; done) | (simp only [rn_chooses, rn_chooseT, if_pos c_6, ← hτ, if_pos c_185, if_pos c_196, if_neg c_207, ↓reduceIte, Bool.false_eq_true]; rfl) | rfl))
                · skip
                  refine lv_aload_n hx hb dX1_chooses_210 rfl (lv_at hl 0 rfl) ?_
                  refine rn_geta C hw 11 7 (by decide) rfl (hts _ (by decide +kernel)) rfl dX1_chooses_211 ?_
                  refine lv_iload_n hx hb dX1_chooses_214 rfl (lv_at hl 1 rfl) ?_
                  refine rn_iald C hw (N := 10) (by decide) hn (by decide) dX1_chooses_215 ?_
                  refine lv_iload_n hx hb dX1_chooses_216 rfl (lv_at hl 2 rfl) ?_
                  refine lv_icmp_eq (tgt := 225) hx hb dX1_chooses_217 (by decide) (fun c_217 => ?_) (fun c_217 => ?_)
                  · skip
                    exact rn_vret C hr hlocks hw dX1_chooses_225 (by first | with_reducible rfl | exact ht14 | (rw [← ht14]; first | with_reducible rfl | (simp only [rn_bestL, ← hτ, if_pos c_185, if_pos c_196, if_pos c_207, if_pos c_217, ↓reduceIte, Bool.false_eq_true]; done) | (simp only [rn_bestL, ← hτ, if_pos c_185, if_pos c_196, if_pos c_207, if_pos c_217, ↓reduceIte, Bool.false_eq_true]; rfl) | rfl) | (first | with_reducible rfl | (simp only [rn_chooses, rn_chooseT, if_pos c_6, ← hτ, if_pos c_185, if_pos c_196, if_pos c_207, if_pos c_217, ↓reduceIte, Bool.false_eq_true]; done) | (simp only [rn_chooses, rn_chooseT, if_pos c_6, ← hτ, if_pos c_185, if_pos c_196, if_pos c_207, if_pos c_217, ↓reduceIte, Bool.false_eq_true]; rfl) | rfl))
                  · skip
                    refine lv_aload_n hx hb dX1_chooses_220 rfl (lv_at hl 0 rfl) ?_
                    refine lv_iload_n hx hb dX1_chooses_221 rfl (lv_at hl 1 rfl) ?_
                    refine rn_callV C hw hA (As := [.int (nI n)]) (rest := []) (kX1_resets l k a ha τ n hn) (cwV 1 hts gX1_chooses_X1_resets rfl rfl rfl (by decide +kernel) ⟨Nat.le_of_ble_eq_true rfl, Nat.le_of_ble_eq_true rfl⟩) rfl hl.1 rfl (lv_room (Nat.le_of_ble_eq_true rfl)) dX1_chooses_222 ⟨Nat.zero_le _, Nat.zero_le _⟩ (fun H locs hw => ?_)
                    exact rn_vret C hr hlocks hw dX1_chooses_225 (by first | with_reducible rfl | exact ht14 | (rw [← ht14]; first | with_reducible rfl | (simp only [rn_bestL, ← hτ, if_pos c_185, if_pos c_196, if_pos c_207, if_neg c_217, ↓reduceIte, Bool.false_eq_true]; done) | (simp only [rn_bestL, ← hτ, if_pos c_185, if_pos c_196, if_pos c_207, if_neg c_217, ↓reduceIte, Bool.false_eq_true]; rfl) | rfl) | (first | with_reducible rfl | (simp only [rn_chooses, rn_chooseT, if_pos c_6, ← hτ, if_pos c_185, if_pos c_196, if_pos c_207, if_neg c_217, ↓reduceIte, Bool.false_eq_true]; done) | (simp only [rn_chooses, rn_chooseT, if_pos c_6, ← hτ, if_pos c_185, if_pos c_196, if_pos c_207, if_neg c_217, ↓reduceIte, Bool.false_eq_true]; rfl) | rfl))
          have j123 : ∀ (y2 : Int32), y2 = rn_pick σ n (rn_best σ n) → ∀ (H : Heap) (locs : List Loc), rn_Wd k a (rn_A a s.heap.size) s.heap s σ H locs → ∀ (ls : Array Slot), lv_has ls 7 [(0, .ref (a 0)), (1, .int (nI n)), (2, .int y2), (3, .int (σ 7 n))] → W p l e (headSpec wsX1_chooses ({ frames := 2, cells := 0, slots := 0, locals := 49 })).room s m args below meth c H locs 0 0 (MQ below (va_Qv (fun (τ : rm_St) => τ = (rn_chooses σ n)) (fun τ t => rn_P k a τ t) (rn_A a s.heap.size)) args s 0 0 (rn_A a s.heap.size)) (F0 m 123 ls []) := by
            intro y2 hy H locs hw ls hl
            have hvy : y2 = -1 ∨ isNd y2 = true := by rw [hy]; exact rn_pick_ok (rn_best_ok 10 0 (-1) rfl (Or.inl rfl)) (hok n hn)
            refine lv_aload_n hx hb dX1_chooses_123 rfl (lv_at hl 0 rfl) ?_
            refine rn_geta C hw 8 4 (by decide) rfl (hts _ (by decide +kernel)) rfl dX1_chooses_124 ?_
            refine lv_iload_n hx hb dX1_chooses_127 rfl (lv_at hl 1 rfl) ?_
            refine rn_iald C hw (N := 10) (by decide) hn (by decide) dX1_chooses_128 ?_
            refine lv_istore (lv' := [(4, .int (σ 4 n)), (0, .ref (a 0)), (1, .int (nI n)), (2, .int y2), (3, .int (σ 7 n))]) hx hb dX1_chooses_129 hl (by decide) rfl (fun ls hl => ?_)
            refine lv_aload_n hx hb dX1_chooses_131 rfl (lv_at hl 1 rfl) ?_
            refine rn_geta C hw 9 5 (by decide) rfl (hts _ (by decide +kernel)) rfl dX1_chooses_132 ?_
            refine lv_iload_n hx hb dX1_chooses_135 rfl (lv_at hl 2 rfl) ?_
            refine rn_iald C hw (N := 10) (by decide) hn (by decide) dX1_chooses_136 ?_
            refine lv_istore (lv' := [(5, .int (σ 5 n)), (4, .int (σ 4 n)), (0, .ref (a 0)), (1, .int (nI n)), (2, .int y2), (3, .int (σ 7 n))]) hx hb dX1_chooses_137 hl (by decide) rfl (fun ls hl => ?_)
            refine lv_aload_n hx hb dX1_chooses_139 rfl (lv_at hl 2 rfl) ?_
            refine rn_geta C hw 10 6 (by decide) rfl (hts _ (by decide +kernel)) rfl dX1_chooses_140 ?_
            refine lv_iload_n hx hb dX1_chooses_143 rfl (lv_at hl 3 rfl) ?_
            refine rn_iald C hw (N := 10) (by decide) hn (by decide) dX1_chooses_144 ?_
            refine lv_istore (lv' := [(6, .int (σ 6 n)), (5, .int (σ 5 n)), (4, .int (σ 4 n)), (0, .ref (a 0)), (1, .int (nI n)), (2, .int y2), (3, .int (σ 7 n))]) hx hb dX1_chooses_145 hl (by decide) rfl (fun ls hl => ?_)
            refine lv_iload_n hx hb dX1_chooses_147 rfl (lv_at hl 5 rfl) ?_
            refine lv_iconst (v := (-1)) hx hb dX1_chooses_148 (by decide) ?_
            refine lv_icmp_ne (tgt := 171) hx hb dX1_chooses_149 (by decide) (fun c_149 => ?_) (fun c_149 => ?_)
            · skip
              obtain ⟨b2, hb2n, eb2⟩ := isNd_of (hvy.resolve_left c_149)
              rw [eb2] at hl
              refine lv_aload_n hx hb dX1_chooses_171 rfl (lv_at hl 3 rfl) ?_
              refine lv_iload_n hx hb dX1_chooses_172 rfl (lv_at hl 4 rfl) ?_
              refine lv_iload_n hx hb dX1_chooses_173 rfl (lv_at hl 5 rfl) ?_
              refine rn_callV C hw hA (As := [.int (nI n), .int (nI b2)]) (rest := []) (kX1_takes l k a ha σ n b2 hn hb2n) (cwV 2 hts gX1_chooses_X1_takes rfl rfl rfl (by decide +kernel) ⟨Nat.le_of_ble_eq_true rfl, Nat.le_of_ble_eq_true rfl⟩) rfl hl.1 rfl (lv_room (Nat.le_of_ble_eq_true rfl)) dX1_chooses_174 ⟨Nat.zero_le _, Nat.zero_le _⟩ (fun H locs hw => ?_)
              exact j177 _ (by rw [← hy, rn_after, if_neg c_149, eb2, rm_cl hb2n]) _ _ hw _ (lv_sub hl [3, 4, 6, 2, 1, 0] rfl)
            · skip
              refine lv_aload_n hx hb dX1_chooses_152 rfl (lv_at hl 3 rfl) ?_
              refine rn_geta C hw 11 7 (by decide) rfl (hts _ (by decide +kernel)) rfl dX1_chooses_153 ?_
              refine lv_iload_n hx hb dX1_chooses_156 rfl (lv_at hl 4 rfl) ?_
              refine lv_iconst (v := (-1)) hx hb dX1_chooses_157 (by decide) ?_
              refine rn_iast C hw (N := 10) (by decide) hn (by decide) dX1_chooses_158 (fun H locs hw => ?_)
              refine lv_aload_n hx hb dX1_chooses_159 rfl (lv_at hl 3 rfl) ?_
              refine rn_geta C hw 10 6 (by decide) rfl (hts _ (by decide +kernel)) rfl dX1_chooses_160 ?_
              refine lv_iload_n hx hb dX1_chooses_163 rfl (lv_at hl 4 rfl) ?_
              refine lv_sipush (v := 10000) hx hb dX1_chooses_164 (by decide) ?_
              refine rn_iast C hw (N := 10) (by decide) hn (by decide) dX1_chooses_167 (fun H locs hw => ?_)
              refine lv_goto (tgt := 177) hx hb dX1_chooses_168 (by decide) ?_
              exact j177 _ (by rw [← hy, rn_after, if_pos c_149]) _ _ hw _ (lv_sub hl [3, 4, 6, 2, 1, 0] rfl)
          have hb2 : x2 = rn_best σ n := ht14
          refine lv_aload_n hx hb dX1_chooses_61 rfl (lv_at hl 0 rfl) ?_
          refine rn_geta C hw 11 7 (by decide) rfl (hts _ (by decide +kernel)) rfl dX1_chooses_62 ?_
          refine lv_iload_n hx hb dX1_chooses_65 rfl (lv_at hl 1 rfl) ?_
          refine rn_iald C hw (N := 10) (by decide) hn (by decide) dX1_chooses_66 ?_
          refine lv_istore_n (lv' := [(3, .int (σ 7 n)), (0, .ref (a 0)), (1, .int (nI n)), (2, .int x2)]) hx hb dX1_chooses_67 rfl hl (by decide) rfl (fun ls hl => ?_)
          refine lv_iload_n hx hb dX1_chooses_68 rfl (lv_at hl 3 rfl) ?_
          refine lv_iconst (v := (-1)) hx hb dX1_chooses_69 (by decide) ?_
          refine lv_icmp_eq (tgt := 123) hx hb dX1_chooses_70 (by decide) (fun c_70 => ?_) (fun c_70 => ?_)
          · skip
            exact j123 _ (by rw [← hb2]; simp only [rn_pick, if_pos c_6, if_pos c_70, ↓reduceIte, Bool.false_eq_true]) _ _ hw _ (lv_sub hl [1, 2, 3, 0] rfl)
          · skip
            obtain ⟨ob, hob, rfl⟩ := isNd_of (hv14.resolve_left c_70)
            refine lv_iload_n hx hb dX1_chooses_73 rfl (lv_at hl 0 rfl) ?_
            refine lv_iconst (v := (-1)) hx hb dX1_chooses_74 (by decide) ?_
            refine lv_icmp_eq (tgt := 123) hx hb dX1_chooses_75 (by decide) (fun c_75 => ?_) (fun c_75 => ?_)
            · skip
              exact j123 _ (by rw [← hb2]; simp only [rn_pick, if_pos c_6, if_neg c_70, rm_cl hob, if_pos c_75, ↓reduceIte, Bool.false_eq_true]) _ _ hw _ (lv_sub hl [1, 2, 3, 0] rfl)
            · skip
              obtain ⟨oo, hoo, eoo⟩ := isNd_of ((hok n hn).resolve_left c_75)
              rw [eoo] at hl
              have eo1 : (σ 7 n).toNatClampNeg = oo := by rw [eoo, rm_cl hoo]
              refine lv_aload_n hx hb dX1_chooses_78 rfl (lv_at hl 1 rfl) ?_
              refine lv_iload_n hx hb dX1_chooses_79 rfl (lv_at hl 2 rfl) ?_
              refine lv_iload_n hx hb dX1_chooses_80 rfl (lv_at hl 0 rfl) ?_
              refine rn_callI C hw hA (As := [.int (nI n), .int (nI oo)]) (rest := []) (kX1_isCandidate l k a ha σ n oo hn hoo) (cwV 2 hts gX1_chooses_X1_isCandidate rfl rfl rfl (by decide +kernel) ⟨Nat.le_of_ble_eq_true rfl, Nat.le_of_ble_eq_true rfl⟩) rfl hl.1 rfl (lv_room (Nat.le_of_ble_eq_true rfl)) dX1_chooses_81 ⟨Nat.zero_le _, Nat.zero_le _⟩ (fun H locs hw => ?_)
              refine rm_ifeq (tgt := 123) hx hb dX1_chooses_84 (by decide) (fun c_84 => ?_) (fun c_84 => ?_)
              · skip
                rw [← eoo] at hl; exact j123 _ (by rw [← hb2]; simp only [rn_pick, if_pos c_6, if_neg c_70, rm_cl hob, if_neg c_75, eo1, c_84, ↓reduceIte, Bool.false_eq_true]) _ _ hw _ (lv_sub hl [1, 2, 3, 0] rfl)
              · skip
                refine lv_aload_n hx hb dX1_chooses_87 rfl (lv_at hl 1 rfl) ?_
                refine lv_iload_n hx hb dX1_chooses_88 rfl (lv_at hl 2 rfl) ?_
                refine lv_iload_n hx hb dX1_chooses_89 rfl (lv_at hl 0 rfl) ?_
                refine rn_callI C hw hA (As := [.int (nI n), .int (nI oo)]) (rest := []) (kX1_rankBy l k a ha σ n oo hn hoo) (cwV 2 hts gX1_chooses_X1_rankBy rfl rfl rfl (by decide +kernel) ⟨Nat.le_of_ble_eq_true rfl, Nat.le_of_ble_eq_true rfl⟩) rfl hl.1 rfl (lv_room (Nat.le_of_ble_eq_true rfl)) dX1_chooses_90 ⟨Nat.zero_le _, Nat.zero_le _⟩ (fun H locs hw => ?_)
                refine lv_aload_n hx hb dX1_chooses_93 rfl (lv_at hl 1 rfl) ?_
                refine lv_iload_n hx hb dX1_chooses_94 rfl (lv_at hl 2 rfl) ?_
                refine lv_iload_n hx hb dX1_chooses_95 rfl (lv_at hl 3 rfl) ?_
                refine rn_callI C hw hA (As := [.int (nI n), .int (nI ob)]) (rest := [.int (rn_rankBy σ n oo)]) (kX1_rankBy l k a ha σ n ob hn hob) (cwV 2 hts gX1_chooses_X1_rankBy rfl rfl rfl (by decide +kernel) ⟨Nat.le_of_ble_eq_true rfl, Nat.le_of_ble_eq_true rfl⟩) rfl hl.1 rfl (lv_room (Nat.le_of_ble_eq_true rfl)) dX1_chooses_96 ⟨Nat.zero_le _, Nat.zero_le _⟩ (fun H locs hw => ?_)
                refine lv_isub hx hb dX1_chooses_99 ?_
                refine lv_istore (lv' := [(4, .int ((rn_rankBy σ n oo) - (rn_rankBy σ n ob))), (3, .int (nI oo)), (0, .ref (a 0)), (1, .int (nI n)), (2, .int (nI ob))]) hx hb dX1_chooses_100 hl (by decide) rfl (fun ls hl => ?_)
                refine lv_iload hx hb dX1_chooses_102 (lv_at hl 0 rfl) ?_
                refine lv_aload_n hx hb dX1_chooses_104 rfl (lv_at hl 2 rfl) ?_
                refine rn_geti C hw 0 (by decide) (hts _ (by decide +kernel)) rfl dX1_chooses_105 ?_
                refine lv_icmp_lt (tgt := 121) hx hb dX1_chooses_108 (by decide) (fun c_108 => ?_) (fun c_108 => ?_)
                · skip
                  refine lv_iload_n hx hb dX1_chooses_121 rfl (lv_at hl 1 rfl) ?_
                  refine lv_istore_n (lv' := [(2, .int (nI oo)), (4, .int ((rn_rankBy σ n oo) - (rn_rankBy σ n ob))), (3, .int (nI oo)), (0, .ref (a 0)), (1, .int (nI n))]) hx hb dX1_chooses_122 rfl hl (by decide) rfl (fun ls hl => ?_)
                  rw [← eoo] at hl; exact j123 _ (by rw [← hb2]; simp only [rn_pick, if_pos c_6, if_neg c_70, rm_cl hob, if_neg c_75, eo1, c_84, if_pos c_108, ↓reduceIte, Bool.false_eq_true]) _ _ hw _ (lv_sub hl [3, 4, 0, 2] rfl)
                · skip
                  refine lv_iload hx hb dX1_chooses_111 (lv_at hl 0 rfl) ?_
                  refine lv_iconst (v := 1) hx hb dX1_chooses_113 (by decide) ?_
                  refine lv_icmp_lt (tgt := 121) hx hb dX1_chooses_114 (by decide) (fun c_114 => ?_) (fun c_114 => ?_)
                  · skip
                    refine lv_iload_n hx hb dX1_chooses_121 rfl (lv_at hl 1 rfl) ?_
                    refine lv_istore_n (lv' := [(2, .int (nI oo)), (4, .int ((rn_rankBy σ n oo) - (rn_rankBy σ n ob))), (3, .int (nI oo)), (0, .ref (a 0)), (1, .int (nI n))]) hx hb dX1_chooses_122 rfl hl (by decide) rfl (fun ls hl => ?_)
                    rw [← eoo] at hl; exact j123 _ (by rw [← hb2]; simp only [rn_pick, if_pos c_6, if_neg c_70, rm_cl hob, if_neg c_75, eo1, c_84, if_neg c_108, if_pos c_114, ↓reduceIte, Bool.false_eq_true]) _ _ hw _ (lv_sub hl [3, 4, 0, 2] rfl)
                  · skip
                    refine lv_iload_n hx hb dX1_chooses_117 rfl (lv_at hl 4 rfl) ?_
                    refine lv_goto (tgt := 122) hx hb dX1_chooses_118 (by decide) ?_
                    refine lv_istore_n (lv' := [(2, .int (nI ob)), (4, .int ((rn_rankBy σ n oo) - (rn_rankBy σ n ob))), (3, .int (nI oo)), (0, .ref (a 0)), (1, .int (nI n))]) hx hb dX1_chooses_122 rfl hl (by decide) rfl (fun ls hl => ?_)
                    rw [← eoo] at hl; exact j123 _ (by rw [← hb2]; simp only [rn_pick, if_pos c_6, if_neg c_70, rm_cl hob, if_neg c_75, eo1, c_84, if_neg c_108, if_neg c_114, ↓reduceIte, Bool.false_eq_true]) _ _ hw _ (lv_sub hl [3, 4, 0, 2] rfl)
        · exact absurd (show (10 : Int32) ≤ nI 10 from nI_le (a := 10) (b := 10) (Nat.le_refl _) (by decide)) c_17
      | succ r ih14 =>
        intro i hi14 x2 ht14 hv14 H locs hw ls hl
        have hlt14 : i < 10 := by omega
        refine lv_iload_n hx hb dX1_chooses_14 rfl (lv_at hl 3 rfl) ?_
        refine lv_bipush (v := 10) hx hb dX1_chooses_15 (by decide) ?_
        refine lv_icmp_ge (tgt := 61) hx hb dX1_chooses_17 (by decide) (fun c_17 => ?_) (fun c_17 => ?_)
        · exact absurd c_17 (nI_ge (a := i) (b := 10) hlt14 (by decide))
        · skip
          refine lv_aload_n hx hb dX1_chooses_20 rfl (lv_at hl 0 rfl) ?_
          refine lv_iload_n hx hb dX1_chooses_21 rfl (lv_at hl 1 rfl) ?_
          refine lv_iload_n hx hb dX1_chooses_22 rfl (lv_at hl 3 rfl) ?_
          refine rn_callI C hw hA (As := [.int (nI n), .int (nI i)]) (rest := []) (kX1_isCandidate l k a ha σ n i hn hlt14) (cwV 2 hts gX1_chooses_X1_isCandidate rfl rfl rfl (by decide +kernel) ⟨Nat.le_of_ble_eq_true rfl, Nat.le_of_ble_eq_true rfl⟩) rfl hl.1 rfl (lv_room (Nat.le_of_ble_eq_true rfl)) dX1_chooses_23 ⟨Nat.zero_le _, Nat.zero_le _⟩ (fun H locs hw => ?_)
          refine rm_ifeq (tgt := 53) hx hb dX1_chooses_26 (by decide) (fun c_26 => ?_) (fun c_26 => ?_)
          · skip
            refine lv_iload_n hx hb dX1_chooses_53 rfl (lv_at hl 2 rfl) ?_
            refine lv_istore_n (lv' := [(2, .int x2), (0, .ref (a 0)), (1, .int (nI n)), (3, .int (nI i))]) hx hb dX1_chooses_54 rfl hl (by decide) rfl (fun ls hl => ?_)
            refine lv_iinc (v := nI (i + 1)) (lv' := [(3, .int (nI (i + 1))), (2, .int x2), (0, .ref (a 0)), (1, .int (nI n))]) hx hb dX1_chooses_55 hl (k := 3) rfl (rm_inc i) (by decide) rfl (fun ls hl => ?_)
            refine lv_goto (tgt := 14) hx hb dX1_chooses_58 (by decide) ?_
            exact ih14 (i + 1) (by omega) (x2) (by refine Eq.trans ?_ ht14; first | with_reducible rfl | (simp only [rn_bestL, c_26, ↓reduceIte, Bool.false_eq_true]; done) | (simp only [rn_bestL, c_26, ↓reduceIte, Bool.false_eq_true]; rfl) | rfl) (hv14) _ _ hw _ (lv_sub hl [2, 3, 1, 0] rfl)
          · skip
            refine lv_iload_n hx hb dX1_chooses_29 rfl (lv_at hl 2 rfl) ?_
            refine lv_iconst (v := (-1)) hx hb dX1_chooses_30 (by decide) ?_
            refine lv_icmp_eq (tgt := 49) hx hb dX1_chooses_31 (by decide) (fun c_31 => ?_) (fun c_31 => ?_)
            · skip
              refine lv_iload_n hx hb dX1_chooses_49 rfl (lv_at hl 3 rfl) ?_
              refine lv_goto (tgt := 54) hx hb dX1_chooses_50 (by decide) ?_
              refine lv_istore_n (lv' := [(2, .int (nI i)), (0, .ref (a 0)), (1, .int (nI n)), (3, .int (nI i))]) hx hb dX1_chooses_54 rfl hl (by decide) rfl (fun ls hl => ?_)
              refine lv_iinc (v := nI (i + 1)) (lv' := [(3, .int (nI (i + 1))), (2, .int (nI i)), (0, .ref (a 0)), (1, .int (nI n))]) hx hb dX1_chooses_55 hl (k := 3) rfl (rm_inc i) (by decide) rfl (fun ls hl => ?_)
              refine lv_goto (tgt := 14) hx hb dX1_chooses_58 (by decide) ?_
              exact ih14 (i + 1) (by omega) (nI i) (by refine Eq.trans ?_ ht14; first | with_reducible rfl | (simp only [rn_bestL, c_26, if_pos c_31, ↓reduceIte, Bool.false_eq_true]; done) | (simp only [rn_bestL, c_26, if_pos c_31, ↓reduceIte, Bool.false_eq_true]; rfl) | rfl) (Or.inr (isNd_nI hlt14)) _ _ hw _ (lv_sub hl [2, 3, 1, 0] rfl)
            · skip
              obtain ⟨o1, ho1, rfl⟩ := isNd_of (hv14.resolve_left c_31)
              refine lv_aload_n hx hb dX1_chooses_34 rfl (lv_at hl 0 rfl) ?_
              refine lv_iload_n hx hb dX1_chooses_35 rfl (lv_at hl 1 rfl) ?_
              refine lv_iload_n hx hb dX1_chooses_36 rfl (lv_at hl 3 rfl) ?_
              refine rn_callI C hw hA (As := [.int (nI n), .int (nI i)]) (rest := []) (kX1_rankBy l k a ha σ n i hn hlt14) (cwV 2 hts gX1_chooses_X1_rankBy rfl rfl rfl (by decide +kernel) ⟨Nat.le_of_ble_eq_true rfl, Nat.le_of_ble_eq_true rfl⟩) rfl hl.1 rfl (lv_room (Nat.le_of_ble_eq_true rfl)) dX1_chooses_37 ⟨Nat.zero_le _, Nat.zero_le _⟩ (fun H locs hw => ?_)
              refine lv_aload_n hx hb dX1_chooses_40 rfl (lv_at hl 0 rfl) ?_
              refine lv_iload_n hx hb dX1_chooses_41 rfl (lv_at hl 1 rfl) ?_
              refine lv_iload_n hx hb dX1_chooses_42 rfl (lv_at hl 2 rfl) ?_
              refine rn_callI C hw hA (As := [.int (nI n), .int (nI o1)]) (rest := [.int (rn_rankBy σ n i)]) (kX1_rankBy l k a ha σ n o1 hn ho1) (cwV 2 hts gX1_chooses_X1_rankBy rfl rfl rfl (by decide +kernel) ⟨Nat.le_of_ble_eq_true rfl, Nat.le_of_ble_eq_true rfl⟩) rfl hl.1 rfl (lv_room (Nat.le_of_ble_eq_true rfl)) dX1_chooses_43 ⟨Nat.zero_le _, Nat.zero_le _⟩ (fun H locs hw => ?_)
              refine lv_icmp_ge (tgt := 53) hx hb dX1_chooses_46 (by decide) (fun c_46 => ?_) (fun c_46 => ?_)
              · skip
                refine lv_iload_n hx hb dX1_chooses_53 rfl (lv_at hl 2 rfl) ?_
                refine lv_istore_n (lv' := [(2, .int (nI o1)), (0, .ref (a 0)), (1, .int (nI n)), (3, .int (nI i))]) hx hb dX1_chooses_54 rfl hl (by decide) rfl (fun ls hl => ?_)
                refine lv_iinc (v := nI (i + 1)) (lv' := [(3, .int (nI (i + 1))), (2, .int (nI o1)), (0, .ref (a 0)), (1, .int (nI n))]) hx hb dX1_chooses_55 hl (k := 3) rfl (rm_inc i) (by decide) rfl (fun ls hl => ?_)
                refine lv_goto (tgt := 14) hx hb dX1_chooses_58 (by decide) ?_
                exact ih14 (i + 1) (by omega) (nI o1) (by refine Eq.trans ?_ ht14; first | with_reducible rfl | (simp only [rn_bestL, c_26, if_neg c_31, rm_cl ho1, if_pos c_46, ↓reduceIte, Bool.false_eq_true]; done) | (simp only [rn_bestL, c_26, if_neg c_31, rm_cl ho1, if_pos c_46, ↓reduceIte, Bool.false_eq_true]; rfl) | rfl) (Or.inr (isNd_nI ho1)) _ _ hw _ (lv_sub hl [2, 3, 1, 0] rfl)
              · skip
                refine lv_iload_n hx hb dX1_chooses_49 rfl (lv_at hl 3 rfl) ?_
                refine lv_goto (tgt := 54) hx hb dX1_chooses_50 (by decide) ?_
                refine lv_istore_n (lv' := [(2, .int (nI i)), (0, .ref (a 0)), (1, .int (nI n)), (3, .int (nI i))]) hx hb dX1_chooses_54 rfl hl (by decide) rfl (fun ls hl => ?_)
                refine lv_iinc (v := nI (i + 1)) (lv' := [(3, .int (nI (i + 1))), (2, .int (nI i)), (0, .ref (a 0)), (1, .int (nI n))]) hx hb dX1_chooses_55 hl (k := 3) rfl (rm_inc i) (by decide) rfl (fun ls hl => ?_)
                refine lv_goto (tgt := 14) hx hb dX1_chooses_58 (by decide) ?_
                exact ih14 (i + 1) (by omega) (nI i) (by refine Eq.trans ?_ ht14; first | with_reducible rfl | (simp only [rn_bestL, c_26, if_neg c_31, rm_cl ho1, if_neg c_46, ↓reduceIte, Bool.false_eq_true]; done) | (simp only [rn_bestL, c_26, if_neg c_31, rm_cl ho1, if_neg c_46, ↓reduceIte, Bool.false_eq_true]; rfl) | rfl) (Or.inr (isNd_nI hlt14)) _ _ hw _ (lv_sub hl [2, 3, 1, 0] rfl)
    exact lp_14 10 0 (by omega) ((-1)) (by first | with_reducible rfl | (unfold rn_best; with_reducible rfl) | (simp only [rn_chooses, rn_chooseT, if_pos c_6, ↓reduceIte, Bool.false_eq_true]; done) | (simp only [rn_chooses, rn_chooseT, if_pos c_6, ↓reduceIte, Bool.false_eq_true]; with_reducible rfl) | rfl) (Or.inl rfl) _ _ hw _ (lv_sub hl [2, 3, 1, 0] rfl)
  · skip
    exact rn_vret C hr hlocks hw dX1_chooses_9 (by first | with_reducible rfl | (simp only [rn_chooses, rn_chooseT, if_neg c_6, ↓reduceIte, Bool.false_eq_true]; done) | (simp only [rn_chooses, rn_chooseT, if_neg c_6, ↓reduceIte, Bool.false_eq_true]; rfl) | rfl)
end

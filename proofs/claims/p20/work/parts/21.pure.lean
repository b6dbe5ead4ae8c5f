/-! what the mesh's private methods do, as functions of its state -/
theorem rm_inc (n : Nat) : nI n + Int32.ofInt 1 = nI (n + 1) := nI_1 n
theorem rm_cl {o : Nat} (h : o < 10) : (nI o).toNatClampNeg = o := nI_clamp (by omega)
def rm_mn (x y : Int32) : Int32 := if y < x then y else x
def rm_reset (σ : rm_St) (n : Nat) : rm_St := rm_up (rm_up σ 12 n (σ 0 2)) 13 n ((rm_up σ 12 n (σ 0 2)) 0 4 + (rm_up σ 12 n (σ 0 2)) 0 2)
def rm_clear (σ : rm_St) (n : Nat) : rm_St := rm_up (rm_up (rm_up (rm_up (rm_up σ 7 n (-1)) 8 n 0) 9 n 10000) 10 n 10000) 11 n (-1)
def rm_forget (σ : rm_St) (n o : Nat) : rm_St := rm_up (rm_up (rm_up σ (25 + n) o (-1)) (35 + n) o 0) (45 + n) o (-1)
def rm_begin0 (σ : rm_St) (n : Nat) : rm_St := rm_up σ 6 n (σ 6 n + 1)
def rm_begin (σ : rm_St) (n : Nat) : rm_St := rm_reset (rm_up (rm_begin0 σ n) 8 n (rm_begin0 σ n 6 n)) n
def rm_len0 (σ : rm_St) (n : Nat) : rm_St := rm_up σ 12 n (rm_mn (2 * σ 12 n) (σ 0 2 <<< (σ 0 3 &&& 31)))
def rm_len (σ : rm_St) (n : Nat) : rm_St := rm_up (rm_len0 σ n) 13 n (rm_len0 σ n 0 4 + rm_len0 σ n 12 n)
def rm_rankBy (σ : rm_St) (n o : Nat) : Int32 := σ (45 + n) o + σ (15 + n) o
def rm_own (σ : rm_St) (n o : Nat) : Bool := if σ (25 + n) o = σ 7 n then (if σ (35 + n) o = σ 8 n then true else false) else false
def rm_deep (σ : rm_St) (n o : Nat) : Bool :=
  if rm_own σ n o = true then (if σ 9 n = 10000 then false else if σ 9 n ≤ σ (45 + n) o then true else if rm_rankBy σ n o ≤ σ 10 n + σ 0 1 then false else true) else false
def rm_outdL (σ : rm_St) (n : Nat) (t v : Int32) : Nat → Nat → Bool
  | 0, _ => false
  | r + 1, i => if σ (25 + n) i = t then (if σ (35 + n) i ≤ v then rm_outdL σ n t v r (i + 1) else true) else rm_outdL σ n t v r (i + 1)
def rm_outd (σ : rm_St) (n o : Nat) : Bool :=
  if σ 7 n = σ (25 + n) o then (if σ 8 n ≤ σ (35 + n) o then rm_outdL σ n (σ (25 + n) o) (σ (35 + n) o) 10 0 else true) else rm_outdL σ n (σ (25 + n) o) (σ (35 + n) o) 10 0
def rm_cand (σ : rm_St) (n o : Nat) : Bool :=
  if σ (45 + n) o = -1 then false else if 10000 ≤ σ (45 + n) o then false else if rm_rankBy σ n o < 10000 then (if rm_outd σ n o = true then false else if rm_deep σ n o = true then false else true) else false
def rm_bestL (σ : rm_St) (n : Nat) : Nat → Nat → Int32 → Int32 → Int32
  | 0, _, b, _ => b
  | r + 1, i, b, x => if x ≤ rm_rankBy σ n i then rm_bestL σ n r (i + 1) b x else if rm_cand σ n i = true then rm_bestL σ n r (i + 1) (nI i) (rm_rankBy σ n i) else rm_bestL σ n r (i + 1) b x
def rm_best (σ : rm_St) (n : Nat) : Int32 := rm_bestL σ n 10 0 (-1) 10000
def rm_keeps (σ : rm_St) (n o : Nat) : Bool :=
  if isNd (σ 11 n) = true then (if rm_cand σ n (σ 11 n).toNatClampNeg = true then
    (if rm_rankBy σ n (σ 11 n).toNatClampNeg - rm_rankBy σ n o < σ 0 0 then true else if 1 ≤ rm_rankBy σ n (σ 11 n).toNatClampNeg - rm_rankBy σ n o then false else true) else false) else false
theorem rm_keeps_nd {σ : rm_St} {n o : Nat} (h : rm_keeps σ n o = true) : isNd (σ 11 n) = true := by
  unfold rm_keeps at h
  by_cases c : isNd (σ 11 n) = true
  · exact c
  · rw [if_neg c] at h
    cases h
def rm_fol (σ : rm_St) (n o : Nat) (low : Int32) : rm_St :=
  rm_up (rm_up (rm_up (rm_up (rm_up σ 10 n low) 7 n ((rm_up σ 10 n low) (25 + n) o)) 8 n ((rm_up (rm_up σ 10 n low) 7 n ((rm_up σ 10 n low) (25 + n) o)) (35 + n) o)) 9 n (rm_rankBy σ n o)) 11 n (nI o)
def rm_follow (σ : rm_St) (n o : Nat) : rm_St :=
  if rm_own σ n o = true then
    (if rm_rankBy σ n o = σ 9 n then (if nI o = σ 11 n then rm_fol σ n o (rm_mn (rm_rankBy σ n o) (σ 10 n)) else rm_reset (rm_fol σ n o (rm_mn (rm_rankBy σ n o) (σ 10 n))) n)
     else rm_reset (rm_fol σ n o (rm_mn (rm_rankBy σ n o) (σ 10 n))) n)
  else rm_reset (rm_fol σ n o (rm_rankBy σ n o)) n
def rm_lose (σ : rm_St) (n : Nat) : rm_St :=
  if σ 9 n = 10000 then (if σ 11 n = -1 then rm_up (rm_up σ 9 n 10000) 11 n (-1) else rm_reset (rm_up (rm_up σ 9 n 10000) 11 n (-1)) n) else rm_reset (rm_up (rm_up σ 9 n 10000) 11 n (-1)) n
def rm_choose (σ : rm_St) (n : Nat) : rm_St :=
  if σ 5 n = 0 then (if isNd (rm_best σ n) = true then (if rm_keeps σ n (rm_best σ n).toNatClampNeg = true then rm_follow σ n (σ 11 n).toNatClampNeg else rm_follow σ n (rm_best σ n).toNatClampNeg) else rm_lose σ n) else σ
def rm_hear (σ : rm_St) (t i : Nat) : rm_St :=
  rm_up (rm_up (rm_up σ (25 + i) t (σ 7 t)) (35 + i) t ((rm_up σ (25 + i) t (σ 7 t)) 8 t)) (45 + i) t ((rm_up (rm_up σ (25 + i) t (σ 7 t)) (35 + i) t ((rm_up σ (25 + i) t (σ 7 t)) 8 t)) 9 t)
def rm_tellL (t : Nat) : Nat → Nat → rm_St → rm_St
  | 0, _, σ => σ
  | r + 1, i, σ => if σ (15 + t) i ≤ 0 then rm_tellL t r (i + 1) σ else rm_tellL t r (i + 1) (rm_choose (rm_hear σ t i) i)
def rm_tell (σ : rm_St) (t : Nat) : rm_St := rm_tellL t 10 0 σ
def rm_tickL : Nat → Nat → Int32 → rm_St → rm_St × Int32
  | 0, _, x, σ => (σ, x)
  | r + 1, i, x, σ => if σ 13 i = σ 0 4 then rm_tickL r (i + 1) (x + 1) (rm_len (rm_tell σ i) i) else rm_tickL r (i + 1) x σ
def rm_tick (σ : rm_St) : rm_St × Int32 := rm_tickL 10 0 0 (rm_up σ 0 4 (σ 0 4 + 1))
def rm_chL (σ : rm_St) (v : Int32) : Nat → Nat → Int32 → Int32
  | 0, _, x => x
  | r + 1, i, x => if isNd (σ 11 i) = true then (if (v >>> (σ 11 i &&& 31)) &&& 1 = 0 then rm_chL σ v r (i + 1) x else rm_chL σ v r (i + 1) (x ||| ((1 : Int32) <<< (nI i &&& 31)))) else rm_chL σ v r (i + 1) x
def rm_ch (σ : rm_St) (v : Int32) : Int32 := rm_chL σ v 10 0 0
def rm_lowJ (i : Nat) : Nat → Nat → rm_St → rm_St
  | 0, _, σ => σ
  | r + 1, j, σ => if σ (15 + i) j ≤ 0 then rm_lowJ i r (j + 1) σ else rm_lowJ i r (j + 1) (rm_up σ 14 i (rm_mn (σ 14 i) (σ 14 j + σ (15 + i) j)))
def rm_lowL : Nat → Nat → rm_St → rm_St
  | 0, _, σ => σ
  | r + 1, i, σ => rm_lowL r (i + 1) (rm_lowJ i 10 0 σ)
def rm_lower (σ : rm_St) : rm_St := rm_lowL 10 0 σ
/-! the static test of a node, called from a walk in the mesh's world -/
def rm_SI (l : Launch) (y : MethodName) (ws : List Cond) (rmm : Room) (As : List Value) (r0 : Int32) : Prop :=
  Met l y ws rmm (va_Pc As (fun _ => True)) (va_Qi (fun (r : Int32) (_ : Unit) => r = r0) (fun _ _ => True) (fun _ => False)) 0 0 (fun _ => False)
theorem rm_kept {D : va_G} {cl : List vw_C} {ws : va_W} {H H1 : Heap} (hP : va_P D cl ws H) (hk : ∀ q : Nat, q < H.size → H1[q]? = H[q]?) : va_P D cl ws H1 := hP.kept (fun i q h => hk q.1 (hP i q h).lt)
section RMS
variable {p : Program} {l : Launch} {e : Env} {R : Room} {s : State} {m : MethodId} {args : Array Value} {below : List Frame} {meth : Method} {c : Code} {H : Heap} {locs : List Loc} {cells slots : Nat} {Q : State → Prop}
variable {cc : ByteArray} {pc nL : Nat} {ls : Array Slot} {rest : List Value} {Ts : List Cond} {k : rm_K} {a : Nat → Nat} {A : Nat → Prop} {H0 : Heap} {σ σ0 : rm_St} {r0 v : Int32} {own : String}
variable {y : MethodName} {bytes : ByteArray} {maxL index n : Nat} {ret : Option FieldType} {ws : List Cond} {rmm : Room} {As st0 : List Value}
theorem rm_callSI0 (CF : CallFix p m c cc nL s args Ts own) (hS : va_S A H0 H locs) (hM : rm_SI l y ws rmm As r0) (cw : CallB R s args own index y bytes maxL ret ws rmm 0 0 n ∧ (Cond.static y).before args s = true) (hn : As.length = n) (hsize : ls.size = nL) (hstack : st0 = As.reverse ++ rest)
    (hW : 2 * (F0 m pc ls st0).monitorRoom + (rest.map fun v => v.category).sum ≤ 8) (hdg : decode cc pc = .ok (.invokestatic index, 3)) (hf : cells ≤ R.cells ∧ slots ≤ R.slots)
    (kk : ∀ (H1 : Heap) (locs1 : List Loc), (∀ q : Nat, q < H.size → H1[q]? = H[q]?) → va_S A H0 H1 locs1 → W p l e R s m args below meth c H1 locs1 cells slots Q (F0 m (pc + 3) ls (.int r0 :: rest))) : W p l e R s m args below meth c H locs cells slots Q (F0 m pc ls st0) := by
  refine va_calli (va_runS (As := As) (rest := rest) CF hM cw ⟨fun _ _ _ _ q => q, fun U hU hW => ⟨rfl, trivial⟩⟩ rfl hn hsize hstack hW hdg hf) hS (fun q _ h => h.elim) (fun q h => h.elim) (fun r u t H1 locs1 ht hvm hp hB hz1 hk1 hS => ?_)
  obtain rfl := hp
  exact kk H1 locs1 (fun q hq => hk1 q hq id) hS
theorem rm_callSI (C : rm_C p m c cc nL s args Ts) (hw : rm_Wd k a A H0 s σ H locs) (hM : rm_SI l y ws rmm As r0) (cw : CallB R s args RX0 index y bytes maxL ret ws rmm 0 0 n ∧ (Cond.static y).before args s = true) (hn : As.length = n) (hsize : ls.size = nL) (hstack : st0 = As.reverse ++ rest)
    (hW : 2 * (F0 m pc ls st0).monitorRoom + (rest.map fun v => v.category).sum ≤ 8) (hdg : decode cc pc = .ok (.invokestatic index, 3)) (hf : cells ≤ R.cells ∧ slots ≤ R.slots)
    (kk : ∀ (H1 : Heap) (locs1 : List Loc), rm_Wd k a A H0 s σ H1 locs1 → W p l e R s m args below meth c H1 locs1 cells slots Q (F0 m (pc + 3) ls (.int r0 :: rest))) : W p l e R s m args below meth c H locs cells slots Q (F0 m pc ls st0) :=
  rm_callSI0 C.1 hw.2.2.2 hM cw hn hsize hstack hW hdg hf (fun H1 locs1 hk hS => kk H1 locs1 ⟨hw.1, rm_kept hw.2.1 hk, hw.2.2.1, hS⟩)
end RMS
set_option maxHeartbeats 4000000 in
set_option maxRecDepth 100000 in
theorem kX0_isNode (l : Launch) (v : Int32) : rm_SI l yX0_isNode wsX0_isNode ({ frames := 0, cells := 0, slots := 0, locals := 0 }) [.int v] (bI (isNd v)) := by
  refine Met.ofW (cc := cX0_isNode) (maxL := 1) (ret := (some .boolean)) (by decide) rfl ?_
  intro p e s m args below meth c s₁ B hml hv
  obtain ⟨rfl, -⟩ := hv
  have hx := B.exec
  have hb := B.bytes
  have hr := B.returns
  have hlocks := B.notSynchronized
  have hl := lv_entry ([.int v]) (n := 1) (Nat.le_of_ble_eq_true rfl)
  rw [lg_entry_eq]
  generalize (lg_sl ([.int v]) ++ List.replicate (1 - (lg_sl ([.int v])).length) Slot.unset).toArray = ls at hl ⊢
  have hl : lv_has ls 1 [(0, .int v)] := hl
  have fin : ∀ {t : State}, t.heap = s.heap → va_F (fun _ => False) s t := fun ht => ⟨by rw [ht]; exact Nat.le_refl _, fun q _ _ => by rw [ht]⟩
  refine lv_iload_n hx hb dX0_isNode_0 rfl (lv_at hl 0 rfl) ?_
  refine lv_if_lt (tgt := 14) hx hb dX0_isNode_1 (by decide) (fun c1 => ?_) (fun c1 => ?_)
  · refine lv_iconst (v := 0) hx hb dX0_isNode_14 (by decide) ?_
    exact W.zret (v := 0) hx hb hr (by decide) (fun t ht hW => ⟨⟨0, (), rfl, by simp [isNd, c1, bI], trivial⟩, fin ht⟩) (fun q h => nomatch h) dX0_isNode_15 hlocks
  · refine lv_iload_n hx hb dX0_isNode_4 rfl (lv_at hl 0 rfl) ?_
    refine lv_bipush (v := 10) hx hb dX0_isNode_5 (by decide) ?_
    refine lv_icmp_ge (tgt := 14) hx hb dX0_isNode_7 (by decide) (fun c2 => ?_) (fun c2 => ?_)
    · refine lv_iconst (v := 0) hx hb dX0_isNode_14 (by decide) ?_
      exact W.zret (v := 0) hx hb hr (by decide) (fun t ht hW => ⟨⟨0, (), rfl, by rw [isNd, show decide (v < 10) = false from decide_eq_false (fun h => by rw [Int32.lt_iff_toInt_lt] at h; rw [Int32.le_iff_toInt_le] at c2; omega), Bool.and_false]; rfl, trivial⟩, fin ht⟩) (fun q h => nomatch h) dX0_isNode_15 hlocks
    · refine lv_iconst (v := 1) hx hb dX0_isNode_10 (by decide) ?_
      refine lv_goto (tgt := 15) hx hb dX0_isNode_11 (by decide) ?_
      exact W.zret (v := 1) hx hb hr (by decide) (fun t ht hW => ⟨⟨1, (), rfl, by rw [isNd, show decide (v < 10) = true from decide_eq_true (by rw [Int32.lt_iff_toInt_lt]; rw [Int32.le_iff_toInt_le] at c2; omega), decide_eq_true c1]; rfl, trivial⟩, fin ht⟩) (fun q h => nomatch h) dX0_isNode_15 hlocks

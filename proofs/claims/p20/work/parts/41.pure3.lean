def isIn (v f t : Int32) : Bool := if v < f then false else if t < v then false else true
theorem isIn_of {v : Int32} (h : isIn v 1 100 = true) : ∃ T : Nat, 1 ≤ T ∧ T ≤ 100 ∧ v = nI T := by
  unfold isIn at h
  by_cases h1 : v < 1
  · rw [if_pos h1] at h; cases h
  · rw [if_neg h1] at h
    by_cases h2 : 100 < v
    · rw [if_pos h2] at h; cases h
    · rw [Int32.lt_iff_toInt_lt] at h1 h2
      have e1 : (1 : Int32).toInt = 1 := rfl
      have e2 : (100 : Int32).toInt = 100 := rfl
      have h0 : ¬ v < 0 := by
        rw [Int32.lt_iff_toInt_lt, Int32.toInt_zero]; omega
      obtain ⟨j, hj, e⟩ := nI_of h0
      rw [e, nI_toInt hj] at h1 h2
      exact ⟨j, by omega, by omega, e⟩
/-! the mesh's calls of the face, as functions of its state: what is thrown, what is answered, the state behind -/
def rm_IA : String := "java/lang/IllegalArgumentException"
def rm_IS : String := "java/lang/IllegalStateException"
def rm_or : Option String → Option String → Option String
  | none, b => b
  | some e, _ => some e
theorem rm_or_n (b : Option String) : rm_or none b = b := rfl
theorem rm_or_s (e : String) (b : Option String) : rm_or (some e) b = some e := rfl
def rm_tN (v : Int32) : Option String := if isNd v = true then none else some rm_IO
def rm_tR (v f t : Int32) : Option String := if v < f then some rm_IA else if v ≤ t then none else some rm_IA
theorem rm_tN_none {v : Int32} (h : rm_tN v = none) : ∃ o : Nat, o < 10 ∧ v = nI o := by
  unfold rm_tN at h
  by_cases c : isNd v = true
  · exact isNd_of c
  · rw [if_neg c] at h; cases h
theorem rm_tR_none {v f t : Int32} (h : rm_tR v f t = none) : ¬ v < f ∧ v ≤ t := by
  unfold rm_tR at h
  by_cases c : v < f
  · rw [if_pos c] at h; cases h
  · rw [if_neg c] at h
    by_cases c2 : v ≤ t
    · exact ⟨c, c2⟩
    · rw [if_neg c2] at h; cases h
theorem rm_tT {v : Int32} (h : rm_tR v 1 100 = none) : ∃ T : Nat, 1 ≤ T ∧ T ≤ 100 ∧ v = nI T := by
  obtain ⟨h1, h2⟩ := rm_tR_none h
  refine isIn_of ?_
  unfold isIn
  rw [if_neg h1, if_neg (fun q => by rw [Int32.lt_iff_toInt_lt] at q; rw [Int32.le_iff_toInt_le] at h2; omega)]
def rm_tRoot (σ : rm_St) (v : Int32) : Option String := rm_or (rm_tN v) (if σ 5 v.toNatClampNeg = 0 then some rm_IS else none)
def rm_tSet (x y z w : Int32) : Option String := rm_or (rm_tR x 0 100) (rm_or (rm_tR y 0 10000) (rm_or (rm_tR z 1 8) (rm_tR w 0 6)))
def rm_setS (σ : rm_St) (x y z w : Int32) : rm_St := rm_up (rm_up (rm_up (rm_up σ 0 0 x) 0 1 y) 0 2 z) 0 3 w
def rm_tLink (x y v : Int32) : Option String := rm_or (rm_tN x) (rm_or (rm_tN y) (if x = y then some rm_IA else rm_tR v 0 100))
def rm_lnk (σ : rm_St) (n o : Nat) (v : Int32) : rm_St :=
  if v = 0 then rm_forget (rm_forget (rm_up (rm_up σ (15 + n) o v) (15 + o) n v) n o) o n else rm_up (rm_up σ (15 + n) o v) (15 + o) n v
def rm_linkS (σ : rm_St) (x y v : Int32) : rm_St := rm_choose (rm_choose (rm_lnk σ x.toNatClampNeg y.toNatClampNeg v) x.toNatClampNeg) y.toNatClampNeg
def rm_tMake (σ : rm_St) (v : Int32) : Option String := rm_or (rm_tN v) (if σ 5 v.toNatClampNeg = 0 then none else some rm_IS)
def rm_mk (σ : rm_St) (n : Nat) : rm_St := rm_up (rm_up (rm_up (rm_up (rm_up σ 5 n 1) 7 n (nI n)) 9 n 0) 10 n 0) 11 n (-1)
def rm_passL : Nat → Nat → Int32 → rm_St → rm_St × Int32
  | 0, _, x, σ => (σ, x)
  | r + 1, t, x, σ => rm_passL r (t + 1) (x + (rm_tick σ).2) (rm_tick σ).1
def rm_pass (σ : rm_St) (v : Int32) : rm_St × Int32 := rm_passL v.toNatClampNeg 0 0 σ
def rm_tree (σ : rm_St) (v : Int32) : Int32 := if σ 7 v.toNatClampNeg = -1 then -1 else 10 * σ 8 v.toNatClampNeg + σ 7 v.toNatClampNeg
def rm_t2 (x y : Int32) : Option String := rm_or (rm_tN x) (rm_tN y)
def rm_wayI : Nat → Nat → rm_St → rm_St
  | 0, _, σ => σ
  | r + 1, i, σ => if σ 5 i = 0 then rm_wayI r (i + 1) (rm_up σ 14 i 10000) else rm_wayI r (i + 1) (rm_up σ 14 i 0)
def rm_lwL : Nat → Nat → rm_St → rm_St
  | 0, _, σ => σ
  | r + 1, i, σ => rm_lwL r (i + 1) (rm_lower σ)
def rm_least (σ : rm_St) : rm_St := rm_lwL 9 1 (rm_wayI 10 0 σ)
def rm_blL (σ : rm_St) : Nat → Nat → Int32 → Int32
  | 0, _, x => x
  | r + 1, i, x => rm_blL σ r (i + 1) (x ||| rm_ch σ x)
def rm_below (σ : rm_St) (v : Int32) : Int32 := rm_blL σ 9 1 ((1 : Int32) <<< (v &&& 31))
def rm_drop (σ : rm_St) : rm_St := rm_up σ 0 5 (σ 0 5 + 1)
def rm_upL (σ : rm_St) : Nat → Nat → Nat → Bool → rm_St × Int32
  | 0, _, _, _ => (rm_drop σ, -2)
  | r + 1, i, k, w => if σ 5 k = 0 then (if isNd (σ 11 k) = true then (if σ 9 (σ 11 k).toNatClampNeg < σ 9 k then rm_upL σ r (i + 1) (σ 11 k).toNatClampNeg w else if w = true then (rm_drop σ, -2) else rm_upL σ r (i + 1) (σ 11 k).toNatClampNeg true) else (σ, -1)) else (σ, nI i)
def rm_upS (σ : rm_St) (v : Int32) : rm_St × Int32 := rm_upL σ 21 0 v.toNatClampNeg false
def rm_dnL (σ : rm_St) (f : Int32) : Nat → Nat → Int32 → Option Int32
  | 0, _, _ => none
  | r + 1, i, v => if isNd v = true then (if σ 11 v.toNatClampNeg = f then some v else rm_dnL σ f r (i + 1) (σ 11 v.toNatClampNeg)) else none
def rm_tDown (σ : rm_St) (x y : Int32) : Option String := rm_or (rm_tN x) (rm_or (rm_tN y) (if x = y then some rm_IS else if rm_dnL σ x 10 0 y = none then some rm_IS else none))
section RXS
variable {p : Program} {l : Launch} {e : Env} {R : Room} {s : State} {m : MethodId} {args : Array Value} {below : List Frame} {meth : Method} {c : Code} {H : Heap} {locs : List Loc} {cells slots mc ms : Nat} {Q : State → Prop}
variable {cc : ByteArray} {pc nL : Nat} {ls : Array Slot} {rest : List Value} {Ts : List Cond} {thr thr1 : Option String} {Qc : Array Value → State → Outcome → State → Prop}
abbrev rm_XCS (thr : Option String) : String → State → State → Prop := vx_X (fun _ : Unit => True) (fun E _ _ => thr = some E) (fun _ => False)
theorem rm_throwSS (CF : CallFix p m c cc nL s args Ts RX0) (hl : l.stackTraces = false) (hlocks : meth.locks = false) (htab : ∀ x ∈ c.exceptionTable.toList, False) (hTh : rm_Th (fun _ => False) s) (hS : va_S (fun _ => False) s.heap H locs) {cls text : String} {ik is ic : Nat}
    (hcls : Bundle.fit cls = true) (hk : Cond.classLink RX0 ik cls ∈ Ts) (hini : Cond.initialized cls ∈ Ts) (hstr : ∃ q, vk_R RX0 is text q s) (hat : ∀ w ∈ (vx_atS RX0 ic cls rm_RE).filter goodWord, w ∈ Ts) (hat2 : ∀ w ∈ (vx_atS RX0 ic cls rm_RE).filter (fun w => !goodWord w), w ∈ ([.declares (Bundle.initS "java/lang/RuntimeException"), .declares (Bundle.initS "java/lang/Exception"), .declares (Bundle.initS "java/lang/Throwable"), .castable cls cls] : List Cond)) (hcc : va_Nw (.castable cls cls) s)
    (hgood : (Cond.classLink RX0 ik cls :: Cond.initialized cls :: vx_atS RX0 ic cls rm_RE).all vx_ot = true) (hsize : ls.size = nL)
    (d0 : decode cc pc = .ok (.new ik, 3)) (d3 : decode cc (pc + 3) = .ok (.dup, 1)) (d4 : decode cc (pc + 4) = .ok (.ldc is, 2)) (d6 : decode cc (pc + 6) = .ok (.invokespecial ic, 3)) (d9 : decode cc (pc + 9) = .ok (.athrow, 1))
    (hRf : 6 ≤ R.frames) (hRl : (rest.map fun v => v.category).sum + 82 ≤ R.locals) (hRc : cells + 1 ≤ R.cells) (hRs : slots + 6 ≤ R.slots) (hc : cells + 1 ≤ mc) (hs : slots + 6 ≤ ms) (hthr : thr = some cls) :
    W p l e R s m args below meth c H locs cells slots (vx_MQ below Qc (rm_XCS thr) args s mc ms (fun _ => False)) (F0 m pc ls rest) := by
  obtain ⟨sa, hsa⟩ := hstr
  have hts := CF.2.2.2.2
  refine vx_throwS (names := rm_RE) (sa := sa) (text := text) CF.1 CF.2.1 hl CF.2.2.2.1 hcls (by decide +kernel) (hts _ hk) (hts _ hini) hsa (vx_hat (fun w h => hts w (hat w h)) hat2 (vx_c (hTh.2.2.2.1.use rfl) (vx_c (hTh.2.2.2.2.1.use rfl) (vx_c (hTh.2.2.2.2.2.1.use rfl) (vx_c (hcc.use rfl) vx_n))))) (List.all_eq_true.mp hgood) hTh.1 hTh.2.1 hS (hsize.trans CF.2.2.1.symm) d0 d3 d4 d6 d9 (rm_covers htab _) hRf hRl hRc hRs hlocks ?_ hS.2.2 hc hs
  intro t hvm hz hk9
  exact ⟨(), trivial, hthr, Nat.le_trans hS.1 hz, fun q h1 h2 => (hk9 q (Nat.lt_of_lt_of_le h1 hS.1)).trans (hS.2.1 q h1 h2)⟩
theorem rm_sret (hexec : p.tables.exec = Jvm.exec) (hb : c.code = cc) (hr : meth.sig.returnType = none) (hlocks : meth.locks = false) (hS : va_S (fun _ => False) s.heap H locs) (hc : cells ≤ mc) (hs : slots ≤ ms) (hdg : decode cc pc = .ok (.return_, 1)) (h : thr = none) {XC : String → State → State → Prop} :
    W p l e R s m args below meth c H locs cells slots (vx_MQ below (va_Qv (fun _ : Unit => thr = none) (fun _ _ => True) (fun _ => False)) XC args s mc ms (fun _ => False)) (F0 m pc ls []) :=
  W.widen (k := mc) (n := ms) hc hs (vx_ret (W.vret hexec hb hr (fun t ht hW => ⟨⟨(), rfl, h, trivial⟩, hS.F ht⟩) hS.2.2 hdg hlocks))
end RXS
set_option maxHeartbeats 4000000 in
set_option maxRecDepth 100000 in
theorem kX0_requireNode (l : Launch) (hfl : l.stackTraces = false) (v : Int32) : rm_XS l yX0_requireNode wsX0_requireNode ({ frames := 6, cells := 1, slots := 6, locals := 90 }) [.int v] (rm_tN v) := by
  refine vx_ofW (cc := cX0_requireNode) (maxL := 1) (ret := none) (by decide) rfl ?_
  intro p e s m args below meth c s₁ B hml htab hv
  obtain ⟨rfl, hTh⟩ := hv
  have hx := B.exec
  have hb := B.bytes
  have hr := B.returns
  have hlocks := B.notSynchronized
  have hts := atoms_spec (ws := wsX0_requireNode) B.pre
  have hown : s.vm.findClass RX0 = some m.cls := findClass_of_methodNamed B.named
  have hl := lv_entry ([.int v]) (n := 1) (Nat.le_of_ble_eq_true rfl)
  rw [lg_entry_eq]
  generalize (lg_sl ([.int v]) ++ List.replicate (1 - (lg_sl ([.int v])).length) Slot.unset).toArray = ls at hl ⊢
  have hl : lv_has ls 1 [(0, .int v)] := hl
  have hS : va_S (fun _ => False) s.heap s.heap [] := va_S.rf
  refine lv_iload_n hx hb dX0_requireNode_0 rfl (lv_at hl 0 rfl) ?_
  refine rm_callSI0 (own := RX0) ⟨hx, hb, hml, hown, hts⟩ hS (As := [.int v]) (rest := []) (kX0_isNode l v) (va_cwS 1 hts gX0_requireNode_X0_isNode rfl rfl rfl (by decide +kernel) ⟨Nat.le_of_ble_eq_true rfl, Nat.le_of_ble_eq_true rfl⟩) rfl hl.1 rfl (lv_room (Nat.le_of_ble_eq_true rfl)) dX0_requireNode_1 ⟨Nat.zero_le _, Nat.zero_le _⟩ (fun H locs hk hS => ?_)
  refine rm_ifne (tgt := 17) hx hb dX0_requireNode_4 (by decide) (fun c_4 => ?_) (fun c_4 => ?_)
  · exact rm_sret hx hb hr hlocks hS (Nat.zero_le _) (Nat.zero_le _) dX0_requireNode_17 (by rw [rm_tN, if_pos c_4])
  · exact rm_throwSS ⟨hx, hb, hml, hown, hts⟩ hfl hlocks htab hTh hS (by decide +kernel) (by decide +kernel) (by decide +kernel) hTh.2.2.1.2.2.2.2.1 (by decide +kernel) rm_nb1 hTh.2.2.2.2.2.2.1 rm_ot1 hl.1 dX0_requireNode_7 dX0_requireNode_10 dX0_requireNode_11 dX0_requireNode_13 dX0_requireNode_16 (Nat.le_of_ble_eq_true rfl) (Nat.le_of_ble_eq_true rfl) (Nat.le_of_ble_eq_true rfl) (Nat.le_of_ble_eq_true rfl) (Nat.le_of_ble_eq_true rfl) (Nat.le_of_ble_eq_true rfl) (by rw [rm_tN, if_neg (by rw [c_4]; decide)]; rfl)
set_option maxHeartbeats 4000000 in
set_option maxRecDepth 100000 in
theorem kX0_requireRange (l : Launch) (hfl : l.stackTraces = false) (v f t : Int32) : rm_XS l yX0_requireRange wsX0_requireRange ({ frames := 6, cells := 1, slots := 6, locals := 90 }) [.int v, .int f, .int t] (rm_tR v f t) := by
  refine vx_ofW (cc := cX0_requireRange) (maxL := 3) (ret := none) (by decide) rfl ?_
  intro p e s m args below meth c s₁ B hml htab hv
  obtain ⟨rfl, hTh⟩ := hv
  have hx := B.exec
  have hb := B.bytes
  have hr := B.returns
  have hlocks := B.notSynchronized
  have hts := atoms_spec (ws := wsX0_requireRange) B.pre
  have hown : s.vm.findClass RX0 = some m.cls := findClass_of_methodNamed B.named
  have hl := lv_entry ([.int v, .int f, .int t]) (n := 3) (Nat.le_of_ble_eq_true rfl)
  rw [lg_entry_eq]
  generalize (lg_sl ([.int v, .int f, .int t]) ++ List.replicate (3 - (lg_sl ([.int v, .int f, .int t])).length) Slot.unset).toArray = ls at hl ⊢
  have hl : lv_has ls 3 [(0, .int v), (1, .int f), (2, .int t)] := hl
  have hS : va_S (fun _ => False) s.heap s.heap [] := va_S.rf
  have thrw : rm_tR v f t = some "java/lang/IllegalArgumentException" → W p l e (headSpec wsX0_requireRange ({ frames := 6, cells := 1, slots := 6, locals := 90 })).room s m _ below meth c s.heap [] 0 0 (vx_MQ below (va_Qv (fun _ : Unit => rm_tR v f t = none) (fun _ _ => True) (fun _ => False)) (rm_XCS (rm_tR v f t)) _ s 1 6 (fun _ => False)) (F0 m 10 ls []) := fun h =>
    rm_throwSS ⟨hx, hb, hml, hown, hts⟩ hfl hlocks htab hTh hS (by decide +kernel) (by decide +kernel) (by decide +kernel) hTh.2.2.1.2.2.2.2.2.2 (by decide +kernel) rm_nb2 hTh.2.2.2.2.2.2.2.1 rm_ot2 hl.1 dX0_requireRange_10 dX0_requireRange_13 dX0_requireRange_14 dX0_requireRange_16 dX0_requireRange_19 (Nat.le_of_ble_eq_true rfl) (Nat.le_of_ble_eq_true rfl) (Nat.le_of_ble_eq_true rfl) (Nat.le_of_ble_eq_true rfl) (Nat.le_of_ble_eq_true rfl) (Nat.le_of_ble_eq_true rfl) h
  refine lv_iload_n hx hb dX0_requireRange_0 rfl (lv_at hl 0 rfl) ?_
  refine lv_iload_n hx hb dX0_requireRange_1 rfl (lv_at hl 1 rfl) ?_
  refine lv_icmp_lt (tgt := 10) hx hb dX0_requireRange_2 (by decide) (fun c1 => ?_) (fun c1 => ?_)
  · exact thrw (by rw [rm_tR, if_pos c1]; rfl)
  · refine lv_iload_n hx hb dX0_requireRange_5 rfl (lv_at hl 0 rfl) ?_
    refine lv_iload_n hx hb dX0_requireRange_6 rfl (lv_at hl 2 rfl) ?_
    refine lv_icmp_le (tgt := 20) hx hb dX0_requireRange_7 (by decide) (fun c2 => ?_) (fun c2 => ?_)
    · exact rm_sret hx hb hr hlocks hS (Nat.zero_le _) (Nat.zero_le _) dX0_requireRange_20 (by rw [rm_tR, if_neg c1, if_pos c2])
    · exact thrw (by rw [rm_tR, if_neg c1, if_neg c2]; rfl)

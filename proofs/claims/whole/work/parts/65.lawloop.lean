/-! the law's loop, for any relation of the two states that every call keeps -/
def rw_op (Rl : rm_St → rm_St → Prop) (σ σ0 : rm_St) (thr : Option String) (code r0 r1 : Int32) (τ1 : rm_St) : Prop := τ1 0 20 = code ∧ (thr = none → r0 = r1) ∧ Rl (rl_s σ0 σ thr) τ1
theorem rl_c1_0 {thr : Option String} (h : rl_c1 thr = 0) : thr = none := by
  cases thr with
  | none => rfl
  | some e => exact absurd (show (1 : Int32) = 0 from h) (by decide)
theorem rl_c2_0 {X : String} {thr : Option String} (h : rl_c2 X thr = 0) : thr = none := by
  cases thr with
  | none => rfl
  | some e =>
    by_cases c : e = X
    · subst c
      rw [rl_c2_1] at h
      exact absurd h (by decide)
    · rw [rl_c2_2 c] at h
      exact absurd h (by decide)
theorem rl_fst {x y : rm_St} {g f : Nat → Int64} {thr : Option String} : (rl_s (x, g) (y, f) thr).1 = rl_s x y thr := by cases thr <;> rfl
theorem rl_snd {x y : rm_St} {f : Nat → Int64} {r0 r1 : Int32} {thr : Option String} (h : thr = none) (hr : thr = none → r0 = r1) : (rl_s (x, vp_updL f 0 r0.toInt64) (y, f) thr).2 0 = r1.toInt64 := by
  rw [← hr h]
  subst h
  show vp_updL f 0 r0.toInt64 0 = r0.toInt64
  simp [vp_updL]
theorem rw_and31 (x : Int32) : ∃ t : Nat, t < 32 ∧ x &&& 31 = nI t := by
  refine ⟨(x &&& 31).toBitVec.toNat, ?_, ?_⟩
  · rw [Int32.toBitVec_and, BitVec.toNat_and]
    exact Nat.lt_of_le_of_lt Nat.and_le_right (by decide)
  · apply Int32.toBitVec_inj.mp
    show _ = BitVec.ofNat 32 _
    rw [BitVec.ofNat_toNat, BitVec.setWidth_eq]
theorem rw_cmp {L i : Nat} (hL : L ≤ 2560) (hi : i ≤ 2560) : nI L - 5 < nI i ↔ L < i + 5 := by
  rw [Int32.lt_iff_toInt_lt, Int32.toInt_sub, nI_toInt (by omega), nI_toInt (by omega), show (5 : Int32).toInt = 5 from rfl, Int.bmod_eq_of_le (by omega) (by omega)]
  omega
def rw_g_setRules (Rl : rm_St → rm_St → Prop) : Prop := ∀ (σ τ : rm_St), Rl σ τ → ∀ (p0 p1 p2 p3 : Int32), rw_op Rl σ (rm_setS σ p0 p1 p2 p3) (rm_tSet p0 p1 p2 p3) (rl_c1 (rm_tSet p0 p1 p2 p3)) 0 0 (rn_setRules τ p0 p1 p2 p3)
def rw_g_link (Rl : rm_St → rm_St → Prop) : Prop := ∀ (σ τ : rm_St), Rl σ τ → ∀ (p0 p1 p2 : Int32), rw_op Rl σ (rm_linkS σ p0 p1 p2) (rm_tLink p0 p1 p2) (rl_c2 rm_IO (rm_tLink p0 p1 p2)) (σ (15 + p0.toNatClampNeg) p1.toNatClampNeg) ((rn_link τ p0 p1 p2).2) ((rn_link τ p0 p1 p2).1)
def rw_g_makeRoot (Rl : rm_St → rm_St → Prop) : Prop := ∀ (σ τ : rm_St), Rl σ τ → ∀ (p0 : Int32), rw_op Rl σ (rm_begin (rm_mk σ p0.toNatClampNeg) p0.toNatClampNeg) (rm_tMake σ p0) (rl_c2 rm_IO (rm_tMake σ p0)) (rm_begin (rm_mk σ p0.toNatClampNeg) p0.toNatClampNeg 8 p0.toNatClampNeg) ((rn_makeRoot τ p0).2) ((rn_makeRoot τ p0).1)
def rw_g_endRoot (Rl : rm_St → rm_St → Prop) : Prop := ∀ (σ τ : rm_St), Rl σ τ → ∀ (p0 : Int32), rw_op Rl σ (rm_choose (rm_reset (rm_clear (rm_up σ 5 p0.toNatClampNeg 0) p0.toNatClampNeg) p0.toNatClampNeg) p0.toNatClampNeg) (rm_tRoot σ p0) (rl_c2 rm_IO (rm_tRoot σ p0)) 0 0 (rn_endRoot τ p0)
def rw_g_renew (Rl : rm_St → rm_St → Prop) : Prop := ∀ (σ τ : rm_St), Rl σ τ → ∀ (p0 : Int32), rw_op Rl σ (rm_begin σ p0.toNatClampNeg) (rm_tRoot σ p0) (rl_c2 rm_IO (rm_tRoot σ p0)) (rm_begin σ p0.toNatClampNeg 8 p0.toNatClampNeg) ((rn_renew τ p0).2) ((rn_renew τ p0).1)
def rw_g_pass (Rl : rm_St → rm_St → Prop) : Prop := ∀ (σ τ : rm_St), Rl σ τ → ∀ (p0 : Int32), rw_op Rl σ ((rm_pass σ p0).1) (rm_tR p0 1 100) (rl_c1 (rm_tR p0 1 100)) ((rm_pass σ p0).2) ((rn_pass τ p0).2) ((rn_pass τ p0).1)
def rw_g_rank (Rl : rm_St → rm_St → Prop) : Prop := ∀ (σ τ : rm_St), Rl σ τ → ∀ (p0 : Int32), rw_op Rl σ σ (rm_tN p0) (rl_c1 (rm_tN p0)) (σ 9 p0.toNatClampNeg) (rn_of τ 6 p0) (rn_t1 τ p0)
def rw_g_parent (Rl : rm_St → rm_St → Prop) : Prop := ∀ (σ τ : rm_St), Rl σ τ → ∀ (p0 : Int32), rw_op Rl σ σ (rm_tN p0) (rl_c1 (rm_tN p0)) (σ 11 p0.toNatClampNeg) (rn_of τ 7 p0) (rn_t1 τ p0)
def rw_g_tree (Rl : rm_St → rm_St → Prop) : Prop := ∀ (σ τ : rm_St), Rl σ τ → ∀ (p0 : Int32), rw_op Rl σ σ (rm_tN p0) (rl_c1 (rm_tN p0)) (rm_tree σ p0) (rn_tree τ p0) (rn_t1 τ p0)
def rw_g_nextTelling (Rl : rm_St → rm_St → Prop) : Prop := ∀ (σ τ : rm_St), Rl σ τ → ∀ (p0 : Int32), rw_op Rl σ σ (rm_tN p0) (rl_c1 (rm_tN p0)) (σ 13 p0.toNatClampNeg) (rn_of τ 10 p0) (rn_t1 τ p0)
def rw_g_heard (Rl : rm_St → rm_St → Prop) : Prop := ∀ (σ τ : rm_St), Rl σ τ → ∀ (p0 p1 : Int32), rw_op Rl σ σ (rm_t2 p0 p1) (rl_c1 (rm_t2 p0 p1)) (σ (45 + p0.toNatClampNeg) p1.toNatClampNeg) (rn_heard τ p0 p1) (rn_t2 τ p0 p1)
def rw_g_leastRank (Rl : rm_St → rm_St → Prop) : Prop := ∀ (σ τ : rm_St), Rl σ τ → ∀ (p0 : Int32), rw_op Rl σ (rm_least σ) (rm_tN p0) (rl_c1 (rm_tN p0)) (rm_least σ 14 p0.toNatClampNeg) ((rn_leastRank τ p0).2) ((rn_leastRank τ p0).1)
def rw_g_up (Rl : rm_St → rm_St → Prop) : Prop := ∀ (σ τ : rm_St), Rl σ τ → ∀ (p0 : Int32), rw_op Rl σ ((rm_upS σ p0).1) (rm_tN p0) (rl_c1 (rm_tN p0)) ((rm_upS σ p0).2) ((rn_upS τ p0).2) ((rn_upS τ p0).1)
def rw_g_below (Rl : rm_St → rm_St → Prop) : Prop := ∀ (σ τ : rm_St), Rl σ τ → ∀ (p0 : Int32), rw_op Rl σ σ (rm_tN p0) (rl_c1 (rm_tN p0)) (rm_below σ p0) (rn_below τ p0) (rn_t1 τ p0)
def rw_g_down (Rl : rm_St → rm_St → Prop) : Prop := ∀ (σ τ : rm_St), Rl σ τ → ∀ (p0 p1 : Int32), rw_op Rl σ σ (rm_tDown σ p0 p1) (rl_c2 rm_IO (rm_tDown σ p0 p1)) ((rm_dnL σ p0 10 0 p1).getD 0) ((rn_downS τ p0 p1).2) ((rn_downS τ p0 p1).1)
def rw_g_0 (Rl : rm_St → rm_St → Prop) : Prop := ∀ (σ τ : rm_St), Rl σ τ → rn_ok τ ∧ (∀ n, n < 10 → rn_upOK (rm_up τ 0 20 0) 21 n 0) ∧ (∀ n o, n < 10 → o < 10 → ¬ nI n = nI o → (rn_under τ n >>> (nI o &&& 31)) &&& 1 = 1 → rn_dnOK (rm_up τ 0 20 0) (nI n) 10 o) ∧ σ 0 4 = τ 0 4 ∧ σ 0 5 = τ 0 19 ∧ Rl σ (rm_up τ 0 20 0)
def rw_good (Rl : rm_St → rm_St → Prop) : Prop := rw_g_0 Rl ∧ rw_g_setRules Rl ∧ rw_g_link Rl ∧ rw_g_makeRoot Rl ∧ rw_g_endRoot Rl ∧ rw_g_renew Rl ∧ rw_g_pass Rl ∧ rw_g_rank Rl ∧ rw_g_parent Rl ∧ rw_g_tree Rl ∧ rw_g_nextTelling Rl ∧ rw_g_heard Rl ∧ rw_g_leastRank Rl ∧ rw_g_up Rl ∧ rw_g_below Rl ∧ rw_g_down Rl
set_option maxHeartbeats 4000000 in
set_option maxRecDepth 100000 in
theorem rw_loop {p : Program} {l : Launch} {e : Env} {s : State} {m : MethodId} {below : List Frame} {meth : Method} {c : Code} {k : rm_K} {a b : Nat → Nat} {o bq L : Nat} {xs : Nat → Int32} (Rl : rm_St → rm_St → Prop) (G : rw_good Rl) (hfl : l.stackTraces = false) (hr : meth.sig.returnType = ret) (hlocks : meth.locks = false) (CF : CallFix p m c cL_law 7 s #[Value.ref bq] wsL_law RL) (E : rw_E k a b o s) (hX : va_X bq L xs s s.heap) (hbl : bq < s.heap.size) (hL : L ≤ 2560) :
    ∀ (n i : Nat), L - i = n → i ≤ 2560 → ∀ (σ τ : rm_St) (f : Nat → Int64) (H : Heap) (locs : List Loc) (ls : Array Slot) (cells slots : Nat), Rl σ τ → rw_Wd k a b o s σ τ f H locs → lv_has ls 7 [(0, .ref bq), (1, .ref (a 0)), (2, .ref (b 0)), (3, .ref o), (4, .int (nI i))] → cells ≤ 80 + 4 * i → slots ≤ 1100 + 24 * i →
      W p l e room_1 s m #[Value.ref bq] below meth c H locs cells slots (lw_Z below #[Value.ref bq] s) (F0 m 23 ls []) := by
  intro n
  induction n using Nat.strongRecOn with
  | ind n ih =>
  intro i hn hi σ τ f H locs ls cells slots hR hw hl hc hs
  have hx := CF.1
  have hb := CF.2.1
  obtain ⟨G0, G_setRules, G_link, G_makeRoot, G_endRoot, G_renew, G_pass, G_rank, G_parent, G_tree, G_nextTelling, G_heard, G_leastRank, G_up, G_below, G_down⟩ := G
  refine lv_iload hx hb dL_law_23 (lv_at hl 4 rfl) ?_
  refine lv_aload_n hx hb dL_law_25 rfl (lv_at hl 0 rfl) ?_
  refine rw_len CF hw hX hbl dL_law_26 ?_
  refine lv_iconst (v := 5) hx hb dL_law_27 (by decide) ?_
  refine lv_isub hx hb dL_law_28 ?_
  refine lv_icmp_gt (tgt := 1036) hx hb dL_law_29 (by decide) (fun cg => ?_) (fun cg => ?_)
  · refine lv_iconst (v := 1) hx hb dL_law_1036 (by decide) ?_
    exact va_forget (fun q hq => hw.2.2.2.2.2 q hq) (W.widen (k := 624306) (n := 7223187) (by omega) (by omega) (lw_ret hx hb hr hlocks dL_law_1037))
  · have hi5 : i + 5 ≤ L := Nat.not_lt.mp (fun q => cg ((rw_cmp hL hi).mpr q))
    have next : ∀ (σ1 τ1 : rm_St) (f1 : Nat → Int64) (H : Heap) (locs : List Loc) (ls : Array Slot) (cells slots : Nat), Rl σ1 τ1 → rw_Wd k a b o s σ1 τ1 f1 H locs → lv_has ls 7 [(0, .ref bq), (1, .ref (a 0)), (2, .ref (b 0)), (3, .ref o), (4, .int (nI i))] → cells ≤ 80 + 4 * i + 4 → slots ≤ 1100 + 24 * i + 24 →
        W p l e room_1 s m #[Value.ref bq] below meth c H locs cells slots (lw_Z below #[Value.ref bq] s) (F0 m 1030 ls []) := by
      intro σ1 τ1 f1 H locs ls cells slots hR hw hl hc hs
      refine lv_iinc (v := nI (i + 5)) (k := 4) (lv' := [(4, .int (nI (i + 5))), (0, .ref bq), (1, .ref (a 0)), (2, .ref (b 0)), (3, .ref o)]) hx hb dL_law_1030 hl rfl (nI_add i 5) (by decide) rfl (fun ls hl => ?_)
      refine lv_goto (tgt := 23) hx hb dL_law_1033 (by decide) ?_
      exact ih (L - (i + 5)) (by omega) (i + 5) rfl (by omega) σ1 τ1 f1 H locs ls cells slots hR hw (lv_sub hl [1, 2, 3, 4, 0] rfl) (by omega) (by omega)
    refine lv_aload_n hx hb dL_law_32 rfl (lv_at hl 0 rfl) ?_
    refine lv_iload hx hb dL_law_33 (lv_at hl 4 rfl) ?_
    refine rw_ld CF hw hX hbl (i := i) (by omega) hL dL_law_35 ?_
    refine lv_bipush (v := 31) hx hb dL_law_36 (by decide) ?_
    refine lv_iand hx hb dL_law_38 ?_
    obtain ⟨t, ht, ex⟩ := rw_and31 (xs i)
    rw [ex]
    obtain ⟨hok, hup, hdn, htime, hloops, hR0⟩ := G0 σ τ hR
    by_cases h17 : 17 ≤ t
    · refine lv_tableOut (tgt := 1030) hx hb dL_law_39 (Or.inr (by rw [nI_toInt (by omega)]; omega)) (by decide) ?_
      exact next σ τ f H locs ls cells slots hR hw hl (by omega) (by omega)
    · rcases (show t = 0 ∨ t = 1 ∨ t = 2 ∨ t = 3 ∨ t = 4 ∨ t = 5 ∨ t = 6 ∨ t = 7 ∨ t = 8 ∨ t = 9 ∨ t = 10 ∨ t = 11 ∨ t = 12 ∨ t = 13 ∨ t = 14 ∨ t = 15 ∨ t = 16 by omega) with rfl | rfl | rfl | rfl | rfl | rfl | rfl | rfl | rfl | rfl | rfl | rfl | rfl | rfl | rfl | rfl | rfl
      · refine lv_tableIn (off := 81) (tgt := 120) hx hb dL_law_39 (by decide) (by decide) rfl (by decide) ?_
        have g := G_setRules σ τ hR (xs (i + 1)) (xs (i + 2)) (xs (i + 3)) (xs (i + 4))
        refine rw_case_setRules (r1 := 0) hfl CF E hw hX hbl hi5 hL hl (by omega) (by omega) (kX1_setRules l k b E.2.2.2.1.2 τ (xs (i + 1)) (xs (i + 2)) (xs (i + 3)) (xs (i + 4))) g.1 (fun H locs ls hw hl => ?_)
        rw [rl_fst] at hw
        exact next _ _ _ H locs ls _ _ g.2.2 hw hl (by omega) (by omega)
      · refine lv_tableIn (off := 153) (tgt := 192) hx hb dL_law_39 (by decide) (by decide) rfl (by decide) ?_
        have g := G_link σ τ hR (xs (i + 1)) (xs (i + 2)) (xs (i + 3))
        refine rw_case_link hfl CF E hw hX hbl hi5 hL hl (by omega) (by omega) (kX1_link l k b E.2.2.2.1.2 τ (xs (i + 1)) (xs (i + 2)) (xs (i + 3)) hok) g.1 (fun q => rl_snd (rl_c2_0 q) g.2.1) (fun H locs ls hw hl => ?_)
        rw [rl_fst] at hw
        exact next _ _ _ H locs ls _ _ g.2.2 hw hl (by omega) (by omega)
      · refine lv_tableIn (off := 233) (tgt := 272) hx hb dL_law_39 (by decide) (by decide) rfl (by decide) ?_
        have g := G_makeRoot σ τ hR (xs (i + 1))
        refine rw_case_makeRoot hfl CF E hw hX hbl hi5 hL hl (by omega) (by omega) (kX1_makeRoot l k b E.2.2.2.1.2 τ (xs (i + 1))) g.1 (fun q => rl_snd (rl_c2_0 q) g.2.1) (fun H locs ls hw hl => ?_)
        rw [rl_fst] at hw
        exact next _ _ _ H locs ls _ _ g.2.2 hw hl (by omega) (by omega)
      · refine lv_tableIn (off := 289) (tgt := 328) hx hb dL_law_39 (by decide) (by decide) rfl (by decide) ?_
        have g := G_endRoot σ τ hR (xs (i + 1))
        refine rw_case_endRoot (r1 := 0) hfl CF E hw hX hbl hi5 hL hl (by omega) (by omega) (kX1_endRoot l k b E.2.2.2.1.2 τ (xs (i + 1)) hok) g.1 (fun H locs ls hw hl => ?_)
        rw [rl_fst] at hw
        exact next _ _ _ H locs ls _ _ g.2.2 hw hl (by omega) (by omega)
      · refine lv_tableIn (off := 325) (tgt := 364) hx hb dL_law_39 (by decide) (by decide) rfl (by decide) ?_
        have g := G_renew σ τ hR (xs (i + 1))
        refine rw_case_renew hfl CF E hw hX hbl hi5 hL hl (by omega) (by omega) (kX1_renew l k b E.2.2.2.1.2 τ (xs (i + 1))) g.1 (fun q => rl_snd (rl_c2_0 q) g.2.1) (fun H locs ls hw hl => ?_)
        rw [rl_fst] at hw
        exact next _ _ _ H locs ls _ _ g.2.2 hw hl (by omega) (by omega)
      · refine lv_tableIn (off := 381) (tgt := 420) hx hb dL_law_39 (by decide) (by decide) rfl (by decide) ?_
        have g := G_pass σ τ hR (xs (i + 1))
        refine rw_case_pass hfl CF E hw hX hbl hi5 hL hl (by omega) (by omega) (kX1_pass l k b E.2.2.2.1.2 τ (xs (i + 1)) hok) g.1 (fun q => rl_snd (rl_c1_0 q) g.2.1) (fun H locs ls hw hl => ?_)
        rw [rl_fst] at hw
        exact next _ _ _ H locs ls _ _ g.2.2 hw hl (by omega) (by omega)
      · refine lv_tableIn (off := 437) (tgt := 476) hx hb dL_law_39 (by decide) (by decide) rfl (by decide) ?_
        exact rw_case_time hfl CF E hw hX hbl hi5 hL hl (by omega) (by omega) (kX1_time l k b E.2.2.2.1.2 τ) htime (fun H locs ls hw hl => next σ _ f H locs ls _ _ hR0 hw hl (by omega) (by omega))
      · refine lv_tableIn (off := 450) (tgt := 489) hx hb dL_law_39 (by decide) (by decide) rfl (by decide) ?_
        have g := G_rank σ τ hR (xs (i + 1))
        refine rw_case_rank hfl CF E hw hX hbl hi5 hL hl (by omega) (by omega) (kX1_rank l k b E.2.2.2.1.2 τ (xs (i + 1))) g.1 (fun q => rl_snd (rl_c1_0 q) g.2.1) (fun H locs ls hw hl => ?_)
        rw [rl_fst] at hw
        exact next _ _ _ H locs ls _ _ g.2.2 hw hl (by omega) (by omega)
      · refine lv_tableIn (off := 506) (tgt := 545) hx hb dL_law_39 (by decide) (by decide) rfl (by decide) ?_
        have g := G_parent σ τ hR (xs (i + 1))
        refine rw_case_parent hfl CF E hw hX hbl hi5 hL hl (by omega) (by omega) (kX1_parent l k b E.2.2.2.1.2 τ (xs (i + 1))) g.1 (fun q => rl_snd (rl_c1_0 q) g.2.1) (fun H locs ls hw hl => ?_)
        rw [rl_fst] at hw
        exact next _ _ _ H locs ls _ _ g.2.2 hw hl (by omega) (by omega)
      · refine lv_tableIn (off := 562) (tgt := 601) hx hb dL_law_39 (by decide) (by decide) rfl (by decide) ?_
        have g := G_tree σ τ hR (xs (i + 1))
        refine rw_case_tree hfl CF E hw hX hbl hi5 hL hl (by omega) (by omega) (kX1_tree l k b E.2.2.2.1.2 τ (xs (i + 1))) g.1 (fun q => rl_snd (rl_c1_0 q) g.2.1) (fun H locs ls hw hl => ?_)
        rw [rl_fst] at hw
        exact next _ _ _ H locs ls _ _ g.2.2 hw hl (by omega) (by omega)
      · refine lv_tableIn (off := 618) (tgt := 657) hx hb dL_law_39 (by decide) (by decide) rfl (by decide) ?_
        have g := G_nextTelling σ τ hR (xs (i + 1))
        refine rw_case_nextTelling hfl CF E hw hX hbl hi5 hL hl (by omega) (by omega) (kX1_nextTelling l k b E.2.2.2.1.2 τ (xs (i + 1))) g.1 (fun q => rl_snd (rl_c1_0 q) g.2.1) (fun H locs ls hw hl => ?_)
        rw [rl_fst] at hw
        exact next _ _ _ H locs ls _ _ g.2.2 hw hl (by omega) (by omega)
      · refine lv_tableIn (off := 674) (tgt := 713) hx hb dL_law_39 (by decide) (by decide) rfl (by decide) ?_
        have g := G_heard σ τ hR (xs (i + 1)) (xs (i + 2))
        refine rw_case_heard hfl CF E hw hX hbl hi5 hL hl (by omega) (by omega) (kX1_heard l k b E.2.2.2.1.2 τ (xs (i + 1)) (xs (i + 2))) g.1 (fun q => rl_snd (rl_c1_0 q) g.2.1) (fun H locs ls hw hl => ?_)
        rw [rl_fst] at hw
        exact next _ _ _ H locs ls _ _ g.2.2 hw hl (by omega) (by omega)
      · refine lv_tableIn (off := 742) (tgt := 781) hx hb dL_law_39 (by decide) (by decide) rfl (by decide) ?_
        have g := G_leastRank σ τ hR (xs (i + 1))
        refine rw_case_leastRank hfl CF E hw hX hbl hi5 hL hl (by omega) (by omega) (kX1_leastRank l k b E.2.2.2.1.2 τ (xs (i + 1))) g.1 (fun q => rl_snd (rl_c1_0 q) g.2.1) (fun H locs ls hw hl => ?_)
        rw [rl_fst] at hw
        exact next _ _ _ H locs ls _ _ g.2.2 hw hl (by omega) (by omega)
      · refine lv_tableIn (off := 798) (tgt := 837) hx hb dL_law_39 (by decide) (by decide) rfl (by decide) ?_
        have g := G_up σ τ hR (xs (i + 1))
        refine rw_case_up hfl CF E hw hX hbl hi5 hL hl (by omega) (by omega) (kX1_up l k b E.2.2.2.1.2 τ (xs (i + 1)) hok hup) g.1 (fun q => rl_snd (rl_c1_0 q) g.2.1) (fun H locs ls hw hl => ?_)
        rw [rl_fst] at hw
        exact next _ _ _ H locs ls _ _ g.2.2 hw hl (by omega) (by omega)
      · refine lv_tableIn (off := 854) (tgt := 893) hx hb dL_law_39 (by decide) (by decide) rfl (by decide) ?_
        exact rw_case_loops hfl CF E hw hX hbl hi5 hL hl (by omega) (by omega) (kX1_loops l k b E.2.2.2.1.2 τ) hloops (fun H locs ls hw hl => next σ _ f H locs ls _ _ hR0 hw hl (by omega) (by omega))
      · refine lv_tableIn (off := 867) (tgt := 906) hx hb dL_law_39 (by decide) (by decide) rfl (by decide) ?_
        have g := G_below σ τ hR (xs (i + 1))
        refine rw_case_below hfl CF E hw hX hbl hi5 hL hl (by omega) (by omega) (kX1_below l k b E.2.2.2.1.2 τ (xs (i + 1))) g.1 (fun q => rl_snd (rl_c1_0 q) g.2.1) (fun H locs ls hw hl => ?_)
        rw [rl_fst] at hw
        exact next _ _ _ H locs ls _ _ g.2.2 hw hl (by omega) (by omega)
      · refine lv_tableIn (off := 923) (tgt := 962) hx hb dL_law_39 (by decide) (by decide) rfl (by decide) ?_
        have g := G_down σ τ hR (xs (i + 1)) (xs (i + 2))
        refine rw_case_down hfl CF E hw hX hbl hi5 hL hl (by omega) (by omega) (kX1_down l k b E.2.2.2.1.2 τ (xs (i + 1)) (xs (i + 2)) hdn) g.1 (fun q => rl_snd (rl_c2_0 q) g.2.1) (fun H locs ls hw hl => ?_)
        rw [rl_fst] at hw
        exact next _ _ _ H locs ls _ _ g.2.2 hw hl (by omega) (by omega)

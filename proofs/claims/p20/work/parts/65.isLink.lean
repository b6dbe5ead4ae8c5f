set_option maxHeartbeats 4000000 in
set_option maxRecDepth 100000 in
theorem jL_isLink_10 (l : Launch) (hfl : l.stackTraces = false) (k : rm_K) (a q : Nat → Nat) (hsep : lz_sep a q) (σ θ : rm_St) {o K B : Nat} (ho : o < 8) (hI : lz_I K B σ θ) : lz_M l k a q (fun _ => True) yL_isLink wsL_isLink ({ frames := 11, cells := 10, slots := 60, locals := 220 }) [.ref (a 0), .ref (q 0), .int 10, .int (nI o), .int 5] σ θ (fun r σ1 θ1 => r = 1 ∧ lz_I K B σ1 θ1) := by
  refine lz_enter (cc := cL_isLink) (nL := 6) (ret := some .boolean) hsep (by decide) rfl rfl (Nat.le_of_ble_eq_true rfl) ?_
  intro p e s m args below meth c ls CF hr hlocks hTh hN hX hw hl
  have hx := CF.1
  have hb := CF.2.1
  have hts := CF.2.2.2.2
  have hA : ∀ x, s.heap.size ≤ x → lz_A a q s.heap.size x := fun x h => Or.inl (Or.inr h)
  replace hl : lv_has ls 6 [(0, .ref (a 0)), (1, .ref (q 0)), (2, .int 10), (3, .int (nI o)), (4, .int 5)] := hl
  have htl : rm_tLink 10 (nI o) 5 = some rm_IO := by
    unfold rm_tLink
    rw [show rm_tN 10 = some rm_IO by decide +kernel]
    rfl
  refine lv_iload_n hx hb dL_isLink_0 rfl (lv_at hl 2 rfl) ?_
  refine lv_bipush (v := 9) hx hb dL_isLink_1 (by decide) ?_
  refine lv_icmp_gt (tgt := 12) hx hb dL_isLink_3 (by decide) (fun c_3 => ?_) (fun c_3 => absurd (by decide) c_3)
  refine lv_bipush (v := (-30)) hx hb dL_isLink_12 (by decide) ?_
  refine lv_goto (tgt := 40) hx hb dL_isLink_14 (by decide) ?_
  refine lv_istore (lv' := [(5, .int (-30)), (0, .ref (a 0)), (1, .ref (q 0)), (2, .int 10), (3, .int (nI o)), (4, .int 5)]) hx hb dL_isLink_40 hl (by decide) rfl (fun ls hl => ?_)
  refine lv_iload hx hb dL_isLink_42 (lv_at hl 0 rfl) ?_
  refine lv_if_lt (tgt := 67) hx hb dL_isLink_44 (by decide) (fun c_44 => ?_) (fun c_44 => absurd (by decide) c_44)
  refine lv_aload_n hx hb dL_isLink_67 rfl (lv_at hl 1 rfl) ?_
  refine lv_iconst (v := 2) hx hb dL_isLink_68 (by decide) ?_
  refine lv_iload_n hx hb dL_isLink_69 rfl (lv_at hl 3 rfl) ?_
  refine lv_iload_n hx hb dL_isLink_70 rfl (lv_at hl 4 rfl) ?_
  refine lv_iload hx hb dL_isLink_71 (lv_at hl 5 rfl) ?_
  refine lv_iconst (v := 0) hx hb dL_isLink_73 (by decide) ?_
  refine lz_callH CF hTh hN hA hw (As := [.ref (a 0), .int 2, .int 10, .int (nI o), .int 5, .int 0]) (rest := []) (jL_does_2 l hfl k a q hsep σ θ 10 (nI o) 5 0) (fun _ _ _ _ _ => trivial) (fun _ _ _ => trivial) (vx_cwSW 6 hts gL_isLink_L_does rfl rfl rfl (by decide +kernel) ⟨Nat.le_of_ble_eq_true rfl, Nat.le_of_ble_eq_true rfl⟩) rfl hl.1 rfl (lv_room (Nat.le_of_ble_eq_true rfl)) dL_isLink_74 ⟨Nat.le_of_ble_eq_true rfl, Nat.le_of_ble_eq_true rfl⟩ (fun H locs r_74 σ_74 θ_74 hp_74 hw => ?_)
  obtain ⟨h1, h2, h3⟩ := hp_74
  rw [htl] at h1 h2
  have h1 : r_74 = (-30) := h1.trans lz_code_IO
  have h2 : σ_74 = σ := h2
  rw [h2, h3] at hw
  rw [h1]
  refine lv_iload hx hb dL_isLink_77 (lv_at hl 0 rfl) ?_
  refine lv_icmp_ne (tgt := 116) hx hb dL_isLink_79 (by decide) (fun c_79 => absurd (by decide) c_79) (fun c_79 => ?_)
  refine lv_iload hx hb dL_isLink_82 (lv_at hl 0 rfl) ?_
  refine lv_if_lt (tgt := 112) hx hb dL_isLink_84 (by decide) (fun c_84 => ?_) (fun c_84 => absurd (by decide) c_84)
  refine lv_iconst (v := 1) hx hb dL_isLink_112 (by decide) ?_
  refine lv_goto (tgt := 117) hx hb dL_isLink_113 (by decide) ?_
  exact lz_zret (post := (fun r σ1 θ1 => r = 1 ∧ lz_I K B σ1 θ1)) CF hr hlocks hw (by show 0 + 4 ≤ 10; omega) (by show 0 + 24 ≤ 60; omega) dL_isLink_117 ⟨rfl, hI⟩
set_option maxHeartbeats 4000000 in
set_option maxRecDepth 100000 in
theorem jL_isLink_n (l : Launch) (hfl : l.stackTraces = false) (k : rm_K) (a q : Nat → Nat) (hsep : lz_sep a q) (σ θ : rm_St) {n o v K B : Nat} (hn : n < 8) (ho : o < 8) (hv : v ≤ 101) (hI : lz_I K B σ θ) : lz_M l k a q (fun _ => True) yL_isLink wsL_isLink ({ frames := 11, cells := 10, slots := 60, locals := 220 }) [.ref (a 0), .ref (q 0), .int (nI n), .int (nI o), .int (nI v)] σ θ (fun r σ1 θ1 => r = 1 ∧ lz_I K B σ1 θ1) := by
  refine lz_enter (cc := cL_isLink) (nL := 6) (ret := some .boolean) hsep (by decide) rfl rfl (Nat.le_of_ble_eq_true rfl) ?_
  intro p e s m args below meth c ls CF hr hlocks hTh hN hX hw hl
  have hx := CF.1
  have hb := CF.2.1
  have hts := CF.2.2.2.2
  have hA : ∀ x, s.heap.size ≤ x → lz_A a q s.heap.size x := fun x h => Or.inl (Or.inr h)
  replace hl : lv_has ls 6 [(0, .ref (a 0)), (1, .ref (q 0)), (2, .int (nI n)), (3, .int (nI o)), (4, .int (nI v))] := hl
  have hI0 := hI
  obtain ⟨hM, hNn, hT, ⟨hLc, hLt, hL4, hL2, hL5⟩, hB⟩ := hI
  have t0 : rm_tN (nI n) = none := lk_tN (by omega)
  have t1 : rm_tN (nI o) = none := lk_tN (by omega)
  have ht : rm_tLink (nI n) (nI o) (nI v) = if nI n = nI o then some rm_IA else rm_tR (nI v) 0 100 := by
    unfold rm_tLink
    rw [t0, t1]
    rfl
  by_cases hno : n = o
  · have htl : rm_tLink (nI n) (nI o) (nI v) = some rm_IA := by rw [ht, if_pos (by rw [hno])]
    refine lv_iload_n hx hb dL_isLink_0 rfl (lv_at hl 2 rfl) ?_
    refine lv_bipush (v := 9) hx hb dL_isLink_1 (by decide) ?_
    refine lv_icmp_gt (tgt := 12) hx hb dL_isLink_3 (by decide) (fun c_3 => absurd c_3 (nI_nlt (a := 9) (b := n) (by omega) (by decide))) (fun c_3 => ?_)
    refine lv_iload_n hx hb dL_isLink_6 rfl (lv_at hl 3 rfl) ?_
    refine lv_bipush (v := 9) hx hb dL_isLink_7 (by decide) ?_
    refine lv_icmp_le (tgt := 17) hx hb dL_isLink_9 (by decide) (fun c_9 => ?_) (fun c_9 => absurd (nI_le (a := o) (b := 9) (by omega) (by decide)) c_9)
    refine lv_iload_n hx hb dL_isLink_17 rfl (lv_at hl 2 rfl) ?_
    refine lv_iload_n hx hb dL_isLink_18 rfl (lv_at hl 3 rfl) ?_
    refine lv_icmp_eq (tgt := 29) hx hb dL_isLink_19 (by decide) (fun c_19 => ?_) (fun c_19 => absurd (by rw [hno]) c_19)
    refine lv_bipush (v := (-20)) hx hb dL_isLink_29 (by decide) ?_
    refine lv_goto (tgt := 40) hx hb dL_isLink_31 (by decide) ?_
    refine lv_istore (lv' := [(5, .int (-20)), (0, .ref (a 0)), (1, .ref (q 0)), (2, .int (nI n)), (3, .int (nI o)), (4, .int (nI v))]) hx hb dL_isLink_40 hl (by decide) rfl (fun ls hl => ?_)
    refine lv_iload hx hb dL_isLink_42 (lv_at hl 0 rfl) ?_
    refine lv_if_lt (tgt := 67) hx hb dL_isLink_44 (by decide) (fun c_44 => ?_) (fun c_44 => absurd (by decide) c_44)
    refine lv_aload_n hx hb dL_isLink_67 rfl (lv_at hl 1 rfl) ?_
    refine lv_iconst (v := 2) hx hb dL_isLink_68 (by decide) ?_
    refine lv_iload_n hx hb dL_isLink_69 rfl (lv_at hl 3 rfl) ?_
    refine lv_iload_n hx hb dL_isLink_70 rfl (lv_at hl 4 rfl) ?_
    refine lv_iload hx hb dL_isLink_71 (lv_at hl 5 rfl) ?_
    refine lv_iconst (v := 0) hx hb dL_isLink_73 (by decide) ?_
    refine lz_callH CF hTh hN hA hw (As := [.ref (a 0), .int 2, .int (nI n), .int (nI o), .int (nI v), .int 0]) (rest := []) (jL_does_2 l hfl k a q hsep σ θ (nI n) (nI o) (nI v) 0) (fun _ _ _ _ _ => trivial) (fun _ _ _ => trivial) (vx_cwSW 6 hts gL_isLink_L_does rfl rfl rfl (by decide +kernel) ⟨Nat.le_of_ble_eq_true rfl, Nat.le_of_ble_eq_true rfl⟩) rfl hl.1 rfl (lv_room (Nat.le_of_ble_eq_true rfl)) dL_isLink_74 ⟨Nat.le_of_ble_eq_true rfl, Nat.le_of_ble_eq_true rfl⟩ (fun H locs r_74 σ_74 θ_74 hp_74 hw => ?_)
    obtain ⟨h1, h2, h3⟩ := hp_74
    rw [htl] at h1 h2
    have h1 : r_74 = (-20) := h1.trans lz_code_IA
    have h2 : σ_74 = σ := h2
    rw [h2, h3] at hw
    rw [h1]
    refine lv_iload hx hb dL_isLink_77 (lv_at hl 0 rfl) ?_
    refine lv_icmp_ne (tgt := 116) hx hb dL_isLink_79 (by decide) (fun c_79 => absurd (by decide) c_79) (fun c_79 => ?_)
    refine lv_iload hx hb dL_isLink_82 (lv_at hl 0 rfl) ?_
    refine lv_if_lt (tgt := 112) hx hb dL_isLink_84 (by decide) (fun c_84 => ?_) (fun c_84 => absurd (by decide) c_84)
    refine lv_iconst (v := 1) hx hb dL_isLink_112 (by decide) ?_
    refine lv_goto (tgt := 117) hx hb dL_isLink_113 (by decide) ?_
    exact lz_zret (post := (fun r σ1 θ1 => r = 1 ∧ lz_I K B σ1 θ1)) CF hr hlocks hw (by show 0 + 4 ≤ 10; omega) (by show 0 + 24 ≤ 60; omega) dL_isLink_117 ⟨rfl, hI0⟩
  · have hne : ¬ nI n = nI o := fun h => hno ((nI_eq (by omega) (by omega)).mp h)
    rw [if_neg hne] at ht
    by_cases hv1 : v ≤ 100
    · have htl : rm_tLink (nI n) (nI o) (nI v) = none := by
        rw [ht]
        unfold rm_tR
        rw [if_neg (nI_pos (by omega)), if_pos (show nI v ≤ (100 : Int32) from nI_le (a := v) (b := 100) hv1 (by decide))]
      have hlk := lz_link_ (v := nI v) hI0 hn ho hno (by rw [nI_toInt (by omega)]; omega)
      have hc0 : ¬ σ (15 + n) o < 0 := by
        have := (hM.2.1 n o (by omega) (by omega)).1
        rw [Int32.lt_iff_toInt_lt, Int32.toInt_zero]
        omega
      refine lv_iload_n hx hb dL_isLink_0 rfl (lv_at hl 2 rfl) ?_
      refine lv_bipush (v := 9) hx hb dL_isLink_1 (by decide) ?_
      refine lv_icmp_gt (tgt := 12) hx hb dL_isLink_3 (by decide) (fun c_3 => absurd c_3 (nI_nlt (a := 9) (b := n) (by omega) (by decide))) (fun c_3 => ?_)
      refine lv_iload_n hx hb dL_isLink_6 rfl (lv_at hl 3 rfl) ?_
      refine lv_bipush (v := 9) hx hb dL_isLink_7 (by decide) ?_
      refine lv_icmp_le (tgt := 17) hx hb dL_isLink_9 (by decide) (fun c_9 => ?_) (fun c_9 => absurd (nI_le (a := o) (b := 9) (by omega) (by decide)) c_9)
      refine lv_iload_n hx hb dL_isLink_17 rfl (lv_at hl 2 rfl) ?_
      refine lv_iload_n hx hb dL_isLink_18 rfl (lv_at hl 3 rfl) ?_
      refine lv_icmp_eq (tgt := 29) hx hb dL_isLink_19 (by decide) (fun c_19 => absurd c_19 hne) (fun c_19 => ?_)
      refine lv_iload hx hb dL_isLink_22 (lv_at hl 4 rfl) ?_
      refine lv_bipush (v := 100) hx hb dL_isLink_24 (by decide) ?_
      refine lv_icmp_le (tgt := 34) hx hb dL_isLink_26 (by decide) (fun c_26 => ?_) (fun c_26 => absurd (nI_le (a := v) (b := 100) hv1 (by decide)) c_26)
      refine lv_aload_n hx hb dL_isLink_34 rfl (lv_at hl 1 rfl) ?_
      refine lv_iload_n hx hb dL_isLink_35 rfl (lv_at hl 2 rfl) ?_
      refine lv_iload_n hx hb dL_isLink_36 rfl (lv_at hl 3 rfl) ?_
      refine lz_callC CF hw (As := [.ref (q 0), .int (nI n), .int (nI o)]) (rest := []) (jL_cost l k q θ n o (by omega) (by omega) _ (hLc n o (show n < 10 by omega) (show o < 10 by omega))) (va_cwS 3 hts gL_isLink_L_cost rfl rfl rfl (by decide +kernel) ⟨Nat.le_of_ble_eq_true rfl, Nat.le_of_ble_eq_true rfl⟩) rfl hl.1 rfl (lv_room (Nat.le_of_ble_eq_true rfl)) dL_isLink_37 ⟨Nat.le_of_ble_eq_true rfl, Nat.le_of_ble_eq_true rfl⟩ (fun H locs hw => ?_)
      refine lv_istore (lv' := [(5, .int (σ (15 + n) o)), (0, .ref (a 0)), (1, .ref (q 0)), (2, .int (nI n)), (3, .int (nI o)), (4, .int (nI v))]) hx hb dL_isLink_40 hl (by decide) rfl (fun ls hl => ?_)
      refine lv_iload hx hb dL_isLink_42 (lv_at hl 0 rfl) ?_
      refine lv_if_lt (tgt := 67) hx hb dL_isLink_44 (by decide) (fun c_44 => absurd c_44 hc0) (fun c_44 => ?_)
      refine lv_aload_n hx hb dL_isLink_47 rfl (lv_at hl 2 rfl) ?_
      refine lv_bipush (v := 8) hx hb dL_isLink_48 (by decide) ?_
      refine lv_iload_n hx hb dL_isLink_50 rfl (lv_at hl 3 rfl) ?_
      refine lv_imul hx hb dL_isLink_51 ?_
      rw [show (8 : Int32) * (nI n) = nI (8 * n) from pk_mul 8 n]
      refine lv_iload_n hx hb dL_isLink_52 rfl (lv_at hl 4 rfl) ?_
      refine lv_iadd hx hb dL_isLink_53 ?_
      rw [show (nI (8 * n)) + (nI o) = nI ((8 * n) + o) from nI_add (8 * n) o]
      refine lv_iload hx hb dL_isLink_54 (lv_at hl 5 rfl) ?_
      refine lz_iast CF hw 0 (j := ((8 * n) + o)) (by decide) (by show _ < 64; omega) dL_isLink_56 (fun H locs hw => ?_)
      refine lv_aload_n hx hb dL_isLink_57 rfl (lv_at hl 2 rfl) ?_
      refine lv_bipush (v := 8) hx hb dL_isLink_58 (by decide) ?_
      refine lv_iload_n hx hb dL_isLink_60 rfl (lv_at hl 4 rfl) ?_
      refine lv_imul hx hb dL_isLink_61 ?_
      rw [show (8 : Int32) * (nI o) = nI (8 * o) from pk_mul 8 o]
      refine lv_iload_n hx hb dL_isLink_62 rfl (lv_at hl 3 rfl) ?_
      refine lv_iadd hx hb dL_isLink_63 ?_
      rw [show (nI (8 * o)) + (nI n) = nI ((8 * o) + n) from nI_add (8 * o) n]
      refine lv_iload hx hb dL_isLink_64 (lv_at hl 5 rfl) ?_
      refine lz_iast CF hw 0 (j := ((8 * o) + n)) (by decide) (by show _ < 64; omega) dL_isLink_66 (fun H locs hw => ?_)
      refine lv_aload_n hx hb dL_isLink_67 rfl (lv_at hl 1 rfl) ?_
      refine lv_iconst (v := 2) hx hb dL_isLink_68 (by decide) ?_
      refine lv_iload_n hx hb dL_isLink_69 rfl (lv_at hl 3 rfl) ?_
      refine lv_iload_n hx hb dL_isLink_70 rfl (lv_at hl 4 rfl) ?_
      refine lv_iload hx hb dL_isLink_71 (lv_at hl 5 rfl) ?_
      refine lv_iconst (v := 0) hx hb dL_isLink_73 (by decide) ?_
      refine lz_callH CF hTh hN hA hw (As := [.ref (a 0), .int 2, .int (nI n), .int (nI o), .int (nI v), .int 0]) (rest := []) (jL_does_2 l hfl k a q hsep σ (rm_up (rm_up θ 0 ((8 * n) + o) (nI v)) 0 ((8 * o) + n) (nI v)) (nI n) (nI o) (nI v) 0) (fun _ _ _ _ _ => trivial) (fun _ _ _ => trivial) (vx_cwSW 6 hts gL_isLink_L_does rfl rfl rfl (by decide +kernel) ⟨Nat.le_of_ble_eq_true rfl, Nat.le_of_ble_eq_true rfl⟩) rfl hl.1 rfl (lv_room (Nat.le_of_ble_eq_true rfl)) dL_isLink_74 ⟨Nat.le_of_ble_eq_true rfl, Nat.le_of_ble_eq_true rfl⟩ (fun H locs r_74 σ_74 θ_74 hp_74 hw => ?_)
      obtain ⟨h1, h2, h3⟩ := hp_74
      rw [htl] at h1 h2
      rw [rm_cl (show n < 10 by omega), rm_cl (show o < 10 by omega)] at h1
      have h1 : r_74 = σ (15 + n) o := h1.trans rfl
      have h2 : σ_74 = (rm_linkS σ (nI n) (nI o) (nI v)) := h2
      rw [h2, h3] at hw
      rw [h1]
      refine lv_iload hx hb dL_isLink_77 (lv_at hl 0 rfl) ?_
      refine lv_icmp_ne (tgt := 116) hx hb dL_isLink_79 (by decide) (fun c_79 => absurd rfl c_79) (fun c_79 => ?_)
      refine lv_iload hx hb dL_isLink_82 (lv_at hl 0 rfl) ?_
      refine lv_if_lt (tgt := 112) hx hb dL_isLink_84 (by decide) (fun c_84 => absurd c_84 hc0) (fun c_84 => ?_)
      refine lv_iload hx hb dL_isLink_87 (lv_at hl 5 rfl) ?_
      refine lv_if_gt (tgt := 112) hx hb dL_isLink_89 (by decide) (fun c_89 => ?_) (fun c_89 => ?_)
      · skip
        refine lv_iconst (v := 1) hx hb dL_isLink_112 (by decide) ?_
        refine lv_goto (tgt := 117) hx hb dL_isLink_113 (by decide) ?_
        exact lz_zret (post := (fun r σ1 θ1 => r = 1 ∧ lz_I K B σ1 θ1)) CF hr hlocks hw (by show 0 + 4 ≤ 10; omega) (by show 0 + 24 ≤ 60; omega) dL_isLink_117 ⟨rfl, hlk.1⟩
      · skip
        have hv0 : nI v = 0 := by
          have h0 : ¬ 0 < v := fun h => c_89 (show nI 0 < nI v from nI_lt h (by omega))
          rw [show v = 0 by omega]
          exact nI_0
        refine lv_aload_n hx hb dL_isLink_92 rfl (lv_at hl 1 rfl) ?_
        refine lv_iload_n hx hb dL_isLink_93 rfl (lv_at hl 3 rfl) ?_
        refine lv_iload_n hx hb dL_isLink_94 rfl (lv_at hl 4 rfl) ?_
        refine lz_callI CF hTh hA hw (As := [.int (nI n), .int (nI o)]) (rest := []) (lk_heard l k a (rm_linkS σ (nI n) (nI o) (nI v)) hfl hsep.1 (show n < 10 by omega) (show o < 10 by omega) (hlk.2 hv0).1) (cwV 2 hts gL_isLink_X0_heard rfl rfl rfl (by decide +kernel) ⟨Nat.le_of_ble_eq_true rfl, Nat.le_of_ble_eq_true rfl⟩) rfl hl.1 rfl (lv_room (Nat.le_of_ble_eq_true rfl)) dL_isLink_95 ⟨Nat.le_of_ble_eq_true rfl, Nat.le_of_ble_eq_true rfl⟩ (fun H locs hw => ?_)
        refine lv_iconst (v := (-1)) hx hb dL_isLink_98 (by decide) ?_
        refine lv_icmp_ne (tgt := 116) hx hb dL_isLink_99 (by decide) (fun c_99 => absurd (by decide) c_99) (fun c_99 => ?_)
        refine lv_aload_n hx hb dL_isLink_102 rfl (lv_at hl 1 rfl) ?_
        refine lv_iload_n hx hb dL_isLink_103 rfl (lv_at hl 4 rfl) ?_
        refine lv_iload_n hx hb dL_isLink_104 rfl (lv_at hl 3 rfl) ?_
        refine lz_callI CF hTh hA hw (As := [.int (nI o), .int (nI n)]) (rest := []) (lk_heard l k a (rm_linkS σ (nI n) (nI o) (nI v)) hfl hsep.1 (show o < 10 by omega) (show n < 10 by omega) (hlk.2 hv0).2) (cwV 2 hts gL_isLink_X0_heard rfl rfl rfl (by decide +kernel) ⟨Nat.le_of_ble_eq_true rfl, Nat.le_of_ble_eq_true rfl⟩) rfl hl.1 rfl (lv_room (Nat.le_of_ble_eq_true rfl)) dL_isLink_105 ⟨Nat.le_of_ble_eq_true rfl, Nat.le_of_ble_eq_true rfl⟩ (fun H locs hw => ?_)
        refine lv_iconst (v := (-1)) hx hb dL_isLink_108 (by decide) ?_
        refine lv_icmp_ne (tgt := 116) hx hb dL_isLink_109 (by decide) (fun c_109 => absurd (by decide) c_109) (fun c_109 => ?_)
        refine lv_iconst (v := 1) hx hb dL_isLink_112 (by decide) ?_
        refine lv_goto (tgt := 117) hx hb dL_isLink_113 (by decide) ?_
        exact lz_zret (post := (fun r σ1 θ1 => r = 1 ∧ lz_I K B σ1 θ1)) CF hr hlocks hw (by show 0 + 4 + 2 + 2 ≤ 10; omega) (by show 0 + 24 + 12 + 12 ≤ 60; omega) dL_isLink_117 ⟨rfl, hlk.1⟩
    · have hv2 : ¬ nI v ≤ (100 : Int32) := nI_ge (a := 100) (b := v) (by omega) (by omega)
      have htl : rm_tLink (nI n) (nI o) (nI v) = some rm_IA := by
        rw [ht]
        unfold rm_tR
        rw [if_neg (nI_pos (by omega)), if_neg hv2]
      refine lv_iload_n hx hb dL_isLink_0 rfl (lv_at hl 2 rfl) ?_
      refine lv_bipush (v := 9) hx hb dL_isLink_1 (by decide) ?_
      refine lv_icmp_gt (tgt := 12) hx hb dL_isLink_3 (by decide) (fun c_3 => absurd c_3 (nI_nlt (a := 9) (b := n) (by omega) (by decide))) (fun c_3 => ?_)
      refine lv_iload_n hx hb dL_isLink_6 rfl (lv_at hl 3 rfl) ?_
      refine lv_bipush (v := 9) hx hb dL_isLink_7 (by decide) ?_
      refine lv_icmp_le (tgt := 17) hx hb dL_isLink_9 (by decide) (fun c_9 => ?_) (fun c_9 => absurd (nI_le (a := o) (b := 9) (by omega) (by decide)) c_9)
      refine lv_iload_n hx hb dL_isLink_17 rfl (lv_at hl 2 rfl) ?_
      refine lv_iload_n hx hb dL_isLink_18 rfl (lv_at hl 3 rfl) ?_
      refine lv_icmp_eq (tgt := 29) hx hb dL_isLink_19 (by decide) (fun c_19 => absurd c_19 hne) (fun c_19 => ?_)
      refine lv_iload hx hb dL_isLink_22 (lv_at hl 4 rfl) ?_
      refine lv_bipush (v := 100) hx hb dL_isLink_24 (by decide) ?_
      refine lv_icmp_le (tgt := 34) hx hb dL_isLink_26 (by decide) (fun c_26 => absurd c_26 hv2) (fun c_26 => ?_)
      refine lv_bipush (v := (-20)) hx hb dL_isLink_29 (by decide) ?_
      refine lv_goto (tgt := 40) hx hb dL_isLink_31 (by decide) ?_
      refine lv_istore (lv' := [(5, .int (-20)), (0, .ref (a 0)), (1, .ref (q 0)), (2, .int (nI n)), (3, .int (nI o)), (4, .int (nI v))]) hx hb dL_isLink_40 hl (by decide) rfl (fun ls hl => ?_)
      refine lv_iload hx hb dL_isLink_42 (lv_at hl 0 rfl) ?_
      refine lv_if_lt (tgt := 67) hx hb dL_isLink_44 (by decide) (fun c_44 => ?_) (fun c_44 => absurd (by decide) c_44)
      refine lv_aload_n hx hb dL_isLink_67 rfl (lv_at hl 1 rfl) ?_
      refine lv_iconst (v := 2) hx hb dL_isLink_68 (by decide) ?_
      refine lv_iload_n hx hb dL_isLink_69 rfl (lv_at hl 3 rfl) ?_
      refine lv_iload_n hx hb dL_isLink_70 rfl (lv_at hl 4 rfl) ?_
      refine lv_iload hx hb dL_isLink_71 (lv_at hl 5 rfl) ?_
      refine lv_iconst (v := 0) hx hb dL_isLink_73 (by decide) ?_
      refine lz_callH CF hTh hN hA hw (As := [.ref (a 0), .int 2, .int (nI n), .int (nI o), .int (nI v), .int 0]) (rest := []) (jL_does_2 l hfl k a q hsep σ θ (nI n) (nI o) (nI v) 0) (fun _ _ _ _ _ => trivial) (fun _ _ _ => trivial) (vx_cwSW 6 hts gL_isLink_L_does rfl rfl rfl (by decide +kernel) ⟨Nat.le_of_ble_eq_true rfl, Nat.le_of_ble_eq_true rfl⟩) rfl hl.1 rfl (lv_room (Nat.le_of_ble_eq_true rfl)) dL_isLink_74 ⟨Nat.le_of_ble_eq_true rfl, Nat.le_of_ble_eq_true rfl⟩ (fun H locs r_74 σ_74 θ_74 hp_74 hw => ?_)
      obtain ⟨h1, h2, h3⟩ := hp_74
      rw [htl] at h1 h2
      have h1 : r_74 = (-20) := h1.trans lz_code_IA
      have h2 : σ_74 = σ := h2
      rw [h2, h3] at hw
      rw [h1]
      refine lv_iload hx hb dL_isLink_77 (lv_at hl 0 rfl) ?_
      refine lv_icmp_ne (tgt := 116) hx hb dL_isLink_79 (by decide) (fun c_79 => absurd (by decide) c_79) (fun c_79 => ?_)
      refine lv_iload hx hb dL_isLink_82 (lv_at hl 0 rfl) ?_
      refine lv_if_lt (tgt := 112) hx hb dL_isLink_84 (by decide) (fun c_84 => ?_) (fun c_84 => absurd (by decide) c_84)
      refine lv_iconst (v := 1) hx hb dL_isLink_112 (by decide) ?_
      refine lv_goto (tgt := 117) hx hb dL_isLink_113 (by decide) ?_
      exact lz_zret (post := (fun r σ1 θ1 => r = 1 ∧ lz_I K B σ1 θ1)) CF hr hlocks hw (by show 0 + 4 ≤ 10; omega) (by show 0 + 24 ≤ 60; omega) dL_isLink_117 ⟨rfl, hI0⟩

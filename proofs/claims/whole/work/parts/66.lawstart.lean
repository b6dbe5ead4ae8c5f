/-! the law's start: the classes, what throwing needs, the two objects, the cell for an answer -/
set_option maxHeartbeats 4000000 in
set_option maxRecDepth 100000 in
theorem rw_known {s : State} {A : Array Value} (hts0 : ∀ w ∈ lw_tbl, w.before A s = true) : ∃ k : rm_K, va_K k.1 vwCl (rm_ty k) s ∧ va_AOA .int s := by
  have hts : ∀ w ∈ wsL_law, w.before A s = true := fun w h => hts0 w (wsL_law_in w h)
  obtain ⟨c0, i0, hK0⟩ := u_known (C := RX0) (T := TX0) (N := 20) (n := 20) hts (by decide +kernel) (hts (.instantiable RX0 20) (by decide +kernel))
  obtain ⟨c1, i1, hK1⟩ := u_known (C := RX1) (T := TX1) (N := 21) (n := 21) hts (by decide +kernel) (hts (.instantiable RX1 21) (by decide +kernel))
  obtain ⟨cI, kI, pI, I1, I2, I3⟩ := Cond.arrayClass_spec (hts (.arrayClass .int) (by decide +kernel))
  obtain ⟨cZ, kZ, pZ, Z1, Z2, Z3⟩ := Cond.arrayClass_spec (hts (.arrayClass .boolean) (by decide +kernel))
  obtain ⟨cL, kL, pL, L1, L2, L3⟩ := Cond.arrayClass_spec (hts (.arrayClass .long) (by decide +kernel))
  have hov := hts0 (.arrayOver (.array .int)) (by decide +kernel)
  obtain ⟨pG, cG, kG, G1, -, G3, G4, G5⟩ := Jvm.Stand.arrayOver_specB hov
  refine ⟨((fun c => if c = 0 then c0 else c1, fun c => if c = 0 then i0 else i1), (cI, cZ, cG, cL)), ⟨fun c q hq => ?_, fun j q hq => ?_⟩, va_AOA.of hov⟩
  · match c, hq with
    | 0, hq => cases hq; exact hK0
    | 1, hq => cases hq; exact hK1
    | c + 2, hq => simp [vwCl] at hq
  · match j, hq with
    | 0, hq => cases hq; exact ⟨fun N z => ⟨(fun k h => by cases h), kI, I2, pI, I3⟩, I1⟩
    | 1, hq => cases hq; exact ⟨fun N z => ⟨(fun k h => by cases h), kZ, Z2, pZ, Z3⟩, Z1⟩
    | 2, hq => cases hq; exact ⟨fun N z => ⟨(fun k h => by cases h), kG, G3, pG, G4⟩, G5⟩
    | 3, hq => cases hq; exact ⟨fun N z => ⟨(fun k h => by cases h), kL, L2, pL, L3⟩, L1⟩
    | j + 4, hq => simp [rm_ty] at hq
set_option maxHeartbeats 4000000 in
set_option maxRecDepth 100000 in
theorem rw_th {s : State} {A : Array Value} {c0 : ClassId} (hc : s.vm.findClass RX0 = some c0) (hts0 : ∀ w ∈ lw_tbl, w.before A s = true) (hgv : (Jvm.Cond.and given_1 narrow_1).before A s = true) : rm_Th (rw_A s) s ∧ rl_N s := by
  have hs := flat_of_before _ hgv
  have hstr : ∀ (i : Nat) (tx : String), Cond.stringRef RX0 i tx ∈ lw_tbl → ∃ q, vk_R RX0 i tx q s := fun i tx h => by
    obtain ⟨k9, cf, i9, a9, -, -, -, -, -, hev⟩ := Cond.stringRef_spec hc (hts0 _ h)
    exact ⟨a9, vk_R.of (hts0 _ h) hev⟩
  have hNA : ∀ a : Nat, a < s.heap.size → ¬ rw_A s a := fun a h q => absurd (Nat.lt_of_lt_of_le h q) (Nat.lt_irrefl _)
  refine ⟨⟨vx_Zqof (hts0 (.laysStatic Bundle.tN "UNASSIGNED_STACK" Bundle.steD) (by decide +kernel)) (hts0 (.initialized Bundle.tN) (by decide +kernel)) (hs (.isRef (.static Bundle.tN "UNASSIGNED_STACK" Bundle.steD)) (by decide +kernel)) hNA,
    vx_Zqof (hts0 (.laysStatic Bundle.tN "SUPPRESSED_SENTINEL" Bundle.listD) (by decide +kernel)) (hts0 (.initialized Bundle.tN) (by decide +kernel)) (hs (.isRef (.static Bundle.tN "SUPPRESSED_SENTINEL" Bundle.listD)) (by decide +kernel)) hNA,
    ⟨hstr _ _ (by decide +kernel), hstr _ _ (by decide +kernel), hstr _ _ (by decide +kernel), hstr _ _ (by decide +kernel), hstr _ _ (by decide +kernel), hstr _ _ (by decide +kernel), hstr _ _ (by decide +kernel)⟩,
    ⟨va_Nw.of rfl (hts0 _ (by decide +kernel)), va_Nw.of rfl (hts0 _ (by decide +kernel)), va_Nw.of rfl (hts0 _ (by decide +kernel)), va_Nw.of rfl (hts0 _ (by decide +kernel)), va_Nw.of rfl (hts0 _ (by decide +kernel)), va_Nw.of rfl (hts0 _ (by decide +kernel))⟩⟩,
    va_Nc.of (hs _ (by decide +kernel)), va_Nc.of (hs _ (by decide +kernel))⟩
set_option maxHeartbeats 4000000 in
set_option maxRecDepth 100000 in
theorem rw_start {p : Program} {e : Env} {s : State} {m : MethodId} {below : List Frame} {meth : Method} {c : Code} (Rl : rm_St → rm_St → Prop) (G : rw_good Rl) (h0 : Rl rm_ini rn_ini) (l : Launch) (hflags : l.flags = flags0) {b L : Nat} {xs : Nat → Int32} (hL : L ≤ 2560) (C0 : lw_At p s m meth c b L xs) : W p l e room_1 s m #[Value.ref b] below meth c s.heap [] 0 0 (lw_Z below #[Value.ref b] s) (entryFrame m ([Value.ref b] : List Value).toArray 7) := by
  obtain ⟨hx, hb, hr, hml, hown, hts0, hX, hbl, hlocks, hgv⟩ := C0
  have hts : ∀ w ∈ wsL_law, w.before #[Value.ref b] s = true := fun w h => hts0 w (wsL_law_in w h)
  have hfl : l.stackTraces = false := by
    unfold Jvm.Launch.stackTraces
    rw [hflags]
    decide +kernel
  have hA : ∀ q : Nat, s.heap.size ≤ q → rw_A s q := fun _ h => h
  obtain ⟨k, hK, hao⟩ := rw_known hts0
  have hK0 : u_Kn s RX0 TX0 20 (k.1.1 0) (k.1.2 0) := hK.1 0 _ rfl
  obtain ⟨hTh, hN⟩ := rw_th hK0.2.1 hts0 hgv
  have CF : CallFix p m c cL_law 7 s #[Value.ref b] wsL_law RL := ⟨hx, hb, hml, hown, hts⟩
  have hS : va_S (rw_A s) s.heap s.heap [] := va_S.rf
  have hP : va_P k.1 vwCl [] s.heap := fun k q h => by simp at h
  have hD : va_D (rw_A s) [] := ⟨fun i j p q h => by simp at h, fun k q h => by simp at h⟩
  have hl := lv_entry ([.ref b]) (n := 7) (Nat.le_of_ble_eq_true rfl)
  rw [lg_entry_eq]
  generalize (lg_sl ([.ref b]) ++ List.replicate (7 - (lg_sl ([.ref b])).length) Slot.unset).toArray = ls at hl ⊢
  have hl : lv_has ls 7 [(0, .ref b)] := hl
  refine va_new (ci := 0) (fs := [.int 0, .int 0, .int 0, .int 0, .int 0, .int 0, .null, .null, .null, .null, .null, .null, .null, .null, .null, .null, .null, .null, .null, .null]) (C := RX0) (T := TX0) (N := 20) hx hb hts (by decide +kernel) tyX0 tyX0_ok hown (hts (.classLink RL 8 RX0) (by decide +kernel)) (hts (.instantiable RX0 20) (by decide +kernel)) (hts (.initialized RX0) (by decide +kernel)) hK hP hD hS hA rfl (by decide +kernel) (Nat.le_of_ble_eq_true rfl) (Nat.le_of_ble_eq_true rfl) dL_law_0 (fun q0 H hP hD hS => ?_)
  refine W.widen (k := 1) (n := 20) (by omega) (by omega) ?_
  refine lv_dup hx hb dL_law_3 rfl ?_
  have hsub0 : ∀ q, va_A [(q0, .inr (0, [.int 0, .int 0, .int 0, .int 0, .int 0, .int 0, .null, .null, .null, .null, .null, .null, .null, .null, .null, .null, .null, .null, .null, .null]))] H.size q → rw_A s q := va_free hD hS hA [0] rfl
  refine va_callv (va_runI (As := []) (rest := [.ref q0]) CF (kX0_init l k q0 H.size) (cwI 0 hts gL_law_X0_init rfl rfl rfl (hts (.initialized RX0) (by decide +kernel)) (hts (.methodLink RL 65 yX0_init) (by decide +kernel)) (hts (.instanceMethod yX0_init) (by decide +kernel)) rfl (by decide +kernel) ⟨Nat.le_of_ble_eq_true rfl, Nat.le_of_ble_eq_true rfl⟩) ⟨fun x U g mk q => by obtain ⟨w0, w1, w2, w3, w4⟩ := q; exact ⟨w0, w1, w2, va_K.moved (u := U) (U := U.calling g mk x) (Vm.Alike.refl U.vm) w3, va_AOA.moved (u := U) (U := U.calling g mk x) (Vm.Alike.refl U.vm) w4⟩, fun U hU hW => ⟨rfl, by rw [hU], by rw [hU]; exact hP, va_K.moved hW.alike hK, va_AOA.moved hW.alike hao⟩⟩ rfl rfl hl.1 rfl (lv_room (Nat.le_of_ble_eq_true rfl)) dL_law_4 ⟨Nat.le_of_ble_eq_true rfl, Nat.le_of_ble_eq_true rfl⟩) hS (fun q _ h => hsub0 q h) hsub0 (fun a t H2 locs ht hvm ha hB hz1 hk1 hS => ?_)
  obtain ⟨hPa, hDa⟩ := hB
  have hPa : va_P k.1 vwCl (rm_W k a rm_ini) H2 := by rw [← ht]; exact hPa.1
  subst ha
  have hDa : va_D (rw_A s) (rm_W k a rm_ini) := rm_D (rm_D_inj hDa) (fun j hj => hsub0 _ (rm_D_A hDa j hj))
  refine lv_astore_n (lv' := [(1, .ref (a 0)), (0, .ref b)]) hx hb dL_law_7 rfl hl (by decide) rfl (fun ls hl => ?_)
  refine va_new (ci := 1) (fs := [.int 0, .int 0, .int 0, .int 0, .int 0, .null, .null, .null, .null, .null, .null, .null, .null, .null, .null, .null, .null, .null, .null, .int 0, .int 0]) (C := RX1) (T := TX1) (N := 21) hx hb hts (by decide +kernel) tyX1 tyX1_ok hown (hts (.classLink RL 66 RX1) (by decide +kernel)) (hts (.instantiable RX1 21) (by decide +kernel)) (hts (.initialized RX1) (by decide +kernel)) hK hPa hDa hS hA rfl (by decide +kernel) (Nat.le_of_ble_eq_true rfl) (Nat.le_of_ble_eq_true rfl) dL_law_8 (fun q1 H3 hP3 hD3 hS => ?_)
  refine lv_dup hx hb dL_law_11 rfl ?_
  have hat : (rm_W k a rm_ini ++ [(q1, Sum.inr (1, [Value.int 0, .int 0, .int 0, .int 0, .int 0, .null, .null, .null, .null, .null, .null, .null, .null, .null, .null, .null, .null, .null, .null, .int 0, .int 0]))] : va_W)[55]? = some (q1, .inr (1, [.int 0, .int 0, .int 0, .int 0, .int 0, .null, .null, .null, .null, .null, .null, .null, .null, .null, .null, .null, .null, .null, .null, .int 0, .int 0])) := by
    rw [List.getElem?_append_right (by rw [rm_Wlen]; exact Nat.le_refl _), rm_Wlen]
    rfl
  have hati : ∀ i, i < 55 → (rm_W k a rm_ini ++ [(q1, Sum.inr (1, [Value.int 0, .int 0, .int 0, .int 0, .int 0, .null, .null, .null, .null, .null, .null, .null, .null, .null, .null, .null, .null, .null, .null, .int 0, .int 0]))] : va_W)[i]? = some (a i, rm_E k a rm_ini i) := fun i hi => by
    rw [List.getElem?_append_left (by rw [rm_Wlen]; exact hi)]
    exact rm_get hi
  have hsub1 : ∀ q, va_A [(q1, .inr (1, [.int 0, .int 0, .int 0, .int 0, .int 0, .null, .null, .null, .null, .null, .null, .null, .null, .null, .null, .null, .null, .null, .null, .int 0, .int 0]))] H3.size q → rw_A s q := va_free hD3 hS hA [55] (by rw [List.map_cons, hat]; rfl)
  have hne : ∀ i, i < 55 → a i ≠ q1 := fun i hi q => by
    have h := hD3.1 i 55 _ _ (hati i hi) hat q
    omega
  have hlt : ∀ i, i < 55 → a i < H3.size := fun i hi => (hP3 i _ (hati i hi)).lt
  refine va_callv (va_runI (As := []) (rest := [.ref q1]) CF (kX1_init l k q1 H3.size) (cwI 0 hts gL_law_X1_init rfl rfl rfl (hts (.initialized RX1) (by decide +kernel)) (hts (.methodLink RL 68 yX1_init) (by decide +kernel)) (hts (.instanceMethod yX1_init) (by decide +kernel)) rfl (by decide +kernel) ⟨Nat.le_of_ble_eq_true rfl, Nat.le_of_ble_eq_true rfl⟩) ⟨fun x U g mk q => by obtain ⟨w0, w1, w2, w3⟩ := q; exact ⟨w0, w1, w2, va_K.moved (u := U) (U := U.calling g mk x) (Vm.Alike.refl U.vm) w3⟩, fun U hU hW => ⟨rfl, by rw [hU], by rw [hU]; exact hP3.sub [55] (by simp only [List.filterMap_cons, hat]; rfl), va_K.moved hW.alike hK⟩⟩ rfl rfl hl.1 rfl (lv_room (Nat.le_of_ble_eq_true rfl)) dL_law_12 ⟨Nat.le_of_ble_eq_true rfl, Nat.le_of_ble_eq_true rfl⟩) hS (fun q _ h => hsub1 q h) hsub1 (fun b1 t H4 locs ht hvm hb1 hB hz1 hk4 hS => ?_)
  obtain ⟨hPb, hDb⟩ := hB
  have hPb : va_P k.1 vwCl (rn_W k b1 rn_ini) H4 := by rw [← ht]; exact hPb.1
  have hab : ∀ i j, i < 55 → j < 15 → a i ≠ b1 j := fun i j hi hj q => by
    have h := rn_D_A hDb j hj
    rw [← q] at h
    rcases h with ⟨z, ez, hz⟩ | h
    · have hz0 : z = 0 := by
        have := (List.getElem?_eq_some_iff.mp hz).1
        simp at this
        omega
      subst hz0
      exact hne i hi (congrArg Prod.fst (Option.some.inj hz)).symm
    · exact absurd (hlt i hi) (Nat.not_lt.mpr h)
  have hPa4 : va_P k.1 vwCl (rm_W k a rm_ini) H4 := by
    refine va_P.kept (H := H3) (fun i x hx => hP3 i x ?_) (fun i x hx => ?_)
    · obtain ⟨hi, rfl⟩ := rm_get_of hx
      exact hati i hi
    · obtain ⟨hi, rfl⟩ := rm_get_of hx
      refine hk4 _ (hlt i hi) (fun q => ?_)
      rcases q with ⟨z, ez, hz⟩ | q
      · have hz0 : z = 0 := by
          have := (List.getElem?_eq_some_iff.mp hz).1
          simp at this
          omega
        subst hz0
        exact hne i hi (congrArg Prod.fst (Option.some.inj hz)).symm
      · exact absurd (hlt i hi) (Nat.not_lt.mpr q)
  have hDb4 : va_D (rw_A s) (rn_W k b1 rn_ini) := rn_D (rn_D_inj hDb) (fun j hj => hsub1 _ (rn_D_A hDb j hj))
  subst hb1
  refine lv_astore_n (lv' := [(2, .ref (b1 0)), (1, .ref (a 0)), (0, .ref b)]) hx hb dL_law_15 rfl hl (by decide) rfl (fun ls hl => ?_)
  refine lv_iconst (v := 1) hx hb dL_law_16 (by decide) ?_
  have hDab : va_D (rw_A s) (rm_W k a rm_ini ++ rn_W k b1 rn_ini) := hDa.app hDb4 (fun i j x y hi hj hxy => by
    obtain ⟨hi5, rfl⟩ := rm_get_of hi
    obtain ⟨hj5, rfl⟩ := rn_get_of hj
    exact hab i j hi5 hj5 hxy)
  refine va_newa (atype := .long) (ty := .long) (a0 := (1, .inr (.inl (fun _ => 0)))) (N' := 1) hx hb (hts (.arrayClass .long) (by decide +kernel)) rfl hK (hPa4.app hPb) hDab hS hA (fun cA => rfl) (by decide) rfl (Nat.le_of_ble_eq_true rfl) (Nat.le_of_ble_eq_true rfl) (Nat.le_of_ble_eq_true rfl) dL_law_17 (fun o cA H5 hK5 hP5 hD5 hS => ?_)
  have e1 : s.vm.findClass ("[" ++ FieldType.long.toString) = some cA := (hK5.2 (rm_ty k).length (cA, .long) (by simp)).2
  have e2 : s.vm.findClass ("[" ++ FieldType.long.toString) = some k.2.2.2.2 := (hK.2 3 _ rfl).2
  obtain rfl : k.2.2.2.2 = cA := Option.some.inj (e2.symm.trans e1)
  refine lv_astore_n (lv' := [(3, .ref o), (2, .ref (b1 0)), (1, .ref (a 0)), (0, .ref b)]) hx hb dL_law_19 rfl hl (by decide) rfl (fun ls hl => ?_)
  refine lv_iconst (v := 0) hx hb dL_law_20 (by decide) ?_
  refine lv_istore (lv' := [(4, .int 0), (3, .ref o), (2, .ref (b1 0)), (1, .ref (a 0)), (0, .ref b)]) hx hb dL_law_21 hl (by decide) rfl (fun ls hl => ?_)
  have hnW : (rn_W k b1 rn_ini).length = 15 := by simp [rn_W]
  have gA : ∀ i, i < 55 → ((rm_W k a rm_ini ++ rn_W k b1 rn_ini) ++ [(o, .inl (k.2.2.2.2, 1, .inr (.inl (fun _ => 0))))] : va_W)[i]? = some (a i, rm_E k a rm_ini i) := fun i hi => by
    rw [List.getElem?_append_left (by rw [List.length_append, rm_Wlen, hnW]; omega), List.getElem?_append_left (by rw [rm_Wlen]; exact hi)]
    exact rm_get hi
  have gB : ∀ j, j < 15 → ((rm_W k a rm_ini ++ rn_W k b1 rn_ini) ++ [(o, .inl (k.2.2.2.2, 1, .inr (.inl (fun _ => 0))))] : va_W)[55 + j]? = some (b1 j, rn_E k b1 rn_ini j) := fun j hj => by
    rw [List.getElem?_append_left (by rw [List.length_append, rm_Wlen, hnW]; omega), List.getElem?_append_right (by rw [rm_Wlen]; omega), rm_Wlen, Nat.add_sub_cancel_left]
    exact rn_get hj
  have gO : ((rm_W k a rm_ini ++ rn_W k b1 rn_ini) ++ [(o, .inl (k.2.2.2.2, 1, .inr (.inl (fun _ => 0))))] : va_W)[70]? = some (o, .inl (k.2.2.2.2, 1, .inr (.inl (fun _ => 0)))) := by
    rw [List.getElem?_append_right (by rw [List.length_append, rm_Wlen, hnW]; exact Nat.le_refl _), List.length_append, rm_Wlen, hnW]
    rfl
  have E : rw_E k a b1 o s := ⟨hK, hTh, hN, ⟨⟨rm_D_inj hDa, rn_D_inj hDb4⟩, ⟨fun j hj => rm_D_A hDa j hj, fun j hj => rn_D_A hDb4 j hj, hD5.2 70 _ gO⟩,
    fun i hi q => by have h := hD5.1 i 70 _ _ (gA i hi) gO q; omega, fun j hj q => by have h := hD5.1 (55 + j) 70 _ _ (gB j hj) gO q; omega, hab⟩⟩
  refine rw_loop Rl G hfl hr hlocks CF E hX hbl hL L 0 (Nat.sub_zero L) (Nat.zero_le _) rm_ini rn_ini (fun _ => 0) H5 _ ls _ _ h0 ⟨fun i x hx => ?_, fun i x hx => ?_, fun i x hx => ?_, hS⟩ (lv_sub hl [4, 3, 2, 1, 0] rfl) (by omega) (by omega)
  · obtain ⟨hi, rfl⟩ := rm_get_of hx
    exact hP5 i _ (gA i hi)
  · have h1 := (List.getElem?_eq_some_iff.mp hx).1
    have h0 : i = 0 := by simp at h1; omega
    subst h0
    cases hx
    exact hP5 70 _ gO
  · obtain ⟨hi, rfl⟩ := rn_get_of hx
    exact hP5 (55 + i) _ (gB i hi)

def rx_adr (l : List Nat) : Nat → Nat := fun j => l.getD j 0
theorem rx_sub {D : va_G} {cl : List vw_C} {H : Heap} {A : Nat → Prop} {src : va_W} {n : Nat} (a : Nat → Nat) (E : Nat → va_E) (idx : Nat → Nat) (hidx : ∀ i, i < n → ∀ j, j < n → idx i = idx j → i = j) (h : ∀ j, j < n → src[idx j]? = some (a j, E j)) (hP : va_P D cl src H) (hD : va_D A src) :
    va_P D cl ((List.range n).map (fun q => (a q, E q))) H ∧ va_D A ((List.range n).map (fun q => (a q, E q))) := by
  have key : ∀ (j : Nat) (x : Nat × va_E), ((List.range n).map (fun q => (a q, E q)))[j]? = some x → j < n ∧ x = (a j, E j) := by
    intro j x hx
    have hj : j < n := by
      have := (List.getElem?_eq_some_iff.mp hx).1
      simpa using this
    rw [List.getElem?_map, List.getElem?_range hj] at hx
    exact ⟨hj, (Option.some.inj hx).symm⟩
  refine ⟨fun j x hx => ?_, fun i j x y hi hj hxy => ?_, fun j x hx => ?_⟩
  · obtain ⟨hj, rfl⟩ := key j x hx
    exact hP _ _ (h j hj)
  · obtain ⟨h1, rfl⟩ := key i x hi
    obtain ⟨h2, rfl⟩ := key j y hj
    exact hidx i h1 j h2 (hD.1 _ _ _ _ (h i h1) (h j h2) hxy)
  · obtain ⟨hj, rfl⟩ := key j x hx
    exact hD.2 _ _ (h j hj)
def rm_s0 : rm_St := fun a b => if a = 0 then (if b = 1 then 10000 else if b = 2 then 1 else if b = 3 then 4 else 0) else 0
set_option maxHeartbeats 4000000 in
set_option maxRecDepth 100000 in
theorem rm_asm (k : rm_K) (A : Nat → Prop) (H : Heap) (h0 q1 q2 q3 q4 q5 q6 q7 q8 q9 q10 q11 q12 q13 q14 : Nat) (r1 r2 r3 r4 : Nat → Nat) (hP : va_P k.1 vwCl [(h0, .inr (0, [.int 0, .int 10000, .int 1, .int 4, .int 0, .int 0, .ref q1, .ref q2, .ref q3, .ref q4, .ref q5, .ref q6, .ref q7, .ref q8, .ref q9, .ref q10, .ref q11, .ref q12, .ref q13, .ref q14])), (q1, .inl (k.2.2.2, 10, .inr (.inr (.inr (.inr (fun i => if i < 10 then some (r1 i) else none)))))), (r1 0, rm_R0 k), (r1 1, rm_R0 k), (r1 2, rm_R0 k), (r1 3, rm_R0 k), (r1 4, rm_R0 k), (r1 5, rm_R0 k), (r1 6, rm_R0 k), (r1 7, rm_R0 k), (r1 8, rm_R0 k), (r1 9, rm_R0 k), (q2, .inl (k.2.2.2, 10, .inr (.inr (.inr (.inr (fun i => if i < 10 then some (r2 i) else none)))))), (r2 0, rm_R0 k), (r2 1, rm_R0 k), (r2 2, rm_R0 k), (r2 3, rm_R0 k), (r2 4, rm_R0 k), (r2 5, rm_R0 k), (r2 6, rm_R0 k), (r2 7, rm_R0 k), (r2 8, rm_R0 k), (r2 9, rm_R0 k), (q3, .inl (k.2.2.2, 10, .inr (.inr (.inr (.inr (fun i => if i < 10 then some (r3 i) else none)))))), (r3 0, rm_R0 k), (r3 1, rm_R0 k), (r3 2, rm_R0 k), (r3 3, rm_R0 k), (r3 4, rm_R0 k), (r3 5, rm_R0 k), (r3 6, rm_R0 k), (r3 7, rm_R0 k), (r3 8, rm_R0 k), (r3 9, rm_R0 k), (q4, .inl (k.2.2.2, 10, .inr (.inr (.inr (.inr (fun i => if i < 10 then some (r4 i) else none)))))), (r4 0, rm_R0 k), (r4 1, rm_R0 k), (r4 2, rm_R0 k), (r4 3, rm_R0 k), (r4 4, rm_R0 k), (r4 5, rm_R0 k), (r4 6, rm_R0 k), (r4 7, rm_R0 k), (r4 8, rm_R0 k), (r4 9, rm_R0 k), (q5, .inl (k.2.2.1, 10, .inl (fun _ => 0))), (q6, .inl (k.2.1, 10, .inl (fun _ => 0))), (q7, .inl (k.2.1, 10, .inl (fun _ => 0))), (q8, .inl (k.2.1, 10, .inl (fun _ => 0))), (q9, .inl (k.2.1, 10, .inl (fun _ => 0))), (q10, .inl (k.2.1, 10, .inl (fun _ => 0))), (q11, .inl (k.2.1, 10, .inl (fun _ => 0))), (q12, .inl (k.2.1, 10, .inl (fun _ => 0))), (q13, .inl (k.2.1, 10, .inl (fun _ => 0))), (q14, .inl (k.2.1, 10, .inl (fun _ => 0)))] H) (hD : va_D A [(h0, .inr (0, [.int 0, .int 10000, .int 1, .int 4, .int 0, .int 0, .ref q1, .ref q2, .ref q3, .ref q4, .ref q5, .ref q6, .ref q7, .ref q8, .ref q9, .ref q10, .ref q11, .ref q12, .ref q13, .ref q14])), (q1, .inl (k.2.2.2, 10, .inr (.inr (.inr (.inr (fun i => if i < 10 then some (r1 i) else none)))))), (r1 0, rm_R0 k), (r1 1, rm_R0 k), (r1 2, rm_R0 k), (r1 3, rm_R0 k), (r1 4, rm_R0 k), (r1 5, rm_R0 k), (r1 6, rm_R0 k), (r1 7, rm_R0 k), (r1 8, rm_R0 k), (r1 9, rm_R0 k), (q2, .inl (k.2.2.2, 10, .inr (.inr (.inr (.inr (fun i => if i < 10 then some (r2 i) else none)))))), (r2 0, rm_R0 k), (r2 1, rm_R0 k), (r2 2, rm_R0 k), (r2 3, rm_R0 k), (r2 4, rm_R0 k), (r2 5, rm_R0 k), (r2 6, rm_R0 k), (r2 7, rm_R0 k), (r2 8, rm_R0 k), (r2 9, rm_R0 k), (q3, .inl (k.2.2.2, 10, .inr (.inr (.inr (.inr (fun i => if i < 10 then some (r3 i) else none)))))), (r3 0, rm_R0 k), (r3 1, rm_R0 k), (r3 2, rm_R0 k), (r3 3, rm_R0 k), (r3 4, rm_R0 k), (r3 5, rm_R0 k), (r3 6, rm_R0 k), (r3 7, rm_R0 k), (r3 8, rm_R0 k), (r3 9, rm_R0 k), (q4, .inl (k.2.2.2, 10, .inr (.inr (.inr (.inr (fun i => if i < 10 then some (r4 i) else none)))))), (r4 0, rm_R0 k), (r4 1, rm_R0 k), (r4 2, rm_R0 k), (r4 3, rm_R0 k), (r4 4, rm_R0 k), (r4 5, rm_R0 k), (r4 6, rm_R0 k), (r4 7, rm_R0 k), (r4 8, rm_R0 k), (r4 9, rm_R0 k), (q5, .inl (k.2.2.1, 10, .inl (fun _ => 0))), (q6, .inl (k.2.1, 10, .inl (fun _ => 0))), (q7, .inl (k.2.1, 10, .inl (fun _ => 0))), (q8, .inl (k.2.1, 10, .inl (fun _ => 0))), (q9, .inl (k.2.1, 10, .inl (fun _ => 0))), (q10, .inl (k.2.1, 10, .inl (fun _ => 0))), (q11, .inl (k.2.1, 10, .inl (fun _ => 0))), (q12, .inl (k.2.1, 10, .inl (fun _ => 0))), (q13, .inl (k.2.1, 10, .inl (fun _ => 0))), (q14, .inl (k.2.1, 10, .inl (fun _ => 0)))]) : ∃ a : Nat → Nat, a 0 = h0 ∧ va_P k.1 vwCl (rm_W k a rm_s0) H ∧ va_D A (rm_W k a rm_s0) := by
  have hg1 : (fun i => if i < 10 then some (r1 i) else none) = rm_G (rx_adr [h0, q1, q2, q3, q4, q5, q6, q7, q8, q9, q10, q11, q12, q13, q14, r1 0, r1 1, r1 2, r1 3, r1 4, r1 5, r1 6, r1 7, r1 8, r1 9, r2 0, r2 1, r2 2, r2 3, r2 4, r2 5, r2 6, r2 7, r2 8, r2 9, r3 0, r3 1, r3 2, r3 3, r3 4, r3 5, r3 6, r3 7, r3 8, r3 9, r4 0, r4 1, r4 2, r4 3, r4 4, r4 5, r4 6, r4 7, r4 8, r4 9]) 1 := by
    funext i
    unfold rm_G
    by_cases h : i < 10
    · rw [if_pos h, if_pos h]
      rcases (show i = 0 ∨ i = 1 ∨ i = 2 ∨ i = 3 ∨ i = 4 ∨ i = 5 ∨ i = 6 ∨ i = 7 ∨ i = 8 ∨ i = 9 by omega) with rfl | rfl | rfl | rfl | rfl | rfl | rfl | rfl | rfl | rfl <;> rfl
    · rw [if_neg h, if_neg h]
  have hg2 : (fun i => if i < 10 then some (r2 i) else none) = rm_G (rx_adr [h0, q1, q2, q3, q4, q5, q6, q7, q8, q9, q10, q11, q12, q13, q14, r1 0, r1 1, r1 2, r1 3, r1 4, r1 5, r1 6, r1 7, r1 8, r1 9, r2 0, r2 1, r2 2, r2 3, r2 4, r2 5, r2 6, r2 7, r2 8, r2 9, r3 0, r3 1, r3 2, r3 3, r3 4, r3 5, r3 6, r3 7, r3 8, r3 9, r4 0, r4 1, r4 2, r4 3, r4 4, r4 5, r4 6, r4 7, r4 8, r4 9]) 2 := by
    funext i
    unfold rm_G
    by_cases h : i < 10
    · rw [if_pos h, if_pos h]
      rcases (show i = 0 ∨ i = 1 ∨ i = 2 ∨ i = 3 ∨ i = 4 ∨ i = 5 ∨ i = 6 ∨ i = 7 ∨ i = 8 ∨ i = 9 by omega) with rfl | rfl | rfl | rfl | rfl | rfl | rfl | rfl | rfl | rfl <;> rfl
    · rw [if_neg h, if_neg h]
  have hg3 : (fun i => if i < 10 then some (r3 i) else none) = rm_G (rx_adr [h0, q1, q2, q3, q4, q5, q6, q7, q8, q9, q10, q11, q12, q13, q14, r1 0, r1 1, r1 2, r1 3, r1 4, r1 5, r1 6, r1 7, r1 8, r1 9, r2 0, r2 1, r2 2, r2 3, r2 4, r2 5, r2 6, r2 7, r2 8, r2 9, r3 0, r3 1, r3 2, r3 3, r3 4, r3 5, r3 6, r3 7, r3 8, r3 9, r4 0, r4 1, r4 2, r4 3, r4 4, r4 5, r4 6, r4 7, r4 8, r4 9]) 3 := by
    funext i
    unfold rm_G
    by_cases h : i < 10
    · rw [if_pos h, if_pos h]
      rcases (show i = 0 ∨ i = 1 ∨ i = 2 ∨ i = 3 ∨ i = 4 ∨ i = 5 ∨ i = 6 ∨ i = 7 ∨ i = 8 ∨ i = 9 by omega) with rfl | rfl | rfl | rfl | rfl | rfl | rfl | rfl | rfl | rfl <;> rfl
    · rw [if_neg h, if_neg h]
  have hg4 : (fun i => if i < 10 then some (r4 i) else none) = rm_G (rx_adr [h0, q1, q2, q3, q4, q5, q6, q7, q8, q9, q10, q11, q12, q13, q14, r1 0, r1 1, r1 2, r1 3, r1 4, r1 5, r1 6, r1 7, r1 8, r1 9, r2 0, r2 1, r2 2, r2 3, r2 4, r2 5, r2 6, r2 7, r2 8, r2 9, r3 0, r3 1, r3 2, r3 3, r3 4, r3 5, r3 6, r3 7, r3 8, r3 9, r4 0, r4 1, r4 2, r4 3, r4 4, r4 5, r4 6, r4 7, r4 8, r4 9]) 4 := by
    funext i
    unfold rm_G
    by_cases h : i < 10
    · rw [if_pos h, if_pos h]
      rcases (show i = 0 ∨ i = 1 ∨ i = 2 ∨ i = 3 ∨ i = 4 ∨ i = 5 ∨ i = 6 ∨ i = 7 ∨ i = 8 ∨ i = 9 by omega) with rfl | rfl | rfl | rfl | rfl | rfl | rfl | rfl | rfl | rfl <;> rfl
    · rw [if_neg h, if_neg h]
  rw [hg1, hg2, hg3, hg4] at hP hD
  exact ⟨(rx_adr [h0, q1, q2, q3, q4, q5, q6, q7, q8, q9, q10, q11, q12, q13, q14, r1 0, r1 1, r1 2, r1 3, r1 4, r1 5, r1 6, r1 7, r1 8, r1 9, r2 0, r2 1, r2 2, r2 3, r2 4, r2 5, r2 6, r2 7, r2 8, r2 9, r3 0, r3 1, r3 2, r3 3, r3 4, r3 5, r3 6, r3 7, r3 8, r3 9, r4 0, r4 1, r4 2, r4 3, r4 4, r4 5, r4 6, r4 7, r4 8, r4 9]), rfl, rx_sub (n := 55) (rx_adr [h0, q1, q2, q3, q4, q5, q6, q7, q8, q9, q10, q11, q12, q13, q14, r1 0, r1 1, r1 2, r1 3, r1 4, r1 5, r1 6, r1 7, r1 8, r1 9, r2 0, r2 1, r2 2, r2 3, r2 4, r2 5, r2 6, r2 7, r2 8, r2 9, r3 0, r3 1, r3 2, r3 3, r3 4, r3 5, r3 6, r3 7, r3 8, r3 9, r4 0, r4 1, r4 2, r4 3, r4 4, r4 5, r4 6, r4 7, r4 8, r4 9]) (rm_E k (rx_adr [h0, q1, q2, q3, q4, q5, q6, q7, q8, q9, q10, q11, q12, q13, q14, r1 0, r1 1, r1 2, r1 3, r1 4, r1 5, r1 6, r1 7, r1 8, r1 9, r2 0, r2 1, r2 2, r2 3, r2 4, r2 5, r2 6, r2 7, r2 8, r2 9, r3 0, r3 1, r3 2, r3 3, r3 4, r3 5, r3 6, r3 7, r3 8, r3 9, r4 0, r4 1, r4 2, r4 3, r4 4, r4 5, r4 6, r4 7, r4 8, r4 9]) rm_s0) (fun j => ([0, 1, 12, 23, 34, 45, 46, 47, 48, 49, 50, 51, 52, 53, 54, 2, 3, 4, 5, 6, 7, 8, 9, 10, 11, 13, 14, 15, 16, 17, 18, 19, 20, 21, 22, 24, 25, 26, 27, 28, 29, 30, 31, 32, 33, 35, 36, 37, 38, 39, 40, 41, 42, 43, 44] : List Nat).getD j 0) (by decide +kernel) (lt_s (lt_s (lt_s (lt_s (lt_s (lt_s (lt_s (lt_s (lt_s (lt_s (lt_s (lt_s (lt_s (lt_s (lt_s (lt_s (lt_s (lt_s (lt_s (lt_s (lt_s (lt_s (lt_s (lt_s (lt_s (lt_s (lt_s (lt_s (lt_s (lt_s (lt_s (lt_s (lt_s (lt_s (lt_s (lt_s (lt_s (lt_s (lt_s (lt_s (lt_s (lt_s (lt_s (lt_s (lt_s (lt_s (lt_s (lt_s (lt_s (lt_s (lt_s (lt_s (lt_s (lt_s (lt_s lt_0 rfl) rfl) rfl) rfl) rfl) rfl) rfl) rfl) rfl) rfl) rfl) rfl) rfl) rfl) rfl) rfl) rfl) rfl) rfl) rfl) rfl) rfl) rfl) rfl) rfl) rfl) rfl) rfl) rfl) rfl) rfl) rfl) rfl) rfl) rfl) rfl) rfl) rfl) rfl) rfl) rfl) rfl) rfl) rfl) rfl) rfl) rfl) rfl) rfl) rfl) rfl) rfl) rfl) rfl) rfl) hP hD⟩
def rm_iniJ (i : Nat) : Nat → Nat → rm_St → rm_St
  | 0, _, σ => σ
  | r + 1, j, σ => rm_iniJ i r (j + 1) (rm_forget σ i j)
def rm_iniL : Nat → Nat → rm_St → rm_St
  | 0, _, σ => σ
  | r + 1, i, σ => rm_iniL r (i + 1) (rm_iniJ i 10 0 (rm_reset (rm_clear σ i) i))
set_option maxHeartbeats 4000000 in
set_option maxRecDepth 100000 in
theorem rm_initL {p : Program} {l : Launch} {e : Env} {s : State} {m : MethodId} {args : Array Value} {below : List Frame} {meth : Method} {c : Code} {H0 H : Heap} {locs : List Loc} {Q : State → Prop} {ls : Array Slot} {k : rm_K} {a : Nat → Nat} {A : Nat → Prop} {σ : rm_St} (C : rm_C p m c cX0_init 3 s args wsX0_init) (ha : rm_inj a) (hA : ∀ q, H0.size ≤ q → A q) (hw : rm_Wd k a A H0 s σ H locs) (hl : lv_has ls 3 [(0, .ref (a 0))]) (fin : ∀ (H : Heap) (locs : List Loc) (ls : Array Slot), rm_Wd k a A H0 s (rm_iniL 10 0 σ) H locs → W p l e (headSpec wsX0_init ({ frames := 2, cells := 54, slots := 540, locals := 60 })).room s m args below meth c H locs 54 540 Q (F0 m 208 ls [])) : W p l e (headSpec wsX0_init ({ frames := 2, cells := 54, slots := 540, locals := 60 })).room s m args below meth c H locs 54 540 Q (F0 m 164 ls []) := by
  have hx := C.1.1
  have hb := C.1.2.1
  have hts := C.1.2.2.2.2
  refine lv_iconst (v := 0) hx hb dX0_init_164 (by decide) ?_
  refine lv_istore_n (lv' := [(1, .int 0), (0, .ref (a 0))]) hx hb dX0_init_165 rfl hl (by decide) rfl (fun ls hl => ?_)
  have lp_166 : ∀ (r i : Nat), i + r = 10 → ∀ (τ166 : rm_St), rm_iniL r i τ166 = rm_iniL 10 0 σ → ∀ (H : Heap) (locs : List Loc), rm_Wd k a A H0 s τ166 H locs → ∀ (ls : Array Slot), lv_has ls 3 [(0, .ref (a 0)), (1, .int (nI i))] → W p l e (headSpec wsX0_init ({ frames := 2, cells := 54, slots := 540, locals := 60 })).room s m args below meth c H locs 54 540 Q (F0 m 166 ls []) := by
    intro r
    induction r with
    | zero =>
      intro i hi166 τ166 ht166 H locs hw ls hl
      obtain rfl : 10 = i := by omega
      have hz166 : τ166 = rm_iniL 10 0 σ := ht166
      refine lv_iload_n hx hb dX0_init_166 rfl (lv_at hl 1 rfl) ?_
      refine lv_bipush (v := 10) hx hb dX0_init_167 (by decide) ?_
      refine lv_icmp_ge (tgt := 208) hx hb dX0_init_169 (by decide) (fun c_169 => ?_) (fun c_169 => ?_)
      · skip
        rw [hz166] at hw
        exact fin _ _ _ hw
      · exact absurd (show (10 : Int32) ≤ nI 10 from nI_le (a := 10) (b := 10) (Nat.le_refl _) (by decide)) c_169
    | succ r ih166 =>
      intro i hi166 τ166 ht166 H locs hw ls hl
      have hlt166 : i < 10 := by omega
      refine lv_iload_n hx hb dX0_init_166 rfl (lv_at hl 1 rfl) ?_
      refine lv_bipush (v := 10) hx hb dX0_init_167 (by decide) ?_
      refine lv_icmp_ge (tgt := 208) hx hb dX0_init_169 (by decide) (fun c_169 => ?_) (fun c_169 => ?_)
      · exact absurd c_169 (nI_ge (a := i) (b := 10) hlt166 (by decide))
      · skip
        refine lv_aload_n hx hb dX0_init_172 rfl (lv_at hl 0 rfl) ?_
        refine lv_iload_n hx hb dX0_init_173 rfl (lv_at hl 1 rfl) ?_
        refine rm_callV C hw hA (As := [.int (nI i)]) (rest := []) (kX0_clearNode l k a ha τ166 i hlt166) (cwV 1 hts gX0_init_X0_clearNode rfl rfl rfl (by decide +kernel) ⟨Nat.le_of_ble_eq_true rfl, Nat.le_of_ble_eq_true rfl⟩) rfl hl.1 rfl (lv_room (Nat.le_of_ble_eq_true rfl)) dX0_init_174 ⟨Nat.le_of_ble_eq_true rfl, Nat.le_of_ble_eq_true rfl⟩ (fun H locs hw => ?_)
        refine lv_aload_n hx hb dX0_init_177 rfl (lv_at hl 0 rfl) ?_
        refine lv_iload_n hx hb dX0_init_178 rfl (lv_at hl 1 rfl) ?_
        refine rm_callV C hw hA (As := [.int (nI i)]) (rest := []) (kX0_resetTimer l k a ha (rm_clear τ166 i) i hlt166) (cwV 1 hts gX0_init_X0_resetTimer rfl rfl rfl (by decide +kernel) ⟨Nat.le_of_ble_eq_true rfl, Nat.le_of_ble_eq_true rfl⟩) rfl hl.1 rfl (lv_room (Nat.le_of_ble_eq_true rfl)) dX0_init_179 ⟨Nat.le_of_ble_eq_true rfl, Nat.le_of_ble_eq_true rfl⟩ (fun H locs hw => ?_)
        refine lv_iconst (v := 0) hx hb dX0_init_182 (by decide) ?_
        refine lv_istore_n (lv' := [(2, .int 0), (0, .ref (a 0)), (1, .int (nI i))]) hx hb dX0_init_183 rfl hl (by decide) rfl (fun ls hl => ?_)
        have lp_184 : ∀ (r j : Nat), j + r = 10 → ∀ (τ184 : rm_St), rm_iniJ i r j τ184 = rm_iniJ i 10 0 (rm_reset (rm_clear τ166 i) i) → ∀ (H : Heap) (locs : List Loc), rm_Wd k a A H0 s τ184 H locs → ∀ (ls : Array Slot), lv_has ls 3 [(0, .ref (a 0)), (1, .int (nI i)), (2, .int (nI j))] → W p l e (headSpec wsX0_init ({ frames := 2, cells := 54, slots := 540, locals := 60 })).room s m args below meth c H locs 54 540 Q (F0 m 184 ls []) := by
          intro r
          induction r with
          | zero =>
            intro j hi184 τ184 ht184 H locs hw ls hl
            obtain rfl : 10 = j := by omega
            have hz184 : τ184 = rm_iniJ i 10 0 (rm_reset (rm_clear τ166 i) i) := ht184
            refine lv_iload_n hx hb dX0_init_184 rfl (lv_at hl 2 rfl) ?_
            refine lv_bipush (v := 10) hx hb dX0_init_185 (by decide) ?_
            refine lv_icmp_ge (tgt := 202) hx hb dX0_init_187 (by decide) (fun c_187 => ?_) (fun c_187 => ?_)
            · skip
              refine lv_iinc (v := nI (i + 1)) (lv' := [(1, .int (nI (i + 1))), (0, .ref (a 0)), (2, .int (nI 10))]) hx hb dX0_init_202 hl (k := 1) rfl (rm_inc i) (by decide) rfl (fun ls hl => ?_)
              refine lv_goto (tgt := 166) hx hb dX0_init_205 (by decide) ?_
              exact ih166 (i + 1) (by omega) (τ184) (by refine Eq.trans ?_ ht166; first | with_reducible rfl | (simp only [rm_iniL, ↓reduceIte, Bool.false_eq_true]; done) | (simp only [rm_iniL, ↓reduceIte, Bool.false_eq_true]; rw [← hz184]) | (simp only [rm_iniL, ↓reduceIte, Bool.false_eq_true]; with_reducible rfl)) _ _ hw _ (lv_sub hl [1, 0] rfl)
            · exact absurd (show (10 : Int32) ≤ nI 10 from nI_le (a := 10) (b := 10) (Nat.le_refl _) (by decide)) c_187
          | succ r ih184 =>
            intro j hi184 τ184 ht184 H locs hw ls hl
            have hlt184 : j < 10 := by omega
            refine lv_iload_n hx hb dX0_init_184 rfl (lv_at hl 2 rfl) ?_
            refine lv_bipush (v := 10) hx hb dX0_init_185 (by decide) ?_
            refine lv_icmp_ge (tgt := 202) hx hb dX0_init_187 (by decide) (fun c_187 => ?_) (fun c_187 => ?_)
            · exact absurd c_187 (nI_ge (a := j) (b := 10) hlt184 (by decide))
            · skip
              refine lv_aload_n hx hb dX0_init_190 rfl (lv_at hl 0 rfl) ?_
              refine lv_iload_n hx hb dX0_init_191 rfl (lv_at hl 1 rfl) ?_
              refine lv_iload_n hx hb dX0_init_192 rfl (lv_at hl 2 rfl) ?_
              refine rm_callV C hw hA (As := [.int (nI i), .int (nI j)]) (rest := []) (kX0_forget l k a ha τ184 i j hlt166 hlt184) (cwV 2 hts gX0_init_X0_forget rfl rfl rfl (by decide +kernel) ⟨Nat.le_of_ble_eq_true rfl, Nat.le_of_ble_eq_true rfl⟩) rfl hl.1 rfl (lv_room (Nat.le_of_ble_eq_true rfl)) dX0_init_193 ⟨Nat.le_of_ble_eq_true rfl, Nat.le_of_ble_eq_true rfl⟩ (fun H locs hw => ?_)
              refine lv_iinc (v := nI (j + 1)) (lv' := [(2, .int (nI (j + 1))), (0, .ref (a 0)), (1, .int (nI i))]) hx hb dX0_init_196 hl (k := 2) rfl (rm_inc j) (by decide) rfl (fun ls hl => ?_)
              refine lv_goto (tgt := 184) hx hb dX0_init_199 (by decide) ?_
              exact ih184 (j + 1) (by omega) (rm_forget τ184 i j) (by refine Eq.trans ?_ ht184; first | with_reducible rfl | (simp only [rm_iniJ, ↓reduceIte, Bool.false_eq_true]; done) | (simp only [rm_iniJ, ↓reduceIte, Bool.false_eq_true]; with_reducible rfl)) _ _ hw _ (lv_sub hl [1, 2, 0] rfl)
        exact lp_184 10 0 (by omega) (rm_reset (rm_clear τ166 i) i) (by first | with_reducible rfl | (simp only [↓reduceIte, Bool.false_eq_true]; done) | (simp only [↓reduceIte, Bool.false_eq_true]; with_reducible rfl)) _ _ hw _ (lv_sub hl [1, 2, 0] rfl)
  exact lp_166 10 0 (by omega) (σ) (by first | with_reducible rfl | (simp only [↓reduceIte, Bool.false_eq_true]; done) | (simp only [↓reduceIte, Bool.false_eq_true]; with_reducible rfl)) _ _ hw _ (lv_sub hl [1, 0] rfl)
def rm_ini : rm_St := rm_iniL 10 0 rm_s0
set_option maxHeartbeats 4000000 in
set_option maxRecDepth 100000 in
theorem kX0_init (l : Launch) (k : rm_K) (h0 sz : Nat) : Met l yX0_init wsX0_init ({ frames := 2, cells := 54, slots := 540, locals := 60 }) (va_Pc [.ref h0] (fun U => U.heap.size = sz ∧ va_P k.1 vwCl [(h0, .inr (0, [.int 0, .int 0, .int 0, .int 0, .int 0, .int 0, .null, .null, .null, .null, .null, .null, .null, .null, .null, .null, .null, .null, .null, .null]))] U.heap ∧ va_K k.1 vwCl (rm_ty k) U ∧ va_AOA .int U)) (va_Qv (fun x : Nat → Nat => x 0 = h0) (fun x t => rm_P k x rm_ini t ∧ va_D (va_A [(h0, .inr (0, [.int 0, .int 0, .int 0, .int 0, .int 0, .int 0, .null, .null, .null, .null, .null, .null, .null, .null, .null, .null, .null, .null, .null, .null]))] sz) (rm_W k x rm_ini)) (va_A [(h0, .inr (0, [.int 0, .int 0, .int 0, .int 0, .int 0, .int 0, .null, .null, .null, .null, .null, .null, .null, .null, .null, .null, .null, .null, .null, .null]))] sz)) 54 540 (va_A [(h0, .inr (0, [.int 0, .int 0, .int 0, .int 0, .int 0, .int 0, .null, .null, .null, .null, .null, .null, .null, .null, .null, .null, .null, .null, .null, .null]))] sz) := by
  refine Met.ofW (cc := cX0_init) (maxL := 3) (ret := none) (by decide) rfl ?_
  intro p e s m args below meth c s₁ B hml hv
  obtain ⟨rfl, hsz, hP, hK, hover⟩ := hv
  have hx := B.exec
  have hb := B.bytes
  have hr := B.returns
  have hts := atoms_spec (ws := wsX0_init) B.pre
  have hown : s.vm.findClass RX0 = some m.cls := findClass_of_methodNamed B.named
  have hlocks := B.notSynchronized
  have hinit : meth.name = "<init>" := (name_of_methodNamed B.named B.method).1
  have hin : ∀ w ∈ u_ws RX0 TX0 20, w ∈ wsX0_init := by decide +kernel
  subst hsz
  have hD1 : va_D (fun _ => True) ([(h0, .inr (0, [.int 0, .int 0, .int 0, .int 0, .int 0, .int 0, .null, .null, .null, .null, .null, .null, .null, .null, .null, .null, .null, .null, .null, .null]))] : va_W) := ⟨fun i j x y hi hj _ => by
    have h1 := (List.getElem?_eq_some_iff.mp hi).1
    have h2 := (List.getElem?_eq_some_iff.mp hj).1
    simp at h1 h2
    omega, fun _ _ _ => trivial⟩
  have hD := hD1.self (sz := s.heap.size)
  generalize hAe : va_A [(h0, .inr (0, [.int 0, .int 0, .int 0, .int 0, .int 0, .int 0, .null, .null, .null, .null, .null, .null, .null, .null, .null, .null, .null, .null, .null, .null]))] s.heap.size = A at hD ⊢
  have hA : ∀ q : Nat, s.heap.size ≤ q → A q := fun q h => by rw [← hAe]; exact Or.inr h
  have hS : va_S A s.heap s.heap [] := va_S.rf
  have hl := lv_entry ([.ref h0]) (n := 3) (Nat.le_of_ble_eq_true rfl)
  rw [lg_entry_eq]
  generalize (lg_sl ([.ref h0]) ++ List.replicate (3 - (lg_sl ([.ref h0])).length) Slot.unset).toArray = ls at hl ⊢
  have hl : lv_has ls 3 [(0, .ref h0)] := hl
  refine lv_aload_n hx hb dX0_init_0 rfl (lv_at hl 0 rfl) ?_
  refine W.objInit hx hb hown (hts (.methodLink RX0 3 objectInit) (by decide +kernel)) (hts (.instanceMethod objectInit) (by decide +kernel)) (hts (.code objectInit ⟨#[0xb1]⟩ 1 none) (by decide +kernel)) rfl (by rw [hml]; exact hl.1) rfl dX0_init_1 (Nat.le_of_ble_eq_true rfl) (Nat.le_of_ble_eq_true rfl) ?_
  refine W.eq (g2 := F0 m 4 ls []) rfl ?_
  refine lv_aload_n hx hb dX0_init_4 rfl (lv_at hl 0 rfl) ?_
  refine lv_iconst (v := 0) hx hb dX0_init_5 (by decide) ?_
  refine va_put (D := k.1) (ci := 0) (v := .int 0) (ty := .int) (C := RX0) (T := TX0) (N := 20) hx hb hts hin tyX0 tyX0_ok nmX0 hown hK hP hD hS 0 rfl rfl 0 (by decide) (hts (.fieldLink RX0 9 "RankMesh" "hysteresis" "I") (by decide +kernel)) (fun _ h9 => h9) rfl (by decide +kernel) rfl rfl (Nat.le_of_ble_eq_true rfl) dX0_init_6 (fun H locs hP hD hS => ?_)
  have hP : va_P k.1 vwCl ((h0, .inr (0, [.int 0, .int 0, .int 0, .int 0, .int 0, .int 0, .null, .null, .null, .null, .null, .null, .null, .null, .null, .null, .null, .null, .null, .null])) :: ([] : va_W)) H := hP
  have hD : va_D A ((h0, .inr (0, [.int 0, .int 0, .int 0, .int 0, .int 0, .int 0, .null, .null, .null, .null, .null, .null, .null, .null, .null, .null, .null, .null, .null, .null])) :: ([] : va_W)) := hD
  refine lv_aload_n hx hb dX0_init_9 rfl (lv_at hl 0 rfl) ?_
  refine lv_sipush (v := 10000) hx hb dX0_init_10 (by decide) ?_
  refine va_put (D := k.1) (ci := 0) (v := .int 10000) (ty := .int) (C := RX0) (T := TX0) (N := 20) hx hb hts hin tyX0 tyX0_ok nmX0 hown hK hP hD hS 0 rfl rfl 1 (by decide) (hts (.fieldLink RX0 13 "RankMesh" "increase" "I") (by decide +kernel)) (fun _ h9 => h9) rfl (by decide +kernel) rfl rfl (Nat.le_of_ble_eq_true rfl) dX0_init_13 (fun H locs hP hD hS => ?_)
  have hP : va_P k.1 vwCl ((h0, .inr (0, [.int 0, .int 10000, .int 0, .int 0, .int 0, .int 0, .null, .null, .null, .null, .null, .null, .null, .null, .null, .null, .null, .null, .null, .null])) :: ([] : va_W)) H := hP
  have hD : va_D A ((h0, .inr (0, [.int 0, .int 10000, .int 0, .int 0, .int 0, .int 0, .null, .null, .null, .null, .null, .null, .null, .null, .null, .null, .null, .null, .null, .null])) :: ([] : va_W)) := hD
  refine lv_aload_n hx hb dX0_init_16 rfl (lv_at hl 0 rfl) ?_
  refine lv_iconst (v := 1) hx hb dX0_init_17 (by decide) ?_
  refine va_put (D := k.1) (ci := 0) (v := .int 1) (ty := .int) (C := RX0) (T := TX0) (N := 20) hx hb hts hin tyX0 tyX0_ok nmX0 hown hK hP hD hS 0 rfl rfl 2 (by decide) (hts (.fieldLink RX0 16 "RankMesh" "leastInterval" "I") (by decide +kernel)) (fun _ h9 => h9) rfl (by decide +kernel) rfl rfl (Nat.le_of_ble_eq_true rfl) dX0_init_18 (fun H locs hP hD hS => ?_)
  have hP : va_P k.1 vwCl ((h0, .inr (0, [.int 0, .int 10000, .int 1, .int 0, .int 0, .int 0, .null, .null, .null, .null, .null, .null, .null, .null, .null, .null, .null, .null, .null, .null])) :: ([] : va_W)) H := hP
  have hD : va_D A ((h0, .inr (0, [.int 0, .int 10000, .int 1, .int 0, .int 0, .int 0, .null, .null, .null, .null, .null, .null, .null, .null, .null, .null, .null, .null, .null, .null])) :: ([] : va_W)) := hD
  refine lv_aload_n hx hb dX0_init_21 rfl (lv_at hl 0 rfl) ?_
  refine lv_iconst (v := 4) hx hb dX0_init_22 (by decide) ?_
  refine va_put (D := k.1) (ci := 0) (v := .int 4) (ty := .int) (C := RX0) (T := TX0) (N := 20) hx hb hts hin tyX0 tyX0_ok nmX0 hown hK hP hD hS 0 rfl rfl 3 (by decide) (hts (.fieldLink RX0 19 "RankMesh" "doublings" "I") (by decide +kernel)) (fun _ h9 => h9) rfl (by decide +kernel) rfl rfl (Nat.le_of_ble_eq_true rfl) dX0_init_23 (fun H locs hP hD hS => ?_)
  have hP : va_P k.1 vwCl ((h0, .inr (0, [.int 0, .int 10000, .int 1, .int 4, .int 0, .int 0, .null, .null, .null, .null, .null, .null, .null, .null, .null, .null, .null, .null, .null, .null])) :: ([] : va_W)) H := hP
  have hD : va_D A ((h0, .inr (0, [.int 0, .int 10000, .int 1, .int 4, .int 0, .int 0, .null, .null, .null, .null, .null, .null, .null, .null, .null, .null, .null, .null, .null, .null])) :: ([] : va_W)) := hD
  refine lv_aload_n hx hb dX0_init_26 rfl (lv_at hl 0 rfl) ?_
  refine lv_iconst (v := 0) hx hb dX0_init_27 (by decide) ?_
  refine va_put (D := k.1) (ci := 0) (v := .int 0) (ty := .int) (C := RX0) (T := TX0) (N := 20) hx hb hts hin tyX0 tyX0_ok nmX0 hown hK hP hD hS 0 rfl rfl 4 (by decide) (hts (.fieldLink RX0 22 "RankMesh" "now" "I") (by decide +kernel)) (fun _ h9 => h9) rfl (by decide +kernel) rfl rfl (Nat.le_of_ble_eq_true rfl) dX0_init_28 (fun H locs hP hD hS => ?_)
  have hP : va_P k.1 vwCl ((h0, .inr (0, [.int 0, .int 10000, .int 1, .int 4, .int 0, .int 0, .null, .null, .null, .null, .null, .null, .null, .null, .null, .null, .null, .null, .null, .null])) :: ([] : va_W)) H := hP
  have hD : va_D A ((h0, .inr (0, [.int 0, .int 10000, .int 1, .int 4, .int 0, .int 0, .null, .null, .null, .null, .null, .null, .null, .null, .null, .null, .null, .null, .null, .null])) :: ([] : va_W)) := hD
  refine lv_aload_n hx hb dX0_init_31 rfl (lv_at hl 0 rfl) ?_
  refine lv_iconst (v := 0) hx hb dX0_init_32 (by decide) ?_
  refine va_put (D := k.1) (ci := 0) (v := .int 0) (ty := .int) (C := RX0) (T := TX0) (N := 20) hx hb hts hin tyX0 tyX0_ok nmX0 hown hK hP hD hS 0 rfl rfl 5 (by decide) (hts (.fieldLink RX0 25 "RankMesh" "droppedPackets" "I") (by decide +kernel)) (fun _ h9 => h9) rfl (by decide +kernel) rfl rfl (Nat.le_of_ble_eq_true rfl) dX0_init_33 (fun H locs hP hD hS => ?_)
  have hP : va_P k.1 vwCl ((h0, .inr (0, [.int 0, .int 10000, .int 1, .int 4, .int 0, .int 0, .null, .null, .null, .null, .null, .null, .null, .null, .null, .null, .null, .null, .null, .null])) :: ([] : va_W)) H := hP
  have hD : va_D A ((h0, .inr (0, [.int 0, .int 10000, .int 1, .int 4, .int 0, .int 0, .null, .null, .null, .null, .null, .null, .null, .null, .null, .null, .null, .null, .null, .null])) :: ([] : va_W)) := hD
  refine lv_aload_n hx hb dX0_init_36 rfl (lv_at hl 0 rfl) ?_
  refine lv_bipush (v := 10) hx hb dX0_init_37 (by decide) ?_
  refine lv_bipush (v := 10) hx hb dX0_init_39 (by decide) ?_
  refine rx_newG ⟨hx, hb, hml, hown, hts⟩ (by decide +kernel) (by decide +kernel) hover hK hP hD hS hA (Nat.le_of_ble_eq_true rfl) (Nat.le_of_ble_eq_true rfl) dX0_init_41 (fun q1 r1 H hP hD hS => ?_)
  have hP : va_P k.1 vwCl ((h0, .inr (0, [.int 0, .int 10000, .int 1, .int 4, .int 0, .int 0, .null, .null, .null, .null, .null, .null, .null, .null, .null, .null, .null, .null, .null, .null])) :: (([] : va_W) ++ ((q1, .inl (k.2.2.2, 10, .inr (.inr (.inr (.inr (fun i => if i < 10 then some (r1 i) else none)))))) :: (List.range 10).map (fun i => (r1 i, rm_R0 k))))) H := hP
  have hD : va_D A ((h0, .inr (0, [.int 0, .int 10000, .int 1, .int 4, .int 0, .int 0, .null, .null, .null, .null, .null, .null, .null, .null, .null, .null, .null, .null, .null, .null])) :: (([] : va_W) ++ ((q1, .inl (k.2.2.2, 10, .inr (.inr (.inr (.inr (fun i => if i < 10 then some (r1 i) else none)))))) :: (List.range 10).map (fun i => (r1 i, rm_R0 k))))) := hD
  obtain ⟨T1, hT1⟩ : ∃ TT : va_W, TT = ([] : va_W) ++ ((q1, .inl (k.2.2.2, 10, .inr (.inr (.inr (.inr (fun i => if i < 10 then some (r1 i) else none)))))) :: (List.range 10).map (fun i => (r1 i, rm_R0 k))) := ⟨_, rfl⟩
  rw [← hT1] at hP hD
  refine va_putF (D := k.1) (ci := 0) (v := .ref q1) (ty := .array (.array .int)) (C := RX0) (T := TX0) (N := 20) hx hb hts hin tyX0 tyX0_ok nmX0 hown hK hP hD hS 0 rfl rfl 6 (by decide) (hts (.fieldLink RX0 30 "RankMesh" "costOf" "[[I") (by decide +kernel)) (fun _ h9 => h9) rfl hinit rfl (by decide +kernel) rfl rfl (Nat.le_of_ble_eq_true rfl) dX0_init_45 (fun H locs hP hD hS => ?_)
  have hP : va_P k.1 vwCl ((h0, .inr (0, [.int 0, .int 10000, .int 1, .int 4, .int 0, .int 0, .ref q1, .null, .null, .null, .null, .null, .null, .null, .null, .null, .null, .null, .null, .null])) :: T1) H := hP
  have hD : va_D A ((h0, .inr (0, [.int 0, .int 10000, .int 1, .int 4, .int 0, .int 0, .ref q1, .null, .null, .null, .null, .null, .null, .null, .null, .null, .null, .null, .null, .null])) :: T1) := hD
  refine lv_aload_n hx hb dX0_init_48 rfl (lv_at hl 0 rfl) ?_
  refine lv_bipush (v := 10) hx hb dX0_init_49 (by decide) ?_
  refine lv_bipush (v := 10) hx hb dX0_init_51 (by decide) ?_
  refine rx_newG ⟨hx, hb, hml, hown, hts⟩ (by decide +kernel) (by decide +kernel) hover hK hP hD hS hA (Nat.le_of_ble_eq_true rfl) (Nat.le_of_ble_eq_true rfl) dX0_init_53 (fun q2 r2 H hP hD hS => ?_)
  have hP : va_P k.1 vwCl ((h0, .inr (0, [.int 0, .int 10000, .int 1, .int 4, .int 0, .int 0, .ref q1, .null, .null, .null, .null, .null, .null, .null, .null, .null, .null, .null, .null, .null])) :: (T1 ++ ((q2, .inl (k.2.2.2, 10, .inr (.inr (.inr (.inr (fun i => if i < 10 then some (r2 i) else none)))))) :: (List.range 10).map (fun i => (r2 i, rm_R0 k))))) H := hP
  have hD : va_D A ((h0, .inr (0, [.int 0, .int 10000, .int 1, .int 4, .int 0, .int 0, .ref q1, .null, .null, .null, .null, .null, .null, .null, .null, .null, .null, .null, .null, .null])) :: (T1 ++ ((q2, .inl (k.2.2.2, 10, .inr (.inr (.inr (.inr (fun i => if i < 10 then some (r2 i) else none)))))) :: (List.range 10).map (fun i => (r2 i, rm_R0 k))))) := hD
  obtain ⟨T2, hT2⟩ : ∃ TT : va_W, TT = T1 ++ ((q2, .inl (k.2.2.2, 10, .inr (.inr (.inr (.inr (fun i => if i < 10 then some (r2 i) else none)))))) :: (List.range 10).map (fun i => (r2 i, rm_R0 k))) := ⟨_, rfl⟩
  rw [← hT2] at hP hD
  refine va_putF (D := k.1) (ci := 0) (v := .ref q2) (ty := .array (.array .int)) (C := RX0) (T := TX0) (N := 20) hx hb hts hin tyX0 tyX0_ok nmX0 hown hK hP hD hS 0 rfl rfl 7 (by decide) (hts (.fieldLink RX0 33 "RankMesh" "heardTree" "[[I") (by decide +kernel)) (fun _ h9 => h9) rfl hinit rfl (by decide +kernel) rfl rfl (Nat.le_of_ble_eq_true rfl) dX0_init_57 (fun H locs hP hD hS => ?_)
  have hP : va_P k.1 vwCl ((h0, .inr (0, [.int 0, .int 10000, .int 1, .int 4, .int 0, .int 0, .ref q1, .ref q2, .null, .null, .null, .null, .null, .null, .null, .null, .null, .null, .null, .null])) :: T2) H := hP
  have hD : va_D A ((h0, .inr (0, [.int 0, .int 10000, .int 1, .int 4, .int 0, .int 0, .ref q1, .ref q2, .null, .null, .null, .null, .null, .null, .null, .null, .null, .null, .null, .null])) :: T2) := hD
  refine lv_aload_n hx hb dX0_init_60 rfl (lv_at hl 0 rfl) ?_
  refine lv_bipush (v := 10) hx hb dX0_init_61 (by decide) ?_
  refine lv_bipush (v := 10) hx hb dX0_init_63 (by decide) ?_
  refine rx_newG ⟨hx, hb, hml, hown, hts⟩ (by decide +kernel) (by decide +kernel) hover hK hP hD hS hA (Nat.le_of_ble_eq_true rfl) (Nat.le_of_ble_eq_true rfl) dX0_init_65 (fun q3 r3 H hP hD hS => ?_)
  have hP : va_P k.1 vwCl ((h0, .inr (0, [.int 0, .int 10000, .int 1, .int 4, .int 0, .int 0, .ref q1, .ref q2, .null, .null, .null, .null, .null, .null, .null, .null, .null, .null, .null, .null])) :: (T2 ++ ((q3, .inl (k.2.2.2, 10, .inr (.inr (.inr (.inr (fun i => if i < 10 then some (r3 i) else none)))))) :: (List.range 10).map (fun i => (r3 i, rm_R0 k))))) H := hP
  have hD : va_D A ((h0, .inr (0, [.int 0, .int 10000, .int 1, .int 4, .int 0, .int 0, .ref q1, .ref q2, .null, .null, .null, .null, .null, .null, .null, .null, .null, .null, .null, .null])) :: (T2 ++ ((q3, .inl (k.2.2.2, 10, .inr (.inr (.inr (.inr (fun i => if i < 10 then some (r3 i) else none)))))) :: (List.range 10).map (fun i => (r3 i, rm_R0 k))))) := hD
  obtain ⟨T3, hT3⟩ : ∃ TT : va_W, TT = T2 ++ ((q3, .inl (k.2.2.2, 10, .inr (.inr (.inr (.inr (fun i => if i < 10 then some (r3 i) else none)))))) :: (List.range 10).map (fun i => (r3 i, rm_R0 k))) := ⟨_, rfl⟩
  rw [← hT3] at hP hD
  refine va_putF (D := k.1) (ci := 0) (v := .ref q3) (ty := .array (.array .int)) (C := RX0) (T := TX0) (N := 20) hx hb hts hin tyX0 tyX0_ok nmX0 hown hK hP hD hS 0 rfl rfl 8 (by decide) (hts (.fieldLink RX0 36 "RankMesh" "heardVersion" "[[I") (by decide +kernel)) (fun _ h9 => h9) rfl hinit rfl (by decide +kernel) rfl rfl (Nat.le_of_ble_eq_true rfl) dX0_init_69 (fun H locs hP hD hS => ?_)
  have hP : va_P k.1 vwCl ((h0, .inr (0, [.int 0, .int 10000, .int 1, .int 4, .int 0, .int 0, .ref q1, .ref q2, .ref q3, .null, .null, .null, .null, .null, .null, .null, .null, .null, .null, .null])) :: T3) H := hP
  have hD : va_D A ((h0, .inr (0, [.int 0, .int 10000, .int 1, .int 4, .int 0, .int 0, .ref q1, .ref q2, .ref q3, .null, .null, .null, .null, .null, .null, .null, .null, .null, .null, .null])) :: T3) := hD
  refine lv_aload_n hx hb dX0_init_72 rfl (lv_at hl 0 rfl) ?_
  refine lv_bipush (v := 10) hx hb dX0_init_73 (by decide) ?_
  refine lv_bipush (v := 10) hx hb dX0_init_75 (by decide) ?_
  refine rx_newG ⟨hx, hb, hml, hown, hts⟩ (by decide +kernel) (by decide +kernel) hover hK hP hD hS hA (Nat.le_of_ble_eq_true rfl) (Nat.le_of_ble_eq_true rfl) dX0_init_77 (fun q4 r4 H hP hD hS => ?_)
  have hP : va_P k.1 vwCl ((h0, .inr (0, [.int 0, .int 10000, .int 1, .int 4, .int 0, .int 0, .ref q1, .ref q2, .ref q3, .null, .null, .null, .null, .null, .null, .null, .null, .null, .null, .null])) :: (T3 ++ ((q4, .inl (k.2.2.2, 10, .inr (.inr (.inr (.inr (fun i => if i < 10 then some (r4 i) else none)))))) :: (List.range 10).map (fun i => (r4 i, rm_R0 k))))) H := hP
  have hD : va_D A ((h0, .inr (0, [.int 0, .int 10000, .int 1, .int 4, .int 0, .int 0, .ref q1, .ref q2, .ref q3, .null, .null, .null, .null, .null, .null, .null, .null, .null, .null, .null])) :: (T3 ++ ((q4, .inl (k.2.2.2, 10, .inr (.inr (.inr (.inr (fun i => if i < 10 then some (r4 i) else none)))))) :: (List.range 10).map (fun i => (r4 i, rm_R0 k))))) := hD
  obtain ⟨T4, hT4⟩ : ∃ TT : va_W, TT = T3 ++ ((q4, .inl (k.2.2.2, 10, .inr (.inr (.inr (.inr (fun i => if i < 10 then some (r4 i) else none)))))) :: (List.range 10).map (fun i => (r4 i, rm_R0 k))) := ⟨_, rfl⟩
  rw [← hT4] at hP hD
  refine va_putF (D := k.1) (ci := 0) (v := .ref q4) (ty := .array (.array .int)) (C := RX0) (T := TX0) (N := 20) hx hb hts hin tyX0 tyX0_ok nmX0 hown hK hP hD hS 0 rfl rfl 9 (by decide) (hts (.fieldLink RX0 39 "RankMesh" "heardRank" "[[I") (by decide +kernel)) (fun _ h9 => h9) rfl hinit rfl (by decide +kernel) rfl rfl (Nat.le_of_ble_eq_true rfl) dX0_init_81 (fun H locs hP hD hS => ?_)
  have hP : va_P k.1 vwCl ((h0, .inr (0, [.int 0, .int 10000, .int 1, .int 4, .int 0, .int 0, .ref q1, .ref q2, .ref q3, .ref q4, .null, .null, .null, .null, .null, .null, .null, .null, .null, .null])) :: T4) H := hP
  have hD : va_D A ((h0, .inr (0, [.int 0, .int 10000, .int 1, .int 4, .int 0, .int 0, .ref q1, .ref q2, .ref q3, .ref q4, .null, .null, .null, .null, .null, .null, .null, .null, .null, .null])) :: T4) := hD
  refine lv_aload_n hx hb dX0_init_84 rfl (lv_at hl 0 rfl) ?_
  refine lv_bipush (v := 10) hx hb dX0_init_85 (by decide) ?_
  refine rx_newZ ⟨hx, hb, hml, hown, hts⟩ (by decide +kernel) hK hP hD hS hA (n := 10) (N := 10) (by decide) (by decide) (by decide) (Nat.le_of_ble_eq_true rfl) (Nat.le_of_ble_eq_true rfl) dX0_init_87 (fun q5 H hP hD hS => ?_)
  have hP : va_P k.1 vwCl ((h0, .inr (0, [.int 0, .int 10000, .int 1, .int 4, .int 0, .int 0, .ref q1, .ref q2, .ref q3, .ref q4, .null, .null, .null, .null, .null, .null, .null, .null, .null, .null])) :: (T4 ++ [(q5, .inl (k.2.2.1, 10, .inl (fun _ => 0)))])) H := hP
  have hD : va_D A ((h0, .inr (0, [.int 0, .int 10000, .int 1, .int 4, .int 0, .int 0, .ref q1, .ref q2, .ref q3, .ref q4, .null, .null, .null, .null, .null, .null, .null, .null, .null, .null])) :: (T4 ++ [(q5, .inl (k.2.2.1, 10, .inl (fun _ => 0)))])) := hD
  obtain ⟨T5, hT5⟩ : ∃ TT : va_W, TT = T4 ++ [(q5, .inl (k.2.2.1, 10, .inl (fun _ => 0)))] := ⟨_, rfl⟩
  rw [← hT5] at hP hD
  refine va_putF (D := k.1) (ci := 0) (v := .ref q5) (ty := .array .boolean) (C := RX0) (T := TX0) (N := 20) hx hb hts hin tyX0 tyX0_ok nmX0 hown hK hP hD hS 0 rfl rfl 10 (by decide) (hts (.fieldLink RX0 42 "RankMesh" "isRoot" "[Z") (by decide +kernel)) (fun _ h9 => h9) rfl hinit rfl (by decide +kernel) rfl rfl (Nat.le_of_ble_eq_true rfl) dX0_init_89 (fun H locs hP hD hS => ?_)
  have hP : va_P k.1 vwCl ((h0, .inr (0, [.int 0, .int 10000, .int 1, .int 4, .int 0, .int 0, .ref q1, .ref q2, .ref q3, .ref q4, .ref q5, .null, .null, .null, .null, .null, .null, .null, .null, .null])) :: T5) H := hP
  have hD : va_D A ((h0, .inr (0, [.int 0, .int 10000, .int 1, .int 4, .int 0, .int 0, .ref q1, .ref q2, .ref q3, .ref q4, .ref q5, .null, .null, .null, .null, .null, .null, .null, .null, .null])) :: T5) := hD
  refine lv_aload_n hx hb dX0_init_92 rfl (lv_at hl 0 rfl) ?_
  refine lv_bipush (v := 10) hx hb dX0_init_93 (by decide) ?_
  refine rx_newI ⟨hx, hb, hml, hown, hts⟩ (by decide +kernel) hK hP hD hS hA (n := 10) (N := 10) (by decide) (by decide) (by decide) (Nat.le_of_ble_eq_true rfl) (Nat.le_of_ble_eq_true rfl) dX0_init_95 (fun q6 H hP hD hS => ?_)
  have hP : va_P k.1 vwCl ((h0, .inr (0, [.int 0, .int 10000, .int 1, .int 4, .int 0, .int 0, .ref q1, .ref q2, .ref q3, .ref q4, .ref q5, .null, .null, .null, .null, .null, .null, .null, .null, .null])) :: (T5 ++ [(q6, .inl (k.2.1, 10, .inl (fun _ => 0)))])) H := hP
  have hD : va_D A ((h0, .inr (0, [.int 0, .int 10000, .int 1, .int 4, .int 0, .int 0, .ref q1, .ref q2, .ref q3, .ref q4, .ref q5, .null, .null, .null, .null, .null, .null, .null, .null, .null])) :: (T5 ++ [(q6, .inl (k.2.1, 10, .inl (fun _ => 0)))])) := hD
  obtain ⟨T6, hT6⟩ : ∃ TT : va_W, TT = T5 ++ [(q6, .inl (k.2.1, 10, .inl (fun _ => 0)))] := ⟨_, rfl⟩
  rw [← hT6] at hP hD
  refine va_putF (D := k.1) (ci := 0) (v := .ref q6) (ty := .array .int) (C := RX0) (T := TX0) (N := 20) hx hb hts hin tyX0 tyX0_ok nmX0 hown hK hP hD hS 0 rfl rfl 11 (by decide) (hts (.fieldLink RX0 46 "RankMesh" "lastRootVersion" "[I") (by decide +kernel)) (fun _ h9 => h9) rfl hinit rfl (by decide +kernel) rfl rfl (Nat.le_of_ble_eq_true rfl) dX0_init_97 (fun H locs hP hD hS => ?_)
  have hP : va_P k.1 vwCl ((h0, .inr (0, [.int 0, .int 10000, .int 1, .int 4, .int 0, .int 0, .ref q1, .ref q2, .ref q3, .ref q4, .ref q5, .ref q6, .null, .null, .null, .null, .null, .null, .null, .null])) :: T6) H := hP
  have hD : va_D A ((h0, .inr (0, [.int 0, .int 10000, .int 1, .int 4, .int 0, .int 0, .ref q1, .ref q2, .ref q3, .ref q4, .ref q5, .ref q6, .null, .null, .null, .null, .null, .null, .null, .null])) :: T6) := hD
  refine lv_aload_n hx hb dX0_init_100 rfl (lv_at hl 0 rfl) ?_
  refine lv_bipush (v := 10) hx hb dX0_init_101 (by decide) ?_
  refine rx_newI ⟨hx, hb, hml, hown, hts⟩ (by decide +kernel) hK hP hD hS hA (n := 10) (N := 10) (by decide) (by decide) (by decide) (Nat.le_of_ble_eq_true rfl) (Nat.le_of_ble_eq_true rfl) dX0_init_103 (fun q7 H hP hD hS => ?_)
  have hP : va_P k.1 vwCl ((h0, .inr (0, [.int 0, .int 10000, .int 1, .int 4, .int 0, .int 0, .ref q1, .ref q2, .ref q3, .ref q4, .ref q5, .ref q6, .null, .null, .null, .null, .null, .null, .null, .null])) :: (T6 ++ [(q7, .inl (k.2.1, 10, .inl (fun _ => 0)))])) H := hP
  have hD : va_D A ((h0, .inr (0, [.int 0, .int 10000, .int 1, .int 4, .int 0, .int 0, .ref q1, .ref q2, .ref q3, .ref q4, .ref q5, .ref q6, .null, .null, .null, .null, .null, .null, .null, .null])) :: (T6 ++ [(q7, .inl (k.2.1, 10, .inl (fun _ => 0)))])) := hD
  obtain ⟨T7, hT7⟩ : ∃ TT : va_W, TT = T6 ++ [(q7, .inl (k.2.1, 10, .inl (fun _ => 0)))] := ⟨_, rfl⟩
  rw [← hT7] at hP hD
  refine va_putF (D := k.1) (ci := 0) (v := .ref q7) (ty := .array .int) (C := RX0) (T := TX0) (N := 20) hx hb hts hin tyX0 tyX0_ok nmX0 hown hK hP hD hS 0 rfl rfl 12 (by decide) (hts (.fieldLink RX0 50 "RankMesh" "treeOf" "[I") (by decide +kernel)) (fun _ h9 => h9) rfl hinit rfl (by decide +kernel) rfl rfl (Nat.le_of_ble_eq_true rfl) dX0_init_105 (fun H locs hP hD hS => ?_)
  have hP : va_P k.1 vwCl ((h0, .inr (0, [.int 0, .int 10000, .int 1, .int 4, .int 0, .int 0, .ref q1, .ref q2, .ref q3, .ref q4, .ref q5, .ref q6, .ref q7, .null, .null, .null, .null, .null, .null, .null])) :: T7) H := hP
  have hD : va_D A ((h0, .inr (0, [.int 0, .int 10000, .int 1, .int 4, .int 0, .int 0, .ref q1, .ref q2, .ref q3, .ref q4, .ref q5, .ref q6, .ref q7, .null, .null, .null, .null, .null, .null, .null])) :: T7) := hD
  refine lv_aload_n hx hb dX0_init_108 rfl (lv_at hl 0 rfl) ?_
  refine lv_bipush (v := 10) hx hb dX0_init_109 (by decide) ?_
  refine rx_newI ⟨hx, hb, hml, hown, hts⟩ (by decide +kernel) hK hP hD hS hA (n := 10) (N := 10) (by decide) (by decide) (by decide) (Nat.le_of_ble_eq_true rfl) (Nat.le_of_ble_eq_true rfl) dX0_init_111 (fun q8 H hP hD hS => ?_)
  have hP : va_P k.1 vwCl ((h0, .inr (0, [.int 0, .int 10000, .int 1, .int 4, .int 0, .int 0, .ref q1, .ref q2, .ref q3, .ref q4, .ref q5, .ref q6, .ref q7, .null, .null, .null, .null, .null, .null, .null])) :: (T7 ++ [(q8, .inl (k.2.1, 10, .inl (fun _ => 0)))])) H := hP
  have hD : va_D A ((h0, .inr (0, [.int 0, .int 10000, .int 1, .int 4, .int 0, .int 0, .ref q1, .ref q2, .ref q3, .ref q4, .ref q5, .ref q6, .ref q7, .null, .null, .null, .null, .null, .null, .null])) :: (T7 ++ [(q8, .inl (k.2.1, 10, .inl (fun _ => 0)))])) := hD
  obtain ⟨T8, hT8⟩ : ∃ TT : va_W, TT = T7 ++ [(q8, .inl (k.2.1, 10, .inl (fun _ => 0)))] := ⟨_, rfl⟩
  rw [← hT8] at hP hD
  refine va_putF (D := k.1) (ci := 0) (v := .ref q8) (ty := .array .int) (C := RX0) (T := TX0) (N := 20) hx hb hts hin tyX0 tyX0_ok nmX0 hown hK hP hD hS 0 rfl rfl 13 (by decide) (hts (.fieldLink RX0 53 "RankMesh" "versionOf" "[I") (by decide +kernel)) (fun _ h9 => h9) rfl hinit rfl (by decide +kernel) rfl rfl (Nat.le_of_ble_eq_true rfl) dX0_init_113 (fun H locs hP hD hS => ?_)
  have hP : va_P k.1 vwCl ((h0, .inr (0, [.int 0, .int 10000, .int 1, .int 4, .int 0, .int 0, .ref q1, .ref q2, .ref q3, .ref q4, .ref q5, .ref q6, .ref q7, .ref q8, .null, .null, .null, .null, .null, .null])) :: T8) H := hP
  have hD : va_D A ((h0, .inr (0, [.int 0, .int 10000, .int 1, .int 4, .int 0, .int 0, .ref q1, .ref q2, .ref q3, .ref q4, .ref q5, .ref q6, .ref q7, .ref q8, .null, .null, .null, .null, .null, .null])) :: T8) := hD
  refine lv_aload_n hx hb dX0_init_116 rfl (lv_at hl 0 rfl) ?_
  refine lv_bipush (v := 10) hx hb dX0_init_117 (by decide) ?_
  refine rx_newI ⟨hx, hb, hml, hown, hts⟩ (by decide +kernel) hK hP hD hS hA (n := 10) (N := 10) (by decide) (by decide) (by decide) (Nat.le_of_ble_eq_true rfl) (Nat.le_of_ble_eq_true rfl) dX0_init_119 (fun q9 H hP hD hS => ?_)
  have hP : va_P k.1 vwCl ((h0, .inr (0, [.int 0, .int 10000, .int 1, .int 4, .int 0, .int 0, .ref q1, .ref q2, .ref q3, .ref q4, .ref q5, .ref q6, .ref q7, .ref q8, .null, .null, .null, .null, .null, .null])) :: (T8 ++ [(q9, .inl (k.2.1, 10, .inl (fun _ => 0)))])) H := hP
  have hD : va_D A ((h0, .inr (0, [.int 0, .int 10000, .int 1, .int 4, .int 0, .int 0, .ref q1, .ref q2, .ref q3, .ref q4, .ref q5, .ref q6, .ref q7, .ref q8, .null, .null, .null, .null, .null, .null])) :: (T8 ++ [(q9, .inl (k.2.1, 10, .inl (fun _ => 0)))])) := hD
  obtain ⟨T9, hT9⟩ : ∃ TT : va_W, TT = T8 ++ [(q9, .inl (k.2.1, 10, .inl (fun _ => 0)))] := ⟨_, rfl⟩
  rw [← hT9] at hP hD
  refine va_putF (D := k.1) (ci := 0) (v := .ref q9) (ty := .array .int) (C := RX0) (T := TX0) (N := 20) hx hb hts hin tyX0 tyX0_ok nmX0 hown hK hP hD hS 0 rfl rfl 14 (by decide) (hts (.fieldLink RX0 56 "RankMesh" "rankOf" "[I") (by decide +kernel)) (fun _ h9 => h9) rfl hinit rfl (by decide +kernel) rfl rfl (Nat.le_of_ble_eq_true rfl) dX0_init_121 (fun H locs hP hD hS => ?_)
  have hP : va_P k.1 vwCl ((h0, .inr (0, [.int 0, .int 10000, .int 1, .int 4, .int 0, .int 0, .ref q1, .ref q2, .ref q3, .ref q4, .ref q5, .ref q6, .ref q7, .ref q8, .ref q9, .null, .null, .null, .null, .null])) :: T9) H := hP
  have hD : va_D A ((h0, .inr (0, [.int 0, .int 10000, .int 1, .int 4, .int 0, .int 0, .ref q1, .ref q2, .ref q3, .ref q4, .ref q5, .ref q6, .ref q7, .ref q8, .ref q9, .null, .null, .null, .null, .null])) :: T9) := hD
  refine lv_aload_n hx hb dX0_init_124 rfl (lv_at hl 0 rfl) ?_
  refine lv_bipush (v := 10) hx hb dX0_init_125 (by decide) ?_
  refine rx_newI ⟨hx, hb, hml, hown, hts⟩ (by decide +kernel) hK hP hD hS hA (n := 10) (N := 10) (by decide) (by decide) (by decide) (Nat.le_of_ble_eq_true rfl) (Nat.le_of_ble_eq_true rfl) dX0_init_127 (fun q10 H hP hD hS => ?_)
  have hP : va_P k.1 vwCl ((h0, .inr (0, [.int 0, .int 10000, .int 1, .int 4, .int 0, .int 0, .ref q1, .ref q2, .ref q3, .ref q4, .ref q5, .ref q6, .ref q7, .ref q8, .ref q9, .null, .null, .null, .null, .null])) :: (T9 ++ [(q10, .inl (k.2.1, 10, .inl (fun _ => 0)))])) H := hP
  have hD : va_D A ((h0, .inr (0, [.int 0, .int 10000, .int 1, .int 4, .int 0, .int 0, .ref q1, .ref q2, .ref q3, .ref q4, .ref q5, .ref q6, .ref q7, .ref q8, .ref q9, .null, .null, .null, .null, .null])) :: (T9 ++ [(q10, .inl (k.2.1, 10, .inl (fun _ => 0)))])) := hD
  obtain ⟨T10, hT10⟩ : ∃ TT : va_W, TT = T9 ++ [(q10, .inl (k.2.1, 10, .inl (fun _ => 0)))] := ⟨_, rfl⟩
  rw [← hT10] at hP hD
  refine va_putF (D := k.1) (ci := 0) (v := .ref q10) (ty := .array .int) (C := RX0) (T := TX0) (N := 20) hx hb hts hin tyX0 tyX0_ok nmX0 hown hK hP hD hS 0 rfl rfl 15 (by decide) (hts (.fieldLink RX0 59 "RankMesh" "lowestRank" "[I") (by decide +kernel)) (fun _ h9 => h9) rfl hinit rfl (by decide +kernel) rfl rfl (Nat.le_of_ble_eq_true rfl) dX0_init_129 (fun H locs hP hD hS => ?_)
  have hP : va_P k.1 vwCl ((h0, .inr (0, [.int 0, .int 10000, .int 1, .int 4, .int 0, .int 0, .ref q1, .ref q2, .ref q3, .ref q4, .ref q5, .ref q6, .ref q7, .ref q8, .ref q9, .ref q10, .null, .null, .null, .null])) :: T10) H := hP
  have hD : va_D A ((h0, .inr (0, [.int 0, .int 10000, .int 1, .int 4, .int 0, .int 0, .ref q1, .ref q2, .ref q3, .ref q4, .ref q5, .ref q6, .ref q7, .ref q8, .ref q9, .ref q10, .null, .null, .null, .null])) :: T10) := hD
  refine lv_aload_n hx hb dX0_init_132 rfl (lv_at hl 0 rfl) ?_
  refine lv_bipush (v := 10) hx hb dX0_init_133 (by decide) ?_
  refine rx_newI ⟨hx, hb, hml, hown, hts⟩ (by decide +kernel) hK hP hD hS hA (n := 10) (N := 10) (by decide) (by decide) (by decide) (Nat.le_of_ble_eq_true rfl) (Nat.le_of_ble_eq_true rfl) dX0_init_135 (fun q11 H hP hD hS => ?_)
  have hP : va_P k.1 vwCl ((h0, .inr (0, [.int 0, .int 10000, .int 1, .int 4, .int 0, .int 0, .ref q1, .ref q2, .ref q3, .ref q4, .ref q5, .ref q6, .ref q7, .ref q8, .ref q9, .ref q10, .null, .null, .null, .null])) :: (T10 ++ [(q11, .inl (k.2.1, 10, .inl (fun _ => 0)))])) H := hP
  have hD : va_D A ((h0, .inr (0, [.int 0, .int 10000, .int 1, .int 4, .int 0, .int 0, .ref q1, .ref q2, .ref q3, .ref q4, .ref q5, .ref q6, .ref q7, .ref q8, .ref q9, .ref q10, .null, .null, .null, .null])) :: (T10 ++ [(q11, .inl (k.2.1, 10, .inl (fun _ => 0)))])) := hD
  obtain ⟨T11, hT11⟩ : ∃ TT : va_W, TT = T10 ++ [(q11, .inl (k.2.1, 10, .inl (fun _ => 0)))] := ⟨_, rfl⟩
  rw [← hT11] at hP hD
  refine va_putF (D := k.1) (ci := 0) (v := .ref q11) (ty := .array .int) (C := RX0) (T := TX0) (N := 20) hx hb hts hin tyX0 tyX0_ok nmX0 hown hK hP hD hS 0 rfl rfl 16 (by decide) (hts (.fieldLink RX0 62 "RankMesh" "parentOf" "[I") (by decide +kernel)) (fun _ h9 => h9) rfl hinit rfl (by decide +kernel) rfl rfl (Nat.le_of_ble_eq_true rfl) dX0_init_137 (fun H locs hP hD hS => ?_)
  have hP : va_P k.1 vwCl ((h0, .inr (0, [.int 0, .int 10000, .int 1, .int 4, .int 0, .int 0, .ref q1, .ref q2, .ref q3, .ref q4, .ref q5, .ref q6, .ref q7, .ref q8, .ref q9, .ref q10, .ref q11, .null, .null, .null])) :: T11) H := hP
  have hD : va_D A ((h0, .inr (0, [.int 0, .int 10000, .int 1, .int 4, .int 0, .int 0, .ref q1, .ref q2, .ref q3, .ref q4, .ref q5, .ref q6, .ref q7, .ref q8, .ref q9, .ref q10, .ref q11, .null, .null, .null])) :: T11) := hD
  refine lv_aload_n hx hb dX0_init_140 rfl (lv_at hl 0 rfl) ?_
  refine lv_bipush (v := 10) hx hb dX0_init_141 (by decide) ?_
  refine rx_newI ⟨hx, hb, hml, hown, hts⟩ (by decide +kernel) hK hP hD hS hA (n := 10) (N := 10) (by decide) (by decide) (by decide) (Nat.le_of_ble_eq_true rfl) (Nat.le_of_ble_eq_true rfl) dX0_init_143 (fun q12 H hP hD hS => ?_)
  have hP : va_P k.1 vwCl ((h0, .inr (0, [.int 0, .int 10000, .int 1, .int 4, .int 0, .int 0, .ref q1, .ref q2, .ref q3, .ref q4, .ref q5, .ref q6, .ref q7, .ref q8, .ref q9, .ref q10, .ref q11, .null, .null, .null])) :: (T11 ++ [(q12, .inl (k.2.1, 10, .inl (fun _ => 0)))])) H := hP
  have hD : va_D A ((h0, .inr (0, [.int 0, .int 10000, .int 1, .int 4, .int 0, .int 0, .ref q1, .ref q2, .ref q3, .ref q4, .ref q5, .ref q6, .ref q7, .ref q8, .ref q9, .ref q10, .ref q11, .null, .null, .null])) :: (T11 ++ [(q12, .inl (k.2.1, 10, .inl (fun _ => 0)))])) := hD
  obtain ⟨T12, hT12⟩ : ∃ TT : va_W, TT = T11 ++ [(q12, .inl (k.2.1, 10, .inl (fun _ => 0)))] := ⟨_, rfl⟩
  rw [← hT12] at hP hD
  refine va_putF (D := k.1) (ci := 0) (v := .ref q12) (ty := .array .int) (C := RX0) (T := TX0) (N := 20) hx hb hts hin tyX0 tyX0_ok nmX0 hown hK hP hD hS 0 rfl rfl 17 (by decide) (hts (.fieldLink RX0 65 "RankMesh" "interval" "[I") (by decide +kernel)) (fun _ h9 => h9) rfl hinit rfl (by decide +kernel) rfl rfl (Nat.le_of_ble_eq_true rfl) dX0_init_145 (fun H locs hP hD hS => ?_)
  have hP : va_P k.1 vwCl ((h0, .inr (0, [.int 0, .int 10000, .int 1, .int 4, .int 0, .int 0, .ref q1, .ref q2, .ref q3, .ref q4, .ref q5, .ref q6, .ref q7, .ref q8, .ref q9, .ref q10, .ref q11, .ref q12, .null, .null])) :: T12) H := hP
  have hD : va_D A ((h0, .inr (0, [.int 0, .int 10000, .int 1, .int 4, .int 0, .int 0, .ref q1, .ref q2, .ref q3, .ref q4, .ref q5, .ref q6, .ref q7, .ref q8, .ref q9, .ref q10, .ref q11, .ref q12, .null, .null])) :: T12) := hD
  refine lv_aload_n hx hb dX0_init_148 rfl (lv_at hl 0 rfl) ?_
  refine lv_bipush (v := 10) hx hb dX0_init_149 (by decide) ?_
  refine rx_newI ⟨hx, hb, hml, hown, hts⟩ (by decide +kernel) hK hP hD hS hA (n := 10) (N := 10) (by decide) (by decide) (by decide) (Nat.le_of_ble_eq_true rfl) (Nat.le_of_ble_eq_true rfl) dX0_init_151 (fun q13 H hP hD hS => ?_)
  have hP : va_P k.1 vwCl ((h0, .inr (0, [.int 0, .int 10000, .int 1, .int 4, .int 0, .int 0, .ref q1, .ref q2, .ref q3, .ref q4, .ref q5, .ref q6, .ref q7, .ref q8, .ref q9, .ref q10, .ref q11, .ref q12, .null, .null])) :: (T12 ++ [(q13, .inl (k.2.1, 10, .inl (fun _ => 0)))])) H := hP
  have hD : va_D A ((h0, .inr (0, [.int 0, .int 10000, .int 1, .int 4, .int 0, .int 0, .ref q1, .ref q2, .ref q3, .ref q4, .ref q5, .ref q6, .ref q7, .ref q8, .ref q9, .ref q10, .ref q11, .ref q12, .null, .null])) :: (T12 ++ [(q13, .inl (k.2.1, 10, .inl (fun _ => 0)))])) := hD
  obtain ⟨T13, hT13⟩ : ∃ TT : va_W, TT = T12 ++ [(q13, .inl (k.2.1, 10, .inl (fun _ => 0)))] := ⟨_, rfl⟩
  rw [← hT13] at hP hD
  refine va_putF (D := k.1) (ci := 0) (v := .ref q13) (ty := .array .int) (C := RX0) (T := TX0) (N := 20) hx hb hts hin tyX0 tyX0_ok nmX0 hown hK hP hD hS 0 rfl rfl 18 (by decide) (hts (.fieldLink RX0 68 "RankMesh" "tellsAt" "[I") (by decide +kernel)) (fun _ h9 => h9) rfl hinit rfl (by decide +kernel) rfl rfl (Nat.le_of_ble_eq_true rfl) dX0_init_153 (fun H locs hP hD hS => ?_)
  have hP : va_P k.1 vwCl ((h0, .inr (0, [.int 0, .int 10000, .int 1, .int 4, .int 0, .int 0, .ref q1, .ref q2, .ref q3, .ref q4, .ref q5, .ref q6, .ref q7, .ref q8, .ref q9, .ref q10, .ref q11, .ref q12, .ref q13, .null])) :: T13) H := hP
  have hD : va_D A ((h0, .inr (0, [.int 0, .int 10000, .int 1, .int 4, .int 0, .int 0, .ref q1, .ref q2, .ref q3, .ref q4, .ref q5, .ref q6, .ref q7, .ref q8, .ref q9, .ref q10, .ref q11, .ref q12, .ref q13, .null])) :: T13) := hD
  refine lv_aload_n hx hb dX0_init_156 rfl (lv_at hl 0 rfl) ?_
  refine lv_bipush (v := 10) hx hb dX0_init_157 (by decide) ?_
  refine rx_newI ⟨hx, hb, hml, hown, hts⟩ (by decide +kernel) hK hP hD hS hA (n := 10) (N := 10) (by decide) (by decide) (by decide) (Nat.le_of_ble_eq_true rfl) (Nat.le_of_ble_eq_true rfl) dX0_init_159 (fun q14 H hP hD hS => ?_)
  have hP : va_P k.1 vwCl ((h0, .inr (0, [.int 0, .int 10000, .int 1, .int 4, .int 0, .int 0, .ref q1, .ref q2, .ref q3, .ref q4, .ref q5, .ref q6, .ref q7, .ref q8, .ref q9, .ref q10, .ref q11, .ref q12, .ref q13, .null])) :: (T13 ++ [(q14, .inl (k.2.1, 10, .inl (fun _ => 0)))])) H := hP
  have hD : va_D A ((h0, .inr (0, [.int 0, .int 10000, .int 1, .int 4, .int 0, .int 0, .ref q1, .ref q2, .ref q3, .ref q4, .ref q5, .ref q6, .ref q7, .ref q8, .ref q9, .ref q10, .ref q11, .ref q12, .ref q13, .null])) :: (T13 ++ [(q14, .inl (k.2.1, 10, .inl (fun _ => 0)))])) := hD
  obtain ⟨T14, hT14⟩ : ∃ TT : va_W, TT = T13 ++ [(q14, .inl (k.2.1, 10, .inl (fun _ => 0)))] := ⟨_, rfl⟩
  rw [← hT14] at hP hD
  refine va_putF (D := k.1) (ci := 0) (v := .ref q14) (ty := .array .int) (C := RX0) (T := TX0) (N := 20) hx hb hts hin tyX0 tyX0_ok nmX0 hown hK hP hD hS 0 rfl rfl 19 (by decide) (hts (.fieldLink RX0 71 "RankMesh" "wayCost" "[I") (by decide +kernel)) (fun _ h9 => h9) rfl hinit rfl (by decide +kernel) rfl rfl (Nat.le_of_ble_eq_true rfl) dX0_init_161 (fun H locs hP hD hS => ?_)
  have hP : va_P k.1 vwCl ((h0, .inr (0, [.int 0, .int 10000, .int 1, .int 4, .int 0, .int 0, .ref q1, .ref q2, .ref q3, .ref q4, .ref q5, .ref q6, .ref q7, .ref q8, .ref q9, .ref q10, .ref q11, .ref q12, .ref q13, .ref q14])) :: T14) H := hP
  have hD : va_D A ((h0, .inr (0, [.int 0, .int 10000, .int 1, .int 4, .int 0, .int 0, .ref q1, .ref q2, .ref q3, .ref q4, .ref q5, .ref q6, .ref q7, .ref q8, .ref q9, .ref q10, .ref q11, .ref q12, .ref q13, .ref q14])) :: T14) := hD
  subst hT14
  subst hT13
  subst hT12
  subst hT11
  subst hT10
  subst hT9
  subst hT8
  subst hT7
  subst hT6
  subst hT5
  subst hT4
  subst hT3
  subst hT2
  subst hT1
  obtain ⟨a, ha0, hPa, hDa⟩ := rm_asm k A _ h0 q1 q2 q3 q4 q5 q6 q7 q8 q9 q10 q11 q12 q13 q14 r1 r2 r3 r4 hP hD
  subst ha0
  refine rm_initL (C := ⟨⟨hx, hb, hml, hown, hts⟩, hin⟩) (rm_D_inj hDa) hA ⟨hK, hPa, hDa, hS⟩ hl (fun H locs ls hw => ?_)
  exact W.vret hx hb hr (fun t ht hW => ⟨⟨a, rfl, rfl, ⟨by rw [ht]; exact hw.2.1, va_K.moved hW.alike hw.1⟩, hw.2.2.1⟩, hw.2.2.2.F ht⟩) hw.2.2.2.2.2 dX0_init_208 hlocks

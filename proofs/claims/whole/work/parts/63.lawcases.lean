set_option maxHeartbeats 4000000 in
set_option maxRecDepth 100000 in
theorem rw_case_setRules {p : Program} {l : Launch} {e : Env} {s : State} {m : MethodId} {args : Array Value} {below : List Frame} {meth : Method} {c : Code} {H : Heap} {locs : List Loc} {cells slots : Nat} {Q : State → Prop} {ls : Array Slot} {k : rm_K} {a b : Nat → Nat} {o bq L i : Nat} {xs : Nat → Int32} {σ τ τ1 : rm_St} {f : Nat → Int64} {r1 : Int32} (hfl : l.stackTraces = false) (CF : CallFix p m c cL_law 7 s args wsL_law RL) (E : rw_E k a b o s) (hw : rw_Wd k a b o s σ τ f H locs) (hX : va_X bq L xs s s.heap) (hbl : bq < s.heap.size) (hi : i + 5 ≤ L) (hL : L ≤ 2560) (hl : lv_has ls 7 [(0, .ref bq), (1, .ref (a 0)), (2, .ref (b 0)), (3, .ref o), (4, .int (nI i))]) (hc : cells + 4 ≤ 624306) (hs : slots + 24 ≤ 7223187) (hM : rn_MV l k b yX1_setRules wsX1_setRules ({ frames := 1, cells := 0, slots := 0, locals := 22 }) [.int (xs (i + 1)), .int (xs (i + 2)), .int (xs (i + 3)), .int (xs (i + 4))] τ τ1) (h1 : τ1 0 20 = (rl_c1 (rm_tSet (xs (i + 1)) (xs (i + 2)) (xs (i + 3)) (xs (i + 4))))) (kk : ∀ (H1 : Heap) (locs1 : List Loc) (ls1 : Array Slot), rw_Wd k a b o s ((rl_s ((rm_setS σ (xs (i + 1)) (xs (i + 2)) (xs (i + 3)) (xs (i + 4))), f) (σ, f) (rm_tSet (xs (i + 1)) (xs (i + 2)) (xs (i + 3)) (xs (i + 4))))).1 τ1 ((rl_s ((rm_setS σ (xs (i + 1)) (xs (i + 2)) (xs (i + 3)) (xs (i + 4))), f) (σ, f) (rm_tSet (xs (i + 1)) (xs (i + 2)) (xs (i + 3)) (xs (i + 4))))).2 H1 locs1 → lv_has ls1 7 [(0, .ref bq), (1, .ref (a 0)), (2, .ref (b 0)), (3, .ref o), (4, .int (nI i))] → W p l e room_1 s m args below meth c H1 locs1 (cells + 4) (slots + 24) Q (F0 m 1030 ls1 [])) : W p l e room_1 s m args below meth c H locs cells slots Q (F0 m 120 ls []) := by
  have hx := CF.1
  have hb := CF.2.1
  have hts := CF.2.2.2.2
  have e1 : ∀ q : Nat, nI i + nI q = nI (i + q) := fun q => nI_add i q
  refine lv_aload_n hx hb dL_law_120 rfl (lv_at hl 1 rfl) ?_
  refine lv_aload_n hx hb dL_law_121 rfl (lv_at hl 0 rfl) ?_
  refine lv_iload hx hb dL_law_122 (lv_at hl 4 rfl) ?_
  refine lv_iconst (v := 1) hx hb dL_law_124 (by decide) ?_
  refine lv_iadd hx hb dL_law_125 ?_
  rw [show nI i + (1 : Int32) = nI (i + 1) from e1 1]
  refine rw_ld CF hw hX hbl (i := i + 1) (by omega) hL dL_law_126 ?_
  refine lv_aload_n hx hb dL_law_127 rfl (lv_at hl 0 rfl) ?_
  refine lv_iload hx hb dL_law_128 (lv_at hl 4 rfl) ?_
  refine lv_iconst (v := 2) hx hb dL_law_130 (by decide) ?_
  refine lv_iadd hx hb dL_law_131 ?_
  rw [show nI i + (2 : Int32) = nI (i + 2) from e1 2]
  refine rw_ld CF hw hX hbl (i := i + 2) (by omega) hL dL_law_132 ?_
  refine lv_aload_n hx hb dL_law_133 rfl (lv_at hl 0 rfl) ?_
  refine lv_iload hx hb dL_law_134 (lv_at hl 4 rfl) ?_
  refine lv_iconst (v := 3) hx hb dL_law_136 (by decide) ?_
  refine lv_iadd hx hb dL_law_137 ?_
  rw [show nI i + (3 : Int32) = nI (i + 3) from e1 3]
  refine rw_ld CF hw hX hbl (i := i + 3) (by omega) hL dL_law_138 ?_
  refine lv_aload_n hx hb dL_law_139 rfl (lv_at hl 0 rfl) ?_
  refine lv_iload hx hb dL_law_140 (lv_at hl 4 rfl) ?_
  refine lv_iconst (v := 4) hx hb dL_law_142 (by decide) ?_
  refine lv_iadd hx hb dL_law_143 ?_
  rw [show nI i + (4 : Int32) = nI (i + 4) from e1 4]
  refine rw_ld CF hw hX hbl (i := i + 4) (by omega) hL dL_law_144 ?_
  refine rw_callW CF E hw (As := [.ref (a 0), .int (xs (i + 1)), .int (xs (i + 2)), .int (xs (i + 3)), .int (xs (i + 4))]) (rest := []) (jL_setRules l hfl k a E.2.2.2.1.1 o E.2.2.2.2.2.1 σ f (xs (i + 1)) (xs (i + 2)) (xs (i + 3)) (xs (i + 4)) H.size) (vx_cwSW 5 hts gL_law_L_setRules rfl rfl rfl (by decide +kernel) ⟨Nat.le_of_ble_eq_true rfl, Nat.le_of_ble_eq_true rfl⟩) rfl hl.1 rfl (lv_room (Nat.le_of_ble_eq_true rfl)) dL_law_145 ⟨by show cells + 4 ≤ 624306; omega, by show slots + 24 ≤ 7223187; omega⟩ (fun H locs hw => ?_)
  refine lv_istore (lv' := [(5, .int (rl_c1 (rm_tSet (xs (i + 1)) (xs (i + 2)) (xs (i + 3)) (xs (i + 4))))), (0, .ref bq), (1, .ref (a 0)), (2, .ref (b 0)), (3, .ref o), (4, .int (nI i))]) hx hb dL_law_148 hl (by decide) rfl (fun ls hl => ?_)
  refine lv_aload_n hx hb dL_law_150 rfl (lv_at hl 3 rfl) ?_
  refine lv_aload_n hx hb dL_law_151 rfl (lv_at hl 1 rfl) ?_
  refine lv_iload hx hb dL_law_152 (lv_at hl 5 rfl) ?_
  refine lv_iconst (v := 1) hx hb dL_law_154 (by decide) ?_
  refine lv_iadd hx hb dL_law_155 ?_
  rw [show nI i + (1 : Int32) = nI (i + 1) from e1 1]
  refine rw_ld CF hw hX hbl (i := i + 1) (by omega) hL dL_law_156 ?_
  refine lv_aload_n hx hb dL_law_157 rfl (lv_at hl 1 rfl) ?_
  refine lv_iload hx hb dL_law_158 (lv_at hl 5 rfl) ?_
  refine lv_iconst (v := 2) hx hb dL_law_160 (by decide) ?_
  refine lv_iadd hx hb dL_law_161 ?_
  rw [show nI i + (2 : Int32) = nI (i + 2) from e1 2]
  refine rw_ld CF hw hX hbl (i := i + 2) (by omega) hL dL_law_162 ?_
  refine lv_aload_n hx hb dL_law_163 rfl (lv_at hl 1 rfl) ?_
  refine lv_iload hx hb dL_law_164 (lv_at hl 5 rfl) ?_
  refine lv_iconst (v := 3) hx hb dL_law_166 (by decide) ?_
  refine lv_iadd hx hb dL_law_167 ?_
  rw [show nI i + (3 : Int32) = nI (i + 3) from e1 3]
  refine rw_ld CF hw hX hbl (i := i + 3) (by omega) hL dL_law_168 ?_
  refine lv_aload_n hx hb dL_law_169 rfl (lv_at hl 1 rfl) ?_
  refine lv_iload hx hb dL_law_170 (lv_at hl 5 rfl) ?_
  refine lv_iconst (v := 4) hx hb dL_law_172 (by decide) ?_
  refine lv_iadd hx hb dL_law_173 ?_
  rw [show nI i + (4 : Int32) = nI (i + 4) from e1 4]
  refine rw_ld CF hw hX hbl (i := i + 4) (by omega) hL dL_law_174 ?_
  refine rw_callV CF E hw (As := [.int (xs (i + 1)), .int (xs (i + 2)), .int (xs (i + 3)), .int (xs (i + 4))]) (rest := []) hM (cwV 4 hts gL_law_X1_setRules rfl rfl rfl (by decide +kernel) ⟨Nat.le_of_ble_eq_true rfl, Nat.le_of_ble_eq_true rfl⟩) rfl hl.1 rfl (lv_room (Nat.le_of_ble_eq_true rfl)) dL_law_175 ⟨by show cells + 4 ≤ 624306; omega, by show slots + 24 ≤ 7223187; omega⟩ (fun H locs hw => ?_)
  refine lv_aload_n hx hb dL_law_178 rfl (lv_at hl 3 rfl) ?_
  refine rw_callI CF E hw (As := []) (rest := []) (kX1_thrown l k b E.2.2.2.1.2 τ1) (cwV 0 hts gL_law_X1_thrown rfl rfl rfl (by decide +kernel) ⟨Nat.le_of_ble_eq_true rfl, Nat.le_of_ble_eq_true rfl⟩) rfl hl.1 rfl (lv_room (Nat.le_of_ble_eq_true rfl)) dL_law_179 ⟨by show cells + 4 ≤ 624306; omega, by show slots + 24 ≤ 7223187; omega⟩ (fun H locs hw => ?_)
  refine lv_iload hx hb dL_law_182 (lv_at hl 0 rfl) ?_
  refine lv_icmp_eq (tgt := 189) hx hb dL_law_184 (by decide) (fun ce => ?_) (fun ce => absurd h1 ce)
  refine lv_goto (tgt := 1030) hx hb dL_law_189 (by decide) ?_
  exact kk _ _ _ hw (lv_sub hl [1, 2, 3, 4, 5] rfl)
set_option maxHeartbeats 4000000 in
set_option maxRecDepth 100000 in
theorem rw_case_link {p : Program} {l : Launch} {e : Env} {s : State} {m : MethodId} {args : Array Value} {below : List Frame} {meth : Method} {c : Code} {H : Heap} {locs : List Loc} {cells slots : Nat} {Q : State → Prop} {ls : Array Slot} {k : rm_K} {a b : Nat → Nat} {o bq L i : Nat} {xs : Nat → Int32} {σ τ τ1 : rm_St} {f : Nat → Int64} {r1 : Int32} (hfl : l.stackTraces = false) (CF : CallFix p m c cL_law 7 s args wsL_law RL) (E : rw_E k a b o s) (hw : rw_Wd k a b o s σ τ f H locs) (hX : va_X bq L xs s s.heap) (hbl : bq < s.heap.size) (hi : i + 5 ≤ L) (hL : L ≤ 2560) (hl : lv_has ls 7 [(0, .ref bq), (1, .ref (a 0)), (2, .ref (b 0)), (3, .ref o), (4, .int (nI i))]) (hc : cells + 4 ≤ 624306) (hs : slots + 24 ≤ 7223187) (hM : rn_MI l k b yX1_link wsX1_link ({ frames := 3, cells := 0, slots := 0, locals := 75 }) [.int (xs (i + 1)), .int (xs (i + 2)), .int (xs (i + 3))] τ r1 τ1) (h1 : τ1 0 20 = (rl_c2 rm_IO (rm_tLink (xs (i + 1)) (xs (i + 2)) (xs (i + 3))))) (h2 : (rl_c2 rm_IO (rm_tLink (xs (i + 1)) (xs (i + 2)) (xs (i + 3)))) = 0 → ((rl_s ((rm_linkS σ (xs (i + 1)) (xs (i + 2)) (xs (i + 3))), (vp_updL f 0 ((σ (15 + (xs (i + 1)).toNatClampNeg) (xs (i + 2)).toNatClampNeg)).toInt64)) (σ, f) (rm_tLink (xs (i + 1)) (xs (i + 2)) (xs (i + 3))))).2 0 = r1.toInt64) (kk : ∀ (H1 : Heap) (locs1 : List Loc) (ls1 : Array Slot), rw_Wd k a b o s ((rl_s ((rm_linkS σ (xs (i + 1)) (xs (i + 2)) (xs (i + 3))), (vp_updL f 0 ((σ (15 + (xs (i + 1)).toNatClampNeg) (xs (i + 2)).toNatClampNeg)).toInt64)) (σ, f) (rm_tLink (xs (i + 1)) (xs (i + 2)) (xs (i + 3))))).1 τ1 ((rl_s ((rm_linkS σ (xs (i + 1)) (xs (i + 2)) (xs (i + 3))), (vp_updL f 0 ((σ (15 + (xs (i + 1)).toNatClampNeg) (xs (i + 2)).toNatClampNeg)).toInt64)) (σ, f) (rm_tLink (xs (i + 1)) (xs (i + 2)) (xs (i + 3))))).2 H1 locs1 → lv_has ls1 7 [(0, .ref bq), (1, .ref (a 0)), (2, .ref (b 0)), (3, .ref o), (4, .int (nI i))] → W p l e room_1 s m args below meth c H1 locs1 (cells + 4) (slots + 24) Q (F0 m 1030 ls1 [])) : W p l e room_1 s m args below meth c H locs cells slots Q (F0 m 192 ls []) := by
  have hx := CF.1
  have hb := CF.2.1
  have hts := CF.2.2.2.2
  have e1 : ∀ q : Nat, nI i + nI q = nI (i + q) := fun q => nI_add i q
  refine lv_aload_n hx hb dL_law_192 rfl (lv_at hl 1 rfl) ?_
  refine lv_aload_n hx hb dL_law_193 rfl (lv_at hl 0 rfl) ?_
  refine lv_iload hx hb dL_law_194 (lv_at hl 4 rfl) ?_
  refine lv_iconst (v := 1) hx hb dL_law_196 (by decide) ?_
  refine lv_iadd hx hb dL_law_197 ?_
  rw [show nI i + (1 : Int32) = nI (i + 1) from e1 1]
  refine rw_ld CF hw hX hbl (i := i + 1) (by omega) hL dL_law_198 ?_
  refine lv_aload_n hx hb dL_law_199 rfl (lv_at hl 0 rfl) ?_
  refine lv_iload hx hb dL_law_200 (lv_at hl 4 rfl) ?_
  refine lv_iconst (v := 2) hx hb dL_law_202 (by decide) ?_
  refine lv_iadd hx hb dL_law_203 ?_
  rw [show nI i + (2 : Int32) = nI (i + 2) from e1 2]
  refine rw_ld CF hw hX hbl (i := i + 2) (by omega) hL dL_law_204 ?_
  refine lv_aload_n hx hb dL_law_205 rfl (lv_at hl 0 rfl) ?_
  refine lv_iload hx hb dL_law_206 (lv_at hl 4 rfl) ?_
  refine lv_iconst (v := 3) hx hb dL_law_208 (by decide) ?_
  refine lv_iadd hx hb dL_law_209 ?_
  rw [show nI i + (3 : Int32) = nI (i + 3) from e1 3]
  refine rw_ld CF hw hX hbl (i := i + 3) (by omega) hL dL_law_210 ?_
  refine lv_aload_n hx hb dL_law_211 rfl (lv_at hl 3 rfl) ?_
  refine rw_callW CF E hw (As := [.ref (a 0), .int (xs (i + 1)), .int (xs (i + 2)), .int (xs (i + 3)), .ref o]) (rest := []) (jL_link l hfl k a E.2.2.2.1.1 o E.2.2.2.2.2.1 σ f (xs (i + 1)) (xs (i + 2)) (xs (i + 3)) H.size) (vx_cwSW 5 hts gL_law_L_link rfl rfl rfl (by decide +kernel) ⟨Nat.le_of_ble_eq_true rfl, Nat.le_of_ble_eq_true rfl⟩) rfl hl.1 rfl (lv_room (Nat.le_of_ble_eq_true rfl)) dL_law_212 ⟨by show cells + 4 ≤ 624306; omega, by show slots + 24 ≤ 7223187; omega⟩ (fun H locs hw => ?_)
  refine lv_istore (lv' := [(5, .int (rl_c2 rm_IO (rm_tLink (xs (i + 1)) (xs (i + 2)) (xs (i + 3))))), (0, .ref bq), (1, .ref (a 0)), (2, .ref (b 0)), (3, .ref o), (4, .int (nI i))]) hx hb dL_law_215 hl (by decide) rfl (fun ls hl => ?_)
  refine lv_aload_n hx hb dL_law_217 rfl (lv_at hl 3 rfl) ?_
  refine lv_aload_n hx hb dL_law_218 rfl (lv_at hl 1 rfl) ?_
  refine lv_iload hx hb dL_law_219 (lv_at hl 5 rfl) ?_
  refine lv_iconst (v := 1) hx hb dL_law_221 (by decide) ?_
  refine lv_iadd hx hb dL_law_222 ?_
  rw [show nI i + (1 : Int32) = nI (i + 1) from e1 1]
  refine rw_ld CF hw hX hbl (i := i + 1) (by omega) hL dL_law_223 ?_
  refine lv_aload_n hx hb dL_law_224 rfl (lv_at hl 1 rfl) ?_
  refine lv_iload hx hb dL_law_225 (lv_at hl 5 rfl) ?_
  refine lv_iconst (v := 2) hx hb dL_law_227 (by decide) ?_
  refine lv_iadd hx hb dL_law_228 ?_
  rw [show nI i + (2 : Int32) = nI (i + 2) from e1 2]
  refine rw_ld CF hw hX hbl (i := i + 2) (by omega) hL dL_law_229 ?_
  refine lv_aload_n hx hb dL_law_230 rfl (lv_at hl 1 rfl) ?_
  refine lv_iload hx hb dL_law_231 (lv_at hl 5 rfl) ?_
  refine lv_iconst (v := 3) hx hb dL_law_233 (by decide) ?_
  refine lv_iadd hx hb dL_law_234 ?_
  rw [show nI i + (3 : Int32) = nI (i + 3) from e1 3]
  refine rw_ld CF hw hX hbl (i := i + 3) (by omega) hL dL_law_235 ?_
  refine rw_callI CF E hw (As := [.int (xs (i + 1)), .int (xs (i + 2)), .int (xs (i + 3))]) (rest := []) hM (cwV 3 hts gL_law_X1_link rfl rfl rfl (by decide +kernel) ⟨Nat.le_of_ble_eq_true rfl, Nat.le_of_ble_eq_true rfl⟩) rfl hl.1 rfl (lv_room (Nat.le_of_ble_eq_true rfl)) dL_law_236 ⟨by show cells + 4 ≤ 624306; omega, by show slots + 24 ≤ 7223187; omega⟩ (fun H locs hw => ?_)
  refine lv_istore (lv' := [(6, .int r1), (5, .int (rl_c2 rm_IO (rm_tLink (xs (i + 1)) (xs (i + 2)) (xs (i + 3))))), (0, .ref bq), (1, .ref (a 0)), (2, .ref (b 0)), (3, .ref o), (4, .int (nI i))]) hx hb dL_law_239 hl (by decide) rfl (fun ls hl => ?_)
  refine lv_aload_n hx hb dL_law_241 rfl (lv_at hl 4 rfl) ?_
  refine rw_callI CF E hw (As := []) (rest := []) (kX1_thrown l k b E.2.2.2.1.2 τ1) (cwV 0 hts gL_law_X1_thrown rfl rfl rfl (by decide +kernel) ⟨Nat.le_of_ble_eq_true rfl, Nat.le_of_ble_eq_true rfl⟩) rfl hl.1 rfl (lv_room (Nat.le_of_ble_eq_true rfl)) dL_law_242 ⟨by show cells + 4 ≤ 624306; omega, by show slots + 24 ≤ 7223187; omega⟩ (fun H locs hw => ?_)
  refine lv_iload hx hb dL_law_245 (lv_at hl 1 rfl) ?_
  refine lv_icmp_eq (tgt := 252) hx hb dL_law_247 (by decide) (fun ce => ?_) (fun ce => absurd h1 ce)
  refine lv_iload hx hb dL_law_252 (lv_at hl 1 rfl) ?_
  refine lv_if_ne (tgt := 269) hx hb dL_law_254 (by decide) (fun cz => ?_) (fun cz => ?_)
  · skip
    refine lv_goto (tgt := 1030) hx hb dL_law_269 (by decide) ?_
    exact kk _ _ _ hw (lv_sub hl [2, 3, 4, 5, 6] rfl)
  · skip
    refine lv_aload_n hx hb dL_law_257 rfl (lv_at hl 5 rfl) ?_
    refine lv_iconst (v := 0) hx hb dL_law_258 (by decide) ?_
    refine rw_out CF E hw dL_law_259 ?_
    refine lv_iload hx hb dL_law_260 (lv_at hl 0 rfl) ?_
    refine lv_i2l (v := r1.toInt64) hx hb dL_law_262 rfl ?_
    refine W.lcmp hx hb dL_law_263 ?_
    refine lv_if_eq (tgt := 269) hx hb dL_law_264 (by decide) (fun cq => ?_) (fun cq => absurd (by rw [h2 cz]; simp [lg_cmp]) cq)
    refine lv_goto (tgt := 1030) hx hb dL_law_269 (by decide) ?_
    exact kk _ _ _ hw (lv_sub hl [2, 3, 4, 5, 6] rfl)
set_option maxHeartbeats 4000000 in
set_option maxRecDepth 100000 in
theorem rw_case_makeRoot {p : Program} {l : Launch} {e : Env} {s : State} {m : MethodId} {args : Array Value} {below : List Frame} {meth : Method} {c : Code} {H : Heap} {locs : List Loc} {cells slots : Nat} {Q : State → Prop} {ls : Array Slot} {k : rm_K} {a b : Nat → Nat} {o bq L i : Nat} {xs : Nat → Int32} {σ τ τ1 : rm_St} {f : Nat → Int64} {r1 : Int32} (hfl : l.stackTraces = false) (CF : CallFix p m c cL_law 7 s args wsL_law RL) (E : rw_E k a b o s) (hw : rw_Wd k a b o s σ τ f H locs) (hX : va_X bq L xs s s.heap) (hbl : bq < s.heap.size) (hi : i + 5 ≤ L) (hL : L ≤ 2560) (hl : lv_has ls 7 [(0, .ref bq), (1, .ref (a 0)), (2, .ref (b 0)), (3, .ref o), (4, .int (nI i))]) (hc : cells + 4 ≤ 624306) (hs : slots + 24 ≤ 7223187) (hM : rn_MI l k b yX1_makeRoot wsX1_makeRoot ({ frames := 2, cells := 0, slots := 0, locals := 42 }) [.int (xs (i + 1))] τ r1 τ1) (h1 : τ1 0 20 = (rl_c2 rm_IO (rm_tMake σ (xs (i + 1))))) (h2 : (rl_c2 rm_IO (rm_tMake σ (xs (i + 1)))) = 0 → ((rl_s ((rm_begin (rm_mk σ (xs (i + 1)).toNatClampNeg) (xs (i + 1)).toNatClampNeg), (vp_updL f 0 ((rm_begin (rm_mk σ (xs (i + 1)).toNatClampNeg) (xs (i + 1)).toNatClampNeg 8 (xs (i + 1)).toNatClampNeg)).toInt64)) (σ, f) (rm_tMake σ (xs (i + 1))))).2 0 = r1.toInt64) (kk : ∀ (H1 : Heap) (locs1 : List Loc) (ls1 : Array Slot), rw_Wd k a b o s ((rl_s ((rm_begin (rm_mk σ (xs (i + 1)).toNatClampNeg) (xs (i + 1)).toNatClampNeg), (vp_updL f 0 ((rm_begin (rm_mk σ (xs (i + 1)).toNatClampNeg) (xs (i + 1)).toNatClampNeg 8 (xs (i + 1)).toNatClampNeg)).toInt64)) (σ, f) (rm_tMake σ (xs (i + 1))))).1 τ1 ((rl_s ((rm_begin (rm_mk σ (xs (i + 1)).toNatClampNeg) (xs (i + 1)).toNatClampNeg), (vp_updL f 0 ((rm_begin (rm_mk σ (xs (i + 1)).toNatClampNeg) (xs (i + 1)).toNatClampNeg 8 (xs (i + 1)).toNatClampNeg)).toInt64)) (σ, f) (rm_tMake σ (xs (i + 1))))).2 H1 locs1 → lv_has ls1 7 [(0, .ref bq), (1, .ref (a 0)), (2, .ref (b 0)), (3, .ref o), (4, .int (nI i))] → W p l e room_1 s m args below meth c H1 locs1 (cells + 2) (slots + 12) Q (F0 m 1030 ls1 [])) : W p l e room_1 s m args below meth c H locs cells slots Q (F0 m 272 ls []) := by
  have hx := CF.1
  have hb := CF.2.1
  have hts := CF.2.2.2.2
  have e1 : ∀ q : Nat, nI i + nI q = nI (i + q) := fun q => nI_add i q
  refine lv_aload_n hx hb dL_law_272 rfl (lv_at hl 1 rfl) ?_
  refine lv_aload_n hx hb dL_law_273 rfl (lv_at hl 0 rfl) ?_
  refine lv_iload hx hb dL_law_274 (lv_at hl 4 rfl) ?_
  refine lv_iconst (v := 1) hx hb dL_law_276 (by decide) ?_
  refine lv_iadd hx hb dL_law_277 ?_
  rw [show nI i + (1 : Int32) = nI (i + 1) from e1 1]
  refine rw_ld CF hw hX hbl (i := i + 1) (by omega) hL dL_law_278 ?_
  refine lv_aload_n hx hb dL_law_279 rfl (lv_at hl 3 rfl) ?_
  refine rw_callW CF E hw (As := [.ref (a 0), .int (xs (i + 1)), .ref o]) (rest := []) (jL_makeRoot l hfl k a E.2.2.2.1.1 o E.2.2.2.2.2.1 σ f (xs (i + 1)) H.size) (vx_cwSW 3 hts gL_law_L_makeRoot rfl rfl rfl (by decide +kernel) ⟨Nat.le_of_ble_eq_true rfl, Nat.le_of_ble_eq_true rfl⟩) rfl hl.1 rfl (lv_room (Nat.le_of_ble_eq_true rfl)) dL_law_280 ⟨by show cells + 2 ≤ 624306; omega, by show slots + 12 ≤ 7223187; omega⟩ (fun H locs hw => ?_)
  refine lv_istore (lv' := [(5, .int (rl_c2 rm_IO (rm_tMake σ (xs (i + 1))))), (0, .ref bq), (1, .ref (a 0)), (2, .ref (b 0)), (3, .ref o), (4, .int (nI i))]) hx hb dL_law_283 hl (by decide) rfl (fun ls hl => ?_)
  refine lv_aload_n hx hb dL_law_285 rfl (lv_at hl 3 rfl) ?_
  refine lv_aload_n hx hb dL_law_286 rfl (lv_at hl 1 rfl) ?_
  refine lv_iload hx hb dL_law_287 (lv_at hl 5 rfl) ?_
  refine lv_iconst (v := 1) hx hb dL_law_289 (by decide) ?_
  refine lv_iadd hx hb dL_law_290 ?_
  rw [show nI i + (1 : Int32) = nI (i + 1) from e1 1]
  refine rw_ld CF hw hX hbl (i := i + 1) (by omega) hL dL_law_291 ?_
  refine rw_callI CF E hw (As := [.int (xs (i + 1))]) (rest := []) hM (cwV 1 hts gL_law_X1_makeRoot rfl rfl rfl (by decide +kernel) ⟨Nat.le_of_ble_eq_true rfl, Nat.le_of_ble_eq_true rfl⟩) rfl hl.1 rfl (lv_room (Nat.le_of_ble_eq_true rfl)) dL_law_292 ⟨by show cells + 2 ≤ 624306; omega, by show slots + 12 ≤ 7223187; omega⟩ (fun H locs hw => ?_)
  refine lv_istore (lv' := [(6, .int r1), (5, .int (rl_c2 rm_IO (rm_tMake σ (xs (i + 1))))), (0, .ref bq), (1, .ref (a 0)), (2, .ref (b 0)), (3, .ref o), (4, .int (nI i))]) hx hb dL_law_295 hl (by decide) rfl (fun ls hl => ?_)
  refine lv_aload_n hx hb dL_law_297 rfl (lv_at hl 4 rfl) ?_
  refine rw_callI CF E hw (As := []) (rest := []) (kX1_thrown l k b E.2.2.2.1.2 τ1) (cwV 0 hts gL_law_X1_thrown rfl rfl rfl (by decide +kernel) ⟨Nat.le_of_ble_eq_true rfl, Nat.le_of_ble_eq_true rfl⟩) rfl hl.1 rfl (lv_room (Nat.le_of_ble_eq_true rfl)) dL_law_298 ⟨by show cells + 2 ≤ 624306; omega, by show slots + 12 ≤ 7223187; omega⟩ (fun H locs hw => ?_)
  refine lv_iload hx hb dL_law_301 (lv_at hl 1 rfl) ?_
  refine lv_icmp_eq (tgt := 308) hx hb dL_law_303 (by decide) (fun ce => ?_) (fun ce => absurd h1 ce)
  refine lv_iload hx hb dL_law_308 (lv_at hl 1 rfl) ?_
  refine lv_if_ne (tgt := 325) hx hb dL_law_310 (by decide) (fun cz => ?_) (fun cz => ?_)
  · skip
    refine lv_goto (tgt := 1030) hx hb dL_law_325 (by decide) ?_
    exact kk _ _ _ hw (lv_sub hl [2, 3, 4, 5, 6] rfl)
  · skip
    refine lv_aload_n hx hb dL_law_313 rfl (lv_at hl 5 rfl) ?_
    refine lv_iconst (v := 0) hx hb dL_law_314 (by decide) ?_
    refine rw_out CF E hw dL_law_315 ?_
    refine lv_iload hx hb dL_law_316 (lv_at hl 0 rfl) ?_
    refine lv_i2l (v := r1.toInt64) hx hb dL_law_318 rfl ?_
    refine W.lcmp hx hb dL_law_319 ?_
    refine lv_if_eq (tgt := 325) hx hb dL_law_320 (by decide) (fun cq => ?_) (fun cq => absurd (by rw [h2 cz]; simp [lg_cmp]) cq)
    refine lv_goto (tgt := 1030) hx hb dL_law_325 (by decide) ?_
    exact kk _ _ _ hw (lv_sub hl [2, 3, 4, 5, 6] rfl)
set_option maxHeartbeats 4000000 in
set_option maxRecDepth 100000 in
theorem rw_case_endRoot {p : Program} {l : Launch} {e : Env} {s : State} {m : MethodId} {args : Array Value} {below : List Frame} {meth : Method} {c : Code} {H : Heap} {locs : List Loc} {cells slots : Nat} {Q : State → Prop} {ls : Array Slot} {k : rm_K} {a b : Nat → Nat} {o bq L i : Nat} {xs : Nat → Int32} {σ τ τ1 : rm_St} {f : Nat → Int64} {r1 : Int32} (hfl : l.stackTraces = false) (CF : CallFix p m c cL_law 7 s args wsL_law RL) (E : rw_E k a b o s) (hw : rw_Wd k a b o s σ τ f H locs) (hX : va_X bq L xs s s.heap) (hbl : bq < s.heap.size) (hi : i + 5 ≤ L) (hL : L ≤ 2560) (hl : lv_has ls 7 [(0, .ref bq), (1, .ref (a 0)), (2, .ref (b 0)), (3, .ref o), (4, .int (nI i))]) (hc : cells + 4 ≤ 624306) (hs : slots + 24 ≤ 7223187) (hM : rn_MV l k b yX1_endRoot wsX1_endRoot ({ frames := 3, cells := 0, slots := 0, locals := 75 }) [.int (xs (i + 1))] τ τ1) (h1 : τ1 0 20 = (rl_c2 rm_IO (rm_tRoot σ (xs (i + 1))))) (kk : ∀ (H1 : Heap) (locs1 : List Loc) (ls1 : Array Slot), rw_Wd k a b o s ((rl_s ((rm_choose (rm_reset (rm_clear (rm_up σ 5 (xs (i + 1)).toNatClampNeg 0) (xs (i + 1)).toNatClampNeg) (xs (i + 1)).toNatClampNeg) (xs (i + 1)).toNatClampNeg), f) (σ, f) (rm_tRoot σ (xs (i + 1))))).1 τ1 ((rl_s ((rm_choose (rm_reset (rm_clear (rm_up σ 5 (xs (i + 1)).toNatClampNeg 0) (xs (i + 1)).toNatClampNeg) (xs (i + 1)).toNatClampNeg) (xs (i + 1)).toNatClampNeg), f) (σ, f) (rm_tRoot σ (xs (i + 1))))).2 H1 locs1 → lv_has ls1 7 [(0, .ref bq), (1, .ref (a 0)), (2, .ref (b 0)), (3, .ref o), (4, .int (nI i))] → W p l e room_1 s m args below meth c H1 locs1 (cells + 2) (slots + 12) Q (F0 m 1030 ls1 [])) : W p l e room_1 s m args below meth c H locs cells slots Q (F0 m 328 ls []) := by
  have hx := CF.1
  have hb := CF.2.1
  have hts := CF.2.2.2.2
  have e1 : ∀ q : Nat, nI i + nI q = nI (i + q) := fun q => nI_add i q
  refine lv_aload_n hx hb dL_law_328 rfl (lv_at hl 1 rfl) ?_
  refine lv_aload_n hx hb dL_law_329 rfl (lv_at hl 0 rfl) ?_
  refine lv_iload hx hb dL_law_330 (lv_at hl 4 rfl) ?_
  refine lv_iconst (v := 1) hx hb dL_law_332 (by decide) ?_
  refine lv_iadd hx hb dL_law_333 ?_
  rw [show nI i + (1 : Int32) = nI (i + 1) from e1 1]
  refine rw_ld CF hw hX hbl (i := i + 1) (by omega) hL dL_law_334 ?_
  refine rw_callW CF E hw (As := [.ref (a 0), .int (xs (i + 1))]) (rest := []) (jL_endRoot l hfl k a E.2.2.2.1.1 o E.2.2.2.2.2.1 σ f (xs (i + 1)) H.size) (vx_cwSW 2 hts gL_law_L_endRoot rfl rfl rfl (by decide +kernel) ⟨Nat.le_of_ble_eq_true rfl, Nat.le_of_ble_eq_true rfl⟩) rfl hl.1 rfl (lv_room (Nat.le_of_ble_eq_true rfl)) dL_law_335 ⟨by show cells + 2 ≤ 624306; omega, by show slots + 12 ≤ 7223187; omega⟩ (fun H locs hw => ?_)
  refine lv_istore (lv' := [(5, .int (rl_c2 rm_IO (rm_tRoot σ (xs (i + 1))))), (0, .ref bq), (1, .ref (a 0)), (2, .ref (b 0)), (3, .ref o), (4, .int (nI i))]) hx hb dL_law_338 hl (by decide) rfl (fun ls hl => ?_)
  refine lv_aload_n hx hb dL_law_340 rfl (lv_at hl 3 rfl) ?_
  refine lv_aload_n hx hb dL_law_341 rfl (lv_at hl 1 rfl) ?_
  refine lv_iload hx hb dL_law_342 (lv_at hl 5 rfl) ?_
  refine lv_iconst (v := 1) hx hb dL_law_344 (by decide) ?_
  refine lv_iadd hx hb dL_law_345 ?_
  rw [show nI i + (1 : Int32) = nI (i + 1) from e1 1]
  refine rw_ld CF hw hX hbl (i := i + 1) (by omega) hL dL_law_346 ?_
  refine rw_callV CF E hw (As := [.int (xs (i + 1))]) (rest := []) hM (cwV 1 hts gL_law_X1_endRoot rfl rfl rfl (by decide +kernel) ⟨Nat.le_of_ble_eq_true rfl, Nat.le_of_ble_eq_true rfl⟩) rfl hl.1 rfl (lv_room (Nat.le_of_ble_eq_true rfl)) dL_law_347 ⟨by show cells + 2 ≤ 624306; omega, by show slots + 12 ≤ 7223187; omega⟩ (fun H locs hw => ?_)
  refine lv_aload_n hx hb dL_law_350 rfl (lv_at hl 3 rfl) ?_
  refine rw_callI CF E hw (As := []) (rest := []) (kX1_thrown l k b E.2.2.2.1.2 τ1) (cwV 0 hts gL_law_X1_thrown rfl rfl rfl (by decide +kernel) ⟨Nat.le_of_ble_eq_true rfl, Nat.le_of_ble_eq_true rfl⟩) rfl hl.1 rfl (lv_room (Nat.le_of_ble_eq_true rfl)) dL_law_351 ⟨by show cells + 2 ≤ 624306; omega, by show slots + 12 ≤ 7223187; omega⟩ (fun H locs hw => ?_)
  refine lv_iload hx hb dL_law_354 (lv_at hl 0 rfl) ?_
  refine lv_icmp_eq (tgt := 361) hx hb dL_law_356 (by decide) (fun ce => ?_) (fun ce => absurd h1 ce)
  refine lv_goto (tgt := 1030) hx hb dL_law_361 (by decide) ?_
  exact kk _ _ _ hw (lv_sub hl [1, 2, 3, 4, 5] rfl)
set_option maxHeartbeats 4000000 in
set_option maxRecDepth 100000 in
theorem rw_case_renew {p : Program} {l : Launch} {e : Env} {s : State} {m : MethodId} {args : Array Value} {below : List Frame} {meth : Method} {c : Code} {H : Heap} {locs : List Loc} {cells slots : Nat} {Q : State → Prop} {ls : Array Slot} {k : rm_K} {a b : Nat → Nat} {o bq L i : Nat} {xs : Nat → Int32} {σ τ τ1 : rm_St} {f : Nat → Int64} {r1 : Int32} (hfl : l.stackTraces = false) (CF : CallFix p m c cL_law 7 s args wsL_law RL) (E : rw_E k a b o s) (hw : rw_Wd k a b o s σ τ f H locs) (hX : va_X bq L xs s s.heap) (hbl : bq < s.heap.size) (hi : i + 5 ≤ L) (hL : L ≤ 2560) (hl : lv_has ls 7 [(0, .ref bq), (1, .ref (a 0)), (2, .ref (b 0)), (3, .ref o), (4, .int (nI i))]) (hc : cells + 4 ≤ 624306) (hs : slots + 24 ≤ 7223187) (hM : rn_MI l k b yX1_renew wsX1_renew ({ frames := 2, cells := 0, slots := 0, locals := 42 }) [.int (xs (i + 1))] τ r1 τ1) (h1 : τ1 0 20 = (rl_c2 rm_IO (rm_tRoot σ (xs (i + 1))))) (h2 : (rl_c2 rm_IO (rm_tRoot σ (xs (i + 1)))) = 0 → ((rl_s ((rm_begin σ (xs (i + 1)).toNatClampNeg), (vp_updL f 0 ((rm_begin σ (xs (i + 1)).toNatClampNeg 8 (xs (i + 1)).toNatClampNeg)).toInt64)) (σ, f) (rm_tRoot σ (xs (i + 1))))).2 0 = r1.toInt64) (kk : ∀ (H1 : Heap) (locs1 : List Loc) (ls1 : Array Slot), rw_Wd k a b o s ((rl_s ((rm_begin σ (xs (i + 1)).toNatClampNeg), (vp_updL f 0 ((rm_begin σ (xs (i + 1)).toNatClampNeg 8 (xs (i + 1)).toNatClampNeg)).toInt64)) (σ, f) (rm_tRoot σ (xs (i + 1))))).1 τ1 ((rl_s ((rm_begin σ (xs (i + 1)).toNatClampNeg), (vp_updL f 0 ((rm_begin σ (xs (i + 1)).toNatClampNeg 8 (xs (i + 1)).toNatClampNeg)).toInt64)) (σ, f) (rm_tRoot σ (xs (i + 1))))).2 H1 locs1 → lv_has ls1 7 [(0, .ref bq), (1, .ref (a 0)), (2, .ref (b 0)), (3, .ref o), (4, .int (nI i))] → W p l e room_1 s m args below meth c H1 locs1 (cells + 2) (slots + 12) Q (F0 m 1030 ls1 [])) : W p l e room_1 s m args below meth c H locs cells slots Q (F0 m 364 ls []) := by
  have hx := CF.1
  have hb := CF.2.1
  have hts := CF.2.2.2.2
  have e1 : ∀ q : Nat, nI i + nI q = nI (i + q) := fun q => nI_add i q
  refine lv_aload_n hx hb dL_law_364 rfl (lv_at hl 1 rfl) ?_
  refine lv_aload_n hx hb dL_law_365 rfl (lv_at hl 0 rfl) ?_
  refine lv_iload hx hb dL_law_366 (lv_at hl 4 rfl) ?_
  refine lv_iconst (v := 1) hx hb dL_law_368 (by decide) ?_
  refine lv_iadd hx hb dL_law_369 ?_
  rw [show nI i + (1 : Int32) = nI (i + 1) from e1 1]
  refine rw_ld CF hw hX hbl (i := i + 1) (by omega) hL dL_law_370 ?_
  refine lv_aload_n hx hb dL_law_371 rfl (lv_at hl 3 rfl) ?_
  refine rw_callW CF E hw (As := [.ref (a 0), .int (xs (i + 1)), .ref o]) (rest := []) (jL_renew l hfl k a E.2.2.2.1.1 o E.2.2.2.2.2.1 σ f (xs (i + 1)) H.size) (vx_cwSW 3 hts gL_law_L_renew rfl rfl rfl (by decide +kernel) ⟨Nat.le_of_ble_eq_true rfl, Nat.le_of_ble_eq_true rfl⟩) rfl hl.1 rfl (lv_room (Nat.le_of_ble_eq_true rfl)) dL_law_372 ⟨by show cells + 2 ≤ 624306; omega, by show slots + 12 ≤ 7223187; omega⟩ (fun H locs hw => ?_)
  refine lv_istore (lv' := [(5, .int (rl_c2 rm_IO (rm_tRoot σ (xs (i + 1))))), (0, .ref bq), (1, .ref (a 0)), (2, .ref (b 0)), (3, .ref o), (4, .int (nI i))]) hx hb dL_law_375 hl (by decide) rfl (fun ls hl => ?_)
  refine lv_aload_n hx hb dL_law_377 rfl (lv_at hl 3 rfl) ?_
  refine lv_aload_n hx hb dL_law_378 rfl (lv_at hl 1 rfl) ?_
  refine lv_iload hx hb dL_law_379 (lv_at hl 5 rfl) ?_
  refine lv_iconst (v := 1) hx hb dL_law_381 (by decide) ?_
  refine lv_iadd hx hb dL_law_382 ?_
  rw [show nI i + (1 : Int32) = nI (i + 1) from e1 1]
  refine rw_ld CF hw hX hbl (i := i + 1) (by omega) hL dL_law_383 ?_
  refine rw_callI CF E hw (As := [.int (xs (i + 1))]) (rest := []) hM (cwV 1 hts gL_law_X1_renew rfl rfl rfl (by decide +kernel) ⟨Nat.le_of_ble_eq_true rfl, Nat.le_of_ble_eq_true rfl⟩) rfl hl.1 rfl (lv_room (Nat.le_of_ble_eq_true rfl)) dL_law_384 ⟨by show cells + 2 ≤ 624306; omega, by show slots + 12 ≤ 7223187; omega⟩ (fun H locs hw => ?_)
  refine lv_istore (lv' := [(6, .int r1), (5, .int (rl_c2 rm_IO (rm_tRoot σ (xs (i + 1))))), (0, .ref bq), (1, .ref (a 0)), (2, .ref (b 0)), (3, .ref o), (4, .int (nI i))]) hx hb dL_law_387 hl (by decide) rfl (fun ls hl => ?_)
  refine lv_aload_n hx hb dL_law_389 rfl (lv_at hl 4 rfl) ?_
  refine rw_callI CF E hw (As := []) (rest := []) (kX1_thrown l k b E.2.2.2.1.2 τ1) (cwV 0 hts gL_law_X1_thrown rfl rfl rfl (by decide +kernel) ⟨Nat.le_of_ble_eq_true rfl, Nat.le_of_ble_eq_true rfl⟩) rfl hl.1 rfl (lv_room (Nat.le_of_ble_eq_true rfl)) dL_law_390 ⟨by show cells + 2 ≤ 624306; omega, by show slots + 12 ≤ 7223187; omega⟩ (fun H locs hw => ?_)
  refine lv_iload hx hb dL_law_393 (lv_at hl 1 rfl) ?_
  refine lv_icmp_eq (tgt := 400) hx hb dL_law_395 (by decide) (fun ce => ?_) (fun ce => absurd h1 ce)
  refine lv_iload hx hb dL_law_400 (lv_at hl 1 rfl) ?_
  refine lv_if_ne (tgt := 417) hx hb dL_law_402 (by decide) (fun cz => ?_) (fun cz => ?_)
  · skip
    refine lv_goto (tgt := 1030) hx hb dL_law_417 (by decide) ?_
    exact kk _ _ _ hw (lv_sub hl [2, 3, 4, 5, 6] rfl)
  · skip
    refine lv_aload_n hx hb dL_law_405 rfl (lv_at hl 5 rfl) ?_
    refine lv_iconst (v := 0) hx hb dL_law_406 (by decide) ?_
    refine rw_out CF E hw dL_law_407 ?_
    refine lv_iload hx hb dL_law_408 (lv_at hl 0 rfl) ?_
    refine lv_i2l (v := r1.toInt64) hx hb dL_law_410 rfl ?_
    refine W.lcmp hx hb dL_law_411 ?_
    refine lv_if_eq (tgt := 417) hx hb dL_law_412 (by decide) (fun cq => ?_) (fun cq => absurd (by rw [h2 cz]; simp [lg_cmp]) cq)
    refine lv_goto (tgt := 1030) hx hb dL_law_417 (by decide) ?_
    exact kk _ _ _ hw (lv_sub hl [2, 3, 4, 5, 6] rfl)
set_option maxHeartbeats 4000000 in
set_option maxRecDepth 100000 in
theorem rw_case_pass {p : Program} {l : Launch} {e : Env} {s : State} {m : MethodId} {args : Array Value} {below : List Frame} {meth : Method} {c : Code} {H : Heap} {locs : List Loc} {cells slots : Nat} {Q : State → Prop} {ls : Array Slot} {k : rm_K} {a b : Nat → Nat} {o bq L i : Nat} {xs : Nat → Int32} {σ τ τ1 : rm_St} {f : Nat → Int64} {r1 : Int32} (hfl : l.stackTraces = false) (CF : CallFix p m c cL_law 7 s args wsL_law RL) (E : rw_E k a b o s) (hw : rw_Wd k a b o s σ τ f H locs) (hX : va_X bq L xs s s.heap) (hbl : bq < s.heap.size) (hi : i + 5 ≤ L) (hL : L ≤ 2560) (hl : lv_has ls 7 [(0, .ref bq), (1, .ref (a 0)), (2, .ref (b 0)), (3, .ref o), (4, .int (nI i))]) (hc : cells + 4 ≤ 624306) (hs : slots + 24 ≤ 7223187) (hM : rn_MI l k b yX1_pass wsX1_pass ({ frames := 4, cells := 0, slots := 0, locals := 98 }) [.int (xs (i + 1))] τ r1 τ1) (h1 : τ1 0 20 = (rl_c1 (rm_tR (xs (i + 1)) 1 100))) (h2 : (rl_c1 (rm_tR (xs (i + 1)) 1 100)) = 0 → ((rl_s (((rm_pass σ (xs (i + 1))).1), (vp_updL f 0 (((rm_pass σ (xs (i + 1))).2)).toInt64)) (σ, f) (rm_tR (xs (i + 1)) 1 100))).2 0 = r1.toInt64) (kk : ∀ (H1 : Heap) (locs1 : List Loc) (ls1 : Array Slot), rw_Wd k a b o s ((rl_s (((rm_pass σ (xs (i + 1))).1), (vp_updL f 0 (((rm_pass σ (xs (i + 1))).2)).toInt64)) (σ, f) (rm_tR (xs (i + 1)) 1 100))).1 τ1 ((rl_s (((rm_pass σ (xs (i + 1))).1), (vp_updL f 0 (((rm_pass σ (xs (i + 1))).2)).toInt64)) (σ, f) (rm_tR (xs (i + 1)) 1 100))).2 H1 locs1 → lv_has ls1 7 [(0, .ref bq), (1, .ref (a 0)), (2, .ref (b 0)), (3, .ref o), (4, .int (nI i))] → W p l e room_1 s m args below meth c H1 locs1 (cells + 1) (slots + 6) Q (F0 m 1030 ls1 [])) : W p l e room_1 s m args below meth c H locs cells slots Q (F0 m 420 ls []) := by
  have hx := CF.1
  have hb := CF.2.1
  have hts := CF.2.2.2.2
  have e1 : ∀ q : Nat, nI i + nI q = nI (i + q) := fun q => nI_add i q
  refine lv_aload_n hx hb dL_law_420 rfl (lv_at hl 1 rfl) ?_
  refine lv_aload_n hx hb dL_law_421 rfl (lv_at hl 0 rfl) ?_
  refine lv_iload hx hb dL_law_422 (lv_at hl 4 rfl) ?_
  refine lv_iconst (v := 1) hx hb dL_law_424 (by decide) ?_
  refine lv_iadd hx hb dL_law_425 ?_
  rw [show nI i + (1 : Int32) = nI (i + 1) from e1 1]
  refine rw_ld CF hw hX hbl (i := i + 1) (by omega) hL dL_law_426 ?_
  refine lv_aload_n hx hb dL_law_427 rfl (lv_at hl 3 rfl) ?_
  refine rw_callW CF E hw (As := [.ref (a 0), .int (xs (i + 1)), .ref o]) (rest := []) (jL_pass l hfl k a E.2.2.2.1.1 o E.2.2.2.2.2.1 σ f (xs (i + 1)) H.size) (vx_cwSW 3 hts gL_law_L_pass rfl rfl rfl (by decide +kernel) ⟨Nat.le_of_ble_eq_true rfl, Nat.le_of_ble_eq_true rfl⟩) rfl hl.1 rfl (lv_room (Nat.le_of_ble_eq_true rfl)) dL_law_428 ⟨by show cells + 1 ≤ 624306; omega, by show slots + 6 ≤ 7223187; omega⟩ (fun H locs hw => ?_)
  refine lv_istore (lv' := [(5, .int (rl_c1 (rm_tR (xs (i + 1)) 1 100))), (0, .ref bq), (1, .ref (a 0)), (2, .ref (b 0)), (3, .ref o), (4, .int (nI i))]) hx hb dL_law_431 hl (by decide) rfl (fun ls hl => ?_)
  refine lv_aload_n hx hb dL_law_433 rfl (lv_at hl 3 rfl) ?_
  refine lv_aload_n hx hb dL_law_434 rfl (lv_at hl 1 rfl) ?_
  refine lv_iload hx hb dL_law_435 (lv_at hl 5 rfl) ?_
  refine lv_iconst (v := 1) hx hb dL_law_437 (by decide) ?_
  refine lv_iadd hx hb dL_law_438 ?_
  rw [show nI i + (1 : Int32) = nI (i + 1) from e1 1]
  refine rw_ld CF hw hX hbl (i := i + 1) (by omega) hL dL_law_439 ?_
  refine rw_callI CF E hw (As := [.int (xs (i + 1))]) (rest := []) hM (cwV 1 hts gL_law_X1_pass rfl rfl rfl (by decide +kernel) ⟨Nat.le_of_ble_eq_true rfl, Nat.le_of_ble_eq_true rfl⟩) rfl hl.1 rfl (lv_room (Nat.le_of_ble_eq_true rfl)) dL_law_440 ⟨by show cells + 1 ≤ 624306; omega, by show slots + 6 ≤ 7223187; omega⟩ (fun H locs hw => ?_)
  refine lv_istore (lv' := [(6, .int r1), (5, .int (rl_c1 (rm_tR (xs (i + 1)) 1 100))), (0, .ref bq), (1, .ref (a 0)), (2, .ref (b 0)), (3, .ref o), (4, .int (nI i))]) hx hb dL_law_443 hl (by decide) rfl (fun ls hl => ?_)
  refine lv_aload_n hx hb dL_law_445 rfl (lv_at hl 4 rfl) ?_
  refine rw_callI CF E hw (As := []) (rest := []) (kX1_thrown l k b E.2.2.2.1.2 τ1) (cwV 0 hts gL_law_X1_thrown rfl rfl rfl (by decide +kernel) ⟨Nat.le_of_ble_eq_true rfl, Nat.le_of_ble_eq_true rfl⟩) rfl hl.1 rfl (lv_room (Nat.le_of_ble_eq_true rfl)) dL_law_446 ⟨by show cells + 1 ≤ 624306; omega, by show slots + 6 ≤ 7223187; omega⟩ (fun H locs hw => ?_)
  refine lv_iload hx hb dL_law_449 (lv_at hl 1 rfl) ?_
  refine lv_icmp_eq (tgt := 456) hx hb dL_law_451 (by decide) (fun ce => ?_) (fun ce => absurd h1 ce)
  refine lv_iload hx hb dL_law_456 (lv_at hl 1 rfl) ?_
  refine lv_if_ne (tgt := 473) hx hb dL_law_458 (by decide) (fun cz => ?_) (fun cz => ?_)
  · skip
    refine lv_goto (tgt := 1030) hx hb dL_law_473 (by decide) ?_
    exact kk _ _ _ hw (lv_sub hl [2, 3, 4, 5, 6] rfl)
  · skip
    refine lv_aload_n hx hb dL_law_461 rfl (lv_at hl 5 rfl) ?_
    refine lv_iconst (v := 0) hx hb dL_law_462 (by decide) ?_
    refine rw_out CF E hw dL_law_463 ?_
    refine lv_iload hx hb dL_law_464 (lv_at hl 0 rfl) ?_
    refine lv_i2l (v := r1.toInt64) hx hb dL_law_466 rfl ?_
    refine W.lcmp hx hb dL_law_467 ?_
    refine lv_if_eq (tgt := 473) hx hb dL_law_468 (by decide) (fun cq => ?_) (fun cq => absurd (by rw [h2 cz]; simp [lg_cmp]) cq)
    refine lv_goto (tgt := 1030) hx hb dL_law_473 (by decide) ?_
    exact kk _ _ _ hw (lv_sub hl [2, 3, 4, 5, 6] rfl)
set_option maxHeartbeats 4000000 in
set_option maxRecDepth 100000 in
theorem rw_case_time {p : Program} {l : Launch} {e : Env} {s : State} {m : MethodId} {args : Array Value} {below : List Frame} {meth : Method} {c : Code} {H : Heap} {locs : List Loc} {cells slots : Nat} {Q : State → Prop} {ls : Array Slot} {k : rm_K} {a b : Nat → Nat} {o bq L i : Nat} {xs : Nat → Int32} {σ τ τ1 : rm_St} {f : Nat → Int64} {r1 : Int32} (hfl : l.stackTraces = false) (CF : CallFix p m c cL_law 7 s args wsL_law RL) (E : rw_E k a b o s) (hw : rw_Wd k a b o s σ τ f H locs) (hX : va_X bq L xs s s.heap) (hbl : bq < s.heap.size) (hi : i + 5 ≤ L) (hL : L ≤ 2560) (hl : lv_has ls 7 [(0, .ref bq), (1, .ref (a 0)), (2, .ref (b 0)), (3, .ref o), (4, .int (nI i))]) (hc : cells + 4 ≤ 624306) (hs : slots + 24 ≤ 7223187) (hM : rn_MI l k b yX1_time wsX1_time ({ frames := 0, cells := 0, slots := 0, locals := 0 }) [] τ r1 τ1) (h1 : σ 0 4 = r1) (kk : ∀ (H1 : Heap) (locs1 : List Loc) (ls1 : Array Slot), rw_Wd k a b o s ((σ, f)).1 τ1 ((σ, f)).2 H1 locs1 → lv_has ls1 7 [(0, .ref bq), (1, .ref (a 0)), (2, .ref (b 0)), (3, .ref o), (4, .int (nI i))] → W p l e room_1 s m args below meth c H1 locs1 (cells + 0) (slots + 0) Q (F0 m 1030 ls1 [])) : W p l e room_1 s m args below meth c H locs cells slots Q (F0 m 476 ls []) := by
  have hx := CF.1
  have hb := CF.2.1
  have hts := CF.2.2.2.2
  have e1 : ∀ q : Nat, nI i + nI q = nI (i + q) := fun q => nI_add i q
  refine lv_aload_n hx hb dL_law_476 rfl (lv_at hl 1 rfl) ?_
  refine rw_callM CF E hw (As := []) (rest := []) (kX0_time l k a E.2.2.2.1.1 σ) (cwV 0 hts gL_law_X0_time rfl rfl rfl (by decide +kernel) ⟨Nat.le_of_ble_eq_true rfl, Nat.le_of_ble_eq_true rfl⟩) rfl hl.1 rfl (lv_room (Nat.le_of_ble_eq_true rfl)) dL_law_477 ⟨by show cells ≤ 624306; omega, by show slots ≤ 7223187; omega⟩ (fun H locs hw => ?_)
  refine lv_aload_n hx hb dL_law_480 rfl (lv_at hl 2 rfl) ?_
  refine rw_callI CF E hw (As := []) (rest := [.int (σ 0 4)]) hM (cwV 0 hts gL_law_X1_time rfl rfl rfl (by decide +kernel) ⟨Nat.le_of_ble_eq_true rfl, Nat.le_of_ble_eq_true rfl⟩) rfl hl.1 rfl (lv_room (Nat.le_of_ble_eq_true rfl)) dL_law_481 ⟨by show cells ≤ 624306; omega, by show slots ≤ 7223187; omega⟩ (fun H locs hw => ?_)
  refine lv_icmp_eq (tgt := 1030) hx hb dL_law_484 (by decide) (fun ce => ?_) (fun ce => absurd h1 ce)
  exact kk _ _ _ hw hl
set_option maxHeartbeats 4000000 in
set_option maxRecDepth 100000 in
theorem rw_case_rank {p : Program} {l : Launch} {e : Env} {s : State} {m : MethodId} {args : Array Value} {below : List Frame} {meth : Method} {c : Code} {H : Heap} {locs : List Loc} {cells slots : Nat} {Q : State → Prop} {ls : Array Slot} {k : rm_K} {a b : Nat → Nat} {o bq L i : Nat} {xs : Nat → Int32} {σ τ τ1 : rm_St} {f : Nat → Int64} {r1 : Int32} (hfl : l.stackTraces = false) (CF : CallFix p m c cL_law 7 s args wsL_law RL) (E : rw_E k a b o s) (hw : rw_Wd k a b o s σ τ f H locs) (hX : va_X bq L xs s s.heap) (hbl : bq < s.heap.size) (hi : i + 5 ≤ L) (hL : L ≤ 2560) (hl : lv_has ls 7 [(0, .ref bq), (1, .ref (a 0)), (2, .ref (b 0)), (3, .ref o), (4, .int (nI i))]) (hc : cells + 4 ≤ 624306) (hs : slots + 24 ≤ 7223187) (hM : rn_MI l k b yX1_rank wsX1_rank ({ frames := 3, cells := 0, slots := 0, locals := 64 }) [.int (xs (i + 1))] τ r1 τ1) (h1 : τ1 0 20 = (rl_c1 (rm_tN (xs (i + 1))))) (h2 : (rl_c1 (rm_tN (xs (i + 1)))) = 0 → ((rl_s (σ, (vp_updL f 0 ((σ 9 (xs (i + 1)).toNatClampNeg)).toInt64)) (σ, f) (rm_tN (xs (i + 1))))).2 0 = r1.toInt64) (kk : ∀ (H1 : Heap) (locs1 : List Loc) (ls1 : Array Slot), rw_Wd k a b o s ((rl_s (σ, (vp_updL f 0 ((σ 9 (xs (i + 1)).toNatClampNeg)).toInt64)) (σ, f) (rm_tN (xs (i + 1))))).1 τ1 ((rl_s (σ, (vp_updL f 0 ((σ 9 (xs (i + 1)).toNatClampNeg)).toInt64)) (σ, f) (rm_tN (xs (i + 1))))).2 H1 locs1 → lv_has ls1 7 [(0, .ref bq), (1, .ref (a 0)), (2, .ref (b 0)), (3, .ref o), (4, .int (nI i))] → W p l e room_1 s m args below meth c H1 locs1 (cells + 1) (slots + 6) Q (F0 m 1030 ls1 [])) : W p l e room_1 s m args below meth c H locs cells slots Q (F0 m 489 ls []) := by
  have hx := CF.1
  have hb := CF.2.1
  have hts := CF.2.2.2.2
  have e1 : ∀ q : Nat, nI i + nI q = nI (i + q) := fun q => nI_add i q
  refine lv_aload_n hx hb dL_law_489 rfl (lv_at hl 1 rfl) ?_
  refine lv_aload_n hx hb dL_law_490 rfl (lv_at hl 0 rfl) ?_
  refine lv_iload hx hb dL_law_491 (lv_at hl 4 rfl) ?_
  refine lv_iconst (v := 1) hx hb dL_law_493 (by decide) ?_
  refine lv_iadd hx hb dL_law_494 ?_
  rw [show nI i + (1 : Int32) = nI (i + 1) from e1 1]
  refine rw_ld CF hw hX hbl (i := i + 1) (by omega) hL dL_law_495 ?_
  refine lv_aload_n hx hb dL_law_496 rfl (lv_at hl 3 rfl) ?_
  refine rw_callW CF E hw (As := [.ref (a 0), .int (xs (i + 1)), .ref o]) (rest := []) (jL_rank l hfl k a E.2.2.2.1.1 o E.2.2.2.2.2.1 σ f (xs (i + 1)) H.size) (vx_cwSW 3 hts gL_law_L_rank rfl rfl rfl (by decide +kernel) ⟨Nat.le_of_ble_eq_true rfl, Nat.le_of_ble_eq_true rfl⟩) rfl hl.1 rfl (lv_room (Nat.le_of_ble_eq_true rfl)) dL_law_497 ⟨by show cells + 1 ≤ 624306; omega, by show slots + 6 ≤ 7223187; omega⟩ (fun H locs hw => ?_)
  refine lv_istore (lv' := [(5, .int (rl_c1 (rm_tN (xs (i + 1))))), (0, .ref bq), (1, .ref (a 0)), (2, .ref (b 0)), (3, .ref o), (4, .int (nI i))]) hx hb dL_law_500 hl (by decide) rfl (fun ls hl => ?_)
  refine lv_aload_n hx hb dL_law_502 rfl (lv_at hl 3 rfl) ?_
  refine lv_aload_n hx hb dL_law_503 rfl (lv_at hl 1 rfl) ?_
  refine lv_iload hx hb dL_law_504 (lv_at hl 5 rfl) ?_
  refine lv_iconst (v := 1) hx hb dL_law_506 (by decide) ?_
  refine lv_iadd hx hb dL_law_507 ?_
  rw [show nI i + (1 : Int32) = nI (i + 1) from e1 1]
  refine rw_ld CF hw hX hbl (i := i + 1) (by omega) hL dL_law_508 ?_
  refine rw_callI CF E hw (As := [.int (xs (i + 1))]) (rest := []) hM (cwV 1 hts gL_law_X1_rank rfl rfl rfl (by decide +kernel) ⟨Nat.le_of_ble_eq_true rfl, Nat.le_of_ble_eq_true rfl⟩) rfl hl.1 rfl (lv_room (Nat.le_of_ble_eq_true rfl)) dL_law_509 ⟨by show cells + 1 ≤ 624306; omega, by show slots + 6 ≤ 7223187; omega⟩ (fun H locs hw => ?_)
  refine lv_istore (lv' := [(6, .int r1), (5, .int (rl_c1 (rm_tN (xs (i + 1))))), (0, .ref bq), (1, .ref (a 0)), (2, .ref (b 0)), (3, .ref o), (4, .int (nI i))]) hx hb dL_law_512 hl (by decide) rfl (fun ls hl => ?_)
  refine lv_aload_n hx hb dL_law_514 rfl (lv_at hl 4 rfl) ?_
  refine rw_callI CF E hw (As := []) (rest := []) (kX1_thrown l k b E.2.2.2.1.2 τ1) (cwV 0 hts gL_law_X1_thrown rfl rfl rfl (by decide +kernel) ⟨Nat.le_of_ble_eq_true rfl, Nat.le_of_ble_eq_true rfl⟩) rfl hl.1 rfl (lv_room (Nat.le_of_ble_eq_true rfl)) dL_law_515 ⟨by show cells + 1 ≤ 624306; omega, by show slots + 6 ≤ 7223187; omega⟩ (fun H locs hw => ?_)
  refine lv_iload hx hb dL_law_518 (lv_at hl 1 rfl) ?_
  refine lv_icmp_eq (tgt := 525) hx hb dL_law_520 (by decide) (fun ce => ?_) (fun ce => absurd h1 ce)
  refine lv_iload hx hb dL_law_525 (lv_at hl 1 rfl) ?_
  refine lv_if_ne (tgt := 542) hx hb dL_law_527 (by decide) (fun cz => ?_) (fun cz => ?_)
  · skip
    refine lv_goto (tgt := 1030) hx hb dL_law_542 (by decide) ?_
    exact kk _ _ _ hw (lv_sub hl [2, 3, 4, 5, 6] rfl)
  · skip
    refine lv_aload_n hx hb dL_law_530 rfl (lv_at hl 5 rfl) ?_
    refine lv_iconst (v := 0) hx hb dL_law_531 (by decide) ?_
    refine rw_out CF E hw dL_law_532 ?_
    refine lv_iload hx hb dL_law_533 (lv_at hl 0 rfl) ?_
    refine lv_i2l (v := r1.toInt64) hx hb dL_law_535 rfl ?_
    refine W.lcmp hx hb dL_law_536 ?_
    refine lv_if_eq (tgt := 542) hx hb dL_law_537 (by decide) (fun cq => ?_) (fun cq => absurd (by rw [h2 cz]; simp [lg_cmp]) cq)
    refine lv_goto (tgt := 1030) hx hb dL_law_542 (by decide) ?_
    exact kk _ _ _ hw (lv_sub hl [2, 3, 4, 5, 6] rfl)
set_option maxHeartbeats 4000000 in
set_option maxRecDepth 100000 in
theorem rw_case_parent {p : Program} {l : Launch} {e : Env} {s : State} {m : MethodId} {args : Array Value} {below : List Frame} {meth : Method} {c : Code} {H : Heap} {locs : List Loc} {cells slots : Nat} {Q : State → Prop} {ls : Array Slot} {k : rm_K} {a b : Nat → Nat} {o bq L i : Nat} {xs : Nat → Int32} {σ τ τ1 : rm_St} {f : Nat → Int64} {r1 : Int32} (hfl : l.stackTraces = false) (CF : CallFix p m c cL_law 7 s args wsL_law RL) (E : rw_E k a b o s) (hw : rw_Wd k a b o s σ τ f H locs) (hX : va_X bq L xs s s.heap) (hbl : bq < s.heap.size) (hi : i + 5 ≤ L) (hL : L ≤ 2560) (hl : lv_has ls 7 [(0, .ref bq), (1, .ref (a 0)), (2, .ref (b 0)), (3, .ref o), (4, .int (nI i))]) (hc : cells + 4 ≤ 624306) (hs : slots + 24 ≤ 7223187) (hM : rn_MI l k b yX1_parent wsX1_parent ({ frames := 3, cells := 0, slots := 0, locals := 64 }) [.int (xs (i + 1))] τ r1 τ1) (h1 : τ1 0 20 = (rl_c1 (rm_tN (xs (i + 1))))) (h2 : (rl_c1 (rm_tN (xs (i + 1)))) = 0 → ((rl_s (σ, (vp_updL f 0 ((σ 11 (xs (i + 1)).toNatClampNeg)).toInt64)) (σ, f) (rm_tN (xs (i + 1))))).2 0 = r1.toInt64) (kk : ∀ (H1 : Heap) (locs1 : List Loc) (ls1 : Array Slot), rw_Wd k a b o s ((rl_s (σ, (vp_updL f 0 ((σ 11 (xs (i + 1)).toNatClampNeg)).toInt64)) (σ, f) (rm_tN (xs (i + 1))))).1 τ1 ((rl_s (σ, (vp_updL f 0 ((σ 11 (xs (i + 1)).toNatClampNeg)).toInt64)) (σ, f) (rm_tN (xs (i + 1))))).2 H1 locs1 → lv_has ls1 7 [(0, .ref bq), (1, .ref (a 0)), (2, .ref (b 0)), (3, .ref o), (4, .int (nI i))] → W p l e room_1 s m args below meth c H1 locs1 (cells + 1) (slots + 6) Q (F0 m 1030 ls1 [])) : W p l e room_1 s m args below meth c H locs cells slots Q (F0 m 545 ls []) := by
  have hx := CF.1
  have hb := CF.2.1
  have hts := CF.2.2.2.2
  have e1 : ∀ q : Nat, nI i + nI q = nI (i + q) := fun q => nI_add i q
  refine lv_aload_n hx hb dL_law_545 rfl (lv_at hl 1 rfl) ?_
  refine lv_aload_n hx hb dL_law_546 rfl (lv_at hl 0 rfl) ?_
  refine lv_iload hx hb dL_law_547 (lv_at hl 4 rfl) ?_
  refine lv_iconst (v := 1) hx hb dL_law_549 (by decide) ?_
  refine lv_iadd hx hb dL_law_550 ?_
  rw [show nI i + (1 : Int32) = nI (i + 1) from e1 1]
  refine rw_ld CF hw hX hbl (i := i + 1) (by omega) hL dL_law_551 ?_
  refine lv_aload_n hx hb dL_law_552 rfl (lv_at hl 3 rfl) ?_
  refine rw_callW CF E hw (As := [.ref (a 0), .int (xs (i + 1)), .ref o]) (rest := []) (jL_parent l hfl k a E.2.2.2.1.1 o E.2.2.2.2.2.1 σ f (xs (i + 1)) H.size) (vx_cwSW 3 hts gL_law_L_parent rfl rfl rfl (by decide +kernel) ⟨Nat.le_of_ble_eq_true rfl, Nat.le_of_ble_eq_true rfl⟩) rfl hl.1 rfl (lv_room (Nat.le_of_ble_eq_true rfl)) dL_law_553 ⟨by show cells + 1 ≤ 624306; omega, by show slots + 6 ≤ 7223187; omega⟩ (fun H locs hw => ?_)
  refine lv_istore (lv' := [(5, .int (rl_c1 (rm_tN (xs (i + 1))))), (0, .ref bq), (1, .ref (a 0)), (2, .ref (b 0)), (3, .ref o), (4, .int (nI i))]) hx hb dL_law_556 hl (by decide) rfl (fun ls hl => ?_)
  refine lv_aload_n hx hb dL_law_558 rfl (lv_at hl 3 rfl) ?_
  refine lv_aload_n hx hb dL_law_559 rfl (lv_at hl 1 rfl) ?_
  refine lv_iload hx hb dL_law_560 (lv_at hl 5 rfl) ?_
  refine lv_iconst (v := 1) hx hb dL_law_562 (by decide) ?_
  refine lv_iadd hx hb dL_law_563 ?_
  rw [show nI i + (1 : Int32) = nI (i + 1) from e1 1]
  refine rw_ld CF hw hX hbl (i := i + 1) (by omega) hL dL_law_564 ?_
  refine rw_callI CF E hw (As := [.int (xs (i + 1))]) (rest := []) hM (cwV 1 hts gL_law_X1_parent rfl rfl rfl (by decide +kernel) ⟨Nat.le_of_ble_eq_true rfl, Nat.le_of_ble_eq_true rfl⟩) rfl hl.1 rfl (lv_room (Nat.le_of_ble_eq_true rfl)) dL_law_565 ⟨by show cells + 1 ≤ 624306; omega, by show slots + 6 ≤ 7223187; omega⟩ (fun H locs hw => ?_)
  refine lv_istore (lv' := [(6, .int r1), (5, .int (rl_c1 (rm_tN (xs (i + 1))))), (0, .ref bq), (1, .ref (a 0)), (2, .ref (b 0)), (3, .ref o), (4, .int (nI i))]) hx hb dL_law_568 hl (by decide) rfl (fun ls hl => ?_)
  refine lv_aload_n hx hb dL_law_570 rfl (lv_at hl 4 rfl) ?_
  refine rw_callI CF E hw (As := []) (rest := []) (kX1_thrown l k b E.2.2.2.1.2 τ1) (cwV 0 hts gL_law_X1_thrown rfl rfl rfl (by decide +kernel) ⟨Nat.le_of_ble_eq_true rfl, Nat.le_of_ble_eq_true rfl⟩) rfl hl.1 rfl (lv_room (Nat.le_of_ble_eq_true rfl)) dL_law_571 ⟨by show cells + 1 ≤ 624306; omega, by show slots + 6 ≤ 7223187; omega⟩ (fun H locs hw => ?_)
  refine lv_iload hx hb dL_law_574 (lv_at hl 1 rfl) ?_
  refine lv_icmp_eq (tgt := 581) hx hb dL_law_576 (by decide) (fun ce => ?_) (fun ce => absurd h1 ce)
  refine lv_iload hx hb dL_law_581 (lv_at hl 1 rfl) ?_
  refine lv_if_ne (tgt := 598) hx hb dL_law_583 (by decide) (fun cz => ?_) (fun cz => ?_)
  · skip
    refine lv_goto (tgt := 1030) hx hb dL_law_598 (by decide) ?_
    exact kk _ _ _ hw (lv_sub hl [2, 3, 4, 5, 6] rfl)
  · skip
    refine lv_aload_n hx hb dL_law_586 rfl (lv_at hl 5 rfl) ?_
    refine lv_iconst (v := 0) hx hb dL_law_587 (by decide) ?_
    refine rw_out CF E hw dL_law_588 ?_
    refine lv_iload hx hb dL_law_589 (lv_at hl 0 rfl) ?_
    refine lv_i2l (v := r1.toInt64) hx hb dL_law_591 rfl ?_
    refine W.lcmp hx hb dL_law_592 ?_
    refine lv_if_eq (tgt := 598) hx hb dL_law_593 (by decide) (fun cq => ?_) (fun cq => absurd (by rw [h2 cz]; simp [lg_cmp]) cq)
    refine lv_goto (tgt := 1030) hx hb dL_law_598 (by decide) ?_
    exact kk _ _ _ hw (lv_sub hl [2, 3, 4, 5, 6] rfl)
set_option maxHeartbeats 4000000 in
set_option maxRecDepth 100000 in
theorem rw_case_tree {p : Program} {l : Launch} {e : Env} {s : State} {m : MethodId} {args : Array Value} {below : List Frame} {meth : Method} {c : Code} {H : Heap} {locs : List Loc} {cells slots : Nat} {Q : State → Prop} {ls : Array Slot} {k : rm_K} {a b : Nat → Nat} {o bq L i : Nat} {xs : Nat → Int32} {σ τ τ1 : rm_St} {f : Nat → Int64} {r1 : Int32} (hfl : l.stackTraces = false) (CF : CallFix p m c cL_law 7 s args wsL_law RL) (E : rw_E k a b o s) (hw : rw_Wd k a b o s σ τ f H locs) (hX : va_X bq L xs s s.heap) (hbl : bq < s.heap.size) (hi : i + 5 ≤ L) (hL : L ≤ 2560) (hl : lv_has ls 7 [(0, .ref bq), (1, .ref (a 0)), (2, .ref (b 0)), (3, .ref o), (4, .int (nI i))]) (hc : cells + 4 ≤ 624306) (hs : slots + 24 ≤ 7223187) (hM : rn_MI l k b yX1_tree wsX1_tree ({ frames := 2, cells := 0, slots := 0, locals := 42 }) [.int (xs (i + 1))] τ r1 τ1) (h1 : τ1 0 20 = (rl_c1 (rm_tN (xs (i + 1))))) (h2 : (rl_c1 (rm_tN (xs (i + 1)))) = 0 → ((rl_s (σ, (vp_updL f 0 ((rm_tree σ (xs (i + 1)))).toInt64)) (σ, f) (rm_tN (xs (i + 1))))).2 0 = r1.toInt64) (kk : ∀ (H1 : Heap) (locs1 : List Loc) (ls1 : Array Slot), rw_Wd k a b o s ((rl_s (σ, (vp_updL f 0 ((rm_tree σ (xs (i + 1)))).toInt64)) (σ, f) (rm_tN (xs (i + 1))))).1 τ1 ((rl_s (σ, (vp_updL f 0 ((rm_tree σ (xs (i + 1)))).toInt64)) (σ, f) (rm_tN (xs (i + 1))))).2 H1 locs1 → lv_has ls1 7 [(0, .ref bq), (1, .ref (a 0)), (2, .ref (b 0)), (3, .ref o), (4, .int (nI i))] → W p l e room_1 s m args below meth c H1 locs1 (cells + 1) (slots + 6) Q (F0 m 1030 ls1 [])) : W p l e room_1 s m args below meth c H locs cells slots Q (F0 m 601 ls []) := by
  have hx := CF.1
  have hb := CF.2.1
  have hts := CF.2.2.2.2
  have e1 : ∀ q : Nat, nI i + nI q = nI (i + q) := fun q => nI_add i q
  refine lv_aload_n hx hb dL_law_601 rfl (lv_at hl 1 rfl) ?_
  refine lv_aload_n hx hb dL_law_602 rfl (lv_at hl 0 rfl) ?_
  refine lv_iload hx hb dL_law_603 (lv_at hl 4 rfl) ?_
  refine lv_iconst (v := 1) hx hb dL_law_605 (by decide) ?_
  refine lv_iadd hx hb dL_law_606 ?_
  rw [show nI i + (1 : Int32) = nI (i + 1) from e1 1]
  refine rw_ld CF hw hX hbl (i := i + 1) (by omega) hL dL_law_607 ?_
  refine lv_aload_n hx hb dL_law_608 rfl (lv_at hl 3 rfl) ?_
  refine rw_callW CF E hw (As := [.ref (a 0), .int (xs (i + 1)), .ref o]) (rest := []) (jL_tree l hfl k a E.2.2.2.1.1 o E.2.2.2.2.2.1 σ f (xs (i + 1)) H.size) (vx_cwSW 3 hts gL_law_L_tree rfl rfl rfl (by decide +kernel) ⟨Nat.le_of_ble_eq_true rfl, Nat.le_of_ble_eq_true rfl⟩) rfl hl.1 rfl (lv_room (Nat.le_of_ble_eq_true rfl)) dL_law_609 ⟨by show cells + 1 ≤ 624306; omega, by show slots + 6 ≤ 7223187; omega⟩ (fun H locs hw => ?_)
  refine lv_istore (lv' := [(5, .int (rl_c1 (rm_tN (xs (i + 1))))), (0, .ref bq), (1, .ref (a 0)), (2, .ref (b 0)), (3, .ref o), (4, .int (nI i))]) hx hb dL_law_612 hl (by decide) rfl (fun ls hl => ?_)
  refine lv_aload_n hx hb dL_law_614 rfl (lv_at hl 3 rfl) ?_
  refine lv_aload_n hx hb dL_law_615 rfl (lv_at hl 1 rfl) ?_
  refine lv_iload hx hb dL_law_616 (lv_at hl 5 rfl) ?_
  refine lv_iconst (v := 1) hx hb dL_law_618 (by decide) ?_
  refine lv_iadd hx hb dL_law_619 ?_
  rw [show nI i + (1 : Int32) = nI (i + 1) from e1 1]
  refine rw_ld CF hw hX hbl (i := i + 1) (by omega) hL dL_law_620 ?_
  refine rw_callI CF E hw (As := [.int (xs (i + 1))]) (rest := []) hM (cwV 1 hts gL_law_X1_tree rfl rfl rfl (by decide +kernel) ⟨Nat.le_of_ble_eq_true rfl, Nat.le_of_ble_eq_true rfl⟩) rfl hl.1 rfl (lv_room (Nat.le_of_ble_eq_true rfl)) dL_law_621 ⟨by show cells + 1 ≤ 624306; omega, by show slots + 6 ≤ 7223187; omega⟩ (fun H locs hw => ?_)
  refine lv_istore (lv' := [(6, .int r1), (5, .int (rl_c1 (rm_tN (xs (i + 1))))), (0, .ref bq), (1, .ref (a 0)), (2, .ref (b 0)), (3, .ref o), (4, .int (nI i))]) hx hb dL_law_624 hl (by decide) rfl (fun ls hl => ?_)
  refine lv_aload_n hx hb dL_law_626 rfl (lv_at hl 4 rfl) ?_
  refine rw_callI CF E hw (As := []) (rest := []) (kX1_thrown l k b E.2.2.2.1.2 τ1) (cwV 0 hts gL_law_X1_thrown rfl rfl rfl (by decide +kernel) ⟨Nat.le_of_ble_eq_true rfl, Nat.le_of_ble_eq_true rfl⟩) rfl hl.1 rfl (lv_room (Nat.le_of_ble_eq_true rfl)) dL_law_627 ⟨by show cells + 1 ≤ 624306; omega, by show slots + 6 ≤ 7223187; omega⟩ (fun H locs hw => ?_)
  refine lv_iload hx hb dL_law_630 (lv_at hl 1 rfl) ?_
  refine lv_icmp_eq (tgt := 637) hx hb dL_law_632 (by decide) (fun ce => ?_) (fun ce => absurd h1 ce)
  refine lv_iload hx hb dL_law_637 (lv_at hl 1 rfl) ?_
  refine lv_if_ne (tgt := 654) hx hb dL_law_639 (by decide) (fun cz => ?_) (fun cz => ?_)
  · skip
    refine lv_goto (tgt := 1030) hx hb dL_law_654 (by decide) ?_
    exact kk _ _ _ hw (lv_sub hl [2, 3, 4, 5, 6] rfl)
  · skip
    refine lv_aload_n hx hb dL_law_642 rfl (lv_at hl 5 rfl) ?_
    refine lv_iconst (v := 0) hx hb dL_law_643 (by decide) ?_
    refine rw_out CF E hw dL_law_644 ?_
    refine lv_iload hx hb dL_law_645 (lv_at hl 0 rfl) ?_
    refine lv_i2l (v := r1.toInt64) hx hb dL_law_647 rfl ?_
    refine W.lcmp hx hb dL_law_648 ?_
    refine lv_if_eq (tgt := 654) hx hb dL_law_649 (by decide) (fun cq => ?_) (fun cq => absurd (by rw [h2 cz]; simp [lg_cmp]) cq)
    refine lv_goto (tgt := 1030) hx hb dL_law_654 (by decide) ?_
    exact kk _ _ _ hw (lv_sub hl [2, 3, 4, 5, 6] rfl)
set_option maxHeartbeats 4000000 in
set_option maxRecDepth 100000 in
theorem rw_case_nextTelling {p : Program} {l : Launch} {e : Env} {s : State} {m : MethodId} {args : Array Value} {below : List Frame} {meth : Method} {c : Code} {H : Heap} {locs : List Loc} {cells slots : Nat} {Q : State → Prop} {ls : Array Slot} {k : rm_K} {a b : Nat → Nat} {o bq L i : Nat} {xs : Nat → Int32} {σ τ τ1 : rm_St} {f : Nat → Int64} {r1 : Int32} (hfl : l.stackTraces = false) (CF : CallFix p m c cL_law 7 s args wsL_law RL) (E : rw_E k a b o s) (hw : rw_Wd k a b o s σ τ f H locs) (hX : va_X bq L xs s s.heap) (hbl : bq < s.heap.size) (hi : i + 5 ≤ L) (hL : L ≤ 2560) (hl : lv_has ls 7 [(0, .ref bq), (1, .ref (a 0)), (2, .ref (b 0)), (3, .ref o), (4, .int (nI i))]) (hc : cells + 4 ≤ 624306) (hs : slots + 24 ≤ 7223187) (hM : rn_MI l k b yX1_nextTelling wsX1_nextTelling ({ frames := 3, cells := 0, slots := 0, locals := 64 }) [.int (xs (i + 1))] τ r1 τ1) (h1 : τ1 0 20 = (rl_c1 (rm_tN (xs (i + 1))))) (h2 : (rl_c1 (rm_tN (xs (i + 1)))) = 0 → ((rl_s (σ, (vp_updL f 0 ((σ 13 (xs (i + 1)).toNatClampNeg)).toInt64)) (σ, f) (rm_tN (xs (i + 1))))).2 0 = r1.toInt64) (kk : ∀ (H1 : Heap) (locs1 : List Loc) (ls1 : Array Slot), rw_Wd k a b o s ((rl_s (σ, (vp_updL f 0 ((σ 13 (xs (i + 1)).toNatClampNeg)).toInt64)) (σ, f) (rm_tN (xs (i + 1))))).1 τ1 ((rl_s (σ, (vp_updL f 0 ((σ 13 (xs (i + 1)).toNatClampNeg)).toInt64)) (σ, f) (rm_tN (xs (i + 1))))).2 H1 locs1 → lv_has ls1 7 [(0, .ref bq), (1, .ref (a 0)), (2, .ref (b 0)), (3, .ref o), (4, .int (nI i))] → W p l e room_1 s m args below meth c H1 locs1 (cells + 1) (slots + 6) Q (F0 m 1030 ls1 [])) : W p l e room_1 s m args below meth c H locs cells slots Q (F0 m 657 ls []) := by
  have hx := CF.1
  have hb := CF.2.1
  have hts := CF.2.2.2.2
  have e1 : ∀ q : Nat, nI i + nI q = nI (i + q) := fun q => nI_add i q
  refine lv_aload_n hx hb dL_law_657 rfl (lv_at hl 1 rfl) ?_
  refine lv_aload_n hx hb dL_law_658 rfl (lv_at hl 0 rfl) ?_
  refine lv_iload hx hb dL_law_659 (lv_at hl 4 rfl) ?_
  refine lv_iconst (v := 1) hx hb dL_law_661 (by decide) ?_
  refine lv_iadd hx hb dL_law_662 ?_
  rw [show nI i + (1 : Int32) = nI (i + 1) from e1 1]
  refine rw_ld CF hw hX hbl (i := i + 1) (by omega) hL dL_law_663 ?_
  refine lv_aload_n hx hb dL_law_664 rfl (lv_at hl 3 rfl) ?_
  refine rw_callW CF E hw (As := [.ref (a 0), .int (xs (i + 1)), .ref o]) (rest := []) (jL_nextTelling l hfl k a E.2.2.2.1.1 o E.2.2.2.2.2.1 σ f (xs (i + 1)) H.size) (vx_cwSW 3 hts gL_law_L_nextTelling rfl rfl rfl (by decide +kernel) ⟨Nat.le_of_ble_eq_true rfl, Nat.le_of_ble_eq_true rfl⟩) rfl hl.1 rfl (lv_room (Nat.le_of_ble_eq_true rfl)) dL_law_665 ⟨by show cells + 1 ≤ 624306; omega, by show slots + 6 ≤ 7223187; omega⟩ (fun H locs hw => ?_)
  refine lv_istore (lv' := [(5, .int (rl_c1 (rm_tN (xs (i + 1))))), (0, .ref bq), (1, .ref (a 0)), (2, .ref (b 0)), (3, .ref o), (4, .int (nI i))]) hx hb dL_law_668 hl (by decide) rfl (fun ls hl => ?_)
  refine lv_aload_n hx hb dL_law_670 rfl (lv_at hl 3 rfl) ?_
  refine lv_aload_n hx hb dL_law_671 rfl (lv_at hl 1 rfl) ?_
  refine lv_iload hx hb dL_law_672 (lv_at hl 5 rfl) ?_
  refine lv_iconst (v := 1) hx hb dL_law_674 (by decide) ?_
  refine lv_iadd hx hb dL_law_675 ?_
  rw [show nI i + (1 : Int32) = nI (i + 1) from e1 1]
  refine rw_ld CF hw hX hbl (i := i + 1) (by omega) hL dL_law_676 ?_
  refine rw_callI CF E hw (As := [.int (xs (i + 1))]) (rest := []) hM (cwV 1 hts gL_law_X1_nextTelling rfl rfl rfl (by decide +kernel) ⟨Nat.le_of_ble_eq_true rfl, Nat.le_of_ble_eq_true rfl⟩) rfl hl.1 rfl (lv_room (Nat.le_of_ble_eq_true rfl)) dL_law_677 ⟨by show cells + 1 ≤ 624306; omega, by show slots + 6 ≤ 7223187; omega⟩ (fun H locs hw => ?_)
  refine lv_istore (lv' := [(6, .int r1), (5, .int (rl_c1 (rm_tN (xs (i + 1))))), (0, .ref bq), (1, .ref (a 0)), (2, .ref (b 0)), (3, .ref o), (4, .int (nI i))]) hx hb dL_law_680 hl (by decide) rfl (fun ls hl => ?_)
  refine lv_aload_n hx hb dL_law_682 rfl (lv_at hl 4 rfl) ?_
  refine rw_callI CF E hw (As := []) (rest := []) (kX1_thrown l k b E.2.2.2.1.2 τ1) (cwV 0 hts gL_law_X1_thrown rfl rfl rfl (by decide +kernel) ⟨Nat.le_of_ble_eq_true rfl, Nat.le_of_ble_eq_true rfl⟩) rfl hl.1 rfl (lv_room (Nat.le_of_ble_eq_true rfl)) dL_law_683 ⟨by show cells + 1 ≤ 624306; omega, by show slots + 6 ≤ 7223187; omega⟩ (fun H locs hw => ?_)
  refine lv_iload hx hb dL_law_686 (lv_at hl 1 rfl) ?_
  refine lv_icmp_eq (tgt := 693) hx hb dL_law_688 (by decide) (fun ce => ?_) (fun ce => absurd h1 ce)
  refine lv_iload hx hb dL_law_693 (lv_at hl 1 rfl) ?_
  refine lv_if_ne (tgt := 710) hx hb dL_law_695 (by decide) (fun cz => ?_) (fun cz => ?_)
  · skip
    refine lv_goto (tgt := 1030) hx hb dL_law_710 (by decide) ?_
    exact kk _ _ _ hw (lv_sub hl [2, 3, 4, 5, 6] rfl)
  · skip
    refine lv_aload_n hx hb dL_law_698 rfl (lv_at hl 5 rfl) ?_
    refine lv_iconst (v := 0) hx hb dL_law_699 (by decide) ?_
    refine rw_out CF E hw dL_law_700 ?_
    refine lv_iload hx hb dL_law_701 (lv_at hl 0 rfl) ?_
    refine lv_i2l (v := r1.toInt64) hx hb dL_law_703 rfl ?_
    refine W.lcmp hx hb dL_law_704 ?_
    refine lv_if_eq (tgt := 710) hx hb dL_law_705 (by decide) (fun cq => ?_) (fun cq => absurd (by rw [h2 cz]; simp [lg_cmp]) cq)
    refine lv_goto (tgt := 1030) hx hb dL_law_710 (by decide) ?_
    exact kk _ _ _ hw (lv_sub hl [2, 3, 4, 5, 6] rfl)
set_option maxHeartbeats 4000000 in
set_option maxRecDepth 100000 in
theorem rw_case_heard {p : Program} {l : Launch} {e : Env} {s : State} {m : MethodId} {args : Array Value} {below : List Frame} {meth : Method} {c : Code} {H : Heap} {locs : List Loc} {cells slots : Nat} {Q : State → Prop} {ls : Array Slot} {k : rm_K} {a b : Nat → Nat} {o bq L i : Nat} {xs : Nat → Int32} {σ τ τ1 : rm_St} {f : Nat → Int64} {r1 : Int32} (hfl : l.stackTraces = false) (CF : CallFix p m c cL_law 7 s args wsL_law RL) (E : rw_E k a b o s) (hw : rw_Wd k a b o s σ τ f H locs) (hX : va_X bq L xs s s.heap) (hbl : bq < s.heap.size) (hi : i + 5 ≤ L) (hL : L ≤ 2560) (hl : lv_has ls 7 [(0, .ref bq), (1, .ref (a 0)), (2, .ref (b 0)), (3, .ref o), (4, .int (nI i))]) (hc : cells + 4 ≤ 624306) (hs : slots + 24 ≤ 7223187) (hM : rn_MI l k b yX1_heard wsX1_heard ({ frames := 2, cells := 0, slots := 0, locals := 42 }) [.int (xs (i + 1)), .int (xs (i + 2))] τ r1 τ1) (h1 : τ1 0 20 = (rl_c1 (rm_t2 (xs (i + 1)) (xs (i + 2))))) (h2 : (rl_c1 (rm_t2 (xs (i + 1)) (xs (i + 2)))) = 0 → ((rl_s (σ, (vp_updL f 0 ((σ (45 + (xs (i + 1)).toNatClampNeg) (xs (i + 2)).toNatClampNeg)).toInt64)) (σ, f) (rm_t2 (xs (i + 1)) (xs (i + 2))))).2 0 = r1.toInt64) (kk : ∀ (H1 : Heap) (locs1 : List Loc) (ls1 : Array Slot), rw_Wd k a b o s ((rl_s (σ, (vp_updL f 0 ((σ (45 + (xs (i + 1)).toNatClampNeg) (xs (i + 2)).toNatClampNeg)).toInt64)) (σ, f) (rm_t2 (xs (i + 1)) (xs (i + 2))))).1 τ1 ((rl_s (σ, (vp_updL f 0 ((σ (45 + (xs (i + 1)).toNatClampNeg) (xs (i + 2)).toNatClampNeg)).toInt64)) (σ, f) (rm_t2 (xs (i + 1)) (xs (i + 2))))).2 H1 locs1 → lv_has ls1 7 [(0, .ref bq), (1, .ref (a 0)), (2, .ref (b 0)), (3, .ref o), (4, .int (nI i))] → W p l e room_1 s m args below meth c H1 locs1 (cells + 2) (slots + 12) Q (F0 m 1030 ls1 [])) : W p l e room_1 s m args below meth c H locs cells slots Q (F0 m 713 ls []) := by
  have hx := CF.1
  have hb := CF.2.1
  have hts := CF.2.2.2.2
  have e1 : ∀ q : Nat, nI i + nI q = nI (i + q) := fun q => nI_add i q
  refine lv_aload_n hx hb dL_law_713 rfl (lv_at hl 1 rfl) ?_
  refine lv_aload_n hx hb dL_law_714 rfl (lv_at hl 0 rfl) ?_
  refine lv_iload hx hb dL_law_715 (lv_at hl 4 rfl) ?_
  refine lv_iconst (v := 1) hx hb dL_law_717 (by decide) ?_
  refine lv_iadd hx hb dL_law_718 ?_
  rw [show nI i + (1 : Int32) = nI (i + 1) from e1 1]
  refine rw_ld CF hw hX hbl (i := i + 1) (by omega) hL dL_law_719 ?_
  refine lv_aload_n hx hb dL_law_720 rfl (lv_at hl 0 rfl) ?_
  refine lv_iload hx hb dL_law_721 (lv_at hl 4 rfl) ?_
  refine lv_iconst (v := 2) hx hb dL_law_723 (by decide) ?_
  refine lv_iadd hx hb dL_law_724 ?_
  rw [show nI i + (2 : Int32) = nI (i + 2) from e1 2]
  refine rw_ld CF hw hX hbl (i := i + 2) (by omega) hL dL_law_725 ?_
  refine lv_aload_n hx hb dL_law_726 rfl (lv_at hl 3 rfl) ?_
  refine rw_callW CF E hw (As := [.ref (a 0), .int (xs (i + 1)), .int (xs (i + 2)), .ref o]) (rest := []) (jL_heard l hfl k a E.2.2.2.1.1 o E.2.2.2.2.2.1 σ f (xs (i + 1)) (xs (i + 2)) H.size) (vx_cwSW 4 hts gL_law_L_heard rfl rfl rfl (by decide +kernel) ⟨Nat.le_of_ble_eq_true rfl, Nat.le_of_ble_eq_true rfl⟩) rfl hl.1 rfl (lv_room (Nat.le_of_ble_eq_true rfl)) dL_law_727 ⟨by show cells + 2 ≤ 624306; omega, by show slots + 12 ≤ 7223187; omega⟩ (fun H locs hw => ?_)
  refine lv_istore (lv' := [(5, .int (rl_c1 (rm_t2 (xs (i + 1)) (xs (i + 2))))), (0, .ref bq), (1, .ref (a 0)), (2, .ref (b 0)), (3, .ref o), (4, .int (nI i))]) hx hb dL_law_730 hl (by decide) rfl (fun ls hl => ?_)
  refine lv_aload_n hx hb dL_law_732 rfl (lv_at hl 3 rfl) ?_
  refine lv_aload_n hx hb dL_law_733 rfl (lv_at hl 1 rfl) ?_
  refine lv_iload hx hb dL_law_734 (lv_at hl 5 rfl) ?_
  refine lv_iconst (v := 1) hx hb dL_law_736 (by decide) ?_
  refine lv_iadd hx hb dL_law_737 ?_
  rw [show nI i + (1 : Int32) = nI (i + 1) from e1 1]
  refine rw_ld CF hw hX hbl (i := i + 1) (by omega) hL dL_law_738 ?_
  refine lv_aload_n hx hb dL_law_739 rfl (lv_at hl 1 rfl) ?_
  refine lv_iload hx hb dL_law_740 (lv_at hl 5 rfl) ?_
  refine lv_iconst (v := 2) hx hb dL_law_742 (by decide) ?_
  refine lv_iadd hx hb dL_law_743 ?_
  rw [show nI i + (2 : Int32) = nI (i + 2) from e1 2]
  refine rw_ld CF hw hX hbl (i := i + 2) (by omega) hL dL_law_744 ?_
  refine rw_callI CF E hw (As := [.int (xs (i + 1)), .int (xs (i + 2))]) (rest := []) hM (cwV 2 hts gL_law_X1_heard rfl rfl rfl (by decide +kernel) ⟨Nat.le_of_ble_eq_true rfl, Nat.le_of_ble_eq_true rfl⟩) rfl hl.1 rfl (lv_room (Nat.le_of_ble_eq_true rfl)) dL_law_745 ⟨by show cells + 2 ≤ 624306; omega, by show slots + 12 ≤ 7223187; omega⟩ (fun H locs hw => ?_)
  refine lv_istore (lv' := [(6, .int r1), (5, .int (rl_c1 (rm_t2 (xs (i + 1)) (xs (i + 2))))), (0, .ref bq), (1, .ref (a 0)), (2, .ref (b 0)), (3, .ref o), (4, .int (nI i))]) hx hb dL_law_748 hl (by decide) rfl (fun ls hl => ?_)
  refine lv_aload_n hx hb dL_law_750 rfl (lv_at hl 4 rfl) ?_
  refine rw_callI CF E hw (As := []) (rest := []) (kX1_thrown l k b E.2.2.2.1.2 τ1) (cwV 0 hts gL_law_X1_thrown rfl rfl rfl (by decide +kernel) ⟨Nat.le_of_ble_eq_true rfl, Nat.le_of_ble_eq_true rfl⟩) rfl hl.1 rfl (lv_room (Nat.le_of_ble_eq_true rfl)) dL_law_751 ⟨by show cells + 2 ≤ 624306; omega, by show slots + 12 ≤ 7223187; omega⟩ (fun H locs hw => ?_)
  refine lv_iload hx hb dL_law_754 (lv_at hl 1 rfl) ?_
  refine lv_icmp_eq (tgt := 761) hx hb dL_law_756 (by decide) (fun ce => ?_) (fun ce => absurd h1 ce)
  refine lv_iload hx hb dL_law_761 (lv_at hl 1 rfl) ?_
  refine lv_if_ne (tgt := 778) hx hb dL_law_763 (by decide) (fun cz => ?_) (fun cz => ?_)
  · skip
    refine lv_goto (tgt := 1030) hx hb dL_law_778 (by decide) ?_
    exact kk _ _ _ hw (lv_sub hl [2, 3, 4, 5, 6] rfl)
  · skip
    refine lv_aload_n hx hb dL_law_766 rfl (lv_at hl 5 rfl) ?_
    refine lv_iconst (v := 0) hx hb dL_law_767 (by decide) ?_
    refine rw_out CF E hw dL_law_768 ?_
    refine lv_iload hx hb dL_law_769 (lv_at hl 0 rfl) ?_
    refine lv_i2l (v := r1.toInt64) hx hb dL_law_771 rfl ?_
    refine W.lcmp hx hb dL_law_772 ?_
    refine lv_if_eq (tgt := 778) hx hb dL_law_773 (by decide) (fun cq => ?_) (fun cq => absurd (by rw [h2 cz]; simp [lg_cmp]) cq)
    refine lv_goto (tgt := 1030) hx hb dL_law_778 (by decide) ?_
    exact kk _ _ _ hw (lv_sub hl [2, 3, 4, 5, 6] rfl)
set_option maxHeartbeats 4000000 in
set_option maxRecDepth 100000 in
theorem rw_case_leastRank {p : Program} {l : Launch} {e : Env} {s : State} {m : MethodId} {args : Array Value} {below : List Frame} {meth : Method} {c : Code} {H : Heap} {locs : List Loc} {cells slots : Nat} {Q : State → Prop} {ls : Array Slot} {k : rm_K} {a b : Nat → Nat} {o bq L i : Nat} {xs : Nat → Int32} {σ τ τ1 : rm_St} {f : Nat → Int64} {r1 : Int32} (hfl : l.stackTraces = false) (CF : CallFix p m c cL_law 7 s args wsL_law RL) (E : rw_E k a b o s) (hw : rw_Wd k a b o s σ τ f H locs) (hX : va_X bq L xs s s.heap) (hbl : bq < s.heap.size) (hi : i + 5 ≤ L) (hL : L ≤ 2560) (hl : lv_has ls 7 [(0, .ref bq), (1, .ref (a 0)), (2, .ref (b 0)), (3, .ref o), (4, .int (nI i))]) (hc : cells + 4 ≤ 624306) (hs : slots + 24 ≤ 7223187) (hM : rn_MI l k b yX1_leastRank wsX1_leastRank ({ frames := 2, cells := 0, slots := 0, locals := 42 }) [.int (xs (i + 1))] τ r1 τ1) (h1 : τ1 0 20 = (rl_c1 (rm_tN (xs (i + 1))))) (h2 : (rl_c1 (rm_tN (xs (i + 1)))) = 0 → ((rl_s ((rm_least σ), (vp_updL f 0 ((rm_least σ 14 (xs (i + 1)).toNatClampNeg)).toInt64)) (σ, f) (rm_tN (xs (i + 1))))).2 0 = r1.toInt64) (kk : ∀ (H1 : Heap) (locs1 : List Loc) (ls1 : Array Slot), rw_Wd k a b o s ((rl_s ((rm_least σ), (vp_updL f 0 ((rm_least σ 14 (xs (i + 1)).toNatClampNeg)).toInt64)) (σ, f) (rm_tN (xs (i + 1))))).1 τ1 ((rl_s ((rm_least σ), (vp_updL f 0 ((rm_least σ 14 (xs (i + 1)).toNatClampNeg)).toInt64)) (σ, f) (rm_tN (xs (i + 1))))).2 H1 locs1 → lv_has ls1 7 [(0, .ref bq), (1, .ref (a 0)), (2, .ref (b 0)), (3, .ref o), (4, .int (nI i))] → W p l e room_1 s m args below meth c H1 locs1 (cells + 1) (slots + 6) Q (F0 m 1030 ls1 [])) : W p l e room_1 s m args below meth c H locs cells slots Q (F0 m 781 ls []) := by
  have hx := CF.1
  have hb := CF.2.1
  have hts := CF.2.2.2.2
  have e1 : ∀ q : Nat, nI i + nI q = nI (i + q) := fun q => nI_add i q
  refine lv_aload_n hx hb dL_law_781 rfl (lv_at hl 1 rfl) ?_
  refine lv_aload_n hx hb dL_law_782 rfl (lv_at hl 0 rfl) ?_
  refine lv_iload hx hb dL_law_783 (lv_at hl 4 rfl) ?_
  refine lv_iconst (v := 1) hx hb dL_law_785 (by decide) ?_
  refine lv_iadd hx hb dL_law_786 ?_
  rw [show nI i + (1 : Int32) = nI (i + 1) from e1 1]
  refine rw_ld CF hw hX hbl (i := i + 1) (by omega) hL dL_law_787 ?_
  refine lv_aload_n hx hb dL_law_788 rfl (lv_at hl 3 rfl) ?_
  refine rw_callW CF E hw (As := [.ref (a 0), .int (xs (i + 1)), .ref o]) (rest := []) (jL_leastRank l hfl k a E.2.2.2.1.1 o E.2.2.2.2.2.1 σ f (xs (i + 1)) H.size) (vx_cwSW 3 hts gL_law_L_leastRank rfl rfl rfl (by decide +kernel) ⟨Nat.le_of_ble_eq_true rfl, Nat.le_of_ble_eq_true rfl⟩) rfl hl.1 rfl (lv_room (Nat.le_of_ble_eq_true rfl)) dL_law_789 ⟨by show cells + 1 ≤ 624306; omega, by show slots + 6 ≤ 7223187; omega⟩ (fun H locs hw => ?_)
  refine lv_istore (lv' := [(5, .int (rl_c1 (rm_tN (xs (i + 1))))), (0, .ref bq), (1, .ref (a 0)), (2, .ref (b 0)), (3, .ref o), (4, .int (nI i))]) hx hb dL_law_792 hl (by decide) rfl (fun ls hl => ?_)
  refine lv_aload_n hx hb dL_law_794 rfl (lv_at hl 3 rfl) ?_
  refine lv_aload_n hx hb dL_law_795 rfl (lv_at hl 1 rfl) ?_
  refine lv_iload hx hb dL_law_796 (lv_at hl 5 rfl) ?_
  refine lv_iconst (v := 1) hx hb dL_law_798 (by decide) ?_
  refine lv_iadd hx hb dL_law_799 ?_
  rw [show nI i + (1 : Int32) = nI (i + 1) from e1 1]
  refine rw_ld CF hw hX hbl (i := i + 1) (by omega) hL dL_law_800 ?_
  refine rw_callI CF E hw (As := [.int (xs (i + 1))]) (rest := []) hM (cwV 1 hts gL_law_X1_leastRank rfl rfl rfl (by decide +kernel) ⟨Nat.le_of_ble_eq_true rfl, Nat.le_of_ble_eq_true rfl⟩) rfl hl.1 rfl (lv_room (Nat.le_of_ble_eq_true rfl)) dL_law_801 ⟨by show cells + 1 ≤ 624306; omega, by show slots + 6 ≤ 7223187; omega⟩ (fun H locs hw => ?_)
  refine lv_istore (lv' := [(6, .int r1), (5, .int (rl_c1 (rm_tN (xs (i + 1))))), (0, .ref bq), (1, .ref (a 0)), (2, .ref (b 0)), (3, .ref o), (4, .int (nI i))]) hx hb dL_law_804 hl (by decide) rfl (fun ls hl => ?_)
  refine lv_aload_n hx hb dL_law_806 rfl (lv_at hl 4 rfl) ?_
  refine rw_callI CF E hw (As := []) (rest := []) (kX1_thrown l k b E.2.2.2.1.2 τ1) (cwV 0 hts gL_law_X1_thrown rfl rfl rfl (by decide +kernel) ⟨Nat.le_of_ble_eq_true rfl, Nat.le_of_ble_eq_true rfl⟩) rfl hl.1 rfl (lv_room (Nat.le_of_ble_eq_true rfl)) dL_law_807 ⟨by show cells + 1 ≤ 624306; omega, by show slots + 6 ≤ 7223187; omega⟩ (fun H locs hw => ?_)
  refine lv_iload hx hb dL_law_810 (lv_at hl 1 rfl) ?_
  refine lv_icmp_eq (tgt := 817) hx hb dL_law_812 (by decide) (fun ce => ?_) (fun ce => absurd h1 ce)
  refine lv_iload hx hb dL_law_817 (lv_at hl 1 rfl) ?_
  refine lv_if_ne (tgt := 834) hx hb dL_law_819 (by decide) (fun cz => ?_) (fun cz => ?_)
  · skip
    refine lv_goto (tgt := 1030) hx hb dL_law_834 (by decide) ?_
    exact kk _ _ _ hw (lv_sub hl [2, 3, 4, 5, 6] rfl)
  · skip
    refine lv_aload_n hx hb dL_law_822 rfl (lv_at hl 5 rfl) ?_
    refine lv_iconst (v := 0) hx hb dL_law_823 (by decide) ?_
    refine rw_out CF E hw dL_law_824 ?_
    refine lv_iload hx hb dL_law_825 (lv_at hl 0 rfl) ?_
    refine lv_i2l (v := r1.toInt64) hx hb dL_law_827 rfl ?_
    refine W.lcmp hx hb dL_law_828 ?_
    refine lv_if_eq (tgt := 834) hx hb dL_law_829 (by decide) (fun cq => ?_) (fun cq => absurd (by rw [h2 cz]; simp [lg_cmp]) cq)
    refine lv_goto (tgt := 1030) hx hb dL_law_834 (by decide) ?_
    exact kk _ _ _ hw (lv_sub hl [2, 3, 4, 5, 6] rfl)
set_option maxHeartbeats 4000000 in
set_option maxRecDepth 100000 in
theorem rw_case_up {p : Program} {l : Launch} {e : Env} {s : State} {m : MethodId} {args : Array Value} {below : List Frame} {meth : Method} {c : Code} {H : Heap} {locs : List Loc} {cells slots : Nat} {Q : State → Prop} {ls : Array Slot} {k : rm_K} {a b : Nat → Nat} {o bq L i : Nat} {xs : Nat → Int32} {σ τ τ1 : rm_St} {f : Nat → Int64} {r1 : Int32} (hfl : l.stackTraces = false) (CF : CallFix p m c cL_law 7 s args wsL_law RL) (E : rw_E k a b o s) (hw : rw_Wd k a b o s σ τ f H locs) (hX : va_X bq L xs s s.heap) (hbl : bq < s.heap.size) (hi : i + 5 ≤ L) (hL : L ≤ 2560) (hl : lv_has ls 7 [(0, .ref bq), (1, .ref (a 0)), (2, .ref (b 0)), (3, .ref o), (4, .int (nI i))]) (hc : cells + 4 ≤ 624306) (hs : slots + 24 ≤ 7223187) (hM : rn_MI l k b yX1_up wsX1_up ({ frames := 2, cells := 0, slots := 0, locals := 42 }) [.int (xs (i + 1))] τ r1 τ1) (h1 : τ1 0 20 = (rl_c1 (rm_tN (xs (i + 1))))) (h2 : (rl_c1 (rm_tN (xs (i + 1)))) = 0 → ((rl_s (((rm_upS σ (xs (i + 1))).1), (vp_updL f 0 (((rm_upS σ (xs (i + 1))).2)).toInt64)) (σ, f) (rm_tN (xs (i + 1))))).2 0 = r1.toInt64) (kk : ∀ (H1 : Heap) (locs1 : List Loc) (ls1 : Array Slot), rw_Wd k a b o s ((rl_s (((rm_upS σ (xs (i + 1))).1), (vp_updL f 0 (((rm_upS σ (xs (i + 1))).2)).toInt64)) (σ, f) (rm_tN (xs (i + 1))))).1 τ1 ((rl_s (((rm_upS σ (xs (i + 1))).1), (vp_updL f 0 (((rm_upS σ (xs (i + 1))).2)).toInt64)) (σ, f) (rm_tN (xs (i + 1))))).2 H1 locs1 → lv_has ls1 7 [(0, .ref bq), (1, .ref (a 0)), (2, .ref (b 0)), (3, .ref o), (4, .int (nI i))] → W p l e room_1 s m args below meth c H1 locs1 (cells + 1) (slots + 6) Q (F0 m 1030 ls1 [])) : W p l e room_1 s m args below meth c H locs cells slots Q (F0 m 837 ls []) := by
  have hx := CF.1
  have hb := CF.2.1
  have hts := CF.2.2.2.2
  have e1 : ∀ q : Nat, nI i + nI q = nI (i + q) := fun q => nI_add i q
  refine lv_aload_n hx hb dL_law_837 rfl (lv_at hl 1 rfl) ?_
  refine lv_aload_n hx hb dL_law_838 rfl (lv_at hl 0 rfl) ?_
  refine lv_iload hx hb dL_law_839 (lv_at hl 4 rfl) ?_
  refine lv_iconst (v := 1) hx hb dL_law_841 (by decide) ?_
  refine lv_iadd hx hb dL_law_842 ?_
  rw [show nI i + (1 : Int32) = nI (i + 1) from e1 1]
  refine rw_ld CF hw hX hbl (i := i + 1) (by omega) hL dL_law_843 ?_
  refine lv_aload_n hx hb dL_law_844 rfl (lv_at hl 3 rfl) ?_
  refine rw_callW CF E hw (As := [.ref (a 0), .int (xs (i + 1)), .ref o]) (rest := []) (jL_up l hfl k a E.2.2.2.1.1 o E.2.2.2.2.2.1 σ f (xs (i + 1)) H.size) (vx_cwSW 3 hts gL_law_L_up rfl rfl rfl (by decide +kernel) ⟨Nat.le_of_ble_eq_true rfl, Nat.le_of_ble_eq_true rfl⟩) rfl hl.1 rfl (lv_room (Nat.le_of_ble_eq_true rfl)) dL_law_845 ⟨by show cells + 1 ≤ 624306; omega, by show slots + 6 ≤ 7223187; omega⟩ (fun H locs hw => ?_)
  refine lv_istore (lv' := [(5, .int (rl_c1 (rm_tN (xs (i + 1))))), (0, .ref bq), (1, .ref (a 0)), (2, .ref (b 0)), (3, .ref o), (4, .int (nI i))]) hx hb dL_law_848 hl (by decide) rfl (fun ls hl => ?_)
  refine lv_aload_n hx hb dL_law_850 rfl (lv_at hl 3 rfl) ?_
  refine lv_aload_n hx hb dL_law_851 rfl (lv_at hl 1 rfl) ?_
  refine lv_iload hx hb dL_law_852 (lv_at hl 5 rfl) ?_
  refine lv_iconst (v := 1) hx hb dL_law_854 (by decide) ?_
  refine lv_iadd hx hb dL_law_855 ?_
  rw [show nI i + (1 : Int32) = nI (i + 1) from e1 1]
  refine rw_ld CF hw hX hbl (i := i + 1) (by omega) hL dL_law_856 ?_
  refine rw_callI CF E hw (As := [.int (xs (i + 1))]) (rest := []) hM (cwV 1 hts gL_law_X1_up rfl rfl rfl (by decide +kernel) ⟨Nat.le_of_ble_eq_true rfl, Nat.le_of_ble_eq_true rfl⟩) rfl hl.1 rfl (lv_room (Nat.le_of_ble_eq_true rfl)) dL_law_857 ⟨by show cells + 1 ≤ 624306; omega, by show slots + 6 ≤ 7223187; omega⟩ (fun H locs hw => ?_)
  refine lv_istore (lv' := [(6, .int r1), (5, .int (rl_c1 (rm_tN (xs (i + 1))))), (0, .ref bq), (1, .ref (a 0)), (2, .ref (b 0)), (3, .ref o), (4, .int (nI i))]) hx hb dL_law_860 hl (by decide) rfl (fun ls hl => ?_)
  refine lv_aload_n hx hb dL_law_862 rfl (lv_at hl 4 rfl) ?_
  refine rw_callI CF E hw (As := []) (rest := []) (kX1_thrown l k b E.2.2.2.1.2 τ1) (cwV 0 hts gL_law_X1_thrown rfl rfl rfl (by decide +kernel) ⟨Nat.le_of_ble_eq_true rfl, Nat.le_of_ble_eq_true rfl⟩) rfl hl.1 rfl (lv_room (Nat.le_of_ble_eq_true rfl)) dL_law_863 ⟨by show cells + 1 ≤ 624306; omega, by show slots + 6 ≤ 7223187; omega⟩ (fun H locs hw => ?_)
  refine lv_iload hx hb dL_law_866 (lv_at hl 1 rfl) ?_
  refine lv_icmp_eq (tgt := 873) hx hb dL_law_868 (by decide) (fun ce => ?_) (fun ce => absurd h1 ce)
  refine lv_iload hx hb dL_law_873 (lv_at hl 1 rfl) ?_
  refine lv_if_ne (tgt := 890) hx hb dL_law_875 (by decide) (fun cz => ?_) (fun cz => ?_)
  · skip
    refine lv_goto (tgt := 1030) hx hb dL_law_890 (by decide) ?_
    exact kk _ _ _ hw (lv_sub hl [2, 3, 4, 5, 6] rfl)
  · skip
    refine lv_aload_n hx hb dL_law_878 rfl (lv_at hl 5 rfl) ?_
    refine lv_iconst (v := 0) hx hb dL_law_879 (by decide) ?_
    refine rw_out CF E hw dL_law_880 ?_
    refine lv_iload hx hb dL_law_881 (lv_at hl 0 rfl) ?_
    refine lv_i2l (v := r1.toInt64) hx hb dL_law_883 rfl ?_
    refine W.lcmp hx hb dL_law_884 ?_
    refine lv_if_eq (tgt := 890) hx hb dL_law_885 (by decide) (fun cq => ?_) (fun cq => absurd (by rw [h2 cz]; simp [lg_cmp]) cq)
    refine lv_goto (tgt := 1030) hx hb dL_law_890 (by decide) ?_
    exact kk _ _ _ hw (lv_sub hl [2, 3, 4, 5, 6] rfl)
set_option maxHeartbeats 4000000 in
set_option maxRecDepth 100000 in
theorem rw_case_loops {p : Program} {l : Launch} {e : Env} {s : State} {m : MethodId} {args : Array Value} {below : List Frame} {meth : Method} {c : Code} {H : Heap} {locs : List Loc} {cells slots : Nat} {Q : State → Prop} {ls : Array Slot} {k : rm_K} {a b : Nat → Nat} {o bq L i : Nat} {xs : Nat → Int32} {σ τ τ1 : rm_St} {f : Nat → Int64} {r1 : Int32} (hfl : l.stackTraces = false) (CF : CallFix p m c cL_law 7 s args wsL_law RL) (E : rw_E k a b o s) (hw : rw_Wd k a b o s σ τ f H locs) (hX : va_X bq L xs s s.heap) (hbl : bq < s.heap.size) (hi : i + 5 ≤ L) (hL : L ≤ 2560) (hl : lv_has ls 7 [(0, .ref bq), (1, .ref (a 0)), (2, .ref (b 0)), (3, .ref o), (4, .int (nI i))]) (hc : cells + 4 ≤ 624306) (hs : slots + 24 ≤ 7223187) (hM : rn_MI l k b yX1_loops wsX1_loops ({ frames := 0, cells := 0, slots := 0, locals := 0 }) [] τ r1 τ1) (h1 : σ 0 5 = r1) (kk : ∀ (H1 : Heap) (locs1 : List Loc) (ls1 : Array Slot), rw_Wd k a b o s ((σ, f)).1 τ1 ((σ, f)).2 H1 locs1 → lv_has ls1 7 [(0, .ref bq), (1, .ref (a 0)), (2, .ref (b 0)), (3, .ref o), (4, .int (nI i))] → W p l e room_1 s m args below meth c H1 locs1 (cells + 0) (slots + 0) Q (F0 m 1030 ls1 [])) : W p l e room_1 s m args below meth c H locs cells slots Q (F0 m 893 ls []) := by
  have hx := CF.1
  have hb := CF.2.1
  have hts := CF.2.2.2.2
  have e1 : ∀ q : Nat, nI i + nI q = nI (i + q) := fun q => nI_add i q
  refine lv_aload_n hx hb dL_law_893 rfl (lv_at hl 1 rfl) ?_
  refine rw_callM CF E hw (As := []) (rest := []) (kX0_loops l k a E.2.2.2.1.1 σ) (cwV 0 hts gL_law_X0_loops rfl rfl rfl (by decide +kernel) ⟨Nat.le_of_ble_eq_true rfl, Nat.le_of_ble_eq_true rfl⟩) rfl hl.1 rfl (lv_room (Nat.le_of_ble_eq_true rfl)) dL_law_894 ⟨by show cells ≤ 624306; omega, by show slots ≤ 7223187; omega⟩ (fun H locs hw => ?_)
  refine lv_aload_n hx hb dL_law_897 rfl (lv_at hl 2 rfl) ?_
  refine rw_callI CF E hw (As := []) (rest := [.int (σ 0 5)]) hM (cwV 0 hts gL_law_X1_loops rfl rfl rfl (by decide +kernel) ⟨Nat.le_of_ble_eq_true rfl, Nat.le_of_ble_eq_true rfl⟩) rfl hl.1 rfl (lv_room (Nat.le_of_ble_eq_true rfl)) dL_law_898 ⟨by show cells ≤ 624306; omega, by show slots ≤ 7223187; omega⟩ (fun H locs hw => ?_)
  refine lv_icmp_eq (tgt := 1030) hx hb dL_law_901 (by decide) (fun ce => ?_) (fun ce => absurd h1 ce)
  exact kk _ _ _ hw hl
set_option maxHeartbeats 4000000 in
set_option maxRecDepth 100000 in
theorem rw_case_below {p : Program} {l : Launch} {e : Env} {s : State} {m : MethodId} {args : Array Value} {below : List Frame} {meth : Method} {c : Code} {H : Heap} {locs : List Loc} {cells slots : Nat} {Q : State → Prop} {ls : Array Slot} {k : rm_K} {a b : Nat → Nat} {o bq L i : Nat} {xs : Nat → Int32} {σ τ τ1 : rm_St} {f : Nat → Int64} {r1 : Int32} (hfl : l.stackTraces = false) (CF : CallFix p m c cL_law 7 s args wsL_law RL) (E : rw_E k a b o s) (hw : rw_Wd k a b o s σ τ f H locs) (hX : va_X bq L xs s s.heap) (hbl : bq < s.heap.size) (hi : i + 5 ≤ L) (hL : L ≤ 2560) (hl : lv_has ls 7 [(0, .ref bq), (1, .ref (a 0)), (2, .ref (b 0)), (3, .ref o), (4, .int (nI i))]) (hc : cells + 4 ≤ 624306) (hs : slots + 24 ≤ 7223187) (hM : rn_MI l k b yX1_below wsX1_below ({ frames := 2, cells := 0, slots := 0, locals := 42 }) [.int (xs (i + 1))] τ r1 τ1) (h1 : τ1 0 20 = (rl_c1 (rm_tN (xs (i + 1))))) (h2 : (rl_c1 (rm_tN (xs (i + 1)))) = 0 → ((rl_s (σ, (vp_updL f 0 ((rm_below σ (xs (i + 1)))).toInt64)) (σ, f) (rm_tN (xs (i + 1))))).2 0 = r1.toInt64) (kk : ∀ (H1 : Heap) (locs1 : List Loc) (ls1 : Array Slot), rw_Wd k a b o s ((rl_s (σ, (vp_updL f 0 ((rm_below σ (xs (i + 1)))).toInt64)) (σ, f) (rm_tN (xs (i + 1))))).1 τ1 ((rl_s (σ, (vp_updL f 0 ((rm_below σ (xs (i + 1)))).toInt64)) (σ, f) (rm_tN (xs (i + 1))))).2 H1 locs1 → lv_has ls1 7 [(0, .ref bq), (1, .ref (a 0)), (2, .ref (b 0)), (3, .ref o), (4, .int (nI i))] → W p l e room_1 s m args below meth c H1 locs1 (cells + 1) (slots + 6) Q (F0 m 1030 ls1 [])) : W p l e room_1 s m args below meth c H locs cells slots Q (F0 m 906 ls []) := by
  have hx := CF.1
  have hb := CF.2.1
  have hts := CF.2.2.2.2
  have e1 : ∀ q : Nat, nI i + nI q = nI (i + q) := fun q => nI_add i q
  refine lv_aload_n hx hb dL_law_906 rfl (lv_at hl 1 rfl) ?_
  refine lv_aload_n hx hb dL_law_907 rfl (lv_at hl 0 rfl) ?_
  refine lv_iload hx hb dL_law_908 (lv_at hl 4 rfl) ?_
  refine lv_iconst (v := 1) hx hb dL_law_910 (by decide) ?_
  refine lv_iadd hx hb dL_law_911 ?_
  rw [show nI i + (1 : Int32) = nI (i + 1) from e1 1]
  refine rw_ld CF hw hX hbl (i := i + 1) (by omega) hL dL_law_912 ?_
  refine lv_aload_n hx hb dL_law_913 rfl (lv_at hl 3 rfl) ?_
  refine rw_callW CF E hw (As := [.ref (a 0), .int (xs (i + 1)), .ref o]) (rest := []) (jL_below l hfl k a E.2.2.2.1.1 o E.2.2.2.2.2.1 σ f (xs (i + 1)) H.size) (vx_cwSW 3 hts gL_law_L_below rfl rfl rfl (by decide +kernel) ⟨Nat.le_of_ble_eq_true rfl, Nat.le_of_ble_eq_true rfl⟩) rfl hl.1 rfl (lv_room (Nat.le_of_ble_eq_true rfl)) dL_law_914 ⟨by show cells + 1 ≤ 624306; omega, by show slots + 6 ≤ 7223187; omega⟩ (fun H locs hw => ?_)
  refine lv_istore (lv' := [(5, .int (rl_c1 (rm_tN (xs (i + 1))))), (0, .ref bq), (1, .ref (a 0)), (2, .ref (b 0)), (3, .ref o), (4, .int (nI i))]) hx hb dL_law_917 hl (by decide) rfl (fun ls hl => ?_)
  refine lv_aload_n hx hb dL_law_919 rfl (lv_at hl 3 rfl) ?_
  refine lv_aload_n hx hb dL_law_920 rfl (lv_at hl 1 rfl) ?_
  refine lv_iload hx hb dL_law_921 (lv_at hl 5 rfl) ?_
  refine lv_iconst (v := 1) hx hb dL_law_923 (by decide) ?_
  refine lv_iadd hx hb dL_law_924 ?_
  rw [show nI i + (1 : Int32) = nI (i + 1) from e1 1]
  refine rw_ld CF hw hX hbl (i := i + 1) (by omega) hL dL_law_925 ?_
  refine rw_callI CF E hw (As := [.int (xs (i + 1))]) (rest := []) hM (cwV 1 hts gL_law_X1_below rfl rfl rfl (by decide +kernel) ⟨Nat.le_of_ble_eq_true rfl, Nat.le_of_ble_eq_true rfl⟩) rfl hl.1 rfl (lv_room (Nat.le_of_ble_eq_true rfl)) dL_law_926 ⟨by show cells + 1 ≤ 624306; omega, by show slots + 6 ≤ 7223187; omega⟩ (fun H locs hw => ?_)
  refine lv_istore (lv' := [(6, .int r1), (5, .int (rl_c1 (rm_tN (xs (i + 1))))), (0, .ref bq), (1, .ref (a 0)), (2, .ref (b 0)), (3, .ref o), (4, .int (nI i))]) hx hb dL_law_929 hl (by decide) rfl (fun ls hl => ?_)
  refine lv_aload_n hx hb dL_law_931 rfl (lv_at hl 4 rfl) ?_
  refine rw_callI CF E hw (As := []) (rest := []) (kX1_thrown l k b E.2.2.2.1.2 τ1) (cwV 0 hts gL_law_X1_thrown rfl rfl rfl (by decide +kernel) ⟨Nat.le_of_ble_eq_true rfl, Nat.le_of_ble_eq_true rfl⟩) rfl hl.1 rfl (lv_room (Nat.le_of_ble_eq_true rfl)) dL_law_932 ⟨by show cells + 1 ≤ 624306; omega, by show slots + 6 ≤ 7223187; omega⟩ (fun H locs hw => ?_)
  refine lv_iload hx hb dL_law_935 (lv_at hl 1 rfl) ?_
  refine lv_icmp_eq (tgt := 942) hx hb dL_law_937 (by decide) (fun ce => ?_) (fun ce => absurd h1 ce)
  refine lv_iload hx hb dL_law_942 (lv_at hl 1 rfl) ?_
  refine lv_if_ne (tgt := 959) hx hb dL_law_944 (by decide) (fun cz => ?_) (fun cz => ?_)
  · skip
    refine lv_goto (tgt := 1030) hx hb dL_law_959 (by decide) ?_
    exact kk _ _ _ hw (lv_sub hl [2, 3, 4, 5, 6] rfl)
  · skip
    refine lv_aload_n hx hb dL_law_947 rfl (lv_at hl 5 rfl) ?_
    refine lv_iconst (v := 0) hx hb dL_law_948 (by decide) ?_
    refine rw_out CF E hw dL_law_949 ?_
    refine lv_iload hx hb dL_law_950 (lv_at hl 0 rfl) ?_
    refine lv_i2l (v := r1.toInt64) hx hb dL_law_952 rfl ?_
    refine W.lcmp hx hb dL_law_953 ?_
    refine lv_if_eq (tgt := 959) hx hb dL_law_954 (by decide) (fun cq => ?_) (fun cq => absurd (by rw [h2 cz]; simp [lg_cmp]) cq)
    refine lv_goto (tgt := 1030) hx hb dL_law_959 (by decide) ?_
    exact kk _ _ _ hw (lv_sub hl [2, 3, 4, 5, 6] rfl)
set_option maxHeartbeats 4000000 in
set_option maxRecDepth 100000 in
theorem rw_case_down {p : Program} {l : Launch} {e : Env} {s : State} {m : MethodId} {args : Array Value} {below : List Frame} {meth : Method} {c : Code} {H : Heap} {locs : List Loc} {cells slots : Nat} {Q : State → Prop} {ls : Array Slot} {k : rm_K} {a b : Nat → Nat} {o bq L i : Nat} {xs : Nat → Int32} {σ τ τ1 : rm_St} {f : Nat → Int64} {r1 : Int32} (hfl : l.stackTraces = false) (CF : CallFix p m c cL_law 7 s args wsL_law RL) (E : rw_E k a b o s) (hw : rw_Wd k a b o s σ τ f H locs) (hX : va_X bq L xs s s.heap) (hbl : bq < s.heap.size) (hi : i + 5 ≤ L) (hL : L ≤ 2560) (hl : lv_has ls 7 [(0, .ref bq), (1, .ref (a 0)), (2, .ref (b 0)), (3, .ref o), (4, .int (nI i))]) (hc : cells + 4 ≤ 624306) (hs : slots + 24 ≤ 7223187) (hM : rn_MI l k b yX1_down wsX1_down ({ frames := 2, cells := 0, slots := 0, locals := 42 }) [.int (xs (i + 1)), .int (xs (i + 2))] τ r1 τ1) (h1 : τ1 0 20 = (rl_c2 rm_IO (rm_tDown σ (xs (i + 1)) (xs (i + 2))))) (h2 : (rl_c2 rm_IO (rm_tDown σ (xs (i + 1)) (xs (i + 2)))) = 0 → ((rl_s (σ, (vp_updL f 0 (((rm_dnL σ (xs (i + 1)) 10 0 (xs (i + 2))).getD 0)).toInt64)) (σ, f) (rm_tDown σ (xs (i + 1)) (xs (i + 2))))).2 0 = r1.toInt64) (kk : ∀ (H1 : Heap) (locs1 : List Loc) (ls1 : Array Slot), rw_Wd k a b o s ((rl_s (σ, (vp_updL f 0 (((rm_dnL σ (xs (i + 1)) 10 0 (xs (i + 2))).getD 0)).toInt64)) (σ, f) (rm_tDown σ (xs (i + 1)) (xs (i + 2))))).1 τ1 ((rl_s (σ, (vp_updL f 0 (((rm_dnL σ (xs (i + 1)) 10 0 (xs (i + 2))).getD 0)).toInt64)) (σ, f) (rm_tDown σ (xs (i + 1)) (xs (i + 2))))).2 H1 locs1 → lv_has ls1 7 [(0, .ref bq), (1, .ref (a 0)), (2, .ref (b 0)), (3, .ref o), (4, .int (nI i))] → W p l e room_1 s m args below meth c H1 locs1 (cells + 3) (slots + 18) Q (F0 m 1030 ls1 [])) : W p l e room_1 s m args below meth c H locs cells slots Q (F0 m 962 ls []) := by
  have hx := CF.1
  have hb := CF.2.1
  have hts := CF.2.2.2.2
  have e1 : ∀ q : Nat, nI i + nI q = nI (i + q) := fun q => nI_add i q
  refine lv_aload_n hx hb dL_law_962 rfl (lv_at hl 1 rfl) ?_
  refine lv_aload_n hx hb dL_law_963 rfl (lv_at hl 0 rfl) ?_
  refine lv_iload hx hb dL_law_964 (lv_at hl 4 rfl) ?_
  refine lv_iconst (v := 1) hx hb dL_law_966 (by decide) ?_
  refine lv_iadd hx hb dL_law_967 ?_
  rw [show nI i + (1 : Int32) = nI (i + 1) from e1 1]
  refine rw_ld CF hw hX hbl (i := i + 1) (by omega) hL dL_law_968 ?_
  refine lv_aload_n hx hb dL_law_969 rfl (lv_at hl 0 rfl) ?_
  refine lv_iload hx hb dL_law_970 (lv_at hl 4 rfl) ?_
  refine lv_iconst (v := 2) hx hb dL_law_972 (by decide) ?_
  refine lv_iadd hx hb dL_law_973 ?_
  rw [show nI i + (2 : Int32) = nI (i + 2) from e1 2]
  refine rw_ld CF hw hX hbl (i := i + 2) (by omega) hL dL_law_974 ?_
  refine lv_aload_n hx hb dL_law_975 rfl (lv_at hl 3 rfl) ?_
  refine rw_callW CF E hw (As := [.ref (a 0), .int (xs (i + 1)), .int (xs (i + 2)), .ref o]) (rest := []) (jL_down l hfl k a E.2.2.2.1.1 o E.2.2.2.2.2.1 σ f (xs (i + 1)) (xs (i + 2)) H.size) (vx_cwSW 4 hts gL_law_L_down rfl rfl rfl (by decide +kernel) ⟨Nat.le_of_ble_eq_true rfl, Nat.le_of_ble_eq_true rfl⟩) rfl hl.1 rfl (lv_room (Nat.le_of_ble_eq_true rfl)) dL_law_976 ⟨by show cells + 3 ≤ 624306; omega, by show slots + 18 ≤ 7223187; omega⟩ (fun H locs hw => ?_)
  refine lv_istore (lv' := [(5, .int (rl_c2 rm_IO (rm_tDown σ (xs (i + 1)) (xs (i + 2))))), (0, .ref bq), (1, .ref (a 0)), (2, .ref (b 0)), (3, .ref o), (4, .int (nI i))]) hx hb dL_law_979 hl (by decide) rfl (fun ls hl => ?_)
  refine lv_aload_n hx hb dL_law_981 rfl (lv_at hl 3 rfl) ?_
  refine lv_aload_n hx hb dL_law_982 rfl (lv_at hl 1 rfl) ?_
  refine lv_iload hx hb dL_law_983 (lv_at hl 5 rfl) ?_
  refine lv_iconst (v := 1) hx hb dL_law_985 (by decide) ?_
  refine lv_iadd hx hb dL_law_986 ?_
  rw [show nI i + (1 : Int32) = nI (i + 1) from e1 1]
  refine rw_ld CF hw hX hbl (i := i + 1) (by omega) hL dL_law_987 ?_
  refine lv_aload_n hx hb dL_law_988 rfl (lv_at hl 1 rfl) ?_
  refine lv_iload hx hb dL_law_989 (lv_at hl 5 rfl) ?_
  refine lv_iconst (v := 2) hx hb dL_law_991 (by decide) ?_
  refine lv_iadd hx hb dL_law_992 ?_
  rw [show nI i + (2 : Int32) = nI (i + 2) from e1 2]
  refine rw_ld CF hw hX hbl (i := i + 2) (by omega) hL dL_law_993 ?_
  refine rw_callI CF E hw (As := [.int (xs (i + 1)), .int (xs (i + 2))]) (rest := []) hM (cwV 2 hts gL_law_X1_down rfl rfl rfl (by decide +kernel) ⟨Nat.le_of_ble_eq_true rfl, Nat.le_of_ble_eq_true rfl⟩) rfl hl.1 rfl (lv_room (Nat.le_of_ble_eq_true rfl)) dL_law_994 ⟨by show cells + 3 ≤ 624306; omega, by show slots + 18 ≤ 7223187; omega⟩ (fun H locs hw => ?_)
  refine lv_istore (lv' := [(6, .int r1), (5, .int (rl_c2 rm_IO (rm_tDown σ (xs (i + 1)) (xs (i + 2))))), (0, .ref bq), (1, .ref (a 0)), (2, .ref (b 0)), (3, .ref o), (4, .int (nI i))]) hx hb dL_law_997 hl (by decide) rfl (fun ls hl => ?_)
  refine lv_aload_n hx hb dL_law_999 rfl (lv_at hl 4 rfl) ?_
  refine rw_callI CF E hw (As := []) (rest := []) (kX1_thrown l k b E.2.2.2.1.2 τ1) (cwV 0 hts gL_law_X1_thrown rfl rfl rfl (by decide +kernel) ⟨Nat.le_of_ble_eq_true rfl, Nat.le_of_ble_eq_true rfl⟩) rfl hl.1 rfl (lv_room (Nat.le_of_ble_eq_true rfl)) dL_law_1000 ⟨by show cells + 3 ≤ 624306; omega, by show slots + 18 ≤ 7223187; omega⟩ (fun H locs hw => ?_)
  refine lv_iload hx hb dL_law_1003 (lv_at hl 1 rfl) ?_
  refine lv_icmp_eq (tgt := 1010) hx hb dL_law_1005 (by decide) (fun ce => ?_) (fun ce => absurd h1 ce)
  refine lv_iload hx hb dL_law_1010 (lv_at hl 1 rfl) ?_
  refine lv_if_ne (tgt := 1027) hx hb dL_law_1012 (by decide) (fun cz => ?_) (fun cz => ?_)
  · skip
    refine lv_goto (tgt := 1030) hx hb dL_law_1027 (by decide) ?_
    exact kk _ _ _ hw (lv_sub hl [2, 3, 4, 5, 6] rfl)
  · skip
    refine lv_aload_n hx hb dL_law_1015 rfl (lv_at hl 5 rfl) ?_
    refine lv_iconst (v := 0) hx hb dL_law_1016 (by decide) ?_
    refine rw_out CF E hw dL_law_1017 ?_
    refine lv_iload hx hb dL_law_1018 (lv_at hl 0 rfl) ?_
    refine lv_i2l (v := r1.toInt64) hx hb dL_law_1020 rfl ?_
    refine W.lcmp hx hb dL_law_1021 ?_
    refine lv_if_eq (tgt := 1027) hx hb dL_law_1022 (by decide) (fun cq => ?_) (fun cq => absurd (by rw [h2 cz]; simp [lg_cmp]) cq)
    refine lv_goto (tgt := 1030) hx hb dL_law_1027 (by decide) ?_
    exact kk _ _ _ hw (lv_sub hl [2, 3, 4, 5, 6] rfl)

theorem qW_L_appendInput : Cond.codeWith yL_appendInput cL_appendInput 8 (some .int) [(0, 16, 19, 13)] ∈ TB := tb_of 957 (by decide +kernel) (by decide +kernel)
abbrev rm_L_appendInput : Room := { frames := 7, cells := 1, slots := 6, locals := 108 }
set_option maxRecDepth 100000 in
set_option maxHeartbeats 4000000 in
theorem c_L_appendInput (l : Launch) {E : Ev} (hN : 147 ≤ eN E) (hT : St E) (hlf : l.stackTraces = false) (hC : NC E) {σ σ' : SM} {p1 : Int32} {p2 : Int32} {p3 : Int32} {p4 : Int32} {p5 : Int32} {z : Nat ⊕ (Int32 × SM)} {rv : Int32} (hf : f_X12_appendInput p1 p2 p3 p4 p5 σ = some z) (hz : HM oI [0] z σ rv σ') : Met l yL_appendInput (wW yL_appendInput cL_appendInput 8 (some .int) [(0, 16, 19, 13)]) rm_L_appendInput (va_Pc [.ref (adr E 19 0), .int p1, .int p2, .int p3, .int p4, .int p5, .ref (adr E 21 0)] (Wu E σ)) (va_Qi (fun r u => rv = r ∧ σ' = u) (fun u t => Wu E u t) (eA E)) 1 6 (eA E) := by
  refine gW_entry (lv := [(0, .ref (adr E 19 0)), (1, .int p1), (2, .int p2), (3, .int p3), (4, .int p4), (5, .int p5), (6, .ref (adr E 21 0))]) (by decide) (Nat.le_of_ble_eq_true rfl) rfl ?_
  intro p e s m below meth c cx hxt hp ls hl
  have hx := cx.1.1
  have hb := cx.1.2.1
  refine lv_aload hx hb dL_appendInput_0 (lv_at hl 6 rfl) ?_
  refine lv_iconst (v := 0) hx hb dL_appendInput_2 (by decide) ?_
  refine lv_aload_n hx hb dL_appendInput_3 rfl (lv_at hl 0 rfl) ?_
  refine lv_iload_n hx hb dL_appendInput_4 rfl (lv_at hl 1 rfl) ?_
  refine lv_iload_n hx hb dL_appendInput_5 rfl (lv_at hl 2 rfl) ?_
  refine lv_iload_n hx hb dL_appendInput_6 rfl (lv_at hl 3 rfl) ?_
  refine lv_iload hx hb dL_appendInput_7 (lv_at hl 4 rfl) ?_
  refine lv_iload hx hb dL_appendInput_9 (lv_at hl 5 rfl) ?_
  refine hx_i cx hp (yx_V (As := [.int p1, .int p2, .int p3, .int p4, .int p5]) (rest := [.int 0, .ref (adr E 21 0)]) cx hp hl (c_X12_appendInput l (Nat.le_trans (by decide) hN) hT hlf hf) (cw_L_7 cx (mc := 1) (ms := 6) rfl rfl ⟨by decide, by decide⟩) (rC_X12 (Nat.le_trans (by decide) hN) cx hp) rfl rfl (Nat.le_of_ble_eq_true rfl) dL_appendInput_11 ⟨by decide, by decide⟩) (fun k H locs ce q hk hp h1 h2 h3 => ?_) (fun r u H locs hq hp => ?_)
  · rcases hz with ⟨j, k', hj, hz, rfl, rfl⟩ | ⟨r, τ, hz, -, -⟩
    · obtain rfl : k' = k := Sum.inl.inj (hz.symm.trans hk)
      rcases j with _ | j
      · obtain rfl : 0 = k' := Option.some.inj hj
        refine vx_catch cx.1.2.2.2.1 [] ⟨0, 16, 19, 13⟩ [] hxt (fun _ h => absurd h List.not_mem_nil) rfl (by decide) (cx.1.2.2.2.2 _ qK_L_13) (va_Nw.use (nb_tab qX_java_lang_IllegalStateException_java_lang_IllegalStateException) (cx.2.2.1.2.2.1 _ qX_java_lang_IllegalStateException_java_lang_IllegalStateException)) h1 h2 h3 ?_
        refine lv_astore (lv' := [(7, .ref q), (0, .ref (adr E 19 0)), (1, .int p1), (2, .int p2), (3, .int p3), (4, .int p4), (5, .int p5), (6, .ref (adr E 21 0))]) hx hb dL_appendInput_19 hl (by decide) rfl (fun ls hl => ?_)
        refine lv_iconst (v := 1) hx hb dL_appendInput_21 (by decide) ?_
        exact r_i cx hp ⟨by decide, rfl⟩ dL_appendInput_22
      · exact absurd hj (by simp)
    · exact absurd (hz.symm.trans hk) (fun h9 => by cases h9)
  · rcases hz with ⟨j, k', hj, hz, -, -⟩ | ⟨r', τ, hz, rfl, rfl⟩
    · exact absurd (hz.symm.trans hq) (fun h9 => by cases h9)
    · obtain ⟨rfl, rfl⟩ := Prod.mk.inj (Sum.inr.inj (hz.symm.trans hq))
      refine lv_i2l hx hb dL_appendInput_14 rfl ?_
      refine s_out hN cx hp dL_appendInput_15 (fun H locs hp => ?_)
      refine lv_goto (tgt := 23) hx hb dL_appendInput_16 (by decide) ?_
      refine lv_iconst (v := 0) hx hb dL_appendInput_23 (by decide) ?_
      exact r_i cx hp ⟨by decide, rfl⟩ dL_appendInput_24
theorem cwS_L_appendInput {p : Program} {R : Room} {s : State} {m : MethodId} {args : Array Value} {meth : Method} {c : Code} {E : Ev} {cc : ByteArray} {nL : Nat} {ret : Option FieldType} (cx : Cx E p s m meth c args RL cc nL ret) (hR : rm_L_appendInput.frames + 1 ≤ R.frames ∧ 8 + (8 + 11) + rm_L_appendInput.locals ≤ R.locals) : vx_CSW R s args RL 130 yL_appendInput cL_appendInput 8 (some .int) [(0, 16, 19, 13)] (wW yL_appendInput cL_appendInput 8 (some .int) [(0, 16, 19, 13)]) rm_L_appendInput 1 6 7 := vx_cwSW 7 cx.1.2.2.2.2 (gd_SW qM_L_130 qT_L_appendInput qN_L qW_L_appendInput) rfl rfl rfl (by decide +kernel) hR
theorem qW_L_truncateInput : Cond.codeWith yL_truncateInput cL_truncateInput 4 (some .int) [(0, 9, 12, 19)] ∈ TB := tb_of 1036 (by decide +kernel) (by decide +kernel)
abbrev rm_L_truncateInput : Room := { frames := 7, cells := 1, slots := 6, locals := 104 }
set_option maxRecDepth 100000 in
set_option maxHeartbeats 4000000 in
theorem c_L_truncateInput (l : Launch) {E : Ev} (hN : 147 ≤ eN E) (hT : St E) (hlf : l.stackTraces = false) (hC : NC E) {σ σ' : SM} {p1 : Int32} {z : Nat ⊕ (Int32 × SM)} {rv : Int32} (hf : f_X12_truncateInput p1 σ = some z) (hz : HM oI [1] z σ rv σ') : Met l yL_truncateInput (wW yL_truncateInput cL_truncateInput 4 (some .int) [(0, 9, 12, 19)]) rm_L_truncateInput (va_Pc [.ref (adr E 19 0), .int p1, .ref (adr E 21 0)] (Wu E σ)) (va_Qi (fun r u => rv = r ∧ σ' = u) (fun u t => Wu E u t) (eA E)) 1 6 (eA E) := by
  refine gW_entry (lv := [(0, .ref (adr E 19 0)), (1, .int p1), (2, .ref (adr E 21 0))]) (by decide) (Nat.le_of_ble_eq_true rfl) rfl ?_
  intro p e s m below meth c cx hxt hp ls hl
  have hx := cx.1.1
  have hb := cx.1.2.1
  refine lv_aload_n hx hb dL_truncateInput_0 rfl (lv_at hl 2 rfl) ?_
  refine lv_iconst (v := 0) hx hb dL_truncateInput_1 (by decide) ?_
  refine lv_aload_n hx hb dL_truncateInput_2 rfl (lv_at hl 0 rfl) ?_
  refine lv_iload_n hx hb dL_truncateInput_3 rfl (lv_at hl 1 rfl) ?_
  refine hx_i cx hp (yx_V (As := [.int p1]) (rest := [.int 0, .ref (adr E 21 0)]) cx hp hl (c_X12_truncateInput l (Nat.le_trans (by decide) hN) hT hlf hf) (cw_L_15 cx (mc := 1) (ms := 6) rfl rfl ⟨by decide, by decide⟩) (rC_X12 (Nat.le_trans (by decide) hN) cx hp) rfl rfl (Nat.le_of_ble_eq_true rfl) dL_truncateInput_4 ⟨by decide, by decide⟩) (fun k H locs ce q hk hp h1 h2 h3 => ?_) (fun r u H locs hq hp => ?_)
  · rcases hz with ⟨j, k', hj, hz, rfl, rfl⟩ | ⟨r, τ, hz, -, -⟩
    · obtain rfl : k' = k := Sum.inl.inj (hz.symm.trans hk)
      rcases j with _ | j
      · obtain rfl : 1 = k' := Option.some.inj hj
        refine vx_catch cx.1.2.2.2.1 [] ⟨0, 9, 12, 19⟩ [] hxt (fun _ h => absurd h List.not_mem_nil) rfl (by decide) (cx.1.2.2.2.2 _ qK_L_19) (va_Nw.use (nb_tab qX_java_lang_IllegalArgumentException_java_lang_IllegalArgumentException) (cx.2.2.1.2.2.1 _ qX_java_lang_IllegalArgumentException_java_lang_IllegalArgumentException)) h1 h2 h3 ?_
        refine lv_astore_n (lv' := [(3, .ref q), (0, .ref (adr E 19 0)), (1, .int p1), (2, .ref (adr E 21 0))]) hx hb dL_truncateInput_12 rfl hl (by decide) rfl (fun ls hl => ?_)
        refine lv_iconst (v := 1) hx hb dL_truncateInput_13 (by decide) ?_
        exact r_i cx hp ⟨by decide, rfl⟩ dL_truncateInput_14
      · exact absurd hj (by simp)
    · exact absurd (hz.symm.trans hk) (fun h9 => by cases h9)
  · rcases hz with ⟨j, k', hj, hz, -, -⟩ | ⟨r', τ, hz, rfl, rfl⟩
    · exact absurd (hz.symm.trans hq) (fun h9 => by cases h9)
    · obtain ⟨rfl, rfl⟩ := Prod.mk.inj (Sum.inr.inj (hz.symm.trans hq))
      refine lv_i2l hx hb dL_truncateInput_7 rfl ?_
      refine s_out hN cx hp dL_truncateInput_8 (fun H locs hp => ?_)
      refine lv_goto (tgt := 15) hx hb dL_truncateInput_9 (by decide) ?_
      refine lv_iconst (v := 0) hx hb dL_truncateInput_15 (by decide) ?_
      exact r_i cx hp ⟨by decide, rfl⟩ dL_truncateInput_16
theorem cwS_L_truncateInput {p : Program} {R : Room} {s : State} {m : MethodId} {args : Array Value} {meth : Method} {c : Code} {E : Ev} {cc : ByteArray} {nL : Nat} {ret : Option FieldType} (cx : Cx E p s m meth c args RL cc nL ret) (hR : rm_L_truncateInput.frames + 1 ≤ R.frames ∧ 8 + (4 + 11) + rm_L_truncateInput.locals ≤ R.locals) : vx_CSW R s args RL 139 yL_truncateInput cL_truncateInput 4 (some .int) [(0, 9, 12, 19)] (wW yL_truncateInput cL_truncateInput 4 (some .int) [(0, 9, 12, 19)]) rm_L_truncateInput 1 6 3 := vx_cwSW 3 cx.1.2.2.2.2 (gd_SW qM_L_139 qT_L_truncateInput qN_L qW_L_truncateInput) rfl rfl rfl (by decide +kernel) hR
theorem qW_L_balance : Cond.codeWith yL_balance cL_balance 4 (some .int) [(0, 9, 12, 24)] ∈ TB := tb_of 1060 (by decide +kernel) (by decide +kernel)
abbrev rm_L_balance : Room := { frames := 8, cells := 1, slots := 6, locals := 124 }
set_option maxRecDepth 100000 in
set_option maxHeartbeats 4000000 in
theorem c_L_balance (l : Launch) {E : Ev} (hN : 147 ≤ eN E) (hT : St E) (hlf : l.stackTraces = false) (hC : NC E) {σ σ' : SM} {p1 : Int32} {z : Nat ⊕ Int32} {rv : Int32} (hf : f_X12_balance p1 σ = some z) (hz : HX oI [2] z σ rv σ') : Met l yL_balance (wW yL_balance cL_balance 4 (some .int) [(0, 9, 12, 24)]) rm_L_balance (va_Pc [.ref (adr E 19 0), .int p1, .ref (adr E 21 0)] (Wu E σ)) (va_Qi (fun r u => rv = r ∧ σ' = u) (fun u t => Wu E u t) (eA E)) 1 6 (eA E) := by
  refine gW_entry (lv := [(0, .ref (adr E 19 0)), (1, .int p1), (2, .ref (adr E 21 0))]) (by decide) (Nat.le_of_ble_eq_true rfl) rfl ?_
  intro p e s m below meth c cx hxt hp ls hl
  have hx := cx.1.1
  have hb := cx.1.2.1
  refine lv_aload_n hx hb dL_balance_0 rfl (lv_at hl 2 rfl) ?_
  refine lv_iconst (v := 0) hx hb dL_balance_1 (by decide) ?_
  refine lv_aload_n hx hb dL_balance_2 rfl (lv_at hl 0 rfl) ?_
  refine lv_iload_n hx hb dL_balance_3 rfl (lv_at hl 1 rfl) ?_
  refine hx_i cx hp (yx_V (As := [.int p1]) (rest := [.int 0, .ref (adr E 21 0)]) cx hp hl (c_X12_balance l (Nat.le_trans (by decide) hN) hT hlf hf) (cw_L_21 cx (mc := 1) (ms := 6) rfl rfl ⟨by decide, by decide⟩) (rC_X12 (Nat.le_trans (by decide) hN) cx hp) rfl rfl (Nat.le_of_ble_eq_true rfl) dL_balance_4 ⟨by decide, by decide⟩) (fun k H locs ce q hk hp h1 h2 h3 => ?_) (fun r u H locs hq hp => ?_)
  · rcases hz with ⟨j, k', hj, hz, rfl, rfl⟩ | ⟨r, hz, -, -⟩
    · obtain rfl : k' = k := Sum.inl.inj (hz.symm.trans hk)
      rcases j with _ | j
      · obtain rfl : 2 = k' := Option.some.inj hj
        refine vx_catch cx.1.2.2.2.1 [] ⟨0, 9, 12, 24⟩ [] hxt (fun _ h => absurd h List.not_mem_nil) rfl (by decide) (cx.1.2.2.2.2 _ qK_L_24) (va_Nw.use (nb_tab qX_java_lang_IndexOutOfBoundsException_java_lang_IndexOutOfBoundsException) (cx.2.2.1.2.2.1 _ qX_java_lang_IndexOutOfBoundsException_java_lang_IndexOutOfBoundsException)) h1 h2 h3 ?_
        refine lv_astore_n (lv' := [(3, .ref q), (0, .ref (adr E 19 0)), (1, .int p1), (2, .ref (adr E 21 0))]) hx hb dL_balance_12 rfl hl (by decide) rfl (fun ls hl => ?_)
        refine lv_iconst (v := 1) hx hb dL_balance_13 (by decide) ?_
        exact r_i cx hp ⟨by decide, rfl⟩ dL_balance_14
      · exact absurd hj (by simp)
    · exact absurd (hz.symm.trans hk) (fun h9 => by cases h9)
  · rcases hz with ⟨j, k', hj, hz, -, -⟩ | ⟨r', hz, rfl, rfl⟩
    · exact absurd (hz.symm.trans hq.1) (fun h9 => by cases h9)
    · obtain ⟨hq, rfl⟩ := hq
      obtain rfl : r' = r := Sum.inr.inj (hz.symm.trans hq)
      refine lv_i2l hx hb dL_balance_7 rfl ?_
      refine s_out hN cx hp dL_balance_8 (fun H locs hp => ?_)
      refine lv_goto (tgt := 15) hx hb dL_balance_9 (by decide) ?_
      refine lv_iconst (v := 0) hx hb dL_balance_15 (by decide) ?_
      exact r_i cx hp ⟨by decide, rfl⟩ dL_balance_16
theorem cwS_L_balance {p : Program} {R : Room} {s : State} {m : MethodId} {args : Array Value} {meth : Method} {c : Code} {E : Ev} {cc : ByteArray} {nL : Nat} {ret : Option FieldType} (cx : Cx E p s m meth c args RL cc nL ret) (hR : rm_L_balance.frames + 1 ≤ R.frames ∧ 8 + (4 + 11) + rm_L_balance.locals ≤ R.locals) : vx_CSW R s args RL 171 yL_balance cL_balance 4 (some .int) [(0, 9, 12, 24)] (wW yL_balance cL_balance 4 (some .int) [(0, 9, 12, 24)]) rm_L_balance 1 6 3 := vx_cwSW 3 cx.1.2.2.2.2 (gd_SW qM_L_171 qT_L_balance qN_L qW_L_balance) rfl rfl rfl (by decide +kernel) hR
theorem qW_L_income : Cond.codeWith yL_income cL_income 4 (some .int) [(0, 9, 12, 24)] ∈ TB := tb_of 1088 (by decide +kernel) (by decide +kernel)
abbrev rm_L_income : Room := { frames := 8, cells := 1, slots := 6, locals := 124 }
set_option maxRecDepth 100000 in
set_option maxHeartbeats 4000000 in
theorem c_L_income (l : Launch) {E : Ev} (hN : 147 ≤ eN E) (hT : St E) (hlf : l.stackTraces = false) (hC : NC E) {σ σ' : SM} {p1 : Int32} {z : Nat ⊕ Int32} {rv : Int32} (hf : f_X12_income p1 σ = some z) (hz : HX oI [2] z σ rv σ') : Met l yL_income (wW yL_income cL_income 4 (some .int) [(0, 9, 12, 24)]) rm_L_income (va_Pc [.ref (adr E 19 0), .int p1, .ref (adr E 21 0)] (Wu E σ)) (va_Qi (fun r u => rv = r ∧ σ' = u) (fun u t => Wu E u t) (eA E)) 1 6 (eA E) := by
  refine gW_entry (lv := [(0, .ref (adr E 19 0)), (1, .int p1), (2, .ref (adr E 21 0))]) (by decide) (Nat.le_of_ble_eq_true rfl) rfl ?_
  intro p e s m below meth c cx hxt hp ls hl
  have hx := cx.1.1
  have hb := cx.1.2.1
  refine lv_aload_n hx hb dL_income_0 rfl (lv_at hl 2 rfl) ?_
  refine lv_iconst (v := 0) hx hb dL_income_1 (by decide) ?_
  refine lv_aload_n hx hb dL_income_2 rfl (lv_at hl 0 rfl) ?_
  refine lv_iload_n hx hb dL_income_3 rfl (lv_at hl 1 rfl) ?_
  refine hx_i cx hp (yx_V (As := [.int p1]) (rest := [.int 0, .ref (adr E 21 0)]) cx hp hl (c_X12_income l (Nat.le_trans (by decide) hN) hT hlf hf) (cw_L_26 cx (mc := 1) (ms := 6) rfl rfl ⟨by decide, by decide⟩) (rC_X12 (Nat.le_trans (by decide) hN) cx hp) rfl rfl (Nat.le_of_ble_eq_true rfl) dL_income_4 ⟨by decide, by decide⟩) (fun k H locs ce q hk hp h1 h2 h3 => ?_) (fun r u H locs hq hp => ?_)
  · rcases hz with ⟨j, k', hj, hz, rfl, rfl⟩ | ⟨r, hz, -, -⟩
    · obtain rfl : k' = k := Sum.inl.inj (hz.symm.trans hk)
      rcases j with _ | j
      · obtain rfl : 2 = k' := Option.some.inj hj
        refine vx_catch cx.1.2.2.2.1 [] ⟨0, 9, 12, 24⟩ [] hxt (fun _ h => absurd h List.not_mem_nil) rfl (by decide) (cx.1.2.2.2.2 _ qK_L_24) (va_Nw.use (nb_tab qX_java_lang_IndexOutOfBoundsException_java_lang_IndexOutOfBoundsException) (cx.2.2.1.2.2.1 _ qX_java_lang_IndexOutOfBoundsException_java_lang_IndexOutOfBoundsException)) h1 h2 h3 ?_
        refine lv_astore_n (lv' := [(3, .ref q), (0, .ref (adr E 19 0)), (1, .int p1), (2, .ref (adr E 21 0))]) hx hb dL_income_12 rfl hl (by decide) rfl (fun ls hl => ?_)
        refine lv_iconst (v := 1) hx hb dL_income_13 (by decide) ?_
        exact r_i cx hp ⟨by decide, rfl⟩ dL_income_14
      · exact absurd hj (by simp)
    · exact absurd (hz.symm.trans hk) (fun h9 => by cases h9)
  · rcases hz with ⟨j, k', hj, hz, -, -⟩ | ⟨r', hz, rfl, rfl⟩
    · exact absurd (hz.symm.trans hq.1) (fun h9 => by cases h9)
    · obtain ⟨hq, rfl⟩ := hq
      obtain rfl : r' = r := Sum.inr.inj (hz.symm.trans hq)
      refine lv_i2l hx hb dL_income_7 rfl ?_
      refine s_out hN cx hp dL_income_8 (fun H locs hp => ?_)
      refine lv_goto (tgt := 15) hx hb dL_income_9 (by decide) ?_
      refine lv_iconst (v := 0) hx hb dL_income_15 (by decide) ?_
      exact r_i cx hp ⟨by decide, rfl⟩ dL_income_16
theorem cwS_L_income {p : Program} {R : Room} {s : State} {m : MethodId} {args : Array Value} {meth : Method} {c : Code} {E : Ev} {cc : ByteArray} {nL : Nat} {ret : Option FieldType} (cx : Cx E p s m meth c args RL cc nL ret) (hR : rm_L_income.frames + 1 ≤ R.frames ∧ 8 + (4 + 11) + rm_L_income.locals ≤ R.locals) : vx_CSW R s args RL 174 yL_income cL_income 4 (some .int) [(0, 9, 12, 24)] (wW yL_income cL_income 4 (some .int) [(0, 9, 12, 24)]) rm_L_income 1 6 3 := vx_cwSW 3 cx.1.2.2.2.2 (gd_SW qM_L_174 qT_L_income qN_L qW_L_income) rfl rfl rfl (by decide +kernel) hR
theorem qW_L_rent : Cond.codeWith yL_rent cL_rent 4 (some .int) [(0, 9, 12, 24)] ∈ TB := tb_of 1099 (by decide +kernel) (by decide +kernel)
abbrev rm_L_rent : Room := { frames := 8, cells := 1, slots := 6, locals := 124 }
set_option maxRecDepth 100000 in
set_option maxHeartbeats 4000000 in
theorem c_L_rent (l : Launch) {E : Ev} (hN : 147 ≤ eN E) (hT : St E) (hlf : l.stackTraces = false) (hC : NC E) {σ σ' : SM} {p1 : Int32} {z : Nat ⊕ Int32} {rv : Int32} (hf : f_X12_rent p1 σ = some z) (hz : HX oI [2] z σ rv σ') : Met l yL_rent (wW yL_rent cL_rent 4 (some .int) [(0, 9, 12, 24)]) rm_L_rent (va_Pc [.ref (adr E 19 0), .int p1, .ref (adr E 21 0)] (Wu E σ)) (va_Qi (fun r u => rv = r ∧ σ' = u) (fun u t => Wu E u t) (eA E)) 1 6 (eA E) := by
  refine gW_entry (lv := [(0, .ref (adr E 19 0)), (1, .int p1), (2, .ref (adr E 21 0))]) (by decide) (Nat.le_of_ble_eq_true rfl) rfl ?_
  intro p e s m below meth c cx hxt hp ls hl
  have hx := cx.1.1
  have hb := cx.1.2.1
  refine lv_aload_n hx hb dL_rent_0 rfl (lv_at hl 2 rfl) ?_
  refine lv_iconst (v := 0) hx hb dL_rent_1 (by decide) ?_
  refine lv_aload_n hx hb dL_rent_2 rfl (lv_at hl 0 rfl) ?_
  refine lv_iload_n hx hb dL_rent_3 rfl (lv_at hl 1 rfl) ?_
  refine hx_i cx hp (yx_V (As := [.int p1]) (rest := [.int 0, .ref (adr E 21 0)]) cx hp hl (c_X12_rent l (Nat.le_trans (by decide) hN) hT hlf hf) (cw_L_29 cx (mc := 1) (ms := 6) rfl rfl ⟨by decide, by decide⟩) (rC_X12 (Nat.le_trans (by decide) hN) cx hp) rfl rfl (Nat.le_of_ble_eq_true rfl) dL_rent_4 ⟨by decide, by decide⟩) (fun k H locs ce q hk hp h1 h2 h3 => ?_) (fun r u H locs hq hp => ?_)
  · rcases hz with ⟨j, k', hj, hz, rfl, rfl⟩ | ⟨r, hz, -, -⟩
    · obtain rfl : k' = k := Sum.inl.inj (hz.symm.trans hk)
      rcases j with _ | j
      · obtain rfl : 2 = k' := Option.some.inj hj
        refine vx_catch cx.1.2.2.2.1 [] ⟨0, 9, 12, 24⟩ [] hxt (fun _ h => absurd h List.not_mem_nil) rfl (by decide) (cx.1.2.2.2.2 _ qK_L_24) (va_Nw.use (nb_tab qX_java_lang_IndexOutOfBoundsException_java_lang_IndexOutOfBoundsException) (cx.2.2.1.2.2.1 _ qX_java_lang_IndexOutOfBoundsException_java_lang_IndexOutOfBoundsException)) h1 h2 h3 ?_
        refine lv_astore_n (lv' := [(3, .ref q), (0, .ref (adr E 19 0)), (1, .int p1), (2, .ref (adr E 21 0))]) hx hb dL_rent_12 rfl hl (by decide) rfl (fun ls hl => ?_)
        refine lv_iconst (v := 1) hx hb dL_rent_13 (by decide) ?_
        exact r_i cx hp ⟨by decide, rfl⟩ dL_rent_14
      · exact absurd hj (by simp)
    · exact absurd (hz.symm.trans hk) (fun h9 => by cases h9)
  · rcases hz with ⟨j, k', hj, hz, -, -⟩ | ⟨r', hz, rfl, rfl⟩
    · exact absurd (hz.symm.trans hq.1) (fun h9 => by cases h9)
    · obtain ⟨hq, rfl⟩ := hq
      obtain rfl : r' = r := Sum.inr.inj (hz.symm.trans hq)
      refine lv_i2l hx hb dL_rent_7 rfl ?_
      refine s_out hN cx hp dL_rent_8 (fun H locs hp => ?_)
      refine lv_goto (tgt := 15) hx hb dL_rent_9 (by decide) ?_
      refine lv_iconst (v := 0) hx hb dL_rent_15 (by decide) ?_
      exact r_i cx hp ⟨by decide, rfl⟩ dL_rent_16
theorem cwS_L_rent {p : Program} {R : Room} {s : State} {m : MethodId} {args : Array Value} {meth : Method} {c : Code} {E : Ev} {cc : ByteArray} {nL : Nat} {ret : Option FieldType} (cx : Cx E p s m meth c args RL cc nL ret) (hR : rm_L_rent.frames + 1 ≤ R.frames ∧ 8 + (4 + 11) + rm_L_rent.locals ≤ R.locals) : vx_CSW R s args RL 177 yL_rent cL_rent 4 (some .int) [(0, 9, 12, 24)] (wW yL_rent cL_rent 4 (some .int) [(0, 9, 12, 24)]) rm_L_rent 1 6 3 := vx_cwSW 3 cx.1.2.2.2.2 (gd_SW qM_L_177 qT_L_rent qN_L qW_L_rent) rfl rfl rfl (by decide +kernel) hR
theorem qW_L_stallOf : Cond.codeWith yL_stallOf cL_stallOf 4 (some .int) [(0, 9, 12, 24)] ∈ TB := tb_of 1112 (by decide +kernel) (by decide +kernel)
abbrev rm_L_stallOf : Room := { frames := 8, cells := 1, slots := 6, locals := 124 }
set_option maxRecDepth 100000 in
set_option maxHeartbeats 4000000 in
theorem c_L_stallOf (l : Launch) {E : Ev} (hN : 147 ≤ eN E) (hT : St E) (hlf : l.stackTraces = false) (hC : NC E) {σ σ' : SM} {p1 : Int32} {z : Nat ⊕ Int32} {rv : Int32} (hf : f_X12_stallOf p1 σ = some z) (hz : HX oI [2] z σ rv σ') : Met l yL_stallOf (wW yL_stallOf cL_stallOf 4 (some .int) [(0, 9, 12, 24)]) rm_L_stallOf (va_Pc [.ref (adr E 19 0), .int p1, .ref (adr E 21 0)] (Wu E σ)) (va_Qi (fun r u => rv = r ∧ σ' = u) (fun u t => Wu E u t) (eA E)) 1 6 (eA E) := by
  refine gW_entry (lv := [(0, .ref (adr E 19 0)), (1, .int p1), (2, .ref (adr E 21 0))]) (by decide) (Nat.le_of_ble_eq_true rfl) rfl ?_
  intro p e s m below meth c cx hxt hp ls hl
  have hx := cx.1.1
  have hb := cx.1.2.1
  refine lv_aload_n hx hb dL_stallOf_0 rfl (lv_at hl 2 rfl) ?_
  refine lv_iconst (v := 0) hx hb dL_stallOf_1 (by decide) ?_
  refine lv_aload_n hx hb dL_stallOf_2 rfl (lv_at hl 0 rfl) ?_
  refine lv_iload_n hx hb dL_stallOf_3 rfl (lv_at hl 1 rfl) ?_
  refine hx_i cx hp (yx_V (As := [.int p1]) (rest := [.int 0, .ref (adr E 21 0)]) cx hp hl (c_X12_stallOf l (Nat.le_trans (by decide) hN) hT hlf hf) (cw_L_32 cx (mc := 1) (ms := 6) rfl rfl ⟨by decide, by decide⟩) (rC_X12 (Nat.le_trans (by decide) hN) cx hp) rfl rfl (Nat.le_of_ble_eq_true rfl) dL_stallOf_4 ⟨by decide, by decide⟩) (fun k H locs ce q hk hp h1 h2 h3 => ?_) (fun r u H locs hq hp => ?_)
  · rcases hz with ⟨j, k', hj, hz, rfl, rfl⟩ | ⟨r, hz, -, -⟩
    · obtain rfl : k' = k := Sum.inl.inj (hz.symm.trans hk)
      rcases j with _ | j
      · obtain rfl : 2 = k' := Option.some.inj hj
        refine vx_catch cx.1.2.2.2.1 [] ⟨0, 9, 12, 24⟩ [] hxt (fun _ h => absurd h List.not_mem_nil) rfl (by decide) (cx.1.2.2.2.2 _ qK_L_24) (va_Nw.use (nb_tab qX_java_lang_IndexOutOfBoundsException_java_lang_IndexOutOfBoundsException) (cx.2.2.1.2.2.1 _ qX_java_lang_IndexOutOfBoundsException_java_lang_IndexOutOfBoundsException)) h1 h2 h3 ?_
        refine lv_astore_n (lv' := [(3, .ref q), (0, .ref (adr E 19 0)), (1, .int p1), (2, .ref (adr E 21 0))]) hx hb dL_stallOf_12 rfl hl (by decide) rfl (fun ls hl => ?_)
        refine lv_iconst (v := 1) hx hb dL_stallOf_13 (by decide) ?_
        exact r_i cx hp ⟨by decide, rfl⟩ dL_stallOf_14
      · exact absurd hj (by simp)
    · exact absurd (hz.symm.trans hk) (fun h9 => by cases h9)
  · rcases hz with ⟨j, k', hj, hz, -, -⟩ | ⟨r', hz, rfl, rfl⟩
    · exact absurd (hz.symm.trans hq.1) (fun h9 => by cases h9)
    · obtain ⟨hq, rfl⟩ := hq
      obtain rfl : r' = r := Sum.inr.inj (hz.symm.trans hq)
      refine lv_i2l hx hb dL_stallOf_7 rfl ?_
      refine s_out hN cx hp dL_stallOf_8 (fun H locs hp => ?_)
      refine lv_goto (tgt := 15) hx hb dL_stallOf_9 (by decide) ?_
      refine lv_iconst (v := 0) hx hb dL_stallOf_15 (by decide) ?_
      exact r_i cx hp ⟨by decide, rfl⟩ dL_stallOf_16
theorem cwS_L_stallOf {p : Program} {R : Room} {s : State} {m : MethodId} {args : Array Value} {meth : Method} {c : Code} {E : Ev} {cc : ByteArray} {nL : Nat} {ret : Option FieldType} (cx : Cx E p s m meth c args RL cc nL ret) (hR : rm_L_stallOf.frames + 1 ≤ R.frames ∧ 8 + (4 + 11) + rm_L_stallOf.locals ≤ R.locals) : vx_CSW R s args RL 180 yL_stallOf cL_stallOf 4 (some .int) [(0, 9, 12, 24)] (wW yL_stallOf cL_stallOf 4 (some .int) [(0, 9, 12, 24)]) rm_L_stallOf 1 6 3 := vx_cwSW 3 cx.1.2.2.2.2 (gd_SW qM_L_180 qT_L_stallOf qN_L qW_L_stallOf) rfl rfl rfl (by decide +kernel) hR
theorem qW_L_occupantOf : Cond.codeWith yL_occupantOf cL_occupantOf 4 (some .int) [(0, 9, 12, 24)] ∈ TB := tb_of 1119 (by decide +kernel) (by decide +kernel)
abbrev rm_L_occupantOf : Room := { frames := 8, cells := 1, slots := 6, locals := 124 }
set_option maxRecDepth 100000 in
set_option maxHeartbeats 4000000 in
theorem c_L_occupantOf (l : Launch) {E : Ev} (hN : 147 ≤ eN E) (hT : St E) (hlf : l.stackTraces = false) (hC : NC E) {σ σ' : SM} {p1 : Int32} {z : Nat ⊕ Int32} {rv : Int32} (hf : f_X12_occupantOf p1 σ = some z) (hz : HX oI [2] z σ rv σ') : Met l yL_occupantOf (wW yL_occupantOf cL_occupantOf 4 (some .int) [(0, 9, 12, 24)]) rm_L_occupantOf (va_Pc [.ref (adr E 19 0), .int p1, .ref (adr E 21 0)] (Wu E σ)) (va_Qi (fun r u => rv = r ∧ σ' = u) (fun u t => Wu E u t) (eA E)) 1 6 (eA E) := by
  refine gW_entry (lv := [(0, .ref (adr E 19 0)), (1, .int p1), (2, .ref (adr E 21 0))]) (by decide) (Nat.le_of_ble_eq_true rfl) rfl ?_
  intro p e s m below meth c cx hxt hp ls hl
  have hx := cx.1.1
  have hb := cx.1.2.1
  refine lv_aload_n hx hb dL_occupantOf_0 rfl (lv_at hl 2 rfl) ?_
  refine lv_iconst (v := 0) hx hb dL_occupantOf_1 (by decide) ?_
  refine lv_aload_n hx hb dL_occupantOf_2 rfl (lv_at hl 0 rfl) ?_
  refine lv_iload_n hx hb dL_occupantOf_3 rfl (lv_at hl 1 rfl) ?_
  refine hx_i cx hp (yx_V (As := [.int p1]) (rest := [.int 0, .ref (adr E 21 0)]) cx hp hl (c_X12_occupantOf l (Nat.le_trans (by decide) hN) hT hlf hf) (cw_L_35 cx (mc := 1) (ms := 6) rfl rfl ⟨by decide, by decide⟩) (rC_X12 (Nat.le_trans (by decide) hN) cx hp) rfl rfl (Nat.le_of_ble_eq_true rfl) dL_occupantOf_4 ⟨by decide, by decide⟩) (fun k H locs ce q hk hp h1 h2 h3 => ?_) (fun r u H locs hq hp => ?_)
  · rcases hz with ⟨j, k', hj, hz, rfl, rfl⟩ | ⟨r, hz, -, -⟩
    · obtain rfl : k' = k := Sum.inl.inj (hz.symm.trans hk)
      rcases j with _ | j
      · obtain rfl : 2 = k' := Option.some.inj hj
        refine vx_catch cx.1.2.2.2.1 [] ⟨0, 9, 12, 24⟩ [] hxt (fun _ h => absurd h List.not_mem_nil) rfl (by decide) (cx.1.2.2.2.2 _ qK_L_24) (va_Nw.use (nb_tab qX_java_lang_IndexOutOfBoundsException_java_lang_IndexOutOfBoundsException) (cx.2.2.1.2.2.1 _ qX_java_lang_IndexOutOfBoundsException_java_lang_IndexOutOfBoundsException)) h1 h2 h3 ?_
        refine lv_astore_n (lv' := [(3, .ref q), (0, .ref (adr E 19 0)), (1, .int p1), (2, .ref (adr E 21 0))]) hx hb dL_occupantOf_12 rfl hl (by decide) rfl (fun ls hl => ?_)
        refine lv_iconst (v := 1) hx hb dL_occupantOf_13 (by decide) ?_
        exact r_i cx hp ⟨by decide, rfl⟩ dL_occupantOf_14
      · exact absurd hj (by simp)
    · exact absurd (hz.symm.trans hk) (fun h9 => by cases h9)
  · rcases hz with ⟨j, k', hj, hz, -, -⟩ | ⟨r', hz, rfl, rfl⟩
    · exact absurd (hz.symm.trans hq.1) (fun h9 => by cases h9)
    · obtain ⟨hq, rfl⟩ := hq
      obtain rfl : r' = r := Sum.inr.inj (hz.symm.trans hq)
      refine lv_i2l hx hb dL_occupantOf_7 rfl ?_
      refine s_out hN cx hp dL_occupantOf_8 (fun H locs hp => ?_)
      refine lv_goto (tgt := 15) hx hb dL_occupantOf_9 (by decide) ?_
      refine lv_iconst (v := 0) hx hb dL_occupantOf_15 (by decide) ?_
      exact r_i cx hp ⟨by decide, rfl⟩ dL_occupantOf_16
theorem cwS_L_occupantOf {p : Program} {R : Room} {s : State} {m : MethodId} {args : Array Value} {meth : Method} {c : Code} {E : Ev} {cc : ByteArray} {nL : Nat} {ret : Option FieldType} (cx : Cx E p s m meth c args RL cc nL ret) (hR : rm_L_occupantOf.frames + 1 ≤ R.frames ∧ 8 + (4 + 11) + rm_L_occupantOf.locals ≤ R.locals) : vx_CSW R s args RL 183 yL_occupantOf cL_occupantOf 4 (some .int) [(0, 9, 12, 24)] (wW yL_occupantOf cL_occupantOf 4 (some .int) [(0, 9, 12, 24)]) rm_L_occupantOf 1 6 3 := vx_cwSW 3 cx.1.2.2.2.2 (gd_SW qM_L_183 qT_L_occupantOf qN_L qW_L_occupantOf) rfl rfl rfl (by decide +kernel) hR
theorem qW_L_priorityOf : Cond.codeWith yL_priorityOf cL_priorityOf 4 (some .int) [(0, 9, 12, 24)] ∈ TB := tb_of 1127 (by decide +kernel) (by decide +kernel)
abbrev rm_L_priorityOf : Room := { frames := 8, cells := 1, slots := 6, locals := 124 }
set_option maxRecDepth 100000 in
set_option maxHeartbeats 4000000 in
theorem c_L_priorityOf (l : Launch) {E : Ev} (hN : 147 ≤ eN E) (hT : St E) (hlf : l.stackTraces = false) (hC : NC E) {σ σ' : SM} {p1 : Int32} {z : Nat ⊕ Int32} {rv : Int32} (hf : f_X12_priorityOf p1 σ = some z) (hz : HX oI [2] z σ rv σ') : Met l yL_priorityOf (wW yL_priorityOf cL_priorityOf 4 (some .int) [(0, 9, 12, 24)]) rm_L_priorityOf (va_Pc [.ref (adr E 19 0), .int p1, .ref (adr E 21 0)] (Wu E σ)) (va_Qi (fun r u => rv = r ∧ σ' = u) (fun u t => Wu E u t) (eA E)) 1 6 (eA E) := by
  refine gW_entry (lv := [(0, .ref (adr E 19 0)), (1, .int p1), (2, .ref (adr E 21 0))]) (by decide) (Nat.le_of_ble_eq_true rfl) rfl ?_
  intro p e s m below meth c cx hxt hp ls hl
  have hx := cx.1.1
  have hb := cx.1.2.1
  refine lv_aload_n hx hb dL_priorityOf_0 rfl (lv_at hl 2 rfl) ?_
  refine lv_iconst (v := 0) hx hb dL_priorityOf_1 (by decide) ?_
  refine lv_aload_n hx hb dL_priorityOf_2 rfl (lv_at hl 0 rfl) ?_
  refine lv_iload_n hx hb dL_priorityOf_3 rfl (lv_at hl 1 rfl) ?_
  refine hx_i cx hp (yx_V (As := [.int p1]) (rest := [.int 0, .ref (adr E 21 0)]) cx hp hl (c_X12_priorityOf l (Nat.le_trans (by decide) hN) hT hlf hf) (cw_L_38 cx (mc := 1) (ms := 6) rfl rfl ⟨by decide, by decide⟩) (rC_X12 (Nat.le_trans (by decide) hN) cx hp) rfl rfl (Nat.le_of_ble_eq_true rfl) dL_priorityOf_4 ⟨by decide, by decide⟩) (fun k H locs ce q hk hp h1 h2 h3 => ?_) (fun r u H locs hq hp => ?_)
  · rcases hz with ⟨j, k', hj, hz, rfl, rfl⟩ | ⟨r, hz, -, -⟩
    · obtain rfl : k' = k := Sum.inl.inj (hz.symm.trans hk)
      rcases j with _ | j
      · obtain rfl : 2 = k' := Option.some.inj hj
        refine vx_catch cx.1.2.2.2.1 [] ⟨0, 9, 12, 24⟩ [] hxt (fun _ h => absurd h List.not_mem_nil) rfl (by decide) (cx.1.2.2.2.2 _ qK_L_24) (va_Nw.use (nb_tab qX_java_lang_IndexOutOfBoundsException_java_lang_IndexOutOfBoundsException) (cx.2.2.1.2.2.1 _ qX_java_lang_IndexOutOfBoundsException_java_lang_IndexOutOfBoundsException)) h1 h2 h3 ?_
        refine lv_astore_n (lv' := [(3, .ref q), (0, .ref (adr E 19 0)), (1, .int p1), (2, .ref (adr E 21 0))]) hx hb dL_priorityOf_12 rfl hl (by decide) rfl (fun ls hl => ?_)
        refine lv_iconst (v := 1) hx hb dL_priorityOf_13 (by decide) ?_
        exact r_i cx hp ⟨by decide, rfl⟩ dL_priorityOf_14
      · exact absurd hj (by simp)
    · exact absurd (hz.symm.trans hk) (fun h9 => by cases h9)
  · rcases hz with ⟨j, k', hj, hz, -, -⟩ | ⟨r', hz, rfl, rfl⟩
    · exact absurd (hz.symm.trans hq.1) (fun h9 => by cases h9)
    · obtain ⟨hq, rfl⟩ := hq
      obtain rfl : r' = r := Sum.inr.inj (hz.symm.trans hq)
      refine lv_i2l hx hb dL_priorityOf_7 rfl ?_
      refine s_out hN cx hp dL_priorityOf_8 (fun H locs hp => ?_)
      refine lv_goto (tgt := 15) hx hb dL_priorityOf_9 (by decide) ?_
      refine lv_iconst (v := 0) hx hb dL_priorityOf_15 (by decide) ?_
      exact r_i cx hp ⟨by decide, rfl⟩ dL_priorityOf_16
theorem cwS_L_priorityOf {p : Program} {R : Room} {s : State} {m : MethodId} {args : Array Value} {meth : Method} {c : Code} {E : Ev} {cc : ByteArray} {nL : Nat} {ret : Option FieldType} (cx : Cx E p s m meth c args RL cc nL ret) (hR : rm_L_priorityOf.frames + 1 ≤ R.frames ∧ 8 + (4 + 11) + rm_L_priorityOf.locals ≤ R.locals) : vx_CSW R s args RL 186 yL_priorityOf cL_priorityOf 4 (some .int) [(0, 9, 12, 24)] (wW yL_priorityOf cL_priorityOf 4 (some .int) [(0, 9, 12, 24)]) rm_L_priorityOf 1 6 3 := vx_cwSW 3 cx.1.2.2.2.2 (gd_SW qM_L_186 qT_L_priorityOf qN_L qW_L_priorityOf) rfl rfl rfl (by decide +kernel) hR
theorem qW_L_preferenceCount : Cond.codeWith yL_preferenceCount cL_preferenceCount 4 (some .int) [(0, 9, 12, 24)] ∈ TB := tb_of 1135 (by decide +kernel) (by decide +kernel)
abbrev rm_L_preferenceCount : Room := { frames := 8, cells := 1, slots := 6, locals := 124 }
set_option maxRecDepth 100000 in
set_option maxHeartbeats 4000000 in
theorem c_L_preferenceCount (l : Launch) {E : Ev} (hN : 147 ≤ eN E) (hT : St E) (hlf : l.stackTraces = false) (hC : NC E) {σ σ' : SM} {p1 : Int32} {z : Nat ⊕ Int32} {rv : Int32} (hf : f_X12_preferenceCount p1 σ = some z) (hz : HX oI [2] z σ rv σ') : Met l yL_preferenceCount (wW yL_preferenceCount cL_preferenceCount 4 (some .int) [(0, 9, 12, 24)]) rm_L_preferenceCount (va_Pc [.ref (adr E 19 0), .int p1, .ref (adr E 21 0)] (Wu E σ)) (va_Qi (fun r u => rv = r ∧ σ' = u) (fun u t => Wu E u t) (eA E)) 1 6 (eA E) := by
  refine gW_entry (lv := [(0, .ref (adr E 19 0)), (1, .int p1), (2, .ref (adr E 21 0))]) (by decide) (Nat.le_of_ble_eq_true rfl) rfl ?_
  intro p e s m below meth c cx hxt hp ls hl
  have hx := cx.1.1
  have hb := cx.1.2.1
  refine lv_aload_n hx hb dL_preferenceCount_0 rfl (lv_at hl 2 rfl) ?_
  refine lv_iconst (v := 0) hx hb dL_preferenceCount_1 (by decide) ?_
  refine lv_aload_n hx hb dL_preferenceCount_2 rfl (lv_at hl 0 rfl) ?_
  refine lv_iload_n hx hb dL_preferenceCount_3 rfl (lv_at hl 1 rfl) ?_
  refine hx_i cx hp (yx_V (As := [.int p1]) (rest := [.int 0, .ref (adr E 21 0)]) cx hp hl (c_X12_preferenceCount l (Nat.le_trans (by decide) hN) hT hlf hf) (cw_L_41 cx (mc := 1) (ms := 6) rfl rfl ⟨by decide, by decide⟩) (rC_X12 (Nat.le_trans (by decide) hN) cx hp) rfl rfl (Nat.le_of_ble_eq_true rfl) dL_preferenceCount_4 ⟨by decide, by decide⟩) (fun k H locs ce q hk hp h1 h2 h3 => ?_) (fun r u H locs hq hp => ?_)
  · rcases hz with ⟨j, k', hj, hz, rfl, rfl⟩ | ⟨r, hz, -, -⟩
    · obtain rfl : k' = k := Sum.inl.inj (hz.symm.trans hk)
      rcases j with _ | j
      · obtain rfl : 2 = k' := Option.some.inj hj
        refine vx_catch cx.1.2.2.2.1 [] ⟨0, 9, 12, 24⟩ [] hxt (fun _ h => absurd h List.not_mem_nil) rfl (by decide) (cx.1.2.2.2.2 _ qK_L_24) (va_Nw.use (nb_tab qX_java_lang_IndexOutOfBoundsException_java_lang_IndexOutOfBoundsException) (cx.2.2.1.2.2.1 _ qX_java_lang_IndexOutOfBoundsException_java_lang_IndexOutOfBoundsException)) h1 h2 h3 ?_
        refine lv_astore_n (lv' := [(3, .ref q), (0, .ref (adr E 19 0)), (1, .int p1), (2, .ref (adr E 21 0))]) hx hb dL_preferenceCount_12 rfl hl (by decide) rfl (fun ls hl => ?_)
        refine lv_iconst (v := 1) hx hb dL_preferenceCount_13 (by decide) ?_
        exact r_i cx hp ⟨by decide, rfl⟩ dL_preferenceCount_14
      · exact absurd hj (by simp)
    · exact absurd (hz.symm.trans hk) (fun h9 => by cases h9)
  · rcases hz with ⟨j, k', hj, hz, -, -⟩ | ⟨r', hz, rfl, rfl⟩
    · exact absurd (hz.symm.trans hq.1) (fun h9 => by cases h9)
    · obtain ⟨hq, rfl⟩ := hq
      obtain rfl : r' = r := Sum.inr.inj (hz.symm.trans hq)
      refine lv_i2l hx hb dL_preferenceCount_7 rfl ?_
      refine s_out hN cx hp dL_preferenceCount_8 (fun H locs hp => ?_)
      refine lv_goto (tgt := 15) hx hb dL_preferenceCount_9 (by decide) ?_
      refine lv_iconst (v := 0) hx hb dL_preferenceCount_15 (by decide) ?_
      exact r_i cx hp ⟨by decide, rfl⟩ dL_preferenceCount_16
theorem cwS_L_preferenceCount {p : Program} {R : Room} {s : State} {m : MethodId} {args : Array Value} {meth : Method} {c : Code} {E : Ev} {cc : ByteArray} {nL : Nat} {ret : Option FieldType} (cx : Cx E p s m meth c args RL cc nL ret) (hR : rm_L_preferenceCount.frames + 1 ≤ R.frames ∧ 8 + (4 + 11) + rm_L_preferenceCount.locals ≤ R.locals) : vx_CSW R s args RL 189 yL_preferenceCount cL_preferenceCount 4 (some .int) [(0, 9, 12, 24)] (wW yL_preferenceCount cL_preferenceCount 4 (some .int) [(0, 9, 12, 24)]) rm_L_preferenceCount 1 6 3 := vx_cwSW 3 cx.1.2.2.2.2 (gd_SW qM_L_189 qT_L_preferenceCount qN_L qW_L_preferenceCount) rfl rfl rfl (by decide +kernel) hR
theorem qW_L_preferenceAt : Cond.codeWith yL_preferenceAt cL_preferenceAt 5 (some .int) [(0, 10, 13, 24)] ∈ TB := tb_of 1143 (by decide +kernel) (by decide +kernel)
abbrev rm_L_preferenceAt : Room := { frames := 8, cells := 2, slots := 12, locals := 125 }
set_option maxRecDepth 100000 in
set_option maxHeartbeats 4000000 in
theorem c_L_preferenceAt (l : Launch) {E : Ev} (hN : 147 ≤ eN E) (hT : St E) (hlf : l.stackTraces = false) (hC : NC E) {σ σ' : SM} {p1 : Int32} {p2 : Int32} {z : Nat ⊕ Int32} {rv : Int32} (hf : f_X12_preferenceAt p1 p2 σ = some z) (hz : HX oI [2] z σ rv σ') : Met l yL_preferenceAt (wW yL_preferenceAt cL_preferenceAt 5 (some .int) [(0, 10, 13, 24)]) rm_L_preferenceAt (va_Pc [.ref (adr E 19 0), .int p1, .int p2, .ref (adr E 21 0)] (Wu E σ)) (va_Qi (fun r u => rv = r ∧ σ' = u) (fun u t => Wu E u t) (eA E)) 2 12 (eA E) := by
  refine gW_entry (lv := [(0, .ref (adr E 19 0)), (1, .int p1), (2, .int p2), (3, .ref (adr E 21 0))]) (by decide) (Nat.le_of_ble_eq_true rfl) rfl ?_
  intro p e s m below meth c cx hxt hp ls hl
  have hx := cx.1.1
  have hb := cx.1.2.1
  refine lv_aload_n hx hb dL_preferenceAt_0 rfl (lv_at hl 3 rfl) ?_
  refine lv_iconst (v := 0) hx hb dL_preferenceAt_1 (by decide) ?_
  refine lv_aload_n hx hb dL_preferenceAt_2 rfl (lv_at hl 0 rfl) ?_
  refine lv_iload_n hx hb dL_preferenceAt_3 rfl (lv_at hl 1 rfl) ?_
  refine lv_iload_n hx hb dL_preferenceAt_4 rfl (lv_at hl 2 rfl) ?_
  refine hx_i cx hp (yx_V (As := [.int p1, .int p2]) (rest := [.int 0, .ref (adr E 21 0)]) cx hp hl (c_X12_preferenceAt l (Nat.le_trans (by decide) hN) hT hlf hf) (cw_L_44 cx (mc := 2) (ms := 12) rfl rfl ⟨by decide, by decide⟩) (rC_X12 (Nat.le_trans (by decide) hN) cx hp) rfl rfl (Nat.le_of_ble_eq_true rfl) dL_preferenceAt_5 ⟨by decide, by decide⟩) (fun k H locs ce q hk hp h1 h2 h3 => ?_) (fun r u H locs hq hp => ?_)
  · rcases hz with ⟨j, k', hj, hz, rfl, rfl⟩ | ⟨r, hz, -, -⟩
    · obtain rfl : k' = k := Sum.inl.inj (hz.symm.trans hk)
      rcases j with _ | j
      · obtain rfl : 2 = k' := Option.some.inj hj
        refine vx_catch cx.1.2.2.2.1 [] ⟨0, 10, 13, 24⟩ [] hxt (fun _ h => absurd h List.not_mem_nil) rfl (by decide) (cx.1.2.2.2.2 _ qK_L_24) (va_Nw.use (nb_tab qX_java_lang_IndexOutOfBoundsException_java_lang_IndexOutOfBoundsException) (cx.2.2.1.2.2.1 _ qX_java_lang_IndexOutOfBoundsException_java_lang_IndexOutOfBoundsException)) h1 h2 h3 ?_
        refine lv_astore (lv' := [(4, .ref q), (0, .ref (adr E 19 0)), (1, .int p1), (2, .int p2), (3, .ref (adr E 21 0))]) hx hb dL_preferenceAt_13 hl (by decide) rfl (fun ls hl => ?_)
        refine lv_iconst (v := 1) hx hb dL_preferenceAt_15 (by decide) ?_
        exact r_i cx hp ⟨by decide, rfl⟩ dL_preferenceAt_16
      · exact absurd hj (by simp)
    · exact absurd (hz.symm.trans hk) (fun h9 => by cases h9)
  · rcases hz with ⟨j, k', hj, hz, -, -⟩ | ⟨r', hz, rfl, rfl⟩
    · exact absurd (hz.symm.trans hq.1) (fun h9 => by cases h9)
    · obtain ⟨hq, rfl⟩ := hq
      obtain rfl : r' = r := Sum.inr.inj (hz.symm.trans hq)
      refine lv_i2l hx hb dL_preferenceAt_8 rfl ?_
      refine s_out hN cx hp dL_preferenceAt_9 (fun H locs hp => ?_)
      refine lv_goto (tgt := 17) hx hb dL_preferenceAt_10 (by decide) ?_
      refine lv_iconst (v := 0) hx hb dL_preferenceAt_17 (by decide) ?_
      exact r_i cx hp ⟨by decide, rfl⟩ dL_preferenceAt_18
theorem cwS_L_preferenceAt {p : Program} {R : Room} {s : State} {m : MethodId} {args : Array Value} {meth : Method} {c : Code} {E : Ev} {cc : ByteArray} {nL : Nat} {ret : Option FieldType} (cx : Cx E p s m meth c args RL cc nL ret) (hR : rm_L_preferenceAt.frames + 1 ≤ R.frames ∧ 8 + (5 + 11) + rm_L_preferenceAt.locals ≤ R.locals) : vx_CSW R s args RL 192 yL_preferenceAt cL_preferenceAt 5 (some .int) [(0, 10, 13, 24)] (wW yL_preferenceAt cL_preferenceAt 5 (some .int) [(0, 10, 13, 24)]) rm_L_preferenceAt 2 12 4 := vx_cwSW 4 cx.1.2.2.2.2 (gd_SW qM_L_192 qT_L_preferenceAt qN_L qW_L_preferenceAt) rfl rfl rfl (by decide +kernel) hR
theorem qW_L_rankOf : Cond.codeWith yL_rankOf cL_rankOf 5 (some .int) [(0, 10, 13, 24)] ∈ TB := tb_of 1152 (by decide +kernel) (by decide +kernel)
abbrev rm_L_rankOf : Room := { frames := 8, cells := 2, slots := 12, locals := 125 }
set_option maxRecDepth 100000 in
set_option maxHeartbeats 4000000 in
theorem c_L_rankOf (l : Launch) {E : Ev} (hN : 147 ≤ eN E) (hT : St E) (hlf : l.stackTraces = false) (hC : NC E) {σ σ' : SM} {p1 : Int32} {p2 : Int32} {z : Nat ⊕ Int32} {rv : Int32} (hf : f_X12_rankOf p1 p2 σ = some z) (hz : HX oI [2] z σ rv σ') : Met l yL_rankOf (wW yL_rankOf cL_rankOf 5 (some .int) [(0, 10, 13, 24)]) rm_L_rankOf (va_Pc [.ref (adr E 19 0), .int p1, .int p2, .ref (adr E 21 0)] (Wu E σ)) (va_Qi (fun r u => rv = r ∧ σ' = u) (fun u t => Wu E u t) (eA E)) 2 12 (eA E) := by
  refine gW_entry (lv := [(0, .ref (adr E 19 0)), (1, .int p1), (2, .int p2), (3, .ref (adr E 21 0))]) (by decide) (Nat.le_of_ble_eq_true rfl) rfl ?_
  intro p e s m below meth c cx hxt hp ls hl
  have hx := cx.1.1
  have hb := cx.1.2.1
  refine lv_aload_n hx hb dL_rankOf_0 rfl (lv_at hl 3 rfl) ?_
  refine lv_iconst (v := 0) hx hb dL_rankOf_1 (by decide) ?_
  refine lv_aload_n hx hb dL_rankOf_2 rfl (lv_at hl 0 rfl) ?_
  refine lv_iload_n hx hb dL_rankOf_3 rfl (lv_at hl 1 rfl) ?_
  refine lv_iload_n hx hb dL_rankOf_4 rfl (lv_at hl 2 rfl) ?_
  refine hx_i cx hp (yx_V (As := [.int p1, .int p2]) (rest := [.int 0, .ref (adr E 21 0)]) cx hp hl (c_X12_rankOf l (Nat.le_trans (by decide) hN) hT hlf hf) (cw_L_48 cx (mc := 2) (ms := 12) rfl rfl ⟨by decide, by decide⟩) (rC_X12 (Nat.le_trans (by decide) hN) cx hp) rfl rfl (Nat.le_of_ble_eq_true rfl) dL_rankOf_5 ⟨by decide, by decide⟩) (fun k H locs ce q hk hp h1 h2 h3 => ?_) (fun r u H locs hq hp => ?_)
  · rcases hz with ⟨j, k', hj, hz, rfl, rfl⟩ | ⟨r, hz, -, -⟩
    · obtain rfl : k' = k := Sum.inl.inj (hz.symm.trans hk)
      rcases j with _ | j
      · obtain rfl : 2 = k' := Option.some.inj hj
        refine vx_catch cx.1.2.2.2.1 [] ⟨0, 10, 13, 24⟩ [] hxt (fun _ h => absurd h List.not_mem_nil) rfl (by decide) (cx.1.2.2.2.2 _ qK_L_24) (va_Nw.use (nb_tab qX_java_lang_IndexOutOfBoundsException_java_lang_IndexOutOfBoundsException) (cx.2.2.1.2.2.1 _ qX_java_lang_IndexOutOfBoundsException_java_lang_IndexOutOfBoundsException)) h1 h2 h3 ?_
        refine lv_astore (lv' := [(4, .ref q), (0, .ref (adr E 19 0)), (1, .int p1), (2, .int p2), (3, .ref (adr E 21 0))]) hx hb dL_rankOf_13 hl (by decide) rfl (fun ls hl => ?_)
        refine lv_iconst (v := 1) hx hb dL_rankOf_15 (by decide) ?_
        exact r_i cx hp ⟨by decide, rfl⟩ dL_rankOf_16
      · exact absurd hj (by simp)
    · exact absurd (hz.symm.trans hk) (fun h9 => by cases h9)
  · rcases hz with ⟨j, k', hj, hz, -, -⟩ | ⟨r', hz, rfl, rfl⟩
    · exact absurd (hz.symm.trans hq.1) (fun h9 => by cases h9)
    · obtain ⟨hq, rfl⟩ := hq
      obtain rfl : r' = r := Sum.inr.inj (hz.symm.trans hq)
      refine lv_i2l hx hb dL_rankOf_8 rfl ?_
      refine s_out hN cx hp dL_rankOf_9 (fun H locs hp => ?_)
      refine lv_goto (tgt := 17) hx hb dL_rankOf_10 (by decide) ?_
      refine lv_iconst (v := 0) hx hb dL_rankOf_17 (by decide) ?_
      exact r_i cx hp ⟨by decide, rfl⟩ dL_rankOf_18
theorem cwS_L_rankOf {p : Program} {R : Room} {s : State} {m : MethodId} {args : Array Value} {meth : Method} {c : Code} {E : Ev} {cc : ByteArray} {nL : Nat} {ret : Option FieldType} (cx : Cx E p s m meth c args RL cc nL ret) (hR : rm_L_rankOf.frames + 1 ≤ R.frames ∧ 8 + (5 + 11) + rm_L_rankOf.locals ≤ R.locals) : vx_CSW R s args RL 196 yL_rankOf cL_rankOf 5 (some .int) [(0, 10, 13, 24)] (wW yL_rankOf cL_rankOf 5 (some .int) [(0, 10, 13, 24)]) rm_L_rankOf 2 12 4 := vx_cwSW 4 cx.1.2.2.2.2 (gd_SW qM_L_196 qT_L_rankOf qN_L qW_L_rankOf) rfl rfl rfl (by decide +kernel) hR
theorem qW_L_prefers : Cond.codeWith yL_prefers cL_prefers 6 (some .int) [(0, 19, 22, 24)] ∈ TB := tb_of 1159 (by decide +kernel) (by decide +kernel)
abbrev rm_L_prefers : Room := { frames := 8, cells := 3, slots := 18, locals := 126 }
set_option maxRecDepth 100000 in
set_option maxHeartbeats 4000000 in
theorem c_L_prefers (l : Launch) {E : Ev} (hN : 147 ≤ eN E) (hT : St E) (hlf : l.stackTraces = false) (hC : NC E) {σ σ' : SM} {p1 : Int32} {p2 : Int32} {p3 : Int32} {z : Nat ⊕ Int32} {rv : Int32} (hf : f_X12_prefers p1 p2 p3 σ = some z) (hz : HX oB [2] z σ rv σ') : Met l yL_prefers (wW yL_prefers cL_prefers 6 (some .int) [(0, 19, 22, 24)]) rm_L_prefers (va_Pc [.ref (adr E 19 0), .int p1, .int p2, .int p3, .ref (adr E 21 0)] (Wu E σ)) (va_Qi (fun r u => rv = r ∧ σ' = u) (fun u t => Wu E u t) (eA E)) 3 18 (eA E) := by
  refine gW_entry (lv := [(0, .ref (adr E 19 0)), (1, .int p1), (2, .int p2), (3, .int p3), (4, .ref (adr E 21 0))]) (by decide) (Nat.le_of_ble_eq_true rfl) rfl ?_
  intro p e s m below meth c cx hxt hp ls hl
  have hx := cx.1.1
  have hb := cx.1.2.1
  refine lv_aload hx hb dL_prefers_0 (lv_at hl 4 rfl) ?_
  refine lv_iconst (v := 0) hx hb dL_prefers_2 (by decide) ?_
  refine lv_aload_n hx hb dL_prefers_3 rfl (lv_at hl 0 rfl) ?_
  refine lv_iload_n hx hb dL_prefers_4 rfl (lv_at hl 1 rfl) ?_
  refine lv_iload_n hx hb dL_prefers_5 rfl (lv_at hl 2 rfl) ?_
  refine lv_iload_n hx hb dL_prefers_6 rfl (lv_at hl 3 rfl) ?_
  refine hx_i cx hp (yx_V (As := [.int p1, .int p2, .int p3]) (rest := [.int 0, .ref (adr E 21 0)]) cx hp hl (c_X12_prefers l (Nat.le_trans (by decide) hN) hT hlf hf) (cw_L_51 cx (mc := 3) (ms := 18) rfl rfl ⟨by decide, by decide⟩) (rC_X12 (Nat.le_trans (by decide) hN) cx hp) rfl rfl (Nat.le_of_ble_eq_true rfl) dL_prefers_7 ⟨by decide, by decide⟩) (fun k H locs ce q hk hp h1 h2 h3 => ?_) (fun r u H locs hq hp => ?_)
  · rcases hz with ⟨j, k', hj, hz, rfl, rfl⟩ | ⟨r, hz, -, -⟩
    · obtain rfl : k' = k := Sum.inl.inj (hz.symm.trans hk)
      rcases j with _ | j
      · obtain rfl : 2 = k' := Option.some.inj hj
        refine vx_catch cx.1.2.2.2.1 [] ⟨0, 19, 22, 24⟩ [] hxt (fun _ h => absurd h List.not_mem_nil) rfl (by decide) (cx.1.2.2.2.2 _ qK_L_24) (va_Nw.use (nb_tab qX_java_lang_IndexOutOfBoundsException_java_lang_IndexOutOfBoundsException) (cx.2.2.1.2.2.1 _ qX_java_lang_IndexOutOfBoundsException_java_lang_IndexOutOfBoundsException)) h1 h2 h3 ?_
        refine lv_astore (lv' := [(5, .ref q), (0, .ref (adr E 19 0)), (1, .int p1), (2, .int p2), (3, .int p3), (4, .ref (adr E 21 0))]) hx hb dL_prefers_22 hl (by decide) rfl (fun ls hl => ?_)
        refine lv_iconst (v := 1) hx hb dL_prefers_24 (by decide) ?_
        exact r_i cx hp ⟨by decide, rfl⟩ dL_prefers_25
      · exact absurd hj (by simp)
    · exact absurd (hz.symm.trans hk) (fun h9 => by cases h9)
  · rcases hz with ⟨j, k', hj, hz, -, -⟩ | ⟨r', hz, rfl, rfl⟩
    · exact absurd (hz.symm.trans hq.1) (fun h9 => by cases h9)
    · obtain ⟨hq, rfl⟩ := hq
      obtain rfl : r' = r := Sum.inr.inj (hz.symm.trans hq)
      refine lv_if_eq (tgt := 17) hx hb dL_prefers_10 (by decide) (fun c9 => ?_) (fun c9 => ?_)
      · refine lv_lconst (v := 0) hx hb dL_prefers_17 (by decide) ?_
        refine s_out hN cx hp dL_prefers_18 (fun H locs hp => ?_)
        refine lv_goto (tgt := 26) hx hb dL_prefers_19 (by decide) ?_
        refine lv_iconst (v := 0) hx hb dL_prefers_26 (by decide) ?_
        exact r_i cx hp ⟨by decide, by rw [oB, if_pos c9]⟩ dL_prefers_27
      · refine lv_lconst (v := 1) hx hb dL_prefers_13 (by decide) ?_
        refine lv_goto (tgt := 18) hx hb dL_prefers_14 (by decide) ?_
        refine s_out hN cx hp dL_prefers_18 (fun H locs hp => ?_)
        refine lv_goto (tgt := 26) hx hb dL_prefers_19 (by decide) ?_
        refine lv_iconst (v := 0) hx hb dL_prefers_26 (by decide) ?_
        exact r_i cx hp ⟨by decide, by rw [oB, if_neg c9]⟩ dL_prefers_27
theorem cwS_L_prefers {p : Program} {R : Room} {s : State} {m : MethodId} {args : Array Value} {meth : Method} {c : Code} {E : Ev} {cc : ByteArray} {nL : Nat} {ret : Option FieldType} (cx : Cx E p s m meth c args RL cc nL ret) (hR : rm_L_prefers.frames + 1 ≤ R.frames ∧ 8 + (6 + 11) + rm_L_prefers.locals ≤ R.locals) : vx_CSW R s args RL 199 yL_prefers cL_prefers 6 (some .int) [(0, 19, 22, 24)] (wW yL_prefers cL_prefers 6 (some .int) [(0, 19, 22, 24)]) rm_L_prefers 3 18 5 := vx_cwSW 5 cx.1.2.2.2.2 (gd_SW qM_L_199 qT_L_prefers qN_L qW_L_prefers) rfl rfl rfl (by decide +kernel) hR
theorem qW_L_sellerNameByte : Cond.codeWith yL_sellerNameByte cL_sellerNameByte 5 (some .int) [(0, 10, 13, 24)] ∈ TB := tb_of 1166 (by decide +kernel) (by decide +kernel)
abbrev rm_L_sellerNameByte : Room := { frames := 8, cells := 1, slots := 6, locals := 125 }
set_option maxRecDepth 100000 in
set_option maxHeartbeats 4000000 in
theorem c_L_sellerNameByte (l : Launch) {E : Ev} (hN : 147 ≤ eN E) (hT : St E) (hlf : l.stackTraces = false) (hC : NC E) {σ σ' : SM} {p1 : Int32} {p2 : Int32} {z : Nat ⊕ Int32} {rv : Int32} (hf : f_X12_sellerNameByte p1 p2 σ = some z) (hz : HX oI [2] z σ rv σ') : Met l yL_sellerNameByte (wW yL_sellerNameByte cL_sellerNameByte 5 (some .int) [(0, 10, 13, 24)]) rm_L_sellerNameByte (va_Pc [.ref (adr E 19 0), .int p1, .int p2, .ref (adr E 21 0)] (Wu E σ)) (va_Qi (fun r u => rv = r ∧ σ' = u) (fun u t => Wu E u t) (eA E)) 1 6 (eA E) := by
  refine gW_entry (lv := [(0, .ref (adr E 19 0)), (1, .int p1), (2, .int p2), (3, .ref (adr E 21 0))]) (by decide) (Nat.le_of_ble_eq_true rfl) rfl ?_
  intro p e s m below meth c cx hxt hp ls hl
  have hx := cx.1.1
  have hb := cx.1.2.1
  refine lv_aload_n hx hb dL_sellerNameByte_0 rfl (lv_at hl 3 rfl) ?_
  refine lv_iconst (v := 0) hx hb dL_sellerNameByte_1 (by decide) ?_
  refine lv_aload_n hx hb dL_sellerNameByte_2 rfl (lv_at hl 0 rfl) ?_
  refine lv_iload_n hx hb dL_sellerNameByte_3 rfl (lv_at hl 1 rfl) ?_
  refine lv_iload_n hx hb dL_sellerNameByte_4 rfl (lv_at hl 2 rfl) ?_
  refine hx_i cx hp (yx_V (As := [.int p1, .int p2]) (rest := [.int 0, .ref (adr E 21 0)]) cx hp hl (c_X12_sellerNameByte l (Nat.le_trans (by decide) hN) hT hlf hf) (cw_L_55 cx (mc := 1) (ms := 6) rfl rfl ⟨by decide, by decide⟩) (rC_X12 (Nat.le_trans (by decide) hN) cx hp) rfl rfl (Nat.le_of_ble_eq_true rfl) dL_sellerNameByte_5 ⟨by decide, by decide⟩) (fun k H locs ce q hk hp h1 h2 h3 => ?_) (fun r u H locs hq hp => ?_)
  · rcases hz with ⟨j, k', hj, hz, rfl, rfl⟩ | ⟨r, hz, -, -⟩
    · obtain rfl : k' = k := Sum.inl.inj (hz.symm.trans hk)
      rcases j with _ | j
      · obtain rfl : 2 = k' := Option.some.inj hj
        refine vx_catch cx.1.2.2.2.1 [] ⟨0, 10, 13, 24⟩ [] hxt (fun _ h => absurd h List.not_mem_nil) rfl (by decide) (cx.1.2.2.2.2 _ qK_L_24) (va_Nw.use (nb_tab qX_java_lang_IndexOutOfBoundsException_java_lang_IndexOutOfBoundsException) (cx.2.2.1.2.2.1 _ qX_java_lang_IndexOutOfBoundsException_java_lang_IndexOutOfBoundsException)) h1 h2 h3 ?_
        refine lv_astore (lv' := [(4, .ref q), (0, .ref (adr E 19 0)), (1, .int p1), (2, .int p2), (3, .ref (adr E 21 0))]) hx hb dL_sellerNameByte_13 hl (by decide) rfl (fun ls hl => ?_)
        refine lv_iconst (v := 1) hx hb dL_sellerNameByte_15 (by decide) ?_
        exact r_i cx hp ⟨by decide, rfl⟩ dL_sellerNameByte_16
      · exact absurd hj (by simp)
    · exact absurd (hz.symm.trans hk) (fun h9 => by cases h9)
  · rcases hz with ⟨j, k', hj, hz, -, -⟩ | ⟨r', hz, rfl, rfl⟩
    · exact absurd (hz.symm.trans hq.1) (fun h9 => by cases h9)
    · obtain ⟨hq, rfl⟩ := hq
      obtain rfl : r' = r := Sum.inr.inj (hz.symm.trans hq)
      refine lv_i2l hx hb dL_sellerNameByte_8 rfl ?_
      refine s_out hN cx hp dL_sellerNameByte_9 (fun H locs hp => ?_)
      refine lv_goto (tgt := 17) hx hb dL_sellerNameByte_10 (by decide) ?_
      refine lv_iconst (v := 0) hx hb dL_sellerNameByte_17 (by decide) ?_
      exact r_i cx hp ⟨by decide, rfl⟩ dL_sellerNameByte_18
theorem cwS_L_sellerNameByte {p : Program} {R : Room} {s : State} {m : MethodId} {args : Array Value} {meth : Method} {c : Code} {E : Ev} {cc : ByteArray} {nL : Nat} {ret : Option FieldType} (cx : Cx E p s m meth c args RL cc nL ret) (hR : rm_L_sellerNameByte.frames + 1 ≤ R.frames ∧ 8 + (5 + 11) + rm_L_sellerNameByte.locals ≤ R.locals) : vx_CSW R s args RL 203 yL_sellerNameByte cL_sellerNameByte 5 (some .int) [(0, 10, 13, 24)] (wW yL_sellerNameByte cL_sellerNameByte 5 (some .int) [(0, 10, 13, 24)]) rm_L_sellerNameByte 1 6 4 := vx_cwSW 4 cx.1.2.2.2.2 (gd_SW qM_L_203 qT_L_sellerNameByte qN_L qW_L_sellerNameByte) rfl rfl rfl (by decide +kernel) hR
theorem qW_L_stallNameByte : Cond.codeWith yL_stallNameByte cL_stallNameByte 5 (some .int) [(0, 10, 13, 24)] ∈ TB := tb_of 1174 (by decide +kernel) (by decide +kernel)
abbrev rm_L_stallNameByte : Room := { frames := 8, cells := 1, slots := 6, locals := 125 }
set_option maxRecDepth 100000 in
set_option maxHeartbeats 4000000 in
theorem c_L_stallNameByte (l : Launch) {E : Ev} (hN : 147 ≤ eN E) (hT : St E) (hlf : l.stackTraces = false) (hC : NC E) {σ σ' : SM} {p1 : Int32} {p2 : Int32} {z : Nat ⊕ Int32} {rv : Int32} (hf : f_X12_stallNameByte p1 p2 σ = some z) (hz : HX oI [2] z σ rv σ') : Met l yL_stallNameByte (wW yL_stallNameByte cL_stallNameByte 5 (some .int) [(0, 10, 13, 24)]) rm_L_stallNameByte (va_Pc [.ref (adr E 19 0), .int p1, .int p2, .ref (adr E 21 0)] (Wu E σ)) (va_Qi (fun r u => rv = r ∧ σ' = u) (fun u t => Wu E u t) (eA E)) 1 6 (eA E) := by
  refine gW_entry (lv := [(0, .ref (adr E 19 0)), (1, .int p1), (2, .int p2), (3, .ref (adr E 21 0))]) (by decide) (Nat.le_of_ble_eq_true rfl) rfl ?_
  intro p e s m below meth c cx hxt hp ls hl
  have hx := cx.1.1
  have hb := cx.1.2.1
  refine lv_aload_n hx hb dL_stallNameByte_0 rfl (lv_at hl 3 rfl) ?_
  refine lv_iconst (v := 0) hx hb dL_stallNameByte_1 (by decide) ?_
  refine lv_aload_n hx hb dL_stallNameByte_2 rfl (lv_at hl 0 rfl) ?_
  refine lv_iload_n hx hb dL_stallNameByte_3 rfl (lv_at hl 1 rfl) ?_
  refine lv_iload_n hx hb dL_stallNameByte_4 rfl (lv_at hl 2 rfl) ?_
  refine hx_i cx hp (yx_V (As := [.int p1, .int p2]) (rest := [.int 0, .ref (adr E 21 0)]) cx hp hl (c_X12_stallNameByte l (Nat.le_trans (by decide) hN) hT hlf hf) (cw_L_58 cx (mc := 1) (ms := 6) rfl rfl ⟨by decide, by decide⟩) (rC_X12 (Nat.le_trans (by decide) hN) cx hp) rfl rfl (Nat.le_of_ble_eq_true rfl) dL_stallNameByte_5 ⟨by decide, by decide⟩) (fun k H locs ce q hk hp h1 h2 h3 => ?_) (fun r u H locs hq hp => ?_)
  · rcases hz with ⟨j, k', hj, hz, rfl, rfl⟩ | ⟨r, hz, -, -⟩
    · obtain rfl : k' = k := Sum.inl.inj (hz.symm.trans hk)
      rcases j with _ | j
      · obtain rfl : 2 = k' := Option.some.inj hj
        refine vx_catch cx.1.2.2.2.1 [] ⟨0, 10, 13, 24⟩ [] hxt (fun _ h => absurd h List.not_mem_nil) rfl (by decide) (cx.1.2.2.2.2 _ qK_L_24) (va_Nw.use (nb_tab qX_java_lang_IndexOutOfBoundsException_java_lang_IndexOutOfBoundsException) (cx.2.2.1.2.2.1 _ qX_java_lang_IndexOutOfBoundsException_java_lang_IndexOutOfBoundsException)) h1 h2 h3 ?_
        refine lv_astore (lv' := [(4, .ref q), (0, .ref (adr E 19 0)), (1, .int p1), (2, .int p2), (3, .ref (adr E 21 0))]) hx hb dL_stallNameByte_13 hl (by decide) rfl (fun ls hl => ?_)
        refine lv_iconst (v := 1) hx hb dL_stallNameByte_15 (by decide) ?_
        exact r_i cx hp ⟨by decide, rfl⟩ dL_stallNameByte_16
      · exact absurd hj (by simp)
    · exact absurd (hz.symm.trans hk) (fun h9 => by cases h9)
  · rcases hz with ⟨j, k', hj, hz, -, -⟩ | ⟨r', hz, rfl, rfl⟩
    · exact absurd (hz.symm.trans hq.1) (fun h9 => by cases h9)
    · obtain ⟨hq, rfl⟩ := hq
      obtain rfl : r' = r := Sum.inr.inj (hz.symm.trans hq)
      refine lv_i2l hx hb dL_stallNameByte_8 rfl ?_
      refine s_out hN cx hp dL_stallNameByte_9 (fun H locs hp => ?_)
      refine lv_goto (tgt := 17) hx hb dL_stallNameByte_10 (by decide) ?_
      refine lv_iconst (v := 0) hx hb dL_stallNameByte_17 (by decide) ?_
      exact r_i cx hp ⟨by decide, rfl⟩ dL_stallNameByte_18
theorem cwS_L_stallNameByte {p : Program} {R : Room} {s : State} {m : MethodId} {args : Array Value} {meth : Method} {c : Code} {E : Ev} {cc : ByteArray} {nL : Nat} {ret : Option FieldType} (cx : Cx E p s m meth c args RL cc nL ret) (hR : rm_L_stallNameByte.frames + 1 ≤ R.frames ∧ 8 + (5 + 11) + rm_L_stallNameByte.locals ≤ R.locals) : vx_CSW R s args RL 206 yL_stallNameByte cL_stallNameByte 5 (some .int) [(0, 10, 13, 24)] (wW yL_stallNameByte cL_stallNameByte 5 (some .int) [(0, 10, 13, 24)]) rm_L_stallNameByte 1 6 4 := vx_cwSW 4 cx.1.2.2.2.2 (gd_SW qM_L_206 qT_L_stallNameByte qN_L qW_L_stallNameByte) rfl rfl rfl (by decide +kernel) hR
theorem qW_L_envies : Cond.codeWith yL_envies cL_envies 5 (some .int) [(0, 17, 20, 24)] ∈ TB := tb_of 1181 (by decide +kernel) (by decide +kernel)
abbrev rm_L_envies : Room := { frames := 8, cells := 2, slots := 12, locals := 125 }
set_option maxRecDepth 100000 in
set_option maxHeartbeats 4000000 in
theorem c_L_envies (l : Launch) {E : Ev} (hN : 147 ≤ eN E) (hT : St E) (hlf : l.stackTraces = false) (hC : NC E) {σ σ' : SM} {p1 : Int32} {p2 : Int32} {z : Nat ⊕ Int32} {rv : Int32} (hf : f_X12_envies p1 p2 σ = some z) (hz : HX oB [2] z σ rv σ') : Met l yL_envies (wW yL_envies cL_envies 5 (some .int) [(0, 17, 20, 24)]) rm_L_envies (va_Pc [.ref (adr E 19 0), .int p1, .int p2, .ref (adr E 21 0)] (Wu E σ)) (va_Qi (fun r u => rv = r ∧ σ' = u) (fun u t => Wu E u t) (eA E)) 2 12 (eA E) := by
  refine gW_entry (lv := [(0, .ref (adr E 19 0)), (1, .int p1), (2, .int p2), (3, .ref (adr E 21 0))]) (by decide) (Nat.le_of_ble_eq_true rfl) rfl ?_
  intro p e s m below meth c cx hxt hp ls hl
  have hx := cx.1.1
  have hb := cx.1.2.1
  refine lv_aload_n hx hb dL_envies_0 rfl (lv_at hl 3 rfl) ?_
  refine lv_iconst (v := 0) hx hb dL_envies_1 (by decide) ?_
  refine lv_aload_n hx hb dL_envies_2 rfl (lv_at hl 0 rfl) ?_
  refine lv_iload_n hx hb dL_envies_3 rfl (lv_at hl 1 rfl) ?_
  refine lv_iload_n hx hb dL_envies_4 rfl (lv_at hl 2 rfl) ?_
  refine hx_i cx hp (yx_V (As := [.int p1, .int p2]) (rest := [.int 0, .ref (adr E 21 0)]) cx hp hl (c_X12_envies l (Nat.le_trans (by decide) hN) hT hlf hf) (cw_L_61 cx (mc := 2) (ms := 12) rfl rfl ⟨by decide, by decide⟩) (rC_X12 (Nat.le_trans (by decide) hN) cx hp) rfl rfl (Nat.le_of_ble_eq_true rfl) dL_envies_5 ⟨by decide, by decide⟩) (fun k H locs ce q hk hp h1 h2 h3 => ?_) (fun r u H locs hq hp => ?_)
  · rcases hz with ⟨j, k', hj, hz, rfl, rfl⟩ | ⟨r, hz, -, -⟩
    · obtain rfl : k' = k := Sum.inl.inj (hz.symm.trans hk)
      rcases j with _ | j
      · obtain rfl : 2 = k' := Option.some.inj hj
        refine vx_catch cx.1.2.2.2.1 [] ⟨0, 17, 20, 24⟩ [] hxt (fun _ h => absurd h List.not_mem_nil) rfl (by decide) (cx.1.2.2.2.2 _ qK_L_24) (va_Nw.use (nb_tab qX_java_lang_IndexOutOfBoundsException_java_lang_IndexOutOfBoundsException) (cx.2.2.1.2.2.1 _ qX_java_lang_IndexOutOfBoundsException_java_lang_IndexOutOfBoundsException)) h1 h2 h3 ?_
        refine lv_astore (lv' := [(4, .ref q), (0, .ref (adr E 19 0)), (1, .int p1), (2, .int p2), (3, .ref (adr E 21 0))]) hx hb dL_envies_20 hl (by decide) rfl (fun ls hl => ?_)
        refine lv_iconst (v := 1) hx hb dL_envies_22 (by decide) ?_
        exact r_i cx hp ⟨by decide, rfl⟩ dL_envies_23
      · exact absurd hj (by simp)
    · exact absurd (hz.symm.trans hk) (fun h9 => by cases h9)
  · rcases hz with ⟨j, k', hj, hz, -, -⟩ | ⟨r', hz, rfl, rfl⟩
    · exact absurd (hz.symm.trans hq.1) (fun h9 => by cases h9)
    · obtain ⟨hq, rfl⟩ := hq
      obtain rfl : r' = r := Sum.inr.inj (hz.symm.trans hq)
      refine lv_if_eq (tgt := 15) hx hb dL_envies_8 (by decide) (fun c9 => ?_) (fun c9 => ?_)
      · refine lv_lconst (v := 0) hx hb dL_envies_15 (by decide) ?_
        refine s_out hN cx hp dL_envies_16 (fun H locs hp => ?_)
        refine lv_goto (tgt := 24) hx hb dL_envies_17 (by decide) ?_
        refine lv_iconst (v := 0) hx hb dL_envies_24 (by decide) ?_
        exact r_i cx hp ⟨by decide, by rw [oB, if_pos c9]⟩ dL_envies_25
      · refine lv_lconst (v := 1) hx hb dL_envies_11 (by decide) ?_
        refine lv_goto (tgt := 16) hx hb dL_envies_12 (by decide) ?_
        refine s_out hN cx hp dL_envies_16 (fun H locs hp => ?_)
        refine lv_goto (tgt := 24) hx hb dL_envies_17 (by decide) ?_
        refine lv_iconst (v := 0) hx hb dL_envies_24 (by decide) ?_
        exact r_i cx hp ⟨by decide, by rw [oB, if_neg c9]⟩ dL_envies_25
theorem cwS_L_envies {p : Program} {R : Room} {s : State} {m : MethodId} {args : Array Value} {meth : Method} {c : Code} {E : Ev} {cc : ByteArray} {nL : Nat} {ret : Option FieldType} (cx : Cx E p s m meth c args RL cc nL ret) (hR : rm_L_envies.frames + 1 ≤ R.frames ∧ 8 + (5 + 11) + rm_L_envies.locals ≤ R.locals) : vx_CSW R s args RL 217 yL_envies cL_envies 5 (some .int) [(0, 17, 20, 24)] (wW yL_envies cL_envies 5 (some .int) [(0, 17, 20, 24)]) rm_L_envies 2 12 4 := vx_cwSW 4 cx.1.2.2.2.2 (gd_SW qM_L_217 qT_L_envies qN_L qW_L_envies) rfl rfl rfl (by decide +kernel) hR
theorem qW_L_wouldSwap : Cond.codeWith yL_wouldSwap cL_wouldSwap 5 (some .int) [(0, 17, 20, 24)] ∈ TB := tb_of 1189 (by decide +kernel) (by decide +kernel)
abbrev rm_L_wouldSwap : Room := { frames := 8, cells := 2, slots := 12, locals := 136 }
set_option maxRecDepth 100000 in
set_option maxHeartbeats 4000000 in
theorem c_L_wouldSwap (l : Launch) {E : Ev} (hN : 147 ≤ eN E) (hT : St E) (hlf : l.stackTraces = false) (hC : NC E) {σ σ' : SM} {p1 : Int32} {p2 : Int32} {z : Nat ⊕ Int32} {rv : Int32} (hf : f_X12_wouldSwap p1 p2 σ = some z) (hz : HX oB [2] z σ rv σ') : Met l yL_wouldSwap (wW yL_wouldSwap cL_wouldSwap 5 (some .int) [(0, 17, 20, 24)]) rm_L_wouldSwap (va_Pc [.ref (adr E 19 0), .int p1, .int p2, .ref (adr E 21 0)] (Wu E σ)) (va_Qi (fun r u => rv = r ∧ σ' = u) (fun u t => Wu E u t) (eA E)) 2 12 (eA E) := by
  refine gW_entry (lv := [(0, .ref (adr E 19 0)), (1, .int p1), (2, .int p2), (3, .ref (adr E 21 0))]) (by decide) (Nat.le_of_ble_eq_true rfl) rfl ?_
  intro p e s m below meth c cx hxt hp ls hl
  have hx := cx.1.1
  have hb := cx.1.2.1
  refine lv_aload_n hx hb dL_wouldSwap_0 rfl (lv_at hl 3 rfl) ?_
  refine lv_iconst (v := 0) hx hb dL_wouldSwap_1 (by decide) ?_
  refine lv_aload_n hx hb dL_wouldSwap_2 rfl (lv_at hl 0 rfl) ?_
  refine lv_iload_n hx hb dL_wouldSwap_3 rfl (lv_at hl 1 rfl) ?_
  refine lv_iload_n hx hb dL_wouldSwap_4 rfl (lv_at hl 2 rfl) ?_
  refine hx_i cx hp (yx_V (As := [.int p1, .int p2]) (rest := [.int 0, .ref (adr E 21 0)]) cx hp hl (c_X12_wouldSwap l (Nat.le_trans (by decide) hN) hT hlf hf) (cw_L_65 cx (mc := 2) (ms := 12) rfl rfl ⟨by decide, by decide⟩) (rC_X12 (Nat.le_trans (by decide) hN) cx hp) rfl rfl (Nat.le_of_ble_eq_true rfl) dL_wouldSwap_5 ⟨by decide, by decide⟩) (fun k H locs ce q hk hp h1 h2 h3 => ?_) (fun r u H locs hq hp => ?_)
  · rcases hz with ⟨j, k', hj, hz, rfl, rfl⟩ | ⟨r, hz, -, -⟩
    · obtain rfl : k' = k := Sum.inl.inj (hz.symm.trans hk)
      rcases j with _ | j
      · obtain rfl : 2 = k' := Option.some.inj hj
        refine vx_catch cx.1.2.2.2.1 [] ⟨0, 17, 20, 24⟩ [] hxt (fun _ h => absurd h List.not_mem_nil) rfl (by decide) (cx.1.2.2.2.2 _ qK_L_24) (va_Nw.use (nb_tab qX_java_lang_IndexOutOfBoundsException_java_lang_IndexOutOfBoundsException) (cx.2.2.1.2.2.1 _ qX_java_lang_IndexOutOfBoundsException_java_lang_IndexOutOfBoundsException)) h1 h2 h3 ?_
        refine lv_astore (lv' := [(4, .ref q), (0, .ref (adr E 19 0)), (1, .int p1), (2, .int p2), (3, .ref (adr E 21 0))]) hx hb dL_wouldSwap_20 hl (by decide) rfl (fun ls hl => ?_)
        refine lv_iconst (v := 1) hx hb dL_wouldSwap_22 (by decide) ?_
        exact r_i cx hp ⟨by decide, rfl⟩ dL_wouldSwap_23
      · exact absurd hj (by simp)
    · exact absurd (hz.symm.trans hk) (fun h9 => by cases h9)
  · rcases hz with ⟨j, k', hj, hz, -, -⟩ | ⟨r', hz, rfl, rfl⟩
    · exact absurd (hz.symm.trans hq.1) (fun h9 => by cases h9)
    · obtain ⟨hq, rfl⟩ := hq
      obtain rfl : r' = r := Sum.inr.inj (hz.symm.trans hq)
      refine lv_if_eq (tgt := 15) hx hb dL_wouldSwap_8 (by decide) (fun c9 => ?_) (fun c9 => ?_)
      · refine lv_lconst (v := 0) hx hb dL_wouldSwap_15 (by decide) ?_
        refine s_out hN cx hp dL_wouldSwap_16 (fun H locs hp => ?_)
        refine lv_goto (tgt := 24) hx hb dL_wouldSwap_17 (by decide) ?_
        refine lv_iconst (v := 0) hx hb dL_wouldSwap_24 (by decide) ?_
        exact r_i cx hp ⟨by decide, by rw [oB, if_pos c9]⟩ dL_wouldSwap_25
      · refine lv_lconst (v := 1) hx hb dL_wouldSwap_11 (by decide) ?_
        refine lv_goto (tgt := 16) hx hb dL_wouldSwap_12 (by decide) ?_
        refine s_out hN cx hp dL_wouldSwap_16 (fun H locs hp => ?_)
        refine lv_goto (tgt := 24) hx hb dL_wouldSwap_17 (by decide) ?_
        refine lv_iconst (v := 0) hx hb dL_wouldSwap_24 (by decide) ?_
        exact r_i cx hp ⟨by decide, by rw [oB, if_neg c9]⟩ dL_wouldSwap_25
theorem cwS_L_wouldSwap {p : Program} {R : Room} {s : State} {m : MethodId} {args : Array Value} {meth : Method} {c : Code} {E : Ev} {cc : ByteArray} {nL : Nat} {ret : Option FieldType} (cx : Cx E p s m meth c args RL cc nL ret) (hR : rm_L_wouldSwap.frames + 1 ≤ R.frames ∧ 8 + (5 + 11) + rm_L_wouldSwap.locals ≤ R.locals) : vx_CSW R s args RL 220 yL_wouldSwap cL_wouldSwap 5 (some .int) [(0, 17, 20, 24)] (wW yL_wouldSwap cL_wouldSwap 5 (some .int) [(0, 17, 20, 24)]) rm_L_wouldSwap 2 12 4 := vx_cwSW 4 cx.1.2.2.2.2 (gd_SW qM_L_220 qT_L_wouldSwap qN_L qW_L_wouldSwap) rfl rfl rfl (by decide +kernel) hR
theorem qW_L_improvingCycleLength : Cond.codeWith yL_improvingCycleLength cL_improvingCycleLength 4 (some .int) [(0, 9, 12, 24)] ∈ TB := tb_of 1197 (by decide +kernel) (by decide +kernel)
abbrev rm_L_improvingCycleLength : Room := { frames := 8, cells := 1, slots := 6, locals := 160 }
set_option maxRecDepth 100000 in
set_option maxHeartbeats 4000000 in
theorem c_L_improvingCycleLength (l : Launch) {E : Ev} (hN : 147 ≤ eN E) (hT : St E) (hlf : l.stackTraces = false) (hC : NC E) {σ σ' : SM} {p1 : Int32} {z : Nat ⊕ Int32} {rv : Int32} (hf : f_X12_improvingCycleLength p1 σ = some z) (hz : HX oI [2] z σ rv σ') : Met l yL_improvingCycleLength (wW yL_improvingCycleLength cL_improvingCycleLength 4 (some .int) [(0, 9, 12, 24)]) rm_L_improvingCycleLength (va_Pc [.ref (adr E 19 0), .int p1, .ref (adr E 21 0)] (Wu E σ)) (va_Qi (fun r u => rv = r ∧ σ' = u) (fun u t => Wu E u t) (eA E)) 1 6 (eA E) := by
  refine gW_entry (lv := [(0, .ref (adr E 19 0)), (1, .int p1), (2, .ref (adr E 21 0))]) (by decide) (Nat.le_of_ble_eq_true rfl) rfl ?_
  intro p e s m below meth c cx hxt hp ls hl
  have hx := cx.1.1
  have hb := cx.1.2.1
  refine lv_aload_n hx hb dL_improvingCycleLength_0 rfl (lv_at hl 2 rfl) ?_
  refine lv_iconst (v := 0) hx hb dL_improvingCycleLength_1 (by decide) ?_
  refine lv_aload_n hx hb dL_improvingCycleLength_2 rfl (lv_at hl 0 rfl) ?_
  refine lv_iload_n hx hb dL_improvingCycleLength_3 rfl (lv_at hl 1 rfl) ?_
  refine hx_i cx hp (yx_V (As := [.int p1]) (rest := [.int 0, .ref (adr E 21 0)]) cx hp hl (c_X12_improvingCycleLength l (Nat.le_trans (by decide) hN) hT hlf hf) (cw_L_68 cx (mc := 1) (ms := 6) rfl rfl ⟨by decide, by decide⟩) (rC_X12 (Nat.le_trans (by decide) hN) cx hp) rfl rfl (Nat.le_of_ble_eq_true rfl) dL_improvingCycleLength_4 ⟨by decide, by decide⟩) (fun k H locs ce q hk hp h1 h2 h3 => ?_) (fun r u H locs hq hp => ?_)
  · rcases hz with ⟨j, k', hj, hz, rfl, rfl⟩ | ⟨r, hz, -, -⟩
    · obtain rfl : k' = k := Sum.inl.inj (hz.symm.trans hk)
      rcases j with _ | j
      · obtain rfl : 2 = k' := Option.some.inj hj
        refine vx_catch cx.1.2.2.2.1 [] ⟨0, 9, 12, 24⟩ [] hxt (fun _ h => absurd h List.not_mem_nil) rfl (by decide) (cx.1.2.2.2.2 _ qK_L_24) (va_Nw.use (nb_tab qX_java_lang_IndexOutOfBoundsException_java_lang_IndexOutOfBoundsException) (cx.2.2.1.2.2.1 _ qX_java_lang_IndexOutOfBoundsException_java_lang_IndexOutOfBoundsException)) h1 h2 h3 ?_
        refine lv_astore_n (lv' := [(3, .ref q), (0, .ref (adr E 19 0)), (1, .int p1), (2, .ref (adr E 21 0))]) hx hb dL_improvingCycleLength_12 rfl hl (by decide) rfl (fun ls hl => ?_)
        refine lv_iconst (v := 1) hx hb dL_improvingCycleLength_13 (by decide) ?_
        exact r_i cx hp ⟨by decide, rfl⟩ dL_improvingCycleLength_14
      · exact absurd hj (by simp)
    · exact absurd (hz.symm.trans hk) (fun h9 => by cases h9)
  · rcases hz with ⟨j, k', hj, hz, -, -⟩ | ⟨r', hz, rfl, rfl⟩
    · exact absurd (hz.symm.trans hq.1) (fun h9 => by cases h9)
    · obtain ⟨hq, rfl⟩ := hq
      obtain rfl : r' = r := Sum.inr.inj (hz.symm.trans hq)
      refine lv_i2l hx hb dL_improvingCycleLength_7 rfl ?_
      refine s_out hN cx hp dL_improvingCycleLength_8 (fun H locs hp => ?_)
      refine lv_goto (tgt := 15) hx hb dL_improvingCycleLength_9 (by decide) ?_
      refine lv_iconst (v := 0) hx hb dL_improvingCycleLength_15 (by decide) ?_
      exact r_i cx hp ⟨by decide, rfl⟩ dL_improvingCycleLength_16
theorem cwS_L_improvingCycleLength {p : Program} {R : Room} {s : State} {m : MethodId} {args : Array Value} {meth : Method} {c : Code} {E : Ev} {cc : ByteArray} {nL : Nat} {ret : Option FieldType} (cx : Cx E p s m meth c args RL cc nL ret) (hR : rm_L_improvingCycleLength.frames + 1 ≤ R.frames ∧ 8 + (4 + 11) + rm_L_improvingCycleLength.locals ≤ R.locals) : vx_CSW R s args RL 227 yL_improvingCycleLength cL_improvingCycleLength 4 (some .int) [(0, 9, 12, 24)] (wW yL_improvingCycleLength cL_improvingCycleLength 4 (some .int) [(0, 9, 12, 24)]) rm_L_improvingCycleLength 1 6 3 := vx_cwSW 3 cx.1.2.2.2.2 (gd_SW qM_L_227 qT_L_improvingCycleLength qN_L qW_L_improvingCycleLength) rfl rfl rfl (by decide +kernel) hR
theorem qW_L_betterFreeStall : Cond.codeWith yL_betterFreeStall cL_betterFreeStall 4 (some .int) [(0, 9, 12, 24)] ∈ TB := tb_of 1205 (by decide +kernel) (by decide +kernel)
abbrev rm_L_betterFreeStall : Room := { frames := 8, cells := 1, slots := 6, locals := 124 }
set_option maxRecDepth 100000 in
set_option maxHeartbeats 4000000 in
theorem c_L_betterFreeStall (l : Launch) {E : Ev} (hN : 147 ≤ eN E) (hT : St E) (hlf : l.stackTraces = false) (hC : NC E) {σ σ' : SM} {p1 : Int32} {z : Nat ⊕ Int32} {rv : Int32} (hf : f_X12_betterFreeStall p1 σ = some z) (hz : HX oI [2] z σ rv σ') : Met l yL_betterFreeStall (wW yL_betterFreeStall cL_betterFreeStall 4 (some .int) [(0, 9, 12, 24)]) rm_L_betterFreeStall (va_Pc [.ref (adr E 19 0), .int p1, .ref (adr E 21 0)] (Wu E σ)) (va_Qi (fun r u => rv = r ∧ σ' = u) (fun u t => Wu E u t) (eA E)) 1 6 (eA E) := by
  refine gW_entry (lv := [(0, .ref (adr E 19 0)), (1, .int p1), (2, .ref (adr E 21 0))]) (by decide) (Nat.le_of_ble_eq_true rfl) rfl ?_
  intro p e s m below meth c cx hxt hp ls hl
  have hx := cx.1.1
  have hb := cx.1.2.1
  refine lv_aload_n hx hb dL_betterFreeStall_0 rfl (lv_at hl 2 rfl) ?_
  refine lv_iconst (v := 0) hx hb dL_betterFreeStall_1 (by decide) ?_
  refine lv_aload_n hx hb dL_betterFreeStall_2 rfl (lv_at hl 0 rfl) ?_
  refine lv_iload_n hx hb dL_betterFreeStall_3 rfl (lv_at hl 1 rfl) ?_
  refine hx_i cx hp (yx_V (As := [.int p1]) (rest := [.int 0, .ref (adr E 21 0)]) cx hp hl (c_X12_betterFreeStall l (Nat.le_trans (by decide) hN) hT hlf hf) (cw_L_71 cx (mc := 1) (ms := 6) rfl rfl ⟨by decide, by decide⟩) (rC_X12 (Nat.le_trans (by decide) hN) cx hp) rfl rfl (Nat.le_of_ble_eq_true rfl) dL_betterFreeStall_4 ⟨by decide, by decide⟩) (fun k H locs ce q hk hp h1 h2 h3 => ?_) (fun r u H locs hq hp => ?_)
  · rcases hz with ⟨j, k', hj, hz, rfl, rfl⟩ | ⟨r, hz, -, -⟩
    · obtain rfl : k' = k := Sum.inl.inj (hz.symm.trans hk)
      rcases j with _ | j
      · obtain rfl : 2 = k' := Option.some.inj hj
        refine vx_catch cx.1.2.2.2.1 [] ⟨0, 9, 12, 24⟩ [] hxt (fun _ h => absurd h List.not_mem_nil) rfl (by decide) (cx.1.2.2.2.2 _ qK_L_24) (va_Nw.use (nb_tab qX_java_lang_IndexOutOfBoundsException_java_lang_IndexOutOfBoundsException) (cx.2.2.1.2.2.1 _ qX_java_lang_IndexOutOfBoundsException_java_lang_IndexOutOfBoundsException)) h1 h2 h3 ?_
        refine lv_astore_n (lv' := [(3, .ref q), (0, .ref (adr E 19 0)), (1, .int p1), (2, .ref (adr E 21 0))]) hx hb dL_betterFreeStall_12 rfl hl (by decide) rfl (fun ls hl => ?_)
        refine lv_iconst (v := 1) hx hb dL_betterFreeStall_13 (by decide) ?_
        exact r_i cx hp ⟨by decide, rfl⟩ dL_betterFreeStall_14
      · exact absurd hj (by simp)
    · exact absurd (hz.symm.trans hk) (fun h9 => by cases h9)
  · rcases hz with ⟨j, k', hj, hz, -, -⟩ | ⟨r', hz, rfl, rfl⟩
    · exact absurd (hz.symm.trans hq.1) (fun h9 => by cases h9)
    · obtain ⟨hq, rfl⟩ := hq
      obtain rfl : r' = r := Sum.inr.inj (hz.symm.trans hq)
      refine lv_i2l hx hb dL_betterFreeStall_7 rfl ?_
      refine s_out hN cx hp dL_betterFreeStall_8 (fun H locs hp => ?_)
      refine lv_goto (tgt := 15) hx hb dL_betterFreeStall_9 (by decide) ?_
      refine lv_iconst (v := 0) hx hb dL_betterFreeStall_15 (by decide) ?_
      exact r_i cx hp ⟨by decide, rfl⟩ dL_betterFreeStall_16
theorem cwS_L_betterFreeStall {p : Program} {R : Room} {s : State} {m : MethodId} {args : Array Value} {meth : Method} {c : Code} {E : Ev} {cc : ByteArray} {nL : Nat} {ret : Option FieldType} (cx : Cx E p s m meth c args RL cc nL ret) (hR : rm_L_betterFreeStall.frames + 1 ≤ R.frames ∧ 8 + (4 + 11) + rm_L_betterFreeStall.locals ≤ R.locals) : vx_CSW R s args RL 230 yL_betterFreeStall cL_betterFreeStall 4 (some .int) [(0, 9, 12, 24)] (wW yL_betterFreeStall cL_betterFreeStall 4 (some .int) [(0, 9, 12, 24)]) rm_L_betterFreeStall 1 6 3 := vx_cwSW 3 cx.1.2.2.2.2 (gd_SW qM_L_230 qT_L_betterFreeStall qN_L qW_L_betterFreeStall) rfl rfl rfl (by decide +kernel) hR

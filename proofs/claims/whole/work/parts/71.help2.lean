theorem qW_L_blockReason : Cond.codeWith yL_blockReason cL_blockReason 5 (some .int) [(0, 10, 13, 24)] ∈ TB := tb_of 1213 (by decide +kernel) (by decide +kernel)
abbrev rm_L_blockReason : Room := { frames := 8, cells := 2, slots := 12, locals := 126 }
set_option maxRecDepth 100000 in
set_option maxHeartbeats 4000000 in
theorem c_L_blockReason (l : Launch) {E : Ev} (hN : 147 ≤ eN E) (hT : St E) (hlf : l.stackTraces = false) (hC : NC E) {σ σ' : SM} {p1 : Int32} {p2 : Int32} {z : Nat ⊕ Int32} {rv : Int32} (hf : f_X12_blockReason p1 p2 σ = some z) (hz : HX oI [2] z σ rv σ') : Met l yL_blockReason (wW yL_blockReason cL_blockReason 5 (some .int) [(0, 10, 13, 24)]) rm_L_blockReason (va_Pc [.ref (adr E 19 0), .int p1, .int p2, .ref (adr E 21 0)] (Wu E σ)) (va_Qi (fun r u => rv = r ∧ σ' = u) (fun u t => Wu E u t) (eA E)) 2 12 (eA E) := by
  refine gW_entry (lv := [(0, .ref (adr E 19 0)), (1, .int p1), (2, .int p2), (3, .ref (adr E 21 0))]) (by decide) (Nat.le_of_ble_eq_true rfl) rfl ?_
  intro p e s m below meth c cx hxt hp ls hl
  have hx := cx.1.1
  have hb := cx.1.2.1
  refine lv_aload_n hx hb dL_blockReason_0 rfl (lv_at hl 3 rfl) ?_
  refine lv_iconst (v := 0) hx hb dL_blockReason_1 (by decide) ?_
  refine lv_aload_n hx hb dL_blockReason_2 rfl (lv_at hl 0 rfl) ?_
  refine lv_iload_n hx hb dL_blockReason_3 rfl (lv_at hl 1 rfl) ?_
  refine lv_iload_n hx hb dL_blockReason_4 rfl (lv_at hl 2 rfl) ?_
  refine hx_i cx hp (yx_V (As := [.int p1, .int p2]) (rest := [.int 0, .ref (adr E 21 0)]) cx hp hl (c_X12_blockReason l (Nat.le_trans (by decide) hN) hT hlf hf) (cw_L_74 cx (mc := 2) (ms := 12) rfl rfl ⟨by decide, by decide⟩) (rC_X12 (Nat.le_trans (by decide) hN) cx hp) rfl rfl (Nat.le_of_ble_eq_true rfl) dL_blockReason_5 ⟨by decide, by decide⟩) (fun k H locs ce q hk hp h1 h2 h3 => ?_) (fun r u H locs hq hp => ?_)
  · rcases hz with ⟨j, k', hj, hz, rfl, rfl⟩ | ⟨r, hz, -, -⟩
    · obtain rfl : k' = k := Sum.inl.inj (hz.symm.trans hk)
      rcases j with _ | j
      · obtain rfl : 2 = k' := Option.some.inj hj
        refine vx_catch cx.1.2.2.2.1 [] ⟨0, 10, 13, 24⟩ [] hxt (fun _ h => absurd h List.not_mem_nil) rfl (by decide) (cx.1.2.2.2.2 _ qK_L_24) (va_Nw.use (nb_tab qX_java_lang_IndexOutOfBoundsException_java_lang_IndexOutOfBoundsException) (cx.2.2.1.2.2.1 _ qX_java_lang_IndexOutOfBoundsException_java_lang_IndexOutOfBoundsException)) h1 h2 h3 ?_
        refine lv_astore (lv' := [(4, .ref q), (0, .ref (adr E 19 0)), (1, .int p1), (2, .int p2), (3, .ref (adr E 21 0))]) hx hb dL_blockReason_13 hl (by decide) rfl (fun ls hl => ?_)
        refine lv_iconst (v := 1) hx hb dL_blockReason_15 (by decide) ?_
        exact r_i cx hp ⟨by decide, rfl⟩ dL_blockReason_16
      · exact absurd hj (by simp)
    · exact absurd (hz.symm.trans hk) (fun h9 => by cases h9)
  · rcases hz with ⟨j, k', hj, hz, -, -⟩ | ⟨r', hz, rfl, rfl⟩
    · exact absurd (hz.symm.trans hq.1) (fun h9 => by cases h9)
    · obtain ⟨hq, rfl⟩ := hq
      obtain rfl : r' = r := Sum.inr.inj (hz.symm.trans hq)
      refine lv_i2l hx hb dL_blockReason_8 rfl ?_
      refine s_out hN cx hp dL_blockReason_9 (fun H locs hp => ?_)
      refine lv_goto (tgt := 17) hx hb dL_blockReason_10 (by decide) ?_
      refine lv_iconst (v := 0) hx hb dL_blockReason_17 (by decide) ?_
      exact r_i cx hp ⟨by decide, rfl⟩ dL_blockReason_18
theorem cwS_L_blockReason {p : Program} {R : Room} {s : State} {m : MethodId} {args : Array Value} {meth : Method} {c : Code} {E : Ev} {cc : ByteArray} {nL : Nat} {ret : Option FieldType} (cx : Cx E p s m meth c args RL cc nL ret) (hR : rm_L_blockReason.frames + 1 ≤ R.frames ∧ 8 + (5 + 11) + rm_L_blockReason.locals ≤ R.locals) : vx_CSW R s args RL 238 yL_blockReason cL_blockReason 5 (some .int) [(0, 10, 13, 24)] (wW yL_blockReason cL_blockReason 5 (some .int) [(0, 10, 13, 24)]) rm_L_blockReason 2 12 4 := vx_cwSW 4 cx.1.2.2.2.2 (gd_SW qM_L_238 qT_L_blockReason qN_L qW_L_blockReason) rfl rfl rfl (by decide +kernel) hR
theorem qW_L_allocatedStall : Cond.codeWith yL_allocatedStall cL_allocatedStall 4 (some .int) [(0, 9, 12, 24)] ∈ TB := tb_of 1220 (by decide +kernel) (by decide +kernel)
abbrev rm_L_allocatedStall : Room := { frames := 8, cells := 1, slots := 6, locals := 135 }
set_option maxRecDepth 100000 in
set_option maxHeartbeats 4000000 in
theorem c_L_allocatedStall (l : Launch) {E : Ev} (hN : 147 ≤ eN E) (hT : St E) (hlf : l.stackTraces = false) (hC : NC E) {σ σ' : SM} {p1 : Int32} {z : Nat ⊕ (Int32 × SM)} {rv : Int32} (hf : f_X12_allocatedStall p1 σ = some z) (hz : HM oI [2] z σ rv σ') : Met l yL_allocatedStall (wW yL_allocatedStall cL_allocatedStall 4 (some .int) [(0, 9, 12, 24)]) rm_L_allocatedStall (va_Pc [.ref (adr E 19 0), .int p1, .ref (adr E 21 0)] (Wu E σ)) (va_Qi (fun r u => rv = r ∧ σ' = u) (fun u t => Wu E u t) (eA E)) 1 6 (eA E) := by
  refine gW_entry (lv := [(0, .ref (adr E 19 0)), (1, .int p1), (2, .ref (adr E 21 0))]) (by decide) (Nat.le_of_ble_eq_true rfl) rfl ?_
  intro p e s m below meth c cx hxt hp ls hl
  have hx := cx.1.1
  have hb := cx.1.2.1
  refine lv_aload_n hx hb dL_allocatedStall_0 rfl (lv_at hl 2 rfl) ?_
  refine lv_iconst (v := 0) hx hb dL_allocatedStall_1 (by decide) ?_
  refine lv_aload_n hx hb dL_allocatedStall_2 rfl (lv_at hl 0 rfl) ?_
  refine lv_iload_n hx hb dL_allocatedStall_3 rfl (lv_at hl 1 rfl) ?_
  refine hx_i cx hp (yx_V (As := [.int p1]) (rest := [.int 0, .ref (adr E 21 0)]) cx hp hl (c_X12_allocatedStall l (Nat.le_trans (by decide) hN) hT hlf hf) (cw_L_77 cx (mc := 1) (ms := 6) rfl rfl ⟨by decide, by decide⟩) (rC_X12 (Nat.le_trans (by decide) hN) cx hp) rfl rfl (Nat.le_of_ble_eq_true rfl) dL_allocatedStall_4 ⟨by decide, by decide⟩) (fun k H locs ce q hk hp h1 h2 h3 => ?_) (fun r u H locs hq hp => ?_)
  · rcases hz with ⟨j, k', hj, hz, rfl, rfl⟩ | ⟨r, τ, hz, -, -⟩
    · obtain rfl : k' = k := Sum.inl.inj (hz.symm.trans hk)
      rcases j with _ | j
      · obtain rfl : 2 = k' := Option.some.inj hj
        refine vx_catch cx.1.2.2.2.1 [] ⟨0, 9, 12, 24⟩ [] hxt (fun _ h => absurd h List.not_mem_nil) rfl (by decide) (cx.1.2.2.2.2 _ qK_L_24) (va_Nw.use (nb_tab qX_java_lang_IndexOutOfBoundsException_java_lang_IndexOutOfBoundsException) (cx.2.2.1.2.2.1 _ qX_java_lang_IndexOutOfBoundsException_java_lang_IndexOutOfBoundsException)) h1 h2 h3 ?_
        refine lv_astore_n (lv' := [(3, .ref q), (0, .ref (adr E 19 0)), (1, .int p1), (2, .ref (adr E 21 0))]) hx hb dL_allocatedStall_12 rfl hl (by decide) rfl (fun ls hl => ?_)
        refine lv_iconst (v := 1) hx hb dL_allocatedStall_13 (by decide) ?_
        exact r_i cx hp ⟨by decide, rfl⟩ dL_allocatedStall_14
      · exact absurd hj (by simp)
    · exact absurd (hz.symm.trans hk) (fun h9 => by cases h9)
  · rcases hz with ⟨j, k', hj, hz, -, -⟩ | ⟨r', τ, hz, rfl, rfl⟩
    · exact absurd (hz.symm.trans hq) (fun h9 => by cases h9)
    · obtain ⟨rfl, rfl⟩ := Prod.mk.inj (Sum.inr.inj (hz.symm.trans hq))
      refine lv_i2l hx hb dL_allocatedStall_7 rfl ?_
      refine s_out hN cx hp dL_allocatedStall_8 (fun H locs hp => ?_)
      refine lv_goto (tgt := 15) hx hb dL_allocatedStall_9 (by decide) ?_
      refine lv_iconst (v := 0) hx hb dL_allocatedStall_15 (by decide) ?_
      exact r_i cx hp ⟨by decide, rfl⟩ dL_allocatedStall_16
theorem cwS_L_allocatedStall {p : Program} {R : Room} {s : State} {m : MethodId} {args : Array Value} {meth : Method} {c : Code} {E : Ev} {cc : ByteArray} {nL : Nat} {ret : Option FieldType} (cx : Cx E p s m meth c args RL cc nL ret) (hR : rm_L_allocatedStall.frames + 1 ≤ R.frames ∧ 8 + (4 + 11) + rm_L_allocatedStall.locals ≤ R.locals) : vx_CSW R s args RL 241 yL_allocatedStall cL_allocatedStall 4 (some .int) [(0, 9, 12, 24)] (wW yL_allocatedStall cL_allocatedStall 4 (some .int) [(0, 9, 12, 24)]) rm_L_allocatedStall 1 6 3 := vx_cwSW 3 cx.1.2.2.2.2 (gd_SW qM_L_241 qT_L_allocatedStall qN_L qW_L_allocatedStall) rfl rfl rfl (by decide +kernel) hR
theorem qW_L_allocatedIfFirst : Cond.codeWith yL_allocatedIfFirst cL_allocatedIfFirst 4 (some .int) [(0, 9, 12, 24)] ∈ TB := tb_of 1227 (by decide +kernel) (by decide +kernel)
abbrev rm_L_allocatedIfFirst : Room := { frames := 8, cells := 1, slots := 6, locals := 135 }
set_option maxRecDepth 100000 in
set_option maxHeartbeats 4000000 in
theorem c_L_allocatedIfFirst (l : Launch) {E : Ev} (hN : 147 ≤ eN E) (hT : St E) (hlf : l.stackTraces = false) (hC : NC E) {σ σ' : SM} {p1 : Int32} {z : Nat ⊕ (Int32 × SM)} {rv : Int32} (hf : f_X12_allocatedIfFirst p1 σ = some z) (hz : HM oI [2] z σ rv σ') : Met l yL_allocatedIfFirst (wW yL_allocatedIfFirst cL_allocatedIfFirst 4 (some .int) [(0, 9, 12, 24)]) rm_L_allocatedIfFirst (va_Pc [.ref (adr E 19 0), .int p1, .ref (adr E 21 0)] (Wu E σ)) (va_Qi (fun r u => rv = r ∧ σ' = u) (fun u t => Wu E u t) (eA E)) 1 6 (eA E) := by
  refine gW_entry (lv := [(0, .ref (adr E 19 0)), (1, .int p1), (2, .ref (adr E 21 0))]) (by decide) (Nat.le_of_ble_eq_true rfl) rfl ?_
  intro p e s m below meth c cx hxt hp ls hl
  have hx := cx.1.1
  have hb := cx.1.2.1
  refine lv_aload_n hx hb dL_allocatedIfFirst_0 rfl (lv_at hl 2 rfl) ?_
  refine lv_iconst (v := 0) hx hb dL_allocatedIfFirst_1 (by decide) ?_
  refine lv_aload_n hx hb dL_allocatedIfFirst_2 rfl (lv_at hl 0 rfl) ?_
  refine lv_iload_n hx hb dL_allocatedIfFirst_3 rfl (lv_at hl 1 rfl) ?_
  refine hx_i cx hp (yx_V (As := [.int p1]) (rest := [.int 0, .ref (adr E 21 0)]) cx hp hl (c_X12_allocatedIfFirst l (Nat.le_trans (by decide) hN) hT hlf hf) (cw_L_80 cx (mc := 1) (ms := 6) rfl rfl ⟨by decide, by decide⟩) (rC_X12 (Nat.le_trans (by decide) hN) cx hp) rfl rfl (Nat.le_of_ble_eq_true rfl) dL_allocatedIfFirst_4 ⟨by decide, by decide⟩) (fun k H locs ce q hk hp h1 h2 h3 => ?_) (fun r u H locs hq hp => ?_)
  · rcases hz with ⟨j, k', hj, hz, rfl, rfl⟩ | ⟨r, τ, hz, -, -⟩
    · obtain rfl : k' = k := Sum.inl.inj (hz.symm.trans hk)
      rcases j with _ | j
      · obtain rfl : 2 = k' := Option.some.inj hj
        refine vx_catch cx.1.2.2.2.1 [] ⟨0, 9, 12, 24⟩ [] hxt (fun _ h => absurd h List.not_mem_nil) rfl (by decide) (cx.1.2.2.2.2 _ qK_L_24) (va_Nw.use (nb_tab qX_java_lang_IndexOutOfBoundsException_java_lang_IndexOutOfBoundsException) (cx.2.2.1.2.2.1 _ qX_java_lang_IndexOutOfBoundsException_java_lang_IndexOutOfBoundsException)) h1 h2 h3 ?_
        refine lv_astore_n (lv' := [(3, .ref q), (0, .ref (adr E 19 0)), (1, .int p1), (2, .ref (adr E 21 0))]) hx hb dL_allocatedIfFirst_12 rfl hl (by decide) rfl (fun ls hl => ?_)
        refine lv_iconst (v := 1) hx hb dL_allocatedIfFirst_13 (by decide) ?_
        exact r_i cx hp ⟨by decide, rfl⟩ dL_allocatedIfFirst_14
      · exact absurd hj (by simp)
    · exact absurd (hz.symm.trans hk) (fun h9 => by cases h9)
  · rcases hz with ⟨j, k', hj, hz, -, -⟩ | ⟨r', τ, hz, rfl, rfl⟩
    · exact absurd (hz.symm.trans hq) (fun h9 => by cases h9)
    · obtain ⟨rfl, rfl⟩ := Prod.mk.inj (Sum.inr.inj (hz.symm.trans hq))
      refine lv_i2l hx hb dL_allocatedIfFirst_7 rfl ?_
      refine s_out hN cx hp dL_allocatedIfFirst_8 (fun H locs hp => ?_)
      refine lv_goto (tgt := 15) hx hb dL_allocatedIfFirst_9 (by decide) ?_
      refine lv_iconst (v := 0) hx hb dL_allocatedIfFirst_15 (by decide) ?_
      exact r_i cx hp ⟨by decide, rfl⟩ dL_allocatedIfFirst_16
theorem cwS_L_allocatedIfFirst {p : Program} {R : Room} {s : State} {m : MethodId} {args : Array Value} {meth : Method} {c : Code} {E : Ev} {cc : ByteArray} {nL : Nat} {ret : Option FieldType} (cx : Cx E p s m meth c args RL cc nL ret) (hR : rm_L_allocatedIfFirst.frames + 1 ≤ R.frames ∧ 8 + (4 + 11) + rm_L_allocatedIfFirst.locals ≤ R.locals) : vx_CSW R s args RL 244 yL_allocatedIfFirst cL_allocatedIfFirst 4 (some .int) [(0, 9, 12, 24)] (wW yL_allocatedIfFirst cL_allocatedIfFirst 4 (some .int) [(0, 9, 12, 24)]) rm_L_allocatedIfFirst 1 6 3 := vx_cwSW 3 cx.1.2.2.2.2 (gd_SW qM_L_244 qT_L_allocatedIfFirst qN_L qW_L_allocatedIfFirst) rfl rfl rfl (by decide +kernel) hR
theorem qW_L_allocatedIfReported : Cond.codeWith yL_allocatedIfReported cL_allocatedIfReported 5 (some .int) [(0, 10, 13, 24)] ∈ TB := tb_of 1239 (by decide +kernel) (by decide +kernel)
abbrev rm_L_allocatedIfReported : Room := { frames := 8, cells := 2, slots := 12, locals := 136 }
set_option maxRecDepth 100000 in
set_option maxHeartbeats 4000000 in
theorem c_L_allocatedIfReported (l : Launch) {E : Ev} (hN : 147 ≤ eN E) (hT : St E) (hlf : l.stackTraces = false) (hC : NC E) {σ σ' : SM} {p1 : Int32} {p2 : Int32} {z : Nat ⊕ (Int32 × SM)} {rv : Int32} (hf : f_X12_allocatedIfReported p1 p2 σ = some z) (hz : HM oI [2] z σ rv σ') : Met l yL_allocatedIfReported (wW yL_allocatedIfReported cL_allocatedIfReported 5 (some .int) [(0, 10, 13, 24)]) rm_L_allocatedIfReported (va_Pc [.ref (adr E 19 0), .int p1, .int p2, .ref (adr E 21 0)] (Wu E σ)) (va_Qi (fun r u => rv = r ∧ σ' = u) (fun u t => Wu E u t) (eA E)) 2 12 (eA E) := by
  refine gW_entry (lv := [(0, .ref (adr E 19 0)), (1, .int p1), (2, .int p2), (3, .ref (adr E 21 0))]) (by decide) (Nat.le_of_ble_eq_true rfl) rfl ?_
  intro p e s m below meth c cx hxt hp ls hl
  have hx := cx.1.1
  have hb := cx.1.2.1
  refine lv_aload_n hx hb dL_allocatedIfReported_0 rfl (lv_at hl 3 rfl) ?_
  refine lv_iconst (v := 0) hx hb dL_allocatedIfReported_1 (by decide) ?_
  refine lv_aload_n hx hb dL_allocatedIfReported_2 rfl (lv_at hl 0 rfl) ?_
  refine lv_iload_n hx hb dL_allocatedIfReported_3 rfl (lv_at hl 1 rfl) ?_
  refine lv_iload_n hx hb dL_allocatedIfReported_4 rfl (lv_at hl 2 rfl) ?_
  refine hx_i cx hp (yx_V (As := [.int p1, .int p2]) (rest := [.int 0, .ref (adr E 21 0)]) cx hp hl (c_X12_allocatedIfReported l (Nat.le_trans (by decide) hN) hT hlf hf) (cw_L_83 cx (mc := 2) (ms := 12) rfl rfl ⟨by decide, by decide⟩) (rC_X12 (Nat.le_trans (by decide) hN) cx hp) rfl rfl (Nat.le_of_ble_eq_true rfl) dL_allocatedIfReported_5 ⟨by decide, by decide⟩) (fun k H locs ce q hk hp h1 h2 h3 => ?_) (fun r u H locs hq hp => ?_)
  · rcases hz with ⟨j, k', hj, hz, rfl, rfl⟩ | ⟨r, τ, hz, -, -⟩
    · obtain rfl : k' = k := Sum.inl.inj (hz.symm.trans hk)
      rcases j with _ | j
      · obtain rfl : 2 = k' := Option.some.inj hj
        refine vx_catch cx.1.2.2.2.1 [] ⟨0, 10, 13, 24⟩ [] hxt (fun _ h => absurd h List.not_mem_nil) rfl (by decide) (cx.1.2.2.2.2 _ qK_L_24) (va_Nw.use (nb_tab qX_java_lang_IndexOutOfBoundsException_java_lang_IndexOutOfBoundsException) (cx.2.2.1.2.2.1 _ qX_java_lang_IndexOutOfBoundsException_java_lang_IndexOutOfBoundsException)) h1 h2 h3 ?_
        refine lv_astore (lv' := [(4, .ref q), (0, .ref (adr E 19 0)), (1, .int p1), (2, .int p2), (3, .ref (adr E 21 0))]) hx hb dL_allocatedIfReported_13 hl (by decide) rfl (fun ls hl => ?_)
        refine lv_iconst (v := 1) hx hb dL_allocatedIfReported_15 (by decide) ?_
        exact r_i cx hp ⟨by decide, rfl⟩ dL_allocatedIfReported_16
      · exact absurd hj (by simp)
    · exact absurd (hz.symm.trans hk) (fun h9 => by cases h9)
  · rcases hz with ⟨j, k', hj, hz, -, -⟩ | ⟨r', τ, hz, rfl, rfl⟩
    · exact absurd (hz.symm.trans hq) (fun h9 => by cases h9)
    · obtain ⟨rfl, rfl⟩ := Prod.mk.inj (Sum.inr.inj (hz.symm.trans hq))
      refine lv_i2l hx hb dL_allocatedIfReported_8 rfl ?_
      refine s_out hN cx hp dL_allocatedIfReported_9 (fun H locs hp => ?_)
      refine lv_goto (tgt := 17) hx hb dL_allocatedIfReported_10 (by decide) ?_
      refine lv_iconst (v := 0) hx hb dL_allocatedIfReported_17 (by decide) ?_
      exact r_i cx hp ⟨by decide, rfl⟩ dL_allocatedIfReported_18
theorem cwS_L_allocatedIfReported {p : Program} {R : Room} {s : State} {m : MethodId} {args : Array Value} {meth : Method} {c : Code} {E : Ev} {cc : ByteArray} {nL : Nat} {ret : Option FieldType} (cx : Cx E p s m meth c args RL cc nL ret) (hR : rm_L_allocatedIfReported.frames + 1 ≤ R.frames ∧ 8 + (5 + 11) + rm_L_allocatedIfReported.locals ≤ R.locals) : vx_CSW R s args RL 247 yL_allocatedIfReported cL_allocatedIfReported 5 (some .int) [(0, 10, 13, 24)] (wW yL_allocatedIfReported cL_allocatedIfReported 5 (some .int) [(0, 10, 13, 24)]) rm_L_allocatedIfReported 2 12 4 := vx_cwSW 4 cx.1.2.2.2.2 (gd_SW qM_L_247 qT_L_allocatedIfReported qN_L qW_L_allocatedIfReported) rfl rfl rfl (by decide +kernel) hR
theorem qW_L_daysUntilEviction : Cond.codeWith yL_daysUntilEviction cL_daysUntilEviction 4 (some .int) [(0, 9, 12, 24)] ∈ TB := tb_of 1247 (by decide +kernel) (by decide +kernel)
abbrev rm_L_daysUntilEviction : Room := { frames := 8, cells := 1, slots := 6, locals := 127 }
set_option maxRecDepth 100000 in
set_option maxHeartbeats 4000000 in
theorem c_L_daysUntilEviction (l : Launch) {E : Ev} (hN : 147 ≤ eN E) (hT : St E) (hlf : l.stackTraces = false) (hC : NC E) {σ σ' : SM} {p1 : Int32} {z : Nat ⊕ Int32} {rv : Int32} (hf : f_X12_daysUntilEviction p1 σ = some z) (hz : HX oI [2] z σ rv σ') : Met l yL_daysUntilEviction (wW yL_daysUntilEviction cL_daysUntilEviction 4 (some .int) [(0, 9, 12, 24)]) rm_L_daysUntilEviction (va_Pc [.ref (adr E 19 0), .int p1, .ref (adr E 21 0)] (Wu E σ)) (va_Qi (fun r u => rv = r ∧ σ' = u) (fun u t => Wu E u t) (eA E)) 1 6 (eA E) := by
  refine gW_entry (lv := [(0, .ref (adr E 19 0)), (1, .int p1), (2, .ref (adr E 21 0))]) (by decide) (Nat.le_of_ble_eq_true rfl) rfl ?_
  intro p e s m below meth c cx hxt hp ls hl
  have hx := cx.1.1
  have hb := cx.1.2.1
  refine lv_aload_n hx hb dL_daysUntilEviction_0 rfl (lv_at hl 2 rfl) ?_
  refine lv_iconst (v := 0) hx hb dL_daysUntilEviction_1 (by decide) ?_
  refine lv_aload_n hx hb dL_daysUntilEviction_2 rfl (lv_at hl 0 rfl) ?_
  refine lv_iload_n hx hb dL_daysUntilEviction_3 rfl (lv_at hl 1 rfl) ?_
  refine hx_i cx hp (yx_V (As := [.int p1]) (rest := [.int 0, .ref (adr E 21 0)]) cx hp hl (c_X12_daysUntilEviction l (Nat.le_trans (by decide) hN) hT hlf hf) (cw_L_86 cx (mc := 1) (ms := 6) rfl rfl ⟨by decide, by decide⟩) (rC_X12 (Nat.le_trans (by decide) hN) cx hp) rfl rfl (Nat.le_of_ble_eq_true rfl) dL_daysUntilEviction_4 ⟨by decide, by decide⟩) (fun k H locs ce q hk hp h1 h2 h3 => ?_) (fun r u H locs hq hp => ?_)
  · rcases hz with ⟨j, k', hj, hz, rfl, rfl⟩ | ⟨r, hz, -, -⟩
    · obtain rfl : k' = k := Sum.inl.inj (hz.symm.trans hk)
      rcases j with _ | j
      · obtain rfl : 2 = k' := Option.some.inj hj
        refine vx_catch cx.1.2.2.2.1 [] ⟨0, 9, 12, 24⟩ [] hxt (fun _ h => absurd h List.not_mem_nil) rfl (by decide) (cx.1.2.2.2.2 _ qK_L_24) (va_Nw.use (nb_tab qX_java_lang_IndexOutOfBoundsException_java_lang_IndexOutOfBoundsException) (cx.2.2.1.2.2.1 _ qX_java_lang_IndexOutOfBoundsException_java_lang_IndexOutOfBoundsException)) h1 h2 h3 ?_
        refine lv_astore_n (lv' := [(3, .ref q), (0, .ref (adr E 19 0)), (1, .int p1), (2, .ref (adr E 21 0))]) hx hb dL_daysUntilEviction_12 rfl hl (by decide) rfl (fun ls hl => ?_)
        refine lv_iconst (v := 1) hx hb dL_daysUntilEviction_13 (by decide) ?_
        exact r_i cx hp ⟨by decide, rfl⟩ dL_daysUntilEviction_14
      · exact absurd hj (by simp)
    · exact absurd (hz.symm.trans hk) (fun h9 => by cases h9)
  · rcases hz with ⟨j, k', hj, hz, -, -⟩ | ⟨r', hz, rfl, rfl⟩
    · exact absurd (hz.symm.trans hq.1) (fun h9 => by cases h9)
    · obtain ⟨hq, rfl⟩ := hq
      obtain rfl : r' = r := Sum.inr.inj (hz.symm.trans hq)
      refine lv_i2l hx hb dL_daysUntilEviction_7 rfl ?_
      refine s_out hN cx hp dL_daysUntilEviction_8 (fun H locs hp => ?_)
      refine lv_goto (tgt := 15) hx hb dL_daysUntilEviction_9 (by decide) ?_
      refine lv_iconst (v := 0) hx hb dL_daysUntilEviction_15 (by decide) ?_
      exact r_i cx hp ⟨by decide, rfl⟩ dL_daysUntilEviction_16
theorem cwS_L_daysUntilEviction {p : Program} {R : Room} {s : State} {m : MethodId} {args : Array Value} {meth : Method} {c : Code} {E : Ev} {cc : ByteArray} {nL : Nat} {ret : Option FieldType} (cx : Cx E p s m meth c args RL cc nL ret) (hR : rm_L_daysUntilEviction.frames + 1 ≤ R.frames ∧ 8 + (4 + 11) + rm_L_daysUntilEviction.locals ≤ R.locals) : vx_CSW R s args RL 262 yL_daysUntilEviction cL_daysUntilEviction 4 (some .int) [(0, 9, 12, 24)] (wW yL_daysUntilEviction cL_daysUntilEviction 4 (some .int) [(0, 9, 12, 24)]) rm_L_daysUntilEviction 1 6 3 := vx_cwSW 3 cx.1.2.2.2.2 (gd_SW qM_L_262 qT_L_daysUntilEviction qN_L qW_L_daysUntilEviction) rfl rfl rfl (by decide +kernel) hR
theorem qW_L_balanceAfter : Cond.codeWith yL_balanceAfter cL_balanceAfter 5 (some .int) [(0, 10, 13, 24), (0, 10, 17, 19)] ∈ TB := tb_of 1254 (by decide +kernel) (by decide +kernel)
abbrev rm_L_balanceAfter : Room := { frames := 8, cells := 2, slots := 12, locals := 128 }
set_option maxRecDepth 100000 in
set_option maxHeartbeats 4000000 in
theorem c_L_balanceAfter (l : Launch) {E : Ev} (hN : 147 ≤ eN E) (hT : St E) (hlf : l.stackTraces = false) (hC : NC E) {σ σ' : SM} {p1 : Int32} {p2 : Int32} {z : Nat ⊕ Int32} {rv : Int32} (hf : f_X12_balanceAfter p1 p2 σ = some z) (hz : HX oI [2, 1] z σ rv σ') : Met l yL_balanceAfter (wW yL_balanceAfter cL_balanceAfter 5 (some .int) [(0, 10, 13, 24), (0, 10, 17, 19)]) rm_L_balanceAfter (va_Pc [.ref (adr E 19 0), .int p1, .int p2, .ref (adr E 21 0)] (Wu E σ)) (va_Qi (fun r u => rv = r ∧ σ' = u) (fun u t => Wu E u t) (eA E)) 2 12 (eA E) := by
  refine gW_entry (lv := [(0, .ref (adr E 19 0)), (1, .int p1), (2, .int p2), (3, .ref (adr E 21 0))]) (by decide) (Nat.le_of_ble_eq_true rfl) rfl ?_
  intro p e s m below meth c cx hxt hp ls hl
  have hx := cx.1.1
  have hb := cx.1.2.1
  refine lv_aload_n hx hb dL_balanceAfter_0 rfl (lv_at hl 3 rfl) ?_
  refine lv_iconst (v := 0) hx hb dL_balanceAfter_1 (by decide) ?_
  refine lv_aload_n hx hb dL_balanceAfter_2 rfl (lv_at hl 0 rfl) ?_
  refine lv_iload_n hx hb dL_balanceAfter_3 rfl (lv_at hl 1 rfl) ?_
  refine lv_iload_n hx hb dL_balanceAfter_4 rfl (lv_at hl 2 rfl) ?_
  refine hx_i cx hp (yx_V (As := [.int p1, .int p2]) (rest := [.int 0, .ref (adr E 21 0)]) cx hp hl (c_X12_balanceAfter l (Nat.le_trans (by decide) hN) hT hlf hf) (cw_L_89 cx (mc := 2) (ms := 12) rfl rfl ⟨by decide, by decide⟩) (rC_X12 (Nat.le_trans (by decide) hN) cx hp) rfl rfl (Nat.le_of_ble_eq_true rfl) dL_balanceAfter_5 ⟨by decide, by decide⟩) (fun k H locs ce q hk hp h1 h2 h3 => ?_) (fun r u H locs hq hp => ?_)
  · rcases hz with ⟨j, k', hj, hz, rfl, rfl⟩ | ⟨r, hz, -, -⟩
    · obtain rfl : k' = k := Sum.inl.inj (hz.symm.trans hk)
      rcases j with _ | _ | j
      · obtain rfl : 2 = k' := Option.some.inj hj
        refine vx_catch cx.1.2.2.2.1 [] ⟨0, 10, 13, 24⟩ [⟨0, 10, 17, 19⟩] hxt (fun _ h => absurd h List.not_mem_nil) rfl (by decide) (cx.1.2.2.2.2 _ qK_L_24) (va_Nw.use (nb_tab qX_java_lang_IndexOutOfBoundsException_java_lang_IndexOutOfBoundsException) (cx.2.2.1.2.2.1 _ qX_java_lang_IndexOutOfBoundsException_java_lang_IndexOutOfBoundsException)) h1 h2 h3 ?_
        refine lv_astore (lv' := [(4, .ref q), (0, .ref (adr E 19 0)), (1, .int p1), (2, .int p2), (3, .ref (adr E 21 0))]) hx hb dL_balanceAfter_13 hl (by decide) rfl (fun ls hl => ?_)
        refine lv_iconst (v := 1) hx hb dL_balanceAfter_15 (by decide) ?_
        exact r_i cx hp ⟨by decide, rfl⟩ dL_balanceAfter_16
      · obtain rfl : 1 = k' := Option.some.inj hj
        refine vx_catch cx.1.2.2.2.1 [⟨0, 10, 13, 24⟩] ⟨0, 10, 17, 19⟩ [] hxt (fun z9 hz9 => by cases List.mem_singleton.mp hz9; exact Or.inr ⟨by decide, _, cx.1.2.2.2.2 _ qK_L_24, va_Nc.moved cx.2.2.1.1 hC.2.1⟩) rfl (by decide) (cx.1.2.2.2.2 _ qK_L_19) (va_Nw.use (nb_tab qX_java_lang_IllegalArgumentException_java_lang_IllegalArgumentException) (cx.2.2.1.2.2.1 _ qX_java_lang_IllegalArgumentException_java_lang_IllegalArgumentException)) h1 h2 h3 ?_
        refine lv_astore (lv' := [(4, .ref q), (0, .ref (adr E 19 0)), (1, .int p1), (2, .int p2), (3, .ref (adr E 21 0))]) hx hb dL_balanceAfter_17 hl (by decide) rfl (fun ls hl => ?_)
        refine lv_iconst (v := 2) hx hb dL_balanceAfter_19 (by decide) ?_
        exact r_i cx hp ⟨by decide, rfl⟩ dL_balanceAfter_20
      · exact absurd hj (by simp)
    · exact absurd (hz.symm.trans hk) (fun h9 => by cases h9)
  · rcases hz with ⟨j, k', hj, hz, -, -⟩ | ⟨r', hz, rfl, rfl⟩
    · exact absurd (hz.symm.trans hq.1) (fun h9 => by cases h9)
    · obtain ⟨hq, rfl⟩ := hq
      obtain rfl : r' = r := Sum.inr.inj (hz.symm.trans hq)
      refine lv_i2l hx hb dL_balanceAfter_8 rfl ?_
      refine s_out hN cx hp dL_balanceAfter_9 (fun H locs hp => ?_)
      refine lv_goto (tgt := 21) hx hb dL_balanceAfter_10 (by decide) ?_
      refine lv_iconst (v := 0) hx hb dL_balanceAfter_21 (by decide) ?_
      exact r_i cx hp ⟨by decide, rfl⟩ dL_balanceAfter_22
theorem cwS_L_balanceAfter {p : Program} {R : Room} {s : State} {m : MethodId} {args : Array Value} {meth : Method} {c : Code} {E : Ev} {cc : ByteArray} {nL : Nat} {ret : Option FieldType} (cx : Cx E p s m meth c args RL cc nL ret) (hR : rm_L_balanceAfter.frames + 1 ≤ R.frames ∧ 8 + (5 + 11) + rm_L_balanceAfter.locals ≤ R.locals) : vx_CSW R s args RL 265 yL_balanceAfter cL_balanceAfter 5 (some .int) [(0, 10, 13, 24), (0, 10, 17, 19)] (wW yL_balanceAfter cL_balanceAfter 5 (some .int) [(0, 10, 13, 24), (0, 10, 17, 19)]) rm_L_balanceAfter 2 12 4 := vx_cwSW 4 cx.1.2.2.2.2 (gd_SW qM_L_265 qT_L_balanceAfter qN_L qW_L_balanceAfter) rfl rfl rfl (by decide +kernel) hR
theorem qW_L_assign : Cond.codeWith yL_assign cL_assign 5 (some .int) [(0, 10, 13, 24), (0, 10, 17, 13)] ∈ TB := tb_of 1262 (by decide +kernel) (by decide +kernel)
abbrev rm_L_assign : Room := { frames := 8, cells := 3, slots := 18, locals := 126 }
set_option maxRecDepth 100000 in
set_option maxHeartbeats 4000000 in
theorem c_L_assign (l : Launch) {E : Ev} (hN : 147 ≤ eN E) (hT : St E) (hlf : l.stackTraces = false) (hC : NC E) {σ σ' : SM} {p1 : Int32} {p2 : Int32} {z : Nat ⊕ (Int32 × SM)} {rv : Int32} (hf : f_X12_assign p1 p2 σ = some z) (hz : HM oI [2, 0] z σ rv σ') : Met l yL_assign (wW yL_assign cL_assign 5 (some .int) [(0, 10, 13, 24), (0, 10, 17, 13)]) rm_L_assign (va_Pc [.ref (adr E 19 0), .int p1, .int p2, .ref (adr E 21 0)] (Wu E σ)) (va_Qi (fun r u => rv = r ∧ σ' = u) (fun u t => Wu E u t) (eA E)) 3 18 (eA E) := by
  refine gW_entry (lv := [(0, .ref (adr E 19 0)), (1, .int p1), (2, .int p2), (3, .ref (adr E 21 0))]) (by decide) (Nat.le_of_ble_eq_true rfl) rfl ?_
  intro p e s m below meth c cx hxt hp ls hl
  have hx := cx.1.1
  have hb := cx.1.2.1
  refine lv_aload_n hx hb dL_assign_0 rfl (lv_at hl 3 rfl) ?_
  refine lv_iconst (v := 0) hx hb dL_assign_1 (by decide) ?_
  refine lv_aload_n hx hb dL_assign_2 rfl (lv_at hl 0 rfl) ?_
  refine lv_iload_n hx hb dL_assign_3 rfl (lv_at hl 1 rfl) ?_
  refine lv_iload_n hx hb dL_assign_4 rfl (lv_at hl 2 rfl) ?_
  refine hx_i cx hp (yx_V (As := [.int p1, .int p2]) (rest := [.int 0, .ref (adr E 21 0)]) cx hp hl (c_X12_assign l (Nat.le_trans (by decide) hN) hT hlf hf) (cw_L_92 cx (mc := 3) (ms := 18) rfl rfl ⟨by decide, by decide⟩) (rC_X12 (Nat.le_trans (by decide) hN) cx hp) rfl rfl (Nat.le_of_ble_eq_true rfl) dL_assign_5 ⟨by decide, by decide⟩) (fun k H locs ce q hk hp h1 h2 h3 => ?_) (fun r u H locs hq hp => ?_)
  · rcases hz with ⟨j, k', hj, hz, rfl, rfl⟩ | ⟨r, τ, hz, -, -⟩
    · obtain rfl : k' = k := Sum.inl.inj (hz.symm.trans hk)
      rcases j with _ | _ | j
      · obtain rfl : 2 = k' := Option.some.inj hj
        refine vx_catch cx.1.2.2.2.1 [] ⟨0, 10, 13, 24⟩ [⟨0, 10, 17, 13⟩] hxt (fun _ h => absurd h List.not_mem_nil) rfl (by decide) (cx.1.2.2.2.2 _ qK_L_24) (va_Nw.use (nb_tab qX_java_lang_IndexOutOfBoundsException_java_lang_IndexOutOfBoundsException) (cx.2.2.1.2.2.1 _ qX_java_lang_IndexOutOfBoundsException_java_lang_IndexOutOfBoundsException)) h1 h2 h3 ?_
        refine lv_astore (lv' := [(4, .ref q), (0, .ref (adr E 19 0)), (1, .int p1), (2, .int p2), (3, .ref (adr E 21 0))]) hx hb dL_assign_13 hl (by decide) rfl (fun ls hl => ?_)
        refine lv_iconst (v := 1) hx hb dL_assign_15 (by decide) ?_
        exact r_i cx hp ⟨by decide, rfl⟩ dL_assign_16
      · obtain rfl : 0 = k' := Option.some.inj hj
        refine vx_catch cx.1.2.2.2.1 [⟨0, 10, 13, 24⟩] ⟨0, 10, 17, 13⟩ [] hxt (fun z9 hz9 => by cases List.mem_singleton.mp hz9; exact Or.inr ⟨by decide, _, cx.1.2.2.2.2 _ qK_L_24, va_Nc.moved cx.2.2.1.1 hC.1⟩) rfl (by decide) (cx.1.2.2.2.2 _ qK_L_13) (va_Nw.use (nb_tab qX_java_lang_IllegalStateException_java_lang_IllegalStateException) (cx.2.2.1.2.2.1 _ qX_java_lang_IllegalStateException_java_lang_IllegalStateException)) h1 h2 h3 ?_
        refine lv_astore (lv' := [(4, .ref q), (0, .ref (adr E 19 0)), (1, .int p1), (2, .int p2), (3, .ref (adr E 21 0))]) hx hb dL_assign_17 hl (by decide) rfl (fun ls hl => ?_)
        refine lv_iconst (v := 2) hx hb dL_assign_19 (by decide) ?_
        exact r_i cx hp ⟨by decide, rfl⟩ dL_assign_20
      · exact absurd hj (by simp)
    · exact absurd (hz.symm.trans hk) (fun h9 => by cases h9)
  · rcases hz with ⟨j, k', hj, hz, -, -⟩ | ⟨r', τ, hz, rfl, rfl⟩
    · exact absurd (hz.symm.trans hq) (fun h9 => by cases h9)
    · obtain ⟨rfl, rfl⟩ := Prod.mk.inj (Sum.inr.inj (hz.symm.trans hq))
      refine lv_i2l hx hb dL_assign_8 rfl ?_
      refine s_out hN cx hp dL_assign_9 (fun H locs hp => ?_)
      refine lv_goto (tgt := 21) hx hb dL_assign_10 (by decide) ?_
      refine lv_iconst (v := 0) hx hb dL_assign_21 (by decide) ?_
      exact r_i cx hp ⟨by decide, rfl⟩ dL_assign_22
theorem cwS_L_assign {p : Program} {R : Room} {s : State} {m : MethodId} {args : Array Value} {meth : Method} {c : Code} {E : Ev} {cc : ByteArray} {nL : Nat} {ret : Option FieldType} (cx : Cx E p s m meth c args RL cc nL ret) (hR : rm_L_assign.frames + 1 ≤ R.frames ∧ 8 + (5 + 11) + rm_L_assign.locals ≤ R.locals) : vx_CSW R s args RL 298 yL_assign cL_assign 5 (some .int) [(0, 10, 13, 24), (0, 10, 17, 13)] (wW yL_assign cL_assign 5 (some .int) [(0, 10, 13, 24), (0, 10, 17, 13)]) rm_L_assign 3 18 4 := vx_cwSW 4 cx.1.2.2.2.2 (gd_SW qM_L_298 qT_L_assign qN_L qW_L_assign) rfl rfl rfl (by decide +kernel) hR
theorem qW_L_vacate : Cond.codeWith yL_vacate cL_vacate 4 (some .int) [(0, 9, 12, 24), (0, 9, 15, 13)] ∈ TB := tb_of 1272 (by decide +kernel) (by decide +kernel)
abbrev rm_L_vacate : Room := { frames := 8, cells := 2, slots := 12, locals := 125 }
set_option maxRecDepth 100000 in
set_option maxHeartbeats 4000000 in
theorem c_L_vacate (l : Launch) {E : Ev} (hN : 147 ≤ eN E) (hT : St E) (hlf : l.stackTraces = false) (hC : NC E) {σ σ' : SM} {p1 : Int32} {z : Nat ⊕ (Int32 × SM)} {rv : Int32} (hf : f_X12_vacate p1 σ = some z) (hz : HM oI [2, 0] z σ rv σ') : Met l yL_vacate (wW yL_vacate cL_vacate 4 (some .int) [(0, 9, 12, 24), (0, 9, 15, 13)]) rm_L_vacate (va_Pc [.ref (adr E 19 0), .int p1, .ref (adr E 21 0)] (Wu E σ)) (va_Qi (fun r u => rv = r ∧ σ' = u) (fun u t => Wu E u t) (eA E)) 2 12 (eA E) := by
  refine gW_entry (lv := [(0, .ref (adr E 19 0)), (1, .int p1), (2, .ref (adr E 21 0))]) (by decide) (Nat.le_of_ble_eq_true rfl) rfl ?_
  intro p e s m below meth c cx hxt hp ls hl
  have hx := cx.1.1
  have hb := cx.1.2.1
  refine lv_aload_n hx hb dL_vacate_0 rfl (lv_at hl 2 rfl) ?_
  refine lv_iconst (v := 0) hx hb dL_vacate_1 (by decide) ?_
  refine lv_aload_n hx hb dL_vacate_2 rfl (lv_at hl 0 rfl) ?_
  refine lv_iload_n hx hb dL_vacate_3 rfl (lv_at hl 1 rfl) ?_
  refine hx_i cx hp (yx_V (As := [.int p1]) (rest := [.int 0, .ref (adr E 21 0)]) cx hp hl (c_X12_vacate l (Nat.le_trans (by decide) hN) hT hlf hf) (cw_L_95 cx (mc := 2) (ms := 12) rfl rfl ⟨by decide, by decide⟩) (rC_X12 (Nat.le_trans (by decide) hN) cx hp) rfl rfl (Nat.le_of_ble_eq_true rfl) dL_vacate_4 ⟨by decide, by decide⟩) (fun k H locs ce q hk hp h1 h2 h3 => ?_) (fun r u H locs hq hp => ?_)
  · rcases hz with ⟨j, k', hj, hz, rfl, rfl⟩ | ⟨r, τ, hz, -, -⟩
    · obtain rfl : k' = k := Sum.inl.inj (hz.symm.trans hk)
      rcases j with _ | _ | j
      · obtain rfl : 2 = k' := Option.some.inj hj
        refine vx_catch cx.1.2.2.2.1 [] ⟨0, 9, 12, 24⟩ [⟨0, 9, 15, 13⟩] hxt (fun _ h => absurd h List.not_mem_nil) rfl (by decide) (cx.1.2.2.2.2 _ qK_L_24) (va_Nw.use (nb_tab qX_java_lang_IndexOutOfBoundsException_java_lang_IndexOutOfBoundsException) (cx.2.2.1.2.2.1 _ qX_java_lang_IndexOutOfBoundsException_java_lang_IndexOutOfBoundsException)) h1 h2 h3 ?_
        refine lv_astore_n (lv' := [(3, .ref q), (0, .ref (adr E 19 0)), (1, .int p1), (2, .ref (adr E 21 0))]) hx hb dL_vacate_12 rfl hl (by decide) rfl (fun ls hl => ?_)
        refine lv_iconst (v := 1) hx hb dL_vacate_13 (by decide) ?_
        exact r_i cx hp ⟨by decide, rfl⟩ dL_vacate_14
      · obtain rfl : 0 = k' := Option.some.inj hj
        refine vx_catch cx.1.2.2.2.1 [⟨0, 9, 12, 24⟩] ⟨0, 9, 15, 13⟩ [] hxt (fun z9 hz9 => by cases List.mem_singleton.mp hz9; exact Or.inr ⟨by decide, _, cx.1.2.2.2.2 _ qK_L_24, va_Nc.moved cx.2.2.1.1 hC.1⟩) rfl (by decide) (cx.1.2.2.2.2 _ qK_L_13) (va_Nw.use (nb_tab qX_java_lang_IllegalStateException_java_lang_IllegalStateException) (cx.2.2.1.2.2.1 _ qX_java_lang_IllegalStateException_java_lang_IllegalStateException)) h1 h2 h3 ?_
        refine lv_astore_n (lv' := [(3, .ref q), (0, .ref (adr E 19 0)), (1, .int p1), (2, .ref (adr E 21 0))]) hx hb dL_vacate_15 rfl hl (by decide) rfl (fun ls hl => ?_)
        refine lv_iconst (v := 2) hx hb dL_vacate_16 (by decide) ?_
        exact r_i cx hp ⟨by decide, rfl⟩ dL_vacate_17
      · exact absurd hj (by simp)
    · exact absurd (hz.symm.trans hk) (fun h9 => by cases h9)
  · rcases hz with ⟨j, k', hj, hz, -, -⟩ | ⟨r', τ, hz, rfl, rfl⟩
    · exact absurd (hz.symm.trans hq) (fun h9 => by cases h9)
    · obtain ⟨rfl, rfl⟩ := Prod.mk.inj (Sum.inr.inj (hz.symm.trans hq))
      refine lv_i2l hx hb dL_vacate_7 rfl ?_
      refine s_out hN cx hp dL_vacate_8 (fun H locs hp => ?_)
      refine lv_goto (tgt := 18) hx hb dL_vacate_9 (by decide) ?_
      refine lv_iconst (v := 0) hx hb dL_vacate_18 (by decide) ?_
      exact r_i cx hp ⟨by decide, rfl⟩ dL_vacate_19
theorem cwS_L_vacate {p : Program} {R : Room} {s : State} {m : MethodId} {args : Array Value} {meth : Method} {c : Code} {E : Ev} {cc : ByteArray} {nL : Nat} {ret : Option FieldType} (cx : Cx E p s m meth c args RL cc nL ret) (hR : rm_L_vacate.frames + 1 ≤ R.frames ∧ 8 + (4 + 11) + rm_L_vacate.locals ≤ R.locals) : vx_CSW R s args RL 301 yL_vacate cL_vacate 4 (some .int) [(0, 9, 12, 24), (0, 9, 15, 13)] (wW yL_vacate cL_vacate 4 (some .int) [(0, 9, 12, 24), (0, 9, 15, 13)]) rm_L_vacate 2 12 3 := vx_cwSW 3 cx.1.2.2.2.2 (gd_SW qM_L_301 qT_L_vacate qN_L qW_L_vacate) rfl rfl rfl (by decide +kernel) hR
theorem qW_L_swap : Cond.codeWith yL_swap cL_swap 5 (some .int) [(0, 10, 13, 24), (0, 10, 17, 13)] ∈ TB := tb_of 1280 (by decide +kernel) (by decide +kernel)
abbrev rm_L_swap : Room := { frames := 8, cells := 3, slots := 18, locals := 136 }
set_option maxRecDepth 100000 in
set_option maxHeartbeats 4000000 in
theorem c_L_swap (l : Launch) {E : Ev} (hN : 147 ≤ eN E) (hT : St E) (hlf : l.stackTraces = false) (hC : NC E) {σ σ' : SM} {p1 : Int32} {p2 : Int32} {z : Nat ⊕ (Int32 × SM)} {rv : Int32} (hf : f_X12_swap p1 p2 σ = some z) (hz : HM oI [2, 0] z σ rv σ') : Met l yL_swap (wW yL_swap cL_swap 5 (some .int) [(0, 10, 13, 24), (0, 10, 17, 13)]) rm_L_swap (va_Pc [.ref (adr E 19 0), .int p1, .int p2, .ref (adr E 21 0)] (Wu E σ)) (va_Qi (fun r u => rv = r ∧ σ' = u) (fun u t => Wu E u t) (eA E)) 3 18 (eA E) := by
  refine gW_entry (lv := [(0, .ref (adr E 19 0)), (1, .int p1), (2, .int p2), (3, .ref (adr E 21 0))]) (by decide) (Nat.le_of_ble_eq_true rfl) rfl ?_
  intro p e s m below meth c cx hxt hp ls hl
  have hx := cx.1.1
  have hb := cx.1.2.1
  refine lv_aload_n hx hb dL_swap_0 rfl (lv_at hl 3 rfl) ?_
  refine lv_iconst (v := 0) hx hb dL_swap_1 (by decide) ?_
  refine lv_aload_n hx hb dL_swap_2 rfl (lv_at hl 0 rfl) ?_
  refine lv_iload_n hx hb dL_swap_3 rfl (lv_at hl 1 rfl) ?_
  refine lv_iload_n hx hb dL_swap_4 rfl (lv_at hl 2 rfl) ?_
  refine hx_i cx hp (yx_V (As := [.int p1, .int p2]) (rest := [.int 0, .ref (adr E 21 0)]) cx hp hl (c_X12_swap l (Nat.le_trans (by decide) hN) hT hlf hf) (cw_L_98 cx (mc := 3) (ms := 18) rfl rfl ⟨by decide, by decide⟩) (rC_X12 (Nat.le_trans (by decide) hN) cx hp) rfl rfl (Nat.le_of_ble_eq_true rfl) dL_swap_5 ⟨by decide, by decide⟩) (fun k H locs ce q hk hp h1 h2 h3 => ?_) (fun r u H locs hq hp => ?_)
  · rcases hz with ⟨j, k', hj, hz, rfl, rfl⟩ | ⟨r, τ, hz, -, -⟩
    · obtain rfl : k' = k := Sum.inl.inj (hz.symm.trans hk)
      rcases j with _ | _ | j
      · obtain rfl : 2 = k' := Option.some.inj hj
        refine vx_catch cx.1.2.2.2.1 [] ⟨0, 10, 13, 24⟩ [⟨0, 10, 17, 13⟩] hxt (fun _ h => absurd h List.not_mem_nil) rfl (by decide) (cx.1.2.2.2.2 _ qK_L_24) (va_Nw.use (nb_tab qX_java_lang_IndexOutOfBoundsException_java_lang_IndexOutOfBoundsException) (cx.2.2.1.2.2.1 _ qX_java_lang_IndexOutOfBoundsException_java_lang_IndexOutOfBoundsException)) h1 h2 h3 ?_
        refine lv_astore (lv' := [(4, .ref q), (0, .ref (adr E 19 0)), (1, .int p1), (2, .int p2), (3, .ref (adr E 21 0))]) hx hb dL_swap_13 hl (by decide) rfl (fun ls hl => ?_)
        refine lv_iconst (v := 1) hx hb dL_swap_15 (by decide) ?_
        exact r_i cx hp ⟨by decide, rfl⟩ dL_swap_16
      · obtain rfl : 0 = k' := Option.some.inj hj
        refine vx_catch cx.1.2.2.2.1 [⟨0, 10, 13, 24⟩] ⟨0, 10, 17, 13⟩ [] hxt (fun z9 hz9 => by cases List.mem_singleton.mp hz9; exact Or.inr ⟨by decide, _, cx.1.2.2.2.2 _ qK_L_24, va_Nc.moved cx.2.2.1.1 hC.1⟩) rfl (by decide) (cx.1.2.2.2.2 _ qK_L_13) (va_Nw.use (nb_tab qX_java_lang_IllegalStateException_java_lang_IllegalStateException) (cx.2.2.1.2.2.1 _ qX_java_lang_IllegalStateException_java_lang_IllegalStateException)) h1 h2 h3 ?_
        refine lv_astore (lv' := [(4, .ref q), (0, .ref (adr E 19 0)), (1, .int p1), (2, .int p2), (3, .ref (adr E 21 0))]) hx hb dL_swap_17 hl (by decide) rfl (fun ls hl => ?_)
        refine lv_iconst (v := 2) hx hb dL_swap_19 (by decide) ?_
        exact r_i cx hp ⟨by decide, rfl⟩ dL_swap_20
      · exact absurd hj (by simp)
    · exact absurd (hz.symm.trans hk) (fun h9 => by cases h9)
  · rcases hz with ⟨j, k', hj, hz, -, -⟩ | ⟨r', τ, hz, rfl, rfl⟩
    · exact absurd (hz.symm.trans hq) (fun h9 => by cases h9)
    · obtain ⟨rfl, rfl⟩ := Prod.mk.inj (Sum.inr.inj (hz.symm.trans hq))
      refine lv_i2l hx hb dL_swap_8 rfl ?_
      refine s_out hN cx hp dL_swap_9 (fun H locs hp => ?_)
      refine lv_goto (tgt := 21) hx hb dL_swap_10 (by decide) ?_
      refine lv_iconst (v := 0) hx hb dL_swap_21 (by decide) ?_
      exact r_i cx hp ⟨by decide, rfl⟩ dL_swap_22
theorem cwS_L_swap {p : Program} {R : Room} {s : State} {m : MethodId} {args : Array Value} {meth : Method} {c : Code} {E : Ev} {cc : ByteArray} {nL : Nat} {ret : Option FieldType} (cx : Cx E p s m meth c args RL cc nL ret) (hR : rm_L_swap.frames + 1 ≤ R.frames ∧ 8 + (5 + 11) + rm_L_swap.locals ≤ R.locals) : vx_CSW R s args RL 304 yL_swap cL_swap 5 (some .int) [(0, 10, 13, 24), (0, 10, 17, 13)] (wW yL_swap cL_swap 5 (some .int) [(0, 10, 13, 24), (0, 10, 17, 13)]) rm_L_swap 3 18 4 := vx_cwSW 4 cx.1.2.2.2.2 (gd_SW qM_L_304 qT_L_swap qN_L qW_L_swap) rfl rfl rfl (by decide +kernel) hR
theorem qW_L_setPriority : Cond.codeWith yL_setPriority cL_setPriority 5 (some .int) [(0, 10, 13, 24), (0, 10, 17, 19)] ∈ TB := tb_of 1289 (by decide +kernel) (by decide +kernel)
abbrev rm_L_setPriority : Room := { frames := 8, cells := 2, slots := 12, locals := 126 }
set_option maxRecDepth 100000 in
set_option maxHeartbeats 4000000 in
theorem c_L_setPriority (l : Launch) {E : Ev} (hN : 147 ≤ eN E) (hT : St E) (hlf : l.stackTraces = false) (hC : NC E) {σ σ' : SM} {p1 : Int32} {p2 : Int32} {z : Nat ⊕ (Int32 × SM)} {rv : Int32} (hf : f_X12_setPriority p1 p2 σ = some z) (hz : HM oI [2, 1] z σ rv σ') : Met l yL_setPriority (wW yL_setPriority cL_setPriority 5 (some .int) [(0, 10, 13, 24), (0, 10, 17, 19)]) rm_L_setPriority (va_Pc [.ref (adr E 19 0), .int p1, .int p2, .ref (adr E 21 0)] (Wu E σ)) (va_Qi (fun r u => rv = r ∧ σ' = u) (fun u t => Wu E u t) (eA E)) 2 12 (eA E) := by
  refine gW_entry (lv := [(0, .ref (adr E 19 0)), (1, .int p1), (2, .int p2), (3, .ref (adr E 21 0))]) (by decide) (Nat.le_of_ble_eq_true rfl) rfl ?_
  intro p e s m below meth c cx hxt hp ls hl
  have hx := cx.1.1
  have hb := cx.1.2.1
  refine lv_aload_n hx hb dL_setPriority_0 rfl (lv_at hl 3 rfl) ?_
  refine lv_iconst (v := 0) hx hb dL_setPriority_1 (by decide) ?_
  refine lv_aload_n hx hb dL_setPriority_2 rfl (lv_at hl 0 rfl) ?_
  refine lv_iload_n hx hb dL_setPriority_3 rfl (lv_at hl 1 rfl) ?_
  refine lv_iload_n hx hb dL_setPriority_4 rfl (lv_at hl 2 rfl) ?_
  refine hx_i cx hp (yx_V (As := [.int p1, .int p2]) (rest := [.int 0, .ref (adr E 21 0)]) cx hp hl (c_X12_setPriority l (Nat.le_trans (by decide) hN) hT hlf hf) (cw_L_101 cx (mc := 2) (ms := 12) rfl rfl ⟨by decide, by decide⟩) (rC_X12 (Nat.le_trans (by decide) hN) cx hp) rfl rfl (Nat.le_of_ble_eq_true rfl) dL_setPriority_5 ⟨by decide, by decide⟩) (fun k H locs ce q hk hp h1 h2 h3 => ?_) (fun r u H locs hq hp => ?_)
  · rcases hz with ⟨j, k', hj, hz, rfl, rfl⟩ | ⟨r, τ, hz, -, -⟩
    · obtain rfl : k' = k := Sum.inl.inj (hz.symm.trans hk)
      rcases j with _ | _ | j
      · obtain rfl : 2 = k' := Option.some.inj hj
        refine vx_catch cx.1.2.2.2.1 [] ⟨0, 10, 13, 24⟩ [⟨0, 10, 17, 19⟩] hxt (fun _ h => absurd h List.not_mem_nil) rfl (by decide) (cx.1.2.2.2.2 _ qK_L_24) (va_Nw.use (nb_tab qX_java_lang_IndexOutOfBoundsException_java_lang_IndexOutOfBoundsException) (cx.2.2.1.2.2.1 _ qX_java_lang_IndexOutOfBoundsException_java_lang_IndexOutOfBoundsException)) h1 h2 h3 ?_
        refine lv_astore (lv' := [(4, .ref q), (0, .ref (adr E 19 0)), (1, .int p1), (2, .int p2), (3, .ref (adr E 21 0))]) hx hb dL_setPriority_13 hl (by decide) rfl (fun ls hl => ?_)
        refine lv_iconst (v := 1) hx hb dL_setPriority_15 (by decide) ?_
        exact r_i cx hp ⟨by decide, rfl⟩ dL_setPriority_16
      · obtain rfl : 1 = k' := Option.some.inj hj
        refine vx_catch cx.1.2.2.2.1 [⟨0, 10, 13, 24⟩] ⟨0, 10, 17, 19⟩ [] hxt (fun z9 hz9 => by cases List.mem_singleton.mp hz9; exact Or.inr ⟨by decide, _, cx.1.2.2.2.2 _ qK_L_24, va_Nc.moved cx.2.2.1.1 hC.2.1⟩) rfl (by decide) (cx.1.2.2.2.2 _ qK_L_19) (va_Nw.use (nb_tab qX_java_lang_IllegalArgumentException_java_lang_IllegalArgumentException) (cx.2.2.1.2.2.1 _ qX_java_lang_IllegalArgumentException_java_lang_IllegalArgumentException)) h1 h2 h3 ?_
        refine lv_astore (lv' := [(4, .ref q), (0, .ref (adr E 19 0)), (1, .int p1), (2, .int p2), (3, .ref (adr E 21 0))]) hx hb dL_setPriority_17 hl (by decide) rfl (fun ls hl => ?_)
        refine lv_iconst (v := 2) hx hb dL_setPriority_19 (by decide) ?_
        exact r_i cx hp ⟨by decide, rfl⟩ dL_setPriority_20
      · exact absurd hj (by simp)
    · exact absurd (hz.symm.trans hk) (fun h9 => by cases h9)
  · rcases hz with ⟨j, k', hj, hz, -, -⟩ | ⟨r', τ, hz, rfl, rfl⟩
    · exact absurd (hz.symm.trans hq) (fun h9 => by cases h9)
    · obtain ⟨rfl, rfl⟩ := Prod.mk.inj (Sum.inr.inj (hz.symm.trans hq))
      refine lv_i2l hx hb dL_setPriority_8 rfl ?_
      refine s_out hN cx hp dL_setPriority_9 (fun H locs hp => ?_)
      refine lv_goto (tgt := 21) hx hb dL_setPriority_10 (by decide) ?_
      refine lv_iconst (v := 0) hx hb dL_setPriority_21 (by decide) ?_
      exact r_i cx hp ⟨by decide, rfl⟩ dL_setPriority_22
theorem cwS_L_setPriority {p : Program} {R : Room} {s : State} {m : MethodId} {args : Array Value} {meth : Method} {c : Code} {E : Ev} {cc : ByteArray} {nL : Nat} {ret : Option FieldType} (cx : Cx E p s m meth c args RL cc nL ret) (hR : rm_L_setPriority.frames + 1 ≤ R.frames ∧ 8 + (5 + 11) + rm_L_setPriority.locals ≤ R.locals) : vx_CSW R s args RL 311 yL_setPriority cL_setPriority 5 (some .int) [(0, 10, 13, 24), (0, 10, 17, 19)] (wW yL_setPriority cL_setPriority 5 (some .int) [(0, 10, 13, 24), (0, 10, 17, 19)]) rm_L_setPriority 2 12 4 := vx_cwSW 4 cx.1.2.2.2.2 (gd_SW qM_L_311 qT_L_setPriority qN_L qW_L_setPriority) rfl rfl rfl (by decide +kernel) hR
theorem qW_L_preferFirst : Cond.codeWith yL_preferFirst cL_preferFirst 5 (some .int) [(0, 10, 13, 24)] ∈ TB := tb_of 1297 (by decide +kernel) (by decide +kernel)
abbrev rm_L_preferFirst : Room := { frames := 8, cells := 2, slots := 12, locals := 125 }
set_option maxRecDepth 100000 in
set_option maxHeartbeats 4000000 in
theorem c_L_preferFirst (l : Launch) {E : Ev} (hN : 147 ≤ eN E) (hT : St E) (hlf : l.stackTraces = false) (hC : NC E) {σ σ' : SM} {p1 : Int32} {p2 : Int32} {z : Nat ⊕ (Int32 × SM)} {rv : Int32} (hf : f_X12_preferFirst p1 p2 σ = some z) (hz : HM oI [2] z σ rv σ') : Met l yL_preferFirst (wW yL_preferFirst cL_preferFirst 5 (some .int) [(0, 10, 13, 24)]) rm_L_preferFirst (va_Pc [.ref (adr E 19 0), .int p1, .int p2, .ref (adr E 21 0)] (Wu E σ)) (va_Qi (fun r u => rv = r ∧ σ' = u) (fun u t => Wu E u t) (eA E)) 2 12 (eA E) := by
  refine gW_entry (lv := [(0, .ref (adr E 19 0)), (1, .int p1), (2, .int p2), (3, .ref (adr E 21 0))]) (by decide) (Nat.le_of_ble_eq_true rfl) rfl ?_
  intro p e s m below meth c cx hxt hp ls hl
  have hx := cx.1.1
  have hb := cx.1.2.1
  refine lv_aload_n hx hb dL_preferFirst_0 rfl (lv_at hl 3 rfl) ?_
  refine lv_iconst (v := 0) hx hb dL_preferFirst_1 (by decide) ?_
  refine lv_aload_n hx hb dL_preferFirst_2 rfl (lv_at hl 0 rfl) ?_
  refine lv_iload_n hx hb dL_preferFirst_3 rfl (lv_at hl 1 rfl) ?_
  refine lv_iload_n hx hb dL_preferFirst_4 rfl (lv_at hl 2 rfl) ?_
  refine hx_i cx hp (yx_V (As := [.int p1, .int p2]) (rest := [.int 0, .ref (adr E 21 0)]) cx hp hl (c_X12_preferFirst l (Nat.le_trans (by decide) hN) hT hlf hf) (cw_L_104 cx (mc := 2) (ms := 12) rfl rfl ⟨by decide, by decide⟩) (rC_X12 (Nat.le_trans (by decide) hN) cx hp) rfl rfl (Nat.le_of_ble_eq_true rfl) dL_preferFirst_5 ⟨by decide, by decide⟩) (fun k H locs ce q hk hp h1 h2 h3 => ?_) (fun r u H locs hq hp => ?_)
  · rcases hz with ⟨j, k', hj, hz, rfl, rfl⟩ | ⟨r, τ, hz, -, -⟩
    · obtain rfl : k' = k := Sum.inl.inj (hz.symm.trans hk)
      rcases j with _ | j
      · obtain rfl : 2 = k' := Option.some.inj hj
        refine vx_catch cx.1.2.2.2.1 [] ⟨0, 10, 13, 24⟩ [] hxt (fun _ h => absurd h List.not_mem_nil) rfl (by decide) (cx.1.2.2.2.2 _ qK_L_24) (va_Nw.use (nb_tab qX_java_lang_IndexOutOfBoundsException_java_lang_IndexOutOfBoundsException) (cx.2.2.1.2.2.1 _ qX_java_lang_IndexOutOfBoundsException_java_lang_IndexOutOfBoundsException)) h1 h2 h3 ?_
        refine lv_astore (lv' := [(4, .ref q), (0, .ref (adr E 19 0)), (1, .int p1), (2, .int p2), (3, .ref (adr E 21 0))]) hx hb dL_preferFirst_13 hl (by decide) rfl (fun ls hl => ?_)
        refine lv_iconst (v := 1) hx hb dL_preferFirst_15 (by decide) ?_
        exact r_i cx hp ⟨by decide, rfl⟩ dL_preferFirst_16
      · exact absurd hj (by simp)
    · exact absurd (hz.symm.trans hk) (fun h9 => by cases h9)
  · rcases hz with ⟨j, k', hj, hz, -, -⟩ | ⟨r', τ, hz, rfl, rfl⟩
    · exact absurd (hz.symm.trans hq) (fun h9 => by cases h9)
    · obtain ⟨rfl, rfl⟩ := Prod.mk.inj (Sum.inr.inj (hz.symm.trans hq))
      refine lv_i2l hx hb dL_preferFirst_8 rfl ?_
      refine s_out hN cx hp dL_preferFirst_9 (fun H locs hp => ?_)
      refine lv_goto (tgt := 17) hx hb dL_preferFirst_10 (by decide) ?_
      refine lv_iconst (v := 0) hx hb dL_preferFirst_17 (by decide) ?_
      exact r_i cx hp ⟨by decide, rfl⟩ dL_preferFirst_18
theorem cwS_L_preferFirst {p : Program} {R : Room} {s : State} {m : MethodId} {args : Array Value} {meth : Method} {c : Code} {E : Ev} {cc : ByteArray} {nL : Nat} {ret : Option FieldType} (cx : Cx E p s m meth c args RL cc nL ret) (hR : rm_L_preferFirst.frames + 1 ≤ R.frames ∧ 8 + (5 + 11) + rm_L_preferFirst.locals ≤ R.locals) : vx_CSW R s args RL 314 yL_preferFirst cL_preferFirst 5 (some .int) [(0, 10, 13, 24)] (wW yL_preferFirst cL_preferFirst 5 (some .int) [(0, 10, 13, 24)]) rm_L_preferFirst 2 12 4 := vx_cwSW 4 cx.1.2.2.2.2 (gd_SW qM_L_314 qT_L_preferFirst qN_L qW_L_preferFirst) rfl rfl rfl (by decide +kernel) hR
theorem qW_L_removePreference : Cond.codeWith yL_removePreference cL_removePreference 5 (some .int) [(0, 10, 13, 24), (0, 10, 17, 13)] ∈ TB := tb_of 1304 (by decide +kernel) (by decide +kernel)
abbrev rm_L_removePreference : Room := { frames := 8, cells := 3, slots := 18, locals := 125 }
set_option maxRecDepth 100000 in
set_option maxHeartbeats 4000000 in
theorem c_L_removePreference (l : Launch) {E : Ev} (hN : 147 ≤ eN E) (hT : St E) (hlf : l.stackTraces = false) (hC : NC E) {σ σ' : SM} {p1 : Int32} {p2 : Int32} {z : Nat ⊕ (Int32 × SM)} {rv : Int32} (hf : f_X12_removePreference p1 p2 σ = some z) (hz : HM oI [2, 0] z σ rv σ') : Met l yL_removePreference (wW yL_removePreference cL_removePreference 5 (some .int) [(0, 10, 13, 24), (0, 10, 17, 13)]) rm_L_removePreference (va_Pc [.ref (adr E 19 0), .int p1, .int p2, .ref (adr E 21 0)] (Wu E σ)) (va_Qi (fun r u => rv = r ∧ σ' = u) (fun u t => Wu E u t) (eA E)) 3 18 (eA E) := by
  refine gW_entry (lv := [(0, .ref (adr E 19 0)), (1, .int p1), (2, .int p2), (3, .ref (adr E 21 0))]) (by decide) (Nat.le_of_ble_eq_true rfl) rfl ?_
  intro p e s m below meth c cx hxt hp ls hl
  have hx := cx.1.1
  have hb := cx.1.2.1
  refine lv_aload_n hx hb dL_removePreference_0 rfl (lv_at hl 3 rfl) ?_
  refine lv_iconst (v := 0) hx hb dL_removePreference_1 (by decide) ?_
  refine lv_aload_n hx hb dL_removePreference_2 rfl (lv_at hl 0 rfl) ?_
  refine lv_iload_n hx hb dL_removePreference_3 rfl (lv_at hl 1 rfl) ?_
  refine lv_iload_n hx hb dL_removePreference_4 rfl (lv_at hl 2 rfl) ?_
  refine hx_i cx hp (yx_V (As := [.int p1, .int p2]) (rest := [.int 0, .ref (adr E 21 0)]) cx hp hl (c_X12_removePreference l (Nat.le_trans (by decide) hN) hT hlf hf) (cw_L_107 cx (mc := 3) (ms := 18) rfl rfl ⟨by decide, by decide⟩) (rC_X12 (Nat.le_trans (by decide) hN) cx hp) rfl rfl (Nat.le_of_ble_eq_true rfl) dL_removePreference_5 ⟨by decide, by decide⟩) (fun k H locs ce q hk hp h1 h2 h3 => ?_) (fun r u H locs hq hp => ?_)
  · rcases hz with ⟨j, k', hj, hz, rfl, rfl⟩ | ⟨r, τ, hz, -, -⟩
    · obtain rfl : k' = k := Sum.inl.inj (hz.symm.trans hk)
      rcases j with _ | _ | j
      · obtain rfl : 2 = k' := Option.some.inj hj
        refine vx_catch cx.1.2.2.2.1 [] ⟨0, 10, 13, 24⟩ [⟨0, 10, 17, 13⟩] hxt (fun _ h => absurd h List.not_mem_nil) rfl (by decide) (cx.1.2.2.2.2 _ qK_L_24) (va_Nw.use (nb_tab qX_java_lang_IndexOutOfBoundsException_java_lang_IndexOutOfBoundsException) (cx.2.2.1.2.2.1 _ qX_java_lang_IndexOutOfBoundsException_java_lang_IndexOutOfBoundsException)) h1 h2 h3 ?_
        refine lv_astore (lv' := [(4, .ref q), (0, .ref (adr E 19 0)), (1, .int p1), (2, .int p2), (3, .ref (adr E 21 0))]) hx hb dL_removePreference_13 hl (by decide) rfl (fun ls hl => ?_)
        refine lv_iconst (v := 1) hx hb dL_removePreference_15 (by decide) ?_
        exact r_i cx hp ⟨by decide, rfl⟩ dL_removePreference_16
      · obtain rfl : 0 = k' := Option.some.inj hj
        refine vx_catch cx.1.2.2.2.1 [⟨0, 10, 13, 24⟩] ⟨0, 10, 17, 13⟩ [] hxt (fun z9 hz9 => by cases List.mem_singleton.mp hz9; exact Or.inr ⟨by decide, _, cx.1.2.2.2.2 _ qK_L_24, va_Nc.moved cx.2.2.1.1 hC.1⟩) rfl (by decide) (cx.1.2.2.2.2 _ qK_L_13) (va_Nw.use (nb_tab qX_java_lang_IllegalStateException_java_lang_IllegalStateException) (cx.2.2.1.2.2.1 _ qX_java_lang_IllegalStateException_java_lang_IllegalStateException)) h1 h2 h3 ?_
        refine lv_astore (lv' := [(4, .ref q), (0, .ref (adr E 19 0)), (1, .int p1), (2, .int p2), (3, .ref (adr E 21 0))]) hx hb dL_removePreference_17 hl (by decide) rfl (fun ls hl => ?_)
        refine lv_iconst (v := 2) hx hb dL_removePreference_19 (by decide) ?_
        exact r_i cx hp ⟨by decide, rfl⟩ dL_removePreference_20
      · exact absurd hj (by simp)
    · exact absurd (hz.symm.trans hk) (fun h9 => by cases h9)
  · rcases hz with ⟨j, k', hj, hz, -, -⟩ | ⟨r', τ, hz, rfl, rfl⟩
    · exact absurd (hz.symm.trans hq) (fun h9 => by cases h9)
    · obtain ⟨rfl, rfl⟩ := Prod.mk.inj (Sum.inr.inj (hz.symm.trans hq))
      refine lv_i2l hx hb dL_removePreference_8 rfl ?_
      refine s_out hN cx hp dL_removePreference_9 (fun H locs hp => ?_)
      refine lv_goto (tgt := 21) hx hb dL_removePreference_10 (by decide) ?_
      refine lv_iconst (v := 0) hx hb dL_removePreference_21 (by decide) ?_
      exact r_i cx hp ⟨by decide, rfl⟩ dL_removePreference_22
theorem cwS_L_removePreference {p : Program} {R : Room} {s : State} {m : MethodId} {args : Array Value} {meth : Method} {c : Code} {E : Ev} {cc : ByteArray} {nL : Nat} {ret : Option FieldType} (cx : Cx E p s m meth c args RL cc nL ret) (hR : rm_L_removePreference.frames + 1 ≤ R.frames ∧ 8 + (5 + 11) + rm_L_removePreference.locals ≤ R.locals) : vx_CSW R s args RL 317 yL_removePreference cL_removePreference 5 (some .int) [(0, 10, 13, 24), (0, 10, 17, 13)] (wW yL_removePreference cL_removePreference 5 (some .int) [(0, 10, 13, 24), (0, 10, 17, 13)]) rm_L_removePreference 3 18 4 := vx_cwSW 4 cx.1.2.2.2.2 (gd_SW qM_L_317 qT_L_removePreference qN_L qW_L_removePreference) rfl rfl rfl (by decide +kernel) hR
theorem qW_L_setRent : Cond.codeWith yL_setRent cL_setRent 5 (some .int) [(0, 10, 13, 24), (0, 10, 17, 19)] ∈ TB := tb_of 1313 (by decide +kernel) (by decide +kernel)
abbrev rm_L_setRent : Room := { frames := 8, cells := 2, slots := 12, locals := 126 }
set_option maxRecDepth 100000 in
set_option maxHeartbeats 4000000 in
theorem c_L_setRent (l : Launch) {E : Ev} (hN : 147 ≤ eN E) (hT : St E) (hlf : l.stackTraces = false) (hC : NC E) {σ σ' : SM} {p1 : Int32} {p2 : Int32} {z : Nat ⊕ (Int32 × SM)} {rv : Int32} (hf : f_X12_setRent p1 p2 σ = some z) (hz : HM oI [2, 1] z σ rv σ') : Met l yL_setRent (wW yL_setRent cL_setRent 5 (some .int) [(0, 10, 13, 24), (0, 10, 17, 19)]) rm_L_setRent (va_Pc [.ref (adr E 19 0), .int p1, .int p2, .ref (adr E 21 0)] (Wu E σ)) (va_Qi (fun r u => rv = r ∧ σ' = u) (fun u t => Wu E u t) (eA E)) 2 12 (eA E) := by
  refine gW_entry (lv := [(0, .ref (adr E 19 0)), (1, .int p1), (2, .int p2), (3, .ref (adr E 21 0))]) (by decide) (Nat.le_of_ble_eq_true rfl) rfl ?_
  intro p e s m below meth c cx hxt hp ls hl
  have hx := cx.1.1
  have hb := cx.1.2.1
  refine lv_aload_n hx hb dL_setRent_0 rfl (lv_at hl 3 rfl) ?_
  refine lv_iconst (v := 0) hx hb dL_setRent_1 (by decide) ?_
  refine lv_aload_n hx hb dL_setRent_2 rfl (lv_at hl 0 rfl) ?_
  refine lv_iload_n hx hb dL_setRent_3 rfl (lv_at hl 1 rfl) ?_
  refine lv_iload_n hx hb dL_setRent_4 rfl (lv_at hl 2 rfl) ?_
  refine hx_i cx hp (yx_V (As := [.int p1, .int p2]) (rest := [.int 0, .ref (adr E 21 0)]) cx hp hl (c_X12_setRent l (Nat.le_trans (by decide) hN) hT hlf hf) (cw_L_110 cx (mc := 2) (ms := 12) rfl rfl ⟨by decide, by decide⟩) (rC_X12 (Nat.le_trans (by decide) hN) cx hp) rfl rfl (Nat.le_of_ble_eq_true rfl) dL_setRent_5 ⟨by decide, by decide⟩) (fun k H locs ce q hk hp h1 h2 h3 => ?_) (fun r u H locs hq hp => ?_)
  · rcases hz with ⟨j, k', hj, hz, rfl, rfl⟩ | ⟨r, τ, hz, -, -⟩
    · obtain rfl : k' = k := Sum.inl.inj (hz.symm.trans hk)
      rcases j with _ | _ | j
      · obtain rfl : 2 = k' := Option.some.inj hj
        refine vx_catch cx.1.2.2.2.1 [] ⟨0, 10, 13, 24⟩ [⟨0, 10, 17, 19⟩] hxt (fun _ h => absurd h List.not_mem_nil) rfl (by decide) (cx.1.2.2.2.2 _ qK_L_24) (va_Nw.use (nb_tab qX_java_lang_IndexOutOfBoundsException_java_lang_IndexOutOfBoundsException) (cx.2.2.1.2.2.1 _ qX_java_lang_IndexOutOfBoundsException_java_lang_IndexOutOfBoundsException)) h1 h2 h3 ?_
        refine lv_astore (lv' := [(4, .ref q), (0, .ref (adr E 19 0)), (1, .int p1), (2, .int p2), (3, .ref (adr E 21 0))]) hx hb dL_setRent_13 hl (by decide) rfl (fun ls hl => ?_)
        refine lv_iconst (v := 1) hx hb dL_setRent_15 (by decide) ?_
        exact r_i cx hp ⟨by decide, rfl⟩ dL_setRent_16
      · obtain rfl : 1 = k' := Option.some.inj hj
        refine vx_catch cx.1.2.2.2.1 [⟨0, 10, 13, 24⟩] ⟨0, 10, 17, 19⟩ [] hxt (fun z9 hz9 => by cases List.mem_singleton.mp hz9; exact Or.inr ⟨by decide, _, cx.1.2.2.2.2 _ qK_L_24, va_Nc.moved cx.2.2.1.1 hC.2.1⟩) rfl (by decide) (cx.1.2.2.2.2 _ qK_L_19) (va_Nw.use (nb_tab qX_java_lang_IllegalArgumentException_java_lang_IllegalArgumentException) (cx.2.2.1.2.2.1 _ qX_java_lang_IllegalArgumentException_java_lang_IllegalArgumentException)) h1 h2 h3 ?_
        refine lv_astore (lv' := [(4, .ref q), (0, .ref (adr E 19 0)), (1, .int p1), (2, .int p2), (3, .ref (adr E 21 0))]) hx hb dL_setRent_17 hl (by decide) rfl (fun ls hl => ?_)
        refine lv_iconst (v := 2) hx hb dL_setRent_19 (by decide) ?_
        exact r_i cx hp ⟨by decide, rfl⟩ dL_setRent_20
      · exact absurd hj (by simp)
    · exact absurd (hz.symm.trans hk) (fun h9 => by cases h9)
  · rcases hz with ⟨j, k', hj, hz, -, -⟩ | ⟨r', τ, hz, rfl, rfl⟩
    · exact absurd (hz.symm.trans hq) (fun h9 => by cases h9)
    · obtain ⟨rfl, rfl⟩ := Prod.mk.inj (Sum.inr.inj (hz.symm.trans hq))
      refine lv_i2l hx hb dL_setRent_8 rfl ?_
      refine s_out hN cx hp dL_setRent_9 (fun H locs hp => ?_)
      refine lv_goto (tgt := 21) hx hb dL_setRent_10 (by decide) ?_
      refine lv_iconst (v := 0) hx hb dL_setRent_21 (by decide) ?_
      exact r_i cx hp ⟨by decide, rfl⟩ dL_setRent_22
theorem cwS_L_setRent {p : Program} {R : Room} {s : State} {m : MethodId} {args : Array Value} {meth : Method} {c : Code} {E : Ev} {cc : ByteArray} {nL : Nat} {ret : Option FieldType} (cx : Cx E p s m meth c args RL cc nL ret) (hR : rm_L_setRent.frames + 1 ≤ R.frames ∧ 8 + (5 + 11) + rm_L_setRent.locals ≤ R.locals) : vx_CSW R s args RL 320 yL_setRent cL_setRent 5 (some .int) [(0, 10, 13, 24), (0, 10, 17, 19)] (wW yL_setRent cL_setRent 5 (some .int) [(0, 10, 13, 24), (0, 10, 17, 19)]) rm_L_setRent 2 12 4 := vx_cwSW 4 cx.1.2.2.2.2 (gd_SW qM_L_320 qT_L_setRent qN_L qW_L_setRent) rfl rfl rfl (by decide +kernel) hR
theorem qW_L_deposit : Cond.codeWith yL_deposit cL_deposit 5 (some .int) [(0, 10, 13, 24), (0, 10, 17, 19)] ∈ TB := tb_of 1322 (by decide +kernel) (by decide +kernel)
abbrev rm_L_deposit : Room := { frames := 8, cells := 2, slots := 12, locals := 125 }
set_option maxRecDepth 100000 in
set_option maxHeartbeats 4000000 in
theorem c_L_deposit (l : Launch) {E : Ev} (hN : 147 ≤ eN E) (hT : St E) (hlf : l.stackTraces = false) (hC : NC E) {σ σ' : SM} {p1 : Int32} {p2 : Int32} {z : Nat ⊕ (Int32 × SM)} {rv : Int32} (hf : f_X12_deposit p1 p2 σ = some z) (hz : HM oI [2, 1] z σ rv σ') : Met l yL_deposit (wW yL_deposit cL_deposit 5 (some .int) [(0, 10, 13, 24), (0, 10, 17, 19)]) rm_L_deposit (va_Pc [.ref (adr E 19 0), .int p1, .int p2, .ref (adr E 21 0)] (Wu E σ)) (va_Qi (fun r u => rv = r ∧ σ' = u) (fun u t => Wu E u t) (eA E)) 2 12 (eA E) := by
  refine gW_entry (lv := [(0, .ref (adr E 19 0)), (1, .int p1), (2, .int p2), (3, .ref (adr E 21 0))]) (by decide) (Nat.le_of_ble_eq_true rfl) rfl ?_
  intro p e s m below meth c cx hxt hp ls hl
  have hx := cx.1.1
  have hb := cx.1.2.1
  refine lv_aload_n hx hb dL_deposit_0 rfl (lv_at hl 3 rfl) ?_
  refine lv_iconst (v := 0) hx hb dL_deposit_1 (by decide) ?_
  refine lv_aload_n hx hb dL_deposit_2 rfl (lv_at hl 0 rfl) ?_
  refine lv_iload_n hx hb dL_deposit_3 rfl (lv_at hl 1 rfl) ?_
  refine lv_iload_n hx hb dL_deposit_4 rfl (lv_at hl 2 rfl) ?_
  refine hx_i cx hp (yx_V (As := [.int p1, .int p2]) (rest := [.int 0, .ref (adr E 21 0)]) cx hp hl (c_X12_deposit l (Nat.le_trans (by decide) hN) hT hlf hf) (cw_L_113 cx (mc := 2) (ms := 12) rfl rfl ⟨by decide, by decide⟩) (rC_X12 (Nat.le_trans (by decide) hN) cx hp) rfl rfl (Nat.le_of_ble_eq_true rfl) dL_deposit_5 ⟨by decide, by decide⟩) (fun k H locs ce q hk hp h1 h2 h3 => ?_) (fun r u H locs hq hp => ?_)
  · rcases hz with ⟨j, k', hj, hz, rfl, rfl⟩ | ⟨r, τ, hz, -, -⟩
    · obtain rfl : k' = k := Sum.inl.inj (hz.symm.trans hk)
      rcases j with _ | _ | j
      · obtain rfl : 2 = k' := Option.some.inj hj
        refine vx_catch cx.1.2.2.2.1 [] ⟨0, 10, 13, 24⟩ [⟨0, 10, 17, 19⟩] hxt (fun _ h => absurd h List.not_mem_nil) rfl (by decide) (cx.1.2.2.2.2 _ qK_L_24) (va_Nw.use (nb_tab qX_java_lang_IndexOutOfBoundsException_java_lang_IndexOutOfBoundsException) (cx.2.2.1.2.2.1 _ qX_java_lang_IndexOutOfBoundsException_java_lang_IndexOutOfBoundsException)) h1 h2 h3 ?_
        refine lv_astore (lv' := [(4, .ref q), (0, .ref (adr E 19 0)), (1, .int p1), (2, .int p2), (3, .ref (adr E 21 0))]) hx hb dL_deposit_13 hl (by decide) rfl (fun ls hl => ?_)
        refine lv_iconst (v := 1) hx hb dL_deposit_15 (by decide) ?_
        exact r_i cx hp ⟨by decide, rfl⟩ dL_deposit_16
      · obtain rfl : 1 = k' := Option.some.inj hj
        refine vx_catch cx.1.2.2.2.1 [⟨0, 10, 13, 24⟩] ⟨0, 10, 17, 19⟩ [] hxt (fun z9 hz9 => by cases List.mem_singleton.mp hz9; exact Or.inr ⟨by decide, _, cx.1.2.2.2.2 _ qK_L_24, va_Nc.moved cx.2.2.1.1 hC.2.1⟩) rfl (by decide) (cx.1.2.2.2.2 _ qK_L_19) (va_Nw.use (nb_tab qX_java_lang_IllegalArgumentException_java_lang_IllegalArgumentException) (cx.2.2.1.2.2.1 _ qX_java_lang_IllegalArgumentException_java_lang_IllegalArgumentException)) h1 h2 h3 ?_
        refine lv_astore (lv' := [(4, .ref q), (0, .ref (adr E 19 0)), (1, .int p1), (2, .int p2), (3, .ref (adr E 21 0))]) hx hb dL_deposit_17 hl (by decide) rfl (fun ls hl => ?_)
        refine lv_iconst (v := 2) hx hb dL_deposit_19 (by decide) ?_
        exact r_i cx hp ⟨by decide, rfl⟩ dL_deposit_20
      · exact absurd hj (by simp)
    · exact absurd (hz.symm.trans hk) (fun h9 => by cases h9)
  · rcases hz with ⟨j, k', hj, hz, -, -⟩ | ⟨r', τ, hz, rfl, rfl⟩
    · exact absurd (hz.symm.trans hq) (fun h9 => by cases h9)
    · obtain ⟨rfl, rfl⟩ := Prod.mk.inj (Sum.inr.inj (hz.symm.trans hq))
      refine lv_i2l hx hb dL_deposit_8 rfl ?_
      refine s_out hN cx hp dL_deposit_9 (fun H locs hp => ?_)
      refine lv_goto (tgt := 21) hx hb dL_deposit_10 (by decide) ?_
      refine lv_iconst (v := 0) hx hb dL_deposit_21 (by decide) ?_
      exact r_i cx hp ⟨by decide, rfl⟩ dL_deposit_22
theorem cwS_L_deposit {p : Program} {R : Room} {s : State} {m : MethodId} {args : Array Value} {meth : Method} {c : Code} {E : Ev} {cc : ByteArray} {nL : Nat} {ret : Option FieldType} (cx : Cx E p s m meth c args RL cc nL ret) (hR : rm_L_deposit.frames + 1 ≤ R.frames ∧ 8 + (5 + 11) + rm_L_deposit.locals ≤ R.locals) : vx_CSW R s args RL 323 yL_deposit cL_deposit 5 (some .int) [(0, 10, 13, 24), (0, 10, 17, 19)] (wW yL_deposit cL_deposit 5 (some .int) [(0, 10, 13, 24), (0, 10, 17, 19)]) rm_L_deposit 2 12 4 := vx_cwSW 4 cx.1.2.2.2.2 (gd_SW qM_L_323 qT_L_deposit qN_L qW_L_deposit) rfl rfl rfl (by decide +kernel) hR
theorem qW_L_advanceDays : Cond.codeWith yL_advanceDays cL_advanceDays 4 (some .int) [(0, 9, 12, 19), (0, 9, 15, 13)] ∈ TB := tb_of 1331 (by decide +kernel) (by decide +kernel)
abbrev rm_L_advanceDays : Room := { frames := 7, cells := 1, slots := 6, locals := 110 }
set_option maxRecDepth 100000 in
set_option maxHeartbeats 4000000 in
theorem c_L_advanceDays (l : Launch) {E : Ev} (hN : 147 ≤ eN E) (hT : St E) (hlf : l.stackTraces = false) (hC : NC E) {σ σ' : SM} {p1 : Int32} {z : Nat ⊕ (Int32 × SM)} {rv : Int32} (hf : f_X12_advanceDays p1 σ = some z) (hz : HM oI [1, 0] z σ rv σ') : Met l yL_advanceDays (wW yL_advanceDays cL_advanceDays 4 (some .int) [(0, 9, 12, 19), (0, 9, 15, 13)]) rm_L_advanceDays (va_Pc [.ref (adr E 19 0), .int p1, .ref (adr E 21 0)] (Wu E σ)) (va_Qi (fun r u => rv = r ∧ σ' = u) (fun u t => Wu E u t) (eA E)) 1 6 (eA E) := by
  refine gW_entry (lv := [(0, .ref (adr E 19 0)), (1, .int p1), (2, .ref (adr E 21 0))]) (by decide) (Nat.le_of_ble_eq_true rfl) rfl ?_
  intro p e s m below meth c cx hxt hp ls hl
  have hx := cx.1.1
  have hb := cx.1.2.1
  refine lv_aload_n hx hb dL_advanceDays_0 rfl (lv_at hl 2 rfl) ?_
  refine lv_iconst (v := 0) hx hb dL_advanceDays_1 (by decide) ?_
  refine lv_aload_n hx hb dL_advanceDays_2 rfl (lv_at hl 0 rfl) ?_
  refine lv_iload_n hx hb dL_advanceDays_3 rfl (lv_at hl 1 rfl) ?_
  refine hx_i cx hp (yx_V (As := [.int p1]) (rest := [.int 0, .ref (adr E 21 0)]) cx hp hl (c_X12_advanceDays l (Nat.le_trans (by decide) hN) hT hlf hf) (cw_L_116 cx (mc := 1) (ms := 6) rfl rfl ⟨by decide, by decide⟩) (rC_X12 (Nat.le_trans (by decide) hN) cx hp) rfl rfl (Nat.le_of_ble_eq_true rfl) dL_advanceDays_4 ⟨by decide, by decide⟩) (fun k H locs ce q hk hp h1 h2 h3 => ?_) (fun r u H locs hq hp => ?_)
  · rcases hz with ⟨j, k', hj, hz, rfl, rfl⟩ | ⟨r, τ, hz, -, -⟩
    · obtain rfl : k' = k := Sum.inl.inj (hz.symm.trans hk)
      rcases j with _ | _ | j
      · obtain rfl : 1 = k' := Option.some.inj hj
        refine vx_catch cx.1.2.2.2.1 [] ⟨0, 9, 12, 19⟩ [⟨0, 9, 15, 13⟩] hxt (fun _ h => absurd h List.not_mem_nil) rfl (by decide) (cx.1.2.2.2.2 _ qK_L_19) (va_Nw.use (nb_tab qX_java_lang_IllegalArgumentException_java_lang_IllegalArgumentException) (cx.2.2.1.2.2.1 _ qX_java_lang_IllegalArgumentException_java_lang_IllegalArgumentException)) h1 h2 h3 ?_
        refine lv_astore_n (lv' := [(3, .ref q), (0, .ref (adr E 19 0)), (1, .int p1), (2, .ref (adr E 21 0))]) hx hb dL_advanceDays_12 rfl hl (by decide) rfl (fun ls hl => ?_)
        refine lv_iconst (v := 1) hx hb dL_advanceDays_13 (by decide) ?_
        exact r_i cx hp ⟨by decide, rfl⟩ dL_advanceDays_14
      · obtain rfl : 0 = k' := Option.some.inj hj
        refine vx_catch cx.1.2.2.2.1 [⟨0, 9, 12, 19⟩] ⟨0, 9, 15, 13⟩ [] hxt (fun z9 hz9 => by cases List.mem_singleton.mp hz9; exact Or.inr ⟨by decide, _, cx.1.2.2.2.2 _ qK_L_19, va_Nc.moved cx.2.2.1.1 hC.2.2⟩) rfl (by decide) (cx.1.2.2.2.2 _ qK_L_13) (va_Nw.use (nb_tab qX_java_lang_IllegalStateException_java_lang_IllegalStateException) (cx.2.2.1.2.2.1 _ qX_java_lang_IllegalStateException_java_lang_IllegalStateException)) h1 h2 h3 ?_
        refine lv_astore_n (lv' := [(3, .ref q), (0, .ref (adr E 19 0)), (1, .int p1), (2, .ref (adr E 21 0))]) hx hb dL_advanceDays_15 rfl hl (by decide) rfl (fun ls hl => ?_)
        refine lv_iconst (v := 2) hx hb dL_advanceDays_16 (by decide) ?_
        exact r_i cx hp ⟨by decide, rfl⟩ dL_advanceDays_17
      · exact absurd hj (by simp)
    · exact absurd (hz.symm.trans hk) (fun h9 => by cases h9)
  · rcases hz with ⟨j, k', hj, hz, -, -⟩ | ⟨r', τ, hz, rfl, rfl⟩
    · exact absurd (hz.symm.trans hq) (fun h9 => by cases h9)
    · obtain ⟨rfl, rfl⟩ := Prod.mk.inj (Sum.inr.inj (hz.symm.trans hq))
      refine lv_i2l hx hb dL_advanceDays_7 rfl ?_
      refine s_out hN cx hp dL_advanceDays_8 (fun H locs hp => ?_)
      refine lv_goto (tgt := 18) hx hb dL_advanceDays_9 (by decide) ?_
      refine lv_iconst (v := 0) hx hb dL_advanceDays_18 (by decide) ?_
      exact r_i cx hp ⟨by decide, rfl⟩ dL_advanceDays_19
theorem cwS_L_advanceDays {p : Program} {R : Room} {s : State} {m : MethodId} {args : Array Value} {meth : Method} {c : Code} {E : Ev} {cc : ByteArray} {nL : Nat} {ret : Option FieldType} (cx : Cx E p s m meth c args RL cc nL ret) (hR : rm_L_advanceDays.frames + 1 ≤ R.frames ∧ 8 + (4 + 11) + rm_L_advanceDays.locals ≤ R.locals) : vx_CSW R s args RL 326 yL_advanceDays cL_advanceDays 4 (some .int) [(0, 9, 12, 19), (0, 9, 15, 13)] (wW yL_advanceDays cL_advanceDays 4 (some .int) [(0, 9, 12, 19), (0, 9, 15, 13)]) rm_L_advanceDays 1 6 3 := vx_cwSW 3 cx.1.2.2.2.2 (gd_SW qM_L_326 qT_L_advanceDays qN_L qW_L_advanceDays) rfl rfl rfl (by decide +kernel) hR
theorem qW_L_writePreferences : Cond.codeWith yL_writePreferences cL_writePreferences 4 (some .int) [(0, 9, 12, 24)] ∈ TB := tb_of 1342 (by decide +kernel) (by decide +kernel)
abbrev rm_L_writePreferences : Room := { frames := 8, cells := 1, slots := 6, locals := 125 }
set_option maxRecDepth 100000 in
set_option maxHeartbeats 4000000 in
theorem c_L_writePreferences (l : Launch) {E : Ev} (hN : 147 ≤ eN E) (hT : St E) (hlf : l.stackTraces = false) (hC : NC E) {σ σ' : SM} {p1 : Int32} {z : Nat ⊕ (Int32 × SM)} {rv : Int32} (hf : f_X12_writePreferences p1 σ = some z) (hz : HM oI [2] z σ rv σ') : Met l yL_writePreferences (wW yL_writePreferences cL_writePreferences 4 (some .int) [(0, 9, 12, 24)]) rm_L_writePreferences (va_Pc [.ref (adr E 19 0), .int p1, .ref (adr E 21 0)] (Wu E σ)) (va_Qi (fun r u => rv = r ∧ σ' = u) (fun u t => Wu E u t) (eA E)) 1 6 (eA E) := by
  refine gW_entry (lv := [(0, .ref (adr E 19 0)), (1, .int p1), (2, .ref (adr E 21 0))]) (by decide) (Nat.le_of_ble_eq_true rfl) rfl ?_
  intro p e s m below meth c cx hxt hp ls hl
  have hx := cx.1.1
  have hb := cx.1.2.1
  refine lv_aload_n hx hb dL_writePreferences_0 rfl (lv_at hl 2 rfl) ?_
  refine lv_iconst (v := 0) hx hb dL_writePreferences_1 (by decide) ?_
  refine lv_aload_n hx hb dL_writePreferences_2 rfl (lv_at hl 0 rfl) ?_
  refine lv_iload_n hx hb dL_writePreferences_3 rfl (lv_at hl 1 rfl) ?_
  refine hx_i cx hp (yx_V (As := [.int p1]) (rest := [.int 0, .ref (adr E 21 0)]) cx hp hl (c_X12_writePreferences l (Nat.le_trans (by decide) hN) hT hlf hf) (cw_L_119 cx (mc := 1) (ms := 6) rfl rfl ⟨by decide, by decide⟩) (rC_X12 (Nat.le_trans (by decide) hN) cx hp) rfl rfl (Nat.le_of_ble_eq_true rfl) dL_writePreferences_4 ⟨by decide, by decide⟩) (fun k H locs ce q hk hp h1 h2 h3 => ?_) (fun r u H locs hq hp => ?_)
  · rcases hz with ⟨j, k', hj, hz, rfl, rfl⟩ | ⟨r, τ, hz, -, -⟩
    · obtain rfl : k' = k := Sum.inl.inj (hz.symm.trans hk)
      rcases j with _ | j
      · obtain rfl : 2 = k' := Option.some.inj hj
        refine vx_catch cx.1.2.2.2.1 [] ⟨0, 9, 12, 24⟩ [] hxt (fun _ h => absurd h List.not_mem_nil) rfl (by decide) (cx.1.2.2.2.2 _ qK_L_24) (va_Nw.use (nb_tab qX_java_lang_IndexOutOfBoundsException_java_lang_IndexOutOfBoundsException) (cx.2.2.1.2.2.1 _ qX_java_lang_IndexOutOfBoundsException_java_lang_IndexOutOfBoundsException)) h1 h2 h3 ?_
        refine lv_astore_n (lv' := [(3, .ref q), (0, .ref (adr E 19 0)), (1, .int p1), (2, .ref (adr E 21 0))]) hx hb dL_writePreferences_12 rfl hl (by decide) rfl (fun ls hl => ?_)
        refine lv_iconst (v := 1) hx hb dL_writePreferences_13 (by decide) ?_
        exact r_i cx hp ⟨by decide, rfl⟩ dL_writePreferences_14
      · exact absurd hj (by simp)
    · exact absurd (hz.symm.trans hk) (fun h9 => by cases h9)
  · rcases hz with ⟨j, k', hj, hz, -, -⟩ | ⟨r', τ, hz, rfl, rfl⟩
    · exact absurd (hz.symm.trans hq) (fun h9 => by cases h9)
    · obtain ⟨rfl, rfl⟩ := Prod.mk.inj (Sum.inr.inj (hz.symm.trans hq))
      refine lv_i2l hx hb dL_writePreferences_7 rfl ?_
      refine s_out hN cx hp dL_writePreferences_8 (fun H locs hp => ?_)
      refine lv_goto (tgt := 15) hx hb dL_writePreferences_9 (by decide) ?_
      refine lv_iconst (v := 0) hx hb dL_writePreferences_15 (by decide) ?_
      exact r_i cx hp ⟨by decide, rfl⟩ dL_writePreferences_16
theorem cwS_L_writePreferences {p : Program} {R : Room} {s : State} {m : MethodId} {args : Array Value} {meth : Method} {c : Code} {E : Ev} {cc : ByteArray} {nL : Nat} {ret : Option FieldType} (cx : Cx E p s m meth c args RL cc nL ret) (hR : rm_L_writePreferences.frames + 1 ≤ R.frames ∧ 8 + (4 + 11) + rm_L_writePreferences.locals ≤ R.locals) : vx_CSW R s args RL 333 yL_writePreferences cL_writePreferences 4 (some .int) [(0, 9, 12, 24)] (wW yL_writePreferences cL_writePreferences 4 (some .int) [(0, 9, 12, 24)]) rm_L_writePreferences 1 6 3 := vx_cwSW 3 cx.1.2.2.2.2 (gd_SW qM_L_333 qT_L_writePreferences qN_L qW_L_writePreferences) rfl rfl rfl (by decide +kernel) hR
theorem qW_L_restore : Cond.codeWith yL_restore cL_restore 3 (some .int) [(0, 8, 11, 13)] ∈ TB := tb_of 1349 (by decide +kernel) (by decide +kernel)
abbrev rm_L_restore : Room := { frames := 7, cells := 1, slots := 6, locals := 102 }
set_option maxRecDepth 100000 in
set_option maxHeartbeats 4000000 in
theorem c_L_restore (l : Launch) {E : Ev} (hN : 147 ≤ eN E) (hT : St E) (hlf : l.stackTraces = false) (hC : NC E) {σ σ' : SM} {z : Nat ⊕ (Int32 × SM)} {rv : Int32} (hf : f_X12_restore  σ = some z) (hz : HM oI [0] z σ rv σ') : Met l yL_restore (wW yL_restore cL_restore 3 (some .int) [(0, 8, 11, 13)]) rm_L_restore (va_Pc [.ref (adr E 19 0), .ref (adr E 21 0)] (Wu E σ)) (va_Qi (fun r u => rv = r ∧ σ' = u) (fun u t => Wu E u t) (eA E)) 1 6 (eA E) := by
  refine gW_entry (lv := [(0, .ref (adr E 19 0)), (1, .ref (adr E 21 0))]) (by decide) (Nat.le_of_ble_eq_true rfl) rfl ?_
  intro p e s m below meth c cx hxt hp ls hl
  have hx := cx.1.1
  have hb := cx.1.2.1
  refine lv_aload_n hx hb dL_restore_0 rfl (lv_at hl 1 rfl) ?_
  refine lv_iconst (v := 0) hx hb dL_restore_1 (by decide) ?_
  refine lv_aload_n hx hb dL_restore_2 rfl (lv_at hl 0 rfl) ?_
  refine hx_i cx hp (yx_V (As := []) (rest := [.int 0, .ref (adr E 21 0)]) cx hp hl (c_X12_restore l (Nat.le_trans (by decide) hN) hT hlf hf) (cw_L_122 cx (mc := 1) (ms := 6) rfl rfl ⟨by decide, by decide⟩) (rC_X12 (Nat.le_trans (by decide) hN) cx hp) rfl rfl (Nat.le_of_ble_eq_true rfl) dL_restore_3 ⟨by decide, by decide⟩) (fun k H locs ce q hk hp h1 h2 h3 => ?_) (fun r u H locs hq hp => ?_)
  · rcases hz with ⟨j, k', hj, hz, rfl, rfl⟩ | ⟨r, τ, hz, -, -⟩
    · obtain rfl : k' = k := Sum.inl.inj (hz.symm.trans hk)
      rcases j with _ | j
      · obtain rfl : 0 = k' := Option.some.inj hj
        refine vx_catch cx.1.2.2.2.1 [] ⟨0, 8, 11, 13⟩ [] hxt (fun _ h => absurd h List.not_mem_nil) rfl (by decide) (cx.1.2.2.2.2 _ qK_L_13) (va_Nw.use (nb_tab qX_java_lang_IllegalStateException_java_lang_IllegalStateException) (cx.2.2.1.2.2.1 _ qX_java_lang_IllegalStateException_java_lang_IllegalStateException)) h1 h2 h3 ?_
        refine lv_astore_n (lv' := [(2, .ref q), (0, .ref (adr E 19 0)), (1, .ref (adr E 21 0))]) hx hb dL_restore_11 rfl hl (by decide) rfl (fun ls hl => ?_)
        refine lv_iconst (v := 1) hx hb dL_restore_12 (by decide) ?_
        exact r_i cx hp ⟨by decide, rfl⟩ dL_restore_13
      · exact absurd hj (by simp)
    · exact absurd (hz.symm.trans hk) (fun h9 => by cases h9)
  · rcases hz with ⟨j, k', hj, hz, -, -⟩ | ⟨r', τ, hz, rfl, rfl⟩
    · exact absurd (hz.symm.trans hq) (fun h9 => by cases h9)
    · obtain ⟨rfl, rfl⟩ := Prod.mk.inj (Sum.inr.inj (hz.symm.trans hq))
      refine lv_i2l hx hb dL_restore_6 rfl ?_
      refine s_out hN cx hp dL_restore_7 (fun H locs hp => ?_)
      refine lv_goto (tgt := 14) hx hb dL_restore_8 (by decide) ?_
      refine lv_iconst (v := 0) hx hb dL_restore_14 (by decide) ?_
      exact r_i cx hp ⟨by decide, rfl⟩ dL_restore_15
theorem cwS_L_restore {p : Program} {R : Room} {s : State} {m : MethodId} {args : Array Value} {meth : Method} {c : Code} {E : Ev} {cc : ByteArray} {nL : Nat} {ret : Option FieldType} (cx : Cx E p s m meth c args RL cc nL ret) (hR : rm_L_restore.frames + 1 ≤ R.frames ∧ 8 + (3 + 11) + rm_L_restore.locals ≤ R.locals) : vx_CSW R s args RL 352 yL_restore cL_restore 3 (some .int) [(0, 8, 11, 13)] (wW yL_restore cL_restore 3 (some .int) [(0, 8, 11, 13)]) rm_L_restore 1 6 2 := vx_cwSW 2 cx.1.2.2.2.2 (gd_SW qM_L_352 qT_L_restore qN_L qW_L_restore) rfl rfl rfl (by decide +kernel) hR

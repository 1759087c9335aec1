abbrev rm_L_law : Room := room_1
set_option maxRecDepth 100000 in
set_option maxHeartbeats 4000000 in
theorem L_L_law_68 {p : Program} {e : Env} {s : State} {m : MethodId} {args : Array Value} {below : List Frame} {meth : Method} {c : Code} (l : Launch) {E : Ev} (hN : 151 ≤ eN E) (hT : St E) {b Ls : Nat} {xs : Nat → Int32} (SX : va_T .int b Ls (fun j => .int (xs j)) (eA E) (eS E) (eS E).heap) {Q : State → Prop} (cx : Cx E p s m meth c args RL cL_law 5 (some .boolean)) {x3 : Int32} {σ' : SM} (K : ∀ (H : Heap) (locs : List Loc) (ls : Array Slot), Hp E σ' s H locs → lv_has ls 5 [(0, .ref b), (1, .ref (adr E 19 0)), (2, .ref (adr E 20 0)), (3, .int x3)] → W p l e rm_L_law s m args below meth c H locs 151 4270 Q (F0 m 154 ls [])) : ∀ (n : Nat) {x4 : Int32} {σ : SM}, f_L_law_68  n x4 σ = some σ' → ∀ {H : Heap} {locs : List Loc} {ls : Array Slot}, Hp E σ s H locs → lv_has ls 5 [(0, .ref b), (1, .ref (adr E 19 0)), (2, .ref (adr E 20 0)), (3, .int x3), (4, .int x4)] → W p l e rm_L_law s m args below meth c H locs 151 4270 Q (F0 m 68 ls []) := by
  have hx := cx.1.1
  have hb := cx.1.2.1
  intro n
  induction n with
  | zero =>
    intro x4 σ hf
    exact absurd hf (by simp [f_L_law_68])
  | succ n ih =>
    intro x4 σ hf H locs ls hp hl
    rw [f_L_law_68] at hf
    refine lv_iload hx hb dL_law_68 (lv_at hl 4 rfl) ?_
    refine lv_aload_n hx hb dL_law_70 rfl (lv_at hl 2 rfl) ?_
    refine gF_L_34 rfl hN cx hp dL_law_71 ?_
    refine lv_icmp_ge (tgt := 154) hx hb dL_law_74 (by decide) (fun c12 => ?_) (fun c12 => ?_)
    · have hf := fp hf c12
      cases hf
      exact K _ _ _  hp (lv_sub hl [0, 1, 2, 3] rfl)
    · have hf := fn hf c12
      refine lv_aload_n hx hb dL_law_77 rfl (lv_at hl 1 rfl) ?_
      refine lv_iload hx hb dL_law_78 (lv_at hl 4 rfl) ?_
      obtain ⟨r13, σ14, hc, hf⟩ := fb2 hf
      refine x_i hp (y_V (As := [.int x4]) (rest := []) cx hp hl (c_X12_allocatedStall l (Nat.le_trans (by decide) hN) hT  hc) (cw_L_37 cx (mc := 0) (ms := 0) rfl rfl ⟨by decide, by decide⟩) (rC_X12 (Nat.le_trans (by decide) hN) cx hp) rfl rfl (Nat.le_of_ble_eq_true rfl) dL_law_80 ⟨Nat.le_of_ble_eq_true rfl, Nat.le_of_ble_eq_true rfl⟩) (fun r_c u_c H locs hq hp => ?_)
      obtain ⟨rfl, rfl⟩ := hq
      refine lv_aload_n hx hb dL_law_83 rfl (lv_at hl 2 rfl) ?_
      refine gF_L_41 rfl hN cx hp dL_law_84 ?_
      refine lv_iload hx hb dL_law_87 (lv_at hl 4 rfl) ?_
      obtain ⟨g_i, hf⟩ := fg hf
      refine lA_X13_10 rfl hN cx hp g_i dL_law_89 ?_
      refine lv_icmp_eq (tgt := 95) hx hb dL_law_90 (by decide) (fun c15 => ?_) (fun c15 => ?_)
      · have hf := fp hf c15
        refine lv_aload_n hx hb dL_law_95 rfl (lv_at hl 2 rfl) ?_
        refine gF_L_45 rfl hN cx hp dL_law_96 ?_
        refine lv_iload hx hb dL_law_99 (lv_at hl 4 rfl) ?_
        obtain ⟨g_i, hf⟩ := fg hf
        refine lA_X13_5 rfl hN cx hp g_i dL_law_101 ?_
        refine lv_iconst (v := (-1)) hx hb dL_law_102 (by decide) ?_
        refine lv_icmp_eq (tgt := 148) hx hb dL_law_103 (by decide) (fun c16 => ?_) (fun c16 => ?_)
        · have hf := fp hf c16
          refine lv_iinc (v := (x4 + 1)) (lv' := [(4, .int (x4 + 1)), (0, .ref b), (1, .ref (adr E 19 0)), (2, .ref (adr E 20 0)), (3, .int x3)]) hx hb dL_law_148 hl (k := 4) rfl rfl (by decide) rfl (fun ls hl => ?_)
          refine lv_goto (tgt := 68) hx hb dL_law_151 (by decide) ?_
          exact ih  hf hp (lv_sub hl [1, 2, 3, 4, 0] rfl)
        · have hf := fn hf c16
          refine lv_aload_n hx hb dL_law_106 rfl (lv_at hl 2 rfl) ?_
          refine lv_iload hx hb dL_law_107 (lv_at hl 4 rfl) ?_
          refine lv_aload_n hx hb dL_law_109 rfl (lv_at hl 2 rfl) ?_
          refine gF_L_45 rfl hN cx hp dL_law_110 ?_
          refine lv_iload hx hb dL_law_113 (lv_at hl 4 rfl) ?_
          obtain ⟨g_i, hf⟩ := fg hf
          refine lA_X13_5 rfl hN cx hp g_i dL_law_115 ?_
          obtain ⟨r17, hc, hf⟩ := fb hf
          refine x_i hp (y_V (As := [.int x4, .int ((σ14 20).1 5 (Int32.toNatClampNeg x4))]) (rest := []) cx hp hl (c_X13_rank l hN hT rfl hc) (cw_L_48 cx (mc := 0) (ms := 0) rfl rfl ⟨by decide, by decide⟩) (rC_X13 hN cx hp) rfl rfl (Nat.le_of_ble_eq_true rfl) dL_law_116 ⟨Nat.le_of_ble_eq_true rfl, Nat.le_of_ble_eq_true rfl⟩) (fun r_c u_c H locs hq hp => ?_)
          obtain ⟨rfl, rfl⟩ := hq
          refine lv_iconst (v := (-1)) hx hb dL_law_119 (by decide) ?_
          refine lv_icmp_eq (tgt := 148) hx hb dL_law_120 (by decide) (fun c18 => ?_) (fun c18 => ?_)
          · have hf := fp hf c18
            refine lv_iinc (v := (x4 + 1)) (lv' := [(4, .int (x4 + 1)), (0, .ref b), (1, .ref (adr E 19 0)), (2, .ref (adr E 20 0)), (3, .int x3)]) hx hb dL_law_148 hl (k := 4) rfl rfl (by decide) rfl (fun ls hl => ?_)
            refine lv_goto (tgt := 68) hx hb dL_law_151 (by decide) ?_
            exact ih  hf hp (lv_sub hl [1, 2, 3, 4, 0] rfl)
          · have hf := fn hf c18
            refine lv_aload_n hx hb dL_law_123 rfl (lv_at hl 2 rfl) ?_
            refine lv_iload hx hb dL_law_124 (lv_at hl 4 rfl) ?_
            refine lv_aload_n hx hb dL_law_126 rfl (lv_at hl 2 rfl) ?_
            refine gF_L_45 rfl hN cx hp dL_law_127 ?_
            refine lv_iload hx hb dL_law_130 (lv_at hl 4 rfl) ?_
            obtain ⟨g_i, hf⟩ := fg hf
            refine lA_X13_5 rfl hN cx hp g_i dL_law_132 ?_
            refine lv_aload_n hx hb dL_law_133 rfl (lv_at hl 2 rfl) ?_
            refine gF_L_41 rfl hN cx hp dL_law_134 ?_
            refine lv_iload hx hb dL_law_137 (lv_at hl 4 rfl) ?_
            obtain ⟨g_i, hf⟩ := fg hf
            refine lA_X13_10 rfl hN cx hp g_i dL_law_139 ?_
            obtain ⟨r19, hc, hf⟩ := fb hf
            refine x_i hp (y_V (As := [.int x4, .int ((σ14 20).1 5 (Int32.toNatClampNeg x4)), .int ((σ14 20).1 10 (Int32.toNatClampNeg x4))]) (rest := []) cx hp hl (c_X13_likes l hN hT rfl hc) (cw_L_52 cx (mc := 0) (ms := 0) rfl rfl ⟨by decide, by decide⟩) (rC_X13 hN cx hp) rfl rfl (Nat.le_of_ble_eq_true rfl) dL_law_140 ⟨Nat.le_of_ble_eq_true rfl, Nat.le_of_ble_eq_true rfl⟩) (fun r_c u_c H locs hq hp => ?_)
            obtain ⟨rfl, rfl⟩ := hq
            refine lv_if_eq (tgt := 148) hx hb dL_law_143 (by decide) (fun c20 => ?_) (fun c20 => ?_)
            · have hf := fp hf c20
              refine lv_iinc (v := (x4 + 1)) (lv' := [(4, .int (x4 + 1)), (0, .ref b), (1, .ref (adr E 19 0)), (2, .ref (adr E 20 0)), (3, .int x3)]) hx hb dL_law_148 hl (k := 4) rfl rfl (by decide) rfl (fun ls hl => ?_)
              refine lv_goto (tgt := 68) hx hb dL_law_151 (by decide) ?_
              exact ih  hf hp (lv_sub hl [1, 2, 3, 4, 0] rfl)
            · have hf := fn hf c20
              cases hf
      · have hf := fn hf c15
        cases hf
set_option maxRecDepth 100000 in
set_option maxHeartbeats 4000000 in
theorem L_L_law_41 {p : Program} {e : Env} {s : State} {m : MethodId} {args : Array Value} {below : List Frame} {meth : Method} {c : Code} (l : Launch) {E : Ev} (hN : 151 ≤ eN E) (hT : St E) {b Ls : Nat} {xs : Nat → Int32} (SX : va_T .int b Ls (fun j => .int (xs j)) (eA E) (eS E) (eS E).heap) {Q : State → Prop} (cx : Cx E p s m meth c args RL cL_law 5 (some .boolean)) {σ' : SM} (K : ∀ (H : Heap) (locs : List Loc) (ls : Array Slot), Hp E σ' s H locs → lv_has ls 5 [] → W p l e rm_L_law s m args below meth c H locs 151 4270 Q (F0 m 223 ls [])) : ∀ (n : Nat) {x3 : Int32} {σ : SM}, f_L_law_41 xs Ls n x3 σ = some σ' → ∀ {H : Heap} {locs : List Loc} {ls : Array Slot}, Hp E σ s H locs → lv_has ls 5 [(0, .ref b), (1, .ref (adr E 19 0)), (2, .ref (adr E 20 0)), (3, .int x3)] → W p l e rm_L_law s m args below meth c H locs 151 4270 Q (F0 m 41 ls []) := by
  have hx := cx.1.1
  have hb := cx.1.2.1
  intro n
  induction n with
  | zero =>
    intro x3 σ hf
    exact absurd hf (by simp [f_L_law_41])
  | succ n ih =>
    intro x3 σ hf H locs ls hp hl
    rw [f_L_law_41] at hf
    refine lv_iload_n hx hb dL_law_41 rfl (lv_at hl 3 rfl) ?_
    refine lv_bipush (v := 36) hx hb dL_law_42 (by decide) ?_
    refine lv_icmp_ge (tgt := 223) hx hb dL_law_44 (by decide) (fun c7 => ?_) (fun c7 => ?_)
    · have hf := fp hf c7
      cases hf
      exact K _ _ _  hp (lv_sub hl [] rfl)
    · have hf := fn hf c7
      refine lv_aload_n hx hb dL_law_47 rfl (lv_at hl 2 rfl) ?_
      refine lv_dup hx hb dL_law_48 rfl ?_
      refine gF_L_27 rfl hN cx hp dL_law_49 ?_
      refine lv_aload_n hx hb dL_law_52 rfl (lv_at hl 0 rfl) ?_
      refine lv_iload_n hx hb dL_law_53 rfl (lv_at hl 3 rfl) ?_
      obtain ⟨r8, hc, hf⟩ := fb hf
      refine x_i hp (y_S (As := [.ref b, .int x3]) (rest := [.int ((σ 20).1 0 12), .ref (adr E 20 0)]) cx hp hl (c_L_pick l hN hT SX  hc) (cw_L_13 cx (mc := 0) (ms := 0) rfl rfl ⟨by decide, by decide⟩) rfl rfl (Nat.le_of_ble_eq_true rfl) dL_law_54 ⟨Nat.le_of_ble_eq_true rfl, Nat.le_of_ble_eq_true rfl⟩) (fun r_c u_c H locs hq hp => ?_)
      obtain ⟨rfl, rfl⟩ := hq
      refine lv_iadd hx hb dL_law_57 ?_
      obtain ⟨σ9, e_l, hf⟩ := fl hf
      refine pF_L_27 rfl hN cx hp dL_law_58 (fun u H locs e_u n_u hp => ?_)
      obtain rfl := ((us_x e_u n_u).trans e_l).symm
      refine lv_aload_n hx hb dL_law_61 rfl (lv_at hl 2 rfl) ?_
      obtain ⟨m10, hc, hf⟩ := fb hf
      refine x_v hp (y_V (As := []) (rest := []) cx hp hl (c_X13_mechanism l hN hT rfl hc) (cw_L_31 cx (mc := 0) (ms := 0) rfl rfl ⟨by decide, by decide⟩) (rC_X13 hN cx hp) rfl rfl (Nat.le_of_ble_eq_true rfl) dL_law_62 ⟨Nat.le_of_ble_eq_true rfl, Nat.le_of_ble_eq_true rfl⟩) (fun u_c H locs hq hp => ?_)
      obtain ⟨e_0, n_u⟩ := hq
      obtain ⟨σ11, e_l, hf⟩ := fl hf
      obtain rfl := ((us_x e_0 n_u).trans e_l).symm
      refine lv_iconst (v := 0) hx hb dL_law_65 (by decide) ?_
      refine lv_istore (lv' := [(4, .int 0), (0, .ref b), (1, .ref (adr E 19 0)), (2, .ref (adr E 20 0)), (3, .int x3)]) hx hb dL_law_66 hl (by decide) rfl (fun ls hl => ?_)
      obtain ⟨σ21, hc, hf⟩ := fb hf
      refine L_L_law_68 l hN hT SX cx  (fun H locs ls hp hl => ?_) _ hc hp (lv_sub hl [1, 2, 3, 4, 0] rfl)
      refine lv_aload_n hx hb dL_law_154 rfl (lv_at hl 2 rfl) ?_
      refine lv_aload_n hx hb dL_law_155 rfl (lv_at hl 1 rfl) ?_
      obtain ⟨r22, σ23, hc, hf⟩ := fb2 hf
      refine x_i hp (y_V (As := [.ref (adr E 19 0)]) (rest := []) cx hp hl (c_X13_act l hN hT  hc) (cw_L_56 cx (mc := 0) (ms := 0) rfl rfl ⟨by decide, by decide⟩) (rC_X13 hN cx hp) rfl rfl (Nat.le_of_ble_eq_true rfl) dL_law_156 ⟨Nat.le_of_ble_eq_true rfl, Nat.le_of_ble_eq_true rfl⟩) (fun r_c u_c H locs hq hp => ?_)
      obtain ⟨rfl, rfl⟩ := hq
      refine lv_if_eq (tgt := 177) hx hb dL_law_159 (by decide) (fun c24 => ?_) (fun c24 => ?_)
      · have hf := fp hf c24
        cases hf
      · have hf := fn hf c24
        refine lv_aload_n hx hb dL_law_162 rfl (lv_at hl 2 rfl) ?_
        refine lv_aload_n hx hb dL_law_163 rfl (lv_at hl 1 rfl) ?_
        obtain ⟨r25, hc, hf⟩ := fb hf
        refine x_i hp (y_V (As := [.ref (adr E 19 0)]) (rest := []) cx hp hl (c_X13_isSame l hN hT  hc) (cw_L_23 cx (mc := 0) (ms := 0) rfl rfl ⟨by decide, by decide⟩) (rC_X13 hN cx hp) rfl rfl (Nat.le_of_ble_eq_true rfl) dL_law_164 ⟨Nat.le_of_ble_eq_true rfl, Nat.le_of_ble_eq_true rfl⟩) (fun r_c u_c H locs hq hp => ?_)
        obtain ⟨rfl, rfl⟩ := hq
        refine lv_if_eq (tgt := 177) hx hb dL_law_167 (by decide) (fun c26 => ?_) (fun c26 => ?_)
        · have hf := fp hf c26
          cases hf
        · have hf := fn hf c26
          refine lv_aload_n hx hb dL_law_170 rfl (lv_at hl 1 rfl) ?_
          obtain ⟨r27, hc, hf⟩ := fb hf
          refine x_i hp (y_V (As := []) (rest := []) cx hp hl (c_X12_ledgerDifference l (Nat.le_trans (by decide) hN) hT  hc) (cw_L_59 cx (mc := 0) (ms := 0) rfl rfl ⟨by decide, by decide⟩) (rC_X12 (Nat.le_trans (by decide) hN) cx hp) rfl rfl (Nat.le_of_ble_eq_true rfl) dL_law_171 ⟨Nat.le_of_ble_eq_true rfl, Nat.le_of_ble_eq_true rfl⟩) (fun r_c u_c H locs hq hp => ?_)
          obtain ⟨rfl, rfl⟩ := hq
          refine lv_if_eq (tgt := 179) hx hb dL_law_174 (by decide) (fun c28 => ?_) (fun c28 => ?_)
          · have hf := fp hf c28
            refine lv_iload_n hx hb dL_law_179 rfl (lv_at hl 3 rfl) ?_
            refine lv_bipush (v := 6) hx hb dL_law_180 (by decide) ?_
            refine lv_irem hx hb dL_law_182 (by decide) ?_
            refine lv_if_ne (tgt := 217) hx hb dL_law_183 (by decide) (fun c29 => ?_) (fun c29 => ?_)
            · have hf := fn hf c29
              refine lv_iinc (v := (x3 + 1)) (lv' := [(3, .int (x3 + 1)), (0, .ref b), (1, .ref (adr E 19 0)), (2, .ref (adr E 20 0))]) hx hb dL_law_217 hl (k := 3) rfl rfl (by decide) rfl (fun ls hl => ?_)
              refine lv_goto (tgt := 41) hx hb dL_law_220 (by decide) ?_
              exact ih  hf hp (lv_sub hl [1, 2, 3, 0] rfl)
            · have hf := fp hf c29
              refine lv_aload_n hx hb dL_law_186 rfl (lv_at hl 1 rfl) ?_
              obtain ⟨r30, σ31, hc, hf⟩ := fb2 hf
              refine x_i hp (y_V (As := []) (rest := []) cx hp hl (c_X12_reallocate l (Nat.le_trans (by decide) hN) hT  hc) (cw_L_63 cx (mc := 0) (ms := 0) rfl rfl ⟨by decide, by decide⟩) (rC_X12 (Nat.le_trans (by decide) hN) cx hp) rfl rfl (Nat.le_of_ble_eq_true rfl) dL_law_187 ⟨Nat.le_of_ble_eq_true rfl, Nat.le_of_ble_eq_true rfl⟩) (fun r_c u_c H locs hq hp => ?_)
              obtain ⟨rfl, rfl⟩ := hq
              refine lv_if_lt (tgt := 215) hx hb dL_law_190 (by decide) (fun c32 => ?_) (fun c32 => ?_)
              · have hf := fp hf c32
                cases hf
              · have hf := fn hf c32
                refine lv_aload_n hx hb dL_law_193 rfl (lv_at hl 1 rfl) ?_
                obtain ⟨r33, hc, hf⟩ := fb hf
                refine x_i hp (y_V (As := []) (rest := []) cx hp hl (c_X12_isEfficient l (Nat.le_trans (by decide) hN) hT  hc) (cw_L_66 cx (mc := 0) (ms := 0) rfl rfl ⟨by decide, by decide⟩) (rC_X12 (Nat.le_trans (by decide) hN) cx hp) rfl rfl (Nat.le_of_ble_eq_true rfl) dL_law_194 ⟨Nat.le_of_ble_eq_true rfl, Nat.le_of_ble_eq_true rfl⟩) (fun r_c u_c H locs hq hp => ?_)
                obtain ⟨rfl, rfl⟩ := hq
                refine lv_if_eq (tgt := 215) hx hb dL_law_197 (by decide) (fun c34 => ?_) (fun c34 => ?_)
                · have hf := fp hf c34
                  cases hf
                · have hf := fn hf c34
                  refine lv_aload_n hx hb dL_law_200 rfl (lv_at hl 1 rfl) ?_
                  obtain ⟨r35, σ36, hc, hf⟩ := fb2 hf
                  refine x_i hp (y_V (As := []) (rest := []) cx hp hl (c_X12_undo l (Nat.le_trans (by decide) hN) hT  hc) (cw_L_70 cx (mc := 0) (ms := 0) rfl rfl ⟨by decide, by decide⟩) (rC_X12 (Nat.le_trans (by decide) hN) cx hp) rfl rfl (Nat.le_of_ble_eq_true rfl) dL_law_201 ⟨Nat.le_of_ble_eq_true rfl, Nat.le_of_ble_eq_true rfl⟩) (fun r_c u_c H locs hq hp => ?_)
                  obtain ⟨rfl, rfl⟩ := hq
                  refine lv_if_lt (tgt := 215) hx hb dL_law_204 (by decide) (fun c37 => ?_) (fun c37 => ?_)
                  · have hf := fp hf c37
                    cases hf
                  · have hf := fn hf c37
                    refine lv_aload_n hx hb dL_law_207 rfl (lv_at hl 2 rfl) ?_
                    refine lv_aload_n hx hb dL_law_208 rfl (lv_at hl 1 rfl) ?_
                    obtain ⟨r38, hc, hf⟩ := fb hf
                    refine x_i hp (y_V (As := [.ref (adr E 19 0)]) (rest := []) cx hp hl (c_X13_isSame l hN hT  hc) (cw_L_23 cx (mc := 0) (ms := 0) rfl rfl ⟨by decide, by decide⟩) (rC_X13 hN cx hp) rfl rfl (Nat.le_of_ble_eq_true rfl) dL_law_209 ⟨Nat.le_of_ble_eq_true rfl, Nat.le_of_ble_eq_true rfl⟩) (fun r_c u_c H locs hq hp => ?_)
                    obtain ⟨rfl, rfl⟩ := hq
                    refine lv_if_ne (tgt := 217) hx hb dL_law_212 (by decide) (fun c39 => ?_) (fun c39 => ?_)
                    · have hf := fn hf c39
                      refine lv_iinc (v := (x3 + 1)) (lv' := [(3, .int (x3 + 1)), (0, .ref b), (1, .ref (adr E 19 0)), (2, .ref (adr E 20 0))]) hx hb dL_law_217 hl (k := 3) rfl rfl (by decide) rfl (fun ls hl => ?_)
                      refine lv_goto (tgt := 41) hx hb dL_law_220 (by decide) ?_
                      exact ih  hf hp (lv_sub hl [1, 2, 3, 0] rfl)
                    · have hf := fp hf c39
                      cases hf
          · have hf := fn hf c28
            cases hf
set_option maxRecDepth 100000 in
set_option maxHeartbeats 4000000 in
theorem L_L_law_16 {p : Program} {e : Env} {s : State} {m : MethodId} {args : Array Value} {below : List Frame} {meth : Method} {c : Code} (l : Launch) {E : Ev} (hN : 151 ≤ eN E) (hT : St E) {b Ls : Nat} {xs : Nat → Int32} (SX : va_T .int b Ls (fun j => .int (xs j)) (eA E) (eS E) (eS E).heap) {Q : State → Prop} (cx : Cx E p s m meth c args RL cL_law 5 (some .boolean)) {σ' : SM} (K : ∀ (H : Heap) (locs : List Loc) (ls : Array Slot), Hp E σ' s H locs → lv_has ls 5 [] → W p l e rm_L_law s m args below meth c H locs 151 4270 Q (F0 m 223 ls [])) : ∀ (n : Nat) {σ : SM}, f_L_law_16 xs Ls n σ = some σ' → ∀ {H : Heap} {locs : List Loc} {ls : Array Slot}, Hp E σ s H locs → lv_has ls 5 [(0, .ref b), (1, .ref (adr E 19 0)), (2, .ref (adr E 20 0))] → W p l e rm_L_law s m args below meth c H locs 151 4270 Q (F0 m 16 ls []) := by
  have hx := cx.1.1
  have hb := cx.1.2.1
  intro n
  induction n with
  | zero =>
    intro σ hf
    exact absurd hf (by simp [f_L_law_16])
  | succ n ih =>
    intro σ hf H locs ls hp hl
    rw [f_L_law_16] at hf
    refine lv_aload_n hx hb dL_law_16 rfl (lv_at hl 2 rfl) ?_
    refine lv_aload_n hx hb dL_law_17 rfl (lv_at hl 1 rfl) ?_
    refine lv_aload_n hx hb dL_law_18 rfl (lv_at hl 0 rfl) ?_
    refine lv_iconst (v := 0) hx hb dL_law_19 (by decide) ?_
    obtain ⟨r1, hc, hf⟩ := fb hf
    refine x_i hp (y_S (As := [.ref b, .int 0]) (rest := [.ref (adr E 19 0), .ref (adr E 20 0)]) cx hp hl (c_L_pick l hN hT SX  hc) (cw_L_13 cx (mc := 0) (ms := 0) rfl rfl ⟨by decide, by decide⟩) rfl rfl (Nat.le_of_ble_eq_true rfl) dL_law_20 ⟨Nat.le_of_ble_eq_true rfl, Nat.le_of_ble_eq_true rfl⟩) (fun r_c u_c H locs hq hp => ?_)
    obtain ⟨rfl, rfl⟩ := hq
    obtain ⟨r2, σ3, hc, hf⟩ := fb2 hf
    refine x_i hp (y_V (As := [.ref (adr E 19 0), .int r1]) (rest := []) cx hp hl (c_X13_begin l hN hT  hc) (cw_L_19 cx (mc := 0) (ms := 0) rfl rfl ⟨by decide, by decide⟩) (rC_X13 hN cx hp) rfl rfl (Nat.le_of_ble_eq_true rfl) dL_law_23 ⟨Nat.le_of_ble_eq_true rfl, Nat.le_of_ble_eq_true rfl⟩) (fun r_c u_c H locs hq hp => ?_)
    obtain ⟨rfl, rfl⟩ := hq
    refine lv_if_eq (tgt := 37) hx hb dL_law_26 (by decide) (fun c4 => ?_) (fun c4 => ?_)
    · have hf := fp hf c4
      cases hf
    · have hf := fn hf c4
      refine lv_aload_n hx hb dL_law_29 rfl (lv_at hl 2 rfl) ?_
      refine lv_aload_n hx hb dL_law_30 rfl (lv_at hl 1 rfl) ?_
      obtain ⟨r5, hc, hf⟩ := fb hf
      refine x_i hp (y_V (As := [.ref (adr E 19 0)]) (rest := []) cx hp hl (c_X13_isSame l hN hT  hc) (cw_L_23 cx (mc := 0) (ms := 0) rfl rfl ⟨by decide, by decide⟩) (rC_X13 hN cx hp) rfl rfl (Nat.le_of_ble_eq_true rfl) dL_law_31 ⟨Nat.le_of_ble_eq_true rfl, Nat.le_of_ble_eq_true rfl⟩) (fun r_c u_c H locs hq hp => ?_)
      obtain ⟨rfl, rfl⟩ := hq
      refine lv_if_ne (tgt := 39) hx hb dL_law_34 (by decide) (fun c6 => ?_) (fun c6 => ?_)
      · have hf := fn hf c6
        refine lv_iconst (v := 1) hx hb dL_law_39 (by decide) ?_
        refine lv_istore_n (lv' := [(3, .int 1), (0, .ref b), (1, .ref (adr E 19 0)), (2, .ref (adr E 20 0))]) hx hb dL_law_40 rfl hl (by decide) rfl (fun ls hl => ?_)
        obtain ⟨σ40, hc, hf⟩ := fb hf
        refine L_L_law_41 l hN hT SX cx  (fun H locs ls hp hl => ?_) _ hc hp (lv_sub hl [1, 2, 3, 0] rfl)
        cases hf
        exact K _ _ _  hp (lv_sub hl [] rfl)
      · have hf := fp hf c6
        cases hf

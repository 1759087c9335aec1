abbrev rm_X10_next : Room := { frames := 2, cells := 0, slots := 0, locals := 41 }
set_option maxRecDepth 100000 in
set_option maxHeartbeats 4000000 in
theorem L_X10_next_8 {p : Program} {e : Env} {s : State} {m : MethodId} {args : Array Value} {below : List Frame} {meth : Method} {c : Code} (l : Launch) {E : Ev} (hN : 129 ≤ eN E) (hT : St E) {σ : SM} {Q : State → Prop} (cx : Cx E p s m meth c args RX10 cX10_next 2 none) {β : OM} {τ' : OM} (K : ∀ (u : SM) (H : Heap) (locs : List Loc) (ls : Array Slot), u 12 = τ' → u 13 = β → (∀ q, q ≠ 12 → u q = σ q) → Hp E u s H locs → lv_has ls 2 [(0, .ref (adr E 12 0))] → W p l e rm_X10_next s m args below meth c H locs 0 0 Q (F0 m 51 ls [])) : ∀ (n : Nat) {τ : OM}, f_X10_next_8 β n τ = some τ' → ∀ {u : SM} {H : Heap} {locs : List Loc} {ls : Array Slot}, u 12 = τ → u 13 = β → (∀ q, q ≠ 12 → u q = σ q) → Hp E u s H locs → lv_has ls 2 [(0, .ref (adr E 12 0))] → W p l e rm_X10_next s m args below meth c H locs 0 0 Q (F0 m 8 ls []) := by
  have hx := cx.1.1
  have hb := cx.1.2.1
  have d_13_12 : (13 : Nat) ≠ 12 := by decide
  intro n
  induction n with
  | zero =>
    intro τ hf
    exact absurd hf (by simp [f_X10_next_8])
  | succ n ih =>
    intro τ hf u H locs ls e12 e13 fr hp hl
    rw [f_X10_next_8] at hf
    refine lv_aload_n hx hb dX10_next_8 rfl (lv_at hl 0 rfl) ?_
    refine gF_X10_22 e12 hN cx hp dX10_next_9 ?_
    refine lv_aload_n hx hb dX10_next_12 rfl (lv_at hl 0 rfl) ?_
    refine gF_X10_12 rfl hN cx hp dX10_next_13 ?_
    refine gF_X10_38_13 e13 hN cx hp dX10_next_16 ?_
    refine lv_icmp_ge (tgt := 51) hx hb dX10_next_19 (by decide) (fun c2 => ?_) (fun c2 => ?_)
    · have hf := fp hf c2
      cases hf
      exact K _ _ _ _ e12 e13 fr hp (lv_sub hl [0] rfl)
    · have hf := fn hf c2
      refine lv_aload_n hx hb dX10_next_22 rfl (lv_at hl 0 rfl) ?_
      refine gF_X10_12 rfl hN cx hp dX10_next_23 ?_
      refine lv_aload_n hx hb dX10_next_26 rfl (lv_at hl 0 rfl) ?_
      refine gF_X10_22 e12 hN cx hp dX10_next_27 ?_
      obtain ⟨r3, hc, hf⟩ := fb hf
      refine x_i hp (y_V (As := [.int (τ.1 0 2)]) (rest := []) cx hp hl (c_X2_byteAt_13 l hN hT e13 hc) (cw_X10_41 cx (mc := 0) (ms := 0) rfl rfl ⟨by decide, by decide⟩) (rC_X2_13 hN cx hp) rfl rfl (Nat.le_of_ble_eq_true rfl) dX10_next_30 ⟨Nat.zero_le _, Nat.zero_le _⟩) (fun r_c u_c H locs hq hp => ?_)
      obtain ⟨rfl, rfl⟩ := hq
      refine lv_bipush (v := 32) hx hb dX10_next_33 (by decide) ?_
      refine lv_icmp_ne (tgt := 51) hx hb dX10_next_35 (by decide) (fun c4 => ?_) (fun c4 => ?_)
      · have hf := fn hf c4
        cases hf
        exact K _ _ _ _ e12 e13 fr hp (lv_sub hl [0] rfl)
      · have hf := fp hf c4
        refine lv_aload_n hx hb dX10_next_38 rfl (lv_at hl 0 rfl) ?_
        refine lv_dup hx hb dX10_next_39 rfl ?_
        refine gF_X10_22 e12 hN cx hp dX10_next_40 ?_
        refine lv_iconst (v := 1) hx hb dX10_next_43 (by decide) ?_
        refine lv_iadd hx hb dX10_next_44 ?_
        obtain ⟨τ5, e_l, hf⟩ := fl hf
        refine pF_X10_22 e12 hN cx hp dX10_next_45 (fun u H locs e_u n_u hp => ?_)
        have e12 := e_u.trans e_l
        have e13 := (n_u _ d_13_12).trans e13
        have fr : ∀ q, q ≠ 12 → u q = σ q := fun q h0 => (n_u q h0).trans (fr q h0)
        refine lv_goto (tgt := 8) hx hb dX10_next_48 (by decide) ?_
        exact ih  hf e12 e13 fr hp (lv_sub hl [0] rfl)
set_option maxRecDepth 100000 in
set_option maxHeartbeats 4000000 in
theorem c_X10_next (l : Launch) {E : Ev} (hN : 129 ≤ eN E) (hT : St E) {σ : SM} {τ : OM} (e12 : σ 12 = τ) {β : OM} (e13 : σ 13 = β)  {τ' : OM} (hf : f_X10_next τ β = some τ') : Met l yX10_next (wC yX10_next cX10_next 2 none) rm_X10_next (va_Pc [.ref (adr E 12 0)] (Wu E σ)) (va_Qv (fun u => u 12 = τ' ∧ ∀ q, q ≠ 12 → u q = σ q) (fun u t => Wu E u t) (eA E)) 0 0 (eA E) := by
  refine g_entry (lv := [(0, .ref (adr E 12 0))]) (by decide) (Nat.le_of_ble_eq_true rfl) rfl ?_
  intro p e s m below meth c cx hp ls hl
  have hx := cx.1.1
  have hb := cx.1.2.1
  have fr : ∀ q, q ≠ 12 → σ q = σ q := fun _ _ => rfl
  have d_13_12 : (13 : Nat) ≠ 12 := by decide
  unfold f_X10_next at hf
  refine lv_aload_n hx hb dX10_next_0 rfl (lv_at hl 0 rfl) ?_
  refine lv_aload_n hx hb dX10_next_1 rfl (lv_at hl 0 rfl) ?_
  refine gF_X10_25 e12 hN cx hp dX10_next_2 ?_
  obtain ⟨τ1, e_l, hf⟩ := fl hf
  refine pF_X10_22 e12 hN cx hp dX10_next_5 (fun u H locs e_u n_u hp => ?_)
  have e12 := e_u.trans e_l
  have e13 := (n_u _ d_13_12).trans e13
  have fr : ∀ q, q ≠ 12 → u q = σ q := fun q h0 => (n_u q h0).trans (fr q h0)
  obtain ⟨τ6, hc, hf⟩ := fb hf
  refine L_X10_next_8 l hN hT cx  (fun u H locs ls e12 e13 fr hp hl => ?_) _ hc e12 e13 fr hp (lv_sub hl [0] rfl)
  refine lv_aload_n hx hb dX10_next_51 rfl (lv_at hl 0 rfl) ?_
  refine lv_aload_n hx hb dX10_next_52 rfl (lv_at hl 0 rfl) ?_
  refine gF_X10_22 e12 hN cx hp dX10_next_53 ?_
  obtain ⟨τ7, e_l, hf⟩ := fl hf
  refine pF_X10_25 e12 hN cx hp dX10_next_56 (fun u H locs e_u n_u hp => ?_)
  have e12 := e_u.trans e_l
  have e13 := (n_u _ d_13_12).trans e13
  have fr : ∀ q, q ≠ 12 → u q = σ q := fun q h0 => (n_u q h0).trans (fr q h0)
  refine lv_aload_n hx hb dX10_next_59 rfl (lv_at hl 0 rfl) ?_
  refine lv_iconst (v := 0) hx hb dX10_next_60 (by decide) ?_
  obtain ⟨τ8, e_l, hf⟩ := fl hf
  refine pF_X10_28 e12 hN cx hp dX10_next_61 (fun u H locs e_u n_u hp => ?_)
  have e12 := e_u.trans e_l
  have e13 := (n_u _ d_13_12).trans e13
  have fr : ∀ q, q ≠ 12 → u q = σ q := fun q h0 => (n_u q h0).trans (fr q h0)
  refine lv_aload_n hx hb dX10_next_64 rfl (lv_at hl 0 rfl) ?_
  refine lv_lconst (v := 0) hx hb dX10_next_65 (by decide) ?_
  obtain ⟨τ9, e_l, hf⟩ := fl hf
  refine pF_X10_31 e12 hN cx hp dX10_next_66 (fun u H locs e_u n_u hp => ?_)
  have e12 := e_u.trans e_l
  have e13 := (n_u _ d_13_12).trans e13
  have fr : ∀ q, q ≠ 12 → u q = σ q := fun q h0 => (n_u q h0).trans (fr q h0)
  refine lv_aload_n hx hb dX10_next_69 rfl (lv_at hl 0 rfl) ?_
  refine gF_X10_12 rfl hN cx hp dX10_next_70 ?_
  refine lv_aload_n hx hb dX10_next_73 rfl (lv_at hl 0 rfl) ?_
  refine gF_X10_22 e12 hN cx hp dX10_next_74 ?_
  obtain ⟨r10, hc, hf⟩ := fb hf
  refine x_i hp (y_V (As := [.int (τ9.1 0 2)]) (rest := []) cx hp hl (c_X2_byteAt_13 l hN hT e13 hc) (cw_X10_41 cx (mc := 0) (ms := 0) rfl rfl ⟨by decide, by decide⟩) (rC_X2_13 hN cx hp) rfl rfl (Nat.le_of_ble_eq_true rfl) dX10_next_77 ⟨Nat.zero_le _, Nat.zero_le _⟩) (fun r_c u_c H locs hq hp => ?_)
  obtain ⟨rfl, rfl⟩ := hq
  refine lv_istore_n (lv' := [(1, .int r10), (0, .ref (adr E 12 0))]) hx hb dX10_next_80 rfl hl (by decide) rfl (fun ls hl => ?_)
  refine lv_iload_n hx hb dX10_next_81 rfl (lv_at hl 0 rfl) ?_
  refine lv_iconst (v := (-1)) hx hb dX10_next_82 (by decide) ?_
  refine lv_icmp_ne (tgt := 94) hx hb dX10_next_83 (by decide) (fun c11 => ?_) (fun c11 => ?_)
  · have hf := fn hf c11
    refine lv_iload_n hx hb dX10_next_94 rfl (lv_at hl 0 rfl) ?_
    obtain ⟨r12, hc, hf⟩ := fb hf
    refine x_i hp (y_S (As := [.int r10]) (rest := []) cx hp hl (c_X10_isLetter l hN hT  hc) (cw_X10_45 cx (mc := 0) (ms := 0) rfl rfl ⟨by decide, by decide⟩) rfl rfl (Nat.le_of_ble_eq_true rfl) dX10_next_95 ⟨Nat.zero_le _, Nat.zero_le _⟩) (fun r_c u_c H locs hq hp => ?_)
    obtain ⟨rfl, rfl⟩ := hq
    refine lv_if_eq (tgt := 108) hx hb dX10_next_98 (by decide) (fun c13 => ?_) (fun c13 => ?_)
    · have hf := fp hf c13
      refine lv_iload_n hx hb dX10_next_108 rfl (lv_at hl 0 rfl) ?_
      obtain ⟨r14, hc, hf⟩ := fb hf
      refine x_i hp (y_S (As := [.int r10]) (rest := []) cx hp hl (c_X10_isDigit l hN hT  hc) (cw_X10_52 cx (mc := 0) (ms := 0) rfl rfl ⟨by decide, by decide⟩) rfl rfl (Nat.le_of_ble_eq_true rfl) dX10_next_109 ⟨Nat.zero_le _, Nat.zero_le _⟩) (fun r_c u_c H locs hq hp => ?_)
      obtain ⟨rfl, rfl⟩ := hq
      refine lv_if_eq (tgt := 122) hx hb dX10_next_112 (by decide) (fun c15 => ?_) (fun c15 => ?_)
      · have hf := fp hf c15
        refine lv_aload_n hx hb dX10_next_122 rfl (lv_at hl 1 rfl) ?_
        refine lv_iload_n hx hb dX10_next_123 rfl (lv_at hl 0 rfl) ?_
        refine lv_bipush (v := 59) hx hb dX10_next_124 (by decide) ?_
        refine lv_icmp_ne (tgt := 133) hx hb dX10_next_126 (by decide) (fun c16 => ?_) (fun c16 => ?_)
        · have hf := fn hf c16
          refine lv_iconst (v := 4) hx hb dX10_next_133 (by decide) ?_
          obtain ⟨τ17, e_l, hf⟩ := fl hf
          refine pF_X10_18 e12 hN cx hp dX10_next_134 (fun u H locs e_u n_u hp => ?_)
          have e12 := e_u.trans e_l
          have e13 := (n_u _ d_13_12).trans e13
          have fr : ∀ q, q ≠ 12 → u q = σ q := fun q h0 => (n_u q h0).trans (fr q h0)
          refine lv_aload_n hx hb dX10_next_137 rfl (lv_at hl 1 rfl) ?_
          refine lv_aload_n hx hb dX10_next_138 rfl (lv_at hl 1 rfl) ?_
          refine gF_X10_22 e12 hN cx hp dX10_next_139 ?_
          refine lv_iconst (v := 1) hx hb dX10_next_142 (by decide) ?_
          refine lv_iadd hx hb dX10_next_143 ?_
          obtain ⟨τ18, e_l, hf⟩ := fl hf
          refine pF_X10_25 e12 hN cx hp dX10_next_144 (fun u H locs e_u n_u hp => ?_)
          have e12 := e_u.trans e_l
          have e13 := (n_u _ d_13_12).trans e13
          have fr : ∀ q, q ≠ 12 → u q = σ q := fun q h0 => (n_u q h0).trans (fr q h0)
          cases hf
          exact r_v cx hp ⟨e12, fr⟩ dX10_next_147
        · have hf := fp hf c16
          refine lv_iconst (v := 3) hx hb dX10_next_129 (by decide) ?_
          refine lv_goto (tgt := 134) hx hb dX10_next_130 (by decide) ?_
          obtain ⟨τ19, e_l, hf⟩ := fl hf
          refine pF_X10_18 e12 hN cx hp dX10_next_134 (fun u H locs e_u n_u hp => ?_)
          have e12 := e_u.trans e_l
          have e13 := (n_u _ d_13_12).trans e13
          have fr : ∀ q, q ≠ 12 → u q = σ q := fun q h0 => (n_u q h0).trans (fr q h0)
          refine lv_aload_n hx hb dX10_next_137 rfl (lv_at hl 1 rfl) ?_
          refine lv_aload_n hx hb dX10_next_138 rfl (lv_at hl 1 rfl) ?_
          refine gF_X10_22 e12 hN cx hp dX10_next_139 ?_
          refine lv_iconst (v := 1) hx hb dX10_next_142 (by decide) ?_
          refine lv_iadd hx hb dX10_next_143 ?_
          obtain ⟨τ20, e_l, hf⟩ := fl hf
          refine pF_X10_25 e12 hN cx hp dX10_next_144 (fun u H locs e_u n_u hp => ?_)
          have e12 := e_u.trans e_l
          have e13 := (n_u _ d_13_12).trans e13
          have fr : ∀ q, q ≠ 12 → u q = σ q := fun q h0 => (n_u q h0).trans (fr q h0)
          cases hf
          exact r_v cx hp ⟨e12, fr⟩ dX10_next_147
      · have hf := fn hf c15
        refine lv_aload_n hx hb dX10_next_115 rfl (lv_at hl 1 rfl) ?_
        obtain ⟨τ21, hc, hf⟩ := fb hf
        refine x_v hp (y_V (As := []) (rest := []) cx hp hl (c_X10_readNumber l hN hT e12 e13 hc) (cw_X10_55 cx (mc := 0) (ms := 0) rfl rfl ⟨by decide, by decide⟩) (rC_X10 hN cx hp) rfl rfl (Nat.le_of_ble_eq_true rfl) dX10_next_116 ⟨Nat.zero_le _, Nat.zero_le _⟩) (fun u_c H locs hq hp => ?_)
        obtain ⟨e_0, n_u⟩ := hq
        have e12 := e_0
        have e13 := (n_u _ d_13_12).trans e13
        have fr : ∀ q, q ≠ 12 → u_c q = σ q := fun q h0 => (n_u q h0).trans (fr q h0)
        obtain ⟨u, rfl⟩ : ∃ z, u_c = z := ⟨_, rfl⟩
        refine lv_goto (tgt := 147) hx hb dX10_next_119 (by decide) ?_
        cases hf
        exact r_v cx hp ⟨e12, fr⟩ dX10_next_147
    · have hf := fn hf c13
      refine lv_aload_n hx hb dX10_next_101 rfl (lv_at hl 1 rfl) ?_
      obtain ⟨τ22, hc, hf⟩ := fb hf
      refine x_v hp (y_V (As := []) (rest := []) cx hp hl (c_X10_readWord l hN hT e12 e13 hc) (cw_X10_49 cx (mc := 0) (ms := 0) rfl rfl ⟨by decide, by decide⟩) (rC_X10 hN cx hp) rfl rfl (Nat.le_of_ble_eq_true rfl) dX10_next_102 ⟨Nat.zero_le _, Nat.zero_le _⟩) (fun u_c H locs hq hp => ?_)
      obtain ⟨e_0, n_u⟩ := hq
      have e12 := e_0
      have e13 := (n_u _ d_13_12).trans e13
      have fr : ∀ q, q ≠ 12 → u_c q = σ q := fun q h0 => (n_u q h0).trans (fr q h0)
      obtain ⟨u, rfl⟩ : ∃ z, u_c = z := ⟨_, rfl⟩
      refine lv_goto (tgt := 147) hx hb dX10_next_105 (by decide) ?_
      cases hf
      exact r_v cx hp ⟨e12, fr⟩ dX10_next_147
  · have hf := fp hf c11
    refine lv_aload_n hx hb dX10_next_86 rfl (lv_at hl 1 rfl) ?_
    refine lv_iconst (v := 0) hx hb dX10_next_87 (by decide) ?_
    obtain ⟨τ23, e_l, hf⟩ := fl hf
    refine pF_X10_18 e12 hN cx hp dX10_next_88 (fun u H locs e_u n_u hp => ?_)
    have e12 := e_u.trans e_l
    have e13 := (n_u _ d_13_12).trans e13
    have fr : ∀ q, q ≠ 12 → u q = σ q := fun q h0 => (n_u q h0).trans (fr q h0)
    refine lv_goto (tgt := 147) hx hb dX10_next_91 (by decide) ?_
    cases hf
    exact r_v cx hp ⟨e12, fr⟩ dX10_next_147
abbrev rm_X10_rewind : Room := { frames := 3, cells := 0, slots := 0, locals := 62 }
set_option maxRecDepth 100000 in
set_option maxHeartbeats 4000000 in
theorem c_X10_rewind (l : Launch) {E : Ev} (hN : 129 ≤ eN E) (hT : St E) {σ : SM} {τ : OM} (e12 : σ 12 = τ) {β : OM} (e13 : σ 13 = β)  {τ' : OM} (hf : f_X10_rewind τ β = some τ') : Met l yX10_rewind (wC yX10_rewind cX10_rewind 1 none) rm_X10_rewind (va_Pc [.ref (adr E 12 0)] (Wu E σ)) (va_Qv (fun u => u 12 = τ' ∧ ∀ q, q ≠ 12 → u q = σ q) (fun u t => Wu E u t) (eA E)) 0 0 (eA E) := by
  refine g_entry (lv := [(0, .ref (adr E 12 0))]) (by decide) (Nat.le_of_ble_eq_true rfl) rfl ?_
  intro p e s m below meth c cx hp ls hl
  have hx := cx.1.1
  have hb := cx.1.2.1
  have fr : ∀ q, q ≠ 12 → σ q = σ q := fun _ _ => rfl
  have d_13_12 : (13 : Nat) ≠ 12 := by decide
  unfold f_X10_rewind at hf
  refine lv_aload_n hx hb dX10_rewind_0 rfl (lv_at hl 0 rfl) ?_
  refine lv_iconst (v := 0) hx hb dX10_rewind_1 (by decide) ?_
  obtain ⟨τ1, e_l, hf⟩ := fl hf
  refine pF_X10_25 e12 hN cx hp dX10_rewind_2 (fun u H locs e_u n_u hp => ?_)
  have e12 := e_u.trans e_l
  have e13 := (n_u _ d_13_12).trans e13
  have fr : ∀ q, q ≠ 12 → u q = σ q := fun q h0 => (n_u q h0).trans (fr q h0)
  refine lv_aload_n hx hb dX10_rewind_5 rfl (lv_at hl 0 rfl) ?_
  obtain ⟨τ2, hc, hf⟩ := fb hf
  refine x_v hp (y_V (As := []) (rest := []) cx hp hl (c_X10_next l hN hT e12 e13 hc) (cw_X10_35 cx (mc := 0) (ms := 0) rfl rfl ⟨by decide, by decide⟩) (rC_X10 hN cx hp) rfl rfl (Nat.le_of_ble_eq_true rfl) dX10_rewind_6 ⟨Nat.zero_le _, Nat.zero_le _⟩) (fun u_c H locs hq hp => ?_)
  obtain ⟨e_0, n_u⟩ := hq
  have e12 := e_0
  have e13 := (n_u _ d_13_12).trans e13
  have fr : ∀ q, q ≠ 12 → u_c q = σ q := fun q h0 => (n_u q h0).trans (fr q h0)
  obtain ⟨u, rfl⟩ : ∃ z, u_c = z := ⟨_, rfl⟩
  cases hf
  exact r_v cx hp ⟨e12, fr⟩ dX10_rewind_9
abbrev rm_X7_begin : Room := { frames := 4, cells := 0, slots := 0, locals := 82 }
set_option maxRecDepth 100000 in
set_option maxHeartbeats 4000000 in
theorem c_X7_begin (l : Launch) {E : Ev} (hN : 129 ≤ eN E) (hT : St E) {σ : SM} {π : OM} (e11 : σ 11 = π) {τ : OM} (e12 : σ 12 = τ) {β : OM} (e13 : σ 13 = β)  {π' : OM} {τ' : OM} (hf : f_X7_begin π τ β = some (π', τ')) : Met l yX7_begin (wC yX7_begin cX7_begin 1 none) rm_X7_begin (va_Pc [.ref (adr E 11 0)] (Wu E σ)) (va_Qv (fun u => u 11 = π' ∧ u 12 = τ' ∧ ∀ q, q ≠ 11 → q ≠ 12 → u q = σ q) (fun u t => Wu E u t) (eA E)) 0 0 (eA E) := by
  refine g_entry (lv := [(0, .ref (adr E 11 0))]) (by decide) (Nat.le_of_ble_eq_true rfl) rfl ?_
  intro p e s m below meth c cx hp ls hl
  have hx := cx.1.1
  have hb := cx.1.2.1
  have fr : ∀ q, q ≠ 11 → q ≠ 12 → σ q = σ q := fun _ _ _ => rfl
  have d_11_12 : (11 : Nat) ≠ 12 := by decide
  have d_12_11 : (12 : Nat) ≠ 11 := by decide
  have d_13_11 : (13 : Nat) ≠ 11 := by decide
  have d_13_12 : (13 : Nat) ≠ 12 := by decide
  unfold f_X7_begin at hf
  refine lv_aload_n hx hb dX7_begin_0 rfl (lv_at hl 0 rfl) ?_
  refine lv_iconst (v := 0) hx hb dX7_begin_1 (by decide) ?_
  obtain ⟨π1, e_l, hf⟩ := fl hf
  refine pF_X7_18 e11 hN cx hp dX7_begin_2 (fun u H locs e_u n_u hp => ?_)
  have e11 := e_u.trans e_l
  have e12 := (n_u _ d_12_11).trans e12
  have e13 := (n_u _ d_13_11).trans e13
  have fr : ∀ q, q ≠ 11 → q ≠ 12 → u q = σ q := fun q h0 h1 => (n_u q h0).trans (fr q h0 h1)
  refine lv_aload_n hx hb dX7_begin_5 rfl (lv_at hl 0 rfl) ?_
  refine lv_iconst (v := (-1)) hx hb dX7_begin_6 (by decide) ?_
  obtain ⟨π2, e_l, hf⟩ := fl hf
  refine pF_X7_22 e11 hN cx hp dX7_begin_7 (fun u H locs e_u n_u hp => ?_)
  have e11 := e_u.trans e_l
  have e12 := (n_u _ d_12_11).trans e12
  have e13 := (n_u _ d_13_11).trans e13
  have fr : ∀ q, q ≠ 11 → q ≠ 12 → u q = σ q := fun q h0 h1 => (n_u q h0).trans (fr q h0 h1)
  refine lv_aload_n hx hb dX7_begin_10 rfl (lv_at hl 0 rfl) ?_
  refine gF_X7_12 rfl hN cx hp dX7_begin_11 ?_
  obtain ⟨τ3, hc, hf⟩ := fb hf
  refine x_v hp (y_V (As := []) (rest := []) cx hp hl (c_X10_rewind l hN hT e12 e13 hc) (cw_X7_25 cx (mc := 0) (ms := 0) rfl rfl ⟨by decide, by decide⟩) (rC_X10 hN cx hp) rfl rfl (Nat.le_of_ble_eq_true rfl) dX7_begin_14 ⟨Nat.zero_le _, Nat.zero_le _⟩) (fun u_c H locs hq hp => ?_)
  obtain ⟨e_0, n_u⟩ := hq
  have e12 := e_0
  have e11 := (n_u _ d_11_12).trans e11
  have e13 := (n_u _ d_13_12).trans e13
  have fr : ∀ q, q ≠ 11 → q ≠ 12 → u_c q = σ q := fun q h0 h1 => (n_u q h1).trans (fr q h0 h1)
  obtain ⟨u, rfl⟩ : ∃ z, u_c = z := ⟨_, rfl⟩
  cases hf
  exact r_v cx hp ⟨e11, e12, fr⟩ dX7_begin_17
abbrev rm_X7_fail : Room := { frames := 0, cells := 0, slots := 0, locals := 0 }
set_option maxRecDepth 100000 in
set_option maxHeartbeats 4000000 in
theorem c_X7_fail (l : Launch) {E : Ev} (hN : 129 ≤ eN E) (hT : St E) {σ : SM} {π : OM} (e11 : σ 11 = π) {τ : OM} (e12 : σ 12 = τ) {p1 : Int32} {rv : Int32} {π' : OM} (hf : f_X7_fail p1 π τ = some (rv, π')) : Met l yX7_fail (wC yX7_fail cX7_fail 2 (some .boolean)) rm_X7_fail (va_Pc [.ref (adr E 11 0), .int p1] (Wu E σ)) (va_Qi (fun r u => rv = r ∧ u 11 = π' ∧ ∀ q, q ≠ 11 → u q = σ q) (fun u t => Wu E u t) (eA E)) 0 0 (eA E) := by
  refine g_entry (lv := [(0, .ref (adr E 11 0)), (1, .int p1)]) (by decide) (Nat.le_of_ble_eq_true rfl) rfl ?_
  intro p e s m below meth c cx hp ls hl
  have hx := cx.1.1
  have hb := cx.1.2.1
  have fr : ∀ q, q ≠ 11 → σ q = σ q := fun _ _ => rfl
  have d_12_11 : (12 : Nat) ≠ 11 := by decide
  unfold f_X7_fail at hf
  refine lv_aload_n hx hb dX7_fail_0 rfl (lv_at hl 0 rfl) ?_
  refine lv_iload_n hx hb dX7_fail_1 rfl (lv_at hl 1 rfl) ?_
  obtain ⟨π1, e_l, hf⟩ := fl hf
  refine pF_X7_18 e11 hN cx hp dX7_fail_2 (fun u H locs e_u n_u hp => ?_)
  have e11 := e_u.trans e_l
  have e12 := (n_u _ d_12_11).trans e12
  have fr : ∀ q, q ≠ 11 → u q = σ q := fun q h0 => (n_u q h0).trans (fr q h0)
  refine lv_aload_n hx hb dX7_fail_5 rfl (lv_at hl 0 rfl) ?_
  refine lv_aload_n hx hb dX7_fail_6 rfl (lv_at hl 0 rfl) ?_
  refine gF_X7_12 rfl hN cx hp dX7_fail_7 ?_
  refine gF_X7_28 e12 hN cx hp dX7_fail_10 ?_
  obtain ⟨π2, e_l, hf⟩ := fl hf
  refine pF_X7_22 e11 hN cx hp dX7_fail_13 (fun u H locs e_u n_u hp => ?_)
  have e11 := e_u.trans e_l
  have e12 := (n_u _ d_12_11).trans e12
  have fr : ∀ q, q ≠ 11 → u q = σ q := fun q h0 => (n_u q h0).trans (fr q h0)
  refine lv_iconst (v := 0) hx hb dX7_fail_16 (by decide) ?_
  cases hf
  exact r_z cx hp rfl ⟨rfl, e11, fr⟩ dX7_fail_17
abbrev rm_J0_coder_7d493 : Room := { frames := 0, cells := 0, slots := 0, locals := 0 }
set_option maxRecDepth 100000 in
set_option maxHeartbeats 4000000 in
theorem c_J0_coder_7d493 (l : Launch) {E : Ev} (hN : 129 ≤ eN E) (hT : St E) {σ : SM} {w0 : Nat} {rv : Int32} (hf : f_J0_coder_7d493 w0 = some rv) : Met l yJ0_coder_7d493 (wC yJ0_coder_7d493 cJ0_coder_7d493 1 (some .byte)) rm_J0_coder_7d493 (va_Pc [.ref (eK E w0)] (Wu E σ)) (va_Qi (fun r u => rv = r ∧ σ = u) (fun u t => Wu E u t) (eA E)) 0 0 (eA E) := by
  refine g_entry (lv := [(0, .ref (eK E w0))]) (by decide) (Nat.le_of_ble_eq_true rfl) rfl ?_
  intro p e s m below meth c cx hp ls hl
  have hx := cx.1.1
  have hb := cx.1.2.1
  have fr : ∀ q, σ q = σ q := fun _ => rfl
  unfold f_J0_coder_7d493 at hf
  refine va_gets hx hb (zS cx hT.2.1) hp.2 cx.1.2.2.2.1 (cx.1.2.2.2.2 _ qF_J0_38) (fun _ h => h) dJ0_coder_7d493_0 ?_
  refine lv_if_eq (tgt := 13) hx hb dJ0_coder_7d493_3 (by decide) (fun c_x => absurd c_x (by decide)) (fun _ => ?_)
  refine lv_aload_n hx hb dJ0_coder_7d493_6 rfl (lv_at hl 0 rfl) ?_
  obtain ⟨g_w, hf⟩ := fg hf
  refine vk_getf hx hb (ofS cx (hT.1 _ g_w).2.1) hp.2 cx.1.2.2.2.1 (cx.1.2.2.2.2 _ qF_J0_15) (fun _ h => h) dJ0_coder_7d493_7 ?_
  refine lv_goto (tgt := 14) hx hb dJ0_coder_7d493_10 (by decide) ?_
  cases hf
  exact r_z cx hp rfl ⟨rfl, (funext fr).symm⟩ dJ0_coder_7d493_14
theorem g46_J0_coder_7d493 {w0 : Nat} {r : Int32} (h : f_J0_coder_7d493 w0 = some r) : w0 < 12 := by
  unfold f_J0_coder_7d493 at h
  first
    | exact (fg h).1
    | (obtain ⟨_, h1, _⟩ := fb h; exact g46_J0_isLatin1_aae02 h1)
abbrev rm_J0_length_8abf5 : Room := { frames := 1, cells := 0, slots := 0, locals := 20 }
set_option maxRecDepth 100000 in
set_option maxHeartbeats 4000000 in
theorem c_J0_length_8abf5 (l : Launch) {E : Ev} (hN : 129 ≤ eN E) (hT : St E) {σ : SM} {w0 : Nat} {rv : Int32} (hf : f_J0_length_8abf5 w0 = some rv) : Met l yJ0_length_8abf5 (wC yJ0_length_8abf5 cJ0_length_8abf5 1 (some .int)) rm_J0_length_8abf5 (va_Pc [.ref (eK E w0)] (Wu E σ)) (va_Qi (fun r u => rv = r ∧ σ = u) (fun u t => Wu E u t) (eA E)) 0 0 (eA E) := by
  refine g_entry (lv := [(0, .ref (eK E w0))]) (by decide) (Nat.le_of_ble_eq_true rfl) rfl ?_
  intro p e s m below meth c cx hp ls hl
  have hx := cx.1.1
  have hb := cx.1.2.1
  have fr : ∀ q, σ q = σ q := fun _ => rfl
  unfold f_J0_length_8abf5 at hf
  refine lv_aload_n hx hb dJ0_length_8abf5_0 rfl (lv_at hl 0 rfl) ?_
  obtain ⟨g_w, hf⟩ := fg hf
  refine vk_getf hx hb (ofS cx (hT.1 _ g_w).2.2.1) hp.2 cx.1.2.2.2.1 (cx.1.2.2.2.2 _ qF_J0_9) (fun _ h => h) dJ0_length_8abf5_1 ?_
  obtain ⟨g_w, hf⟩ := fg hf
  refine va_tlen hx hb (tS cx (hT.1 _ g_w).2.2.2) hp.2 rfl dJ0_length_8abf5_4 ?_
  refine lv_aload_n hx hb dJ0_length_8abf5_5 rfl (lv_at hl 0 rfl) ?_
  obtain ⟨r1, hc, hf⟩ := fb hf
  refine x_i hp (y_V (As := []) (rest := [.int (nI (lens.getD w0 0))]) cx hp hl (c_J0_coder_7d493 l hN hT  hc) (cw_J0_335 cx (mc := 0) (ms := 0) rfl rfl ⟨by decide, by decide⟩) (rcS cx hp (hT.1 _ (g46_J0_coder_7d493 hc)).1) rfl rfl (Nat.le_of_ble_eq_true rfl) dJ0_length_8abf5_6 ⟨Nat.zero_le _, Nat.zero_le _⟩) (fun r_c u_c H locs hq hp => ?_)
  obtain ⟨rfl, rfl⟩ := hq
  refine lv_ishr hx hb dJ0_length_8abf5_9 ?_
  cases hf
  exact r_i cx hp ⟨rfl, (funext fr).symm⟩ dJ0_length_8abf5_10
theorem g46_J0_length_8abf5 {w0 : Nat} {r : Int32} (h : f_J0_length_8abf5 w0 = some r) : w0 < 12 := by
  unfold f_J0_length_8abf5 at h
  first
    | exact (fg h).1
    | (obtain ⟨_, h1, _⟩ := fb h; exact g46_J0_isLatin1_aae02 h1)
abbrev rm_J0_isLatin1_aae02 : Room := { frames := 0, cells := 0, slots := 0, locals := 0 }
set_option maxRecDepth 100000 in
set_option maxHeartbeats 4000000 in
theorem c_J0_isLatin1_aae02 (l : Launch) {E : Ev} (hN : 129 ≤ eN E) (hT : St E) {σ : SM} {w0 : Nat} {rv : Int32} (hf : f_J0_isLatin1_aae02 w0 = some rv) : Met l yJ0_isLatin1_aae02 (wC yJ0_isLatin1_aae02 cJ0_isLatin1_aae02 1 (some .boolean)) rm_J0_isLatin1_aae02 (va_Pc [.ref (eK E w0)] (Wu E σ)) (va_Qi (fun r u => rv = r ∧ σ = u) (fun u t => Wu E u t) (eA E)) 0 0 (eA E) := by
  refine g_entry (lv := [(0, .ref (eK E w0))]) (by decide) (Nat.le_of_ble_eq_true rfl) rfl ?_
  intro p e s m below meth c cx hp ls hl
  have hx := cx.1.1
  have hb := cx.1.2.1
  have fr : ∀ q, σ q = σ q := fun _ => rfl
  unfold f_J0_isLatin1_aae02 at hf
  refine va_gets hx hb (zS cx hT.2.1) hp.2 cx.1.2.2.2.1 (cx.1.2.2.2.2 _ qF_J0_38) (fun _ h => h) dJ0_isLatin1_aae02_0 ?_
  refine lv_if_eq (tgt := 17) hx hb dJ0_isLatin1_aae02_3 (by decide) (fun c_x => absurd c_x (by decide)) (fun _ => ?_)
  refine lv_aload_n hx hb dJ0_isLatin1_aae02_6 rfl (lv_at hl 0 rfl) ?_
  obtain ⟨g_w, hf⟩ := fg hf
  refine vk_getf hx hb (ofS cx (hT.1 _ g_w).2.1) hp.2 cx.1.2.2.2.1 (cx.1.2.2.2.2 _ qF_J0_15) (fun _ h => h) dJ0_isLatin1_aae02_7 ?_
  refine lv_if_ne (tgt := 17) hx hb dJ0_isLatin1_aae02_10 (by decide) (fun c_x => absurd c_x (by decide)) (fun _ => ?_)
  refine lv_iconst (v := 1) hx hb dJ0_isLatin1_aae02_13 (by decide) ?_
  refine lv_goto (tgt := 18) hx hb dJ0_isLatin1_aae02_14 (by decide) ?_
  cases hf
  exact r_z cx hp rfl ⟨rfl, (funext fr).symm⟩ dJ0_isLatin1_aae02_18
theorem g46_J0_isLatin1_aae02 {w0 : Nat} {r : Int32} (h : f_J0_isLatin1_aae02 w0 = some r) : w0 < 12 := by
  unfold f_J0_isLatin1_aae02 at h
  first
    | exact (fg h).1
    | (obtain ⟨_, h1, _⟩ := fb h; exact g46_J0_isLatin1_aae02 h1)
abbrev rm_J3_checkIndex_8e157 : Room := { frames := 0, cells := 0, slots := 0, locals := 0 }
set_option maxRecDepth 100000 in
set_option maxHeartbeats 4000000 in
theorem c_J3_checkIndex_8e157 (l : Launch) {E : Ev} (hN : 129 ≤ eN E) (hT : St E) {σ : SM} {v2 : Value} (k_v2 : v2.category = 1) {p0 : Int32} {p1 : Int32} {rv : Int32} (hf : f_J3_checkIndex_8e157 p0 p1 = some rv) : Met l yJ3_checkIndex_8e157 (wC yJ3_checkIndex_8e157 cJ3_checkIndex_8e157 3 (some .int)) rm_J3_checkIndex_8e157 (va_Pc [.int p0, .int p1, v2] (Wu E σ)) (va_Qi (fun r u => rv = r ∧ σ = u) (fun u t => Wu E u t) (eA E)) 0 0 (eA E) := by
  refine g_entry (lv := [(0, .int p0), (1, .int p1), (2, v2)]) (by decide) (lg_v3 _ _ k_v2) rfl ?_
  intro p e s m below meth c cx hp ls hl
  have hx := cx.1.1
  have hb := cx.1.2.1
  have fr : ∀ q, σ q = σ q := fun _ => rfl
  unfold f_J3_checkIndex_8e157 at hf
  refine lv_iload_n hx hb dJ3_checkIndex_8e157_0 rfl (lv_at hl 0 rfl) ?_
  refine lv_if_lt (tgt := 9) hx hb dJ3_checkIndex_8e157_1 (by decide) (fun c1 => ?_) (fun c1 => ?_)
  · have hf := fp hf c1
    cases hf
  · have hf := fn hf c1
    refine lv_iload_n hx hb dJ3_checkIndex_8e157_4 rfl (lv_at hl 0 rfl) ?_
    refine lv_iload_n hx hb dJ3_checkIndex_8e157_5 rfl (lv_at hl 1 rfl) ?_
    refine lv_icmp_lt (tgt := 16) hx hb dJ3_checkIndex_8e157_6 (by decide) (fun c2 => ?_) (fun c2 => ?_)
    · have hf := fp hf c2
      refine lv_iload_n hx hb dJ3_checkIndex_8e157_16 rfl (lv_at hl 0 rfl) ?_
      cases hf
      exact r_i cx hp ⟨rfl, (funext fr).symm⟩ dJ3_checkIndex_8e157_17
    · have hf := fn hf c2
      cases hf
abbrev rm_J0_checkIndex_df160 : Room := { frames := 1, cells := 0, slots := 0, locals := 22 }
set_option maxRecDepth 100000 in
set_option maxHeartbeats 4000000 in
theorem c_J0_checkIndex_df160 (l : Launch) {E : Ev} (hN : 129 ≤ eN E) (hT : St E) {σ : SM} {p0 : Int32} {p1 : Int32}  (hf : f_J0_checkIndex_df160 p0 p1 = some ()) : Met l yJ0_checkIndex_df160 (wC yJ0_checkIndex_df160 cJ0_checkIndex_df160 2 none) rm_J0_checkIndex_df160 (va_Pc [.int p0, .int p1] (Wu E σ)) (va_Qv (fun u => σ = u) (fun u t => Wu E u t) (eA E)) 0 0 (eA E) := by
  refine g_entry (lv := [(0, .int p0), (1, .int p1)]) (by decide) (Nat.le_of_ble_eq_true rfl) rfl ?_
  intro p e s m below meth c cx hp ls hl
  have hx := cx.1.1
  have hb := cx.1.2.1
  have fr : ∀ q, σ q = σ q := fun _ => rfl
  unfold f_J0_checkIndex_df160 at hf
  refine lv_iload_n hx hb dJ0_checkIndex_df160_0 rfl (lv_at hl 0 rfl) ?_
  refine lv_iload_n hx hb dJ0_checkIndex_df160_1 rfl (lv_at hl 1 rfl) ?_
  obtain ⟨v1, z_v, k_v1⟩ := zvS cx hT.2.2
  refine va_gets hx hb z_v hp.2 cx.1.2.2.2.1 (cx.1.2.2.2.2 _ qF_J0_1053) (fun _ h => h) dJ0_checkIndex_df160_2 ?_
  obtain ⟨r2, hc, hf⟩ := fb hf
  refine x_i hp (y_S (As := [.int p0, .int p1, v1]) (rest := []) cx hp hl (c_J3_checkIndex_8e157 l hN hT k_v1 hc) (cw_J0_1059 cx (mc := 0) (ms := 0) rfl rfl ⟨by decide, by decide⟩) rfl rfl (Nat.le_of_ble_eq_true rfl) dJ0_checkIndex_df160_5 ⟨Nat.zero_le _, Nat.zero_le _⟩) (fun r_c u_c H locs hq hp => ?_)
  obtain ⟨rfl, rfl⟩ := hq
  refine lv_pop hx hb dJ0_checkIndex_df160_8 rfl ?_
  cases hf
  exact r_v cx hp (funext fr).symm dJ0_checkIndex_df160_9
abbrev rm_J1_charAt_3b067 : Room := { frames := 2, cells := 0, slots := 0, locals := 43 }
set_option maxRecDepth 100000 in
set_option maxHeartbeats 4000000 in
theorem c_J1_charAt_3b067 (l : Launch) {E : Ev} (hN : 129 ≤ eN E) (hT : St E) {σ : SM} {w0 : Nat} {p1 : Int32} {rv : Int32} (hf : f_J1_charAt_3b067 w0 p1 = some rv) : Met l yJ1_charAt_3b067 (wC yJ1_charAt_3b067 cJ1_charAt_3b067 2 (some .char)) rm_J1_charAt_3b067 (va_Pc [.ref (eB E w0), .int p1] (Wu E σ)) (va_Qi (fun r u => rv = r ∧ σ = u) (fun u t => Wu E u t) (eA E)) 0 0 (eA E) := by
  refine g_entry (lv := [(0, .ref (eB E w0)), (1, .int p1)]) (by decide) (Nat.le_of_ble_eq_true rfl) rfl ?_
  intro p e s m below meth c cx hp ls hl
  have hx := cx.1.1
  have hb := cx.1.2.1
  have fr : ∀ q, σ q = σ q := fun _ => rfl
  unfold f_J1_charAt_3b067 at hf
  refine lv_iload_n hx hb dJ1_charAt_3b067_0 rfl (lv_at hl 1 rfl) ?_
  refine lv_aload_n hx hb dJ1_charAt_3b067_1 rfl (lv_at hl 0 rfl) ?_
  obtain ⟨g_w, hf⟩ := fg hf
  refine va_tlen hx hb (tS cx (hT.1 _ g_w).2.2.2) hp.2 rfl dJ1_charAt_3b067_2 ?_
  obtain ⟨_, hc, hf⟩ := fb hf
  refine x_v hp (y_S (As := [.int p1, .int (nI (lens.getD w0 0))]) (rest := []) cx hp hl (c_J0_checkIndex_df160 l hN hT  hc) (cw_J1_9 cx (mc := 0) (ms := 0) rfl rfl ⟨by decide, by decide⟩) rfl rfl (Nat.le_of_ble_eq_true rfl) dJ1_charAt_3b067_3 ⟨Nat.zero_le _, Nat.zero_le _⟩) (fun u_c H locs hq hp => ?_)
  obtain rfl := hq
  refine lv_aload_n hx hb dJ1_charAt_3b067_6 rfl (lv_at hl 0 rfl) ?_
  refine lv_iload_n hx hb dJ1_charAt_3b067_7 rfl (lv_at hl 1 rfl) ?_
  obtain ⟨g_w, hf⟩ := fg hf
  obtain ⟨g_i, hf⟩ := fg hf
  refine va_tb hx hb (tS cx (hT.1 _ g_w).2.2.2) hp.2 (inb_vp g_i) rfl dJ1_charAt_3b067_8 ?_
  refine lv_sipush (v := 255) hx hb dJ1_charAt_3b067_9 (by decide) ?_
  refine lv_iand hx hb dJ1_charAt_3b067_12 ?_
  refine lv_i2c hx hb dJ1_charAt_3b067_13 rfl ?_
  obtain ⟨g_z, hf⟩ := fg hf
  cases hf
  exact r_z cx hp (cz_n g_z) ⟨rfl, (funext fr).symm⟩ dJ1_charAt_3b067_14
abbrev rm_J0_charAt_5068e : Room := { frames := 3, cells := 0, slots := 0, locals := 64 }
set_option maxRecDepth 100000 in
set_option maxHeartbeats 4000000 in
theorem c_J0_charAt_5068e (l : Launch) {E : Ev} (hN : 129 ≤ eN E) (hT : St E) {σ : SM} {w0 : Nat} {p1 : Int32} {rv : Int32} (hf : f_J0_charAt_5068e w0 p1 = some rv) : Met l yJ0_charAt_5068e (wC yJ0_charAt_5068e cJ0_charAt_5068e 2 (some .char)) rm_J0_charAt_5068e (va_Pc [.ref (eK E w0), .int p1] (Wu E σ)) (va_Qi (fun r u => rv = r ∧ σ = u) (fun u t => Wu E u t) (eA E)) 0 0 (eA E) := by
  refine g_entry (lv := [(0, .ref (eK E w0)), (1, .int p1)]) (by decide) (Nat.le_of_ble_eq_true rfl) rfl ?_
  intro p e s m below meth c cx hp ls hl
  have hx := cx.1.1
  have hb := cx.1.2.1
  have fr : ∀ q, σ q = σ q := fun _ => rfl
  unfold f_J0_charAt_5068e at hf
  refine lv_aload_n hx hb dJ0_charAt_5068e_0 rfl (lv_at hl 0 rfl) ?_
  obtain ⟨r1, hc, hf⟩ := fb hf
  refine x_i hp (y_V (As := []) (rest := []) cx hp hl (c_J0_isLatin1_aae02 l hN hT  hc) (cw_J0_492 cx (mc := 0) (ms := 0) rfl rfl ⟨by decide, by decide⟩) (rcS cx hp (hT.1 _ (g46_J0_isLatin1_aae02 hc)).1) rfl rfl (Nat.le_of_ble_eq_true rfl) dJ0_charAt_5068e_1 ⟨Nat.zero_le _, Nat.zero_le _⟩) (fun r_c u_c H locs hq hp => ?_)
  obtain ⟨rfl, rfl⟩ := hq
  refine lv_if_eq (tgt := 16) hx hb dJ0_charAt_5068e_4 (by decide) (fun c2 => ?_) (fun c2 => ?_)
  · have hf := fp hf c2
    cases hf
  · have hf := fn hf c2
    refine lv_aload_n hx hb dJ0_charAt_5068e_7 rfl (lv_at hl 0 rfl) ?_
    obtain ⟨g_w, hf⟩ := fg hf
    refine vk_getf hx hb (ofS cx (hT.1 _ g_w).2.2.1) hp.2 cx.1.2.2.2.1 (cx.1.2.2.2.2 _ qF_J0_9) (fun _ h => h) dJ0_charAt_5068e_8 ?_
    refine lv_iload_n hx hb dJ0_charAt_5068e_11 rfl (lv_at hl 1 rfl) ?_
    obtain ⟨r3, hc, hf⟩ := fb hf
    refine x_i hp (y_S (As := [.ref (eB E w0), .int p1]) (rest := []) cx hp hl (c_J1_charAt_3b067 l hN hT  hc) (cw_J0_495 cx (mc := 0) (ms := 0) rfl rfl ⟨by decide, by decide⟩) rfl rfl (Nat.le_of_ble_eq_true rfl) dJ0_charAt_5068e_12 ⟨Nat.zero_le _, Nat.zero_le _⟩) (fun r_c u_c H locs hq hp => ?_)
    obtain ⟨rfl, rfl⟩ := hq
    obtain ⟨g_z, hf⟩ := fg hf
    cases hf
    exact r_z cx hp (cz_n g_z) ⟨rfl, (funext fr).symm⟩ dJ0_charAt_5068e_15
theorem g46_J0_charAt_5068e {w0 : Nat} {p1 : Int32} {r : Int32} (h : f_J0_charAt_5068e w0 p1 = some r) : w0 < 12 := by
  unfold f_J0_charAt_5068e at h
  first
    | exact (fg h).1
    | (obtain ⟨_, h1, _⟩ := fb h; exact g46_J0_isLatin1_aae02 h1)
abbrev rm_X10_isWord : Room := { frames := 4, cells := 0, slots := 0, locals := 85 }
set_option maxRecDepth 100000 in
set_option maxHeartbeats 4000000 in
theorem L_X10_isWord_28 {p : Program} {e : Env} {s : State} {m : MethodId} {args : Array Value} {below : List Frame} {meth : Method} {c : Code} (l : Launch) {E : Ev} (hN : 129 ≤ eN E) (hT : St E) {σ : SM} (cx : Cx E p s m meth c args RX10 cX10_isWord 3 (some .boolean)) {w1 : Nat} {τ : OM} {β : OM} {rv : Int32} : ∀ (n : Nat) {x2 : Int32}, f_X10_isWord_28 w1 τ β n x2 = some rv → ∀ {u : SM} {H : Heap} {locs : List Loc} {ls : Array Slot}, u 12 = τ → u 13 = β → (∀ q, u q = σ q) → Hp E u s H locs → lv_has ls 3 [(0, .ref (adr E 12 0)), (1, .ref (eK E w1)), (2, .int x2)] → W p l e rm_X10_isWord s m args below meth c H locs 0 0 (MQ below (va_Qi (fun r u => rv = r ∧ σ = u) (fun u t => Wu E u t) (eA E)) args s 0 0 (eA E)) (F0 m 28 ls []) := by
  have hx := cx.1.1
  have hb := cx.1.2.1
  intro n
  induction n with
  | zero =>
    intro x2 hf
    exact absurd hf (by simp [f_X10_isWord_28])
  | succ n ih =>
    intro x2 hf u H locs ls e12 e13 fr hp hl
    rw [f_X10_isWord_28] at hf
    refine lv_iload_n hx hb dX10_isWord_28 rfl (lv_at hl 2 rfl) ?_
    refine lv_aload_n hx hb dX10_isWord_29 rfl (lv_at hl 1 rfl) ?_
    obtain ⟨r4, hc, hf⟩ := fb hf
    refine x_i hp (y_V (As := []) (rest := [.int x2]) cx hp hl (c_J0_length_8abf5 l hN hT  hc) (cw_X10_58 cx (mc := 0) (ms := 0) rfl rfl ⟨by decide, by decide⟩) (rcS cx hp (hT.1 _ (g46_J0_length_8abf5 hc)).1) rfl rfl (Nat.le_of_ble_eq_true rfl) dX10_isWord_30 ⟨Nat.zero_le _, Nat.zero_le _⟩) (fun r_c u_c H locs hq hp => ?_)
    obtain ⟨rfl, rfl⟩ := hq
    refine lv_icmp_ge (tgt := 65) hx hb dX10_isWord_33 (by decide) (fun c5 => ?_) (fun c5 => ?_)
    · have hf := fp hf c5
      refine lv_iconst (v := 1) hx hb dX10_isWord_65 (by decide) ?_
      cases hf
      exact r_z cx hp rfl ⟨rfl, (funext fr).symm⟩ dX10_isWord_66
    · have hf := fn hf c5
      refine lv_aload_n hx hb dX10_isWord_36 rfl (lv_at hl 0 rfl) ?_
      refine gF_X10_12 rfl hN cx hp dX10_isWord_37 ?_
      refine lv_aload_n hx hb dX10_isWord_40 rfl (lv_at hl 0 rfl) ?_
      refine gF_X10_22 e12 hN cx hp dX10_isWord_41 ?_
      refine lv_iload_n hx hb dX10_isWord_44 rfl (lv_at hl 2 rfl) ?_
      refine lv_iadd hx hb dX10_isWord_45 ?_
      obtain ⟨r6, hc, hf⟩ := fb hf
      refine x_i hp (y_V (As := [.int ((τ.1 0 2) + x2)]) (rest := []) cx hp hl (c_X2_byteAt_13 l hN hT e13 hc) (cw_X10_41 cx (mc := 0) (ms := 0) rfl rfl ⟨by decide, by decide⟩) (rC_X2_13 hN cx hp) rfl rfl (Nat.le_of_ble_eq_true rfl) dX10_isWord_46 ⟨Nat.zero_le _, Nat.zero_le _⟩) (fun r_c u_c H locs hq hp => ?_)
      obtain ⟨rfl, rfl⟩ := hq
      refine lv_aload_n hx hb dX10_isWord_49 rfl (lv_at hl 1 rfl) ?_
      refine lv_iload_n hx hb dX10_isWord_50 rfl (lv_at hl 2 rfl) ?_
      obtain ⟨r7, hc, hf⟩ := fb hf
      refine x_i hp (y_V (As := [.int x2]) (rest := [.int r6]) cx hp hl (c_J0_charAt_5068e l hN hT  hc) (cw_X10_63 cx (mc := 0) (ms := 0) rfl rfl ⟨by decide, by decide⟩) (rcS cx hp (hT.1 _ (g46_J0_charAt_5068e hc)).1) rfl rfl (Nat.le_of_ble_eq_true rfl) dX10_isWord_51 ⟨Nat.zero_le _, Nat.zero_le _⟩) (fun r_c u_c H locs hq hp => ?_)
      obtain ⟨rfl, rfl⟩ := hq
      refine lv_icmp_eq (tgt := 59) hx hb dX10_isWord_54 (by decide) (fun c8 => ?_) (fun c8 => ?_)
      · have hf := fp hf c8
        refine lv_iinc (v := (x2 + 1)) (lv' := [(2, .int (x2 + 1)), (0, .ref (adr E 12 0)), (1, .ref (eK E w1))]) hx hb dX10_isWord_59 hl (k := 2) rfl rfl (by decide) rfl (fun ls hl => ?_)
        refine lv_goto (tgt := 28) hx hb dX10_isWord_62 (by decide) ?_
        exact ih  hf e12 e13 fr hp (lv_sub hl [1, 2, 0] rfl)
      · have hf := fn hf c8
        refine lv_iconst (v := 0) hx hb dX10_isWord_57 (by decide) ?_
        cases hf
        exact r_z cx hp rfl ⟨rfl, (funext fr).symm⟩ dX10_isWord_58
set_option maxRecDepth 100000 in
set_option maxHeartbeats 4000000 in
theorem c_X10_isWord (l : Launch) {E : Ev} (hN : 129 ≤ eN E) (hT : St E) {σ : SM} {τ : OM} (e12 : σ 12 = τ) {β : OM} (e13 : σ 13 = β) {w1 : Nat} {rv : Int32} (hf : f_X10_isWord w1 τ β = some rv) : Met l yX10_isWord (wC yX10_isWord cX10_isWord 3 (some .boolean)) rm_X10_isWord (va_Pc [.ref (adr E 12 0), .ref (eK E w1)] (Wu E σ)) (va_Qi (fun r u => rv = r ∧ σ = u) (fun u t => Wu E u t) (eA E)) 0 0 (eA E) := by
  refine g_entry (lv := [(0, .ref (adr E 12 0)), (1, .ref (eK E w1))]) (by decide) (Nat.le_of_ble_eq_true rfl) rfl ?_
  intro p e s m below meth c cx hp ls hl
  have hx := cx.1.1
  have hb := cx.1.2.1
  have fr : ∀ q, σ q = σ q := fun _ => rfl
  unfold f_X10_isWord at hf
  refine lv_aload_n hx hb dX10_isWord_0 rfl (lv_at hl 0 rfl) ?_
  refine gF_X10_18 e12 hN cx hp dX10_isWord_1 ?_
  refine lv_iconst (v := 1) hx hb dX10_isWord_4 (by decide) ?_
  refine lv_icmp_ne (tgt := 24) hx hb dX10_isWord_5 (by decide) (fun c1 => ?_) (fun c1 => ?_)
  · have hf := fn hf c1
    refine lv_iconst (v := 0) hx hb dX10_isWord_24 (by decide) ?_
    cases hf
    exact r_z cx hp rfl ⟨rfl, (funext fr).symm⟩ dX10_isWord_25
  · have hf := fp hf c1
    refine lv_aload_n hx hb dX10_isWord_8 rfl (lv_at hl 0 rfl) ?_
    refine gF_X10_25 e12 hN cx hp dX10_isWord_9 ?_
    refine lv_aload_n hx hb dX10_isWord_12 rfl (lv_at hl 0 rfl) ?_
    refine gF_X10_22 e12 hN cx hp dX10_isWord_13 ?_
    refine lv_isub hx hb dX10_isWord_16 ?_
    refine lv_aload_n hx hb dX10_isWord_17 rfl (lv_at hl 1 rfl) ?_
    obtain ⟨r2, hc, hf⟩ := fb hf
    refine x_i hp (y_V (As := []) (rest := [.int ((τ.1 0 3) - (τ.1 0 2))]) cx hp hl (c_J0_length_8abf5 l hN hT  hc) (cw_X10_58 cx (mc := 0) (ms := 0) rfl rfl ⟨by decide, by decide⟩) (rcS cx hp (hT.1 _ (g46_J0_length_8abf5 hc)).1) rfl rfl (Nat.le_of_ble_eq_true rfl) dX10_isWord_18 ⟨Nat.zero_le _, Nat.zero_le _⟩) (fun r_c u_c H locs hq hp => ?_)
    obtain ⟨rfl, rfl⟩ := hq
    refine lv_icmp_eq (tgt := 26) hx hb dX10_isWord_21 (by decide) (fun c3 => ?_) (fun c3 => ?_)
    · have hf := fp hf c3
      refine lv_iconst (v := 0) hx hb dX10_isWord_26 (by decide) ?_
      refine lv_istore_n (lv' := [(2, .int 0), (0, .ref (adr E 12 0)), (1, .ref (eK E w1))]) hx hb dX10_isWord_27 rfl hl (by decide) rfl (fun ls hl => ?_)
      exact L_X10_isWord_28 l hN hT cx  _ hf e12 e13 fr hp (lv_sub hl [1, 2, 0] rfl)
    · have hf := fn hf c3
      refine lv_iconst (v := 0) hx hb dX10_isWord_24 (by decide) ?_
      cases hf
      exact r_z cx hp rfl ⟨rfl, (funext fr).symm⟩ dX10_isWord_25
abbrev rm_X7_takeWord : Room := { frames := 5, cells := 0, slots := 0, locals := 107 }
set_option maxRecDepth 100000 in
set_option maxHeartbeats 4000000 in
theorem c_X7_takeWord (l : Launch) {E : Ev} (hN : 129 ≤ eN E) (hT : St E) {σ : SM} {π : OM} (e11 : σ 11 = π) {τ : OM} (e12 : σ 12 = τ) {β : OM} (e13 : σ 13 = β) {w1 : Nat} {rv : Int32} {π' : OM} {τ' : OM} (hf : f_X7_takeWord w1 π τ β = some (rv, π', τ')) : Met l yX7_takeWord (wC yX7_takeWord cX7_takeWord 2 (some .boolean)) rm_X7_takeWord (va_Pc [.ref (adr E 11 0), .ref (eK E w1)] (Wu E σ)) (va_Qi (fun r u => rv = r ∧ u 11 = π' ∧ u 12 = τ' ∧ ∀ q, q ≠ 11 → q ≠ 12 → u q = σ q) (fun u t => Wu E u t) (eA E)) 0 0 (eA E) := by
  refine g_entry (lv := [(0, .ref (adr E 11 0)), (1, .ref (eK E w1))]) (by decide) (Nat.le_of_ble_eq_true rfl) rfl ?_
  intro p e s m below meth c cx hp ls hl
  have hx := cx.1.1
  have hb := cx.1.2.1
  have fr : ∀ q, q ≠ 11 → q ≠ 12 → σ q = σ q := fun _ _ _ => rfl
  have d_11_12 : (11 : Nat) ≠ 12 := by decide
  have d_12_11 : (12 : Nat) ≠ 11 := by decide
  have d_13_11 : (13 : Nat) ≠ 11 := by decide
  have d_13_12 : (13 : Nat) ≠ 12 := by decide
  unfold f_X7_takeWord at hf
  refine lv_aload_n hx hb dX7_takeWord_0 rfl (lv_at hl 0 rfl) ?_
  refine gF_X7_12 rfl hN cx hp dX7_takeWord_1 ?_
  refine lv_aload_n hx hb dX7_takeWord_4 rfl (lv_at hl 1 rfl) ?_
  obtain ⟨r1, hc, hf⟩ := fb hf
  refine x_i hp (y_V (As := [.ref (eK E w1)]) (rest := []) cx hp hl (c_X10_isWord l hN hT e12 e13 hc) (cw_X7_31 cx (mc := 0) (ms := 0) rfl rfl ⟨by decide, by decide⟩) (rC_X10 hN cx hp) rfl rfl (Nat.le_of_ble_eq_true rfl) dX7_takeWord_5 ⟨Nat.zero_le _, Nat.zero_le _⟩) (fun r_c u_c H locs hq hp => ?_)
  obtain ⟨rfl, rfl⟩ := hq
  refine lv_if_ne (tgt := 17) hx hb dX7_takeWord_8 (by decide) (fun c2 => ?_) (fun c2 => ?_)
  · have hf := fn hf c2
    refine lv_aload_n hx hb dX7_takeWord_17 rfl (lv_at hl 0 rfl) ?_
    refine gF_X7_12 rfl hN cx hp dX7_takeWord_18 ?_
    obtain ⟨τ3, hc, hf⟩ := fb hf
    refine x_v hp (y_V (As := []) (rest := []) cx hp hl (c_X10_next l hN hT e12 e13 hc) (cw_X7_39 cx (mc := 0) (ms := 0) rfl rfl ⟨by decide, by decide⟩) (rC_X10 hN cx hp) rfl rfl (Nat.le_of_ble_eq_true rfl) dX7_takeWord_21 ⟨Nat.zero_le _, Nat.zero_le _⟩) (fun u_c H locs hq hp => ?_)
    obtain ⟨e_0, n_u⟩ := hq
    have e12 := e_0
    have e11 := (n_u _ d_11_12).trans e11
    have e13 := (n_u _ d_13_12).trans e13
    have fr : ∀ q, q ≠ 11 → q ≠ 12 → u_c q = σ q := fun q h0 h1 => (n_u q h1).trans (fr q h0 h1)
    obtain ⟨u, rfl⟩ : ∃ z, u_c = z := ⟨_, rfl⟩
    refine lv_iconst (v := 1) hx hb dX7_takeWord_24 (by decide) ?_
    cases hf
    exact r_z cx hp rfl ⟨rfl, e11, e12, fr⟩ dX7_takeWord_25
  · have hf := fp hf c2
    refine lv_aload_n hx hb dX7_takeWord_11 rfl (lv_at hl 0 rfl) ?_
    refine lv_iconst (v := 1) hx hb dX7_takeWord_12 (by decide) ?_
    obtain ⟨r4, π5, hc, hf⟩ := fb2 hf
    refine x_i hp (y_V (As := [.int 1]) (rest := []) cx hp hl (c_X7_fail l hN hT e11 e12 hc) (cw_X7_35 cx (mc := 0) (ms := 0) rfl rfl ⟨by decide, by decide⟩) (rC_X7 hN cx hp) rfl rfl (Nat.le_of_ble_eq_true rfl) dX7_takeWord_13 ⟨Nat.zero_le _, Nat.zero_le _⟩) (fun r_c u_c H locs hq hp => ?_)
    obtain ⟨rfl, e_0, n_u⟩ := hq
    have e11 := e_0
    have e12 := (n_u _ d_12_11).trans e12
    have e13 := (n_u _ d_13_11).trans e13
    have fr : ∀ q, q ≠ 11 → q ≠ 12 → u_c q = σ q := fun q h0 h1 => (n_u q h0).trans (fr q h0 h1)
    obtain ⟨u, rfl⟩ : ∃ z, u_c = z := ⟨_, rfl⟩
    obtain ⟨g_z, hf⟩ := fg hf
    cases hf
    exact r_z cx hp (bz_n g_z) ⟨rfl, e11, e12, fr⟩ dX7_takeWord_16
abbrev rm_X7_takeSemicolon : Room := { frames := 3, cells := 0, slots := 0, locals := 62 }
set_option maxRecDepth 100000 in
set_option maxHeartbeats 4000000 in
theorem c_X7_takeSemicolon (l : Launch) {E : Ev} (hN : 129 ≤ eN E) (hT : St E) {σ : SM} {π : OM} (e11 : σ 11 = π) {τ : OM} (e12 : σ 12 = τ) {β : OM} (e13 : σ 13 = β)  {rv : Int32} {π' : OM} {τ' : OM} (hf : f_X7_takeSemicolon π τ β = some (rv, π', τ')) : Met l yX7_takeSemicolon (wC yX7_takeSemicolon cX7_takeSemicolon 1 (some .boolean)) rm_X7_takeSemicolon (va_Pc [.ref (adr E 11 0)] (Wu E σ)) (va_Qi (fun r u => rv = r ∧ u 11 = π' ∧ u 12 = τ' ∧ ∀ q, q ≠ 11 → q ≠ 12 → u q = σ q) (fun u t => Wu E u t) (eA E)) 0 0 (eA E) := by
  refine g_entry (lv := [(0, .ref (adr E 11 0))]) (by decide) (Nat.le_of_ble_eq_true rfl) rfl ?_
  intro p e s m below meth c cx hp ls hl
  have hx := cx.1.1
  have hb := cx.1.2.1
  have fr : ∀ q, q ≠ 11 → q ≠ 12 → σ q = σ q := fun _ _ _ => rfl
  have d_11_12 : (11 : Nat) ≠ 12 := by decide
  have d_12_11 : (12 : Nat) ≠ 11 := by decide
  have d_13_11 : (13 : Nat) ≠ 11 := by decide
  have d_13_12 : (13 : Nat) ≠ 12 := by decide
  unfold f_X7_takeSemicolon at hf
  refine lv_aload_n hx hb dX7_takeSemicolon_0 rfl (lv_at hl 0 rfl) ?_
  refine gF_X7_12 rfl hN cx hp dX7_takeSemicolon_1 ?_
  refine gF_X7_42 e12 hN cx hp dX7_takeSemicolon_4 ?_
  refine lv_iconst (v := 3) hx hb dX7_takeSemicolon_7 (by decide) ?_
  refine lv_icmp_eq (tgt := 17) hx hb dX7_takeSemicolon_8 (by decide) (fun c1 => ?_) (fun c1 => ?_)
  · have hf := fp hf c1
    refine lv_aload_n hx hb dX7_takeSemicolon_17 rfl (lv_at hl 0 rfl) ?_
    refine gF_X7_12 rfl hN cx hp dX7_takeSemicolon_18 ?_
    obtain ⟨τ2, hc, hf⟩ := fb hf
    refine x_v hp (y_V (As := []) (rest := []) cx hp hl (c_X10_next l hN hT e12 e13 hc) (cw_X7_39 cx (mc := 0) (ms := 0) rfl rfl ⟨by decide, by decide⟩) (rC_X10 hN cx hp) rfl rfl (Nat.le_of_ble_eq_true rfl) dX7_takeSemicolon_21 ⟨Nat.zero_le _, Nat.zero_le _⟩) (fun u_c H locs hq hp => ?_)
    obtain ⟨e_0, n_u⟩ := hq
    have e12 := e_0
    have e11 := (n_u _ d_11_12).trans e11
    have e13 := (n_u _ d_13_12).trans e13
    have fr : ∀ q, q ≠ 11 → q ≠ 12 → u_c q = σ q := fun q h0 h1 => (n_u q h1).trans (fr q h0 h1)
    obtain ⟨u, rfl⟩ : ∃ z, u_c = z := ⟨_, rfl⟩
    refine lv_iconst (v := 1) hx hb dX7_takeSemicolon_24 (by decide) ?_
    cases hf
    exact r_z cx hp rfl ⟨rfl, e11, e12, fr⟩ dX7_takeSemicolon_25
  · have hf := fn hf c1
    refine lv_aload_n hx hb dX7_takeSemicolon_11 rfl (lv_at hl 0 rfl) ?_
    refine lv_iconst (v := 1) hx hb dX7_takeSemicolon_12 (by decide) ?_
    obtain ⟨r3, π4, hc, hf⟩ := fb2 hf
    refine x_i hp (y_V (As := [.int 1]) (rest := []) cx hp hl (c_X7_fail l hN hT e11 e12 hc) (cw_X7_35 cx (mc := 0) (ms := 0) rfl rfl ⟨by decide, by decide⟩) (rC_X7 hN cx hp) rfl rfl (Nat.le_of_ble_eq_true rfl) dX7_takeSemicolon_13 ⟨Nat.zero_le _, Nat.zero_le _⟩) (fun r_c u_c H locs hq hp => ?_)
    obtain ⟨rfl, e_0, n_u⟩ := hq
    have e11 := e_0
    have e12 := (n_u _ d_12_11).trans e12
    have e13 := (n_u _ d_13_11).trans e13
    have fr : ∀ q, q ≠ 11 → q ≠ 12 → u_c q = σ q := fun q h0 h1 => (n_u q h0).trans (fr q h0 h1)
    obtain ⟨u, rfl⟩ : ∃ z, u_c = z := ⟨_, rfl⟩
    obtain ⟨g_z, hf⟩ := fg hf
    cases hf
    exact r_z cx hp (bz_n g_z) ⟨rfl, e11, e12, fr⟩ dX7_takeSemicolon_16
abbrev rm_X7_takeNumber : Room := { frames := 3, cells := 0, slots := 0, locals := 62 }
set_option maxRecDepth 100000 in
set_option maxHeartbeats 4000000 in
theorem c_X7_takeNumber (l : Launch) {E : Ev} (hN : 129 ≤ eN E) (hT : St E) {σ : SM} {π : OM} (e11 : σ 11 = π) {τ : OM} (e12 : σ 12 = τ) {β : OM} (e13 : σ 13 = β) {p1 : Int32} {p2 : Int32} {rv : Int32} {π' : OM} {τ' : OM} (hf : f_X7_takeNumber p1 p2 π τ β = some (rv, π', τ')) : Met l yX7_takeNumber (wC yX7_takeNumber cX7_takeNumber 4 (some .int)) rm_X7_takeNumber (va_Pc [.ref (adr E 11 0), .int p1, .int p2] (Wu E σ)) (va_Qi (fun r u => rv = r ∧ u 11 = π' ∧ u 12 = τ' ∧ ∀ q, q ≠ 11 → q ≠ 12 → u q = σ q) (fun u t => Wu E u t) (eA E)) 0 0 (eA E) := by
  refine g_entry (lv := [(0, .ref (adr E 11 0)), (1, .int p1), (2, .int p2)]) (by decide) (Nat.le_of_ble_eq_true rfl) rfl ?_
  intro p e s m below meth c cx hp ls hl
  have hx := cx.1.1
  have hb := cx.1.2.1
  have fr : ∀ q, q ≠ 11 → q ≠ 12 → σ q = σ q := fun _ _ _ => rfl
  have d_11_12 : (11 : Nat) ≠ 12 := by decide
  have d_12_11 : (12 : Nat) ≠ 11 := by decide
  have d_13_11 : (13 : Nat) ≠ 11 := by decide
  have d_13_12 : (13 : Nat) ≠ 12 := by decide
  unfold f_X7_takeNumber at hf
  refine lv_aload_n hx hb dX7_takeNumber_0 rfl (lv_at hl 0 rfl) ?_
  refine gF_X7_12 rfl hN cx hp dX7_takeNumber_1 ?_
  refine gF_X7_45 e12 hN cx hp dX7_takeNumber_4 ?_
  obtain ⟨i1, x_e, hf⟩ := fl hf
  refine lv_nm x_e ?_
  refine lv_istore_n (lv' := [(3, .int i1), (0, .ref (adr E 11 0)), (1, .int p1), (2, .int p2)]) hx hb dX7_takeNumber_7 rfl hl (by decide) rfl (fun ls hl => ?_)
  refine lv_aload_n hx hb dX7_takeNumber_8 rfl (lv_at hl 1 rfl) ?_
  refine gF_X7_12 rfl hN cx hp dX7_takeNumber_9 ?_
  refine gF_X7_42 e12 hN cx hp dX7_takeNumber_12 ?_
  refine lv_iconst (v := 2) hx hb dX7_takeNumber_15 (by decide) ?_
  refine lv_icmp_eq (tgt := 27) hx hb dX7_takeNumber_16 (by decide) (fun c2 => ?_) (fun c2 => ?_)
  · have hf := fp hf c2
    refine lv_iload_n hx hb dX7_takeNumber_27 rfl (lv_at hl 0 rfl) ?_
    refine lv_iload_n hx hb dX7_takeNumber_28 rfl (lv_at hl 2 rfl) ?_
    refine lv_icmp_lt (tgt := 37) hx hb dX7_takeNumber_29 (by decide) (fun c3 => ?_) (fun c3 => ?_)
    · have hf := fp hf c3
      refine lv_aload_n hx hb dX7_takeNumber_37 rfl (lv_at hl 1 rfl) ?_
      refine lv_iconst (v := 2) hx hb dX7_takeNumber_38 (by decide) ?_
      obtain ⟨r4, π5, hc, hf⟩ := fb2 hf
      refine x_i hp (y_V (As := [.int 2]) (rest := []) cx hp hl (c_X7_fail l hN hT e11 e12 hc) (cw_X7_35 cx (mc := 0) (ms := 0) rfl rfl ⟨by decide, by decide⟩) (rC_X7 hN cx hp) rfl rfl (Nat.le_of_ble_eq_true rfl) dX7_takeNumber_39 ⟨Nat.zero_le _, Nat.zero_le _⟩) (fun r_c u_c H locs hq hp => ?_)
      obtain ⟨rfl, e_0, n_u⟩ := hq
      have e11 := e_0
      have e12 := (n_u _ d_12_11).trans e12
      have e13 := (n_u _ d_13_11).trans e13
      have fr : ∀ q, q ≠ 11 → q ≠ 12 → u_c q = σ q := fun q h0 h1 => (n_u q h0).trans (fr q h0 h1)
      obtain ⟨u, rfl⟩ : ∃ z, u_c = z := ⟨_, rfl⟩
      refine lv_pop hx hb dX7_takeNumber_42 rfl ?_
      refine lv_iconst (v := (-1)) hx hb dX7_takeNumber_43 (by decide) ?_
      cases hf
      exact r_i cx hp ⟨rfl, e11, e12, fr⟩ dX7_takeNumber_44
    · have hf := fn hf c3
      refine lv_iload_n hx hb dX7_takeNumber_32 rfl (lv_at hl 0 rfl) ?_
      refine lv_iload_n hx hb dX7_takeNumber_33 rfl (lv_at hl 3 rfl) ?_
      refine lv_icmp_le (tgt := 45) hx hb dX7_takeNumber_34 (by decide) (fun c6 => ?_) (fun c6 => ?_)
      · have hf := fp hf c6
        refine lv_aload_n hx hb dX7_takeNumber_45 rfl (lv_at hl 1 rfl) ?_
        refine gF_X7_12 rfl hN cx hp dX7_takeNumber_46 ?_
        obtain ⟨τ7, hc, hf⟩ := fb hf
        refine x_v hp (y_V (As := []) (rest := []) cx hp hl (c_X10_next l hN hT e12 e13 hc) (cw_X7_39 cx (mc := 0) (ms := 0) rfl rfl ⟨by decide, by decide⟩) (rC_X10 hN cx hp) rfl rfl (Nat.le_of_ble_eq_true rfl) dX7_takeNumber_49 ⟨Nat.zero_le _, Nat.zero_le _⟩) (fun u_c H locs hq hp => ?_)
        obtain ⟨e_0, n_u⟩ := hq
        have e12 := e_0
        have e11 := (n_u _ d_11_12).trans e11
        have e13 := (n_u _ d_13_12).trans e13
        have fr : ∀ q, q ≠ 11 → q ≠ 12 → u_c q = σ q := fun q h0 h1 => (n_u q h1).trans (fr q h0 h1)
        obtain ⟨u, rfl⟩ : ∃ z, u_c = z := ⟨_, rfl⟩
        refine lv_iload_n hx hb dX7_takeNumber_52 rfl (lv_at hl 0 rfl) ?_
        cases hf
        exact r_i cx hp ⟨rfl, e11, e12, fr⟩ dX7_takeNumber_53
      · have hf := fn hf c6
        refine lv_aload_n hx hb dX7_takeNumber_37 rfl (lv_at hl 1 rfl) ?_
        refine lv_iconst (v := 2) hx hb dX7_takeNumber_38 (by decide) ?_
        obtain ⟨r8, π9, hc, hf⟩ := fb2 hf
        refine x_i hp (y_V (As := [.int 2]) (rest := []) cx hp hl (c_X7_fail l hN hT e11 e12 hc) (cw_X7_35 cx (mc := 0) (ms := 0) rfl rfl ⟨by decide, by decide⟩) (rC_X7 hN cx hp) rfl rfl (Nat.le_of_ble_eq_true rfl) dX7_takeNumber_39 ⟨Nat.zero_le _, Nat.zero_le _⟩) (fun r_c u_c H locs hq hp => ?_)
        obtain ⟨rfl, e_0, n_u⟩ := hq
        have e11 := e_0
        have e12 := (n_u _ d_12_11).trans e12
        have e13 := (n_u _ d_13_11).trans e13
        have fr : ∀ q, q ≠ 11 → q ≠ 12 → u_c q = σ q := fun q h0 h1 => (n_u q h0).trans (fr q h0 h1)
        obtain ⟨u, rfl⟩ : ∃ z, u_c = z := ⟨_, rfl⟩
        refine lv_pop hx hb dX7_takeNumber_42 rfl ?_
        refine lv_iconst (v := (-1)) hx hb dX7_takeNumber_43 (by decide) ?_
        cases hf
        exact r_i cx hp ⟨rfl, e11, e12, fr⟩ dX7_takeNumber_44
  · have hf := fn hf c2
    refine lv_aload_n hx hb dX7_takeNumber_19 rfl (lv_at hl 1 rfl) ?_
    refine lv_iconst (v := 1) hx hb dX7_takeNumber_20 (by decide) ?_
    obtain ⟨r10, π11, hc, hf⟩ := fb2 hf
    refine x_i hp (y_V (As := [.int 1]) (rest := []) cx hp hl (c_X7_fail l hN hT e11 e12 hc) (cw_X7_35 cx (mc := 0) (ms := 0) rfl rfl ⟨by decide, by decide⟩) (rC_X7 hN cx hp) rfl rfl (Nat.le_of_ble_eq_true rfl) dX7_takeNumber_21 ⟨Nat.zero_le _, Nat.zero_le _⟩) (fun r_c u_c H locs hq hp => ?_)
    obtain ⟨rfl, e_0, n_u⟩ := hq
    have e11 := e_0
    have e12 := (n_u _ d_12_11).trans e12
    have e13 := (n_u _ d_13_11).trans e13
    have fr : ∀ q, q ≠ 11 → q ≠ 12 → u_c q = σ q := fun q h0 h1 => (n_u q h0).trans (fr q h0 h1)
    obtain ⟨u, rfl⟩ : ∃ z, u_c = z := ⟨_, rfl⟩
    refine lv_pop hx hb dX7_takeNumber_24 rfl ?_
    refine lv_iconst (v := (-1)) hx hb dX7_takeNumber_25 (by decide) ?_
    cases hf
    exact r_i cx hp ⟨rfl, e11, e12, fr⟩ dX7_takeNumber_26
abbrev rm_X7_seeStall : Room := { frames := 5, cells := 0, slots := 0, locals := 107 }
set_option maxRecDepth 100000 in
set_option maxHeartbeats 4000000 in
theorem c_X7_seeStall (l : Launch) {E : Ev} (hN : 129 ≤ eN E) (hT : St E) {σ : SM} {o : Nat} {μ : OM} (ho : o < 11) (eM : σ o = μ) {π : OM} (e11 : σ 11 = π) {τ : OM} (e12 : σ 12 = τ) {β : OM} (e13 : σ 13 = β)  {rv : Int32} {π' : OM} (hf : f_X7_seeStall μ π τ β = some (rv, π')) : Met l yX7_seeStall (wC yX7_seeStall cX7_seeStall 3 (some .int)) rm_X7_seeStall (va_Pc [.ref (adr E 11 0), .ref (adr E o 0)] (Wu E σ)) (va_Qi (fun r u => rv = r ∧ u 11 = π' ∧ ∀ q, q ≠ 11 → u q = σ q) (fun u t => Wu E u t) (eA E)) 0 0 (eA E) := by
  refine g_entry (lv := [(0, .ref (adr E 11 0)), (1, .ref (adr E o 0))]) (by decide) (Nat.le_of_ble_eq_true rfl) rfl ?_
  intro p e s m below meth c cx hp ls hl
  have hx := cx.1.1
  have hb := cx.1.2.1
  have fr : ∀ q, q ≠ 11 → σ q = σ q := fun _ _ => rfl
  have d_M_11 : (o : Nat) ≠ 11 := by omega
  have d_12_11 : (12 : Nat) ≠ 11 := by decide
  have d_13_11 : (13 : Nat) ≠ 11 := by decide
  unfold f_X7_seeStall at hf
  refine lv_aload_n hx hb dX7_seeStall_0 rfl (lv_at hl 0 rfl) ?_
  refine gF_X7_12 rfl hN cx hp dX7_seeStall_1 ?_
  refine gF_X7_42 e12 hN cx hp dX7_seeStall_4 ?_
  refine lv_iconst (v := 1) hx hb dX7_seeStall_7 (by decide) ?_
  refine lv_icmp_ne (tgt := 23) hx hb dX7_seeStall_8 (by decide) (fun c1 => ?_) (fun c1 => ?_)
  · have hf := fn hf c1
    refine lv_aload_n hx hb dX7_seeStall_23 rfl (lv_at hl 0 rfl) ?_
    refine lv_iconst (v := 1) hx hb dX7_seeStall_24 (by decide) ?_
    obtain ⟨r2, π3, hc, hf⟩ := fb2 hf
    refine x_i hp (y_V (As := [.int 1]) (rest := []) cx hp hl (c_X7_fail l hN hT e11 e12 hc) (cw_X7_35 cx (mc := 0) (ms := 0) rfl rfl ⟨by decide, by decide⟩) (rC_X7 hN cx hp) rfl rfl (Nat.le_of_ble_eq_true rfl) dX7_seeStall_25 ⟨Nat.zero_le _, Nat.zero_le _⟩) (fun r_c u_c H locs hq hp => ?_)
    obtain ⟨rfl, e_0, n_u⟩ := hq
    have e11 := e_0
    have eM := (n_u _ d_M_11).trans eM
    have e12 := (n_u _ d_12_11).trans e12
    have e13 := (n_u _ d_13_11).trans e13
    have fr : ∀ q, q ≠ 11 → u_c q = σ q := fun q h0 => (n_u q h0).trans (fr q h0)
    obtain ⟨u, rfl⟩ : ∃ z, u_c = z := ⟨_, rfl⟩
    refine lv_pop hx hb dX7_seeStall_28 rfl ?_
    refine lv_iconst (v := (-1)) hx hb dX7_seeStall_29 (by decide) ?_
    cases hf
    exact r_i cx hp ⟨rfl, e11, fr⟩ dX7_seeStall_30
  · have hf := fp hf c1
    refine lv_aload_n hx hb dX7_seeStall_11 rfl (lv_at hl 0 rfl) ?_
    refine gF_X7_12 rfl hN cx hp dX7_seeStall_12 ?_
    refine va_ldcS hx hb cx.1.2.2.2.1 (cx.2.2.1.2.2.2 5 _ rfl) dX7_seeStall_15 ?_
    obtain ⟨r4, hc, hf⟩ := fb hf
    refine x_i hp (y_V (As := [.ref (eK E 5)]) (rest := []) cx hp hl (c_X10_isWord l hN hT e12 e13 hc) (cw_X7_31 cx (mc := 0) (ms := 0) rfl rfl ⟨by decide, by decide⟩) (rC_X10 hN cx hp) rfl rfl (Nat.le_of_ble_eq_true rfl) dX7_seeStall_17 ⟨Nat.zero_le _, Nat.zero_le _⟩) (fun r_c u_c H locs hq hp => ?_)
    obtain ⟨rfl, rfl⟩ := hq
    refine lv_if_eq (tgt := 31) hx hb dX7_seeStall_20 (by decide) (fun c5 => ?_) (fun c5 => ?_)
    · have hf := fp hf c5
      refine lv_aload_n hx hb dX7_seeStall_31 rfl (lv_at hl 1 rfl) ?_
      refine lv_aload_n hx hb dX7_seeStall_32 rfl (lv_at hl 0 rfl) ?_
      refine gF_X7_12 rfl hN cx hp dX7_seeStall_33 ?_
      refine gF_X7_48 e12 hN cx hp dX7_seeStall_36 ?_
      obtain ⟨r6, hc, hf⟩ := fb hf
      refine x_i hp (y_V (As := [.long (τ.2.1 0 5)]) (rest := []) cx hp hl (c_X5_stallCalled l hN hT ho eM hc) (cw_X7_60 cx (mc := 0) (ms := 0) rfl rfl ⟨by decide, by decide⟩) (rC_X5 ho hN cx hp) rfl rfl (Nat.le_of_ble_eq_true rfl) dX7_seeStall_39 ⟨Nat.zero_le _, Nat.zero_le _⟩) (fun r_c u_c H locs hq hp => ?_)
      obtain ⟨rfl, rfl⟩ := hq
      refine lv_istore_n (lv' := [(2, .int r6), (0, .ref (adr E 11 0)), (1, .ref (adr E o 0))]) hx hb dX7_seeStall_42 rfl hl (by decide) rfl (fun ls hl => ?_)
      refine lv_iload_n hx hb dX7_seeStall_43 rfl (lv_at hl 0 rfl) ?_
      refine lv_iconst (v := (-1)) hx hb dX7_seeStall_44 (by decide) ?_
      refine lv_icmp_ne (tgt := 54) hx hb dX7_seeStall_45 (by decide) (fun c7 => ?_) (fun c7 => ?_)
      · have hf := fn hf c7
        refine lv_iload_n hx hb dX7_seeStall_54 rfl (lv_at hl 0 rfl) ?_
        cases hf
        exact r_i cx hp ⟨rfl, e11, fr⟩ dX7_seeStall_55
      · have hf := fp hf c7
        refine lv_aload_n hx hb dX7_seeStall_48 rfl (lv_at hl 1 rfl) ?_
        refine lv_iconst (v := 3) hx hb dX7_seeStall_49 (by decide) ?_
        obtain ⟨r8, π9, hc, hf⟩ := fb2 hf
        refine x_i hp (y_V (As := [.int 3]) (rest := []) cx hp hl (c_X7_fail l hN hT e11 e12 hc) (cw_X7_35 cx (mc := 0) (ms := 0) rfl rfl ⟨by decide, by decide⟩) (rC_X7 hN cx hp) rfl rfl (Nat.le_of_ble_eq_true rfl) dX7_seeStall_50 ⟨Nat.zero_le _, Nat.zero_le _⟩) (fun r_c u_c H locs hq hp => ?_)
        obtain ⟨rfl, e_0, n_u⟩ := hq
        have e11 := e_0
        have eM := (n_u _ d_M_11).trans eM
        have e12 := (n_u _ d_12_11).trans e12
        have e13 := (n_u _ d_13_11).trans e13
        have fr : ∀ q, q ≠ 11 → u_c q = σ q := fun q h0 => (n_u q h0).trans (fr q h0)
        obtain ⟨u, rfl⟩ : ∃ z, u_c = z := ⟨_, rfl⟩
        refine lv_pop hx hb dX7_seeStall_53 rfl ?_
        refine lv_iload_n hx hb dX7_seeStall_54 rfl (lv_at hl 0 rfl) ?_
        cases hf
        exact r_i cx hp ⟨rfl, e11, fr⟩ dX7_seeStall_55
    · have hf := fn hf c5
      refine lv_aload_n hx hb dX7_seeStall_23 rfl (lv_at hl 0 rfl) ?_
      refine lv_iconst (v := 1) hx hb dX7_seeStall_24 (by decide) ?_
      obtain ⟨r10, π11, hc, hf⟩ := fb2 hf
      refine x_i hp (y_V (As := [.int 1]) (rest := []) cx hp hl (c_X7_fail l hN hT e11 e12 hc) (cw_X7_35 cx (mc := 0) (ms := 0) rfl rfl ⟨by decide, by decide⟩) (rC_X7 hN cx hp) rfl rfl (Nat.le_of_ble_eq_true rfl) dX7_seeStall_25 ⟨Nat.zero_le _, Nat.zero_le _⟩) (fun r_c u_c H locs hq hp => ?_)
      obtain ⟨rfl, e_0, n_u⟩ := hq
      have e11 := e_0
      have eM := (n_u _ d_M_11).trans eM
      have e12 := (n_u _ d_12_11).trans e12
      have e13 := (n_u _ d_13_11).trans e13
      have fr : ∀ q, q ≠ 11 → u_c q = σ q := fun q h0 => (n_u q h0).trans (fr q h0)
      obtain ⟨u, rfl⟩ : ∃ z, u_c = z := ⟨_, rfl⟩
      refine lv_pop hx hb dX7_seeStall_28 rfl ?_
      refine lv_iconst (v := (-1)) hx hb dX7_seeStall_29 (by decide) ?_
      cases hf
      exact r_i cx hp ⟨rfl, e11, fr⟩ dX7_seeStall_30
abbrev rm_X9_takeNewName : Room := { frames := 3, cells := 0, slots := 0, locals := 62 }
set_option maxRecDepth 100000 in
set_option maxHeartbeats 4000000 in
theorem c_X9_takeNewName (l : Launch) {E : Ev} (hN : 129 ≤ eN E) (hT : St E) {σ : SM} {π : OM} (e11 : σ 11 = π) {τ : OM} (e12 : σ 12 = τ) {β : OM} (e13 : σ 13 = β) {p1 : Int32} {rv : Int32} {π' : OM} {τ' : OM} (hf : f_X9_takeNewName p1 π τ β = some (rv, π', τ')) : Met l yX9_takeNewName (wC yX9_takeNewName cX9_takeNewName 2 (some .boolean)) rm_X9_takeNewName (va_Pc [.ref (adr E 11 0), .int p1] (Wu E σ)) (va_Qi (fun r u => rv = r ∧ u 11 = π' ∧ u 12 = τ' ∧ ∀ q, q ≠ 11 → q ≠ 12 → u q = σ q) (fun u t => Wu E u t) (eA E)) 0 0 (eA E) := by
  refine g_entry (lv := [(0, .ref (adr E 11 0)), (1, .int p1)]) (by decide) (Nat.le_of_ble_eq_true rfl) rfl ?_
  intro p e s m below meth c cx hp ls hl
  have hx := cx.1.1
  have hb := cx.1.2.1
  have fr : ∀ q, q ≠ 11 → q ≠ 12 → σ q = σ q := fun _ _ _ => rfl
  have d_11_12 : (11 : Nat) ≠ 12 := by decide
  have d_12_11 : (12 : Nat) ≠ 11 := by decide
  have d_13_11 : (13 : Nat) ≠ 11 := by decide
  have d_13_12 : (13 : Nat) ≠ 12 := by decide
  unfold f_X9_takeNewName at hf
  refine lv_aload_n hx hb dX9_takeNewName_0 rfl (lv_at hl 0 rfl) ?_
  refine gF_X9_38 rfl hN cx hp dX9_takeNewName_1 ?_
  refine gF_X9_78 e12 hN cx hp dX9_takeNewName_4 ?_
  refine lv_iconst (v := 1) hx hb dX9_takeNewName_7 (by decide) ?_
  refine lv_icmp_eq (tgt := 17) hx hb dX9_takeNewName_8 (by decide) (fun c1 => ?_) (fun c1 => ?_)
  · have hf := fp hf c1
    refine lv_iload_n hx hb dX9_takeNewName_17 rfl (lv_at hl 1 rfl) ?_
    refine lv_if_ne (tgt := 33) hx hb dX9_takeNewName_18 (by decide) (fun c2 => ?_) (fun c2 => ?_)
    · have hf := fn hf c2
      refine lv_aload_n hx hb dX9_takeNewName_33 rfl (lv_at hl 0 rfl) ?_
      refine lv_iconst (v := 3) hx hb dX9_takeNewName_34 (by decide) ?_
      obtain ⟨r3, π4, hc, hf⟩ := fb2 hf
      refine x_i hp (y_V (As := [.int 3]) (rest := []) cx hp hl (c_X7_fail l hN hT e11 e12 hc) (cw_X9_52 cx (mc := 0) (ms := 0) rfl rfl ⟨by decide, by decide⟩) (rC_X7 hN cx hp) rfl rfl (Nat.le_of_ble_eq_true rfl) dX9_takeNewName_35 ⟨Nat.zero_le _, Nat.zero_le _⟩) (fun r_c u_c H locs hq hp => ?_)
      obtain ⟨rfl, e_0, n_u⟩ := hq
      have e11 := e_0
      have e12 := (n_u _ d_12_11).trans e12
      have e13 := (n_u _ d_13_11).trans e13
      have fr : ∀ q, q ≠ 11 → q ≠ 12 → u_c q = σ q := fun q h0 h1 => (n_u q h0).trans (fr q h0 h1)
      obtain ⟨u, rfl⟩ : ∃ z, u_c = z := ⟨_, rfl⟩
      obtain ⟨g_z, hf⟩ := fg hf
      cases hf
      exact r_z cx hp (bz_n g_z) ⟨rfl, e11, e12, fr⟩ dX9_takeNewName_38
    · have hf := fp hf c2
      refine lv_aload_n hx hb dX9_takeNewName_21 rfl (lv_at hl 0 rfl) ?_
      refine gF_X9_38 rfl hN cx hp dX9_takeNewName_22 ?_
      refine gF_X9_56 e12 hN cx hp dX9_takeNewName_25 ?_
      refine lv_lconst (v := 0) hx hb dX9_takeNewName_28 (by decide) ?_
      refine W.lcmp hx hb dX9_takeNewName_29 ?_
      refine lv_if_ne (tgt := 39) hx hb dX9_takeNewName_30 (by decide) (fun c5 => ?_) (fun c5 => ?_)
      · have hf := fn hf c5
        refine lv_aload_n hx hb dX9_takeNewName_39 rfl (lv_at hl 0 rfl) ?_
        refine gF_X9_38 rfl hN cx hp dX9_takeNewName_40 ?_
        obtain ⟨τ6, hc, hf⟩ := fb hf
        refine x_v hp (y_V (As := []) (rest := []) cx hp hl (c_X10_next l hN hT e12 e13 hc) (cw_X9_82 cx (mc := 0) (ms := 0) rfl rfl ⟨by decide, by decide⟩) (rC_X10 hN cx hp) rfl rfl (Nat.le_of_ble_eq_true rfl) dX9_takeNewName_43 ⟨Nat.zero_le _, Nat.zero_le _⟩) (fun u_c H locs hq hp => ?_)
        obtain ⟨e_0, n_u⟩ := hq
        have e12 := e_0
        have e11 := (n_u _ d_11_12).trans e11
        have e13 := (n_u _ d_13_12).trans e13
        have fr : ∀ q, q ≠ 11 → q ≠ 12 → u_c q = σ q := fun q h0 h1 => (n_u q h1).trans (fr q h0 h1)
        obtain ⟨u, rfl⟩ : ∃ z, u_c = z := ⟨_, rfl⟩
        refine lv_iconst (v := 1) hx hb dX9_takeNewName_46 (by decide) ?_
        cases hf
        exact r_z cx hp rfl ⟨rfl, e11, e12, fr⟩ dX9_takeNewName_47
      · have hf := fp hf c5
        refine lv_aload_n hx hb dX9_takeNewName_33 rfl (lv_at hl 0 rfl) ?_
        refine lv_iconst (v := 3) hx hb dX9_takeNewName_34 (by decide) ?_
        obtain ⟨r7, π8, hc, hf⟩ := fb2 hf
        refine x_i hp (y_V (As := [.int 3]) (rest := []) cx hp hl (c_X7_fail l hN hT e11 e12 hc) (cw_X9_52 cx (mc := 0) (ms := 0) rfl rfl ⟨by decide, by decide⟩) (rC_X7 hN cx hp) rfl rfl (Nat.le_of_ble_eq_true rfl) dX9_takeNewName_35 ⟨Nat.zero_le _, Nat.zero_le _⟩) (fun r_c u_c H locs hq hp => ?_)
        obtain ⟨rfl, e_0, n_u⟩ := hq
        have e11 := e_0
        have e12 := (n_u _ d_12_11).trans e12
        have e13 := (n_u _ d_13_11).trans e13
        have fr : ∀ q, q ≠ 11 → q ≠ 12 → u_c q = σ q := fun q h0 h1 => (n_u q h0).trans (fr q h0 h1)
        obtain ⟨u, rfl⟩ : ∃ z, u_c = z := ⟨_, rfl⟩
        obtain ⟨g_z, hf⟩ := fg hf
        cases hf
        exact r_z cx hp (bz_n g_z) ⟨rfl, e11, e12, fr⟩ dX9_takeNewName_38
  · have hf := fn hf c1
    refine lv_aload_n hx hb dX9_takeNewName_11 rfl (lv_at hl 0 rfl) ?_
    refine lv_iconst (v := 1) hx hb dX9_takeNewName_12 (by decide) ?_
    obtain ⟨r9, π10, hc, hf⟩ := fb2 hf
    refine x_i hp (y_V (As := [.int 1]) (rest := []) cx hp hl (c_X7_fail l hN hT e11 e12 hc) (cw_X9_52 cx (mc := 0) (ms := 0) rfl rfl ⟨by decide, by decide⟩) (rC_X7 hN cx hp) rfl rfl (Nat.le_of_ble_eq_true rfl) dX9_takeNewName_13 ⟨Nat.zero_le _, Nat.zero_le _⟩) (fun r_c u_c H locs hq hp => ?_)
    obtain ⟨rfl, e_0, n_u⟩ := hq
    have e11 := e_0
    have e12 := (n_u _ d_12_11).trans e12
    have e13 := (n_u _ d_13_11).trans e13
    have fr : ∀ q, q ≠ 11 → q ≠ 12 → u_c q = σ q := fun q h0 h1 => (n_u q h0).trans (fr q h0 h1)
    obtain ⟨u, rfl⟩ : ∃ z, u_c = z := ⟨_, rfl⟩
    obtain ⟨g_z, hf⟩ := fg hf
    cases hf
    exact r_z cx hp (bz_n g_z) ⟨rfl, e11, e12, fr⟩ dX9_takeNewName_16
abbrev rm_X9_readStall : Room := { frames := 6, cells := 0, slots := 0, locals := 128 }
set_option maxRecDepth 100000 in
set_option maxHeartbeats 4000000 in
theorem c_X9_readStall (l : Launch) {E : Ev} (hN : 129 ≤ eN E) (hT : St E) {σ : SM} {o : Nat} {μ : OM} (ho : o < 11) (eM : σ o = μ) {π : OM} (e11 : σ 11 = π) {τ : OM} (e12 : σ 12 = τ) {β : OM} (e13 : σ 13 = β)  {rv : Int32} {μ' : OM} {π' : OM} {τ' : OM} (hf : f_X9_readStall μ π τ β = some (rv, μ', π', τ')) : Met l yX9_readStall (wC yX9_readStall cX9_readStall 6 (some .boolean)) rm_X9_readStall (va_Pc [.ref (adr E 11 0), .ref (adr E o 0)] (Wu E σ)) (va_Qi (fun r u => rv = r ∧ u o = μ' ∧ u 11 = π' ∧ u 12 = τ' ∧ ∀ q, q ≠ o → q ≠ 11 → q ≠ 12 → u q = σ q) (fun u t => Wu E u t) (eA E)) 0 0 (eA E) := by
  refine g_entry (lv := [(0, .ref (adr E 11 0)), (1, .ref (adr E o 0))]) (by decide) (Nat.le_of_ble_eq_true rfl) rfl ?_
  intro p e s m below meth c cx hp ls hl
  have hx := cx.1.1
  have hb := cx.1.2.1
  have fr : ∀ q, q ≠ o → q ≠ 11 → q ≠ 12 → σ q = σ q := fun _ _ _ _ => rfl
  have d_M_11 : (o : Nat) ≠ 11 := by omega
  have d_M_12 : (o : Nat) ≠ 12 := by omega
  have d_11_M : (11 : Nat) ≠ o := by omega
  have d_11_12 : (11 : Nat) ≠ 12 := by decide
  have d_12_M : (12 : Nat) ≠ o := by omega
  have d_12_11 : (12 : Nat) ≠ 11 := by decide
  have d_13_M : (13 : Nat) ≠ o := by omega
  have d_13_11 : (13 : Nat) ≠ 11 := by decide
  have d_13_12 : (13 : Nat) ≠ 12 := by decide
  unfold f_X9_readStall at hf
  refine lv_aload_n hx hb dX9_readStall_0 rfl (lv_at hl 0 rfl) ?_
  refine va_ldcS hx hb cx.1.2.2.2.1 (cx.2.2.1.2.2.2 2 _ rfl) dX9_readStall_1 ?_
  obtain ⟨r1, π2, τ3, hc, hf⟩ := fb3 hf
  refine x_i hp (y_V (As := [.ref (eK E 2)]) (rest := []) cx hp hl (c_X7_takeWord l hN hT e11 e12 e13 hc) (cw_X9_21 cx (mc := 0) (ms := 0) rfl rfl ⟨by decide, by decide⟩) (rC_X7 hN cx hp) rfl rfl (Nat.le_of_ble_eq_true rfl) dX9_readStall_3 ⟨Nat.zero_le _, Nat.zero_le _⟩) (fun r_c u_c H locs hq hp => ?_)
  obtain ⟨rfl, e_0, e_1, n_u⟩ := hq
  have e11 := e_0
  have e12 := e_1
  have eM := (n_u _ d_M_11 d_M_12).trans eM
  have e13 := (n_u _ d_13_11 d_13_12).trans e13
  have fr : ∀ q, q ≠ o → q ≠ 11 → q ≠ 12 → u_c q = σ q := fun q h0 h1 h2 => (n_u q h1 h2).trans (fr q h0 h1 h2)
  obtain ⟨u, rfl⟩ : ∃ z, u_c = z := ⟨_, rfl⟩
  refine lv_if_ne (tgt := 11) hx hb dX9_readStall_6 (by decide) (fun c4 => ?_) (fun c4 => ?_)
  · have hf := fn hf c4
    refine lv_aload_n hx hb dX9_readStall_11 rfl (lv_at hl 0 rfl) ?_
    refine gF_X9_38 rfl hN cx hp dX9_readStall_12 ?_
    refine gF_X9_56 e12 hN cx hp dX9_readStall_15 ?_
    obtain ⟨i5, x_e, hf⟩ := fl hf
    refine lv_nml x_e ?_
    refine lv_lstore_n (lv' := [(2, .long i5), (0, .ref (adr E 11 0)), (1, .ref (adr E o 0))]) hx hb dX9_readStall_18 rfl hl (by decide) rfl (fun ls hl => ?_)
    refine lv_aload_n hx hb dX9_readStall_19 rfl (lv_at hl 1 rfl) ?_
    refine gF_X9_38 rfl hN cx hp dX9_readStall_20 ?_
    refine va_ldcS hx hb cx.1.2.2.2.1 (cx.2.2.1.2.2.2 3 _ rfl) dX9_readStall_23 ?_
    obtain ⟨r6, hc, hf⟩ := fb hf
    refine x_i hp (y_V (As := [.ref (eK E 3)]) (rest := []) cx hp hl (c_X10_isWord l hN hT e12 e13 hc) (cw_X9_44 cx (mc := 0) (ms := 0) rfl rfl ⟨by decide, by decide⟩) (rC_X10 hN cx hp) rfl rfl (Nat.le_of_ble_eq_true rfl) dX9_readStall_25 ⟨Nat.zero_le _, Nat.zero_le _⟩) (fun r_c u_c H locs hq hp => ?_)
    obtain ⟨rfl, rfl⟩ := hq
    refine lv_if_ne (tgt := 40) hx hb dX9_readStall_28 (by decide) (fun c7 => ?_) (fun c7 => ?_)
    · have hf := fn hf c7
      refine lv_iconst (v := 1) hx hb dX9_readStall_40 (by decide) ?_
      refine lv_goto (tgt := 45) hx hb dX9_readStall_41 (by decide) ?_
      refine lv_istore (lv' := [(4, .int 1), (2, .long i5), (0, .ref (adr E 11 0)), (1, .ref (adr E o 0))]) hx hb dX9_readStall_45 hl (by decide) rfl (fun ls hl => ?_)
      refine lv_aload_n hx hb dX9_readStall_47 rfl (lv_at hl 2 rfl) ?_
      refine lv_iload hx hb dX9_readStall_48 (lv_at hl 0 rfl) ?_
      obtain ⟨r8, π9, τ10, hc, hf⟩ := fb3 hf
      refine x_i hp (y_S (As := [.ref (adr E 11 0), .int 1]) (rest := []) cx hp hl (c_X9_takeNewName l hN hT e11 e12 e13 hc) (cw_X9_66 cx (mc := 0) (ms := 0) rfl rfl ⟨by decide, by decide⟩) rfl rfl (Nat.le_of_ble_eq_true rfl) dX9_readStall_50 ⟨Nat.zero_le _, Nat.zero_le _⟩) (fun r_c u_c H locs hq hp => ?_)
      obtain ⟨rfl, e_0, e_1, n_u⟩ := hq
      have e11 := e_0
      have e12 := e_1
      have eM := (n_u _ d_M_11 d_M_12).trans eM
      have e13 := (n_u _ d_13_11 d_13_12).trans e13
      have fr : ∀ q, q ≠ o → q ≠ 11 → q ≠ 12 → u_c q = σ q := fun q h0 h1 h2 => (n_u q h1 h2).trans (fr q h0 h1 h2)
      obtain ⟨u, rfl⟩ : ∃ z, u_c = z := ⟨_, rfl⟩
      refine lv_if_ne (tgt := 58) hx hb dX9_readStall_53 (by decide) (fun c11 => ?_) (fun c11 => ?_)
      · have hf := fn hf c11
        refine lv_aload_n hx hb dX9_readStall_58 rfl (lv_at hl 2 rfl) ?_
        refine lv_iconst (v := 0) hx hb dX9_readStall_59 (by decide) ?_
        refine lv_bipush (v := 99) hx hb dX9_readStall_60 (by decide) ?_
        obtain ⟨r12, π13, τ14, hc, hf⟩ := fb3 hf
        refine x_i hp (y_V (As := [.int 0, .int 99]) (rest := []) cx hp hl (c_X7_takeNumber l hN hT e11 e12 e13 hc) (cw_X9_70 cx (mc := 0) (ms := 0) rfl rfl ⟨by decide, by decide⟩) (rC_X7 hN cx hp) rfl rfl (Nat.le_of_ble_eq_true rfl) dX9_readStall_62 ⟨Nat.zero_le _, Nat.zero_le _⟩) (fun r_c u_c H locs hq hp => ?_)
        obtain ⟨rfl, e_0, e_1, n_u⟩ := hq
        have e11 := e_0
        have e12 := e_1
        have eM := (n_u _ d_M_11 d_M_12).trans eM
        have e13 := (n_u _ d_13_11 d_13_12).trans e13
        have fr : ∀ q, q ≠ o → q ≠ 11 → q ≠ 12 → u_c q = σ q := fun q h0 h1 h2 => (n_u q h1 h2).trans (fr q h0 h1 h2)
        obtain ⟨u, rfl⟩ : ∃ z, u_c = z := ⟨_, rfl⟩
        refine lv_istore (lv' := [(5, .int r12), (4, .int 1), (2, .long i5), (0, .ref (adr E 11 0)), (1, .ref (adr E o 0))]) hx hb dX9_readStall_65 hl (by decide) rfl (fun ls hl => ?_)
        refine lv_iload hx hb dX9_readStall_67 (lv_at hl 0 rfl) ?_
        refine lv_iconst (v := (-1)) hx hb dX9_readStall_69 (by decide) ?_
        refine lv_icmp_ne (tgt := 75) hx hb dX9_readStall_70 (by decide) (fun c15 => ?_) (fun c15 => ?_)
        · have hf := fn hf c15
          refine lv_aload_n hx hb dX9_readStall_75 rfl (lv_at hl 4 rfl) ?_
          refine lv_lload_n hx hb dX9_readStall_76 rfl (lv_at hl 2 rfl) ?_
          refine lv_iload hx hb dX9_readStall_77 (lv_at hl 0 rfl) ?_
          obtain ⟨μ16, hc, hf⟩ := fb hf
          refine x_v hp (y_V (As := [.long i5, .int r12]) (rest := []) cx hp hl (c_X5_addStall l hN hT ho eM hc) (cw_X9_74 cx (mc := 0) (ms := 0) rfl rfl ⟨by decide, by decide⟩) (rC_X5 ho hN cx hp) rfl rfl (Nat.le_of_ble_eq_true rfl) dX9_readStall_79 ⟨Nat.zero_le _, Nat.zero_le _⟩) (fun u_c H locs hq hp => ?_)
          obtain ⟨e_0, n_u⟩ := hq
          have eM := e_0
          have e11 := (n_u _ d_11_M).trans e11
          have e12 := (n_u _ d_12_M).trans e12
          have e13 := (n_u _ d_13_M).trans e13
          have fr : ∀ q, q ≠ o → q ≠ 11 → q ≠ 12 → u_c q = σ q := fun q h0 h1 h2 => (n_u q h0).trans (fr q h0 h1 h2)
          obtain ⟨u, rfl⟩ : ∃ z, u_c = z := ⟨_, rfl⟩
          refine lv_aload_n hx hb dX9_readStall_82 rfl (lv_at hl 3 rfl) ?_
          obtain ⟨r17, π18, τ19, hc, hf⟩ := fb3 hf
          refine x_i hp (y_V (As := []) (rest := []) cx hp hl (c_X7_takeSemicolon l hN hT e11 e12 e13 hc) (cw_X9_25 cx (mc := 0) (ms := 0) rfl rfl ⟨by decide, by decide⟩) (rC_X7 hN cx hp) rfl rfl (Nat.le_of_ble_eq_true rfl) dX9_readStall_83 ⟨Nat.zero_le _, Nat.zero_le _⟩) (fun r_c u_c H locs hq hp => ?_)
          obtain ⟨rfl, e_0, e_1, n_u⟩ := hq
          have e11 := e_0
          have e12 := e_1
          have eM := (n_u _ d_M_11 d_M_12).trans eM
          have e13 := (n_u _ d_13_11 d_13_12).trans e13
          have fr : ∀ q, q ≠ o → q ≠ 11 → q ≠ 12 → u_c q = σ q := fun q h0 h1 h2 => (n_u q h1 h2).trans (fr q h0 h1 h2)
          obtain ⟨u, rfl⟩ : ∃ z, u_c = z := ⟨_, rfl⟩
          obtain ⟨g_z, hf⟩ := fg hf
          cases hf
          exact r_z cx hp (bz_n g_z) ⟨rfl, eM, e11, e12, fr⟩ dX9_readStall_86
        · have hf := fp hf c15
          refine lv_iconst (v := 0) hx hb dX9_readStall_73 (by decide) ?_
          cases hf
          exact r_z cx hp rfl ⟨rfl, eM, e11, e12, fr⟩ dX9_readStall_74
      · have hf := fp hf c11
        refine lv_iconst (v := 0) hx hb dX9_readStall_56 (by decide) ?_
        cases hf
        exact r_z cx hp rfl ⟨rfl, eM, e11, e12, fr⟩ dX9_readStall_57
    · have hf := fp hf c7
      refine lv_aload_n hx hb dX9_readStall_31 rfl (lv_at hl 2 rfl) ?_
      refine lv_lload_n hx hb dX9_readStall_32 rfl (lv_at hl 0 rfl) ?_
      obtain ⟨r20, hc, hf⟩ := fb hf
      refine x_i hp (y_V (As := [.long i5]) (rest := []) cx hp hl (c_X5_stallCalled l hN hT ho eM hc) (cw_X9_62 cx (mc := 0) (ms := 0) rfl rfl ⟨by decide, by decide⟩) (rC_X5 ho hN cx hp) rfl rfl (Nat.le_of_ble_eq_true rfl) dX9_readStall_33 ⟨Nat.zero_le _, Nat.zero_le _⟩) (fun r_c u_c H locs hq hp => ?_)
      obtain ⟨rfl, rfl⟩ := hq
      refine lv_iconst (v := (-1)) hx hb dX9_readStall_36 (by decide) ?_
      refine lv_icmp_eq (tgt := 44) hx hb dX9_readStall_37 (by decide) (fun c21 => ?_) (fun c21 => ?_)
      · have hf := fp hf c21
        refine lv_iconst (v := 0) hx hb dX9_readStall_44 (by decide) ?_
        refine lv_istore (lv' := [(4, .int 0), (2, .long i5), (0, .ref (adr E 11 0)), (1, .ref (adr E o 0))]) hx hb dX9_readStall_45 hl (by decide) rfl (fun ls hl => ?_)
        refine lv_aload_n hx hb dX9_readStall_47 rfl (lv_at hl 2 rfl) ?_
        refine lv_iload hx hb dX9_readStall_48 (lv_at hl 0 rfl) ?_
        obtain ⟨r22, π23, τ24, hc, hf⟩ := fb3 hf
        refine x_i hp (y_S (As := [.ref (adr E 11 0), .int 0]) (rest := []) cx hp hl (c_X9_takeNewName l hN hT e11 e12 e13 hc) (cw_X9_66 cx (mc := 0) (ms := 0) rfl rfl ⟨by decide, by decide⟩) rfl rfl (Nat.le_of_ble_eq_true rfl) dX9_readStall_50 ⟨Nat.zero_le _, Nat.zero_le _⟩) (fun r_c u_c H locs hq hp => ?_)
        obtain ⟨rfl, e_0, e_1, n_u⟩ := hq
        have e11 := e_0
        have e12 := e_1
        have eM := (n_u _ d_M_11 d_M_12).trans eM
        have e13 := (n_u _ d_13_11 d_13_12).trans e13
        have fr : ∀ q, q ≠ o → q ≠ 11 → q ≠ 12 → u_c q = σ q := fun q h0 h1 h2 => (n_u q h1 h2).trans (fr q h0 h1 h2)
        obtain ⟨u, rfl⟩ : ∃ z, u_c = z := ⟨_, rfl⟩
        refine lv_if_ne (tgt := 58) hx hb dX9_readStall_53 (by decide) (fun c25 => ?_) (fun c25 => ?_)
        · have hf := fn hf c25
          refine lv_aload_n hx hb dX9_readStall_58 rfl (lv_at hl 2 rfl) ?_
          refine lv_iconst (v := 0) hx hb dX9_readStall_59 (by decide) ?_
          refine lv_bipush (v := 99) hx hb dX9_readStall_60 (by decide) ?_
          obtain ⟨r26, π27, τ28, hc, hf⟩ := fb3 hf
          refine x_i hp (y_V (As := [.int 0, .int 99]) (rest := []) cx hp hl (c_X7_takeNumber l hN hT e11 e12 e13 hc) (cw_X9_70 cx (mc := 0) (ms := 0) rfl rfl ⟨by decide, by decide⟩) (rC_X7 hN cx hp) rfl rfl (Nat.le_of_ble_eq_true rfl) dX9_readStall_62 ⟨Nat.zero_le _, Nat.zero_le _⟩) (fun r_c u_c H locs hq hp => ?_)
          obtain ⟨rfl, e_0, e_1, n_u⟩ := hq
          have e11 := e_0
          have e12 := e_1
          have eM := (n_u _ d_M_11 d_M_12).trans eM
          have e13 := (n_u _ d_13_11 d_13_12).trans e13
          have fr : ∀ q, q ≠ o → q ≠ 11 → q ≠ 12 → u_c q = σ q := fun q h0 h1 h2 => (n_u q h1 h2).trans (fr q h0 h1 h2)
          obtain ⟨u, rfl⟩ : ∃ z, u_c = z := ⟨_, rfl⟩
          refine lv_istore (lv' := [(5, .int r26), (4, .int 0), (2, .long i5), (0, .ref (adr E 11 0)), (1, .ref (adr E o 0))]) hx hb dX9_readStall_65 hl (by decide) rfl (fun ls hl => ?_)
          refine lv_iload hx hb dX9_readStall_67 (lv_at hl 0 rfl) ?_
          refine lv_iconst (v := (-1)) hx hb dX9_readStall_69 (by decide) ?_
          refine lv_icmp_ne (tgt := 75) hx hb dX9_readStall_70 (by decide) (fun c29 => ?_) (fun c29 => ?_)
          · have hf := fn hf c29
            refine lv_aload_n hx hb dX9_readStall_75 rfl (lv_at hl 4 rfl) ?_
            refine lv_lload_n hx hb dX9_readStall_76 rfl (lv_at hl 2 rfl) ?_
            refine lv_iload hx hb dX9_readStall_77 (lv_at hl 0 rfl) ?_
            obtain ⟨μ30, hc, hf⟩ := fb hf
            refine x_v hp (y_V (As := [.long i5, .int r26]) (rest := []) cx hp hl (c_X5_addStall l hN hT ho eM hc) (cw_X9_74 cx (mc := 0) (ms := 0) rfl rfl ⟨by decide, by decide⟩) (rC_X5 ho hN cx hp) rfl rfl (Nat.le_of_ble_eq_true rfl) dX9_readStall_79 ⟨Nat.zero_le _, Nat.zero_le _⟩) (fun u_c H locs hq hp => ?_)
            obtain ⟨e_0, n_u⟩ := hq
            have eM := e_0
            have e11 := (n_u _ d_11_M).trans e11
            have e12 := (n_u _ d_12_M).trans e12
            have e13 := (n_u _ d_13_M).trans e13
            have fr : ∀ q, q ≠ o → q ≠ 11 → q ≠ 12 → u_c q = σ q := fun q h0 h1 h2 => (n_u q h0).trans (fr q h0 h1 h2)
            obtain ⟨u, rfl⟩ : ∃ z, u_c = z := ⟨_, rfl⟩
            refine lv_aload_n hx hb dX9_readStall_82 rfl (lv_at hl 3 rfl) ?_
            obtain ⟨r31, π32, τ33, hc, hf⟩ := fb3 hf
            refine x_i hp (y_V (As := []) (rest := []) cx hp hl (c_X7_takeSemicolon l hN hT e11 e12 e13 hc) (cw_X9_25 cx (mc := 0) (ms := 0) rfl rfl ⟨by decide, by decide⟩) (rC_X7 hN cx hp) rfl rfl (Nat.le_of_ble_eq_true rfl) dX9_readStall_83 ⟨Nat.zero_le _, Nat.zero_le _⟩) (fun r_c u_c H locs hq hp => ?_)
            obtain ⟨rfl, e_0, e_1, n_u⟩ := hq
            have e11 := e_0
            have e12 := e_1
            have eM := (n_u _ d_M_11 d_M_12).trans eM
            have e13 := (n_u _ d_13_11 d_13_12).trans e13
            have fr : ∀ q, q ≠ o → q ≠ 11 → q ≠ 12 → u_c q = σ q := fun q h0 h1 h2 => (n_u q h1 h2).trans (fr q h0 h1 h2)
            obtain ⟨u, rfl⟩ : ∃ z, u_c = z := ⟨_, rfl⟩
            obtain ⟨g_z, hf⟩ := fg hf
            cases hf
            exact r_z cx hp (bz_n g_z) ⟨rfl, eM, e11, e12, fr⟩ dX9_readStall_86
          · have hf := fp hf c29
            refine lv_iconst (v := 0) hx hb dX9_readStall_73 (by decide) ?_
            cases hf
            exact r_z cx hp rfl ⟨rfl, eM, e11, e12, fr⟩ dX9_readStall_74
        · have hf := fp hf c25
          refine lv_iconst (v := 0) hx hb dX9_readStall_56 (by decide) ?_
          cases hf
          exact r_z cx hp rfl ⟨rfl, eM, e11, e12, fr⟩ dX9_readStall_57
      · have hf := fn hf c21
        refine lv_iconst (v := 1) hx hb dX9_readStall_40 (by decide) ?_
        refine lv_goto (tgt := 45) hx hb dX9_readStall_41 (by decide) ?_
        refine lv_istore (lv' := [(4, .int 1), (2, .long i5), (0, .ref (adr E 11 0)), (1, .ref (adr E o 0))]) hx hb dX9_readStall_45 hl (by decide) rfl (fun ls hl => ?_)
        refine lv_aload_n hx hb dX9_readStall_47 rfl (lv_at hl 2 rfl) ?_
        refine lv_iload hx hb dX9_readStall_48 (lv_at hl 0 rfl) ?_
        obtain ⟨r34, π35, τ36, hc, hf⟩ := fb3 hf
        refine x_i hp (y_S (As := [.ref (adr E 11 0), .int 1]) (rest := []) cx hp hl (c_X9_takeNewName l hN hT e11 e12 e13 hc) (cw_X9_66 cx (mc := 0) (ms := 0) rfl rfl ⟨by decide, by decide⟩) rfl rfl (Nat.le_of_ble_eq_true rfl) dX9_readStall_50 ⟨Nat.zero_le _, Nat.zero_le _⟩) (fun r_c u_c H locs hq hp => ?_)
        obtain ⟨rfl, e_0, e_1, n_u⟩ := hq
        have e11 := e_0
        have e12 := e_1
        have eM := (n_u _ d_M_11 d_M_12).trans eM
        have e13 := (n_u _ d_13_11 d_13_12).trans e13
        have fr : ∀ q, q ≠ o → q ≠ 11 → q ≠ 12 → u_c q = σ q := fun q h0 h1 h2 => (n_u q h1 h2).trans (fr q h0 h1 h2)
        obtain ⟨u, rfl⟩ : ∃ z, u_c = z := ⟨_, rfl⟩
        refine lv_if_ne (tgt := 58) hx hb dX9_readStall_53 (by decide) (fun c37 => ?_) (fun c37 => ?_)
        · have hf := fn hf c37
          refine lv_aload_n hx hb dX9_readStall_58 rfl (lv_at hl 2 rfl) ?_
          refine lv_iconst (v := 0) hx hb dX9_readStall_59 (by decide) ?_
          refine lv_bipush (v := 99) hx hb dX9_readStall_60 (by decide) ?_
          obtain ⟨r38, π39, τ40, hc, hf⟩ := fb3 hf
          refine x_i hp (y_V (As := [.int 0, .int 99]) (rest := []) cx hp hl (c_X7_takeNumber l hN hT e11 e12 e13 hc) (cw_X9_70 cx (mc := 0) (ms := 0) rfl rfl ⟨by decide, by decide⟩) (rC_X7 hN cx hp) rfl rfl (Nat.le_of_ble_eq_true rfl) dX9_readStall_62 ⟨Nat.zero_le _, Nat.zero_le _⟩) (fun r_c u_c H locs hq hp => ?_)
          obtain ⟨rfl, e_0, e_1, n_u⟩ := hq
          have e11 := e_0
          have e12 := e_1
          have eM := (n_u _ d_M_11 d_M_12).trans eM
          have e13 := (n_u _ d_13_11 d_13_12).trans e13
          have fr : ∀ q, q ≠ o → q ≠ 11 → q ≠ 12 → u_c q = σ q := fun q h0 h1 h2 => (n_u q h1 h2).trans (fr q h0 h1 h2)
          obtain ⟨u, rfl⟩ : ∃ z, u_c = z := ⟨_, rfl⟩
          refine lv_istore (lv' := [(5, .int r38), (4, .int 1), (2, .long i5), (0, .ref (adr E 11 0)), (1, .ref (adr E o 0))]) hx hb dX9_readStall_65 hl (by decide) rfl (fun ls hl => ?_)
          refine lv_iload hx hb dX9_readStall_67 (lv_at hl 0 rfl) ?_
          refine lv_iconst (v := (-1)) hx hb dX9_readStall_69 (by decide) ?_
          refine lv_icmp_ne (tgt := 75) hx hb dX9_readStall_70 (by decide) (fun c41 => ?_) (fun c41 => ?_)
          · have hf := fn hf c41
            refine lv_aload_n hx hb dX9_readStall_75 rfl (lv_at hl 4 rfl) ?_
            refine lv_lload_n hx hb dX9_readStall_76 rfl (lv_at hl 2 rfl) ?_
            refine lv_iload hx hb dX9_readStall_77 (lv_at hl 0 rfl) ?_
            obtain ⟨μ42, hc, hf⟩ := fb hf
            refine x_v hp (y_V (As := [.long i5, .int r38]) (rest := []) cx hp hl (c_X5_addStall l hN hT ho eM hc) (cw_X9_74 cx (mc := 0) (ms := 0) rfl rfl ⟨by decide, by decide⟩) (rC_X5 ho hN cx hp) rfl rfl (Nat.le_of_ble_eq_true rfl) dX9_readStall_79 ⟨Nat.zero_le _, Nat.zero_le _⟩) (fun u_c H locs hq hp => ?_)
            obtain ⟨e_0, n_u⟩ := hq
            have eM := e_0
            have e11 := (n_u _ d_11_M).trans e11
            have e12 := (n_u _ d_12_M).trans e12
            have e13 := (n_u _ d_13_M).trans e13
            have fr : ∀ q, q ≠ o → q ≠ 11 → q ≠ 12 → u_c q = σ q := fun q h0 h1 h2 => (n_u q h0).trans (fr q h0 h1 h2)
            obtain ⟨u, rfl⟩ : ∃ z, u_c = z := ⟨_, rfl⟩
            refine lv_aload_n hx hb dX9_readStall_82 rfl (lv_at hl 3 rfl) ?_
            obtain ⟨r43, π44, τ45, hc, hf⟩ := fb3 hf
            refine x_i hp (y_V (As := []) (rest := []) cx hp hl (c_X7_takeSemicolon l hN hT e11 e12 e13 hc) (cw_X9_25 cx (mc := 0) (ms := 0) rfl rfl ⟨by decide, by decide⟩) (rC_X7 hN cx hp) rfl rfl (Nat.le_of_ble_eq_true rfl) dX9_readStall_83 ⟨Nat.zero_le _, Nat.zero_le _⟩) (fun r_c u_c H locs hq hp => ?_)
            obtain ⟨rfl, e_0, e_1, n_u⟩ := hq
            have e11 := e_0
            have e12 := e_1
            have eM := (n_u _ d_M_11 d_M_12).trans eM
            have e13 := (n_u _ d_13_11 d_13_12).trans e13
            have fr : ∀ q, q ≠ o → q ≠ 11 → q ≠ 12 → u_c q = σ q := fun q h0 h1 h2 => (n_u q h1 h2).trans (fr q h0 h1 h2)
            obtain ⟨u, rfl⟩ : ∃ z, u_c = z := ⟨_, rfl⟩
            obtain ⟨g_z, hf⟩ := fg hf
            cases hf
            exact r_z cx hp (bz_n g_z) ⟨rfl, eM, e11, e12, fr⟩ dX9_readStall_86
          · have hf := fp hf c41
            refine lv_iconst (v := 0) hx hb dX9_readStall_73 (by decide) ?_
            cases hf
            exact r_z cx hp rfl ⟨rfl, eM, e11, e12, fr⟩ dX9_readStall_74
        · have hf := fp hf c37
          refine lv_iconst (v := 0) hx hb dX9_readStall_56 (by decide) ?_
          cases hf
          exact r_z cx hp rfl ⟨rfl, eM, e11, e12, fr⟩ dX9_readStall_57
  · have hf := fp hf c4
    refine lv_iconst (v := 0) hx hb dX9_readStall_9 (by decide) ?_
    cases hf
    exact r_z cx hp rfl ⟨rfl, eM, e11, e12, fr⟩ dX9_readStall_10
abbrev rm_X9_readStalls : Room := { frames := 7, cells := 0, slots := 0, locals := 153 }
set_option maxRecDepth 100000 in
set_option maxHeartbeats 4000000 in
theorem L_X9_readStalls_2 {p : Program} {e : Env} {s : State} {m : MethodId} {args : Array Value} {below : List Frame} {meth : Method} {c : Code} (l : Launch) {E : Ev} (hN : 129 ≤ eN E) (hT : St E) {σ : SM} (cx : Cx E p s m meth c args RX9 cX9_readStalls 3 (some .boolean)) {o : Nat} (ho : o < 11) {β : OM} {rv : Int32} {μ' : OM} {π' : OM} {τ' : OM} : ∀ (n : Nat) {x2 : Int32} {μ : OM} {π : OM} {τ : OM}, f_X9_readStalls_2 β n x2 μ π τ = some (rv, μ', π', τ') → ∀ {u : SM} {H : Heap} {locs : List Loc} {ls : Array Slot}, u o = μ → u 11 = π → u 12 = τ → u 13 = β → (∀ q, q ≠ o → q ≠ 11 → q ≠ 12 → u q = σ q) → Hp E u s H locs → lv_has ls 3 [(0, .ref (adr E 11 0)), (1, .ref (adr E o 0)), (2, .int x2)] → W p l e rm_X9_readStalls s m args below meth c H locs 0 0 (MQ below (va_Qi (fun r u => rv = r ∧ u o = μ' ∧ u 11 = π' ∧ u 12 = τ' ∧ ∀ q, q ≠ o → q ≠ 11 → q ≠ 12 → u q = σ q) (fun u t => Wu E u t) (eA E)) args s 0 0 (eA E)) (F0 m 2 ls []) := by
  have hx := cx.1.1
  have hb := cx.1.2.1
  have d_M_11 : (o : Nat) ≠ 11 := by omega
  have d_M_12 : (o : Nat) ≠ 12 := by omega
  have d_11_M : (11 : Nat) ≠ o := by omega
  have d_11_12 : (11 : Nat) ≠ 12 := by decide
  have d_12_M : (12 : Nat) ≠ o := by omega
  have d_12_11 : (12 : Nat) ≠ 11 := by decide
  have d_13_M : (13 : Nat) ≠ o := by omega
  have d_13_11 : (13 : Nat) ≠ 11 := by decide
  have d_13_12 : (13 : Nat) ≠ 12 := by decide
  intro n
  induction n with
  | zero =>
    intro x2 μ π τ hf
    exact absurd hf (by simp [f_X9_readStalls_2])
  | succ n ih =>
    intro x2 μ π τ hf u H locs ls eM e11 e12 e13 fr hp hl
    rw [f_X9_readStalls_2] at hf
    refine lv_iload_n hx hb dX9_readStalls_2 rfl (lv_at hl 2 rfl) ?_
    refine lv_bipush (v := 8) hx hb dX9_readStalls_3 (by decide) ?_
    refine lv_icmp_ge (tgt := 42) hx hb dX9_readStalls_5 (by decide) (fun c1 => ?_) (fun c1 => ?_)
    · have hf := fp hf c1
      refine lv_aload_n hx hb dX9_readStalls_42 rfl (lv_at hl 0 rfl) ?_
      refine gF_X9_38 rfl hN cx hp dX9_readStalls_43 ?_
      refine va_ldcS hx hb cx.1.2.2.2.1 (cx.2.2.1.2.2.2 2 _ rfl) dX9_readStalls_46 ?_
      obtain ⟨r2, hc, hf⟩ := fb hf
      refine x_i hp (y_V (As := [.ref (eK E 2)]) (rest := []) cx hp hl (c_X10_isWord l hN hT e12 e13 hc) (cw_X9_44 cx (mc := 0) (ms := 0) rfl rfl ⟨by decide, by decide⟩) (rC_X10 hN cx hp) rfl rfl (Nat.le_of_ble_eq_true rfl) dX9_readStalls_48 ⟨Nat.zero_le _, Nat.zero_le _⟩) (fun r_c u_c H locs hq hp => ?_)
      obtain ⟨rfl, rfl⟩ := hq
      refine lv_if_eq (tgt := 62) hx hb dX9_readStalls_51 (by decide) (fun c3 => ?_) (fun c3 => ?_)
      · have hf := fp hf c3
        refine lv_iconst (v := 1) hx hb dX9_readStalls_62 (by decide) ?_
        refine lv_goto (tgt := 67) hx hb dX9_readStalls_63 (by decide) ?_
        cases hf
        exact r_z cx hp rfl ⟨rfl, eM, e11, e12, fr⟩ dX9_readStalls_67
      · have hf := fn hf c3
        refine lv_aload_n hx hb dX9_readStalls_54 rfl (lv_at hl 0 rfl) ?_
        refine lv_iconst (v := 5) hx hb dX9_readStalls_55 (by decide) ?_
        obtain ⟨r4, π5, hc, hf⟩ := fb2 hf
        refine x_i hp (y_V (As := [.int 5]) (rest := []) cx hp hl (c_X7_fail l hN hT e11 e12 hc) (cw_X9_52 cx (mc := 0) (ms := 0) rfl rfl ⟨by decide, by decide⟩) (rC_X7 hN cx hp) rfl rfl (Nat.le_of_ble_eq_true rfl) dX9_readStalls_56 ⟨Nat.zero_le _, Nat.zero_le _⟩) (fun r_c u_c H locs hq hp => ?_)
        obtain ⟨rfl, e_0, n_u⟩ := hq
        have e11 := e_0
        have eM := (n_u _ d_M_11).trans eM
        have e12 := (n_u _ d_12_11).trans e12
        have e13 := (n_u _ d_13_11).trans e13
        have fr : ∀ q, q ≠ o → q ≠ 11 → q ≠ 12 → u_c q = σ q := fun q h0 h1 h2 => (n_u q h1).trans (fr q h0 h1 h2)
        obtain ⟨u, rfl⟩ : ∃ z, u_c = z := ⟨_, rfl⟩
        refine lv_if_eq (tgt := 66) hx hb dX9_readStalls_59 (by decide) (fun c6 => ?_) (fun c6 => ?_)
        · have hf := fp hf c6
          refine lv_iconst (v := 0) hx hb dX9_readStalls_66 (by decide) ?_
          cases hf
          exact r_z cx hp rfl ⟨rfl, eM, e11, e12, fr⟩ dX9_readStalls_67
        · have hf := fn hf c6
          refine lv_iconst (v := 1) hx hb dX9_readStalls_62 (by decide) ?_
          refine lv_goto (tgt := 67) hx hb dX9_readStalls_63 (by decide) ?_
          cases hf
          exact r_z cx hp rfl ⟨rfl, eM, e11, e12, fr⟩ dX9_readStalls_67
    · have hf := fn hf c1
      refine lv_iload_n hx hb dX9_readStalls_8 rfl (lv_at hl 2 rfl) ?_
      refine lv_if_le (tgt := 26) hx hb dX9_readStalls_9 (by decide) (fun c7 => ?_) (fun c7 => ?_)
      · have hf := fp hf c7
        refine lv_aload_n hx hb dX9_readStalls_26 rfl (lv_at hl 0 rfl) ?_
        refine lv_aload_n hx hb dX9_readStalls_27 rfl (lv_at hl 1 rfl) ?_
        obtain ⟨r8, μ9, π10, τ11, hc, hf⟩ := fb4 hf
        refine x_i hp (y_S (As := [.ref (adr E 11 0), .ref (adr E o 0)]) (rest := []) cx hp hl (c_X9_readStall l hN hT ho eM e11 e12 e13 hc) (cw_X9_49 cx (mc := 0) (ms := 0) rfl rfl ⟨by decide, by decide⟩) rfl rfl (Nat.le_of_ble_eq_true rfl) dX9_readStalls_28 ⟨Nat.zero_le _, Nat.zero_le _⟩) (fun r_c u_c H locs hq hp => ?_)
        obtain ⟨rfl, e_0, e_1, e_2, n_u⟩ := hq
        have eM := e_0
        have e11 := e_1
        have e12 := e_2
        have e13 := (n_u _ d_13_M d_13_11 d_13_12).trans e13
        have fr : ∀ q, q ≠ o → q ≠ 11 → q ≠ 12 → u_c q = σ q := fun q h0 h1 h2 => (n_u q h0 h1 h2).trans (fr q h0 h1 h2)
        obtain ⟨u, rfl⟩ : ∃ z, u_c = z := ⟨_, rfl⟩
        refine lv_if_ne (tgt := 36) hx hb dX9_readStalls_31 (by decide) (fun c12 => ?_) (fun c12 => ?_)
        · have hf := fn hf c12
          refine lv_iinc (v := (x2 + 1)) (lv' := [(2, .int (x2 + 1)), (0, .ref (adr E 11 0)), (1, .ref (adr E o 0))]) hx hb dX9_readStalls_36 hl (k := 2) rfl rfl (by decide) rfl (fun ls hl => ?_)
          refine lv_goto (tgt := 2) hx hb dX9_readStalls_39 (by decide) ?_
          exact ih  hf eM e11 e12 e13 fr hp (lv_sub hl [1, 2, 0] rfl)
        · have hf := fp hf c12
          refine lv_iconst (v := 0) hx hb dX9_readStalls_34 (by decide) ?_
          cases hf
          exact r_z cx hp rfl ⟨rfl, eM, e11, e12, fr⟩ dX9_readStalls_35
      · have hf := fn hf c7
        refine lv_aload_n hx hb dX9_readStalls_12 rfl (lv_at hl 0 rfl) ?_
        refine gF_X9_38 rfl hN cx hp dX9_readStalls_13 ?_
        refine va_ldcS hx hb cx.1.2.2.2.1 (cx.2.2.1.2.2.2 2 _ rfl) dX9_readStalls_16 ?_
        obtain ⟨r13, hc, hf⟩ := fb hf
        refine x_i hp (y_V (As := [.ref (eK E 2)]) (rest := []) cx hp hl (c_X10_isWord l hN hT e12 e13 hc) (cw_X9_44 cx (mc := 0) (ms := 0) rfl rfl ⟨by decide, by decide⟩) (rC_X10 hN cx hp) rfl rfl (Nat.le_of_ble_eq_true rfl) dX9_readStalls_18 ⟨Nat.zero_le _, Nat.zero_le _⟩) (fun r_c u_c H locs hq hp => ?_)
        obtain ⟨rfl, rfl⟩ := hq
        refine lv_if_ne (tgt := 26) hx hb dX9_readStalls_21 (by decide) (fun c14 => ?_) (fun c14 => ?_)
        · have hf := fn hf c14
          refine lv_aload_n hx hb dX9_readStalls_26 rfl (lv_at hl 0 rfl) ?_
          refine lv_aload_n hx hb dX9_readStalls_27 rfl (lv_at hl 1 rfl) ?_
          obtain ⟨r15, μ16, π17, τ18, hc, hf⟩ := fb4 hf
          refine x_i hp (y_S (As := [.ref (adr E 11 0), .ref (adr E o 0)]) (rest := []) cx hp hl (c_X9_readStall l hN hT ho eM e11 e12 e13 hc) (cw_X9_49 cx (mc := 0) (ms := 0) rfl rfl ⟨by decide, by decide⟩) rfl rfl (Nat.le_of_ble_eq_true rfl) dX9_readStalls_28 ⟨Nat.zero_le _, Nat.zero_le _⟩) (fun r_c u_c H locs hq hp => ?_)
          obtain ⟨rfl, e_0, e_1, e_2, n_u⟩ := hq
          have eM := e_0
          have e11 := e_1
          have e12 := e_2
          have e13 := (n_u _ d_13_M d_13_11 d_13_12).trans e13
          have fr : ∀ q, q ≠ o → q ≠ 11 → q ≠ 12 → u_c q = σ q := fun q h0 h1 h2 => (n_u q h0 h1 h2).trans (fr q h0 h1 h2)
          obtain ⟨u, rfl⟩ : ∃ z, u_c = z := ⟨_, rfl⟩
          refine lv_if_ne (tgt := 36) hx hb dX9_readStalls_31 (by decide) (fun c19 => ?_) (fun c19 => ?_)
          · have hf := fn hf c19
            refine lv_iinc (v := (x2 + 1)) (lv' := [(2, .int (x2 + 1)), (0, .ref (adr E 11 0)), (1, .ref (adr E o 0))]) hx hb dX9_readStalls_36 hl (k := 2) rfl rfl (by decide) rfl (fun ls hl => ?_)
            refine lv_goto (tgt := 2) hx hb dX9_readStalls_39 (by decide) ?_
            exact ih  hf eM e11 e12 e13 fr hp (lv_sub hl [1, 2, 0] rfl)
          · have hf := fp hf c19
            refine lv_iconst (v := 0) hx hb dX9_readStalls_34 (by decide) ?_
            cases hf
            exact r_z cx hp rfl ⟨rfl, eM, e11, e12, fr⟩ dX9_readStalls_35
        · have hf := fp hf c14
          refine lv_iconst (v := 1) hx hb dX9_readStalls_24 (by decide) ?_
          cases hf
          exact r_z cx hp rfl ⟨rfl, eM, e11, e12, fr⟩ dX9_readStalls_25
set_option maxRecDepth 100000 in
set_option maxHeartbeats 4000000 in
theorem c_X9_readStalls (l : Launch) {E : Ev} (hN : 129 ≤ eN E) (hT : St E) {σ : SM} {o : Nat} {μ : OM} (ho : o < 11) (eM : σ o = μ) {π : OM} (e11 : σ 11 = π) {τ : OM} (e12 : σ 12 = τ) {β : OM} (e13 : σ 13 = β)  {rv : Int32} {μ' : OM} {π' : OM} {τ' : OM} (hf : f_X9_readStalls μ π τ β = some (rv, μ', π', τ')) : Met l yX9_readStalls (wC yX9_readStalls cX9_readStalls 3 (some .boolean)) rm_X9_readStalls (va_Pc [.ref (adr E 11 0), .ref (adr E o 0)] (Wu E σ)) (va_Qi (fun r u => rv = r ∧ u o = μ' ∧ u 11 = π' ∧ u 12 = τ' ∧ ∀ q, q ≠ o → q ≠ 11 → q ≠ 12 → u q = σ q) (fun u t => Wu E u t) (eA E)) 0 0 (eA E) := by
  refine g_entry (lv := [(0, .ref (adr E 11 0)), (1, .ref (adr E o 0))]) (by decide) (Nat.le_of_ble_eq_true rfl) rfl ?_
  intro p e s m below meth c cx hp ls hl
  have hx := cx.1.1
  have hb := cx.1.2.1
  have fr : ∀ q, q ≠ o → q ≠ 11 → q ≠ 12 → σ q = σ q := fun _ _ _ _ => rfl
  have d_M_11 : (o : Nat) ≠ 11 := by omega
  have d_M_12 : (o : Nat) ≠ 12 := by omega
  have d_11_M : (11 : Nat) ≠ o := by omega
  have d_11_12 : (11 : Nat) ≠ 12 := by decide
  have d_12_M : (12 : Nat) ≠ o := by omega
  have d_12_11 : (12 : Nat) ≠ 11 := by decide
  have d_13_M : (13 : Nat) ≠ o := by omega
  have d_13_11 : (13 : Nat) ≠ 11 := by decide
  have d_13_12 : (13 : Nat) ≠ 12 := by decide
  unfold f_X9_readStalls at hf
  refine lv_iconst (v := 0) hx hb dX9_readStalls_0 (by decide) ?_
  refine lv_istore_n (lv' := [(2, .int 0), (0, .ref (adr E 11 0)), (1, .ref (adr E o 0))]) hx hb dX9_readStalls_1 rfl hl (by decide) rfl (fun ls hl => ?_)
  exact L_X9_readStalls_2 l hN hT cx ho _ hf eM e11 e12 e13 fr hp (lv_sub hl [1, 2, 0] rfl)
abbrev rm_X9_readWishes : Room := { frames := 6, cells := 0, slots := 0, locals := 129 }
set_option maxRecDepth 100000 in
set_option maxHeartbeats 4000000 in
theorem L_X9_readWishes_2 {p : Program} {e : Env} {s : State} {m : MethodId} {args : Array Value} {below : List Frame} {meth : Method} {c : Code} (l : Launch) {E : Ev} (hN : 129 ≤ eN E) (hT : St E) {σ : SM} (cx : Cx E p s m meth c args RX9 cX9_readWishes 5 (some .boolean)) {o : Nat} (ho : o < 11) {x2 : Int32} {β : OM} {rv : Int32} {μ' : OM} {π' : OM} {τ' : OM} : ∀ (n : Nat) {x3 : Int32} {μ : OM} {π : OM} {τ : OM}, f_X9_readWishes_2 x2 β n x3 μ π τ = some (rv, μ', π', τ') → ∀ {u : SM} {H : Heap} {locs : List Loc} {ls : Array Slot}, u o = μ → u 11 = π → u 12 = τ → u 13 = β → (∀ q, q ≠ o → q ≠ 11 → q ≠ 12 → u q = σ q) → Hp E u s H locs → lv_has ls 5 [(0, .ref (adr E 11 0)), (1, .ref (adr E o 0)), (2, .int x2), (3, .int x3)] → W p l e rm_X9_readWishes s m args below meth c H locs 0 0 (MQ below (va_Qi (fun r u => rv = r ∧ u o = μ' ∧ u 11 = π' ∧ u 12 = τ' ∧ ∀ q, q ≠ o → q ≠ 11 → q ≠ 12 → u q = σ q) (fun u t => Wu E u t) (eA E)) args s 0 0 (eA E)) (F0 m 2 ls []) := by
  have hx := cx.1.1
  have hb := cx.1.2.1
  have d_M_11 : (o : Nat) ≠ 11 := by omega
  have d_M_12 : (o : Nat) ≠ 12 := by omega
  have d_11_M : (11 : Nat) ≠ o := by omega
  have d_11_12 : (11 : Nat) ≠ 12 := by decide
  have d_12_M : (12 : Nat) ≠ o := by omega
  have d_12_11 : (12 : Nat) ≠ 11 := by decide
  have d_13_M : (13 : Nat) ≠ o := by omega
  have d_13_11 : (13 : Nat) ≠ 11 := by decide
  have d_13_12 : (13 : Nat) ≠ 12 := by decide
  intro n
  induction n with
  | zero =>
    intro x3 μ π τ hf
    exact absurd hf (by simp [f_X9_readWishes_2])
  | succ n ih =>
    intro x3 μ π τ hf u H locs ls eM e11 e12 e13 fr hp hl
    rw [f_X9_readWishes_2] at hf
    refine lv_iload_n hx hb dX9_readWishes_2 rfl (lv_at hl 3 rfl) ?_
    refine lv_bipush (v := 8) hx hb dX9_readWishes_3 (by decide) ?_
    refine lv_icmp_gt (tgt := 85) hx hb dX9_readWishes_5 (by decide) (fun c1 => ?_) (fun c1 => ?_)
    · have hf := fp hf c1
      refine lv_iconst (v := 1) hx hb dX9_readWishes_85 (by decide) ?_
      cases hf
      exact r_z cx hp rfl ⟨rfl, eM, e11, e12, fr⟩ dX9_readWishes_86
    · have hf := fn hf c1
      refine lv_aload_n hx hb dX9_readWishes_8 rfl (lv_at hl 0 rfl) ?_
      refine gF_X9_38 rfl hN cx hp dX9_readWishes_9 ?_
      refine gF_X9_78 e12 hN cx hp dX9_readWishes_12 ?_
      refine lv_iconst (v := 1) hx hb dX9_readWishes_15 (by decide) ?_
      refine lv_icmp_ne (tgt := 31) hx hb dX9_readWishes_16 (by decide) (fun c2 => ?_) (fun c2 => ?_)
      · have hf := fn hf c2
        refine lv_iconst (v := 1) hx hb dX9_readWishes_31 (by decide) ?_
        cases hf
        exact r_z cx hp rfl ⟨rfl, eM, e11, e12, fr⟩ dX9_readWishes_32
      · have hf := fp hf c2
        refine lv_aload_n hx hb dX9_readWishes_19 rfl (lv_at hl 0 rfl) ?_
        refine gF_X9_38 rfl hN cx hp dX9_readWishes_20 ?_
        refine va_ldcS hx hb cx.1.2.2.2.1 (cx.2.2.1.2.2.2 3 _ rfl) dX9_readWishes_23 ?_
        obtain ⟨r3, hc, hf⟩ := fb hf
        refine x_i hp (y_V (As := [.ref (eK E 3)]) (rest := []) cx hp hl (c_X10_isWord l hN hT e12 e13 hc) (cw_X9_44 cx (mc := 0) (ms := 0) rfl rfl ⟨by decide, by decide⟩) (rC_X10 hN cx hp) rfl rfl (Nat.le_of_ble_eq_true rfl) dX9_readWishes_25 ⟨Nat.zero_le _, Nat.zero_le _⟩) (fun r_c u_c H locs hq hp => ?_)
        obtain ⟨rfl, rfl⟩ := hq
        refine lv_if_eq (tgt := 33) hx hb dX9_readWishes_28 (by decide) (fun c4 => ?_) (fun c4 => ?_)
        · have hf := fp hf c4
          refine lv_aload_n hx hb dX9_readWishes_33 rfl (lv_at hl 0 rfl) ?_
          refine lv_aload_n hx hb dX9_readWishes_34 rfl (lv_at hl 1 rfl) ?_
          obtain ⟨r5, π6, hc, hf⟩ := fb2 hf
          refine x_i hp (y_V (As := [.ref (adr E o 0)]) (rest := []) cx hp hl (c_X7_seeStall l hN hT ho eM e11 e12 e13 hc) (cw_X9_107 cx (mc := 0) (ms := 0) rfl rfl ⟨by decide, by decide⟩) (rC_X7 hN cx hp) rfl rfl (Nat.le_of_ble_eq_true rfl) dX9_readWishes_35 ⟨Nat.zero_le _, Nat.zero_le _⟩) (fun r_c u_c H locs hq hp => ?_)
          obtain ⟨rfl, e_0, n_u⟩ := hq
          have e11 := e_0
          have eM := (n_u _ d_M_11).trans eM
          have e12 := (n_u _ d_12_11).trans e12
          have e13 := (n_u _ d_13_11).trans e13
          have fr : ∀ q, q ≠ o → q ≠ 11 → q ≠ 12 → u_c q = σ q := fun q h0 h1 h2 => (n_u q h1).trans (fr q h0 h1 h2)
          obtain ⟨u, rfl⟩ : ∃ z, u_c = z := ⟨_, rfl⟩
          refine lv_istore (lv' := [(4, .int r5), (0, .ref (adr E 11 0)), (1, .ref (adr E o 0)), (2, .int x2), (3, .int x3)]) hx hb dX9_readWishes_38 hl (by decide) rfl (fun ls hl => ?_)
          refine lv_iload hx hb dX9_readWishes_40 (lv_at hl 0 rfl) ?_
          refine lv_iconst (v := (-1)) hx hb dX9_readWishes_42 (by decide) ?_
          refine lv_icmp_ne (tgt := 48) hx hb dX9_readWishes_43 (by decide) (fun c7 => ?_) (fun c7 => ?_)
          · have hf := fn hf c7
            refine lv_aload_n hx hb dX9_readWishes_48 rfl (lv_at hl 2 rfl) ?_
            refine lv_iload_n hx hb dX9_readWishes_49 rfl (lv_at hl 3 rfl) ?_
            refine lv_iload hx hb dX9_readWishes_50 (lv_at hl 0 rfl) ?_
            obtain ⟨r8, hc, hf⟩ := fb hf
            refine x_i hp (y_V (As := [.int x2, .int r5]) (rest := []) cx hp hl (c_X5_rankIn l hN hT ho eM hc) (cw_X9_111 cx (mc := 0) (ms := 0) rfl rfl ⟨by decide, by decide⟩) (rC_X5 ho hN cx hp) rfl rfl (Nat.le_of_ble_eq_true rfl) dX9_readWishes_52 ⟨Nat.zero_le _, Nat.zero_le _⟩) (fun r_c u_c H locs hq hp => ?_)
            obtain ⟨rfl, rfl⟩ := hq
            refine lv_iconst (v := (-1)) hx hb dX9_readWishes_55 (by decide) ?_
            refine lv_icmp_eq (tgt := 65) hx hb dX9_readWishes_56 (by decide) (fun c9 => ?_) (fun c9 => ?_)
            · have hf := fp hf c9
              refine lv_aload_n hx hb dX9_readWishes_65 rfl (lv_at hl 2 rfl) ?_
              refine lv_iload_n hx hb dX9_readWishes_66 rfl (lv_at hl 3 rfl) ?_
              refine lv_iload hx hb dX9_readWishes_67 (lv_at hl 0 rfl) ?_
              obtain ⟨μ10, hc, hf⟩ := fb hf
              refine x_v hp (y_V (As := [.int x2, .int r5]) (rest := []) cx hp hl (c_X5_wishLast l hN hT ho eM hc) (cw_X9_114 cx (mc := 0) (ms := 0) rfl rfl ⟨by decide, by decide⟩) (rC_X5 ho hN cx hp) rfl rfl (Nat.le_of_ble_eq_true rfl) dX9_readWishes_69 ⟨Nat.zero_le _, Nat.zero_le _⟩) (fun u_c H locs hq hp => ?_)
              obtain ⟨e_0, n_u⟩ := hq
              have eM := e_0
              have e11 := (n_u _ d_11_M).trans e11
              have e12 := (n_u _ d_12_M).trans e12
              have e13 := (n_u _ d_13_M).trans e13
              have fr : ∀ q, q ≠ o → q ≠ 11 → q ≠ 12 → u_c q = σ q := fun q h0 h1 h2 => (n_u q h0).trans (fr q h0 h1 h2)
              obtain ⟨u, rfl⟩ : ∃ z, u_c = z := ⟨_, rfl⟩
              refine lv_aload_n hx hb dX9_readWishes_72 rfl (lv_at hl 1 rfl) ?_
              refine gF_X9_38 rfl hN cx hp dX9_readWishes_73 ?_
              obtain ⟨τ11, hc, hf⟩ := fb hf
              refine x_v hp (y_V (As := []) (rest := []) cx hp hl (c_X10_next l hN hT e12 e13 hc) (cw_X9_82 cx (mc := 0) (ms := 0) rfl rfl ⟨by decide, by decide⟩) (rC_X10 hN cx hp) rfl rfl (Nat.le_of_ble_eq_true rfl) dX9_readWishes_76 ⟨Nat.zero_le _, Nat.zero_le _⟩) (fun u_c H locs hq hp => ?_)
              obtain ⟨e_0, n_u⟩ := hq
              have e12 := e_0
              have eM := (n_u _ d_M_12).trans eM
              have e11 := (n_u _ d_11_12).trans e11
              have e13 := (n_u _ d_13_12).trans e13
              have fr : ∀ q, q ≠ o → q ≠ 11 → q ≠ 12 → u_c q = σ q := fun q h0 h1 h2 => (n_u q h2).trans (fr q h0 h1 h2)
              obtain ⟨u, rfl⟩ : ∃ z, u_c = z := ⟨_, rfl⟩
              refine lv_iinc (v := (x3 + 1)) (lv' := [(3, .int (x3 + 1)), (4, .int r5), (0, .ref (adr E 11 0)), (1, .ref (adr E o 0)), (2, .int x2)]) hx hb dX9_readWishes_79 hl (k := 4) rfl rfl (by decide) rfl (fun ls hl => ?_)
              refine lv_goto (tgt := 2) hx hb dX9_readWishes_82 (by decide) ?_
              exact ih  hf eM e11 e12 e13 fr hp (lv_sub hl [2, 3, 4, 0] rfl)
            · have hf := fn hf c9
              refine lv_aload_n hx hb dX9_readWishes_59 rfl (lv_at hl 1 rfl) ?_
              refine lv_iconst (v := 4) hx hb dX9_readWishes_60 (by decide) ?_
              obtain ⟨r12, π13, hc, hf⟩ := fb2 hf
              refine x_i hp (y_V (As := [.int 4]) (rest := []) cx hp hl (c_X7_fail l hN hT e11 e12 hc) (cw_X9_52 cx (mc := 0) (ms := 0) rfl rfl ⟨by decide, by decide⟩) (rC_X7 hN cx hp) rfl rfl (Nat.le_of_ble_eq_true rfl) dX9_readWishes_61 ⟨Nat.zero_le _, Nat.zero_le _⟩) (fun r_c u_c H locs hq hp => ?_)
              obtain ⟨rfl, e_0, n_u⟩ := hq
              have e11 := e_0
              have eM := (n_u _ d_M_11).trans eM
              have e12 := (n_u _ d_12_11).trans e12
              have e13 := (n_u _ d_13_11).trans e13
              have fr : ∀ q, q ≠ o → q ≠ 11 → q ≠ 12 → u_c q = σ q := fun q h0 h1 h2 => (n_u q h1).trans (fr q h0 h1 h2)
              obtain ⟨u, rfl⟩ : ∃ z, u_c = z := ⟨_, rfl⟩
              obtain ⟨g_z, hf⟩ := fg hf
              cases hf
              exact r_z cx hp (bz_n g_z) ⟨rfl, eM, e11, e12, fr⟩ dX9_readWishes_64
          · have hf := fp hf c7
            refine lv_iconst (v := 0) hx hb dX9_readWishes_46 (by decide) ?_
            cases hf
            exact r_z cx hp rfl ⟨rfl, eM, e11, e12, fr⟩ dX9_readWishes_47
        · have hf := fn hf c4
          refine lv_iconst (v := 1) hx hb dX9_readWishes_31 (by decide) ?_
          cases hf
          exact r_z cx hp rfl ⟨rfl, eM, e11, e12, fr⟩ dX9_readWishes_32
set_option maxRecDepth 100000 in
set_option maxHeartbeats 4000000 in
theorem c_X9_readWishes (l : Launch) {E : Ev} (hN : 129 ≤ eN E) (hT : St E) {σ : SM} {o : Nat} {μ : OM} (ho : o < 11) (eM : σ o = μ) {π : OM} (e11 : σ 11 = π) {τ : OM} (e12 : σ 12 = τ) {β : OM} (e13 : σ 13 = β) {p2 : Int32} {rv : Int32} {μ' : OM} {π' : OM} {τ' : OM} (hf : f_X9_readWishes p2 μ π τ β = some (rv, μ', π', τ')) : Met l yX9_readWishes (wC yX9_readWishes cX9_readWishes 5 (some .boolean)) rm_X9_readWishes (va_Pc [.ref (adr E 11 0), .ref (adr E o 0), .int p2] (Wu E σ)) (va_Qi (fun r u => rv = r ∧ u o = μ' ∧ u 11 = π' ∧ u 12 = τ' ∧ ∀ q, q ≠ o → q ≠ 11 → q ≠ 12 → u q = σ q) (fun u t => Wu E u t) (eA E)) 0 0 (eA E) := by
  refine g_entry (lv := [(0, .ref (adr E 11 0)), (1, .ref (adr E o 0)), (2, .int p2)]) (by decide) (Nat.le_of_ble_eq_true rfl) rfl ?_
  intro p e s m below meth c cx hp ls hl
  have hx := cx.1.1
  have hb := cx.1.2.1
  have fr : ∀ q, q ≠ o → q ≠ 11 → q ≠ 12 → σ q = σ q := fun _ _ _ _ => rfl
  have d_M_11 : (o : Nat) ≠ 11 := by omega
  have d_M_12 : (o : Nat) ≠ 12 := by omega
  have d_11_M : (11 : Nat) ≠ o := by omega
  have d_11_12 : (11 : Nat) ≠ 12 := by decide
  have d_12_M : (12 : Nat) ≠ o := by omega
  have d_12_11 : (12 : Nat) ≠ 11 := by decide
  have d_13_M : (13 : Nat) ≠ o := by omega
  have d_13_11 : (13 : Nat) ≠ 11 := by decide
  have d_13_12 : (13 : Nat) ≠ 12 := by decide
  unfold f_X9_readWishes at hf
  refine lv_iconst (v := 0) hx hb dX9_readWishes_0 (by decide) ?_
  refine lv_istore_n (lv' := [(3, .int 0), (0, .ref (adr E 11 0)), (1, .ref (adr E o 0)), (2, .int p2)]) hx hb dX9_readWishes_1 rfl hl (by decide) rfl (fun ls hl => ?_)
  exact L_X9_readWishes_2 l hN hT cx ho _ hf eM e11 e12 e13 fr hp (lv_sub hl [1, 2, 3, 0] rfl)
abbrev rm_X9_readPlace : Room := { frames := 6, cells := 0, slots := 0, locals := 129 }
set_option maxRecDepth 100000 in
set_option maxHeartbeats 4000000 in
theorem c_X9_readPlace (l : Launch) {E : Ev} (hN : 129 ≤ eN E) (hT : St E) {σ : SM} {o : Nat} {μ : OM} (ho : o < 11) (eM : σ o = μ) {π : OM} (e11 : σ 11 = π) {τ : OM} (e12 : σ 12 = τ) {β : OM} (e13 : σ 13 = β) {p2 : Int32} {rv : Int32} {μ' : OM} {π' : OM} {τ' : OM} (hf : f_X9_readPlace p2 μ π τ β = some (rv, μ', π', τ')) : Met l yX9_readPlace (wC yX9_readPlace cX9_readPlace 4 (some .boolean)) rm_X9_readPlace (va_Pc [.ref (adr E 11 0), .ref (adr E o 0), .int p2] (Wu E σ)) (va_Qi (fun r u => rv = r ∧ u o = μ' ∧ u 11 = π' ∧ u 12 = τ' ∧ ∀ q, q ≠ o → q ≠ 11 → q ≠ 12 → u q = σ q) (fun u t => Wu E u t) (eA E)) 0 0 (eA E) := by
  refine g_entry (lv := [(0, .ref (adr E 11 0)), (1, .ref (adr E o 0)), (2, .int p2)]) (by decide) (Nat.le_of_ble_eq_true rfl) rfl ?_
  intro p e s m below meth c cx hp ls hl
  have hx := cx.1.1
  have hb := cx.1.2.1
  have fr : ∀ q, q ≠ o → q ≠ 11 → q ≠ 12 → σ q = σ q := fun _ _ _ _ => rfl
  have d_M_11 : (o : Nat) ≠ 11 := by omega
  have d_M_12 : (o : Nat) ≠ 12 := by omega
  have d_11_M : (11 : Nat) ≠ o := by omega
  have d_11_12 : (11 : Nat) ≠ 12 := by decide
  have d_12_M : (12 : Nat) ≠ o := by omega
  have d_12_11 : (12 : Nat) ≠ 11 := by decide
  have d_13_M : (13 : Nat) ≠ o := by omega
  have d_13_11 : (13 : Nat) ≠ 11 := by decide
  have d_13_12 : (13 : Nat) ≠ 12 := by decide
  unfold f_X9_readPlace at hf
  refine lv_aload_n hx hb dX9_readPlace_0 rfl (lv_at hl 0 rfl) ?_
  refine gF_X9_38 rfl hN cx hp dX9_readPlace_1 ?_
  refine va_ldcS hx hb cx.1.2.2.2.1 (cx.2.2.1.2.2.2 3 _ rfl) dX9_readPlace_4 ?_
  obtain ⟨r1, hc, hf⟩ := fb hf
  refine x_i hp (y_V (As := [.ref (eK E 3)]) (rest := []) cx hp hl (c_X10_isWord l hN hT e12 e13 hc) (cw_X9_44 cx (mc := 0) (ms := 0) rfl rfl ⟨by decide, by decide⟩) (rC_X10 hN cx hp) rfl rfl (Nat.le_of_ble_eq_true rfl) dX9_readPlace_6 ⟨Nat.zero_le _, Nat.zero_le _⟩) (fun r_c u_c H locs hq hp => ?_)
  obtain ⟨rfl, rfl⟩ := hq
  refine lv_if_ne (tgt := 14) hx hb dX9_readPlace_9 (by decide) (fun c2 => ?_) (fun c2 => ?_)
  · have hf := fn hf c2
    refine lv_aload_n hx hb dX9_readPlace_14 rfl (lv_at hl 0 rfl) ?_
    refine gF_X9_38 rfl hN cx hp dX9_readPlace_15 ?_
    obtain ⟨τ3, hc, hf⟩ := fb hf
    refine x_v hp (y_V (As := []) (rest := []) cx hp hl (c_X10_next l hN hT e12 e13 hc) (cw_X9_82 cx (mc := 0) (ms := 0) rfl rfl ⟨by decide, by decide⟩) (rC_X10 hN cx hp) rfl rfl (Nat.le_of_ble_eq_true rfl) dX9_readPlace_18 ⟨Nat.zero_le _, Nat.zero_le _⟩) (fun u_c H locs hq hp => ?_)
    obtain ⟨e_0, n_u⟩ := hq
    have e12 := e_0
    have eM := (n_u _ d_M_12).trans eM
    have e11 := (n_u _ d_11_12).trans e11
    have e13 := (n_u _ d_13_12).trans e13
    have fr : ∀ q, q ≠ o → q ≠ 11 → q ≠ 12 → u_c q = σ q := fun q h0 h1 h2 => (n_u q h2).trans (fr q h0 h1 h2)
    obtain ⟨u, rfl⟩ : ∃ z, u_c = z := ⟨_, rfl⟩
    refine lv_aload_n hx hb dX9_readPlace_21 rfl (lv_at hl 0 rfl) ?_
    refine lv_aload_n hx hb dX9_readPlace_22 rfl (lv_at hl 1 rfl) ?_
    obtain ⟨r4, π5, hc, hf⟩ := fb2 hf
    refine x_i hp (y_V (As := [.ref (adr E o 0)]) (rest := []) cx hp hl (c_X7_seeStall l hN hT ho eM e11 e12 e13 hc) (cw_X9_107 cx (mc := 0) (ms := 0) rfl rfl ⟨by decide, by decide⟩) (rC_X7 hN cx hp) rfl rfl (Nat.le_of_ble_eq_true rfl) dX9_readPlace_23 ⟨Nat.zero_le _, Nat.zero_le _⟩) (fun r_c u_c H locs hq hp => ?_)
    obtain ⟨rfl, e_0, n_u⟩ := hq
    have e11 := e_0
    have eM := (n_u _ d_M_11).trans eM
    have e12 := (n_u _ d_12_11).trans e12
    have e13 := (n_u _ d_13_11).trans e13
    have fr : ∀ q, q ≠ o → q ≠ 11 → q ≠ 12 → u_c q = σ q := fun q h0 h1 h2 => (n_u q h1).trans (fr q h0 h1 h2)
    obtain ⟨u, rfl⟩ : ∃ z, u_c = z := ⟨_, rfl⟩
    refine lv_istore_n (lv' := [(3, .int r4), (0, .ref (adr E 11 0)), (1, .ref (adr E o 0)), (2, .int p2)]) hx hb dX9_readPlace_26 rfl hl (by decide) rfl (fun ls hl => ?_)
    refine lv_iload_n hx hb dX9_readPlace_27 rfl (lv_at hl 0 rfl) ?_
    refine lv_iconst (v := (-1)) hx hb dX9_readPlace_28 (by decide) ?_
    refine lv_icmp_ne (tgt := 34) hx hb dX9_readPlace_29 (by decide) (fun c6 => ?_) (fun c6 => ?_)
    · have hf := fn hf c6
      refine lv_aload_n hx hb dX9_readPlace_34 rfl (lv_at hl 2 rfl) ?_
      refine lv_iload_n hx hb dX9_readPlace_35 rfl (lv_at hl 0 rfl) ?_
      obtain ⟨r7, hc, hf⟩ := fb hf
      refine x_i hp (y_V (As := [.int r4]) (rest := []) cx hp hl (c_X5_holderOf l hN hT ho eM hc) (cw_X9_118 cx (mc := 0) (ms := 0) rfl rfl ⟨by decide, by decide⟩) (rC_X5 ho hN cx hp) rfl rfl (Nat.le_of_ble_eq_true rfl) dX9_readPlace_36 ⟨Nat.zero_le _, Nat.zero_le _⟩) (fun r_c u_c H locs hq hp => ?_)
      obtain ⟨rfl, rfl⟩ := hq
      refine lv_iconst (v := (-1)) hx hb dX9_readPlace_39 (by decide) ?_
      refine lv_icmp_eq (tgt := 49) hx hb dX9_readPlace_40 (by decide) (fun c8 => ?_) (fun c8 => ?_)
      · have hf := fp hf c8
        refine lv_aload_n hx hb dX9_readPlace_49 rfl (lv_at hl 2 rfl) ?_
        refine lv_iload_n hx hb dX9_readPlace_50 rfl (lv_at hl 3 rfl) ?_
        refine lv_iload_n hx hb dX9_readPlace_51 rfl (lv_at hl 0 rfl) ?_
        obtain ⟨μ9, hc, hf⟩ := fb hf
        refine x_v hp (y_V (As := [.int p2, .int r4]) (rest := []) cx hp hl (c_X5_seat l hN hT ho eM hc) (cw_X9_122 cx (mc := 0) (ms := 0) rfl rfl ⟨by decide, by decide⟩) (rC_X5 ho hN cx hp) rfl rfl (Nat.le_of_ble_eq_true rfl) dX9_readPlace_52 ⟨Nat.zero_le _, Nat.zero_le _⟩) (fun u_c H locs hq hp => ?_)
        obtain ⟨e_0, n_u⟩ := hq
        have eM := e_0
        have e11 := (n_u _ d_11_M).trans e11
        have e12 := (n_u _ d_12_M).trans e12
        have e13 := (n_u _ d_13_M).trans e13
        have fr : ∀ q, q ≠ o → q ≠ 11 → q ≠ 12 → u_c q = σ q := fun q h0 h1 h2 => (n_u q h0).trans (fr q h0 h1 h2)
        obtain ⟨u, rfl⟩ : ∃ z, u_c = z := ⟨_, rfl⟩
        refine lv_aload_n hx hb dX9_readPlace_55 rfl (lv_at hl 1 rfl) ?_
        refine gF_X9_38 rfl hN cx hp dX9_readPlace_56 ?_
        obtain ⟨τ10, hc, hf⟩ := fb hf
        refine x_v hp (y_V (As := []) (rest := []) cx hp hl (c_X10_next l hN hT e12 e13 hc) (cw_X9_82 cx (mc := 0) (ms := 0) rfl rfl ⟨by decide, by decide⟩) (rC_X10 hN cx hp) rfl rfl (Nat.le_of_ble_eq_true rfl) dX9_readPlace_59 ⟨Nat.zero_le _, Nat.zero_le _⟩) (fun u_c H locs hq hp => ?_)
        obtain ⟨e_0, n_u⟩ := hq
        have e12 := e_0
        have eM := (n_u _ d_M_12).trans eM
        have e11 := (n_u _ d_11_12).trans e11
        have e13 := (n_u _ d_13_12).trans e13
        have fr : ∀ q, q ≠ o → q ≠ 11 → q ≠ 12 → u_c q = σ q := fun q h0 h1 h2 => (n_u q h2).trans (fr q h0 h1 h2)
        obtain ⟨u, rfl⟩ : ∃ z, u_c = z := ⟨_, rfl⟩
        refine lv_iconst (v := 1) hx hb dX9_readPlace_62 (by decide) ?_
        cases hf
        exact r_z cx hp rfl ⟨rfl, eM, e11, e12, fr⟩ dX9_readPlace_63
      · have hf := fn hf c8
        refine lv_aload_n hx hb dX9_readPlace_43 rfl (lv_at hl 1 rfl) ?_
        refine lv_iconst (v := 4) hx hb dX9_readPlace_44 (by decide) ?_
        obtain ⟨r11, π12, hc, hf⟩ := fb2 hf
        refine x_i hp (y_V (As := [.int 4]) (rest := []) cx hp hl (c_X7_fail l hN hT e11 e12 hc) (cw_X9_52 cx (mc := 0) (ms := 0) rfl rfl ⟨by decide, by decide⟩) (rC_X7 hN cx hp) rfl rfl (Nat.le_of_ble_eq_true rfl) dX9_readPlace_45 ⟨Nat.zero_le _, Nat.zero_le _⟩) (fun r_c u_c H locs hq hp => ?_)
        obtain ⟨rfl, e_0, n_u⟩ := hq
        have e11 := e_0
        have eM := (n_u _ d_M_11).trans eM
        have e12 := (n_u _ d_12_11).trans e12
        have e13 := (n_u _ d_13_11).trans e13
        have fr : ∀ q, q ≠ o → q ≠ 11 → q ≠ 12 → u_c q = σ q := fun q h0 h1 h2 => (n_u q h1).trans (fr q h0 h1 h2)
        obtain ⟨u, rfl⟩ : ∃ z, u_c = z := ⟨_, rfl⟩
        obtain ⟨g_z, hf⟩ := fg hf
        cases hf
        exact r_z cx hp (bz_n g_z) ⟨rfl, eM, e11, e12, fr⟩ dX9_readPlace_48
    · have hf := fp hf c6
      refine lv_iconst (v := 0) hx hb dX9_readPlace_32 (by decide) ?_
      cases hf
      exact r_z cx hp rfl ⟨rfl, eM, e11, e12, fr⟩ dX9_readPlace_33
  · have hf := fp hf c2
    refine lv_iconst (v := 1) hx hb dX9_readPlace_12 (by decide) ?_
    cases hf
    exact r_z cx hp rfl ⟨rfl, eM, e11, e12, fr⟩ dX9_readPlace_13
abbrev rm_X9_readSeller : Room := { frames := 7, cells := 0, slots := 0, locals := 153 }
set_option maxRecDepth 100000 in
set_option maxHeartbeats 4000000 in
theorem c_X9_readSeller (l : Launch) {E : Ev} (hN : 129 ≤ eN E) (hT : St E) {σ : SM} {o : Nat} {μ : OM} (ho : o < 11) (eM : σ o = μ) {π : OM} (e11 : σ 11 = π) {τ : OM} (e12 : σ 12 = τ) {β : OM} (e13 : σ 13 = β)  {rv : Int32} {μ' : OM} {π' : OM} {τ' : OM} (hf : f_X9_readSeller μ π τ β = some (rv, μ', π', τ')) : Met l yX9_readSeller (wC yX9_readSeller cX9_readSeller 7 (some .boolean)) rm_X9_readSeller (va_Pc [.ref (adr E 11 0), .ref (adr E o 0)] (Wu E σ)) (va_Qi (fun r u => rv = r ∧ u o = μ' ∧ u 11 = π' ∧ u 12 = τ' ∧ ∀ q, q ≠ o → q ≠ 11 → q ≠ 12 → u q = σ q) (fun u t => Wu E u t) (eA E)) 0 0 (eA E) := by
  refine g_entry (lv := [(0, .ref (adr E 11 0)), (1, .ref (adr E o 0))]) (by decide) (Nat.le_of_ble_eq_true rfl) rfl ?_
  intro p e s m below meth c cx hp ls hl
  have hx := cx.1.1
  have hb := cx.1.2.1
  have fr : ∀ q, q ≠ o → q ≠ 11 → q ≠ 12 → σ q = σ q := fun _ _ _ _ => rfl
  have d_M_11 : (o : Nat) ≠ 11 := by omega
  have d_M_12 : (o : Nat) ≠ 12 := by omega
  have d_11_M : (11 : Nat) ≠ o := by omega
  have d_11_12 : (11 : Nat) ≠ 12 := by decide
  have d_12_M : (12 : Nat) ≠ o := by omega
  have d_12_11 : (12 : Nat) ≠ 11 := by decide
  have d_13_M : (13 : Nat) ≠ o := by omega
  have d_13_11 : (13 : Nat) ≠ 11 := by decide
  have d_13_12 : (13 : Nat) ≠ 12 := by decide
  unfold f_X9_readSeller at hf
  refine lv_aload_n hx hb dX9_readSeller_0 rfl (lv_at hl 0 rfl) ?_
  refine va_ldcS hx hb cx.1.2.2.2.1 (cx.2.2.1.2.2.2 4 _ rfl) dX9_readSeller_1 ?_
  obtain ⟨r1, π2, τ3, hc, hf⟩ := fb3 hf
  refine x_i hp (y_V (As := [.ref (eK E 4)]) (rest := []) cx hp hl (c_X7_takeWord l hN hT e11 e12 e13 hc) (cw_X9_21 cx (mc := 0) (ms := 0) rfl rfl ⟨by decide, by decide⟩) (rC_X7 hN cx hp) rfl rfl (Nat.le_of_ble_eq_true rfl) dX9_readSeller_3 ⟨Nat.zero_le _, Nat.zero_le _⟩) (fun r_c u_c H locs hq hp => ?_)
  obtain ⟨rfl, e_0, e_1, n_u⟩ := hq
  have e11 := e_0
  have e12 := e_1
  have eM := (n_u _ d_M_11 d_M_12).trans eM
  have e13 := (n_u _ d_13_11 d_13_12).trans e13
  have fr : ∀ q, q ≠ o → q ≠ 11 → q ≠ 12 → u_c q = σ q := fun q h0 h1 h2 => (n_u q h1 h2).trans (fr q h0 h1 h2)
  obtain ⟨u, rfl⟩ : ∃ z, u_c = z := ⟨_, rfl⟩
  refine lv_if_ne (tgt := 11) hx hb dX9_readSeller_6 (by decide) (fun c4 => ?_) (fun c4 => ?_)
  · have hf := fn hf c4
    refine lv_aload_n hx hb dX9_readSeller_11 rfl (lv_at hl 0 rfl) ?_
    refine gF_X9_38 rfl hN cx hp dX9_readSeller_12 ?_
    refine gF_X9_56 e12 hN cx hp dX9_readSeller_15 ?_
    obtain ⟨i5, x_e, hf⟩ := fl hf
    refine lv_nml x_e ?_
    refine lv_lstore_n (lv' := [(2, .long i5), (0, .ref (adr E 11 0)), (1, .ref (adr E o 0))]) hx hb dX9_readSeller_18 rfl hl (by decide) rfl (fun ls hl => ?_)
    refine lv_aload_n hx hb dX9_readSeller_19 rfl (lv_at hl 1 rfl) ?_
    refine lv_aload_n hx hb dX9_readSeller_20 rfl (lv_at hl 2 rfl) ?_
    refine lv_lload_n hx hb dX9_readSeller_21 rfl (lv_at hl 0 rfl) ?_
    obtain ⟨r6, hc, hf⟩ := fb hf
    refine x_i hp (y_V (As := [.long i5]) (rest := [.ref (adr E 11 0)]) cx hp hl (c_X5_sellerCalled l hN hT ho eM hc) (cw_X9_90 cx (mc := 0) (ms := 0) rfl rfl ⟨by decide, by decide⟩) (rC_X5 ho hN cx hp) rfl rfl (Nat.le_of_ble_eq_true rfl) dX9_readSeller_22 ⟨Nat.zero_le _, Nat.zero_le _⟩) (fun r_c u_c H locs hq hp => ?_)
    obtain ⟨rfl, rfl⟩ := hq
    refine lv_iconst (v := (-1)) hx hb dX9_readSeller_25 (by decide) ?_
    refine lv_icmp_eq (tgt := 33) hx hb dX9_readSeller_26 (by decide) (fun c7 => ?_) (fun c7 => ?_)
    · have hf := fp hf c7
      refine lv_iconst (v := 0) hx hb dX9_readSeller_33 (by decide) ?_
      obtain ⟨r8, π9, τ10, hc, hf⟩ := fb3 hf
      refine x_i hp (y_S (As := [.ref (adr E 11 0), .int 0]) (rest := []) cx hp hl (c_X9_takeNewName l hN hT e11 e12 e13 hc) (cw_X9_66 cx (mc := 0) (ms := 0) rfl rfl ⟨by decide, by decide⟩) rfl rfl (Nat.le_of_ble_eq_true rfl) dX9_readSeller_34 ⟨Nat.zero_le _, Nat.zero_le _⟩) (fun r_c u_c H locs hq hp => ?_)
      obtain ⟨rfl, e_0, e_1, n_u⟩ := hq
      have e11 := e_0
      have e12 := e_1
      have eM := (n_u _ d_M_11 d_M_12).trans eM
      have e13 := (n_u _ d_13_11 d_13_12).trans e13
      have fr : ∀ q, q ≠ o → q ≠ 11 → q ≠ 12 → u_c q = σ q := fun q h0 h1 h2 => (n_u q h1 h2).trans (fr q h0 h1 h2)
      obtain ⟨u, rfl⟩ : ∃ z, u_c = z := ⟨_, rfl⟩
      refine lv_if_ne (tgt := 42) hx hb dX9_readSeller_37 (by decide) (fun c11 => ?_) (fun c11 => ?_)
      · have hf := fn hf c11
        refine lv_aload_n hx hb dX9_readSeller_42 rfl (lv_at hl 1 rfl) ?_
        refine lv_iconst (v := 0) hx hb dX9_readSeller_43 (by decide) ?_
        refine lv_sipush (v := 9999) hx hb dX9_readSeller_44 (by decide) ?_
        obtain ⟨r12, π13, τ14, hc, hf⟩ := fb3 hf
        refine x_i hp (y_V (As := [.int 0, .int 9999]) (rest := []) cx hp hl (c_X7_takeNumber l hN hT e11 e12 e13 hc) (cw_X9_70 cx (mc := 0) (ms := 0) rfl rfl ⟨by decide, by decide⟩) (rC_X7 hN cx hp) rfl rfl (Nat.le_of_ble_eq_true rfl) dX9_readSeller_47 ⟨Nat.zero_le _, Nat.zero_le _⟩) (fun r_c u_c H locs hq hp => ?_)
        obtain ⟨rfl, e_0, e_1, n_u⟩ := hq
        have e11 := e_0
        have e12 := e_1
        have eM := (n_u _ d_M_11 d_M_12).trans eM
        have e13 := (n_u _ d_13_11 d_13_12).trans e13
        have fr : ∀ q, q ≠ o → q ≠ 11 → q ≠ 12 → u_c q = σ q := fun q h0 h1 h2 => (n_u q h1 h2).trans (fr q h0 h1 h2)
        obtain ⟨u, rfl⟩ : ∃ z, u_c = z := ⟨_, rfl⟩
        refine lv_istore (lv' := [(4, .int r12), (2, .long i5), (0, .ref (adr E 11 0)), (1, .ref (adr E o 0))]) hx hb dX9_readSeller_50 hl (by decide) rfl (fun ls hl => ?_)
        refine lv_iload hx hb dX9_readSeller_52 (lv_at hl 0 rfl) ?_
        refine lv_iconst (v := (-1)) hx hb dX9_readSeller_54 (by decide) ?_
        refine lv_icmp_ne (tgt := 60) hx hb dX9_readSeller_55 (by decide) (fun c15 => ?_) (fun c15 => ?_)
        · have hf := fn hf c15
          refine lv_aload_n hx hb dX9_readSeller_60 rfl (lv_at hl 2 rfl) ?_
          refine lv_iconst (v := 0) hx hb dX9_readSeller_61 (by decide) ?_
          refine lv_bipush (v := 99) hx hb dX9_readSeller_62 (by decide) ?_
          obtain ⟨r16, π17, τ18, hc, hf⟩ := fb3 hf
          refine x_i hp (y_V (As := [.int 0, .int 99]) (rest := []) cx hp hl (c_X7_takeNumber l hN hT e11 e12 e13 hc) (cw_X9_70 cx (mc := 0) (ms := 0) rfl rfl ⟨by decide, by decide⟩) (rC_X7 hN cx hp) rfl rfl (Nat.le_of_ble_eq_true rfl) dX9_readSeller_64 ⟨Nat.zero_le _, Nat.zero_le _⟩) (fun r_c u_c H locs hq hp => ?_)
          obtain ⟨rfl, e_0, e_1, n_u⟩ := hq
          have e11 := e_0
          have e12 := e_1
          have eM := (n_u _ d_M_11 d_M_12).trans eM
          have e13 := (n_u _ d_13_11 d_13_12).trans e13
          have fr : ∀ q, q ≠ o → q ≠ 11 → q ≠ 12 → u_c q = σ q := fun q h0 h1 h2 => (n_u q h1 h2).trans (fr q h0 h1 h2)
          obtain ⟨u, rfl⟩ : ∃ z, u_c = z := ⟨_, rfl⟩
          refine lv_istore (lv' := [(5, .int r16), (4, .int r12), (2, .long i5), (0, .ref (adr E 11 0)), (1, .ref (adr E o 0))]) hx hb dX9_readSeller_67 hl (by decide) rfl (fun ls hl => ?_)
          refine lv_iload hx hb dX9_readSeller_69 (lv_at hl 0 rfl) ?_
          refine lv_iconst (v := (-1)) hx hb dX9_readSeller_71 (by decide) ?_
          refine lv_icmp_ne (tgt := 77) hx hb dX9_readSeller_72 (by decide) (fun c19 => ?_) (fun c19 => ?_)
          · have hf := fn hf c19
            refine lv_aload_n hx hb dX9_readSeller_77 rfl (lv_at hl 4 rfl) ?_
            refine gF_X9_93 ho eM hN cx hp dX9_readSeller_78 ?_
            obtain ⟨i20, x_e, hf⟩ := fl hf
            refine lv_nm x_e ?_
            refine lv_istore (lv' := [(6, .int i20), (5, .int r16), (4, .int r12), (2, .long i5), (0, .ref (adr E 11 0)), (1, .ref (adr E o 0))]) hx hb dX9_readSeller_81 hl (by decide) rfl (fun ls hl => ?_)
            refine lv_aload_n hx hb dX9_readSeller_83 rfl (lv_at hl 5 rfl) ?_
            refine lv_lload_n hx hb dX9_readSeller_84 rfl (lv_at hl 3 rfl) ?_
            refine lv_iload hx hb dX9_readSeller_85 (lv_at hl 2 rfl) ?_
            refine lv_iload hx hb dX9_readSeller_87 (lv_at hl 1 rfl) ?_
            obtain ⟨μ21, hc, hf⟩ := fb hf
            refine x_v hp (y_V (As := [.long i5, .int r12, .int r16]) (rest := []) cx hp hl (c_X5_addSeller l hN hT ho eM hc) (cw_X9_96 cx (mc := 0) (ms := 0) rfl rfl ⟨by decide, by decide⟩) (rC_X5 ho hN cx hp) rfl rfl (Nat.le_of_ble_eq_true rfl) dX9_readSeller_89 ⟨Nat.zero_le _, Nat.zero_le _⟩) (fun u_c H locs hq hp => ?_)
            obtain ⟨e_0, n_u⟩ := hq
            have eM := e_0
            have e11 := (n_u _ d_11_M).trans e11
            have e12 := (n_u _ d_12_M).trans e12
            have e13 := (n_u _ d_13_M).trans e13
            have fr : ∀ q, q ≠ o → q ≠ 11 → q ≠ 12 → u_c q = σ q := fun q h0 h1 h2 => (n_u q h0).trans (fr q h0 h1 h2)
            obtain ⟨u, rfl⟩ : ∃ z, u_c = z := ⟨_, rfl⟩
            refine lv_aload_n hx hb dX9_readSeller_92 rfl (lv_at hl 4 rfl) ?_
            refine lv_aload_n hx hb dX9_readSeller_93 rfl (lv_at hl 5 rfl) ?_
            refine lv_iload hx hb dX9_readSeller_94 (lv_at hl 0 rfl) ?_
            obtain ⟨r22, μ23, π24, τ25, hc, hf⟩ := fb4 hf
            refine x_i hp (y_S (As := [.ref (adr E 11 0), .ref (adr E o 0), .int i20]) (rest := []) cx hp hl (c_X9_readWishes l hN hT ho eM e11 e12 e13 hc) (cw_X9_100 cx (mc := 0) (ms := 0) rfl rfl ⟨by decide, by decide⟩) rfl rfl (Nat.le_of_ble_eq_true rfl) dX9_readSeller_96 ⟨Nat.zero_le _, Nat.zero_le _⟩) (fun r_c u_c H locs hq hp => ?_)
            obtain ⟨rfl, e_0, e_1, e_2, n_u⟩ := hq
            have eM := e_0
            have e11 := e_1
            have e12 := e_2
            have e13 := (n_u _ d_13_M d_13_11 d_13_12).trans e13
            have fr : ∀ q, q ≠ o → q ≠ 11 → q ≠ 12 → u_c q = σ q := fun q h0 h1 h2 => (n_u q h0 h1 h2).trans (fr q h0 h1 h2)
            obtain ⟨u, rfl⟩ : ∃ z, u_c = z := ⟨_, rfl⟩
            refine lv_if_eq (tgt := 123) hx hb dX9_readSeller_99 (by decide) (fun c26 => ?_) (fun c26 => ?_)
            · have hf := fp hf c26
              refine lv_iconst (v := 0) hx hb dX9_readSeller_123 (by decide) ?_
              cases hf
              exact r_z cx hp rfl ⟨rfl, eM, e11, e12, fr⟩ dX9_readSeller_124
            · have hf := fn hf c26
              refine lv_aload_n hx hb dX9_readSeller_102 rfl (lv_at hl 4 rfl) ?_
              refine lv_aload_n hx hb dX9_readSeller_103 rfl (lv_at hl 5 rfl) ?_
              refine lv_iload hx hb dX9_readSeller_104 (lv_at hl 0 rfl) ?_
              obtain ⟨r27, μ28, π29, τ30, hc, hf⟩ := fb4 hf
              refine x_i hp (y_S (As := [.ref (adr E 11 0), .ref (adr E o 0), .int i20]) (rest := []) cx hp hl (c_X9_readPlace l hN hT ho eM e11 e12 e13 hc) (cw_X9_104 cx (mc := 0) (ms := 0) rfl rfl ⟨by decide, by decide⟩) rfl rfl (Nat.le_of_ble_eq_true rfl) dX9_readSeller_106 ⟨Nat.zero_le _, Nat.zero_le _⟩) (fun r_c u_c H locs hq hp => ?_)
              obtain ⟨rfl, e_0, e_1, e_2, n_u⟩ := hq
              have eM := e_0
              have e11 := e_1
              have e12 := e_2
              have e13 := (n_u _ d_13_M d_13_11 d_13_12).trans e13
              have fr : ∀ q, q ≠ o → q ≠ 11 → q ≠ 12 → u_c q = σ q := fun q h0 h1 h2 => (n_u q h0 h1 h2).trans (fr q h0 h1 h2)
              obtain ⟨u, rfl⟩ : ∃ z, u_c = z := ⟨_, rfl⟩
              refine lv_if_eq (tgt := 123) hx hb dX9_readSeller_109 (by decide) (fun c31 => ?_) (fun c31 => ?_)
              · have hf := fp hf c31
                refine lv_iconst (v := 0) hx hb dX9_readSeller_123 (by decide) ?_
                cases hf
                exact r_z cx hp rfl ⟨rfl, eM, e11, e12, fr⟩ dX9_readSeller_124
              · have hf := fn hf c31
                refine lv_aload_n hx hb dX9_readSeller_112 rfl (lv_at hl 4 rfl) ?_
                obtain ⟨r32, π33, τ34, hc, hf⟩ := fb3 hf
                refine x_i hp (y_V (As := []) (rest := []) cx hp hl (c_X7_takeSemicolon l hN hT e11 e12 e13 hc) (cw_X9_25 cx (mc := 0) (ms := 0) rfl rfl ⟨by decide, by decide⟩) (rC_X7 hN cx hp) rfl rfl (Nat.le_of_ble_eq_true rfl) dX9_readSeller_113 ⟨Nat.zero_le _, Nat.zero_le _⟩) (fun r_c u_c H locs hq hp => ?_)
                obtain ⟨rfl, e_0, e_1, n_u⟩ := hq
                have e11 := e_0
                have e12 := e_1
                have eM := (n_u _ d_M_11 d_M_12).trans eM
                have e13 := (n_u _ d_13_11 d_13_12).trans e13
                have fr : ∀ q, q ≠ o → q ≠ 11 → q ≠ 12 → u_c q = σ q := fun q h0 h1 h2 => (n_u q h1 h2).trans (fr q h0 h1 h2)
                obtain ⟨u, rfl⟩ : ∃ z, u_c = z := ⟨_, rfl⟩
                refine lv_if_eq (tgt := 123) hx hb dX9_readSeller_116 (by decide) (fun c35 => ?_) (fun c35 => ?_)
                · have hf := fp hf c35
                  refine lv_iconst (v := 0) hx hb dX9_readSeller_123 (by decide) ?_
                  cases hf
                  exact r_z cx hp rfl ⟨rfl, eM, e11, e12, fr⟩ dX9_readSeller_124
                · have hf := fn hf c35
                  refine lv_iconst (v := 1) hx hb dX9_readSeller_119 (by decide) ?_
                  refine lv_goto (tgt := 124) hx hb dX9_readSeller_120 (by decide) ?_
                  cases hf
                  exact r_z cx hp rfl ⟨rfl, eM, e11, e12, fr⟩ dX9_readSeller_124
          · have hf := fp hf c19
            refine lv_iconst (v := 0) hx hb dX9_readSeller_75 (by decide) ?_
            cases hf
            exact r_z cx hp rfl ⟨rfl, eM, e11, e12, fr⟩ dX9_readSeller_76
        · have hf := fp hf c15
          refine lv_iconst (v := 0) hx hb dX9_readSeller_58 (by decide) ?_
          cases hf
          exact r_z cx hp rfl ⟨rfl, eM, e11, e12, fr⟩ dX9_readSeller_59
      · have hf := fp hf c11
        refine lv_iconst (v := 0) hx hb dX9_readSeller_40 (by decide) ?_
        cases hf
        exact r_z cx hp rfl ⟨rfl, eM, e11, e12, fr⟩ dX9_readSeller_41
    · have hf := fn hf c7
      refine lv_iconst (v := 1) hx hb dX9_readSeller_29 (by decide) ?_
      refine lv_goto (tgt := 34) hx hb dX9_readSeller_30 (by decide) ?_
      obtain ⟨r36, π37, τ38, hc, hf⟩ := fb3 hf
      refine x_i hp (y_S (As := [.ref (adr E 11 0), .int 1]) (rest := []) cx hp hl (c_X9_takeNewName l hN hT e11 e12 e13 hc) (cw_X9_66 cx (mc := 0) (ms := 0) rfl rfl ⟨by decide, by decide⟩) rfl rfl (Nat.le_of_ble_eq_true rfl) dX9_readSeller_34 ⟨Nat.zero_le _, Nat.zero_le _⟩) (fun r_c u_c H locs hq hp => ?_)
      obtain ⟨rfl, e_0, e_1, n_u⟩ := hq
      have e11 := e_0
      have e12 := e_1
      have eM := (n_u _ d_M_11 d_M_12).trans eM
      have e13 := (n_u _ d_13_11 d_13_12).trans e13
      have fr : ∀ q, q ≠ o → q ≠ 11 → q ≠ 12 → u_c q = σ q := fun q h0 h1 h2 => (n_u q h1 h2).trans (fr q h0 h1 h2)
      obtain ⟨u, rfl⟩ : ∃ z, u_c = z := ⟨_, rfl⟩
      refine lv_if_ne (tgt := 42) hx hb dX9_readSeller_37 (by decide) (fun c39 => ?_) (fun c39 => ?_)
      · have hf := fn hf c39
        refine lv_aload_n hx hb dX9_readSeller_42 rfl (lv_at hl 1 rfl) ?_
        refine lv_iconst (v := 0) hx hb dX9_readSeller_43 (by decide) ?_
        refine lv_sipush (v := 9999) hx hb dX9_readSeller_44 (by decide) ?_
        obtain ⟨r40, π41, τ42, hc, hf⟩ := fb3 hf
        refine x_i hp (y_V (As := [.int 0, .int 9999]) (rest := []) cx hp hl (c_X7_takeNumber l hN hT e11 e12 e13 hc) (cw_X9_70 cx (mc := 0) (ms := 0) rfl rfl ⟨by decide, by decide⟩) (rC_X7 hN cx hp) rfl rfl (Nat.le_of_ble_eq_true rfl) dX9_readSeller_47 ⟨Nat.zero_le _, Nat.zero_le _⟩) (fun r_c u_c H locs hq hp => ?_)
        obtain ⟨rfl, e_0, e_1, n_u⟩ := hq
        have e11 := e_0
        have e12 := e_1
        have eM := (n_u _ d_M_11 d_M_12).trans eM
        have e13 := (n_u _ d_13_11 d_13_12).trans e13
        have fr : ∀ q, q ≠ o → q ≠ 11 → q ≠ 12 → u_c q = σ q := fun q h0 h1 h2 => (n_u q h1 h2).trans (fr q h0 h1 h2)
        obtain ⟨u, rfl⟩ : ∃ z, u_c = z := ⟨_, rfl⟩
        refine lv_istore (lv' := [(4, .int r40), (2, .long i5), (0, .ref (adr E 11 0)), (1, .ref (adr E o 0))]) hx hb dX9_readSeller_50 hl (by decide) rfl (fun ls hl => ?_)
        refine lv_iload hx hb dX9_readSeller_52 (lv_at hl 0 rfl) ?_
        refine lv_iconst (v := (-1)) hx hb dX9_readSeller_54 (by decide) ?_
        refine lv_icmp_ne (tgt := 60) hx hb dX9_readSeller_55 (by decide) (fun c43 => ?_) (fun c43 => ?_)
        · have hf := fn hf c43
          refine lv_aload_n hx hb dX9_readSeller_60 rfl (lv_at hl 2 rfl) ?_
          refine lv_iconst (v := 0) hx hb dX9_readSeller_61 (by decide) ?_
          refine lv_bipush (v := 99) hx hb dX9_readSeller_62 (by decide) ?_
          obtain ⟨r44, π45, τ46, hc, hf⟩ := fb3 hf
          refine x_i hp (y_V (As := [.int 0, .int 99]) (rest := []) cx hp hl (c_X7_takeNumber l hN hT e11 e12 e13 hc) (cw_X9_70 cx (mc := 0) (ms := 0) rfl rfl ⟨by decide, by decide⟩) (rC_X7 hN cx hp) rfl rfl (Nat.le_of_ble_eq_true rfl) dX9_readSeller_64 ⟨Nat.zero_le _, Nat.zero_le _⟩) (fun r_c u_c H locs hq hp => ?_)
          obtain ⟨rfl, e_0, e_1, n_u⟩ := hq
          have e11 := e_0
          have e12 := e_1
          have eM := (n_u _ d_M_11 d_M_12).trans eM
          have e13 := (n_u _ d_13_11 d_13_12).trans e13
          have fr : ∀ q, q ≠ o → q ≠ 11 → q ≠ 12 → u_c q = σ q := fun q h0 h1 h2 => (n_u q h1 h2).trans (fr q h0 h1 h2)
          obtain ⟨u, rfl⟩ : ∃ z, u_c = z := ⟨_, rfl⟩
          refine lv_istore (lv' := [(5, .int r44), (4, .int r40), (2, .long i5), (0, .ref (adr E 11 0)), (1, .ref (adr E o 0))]) hx hb dX9_readSeller_67 hl (by decide) rfl (fun ls hl => ?_)
          refine lv_iload hx hb dX9_readSeller_69 (lv_at hl 0 rfl) ?_
          refine lv_iconst (v := (-1)) hx hb dX9_readSeller_71 (by decide) ?_
          refine lv_icmp_ne (tgt := 77) hx hb dX9_readSeller_72 (by decide) (fun c47 => ?_) (fun c47 => ?_)
          · have hf := fn hf c47
            refine lv_aload_n hx hb dX9_readSeller_77 rfl (lv_at hl 4 rfl) ?_
            refine gF_X9_93 ho eM hN cx hp dX9_readSeller_78 ?_
            obtain ⟨i48, x_e, hf⟩ := fl hf
            refine lv_nm x_e ?_
            refine lv_istore (lv' := [(6, .int i48), (5, .int r44), (4, .int r40), (2, .long i5), (0, .ref (adr E 11 0)), (1, .ref (adr E o 0))]) hx hb dX9_readSeller_81 hl (by decide) rfl (fun ls hl => ?_)
            refine lv_aload_n hx hb dX9_readSeller_83 rfl (lv_at hl 5 rfl) ?_
            refine lv_lload_n hx hb dX9_readSeller_84 rfl (lv_at hl 3 rfl) ?_
            refine lv_iload hx hb dX9_readSeller_85 (lv_at hl 2 rfl) ?_
            refine lv_iload hx hb dX9_readSeller_87 (lv_at hl 1 rfl) ?_
            obtain ⟨μ49, hc, hf⟩ := fb hf
            refine x_v hp (y_V (As := [.long i5, .int r40, .int r44]) (rest := []) cx hp hl (c_X5_addSeller l hN hT ho eM hc) (cw_X9_96 cx (mc := 0) (ms := 0) rfl rfl ⟨by decide, by decide⟩) (rC_X5 ho hN cx hp) rfl rfl (Nat.le_of_ble_eq_true rfl) dX9_readSeller_89 ⟨Nat.zero_le _, Nat.zero_le _⟩) (fun u_c H locs hq hp => ?_)
            obtain ⟨e_0, n_u⟩ := hq
            have eM := e_0
            have e11 := (n_u _ d_11_M).trans e11
            have e12 := (n_u _ d_12_M).trans e12
            have e13 := (n_u _ d_13_M).trans e13
            have fr : ∀ q, q ≠ o → q ≠ 11 → q ≠ 12 → u_c q = σ q := fun q h0 h1 h2 => (n_u q h0).trans (fr q h0 h1 h2)
            obtain ⟨u, rfl⟩ : ∃ z, u_c = z := ⟨_, rfl⟩
            refine lv_aload_n hx hb dX9_readSeller_92 rfl (lv_at hl 4 rfl) ?_
            refine lv_aload_n hx hb dX9_readSeller_93 rfl (lv_at hl 5 rfl) ?_
            refine lv_iload hx hb dX9_readSeller_94 (lv_at hl 0 rfl) ?_
            obtain ⟨r50, μ51, π52, τ53, hc, hf⟩ := fb4 hf
            refine x_i hp (y_S (As := [.ref (adr E 11 0), .ref (adr E o 0), .int i48]) (rest := []) cx hp hl (c_X9_readWishes l hN hT ho eM e11 e12 e13 hc) (cw_X9_100 cx (mc := 0) (ms := 0) rfl rfl ⟨by decide, by decide⟩) rfl rfl (Nat.le_of_ble_eq_true rfl) dX9_readSeller_96 ⟨Nat.zero_le _, Nat.zero_le _⟩) (fun r_c u_c H locs hq hp => ?_)
            obtain ⟨rfl, e_0, e_1, e_2, n_u⟩ := hq
            have eM := e_0
            have e11 := e_1
            have e12 := e_2
            have e13 := (n_u _ d_13_M d_13_11 d_13_12).trans e13
            have fr : ∀ q, q ≠ o → q ≠ 11 → q ≠ 12 → u_c q = σ q := fun q h0 h1 h2 => (n_u q h0 h1 h2).trans (fr q h0 h1 h2)
            obtain ⟨u, rfl⟩ : ∃ z, u_c = z := ⟨_, rfl⟩
            refine lv_if_eq (tgt := 123) hx hb dX9_readSeller_99 (by decide) (fun c54 => ?_) (fun c54 => ?_)
            · have hf := fp hf c54
              refine lv_iconst (v := 0) hx hb dX9_readSeller_123 (by decide) ?_
              cases hf
              exact r_z cx hp rfl ⟨rfl, eM, e11, e12, fr⟩ dX9_readSeller_124
            · have hf := fn hf c54
              refine lv_aload_n hx hb dX9_readSeller_102 rfl (lv_at hl 4 rfl) ?_
              refine lv_aload_n hx hb dX9_readSeller_103 rfl (lv_at hl 5 rfl) ?_
              refine lv_iload hx hb dX9_readSeller_104 (lv_at hl 0 rfl) ?_
              obtain ⟨r55, μ56, π57, τ58, hc, hf⟩ := fb4 hf
              refine x_i hp (y_S (As := [.ref (adr E 11 0), .ref (adr E o 0), .int i48]) (rest := []) cx hp hl (c_X9_readPlace l hN hT ho eM e11 e12 e13 hc) (cw_X9_104 cx (mc := 0) (ms := 0) rfl rfl ⟨by decide, by decide⟩) rfl rfl (Nat.le_of_ble_eq_true rfl) dX9_readSeller_106 ⟨Nat.zero_le _, Nat.zero_le _⟩) (fun r_c u_c H locs hq hp => ?_)
              obtain ⟨rfl, e_0, e_1, e_2, n_u⟩ := hq
              have eM := e_0
              have e11 := e_1
              have e12 := e_2
              have e13 := (n_u _ d_13_M d_13_11 d_13_12).trans e13
              have fr : ∀ q, q ≠ o → q ≠ 11 → q ≠ 12 → u_c q = σ q := fun q h0 h1 h2 => (n_u q h0 h1 h2).trans (fr q h0 h1 h2)
              obtain ⟨u, rfl⟩ : ∃ z, u_c = z := ⟨_, rfl⟩
              refine lv_if_eq (tgt := 123) hx hb dX9_readSeller_109 (by decide) (fun c59 => ?_) (fun c59 => ?_)
              · have hf := fp hf c59
                refine lv_iconst (v := 0) hx hb dX9_readSeller_123 (by decide) ?_
                cases hf
                exact r_z cx hp rfl ⟨rfl, eM, e11, e12, fr⟩ dX9_readSeller_124
              · have hf := fn hf c59
                refine lv_aload_n hx hb dX9_readSeller_112 rfl (lv_at hl 4 rfl) ?_
                obtain ⟨r60, π61, τ62, hc, hf⟩ := fb3 hf
                refine x_i hp (y_V (As := []) (rest := []) cx hp hl (c_X7_takeSemicolon l hN hT e11 e12 e13 hc) (cw_X9_25 cx (mc := 0) (ms := 0) rfl rfl ⟨by decide, by decide⟩) (rC_X7 hN cx hp) rfl rfl (Nat.le_of_ble_eq_true rfl) dX9_readSeller_113 ⟨Nat.zero_le _, Nat.zero_le _⟩) (fun r_c u_c H locs hq hp => ?_)
                obtain ⟨rfl, e_0, e_1, n_u⟩ := hq
                have e11 := e_0
                have e12 := e_1
                have eM := (n_u _ d_M_11 d_M_12).trans eM
                have e13 := (n_u _ d_13_11 d_13_12).trans e13
                have fr : ∀ q, q ≠ o → q ≠ 11 → q ≠ 12 → u_c q = σ q := fun q h0 h1 h2 => (n_u q h1 h2).trans (fr q h0 h1 h2)
                obtain ⟨u, rfl⟩ : ∃ z, u_c = z := ⟨_, rfl⟩
                refine lv_if_eq (tgt := 123) hx hb dX9_readSeller_116 (by decide) (fun c63 => ?_) (fun c63 => ?_)
                · have hf := fp hf c63
                  refine lv_iconst (v := 0) hx hb dX9_readSeller_123 (by decide) ?_
                  cases hf
                  exact r_z cx hp rfl ⟨rfl, eM, e11, e12, fr⟩ dX9_readSeller_124
                · have hf := fn hf c63
                  refine lv_iconst (v := 1) hx hb dX9_readSeller_119 (by decide) ?_
                  refine lv_goto (tgt := 124) hx hb dX9_readSeller_120 (by decide) ?_
                  cases hf
                  exact r_z cx hp rfl ⟨rfl, eM, e11, e12, fr⟩ dX9_readSeller_124
          · have hf := fp hf c47
            refine lv_iconst (v := 0) hx hb dX9_readSeller_75 (by decide) ?_
            cases hf
            exact r_z cx hp rfl ⟨rfl, eM, e11, e12, fr⟩ dX9_readSeller_76
        · have hf := fp hf c43
          refine lv_iconst (v := 0) hx hb dX9_readSeller_58 (by decide) ?_
          cases hf
          exact r_z cx hp rfl ⟨rfl, eM, e11, e12, fr⟩ dX9_readSeller_59
      · have hf := fp hf c39
        refine lv_iconst (v := 0) hx hb dX9_readSeller_40 (by decide) ?_
        cases hf
        exact r_z cx hp rfl ⟨rfl, eM, e11, e12, fr⟩ dX9_readSeller_41
  · have hf := fp hf c4
    refine lv_iconst (v := 0) hx hb dX9_readSeller_9 (by decide) ?_
    cases hf
    exact r_z cx hp rfl ⟨rfl, eM, e11, e12, fr⟩ dX9_readSeller_10

abbrev rm_X8_readCommand : Room := { frames := 8, cells := 0, slots := 0, locals := 173 }
set_option maxRecDepth 100000 in
set_option maxHeartbeats 4000000 in
theorem c_X8_readCommand (l : Launch) {E : Ev} (hN : 129 ≤ eN E) (hT : St E) {σ : SM} {o : Nat} {μ : OM} (ho : o < 11) (eM : σ o = μ) {π : OM} (e11 : σ 11 = π) {τ : OM} (e12 : σ 12 = τ) {β : OM} (e13 : σ 13 = β) {ς : OM} (e15 : σ 15 = ς)  {rv : Int32} {π' : OM} {τ' : OM} {ς' : OM} (hf : f_X8_readCommand μ π τ β ς = some (rv, π', τ', ς')) : Met l yX8_readCommand (wC yX8_readCommand cX8_readCommand 6 (some .boolean)) rm_X8_readCommand (va_Pc [.ref (adr E 15 0), .ref (adr E 11 0), .ref (adr E o 0)] (Wu E σ)) (va_Qi (fun r u => rv = r ∧ u 11 = π' ∧ u 12 = τ' ∧ u 15 = ς' ∧ ∀ q, q ≠ 11 → q ≠ 12 → q ≠ 15 → u q = σ q) (fun u t => Wu E u t) (eA E)) 0 0 (eA E) := by
  refine g_entry (lv := [(0, .ref (adr E 15 0)), (1, .ref (adr E 11 0)), (2, .ref (adr E o 0))]) (by decide) (Nat.le_of_ble_eq_true rfl) rfl ?_
  intro p e s m below meth c cx hp ls hl
  have hx := cx.1.1
  have hb := cx.1.2.1
  have fr : ∀ q, q ≠ 11 → q ≠ 12 → q ≠ 15 → σ q = σ q := fun _ _ _ _ => rfl
  have d_M_11 : (o : Nat) ≠ 11 := by omega
  have d_M_12 : (o : Nat) ≠ 12 := by omega
  have d_M_15 : (o : Nat) ≠ 15 := by omega
  have d_11_12 : (11 : Nat) ≠ 12 := by decide
  have d_11_15 : (11 : Nat) ≠ 15 := by decide
  have d_12_11 : (12 : Nat) ≠ 11 := by decide
  have d_12_15 : (12 : Nat) ≠ 15 := by decide
  have d_13_11 : (13 : Nat) ≠ 11 := by decide
  have d_13_12 : (13 : Nat) ≠ 12 := by decide
  have d_13_15 : (13 : Nat) ≠ 15 := by decide
  have d_15_11 : (15 : Nat) ≠ 11 := by decide
  have d_15_12 : (15 : Nat) ≠ 12 := by decide
  unfold f_X8_readCommand at hf
  refine lv_aload_n hx hb dX8_readCommand_0 rfl (lv_at hl 1 rfl) ?_
  refine gF_X8_33 rfl hN cx hp dX8_readCommand_1 ?_
  obtain ⟨r1, hc, hf⟩ := fb hf
  refine x_e hp (y_S (As := [.ref (adr E 12 0)]) (rest := []) cx hp hl (c_X8_verbAt l hN hT e12 e13 hc) (cw_X8_46 cx (mc := 0) (ms := 0) rfl rfl ⟨by decide, by decide⟩) rfl rfl (Nat.le_of_ble_eq_true rfl) dX8_readCommand_4 ⟨Nat.zero_le _, Nat.zero_le _⟩) (fun r_c u_c H locs hq hp => ?_)
  obtain ⟨rfl, rfl⟩ := hq
  rcases fe hf with ⟨e_n, hf⟩ | ⟨b2, e_n, hf⟩
  · rw [e_n]
    refine W.eq (g2 := F0 m 7 ls [.null]) rfl ?_
    refine lv_astore_nN (lv' := [(3, .null), (0, .ref (adr E 15 0)), (1, .ref (adr E 11 0)), (2, .ref (adr E o 0))]) hx hb dX8_readCommand_7 rfl hl (by decide) rfl (fun ls hl => ?_)
    refine lv_aload_nN hx hb dX8_readCommand_8 rfl (lv_at hl 0 rfl) ?_
    refine lv_ifnullN (tgt := 21) hx hb dX8_readCommand_9 (by decide) ?_
    refine lv_aload_n hx hb dX8_readCommand_21 rfl (lv_at hl 2 rfl) ?_
    refine lv_iconst (v := 1) hx hb dX8_readCommand_22 (by decide) ?_
    obtain ⟨r3, π4, hc, hf⟩ := fb2 hf
    refine x_i hp (y_V (As := [.int 1]) (rest := []) cx hp hl (c_X7_fail l hN hT e11 e12 hc) (cw_X8_50 cx (mc := 0) (ms := 0) rfl rfl ⟨by decide, by decide⟩) (rC_X7 hN cx hp) rfl rfl (Nat.le_of_ble_eq_true rfl) dX8_readCommand_23 ⟨Nat.zero_le _, Nat.zero_le _⟩) (fun r_c u_c H locs hq hp => ?_)
    obtain ⟨rfl, e_0, n_u⟩ := hq
    have e11 := e_0
    have eM := (n_u _ d_M_11).trans eM
    have e12 := (n_u _ d_12_11).trans e12
    have e13 := (n_u _ d_13_11).trans e13
    have e15 := (n_u _ d_15_11).trans e15
    have fr : ∀ q, q ≠ 11 → q ≠ 12 → q ≠ 15 → u_c q = σ q := fun q h0 h1 h2 => (n_u q h0).trans (fr q h0 h1 h2)
    obtain ⟨u, rfl⟩ : ∃ z, u_c = z := ⟨_, rfl⟩
    obtain ⟨g_z, hf⟩ := fg hf
    cases hf
    exact r_z cx hp (bz_n g_z) ⟨rfl, e11, e12, e15, fr⟩ dX8_readCommand_26
  · rw [e_n]
    refine W.eq (g2 := F0 m 7 ls [.ref (eV E b2)]) rfl ?_
    refine lv_astore_n (lv' := [(3, .ref (eV E b2)), (0, .ref (adr E 15 0)), (1, .ref (adr E 11 0)), (2, .ref (adr E o 0))]) hx hb dX8_readCommand_7 rfl hl (by decide) rfl (fun ls hl => ?_)
    refine lv_aload_n hx hb dX8_readCommand_8 rfl (lv_at hl 0 rfl) ?_
    refine lv_ifnull hx hb dX8_readCommand_9 ?_
    refine lv_aload_n hx hb dX8_readCommand_12 rfl (lv_at hl 1 rfl) ?_
    refine gF_X8_24 e15 hN cx hp dX8_readCommand_13 ?_
    refine lv_bipush (v := 20) hx hb dX8_readCommand_16 (by decide) ?_
    refine lv_icmp_lt (tgt := 27) hx hb dX8_readCommand_18 (by decide) (fun c5 => ?_) (fun c5 => ?_)
    · have hf := fp hf c5
      refine lv_aload_n hx hb dX8_readCommand_27 rfl (lv_at hl 2 rfl) ?_
      refine gF_X8_33 rfl hN cx hp dX8_readCommand_28 ?_
      obtain ⟨τ6, hc, hf⟩ := fb hf
      refine x_v hp (y_V (As := []) (rest := []) cx hp hl (c_X10_next l hN hT e12 e13 hc) (cw_X8_54 cx (mc := 0) (ms := 0) rfl rfl ⟨by decide, by decide⟩) (rC_X10 hN cx hp) rfl rfl (Nat.le_of_ble_eq_true rfl) dX8_readCommand_31 ⟨Nat.zero_le _, Nat.zero_le _⟩) (fun u_c H locs hq hp => ?_)
      obtain ⟨e_0, n_u⟩ := hq
      have e12 := e_0
      have eM := (n_u _ d_M_12).trans eM
      have e11 := (n_u _ d_11_12).trans e11
      have e13 := (n_u _ d_13_12).trans e13
      have e15 := (n_u _ d_15_12).trans e15
      have fr : ∀ q, q ≠ 11 → q ≠ 12 → q ≠ 15 → u_c q = σ q := fun q h0 h1 h2 => (n_u q h1).trans (fr q h0 h1 h2)
      obtain ⟨u, rfl⟩ : ∃ z, u_c = z := ⟨_, rfl⟩
      refine lv_aload_n hx hb dX8_readCommand_34 rfl (lv_at hl 2 rfl) ?_
      refine lv_aload_n hx hb dX8_readCommand_35 rfl (lv_at hl 3 rfl) ?_
      refine lv_aload_n hx hb dX8_readCommand_36 rfl (lv_at hl 0 rfl) ?_
      obtain ⟨g_b, hf⟩ := fg hf
      refine vk_getfN hx hb (ofS cx (hT.2.2.2.2.2 _ g_b).2.2.2.1) hp.2 cx.1.2.2.2.1 (va_Nw.use (nb_tab qF_X8_57) (cx.2.2.1.2.2.1 _ qF_X8_57)) (fun _ h => h) dX8_readCommand_37 ?_
      obtain ⟨r7, π8, τ9, hc, hf⟩ := fb3 hf
      refine x_i hp (y_S (As := [.ref (adr E 11 0), .ref (adr E o 0), .int (fks.getD b2 0)]) (rest := []) cx hp hl (c_X8_takeOperand l hN hT ho eM e11 e12 e13 hc) (cw_X8_60 cx (mc := 0) (ms := 0) rfl rfl ⟨by decide, by decide⟩) rfl rfl (Nat.le_of_ble_eq_true rfl) dX8_readCommand_40 ⟨Nat.zero_le _, Nat.zero_le _⟩) (fun r_c u_c H locs hq hp => ?_)
      obtain ⟨rfl, e_0, e_1, n_u⟩ := hq
      have e11 := e_0
      have e12 := e_1
      have eM := (n_u _ d_M_11 d_M_12).trans eM
      have e13 := (n_u _ d_13_11 d_13_12).trans e13
      have e15 := (n_u _ d_15_11 d_15_12).trans e15
      have fr : ∀ q, q ≠ 11 → q ≠ 12 → q ≠ 15 → u_c q = σ q := fun q h0 h1 h2 => (n_u q h0 h1).trans (fr q h0 h1 h2)
      obtain ⟨u, rfl⟩ : ∃ z, u_c = z := ⟨_, rfl⟩
      refine lv_istore (lv' := [(4, .int r7), (3, .ref (eV E b2)), (0, .ref (adr E 15 0)), (1, .ref (adr E 11 0)), (2, .ref (adr E o 0))]) hx hb dX8_readCommand_43 hl (by decide) rfl (fun ls hl => ?_)
      refine lv_iload hx hb dX8_readCommand_45 (lv_at hl 0 rfl) ?_
      refine lv_iconst (v := (-1)) hx hb dX8_readCommand_47 (by decide) ?_
      refine lv_icmp_ne (tgt := 53) hx hb dX8_readCommand_48 (by decide) (fun c10 => ?_) (fun c10 => ?_)
      · have hf := fn hf c10
        refine lv_aload_n hx hb dX8_readCommand_53 rfl (lv_at hl 3 rfl) ?_
        refine lv_aload_n hx hb dX8_readCommand_54 rfl (lv_at hl 4 rfl) ?_
        refine lv_aload_n hx hb dX8_readCommand_55 rfl (lv_at hl 1 rfl) ?_
        obtain ⟨g_b, hf⟩ := fg hf
        refine vk_getfN hx hb (ofS cx (hT.2.2.2.2.2 _ g_b).2.2.2.2) hp.2 cx.1.2.2.2.1 (va_Nw.use (nb_tab qF_X8_64) (cx.2.2.1.2.2.1 _ qF_X8_64)) (fun _ h => h) dX8_readCommand_56 ?_
        obtain ⟨r11, π12, τ13, hc, hf⟩ := fb3 hf
        refine x_i hp (y_S (As := [.ref (adr E 11 0), .ref (adr E o 0), .int (sks.getD b2 0)]) (rest := []) cx hp hl (c_X8_takeOperand l hN hT ho eM e11 e12 e13 hc) (cw_X8_60 cx (mc := 0) (ms := 0) rfl rfl ⟨by decide, by decide⟩) rfl rfl (Nat.le_of_ble_eq_true rfl) dX8_readCommand_59 ⟨Nat.zero_le _, Nat.zero_le _⟩) (fun r_c u_c H locs hq hp => ?_)
        obtain ⟨rfl, e_0, e_1, n_u⟩ := hq
        have e11 := e_0
        have e12 := e_1
        have eM := (n_u _ d_M_11 d_M_12).trans eM
        have e13 := (n_u _ d_13_11 d_13_12).trans e13
        have e15 := (n_u _ d_15_11 d_15_12).trans e15
        have fr : ∀ q, q ≠ 11 → q ≠ 12 → q ≠ 15 → u_c q = σ q := fun q h0 h1 h2 => (n_u q h0 h1).trans (fr q h0 h1 h2)
        obtain ⟨u, rfl⟩ : ∃ z, u_c = z := ⟨_, rfl⟩
        refine lv_istore (lv' := [(5, .int r11), (4, .int r7), (3, .ref (eV E b2)), (0, .ref (adr E 15 0)), (1, .ref (adr E 11 0)), (2, .ref (adr E o 0))]) hx hb dX8_readCommand_62 hl (by decide) rfl (fun ls hl => ?_)
        refine lv_iload hx hb dX8_readCommand_64 (lv_at hl 0 rfl) ?_
        refine lv_iconst (v := (-1)) hx hb dX8_readCommand_66 (by decide) ?_
        refine lv_icmp_ne (tgt := 72) hx hb dX8_readCommand_67 (by decide) (fun c14 => ?_) (fun c14 => ?_)
        · have hf := fn hf c14
          refine lv_aload_n hx hb dX8_readCommand_72 rfl (lv_at hl 3 rfl) ?_
          refine gF_X8_11 rfl hN cx hp dX8_readCommand_73 ?_
          refine lv_aload_n hx hb dX8_readCommand_76 rfl (lv_at hl 3 rfl) ?_
          refine gF_X8_24 e15 hN cx hp dX8_readCommand_77 ?_
          refine lv_aload_n hx hb dX8_readCommand_80 rfl (lv_at hl 2 rfl) ?_
          obtain ⟨g_b, hf⟩ := fg hf
          obtain ⟨g_i, hf⟩ := fg hf
          obtain ⟨ς15, e_l, hf⟩ := fl hf
          refine sA_X8_1 e15 hN hT cx hp g_b g_i dX8_readCommand_81 (fun u H locs e_u n_u hp => ?_)
          have e15 := e_u.trans e_l
          have eM := (n_u _ d_M_15).trans eM
          have e11 := (n_u _ d_11_15).trans e11
          have e12 := (n_u _ d_12_15).trans e12
          have e13 := (n_u _ d_13_15).trans e13
          have fr : ∀ q, q ≠ 11 → q ≠ 12 → q ≠ 15 → u q = σ q := fun q h0 h1 h2 => (n_u q h2).trans (fr q h0 h1 h2)
          refine lv_aload_n hx hb dX8_readCommand_82 rfl (lv_at hl 3 rfl) ?_
          refine gF_X8_17 rfl hN cx hp dX8_readCommand_83 ?_
          refine lv_aload_n hx hb dX8_readCommand_86 rfl (lv_at hl 3 rfl) ?_
          refine gF_X8_24 e15 hN cx hp dX8_readCommand_87 ?_
          refine lv_iload hx hb dX8_readCommand_90 (lv_at hl 1 rfl) ?_
          obtain ⟨g_i, hf⟩ := fg hf
          obtain ⟨ς16, e_l, hf⟩ := fl hf
          refine sA_X8_2 e15 hN cx hp g_i dX8_readCommand_92 (fun u H locs e_u n_u hp => ?_)
          have e15 := e_u.trans e_l
          have eM := (n_u _ d_M_15).trans eM
          have e11 := (n_u _ d_11_15).trans e11
          have e12 := (n_u _ d_12_15).trans e12
          have e13 := (n_u _ d_13_15).trans e13
          have fr : ∀ q, q ≠ 11 → q ≠ 12 → q ≠ 15 → u q = σ q := fun q h0 h1 h2 => (n_u q h2).trans (fr q h0 h1 h2)
          refine lv_aload_n hx hb dX8_readCommand_93 rfl (lv_at hl 3 rfl) ?_
          refine gF_X8_21 rfl hN cx hp dX8_readCommand_94 ?_
          refine lv_aload_n hx hb dX8_readCommand_97 rfl (lv_at hl 3 rfl) ?_
          refine gF_X8_24 e15 hN cx hp dX8_readCommand_98 ?_
          refine lv_iload hx hb dX8_readCommand_101 (lv_at hl 0 rfl) ?_
          obtain ⟨g_i, hf⟩ := fg hf
          obtain ⟨ς17, e_l, hf⟩ := fl hf
          refine sA_X8_3 e15 hN cx hp g_i dX8_readCommand_103 (fun u H locs e_u n_u hp => ?_)
          have e15 := e_u.trans e_l
          have eM := (n_u _ d_M_15).trans eM
          have e11 := (n_u _ d_11_15).trans e11
          have e12 := (n_u _ d_12_15).trans e12
          have e13 := (n_u _ d_13_15).trans e13
          have fr : ∀ q, q ≠ 11 → q ≠ 12 → q ≠ 15 → u q = σ q := fun q h0 h1 h2 => (n_u q h2).trans (fr q h0 h1 h2)
          refine lv_aload_n hx hb dX8_readCommand_104 rfl (lv_at hl 4 rfl) ?_
          obtain ⟨r18, π19, τ20, hc, hf⟩ := fb3 hf
          refine x_i hp (y_V (As := []) (rest := []) cx hp hl (c_X7_takeSemicolon l hN hT e11 e12 e13 hc) (cw_X8_67 cx (mc := 0) (ms := 0) rfl rfl ⟨by decide, by decide⟩) (rC_X7 hN cx hp) rfl rfl (Nat.le_of_ble_eq_true rfl) dX8_readCommand_105 ⟨Nat.zero_le _, Nat.zero_le _⟩) (fun r_c u_c H locs hq hp => ?_)
          obtain ⟨rfl, e_0, e_1, n_u⟩ := hq
          have e11 := e_0
          have e12 := e_1
          have eM := (n_u _ d_M_11 d_M_12).trans eM
          have e13 := (n_u _ d_13_11 d_13_12).trans e13
          have e15 := (n_u _ d_15_11 d_15_12).trans e15
          have fr : ∀ q, q ≠ 11 → q ≠ 12 → q ≠ 15 → u_c q = σ q := fun q h0 h1 h2 => (n_u q h0 h1).trans (fr q h0 h1 h2)
          obtain ⟨u, rfl⟩ : ∃ z, u_c = z := ⟨_, rfl⟩
          obtain ⟨g_z, hf⟩ := fg hf
          cases hf
          exact r_z cx hp (bz_n g_z) ⟨rfl, e11, e12, e15, fr⟩ dX8_readCommand_108
        · have hf := fp hf c14
          refine lv_iconst (v := 0) hx hb dX8_readCommand_70 (by decide) ?_
          cases hf
          exact r_z cx hp rfl ⟨rfl, e11, e12, e15, fr⟩ dX8_readCommand_71
      · have hf := fp hf c10
        refine lv_iconst (v := 0) hx hb dX8_readCommand_51 (by decide) ?_
        cases hf
        exact r_z cx hp rfl ⟨rfl, e11, e12, e15, fr⟩ dX8_readCommand_52
    · have hf := fn hf c5
      refine lv_aload_n hx hb dX8_readCommand_21 rfl (lv_at hl 2 rfl) ?_
      refine lv_iconst (v := 1) hx hb dX8_readCommand_22 (by decide) ?_
      obtain ⟨r21, π22, hc, hf⟩ := fb2 hf
      refine x_i hp (y_V (As := [.int 1]) (rest := []) cx hp hl (c_X7_fail l hN hT e11 e12 hc) (cw_X8_50 cx (mc := 0) (ms := 0) rfl rfl ⟨by decide, by decide⟩) (rC_X7 hN cx hp) rfl rfl (Nat.le_of_ble_eq_true rfl) dX8_readCommand_23 ⟨Nat.zero_le _, Nat.zero_le _⟩) (fun r_c u_c H locs hq hp => ?_)
      obtain ⟨rfl, e_0, n_u⟩ := hq
      have e11 := e_0
      have eM := (n_u _ d_M_11).trans eM
      have e12 := (n_u _ d_12_11).trans e12
      have e13 := (n_u _ d_13_11).trans e13
      have e15 := (n_u _ d_15_11).trans e15
      have fr : ∀ q, q ≠ 11 → q ≠ 12 → q ≠ 15 → u_c q = σ q := fun q h0 h1 h2 => (n_u q h0).trans (fr q h0 h1 h2)
      obtain ⟨u, rfl⟩ : ∃ z, u_c = z := ⟨_, rfl⟩
      obtain ⟨g_z, hf⟩ := fg hf
      cases hf
      exact r_z cx hp (bz_n g_z) ⟨rfl, e11, e12, e15, fr⟩ dX8_readCommand_26
abbrev rm_X8_read : Room := { frames := 9, cells := 0, slots := 0, locals := 198 }
set_option maxRecDepth 100000 in
set_option maxHeartbeats 4000000 in
theorem L_X8_read_9 {p : Program} {e : Env} {s : State} {m : MethodId} {args : Array Value} {below : List Frame} {meth : Method} {c : Code} (l : Launch) {E : Ev} (hN : 129 ≤ eN E) (hT : St E) {σ : SM} (cx : Cx E p s m meth c args RX8 cX8_read 3 (some .boolean)) {o : Nat} (ho : o < 11) {μ : OM} {β : OM} {rv : Int32} {π' : OM} {τ' : OM} {ς' : OM} : ∀ (n : Nat) {π : OM} {τ : OM} {ς : OM}, f_X8_read_9 μ β n π τ ς = some (rv, π', τ', ς') → ∀ {u : SM} {H : Heap} {locs : List Loc} {ls : Array Slot}, u o = μ → u 11 = π → u 12 = τ → u 13 = β → u 15 = ς → (∀ q, q ≠ 11 → q ≠ 12 → q ≠ 15 → u q = σ q) → Hp E u s H locs → lv_has ls 3 [(0, .ref (adr E 15 0)), (1, .ref (adr E 11 0)), (2, .ref (adr E o 0))] → W p l e rm_X8_read s m args below meth c H locs 0 0 (MQ below (va_Qi (fun r u => rv = r ∧ u 11 = π' ∧ u 12 = τ' ∧ u 15 = ς' ∧ ∀ q, q ≠ 11 → q ≠ 12 → q ≠ 15 → u q = σ q) (fun u t => Wu E u t) (eA E)) args s 0 0 (eA E)) (F0 m 9 ls []) := by
  have hx := cx.1.1
  have hb := cx.1.2.1
  have d_M_11 : (o : Nat) ≠ 11 := by omega
  have d_M_12 : (o : Nat) ≠ 12 := by omega
  have d_M_15 : (o : Nat) ≠ 15 := by omega
  have d_11_12 : (11 : Nat) ≠ 12 := by decide
  have d_11_15 : (11 : Nat) ≠ 15 := by decide
  have d_12_11 : (12 : Nat) ≠ 11 := by decide
  have d_12_15 : (12 : Nat) ≠ 15 := by decide
  have d_13_11 : (13 : Nat) ≠ 11 := by decide
  have d_13_12 : (13 : Nat) ≠ 12 := by decide
  have d_13_15 : (13 : Nat) ≠ 15 := by decide
  have d_15_11 : (15 : Nat) ≠ 11 := by decide
  have d_15_12 : (15 : Nat) ≠ 12 := by decide
  intro n
  induction n with
  | zero =>
    intro π τ ς hf
    exact absurd hf (by simp [f_X8_read_9])
  | succ n ih =>
    intro π τ ς hf u H locs ls eM e11 e12 e13 e15 fr hp hl
    rw [f_X8_read_9] at hf
    refine lv_aload_n hx hb dX8_read_9 rfl (lv_at hl 0 rfl) ?_
    refine gF_X8_24 e15 hN cx hp dX8_read_10 ?_
    refine lv_bipush (v := 20) hx hb dX8_read_13 (by decide) ?_
    refine lv_icmp_ge (tgt := 52) hx hb dX8_read_15 (by decide) (fun c4 => ?_) (fun c4 => ?_)
    · have hf := fp hf c4
      refine lv_aload_n hx hb dX8_read_52 rfl (lv_at hl 1 rfl) ?_
      refine gF_X8_33 rfl hN cx hp dX8_read_53 ?_
      refine gF_X8_37 e12 hN cx hp dX8_read_56 ?_
      refine lv_if_ne (tgt := 64) hx hb dX8_read_59 (by decide) (fun c5 => ?_) (fun c5 => ?_)
      · have hf := fn hf c5
        refine lv_aload_n hx hb dX8_read_64 rfl (lv_at hl 1 rfl) ?_
        refine lv_aload_n hx hb dX8_read_65 rfl (lv_at hl 1 rfl) ?_
        refine gF_X8_33 rfl hN cx hp dX8_read_66 ?_
        obtain ⟨r6, hc, hf⟩ := fb hf
        refine x_e hp (y_S (As := [.ref (adr E 12 0)]) (rest := [.ref (adr E 11 0)]) cx hp hl (c_X8_verbAt l hN hT e12 e13 hc) (cw_X8_46 cx (mc := 0) (ms := 0) rfl rfl ⟨by decide, by decide⟩) rfl rfl (Nat.le_of_ble_eq_true rfl) dX8_read_69 ⟨Nat.zero_le _, Nat.zero_le _⟩) (fun r_c u_c H locs hq hp => ?_)
        obtain ⟨rfl, rfl⟩ := hq
        rcases fe hf with ⟨e_n, hf⟩ | ⟨b7, e_n, hf⟩
        · rw [e_n]
          refine W.eq (g2 := F0 m 72 ls [.null, .ref (adr E 11 0)]) rfl ?_
          refine lv_ifnonnullN hx hb dX8_read_72 ?_
          refine lv_iconst (v := 1) hx hb dX8_read_75 (by decide) ?_
          refine lv_goto (tgt := 80) hx hb dX8_read_76 (by decide) ?_
          obtain ⟨r8, π9, hc, hf⟩ := fb2 hf
          refine x_i hp (y_V (As := [.int 1]) (rest := []) cx hp hl (c_X7_fail l hN hT e11 e12 hc) (cw_X8_50 cx (mc := 0) (ms := 0) rfl rfl ⟨by decide, by decide⟩) (rC_X7 hN cx hp) rfl rfl (Nat.le_of_ble_eq_true rfl) dX8_read_80 ⟨Nat.zero_le _, Nat.zero_le _⟩) (fun r_c u_c H locs hq hp => ?_)
          obtain ⟨rfl, e_0, n_u⟩ := hq
          have e11 := e_0
          have eM := (n_u _ d_M_11).trans eM
          have e12 := (n_u _ d_12_11).trans e12
          have e13 := (n_u _ d_13_11).trans e13
          have e15 := (n_u _ d_15_11).trans e15
          have fr : ∀ q, q ≠ 11 → q ≠ 12 → q ≠ 15 → u_c q = σ q := fun q h0 h1 h2 => (n_u q h0).trans (fr q h0 h1 h2)
          obtain ⟨u, rfl⟩ : ∃ z, u_c = z := ⟨_, rfl⟩
          obtain ⟨g_z, hf⟩ := fg hf
          cases hf
          exact r_z cx hp (bz_n g_z) ⟨rfl, e11, e12, e15, fr⟩ dX8_read_83
        · rw [e_n]
          refine W.eq (g2 := F0 m 72 ls [.ref (eV E b7), .ref (adr E 11 0)]) rfl ?_
          refine lv_ifnonnull (tgt := 79) hx hb dX8_read_72 (by decide) ?_
          refine lv_iconst (v := 5) hx hb dX8_read_79 (by decide) ?_
          obtain ⟨r10, π11, hc, hf⟩ := fb2 hf
          refine x_i hp (y_V (As := [.int 5]) (rest := []) cx hp hl (c_X7_fail l hN hT e11 e12 hc) (cw_X8_50 cx (mc := 0) (ms := 0) rfl rfl ⟨by decide, by decide⟩) (rC_X7 hN cx hp) rfl rfl (Nat.le_of_ble_eq_true rfl) dX8_read_80 ⟨Nat.zero_le _, Nat.zero_le _⟩) (fun r_c u_c H locs hq hp => ?_)
          obtain ⟨rfl, e_0, n_u⟩ := hq
          have e11 := e_0
          have eM := (n_u _ d_M_11).trans eM
          have e12 := (n_u _ d_12_11).trans e12
          have e13 := (n_u _ d_13_11).trans e13
          have e15 := (n_u _ d_15_11).trans e15
          have fr : ∀ q, q ≠ 11 → q ≠ 12 → q ≠ 15 → u_c q = σ q := fun q h0 h1 h2 => (n_u q h0).trans (fr q h0 h1 h2)
          obtain ⟨u, rfl⟩ : ∃ z, u_c = z := ⟨_, rfl⟩
          obtain ⟨g_z, hf⟩ := fg hf
          cases hf
          exact r_z cx hp (bz_n g_z) ⟨rfl, e11, e12, e15, fr⟩ dX8_read_83
      · have hf := fp hf c5
        refine lv_iconst (v := 1) hx hb dX8_read_62 (by decide) ?_
        cases hf
        exact r_z cx hp rfl ⟨rfl, e11, e12, e15, fr⟩ dX8_read_63
    · have hf := fn hf c4
      refine lv_aload_n hx hb dX8_read_18 rfl (lv_at hl 1 rfl) ?_
      refine gF_X8_33 rfl hN cx hp dX8_read_19 ?_
      refine gF_X8_37 e12 hN cx hp dX8_read_22 ?_
      refine lv_if_eq (tgt := 52) hx hb dX8_read_25 (by decide) (fun c12 => ?_) (fun c12 => ?_)
      · have hf := fp hf c12
        refine lv_aload_n hx hb dX8_read_52 rfl (lv_at hl 1 rfl) ?_
        refine gF_X8_33 rfl hN cx hp dX8_read_53 ?_
        refine gF_X8_37 e12 hN cx hp dX8_read_56 ?_
        refine lv_if_ne (tgt := 64) hx hb dX8_read_59 (by decide) (fun c13 => ?_) (fun c13 => ?_)
        · have hf := fn hf c13
          refine lv_aload_n hx hb dX8_read_64 rfl (lv_at hl 1 rfl) ?_
          refine lv_aload_n hx hb dX8_read_65 rfl (lv_at hl 1 rfl) ?_
          refine gF_X8_33 rfl hN cx hp dX8_read_66 ?_
          obtain ⟨r14, hc, hf⟩ := fb hf
          refine x_e hp (y_S (As := [.ref (adr E 12 0)]) (rest := [.ref (adr E 11 0)]) cx hp hl (c_X8_verbAt l hN hT e12 e13 hc) (cw_X8_46 cx (mc := 0) (ms := 0) rfl rfl ⟨by decide, by decide⟩) rfl rfl (Nat.le_of_ble_eq_true rfl) dX8_read_69 ⟨Nat.zero_le _, Nat.zero_le _⟩) (fun r_c u_c H locs hq hp => ?_)
          obtain ⟨rfl, rfl⟩ := hq
          rcases fe hf with ⟨e_n, hf⟩ | ⟨b15, e_n, hf⟩
          · rw [e_n]
            refine W.eq (g2 := F0 m 72 ls [.null, .ref (adr E 11 0)]) rfl ?_
            refine lv_ifnonnullN hx hb dX8_read_72 ?_
            refine lv_iconst (v := 1) hx hb dX8_read_75 (by decide) ?_
            refine lv_goto (tgt := 80) hx hb dX8_read_76 (by decide) ?_
            obtain ⟨r16, π17, hc, hf⟩ := fb2 hf
            refine x_i hp (y_V (As := [.int 1]) (rest := []) cx hp hl (c_X7_fail l hN hT e11 e12 hc) (cw_X8_50 cx (mc := 0) (ms := 0) rfl rfl ⟨by decide, by decide⟩) (rC_X7 hN cx hp) rfl rfl (Nat.le_of_ble_eq_true rfl) dX8_read_80 ⟨Nat.zero_le _, Nat.zero_le _⟩) (fun r_c u_c H locs hq hp => ?_)
            obtain ⟨rfl, e_0, n_u⟩ := hq
            have e11 := e_0
            have eM := (n_u _ d_M_11).trans eM
            have e12 := (n_u _ d_12_11).trans e12
            have e13 := (n_u _ d_13_11).trans e13
            have e15 := (n_u _ d_15_11).trans e15
            have fr : ∀ q, q ≠ 11 → q ≠ 12 → q ≠ 15 → u_c q = σ q := fun q h0 h1 h2 => (n_u q h0).trans (fr q h0 h1 h2)
            obtain ⟨u, rfl⟩ : ∃ z, u_c = z := ⟨_, rfl⟩
            obtain ⟨g_z, hf⟩ := fg hf
            cases hf
            exact r_z cx hp (bz_n g_z) ⟨rfl, e11, e12, e15, fr⟩ dX8_read_83
          · rw [e_n]
            refine W.eq (g2 := F0 m 72 ls [.ref (eV E b15), .ref (adr E 11 0)]) rfl ?_
            refine lv_ifnonnull (tgt := 79) hx hb dX8_read_72 (by decide) ?_
            refine lv_iconst (v := 5) hx hb dX8_read_79 (by decide) ?_
            obtain ⟨r18, π19, hc, hf⟩ := fb2 hf
            refine x_i hp (y_V (As := [.int 5]) (rest := []) cx hp hl (c_X7_fail l hN hT e11 e12 hc) (cw_X8_50 cx (mc := 0) (ms := 0) rfl rfl ⟨by decide, by decide⟩) (rC_X7 hN cx hp) rfl rfl (Nat.le_of_ble_eq_true rfl) dX8_read_80 ⟨Nat.zero_le _, Nat.zero_le _⟩) (fun r_c u_c H locs hq hp => ?_)
            obtain ⟨rfl, e_0, n_u⟩ := hq
            have e11 := e_0
            have eM := (n_u _ d_M_11).trans eM
            have e12 := (n_u _ d_12_11).trans e12
            have e13 := (n_u _ d_13_11).trans e13
            have e15 := (n_u _ d_15_11).trans e15
            have fr : ∀ q, q ≠ 11 → q ≠ 12 → q ≠ 15 → u_c q = σ q := fun q h0 h1 h2 => (n_u q h0).trans (fr q h0 h1 h2)
            obtain ⟨u, rfl⟩ : ∃ z, u_c = z := ⟨_, rfl⟩
            obtain ⟨g_z, hf⟩ := fg hf
            cases hf
            exact r_z cx hp (bz_n g_z) ⟨rfl, e11, e12, e15, fr⟩ dX8_read_83
        · have hf := fp hf c13
          refine lv_iconst (v := 1) hx hb dX8_read_62 (by decide) ?_
          cases hf
          exact r_z cx hp rfl ⟨rfl, e11, e12, e15, fr⟩ dX8_read_63
      · have hf := fn hf c12
        refine lv_aload_n hx hb dX8_read_28 rfl (lv_at hl 0 rfl) ?_
        refine lv_aload_n hx hb dX8_read_29 rfl (lv_at hl 1 rfl) ?_
        refine lv_aload_n hx hb dX8_read_30 rfl (lv_at hl 2 rfl) ?_
        obtain ⟨r20, π21, τ22, ς23, hc, hf⟩ := fb4 hf
        refine x_i hp (y_V (As := [.ref (adr E 11 0), .ref (adr E o 0)]) (rest := []) cx hp hl (c_X8_readCommand l hN hT ho eM e11 e12 e13 e15 hc) (cw_X8_42 cx (mc := 0) (ms := 0) rfl rfl ⟨by decide, by decide⟩) (rC_X8 hN cx hp) rfl rfl (Nat.le_of_ble_eq_true rfl) dX8_read_31 ⟨Nat.zero_le _, Nat.zero_le _⟩) (fun r_c u_c H locs hq hp => ?_)
        obtain ⟨rfl, e_0, e_1, e_2, n_u⟩ := hq
        have e11 := e_0
        have e12 := e_1
        have e15 := e_2
        have eM := (n_u _ d_M_11 d_M_12 d_M_15).trans eM
        have e13 := (n_u _ d_13_11 d_13_12 d_13_15).trans e13
        have fr : ∀ q, q ≠ 11 → q ≠ 12 → q ≠ 15 → u_c q = σ q := fun q h0 h1 h2 => (n_u q h0 h1 h2).trans (fr q h0 h1 h2)
        obtain ⟨u, rfl⟩ : ∃ z, u_c = z := ⟨_, rfl⟩
        refine lv_if_ne (tgt := 39) hx hb dX8_read_34 (by decide) (fun c24 => ?_) (fun c24 => ?_)
        · have hf := fn hf c24
          refine lv_aload_n hx hb dX8_read_39 rfl (lv_at hl 0 rfl) ?_
          refine lv_dup hx hb dX8_read_40 rfl ?_
          refine gF_X8_24 e15 hN cx hp dX8_read_41 ?_
          refine lv_iconst (v := 1) hx hb dX8_read_44 (by decide) ?_
          refine lv_iadd hx hb dX8_read_45 ?_
          obtain ⟨ς25, e_l, hf⟩ := fl hf
          refine pF_X8_24 e15 hN cx hp dX8_read_46 (fun u H locs e_u n_u hp => ?_)
          have e15 := e_u.trans e_l
          have eM := (n_u _ d_M_15).trans eM
          have e11 := (n_u _ d_11_15).trans e11
          have e12 := (n_u _ d_12_15).trans e12
          have e13 := (n_u _ d_13_15).trans e13
          have fr : ∀ q, q ≠ 11 → q ≠ 12 → q ≠ 15 → u q = σ q := fun q h0 h1 h2 => (n_u q h2).trans (fr q h0 h1 h2)
          refine lv_goto (tgt := 9) hx hb dX8_read_49 (by decide) ?_
          exact ih  hf eM e11 e12 e13 e15 fr hp (lv_sub hl [0, 1, 2] rfl)
        · have hf := fp hf c24
          refine lv_iconst (v := 0) hx hb dX8_read_37 (by decide) ?_
          cases hf
          exact r_z cx hp rfl ⟨rfl, e11, e12, e15, fr⟩ dX8_read_38
set_option maxRecDepth 100000 in
set_option maxHeartbeats 4000000 in
theorem c_X8_read (l : Launch) {E : Ev} (hN : 129 ≤ eN E) (hT : St E) {σ : SM} {o : Nat} {μ : OM} (ho : o < 11) (eM : σ o = μ) {π : OM} (e11 : σ 11 = π) {τ : OM} (e12 : σ 12 = τ) {β : OM} (e13 : σ 13 = β) {ς : OM} (e15 : σ 15 = ς)  {rv : Int32} {π' : OM} {τ' : OM} {ς' : OM} (hf : f_X8_read μ π τ β ς = some (rv, π', τ', ς')) : Met l yX8_read (wC yX8_read cX8_read 3 (some .boolean)) rm_X8_read (va_Pc [.ref (adr E 15 0), .ref (adr E 11 0), .ref (adr E o 0)] (Wu E σ)) (va_Qi (fun r u => rv = r ∧ u 11 = π' ∧ u 12 = τ' ∧ u 15 = ς' ∧ ∀ q, q ≠ 11 → q ≠ 12 → q ≠ 15 → u q = σ q) (fun u t => Wu E u t) (eA E)) 0 0 (eA E) := by
  refine g_entry (lv := [(0, .ref (adr E 15 0)), (1, .ref (adr E 11 0)), (2, .ref (adr E o 0))]) (by decide) (Nat.le_of_ble_eq_true rfl) rfl ?_
  intro p e s m below meth c cx hp ls hl
  have hx := cx.1.1
  have hb := cx.1.2.1
  have fr : ∀ q, q ≠ 11 → q ≠ 12 → q ≠ 15 → σ q = σ q := fun _ _ _ _ => rfl
  have d_M_11 : (o : Nat) ≠ 11 := by omega
  have d_M_12 : (o : Nat) ≠ 12 := by omega
  have d_M_15 : (o : Nat) ≠ 15 := by omega
  have d_11_12 : (11 : Nat) ≠ 12 := by decide
  have d_11_15 : (11 : Nat) ≠ 15 := by decide
  have d_12_11 : (12 : Nat) ≠ 11 := by decide
  have d_12_15 : (12 : Nat) ≠ 15 := by decide
  have d_13_11 : (13 : Nat) ≠ 11 := by decide
  have d_13_12 : (13 : Nat) ≠ 12 := by decide
  have d_13_15 : (13 : Nat) ≠ 15 := by decide
  have d_15_11 : (15 : Nat) ≠ 11 := by decide
  have d_15_12 : (15 : Nat) ≠ 12 := by decide
  unfold f_X8_read at hf
  refine lv_aload_n hx hb dX8_read_0 rfl (lv_at hl 0 rfl) ?_
  refine lv_iconst (v := 0) hx hb dX8_read_1 (by decide) ?_
  obtain ⟨ς1, e_l, hf⟩ := fl hf
  refine pF_X8_24 e15 hN cx hp dX8_read_2 (fun u H locs e_u n_u hp => ?_)
  have e15 := e_u.trans e_l
  have eM := (n_u _ d_M_15).trans eM
  have e11 := (n_u _ d_11_15).trans e11
  have e12 := (n_u _ d_12_15).trans e12
  have e13 := (n_u _ d_13_15).trans e13
  have fr : ∀ q, q ≠ 11 → q ≠ 12 → q ≠ 15 → u q = σ q := fun q h0 h1 h2 => (n_u q h2).trans (fr q h0 h1 h2)
  refine lv_aload_n hx hb dX8_read_5 rfl (lv_at hl 1 rfl) ?_
  obtain ⟨π2, τ3, hc, hf⟩ := fb2 hf
  refine x_v hp (y_V (As := []) (rest := []) cx hp hl (c_X7_begin l hN hT e11 e12 e13 hc) (cw_X8_28 cx (mc := 0) (ms := 0) rfl rfl ⟨by decide, by decide⟩) (rC_X7 hN cx hp) rfl rfl (Nat.le_of_ble_eq_true rfl) dX8_read_6 ⟨Nat.zero_le _, Nat.zero_le _⟩) (fun u_c H locs hq hp => ?_)
  obtain ⟨e_0, e_1, n_u⟩ := hq
  have e11 := e_0
  have e12 := e_1
  have eM := (n_u _ d_M_11 d_M_12).trans eM
  have e13 := (n_u _ d_13_11 d_13_12).trans e13
  have e15 := (n_u _ d_15_11 d_15_12).trans e15
  have fr : ∀ q, q ≠ 11 → q ≠ 12 → q ≠ 15 → u_c q = σ q := fun q h0 h1 h2 => (n_u q h0 h1).trans (fr q h0 h1 h2)
  obtain ⟨u, rfl⟩ : ∃ z, u_c = z := ⟨_, rfl⟩
  exact L_X8_read_9 l hN hT cx ho _ hf eM e11 e12 e13 e15 fr hp (lv_sub hl [0, 1, 2] rfl)
abbrev rm_X8_isPossible : Room := { frames := 5, cells := 0, slots := 0, locals := 114 }
set_option maxRecDepth 100000 in
set_option maxHeartbeats 4000000 in
theorem c_X8_isPossible (l : Launch) {E : Ev} (hN : 129 ≤ eN E) (hT : St E) {σ : SM} {o : Nat} {μ : OM} (ho : o < 11) (eM : σ o = μ) {b1 : Nat} {p2 : Int32} {p3 : Int32} {rv : Int32} (hf : f_X8_isPossible b1 p2 p3 μ = some rv) : Met l yX8_isPossible (wC yX8_isPossible cX8_isPossible 4 (some .boolean)) rm_X8_isPossible (va_Pc [.ref (adr E o 0), .ref (eV E b1), .int p2, .int p3] (Wu E σ)) (va_Qi (fun r u => rv = r ∧ σ = u) (fun u t => Wu E u t) (eA E)) 0 0 (eA E) := by
  refine g_entry (lv := [(0, .ref (adr E o 0)), (1, .ref (eV E b1)), (2, .int p2), (3, .int p3)]) (by decide) (Nat.le_of_ble_eq_true rfl) rfl ?_
  intro p e s m below meth c cx hp ls hl
  have hx := cx.1.1
  have hb := cx.1.2.1
  have fr : ∀ q, σ q = σ q := fun _ => rfl
  unfold f_X8_isPossible at hf
  refine va_gets hx hb (zS cx hT.2.2.2.2.1.1) hp.2 cx.1.2.2.2.1 (cx.1.2.2.2.2 _ qF_X8_101) (fun _ h => h) dX8_isPossible_0 ?_
  refine lv_aload_n hx hb dX8_isPossible_3 rfl (lv_at hl 1 rfl) ?_
  obtain ⟨g_b, hf⟩ := fg hf
  refine x_ordinal (rest := [.ref (eT E 1)]) hT cx hp hl g_b dX8_isPossible_4 (Nat.le_of_ble_eq_true rfl) ⟨by decide, by decide⟩ ?_
  obtain ⟨g_i, hf⟩ := fg hf
  refine va_ti hx hb (tS cx hT.2.2.2.2.1.2) hp.2 (inb_vp g_i) rfl dX8_isPossible_7 ?_
  by_cases c1 : (swm.getD (Int32.toNatClampNeg (nI b1)) 0) = 1
  · have hf := fp hf c1
    refine lv_nm c1 ?_
    refine lv_tableIn (off := 36) (tgt := 44) hx hb dX8_isPossible_8 (by decide) (by decide) (by decide) (by decide) ?_
    refine lv_aload_n hx hb dX8_isPossible_44 rfl (lv_at hl 0 rfl) ?_
    refine lv_iload_n hx hb dX8_isPossible_45 rfl (lv_at hl 2 rfl) ?_
    refine lv_iload_n hx hb dX8_isPossible_46 rfl (lv_at hl 3 rfl) ?_
    obtain ⟨r2, hc, hf⟩ := fb hf
    refine x_i hp (y_V (As := [.int p2, .int p3]) (rest := []) cx hp hl (c_X5_mayMoveInto l hN hT ho eM hc) (cw_X8_110 cx (mc := 0) (ms := 0) rfl rfl ⟨by decide, by decide⟩) (rC_X5 ho hN cx hp) rfl rfl (Nat.le_of_ble_eq_true rfl) dX8_isPossible_47 ⟨Nat.zero_le _, Nat.zero_le _⟩) (fun r_c u_c H locs hq hp => ?_)
    obtain ⟨rfl, rfl⟩ := hq
    obtain ⟨g_z, hf⟩ := fg hf
    cases hf
    exact r_z cx hp (bz_n g_z) ⟨rfl, (funext fr).symm⟩ dX8_isPossible_50
  · have hf := fn hf c1
    by_cases c3 : (swm.getD (Int32.toNatClampNeg (nI b1)) 0) = 2
    · have hf := fp hf c3
      refine lv_nm c3 ?_
      refine lv_tableIn (off := 43) (tgt := 51) hx hb dX8_isPossible_8 (by decide) (by decide) (by decide) (by decide) ?_
      refine lv_aload_n hx hb dX8_isPossible_51 rfl (lv_at hl 0 rfl) ?_
      refine lv_iload_n hx hb dX8_isPossible_52 rfl (lv_at hl 2 rfl) ?_
      obtain ⟨r4, hc, hf⟩ := fb hf
      refine x_i hp (y_V (As := [.int p2]) (rest := []) cx hp hl (c_X5_heldBy l hN hT ho eM hc) (cw_X8_116 cx (mc := 0) (ms := 0) rfl rfl ⟨by decide, by decide⟩) (rC_X5 ho hN cx hp) rfl rfl (Nat.le_of_ble_eq_true rfl) dX8_isPossible_53 ⟨Nat.zero_le _, Nat.zero_le _⟩) (fun r_c u_c H locs hq hp => ?_)
      obtain ⟨rfl, rfl⟩ := hq
      refine lv_iconst (v := (-1)) hx hb dX8_isPossible_56 (by decide) ?_
      refine lv_icmp_eq (tgt := 64) hx hb dX8_isPossible_57 (by decide) (fun c5 => ?_) (fun c5 => ?_)
      · have hf := fp hf c5
        refine lv_iconst (v := 0) hx hb dX8_isPossible_64 (by decide) ?_
        cases hf
        exact r_z cx hp rfl ⟨rfl, (funext fr).symm⟩ dX8_isPossible_65
      · have hf := fn hf c5
        refine lv_iconst (v := 1) hx hb dX8_isPossible_60 (by decide) ?_
        refine lv_goto (tgt := 65) hx hb dX8_isPossible_61 (by decide) ?_
        cases hf
        exact r_z cx hp rfl ⟨rfl, (funext fr).symm⟩ dX8_isPossible_65
    · have hf := fn hf c3
      by_cases c6 : (swm.getD (Int32.toNatClampNeg (nI b1)) 0) = 3
      · have hf := fp hf c6
        refine lv_nm c6 ?_
        refine lv_tableIn (off := 58) (tgt := 66) hx hb dX8_isPossible_8 (by decide) (by decide) (by decide) (by decide) ?_
        refine lv_aload_n hx hb dX8_isPossible_66 rfl (lv_at hl 0 rfl) ?_
        refine lv_iload_n hx hb dX8_isPossible_67 rfl (lv_at hl 2 rfl) ?_
        refine lv_iload_n hx hb dX8_isPossible_68 rfl (lv_at hl 3 rfl) ?_
        obtain ⟨r7, hc, hf⟩ := fb hf
        refine x_i hp (y_S (As := [.ref (adr E o 0), .int p2, .int p3]) (rest := []) cx hp hl (c_X3_bothGain l hN hT ho eM hc) (cw_X8_120 cx (mc := 0) (ms := 0) rfl rfl ⟨by decide, by decide⟩) rfl rfl (Nat.le_of_ble_eq_true rfl) dX8_isPossible_69 ⟨Nat.zero_le _, Nat.zero_le _⟩) (fun r_c u_c H locs hq hp => ?_)
        obtain ⟨rfl, rfl⟩ := hq
        obtain ⟨g_z, hf⟩ := fg hf
        cases hf
        exact r_z cx hp (bz_n g_z) ⟨rfl, (funext fr).symm⟩ dX8_isPossible_72
      · have hf := fn hf c6
        by_cases c8 : (swm.getD (Int32.toNatClampNeg (nI b1)) 0) = 4
        · have hf := fp hf c8
          refine lv_nm c8 ?_
          refine lv_tableIn (off := 65) (tgt := 73) hx hb dX8_isPossible_8 (by decide) (by decide) (by decide) (by decide) ?_
          refine lv_aload_n hx hb dX8_isPossible_73 rfl (lv_at hl 0 rfl) ?_
          refine lv_iload_n hx hb dX8_isPossible_74 rfl (lv_at hl 2 rfl) ?_
          refine lv_iload_n hx hb dX8_isPossible_75 rfl (lv_at hl 3 rfl) ?_
          obtain ⟨r9, hc, hf⟩ := fb hf
          refine x_i hp (y_V (As := [.int p2, .int p3]) (rest := []) cx hp hl (c_X5_rankIn l hN hT ho eM hc) (cw_X8_126 cx (mc := 0) (ms := 0) rfl rfl ⟨by decide, by decide⟩) (rC_X5 ho hN cx hp) rfl rfl (Nat.le_of_ble_eq_true rfl) dX8_isPossible_76 ⟨Nat.zero_le _, Nat.zero_le _⟩) (fun r_c u_c H locs hq hp => ?_)
          obtain ⟨rfl, rfl⟩ := hq
          refine lv_iconst (v := (-1)) hx hb dX8_isPossible_79 (by decide) ?_
          refine lv_icmp_eq (tgt := 87) hx hb dX8_isPossible_80 (by decide) (fun c10 => ?_) (fun c10 => ?_)
          · have hf := fp hf c10
            refine lv_iconst (v := 0) hx hb dX8_isPossible_87 (by decide) ?_
            cases hf
            exact r_z cx hp rfl ⟨rfl, (funext fr).symm⟩ dX8_isPossible_88
          · have hf := fn hf c10
            refine lv_iconst (v := 1) hx hb dX8_isPossible_83 (by decide) ?_
            refine lv_goto (tgt := 88) hx hb dX8_isPossible_84 (by decide) ?_
            cases hf
            exact r_z cx hp rfl ⟨rfl, (funext fr).symm⟩ dX8_isPossible_88
        · have hf := fn hf c8
          by_cases c11 : (swm.getD (Int32.toNatClampNeg (nI b1)) 0) = 5
          · have hf := fp hf c11
            refine lv_nm c11 ?_
            refine lv_tableIn (off := 81) (tgt := 89) hx hb dX8_isPossible_8 (by decide) (by decide) (by decide) (by decide) ?_
            refine lv_aload_n hx hb dX8_isPossible_89 rfl (lv_at hl 0 rfl) ?_
            refine lv_iload_n hx hb dX8_isPossible_90 rfl (lv_at hl 2 rfl) ?_
            obtain ⟨r12, hc, hf⟩ := fb hf
            refine x_i hp (y_V (As := [.int p2]) (rest := []) cx hp hl (c_X5_mayPass l hN hT ho eM hc) (cw_X8_129 cx (mc := 0) (ms := 0) rfl rfl ⟨by decide, by decide⟩) (rC_X5 ho hN cx hp) rfl rfl (Nat.le_of_ble_eq_true rfl) dX8_isPossible_91 ⟨Nat.zero_le _, Nat.zero_le _⟩) (fun r_c u_c H locs hq hp => ?_)
            obtain ⟨rfl, rfl⟩ := hq
            obtain ⟨g_z, hf⟩ := fg hf
            cases hf
            exact r_z cx hp (bz_n g_z) ⟨rfl, (funext fr).symm⟩ dX8_isPossible_94
          · have hf := fn hf c11
            have t_o : (swm.getD (Int32.toNatClampNeg (nI b1)) 0).toInt < 1 ∨ 5 < (swm.getD (Int32.toNatClampNeg (nI b1)) 0).toInt := by
              have := i_ne (n := 1) c1 (by decide)
              have := i_ne (n := 2) c3 (by decide)
              have := i_ne (n := 3) c6 (by decide)
              have := i_ne (n := 4) c8 (by decide)
              have := i_ne (n := 5) c11 (by decide)
              omega
            refine lv_tableOut (tgt := 95) hx hb dX8_isPossible_8 t_o (by decide) ?_
            refine lv_iconst (v := 1) hx hb dX8_isPossible_95 (by decide) ?_
            cases hf
            exact r_z cx hp rfl ⟨rfl, (funext fr).symm⟩ dX8_isPossible_96
abbrev rm_X8_perform : Room := { frames := 5, cells := 0, slots := 0, locals := 114 }
set_option maxRecDepth 100000 in
set_option maxHeartbeats 4000000 in
theorem c_X8_perform (l : Launch) {E : Ev} (hN : 129 ≤ eN E) (hT : St E) {σ : SM} {o : Nat} {μ : OM} (ho : o < 11) (eM : σ o = μ) {α : OM} (e17 : σ 17 = α) {b2 : Nat} {p3 : Int32} {p4 : Int32} {μ' : OM} {α' : OM} (hf : f_X8_perform b2 p3 p4 μ α = some (μ', α')) : Met l yX8_perform (wC yX8_perform cX8_perform 5 none) rm_X8_perform (va_Pc [.ref (adr E o 0), .ref (adr E 17 0), .ref (eV E b2), .int p3, .int p4] (Wu E σ)) (va_Qv (fun u => u o = μ' ∧ u 17 = α' ∧ ∀ q, q ≠ o → q ≠ 17 → u q = σ q) (fun u t => Wu E u t) (eA E)) 0 0 (eA E) := by
  refine g_entry (lv := [(0, .ref (adr E o 0)), (1, .ref (adr E 17 0)), (2, .ref (eV E b2)), (3, .int p3), (4, .int p4)]) (by decide) (Nat.le_of_ble_eq_true rfl) rfl ?_
  intro p e s m below meth c cx hp ls hl
  have hx := cx.1.1
  have hb := cx.1.2.1
  have fr : ∀ q, q ≠ o → q ≠ 17 → σ q = σ q := fun _ _ _ => rfl
  have d_M_17 : (o : Nat) ≠ 17 := by omega
  have d_17_M : (17 : Nat) ≠ o := by omega
  unfold f_X8_perform at hf
  refine va_gets hx hb (zS cx hT.2.2.2.2.1.1) hp.2 cx.1.2.2.2.1 (cx.1.2.2.2.2 _ qF_X8_101) (fun _ h => h) dX8_perform_0 ?_
  refine lv_aload_n hx hb dX8_perform_3 rfl (lv_at hl 2 rfl) ?_
  obtain ⟨g_b, hf⟩ := fg hf
  refine x_ordinal (rest := [.ref (eT E 1)]) hT cx hp hl g_b dX8_perform_4 (Nat.le_of_ble_eq_true rfl) ⟨by decide, by decide⟩ ?_
  obtain ⟨g_i, hf⟩ := fg hf
  refine va_ti hx hb (tS cx hT.2.2.2.2.1.2) hp.2 (inb_vp g_i) rfl dX8_perform_7 ?_
  by_cases c1 : (swm.getD (Int32.toNatClampNeg (nI b2)) 0) = 1
  · have hf := fp hf c1
    refine lv_nm c1 ?_
    refine lv_tableIn (off := 52) (tgt := 60) hx hb dX8_perform_8 (by decide) (by decide) (by decide) (by decide) ?_
    refine lv_aload_n hx hb dX8_perform_60 rfl (lv_at hl 0 rfl) ?_
    refine lv_iload_n hx hb dX8_perform_61 rfl (lv_at hl 3 rfl) ?_
    refine lv_iload hx hb dX8_perform_62 (lv_at hl 4 rfl) ?_
    obtain ⟨μ2, hc, hf⟩ := fb hf
    refine x_v hp (y_V (As := [.int p3, .int p4]) (rest := []) cx hp hl (c_X5_seat l hN hT ho eM hc) (cw_X8_132 cx (mc := 0) (ms := 0) rfl rfl ⟨by decide, by decide⟩) (rC_X5 ho hN cx hp) rfl rfl (Nat.le_of_ble_eq_true rfl) dX8_perform_64 ⟨Nat.zero_le _, Nat.zero_le _⟩) (fun u_c H locs hq hp => ?_)
    obtain ⟨e_0, n_u⟩ := hq
    have eM := e_0
    have e17 := (n_u _ d_17_M).trans e17
    have fr : ∀ q, q ≠ o → q ≠ 17 → u_c q = σ q := fun q h0 h1 => (n_u q h0).trans (fr q h0 h1)
    obtain ⟨u, rfl⟩ : ∃ z, u_c = z := ⟨_, rfl⟩
    refine lv_goto (tgt := 148) hx hb dX8_perform_67 (by decide) ?_
    cases hf
    exact r_v cx hp ⟨eM, e17, fr⟩ dX8_perform_148
  · have hf := fn hf c1
    by_cases c3 : (swm.getD (Int32.toNatClampNeg (nI b2)) 0) = 2
    · have hf := fp hf c3
      refine lv_nm c3 ?_
      refine lv_tableIn (off := 62) (tgt := 70) hx hb dX8_perform_8 (by decide) (by decide) (by decide) (by decide) ?_
      refine lv_aload_n hx hb dX8_perform_70 rfl (lv_at hl 0 rfl) ?_
      refine lv_iload_n hx hb dX8_perform_71 rfl (lv_at hl 3 rfl) ?_
      refine lv_iconst (v := (-1)) hx hb dX8_perform_72 (by decide) ?_
      obtain ⟨μ4, hc, hf⟩ := fb hf
      refine x_v hp (y_V (As := [.int p3, .int (-1)]) (rest := []) cx hp hl (c_X5_seat l hN hT ho eM hc) (cw_X8_132 cx (mc := 0) (ms := 0) rfl rfl ⟨by decide, by decide⟩) (rC_X5 ho hN cx hp) rfl rfl (Nat.le_of_ble_eq_true rfl) dX8_perform_73 ⟨Nat.zero_le _, Nat.zero_le _⟩) (fun u_c H locs hq hp => ?_)
      obtain ⟨e_0, n_u⟩ := hq
      have eM := e_0
      have e17 := (n_u _ d_17_M).trans e17
      have fr : ∀ q, q ≠ o → q ≠ 17 → u_c q = σ q := fun q h0 h1 => (n_u q h0).trans (fr q h0 h1)
      obtain ⟨u, rfl⟩ : ∃ z, u_c = z := ⟨_, rfl⟩
      refine lv_goto (tgt := 148) hx hb dX8_perform_76 (by decide) ?_
      cases hf
      exact r_v cx hp ⟨eM, e17, fr⟩ dX8_perform_148
    · have hf := fn hf c3
      by_cases c5 : (swm.getD (Int32.toNatClampNeg (nI b2)) 0) = 3
      · have hf := fp hf c5
        refine lv_nm c5 ?_
        refine lv_tableIn (off := 71) (tgt := 79) hx hb dX8_perform_8 (by decide) (by decide) (by decide) (by decide) ?_
        refine lv_aload_n hx hb dX8_perform_79 rfl (lv_at hl 0 rfl) ?_
        refine lv_iload_n hx hb dX8_perform_80 rfl (lv_at hl 3 rfl) ?_
        refine lv_iload hx hb dX8_perform_81 (lv_at hl 4 rfl) ?_
        obtain ⟨μ6, hc, hf⟩ := fb hf
        refine x_v hp (y_V (As := [.int p3, .int p4]) (rest := []) cx hp hl (c_X5_exchange l hN hT ho eM hc) (cw_X8_136 cx (mc := 0) (ms := 0) rfl rfl ⟨by decide, by decide⟩) (rC_X5 ho hN cx hp) rfl rfl (Nat.le_of_ble_eq_true rfl) dX8_perform_83 ⟨Nat.zero_le _, Nat.zero_le _⟩) (fun u_c H locs hq hp => ?_)
        obtain ⟨e_0, n_u⟩ := hq
        have eM := e_0
        have e17 := (n_u _ d_17_M).trans e17
        have fr : ∀ q, q ≠ o → q ≠ 17 → u_c q = σ q := fun q h0 h1 => (n_u q h0).trans (fr q h0 h1)
        obtain ⟨u, rfl⟩ : ∃ z, u_c = z := ⟨_, rfl⟩
        refine lv_goto (tgt := 148) hx hb dX8_perform_86 (by decide) ?_
        cases hf
        exact r_v cx hp ⟨eM, e17, fr⟩ dX8_perform_148
      · have hf := fn hf c5
        by_cases c7 : (swm.getD (Int32.toNatClampNeg (nI b2)) 0) = 4
        · have hf := fp hf c7
          refine lv_nm c7 ?_
          refine lv_tableIn (off := 105) (tgt := 113) hx hb dX8_perform_8 (by decide) (by decide) (by decide) (by decide) ?_
          refine lv_aload_n hx hb dX8_perform_113 rfl (lv_at hl 0 rfl) ?_
          refine lv_iload_n hx hb dX8_perform_114 rfl (lv_at hl 3 rfl) ?_
          refine lv_iload hx hb dX8_perform_115 (lv_at hl 4 rfl) ?_
          obtain ⟨μ8, hc, hf⟩ := fb hf
          refine x_v hp (y_V (As := [.int p3, .int p4]) (rest := []) cx hp hl (c_X5_dropWish l hN hT ho eM hc) (cw_X8_151 cx (mc := 0) (ms := 0) rfl rfl ⟨by decide, by decide⟩) (rC_X5 ho hN cx hp) rfl rfl (Nat.le_of_ble_eq_true rfl) dX8_perform_117 ⟨Nat.zero_le _, Nat.zero_le _⟩) (fun u_c H locs hq hp => ?_)
          obtain ⟨e_0, n_u⟩ := hq
          have eM := e_0
          have e17 := (n_u _ d_17_M).trans e17
          have fr : ∀ q, q ≠ o → q ≠ 17 → u_c q = σ q := fun q h0 h1 => (n_u q h0).trans (fr q h0 h1)
          obtain ⟨u, rfl⟩ : ∃ z, u_c = z := ⟨_, rfl⟩
          refine lv_goto (tgt := 148) hx hb dX8_perform_120 (by decide) ?_
          cases hf
          exact r_v cx hp ⟨eM, e17, fr⟩ dX8_perform_148
        · have hf := fn hf c7
          by_cases c9 : (swm.getD (Int32.toNatClampNeg (nI b2)) 0) = 5
          · have hf := fp hf c9
            refine lv_nm c9 ?_
            refine lv_tableIn (off := 135) (tgt := 143) hx hb dX8_perform_8 (by decide) (by decide) (by decide) (by decide) ?_
            refine lv_aload_n hx hb dX8_perform_143 rfl (lv_at hl 0 rfl) ?_
            refine lv_iload_n hx hb dX8_perform_144 rfl (lv_at hl 3 rfl) ?_
            obtain ⟨μ10, hc, hf⟩ := fb hf
            refine x_v hp (y_V (As := [.int p3]) (rest := []) cx hp hl (c_X5_pass l hN hT ho eM hc) (cw_X8_160 cx (mc := 0) (ms := 0) rfl rfl ⟨by decide, by decide⟩) (rC_X5 ho hN cx hp) rfl rfl (Nat.le_of_ble_eq_true rfl) dX8_perform_145 ⟨Nat.zero_le _, Nat.zero_le _⟩) (fun u_c H locs hq hp => ?_)
            obtain ⟨e_0, n_u⟩ := hq
            have eM := e_0
            have e17 := (n_u _ d_17_M).trans e17
            have fr : ∀ q, q ≠ o → q ≠ 17 → u_c q = σ q := fun q h0 h1 => (n_u q h0).trans (fr q h0 h1)
            obtain ⟨u, rfl⟩ : ∃ z, u_c = z := ⟨_, rfl⟩
            cases hf
            exact r_v cx hp ⟨eM, e17, fr⟩ dX8_perform_148
          · have hf := fn hf c9
            by_cases c11 : (swm.getD (Int32.toNatClampNeg (nI b2)) 0) = 6
            · have hf := fp hf c11
              refine lv_nm c11 ?_
              refine lv_tableIn (off := 81) (tgt := 89) hx hb dX8_perform_8 (by decide) (by decide) (by decide) (by decide) ?_
              refine lv_aload_n hx hb dX8_perform_89 rfl (lv_at hl 1 rfl) ?_
              refine lv_aload_n hx hb dX8_perform_90 rfl (lv_at hl 0 rfl) ?_
              obtain ⟨α12, hc, hf⟩ := fb hf
              refine x_v hp (y_V (As := [.ref (adr E o 0)]) (rest := []) cx hp hl (c_X1_decide l hN hT ho eM e17 hc) (cw_X8_139 cx (mc := 0) (ms := 0) rfl rfl ⟨by decide, by decide⟩) (rC_X1 hN cx hp) rfl rfl (Nat.le_of_ble_eq_true rfl) dX8_perform_91 ⟨Nat.zero_le _, Nat.zero_le _⟩) (fun u_c H locs hq hp => ?_)
              obtain ⟨e_0, n_u⟩ := hq
              have e17 := e_0
              have eM := (n_u _ d_M_17).trans eM
              have fr : ∀ q, q ≠ o → q ≠ 17 → u_c q = σ q := fun q h0 h1 => (n_u q h1).trans (fr q h0 h1)
              obtain ⟨u, rfl⟩ : ∃ z, u_c = z := ⟨_, rfl⟩
              refine lv_aload_n hx hb dX8_perform_94 rfl (lv_at hl 1 rfl) ?_
              refine lv_aload_n hx hb dX8_perform_95 rfl (lv_at hl 0 rfl) ?_
              obtain ⟨r13, μ14, hc, hf⟩ := fb2 hf
              refine x_i hp (y_V (As := [.ref (adr E o 0)]) (rest := []) cx hp hl (c_X1_applyTo l hN hT ho eM e17 hc) (cw_X8_145 cx (mc := 0) (ms := 0) rfl rfl ⟨by decide, by decide⟩) (rC_X1 hN cx hp) rfl rfl (Nat.le_of_ble_eq_true rfl) dX8_perform_96 ⟨Nat.zero_le _, Nat.zero_le _⟩) (fun r_c u_c H locs hq hp => ?_)
              obtain ⟨rfl, e_0, n_u⟩ := hq
              have eM := e_0
              have e17 := (n_u _ d_17_M).trans e17
              have fr : ∀ q, q ≠ o → q ≠ 17 → u_c q = σ q := fun q h0 h1 => (n_u q h0).trans (fr q h0 h1)
              obtain ⟨u, rfl⟩ : ∃ z, u_c = z := ⟨_, rfl⟩
              refine lv_pop hx hb dX8_perform_99 rfl ?_
              refine lv_goto (tgt := 148) hx hb dX8_perform_100 (by decide) ?_
              cases hf
              exact r_v cx hp ⟨eM, e17, fr⟩ dX8_perform_148
            · have hf := fn hf c11
              by_cases c15 : (swm.getD (Int32.toNatClampNeg (nI b2)) 0) = 7
              · have hf := fp hf c15
                refine lv_nm c15 ?_
                refine lv_tableIn (off := 95) (tgt := 103) hx hb dX8_perform_8 (by decide) (by decide) (by decide) (by decide) ?_
                refine lv_aload_n hx hb dX8_perform_103 rfl (lv_at hl 0 rfl) ?_
                refine lv_iload_n hx hb dX8_perform_104 rfl (lv_at hl 3 rfl) ?_
                refine lv_iload hx hb dX8_perform_105 (lv_at hl 4 rfl) ?_
                obtain ⟨μ16, hc, hf⟩ := fb hf
                refine x_v hp (y_V (As := [.int p3, .int p4]) (rest := []) cx hp hl (c_X5_wishFirst l hN hT ho eM hc) (cw_X8_148 cx (mc := 0) (ms := 0) rfl rfl ⟨by decide, by decide⟩) (rC_X5 ho hN cx hp) rfl rfl (Nat.le_of_ble_eq_true rfl) dX8_perform_107 ⟨Nat.zero_le _, Nat.zero_le _⟩) (fun u_c H locs hq hp => ?_)
                obtain ⟨e_0, n_u⟩ := hq
                have eM := e_0
                have e17 := (n_u _ d_17_M).trans e17
                have fr : ∀ q, q ≠ o → q ≠ 17 → u_c q = σ q := fun q h0 h1 => (n_u q h0).trans (fr q h0 h1)
                obtain ⟨u, rfl⟩ : ∃ z, u_c = z := ⟨_, rfl⟩
                refine lv_goto (tgt := 148) hx hb dX8_perform_110 (by decide) ?_
                cases hf
                exact r_v cx hp ⟨eM, e17, fr⟩ dX8_perform_148
              · have hf := fn hf c15
                by_cases c17 : (swm.getD (Int32.toNatClampNeg (nI b2)) 0) = 8
                · have hf := fp hf c17
                  refine lv_nm c17 ?_
                  refine lv_tableIn (off := 115) (tgt := 123) hx hb dX8_perform_8 (by decide) (by decide) (by decide) (by decide) ?_
                  refine lv_aload_n hx hb dX8_perform_123 rfl (lv_at hl 0 rfl) ?_
                  refine lv_iload_n hx hb dX8_perform_124 rfl (lv_at hl 3 rfl) ?_
                  refine lv_iload hx hb dX8_perform_125 (lv_at hl 4 rfl) ?_
                  obtain ⟨μ18, hc, hf⟩ := fb hf
                  refine x_v hp (y_V (As := [.int p3, .int p4]) (rest := []) cx hp hl (c_X5_price l hN hT ho eM hc) (cw_X8_154 cx (mc := 0) (ms := 0) rfl rfl ⟨by decide, by decide⟩) (rC_X5 ho hN cx hp) rfl rfl (Nat.le_of_ble_eq_true rfl) dX8_perform_127 ⟨Nat.zero_le _, Nat.zero_le _⟩) (fun u_c H locs hq hp => ?_)
                  obtain ⟨e_0, n_u⟩ := hq
                  have eM := e_0
                  have e17 := (n_u _ d_17_M).trans e17
                  have fr : ∀ q, q ≠ o → q ≠ 17 → u_c q = σ q := fun q h0 h1 => (n_u q h0).trans (fr q h0 h1)
                  obtain ⟨u, rfl⟩ : ∃ z, u_c = z := ⟨_, rfl⟩
                  refine lv_goto (tgt := 148) hx hb dX8_perform_130 (by decide) ?_
                  cases hf
                  exact r_v cx hp ⟨eM, e17, fr⟩ dX8_perform_148
                · have hf := fn hf c17
                  by_cases c19 : (swm.getD (Int32.toNatClampNeg (nI b2)) 0) = 9
                  · have hf := fp hf c19
                    refine lv_nm c19 ?_
                    refine lv_tableIn (off := 125) (tgt := 133) hx hb dX8_perform_8 (by decide) (by decide) (by decide) (by decide) ?_
                    refine lv_aload_n hx hb dX8_perform_133 rfl (lv_at hl 0 rfl) ?_
                    refine lv_iload_n hx hb dX8_perform_134 rfl (lv_at hl 3 rfl) ?_
                    refine lv_iload hx hb dX8_perform_135 (lv_at hl 4 rfl) ?_
                    obtain ⟨μ20, hc, hf⟩ := fb hf
                    refine x_v hp (y_V (As := [.int p3, .int p4]) (rest := []) cx hp hl (c_X5_receive l hN hT ho eM hc) (cw_X8_157 cx (mc := 0) (ms := 0) rfl rfl ⟨by decide, by decide⟩) (rC_X5 ho hN cx hp) rfl rfl (Nat.le_of_ble_eq_true rfl) dX8_perform_137 ⟨Nat.zero_le _, Nat.zero_le _⟩) (fun u_c H locs hq hp => ?_)
                    obtain ⟨e_0, n_u⟩ := hq
                    have eM := e_0
                    have e17 := (n_u _ d_17_M).trans e17
                    have fr : ∀ q, q ≠ o → q ≠ 17 → u_c q = σ q := fun q h0 h1 => (n_u q h0).trans (fr q h0 h1)
                    obtain ⟨u, rfl⟩ : ∃ z, u_c = z := ⟨_, rfl⟩
                    refine lv_goto (tgt := 148) hx hb dX8_perform_140 (by decide) ?_
                    cases hf
                    exact r_v cx hp ⟨eM, e17, fr⟩ dX8_perform_148
                  · have hf := fn hf c19
                    have t_o : (swm.getD (Int32.toNatClampNeg (nI b2)) 0).toInt < 1 ∨ 9 < (swm.getD (Int32.toNatClampNeg (nI b2)) 0).toInt := by
                      have := i_ne (n := 1) c1 (by decide)
                      have := i_ne (n := 2) c3 (by decide)
                      have := i_ne (n := 3) c5 (by decide)
                      have := i_ne (n := 4) c7 (by decide)
                      have := i_ne (n := 5) c9 (by decide)
                      have := i_ne (n := 6) c11 (by decide)
                      have := i_ne (n := 7) c15 (by decide)
                      have := i_ne (n := 8) c17 (by decide)
                      have := i_ne (n := 9) c19 (by decide)
                      omega
                    refine lv_tableOut (tgt := 143) hx hb dX8_perform_8 t_o (by decide) ?_
                    refine lv_aload_n hx hb dX8_perform_143 rfl (lv_at hl 0 rfl) ?_
                    refine lv_iload_n hx hb dX8_perform_144 rfl (lv_at hl 3 rfl) ?_
                    obtain ⟨μ21, hc, hf⟩ := fb hf
                    refine x_v hp (y_V (As := [.int p3]) (rest := []) cx hp hl (c_X5_pass l hN hT ho eM hc) (cw_X8_160 cx (mc := 0) (ms := 0) rfl rfl ⟨by decide, by decide⟩) (rC_X5 ho hN cx hp) rfl rfl (Nat.le_of_ble_eq_true rfl) dX8_perform_145 ⟨Nat.zero_le _, Nat.zero_le _⟩) (fun u_c H locs hq hp => ?_)
                    obtain ⟨e_0, n_u⟩ := hq
                    have eM := e_0
                    have e17 := (n_u _ d_17_M).trans e17
                    have fr : ∀ q, q ≠ o → q ≠ 17 → u_c q = σ q := fun q h0 h1 => (n_u q h0).trans (fr q h0 h1)
                    obtain ⟨u, rfl⟩ : ∃ z, u_c = z := ⟨_, rfl⟩
                    cases hf
                    exact r_v cx hp ⟨eM, e17, fr⟩ dX8_perform_148
abbrev rm_X8_execute : Room := { frames := 6, cells := 0, slots := 0, locals := 138 }
set_option maxRecDepth 100000 in
set_option maxHeartbeats 4000000 in
theorem L_X8_execute_2 {p : Program} {e : Env} {s : State} {m : MethodId} {args : Array Value} {below : List Frame} {meth : Method} {c : Code} (l : Launch) {E : Ev} (hN : 129 ≤ eN E) (hT : St E) {σ : SM} (cx : Cx E p s m meth c args RX8 cX8_execute 5 (some .int)) {o : Nat} (ho : o < 11) {ς : OM} {rv : Int32} {μ' : OM} {α' : OM} : ∀ (n : Nat) {x3 : Int32} {μ : OM} {α : OM}, f_X8_execute_2 ς n x3 μ α = some (rv, μ', α') → ∀ {u : SM} {H : Heap} {locs : List Loc} {ls : Array Slot}, u o = μ → u 15 = ς → u 17 = α → (∀ q, q ≠ o → q ≠ 17 → u q = σ q) → Hp E u s H locs → lv_has ls 5 [(0, .ref (adr E 15 0)), (1, .ref (adr E o 0)), (2, .ref (adr E 17 0)), (3, .int x3)] → W p l e rm_X8_execute s m args below meth c H locs 0 0 (MQ below (va_Qi (fun r u => rv = r ∧ u o = μ' ∧ u 17 = α' ∧ ∀ q, q ≠ o → q ≠ 17 → u q = σ q) (fun u t => Wu E u t) (eA E)) args s 0 0 (eA E)) (F0 m 2 ls []) := by
  have hx := cx.1.1
  have hb := cx.1.2.1
  have d_M_17 : (o : Nat) ≠ 17 := by omega
  have d_15_M : (15 : Nat) ≠ o := by omega
  have d_15_17 : (15 : Nat) ≠ 17 := by decide
  have d_17_M : (17 : Nat) ≠ o := by omega
  intro n
  induction n with
  | zero =>
    intro x3 μ α hf
    exact absurd hf (by simp [f_X8_execute_2])
  | succ n ih =>
    intro x3 μ α hf u H locs ls eM e15 e17 fr hp hl
    rw [f_X8_execute_2] at hf
    refine lv_iload_n hx hb dX8_execute_2 rfl (lv_at hl 3 rfl) ?_
    refine lv_aload_n hx hb dX8_execute_3 rfl (lv_at hl 0 rfl) ?_
    refine gF_X8_24 e15 hN cx hp dX8_execute_4 ?_
    refine lv_icmp_ge (tgt := 77) hx hb dX8_execute_7 (by decide) (fun c1 => ?_) (fun c1 => ?_)
    · have hf := fp hf c1
      refine lv_aload_n hx hb dX8_execute_77 rfl (lv_at hl 0 rfl) ?_
      refine gF_X8_24 e15 hN cx hp dX8_execute_78 ?_
      cases hf
      exact r_i cx hp ⟨rfl, eM, e17, fr⟩ dX8_execute_81
    · have hf := fn hf c1
      refine lv_iload_n hx hb dX8_execute_10 rfl (lv_at hl 3 rfl) ?_
      refine lv_bipush (v := 20) hx hb dX8_execute_11 (by decide) ?_
      refine lv_icmp_ge (tgt := 77) hx hb dX8_execute_13 (by decide) (fun c2 => ?_) (fun c2 => ?_)
      · have hf := fp hf c2
        refine lv_aload_n hx hb dX8_execute_77 rfl (lv_at hl 0 rfl) ?_
        refine gF_X8_24 e15 hN cx hp dX8_execute_78 ?_
        cases hf
        exact r_i cx hp ⟨rfl, eM, e17, fr⟩ dX8_execute_81
      · have hf := fn hf c2
        refine lv_aload_n hx hb dX8_execute_16 rfl (lv_at hl 0 rfl) ?_
        refine gF_X8_11 rfl hN cx hp dX8_execute_17 ?_
        refine lv_iload_n hx hb dX8_execute_20 rfl (lv_at hl 3 rfl) ?_
        obtain ⟨g_i, hf⟩ := fg hf
        refine lA_X8_1 e15 hN cx hp g_i dX8_execute_21 ?_
        rcases fe hf with ⟨e_n, hf⟩ | ⟨b3, e_n, hf⟩
        · rw [e_n]
          refine W.eq (g2 := F0 m 22 ls [.null]) rfl ?_
          refine lv_astoreN (lv' := [(4, .null), (0, .ref (adr E 15 0)), (1, .ref (adr E o 0)), (2, .ref (adr E 17 0)), (3, .int x3)]) hx hb dX8_execute_22 hl (by decide) rfl (fun ls hl => ?_)
          refine lv_aloadN hx hb dX8_execute_24 (lv_at hl 0 rfl) ?_
          refine lv_ifnullN (tgt := 50) hx hb dX8_execute_26 (by decide) ?_
          refine lv_iload_n hx hb dX8_execute_50 rfl (lv_at hl 4 rfl) ?_
          cases hf
          exact r_i cx hp ⟨rfl, eM, e17, fr⟩ dX8_execute_51
        · rw [e_n]
          refine W.eq (g2 := F0 m 22 ls [.ref (eV E b3)]) rfl ?_
          refine lv_astore (lv' := [(4, .ref (eV E b3)), (0, .ref (adr E 15 0)), (1, .ref (adr E o 0)), (2, .ref (adr E 17 0)), (3, .int x3)]) hx hb dX8_execute_22 hl (by decide) rfl (fun ls hl => ?_)
          refine lv_aload hx hb dX8_execute_24 (lv_at hl 0 rfl) ?_
          refine lv_ifnull hx hb dX8_execute_26 ?_
          refine lv_aload_n hx hb dX8_execute_29 rfl (lv_at hl 2 rfl) ?_
          refine lv_aload hx hb dX8_execute_30 (lv_at hl 0 rfl) ?_
          refine lv_aload_n hx hb dX8_execute_32 rfl (lv_at hl 1 rfl) ?_
          refine gF_X8_17 rfl hN cx hp dX8_execute_33 ?_
          refine lv_iload_n hx hb dX8_execute_36 rfl (lv_at hl 4 rfl) ?_
          obtain ⟨g_i, hf⟩ := fg hf
          refine lA_X8_2 e15 hN cx hp g_i dX8_execute_37 ?_
          refine lv_aload_n hx hb dX8_execute_38 rfl (lv_at hl 1 rfl) ?_
          refine gF_X8_21 rfl hN cx hp dX8_execute_39 ?_
          refine lv_iload_n hx hb dX8_execute_42 rfl (lv_at hl 4 rfl) ?_
          obtain ⟨g_i, hf⟩ := fg hf
          refine lA_X8_3 e15 hN cx hp g_i dX8_execute_43 ?_
          obtain ⟨r4, hc, hf⟩ := fb hf
          refine x_i hp (y_S (As := [.ref (adr E o 0), .ref (eV E b3), .int (ς.1 2 (Int32.toNatClampNeg x3)), .int (ς.1 3 (Int32.toNatClampNeg x3))]) (rest := []) cx hp hl (c_X8_isPossible l hN hT ho eM hc) (cw_X8_93 cx (mc := 0) (ms := 0) rfl rfl ⟨by decide, by decide⟩) rfl rfl (Nat.le_of_ble_eq_true rfl) dX8_execute_44 ⟨Nat.zero_le _, Nat.zero_le _⟩) (fun r_c u_c H locs hq hp => ?_)
          obtain ⟨rfl, rfl⟩ := hq
          refine lv_if_ne (tgt := 52) hx hb dX8_execute_47 (by decide) (fun c5 => ?_) (fun c5 => ?_)
          · have hf := fn hf c5
            refine lv_aload_n hx hb dX8_execute_52 rfl (lv_at hl 2 rfl) ?_
            refine lv_aload_n hx hb dX8_execute_53 rfl (lv_at hl 3 rfl) ?_
            refine lv_aload hx hb dX8_execute_54 (lv_at hl 0 rfl) ?_
            refine lv_aload_n hx hb dX8_execute_56 rfl (lv_at hl 1 rfl) ?_
            refine gF_X8_17 rfl hN cx hp dX8_execute_57 ?_
            refine lv_iload_n hx hb dX8_execute_60 rfl (lv_at hl 4 rfl) ?_
            obtain ⟨g_i, hf⟩ := fg hf
            refine lA_X8_2 e15 hN cx hp g_i dX8_execute_61 ?_
            refine lv_aload_n hx hb dX8_execute_62 rfl (lv_at hl 1 rfl) ?_
            refine gF_X8_21 rfl hN cx hp dX8_execute_63 ?_
            refine lv_iload_n hx hb dX8_execute_66 rfl (lv_at hl 4 rfl) ?_
            obtain ⟨g_i, hf⟩ := fg hf
            refine lA_X8_3 e15 hN cx hp g_i dX8_execute_67 ?_
            obtain ⟨μ6, α7, hc, hf⟩ := fb2 hf
            refine x_v hp (y_S (As := [.ref (adr E o 0), .ref (adr E 17 0), .ref (eV E b3), .int (ς.1 2 (Int32.toNatClampNeg x3)), .int (ς.1 3 (Int32.toNatClampNeg x3))]) (rest := []) cx hp hl (c_X8_perform l hN hT ho eM e17 hc) (cw_X8_97 cx (mc := 0) (ms := 0) rfl rfl ⟨by decide, by decide⟩) rfl rfl (Nat.le_of_ble_eq_true rfl) dX8_execute_68 ⟨Nat.zero_le _, Nat.zero_le _⟩) (fun u_c H locs hq hp => ?_)
            obtain ⟨e_0, e_1, n_u⟩ := hq
            have eM := e_0
            have e17 := e_1
            have e15 := (n_u _ d_15_M d_15_17).trans e15
            have fr : ∀ q, q ≠ o → q ≠ 17 → u_c q = σ q := fun q h0 h1 => (n_u q h0 h1).trans (fr q h0 h1)
            obtain ⟨u, rfl⟩ : ∃ z, u_c = z := ⟨_, rfl⟩
            refine lv_iinc (v := (x3 + 1)) (lv' := [(3, .int (x3 + 1)), (4, .ref (eV E b3)), (0, .ref (adr E 15 0)), (1, .ref (adr E o 0)), (2, .ref (adr E 17 0))]) hx hb dX8_execute_71 hl (k := 4) rfl rfl (by decide) rfl (fun ls hl => ?_)
            refine lv_goto (tgt := 2) hx hb dX8_execute_74 (by decide) ?_
            exact ih  hf eM e15 e17 fr hp (lv_sub hl [2, 3, 4, 0] rfl)
          · have hf := fp hf c5
            refine lv_iload_n hx hb dX8_execute_50 rfl (lv_at hl 4 rfl) ?_
            cases hf
            exact r_i cx hp ⟨rfl, eM, e17, fr⟩ dX8_execute_51
set_option maxRecDepth 100000 in
set_option maxHeartbeats 4000000 in
theorem c_X8_execute (l : Launch) {E : Ev} (hN : 129 ≤ eN E) (hT : St E) {σ : SM} {o : Nat} {μ : OM} (ho : o < 11) (eM : σ o = μ) {ς : OM} (e15 : σ 15 = ς) {α : OM} (e17 : σ 17 = α)  {rv : Int32} {μ' : OM} {α' : OM} (hf : f_X8_execute μ ς α = some (rv, μ', α')) : Met l yX8_execute (wC yX8_execute cX8_execute 5 (some .int)) rm_X8_execute (va_Pc [.ref (adr E 15 0), .ref (adr E o 0), .ref (adr E 17 0)] (Wu E σ)) (va_Qi (fun r u => rv = r ∧ u o = μ' ∧ u 17 = α' ∧ ∀ q, q ≠ o → q ≠ 17 → u q = σ q) (fun u t => Wu E u t) (eA E)) 0 0 (eA E) := by
  refine g_entry (lv := [(0, .ref (adr E 15 0)), (1, .ref (adr E o 0)), (2, .ref (adr E 17 0))]) (by decide) (Nat.le_of_ble_eq_true rfl) rfl ?_
  intro p e s m below meth c cx hp ls hl
  have hx := cx.1.1
  have hb := cx.1.2.1
  have fr : ∀ q, q ≠ o → q ≠ 17 → σ q = σ q := fun _ _ _ => rfl
  have d_M_17 : (o : Nat) ≠ 17 := by omega
  have d_15_M : (15 : Nat) ≠ o := by omega
  have d_15_17 : (15 : Nat) ≠ 17 := by decide
  have d_17_M : (17 : Nat) ≠ o := by omega
  unfold f_X8_execute at hf
  refine lv_iconst (v := 0) hx hb dX8_execute_0 (by decide) ?_
  refine lv_istore_n (lv' := [(3, .int 0), (0, .ref (adr E 15 0)), (1, .ref (adr E o 0)), (2, .ref (adr E 17 0))]) hx hb dX8_execute_1 rfl hl (by decide) rfl (fun ls hl => ?_)
  exact L_X8_execute_2 l hN hT cx ho _ hf eM e15 e17 fr hp (lv_sub hl [1, 2, 3, 0] rfl)
abbrev rm_X9_takeNewName : Room := { frames := 3, cells := 0, slots := 0, locals := 62 }
set_option maxRecDepth 100000 in
set_option maxHeartbeats 4000000 in
theorem c_X9_takeNewName (l : Launch) {E : Ev} (hN : 129 ≤ eN E) (hT : St E) {σ : SM} {π : OM} (e11 : σ 11 = π) {τ : OM} (e12 : σ 12 = τ) {β : OM} (e13 : σ 13 = β) {p1 : Int32} {rv : Int32} {π' : OM} {τ' : OM} (hf : f_X9_takeNewName p1 π τ β = some (rv, π', τ')) : Met l yX9_takeNewName (wC yX9_takeNewName cX9_takeNewName 2 (some .boolean)) rm_X9_takeNewName (va_Pc [.ref (adr E 11 0), .int p1] (Wu E σ)) (va_Qi (fun r u => rv = r ∧ u 11 = π' ∧ u 12 = τ' ∧ ∀ q, q ≠ 11 → q ≠ 12 → u q = σ q) (fun u t => Wu E u t) (eA E)) 0 0 (eA E) := by
  refine g_entry (lv := [(0, .ref (adr E 11 0)), (1, .int p1)]) (by decide) (Nat.le_of_ble_eq_true rfl) rfl ?_
  intro p e s m below meth c cx hp ls hl
  have hx := cx.1.1
  have hb := cx.1.2.1
  have fr : ∀ q, q ≠ 11 → q ≠ 12 → σ q = σ q := fun _ _ _ => rfl
  have d_11_12 : (11 : Nat) ≠ 12 := by decide
  have d_12_11 : (12 : Nat) ≠ 11 := by decide
  have d_13_11 : (13 : Nat) ≠ 11 := by decide
  have d_13_12 : (13 : Nat) ≠ 12 := by decide
  unfold f_X9_takeNewName at hf
  refine lv_aload_n hx hb dX9_takeNewName_0 rfl (lv_at hl 0 rfl) ?_
  refine gF_X9_38 rfl hN cx hp dX9_takeNewName_1 ?_
  refine gF_X9_78 e12 hN cx hp dX9_takeNewName_4 ?_
  refine lv_iconst (v := 1) hx hb dX9_takeNewName_7 (by decide) ?_
  refine lv_icmp_eq (tgt := 17) hx hb dX9_takeNewName_8 (by decide) (fun c1 => ?_) (fun c1 => ?_)
  · have hf := fp hf c1
    refine lv_iload_n hx hb dX9_takeNewName_17 rfl (lv_at hl 1 rfl) ?_
    refine lv_if_ne (tgt := 33) hx hb dX9_takeNewName_18 (by decide) (fun c2 => ?_) (fun c2 => ?_)
    · have hf := fn hf c2
      refine lv_aload_n hx hb dX9_takeNewName_33 rfl (lv_at hl 0 rfl) ?_
      refine lv_iconst (v := 3) hx hb dX9_takeNewName_34 (by decide) ?_
      obtain ⟨r3, π4, hc, hf⟩ := fb2 hf
      refine x_i hp (y_V (As := [.int 3]) (rest := []) cx hp hl (c_X7_fail l hN hT e11 e12 hc) (cw_X9_52 cx (mc := 0) (ms := 0) rfl rfl ⟨by decide, by decide⟩) (rC_X7 hN cx hp) rfl rfl (Nat.le_of_ble_eq_true rfl) dX9_takeNewName_35 ⟨Nat.zero_le _, Nat.zero_le _⟩) (fun r_c u_c H locs hq hp => ?_)
      obtain ⟨rfl, e_0, n_u⟩ := hq
      have e11 := e_0
      have e12 := (n_u _ d_12_11).trans e12
      have e13 := (n_u _ d_13_11).trans e13
      have fr : ∀ q, q ≠ 11 → q ≠ 12 → u_c q = σ q := fun q h0 h1 => (n_u q h0).trans (fr q h0 h1)
      obtain ⟨u, rfl⟩ : ∃ z, u_c = z := ⟨_, rfl⟩
      obtain ⟨g_z, hf⟩ := fg hf
      cases hf
      exact r_z cx hp (bz_n g_z) ⟨rfl, e11, e12, fr⟩ dX9_takeNewName_38
    · have hf := fp hf c2
      refine lv_aload_n hx hb dX9_takeNewName_21 rfl (lv_at hl 0 rfl) ?_
      refine gF_X9_38 rfl hN cx hp dX9_takeNewName_22 ?_
      refine gF_X9_56 e12 hN cx hp dX9_takeNewName_25 ?_
      refine lv_lconst (v := 0) hx hb dX9_takeNewName_28 (by decide) ?_
      refine W.lcmp hx hb dX9_takeNewName_29 ?_
      refine lv_if_ne (tgt := 39) hx hb dX9_takeNewName_30 (by decide) (fun c5 => ?_) (fun c5 => ?_)
      · have hf := fn hf c5
        refine lv_aload_n hx hb dX9_takeNewName_39 rfl (lv_at hl 0 rfl) ?_
        refine gF_X9_38 rfl hN cx hp dX9_takeNewName_40 ?_
        obtain ⟨τ6, hc, hf⟩ := fb hf
        refine x_v hp (y_V (As := []) (rest := []) cx hp hl (c_X10_next l hN hT e12 e13 hc) (cw_X9_82 cx (mc := 0) (ms := 0) rfl rfl ⟨by decide, by decide⟩) (rC_X10 hN cx hp) rfl rfl (Nat.le_of_ble_eq_true rfl) dX9_takeNewName_43 ⟨Nat.zero_le _, Nat.zero_le _⟩) (fun u_c H locs hq hp => ?_)
        obtain ⟨e_0, n_u⟩ := hq
        have e12 := e_0
        have e11 := (n_u _ d_11_12).trans e11
        have e13 := (n_u _ d_13_12).trans e13
        have fr : ∀ q, q ≠ 11 → q ≠ 12 → u_c q = σ q := fun q h0 h1 => (n_u q h1).trans (fr q h0 h1)
        obtain ⟨u, rfl⟩ : ∃ z, u_c = z := ⟨_, rfl⟩
        refine lv_iconst (v := 1) hx hb dX9_takeNewName_46 (by decide) ?_
        cases hf
        exact r_z cx hp rfl ⟨rfl, e11, e12, fr⟩ dX9_takeNewName_47
      · have hf := fp hf c5
        refine lv_aload_n hx hb dX9_takeNewName_33 rfl (lv_at hl 0 rfl) ?_
        refine lv_iconst (v := 3) hx hb dX9_takeNewName_34 (by decide) ?_
        obtain ⟨r7, π8, hc, hf⟩ := fb2 hf
        refine x_i hp (y_V (As := [.int 3]) (rest := []) cx hp hl (c_X7_fail l hN hT e11 e12 hc) (cw_X9_52 cx (mc := 0) (ms := 0) rfl rfl ⟨by decide, by decide⟩) (rC_X7 hN cx hp) rfl rfl (Nat.le_of_ble_eq_true rfl) dX9_takeNewName_35 ⟨Nat.zero_le _, Nat.zero_le _⟩) (fun r_c u_c H locs hq hp => ?_)
        obtain ⟨rfl, e_0, n_u⟩ := hq
        have e11 := e_0
        have e12 := (n_u _ d_12_11).trans e12
        have e13 := (n_u _ d_13_11).trans e13
        have fr : ∀ q, q ≠ 11 → q ≠ 12 → u_c q = σ q := fun q h0 h1 => (n_u q h0).trans (fr q h0 h1)
        obtain ⟨u, rfl⟩ : ∃ z, u_c = z := ⟨_, rfl⟩
        obtain ⟨g_z, hf⟩ := fg hf
        cases hf
        exact r_z cx hp (bz_n g_z) ⟨rfl, e11, e12, fr⟩ dX9_takeNewName_38
  · have hf := fn hf c1
    refine lv_aload_n hx hb dX9_takeNewName_11 rfl (lv_at hl 0 rfl) ?_
    refine lv_iconst (v := 1) hx hb dX9_takeNewName_12 (by decide) ?_
    obtain ⟨r9, π10, hc, hf⟩ := fb2 hf
    refine x_i hp (y_V (As := [.int 1]) (rest := []) cx hp hl (c_X7_fail l hN hT e11 e12 hc) (cw_X9_52 cx (mc := 0) (ms := 0) rfl rfl ⟨by decide, by decide⟩) (rC_X7 hN cx hp) rfl rfl (Nat.le_of_ble_eq_true rfl) dX9_takeNewName_13 ⟨Nat.zero_le _, Nat.zero_le _⟩) (fun r_c u_c H locs hq hp => ?_)
    obtain ⟨rfl, e_0, n_u⟩ := hq
    have e11 := e_0
    have e12 := (n_u _ d_12_11).trans e12
    have e13 := (n_u _ d_13_11).trans e13
    have fr : ∀ q, q ≠ 11 → q ≠ 12 → u_c q = σ q := fun q h0 h1 => (n_u q h0).trans (fr q h0 h1)
    obtain ⟨u, rfl⟩ : ∃ z, u_c = z := ⟨_, rfl⟩
    obtain ⟨g_z, hf⟩ := fg hf
    cases hf
    exact r_z cx hp (bz_n g_z) ⟨rfl, e11, e12, fr⟩ dX9_takeNewName_16
abbrev rm_X9_readStall : Room := { frames := 6, cells := 0, slots := 0, locals := 128 }
set_option maxRecDepth 100000 in
set_option maxHeartbeats 4000000 in
theorem c_X9_readStall (l : Launch) {E : Ev} (hN : 129 ≤ eN E) (hT : St E) {σ : SM} {o : Nat} {μ : OM} (ho : o < 11) (eM : σ o = μ) {π : OM} (e11 : σ 11 = π) {τ : OM} (e12 : σ 12 = τ) {β : OM} (e13 : σ 13 = β)  {rv : Int32} {μ' : OM} {π' : OM} {τ' : OM} (hf : f_X9_readStall μ π τ β = some (rv, μ', π', τ')) : Met l yX9_readStall (wC yX9_readStall cX9_readStall 6 (some .boolean)) rm_X9_readStall (va_Pc [.ref (adr E 11 0), .ref (adr E o 0)] (Wu E σ)) (va_Qi (fun r u => rv = r ∧ u o = μ' ∧ u 11 = π' ∧ u 12 = τ' ∧ ∀ q, q ≠ o → q ≠ 11 → q ≠ 12 → u q = σ q) (fun u t => Wu E u t) (eA E)) 0 0 (eA E) := by
  refine g_entry (lv := [(0, .ref (adr E 11 0)), (1, .ref (adr E o 0))]) (by decide) (Nat.le_of_ble_eq_true rfl) rfl ?_
  intro p e s m below meth c cx hp ls hl
  have hx := cx.1.1
  have hb := cx.1.2.1
  have fr : ∀ q, q ≠ o → q ≠ 11 → q ≠ 12 → σ q = σ q := fun _ _ _ _ => rfl
  have d_M_11 : (o : Nat) ≠ 11 := by omega
  have d_M_12 : (o : Nat) ≠ 12 := by omega
  have d_11_M : (11 : Nat) ≠ o := by omega
  have d_11_12 : (11 : Nat) ≠ 12 := by decide
  have d_12_M : (12 : Nat) ≠ o := by omega
  have d_12_11 : (12 : Nat) ≠ 11 := by decide
  have d_13_M : (13 : Nat) ≠ o := by omega
  have d_13_11 : (13 : Nat) ≠ 11 := by decide
  have d_13_12 : (13 : Nat) ≠ 12 := by decide
  unfold f_X9_readStall at hf
  refine lv_aload_n hx hb dX9_readStall_0 rfl (lv_at hl 0 rfl) ?_
  refine va_ldcS hx hb cx.1.2.2.2.1 (cx.2.2.1.2.2.2.1 2 _ rfl) dX9_readStall_1 ?_
  obtain ⟨r1, π2, τ3, hc, hf⟩ := fb3 hf
  refine x_i hp (y_V (As := [.ref (eK E 2)]) (rest := []) cx hp hl (c_X7_takeWord l hN hT e11 e12 e13 hc) (cw_X9_21 cx (mc := 0) (ms := 0) rfl rfl ⟨by decide, by decide⟩) (rC_X7 hN cx hp) rfl rfl (Nat.le_of_ble_eq_true rfl) dX9_readStall_3 ⟨Nat.zero_le _, Nat.zero_le _⟩) (fun r_c u_c H locs hq hp => ?_)
  obtain ⟨rfl, e_0, e_1, n_u⟩ := hq
  have e11 := e_0
  have e12 := e_1
  have eM := (n_u _ d_M_11 d_M_12).trans eM
  have e13 := (n_u _ d_13_11 d_13_12).trans e13
  have fr : ∀ q, q ≠ o → q ≠ 11 → q ≠ 12 → u_c q = σ q := fun q h0 h1 h2 => (n_u q h1 h2).trans (fr q h0 h1 h2)
  obtain ⟨u, rfl⟩ : ∃ z, u_c = z := ⟨_, rfl⟩
  refine lv_if_ne (tgt := 11) hx hb dX9_readStall_6 (by decide) (fun c4 => ?_) (fun c4 => ?_)
  · have hf := fn hf c4
    refine lv_aload_n hx hb dX9_readStall_11 rfl (lv_at hl 0 rfl) ?_
    refine gF_X9_38 rfl hN cx hp dX9_readStall_12 ?_
    refine gF_X9_56 e12 hN cx hp dX9_readStall_15 ?_
    obtain ⟨i5, x_e, hf⟩ := fl hf
    refine lv_nml x_e ?_
    refine lv_lstore_n (lv' := [(2, .long i5), (0, .ref (adr E 11 0)), (1, .ref (adr E o 0))]) hx hb dX9_readStall_18 rfl hl (by decide) rfl (fun ls hl => ?_)
    refine lv_aload_n hx hb dX9_readStall_19 rfl (lv_at hl 1 rfl) ?_
    refine gF_X9_38 rfl hN cx hp dX9_readStall_20 ?_
    refine va_ldcS hx hb cx.1.2.2.2.1 (cx.2.2.1.2.2.2.1 3 _ rfl) dX9_readStall_23 ?_
    obtain ⟨r6, hc, hf⟩ := fb hf
    refine x_i hp (y_V (As := [.ref (eK E 3)]) (rest := []) cx hp hl (c_X10_isWord l hN hT e12 e13 hc) (cw_X9_44 cx (mc := 0) (ms := 0) rfl rfl ⟨by decide, by decide⟩) (rC_X10 hN cx hp) rfl rfl (Nat.le_of_ble_eq_true rfl) dX9_readStall_25 ⟨Nat.zero_le _, Nat.zero_le _⟩) (fun r_c u_c H locs hq hp => ?_)
    obtain ⟨rfl, rfl⟩ := hq
    refine lv_if_ne (tgt := 40) hx hb dX9_readStall_28 (by decide) (fun c7 => ?_) (fun c7 => ?_)
    · have hf := fn hf c7
      refine lv_iconst (v := 1) hx hb dX9_readStall_40 (by decide) ?_
      refine lv_goto (tgt := 45) hx hb dX9_readStall_41 (by decide) ?_
      refine lv_istore (lv' := [(4, .int 1), (2, .long i5), (0, .ref (adr E 11 0)), (1, .ref (adr E o 0))]) hx hb dX9_readStall_45 hl (by decide) rfl (fun ls hl => ?_)
      refine lv_aload_n hx hb dX9_readStall_47 rfl (lv_at hl 2 rfl) ?_
      refine lv_iload hx hb dX9_readStall_48 (lv_at hl 0 rfl) ?_
      obtain ⟨r8, π9, τ10, hc, hf⟩ := fb3 hf
      refine x_i hp (y_S (As := [.ref (adr E 11 0), .int 1]) (rest := []) cx hp hl (c_X9_takeNewName l hN hT e11 e12 e13 hc) (cw_X9_66 cx (mc := 0) (ms := 0) rfl rfl ⟨by decide, by decide⟩) rfl rfl (Nat.le_of_ble_eq_true rfl) dX9_readStall_50 ⟨Nat.zero_le _, Nat.zero_le _⟩) (fun r_c u_c H locs hq hp => ?_)
      obtain ⟨rfl, e_0, e_1, n_u⟩ := hq
      have e11 := e_0
      have e12 := e_1
      have eM := (n_u _ d_M_11 d_M_12).trans eM
      have e13 := (n_u _ d_13_11 d_13_12).trans e13
      have fr : ∀ q, q ≠ o → q ≠ 11 → q ≠ 12 → u_c q = σ q := fun q h0 h1 h2 => (n_u q h1 h2).trans (fr q h0 h1 h2)
      obtain ⟨u, rfl⟩ : ∃ z, u_c = z := ⟨_, rfl⟩
      refine lv_if_ne (tgt := 58) hx hb dX9_readStall_53 (by decide) (fun c11 => ?_) (fun c11 => ?_)
      · have hf := fn hf c11
        refine lv_aload_n hx hb dX9_readStall_58 rfl (lv_at hl 2 rfl) ?_
        refine lv_iconst (v := 0) hx hb dX9_readStall_59 (by decide) ?_
        refine lv_bipush (v := 99) hx hb dX9_readStall_60 (by decide) ?_
        obtain ⟨r12, π13, τ14, hc, hf⟩ := fb3 hf
        refine x_i hp (y_V (As := [.int 0, .int 99]) (rest := []) cx hp hl (c_X7_takeNumber l hN hT e11 e12 e13 hc) (cw_X9_70 cx (mc := 0) (ms := 0) rfl rfl ⟨by decide, by decide⟩) (rC_X7 hN cx hp) rfl rfl (Nat.le_of_ble_eq_true rfl) dX9_readStall_62 ⟨Nat.zero_le _, Nat.zero_le _⟩) (fun r_c u_c H locs hq hp => ?_)
        obtain ⟨rfl, e_0, e_1, n_u⟩ := hq
        have e11 := e_0
        have e12 := e_1
        have eM := (n_u _ d_M_11 d_M_12).trans eM
        have e13 := (n_u _ d_13_11 d_13_12).trans e13
        have fr : ∀ q, q ≠ o → q ≠ 11 → q ≠ 12 → u_c q = σ q := fun q h0 h1 h2 => (n_u q h1 h2).trans (fr q h0 h1 h2)
        obtain ⟨u, rfl⟩ : ∃ z, u_c = z := ⟨_, rfl⟩
        refine lv_istore (lv' := [(5, .int r12), (4, .int 1), (2, .long i5), (0, .ref (adr E 11 0)), (1, .ref (adr E o 0))]) hx hb dX9_readStall_65 hl (by decide) rfl (fun ls hl => ?_)
        refine lv_iload hx hb dX9_readStall_67 (lv_at hl 0 rfl) ?_
        refine lv_iconst (v := (-1)) hx hb dX9_readStall_69 (by decide) ?_
        refine lv_icmp_ne (tgt := 75) hx hb dX9_readStall_70 (by decide) (fun c15 => ?_) (fun c15 => ?_)
        · have hf := fn hf c15
          refine lv_aload_n hx hb dX9_readStall_75 rfl (lv_at hl 4 rfl) ?_
          refine lv_lload_n hx hb dX9_readStall_76 rfl (lv_at hl 2 rfl) ?_
          refine lv_iload hx hb dX9_readStall_77 (lv_at hl 0 rfl) ?_
          obtain ⟨μ16, hc, hf⟩ := fb hf
          refine x_v hp (y_V (As := [.long i5, .int r12]) (rest := []) cx hp hl (c_X5_addStall l hN hT ho eM hc) (cw_X9_74 cx (mc := 0) (ms := 0) rfl rfl ⟨by decide, by decide⟩) (rC_X5 ho hN cx hp) rfl rfl (Nat.le_of_ble_eq_true rfl) dX9_readStall_79 ⟨Nat.zero_le _, Nat.zero_le _⟩) (fun u_c H locs hq hp => ?_)
          obtain ⟨e_0, n_u⟩ := hq
          have eM := e_0
          have e11 := (n_u _ d_11_M).trans e11
          have e12 := (n_u _ d_12_M).trans e12
          have e13 := (n_u _ d_13_M).trans e13
          have fr : ∀ q, q ≠ o → q ≠ 11 → q ≠ 12 → u_c q = σ q := fun q h0 h1 h2 => (n_u q h0).trans (fr q h0 h1 h2)
          obtain ⟨u, rfl⟩ : ∃ z, u_c = z := ⟨_, rfl⟩
          refine lv_aload_n hx hb dX9_readStall_82 rfl (lv_at hl 3 rfl) ?_
          obtain ⟨r17, π18, τ19, hc, hf⟩ := fb3 hf
          refine x_i hp (y_V (As := []) (rest := []) cx hp hl (c_X7_takeSemicolon l hN hT e11 e12 e13 hc) (cw_X9_25 cx (mc := 0) (ms := 0) rfl rfl ⟨by decide, by decide⟩) (rC_X7 hN cx hp) rfl rfl (Nat.le_of_ble_eq_true rfl) dX9_readStall_83 ⟨Nat.zero_le _, Nat.zero_le _⟩) (fun r_c u_c H locs hq hp => ?_)
          obtain ⟨rfl, e_0, e_1, n_u⟩ := hq
          have e11 := e_0
          have e12 := e_1
          have eM := (n_u _ d_M_11 d_M_12).trans eM
          have e13 := (n_u _ d_13_11 d_13_12).trans e13
          have fr : ∀ q, q ≠ o → q ≠ 11 → q ≠ 12 → u_c q = σ q := fun q h0 h1 h2 => (n_u q h1 h2).trans (fr q h0 h1 h2)
          obtain ⟨u, rfl⟩ : ∃ z, u_c = z := ⟨_, rfl⟩
          obtain ⟨g_z, hf⟩ := fg hf
          cases hf
          exact r_z cx hp (bz_n g_z) ⟨rfl, eM, e11, e12, fr⟩ dX9_readStall_86
        · have hf := fp hf c15
          refine lv_iconst (v := 0) hx hb dX9_readStall_73 (by decide) ?_
          cases hf
          exact r_z cx hp rfl ⟨rfl, eM, e11, e12, fr⟩ dX9_readStall_74
      · have hf := fp hf c11
        refine lv_iconst (v := 0) hx hb dX9_readStall_56 (by decide) ?_
        cases hf
        exact r_z cx hp rfl ⟨rfl, eM, e11, e12, fr⟩ dX9_readStall_57
    · have hf := fp hf c7
      refine lv_aload_n hx hb dX9_readStall_31 rfl (lv_at hl 2 rfl) ?_
      refine lv_lload_n hx hb dX9_readStall_32 rfl (lv_at hl 0 rfl) ?_
      obtain ⟨r20, hc, hf⟩ := fb hf
      refine x_i hp (y_V (As := [.long i5]) (rest := []) cx hp hl (c_X5_stallCalled l hN hT ho eM hc) (cw_X9_62 cx (mc := 0) (ms := 0) rfl rfl ⟨by decide, by decide⟩) (rC_X5 ho hN cx hp) rfl rfl (Nat.le_of_ble_eq_true rfl) dX9_readStall_33 ⟨Nat.zero_le _, Nat.zero_le _⟩) (fun r_c u_c H locs hq hp => ?_)
      obtain ⟨rfl, rfl⟩ := hq
      refine lv_iconst (v := (-1)) hx hb dX9_readStall_36 (by decide) ?_
      refine lv_icmp_eq (tgt := 44) hx hb dX9_readStall_37 (by decide) (fun c21 => ?_) (fun c21 => ?_)
      · have hf := fp hf c21
        refine lv_iconst (v := 0) hx hb dX9_readStall_44 (by decide) ?_
        refine lv_istore (lv' := [(4, .int 0), (2, .long i5), (0, .ref (adr E 11 0)), (1, .ref (adr E o 0))]) hx hb dX9_readStall_45 hl (by decide) rfl (fun ls hl => ?_)
        refine lv_aload_n hx hb dX9_readStall_47 rfl (lv_at hl 2 rfl) ?_
        refine lv_iload hx hb dX9_readStall_48 (lv_at hl 0 rfl) ?_
        obtain ⟨r22, π23, τ24, hc, hf⟩ := fb3 hf
        refine x_i hp (y_S (As := [.ref (adr E 11 0), .int 0]) (rest := []) cx hp hl (c_X9_takeNewName l hN hT e11 e12 e13 hc) (cw_X9_66 cx (mc := 0) (ms := 0) rfl rfl ⟨by decide, by decide⟩) rfl rfl (Nat.le_of_ble_eq_true rfl) dX9_readStall_50 ⟨Nat.zero_le _, Nat.zero_le _⟩) (fun r_c u_c H locs hq hp => ?_)
        obtain ⟨rfl, e_0, e_1, n_u⟩ := hq
        have e11 := e_0
        have e12 := e_1
        have eM := (n_u _ d_M_11 d_M_12).trans eM
        have e13 := (n_u _ d_13_11 d_13_12).trans e13
        have fr : ∀ q, q ≠ o → q ≠ 11 → q ≠ 12 → u_c q = σ q := fun q h0 h1 h2 => (n_u q h1 h2).trans (fr q h0 h1 h2)
        obtain ⟨u, rfl⟩ : ∃ z, u_c = z := ⟨_, rfl⟩
        refine lv_if_ne (tgt := 58) hx hb dX9_readStall_53 (by decide) (fun c25 => ?_) (fun c25 => ?_)
        · have hf := fn hf c25
          refine lv_aload_n hx hb dX9_readStall_58 rfl (lv_at hl 2 rfl) ?_
          refine lv_iconst (v := 0) hx hb dX9_readStall_59 (by decide) ?_
          refine lv_bipush (v := 99) hx hb dX9_readStall_60 (by decide) ?_
          obtain ⟨r26, π27, τ28, hc, hf⟩ := fb3 hf
          refine x_i hp (y_V (As := [.int 0, .int 99]) (rest := []) cx hp hl (c_X7_takeNumber l hN hT e11 e12 e13 hc) (cw_X9_70 cx (mc := 0) (ms := 0) rfl rfl ⟨by decide, by decide⟩) (rC_X7 hN cx hp) rfl rfl (Nat.le_of_ble_eq_true rfl) dX9_readStall_62 ⟨Nat.zero_le _, Nat.zero_le _⟩) (fun r_c u_c H locs hq hp => ?_)
          obtain ⟨rfl, e_0, e_1, n_u⟩ := hq
          have e11 := e_0
          have e12 := e_1
          have eM := (n_u _ d_M_11 d_M_12).trans eM
          have e13 := (n_u _ d_13_11 d_13_12).trans e13
          have fr : ∀ q, q ≠ o → q ≠ 11 → q ≠ 12 → u_c q = σ q := fun q h0 h1 h2 => (n_u q h1 h2).trans (fr q h0 h1 h2)
          obtain ⟨u, rfl⟩ : ∃ z, u_c = z := ⟨_, rfl⟩
          refine lv_istore (lv' := [(5, .int r26), (4, .int 0), (2, .long i5), (0, .ref (adr E 11 0)), (1, .ref (adr E o 0))]) hx hb dX9_readStall_65 hl (by decide) rfl (fun ls hl => ?_)
          refine lv_iload hx hb dX9_readStall_67 (lv_at hl 0 rfl) ?_
          refine lv_iconst (v := (-1)) hx hb dX9_readStall_69 (by decide) ?_
          refine lv_icmp_ne (tgt := 75) hx hb dX9_readStall_70 (by decide) (fun c29 => ?_) (fun c29 => ?_)
          · have hf := fn hf c29
            refine lv_aload_n hx hb dX9_readStall_75 rfl (lv_at hl 4 rfl) ?_
            refine lv_lload_n hx hb dX9_readStall_76 rfl (lv_at hl 2 rfl) ?_
            refine lv_iload hx hb dX9_readStall_77 (lv_at hl 0 rfl) ?_
            obtain ⟨μ30, hc, hf⟩ := fb hf
            refine x_v hp (y_V (As := [.long i5, .int r26]) (rest := []) cx hp hl (c_X5_addStall l hN hT ho eM hc) (cw_X9_74 cx (mc := 0) (ms := 0) rfl rfl ⟨by decide, by decide⟩) (rC_X5 ho hN cx hp) rfl rfl (Nat.le_of_ble_eq_true rfl) dX9_readStall_79 ⟨Nat.zero_le _, Nat.zero_le _⟩) (fun u_c H locs hq hp => ?_)
            obtain ⟨e_0, n_u⟩ := hq
            have eM := e_0
            have e11 := (n_u _ d_11_M).trans e11
            have e12 := (n_u _ d_12_M).trans e12
            have e13 := (n_u _ d_13_M).trans e13
            have fr : ∀ q, q ≠ o → q ≠ 11 → q ≠ 12 → u_c q = σ q := fun q h0 h1 h2 => (n_u q h0).trans (fr q h0 h1 h2)
            obtain ⟨u, rfl⟩ : ∃ z, u_c = z := ⟨_, rfl⟩
            refine lv_aload_n hx hb dX9_readStall_82 rfl (lv_at hl 3 rfl) ?_
            obtain ⟨r31, π32, τ33, hc, hf⟩ := fb3 hf
            refine x_i hp (y_V (As := []) (rest := []) cx hp hl (c_X7_takeSemicolon l hN hT e11 e12 e13 hc) (cw_X9_25 cx (mc := 0) (ms := 0) rfl rfl ⟨by decide, by decide⟩) (rC_X7 hN cx hp) rfl rfl (Nat.le_of_ble_eq_true rfl) dX9_readStall_83 ⟨Nat.zero_le _, Nat.zero_le _⟩) (fun r_c u_c H locs hq hp => ?_)
            obtain ⟨rfl, e_0, e_1, n_u⟩ := hq
            have e11 := e_0
            have e12 := e_1
            have eM := (n_u _ d_M_11 d_M_12).trans eM
            have e13 := (n_u _ d_13_11 d_13_12).trans e13
            have fr : ∀ q, q ≠ o → q ≠ 11 → q ≠ 12 → u_c q = σ q := fun q h0 h1 h2 => (n_u q h1 h2).trans (fr q h0 h1 h2)
            obtain ⟨u, rfl⟩ : ∃ z, u_c = z := ⟨_, rfl⟩
            obtain ⟨g_z, hf⟩ := fg hf
            cases hf
            exact r_z cx hp (bz_n g_z) ⟨rfl, eM, e11, e12, fr⟩ dX9_readStall_86
          · have hf := fp hf c29
            refine lv_iconst (v := 0) hx hb dX9_readStall_73 (by decide) ?_
            cases hf
            exact r_z cx hp rfl ⟨rfl, eM, e11, e12, fr⟩ dX9_readStall_74
        · have hf := fp hf c25
          refine lv_iconst (v := 0) hx hb dX9_readStall_56 (by decide) ?_
          cases hf
          exact r_z cx hp rfl ⟨rfl, eM, e11, e12, fr⟩ dX9_readStall_57
      · have hf := fn hf c21
        refine lv_iconst (v := 1) hx hb dX9_readStall_40 (by decide) ?_
        refine lv_goto (tgt := 45) hx hb dX9_readStall_41 (by decide) ?_
        refine lv_istore (lv' := [(4, .int 1), (2, .long i5), (0, .ref (adr E 11 0)), (1, .ref (adr E o 0))]) hx hb dX9_readStall_45 hl (by decide) rfl (fun ls hl => ?_)
        refine lv_aload_n hx hb dX9_readStall_47 rfl (lv_at hl 2 rfl) ?_
        refine lv_iload hx hb dX9_readStall_48 (lv_at hl 0 rfl) ?_
        obtain ⟨r34, π35, τ36, hc, hf⟩ := fb3 hf
        refine x_i hp (y_S (As := [.ref (adr E 11 0), .int 1]) (rest := []) cx hp hl (c_X9_takeNewName l hN hT e11 e12 e13 hc) (cw_X9_66 cx (mc := 0) (ms := 0) rfl rfl ⟨by decide, by decide⟩) rfl rfl (Nat.le_of_ble_eq_true rfl) dX9_readStall_50 ⟨Nat.zero_le _, Nat.zero_le _⟩) (fun r_c u_c H locs hq hp => ?_)
        obtain ⟨rfl, e_0, e_1, n_u⟩ := hq
        have e11 := e_0
        have e12 := e_1
        have eM := (n_u _ d_M_11 d_M_12).trans eM
        have e13 := (n_u _ d_13_11 d_13_12).trans e13
        have fr : ∀ q, q ≠ o → q ≠ 11 → q ≠ 12 → u_c q = σ q := fun q h0 h1 h2 => (n_u q h1 h2).trans (fr q h0 h1 h2)
        obtain ⟨u, rfl⟩ : ∃ z, u_c = z := ⟨_, rfl⟩
        refine lv_if_ne (tgt := 58) hx hb dX9_readStall_53 (by decide) (fun c37 => ?_) (fun c37 => ?_)
        · have hf := fn hf c37
          refine lv_aload_n hx hb dX9_readStall_58 rfl (lv_at hl 2 rfl) ?_
          refine lv_iconst (v := 0) hx hb dX9_readStall_59 (by decide) ?_
          refine lv_bipush (v := 99) hx hb dX9_readStall_60 (by decide) ?_
          obtain ⟨r38, π39, τ40, hc, hf⟩ := fb3 hf
          refine x_i hp (y_V (As := [.int 0, .int 99]) (rest := []) cx hp hl (c_X7_takeNumber l hN hT e11 e12 e13 hc) (cw_X9_70 cx (mc := 0) (ms := 0) rfl rfl ⟨by decide, by decide⟩) (rC_X7 hN cx hp) rfl rfl (Nat.le_of_ble_eq_true rfl) dX9_readStall_62 ⟨Nat.zero_le _, Nat.zero_le _⟩) (fun r_c u_c H locs hq hp => ?_)
          obtain ⟨rfl, e_0, e_1, n_u⟩ := hq
          have e11 := e_0
          have e12 := e_1
          have eM := (n_u _ d_M_11 d_M_12).trans eM
          have e13 := (n_u _ d_13_11 d_13_12).trans e13
          have fr : ∀ q, q ≠ o → q ≠ 11 → q ≠ 12 → u_c q = σ q := fun q h0 h1 h2 => (n_u q h1 h2).trans (fr q h0 h1 h2)
          obtain ⟨u, rfl⟩ : ∃ z, u_c = z := ⟨_, rfl⟩
          refine lv_istore (lv' := [(5, .int r38), (4, .int 1), (2, .long i5), (0, .ref (adr E 11 0)), (1, .ref (adr E o 0))]) hx hb dX9_readStall_65 hl (by decide) rfl (fun ls hl => ?_)
          refine lv_iload hx hb dX9_readStall_67 (lv_at hl 0 rfl) ?_
          refine lv_iconst (v := (-1)) hx hb dX9_readStall_69 (by decide) ?_
          refine lv_icmp_ne (tgt := 75) hx hb dX9_readStall_70 (by decide) (fun c41 => ?_) (fun c41 => ?_)
          · have hf := fn hf c41
            refine lv_aload_n hx hb dX9_readStall_75 rfl (lv_at hl 4 rfl) ?_
            refine lv_lload_n hx hb dX9_readStall_76 rfl (lv_at hl 2 rfl) ?_
            refine lv_iload hx hb dX9_readStall_77 (lv_at hl 0 rfl) ?_
            obtain ⟨μ42, hc, hf⟩ := fb hf
            refine x_v hp (y_V (As := [.long i5, .int r38]) (rest := []) cx hp hl (c_X5_addStall l hN hT ho eM hc) (cw_X9_74 cx (mc := 0) (ms := 0) rfl rfl ⟨by decide, by decide⟩) (rC_X5 ho hN cx hp) rfl rfl (Nat.le_of_ble_eq_true rfl) dX9_readStall_79 ⟨Nat.zero_le _, Nat.zero_le _⟩) (fun u_c H locs hq hp => ?_)
            obtain ⟨e_0, n_u⟩ := hq
            have eM := e_0
            have e11 := (n_u _ d_11_M).trans e11
            have e12 := (n_u _ d_12_M).trans e12
            have e13 := (n_u _ d_13_M).trans e13
            have fr : ∀ q, q ≠ o → q ≠ 11 → q ≠ 12 → u_c q = σ q := fun q h0 h1 h2 => (n_u q h0).trans (fr q h0 h1 h2)
            obtain ⟨u, rfl⟩ : ∃ z, u_c = z := ⟨_, rfl⟩
            refine lv_aload_n hx hb dX9_readStall_82 rfl (lv_at hl 3 rfl) ?_
            obtain ⟨r43, π44, τ45, hc, hf⟩ := fb3 hf
            refine x_i hp (y_V (As := []) (rest := []) cx hp hl (c_X7_takeSemicolon l hN hT e11 e12 e13 hc) (cw_X9_25 cx (mc := 0) (ms := 0) rfl rfl ⟨by decide, by decide⟩) (rC_X7 hN cx hp) rfl rfl (Nat.le_of_ble_eq_true rfl) dX9_readStall_83 ⟨Nat.zero_le _, Nat.zero_le _⟩) (fun r_c u_c H locs hq hp => ?_)
            obtain ⟨rfl, e_0, e_1, n_u⟩ := hq
            have e11 := e_0
            have e12 := e_1
            have eM := (n_u _ d_M_11 d_M_12).trans eM
            have e13 := (n_u _ d_13_11 d_13_12).trans e13
            have fr : ∀ q, q ≠ o → q ≠ 11 → q ≠ 12 → u_c q = σ q := fun q h0 h1 h2 => (n_u q h1 h2).trans (fr q h0 h1 h2)
            obtain ⟨u, rfl⟩ : ∃ z, u_c = z := ⟨_, rfl⟩
            obtain ⟨g_z, hf⟩ := fg hf
            cases hf
            exact r_z cx hp (bz_n g_z) ⟨rfl, eM, e11, e12, fr⟩ dX9_readStall_86
          · have hf := fp hf c41
            refine lv_iconst (v := 0) hx hb dX9_readStall_73 (by decide) ?_
            cases hf
            exact r_z cx hp rfl ⟨rfl, eM, e11, e12, fr⟩ dX9_readStall_74
        · have hf := fp hf c37
          refine lv_iconst (v := 0) hx hb dX9_readStall_56 (by decide) ?_
          cases hf
          exact r_z cx hp rfl ⟨rfl, eM, e11, e12, fr⟩ dX9_readStall_57
  · have hf := fp hf c4
    refine lv_iconst (v := 0) hx hb dX9_readStall_9 (by decide) ?_
    cases hf
    exact r_z cx hp rfl ⟨rfl, eM, e11, e12, fr⟩ dX9_readStall_10
abbrev rm_X9_readStalls : Room := { frames := 7, cells := 0, slots := 0, locals := 153 }
set_option maxRecDepth 100000 in
set_option maxHeartbeats 4000000 in
theorem L_X9_readStalls_2 {p : Program} {e : Env} {s : State} {m : MethodId} {args : Array Value} {below : List Frame} {meth : Method} {c : Code} (l : Launch) {E : Ev} (hN : 129 ≤ eN E) (hT : St E) {σ : SM} (cx : Cx E p s m meth c args RX9 cX9_readStalls 3 (some .boolean)) {o : Nat} (ho : o < 11) {β : OM} {rv : Int32} {μ' : OM} {π' : OM} {τ' : OM} : ∀ (n : Nat) {x2 : Int32} {μ : OM} {π : OM} {τ : OM}, f_X9_readStalls_2 β n x2 μ π τ = some (rv, μ', π', τ') → ∀ {u : SM} {H : Heap} {locs : List Loc} {ls : Array Slot}, u o = μ → u 11 = π → u 12 = τ → u 13 = β → (∀ q, q ≠ o → q ≠ 11 → q ≠ 12 → u q = σ q) → Hp E u s H locs → lv_has ls 3 [(0, .ref (adr E 11 0)), (1, .ref (adr E o 0)), (2, .int x2)] → W p l e rm_X9_readStalls s m args below meth c H locs 0 0 (MQ below (va_Qi (fun r u => rv = r ∧ u o = μ' ∧ u 11 = π' ∧ u 12 = τ' ∧ ∀ q, q ≠ o → q ≠ 11 → q ≠ 12 → u q = σ q) (fun u t => Wu E u t) (eA E)) args s 0 0 (eA E)) (F0 m 2 ls []) := by
  have hx := cx.1.1
  have hb := cx.1.2.1
  have d_M_11 : (o : Nat) ≠ 11 := by omega
  have d_M_12 : (o : Nat) ≠ 12 := by omega
  have d_11_M : (11 : Nat) ≠ o := by omega
  have d_11_12 : (11 : Nat) ≠ 12 := by decide
  have d_12_M : (12 : Nat) ≠ o := by omega
  have d_12_11 : (12 : Nat) ≠ 11 := by decide
  have d_13_M : (13 : Nat) ≠ o := by omega
  have d_13_11 : (13 : Nat) ≠ 11 := by decide
  have d_13_12 : (13 : Nat) ≠ 12 := by decide
  intro n
  induction n with
  | zero =>
    intro x2 μ π τ hf
    exact absurd hf (by simp [f_X9_readStalls_2])
  | succ n ih =>
    intro x2 μ π τ hf u H locs ls eM e11 e12 e13 fr hp hl
    rw [f_X9_readStalls_2] at hf
    refine lv_iload_n hx hb dX9_readStalls_2 rfl (lv_at hl 2 rfl) ?_
    refine lv_bipush (v := 8) hx hb dX9_readStalls_3 (by decide) ?_
    refine lv_icmp_ge (tgt := 42) hx hb dX9_readStalls_5 (by decide) (fun c1 => ?_) (fun c1 => ?_)
    · have hf := fp hf c1
      refine lv_aload_n hx hb dX9_readStalls_42 rfl (lv_at hl 0 rfl) ?_
      refine gF_X9_38 rfl hN cx hp dX9_readStalls_43 ?_
      refine va_ldcS hx hb cx.1.2.2.2.1 (cx.2.2.1.2.2.2.1 2 _ rfl) dX9_readStalls_46 ?_
      obtain ⟨r2, hc, hf⟩ := fb hf
      refine x_i hp (y_V (As := [.ref (eK E 2)]) (rest := []) cx hp hl (c_X10_isWord l hN hT e12 e13 hc) (cw_X9_44 cx (mc := 0) (ms := 0) rfl rfl ⟨by decide, by decide⟩) (rC_X10 hN cx hp) rfl rfl (Nat.le_of_ble_eq_true rfl) dX9_readStalls_48 ⟨Nat.zero_le _, Nat.zero_le _⟩) (fun r_c u_c H locs hq hp => ?_)
      obtain ⟨rfl, rfl⟩ := hq
      refine lv_if_eq (tgt := 62) hx hb dX9_readStalls_51 (by decide) (fun c3 => ?_) (fun c3 => ?_)
      · have hf := fp hf c3
        refine lv_iconst (v := 1) hx hb dX9_readStalls_62 (by decide) ?_
        refine lv_goto (tgt := 67) hx hb dX9_readStalls_63 (by decide) ?_
        cases hf
        exact r_z cx hp rfl ⟨rfl, eM, e11, e12, fr⟩ dX9_readStalls_67
      · have hf := fn hf c3
        refine lv_aload_n hx hb dX9_readStalls_54 rfl (lv_at hl 0 rfl) ?_
        refine lv_iconst (v := 5) hx hb dX9_readStalls_55 (by decide) ?_
        obtain ⟨r4, π5, hc, hf⟩ := fb2 hf
        refine x_i hp (y_V (As := [.int 5]) (rest := []) cx hp hl (c_X7_fail l hN hT e11 e12 hc) (cw_X9_52 cx (mc := 0) (ms := 0) rfl rfl ⟨by decide, by decide⟩) (rC_X7 hN cx hp) rfl rfl (Nat.le_of_ble_eq_true rfl) dX9_readStalls_56 ⟨Nat.zero_le _, Nat.zero_le _⟩) (fun r_c u_c H locs hq hp => ?_)
        obtain ⟨rfl, e_0, n_u⟩ := hq
        have e11 := e_0
        have eM := (n_u _ d_M_11).trans eM
        have e12 := (n_u _ d_12_11).trans e12
        have e13 := (n_u _ d_13_11).trans e13
        have fr : ∀ q, q ≠ o → q ≠ 11 → q ≠ 12 → u_c q = σ q := fun q h0 h1 h2 => (n_u q h1).trans (fr q h0 h1 h2)
        obtain ⟨u, rfl⟩ : ∃ z, u_c = z := ⟨_, rfl⟩
        refine lv_if_eq (tgt := 66) hx hb dX9_readStalls_59 (by decide) (fun c6 => ?_) (fun c6 => ?_)
        · have hf := fp hf c6
          refine lv_iconst (v := 0) hx hb dX9_readStalls_66 (by decide) ?_
          cases hf
          exact r_z cx hp rfl ⟨rfl, eM, e11, e12, fr⟩ dX9_readStalls_67
        · have hf := fn hf c6
          refine lv_iconst (v := 1) hx hb dX9_readStalls_62 (by decide) ?_
          refine lv_goto (tgt := 67) hx hb dX9_readStalls_63 (by decide) ?_
          cases hf
          exact r_z cx hp rfl ⟨rfl, eM, e11, e12, fr⟩ dX9_readStalls_67
    · have hf := fn hf c1
      refine lv_iload_n hx hb dX9_readStalls_8 rfl (lv_at hl 2 rfl) ?_
      refine lv_if_le (tgt := 26) hx hb dX9_readStalls_9 (by decide) (fun c7 => ?_) (fun c7 => ?_)
      · have hf := fp hf c7
        refine lv_aload_n hx hb dX9_readStalls_26 rfl (lv_at hl 0 rfl) ?_
        refine lv_aload_n hx hb dX9_readStalls_27 rfl (lv_at hl 1 rfl) ?_
        obtain ⟨r8, μ9, π10, τ11, hc, hf⟩ := fb4 hf
        refine x_i hp (y_S (As := [.ref (adr E 11 0), .ref (adr E o 0)]) (rest := []) cx hp hl (c_X9_readStall l hN hT ho eM e11 e12 e13 hc) (cw_X9_49 cx (mc := 0) (ms := 0) rfl rfl ⟨by decide, by decide⟩) rfl rfl (Nat.le_of_ble_eq_true rfl) dX9_readStalls_28 ⟨Nat.zero_le _, Nat.zero_le _⟩) (fun r_c u_c H locs hq hp => ?_)
        obtain ⟨rfl, e_0, e_1, e_2, n_u⟩ := hq
        have eM := e_0
        have e11 := e_1
        have e12 := e_2
        have e13 := (n_u _ d_13_M d_13_11 d_13_12).trans e13
        have fr : ∀ q, q ≠ o → q ≠ 11 → q ≠ 12 → u_c q = σ q := fun q h0 h1 h2 => (n_u q h0 h1 h2).trans (fr q h0 h1 h2)
        obtain ⟨u, rfl⟩ : ∃ z, u_c = z := ⟨_, rfl⟩
        refine lv_if_ne (tgt := 36) hx hb dX9_readStalls_31 (by decide) (fun c12 => ?_) (fun c12 => ?_)
        · have hf := fn hf c12
          refine lv_iinc (v := (x2 + 1)) (lv' := [(2, .int (x2 + 1)), (0, .ref (adr E 11 0)), (1, .ref (adr E o 0))]) hx hb dX9_readStalls_36 hl (k := 2) rfl rfl (by decide) rfl (fun ls hl => ?_)
          refine lv_goto (tgt := 2) hx hb dX9_readStalls_39 (by decide) ?_
          exact ih  hf eM e11 e12 e13 fr hp (lv_sub hl [1, 2, 0] rfl)
        · have hf := fp hf c12
          refine lv_iconst (v := 0) hx hb dX9_readStalls_34 (by decide) ?_
          cases hf
          exact r_z cx hp rfl ⟨rfl, eM, e11, e12, fr⟩ dX9_readStalls_35
      · have hf := fn hf c7
        refine lv_aload_n hx hb dX9_readStalls_12 rfl (lv_at hl 0 rfl) ?_
        refine gF_X9_38 rfl hN cx hp dX9_readStalls_13 ?_
        refine va_ldcS hx hb cx.1.2.2.2.1 (cx.2.2.1.2.2.2.1 2 _ rfl) dX9_readStalls_16 ?_
        obtain ⟨r13, hc, hf⟩ := fb hf
        refine x_i hp (y_V (As := [.ref (eK E 2)]) (rest := []) cx hp hl (c_X10_isWord l hN hT e12 e13 hc) (cw_X9_44 cx (mc := 0) (ms := 0) rfl rfl ⟨by decide, by decide⟩) (rC_X10 hN cx hp) rfl rfl (Nat.le_of_ble_eq_true rfl) dX9_readStalls_18 ⟨Nat.zero_le _, Nat.zero_le _⟩) (fun r_c u_c H locs hq hp => ?_)
        obtain ⟨rfl, rfl⟩ := hq
        refine lv_if_ne (tgt := 26) hx hb dX9_readStalls_21 (by decide) (fun c14 => ?_) (fun c14 => ?_)
        · have hf := fn hf c14
          refine lv_aload_n hx hb dX9_readStalls_26 rfl (lv_at hl 0 rfl) ?_
          refine lv_aload_n hx hb dX9_readStalls_27 rfl (lv_at hl 1 rfl) ?_
          obtain ⟨r15, μ16, π17, τ18, hc, hf⟩ := fb4 hf
          refine x_i hp (y_S (As := [.ref (adr E 11 0), .ref (adr E o 0)]) (rest := []) cx hp hl (c_X9_readStall l hN hT ho eM e11 e12 e13 hc) (cw_X9_49 cx (mc := 0) (ms := 0) rfl rfl ⟨by decide, by decide⟩) rfl rfl (Nat.le_of_ble_eq_true rfl) dX9_readStalls_28 ⟨Nat.zero_le _, Nat.zero_le _⟩) (fun r_c u_c H locs hq hp => ?_)
          obtain ⟨rfl, e_0, e_1, e_2, n_u⟩ := hq
          have eM := e_0
          have e11 := e_1
          have e12 := e_2
          have e13 := (n_u _ d_13_M d_13_11 d_13_12).trans e13
          have fr : ∀ q, q ≠ o → q ≠ 11 → q ≠ 12 → u_c q = σ q := fun q h0 h1 h2 => (n_u q h0 h1 h2).trans (fr q h0 h1 h2)
          obtain ⟨u, rfl⟩ : ∃ z, u_c = z := ⟨_, rfl⟩
          refine lv_if_ne (tgt := 36) hx hb dX9_readStalls_31 (by decide) (fun c19 => ?_) (fun c19 => ?_)
          · have hf := fn hf c19
            refine lv_iinc (v := (x2 + 1)) (lv' := [(2, .int (x2 + 1)), (0, .ref (adr E 11 0)), (1, .ref (adr E o 0))]) hx hb dX9_readStalls_36 hl (k := 2) rfl rfl (by decide) rfl (fun ls hl => ?_)
            refine lv_goto (tgt := 2) hx hb dX9_readStalls_39 (by decide) ?_
            exact ih  hf eM e11 e12 e13 fr hp (lv_sub hl [1, 2, 0] rfl)
          · have hf := fp hf c19
            refine lv_iconst (v := 0) hx hb dX9_readStalls_34 (by decide) ?_
            cases hf
            exact r_z cx hp rfl ⟨rfl, eM, e11, e12, fr⟩ dX9_readStalls_35
        · have hf := fp hf c14
          refine lv_iconst (v := 1) hx hb dX9_readStalls_24 (by decide) ?_
          cases hf
          exact r_z cx hp rfl ⟨rfl, eM, e11, e12, fr⟩ dX9_readStalls_25
set_option maxRecDepth 100000 in
set_option maxHeartbeats 4000000 in
theorem c_X9_readStalls (l : Launch) {E : Ev} (hN : 129 ≤ eN E) (hT : St E) {σ : SM} {o : Nat} {μ : OM} (ho : o < 11) (eM : σ o = μ) {π : OM} (e11 : σ 11 = π) {τ : OM} (e12 : σ 12 = τ) {β : OM} (e13 : σ 13 = β)  {rv : Int32} {μ' : OM} {π' : OM} {τ' : OM} (hf : f_X9_readStalls μ π τ β = some (rv, μ', π', τ')) : Met l yX9_readStalls (wC yX9_readStalls cX9_readStalls 3 (some .boolean)) rm_X9_readStalls (va_Pc [.ref (adr E 11 0), .ref (adr E o 0)] (Wu E σ)) (va_Qi (fun r u => rv = r ∧ u o = μ' ∧ u 11 = π' ∧ u 12 = τ' ∧ ∀ q, q ≠ o → q ≠ 11 → q ≠ 12 → u q = σ q) (fun u t => Wu E u t) (eA E)) 0 0 (eA E) := by
  refine g_entry (lv := [(0, .ref (adr E 11 0)), (1, .ref (adr E o 0))]) (by decide) (Nat.le_of_ble_eq_true rfl) rfl ?_
  intro p e s m below meth c cx hp ls hl
  have hx := cx.1.1
  have hb := cx.1.2.1
  have fr : ∀ q, q ≠ o → q ≠ 11 → q ≠ 12 → σ q = σ q := fun _ _ _ _ => rfl
  have d_M_11 : (o : Nat) ≠ 11 := by omega
  have d_M_12 : (o : Nat) ≠ 12 := by omega
  have d_11_M : (11 : Nat) ≠ o := by omega
  have d_11_12 : (11 : Nat) ≠ 12 := by decide
  have d_12_M : (12 : Nat) ≠ o := by omega
  have d_12_11 : (12 : Nat) ≠ 11 := by decide
  have d_13_M : (13 : Nat) ≠ o := by omega
  have d_13_11 : (13 : Nat) ≠ 11 := by decide
  have d_13_12 : (13 : Nat) ≠ 12 := by decide
  unfold f_X9_readStalls at hf
  refine lv_iconst (v := 0) hx hb dX9_readStalls_0 (by decide) ?_
  refine lv_istore_n (lv' := [(2, .int 0), (0, .ref (adr E 11 0)), (1, .ref (adr E o 0))]) hx hb dX9_readStalls_1 rfl hl (by decide) rfl (fun ls hl => ?_)
  exact L_X9_readStalls_2 l hN hT cx ho _ hf eM e11 e12 e13 fr hp (lv_sub hl [1, 2, 0] rfl)
abbrev rm_X9_readWishes : Room := { frames := 6, cells := 0, slots := 0, locals := 129 }
set_option maxRecDepth 100000 in
set_option maxHeartbeats 4000000 in
theorem L_X9_readWishes_2 {p : Program} {e : Env} {s : State} {m : MethodId} {args : Array Value} {below : List Frame} {meth : Method} {c : Code} (l : Launch) {E : Ev} (hN : 129 ≤ eN E) (hT : St E) {σ : SM} (cx : Cx E p s m meth c args RX9 cX9_readWishes 5 (some .boolean)) {o : Nat} (ho : o < 11) {x2 : Int32} {β : OM} {rv : Int32} {μ' : OM} {π' : OM} {τ' : OM} : ∀ (n : Nat) {x3 : Int32} {μ : OM} {π : OM} {τ : OM}, f_X9_readWishes_2 x2 β n x3 μ π τ = some (rv, μ', π', τ') → ∀ {u : SM} {H : Heap} {locs : List Loc} {ls : Array Slot}, u o = μ → u 11 = π → u 12 = τ → u 13 = β → (∀ q, q ≠ o → q ≠ 11 → q ≠ 12 → u q = σ q) → Hp E u s H locs → lv_has ls 5 [(0, .ref (adr E 11 0)), (1, .ref (adr E o 0)), (2, .int x2), (3, .int x3)] → W p l e rm_X9_readWishes s m args below meth c H locs 0 0 (MQ below (va_Qi (fun r u => rv = r ∧ u o = μ' ∧ u 11 = π' ∧ u 12 = τ' ∧ ∀ q, q ≠ o → q ≠ 11 → q ≠ 12 → u q = σ q) (fun u t => Wu E u t) (eA E)) args s 0 0 (eA E)) (F0 m 2 ls []) := by
  have hx := cx.1.1
  have hb := cx.1.2.1
  have d_M_11 : (o : Nat) ≠ 11 := by omega
  have d_M_12 : (o : Nat) ≠ 12 := by omega
  have d_11_M : (11 : Nat) ≠ o := by omega
  have d_11_12 : (11 : Nat) ≠ 12 := by decide
  have d_12_M : (12 : Nat) ≠ o := by omega
  have d_12_11 : (12 : Nat) ≠ 11 := by decide
  have d_13_M : (13 : Nat) ≠ o := by omega
  have d_13_11 : (13 : Nat) ≠ 11 := by decide
  have d_13_12 : (13 : Nat) ≠ 12 := by decide
  intro n
  induction n with
  | zero =>
    intro x3 μ π τ hf
    exact absurd hf (by simp [f_X9_readWishes_2])
  | succ n ih =>
    intro x3 μ π τ hf u H locs ls eM e11 e12 e13 fr hp hl
    rw [f_X9_readWishes_2] at hf
    refine lv_iload_n hx hb dX9_readWishes_2 rfl (lv_at hl 3 rfl) ?_
    refine lv_bipush (v := 8) hx hb dX9_readWishes_3 (by decide) ?_
    refine lv_icmp_gt (tgt := 85) hx hb dX9_readWishes_5 (by decide) (fun c1 => ?_) (fun c1 => ?_)
    · have hf := fp hf c1
      refine lv_iconst (v := 1) hx hb dX9_readWishes_85 (by decide) ?_
      cases hf
      exact r_z cx hp rfl ⟨rfl, eM, e11, e12, fr⟩ dX9_readWishes_86
    · have hf := fn hf c1
      refine lv_aload_n hx hb dX9_readWishes_8 rfl (lv_at hl 0 rfl) ?_
      refine gF_X9_38 rfl hN cx hp dX9_readWishes_9 ?_
      refine gF_X9_78 e12 hN cx hp dX9_readWishes_12 ?_
      refine lv_iconst (v := 1) hx hb dX9_readWishes_15 (by decide) ?_
      refine lv_icmp_ne (tgt := 31) hx hb dX9_readWishes_16 (by decide) (fun c2 => ?_) (fun c2 => ?_)
      · have hf := fn hf c2
        refine lv_iconst (v := 1) hx hb dX9_readWishes_31 (by decide) ?_
        cases hf
        exact r_z cx hp rfl ⟨rfl, eM, e11, e12, fr⟩ dX9_readWishes_32
      · have hf := fp hf c2
        refine lv_aload_n hx hb dX9_readWishes_19 rfl (lv_at hl 0 rfl) ?_
        refine gF_X9_38 rfl hN cx hp dX9_readWishes_20 ?_
        refine va_ldcS hx hb cx.1.2.2.2.1 (cx.2.2.1.2.2.2.1 3 _ rfl) dX9_readWishes_23 ?_
        obtain ⟨r3, hc, hf⟩ := fb hf
        refine x_i hp (y_V (As := [.ref (eK E 3)]) (rest := []) cx hp hl (c_X10_isWord l hN hT e12 e13 hc) (cw_X9_44 cx (mc := 0) (ms := 0) rfl rfl ⟨by decide, by decide⟩) (rC_X10 hN cx hp) rfl rfl (Nat.le_of_ble_eq_true rfl) dX9_readWishes_25 ⟨Nat.zero_le _, Nat.zero_le _⟩) (fun r_c u_c H locs hq hp => ?_)
        obtain ⟨rfl, rfl⟩ := hq
        refine lv_if_eq (tgt := 33) hx hb dX9_readWishes_28 (by decide) (fun c4 => ?_) (fun c4 => ?_)
        · have hf := fp hf c4
          refine lv_aload_n hx hb dX9_readWishes_33 rfl (lv_at hl 0 rfl) ?_
          refine lv_aload_n hx hb dX9_readWishes_34 rfl (lv_at hl 1 rfl) ?_
          obtain ⟨r5, π6, hc, hf⟩ := fb2 hf
          refine x_i hp (y_V (As := [.ref (adr E o 0)]) (rest := []) cx hp hl (c_X7_seeStall l hN hT ho eM e11 e12 e13 hc) (cw_X9_107 cx (mc := 0) (ms := 0) rfl rfl ⟨by decide, by decide⟩) (rC_X7 hN cx hp) rfl rfl (Nat.le_of_ble_eq_true rfl) dX9_readWishes_35 ⟨Nat.zero_le _, Nat.zero_le _⟩) (fun r_c u_c H locs hq hp => ?_)
          obtain ⟨rfl, e_0, n_u⟩ := hq
          have e11 := e_0
          have eM := (n_u _ d_M_11).trans eM
          have e12 := (n_u _ d_12_11).trans e12
          have e13 := (n_u _ d_13_11).trans e13
          have fr : ∀ q, q ≠ o → q ≠ 11 → q ≠ 12 → u_c q = σ q := fun q h0 h1 h2 => (n_u q h1).trans (fr q h0 h1 h2)
          obtain ⟨u, rfl⟩ : ∃ z, u_c = z := ⟨_, rfl⟩
          refine lv_istore (lv' := [(4, .int r5), (0, .ref (adr E 11 0)), (1, .ref (adr E o 0)), (2, .int x2), (3, .int x3)]) hx hb dX9_readWishes_38 hl (by decide) rfl (fun ls hl => ?_)
          refine lv_iload hx hb dX9_readWishes_40 (lv_at hl 0 rfl) ?_
          refine lv_iconst (v := (-1)) hx hb dX9_readWishes_42 (by decide) ?_
          refine lv_icmp_ne (tgt := 48) hx hb dX9_readWishes_43 (by decide) (fun c7 => ?_) (fun c7 => ?_)
          · have hf := fn hf c7
            refine lv_aload_n hx hb dX9_readWishes_48 rfl (lv_at hl 2 rfl) ?_
            refine lv_iload_n hx hb dX9_readWishes_49 rfl (lv_at hl 3 rfl) ?_
            refine lv_iload hx hb dX9_readWishes_50 (lv_at hl 0 rfl) ?_
            obtain ⟨r8, hc, hf⟩ := fb hf
            refine x_i hp (y_V (As := [.int x2, .int r5]) (rest := []) cx hp hl (c_X5_rankIn l hN hT ho eM hc) (cw_X9_111 cx (mc := 0) (ms := 0) rfl rfl ⟨by decide, by decide⟩) (rC_X5 ho hN cx hp) rfl rfl (Nat.le_of_ble_eq_true rfl) dX9_readWishes_52 ⟨Nat.zero_le _, Nat.zero_le _⟩) (fun r_c u_c H locs hq hp => ?_)
            obtain ⟨rfl, rfl⟩ := hq
            refine lv_iconst (v := (-1)) hx hb dX9_readWishes_55 (by decide) ?_
            refine lv_icmp_eq (tgt := 65) hx hb dX9_readWishes_56 (by decide) (fun c9 => ?_) (fun c9 => ?_)
            · have hf := fp hf c9
              refine lv_aload_n hx hb dX9_readWishes_65 rfl (lv_at hl 2 rfl) ?_
              refine lv_iload_n hx hb dX9_readWishes_66 rfl (lv_at hl 3 rfl) ?_
              refine lv_iload hx hb dX9_readWishes_67 (lv_at hl 0 rfl) ?_
              obtain ⟨μ10, hc, hf⟩ := fb hf
              refine x_v hp (y_V (As := [.int x2, .int r5]) (rest := []) cx hp hl (c_X5_wishLast l hN hT ho eM hc) (cw_X9_114 cx (mc := 0) (ms := 0) rfl rfl ⟨by decide, by decide⟩) (rC_X5 ho hN cx hp) rfl rfl (Nat.le_of_ble_eq_true rfl) dX9_readWishes_69 ⟨Nat.zero_le _, Nat.zero_le _⟩) (fun u_c H locs hq hp => ?_)
              obtain ⟨e_0, n_u⟩ := hq
              have eM := e_0
              have e11 := (n_u _ d_11_M).trans e11
              have e12 := (n_u _ d_12_M).trans e12
              have e13 := (n_u _ d_13_M).trans e13
              have fr : ∀ q, q ≠ o → q ≠ 11 → q ≠ 12 → u_c q = σ q := fun q h0 h1 h2 => (n_u q h0).trans (fr q h0 h1 h2)
              obtain ⟨u, rfl⟩ : ∃ z, u_c = z := ⟨_, rfl⟩
              refine lv_aload_n hx hb dX9_readWishes_72 rfl (lv_at hl 1 rfl) ?_
              refine gF_X9_38 rfl hN cx hp dX9_readWishes_73 ?_
              obtain ⟨τ11, hc, hf⟩ := fb hf
              refine x_v hp (y_V (As := []) (rest := []) cx hp hl (c_X10_next l hN hT e12 e13 hc) (cw_X9_82 cx (mc := 0) (ms := 0) rfl rfl ⟨by decide, by decide⟩) (rC_X10 hN cx hp) rfl rfl (Nat.le_of_ble_eq_true rfl) dX9_readWishes_76 ⟨Nat.zero_le _, Nat.zero_le _⟩) (fun u_c H locs hq hp => ?_)
              obtain ⟨e_0, n_u⟩ := hq
              have e12 := e_0
              have eM := (n_u _ d_M_12).trans eM
              have e11 := (n_u _ d_11_12).trans e11
              have e13 := (n_u _ d_13_12).trans e13
              have fr : ∀ q, q ≠ o → q ≠ 11 → q ≠ 12 → u_c q = σ q := fun q h0 h1 h2 => (n_u q h2).trans (fr q h0 h1 h2)
              obtain ⟨u, rfl⟩ : ∃ z, u_c = z := ⟨_, rfl⟩
              refine lv_iinc (v := (x3 + 1)) (lv' := [(3, .int (x3 + 1)), (4, .int r5), (0, .ref (adr E 11 0)), (1, .ref (adr E o 0)), (2, .int x2)]) hx hb dX9_readWishes_79 hl (k := 4) rfl rfl (by decide) rfl (fun ls hl => ?_)
              refine lv_goto (tgt := 2) hx hb dX9_readWishes_82 (by decide) ?_
              exact ih  hf eM e11 e12 e13 fr hp (lv_sub hl [2, 3, 4, 0] rfl)
            · have hf := fn hf c9
              refine lv_aload_n hx hb dX9_readWishes_59 rfl (lv_at hl 1 rfl) ?_
              refine lv_iconst (v := 4) hx hb dX9_readWishes_60 (by decide) ?_
              obtain ⟨r12, π13, hc, hf⟩ := fb2 hf
              refine x_i hp (y_V (As := [.int 4]) (rest := []) cx hp hl (c_X7_fail l hN hT e11 e12 hc) (cw_X9_52 cx (mc := 0) (ms := 0) rfl rfl ⟨by decide, by decide⟩) (rC_X7 hN cx hp) rfl rfl (Nat.le_of_ble_eq_true rfl) dX9_readWishes_61 ⟨Nat.zero_le _, Nat.zero_le _⟩) (fun r_c u_c H locs hq hp => ?_)
              obtain ⟨rfl, e_0, n_u⟩ := hq
              have e11 := e_0
              have eM := (n_u _ d_M_11).trans eM
              have e12 := (n_u _ d_12_11).trans e12
              have e13 := (n_u _ d_13_11).trans e13
              have fr : ∀ q, q ≠ o → q ≠ 11 → q ≠ 12 → u_c q = σ q := fun q h0 h1 h2 => (n_u q h1).trans (fr q h0 h1 h2)
              obtain ⟨u, rfl⟩ : ∃ z, u_c = z := ⟨_, rfl⟩
              obtain ⟨g_z, hf⟩ := fg hf
              cases hf
              exact r_z cx hp (bz_n g_z) ⟨rfl, eM, e11, e12, fr⟩ dX9_readWishes_64
          · have hf := fp hf c7
            refine lv_iconst (v := 0) hx hb dX9_readWishes_46 (by decide) ?_
            cases hf
            exact r_z cx hp rfl ⟨rfl, eM, e11, e12, fr⟩ dX9_readWishes_47
        · have hf := fn hf c4
          refine lv_iconst (v := 1) hx hb dX9_readWishes_31 (by decide) ?_
          cases hf
          exact r_z cx hp rfl ⟨rfl, eM, e11, e12, fr⟩ dX9_readWishes_32
set_option maxRecDepth 100000 in
set_option maxHeartbeats 4000000 in
theorem c_X9_readWishes (l : Launch) {E : Ev} (hN : 129 ≤ eN E) (hT : St E) {σ : SM} {o : Nat} {μ : OM} (ho : o < 11) (eM : σ o = μ) {π : OM} (e11 : σ 11 = π) {τ : OM} (e12 : σ 12 = τ) {β : OM} (e13 : σ 13 = β) {p2 : Int32} {rv : Int32} {μ' : OM} {π' : OM} {τ' : OM} (hf : f_X9_readWishes p2 μ π τ β = some (rv, μ', π', τ')) : Met l yX9_readWishes (wC yX9_readWishes cX9_readWishes 5 (some .boolean)) rm_X9_readWishes (va_Pc [.ref (adr E 11 0), .ref (adr E o 0), .int p2] (Wu E σ)) (va_Qi (fun r u => rv = r ∧ u o = μ' ∧ u 11 = π' ∧ u 12 = τ' ∧ ∀ q, q ≠ o → q ≠ 11 → q ≠ 12 → u q = σ q) (fun u t => Wu E u t) (eA E)) 0 0 (eA E) := by
  refine g_entry (lv := [(0, .ref (adr E 11 0)), (1, .ref (adr E o 0)), (2, .int p2)]) (by decide) (Nat.le_of_ble_eq_true rfl) rfl ?_
  intro p e s m below meth c cx hp ls hl
  have hx := cx.1.1
  have hb := cx.1.2.1
  have fr : ∀ q, q ≠ o → q ≠ 11 → q ≠ 12 → σ q = σ q := fun _ _ _ _ => rfl
  have d_M_11 : (o : Nat) ≠ 11 := by omega
  have d_M_12 : (o : Nat) ≠ 12 := by omega
  have d_11_M : (11 : Nat) ≠ o := by omega
  have d_11_12 : (11 : Nat) ≠ 12 := by decide
  have d_12_M : (12 : Nat) ≠ o := by omega
  have d_12_11 : (12 : Nat) ≠ 11 := by decide
  have d_13_M : (13 : Nat) ≠ o := by omega
  have d_13_11 : (13 : Nat) ≠ 11 := by decide
  have d_13_12 : (13 : Nat) ≠ 12 := by decide
  unfold f_X9_readWishes at hf
  refine lv_iconst (v := 0) hx hb dX9_readWishes_0 (by decide) ?_
  refine lv_istore_n (lv' := [(3, .int 0), (0, .ref (adr E 11 0)), (1, .ref (adr E o 0)), (2, .int p2)]) hx hb dX9_readWishes_1 rfl hl (by decide) rfl (fun ls hl => ?_)
  exact L_X9_readWishes_2 l hN hT cx ho _ hf eM e11 e12 e13 fr hp (lv_sub hl [1, 2, 3, 0] rfl)
abbrev rm_X9_readPlace : Room := { frames := 6, cells := 0, slots := 0, locals := 129 }
set_option maxRecDepth 100000 in
set_option maxHeartbeats 4000000 in
theorem c_X9_readPlace (l : Launch) {E : Ev} (hN : 129 ≤ eN E) (hT : St E) {σ : SM} {o : Nat} {μ : OM} (ho : o < 11) (eM : σ o = μ) {π : OM} (e11 : σ 11 = π) {τ : OM} (e12 : σ 12 = τ) {β : OM} (e13 : σ 13 = β) {p2 : Int32} {rv : Int32} {μ' : OM} {π' : OM} {τ' : OM} (hf : f_X9_readPlace p2 μ π τ β = some (rv, μ', π', τ')) : Met l yX9_readPlace (wC yX9_readPlace cX9_readPlace 4 (some .boolean)) rm_X9_readPlace (va_Pc [.ref (adr E 11 0), .ref (adr E o 0), .int p2] (Wu E σ)) (va_Qi (fun r u => rv = r ∧ u o = μ' ∧ u 11 = π' ∧ u 12 = τ' ∧ ∀ q, q ≠ o → q ≠ 11 → q ≠ 12 → u q = σ q) (fun u t => Wu E u t) (eA E)) 0 0 (eA E) := by
  refine g_entry (lv := [(0, .ref (adr E 11 0)), (1, .ref (adr E o 0)), (2, .int p2)]) (by decide) (Nat.le_of_ble_eq_true rfl) rfl ?_
  intro p e s m below meth c cx hp ls hl
  have hx := cx.1.1
  have hb := cx.1.2.1
  have fr : ∀ q, q ≠ o → q ≠ 11 → q ≠ 12 → σ q = σ q := fun _ _ _ _ => rfl
  have d_M_11 : (o : Nat) ≠ 11 := by omega
  have d_M_12 : (o : Nat) ≠ 12 := by omega
  have d_11_M : (11 : Nat) ≠ o := by omega
  have d_11_12 : (11 : Nat) ≠ 12 := by decide
  have d_12_M : (12 : Nat) ≠ o := by omega
  have d_12_11 : (12 : Nat) ≠ 11 := by decide
  have d_13_M : (13 : Nat) ≠ o := by omega
  have d_13_11 : (13 : Nat) ≠ 11 := by decide
  have d_13_12 : (13 : Nat) ≠ 12 := by decide
  unfold f_X9_readPlace at hf
  refine lv_aload_n hx hb dX9_readPlace_0 rfl (lv_at hl 0 rfl) ?_
  refine gF_X9_38 rfl hN cx hp dX9_readPlace_1 ?_
  refine va_ldcS hx hb cx.1.2.2.2.1 (cx.2.2.1.2.2.2.1 3 _ rfl) dX9_readPlace_4 ?_
  obtain ⟨r1, hc, hf⟩ := fb hf
  refine x_i hp (y_V (As := [.ref (eK E 3)]) (rest := []) cx hp hl (c_X10_isWord l hN hT e12 e13 hc) (cw_X9_44 cx (mc := 0) (ms := 0) rfl rfl ⟨by decide, by decide⟩) (rC_X10 hN cx hp) rfl rfl (Nat.le_of_ble_eq_true rfl) dX9_readPlace_6 ⟨Nat.zero_le _, Nat.zero_le _⟩) (fun r_c u_c H locs hq hp => ?_)
  obtain ⟨rfl, rfl⟩ := hq
  refine lv_if_ne (tgt := 14) hx hb dX9_readPlace_9 (by decide) (fun c2 => ?_) (fun c2 => ?_)
  · have hf := fn hf c2
    refine lv_aload_n hx hb dX9_readPlace_14 rfl (lv_at hl 0 rfl) ?_
    refine gF_X9_38 rfl hN cx hp dX9_readPlace_15 ?_
    obtain ⟨τ3, hc, hf⟩ := fb hf
    refine x_v hp (y_V (As := []) (rest := []) cx hp hl (c_X10_next l hN hT e12 e13 hc) (cw_X9_82 cx (mc := 0) (ms := 0) rfl rfl ⟨by decide, by decide⟩) (rC_X10 hN cx hp) rfl rfl (Nat.le_of_ble_eq_true rfl) dX9_readPlace_18 ⟨Nat.zero_le _, Nat.zero_le _⟩) (fun u_c H locs hq hp => ?_)
    obtain ⟨e_0, n_u⟩ := hq
    have e12 := e_0
    have eM := (n_u _ d_M_12).trans eM
    have e11 := (n_u _ d_11_12).trans e11
    have e13 := (n_u _ d_13_12).trans e13
    have fr : ∀ q, q ≠ o → q ≠ 11 → q ≠ 12 → u_c q = σ q := fun q h0 h1 h2 => (n_u q h2).trans (fr q h0 h1 h2)
    obtain ⟨u, rfl⟩ : ∃ z, u_c = z := ⟨_, rfl⟩
    refine lv_aload_n hx hb dX9_readPlace_21 rfl (lv_at hl 0 rfl) ?_
    refine lv_aload_n hx hb dX9_readPlace_22 rfl (lv_at hl 1 rfl) ?_
    obtain ⟨r4, π5, hc, hf⟩ := fb2 hf
    refine x_i hp (y_V (As := [.ref (adr E o 0)]) (rest := []) cx hp hl (c_X7_seeStall l hN hT ho eM e11 e12 e13 hc) (cw_X9_107 cx (mc := 0) (ms := 0) rfl rfl ⟨by decide, by decide⟩) (rC_X7 hN cx hp) rfl rfl (Nat.le_of_ble_eq_true rfl) dX9_readPlace_23 ⟨Nat.zero_le _, Nat.zero_le _⟩) (fun r_c u_c H locs hq hp => ?_)
    obtain ⟨rfl, e_0, n_u⟩ := hq
    have e11 := e_0
    have eM := (n_u _ d_M_11).trans eM
    have e12 := (n_u _ d_12_11).trans e12
    have e13 := (n_u _ d_13_11).trans e13
    have fr : ∀ q, q ≠ o → q ≠ 11 → q ≠ 12 → u_c q = σ q := fun q h0 h1 h2 => (n_u q h1).trans (fr q h0 h1 h2)
    obtain ⟨u, rfl⟩ : ∃ z, u_c = z := ⟨_, rfl⟩
    refine lv_istore_n (lv' := [(3, .int r4), (0, .ref (adr E 11 0)), (1, .ref (adr E o 0)), (2, .int p2)]) hx hb dX9_readPlace_26 rfl hl (by decide) rfl (fun ls hl => ?_)
    refine lv_iload_n hx hb dX9_readPlace_27 rfl (lv_at hl 0 rfl) ?_
    refine lv_iconst (v := (-1)) hx hb dX9_readPlace_28 (by decide) ?_
    refine lv_icmp_ne (tgt := 34) hx hb dX9_readPlace_29 (by decide) (fun c6 => ?_) (fun c6 => ?_)
    · have hf := fn hf c6
      refine lv_aload_n hx hb dX9_readPlace_34 rfl (lv_at hl 2 rfl) ?_
      refine lv_iload_n hx hb dX9_readPlace_35 rfl (lv_at hl 0 rfl) ?_
      obtain ⟨r7, hc, hf⟩ := fb hf
      refine x_i hp (y_V (As := [.int r4]) (rest := []) cx hp hl (c_X5_holderOf l hN hT ho eM hc) (cw_X9_118 cx (mc := 0) (ms := 0) rfl rfl ⟨by decide, by decide⟩) (rC_X5 ho hN cx hp) rfl rfl (Nat.le_of_ble_eq_true rfl) dX9_readPlace_36 ⟨Nat.zero_le _, Nat.zero_le _⟩) (fun r_c u_c H locs hq hp => ?_)
      obtain ⟨rfl, rfl⟩ := hq
      refine lv_iconst (v := (-1)) hx hb dX9_readPlace_39 (by decide) ?_
      refine lv_icmp_eq (tgt := 49) hx hb dX9_readPlace_40 (by decide) (fun c8 => ?_) (fun c8 => ?_)
      · have hf := fp hf c8
        refine lv_aload_n hx hb dX9_readPlace_49 rfl (lv_at hl 2 rfl) ?_
        refine lv_iload_n hx hb dX9_readPlace_50 rfl (lv_at hl 3 rfl) ?_
        refine lv_iload_n hx hb dX9_readPlace_51 rfl (lv_at hl 0 rfl) ?_
        obtain ⟨μ9, hc, hf⟩ := fb hf
        refine x_v hp (y_V (As := [.int p2, .int r4]) (rest := []) cx hp hl (c_X5_seat l hN hT ho eM hc) (cw_X9_122 cx (mc := 0) (ms := 0) rfl rfl ⟨by decide, by decide⟩) (rC_X5 ho hN cx hp) rfl rfl (Nat.le_of_ble_eq_true rfl) dX9_readPlace_52 ⟨Nat.zero_le _, Nat.zero_le _⟩) (fun u_c H locs hq hp => ?_)
        obtain ⟨e_0, n_u⟩ := hq
        have eM := e_0
        have e11 := (n_u _ d_11_M).trans e11
        have e12 := (n_u _ d_12_M).trans e12
        have e13 := (n_u _ d_13_M).trans e13
        have fr : ∀ q, q ≠ o → q ≠ 11 → q ≠ 12 → u_c q = σ q := fun q h0 h1 h2 => (n_u q h0).trans (fr q h0 h1 h2)
        obtain ⟨u, rfl⟩ : ∃ z, u_c = z := ⟨_, rfl⟩
        refine lv_aload_n hx hb dX9_readPlace_55 rfl (lv_at hl 1 rfl) ?_
        refine gF_X9_38 rfl hN cx hp dX9_readPlace_56 ?_
        obtain ⟨τ10, hc, hf⟩ := fb hf
        refine x_v hp (y_V (As := []) (rest := []) cx hp hl (c_X10_next l hN hT e12 e13 hc) (cw_X9_82 cx (mc := 0) (ms := 0) rfl rfl ⟨by decide, by decide⟩) (rC_X10 hN cx hp) rfl rfl (Nat.le_of_ble_eq_true rfl) dX9_readPlace_59 ⟨Nat.zero_le _, Nat.zero_le _⟩) (fun u_c H locs hq hp => ?_)
        obtain ⟨e_0, n_u⟩ := hq
        have e12 := e_0
        have eM := (n_u _ d_M_12).trans eM
        have e11 := (n_u _ d_11_12).trans e11
        have e13 := (n_u _ d_13_12).trans e13
        have fr : ∀ q, q ≠ o → q ≠ 11 → q ≠ 12 → u_c q = σ q := fun q h0 h1 h2 => (n_u q h2).trans (fr q h0 h1 h2)
        obtain ⟨u, rfl⟩ : ∃ z, u_c = z := ⟨_, rfl⟩
        refine lv_iconst (v := 1) hx hb dX9_readPlace_62 (by decide) ?_
        cases hf
        exact r_z cx hp rfl ⟨rfl, eM, e11, e12, fr⟩ dX9_readPlace_63
      · have hf := fn hf c8
        refine lv_aload_n hx hb dX9_readPlace_43 rfl (lv_at hl 1 rfl) ?_
        refine lv_iconst (v := 4) hx hb dX9_readPlace_44 (by decide) ?_
        obtain ⟨r11, π12, hc, hf⟩ := fb2 hf
        refine x_i hp (y_V (As := [.int 4]) (rest := []) cx hp hl (c_X7_fail l hN hT e11 e12 hc) (cw_X9_52 cx (mc := 0) (ms := 0) rfl rfl ⟨by decide, by decide⟩) (rC_X7 hN cx hp) rfl rfl (Nat.le_of_ble_eq_true rfl) dX9_readPlace_45 ⟨Nat.zero_le _, Nat.zero_le _⟩) (fun r_c u_c H locs hq hp => ?_)
        obtain ⟨rfl, e_0, n_u⟩ := hq
        have e11 := e_0
        have eM := (n_u _ d_M_11).trans eM
        have e12 := (n_u _ d_12_11).trans e12
        have e13 := (n_u _ d_13_11).trans e13
        have fr : ∀ q, q ≠ o → q ≠ 11 → q ≠ 12 → u_c q = σ q := fun q h0 h1 h2 => (n_u q h1).trans (fr q h0 h1 h2)
        obtain ⟨u, rfl⟩ : ∃ z, u_c = z := ⟨_, rfl⟩
        obtain ⟨g_z, hf⟩ := fg hf
        cases hf
        exact r_z cx hp (bz_n g_z) ⟨rfl, eM, e11, e12, fr⟩ dX9_readPlace_48
    · have hf := fp hf c6
      refine lv_iconst (v := 0) hx hb dX9_readPlace_32 (by decide) ?_
      cases hf
      exact r_z cx hp rfl ⟨rfl, eM, e11, e12, fr⟩ dX9_readPlace_33
  · have hf := fp hf c2
    refine lv_iconst (v := 1) hx hb dX9_readPlace_12 (by decide) ?_
    cases hf
    exact r_z cx hp rfl ⟨rfl, eM, e11, e12, fr⟩ dX9_readPlace_13
abbrev rm_X9_readSeller : Room := { frames := 7, cells := 0, slots := 0, locals := 153 }
set_option maxRecDepth 100000 in
set_option maxHeartbeats 4000000 in
theorem c_X9_readSeller (l : Launch) {E : Ev} (hN : 129 ≤ eN E) (hT : St E) {σ : SM} {o : Nat} {μ : OM} (ho : o < 11) (eM : σ o = μ) {π : OM} (e11 : σ 11 = π) {τ : OM} (e12 : σ 12 = τ) {β : OM} (e13 : σ 13 = β)  {rv : Int32} {μ' : OM} {π' : OM} {τ' : OM} (hf : f_X9_readSeller μ π τ β = some (rv, μ', π', τ')) : Met l yX9_readSeller (wC yX9_readSeller cX9_readSeller 7 (some .boolean)) rm_X9_readSeller (va_Pc [.ref (adr E 11 0), .ref (adr E o 0)] (Wu E σ)) (va_Qi (fun r u => rv = r ∧ u o = μ' ∧ u 11 = π' ∧ u 12 = τ' ∧ ∀ q, q ≠ o → q ≠ 11 → q ≠ 12 → u q = σ q) (fun u t => Wu E u t) (eA E)) 0 0 (eA E) := by
  refine g_entry (lv := [(0, .ref (adr E 11 0)), (1, .ref (adr E o 0))]) (by decide) (Nat.le_of_ble_eq_true rfl) rfl ?_
  intro p e s m below meth c cx hp ls hl
  have hx := cx.1.1
  have hb := cx.1.2.1
  have fr : ∀ q, q ≠ o → q ≠ 11 → q ≠ 12 → σ q = σ q := fun _ _ _ _ => rfl
  have d_M_11 : (o : Nat) ≠ 11 := by omega
  have d_M_12 : (o : Nat) ≠ 12 := by omega
  have d_11_M : (11 : Nat) ≠ o := by omega
  have d_11_12 : (11 : Nat) ≠ 12 := by decide
  have d_12_M : (12 : Nat) ≠ o := by omega
  have d_12_11 : (12 : Nat) ≠ 11 := by decide
  have d_13_M : (13 : Nat) ≠ o := by omega
  have d_13_11 : (13 : Nat) ≠ 11 := by decide
  have d_13_12 : (13 : Nat) ≠ 12 := by decide
  unfold f_X9_readSeller at hf
  refine lv_aload_n hx hb dX9_readSeller_0 rfl (lv_at hl 0 rfl) ?_
  refine va_ldcS hx hb cx.1.2.2.2.1 (cx.2.2.1.2.2.2.1 4 _ rfl) dX9_readSeller_1 ?_
  obtain ⟨r1, π2, τ3, hc, hf⟩ := fb3 hf
  refine x_i hp (y_V (As := [.ref (eK E 4)]) (rest := []) cx hp hl (c_X7_takeWord l hN hT e11 e12 e13 hc) (cw_X9_21 cx (mc := 0) (ms := 0) rfl rfl ⟨by decide, by decide⟩) (rC_X7 hN cx hp) rfl rfl (Nat.le_of_ble_eq_true rfl) dX9_readSeller_3 ⟨Nat.zero_le _, Nat.zero_le _⟩) (fun r_c u_c H locs hq hp => ?_)
  obtain ⟨rfl, e_0, e_1, n_u⟩ := hq
  have e11 := e_0
  have e12 := e_1
  have eM := (n_u _ d_M_11 d_M_12).trans eM
  have e13 := (n_u _ d_13_11 d_13_12).trans e13
  have fr : ∀ q, q ≠ o → q ≠ 11 → q ≠ 12 → u_c q = σ q := fun q h0 h1 h2 => (n_u q h1 h2).trans (fr q h0 h1 h2)
  obtain ⟨u, rfl⟩ : ∃ z, u_c = z := ⟨_, rfl⟩
  refine lv_if_ne (tgt := 11) hx hb dX9_readSeller_6 (by decide) (fun c4 => ?_) (fun c4 => ?_)
  · have hf := fn hf c4
    refine lv_aload_n hx hb dX9_readSeller_11 rfl (lv_at hl 0 rfl) ?_
    refine gF_X9_38 rfl hN cx hp dX9_readSeller_12 ?_
    refine gF_X9_56 e12 hN cx hp dX9_readSeller_15 ?_
    obtain ⟨i5, x_e, hf⟩ := fl hf
    refine lv_nml x_e ?_
    refine lv_lstore_n (lv' := [(2, .long i5), (0, .ref (adr E 11 0)), (1, .ref (adr E o 0))]) hx hb dX9_readSeller_18 rfl hl (by decide) rfl (fun ls hl => ?_)
    refine lv_aload_n hx hb dX9_readSeller_19 rfl (lv_at hl 1 rfl) ?_
    refine lv_aload_n hx hb dX9_readSeller_20 rfl (lv_at hl 2 rfl) ?_
    refine lv_lload_n hx hb dX9_readSeller_21 rfl (lv_at hl 0 rfl) ?_
    obtain ⟨r6, hc, hf⟩ := fb hf
    refine x_i hp (y_V (As := [.long i5]) (rest := [.ref (adr E 11 0)]) cx hp hl (c_X5_sellerCalled l hN hT ho eM hc) (cw_X9_90 cx (mc := 0) (ms := 0) rfl rfl ⟨by decide, by decide⟩) (rC_X5 ho hN cx hp) rfl rfl (Nat.le_of_ble_eq_true rfl) dX9_readSeller_22 ⟨Nat.zero_le _, Nat.zero_le _⟩) (fun r_c u_c H locs hq hp => ?_)
    obtain ⟨rfl, rfl⟩ := hq
    refine lv_iconst (v := (-1)) hx hb dX9_readSeller_25 (by decide) ?_
    refine lv_icmp_eq (tgt := 33) hx hb dX9_readSeller_26 (by decide) (fun c7 => ?_) (fun c7 => ?_)
    · have hf := fp hf c7
      refine lv_iconst (v := 0) hx hb dX9_readSeller_33 (by decide) ?_
      obtain ⟨r8, π9, τ10, hc, hf⟩ := fb3 hf
      refine x_i hp (y_S (As := [.ref (adr E 11 0), .int 0]) (rest := []) cx hp hl (c_X9_takeNewName l hN hT e11 e12 e13 hc) (cw_X9_66 cx (mc := 0) (ms := 0) rfl rfl ⟨by decide, by decide⟩) rfl rfl (Nat.le_of_ble_eq_true rfl) dX9_readSeller_34 ⟨Nat.zero_le _, Nat.zero_le _⟩) (fun r_c u_c H locs hq hp => ?_)
      obtain ⟨rfl, e_0, e_1, n_u⟩ := hq
      have e11 := e_0
      have e12 := e_1
      have eM := (n_u _ d_M_11 d_M_12).trans eM
      have e13 := (n_u _ d_13_11 d_13_12).trans e13
      have fr : ∀ q, q ≠ o → q ≠ 11 → q ≠ 12 → u_c q = σ q := fun q h0 h1 h2 => (n_u q h1 h2).trans (fr q h0 h1 h2)
      obtain ⟨u, rfl⟩ : ∃ z, u_c = z := ⟨_, rfl⟩
      refine lv_if_ne (tgt := 42) hx hb dX9_readSeller_37 (by decide) (fun c11 => ?_) (fun c11 => ?_)
      · have hf := fn hf c11
        refine lv_aload_n hx hb dX9_readSeller_42 rfl (lv_at hl 1 rfl) ?_
        refine lv_iconst (v := 0) hx hb dX9_readSeller_43 (by decide) ?_
        refine lv_sipush (v := 9999) hx hb dX9_readSeller_44 (by decide) ?_
        obtain ⟨r12, π13, τ14, hc, hf⟩ := fb3 hf
        refine x_i hp (y_V (As := [.int 0, .int 9999]) (rest := []) cx hp hl (c_X7_takeNumber l hN hT e11 e12 e13 hc) (cw_X9_70 cx (mc := 0) (ms := 0) rfl rfl ⟨by decide, by decide⟩) (rC_X7 hN cx hp) rfl rfl (Nat.le_of_ble_eq_true rfl) dX9_readSeller_47 ⟨Nat.zero_le _, Nat.zero_le _⟩) (fun r_c u_c H locs hq hp => ?_)
        obtain ⟨rfl, e_0, e_1, n_u⟩ := hq
        have e11 := e_0
        have e12 := e_1
        have eM := (n_u _ d_M_11 d_M_12).trans eM
        have e13 := (n_u _ d_13_11 d_13_12).trans e13
        have fr : ∀ q, q ≠ o → q ≠ 11 → q ≠ 12 → u_c q = σ q := fun q h0 h1 h2 => (n_u q h1 h2).trans (fr q h0 h1 h2)
        obtain ⟨u, rfl⟩ : ∃ z, u_c = z := ⟨_, rfl⟩
        refine lv_istore (lv' := [(4, .int r12), (2, .long i5), (0, .ref (adr E 11 0)), (1, .ref (adr E o 0))]) hx hb dX9_readSeller_50 hl (by decide) rfl (fun ls hl => ?_)
        refine lv_iload hx hb dX9_readSeller_52 (lv_at hl 0 rfl) ?_
        refine lv_iconst (v := (-1)) hx hb dX9_readSeller_54 (by decide) ?_
        refine lv_icmp_ne (tgt := 60) hx hb dX9_readSeller_55 (by decide) (fun c15 => ?_) (fun c15 => ?_)
        · have hf := fn hf c15
          refine lv_aload_n hx hb dX9_readSeller_60 rfl (lv_at hl 2 rfl) ?_
          refine lv_iconst (v := 0) hx hb dX9_readSeller_61 (by decide) ?_
          refine lv_bipush (v := 99) hx hb dX9_readSeller_62 (by decide) ?_
          obtain ⟨r16, π17, τ18, hc, hf⟩ := fb3 hf
          refine x_i hp (y_V (As := [.int 0, .int 99]) (rest := []) cx hp hl (c_X7_takeNumber l hN hT e11 e12 e13 hc) (cw_X9_70 cx (mc := 0) (ms := 0) rfl rfl ⟨by decide, by decide⟩) (rC_X7 hN cx hp) rfl rfl (Nat.le_of_ble_eq_true rfl) dX9_readSeller_64 ⟨Nat.zero_le _, Nat.zero_le _⟩) (fun r_c u_c H locs hq hp => ?_)
          obtain ⟨rfl, e_0, e_1, n_u⟩ := hq
          have e11 := e_0
          have e12 := e_1
          have eM := (n_u _ d_M_11 d_M_12).trans eM
          have e13 := (n_u _ d_13_11 d_13_12).trans e13
          have fr : ∀ q, q ≠ o → q ≠ 11 → q ≠ 12 → u_c q = σ q := fun q h0 h1 h2 => (n_u q h1 h2).trans (fr q h0 h1 h2)
          obtain ⟨u, rfl⟩ : ∃ z, u_c = z := ⟨_, rfl⟩
          refine lv_istore (lv' := [(5, .int r16), (4, .int r12), (2, .long i5), (0, .ref (adr E 11 0)), (1, .ref (adr E o 0))]) hx hb dX9_readSeller_67 hl (by decide) rfl (fun ls hl => ?_)
          refine lv_iload hx hb dX9_readSeller_69 (lv_at hl 0 rfl) ?_
          refine lv_iconst (v := (-1)) hx hb dX9_readSeller_71 (by decide) ?_
          refine lv_icmp_ne (tgt := 77) hx hb dX9_readSeller_72 (by decide) (fun c19 => ?_) (fun c19 => ?_)
          · have hf := fn hf c19
            refine lv_aload_n hx hb dX9_readSeller_77 rfl (lv_at hl 4 rfl) ?_
            refine gF_X9_93 ho eM hN cx hp dX9_readSeller_78 ?_
            obtain ⟨i20, x_e, hf⟩ := fl hf
            refine lv_nm x_e ?_
            refine lv_istore (lv' := [(6, .int i20), (5, .int r16), (4, .int r12), (2, .long i5), (0, .ref (adr E 11 0)), (1, .ref (adr E o 0))]) hx hb dX9_readSeller_81 hl (by decide) rfl (fun ls hl => ?_)
            refine lv_aload_n hx hb dX9_readSeller_83 rfl (lv_at hl 5 rfl) ?_
            refine lv_lload_n hx hb dX9_readSeller_84 rfl (lv_at hl 3 rfl) ?_
            refine lv_iload hx hb dX9_readSeller_85 (lv_at hl 2 rfl) ?_
            refine lv_iload hx hb dX9_readSeller_87 (lv_at hl 1 rfl) ?_
            obtain ⟨μ21, hc, hf⟩ := fb hf
            refine x_v hp (y_V (As := [.long i5, .int r12, .int r16]) (rest := []) cx hp hl (c_X5_addSeller l hN hT ho eM hc) (cw_X9_96 cx (mc := 0) (ms := 0) rfl rfl ⟨by decide, by decide⟩) (rC_X5 ho hN cx hp) rfl rfl (Nat.le_of_ble_eq_true rfl) dX9_readSeller_89 ⟨Nat.zero_le _, Nat.zero_le _⟩) (fun u_c H locs hq hp => ?_)
            obtain ⟨e_0, n_u⟩ := hq
            have eM := e_0
            have e11 := (n_u _ d_11_M).trans e11
            have e12 := (n_u _ d_12_M).trans e12
            have e13 := (n_u _ d_13_M).trans e13
            have fr : ∀ q, q ≠ o → q ≠ 11 → q ≠ 12 → u_c q = σ q := fun q h0 h1 h2 => (n_u q h0).trans (fr q h0 h1 h2)
            obtain ⟨u, rfl⟩ : ∃ z, u_c = z := ⟨_, rfl⟩
            refine lv_aload_n hx hb dX9_readSeller_92 rfl (lv_at hl 4 rfl) ?_
            refine lv_aload_n hx hb dX9_readSeller_93 rfl (lv_at hl 5 rfl) ?_
            refine lv_iload hx hb dX9_readSeller_94 (lv_at hl 0 rfl) ?_
            obtain ⟨r22, μ23, π24, τ25, hc, hf⟩ := fb4 hf
            refine x_i hp (y_S (As := [.ref (adr E 11 0), .ref (adr E o 0), .int i20]) (rest := []) cx hp hl (c_X9_readWishes l hN hT ho eM e11 e12 e13 hc) (cw_X9_100 cx (mc := 0) (ms := 0) rfl rfl ⟨by decide, by decide⟩) rfl rfl (Nat.le_of_ble_eq_true rfl) dX9_readSeller_96 ⟨Nat.zero_le _, Nat.zero_le _⟩) (fun r_c u_c H locs hq hp => ?_)
            obtain ⟨rfl, e_0, e_1, e_2, n_u⟩ := hq
            have eM := e_0
            have e11 := e_1
            have e12 := e_2
            have e13 := (n_u _ d_13_M d_13_11 d_13_12).trans e13
            have fr : ∀ q, q ≠ o → q ≠ 11 → q ≠ 12 → u_c q = σ q := fun q h0 h1 h2 => (n_u q h0 h1 h2).trans (fr q h0 h1 h2)
            obtain ⟨u, rfl⟩ : ∃ z, u_c = z := ⟨_, rfl⟩
            refine lv_if_eq (tgt := 123) hx hb dX9_readSeller_99 (by decide) (fun c26 => ?_) (fun c26 => ?_)
            · have hf := fp hf c26
              refine lv_iconst (v := 0) hx hb dX9_readSeller_123 (by decide) ?_
              cases hf
              exact r_z cx hp rfl ⟨rfl, eM, e11, e12, fr⟩ dX9_readSeller_124
            · have hf := fn hf c26
              refine lv_aload_n hx hb dX9_readSeller_102 rfl (lv_at hl 4 rfl) ?_
              refine lv_aload_n hx hb dX9_readSeller_103 rfl (lv_at hl 5 rfl) ?_
              refine lv_iload hx hb dX9_readSeller_104 (lv_at hl 0 rfl) ?_
              obtain ⟨r27, μ28, π29, τ30, hc, hf⟩ := fb4 hf
              refine x_i hp (y_S (As := [.ref (adr E 11 0), .ref (adr E o 0), .int i20]) (rest := []) cx hp hl (c_X9_readPlace l hN hT ho eM e11 e12 e13 hc) (cw_X9_104 cx (mc := 0) (ms := 0) rfl rfl ⟨by decide, by decide⟩) rfl rfl (Nat.le_of_ble_eq_true rfl) dX9_readSeller_106 ⟨Nat.zero_le _, Nat.zero_le _⟩) (fun r_c u_c H locs hq hp => ?_)
              obtain ⟨rfl, e_0, e_1, e_2, n_u⟩ := hq
              have eM := e_0
              have e11 := e_1
              have e12 := e_2
              have e13 := (n_u _ d_13_M d_13_11 d_13_12).trans e13
              have fr : ∀ q, q ≠ o → q ≠ 11 → q ≠ 12 → u_c q = σ q := fun q h0 h1 h2 => (n_u q h0 h1 h2).trans (fr q h0 h1 h2)
              obtain ⟨u, rfl⟩ : ∃ z, u_c = z := ⟨_, rfl⟩
              refine lv_if_eq (tgt := 123) hx hb dX9_readSeller_109 (by decide) (fun c31 => ?_) (fun c31 => ?_)
              · have hf := fp hf c31
                refine lv_iconst (v := 0) hx hb dX9_readSeller_123 (by decide) ?_
                cases hf
                exact r_z cx hp rfl ⟨rfl, eM, e11, e12, fr⟩ dX9_readSeller_124
              · have hf := fn hf c31
                refine lv_aload_n hx hb dX9_readSeller_112 rfl (lv_at hl 4 rfl) ?_
                obtain ⟨r32, π33, τ34, hc, hf⟩ := fb3 hf
                refine x_i hp (y_V (As := []) (rest := []) cx hp hl (c_X7_takeSemicolon l hN hT e11 e12 e13 hc) (cw_X9_25 cx (mc := 0) (ms := 0) rfl rfl ⟨by decide, by decide⟩) (rC_X7 hN cx hp) rfl rfl (Nat.le_of_ble_eq_true rfl) dX9_readSeller_113 ⟨Nat.zero_le _, Nat.zero_le _⟩) (fun r_c u_c H locs hq hp => ?_)
                obtain ⟨rfl, e_0, e_1, n_u⟩ := hq
                have e11 := e_0
                have e12 := e_1
                have eM := (n_u _ d_M_11 d_M_12).trans eM
                have e13 := (n_u _ d_13_11 d_13_12).trans e13
                have fr : ∀ q, q ≠ o → q ≠ 11 → q ≠ 12 → u_c q = σ q := fun q h0 h1 h2 => (n_u q h1 h2).trans (fr q h0 h1 h2)
                obtain ⟨u, rfl⟩ : ∃ z, u_c = z := ⟨_, rfl⟩
                refine lv_if_eq (tgt := 123) hx hb dX9_readSeller_116 (by decide) (fun c35 => ?_) (fun c35 => ?_)
                · have hf := fp hf c35
                  refine lv_iconst (v := 0) hx hb dX9_readSeller_123 (by decide) ?_
                  cases hf
                  exact r_z cx hp rfl ⟨rfl, eM, e11, e12, fr⟩ dX9_readSeller_124
                · have hf := fn hf c35
                  refine lv_iconst (v := 1) hx hb dX9_readSeller_119 (by decide) ?_
                  refine lv_goto (tgt := 124) hx hb dX9_readSeller_120 (by decide) ?_
                  cases hf
                  exact r_z cx hp rfl ⟨rfl, eM, e11, e12, fr⟩ dX9_readSeller_124
          · have hf := fp hf c19
            refine lv_iconst (v := 0) hx hb dX9_readSeller_75 (by decide) ?_
            cases hf
            exact r_z cx hp rfl ⟨rfl, eM, e11, e12, fr⟩ dX9_readSeller_76
        · have hf := fp hf c15
          refine lv_iconst (v := 0) hx hb dX9_readSeller_58 (by decide) ?_
          cases hf
          exact r_z cx hp rfl ⟨rfl, eM, e11, e12, fr⟩ dX9_readSeller_59
      · have hf := fp hf c11
        refine lv_iconst (v := 0) hx hb dX9_readSeller_40 (by decide) ?_
        cases hf
        exact r_z cx hp rfl ⟨rfl, eM, e11, e12, fr⟩ dX9_readSeller_41
    · have hf := fn hf c7
      refine lv_iconst (v := 1) hx hb dX9_readSeller_29 (by decide) ?_
      refine lv_goto (tgt := 34) hx hb dX9_readSeller_30 (by decide) ?_
      obtain ⟨r36, π37, τ38, hc, hf⟩ := fb3 hf
      refine x_i hp (y_S (As := [.ref (adr E 11 0), .int 1]) (rest := []) cx hp hl (c_X9_takeNewName l hN hT e11 e12 e13 hc) (cw_X9_66 cx (mc := 0) (ms := 0) rfl rfl ⟨by decide, by decide⟩) rfl rfl (Nat.le_of_ble_eq_true rfl) dX9_readSeller_34 ⟨Nat.zero_le _, Nat.zero_le _⟩) (fun r_c u_c H locs hq hp => ?_)
      obtain ⟨rfl, e_0, e_1, n_u⟩ := hq
      have e11 := e_0
      have e12 := e_1
      have eM := (n_u _ d_M_11 d_M_12).trans eM
      have e13 := (n_u _ d_13_11 d_13_12).trans e13
      have fr : ∀ q, q ≠ o → q ≠ 11 → q ≠ 12 → u_c q = σ q := fun q h0 h1 h2 => (n_u q h1 h2).trans (fr q h0 h1 h2)
      obtain ⟨u, rfl⟩ : ∃ z, u_c = z := ⟨_, rfl⟩
      refine lv_if_ne (tgt := 42) hx hb dX9_readSeller_37 (by decide) (fun c39 => ?_) (fun c39 => ?_)
      · have hf := fn hf c39
        refine lv_aload_n hx hb dX9_readSeller_42 rfl (lv_at hl 1 rfl) ?_
        refine lv_iconst (v := 0) hx hb dX9_readSeller_43 (by decide) ?_
        refine lv_sipush (v := 9999) hx hb dX9_readSeller_44 (by decide) ?_
        obtain ⟨r40, π41, τ42, hc, hf⟩ := fb3 hf
        refine x_i hp (y_V (As := [.int 0, .int 9999]) (rest := []) cx hp hl (c_X7_takeNumber l hN hT e11 e12 e13 hc) (cw_X9_70 cx (mc := 0) (ms := 0) rfl rfl ⟨by decide, by decide⟩) (rC_X7 hN cx hp) rfl rfl (Nat.le_of_ble_eq_true rfl) dX9_readSeller_47 ⟨Nat.zero_le _, Nat.zero_le _⟩) (fun r_c u_c H locs hq hp => ?_)
        obtain ⟨rfl, e_0, e_1, n_u⟩ := hq
        have e11 := e_0
        have e12 := e_1
        have eM := (n_u _ d_M_11 d_M_12).trans eM
        have e13 := (n_u _ d_13_11 d_13_12).trans e13
        have fr : ∀ q, q ≠ o → q ≠ 11 → q ≠ 12 → u_c q = σ q := fun q h0 h1 h2 => (n_u q h1 h2).trans (fr q h0 h1 h2)
        obtain ⟨u, rfl⟩ : ∃ z, u_c = z := ⟨_, rfl⟩
        refine lv_istore (lv' := [(4, .int r40), (2, .long i5), (0, .ref (adr E 11 0)), (1, .ref (adr E o 0))]) hx hb dX9_readSeller_50 hl (by decide) rfl (fun ls hl => ?_)
        refine lv_iload hx hb dX9_readSeller_52 (lv_at hl 0 rfl) ?_
        refine lv_iconst (v := (-1)) hx hb dX9_readSeller_54 (by decide) ?_
        refine lv_icmp_ne (tgt := 60) hx hb dX9_readSeller_55 (by decide) (fun c43 => ?_) (fun c43 => ?_)
        · have hf := fn hf c43
          refine lv_aload_n hx hb dX9_readSeller_60 rfl (lv_at hl 2 rfl) ?_
          refine lv_iconst (v := 0) hx hb dX9_readSeller_61 (by decide) ?_
          refine lv_bipush (v := 99) hx hb dX9_readSeller_62 (by decide) ?_
          obtain ⟨r44, π45, τ46, hc, hf⟩ := fb3 hf
          refine x_i hp (y_V (As := [.int 0, .int 99]) (rest := []) cx hp hl (c_X7_takeNumber l hN hT e11 e12 e13 hc) (cw_X9_70 cx (mc := 0) (ms := 0) rfl rfl ⟨by decide, by decide⟩) (rC_X7 hN cx hp) rfl rfl (Nat.le_of_ble_eq_true rfl) dX9_readSeller_64 ⟨Nat.zero_le _, Nat.zero_le _⟩) (fun r_c u_c H locs hq hp => ?_)
          obtain ⟨rfl, e_0, e_1, n_u⟩ := hq
          have e11 := e_0
          have e12 := e_1
          have eM := (n_u _ d_M_11 d_M_12).trans eM
          have e13 := (n_u _ d_13_11 d_13_12).trans e13
          have fr : ∀ q, q ≠ o → q ≠ 11 → q ≠ 12 → u_c q = σ q := fun q h0 h1 h2 => (n_u q h1 h2).trans (fr q h0 h1 h2)
          obtain ⟨u, rfl⟩ : ∃ z, u_c = z := ⟨_, rfl⟩
          refine lv_istore (lv' := [(5, .int r44), (4, .int r40), (2, .long i5), (0, .ref (adr E 11 0)), (1, .ref (adr E o 0))]) hx hb dX9_readSeller_67 hl (by decide) rfl (fun ls hl => ?_)
          refine lv_iload hx hb dX9_readSeller_69 (lv_at hl 0 rfl) ?_
          refine lv_iconst (v := (-1)) hx hb dX9_readSeller_71 (by decide) ?_
          refine lv_icmp_ne (tgt := 77) hx hb dX9_readSeller_72 (by decide) (fun c47 => ?_) (fun c47 => ?_)
          · have hf := fn hf c47
            refine lv_aload_n hx hb dX9_readSeller_77 rfl (lv_at hl 4 rfl) ?_
            refine gF_X9_93 ho eM hN cx hp dX9_readSeller_78 ?_
            obtain ⟨i48, x_e, hf⟩ := fl hf
            refine lv_nm x_e ?_
            refine lv_istore (lv' := [(6, .int i48), (5, .int r44), (4, .int r40), (2, .long i5), (0, .ref (adr E 11 0)), (1, .ref (adr E o 0))]) hx hb dX9_readSeller_81 hl (by decide) rfl (fun ls hl => ?_)
            refine lv_aload_n hx hb dX9_readSeller_83 rfl (lv_at hl 5 rfl) ?_
            refine lv_lload_n hx hb dX9_readSeller_84 rfl (lv_at hl 3 rfl) ?_
            refine lv_iload hx hb dX9_readSeller_85 (lv_at hl 2 rfl) ?_
            refine lv_iload hx hb dX9_readSeller_87 (lv_at hl 1 rfl) ?_
            obtain ⟨μ49, hc, hf⟩ := fb hf
            refine x_v hp (y_V (As := [.long i5, .int r40, .int r44]) (rest := []) cx hp hl (c_X5_addSeller l hN hT ho eM hc) (cw_X9_96 cx (mc := 0) (ms := 0) rfl rfl ⟨by decide, by decide⟩) (rC_X5 ho hN cx hp) rfl rfl (Nat.le_of_ble_eq_true rfl) dX9_readSeller_89 ⟨Nat.zero_le _, Nat.zero_le _⟩) (fun u_c H locs hq hp => ?_)
            obtain ⟨e_0, n_u⟩ := hq
            have eM := e_0
            have e11 := (n_u _ d_11_M).trans e11
            have e12 := (n_u _ d_12_M).trans e12
            have e13 := (n_u _ d_13_M).trans e13
            have fr : ∀ q, q ≠ o → q ≠ 11 → q ≠ 12 → u_c q = σ q := fun q h0 h1 h2 => (n_u q h0).trans (fr q h0 h1 h2)
            obtain ⟨u, rfl⟩ : ∃ z, u_c = z := ⟨_, rfl⟩
            refine lv_aload_n hx hb dX9_readSeller_92 rfl (lv_at hl 4 rfl) ?_
            refine lv_aload_n hx hb dX9_readSeller_93 rfl (lv_at hl 5 rfl) ?_
            refine lv_iload hx hb dX9_readSeller_94 (lv_at hl 0 rfl) ?_
            obtain ⟨r50, μ51, π52, τ53, hc, hf⟩ := fb4 hf
            refine x_i hp (y_S (As := [.ref (adr E 11 0), .ref (adr E o 0), .int i48]) (rest := []) cx hp hl (c_X9_readWishes l hN hT ho eM e11 e12 e13 hc) (cw_X9_100 cx (mc := 0) (ms := 0) rfl rfl ⟨by decide, by decide⟩) rfl rfl (Nat.le_of_ble_eq_true rfl) dX9_readSeller_96 ⟨Nat.zero_le _, Nat.zero_le _⟩) (fun r_c u_c H locs hq hp => ?_)
            obtain ⟨rfl, e_0, e_1, e_2, n_u⟩ := hq
            have eM := e_0
            have e11 := e_1
            have e12 := e_2
            have e13 := (n_u _ d_13_M d_13_11 d_13_12).trans e13
            have fr : ∀ q, q ≠ o → q ≠ 11 → q ≠ 12 → u_c q = σ q := fun q h0 h1 h2 => (n_u q h0 h1 h2).trans (fr q h0 h1 h2)
            obtain ⟨u, rfl⟩ : ∃ z, u_c = z := ⟨_, rfl⟩
            refine lv_if_eq (tgt := 123) hx hb dX9_readSeller_99 (by decide) (fun c54 => ?_) (fun c54 => ?_)
            · have hf := fp hf c54
              refine lv_iconst (v := 0) hx hb dX9_readSeller_123 (by decide) ?_
              cases hf
              exact r_z cx hp rfl ⟨rfl, eM, e11, e12, fr⟩ dX9_readSeller_124
            · have hf := fn hf c54
              refine lv_aload_n hx hb dX9_readSeller_102 rfl (lv_at hl 4 rfl) ?_
              refine lv_aload_n hx hb dX9_readSeller_103 rfl (lv_at hl 5 rfl) ?_
              refine lv_iload hx hb dX9_readSeller_104 (lv_at hl 0 rfl) ?_
              obtain ⟨r55, μ56, π57, τ58, hc, hf⟩ := fb4 hf
              refine x_i hp (y_S (As := [.ref (adr E 11 0), .ref (adr E o 0), .int i48]) (rest := []) cx hp hl (c_X9_readPlace l hN hT ho eM e11 e12 e13 hc) (cw_X9_104 cx (mc := 0) (ms := 0) rfl rfl ⟨by decide, by decide⟩) rfl rfl (Nat.le_of_ble_eq_true rfl) dX9_readSeller_106 ⟨Nat.zero_le _, Nat.zero_le _⟩) (fun r_c u_c H locs hq hp => ?_)
              obtain ⟨rfl, e_0, e_1, e_2, n_u⟩ := hq
              have eM := e_0
              have e11 := e_1
              have e12 := e_2
              have e13 := (n_u _ d_13_M d_13_11 d_13_12).trans e13
              have fr : ∀ q, q ≠ o → q ≠ 11 → q ≠ 12 → u_c q = σ q := fun q h0 h1 h2 => (n_u q h0 h1 h2).trans (fr q h0 h1 h2)
              obtain ⟨u, rfl⟩ : ∃ z, u_c = z := ⟨_, rfl⟩
              refine lv_if_eq (tgt := 123) hx hb dX9_readSeller_109 (by decide) (fun c59 => ?_) (fun c59 => ?_)
              · have hf := fp hf c59
                refine lv_iconst (v := 0) hx hb dX9_readSeller_123 (by decide) ?_
                cases hf
                exact r_z cx hp rfl ⟨rfl, eM, e11, e12, fr⟩ dX9_readSeller_124
              · have hf := fn hf c59
                refine lv_aload_n hx hb dX9_readSeller_112 rfl (lv_at hl 4 rfl) ?_
                obtain ⟨r60, π61, τ62, hc, hf⟩ := fb3 hf
                refine x_i hp (y_V (As := []) (rest := []) cx hp hl (c_X7_takeSemicolon l hN hT e11 e12 e13 hc) (cw_X9_25 cx (mc := 0) (ms := 0) rfl rfl ⟨by decide, by decide⟩) (rC_X7 hN cx hp) rfl rfl (Nat.le_of_ble_eq_true rfl) dX9_readSeller_113 ⟨Nat.zero_le _, Nat.zero_le _⟩) (fun r_c u_c H locs hq hp => ?_)
                obtain ⟨rfl, e_0, e_1, n_u⟩ := hq
                have e11 := e_0
                have e12 := e_1
                have eM := (n_u _ d_M_11 d_M_12).trans eM
                have e13 := (n_u _ d_13_11 d_13_12).trans e13
                have fr : ∀ q, q ≠ o → q ≠ 11 → q ≠ 12 → u_c q = σ q := fun q h0 h1 h2 => (n_u q h1 h2).trans (fr q h0 h1 h2)
                obtain ⟨u, rfl⟩ : ∃ z, u_c = z := ⟨_, rfl⟩
                refine lv_if_eq (tgt := 123) hx hb dX9_readSeller_116 (by decide) (fun c63 => ?_) (fun c63 => ?_)
                · have hf := fp hf c63
                  refine lv_iconst (v := 0) hx hb dX9_readSeller_123 (by decide) ?_
                  cases hf
                  exact r_z cx hp rfl ⟨rfl, eM, e11, e12, fr⟩ dX9_readSeller_124
                · have hf := fn hf c63
                  refine lv_iconst (v := 1) hx hb dX9_readSeller_119 (by decide) ?_
                  refine lv_goto (tgt := 124) hx hb dX9_readSeller_120 (by decide) ?_
                  cases hf
                  exact r_z cx hp rfl ⟨rfl, eM, e11, e12, fr⟩ dX9_readSeller_124
          · have hf := fp hf c47
            refine lv_iconst (v := 0) hx hb dX9_readSeller_75 (by decide) ?_
            cases hf
            exact r_z cx hp rfl ⟨rfl, eM, e11, e12, fr⟩ dX9_readSeller_76
        · have hf := fp hf c43
          refine lv_iconst (v := 0) hx hb dX9_readSeller_58 (by decide) ?_
          cases hf
          exact r_z cx hp rfl ⟨rfl, eM, e11, e12, fr⟩ dX9_readSeller_59
      · have hf := fp hf c39
        refine lv_iconst (v := 0) hx hb dX9_readSeller_40 (by decide) ?_
        cases hf
        exact r_z cx hp rfl ⟨rfl, eM, e11, e12, fr⟩ dX9_readSeller_41
  · have hf := fp hf c4
    refine lv_iconst (v := 0) hx hb dX9_readSeller_9 (by decide) ?_
    cases hf
    exact r_z cx hp rfl ⟨rfl, eM, e11, e12, fr⟩ dX9_readSeller_10

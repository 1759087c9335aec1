abbrev rm_X9_readSellers : Room := { frames := 8, cells := 0, slots := 0, locals := 179 }
set_option maxRecDepth 100000 in
set_option maxHeartbeats 4000000 in
theorem L_X9_readSellers_2 {p : Program} {e : Env} {s : State} {m : MethodId} {args : Array Value} {below : List Frame} {meth : Method} {c : Code} (l : Launch) {E : Ev} (hN : 129 ≤ eN E) (hT : St E) {σ : SM} (cx : Cx E p s m meth c args RX9 cX9_readSellers 3 (some .boolean)) {o : Nat} (ho : o < 11) {β : OM} {rv : Int32} {μ' : OM} {π' : OM} {τ' : OM} : ∀ (n : Nat) {x2 : Int32} {μ : OM} {π : OM} {τ : OM}, f_X9_readSellers_2 β n x2 μ π τ = some (rv, μ', π', τ') → ∀ {u : SM} {H : Heap} {locs : List Loc} {ls : Array Slot}, u o = μ → u 11 = π → u 12 = τ → u 13 = β → (∀ q, q ≠ o → q ≠ 11 → q ≠ 12 → u q = σ q) → Hp E u s H locs → lv_has ls 3 [(0, .ref (adr E 11 0)), (1, .ref (adr E o 0)), (2, .int x2)] → W p l e rm_X9_readSellers s m args below meth c H locs 0 0 (MQ below (va_Qi (fun r u => rv = r ∧ u o = μ' ∧ u 11 = π' ∧ u 12 = τ' ∧ ∀ q, q ≠ o → q ≠ 11 → q ≠ 12 → u q = σ q) (fun u t => Wu E u t) (eA E)) args s 0 0 (eA E)) (F0 m 2 ls []) := by
  have hx := cx.1.1
  have hb := cx.1.2.1
  have d_M_11 : (o : Nat) ≠ 11 := by omega
  have d_M_12 : (o : Nat) ≠ 12 := by omega
  have d_11_M : (11 : Nat) ≠ o := by omega
  have d_11_12 : (11 : Nat) ≠ 12 := by decide
  have d_12_M : (12 : Nat) ≠ o := by omega
  have d_12_11 : (12 : Nat) ≠ 11 := by decide
  have d_13_M : (13 : Nat) ≠ o := by omega
  have d_13_11 : (13 : Nat) ≠ 11 := by decide
  have d_13_12 : (13 : Nat) ≠ 12 := by decide
  intro n
  induction n with
  | zero =>
    intro x2 μ π τ hf
    exact absurd hf (by simp [f_X9_readSellers_2])
  | succ n ih =>
    intro x2 μ π τ hf u H locs ls eM e11 e12 e13 fr hp hl
    rw [f_X9_readSellers_2] at hf
    refine lv_iload_n hx hb dX9_readSellers_2 rfl (lv_at hl 2 rfl) ?_
    refine lv_bipush (v := 8) hx hb dX9_readSellers_3 (by decide) ?_
    refine lv_icmp_ge (tgt := 40) hx hb dX9_readSellers_5 (by decide) (fun c1 => ?_) (fun c1 => ?_)
    · have hf := fp hf c1
      refine lv_aload_n hx hb dX9_readSellers_40 rfl (lv_at hl 0 rfl) ?_
      refine gF_X9_38 rfl hN cx hp dX9_readSellers_41 ?_
      refine gF_X9_78 e12 hN cx hp dX9_readSellers_44 ?_
      refine lv_if_ne (tgt := 52) hx hb dX9_readSellers_47 (by decide) (fun c2 => ?_) (fun c2 => ?_)
      · have hf := fn hf c2
        refine lv_aload_n hx hb dX9_readSellers_52 rfl (lv_at hl 0 rfl) ?_
        refine lv_aload_n hx hb dX9_readSellers_53 rfl (lv_at hl 0 rfl) ?_
        refine gF_X9_38 rfl hN cx hp dX9_readSellers_54 ?_
        refine va_ldcS hx hb cx.1.2.2.2.1 (cx.2.2.1.2.2.2 4 _ rfl) dX9_readSellers_57 ?_
        obtain ⟨r3, hc, hf⟩ := fb hf
        refine x_i hp (y_V (As := [.ref (eK E 4)]) (rest := [.ref (adr E 11 0)]) cx hp hl (c_X10_isWord l hN hT e12 e13 hc) (cw_X9_44 cx (mc := 0) (ms := 0) rfl rfl ⟨by decide, by decide⟩) (rC_X10 hN cx hp) rfl rfl (Nat.le_of_ble_eq_true rfl) dX9_readSellers_59 ⟨Nat.zero_le _, Nat.zero_le _⟩) (fun r_c u_c H locs hq hp => ?_)
        obtain ⟨rfl, rfl⟩ := hq
        refine lv_if_eq (tgt := 69) hx hb dX9_readSellers_62 (by decide) (fun c4 => ?_) (fun c4 => ?_)
        · have hf := fp hf c4
          refine lv_iconst (v := 1) hx hb dX9_readSellers_69 (by decide) ?_
          obtain ⟨r5, π6, hc, hf⟩ := fb2 hf
          refine x_i hp (y_V (As := [.int 1]) (rest := []) cx hp hl (c_X7_fail l hN hT e11 e12 hc) (cw_X9_52 cx (mc := 0) (ms := 0) rfl rfl ⟨by decide, by decide⟩) (rC_X7 hN cx hp) rfl rfl (Nat.le_of_ble_eq_true rfl) dX9_readSellers_70 ⟨Nat.zero_le _, Nat.zero_le _⟩) (fun r_c u_c H locs hq hp => ?_)
          obtain ⟨rfl, e_0, n_u⟩ := hq
          have e11 := e_0
          have eM := (n_u _ d_M_11).trans eM
          have e12 := (n_u _ d_12_11).trans e12
          have e13 := (n_u _ d_13_11).trans e13
          have fr : ∀ q, q ≠ o → q ≠ 11 → q ≠ 12 → u_c q = σ q := fun q h0 h1 h2 => (n_u q h1).trans (fr q h0 h1 h2)
          obtain ⟨u, rfl⟩ : ∃ z, u_c = z := ⟨_, rfl⟩
          obtain ⟨g_z, hf⟩ := fg hf
          cases hf
          exact r_z cx hp (bz_n g_z) ⟨rfl, eM, e11, e12, fr⟩ dX9_readSellers_73
        · have hf := fn hf c4
          refine lv_iconst (v := 5) hx hb dX9_readSellers_65 (by decide) ?_
          refine lv_goto (tgt := 70) hx hb dX9_readSellers_66 (by decide) ?_
          obtain ⟨r7, π8, hc, hf⟩ := fb2 hf
          refine x_i hp (y_V (As := [.int 5]) (rest := []) cx hp hl (c_X7_fail l hN hT e11 e12 hc) (cw_X9_52 cx (mc := 0) (ms := 0) rfl rfl ⟨by decide, by decide⟩) (rC_X7 hN cx hp) rfl rfl (Nat.le_of_ble_eq_true rfl) dX9_readSellers_70 ⟨Nat.zero_le _, Nat.zero_le _⟩) (fun r_c u_c H locs hq hp => ?_)
          obtain ⟨rfl, e_0, n_u⟩ := hq
          have e11 := e_0
          have eM := (n_u _ d_M_11).trans eM
          have e12 := (n_u _ d_12_11).trans e12
          have e13 := (n_u _ d_13_11).trans e13
          have fr : ∀ q, q ≠ o → q ≠ 11 → q ≠ 12 → u_c q = σ q := fun q h0 h1 h2 => (n_u q h1).trans (fr q h0 h1 h2)
          obtain ⟨u, rfl⟩ : ∃ z, u_c = z := ⟨_, rfl⟩
          obtain ⟨g_z, hf⟩ := fg hf
          cases hf
          exact r_z cx hp (bz_n g_z) ⟨rfl, eM, e11, e12, fr⟩ dX9_readSellers_73
      · have hf := fp hf c2
        refine lv_iconst (v := 1) hx hb dX9_readSellers_50 (by decide) ?_
        cases hf
        exact r_z cx hp rfl ⟨rfl, eM, e11, e12, fr⟩ dX9_readSellers_51
    · have hf := fn hf c1
      refine lv_iload_n hx hb dX9_readSellers_8 rfl (lv_at hl 2 rfl) ?_
      refine lv_if_le (tgt := 24) hx hb dX9_readSellers_9 (by decide) (fun c9 => ?_) (fun c9 => ?_)
      · have hf := fp hf c9
        refine lv_aload_n hx hb dX9_readSellers_24 rfl (lv_at hl 0 rfl) ?_
        refine lv_aload_n hx hb dX9_readSellers_25 rfl (lv_at hl 1 rfl) ?_
        obtain ⟨r10, μ11, π12, τ13, hc, hf⟩ := fb4 hf
        refine x_i hp (y_S (As := [.ref (adr E 11 0), .ref (adr E o 0)]) (rest := []) cx hp hl (c_X9_readSeller l hN hT ho eM e11 e12 e13 hc) (cw_X9_85 cx (mc := 0) (ms := 0) rfl rfl ⟨by decide, by decide⟩) rfl rfl (Nat.le_of_ble_eq_true rfl) dX9_readSellers_26 ⟨Nat.zero_le _, Nat.zero_le _⟩) (fun r_c u_c H locs hq hp => ?_)
        obtain ⟨rfl, e_0, e_1, e_2, n_u⟩ := hq
        have eM := e_0
        have e11 := e_1
        have e12 := e_2
        have e13 := (n_u _ d_13_M d_13_11 d_13_12).trans e13
        have fr : ∀ q, q ≠ o → q ≠ 11 → q ≠ 12 → u_c q = σ q := fun q h0 h1 h2 => (n_u q h0 h1 h2).trans (fr q h0 h1 h2)
        obtain ⟨u, rfl⟩ : ∃ z, u_c = z := ⟨_, rfl⟩
        refine lv_if_ne (tgt := 34) hx hb dX9_readSellers_29 (by decide) (fun c14 => ?_) (fun c14 => ?_)
        · have hf := fn hf c14
          refine lv_iinc (v := (x2 + 1)) (lv' := [(2, .int (x2 + 1)), (0, .ref (adr E 11 0)), (1, .ref (adr E o 0))]) hx hb dX9_readSellers_34 hl (k := 2) rfl rfl (by decide) rfl (fun ls hl => ?_)
          refine lv_goto (tgt := 2) hx hb dX9_readSellers_37 (by decide) ?_
          exact ih  hf eM e11 e12 e13 fr hp (lv_sub hl [1, 2, 0] rfl)
        · have hf := fp hf c14
          refine lv_iconst (v := 0) hx hb dX9_readSellers_32 (by decide) ?_
          cases hf
          exact r_z cx hp rfl ⟨rfl, eM, e11, e12, fr⟩ dX9_readSellers_33
      · have hf := fn hf c9
        refine lv_aload_n hx hb dX9_readSellers_12 rfl (lv_at hl 0 rfl) ?_
        refine gF_X9_38 rfl hN cx hp dX9_readSellers_13 ?_
        refine gF_X9_78 e12 hN cx hp dX9_readSellers_16 ?_
        refine lv_if_ne (tgt := 24) hx hb dX9_readSellers_19 (by decide) (fun c15 => ?_) (fun c15 => ?_)
        · have hf := fn hf c15
          refine lv_aload_n hx hb dX9_readSellers_24 rfl (lv_at hl 0 rfl) ?_
          refine lv_aload_n hx hb dX9_readSellers_25 rfl (lv_at hl 1 rfl) ?_
          obtain ⟨r16, μ17, π18, τ19, hc, hf⟩ := fb4 hf
          refine x_i hp (y_S (As := [.ref (adr E 11 0), .ref (adr E o 0)]) (rest := []) cx hp hl (c_X9_readSeller l hN hT ho eM e11 e12 e13 hc) (cw_X9_85 cx (mc := 0) (ms := 0) rfl rfl ⟨by decide, by decide⟩) rfl rfl (Nat.le_of_ble_eq_true rfl) dX9_readSellers_26 ⟨Nat.zero_le _, Nat.zero_le _⟩) (fun r_c u_c H locs hq hp => ?_)
          obtain ⟨rfl, e_0, e_1, e_2, n_u⟩ := hq
          have eM := e_0
          have e11 := e_1
          have e12 := e_2
          have e13 := (n_u _ d_13_M d_13_11 d_13_12).trans e13
          have fr : ∀ q, q ≠ o → q ≠ 11 → q ≠ 12 → u_c q = σ q := fun q h0 h1 h2 => (n_u q h0 h1 h2).trans (fr q h0 h1 h2)
          obtain ⟨u, rfl⟩ : ∃ z, u_c = z := ⟨_, rfl⟩
          refine lv_if_ne (tgt := 34) hx hb dX9_readSellers_29 (by decide) (fun c20 => ?_) (fun c20 => ?_)
          · have hf := fn hf c20
            refine lv_iinc (v := (x2 + 1)) (lv' := [(2, .int (x2 + 1)), (0, .ref (adr E 11 0)), (1, .ref (adr E o 0))]) hx hb dX9_readSellers_34 hl (k := 2) rfl rfl (by decide) rfl (fun ls hl => ?_)
            refine lv_goto (tgt := 2) hx hb dX9_readSellers_37 (by decide) ?_
            exact ih  hf eM e11 e12 e13 fr hp (lv_sub hl [1, 2, 0] rfl)
          · have hf := fp hf c20
            refine lv_iconst (v := 0) hx hb dX9_readSellers_32 (by decide) ?_
            cases hf
            exact r_z cx hp rfl ⟨rfl, eM, e11, e12, fr⟩ dX9_readSellers_33
        · have hf := fp hf c15
          refine lv_iconst (v := 1) hx hb dX9_readSellers_22 (by decide) ?_
          cases hf
          exact r_z cx hp rfl ⟨rfl, eM, e11, e12, fr⟩ dX9_readSellers_23
set_option maxRecDepth 100000 in
set_option maxHeartbeats 4000000 in
theorem c_X9_readSellers (l : Launch) {E : Ev} (hN : 129 ≤ eN E) (hT : St E) {σ : SM} {o : Nat} {μ : OM} (ho : o < 11) (eM : σ o = μ) {π : OM} (e11 : σ 11 = π) {τ : OM} (e12 : σ 12 = τ) {β : OM} (e13 : σ 13 = β)  {rv : Int32} {μ' : OM} {π' : OM} {τ' : OM} (hf : f_X9_readSellers μ π τ β = some (rv, μ', π', τ')) : Met l yX9_readSellers (wC yX9_readSellers cX9_readSellers 3 (some .boolean)) rm_X9_readSellers (va_Pc [.ref (adr E 11 0), .ref (adr E o 0)] (Wu E σ)) (va_Qi (fun r u => rv = r ∧ u o = μ' ∧ u 11 = π' ∧ u 12 = τ' ∧ ∀ q, q ≠ o → q ≠ 11 → q ≠ 12 → u q = σ q) (fun u t => Wu E u t) (eA E)) 0 0 (eA E) := by
  refine g_entry (lv := [(0, .ref (adr E 11 0)), (1, .ref (adr E o 0))]) (by decide) (Nat.le_of_ble_eq_true rfl) rfl ?_
  intro p e s m below meth c cx hp ls hl
  have hx := cx.1.1
  have hb := cx.1.2.1
  have fr : ∀ q, q ≠ o → q ≠ 11 → q ≠ 12 → σ q = σ q := fun _ _ _ _ => rfl
  have d_M_11 : (o : Nat) ≠ 11 := by omega
  have d_M_12 : (o : Nat) ≠ 12 := by omega
  have d_11_M : (11 : Nat) ≠ o := by omega
  have d_11_12 : (11 : Nat) ≠ 12 := by decide
  have d_12_M : (12 : Nat) ≠ o := by omega
  have d_12_11 : (12 : Nat) ≠ 11 := by decide
  have d_13_M : (13 : Nat) ≠ o := by omega
  have d_13_11 : (13 : Nat) ≠ 11 := by decide
  have d_13_12 : (13 : Nat) ≠ 12 := by decide
  unfold f_X9_readSellers at hf
  refine lv_iconst (v := 0) hx hb dX9_readSellers_0 (by decide) ?_
  refine lv_istore_n (lv' := [(2, .int 0), (0, .ref (adr E 11 0)), (1, .ref (adr E o 0))]) hx hb dX9_readSellers_1 rfl hl (by decide) rfl (fun ls hl => ?_)
  exact L_X9_readSellers_2 l hN hT cx ho _ hf eM e11 e12 e13 fr hp (lv_sub hl [1, 2, 0] rfl)
abbrev rm_X9_read : Room := { frames := 9, cells := 0, slots := 0, locals := 201 }
set_option maxRecDepth 100000 in
set_option maxHeartbeats 4000000 in
theorem c_X9_read (l : Launch) {E : Ev} (hN : 129 ≤ eN E) (hT : St E) {σ : SM} {o : Nat} {μ : OM} (ho : o < 11) (eM : σ o = μ) {π : OM} (e11 : σ 11 = π) {τ : OM} (e12 : σ 12 = τ) {β : OM} (e13 : σ 13 = β)  {rv : Int32} {μ' : OM} {π' : OM} {τ' : OM} (hf : f_X9_read μ π τ β = some (rv, μ', π', τ')) : Met l yX9_read (wC yX9_read cX9_read 2 (some .boolean)) rm_X9_read (va_Pc [.ref (adr E 11 0), .ref (adr E o 0)] (Wu E σ)) (va_Qi (fun r u => rv = r ∧ u o = μ' ∧ u 11 = π' ∧ u 12 = τ' ∧ ∀ q, q ≠ o → q ≠ 11 → q ≠ 12 → u q = σ q) (fun u t => Wu E u t) (eA E)) 0 0 (eA E) := by
  refine g_entry (lv := [(0, .ref (adr E 11 0)), (1, .ref (adr E o 0))]) (by decide) (Nat.le_of_ble_eq_true rfl) rfl ?_
  intro p e s m below meth c cx hp ls hl
  have hx := cx.1.1
  have hb := cx.1.2.1
  have fr : ∀ q, q ≠ o → q ≠ 11 → q ≠ 12 → σ q = σ q := fun _ _ _ _ => rfl
  have d_M_11 : (o : Nat) ≠ 11 := by omega
  have d_M_12 : (o : Nat) ≠ 12 := by omega
  have d_11_M : (11 : Nat) ≠ o := by omega
  have d_11_12 : (11 : Nat) ≠ 12 := by decide
  have d_12_M : (12 : Nat) ≠ o := by omega
  have d_12_11 : (12 : Nat) ≠ 11 := by decide
  have d_13_M : (13 : Nat) ≠ o := by omega
  have d_13_11 : (13 : Nat) ≠ 11 := by decide
  have d_13_12 : (13 : Nat) ≠ 12 := by decide
  unfold f_X9_read at hf
  refine lv_aload_n hx hb dX9_read_0 rfl (lv_at hl 1 rfl) ?_
  obtain ⟨μ1, hc, hf⟩ := fb hf
  refine x_v hp (y_V (As := []) (rest := []) cx hp hl (c_X5_clear l hN hT ho eM hc) (cw_X9_9 cx (mc := 0) (ms := 0) rfl rfl ⟨by decide, by decide⟩) (rC_X5 ho hN cx hp) rfl rfl (Nat.le_of_ble_eq_true rfl) dX9_read_1 ⟨Nat.zero_le _, Nat.zero_le _⟩) (fun u_c H locs hq hp => ?_)
  obtain ⟨e_0, n_u⟩ := hq
  have eM := e_0
  have e11 := (n_u _ d_11_M).trans e11
  have e12 := (n_u _ d_12_M).trans e12
  have e13 := (n_u _ d_13_M).trans e13
  have fr : ∀ q, q ≠ o → q ≠ 11 → q ≠ 12 → u_c q = σ q := fun q h0 h1 h2 => (n_u q h0).trans (fr q h0 h1 h2)
  obtain ⟨u, rfl⟩ : ∃ z, u_c = z := ⟨_, rfl⟩
  refine lv_aload_n hx hb dX9_read_4 rfl (lv_at hl 0 rfl) ?_
  obtain ⟨π2, τ3, hc, hf⟩ := fb2 hf
  refine x_v hp (y_V (As := []) (rest := []) cx hp hl (c_X7_begin l hN hT e11 e12 e13 hc) (cw_X9_14 cx (mc := 0) (ms := 0) rfl rfl ⟨by decide, by decide⟩) (rC_X7 hN cx hp) rfl rfl (Nat.le_of_ble_eq_true rfl) dX9_read_5 ⟨Nat.zero_le _, Nat.zero_le _⟩) (fun u_c H locs hq hp => ?_)
  obtain ⟨e_0, e_1, n_u⟩ := hq
  have e11 := e_0
  have e12 := e_1
  have eM := (n_u _ d_M_11 d_M_12).trans eM
  have e13 := (n_u _ d_13_11 d_13_12).trans e13
  have fr : ∀ q, q ≠ o → q ≠ 11 → q ≠ 12 → u_c q = σ q := fun q h0 h1 h2 => (n_u q h1 h2).trans (fr q h0 h1 h2)
  obtain ⟨u, rfl⟩ : ∃ z, u_c = z := ⟨_, rfl⟩
  refine lv_aload_n hx hb dX9_read_8 rfl (lv_at hl 0 rfl) ?_
  refine va_ldcS hx hb cx.1.2.2.2.1 (cx.2.2.1.2.2.2 1 _ rfl) dX9_read_9 ?_
  obtain ⟨r4, π5, τ6, hc, hf⟩ := fb3 hf
  refine x_i hp (y_V (As := [.ref (eK E 1)]) (rest := []) cx hp hl (c_X7_takeWord l hN hT e11 e12 e13 hc) (cw_X9_21 cx (mc := 0) (ms := 0) rfl rfl ⟨by decide, by decide⟩) (rC_X7 hN cx hp) rfl rfl (Nat.le_of_ble_eq_true rfl) dX9_read_11 ⟨Nat.zero_le _, Nat.zero_le _⟩) (fun r_c u_c H locs hq hp => ?_)
  obtain ⟨rfl, e_0, e_1, n_u⟩ := hq
  have e11 := e_0
  have e12 := e_1
  have eM := (n_u _ d_M_11 d_M_12).trans eM
  have e13 := (n_u _ d_13_11 d_13_12).trans e13
  have fr : ∀ q, q ≠ o → q ≠ 11 → q ≠ 12 → u_c q = σ q := fun q h0 h1 h2 => (n_u q h1 h2).trans (fr q h0 h1 h2)
  obtain ⟨u, rfl⟩ : ∃ z, u_c = z := ⟨_, rfl⟩
  refine lv_if_eq (tgt := 44) hx hb dX9_read_14 (by decide) (fun c7 => ?_) (fun c7 => ?_)
  · have hf := fp hf c7
    refine lv_iconst (v := 0) hx hb dX9_read_44 (by decide) ?_
    cases hf
    exact r_z cx hp rfl ⟨rfl, eM, e11, e12, fr⟩ dX9_read_45
  · have hf := fn hf c7
    refine lv_aload_n hx hb dX9_read_17 rfl (lv_at hl 0 rfl) ?_
    obtain ⟨r8, π9, τ10, hc, hf⟩ := fb3 hf
    refine x_i hp (y_V (As := []) (rest := []) cx hp hl (c_X7_takeSemicolon l hN hT e11 e12 e13 hc) (cw_X9_25 cx (mc := 0) (ms := 0) rfl rfl ⟨by decide, by decide⟩) (rC_X7 hN cx hp) rfl rfl (Nat.le_of_ble_eq_true rfl) dX9_read_18 ⟨Nat.zero_le _, Nat.zero_le _⟩) (fun r_c u_c H locs hq hp => ?_)
    obtain ⟨rfl, e_0, e_1, n_u⟩ := hq
    have e11 := e_0
    have e12 := e_1
    have eM := (n_u _ d_M_11 d_M_12).trans eM
    have e13 := (n_u _ d_13_11 d_13_12).trans e13
    have fr : ∀ q, q ≠ o → q ≠ 11 → q ≠ 12 → u_c q = σ q := fun q h0 h1 h2 => (n_u q h1 h2).trans (fr q h0 h1 h2)
    obtain ⟨u, rfl⟩ : ∃ z, u_c = z := ⟨_, rfl⟩
    refine lv_if_eq (tgt := 44) hx hb dX9_read_21 (by decide) (fun c11 => ?_) (fun c11 => ?_)
    · have hf := fp hf c11
      refine lv_iconst (v := 0) hx hb dX9_read_44 (by decide) ?_
      cases hf
      exact r_z cx hp rfl ⟨rfl, eM, e11, e12, fr⟩ dX9_read_45
    · have hf := fn hf c11
      refine lv_aload_n hx hb dX9_read_24 rfl (lv_at hl 0 rfl) ?_
      refine lv_aload_n hx hb dX9_read_25 rfl (lv_at hl 1 rfl) ?_
      obtain ⟨r12, μ13, π14, τ15, hc, hf⟩ := fb4 hf
      refine x_i hp (y_S (As := [.ref (adr E 11 0), .ref (adr E o 0)]) (rest := []) cx hp hl (c_X9_readStalls l hN hT ho eM e11 e12 e13 hc) (cw_X9_29 cx (mc := 0) (ms := 0) rfl rfl ⟨by decide, by decide⟩) rfl rfl (Nat.le_of_ble_eq_true rfl) dX9_read_26 ⟨Nat.zero_le _, Nat.zero_le _⟩) (fun r_c u_c H locs hq hp => ?_)
      obtain ⟨rfl, e_0, e_1, e_2, n_u⟩ := hq
      have eM := e_0
      have e11 := e_1
      have e12 := e_2
      have e13 := (n_u _ d_13_M d_13_11 d_13_12).trans e13
      have fr : ∀ q, q ≠ o → q ≠ 11 → q ≠ 12 → u_c q = σ q := fun q h0 h1 h2 => (n_u q h0 h1 h2).trans (fr q h0 h1 h2)
      obtain ⟨u, rfl⟩ : ∃ z, u_c = z := ⟨_, rfl⟩
      refine lv_if_eq (tgt := 44) hx hb dX9_read_29 (by decide) (fun c16 => ?_) (fun c16 => ?_)
      · have hf := fp hf c16
        refine lv_iconst (v := 0) hx hb dX9_read_44 (by decide) ?_
        cases hf
        exact r_z cx hp rfl ⟨rfl, eM, e11, e12, fr⟩ dX9_read_45
      · have hf := fn hf c16
        refine lv_aload_n hx hb dX9_read_32 rfl (lv_at hl 0 rfl) ?_
        refine lv_aload_n hx hb dX9_read_33 rfl (lv_at hl 1 rfl) ?_
        obtain ⟨r17, μ18, π19, τ20, hc, hf⟩ := fb4 hf
        refine x_i hp (y_S (As := [.ref (adr E 11 0), .ref (adr E o 0)]) (rest := []) cx hp hl (c_X9_readSellers l hN hT ho eM e11 e12 e13 hc) (cw_X9_35 cx (mc := 0) (ms := 0) rfl rfl ⟨by decide, by decide⟩) rfl rfl (Nat.le_of_ble_eq_true rfl) dX9_read_34 ⟨Nat.zero_le _, Nat.zero_le _⟩) (fun r_c u_c H locs hq hp => ?_)
        obtain ⟨rfl, e_0, e_1, e_2, n_u⟩ := hq
        have eM := e_0
        have e11 := e_1
        have e12 := e_2
        have e13 := (n_u _ d_13_M d_13_11 d_13_12).trans e13
        have fr : ∀ q, q ≠ o → q ≠ 11 → q ≠ 12 → u_c q = σ q := fun q h0 h1 h2 => (n_u q h0 h1 h2).trans (fr q h0 h1 h2)
        obtain ⟨u, rfl⟩ : ∃ z, u_c = z := ⟨_, rfl⟩
        refine lv_if_eq (tgt := 44) hx hb dX9_read_37 (by decide) (fun c21 => ?_) (fun c21 => ?_)
        · have hf := fp hf c21
          refine lv_iconst (v := 0) hx hb dX9_read_44 (by decide) ?_
          cases hf
          exact r_z cx hp rfl ⟨rfl, eM, e11, e12, fr⟩ dX9_read_45
        · have hf := fn hf c21
          refine lv_iconst (v := 1) hx hb dX9_read_40 (by decide) ?_
          refine lv_goto (tgt := 45) hx hb dX9_read_41 (by decide) ?_
          cases hf
          exact r_z cx hp rfl ⟨rfl, eM, e11, e12, fr⟩ dX9_read_45

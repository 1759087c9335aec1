abbrev rm_X13_occupantOf : Room := { frames := 2, cells := 0, slots := 0, locals := 44 }
set_option maxRecDepth 100000 in
set_option maxHeartbeats 4000000 in
theorem c_X13_occupantOf (l : Launch) {E : Ev} (hN : 146 ≤ eN E) (hT : St E) {σ : SM} {ρ : OM} (e20 : σ 20 = ρ) {p1 : Int32} {rv : Int32} {ρ' : OM} (hf : f_X13_occupantOf p1 ρ = some (rv, ρ')) : Met l yX13_occupantOf (wC yX13_occupantOf cX13_occupantOf 2 (some .int)) rm_X13_occupantOf (va_Pc [.ref (adr E 20 0), .int p1] (Wu E σ)) (va_Qi (fun r u => rv = r ∧ u 20 = ρ' ∧ ∀ q, q ≠ 20 → u q = σ q) (fun u t => Wu E u t) (eA E)) 0 0 (eA E) := by
  refine g_entry (lv := [(0, .ref (adr E 20 0)), (1, .int p1)]) (by decide) (Nat.le_of_ble_eq_true rfl) rfl ?_
  intro p e s m below meth c cx hp ls hl
  have hx := cx.1.1
  have hb := cx.1.2.1
  have fr : ∀ q, q ≠ 20 → σ q = σ q := fun _ _ => rfl
  unfold f_X13_occupantOf at hf
  refine lv_aload_n hx hb dX13_occupantOf_0 rfl (lv_at hl 0 rfl) ?_
  refine lv_aload_n hx hb dX13_occupantOf_1 rfl (lv_at hl 0 rfl) ?_
  refine lv_iload_n hx hb dX13_occupantOf_2 rfl (lv_at hl 1 rfl) ?_
  obtain ⟨r1, hc, hf⟩ := fb hf
  refine x_i hp (y_V (As := [.int p1]) (rest := [.ref (adr E 20 0)]) cx hp hl (c_X13_isStall l hN hT e20 hc) (cw_X13_94 cx (mc := 0) (ms := 0) rfl rfl ⟨by decide, by decide⟩) (rC_X13 hN cx hp) rfl rfl (Nat.le_of_ble_eq_true rfl) dX13_occupantOf_3 ⟨Nat.zero_le _, Nat.zero_le _⟩) (fun r_c u_c H locs hq hp => ?_)
  obtain ⟨rfl, rfl⟩ := hq
  obtain ⟨r2, ρ3, hc, hf⟩ := fb2 hf
  refine x_i hp (y_V (As := [.int r1]) (rest := []) cx hp hl (c_X13_wants l hN hT e20 hc) (cw_X13_322 cx (mc := 0) (ms := 0) rfl rfl ⟨by decide, by decide⟩) (rC_X13 hN cx hp) rfl rfl (Nat.le_of_ble_eq_true rfl) dX13_occupantOf_6 ⟨Nat.zero_le _, Nat.zero_le _⟩) (fun r_c u_c H locs hq hp => ?_)
  obtain ⟨rfl, e_0, n_u⟩ := hq
  have e20 := e_0
  have fr : ∀ q, q ≠ 20 → u_c q = σ q := fun q h0 => (n_u q h0).trans (fr q h0)
  obtain ⟨u, rfl⟩ : ∃ z, u_c = z := ⟨_, rfl⟩
  refine lv_if_eq (tgt := 20) hx hb dX13_occupantOf_9 (by decide) (fun c4 => ?_) (fun c4 => ?_)
  · have hf := fp hf c4
    refine lv_iconst (v := 0) hx hb dX13_occupantOf_20 (by decide) ?_
    cases hf
    exact r_i cx hp ⟨rfl, e20, fr⟩ dX13_occupantOf_21
  · have hf := fn hf c4
    refine lv_aload_n hx hb dX13_occupantOf_12 rfl (lv_at hl 0 rfl) ?_
    refine lv_iload_n hx hb dX13_occupantOf_13 rfl (lv_at hl 1 rfl) ?_
    obtain ⟨r5, hc, hf⟩ := fb hf
    refine x_i hp (y_V (As := [.int p1]) (rest := []) cx hp hl (c_X13_occupant l hN hT e20 hc) (cw_X13_115 cx (mc := 0) (ms := 0) rfl rfl ⟨by decide, by decide⟩) (rC_X13 hN cx hp) rfl rfl (Nat.le_of_ble_eq_true rfl) dX13_occupantOf_14 ⟨Nat.zero_le _, Nat.zero_le _⟩) (fun r_c u_c H locs hq hp => ?_)
    obtain ⟨rfl, rfl⟩ := hq
    refine lv_goto (tgt := 21) hx hb dX13_occupantOf_17 (by decide) ?_
    cases hf
    exact r_i cx hp ⟨rfl, e20, fr⟩ dX13_occupantOf_21
abbrev rm_X13_priorityOf : Room := { frames := 2, cells := 0, slots := 0, locals := 43 }
set_option maxRecDepth 100000 in
set_option maxHeartbeats 4000000 in
theorem c_X13_priorityOf (l : Launch) {E : Ev} (hN : 146 ≤ eN E) (hT : St E) {σ : SM} {ρ : OM} (e20 : σ 20 = ρ) {p1 : Int32} {rv : Int32} {ρ' : OM} (hf : f_X13_priorityOf p1 ρ = some (rv, ρ')) : Met l yX13_priorityOf (wC yX13_priorityOf cX13_priorityOf 2 (some .int)) rm_X13_priorityOf (va_Pc [.ref (adr E 20 0), .int p1] (Wu E σ)) (va_Qi (fun r u => rv = r ∧ u 20 = ρ' ∧ ∀ q, q ≠ 20 → u q = σ q) (fun u t => Wu E u t) (eA E)) 0 0 (eA E) := by
  refine g_entry (lv := [(0, .ref (adr E 20 0)), (1, .int p1)]) (by decide) (Nat.le_of_ble_eq_true rfl) rfl ?_
  intro p e s m below meth c cx hp ls hl
  have hx := cx.1.1
  have hb := cx.1.2.1
  have fr : ∀ q, q ≠ 20 → σ q = σ q := fun _ _ => rfl
  unfold f_X13_priorityOf at hf
  refine lv_aload_n hx hb dX13_priorityOf_0 rfl (lv_at hl 0 rfl) ?_
  refine lv_aload_n hx hb dX13_priorityOf_1 rfl (lv_at hl 0 rfl) ?_
  refine lv_iload_n hx hb dX13_priorityOf_2 rfl (lv_at hl 1 rfl) ?_
  obtain ⟨r1, hc, hf⟩ := fb hf
  refine x_i hp (y_V (As := [.int p1]) (rest := [.ref (adr E 20 0)]) cx hp hl (c_X13_isSeller l hN hT e20 hc) (cw_X13_339 cx (mc := 0) (ms := 0) rfl rfl ⟨by decide, by decide⟩) (rC_X13 hN cx hp) rfl rfl (Nat.le_of_ble_eq_true rfl) dX13_priorityOf_3 ⟨Nat.zero_le _, Nat.zero_le _⟩) (fun r_c u_c H locs hq hp => ?_)
  obtain ⟨rfl, rfl⟩ := hq
  obtain ⟨r2, ρ3, hc, hf⟩ := fb2 hf
  refine x_i hp (y_V (As := [.int r1]) (rest := []) cx hp hl (c_X13_wants l hN hT e20 hc) (cw_X13_322 cx (mc := 0) (ms := 0) rfl rfl ⟨by decide, by decide⟩) (rC_X13 hN cx hp) rfl rfl (Nat.le_of_ble_eq_true rfl) dX13_priorityOf_6 ⟨Nat.zero_le _, Nat.zero_le _⟩) (fun r_c u_c H locs hq hp => ?_)
  obtain ⟨rfl, e_0, n_u⟩ := hq
  have e20 := e_0
  have fr : ∀ q, q ≠ 20 → u_c q = σ q := fun q h0 => (n_u q h0).trans (fr q h0)
  obtain ⟨u, rfl⟩ : ∃ z, u_c = z := ⟨_, rfl⟩
  refine lv_if_eq (tgt := 20) hx hb dX13_priorityOf_9 (by decide) (fun c4 => ?_) (fun c4 => ?_)
  · have hf := fp hf c4
    refine lv_iconst (v := 0) hx hb dX13_priorityOf_20 (by decide) ?_
    cases hf
    exact r_i cx hp ⟨rfl, e20, fr⟩ dX13_priorityOf_21
  · have hf := fn hf c4
    refine lv_aload_n hx hb dX13_priorityOf_12 rfl (lv_at hl 0 rfl) ?_
    refine lv_iload_n hx hb dX13_priorityOf_13 rfl (lv_at hl 1 rfl) ?_
    obtain ⟨r5, hc, hf⟩ := fb hf
    refine x_i hp (y_V (As := [.int p1]) (rest := []) cx hp hl (c_X13_positionOf l hN hT e20 hc) (cw_X13_155 cx (mc := 0) (ms := 0) rfl rfl ⟨by decide, by decide⟩) (rC_X13 hN cx hp) rfl rfl (Nat.le_of_ble_eq_true rfl) dX13_priorityOf_14 ⟨Nat.zero_le _, Nat.zero_le _⟩) (fun r_c u_c H locs hq hp => ?_)
    obtain ⟨rfl, rfl⟩ := hq
    refine lv_goto (tgt := 21) hx hb dX13_priorityOf_17 (by decide) ?_
    cases hf
    exact r_i cx hp ⟨rfl, e20, fr⟩ dX13_priorityOf_21
abbrev rm_X13_preferenceCount : Room := { frames := 2, cells := 0, slots := 0, locals := 43 }
set_option maxRecDepth 100000 in
set_option maxHeartbeats 4000000 in
theorem c_X13_preferenceCount (l : Launch) {E : Ev} (hN : 146 ≤ eN E) (hT : St E) {σ : SM} {ρ : OM} (e20 : σ 20 = ρ) {p1 : Int32} {rv : Int32} {ρ' : OM} (hf : f_X13_preferenceCount p1 ρ = some (rv, ρ')) : Met l yX13_preferenceCount (wC yX13_preferenceCount cX13_preferenceCount 2 (some .int)) rm_X13_preferenceCount (va_Pc [.ref (adr E 20 0), .int p1] (Wu E σ)) (va_Qi (fun r u => rv = r ∧ u 20 = ρ' ∧ ∀ q, q ≠ 20 → u q = σ q) (fun u t => Wu E u t) (eA E)) 0 0 (eA E) := by
  refine g_entry (lv := [(0, .ref (adr E 20 0)), (1, .int p1)]) (by decide) (Nat.le_of_ble_eq_true rfl) rfl ?_
  intro p e s m below meth c cx hp ls hl
  have hx := cx.1.1
  have hb := cx.1.2.1
  have fr : ∀ q, q ≠ 20 → σ q = σ q := fun _ _ => rfl
  unfold f_X13_preferenceCount at hf
  refine lv_aload_n hx hb dX13_preferenceCount_0 rfl (lv_at hl 0 rfl) ?_
  refine lv_aload_n hx hb dX13_preferenceCount_1 rfl (lv_at hl 0 rfl) ?_
  refine lv_iload_n hx hb dX13_preferenceCount_2 rfl (lv_at hl 1 rfl) ?_
  obtain ⟨r1, hc, hf⟩ := fb hf
  refine x_i hp (y_V (As := [.int p1]) (rest := [.ref (adr E 20 0)]) cx hp hl (c_X13_isSeller l hN hT e20 hc) (cw_X13_339 cx (mc := 0) (ms := 0) rfl rfl ⟨by decide, by decide⟩) (rC_X13 hN cx hp) rfl rfl (Nat.le_of_ble_eq_true rfl) dX13_preferenceCount_3 ⟨Nat.zero_le _, Nat.zero_le _⟩) (fun r_c u_c H locs hq hp => ?_)
  obtain ⟨rfl, rfl⟩ := hq
  obtain ⟨r2, ρ3, hc, hf⟩ := fb2 hf
  refine x_i hp (y_V (As := [.int r1]) (rest := []) cx hp hl (c_X13_wants l hN hT e20 hc) (cw_X13_322 cx (mc := 0) (ms := 0) rfl rfl ⟨by decide, by decide⟩) (rC_X13 hN cx hp) rfl rfl (Nat.le_of_ble_eq_true rfl) dX13_preferenceCount_6 ⟨Nat.zero_le _, Nat.zero_le _⟩) (fun r_c u_c H locs hq hp => ?_)
  obtain ⟨rfl, e_0, n_u⟩ := hq
  have e20 := e_0
  have fr : ∀ q, q ≠ 20 → u_c q = σ q := fun q h0 => (n_u q h0).trans (fr q h0)
  obtain ⟨u, rfl⟩ : ∃ z, u_c = z := ⟨_, rfl⟩
  refine lv_if_eq (tgt := 21) hx hb dX13_preferenceCount_9 (by decide) (fun c4 => ?_) (fun c4 => ?_)
  · have hf := fp hf c4
    refine lv_iconst (v := 0) hx hb dX13_preferenceCount_21 (by decide) ?_
    cases hf
    exact r_i cx hp ⟨rfl, e20, fr⟩ dX13_preferenceCount_22
  · have hf := fn hf c4
    refine lv_aload_n hx hb dX13_preferenceCount_12 rfl (lv_at hl 0 rfl) ?_
    refine lv_iload_n hx hb dX13_preferenceCount_13 rfl (lv_at hl 1 rfl) ?_
    refine lv_iconst (v := 4) hx hb dX13_preferenceCount_14 (by decide) ?_
    obtain ⟨r5, hc, hf⟩ := fb hf
    refine x_i hp (y_V (As := [.int p1, .int 4]) (rest := []) cx hp hl (c_X13_of l hN hT e20 hc) (cw_X13_98 cx (mc := 0) (ms := 0) rfl rfl ⟨by decide, by decide⟩) (rC_X13 hN cx hp) rfl rfl (Nat.le_of_ble_eq_true rfl) dX13_preferenceCount_15 ⟨Nat.zero_le _, Nat.zero_le _⟩) (fun r_c u_c H locs hq hp => ?_)
    obtain ⟨rfl, rfl⟩ := hq
    refine lv_goto (tgt := 22) hx hb dX13_preferenceCount_18 (by decide) ?_
    cases hf
    exact r_i cx hp ⟨rfl, e20, fr⟩ dX13_preferenceCount_22
abbrev rm_X13_preferenceAt : Room := { frames := 2, cells := 0, slots := 0, locals := 43 }
set_option maxRecDepth 100000 in
set_option maxHeartbeats 4000000 in
theorem c_X13_preferenceAt (l : Launch) {E : Ev} (hN : 146 ≤ eN E) (hT : St E) {σ : SM} {ρ : OM} (e20 : σ 20 = ρ) {p1 : Int32} {p2 : Int32} {rv : Int32} {ρ' : OM} (hf : f_X13_preferenceAt p1 p2 ρ = some (rv, ρ')) : Met l yX13_preferenceAt (wC yX13_preferenceAt cX13_preferenceAt 4 (some .int)) rm_X13_preferenceAt (va_Pc [.ref (adr E 20 0), .int p1, .int p2] (Wu E σ)) (va_Qi (fun r u => rv = r ∧ u 20 = ρ' ∧ ∀ q, q ≠ 20 → u q = σ q) (fun u t => Wu E u t) (eA E)) 0 0 (eA E) := by
  refine g_entry (lv := [(0, .ref (adr E 20 0)), (1, .int p1), (2, .int p2)]) (by decide) (Nat.le_of_ble_eq_true rfl) rfl ?_
  intro p e s m below meth c cx hp ls hl
  have hx := cx.1.1
  have hb := cx.1.2.1
  have fr : ∀ q, q ≠ 20 → σ q = σ q := fun _ _ => rfl
  unfold f_X13_preferenceAt at hf
  refine lv_aload_n hx hb dX13_preferenceAt_0 rfl (lv_at hl 0 rfl) ?_
  refine lv_iload_n hx hb dX13_preferenceAt_1 rfl (lv_at hl 1 rfl) ?_
  obtain ⟨r1, hc, hf⟩ := fb hf
  refine x_i hp (y_V (As := [.int p1]) (rest := []) cx hp hl (c_X13_isSeller l hN hT e20 hc) (cw_X13_339 cx (mc := 0) (ms := 0) rfl rfl ⟨by decide, by decide⟩) (rC_X13 hN cx hp) rfl rfl (Nat.le_of_ble_eq_true rfl) dX13_preferenceAt_2 ⟨Nat.zero_le _, Nat.zero_le _⟩) (fun r_c u_c H locs hq hp => ?_)
  obtain ⟨rfl, rfl⟩ := hq
  refine lv_if_eq (tgt := 28) hx hb dX13_preferenceAt_5 (by decide) (fun c2 => ?_) (fun c2 => ?_)
  · have hf := fp hf c2
    refine lv_iconst (v := 0) hx hb dX13_preferenceAt_28 (by decide) ?_
    refine lv_istore_n (lv' := [(3, .int 0), (0, .ref (adr E 20 0)), (1, .int p1), (2, .int p2)]) hx hb dX13_preferenceAt_29 rfl hl (by decide) rfl (fun ls hl => ?_)
    refine lv_aload_n hx hb dX13_preferenceAt_30 rfl (lv_at hl 1 rfl) ?_
    refine lv_iload_n hx hb dX13_preferenceAt_31 rfl (lv_at hl 0 rfl) ?_
    obtain ⟨r3, ρ4, hc, hf⟩ := fb2 hf
    refine x_i hp (y_V (As := [.int 0]) (rest := []) cx hp hl (c_X13_wants l hN hT e20 hc) (cw_X13_322 cx (mc := 0) (ms := 0) rfl rfl ⟨by decide, by decide⟩) (rC_X13 hN cx hp) rfl rfl (Nat.le_of_ble_eq_true rfl) dX13_preferenceAt_32 ⟨Nat.zero_le _, Nat.zero_le _⟩) (fun r_c u_c H locs hq hp => ?_)
    obtain ⟨rfl, e_0, n_u⟩ := hq
    have e20 := e_0
    have fr : ∀ q, q ≠ 20 → u_c q = σ q := fun q h0 => (n_u q h0).trans (fr q h0)
    obtain ⟨u, rfl⟩ : ∃ z, u_c = z := ⟨_, rfl⟩
    refine lv_if_eq (tgt := 49) hx hb dX13_preferenceAt_35 (by decide) (fun c5 => ?_) (fun c5 => ?_)
    · have hf := fp hf c5
      refine lv_iconst (v := 0) hx hb dX13_preferenceAt_49 (by decide) ?_
      cases hf
      exact r_i cx hp ⟨rfl, e20, fr⟩ dX13_preferenceAt_50
    · have hf := fn hf c5
      refine lv_aload_n hx hb dX13_preferenceAt_38 rfl (lv_at hl 1 rfl) ?_
      refine lv_iload_n hx hb dX13_preferenceAt_39 rfl (lv_at hl 2 rfl) ?_
      refine lv_iconst (v := 5) hx hb dX13_preferenceAt_40 (by decide) ?_
      refine lv_iload_n hx hb dX13_preferenceAt_41 rfl (lv_at hl 3 rfl) ?_
      refine lv_iadd hx hb dX13_preferenceAt_42 ?_
      obtain ⟨r6, hc, hf⟩ := fb hf
      refine x_i hp (y_V (As := [.int p1, .int (5 + p2)]) (rest := []) cx hp hl (c_X13_of l hN hT e20 hc) (cw_X13_98 cx (mc := 0) (ms := 0) rfl rfl ⟨by decide, by decide⟩) (rC_X13 hN cx hp) rfl rfl (Nat.le_of_ble_eq_true rfl) dX13_preferenceAt_43 ⟨Nat.zero_le _, Nat.zero_le _⟩) (fun r_c u_c H locs hq hp => ?_)
      obtain ⟨rfl, rfl⟩ := hq
      refine lv_goto (tgt := 50) hx hb dX13_preferenceAt_46 (by decide) ?_
      cases hf
      exact r_i cx hp ⟨rfl, e20, fr⟩ dX13_preferenceAt_50
  · have hf := fn hf c2
    refine lv_iload_n hx hb dX13_preferenceAt_8 rfl (lv_at hl 2 rfl) ?_
    refine lv_iconst (v := 0) hx hb dX13_preferenceAt_9 (by decide) ?_
    refine lv_aload_n hx hb dX13_preferenceAt_10 rfl (lv_at hl 0 rfl) ?_
    refine lv_iload_n hx hb dX13_preferenceAt_11 rfl (lv_at hl 1 rfl) ?_
    refine lv_iconst (v := 4) hx hb dX13_preferenceAt_12 (by decide) ?_
    obtain ⟨r7, hc, hf⟩ := fb hf
    refine x_i hp (y_V (As := [.int p1, .int 4]) (rest := [.int 0, .int p2]) cx hp hl (c_X13_of l hN hT e20 hc) (cw_X13_98 cx (mc := 0) (ms := 0) rfl rfl ⟨by decide, by decide⟩) (rC_X13 hN cx hp) rfl rfl (Nat.le_of_ble_eq_true rfl) dX13_preferenceAt_13 ⟨Nat.zero_le _, Nat.zero_le _⟩) (fun r_c u_c H locs hq hp => ?_)
    obtain ⟨rfl, rfl⟩ := hq
    refine lv_iconst (v := 1) hx hb dX13_preferenceAt_16 (by decide) ?_
    refine lv_isub hx hb dX13_preferenceAt_17 ?_
    obtain ⟨r8, hc, hf⟩ := fb hf
    refine x_i hp (y_S (As := [.int p2, .int 0, .int (r7 - 1)]) (rest := []) cx hp hl (c_X13_isBetween l hN hT  hc) (cw_X13_90 cx (mc := 0) (ms := 0) rfl rfl ⟨by decide, by decide⟩) rfl rfl (Nat.le_of_ble_eq_true rfl) dX13_preferenceAt_18 ⟨Nat.zero_le _, Nat.zero_le _⟩) (fun r_c u_c H locs hq hp => ?_)
    obtain ⟨rfl, rfl⟩ := hq
    refine lv_if_eq (tgt := 28) hx hb dX13_preferenceAt_21 (by decide) (fun c9 => ?_) (fun c9 => ?_)
    · have hf := fp hf c9
      refine lv_iconst (v := 0) hx hb dX13_preferenceAt_28 (by decide) ?_
      refine lv_istore_n (lv' := [(3, .int 0), (0, .ref (adr E 20 0)), (1, .int p1), (2, .int p2)]) hx hb dX13_preferenceAt_29 rfl hl (by decide) rfl (fun ls hl => ?_)
      refine lv_aload_n hx hb dX13_preferenceAt_30 rfl (lv_at hl 1 rfl) ?_
      refine lv_iload_n hx hb dX13_preferenceAt_31 rfl (lv_at hl 0 rfl) ?_
      obtain ⟨r10, ρ11, hc, hf⟩ := fb2 hf
      refine x_i hp (y_V (As := [.int 0]) (rest := []) cx hp hl (c_X13_wants l hN hT e20 hc) (cw_X13_322 cx (mc := 0) (ms := 0) rfl rfl ⟨by decide, by decide⟩) (rC_X13 hN cx hp) rfl rfl (Nat.le_of_ble_eq_true rfl) dX13_preferenceAt_32 ⟨Nat.zero_le _, Nat.zero_le _⟩) (fun r_c u_c H locs hq hp => ?_)
      obtain ⟨rfl, e_0, n_u⟩ := hq
      have e20 := e_0
      have fr : ∀ q, q ≠ 20 → u_c q = σ q := fun q h0 => (n_u q h0).trans (fr q h0)
      obtain ⟨u, rfl⟩ : ∃ z, u_c = z := ⟨_, rfl⟩
      refine lv_if_eq (tgt := 49) hx hb dX13_preferenceAt_35 (by decide) (fun c12 => ?_) (fun c12 => ?_)
      · have hf := fp hf c12
        refine lv_iconst (v := 0) hx hb dX13_preferenceAt_49 (by decide) ?_
        cases hf
        exact r_i cx hp ⟨rfl, e20, fr⟩ dX13_preferenceAt_50
      · have hf := fn hf c12
        refine lv_aload_n hx hb dX13_preferenceAt_38 rfl (lv_at hl 1 rfl) ?_
        refine lv_iload_n hx hb dX13_preferenceAt_39 rfl (lv_at hl 2 rfl) ?_
        refine lv_iconst (v := 5) hx hb dX13_preferenceAt_40 (by decide) ?_
        refine lv_iload_n hx hb dX13_preferenceAt_41 rfl (lv_at hl 3 rfl) ?_
        refine lv_iadd hx hb dX13_preferenceAt_42 ?_
        obtain ⟨r13, hc, hf⟩ := fb hf
        refine x_i hp (y_V (As := [.int p1, .int (5 + p2)]) (rest := []) cx hp hl (c_X13_of l hN hT e20 hc) (cw_X13_98 cx (mc := 0) (ms := 0) rfl rfl ⟨by decide, by decide⟩) (rC_X13 hN cx hp) rfl rfl (Nat.le_of_ble_eq_true rfl) dX13_preferenceAt_43 ⟨Nat.zero_le _, Nat.zero_le _⟩) (fun r_c u_c H locs hq hp => ?_)
        obtain ⟨rfl, rfl⟩ := hq
        refine lv_goto (tgt := 50) hx hb dX13_preferenceAt_46 (by decide) ?_
        cases hf
        exact r_i cx hp ⟨rfl, e20, fr⟩ dX13_preferenceAt_50
    · have hf := fn hf c9
      refine lv_iconst (v := 1) hx hb dX13_preferenceAt_24 (by decide) ?_
      refine lv_goto (tgt := 29) hx hb dX13_preferenceAt_25 (by decide) ?_
      refine lv_istore_n (lv' := [(3, .int 1), (0, .ref (adr E 20 0)), (1, .int p1), (2, .int p2)]) hx hb dX13_preferenceAt_29 rfl hl (by decide) rfl (fun ls hl => ?_)
      refine lv_aload_n hx hb dX13_preferenceAt_30 rfl (lv_at hl 1 rfl) ?_
      refine lv_iload_n hx hb dX13_preferenceAt_31 rfl (lv_at hl 0 rfl) ?_
      obtain ⟨r14, ρ15, hc, hf⟩ := fb2 hf
      refine x_i hp (y_V (As := [.int 1]) (rest := []) cx hp hl (c_X13_wants l hN hT e20 hc) (cw_X13_322 cx (mc := 0) (ms := 0) rfl rfl ⟨by decide, by decide⟩) (rC_X13 hN cx hp) rfl rfl (Nat.le_of_ble_eq_true rfl) dX13_preferenceAt_32 ⟨Nat.zero_le _, Nat.zero_le _⟩) (fun r_c u_c H locs hq hp => ?_)
      obtain ⟨rfl, e_0, n_u⟩ := hq
      have e20 := e_0
      have fr : ∀ q, q ≠ 20 → u_c q = σ q := fun q h0 => (n_u q h0).trans (fr q h0)
      obtain ⟨u, rfl⟩ : ∃ z, u_c = z := ⟨_, rfl⟩
      refine lv_if_eq (tgt := 49) hx hb dX13_preferenceAt_35 (by decide) (fun c16 => ?_) (fun c16 => ?_)
      · have hf := fp hf c16
        refine lv_iconst (v := 0) hx hb dX13_preferenceAt_49 (by decide) ?_
        cases hf
        exact r_i cx hp ⟨rfl, e20, fr⟩ dX13_preferenceAt_50
      · have hf := fn hf c16
        refine lv_aload_n hx hb dX13_preferenceAt_38 rfl (lv_at hl 1 rfl) ?_
        refine lv_iload_n hx hb dX13_preferenceAt_39 rfl (lv_at hl 2 rfl) ?_
        refine lv_iconst (v := 5) hx hb dX13_preferenceAt_40 (by decide) ?_
        refine lv_iload_n hx hb dX13_preferenceAt_41 rfl (lv_at hl 3 rfl) ?_
        refine lv_iadd hx hb dX13_preferenceAt_42 ?_
        obtain ⟨r17, hc, hf⟩ := fb hf
        refine x_i hp (y_V (As := [.int p1, .int (5 + p2)]) (rest := []) cx hp hl (c_X13_of l hN hT e20 hc) (cw_X13_98 cx (mc := 0) (ms := 0) rfl rfl ⟨by decide, by decide⟩) (rC_X13 hN cx hp) rfl rfl (Nat.le_of_ble_eq_true rfl) dX13_preferenceAt_43 ⟨Nat.zero_le _, Nat.zero_le _⟩) (fun r_c u_c H locs hq hp => ?_)
        obtain ⟨rfl, rfl⟩ := hq
        refine lv_goto (tgt := 50) hx hb dX13_preferenceAt_46 (by decide) ?_
        cases hf
        exact r_i cx hp ⟨rfl, e20, fr⟩ dX13_preferenceAt_50
abbrev rm_X13_rankOf : Room := { frames := 2, cells := 0, slots := 0, locals := 45 }
set_option maxRecDepth 100000 in
set_option maxHeartbeats 4000000 in
theorem c_X13_rankOf (l : Launch) {E : Ev} (hN : 146 ≤ eN E) (hT : St E) {σ : SM} {ρ : OM} (e20 : σ 20 = ρ) {p1 : Int32} {p2 : Int32} {rv : Int32} {ρ' : OM} (hf : f_X13_rankOf p1 p2 ρ = some (rv, ρ')) : Met l yX13_rankOf (wC yX13_rankOf cX13_rankOf 3 (some .int)) rm_X13_rankOf (va_Pc [.ref (adr E 20 0), .int p1, .int p2] (Wu E σ)) (va_Qi (fun r u => rv = r ∧ u 20 = ρ' ∧ ∀ q, q ≠ 20 → u q = σ q) (fun u t => Wu E u t) (eA E)) 0 0 (eA E) := by
  refine g_entry (lv := [(0, .ref (adr E 20 0)), (1, .int p1), (2, .int p2)]) (by decide) (Nat.le_of_ble_eq_true rfl) rfl ?_
  intro p e s m below meth c cx hp ls hl
  have hx := cx.1.1
  have hb := cx.1.2.1
  have fr : ∀ q, q ≠ 20 → σ q = σ q := fun _ _ => rfl
  unfold f_X13_rankOf at hf
  refine lv_aload_n hx hb dX13_rankOf_0 rfl (lv_at hl 0 rfl) ?_
  refine lv_aload_n hx hb dX13_rankOf_1 rfl (lv_at hl 0 rfl) ?_
  refine lv_iload_n hx hb dX13_rankOf_2 rfl (lv_at hl 1 rfl) ?_
  obtain ⟨r1, hc, hf⟩ := fb hf
  refine x_i hp (y_V (As := [.int p1]) (rest := [.ref (adr E 20 0)]) cx hp hl (c_X13_isSeller l hN hT e20 hc) (cw_X13_339 cx (mc := 0) (ms := 0) rfl rfl ⟨by decide, by decide⟩) (rC_X13 hN cx hp) rfl rfl (Nat.le_of_ble_eq_true rfl) dX13_rankOf_3 ⟨Nat.zero_le _, Nat.zero_le _⟩) (fun r_c u_c H locs hq hp => ?_)
  obtain ⟨rfl, rfl⟩ := hq
  refine lv_if_eq (tgt := 21) hx hb dX13_rankOf_6 (by decide) (fun c2 => ?_) (fun c2 => ?_)
  · have hf := fp hf c2
    refine lv_iconst (v := 0) hx hb dX13_rankOf_21 (by decide) ?_
    obtain ⟨r3, ρ4, hc, hf⟩ := fb2 hf
    refine x_i hp (y_V (As := [.int 0]) (rest := []) cx hp hl (c_X13_wants l hN hT e20 hc) (cw_X13_322 cx (mc := 0) (ms := 0) rfl rfl ⟨by decide, by decide⟩) (rC_X13 hN cx hp) rfl rfl (Nat.le_of_ble_eq_true rfl) dX13_rankOf_22 ⟨Nat.zero_le _, Nat.zero_le _⟩) (fun r_c u_c H locs hq hp => ?_)
    obtain ⟨rfl, e_0, n_u⟩ := hq
    have e20 := e_0
    have fr : ∀ q, q ≠ 20 → u_c q = σ q := fun q h0 => (n_u q h0).trans (fr q h0)
    obtain ⟨u, rfl⟩ : ∃ z, u_c = z := ⟨_, rfl⟩
    refine lv_if_eq (tgt := 37) hx hb dX13_rankOf_25 (by decide) (fun c5 => ?_) (fun c5 => ?_)
    · have hf := fp hf c5
      refine lv_iconst (v := 0) hx hb dX13_rankOf_37 (by decide) ?_
      cases hf
      exact r_i cx hp ⟨rfl, e20, fr⟩ dX13_rankOf_38
    · have hf := fn hf c5
      refine lv_aload_n hx hb dX13_rankOf_28 rfl (lv_at hl 0 rfl) ?_
      refine lv_iload_n hx hb dX13_rankOf_29 rfl (lv_at hl 1 rfl) ?_
      refine lv_iload_n hx hb dX13_rankOf_30 rfl (lv_at hl 2 rfl) ?_
      obtain ⟨r6, hc, hf⟩ := fb hf
      refine x_i hp (y_V (As := [.int p1, .int p2]) (rest := []) cx hp hl (c_X13_rank l hN hT e20 hc) (cw_X13_102 cx (mc := 0) (ms := 0) rfl rfl ⟨by decide, by decide⟩) (rC_X13 hN cx hp) rfl rfl (Nat.le_of_ble_eq_true rfl) dX13_rankOf_31 ⟨Nat.zero_le _, Nat.zero_le _⟩) (fun r_c u_c H locs hq hp => ?_)
      obtain ⟨rfl, rfl⟩ := hq
      refine lv_goto (tgt := 38) hx hb dX13_rankOf_34 (by decide) ?_
      cases hf
      exact r_i cx hp ⟨rfl, e20, fr⟩ dX13_rankOf_38
  · have hf := fn hf c2
    refine lv_aload_n hx hb dX13_rankOf_9 rfl (lv_at hl 0 rfl) ?_
    refine lv_iload_n hx hb dX13_rankOf_10 rfl (lv_at hl 2 rfl) ?_
    obtain ⟨r7, hc, hf⟩ := fb hf
    refine x_i hp (y_V (As := [.int p2]) (rest := [.ref (adr E 20 0)]) cx hp hl (c_X13_isStall l hN hT e20 hc) (cw_X13_94 cx (mc := 0) (ms := 0) rfl rfl ⟨by decide, by decide⟩) (rC_X13 hN cx hp) rfl rfl (Nat.le_of_ble_eq_true rfl) dX13_rankOf_11 ⟨Nat.zero_le _, Nat.zero_le _⟩) (fun r_c u_c H locs hq hp => ?_)
    obtain ⟨rfl, rfl⟩ := hq
    refine lv_if_eq (tgt := 21) hx hb dX13_rankOf_14 (by decide) (fun c8 => ?_) (fun c8 => ?_)
    · have hf := fp hf c8
      refine lv_iconst (v := 0) hx hb dX13_rankOf_21 (by decide) ?_
      obtain ⟨r9, ρ10, hc, hf⟩ := fb2 hf
      refine x_i hp (y_V (As := [.int 0]) (rest := []) cx hp hl (c_X13_wants l hN hT e20 hc) (cw_X13_322 cx (mc := 0) (ms := 0) rfl rfl ⟨by decide, by decide⟩) (rC_X13 hN cx hp) rfl rfl (Nat.le_of_ble_eq_true rfl) dX13_rankOf_22 ⟨Nat.zero_le _, Nat.zero_le _⟩) (fun r_c u_c H locs hq hp => ?_)
      obtain ⟨rfl, e_0, n_u⟩ := hq
      have e20 := e_0
      have fr : ∀ q, q ≠ 20 → u_c q = σ q := fun q h0 => (n_u q h0).trans (fr q h0)
      obtain ⟨u, rfl⟩ : ∃ z, u_c = z := ⟨_, rfl⟩
      refine lv_if_eq (tgt := 37) hx hb dX13_rankOf_25 (by decide) (fun c11 => ?_) (fun c11 => ?_)
      · have hf := fp hf c11
        refine lv_iconst (v := 0) hx hb dX13_rankOf_37 (by decide) ?_
        cases hf
        exact r_i cx hp ⟨rfl, e20, fr⟩ dX13_rankOf_38
      · have hf := fn hf c11
        refine lv_aload_n hx hb dX13_rankOf_28 rfl (lv_at hl 0 rfl) ?_
        refine lv_iload_n hx hb dX13_rankOf_29 rfl (lv_at hl 1 rfl) ?_
        refine lv_iload_n hx hb dX13_rankOf_30 rfl (lv_at hl 2 rfl) ?_
        obtain ⟨r12, hc, hf⟩ := fb hf
        refine x_i hp (y_V (As := [.int p1, .int p2]) (rest := []) cx hp hl (c_X13_rank l hN hT e20 hc) (cw_X13_102 cx (mc := 0) (ms := 0) rfl rfl ⟨by decide, by decide⟩) (rC_X13 hN cx hp) rfl rfl (Nat.le_of_ble_eq_true rfl) dX13_rankOf_31 ⟨Nat.zero_le _, Nat.zero_le _⟩) (fun r_c u_c H locs hq hp => ?_)
        obtain ⟨rfl, rfl⟩ := hq
        refine lv_goto (tgt := 38) hx hb dX13_rankOf_34 (by decide) ?_
        cases hf
        exact r_i cx hp ⟨rfl, e20, fr⟩ dX13_rankOf_38
    · have hf := fn hf c8
      refine lv_iconst (v := 1) hx hb dX13_rankOf_17 (by decide) ?_
      refine lv_goto (tgt := 22) hx hb dX13_rankOf_18 (by decide) ?_
      obtain ⟨r13, ρ14, hc, hf⟩ := fb2 hf
      refine x_i hp (y_V (As := [.int 1]) (rest := []) cx hp hl (c_X13_wants l hN hT e20 hc) (cw_X13_322 cx (mc := 0) (ms := 0) rfl rfl ⟨by decide, by decide⟩) (rC_X13 hN cx hp) rfl rfl (Nat.le_of_ble_eq_true rfl) dX13_rankOf_22 ⟨Nat.zero_le _, Nat.zero_le _⟩) (fun r_c u_c H locs hq hp => ?_)
      obtain ⟨rfl, e_0, n_u⟩ := hq
      have e20 := e_0
      have fr : ∀ q, q ≠ 20 → u_c q = σ q := fun q h0 => (n_u q h0).trans (fr q h0)
      obtain ⟨u, rfl⟩ : ∃ z, u_c = z := ⟨_, rfl⟩
      refine lv_if_eq (tgt := 37) hx hb dX13_rankOf_25 (by decide) (fun c15 => ?_) (fun c15 => ?_)
      · have hf := fp hf c15
        refine lv_iconst (v := 0) hx hb dX13_rankOf_37 (by decide) ?_
        cases hf
        exact r_i cx hp ⟨rfl, e20, fr⟩ dX13_rankOf_38
      · have hf := fn hf c15
        refine lv_aload_n hx hb dX13_rankOf_28 rfl (lv_at hl 0 rfl) ?_
        refine lv_iload_n hx hb dX13_rankOf_29 rfl (lv_at hl 1 rfl) ?_
        refine lv_iload_n hx hb dX13_rankOf_30 rfl (lv_at hl 2 rfl) ?_
        obtain ⟨r16, hc, hf⟩ := fb hf
        refine x_i hp (y_V (As := [.int p1, .int p2]) (rest := []) cx hp hl (c_X13_rank l hN hT e20 hc) (cw_X13_102 cx (mc := 0) (ms := 0) rfl rfl ⟨by decide, by decide⟩) (rC_X13 hN cx hp) rfl rfl (Nat.le_of_ble_eq_true rfl) dX13_rankOf_31 ⟨Nat.zero_le _, Nat.zero_le _⟩) (fun r_c u_c H locs hq hp => ?_)
        obtain ⟨rfl, rfl⟩ := hq
        refine lv_goto (tgt := 38) hx hb dX13_rankOf_34 (by decide) ?_
        cases hf
        exact r_i cx hp ⟨rfl, e20, fr⟩ dX13_rankOf_38
abbrev rm_X13_prefers : Room := { frames := 4, cells := 0, slots := 0, locals := 91 }
set_option maxRecDepth 100000 in
set_option maxHeartbeats 4000000 in
theorem c_X13_prefers (l : Launch) {E : Ev} (hN : 146 ≤ eN E) (hT : St E) {σ : SM} {ρ : OM} (e20 : σ 20 = ρ) {p1 : Int32} {p2 : Int32} {p3 : Int32} {rv : Int32} {ρ' : OM} (hf : f_X13_prefers p1 p2 p3 ρ = some (rv, ρ')) : Met l yX13_prefers (wC yX13_prefers cX13_prefers 5 (some .boolean)) rm_X13_prefers (va_Pc [.ref (adr E 20 0), .int p1, .int p2, .int p3] (Wu E σ)) (va_Qi (fun r u => rv = r ∧ u 20 = ρ' ∧ ∀ q, q ≠ 20 → u q = σ q) (fun u t => Wu E u t) (eA E)) 0 0 (eA E) := by
  refine g_entry (lv := [(0, .ref (adr E 20 0)), (1, .int p1), (2, .int p2), (3, .int p3)]) (by decide) (Nat.le_of_ble_eq_true rfl) rfl ?_
  intro p e s m below meth c cx hp ls hl
  have hx := cx.1.1
  have hb := cx.1.2.1
  have fr : ∀ q, q ≠ 20 → σ q = σ q := fun _ _ => rfl
  unfold f_X13_prefers at hf
  refine lv_aload_n hx hb dX13_prefers_0 rfl (lv_at hl 0 rfl) ?_
  refine lv_iload_n hx hb dX13_prefers_1 rfl (lv_at hl 1 rfl) ?_
  obtain ⟨r1, hc, hf⟩ := fb hf
  refine x_i hp (y_V (As := [.int p1]) (rest := []) cx hp hl (c_X13_isSeller l hN hT e20 hc) (cw_X13_339 cx (mc := 0) (ms := 0) rfl rfl ⟨by decide, by decide⟩) (rC_X13 hN cx hp) rfl rfl (Nat.le_of_ble_eq_true rfl) dX13_prefers_2 ⟨Nat.zero_le _, Nat.zero_le _⟩) (fun r_c u_c H locs hq hp => ?_)
  obtain ⟨rfl, rfl⟩ := hq
  refine lv_if_eq (tgt := 28) hx hb dX13_prefers_5 (by decide) (fun c2 => ?_) (fun c2 => ?_)
  · have hf := fp hf c2
    refine lv_iconst (v := 0) hx hb dX13_prefers_28 (by decide) ?_
    refine lv_istore (lv' := [(4, .int 0), (0, .ref (adr E 20 0)), (1, .int p1), (2, .int p2), (3, .int p3)]) hx hb dX13_prefers_29 hl (by decide) rfl (fun ls hl => ?_)
    refine lv_aload_n hx hb dX13_prefers_31 rfl (lv_at hl 1 rfl) ?_
    refine lv_iload hx hb dX13_prefers_32 (lv_at hl 0 rfl) ?_
    obtain ⟨r3, ρ4, hc, hf⟩ := fb2 hf
    refine x_i hp (y_V (As := [.int 0]) (rest := []) cx hp hl (c_X13_wants l hN hT e20 hc) (cw_X13_322 cx (mc := 0) (ms := 0) rfl rfl ⟨by decide, by decide⟩) (rC_X13 hN cx hp) rfl rfl (Nat.le_of_ble_eq_true rfl) dX13_prefers_34 ⟨Nat.zero_le _, Nat.zero_le _⟩) (fun r_c u_c H locs hq hp => ?_)
    obtain ⟨rfl, e_0, n_u⟩ := hq
    have e20 := e_0
    have fr : ∀ q, q ≠ 20 → u_c q = σ q := fun q h0 => (n_u q h0).trans (fr q h0)
    obtain ⟨u, rfl⟩ : ∃ z, u_c = z := ⟨_, rfl⟩
    refine lv_if_eq (tgt := 54) hx hb dX13_prefers_37 (by decide) (fun c5 => ?_) (fun c5 => ?_)
    · have hf := fp hf c5
      refine lv_iconst (v := 0) hx hb dX13_prefers_54 (by decide) ?_
      cases hf
      exact r_z cx hp rfl ⟨rfl, e20, fr⟩ dX13_prefers_55
    · have hf := fn hf c5
      refine lv_aload_n hx hb dX13_prefers_40 rfl (lv_at hl 1 rfl) ?_
      refine lv_iload_n hx hb dX13_prefers_41 rfl (lv_at hl 2 rfl) ?_
      refine lv_iload_n hx hb dX13_prefers_42 rfl (lv_at hl 3 rfl) ?_
      refine lv_iload_n hx hb dX13_prefers_43 rfl (lv_at hl 4 rfl) ?_
      obtain ⟨r6, hc, hf⟩ := fb hf
      refine x_i hp (y_V (As := [.int p1, .int p2, .int p3]) (rest := []) cx hp hl (c_X13_isBetter l hN hT e20 hc) (cw_X13_108 cx (mc := 0) (ms := 0) rfl rfl ⟨by decide, by decide⟩) (rC_X13 hN cx hp) rfl rfl (Nat.le_of_ble_eq_true rfl) dX13_prefers_44 ⟨Nat.zero_le _, Nat.zero_le _⟩) (fun r_c u_c H locs hq hp => ?_)
      obtain ⟨rfl, rfl⟩ := hq
      refine lv_if_eq (tgt := 54) hx hb dX13_prefers_47 (by decide) (fun c7 => ?_) (fun c7 => ?_)
      · have hf := fp hf c7
        refine lv_iconst (v := 0) hx hb dX13_prefers_54 (by decide) ?_
        cases hf
        exact r_z cx hp rfl ⟨rfl, e20, fr⟩ dX13_prefers_55
      · have hf := fn hf c7
        refine lv_iconst (v := 1) hx hb dX13_prefers_50 (by decide) ?_
        refine lv_goto (tgt := 55) hx hb dX13_prefers_51 (by decide) ?_
        cases hf
        exact r_z cx hp rfl ⟨rfl, e20, fr⟩ dX13_prefers_55
  · have hf := fn hf c2
    refine lv_aload_n hx hb dX13_prefers_8 rfl (lv_at hl 0 rfl) ?_
    refine lv_iload_n hx hb dX13_prefers_9 rfl (lv_at hl 2 rfl) ?_
    obtain ⟨r8, hc, hf⟩ := fb hf
    refine x_i hp (y_V (As := [.int p2]) (rest := []) cx hp hl (c_X13_isOutcome l hN hT e20 hc) (cw_X13_342 cx (mc := 0) (ms := 0) rfl rfl ⟨by decide, by decide⟩) (rC_X13 hN cx hp) rfl rfl (Nat.le_of_ble_eq_true rfl) dX13_prefers_10 ⟨Nat.zero_le _, Nat.zero_le _⟩) (fun r_c u_c H locs hq hp => ?_)
    obtain ⟨rfl, rfl⟩ := hq
    refine lv_if_eq (tgt := 28) hx hb dX13_prefers_13 (by decide) (fun c9 => ?_) (fun c9 => ?_)
    · have hf := fp hf c9
      refine lv_iconst (v := 0) hx hb dX13_prefers_28 (by decide) ?_
      refine lv_istore (lv' := [(4, .int 0), (0, .ref (adr E 20 0)), (1, .int p1), (2, .int p2), (3, .int p3)]) hx hb dX13_prefers_29 hl (by decide) rfl (fun ls hl => ?_)
      refine lv_aload_n hx hb dX13_prefers_31 rfl (lv_at hl 1 rfl) ?_
      refine lv_iload hx hb dX13_prefers_32 (lv_at hl 0 rfl) ?_
      obtain ⟨r10, ρ11, hc, hf⟩ := fb2 hf
      refine x_i hp (y_V (As := [.int 0]) (rest := []) cx hp hl (c_X13_wants l hN hT e20 hc) (cw_X13_322 cx (mc := 0) (ms := 0) rfl rfl ⟨by decide, by decide⟩) (rC_X13 hN cx hp) rfl rfl (Nat.le_of_ble_eq_true rfl) dX13_prefers_34 ⟨Nat.zero_le _, Nat.zero_le _⟩) (fun r_c u_c H locs hq hp => ?_)
      obtain ⟨rfl, e_0, n_u⟩ := hq
      have e20 := e_0
      have fr : ∀ q, q ≠ 20 → u_c q = σ q := fun q h0 => (n_u q h0).trans (fr q h0)
      obtain ⟨u, rfl⟩ : ∃ z, u_c = z := ⟨_, rfl⟩
      refine lv_if_eq (tgt := 54) hx hb dX13_prefers_37 (by decide) (fun c12 => ?_) (fun c12 => ?_)
      · have hf := fp hf c12
        refine lv_iconst (v := 0) hx hb dX13_prefers_54 (by decide) ?_
        cases hf
        exact r_z cx hp rfl ⟨rfl, e20, fr⟩ dX13_prefers_55
      · have hf := fn hf c12
        refine lv_aload_n hx hb dX13_prefers_40 rfl (lv_at hl 1 rfl) ?_
        refine lv_iload_n hx hb dX13_prefers_41 rfl (lv_at hl 2 rfl) ?_
        refine lv_iload_n hx hb dX13_prefers_42 rfl (lv_at hl 3 rfl) ?_
        refine lv_iload_n hx hb dX13_prefers_43 rfl (lv_at hl 4 rfl) ?_
        obtain ⟨r13, hc, hf⟩ := fb hf
        refine x_i hp (y_V (As := [.int p1, .int p2, .int p3]) (rest := []) cx hp hl (c_X13_isBetter l hN hT e20 hc) (cw_X13_108 cx (mc := 0) (ms := 0) rfl rfl ⟨by decide, by decide⟩) (rC_X13 hN cx hp) rfl rfl (Nat.le_of_ble_eq_true rfl) dX13_prefers_44 ⟨Nat.zero_le _, Nat.zero_le _⟩) (fun r_c u_c H locs hq hp => ?_)
        obtain ⟨rfl, rfl⟩ := hq
        refine lv_if_eq (tgt := 54) hx hb dX13_prefers_47 (by decide) (fun c14 => ?_) (fun c14 => ?_)
        · have hf := fp hf c14
          refine lv_iconst (v := 0) hx hb dX13_prefers_54 (by decide) ?_
          cases hf
          exact r_z cx hp rfl ⟨rfl, e20, fr⟩ dX13_prefers_55
        · have hf := fn hf c14
          refine lv_iconst (v := 1) hx hb dX13_prefers_50 (by decide) ?_
          refine lv_goto (tgt := 55) hx hb dX13_prefers_51 (by decide) ?_
          cases hf
          exact r_z cx hp rfl ⟨rfl, e20, fr⟩ dX13_prefers_55
    · have hf := fn hf c9
      refine lv_aload_n hx hb dX13_prefers_16 rfl (lv_at hl 0 rfl) ?_
      refine lv_iload_n hx hb dX13_prefers_17 rfl (lv_at hl 3 rfl) ?_
      obtain ⟨r15, hc, hf⟩ := fb hf
      refine x_i hp (y_V (As := [.int p3]) (rest := []) cx hp hl (c_X13_isOutcome l hN hT e20 hc) (cw_X13_342 cx (mc := 0) (ms := 0) rfl rfl ⟨by decide, by decide⟩) (rC_X13 hN cx hp) rfl rfl (Nat.le_of_ble_eq_true rfl) dX13_prefers_18 ⟨Nat.zero_le _, Nat.zero_le _⟩) (fun r_c u_c H locs hq hp => ?_)
      obtain ⟨rfl, rfl⟩ := hq
      refine lv_if_eq (tgt := 28) hx hb dX13_prefers_21 (by decide) (fun c16 => ?_) (fun c16 => ?_)
      · have hf := fp hf c16
        refine lv_iconst (v := 0) hx hb dX13_prefers_28 (by decide) ?_
        refine lv_istore (lv' := [(4, .int 0), (0, .ref (adr E 20 0)), (1, .int p1), (2, .int p2), (3, .int p3)]) hx hb dX13_prefers_29 hl (by decide) rfl (fun ls hl => ?_)
        refine lv_aload_n hx hb dX13_prefers_31 rfl (lv_at hl 1 rfl) ?_
        refine lv_iload hx hb dX13_prefers_32 (lv_at hl 0 rfl) ?_
        obtain ⟨r17, ρ18, hc, hf⟩ := fb2 hf
        refine x_i hp (y_V (As := [.int 0]) (rest := []) cx hp hl (c_X13_wants l hN hT e20 hc) (cw_X13_322 cx (mc := 0) (ms := 0) rfl rfl ⟨by decide, by decide⟩) (rC_X13 hN cx hp) rfl rfl (Nat.le_of_ble_eq_true rfl) dX13_prefers_34 ⟨Nat.zero_le _, Nat.zero_le _⟩) (fun r_c u_c H locs hq hp => ?_)
        obtain ⟨rfl, e_0, n_u⟩ := hq
        have e20 := e_0
        have fr : ∀ q, q ≠ 20 → u_c q = σ q := fun q h0 => (n_u q h0).trans (fr q h0)
        obtain ⟨u, rfl⟩ : ∃ z, u_c = z := ⟨_, rfl⟩
        refine lv_if_eq (tgt := 54) hx hb dX13_prefers_37 (by decide) (fun c19 => ?_) (fun c19 => ?_)
        · have hf := fp hf c19
          refine lv_iconst (v := 0) hx hb dX13_prefers_54 (by decide) ?_
          cases hf
          exact r_z cx hp rfl ⟨rfl, e20, fr⟩ dX13_prefers_55
        · have hf := fn hf c19
          refine lv_aload_n hx hb dX13_prefers_40 rfl (lv_at hl 1 rfl) ?_
          refine lv_iload_n hx hb dX13_prefers_41 rfl (lv_at hl 2 rfl) ?_
          refine lv_iload_n hx hb dX13_prefers_42 rfl (lv_at hl 3 rfl) ?_
          refine lv_iload_n hx hb dX13_prefers_43 rfl (lv_at hl 4 rfl) ?_
          obtain ⟨r20, hc, hf⟩ := fb hf
          refine x_i hp (y_V (As := [.int p1, .int p2, .int p3]) (rest := []) cx hp hl (c_X13_isBetter l hN hT e20 hc) (cw_X13_108 cx (mc := 0) (ms := 0) rfl rfl ⟨by decide, by decide⟩) (rC_X13 hN cx hp) rfl rfl (Nat.le_of_ble_eq_true rfl) dX13_prefers_44 ⟨Nat.zero_le _, Nat.zero_le _⟩) (fun r_c u_c H locs hq hp => ?_)
          obtain ⟨rfl, rfl⟩ := hq
          refine lv_if_eq (tgt := 54) hx hb dX13_prefers_47 (by decide) (fun c21 => ?_) (fun c21 => ?_)
          · have hf := fp hf c21
            refine lv_iconst (v := 0) hx hb dX13_prefers_54 (by decide) ?_
            cases hf
            exact r_z cx hp rfl ⟨rfl, e20, fr⟩ dX13_prefers_55
          · have hf := fn hf c21
            refine lv_iconst (v := 1) hx hb dX13_prefers_50 (by decide) ?_
            refine lv_goto (tgt := 55) hx hb dX13_prefers_51 (by decide) ?_
            cases hf
            exact r_z cx hp rfl ⟨rfl, e20, fr⟩ dX13_prefers_55
      · have hf := fn hf c16
        refine lv_iconst (v := 1) hx hb dX13_prefers_24 (by decide) ?_
        refine lv_goto (tgt := 29) hx hb dX13_prefers_25 (by decide) ?_
        refine lv_istore (lv' := [(4, .int 1), (0, .ref (adr E 20 0)), (1, .int p1), (2, .int p2), (3, .int p3)]) hx hb dX13_prefers_29 hl (by decide) rfl (fun ls hl => ?_)
        refine lv_aload_n hx hb dX13_prefers_31 rfl (lv_at hl 1 rfl) ?_
        refine lv_iload hx hb dX13_prefers_32 (lv_at hl 0 rfl) ?_
        obtain ⟨r22, ρ23, hc, hf⟩ := fb2 hf
        refine x_i hp (y_V (As := [.int 1]) (rest := []) cx hp hl (c_X13_wants l hN hT e20 hc) (cw_X13_322 cx (mc := 0) (ms := 0) rfl rfl ⟨by decide, by decide⟩) (rC_X13 hN cx hp) rfl rfl (Nat.le_of_ble_eq_true rfl) dX13_prefers_34 ⟨Nat.zero_le _, Nat.zero_le _⟩) (fun r_c u_c H locs hq hp => ?_)
        obtain ⟨rfl, e_0, n_u⟩ := hq
        have e20 := e_0
        have fr : ∀ q, q ≠ 20 → u_c q = σ q := fun q h0 => (n_u q h0).trans (fr q h0)
        obtain ⟨u, rfl⟩ : ∃ z, u_c = z := ⟨_, rfl⟩
        refine lv_if_eq (tgt := 54) hx hb dX13_prefers_37 (by decide) (fun c24 => ?_) (fun c24 => ?_)
        · have hf := fp hf c24
          refine lv_iconst (v := 0) hx hb dX13_prefers_54 (by decide) ?_
          cases hf
          exact r_z cx hp rfl ⟨rfl, e20, fr⟩ dX13_prefers_55
        · have hf := fn hf c24
          refine lv_aload_n hx hb dX13_prefers_40 rfl (lv_at hl 1 rfl) ?_
          refine lv_iload_n hx hb dX13_prefers_41 rfl (lv_at hl 2 rfl) ?_
          refine lv_iload_n hx hb dX13_prefers_42 rfl (lv_at hl 3 rfl) ?_
          refine lv_iload_n hx hb dX13_prefers_43 rfl (lv_at hl 4 rfl) ?_
          obtain ⟨r25, hc, hf⟩ := fb hf
          refine x_i hp (y_V (As := [.int p1, .int p2, .int p3]) (rest := []) cx hp hl (c_X13_isBetter l hN hT e20 hc) (cw_X13_108 cx (mc := 0) (ms := 0) rfl rfl ⟨by decide, by decide⟩) (rC_X13 hN cx hp) rfl rfl (Nat.le_of_ble_eq_true rfl) dX13_prefers_44 ⟨Nat.zero_le _, Nat.zero_le _⟩) (fun r_c u_c H locs hq hp => ?_)
          obtain ⟨rfl, rfl⟩ := hq
          refine lv_if_eq (tgt := 54) hx hb dX13_prefers_47 (by decide) (fun c26 => ?_) (fun c26 => ?_)
          · have hf := fp hf c26
            refine lv_iconst (v := 0) hx hb dX13_prefers_54 (by decide) ?_
            cases hf
            exact r_z cx hp rfl ⟨rfl, e20, fr⟩ dX13_prefers_55
          · have hf := fn hf c26
            refine lv_iconst (v := 1) hx hb dX13_prefers_50 (by decide) ?_
            refine lv_goto (tgt := 55) hx hb dX13_prefers_51 (by decide) ?_
            cases hf
            exact r_z cx hp rfl ⟨rfl, e20, fr⟩ dX13_prefers_55
abbrev rm_X13_letters : Room := { frames := 0, cells := 0, slots := 0, locals := 0 }
set_option maxRecDepth 100000 in
set_option maxHeartbeats 4000000 in
theorem L_X13_letters_4 {p : Program} {e : Env} {s : State} {m : MethodId} {args : Array Value} {below : List Frame} {meth : Method} {c : Code} (l : Launch) {E : Ev} (hN : 146 ≤ eN E) (hT : St E) {σ : SM} (cx : Cx E p s m meth c args RX13 cX13_letters 3 (some .int)) {rv : Int32} : ∀ (n : Nat) {x2 : Int32} {x1 : Int32}, f_X13_letters_4  n x2 x1 = some rv → ∀ {u : SM} {H : Heap} {locs : List Loc} {ls : Array Slot}, (∀ q, u q = σ q) → Hp E u s H locs → lv_has ls 3 [(1, .int x1), (2, .int x2)] → W p l e rm_X13_letters s m args below meth c H locs 0 0 (MQ below (va_Qi (fun r u => rv = r ∧ σ = u) (fun u t => Wu E u t) (eA E)) args s 0 0 (eA E)) (F0 m 4 ls []) := by
  have hx := cx.1.1
  have hb := cx.1.2.1
  intro n
  induction n with
  | zero =>
    intro x2 x1 hf
    exact absurd hf (by simp [f_X13_letters_4])
  | succ n ih =>
    intro x2 x1 hf u H locs ls  fr hp hl
    rw [f_X13_letters_4] at hf
    refine lv_iload_n hx hb dX13_letters_4 rfl (lv_at hl 1 rfl) ?_
    refine lv_if_le (tgt := 19) hx hb dX13_letters_5 (by decide) (fun c1 => ?_) (fun c1 => ?_)
    · have hf := fp hf c1
      refine lv_iload_n hx hb dX13_letters_19 rfl (lv_at hl 0 rfl) ?_
      cases hf
      exact r_i cx hp ⟨rfl, (funext fr).symm⟩ dX13_letters_20
    · have hf := fn hf c1
      refine lv_iinc (v := (x1 + 1)) (lv' := [(1, .int (x1 + 1)), (2, .int x2)]) hx hb dX13_letters_8 hl (k := 0) rfl rfl (by decide) rfl (fun ls hl => ?_)
      refine lv_iload_n hx hb dX13_letters_11 rfl (lv_at hl 1 rfl) ?_
      refine lv_bipush (v := 27) hx hb dX13_letters_12 (by decide) ?_
      refine lv_idiv hx hb dX13_letters_14 (by decide) ?_
      obtain ⟨i2, x_e, hf⟩ := fl hf
      refine lv_nm x_e ?_
      refine lv_istore_n (lv' := [(2, .int i2), (1, .int (x1 + 1))]) hx hb dX13_letters_15 rfl hl (by decide) rfl (fun ls hl => ?_)
      refine lv_goto (tgt := 4) hx hb dX13_letters_16 (by decide) ?_
      exact ih  hf fr hp (lv_sub hl [1, 0] rfl)
set_option maxRecDepth 100000 in
set_option maxHeartbeats 4000000 in
theorem c_X13_letters (l : Launch) {E : Ev} (hN : 146 ≤ eN E) (hT : St E) {σ : SM} {p0 : Int32} {rv : Int32} (hf : f_X13_letters p0 = some rv) : Met l yX13_letters (wC yX13_letters cX13_letters 3 (some .int)) rm_X13_letters (va_Pc [.int p0] (Wu E σ)) (va_Qi (fun r u => rv = r ∧ σ = u) (fun u t => Wu E u t) (eA E)) 0 0 (eA E) := by
  refine g_entry (lv := [(0, .int p0)]) (by decide) (Nat.le_of_ble_eq_true rfl) rfl ?_
  intro p e s m below meth c cx hp ls hl
  have hx := cx.1.1
  have hb := cx.1.2.1
  have fr : ∀ q, σ q = σ q := fun _ => rfl
  unfold f_X13_letters at hf
  refine lv_iconst (v := 0) hx hb dX13_letters_0 (by decide) ?_
  refine lv_istore_n (lv' := [(1, .int 0), (0, .int p0)]) hx hb dX13_letters_1 rfl hl (by decide) rfl (fun ls hl => ?_)
  refine lv_iload_n hx hb dX13_letters_2 rfl (lv_at hl 1 rfl) ?_
  refine lv_istore_n (lv' := [(2, .int p0), (1, .int 0), (0, .int p0)]) hx hb dX13_letters_3 rfl hl (by decide) rfl (fun ls hl => ?_)
  exact L_X13_letters_4 l hN hT cx  _ hf fr hp (lv_sub hl [1, 0] rfl)
abbrev rm_X13_letterOf : Room := { frames := 1, cells := 0, slots := 0, locals := 22 }
set_option maxRecDepth 100000 in
set_option maxHeartbeats 4000000 in
theorem L_X13_letterOf_25 {p : Program} {e : Env} {s : State} {m : MethodId} {args : Array Value} {below : List Frame} {meth : Method} {c : Code} (l : Launch) {E : Ev} (hN : 146 ≤ eN E) (hT : St E) {σ : SM} (cx : Cx E p s m meth c args RX13 cX13_letterOf 4 (some .int)) {x1 : Int32} {rv : Int32} : ∀ (n : Nat) {x3 : Int32} {x2 : Int32}, f_X13_letterOf_25 x1 n x3 x2 = some rv → ∀ {u : SM} {H : Heap} {locs : List Loc} {ls : Array Slot}, (∀ q, u q = σ q) → Hp E u s H locs → lv_has ls 4 [(1, .int x1), (2, .int x2), (3, .int x3)] → W p l e rm_X13_letterOf s m args below meth c H locs 0 0 (MQ below (va_Qi (fun r u => rv = r ∧ σ = u) (fun u t => Wu E u t) (eA E)) args s 0 0 (eA E)) (F0 m 25 ls []) := by
  have hx := cx.1.1
  have hb := cx.1.2.1
  intro n
  induction n with
  | zero =>
    intro x3 x2 hf
    exact absurd hf (by simp [f_X13_letterOf_25])
  | succ n ih =>
    intro x3 x2 hf u H locs ls  fr hp hl
    rw [f_X13_letterOf_25] at hf
    refine lv_iload_n hx hb dX13_letterOf_25 rfl (lv_at hl 2 rfl) ?_
    refine lv_iload_n hx hb dX13_letterOf_26 rfl (lv_at hl 0 rfl) ?_
    refine lv_icmp_le (tgt := 41) hx hb dX13_letterOf_27 (by decide) (fun c6 => ?_) (fun c6 => ?_)
    · have hf := fp hf c6
      refine lv_iload_n hx hb dX13_letterOf_41 rfl (lv_at hl 1 rfl) ?_
      refine lv_bipush (v := 27) hx hb dX13_letterOf_42 (by decide) ?_
      refine lv_irem hx hb dX13_letterOf_44 (by decide) ?_
      refine lv_bipush (v := 96) hx hb dX13_letterOf_45 (by decide) ?_
      refine lv_iadd hx hb dX13_letterOf_47 ?_
      cases hf
      exact r_i cx hp ⟨rfl, (funext fr).symm⟩ dX13_letterOf_48
    · have hf := fn hf c6
      refine lv_iload_n hx hb dX13_letterOf_30 rfl (lv_at hl 1 rfl) ?_
      refine lv_bipush (v := 27) hx hb dX13_letterOf_31 (by decide) ?_
      refine lv_idiv hx hb dX13_letterOf_33 (by decide) ?_
      obtain ⟨i7, x_e, hf⟩ := fl hf
      refine lv_nm x_e ?_
      refine lv_istore_n (lv' := [(2, .int i7), (1, .int x1), (3, .int x3)]) hx hb dX13_letterOf_34 rfl hl (by decide) rfl (fun ls hl => ?_)
      refine lv_iinc (v := (x3 + (-1))) (lv' := [(3, .int (x3 + (-1))), (2, .int i7), (1, .int x1)]) hx hb dX13_letterOf_35 hl (k := 2) rfl rfl (by decide) rfl (fun ls hl => ?_)
      refine lv_goto (tgt := 25) hx hb dX13_letterOf_38 (by decide) ?_
      exact ih  hf fr hp (lv_sub hl [2, 1, 0] rfl)
set_option maxRecDepth 100000 in
set_option maxHeartbeats 4000000 in
theorem c_X13_letterOf (l : Launch) {E : Ev} (hN : 146 ≤ eN E) (hT : St E) {σ : SM} {p0 : Int32} {p1 : Int32} {rv : Int32} (hf : f_X13_letterOf p0 p1 = some rv) : Met l yX13_letterOf (wC yX13_letterOf cX13_letterOf 4 (some .int)) rm_X13_letterOf (va_Pc [.int p0, .int p1] (Wu E σ)) (va_Qi (fun r u => rv = r ∧ σ = u) (fun u t => Wu E u t) (eA E)) 0 0 (eA E) := by
  refine g_entry (lv := [(0, .int p0), (1, .int p1)]) (by decide) (Nat.le_of_ble_eq_true rfl) rfl ?_
  intro p e s m below meth c cx hp ls hl
  have hx := cx.1.1
  have hb := cx.1.2.1
  have fr : ∀ q, σ q = σ q := fun _ => rfl
  unfold f_X13_letterOf at hf
  refine lv_iload_n hx hb dX13_letterOf_0 rfl (lv_at hl 1 rfl) ?_
  refine lv_iconst (v := 0) hx hb dX13_letterOf_1 (by decide) ?_
  refine lv_iload_n hx hb dX13_letterOf_2 rfl (lv_at hl 0 rfl) ?_
  obtain ⟨r1, hc, hf⟩ := fb hf
  refine x_i hp (y_S (As := [.int p0]) (rest := [.int 0, .int p1]) cx hp hl (c_X13_letters l hN hT  hc) (cw_X13_345 cx (mc := 0) (ms := 0) rfl rfl ⟨by decide, by decide⟩) rfl rfl (Nat.le_of_ble_eq_true rfl) dX13_letterOf_3 ⟨Nat.zero_le _, Nat.zero_le _⟩) (fun r_c u_c H locs hq hp => ?_)
  obtain ⟨rfl, rfl⟩ := hq
  refine lv_iconst (v := 1) hx hb dX13_letterOf_6 (by decide) ?_
  refine lv_isub hx hb dX13_letterOf_7 ?_
  obtain ⟨r2, hc, hf⟩ := fb hf
  refine x_i hp (y_S (As := [.int p1, .int 0, .int (r1 - 1)]) (rest := []) cx hp hl (c_X13_isBetween l hN hT  hc) (cw_X13_90 cx (mc := 0) (ms := 0) rfl rfl ⟨by decide, by decide⟩) rfl rfl (Nat.le_of_ble_eq_true rfl) dX13_letterOf_8 ⟨Nat.zero_le _, Nat.zero_le _⟩) (fun r_c u_c H locs hq hp => ?_)
  obtain ⟨rfl, rfl⟩ := hq
  refine lv_if_ne (tgt := 16) hx hb dX13_letterOf_11 (by decide) (fun c3 => ?_) (fun c3 => ?_)
  · have hf := fn hf c3
    refine lv_iload_n hx hb dX13_letterOf_16 rfl (lv_at hl 0 rfl) ?_
    refine lv_istore_n (lv' := [(2, .int p0), (0, .int p0), (1, .int p1)]) hx hb dX13_letterOf_17 rfl hl (by decide) rfl (fun ls hl => ?_)
    refine lv_iload_n hx hb dX13_letterOf_18 rfl (lv_at hl 1 rfl) ?_
    obtain ⟨r4, hc, hf⟩ := fb hf
    refine x_i hp (y_S (As := [.int p0]) (rest := []) cx hp hl (c_X13_letters l hN hT  hc) (cw_X13_345 cx (mc := 0) (ms := 0) rfl rfl ⟨by decide, by decide⟩) rfl rfl (Nat.le_of_ble_eq_true rfl) dX13_letterOf_19 ⟨Nat.zero_le _, Nat.zero_le _⟩) (fun r_c u_c H locs hq hp => ?_)
    obtain ⟨rfl, rfl⟩ := hq
    refine lv_iconst (v := 1) hx hb dX13_letterOf_22 (by decide) ?_
    refine lv_isub hx hb dX13_letterOf_23 ?_
    obtain ⟨i5, x_e, hf⟩ := fl hf
    refine lv_nm x_e ?_
    refine lv_istore_n (lv' := [(3, .int i5), (2, .int p0), (0, .int p0), (1, .int p1)]) hx hb dX13_letterOf_24 rfl hl (by decide) rfl (fun ls hl => ?_)
    exact L_X13_letterOf_25 l hN hT cx  _ hf fr hp (lv_sub hl [3, 1, 0] rfl)
  · have hf := fp hf c3
    refine lv_iconst (v := (-1)) hx hb dX13_letterOf_14 (by decide) ?_
    cases hf
    exact r_i cx hp ⟨rfl, (funext fr).symm⟩ dX13_letterOf_15
abbrev rm_X13_sellerNameByte : Room := { frames := 2, cells := 0, slots := 0, locals := 45 }
set_option maxRecDepth 100000 in
set_option maxHeartbeats 4000000 in
theorem c_X13_sellerNameByte (l : Launch) {E : Ev} (hN : 146 ≤ eN E) (hT : St E) {σ : SM} {ρ : OM} (e20 : σ 20 = ρ) {p1 : Int32} {p2 : Int32} {rv : Int32} {ρ' : OM} (hf : f_X13_sellerNameByte p1 p2 ρ = some (rv, ρ')) : Met l yX13_sellerNameByte (wC yX13_sellerNameByte cX13_sellerNameByte 3 (some .int)) rm_X13_sellerNameByte (va_Pc [.ref (adr E 20 0), .int p1, .int p2] (Wu E σ)) (va_Qi (fun r u => rv = r ∧ u 20 = ρ' ∧ ∀ q, q ≠ 20 → u q = σ q) (fun u t => Wu E u t) (eA E)) 0 0 (eA E) := by
  refine g_entry (lv := [(0, .ref (adr E 20 0)), (1, .int p1), (2, .int p2)]) (by decide) (Nat.le_of_ble_eq_true rfl) rfl ?_
  intro p e s m below meth c cx hp ls hl
  have hx := cx.1.1
  have hb := cx.1.2.1
  have fr : ∀ q, q ≠ 20 → σ q = σ q := fun _ _ => rfl
  unfold f_X13_sellerNameByte at hf
  refine lv_aload_n hx hb dX13_sellerNameByte_0 rfl (lv_at hl 0 rfl) ?_
  refine lv_aload_n hx hb dX13_sellerNameByte_1 rfl (lv_at hl 0 rfl) ?_
  refine lv_iload_n hx hb dX13_sellerNameByte_2 rfl (lv_at hl 1 rfl) ?_
  obtain ⟨r1, hc, hf⟩ := fb hf
  refine x_i hp (y_V (As := [.int p1]) (rest := [.ref (adr E 20 0)]) cx hp hl (c_X13_isSeller l hN hT e20 hc) (cw_X13_339 cx (mc := 0) (ms := 0) rfl rfl ⟨by decide, by decide⟩) (rC_X13 hN cx hp) rfl rfl (Nat.le_of_ble_eq_true rfl) dX13_sellerNameByte_3 ⟨Nat.zero_le _, Nat.zero_le _⟩) (fun r_c u_c H locs hq hp => ?_)
  obtain ⟨rfl, rfl⟩ := hq
  obtain ⟨r2, ρ3, hc, hf⟩ := fb2 hf
  refine x_i hp (y_V (As := [.int r1]) (rest := []) cx hp hl (c_X13_wants l hN hT e20 hc) (cw_X13_322 cx (mc := 0) (ms := 0) rfl rfl ⟨by decide, by decide⟩) (rC_X13 hN cx hp) rfl rfl (Nat.le_of_ble_eq_true rfl) dX13_sellerNameByte_6 ⟨Nat.zero_le _, Nat.zero_le _⟩) (fun r_c u_c H locs hq hp => ?_)
  obtain ⟨rfl, e_0, n_u⟩ := hq
  have e20 := e_0
  have fr : ∀ q, q ≠ 20 → u_c q = σ q := fun q h0 => (n_u q h0).trans (fr q h0)
  obtain ⟨u, rfl⟩ : ∃ z, u_c = z := ⟨_, rfl⟩
  refine lv_if_eq (tgt := 25) hx hb dX13_sellerNameByte_9 (by decide) (fun c4 => ?_) (fun c4 => ?_)
  · have hf := fp hf c4
    refine lv_iconst (v := 0) hx hb dX13_sellerNameByte_25 (by decide) ?_
    cases hf
    exact r_i cx hp ⟨rfl, e20, fr⟩ dX13_sellerNameByte_26
  · have hf := fn hf c4
    refine lv_aload_n hx hb dX13_sellerNameByte_12 rfl (lv_at hl 0 rfl) ?_
    refine lv_iload_n hx hb dX13_sellerNameByte_13 rfl (lv_at hl 1 rfl) ?_
    refine lv_iconst (v := 0) hx hb dX13_sellerNameByte_14 (by decide) ?_
    obtain ⟨r5, hc, hf⟩ := fb hf
    refine x_i hp (y_V (As := [.int p1, .int 0]) (rest := []) cx hp hl (c_X13_of l hN hT e20 hc) (cw_X13_98 cx (mc := 0) (ms := 0) rfl rfl ⟨by decide, by decide⟩) (rC_X13 hN cx hp) rfl rfl (Nat.le_of_ble_eq_true rfl) dX13_sellerNameByte_15 ⟨Nat.zero_le _, Nat.zero_le _⟩) (fun r_c u_c H locs hq hp => ?_)
    obtain ⟨rfl, rfl⟩ := hq
    refine lv_iload_n hx hb dX13_sellerNameByte_18 rfl (lv_at hl 2 rfl) ?_
    obtain ⟨r6, hc, hf⟩ := fb hf
    refine x_i hp (y_S (As := [.int r5, .int p2]) (rest := []) cx hp hl (c_X13_letterOf l hN hT  hc) (cw_X13_348 cx (mc := 0) (ms := 0) rfl rfl ⟨by decide, by decide⟩) rfl rfl (Nat.le_of_ble_eq_true rfl) dX13_sellerNameByte_19 ⟨Nat.zero_le _, Nat.zero_le _⟩) (fun r_c u_c H locs hq hp => ?_)
    obtain ⟨rfl, rfl⟩ := hq
    refine lv_goto (tgt := 26) hx hb dX13_sellerNameByte_22 (by decide) ?_
    cases hf
    exact r_i cx hp ⟨rfl, e20, fr⟩ dX13_sellerNameByte_26
abbrev rm_X13_stallNameByte : Room := { frames := 2, cells := 0, slots := 0, locals := 45 }
set_option maxRecDepth 100000 in
set_option maxHeartbeats 4000000 in
theorem c_X13_stallNameByte (l : Launch) {E : Ev} (hN : 146 ≤ eN E) (hT : St E) {σ : SM} {ρ : OM} (e20 : σ 20 = ρ) {p1 : Int32} {p2 : Int32} {rv : Int32} {ρ' : OM} (hf : f_X13_stallNameByte p1 p2 ρ = some (rv, ρ')) : Met l yX13_stallNameByte (wC yX13_stallNameByte cX13_stallNameByte 3 (some .int)) rm_X13_stallNameByte (va_Pc [.ref (adr E 20 0), .int p1, .int p2] (Wu E σ)) (va_Qi (fun r u => rv = r ∧ u 20 = ρ' ∧ ∀ q, q ≠ 20 → u q = σ q) (fun u t => Wu E u t) (eA E)) 0 0 (eA E) := by
  refine g_entry (lv := [(0, .ref (adr E 20 0)), (1, .int p1), (2, .int p2)]) (by decide) (Nat.le_of_ble_eq_true rfl) rfl ?_
  intro p e s m below meth c cx hp ls hl
  have hx := cx.1.1
  have hb := cx.1.2.1
  have fr : ∀ q, q ≠ 20 → σ q = σ q := fun _ _ => rfl
  unfold f_X13_stallNameByte at hf
  refine lv_aload_n hx hb dX13_stallNameByte_0 rfl (lv_at hl 0 rfl) ?_
  refine lv_aload_n hx hb dX13_stallNameByte_1 rfl (lv_at hl 0 rfl) ?_
  refine lv_iload_n hx hb dX13_stallNameByte_2 rfl (lv_at hl 1 rfl) ?_
  obtain ⟨r1, hc, hf⟩ := fb hf
  refine x_i hp (y_V (As := [.int p1]) (rest := [.ref (adr E 20 0)]) cx hp hl (c_X13_isStall l hN hT e20 hc) (cw_X13_94 cx (mc := 0) (ms := 0) rfl rfl ⟨by decide, by decide⟩) (rC_X13 hN cx hp) rfl rfl (Nat.le_of_ble_eq_true rfl) dX13_stallNameByte_3 ⟨Nat.zero_le _, Nat.zero_le _⟩) (fun r_c u_c H locs hq hp => ?_)
  obtain ⟨rfl, rfl⟩ := hq
  obtain ⟨r2, ρ3, hc, hf⟩ := fb2 hf
  refine x_i hp (y_V (As := [.int r1]) (rest := []) cx hp hl (c_X13_wants l hN hT e20 hc) (cw_X13_322 cx (mc := 0) (ms := 0) rfl rfl ⟨by decide, by decide⟩) (rC_X13 hN cx hp) rfl rfl (Nat.le_of_ble_eq_true rfl) dX13_stallNameByte_6 ⟨Nat.zero_le _, Nat.zero_le _⟩) (fun r_c u_c H locs hq hp => ?_)
  obtain ⟨rfl, e_0, n_u⟩ := hq
  have e20 := e_0
  have fr : ∀ q, q ≠ 20 → u_c q = σ q := fun q h0 => (n_u q h0).trans (fr q h0)
  obtain ⟨u, rfl⟩ : ∃ z, u_c = z := ⟨_, rfl⟩
  refine lv_if_eq (tgt := 30) hx hb dX13_stallNameByte_9 (by decide) (fun c4 => ?_) (fun c4 => ?_)
  · have hf := fp hf c4
    refine lv_iconst (v := 0) hx hb dX13_stallNameByte_30 (by decide) ?_
    cases hf
    exact r_i cx hp ⟨rfl, e20, fr⟩ dX13_stallNameByte_31
  · have hf := fn hf c4
    refine lv_aload_n hx hb dX13_stallNameByte_12 rfl (lv_at hl 0 rfl) ?_
    refine gF_X13_7 rfl hN cx hp dX13_stallNameByte_13 ?_
    refine lv_bipush (v := 9) hx hb dX13_stallNameByte_16 (by decide) ?_
    refine lv_iconst (v := 2) hx hb dX13_stallNameByte_18 (by decide) ?_
    refine lv_iload_n hx hb dX13_stallNameByte_19 rfl (lv_at hl 1 rfl) ?_
    refine lv_imul hx hb dX13_stallNameByte_20 ?_
    refine lv_iadd hx hb dX13_stallNameByte_21 ?_
    obtain ⟨g_i, hf⟩ := fg hf
    refine lA_X13_1 e20 hN cx hp g_i dX13_stallNameByte_22 ?_
    refine lv_iload_n hx hb dX13_stallNameByte_23 rfl (lv_at hl 2 rfl) ?_
    obtain ⟨r5, hc, hf⟩ := fb hf
    refine x_i hp (y_S (As := [.int (ρ3.1 1 (Int32.toNatClampNeg (9 + (2 * p1)))), .int p2]) (rest := []) cx hp hl (c_X13_letterOf l hN hT  hc) (cw_X13_348 cx (mc := 0) (ms := 0) rfl rfl ⟨by decide, by decide⟩) rfl rfl (Nat.le_of_ble_eq_true rfl) dX13_stallNameByte_24 ⟨Nat.zero_le _, Nat.zero_le _⟩) (fun r_c u_c H locs hq hp => ?_)
    obtain ⟨rfl, rfl⟩ := hq
    refine lv_goto (tgt := 31) hx hb dX13_stallNameByte_27 (by decide) ?_
    cases hf
    exact r_i cx hp ⟨rfl, e20, fr⟩ dX13_stallNameByte_31
abbrev rm_X13_isName : Room := { frames := 2, cells := 0, slots := 0, locals := 43 }
set_option maxRecDepth 100000 in
set_option maxHeartbeats 4000000 in
theorem L_X13_isName_13 {p : Program} {e : Env} {s : State} {m : MethodId} {args : Array Value} {below : List Frame} {meth : Method} {c : Code} (l : Launch) {E : Ev} (hN : 146 ≤ eN E) (hT : St E) {σ : SM} (cx : Cx E p s m meth c args RX13 cX13_isName 3 (some .boolean)) {ρ : OM} {rv : Int32} : ∀ (n : Nat) {x2 : Int32} {x1 : Int32}, f_X13_isName_13 ρ n x2 x1 = some rv → ∀ {u : SM} {H : Heap} {locs : List Loc} {ls : Array Slot}, u 20 = ρ → (∀ q, u q = σ q) → Hp E u s H locs → lv_has ls 3 [(0, .ref (adr E 20 0)), (1, .int x1), (2, .int x2)] → W p l e rm_X13_isName s m args below meth c H locs 0 0 (MQ below (va_Qi (fun r u => rv = r ∧ σ = u) (fun u t => Wu E u t) (eA E)) args s 0 0 (eA E)) (F0 m 13 ls []) := by
  have hx := cx.1.1
  have hb := cx.1.2.1
  intro n
  induction n with
  | zero =>
    intro x2 x1 hf
    exact absurd hf (by simp [f_X13_isName_13])
  | succ n ih =>
    intro x2 x1 hf u H locs ls e20 fr hp hl
    rw [f_X13_isName_13] at hf
    refine lv_iload_n hx hb dX13_isName_13 rfl (lv_at hl 2 rfl) ?_
    refine lv_aload_n hx hb dX13_isName_14 rfl (lv_at hl 0 rfl) ?_
    refine gF_X13_74 e20 hN cx hp dX13_isName_15 ?_
    refine lv_icmp_ge (tgt := 37) hx hb dX13_isName_18 (by decide) (fun c2 => ?_) (fun c2 => ?_)
    · have hf := fp hf c2
      refine lv_iload_n hx hb dX13_isName_37 rfl (lv_at hl 1 rfl) ?_
      obtain ⟨g_z, hf⟩ := fg hf
      cases hf
      exact r_z cx hp (bz_n g_z) ⟨rfl, (funext fr).symm⟩ dX13_isName_38
    · have hf := fn hf c2
      refine lv_iload_n hx hb dX13_isName_21 rfl (lv_at hl 1 rfl) ?_
      refine lv_if_eq (tgt := 37) hx hb dX13_isName_22 (by decide) (fun c3 => ?_) (fun c3 => ?_)
      · have hf := fp hf c3
        refine lv_iload_n hx hb dX13_isName_37 rfl (lv_at hl 1 rfl) ?_
        obtain ⟨g_z, hf⟩ := fg hf
        cases hf
        exact r_z cx hp (bz_n g_z) ⟨rfl, (funext fr).symm⟩ dX13_isName_38
      · have hf := fn hf c3
        refine lv_aload_n hx hb dX13_isName_25 rfl (lv_at hl 0 rfl) ?_
        refine lv_iload_n hx hb dX13_isName_26 rfl (lv_at hl 2 rfl) ?_
        obtain ⟨r4, hc, hf⟩ := fb hf
        refine x_i hp (y_V (As := [.int x2]) (rest := []) cx hp hl (c_X13_isLetter l hN hT e20 hc) (cw_X13_182 cx (mc := 0) (ms := 0) rfl rfl ⟨by decide, by decide⟩) (rC_X13 hN cx hp) rfl rfl (Nat.le_of_ble_eq_true rfl) dX13_isName_27 ⟨Nat.zero_le _, Nat.zero_le _⟩) (fun r_c u_c H locs hq hp => ?_)
        obtain ⟨rfl, rfl⟩ := hq
        refine lv_istore_n (lv' := [(1, .int r4), (0, .ref (adr E 20 0)), (2, .int x2)]) hx hb dX13_isName_30 rfl hl (by decide) rfl (fun ls hl => ?_)
        refine lv_iinc (v := (x2 + 1)) (lv' := [(2, .int (x2 + 1)), (1, .int r4), (0, .ref (adr E 20 0))]) hx hb dX13_isName_31 hl (k := 2) rfl rfl (by decide) rfl (fun ls hl => ?_)
        refine lv_goto (tgt := 13) hx hb dX13_isName_34 (by decide) ?_
        exact ih  hf e20 fr hp (lv_sub hl [2, 1, 0] rfl)
set_option maxRecDepth 100000 in
set_option maxHeartbeats 4000000 in
theorem c_X13_isName (l : Launch) {E : Ev} (hN : 146 ≤ eN E) (hT : St E) {σ : SM} {ρ : OM} (e20 : σ 20 = ρ)  {rv : Int32} (hf : f_X13_isName ρ = some rv) : Met l yX13_isName (wC yX13_isName cX13_isName 3 (some .boolean)) rm_X13_isName (va_Pc [.ref (adr E 20 0)] (Wu E σ)) (va_Qi (fun r u => rv = r ∧ σ = u) (fun u t => Wu E u t) (eA E)) 0 0 (eA E) := by
  refine g_entry (lv := [(0, .ref (adr E 20 0))]) (by decide) (Nat.le_of_ble_eq_true rfl) rfl ?_
  intro p e s m below meth c cx hp ls hl
  have hx := cx.1.1
  have hb := cx.1.2.1
  have fr : ∀ q, σ q = σ q := fun _ => rfl
  unfold f_X13_isName at hf
  refine lv_aload_n hx hb dX13_isName_0 rfl (lv_at hl 0 rfl) ?_
  refine gF_X13_74 e20 hN cx hp dX13_isName_1 ?_
  refine lv_iconst (v := 1) hx hb dX13_isName_4 (by decide) ?_
  refine lv_bipush (v := 6) hx hb dX13_isName_5 (by decide) ?_
  obtain ⟨r1, hc, hf⟩ := fb hf
  refine x_i hp (y_S (As := [.int (ρ.1 0 7), .int 1, .int 6]) (rest := []) cx hp hl (c_X13_isBetween l hN hT  hc) (cw_X13_90 cx (mc := 0) (ms := 0) rfl rfl ⟨by decide, by decide⟩) rfl rfl (Nat.le_of_ble_eq_true rfl) dX13_isName_7 ⟨Nat.zero_le _, Nat.zero_le _⟩) (fun r_c u_c H locs hq hp => ?_)
  obtain ⟨rfl, rfl⟩ := hq
  refine lv_istore_n (lv' := [(1, .int r1), (0, .ref (adr E 20 0))]) hx hb dX13_isName_10 rfl hl (by decide) rfl (fun ls hl => ?_)
  refine lv_iconst (v := 0) hx hb dX13_isName_11 (by decide) ?_
  refine lv_istore_n (lv' := [(2, .int 0), (1, .int r1), (0, .ref (adr E 20 0))]) hx hb dX13_isName_12 rfl hl (by decide) rfl (fun ls hl => ?_)
  exact L_X13_isName_13 l hN hT cx  _ hf e20 fr hp (lv_sub hl [2, 1, 0] rfl)
abbrev rm_X13_findSeller : Room := { frames := 3, cells := 0, slots := 0, locals := 65 }
set_option maxRecDepth 100000 in
set_option maxHeartbeats 4000000 in
theorem c_X13_findSeller (l : Launch) {E : Ev} (hN : 146 ≤ eN E) (hT : St E) {σ : SM} {ρ : OM} (e20 : σ 20 = ρ)  {rv : Int32} {ρ' : OM} (hf : f_X13_findSeller ρ = some (rv, ρ')) : Met l yX13_findSeller (wC yX13_findSeller cX13_findSeller 1 (some .int)) rm_X13_findSeller (va_Pc [.ref (adr E 20 0)] (Wu E σ)) (va_Qi (fun r u => rv = r ∧ u 20 = ρ' ∧ ∀ q, q ≠ 20 → u q = σ q) (fun u t => Wu E u t) (eA E)) 0 0 (eA E) := by
  refine g_entry (lv := [(0, .ref (adr E 20 0))]) (by decide) (Nat.le_of_ble_eq_true rfl) rfl ?_
  intro p e s m below meth c cx hp ls hl
  have hx := cx.1.1
  have hb := cx.1.2.1
  have fr : ∀ q, q ≠ 20 → σ q = σ q := fun _ _ => rfl
  unfold f_X13_findSeller at hf
  refine lv_aload_n hx hb dX13_findSeller_0 rfl (lv_at hl 0 rfl) ?_
  refine lv_iconst (v := 0) hx hb dX13_findSeller_1 (by decide) ?_
  obtain ⟨ρ1, e_l, hf⟩ := fl hf
  refine pF_X13_77 e20 hN cx hp dX13_findSeller_2 (fun u H locs e_u n_u hp => ?_)
  have e20 := e_u.trans e_l
  have fr : ∀ q, q ≠ 20 → u q = σ q := fun q h0 => (n_u q h0).trans (fr q h0)
  refine lv_aload_n hx hb dX13_findSeller_5 rfl (lv_at hl 0 rfl) ?_
  obtain ⟨r2, hc, hf⟩ := fb hf
  refine x_i hp (y_V (As := []) (rest := []) cx hp hl (c_X13_isName l hN hT e20 hc) (cw_X13_351 cx (mc := 0) (ms := 0) rfl rfl ⟨by decide, by decide⟩) (rC_X13 hN cx hp) rfl rfl (Nat.le_of_ble_eq_true rfl) dX13_findSeller_6 ⟨Nat.zero_le _, Nat.zero_le _⟩) (fun r_c u_c H locs hq hp => ?_)
  obtain ⟨rfl, rfl⟩ := hq
  refine lv_if_eq (tgt := 28) hx hb dX13_findSeller_9 (by decide) (fun c3 => ?_) (fun c3 => ?_)
  · have hf := fp hf c3
    refine lv_iconst (v := (-1)) hx hb dX13_findSeller_28 (by decide) ?_
    cases hf
    exact r_i cx hp ⟨rfl, e20, fr⟩ dX13_findSeller_29
  · have hf := fn hf c3
    refine lv_aload_n hx hb dX13_findSeller_12 rfl (lv_at hl 0 rfl) ?_
    refine lv_aload_n hx hb dX13_findSeller_13 rfl (lv_at hl 0 rfl) ?_
    refine lv_iconst (v := 0) hx hb dX13_findSeller_14 (by decide) ?_
    refine lv_aload_n hx hb dX13_findSeller_15 rfl (lv_at hl 0 rfl) ?_
    refine gF_X13_74 e20 hN cx hp dX13_findSeller_16 ?_
    obtain ⟨r4, hc, hf⟩ := fb hf
    refine x_i hp (y_V (As := [.int 0, .int (ρ1.1 0 7)]) (rest := [.ref (adr E 20 0)]) cx hp hl (c_X13_letterSum l hN hT e20 hc) (cw_X13_212 cx (mc := 0) (ms := 0) rfl rfl ⟨by decide, by decide⟩) (rC_X13 hN cx hp) rfl rfl (Nat.le_of_ble_eq_true rfl) dX13_findSeller_19 ⟨Nat.zero_le _, Nat.zero_le _⟩) (fun r_c u_c H locs hq hp => ?_)
    obtain ⟨rfl, rfl⟩ := hq
    obtain ⟨r5, hc, hf⟩ := fb hf
    refine x_i hp (y_V (As := [.int r4]) (rest := []) cx hp hl (c_X13_sellerNamed l hN hT e20 hc) (cw_X13_226 cx (mc := 0) (ms := 0) rfl rfl ⟨by decide, by decide⟩) (rC_X13 hN cx hp) rfl rfl (Nat.le_of_ble_eq_true rfl) dX13_findSeller_22 ⟨Nat.zero_le _, Nat.zero_le _⟩) (fun r_c u_c H locs hq hp => ?_)
    obtain ⟨rfl, rfl⟩ := hq
    refine lv_goto (tgt := 29) hx hb dX13_findSeller_25 (by decide) ?_
    cases hf
    exact r_i cx hp ⟨rfl, e20, fr⟩ dX13_findSeller_29
abbrev rm_X13_freeStallCount : Room := { frames := 2, cells := 0, slots := 0, locals := 44 }
set_option maxRecDepth 100000 in
set_option maxHeartbeats 4000000 in
theorem L_X13_freeStallCount_9 {p : Program} {e : Env} {s : State} {m : MethodId} {args : Array Value} {below : List Frame} {meth : Method} {c : Code} (l : Launch) {E : Ev} (hN : 146 ≤ eN E) (hT : St E) {σ : SM} (cx : Cx E p s m meth c args RX13 cX13_freeStallCount 3 (some .int)) {ρ : OM} {rv : Int32} {ρ' : OM} : ∀ (n : Nat) {x2 : Int32} {x1 : Int32}, f_X13_freeStallCount_9 ρ n x2 x1 = some (rv, ρ') → ∀ {u : SM} {H : Heap} {locs : List Loc} {ls : Array Slot}, u 20 = ρ → (∀ q, q ≠ 20 → u q = σ q) → Hp E u s H locs → lv_has ls 3 [(0, .ref (adr E 20 0)), (1, .int x1), (2, .int x2)] → W p l e rm_X13_freeStallCount s m args below meth c H locs 0 0 (MQ below (va_Qi (fun r u => rv = r ∧ u 20 = ρ' ∧ ∀ q, q ≠ 20 → u q = σ q) (fun u t => Wu E u t) (eA E)) args s 0 0 (eA E)) (F0 m 9 ls []) := by
  have hx := cx.1.1
  have hb := cx.1.2.1
  intro n
  induction n with
  | zero =>
    intro x2 x1 hf
    exact absurd hf (by simp [f_X13_freeStallCount_9])
  | succ n ih =>
    intro x2 x1 hf u H locs ls e20 fr hp hl
    rw [f_X13_freeStallCount_9] at hf
    refine lv_iload_n hx hb dX13_freeStallCount_9 rfl (lv_at hl 2 rfl) ?_
    refine lv_aload_n hx hb dX13_freeStallCount_10 rfl (lv_at hl 0 rfl) ?_
    refine gF_X13_7 rfl hN cx hp dX13_freeStallCount_11 ?_
    refine lv_iconst (v := 1) hx hb dX13_freeStallCount_14 (by decide) ?_
    obtain ⟨g_i, hf⟩ := fg hf
    refine lA_X13_1 e20 hN cx hp g_i dX13_freeStallCount_15 ?_
    refine lv_icmp_ge (tgt := 42) hx hb dX13_freeStallCount_16 (by decide) (fun c2 => ?_) (fun c2 => ?_)
    · have hf := fp hf c2
      refine lv_iload_n hx hb dX13_freeStallCount_42 rfl (lv_at hl 1 rfl) ?_
      cases hf
      exact r_i cx hp ⟨rfl, e20, fr⟩ dX13_freeStallCount_43
    · have hf := fn hf c2
      refine lv_iload_n hx hb dX13_freeStallCount_19 rfl (lv_at hl 1 rfl) ?_
      refine lv_aload_n hx hb dX13_freeStallCount_20 rfl (lv_at hl 0 rfl) ?_
      refine lv_iload_n hx hb dX13_freeStallCount_21 rfl (lv_at hl 2 rfl) ?_
      obtain ⟨r3, hc, hf⟩ := fb hf
      refine x_i hp (y_V (As := [.int x2]) (rest := [.int x1]) cx hp hl (c_X13_occupant l hN hT e20 hc) (cw_X13_115 cx (mc := 0) (ms := 0) rfl rfl ⟨by decide, by decide⟩) (rC_X13 hN cx hp) rfl rfl (Nat.le_of_ble_eq_true rfl) dX13_freeStallCount_22 ⟨Nat.zero_le _, Nat.zero_le _⟩) (fun r_c u_c H locs hq hp => ?_)
      obtain ⟨rfl, rfl⟩ := hq
      refine lv_iconst (v := (-1)) hx hb dX13_freeStallCount_25 (by decide) ?_
      refine lv_icmp_ne (tgt := 33) hx hb dX13_freeStallCount_26 (by decide) (fun c4 => ?_) (fun c4 => ?_)
      · have hf := fn hf c4
        refine lv_iconst (v := 0) hx hb dX13_freeStallCount_33 (by decide) ?_
        refine lv_iadd hx hb dX13_freeStallCount_34 ?_
        obtain ⟨i5, x_e, hf⟩ := fl hf
        refine lv_nm x_e ?_
        refine lv_istore_n (lv' := [(1, .int i5), (0, .ref (adr E 20 0)), (2, .int x2)]) hx hb dX13_freeStallCount_35 rfl hl (by decide) rfl (fun ls hl => ?_)
        refine lv_iinc (v := (x2 + 1)) (lv' := [(2, .int (x2 + 1)), (1, .int i5), (0, .ref (adr E 20 0))]) hx hb dX13_freeStallCount_36 hl (k := 2) rfl rfl (by decide) rfl (fun ls hl => ?_)
        refine lv_goto (tgt := 9) hx hb dX13_freeStallCount_39 (by decide) ?_
        exact ih  hf e20 fr hp (lv_sub hl [2, 1, 0] rfl)
      · have hf := fp hf c4
        refine lv_iconst (v := 1) hx hb dX13_freeStallCount_29 (by decide) ?_
        refine lv_goto (tgt := 34) hx hb dX13_freeStallCount_30 (by decide) ?_
        refine lv_iadd hx hb dX13_freeStallCount_34 ?_
        obtain ⟨i6, x_e, hf⟩ := fl hf
        refine lv_nm x_e ?_
        refine lv_istore_n (lv' := [(1, .int i6), (0, .ref (adr E 20 0)), (2, .int x2)]) hx hb dX13_freeStallCount_35 rfl hl (by decide) rfl (fun ls hl => ?_)
        refine lv_iinc (v := (x2 + 1)) (lv' := [(2, .int (x2 + 1)), (1, .int i6), (0, .ref (adr E 20 0))]) hx hb dX13_freeStallCount_36 hl (k := 2) rfl rfl (by decide) rfl (fun ls hl => ?_)
        refine lv_goto (tgt := 9) hx hb dX13_freeStallCount_39 (by decide) ?_
        exact ih  hf e20 fr hp (lv_sub hl [2, 1, 0] rfl)
set_option maxRecDepth 100000 in
set_option maxHeartbeats 4000000 in
theorem c_X13_freeStallCount (l : Launch) {E : Ev} (hN : 146 ≤ eN E) (hT : St E) {σ : SM} {ρ : OM} (e20 : σ 20 = ρ)  {rv : Int32} {ρ' : OM} (hf : f_X13_freeStallCount ρ = some (rv, ρ')) : Met l yX13_freeStallCount (wC yX13_freeStallCount cX13_freeStallCount 3 (some .int)) rm_X13_freeStallCount (va_Pc [.ref (adr E 20 0)] (Wu E σ)) (va_Qi (fun r u => rv = r ∧ u 20 = ρ' ∧ ∀ q, q ≠ 20 → u q = σ q) (fun u t => Wu E u t) (eA E)) 0 0 (eA E) := by
  refine g_entry (lv := [(0, .ref (adr E 20 0))]) (by decide) (Nat.le_of_ble_eq_true rfl) rfl ?_
  intro p e s m below meth c cx hp ls hl
  have hx := cx.1.1
  have hb := cx.1.2.1
  have fr : ∀ q, q ≠ 20 → σ q = σ q := fun _ _ => rfl
  unfold f_X13_freeStallCount at hf
  refine lv_aload_n hx hb dX13_freeStallCount_0 rfl (lv_at hl 0 rfl) ?_
  refine lv_iconst (v := 0) hx hb dX13_freeStallCount_1 (by decide) ?_
  obtain ⟨ρ1, e_l, hf⟩ := fl hf
  refine pF_X13_77 e20 hN cx hp dX13_freeStallCount_2 (fun u H locs e_u n_u hp => ?_)
  have e20 := e_u.trans e_l
  have fr : ∀ q, q ≠ 20 → u q = σ q := fun q h0 => (n_u q h0).trans (fr q h0)
  refine lv_iconst (v := 0) hx hb dX13_freeStallCount_5 (by decide) ?_
  refine lv_istore_n (lv' := [(1, .int 0), (0, .ref (adr E 20 0))]) hx hb dX13_freeStallCount_6 rfl hl (by decide) rfl (fun ls hl => ?_)
  refine lv_iconst (v := 0) hx hb dX13_freeStallCount_7 (by decide) ?_
  refine lv_istore_n (lv' := [(2, .int 0), (1, .int 0), (0, .ref (adr E 20 0))]) hx hb dX13_freeStallCount_8 rfl hl (by decide) rfl (fun ls hl => ?_)
  exact L_X13_freeStallCount_9 l hN hT cx  _ hf e20 fr hp (lv_sub hl [2, 1, 0] rfl)
abbrev rm_X13_envies : Room := { frames := 5, cells := 0, slots := 0, locals := 114 }
set_option maxRecDepth 100000 in
set_option maxHeartbeats 4000000 in
theorem c_X13_envies (l : Launch) {E : Ev} (hN : 146 ≤ eN E) (hT : St E) {σ : SM} {ρ : OM} (e20 : σ 20 = ρ) {p1 : Int32} {p2 : Int32} {rv : Int32} {ρ' : OM} (hf : f_X13_envies p1 p2 ρ = some (rv, ρ')) : Met l yX13_envies (wC yX13_envies cX13_envies 3 (some .boolean)) rm_X13_envies (va_Pc [.ref (adr E 20 0), .int p1, .int p2] (Wu E σ)) (va_Qi (fun r u => rv = r ∧ u 20 = ρ' ∧ ∀ q, q ≠ 20 → u q = σ q) (fun u t => Wu E u t) (eA E)) 0 0 (eA E) := by
  refine g_entry (lv := [(0, .ref (adr E 20 0)), (1, .int p1), (2, .int p2)]) (by decide) (Nat.le_of_ble_eq_true rfl) rfl ?_
  intro p e s m below meth c cx hp ls hl
  have hx := cx.1.1
  have hb := cx.1.2.1
  have fr : ∀ q, q ≠ 20 → σ q = σ q := fun _ _ => rfl
  unfold f_X13_envies at hf
  refine lv_aload_n hx hb dX13_envies_0 rfl (lv_at hl 0 rfl) ?_
  refine lv_aload_n hx hb dX13_envies_1 rfl (lv_at hl 0 rfl) ?_
  refine lv_iload_n hx hb dX13_envies_2 rfl (lv_at hl 1 rfl) ?_
  obtain ⟨r1, hc, hf⟩ := fb hf
  refine x_i hp (y_V (As := [.int p1]) (rest := [.ref (adr E 20 0)]) cx hp hl (c_X13_isSeller l hN hT e20 hc) (cw_X13_339 cx (mc := 0) (ms := 0) rfl rfl ⟨by decide, by decide⟩) (rC_X13 hN cx hp) rfl rfl (Nat.le_of_ble_eq_true rfl) dX13_envies_3 ⟨Nat.zero_le _, Nat.zero_le _⟩) (fun r_c u_c H locs hq hp => ?_)
  obtain ⟨rfl, rfl⟩ := hq
  refine lv_if_eq (tgt := 21) hx hb dX13_envies_6 (by decide) (fun c2 => ?_) (fun c2 => ?_)
  · have hf := fp hf c2
    refine lv_iconst (v := 0) hx hb dX13_envies_21 (by decide) ?_
    obtain ⟨r3, ρ4, hc, hf⟩ := fb2 hf
    refine x_i hp (y_V (As := [.int 0]) (rest := []) cx hp hl (c_X13_wants l hN hT e20 hc) (cw_X13_322 cx (mc := 0) (ms := 0) rfl rfl ⟨by decide, by decide⟩) (rC_X13 hN cx hp) rfl rfl (Nat.le_of_ble_eq_true rfl) dX13_envies_22 ⟨Nat.zero_le _, Nat.zero_le _⟩) (fun r_c u_c H locs hq hp => ?_)
    obtain ⟨rfl, e_0, n_u⟩ := hq
    have e20 := e_0
    have fr : ∀ q, q ≠ 20 → u_c q = σ q := fun q h0 => (n_u q h0).trans (fr q h0)
    obtain ⟨u, rfl⟩ : ∃ z, u_c = z := ⟨_, rfl⟩
    refine lv_if_eq (tgt := 41) hx hb dX13_envies_25 (by decide) (fun c5 => ?_) (fun c5 => ?_)
    · have hf := fp hf c5
      refine lv_iconst (v := 0) hx hb dX13_envies_41 (by decide) ?_
      cases hf
      exact r_z cx hp rfl ⟨rfl, e20, fr⟩ dX13_envies_42
    · have hf := fn hf c5
      refine lv_aload_n hx hb dX13_envies_28 rfl (lv_at hl 0 rfl) ?_
      refine lv_iload_n hx hb dX13_envies_29 rfl (lv_at hl 1 rfl) ?_
      refine lv_iload_n hx hb dX13_envies_30 rfl (lv_at hl 2 rfl) ?_
      obtain ⟨r6, hc, hf⟩ := fb hf
      refine x_i hp (y_V (As := [.int p1, .int p2]) (rest := []) cx hp hl (c_X13_longsFor l hN hT e20 hc) (cw_X13_111 cx (mc := 0) (ms := 0) rfl rfl ⟨by decide, by decide⟩) (rC_X13 hN cx hp) rfl rfl (Nat.le_of_ble_eq_true rfl) dX13_envies_31 ⟨Nat.zero_le _, Nat.zero_le _⟩) (fun r_c u_c H locs hq hp => ?_)
      obtain ⟨rfl, rfl⟩ := hq
      refine lv_if_eq (tgt := 41) hx hb dX13_envies_34 (by decide) (fun c7 => ?_) (fun c7 => ?_)
      · have hf := fp hf c7
        refine lv_iconst (v := 0) hx hb dX13_envies_41 (by decide) ?_
        cases hf
        exact r_z cx hp rfl ⟨rfl, e20, fr⟩ dX13_envies_42
      · have hf := fn hf c7
        refine lv_iconst (v := 1) hx hb dX13_envies_37 (by decide) ?_
        refine lv_goto (tgt := 42) hx hb dX13_envies_38 (by decide) ?_
        cases hf
        exact r_z cx hp rfl ⟨rfl, e20, fr⟩ dX13_envies_42
  · have hf := fn hf c2
    refine lv_aload_n hx hb dX13_envies_9 rfl (lv_at hl 0 rfl) ?_
    refine lv_iload_n hx hb dX13_envies_10 rfl (lv_at hl 2 rfl) ?_
    obtain ⟨r8, hc, hf⟩ := fb hf
    refine x_i hp (y_V (As := [.int p2]) (rest := [.ref (adr E 20 0)]) cx hp hl (c_X13_isSeller l hN hT e20 hc) (cw_X13_339 cx (mc := 0) (ms := 0) rfl rfl ⟨by decide, by decide⟩) (rC_X13 hN cx hp) rfl rfl (Nat.le_of_ble_eq_true rfl) dX13_envies_11 ⟨Nat.zero_le _, Nat.zero_le _⟩) (fun r_c u_c H locs hq hp => ?_)
    obtain ⟨rfl, rfl⟩ := hq
    refine lv_if_eq (tgt := 21) hx hb dX13_envies_14 (by decide) (fun c9 => ?_) (fun c9 => ?_)
    · have hf := fp hf c9
      refine lv_iconst (v := 0) hx hb dX13_envies_21 (by decide) ?_
      obtain ⟨r10, ρ11, hc, hf⟩ := fb2 hf
      refine x_i hp (y_V (As := [.int 0]) (rest := []) cx hp hl (c_X13_wants l hN hT e20 hc) (cw_X13_322 cx (mc := 0) (ms := 0) rfl rfl ⟨by decide, by decide⟩) (rC_X13 hN cx hp) rfl rfl (Nat.le_of_ble_eq_true rfl) dX13_envies_22 ⟨Nat.zero_le _, Nat.zero_le _⟩) (fun r_c u_c H locs hq hp => ?_)
      obtain ⟨rfl, e_0, n_u⟩ := hq
      have e20 := e_0
      have fr : ∀ q, q ≠ 20 → u_c q = σ q := fun q h0 => (n_u q h0).trans (fr q h0)
      obtain ⟨u, rfl⟩ : ∃ z, u_c = z := ⟨_, rfl⟩
      refine lv_if_eq (tgt := 41) hx hb dX13_envies_25 (by decide) (fun c12 => ?_) (fun c12 => ?_)
      · have hf := fp hf c12
        refine lv_iconst (v := 0) hx hb dX13_envies_41 (by decide) ?_
        cases hf
        exact r_z cx hp rfl ⟨rfl, e20, fr⟩ dX13_envies_42
      · have hf := fn hf c12
        refine lv_aload_n hx hb dX13_envies_28 rfl (lv_at hl 0 rfl) ?_
        refine lv_iload_n hx hb dX13_envies_29 rfl (lv_at hl 1 rfl) ?_
        refine lv_iload_n hx hb dX13_envies_30 rfl (lv_at hl 2 rfl) ?_
        obtain ⟨r13, hc, hf⟩ := fb hf
        refine x_i hp (y_V (As := [.int p1, .int p2]) (rest := []) cx hp hl (c_X13_longsFor l hN hT e20 hc) (cw_X13_111 cx (mc := 0) (ms := 0) rfl rfl ⟨by decide, by decide⟩) (rC_X13 hN cx hp) rfl rfl (Nat.le_of_ble_eq_true rfl) dX13_envies_31 ⟨Nat.zero_le _, Nat.zero_le _⟩) (fun r_c u_c H locs hq hp => ?_)
        obtain ⟨rfl, rfl⟩ := hq
        refine lv_if_eq (tgt := 41) hx hb dX13_envies_34 (by decide) (fun c14 => ?_) (fun c14 => ?_)
        · have hf := fp hf c14
          refine lv_iconst (v := 0) hx hb dX13_envies_41 (by decide) ?_
          cases hf
          exact r_z cx hp rfl ⟨rfl, e20, fr⟩ dX13_envies_42
        · have hf := fn hf c14
          refine lv_iconst (v := 1) hx hb dX13_envies_37 (by decide) ?_
          refine lv_goto (tgt := 42) hx hb dX13_envies_38 (by decide) ?_
          cases hf
          exact r_z cx hp rfl ⟨rfl, e20, fr⟩ dX13_envies_42
    · have hf := fn hf c9
      refine lv_iconst (v := 1) hx hb dX13_envies_17 (by decide) ?_
      refine lv_goto (tgt := 22) hx hb dX13_envies_18 (by decide) ?_
      obtain ⟨r15, ρ16, hc, hf⟩ := fb2 hf
      refine x_i hp (y_V (As := [.int 1]) (rest := []) cx hp hl (c_X13_wants l hN hT e20 hc) (cw_X13_322 cx (mc := 0) (ms := 0) rfl rfl ⟨by decide, by decide⟩) (rC_X13 hN cx hp) rfl rfl (Nat.le_of_ble_eq_true rfl) dX13_envies_22 ⟨Nat.zero_le _, Nat.zero_le _⟩) (fun r_c u_c H locs hq hp => ?_)
      obtain ⟨rfl, e_0, n_u⟩ := hq
      have e20 := e_0
      have fr : ∀ q, q ≠ 20 → u_c q = σ q := fun q h0 => (n_u q h0).trans (fr q h0)
      obtain ⟨u, rfl⟩ : ∃ z, u_c = z := ⟨_, rfl⟩
      refine lv_if_eq (tgt := 41) hx hb dX13_envies_25 (by decide) (fun c17 => ?_) (fun c17 => ?_)
      · have hf := fp hf c17
        refine lv_iconst (v := 0) hx hb dX13_envies_41 (by decide) ?_
        cases hf
        exact r_z cx hp rfl ⟨rfl, e20, fr⟩ dX13_envies_42
      · have hf := fn hf c17
        refine lv_aload_n hx hb dX13_envies_28 rfl (lv_at hl 0 rfl) ?_
        refine lv_iload_n hx hb dX13_envies_29 rfl (lv_at hl 1 rfl) ?_
        refine lv_iload_n hx hb dX13_envies_30 rfl (lv_at hl 2 rfl) ?_
        obtain ⟨r18, hc, hf⟩ := fb hf
        refine x_i hp (y_V (As := [.int p1, .int p2]) (rest := []) cx hp hl (c_X13_longsFor l hN hT e20 hc) (cw_X13_111 cx (mc := 0) (ms := 0) rfl rfl ⟨by decide, by decide⟩) (rC_X13 hN cx hp) rfl rfl (Nat.le_of_ble_eq_true rfl) dX13_envies_31 ⟨Nat.zero_le _, Nat.zero_le _⟩) (fun r_c u_c H locs hq hp => ?_)
        obtain ⟨rfl, rfl⟩ := hq
        refine lv_if_eq (tgt := 41) hx hb dX13_envies_34 (by decide) (fun c19 => ?_) (fun c19 => ?_)
        · have hf := fp hf c19
          refine lv_iconst (v := 0) hx hb dX13_envies_41 (by decide) ?_
          cases hf
          exact r_z cx hp rfl ⟨rfl, e20, fr⟩ dX13_envies_42
        · have hf := fn hf c19
          refine lv_iconst (v := 1) hx hb dX13_envies_37 (by decide) ?_
          refine lv_goto (tgt := 42) hx hb dX13_envies_38 (by decide) ?_
          cases hf
          exact r_z cx hp rfl ⟨rfl, e20, fr⟩ dX13_envies_42
abbrev rm_X13_wouldSwap : Room := { frames := 6, cells := 0, slots := 0, locals := 137 }
set_option maxRecDepth 100000 in
set_option maxHeartbeats 4000000 in
theorem c_X13_wouldSwap (l : Launch) {E : Ev} (hN : 146 ≤ eN E) (hT : St E) {σ : SM} {ρ : OM} (e20 : σ 20 = ρ) {p1 : Int32} {p2 : Int32} {rv : Int32} {ρ' : OM} (hf : f_X13_wouldSwap p1 p2 ρ = some (rv, ρ')) : Met l yX13_wouldSwap (wC yX13_wouldSwap cX13_wouldSwap 3 (some .boolean)) rm_X13_wouldSwap (va_Pc [.ref (adr E 20 0), .int p1, .int p2] (Wu E σ)) (va_Qi (fun r u => rv = r ∧ u 20 = ρ' ∧ ∀ q, q ≠ 20 → u q = σ q) (fun u t => Wu E u t) (eA E)) 0 0 (eA E) := by
  refine g_entry (lv := [(0, .ref (adr E 20 0)), (1, .int p1), (2, .int p2)]) (by decide) (Nat.le_of_ble_eq_true rfl) rfl ?_
  intro p e s m below meth c cx hp ls hl
  have hx := cx.1.1
  have hb := cx.1.2.1
  have fr : ∀ q, q ≠ 20 → σ q = σ q := fun _ _ => rfl
  unfold f_X13_wouldSwap at hf
  refine lv_aload_n hx hb dX13_wouldSwap_0 rfl (lv_at hl 0 rfl) ?_
  refine lv_aload_n hx hb dX13_wouldSwap_1 rfl (lv_at hl 0 rfl) ?_
  refine lv_iload_n hx hb dX13_wouldSwap_2 rfl (lv_at hl 1 rfl) ?_
  obtain ⟨r1, hc, hf⟩ := fb hf
  refine x_i hp (y_V (As := [.int p1]) (rest := [.ref (adr E 20 0)]) cx hp hl (c_X13_isSeller l hN hT e20 hc) (cw_X13_339 cx (mc := 0) (ms := 0) rfl rfl ⟨by decide, by decide⟩) (rC_X13 hN cx hp) rfl rfl (Nat.le_of_ble_eq_true rfl) dX13_wouldSwap_3 ⟨Nat.zero_le _, Nat.zero_le _⟩) (fun r_c u_c H locs hq hp => ?_)
  obtain ⟨rfl, rfl⟩ := hq
  refine lv_if_eq (tgt := 21) hx hb dX13_wouldSwap_6 (by decide) (fun c2 => ?_) (fun c2 => ?_)
  · have hf := fp hf c2
    refine lv_iconst (v := 0) hx hb dX13_wouldSwap_21 (by decide) ?_
    obtain ⟨r3, ρ4, hc, hf⟩ := fb2 hf
    refine x_i hp (y_V (As := [.int 0]) (rest := []) cx hp hl (c_X13_wants l hN hT e20 hc) (cw_X13_322 cx (mc := 0) (ms := 0) rfl rfl ⟨by decide, by decide⟩) (rC_X13 hN cx hp) rfl rfl (Nat.le_of_ble_eq_true rfl) dX13_wouldSwap_22 ⟨Nat.zero_le _, Nat.zero_le _⟩) (fun r_c u_c H locs hq hp => ?_)
    obtain ⟨rfl, e_0, n_u⟩ := hq
    have e20 := e_0
    have fr : ∀ q, q ≠ 20 → u_c q = σ q := fun q h0 => (n_u q h0).trans (fr q h0)
    obtain ⟨u, rfl⟩ : ∃ z, u_c = z := ⟨_, rfl⟩
    refine lv_if_eq (tgt := 41) hx hb dX13_wouldSwap_25 (by decide) (fun c5 => ?_) (fun c5 => ?_)
    · have hf := fp hf c5
      refine lv_iconst (v := 0) hx hb dX13_wouldSwap_41 (by decide) ?_
      cases hf
      exact r_z cx hp rfl ⟨rfl, e20, fr⟩ dX13_wouldSwap_42
    · have hf := fn hf c5
      refine lv_aload_n hx hb dX13_wouldSwap_28 rfl (lv_at hl 0 rfl) ?_
      refine lv_iload_n hx hb dX13_wouldSwap_29 rfl (lv_at hl 1 rfl) ?_
      refine lv_iload_n hx hb dX13_wouldSwap_30 rfl (lv_at hl 2 rfl) ?_
      obtain ⟨r6, hc, hf⟩ := fb hf
      refine x_i hp (y_V (As := [.int p1, .int p2]) (rest := []) cx hp hl (c_X13_exchange l hN hT e20 hc) (cw_X13_304 cx (mc := 0) (ms := 0) rfl rfl ⟨by decide, by decide⟩) (rC_X13 hN cx hp) rfl rfl (Nat.le_of_ble_eq_true rfl) dX13_wouldSwap_31 ⟨Nat.zero_le _, Nat.zero_le _⟩) (fun r_c u_c H locs hq hp => ?_)
      obtain ⟨rfl, rfl⟩ := hq
      refine lv_if_eq (tgt := 41) hx hb dX13_wouldSwap_34 (by decide) (fun c7 => ?_) (fun c7 => ?_)
      · have hf := fp hf c7
        refine lv_iconst (v := 0) hx hb dX13_wouldSwap_41 (by decide) ?_
        cases hf
        exact r_z cx hp rfl ⟨rfl, e20, fr⟩ dX13_wouldSwap_42
      · have hf := fn hf c7
        refine lv_iconst (v := 1) hx hb dX13_wouldSwap_37 (by decide) ?_
        refine lv_goto (tgt := 42) hx hb dX13_wouldSwap_38 (by decide) ?_
        cases hf
        exact r_z cx hp rfl ⟨rfl, e20, fr⟩ dX13_wouldSwap_42
  · have hf := fn hf c2
    refine lv_aload_n hx hb dX13_wouldSwap_9 rfl (lv_at hl 0 rfl) ?_
    refine lv_iload_n hx hb dX13_wouldSwap_10 rfl (lv_at hl 2 rfl) ?_
    obtain ⟨r8, hc, hf⟩ := fb hf
    refine x_i hp (y_V (As := [.int p2]) (rest := [.ref (adr E 20 0)]) cx hp hl (c_X13_isSeller l hN hT e20 hc) (cw_X13_339 cx (mc := 0) (ms := 0) rfl rfl ⟨by decide, by decide⟩) (rC_X13 hN cx hp) rfl rfl (Nat.le_of_ble_eq_true rfl) dX13_wouldSwap_11 ⟨Nat.zero_le _, Nat.zero_le _⟩) (fun r_c u_c H locs hq hp => ?_)
    obtain ⟨rfl, rfl⟩ := hq
    refine lv_if_eq (tgt := 21) hx hb dX13_wouldSwap_14 (by decide) (fun c9 => ?_) (fun c9 => ?_)
    · have hf := fp hf c9
      refine lv_iconst (v := 0) hx hb dX13_wouldSwap_21 (by decide) ?_
      obtain ⟨r10, ρ11, hc, hf⟩ := fb2 hf
      refine x_i hp (y_V (As := [.int 0]) (rest := []) cx hp hl (c_X13_wants l hN hT e20 hc) (cw_X13_322 cx (mc := 0) (ms := 0) rfl rfl ⟨by decide, by decide⟩) (rC_X13 hN cx hp) rfl rfl (Nat.le_of_ble_eq_true rfl) dX13_wouldSwap_22 ⟨Nat.zero_le _, Nat.zero_le _⟩) (fun r_c u_c H locs hq hp => ?_)
      obtain ⟨rfl, e_0, n_u⟩ := hq
      have e20 := e_0
      have fr : ∀ q, q ≠ 20 → u_c q = σ q := fun q h0 => (n_u q h0).trans (fr q h0)
      obtain ⟨u, rfl⟩ : ∃ z, u_c = z := ⟨_, rfl⟩
      refine lv_if_eq (tgt := 41) hx hb dX13_wouldSwap_25 (by decide) (fun c12 => ?_) (fun c12 => ?_)
      · have hf := fp hf c12
        refine lv_iconst (v := 0) hx hb dX13_wouldSwap_41 (by decide) ?_
        cases hf
        exact r_z cx hp rfl ⟨rfl, e20, fr⟩ dX13_wouldSwap_42
      · have hf := fn hf c12
        refine lv_aload_n hx hb dX13_wouldSwap_28 rfl (lv_at hl 0 rfl) ?_
        refine lv_iload_n hx hb dX13_wouldSwap_29 rfl (lv_at hl 1 rfl) ?_
        refine lv_iload_n hx hb dX13_wouldSwap_30 rfl (lv_at hl 2 rfl) ?_
        obtain ⟨r13, hc, hf⟩ := fb hf
        refine x_i hp (y_V (As := [.int p1, .int p2]) (rest := []) cx hp hl (c_X13_exchange l hN hT e20 hc) (cw_X13_304 cx (mc := 0) (ms := 0) rfl rfl ⟨by decide, by decide⟩) (rC_X13 hN cx hp) rfl rfl (Nat.le_of_ble_eq_true rfl) dX13_wouldSwap_31 ⟨Nat.zero_le _, Nat.zero_le _⟩) (fun r_c u_c H locs hq hp => ?_)
        obtain ⟨rfl, rfl⟩ := hq
        refine lv_if_eq (tgt := 41) hx hb dX13_wouldSwap_34 (by decide) (fun c14 => ?_) (fun c14 => ?_)
        · have hf := fp hf c14
          refine lv_iconst (v := 0) hx hb dX13_wouldSwap_41 (by decide) ?_
          cases hf
          exact r_z cx hp rfl ⟨rfl, e20, fr⟩ dX13_wouldSwap_42
        · have hf := fn hf c14
          refine lv_iconst (v := 1) hx hb dX13_wouldSwap_37 (by decide) ?_
          refine lv_goto (tgt := 42) hx hb dX13_wouldSwap_38 (by decide) ?_
          cases hf
          exact r_z cx hp rfl ⟨rfl, e20, fr⟩ dX13_wouldSwap_42
    · have hf := fn hf c9
      refine lv_iconst (v := 1) hx hb dX13_wouldSwap_17 (by decide) ?_
      refine lv_goto (tgt := 22) hx hb dX13_wouldSwap_18 (by decide) ?_
      obtain ⟨r15, ρ16, hc, hf⟩ := fb2 hf
      refine x_i hp (y_V (As := [.int 1]) (rest := []) cx hp hl (c_X13_wants l hN hT e20 hc) (cw_X13_322 cx (mc := 0) (ms := 0) rfl rfl ⟨by decide, by decide⟩) (rC_X13 hN cx hp) rfl rfl (Nat.le_of_ble_eq_true rfl) dX13_wouldSwap_22 ⟨Nat.zero_le _, Nat.zero_le _⟩) (fun r_c u_c H locs hq hp => ?_)
      obtain ⟨rfl, e_0, n_u⟩ := hq
      have e20 := e_0
      have fr : ∀ q, q ≠ 20 → u_c q = σ q := fun q h0 => (n_u q h0).trans (fr q h0)
      obtain ⟨u, rfl⟩ : ∃ z, u_c = z := ⟨_, rfl⟩
      refine lv_if_eq (tgt := 41) hx hb dX13_wouldSwap_25 (by decide) (fun c17 => ?_) (fun c17 => ?_)
      · have hf := fp hf c17
        refine lv_iconst (v := 0) hx hb dX13_wouldSwap_41 (by decide) ?_
        cases hf
        exact r_z cx hp rfl ⟨rfl, e20, fr⟩ dX13_wouldSwap_42
      · have hf := fn hf c17
        refine lv_aload_n hx hb dX13_wouldSwap_28 rfl (lv_at hl 0 rfl) ?_
        refine lv_iload_n hx hb dX13_wouldSwap_29 rfl (lv_at hl 1 rfl) ?_
        refine lv_iload_n hx hb dX13_wouldSwap_30 rfl (lv_at hl 2 rfl) ?_
        obtain ⟨r18, hc, hf⟩ := fb hf
        refine x_i hp (y_V (As := [.int p1, .int p2]) (rest := []) cx hp hl (c_X13_exchange l hN hT e20 hc) (cw_X13_304 cx (mc := 0) (ms := 0) rfl rfl ⟨by decide, by decide⟩) (rC_X13 hN cx hp) rfl rfl (Nat.le_of_ble_eq_true rfl) dX13_wouldSwap_31 ⟨Nat.zero_le _, Nat.zero_le _⟩) (fun r_c u_c H locs hq hp => ?_)
        obtain ⟨rfl, rfl⟩ := hq
        refine lv_if_eq (tgt := 41) hx hb dX13_wouldSwap_34 (by decide) (fun c19 => ?_) (fun c19 => ?_)
        · have hf := fp hf c19
          refine lv_iconst (v := 0) hx hb dX13_wouldSwap_41 (by decide) ?_
          cases hf
          exact r_z cx hp rfl ⟨rfl, e20, fr⟩ dX13_wouldSwap_42
        · have hf := fn hf c19
          refine lv_iconst (v := 1) hx hb dX13_wouldSwap_37 (by decide) ?_
          refine lv_goto (tgt := 42) hx hb dX13_wouldSwap_38 (by decide) ?_
          cases hf
          exact r_z cx hp rfl ⟨rfl, e20, fr⟩ dX13_wouldSwap_42
abbrev rm_X13_swapPairCount : Room := { frames := 6, cells := 0, slots := 0, locals := 137 }
set_option maxRecDepth 100000 in
set_option maxHeartbeats 4000000 in
theorem L_X13_swapPairCount_21 {p : Program} {e : Env} {s : State} {m : MethodId} {args : Array Value} {below : List Frame} {meth : Method} {c : Code} (l : Launch) {E : Ev} (hN : 146 ≤ eN E) (hT : St E) {σ : SM} {Q : State → Prop} (cx : Cx E p s m meth c args RX13 cX13_swapPairCount 4 (some .int)) {x2 : Int32} {ρ : OM} {z1 : Int32} (K : ∀ (u : SM) (H : Heap) (locs : List Loc) (ls : Array Slot), u 20 = ρ → (∀ q, q ≠ 20 → u q = σ q) → Hp E u s H locs → lv_has ls 4 [(0, .ref (adr E 20 0)), (1, .int z1), (2, .int x2)] → W p l e rm_X13_swapPairCount s m args below meth c H locs 0 0 Q (F0 m 49 ls [])) : ∀ (n : Nat) {x3 : Int32} {x1 : Int32}, f_X13_swapPairCount_21 x2 ρ n x3 x1 = some z1 → ∀ {u : SM} {H : Heap} {locs : List Loc} {ls : Array Slot}, u 20 = ρ → (∀ q, q ≠ 20 → u q = σ q) → Hp E u s H locs → lv_has ls 4 [(0, .ref (adr E 20 0)), (1, .int x1), (2, .int x2), (3, .int x3)] → W p l e rm_X13_swapPairCount s m args below meth c H locs 0 0 Q (F0 m 21 ls []) := by
  have hx := cx.1.1
  have hb := cx.1.2.1
  intro n
  induction n with
  | zero =>
    intro x3 x1 hf
    exact absurd hf (by simp [f_X13_swapPairCount_21])
  | succ n ih =>
    intro x3 x1 hf u H locs ls e20 fr hp hl
    rw [f_X13_swapPairCount_21] at hf
    refine lv_iload_n hx hb dX13_swapPairCount_21 rfl (lv_at hl 3 rfl) ?_
    refine lv_iload_n hx hb dX13_swapPairCount_22 rfl (lv_at hl 2 rfl) ?_
    refine lv_icmp_ge (tgt := 49) hx hb dX13_swapPairCount_23 (by decide) (fun c3 => ?_) (fun c3 => ?_)
    · have hf := fp hf c3
      cases hf
      exact K _ _ _ _ e20 fr hp (lv_sub hl [0, 1, 2] rfl)
    · have hf := fn hf c3
      refine lv_iload_n hx hb dX13_swapPairCount_26 rfl (lv_at hl 1 rfl) ?_
      refine lv_aload_n hx hb dX13_swapPairCount_27 rfl (lv_at hl 0 rfl) ?_
      refine lv_iload_n hx hb dX13_swapPairCount_28 rfl (lv_at hl 2 rfl) ?_
      refine lv_iload_n hx hb dX13_swapPairCount_29 rfl (lv_at hl 3 rfl) ?_
      obtain ⟨r4, hc, hf⟩ := fb hf
      refine x_i hp (y_V (As := [.int x2, .int x3]) (rest := [.int x1]) cx hp hl (c_X13_exchange l hN hT e20 hc) (cw_X13_304 cx (mc := 0) (ms := 0) rfl rfl ⟨by decide, by decide⟩) (rC_X13 hN cx hp) rfl rfl (Nat.le_of_ble_eq_true rfl) dX13_swapPairCount_30 ⟨Nat.zero_le _, Nat.zero_le _⟩) (fun r_c u_c H locs hq hp => ?_)
      obtain ⟨rfl, rfl⟩ := hq
      refine lv_if_eq (tgt := 40) hx hb dX13_swapPairCount_33 (by decide) (fun c5 => ?_) (fun c5 => ?_)
      · have hf := fp hf c5
        refine lv_iconst (v := 0) hx hb dX13_swapPairCount_40 (by decide) ?_
        refine lv_iadd hx hb dX13_swapPairCount_41 ?_
        obtain ⟨i6, x_e, hf⟩ := fl hf
        refine lv_nm x_e ?_
        refine lv_istore_n (lv' := [(1, .int i6), (0, .ref (adr E 20 0)), (2, .int x2), (3, .int x3)]) hx hb dX13_swapPairCount_42 rfl hl (by decide) rfl (fun ls hl => ?_)
        refine lv_iinc (v := (x3 + 1)) (lv' := [(3, .int (x3 + 1)), (1, .int i6), (0, .ref (adr E 20 0)), (2, .int x2)]) hx hb dX13_swapPairCount_43 hl (k := 3) rfl rfl (by decide) rfl (fun ls hl => ?_)
        refine lv_goto (tgt := 21) hx hb dX13_swapPairCount_46 (by decide) ?_
        exact ih  hf e20 fr hp (lv_sub hl [2, 1, 3, 0] rfl)
      · have hf := fn hf c5
        refine lv_iconst (v := 1) hx hb dX13_swapPairCount_36 (by decide) ?_
        refine lv_goto (tgt := 41) hx hb dX13_swapPairCount_37 (by decide) ?_
        refine lv_iadd hx hb dX13_swapPairCount_41 ?_
        obtain ⟨i7, x_e, hf⟩ := fl hf
        refine lv_nm x_e ?_
        refine lv_istore_n (lv' := [(1, .int i7), (0, .ref (adr E 20 0)), (2, .int x2), (3, .int x3)]) hx hb dX13_swapPairCount_42 rfl hl (by decide) rfl (fun ls hl => ?_)
        refine lv_iinc (v := (x3 + 1)) (lv' := [(3, .int (x3 + 1)), (1, .int i7), (0, .ref (adr E 20 0)), (2, .int x2)]) hx hb dX13_swapPairCount_43 hl (k := 3) rfl rfl (by decide) rfl (fun ls hl => ?_)
        refine lv_goto (tgt := 21) hx hb dX13_swapPairCount_46 (by decide) ?_
        exact ih  hf e20 fr hp (lv_sub hl [2, 1, 3, 0] rfl)
set_option maxRecDepth 100000 in
set_option maxHeartbeats 4000000 in
theorem L_X13_swapPairCount_9 {p : Program} {e : Env} {s : State} {m : MethodId} {args : Array Value} {below : List Frame} {meth : Method} {c : Code} (l : Launch) {E : Ev} (hN : 146 ≤ eN E) (hT : St E) {σ : SM} (cx : Cx E p s m meth c args RX13 cX13_swapPairCount 4 (some .int)) {ρ : OM} {rv : Int32} {ρ' : OM} : ∀ (n : Nat) {x2 : Int32} {x1 : Int32}, f_X13_swapPairCount_9 ρ n x2 x1 = some (rv, ρ') → ∀ {u : SM} {H : Heap} {locs : List Loc} {ls : Array Slot}, u 20 = ρ → (∀ q, q ≠ 20 → u q = σ q) → Hp E u s H locs → lv_has ls 4 [(0, .ref (adr E 20 0)), (1, .int x1), (2, .int x2)] → W p l e rm_X13_swapPairCount s m args below meth c H locs 0 0 (MQ below (va_Qi (fun r u => rv = r ∧ u 20 = ρ' ∧ ∀ q, q ≠ 20 → u q = σ q) (fun u t => Wu E u t) (eA E)) args s 0 0 (eA E)) (F0 m 9 ls []) := by
  have hx := cx.1.1
  have hb := cx.1.2.1
  intro n
  induction n with
  | zero =>
    intro x2 x1 hf
    exact absurd hf (by simp [f_X13_swapPairCount_9])
  | succ n ih =>
    intro x2 x1 hf u H locs ls e20 fr hp hl
    rw [f_X13_swapPairCount_9] at hf
    refine lv_iload_n hx hb dX13_swapPairCount_9 rfl (lv_at hl 2 rfl) ?_
    refine lv_aload_n hx hb dX13_swapPairCount_10 rfl (lv_at hl 0 rfl) ?_
    refine gF_X13_7 rfl hN cx hp dX13_swapPairCount_11 ?_
    refine lv_iconst (v := 0) hx hb dX13_swapPairCount_14 (by decide) ?_
    obtain ⟨g_i, hf⟩ := fg hf
    refine lA_X13_1 e20 hN cx hp g_i dX13_swapPairCount_15 ?_
    refine lv_icmp_ge (tgt := 55) hx hb dX13_swapPairCount_16 (by decide) (fun c2 => ?_) (fun c2 => ?_)
    · have hf := fp hf c2
      refine lv_iload_n hx hb dX13_swapPairCount_55 rfl (lv_at hl 1 rfl) ?_
      cases hf
      exact r_i cx hp ⟨rfl, e20, fr⟩ dX13_swapPairCount_56
    · have hf := fn hf c2
      refine lv_iconst (v := 0) hx hb dX13_swapPairCount_19 (by decide) ?_
      refine lv_istore_n (lv' := [(3, .int 0), (0, .ref (adr E 20 0)), (1, .int x1), (2, .int x2)]) hx hb dX13_swapPairCount_20 rfl hl (by decide) rfl (fun ls hl => ?_)
      obtain ⟨i8, hc, hf⟩ := fb hf
      refine L_X13_swapPairCount_21 l hN hT cx  (fun u H locs ls e20 fr hp hl => ?_) _ hc e20 fr hp (lv_sub hl [1, 2, 3, 0] rfl)
      refine lv_iinc (v := (x2 + 1)) (lv' := [(2, .int (x2 + 1)), (0, .ref (adr E 20 0)), (1, .int i8)]) hx hb dX13_swapPairCount_49 hl (k := 2) rfl rfl (by decide) rfl (fun ls hl => ?_)
      refine lv_goto (tgt := 9) hx hb dX13_swapPairCount_52 (by decide) ?_
      exact ih  hf e20 fr hp (lv_sub hl [1, 2, 0] rfl)
set_option maxRecDepth 100000 in
set_option maxHeartbeats 4000000 in
theorem c_X13_swapPairCount (l : Launch) {E : Ev} (hN : 146 ≤ eN E) (hT : St E) {σ : SM} {ρ : OM} (e20 : σ 20 = ρ)  {rv : Int32} {ρ' : OM} (hf : f_X13_swapPairCount ρ = some (rv, ρ')) : Met l yX13_swapPairCount (wC yX13_swapPairCount cX13_swapPairCount 4 (some .int)) rm_X13_swapPairCount (va_Pc [.ref (adr E 20 0)] (Wu E σ)) (va_Qi (fun r u => rv = r ∧ u 20 = ρ' ∧ ∀ q, q ≠ 20 → u q = σ q) (fun u t => Wu E u t) (eA E)) 0 0 (eA E) := by
  refine g_entry (lv := [(0, .ref (adr E 20 0))]) (by decide) (Nat.le_of_ble_eq_true rfl) rfl ?_
  intro p e s m below meth c cx hp ls hl
  have hx := cx.1.1
  have hb := cx.1.2.1
  have fr : ∀ q, q ≠ 20 → σ q = σ q := fun _ _ => rfl
  unfold f_X13_swapPairCount at hf
  refine lv_aload_n hx hb dX13_swapPairCount_0 rfl (lv_at hl 0 rfl) ?_
  refine lv_iconst (v := 0) hx hb dX13_swapPairCount_1 (by decide) ?_
  obtain ⟨ρ1, e_l, hf⟩ := fl hf
  refine pF_X13_77 e20 hN cx hp dX13_swapPairCount_2 (fun u H locs e_u n_u hp => ?_)
  have e20 := e_u.trans e_l
  have fr : ∀ q, q ≠ 20 → u q = σ q := fun q h0 => (n_u q h0).trans (fr q h0)
  refine lv_iconst (v := 0) hx hb dX13_swapPairCount_5 (by decide) ?_
  refine lv_istore_n (lv' := [(1, .int 0), (0, .ref (adr E 20 0))]) hx hb dX13_swapPairCount_6 rfl hl (by decide) rfl (fun ls hl => ?_)
  refine lv_iconst (v := 0) hx hb dX13_swapPairCount_7 (by decide) ?_
  refine lv_istore_n (lv' := [(2, .int 0), (1, .int 0), (0, .ref (adr E 20 0))]) hx hb dX13_swapPairCount_8 rfl hl (by decide) rfl (fun ls hl => ?_)
  exact L_X13_swapPairCount_9 l hN hT cx  _ hf e20 fr hp (lv_sub hl [2, 1, 0] rfl)
abbrev rm_X13_improvingCycleLength : Room := { frames := 7, cells := 0, slots := 0, locals := 160 }
set_option maxRecDepth 100000 in
set_option maxHeartbeats 4000000 in
theorem c_X13_improvingCycleLength (l : Launch) {E : Ev} (hN : 146 ≤ eN E) (hT : St E) {σ : SM} {ρ : OM} (e20 : σ 20 = ρ) {p1 : Int32} {rv : Int32} {ρ' : OM} (hf : f_X13_improvingCycleLength p1 ρ = some (rv, ρ')) : Met l yX13_improvingCycleLength (wC yX13_improvingCycleLength cX13_improvingCycleLength 2 (some .int)) rm_X13_improvingCycleLength (va_Pc [.ref (adr E 20 0), .int p1] (Wu E σ)) (va_Qi (fun r u => rv = r ∧ u 20 = ρ' ∧ ∀ q, q ≠ 20 → u q = σ q) (fun u t => Wu E u t) (eA E)) 0 0 (eA E) := by
  refine g_entry (lv := [(0, .ref (adr E 20 0)), (1, .int p1)]) (by decide) (Nat.le_of_ble_eq_true rfl) rfl ?_
  intro p e s m below meth c cx hp ls hl
  have hx := cx.1.1
  have hb := cx.1.2.1
  have fr : ∀ q, q ≠ 20 → σ q = σ q := fun _ _ => rfl
  unfold f_X13_improvingCycleLength at hf
  refine lv_aload_n hx hb dX13_improvingCycleLength_0 rfl (lv_at hl 0 rfl) ?_
  refine lv_aload_n hx hb dX13_improvingCycleLength_1 rfl (lv_at hl 0 rfl) ?_
  refine lv_iload_n hx hb dX13_improvingCycleLength_2 rfl (lv_at hl 1 rfl) ?_
  obtain ⟨r1, hc, hf⟩ := fb hf
  refine x_i hp (y_V (As := [.int p1]) (rest := [.ref (adr E 20 0)]) cx hp hl (c_X13_isSeller l hN hT e20 hc) (cw_X13_339 cx (mc := 0) (ms := 0) rfl rfl ⟨by decide, by decide⟩) (rC_X13 hN cx hp) rfl rfl (Nat.le_of_ble_eq_true rfl) dX13_improvingCycleLength_3 ⟨Nat.zero_le _, Nat.zero_le _⟩) (fun r_c u_c H locs hq hp => ?_)
  obtain ⟨rfl, rfl⟩ := hq
  obtain ⟨r2, ρ3, hc, hf⟩ := fb2 hf
  refine x_i hp (y_V (As := [.int r1]) (rest := []) cx hp hl (c_X13_wants l hN hT e20 hc) (cw_X13_322 cx (mc := 0) (ms := 0) rfl rfl ⟨by decide, by decide⟩) (rC_X13 hN cx hp) rfl rfl (Nat.le_of_ble_eq_true rfl) dX13_improvingCycleLength_6 ⟨Nat.zero_le _, Nat.zero_le _⟩) (fun r_c u_c H locs hq hp => ?_)
  obtain ⟨rfl, e_0, n_u⟩ := hq
  have e20 := e_0
  have fr : ∀ q, q ≠ 20 → u_c q = σ q := fun q h0 => (n_u q h0).trans (fr q h0)
  obtain ⟨u, rfl⟩ : ∃ z, u_c = z := ⟨_, rfl⟩
  refine lv_if_eq (tgt := 20) hx hb dX13_improvingCycleLength_9 (by decide) (fun c4 => ?_) (fun c4 => ?_)
  · have hf := fp hf c4
    refine lv_iconst (v := 0) hx hb dX13_improvingCycleLength_20 (by decide) ?_
    cases hf
    exact r_i cx hp ⟨rfl, e20, fr⟩ dX13_improvingCycleLength_21
  · have hf := fn hf c4
    refine lv_aload_n hx hb dX13_improvingCycleLength_12 rfl (lv_at hl 0 rfl) ?_
    refine lv_iload_n hx hb dX13_improvingCycleLength_13 rfl (lv_at hl 1 rfl) ?_
    obtain ⟨r5, ρ6, hc, hf⟩ := fb2 hf
    refine x_i hp (y_V (As := [.int p1]) (rest := []) cx hp hl (c_X13_shortestCycle l hN hT e20 hc) (cw_X13_355 cx (mc := 0) (ms := 0) rfl rfl ⟨by decide, by decide⟩) (rC_X13 hN cx hp) rfl rfl (Nat.le_of_ble_eq_true rfl) dX13_improvingCycleLength_14 ⟨Nat.zero_le _, Nat.zero_le _⟩) (fun r_c u_c H locs hq hp => ?_)
    obtain ⟨rfl, e_0, n_u⟩ := hq
    have e20 := e_0
    have fr : ∀ q, q ≠ 20 → u_c q = σ q := fun q h0 => (n_u q h0).trans (fr q h0)
    obtain ⟨u, rfl⟩ : ∃ z, u_c = z := ⟨_, rfl⟩
    refine lv_goto (tgt := 21) hx hb dX13_improvingCycleLength_17 (by decide) ?_
    cases hf
    exact r_i cx hp ⟨rfl, e20, fr⟩ dX13_improvingCycleLength_21
abbrev rm_X13_betterFreeStall : Room := { frames := 5, cells := 0, slots := 0, locals := 114 }
set_option maxRecDepth 100000 in
set_option maxHeartbeats 4000000 in
theorem c_X13_betterFreeStall (l : Launch) {E : Ev} (hN : 146 ≤ eN E) (hT : St E) {σ : SM} {ρ : OM} (e20 : σ 20 = ρ) {p1 : Int32} {rv : Int32} {ρ' : OM} (hf : f_X13_betterFreeStall p1 ρ = some (rv, ρ')) : Met l yX13_betterFreeStall (wC yX13_betterFreeStall cX13_betterFreeStall 2 (some .int)) rm_X13_betterFreeStall (va_Pc [.ref (adr E 20 0), .int p1] (Wu E σ)) (va_Qi (fun r u => rv = r ∧ u 20 = ρ' ∧ ∀ q, q ≠ 20 → u q = σ q) (fun u t => Wu E u t) (eA E)) 0 0 (eA E) := by
  refine g_entry (lv := [(0, .ref (adr E 20 0)), (1, .int p1)]) (by decide) (Nat.le_of_ble_eq_true rfl) rfl ?_
  intro p e s m below meth c cx hp ls hl
  have hx := cx.1.1
  have hb := cx.1.2.1
  have fr : ∀ q, q ≠ 20 → σ q = σ q := fun _ _ => rfl
  unfold f_X13_betterFreeStall at hf
  refine lv_aload_n hx hb dX13_betterFreeStall_0 rfl (lv_at hl 0 rfl) ?_
  refine lv_aload_n hx hb dX13_betterFreeStall_1 rfl (lv_at hl 0 rfl) ?_
  refine lv_iload_n hx hb dX13_betterFreeStall_2 rfl (lv_at hl 1 rfl) ?_
  obtain ⟨r1, hc, hf⟩ := fb hf
  refine x_i hp (y_V (As := [.int p1]) (rest := [.ref (adr E 20 0)]) cx hp hl (c_X13_isSeller l hN hT e20 hc) (cw_X13_339 cx (mc := 0) (ms := 0) rfl rfl ⟨by decide, by decide⟩) (rC_X13 hN cx hp) rfl rfl (Nat.le_of_ble_eq_true rfl) dX13_betterFreeStall_3 ⟨Nat.zero_le _, Nat.zero_le _⟩) (fun r_c u_c H locs hq hp => ?_)
  obtain ⟨rfl, rfl⟩ := hq
  obtain ⟨r2, ρ3, hc, hf⟩ := fb2 hf
  refine x_i hp (y_V (As := [.int r1]) (rest := []) cx hp hl (c_X13_wants l hN hT e20 hc) (cw_X13_322 cx (mc := 0) (ms := 0) rfl rfl ⟨by decide, by decide⟩) (rC_X13 hN cx hp) rfl rfl (Nat.le_of_ble_eq_true rfl) dX13_betterFreeStall_6 ⟨Nat.zero_le _, Nat.zero_le _⟩) (fun r_c u_c H locs hq hp => ?_)
  obtain ⟨rfl, e_0, n_u⟩ := hq
  have e20 := e_0
  have fr : ∀ q, q ≠ 20 → u_c q = σ q := fun q h0 => (n_u q h0).trans (fr q h0)
  obtain ⟨u, rfl⟩ : ∃ z, u_c = z := ⟨_, rfl⟩
  refine lv_if_eq (tgt := 20) hx hb dX13_betterFreeStall_9 (by decide) (fun c4 => ?_) (fun c4 => ?_)
  · have hf := fp hf c4
    refine lv_iconst (v := 0) hx hb dX13_betterFreeStall_20 (by decide) ?_
    cases hf
    exact r_i cx hp ⟨rfl, e20, fr⟩ dX13_betterFreeStall_21
  · have hf := fn hf c4
    refine lv_aload_n hx hb dX13_betterFreeStall_12 rfl (lv_at hl 0 rfl) ?_
    refine lv_iload_n hx hb dX13_betterFreeStall_13 rfl (lv_at hl 1 rfl) ?_
    obtain ⟨r5, hc, hf⟩ := fb hf
    refine x_i hp (y_V (As := [.int p1]) (rest := []) cx hp hl (c_X13_betterFree l hN hT e20 hc) (cw_X13_358 cx (mc := 0) (ms := 0) rfl rfl ⟨by decide, by decide⟩) (rC_X13 hN cx hp) rfl rfl (Nat.le_of_ble_eq_true rfl) dX13_betterFreeStall_14 ⟨Nat.zero_le _, Nat.zero_le _⟩) (fun r_c u_c H locs hq hp => ?_)
    obtain ⟨rfl, rfl⟩ := hq
    refine lv_goto (tgt := 21) hx hb dX13_betterFreeStall_17 (by decide) ?_
    cases hf
    exact r_i cx hp ⟨rfl, e20, fr⟩ dX13_betterFreeStall_21
abbrev rm_X13_isEfficient : Room := { frames := 7, cells := 0, slots := 0, locals := 160 }
set_option maxRecDepth 100000 in
set_option maxHeartbeats 4000000 in
theorem L_X13_isEfficient_9 {p : Program} {e : Env} {s : State} {m : MethodId} {args : Array Value} {below : List Frame} {meth : Method} {c : Code} (l : Launch) {E : Ev} (hN : 146 ≤ eN E) (hT : St E) {σ : SM} (cx : Cx E p s m meth c args RX13 cX13_isEfficient 5 (some .boolean)) {rv : Int32} {ρ' : OM} : ∀ (n : Nat) {x2 : Int32} {x1 : Int32} {ρ : OM}, f_X13_isEfficient_9  n x2 x1 ρ = some (rv, ρ') → ∀ {u : SM} {H : Heap} {locs : List Loc} {ls : Array Slot}, u 20 = ρ → (∀ q, q ≠ 20 → u q = σ q) → Hp E u s H locs → lv_has ls 5 [(0, .ref (adr E 20 0)), (1, .int x1), (2, .int x2)] → W p l e rm_X13_isEfficient s m args below meth c H locs 0 0 (MQ below (va_Qi (fun r u => rv = r ∧ u 20 = ρ' ∧ ∀ q, q ≠ 20 → u q = σ q) (fun u t => Wu E u t) (eA E)) args s 0 0 (eA E)) (F0 m 9 ls []) := by
  have hx := cx.1.1
  have hb := cx.1.2.1
  intro n
  induction n with
  | zero =>
    intro x2 x1 ρ hf
    exact absurd hf (by simp [f_X13_isEfficient_9])
  | succ n ih =>
    intro x2 x1 ρ hf u H locs ls e20 fr hp hl
    rw [f_X13_isEfficient_9] at hf
    refine lv_iload_n hx hb dX13_isEfficient_9 rfl (lv_at hl 2 rfl) ?_
    refine lv_aload_n hx hb dX13_isEfficient_10 rfl (lv_at hl 0 rfl) ?_
    refine gF_X13_7 rfl hN cx hp dX13_isEfficient_11 ?_
    refine lv_iconst (v := 0) hx hb dX13_isEfficient_14 (by decide) ?_
    obtain ⟨g_i, hf⟩ := fg hf
    refine lA_X13_1 e20 hN cx hp g_i dX13_isEfficient_15 ?_
    refine lv_icmp_ge (tgt := 87) hx hb dX13_isEfficient_16 (by decide) (fun c2 => ?_) (fun c2 => ?_)
    · have hf := fp hf c2
      refine lv_iload_n hx hb dX13_isEfficient_87 rfl (lv_at hl 1 rfl) ?_
      obtain ⟨g_z, hf⟩ := fg hf
      cases hf
      exact r_z cx hp (bz_n g_z) ⟨rfl, e20, fr⟩ dX13_isEfficient_88
    · have hf := fn hf c2
      refine lv_aload_n hx hb dX13_isEfficient_19 rfl (lv_at hl 0 rfl) ?_
      refine lv_iload_n hx hb dX13_isEfficient_20 rfl (lv_at hl 2 rfl) ?_
      refine lv_iconst (v := 3) hx hb dX13_isEfficient_21 (by decide) ?_
      obtain ⟨r3, hc, hf⟩ := fb hf
      refine x_i hp (y_V (As := [.int x2, .int 3]) (rest := []) cx hp hl (c_X13_of l hN hT e20 hc) (cw_X13_98 cx (mc := 0) (ms := 0) rfl rfl ⟨by decide, by decide⟩) (rC_X13 hN cx hp) rfl rfl (Nat.le_of_ble_eq_true rfl) dX13_isEfficient_22 ⟨Nat.zero_le _, Nat.zero_le _⟩) (fun r_c u_c H locs hq hp => ?_)
      obtain ⟨rfl, rfl⟩ := hq
      refine lv_istore_n (lv' := [(3, .int r3), (0, .ref (adr E 20 0)), (1, .int x1), (2, .int x2)]) hx hb dX13_isEfficient_25 rfl hl (by decide) rfl (fun ls hl => ?_)
      refine lv_iload_n hx hb dX13_isEfficient_26 rfl (lv_at hl 0 rfl) ?_
      refine lv_iconst (v := (-1)) hx hb dX13_isEfficient_27 (by decide) ?_
      refine lv_icmp_eq (tgt := 41) hx hb dX13_isEfficient_28 (by decide) (fun c4 => ?_) (fun c4 => ?_)
      · have hf := fp hf c4
        refine lv_iconst (v := 1) hx hb dX13_isEfficient_41 (by decide) ?_
        refine lv_goto (tgt := 46) hx hb dX13_isEfficient_42 (by decide) ?_
        refine lv_istore (lv' := [(4, .int 1), (3, .int r3), (0, .ref (adr E 20 0)), (1, .int x1), (2, .int x2)]) hx hb dX13_isEfficient_46 hl (by decide) rfl (fun ls hl => ?_)
        refine lv_iload_n hx hb dX13_isEfficient_48 rfl (lv_at hl 3 rfl) ?_
        refine lv_if_eq (tgt := 79) hx hb dX13_isEfficient_49 (by decide) (fun c5 => ?_) (fun c5 => ?_)
        · have hf := fp hf c5
          refine lv_iconst (v := 0) hx hb dX13_isEfficient_79 (by decide) ?_
          refine lv_istore_n (lv' := [(1, .int 0), (4, .int 1), (3, .int r3), (0, .ref (adr E 20 0)), (2, .int x2)]) hx hb dX13_isEfficient_80 rfl hl (by decide) rfl (fun ls hl => ?_)
          refine lv_iinc (v := (x2 + 1)) (lv' := [(2, .int (x2 + 1)), (1, .int 0), (4, .int 1), (3, .int r3), (0, .ref (adr E 20 0))]) hx hb dX13_isEfficient_81 hl (k := 4) rfl rfl (by decide) rfl (fun ls hl => ?_)
          refine lv_goto (tgt := 9) hx hb dX13_isEfficient_84 (by decide) ?_
          exact ih  hf e20 fr hp (lv_sub hl [4, 1, 0] rfl)
        · have hf := fn hf c5
          refine lv_iload hx hb dX13_isEfficient_52 (lv_at hl 0 rfl) ?_
          refine lv_if_eq (tgt := 79) hx hb dX13_isEfficient_54 (by decide) (fun c_x => absurd c_x (by decide)) (fun _ => ?_)
          refine lv_aload_n hx hb dX13_isEfficient_57 rfl (lv_at hl 2 rfl) ?_
          refine lv_iload_n hx hb dX13_isEfficient_58 rfl (lv_at hl 4 rfl) ?_
          obtain ⟨r7, hc, hf⟩ := fb hf
          refine x_i hp (y_V (As := [.int x2]) (rest := []) cx hp hl (c_X13_betterFree l hN hT e20 hc) (cw_X13_358 cx (mc := 0) (ms := 0) rfl rfl ⟨by decide, by decide⟩) (rC_X13 hN cx hp) rfl rfl (Nat.le_of_ble_eq_true rfl) dX13_isEfficient_59 ⟨Nat.zero_le _, Nat.zero_le _⟩) (fun r_c u_c H locs hq hp => ?_)
          obtain ⟨rfl, rfl⟩ := hq
          refine lv_iconst (v := (-1)) hx hb dX13_isEfficient_62 (by decide) ?_
          refine lv_icmp_ne (tgt := 79) hx hb dX13_isEfficient_63 (by decide) (fun c8 => ?_) (fun c8 => ?_)
          · have hf := fn hf c8
            refine lv_iconst (v := 0) hx hb dX13_isEfficient_79 (by decide) ?_
            refine lv_istore_n (lv' := [(1, .int 0), (4, .int 1), (3, .int r3), (0, .ref (adr E 20 0)), (2, .int x2)]) hx hb dX13_isEfficient_80 rfl hl (by decide) rfl (fun ls hl => ?_)
            refine lv_iinc (v := (x2 + 1)) (lv' := [(2, .int (x2 + 1)), (1, .int 0), (4, .int 1), (3, .int r3), (0, .ref (adr E 20 0))]) hx hb dX13_isEfficient_81 hl (k := 4) rfl rfl (by decide) rfl (fun ls hl => ?_)
            refine lv_goto (tgt := 9) hx hb dX13_isEfficient_84 (by decide) ?_
            exact ih  hf e20 fr hp (lv_sub hl [4, 1, 0] rfl)
          · have hf := fp hf c8
            refine lv_aload_n hx hb dX13_isEfficient_66 rfl (lv_at hl 2 rfl) ?_
            refine lv_iload_n hx hb dX13_isEfficient_67 rfl (lv_at hl 4 rfl) ?_
            obtain ⟨r9, ρ10, hc, hf⟩ := fb2 hf
            refine x_i hp (y_V (As := [.int x2]) (rest := []) cx hp hl (c_X13_shortestCycle l hN hT e20 hc) (cw_X13_355 cx (mc := 0) (ms := 0) rfl rfl ⟨by decide, by decide⟩) (rC_X13 hN cx hp) rfl rfl (Nat.le_of_ble_eq_true rfl) dX13_isEfficient_68 ⟨Nat.zero_le _, Nat.zero_le _⟩) (fun r_c u_c H locs hq hp => ?_)
            obtain ⟨rfl, e_0, n_u⟩ := hq
            have e20 := e_0
            have fr : ∀ q, q ≠ 20 → u_c q = σ q := fun q h0 => (n_u q h0).trans (fr q h0)
            obtain ⟨u, rfl⟩ : ∃ z, u_c = z := ⟨_, rfl⟩
            refine lv_iconst (v := (-1)) hx hb dX13_isEfficient_71 (by decide) ?_
            refine lv_icmp_ne (tgt := 79) hx hb dX13_isEfficient_72 (by decide) (fun c11 => ?_) (fun c11 => ?_)
            · have hf := fn hf c11
              refine lv_iconst (v := 0) hx hb dX13_isEfficient_79 (by decide) ?_
              refine lv_istore_n (lv' := [(1, .int 0), (4, .int 1), (3, .int r3), (0, .ref (adr E 20 0)), (2, .int x2)]) hx hb dX13_isEfficient_80 rfl hl (by decide) rfl (fun ls hl => ?_)
              refine lv_iinc (v := (x2 + 1)) (lv' := [(2, .int (x2 + 1)), (1, .int 0), (4, .int 1), (3, .int r3), (0, .ref (adr E 20 0))]) hx hb dX13_isEfficient_81 hl (k := 4) rfl rfl (by decide) rfl (fun ls hl => ?_)
              refine lv_goto (tgt := 9) hx hb dX13_isEfficient_84 (by decide) ?_
              exact ih  hf e20 fr hp (lv_sub hl [4, 1, 0] rfl)
            · have hf := fp hf c11
              refine lv_iconst (v := 1) hx hb dX13_isEfficient_75 (by decide) ?_
              refine lv_goto (tgt := 80) hx hb dX13_isEfficient_76 (by decide) ?_
              refine lv_istore_n (lv' := [(1, .int 1), (4, .int 1), (3, .int r3), (0, .ref (adr E 20 0)), (2, .int x2)]) hx hb dX13_isEfficient_80 rfl hl (by decide) rfl (fun ls hl => ?_)
              refine lv_iinc (v := (x2 + 1)) (lv' := [(2, .int (x2 + 1)), (1, .int 1), (4, .int 1), (3, .int r3), (0, .ref (adr E 20 0))]) hx hb dX13_isEfficient_81 hl (k := 4) rfl rfl (by decide) rfl (fun ls hl => ?_)
              refine lv_goto (tgt := 9) hx hb dX13_isEfficient_84 (by decide) ?_
              exact ih  hf e20 fr hp (lv_sub hl [4, 1, 0] rfl)
      · have hf := fn hf c4
        refine lv_aload_n hx hb dX13_isEfficient_31 rfl (lv_at hl 1 rfl) ?_
        refine lv_iload_n hx hb dX13_isEfficient_32 rfl (lv_at hl 3 rfl) ?_
        refine lv_iload_n hx hb dX13_isEfficient_33 rfl (lv_at hl 0 rfl) ?_
        obtain ⟨r12, hc, hf⟩ := fb hf
        refine x_i hp (y_V (As := [.int x2, .int r3]) (rest := []) cx hp hl (c_X13_rank l hN hT e20 hc) (cw_X13_102 cx (mc := 0) (ms := 0) rfl rfl ⟨by decide, by decide⟩) (rC_X13 hN cx hp) rfl rfl (Nat.le_of_ble_eq_true rfl) dX13_isEfficient_34 ⟨Nat.zero_le _, Nat.zero_le _⟩) (fun r_c u_c H locs hq hp => ?_)
        obtain ⟨rfl, rfl⟩ := hq
        refine lv_iconst (v := (-1)) hx hb dX13_isEfficient_37 (by decide) ?_
        refine lv_icmp_eq (tgt := 45) hx hb dX13_isEfficient_38 (by decide) (fun c13 => ?_) (fun c13 => ?_)
        · have hf := fp hf c13
          refine lv_iconst (v := 0) hx hb dX13_isEfficient_45 (by decide) ?_
          refine lv_istore (lv' := [(4, .int 0), (3, .int r3), (0, .ref (adr E 20 0)), (1, .int x1), (2, .int x2)]) hx hb dX13_isEfficient_46 hl (by decide) rfl (fun ls hl => ?_)
          refine lv_iload_n hx hb dX13_isEfficient_48 rfl (lv_at hl 3 rfl) ?_
          refine lv_if_eq (tgt := 79) hx hb dX13_isEfficient_49 (by decide) (fun c14 => ?_) (fun c14 => ?_)
          · have hf := fp hf c14
            refine lv_iconst (v := 0) hx hb dX13_isEfficient_79 (by decide) ?_
            refine lv_istore_n (lv' := [(1, .int 0), (4, .int 0), (3, .int r3), (0, .ref (adr E 20 0)), (2, .int x2)]) hx hb dX13_isEfficient_80 rfl hl (by decide) rfl (fun ls hl => ?_)
            refine lv_iinc (v := (x2 + 1)) (lv' := [(2, .int (x2 + 1)), (1, .int 0), (4, .int 0), (3, .int r3), (0, .ref (adr E 20 0))]) hx hb dX13_isEfficient_81 hl (k := 4) rfl rfl (by decide) rfl (fun ls hl => ?_)
            refine lv_goto (tgt := 9) hx hb dX13_isEfficient_84 (by decide) ?_
            exact ih  hf e20 fr hp (lv_sub hl [4, 1, 0] rfl)
          · have hf := fn hf c14
            refine lv_iload hx hb dX13_isEfficient_52 (lv_at hl 0 rfl) ?_
            refine lv_if_eq (tgt := 79) hx hb dX13_isEfficient_54 (by decide) (fun _ => ?_) (fun c_x => absurd (by decide) c_x)
            refine lv_iconst (v := 0) hx hb dX13_isEfficient_79 (by decide) ?_
            refine lv_istore_n (lv' := [(1, .int 0), (4, .int 0), (3, .int r3), (0, .ref (adr E 20 0)), (2, .int x2)]) hx hb dX13_isEfficient_80 rfl hl (by decide) rfl (fun ls hl => ?_)
            refine lv_iinc (v := (x2 + 1)) (lv' := [(2, .int (x2 + 1)), (1, .int 0), (4, .int 0), (3, .int r3), (0, .ref (adr E 20 0))]) hx hb dX13_isEfficient_81 hl (k := 4) rfl rfl (by decide) rfl (fun ls hl => ?_)
            refine lv_goto (tgt := 9) hx hb dX13_isEfficient_84 (by decide) ?_
            exact ih  hf e20 fr hp (lv_sub hl [4, 1, 0] rfl)
        · have hf := fn hf c13
          refine lv_iconst (v := 1) hx hb dX13_isEfficient_41 (by decide) ?_
          refine lv_goto (tgt := 46) hx hb dX13_isEfficient_42 (by decide) ?_
          refine lv_istore (lv' := [(4, .int 1), (3, .int r3), (0, .ref (adr E 20 0)), (1, .int x1), (2, .int x2)]) hx hb dX13_isEfficient_46 hl (by decide) rfl (fun ls hl => ?_)
          refine lv_iload_n hx hb dX13_isEfficient_48 rfl (lv_at hl 3 rfl) ?_
          refine lv_if_eq (tgt := 79) hx hb dX13_isEfficient_49 (by decide) (fun c16 => ?_) (fun c16 => ?_)
          · have hf := fp hf c16
            refine lv_iconst (v := 0) hx hb dX13_isEfficient_79 (by decide) ?_
            refine lv_istore_n (lv' := [(1, .int 0), (4, .int 1), (3, .int r3), (0, .ref (adr E 20 0)), (2, .int x2)]) hx hb dX13_isEfficient_80 rfl hl (by decide) rfl (fun ls hl => ?_)
            refine lv_iinc (v := (x2 + 1)) (lv' := [(2, .int (x2 + 1)), (1, .int 0), (4, .int 1), (3, .int r3), (0, .ref (adr E 20 0))]) hx hb dX13_isEfficient_81 hl (k := 4) rfl rfl (by decide) rfl (fun ls hl => ?_)
            refine lv_goto (tgt := 9) hx hb dX13_isEfficient_84 (by decide) ?_
            exact ih  hf e20 fr hp (lv_sub hl [4, 1, 0] rfl)
          · have hf := fn hf c16
            refine lv_iload hx hb dX13_isEfficient_52 (lv_at hl 0 rfl) ?_
            refine lv_if_eq (tgt := 79) hx hb dX13_isEfficient_54 (by decide) (fun c_x => absurd c_x (by decide)) (fun _ => ?_)
            refine lv_aload_n hx hb dX13_isEfficient_57 rfl (lv_at hl 2 rfl) ?_
            refine lv_iload_n hx hb dX13_isEfficient_58 rfl (lv_at hl 4 rfl) ?_
            obtain ⟨r18, hc, hf⟩ := fb hf
            refine x_i hp (y_V (As := [.int x2]) (rest := []) cx hp hl (c_X13_betterFree l hN hT e20 hc) (cw_X13_358 cx (mc := 0) (ms := 0) rfl rfl ⟨by decide, by decide⟩) (rC_X13 hN cx hp) rfl rfl (Nat.le_of_ble_eq_true rfl) dX13_isEfficient_59 ⟨Nat.zero_le _, Nat.zero_le _⟩) (fun r_c u_c H locs hq hp => ?_)
            obtain ⟨rfl, rfl⟩ := hq
            refine lv_iconst (v := (-1)) hx hb dX13_isEfficient_62 (by decide) ?_
            refine lv_icmp_ne (tgt := 79) hx hb dX13_isEfficient_63 (by decide) (fun c19 => ?_) (fun c19 => ?_)
            · have hf := fn hf c19
              refine lv_iconst (v := 0) hx hb dX13_isEfficient_79 (by decide) ?_
              refine lv_istore_n (lv' := [(1, .int 0), (4, .int 1), (3, .int r3), (0, .ref (adr E 20 0)), (2, .int x2)]) hx hb dX13_isEfficient_80 rfl hl (by decide) rfl (fun ls hl => ?_)
              refine lv_iinc (v := (x2 + 1)) (lv' := [(2, .int (x2 + 1)), (1, .int 0), (4, .int 1), (3, .int r3), (0, .ref (adr E 20 0))]) hx hb dX13_isEfficient_81 hl (k := 4) rfl rfl (by decide) rfl (fun ls hl => ?_)
              refine lv_goto (tgt := 9) hx hb dX13_isEfficient_84 (by decide) ?_
              exact ih  hf e20 fr hp (lv_sub hl [4, 1, 0] rfl)
            · have hf := fp hf c19
              refine lv_aload_n hx hb dX13_isEfficient_66 rfl (lv_at hl 2 rfl) ?_
              refine lv_iload_n hx hb dX13_isEfficient_67 rfl (lv_at hl 4 rfl) ?_
              obtain ⟨r20, ρ21, hc, hf⟩ := fb2 hf
              refine x_i hp (y_V (As := [.int x2]) (rest := []) cx hp hl (c_X13_shortestCycle l hN hT e20 hc) (cw_X13_355 cx (mc := 0) (ms := 0) rfl rfl ⟨by decide, by decide⟩) (rC_X13 hN cx hp) rfl rfl (Nat.le_of_ble_eq_true rfl) dX13_isEfficient_68 ⟨Nat.zero_le _, Nat.zero_le _⟩) (fun r_c u_c H locs hq hp => ?_)
              obtain ⟨rfl, e_0, n_u⟩ := hq
              have e20 := e_0
              have fr : ∀ q, q ≠ 20 → u_c q = σ q := fun q h0 => (n_u q h0).trans (fr q h0)
              obtain ⟨u, rfl⟩ : ∃ z, u_c = z := ⟨_, rfl⟩
              refine lv_iconst (v := (-1)) hx hb dX13_isEfficient_71 (by decide) ?_
              refine lv_icmp_ne (tgt := 79) hx hb dX13_isEfficient_72 (by decide) (fun c22 => ?_) (fun c22 => ?_)
              · have hf := fn hf c22
                refine lv_iconst (v := 0) hx hb dX13_isEfficient_79 (by decide) ?_
                refine lv_istore_n (lv' := [(1, .int 0), (4, .int 1), (3, .int r3), (0, .ref (adr E 20 0)), (2, .int x2)]) hx hb dX13_isEfficient_80 rfl hl (by decide) rfl (fun ls hl => ?_)
                refine lv_iinc (v := (x2 + 1)) (lv' := [(2, .int (x2 + 1)), (1, .int 0), (4, .int 1), (3, .int r3), (0, .ref (adr E 20 0))]) hx hb dX13_isEfficient_81 hl (k := 4) rfl rfl (by decide) rfl (fun ls hl => ?_)
                refine lv_goto (tgt := 9) hx hb dX13_isEfficient_84 (by decide) ?_
                exact ih  hf e20 fr hp (lv_sub hl [4, 1, 0] rfl)
              · have hf := fp hf c22
                refine lv_iconst (v := 1) hx hb dX13_isEfficient_75 (by decide) ?_
                refine lv_goto (tgt := 80) hx hb dX13_isEfficient_76 (by decide) ?_
                refine lv_istore_n (lv' := [(1, .int 1), (4, .int 1), (3, .int r3), (0, .ref (adr E 20 0)), (2, .int x2)]) hx hb dX13_isEfficient_80 rfl hl (by decide) rfl (fun ls hl => ?_)
                refine lv_iinc (v := (x2 + 1)) (lv' := [(2, .int (x2 + 1)), (1, .int 1), (4, .int 1), (3, .int r3), (0, .ref (adr E 20 0))]) hx hb dX13_isEfficient_81 hl (k := 4) rfl rfl (by decide) rfl (fun ls hl => ?_)
                refine lv_goto (tgt := 9) hx hb dX13_isEfficient_84 (by decide) ?_
                exact ih  hf e20 fr hp (lv_sub hl [4, 1, 0] rfl)
set_option maxRecDepth 100000 in
set_option maxHeartbeats 4000000 in
theorem c_X13_isEfficient (l : Launch) {E : Ev} (hN : 146 ≤ eN E) (hT : St E) {σ : SM} {ρ : OM} (e20 : σ 20 = ρ)  {rv : Int32} {ρ' : OM} (hf : f_X13_isEfficient ρ = some (rv, ρ')) : Met l yX13_isEfficient (wC yX13_isEfficient cX13_isEfficient 5 (some .boolean)) rm_X13_isEfficient (va_Pc [.ref (adr E 20 0)] (Wu E σ)) (va_Qi (fun r u => rv = r ∧ u 20 = ρ' ∧ ∀ q, q ≠ 20 → u q = σ q) (fun u t => Wu E u t) (eA E)) 0 0 (eA E) := by
  refine g_entry (lv := [(0, .ref (adr E 20 0))]) (by decide) (Nat.le_of_ble_eq_true rfl) rfl ?_
  intro p e s m below meth c cx hp ls hl
  have hx := cx.1.1
  have hb := cx.1.2.1
  have fr : ∀ q, q ≠ 20 → σ q = σ q := fun _ _ => rfl
  unfold f_X13_isEfficient at hf
  refine lv_aload_n hx hb dX13_isEfficient_0 rfl (lv_at hl 0 rfl) ?_
  refine lv_iconst (v := 0) hx hb dX13_isEfficient_1 (by decide) ?_
  obtain ⟨ρ1, e_l, hf⟩ := fl hf
  refine pF_X13_77 e20 hN cx hp dX13_isEfficient_2 (fun u H locs e_u n_u hp => ?_)
  have e20 := e_u.trans e_l
  have fr : ∀ q, q ≠ 20 → u q = σ q := fun q h0 => (n_u q h0).trans (fr q h0)
  refine lv_iconst (v := 1) hx hb dX13_isEfficient_5 (by decide) ?_
  refine lv_istore_n (lv' := [(1, .int 1), (0, .ref (adr E 20 0))]) hx hb dX13_isEfficient_6 rfl hl (by decide) rfl (fun ls hl => ?_)
  refine lv_iconst (v := 0) hx hb dX13_isEfficient_7 (by decide) ?_
  refine lv_istore_n (lv' := [(2, .int 0), (1, .int 1), (0, .ref (adr E 20 0))]) hx hb dX13_isEfficient_8 rfl hl (by decide) rfl (fun ls hl => ?_)
  exact L_X13_isEfficient_9 l hN hT cx  _ hf e20 fr hp (lv_sub hl [2, 1, 0] rfl)
abbrev rm_X13_blockReason : Room := { frames := 4, cells := 0, slots := 0, locals := 91 }
set_option maxRecDepth 100000 in
set_option maxHeartbeats 4000000 in
theorem c_X13_blockReason (l : Launch) {E : Ev} (hN : 146 ≤ eN E) (hT : St E) {σ : SM} {ρ : OM} (e20 : σ 20 = ρ) {p1 : Int32} {p2 : Int32} {rv : Int32} {ρ' : OM} (hf : f_X13_blockReason p1 p2 ρ = some (rv, ρ')) : Met l yX13_blockReason (wC yX13_blockReason cX13_blockReason 4 (some .int)) rm_X13_blockReason (va_Pc [.ref (adr E 20 0), .int p1, .int p2] (Wu E σ)) (va_Qi (fun r u => rv = r ∧ u 20 = ρ' ∧ ∀ q, q ≠ 20 → u q = σ q) (fun u t => Wu E u t) (eA E)) 0 0 (eA E) := by
  refine g_entry (lv := [(0, .ref (adr E 20 0)), (1, .int p1), (2, .int p2)]) (by decide) (Nat.le_of_ble_eq_true rfl) rfl ?_
  intro p e s m below meth c cx hp ls hl
  have hx := cx.1.1
  have hb := cx.1.2.1
  have fr : ∀ q, q ≠ 20 → σ q = σ q := fun _ _ => rfl
  unfold f_X13_blockReason at hf
  refine lv_aload_n hx hb dX13_blockReason_0 rfl (lv_at hl 0 rfl) ?_
  refine lv_aload_n hx hb dX13_blockReason_1 rfl (lv_at hl 0 rfl) ?_
  refine lv_iload_n hx hb dX13_blockReason_2 rfl (lv_at hl 1 rfl) ?_
  obtain ⟨r1, hc, hf⟩ := fb hf
  refine x_i hp (y_V (As := [.int p1]) (rest := [.ref (adr E 20 0)]) cx hp hl (c_X13_isSeller l hN hT e20 hc) (cw_X13_339 cx (mc := 0) (ms := 0) rfl rfl ⟨by decide, by decide⟩) (rC_X13 hN cx hp) rfl rfl (Nat.le_of_ble_eq_true rfl) dX13_blockReason_3 ⟨Nat.zero_le _, Nat.zero_le _⟩) (fun r_c u_c H locs hq hp => ?_)
  obtain ⟨rfl, rfl⟩ := hq
  refine lv_if_eq (tgt := 21) hx hb dX13_blockReason_6 (by decide) (fun c2 => ?_) (fun c2 => ?_)
  · have hf := fp hf c2
    refine lv_iconst (v := 0) hx hb dX13_blockReason_21 (by decide) ?_
    obtain ⟨r3, ρ4, hc, hf⟩ := fb2 hf
    refine x_i hp (y_V (As := [.int 0]) (rest := []) cx hp hl (c_X13_wants l hN hT e20 hc) (cw_X13_322 cx (mc := 0) (ms := 0) rfl rfl ⟨by decide, by decide⟩) (rC_X13 hN cx hp) rfl rfl (Nat.le_of_ble_eq_true rfl) dX13_blockReason_22 ⟨Nat.zero_le _, Nat.zero_le _⟩) (fun r_c u_c H locs hq hp => ?_)
    obtain ⟨rfl, e_0, n_u⟩ := hq
    have e20 := e_0
    have fr : ∀ q, q ≠ 20 → u_c q = σ q := fun q h0 => (n_u q h0).trans (fr q h0)
    obtain ⟨u, rfl⟩ : ∃ z, u_c = z := ⟨_, rfl⟩
    refine lv_if_ne (tgt := 30) hx hb dX13_blockReason_25 (by decide) (fun c5 => ?_) (fun c5 => ?_)
    · have hf := fn hf c5
      refine lv_aload_n hx hb dX13_blockReason_30 rfl (lv_at hl 0 rfl) ?_
      refine lv_iload_n hx hb dX13_blockReason_31 rfl (lv_at hl 1 rfl) ?_
      refine lv_iconst (v := 3) hx hb dX13_blockReason_32 (by decide) ?_
      obtain ⟨r6, hc, hf⟩ := fb hf
      refine x_i hp (y_V (As := [.int p1, .int 3]) (rest := []) cx hp hl (c_X13_of l hN hT e20 hc) (cw_X13_98 cx (mc := 0) (ms := 0) rfl rfl ⟨by decide, by decide⟩) (rC_X13 hN cx hp) rfl rfl (Nat.le_of_ble_eq_true rfl) dX13_blockReason_33 ⟨Nat.zero_le _, Nat.zero_le _⟩) (fun r_c u_c H locs hq hp => ?_)
      obtain ⟨rfl, rfl⟩ := hq
      refine lv_istore_n (lv' := [(3, .int r6), (0, .ref (adr E 20 0)), (1, .int p1), (2, .int p2)]) hx hb dX13_blockReason_36 rfl hl (by decide) rfl (fun ls hl => ?_)
      refine lv_iload_n hx hb dX13_blockReason_37 rfl (lv_at hl 0 rfl) ?_
      refine lv_iload_n hx hb dX13_blockReason_38 rfl (lv_at hl 3 rfl) ?_
      refine lv_icmp_ne (tgt := 44) hx hb dX13_blockReason_39 (by decide) (fun c7 => ?_) (fun c7 => ?_)
      · have hf := fn hf c7
        refine lv_aload_n hx hb dX13_blockReason_44 rfl (lv_at hl 1 rfl) ?_
        refine lv_iload_n hx hb dX13_blockReason_45 rfl (lv_at hl 2 rfl) ?_
        refine lv_iload_n hx hb dX13_blockReason_46 rfl (lv_at hl 3 rfl) ?_
        obtain ⟨r8, hc, hf⟩ := fb hf
        refine x_i hp (y_V (As := [.int p1, .int p2]) (rest := []) cx hp hl (c_X13_rank l hN hT e20 hc) (cw_X13_102 cx (mc := 0) (ms := 0) rfl rfl ⟨by decide, by decide⟩) (rC_X13 hN cx hp) rfl rfl (Nat.le_of_ble_eq_true rfl) dX13_blockReason_47 ⟨Nat.zero_le _, Nat.zero_le _⟩) (fun r_c u_c H locs hq hp => ?_)
        obtain ⟨rfl, rfl⟩ := hq
        refine lv_iconst (v := (-1)) hx hb dX13_blockReason_50 (by decide) ?_
        refine lv_icmp_ne (tgt := 56) hx hb dX13_blockReason_51 (by decide) (fun c9 => ?_) (fun c9 => ?_)
        · have hf := fn hf c9
          refine lv_iload_n hx hb dX13_blockReason_56 rfl (lv_at hl 0 rfl) ?_
          refine lv_iconst (v := (-1)) hx hb dX13_blockReason_57 (by decide) ?_
          refine lv_icmp_eq (tgt := 73) hx hb dX13_blockReason_58 (by decide) (fun c10 => ?_) (fun c10 => ?_)
          · have hf := fp hf c10
            refine lv_aload_n hx hb dX13_blockReason_73 rfl (lv_at hl 1 rfl) ?_
            refine lv_iload_n hx hb dX13_blockReason_74 rfl (lv_at hl 3 rfl) ?_
            obtain ⟨r11, hc, hf⟩ := fb hf
            refine x_i hp (y_V (As := [.int p2]) (rest := []) cx hp hl (c_X13_occupant l hN hT e20 hc) (cw_X13_115 cx (mc := 0) (ms := 0) rfl rfl ⟨by decide, by decide⟩) (rC_X13 hN cx hp) rfl rfl (Nat.le_of_ble_eq_true rfl) dX13_blockReason_75 ⟨Nat.zero_le _, Nat.zero_le _⟩) (fun r_c u_c H locs hq hp => ?_)
            obtain ⟨rfl, rfl⟩ := hq
            refine lv_iconst (v := (-1)) hx hb dX13_blockReason_78 (by decide) ?_
            refine lv_icmp_eq (tgt := 86) hx hb dX13_blockReason_79 (by decide) (fun c12 => ?_) (fun c12 => ?_)
            · have hf := fp hf c12
              refine lv_aload_n hx hb dX13_blockReason_86 rfl (lv_at hl 1 rfl) ?_
              refine lv_iload_n hx hb dX13_blockReason_87 rfl (lv_at hl 3 rfl) ?_
              obtain ⟨r13, hc, hf⟩ := fb hf
              refine x_i hp (y_V (As := [.int p2]) (rest := []) cx hp hl (c_X13_rentOf l hN hT e20 hc) (cw_X13_149 cx (mc := 0) (ms := 0) rfl rfl ⟨by decide, by decide⟩) (rC_X13 hN cx hp) rfl rfl (Nat.le_of_ble_eq_true rfl) dX13_blockReason_88 ⟨Nat.zero_le _, Nat.zero_le _⟩) (fun r_c u_c H locs hq hp => ?_)
              obtain ⟨rfl, rfl⟩ := hq
              refine lv_aload_n hx hb dX13_blockReason_91 rfl (lv_at hl 1 rfl) ?_
              refine lv_iload_n hx hb dX13_blockReason_92 rfl (lv_at hl 2 rfl) ?_
              refine lv_iconst (v := 1) hx hb dX13_blockReason_93 (by decide) ?_
              obtain ⟨r14, hc, hf⟩ := fb hf
              refine x_i hp (y_V (As := [.int p1, .int 1]) (rest := [.int r13]) cx hp hl (c_X13_of l hN hT e20 hc) (cw_X13_98 cx (mc := 0) (ms := 0) rfl rfl ⟨by decide, by decide⟩) (rC_X13 hN cx hp) rfl rfl (Nat.le_of_ble_eq_true rfl) dX13_blockReason_94 ⟨Nat.zero_le _, Nat.zero_le _⟩) (fun r_c u_c H locs hq hp => ?_)
              obtain ⟨rfl, rfl⟩ := hq
              refine lv_icmp_le (tgt := 104) hx hb dX13_blockReason_97 (by decide) (fun c15 => ?_) (fun c15 => ?_)
              · have hf := fp hf c15
                refine lv_iconst (v := 5) hx hb dX13_blockReason_104 (by decide) ?_
                cases hf
                exact r_i cx hp ⟨rfl, e20, fr⟩ dX13_blockReason_105
              · have hf := fn hf c15
                refine lv_iconst (v := 4) hx hb dX13_blockReason_100 (by decide) ?_
                refine lv_goto (tgt := 105) hx hb dX13_blockReason_101 (by decide) ?_
                cases hf
                exact r_i cx hp ⟨rfl, e20, fr⟩ dX13_blockReason_105
            · have hf := fn hf c12
              refine lv_iconst (v := 3) hx hb dX13_blockReason_82 (by decide) ?_
              refine lv_goto (tgt := 105) hx hb dX13_blockReason_83 (by decide) ?_
              cases hf
              exact r_i cx hp ⟨rfl, e20, fr⟩ dX13_blockReason_105
          · have hf := fn hf c10
            refine lv_aload_n hx hb dX13_blockReason_61 rfl (lv_at hl 1 rfl) ?_
            refine lv_iload_n hx hb dX13_blockReason_62 rfl (lv_at hl 2 rfl) ?_
            refine lv_iload_n hx hb dX13_blockReason_63 rfl (lv_at hl 0 rfl) ?_
            refine lv_iload_n hx hb dX13_blockReason_64 rfl (lv_at hl 3 rfl) ?_
            obtain ⟨r16, hc, hf⟩ := fb hf
            refine x_i hp (y_V (As := [.int p1, .int r6, .int p2]) (rest := []) cx hp hl (c_X13_isBetter l hN hT e20 hc) (cw_X13_108 cx (mc := 0) (ms := 0) rfl rfl ⟨by decide, by decide⟩) (rC_X13 hN cx hp) rfl rfl (Nat.le_of_ble_eq_true rfl) dX13_blockReason_65 ⟨Nat.zero_le _, Nat.zero_le _⟩) (fun r_c u_c H locs hq hp => ?_)
            obtain ⟨rfl, rfl⟩ := hq
            refine lv_if_eq (tgt := 73) hx hb dX13_blockReason_68 (by decide) (fun c17 => ?_) (fun c17 => ?_)
            · have hf := fp hf c17
              refine lv_aload_n hx hb dX13_blockReason_73 rfl (lv_at hl 1 rfl) ?_
              refine lv_iload_n hx hb dX13_blockReason_74 rfl (lv_at hl 3 rfl) ?_
              obtain ⟨r18, hc, hf⟩ := fb hf
              refine x_i hp (y_V (As := [.int p2]) (rest := []) cx hp hl (c_X13_occupant l hN hT e20 hc) (cw_X13_115 cx (mc := 0) (ms := 0) rfl rfl ⟨by decide, by decide⟩) (rC_X13 hN cx hp) rfl rfl (Nat.le_of_ble_eq_true rfl) dX13_blockReason_75 ⟨Nat.zero_le _, Nat.zero_le _⟩) (fun r_c u_c H locs hq hp => ?_)
              obtain ⟨rfl, rfl⟩ := hq
              refine lv_iconst (v := (-1)) hx hb dX13_blockReason_78 (by decide) ?_
              refine lv_icmp_eq (tgt := 86) hx hb dX13_blockReason_79 (by decide) (fun c19 => ?_) (fun c19 => ?_)
              · have hf := fp hf c19
                refine lv_aload_n hx hb dX13_blockReason_86 rfl (lv_at hl 1 rfl) ?_
                refine lv_iload_n hx hb dX13_blockReason_87 rfl (lv_at hl 3 rfl) ?_
                obtain ⟨r20, hc, hf⟩ := fb hf
                refine x_i hp (y_V (As := [.int p2]) (rest := []) cx hp hl (c_X13_rentOf l hN hT e20 hc) (cw_X13_149 cx (mc := 0) (ms := 0) rfl rfl ⟨by decide, by decide⟩) (rC_X13 hN cx hp) rfl rfl (Nat.le_of_ble_eq_true rfl) dX13_blockReason_88 ⟨Nat.zero_le _, Nat.zero_le _⟩) (fun r_c u_c H locs hq hp => ?_)
                obtain ⟨rfl, rfl⟩ := hq
                refine lv_aload_n hx hb dX13_blockReason_91 rfl (lv_at hl 1 rfl) ?_
                refine lv_iload_n hx hb dX13_blockReason_92 rfl (lv_at hl 2 rfl) ?_
                refine lv_iconst (v := 1) hx hb dX13_blockReason_93 (by decide) ?_
                obtain ⟨r21, hc, hf⟩ := fb hf
                refine x_i hp (y_V (As := [.int p1, .int 1]) (rest := [.int r20]) cx hp hl (c_X13_of l hN hT e20 hc) (cw_X13_98 cx (mc := 0) (ms := 0) rfl rfl ⟨by decide, by decide⟩) (rC_X13 hN cx hp) rfl rfl (Nat.le_of_ble_eq_true rfl) dX13_blockReason_94 ⟨Nat.zero_le _, Nat.zero_le _⟩) (fun r_c u_c H locs hq hp => ?_)
                obtain ⟨rfl, rfl⟩ := hq
                refine lv_icmp_le (tgt := 104) hx hb dX13_blockReason_97 (by decide) (fun c22 => ?_) (fun c22 => ?_)
                · have hf := fp hf c22
                  refine lv_iconst (v := 5) hx hb dX13_blockReason_104 (by decide) ?_
                  cases hf
                  exact r_i cx hp ⟨rfl, e20, fr⟩ dX13_blockReason_105
                · have hf := fn hf c22
                  refine lv_iconst (v := 4) hx hb dX13_blockReason_100 (by decide) ?_
                  refine lv_goto (tgt := 105) hx hb dX13_blockReason_101 (by decide) ?_
                  cases hf
                  exact r_i cx hp ⟨rfl, e20, fr⟩ dX13_blockReason_105
              · have hf := fn hf c19
                refine lv_iconst (v := 3) hx hb dX13_blockReason_82 (by decide) ?_
                refine lv_goto (tgt := 105) hx hb dX13_blockReason_83 (by decide) ?_
                cases hf
                exact r_i cx hp ⟨rfl, e20, fr⟩ dX13_blockReason_105
            · have hf := fn hf c17
              refine lv_iconst (v := 2) hx hb dX13_blockReason_71 (by decide) ?_
              cases hf
              exact r_i cx hp ⟨rfl, e20, fr⟩ dX13_blockReason_72
        · have hf := fp hf c9
          refine lv_iconst (v := 1) hx hb dX13_blockReason_54 (by decide) ?_
          cases hf
          exact r_i cx hp ⟨rfl, e20, fr⟩ dX13_blockReason_55
      · have hf := fp hf c7
        refine lv_iconst (v := 0) hx hb dX13_blockReason_42 (by decide) ?_
        cases hf
        exact r_i cx hp ⟨rfl, e20, fr⟩ dX13_blockReason_43
    · have hf := fp hf c5
      refine lv_iconst (v := 0) hx hb dX13_blockReason_28 (by decide) ?_
      cases hf
      exact r_i cx hp ⟨rfl, e20, fr⟩ dX13_blockReason_29
  · have hf := fn hf c2
    refine lv_aload_n hx hb dX13_blockReason_9 rfl (lv_at hl 0 rfl) ?_
    refine lv_iload_n hx hb dX13_blockReason_10 rfl (lv_at hl 2 rfl) ?_
    obtain ⟨r23, hc, hf⟩ := fb hf
    refine x_i hp (y_V (As := [.int p2]) (rest := [.ref (adr E 20 0)]) cx hp hl (c_X13_isStall l hN hT e20 hc) (cw_X13_94 cx (mc := 0) (ms := 0) rfl rfl ⟨by decide, by decide⟩) (rC_X13 hN cx hp) rfl rfl (Nat.le_of_ble_eq_true rfl) dX13_blockReason_11 ⟨Nat.zero_le _, Nat.zero_le _⟩) (fun r_c u_c H locs hq hp => ?_)
    obtain ⟨rfl, rfl⟩ := hq
    refine lv_if_eq (tgt := 21) hx hb dX13_blockReason_14 (by decide) (fun c24 => ?_) (fun c24 => ?_)
    · have hf := fp hf c24
      refine lv_iconst (v := 0) hx hb dX13_blockReason_21 (by decide) ?_
      obtain ⟨r25, ρ26, hc, hf⟩ := fb2 hf
      refine x_i hp (y_V (As := [.int 0]) (rest := []) cx hp hl (c_X13_wants l hN hT e20 hc) (cw_X13_322 cx (mc := 0) (ms := 0) rfl rfl ⟨by decide, by decide⟩) (rC_X13 hN cx hp) rfl rfl (Nat.le_of_ble_eq_true rfl) dX13_blockReason_22 ⟨Nat.zero_le _, Nat.zero_le _⟩) (fun r_c u_c H locs hq hp => ?_)
      obtain ⟨rfl, e_0, n_u⟩ := hq
      have e20 := e_0
      have fr : ∀ q, q ≠ 20 → u_c q = σ q := fun q h0 => (n_u q h0).trans (fr q h0)
      obtain ⟨u, rfl⟩ : ∃ z, u_c = z := ⟨_, rfl⟩
      refine lv_if_ne (tgt := 30) hx hb dX13_blockReason_25 (by decide) (fun c27 => ?_) (fun c27 => ?_)
      · have hf := fn hf c27
        refine lv_aload_n hx hb dX13_blockReason_30 rfl (lv_at hl 0 rfl) ?_
        refine lv_iload_n hx hb dX13_blockReason_31 rfl (lv_at hl 1 rfl) ?_
        refine lv_iconst (v := 3) hx hb dX13_blockReason_32 (by decide) ?_
        obtain ⟨r28, hc, hf⟩ := fb hf
        refine x_i hp (y_V (As := [.int p1, .int 3]) (rest := []) cx hp hl (c_X13_of l hN hT e20 hc) (cw_X13_98 cx (mc := 0) (ms := 0) rfl rfl ⟨by decide, by decide⟩) (rC_X13 hN cx hp) rfl rfl (Nat.le_of_ble_eq_true rfl) dX13_blockReason_33 ⟨Nat.zero_le _, Nat.zero_le _⟩) (fun r_c u_c H locs hq hp => ?_)
        obtain ⟨rfl, rfl⟩ := hq
        refine lv_istore_n (lv' := [(3, .int r28), (0, .ref (adr E 20 0)), (1, .int p1), (2, .int p2)]) hx hb dX13_blockReason_36 rfl hl (by decide) rfl (fun ls hl => ?_)
        refine lv_iload_n hx hb dX13_blockReason_37 rfl (lv_at hl 0 rfl) ?_
        refine lv_iload_n hx hb dX13_blockReason_38 rfl (lv_at hl 3 rfl) ?_
        refine lv_icmp_ne (tgt := 44) hx hb dX13_blockReason_39 (by decide) (fun c29 => ?_) (fun c29 => ?_)
        · have hf := fn hf c29
          refine lv_aload_n hx hb dX13_blockReason_44 rfl (lv_at hl 1 rfl) ?_
          refine lv_iload_n hx hb dX13_blockReason_45 rfl (lv_at hl 2 rfl) ?_
          refine lv_iload_n hx hb dX13_blockReason_46 rfl (lv_at hl 3 rfl) ?_
          obtain ⟨r30, hc, hf⟩ := fb hf
          refine x_i hp (y_V (As := [.int p1, .int p2]) (rest := []) cx hp hl (c_X13_rank l hN hT e20 hc) (cw_X13_102 cx (mc := 0) (ms := 0) rfl rfl ⟨by decide, by decide⟩) (rC_X13 hN cx hp) rfl rfl (Nat.le_of_ble_eq_true rfl) dX13_blockReason_47 ⟨Nat.zero_le _, Nat.zero_le _⟩) (fun r_c u_c H locs hq hp => ?_)
          obtain ⟨rfl, rfl⟩ := hq
          refine lv_iconst (v := (-1)) hx hb dX13_blockReason_50 (by decide) ?_
          refine lv_icmp_ne (tgt := 56) hx hb dX13_blockReason_51 (by decide) (fun c31 => ?_) (fun c31 => ?_)
          · have hf := fn hf c31
            refine lv_iload_n hx hb dX13_blockReason_56 rfl (lv_at hl 0 rfl) ?_
            refine lv_iconst (v := (-1)) hx hb dX13_blockReason_57 (by decide) ?_
            refine lv_icmp_eq (tgt := 73) hx hb dX13_blockReason_58 (by decide) (fun c32 => ?_) (fun c32 => ?_)
            · have hf := fp hf c32
              refine lv_aload_n hx hb dX13_blockReason_73 rfl (lv_at hl 1 rfl) ?_
              refine lv_iload_n hx hb dX13_blockReason_74 rfl (lv_at hl 3 rfl) ?_
              obtain ⟨r33, hc, hf⟩ := fb hf
              refine x_i hp (y_V (As := [.int p2]) (rest := []) cx hp hl (c_X13_occupant l hN hT e20 hc) (cw_X13_115 cx (mc := 0) (ms := 0) rfl rfl ⟨by decide, by decide⟩) (rC_X13 hN cx hp) rfl rfl (Nat.le_of_ble_eq_true rfl) dX13_blockReason_75 ⟨Nat.zero_le _, Nat.zero_le _⟩) (fun r_c u_c H locs hq hp => ?_)
              obtain ⟨rfl, rfl⟩ := hq
              refine lv_iconst (v := (-1)) hx hb dX13_blockReason_78 (by decide) ?_
              refine lv_icmp_eq (tgt := 86) hx hb dX13_blockReason_79 (by decide) (fun c34 => ?_) (fun c34 => ?_)
              · have hf := fp hf c34
                refine lv_aload_n hx hb dX13_blockReason_86 rfl (lv_at hl 1 rfl) ?_
                refine lv_iload_n hx hb dX13_blockReason_87 rfl (lv_at hl 3 rfl) ?_
                obtain ⟨r35, hc, hf⟩ := fb hf
                refine x_i hp (y_V (As := [.int p2]) (rest := []) cx hp hl (c_X13_rentOf l hN hT e20 hc) (cw_X13_149 cx (mc := 0) (ms := 0) rfl rfl ⟨by decide, by decide⟩) (rC_X13 hN cx hp) rfl rfl (Nat.le_of_ble_eq_true rfl) dX13_blockReason_88 ⟨Nat.zero_le _, Nat.zero_le _⟩) (fun r_c u_c H locs hq hp => ?_)
                obtain ⟨rfl, rfl⟩ := hq
                refine lv_aload_n hx hb dX13_blockReason_91 rfl (lv_at hl 1 rfl) ?_
                refine lv_iload_n hx hb dX13_blockReason_92 rfl (lv_at hl 2 rfl) ?_
                refine lv_iconst (v := 1) hx hb dX13_blockReason_93 (by decide) ?_
                obtain ⟨r36, hc, hf⟩ := fb hf
                refine x_i hp (y_V (As := [.int p1, .int 1]) (rest := [.int r35]) cx hp hl (c_X13_of l hN hT e20 hc) (cw_X13_98 cx (mc := 0) (ms := 0) rfl rfl ⟨by decide, by decide⟩) (rC_X13 hN cx hp) rfl rfl (Nat.le_of_ble_eq_true rfl) dX13_blockReason_94 ⟨Nat.zero_le _, Nat.zero_le _⟩) (fun r_c u_c H locs hq hp => ?_)
                obtain ⟨rfl, rfl⟩ := hq
                refine lv_icmp_le (tgt := 104) hx hb dX13_blockReason_97 (by decide) (fun c37 => ?_) (fun c37 => ?_)
                · have hf := fp hf c37
                  refine lv_iconst (v := 5) hx hb dX13_blockReason_104 (by decide) ?_
                  cases hf
                  exact r_i cx hp ⟨rfl, e20, fr⟩ dX13_blockReason_105
                · have hf := fn hf c37
                  refine lv_iconst (v := 4) hx hb dX13_blockReason_100 (by decide) ?_
                  refine lv_goto (tgt := 105) hx hb dX13_blockReason_101 (by decide) ?_
                  cases hf
                  exact r_i cx hp ⟨rfl, e20, fr⟩ dX13_blockReason_105
              · have hf := fn hf c34
                refine lv_iconst (v := 3) hx hb dX13_blockReason_82 (by decide) ?_
                refine lv_goto (tgt := 105) hx hb dX13_blockReason_83 (by decide) ?_
                cases hf
                exact r_i cx hp ⟨rfl, e20, fr⟩ dX13_blockReason_105
            · have hf := fn hf c32
              refine lv_aload_n hx hb dX13_blockReason_61 rfl (lv_at hl 1 rfl) ?_
              refine lv_iload_n hx hb dX13_blockReason_62 rfl (lv_at hl 2 rfl) ?_
              refine lv_iload_n hx hb dX13_blockReason_63 rfl (lv_at hl 0 rfl) ?_
              refine lv_iload_n hx hb dX13_blockReason_64 rfl (lv_at hl 3 rfl) ?_
              obtain ⟨r38, hc, hf⟩ := fb hf
              refine x_i hp (y_V (As := [.int p1, .int r28, .int p2]) (rest := []) cx hp hl (c_X13_isBetter l hN hT e20 hc) (cw_X13_108 cx (mc := 0) (ms := 0) rfl rfl ⟨by decide, by decide⟩) (rC_X13 hN cx hp) rfl rfl (Nat.le_of_ble_eq_true rfl) dX13_blockReason_65 ⟨Nat.zero_le _, Nat.zero_le _⟩) (fun r_c u_c H locs hq hp => ?_)
              obtain ⟨rfl, rfl⟩ := hq
              refine lv_if_eq (tgt := 73) hx hb dX13_blockReason_68 (by decide) (fun c39 => ?_) (fun c39 => ?_)
              · have hf := fp hf c39
                refine lv_aload_n hx hb dX13_blockReason_73 rfl (lv_at hl 1 rfl) ?_
                refine lv_iload_n hx hb dX13_blockReason_74 rfl (lv_at hl 3 rfl) ?_
                obtain ⟨r40, hc, hf⟩ := fb hf
                refine x_i hp (y_V (As := [.int p2]) (rest := []) cx hp hl (c_X13_occupant l hN hT e20 hc) (cw_X13_115 cx (mc := 0) (ms := 0) rfl rfl ⟨by decide, by decide⟩) (rC_X13 hN cx hp) rfl rfl (Nat.le_of_ble_eq_true rfl) dX13_blockReason_75 ⟨Nat.zero_le _, Nat.zero_le _⟩) (fun r_c u_c H locs hq hp => ?_)
                obtain ⟨rfl, rfl⟩ := hq
                refine lv_iconst (v := (-1)) hx hb dX13_blockReason_78 (by decide) ?_
                refine lv_icmp_eq (tgt := 86) hx hb dX13_blockReason_79 (by decide) (fun c41 => ?_) (fun c41 => ?_)
                · have hf := fp hf c41
                  refine lv_aload_n hx hb dX13_blockReason_86 rfl (lv_at hl 1 rfl) ?_
                  refine lv_iload_n hx hb dX13_blockReason_87 rfl (lv_at hl 3 rfl) ?_
                  obtain ⟨r42, hc, hf⟩ := fb hf
                  refine x_i hp (y_V (As := [.int p2]) (rest := []) cx hp hl (c_X13_rentOf l hN hT e20 hc) (cw_X13_149 cx (mc := 0) (ms := 0) rfl rfl ⟨by decide, by decide⟩) (rC_X13 hN cx hp) rfl rfl (Nat.le_of_ble_eq_true rfl) dX13_blockReason_88 ⟨Nat.zero_le _, Nat.zero_le _⟩) (fun r_c u_c H locs hq hp => ?_)
                  obtain ⟨rfl, rfl⟩ := hq
                  refine lv_aload_n hx hb dX13_blockReason_91 rfl (lv_at hl 1 rfl) ?_
                  refine lv_iload_n hx hb dX13_blockReason_92 rfl (lv_at hl 2 rfl) ?_
                  refine lv_iconst (v := 1) hx hb dX13_blockReason_93 (by decide) ?_
                  obtain ⟨r43, hc, hf⟩ := fb hf
                  refine x_i hp (y_V (As := [.int p1, .int 1]) (rest := [.int r42]) cx hp hl (c_X13_of l hN hT e20 hc) (cw_X13_98 cx (mc := 0) (ms := 0) rfl rfl ⟨by decide, by decide⟩) (rC_X13 hN cx hp) rfl rfl (Nat.le_of_ble_eq_true rfl) dX13_blockReason_94 ⟨Nat.zero_le _, Nat.zero_le _⟩) (fun r_c u_c H locs hq hp => ?_)
                  obtain ⟨rfl, rfl⟩ := hq
                  refine lv_icmp_le (tgt := 104) hx hb dX13_blockReason_97 (by decide) (fun c44 => ?_) (fun c44 => ?_)
                  · have hf := fp hf c44
                    refine lv_iconst (v := 5) hx hb dX13_blockReason_104 (by decide) ?_
                    cases hf
                    exact r_i cx hp ⟨rfl, e20, fr⟩ dX13_blockReason_105
                  · have hf := fn hf c44
                    refine lv_iconst (v := 4) hx hb dX13_blockReason_100 (by decide) ?_
                    refine lv_goto (tgt := 105) hx hb dX13_blockReason_101 (by decide) ?_
                    cases hf
                    exact r_i cx hp ⟨rfl, e20, fr⟩ dX13_blockReason_105
                · have hf := fn hf c41
                  refine lv_iconst (v := 3) hx hb dX13_blockReason_82 (by decide) ?_
                  refine lv_goto (tgt := 105) hx hb dX13_blockReason_83 (by decide) ?_
                  cases hf
                  exact r_i cx hp ⟨rfl, e20, fr⟩ dX13_blockReason_105
              · have hf := fn hf c39
                refine lv_iconst (v := 2) hx hb dX13_blockReason_71 (by decide) ?_
                cases hf
                exact r_i cx hp ⟨rfl, e20, fr⟩ dX13_blockReason_72
          · have hf := fp hf c31
            refine lv_iconst (v := 1) hx hb dX13_blockReason_54 (by decide) ?_
            cases hf
            exact r_i cx hp ⟨rfl, e20, fr⟩ dX13_blockReason_55
        · have hf := fp hf c29
          refine lv_iconst (v := 0) hx hb dX13_blockReason_42 (by decide) ?_
          cases hf
          exact r_i cx hp ⟨rfl, e20, fr⟩ dX13_blockReason_43
      · have hf := fp hf c27
        refine lv_iconst (v := 0) hx hb dX13_blockReason_28 (by decide) ?_
        cases hf
        exact r_i cx hp ⟨rfl, e20, fr⟩ dX13_blockReason_29
    · have hf := fn hf c24
      refine lv_iconst (v := 1) hx hb dX13_blockReason_17 (by decide) ?_
      refine lv_goto (tgt := 22) hx hb dX13_blockReason_18 (by decide) ?_
      obtain ⟨r45, ρ46, hc, hf⟩ := fb2 hf
      refine x_i hp (y_V (As := [.int 1]) (rest := []) cx hp hl (c_X13_wants l hN hT e20 hc) (cw_X13_322 cx (mc := 0) (ms := 0) rfl rfl ⟨by decide, by decide⟩) (rC_X13 hN cx hp) rfl rfl (Nat.le_of_ble_eq_true rfl) dX13_blockReason_22 ⟨Nat.zero_le _, Nat.zero_le _⟩) (fun r_c u_c H locs hq hp => ?_)
      obtain ⟨rfl, e_0, n_u⟩ := hq
      have e20 := e_0
      have fr : ∀ q, q ≠ 20 → u_c q = σ q := fun q h0 => (n_u q h0).trans (fr q h0)
      obtain ⟨u, rfl⟩ : ∃ z, u_c = z := ⟨_, rfl⟩
      refine lv_if_ne (tgt := 30) hx hb dX13_blockReason_25 (by decide) (fun c47 => ?_) (fun c47 => ?_)
      · have hf := fn hf c47
        refine lv_aload_n hx hb dX13_blockReason_30 rfl (lv_at hl 0 rfl) ?_
        refine lv_iload_n hx hb dX13_blockReason_31 rfl (lv_at hl 1 rfl) ?_
        refine lv_iconst (v := 3) hx hb dX13_blockReason_32 (by decide) ?_
        obtain ⟨r48, hc, hf⟩ := fb hf
        refine x_i hp (y_V (As := [.int p1, .int 3]) (rest := []) cx hp hl (c_X13_of l hN hT e20 hc) (cw_X13_98 cx (mc := 0) (ms := 0) rfl rfl ⟨by decide, by decide⟩) (rC_X13 hN cx hp) rfl rfl (Nat.le_of_ble_eq_true rfl) dX13_blockReason_33 ⟨Nat.zero_le _, Nat.zero_le _⟩) (fun r_c u_c H locs hq hp => ?_)
        obtain ⟨rfl, rfl⟩ := hq
        refine lv_istore_n (lv' := [(3, .int r48), (0, .ref (adr E 20 0)), (1, .int p1), (2, .int p2)]) hx hb dX13_blockReason_36 rfl hl (by decide) rfl (fun ls hl => ?_)
        refine lv_iload_n hx hb dX13_blockReason_37 rfl (lv_at hl 0 rfl) ?_
        refine lv_iload_n hx hb dX13_blockReason_38 rfl (lv_at hl 3 rfl) ?_
        refine lv_icmp_ne (tgt := 44) hx hb dX13_blockReason_39 (by decide) (fun c49 => ?_) (fun c49 => ?_)
        · have hf := fn hf c49
          refine lv_aload_n hx hb dX13_blockReason_44 rfl (lv_at hl 1 rfl) ?_
          refine lv_iload_n hx hb dX13_blockReason_45 rfl (lv_at hl 2 rfl) ?_
          refine lv_iload_n hx hb dX13_blockReason_46 rfl (lv_at hl 3 rfl) ?_
          obtain ⟨r50, hc, hf⟩ := fb hf
          refine x_i hp (y_V (As := [.int p1, .int p2]) (rest := []) cx hp hl (c_X13_rank l hN hT e20 hc) (cw_X13_102 cx (mc := 0) (ms := 0) rfl rfl ⟨by decide, by decide⟩) (rC_X13 hN cx hp) rfl rfl (Nat.le_of_ble_eq_true rfl) dX13_blockReason_47 ⟨Nat.zero_le _, Nat.zero_le _⟩) (fun r_c u_c H locs hq hp => ?_)
          obtain ⟨rfl, rfl⟩ := hq
          refine lv_iconst (v := (-1)) hx hb dX13_blockReason_50 (by decide) ?_
          refine lv_icmp_ne (tgt := 56) hx hb dX13_blockReason_51 (by decide) (fun c51 => ?_) (fun c51 => ?_)
          · have hf := fn hf c51
            refine lv_iload_n hx hb dX13_blockReason_56 rfl (lv_at hl 0 rfl) ?_
            refine lv_iconst (v := (-1)) hx hb dX13_blockReason_57 (by decide) ?_
            refine lv_icmp_eq (tgt := 73) hx hb dX13_blockReason_58 (by decide) (fun c52 => ?_) (fun c52 => ?_)
            · have hf := fp hf c52
              refine lv_aload_n hx hb dX13_blockReason_73 rfl (lv_at hl 1 rfl) ?_
              refine lv_iload_n hx hb dX13_blockReason_74 rfl (lv_at hl 3 rfl) ?_
              obtain ⟨r53, hc, hf⟩ := fb hf
              refine x_i hp (y_V (As := [.int p2]) (rest := []) cx hp hl (c_X13_occupant l hN hT e20 hc) (cw_X13_115 cx (mc := 0) (ms := 0) rfl rfl ⟨by decide, by decide⟩) (rC_X13 hN cx hp) rfl rfl (Nat.le_of_ble_eq_true rfl) dX13_blockReason_75 ⟨Nat.zero_le _, Nat.zero_le _⟩) (fun r_c u_c H locs hq hp => ?_)
              obtain ⟨rfl, rfl⟩ := hq
              refine lv_iconst (v := (-1)) hx hb dX13_blockReason_78 (by decide) ?_
              refine lv_icmp_eq (tgt := 86) hx hb dX13_blockReason_79 (by decide) (fun c54 => ?_) (fun c54 => ?_)
              · have hf := fp hf c54
                refine lv_aload_n hx hb dX13_blockReason_86 rfl (lv_at hl 1 rfl) ?_
                refine lv_iload_n hx hb dX13_blockReason_87 rfl (lv_at hl 3 rfl) ?_
                obtain ⟨r55, hc, hf⟩ := fb hf
                refine x_i hp (y_V (As := [.int p2]) (rest := []) cx hp hl (c_X13_rentOf l hN hT e20 hc) (cw_X13_149 cx (mc := 0) (ms := 0) rfl rfl ⟨by decide, by decide⟩) (rC_X13 hN cx hp) rfl rfl (Nat.le_of_ble_eq_true rfl) dX13_blockReason_88 ⟨Nat.zero_le _, Nat.zero_le _⟩) (fun r_c u_c H locs hq hp => ?_)
                obtain ⟨rfl, rfl⟩ := hq
                refine lv_aload_n hx hb dX13_blockReason_91 rfl (lv_at hl 1 rfl) ?_
                refine lv_iload_n hx hb dX13_blockReason_92 rfl (lv_at hl 2 rfl) ?_
                refine lv_iconst (v := 1) hx hb dX13_blockReason_93 (by decide) ?_
                obtain ⟨r56, hc, hf⟩ := fb hf
                refine x_i hp (y_V (As := [.int p1, .int 1]) (rest := [.int r55]) cx hp hl (c_X13_of l hN hT e20 hc) (cw_X13_98 cx (mc := 0) (ms := 0) rfl rfl ⟨by decide, by decide⟩) (rC_X13 hN cx hp) rfl rfl (Nat.le_of_ble_eq_true rfl) dX13_blockReason_94 ⟨Nat.zero_le _, Nat.zero_le _⟩) (fun r_c u_c H locs hq hp => ?_)
                obtain ⟨rfl, rfl⟩ := hq
                refine lv_icmp_le (tgt := 104) hx hb dX13_blockReason_97 (by decide) (fun c57 => ?_) (fun c57 => ?_)
                · have hf := fp hf c57
                  refine lv_iconst (v := 5) hx hb dX13_blockReason_104 (by decide) ?_
                  cases hf
                  exact r_i cx hp ⟨rfl, e20, fr⟩ dX13_blockReason_105
                · have hf := fn hf c57
                  refine lv_iconst (v := 4) hx hb dX13_blockReason_100 (by decide) ?_
                  refine lv_goto (tgt := 105) hx hb dX13_blockReason_101 (by decide) ?_
                  cases hf
                  exact r_i cx hp ⟨rfl, e20, fr⟩ dX13_blockReason_105
              · have hf := fn hf c54
                refine lv_iconst (v := 3) hx hb dX13_blockReason_82 (by decide) ?_
                refine lv_goto (tgt := 105) hx hb dX13_blockReason_83 (by decide) ?_
                cases hf
                exact r_i cx hp ⟨rfl, e20, fr⟩ dX13_blockReason_105
            · have hf := fn hf c52
              refine lv_aload_n hx hb dX13_blockReason_61 rfl (lv_at hl 1 rfl) ?_
              refine lv_iload_n hx hb dX13_blockReason_62 rfl (lv_at hl 2 rfl) ?_
              refine lv_iload_n hx hb dX13_blockReason_63 rfl (lv_at hl 0 rfl) ?_
              refine lv_iload_n hx hb dX13_blockReason_64 rfl (lv_at hl 3 rfl) ?_
              obtain ⟨r58, hc, hf⟩ := fb hf
              refine x_i hp (y_V (As := [.int p1, .int r48, .int p2]) (rest := []) cx hp hl (c_X13_isBetter l hN hT e20 hc) (cw_X13_108 cx (mc := 0) (ms := 0) rfl rfl ⟨by decide, by decide⟩) (rC_X13 hN cx hp) rfl rfl (Nat.le_of_ble_eq_true rfl) dX13_blockReason_65 ⟨Nat.zero_le _, Nat.zero_le _⟩) (fun r_c u_c H locs hq hp => ?_)
              obtain ⟨rfl, rfl⟩ := hq
              refine lv_if_eq (tgt := 73) hx hb dX13_blockReason_68 (by decide) (fun c59 => ?_) (fun c59 => ?_)
              · have hf := fp hf c59
                refine lv_aload_n hx hb dX13_blockReason_73 rfl (lv_at hl 1 rfl) ?_
                refine lv_iload_n hx hb dX13_blockReason_74 rfl (lv_at hl 3 rfl) ?_
                obtain ⟨r60, hc, hf⟩ := fb hf
                refine x_i hp (y_V (As := [.int p2]) (rest := []) cx hp hl (c_X13_occupant l hN hT e20 hc) (cw_X13_115 cx (mc := 0) (ms := 0) rfl rfl ⟨by decide, by decide⟩) (rC_X13 hN cx hp) rfl rfl (Nat.le_of_ble_eq_true rfl) dX13_blockReason_75 ⟨Nat.zero_le _, Nat.zero_le _⟩) (fun r_c u_c H locs hq hp => ?_)
                obtain ⟨rfl, rfl⟩ := hq
                refine lv_iconst (v := (-1)) hx hb dX13_blockReason_78 (by decide) ?_
                refine lv_icmp_eq (tgt := 86) hx hb dX13_blockReason_79 (by decide) (fun c61 => ?_) (fun c61 => ?_)
                · have hf := fp hf c61
                  refine lv_aload_n hx hb dX13_blockReason_86 rfl (lv_at hl 1 rfl) ?_
                  refine lv_iload_n hx hb dX13_blockReason_87 rfl (lv_at hl 3 rfl) ?_
                  obtain ⟨r62, hc, hf⟩ := fb hf
                  refine x_i hp (y_V (As := [.int p2]) (rest := []) cx hp hl (c_X13_rentOf l hN hT e20 hc) (cw_X13_149 cx (mc := 0) (ms := 0) rfl rfl ⟨by decide, by decide⟩) (rC_X13 hN cx hp) rfl rfl (Nat.le_of_ble_eq_true rfl) dX13_blockReason_88 ⟨Nat.zero_le _, Nat.zero_le _⟩) (fun r_c u_c H locs hq hp => ?_)
                  obtain ⟨rfl, rfl⟩ := hq
                  refine lv_aload_n hx hb dX13_blockReason_91 rfl (lv_at hl 1 rfl) ?_
                  refine lv_iload_n hx hb dX13_blockReason_92 rfl (lv_at hl 2 rfl) ?_
                  refine lv_iconst (v := 1) hx hb dX13_blockReason_93 (by decide) ?_
                  obtain ⟨r63, hc, hf⟩ := fb hf
                  refine x_i hp (y_V (As := [.int p1, .int 1]) (rest := [.int r62]) cx hp hl (c_X13_of l hN hT e20 hc) (cw_X13_98 cx (mc := 0) (ms := 0) rfl rfl ⟨by decide, by decide⟩) (rC_X13 hN cx hp) rfl rfl (Nat.le_of_ble_eq_true rfl) dX13_blockReason_94 ⟨Nat.zero_le _, Nat.zero_le _⟩) (fun r_c u_c H locs hq hp => ?_)
                  obtain ⟨rfl, rfl⟩ := hq
                  refine lv_icmp_le (tgt := 104) hx hb dX13_blockReason_97 (by decide) (fun c64 => ?_) (fun c64 => ?_)
                  · have hf := fp hf c64
                    refine lv_iconst (v := 5) hx hb dX13_blockReason_104 (by decide) ?_
                    cases hf
                    exact r_i cx hp ⟨rfl, e20, fr⟩ dX13_blockReason_105
                  · have hf := fn hf c64
                    refine lv_iconst (v := 4) hx hb dX13_blockReason_100 (by decide) ?_
                    refine lv_goto (tgt := 105) hx hb dX13_blockReason_101 (by decide) ?_
                    cases hf
                    exact r_i cx hp ⟨rfl, e20, fr⟩ dX13_blockReason_105
                · have hf := fn hf c61
                  refine lv_iconst (v := 3) hx hb dX13_blockReason_82 (by decide) ?_
                  refine lv_goto (tgt := 105) hx hb dX13_blockReason_83 (by decide) ?_
                  cases hf
                  exact r_i cx hp ⟨rfl, e20, fr⟩ dX13_blockReason_105
              · have hf := fn hf c59
                refine lv_iconst (v := 2) hx hb dX13_blockReason_71 (by decide) ?_
                cases hf
                exact r_i cx hp ⟨rfl, e20, fr⟩ dX13_blockReason_72
          · have hf := fp hf c51
            refine lv_iconst (v := 1) hx hb dX13_blockReason_54 (by decide) ?_
            cases hf
            exact r_i cx hp ⟨rfl, e20, fr⟩ dX13_blockReason_55
        · have hf := fp hf c49
          refine lv_iconst (v := 0) hx hb dX13_blockReason_42 (by decide) ?_
          cases hf
          exact r_i cx hp ⟨rfl, e20, fr⟩ dX13_blockReason_43
      · have hf := fp hf c47
        refine lv_iconst (v := 0) hx hb dX13_blockReason_28 (by decide) ?_
        cases hf
        exact r_i cx hp ⟨rfl, e20, fr⟩ dX13_blockReason_29
abbrev rm_X13_allocatedStall : Room := { frames := 4, cells := 0, slots := 0, locals := 90 }
set_option maxRecDepth 100000 in
set_option maxHeartbeats 4000000 in
theorem c_X13_allocatedStall (l : Launch) {E : Ev} (hN : 146 ≤ eN E) (hT : St E) {σ : SM} {ρ : OM} (e20 : σ 20 = ρ) {p1 : Int32} {rv : Int32} {ρ' : OM} (hf : f_X13_allocatedStall p1 ρ = some (rv, ρ')) : Met l yX13_allocatedStall (wC yX13_allocatedStall cX13_allocatedStall 2 (some .int)) rm_X13_allocatedStall (va_Pc [.ref (adr E 20 0), .int p1] (Wu E σ)) (va_Qi (fun r u => rv = r ∧ u 20 = ρ' ∧ ∀ q, q ≠ 20 → u q = σ q) (fun u t => Wu E u t) (eA E)) 0 0 (eA E) := by
  refine g_entry (lv := [(0, .ref (adr E 20 0)), (1, .int p1)]) (by decide) (Nat.le_of_ble_eq_true rfl) rfl ?_
  intro p e s m below meth c cx hp ls hl
  have hx := cx.1.1
  have hb := cx.1.2.1
  have fr : ∀ q, q ≠ 20 → σ q = σ q := fun _ _ => rfl
  unfold f_X13_allocatedStall at hf
  refine lv_aload_n hx hb dX13_allocatedStall_0 rfl (lv_at hl 0 rfl) ?_
  refine lv_aload_n hx hb dX13_allocatedStall_1 rfl (lv_at hl 0 rfl) ?_
  refine lv_iload_n hx hb dX13_allocatedStall_2 rfl (lv_at hl 1 rfl) ?_
  obtain ⟨r1, hc, hf⟩ := fb hf
  refine x_i hp (y_V (As := [.int p1]) (rest := [.ref (adr E 20 0)]) cx hp hl (c_X13_isSeller l hN hT e20 hc) (cw_X13_339 cx (mc := 0) (ms := 0) rfl rfl ⟨by decide, by decide⟩) (rC_X13 hN cx hp) rfl rfl (Nat.le_of_ble_eq_true rfl) dX13_allocatedStall_3 ⟨Nat.zero_le _, Nat.zero_le _⟩) (fun r_c u_c H locs hq hp => ?_)
  obtain ⟨rfl, rfl⟩ := hq
  obtain ⟨r2, ρ3, hc, hf⟩ := fb2 hf
  refine x_i hp (y_V (As := [.int r1]) (rest := []) cx hp hl (c_X13_wants l hN hT e20 hc) (cw_X13_322 cx (mc := 0) (ms := 0) rfl rfl ⟨by decide, by decide⟩) (rC_X13 hN cx hp) rfl rfl (Nat.le_of_ble_eq_true rfl) dX13_allocatedStall_6 ⟨Nat.zero_le _, Nat.zero_le _⟩) (fun r_c u_c H locs hq hp => ?_)
  obtain ⟨rfl, e_0, n_u⟩ := hq
  have e20 := e_0
  have fr : ∀ q, q ≠ 20 → u_c q = σ q := fun q h0 => (n_u q h0).trans (fr q h0)
  obtain ⟨u, rfl⟩ : ∃ z, u_c = z := ⟨_, rfl⟩
  refine lv_if_ne (tgt := 14) hx hb dX13_allocatedStall_9 (by decide) (fun c4 => ?_) (fun c4 => ?_)
  · have hf := fn hf c4
    refine lv_aload_n hx hb dX13_allocatedStall_14 rfl (lv_at hl 0 rfl) ?_
    obtain ⟨ρ5, hc, hf⟩ := fb hf
    refine x_v hp (y_V (As := []) (rest := []) cx hp hl (c_X13_allocates l hN hT e20 hc) (cw_X13_152 cx (mc := 0) (ms := 0) rfl rfl ⟨by decide, by decide⟩) (rC_X13 hN cx hp) rfl rfl (Nat.le_of_ble_eq_true rfl) dX13_allocatedStall_15 ⟨Nat.zero_le _, Nat.zero_le _⟩) (fun u_c H locs hq hp => ?_)
    obtain ⟨e_0, n_u⟩ := hq
    have e20 := e_0
    have fr : ∀ q, q ≠ 20 → u_c q = σ q := fun q h0 => (n_u q h0).trans (fr q h0)
    obtain ⟨u, rfl⟩ : ∃ z, u_c = z := ⟨_, rfl⟩
    refine lv_aload_n hx hb dX13_allocatedStall_18 rfl (lv_at hl 0 rfl) ?_
    refine gF_X13_41 rfl hN cx hp dX13_allocatedStall_19 ?_
    refine lv_iload_n hx hb dX13_allocatedStall_22 rfl (lv_at hl 1 rfl) ?_
    obtain ⟨g_i, hf⟩ := fg hf
    refine lA_X13_10 e20 hN cx hp g_i dX13_allocatedStall_23 ?_
    cases hf
    exact r_i cx hp ⟨rfl, e20, fr⟩ dX13_allocatedStall_24
  · have hf := fp hf c4
    refine lv_iconst (v := 0) hx hb dX13_allocatedStall_12 (by decide) ?_
    cases hf
    exact r_i cx hp ⟨rfl, e20, fr⟩ dX13_allocatedStall_13
abbrev rm_X13_allocatedIfFirst : Room := { frames := 4, cells := 0, slots := 0, locals := 90 }
set_option maxRecDepth 100000 in
set_option maxHeartbeats 4000000 in
theorem c_X13_allocatedIfFirst (l : Launch) {E : Ev} (hN : 146 ≤ eN E) (hT : St E) {σ : SM} {ρ : OM} (e20 : σ 20 = ρ) {p1 : Int32} {rv : Int32} {ρ' : OM} (hf : f_X13_allocatedIfFirst p1 ρ = some (rv, ρ')) : Met l yX13_allocatedIfFirst (wC yX13_allocatedIfFirst cX13_allocatedIfFirst 2 (some .int)) rm_X13_allocatedIfFirst (va_Pc [.ref (adr E 20 0), .int p1] (Wu E σ)) (va_Qi (fun r u => rv = r ∧ u 20 = ρ' ∧ ∀ q, q ≠ 20 → u q = σ q) (fun u t => Wu E u t) (eA E)) 0 0 (eA E) := by
  refine g_entry (lv := [(0, .ref (adr E 20 0)), (1, .int p1)]) (by decide) (Nat.le_of_ble_eq_true rfl) rfl ?_
  intro p e s m below meth c cx hp ls hl
  have hx := cx.1.1
  have hb := cx.1.2.1
  have fr : ∀ q, q ≠ 20 → σ q = σ q := fun _ _ => rfl
  unfold f_X13_allocatedIfFirst at hf
  refine lv_aload_n hx hb dX13_allocatedIfFirst_0 rfl (lv_at hl 0 rfl) ?_
  refine lv_aload_n hx hb dX13_allocatedIfFirst_1 rfl (lv_at hl 0 rfl) ?_
  refine lv_iload_n hx hb dX13_allocatedIfFirst_2 rfl (lv_at hl 1 rfl) ?_
  obtain ⟨r1, hc, hf⟩ := fb hf
  refine x_i hp (y_V (As := [.int p1]) (rest := [.ref (adr E 20 0)]) cx hp hl (c_X13_isSeller l hN hT e20 hc) (cw_X13_339 cx (mc := 0) (ms := 0) rfl rfl ⟨by decide, by decide⟩) (rC_X13 hN cx hp) rfl rfl (Nat.le_of_ble_eq_true rfl) dX13_allocatedIfFirst_3 ⟨Nat.zero_le _, Nat.zero_le _⟩) (fun r_c u_c H locs hq hp => ?_)
  obtain ⟨rfl, rfl⟩ := hq
  obtain ⟨r2, ρ3, hc, hf⟩ := fb2 hf
  refine x_i hp (y_V (As := [.int r1]) (rest := []) cx hp hl (c_X13_wants l hN hT e20 hc) (cw_X13_322 cx (mc := 0) (ms := 0) rfl rfl ⟨by decide, by decide⟩) (rC_X13 hN cx hp) rfl rfl (Nat.le_of_ble_eq_true rfl) dX13_allocatedIfFirst_6 ⟨Nat.zero_le _, Nat.zero_le _⟩) (fun r_c u_c H locs hq hp => ?_)
  obtain ⟨rfl, e_0, n_u⟩ := hq
  have e20 := e_0
  have fr : ∀ q, q ≠ 20 → u_c q = σ q := fun q h0 => (n_u q h0).trans (fr q h0)
  obtain ⟨u, rfl⟩ : ∃ z, u_c = z := ⟨_, rfl⟩
  refine lv_if_ne (tgt := 14) hx hb dX13_allocatedIfFirst_9 (by decide) (fun c4 => ?_) (fun c4 => ?_)
  · have hf := fn hf c4
    refine lv_aload_n hx hb dX13_allocatedIfFirst_14 rfl (lv_at hl 0 rfl) ?_
    refine gF_X13_7 rfl hN cx hp dX13_allocatedIfFirst_15 ?_
    refine lv_aload_n hx hb dX13_allocatedIfFirst_18 rfl (lv_at hl 0 rfl) ?_
    refine gF_X13_13 rfl hN cx hp dX13_allocatedIfFirst_19 ?_
    obtain ⟨ρ5, hc, hf⟩ := fb hf
    refine x_v hp (y_S (As := [.ref (adr E 20 1), .ref (adr E 20 2)]) (rest := []) cx hp hl (c_X13_copies_1_2 l hN hT e20 hc) (cw_X13_326 cx (mc := 0) (ms := 0) rfl rfl ⟨by decide, by decide⟩) rfl rfl (Nat.le_of_ble_eq_true rfl) dX13_allocatedIfFirst_22 ⟨Nat.zero_le _, Nat.zero_le _⟩) (fun u_c H locs hq hp => ?_)
    obtain ⟨e_0, n_u⟩ := hq
    have e20 := e_0
    have fr : ∀ q, q ≠ 20 → u_c q = σ q := fun q h0 => (n_u q h0).trans (fr q h0)
    obtain ⟨u, rfl⟩ : ∃ z, u_c = z := ⟨_, rfl⟩
    refine lv_aload_n hx hb dX13_allocatedIfFirst_25 rfl (lv_at hl 0 rfl) ?_
    refine lv_iload_n hx hb dX13_allocatedIfFirst_26 rfl (lv_at hl 1 rfl) ?_
    refine lv_iconst (v := 0) hx hb dX13_allocatedIfFirst_27 (by decide) ?_
    obtain ⟨r6, ρ7, hc, hf⟩ := fb2 hf
    refine x_i hp (y_V (As := [.int p1, .int 0]) (rest := []) cx hp hl (c_X13_moves l hN hT e20 hc) (cw_X13_361 cx (mc := 0) (ms := 0) rfl rfl ⟨by decide, by decide⟩) (rC_X13 hN cx hp) rfl rfl (Nat.le_of_ble_eq_true rfl) dX13_allocatedIfFirst_28 ⟨Nat.zero_le _, Nat.zero_le _⟩) (fun r_c u_c H locs hq hp => ?_)
    obtain ⟨rfl, e_0, n_u⟩ := hq
    have e20 := e_0
    have fr : ∀ q, q ≠ 20 → u_c q = σ q := fun q h0 => (n_u q h0).trans (fr q h0)
    obtain ⟨u, rfl⟩ : ∃ z, u_c = z := ⟨_, rfl⟩
    refine lv_pop hx hb dX13_allocatedIfFirst_31 rfl ?_
    refine lv_aload_n hx hb dX13_allocatedIfFirst_32 rfl (lv_at hl 0 rfl) ?_
    obtain ⟨ρ8, hc, hf⟩ := fb hf
    refine x_v hp (y_V (As := []) (rest := []) cx hp hl (c_X13_allocates l hN hT e20 hc) (cw_X13_152 cx (mc := 0) (ms := 0) rfl rfl ⟨by decide, by decide⟩) (rC_X13 hN cx hp) rfl rfl (Nat.le_of_ble_eq_true rfl) dX13_allocatedIfFirst_33 ⟨Nat.zero_le _, Nat.zero_le _⟩) (fun u_c H locs hq hp => ?_)
    obtain ⟨e_0, n_u⟩ := hq
    have e20 := e_0
    have fr : ∀ q, q ≠ 20 → u_c q = σ q := fun q h0 => (n_u q h0).trans (fr q h0)
    obtain ⟨u, rfl⟩ : ∃ z, u_c = z := ⟨_, rfl⟩
    refine lv_aload_n hx hb dX13_allocatedIfFirst_36 rfl (lv_at hl 0 rfl) ?_
    refine gF_X13_13 rfl hN cx hp dX13_allocatedIfFirst_37 ?_
    refine lv_aload_n hx hb dX13_allocatedIfFirst_40 rfl (lv_at hl 0 rfl) ?_
    refine gF_X13_7 rfl hN cx hp dX13_allocatedIfFirst_41 ?_
    obtain ⟨ρ9, hc, hf⟩ := fb hf
    refine x_v hp (y_S (As := [.ref (adr E 20 2), .ref (adr E 20 1)]) (rest := []) cx hp hl (c_X13_copies_2_1 l hN hT e20 hc) (cw_X13_326 cx (mc := 0) (ms := 0) rfl rfl ⟨by decide, by decide⟩) rfl rfl (Nat.le_of_ble_eq_true rfl) dX13_allocatedIfFirst_44 ⟨Nat.zero_le _, Nat.zero_le _⟩) (fun u_c H locs hq hp => ?_)
    obtain ⟨e_0, n_u⟩ := hq
    have e20 := e_0
    have fr : ∀ q, q ≠ 20 → u_c q = σ q := fun q h0 => (n_u q h0).trans (fr q h0)
    obtain ⟨u, rfl⟩ : ∃ z, u_c = z := ⟨_, rfl⟩
    refine lv_aload_n hx hb dX13_allocatedIfFirst_47 rfl (lv_at hl 0 rfl) ?_
    refine gF_X13_41 rfl hN cx hp dX13_allocatedIfFirst_48 ?_
    refine lv_iload_n hx hb dX13_allocatedIfFirst_51 rfl (lv_at hl 1 rfl) ?_
    obtain ⟨g_i, hf⟩ := fg hf
    refine lA_X13_10 e20 hN cx hp g_i dX13_allocatedIfFirst_52 ?_
    cases hf
    exact r_i cx hp ⟨rfl, e20, fr⟩ dX13_allocatedIfFirst_53
  · have hf := fp hf c4
    refine lv_iconst (v := 0) hx hb dX13_allocatedIfFirst_12 (by decide) ?_
    cases hf
    exact r_i cx hp ⟨rfl, e20, fr⟩ dX13_allocatedIfFirst_13
abbrev rm_X13_allocatedIfReported : Room := { frames := 4, cells := 0, slots := 0, locals := 93 }
set_option maxRecDepth 100000 in
set_option maxHeartbeats 4000000 in
theorem c_X13_allocatedIfReported (l : Launch) {E : Ev} (hN : 146 ≤ eN E) (hT : St E) {σ : SM} {ρ : OM} (e20 : σ 20 = ρ) {p1 : Int32} {p2 : Int32} {rv : Int32} {ρ' : OM} (hf : f_X13_allocatedIfReported p1 p2 ρ = some (rv, ρ')) : Met l yX13_allocatedIfReported (wC yX13_allocatedIfReported cX13_allocatedIfReported 3 (some .int)) rm_X13_allocatedIfReported (va_Pc [.ref (adr E 20 0), .int p1, .int p2] (Wu E σ)) (va_Qi (fun r u => rv = r ∧ u 20 = ρ' ∧ ∀ q, q ≠ 20 → u q = σ q) (fun u t => Wu E u t) (eA E)) 0 0 (eA E) := by
  refine g_entry (lv := [(0, .ref (adr E 20 0)), (1, .int p1), (2, .int p2)]) (by decide) (Nat.le_of_ble_eq_true rfl) rfl ?_
  intro p e s m below meth c cx hp ls hl
  have hx := cx.1.1
  have hb := cx.1.2.1
  have fr : ∀ q, q ≠ 20 → σ q = σ q := fun _ _ => rfl
  unfold f_X13_allocatedIfReported at hf
  refine lv_aload_n hx hb dX13_allocatedIfReported_0 rfl (lv_at hl 0 rfl) ?_
  refine lv_aload_n hx hb dX13_allocatedIfReported_1 rfl (lv_at hl 0 rfl) ?_
  refine lv_iload_n hx hb dX13_allocatedIfReported_2 rfl (lv_at hl 1 rfl) ?_
  obtain ⟨r1, hc, hf⟩ := fb hf
  refine x_i hp (y_V (As := [.int p1]) (rest := [.ref (adr E 20 0)]) cx hp hl (c_X13_isSeller l hN hT e20 hc) (cw_X13_339 cx (mc := 0) (ms := 0) rfl rfl ⟨by decide, by decide⟩) (rC_X13 hN cx hp) rfl rfl (Nat.le_of_ble_eq_true rfl) dX13_allocatedIfReported_3 ⟨Nat.zero_le _, Nat.zero_le _⟩) (fun r_c u_c H locs hq hp => ?_)
  obtain ⟨rfl, rfl⟩ := hq
  refine lv_if_eq (tgt := 21) hx hb dX13_allocatedIfReported_6 (by decide) (fun c2 => ?_) (fun c2 => ?_)
  · have hf := fp hf c2
    refine lv_iconst (v := 0) hx hb dX13_allocatedIfReported_21 (by decide) ?_
    obtain ⟨r3, ρ4, hc, hf⟩ := fb2 hf
    refine x_i hp (y_V (As := [.int 0]) (rest := []) cx hp hl (c_X13_wants l hN hT e20 hc) (cw_X13_322 cx (mc := 0) (ms := 0) rfl rfl ⟨by decide, by decide⟩) (rC_X13 hN cx hp) rfl rfl (Nat.le_of_ble_eq_true rfl) dX13_allocatedIfReported_22 ⟨Nat.zero_le _, Nat.zero_le _⟩) (fun r_c u_c H locs hq hp => ?_)
    obtain ⟨rfl, e_0, n_u⟩ := hq
    have e20 := e_0
    have fr : ∀ q, q ≠ 20 → u_c q = σ q := fun q h0 => (n_u q h0).trans (fr q h0)
    obtain ⟨u, rfl⟩ : ∃ z, u_c = z := ⟨_, rfl⟩
    refine lv_if_ne (tgt := 30) hx hb dX13_allocatedIfReported_25 (by decide) (fun c5 => ?_) (fun c5 => ?_)
    · have hf := fn hf c5
      refine lv_aload_n hx hb dX13_allocatedIfReported_30 rfl (lv_at hl 0 rfl) ?_
      refine gF_X13_7 rfl hN cx hp dX13_allocatedIfReported_31 ?_
      refine lv_aload_n hx hb dX13_allocatedIfReported_34 rfl (lv_at hl 0 rfl) ?_
      refine gF_X13_13 rfl hN cx hp dX13_allocatedIfReported_35 ?_
      obtain ⟨ρ6, hc, hf⟩ := fb hf
      refine x_v hp (y_S (As := [.ref (adr E 20 1), .ref (adr E 20 2)]) (rest := []) cx hp hl (c_X13_copies_1_2 l hN hT e20 hc) (cw_X13_326 cx (mc := 0) (ms := 0) rfl rfl ⟨by decide, by decide⟩) rfl rfl (Nat.le_of_ble_eq_true rfl) dX13_allocatedIfReported_38 ⟨Nat.zero_le _, Nat.zero_le _⟩) (fun u_c H locs hq hp => ?_)
      obtain ⟨e_0, n_u⟩ := hq
      have e20 := e_0
      have fr : ∀ q, q ≠ 20 → u_c q = σ q := fun q h0 => (n_u q h0).trans (fr q h0)
      obtain ⟨u, rfl⟩ : ∃ z, u_c = z := ⟨_, rfl⟩
      refine lv_aload_n hx hb dX13_allocatedIfReported_41 rfl (lv_at hl 0 rfl) ?_
      refine lv_iload_n hx hb dX13_allocatedIfReported_42 rfl (lv_at hl 1 rfl) ?_
      refine lv_iload_n hx hb dX13_allocatedIfReported_43 rfl (lv_at hl 2 rfl) ?_
      obtain ⟨r7, ρ8, hc, hf⟩ := fb2 hf
      refine x_i hp (y_V (As := [.int p1, .int p2]) (rest := []) cx hp hl (c_X13_putsFirst l hN hT e20 hc) (cw_X13_313 cx (mc := 0) (ms := 0) rfl rfl ⟨by decide, by decide⟩) (rC_X13 hN cx hp) rfl rfl (Nat.le_of_ble_eq_true rfl) dX13_allocatedIfReported_44 ⟨Nat.zero_le _, Nat.zero_le _⟩) (fun r_c u_c H locs hq hp => ?_)
      obtain ⟨rfl, e_0, n_u⟩ := hq
      have e20 := e_0
      have fr : ∀ q, q ≠ 20 → u_c q = σ q := fun q h0 => (n_u q h0).trans (fr q h0)
      obtain ⟨u, rfl⟩ : ∃ z, u_c = z := ⟨_, rfl⟩
      refine lv_pop hx hb dX13_allocatedIfReported_47 rfl ?_
      refine lv_aload_n hx hb dX13_allocatedIfReported_48 rfl (lv_at hl 0 rfl) ?_
      obtain ⟨ρ9, hc, hf⟩ := fb hf
      refine x_v hp (y_V (As := []) (rest := []) cx hp hl (c_X13_allocates l hN hT e20 hc) (cw_X13_152 cx (mc := 0) (ms := 0) rfl rfl ⟨by decide, by decide⟩) (rC_X13 hN cx hp) rfl rfl (Nat.le_of_ble_eq_true rfl) dX13_allocatedIfReported_49 ⟨Nat.zero_le _, Nat.zero_le _⟩) (fun u_c H locs hq hp => ?_)
      obtain ⟨e_0, n_u⟩ := hq
      have e20 := e_0
      have fr : ∀ q, q ≠ 20 → u_c q = σ q := fun q h0 => (n_u q h0).trans (fr q h0)
      obtain ⟨u, rfl⟩ : ∃ z, u_c = z := ⟨_, rfl⟩
      refine lv_aload_n hx hb dX13_allocatedIfReported_52 rfl (lv_at hl 0 rfl) ?_
      refine gF_X13_13 rfl hN cx hp dX13_allocatedIfReported_53 ?_
      refine lv_aload_n hx hb dX13_allocatedIfReported_56 rfl (lv_at hl 0 rfl) ?_
      refine gF_X13_7 rfl hN cx hp dX13_allocatedIfReported_57 ?_
      obtain ⟨ρ10, hc, hf⟩ := fb hf
      refine x_v hp (y_S (As := [.ref (adr E 20 2), .ref (adr E 20 1)]) (rest := []) cx hp hl (c_X13_copies_2_1 l hN hT e20 hc) (cw_X13_326 cx (mc := 0) (ms := 0) rfl rfl ⟨by decide, by decide⟩) rfl rfl (Nat.le_of_ble_eq_true rfl) dX13_allocatedIfReported_60 ⟨Nat.zero_le _, Nat.zero_le _⟩) (fun u_c H locs hq hp => ?_)
      obtain ⟨e_0, n_u⟩ := hq
      have e20 := e_0
      have fr : ∀ q, q ≠ 20 → u_c q = σ q := fun q h0 => (n_u q h0).trans (fr q h0)
      obtain ⟨u, rfl⟩ : ∃ z, u_c = z := ⟨_, rfl⟩
      refine lv_aload_n hx hb dX13_allocatedIfReported_63 rfl (lv_at hl 0 rfl) ?_
      refine gF_X13_41 rfl hN cx hp dX13_allocatedIfReported_64 ?_
      refine lv_iload_n hx hb dX13_allocatedIfReported_67 rfl (lv_at hl 1 rfl) ?_
      obtain ⟨g_i, hf⟩ := fg hf
      refine lA_X13_10 e20 hN cx hp g_i dX13_allocatedIfReported_68 ?_
      cases hf
      exact r_i cx hp ⟨rfl, e20, fr⟩ dX13_allocatedIfReported_69
    · have hf := fp hf c5
      refine lv_iconst (v := 0) hx hb dX13_allocatedIfReported_28 (by decide) ?_
      cases hf
      exact r_i cx hp ⟨rfl, e20, fr⟩ dX13_allocatedIfReported_29
  · have hf := fn hf c2
    refine lv_aload_n hx hb dX13_allocatedIfReported_9 rfl (lv_at hl 0 rfl) ?_
    refine lv_iload_n hx hb dX13_allocatedIfReported_10 rfl (lv_at hl 2 rfl) ?_
    obtain ⟨r11, hc, hf⟩ := fb hf
    refine x_i hp (y_V (As := [.int p2]) (rest := [.ref (adr E 20 0)]) cx hp hl (c_X13_isStall l hN hT e20 hc) (cw_X13_94 cx (mc := 0) (ms := 0) rfl rfl ⟨by decide, by decide⟩) (rC_X13 hN cx hp) rfl rfl (Nat.le_of_ble_eq_true rfl) dX13_allocatedIfReported_11 ⟨Nat.zero_le _, Nat.zero_le _⟩) (fun r_c u_c H locs hq hp => ?_)
    obtain ⟨rfl, rfl⟩ := hq
    refine lv_if_eq (tgt := 21) hx hb dX13_allocatedIfReported_14 (by decide) (fun c12 => ?_) (fun c12 => ?_)
    · have hf := fp hf c12
      refine lv_iconst (v := 0) hx hb dX13_allocatedIfReported_21 (by decide) ?_
      obtain ⟨r13, ρ14, hc, hf⟩ := fb2 hf
      refine x_i hp (y_V (As := [.int 0]) (rest := []) cx hp hl (c_X13_wants l hN hT e20 hc) (cw_X13_322 cx (mc := 0) (ms := 0) rfl rfl ⟨by decide, by decide⟩) (rC_X13 hN cx hp) rfl rfl (Nat.le_of_ble_eq_true rfl) dX13_allocatedIfReported_22 ⟨Nat.zero_le _, Nat.zero_le _⟩) (fun r_c u_c H locs hq hp => ?_)
      obtain ⟨rfl, e_0, n_u⟩ := hq
      have e20 := e_0
      have fr : ∀ q, q ≠ 20 → u_c q = σ q := fun q h0 => (n_u q h0).trans (fr q h0)
      obtain ⟨u, rfl⟩ : ∃ z, u_c = z := ⟨_, rfl⟩
      refine lv_if_ne (tgt := 30) hx hb dX13_allocatedIfReported_25 (by decide) (fun c15 => ?_) (fun c15 => ?_)
      · have hf := fn hf c15
        refine lv_aload_n hx hb dX13_allocatedIfReported_30 rfl (lv_at hl 0 rfl) ?_
        refine gF_X13_7 rfl hN cx hp dX13_allocatedIfReported_31 ?_
        refine lv_aload_n hx hb dX13_allocatedIfReported_34 rfl (lv_at hl 0 rfl) ?_
        refine gF_X13_13 rfl hN cx hp dX13_allocatedIfReported_35 ?_
        obtain ⟨ρ16, hc, hf⟩ := fb hf
        refine x_v hp (y_S (As := [.ref (adr E 20 1), .ref (adr E 20 2)]) (rest := []) cx hp hl (c_X13_copies_1_2 l hN hT e20 hc) (cw_X13_326 cx (mc := 0) (ms := 0) rfl rfl ⟨by decide, by decide⟩) rfl rfl (Nat.le_of_ble_eq_true rfl) dX13_allocatedIfReported_38 ⟨Nat.zero_le _, Nat.zero_le _⟩) (fun u_c H locs hq hp => ?_)
        obtain ⟨e_0, n_u⟩ := hq
        have e20 := e_0
        have fr : ∀ q, q ≠ 20 → u_c q = σ q := fun q h0 => (n_u q h0).trans (fr q h0)
        obtain ⟨u, rfl⟩ : ∃ z, u_c = z := ⟨_, rfl⟩
        refine lv_aload_n hx hb dX13_allocatedIfReported_41 rfl (lv_at hl 0 rfl) ?_
        refine lv_iload_n hx hb dX13_allocatedIfReported_42 rfl (lv_at hl 1 rfl) ?_
        refine lv_iload_n hx hb dX13_allocatedIfReported_43 rfl (lv_at hl 2 rfl) ?_
        obtain ⟨r17, ρ18, hc, hf⟩ := fb2 hf
        refine x_i hp (y_V (As := [.int p1, .int p2]) (rest := []) cx hp hl (c_X13_putsFirst l hN hT e20 hc) (cw_X13_313 cx (mc := 0) (ms := 0) rfl rfl ⟨by decide, by decide⟩) (rC_X13 hN cx hp) rfl rfl (Nat.le_of_ble_eq_true rfl) dX13_allocatedIfReported_44 ⟨Nat.zero_le _, Nat.zero_le _⟩) (fun r_c u_c H locs hq hp => ?_)
        obtain ⟨rfl, e_0, n_u⟩ := hq
        have e20 := e_0
        have fr : ∀ q, q ≠ 20 → u_c q = σ q := fun q h0 => (n_u q h0).trans (fr q h0)
        obtain ⟨u, rfl⟩ : ∃ z, u_c = z := ⟨_, rfl⟩
        refine lv_pop hx hb dX13_allocatedIfReported_47 rfl ?_
        refine lv_aload_n hx hb dX13_allocatedIfReported_48 rfl (lv_at hl 0 rfl) ?_
        obtain ⟨ρ19, hc, hf⟩ := fb hf
        refine x_v hp (y_V (As := []) (rest := []) cx hp hl (c_X13_allocates l hN hT e20 hc) (cw_X13_152 cx (mc := 0) (ms := 0) rfl rfl ⟨by decide, by decide⟩) (rC_X13 hN cx hp) rfl rfl (Nat.le_of_ble_eq_true rfl) dX13_allocatedIfReported_49 ⟨Nat.zero_le _, Nat.zero_le _⟩) (fun u_c H locs hq hp => ?_)
        obtain ⟨e_0, n_u⟩ := hq
        have e20 := e_0
        have fr : ∀ q, q ≠ 20 → u_c q = σ q := fun q h0 => (n_u q h0).trans (fr q h0)
        obtain ⟨u, rfl⟩ : ∃ z, u_c = z := ⟨_, rfl⟩
        refine lv_aload_n hx hb dX13_allocatedIfReported_52 rfl (lv_at hl 0 rfl) ?_
        refine gF_X13_13 rfl hN cx hp dX13_allocatedIfReported_53 ?_
        refine lv_aload_n hx hb dX13_allocatedIfReported_56 rfl (lv_at hl 0 rfl) ?_
        refine gF_X13_7 rfl hN cx hp dX13_allocatedIfReported_57 ?_
        obtain ⟨ρ20, hc, hf⟩ := fb hf
        refine x_v hp (y_S (As := [.ref (adr E 20 2), .ref (adr E 20 1)]) (rest := []) cx hp hl (c_X13_copies_2_1 l hN hT e20 hc) (cw_X13_326 cx (mc := 0) (ms := 0) rfl rfl ⟨by decide, by decide⟩) rfl rfl (Nat.le_of_ble_eq_true rfl) dX13_allocatedIfReported_60 ⟨Nat.zero_le _, Nat.zero_le _⟩) (fun u_c H locs hq hp => ?_)
        obtain ⟨e_0, n_u⟩ := hq
        have e20 := e_0
        have fr : ∀ q, q ≠ 20 → u_c q = σ q := fun q h0 => (n_u q h0).trans (fr q h0)
        obtain ⟨u, rfl⟩ : ∃ z, u_c = z := ⟨_, rfl⟩
        refine lv_aload_n hx hb dX13_allocatedIfReported_63 rfl (lv_at hl 0 rfl) ?_
        refine gF_X13_41 rfl hN cx hp dX13_allocatedIfReported_64 ?_
        refine lv_iload_n hx hb dX13_allocatedIfReported_67 rfl (lv_at hl 1 rfl) ?_
        obtain ⟨g_i, hf⟩ := fg hf
        refine lA_X13_10 e20 hN cx hp g_i dX13_allocatedIfReported_68 ?_
        cases hf
        exact r_i cx hp ⟨rfl, e20, fr⟩ dX13_allocatedIfReported_69
      · have hf := fp hf c15
        refine lv_iconst (v := 0) hx hb dX13_allocatedIfReported_28 (by decide) ?_
        cases hf
        exact r_i cx hp ⟨rfl, e20, fr⟩ dX13_allocatedIfReported_29
    · have hf := fn hf c12
      refine lv_iconst (v := 1) hx hb dX13_allocatedIfReported_17 (by decide) ?_
      refine lv_goto (tgt := 22) hx hb dX13_allocatedIfReported_18 (by decide) ?_
      obtain ⟨r21, ρ22, hc, hf⟩ := fb2 hf
      refine x_i hp (y_V (As := [.int 1]) (rest := []) cx hp hl (c_X13_wants l hN hT e20 hc) (cw_X13_322 cx (mc := 0) (ms := 0) rfl rfl ⟨by decide, by decide⟩) (rC_X13 hN cx hp) rfl rfl (Nat.le_of_ble_eq_true rfl) dX13_allocatedIfReported_22 ⟨Nat.zero_le _, Nat.zero_le _⟩) (fun r_c u_c H locs hq hp => ?_)
      obtain ⟨rfl, e_0, n_u⟩ := hq
      have e20 := e_0
      have fr : ∀ q, q ≠ 20 → u_c q = σ q := fun q h0 => (n_u q h0).trans (fr q h0)
      obtain ⟨u, rfl⟩ : ∃ z, u_c = z := ⟨_, rfl⟩
      refine lv_if_ne (tgt := 30) hx hb dX13_allocatedIfReported_25 (by decide) (fun c23 => ?_) (fun c23 => ?_)
      · have hf := fn hf c23
        refine lv_aload_n hx hb dX13_allocatedIfReported_30 rfl (lv_at hl 0 rfl) ?_
        refine gF_X13_7 rfl hN cx hp dX13_allocatedIfReported_31 ?_
        refine lv_aload_n hx hb dX13_allocatedIfReported_34 rfl (lv_at hl 0 rfl) ?_
        refine gF_X13_13 rfl hN cx hp dX13_allocatedIfReported_35 ?_
        obtain ⟨ρ24, hc, hf⟩ := fb hf
        refine x_v hp (y_S (As := [.ref (adr E 20 1), .ref (adr E 20 2)]) (rest := []) cx hp hl (c_X13_copies_1_2 l hN hT e20 hc) (cw_X13_326 cx (mc := 0) (ms := 0) rfl rfl ⟨by decide, by decide⟩) rfl rfl (Nat.le_of_ble_eq_true rfl) dX13_allocatedIfReported_38 ⟨Nat.zero_le _, Nat.zero_le _⟩) (fun u_c H locs hq hp => ?_)
        obtain ⟨e_0, n_u⟩ := hq
        have e20 := e_0
        have fr : ∀ q, q ≠ 20 → u_c q = σ q := fun q h0 => (n_u q h0).trans (fr q h0)
        obtain ⟨u, rfl⟩ : ∃ z, u_c = z := ⟨_, rfl⟩
        refine lv_aload_n hx hb dX13_allocatedIfReported_41 rfl (lv_at hl 0 rfl) ?_
        refine lv_iload_n hx hb dX13_allocatedIfReported_42 rfl (lv_at hl 1 rfl) ?_
        refine lv_iload_n hx hb dX13_allocatedIfReported_43 rfl (lv_at hl 2 rfl) ?_
        obtain ⟨r25, ρ26, hc, hf⟩ := fb2 hf
        refine x_i hp (y_V (As := [.int p1, .int p2]) (rest := []) cx hp hl (c_X13_putsFirst l hN hT e20 hc) (cw_X13_313 cx (mc := 0) (ms := 0) rfl rfl ⟨by decide, by decide⟩) (rC_X13 hN cx hp) rfl rfl (Nat.le_of_ble_eq_true rfl) dX13_allocatedIfReported_44 ⟨Nat.zero_le _, Nat.zero_le _⟩) (fun r_c u_c H locs hq hp => ?_)
        obtain ⟨rfl, e_0, n_u⟩ := hq
        have e20 := e_0
        have fr : ∀ q, q ≠ 20 → u_c q = σ q := fun q h0 => (n_u q h0).trans (fr q h0)
        obtain ⟨u, rfl⟩ : ∃ z, u_c = z := ⟨_, rfl⟩
        refine lv_pop hx hb dX13_allocatedIfReported_47 rfl ?_
        refine lv_aload_n hx hb dX13_allocatedIfReported_48 rfl (lv_at hl 0 rfl) ?_
        obtain ⟨ρ27, hc, hf⟩ := fb hf
        refine x_v hp (y_V (As := []) (rest := []) cx hp hl (c_X13_allocates l hN hT e20 hc) (cw_X13_152 cx (mc := 0) (ms := 0) rfl rfl ⟨by decide, by decide⟩) (rC_X13 hN cx hp) rfl rfl (Nat.le_of_ble_eq_true rfl) dX13_allocatedIfReported_49 ⟨Nat.zero_le _, Nat.zero_le _⟩) (fun u_c H locs hq hp => ?_)
        obtain ⟨e_0, n_u⟩ := hq
        have e20 := e_0
        have fr : ∀ q, q ≠ 20 → u_c q = σ q := fun q h0 => (n_u q h0).trans (fr q h0)
        obtain ⟨u, rfl⟩ : ∃ z, u_c = z := ⟨_, rfl⟩
        refine lv_aload_n hx hb dX13_allocatedIfReported_52 rfl (lv_at hl 0 rfl) ?_
        refine gF_X13_13 rfl hN cx hp dX13_allocatedIfReported_53 ?_
        refine lv_aload_n hx hb dX13_allocatedIfReported_56 rfl (lv_at hl 0 rfl) ?_
        refine gF_X13_7 rfl hN cx hp dX13_allocatedIfReported_57 ?_
        obtain ⟨ρ28, hc, hf⟩ := fb hf
        refine x_v hp (y_S (As := [.ref (adr E 20 2), .ref (adr E 20 1)]) (rest := []) cx hp hl (c_X13_copies_2_1 l hN hT e20 hc) (cw_X13_326 cx (mc := 0) (ms := 0) rfl rfl ⟨by decide, by decide⟩) rfl rfl (Nat.le_of_ble_eq_true rfl) dX13_allocatedIfReported_60 ⟨Nat.zero_le _, Nat.zero_le _⟩) (fun u_c H locs hq hp => ?_)
        obtain ⟨e_0, n_u⟩ := hq
        have e20 := e_0
        have fr : ∀ q, q ≠ 20 → u_c q = σ q := fun q h0 => (n_u q h0).trans (fr q h0)
        obtain ⟨u, rfl⟩ : ∃ z, u_c = z := ⟨_, rfl⟩
        refine lv_aload_n hx hb dX13_allocatedIfReported_63 rfl (lv_at hl 0 rfl) ?_
        refine gF_X13_41 rfl hN cx hp dX13_allocatedIfReported_64 ?_
        refine lv_iload_n hx hb dX13_allocatedIfReported_67 rfl (lv_at hl 1 rfl) ?_
        obtain ⟨g_i, hf⟩ := fg hf
        refine lA_X13_10 e20 hN cx hp g_i dX13_allocatedIfReported_68 ?_
        cases hf
        exact r_i cx hp ⟨rfl, e20, fr⟩ dX13_allocatedIfReported_69
      · have hf := fp hf c23
        refine lv_iconst (v := 0) hx hb dX13_allocatedIfReported_28 (by decide) ?_
        cases hf
        exact r_i cx hp ⟨rfl, e20, fr⟩ dX13_allocatedIfReported_29
abbrev rm_X13_gainerCount : Room := { frames := 4, cells := 0, slots := 0, locals := 91 }
set_option maxRecDepth 100000 in
set_option maxHeartbeats 4000000 in
theorem L_X13_gainerCount_13 {p : Program} {e : Env} {s : State} {m : MethodId} {args : Array Value} {below : List Frame} {meth : Method} {c : Code} (l : Launch) {E : Ev} (hN : 146 ≤ eN E) (hT : St E) {σ : SM} (cx : Cx E p s m meth c args RX13 cX13_gainerCount 3 (some .int)) {ρ : OM} {rv : Int32} {ρ' : OM} : ∀ (n : Nat) {x2 : Int32} {x1 : Int32}, f_X13_gainerCount_13 ρ n x2 x1 = some (rv, ρ') → ∀ {u : SM} {H : Heap} {locs : List Loc} {ls : Array Slot}, u 20 = ρ → (∀ q, q ≠ 20 → u q = σ q) → Hp E u s H locs → lv_has ls 3 [(0, .ref (adr E 20 0)), (1, .int x1), (2, .int x2)] → W p l e rm_X13_gainerCount s m args below meth c H locs 0 0 (MQ below (va_Qi (fun r u => rv = r ∧ u 20 = ρ' ∧ ∀ q, q ≠ 20 → u q = σ q) (fun u t => Wu E u t) (eA E)) args s 0 0 (eA E)) (F0 m 13 ls []) := by
  have hx := cx.1.1
  have hb := cx.1.2.1
  intro n
  induction n with
  | zero =>
    intro x2 x1 hf
    exact absurd hf (by simp [f_X13_gainerCount_13])
  | succ n ih =>
    intro x2 x1 hf u H locs ls e20 fr hp hl
    rw [f_X13_gainerCount_13] at hf
    refine lv_iload_n hx hb dX13_gainerCount_13 rfl (lv_at hl 2 rfl) ?_
    refine lv_aload_n hx hb dX13_gainerCount_14 rfl (lv_at hl 0 rfl) ?_
    refine gF_X13_7 rfl hN cx hp dX13_gainerCount_15 ?_
    refine lv_iconst (v := 0) hx hb dX13_gainerCount_18 (by decide) ?_
    obtain ⟨g_i, hf⟩ := fg hf
    refine lA_X13_1 e20 hN cx hp g_i dX13_gainerCount_19 ?_
    refine lv_icmp_ge (tgt := 57) hx hb dX13_gainerCount_20 (by decide) (fun c3 => ?_) (fun c3 => ?_)
    · have hf := fp hf c3
      refine lv_iload_n hx hb dX13_gainerCount_57 rfl (lv_at hl 1 rfl) ?_
      cases hf
      exact r_i cx hp ⟨rfl, e20, fr⟩ dX13_gainerCount_58
    · have hf := fn hf c3
      refine lv_iload_n hx hb dX13_gainerCount_23 rfl (lv_at hl 1 rfl) ?_
      refine lv_aload_n hx hb dX13_gainerCount_24 rfl (lv_at hl 0 rfl) ?_
      refine lv_iload_n hx hb dX13_gainerCount_25 rfl (lv_at hl 2 rfl) ?_
      refine lv_aload_n hx hb dX13_gainerCount_26 rfl (lv_at hl 0 rfl) ?_
      refine gF_X13_41 rfl hN cx hp dX13_gainerCount_27 ?_
      refine lv_iload_n hx hb dX13_gainerCount_30 rfl (lv_at hl 2 rfl) ?_
      obtain ⟨g_i, hf⟩ := fg hf
      refine lA_X13_10 e20 hN cx hp g_i dX13_gainerCount_31 ?_
      refine lv_aload_n hx hb dX13_gainerCount_32 rfl (lv_at hl 0 rfl) ?_
      refine lv_iload_n hx hb dX13_gainerCount_33 rfl (lv_at hl 2 rfl) ?_
      refine lv_iconst (v := 3) hx hb dX13_gainerCount_34 (by decide) ?_
      obtain ⟨r4, hc, hf⟩ := fb hf
      refine x_i hp (y_V (As := [.int x2, .int 3]) (rest := [.int (ρ.1 10 (Int32.toNatClampNeg x2)), .int x2, .ref (adr E 20 0), .int x1]) cx hp hl (c_X13_of l hN hT e20 hc) (cw_X13_98 cx (mc := 0) (ms := 0) rfl rfl ⟨by decide, by decide⟩) (rC_X13 hN cx hp) rfl rfl (Nat.le_of_ble_eq_true rfl) dX13_gainerCount_35 ⟨Nat.zero_le _, Nat.zero_le _⟩) (fun r_c u_c H locs hq hp => ?_)
      obtain ⟨rfl, rfl⟩ := hq
      obtain ⟨r5, hc, hf⟩ := fb hf
      refine x_i hp (y_V (As := [.int x2, .int (ρ.1 10 (Int32.toNatClampNeg x2)), .int r4]) (rest := [.int x1]) cx hp hl (c_X13_isBetter l hN hT e20 hc) (cw_X13_108 cx (mc := 0) (ms := 0) rfl rfl ⟨by decide, by decide⟩) (rC_X13 hN cx hp) rfl rfl (Nat.le_of_ble_eq_true rfl) dX13_gainerCount_38 ⟨Nat.zero_le _, Nat.zero_le _⟩) (fun r_c u_c H locs hq hp => ?_)
      obtain ⟨rfl, rfl⟩ := hq
      refine lv_if_eq (tgt := 48) hx hb dX13_gainerCount_41 (by decide) (fun c6 => ?_) (fun c6 => ?_)
      · have hf := fp hf c6
        refine lv_iconst (v := 0) hx hb dX13_gainerCount_48 (by decide) ?_
        refine lv_iadd hx hb dX13_gainerCount_49 ?_
        obtain ⟨i7, x_e, hf⟩ := fl hf
        refine lv_nm x_e ?_
        refine lv_istore_n (lv' := [(1, .int i7), (0, .ref (adr E 20 0)), (2, .int x2)]) hx hb dX13_gainerCount_50 rfl hl (by decide) rfl (fun ls hl => ?_)
        refine lv_iinc (v := (x2 + 1)) (lv' := [(2, .int (x2 + 1)), (1, .int i7), (0, .ref (adr E 20 0))]) hx hb dX13_gainerCount_51 hl (k := 2) rfl rfl (by decide) rfl (fun ls hl => ?_)
        refine lv_goto (tgt := 13) hx hb dX13_gainerCount_54 (by decide) ?_
        exact ih  hf e20 fr hp (lv_sub hl [2, 1, 0] rfl)
      · have hf := fn hf c6
        refine lv_iconst (v := 1) hx hb dX13_gainerCount_44 (by decide) ?_
        refine lv_goto (tgt := 49) hx hb dX13_gainerCount_45 (by decide) ?_
        refine lv_iadd hx hb dX13_gainerCount_49 ?_
        obtain ⟨i8, x_e, hf⟩ := fl hf
        refine lv_nm x_e ?_
        refine lv_istore_n (lv' := [(1, .int i8), (0, .ref (adr E 20 0)), (2, .int x2)]) hx hb dX13_gainerCount_50 rfl hl (by decide) rfl (fun ls hl => ?_)
        refine lv_iinc (v := (x2 + 1)) (lv' := [(2, .int (x2 + 1)), (1, .int i8), (0, .ref (adr E 20 0))]) hx hb dX13_gainerCount_51 hl (k := 2) rfl rfl (by decide) rfl (fun ls hl => ?_)
        refine lv_goto (tgt := 13) hx hb dX13_gainerCount_54 (by decide) ?_
        exact ih  hf e20 fr hp (lv_sub hl [2, 1, 0] rfl)
set_option maxRecDepth 100000 in
set_option maxHeartbeats 4000000 in
theorem c_X13_gainerCount (l : Launch) {E : Ev} (hN : 146 ≤ eN E) (hT : St E) {σ : SM} {ρ : OM} (e20 : σ 20 = ρ)  {rv : Int32} {ρ' : OM} (hf : f_X13_gainerCount ρ = some (rv, ρ')) : Met l yX13_gainerCount (wC yX13_gainerCount cX13_gainerCount 3 (some .int)) rm_X13_gainerCount (va_Pc [.ref (adr E 20 0)] (Wu E σ)) (va_Qi (fun r u => rv = r ∧ u 20 = ρ' ∧ ∀ q, q ≠ 20 → u q = σ q) (fun u t => Wu E u t) (eA E)) 0 0 (eA E) := by
  refine g_entry (lv := [(0, .ref (adr E 20 0))]) (by decide) (Nat.le_of_ble_eq_true rfl) rfl ?_
  intro p e s m below meth c cx hp ls hl
  have hx := cx.1.1
  have hb := cx.1.2.1
  have fr : ∀ q, q ≠ 20 → σ q = σ q := fun _ _ => rfl
  unfold f_X13_gainerCount at hf
  refine lv_aload_n hx hb dX13_gainerCount_0 rfl (lv_at hl 0 rfl) ?_
  refine lv_iconst (v := 0) hx hb dX13_gainerCount_1 (by decide) ?_
  obtain ⟨ρ1, e_l, hf⟩ := fl hf
  refine pF_X13_77 e20 hN cx hp dX13_gainerCount_2 (fun u H locs e_u n_u hp => ?_)
  have e20 := e_u.trans e_l
  have fr : ∀ q, q ≠ 20 → u q = σ q := fun q h0 => (n_u q h0).trans (fr q h0)
  refine lv_aload_n hx hb dX13_gainerCount_5 rfl (lv_at hl 0 rfl) ?_
  obtain ⟨ρ2, hc, hf⟩ := fb hf
  refine x_v hp (y_V (As := []) (rest := []) cx hp hl (c_X13_allocates l hN hT e20 hc) (cw_X13_152 cx (mc := 0) (ms := 0) rfl rfl ⟨by decide, by decide⟩) (rC_X13 hN cx hp) rfl rfl (Nat.le_of_ble_eq_true rfl) dX13_gainerCount_6 ⟨Nat.zero_le _, Nat.zero_le _⟩) (fun u_c H locs hq hp => ?_)
  obtain ⟨e_0, n_u⟩ := hq
  have e20 := e_0
  have fr : ∀ q, q ≠ 20 → u_c q = σ q := fun q h0 => (n_u q h0).trans (fr q h0)
  obtain ⟨u, rfl⟩ : ∃ z, u_c = z := ⟨_, rfl⟩
  refine lv_iconst (v := 0) hx hb dX13_gainerCount_9 (by decide) ?_
  refine lv_istore_n (lv' := [(1, .int 0), (0, .ref (adr E 20 0))]) hx hb dX13_gainerCount_10 rfl hl (by decide) rfl (fun ls hl => ?_)
  refine lv_iconst (v := 0) hx hb dX13_gainerCount_11 (by decide) ?_
  refine lv_istore_n (lv' := [(2, .int 0), (1, .int 0), (0, .ref (adr E 20 0))]) hx hb dX13_gainerCount_12 rfl hl (by decide) rfl (fun ls hl => ?_)
  exact L_X13_gainerCount_13 l hN hT cx  _ hf e20 fr hp (lv_sub hl [2, 1, 0] rfl)
abbrev rm_X13_takes : Room := { frames := 0, cells := 0, slots := 0, locals := 0 }
set_option maxRecDepth 100000 in
set_option maxHeartbeats 4000000 in
theorem c_X13_takes (l : Launch) {E : Ev} (hN : 146 ≤ eN E) (hT : St E) {σ : SM} {ρ : OM} (e20 : σ 20 = ρ) {p1 : Int32} {p2 : Int32} {p3 : Int32} {ρ' : OM} (hf : f_X13_takes p1 p2 p3 ρ = some ρ') : Met l yX13_takes (wC yX13_takes cX13_takes 4 none) rm_X13_takes (va_Pc [.ref (adr E 20 0), .int p1, .int p2, .int p3] (Wu E σ)) (va_Qv (fun u => u 20 = ρ' ∧ ∀ q, q ≠ 20 → u q = σ q) (fun u t => Wu E u t) (eA E)) 0 0 (eA E) := by
  refine g_entry (lv := [(0, .ref (adr E 20 0)), (1, .int p1), (2, .int p2), (3, .int p3)]) (by decide) (Nat.le_of_ble_eq_true rfl) rfl ?_
  intro p e s m below meth c cx hp ls hl
  have hx := cx.1.1
  have hb := cx.1.2.1
  have fr : ∀ q, q ≠ 20 → σ q = σ q := fun _ _ => rfl
  unfold f_X13_takes at hf
  refine lv_aload_n hx hb dX13_takes_0 rfl (lv_at hl 0 rfl) ?_
  refine gF_X13_54 rfl hN cx hp dX13_takes_1 ?_
  refine lv_iload_n hx hb dX13_takes_4 rfl (lv_at hl 1 rfl) ?_
  obtain ⟨g_i, hf⟩ := fg hf
  refine lA_X13_14 e20 hN cx hp g_i dX13_takes_5 ?_
  refine lv_iconst (v := (-1)) hx hb dX13_takes_6 (by decide) ?_
  refine lv_icmp_eq (tgt := 20) hx hb dX13_takes_7 (by decide) (fun c1 => ?_) (fun c1 => ?_)
  · have hf := fp hf c1
    refine lv_aload_n hx hb dX13_takes_20 rfl (lv_at hl 0 rfl) ?_
    refine gF_X13_54 rfl hN cx hp dX13_takes_21 ?_
    refine lv_iload_n hx hb dX13_takes_24 rfl (lv_at hl 1 rfl) ?_
    refine lv_iload_n hx hb dX13_takes_25 rfl (lv_at hl 2 rfl) ?_
    obtain ⟨g_i, hf⟩ := fg hf
    obtain ⟨ρ2, e_l, hf⟩ := fl hf
    refine sA_X13_14 e20 hN cx hp g_i dX13_takes_26 (fun u H locs e_u n_u hp => ?_)
    have e20 := e_u.trans e_l
    have fr : ∀ q, q ≠ 20 → u q = σ q := fun q h0 => (n_u q h0).trans (fr q h0)
    refine lv_aload_n hx hb dX13_takes_27 rfl (lv_at hl 0 rfl) ?_
    refine gF_X13_57 rfl hN cx hp dX13_takes_28 ?_
    refine lv_iload_n hx hb dX13_takes_31 rfl (lv_at hl 1 rfl) ?_
    refine lv_iload_n hx hb dX13_takes_32 rfl (lv_at hl 3 rfl) ?_
    obtain ⟨g_i, hf⟩ := fg hf
    obtain ⟨ρ3, e_l, hf⟩ := fl hf
    refine sA_X13_15 e20 hN cx hp g_i dX13_takes_33 (fun u H locs e_u n_u hp => ?_)
    have e20 := e_u.trans e_l
    have fr : ∀ q, q ≠ 20 → u q = σ q := fun q h0 => (n_u q h0).trans (fr q h0)
    cases hf
    exact r_v cx hp ⟨e20, fr⟩ dX13_takes_34
  · have hf := fn hf c1
    refine lv_iload_n hx hb dX13_takes_10 rfl (lv_at hl 3 rfl) ?_
    refine lv_aload_n hx hb dX13_takes_11 rfl (lv_at hl 0 rfl) ?_
    refine gF_X13_57 rfl hN cx hp dX13_takes_12 ?_
    refine lv_iload_n hx hb dX13_takes_15 rfl (lv_at hl 1 rfl) ?_
    obtain ⟨g_i, hf⟩ := fg hf
    refine lA_X13_15 e20 hN cx hp g_i dX13_takes_16 ?_
    refine lv_icmp_ge (tgt := 34) hx hb dX13_takes_17 (by decide) (fun c4 => ?_) (fun c4 => ?_)
    · have hf := fp hf c4
      cases hf
      exact r_v cx hp ⟨e20, fr⟩ dX13_takes_34
    · have hf := fn hf c4
      refine lv_aload_n hx hb dX13_takes_20 rfl (lv_at hl 0 rfl) ?_
      refine gF_X13_54 rfl hN cx hp dX13_takes_21 ?_
      refine lv_iload_n hx hb dX13_takes_24 rfl (lv_at hl 1 rfl) ?_
      refine lv_iload_n hx hb dX13_takes_25 rfl (lv_at hl 2 rfl) ?_
      obtain ⟨g_i, hf⟩ := fg hf
      obtain ⟨ρ5, e_l, hf⟩ := fl hf
      refine sA_X13_14 e20 hN cx hp g_i dX13_takes_26 (fun u H locs e_u n_u hp => ?_)
      have e20 := e_u.trans e_l
      have fr : ∀ q, q ≠ 20 → u q = σ q := fun q h0 => (n_u q h0).trans (fr q h0)
      refine lv_aload_n hx hb dX13_takes_27 rfl (lv_at hl 0 rfl) ?_
      refine gF_X13_57 rfl hN cx hp dX13_takes_28 ?_
      refine lv_iload_n hx hb dX13_takes_31 rfl (lv_at hl 1 rfl) ?_
      refine lv_iload_n hx hb dX13_takes_32 rfl (lv_at hl 3 rfl) ?_
      obtain ⟨g_i, hf⟩ := fg hf
      obtain ⟨ρ6, e_l, hf⟩ := fl hf
      refine sA_X13_15 e20 hN cx hp g_i dX13_takes_33 (fun u H locs e_u n_u hp => ?_)
      have e20 := e_u.trans e_l
      have fr : ∀ q, q ≠ 20 → u q = σ q := fun q h0 => (n_u q h0).trans (fr q h0)
      cases hf
      exact r_v cx hp ⟨e20, fr⟩ dX13_takes_34

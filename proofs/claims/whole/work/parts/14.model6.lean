abbrev rm_X13_writeAssignment : Room := { frames := 3, cells := 0, slots := 0, locals := 67 }
set_option maxRecDepth 100000 in
set_option maxHeartbeats 4000000 in
theorem L_X13_writeAssignment_12 {p : Program} {e : Env} {s : State} {m : MethodId} {args : Array Value} {below : List Frame} {meth : Method} {c : Code} (l : Launch) {E : Ev} (hN : 146 ≤ eN E) (hT : St E) {σ : SM} (cx : Cx E p s m meth c args RX13 cX13_writeAssignment 3 (some .int)) {rv : Int32} {ρ' : OM} : ∀ (n : Nat) {x1 : Int32} {ρ : OM}, f_X13_writeAssignment_12  n x1 ρ = some (rv, ρ') → ∀ {u : SM} {H : Heap} {locs : List Loc} {ls : Array Slot}, u 20 = ρ → (∀ q, q ≠ 20 → u q = σ q) → Hp E u s H locs → lv_has ls 3 [(0, .ref (adr E 20 0)), (1, .int x1)] → W p l e rm_X13_writeAssignment s m args below meth c H locs 0 0 (MQ below (va_Qi (fun r u => rv = r ∧ u 20 = ρ' ∧ ∀ q, q ≠ 20 → u q = σ q) (fun u t => Wu E u t) (eA E)) args s 0 0 (eA E)) (F0 m 12 ls []) := by
  have hx := cx.1.1
  have hb := cx.1.2.1
  intro n
  induction n with
  | zero =>
    intro x1 ρ hf
    exact absurd hf (by simp [f_X13_writeAssignment_12])
  | succ n ih =>
    intro x1 ρ hf u H locs ls e20 fr hp hl
    rw [f_X13_writeAssignment_12] at hf
    refine lv_iload_n hx hb dX13_writeAssignment_12 rfl (lv_at hl 1 rfl) ?_
    refine lv_aload_n hx hb dX13_writeAssignment_13 rfl (lv_at hl 0 rfl) ?_
    refine gF_X13_7 rfl hN cx hp dX13_writeAssignment_14 ?_
    refine lv_iconst (v := 0) hx hb dX13_writeAssignment_17 (by decide) ?_
    obtain ⟨g_i, hf⟩ := fg hf
    refine lA_X13_1 e20 hN cx hp g_i dX13_writeAssignment_18 ?_
    refine lv_icmp_ge (tgt := 90) hx hb dX13_writeAssignment_19 (by decide) (fun c3 => ?_) (fun c3 => ?_)
    · have hf := fp hf c3
      refine lv_aload_n hx hb dX13_writeAssignment_90 rfl (lv_at hl 0 rfl) ?_
      refine gF_X13_373 e20 hN cx hp dX13_writeAssignment_91 ?_
      cases hf
      exact r_i cx hp ⟨rfl, e20, fr⟩ dX13_writeAssignment_94
    · have hf := fn hf c3
      refine lv_iload_n hx hb dX13_writeAssignment_22 rfl (lv_at hl 1 rfl) ?_
      refine lv_if_le (tgt := 32) hx hb dX13_writeAssignment_23 (by decide) (fun c4 => ?_) (fun c4 => ?_)
      · have hf := fp hf c4
        refine lv_aload_n hx hb dX13_writeAssignment_32 rfl (lv_at hl 0 rfl) ?_
        refine lv_aload_n hx hb dX13_writeAssignment_33 rfl (lv_at hl 0 rfl) ?_
        refine lv_iload_n hx hb dX13_writeAssignment_34 rfl (lv_at hl 1 rfl) ?_
        refine lv_iconst (v := 0) hx hb dX13_writeAssignment_35 (by decide) ?_
        obtain ⟨r5, hc, hf⟩ := fb hf
        refine x_i hp (y_V (As := [.int x1, .int 0]) (rest := [.ref (adr E 20 0)]) cx hp hl (c_X13_of l hN hT e20 hc) (cw_X13_98 cx (mc := 0) (ms := 0) rfl rfl ⟨by decide, by decide⟩) (rC_X13 hN cx hp) rfl rfl (Nat.le_of_ble_eq_true rfl) dX13_writeAssignment_36 ⟨Nat.zero_le _, Nat.zero_le _⟩) (fun r_c u_c H locs hq hp => ?_)
        obtain ⟨rfl, rfl⟩ := hq
        obtain ⟨ρ6, hc, hf⟩ := fb hf
        refine x_v hp (y_V (As := [.int r5]) (rest := []) cx hp hl (c_X13_writesName l hN hT e20 hc) (cw_X13_379 cx (mc := 0) (ms := 0) rfl rfl ⟨by decide, by decide⟩) (rC_X13 hN cx hp) rfl rfl (Nat.le_of_ble_eq_true rfl) dX13_writeAssignment_39 ⟨Nat.zero_le _, Nat.zero_le _⟩) (fun u_c H locs hq hp => ?_)
        obtain ⟨e_0, n_u⟩ := hq
        have e20 := e_0
        have fr : ∀ q, q ≠ 20 → u_c q = σ q := fun q h0 => (n_u q h0).trans (fr q h0)
        obtain ⟨u, rfl⟩ : ∃ z, u_c = z := ⟨_, rfl⟩
        refine lv_aload_n hx hb dX13_writeAssignment_42 rfl (lv_at hl 0 rfl) ?_
        refine lv_bipush (v := 58) hx hb dX13_writeAssignment_43 (by decide) ?_
        obtain ⟨ρ7, hc, hf⟩ := fb hf
        refine x_v hp (y_V (As := [.int 58]) (rest := []) cx hp hl (c_X13_write l hN hT e20 hc) (cw_X13_376 cx (mc := 0) (ms := 0) rfl rfl ⟨by decide, by decide⟩) (rC_X13 hN cx hp) rfl rfl (Nat.le_of_ble_eq_true rfl) dX13_writeAssignment_45 ⟨Nat.zero_le _, Nat.zero_le _⟩) (fun u_c H locs hq hp => ?_)
        obtain ⟨e_0, n_u⟩ := hq
        have e20 := e_0
        have fr : ∀ q, q ≠ 20 → u_c q = σ q := fun q h0 => (n_u q h0).trans (fr q h0)
        obtain ⟨u, rfl⟩ : ∃ z, u_c = z := ⟨_, rfl⟩
        refine lv_aload_n hx hb dX13_writeAssignment_48 rfl (lv_at hl 0 rfl) ?_
        refine lv_iload_n hx hb dX13_writeAssignment_49 rfl (lv_at hl 1 rfl) ?_
        refine lv_iconst (v := 3) hx hb dX13_writeAssignment_50 (by decide) ?_
        obtain ⟨r8, hc, hf⟩ := fb hf
        refine x_i hp (y_V (As := [.int x1, .int 3]) (rest := []) cx hp hl (c_X13_of l hN hT e20 hc) (cw_X13_98 cx (mc := 0) (ms := 0) rfl rfl ⟨by decide, by decide⟩) (rC_X13 hN cx hp) rfl rfl (Nat.le_of_ble_eq_true rfl) dX13_writeAssignment_51 ⟨Nat.zero_le _, Nat.zero_le _⟩) (fun r_c u_c H locs hq hp => ?_)
        obtain ⟨rfl, rfl⟩ := hq
        refine lv_istore_n (lv' := [(2, .int r8), (0, .ref (adr E 20 0)), (1, .int x1)]) hx hb dX13_writeAssignment_54 rfl hl (by decide) rfl (fun ls hl => ?_)
        refine lv_iload_n hx hb dX13_writeAssignment_55 rfl (lv_at hl 0 rfl) ?_
        refine lv_iconst (v := (-1)) hx hb dX13_writeAssignment_56 (by decide) ?_
        refine lv_icmp_ne (tgt := 69) hx hb dX13_writeAssignment_57 (by decide) (fun c9 => ?_) (fun c9 => ?_)
        · have hf := fn hf c9
          refine lv_aload_n hx hb dX13_writeAssignment_69 rfl (lv_at hl 1 rfl) ?_
          refine lv_aload_n hx hb dX13_writeAssignment_70 rfl (lv_at hl 1 rfl) ?_
          refine gF_X13_7 rfl hN cx hp dX13_writeAssignment_71 ?_
          refine lv_bipush (v := 9) hx hb dX13_writeAssignment_74 (by decide) ?_
          refine lv_iconst (v := 2) hx hb dX13_writeAssignment_76 (by decide) ?_
          refine lv_iload_n hx hb dX13_writeAssignment_77 rfl (lv_at hl 0 rfl) ?_
          refine lv_imul hx hb dX13_writeAssignment_78 ?_
          refine lv_iadd hx hb dX13_writeAssignment_79 ?_
          obtain ⟨g_i, hf⟩ := fg hf
          refine lA_X13_1 e20 hN cx hp g_i dX13_writeAssignment_80 ?_
          obtain ⟨ρ10, hc, hf⟩ := fb hf
          refine x_v hp (y_V (As := [.int (ρ7.1 1 (Int32.toNatClampNeg (9 + (2 * r8))))]) (rest := []) cx hp hl (c_X13_writesName l hN hT e20 hc) (cw_X13_379 cx (mc := 0) (ms := 0) rfl rfl ⟨by decide, by decide⟩) (rC_X13 hN cx hp) rfl rfl (Nat.le_of_ble_eq_true rfl) dX13_writeAssignment_81 ⟨Nat.zero_le _, Nat.zero_le _⟩) (fun u_c H locs hq hp => ?_)
          obtain ⟨e_0, n_u⟩ := hq
          have e20 := e_0
          have fr : ∀ q, q ≠ 20 → u_c q = σ q := fun q h0 => (n_u q h0).trans (fr q h0)
          obtain ⟨u, rfl⟩ : ∃ z, u_c = z := ⟨_, rfl⟩
          refine lv_iinc (v := (x1 + 1)) (lv' := [(1, .int (x1 + 1)), (2, .int r8), (0, .ref (adr E 20 0))]) hx hb dX13_writeAssignment_84 hl (k := 2) rfl rfl (by decide) rfl (fun ls hl => ?_)
          refine lv_goto (tgt := 12) hx hb dX13_writeAssignment_87 (by decide) ?_
          exact ih  hf e20 fr hp (lv_sub hl [2, 0] rfl)
        · have hf := fp hf c9
          refine lv_aload_n hx hb dX13_writeAssignment_60 rfl (lv_at hl 1 rfl) ?_
          refine lv_bipush (v := 45) hx hb dX13_writeAssignment_61 (by decide) ?_
          obtain ⟨ρ11, hc, hf⟩ := fb hf
          refine x_v hp (y_V (As := [.int 45]) (rest := []) cx hp hl (c_X13_write l hN hT e20 hc) (cw_X13_376 cx (mc := 0) (ms := 0) rfl rfl ⟨by decide, by decide⟩) (rC_X13 hN cx hp) rfl rfl (Nat.le_of_ble_eq_true rfl) dX13_writeAssignment_63 ⟨Nat.zero_le _, Nat.zero_le _⟩) (fun u_c H locs hq hp => ?_)
          obtain ⟨e_0, n_u⟩ := hq
          have e20 := e_0
          have fr : ∀ q, q ≠ 20 → u_c q = σ q := fun q h0 => (n_u q h0).trans (fr q h0)
          obtain ⟨u, rfl⟩ : ∃ z, u_c = z := ⟨_, rfl⟩
          refine lv_goto (tgt := 84) hx hb dX13_writeAssignment_66 (by decide) ?_
          refine lv_iinc (v := (x1 + 1)) (lv' := [(1, .int (x1 + 1)), (2, .int r8), (0, .ref (adr E 20 0))]) hx hb dX13_writeAssignment_84 hl (k := 2) rfl rfl (by decide) rfl (fun ls hl => ?_)
          refine lv_goto (tgt := 12) hx hb dX13_writeAssignment_87 (by decide) ?_
          exact ih  hf e20 fr hp (lv_sub hl [2, 0] rfl)
      · have hf := fn hf c4
        refine lv_aload_n hx hb dX13_writeAssignment_26 rfl (lv_at hl 0 rfl) ?_
        refine lv_bipush (v := 32) hx hb dX13_writeAssignment_27 (by decide) ?_
        obtain ⟨ρ12, hc, hf⟩ := fb hf
        refine x_v hp (y_V (As := [.int 32]) (rest := []) cx hp hl (c_X13_write l hN hT e20 hc) (cw_X13_376 cx (mc := 0) (ms := 0) rfl rfl ⟨by decide, by decide⟩) (rC_X13 hN cx hp) rfl rfl (Nat.le_of_ble_eq_true rfl) dX13_writeAssignment_29 ⟨Nat.zero_le _, Nat.zero_le _⟩) (fun u_c H locs hq hp => ?_)
        obtain ⟨e_0, n_u⟩ := hq
        have e20 := e_0
        have fr : ∀ q, q ≠ 20 → u_c q = σ q := fun q h0 => (n_u q h0).trans (fr q h0)
        obtain ⟨u, rfl⟩ : ∃ z, u_c = z := ⟨_, rfl⟩
        refine lv_aload_n hx hb dX13_writeAssignment_32 rfl (lv_at hl 0 rfl) ?_
        refine lv_aload_n hx hb dX13_writeAssignment_33 rfl (lv_at hl 0 rfl) ?_
        refine lv_iload_n hx hb dX13_writeAssignment_34 rfl (lv_at hl 1 rfl) ?_
        refine lv_iconst (v := 0) hx hb dX13_writeAssignment_35 (by decide) ?_
        obtain ⟨r13, hc, hf⟩ := fb hf
        refine x_i hp (y_V (As := [.int x1, .int 0]) (rest := [.ref (adr E 20 0)]) cx hp hl (c_X13_of l hN hT e20 hc) (cw_X13_98 cx (mc := 0) (ms := 0) rfl rfl ⟨by decide, by decide⟩) (rC_X13 hN cx hp) rfl rfl (Nat.le_of_ble_eq_true rfl) dX13_writeAssignment_36 ⟨Nat.zero_le _, Nat.zero_le _⟩) (fun r_c u_c H locs hq hp => ?_)
        obtain ⟨rfl, rfl⟩ := hq
        obtain ⟨ρ14, hc, hf⟩ := fb hf
        refine x_v hp (y_V (As := [.int r13]) (rest := []) cx hp hl (c_X13_writesName l hN hT e20 hc) (cw_X13_379 cx (mc := 0) (ms := 0) rfl rfl ⟨by decide, by decide⟩) (rC_X13 hN cx hp) rfl rfl (Nat.le_of_ble_eq_true rfl) dX13_writeAssignment_39 ⟨Nat.zero_le _, Nat.zero_le _⟩) (fun u_c H locs hq hp => ?_)
        obtain ⟨e_0, n_u⟩ := hq
        have e20 := e_0
        have fr : ∀ q, q ≠ 20 → u_c q = σ q := fun q h0 => (n_u q h0).trans (fr q h0)
        obtain ⟨u, rfl⟩ : ∃ z, u_c = z := ⟨_, rfl⟩
        refine lv_aload_n hx hb dX13_writeAssignment_42 rfl (lv_at hl 0 rfl) ?_
        refine lv_bipush (v := 58) hx hb dX13_writeAssignment_43 (by decide) ?_
        obtain ⟨ρ15, hc, hf⟩ := fb hf
        refine x_v hp (y_V (As := [.int 58]) (rest := []) cx hp hl (c_X13_write l hN hT e20 hc) (cw_X13_376 cx (mc := 0) (ms := 0) rfl rfl ⟨by decide, by decide⟩) (rC_X13 hN cx hp) rfl rfl (Nat.le_of_ble_eq_true rfl) dX13_writeAssignment_45 ⟨Nat.zero_le _, Nat.zero_le _⟩) (fun u_c H locs hq hp => ?_)
        obtain ⟨e_0, n_u⟩ := hq
        have e20 := e_0
        have fr : ∀ q, q ≠ 20 → u_c q = σ q := fun q h0 => (n_u q h0).trans (fr q h0)
        obtain ⟨u, rfl⟩ : ∃ z, u_c = z := ⟨_, rfl⟩
        refine lv_aload_n hx hb dX13_writeAssignment_48 rfl (lv_at hl 0 rfl) ?_
        refine lv_iload_n hx hb dX13_writeAssignment_49 rfl (lv_at hl 1 rfl) ?_
        refine lv_iconst (v := 3) hx hb dX13_writeAssignment_50 (by decide) ?_
        obtain ⟨r16, hc, hf⟩ := fb hf
        refine x_i hp (y_V (As := [.int x1, .int 3]) (rest := []) cx hp hl (c_X13_of l hN hT e20 hc) (cw_X13_98 cx (mc := 0) (ms := 0) rfl rfl ⟨by decide, by decide⟩) (rC_X13 hN cx hp) rfl rfl (Nat.le_of_ble_eq_true rfl) dX13_writeAssignment_51 ⟨Nat.zero_le _, Nat.zero_le _⟩) (fun r_c u_c H locs hq hp => ?_)
        obtain ⟨rfl, rfl⟩ := hq
        refine lv_istore_n (lv' := [(2, .int r16), (0, .ref (adr E 20 0)), (1, .int x1)]) hx hb dX13_writeAssignment_54 rfl hl (by decide) rfl (fun ls hl => ?_)
        refine lv_iload_n hx hb dX13_writeAssignment_55 rfl (lv_at hl 0 rfl) ?_
        refine lv_iconst (v := (-1)) hx hb dX13_writeAssignment_56 (by decide) ?_
        refine lv_icmp_ne (tgt := 69) hx hb dX13_writeAssignment_57 (by decide) (fun c17 => ?_) (fun c17 => ?_)
        · have hf := fn hf c17
          refine lv_aload_n hx hb dX13_writeAssignment_69 rfl (lv_at hl 1 rfl) ?_
          refine lv_aload_n hx hb dX13_writeAssignment_70 rfl (lv_at hl 1 rfl) ?_
          refine gF_X13_7 rfl hN cx hp dX13_writeAssignment_71 ?_
          refine lv_bipush (v := 9) hx hb dX13_writeAssignment_74 (by decide) ?_
          refine lv_iconst (v := 2) hx hb dX13_writeAssignment_76 (by decide) ?_
          refine lv_iload_n hx hb dX13_writeAssignment_77 rfl (lv_at hl 0 rfl) ?_
          refine lv_imul hx hb dX13_writeAssignment_78 ?_
          refine lv_iadd hx hb dX13_writeAssignment_79 ?_
          obtain ⟨g_i, hf⟩ := fg hf
          refine lA_X13_1 e20 hN cx hp g_i dX13_writeAssignment_80 ?_
          obtain ⟨ρ18, hc, hf⟩ := fb hf
          refine x_v hp (y_V (As := [.int (ρ15.1 1 (Int32.toNatClampNeg (9 + (2 * r16))))]) (rest := []) cx hp hl (c_X13_writesName l hN hT e20 hc) (cw_X13_379 cx (mc := 0) (ms := 0) rfl rfl ⟨by decide, by decide⟩) (rC_X13 hN cx hp) rfl rfl (Nat.le_of_ble_eq_true rfl) dX13_writeAssignment_81 ⟨Nat.zero_le _, Nat.zero_le _⟩) (fun u_c H locs hq hp => ?_)
          obtain ⟨e_0, n_u⟩ := hq
          have e20 := e_0
          have fr : ∀ q, q ≠ 20 → u_c q = σ q := fun q h0 => (n_u q h0).trans (fr q h0)
          obtain ⟨u, rfl⟩ : ∃ z, u_c = z := ⟨_, rfl⟩
          refine lv_iinc (v := (x1 + 1)) (lv' := [(1, .int (x1 + 1)), (2, .int r16), (0, .ref (adr E 20 0))]) hx hb dX13_writeAssignment_84 hl (k := 2) rfl rfl (by decide) rfl (fun ls hl => ?_)
          refine lv_goto (tgt := 12) hx hb dX13_writeAssignment_87 (by decide) ?_
          exact ih  hf e20 fr hp (lv_sub hl [2, 0] rfl)
        · have hf := fp hf c17
          refine lv_aload_n hx hb dX13_writeAssignment_60 rfl (lv_at hl 1 rfl) ?_
          refine lv_bipush (v := 45) hx hb dX13_writeAssignment_61 (by decide) ?_
          obtain ⟨ρ19, hc, hf⟩ := fb hf
          refine x_v hp (y_V (As := [.int 45]) (rest := []) cx hp hl (c_X13_write l hN hT e20 hc) (cw_X13_376 cx (mc := 0) (ms := 0) rfl rfl ⟨by decide, by decide⟩) (rC_X13 hN cx hp) rfl rfl (Nat.le_of_ble_eq_true rfl) dX13_writeAssignment_63 ⟨Nat.zero_le _, Nat.zero_le _⟩) (fun u_c H locs hq hp => ?_)
          obtain ⟨e_0, n_u⟩ := hq
          have e20 := e_0
          have fr : ∀ q, q ≠ 20 → u_c q = σ q := fun q h0 => (n_u q h0).trans (fr q h0)
          obtain ⟨u, rfl⟩ : ∃ z, u_c = z := ⟨_, rfl⟩
          refine lv_goto (tgt := 84) hx hb dX13_writeAssignment_66 (by decide) ?_
          refine lv_iinc (v := (x1 + 1)) (lv' := [(1, .int (x1 + 1)), (2, .int r16), (0, .ref (adr E 20 0))]) hx hb dX13_writeAssignment_84 hl (k := 2) rfl rfl (by decide) rfl (fun ls hl => ?_)
          refine lv_goto (tgt := 12) hx hb dX13_writeAssignment_87 (by decide) ?_
          exact ih  hf e20 fr hp (lv_sub hl [2, 0] rfl)
set_option maxRecDepth 100000 in
set_option maxHeartbeats 4000000 in
theorem c_X13_writeAssignment (l : Launch) {E : Ev} (hN : 146 ≤ eN E) (hT : St E) {σ : SM} {ρ : OM} (e20 : σ 20 = ρ)  {rv : Int32} {ρ' : OM} (hf : f_X13_writeAssignment ρ = some (rv, ρ')) : Met l yX13_writeAssignment (wC yX13_writeAssignment cX13_writeAssignment 3 (some .int)) rm_X13_writeAssignment (va_Pc [.ref (adr E 20 0)] (Wu E σ)) (va_Qi (fun r u => rv = r ∧ u 20 = ρ' ∧ ∀ q, q ≠ 20 → u q = σ q) (fun u t => Wu E u t) (eA E)) 0 0 (eA E) := by
  refine g_entry (lv := [(0, .ref (adr E 20 0))]) (by decide) (Nat.le_of_ble_eq_true rfl) rfl ?_
  intro p e s m below meth c cx hp ls hl
  have hx := cx.1.1
  have hb := cx.1.2.1
  have fr : ∀ q, q ≠ 20 → σ q = σ q := fun _ _ => rfl
  unfold f_X13_writeAssignment at hf
  refine lv_aload_n hx hb dX13_writeAssignment_0 rfl (lv_at hl 0 rfl) ?_
  refine lv_iconst (v := 0) hx hb dX13_writeAssignment_1 (by decide) ?_
  obtain ⟨ρ1, e_l, hf⟩ := fl hf
  refine pF_X13_77 e20 hN cx hp dX13_writeAssignment_2 (fun u H locs e_u n_u hp => ?_)
  have e20 := e_u.trans e_l
  have fr : ∀ q, q ≠ 20 → u q = σ q := fun q h0 => (n_u q h0).trans (fr q h0)
  refine lv_aload_n hx hb dX13_writeAssignment_5 rfl (lv_at hl 0 rfl) ?_
  refine lv_iconst (v := 0) hx hb dX13_writeAssignment_6 (by decide) ?_
  obtain ⟨ρ2, e_l, hf⟩ := fl hf
  refine pF_X13_373 e20 hN cx hp dX13_writeAssignment_7 (fun u H locs e_u n_u hp => ?_)
  have e20 := e_u.trans e_l
  have fr : ∀ q, q ≠ 20 → u q = σ q := fun q h0 => (n_u q h0).trans (fr q h0)
  refine lv_iconst (v := 0) hx hb dX13_writeAssignment_10 (by decide) ?_
  refine lv_istore_n (lv' := [(1, .int 0), (0, .ref (adr E 20 0))]) hx hb dX13_writeAssignment_11 rfl hl (by decide) rfl (fun ls hl => ?_)
  exact L_X13_writeAssignment_12 l hN hT cx  _ hf e20 fr hp (lv_sub hl [1, 0] rfl)
abbrev rm_X13_writePreferences : Room := { frames := 3, cells := 0, slots := 0, locals := 67 }
set_option maxRecDepth 100000 in
set_option maxHeartbeats 4000000 in
theorem L_X13_writePreferences_21 {p : Program} {e : Env} {s : State} {m : MethodId} {args : Array Value} {below : List Frame} {meth : Method} {c : Code} (l : Launch) {E : Ev} (hN : 146 ≤ eN E) (hT : St E) {σ : SM} (cx : Cx E p s m meth c args RX13 cX13_writePreferences 3 (some .int)) {x1 : Int32} {rv : Int32} {ρ' : OM} : ∀ (n : Nat) {x2 : Int32} {ρ : OM}, f_X13_writePreferences_21 x1 n x2 ρ = some (rv, ρ') → ∀ {u : SM} {H : Heap} {locs : List Loc} {ls : Array Slot}, u 20 = ρ → (∀ q, q ≠ 20 → u q = σ q) → Hp E u s H locs → lv_has ls 3 [(0, .ref (adr E 20 0)), (1, .int x1), (2, .int x2)] → W p l e rm_X13_writePreferences s m args below meth c H locs 0 0 (MQ below (va_Qi (fun r u => rv = r ∧ u 20 = ρ' ∧ ∀ q, q ≠ 20 → u q = σ q) (fun u t => Wu E u t) (eA E)) args s 0 0 (eA E)) (F0 m 21 ls []) := by
  have hx := cx.1.1
  have hb := cx.1.2.1
  intro n
  induction n with
  | zero =>
    intro x2 ρ hf
    exact absurd hf (by simp [f_X13_writePreferences_21])
  | succ n ih =>
    intro x2 ρ hf u H locs ls e20 fr hp hl
    rw [f_X13_writePreferences_21] at hf
    refine lv_iload_n hx hb dX13_writePreferences_21 rfl (lv_at hl 2 rfl) ?_
    refine lv_aload_n hx hb dX13_writePreferences_22 rfl (lv_at hl 0 rfl) ?_
    refine lv_iload_n hx hb dX13_writePreferences_23 rfl (lv_at hl 1 rfl) ?_
    refine lv_iconst (v := 4) hx hb dX13_writePreferences_24 (by decide) ?_
    obtain ⟨r6, hc, hf⟩ := fb hf
    refine x_i hp (y_V (As := [.int x1, .int 4]) (rest := [.int x2]) cx hp hl (c_X13_of l hN hT e20 hc) (cw_X13_98 cx (mc := 0) (ms := 0) rfl rfl ⟨by decide, by decide⟩) (rC_X13 hN cx hp) rfl rfl (Nat.le_of_ble_eq_true rfl) dX13_writePreferences_25 ⟨Nat.zero_le _, Nat.zero_le _⟩) (fun r_c u_c H locs hq hp => ?_)
    obtain ⟨rfl, rfl⟩ := hq
    refine lv_icmp_ge (tgt := 69) hx hb dX13_writePreferences_28 (by decide) (fun c7 => ?_) (fun c7 => ?_)
    · have hf := fp hf c7
      refine lv_aload_n hx hb dX13_writePreferences_69 rfl (lv_at hl 0 rfl) ?_
      refine gF_X13_373 e20 hN cx hp dX13_writePreferences_70 ?_
      cases hf
      exact r_i cx hp ⟨rfl, e20, fr⟩ dX13_writePreferences_73
    · have hf := fn hf c7
      refine lv_iload_n hx hb dX13_writePreferences_31 rfl (lv_at hl 2 rfl) ?_
      refine lv_if_le (tgt := 41) hx hb dX13_writePreferences_32 (by decide) (fun c8 => ?_) (fun c8 => ?_)
      · have hf := fp hf c8
        refine lv_aload_n hx hb dX13_writePreferences_41 rfl (lv_at hl 0 rfl) ?_
        refine lv_aload_n hx hb dX13_writePreferences_42 rfl (lv_at hl 0 rfl) ?_
        refine gF_X13_7 rfl hN cx hp dX13_writePreferences_43 ?_
        refine lv_bipush (v := 9) hx hb dX13_writePreferences_46 (by decide) ?_
        refine lv_iconst (v := 2) hx hb dX13_writePreferences_48 (by decide) ?_
        refine lv_aload_n hx hb dX13_writePreferences_49 rfl (lv_at hl 0 rfl) ?_
        refine lv_iload_n hx hb dX13_writePreferences_50 rfl (lv_at hl 1 rfl) ?_
        refine lv_iconst (v := 5) hx hb dX13_writePreferences_51 (by decide) ?_
        refine lv_iload_n hx hb dX13_writePreferences_52 rfl (lv_at hl 2 rfl) ?_
        refine lv_iadd hx hb dX13_writePreferences_53 ?_
        obtain ⟨r9, hc, hf⟩ := fb hf
        refine x_i hp (y_V (As := [.int x1, .int (5 + x2)]) (rest := [.int 2, .int 9, .ref (adr E 20 1), .ref (adr E 20 0)]) cx hp hl (c_X13_of l hN hT e20 hc) (cw_X13_98 cx (mc := 0) (ms := 0) rfl rfl ⟨by decide, by decide⟩) (rC_X13 hN cx hp) rfl rfl (Nat.le_of_ble_eq_true rfl) dX13_writePreferences_54 ⟨Nat.zero_le _, Nat.zero_le _⟩) (fun r_c u_c H locs hq hp => ?_)
        obtain ⟨rfl, rfl⟩ := hq
        refine lv_imul hx hb dX13_writePreferences_57 ?_
        refine lv_iadd hx hb dX13_writePreferences_58 ?_
        obtain ⟨g_i, hf⟩ := fg hf
        refine lA_X13_1 e20 hN cx hp g_i dX13_writePreferences_59 ?_
        obtain ⟨ρ10, hc, hf⟩ := fb hf
        refine x_v hp (y_V (As := [.int (ρ.1 1 (Int32.toNatClampNeg (9 + (2 * r9))))]) (rest := []) cx hp hl (c_X13_writesName l hN hT e20 hc) (cw_X13_379 cx (mc := 0) (ms := 0) rfl rfl ⟨by decide, by decide⟩) (rC_X13 hN cx hp) rfl rfl (Nat.le_of_ble_eq_true rfl) dX13_writePreferences_60 ⟨Nat.zero_le _, Nat.zero_le _⟩) (fun u_c H locs hq hp => ?_)
        obtain ⟨e_0, n_u⟩ := hq
        have e20 := e_0
        have fr : ∀ q, q ≠ 20 → u_c q = σ q := fun q h0 => (n_u q h0).trans (fr q h0)
        obtain ⟨u, rfl⟩ : ∃ z, u_c = z := ⟨_, rfl⟩
        refine lv_iinc (v := (x2 + 1)) (lv' := [(2, .int (x2 + 1)), (0, .ref (adr E 20 0)), (1, .int x1)]) hx hb dX13_writePreferences_63 hl (k := 2) rfl rfl (by decide) rfl (fun ls hl => ?_)
        refine lv_goto (tgt := 21) hx hb dX13_writePreferences_66 (by decide) ?_
        exact ih  hf e20 fr hp (lv_sub hl [1, 2, 0] rfl)
      · have hf := fn hf c8
        refine lv_aload_n hx hb dX13_writePreferences_35 rfl (lv_at hl 0 rfl) ?_
        refine lv_bipush (v := 62) hx hb dX13_writePreferences_36 (by decide) ?_
        obtain ⟨ρ11, hc, hf⟩ := fb hf
        refine x_v hp (y_V (As := [.int 62]) (rest := []) cx hp hl (c_X13_write l hN hT e20 hc) (cw_X13_376 cx (mc := 0) (ms := 0) rfl rfl ⟨by decide, by decide⟩) (rC_X13 hN cx hp) rfl rfl (Nat.le_of_ble_eq_true rfl) dX13_writePreferences_38 ⟨Nat.zero_le _, Nat.zero_le _⟩) (fun u_c H locs hq hp => ?_)
        obtain ⟨e_0, n_u⟩ := hq
        have e20 := e_0
        have fr : ∀ q, q ≠ 20 → u_c q = σ q := fun q h0 => (n_u q h0).trans (fr q h0)
        obtain ⟨u, rfl⟩ : ∃ z, u_c = z := ⟨_, rfl⟩
        refine lv_aload_n hx hb dX13_writePreferences_41 rfl (lv_at hl 0 rfl) ?_
        refine lv_aload_n hx hb dX13_writePreferences_42 rfl (lv_at hl 0 rfl) ?_
        refine gF_X13_7 rfl hN cx hp dX13_writePreferences_43 ?_
        refine lv_bipush (v := 9) hx hb dX13_writePreferences_46 (by decide) ?_
        refine lv_iconst (v := 2) hx hb dX13_writePreferences_48 (by decide) ?_
        refine lv_aload_n hx hb dX13_writePreferences_49 rfl (lv_at hl 0 rfl) ?_
        refine lv_iload_n hx hb dX13_writePreferences_50 rfl (lv_at hl 1 rfl) ?_
        refine lv_iconst (v := 5) hx hb dX13_writePreferences_51 (by decide) ?_
        refine lv_iload_n hx hb dX13_writePreferences_52 rfl (lv_at hl 2 rfl) ?_
        refine lv_iadd hx hb dX13_writePreferences_53 ?_
        obtain ⟨r12, hc, hf⟩ := fb hf
        refine x_i hp (y_V (As := [.int x1, .int (5 + x2)]) (rest := [.int 2, .int 9, .ref (adr E 20 1), .ref (adr E 20 0)]) cx hp hl (c_X13_of l hN hT e20 hc) (cw_X13_98 cx (mc := 0) (ms := 0) rfl rfl ⟨by decide, by decide⟩) (rC_X13 hN cx hp) rfl rfl (Nat.le_of_ble_eq_true rfl) dX13_writePreferences_54 ⟨Nat.zero_le _, Nat.zero_le _⟩) (fun r_c u_c H locs hq hp => ?_)
        obtain ⟨rfl, rfl⟩ := hq
        refine lv_imul hx hb dX13_writePreferences_57 ?_
        refine lv_iadd hx hb dX13_writePreferences_58 ?_
        obtain ⟨g_i, hf⟩ := fg hf
        refine lA_X13_1 e20 hN cx hp g_i dX13_writePreferences_59 ?_
        obtain ⟨ρ13, hc, hf⟩ := fb hf
        refine x_v hp (y_V (As := [.int (ρ11.1 1 (Int32.toNatClampNeg (9 + (2 * r12))))]) (rest := []) cx hp hl (c_X13_writesName l hN hT e20 hc) (cw_X13_379 cx (mc := 0) (ms := 0) rfl rfl ⟨by decide, by decide⟩) (rC_X13 hN cx hp) rfl rfl (Nat.le_of_ble_eq_true rfl) dX13_writePreferences_60 ⟨Nat.zero_le _, Nat.zero_le _⟩) (fun u_c H locs hq hp => ?_)
        obtain ⟨e_0, n_u⟩ := hq
        have e20 := e_0
        have fr : ∀ q, q ≠ 20 → u_c q = σ q := fun q h0 => (n_u q h0).trans (fr q h0)
        obtain ⟨u, rfl⟩ : ∃ z, u_c = z := ⟨_, rfl⟩
        refine lv_iinc (v := (x2 + 1)) (lv' := [(2, .int (x2 + 1)), (0, .ref (adr E 20 0)), (1, .int x1)]) hx hb dX13_writePreferences_63 hl (k := 2) rfl rfl (by decide) rfl (fun ls hl => ?_)
        refine lv_goto (tgt := 21) hx hb dX13_writePreferences_66 (by decide) ?_
        exact ih  hf e20 fr hp (lv_sub hl [1, 2, 0] rfl)
set_option maxRecDepth 100000 in
set_option maxHeartbeats 4000000 in
theorem c_X13_writePreferences (l : Launch) {E : Ev} (hN : 146 ≤ eN E) (hT : St E) {σ : SM} {ρ : OM} (e20 : σ 20 = ρ) {p1 : Int32} {rv : Int32} {ρ' : OM} (hf : f_X13_writePreferences p1 ρ = some (rv, ρ')) : Met l yX13_writePreferences (wC yX13_writePreferences cX13_writePreferences 3 (some .int)) rm_X13_writePreferences (va_Pc [.ref (adr E 20 0), .int p1] (Wu E σ)) (va_Qi (fun r u => rv = r ∧ u 20 = ρ' ∧ ∀ q, q ≠ 20 → u q = σ q) (fun u t => Wu E u t) (eA E)) 0 0 (eA E) := by
  refine g_entry (lv := [(0, .ref (adr E 20 0)), (1, .int p1)]) (by decide) (Nat.le_of_ble_eq_true rfl) rfl ?_
  intro p e s m below meth c cx hp ls hl
  have hx := cx.1.1
  have hb := cx.1.2.1
  have fr : ∀ q, q ≠ 20 → σ q = σ q := fun _ _ => rfl
  unfold f_X13_writePreferences at hf
  refine lv_aload_n hx hb dX13_writePreferences_0 rfl (lv_at hl 0 rfl) ?_
  refine lv_aload_n hx hb dX13_writePreferences_1 rfl (lv_at hl 0 rfl) ?_
  refine lv_iload_n hx hb dX13_writePreferences_2 rfl (lv_at hl 1 rfl) ?_
  obtain ⟨r1, hc, hf⟩ := fb hf
  refine x_i hp (y_V (As := [.int p1]) (rest := [.ref (adr E 20 0)]) cx hp hl (c_X13_isSeller l hN hT e20 hc) (cw_X13_339 cx (mc := 0) (ms := 0) rfl rfl ⟨by decide, by decide⟩) (rC_X13 hN cx hp) rfl rfl (Nat.le_of_ble_eq_true rfl) dX13_writePreferences_3 ⟨Nat.zero_le _, Nat.zero_le _⟩) (fun r_c u_c H locs hq hp => ?_)
  obtain ⟨rfl, rfl⟩ := hq
  obtain ⟨r2, ρ3, hc, hf⟩ := fb2 hf
  refine x_i hp (y_V (As := [.int r1]) (rest := []) cx hp hl (c_X13_wants l hN hT e20 hc) (cw_X13_322 cx (mc := 0) (ms := 0) rfl rfl ⟨by decide, by decide⟩) (rC_X13 hN cx hp) rfl rfl (Nat.le_of_ble_eq_true rfl) dX13_writePreferences_6 ⟨Nat.zero_le _, Nat.zero_le _⟩) (fun r_c u_c H locs hq hp => ?_)
  obtain ⟨rfl, e_0, n_u⟩ := hq
  have e20 := e_0
  have fr : ∀ q, q ≠ 20 → u_c q = σ q := fun q h0 => (n_u q h0).trans (fr q h0)
  obtain ⟨u, rfl⟩ : ∃ z, u_c = z := ⟨_, rfl⟩
  refine lv_if_ne (tgt := 14) hx hb dX13_writePreferences_9 (by decide) (fun c4 => ?_) (fun c4 => ?_)
  · have hf := fn hf c4
    refine lv_aload_n hx hb dX13_writePreferences_14 rfl (lv_at hl 0 rfl) ?_
    refine lv_iconst (v := 0) hx hb dX13_writePreferences_15 (by decide) ?_
    obtain ⟨ρ5, e_l, hf⟩ := fl hf
    refine pF_X13_373 e20 hN cx hp dX13_writePreferences_16 (fun u H locs e_u n_u hp => ?_)
    have e20 := e_u.trans e_l
    have fr : ∀ q, q ≠ 20 → u q = σ q := fun q h0 => (n_u q h0).trans (fr q h0)
    refine lv_iconst (v := 0) hx hb dX13_writePreferences_19 (by decide) ?_
    refine lv_istore_n (lv' := [(2, .int 0), (0, .ref (adr E 20 0)), (1, .int p1)]) hx hb dX13_writePreferences_20 rfl hl (by decide) rfl (fun ls hl => ?_)
    exact L_X13_writePreferences_21 l hN hT cx  _ hf e20 fr hp (lv_sub hl [1, 2, 0] rfl)
  · have hf := fp hf c4
    refine lv_iconst (v := 0) hx hb dX13_writePreferences_12 (by decide) ?_
    cases hf
    exact r_i cx hp ⟨rfl, e20, fr⟩ dX13_writePreferences_13
abbrev rm_X13_outputByte : Room := { frames := 1, cells := 0, slots := 0, locals := 22 }
set_option maxRecDepth 100000 in
set_option maxHeartbeats 4000000 in
theorem c_X13_outputByte (l : Launch) {E : Ev} (hN : 146 ≤ eN E) (hT : St E) {σ : SM} {ρ : OM} (e20 : σ 20 = ρ) {p1 : Int32} {rv : Int32} {ρ' : OM} (hf : f_X13_outputByte p1 ρ = some (rv, ρ')) : Met l yX13_outputByte (wC yX13_outputByte cX13_outputByte 2 (some .int)) rm_X13_outputByte (va_Pc [.ref (adr E 20 0), .int p1] (Wu E σ)) (va_Qi (fun r u => rv = r ∧ u 20 = ρ' ∧ ∀ q, q ≠ 20 → u q = σ q) (fun u t => Wu E u t) (eA E)) 0 0 (eA E) := by
  refine g_entry (lv := [(0, .ref (adr E 20 0)), (1, .int p1)]) (by decide) (Nat.le_of_ble_eq_true rfl) rfl ?_
  intro p e s m below meth c cx hp ls hl
  have hx := cx.1.1
  have hb := cx.1.2.1
  have fr : ∀ q, q ≠ 20 → σ q = σ q := fun _ _ => rfl
  unfold f_X13_outputByte at hf
  refine lv_aload_n hx hb dX13_outputByte_0 rfl (lv_at hl 0 rfl) ?_
  refine lv_iconst (v := 0) hx hb dX13_outputByte_1 (by decide) ?_
  obtain ⟨ρ1, e_l, hf⟩ := fl hf
  refine pF_X13_77 e20 hN cx hp dX13_outputByte_2 (fun u H locs e_u n_u hp => ?_)
  have e20 := e_u.trans e_l
  have fr : ∀ q, q ≠ 20 → u q = σ q := fun q h0 => (n_u q h0).trans (fr q h0)
  refine lv_iload_n hx hb dX13_outputByte_5 rfl (lv_at hl 1 rfl) ?_
  refine lv_iconst (v := 0) hx hb dX13_outputByte_6 (by decide) ?_
  refine lv_aload_n hx hb dX13_outputByte_7 rfl (lv_at hl 0 rfl) ?_
  refine gF_X13_373 e20 hN cx hp dX13_outputByte_8 ?_
  refine lv_iconst (v := 1) hx hb dX13_outputByte_11 (by decide) ?_
  refine lv_isub hx hb dX13_outputByte_12 ?_
  obtain ⟨r2, hc, hf⟩ := fb hf
  refine x_i hp (y_S (As := [.int p1, .int 0, .int ((ρ1.1 0 11) - 1)]) (rest := []) cx hp hl (c_X13_isBetween l hN hT  hc) (cw_X13_90 cx (mc := 0) (ms := 0) rfl rfl ⟨by decide, by decide⟩) rfl rfl (Nat.le_of_ble_eq_true rfl) dX13_outputByte_13 ⟨Nat.zero_le _, Nat.zero_le _⟩) (fun r_c u_c H locs hq hp => ?_)
  obtain ⟨rfl, rfl⟩ := hq
  refine lv_if_eq (tgt := 28) hx hb dX13_outputByte_16 (by decide) (fun c3 => ?_) (fun c3 => ?_)
  · have hf := fp hf c3
    refine lv_iconst (v := (-1)) hx hb dX13_outputByte_28 (by decide) ?_
    cases hf
    exact r_i cx hp ⟨rfl, e20, fr⟩ dX13_outputByte_29
  · have hf := fn hf c3
    refine lv_aload_n hx hb dX13_outputByte_19 rfl (lv_at hl 0 rfl) ?_
    refine gF_X13_29 rfl hN cx hp dX13_outputByte_20 ?_
    refine lv_iload_n hx hb dX13_outputByte_23 rfl (lv_at hl 1 rfl) ?_
    obtain ⟨g_i, hf⟩ := fg hf
    refine lA_X13_6 e20 hN cx hp g_i dX13_outputByte_24 ?_
    refine lv_goto (tgt := 29) hx hb dX13_outputByte_25 (by decide) ?_
    cases hf
    exact r_i cx hp ⟨rfl, e20, fr⟩ dX13_outputByte_29
abbrev rm_X13_undo : Room := { frames := 0, cells := 0, slots := 0, locals := 0 }
set_option maxRecDepth 100000 in
set_option maxHeartbeats 4000000 in
theorem L_X13_undo_26 {p : Program} {e : Env} {s : State} {m : MethodId} {args : Array Value} {below : List Frame} {meth : Method} {c : Code} (l : Launch) {E : Ev} (hN : 146 ≤ eN E) (hT : St E) {σ : SM} (cx : Cx E p s m meth c args RX13 cX13_undo 2 (some .int)) {rv : Int32} {ρ' : OM} : ∀ (n : Nat) {x1 : Int32} {ρ : OM}, f_X13_undo_26  n x1 ρ = some (rv, ρ') → ∀ {u : SM} {H : Heap} {locs : List Loc} {ls : Array Slot}, u 20 = ρ → (∀ q, q ≠ 20 → u q = σ q) → Hp E u s H locs → lv_has ls 2 [(0, .ref (adr E 20 0)), (1, .int x1)] → W p l e rm_X13_undo s m args below meth c H locs 0 0 (MQ below (va_Qi (fun r u => rv = r ∧ u 20 = ρ' ∧ ∀ q, q ≠ 20 → u q = σ q) (fun u t => Wu E u t) (eA E)) args s 0 0 (eA E)) (F0 m 26 ls []) := by
  have hx := cx.1.1
  have hb := cx.1.2.1
  intro n
  induction n with
  | zero =>
    intro x1 ρ hf
    exact absurd hf (by simp [f_X13_undo_26])
  | succ n ih =>
    intro x1 ρ hf u H locs ls e20 fr hp hl
    rw [f_X13_undo_26] at hf
    refine lv_iload_n hx hb dX13_undo_26 rfl (lv_at hl 1 rfl) ?_
    refine lv_sipush (v := 137) hx hb dX13_undo_27 (by decide) ?_
    refine lv_icmp_ge (tgt := 60) hx hb dX13_undo_30 (by decide) (fun c4 => ?_) (fun c4 => ?_)
    · have hf := fp hf c4
      refine lv_aload_n hx hb dX13_undo_60 rfl (lv_at hl 0 rfl) ?_
      refine gF_X13_170 e20 hN cx hp dX13_undo_61 ?_
      cases hf
      exact r_i cx hp ⟨rfl, e20, fr⟩ dX13_undo_64
    · have hf := fn hf c4
      refine lv_aload_n hx hb dX13_undo_33 rfl (lv_at hl 0 rfl) ?_
      refine gF_X13_7 rfl hN cx hp dX13_undo_34 ?_
      refine lv_iload_n hx hb dX13_undo_37 rfl (lv_at hl 1 rfl) ?_
      refine lv_aload_n hx hb dX13_undo_38 rfl (lv_at hl 0 rfl) ?_
      refine gF_X13_19 rfl hN cx hp dX13_undo_39 ?_
      refine lv_sipush (v := 137) hx hb dX13_undo_42 (by decide) ?_
      refine lv_aload_n hx hb dX13_undo_45 rfl (lv_at hl 0 rfl) ?_
      refine gF_X13_170 e20 hN cx hp dX13_undo_46 ?_
      refine lv_imul hx hb dX13_undo_49 ?_
      refine lv_iload_n hx hb dX13_undo_50 rfl (lv_at hl 1 rfl) ?_
      refine lv_iadd hx hb dX13_undo_51 ?_
      obtain ⟨g_i, hf⟩ := fg hf
      refine lA_X13_4 e20 hN cx hp g_i dX13_undo_52 ?_
      obtain ⟨g_i, hf⟩ := fg hf
      obtain ⟨ρ5, e_l, hf⟩ := fl hf
      refine sA_X13_1 e20 hN cx hp g_i dX13_undo_53 (fun u H locs e_u n_u hp => ?_)
      have e20 := e_u.trans e_l
      have fr : ∀ q, q ≠ 20 → u q = σ q := fun q h0 => (n_u q h0).trans (fr q h0)
      refine lv_iinc (v := (x1 + 1)) (lv' := [(1, .int (x1 + 1)), (0, .ref (adr E 20 0))]) hx hb dX13_undo_54 hl (k := 1) rfl rfl (by decide) rfl (fun ls hl => ?_)
      refine lv_goto (tgt := 26) hx hb dX13_undo_57 (by decide) ?_
      exact ih  hf e20 fr hp (lv_sub hl [1, 0] rfl)
set_option maxRecDepth 100000 in
set_option maxHeartbeats 4000000 in
theorem c_X13_undo (l : Launch) {E : Ev} (hN : 146 ≤ eN E) (hT : St E) {σ : SM} {ρ : OM} (e20 : σ 20 = ρ)  {rv : Int32} {ρ' : OM} (hf : f_X13_undo ρ = some (rv, ρ')) : Met l yX13_undo (wC yX13_undo cX13_undo 2 (some .int)) rm_X13_undo (va_Pc [.ref (adr E 20 0)] (Wu E σ)) (va_Qi (fun r u => rv = r ∧ u 20 = ρ' ∧ ∀ q, q ≠ 20 → u q = σ q) (fun u t => Wu E u t) (eA E)) 0 0 (eA E) := by
  refine g_entry (lv := [(0, .ref (adr E 20 0))]) (by decide) (Nat.le_of_ble_eq_true rfl) rfl ?_
  intro p e s m below meth c cx hp ls hl
  have hx := cx.1.1
  have hb := cx.1.2.1
  have fr : ∀ q, q ≠ 20 → σ q = σ q := fun _ _ => rfl
  unfold f_X13_undo at hf
  refine lv_aload_n hx hb dX13_undo_0 rfl (lv_at hl 0 rfl) ?_
  refine lv_iconst (v := 0) hx hb dX13_undo_1 (by decide) ?_
  obtain ⟨ρ1, e_l, hf⟩ := fl hf
  refine pF_X13_77 e20 hN cx hp dX13_undo_2 (fun u H locs e_u n_u hp => ?_)
  have e20 := e_u.trans e_l
  have fr : ∀ q, q ≠ 20 → u q = σ q := fun q h0 => (n_u q h0).trans (fr q h0)
  refine lv_aload_n hx hb dX13_undo_5 rfl (lv_at hl 0 rfl) ?_
  refine gF_X13_170 e20 hN cx hp dX13_undo_6 ?_
  refine lv_if_ne (tgt := 14) hx hb dX13_undo_9 (by decide) (fun c2 => ?_) (fun c2 => ?_)
  · have hf := fn hf c2
    refine lv_aload_n hx hb dX13_undo_14 rfl (lv_at hl 0 rfl) ?_
    refine lv_dup hx hb dX13_undo_15 rfl ?_
    refine gF_X13_170 e20 hN cx hp dX13_undo_16 ?_
    refine lv_iconst (v := 1) hx hb dX13_undo_19 (by decide) ?_
    refine lv_isub hx hb dX13_undo_20 ?_
    obtain ⟨ρ3, e_l, hf⟩ := fl hf
    refine pF_X13_170 e20 hN cx hp dX13_undo_21 (fun u H locs e_u n_u hp => ?_)
    have e20 := e_u.trans e_l
    have fr : ∀ q, q ≠ 20 → u q = σ q := fun q h0 => (n_u q h0).trans (fr q h0)
    refine lv_iconst (v := 0) hx hb dX13_undo_24 (by decide) ?_
    refine lv_istore_n (lv' := [(1, .int 0), (0, .ref (adr E 20 0))]) hx hb dX13_undo_25 rfl hl (by decide) rfl (fun ls hl => ?_)
    exact L_X13_undo_26 l hN hT cx  _ hf e20 fr hp (lv_sub hl [1, 0] rfl)
  · have hf := fp hf c2
    refine lv_iconst (v := (-1)) hx hb dX13_undo_12 (by decide) ?_
    cases hf
    exact r_i cx hp ⟨rfl, e20, fr⟩ dX13_undo_13
abbrev rm_X13_undoCount : Room := { frames := 0, cells := 0, slots := 0, locals := 0 }
set_option maxRecDepth 100000 in
set_option maxHeartbeats 4000000 in
theorem c_X13_undoCount (l : Launch) {E : Ev} (hN : 146 ≤ eN E) (hT : St E) {σ : SM} {ρ : OM} (e20 : σ 20 = ρ)  {rv : Int32} {ρ' : OM} (hf : f_X13_undoCount ρ = some (rv, ρ')) : Met l yX13_undoCount (wC yX13_undoCount cX13_undoCount 1 (some .int)) rm_X13_undoCount (va_Pc [.ref (adr E 20 0)] (Wu E σ)) (va_Qi (fun r u => rv = r ∧ u 20 = ρ' ∧ ∀ q, q ≠ 20 → u q = σ q) (fun u t => Wu E u t) (eA E)) 0 0 (eA E) := by
  refine g_entry (lv := [(0, .ref (adr E 20 0))]) (by decide) (Nat.le_of_ble_eq_true rfl) rfl ?_
  intro p e s m below meth c cx hp ls hl
  have hx := cx.1.1
  have hb := cx.1.2.1
  have fr : ∀ q, q ≠ 20 → σ q = σ q := fun _ _ => rfl
  unfold f_X13_undoCount at hf
  refine lv_aload_n hx hb dX13_undoCount_0 rfl (lv_at hl 0 rfl) ?_
  refine lv_iconst (v := 0) hx hb dX13_undoCount_1 (by decide) ?_
  obtain ⟨ρ1, e_l, hf⟩ := fl hf
  refine pF_X13_77 e20 hN cx hp dX13_undoCount_2 (fun u H locs e_u n_u hp => ?_)
  have e20 := e_u.trans e_l
  have fr : ∀ q, q ≠ 20 → u q = σ q := fun q h0 => (n_u q h0).trans (fr q h0)
  refine lv_aload_n hx hb dX13_undoCount_5 rfl (lv_at hl 0 rfl) ?_
  refine gF_X13_170 e20 hN cx hp dX13_undoCount_6 ?_
  cases hf
  exact r_i cx hp ⟨rfl, e20, fr⟩ dX13_undoCount_9
abbrev rm_X13_save : Room := { frames := 1, cells := 0, slots := 0, locals := 22 }
set_option maxRecDepth 100000 in
set_option maxHeartbeats 4000000 in
theorem c_X13_save (l : Launch) {E : Ev} (hN : 146 ≤ eN E) (hT : St E) {σ : SM} {ρ : OM} (e20 : σ 20 = ρ)  {rv : Int32} {ρ' : OM} (hf : f_X13_save ρ = some (rv, ρ')) : Met l yX13_save (wC yX13_save cX13_save 1 (some .int)) rm_X13_save (va_Pc [.ref (adr E 20 0)] (Wu E σ)) (va_Qi (fun r u => rv = r ∧ u 20 = ρ' ∧ ∀ q, q ≠ 20 → u q = σ q) (fun u t => Wu E u t) (eA E)) 0 0 (eA E) := by
  refine g_entry (lv := [(0, .ref (adr E 20 0))]) (by decide) (Nat.le_of_ble_eq_true rfl) rfl ?_
  intro p e s m below meth c cx hp ls hl
  have hx := cx.1.1
  have hb := cx.1.2.1
  have fr : ∀ q, q ≠ 20 → σ q = σ q := fun _ _ => rfl
  unfold f_X13_save at hf
  refine lv_aload_n hx hb dX13_save_0 rfl (lv_at hl 0 rfl) ?_
  refine lv_iconst (v := 0) hx hb dX13_save_1 (by decide) ?_
  obtain ⟨ρ1, e_l, hf⟩ := fl hf
  refine pF_X13_77 e20 hN cx hp dX13_save_2 (fun u H locs e_u n_u hp => ?_)
  have e20 := e_u.trans e_l
  have fr : ∀ q, q ≠ 20 → u q = σ q := fun q h0 => (n_u q h0).trans (fr q h0)
  refine lv_aload_n hx hb dX13_save_5 rfl (lv_at hl 0 rfl) ?_
  refine gF_X13_7 rfl hN cx hp dX13_save_6 ?_
  refine lv_aload_n hx hb dX13_save_9 rfl (lv_at hl 0 rfl) ?_
  refine gF_X13_16 rfl hN cx hp dX13_save_10 ?_
  obtain ⟨ρ2, hc, hf⟩ := fb hf
  refine x_v hp (y_S (As := [.ref (adr E 20 1), .ref (adr E 20 3)]) (rest := []) cx hp hl (c_X13_copies_1_3 l hN hT e20 hc) (cw_X13_326 cx (mc := 0) (ms := 0) rfl rfl ⟨by decide, by decide⟩) rfl rfl (Nat.le_of_ble_eq_true rfl) dX13_save_13 ⟨Nat.zero_le _, Nat.zero_le _⟩) (fun u_c H locs hq hp => ?_)
  obtain ⟨e_0, n_u⟩ := hq
  have e20 := e_0
  have fr : ∀ q, q ≠ 20 → u_c q = σ q := fun q h0 => (n_u q h0).trans (fr q h0)
  obtain ⟨u, rfl⟩ : ∃ z, u_c = z := ⟨_, rfl⟩
  refine lv_aload_n hx hb dX13_save_16 rfl (lv_at hl 0 rfl) ?_
  refine lv_iconst (v := 1) hx hb dX13_save_17 (by decide) ?_
  obtain ⟨ρ3, e_l, hf⟩ := fl hf
  refine pF_X13_382 e20 hN cx hp rfl rfl dX13_save_18 (fun u H locs e_u n_u hp => ?_)
  have e20 := e_u.trans e_l
  have fr : ∀ q, q ≠ 20 → u q = σ q := fun q h0 => (n_u q h0).trans (fr q h0)
  refine lv_aload_n hx hb dX13_save_21 rfl (lv_at hl 0 rfl) ?_
  refine gF_X13_7 rfl hN cx hp dX13_save_22 ?_
  refine lv_iconst (v := 2) hx hb dX13_save_25 (by decide) ?_
  obtain ⟨g_i, hf⟩ := fg hf
  refine lA_X13_1 e20 hN cx hp g_i dX13_save_26 ?_
  cases hf
  exact r_i cx hp ⟨rfl, e20, fr⟩ dX13_save_27
abbrev rm_X13_restore : Room := { frames := 1, cells := 0, slots := 0, locals := 22 }
set_option maxRecDepth 100000 in
set_option maxHeartbeats 4000000 in
theorem c_X13_restore (l : Launch) {E : Ev} (hN : 146 ≤ eN E) (hT : St E) {σ : SM} {ρ : OM} (e20 : σ 20 = ρ)  {rv : Int32} {ρ' : OM} (hf : f_X13_restore ρ = some (rv, ρ')) : Met l yX13_restore (wC yX13_restore cX13_restore 1 (some .int)) rm_X13_restore (va_Pc [.ref (adr E 20 0)] (Wu E σ)) (va_Qi (fun r u => rv = r ∧ u 20 = ρ' ∧ ∀ q, q ≠ 20 → u q = σ q) (fun u t => Wu E u t) (eA E)) 0 0 (eA E) := by
  refine g_entry (lv := [(0, .ref (adr E 20 0))]) (by decide) (Nat.le_of_ble_eq_true rfl) rfl ?_
  intro p e s m below meth c cx hp ls hl
  have hx := cx.1.1
  have hb := cx.1.2.1
  have fr : ∀ q, q ≠ 20 → σ q = σ q := fun _ _ => rfl
  unfold f_X13_restore at hf
  refine lv_aload_n hx hb dX13_restore_0 rfl (lv_at hl 0 rfl) ?_
  refine lv_aload_n hx hb dX13_restore_1 rfl (lv_at hl 0 rfl) ?_
  refine gF_X13_382 e20 hN cx hp dX13_restore_2 ?_
  obtain ⟨r1, ρ2, hc, hf⟩ := fb2 hf
  refine x_i hp (y_V (As := [.int (ρ.1 0 5)]) (rest := []) cx hp hl (c_X13_wants l hN hT e20 hc) (cw_X13_322 cx (mc := 0) (ms := 0) rfl rfl ⟨by decide, by decide⟩) (rC_X13 hN cx hp) rfl rfl (Nat.le_of_ble_eq_true rfl) dX13_restore_5 ⟨Nat.zero_le _, Nat.zero_le _⟩) (fun r_c u_c H locs hq hp => ?_)
  obtain ⟨rfl, e_0, n_u⟩ := hq
  have e20 := e_0
  have fr : ∀ q, q ≠ 20 → u_c q = σ q := fun q h0 => (n_u q h0).trans (fr q h0)
  obtain ⟨u, rfl⟩ : ∃ z, u_c = z := ⟨_, rfl⟩
  refine lv_if_ne (tgt := 13) hx hb dX13_restore_8 (by decide) (fun c3 => ?_) (fun c3 => ?_)
  · have hf := fn hf c3
    refine lv_aload_n hx hb dX13_restore_13 rfl (lv_at hl 0 rfl) ?_
    refine gF_X13_16 rfl hN cx hp dX13_restore_14 ?_
    refine lv_aload_n hx hb dX13_restore_17 rfl (lv_at hl 0 rfl) ?_
    refine gF_X13_7 rfl hN cx hp dX13_restore_18 ?_
    obtain ⟨ρ4, hc, hf⟩ := fb hf
    refine x_v hp (y_S (As := [.ref (adr E 20 3), .ref (adr E 20 1)]) (rest := []) cx hp hl (c_X13_copies_3_1 l hN hT e20 hc) (cw_X13_326 cx (mc := 0) (ms := 0) rfl rfl ⟨by decide, by decide⟩) rfl rfl (Nat.le_of_ble_eq_true rfl) dX13_restore_21 ⟨Nat.zero_le _, Nat.zero_le _⟩) (fun u_c H locs hq hp => ?_)
    obtain ⟨e_0, n_u⟩ := hq
    have e20 := e_0
    have fr : ∀ q, q ≠ 20 → u_c q = σ q := fun q h0 => (n_u q h0).trans (fr q h0)
    obtain ⟨u, rfl⟩ : ∃ z, u_c = z := ⟨_, rfl⟩
    refine lv_aload_n hx hb dX13_restore_24 rfl (lv_at hl 0 rfl) ?_
    refine lv_iconst (v := 0) hx hb dX13_restore_25 (by decide) ?_
    obtain ⟨ρ5, e_l, hf⟩ := fl hf
    refine pF_X13_170 e20 hN cx hp dX13_restore_26 (fun u H locs e_u n_u hp => ?_)
    have e20 := e_u.trans e_l
    have fr : ∀ q, q ≠ 20 → u q = σ q := fun q h0 => (n_u q h0).trans (fr q h0)
    refine lv_aload_n hx hb dX13_restore_29 rfl (lv_at hl 0 rfl) ?_
    refine gF_X13_7 rfl hN cx hp dX13_restore_30 ?_
    refine lv_iconst (v := 2) hx hb dX13_restore_33 (by decide) ?_
    obtain ⟨g_i, hf⟩ := fg hf
    refine lA_X13_1 e20 hN cx hp g_i dX13_restore_34 ?_
    cases hf
    exact r_i cx hp ⟨rfl, e20, fr⟩ dX13_restore_35
  · have hf := fp hf c3
    refine lv_iconst (v := 0) hx hb dX13_restore_11 (by decide) ?_
    cases hf
    exact r_i cx hp ⟨rfl, e20, fr⟩ dX13_restore_12

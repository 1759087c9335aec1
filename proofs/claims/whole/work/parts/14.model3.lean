abbrev rm_X13_moves : Room := { frames := 1, cells := 0, slots := 0, locals := 22 }
set_option maxRecDepth 100000 in
set_option maxHeartbeats 4000000 in
theorem L_X13_moves_21 {p : Program} {e : Env} {s : State} {m : MethodId} {args : Array Value} {below : List Frame} {meth : Method} {c : Code} (l : Launch) {E : Ev} (hN : 146 ≤ eN E) (hT : St E) {σ : SM} (cx : Cx E p s m meth c args RX13 cX13_moves 6 (some .int)) {x4 : Int32} {x3 : Int32} {x1 : Int32} {x2 : Int32} {rv : Int32} {ρ' : OM} : ∀ (n : Nat) {x5 : Int32} {ρ : OM}, f_X13_moves_21 x4 x3 x1 x2 n x5 ρ = some (rv, ρ') → ∀ {u : SM} {H : Heap} {locs : List Loc} {ls : Array Slot}, u 20 = ρ → (∀ q, q ≠ 20 → u q = σ q) → Hp E u s H locs → lv_has ls 6 [(0, .ref (adr E 20 0)), (1, .int x1), (2, .int x2), (3, .int x3), (4, .int x4), (5, .int x5)] → W p l e rm_X13_moves s m args below meth c H locs 0 0 (MQ below (va_Qi (fun r u => rv = r ∧ u 20 = ρ' ∧ ∀ q, q ≠ 20 → u q = σ q) (fun u t => Wu E u t) (eA E)) args s 0 0 (eA E)) (F0 m 21 ls []) := by
  have hx := cx.1.1
  have hb := cx.1.2.1
  intro n
  induction n with
  | zero =>
    intro x5 ρ hf
    exact absurd hf (by simp [f_X13_moves_21])
  | succ n ih =>
    intro x5 ρ hf u H locs ls e20 fr hp hl
    rw [f_X13_moves_21] at hf
    refine lv_iload hx hb dX13_moves_21 (lv_at hl 5 rfl) ?_
    refine lv_iload_n hx hb dX13_moves_23 rfl (lv_at hl 2 rfl) ?_
    refine lv_icmp_eq (tgt := 62) hx hb dX13_moves_24 (by decide) (fun c3 => ?_) (fun c3 => ?_)
    · have hf := fp hf c3
      refine lv_aload_n hx hb dX13_moves_62 rfl (lv_at hl 0 rfl) ?_
      refine gF_X13_7 rfl hN cx hp dX13_moves_63 ?_
      refine lv_sipush (v := 129) hx hb dX13_moves_66 (by decide) ?_
      refine lv_iload_n hx hb dX13_moves_69 rfl (lv_at hl 2 rfl) ?_
      refine lv_iadd hx hb dX13_moves_70 ?_
      refine lv_iload_n hx hb dX13_moves_71 rfl (lv_at hl 1 rfl) ?_
      obtain ⟨g_i, hf⟩ := fg hf
      obtain ⟨ρ4, e_l, hf⟩ := fl hf
      refine sA_X13_1 e20 hN cx hp g_i dX13_moves_72 (fun u H locs e_u n_u hp => ?_)
      have e20 := e_u.trans e_l
      have fr : ∀ q, q ≠ 20 → u q = σ q := fun q h0 => (n_u q h0).trans (fr q h0)
      refine lv_iload_n hx hb dX13_moves_73 rfl (lv_at hl 3 rfl) ?_
      cases hf
      exact r_i cx hp ⟨rfl, e20, fr⟩ dX13_moves_74
    · have hf := fn hf c3
      refine lv_aload_n hx hb dX13_moves_27 rfl (lv_at hl 0 rfl) ?_
      refine gF_X13_7 rfl hN cx hp dX13_moves_28 ?_
      refine lv_sipush (v := 129) hx hb dX13_moves_31 (by decide) ?_
      refine lv_iload hx hb dX13_moves_34 (lv_at hl 5 rfl) ?_
      refine lv_iadd hx hb dX13_moves_36 ?_
      refine lv_aload_n hx hb dX13_moves_37 rfl (lv_at hl 0 rfl) ?_
      refine gF_X13_7 rfl hN cx hp dX13_moves_38 ?_
      refine lv_sipush (v := 129) hx hb dX13_moves_41 (by decide) ?_
      refine lv_iload hx hb dX13_moves_44 (lv_at hl 5 rfl) ?_
      refine lv_iadd hx hb dX13_moves_46 ?_
      refine lv_iload hx hb dX13_moves_47 (lv_at hl 4 rfl) ?_
      refine lv_iadd hx hb dX13_moves_49 ?_
      obtain ⟨g_i, hf⟩ := fg hf
      refine lA_X13_1 e20 hN cx hp g_i dX13_moves_50 ?_
      obtain ⟨g_i, hf⟩ := fg hf
      obtain ⟨ρ5, e_l, hf⟩ := fl hf
      refine sA_X13_1 e20 hN cx hp g_i dX13_moves_51 (fun u H locs e_u n_u hp => ?_)
      have e20 := e_u.trans e_l
      have fr : ∀ q, q ≠ 20 → u q = σ q := fun q h0 => (n_u q h0).trans (fr q h0)
      refine lv_iload hx hb dX13_moves_52 (lv_at hl 5 rfl) ?_
      refine lv_iload hx hb dX13_moves_54 (lv_at hl 4 rfl) ?_
      refine lv_iadd hx hb dX13_moves_56 ?_
      obtain ⟨i6, x_e, hf⟩ := fl hf
      refine lv_nm x_e ?_
      refine lv_istore (lv' := [(5, .int i6), (0, .ref (adr E 20 0)), (1, .int x1), (2, .int x2), (3, .int x3), (4, .int x4)]) hx hb dX13_moves_57 hl (by decide) rfl (fun ls hl => ?_)
      refine lv_goto (tgt := 21) hx hb dX13_moves_59 (by decide) ?_
      exact ih  hf e20 fr hp (lv_sub hl [1, 2, 3, 4, 5, 0] rfl)
set_option maxRecDepth 100000 in
set_option maxHeartbeats 4000000 in
theorem c_X13_moves (l : Launch) {E : Ev} (hN : 146 ≤ eN E) (hT : St E) {σ : SM} {ρ : OM} (e20 : σ 20 = ρ) {p1 : Int32} {p2 : Int32} {rv : Int32} {ρ' : OM} (hf : f_X13_moves p1 p2 ρ = some (rv, ρ')) : Met l yX13_moves (wC yX13_moves cX13_moves 6 (some .int)) rm_X13_moves (va_Pc [.ref (adr E 20 0), .int p1, .int p2] (Wu E σ)) (va_Qi (fun r u => rv = r ∧ u 20 = ρ' ∧ ∀ q, q ≠ 20 → u q = σ q) (fun u t => Wu E u t) (eA E)) 0 0 (eA E) := by
  refine g_entry (lv := [(0, .ref (adr E 20 0)), (1, .int p1), (2, .int p2)]) (by decide) (Nat.le_of_ble_eq_true rfl) rfl ?_
  intro p e s m below meth c cx hp ls hl
  have hx := cx.1.1
  have hb := cx.1.2.1
  have fr : ∀ q, q ≠ 20 → σ q = σ q := fun _ _ => rfl
  unfold f_X13_moves at hf
  refine lv_aload_n hx hb dX13_moves_0 rfl (lv_at hl 0 rfl) ?_
  refine lv_iload_n hx hb dX13_moves_1 rfl (lv_at hl 1 rfl) ?_
  obtain ⟨r1, hc, hf⟩ := fb hf
  refine x_i hp (y_V (As := [.int p1]) (rest := []) cx hp hl (c_X13_positionOf l hN hT e20 hc) (cw_X13_155 cx (mc := 0) (ms := 0) rfl rfl ⟨by decide, by decide⟩) (rC_X13 hN cx hp) rfl rfl (Nat.le_of_ble_eq_true rfl) dX13_moves_2 ⟨Nat.zero_le _, Nat.zero_le _⟩) (fun r_c u_c H locs hq hp => ?_)
  obtain ⟨rfl, rfl⟩ := hq
  refine lv_istore_n (lv' := [(3, .int r1), (0, .ref (adr E 20 0)), (1, .int p1), (2, .int p2)]) hx hb dX13_moves_5 rfl hl (by decide) rfl (fun ls hl => ?_)
  refine lv_iload_n hx hb dX13_moves_6 rfl (lv_at hl 3 rfl) ?_
  refine lv_iload_n hx hb dX13_moves_7 rfl (lv_at hl 0 rfl) ?_
  refine lv_icmp_le (tgt := 15) hx hb dX13_moves_8 (by decide) (fun c2 => ?_) (fun c2 => ?_)
  · have hf := fp hf c2
    refine lv_iconst (v := (-1)) hx hb dX13_moves_15 (by decide) ?_
    refine lv_istore (lv' := [(4, .int (-1)), (3, .int r1), (0, .ref (adr E 20 0)), (1, .int p1), (2, .int p2)]) hx hb dX13_moves_16 hl (by decide) rfl (fun ls hl => ?_)
    refine lv_iload_n hx hb dX13_moves_18 rfl (lv_at hl 1 rfl) ?_
    refine lv_istore (lv' := [(5, .int r1), (4, .int (-1)), (3, .int r1), (0, .ref (adr E 20 0)), (1, .int p1), (2, .int p2)]) hx hb dX13_moves_19 hl (by decide) rfl (fun ls hl => ?_)
    exact L_X13_moves_21 l hN hT cx  _ hf e20 fr hp (lv_sub hl [3, 4, 5, 2, 1, 0] rfl)
  · have hf := fn hf c2
    refine lv_iconst (v := 1) hx hb dX13_moves_11 (by decide) ?_
    refine lv_goto (tgt := 16) hx hb dX13_moves_12 (by decide) ?_
    refine lv_istore (lv' := [(4, .int 1), (3, .int r1), (0, .ref (adr E 20 0)), (1, .int p1), (2, .int p2)]) hx hb dX13_moves_16 hl (by decide) rfl (fun ls hl => ?_)
    refine lv_iload_n hx hb dX13_moves_18 rfl (lv_at hl 1 rfl) ?_
    refine lv_istore (lv' := [(5, .int r1), (4, .int 1), (3, .int r1), (0, .ref (adr E 20 0)), (1, .int p1), (2, .int p2)]) hx hb dX13_moves_19 hl (by decide) rfl (fun ls hl => ?_)
    exact L_X13_moves_21 l hN hT cx  _ hf e20 fr hp (lv_sub hl [3, 4, 5, 2, 1, 0] rfl)
abbrev rm_X13_removes : Room := { frames := 2, cells := 0, slots := 0, locals := 45 }
set_option maxRecDepth 100000 in
set_option maxHeartbeats 4000000 in
theorem L_X13_removes_17 {p : Program} {e : Env} {s : State} {m : MethodId} {args : Array Value} {below : List Frame} {meth : Method} {c : Code} (l : Launch) {E : Ev} (hN : 146 ≤ eN E) (hT : St E) {σ : SM} (cx : Cx E p s m meth c args RX13 cX13_removes 5 (some .int)) {x3 : Int32} {x1 : Int32} {rv : Int32} {ρ' : OM} : ∀ (n : Nat) {x4 : Int32} {ρ : OM}, f_X13_removes_17 x3 x1 n x4 ρ = some (rv, ρ') → ∀ {u : SM} {H : Heap} {locs : List Loc} {ls : Array Slot}, u 20 = ρ → (∀ q, q ≠ 20 → u q = σ q) → Hp E u s H locs → lv_has ls 5 [(0, .ref (adr E 20 0)), (1, .int x1), (3, .int x3), (4, .int x4)] → W p l e rm_X13_removes s m args below meth c H locs 0 0 (MQ below (va_Qi (fun r u => rv = r ∧ u 20 = ρ' ∧ ∀ q, q ≠ 20 → u q = σ q) (fun u t => Wu E u t) (eA E)) args s 0 0 (eA E)) (F0 m 17 ls []) := by
  have hx := cx.1.1
  have hb := cx.1.2.1
  intro n
  induction n with
  | zero =>
    intro x4 ρ hf
    exact absurd hf (by simp [f_X13_removes_17])
  | succ n ih =>
    intro x4 ρ hf u H locs ls e20 fr hp hl
    rw [f_X13_removes_17] at hf
    refine lv_iload hx hb dX13_removes_17 (lv_at hl 3 rfl) ?_
    refine lv_iload_n hx hb dX13_removes_19 rfl (lv_at hl 2 rfl) ?_
    refine lv_icmp_ge (tgt := 49) hx hb dX13_removes_20 (by decide) (fun c4 => ?_) (fun c4 => ?_)
    · have hf := fp hf c4
      refine lv_aload_n hx hb dX13_removes_49 rfl (lv_at hl 0 rfl) ?_
      refine lv_iload_n hx hb dX13_removes_50 rfl (lv_at hl 1 rfl) ?_
      refine lv_iconst (v := 4) hx hb dX13_removes_51 (by decide) ?_
      refine lv_iload_n hx hb dX13_removes_52 rfl (lv_at hl 2 rfl) ?_
      obtain ⟨ρ5, hc, hf⟩ := fb hf
      refine x_v hp (y_V (As := [.int x1, .int 4, .int x3]) (rest := []) cx hp hl (c_X13_sets l hN hT e20 hc) (cw_X13_145 cx (mc := 0) (ms := 0) rfl rfl ⟨by decide, by decide⟩) (rC_X13 hN cx hp) rfl rfl (Nat.le_of_ble_eq_true rfl) dX13_removes_53 ⟨Nat.zero_le _, Nat.zero_le _⟩) (fun u_c H locs hq hp => ?_)
      obtain ⟨e_0, n_u⟩ := hq
      have e20 := e_0
      have fr : ∀ q, q ≠ 20 → u_c q = σ q := fun q h0 => (n_u q h0).trans (fr q h0)
      obtain ⟨u, rfl⟩ : ∃ z, u_c = z := ⟨_, rfl⟩
      refine lv_iload_n hx hb dX13_removes_56 rfl (lv_at hl 2 rfl) ?_
      cases hf
      exact r_i cx hp ⟨rfl, e20, fr⟩ dX13_removes_57
    · have hf := fn hf c4
      refine lv_aload_n hx hb dX13_removes_23 rfl (lv_at hl 0 rfl) ?_
      refine lv_iload_n hx hb dX13_removes_24 rfl (lv_at hl 1 rfl) ?_
      refine lv_iconst (v := 5) hx hb dX13_removes_25 (by decide) ?_
      refine lv_iload hx hb dX13_removes_26 (lv_at hl 3 rfl) ?_
      refine lv_iadd hx hb dX13_removes_28 ?_
      refine lv_aload_n hx hb dX13_removes_29 rfl (lv_at hl 0 rfl) ?_
      refine lv_iload_n hx hb dX13_removes_30 rfl (lv_at hl 1 rfl) ?_
      refine lv_iconst (v := 5) hx hb dX13_removes_31 (by decide) ?_
      refine lv_iload hx hb dX13_removes_32 (lv_at hl 3 rfl) ?_
      refine lv_iadd hx hb dX13_removes_34 ?_
      refine lv_iconst (v := 1) hx hb dX13_removes_35 (by decide) ?_
      refine lv_iadd hx hb dX13_removes_36 ?_
      obtain ⟨r6, hc, hf⟩ := fb hf
      refine x_i hp (y_V (As := [.int x1, .int ((5 + x4) + 1)]) (rest := [.int (5 + x4), .int x1, .ref (adr E 20 0)]) cx hp hl (c_X13_of l hN hT e20 hc) (cw_X13_98 cx (mc := 0) (ms := 0) rfl rfl ⟨by decide, by decide⟩) (rC_X13 hN cx hp) rfl rfl (Nat.le_of_ble_eq_true rfl) dX13_removes_37 ⟨Nat.zero_le _, Nat.zero_le _⟩) (fun r_c u_c H locs hq hp => ?_)
      obtain ⟨rfl, rfl⟩ := hq
      obtain ⟨ρ7, hc, hf⟩ := fb hf
      refine x_v hp (y_V (As := [.int x1, .int (5 + x4), .int r6]) (rest := []) cx hp hl (c_X13_sets l hN hT e20 hc) (cw_X13_145 cx (mc := 0) (ms := 0) rfl rfl ⟨by decide, by decide⟩) (rC_X13 hN cx hp) rfl rfl (Nat.le_of_ble_eq_true rfl) dX13_removes_40 ⟨Nat.zero_le _, Nat.zero_le _⟩) (fun u_c H locs hq hp => ?_)
      obtain ⟨e_0, n_u⟩ := hq
      have e20 := e_0
      have fr : ∀ q, q ≠ 20 → u_c q = σ q := fun q h0 => (n_u q h0).trans (fr q h0)
      obtain ⟨u, rfl⟩ : ∃ z, u_c = z := ⟨_, rfl⟩
      refine lv_iinc (v := (x4 + 1)) (lv' := [(4, .int (x4 + 1)), (0, .ref (adr E 20 0)), (1, .int x1), (3, .int x3)]) hx hb dX13_removes_43 hl (k := 3) rfl rfl (by decide) rfl (fun ls hl => ?_)
      refine lv_goto (tgt := 17) hx hb dX13_removes_46 (by decide) ?_
      exact ih  hf e20 fr hp (lv_sub hl [1, 2, 3, 0] rfl)
set_option maxRecDepth 100000 in
set_option maxHeartbeats 4000000 in
theorem c_X13_removes (l : Launch) {E : Ev} (hN : 146 ≤ eN E) (hT : St E) {σ : SM} {ρ : OM} (e20 : σ 20 = ρ) {p1 : Int32} {p2 : Int32} {rv : Int32} {ρ' : OM} (hf : f_X13_removes p1 p2 ρ = some (rv, ρ')) : Met l yX13_removes (wC yX13_removes cX13_removes 5 (some .int)) rm_X13_removes (va_Pc [.ref (adr E 20 0), .int p1, .int p2] (Wu E σ)) (va_Qi (fun r u => rv = r ∧ u 20 = ρ' ∧ ∀ q, q ≠ 20 → u q = σ q) (fun u t => Wu E u t) (eA E)) 0 0 (eA E) := by
  refine g_entry (lv := [(0, .ref (adr E 20 0)), (1, .int p1), (2, .int p2)]) (by decide) (Nat.le_of_ble_eq_true rfl) rfl ?_
  intro p e s m below meth c cx hp ls hl
  have hx := cx.1.1
  have hb := cx.1.2.1
  have fr : ∀ q, q ≠ 20 → σ q = σ q := fun _ _ => rfl
  unfold f_X13_removes at hf
  refine lv_aload_n hx hb dX13_removes_0 rfl (lv_at hl 0 rfl) ?_
  refine lv_iload_n hx hb dX13_removes_1 rfl (lv_at hl 1 rfl) ?_
  refine lv_iconst (v := 4) hx hb dX13_removes_2 (by decide) ?_
  obtain ⟨r1, hc, hf⟩ := fb hf
  refine x_i hp (y_V (As := [.int p1, .int 4]) (rest := []) cx hp hl (c_X13_of l hN hT e20 hc) (cw_X13_98 cx (mc := 0) (ms := 0) rfl rfl ⟨by decide, by decide⟩) (rC_X13 hN cx hp) rfl rfl (Nat.le_of_ble_eq_true rfl) dX13_removes_3 ⟨Nat.zero_le _, Nat.zero_le _⟩) (fun r_c u_c H locs hq hp => ?_)
  obtain ⟨rfl, rfl⟩ := hq
  refine lv_iconst (v := 1) hx hb dX13_removes_6 (by decide) ?_
  refine lv_isub hx hb dX13_removes_7 ?_
  obtain ⟨i2, x_e, hf⟩ := fl hf
  refine lv_nm x_e ?_
  refine lv_istore_n (lv' := [(3, .int i2), (0, .ref (adr E 20 0)), (1, .int p1), (2, .int p2)]) hx hb dX13_removes_8 rfl hl (by decide) rfl (fun ls hl => ?_)
  refine lv_aload_n hx hb dX13_removes_9 rfl (lv_at hl 1 rfl) ?_
  refine lv_iload_n hx hb dX13_removes_10 rfl (lv_at hl 2 rfl) ?_
  refine lv_iload_n hx hb dX13_removes_11 rfl (lv_at hl 3 rfl) ?_
  obtain ⟨r3, hc, hf⟩ := fb hf
  refine x_i hp (y_V (As := [.int p1, .int p2]) (rest := []) cx hp hl (c_X13_rank l hN hT e20 hc) (cw_X13_102 cx (mc := 0) (ms := 0) rfl rfl ⟨by decide, by decide⟩) (rC_X13 hN cx hp) rfl rfl (Nat.le_of_ble_eq_true rfl) dX13_removes_12 ⟨Nat.zero_le _, Nat.zero_le _⟩) (fun r_c u_c H locs hq hp => ?_)
  obtain ⟨rfl, rfl⟩ := hq
  refine lv_istore (lv' := [(4, .int r3), (3, .int i2), (0, .ref (adr E 20 0)), (1, .int p1), (2, .int p2)]) hx hb dX13_removes_15 hl (by decide) rfl (fun ls hl => ?_)
  exact L_X13_removes_17 l hN hT cx  _ hf e20 fr hp (lv_sub hl [2, 3, 1, 0] rfl)
abbrev rm_X13_putsFirst : Room := { frames := 3, cells := 0, slots := 0, locals := 69 }
set_option maxRecDepth 100000 in
set_option maxHeartbeats 4000000 in
theorem L_X13_putsFirst_27 {p : Program} {e : Env} {s : State} {m : MethodId} {args : Array Value} {below : List Frame} {meth : Method} {c : Code} (l : Launch) {E : Ev} (hN : 146 ≤ eN E) (hT : St E) {σ : SM} {Q : State → Prop} (cx : Cx E p s m meth c args RX13 cX13_putsFirst 5 (some .int)) {x3 : Int32} {x1 : Int32} {x2 : Int32} {ρ' : OM} (K : ∀ (u : SM) (H : Heap) (locs : List Loc) (ls : Array Slot), u 20 = ρ' → (∀ q, q ≠ 20 → u q = σ q) → Hp E u s H locs → lv_has ls 5 [(0, .ref (adr E 20 0)), (1, .int x1), (2, .int x2), (3, .int x3)] → W p l e rm_X13_putsFirst s m args below meth c H locs 0 0 Q (F0 m 58 ls [])) : ∀ (n : Nat) {x4 : Int32} {ρ : OM}, f_X13_putsFirst_27 x1 n x4 ρ = some ρ' → ∀ {u : SM} {H : Heap} {locs : List Loc} {ls : Array Slot}, u 20 = ρ → (∀ q, q ≠ 20 → u q = σ q) → Hp E u s H locs → lv_has ls 5 [(0, .ref (adr E 20 0)), (1, .int x1), (2, .int x2), (3, .int x3), (4, .int x4)] → W p l e rm_X13_putsFirst s m args below meth c H locs 0 0 Q (F0 m 27 ls []) := by
  have hx := cx.1.1
  have hb := cx.1.2.1
  intro n
  induction n with
  | zero =>
    intro x4 ρ hf
    exact absurd hf (by simp [f_X13_putsFirst_27])
  | succ n ih =>
    intro x4 ρ hf u H locs ls e20 fr hp hl
    rw [f_X13_putsFirst_27] at hf
    refine lv_iload hx hb dX13_putsFirst_27 (lv_at hl 4 rfl) ?_
    refine lv_if_le (tgt := 58) hx hb dX13_putsFirst_29 (by decide) (fun c4 => ?_) (fun c4 => ?_)
    · have hf := fp hf c4
      cases hf
      exact K _ _ _ _ e20 fr hp (lv_sub hl [0, 1, 2, 3] rfl)
    · have hf := fn hf c4
      refine lv_aload_n hx hb dX13_putsFirst_32 rfl (lv_at hl 0 rfl) ?_
      refine lv_iload_n hx hb dX13_putsFirst_33 rfl (lv_at hl 1 rfl) ?_
      refine lv_iconst (v := 5) hx hb dX13_putsFirst_34 (by decide) ?_
      refine lv_iload hx hb dX13_putsFirst_35 (lv_at hl 4 rfl) ?_
      refine lv_iadd hx hb dX13_putsFirst_37 ?_
      refine lv_aload_n hx hb dX13_putsFirst_38 rfl (lv_at hl 0 rfl) ?_
      refine lv_iload_n hx hb dX13_putsFirst_39 rfl (lv_at hl 1 rfl) ?_
      refine lv_iconst (v := 5) hx hb dX13_putsFirst_40 (by decide) ?_
      refine lv_iload hx hb dX13_putsFirst_41 (lv_at hl 4 rfl) ?_
      refine lv_iadd hx hb dX13_putsFirst_43 ?_
      refine lv_iconst (v := 1) hx hb dX13_putsFirst_44 (by decide) ?_
      refine lv_isub hx hb dX13_putsFirst_45 ?_
      obtain ⟨r5, hc, hf⟩ := fb hf
      refine x_i hp (y_V (As := [.int x1, .int ((5 + x4) - 1)]) (rest := [.int (5 + x4), .int x1, .ref (adr E 20 0)]) cx hp hl (c_X13_of l hN hT e20 hc) (cw_X13_98 cx (mc := 0) (ms := 0) rfl rfl ⟨by decide, by decide⟩) (rC_X13 hN cx hp) rfl rfl (Nat.le_of_ble_eq_true rfl) dX13_putsFirst_46 ⟨Nat.zero_le _, Nat.zero_le _⟩) (fun r_c u_c H locs hq hp => ?_)
      obtain ⟨rfl, rfl⟩ := hq
      obtain ⟨ρ6, hc, hf⟩ := fb hf
      refine x_v hp (y_V (As := [.int x1, .int (5 + x4), .int r5]) (rest := []) cx hp hl (c_X13_sets l hN hT e20 hc) (cw_X13_145 cx (mc := 0) (ms := 0) rfl rfl ⟨by decide, by decide⟩) (rC_X13 hN cx hp) rfl rfl (Nat.le_of_ble_eq_true rfl) dX13_putsFirst_49 ⟨Nat.zero_le _, Nat.zero_le _⟩) (fun u_c H locs hq hp => ?_)
      obtain ⟨e_0, n_u⟩ := hq
      have e20 := e_0
      have fr : ∀ q, q ≠ 20 → u_c q = σ q := fun q h0 => (n_u q h0).trans (fr q h0)
      obtain ⟨u, rfl⟩ : ∃ z, u_c = z := ⟨_, rfl⟩
      refine lv_iinc (v := (x4 + (-1))) (lv' := [(4, .int (x4 + (-1))), (0, .ref (adr E 20 0)), (1, .int x1), (2, .int x2), (3, .int x3)]) hx hb dX13_putsFirst_52 hl (k := 4) rfl rfl (by decide) rfl (fun ls hl => ?_)
      refine lv_goto (tgt := 27) hx hb dX13_putsFirst_55 (by decide) ?_
      exact ih  hf e20 fr hp (lv_sub hl [1, 2, 3, 4, 0] rfl)
set_option maxRecDepth 100000 in
set_option maxHeartbeats 4000000 in
theorem c_X13_putsFirst (l : Launch) {E : Ev} (hN : 146 ≤ eN E) (hT : St E) {σ : SM} {ρ : OM} (e20 : σ 20 = ρ) {p1 : Int32} {p2 : Int32} {rv : Int32} {ρ' : OM} (hf : f_X13_putsFirst p1 p2 ρ = some (rv, ρ')) : Met l yX13_putsFirst (wC yX13_putsFirst cX13_putsFirst 5 (some .int)) rm_X13_putsFirst (va_Pc [.ref (adr E 20 0), .int p1, .int p2] (Wu E σ)) (va_Qi (fun r u => rv = r ∧ u 20 = ρ' ∧ ∀ q, q ≠ 20 → u q = σ q) (fun u t => Wu E u t) (eA E)) 0 0 (eA E) := by
  refine g_entry (lv := [(0, .ref (adr E 20 0)), (1, .int p1), (2, .int p2)]) (by decide) (Nat.le_of_ble_eq_true rfl) rfl ?_
  intro p e s m below meth c cx hp ls hl
  have hx := cx.1.1
  have hb := cx.1.2.1
  have fr : ∀ q, q ≠ 20 → σ q = σ q := fun _ _ => rfl
  unfold f_X13_putsFirst at hf
  refine lv_aload_n hx hb dX13_putsFirst_0 rfl (lv_at hl 0 rfl) ?_
  refine lv_iload_n hx hb dX13_putsFirst_1 rfl (lv_at hl 1 rfl) ?_
  refine lv_iload_n hx hb dX13_putsFirst_2 rfl (lv_at hl 2 rfl) ?_
  obtain ⟨r1, hc, hf⟩ := fb hf
  refine x_i hp (y_V (As := [.int p1, .int p2]) (rest := []) cx hp hl (c_X13_rank l hN hT e20 hc) (cw_X13_102 cx (mc := 0) (ms := 0) rfl rfl ⟨by decide, by decide⟩) (rC_X13 hN cx hp) rfl rfl (Nat.le_of_ble_eq_true rfl) dX13_putsFirst_3 ⟨Nat.zero_le _, Nat.zero_le _⟩) (fun r_c u_c H locs hq hp => ?_)
  obtain ⟨rfl, rfl⟩ := hq
  refine lv_iconst (v := (-1)) hx hb dX13_putsFirst_6 (by decide) ?_
  refine lv_icmp_eq (tgt := 17) hx hb dX13_putsFirst_7 (by decide) (fun c2 => ?_) (fun c2 => ?_)
  · have hf := fp hf c2
    refine lv_aload_n hx hb dX13_putsFirst_17 rfl (lv_at hl 0 rfl) ?_
    refine lv_iload_n hx hb dX13_putsFirst_18 rfl (lv_at hl 1 rfl) ?_
    refine lv_iconst (v := 4) hx hb dX13_putsFirst_19 (by decide) ?_
    obtain ⟨r3, hc, hf⟩ := fb hf
    refine x_i hp (y_V (As := [.int p1, .int 4]) (rest := []) cx hp hl (c_X13_of l hN hT e20 hc) (cw_X13_98 cx (mc := 0) (ms := 0) rfl rfl ⟨by decide, by decide⟩) (rC_X13 hN cx hp) rfl rfl (Nat.le_of_ble_eq_true rfl) dX13_putsFirst_20 ⟨Nat.zero_le _, Nat.zero_le _⟩) (fun r_c u_c H locs hq hp => ?_)
    obtain ⟨rfl, rfl⟩ := hq
    refine lv_istore_n (lv' := [(3, .int r3), (0, .ref (adr E 20 0)), (1, .int p1), (2, .int p2)]) hx hb dX13_putsFirst_23 rfl hl (by decide) rfl (fun ls hl => ?_)
    refine lv_iload_n hx hb dX13_putsFirst_24 rfl (lv_at hl 0 rfl) ?_
    refine lv_istore (lv' := [(4, .int r3), (3, .int r3), (0, .ref (adr E 20 0)), (1, .int p1), (2, .int p2)]) hx hb dX13_putsFirst_25 hl (by decide) rfl (fun ls hl => ?_)
    obtain ⟨ρ7, hc, hf⟩ := fb hf
    refine L_X13_putsFirst_27 l hN hT cx  (fun u H locs ls e20 fr hp hl => ?_) _ hc e20 fr hp (lv_sub hl [2, 3, 4, 1, 0] rfl)
    refine lv_aload_n hx hb dX13_putsFirst_58 rfl (lv_at hl 0 rfl) ?_
    refine lv_iload_n hx hb dX13_putsFirst_59 rfl (lv_at hl 1 rfl) ?_
    refine lv_iconst (v := 5) hx hb dX13_putsFirst_60 (by decide) ?_
    refine lv_iload_n hx hb dX13_putsFirst_61 rfl (lv_at hl 2 rfl) ?_
    obtain ⟨ρ8, hc, hf⟩ := fb hf
    refine x_v hp (y_V (As := [.int p1, .int 5, .int p2]) (rest := []) cx hp hl (c_X13_sets l hN hT e20 hc) (cw_X13_145 cx (mc := 0) (ms := 0) rfl rfl ⟨by decide, by decide⟩) (rC_X13 hN cx hp) rfl rfl (Nat.le_of_ble_eq_true rfl) dX13_putsFirst_62 ⟨Nat.zero_le _, Nat.zero_le _⟩) (fun u_c H locs hq hp => ?_)
    obtain ⟨e_0, n_u⟩ := hq
    have e20 := e_0
    have fr : ∀ q, q ≠ 20 → u_c q = σ q := fun q h0 => (n_u q h0).trans (fr q h0)
    obtain ⟨u, rfl⟩ : ∃ z, u_c = z := ⟨_, rfl⟩
    refine lv_aload_n hx hb dX13_putsFirst_65 rfl (lv_at hl 0 rfl) ?_
    refine lv_iload_n hx hb dX13_putsFirst_66 rfl (lv_at hl 1 rfl) ?_
    refine lv_iconst (v := 4) hx hb dX13_putsFirst_67 (by decide) ?_
    refine lv_iload_n hx hb dX13_putsFirst_68 rfl (lv_at hl 3 rfl) ?_
    refine lv_iconst (v := 1) hx hb dX13_putsFirst_69 (by decide) ?_
    refine lv_iadd hx hb dX13_putsFirst_70 ?_
    obtain ⟨ρ9, hc, hf⟩ := fb hf
    refine x_v hp (y_V (As := [.int p1, .int 4, .int (r3 + 1)]) (rest := []) cx hp hl (c_X13_sets l hN hT e20 hc) (cw_X13_145 cx (mc := 0) (ms := 0) rfl rfl ⟨by decide, by decide⟩) (rC_X13 hN cx hp) rfl rfl (Nat.le_of_ble_eq_true rfl) dX13_putsFirst_71 ⟨Nat.zero_le _, Nat.zero_le _⟩) (fun u_c H locs hq hp => ?_)
    obtain ⟨e_0, n_u⟩ := hq
    have e20 := e_0
    have fr : ∀ q, q ≠ 20 → u_c q = σ q := fun q h0 => (n_u q h0).trans (fr q h0)
    obtain ⟨u, rfl⟩ : ∃ z, u_c = z := ⟨_, rfl⟩
    refine lv_iload_n hx hb dX13_putsFirst_74 rfl (lv_at hl 3 rfl) ?_
    refine lv_iconst (v := 1) hx hb dX13_putsFirst_75 (by decide) ?_
    refine lv_iadd hx hb dX13_putsFirst_76 ?_
    cases hf
    exact r_i cx hp ⟨rfl, e20, fr⟩ dX13_putsFirst_77
  · have hf := fn hf c2
    refine lv_aload_n hx hb dX13_putsFirst_10 rfl (lv_at hl 0 rfl) ?_
    refine lv_iload_n hx hb dX13_putsFirst_11 rfl (lv_at hl 1 rfl) ?_
    refine lv_iload_n hx hb dX13_putsFirst_12 rfl (lv_at hl 2 rfl) ?_
    obtain ⟨r10, ρ11, hc, hf⟩ := fb2 hf
    refine x_i hp (y_V (As := [.int p1, .int p2]) (rest := []) cx hp hl (c_X13_removes l hN hT e20 hc) (cw_X13_158 cx (mc := 0) (ms := 0) rfl rfl ⟨by decide, by decide⟩) (rC_X13 hN cx hp) rfl rfl (Nat.le_of_ble_eq_true rfl) dX13_putsFirst_13 ⟨Nat.zero_le _, Nat.zero_le _⟩) (fun r_c u_c H locs hq hp => ?_)
    obtain ⟨rfl, e_0, n_u⟩ := hq
    have e20 := e_0
    have fr : ∀ q, q ≠ 20 → u_c q = σ q := fun q h0 => (n_u q h0).trans (fr q h0)
    obtain ⟨u, rfl⟩ : ∃ z, u_c = z := ⟨_, rfl⟩
    refine lv_pop hx hb dX13_putsFirst_16 rfl ?_
    refine lv_aload_n hx hb dX13_putsFirst_17 rfl (lv_at hl 0 rfl) ?_
    refine lv_iload_n hx hb dX13_putsFirst_18 rfl (lv_at hl 1 rfl) ?_
    refine lv_iconst (v := 4) hx hb dX13_putsFirst_19 (by decide) ?_
    obtain ⟨r12, hc, hf⟩ := fb hf
    refine x_i hp (y_V (As := [.int p1, .int 4]) (rest := []) cx hp hl (c_X13_of l hN hT e20 hc) (cw_X13_98 cx (mc := 0) (ms := 0) rfl rfl ⟨by decide, by decide⟩) (rC_X13 hN cx hp) rfl rfl (Nat.le_of_ble_eq_true rfl) dX13_putsFirst_20 ⟨Nat.zero_le _, Nat.zero_le _⟩) (fun r_c u_c H locs hq hp => ?_)
    obtain ⟨rfl, rfl⟩ := hq
    refine lv_istore_n (lv' := [(3, .int r12), (0, .ref (adr E 20 0)), (1, .int p1), (2, .int p2)]) hx hb dX13_putsFirst_23 rfl hl (by decide) rfl (fun ls hl => ?_)
    refine lv_iload_n hx hb dX13_putsFirst_24 rfl (lv_at hl 0 rfl) ?_
    refine lv_istore (lv' := [(4, .int r12), (3, .int r12), (0, .ref (adr E 20 0)), (1, .int p1), (2, .int p2)]) hx hb dX13_putsFirst_25 hl (by decide) rfl (fun ls hl => ?_)
    obtain ⟨ρ13, hc, hf⟩ := fb hf
    refine L_X13_putsFirst_27 l hN hT cx  (fun u H locs ls e20 fr hp hl => ?_) _ hc e20 fr hp (lv_sub hl [2, 3, 4, 1, 0] rfl)
    refine lv_aload_n hx hb dX13_putsFirst_58 rfl (lv_at hl 0 rfl) ?_
    refine lv_iload_n hx hb dX13_putsFirst_59 rfl (lv_at hl 1 rfl) ?_
    refine lv_iconst (v := 5) hx hb dX13_putsFirst_60 (by decide) ?_
    refine lv_iload_n hx hb dX13_putsFirst_61 rfl (lv_at hl 2 rfl) ?_
    obtain ⟨ρ14, hc, hf⟩ := fb hf
    refine x_v hp (y_V (As := [.int p1, .int 5, .int p2]) (rest := []) cx hp hl (c_X13_sets l hN hT e20 hc) (cw_X13_145 cx (mc := 0) (ms := 0) rfl rfl ⟨by decide, by decide⟩) (rC_X13 hN cx hp) rfl rfl (Nat.le_of_ble_eq_true rfl) dX13_putsFirst_62 ⟨Nat.zero_le _, Nat.zero_le _⟩) (fun u_c H locs hq hp => ?_)
    obtain ⟨e_0, n_u⟩ := hq
    have e20 := e_0
    have fr : ∀ q, q ≠ 20 → u_c q = σ q := fun q h0 => (n_u q h0).trans (fr q h0)
    obtain ⟨u, rfl⟩ : ∃ z, u_c = z := ⟨_, rfl⟩
    refine lv_aload_n hx hb dX13_putsFirst_65 rfl (lv_at hl 0 rfl) ?_
    refine lv_iload_n hx hb dX13_putsFirst_66 rfl (lv_at hl 1 rfl) ?_
    refine lv_iconst (v := 4) hx hb dX13_putsFirst_67 (by decide) ?_
    refine lv_iload_n hx hb dX13_putsFirst_68 rfl (lv_at hl 3 rfl) ?_
    refine lv_iconst (v := 1) hx hb dX13_putsFirst_69 (by decide) ?_
    refine lv_iadd hx hb dX13_putsFirst_70 ?_
    obtain ⟨ρ15, hc, hf⟩ := fb hf
    refine x_v hp (y_V (As := [.int p1, .int 4, .int (r12 + 1)]) (rest := []) cx hp hl (c_X13_sets l hN hT e20 hc) (cw_X13_145 cx (mc := 0) (ms := 0) rfl rfl ⟨by decide, by decide⟩) (rC_X13 hN cx hp) rfl rfl (Nat.le_of_ble_eq_true rfl) dX13_putsFirst_71 ⟨Nat.zero_le _, Nat.zero_le _⟩) (fun u_c H locs hq hp => ?_)
    obtain ⟨e_0, n_u⟩ := hq
    have e20 := e_0
    have fr : ∀ q, q ≠ 20 → u_c q = σ q := fun q h0 => (n_u q h0).trans (fr q h0)
    obtain ⟨u, rfl⟩ : ∃ z, u_c = z := ⟨_, rfl⟩
    refine lv_iload_n hx hb dX13_putsFirst_74 rfl (lv_at hl 3 rfl) ?_
    refine lv_iconst (v := 1) hx hb dX13_putsFirst_75 (by decide) ?_
    refine lv_iadd hx hb dX13_putsFirst_76 ?_
    cases hf
    exact r_i cx hp ⟨rfl, e20, fr⟩ dX13_putsFirst_77
abbrev rm_X13_deposits : Room := { frames := 1, cells := 0, slots := 0, locals := 23 }
set_option maxRecDepth 100000 in
set_option maxHeartbeats 4000000 in
theorem c_X13_deposits (l : Launch) {E : Ev} (hN : 146 ≤ eN E) (hT : St E) {σ : SM} {ρ : OM} (e20 : σ 20 = ρ) {p1 : Int32} {p2 : Int32} {rv : Int32} {ρ' : OM} (hf : f_X13_deposits p1 p2 ρ = some (rv, ρ')) : Met l yX13_deposits (wC yX13_deposits cX13_deposits 3 (some .int)) rm_X13_deposits (va_Pc [.ref (adr E 20 0), .int p1, .int p2] (Wu E σ)) (va_Qi (fun r u => rv = r ∧ u 20 = ρ' ∧ ∀ q, q ≠ 20 → u q = σ q) (fun u t => Wu E u t) (eA E)) 0 0 (eA E) := by
  refine g_entry (lv := [(0, .ref (adr E 20 0)), (1, .int p1), (2, .int p2)]) (by decide) (Nat.le_of_ble_eq_true rfl) rfl ?_
  intro p e s m below meth c cx hp ls hl
  have hx := cx.1.1
  have hb := cx.1.2.1
  have fr : ∀ q, q ≠ 20 → σ q = σ q := fun _ _ => rfl
  unfold f_X13_deposits at hf
  refine lv_aload_n hx hb dX13_deposits_0 rfl (lv_at hl 0 rfl) ?_
  refine lv_iload_n hx hb dX13_deposits_1 rfl (lv_at hl 1 rfl) ?_
  refine lv_iconst (v := 1) hx hb dX13_deposits_2 (by decide) ?_
  refine lv_aload_n hx hb dX13_deposits_3 rfl (lv_at hl 0 rfl) ?_
  refine lv_iload_n hx hb dX13_deposits_4 rfl (lv_at hl 1 rfl) ?_
  refine lv_iconst (v := 1) hx hb dX13_deposits_5 (by decide) ?_
  obtain ⟨r1, hc, hf⟩ := fb hf
  refine x_i hp (y_V (As := [.int p1, .int 1]) (rest := [.int 1, .int p1, .ref (adr E 20 0)]) cx hp hl (c_X13_of l hN hT e20 hc) (cw_X13_98 cx (mc := 0) (ms := 0) rfl rfl ⟨by decide, by decide⟩) (rC_X13 hN cx hp) rfl rfl (Nat.le_of_ble_eq_true rfl) dX13_deposits_6 ⟨Nat.zero_le _, Nat.zero_le _⟩) (fun r_c u_c H locs hq hp => ?_)
  obtain ⟨rfl, rfl⟩ := hq
  refine lv_iload_n hx hb dX13_deposits_9 rfl (lv_at hl 2 rfl) ?_
  refine lv_iadd hx hb dX13_deposits_10 ?_
  obtain ⟨ρ2, hc, hf⟩ := fb hf
  refine x_v hp (y_V (As := [.int p1, .int 1, .int (r1 + p2)]) (rest := []) cx hp hl (c_X13_sets l hN hT e20 hc) (cw_X13_145 cx (mc := 0) (ms := 0) rfl rfl ⟨by decide, by decide⟩) (rC_X13 hN cx hp) rfl rfl (Nat.le_of_ble_eq_true rfl) dX13_deposits_11 ⟨Nat.zero_le _, Nat.zero_le _⟩) (fun u_c H locs hq hp => ?_)
  obtain ⟨e_0, n_u⟩ := hq
  have e20 := e_0
  have fr : ∀ q, q ≠ 20 → u_c q = σ q := fun q h0 => (n_u q h0).trans (fr q h0)
  obtain ⟨u, rfl⟩ : ∃ z, u_c = z := ⟨_, rfl⟩
  refine lv_aload_n hx hb dX13_deposits_14 rfl (lv_at hl 0 rfl) ?_
  refine gF_X13_7 rfl hN cx hp dX13_deposits_15 ?_
  refine lv_bipush (v := 8) hx hb dX13_deposits_18 (by decide) ?_
  refine lv_dup2_11 hx hb dX13_deposits_20 rfl rfl ?_
  obtain ⟨g_i, hf⟩ := fg hf
  refine lA_X13_1 e20 hN cx hp g_i dX13_deposits_21 ?_
  refine lv_iload_n hx hb dX13_deposits_22 rfl (lv_at hl 2 rfl) ?_
  refine lv_iadd hx hb dX13_deposits_23 ?_
  obtain ⟨g_i, hf⟩ := fg hf
  obtain ⟨ρ3, e_l, hf⟩ := fl hf
  refine sA_X13_1 e20 hN cx hp g_i dX13_deposits_24 (fun u H locs e_u n_u hp => ?_)
  have e20 := e_u.trans e_l
  have fr : ∀ q, q ≠ 20 → u q = σ q := fun q h0 => (n_u q h0).trans (fr q h0)
  refine lv_aload_n hx hb dX13_deposits_25 rfl (lv_at hl 0 rfl) ?_
  refine lv_iload_n hx hb dX13_deposits_26 rfl (lv_at hl 1 rfl) ?_
  refine lv_iconst (v := 1) hx hb dX13_deposits_27 (by decide) ?_
  obtain ⟨r4, hc, hf⟩ := fb hf
  refine x_i hp (y_V (As := [.int p1, .int 1]) (rest := []) cx hp hl (c_X13_of l hN hT e20 hc) (cw_X13_98 cx (mc := 0) (ms := 0) rfl rfl ⟨by decide, by decide⟩) (rC_X13 hN cx hp) rfl rfl (Nat.le_of_ble_eq_true rfl) dX13_deposits_28 ⟨Nat.zero_le _, Nat.zero_le _⟩) (fun r_c u_c H locs hq hp => ?_)
  obtain ⟨rfl, rfl⟩ := hq
  cases hf
  exact r_i cx hp ⟨rfl, e20, fr⟩ dX13_deposits_31
abbrev rm_X13_isEvicted : Room := { frames := 1, cells := 0, slots := 0, locals := 23 }
set_option maxRecDepth 100000 in
set_option maxHeartbeats 4000000 in
theorem c_X13_isEvicted (l : Launch) {E : Ev} (hN : 146 ≤ eN E) (hT : St E) {σ : SM} {ρ : OM} (e20 : σ 20 = ρ) {p1 : Int32} {rv : Int32} {ρ' : OM} (hf : f_X13_isEvicted p1 ρ = some (rv, ρ')) : Met l yX13_isEvicted (wC yX13_isEvicted cX13_isEvicted 4 (some .boolean)) rm_X13_isEvicted (va_Pc [.ref (adr E 20 0), .int p1] (Wu E σ)) (va_Qi (fun r u => rv = r ∧ u 20 = ρ' ∧ ∀ q, q ≠ 20 → u q = σ q) (fun u t => Wu E u t) (eA E)) 0 0 (eA E) := by
  refine g_entry (lv := [(0, .ref (adr E 20 0)), (1, .int p1)]) (by decide) (Nat.le_of_ble_eq_true rfl) rfl ?_
  intro p e s m below meth c cx hp ls hl
  have hx := cx.1.1
  have hb := cx.1.2.1
  have fr : ∀ q, q ≠ 20 → σ q = σ q := fun _ _ => rfl
  unfold f_X13_isEvicted at hf
  refine lv_aload_n hx hb dX13_isEvicted_0 rfl (lv_at hl 0 rfl) ?_
  refine lv_iload_n hx hb dX13_isEvicted_1 rfl (lv_at hl 1 rfl) ?_
  refine lv_iconst (v := 3) hx hb dX13_isEvicted_2 (by decide) ?_
  obtain ⟨r1, hc, hf⟩ := fb hf
  refine x_i hp (y_V (As := [.int p1, .int 3]) (rest := []) cx hp hl (c_X13_of l hN hT e20 hc) (cw_X13_98 cx (mc := 0) (ms := 0) rfl rfl ⟨by decide, by decide⟩) (rC_X13 hN cx hp) rfl rfl (Nat.le_of_ble_eq_true rfl) dX13_isEvicted_3 ⟨Nat.zero_le _, Nat.zero_le _⟩) (fun r_c u_c H locs hq hp => ?_)
  obtain ⟨rfl, rfl⟩ := hq
  refine lv_istore_n (lv' := [(2, .int r1), (0, .ref (adr E 20 0)), (1, .int p1)]) hx hb dX13_isEvicted_6 rfl hl (by decide) rfl (fun ls hl => ?_)
  refine lv_iload_n hx hb dX13_isEvicted_7 rfl (lv_at hl 0 rfl) ?_
  refine lv_iconst (v := (-1)) hx hb dX13_isEvicted_8 (by decide) ?_
  refine lv_icmp_ne (tgt := 14) hx hb dX13_isEvicted_9 (by decide) (fun c2 => ?_) (fun c2 => ?_)
  · have hf := fn hf c2
    refine lv_aload_n hx hb dX13_isEvicted_14 rfl (lv_at hl 1 rfl) ?_
    refine lv_iload_n hx hb dX13_isEvicted_15 rfl (lv_at hl 0 rfl) ?_
    obtain ⟨r3, hc, hf⟩ := fb hf
    refine x_i hp (y_V (As := [.int r1]) (rest := []) cx hp hl (c_X13_rentOf l hN hT e20 hc) (cw_X13_149 cx (mc := 0) (ms := 0) rfl rfl ⟨by decide, by decide⟩) (rC_X13 hN cx hp) rfl rfl (Nat.le_of_ble_eq_true rfl) dX13_isEvicted_16 ⟨Nat.zero_le _, Nat.zero_le _⟩) (fun r_c u_c H locs hq hp => ?_)
    obtain ⟨rfl, rfl⟩ := hq
    refine lv_istore_n (lv' := [(3, .int r3), (2, .int r1), (0, .ref (adr E 20 0)), (1, .int p1)]) hx hb dX13_isEvicted_19 rfl hl (by decide) rfl (fun ls hl => ?_)
    refine lv_aload_n hx hb dX13_isEvicted_20 rfl (lv_at hl 2 rfl) ?_
    refine lv_iload_n hx hb dX13_isEvicted_21 rfl (lv_at hl 3 rfl) ?_
    refine lv_iconst (v := 1) hx hb dX13_isEvicted_22 (by decide) ?_
    obtain ⟨r4, hc, hf⟩ := fb hf
    refine x_i hp (y_V (As := [.int p1, .int 1]) (rest := []) cx hp hl (c_X13_of l hN hT e20 hc) (cw_X13_98 cx (mc := 0) (ms := 0) rfl rfl ⟨by decide, by decide⟩) (rC_X13 hN cx hp) rfl rfl (Nat.le_of_ble_eq_true rfl) dX13_isEvicted_23 ⟨Nat.zero_le _, Nat.zero_le _⟩) (fun r_c u_c H locs hq hp => ?_)
    obtain ⟨rfl, rfl⟩ := hq
    refine lv_iload_n hx hb dX13_isEvicted_26 rfl (lv_at hl 0 rfl) ?_
    refine lv_icmp_ge (tgt := 49) hx hb dX13_isEvicted_27 (by decide) (fun c5 => ?_) (fun c5 => ?_)
    · have hf := fp hf c5
      refine lv_aload_n hx hb dX13_isEvicted_49 rfl (lv_at hl 2 rfl) ?_
      refine lv_iload_n hx hb dX13_isEvicted_50 rfl (lv_at hl 3 rfl) ?_
      refine lv_iconst (v := 1) hx hb dX13_isEvicted_51 (by decide) ?_
      refine lv_aload_n hx hb dX13_isEvicted_52 rfl (lv_at hl 2 rfl) ?_
      refine lv_iload_n hx hb dX13_isEvicted_53 rfl (lv_at hl 3 rfl) ?_
      refine lv_iconst (v := 1) hx hb dX13_isEvicted_54 (by decide) ?_
      obtain ⟨r6, hc, hf⟩ := fb hf
      refine x_i hp (y_V (As := [.int p1, .int 1]) (rest := [.int 1, .int p1, .ref (adr E 20 0)]) cx hp hl (c_X13_of l hN hT e20 hc) (cw_X13_98 cx (mc := 0) (ms := 0) rfl rfl ⟨by decide, by decide⟩) (rC_X13 hN cx hp) rfl rfl (Nat.le_of_ble_eq_true rfl) dX13_isEvicted_55 ⟨Nat.zero_le _, Nat.zero_le _⟩) (fun r_c u_c H locs hq hp => ?_)
      obtain ⟨rfl, rfl⟩ := hq
      refine lv_iload_n hx hb dX13_isEvicted_58 rfl (lv_at hl 0 rfl) ?_
      refine lv_isub hx hb dX13_isEvicted_59 ?_
      obtain ⟨ρ7, hc, hf⟩ := fb hf
      refine x_v hp (y_V (As := [.int p1, .int 1, .int (r6 - r3)]) (rest := []) cx hp hl (c_X13_sets l hN hT e20 hc) (cw_X13_145 cx (mc := 0) (ms := 0) rfl rfl ⟨by decide, by decide⟩) (rC_X13 hN cx hp) rfl rfl (Nat.le_of_ble_eq_true rfl) dX13_isEvicted_60 ⟨Nat.zero_le _, Nat.zero_le _⟩) (fun u_c H locs hq hp => ?_)
      obtain ⟨e_0, n_u⟩ := hq
      have e20 := e_0
      have fr : ∀ q, q ≠ 20 → u_c q = σ q := fun q h0 => (n_u q h0).trans (fr q h0)
      obtain ⟨u, rfl⟩ : ∃ z, u_c = z := ⟨_, rfl⟩
      refine lv_aload_n hx hb dX13_isEvicted_63 rfl (lv_at hl 2 rfl) ?_
      refine gF_X13_7 rfl hN cx hp dX13_isEvicted_64 ?_
      refine lv_iconst (v := 3) hx hb dX13_isEvicted_67 (by decide) ?_
      refine lv_dup2_11 hx hb dX13_isEvicted_68 rfl rfl ?_
      obtain ⟨g_i, hf⟩ := fg hf
      refine lA_X13_1 e20 hN cx hp g_i dX13_isEvicted_69 ?_
      refine lv_iload_n hx hb dX13_isEvicted_70 rfl (lv_at hl 0 rfl) ?_
      refine lv_iadd hx hb dX13_isEvicted_71 ?_
      obtain ⟨g_i, hf⟩ := fg hf
      obtain ⟨ρ8, e_l, hf⟩ := fl hf
      refine sA_X13_1 e20 hN cx hp g_i dX13_isEvicted_72 (fun u H locs e_u n_u hp => ?_)
      have e20 := e_u.trans e_l
      have fr : ∀ q, q ≠ 20 → u q = σ q := fun q h0 => (n_u q h0).trans (fr q h0)
      refine lv_iconst (v := 0) hx hb dX13_isEvicted_73 (by decide) ?_
      cases hf
      exact r_z cx hp rfl ⟨rfl, e20, fr⟩ dX13_isEvicted_74
    · have hf := fn hf c5
      refine lv_aload_n hx hb dX13_isEvicted_30 rfl (lv_at hl 2 rfl) ?_
      refine lv_iload_n hx hb dX13_isEvicted_31 rfl (lv_at hl 3 rfl) ?_
      refine lv_iconst (v := 3) hx hb dX13_isEvicted_32 (by decide) ?_
      refine lv_iconst (v := (-1)) hx hb dX13_isEvicted_33 (by decide) ?_
      obtain ⟨ρ9, hc, hf⟩ := fb hf
      refine x_v hp (y_V (As := [.int p1, .int 3, .int (-1)]) (rest := []) cx hp hl (c_X13_sets l hN hT e20 hc) (cw_X13_145 cx (mc := 0) (ms := 0) rfl rfl ⟨by decide, by decide⟩) (rC_X13 hN cx hp) rfl rfl (Nat.le_of_ble_eq_true rfl) dX13_isEvicted_34 ⟨Nat.zero_le _, Nat.zero_le _⟩) (fun u_c H locs hq hp => ?_)
      obtain ⟨e_0, n_u⟩ := hq
      have e20 := e_0
      have fr : ∀ q, q ≠ 20 → u_c q = σ q := fun q h0 => (n_u q h0).trans (fr q h0)
      obtain ⟨u, rfl⟩ : ∃ z, u_c = z := ⟨_, rfl⟩
      refine lv_aload_n hx hb dX13_isEvicted_37 rfl (lv_at hl 2 rfl) ?_
      refine gF_X13_7 rfl hN cx hp dX13_isEvicted_38 ?_
      refine lv_iconst (v := 4) hx hb dX13_isEvicted_41 (by decide) ?_
      refine lv_dup2_11 hx hb dX13_isEvicted_42 rfl rfl ?_
      obtain ⟨g_i, hf⟩ := fg hf
      refine lA_X13_1 e20 hN cx hp g_i dX13_isEvicted_43 ?_
      refine lv_iconst (v := 1) hx hb dX13_isEvicted_44 (by decide) ?_
      refine lv_iadd hx hb dX13_isEvicted_45 ?_
      obtain ⟨g_i, hf⟩ := fg hf
      obtain ⟨ρ10, e_l, hf⟩ := fl hf
      refine sA_X13_1 e20 hN cx hp g_i dX13_isEvicted_46 (fun u H locs e_u n_u hp => ?_)
      have e20 := e_u.trans e_l
      have fr : ∀ q, q ≠ 20 → u q = σ q := fun q h0 => (n_u q h0).trans (fr q h0)
      refine lv_iconst (v := 1) hx hb dX13_isEvicted_47 (by decide) ?_
      cases hf
      exact r_z cx hp rfl ⟨rfl, e20, fr⟩ dX13_isEvicted_48
  · have hf := fp hf c2
    refine lv_iconst (v := 0) hx hb dX13_isEvicted_12 (by decide) ?_
    cases hf
    exact r_z cx hp rfl ⟨rfl, e20, fr⟩ dX13_isEvicted_13
abbrev rm_X13_passesDay : Room := { frames := 2, cells := 0, slots := 0, locals := 46 }
set_option maxRecDepth 100000 in
set_option maxHeartbeats 4000000 in
theorem L_X13_passesDay_14 {p : Program} {e : Env} {s : State} {m : MethodId} {args : Array Value} {below : List Frame} {meth : Method} {c : Code} (l : Launch) {E : Ev} (hN : 146 ≤ eN E) (hT : St E) {σ : SM} {Q : State → Prop} (cx : Cx E p s m meth c args RX13 cX13_passesDay 3 (some .int)) {x1 : Int32} {ρ' : OM} (K : ∀ (u : SM) (H : Heap) (locs : List Loc) (ls : Array Slot), u 20 = ρ' → (∀ q, q ≠ 20 → u q = σ q) → Hp E u s H locs → lv_has ls 3 [(0, .ref (adr E 20 0)), (1, .int x1)] → W p l e rm_X13_passesDay s m args below meth c H locs 0 0 Q (F0 m 42 ls [])) : ∀ (n : Nat) {x2 : Int32} {ρ : OM}, f_X13_passesDay_14  n x2 ρ = some ρ' → ∀ {u : SM} {H : Heap} {locs : List Loc} {ls : Array Slot}, u 20 = ρ → (∀ q, q ≠ 20 → u q = σ q) → Hp E u s H locs → lv_has ls 3 [(0, .ref (adr E 20 0)), (1, .int x1), (2, .int x2)] → W p l e rm_X13_passesDay s m args below meth c H locs 0 0 Q (F0 m 14 ls []) := by
  have hx := cx.1.1
  have hb := cx.1.2.1
  intro n
  induction n with
  | zero =>
    intro x2 ρ hf
    exact absurd hf (by simp [f_X13_passesDay_14])
  | succ n ih =>
    intro x2 ρ hf u H locs ls e20 fr hp hl
    rw [f_X13_passesDay_14] at hf
    refine lv_iload_n hx hb dX13_passesDay_14 rfl (lv_at hl 2 rfl) ?_
    refine lv_aload_n hx hb dX13_passesDay_15 rfl (lv_at hl 0 rfl) ?_
    refine gF_X13_7 rfl hN cx hp dX13_passesDay_16 ?_
    refine lv_iconst (v := 0) hx hb dX13_passesDay_19 (by decide) ?_
    obtain ⟨g_i, hf⟩ := fg hf
    refine lA_X13_1 e20 hN cx hp g_i dX13_passesDay_20 ?_
    refine lv_icmp_ge (tgt := 42) hx hb dX13_passesDay_21 (by decide) (fun c2 => ?_) (fun c2 => ?_)
    · have hf := fp hf c2
      cases hf
      exact K _ _ _ _ e20 fr hp (lv_sub hl [0, 1] rfl)
    · have hf := fn hf c2
      refine lv_aload_n hx hb dX13_passesDay_24 rfl (lv_at hl 0 rfl) ?_
      refine lv_iload_n hx hb dX13_passesDay_25 rfl (lv_at hl 2 rfl) ?_
      refine lv_aload_n hx hb dX13_passesDay_26 rfl (lv_at hl 0 rfl) ?_
      refine lv_iload_n hx hb dX13_passesDay_27 rfl (lv_at hl 2 rfl) ?_
      refine lv_iconst (v := 2) hx hb dX13_passesDay_28 (by decide) ?_
      obtain ⟨r3, hc, hf⟩ := fb hf
      refine x_i hp (y_V (As := [.int x2, .int 2]) (rest := [.int x2, .ref (adr E 20 0)]) cx hp hl (c_X13_of l hN hT e20 hc) (cw_X13_98 cx (mc := 0) (ms := 0) rfl rfl ⟨by decide, by decide⟩) (rC_X13 hN cx hp) rfl rfl (Nat.le_of_ble_eq_true rfl) dX13_passesDay_29 ⟨Nat.zero_le _, Nat.zero_le _⟩) (fun r_c u_c H locs hq hp => ?_)
      obtain ⟨rfl, rfl⟩ := hq
      obtain ⟨r4, ρ5, hc, hf⟩ := fb2 hf
      refine x_i hp (y_V (As := [.int x2, .int r3]) (rest := []) cx hp hl (c_X13_deposits l hN hT e20 hc) (cw_X13_161 cx (mc := 0) (ms := 0) rfl rfl ⟨by decide, by decide⟩) (rC_X13 hN cx hp) rfl rfl (Nat.le_of_ble_eq_true rfl) dX13_passesDay_32 ⟨Nat.zero_le _, Nat.zero_le _⟩) (fun r_c u_c H locs hq hp => ?_)
      obtain ⟨rfl, e_0, n_u⟩ := hq
      have e20 := e_0
      have fr : ∀ q, q ≠ 20 → u_c q = σ q := fun q h0 => (n_u q h0).trans (fr q h0)
      obtain ⟨u, rfl⟩ : ∃ z, u_c = z := ⟨_, rfl⟩
      refine lv_pop hx hb dX13_passesDay_35 rfl ?_
      refine lv_iinc (v := (x2 + 1)) (lv' := [(2, .int (x2 + 1)), (0, .ref (adr E 20 0)), (1, .int x1)]) hx hb dX13_passesDay_36 hl (k := 2) rfl rfl (by decide) rfl (fun ls hl => ?_)
      refine lv_goto (tgt := 14) hx hb dX13_passesDay_39 (by decide) ?_
      exact ih  hf e20 fr hp (lv_sub hl [1, 2, 0] rfl)
set_option maxRecDepth 100000 in
set_option maxHeartbeats 4000000 in
theorem L_X13_passesDay_44 {p : Program} {e : Env} {s : State} {m : MethodId} {args : Array Value} {below : List Frame} {meth : Method} {c : Code} (l : Launch) {E : Ev} (hN : 146 ≤ eN E) (hT : St E) {σ : SM} (cx : Cx E p s m meth c args RX13 cX13_passesDay 3 (some .int)) {rv : Int32} {ρ' : OM} : ∀ (n : Nat) {x2 : Int32} {x1 : Int32} {ρ : OM}, f_X13_passesDay_44  n x2 x1 ρ = some (rv, ρ') → ∀ {u : SM} {H : Heap} {locs : List Loc} {ls : Array Slot}, u 20 = ρ → (∀ q, q ≠ 20 → u q = σ q) → Hp E u s H locs → lv_has ls 3 [(0, .ref (adr E 20 0)), (1, .int x1), (2, .int x2)] → W p l e rm_X13_passesDay s m args below meth c H locs 0 0 (MQ below (va_Qi (fun r u => rv = r ∧ u 20 = ρ' ∧ ∀ q, q ≠ 20 → u q = σ q) (fun u t => Wu E u t) (eA E)) args s 0 0 (eA E)) (F0 m 44 ls []) := by
  have hx := cx.1.1
  have hb := cx.1.2.1
  intro n
  induction n with
  | zero =>
    intro x2 x1 ρ hf
    exact absurd hf (by simp [f_X13_passesDay_44])
  | succ n ih =>
    intro x2 x1 ρ hf u H locs ls e20 fr hp hl
    rw [f_X13_passesDay_44] at hf
    refine lv_iload_n hx hb dX13_passesDay_44 rfl (lv_at hl 2 rfl) ?_
    refine lv_aload_n hx hb dX13_passesDay_45 rfl (lv_at hl 0 rfl) ?_
    refine gF_X13_7 rfl hN cx hp dX13_passesDay_46 ?_
    refine lv_iconst (v := 0) hx hb dX13_passesDay_49 (by decide) ?_
    obtain ⟨g_i, hf⟩ := fg hf
    refine lA_X13_1 e20 hN cx hp g_i dX13_passesDay_50 ?_
    refine lv_icmp_ge (tgt := 76) hx hb dX13_passesDay_51 (by decide) (fun c7 => ?_) (fun c7 => ?_)
    · have hf := fp hf c7
      refine lv_iload_n hx hb dX13_passesDay_76 rfl (lv_at hl 1 rfl) ?_
      cases hf
      exact r_i cx hp ⟨rfl, e20, fr⟩ dX13_passesDay_77
    · have hf := fn hf c7
      refine lv_iload_n hx hb dX13_passesDay_54 rfl (lv_at hl 1 rfl) ?_
      refine lv_aload_n hx hb dX13_passesDay_55 rfl (lv_at hl 0 rfl) ?_
      refine lv_iload_n hx hb dX13_passesDay_56 rfl (lv_at hl 2 rfl) ?_
      obtain ⟨r8, ρ9, hc, hf⟩ := fb2 hf
      refine x_i hp (y_V (As := [.int x2]) (rest := [.int x1]) cx hp hl (c_X13_isEvicted l hN hT e20 hc) (cw_X13_164 cx (mc := 0) (ms := 0) rfl rfl ⟨by decide, by decide⟩) (rC_X13 hN cx hp) rfl rfl (Nat.le_of_ble_eq_true rfl) dX13_passesDay_57 ⟨Nat.zero_le _, Nat.zero_le _⟩) (fun r_c u_c H locs hq hp => ?_)
      obtain ⟨rfl, e_0, n_u⟩ := hq
      have e20 := e_0
      have fr : ∀ q, q ≠ 20 → u_c q = σ q := fun q h0 => (n_u q h0).trans (fr q h0)
      obtain ⟨u, rfl⟩ : ∃ z, u_c = z := ⟨_, rfl⟩
      refine lv_if_eq (tgt := 67) hx hb dX13_passesDay_60 (by decide) (fun c10 => ?_) (fun c10 => ?_)
      · have hf := fp hf c10
        refine lv_iconst (v := 0) hx hb dX13_passesDay_67 (by decide) ?_
        refine lv_iadd hx hb dX13_passesDay_68 ?_
        obtain ⟨i11, x_e, hf⟩ := fl hf
        refine lv_nm x_e ?_
        refine lv_istore_n (lv' := [(1, .int i11), (0, .ref (adr E 20 0)), (2, .int x2)]) hx hb dX13_passesDay_69 rfl hl (by decide) rfl (fun ls hl => ?_)
        refine lv_iinc (v := (x2 + 1)) (lv' := [(2, .int (x2 + 1)), (1, .int i11), (0, .ref (adr E 20 0))]) hx hb dX13_passesDay_70 hl (k := 2) rfl rfl (by decide) rfl (fun ls hl => ?_)
        refine lv_goto (tgt := 44) hx hb dX13_passesDay_73 (by decide) ?_
        exact ih  hf e20 fr hp (lv_sub hl [2, 1, 0] rfl)
      · have hf := fn hf c10
        refine lv_iconst (v := 1) hx hb dX13_passesDay_63 (by decide) ?_
        refine lv_goto (tgt := 68) hx hb dX13_passesDay_64 (by decide) ?_
        refine lv_iadd hx hb dX13_passesDay_68 ?_
        obtain ⟨i12, x_e, hf⟩ := fl hf
        refine lv_nm x_e ?_
        refine lv_istore_n (lv' := [(1, .int i12), (0, .ref (adr E 20 0)), (2, .int x2)]) hx hb dX13_passesDay_69 rfl hl (by decide) rfl (fun ls hl => ?_)
        refine lv_iinc (v := (x2 + 1)) (lv' := [(2, .int (x2 + 1)), (1, .int i12), (0, .ref (adr E 20 0))]) hx hb dX13_passesDay_70 hl (k := 2) rfl rfl (by decide) rfl (fun ls hl => ?_)
        refine lv_goto (tgt := 44) hx hb dX13_passesDay_73 (by decide) ?_
        exact ih  hf e20 fr hp (lv_sub hl [2, 1, 0] rfl)
set_option maxRecDepth 100000 in
set_option maxHeartbeats 4000000 in
theorem c_X13_passesDay (l : Launch) {E : Ev} (hN : 146 ≤ eN E) (hT : St E) {σ : SM} {ρ : OM} (e20 : σ 20 = ρ)  {rv : Int32} {ρ' : OM} (hf : f_X13_passesDay ρ = some (rv, ρ')) : Met l yX13_passesDay (wC yX13_passesDay cX13_passesDay 3 (some .int)) rm_X13_passesDay (va_Pc [.ref (adr E 20 0)] (Wu E σ)) (va_Qi (fun r u => rv = r ∧ u 20 = ρ' ∧ ∀ q, q ≠ 20 → u q = σ q) (fun u t => Wu E u t) (eA E)) 0 0 (eA E) := by
  refine g_entry (lv := [(0, .ref (adr E 20 0))]) (by decide) (Nat.le_of_ble_eq_true rfl) rfl ?_
  intro p e s m below meth c cx hp ls hl
  have hx := cx.1.1
  have hb := cx.1.2.1
  have fr : ∀ q, q ≠ 20 → σ q = σ q := fun _ _ => rfl
  unfold f_X13_passesDay at hf
  refine lv_aload_n hx hb dX13_passesDay_0 rfl (lv_at hl 0 rfl) ?_
  refine gF_X13_7 rfl hN cx hp dX13_passesDay_1 ?_
  refine lv_iconst (v := 2) hx hb dX13_passesDay_4 (by decide) ?_
  refine lv_dup2_11 hx hb dX13_passesDay_5 rfl rfl ?_
  obtain ⟨g_i, hf⟩ := fg hf
  refine lA_X13_1 e20 hN cx hp g_i dX13_passesDay_6 ?_
  refine lv_iconst (v := 1) hx hb dX13_passesDay_7 (by decide) ?_
  refine lv_iadd hx hb dX13_passesDay_8 ?_
  obtain ⟨g_i, hf⟩ := fg hf
  obtain ⟨ρ1, e_l, hf⟩ := fl hf
  refine sA_X13_1 e20 hN cx hp g_i dX13_passesDay_9 (fun u H locs e_u n_u hp => ?_)
  have e20 := e_u.trans e_l
  have fr : ∀ q, q ≠ 20 → u q = σ q := fun q h0 => (n_u q h0).trans (fr q h0)
  refine lv_iconst (v := 0) hx hb dX13_passesDay_10 (by decide) ?_
  refine lv_istore_n (lv' := [(1, .int 0), (0, .ref (adr E 20 0))]) hx hb dX13_passesDay_11 rfl hl (by decide) rfl (fun ls hl => ?_)
  refine lv_iconst (v := 0) hx hb dX13_passesDay_12 (by decide) ?_
  refine lv_istore_n (lv' := [(2, .int 0), (1, .int 0), (0, .ref (adr E 20 0))]) hx hb dX13_passesDay_13 rfl hl (by decide) rfl (fun ls hl => ?_)
  obtain ⟨ρ6, hc, hf⟩ := fb hf
  refine L_X13_passesDay_14 l hN hT cx  (fun u H locs ls e20 fr hp hl => ?_) _ hc e20 fr hp (lv_sub hl [2, 1, 0] rfl)
  refine lv_iconst (v := 0) hx hb dX13_passesDay_42 (by decide) ?_
  refine lv_istore_n (lv' := [(2, .int 0), (0, .ref (adr E 20 0)), (1, .int 0)]) hx hb dX13_passesDay_43 rfl hl (by decide) rfl (fun ls hl => ?_)
  exact L_X13_passesDay_44 l hN hT cx  _ hf e20 fr hp (lv_sub hl [1, 2, 0] rfl)
abbrev rm_X13_passes : Room := { frames := 3, cells := 0, slots := 0, locals := 68 }
set_option maxRecDepth 100000 in
set_option maxHeartbeats 4000000 in
theorem L_X13_passes_4 {p : Program} {e : Env} {s : State} {m : MethodId} {args : Array Value} {below : List Frame} {meth : Method} {c : Code} (l : Launch) {E : Ev} (hN : 146 ≤ eN E) (hT : St E) {σ : SM} (cx : Cx E p s m meth c args RX13 cX13_passes 4 (some .int)) {x1 : Int32} {rv : Int32} {ρ' : OM} : ∀ (n : Nat) {x3 : Int32} {x2 : Int32} {ρ : OM}, f_X13_passes_4 x1 n x3 x2 ρ = some (rv, ρ') → ∀ {u : SM} {H : Heap} {locs : List Loc} {ls : Array Slot}, u 20 = ρ → (∀ q, q ≠ 20 → u q = σ q) → Hp E u s H locs → lv_has ls 4 [(0, .ref (adr E 20 0)), (1, .int x1), (2, .int x2), (3, .int x3)] → W p l e rm_X13_passes s m args below meth c H locs 0 0 (MQ below (va_Qi (fun r u => rv = r ∧ u 20 = ρ' ∧ ∀ q, q ≠ 20 → u q = σ q) (fun u t => Wu E u t) (eA E)) args s 0 0 (eA E)) (F0 m 4 ls []) := by
  have hx := cx.1.1
  have hb := cx.1.2.1
  intro n
  induction n with
  | zero =>
    intro x3 x2 ρ hf
    exact absurd hf (by simp [f_X13_passes_4])
  | succ n ih =>
    intro x3 x2 ρ hf u H locs ls e20 fr hp hl
    rw [f_X13_passes_4] at hf
    refine lv_iload_n hx hb dX13_passes_4 rfl (lv_at hl 3 rfl) ?_
    refine lv_iload_n hx hb dX13_passes_5 rfl (lv_at hl 1 rfl) ?_
    refine lv_icmp_ge (tgt := 22) hx hb dX13_passes_6 (by decide) (fun c1 => ?_) (fun c1 => ?_)
    · have hf := fp hf c1
      refine lv_iload_n hx hb dX13_passes_22 rfl (lv_at hl 2 rfl) ?_
      cases hf
      exact r_i cx hp ⟨rfl, e20, fr⟩ dX13_passes_23
    · have hf := fn hf c1
      refine lv_iload_n hx hb dX13_passes_9 rfl (lv_at hl 2 rfl) ?_
      refine lv_aload_n hx hb dX13_passes_10 rfl (lv_at hl 0 rfl) ?_
      obtain ⟨r2, ρ3, hc, hf⟩ := fb2 hf
      refine x_i hp (y_V (As := []) (rest := [.int x2]) cx hp hl (c_X13_passesDay l hN hT e20 hc) (cw_X13_167 cx (mc := 0) (ms := 0) rfl rfl ⟨by decide, by decide⟩) (rC_X13 hN cx hp) rfl rfl (Nat.le_of_ble_eq_true rfl) dX13_passes_11 ⟨Nat.zero_le _, Nat.zero_le _⟩) (fun r_c u_c H locs hq hp => ?_)
      obtain ⟨rfl, e_0, n_u⟩ := hq
      have e20 := e_0
      have fr : ∀ q, q ≠ 20 → u_c q = σ q := fun q h0 => (n_u q h0).trans (fr q h0)
      obtain ⟨u, rfl⟩ : ∃ z, u_c = z := ⟨_, rfl⟩
      refine lv_iadd hx hb dX13_passes_14 ?_
      obtain ⟨i4, x_e, hf⟩ := fl hf
      refine lv_nm x_e ?_
      refine lv_istore_n (lv' := [(2, .int i4), (0, .ref (adr E 20 0)), (1, .int x1), (3, .int x3)]) hx hb dX13_passes_15 rfl hl (by decide) rfl (fun ls hl => ?_)
      refine lv_iinc (v := (x3 + 1)) (lv' := [(3, .int (x3 + 1)), (2, .int i4), (0, .ref (adr E 20 0)), (1, .int x1)]) hx hb dX13_passes_16 hl (k := 3) rfl rfl (by decide) rfl (fun ls hl => ?_)
      refine lv_goto (tgt := 4) hx hb dX13_passes_19 (by decide) ?_
      exact ih  hf e20 fr hp (lv_sub hl [2, 3, 1, 0] rfl)
set_option maxRecDepth 100000 in
set_option maxHeartbeats 4000000 in
theorem c_X13_passes (l : Launch) {E : Ev} (hN : 146 ≤ eN E) (hT : St E) {σ : SM} {ρ : OM} (e20 : σ 20 = ρ) {p1 : Int32} {rv : Int32} {ρ' : OM} (hf : f_X13_passes p1 ρ = some (rv, ρ')) : Met l yX13_passes (wC yX13_passes cX13_passes 4 (some .int)) rm_X13_passes (va_Pc [.ref (adr E 20 0), .int p1] (Wu E σ)) (va_Qi (fun r u => rv = r ∧ u 20 = ρ' ∧ ∀ q, q ≠ 20 → u q = σ q) (fun u t => Wu E u t) (eA E)) 0 0 (eA E) := by
  refine g_entry (lv := [(0, .ref (adr E 20 0)), (1, .int p1)]) (by decide) (Nat.le_of_ble_eq_true rfl) rfl ?_
  intro p e s m below meth c cx hp ls hl
  have hx := cx.1.1
  have hb := cx.1.2.1
  have fr : ∀ q, q ≠ 20 → σ q = σ q := fun _ _ => rfl
  unfold f_X13_passes at hf
  refine lv_iconst (v := 0) hx hb dX13_passes_0 (by decide) ?_
  refine lv_istore_n (lv' := [(2, .int 0), (0, .ref (adr E 20 0)), (1, .int p1)]) hx hb dX13_passes_1 rfl hl (by decide) rfl (fun ls hl => ?_)
  refine lv_iconst (v := 0) hx hb dX13_passes_2 (by decide) ?_
  refine lv_istore_n (lv' := [(3, .int 0), (2, .int 0), (0, .ref (adr E 20 0)), (1, .int p1)]) hx hb dX13_passes_3 rfl hl (by decide) rfl (fun ls hl => ?_)
  exact L_X13_passes_4 l hN hT cx  _ hf e20 fr hp (lv_sub hl [2, 3, 1, 0] rfl)
abbrev rm_X13_remembers : Room := { frames := 0, cells := 0, slots := 0, locals := 0 }
set_option maxRecDepth 100000 in
set_option maxHeartbeats 4000000 in
theorem L_X13_remembers_52 {p : Program} {e : Env} {s : State} {m : MethodId} {args : Array Value} {below : List Frame} {meth : Method} {c : Code} (l : Launch) {E : Ev} (hN : 146 ≤ eN E) (hT : St E) {σ : SM} (cx : Cx E p s m meth c args RX13 cX13_remembers 2 none) {ρ' : OM} : ∀ (n : Nat) {x1 : Int32} {ρ : OM}, f_X13_remembers_52  n x1 ρ = some ρ' → ∀ {u : SM} {H : Heap} {locs : List Loc} {ls : Array Slot}, u 20 = ρ → (∀ q, q ≠ 20 → u q = σ q) → Hp E u s H locs → lv_has ls 2 [(0, .ref (adr E 20 0)), (1, .int x1)] → W p l e rm_X13_remembers s m args below meth c H locs 0 0 (MQ below (va_Qv (fun u => u 20 = ρ' ∧ ∀ q, q ≠ 20 → u q = σ q) (fun u t => Wu E u t) (eA E)) args s 0 0 (eA E)) (F0 m 52 ls []) := by
  have hx := cx.1.1
  have hb := cx.1.2.1
  intro n
  induction n with
  | zero =>
    intro x1 ρ hf
    exact absurd hf (by simp [f_X13_remembers_52])
  | succ n ih =>
    intro x1 ρ hf u H locs ls e20 fr hp hl
    rw [f_X13_remembers_52] at hf
    refine lv_iload_n hx hb dX13_remembers_52 rfl (lv_at hl 1 rfl) ?_
    refine lv_sipush (v := 137) hx hb dX13_remembers_53 (by decide) ?_
    refine lv_icmp_ge (tgt := 86) hx hb dX13_remembers_56 (by decide) (fun c2 => ?_) (fun c2 => ?_)
    · have hf := fp hf c2
      refine lv_aload_n hx hb dX13_remembers_86 rfl (lv_at hl 0 rfl) ?_
      refine lv_dup hx hb dX13_remembers_87 rfl ?_
      refine gF_X13_170 e20 hN cx hp dX13_remembers_88 ?_
      refine lv_iconst (v := 1) hx hb dX13_remembers_91 (by decide) ?_
      refine lv_iadd hx hb dX13_remembers_92 ?_
      obtain ⟨ρ3, e_l, hf⟩ := fl hf
      refine pF_X13_170 e20 hN cx hp dX13_remembers_93 (fun u H locs e_u n_u hp => ?_)
      have e20 := e_u.trans e_l
      have fr : ∀ q, q ≠ 20 → u q = σ q := fun q h0 => (n_u q h0).trans (fr q h0)
      cases hf
      exact r_v cx hp ⟨e20, fr⟩ dX13_remembers_96
    · have hf := fn hf c2
      refine lv_aload_n hx hb dX13_remembers_59 rfl (lv_at hl 0 rfl) ?_
      refine gF_X13_19 rfl hN cx hp dX13_remembers_60 ?_
      refine lv_sipush (v := 137) hx hb dX13_remembers_63 (by decide) ?_
      refine lv_aload_n hx hb dX13_remembers_66 rfl (lv_at hl 0 rfl) ?_
      refine gF_X13_170 e20 hN cx hp dX13_remembers_67 ?_
      refine lv_imul hx hb dX13_remembers_70 ?_
      refine lv_iload_n hx hb dX13_remembers_71 rfl (lv_at hl 1 rfl) ?_
      refine lv_iadd hx hb dX13_remembers_72 ?_
      refine lv_aload_n hx hb dX13_remembers_73 rfl (lv_at hl 0 rfl) ?_
      refine gF_X13_7 rfl hN cx hp dX13_remembers_74 ?_
      refine lv_iload_n hx hb dX13_remembers_77 rfl (lv_at hl 1 rfl) ?_
      obtain ⟨g_i, hf⟩ := fg hf
      refine lA_X13_1 e20 hN cx hp g_i dX13_remembers_78 ?_
      obtain ⟨g_i, hf⟩ := fg hf
      obtain ⟨ρ4, e_l, hf⟩ := fl hf
      refine sA_X13_4 e20 hN cx hp g_i dX13_remembers_79 (fun u H locs e_u n_u hp => ?_)
      have e20 := e_u.trans e_l
      have fr : ∀ q, q ≠ 20 → u q = σ q := fun q h0 => (n_u q h0).trans (fr q h0)
      refine lv_iinc (v := (x1 + 1)) (lv' := [(1, .int (x1 + 1)), (0, .ref (adr E 20 0))]) hx hb dX13_remembers_80 hl (k := 1) rfl rfl (by decide) rfl (fun ls hl => ?_)
      refine lv_goto (tgt := 52) hx hb dX13_remembers_83 (by decide) ?_
      exact ih  hf e20 fr hp (lv_sub hl [1, 0] rfl)
set_option maxRecDepth 100000 in
set_option maxHeartbeats 4000000 in
theorem L_X13_remembers_11 {p : Program} {e : Env} {s : State} {m : MethodId} {args : Array Value} {below : List Frame} {meth : Method} {c : Code} (l : Launch) {E : Ev} (hN : 146 ≤ eN E) (hT : St E) {σ : SM} {Q : State → Prop} (cx : Cx E p s m meth c args RX13 cX13_remembers 2 none) {ρ' : OM} (K : ∀ (u : SM) (H : Heap) (locs : List Loc) (ls : Array Slot), u 20 = ρ' → (∀ q, q ≠ 20 → u q = σ q) → Hp E u s H locs → lv_has ls 2 [(0, .ref (adr E 20 0))] → W p l e rm_X13_remembers s m args below meth c H locs 0 0 Q (F0 m 40 ls [])) : ∀ (n : Nat) {x1 : Int32} {ρ : OM}, f_X13_remembers_11  n x1 ρ = some ρ' → ∀ {u : SM} {H : Heap} {locs : List Loc} {ls : Array Slot}, u 20 = ρ → (∀ q, q ≠ 20 → u q = σ q) → Hp E u s H locs → lv_has ls 2 [(0, .ref (adr E 20 0)), (1, .int x1)] → W p l e rm_X13_remembers s m args below meth c H locs 0 0 Q (F0 m 11 ls []) := by
  have hx := cx.1.1
  have hb := cx.1.2.1
  intro n
  induction n with
  | zero =>
    intro x1 ρ hf
    exact absurd hf (by simp [f_X13_remembers_11])
  | succ n ih =>
    intro x1 ρ hf u H locs ls e20 fr hp hl
    rw [f_X13_remembers_11] at hf
    refine lv_iload_n hx hb dX13_remembers_11 rfl (lv_at hl 1 rfl) ?_
    refine lv_sipush (v := 959) hx hb dX13_remembers_12 (by decide) ?_
    refine lv_icmp_ge (tgt := 40) hx hb dX13_remembers_15 (by decide) (fun c5 => ?_) (fun c5 => ?_)
    · have hf := fp hf c5
      cases hf
      exact K _ _ _ _ e20 fr hp (lv_sub hl [0] rfl)
    · have hf := fn hf c5
      refine lv_aload_n hx hb dX13_remembers_18 rfl (lv_at hl 0 rfl) ?_
      refine gF_X13_19 rfl hN cx hp dX13_remembers_19 ?_
      refine lv_iload_n hx hb dX13_remembers_22 rfl (lv_at hl 1 rfl) ?_
      refine lv_aload_n hx hb dX13_remembers_23 rfl (lv_at hl 0 rfl) ?_
      refine gF_X13_19 rfl hN cx hp dX13_remembers_24 ?_
      refine lv_iload_n hx hb dX13_remembers_27 rfl (lv_at hl 1 rfl) ?_
      refine lv_sipush (v := 137) hx hb dX13_remembers_28 (by decide) ?_
      refine lv_iadd hx hb dX13_remembers_31 ?_
      obtain ⟨g_i, hf⟩ := fg hf
      refine lA_X13_4 e20 hN cx hp g_i dX13_remembers_32 ?_
      obtain ⟨g_i, hf⟩ := fg hf
      obtain ⟨ρ6, e_l, hf⟩ := fl hf
      refine sA_X13_4 e20 hN cx hp g_i dX13_remembers_33 (fun u H locs e_u n_u hp => ?_)
      have e20 := e_u.trans e_l
      have fr : ∀ q, q ≠ 20 → u q = σ q := fun q h0 => (n_u q h0).trans (fr q h0)
      refine lv_iinc (v := (x1 + 1)) (lv' := [(1, .int (x1 + 1)), (0, .ref (adr E 20 0))]) hx hb dX13_remembers_34 hl (k := 1) rfl rfl (by decide) rfl (fun ls hl => ?_)
      refine lv_goto (tgt := 11) hx hb dX13_remembers_37 (by decide) ?_
      exact ih  hf e20 fr hp (lv_sub hl [1, 0] rfl)
set_option maxRecDepth 100000 in
set_option maxHeartbeats 4000000 in
theorem c_X13_remembers (l : Launch) {E : Ev} (hN : 146 ≤ eN E) (hT : St E) {σ : SM} {ρ : OM} (e20 : σ 20 = ρ)  {ρ' : OM} (hf : f_X13_remembers ρ = some ρ') : Met l yX13_remembers (wC yX13_remembers cX13_remembers 2 none) rm_X13_remembers (va_Pc [.ref (adr E 20 0)] (Wu E σ)) (va_Qv (fun u => u 20 = ρ' ∧ ∀ q, q ≠ 20 → u q = σ q) (fun u t => Wu E u t) (eA E)) 0 0 (eA E) := by
  refine g_entry (lv := [(0, .ref (adr E 20 0))]) (by decide) (Nat.le_of_ble_eq_true rfl) rfl ?_
  intro p e s m below meth c cx hp ls hl
  have hx := cx.1.1
  have hb := cx.1.2.1
  have fr : ∀ q, q ≠ 20 → σ q = σ q := fun _ _ => rfl
  unfold f_X13_remembers at hf
  refine lv_aload_n hx hb dX13_remembers_0 rfl (lv_at hl 0 rfl) ?_
  refine gF_X13_170 e20 hN cx hp dX13_remembers_1 ?_
  refine lv_bipush (v := 8) hx hb dX13_remembers_4 (by decide) ?_
  refine lv_icmp_ne (tgt := 50) hx hb dX13_remembers_6 (by decide) (fun c1 => ?_) (fun c1 => ?_)
  · have hf := fn hf c1
    refine lv_iconst (v := 0) hx hb dX13_remembers_50 (by decide) ?_
    refine lv_istore_n (lv' := [(1, .int 0), (0, .ref (adr E 20 0))]) hx hb dX13_remembers_51 rfl hl (by decide) rfl (fun ls hl => ?_)
    exact L_X13_remembers_52 l hN hT cx  _ hf e20 fr hp (lv_sub hl [1, 0] rfl)
  · have hf := fp hf c1
    refine lv_iconst (v := 0) hx hb dX13_remembers_9 (by decide) ?_
    refine lv_istore_n (lv' := [(1, .int 0), (0, .ref (adr E 20 0))]) hx hb dX13_remembers_10 rfl hl (by decide) rfl (fun ls hl => ?_)
    obtain ⟨ρ7, hc, hf⟩ := fb hf
    refine L_X13_remembers_11 l hN hT cx  (fun u H locs ls e20 fr hp hl => ?_) _ hc e20 fr hp (lv_sub hl [1, 0] rfl)
    refine lv_aload_n hx hb dX13_remembers_40 rfl (lv_at hl 0 rfl) ?_
    refine lv_dup hx hb dX13_remembers_41 rfl ?_
    refine gF_X13_170 e20 hN cx hp dX13_remembers_42 ?_
    refine lv_iconst (v := 1) hx hb dX13_remembers_45 (by decide) ?_
    refine lv_isub hx hb dX13_remembers_46 ?_
    obtain ⟨ρ8, e_l, hf⟩ := fl hf
    refine pF_X13_170 e20 hN cx hp dX13_remembers_47 (fun u H locs e_u n_u hp => ?_)
    have e20 := e_u.trans e_l
    have fr : ∀ q, q ≠ 20 → u q = σ q := fun q h0 => (n_u q h0).trans (fr q h0)
    refine lv_iconst (v := 0) hx hb dX13_remembers_50 (by decide) ?_
    refine lv_istore_n (lv' := [(1, .int 0), (0, .ref (adr E 20 0))]) hx hb dX13_remembers_51 rfl hl (by decide) rfl (fun ls hl => ?_)
    exact L_X13_remembers_52 l hN hT cx  _ hf e20 fr hp (lv_sub hl [1, 0] rfl)
abbrev rm_X13_copies_1_2 : Room := { frames := 0, cells := 0, slots := 0, locals := 0 }
set_option maxRecDepth 100000 in
set_option maxHeartbeats 4000000 in
theorem L_X13_copies_1_2_2 {p : Program} {e : Env} {s : State} {m : MethodId} {args : Array Value} {below : List Frame} {meth : Method} {c : Code} (l : Launch) {E : Ev} (hN : 146 ≤ eN E) (hT : St E) {σ : SM} (cx : Cx E p s m meth c args RX13 cX13_copies 3 none) {ρ' : OM} : ∀ (n : Nat) {x2 : Int32} {ρ : OM}, f_X13_copies_1_2_2  n x2 ρ = some ρ' → ∀ {u : SM} {H : Heap} {locs : List Loc} {ls : Array Slot}, u 20 = ρ → (∀ q, q ≠ 20 → u q = σ q) → Hp E u s H locs → lv_has ls 3 [(0, .ref (adr E 20 1)), (1, .ref (adr E 20 2)), (2, .int x2)] → W p l e rm_X13_copies_1_2 s m args below meth c H locs 0 0 (MQ below (va_Qv (fun u => u 20 = ρ' ∧ ∀ q, q ≠ 20 → u q = σ q) (fun u t => Wu E u t) (eA E)) args s 0 0 (eA E)) (F0 m 2 ls []) := by
  have hx := cx.1.1
  have hb := cx.1.2.1
  intro n
  induction n with
  | zero =>
    intro x2 ρ hf
    exact absurd hf (by simp [f_X13_copies_1_2_2])
  | succ n ih =>
    intro x2 ρ hf u H locs ls e20 fr hp hl
    rw [f_X13_copies_1_2_2] at hf
    refine lv_iload_n hx hb dX13_copies_2 rfl (lv_at hl 2 rfl) ?_
    refine lv_sipush (v := 137) hx hb dX13_copies_3 (by decide) ?_
    refine lv_icmp_ge (tgt := 21) hx hb dX13_copies_6 (by decide) (fun c1 => ?_) (fun c1 => ?_)
    · have hf := fp hf c1
      cases hf
      exact r_v cx hp ⟨e20, fr⟩ dX13_copies_21
    · have hf := fn hf c1
      refine lv_aload_n hx hb dX13_copies_9 rfl (lv_at hl 1 rfl) ?_
      refine lv_iload_n hx hb dX13_copies_10 rfl (lv_at hl 2 rfl) ?_
      refine lv_aload_n hx hb dX13_copies_11 rfl (lv_at hl 0 rfl) ?_
      refine lv_iload_n hx hb dX13_copies_12 rfl (lv_at hl 2 rfl) ?_
      obtain ⟨g_i, hf⟩ := fg hf
      refine lA_X13_1 e20 hN cx hp g_i dX13_copies_13 ?_
      obtain ⟨g_i, hf⟩ := fg hf
      obtain ⟨ρ2, e_l, hf⟩ := fl hf
      refine sA_X13_2 e20 hN cx hp g_i dX13_copies_14 (fun u H locs e_u n_u hp => ?_)
      have e20 := e_u.trans e_l
      have fr : ∀ q, q ≠ 20 → u q = σ q := fun q h0 => (n_u q h0).trans (fr q h0)
      refine lv_iinc (v := (x2 + 1)) (lv' := [(2, .int (x2 + 1)), (0, .ref (adr E 20 1)), (1, .ref (adr E 20 2))]) hx hb dX13_copies_15 hl (k := 2) rfl rfl (by decide) rfl (fun ls hl => ?_)
      refine lv_goto (tgt := 2) hx hb dX13_copies_18 (by decide) ?_
      exact ih  hf e20 fr hp (lv_sub hl [1, 2, 0] rfl)
set_option maxRecDepth 100000 in
set_option maxHeartbeats 4000000 in
theorem c_X13_copies_1_2 (l : Launch) {E : Ev} (hN : 146 ≤ eN E) (hT : St E) {σ : SM} {ρ : OM} (e20 : σ 20 = ρ)  {ρ' : OM} (hf : f_X13_copies_1_2 ρ = some ρ') : Met l yX13_copies (wC yX13_copies cX13_copies 3 none) rm_X13_copies_1_2 (va_Pc [.ref (adr E 20 1), .ref (adr E 20 2)] (Wu E σ)) (va_Qv (fun u => u 20 = ρ' ∧ ∀ q, q ≠ 20 → u q = σ q) (fun u t => Wu E u t) (eA E)) 0 0 (eA E) := by
  refine g_entry (lv := [(0, .ref (adr E 20 1)), (1, .ref (adr E 20 2))]) (by decide) (Nat.le_of_ble_eq_true rfl) rfl ?_
  intro p e s m below meth c cx hp ls hl
  have hx := cx.1.1
  have hb := cx.1.2.1
  have fr : ∀ q, q ≠ 20 → σ q = σ q := fun _ _ => rfl
  unfold f_X13_copies_1_2 at hf
  refine lv_iconst (v := 0) hx hb dX13_copies_0 (by decide) ?_
  refine lv_istore_n (lv' := [(2, .int 0), (0, .ref (adr E 20 1)), (1, .ref (adr E 20 2))]) hx hb dX13_copies_1 rfl hl (by decide) rfl (fun ls hl => ?_)
  exact L_X13_copies_1_2_2 l hN hT cx  _ hf e20 fr hp (lv_sub hl [1, 2, 0] rfl)
abbrev rm_X13_copies_2_1 : Room := { frames := 0, cells := 0, slots := 0, locals := 0 }
set_option maxRecDepth 100000 in
set_option maxHeartbeats 4000000 in
theorem L_X13_copies_2_1_2 {p : Program} {e : Env} {s : State} {m : MethodId} {args : Array Value} {below : List Frame} {meth : Method} {c : Code} (l : Launch) {E : Ev} (hN : 146 ≤ eN E) (hT : St E) {σ : SM} (cx : Cx E p s m meth c args RX13 cX13_copies 3 none) {ρ' : OM} : ∀ (n : Nat) {x2 : Int32} {ρ : OM}, f_X13_copies_2_1_2  n x2 ρ = some ρ' → ∀ {u : SM} {H : Heap} {locs : List Loc} {ls : Array Slot}, u 20 = ρ → (∀ q, q ≠ 20 → u q = σ q) → Hp E u s H locs → lv_has ls 3 [(0, .ref (adr E 20 2)), (1, .ref (adr E 20 1)), (2, .int x2)] → W p l e rm_X13_copies_2_1 s m args below meth c H locs 0 0 (MQ below (va_Qv (fun u => u 20 = ρ' ∧ ∀ q, q ≠ 20 → u q = σ q) (fun u t => Wu E u t) (eA E)) args s 0 0 (eA E)) (F0 m 2 ls []) := by
  have hx := cx.1.1
  have hb := cx.1.2.1
  intro n
  induction n with
  | zero =>
    intro x2 ρ hf
    exact absurd hf (by simp [f_X13_copies_2_1_2])
  | succ n ih =>
    intro x2 ρ hf u H locs ls e20 fr hp hl
    rw [f_X13_copies_2_1_2] at hf
    refine lv_iload_n hx hb dX13_copies_2 rfl (lv_at hl 2 rfl) ?_
    refine lv_sipush (v := 137) hx hb dX13_copies_3 (by decide) ?_
    refine lv_icmp_ge (tgt := 21) hx hb dX13_copies_6 (by decide) (fun c1 => ?_) (fun c1 => ?_)
    · have hf := fp hf c1
      cases hf
      exact r_v cx hp ⟨e20, fr⟩ dX13_copies_21
    · have hf := fn hf c1
      refine lv_aload_n hx hb dX13_copies_9 rfl (lv_at hl 1 rfl) ?_
      refine lv_iload_n hx hb dX13_copies_10 rfl (lv_at hl 2 rfl) ?_
      refine lv_aload_n hx hb dX13_copies_11 rfl (lv_at hl 0 rfl) ?_
      refine lv_iload_n hx hb dX13_copies_12 rfl (lv_at hl 2 rfl) ?_
      obtain ⟨g_i, hf⟩ := fg hf
      refine lA_X13_2 e20 hN cx hp g_i dX13_copies_13 ?_
      obtain ⟨g_i, hf⟩ := fg hf
      obtain ⟨ρ2, e_l, hf⟩ := fl hf
      refine sA_X13_1 e20 hN cx hp g_i dX13_copies_14 (fun u H locs e_u n_u hp => ?_)
      have e20 := e_u.trans e_l
      have fr : ∀ q, q ≠ 20 → u q = σ q := fun q h0 => (n_u q h0).trans (fr q h0)
      refine lv_iinc (v := (x2 + 1)) (lv' := [(2, .int (x2 + 1)), (0, .ref (adr E 20 2)), (1, .ref (adr E 20 1))]) hx hb dX13_copies_15 hl (k := 2) rfl rfl (by decide) rfl (fun ls hl => ?_)
      refine lv_goto (tgt := 2) hx hb dX13_copies_18 (by decide) ?_
      exact ih  hf e20 fr hp (lv_sub hl [1, 2, 0] rfl)
set_option maxRecDepth 100000 in
set_option maxHeartbeats 4000000 in
theorem c_X13_copies_2_1 (l : Launch) {E : Ev} (hN : 146 ≤ eN E) (hT : St E) {σ : SM} {ρ : OM} (e20 : σ 20 = ρ)  {ρ' : OM} (hf : f_X13_copies_2_1 ρ = some ρ') : Met l yX13_copies (wC yX13_copies cX13_copies 3 none) rm_X13_copies_2_1 (va_Pc [.ref (adr E 20 2), .ref (adr E 20 1)] (Wu E σ)) (va_Qv (fun u => u 20 = ρ' ∧ ∀ q, q ≠ 20 → u q = σ q) (fun u t => Wu E u t) (eA E)) 0 0 (eA E) := by
  refine g_entry (lv := [(0, .ref (adr E 20 2)), (1, .ref (adr E 20 1))]) (by decide) (Nat.le_of_ble_eq_true rfl) rfl ?_
  intro p e s m below meth c cx hp ls hl
  have hx := cx.1.1
  have hb := cx.1.2.1
  have fr : ∀ q, q ≠ 20 → σ q = σ q := fun _ _ => rfl
  unfold f_X13_copies_2_1 at hf
  refine lv_iconst (v := 0) hx hb dX13_copies_0 (by decide) ?_
  refine lv_istore_n (lv' := [(2, .int 0), (0, .ref (adr E 20 2)), (1, .ref (adr E 20 1))]) hx hb dX13_copies_1 rfl hl (by decide) rfl (fun ls hl => ?_)
  exact L_X13_copies_2_1_2 l hN hT cx  _ hf e20 fr hp (lv_sub hl [1, 2, 0] rfl)
abbrev rm_X13_copies_1_3 : Room := { frames := 0, cells := 0, slots := 0, locals := 0 }
set_option maxRecDepth 100000 in
set_option maxHeartbeats 4000000 in
theorem L_X13_copies_1_3_2 {p : Program} {e : Env} {s : State} {m : MethodId} {args : Array Value} {below : List Frame} {meth : Method} {c : Code} (l : Launch) {E : Ev} (hN : 146 ≤ eN E) (hT : St E) {σ : SM} (cx : Cx E p s m meth c args RX13 cX13_copies 3 none) {ρ' : OM} : ∀ (n : Nat) {x2 : Int32} {ρ : OM}, f_X13_copies_1_3_2  n x2 ρ = some ρ' → ∀ {u : SM} {H : Heap} {locs : List Loc} {ls : Array Slot}, u 20 = ρ → (∀ q, q ≠ 20 → u q = σ q) → Hp E u s H locs → lv_has ls 3 [(0, .ref (adr E 20 1)), (1, .ref (adr E 20 3)), (2, .int x2)] → W p l e rm_X13_copies_1_3 s m args below meth c H locs 0 0 (MQ below (va_Qv (fun u => u 20 = ρ' ∧ ∀ q, q ≠ 20 → u q = σ q) (fun u t => Wu E u t) (eA E)) args s 0 0 (eA E)) (F0 m 2 ls []) := by
  have hx := cx.1.1
  have hb := cx.1.2.1
  intro n
  induction n with
  | zero =>
    intro x2 ρ hf
    exact absurd hf (by simp [f_X13_copies_1_3_2])
  | succ n ih =>
    intro x2 ρ hf u H locs ls e20 fr hp hl
    rw [f_X13_copies_1_3_2] at hf
    refine lv_iload_n hx hb dX13_copies_2 rfl (lv_at hl 2 rfl) ?_
    refine lv_sipush (v := 137) hx hb dX13_copies_3 (by decide) ?_
    refine lv_icmp_ge (tgt := 21) hx hb dX13_copies_6 (by decide) (fun c1 => ?_) (fun c1 => ?_)
    · have hf := fp hf c1
      cases hf
      exact r_v cx hp ⟨e20, fr⟩ dX13_copies_21
    · have hf := fn hf c1
      refine lv_aload_n hx hb dX13_copies_9 rfl (lv_at hl 1 rfl) ?_
      refine lv_iload_n hx hb dX13_copies_10 rfl (lv_at hl 2 rfl) ?_
      refine lv_aload_n hx hb dX13_copies_11 rfl (lv_at hl 0 rfl) ?_
      refine lv_iload_n hx hb dX13_copies_12 rfl (lv_at hl 2 rfl) ?_
      obtain ⟨g_i, hf⟩ := fg hf
      refine lA_X13_1 e20 hN cx hp g_i dX13_copies_13 ?_
      obtain ⟨g_i, hf⟩ := fg hf
      obtain ⟨ρ2, e_l, hf⟩ := fl hf
      refine sA_X13_3 e20 hN cx hp g_i dX13_copies_14 (fun u H locs e_u n_u hp => ?_)
      have e20 := e_u.trans e_l
      have fr : ∀ q, q ≠ 20 → u q = σ q := fun q h0 => (n_u q h0).trans (fr q h0)
      refine lv_iinc (v := (x2 + 1)) (lv' := [(2, .int (x2 + 1)), (0, .ref (adr E 20 1)), (1, .ref (adr E 20 3))]) hx hb dX13_copies_15 hl (k := 2) rfl rfl (by decide) rfl (fun ls hl => ?_)
      refine lv_goto (tgt := 2) hx hb dX13_copies_18 (by decide) ?_
      exact ih  hf e20 fr hp (lv_sub hl [1, 2, 0] rfl)
set_option maxRecDepth 100000 in
set_option maxHeartbeats 4000000 in
theorem c_X13_copies_1_3 (l : Launch) {E : Ev} (hN : 146 ≤ eN E) (hT : St E) {σ : SM} {ρ : OM} (e20 : σ 20 = ρ)  {ρ' : OM} (hf : f_X13_copies_1_3 ρ = some ρ') : Met l yX13_copies (wC yX13_copies cX13_copies 3 none) rm_X13_copies_1_3 (va_Pc [.ref (adr E 20 1), .ref (adr E 20 3)] (Wu E σ)) (va_Qv (fun u => u 20 = ρ' ∧ ∀ q, q ≠ 20 → u q = σ q) (fun u t => Wu E u t) (eA E)) 0 0 (eA E) := by
  refine g_entry (lv := [(0, .ref (adr E 20 1)), (1, .ref (adr E 20 3))]) (by decide) (Nat.le_of_ble_eq_true rfl) rfl ?_
  intro p e s m below meth c cx hp ls hl
  have hx := cx.1.1
  have hb := cx.1.2.1
  have fr : ∀ q, q ≠ 20 → σ q = σ q := fun _ _ => rfl
  unfold f_X13_copies_1_3 at hf
  refine lv_iconst (v := 0) hx hb dX13_copies_0 (by decide) ?_
  refine lv_istore_n (lv' := [(2, .int 0), (0, .ref (adr E 20 1)), (1, .ref (adr E 20 3))]) hx hb dX13_copies_1 rfl hl (by decide) rfl (fun ls hl => ?_)
  exact L_X13_copies_1_3_2 l hN hT cx  _ hf e20 fr hp (lv_sub hl [1, 2, 0] rfl)
abbrev rm_X13_copies_3_1 : Room := { frames := 0, cells := 0, slots := 0, locals := 0 }
set_option maxRecDepth 100000 in
set_option maxHeartbeats 4000000 in
theorem L_X13_copies_3_1_2 {p : Program} {e : Env} {s : State} {m : MethodId} {args : Array Value} {below : List Frame} {meth : Method} {c : Code} (l : Launch) {E : Ev} (hN : 146 ≤ eN E) (hT : St E) {σ : SM} (cx : Cx E p s m meth c args RX13 cX13_copies 3 none) {ρ' : OM} : ∀ (n : Nat) {x2 : Int32} {ρ : OM}, f_X13_copies_3_1_2  n x2 ρ = some ρ' → ∀ {u : SM} {H : Heap} {locs : List Loc} {ls : Array Slot}, u 20 = ρ → (∀ q, q ≠ 20 → u q = σ q) → Hp E u s H locs → lv_has ls 3 [(0, .ref (adr E 20 3)), (1, .ref (adr E 20 1)), (2, .int x2)] → W p l e rm_X13_copies_3_1 s m args below meth c H locs 0 0 (MQ below (va_Qv (fun u => u 20 = ρ' ∧ ∀ q, q ≠ 20 → u q = σ q) (fun u t => Wu E u t) (eA E)) args s 0 0 (eA E)) (F0 m 2 ls []) := by
  have hx := cx.1.1
  have hb := cx.1.2.1
  intro n
  induction n with
  | zero =>
    intro x2 ρ hf
    exact absurd hf (by simp [f_X13_copies_3_1_2])
  | succ n ih =>
    intro x2 ρ hf u H locs ls e20 fr hp hl
    rw [f_X13_copies_3_1_2] at hf
    refine lv_iload_n hx hb dX13_copies_2 rfl (lv_at hl 2 rfl) ?_
    refine lv_sipush (v := 137) hx hb dX13_copies_3 (by decide) ?_
    refine lv_icmp_ge (tgt := 21) hx hb dX13_copies_6 (by decide) (fun c1 => ?_) (fun c1 => ?_)
    · have hf := fp hf c1
      cases hf
      exact r_v cx hp ⟨e20, fr⟩ dX13_copies_21
    · have hf := fn hf c1
      refine lv_aload_n hx hb dX13_copies_9 rfl (lv_at hl 1 rfl) ?_
      refine lv_iload_n hx hb dX13_copies_10 rfl (lv_at hl 2 rfl) ?_
      refine lv_aload_n hx hb dX13_copies_11 rfl (lv_at hl 0 rfl) ?_
      refine lv_iload_n hx hb dX13_copies_12 rfl (lv_at hl 2 rfl) ?_
      obtain ⟨g_i, hf⟩ := fg hf
      refine lA_X13_3 e20 hN cx hp g_i dX13_copies_13 ?_
      obtain ⟨g_i, hf⟩ := fg hf
      obtain ⟨ρ2, e_l, hf⟩ := fl hf
      refine sA_X13_1 e20 hN cx hp g_i dX13_copies_14 (fun u H locs e_u n_u hp => ?_)
      have e20 := e_u.trans e_l
      have fr : ∀ q, q ≠ 20 → u q = σ q := fun q h0 => (n_u q h0).trans (fr q h0)
      refine lv_iinc (v := (x2 + 1)) (lv' := [(2, .int (x2 + 1)), (0, .ref (adr E 20 3)), (1, .ref (adr E 20 1))]) hx hb dX13_copies_15 hl (k := 2) rfl rfl (by decide) rfl (fun ls hl => ?_)
      refine lv_goto (tgt := 2) hx hb dX13_copies_18 (by decide) ?_
      exact ih  hf e20 fr hp (lv_sub hl [1, 2, 0] rfl)
set_option maxRecDepth 100000 in
set_option maxHeartbeats 4000000 in
theorem c_X13_copies_3_1 (l : Launch) {E : Ev} (hN : 146 ≤ eN E) (hT : St E) {σ : SM} {ρ : OM} (e20 : σ 20 = ρ)  {ρ' : OM} (hf : f_X13_copies_3_1 ρ = some ρ') : Met l yX13_copies (wC yX13_copies cX13_copies 3 none) rm_X13_copies_3_1 (va_Pc [.ref (adr E 20 3), .ref (adr E 20 1)] (Wu E σ)) (va_Qv (fun u => u 20 = ρ' ∧ ∀ q, q ≠ 20 → u q = σ q) (fun u t => Wu E u t) (eA E)) 0 0 (eA E) := by
  refine g_entry (lv := [(0, .ref (adr E 20 3)), (1, .ref (adr E 20 1))]) (by decide) (Nat.le_of_ble_eq_true rfl) rfl ?_
  intro p e s m below meth c cx hp ls hl
  have hx := cx.1.1
  have hb := cx.1.2.1
  have fr : ∀ q, q ≠ 20 → σ q = σ q := fun _ _ => rfl
  unfold f_X13_copies_3_1 at hf
  refine lv_iconst (v := 0) hx hb dX13_copies_0 (by decide) ?_
  refine lv_istore_n (lv' := [(2, .int 0), (0, .ref (adr E 20 3)), (1, .ref (adr E 20 1))]) hx hb dX13_copies_1 rfl hl (by decide) rfl (fun ls hl => ?_)
  exact L_X13_copies_3_1_2 l hN hT cx  _ hf e20 fr hp (lv_sub hl [1, 2, 0] rfl)
abbrev rm_X13_wantsStall : Room := { frames := 6, cells := 0, slots := 0, locals := 129 }
set_option maxRecDepth 100000 in
set_option maxHeartbeats 4000000 in
theorem c_X13_wantsStall (l : Launch) {E : Ev} (hN : 146 ≤ eN E) (hT : St E) {σ : SM} {ρ : OM} (e20 : σ 20 = ρ)  {rv : Int32} {ρ' : OM} (hf : f_X13_wantsStall ρ = some (rv, ρ')) : Met l yX13_wantsStall (wC yX13_wantsStall cX13_wantsStall 2 (some .int)) rm_X13_wantsStall (va_Pc [.ref (adr E 20 0)] (Wu E σ)) (va_Qi (fun r u => rv = r ∧ u 20 = ρ' ∧ ∀ q, q ≠ 20 → u q = σ q) (fun u t => Wu E u t) (eA E)) 0 0 (eA E) := by
  refine g_entry (lv := [(0, .ref (adr E 20 0))]) (by decide) (Nat.le_of_ble_eq_true rfl) rfl ?_
  intro p e s m below meth c cx hp ls hl
  have hx := cx.1.1
  have hb := cx.1.2.1
  have fr : ∀ q, q ≠ 20 → σ q = σ q := fun _ _ => rfl
  unfold f_X13_wantsStall at hf
  refine lv_aload_n hx hb dX13_wantsStall_0 rfl (lv_at hl 0 rfl) ?_
  obtain ⟨r1, ρ2, hc, hf⟩ := fb2 hf
  refine x_i hp (y_V (As := []) (rest := []) cx hp hl (c_X13_seesStall l hN hT e20 hc) (cw_X13_223 cx (mc := 0) (ms := 0) rfl rfl ⟨by decide, by decide⟩) (rC_X13 hN cx hp) rfl rfl (Nat.le_of_ble_eq_true rfl) dX13_wantsStall_1 ⟨Nat.zero_le _, Nat.zero_le _⟩) (fun r_c u_c H locs hq hp => ?_)
  obtain ⟨rfl, e_0, n_u⟩ := hq
  have e20 := e_0
  have fr : ∀ q, q ≠ 20 → u_c q = σ q := fun q h0 => (n_u q h0).trans (fr q h0)
  obtain ⟨u, rfl⟩ : ∃ z, u_c = z := ⟨_, rfl⟩
  refine lv_istore_n (lv' := [(1, .int r1), (0, .ref (adr E 20 0))]) hx hb dX13_wantsStall_4 rfl hl (by decide) rfl (fun ls hl => ?_)
  refine lv_aload_n hx hb dX13_wantsStall_5 rfl (lv_at hl 1 rfl) ?_
  obtain ⟨ρ3, hc, hf⟩ := fb hf
  refine x_v hp (y_V (As := []) (rest := []) cx hp hl (c_X13_goesOn l hN hT e20 hc) (cw_X13_209 cx (mc := 0) (ms := 0) rfl rfl ⟨by decide, by decide⟩) (rC_X13 hN cx hp) rfl rfl (Nat.le_of_ble_eq_true rfl) dX13_wantsStall_6 ⟨Nat.zero_le _, Nat.zero_le _⟩) (fun u_c H locs hq hp => ?_)
  obtain ⟨e_0, n_u⟩ := hq
  have e20 := e_0
  have fr : ∀ q, q ≠ 20 → u_c q = σ q := fun q h0 => (n_u q h0).trans (fr q h0)
  obtain ⟨u, rfl⟩ : ∃ z, u_c = z := ⟨_, rfl⟩
  refine lv_iload_n hx hb dX13_wantsStall_9 rfl (lv_at hl 0 rfl) ?_
  cases hf
  exact r_i cx hp ⟨rfl, e20, fr⟩ dX13_wantsStall_10
abbrev rm_X13_wantsSeller : Room := { frames := 4, cells := 0, slots := 0, locals := 83 }
set_option maxRecDepth 100000 in
set_option maxHeartbeats 4000000 in
theorem c_X13_wantsSeller (l : Launch) {E : Ev} (hN : 146 ≤ eN E) (hT : St E) {σ : SM} {ρ : OM} (e20 : σ 20 = ρ)  {rv : Int32} {ρ' : OM} (hf : f_X13_wantsSeller ρ = some (rv, ρ')) : Met l yX13_wantsSeller (wC yX13_wantsSeller cX13_wantsSeller 2 (some .int)) rm_X13_wantsSeller (va_Pc [.ref (adr E 20 0)] (Wu E σ)) (va_Qi (fun r u => rv = r ∧ u 20 = ρ' ∧ ∀ q, q ≠ 20 → u q = σ q) (fun u t => Wu E u t) (eA E)) 0 0 (eA E) := by
  refine g_entry (lv := [(0, .ref (adr E 20 0))]) (by decide) (Nat.le_of_ble_eq_true rfl) rfl ?_
  intro p e s m below meth c cx hp ls hl
  have hx := cx.1.1
  have hb := cx.1.2.1
  have fr : ∀ q, q ≠ 20 → σ q = σ q := fun _ _ => rfl
  unfold f_X13_wantsSeller at hf
  refine lv_aload_n hx hb dX13_wantsSeller_0 rfl (lv_at hl 0 rfl) ?_
  refine lv_aload_n hx hb dX13_wantsSeller_1 rfl (lv_at hl 0 rfl) ?_
  obtain ⟨r1, ρ2, hc, hf⟩ := fb2 hf
  refine x_i hp (y_V (As := []) (rest := [.ref (adr E 20 0)]) cx hp hl (c_X13_seesName l hN hT e20 hc) (cw_X13_217 cx (mc := 0) (ms := 0) rfl rfl ⟨by decide, by decide⟩) (rC_X13 hN cx hp) rfl rfl (Nat.le_of_ble_eq_true rfl) dX13_wantsSeller_2 ⟨Nat.zero_le _, Nat.zero_le _⟩) (fun r_c u_c H locs hq hp => ?_)
  obtain ⟨rfl, e_0, n_u⟩ := hq
  have e20 := e_0
  have fr : ∀ q, q ≠ 20 → u_c q = σ q := fun q h0 => (n_u q h0).trans (fr q h0)
  obtain ⟨u, rfl⟩ : ∃ z, u_c = z := ⟨_, rfl⟩
  obtain ⟨r3, hc, hf⟩ := fb hf
  refine x_i hp (y_V (As := [.int r1]) (rest := []) cx hp hl (c_X13_sellerNamed l hN hT e20 hc) (cw_X13_226 cx (mc := 0) (ms := 0) rfl rfl ⟨by decide, by decide⟩) (rC_X13 hN cx hp) rfl rfl (Nat.le_of_ble_eq_true rfl) dX13_wantsSeller_5 ⟨Nat.zero_le _, Nat.zero_le _⟩) (fun r_c u_c H locs hq hp => ?_)
  obtain ⟨rfl, rfl⟩ := hq
  refine lv_istore_n (lv' := [(1, .int r3), (0, .ref (adr E 20 0))]) hx hb dX13_wantsSeller_8 rfl hl (by decide) rfl (fun ls hl => ?_)
  refine lv_aload_n hx hb dX13_wantsSeller_9 rfl (lv_at hl 1 rfl) ?_
  refine gF_X13_192 e20 hN cx hp dX13_wantsSeller_10 ?_
  refine lv_if_ne (tgt := 26) hx hb dX13_wantsSeller_13 (by decide) (fun c4 => ?_) (fun c4 => ?_)
  · have hf := fn hf c4
    refine lv_aload_n hx hb dX13_wantsSeller_26 rfl (lv_at hl 1 rfl) ?_
    obtain ⟨ρ5, hc, hf⟩ := fb hf
    refine x_v hp (y_V (As := []) (rest := []) cx hp hl (c_X13_goesOn l hN hT e20 hc) (cw_X13_209 cx (mc := 0) (ms := 0) rfl rfl ⟨by decide, by decide⟩) (rC_X13 hN cx hp) rfl rfl (Nat.le_of_ble_eq_true rfl) dX13_wantsSeller_27 ⟨Nat.zero_le _, Nat.zero_le _⟩) (fun u_c H locs hq hp => ?_)
    obtain ⟨e_0, n_u⟩ := hq
    have e20 := e_0
    have fr : ∀ q, q ≠ 20 → u_c q = σ q := fun q h0 => (n_u q h0).trans (fr q h0)
    obtain ⟨u, rfl⟩ : ∃ z, u_c = z := ⟨_, rfl⟩
    refine lv_iload_n hx hb dX13_wantsSeller_30 rfl (lv_at hl 0 rfl) ?_
    cases hf
    exact r_i cx hp ⟨rfl, e20, fr⟩ dX13_wantsSeller_31
  · have hf := fp hf c4
    refine lv_iload_n hx hb dX13_wantsSeller_16 rfl (lv_at hl 0 rfl) ?_
    refine lv_iconst (v := (-1)) hx hb dX13_wantsSeller_17 (by decide) ?_
    refine lv_icmp_ne (tgt := 26) hx hb dX13_wantsSeller_18 (by decide) (fun c6 => ?_) (fun c6 => ?_)
    · have hf := fn hf c6
      refine lv_aload_n hx hb dX13_wantsSeller_26 rfl (lv_at hl 1 rfl) ?_
      obtain ⟨ρ7, hc, hf⟩ := fb hf
      refine x_v hp (y_V (As := []) (rest := []) cx hp hl (c_X13_goesOn l hN hT e20 hc) (cw_X13_209 cx (mc := 0) (ms := 0) rfl rfl ⟨by decide, by decide⟩) (rC_X13 hN cx hp) rfl rfl (Nat.le_of_ble_eq_true rfl) dX13_wantsSeller_27 ⟨Nat.zero_le _, Nat.zero_le _⟩) (fun u_c H locs hq hp => ?_)
      obtain ⟨e_0, n_u⟩ := hq
      have e20 := e_0
      have fr : ∀ q, q ≠ 20 → u_c q = σ q := fun q h0 => (n_u q h0).trans (fr q h0)
      obtain ⟨u, rfl⟩ : ∃ z, u_c = z := ⟨_, rfl⟩
      refine lv_iload_n hx hb dX13_wantsSeller_30 rfl (lv_at hl 0 rfl) ?_
      cases hf
      exact r_i cx hp ⟨rfl, e20, fr⟩ dX13_wantsSeller_31
    · have hf := fp hf c6
      refine lv_aload_n hx hb dX13_wantsSeller_21 rfl (lv_at hl 1 rfl) ?_
      refine lv_iconst (v := 3) hx hb dX13_wantsSeller_22 (by decide) ?_
      obtain ⟨ρ8, hc, hf⟩ := fb hf
      refine x_v hp (y_V (As := [.int 3]) (rest := []) cx hp hl (c_X13_wrong l hN hT e20 hc) (cw_X13_206 cx (mc := 0) (ms := 0) rfl rfl ⟨by decide, by decide⟩) (rC_X13 hN cx hp) rfl rfl (Nat.le_of_ble_eq_true rfl) dX13_wantsSeller_23 ⟨Nat.zero_le _, Nat.zero_le _⟩) (fun u_c H locs hq hp => ?_)
      obtain ⟨e_0, n_u⟩ := hq
      have e20 := e_0
      have fr : ∀ q, q ≠ 20 → u_c q = σ q := fun q h0 => (n_u q h0).trans (fr q h0)
      obtain ⟨u, rfl⟩ : ∃ z, u_c = z := ⟨_, rfl⟩
      refine lv_aload_n hx hb dX13_wantsSeller_26 rfl (lv_at hl 1 rfl) ?_
      obtain ⟨ρ9, hc, hf⟩ := fb hf
      refine x_v hp (y_V (As := []) (rest := []) cx hp hl (c_X13_goesOn l hN hT e20 hc) (cw_X13_209 cx (mc := 0) (ms := 0) rfl rfl ⟨by decide, by decide⟩) (rC_X13 hN cx hp) rfl rfl (Nat.le_of_ble_eq_true rfl) dX13_wantsSeller_27 ⟨Nat.zero_le _, Nat.zero_le _⟩) (fun u_c H locs hq hp => ?_)
      obtain ⟨e_0, n_u⟩ := hq
      have e20 := e_0
      have fr : ∀ q, q ≠ 20 → u_c q = σ q := fun q h0 => (n_u q h0).trans (fr q h0)
      obtain ⟨u, rfl⟩ : ∃ z, u_c = z := ⟨_, rfl⟩
      refine lv_iload_n hx hb dX13_wantsSeller_30 rfl (lv_at hl 0 rfl) ?_
      cases hf
      exact r_i cx hp ⟨rfl, e20, fr⟩ dX13_wantsSeller_31
abbrev rm_X13_kindOfWord : Room := { frames := 5, cells := 0, slots := 0, locals := 108 }
set_option maxRecDepth 100000 in
set_option maxHeartbeats 4000000 in
theorem c_X13_kindOfWord (l : Launch) {E : Ev} (hN : 146 ≤ eN E) (hT : St E) {σ : SM} {ρ : OM} (e20 : σ 20 = ρ)  {rv : Int32} (hf : f_X13_kindOfWord ρ = some rv) : Met l yX13_kindOfWord (wC yX13_kindOfWord cX13_kindOfWord 1 (some .int)) rm_X13_kindOfWord (va_Pc [.ref (adr E 20 0)] (Wu E σ)) (va_Qi (fun r u => rv = r ∧ σ = u) (fun u t => Wu E u t) (eA E)) 0 0 (eA E) := by
  refine g_entry (lv := [(0, .ref (adr E 20 0))]) (by decide) (Nat.le_of_ble_eq_true rfl) rfl ?_
  intro p e s m below meth c cx hp ls hl
  have hx := cx.1.1
  have hb := cx.1.2.1
  have fr : ∀ q, σ q = σ q := fun _ => rfl
  unfold f_X13_kindOfWord at hf
  refine lv_aload_n hx hb dX13_kindOfWord_0 rfl (lv_at hl 0 rfl) ?_
  refine va_ldcSw hx hb cx.1.2.2.2.1 (cx.2.2.1.2.2.2.1 28 _ rfl) dX13_kindOfWord_1 ?_
  obtain ⟨r1, hc, hf⟩ := fb hf
  refine x_i hp (y_V (As := [.ref (eK E 28)]) (rest := []) cx hp hl (c_X13_isWord l hN hT e20 hc) (cw_X13_202 cx (mc := 0) (ms := 0) rfl rfl ⟨by decide, by decide⟩) (rC_X13 hN cx hp) rfl rfl (Nat.le_of_ble_eq_true rfl) dX13_kindOfWord_4 ⟨Nat.zero_le _, Nat.zero_le _⟩) (fun r_c u_c H locs hq hp => ?_)
  obtain ⟨rfl, rfl⟩ := hq
  refine lv_if_eq (tgt := 12) hx hb dX13_kindOfWord_7 (by decide) (fun c2 => ?_) (fun c2 => ?_)
  · have hf := fp hf c2
    refine lv_aload_n hx hb dX13_kindOfWord_12 rfl (lv_at hl 0 rfl) ?_
    refine va_ldcSw hx hb cx.1.2.2.2.1 (cx.2.2.1.2.2.2.1 29 _ rfl) dX13_kindOfWord_13 ?_
    obtain ⟨r3, hc, hf⟩ := fb hf
    refine x_i hp (y_V (As := [.ref (eK E 29)]) (rest := []) cx hp hl (c_X13_isWord l hN hT e20 hc) (cw_X13_202 cx (mc := 0) (ms := 0) rfl rfl ⟨by decide, by decide⟩) (rC_X13 hN cx hp) rfl rfl (Nat.le_of_ble_eq_true rfl) dX13_kindOfWord_16 ⟨Nat.zero_le _, Nat.zero_le _⟩) (fun r_c u_c H locs hq hp => ?_)
    obtain ⟨rfl, rfl⟩ := hq
    refine lv_if_eq (tgt := 24) hx hb dX13_kindOfWord_19 (by decide) (fun c4 => ?_) (fun c4 => ?_)
    · have hf := fp hf c4
      refine lv_aload_n hx hb dX13_kindOfWord_24 rfl (lv_at hl 0 rfl) ?_
      refine va_ldcSw hx hb cx.1.2.2.2.1 (cx.2.2.1.2.2.2.1 30 _ rfl) dX13_kindOfWord_25 ?_
      obtain ⟨r5, hc, hf⟩ := fb hf
      refine x_i hp (y_V (As := [.ref (eK E 30)]) (rest := []) cx hp hl (c_X13_isWord l hN hT e20 hc) (cw_X13_202 cx (mc := 0) (ms := 0) rfl rfl ⟨by decide, by decide⟩) (rC_X13 hN cx hp) rfl rfl (Nat.le_of_ble_eq_true rfl) dX13_kindOfWord_28 ⟨Nat.zero_le _, Nat.zero_le _⟩) (fun r_c u_c H locs hq hp => ?_)
      obtain ⟨rfl, rfl⟩ := hq
      refine lv_if_eq (tgt := 36) hx hb dX13_kindOfWord_31 (by decide) (fun c6 => ?_) (fun c6 => ?_)
      · have hf := fp hf c6
        refine lv_aload_n hx hb dX13_kindOfWord_36 rfl (lv_at hl 0 rfl) ?_
        refine va_ldcSw hx hb cx.1.2.2.2.1 (cx.2.2.1.2.2.2.1 31 _ rfl) dX13_kindOfWord_37 ?_
        obtain ⟨r7, hc, hf⟩ := fb hf
        refine x_i hp (y_V (As := [.ref (eK E 31)]) (rest := []) cx hp hl (c_X13_isWord l hN hT e20 hc) (cw_X13_202 cx (mc := 0) (ms := 0) rfl rfl ⟨by decide, by decide⟩) (rC_X13 hN cx hp) rfl rfl (Nat.le_of_ble_eq_true rfl) dX13_kindOfWord_40 ⟨Nat.zero_le _, Nat.zero_le _⟩) (fun r_c u_c H locs hq hp => ?_)
        obtain ⟨rfl, rfl⟩ := hq
        refine lv_if_eq (tgt := 48) hx hb dX13_kindOfWord_43 (by decide) (fun c8 => ?_) (fun c8 => ?_)
        · have hf := fp hf c8
          refine lv_aload_n hx hb dX13_kindOfWord_48 rfl (lv_at hl 0 rfl) ?_
          refine va_ldcSw hx hb cx.1.2.2.2.1 (cx.2.2.1.2.2.2.1 32 _ rfl) dX13_kindOfWord_49 ?_
          obtain ⟨r9, hc, hf⟩ := fb hf
          refine x_i hp (y_V (As := [.ref (eK E 32)]) (rest := []) cx hp hl (c_X13_isWord l hN hT e20 hc) (cw_X13_202 cx (mc := 0) (ms := 0) rfl rfl ⟨by decide, by decide⟩) (rC_X13 hN cx hp) rfl rfl (Nat.le_of_ble_eq_true rfl) dX13_kindOfWord_52 ⟨Nat.zero_le _, Nat.zero_le _⟩) (fun r_c u_c H locs hq hp => ?_)
          obtain ⟨rfl, rfl⟩ := hq
          refine lv_if_eq (tgt := 60) hx hb dX13_kindOfWord_55 (by decide) (fun c10 => ?_) (fun c10 => ?_)
          · have hf := fp hf c10
            refine lv_aload_n hx hb dX13_kindOfWord_60 rfl (lv_at hl 0 rfl) ?_
            refine va_ldcSw hx hb cx.1.2.2.2.1 (cx.2.2.1.2.2.2.1 33 _ rfl) dX13_kindOfWord_61 ?_
            obtain ⟨r11, hc, hf⟩ := fb hf
            refine x_i hp (y_V (As := [.ref (eK E 33)]) (rest := []) cx hp hl (c_X13_isWord l hN hT e20 hc) (cw_X13_202 cx (mc := 0) (ms := 0) rfl rfl ⟨by decide, by decide⟩) (rC_X13 hN cx hp) rfl rfl (Nat.le_of_ble_eq_true rfl) dX13_kindOfWord_64 ⟨Nat.zero_le _, Nat.zero_le _⟩) (fun r_c u_c H locs hq hp => ?_)
            obtain ⟨rfl, rfl⟩ := hq
            refine lv_if_eq (tgt := 74) hx hb dX13_kindOfWord_67 (by decide) (fun c12 => ?_) (fun c12 => ?_)
            · have hf := fp hf c12
              refine lv_aload_n hx hb dX13_kindOfWord_74 rfl (lv_at hl 0 rfl) ?_
              refine va_ldcSw hx hb cx.1.2.2.2.1 (cx.2.2.1.2.2.2.1 34 _ rfl) dX13_kindOfWord_75 ?_
              obtain ⟨r13, hc, hf⟩ := fb hf
              refine x_i hp (y_V (As := [.ref (eK E 34)]) (rest := []) cx hp hl (c_X13_isWord l hN hT e20 hc) (cw_X13_202 cx (mc := 0) (ms := 0) rfl rfl ⟨by decide, by decide⟩) (rC_X13 hN cx hp) rfl rfl (Nat.le_of_ble_eq_true rfl) dX13_kindOfWord_78 ⟨Nat.zero_le _, Nat.zero_le _⟩) (fun r_c u_c H locs hq hp => ?_)
              obtain ⟨rfl, rfl⟩ := hq
              refine lv_if_eq (tgt := 89) hx hb dX13_kindOfWord_81 (by decide) (fun c14 => ?_) (fun c14 => ?_)
              · have hf := fp hf c14
                refine lv_aload_n hx hb dX13_kindOfWord_89 rfl (lv_at hl 0 rfl) ?_
                refine va_ldcSw hx hb cx.1.2.2.2.1 (cx.2.2.1.2.2.2.1 35 _ rfl) dX13_kindOfWord_90 ?_
                obtain ⟨r15, hc, hf⟩ := fb hf
                refine x_i hp (y_V (As := [.ref (eK E 35)]) (rest := []) cx hp hl (c_X13_isWord l hN hT e20 hc) (cw_X13_202 cx (mc := 0) (ms := 0) rfl rfl ⟨by decide, by decide⟩) (rC_X13 hN cx hp) rfl rfl (Nat.le_of_ble_eq_true rfl) dX13_kindOfWord_93 ⟨Nat.zero_le _, Nat.zero_le _⟩) (fun r_c u_c H locs hq hp => ?_)
                obtain ⟨rfl, rfl⟩ := hq
                refine lv_if_eq (tgt := 104) hx hb dX13_kindOfWord_96 (by decide) (fun c16 => ?_) (fun c16 => ?_)
                · have hf := fp hf c16
                  refine lv_aload_n hx hb dX13_kindOfWord_104 rfl (lv_at hl 0 rfl) ?_
                  refine va_ldcSw hx hb cx.1.2.2.2.1 (cx.2.2.1.2.2.2.1 36 _ rfl) dX13_kindOfWord_105 ?_
                  obtain ⟨r17, hc, hf⟩ := fb hf
                  refine x_i hp (y_V (As := [.ref (eK E 36)]) (rest := []) cx hp hl (c_X13_isWord l hN hT e20 hc) (cw_X13_202 cx (mc := 0) (ms := 0) rfl rfl ⟨by decide, by decide⟩) (rC_X13 hN cx hp) rfl rfl (Nat.le_of_ble_eq_true rfl) dX13_kindOfWord_108 ⟨Nat.zero_le _, Nat.zero_le _⟩) (fun r_c u_c H locs hq hp => ?_)
                  obtain ⟨rfl, rfl⟩ := hq
                  refine lv_if_eq (tgt := 119) hx hb dX13_kindOfWord_111 (by decide) (fun c18 => ?_) (fun c18 => ?_)
                  · have hf := fp hf c18
                    refine lv_iconst (v := (-1)) hx hb dX13_kindOfWord_119 (by decide) ?_
                    cases hf
                    exact r_i cx hp ⟨rfl, (funext fr).symm⟩ dX13_kindOfWord_120
                  · have hf := fn hf c18
                    refine lv_bipush (v := 8) hx hb dX13_kindOfWord_114 (by decide) ?_
                    refine lv_goto (tgt := 120) hx hb dX13_kindOfWord_116 (by decide) ?_
                    cases hf
                    exact r_i cx hp ⟨rfl, (funext fr).symm⟩ dX13_kindOfWord_120
                · have hf := fn hf c16
                  refine lv_bipush (v := 7) hx hb dX13_kindOfWord_99 (by decide) ?_
                  refine lv_goto (tgt := 120) hx hb dX13_kindOfWord_101 (by decide) ?_
                  cases hf
                  exact r_i cx hp ⟨rfl, (funext fr).symm⟩ dX13_kindOfWord_120
              · have hf := fn hf c14
                refine lv_bipush (v := 6) hx hb dX13_kindOfWord_84 (by decide) ?_
                refine lv_goto (tgt := 120) hx hb dX13_kindOfWord_86 (by decide) ?_
                cases hf
                exact r_i cx hp ⟨rfl, (funext fr).symm⟩ dX13_kindOfWord_120
            · have hf := fn hf c12
              refine lv_iconst (v := 5) hx hb dX13_kindOfWord_70 (by decide) ?_
              refine lv_goto (tgt := 120) hx hb dX13_kindOfWord_71 (by decide) ?_
              cases hf
              exact r_i cx hp ⟨rfl, (funext fr).symm⟩ dX13_kindOfWord_120
          · have hf := fn hf c10
            refine lv_iconst (v := 4) hx hb dX13_kindOfWord_58 (by decide) ?_
            cases hf
            exact r_i cx hp ⟨rfl, (funext fr).symm⟩ dX13_kindOfWord_59
        · have hf := fn hf c8
          refine lv_iconst (v := 3) hx hb dX13_kindOfWord_46 (by decide) ?_
          cases hf
          exact r_i cx hp ⟨rfl, (funext fr).symm⟩ dX13_kindOfWord_47
      · have hf := fn hf c6
        refine lv_iconst (v := 2) hx hb dX13_kindOfWord_34 (by decide) ?_
        cases hf
        exact r_i cx hp ⟨rfl, (funext fr).symm⟩ dX13_kindOfWord_35
    · have hf := fn hf c4
      refine lv_iconst (v := 1) hx hb dX13_kindOfWord_22 (by decide) ?_
      cases hf
      exact r_i cx hp ⟨rfl, (funext fr).symm⟩ dX13_kindOfWord_23
  · have hf := fn hf c2
    refine lv_iconst (v := 0) hx hb dX13_kindOfWord_10 (by decide) ?_
    cases hf
    exact r_i cx hp ⟨rfl, (funext fr).symm⟩ dX13_kindOfWord_11
abbrev rm_X13_secondOf : Room := { frames := 7, cells := 0, slots := 0, locals := 150 }
set_option maxRecDepth 100000 in
set_option maxHeartbeats 4000000 in
theorem c_X13_secondOf (l : Launch) {E : Ev} (hN : 146 ≤ eN E) (hT : St E) {σ : SM} {ρ : OM} (e20 : σ 20 = ρ) {p1 : Int32} {rv : Int32} {ρ' : OM} (hf : f_X13_secondOf p1 ρ = some (rv, ρ')) : Met l yX13_secondOf (wC yX13_secondOf cX13_secondOf 2 (some .int)) rm_X13_secondOf (va_Pc [.ref (adr E 20 0), .int p1] (Wu E σ)) (va_Qi (fun r u => rv = r ∧ u 20 = ρ' ∧ ∀ q, q ≠ 20 → u q = σ q) (fun u t => Wu E u t) (eA E)) 0 0 (eA E) := by
  refine g_entry (lv := [(0, .ref (adr E 20 0)), (1, .int p1)]) (by decide) (Nat.le_of_ble_eq_true rfl) rfl ?_
  intro p e s m below meth c cx hp ls hl
  have hx := cx.1.1
  have hb := cx.1.2.1
  have fr : ∀ q, q ≠ 20 → σ q = σ q := fun _ _ => rfl
  unfold f_X13_secondOf at hf
  refine lv_iload_n hx hb dX13_secondOf_0 rfl (lv_at hl 1 rfl) ?_
  by_cases c1 : p1 = 1
  · have hf := fp hf c1
    refine lv_nm c1 ?_
    refine lv_lookup (off := 35) (tgt := 36) hx hb dX13_secondOf_1 (by decide) (by decide) (by decide) ?_
    refine lv_iconst (v := 0) hx hb dX13_secondOf_36 (by decide) ?_
    cases hf
    exact r_i cx hp ⟨rfl, e20, fr⟩ dX13_secondOf_37
  · have hf := fn hf c1
    by_cases c2 : p1 = 2
    · have hf := fp hf c2
      refine lv_nm c2 ?_
      refine lv_lookup (off := 37) (tgt := 38) hx hb dX13_secondOf_1 (by decide) (by decide) (by decide) ?_
      refine lv_aload_n hx hb dX13_secondOf_38 rfl (lv_at hl 0 rfl) ?_
      obtain ⟨r3, ρ4, hc, hf⟩ := fb2 hf
      refine x_i hp (y_V (As := []) (rest := []) cx hp hl (c_X13_wantsSeller l hN hT e20 hc) (cw_X13_283 cx (mc := 0) (ms := 0) rfl rfl ⟨by decide, by decide⟩) (rC_X13 hN cx hp) rfl rfl (Nat.le_of_ble_eq_true rfl) dX13_secondOf_39 ⟨Nat.zero_le _, Nat.zero_le _⟩) (fun r_c u_c H locs hq hp => ?_)
      obtain ⟨rfl, e_0, n_u⟩ := hq
      have e20 := e_0
      have fr : ∀ q, q ≠ 20 → u_c q = σ q := fun q h0 => (n_u q h0).trans (fr q h0)
      obtain ⟨u, rfl⟩ : ∃ z, u_c = z := ⟨_, rfl⟩
      cases hf
      exact r_i cx hp ⟨rfl, e20, fr⟩ dX13_secondOf_42
    · have hf := fn hf c2
      by_cases c5 : p1 = 7
      · have hf := fp hf c5
        refine lv_nm c5 ?_
        refine lv_lookup (off := 42) (tgt := 43) hx hb dX13_secondOf_1 (by decide) (by decide) (by decide) ?_
        refine lv_aload_n hx hb dX13_secondOf_43 rfl (lv_at hl 0 rfl) ?_
        refine lv_iconst (v := 1) hx hb dX13_secondOf_44 (by decide) ?_
        refine lv_sipush (v := 999) hx hb dX13_secondOf_45 (by decide) ?_
        obtain ⟨r6, ρ7, hc, hf⟩ := fb2 hf
        refine x_i hp (y_V (As := [.int 1, .int 999]) (rest := []) cx hp hl (c_X13_wantsNumber l hN hT e20 hc) (cw_X13_232 cx (mc := 0) (ms := 0) rfl rfl ⟨by decide, by decide⟩) (rC_X13 hN cx hp) rfl rfl (Nat.le_of_ble_eq_true rfl) dX13_secondOf_48 ⟨Nat.zero_le _, Nat.zero_le _⟩) (fun r_c u_c H locs hq hp => ?_)
        obtain ⟨rfl, e_0, n_u⟩ := hq
        have e20 := e_0
        have fr : ∀ q, q ≠ 20 → u_c q = σ q := fun q h0 => (n_u q h0).trans (fr q h0)
        obtain ⟨u, rfl⟩ : ∃ z, u_c = z := ⟨_, rfl⟩
        cases hf
        exact r_i cx hp ⟨rfl, e20, fr⟩ dX13_secondOf_51
      · have hf := fn hf c5
        refine lv_lookup (tgt := 52) (off := 51) hx hb dX13_secondOf_1 (by decide) (by
          have := i_ne (n := 1) c1 (by decide)
          have := i_ne (n := 2) c2 (by decide)
          have := i_ne (n := 7) c5 (by decide)
          simp only [Op.lookupswitch.offset, *]; first | rfl | (simp [*]; done) | omega) (by decide) ?_
        refine lv_aload_n hx hb dX13_secondOf_52 rfl (lv_at hl 0 rfl) ?_
        obtain ⟨r8, ρ9, hc, hf⟩ := fb2 hf
        refine x_i hp (y_V (As := []) (rest := []) cx hp hl (c_X13_wantsStall l hN hT e20 hc) (cw_X13_280 cx (mc := 0) (ms := 0) rfl rfl ⟨by decide, by decide⟩) (rC_X13 hN cx hp) rfl rfl (Nat.le_of_ble_eq_true rfl) dX13_secondOf_53 ⟨Nat.zero_le _, Nat.zero_le _⟩) (fun r_c u_c H locs hq hp => ?_)
        obtain ⟨rfl, e_0, n_u⟩ := hq
        have e20 := e_0
        have fr : ∀ q, q ≠ 20 → u_c q = σ q := fun q h0 => (n_u q h0).trans (fr q h0)
        obtain ⟨u, rfl⟩ : ∃ z, u_c = z := ⟨_, rfl⟩
        cases hf
        exact r_i cx hp ⟨rfl, e20, fr⟩ dX13_secondOf_56
abbrev rm_X13_readsNumbers : Room := { frames := 8, cells := 0, slots := 0, locals := 171 }
set_option maxRecDepth 100000 in
set_option maxHeartbeats 4000000 in
theorem c_X13_readsNumbers (l : Launch) {E : Ev} (hN : 146 ≤ eN E) (hT : St E) {σ : SM} {ρ : OM} (e20 : σ 20 = ρ) {p1 : Int32} {p2 : Int32} {ρ' : OM} (hf : f_X13_readsNumbers p1 p2 ρ = some ρ') : Met l yX13_readsNumbers (wC yX13_readsNumbers cX13_readsNumbers 3 none) rm_X13_readsNumbers (va_Pc [.ref (adr E 20 0), .int p1, .int p2] (Wu E σ)) (va_Qv (fun u => u 20 = ρ' ∧ ∀ q, q ≠ 20 → u q = σ q) (fun u t => Wu E u t) (eA E)) 0 0 (eA E) := by
  refine g_entry (lv := [(0, .ref (adr E 20 0)), (1, .int p1), (2, .int p2)]) (by decide) (Nat.le_of_ble_eq_true rfl) rfl ?_
  intro p e s m below meth c cx hp ls hl
  have hx := cx.1.1
  have hb := cx.1.2.1
  have fr : ∀ q, q ≠ 20 → σ q = σ q := fun _ _ => rfl
  unfold f_X13_readsNumbers at hf
  refine lv_iload_n hx hb dX13_readsNumbers_0 rfl (lv_at hl 2 rfl) ?_
  by_cases c1 : p2 = 3
  · have hf := fp hf c1
    refine lv_nm c1 ?_
    refine lv_lookup (off := 35) (tgt := 36) hx hb dX13_readsNumbers_1 (by decide) (by decide) (by decide) ?_
    refine lv_aload_n hx hb dX13_readsNumbers_36 rfl (lv_at hl 0 rfl) ?_
    refine gF_X13_51 rfl hN cx hp dX13_readsNumbers_37 ?_
    refine lv_iload_n hx hb dX13_readsNumbers_40 rfl (lv_at hl 1 rfl) ?_
    refine lv_iconst (v := 1) hx hb dX13_readsNumbers_41 (by decide) ?_
    refine lv_iadd hx hb dX13_readsNumbers_42 ?_
    refine lv_iconst (v := 0) hx hb dX13_readsNumbers_43 (by decide) ?_
    obtain ⟨g_i, hf⟩ := fg hf
    obtain ⟨ρ2, e_l, hf⟩ := fl hf
    refine sA_X13_13 e20 hN cx hp g_i dX13_readsNumbers_44 (fun u H locs e_u n_u hp => ?_)
    have e20 := e_u.trans e_l
    have fr : ∀ q, q ≠ 20 → u q = σ q := fun q h0 => (n_u q h0).trans (fr q h0)
    refine lv_goto (tgt := 121) hx hb dX13_readsNumbers_45 (by decide) ?_
    cases hf
    exact r_v cx hp ⟨e20, fr⟩ dX13_readsNumbers_121
  · have hf := fn hf c1
    by_cases c3 : p2 = 6
    · have hf := fp hf c3
      refine lv_nm c3 ?_
      refine lv_lookup (off := 65) (tgt := 66) hx hb dX13_readsNumbers_1 (by decide) (by decide) (by decide) ?_
      refine lv_aload_n hx hb dX13_readsNumbers_66 rfl (lv_at hl 0 rfl) ?_
      refine gF_X13_51 rfl hN cx hp dX13_readsNumbers_67 ?_
      refine lv_iload_n hx hb dX13_readsNumbers_70 rfl (lv_at hl 1 rfl) ?_
      refine lv_iconst (v := 1) hx hb dX13_readsNumbers_71 (by decide) ?_
      refine lv_iadd hx hb dX13_readsNumbers_72 ?_
      refine lv_aload_n hx hb dX13_readsNumbers_73 rfl (lv_at hl 0 rfl) ?_
      obtain ⟨r4, ρ5, hc, hf⟩ := fb2 hf
      refine x_i hp (y_V (As := []) (rest := [.int (p1 + 1), .ref (adr E 20 13)]) cx hp hl (c_X13_wantsStall l hN hT e20 hc) (cw_X13_280 cx (mc := 0) (ms := 0) rfl rfl ⟨by decide, by decide⟩) (rC_X13 hN cx hp) rfl rfl (Nat.le_of_ble_eq_true rfl) dX13_readsNumbers_74 ⟨Nat.zero_le _, Nat.zero_le _⟩) (fun r_c u_c H locs hq hp => ?_)
      obtain ⟨rfl, e_0, n_u⟩ := hq
      have e20 := e_0
      have fr : ∀ q, q ≠ 20 → u_c q = σ q := fun q h0 => (n_u q h0).trans (fr q h0)
      obtain ⟨u, rfl⟩ : ∃ z, u_c = z := ⟨_, rfl⟩
      obtain ⟨g_i, hf⟩ := fg hf
      obtain ⟨ρ6, e_l, hf⟩ := fl hf
      refine sA_X13_13 e20 hN cx hp g_i dX13_readsNumbers_77 (fun u H locs e_u n_u hp => ?_)
      have e20 := e_u.trans e_l
      have fr : ∀ q, q ≠ 20 → u q = σ q := fun q h0 => (n_u q h0).trans (fr q h0)
      refine lv_aload_n hx hb dX13_readsNumbers_78 rfl (lv_at hl 0 rfl) ?_
      refine gF_X13_51 rfl hN cx hp dX13_readsNumbers_79 ?_
      refine lv_iload_n hx hb dX13_readsNumbers_82 rfl (lv_at hl 1 rfl) ?_
      refine lv_iconst (v := 2) hx hb dX13_readsNumbers_83 (by decide) ?_
      refine lv_iadd hx hb dX13_readsNumbers_84 ?_
      refine lv_aload_n hx hb dX13_readsNumbers_85 rfl (lv_at hl 0 rfl) ?_
      refine lv_iconst (v := 0) hx hb dX13_readsNumbers_86 (by decide) ?_
      refine lv_bipush (v := 99) hx hb dX13_readsNumbers_87 (by decide) ?_
      obtain ⟨r7, ρ8, hc, hf⟩ := fb2 hf
      refine x_i hp (y_V (As := [.int 0, .int 99]) (rest := [.int (p1 + 2), .ref (adr E 20 13)]) cx hp hl (c_X13_wantsNumber l hN hT e20 hc) (cw_X13_232 cx (mc := 0) (ms := 0) rfl rfl ⟨by decide, by decide⟩) (rC_X13 hN cx hp) rfl rfl (Nat.le_of_ble_eq_true rfl) dX13_readsNumbers_89 ⟨Nat.zero_le _, Nat.zero_le _⟩) (fun r_c u_c H locs hq hp => ?_)
      obtain ⟨rfl, e_0, n_u⟩ := hq
      have e20 := e_0
      have fr : ∀ q, q ≠ 20 → u_c q = σ q := fun q h0 => (n_u q h0).trans (fr q h0)
      obtain ⟨u, rfl⟩ : ∃ z, u_c = z := ⟨_, rfl⟩
      obtain ⟨g_i, hf⟩ := fg hf
      obtain ⟨ρ9, e_l, hf⟩ := fl hf
      refine sA_X13_13 e20 hN cx hp g_i dX13_readsNumbers_92 (fun u H locs e_u n_u hp => ?_)
      have e20 := e_u.trans e_l
      have fr : ∀ q, q ≠ 20 → u q = σ q := fun q h0 => (n_u q h0).trans (fr q h0)
      refine lv_goto (tgt := 121) hx hb dX13_readsNumbers_93 (by decide) ?_
      cases hf
      exact r_v cx hp ⟨e20, fr⟩ dX13_readsNumbers_121
    · have hf := fn hf c3
      by_cases c10 : p2 = 8
      · have hf := fp hf c10
        refine lv_nm c10 ?_
        refine lv_lookup (off := 47) (tgt := 48) hx hb dX13_readsNumbers_1 (by decide) (by decide) (by decide) ?_
        refine lv_aload_n hx hb dX13_readsNumbers_48 rfl (lv_at hl 0 rfl) ?_
        refine gF_X13_51 rfl hN cx hp dX13_readsNumbers_49 ?_
        refine lv_iload_n hx hb dX13_readsNumbers_52 rfl (lv_at hl 1 rfl) ?_
        refine lv_iconst (v := 1) hx hb dX13_readsNumbers_53 (by decide) ?_
        refine lv_iadd hx hb dX13_readsNumbers_54 ?_
        refine lv_aload_n hx hb dX13_readsNumbers_55 rfl (lv_at hl 0 rfl) ?_
        refine lv_iconst (v := 1) hx hb dX13_readsNumbers_56 (by decide) ?_
        refine lv_bipush (v := 99) hx hb dX13_readsNumbers_57 (by decide) ?_
        obtain ⟨r11, ρ12, hc, hf⟩ := fb2 hf
        refine x_i hp (y_V (As := [.int 1, .int 99]) (rest := [.int (p1 + 1), .ref (adr E 20 13)]) cx hp hl (c_X13_wantsNumber l hN hT e20 hc) (cw_X13_232 cx (mc := 0) (ms := 0) rfl rfl ⟨by decide, by decide⟩) (rC_X13 hN cx hp) rfl rfl (Nat.le_of_ble_eq_true rfl) dX13_readsNumbers_59 ⟨Nat.zero_le _, Nat.zero_le _⟩) (fun r_c u_c H locs hq hp => ?_)
        obtain ⟨rfl, e_0, n_u⟩ := hq
        have e20 := e_0
        have fr : ∀ q, q ≠ 20 → u_c q = σ q := fun q h0 => (n_u q h0).trans (fr q h0)
        obtain ⟨u, rfl⟩ : ∃ z, u_c = z := ⟨_, rfl⟩
        obtain ⟨g_i, hf⟩ := fg hf
        obtain ⟨ρ13, e_l, hf⟩ := fl hf
        refine sA_X13_13 e20 hN cx hp g_i dX13_readsNumbers_62 (fun u H locs e_u n_u hp => ?_)
        have e20 := e_u.trans e_l
        have fr : ∀ q, q ≠ 20 → u q = σ q := fun q h0 => (n_u q h0).trans (fr q h0)
        refine lv_goto (tgt := 121) hx hb dX13_readsNumbers_63 (by decide) ?_
        cases hf
        exact r_v cx hp ⟨e20, fr⟩ dX13_readsNumbers_121
      · have hf := fn hf c10
        refine lv_lookup (tgt := 96) (off := 95) hx hb dX13_readsNumbers_1 (by decide) (by
          have := i_ne (n := 3) c1 (by decide)
          have := i_ne (n := 6) c3 (by decide)
          have := i_ne (n := 8) c10 (by decide)
          simp only [Op.lookupswitch.offset, *]; first | rfl | (simp [*]; done) | omega) (by decide) ?_
        refine lv_aload_n hx hb dX13_readsNumbers_96 rfl (lv_at hl 0 rfl) ?_
        refine gF_X13_51 rfl hN cx hp dX13_readsNumbers_97 ?_
        refine lv_iload_n hx hb dX13_readsNumbers_100 rfl (lv_at hl 1 rfl) ?_
        refine lv_iconst (v := 1) hx hb dX13_readsNumbers_101 (by decide) ?_
        refine lv_iadd hx hb dX13_readsNumbers_102 ?_
        refine lv_aload_n hx hb dX13_readsNumbers_103 rfl (lv_at hl 0 rfl) ?_
        obtain ⟨r14, ρ15, hc, hf⟩ := fb2 hf
        refine x_i hp (y_V (As := []) (rest := [.int (p1 + 1), .ref (adr E 20 13)]) cx hp hl (c_X13_wantsSeller l hN hT e20 hc) (cw_X13_283 cx (mc := 0) (ms := 0) rfl rfl ⟨by decide, by decide⟩) (rC_X13 hN cx hp) rfl rfl (Nat.le_of_ble_eq_true rfl) dX13_readsNumbers_104 ⟨Nat.zero_le _, Nat.zero_le _⟩) (fun r_c u_c H locs hq hp => ?_)
        obtain ⟨rfl, e_0, n_u⟩ := hq
        have e20 := e_0
        have fr : ∀ q, q ≠ 20 → u_c q = σ q := fun q h0 => (n_u q h0).trans (fr q h0)
        obtain ⟨u, rfl⟩ : ∃ z, u_c = z := ⟨_, rfl⟩
        obtain ⟨g_i, hf⟩ := fg hf
        obtain ⟨ρ16, e_l, hf⟩ := fl hf
        refine sA_X13_13 e20 hN cx hp g_i dX13_readsNumbers_107 (fun u H locs e_u n_u hp => ?_)
        have e20 := e_u.trans e_l
        have fr : ∀ q, q ≠ 20 → u q = σ q := fun q h0 => (n_u q h0).trans (fr q h0)
        refine lv_aload_n hx hb dX13_readsNumbers_108 rfl (lv_at hl 0 rfl) ?_
        refine gF_X13_51 rfl hN cx hp dX13_readsNumbers_109 ?_
        refine lv_iload_n hx hb dX13_readsNumbers_112 rfl (lv_at hl 1 rfl) ?_
        refine lv_iconst (v := 2) hx hb dX13_readsNumbers_113 (by decide) ?_
        refine lv_iadd hx hb dX13_readsNumbers_114 ?_
        refine lv_aload_n hx hb dX13_readsNumbers_115 rfl (lv_at hl 0 rfl) ?_
        refine lv_iload_n hx hb dX13_readsNumbers_116 rfl (lv_at hl 2 rfl) ?_
        obtain ⟨r17, ρ18, hc, hf⟩ := fb2 hf
        refine x_i hp (y_V (As := [.int p2]) (rest := [.int (p1 + 2), .ref (adr E 20 13)]) cx hp hl (c_X13_secondOf l hN hT e20 hc) (cw_X13_286 cx (mc := 0) (ms := 0) rfl rfl ⟨by decide, by decide⟩) (rC_X13 hN cx hp) rfl rfl (Nat.le_of_ble_eq_true rfl) dX13_readsNumbers_117 ⟨Nat.zero_le _, Nat.zero_le _⟩) (fun r_c u_c H locs hq hp => ?_)
        obtain ⟨rfl, e_0, n_u⟩ := hq
        have e20 := e_0
        have fr : ∀ q, q ≠ 20 → u_c q = σ q := fun q h0 => (n_u q h0).trans (fr q h0)
        obtain ⟨u, rfl⟩ : ∃ z, u_c = z := ⟨_, rfl⟩
        obtain ⟨g_i, hf⟩ := fg hf
        obtain ⟨ρ19, e_l, hf⟩ := fl hf
        refine sA_X13_13 e20 hN cx hp g_i dX13_readsNumbers_120 (fun u H locs e_u n_u hp => ?_)
        have e20 := e_u.trans e_l
        have fr : ∀ q, q ≠ 20 → u q = σ q := fun q h0 => (n_u q h0).trans (fr q h0)
        cases hf
        exact r_v cx hp ⟨e20, fr⟩ dX13_readsNumbers_121
abbrev rm_X13_readsCommand : Room := { frames := 9, cells := 0, slots := 0, locals := 193 }
set_option maxRecDepth 100000 in
set_option maxHeartbeats 4000000 in
theorem c_X13_readsCommand (l : Launch) {E : Ev} (hN : 146 ≤ eN E) (hT : St E) {σ : SM} {ρ : OM} (e20 : σ 20 = ρ)  {ρ' : OM} (hf : f_X13_readsCommand ρ = some ρ') : Met l yX13_readsCommand (wC yX13_readsCommand cX13_readsCommand 3 none) rm_X13_readsCommand (va_Pc [.ref (adr E 20 0)] (Wu E σ)) (va_Qv (fun u => u 20 = ρ' ∧ ∀ q, q ≠ 20 → u q = σ q) (fun u t => Wu E u t) (eA E)) 0 0 (eA E) := by
  refine g_entry (lv := [(0, .ref (adr E 20 0))]) (by decide) (Nat.le_of_ble_eq_true rfl) rfl ?_
  intro p e s m below meth c cx hp ls hl
  have hx := cx.1.1
  have hb := cx.1.2.1
  have fr : ∀ q, q ≠ 20 → σ q = σ q := fun _ _ => rfl
  unfold f_X13_readsCommand at hf
  refine lv_aload_n hx hb dX13_readsCommand_0 rfl (lv_at hl 0 rfl) ?_
  obtain ⟨r1, hc, hf⟩ := fb hf
  refine x_i hp (y_V (As := []) (rest := []) cx hp hl (c_X13_kindOfWord l hN hT e20 hc) (cw_X13_289 cx (mc := 0) (ms := 0) rfl rfl ⟨by decide, by decide⟩) (rC_X13 hN cx hp) rfl rfl (Nat.le_of_ble_eq_true rfl) dX13_readsCommand_1 ⟨Nat.zero_le _, Nat.zero_le _⟩) (fun r_c u_c H locs hq hp => ?_)
  obtain ⟨rfl, rfl⟩ := hq
  refine lv_istore_n (lv' := [(1, .int r1), (0, .ref (adr E 20 0))]) hx hb dX13_readsCommand_4 rfl hl (by decide) rfl (fun ls hl => ?_)
  refine lv_iload_n hx hb dX13_readsCommand_5 rfl (lv_at hl 0 rfl) ?_
  refine lv_iconst (v := (-1)) hx hb dX13_readsCommand_6 (by decide) ?_
  refine lv_icmp_ne (tgt := 16) hx hb dX13_readsCommand_7 (by decide) (fun c2 => ?_) (fun c2 => ?_)
  · have hf := fn hf c2
    refine lv_aload_n hx hb dX13_readsCommand_16 rfl (lv_at hl 1 rfl) ?_
    refine gF_X13_292 e20 hN cx hp dX13_readsCommand_17 ?_
    refine lv_bipush (v := 20) hx hb dX13_readsCommand_20 (by decide) ?_
    refine lv_icmp_ne (tgt := 31) hx hb dX13_readsCommand_22 (by decide) (fun c3 => ?_) (fun c3 => ?_)
    · have hf := fn hf c3
      refine lv_aload_n hx hb dX13_readsCommand_31 rfl (lv_at hl 1 rfl) ?_
      obtain ⟨ρ4, hc, hf⟩ := fb hf
      refine x_v hp (y_V (As := []) (rest := []) cx hp hl (c_X13_nextToken l hN hT e20 hc) (cw_X13_199 cx (mc := 0) (ms := 0) rfl rfl ⟨by decide, by decide⟩) (rC_X13 hN cx hp) rfl rfl (Nat.le_of_ble_eq_true rfl) dX13_readsCommand_32 ⟨Nat.zero_le _, Nat.zero_le _⟩) (fun u_c H locs hq hp => ?_)
      obtain ⟨e_0, n_u⟩ := hq
      have e20 := e_0
      have fr : ∀ q, q ≠ 20 → u_c q = σ q := fun q h0 => (n_u q h0).trans (fr q h0)
      obtain ⟨u, rfl⟩ : ∃ z, u_c = z := ⟨_, rfl⟩
      refine lv_iconst (v := 3) hx hb dX13_readsCommand_35 (by decide) ?_
      refine lv_aload_n hx hb dX13_readsCommand_36 rfl (lv_at hl 1 rfl) ?_
      refine gF_X13_292 e20 hN cx hp dX13_readsCommand_37 ?_
      refine lv_imul hx hb dX13_readsCommand_40 ?_
      obtain ⟨i5, x_e, hf⟩ := fl hf
      refine lv_nm x_e ?_
      refine lv_istore_n (lv' := [(2, .int i5), (1, .int r1), (0, .ref (adr E 20 0))]) hx hb dX13_readsCommand_41 rfl hl (by decide) rfl (fun ls hl => ?_)
      refine lv_aload_n hx hb dX13_readsCommand_42 rfl (lv_at hl 2 rfl) ?_
      refine gF_X13_51 rfl hN cx hp dX13_readsCommand_43 ?_
      refine lv_iload_n hx hb dX13_readsCommand_46 rfl (lv_at hl 0 rfl) ?_
      refine lv_iload_n hx hb dX13_readsCommand_47 rfl (lv_at hl 1 rfl) ?_
      obtain ⟨g_i, hf⟩ := fg hf
      obtain ⟨ρ6, e_l, hf⟩ := fl hf
      refine sA_X13_13 e20 hN cx hp g_i dX13_readsCommand_48 (fun u H locs e_u n_u hp => ?_)
      have e20 := e_u.trans e_l
      have fr : ∀ q, q ≠ 20 → u q = σ q := fun q h0 => (n_u q h0).trans (fr q h0)
      refine lv_aload_n hx hb dX13_readsCommand_49 rfl (lv_at hl 2 rfl) ?_
      refine lv_iload_n hx hb dX13_readsCommand_50 rfl (lv_at hl 0 rfl) ?_
      refine lv_iload_n hx hb dX13_readsCommand_51 rfl (lv_at hl 1 rfl) ?_
      obtain ⟨ρ7, hc, hf⟩ := fb hf
      refine x_v hp (y_V (As := [.int i5, .int r1]) (rest := []) cx hp hl (c_X13_readsNumbers l hN hT e20 hc) (cw_X13_295 cx (mc := 0) (ms := 0) rfl rfl ⟨by decide, by decide⟩) (rC_X13 hN cx hp) rfl rfl (Nat.le_of_ble_eq_true rfl) dX13_readsCommand_52 ⟨Nat.zero_le _, Nat.zero_le _⟩) (fun u_c H locs hq hp => ?_)
      obtain ⟨e_0, n_u⟩ := hq
      have e20 := e_0
      have fr : ∀ q, q ≠ 20 → u_c q = σ q := fun q h0 => (n_u q h0).trans (fr q h0)
      obtain ⟨u, rfl⟩ : ∃ z, u_c = z := ⟨_, rfl⟩
      refine lv_aload_n hx hb dX13_readsCommand_55 rfl (lv_at hl 2 rfl) ?_
      obtain ⟨ρ8, hc, hf⟩ := fb hf
      refine x_v hp (y_V (As := []) (rest := []) cx hp hl (c_X13_wantsSemicolon l hN hT e20 hc) (cw_X13_235 cx (mc := 0) (ms := 0) rfl rfl ⟨by decide, by decide⟩) (rC_X13 hN cx hp) rfl rfl (Nat.le_of_ble_eq_true rfl) dX13_readsCommand_56 ⟨Nat.zero_le _, Nat.zero_le _⟩) (fun u_c H locs hq hp => ?_)
      obtain ⟨e_0, n_u⟩ := hq
      have e20 := e_0
      have fr : ∀ q, q ≠ 20 → u_c q = σ q := fun q h0 => (n_u q h0).trans (fr q h0)
      obtain ⟨u, rfl⟩ : ∃ z, u_c = z := ⟨_, rfl⟩
      refine lv_aload_n hx hb dX13_readsCommand_59 rfl (lv_at hl 2 rfl) ?_
      refine lv_dup hx hb dX13_readsCommand_60 rfl ?_
      refine gF_X13_292 e20 hN cx hp dX13_readsCommand_61 ?_
      refine lv_iconst (v := 1) hx hb dX13_readsCommand_64 (by decide) ?_
      refine lv_iadd hx hb dX13_readsCommand_65 ?_
      obtain ⟨ρ9, e_l, hf⟩ := fl hf
      refine pF_X13_292 e20 hN cx hp dX13_readsCommand_66 (fun u H locs e_u n_u hp => ?_)
      have e20 := e_u.trans e_l
      have fr : ∀ q, q ≠ 20 → u q = σ q := fun q h0 => (n_u q h0).trans (fr q h0)
      cases hf
      exact r_v cx hp ⟨e20, fr⟩ dX13_readsCommand_69
    · have hf := fp hf c3
      refine lv_aload_n hx hb dX13_readsCommand_25 rfl (lv_at hl 1 rfl) ?_
      refine lv_iconst (v := 5) hx hb dX13_readsCommand_26 (by decide) ?_
      obtain ⟨ρ10, hc, hf⟩ := fb hf
      refine x_v hp (y_V (As := [.int 5]) (rest := []) cx hp hl (c_X13_wrong l hN hT e20 hc) (cw_X13_206 cx (mc := 0) (ms := 0) rfl rfl ⟨by decide, by decide⟩) (rC_X13 hN cx hp) rfl rfl (Nat.le_of_ble_eq_true rfl) dX13_readsCommand_27 ⟨Nat.zero_le _, Nat.zero_le _⟩) (fun u_c H locs hq hp => ?_)
      obtain ⟨e_0, n_u⟩ := hq
      have e20 := e_0
      have fr : ∀ q, q ≠ 20 → u_c q = σ q := fun q h0 => (n_u q h0).trans (fr q h0)
      obtain ⟨u, rfl⟩ : ∃ z, u_c = z := ⟨_, rfl⟩
      cases hf
      exact r_v cx hp ⟨e20, fr⟩ dX13_readsCommand_30
  · have hf := fp hf c2
    refine lv_aload_n hx hb dX13_readsCommand_10 rfl (lv_at hl 1 rfl) ?_
    refine lv_iconst (v := 1) hx hb dX13_readsCommand_11 (by decide) ?_
    obtain ⟨ρ11, hc, hf⟩ := fb hf
    refine x_v hp (y_V (As := [.int 1]) (rest := []) cx hp hl (c_X13_wrong l hN hT e20 hc) (cw_X13_206 cx (mc := 0) (ms := 0) rfl rfl ⟨by decide, by decide⟩) (rC_X13 hN cx hp) rfl rfl (Nat.le_of_ble_eq_true rfl) dX13_readsCommand_12 ⟨Nat.zero_le _, Nat.zero_le _⟩) (fun u_c H locs hq hp => ?_)
    obtain ⟨e_0, n_u⟩ := hq
    have e20 := e_0
    have fr : ∀ q, q ≠ 20 → u_c q = σ q := fun q h0 => (n_u q h0).trans (fr q h0)
    obtain ⟨u, rfl⟩ : ∃ z, u_c = z := ⟨_, rfl⟩
    cases hf
    exact r_v cx hp ⟨e20, fr⟩ dX13_readsCommand_15
abbrev rm_X13_does : Room := { frames := 6, cells := 0, slots := 0, locals := 137 }
set_option maxRecDepth 100000 in
set_option maxHeartbeats 4000000 in
theorem c_X13_does (l : Launch) {E : Ev} (hN : 146 ≤ eN E) (hT : St E) {σ : SM} {ρ : OM} (e20 : σ 20 = ρ) {p1 : Int32} {rv : Int32} {ρ' : OM} (hf : f_X13_does p1 ρ = some (rv, ρ')) : Met l yX13_does (wC yX13_does cX13_does 4 (some .boolean)) rm_X13_does (va_Pc [.ref (adr E 20 0), .int p1] (Wu E σ)) (va_Qi (fun r u => rv = r ∧ u 20 = ρ' ∧ ∀ q, q ≠ 20 → u q = σ q) (fun u t => Wu E u t) (eA E)) 0 0 (eA E) := by
  refine g_entry (lv := [(0, .ref (adr E 20 0)), (1, .int p1)]) (by decide) (Nat.le_of_ble_eq_true rfl) rfl ?_
  intro p e s m below meth c cx hp ls hl
  have hx := cx.1.1
  have hb := cx.1.2.1
  have fr : ∀ q, q ≠ 20 → σ q = σ q := fun _ _ => rfl
  unfold f_X13_does at hf
  refine lv_aload_n hx hb dX13_does_0 rfl (lv_at hl 0 rfl) ?_
  refine gF_X13_51 rfl hN cx hp dX13_does_1 ?_
  refine lv_iload_n hx hb dX13_does_4 rfl (lv_at hl 1 rfl) ?_
  refine lv_iconst (v := 1) hx hb dX13_does_5 (by decide) ?_
  refine lv_iadd hx hb dX13_does_6 ?_
  obtain ⟨g_i, hf⟩ := fg hf
  refine lA_X13_13 e20 hN cx hp g_i dX13_does_7 ?_
  obtain ⟨i1, x_e, hf⟩ := fl hf
  refine lv_nm x_e ?_
  refine lv_istore_n (lv' := [(2, .int i1), (0, .ref (adr E 20 0)), (1, .int p1)]) hx hb dX13_does_8 rfl hl (by decide) rfl (fun ls hl => ?_)
  refine lv_aload_n hx hb dX13_does_9 rfl (lv_at hl 1 rfl) ?_
  refine gF_X13_51 rfl hN cx hp dX13_does_10 ?_
  refine lv_iload_n hx hb dX13_does_13 rfl (lv_at hl 2 rfl) ?_
  refine lv_iconst (v := 2) hx hb dX13_does_14 (by decide) ?_
  refine lv_iadd hx hb dX13_does_15 ?_
  obtain ⟨g_i, hf⟩ := fg hf
  refine lA_X13_13 e20 hN cx hp g_i dX13_does_16 ?_
  obtain ⟨i2, x_e, hf⟩ := fl hf
  refine lv_nm x_e ?_
  refine lv_istore_n (lv' := [(3, .int i2), (2, .int i1), (0, .ref (adr E 20 0)), (1, .int p1)]) hx hb dX13_does_17 rfl hl (by decide) rfl (fun ls hl => ?_)
  refine lv_aload_n hx hb dX13_does_18 rfl (lv_at hl 2 rfl) ?_
  refine gF_X13_51 rfl hN cx hp dX13_does_19 ?_
  refine lv_iload_n hx hb dX13_does_22 rfl (lv_at hl 3 rfl) ?_
  obtain ⟨g_i, hf⟩ := fg hf
  refine lA_X13_13 e20 hN cx hp g_i dX13_does_23 ?_
  by_cases c3 : (ρ.1 13 (Int32.toNatClampNeg p1)) = 0
  · have hf := fp hf c3
    refine lv_nm c3 ?_
    refine lv_tableIn (off := 48) (tgt := 72) hx hb dX13_does_24 (by decide) (by decide) (by decide) (by decide) ?_
    refine lv_aload_n hx hb dX13_does_72 rfl (lv_at hl 2 rfl) ?_
    refine lv_iload_n hx hb dX13_does_73 rfl (lv_at hl 1 rfl) ?_
    refine lv_iload_n hx hb dX13_does_74 rfl (lv_at hl 0 rfl) ?_
    obtain ⟨r4, hc, hf⟩ := fb hf
    refine x_i hp (y_V (As := [.int i1, .int i2]) (rest := []) cx hp hl (c_X13_canAssign l hN hT e20 hc) (cw_X13_298 cx (mc := 0) (ms := 0) rfl rfl ⟨by decide, by decide⟩) (rC_X13 hN cx hp) rfl rfl (Nat.le_of_ble_eq_true rfl) dX13_does_75 ⟨Nat.zero_le _, Nat.zero_le _⟩) (fun r_c u_c H locs hq hp => ?_)
    obtain ⟨rfl, rfl⟩ := hq
    refine lv_if_eq (tgt := 95) hx hb dX13_does_78 (by decide) (fun c5 => ?_) (fun c5 => ?_)
    · have hf := fp hf c5
      refine lv_iconst (v := 0) hx hb dX13_does_95 (by decide) ?_
      cases hf
      exact r_z cx hp rfl ⟨rfl, e20, fr⟩ dX13_does_96
    · have hf := fn hf c5
      refine lv_aload_n hx hb dX13_does_81 rfl (lv_at hl 2 rfl) ?_
      refine lv_iload_n hx hb dX13_does_82 rfl (lv_at hl 1 rfl) ?_
      refine lv_iload_n hx hb dX13_does_83 rfl (lv_at hl 0 rfl) ?_
      obtain ⟨r6, ρ7, hc, hf⟩ := fb2 hf
      refine x_i hp (y_V (As := [.int i1, .int i2]) (rest := []) cx hp hl (c_X13_assigns l hN hT e20 hc) (cw_X13_301 cx (mc := 0) (ms := 0) rfl rfl ⟨by decide, by decide⟩) (rC_X13 hN cx hp) rfl rfl (Nat.le_of_ble_eq_true rfl) dX13_does_84 ⟨Nat.zero_le _, Nat.zero_le _⟩) (fun r_c u_c H locs hq hp => ?_)
      obtain ⟨rfl, e_0, n_u⟩ := hq
      have e20 := e_0
      have fr : ∀ q, q ≠ 20 → u_c q = σ q := fun q h0 => (n_u q h0).trans (fr q h0)
      obtain ⟨u, rfl⟩ : ∃ z, u_c = z := ⟨_, rfl⟩
      refine lv_iconst (v := (-1)) hx hb dX13_does_87 (by decide) ?_
      refine lv_icmp_lt (tgt := 95) hx hb dX13_does_88 (by decide) (fun c8 => ?_) (fun c8 => ?_)
      · have hf := fp hf c8
        refine lv_iconst (v := 0) hx hb dX13_does_95 (by decide) ?_
        cases hf
        exact r_z cx hp rfl ⟨rfl, e20, fr⟩ dX13_does_96
      · have hf := fn hf c8
        refine lv_iconst (v := 1) hx hb dX13_does_91 (by decide) ?_
        refine lv_goto (tgt := 96) hx hb dX13_does_92 (by decide) ?_
        cases hf
        exact r_z cx hp rfl ⟨rfl, e20, fr⟩ dX13_does_96
  · have hf := fn hf c3
    by_cases c9 : (ρ.1 13 (Int32.toNatClampNeg p1)) = 1
    · have hf := fp hf c9
      refine lv_nm c9 ?_
      refine lv_tableIn (off := 73) (tgt := 97) hx hb dX13_does_24 (by decide) (by decide) (by decide) (by decide) ?_
      refine lv_aload_n hx hb dX13_does_97 rfl (lv_at hl 2 rfl) ?_
      refine lv_iload_n hx hb dX13_does_98 rfl (lv_at hl 1 rfl) ?_
      refine lv_iconst (v := 3) hx hb dX13_does_99 (by decide) ?_
      obtain ⟨r10, hc, hf⟩ := fb hf
      refine x_i hp (y_V (As := [.int i1, .int 3]) (rest := []) cx hp hl (c_X13_of l hN hT e20 hc) (cw_X13_98 cx (mc := 0) (ms := 0) rfl rfl ⟨by decide, by decide⟩) (rC_X13 hN cx hp) rfl rfl (Nat.le_of_ble_eq_true rfl) dX13_does_100 ⟨Nat.zero_le _, Nat.zero_le _⟩) (fun r_c u_c H locs hq hp => ?_)
      obtain ⟨rfl, rfl⟩ := hq
      refine lv_iconst (v := (-1)) hx hb dX13_does_103 (by decide) ?_
      refine lv_icmp_eq (tgt := 120) hx hb dX13_does_104 (by decide) (fun c11 => ?_) (fun c11 => ?_)
      · have hf := fp hf c11
        refine lv_iconst (v := 0) hx hb dX13_does_120 (by decide) ?_
        cases hf
        exact r_z cx hp rfl ⟨rfl, e20, fr⟩ dX13_does_121
      · have hf := fn hf c11
        refine lv_aload_n hx hb dX13_does_107 rfl (lv_at hl 2 rfl) ?_
        refine lv_iload_n hx hb dX13_does_108 rfl (lv_at hl 1 rfl) ?_
        refine lv_iconst (v := (-1)) hx hb dX13_does_109 (by decide) ?_
        obtain ⟨r12, ρ13, hc, hf⟩ := fb2 hf
        refine x_i hp (y_V (As := [.int i1, .int (-1)]) (rest := []) cx hp hl (c_X13_assigns l hN hT e20 hc) (cw_X13_301 cx (mc := 0) (ms := 0) rfl rfl ⟨by decide, by decide⟩) (rC_X13 hN cx hp) rfl rfl (Nat.le_of_ble_eq_true rfl) dX13_does_110 ⟨Nat.zero_le _, Nat.zero_le _⟩) (fun r_c u_c H locs hq hp => ?_)
        obtain ⟨rfl, e_0, n_u⟩ := hq
        have e20 := e_0
        have fr : ∀ q, q ≠ 20 → u_c q = σ q := fun q h0 => (n_u q h0).trans (fr q h0)
        obtain ⟨u, rfl⟩ : ∃ z, u_c = z := ⟨_, rfl⟩
        refine lv_if_lt (tgt := 120) hx hb dX13_does_113 (by decide) (fun c14 => ?_) (fun c14 => ?_)
        · have hf := fp hf c14
          refine lv_iconst (v := 0) hx hb dX13_does_120 (by decide) ?_
          cases hf
          exact r_z cx hp rfl ⟨rfl, e20, fr⟩ dX13_does_121
        · have hf := fn hf c14
          refine lv_iconst (v := 1) hx hb dX13_does_116 (by decide) ?_
          refine lv_goto (tgt := 121) hx hb dX13_does_117 (by decide) ?_
          cases hf
          exact r_z cx hp rfl ⟨rfl, e20, fr⟩ dX13_does_121
    · have hf := fn hf c9
      by_cases c15 : (ρ.1 13 (Int32.toNatClampNeg p1)) = 2
      · have hf := fp hf c15
        refine lv_nm c15 ?_
        refine lv_tableIn (off := 98) (tgt := 122) hx hb dX13_does_24 (by decide) (by decide) (by decide) (by decide) ?_
        refine lv_aload_n hx hb dX13_does_122 rfl (lv_at hl 2 rfl) ?_
        refine lv_iload_n hx hb dX13_does_123 rfl (lv_at hl 1 rfl) ?_
        refine lv_iload_n hx hb dX13_does_124 rfl (lv_at hl 0 rfl) ?_
        obtain ⟨r16, hc, hf⟩ := fb hf
        refine x_i hp (y_V (As := [.int i1, .int i2]) (rest := []) cx hp hl (c_X13_exchange l hN hT e20 hc) (cw_X13_304 cx (mc := 0) (ms := 0) rfl rfl ⟨by decide, by decide⟩) (rC_X13 hN cx hp) rfl rfl (Nat.le_of_ble_eq_true rfl) dX13_does_125 ⟨Nat.zero_le _, Nat.zero_le _⟩) (fun r_c u_c H locs hq hp => ?_)
        obtain ⟨rfl, rfl⟩ := hq
        refine lv_if_eq (tgt := 144) hx hb dX13_does_128 (by decide) (fun c17 => ?_) (fun c17 => ?_)
        · have hf := fp hf c17
          refine lv_iconst (v := 0) hx hb dX13_does_144 (by decide) ?_
          cases hf
          exact r_z cx hp rfl ⟨rfl, e20, fr⟩ dX13_does_145
        · have hf := fn hf c17
          refine lv_aload_n hx hb dX13_does_131 rfl (lv_at hl 2 rfl) ?_
          refine lv_iload_n hx hb dX13_does_132 rfl (lv_at hl 1 rfl) ?_
          refine lv_iload_n hx hb dX13_does_133 rfl (lv_at hl 0 rfl) ?_
          obtain ⟨r18, ρ19, hc, hf⟩ := fb2 hf
          refine x_i hp (y_V (As := [.int i1, .int i2]) (rest := []) cx hp hl (c_X13_swaps l hN hT e20 hc) (cw_X13_307 cx (mc := 0) (ms := 0) rfl rfl ⟨by decide, by decide⟩) (rC_X13 hN cx hp) rfl rfl (Nat.le_of_ble_eq_true rfl) dX13_does_134 ⟨Nat.zero_le _, Nat.zero_le _⟩) (fun r_c u_c H locs hq hp => ?_)
          obtain ⟨rfl, e_0, n_u⟩ := hq
          have e20 := e_0
          have fr : ∀ q, q ≠ 20 → u_c q = σ q := fun q h0 => (n_u q h0).trans (fr q h0)
          obtain ⟨u, rfl⟩ : ∃ z, u_c = z := ⟨_, rfl⟩
          refine lv_if_lt (tgt := 144) hx hb dX13_does_137 (by decide) (fun c20 => ?_) (fun c20 => ?_)
          · have hf := fp hf c20
            refine lv_iconst (v := 0) hx hb dX13_does_144 (by decide) ?_
            cases hf
            exact r_z cx hp rfl ⟨rfl, e20, fr⟩ dX13_does_145
          · have hf := fn hf c20
            refine lv_iconst (v := 1) hx hb dX13_does_140 (by decide) ?_
            refine lv_goto (tgt := 145) hx hb dX13_does_141 (by decide) ?_
            cases hf
            exact r_z cx hp rfl ⟨rfl, e20, fr⟩ dX13_does_145
      · have hf := fn hf c15
        by_cases c21 : (ρ.1 13 (Int32.toNatClampNeg p1)) = 3
        · have hf := fp hf c21
          refine lv_nm c21 ?_
          refine lv_tableIn (off := 122) (tgt := 146) hx hb dX13_does_24 (by decide) (by decide) (by decide) (by decide) ?_
          refine lv_aload_n hx hb dX13_does_146 rfl (lv_at hl 2 rfl) ?_
          obtain ⟨r22, ρ23, hc, hf⟩ := fb2 hf
          refine x_i hp (y_V (As := []) (rest := []) cx hp hl (c_X13_reallocates l hN hT e20 hc) (cw_X13_310 cx (mc := 0) (ms := 0) rfl rfl ⟨by decide, by decide⟩) (rC_X13 hN cx hp) rfl rfl (Nat.le_of_ble_eq_true rfl) dX13_does_147 ⟨Nat.zero_le _, Nat.zero_le _⟩) (fun r_c u_c H locs hq hp => ?_)
          obtain ⟨rfl, e_0, n_u⟩ := hq
          have e20 := e_0
          have fr : ∀ q, q ≠ 20 → u_c q = σ q := fun q h0 => (n_u q h0).trans (fr q h0)
          obtain ⟨u, rfl⟩ : ∃ z, u_c = z := ⟨_, rfl⟩
          refine lv_if_lt (tgt := 157) hx hb dX13_does_150 (by decide) (fun c24 => ?_) (fun c24 => ?_)
          · have hf := fp hf c24
            refine lv_iconst (v := 0) hx hb dX13_does_157 (by decide) ?_
            cases hf
            exact r_z cx hp rfl ⟨rfl, e20, fr⟩ dX13_does_158
          · have hf := fn hf c24
            refine lv_iconst (v := 1) hx hb dX13_does_153 (by decide) ?_
            refine lv_goto (tgt := 158) hx hb dX13_does_154 (by decide) ?_
            cases hf
            exact r_z cx hp rfl ⟨rfl, e20, fr⟩ dX13_does_158
        · have hf := fn hf c21
          by_cases c25 : (ρ.1 13 (Int32.toNatClampNeg p1)) = 4
          · have hf := fp hf c25
            refine lv_nm c25 ?_
            refine lv_tableIn (off := 135) (tgt := 159) hx hb dX13_does_24 (by decide) (by decide) (by decide) (by decide) ?_
            refine lv_aload_n hx hb dX13_does_159 rfl (lv_at hl 2 rfl) ?_
            refine lv_iload_n hx hb dX13_does_160 rfl (lv_at hl 1 rfl) ?_
            refine lv_iload_n hx hb dX13_does_161 rfl (lv_at hl 0 rfl) ?_
            obtain ⟨r26, ρ27, hc, hf⟩ := fb2 hf
            refine x_i hp (y_V (As := [.int i1, .int i2]) (rest := []) cx hp hl (c_X13_putsFirst l hN hT e20 hc) (cw_X13_313 cx (mc := 0) (ms := 0) rfl rfl ⟨by decide, by decide⟩) (rC_X13 hN cx hp) rfl rfl (Nat.le_of_ble_eq_true rfl) dX13_does_162 ⟨Nat.zero_le _, Nat.zero_le _⟩) (fun r_c u_c H locs hq hp => ?_)
            obtain ⟨rfl, e_0, n_u⟩ := hq
            have e20 := e_0
            have fr : ∀ q, q ≠ 20 → u_c q = σ q := fun q h0 => (n_u q h0).trans (fr q h0)
            obtain ⟨u, rfl⟩ : ∃ z, u_c = z := ⟨_, rfl⟩
            refine lv_if_le (tgt := 172) hx hb dX13_does_165 (by decide) (fun c28 => ?_) (fun c28 => ?_)
            · have hf := fp hf c28
              refine lv_iconst (v := 0) hx hb dX13_does_172 (by decide) ?_
              cases hf
              exact r_z cx hp rfl ⟨rfl, e20, fr⟩ dX13_does_173
            · have hf := fn hf c28
              refine lv_iconst (v := 1) hx hb dX13_does_168 (by decide) ?_
              refine lv_goto (tgt := 173) hx hb dX13_does_169 (by decide) ?_
              cases hf
              exact r_z cx hp rfl ⟨rfl, e20, fr⟩ dX13_does_173
          · have hf := fn hf c25
            by_cases c29 : (ρ.1 13 (Int32.toNatClampNeg p1)) = 5
            · have hf := fp hf c29
              refine lv_nm c29 ?_
              refine lv_tableIn (off := 150) (tgt := 174) hx hb dX13_does_24 (by decide) (by decide) (by decide) (by decide) ?_
              refine lv_aload_n hx hb dX13_does_174 rfl (lv_at hl 2 rfl) ?_
              refine lv_iload_n hx hb dX13_does_175 rfl (lv_at hl 1 rfl) ?_
              refine lv_iload_n hx hb dX13_does_176 rfl (lv_at hl 0 rfl) ?_
              obtain ⟨r30, hc, hf⟩ := fb hf
              refine x_i hp (y_V (As := [.int i1, .int i2]) (rest := []) cx hp hl (c_X13_rank l hN hT e20 hc) (cw_X13_102 cx (mc := 0) (ms := 0) rfl rfl ⟨by decide, by decide⟩) (rC_X13 hN cx hp) rfl rfl (Nat.le_of_ble_eq_true rfl) dX13_does_177 ⟨Nat.zero_le _, Nat.zero_le _⟩) (fun r_c u_c H locs hq hp => ?_)
              obtain ⟨rfl, rfl⟩ := hq
              refine lv_iconst (v := (-1)) hx hb dX13_does_180 (by decide) ?_
              refine lv_icmp_eq (tgt := 197) hx hb dX13_does_181 (by decide) (fun c31 => ?_) (fun c31 => ?_)
              · have hf := fp hf c31
                refine lv_iconst (v := 0) hx hb dX13_does_197 (by decide) ?_
                cases hf
                exact r_z cx hp rfl ⟨rfl, e20, fr⟩ dX13_does_198
              · have hf := fn hf c31
                refine lv_aload_n hx hb dX13_does_184 rfl (lv_at hl 2 rfl) ?_
                refine lv_iload_n hx hb dX13_does_185 rfl (lv_at hl 1 rfl) ?_
                refine lv_iload_n hx hb dX13_does_186 rfl (lv_at hl 0 rfl) ?_
                obtain ⟨r32, ρ33, hc, hf⟩ := fb2 hf
                refine x_i hp (y_V (As := [.int i1, .int i2]) (rest := []) cx hp hl (c_X13_removes l hN hT e20 hc) (cw_X13_158 cx (mc := 0) (ms := 0) rfl rfl ⟨by decide, by decide⟩) (rC_X13 hN cx hp) rfl rfl (Nat.le_of_ble_eq_true rfl) dX13_does_187 ⟨Nat.zero_le _, Nat.zero_le _⟩) (fun r_c u_c H locs hq hp => ?_)
                obtain ⟨rfl, e_0, n_u⟩ := hq
                have e20 := e_0
                have fr : ∀ q, q ≠ 20 → u_c q = σ q := fun q h0 => (n_u q h0).trans (fr q h0)
                obtain ⟨u, rfl⟩ : ∃ z, u_c = z := ⟨_, rfl⟩
                refine lv_if_lt (tgt := 197) hx hb dX13_does_190 (by decide) (fun c34 => ?_) (fun c34 => ?_)
                · have hf := fp hf c34
                  refine lv_iconst (v := 0) hx hb dX13_does_197 (by decide) ?_
                  cases hf
                  exact r_z cx hp rfl ⟨rfl, e20, fr⟩ dX13_does_198
                · have hf := fn hf c34
                  refine lv_iconst (v := 1) hx hb dX13_does_193 (by decide) ?_
                  refine lv_goto (tgt := 198) hx hb dX13_does_194 (by decide) ?_
                  cases hf
                  exact r_z cx hp rfl ⟨rfl, e20, fr⟩ dX13_does_198
            · have hf := fn hf c29
              by_cases c35 : (ρ.1 13 (Int32.toNatClampNeg p1)) = 6
              · have hf := fp hf c35
                refine lv_nm c35 ?_
                refine lv_tableIn (off := 175) (tgt := 199) hx hb dX13_does_24 (by decide) (by decide) (by decide) (by decide) ?_
                refine lv_aload_n hx hb dX13_does_199 rfl (lv_at hl 2 rfl) ?_
                refine gF_X13_7 rfl hN cx hp dX13_does_200 ?_
                refine lv_bipush (v := 9) hx hb dX13_does_203 (by decide) ?_
                refine lv_iconst (v := 2) hx hb dX13_does_205 (by decide) ?_
                refine lv_iload_n hx hb dX13_does_206 rfl (lv_at hl 1 rfl) ?_
                refine lv_imul hx hb dX13_does_207 ?_
                refine lv_iadd hx hb dX13_does_208 ?_
                refine lv_iconst (v := 1) hx hb dX13_does_209 (by decide) ?_
                refine lv_iadd hx hb dX13_does_210 ?_
                refine lv_iload_n hx hb dX13_does_211 rfl (lv_at hl 0 rfl) ?_
                obtain ⟨g_i, hf⟩ := fg hf
                obtain ⟨ρ36, e_l, hf⟩ := fl hf
                refine sA_X13_1 e20 hN cx hp g_i dX13_does_212 (fun u H locs e_u n_u hp => ?_)
                have e20 := e_u.trans e_l
                have fr : ∀ q, q ≠ 20 → u q = σ q := fun q h0 => (n_u q h0).trans (fr q h0)
                refine lv_iconst (v := 1) hx hb dX13_does_213 (by decide) ?_
                cases hf
                exact r_z cx hp rfl ⟨rfl, e20, fr⟩ dX13_does_214
              · have hf := fn hf c35
                by_cases c37 : (ρ.1 13 (Int32.toNatClampNeg p1)) = 7
                · have hf := fp hf c37
                  refine lv_nm c37 ?_
                  refine lv_tableIn (off := 191) (tgt := 215) hx hb dX13_does_24 (by decide) (by decide) (by decide) (by decide) ?_
                  refine lv_aload_n hx hb dX13_does_215 rfl (lv_at hl 2 rfl) ?_
                  refine lv_iload_n hx hb dX13_does_216 rfl (lv_at hl 1 rfl) ?_
                  refine lv_iload_n hx hb dX13_does_217 rfl (lv_at hl 0 rfl) ?_
                  obtain ⟨r38, ρ39, hc, hf⟩ := fb2 hf
                  refine x_i hp (y_V (As := [.int i1, .int i2]) (rest := []) cx hp hl (c_X13_deposits l hN hT e20 hc) (cw_X13_161 cx (mc := 0) (ms := 0) rfl rfl ⟨by decide, by decide⟩) (rC_X13 hN cx hp) rfl rfl (Nat.le_of_ble_eq_true rfl) dX13_does_218 ⟨Nat.zero_le _, Nat.zero_le _⟩) (fun r_c u_c H locs hq hp => ?_)
                  obtain ⟨rfl, e_0, n_u⟩ := hq
                  have e20 := e_0
                  have fr : ∀ q, q ≠ 20 → u_c q = σ q := fun q h0 => (n_u q h0).trans (fr q h0)
                  obtain ⟨u, rfl⟩ : ∃ z, u_c = z := ⟨_, rfl⟩
                  refine lv_if_le (tgt := 228) hx hb dX13_does_221 (by decide) (fun c40 => ?_) (fun c40 => ?_)
                  · have hf := fp hf c40
                    refine lv_iconst (v := 0) hx hb dX13_does_228 (by decide) ?_
                    cases hf
                    exact r_z cx hp rfl ⟨rfl, e20, fr⟩ dX13_does_229
                  · have hf := fn hf c40
                    refine lv_iconst (v := 1) hx hb dX13_does_224 (by decide) ?_
                    refine lv_goto (tgt := 229) hx hb dX13_does_225 (by decide) ?_
                    cases hf
                    exact r_z cx hp rfl ⟨rfl, e20, fr⟩ dX13_does_229
                · have hf := fn hf c37
                  have t_o : (ρ.1 13 (Int32.toNatClampNeg p1)).toInt < 0 ∨ 7 < (ρ.1 13 (Int32.toNatClampNeg p1)).toInt := by
                    have := i_ne (n := 0) c3 (by decide)
                    have := i_ne (n := 1) c9 (by decide)
                    have := i_ne (n := 2) c15 (by decide)
                    have := i_ne (n := 3) c21 (by decide)
                    have := i_ne (n := 4) c25 (by decide)
                    have := i_ne (n := 5) c29 (by decide)
                    have := i_ne (n := 6) c35 (by decide)
                    have := i_ne (n := 7) c37 (by decide)
                    omega
                  refine lv_tableOut (tgt := 230) hx hb dX13_does_24 t_o (by decide) ?_
                  refine lv_aload_n hx hb dX13_does_230 rfl (lv_at hl 2 rfl) ?_
                  refine gF_X13_7 rfl hN cx hp dX13_does_231 ?_
                  refine lv_iconst (v := 2) hx hb dX13_does_234 (by decide) ?_
                  obtain ⟨g_i, hf⟩ := fg hf
                  refine lA_X13_1 e20 hN cx hp g_i dX13_does_235 ?_
                  refine lv_iload_n hx hb dX13_does_236 rfl (lv_at hl 1 rfl) ?_
                  refine lv_iadd hx hb dX13_does_237 ?_
                  refine lv_sipush (v := 9999) hx hb dX13_does_238 (by decide) ?_
                  refine lv_icmp_gt (tgt := 256) hx hb dX13_does_241 (by decide) (fun c41 => ?_) (fun c41 => ?_)
                  · have hf := fp hf c41
                    refine lv_iconst (v := 0) hx hb dX13_does_256 (by decide) ?_
                    cases hf
                    exact r_z cx hp rfl ⟨rfl, e20, fr⟩ dX13_does_257
                  · have hf := fn hf c41
                    refine lv_aload_n hx hb dX13_does_244 rfl (lv_at hl 2 rfl) ?_
                    refine lv_iload_n hx hb dX13_does_245 rfl (lv_at hl 1 rfl) ?_
                    obtain ⟨r42, ρ43, hc, hf⟩ := fb2 hf
                    refine x_i hp (y_V (As := [.int i1]) (rest := []) cx hp hl (c_X13_passes l hN hT e20 hc) (cw_X13_316 cx (mc := 0) (ms := 0) rfl rfl ⟨by decide, by decide⟩) (rC_X13 hN cx hp) rfl rfl (Nat.le_of_ble_eq_true rfl) dX13_does_246 ⟨Nat.zero_le _, Nat.zero_le _⟩) (fun r_c u_c H locs hq hp => ?_)
                    obtain ⟨rfl, e_0, n_u⟩ := hq
                    have e20 := e_0
                    have fr : ∀ q, q ≠ 20 → u_c q = σ q := fun q h0 => (n_u q h0).trans (fr q h0)
                    obtain ⟨u, rfl⟩ : ∃ z, u_c = z := ⟨_, rfl⟩
                    refine lv_if_lt (tgt := 256) hx hb dX13_does_249 (by decide) (fun c44 => ?_) (fun c44 => ?_)
                    · have hf := fp hf c44
                      refine lv_iconst (v := 0) hx hb dX13_does_256 (by decide) ?_
                      cases hf
                      exact r_z cx hp rfl ⟨rfl, e20, fr⟩ dX13_does_257
                    · have hf := fn hf c44
                      refine lv_iconst (v := 1) hx hb dX13_does_252 (by decide) ?_
                      refine lv_goto (tgt := 257) hx hb dX13_does_253 (by decide) ?_
                      cases hf
                      exact r_z cx hp rfl ⟨rfl, e20, fr⟩ dX13_does_257
abbrev rm_X13_four : Room := { frames := 0, cells := 0, slots := 0, locals := 0 }
set_option maxRecDepth 100000 in
set_option maxHeartbeats 4000000 in
theorem L_X13_four_3 {p : Program} {e : Env} {s : State} {m : MethodId} {args : Array Value} {below : List Frame} {meth : Method} {c : Code} (l : Launch) {E : Ev} (hN : 146 ≤ eN E) (hT : St E) {σ : SM} (cx : Cx E p s m meth c args RX13 cX13_four 3 none) {x1 : Int32} {ρ' : OM} : ∀ (n : Nat) {x2 : Int32} {ρ : OM}, f_X13_four_3 x1 n x2 ρ = some ρ' → ∀ {u : SM} {H : Heap} {locs : List Loc} {ls : Array Slot}, u 20 = ρ → (∀ q, q ≠ 20 → u q = σ q) → Hp E u s H locs → lv_has ls 3 [(0, .ref (adr E 20 0)), (1, .int x1), (2, .int x2)] → W p l e rm_X13_four s m args below meth c H locs 0 0 (MQ below (va_Qv (fun u => u 20 = ρ' ∧ ∀ q, q ≠ 20 → u q = σ q) (fun u t => Wu E u t) (eA E)) args s 0 0 (eA E)) (F0 m 3 ls []) := by
  have hx := cx.1.1
  have hb := cx.1.2.1
  intro n
  induction n with
  | zero =>
    intro x2 ρ hf
    exact absurd hf (by simp [f_X13_four_3])
  | succ n ih =>
    intro x2 ρ hf u H locs ls e20 fr hp hl
    rw [f_X13_four_3] at hf
    refine lv_iload_n hx hb dX13_four_3 rfl (lv_at hl 2 rfl) ?_
    refine lv_if_lt (tgt := 39) hx hb dX13_four_4 (by decide) (fun c1 => ?_) (fun c1 => ?_)
    · have hf := fp hf c1
      cases hf
      exact r_v cx hp ⟨e20, fr⟩ dX13_four_39
    · have hf := fn hf c1
      refine lv_aload_n hx hb dX13_four_7 rfl (lv_at hl 0 rfl) ?_
      refine gF_X13_22 rfl hN cx hp dX13_four_8 ?_
      refine lv_aload_n hx hb dX13_four_11 rfl (lv_at hl 0 rfl) ?_
      refine gF_X13_74 e20 hN cx hp dX13_four_12 ?_
      refine lv_iload_n hx hb dX13_four_15 rfl (lv_at hl 1 rfl) ?_
      refine lv_iload_n hx hb dX13_four_16 rfl (lv_at hl 2 rfl) ?_
      refine lv_ishr hx hb dX13_four_17 ?_
      refine lv_sipush (v := 255) hx hb dX13_four_18 (by decide) ?_
      refine lv_iand hx hb dX13_four_21 ?_
      obtain ⟨g_i, hf⟩ := fg hf
      obtain ⟨ρ2, e_l, hf⟩ := fl hf
      refine sA_X13_5 e20 hN cx hp g_i dX13_four_22 (fun u H locs e_u n_u hp => ?_)
      have e20 := e_u.trans e_l
      have fr : ∀ q, q ≠ 20 → u q = σ q := fun q h0 => (n_u q h0).trans (fr q h0)
      refine lv_aload_n hx hb dX13_four_23 rfl (lv_at hl 0 rfl) ?_
      refine lv_dup hx hb dX13_four_24 rfl ?_
      refine gF_X13_74 e20 hN cx hp dX13_four_25 ?_
      refine lv_iconst (v := 1) hx hb dX13_four_28 (by decide) ?_
      refine lv_iadd hx hb dX13_four_29 ?_
      obtain ⟨ρ3, e_l, hf⟩ := fl hf
      refine pF_X13_74 e20 hN cx hp dX13_four_30 (fun u H locs e_u n_u hp => ?_)
      have e20 := e_u.trans e_l
      have fr : ∀ q, q ≠ 20 → u q = σ q := fun q h0 => (n_u q h0).trans (fr q h0)
      refine lv_iinc (v := (x2 + (-8))) (lv' := [(2, .int (x2 + (-8))), (0, .ref (adr E 20 0)), (1, .int x1)]) hx hb dX13_four_33 hl (k := 2) rfl rfl (by decide) rfl (fun ls hl => ?_)
      refine lv_goto (tgt := 3) hx hb dX13_four_36 (by decide) ?_
      exact ih  hf e20 fr hp (lv_sub hl [1, 2, 0] rfl)
set_option maxRecDepth 100000 in
set_option maxHeartbeats 4000000 in
theorem c_X13_four (l : Launch) {E : Ev} (hN : 146 ≤ eN E) (hT : St E) {σ : SM} {ρ : OM} (e20 : σ 20 = ρ) {p1 : Int32} {ρ' : OM} (hf : f_X13_four p1 ρ = some ρ') : Met l yX13_four (wC yX13_four cX13_four 3 none) rm_X13_four (va_Pc [.ref (adr E 20 0), .int p1] (Wu E σ)) (va_Qv (fun u => u 20 = ρ' ∧ ∀ q, q ≠ 20 → u q = σ q) (fun u t => Wu E u t) (eA E)) 0 0 (eA E) := by
  refine g_entry (lv := [(0, .ref (adr E 20 0)), (1, .int p1)]) (by decide) (Nat.le_of_ble_eq_true rfl) rfl ?_
  intro p e s m below meth c cx hp ls hl
  have hx := cx.1.1
  have hb := cx.1.2.1
  have fr : ∀ q, q ≠ 20 → σ q = σ q := fun _ _ => rfl
  unfold f_X13_four at hf
  refine lv_bipush (v := 24) hx hb dX13_four_0 (by decide) ?_
  refine lv_istore_n (lv' := [(2, .int 24), (0, .ref (adr E 20 0)), (1, .int p1)]) hx hb dX13_four_2 rfl hl (by decide) rfl (fun ls hl => ?_)
  exact L_X13_four_3 l hN hT cx  _ hf e20 fr hp (lv_sub hl [1, 2, 0] rfl)
abbrev rm_X13_appendInput : Room := { frames := 1, cells := 0, slots := 0, locals := 22 }
set_option maxRecDepth 100000 in
set_option maxHeartbeats 4000000 in
theorem c_X13_appendInput (l : Launch) {E : Ev} (hN : 146 ≤ eN E) (hT : St E) {σ : SM} {ρ : OM} (e20 : σ 20 = ρ) {p1 : Int32} {p2 : Int32} {p3 : Int32} {p4 : Int32} {p5 : Int32} {rv : Int32} {ρ' : OM} (hf : f_X13_appendInput p1 p2 p3 p4 p5 ρ = some (rv, ρ')) : Met l yX13_appendInput (wC yX13_appendInput cX13_appendInput 6 (some .int)) rm_X13_appendInput (va_Pc [.ref (adr E 20 0), .int p1, .int p2, .int p3, .int p4, .int p5] (Wu E σ)) (va_Qi (fun r u => rv = r ∧ u 20 = ρ' ∧ ∀ q, q ≠ 20 → u q = σ q) (fun u t => Wu E u t) (eA E)) 0 0 (eA E) := by
  refine g_entry (lv := [(0, .ref (adr E 20 0)), (1, .int p1), (2, .int p2), (3, .int p3), (4, .int p4), (5, .int p5)]) (by decide) (Nat.le_of_ble_eq_true rfl) rfl ?_
  intro p e s m below meth c cx hp ls hl
  have hx := cx.1.1
  have hb := cx.1.2.1
  have fr : ∀ q, q ≠ 20 → σ q = σ q := fun _ _ => rfl
  unfold f_X13_appendInput at hf
  refine lv_aload_n hx hb dX13_appendInput_0 rfl (lv_at hl 0 rfl) ?_
  refine lv_aload_n hx hb dX13_appendInput_1 rfl (lv_at hl 0 rfl) ?_
  refine gF_X13_74 e20 hN cx hp dX13_appendInput_2 ?_
  refine lv_bipush (v := 20) hx hb dX13_appendInput_5 (by decide) ?_
  refine lv_iadd hx hb dX13_appendInput_7 ?_
  refine lv_sipush (v := 700) hx hb dX13_appendInput_8 (by decide) ?_
  refine lv_icmp_le (tgt := 18) hx hb dX13_appendInput_11 (by decide) (fun c1 => ?_) (fun c1 => ?_)
  · have hf := fp hf c1
    refine lv_iconst (v := 0) hx hb dX13_appendInput_18 (by decide) ?_
    obtain ⟨ρ2, e_l, hf⟩ := fl hf
    refine pF_X13_77 e20 hN cx hp dX13_appendInput_19 (fun u H locs e_u n_u hp => ?_)
    have e20 := e_u.trans e_l
    have fr : ∀ q, q ≠ 20 → u q = σ q := fun q h0 => (n_u q h0).trans (fr q h0)
    refine lv_aload_n hx hb dX13_appendInput_22 rfl (lv_at hl 0 rfl) ?_
    refine gF_X13_77 e20 hN cx hp dX13_appendInput_23 ?_
    refine lv_if_le (tgt := 31) hx hb dX13_appendInput_26 (by decide) (fun c3 => ?_) (fun c3 => ?_)
    · have hf := fp hf c3
      refine lv_aload_n hx hb dX13_appendInput_31 rfl (lv_at hl 0 rfl) ?_
      refine lv_iload_n hx hb dX13_appendInput_32 rfl (lv_at hl 1 rfl) ?_
      obtain ⟨ρ4, hc, hf⟩ := fb hf
      refine x_v hp (y_V (As := [.int p1]) (rest := []) cx hp hl (c_X13_four l hN hT e20 hc) (cw_X13_319 cx (mc := 0) (ms := 0) rfl rfl ⟨by decide, by decide⟩) (rC_X13 hN cx hp) rfl rfl (Nat.le_of_ble_eq_true rfl) dX13_appendInput_33 ⟨Nat.zero_le _, Nat.zero_le _⟩) (fun u_c H locs hq hp => ?_)
      obtain ⟨e_0, n_u⟩ := hq
      have e20 := e_0
      have fr : ∀ q, q ≠ 20 → u_c q = σ q := fun q h0 => (n_u q h0).trans (fr q h0)
      obtain ⟨u, rfl⟩ : ∃ z, u_c = z := ⟨_, rfl⟩
      refine lv_aload_n hx hb dX13_appendInput_36 rfl (lv_at hl 0 rfl) ?_
      refine lv_iload_n hx hb dX13_appendInput_37 rfl (lv_at hl 2 rfl) ?_
      obtain ⟨ρ5, hc, hf⟩ := fb hf
      refine x_v hp (y_V (As := [.int p2]) (rest := []) cx hp hl (c_X13_four l hN hT e20 hc) (cw_X13_319 cx (mc := 0) (ms := 0) rfl rfl ⟨by decide, by decide⟩) (rC_X13 hN cx hp) rfl rfl (Nat.le_of_ble_eq_true rfl) dX13_appendInput_38 ⟨Nat.zero_le _, Nat.zero_le _⟩) (fun u_c H locs hq hp => ?_)
      obtain ⟨e_0, n_u⟩ := hq
      have e20 := e_0
      have fr : ∀ q, q ≠ 20 → u_c q = σ q := fun q h0 => (n_u q h0).trans (fr q h0)
      obtain ⟨u, rfl⟩ : ∃ z, u_c = z := ⟨_, rfl⟩
      refine lv_aload_n hx hb dX13_appendInput_41 rfl (lv_at hl 0 rfl) ?_
      refine lv_iload_n hx hb dX13_appendInput_42 rfl (lv_at hl 3 rfl) ?_
      obtain ⟨ρ6, hc, hf⟩ := fb hf
      refine x_v hp (y_V (As := [.int p3]) (rest := []) cx hp hl (c_X13_four l hN hT e20 hc) (cw_X13_319 cx (mc := 0) (ms := 0) rfl rfl ⟨by decide, by decide⟩) (rC_X13 hN cx hp) rfl rfl (Nat.le_of_ble_eq_true rfl) dX13_appendInput_43 ⟨Nat.zero_le _, Nat.zero_le _⟩) (fun u_c H locs hq hp => ?_)
      obtain ⟨e_0, n_u⟩ := hq
      have e20 := e_0
      have fr : ∀ q, q ≠ 20 → u_c q = σ q := fun q h0 => (n_u q h0).trans (fr q h0)
      obtain ⟨u, rfl⟩ : ∃ z, u_c = z := ⟨_, rfl⟩
      refine lv_aload_n hx hb dX13_appendInput_46 rfl (lv_at hl 0 rfl) ?_
      refine lv_iload hx hb dX13_appendInput_47 (lv_at hl 4 rfl) ?_
      obtain ⟨ρ7, hc, hf⟩ := fb hf
      refine x_v hp (y_V (As := [.int p4]) (rest := []) cx hp hl (c_X13_four l hN hT e20 hc) (cw_X13_319 cx (mc := 0) (ms := 0) rfl rfl ⟨by decide, by decide⟩) (rC_X13 hN cx hp) rfl rfl (Nat.le_of_ble_eq_true rfl) dX13_appendInput_49 ⟨Nat.zero_le _, Nat.zero_le _⟩) (fun u_c H locs hq hp => ?_)
      obtain ⟨e_0, n_u⟩ := hq
      have e20 := e_0
      have fr : ∀ q, q ≠ 20 → u_c q = σ q := fun q h0 => (n_u q h0).trans (fr q h0)
      obtain ⟨u, rfl⟩ : ∃ z, u_c = z := ⟨_, rfl⟩
      refine lv_aload_n hx hb dX13_appendInput_52 rfl (lv_at hl 0 rfl) ?_
      refine lv_iload hx hb dX13_appendInput_53 (lv_at hl 5 rfl) ?_
      obtain ⟨ρ8, hc, hf⟩ := fb hf
      refine x_v hp (y_V (As := [.int p5]) (rest := []) cx hp hl (c_X13_four l hN hT e20 hc) (cw_X13_319 cx (mc := 0) (ms := 0) rfl rfl ⟨by decide, by decide⟩) (rC_X13 hN cx hp) rfl rfl (Nat.le_of_ble_eq_true rfl) dX13_appendInput_55 ⟨Nat.zero_le _, Nat.zero_le _⟩) (fun u_c H locs hq hp => ?_)
      obtain ⟨e_0, n_u⟩ := hq
      have e20 := e_0
      have fr : ∀ q, q ≠ 20 → u_c q = σ q := fun q h0 => (n_u q h0).trans (fr q h0)
      obtain ⟨u, rfl⟩ : ∃ z, u_c = z := ⟨_, rfl⟩
      refine lv_aload_n hx hb dX13_appendInput_58 rfl (lv_at hl 0 rfl) ?_
      refine gF_X13_74 e20 hN cx hp dX13_appendInput_59 ?_
      cases hf
      exact r_i cx hp ⟨rfl, e20, fr⟩ dX13_appendInput_62
    · have hf := fn hf c3
      refine lv_iconst (v := 0) hx hb dX13_appendInput_29 (by decide) ?_
      cases hf
      exact r_i cx hp ⟨rfl, e20, fr⟩ dX13_appendInput_30
  · have hf := fn hf c1
    refine lv_iconst (v := 1) hx hb dX13_appendInput_14 (by decide) ?_
    refine lv_goto (tgt := 19) hx hb dX13_appendInput_15 (by decide) ?_
    obtain ⟨ρ9, e_l, hf⟩ := fl hf
    refine pF_X13_77 e20 hN cx hp dX13_appendInput_19 (fun u H locs e_u n_u hp => ?_)
    have e20 := e_u.trans e_l
    have fr : ∀ q, q ≠ 20 → u q = σ q := fun q h0 => (n_u q h0).trans (fr q h0)
    refine lv_aload_n hx hb dX13_appendInput_22 rfl (lv_at hl 0 rfl) ?_
    refine gF_X13_77 e20 hN cx hp dX13_appendInput_23 ?_
    refine lv_if_le (tgt := 31) hx hb dX13_appendInput_26 (by decide) (fun c10 => ?_) (fun c10 => ?_)
    · have hf := fp hf c10
      refine lv_aload_n hx hb dX13_appendInput_31 rfl (lv_at hl 0 rfl) ?_
      refine lv_iload_n hx hb dX13_appendInput_32 rfl (lv_at hl 1 rfl) ?_
      obtain ⟨ρ11, hc, hf⟩ := fb hf
      refine x_v hp (y_V (As := [.int p1]) (rest := []) cx hp hl (c_X13_four l hN hT e20 hc) (cw_X13_319 cx (mc := 0) (ms := 0) rfl rfl ⟨by decide, by decide⟩) (rC_X13 hN cx hp) rfl rfl (Nat.le_of_ble_eq_true rfl) dX13_appendInput_33 ⟨Nat.zero_le _, Nat.zero_le _⟩) (fun u_c H locs hq hp => ?_)
      obtain ⟨e_0, n_u⟩ := hq
      have e20 := e_0
      have fr : ∀ q, q ≠ 20 → u_c q = σ q := fun q h0 => (n_u q h0).trans (fr q h0)
      obtain ⟨u, rfl⟩ : ∃ z, u_c = z := ⟨_, rfl⟩
      refine lv_aload_n hx hb dX13_appendInput_36 rfl (lv_at hl 0 rfl) ?_
      refine lv_iload_n hx hb dX13_appendInput_37 rfl (lv_at hl 2 rfl) ?_
      obtain ⟨ρ12, hc, hf⟩ := fb hf
      refine x_v hp (y_V (As := [.int p2]) (rest := []) cx hp hl (c_X13_four l hN hT e20 hc) (cw_X13_319 cx (mc := 0) (ms := 0) rfl rfl ⟨by decide, by decide⟩) (rC_X13 hN cx hp) rfl rfl (Nat.le_of_ble_eq_true rfl) dX13_appendInput_38 ⟨Nat.zero_le _, Nat.zero_le _⟩) (fun u_c H locs hq hp => ?_)
      obtain ⟨e_0, n_u⟩ := hq
      have e20 := e_0
      have fr : ∀ q, q ≠ 20 → u_c q = σ q := fun q h0 => (n_u q h0).trans (fr q h0)
      obtain ⟨u, rfl⟩ : ∃ z, u_c = z := ⟨_, rfl⟩
      refine lv_aload_n hx hb dX13_appendInput_41 rfl (lv_at hl 0 rfl) ?_
      refine lv_iload_n hx hb dX13_appendInput_42 rfl (lv_at hl 3 rfl) ?_
      obtain ⟨ρ13, hc, hf⟩ := fb hf
      refine x_v hp (y_V (As := [.int p3]) (rest := []) cx hp hl (c_X13_four l hN hT e20 hc) (cw_X13_319 cx (mc := 0) (ms := 0) rfl rfl ⟨by decide, by decide⟩) (rC_X13 hN cx hp) rfl rfl (Nat.le_of_ble_eq_true rfl) dX13_appendInput_43 ⟨Nat.zero_le _, Nat.zero_le _⟩) (fun u_c H locs hq hp => ?_)
      obtain ⟨e_0, n_u⟩ := hq
      have e20 := e_0
      have fr : ∀ q, q ≠ 20 → u_c q = σ q := fun q h0 => (n_u q h0).trans (fr q h0)
      obtain ⟨u, rfl⟩ : ∃ z, u_c = z := ⟨_, rfl⟩
      refine lv_aload_n hx hb dX13_appendInput_46 rfl (lv_at hl 0 rfl) ?_
      refine lv_iload hx hb dX13_appendInput_47 (lv_at hl 4 rfl) ?_
      obtain ⟨ρ14, hc, hf⟩ := fb hf
      refine x_v hp (y_V (As := [.int p4]) (rest := []) cx hp hl (c_X13_four l hN hT e20 hc) (cw_X13_319 cx (mc := 0) (ms := 0) rfl rfl ⟨by decide, by decide⟩) (rC_X13 hN cx hp) rfl rfl (Nat.le_of_ble_eq_true rfl) dX13_appendInput_49 ⟨Nat.zero_le _, Nat.zero_le _⟩) (fun u_c H locs hq hp => ?_)
      obtain ⟨e_0, n_u⟩ := hq
      have e20 := e_0
      have fr : ∀ q, q ≠ 20 → u_c q = σ q := fun q h0 => (n_u q h0).trans (fr q h0)
      obtain ⟨u, rfl⟩ : ∃ z, u_c = z := ⟨_, rfl⟩
      refine lv_aload_n hx hb dX13_appendInput_52 rfl (lv_at hl 0 rfl) ?_
      refine lv_iload hx hb dX13_appendInput_53 (lv_at hl 5 rfl) ?_
      obtain ⟨ρ15, hc, hf⟩ := fb hf
      refine x_v hp (y_V (As := [.int p5]) (rest := []) cx hp hl (c_X13_four l hN hT e20 hc) (cw_X13_319 cx (mc := 0) (ms := 0) rfl rfl ⟨by decide, by decide⟩) (rC_X13 hN cx hp) rfl rfl (Nat.le_of_ble_eq_true rfl) dX13_appendInput_55 ⟨Nat.zero_le _, Nat.zero_le _⟩) (fun u_c H locs hq hp => ?_)
      obtain ⟨e_0, n_u⟩ := hq
      have e20 := e_0
      have fr : ∀ q, q ≠ 20 → u_c q = σ q := fun q h0 => (n_u q h0).trans (fr q h0)
      obtain ⟨u, rfl⟩ : ∃ z, u_c = z := ⟨_, rfl⟩
      refine lv_aload_n hx hb dX13_appendInput_58 rfl (lv_at hl 0 rfl) ?_
      refine gF_X13_74 e20 hN cx hp dX13_appendInput_59 ?_
      cases hf
      exact r_i cx hp ⟨rfl, e20, fr⟩ dX13_appendInput_62
    · have hf := fn hf c10
      refine lv_iconst (v := 0) hx hb dX13_appendInput_29 (by decide) ?_
      cases hf
      exact r_i cx hp ⟨rfl, e20, fr⟩ dX13_appendInput_30
abbrev rm_X13_truncateInput : Room := { frames := 1, cells := 0, slots := 0, locals := 22 }
set_option maxRecDepth 100000 in
set_option maxHeartbeats 4000000 in
theorem c_X13_truncateInput (l : Launch) {E : Ev} (hN : 146 ≤ eN E) (hT : St E) {σ : SM} {ρ : OM} (e20 : σ 20 = ρ) {p1 : Int32} {rv : Int32} {ρ' : OM} (hf : f_X13_truncateInput p1 ρ = some (rv, ρ')) : Met l yX13_truncateInput (wC yX13_truncateInput cX13_truncateInput 2 (some .int)) rm_X13_truncateInput (va_Pc [.ref (adr E 20 0), .int p1] (Wu E σ)) (va_Qi (fun r u => rv = r ∧ u 20 = ρ' ∧ ∀ q, q ≠ 20 → u q = σ q) (fun u t => Wu E u t) (eA E)) 0 0 (eA E) := by
  refine g_entry (lv := [(0, .ref (adr E 20 0)), (1, .int p1)]) (by decide) (Nat.le_of_ble_eq_true rfl) rfl ?_
  intro p e s m below meth c cx hp ls hl
  have hx := cx.1.1
  have hb := cx.1.2.1
  have fr : ∀ q, q ≠ 20 → σ q = σ q := fun _ _ => rfl
  unfold f_X13_truncateInput at hf
  refine lv_aload_n hx hb dX13_truncateInput_0 rfl (lv_at hl 0 rfl) ?_
  refine lv_iload_n hx hb dX13_truncateInput_1 rfl (lv_at hl 1 rfl) ?_
  refine lv_iconst (v := 0) hx hb dX13_truncateInput_2 (by decide) ?_
  refine lv_aload_n hx hb dX13_truncateInput_3 rfl (lv_at hl 0 rfl) ?_
  refine gF_X13_74 e20 hN cx hp dX13_truncateInput_4 ?_
  obtain ⟨r1, hc, hf⟩ := fb hf
  refine x_i hp (y_S (As := [.int p1, .int 0, .int (ρ.1 0 7)]) (rest := [.ref (adr E 20 0)]) cx hp hl (c_X13_isBetween l hN hT  hc) (cw_X13_90 cx (mc := 0) (ms := 0) rfl rfl ⟨by decide, by decide⟩) rfl rfl (Nat.le_of_ble_eq_true rfl) dX13_truncateInput_7 ⟨Nat.zero_le _, Nat.zero_le _⟩) (fun r_c u_c H locs hq hp => ?_)
  obtain ⟨rfl, rfl⟩ := hq
  obtain ⟨r2, ρ3, hc, hf⟩ := fb2 hf
  refine x_i hp (y_V (As := [.int r1]) (rest := []) cx hp hl (c_X13_wants l hN hT e20 hc) (cw_X13_322 cx (mc := 0) (ms := 0) rfl rfl ⟨by decide, by decide⟩) (rC_X13 hN cx hp) rfl rfl (Nat.le_of_ble_eq_true rfl) dX13_truncateInput_10 ⟨Nat.zero_le _, Nat.zero_le _⟩) (fun r_c u_c H locs hq hp => ?_)
  obtain ⟨rfl, e_0, n_u⟩ := hq
  have e20 := e_0
  have fr : ∀ q, q ≠ 20 → u_c q = σ q := fun q h0 => (n_u q h0).trans (fr q h0)
  obtain ⟨u, rfl⟩ : ∃ z, u_c = z := ⟨_, rfl⟩
  refine lv_if_ne (tgt := 18) hx hb dX13_truncateInput_13 (by decide) (fun c4 => ?_) (fun c4 => ?_)
  · have hf := fn hf c4
    refine lv_aload_n hx hb dX13_truncateInput_18 rfl (lv_at hl 0 rfl) ?_
    refine lv_iload_n hx hb dX13_truncateInput_19 rfl (lv_at hl 1 rfl) ?_
    obtain ⟨ρ5, e_l, hf⟩ := fl hf
    refine pF_X13_74 e20 hN cx hp dX13_truncateInput_20 (fun u H locs e_u n_u hp => ?_)
    have e20 := e_u.trans e_l
    have fr : ∀ q, q ≠ 20 → u q = σ q := fun q h0 => (n_u q h0).trans (fr q h0)
    refine lv_iload_n hx hb dX13_truncateInput_23 rfl (lv_at hl 1 rfl) ?_
    cases hf
    exact r_i cx hp ⟨rfl, e20, fr⟩ dX13_truncateInput_24
  · have hf := fp hf c4
    refine lv_iconst (v := 0) hx hb dX13_truncateInput_16 (by decide) ?_
    cases hf
    exact r_i cx hp ⟨rfl, e20, fr⟩ dX13_truncateInput_17
abbrev rm_X13_loadSetup : Room := { frames := 9, cells := 0, slots := 0, locals := 194 }
set_option maxRecDepth 100000 in
set_option maxHeartbeats 4000000 in
theorem c_X13_loadSetup (l : Launch) {E : Ev} (hN : 146 ≤ eN E) (hT : St E) {σ : SM} {ρ : OM} (e20 : σ 20 = ρ)  {rv : Int32} {ρ' : OM} (hf : f_X13_loadSetup ρ = some (rv, ρ')) : Met l yX13_loadSetup (wC yX13_loadSetup cX13_loadSetup 1 (some .int)) rm_X13_loadSetup (va_Pc [.ref (adr E 20 0)] (Wu E σ)) (va_Qi (fun r u => rv = r ∧ u 20 = ρ' ∧ ∀ q, q ≠ 20 → u q = σ q) (fun u t => Wu E u t) (eA E)) 0 0 (eA E) := by
  refine g_entry (lv := [(0, .ref (adr E 20 0))]) (by decide) (Nat.le_of_ble_eq_true rfl) rfl ?_
  intro p e s m below meth c cx hp ls hl
  have hx := cx.1.1
  have hb := cx.1.2.1
  have fr : ∀ q, q ≠ 20 → σ q = σ q := fun _ _ => rfl
  unfold f_X13_loadSetup at hf
  refine lv_aload_n hx hb dX13_loadSetup_0 rfl (lv_at hl 0 rfl) ?_
  refine lv_iconst (v := 0) hx hb dX13_loadSetup_1 (by decide) ?_
  obtain ⟨ρ1, e_l, hf⟩ := fl hf
  refine pF_X13_77 e20 hN cx hp dX13_loadSetup_2 (fun u H locs e_u n_u hp => ?_)
  have e20 := e_u.trans e_l
  have fr : ∀ q, q ≠ 20 → u q = σ q := fun q h0 => (n_u q h0).trans (fr q h0)
  refine lv_aload_n hx hb dX13_loadSetup_5 rfl (lv_at hl 0 rfl) ?_
  refine gF_X13_7 rfl hN cx hp dX13_loadSetup_6 ?_
  refine lv_aload_n hx hb dX13_loadSetup_9 rfl (lv_at hl 0 rfl) ?_
  refine gF_X13_13 rfl hN cx hp dX13_loadSetup_10 ?_
  obtain ⟨ρ2, hc, hf⟩ := fb hf
  refine x_v hp (y_S (As := [.ref (adr E 20 1), .ref (adr E 20 2)]) (rest := []) cx hp hl (c_X13_copies_1_2 l hN hT e20 hc) (cw_X13_326 cx (mc := 0) (ms := 0) rfl rfl ⟨by decide, by decide⟩) rfl rfl (Nat.le_of_ble_eq_true rfl) dX13_loadSetup_13 ⟨Nat.zero_le _, Nat.zero_le _⟩) (fun u_c H locs hq hp => ?_)
  obtain ⟨e_0, n_u⟩ := hq
  have e20 := e_0
  have fr : ∀ q, q ≠ 20 → u_c q = σ q := fun q h0 => (n_u q h0).trans (fr q h0)
  obtain ⟨u, rfl⟩ : ∃ z, u_c = z := ⟨_, rfl⟩
  refine lv_aload_n hx hb dX13_loadSetup_16 rfl (lv_at hl 0 rfl) ?_
  obtain ⟨ρ3, hc, hf⟩ := fb hf
  refine x_v hp (y_V (As := []) (rest := []) cx hp hl (c_X13_starts l hN hT e20 hc) (cw_X13_68 cx (mc := 0) (ms := 0) rfl rfl ⟨by decide, by decide⟩) (rC_X13 hN cx hp) rfl rfl (Nat.le_of_ble_eq_true rfl) dX13_loadSetup_17 ⟨Nat.zero_le _, Nat.zero_le _⟩) (fun u_c H locs hq hp => ?_)
  obtain ⟨e_0, n_u⟩ := hq
  have e20 := e_0
  have fr : ∀ q, q ≠ 20 → u_c q = σ q := fun q h0 => (n_u q h0).trans (fr q h0)
  obtain ⟨u, rfl⟩ : ∃ z, u_c = z := ⟨_, rfl⟩
  refine lv_aload_n hx hb dX13_loadSetup_20 rfl (lv_at hl 0 rfl) ?_
  obtain ⟨ρ4, hc, hf⟩ := fb hf
  refine x_v hp (y_V (As := []) (rest := []) cx hp hl (c_X13_readsSetup l hN hT e20 hc) (cw_X13_71 cx (mc := 0) (ms := 0) rfl rfl ⟨by decide, by decide⟩) (rC_X13 hN cx hp) rfl rfl (Nat.le_of_ble_eq_true rfl) dX13_loadSetup_21 ⟨Nat.zero_le _, Nat.zero_le _⟩) (fun u_c H locs hq hp => ?_)
  obtain ⟨e_0, n_u⟩ := hq
  have e20 := e_0
  have fr : ∀ q, q ≠ 20 → u_c q = σ q := fun q h0 => (n_u q h0).trans (fr q h0)
  obtain ⟨u, rfl⟩ : ∃ z, u_c = z := ⟨_, rfl⟩
  refine lv_aload_n hx hb dX13_loadSetup_24 rfl (lv_at hl 0 rfl) ?_
  refine lv_iconst (v := 0) hx hb dX13_loadSetup_25 (by decide) ?_
  obtain ⟨ρ5, e_l, hf⟩ := fl hf
  refine pF_X13_74 e20 hN cx hp dX13_loadSetup_26 (fun u H locs e_u n_u hp => ?_)
  have e20 := e_u.trans e_l
  have fr : ∀ q, q ≠ 20 → u q = σ q := fun q h0 => (n_u q h0).trans (fr q h0)
  refine lv_aload_n hx hb dX13_loadSetup_29 rfl (lv_at hl 0 rfl) ?_
  refine gF_X13_192 e20 hN cx hp dX13_loadSetup_30 ?_
  refine lv_if_eq (tgt := 49) hx hb dX13_loadSetup_33 (by decide) (fun c6 => ?_) (fun c6 => ?_)
  · have hf := fp hf c6
    refine lv_aload_n hx hb dX13_loadSetup_49 rfl (lv_at hl 0 rfl) ?_
    refine lv_iconst (v := 0) hx hb dX13_loadSetup_50 (by decide) ?_
    obtain ⟨ρ7, e_l, hf⟩ := fl hf
    refine pF_X13_170 e20 hN cx hp dX13_loadSetup_51 (fun u H locs e_u n_u hp => ?_)
    have e20 := e_u.trans e_l
    have fr : ∀ q, q ≠ 20 → u q = σ q := fun q h0 => (n_u q h0).trans (fr q h0)
    refine lv_aload_n hx hb dX13_loadSetup_54 rfl (lv_at hl 0 rfl) ?_
    refine gF_X13_7 rfl hN cx hp dX13_loadSetup_55 ?_
    refine lv_iconst (v := 0) hx hb dX13_loadSetup_58 (by decide) ?_
    obtain ⟨g_i, hf⟩ := fg hf
    refine lA_X13_1 e20 hN cx hp g_i dX13_loadSetup_59 ?_
    cases hf
    exact r_i cx hp ⟨rfl, e20, fr⟩ dX13_loadSetup_60
  · have hf := fn hf c6
    refine lv_aload_n hx hb dX13_loadSetup_36 rfl (lv_at hl 0 rfl) ?_
    refine gF_X13_13 rfl hN cx hp dX13_loadSetup_37 ?_
    refine lv_aload_n hx hb dX13_loadSetup_40 rfl (lv_at hl 0 rfl) ?_
    refine gF_X13_7 rfl hN cx hp dX13_loadSetup_41 ?_
    obtain ⟨ρ8, hc, hf⟩ := fb hf
    refine x_v hp (y_S (As := [.ref (adr E 20 2), .ref (adr E 20 1)]) (rest := []) cx hp hl (c_X13_copies_2_1 l hN hT e20 hc) (cw_X13_326 cx (mc := 0) (ms := 0) rfl rfl ⟨by decide, by decide⟩) rfl rfl (Nat.le_of_ble_eq_true rfl) dX13_loadSetup_44 ⟨Nat.zero_le _, Nat.zero_le _⟩) (fun u_c H locs hq hp => ?_)
    obtain ⟨e_0, n_u⟩ := hq
    have e20 := e_0
    have fr : ∀ q, q ≠ 20 → u_c q = σ q := fun q h0 => (n_u q h0).trans (fr q h0)
    obtain ⟨u, rfl⟩ : ∃ z, u_c = z := ⟨_, rfl⟩
    refine lv_iconst (v := (-1)) hx hb dX13_loadSetup_47 (by decide) ?_
    cases hf
    exact r_i cx hp ⟨rfl, e20, fr⟩ dX13_loadSetup_48
abbrev rm_X13_runScript : Room := { frames := 10, cells := 0, slots := 0, locals := 215 }
set_option maxRecDepth 100000 in
set_option maxHeartbeats 4000000 in
theorem L_X13_runScript_14 {p : Program} {e : Env} {s : State} {m : MethodId} {args : Array Value} {below : List Frame} {meth : Method} {c : Code} (l : Launch) {E : Ev} (hN : 146 ≤ eN E) (hT : St E) {σ : SM} {Q : State → Prop} (cx : Cx E p s m meth c args RX13 cX13_runScript 2 (some .int)) {ρ' : OM} (K : ∀ (u : SM) (H : Heap) (locs : List Loc) (ls : Array Slot), u 20 = ρ' → (∀ q, q ≠ 20 → u q = σ q) → Hp E u s H locs → lv_has ls 2 [(0, .ref (adr E 20 0))] → W p l e rm_X13_runScript s m args below meth c H locs 0 0 Q (F0 m 35 ls [])) : ∀ (n : Nat) {ρ : OM}, f_X13_runScript_14  n ρ = some ρ' → ∀ {u : SM} {H : Heap} {locs : List Loc} {ls : Array Slot}, u 20 = ρ → (∀ q, q ≠ 20 → u q = σ q) → Hp E u s H locs → lv_has ls 2 [(0, .ref (adr E 20 0))] → W p l e rm_X13_runScript s m args below meth c H locs 0 0 Q (F0 m 14 ls []) := by
  have hx := cx.1.1
  have hb := cx.1.2.1
  intro n
  induction n with
  | zero =>
    intro ρ hf
    exact absurd hf (by simp [f_X13_runScript_14])
  | succ n ih =>
    intro ρ hf u H locs ls e20 fr hp hl
    rw [f_X13_runScript_14] at hf
    refine lv_aload_n hx hb dX13_runScript_14 rfl (lv_at hl 0 rfl) ?_
    refine gF_X13_192 e20 hN cx hp dX13_runScript_15 ?_
    refine lv_if_ne (tgt := 35) hx hb dX13_runScript_18 (by decide) (fun c4 => ?_) (fun c4 => ?_)
    · have hf := fn hf c4
      cases hf
      exact K _ _ _ _ e20 fr hp (lv_sub hl [0] rfl)
    · have hf := fp hf c4
      refine lv_aload_n hx hb dX13_runScript_21 rfl (lv_at hl 0 rfl) ?_
      refine gF_X13_179 e20 hN cx hp dX13_runScript_22 ?_
      refine lv_if_eq (tgt := 35) hx hb dX13_runScript_25 (by decide) (fun c5 => ?_) (fun c5 => ?_)
      · have hf := fp hf c5
        cases hf
        exact K _ _ _ _ e20 fr hp (lv_sub hl [0] rfl)
      · have hf := fn hf c5
        refine lv_aload_n hx hb dX13_runScript_28 rfl (lv_at hl 0 rfl) ?_
        obtain ⟨ρ6, hc, hf⟩ := fb hf
        refine x_v hp (y_V (As := []) (rest := []) cx hp hl (c_X13_readsCommand l hN hT e20 hc) (cw_X13_330 cx (mc := 0) (ms := 0) rfl rfl ⟨by decide, by decide⟩) (rC_X13 hN cx hp) rfl rfl (Nat.le_of_ble_eq_true rfl) dX13_runScript_29 ⟨Nat.zero_le _, Nat.zero_le _⟩) (fun u_c H locs hq hp => ?_)
        obtain ⟨e_0, n_u⟩ := hq
        have e20 := e_0
        have fr : ∀ q, q ≠ 20 → u_c q = σ q := fun q h0 => (n_u q h0).trans (fr q h0)
        obtain ⟨u, rfl⟩ : ∃ z, u_c = z := ⟨_, rfl⟩
        refine lv_goto (tgt := 14) hx hb dX13_runScript_32 (by decide) ?_
        exact ih  hf e20 fr hp (lv_sub hl [0] rfl)
set_option maxRecDepth 100000 in
set_option maxHeartbeats 4000000 in
theorem L_X13_runScript_55 {p : Program} {e : Env} {s : State} {m : MethodId} {args : Array Value} {below : List Frame} {meth : Method} {c : Code} (l : Launch) {E : Ev} (hN : 146 ≤ eN E) (hT : St E) {σ : SM} (cx : Cx E p s m meth c args RX13 cX13_runScript 2 (some .int)) {rv : Int32} {ρ' : OM} : ∀ (n : Nat) {x1 : Int32} {ρ : OM}, f_X13_runScript_55  n x1 ρ = some (rv, ρ') → ∀ {u : SM} {H : Heap} {locs : List Loc} {ls : Array Slot}, u 20 = ρ → (∀ q, q ≠ 20 → u q = σ q) → Hp E u s H locs → lv_has ls 2 [(0, .ref (adr E 20 0)), (1, .int x1)] → W p l e rm_X13_runScript s m args below meth c H locs 0 0 (MQ below (va_Qi (fun r u => rv = r ∧ u 20 = ρ' ∧ ∀ q, q ≠ 20 → u q = σ q) (fun u t => Wu E u t) (eA E)) args s 0 0 (eA E)) (F0 m 55 ls []) := by
  have hx := cx.1.1
  have hb := cx.1.2.1
  intro n
  induction n with
  | zero =>
    intro x1 ρ hf
    exact absurd hf (by simp [f_X13_runScript_55])
  | succ n ih =>
    intro x1 ρ hf u H locs ls e20 fr hp hl
    rw [f_X13_runScript_55] at hf
    refine lv_iload_n hx hb dX13_runScript_55 rfl (lv_at hl 1 rfl) ?_
    refine lv_aload_n hx hb dX13_runScript_56 rfl (lv_at hl 0 rfl) ?_
    refine gF_X13_292 e20 hN cx hp dX13_runScript_57 ?_
    refine lv_icmp_ge (tgt := 79) hx hb dX13_runScript_60 (by decide) (fun c11 => ?_) (fun c11 => ?_)
    · have hf := fp hf c11
      refine lv_iload_n hx hb dX13_runScript_79 rfl (lv_at hl 1 rfl) ?_
      cases hf
      exact r_i cx hp ⟨rfl, e20, fr⟩ dX13_runScript_80
    · have hf := fn hf c11
      refine lv_aload_n hx hb dX13_runScript_63 rfl (lv_at hl 0 rfl) ?_
      refine lv_iconst (v := 3) hx hb dX13_runScript_64 (by decide) ?_
      refine lv_iload_n hx hb dX13_runScript_65 rfl (lv_at hl 1 rfl) ?_
      refine lv_imul hx hb dX13_runScript_66 ?_
      obtain ⟨r12, ρ13, hc, hf⟩ := fb2 hf
      refine x_i hp (y_V (As := [.int (3 * x1)]) (rest := []) cx hp hl (c_X13_does l hN hT e20 hc) (cw_X13_336 cx (mc := 0) (ms := 0) rfl rfl ⟨by decide, by decide⟩) (rC_X13 hN cx hp) rfl rfl (Nat.le_of_ble_eq_true rfl) dX13_runScript_67 ⟨Nat.zero_le _, Nat.zero_le _⟩) (fun r_c u_c H locs hq hp => ?_)
      obtain ⟨rfl, e_0, n_u⟩ := hq
      have e20 := e_0
      have fr : ∀ q, q ≠ 20 → u_c q = σ q := fun q h0 => (n_u q h0).trans (fr q h0)
      obtain ⟨u, rfl⟩ : ∃ z, u_c = z := ⟨_, rfl⟩
      refine lv_if_eq (tgt := 79) hx hb dX13_runScript_70 (by decide) (fun c14 => ?_) (fun c14 => ?_)
      · have hf := fp hf c14
        refine lv_iload_n hx hb dX13_runScript_79 rfl (lv_at hl 1 rfl) ?_
        cases hf
        exact r_i cx hp ⟨rfl, e20, fr⟩ dX13_runScript_80
      · have hf := fn hf c14
        refine lv_iinc (v := (x1 + 1)) (lv' := [(1, .int (x1 + 1)), (0, .ref (adr E 20 0))]) hx hb dX13_runScript_73 hl (k := 1) rfl rfl (by decide) rfl (fun ls hl => ?_)
        refine lv_goto (tgt := 55) hx hb dX13_runScript_76 (by decide) ?_
        exact ih  hf e20 fr hp (lv_sub hl [1, 0] rfl)
set_option maxRecDepth 100000 in
set_option maxHeartbeats 4000000 in
theorem c_X13_runScript (l : Launch) {E : Ev} (hN : 146 ≤ eN E) (hT : St E) {σ : SM} {ρ : OM} (e20 : σ 20 = ρ)  {rv : Int32} {ρ' : OM} (hf : f_X13_runScript ρ = some (rv, ρ')) : Met l yX13_runScript (wC yX13_runScript cX13_runScript 2 (some .int)) rm_X13_runScript (va_Pc [.ref (adr E 20 0)] (Wu E σ)) (va_Qi (fun r u => rv = r ∧ u 20 = ρ' ∧ ∀ q, q ≠ 20 → u q = σ q) (fun u t => Wu E u t) (eA E)) 0 0 (eA E) := by
  refine g_entry (lv := [(0, .ref (adr E 20 0))]) (by decide) (Nat.le_of_ble_eq_true rfl) rfl ?_
  intro p e s m below meth c cx hp ls hl
  have hx := cx.1.1
  have hb := cx.1.2.1
  have fr : ∀ q, q ≠ 20 → σ q = σ q := fun _ _ => rfl
  unfold f_X13_runScript at hf
  refine lv_aload_n hx hb dX13_runScript_0 rfl (lv_at hl 0 rfl) ?_
  refine lv_iconst (v := 0) hx hb dX13_runScript_1 (by decide) ?_
  obtain ⟨ρ1, e_l, hf⟩ := fl hf
  refine pF_X13_77 e20 hN cx hp dX13_runScript_2 (fun u H locs e_u n_u hp => ?_)
  have e20 := e_u.trans e_l
  have fr : ∀ q, q ≠ 20 → u q = σ q := fun q h0 => (n_u q h0).trans (fr q h0)
  refine lv_aload_n hx hb dX13_runScript_5 rfl (lv_at hl 0 rfl) ?_
  obtain ⟨ρ2, hc, hf⟩ := fb hf
  refine x_v hp (y_V (As := []) (rest := []) cx hp hl (c_X13_starts l hN hT e20 hc) (cw_X13_68 cx (mc := 0) (ms := 0) rfl rfl ⟨by decide, by decide⟩) (rC_X13 hN cx hp) rfl rfl (Nat.le_of_ble_eq_true rfl) dX13_runScript_6 ⟨Nat.zero_le _, Nat.zero_le _⟩) (fun u_c H locs hq hp => ?_)
  obtain ⟨e_0, n_u⟩ := hq
  have e20 := e_0
  have fr : ∀ q, q ≠ 20 → u_c q = σ q := fun q h0 => (n_u q h0).trans (fr q h0)
  obtain ⟨u, rfl⟩ : ∃ z, u_c = z := ⟨_, rfl⟩
  refine lv_aload_n hx hb dX13_runScript_9 rfl (lv_at hl 0 rfl) ?_
  refine lv_iconst (v := 0) hx hb dX13_runScript_10 (by decide) ?_
  obtain ⟨ρ3, e_l, hf⟩ := fl hf
  refine pF_X13_292 e20 hN cx hp dX13_runScript_11 (fun u H locs e_u n_u hp => ?_)
  have e20 := e_u.trans e_l
  have fr : ∀ q, q ≠ 20 → u q = σ q := fun q h0 => (n_u q h0).trans (fr q h0)
  obtain ⟨ρ7, hc, hf⟩ := fb hf
  refine L_X13_runScript_14 l hN hT cx  (fun u H locs ls e20 fr hp hl => ?_) _ hc e20 fr hp (lv_sub hl [0] rfl)
  refine lv_aload_n hx hb dX13_runScript_35 rfl (lv_at hl 0 rfl) ?_
  refine lv_iconst (v := 0) hx hb dX13_runScript_36 (by decide) ?_
  obtain ⟨ρ8, e_l, hf⟩ := fl hf
  refine pF_X13_74 e20 hN cx hp dX13_runScript_37 (fun u H locs e_u n_u hp => ?_)
  have e20 := e_u.trans e_l
  have fr : ∀ q, q ≠ 20 → u q = σ q := fun q h0 => (n_u q h0).trans (fr q h0)
  refine lv_aload_n hx hb dX13_runScript_40 rfl (lv_at hl 0 rfl) ?_
  refine gF_X13_192 e20 hN cx hp dX13_runScript_41 ?_
  refine lv_if_eq (tgt := 49) hx hb dX13_runScript_44 (by decide) (fun c9 => ?_) (fun c9 => ?_)
  · have hf := fp hf c9
    refine lv_aload_n hx hb dX13_runScript_49 rfl (lv_at hl 0 rfl) ?_
    obtain ⟨ρ10, hc, hf⟩ := fb hf
    refine x_v hp (y_V (As := []) (rest := []) cx hp hl (c_X13_remembers l hN hT e20 hc) (cw_X13_333 cx (mc := 0) (ms := 0) rfl rfl ⟨by decide, by decide⟩) (rC_X13 hN cx hp) rfl rfl (Nat.le_of_ble_eq_true rfl) dX13_runScript_50 ⟨Nat.zero_le _, Nat.zero_le _⟩) (fun u_c H locs hq hp => ?_)
    obtain ⟨e_0, n_u⟩ := hq
    have e20 := e_0
    have fr : ∀ q, q ≠ 20 → u_c q = σ q := fun q h0 => (n_u q h0).trans (fr q h0)
    obtain ⟨u, rfl⟩ : ∃ z, u_c = z := ⟨_, rfl⟩
    refine lv_iconst (v := 0) hx hb dX13_runScript_53 (by decide) ?_
    refine lv_istore_n (lv' := [(1, .int 0), (0, .ref (adr E 20 0))]) hx hb dX13_runScript_54 rfl hl (by decide) rfl (fun ls hl => ?_)
    exact L_X13_runScript_55 l hN hT cx  _ hf e20 fr hp (lv_sub hl [1, 0] rfl)
  · have hf := fn hf c9
    refine lv_iconst (v := (-1)) hx hb dX13_runScript_47 (by decide) ?_
    cases hf
    exact r_i cx hp ⟨rfl, e20, fr⟩ dX13_runScript_48
abbrev rm_X13_errorCode : Room := { frames := 0, cells := 0, slots := 0, locals := 0 }
set_option maxRecDepth 100000 in
set_option maxHeartbeats 4000000 in
theorem c_X13_errorCode (l : Launch) {E : Ev} (hN : 146 ≤ eN E) (hT : St E) {σ : SM} {ρ : OM} (e20 : σ 20 = ρ)  {rv : Int32} {ρ' : OM} (hf : f_X13_errorCode ρ = some (rv, ρ')) : Met l yX13_errorCode (wC yX13_errorCode cX13_errorCode 1 (some .int)) rm_X13_errorCode (va_Pc [.ref (adr E 20 0)] (Wu E σ)) (va_Qi (fun r u => rv = r ∧ u 20 = ρ' ∧ ∀ q, q ≠ 20 → u q = σ q) (fun u t => Wu E u t) (eA E)) 0 0 (eA E) := by
  refine g_entry (lv := [(0, .ref (adr E 20 0))]) (by decide) (Nat.le_of_ble_eq_true rfl) rfl ?_
  intro p e s m below meth c cx hp ls hl
  have hx := cx.1.1
  have hb := cx.1.2.1
  have fr : ∀ q, q ≠ 20 → σ q = σ q := fun _ _ => rfl
  unfold f_X13_errorCode at hf
  refine lv_aload_n hx hb dX13_errorCode_0 rfl (lv_at hl 0 rfl) ?_
  refine lv_iconst (v := 0) hx hb dX13_errorCode_1 (by decide) ?_
  obtain ⟨ρ1, e_l, hf⟩ := fl hf
  refine pF_X13_77 e20 hN cx hp dX13_errorCode_2 (fun u H locs e_u n_u hp => ?_)
  have e20 := e_u.trans e_l
  have fr : ∀ q, q ≠ 20 → u q = σ q := fun q h0 => (n_u q h0).trans (fr q h0)
  refine lv_aload_n hx hb dX13_errorCode_5 rfl (lv_at hl 0 rfl) ?_
  refine gF_X13_196 e20 hN cx hp dX13_errorCode_6 ?_
  cases hf
  exact r_i cx hp ⟨rfl, e20, fr⟩ dX13_errorCode_9
abbrev rm_X13_errorPosition : Room := { frames := 0, cells := 0, slots := 0, locals := 0 }
set_option maxRecDepth 100000 in
set_option maxHeartbeats 4000000 in
theorem c_X13_errorPosition (l : Launch) {E : Ev} (hN : 146 ≤ eN E) (hT : St E) {σ : SM} {ρ : OM} (e20 : σ 20 = ρ)  {rv : Int32} {ρ' : OM} (hf : f_X13_errorPosition ρ = some (rv, ρ')) : Met l yX13_errorPosition (wC yX13_errorPosition cX13_errorPosition 1 (some .int)) rm_X13_errorPosition (va_Pc [.ref (adr E 20 0)] (Wu E σ)) (va_Qi (fun r u => rv = r ∧ u 20 = ρ' ∧ ∀ q, q ≠ 20 → u q = σ q) (fun u t => Wu E u t) (eA E)) 0 0 (eA E) := by
  refine g_entry (lv := [(0, .ref (adr E 20 0))]) (by decide) (Nat.le_of_ble_eq_true rfl) rfl ?_
  intro p e s m below meth c cx hp ls hl
  have hx := cx.1.1
  have hb := cx.1.2.1
  have fr : ∀ q, q ≠ 20 → σ q = σ q := fun _ _ => rfl
  unfold f_X13_errorPosition at hf
  refine lv_aload_n hx hb dX13_errorPosition_0 rfl (lv_at hl 0 rfl) ?_
  refine lv_iconst (v := 0) hx hb dX13_errorPosition_1 (by decide) ?_
  obtain ⟨ρ1, e_l, hf⟩ := fl hf
  refine pF_X13_77 e20 hN cx hp dX13_errorPosition_2 (fun u H locs e_u n_u hp => ?_)
  have e20 := e_u.trans e_l
  have fr : ∀ q, q ≠ 20 → u q = σ q := fun q h0 => (n_u q h0).trans (fr q h0)
  refine lv_aload_n hx hb dX13_errorPosition_5 rfl (lv_at hl 0 rfl) ?_
  refine gF_X13_25 e20 hN cx hp dX13_errorPosition_6 ?_
  cases hf
  exact r_i cx hp ⟨rfl, e20, fr⟩ dX13_errorPosition_9
abbrev rm_X13_sellerCount : Room := { frames := 0, cells := 0, slots := 0, locals := 0 }
set_option maxRecDepth 100000 in
set_option maxHeartbeats 4000000 in
theorem c_X13_sellerCount (l : Launch) {E : Ev} (hN : 146 ≤ eN E) (hT : St E) {σ : SM} {ρ : OM} (e20 : σ 20 = ρ)  {rv : Int32} {ρ' : OM} (hf : f_X13_sellerCount ρ = some (rv, ρ')) : Met l yX13_sellerCount (wC yX13_sellerCount cX13_sellerCount 1 (some .int)) rm_X13_sellerCount (va_Pc [.ref (adr E 20 0)] (Wu E σ)) (va_Qi (fun r u => rv = r ∧ u 20 = ρ' ∧ ∀ q, q ≠ 20 → u q = σ q) (fun u t => Wu E u t) (eA E)) 0 0 (eA E) := by
  refine g_entry (lv := [(0, .ref (adr E 20 0))]) (by decide) (Nat.le_of_ble_eq_true rfl) rfl ?_
  intro p e s m below meth c cx hp ls hl
  have hx := cx.1.1
  have hb := cx.1.2.1
  have fr : ∀ q, q ≠ 20 → σ q = σ q := fun _ _ => rfl
  unfold f_X13_sellerCount at hf
  refine lv_aload_n hx hb dX13_sellerCount_0 rfl (lv_at hl 0 rfl) ?_
  refine lv_iconst (v := 0) hx hb dX13_sellerCount_1 (by decide) ?_
  obtain ⟨ρ1, e_l, hf⟩ := fl hf
  refine pF_X13_77 e20 hN cx hp dX13_sellerCount_2 (fun u H locs e_u n_u hp => ?_)
  have e20 := e_u.trans e_l
  have fr : ∀ q, q ≠ 20 → u q = σ q := fun q h0 => (n_u q h0).trans (fr q h0)
  refine lv_aload_n hx hb dX13_sellerCount_5 rfl (lv_at hl 0 rfl) ?_
  refine gF_X13_7 rfl hN cx hp dX13_sellerCount_6 ?_
  refine lv_iconst (v := 0) hx hb dX13_sellerCount_9 (by decide) ?_
  obtain ⟨g_i, hf⟩ := fg hf
  refine lA_X13_1 e20 hN cx hp g_i dX13_sellerCount_10 ?_
  cases hf
  exact r_i cx hp ⟨rfl, e20, fr⟩ dX13_sellerCount_11
abbrev rm_X13_stallCount : Room := { frames := 0, cells := 0, slots := 0, locals := 0 }
set_option maxRecDepth 100000 in
set_option maxHeartbeats 4000000 in
theorem c_X13_stallCount (l : Launch) {E : Ev} (hN : 146 ≤ eN E) (hT : St E) {σ : SM} {ρ : OM} (e20 : σ 20 = ρ)  {rv : Int32} {ρ' : OM} (hf : f_X13_stallCount ρ = some (rv, ρ')) : Met l yX13_stallCount (wC yX13_stallCount cX13_stallCount 1 (some .int)) rm_X13_stallCount (va_Pc [.ref (adr E 20 0)] (Wu E σ)) (va_Qi (fun r u => rv = r ∧ u 20 = ρ' ∧ ∀ q, q ≠ 20 → u q = σ q) (fun u t => Wu E u t) (eA E)) 0 0 (eA E) := by
  refine g_entry (lv := [(0, .ref (adr E 20 0))]) (by decide) (Nat.le_of_ble_eq_true rfl) rfl ?_
  intro p e s m below meth c cx hp ls hl
  have hx := cx.1.1
  have hb := cx.1.2.1
  have fr : ∀ q, q ≠ 20 → σ q = σ q := fun _ _ => rfl
  unfold f_X13_stallCount at hf
  refine lv_aload_n hx hb dX13_stallCount_0 rfl (lv_at hl 0 rfl) ?_
  refine lv_iconst (v := 0) hx hb dX13_stallCount_1 (by decide) ?_
  obtain ⟨ρ1, e_l, hf⟩ := fl hf
  refine pF_X13_77 e20 hN cx hp dX13_stallCount_2 (fun u H locs e_u n_u hp => ?_)
  have e20 := e_u.trans e_l
  have fr : ∀ q, q ≠ 20 → u q = σ q := fun q h0 => (n_u q h0).trans (fr q h0)
  refine lv_aload_n hx hb dX13_stallCount_5 rfl (lv_at hl 0 rfl) ?_
  refine gF_X13_7 rfl hN cx hp dX13_stallCount_6 ?_
  refine lv_iconst (v := 1) hx hb dX13_stallCount_9 (by decide) ?_
  obtain ⟨g_i, hf⟩ := fg hf
  refine lA_X13_1 e20 hN cx hp g_i dX13_stallCount_10 ?_
  cases hf
  exact r_i cx hp ⟨rfl, e20, fr⟩ dX13_stallCount_11
abbrev rm_X13_day : Room := { frames := 0, cells := 0, slots := 0, locals := 0 }
set_option maxRecDepth 100000 in
set_option maxHeartbeats 4000000 in
theorem c_X13_day (l : Launch) {E : Ev} (hN : 146 ≤ eN E) (hT : St E) {σ : SM} {ρ : OM} (e20 : σ 20 = ρ)  {rv : Int32} {ρ' : OM} (hf : f_X13_day ρ = some (rv, ρ')) : Met l yX13_day (wC yX13_day cX13_day 1 (some .int)) rm_X13_day (va_Pc [.ref (adr E 20 0)] (Wu E σ)) (va_Qi (fun r u => rv = r ∧ u 20 = ρ' ∧ ∀ q, q ≠ 20 → u q = σ q) (fun u t => Wu E u t) (eA E)) 0 0 (eA E) := by
  refine g_entry (lv := [(0, .ref (adr E 20 0))]) (by decide) (Nat.le_of_ble_eq_true rfl) rfl ?_
  intro p e s m below meth c cx hp ls hl
  have hx := cx.1.1
  have hb := cx.1.2.1
  have fr : ∀ q, q ≠ 20 → σ q = σ q := fun _ _ => rfl
  unfold f_X13_day at hf
  refine lv_aload_n hx hb dX13_day_0 rfl (lv_at hl 0 rfl) ?_
  refine lv_iconst (v := 0) hx hb dX13_day_1 (by decide) ?_
  obtain ⟨ρ1, e_l, hf⟩ := fl hf
  refine pF_X13_77 e20 hN cx hp dX13_day_2 (fun u H locs e_u n_u hp => ?_)
  have e20 := e_u.trans e_l
  have fr : ∀ q, q ≠ 20 → u q = σ q := fun q h0 => (n_u q h0).trans (fr q h0)
  refine lv_aload_n hx hb dX13_day_5 rfl (lv_at hl 0 rfl) ?_
  refine gF_X13_7 rfl hN cx hp dX13_day_6 ?_
  refine lv_iconst (v := 2) hx hb dX13_day_9 (by decide) ?_
  obtain ⟨g_i, hf⟩ := fg hf
  refine lA_X13_1 e20 hN cx hp g_i dX13_day_10 ?_
  cases hf
  exact r_i cx hp ⟨rfl, e20, fr⟩ dX13_day_11
abbrev rm_X13_balance : Room := { frames := 2, cells := 0, slots := 0, locals := 43 }
set_option maxRecDepth 100000 in
set_option maxHeartbeats 4000000 in
theorem c_X13_balance (l : Launch) {E : Ev} (hN : 146 ≤ eN E) (hT : St E) {σ : SM} {ρ : OM} (e20 : σ 20 = ρ) {p1 : Int32} {rv : Int32} {ρ' : OM} (hf : f_X13_balance p1 ρ = some (rv, ρ')) : Met l yX13_balance (wC yX13_balance cX13_balance 2 (some .int)) rm_X13_balance (va_Pc [.ref (adr E 20 0), .int p1] (Wu E σ)) (va_Qi (fun r u => rv = r ∧ u 20 = ρ' ∧ ∀ q, q ≠ 20 → u q = σ q) (fun u t => Wu E u t) (eA E)) 0 0 (eA E) := by
  refine g_entry (lv := [(0, .ref (adr E 20 0)), (1, .int p1)]) (by decide) (Nat.le_of_ble_eq_true rfl) rfl ?_
  intro p e s m below meth c cx hp ls hl
  have hx := cx.1.1
  have hb := cx.1.2.1
  have fr : ∀ q, q ≠ 20 → σ q = σ q := fun _ _ => rfl
  unfold f_X13_balance at hf
  refine lv_aload_n hx hb dX13_balance_0 rfl (lv_at hl 0 rfl) ?_
  refine lv_aload_n hx hb dX13_balance_1 rfl (lv_at hl 0 rfl) ?_
  refine lv_iload_n hx hb dX13_balance_2 rfl (lv_at hl 1 rfl) ?_
  obtain ⟨r1, hc, hf⟩ := fb hf
  refine x_i hp (y_V (As := [.int p1]) (rest := [.ref (adr E 20 0)]) cx hp hl (c_X13_isSeller l hN hT e20 hc) (cw_X13_339 cx (mc := 0) (ms := 0) rfl rfl ⟨by decide, by decide⟩) (rC_X13 hN cx hp) rfl rfl (Nat.le_of_ble_eq_true rfl) dX13_balance_3 ⟨Nat.zero_le _, Nat.zero_le _⟩) (fun r_c u_c H locs hq hp => ?_)
  obtain ⟨rfl, rfl⟩ := hq
  obtain ⟨r2, ρ3, hc, hf⟩ := fb2 hf
  refine x_i hp (y_V (As := [.int r1]) (rest := []) cx hp hl (c_X13_wants l hN hT e20 hc) (cw_X13_322 cx (mc := 0) (ms := 0) rfl rfl ⟨by decide, by decide⟩) (rC_X13 hN cx hp) rfl rfl (Nat.le_of_ble_eq_true rfl) dX13_balance_6 ⟨Nat.zero_le _, Nat.zero_le _⟩) (fun r_c u_c H locs hq hp => ?_)
  obtain ⟨rfl, e_0, n_u⟩ := hq
  have e20 := e_0
  have fr : ∀ q, q ≠ 20 → u_c q = σ q := fun q h0 => (n_u q h0).trans (fr q h0)
  obtain ⟨u, rfl⟩ : ∃ z, u_c = z := ⟨_, rfl⟩
  refine lv_if_eq (tgt := 21) hx hb dX13_balance_9 (by decide) (fun c4 => ?_) (fun c4 => ?_)
  · have hf := fp hf c4
    refine lv_iconst (v := 0) hx hb dX13_balance_21 (by decide) ?_
    cases hf
    exact r_i cx hp ⟨rfl, e20, fr⟩ dX13_balance_22
  · have hf := fn hf c4
    refine lv_aload_n hx hb dX13_balance_12 rfl (lv_at hl 0 rfl) ?_
    refine lv_iload_n hx hb dX13_balance_13 rfl (lv_at hl 1 rfl) ?_
    refine lv_iconst (v := 1) hx hb dX13_balance_14 (by decide) ?_
    obtain ⟨r5, hc, hf⟩ := fb hf
    refine x_i hp (y_V (As := [.int p1, .int 1]) (rest := []) cx hp hl (c_X13_of l hN hT e20 hc) (cw_X13_98 cx (mc := 0) (ms := 0) rfl rfl ⟨by decide, by decide⟩) (rC_X13 hN cx hp) rfl rfl (Nat.le_of_ble_eq_true rfl) dX13_balance_15 ⟨Nat.zero_le _, Nat.zero_le _⟩) (fun r_c u_c H locs hq hp => ?_)
    obtain ⟨rfl, rfl⟩ := hq
    refine lv_goto (tgt := 22) hx hb dX13_balance_18 (by decide) ?_
    cases hf
    exact r_i cx hp ⟨rfl, e20, fr⟩ dX13_balance_22
abbrev rm_X13_income : Room := { frames := 2, cells := 0, slots := 0, locals := 43 }
set_option maxRecDepth 100000 in
set_option maxHeartbeats 4000000 in
theorem c_X13_income (l : Launch) {E : Ev} (hN : 146 ≤ eN E) (hT : St E) {σ : SM} {ρ : OM} (e20 : σ 20 = ρ) {p1 : Int32} {rv : Int32} {ρ' : OM} (hf : f_X13_income p1 ρ = some (rv, ρ')) : Met l yX13_income (wC yX13_income cX13_income 2 (some .int)) rm_X13_income (va_Pc [.ref (adr E 20 0), .int p1] (Wu E σ)) (va_Qi (fun r u => rv = r ∧ u 20 = ρ' ∧ ∀ q, q ≠ 20 → u q = σ q) (fun u t => Wu E u t) (eA E)) 0 0 (eA E) := by
  refine g_entry (lv := [(0, .ref (adr E 20 0)), (1, .int p1)]) (by decide) (Nat.le_of_ble_eq_true rfl) rfl ?_
  intro p e s m below meth c cx hp ls hl
  have hx := cx.1.1
  have hb := cx.1.2.1
  have fr : ∀ q, q ≠ 20 → σ q = σ q := fun _ _ => rfl
  unfold f_X13_income at hf
  refine lv_aload_n hx hb dX13_income_0 rfl (lv_at hl 0 rfl) ?_
  refine lv_aload_n hx hb dX13_income_1 rfl (lv_at hl 0 rfl) ?_
  refine lv_iload_n hx hb dX13_income_2 rfl (lv_at hl 1 rfl) ?_
  obtain ⟨r1, hc, hf⟩ := fb hf
  refine x_i hp (y_V (As := [.int p1]) (rest := [.ref (adr E 20 0)]) cx hp hl (c_X13_isSeller l hN hT e20 hc) (cw_X13_339 cx (mc := 0) (ms := 0) rfl rfl ⟨by decide, by decide⟩) (rC_X13 hN cx hp) rfl rfl (Nat.le_of_ble_eq_true rfl) dX13_income_3 ⟨Nat.zero_le _, Nat.zero_le _⟩) (fun r_c u_c H locs hq hp => ?_)
  obtain ⟨rfl, rfl⟩ := hq
  obtain ⟨r2, ρ3, hc, hf⟩ := fb2 hf
  refine x_i hp (y_V (As := [.int r1]) (rest := []) cx hp hl (c_X13_wants l hN hT e20 hc) (cw_X13_322 cx (mc := 0) (ms := 0) rfl rfl ⟨by decide, by decide⟩) (rC_X13 hN cx hp) rfl rfl (Nat.le_of_ble_eq_true rfl) dX13_income_6 ⟨Nat.zero_le _, Nat.zero_le _⟩) (fun r_c u_c H locs hq hp => ?_)
  obtain ⟨rfl, e_0, n_u⟩ := hq
  have e20 := e_0
  have fr : ∀ q, q ≠ 20 → u_c q = σ q := fun q h0 => (n_u q h0).trans (fr q h0)
  obtain ⟨u, rfl⟩ : ∃ z, u_c = z := ⟨_, rfl⟩
  refine lv_if_eq (tgt := 21) hx hb dX13_income_9 (by decide) (fun c4 => ?_) (fun c4 => ?_)
  · have hf := fp hf c4
    refine lv_iconst (v := 0) hx hb dX13_income_21 (by decide) ?_
    cases hf
    exact r_i cx hp ⟨rfl, e20, fr⟩ dX13_income_22
  · have hf := fn hf c4
    refine lv_aload_n hx hb dX13_income_12 rfl (lv_at hl 0 rfl) ?_
    refine lv_iload_n hx hb dX13_income_13 rfl (lv_at hl 1 rfl) ?_
    refine lv_iconst (v := 2) hx hb dX13_income_14 (by decide) ?_
    obtain ⟨r5, hc, hf⟩ := fb hf
    refine x_i hp (y_V (As := [.int p1, .int 2]) (rest := []) cx hp hl (c_X13_of l hN hT e20 hc) (cw_X13_98 cx (mc := 0) (ms := 0) rfl rfl ⟨by decide, by decide⟩) (rC_X13 hN cx hp) rfl rfl (Nat.le_of_ble_eq_true rfl) dX13_income_15 ⟨Nat.zero_le _, Nat.zero_le _⟩) (fun r_c u_c H locs hq hp => ?_)
    obtain ⟨rfl, rfl⟩ := hq
    refine lv_goto (tgt := 22) hx hb dX13_income_18 (by decide) ?_
    cases hf
    exact r_i cx hp ⟨rfl, e20, fr⟩ dX13_income_22
abbrev rm_X13_rent : Room := { frames := 2, cells := 0, slots := 0, locals := 43 }
set_option maxRecDepth 100000 in
set_option maxHeartbeats 4000000 in
theorem c_X13_rent (l : Launch) {E : Ev} (hN : 146 ≤ eN E) (hT : St E) {σ : SM} {ρ : OM} (e20 : σ 20 = ρ) {p1 : Int32} {rv : Int32} {ρ' : OM} (hf : f_X13_rent p1 ρ = some (rv, ρ')) : Met l yX13_rent (wC yX13_rent cX13_rent 2 (some .int)) rm_X13_rent (va_Pc [.ref (adr E 20 0), .int p1] (Wu E σ)) (va_Qi (fun r u => rv = r ∧ u 20 = ρ' ∧ ∀ q, q ≠ 20 → u q = σ q) (fun u t => Wu E u t) (eA E)) 0 0 (eA E) := by
  refine g_entry (lv := [(0, .ref (adr E 20 0)), (1, .int p1)]) (by decide) (Nat.le_of_ble_eq_true rfl) rfl ?_
  intro p e s m below meth c cx hp ls hl
  have hx := cx.1.1
  have hb := cx.1.2.1
  have fr : ∀ q, q ≠ 20 → σ q = σ q := fun _ _ => rfl
  unfold f_X13_rent at hf
  refine lv_aload_n hx hb dX13_rent_0 rfl (lv_at hl 0 rfl) ?_
  refine lv_aload_n hx hb dX13_rent_1 rfl (lv_at hl 0 rfl) ?_
  refine lv_iload_n hx hb dX13_rent_2 rfl (lv_at hl 1 rfl) ?_
  obtain ⟨r1, hc, hf⟩ := fb hf
  refine x_i hp (y_V (As := [.int p1]) (rest := [.ref (adr E 20 0)]) cx hp hl (c_X13_isStall l hN hT e20 hc) (cw_X13_94 cx (mc := 0) (ms := 0) rfl rfl ⟨by decide, by decide⟩) (rC_X13 hN cx hp) rfl rfl (Nat.le_of_ble_eq_true rfl) dX13_rent_3 ⟨Nat.zero_le _, Nat.zero_le _⟩) (fun r_c u_c H locs hq hp => ?_)
  obtain ⟨rfl, rfl⟩ := hq
  obtain ⟨r2, ρ3, hc, hf⟩ := fb2 hf
  refine x_i hp (y_V (As := [.int r1]) (rest := []) cx hp hl (c_X13_wants l hN hT e20 hc) (cw_X13_322 cx (mc := 0) (ms := 0) rfl rfl ⟨by decide, by decide⟩) (rC_X13 hN cx hp) rfl rfl (Nat.le_of_ble_eq_true rfl) dX13_rent_6 ⟨Nat.zero_le _, Nat.zero_le _⟩) (fun r_c u_c H locs hq hp => ?_)
  obtain ⟨rfl, e_0, n_u⟩ := hq
  have e20 := e_0
  have fr : ∀ q, q ≠ 20 → u_c q = σ q := fun q h0 => (n_u q h0).trans (fr q h0)
  obtain ⟨u, rfl⟩ : ∃ z, u_c = z := ⟨_, rfl⟩
  refine lv_if_eq (tgt := 20) hx hb dX13_rent_9 (by decide) (fun c4 => ?_) (fun c4 => ?_)
  · have hf := fp hf c4
    refine lv_iconst (v := 0) hx hb dX13_rent_20 (by decide) ?_
    cases hf
    exact r_i cx hp ⟨rfl, e20, fr⟩ dX13_rent_21
  · have hf := fn hf c4
    refine lv_aload_n hx hb dX13_rent_12 rfl (lv_at hl 0 rfl) ?_
    refine lv_iload_n hx hb dX13_rent_13 rfl (lv_at hl 1 rfl) ?_
    obtain ⟨r5, hc, hf⟩ := fb hf
    refine x_i hp (y_V (As := [.int p1]) (rest := []) cx hp hl (c_X13_rentOf l hN hT e20 hc) (cw_X13_149 cx (mc := 0) (ms := 0) rfl rfl ⟨by decide, by decide⟩) (rC_X13 hN cx hp) rfl rfl (Nat.le_of_ble_eq_true rfl) dX13_rent_14 ⟨Nat.zero_le _, Nat.zero_le _⟩) (fun r_c u_c H locs hq hp => ?_)
    obtain ⟨rfl, rfl⟩ := hq
    refine lv_goto (tgt := 21) hx hb dX13_rent_17 (by decide) ?_
    cases hf
    exact r_i cx hp ⟨rfl, e20, fr⟩ dX13_rent_21
abbrev rm_X13_stallOf : Room := { frames := 2, cells := 0, slots := 0, locals := 43 }
set_option maxRecDepth 100000 in
set_option maxHeartbeats 4000000 in
theorem c_X13_stallOf (l : Launch) {E : Ev} (hN : 146 ≤ eN E) (hT : St E) {σ : SM} {ρ : OM} (e20 : σ 20 = ρ) {p1 : Int32} {rv : Int32} {ρ' : OM} (hf : f_X13_stallOf p1 ρ = some (rv, ρ')) : Met l yX13_stallOf (wC yX13_stallOf cX13_stallOf 2 (some .int)) rm_X13_stallOf (va_Pc [.ref (adr E 20 0), .int p1] (Wu E σ)) (va_Qi (fun r u => rv = r ∧ u 20 = ρ' ∧ ∀ q, q ≠ 20 → u q = σ q) (fun u t => Wu E u t) (eA E)) 0 0 (eA E) := by
  refine g_entry (lv := [(0, .ref (adr E 20 0)), (1, .int p1)]) (by decide) (Nat.le_of_ble_eq_true rfl) rfl ?_
  intro p e s m below meth c cx hp ls hl
  have hx := cx.1.1
  have hb := cx.1.2.1
  have fr : ∀ q, q ≠ 20 → σ q = σ q := fun _ _ => rfl
  unfold f_X13_stallOf at hf
  refine lv_aload_n hx hb dX13_stallOf_0 rfl (lv_at hl 0 rfl) ?_
  refine lv_aload_n hx hb dX13_stallOf_1 rfl (lv_at hl 0 rfl) ?_
  refine lv_iload_n hx hb dX13_stallOf_2 rfl (lv_at hl 1 rfl) ?_
  obtain ⟨r1, hc, hf⟩ := fb hf
  refine x_i hp (y_V (As := [.int p1]) (rest := [.ref (adr E 20 0)]) cx hp hl (c_X13_isSeller l hN hT e20 hc) (cw_X13_339 cx (mc := 0) (ms := 0) rfl rfl ⟨by decide, by decide⟩) (rC_X13 hN cx hp) rfl rfl (Nat.le_of_ble_eq_true rfl) dX13_stallOf_3 ⟨Nat.zero_le _, Nat.zero_le _⟩) (fun r_c u_c H locs hq hp => ?_)
  obtain ⟨rfl, rfl⟩ := hq
  obtain ⟨r2, ρ3, hc, hf⟩ := fb2 hf
  refine x_i hp (y_V (As := [.int r1]) (rest := []) cx hp hl (c_X13_wants l hN hT e20 hc) (cw_X13_322 cx (mc := 0) (ms := 0) rfl rfl ⟨by decide, by decide⟩) (rC_X13 hN cx hp) rfl rfl (Nat.le_of_ble_eq_true rfl) dX13_stallOf_6 ⟨Nat.zero_le _, Nat.zero_le _⟩) (fun r_c u_c H locs hq hp => ?_)
  obtain ⟨rfl, e_0, n_u⟩ := hq
  have e20 := e_0
  have fr : ∀ q, q ≠ 20 → u_c q = σ q := fun q h0 => (n_u q h0).trans (fr q h0)
  obtain ⟨u, rfl⟩ : ∃ z, u_c = z := ⟨_, rfl⟩
  refine lv_if_eq (tgt := 21) hx hb dX13_stallOf_9 (by decide) (fun c4 => ?_) (fun c4 => ?_)
  · have hf := fp hf c4
    refine lv_iconst (v := 0) hx hb dX13_stallOf_21 (by decide) ?_
    cases hf
    exact r_i cx hp ⟨rfl, e20, fr⟩ dX13_stallOf_22
  · have hf := fn hf c4
    refine lv_aload_n hx hb dX13_stallOf_12 rfl (lv_at hl 0 rfl) ?_
    refine lv_iload_n hx hb dX13_stallOf_13 rfl (lv_at hl 1 rfl) ?_
    refine lv_iconst (v := 3) hx hb dX13_stallOf_14 (by decide) ?_
    obtain ⟨r5, hc, hf⟩ := fb hf
    refine x_i hp (y_V (As := [.int p1, .int 3]) (rest := []) cx hp hl (c_X13_of l hN hT e20 hc) (cw_X13_98 cx (mc := 0) (ms := 0) rfl rfl ⟨by decide, by decide⟩) (rC_X13 hN cx hp) rfl rfl (Nat.le_of_ble_eq_true rfl) dX13_stallOf_15 ⟨Nat.zero_le _, Nat.zero_le _⟩) (fun r_c u_c H locs hq hp => ?_)
    obtain ⟨rfl, rfl⟩ := hq
    refine lv_goto (tgt := 22) hx hb dX13_stallOf_18 (by decide) ?_
    cases hf
    exact r_i cx hp ⟨rfl, e20, fr⟩ dX13_stallOf_22

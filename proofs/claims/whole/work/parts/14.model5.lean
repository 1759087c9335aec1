abbrev rm_X13_matches : Room := { frames := 1, cells := 0, slots := 0, locals := 23 }
set_option maxRecDepth 100000 in
set_option maxHeartbeats 4000000 in
theorem L_X13_matches_2 {p : Program} {e : Env} {s : State} {m : MethodId} {args : Array Value} {below : List Frame} {meth : Method} {c : Code} (l : Launch) {E : Ev} (hN : 146 ≤ eN E) (hT : St E) {σ : SM} {Q : State → Prop} (cx : Cx E p s m meth c args RX13 cX13_matches 5 none) {ρ' : OM} (K : ∀ (u : SM) (H : Heap) (locs : List Loc) (ls : Array Slot), u 20 = ρ' → (∀ q, q ≠ 20 → u q = σ q) → Hp E u s H locs → lv_has ls 5 [(0, .ref (adr E 20 0))] → W p l e rm_X13_matches s m args below meth c H locs 0 0 Q (F0 m 37 ls [])) : ∀ (n : Nat) {x1 : Int32} {ρ : OM}, f_X13_matches_2  n x1 ρ = some ρ' → ∀ {u : SM} {H : Heap} {locs : List Loc} {ls : Array Slot}, u 20 = ρ → (∀ q, q ≠ 20 → u q = σ q) → Hp E u s H locs → lv_has ls 5 [(0, .ref (adr E 20 0)), (1, .int x1)] → W p l e rm_X13_matches s m args below meth c H locs 0 0 Q (F0 m 2 ls []) := by
  have hx := cx.1.1
  have hb := cx.1.2.1
  intro n
  induction n with
  | zero =>
    intro x1 ρ hf
    exact absurd hf (by simp [f_X13_matches_2])
  | succ n ih =>
    intro x1 ρ hf u H locs ls e20 fr hp hl
    rw [f_X13_matches_2] at hf
    refine lv_iload_n hx hb dX13_matches_2 rfl (lv_at hl 1 rfl) ?_
    refine lv_sipush (v := 256) hx hb dX13_matches_3 (by decide) ?_
    refine lv_icmp_ge (tgt := 37) hx hb dX13_matches_6 (by decide) (fun c1 => ?_) (fun c1 => ?_)
    · have hf := fp hf c1
      cases hf
      exact K _ _ _ _ e20 fr hp (lv_sub hl [0] rfl)
    · have hf := fn hf c1
      refine lv_aload_n hx hb dX13_matches_9 rfl (lv_at hl 0 rfl) ?_
      refine gF_X13_54 rfl hN cx hp dX13_matches_10 ?_
      refine lv_iload_n hx hb dX13_matches_13 rfl (lv_at hl 1 rfl) ?_
      refine lv_iload_n hx hb dX13_matches_14 rfl (lv_at hl 1 rfl) ?_
      refine lv_if_ne (tgt := 22) hx hb dX13_matches_15 (by decide) (fun c2 => ?_) (fun c2 => ?_)
      · have hf := fn hf c2
        refine lv_iconst (v := (-1)) hx hb dX13_matches_22 (by decide) ?_
        obtain ⟨g_i, hf⟩ := fg hf
        obtain ⟨ρ3, e_l, hf⟩ := fl hf
        refine sA_X13_14 e20 hN cx hp g_i dX13_matches_23 (fun u H locs e_u n_u hp => ?_)
        have e20 := e_u.trans e_l
        have fr : ∀ q, q ≠ 20 → u q = σ q := fun q h0 => (n_u q h0).trans (fr q h0)
        refine lv_aload_n hx hb dX13_matches_24 rfl (lv_at hl 0 rfl) ?_
        refine gF_X13_57 rfl hN cx hp dX13_matches_25 ?_
        refine lv_iload_n hx hb dX13_matches_28 rfl (lv_at hl 1 rfl) ?_
        refine lv_iconst (v := 0) hx hb dX13_matches_29 (by decide) ?_
        obtain ⟨g_i, hf⟩ := fg hf
        obtain ⟨ρ4, e_l, hf⟩ := fl hf
        refine sA_X13_15 e20 hN cx hp g_i dX13_matches_30 (fun u H locs e_u n_u hp => ?_)
        have e20 := e_u.trans e_l
        have fr : ∀ q, q ≠ 20 → u q = σ q := fun q h0 => (n_u q h0).trans (fr q h0)
        refine lv_iinc (v := (x1 + 1)) (lv' := [(1, .int (x1 + 1)), (0, .ref (adr E 20 0))]) hx hb dX13_matches_31 hl (k := 1) rfl rfl (by decide) rfl (fun ls hl => ?_)
        refine lv_goto (tgt := 2) hx hb dX13_matches_34 (by decide) ?_
        exact ih  hf e20 fr hp (lv_sub hl [1, 0] rfl)
      · have hf := fp hf c2
        refine lv_iconst (v := 0) hx hb dX13_matches_18 (by decide) ?_
        refine lv_goto (tgt := 23) hx hb dX13_matches_19 (by decide) ?_
        obtain ⟨g_i, hf⟩ := fg hf
        obtain ⟨ρ5, e_l, hf⟩ := fl hf
        refine sA_X13_14 e20 hN cx hp g_i dX13_matches_23 (fun u H locs e_u n_u hp => ?_)
        have e20 := e_u.trans e_l
        have fr : ∀ q, q ≠ 20 → u q = σ q := fun q h0 => (n_u q h0).trans (fr q h0)
        refine lv_aload_n hx hb dX13_matches_24 rfl (lv_at hl 0 rfl) ?_
        refine gF_X13_57 rfl hN cx hp dX13_matches_25 ?_
        refine lv_iload_n hx hb dX13_matches_28 rfl (lv_at hl 1 rfl) ?_
        refine lv_iconst (v := 0) hx hb dX13_matches_29 (by decide) ?_
        obtain ⟨g_i, hf⟩ := fg hf
        obtain ⟨ρ6, e_l, hf⟩ := fl hf
        refine sA_X13_15 e20 hN cx hp g_i dX13_matches_30 (fun u H locs e_u n_u hp => ?_)
        have e20 := e_u.trans e_l
        have fr : ∀ q, q ≠ 20 → u q = σ q := fun q h0 => (n_u q h0).trans (fr q h0)
        refine lv_iinc (v := (x1 + 1)) (lv' := [(1, .int (x1 + 1)), (0, .ref (adr E 20 0))]) hx hb dX13_matches_31 hl (k := 1) rfl rfl (by decide) rfl (fun ls hl => ?_)
        refine lv_goto (tgt := 2) hx hb dX13_matches_34 (by decide) ?_
        exact ih  hf e20 fr hp (lv_sub hl [1, 0] rfl)
set_option maxRecDepth 100000 in
set_option maxHeartbeats 4000000 in
theorem L_X13_matches_59 {p : Program} {e : Env} {s : State} {m : MethodId} {args : Array Value} {below : List Frame} {meth : Method} {c : Code} (l : Launch) {E : Ev} (hN : 146 ≤ eN E) (hT : St E) {σ : SM} {Q : State → Prop} (cx : Cx E p s m meth c args RX13 cX13_matches 5 none) {x1 : Int32} {x2 : Int32} {ρ' : OM} (K : ∀ (u : SM) (H : Heap) (locs : List Loc) (ls : Array Slot), u 20 = ρ' → (∀ q, q ≠ 20 → u q = σ q) → Hp E u s H locs → lv_has ls 5 [(0, .ref (adr E 20 0)), (1, .int x1), (2, .int x2)] → W p l e rm_X13_matches s m args below meth c H locs 0 0 Q (F0 m 134 ls [])) : ∀ (n : Nat) {x3 : Int32} {ρ : OM}, f_X13_matches_59 x1 x2 n x3 ρ = some ρ' → ∀ {u : SM} {H : Heap} {locs : List Loc} {ls : Array Slot}, u 20 = ρ → (∀ q, q ≠ 20 → u q = σ q) → Hp E u s H locs → lv_has ls 5 [(0, .ref (adr E 20 0)), (1, .int x1), (2, .int x2), (3, .int x3)] → W p l e rm_X13_matches s m args below meth c H locs 0 0 Q (F0 m 59 ls []) := by
  have hx := cx.1.1
  have hb := cx.1.2.1
  intro n
  induction n with
  | zero =>
    intro x3 ρ hf
    exact absurd hf (by simp [f_X13_matches_59])
  | succ n ih =>
    intro x3 ρ hf u H locs ls e20 fr hp hl
    rw [f_X13_matches_59] at hf
    refine lv_iload_n hx hb dX13_matches_59 rfl (lv_at hl 3 rfl) ?_
    refine lv_aload_n hx hb dX13_matches_60 rfl (lv_at hl 0 rfl) ?_
    refine lv_iload_n hx hb dX13_matches_61 rfl (lv_at hl 1 rfl) ?_
    refine lv_iconst (v := 4) hx hb dX13_matches_62 (by decide) ?_
    obtain ⟨r10, hc, hf⟩ := fb hf
    refine x_i hp (y_V (As := [.int x1, .int 4]) (rest := [.int x3]) cx hp hl (c_X13_of l hN hT e20 hc) (cw_X13_98 cx (mc := 0) (ms := 0) rfl rfl ⟨by decide, by decide⟩) (rC_X13 hN cx hp) rfl rfl (Nat.le_of_ble_eq_true rfl) dX13_matches_63 ⟨Nat.zero_le _, Nat.zero_le _⟩) (fun r_c u_c H locs hq hp => ?_)
    obtain ⟨rfl, rfl⟩ := hq
    refine lv_icmp_ge (tgt := 134) hx hb dX13_matches_66 (by decide) (fun c11 => ?_) (fun c11 => ?_)
    · have hf := fp hf c11
      cases hf
      exact K _ _ _ _ e20 fr hp (lv_sub hl [0, 1, 2] rfl)
    · have hf := fn hf c11
      refine lv_iconst (v := 1) hx hb dX13_matches_69 (by decide) ?_
      refine lv_aload_n hx hb dX13_matches_70 rfl (lv_at hl 0 rfl) ?_
      refine lv_iload_n hx hb dX13_matches_71 rfl (lv_at hl 1 rfl) ?_
      refine lv_iconst (v := 5) hx hb dX13_matches_72 (by decide) ?_
      refine lv_iload_n hx hb dX13_matches_73 rfl (lv_at hl 3 rfl) ?_
      refine lv_iadd hx hb dX13_matches_74 ?_
      obtain ⟨r12, hc, hf⟩ := fb hf
      refine x_i hp (y_V (As := [.int x1, .int (5 + x3)]) (rest := [.int 1]) cx hp hl (c_X13_of l hN hT e20 hc) (cw_X13_98 cx (mc := 0) (ms := 0) rfl rfl ⟨by decide, by decide⟩) (rC_X13 hN cx hp) rfl rfl (Nat.le_of_ble_eq_true rfl) dX13_matches_75 ⟨Nat.zero_le _, Nat.zero_le _⟩) (fun r_c u_c H locs hq hp => ?_)
      obtain ⟨rfl, rfl⟩ := hq
      refine lv_ishl hx hb dX13_matches_78 ?_
      obtain ⟨i13, x_e, hf⟩ := fl hf
      refine lv_nm x_e ?_
      refine lv_istore (lv' := [(4, .int i13), (0, .ref (adr E 20 0)), (1, .int x1), (2, .int x2), (3, .int x3)]) hx hb dX13_matches_79 hl (by decide) rfl (fun ls hl => ?_)
      refine lv_iload_n hx hb dX13_matches_81 rfl (lv_at hl 3 rfl) ?_
      refine lv_iload hx hb dX13_matches_82 (lv_at hl 0 rfl) ?_
      refine lv_iand hx hb dX13_matches_84 ?_
      refine lv_if_eq (tgt := 128) hx hb dX13_matches_85 (by decide) (fun c14 => ?_) (fun c14 => ?_)
      · have hf := fp hf c14
        refine lv_iinc (v := (x3 + 1)) (lv' := [(3, .int (x3 + 1)), (4, .int i13), (0, .ref (adr E 20 0)), (1, .int x1), (2, .int x2)]) hx hb dX13_matches_128 hl (k := 4) rfl rfl (by decide) rfl (fun ls hl => ?_)
        refine lv_goto (tgt := 59) hx hb dX13_matches_131 (by decide) ?_
        exact ih  hf e20 fr hp (lv_sub hl [2, 3, 4, 0] rfl)
      · have hf := fn hf c14
        refine lv_aload_n hx hb dX13_matches_88 rfl (lv_at hl 1 rfl) ?_
        refine gF_X13_54 rfl hN cx hp dX13_matches_89 ?_
        refine lv_iload_n hx hb dX13_matches_92 rfl (lv_at hl 3 rfl) ?_
        refine lv_iload hx hb dX13_matches_93 (lv_at hl 0 rfl) ?_
        refine lv_isub hx hb dX13_matches_95 ?_
        obtain ⟨g_i, hf⟩ := fg hf
        refine lA_X13_14 e20 hN cx hp g_i dX13_matches_96 ?_
        refine lv_iconst (v := (-1)) hx hb dX13_matches_97 (by decide) ?_
        refine lv_icmp_eq (tgt := 128) hx hb dX13_matches_98 (by decide) (fun c15 => ?_) (fun c15 => ?_)
        · have hf := fp hf c15
          refine lv_iinc (v := (x3 + 1)) (lv' := [(3, .int (x3 + 1)), (4, .int i13), (0, .ref (adr E 20 0)), (1, .int x1), (2, .int x2)]) hx hb dX13_matches_128 hl (k := 4) rfl rfl (by decide) rfl (fun ls hl => ?_)
          refine lv_goto (tgt := 59) hx hb dX13_matches_131 (by decide) ?_
          exact ih  hf e20 fr hp (lv_sub hl [2, 3, 4, 0] rfl)
        · have hf := fn hf c15
          refine lv_aload_n hx hb dX13_matches_101 rfl (lv_at hl 1 rfl) ?_
          refine lv_iload_n hx hb dX13_matches_102 rfl (lv_at hl 3 rfl) ?_
          refine lv_aload_n hx hb dX13_matches_103 rfl (lv_at hl 1 rfl) ?_
          refine gF_X13_54 rfl hN cx hp dX13_matches_104 ?_
          refine lv_iload_n hx hb dX13_matches_107 rfl (lv_at hl 3 rfl) ?_
          refine lv_iload hx hb dX13_matches_108 (lv_at hl 0 rfl) ?_
          refine lv_isub hx hb dX13_matches_110 ?_
          obtain ⟨g_i, hf⟩ := fg hf
          refine lA_X13_14 e20 hN cx hp g_i dX13_matches_111 ?_
          refine lv_iconst (v := 1) hx hb dX13_matches_112 (by decide) ?_
          refine lv_iadd hx hb dX13_matches_113 ?_
          refine lv_aload_n hx hb dX13_matches_114 rfl (lv_at hl 1 rfl) ?_
          refine gF_X13_57 rfl hN cx hp dX13_matches_115 ?_
          refine lv_iload_n hx hb dX13_matches_118 rfl (lv_at hl 3 rfl) ?_
          refine lv_iload hx hb dX13_matches_119 (lv_at hl 0 rfl) ?_
          refine lv_isub hx hb dX13_matches_121 ?_
          obtain ⟨g_i, hf⟩ := fg hf
          refine lA_X13_15 e20 hN cx hp g_i dX13_matches_122 ?_
          refine lv_iload_n hx hb dX13_matches_123 rfl (lv_at hl 4 rfl) ?_
          refine lv_iadd hx hb dX13_matches_124 ?_
          obtain ⟨ρ16, hc, hf⟩ := fb hf
          refine x_v hp (y_V (As := [.int x2, .int ((ρ.1 14 (Int32.toNatClampNeg (x2 - i13))) + 1), .int ((ρ.1 15 (Int32.toNatClampNeg (x2 - i13))) + x3)]) (rest := []) cx hp hl (c_X13_takes l hN hT e20 hc) (cw_X13_364 cx (mc := 0) (ms := 0) rfl rfl ⟨by decide, by decide⟩) (rC_X13 hN cx hp) rfl rfl (Nat.le_of_ble_eq_true rfl) dX13_matches_125 ⟨Nat.zero_le _, Nat.zero_le _⟩) (fun u_c H locs hq hp => ?_)
          obtain ⟨e_0, n_u⟩ := hq
          have e20 := e_0
          have fr : ∀ q, q ≠ 20 → u_c q = σ q := fun q h0 => (n_u q h0).trans (fr q h0)
          obtain ⟨u, rfl⟩ : ∃ z, u_c = z := ⟨_, rfl⟩
          refine lv_iinc (v := (x3 + 1)) (lv' := [(3, .int (x3 + 1)), (4, .int i13), (0, .ref (adr E 20 0)), (1, .int x1), (2, .int x2)]) hx hb dX13_matches_128 hl (k := 4) rfl rfl (by decide) rfl (fun ls hl => ?_)
          refine lv_goto (tgt := 59) hx hb dX13_matches_131 (by decide) ?_
          exact ih  hf e20 fr hp (lv_sub hl [2, 3, 4, 0] rfl)
set_option maxRecDepth 100000 in
set_option maxHeartbeats 4000000 in
theorem L_X13_matches_53 {p : Program} {e : Env} {s : State} {m : MethodId} {args : Array Value} {below : List Frame} {meth : Method} {c : Code} (l : Launch) {E : Ev} (hN : 146 ≤ eN E) (hT : St E) {σ : SM} {Q : State → Prop} (cx : Cx E p s m meth c args RX13 cX13_matches 5 none) {x1 : Int32} {ρ' : OM} (K : ∀ (u : SM) (H : Heap) (locs : List Loc) (ls : Array Slot), u 20 = ρ' → (∀ q, q ≠ 20 → u q = σ q) → Hp E u s H locs → lv_has ls 5 [(0, .ref (adr E 20 0)), (1, .int x1)] → W p l e rm_X13_matches s m args below meth c H locs 0 0 Q (F0 m 140 ls [])) : ∀ (n : Nat) {x2 : Int32} {ρ : OM}, f_X13_matches_53 x1 n x2 ρ = some ρ' → ∀ {u : SM} {H : Heap} {locs : List Loc} {ls : Array Slot}, u 20 = ρ → (∀ q, q ≠ 20 → u q = σ q) → Hp E u s H locs → lv_has ls 5 [(0, .ref (adr E 20 0)), (1, .int x1), (2, .int x2)] → W p l e rm_X13_matches s m args below meth c H locs 0 0 Q (F0 m 53 ls []) := by
  have hx := cx.1.1
  have hb := cx.1.2.1
  intro n
  induction n with
  | zero =>
    intro x2 ρ hf
    exact absurd hf (by simp [f_X13_matches_53])
  | succ n ih =>
    intro x2 ρ hf u H locs ls e20 fr hp hl
    rw [f_X13_matches_53] at hf
    refine lv_iload_n hx hb dX13_matches_53 rfl (lv_at hl 2 rfl) ?_
    refine lv_if_le (tgt := 140) hx hb dX13_matches_54 (by decide) (fun c9 => ?_) (fun c9 => ?_)
    · have hf := fp hf c9
      cases hf
      exact K _ _ _ _ e20 fr hp (lv_sub hl [0, 1] rfl)
    · have hf := fn hf c9
      refine lv_iconst (v := 0) hx hb dX13_matches_57 (by decide) ?_
      refine lv_istore_n (lv' := [(3, .int 0), (0, .ref (adr E 20 0)), (1, .int x1), (2, .int x2)]) hx hb dX13_matches_58 rfl hl (by decide) rfl (fun ls hl => ?_)
      obtain ⟨ρ17, hc, hf⟩ := fb hf
      refine L_X13_matches_59 l hN hT cx  (fun u H locs ls e20 fr hp hl => ?_) _ hc e20 fr hp (lv_sub hl [1, 2, 3, 0] rfl)
      refine lv_iinc (v := (x2 + (-1))) (lv' := [(2, .int (x2 + (-1))), (0, .ref (adr E 20 0)), (1, .int x1)]) hx hb dX13_matches_134 hl (k := 2) rfl rfl (by decide) rfl (fun ls hl => ?_)
      refine lv_goto (tgt := 53) hx hb dX13_matches_137 (by decide) ?_
      exact ih  hf e20 fr hp (lv_sub hl [1, 2, 0] rfl)
set_option maxRecDepth 100000 in
set_option maxHeartbeats 4000000 in
theorem L_X13_matches_39 {p : Program} {e : Env} {s : State} {m : MethodId} {args : Array Value} {below : List Frame} {meth : Method} {c : Code} (l : Launch) {E : Ev} (hN : 146 ≤ eN E) (hT : St E) {σ : SM} (cx : Cx E p s m meth c args RX13 cX13_matches 5 none) {ρ' : OM} : ∀ (n : Nat) {x1 : Int32} {ρ : OM}, f_X13_matches_39  n x1 ρ = some ρ' → ∀ {u : SM} {H : Heap} {locs : List Loc} {ls : Array Slot}, u 20 = ρ → (∀ q, q ≠ 20 → u q = σ q) → Hp E u s H locs → lv_has ls 5 [(0, .ref (adr E 20 0)), (1, .int x1)] → W p l e rm_X13_matches s m args below meth c H locs 0 0 (MQ below (va_Qv (fun u => u 20 = ρ' ∧ ∀ q, q ≠ 20 → u q = σ q) (fun u t => Wu E u t) (eA E)) args s 0 0 (eA E)) (F0 m 39 ls []) := by
  have hx := cx.1.1
  have hb := cx.1.2.1
  intro n
  induction n with
  | zero =>
    intro x1 ρ hf
    exact absurd hf (by simp [f_X13_matches_39])
  | succ n ih =>
    intro x1 ρ hf u H locs ls e20 fr hp hl
    rw [f_X13_matches_39] at hf
    refine lv_iload_n hx hb dX13_matches_39 rfl (lv_at hl 1 rfl) ?_
    refine lv_aload_n hx hb dX13_matches_40 rfl (lv_at hl 0 rfl) ?_
    refine gF_X13_7 rfl hN cx hp dX13_matches_41 ?_
    refine lv_iconst (v := 0) hx hb dX13_matches_44 (by decide) ?_
    obtain ⟨g_i, hf⟩ := fg hf
    refine lA_X13_1 e20 hN cx hp g_i dX13_matches_45 ?_
    refine lv_icmp_ge (tgt := 146) hx hb dX13_matches_46 (by decide) (fun c8 => ?_) (fun c8 => ?_)
    · have hf := fp hf c8
      cases hf
      exact r_v cx hp ⟨e20, fr⟩ dX13_matches_146
    · have hf := fn hf c8
      refine lv_sipush (v := 255) hx hb dX13_matches_49 (by decide) ?_
      refine lv_istore_n (lv' := [(2, .int 255), (0, .ref (adr E 20 0)), (1, .int x1)]) hx hb dX13_matches_52 rfl hl (by decide) rfl (fun ls hl => ?_)
      obtain ⟨ρ18, hc, hf⟩ := fb hf
      refine L_X13_matches_53 l hN hT cx  (fun u H locs ls e20 fr hp hl => ?_) _ hc e20 fr hp (lv_sub hl [1, 2, 0] rfl)
      refine lv_iinc (v := (x1 + 1)) (lv' := [(1, .int (x1 + 1)), (0, .ref (adr E 20 0))]) hx hb dX13_matches_140 hl (k := 1) rfl rfl (by decide) rfl (fun ls hl => ?_)
      refine lv_goto (tgt := 39) hx hb dX13_matches_143 (by decide) ?_
      exact ih  hf e20 fr hp (lv_sub hl [1, 0] rfl)
set_option maxRecDepth 100000 in
set_option maxHeartbeats 4000000 in
theorem c_X13_matches (l : Launch) {E : Ev} (hN : 146 ≤ eN E) (hT : St E) {σ : SM} {ρ : OM} (e20 : σ 20 = ρ)  {ρ' : OM} (hf : f_X13_matches ρ = some ρ') : Met l yX13_matches (wC yX13_matches cX13_matches 5 none) rm_X13_matches (va_Pc [.ref (adr E 20 0)] (Wu E σ)) (va_Qv (fun u => u 20 = ρ' ∧ ∀ q, q ≠ 20 → u q = σ q) (fun u t => Wu E u t) (eA E)) 0 0 (eA E) := by
  refine g_entry (lv := [(0, .ref (adr E 20 0))]) (by decide) (Nat.le_of_ble_eq_true rfl) rfl ?_
  intro p e s m below meth c cx hp ls hl
  have hx := cx.1.1
  have hb := cx.1.2.1
  have fr : ∀ q, q ≠ 20 → σ q = σ q := fun _ _ => rfl
  unfold f_X13_matches at hf
  refine lv_iconst (v := 0) hx hb dX13_matches_0 (by decide) ?_
  refine lv_istore_n (lv' := [(1, .int 0), (0, .ref (adr E 20 0))]) hx hb dX13_matches_1 rfl hl (by decide) rfl (fun ls hl => ?_)
  obtain ⟨ρ7, hc, hf⟩ := fb hf
  refine L_X13_matches_2 l hN hT cx  (fun u H locs ls e20 fr hp hl => ?_) _ hc e20 fr hp (lv_sub hl [1, 0] rfl)
  refine lv_iconst (v := 0) hx hb dX13_matches_37 (by decide) ?_
  refine lv_istore_n (lv' := [(1, .int 0), (0, .ref (adr E 20 0))]) hx hb dX13_matches_38 rfl hl (by decide) rfl (fun ls hl => ?_)
  exact L_X13_matches_39 l hN hT cx  _ hf e20 fr hp (lv_sub hl [1, 0] rfl)
abbrev rm_X13_bestSet : Room := { frames := 2, cells := 0, slots := 0, locals := 47 }
set_option maxRecDepth 100000 in
set_option maxHeartbeats 4000000 in
theorem L_X13_bestSet_8 {p : Program} {e : Env} {s : State} {m : MethodId} {args : Array Value} {below : List Frame} {meth : Method} {c : Code} (l : Launch) {E : Ev} (hN : 146 ≤ eN E) (hT : St E) {σ : SM} (cx : Cx E p s m meth c args RX13 cX13_bestSet 4 (some .int)) {ρ : OM} {rv : Int32} {ρ' : OM} : ∀ (n : Nat) {x2 : Int32} {x1 : Int32}, f_X13_bestSet_8 ρ n x2 x1 = some (rv, ρ') → ∀ {u : SM} {H : Heap} {locs : List Loc} {ls : Array Slot}, u 20 = ρ → (∀ q, q ≠ 20 → u q = σ q) → Hp E u s H locs → lv_has ls 4 [(0, .ref (adr E 20 0)), (1, .int x1), (2, .int x2)] → W p l e rm_X13_bestSet s m args below meth c H locs 0 0 (MQ below (va_Qi (fun r u => rv = r ∧ u 20 = ρ' ∧ ∀ q, q ≠ 20 → u q = σ q) (fun u t => Wu E u t) (eA E)) args s 0 0 (eA E)) (F0 m 8 ls []) := by
  have hx := cx.1.1
  have hb := cx.1.2.1
  intro n
  induction n with
  | zero =>
    intro x2 x1 hf
    exact absurd hf (by simp [f_X13_bestSet_8])
  | succ n ih =>
    intro x2 x1 hf u H locs ls e20 fr hp hl
    rw [f_X13_bestSet_8] at hf
    refine lv_iload_n hx hb dX13_bestSet_8 rfl (lv_at hl 2 rfl) ?_
    refine lv_sipush (v := 256) hx hb dX13_bestSet_9 (by decide) ?_
    refine lv_icmp_ge (tgt := 64) hx hb dX13_bestSet_12 (by decide) (fun c2 => ?_) (fun c2 => ?_)
    · have hf := fp hf c2
      refine lv_iload_n hx hb dX13_bestSet_64 rfl (lv_at hl 1 rfl) ?_
      cases hf
      exact r_i cx hp ⟨rfl, e20, fr⟩ dX13_bestSet_65
    · have hf := fn hf c2
      refine lv_aload_n hx hb dX13_bestSet_15 rfl (lv_at hl 0 rfl) ?_
      refine gF_X13_54 rfl hN cx hp dX13_bestSet_16 ?_
      refine lv_iload_n hx hb dX13_bestSet_19 rfl (lv_at hl 2 rfl) ?_
      obtain ⟨g_i, hf⟩ := fg hf
      refine lA_X13_14 e20 hN cx hp g_i dX13_bestSet_20 ?_
      refine lv_aload_n hx hb dX13_bestSet_21 rfl (lv_at hl 0 rfl) ?_
      refine gF_X13_54 rfl hN cx hp dX13_bestSet_22 ?_
      refine lv_iload_n hx hb dX13_bestSet_25 rfl (lv_at hl 1 rfl) ?_
      obtain ⟨g_i, hf⟩ := fg hf
      refine lA_X13_14 e20 hN cx hp g_i dX13_bestSet_26 ?_
      refine lv_isub hx hb dX13_bestSet_27 ?_
      obtain ⟨i3, x_e, hf⟩ := fl hf
      refine lv_nm x_e ?_
      refine lv_istore_n (lv' := [(3, .int i3), (0, .ref (adr E 20 0)), (1, .int x1), (2, .int x2)]) hx hb dX13_bestSet_28 rfl hl (by decide) rfl (fun ls hl => ?_)
      refine lv_iload_n hx hb dX13_bestSet_29 rfl (lv_at hl 0 rfl) ?_
      refine lv_if_gt (tgt := 52) hx hb dX13_bestSet_30 (by decide) (fun c4 => ?_) (fun c4 => ?_)
      · have hf := fp hf c4
        refine lv_iload_n hx hb dX13_bestSet_52 rfl (lv_at hl 3 rfl) ?_
        refine lv_goto (tgt := 57) hx hb dX13_bestSet_53 (by decide) ?_
        refine lv_istore_n (lv' := [(1, .int x2), (3, .int i3), (0, .ref (adr E 20 0)), (2, .int x2)]) hx hb dX13_bestSet_57 rfl hl (by decide) rfl (fun ls hl => ?_)
        refine lv_iinc (v := (x2 + 1)) (lv' := [(2, .int (x2 + 1)), (1, .int x2), (3, .int i3), (0, .ref (adr E 20 0))]) hx hb dX13_bestSet_58 hl (k := 3) rfl rfl (by decide) rfl (fun ls hl => ?_)
        refine lv_goto (tgt := 8) hx hb dX13_bestSet_61 (by decide) ?_
        exact ih  hf e20 fr hp (lv_sub hl [3, 1, 0] rfl)
      · have hf := fn hf c4
        refine lv_iload_n hx hb dX13_bestSet_33 rfl (lv_at hl 0 rfl) ?_
        refine lv_if_ne (tgt := 56) hx hb dX13_bestSet_34 (by decide) (fun c5 => ?_) (fun c5 => ?_)
        · have hf := fn hf c5
          refine lv_iload_n hx hb dX13_bestSet_56 rfl (lv_at hl 2 rfl) ?_
          refine lv_istore_n (lv' := [(1, .int x1), (3, .int i3), (0, .ref (adr E 20 0)), (2, .int x2)]) hx hb dX13_bestSet_57 rfl hl (by decide) rfl (fun ls hl => ?_)
          refine lv_iinc (v := (x2 + 1)) (lv' := [(2, .int (x2 + 1)), (1, .int x1), (3, .int i3), (0, .ref (adr E 20 0))]) hx hb dX13_bestSet_58 hl (k := 3) rfl rfl (by decide) rfl (fun ls hl => ?_)
          refine lv_goto (tgt := 8) hx hb dX13_bestSet_61 (by decide) ?_
          exact ih  hf e20 fr hp (lv_sub hl [3, 1, 0] rfl)
        · have hf := fp hf c5
          refine lv_aload_n hx hb dX13_bestSet_37 rfl (lv_at hl 1 rfl) ?_
          refine gF_X13_57 rfl hN cx hp dX13_bestSet_38 ?_
          refine lv_iload_n hx hb dX13_bestSet_41 rfl (lv_at hl 3 rfl) ?_
          obtain ⟨g_i, hf⟩ := fg hf
          refine lA_X13_15 e20 hN cx hp g_i dX13_bestSet_42 ?_
          refine lv_aload_n hx hb dX13_bestSet_43 rfl (lv_at hl 1 rfl) ?_
          refine gF_X13_57 rfl hN cx hp dX13_bestSet_44 ?_
          refine lv_iload_n hx hb dX13_bestSet_47 rfl (lv_at hl 2 rfl) ?_
          obtain ⟨g_i, hf⟩ := fg hf
          refine lA_X13_15 e20 hN cx hp g_i dX13_bestSet_48 ?_
          refine lv_icmp_ge (tgt := 56) hx hb dX13_bestSet_49 (by decide) (fun c6 => ?_) (fun c6 => ?_)
          · have hf := fp hf c6
            refine lv_iload_n hx hb dX13_bestSet_56 rfl (lv_at hl 2 rfl) ?_
            refine lv_istore_n (lv' := [(1, .int x1), (3, .int i3), (0, .ref (adr E 20 0)), (2, .int x2)]) hx hb dX13_bestSet_57 rfl hl (by decide) rfl (fun ls hl => ?_)
            refine lv_iinc (v := (x2 + 1)) (lv' := [(2, .int (x2 + 1)), (1, .int x1), (3, .int i3), (0, .ref (adr E 20 0))]) hx hb dX13_bestSet_58 hl (k := 3) rfl rfl (by decide) rfl (fun ls hl => ?_)
            refine lv_goto (tgt := 8) hx hb dX13_bestSet_61 (by decide) ?_
            exact ih  hf e20 fr hp (lv_sub hl [3, 1, 0] rfl)
          · have hf := fn hf c6
            refine lv_iload_n hx hb dX13_bestSet_52 rfl (lv_at hl 3 rfl) ?_
            refine lv_goto (tgt := 57) hx hb dX13_bestSet_53 (by decide) ?_
            refine lv_istore_n (lv' := [(1, .int x2), (3, .int i3), (0, .ref (adr E 20 0)), (2, .int x2)]) hx hb dX13_bestSet_57 rfl hl (by decide) rfl (fun ls hl => ?_)
            refine lv_iinc (v := (x2 + 1)) (lv' := [(2, .int (x2 + 1)), (1, .int x2), (3, .int i3), (0, .ref (adr E 20 0))]) hx hb dX13_bestSet_58 hl (k := 3) rfl rfl (by decide) rfl (fun ls hl => ?_)
            refine lv_goto (tgt := 8) hx hb dX13_bestSet_61 (by decide) ?_
            exact ih  hf e20 fr hp (lv_sub hl [3, 1, 0] rfl)
set_option maxRecDepth 100000 in
set_option maxHeartbeats 4000000 in
theorem c_X13_bestSet (l : Launch) {E : Ev} (hN : 146 ≤ eN E) (hT : St E) {σ : SM} {ρ : OM} (e20 : σ 20 = ρ)  {rv : Int32} {ρ' : OM} (hf : f_X13_bestSet ρ = some (rv, ρ')) : Met l yX13_bestSet (wC yX13_bestSet cX13_bestSet 4 (some .int)) rm_X13_bestSet (va_Pc [.ref (adr E 20 0)] (Wu E σ)) (va_Qi (fun r u => rv = r ∧ u 20 = ρ' ∧ ∀ q, q ≠ 20 → u q = σ q) (fun u t => Wu E u t) (eA E)) 0 0 (eA E) := by
  refine g_entry (lv := [(0, .ref (adr E 20 0))]) (by decide) (Nat.le_of_ble_eq_true rfl) rfl ?_
  intro p e s m below meth c cx hp ls hl
  have hx := cx.1.1
  have hb := cx.1.2.1
  have fr : ∀ q, q ≠ 20 → σ q = σ q := fun _ _ => rfl
  unfold f_X13_bestSet at hf
  refine lv_aload_n hx hb dX13_bestSet_0 rfl (lv_at hl 0 rfl) ?_
  obtain ⟨ρ1, hc, hf⟩ := fb hf
  refine x_v hp (y_V (As := []) (rest := []) cx hp hl (c_X13_matches l hN hT e20 hc) (cw_X13_367 cx (mc := 0) (ms := 0) rfl rfl ⟨by decide, by decide⟩) (rC_X13 hN cx hp) rfl rfl (Nat.le_of_ble_eq_true rfl) dX13_bestSet_1 ⟨Nat.zero_le _, Nat.zero_le _⟩) (fun u_c H locs hq hp => ?_)
  obtain ⟨e_0, n_u⟩ := hq
  have e20 := e_0
  have fr : ∀ q, q ≠ 20 → u_c q = σ q := fun q h0 => (n_u q h0).trans (fr q h0)
  obtain ⟨u, rfl⟩ : ∃ z, u_c = z := ⟨_, rfl⟩
  refine lv_iconst (v := 0) hx hb dX13_bestSet_4 (by decide) ?_
  refine lv_istore_n (lv' := [(1, .int 0), (0, .ref (adr E 20 0))]) hx hb dX13_bestSet_5 rfl hl (by decide) rfl (fun ls hl => ?_)
  refine lv_iconst (v := 1) hx hb dX13_bestSet_6 (by decide) ?_
  refine lv_istore_n (lv' := [(2, .int 1), (1, .int 0), (0, .ref (adr E 20 0))]) hx hb dX13_bestSet_7 rfl hl (by decide) rfl (fun ls hl => ?_)
  exact L_X13_bestSet_8 l hN hT cx  _ hf e20 fr hp (lv_sub hl [2, 1, 0] rfl)
abbrev rm_X13_maximumMatchingSize : Room := { frames := 3, cells := 0, slots := 0, locals := 70 }
set_option maxRecDepth 100000 in
set_option maxHeartbeats 4000000 in
theorem c_X13_maximumMatchingSize (l : Launch) {E : Ev} (hN : 146 ≤ eN E) (hT : St E) {σ : SM} {ρ : OM} (e20 : σ 20 = ρ)  {rv : Int32} {ρ' : OM} (hf : f_X13_maximumMatchingSize ρ = some (rv, ρ')) : Met l yX13_maximumMatchingSize (wC yX13_maximumMatchingSize cX13_maximumMatchingSize 1 (some .int)) rm_X13_maximumMatchingSize (va_Pc [.ref (adr E 20 0)] (Wu E σ)) (va_Qi (fun r u => rv = r ∧ u 20 = ρ' ∧ ∀ q, q ≠ 20 → u q = σ q) (fun u t => Wu E u t) (eA E)) 0 0 (eA E) := by
  refine g_entry (lv := [(0, .ref (adr E 20 0))]) (by decide) (Nat.le_of_ble_eq_true rfl) rfl ?_
  intro p e s m below meth c cx hp ls hl
  have hx := cx.1.1
  have hb := cx.1.2.1
  have fr : ∀ q, q ≠ 20 → σ q = σ q := fun _ _ => rfl
  unfold f_X13_maximumMatchingSize at hf
  refine lv_aload_n hx hb dX13_maximumMatchingSize_0 rfl (lv_at hl 0 rfl) ?_
  refine lv_iconst (v := 0) hx hb dX13_maximumMatchingSize_1 (by decide) ?_
  obtain ⟨ρ1, e_l, hf⟩ := fl hf
  refine pF_X13_77 e20 hN cx hp dX13_maximumMatchingSize_2 (fun u H locs e_u n_u hp => ?_)
  have e20 := e_u.trans e_l
  have fr : ∀ q, q ≠ 20 → u q = σ q := fun q h0 => (n_u q h0).trans (fr q h0)
  refine lv_aload_n hx hb dX13_maximumMatchingSize_5 rfl (lv_at hl 0 rfl) ?_
  refine gF_X13_54 rfl hN cx hp dX13_maximumMatchingSize_6 ?_
  refine lv_aload_n hx hb dX13_maximumMatchingSize_9 rfl (lv_at hl 0 rfl) ?_
  obtain ⟨r2, ρ3, hc, hf⟩ := fb2 hf
  refine x_i hp (y_V (As := []) (rest := [.ref (adr E 20 14)]) cx hp hl (c_X13_bestSet l hN hT e20 hc) (cw_X13_370 cx (mc := 0) (ms := 0) rfl rfl ⟨by decide, by decide⟩) (rC_X13 hN cx hp) rfl rfl (Nat.le_of_ble_eq_true rfl) dX13_maximumMatchingSize_10 ⟨Nat.zero_le _, Nat.zero_le _⟩) (fun r_c u_c H locs hq hp => ?_)
  obtain ⟨rfl, e_0, n_u⟩ := hq
  have e20 := e_0
  have fr : ∀ q, q ≠ 20 → u_c q = σ q := fun q h0 => (n_u q h0).trans (fr q h0)
  obtain ⟨u, rfl⟩ : ∃ z, u_c = z := ⟨_, rfl⟩
  obtain ⟨g_i, hf⟩ := fg hf
  refine lA_X13_14 e20 hN cx hp g_i dX13_maximumMatchingSize_13 ?_
  cases hf
  exact r_i cx hp ⟨rfl, e20, fr⟩ dX13_maximumMatchingSize_14
abbrev rm_X13_leastRankSum : Room := { frames := 3, cells := 0, slots := 0, locals := 70 }
set_option maxRecDepth 100000 in
set_option maxHeartbeats 4000000 in
theorem c_X13_leastRankSum (l : Launch) {E : Ev} (hN : 146 ≤ eN E) (hT : St E) {σ : SM} {ρ : OM} (e20 : σ 20 = ρ)  {rv : Int32} {ρ' : OM} (hf : f_X13_leastRankSum ρ = some (rv, ρ')) : Met l yX13_leastRankSum (wC yX13_leastRankSum cX13_leastRankSum 1 (some .int)) rm_X13_leastRankSum (va_Pc [.ref (adr E 20 0)] (Wu E σ)) (va_Qi (fun r u => rv = r ∧ u 20 = ρ' ∧ ∀ q, q ≠ 20 → u q = σ q) (fun u t => Wu E u t) (eA E)) 0 0 (eA E) := by
  refine g_entry (lv := [(0, .ref (adr E 20 0))]) (by decide) (Nat.le_of_ble_eq_true rfl) rfl ?_
  intro p e s m below meth c cx hp ls hl
  have hx := cx.1.1
  have hb := cx.1.2.1
  have fr : ∀ q, q ≠ 20 → σ q = σ q := fun _ _ => rfl
  unfold f_X13_leastRankSum at hf
  refine lv_aload_n hx hb dX13_leastRankSum_0 rfl (lv_at hl 0 rfl) ?_
  refine lv_iconst (v := 0) hx hb dX13_leastRankSum_1 (by decide) ?_
  obtain ⟨ρ1, e_l, hf⟩ := fl hf
  refine pF_X13_77 e20 hN cx hp dX13_leastRankSum_2 (fun u H locs e_u n_u hp => ?_)
  have e20 := e_u.trans e_l
  have fr : ∀ q, q ≠ 20 → u q = σ q := fun q h0 => (n_u q h0).trans (fr q h0)
  refine lv_aload_n hx hb dX13_leastRankSum_5 rfl (lv_at hl 0 rfl) ?_
  refine gF_X13_57 rfl hN cx hp dX13_leastRankSum_6 ?_
  refine lv_aload_n hx hb dX13_leastRankSum_9 rfl (lv_at hl 0 rfl) ?_
  obtain ⟨r2, ρ3, hc, hf⟩ := fb2 hf
  refine x_i hp (y_V (As := []) (rest := [.ref (adr E 20 15)]) cx hp hl (c_X13_bestSet l hN hT e20 hc) (cw_X13_370 cx (mc := 0) (ms := 0) rfl rfl ⟨by decide, by decide⟩) (rC_X13 hN cx hp) rfl rfl (Nat.le_of_ble_eq_true rfl) dX13_leastRankSum_10 ⟨Nat.zero_le _, Nat.zero_le _⟩) (fun r_c u_c H locs hq hp => ?_)
  obtain ⟨rfl, e_0, n_u⟩ := hq
  have e20 := e_0
  have fr : ∀ q, q ≠ 20 → u_c q = σ q := fun q h0 => (n_u q h0).trans (fr q h0)
  obtain ⟨u, rfl⟩ : ∃ z, u_c = z := ⟨_, rfl⟩
  obtain ⟨g_i, hf⟩ := fg hf
  refine lA_X13_15 e20 hN cx hp g_i dX13_leastRankSum_13 ?_
  cases hf
  exact r_i cx hp ⟨rfl, e20, fr⟩ dX13_leastRankSum_14
abbrev rm_X13_daysUntilEviction : Room := { frames := 2, cells := 0, slots := 0, locals := 43 }
set_option maxRecDepth 100000 in
set_option maxHeartbeats 4000000 in
theorem L_X13_daysUntilEviction_38 {p : Program} {e : Env} {s : State} {m : MethodId} {args : Array Value} {below : List Frame} {meth : Method} {c : Code} (l : Launch) {E : Ev} (hN : 146 ≤ eN E) (hT : St E) {σ : SM} (cx : Cx E p s m meth c args RX13 cX13_daysUntilEviction 5 (some .int)) {x2 : Int32} {x1 : Int32} {ρ : OM} {rv : Int32} {ρ' : OM} : ∀ (n : Nat) {x4 : Int32} {x3 : Int32}, f_X13_daysUntilEviction_38 x2 x1 ρ n x4 x3 = some (rv, ρ') → ∀ {u : SM} {H : Heap} {locs : List Loc} {ls : Array Slot}, u 20 = ρ → (∀ q, q ≠ 20 → u q = σ q) → Hp E u s H locs → lv_has ls 5 [(0, .ref (adr E 20 0)), (1, .int x1), (2, .int x2), (3, .int x3), (4, .int x4)] → W p l e rm_X13_daysUntilEviction s m args below meth c H locs 0 0 (MQ below (va_Qi (fun r u => rv = r ∧ u 20 = ρ' ∧ ∀ q, q ≠ 20 → u q = σ q) (fun u t => Wu E u t) (eA E)) args s 0 0 (eA E)) (F0 m 38 ls []) := by
  have hx := cx.1.1
  have hb := cx.1.2.1
  intro n
  induction n with
  | zero =>
    intro x4 x3 hf
    exact absurd hf (by simp [f_X13_daysUntilEviction_38])
  | succ n ih =>
    intro x4 x3 hf u H locs ls e20 fr hp hl
    rw [f_X13_daysUntilEviction_38] at hf
    refine lv_iload hx hb dX13_daysUntilEviction_38 (lv_at hl 4 rfl) ?_
    refine lv_sipush (v := 400) hx hb dX13_daysUntilEviction_40 (by decide) ?_
    refine lv_icmp_gt (tgt := 81) hx hb dX13_daysUntilEviction_43 (by decide) (fun c8 => ?_) (fun c8 => ?_)
    · have hf := fp hf c8
      refine lv_iconst (v := (-1)) hx hb dX13_daysUntilEviction_81 (by decide) ?_
      cases hf
      exact r_i cx hp ⟨rfl, e20, fr⟩ dX13_daysUntilEviction_82
    · have hf := fn hf c8
      refine lv_iload_n hx hb dX13_daysUntilEviction_46 rfl (lv_at hl 3 rfl) ?_
      refine lv_aload_n hx hb dX13_daysUntilEviction_47 rfl (lv_at hl 0 rfl) ?_
      refine lv_iload_n hx hb dX13_daysUntilEviction_48 rfl (lv_at hl 1 rfl) ?_
      refine lv_iconst (v := 2) hx hb dX13_daysUntilEviction_49 (by decide) ?_
      obtain ⟨r9, hc, hf⟩ := fb hf
      refine x_i hp (y_V (As := [.int x1, .int 2]) (rest := [.int x3]) cx hp hl (c_X13_of l hN hT e20 hc) (cw_X13_98 cx (mc := 0) (ms := 0) rfl rfl ⟨by decide, by decide⟩) (rC_X13 hN cx hp) rfl rfl (Nat.le_of_ble_eq_true rfl) dX13_daysUntilEviction_50 ⟨Nat.zero_le _, Nat.zero_le _⟩) (fun r_c u_c H locs hq hp => ?_)
      obtain ⟨rfl, rfl⟩ := hq
      refine lv_iadd hx hb dX13_daysUntilEviction_53 ?_
      obtain ⟨i10, x_e, hf⟩ := fl hf
      refine lv_nm x_e ?_
      refine lv_istore_n (lv' := [(3, .int i10), (0, .ref (adr E 20 0)), (1, .int x1), (2, .int x2), (4, .int x4)]) hx hb dX13_daysUntilEviction_54 rfl hl (by decide) rfl (fun ls hl => ?_)
      refine lv_iload_n hx hb dX13_daysUntilEviction_55 rfl (lv_at hl 0 rfl) ?_
      refine lv_aload_n hx hb dX13_daysUntilEviction_56 rfl (lv_at hl 1 rfl) ?_
      refine lv_iload_n hx hb dX13_daysUntilEviction_57 rfl (lv_at hl 3 rfl) ?_
      obtain ⟨r11, hc, hf⟩ := fb hf
      refine x_i hp (y_V (As := [.int x2]) (rest := [.int i10]) cx hp hl (c_X13_rentOf l hN hT e20 hc) (cw_X13_149 cx (mc := 0) (ms := 0) rfl rfl ⟨by decide, by decide⟩) (rC_X13 hN cx hp) rfl rfl (Nat.le_of_ble_eq_true rfl) dX13_daysUntilEviction_58 ⟨Nat.zero_le _, Nat.zero_le _⟩) (fun r_c u_c H locs hq hp => ?_)
      obtain ⟨rfl, rfl⟩ := hq
      refine lv_icmp_ge (tgt := 67) hx hb dX13_daysUntilEviction_61 (by decide) (fun c12 => ?_) (fun c12 => ?_)
      · have hf := fp hf c12
        refine lv_iload_n hx hb dX13_daysUntilEviction_67 rfl (lv_at hl 0 rfl) ?_
        refine lv_aload_n hx hb dX13_daysUntilEviction_68 rfl (lv_at hl 1 rfl) ?_
        refine lv_iload_n hx hb dX13_daysUntilEviction_69 rfl (lv_at hl 3 rfl) ?_
        obtain ⟨r13, hc, hf⟩ := fb hf
        refine x_i hp (y_V (As := [.int x2]) (rest := [.int i10]) cx hp hl (c_X13_rentOf l hN hT e20 hc) (cw_X13_149 cx (mc := 0) (ms := 0) rfl rfl ⟨by decide, by decide⟩) (rC_X13 hN cx hp) rfl rfl (Nat.le_of_ble_eq_true rfl) dX13_daysUntilEviction_70 ⟨Nat.zero_le _, Nat.zero_le _⟩) (fun r_c u_c H locs hq hp => ?_)
        obtain ⟨rfl, rfl⟩ := hq
        refine lv_isub hx hb dX13_daysUntilEviction_73 ?_
        obtain ⟨i14, x_e, hf⟩ := fl hf
        refine lv_nm x_e ?_
        refine lv_istore_n (lv' := [(3, .int i14), (0, .ref (adr E 20 0)), (1, .int x1), (2, .int x2), (4, .int x4)]) hx hb dX13_daysUntilEviction_74 rfl hl (by decide) rfl (fun ls hl => ?_)
        refine lv_iinc (v := (x4 + 1)) (lv' := [(4, .int (x4 + 1)), (3, .int i14), (0, .ref (adr E 20 0)), (1, .int x1), (2, .int x2)]) hx hb dX13_daysUntilEviction_75 hl (k := 4) rfl rfl (by decide) rfl (fun ls hl => ?_)
        refine lv_goto (tgt := 38) hx hb dX13_daysUntilEviction_78 (by decide) ?_
        exact ih  hf e20 fr hp (lv_sub hl [2, 3, 4, 1, 0] rfl)
      · have hf := fn hf c12
        refine lv_iload hx hb dX13_daysUntilEviction_64 (lv_at hl 4 rfl) ?_
        cases hf
        exact r_i cx hp ⟨rfl, e20, fr⟩ dX13_daysUntilEviction_66
set_option maxRecDepth 100000 in
set_option maxHeartbeats 4000000 in
theorem c_X13_daysUntilEviction (l : Launch) {E : Ev} (hN : 146 ≤ eN E) (hT : St E) {σ : SM} {ρ : OM} (e20 : σ 20 = ρ) {p1 : Int32} {rv : Int32} {ρ' : OM} (hf : f_X13_daysUntilEviction p1 ρ = some (rv, ρ')) : Met l yX13_daysUntilEviction (wC yX13_daysUntilEviction cX13_daysUntilEviction 5 (some .int)) rm_X13_daysUntilEviction (va_Pc [.ref (adr E 20 0), .int p1] (Wu E σ)) (va_Qi (fun r u => rv = r ∧ u 20 = ρ' ∧ ∀ q, q ≠ 20 → u q = σ q) (fun u t => Wu E u t) (eA E)) 0 0 (eA E) := by
  refine g_entry (lv := [(0, .ref (adr E 20 0)), (1, .int p1)]) (by decide) (Nat.le_of_ble_eq_true rfl) rfl ?_
  intro p e s m below meth c cx hp ls hl
  have hx := cx.1.1
  have hb := cx.1.2.1
  have fr : ∀ q, q ≠ 20 → σ q = σ q := fun _ _ => rfl
  unfold f_X13_daysUntilEviction at hf
  refine lv_aload_n hx hb dX13_daysUntilEviction_0 rfl (lv_at hl 0 rfl) ?_
  refine lv_aload_n hx hb dX13_daysUntilEviction_1 rfl (lv_at hl 0 rfl) ?_
  refine lv_iload_n hx hb dX13_daysUntilEviction_2 rfl (lv_at hl 1 rfl) ?_
  obtain ⟨r1, hc, hf⟩ := fb hf
  refine x_i hp (y_V (As := [.int p1]) (rest := [.ref (adr E 20 0)]) cx hp hl (c_X13_isSeller l hN hT e20 hc) (cw_X13_339 cx (mc := 0) (ms := 0) rfl rfl ⟨by decide, by decide⟩) (rC_X13 hN cx hp) rfl rfl (Nat.le_of_ble_eq_true rfl) dX13_daysUntilEviction_3 ⟨Nat.zero_le _, Nat.zero_le _⟩) (fun r_c u_c H locs hq hp => ?_)
  obtain ⟨rfl, rfl⟩ := hq
  obtain ⟨r2, ρ3, hc, hf⟩ := fb2 hf
  refine x_i hp (y_V (As := [.int r1]) (rest := []) cx hp hl (c_X13_wants l hN hT e20 hc) (cw_X13_322 cx (mc := 0) (ms := 0) rfl rfl ⟨by decide, by decide⟩) (rC_X13 hN cx hp) rfl rfl (Nat.le_of_ble_eq_true rfl) dX13_daysUntilEviction_6 ⟨Nat.zero_le _, Nat.zero_le _⟩) (fun r_c u_c H locs hq hp => ?_)
  obtain ⟨rfl, e_0, n_u⟩ := hq
  have e20 := e_0
  have fr : ∀ q, q ≠ 20 → u_c q = σ q := fun q h0 => (n_u q h0).trans (fr q h0)
  obtain ⟨u, rfl⟩ : ∃ z, u_c = z := ⟨_, rfl⟩
  refine lv_if_ne (tgt := 14) hx hb dX13_daysUntilEviction_9 (by decide) (fun c4 => ?_) (fun c4 => ?_)
  · have hf := fn hf c4
    refine lv_aload_n hx hb dX13_daysUntilEviction_14 rfl (lv_at hl 0 rfl) ?_
    refine lv_iload_n hx hb dX13_daysUntilEviction_15 rfl (lv_at hl 1 rfl) ?_
    refine lv_iconst (v := 3) hx hb dX13_daysUntilEviction_16 (by decide) ?_
    obtain ⟨r5, hc, hf⟩ := fb hf
    refine x_i hp (y_V (As := [.int p1, .int 3]) (rest := []) cx hp hl (c_X13_of l hN hT e20 hc) (cw_X13_98 cx (mc := 0) (ms := 0) rfl rfl ⟨by decide, by decide⟩) (rC_X13 hN cx hp) rfl rfl (Nat.le_of_ble_eq_true rfl) dX13_daysUntilEviction_17 ⟨Nat.zero_le _, Nat.zero_le _⟩) (fun r_c u_c H locs hq hp => ?_)
    obtain ⟨rfl, rfl⟩ := hq
    refine lv_istore_n (lv' := [(2, .int r5), (0, .ref (adr E 20 0)), (1, .int p1)]) hx hb dX13_daysUntilEviction_20 rfl hl (by decide) rfl (fun ls hl => ?_)
    refine lv_iload_n hx hb dX13_daysUntilEviction_21 rfl (lv_at hl 0 rfl) ?_
    refine lv_iconst (v := (-1)) hx hb dX13_daysUntilEviction_22 (by decide) ?_
    refine lv_icmp_ne (tgt := 28) hx hb dX13_daysUntilEviction_23 (by decide) (fun c6 => ?_) (fun c6 => ?_)
    · have hf := fn hf c6
      refine lv_aload_n hx hb dX13_daysUntilEviction_28 rfl (lv_at hl 1 rfl) ?_
      refine lv_iload_n hx hb dX13_daysUntilEviction_29 rfl (lv_at hl 2 rfl) ?_
      refine lv_iconst (v := 1) hx hb dX13_daysUntilEviction_30 (by decide) ?_
      obtain ⟨r7, hc, hf⟩ := fb hf
      refine x_i hp (y_V (As := [.int p1, .int 1]) (rest := []) cx hp hl (c_X13_of l hN hT e20 hc) (cw_X13_98 cx (mc := 0) (ms := 0) rfl rfl ⟨by decide, by decide⟩) (rC_X13 hN cx hp) rfl rfl (Nat.le_of_ble_eq_true rfl) dX13_daysUntilEviction_31 ⟨Nat.zero_le _, Nat.zero_le _⟩) (fun r_c u_c H locs hq hp => ?_)
      obtain ⟨rfl, rfl⟩ := hq
      refine lv_istore_n (lv' := [(3, .int r7), (2, .int r5), (0, .ref (adr E 20 0)), (1, .int p1)]) hx hb dX13_daysUntilEviction_34 rfl hl (by decide) rfl (fun ls hl => ?_)
      refine lv_iconst (v := 1) hx hb dX13_daysUntilEviction_35 (by decide) ?_
      refine lv_istore (lv' := [(4, .int 1), (3, .int r7), (2, .int r5), (0, .ref (adr E 20 0)), (1, .int p1)]) hx hb dX13_daysUntilEviction_36 hl (by decide) rfl (fun ls hl => ?_)
      exact L_X13_daysUntilEviction_38 l hN hT cx  _ hf e20 fr hp (lv_sub hl [3, 4, 2, 1, 0] rfl)
    · have hf := fp hf c6
      refine lv_iconst (v := (-1)) hx hb dX13_daysUntilEviction_26 (by decide) ?_
      cases hf
      exact r_i cx hp ⟨rfl, e20, fr⟩ dX13_daysUntilEviction_27
  · have hf := fp hf c4
    refine lv_iconst (v := 0) hx hb dX13_daysUntilEviction_12 (by decide) ?_
    cases hf
    exact r_i cx hp ⟨rfl, e20, fr⟩ dX13_daysUntilEviction_13
abbrev rm_X13_balanceAfter : Room := { frames := 4, cells := 0, slots := 0, locals := 91 }
set_option maxRecDepth 100000 in
set_option maxHeartbeats 4000000 in
theorem c_X13_balanceAfter (l : Launch) {E : Ev} (hN : 146 ≤ eN E) (hT : St E) {σ : SM} {ρ : OM} (e20 : σ 20 = ρ) {p1 : Int32} {p2 : Int32} {rv : Int32} {ρ' : OM} (hf : f_X13_balanceAfter p1 p2 ρ = some (rv, ρ')) : Met l yX13_balanceAfter (wC yX13_balanceAfter cX13_balanceAfter 4 (some .int)) rm_X13_balanceAfter (va_Pc [.ref (adr E 20 0), .int p1, .int p2] (Wu E σ)) (va_Qi (fun r u => rv = r ∧ u 20 = ρ' ∧ ∀ q, q ≠ 20 → u q = σ q) (fun u t => Wu E u t) (eA E)) 0 0 (eA E) := by
  refine g_entry (lv := [(0, .ref (adr E 20 0)), (1, .int p1), (2, .int p2)]) (by decide) (Nat.le_of_ble_eq_true rfl) rfl ?_
  intro p e s m below meth c cx hp ls hl
  have hx := cx.1.1
  have hb := cx.1.2.1
  have fr : ∀ q, q ≠ 20 → σ q = σ q := fun _ _ => rfl
  unfold f_X13_balanceAfter at hf
  refine lv_aload_n hx hb dX13_balanceAfter_0 rfl (lv_at hl 0 rfl) ?_
  refine lv_aload_n hx hb dX13_balanceAfter_1 rfl (lv_at hl 0 rfl) ?_
  refine lv_iload_n hx hb dX13_balanceAfter_2 rfl (lv_at hl 1 rfl) ?_
  obtain ⟨r1, hc, hf⟩ := fb hf
  refine x_i hp (y_V (As := [.int p1]) (rest := [.ref (adr E 20 0)]) cx hp hl (c_X13_isSeller l hN hT e20 hc) (cw_X13_339 cx (mc := 0) (ms := 0) rfl rfl ⟨by decide, by decide⟩) (rC_X13 hN cx hp) rfl rfl (Nat.le_of_ble_eq_true rfl) dX13_balanceAfter_3 ⟨Nat.zero_le _, Nat.zero_le _⟩) (fun r_c u_c H locs hq hp => ?_)
  obtain ⟨rfl, rfl⟩ := hq
  refine lv_if_ne (tgt := 13) hx hb dX13_balanceAfter_6 (by decide) (fun c2 => ?_) (fun c2 => ?_)
  · have hf := fn hf c2
    refine lv_iload_n hx hb dX13_balanceAfter_13 rfl (lv_at hl 2 rfl) ?_
    refine lv_iconst (v := 0) hx hb dX13_balanceAfter_14 (by decide) ?_
    refine lv_sipush (v := 400) hx hb dX13_balanceAfter_15 (by decide) ?_
    obtain ⟨r3, hc, hf⟩ := fb hf
    refine x_i hp (y_S (As := [.int p2, .int 0, .int 400]) (rest := [.ref (adr E 20 0)]) cx hp hl (c_X13_isBetween l hN hT  hc) (cw_X13_90 cx (mc := 0) (ms := 0) rfl rfl ⟨by decide, by decide⟩) rfl rfl (Nat.le_of_ble_eq_true rfl) dX13_balanceAfter_18 ⟨Nat.zero_le _, Nat.zero_le _⟩) (fun r_c u_c H locs hq hp => ?_)
    obtain ⟨rfl, rfl⟩ := hq
    refine lv_if_ne (tgt := 28) hx hb dX13_balanceAfter_21 (by decide) (fun c4 => ?_) (fun c4 => ?_)
    · have hf := fn hf c4
      refine lv_iconst (v := 0) hx hb dX13_balanceAfter_28 (by decide) ?_
      obtain ⟨ρ5, e_l, hf⟩ := fl hf
      refine pF_X13_77 e20 hN cx hp dX13_balanceAfter_29 (fun u H locs e_u n_u hp => ?_)
      have e20 := e_u.trans e_l
      have fr : ∀ q, q ≠ 20 → u q = σ q := fun q h0 => (n_u q h0).trans (fr q h0)
      refine lv_aload_n hx hb dX13_balanceAfter_32 rfl (lv_at hl 0 rfl) ?_
      refine gF_X13_77 e20 hN cx hp dX13_balanceAfter_33 ?_
      refine lv_if_le (tgt := 41) hx hb dX13_balanceAfter_36 (by decide) (fun c6 => ?_) (fun c6 => ?_)
      · have hf := fp hf c6
        refine lv_aload_n hx hb dX13_balanceAfter_41 rfl (lv_at hl 0 rfl) ?_
        refine gF_X13_7 rfl hN cx hp dX13_balanceAfter_42 ?_
        refine lv_aload_n hx hb dX13_balanceAfter_45 rfl (lv_at hl 0 rfl) ?_
        refine gF_X13_13 rfl hN cx hp dX13_balanceAfter_46 ?_
        obtain ⟨ρ7, hc, hf⟩ := fb hf
        refine x_v hp (y_S (As := [.ref (adr E 20 1), .ref (adr E 20 2)]) (rest := []) cx hp hl (c_X13_copies_1_2 l hN hT e20 hc) (cw_X13_326 cx (mc := 0) (ms := 0) rfl rfl ⟨by decide, by decide⟩) rfl rfl (Nat.le_of_ble_eq_true rfl) dX13_balanceAfter_49 ⟨Nat.zero_le _, Nat.zero_le _⟩) (fun u_c H locs hq hp => ?_)
        obtain ⟨e_0, n_u⟩ := hq
        have e20 := e_0
        have fr : ∀ q, q ≠ 20 → u_c q = σ q := fun q h0 => (n_u q h0).trans (fr q h0)
        obtain ⟨u, rfl⟩ : ∃ z, u_c = z := ⟨_, rfl⟩
        refine lv_aload_n hx hb dX13_balanceAfter_52 rfl (lv_at hl 0 rfl) ?_
        refine lv_iload_n hx hb dX13_balanceAfter_53 rfl (lv_at hl 2 rfl) ?_
        obtain ⟨r8, ρ9, hc, hf⟩ := fb2 hf
        refine x_i hp (y_V (As := [.int p2]) (rest := []) cx hp hl (c_X13_passes l hN hT e20 hc) (cw_X13_316 cx (mc := 0) (ms := 0) rfl rfl ⟨by decide, by decide⟩) (rC_X13 hN cx hp) rfl rfl (Nat.le_of_ble_eq_true rfl) dX13_balanceAfter_54 ⟨Nat.zero_le _, Nat.zero_le _⟩) (fun r_c u_c H locs hq hp => ?_)
        obtain ⟨rfl, e_0, n_u⟩ := hq
        have e20 := e_0
        have fr : ∀ q, q ≠ 20 → u_c q = σ q := fun q h0 => (n_u q h0).trans (fr q h0)
        obtain ⟨u, rfl⟩ : ∃ z, u_c = z := ⟨_, rfl⟩
        refine lv_pop hx hb dX13_balanceAfter_57 rfl ?_
        refine lv_aload_n hx hb dX13_balanceAfter_58 rfl (lv_at hl 0 rfl) ?_
        refine lv_iload_n hx hb dX13_balanceAfter_59 rfl (lv_at hl 1 rfl) ?_
        refine lv_iconst (v := 1) hx hb dX13_balanceAfter_60 (by decide) ?_
        obtain ⟨r10, hc, hf⟩ := fb hf
        refine x_i hp (y_V (As := [.int p1, .int 1]) (rest := []) cx hp hl (c_X13_of l hN hT e20 hc) (cw_X13_98 cx (mc := 0) (ms := 0) rfl rfl ⟨by decide, by decide⟩) (rC_X13 hN cx hp) rfl rfl (Nat.le_of_ble_eq_true rfl) dX13_balanceAfter_61 ⟨Nat.zero_le _, Nat.zero_le _⟩) (fun r_c u_c H locs hq hp => ?_)
        obtain ⟨rfl, rfl⟩ := hq
        refine lv_istore_n (lv' := [(3, .int r10), (0, .ref (adr E 20 0)), (1, .int p1), (2, .int p2)]) hx hb dX13_balanceAfter_64 rfl hl (by decide) rfl (fun ls hl => ?_)
        refine lv_aload_n hx hb dX13_balanceAfter_65 rfl (lv_at hl 1 rfl) ?_
        refine gF_X13_13 rfl hN cx hp dX13_balanceAfter_66 ?_
        refine lv_aload_n hx hb dX13_balanceAfter_69 rfl (lv_at hl 1 rfl) ?_
        refine gF_X13_7 rfl hN cx hp dX13_balanceAfter_70 ?_
        obtain ⟨ρ11, hc, hf⟩ := fb hf
        refine x_v hp (y_S (As := [.ref (adr E 20 2), .ref (adr E 20 1)]) (rest := []) cx hp hl (c_X13_copies_2_1 l hN hT e20 hc) (cw_X13_326 cx (mc := 0) (ms := 0) rfl rfl ⟨by decide, by decide⟩) rfl rfl (Nat.le_of_ble_eq_true rfl) dX13_balanceAfter_73 ⟨Nat.zero_le _, Nat.zero_le _⟩) (fun u_c H locs hq hp => ?_)
        obtain ⟨e_0, n_u⟩ := hq
        have e20 := e_0
        have fr : ∀ q, q ≠ 20 → u_c q = σ q := fun q h0 => (n_u q h0).trans (fr q h0)
        obtain ⟨u, rfl⟩ : ∃ z, u_c = z := ⟨_, rfl⟩
        refine lv_iload_n hx hb dX13_balanceAfter_76 rfl (lv_at hl 0 rfl) ?_
        cases hf
        exact r_i cx hp ⟨rfl, e20, fr⟩ dX13_balanceAfter_77
      · have hf := fn hf c6
        refine lv_iconst (v := 0) hx hb dX13_balanceAfter_39 (by decide) ?_
        cases hf
        exact r_i cx hp ⟨rfl, e20, fr⟩ dX13_balanceAfter_40
    · have hf := fp hf c4
      refine lv_iconst (v := 2) hx hb dX13_balanceAfter_24 (by decide) ?_
      refine lv_goto (tgt := 29) hx hb dX13_balanceAfter_25 (by decide) ?_
      obtain ⟨ρ12, e_l, hf⟩ := fl hf
      refine pF_X13_77 e20 hN cx hp dX13_balanceAfter_29 (fun u H locs e_u n_u hp => ?_)
      have e20 := e_u.trans e_l
      have fr : ∀ q, q ≠ 20 → u q = σ q := fun q h0 => (n_u q h0).trans (fr q h0)
      refine lv_aload_n hx hb dX13_balanceAfter_32 rfl (lv_at hl 0 rfl) ?_
      refine gF_X13_77 e20 hN cx hp dX13_balanceAfter_33 ?_
      refine lv_if_le (tgt := 41) hx hb dX13_balanceAfter_36 (by decide) (fun c13 => ?_) (fun c13 => ?_)
      · have hf := fp hf c13
        refine lv_aload_n hx hb dX13_balanceAfter_41 rfl (lv_at hl 0 rfl) ?_
        refine gF_X13_7 rfl hN cx hp dX13_balanceAfter_42 ?_
        refine lv_aload_n hx hb dX13_balanceAfter_45 rfl (lv_at hl 0 rfl) ?_
        refine gF_X13_13 rfl hN cx hp dX13_balanceAfter_46 ?_
        obtain ⟨ρ14, hc, hf⟩ := fb hf
        refine x_v hp (y_S (As := [.ref (adr E 20 1), .ref (adr E 20 2)]) (rest := []) cx hp hl (c_X13_copies_1_2 l hN hT e20 hc) (cw_X13_326 cx (mc := 0) (ms := 0) rfl rfl ⟨by decide, by decide⟩) rfl rfl (Nat.le_of_ble_eq_true rfl) dX13_balanceAfter_49 ⟨Nat.zero_le _, Nat.zero_le _⟩) (fun u_c H locs hq hp => ?_)
        obtain ⟨e_0, n_u⟩ := hq
        have e20 := e_0
        have fr : ∀ q, q ≠ 20 → u_c q = σ q := fun q h0 => (n_u q h0).trans (fr q h0)
        obtain ⟨u, rfl⟩ : ∃ z, u_c = z := ⟨_, rfl⟩
        refine lv_aload_n hx hb dX13_balanceAfter_52 rfl (lv_at hl 0 rfl) ?_
        refine lv_iload_n hx hb dX13_balanceAfter_53 rfl (lv_at hl 2 rfl) ?_
        obtain ⟨r15, ρ16, hc, hf⟩ := fb2 hf
        refine x_i hp (y_V (As := [.int p2]) (rest := []) cx hp hl (c_X13_passes l hN hT e20 hc) (cw_X13_316 cx (mc := 0) (ms := 0) rfl rfl ⟨by decide, by decide⟩) (rC_X13 hN cx hp) rfl rfl (Nat.le_of_ble_eq_true rfl) dX13_balanceAfter_54 ⟨Nat.zero_le _, Nat.zero_le _⟩) (fun r_c u_c H locs hq hp => ?_)
        obtain ⟨rfl, e_0, n_u⟩ := hq
        have e20 := e_0
        have fr : ∀ q, q ≠ 20 → u_c q = σ q := fun q h0 => (n_u q h0).trans (fr q h0)
        obtain ⟨u, rfl⟩ : ∃ z, u_c = z := ⟨_, rfl⟩
        refine lv_pop hx hb dX13_balanceAfter_57 rfl ?_
        refine lv_aload_n hx hb dX13_balanceAfter_58 rfl (lv_at hl 0 rfl) ?_
        refine lv_iload_n hx hb dX13_balanceAfter_59 rfl (lv_at hl 1 rfl) ?_
        refine lv_iconst (v := 1) hx hb dX13_balanceAfter_60 (by decide) ?_
        obtain ⟨r17, hc, hf⟩ := fb hf
        refine x_i hp (y_V (As := [.int p1, .int 1]) (rest := []) cx hp hl (c_X13_of l hN hT e20 hc) (cw_X13_98 cx (mc := 0) (ms := 0) rfl rfl ⟨by decide, by decide⟩) (rC_X13 hN cx hp) rfl rfl (Nat.le_of_ble_eq_true rfl) dX13_balanceAfter_61 ⟨Nat.zero_le _, Nat.zero_le _⟩) (fun r_c u_c H locs hq hp => ?_)
        obtain ⟨rfl, rfl⟩ := hq
        refine lv_istore_n (lv' := [(3, .int r17), (0, .ref (adr E 20 0)), (1, .int p1), (2, .int p2)]) hx hb dX13_balanceAfter_64 rfl hl (by decide) rfl (fun ls hl => ?_)
        refine lv_aload_n hx hb dX13_balanceAfter_65 rfl (lv_at hl 1 rfl) ?_
        refine gF_X13_13 rfl hN cx hp dX13_balanceAfter_66 ?_
        refine lv_aload_n hx hb dX13_balanceAfter_69 rfl (lv_at hl 1 rfl) ?_
        refine gF_X13_7 rfl hN cx hp dX13_balanceAfter_70 ?_
        obtain ⟨ρ18, hc, hf⟩ := fb hf
        refine x_v hp (y_S (As := [.ref (adr E 20 2), .ref (adr E 20 1)]) (rest := []) cx hp hl (c_X13_copies_2_1 l hN hT e20 hc) (cw_X13_326 cx (mc := 0) (ms := 0) rfl rfl ⟨by decide, by decide⟩) rfl rfl (Nat.le_of_ble_eq_true rfl) dX13_balanceAfter_73 ⟨Nat.zero_le _, Nat.zero_le _⟩) (fun u_c H locs hq hp => ?_)
        obtain ⟨e_0, n_u⟩ := hq
        have e20 := e_0
        have fr : ∀ q, q ≠ 20 → u_c q = σ q := fun q h0 => (n_u q h0).trans (fr q h0)
        obtain ⟨u, rfl⟩ : ∃ z, u_c = z := ⟨_, rfl⟩
        refine lv_iload_n hx hb dX13_balanceAfter_76 rfl (lv_at hl 0 rfl) ?_
        cases hf
        exact r_i cx hp ⟨rfl, e20, fr⟩ dX13_balanceAfter_77
      · have hf := fn hf c13
        refine lv_iconst (v := 0) hx hb dX13_balanceAfter_39 (by decide) ?_
        cases hf
        exact r_i cx hp ⟨rfl, e20, fr⟩ dX13_balanceAfter_40
  · have hf := fp hf c2
    refine lv_iconst (v := 1) hx hb dX13_balanceAfter_9 (by decide) ?_
    refine lv_goto (tgt := 29) hx hb dX13_balanceAfter_10 (by decide) ?_
    obtain ⟨ρ19, e_l, hf⟩ := fl hf
    refine pF_X13_77 e20 hN cx hp dX13_balanceAfter_29 (fun u H locs e_u n_u hp => ?_)
    have e20 := e_u.trans e_l
    have fr : ∀ q, q ≠ 20 → u q = σ q := fun q h0 => (n_u q h0).trans (fr q h0)
    refine lv_aload_n hx hb dX13_balanceAfter_32 rfl (lv_at hl 0 rfl) ?_
    refine gF_X13_77 e20 hN cx hp dX13_balanceAfter_33 ?_
    refine lv_if_le (tgt := 41) hx hb dX13_balanceAfter_36 (by decide) (fun c20 => ?_) (fun c20 => ?_)
    · have hf := fp hf c20
      refine lv_aload_n hx hb dX13_balanceAfter_41 rfl (lv_at hl 0 rfl) ?_
      refine gF_X13_7 rfl hN cx hp dX13_balanceAfter_42 ?_
      refine lv_aload_n hx hb dX13_balanceAfter_45 rfl (lv_at hl 0 rfl) ?_
      refine gF_X13_13 rfl hN cx hp dX13_balanceAfter_46 ?_
      obtain ⟨ρ21, hc, hf⟩ := fb hf
      refine x_v hp (y_S (As := [.ref (adr E 20 1), .ref (adr E 20 2)]) (rest := []) cx hp hl (c_X13_copies_1_2 l hN hT e20 hc) (cw_X13_326 cx (mc := 0) (ms := 0) rfl rfl ⟨by decide, by decide⟩) rfl rfl (Nat.le_of_ble_eq_true rfl) dX13_balanceAfter_49 ⟨Nat.zero_le _, Nat.zero_le _⟩) (fun u_c H locs hq hp => ?_)
      obtain ⟨e_0, n_u⟩ := hq
      have e20 := e_0
      have fr : ∀ q, q ≠ 20 → u_c q = σ q := fun q h0 => (n_u q h0).trans (fr q h0)
      obtain ⟨u, rfl⟩ : ∃ z, u_c = z := ⟨_, rfl⟩
      refine lv_aload_n hx hb dX13_balanceAfter_52 rfl (lv_at hl 0 rfl) ?_
      refine lv_iload_n hx hb dX13_balanceAfter_53 rfl (lv_at hl 2 rfl) ?_
      obtain ⟨r22, ρ23, hc, hf⟩ := fb2 hf
      refine x_i hp (y_V (As := [.int p2]) (rest := []) cx hp hl (c_X13_passes l hN hT e20 hc) (cw_X13_316 cx (mc := 0) (ms := 0) rfl rfl ⟨by decide, by decide⟩) (rC_X13 hN cx hp) rfl rfl (Nat.le_of_ble_eq_true rfl) dX13_balanceAfter_54 ⟨Nat.zero_le _, Nat.zero_le _⟩) (fun r_c u_c H locs hq hp => ?_)
      obtain ⟨rfl, e_0, n_u⟩ := hq
      have e20 := e_0
      have fr : ∀ q, q ≠ 20 → u_c q = σ q := fun q h0 => (n_u q h0).trans (fr q h0)
      obtain ⟨u, rfl⟩ : ∃ z, u_c = z := ⟨_, rfl⟩
      refine lv_pop hx hb dX13_balanceAfter_57 rfl ?_
      refine lv_aload_n hx hb dX13_balanceAfter_58 rfl (lv_at hl 0 rfl) ?_
      refine lv_iload_n hx hb dX13_balanceAfter_59 rfl (lv_at hl 1 rfl) ?_
      refine lv_iconst (v := 1) hx hb dX13_balanceAfter_60 (by decide) ?_
      obtain ⟨r24, hc, hf⟩ := fb hf
      refine x_i hp (y_V (As := [.int p1, .int 1]) (rest := []) cx hp hl (c_X13_of l hN hT e20 hc) (cw_X13_98 cx (mc := 0) (ms := 0) rfl rfl ⟨by decide, by decide⟩) (rC_X13 hN cx hp) rfl rfl (Nat.le_of_ble_eq_true rfl) dX13_balanceAfter_61 ⟨Nat.zero_le _, Nat.zero_le _⟩) (fun r_c u_c H locs hq hp => ?_)
      obtain ⟨rfl, rfl⟩ := hq
      refine lv_istore_n (lv' := [(3, .int r24), (0, .ref (adr E 20 0)), (1, .int p1), (2, .int p2)]) hx hb dX13_balanceAfter_64 rfl hl (by decide) rfl (fun ls hl => ?_)
      refine lv_aload_n hx hb dX13_balanceAfter_65 rfl (lv_at hl 1 rfl) ?_
      refine gF_X13_13 rfl hN cx hp dX13_balanceAfter_66 ?_
      refine lv_aload_n hx hb dX13_balanceAfter_69 rfl (lv_at hl 1 rfl) ?_
      refine gF_X13_7 rfl hN cx hp dX13_balanceAfter_70 ?_
      obtain ⟨ρ25, hc, hf⟩ := fb hf
      refine x_v hp (y_S (As := [.ref (adr E 20 2), .ref (adr E 20 1)]) (rest := []) cx hp hl (c_X13_copies_2_1 l hN hT e20 hc) (cw_X13_326 cx (mc := 0) (ms := 0) rfl rfl ⟨by decide, by decide⟩) rfl rfl (Nat.le_of_ble_eq_true rfl) dX13_balanceAfter_73 ⟨Nat.zero_le _, Nat.zero_le _⟩) (fun u_c H locs hq hp => ?_)
      obtain ⟨e_0, n_u⟩ := hq
      have e20 := e_0
      have fr : ∀ q, q ≠ 20 → u_c q = σ q := fun q h0 => (n_u q h0).trans (fr q h0)
      obtain ⟨u, rfl⟩ : ∃ z, u_c = z := ⟨_, rfl⟩
      refine lv_iload_n hx hb dX13_balanceAfter_76 rfl (lv_at hl 0 rfl) ?_
      cases hf
      exact r_i cx hp ⟨rfl, e20, fr⟩ dX13_balanceAfter_77
    · have hf := fn hf c20
      refine lv_iconst (v := 0) hx hb dX13_balanceAfter_39 (by decide) ?_
      cases hf
      exact r_i cx hp ⟨rfl, e20, fr⟩ dX13_balanceAfter_40
abbrev rm_X13_rentPaid : Room := { frames := 0, cells := 0, slots := 0, locals := 0 }
set_option maxRecDepth 100000 in
set_option maxHeartbeats 4000000 in
theorem c_X13_rentPaid (l : Launch) {E : Ev} (hN : 146 ≤ eN E) (hT : St E) {σ : SM} {ρ : OM} (e20 : σ 20 = ρ)  {rv : Int32} {ρ' : OM} (hf : f_X13_rentPaid ρ = some (rv, ρ')) : Met l yX13_rentPaid (wC yX13_rentPaid cX13_rentPaid 1 (some .int)) rm_X13_rentPaid (va_Pc [.ref (adr E 20 0)] (Wu E σ)) (va_Qi (fun r u => rv = r ∧ u 20 = ρ' ∧ ∀ q, q ≠ 20 → u q = σ q) (fun u t => Wu E u t) (eA E)) 0 0 (eA E) := by
  refine g_entry (lv := [(0, .ref (adr E 20 0))]) (by decide) (Nat.le_of_ble_eq_true rfl) rfl ?_
  intro p e s m below meth c cx hp ls hl
  have hx := cx.1.1
  have hb := cx.1.2.1
  have fr : ∀ q, q ≠ 20 → σ q = σ q := fun _ _ => rfl
  unfold f_X13_rentPaid at hf
  refine lv_aload_n hx hb dX13_rentPaid_0 rfl (lv_at hl 0 rfl) ?_
  refine lv_iconst (v := 0) hx hb dX13_rentPaid_1 (by decide) ?_
  obtain ⟨ρ1, e_l, hf⟩ := fl hf
  refine pF_X13_77 e20 hN cx hp dX13_rentPaid_2 (fun u H locs e_u n_u hp => ?_)
  have e20 := e_u.trans e_l
  have fr : ∀ q, q ≠ 20 → u q = σ q := fun q h0 => (n_u q h0).trans (fr q h0)
  refine lv_aload_n hx hb dX13_rentPaid_5 rfl (lv_at hl 0 rfl) ?_
  refine gF_X13_7 rfl hN cx hp dX13_rentPaid_6 ?_
  refine lv_iconst (v := 3) hx hb dX13_rentPaid_9 (by decide) ?_
  obtain ⟨g_i, hf⟩ := fg hf
  refine lA_X13_1 e20 hN cx hp g_i dX13_rentPaid_10 ?_
  cases hf
  exact r_i cx hp ⟨rfl, e20, fr⟩ dX13_rentPaid_11
abbrev rm_X13_evictionCount : Room := { frames := 0, cells := 0, slots := 0, locals := 0 }
set_option maxRecDepth 100000 in
set_option maxHeartbeats 4000000 in
theorem c_X13_evictionCount (l : Launch) {E : Ev} (hN : 146 ≤ eN E) (hT : St E) {σ : SM} {ρ : OM} (e20 : σ 20 = ρ)  {rv : Int32} {ρ' : OM} (hf : f_X13_evictionCount ρ = some (rv, ρ')) : Met l yX13_evictionCount (wC yX13_evictionCount cX13_evictionCount 1 (some .int)) rm_X13_evictionCount (va_Pc [.ref (adr E 20 0)] (Wu E σ)) (va_Qi (fun r u => rv = r ∧ u 20 = ρ' ∧ ∀ q, q ≠ 20 → u q = σ q) (fun u t => Wu E u t) (eA E)) 0 0 (eA E) := by
  refine g_entry (lv := [(0, .ref (adr E 20 0))]) (by decide) (Nat.le_of_ble_eq_true rfl) rfl ?_
  intro p e s m below meth c cx hp ls hl
  have hx := cx.1.1
  have hb := cx.1.2.1
  have fr : ∀ q, q ≠ 20 → σ q = σ q := fun _ _ => rfl
  unfold f_X13_evictionCount at hf
  refine lv_aload_n hx hb dX13_evictionCount_0 rfl (lv_at hl 0 rfl) ?_
  refine lv_iconst (v := 0) hx hb dX13_evictionCount_1 (by decide) ?_
  obtain ⟨ρ1, e_l, hf⟩ := fl hf
  refine pF_X13_77 e20 hN cx hp dX13_evictionCount_2 (fun u H locs e_u n_u hp => ?_)
  have e20 := e_u.trans e_l
  have fr : ∀ q, q ≠ 20 → u q = σ q := fun q h0 => (n_u q h0).trans (fr q h0)
  refine lv_aload_n hx hb dX13_evictionCount_5 rfl (lv_at hl 0 rfl) ?_
  refine gF_X13_7 rfl hN cx hp dX13_evictionCount_6 ?_
  refine lv_iconst (v := 4) hx hb dX13_evictionCount_9 (by decide) ?_
  obtain ⟨g_i, hf⟩ := fg hf
  refine lA_X13_1 e20 hN cx hp g_i dX13_evictionCount_10 ?_
  cases hf
  exact r_i cx hp ⟨rfl, e20, fr⟩ dX13_evictionCount_11
abbrev rm_X13_swapCount : Room := { frames := 0, cells := 0, slots := 0, locals := 0 }
set_option maxRecDepth 100000 in
set_option maxHeartbeats 4000000 in
theorem c_X13_swapCount (l : Launch) {E : Ev} (hN : 146 ≤ eN E) (hT : St E) {σ : SM} {ρ : OM} (e20 : σ 20 = ρ)  {rv : Int32} {ρ' : OM} (hf : f_X13_swapCount ρ = some (rv, ρ')) : Met l yX13_swapCount (wC yX13_swapCount cX13_swapCount 1 (some .int)) rm_X13_swapCount (va_Pc [.ref (adr E 20 0)] (Wu E σ)) (va_Qi (fun r u => rv = r ∧ u 20 = ρ' ∧ ∀ q, q ≠ 20 → u q = σ q) (fun u t => Wu E u t) (eA E)) 0 0 (eA E) := by
  refine g_entry (lv := [(0, .ref (adr E 20 0))]) (by decide) (Nat.le_of_ble_eq_true rfl) rfl ?_
  intro p e s m below meth c cx hp ls hl
  have hx := cx.1.1
  have hb := cx.1.2.1
  have fr : ∀ q, q ≠ 20 → σ q = σ q := fun _ _ => rfl
  unfold f_X13_swapCount at hf
  refine lv_aload_n hx hb dX13_swapCount_0 rfl (lv_at hl 0 rfl) ?_
  refine lv_iconst (v := 0) hx hb dX13_swapCount_1 (by decide) ?_
  obtain ⟨ρ1, e_l, hf⟩ := fl hf
  refine pF_X13_77 e20 hN cx hp dX13_swapCount_2 (fun u H locs e_u n_u hp => ?_)
  have e20 := e_u.trans e_l
  have fr : ∀ q, q ≠ 20 → u q = σ q := fun q h0 => (n_u q h0).trans (fr q h0)
  refine lv_aload_n hx hb dX13_swapCount_5 rfl (lv_at hl 0 rfl) ?_
  refine gF_X13_7 rfl hN cx hp dX13_swapCount_6 ?_
  refine lv_iconst (v := 5) hx hb dX13_swapCount_9 (by decide) ?_
  obtain ⟨g_i, hf⟩ := fg hf
  refine lA_X13_1 e20 hN cx hp g_i dX13_swapCount_10 ?_
  cases hf
  exact r_i cx hp ⟨rfl, e20, fr⟩ dX13_swapCount_11
abbrev rm_X13_relocationCount : Room := { frames := 0, cells := 0, slots := 0, locals := 0 }
set_option maxRecDepth 100000 in
set_option maxHeartbeats 4000000 in
theorem c_X13_relocationCount (l : Launch) {E : Ev} (hN : 146 ≤ eN E) (hT : St E) {σ : SM} {ρ : OM} (e20 : σ 20 = ρ)  {rv : Int32} {ρ' : OM} (hf : f_X13_relocationCount ρ = some (rv, ρ')) : Met l yX13_relocationCount (wC yX13_relocationCount cX13_relocationCount 1 (some .int)) rm_X13_relocationCount (va_Pc [.ref (adr E 20 0)] (Wu E σ)) (va_Qi (fun r u => rv = r ∧ u 20 = ρ' ∧ ∀ q, q ≠ 20 → u q = σ q) (fun u t => Wu E u t) (eA E)) 0 0 (eA E) := by
  refine g_entry (lv := [(0, .ref (adr E 20 0))]) (by decide) (Nat.le_of_ble_eq_true rfl) rfl ?_
  intro p e s m below meth c cx hp ls hl
  have hx := cx.1.1
  have hb := cx.1.2.1
  have fr : ∀ q, q ≠ 20 → σ q = σ q := fun _ _ => rfl
  unfold f_X13_relocationCount at hf
  refine lv_aload_n hx hb dX13_relocationCount_0 rfl (lv_at hl 0 rfl) ?_
  refine lv_iconst (v := 0) hx hb dX13_relocationCount_1 (by decide) ?_
  obtain ⟨ρ1, e_l, hf⟩ := fl hf
  refine pF_X13_77 e20 hN cx hp dX13_relocationCount_2 (fun u H locs e_u n_u hp => ?_)
  have e20 := e_u.trans e_l
  have fr : ∀ q, q ≠ 20 → u q = σ q := fun q h0 => (n_u q h0).trans (fr q h0)
  refine lv_aload_n hx hb dX13_relocationCount_5 rfl (lv_at hl 0 rfl) ?_
  refine gF_X13_7 rfl hN cx hp dX13_relocationCount_6 ?_
  refine lv_bipush (v := 6) hx hb dX13_relocationCount_9 (by decide) ?_
  obtain ⟨g_i, hf⟩ := fg hf
  refine lA_X13_1 e20 hN cx hp g_i dX13_relocationCount_11 ?_
  cases hf
  exact r_i cx hp ⟨rfl, e20, fr⟩ dX13_relocationCount_12
abbrev rm_X13_meanRank : Room := { frames := 2, cells := 0, slots := 0, locals := 45 }
set_option maxRecDepth 100000 in
set_option maxHeartbeats 4000000 in
theorem L_X13_meanRank_11 {p : Program} {e : Env} {s : State} {m : MethodId} {args : Array Value} {below : List Frame} {meth : Method} {c : Code} (l : Launch) {E : Ev} (hN : 146 ≤ eN E) (hT : St E) {σ : SM} {Q : State → Prop} (cx : Cx E p s m meth c args RX13 cX13_meanRank 6 (some .double)) {ρ : OM} {z1 : Int32} {z2 : Int32} (K : ∀ (u : SM) (H : Heap) (locs : List Loc) (ls : Array Slot), u 20 = ρ → (∀ q, q ≠ 20 → u q = σ q) → Hp E u s H locs → lv_has ls 6 [(1, .int z1), (2, .int z2)] → W p l e rm_X13_meanRank s m args below meth c H locs 0 0 Q (F0 m 83 ls [])) : ∀ (n : Nat) {x3 : Int32} {x2 : Int32} {x1 : Int32}, f_X13_meanRank_11 ρ n x3 x2 x1 = some (z1, z2) → ∀ {u : SM} {H : Heap} {locs : List Loc} {ls : Array Slot}, u 20 = ρ → (∀ q, q ≠ 20 → u q = σ q) → Hp E u s H locs → lv_has ls 6 [(0, .ref (adr E 20 0)), (1, .int x1), (2, .int x2), (3, .int x3)] → W p l e rm_X13_meanRank s m args below meth c H locs 0 0 Q (F0 m 11 ls []) := by
  have hx := cx.1.1
  have hb := cx.1.2.1
  intro n
  induction n with
  | zero =>
    intro x3 x2 x1 hf
    exact absurd hf (by simp [f_X13_meanRank_11])
  | succ n ih =>
    intro x3 x2 x1 hf u H locs ls e20 fr hp hl
    rw [f_X13_meanRank_11] at hf
    refine lv_iload_n hx hb dX13_meanRank_11 rfl (lv_at hl 3 rfl) ?_
    refine lv_aload_n hx hb dX13_meanRank_12 rfl (lv_at hl 0 rfl) ?_
    refine gF_X13_7 rfl hN cx hp dX13_meanRank_13 ?_
    refine lv_iconst (v := 0) hx hb dX13_meanRank_16 (by decide) ?_
    obtain ⟨g_i, hf⟩ := fg hf
    refine lA_X13_1 e20 hN cx hp g_i dX13_meanRank_17 ?_
    refine lv_icmp_ge (tgt := 83) hx hb dX13_meanRank_18 (by decide) (fun c2 => ?_) (fun c2 => ?_)
    · have hf := fp hf c2
      cases hf
      exact K _ _ _ _ e20 fr hp (lv_sub hl [1, 2] rfl)
    · have hf := fn hf c2
      refine lv_aload_n hx hb dX13_meanRank_21 rfl (lv_at hl 0 rfl) ?_
      refine lv_iload_n hx hb dX13_meanRank_22 rfl (lv_at hl 3 rfl) ?_
      refine lv_iconst (v := 3) hx hb dX13_meanRank_23 (by decide) ?_
      obtain ⟨r3, hc, hf⟩ := fb hf
      refine x_i hp (y_V (As := [.int x3, .int 3]) (rest := []) cx hp hl (c_X13_of l hN hT e20 hc) (cw_X13_98 cx (mc := 0) (ms := 0) rfl rfl ⟨by decide, by decide⟩) (rC_X13 hN cx hp) rfl rfl (Nat.le_of_ble_eq_true rfl) dX13_meanRank_24 ⟨Nat.zero_le _, Nat.zero_le _⟩) (fun r_c u_c H locs hq hp => ?_)
      obtain ⟨rfl, rfl⟩ := hq
      refine lv_istore (lv' := [(4, .int r3), (0, .ref (adr E 20 0)), (1, .int x1), (2, .int x2), (3, .int x3)]) hx hb dX13_meanRank_27 hl (by decide) rfl (fun ls hl => ?_)
      refine lv_iload hx hb dX13_meanRank_29 (lv_at hl 0 rfl) ?_
      refine lv_iconst (v := (-1)) hx hb dX13_meanRank_31 (by decide) ?_
      refine lv_icmp_ne (tgt := 39) hx hb dX13_meanRank_32 (by decide) (fun c4 => ?_) (fun c4 => ?_)
      · have hf := fn hf c4
        refine lv_aload_n hx hb dX13_meanRank_39 rfl (lv_at hl 1 rfl) ?_
        refine lv_iload_n hx hb dX13_meanRank_40 rfl (lv_at hl 4 rfl) ?_
        refine lv_iload hx hb dX13_meanRank_41 (lv_at hl 0 rfl) ?_
        obtain ⟨r5, hc, hf⟩ := fb hf
        refine x_i hp (y_V (As := [.int x3, .int r3]) (rest := []) cx hp hl (c_X13_rank l hN hT e20 hc) (cw_X13_102 cx (mc := 0) (ms := 0) rfl rfl ⟨by decide, by decide⟩) (rC_X13 hN cx hp) rfl rfl (Nat.le_of_ble_eq_true rfl) dX13_meanRank_43 ⟨Nat.zero_le _, Nat.zero_le _⟩) (fun r_c u_c H locs hq hp => ?_)
        obtain ⟨rfl, rfl⟩ := hq
        refine lv_istore (lv' := [(5, .int r5), (4, .int r3), (0, .ref (adr E 20 0)), (1, .int x1), (2, .int x2), (3, .int x3)]) hx hb dX13_meanRank_46 hl (by decide) rfl (fun ls hl => ?_)
        refine lv_iload_n hx hb dX13_meanRank_48 rfl (lv_at hl 3 rfl) ?_
        refine lv_iload hx hb dX13_meanRank_49 (lv_at hl 0 rfl) ?_
        refine lv_iconst (v := (-1)) hx hb dX13_meanRank_51 (by decide) ?_
        refine lv_icmp_ne (tgt := 59) hx hb dX13_meanRank_52 (by decide) (fun c6 => ?_) (fun c6 => ?_)
        · have hf := fn hf c6
          refine lv_iconst (v := 1) hx hb dX13_meanRank_59 (by decide) ?_
          refine lv_iadd hx hb dX13_meanRank_60 ?_
          obtain ⟨i7, x_e, hf⟩ := fl hf
          refine lv_nm x_e ?_
          refine lv_istore_n (lv' := [(1, .int i7), (5, .int r5), (4, .int r3), (0, .ref (adr E 20 0)), (2, .int x2), (3, .int x3)]) hx hb dX13_meanRank_61 rfl hl (by decide) rfl (fun ls hl => ?_)
          refine lv_iload_n hx hb dX13_meanRank_62 rfl (lv_at hl 4 rfl) ?_
          refine lv_iload hx hb dX13_meanRank_63 (lv_at hl 1 rfl) ?_
          refine lv_iconst (v := (-1)) hx hb dX13_meanRank_65 (by decide) ?_
          refine lv_icmp_ne (tgt := 73) hx hb dX13_meanRank_66 (by decide) (fun c8 => ?_) (fun c8 => ?_)
          · have hf := fn hf c8
            refine lv_iload hx hb dX13_meanRank_73 (lv_at hl 1 rfl) ?_
            refine lv_iadd hx hb dX13_meanRank_75 ?_
            obtain ⟨i9, x_e, hf⟩ := fl hf
            refine lv_nm x_e ?_
            refine lv_istore_n (lv' := [(2, .int i9), (1, .int i7), (5, .int r5), (4, .int r3), (0, .ref (adr E 20 0)), (3, .int x3)]) hx hb dX13_meanRank_76 rfl hl (by decide) rfl (fun ls hl => ?_)
            refine lv_iinc (v := (x3 + 1)) (lv' := [(3, .int (x3 + 1)), (2, .int i9), (1, .int i7), (5, .int r5), (4, .int r3), (0, .ref (adr E 20 0))]) hx hb dX13_meanRank_77 hl (k := 5) rfl rfl (by decide) rfl (fun ls hl => ?_)
            refine lv_goto (tgt := 11) hx hb dX13_meanRank_80 (by decide) ?_
            exact ih  hf e20 fr hp (lv_sub hl [5, 2, 1, 0] rfl)
          · have hf := fp hf c8
            refine lv_iconst (v := 0) hx hb dX13_meanRank_69 (by decide) ?_
            refine lv_goto (tgt := 75) hx hb dX13_meanRank_70 (by decide) ?_
            refine lv_iadd hx hb dX13_meanRank_75 ?_
            obtain ⟨i10, x_e, hf⟩ := fl hf
            refine lv_nm x_e ?_
            refine lv_istore_n (lv' := [(2, .int i10), (1, .int i7), (5, .int r5), (4, .int r3), (0, .ref (adr E 20 0)), (3, .int x3)]) hx hb dX13_meanRank_76 rfl hl (by decide) rfl (fun ls hl => ?_)
            refine lv_iinc (v := (x3 + 1)) (lv' := [(3, .int (x3 + 1)), (2, .int i10), (1, .int i7), (5, .int r5), (4, .int r3), (0, .ref (adr E 20 0))]) hx hb dX13_meanRank_77 hl (k := 5) rfl rfl (by decide) rfl (fun ls hl => ?_)
            refine lv_goto (tgt := 11) hx hb dX13_meanRank_80 (by decide) ?_
            exact ih  hf e20 fr hp (lv_sub hl [5, 2, 1, 0] rfl)
        · have hf := fp hf c6
          refine lv_iconst (v := 0) hx hb dX13_meanRank_55 (by decide) ?_
          refine lv_goto (tgt := 60) hx hb dX13_meanRank_56 (by decide) ?_
          refine lv_iadd hx hb dX13_meanRank_60 ?_
          obtain ⟨i11, x_e, hf⟩ := fl hf
          refine lv_nm x_e ?_
          refine lv_istore_n (lv' := [(1, .int i11), (5, .int r5), (4, .int r3), (0, .ref (adr E 20 0)), (2, .int x2), (3, .int x3)]) hx hb dX13_meanRank_61 rfl hl (by decide) rfl (fun ls hl => ?_)
          refine lv_iload_n hx hb dX13_meanRank_62 rfl (lv_at hl 4 rfl) ?_
          refine lv_iload hx hb dX13_meanRank_63 (lv_at hl 1 rfl) ?_
          refine lv_iconst (v := (-1)) hx hb dX13_meanRank_65 (by decide) ?_
          refine lv_icmp_ne (tgt := 73) hx hb dX13_meanRank_66 (by decide) (fun c12 => ?_) (fun c12 => ?_)
          · have hf := fn hf c12
            refine lv_iload hx hb dX13_meanRank_73 (lv_at hl 1 rfl) ?_
            refine lv_iadd hx hb dX13_meanRank_75 ?_
            obtain ⟨i13, x_e, hf⟩ := fl hf
            refine lv_nm x_e ?_
            refine lv_istore_n (lv' := [(2, .int i13), (1, .int i11), (5, .int r5), (4, .int r3), (0, .ref (adr E 20 0)), (3, .int x3)]) hx hb dX13_meanRank_76 rfl hl (by decide) rfl (fun ls hl => ?_)
            refine lv_iinc (v := (x3 + 1)) (lv' := [(3, .int (x3 + 1)), (2, .int i13), (1, .int i11), (5, .int r5), (4, .int r3), (0, .ref (adr E 20 0))]) hx hb dX13_meanRank_77 hl (k := 5) rfl rfl (by decide) rfl (fun ls hl => ?_)
            refine lv_goto (tgt := 11) hx hb dX13_meanRank_80 (by decide) ?_
            exact ih  hf e20 fr hp (lv_sub hl [5, 2, 1, 0] rfl)
          · have hf := fp hf c12
            refine lv_iconst (v := 0) hx hb dX13_meanRank_69 (by decide) ?_
            refine lv_goto (tgt := 75) hx hb dX13_meanRank_70 (by decide) ?_
            refine lv_iadd hx hb dX13_meanRank_75 ?_
            obtain ⟨i14, x_e, hf⟩ := fl hf
            refine lv_nm x_e ?_
            refine lv_istore_n (lv' := [(2, .int i14), (1, .int i11), (5, .int r5), (4, .int r3), (0, .ref (adr E 20 0)), (3, .int x3)]) hx hb dX13_meanRank_76 rfl hl (by decide) rfl (fun ls hl => ?_)
            refine lv_iinc (v := (x3 + 1)) (lv' := [(3, .int (x3 + 1)), (2, .int i14), (1, .int i11), (5, .int r5), (4, .int r3), (0, .ref (adr E 20 0))]) hx hb dX13_meanRank_77 hl (k := 5) rfl rfl (by decide) rfl (fun ls hl => ?_)
            refine lv_goto (tgt := 11) hx hb dX13_meanRank_80 (by decide) ?_
            exact ih  hf e20 fr hp (lv_sub hl [5, 2, 1, 0] rfl)
      · have hf := fp hf c4
        refine lv_iconst (v := (-1)) hx hb dX13_meanRank_35 (by decide) ?_
        refine lv_goto (tgt := 46) hx hb dX13_meanRank_36 (by decide) ?_
        refine lv_istore (lv' := [(5, .int (-1)), (4, .int r3), (0, .ref (adr E 20 0)), (1, .int x1), (2, .int x2), (3, .int x3)]) hx hb dX13_meanRank_46 hl (by decide) rfl (fun ls hl => ?_)
        refine lv_iload_n hx hb dX13_meanRank_48 rfl (lv_at hl 3 rfl) ?_
        refine lv_iload hx hb dX13_meanRank_49 (lv_at hl 0 rfl) ?_
        refine lv_iconst (v := (-1)) hx hb dX13_meanRank_51 (by decide) ?_
        refine lv_icmp_ne (tgt := 59) hx hb dX13_meanRank_52 (by decide) (fun c_x => absurd c_x (by decide)) (fun _ => ?_)
        refine lv_iconst (v := 0) hx hb dX13_meanRank_55 (by decide) ?_
        refine lv_goto (tgt := 60) hx hb dX13_meanRank_56 (by decide) ?_
        refine lv_iadd hx hb dX13_meanRank_60 ?_
        obtain ⟨i16, x_e, hf⟩ := fl hf
        refine lv_nm x_e ?_
        refine lv_istore_n (lv' := [(1, .int i16), (5, .int (-1)), (4, .int r3), (0, .ref (adr E 20 0)), (2, .int x2), (3, .int x3)]) hx hb dX13_meanRank_61 rfl hl (by decide) rfl (fun ls hl => ?_)
        refine lv_iload_n hx hb dX13_meanRank_62 rfl (lv_at hl 4 rfl) ?_
        refine lv_iload hx hb dX13_meanRank_63 (lv_at hl 1 rfl) ?_
        refine lv_iconst (v := (-1)) hx hb dX13_meanRank_65 (by decide) ?_
        refine lv_icmp_ne (tgt := 73) hx hb dX13_meanRank_66 (by decide) (fun c_x => absurd c_x (by decide)) (fun _ => ?_)
        refine lv_iconst (v := 0) hx hb dX13_meanRank_69 (by decide) ?_
        refine lv_goto (tgt := 75) hx hb dX13_meanRank_70 (by decide) ?_
        refine lv_iadd hx hb dX13_meanRank_75 ?_
        obtain ⟨i18, x_e, hf⟩ := fl hf
        refine lv_nm x_e ?_
        refine lv_istore_n (lv' := [(2, .int i18), (1, .int i16), (5, .int (-1)), (4, .int r3), (0, .ref (adr E 20 0)), (3, .int x3)]) hx hb dX13_meanRank_76 rfl hl (by decide) rfl (fun ls hl => ?_)
        refine lv_iinc (v := (x3 + 1)) (lv' := [(3, .int (x3 + 1)), (2, .int i18), (1, .int i16), (5, .int (-1)), (4, .int r3), (0, .ref (adr E 20 0))]) hx hb dX13_meanRank_77 hl (k := 5) rfl rfl (by decide) rfl (fun ls hl => ?_)
        refine lv_goto (tgt := 11) hx hb dX13_meanRank_80 (by decide) ?_
        exact ih  hf e20 fr hp (lv_sub hl [5, 2, 1, 0] rfl)
set_option maxRecDepth 100000 in
set_option maxHeartbeats 4000000 in
theorem c_X13_meanRank (l : Launch) {E : Ev} (hN : 146 ≤ eN E) (hT : St E) {σ : SM} {ρ : OM} (e20 : σ 20 = ρ)  {rv : UInt64} {ρ' : OM} (hf : f_X13_meanRank ρ = some (rv, ρ')) : Met l yX13_meanRank (wC yX13_meanRank cX13_meanRank 6 (some .double)) rm_X13_meanRank (va_Pc [.ref (adr E 20 0)] (Wu E σ)) (va_Qd (fun r u => rv = r ∧ u 20 = ρ' ∧ ∀ q, q ≠ 20 → u q = σ q) (fun u t => Wu E u t) (eA E)) 0 0 (eA E) := by
  refine g_entry (lv := [(0, .ref (adr E 20 0))]) (by decide) (Nat.le_of_ble_eq_true rfl) rfl ?_
  intro p e s m below meth c cx hp ls hl
  have hx := cx.1.1
  have hb := cx.1.2.1
  have fr : ∀ q, q ≠ 20 → σ q = σ q := fun _ _ => rfl
  unfold f_X13_meanRank at hf
  refine lv_aload_n hx hb dX13_meanRank_0 rfl (lv_at hl 0 rfl) ?_
  refine lv_iconst (v := 0) hx hb dX13_meanRank_1 (by decide) ?_
  obtain ⟨ρ1, e_l, hf⟩ := fl hf
  refine pF_X13_77 e20 hN cx hp dX13_meanRank_2 (fun u H locs e_u n_u hp => ?_)
  have e20 := e_u.trans e_l
  have fr : ∀ q, q ≠ 20 → u q = σ q := fun q h0 => (n_u q h0).trans (fr q h0)
  refine lv_iconst (v := 0) hx hb dX13_meanRank_5 (by decide) ?_
  refine lv_istore_n (lv' := [(1, .int 0), (0, .ref (adr E 20 0))]) hx hb dX13_meanRank_6 rfl hl (by decide) rfl (fun ls hl => ?_)
  refine lv_iconst (v := 0) hx hb dX13_meanRank_7 (by decide) ?_
  refine lv_istore_n (lv' := [(2, .int 0), (1, .int 0), (0, .ref (adr E 20 0))]) hx hb dX13_meanRank_8 rfl hl (by decide) rfl (fun ls hl => ?_)
  refine lv_iconst (v := 0) hx hb dX13_meanRank_9 (by decide) ?_
  refine lv_istore_n (lv' := [(3, .int 0), (2, .int 0), (1, .int 0), (0, .ref (adr E 20 0))]) hx hb dX13_meanRank_10 rfl hl (by decide) rfl (fun ls hl => ?_)
  obtain ⟨i19, i20, hc, hf⟩ := fb2 hf
  refine L_X13_meanRank_11 l hN hT cx  (fun u H locs ls e20 fr hp hl => ?_) _ hc e20 fr hp (lv_sub hl [3, 2, 1, 0] rfl)
  refine lv_iload_n hx hb dX13_meanRank_83 rfl (lv_at hl 0 rfl) ?_
  refine lv_if_ne (tgt := 91) hx hb dX13_meanRank_84 (by decide) (fun c21 => ?_) (fun c21 => ?_)
  · have hf := fn hf c21
    refine lv_iload_n hx hb dX13_meanRank_91 rfl (lv_at hl 1 rfl) ?_
    refine lv_i2d hx hb dX13_meanRank_92 ?_
    refine lv_iload_n hx hb dX13_meanRank_93 rfl (lv_at hl 0 rfl) ?_
    refine lv_i2d hx hb dX13_meanRank_94 ?_
    obtain ⟨g_n, hf⟩ := fg hf
    refine lv_ddiv hx hb dX13_meanRank_95 (nn64_vf g_n) ?_
    cases hf
    exact r_d cx hp ⟨rfl, e20, fr⟩ dX13_meanRank_96
  · have hf := fp hf c21
    refine lv_dconst0 hx hb dX13_meanRank_87 ?_
    refine lv_goto (tgt := 96) hx hb dX13_meanRank_88 (by decide) ?_
    cases hf
    exact r_d cx hp ⟨rfl, e20, fr⟩ dX13_meanRank_96
abbrev rm_X13_placedFraction : Room := { frames := 1, cells := 0, slots := 0, locals := 22 }
set_option maxRecDepth 100000 in
set_option maxHeartbeats 4000000 in
theorem L_X13_placedFraction_9 {p : Program} {e : Env} {s : State} {m : MethodId} {args : Array Value} {below : List Frame} {meth : Method} {c : Code} (l : Launch) {E : Ev} (hN : 146 ≤ eN E) (hT : St E) {σ : SM} (cx : Cx E p s m meth c args RX13 cX13_placedFraction 3 (some .float)) {ρ : OM} {rv : UInt32} {ρ' : OM} : ∀ (n : Nat) {x2 : Int32} {x1 : Int32}, f_X13_placedFraction_9 ρ n x2 x1 = some (rv, ρ') → ∀ {u : SM} {H : Heap} {locs : List Loc} {ls : Array Slot}, u 20 = ρ → (∀ q, q ≠ 20 → u q = σ q) → Hp E u s H locs → lv_has ls 3 [(0, .ref (adr E 20 0)), (1, .int x1), (2, .int x2)] → W p l e rm_X13_placedFraction s m args below meth c H locs 0 0 (MQ below (va_Qf (fun r u => rv = r ∧ u 20 = ρ' ∧ ∀ q, q ≠ 20 → u q = σ q) (fun u t => Wu E u t) (eA E)) args s 0 0 (eA E)) (F0 m 9 ls []) := by
  have hx := cx.1.1
  have hb := cx.1.2.1
  intro n
  induction n with
  | zero =>
    intro x2 x1 hf
    exact absurd hf (by simp [f_X13_placedFraction_9])
  | succ n ih =>
    intro x2 x1 hf u H locs ls e20 fr hp hl
    rw [f_X13_placedFraction_9] at hf
    refine lv_iload_n hx hb dX13_placedFraction_9 rfl (lv_at hl 2 rfl) ?_
    refine lv_aload_n hx hb dX13_placedFraction_10 rfl (lv_at hl 0 rfl) ?_
    refine gF_X13_7 rfl hN cx hp dX13_placedFraction_11 ?_
    refine lv_iconst (v := 0) hx hb dX13_placedFraction_14 (by decide) ?_
    obtain ⟨g_i, hf⟩ := fg hf
    refine lA_X13_1 e20 hN cx hp g_i dX13_placedFraction_15 ?_
    refine lv_icmp_ge (tgt := 43) hx hb dX13_placedFraction_16 (by decide) (fun c2 => ?_) (fun c2 => ?_)
    · have hf := fp hf c2
      refine lv_iload_n hx hb dX13_placedFraction_43 rfl (lv_at hl 1 rfl) ?_
      refine lv_i2f hx hb dX13_placedFraction_44 ?_
      refine lv_aload_n hx hb dX13_placedFraction_45 rfl (lv_at hl 0 rfl) ?_
      refine gF_X13_7 rfl hN cx hp dX13_placedFraction_46 ?_
      refine lv_iconst (v := 0) hx hb dX13_placedFraction_49 (by decide) ?_
      obtain ⟨g_i, hf⟩ := fg hf
      refine lA_X13_1 e20 hN cx hp g_i dX13_placedFraction_50 ?_
      refine lv_i2f hx hb dX13_placedFraction_51 ?_
      obtain ⟨g_n, hf⟩ := fg hf
      refine lv_fdiv hx hb dX13_placedFraction_52 (nn32_vf g_n) ?_
      cases hf
      exact r_f cx hp ⟨rfl, e20, fr⟩ dX13_placedFraction_53
    · have hf := fn hf c2
      refine lv_iload_n hx hb dX13_placedFraction_19 rfl (lv_at hl 1 rfl) ?_
      refine lv_aload_n hx hb dX13_placedFraction_20 rfl (lv_at hl 0 rfl) ?_
      refine lv_iload_n hx hb dX13_placedFraction_21 rfl (lv_at hl 2 rfl) ?_
      refine lv_iconst (v := 3) hx hb dX13_placedFraction_22 (by decide) ?_
      obtain ⟨r3, hc, hf⟩ := fb hf
      refine x_i hp (y_V (As := [.int x2, .int 3]) (rest := [.int x1]) cx hp hl (c_X13_of l hN hT e20 hc) (cw_X13_98 cx (mc := 0) (ms := 0) rfl rfl ⟨by decide, by decide⟩) (rC_X13 hN cx hp) rfl rfl (Nat.le_of_ble_eq_true rfl) dX13_placedFraction_23 ⟨Nat.zero_le _, Nat.zero_le _⟩) (fun r_c u_c H locs hq hp => ?_)
      obtain ⟨rfl, rfl⟩ := hq
      refine lv_iconst (v := (-1)) hx hb dX13_placedFraction_26 (by decide) ?_
      refine lv_icmp_ne (tgt := 34) hx hb dX13_placedFraction_27 (by decide) (fun c4 => ?_) (fun c4 => ?_)
      · have hf := fn hf c4
        refine lv_iconst (v := 1) hx hb dX13_placedFraction_34 (by decide) ?_
        refine lv_iadd hx hb dX13_placedFraction_35 ?_
        obtain ⟨i5, x_e, hf⟩ := fl hf
        refine lv_nm x_e ?_
        refine lv_istore_n (lv' := [(1, .int i5), (0, .ref (adr E 20 0)), (2, .int x2)]) hx hb dX13_placedFraction_36 rfl hl (by decide) rfl (fun ls hl => ?_)
        refine lv_iinc (v := (x2 + 1)) (lv' := [(2, .int (x2 + 1)), (1, .int i5), (0, .ref (adr E 20 0))]) hx hb dX13_placedFraction_37 hl (k := 2) rfl rfl (by decide) rfl (fun ls hl => ?_)
        refine lv_goto (tgt := 9) hx hb dX13_placedFraction_40 (by decide) ?_
        exact ih  hf e20 fr hp (lv_sub hl [2, 1, 0] rfl)
      · have hf := fp hf c4
        refine lv_iconst (v := 0) hx hb dX13_placedFraction_30 (by decide) ?_
        refine lv_goto (tgt := 35) hx hb dX13_placedFraction_31 (by decide) ?_
        refine lv_iadd hx hb dX13_placedFraction_35 ?_
        obtain ⟨i6, x_e, hf⟩ := fl hf
        refine lv_nm x_e ?_
        refine lv_istore_n (lv' := [(1, .int i6), (0, .ref (adr E 20 0)), (2, .int x2)]) hx hb dX13_placedFraction_36 rfl hl (by decide) rfl (fun ls hl => ?_)
        refine lv_iinc (v := (x2 + 1)) (lv' := [(2, .int (x2 + 1)), (1, .int i6), (0, .ref (adr E 20 0))]) hx hb dX13_placedFraction_37 hl (k := 2) rfl rfl (by decide) rfl (fun ls hl => ?_)
        refine lv_goto (tgt := 9) hx hb dX13_placedFraction_40 (by decide) ?_
        exact ih  hf e20 fr hp (lv_sub hl [2, 1, 0] rfl)
set_option maxRecDepth 100000 in
set_option maxHeartbeats 4000000 in
theorem c_X13_placedFraction (l : Launch) {E : Ev} (hN : 146 ≤ eN E) (hT : St E) {σ : SM} {ρ : OM} (e20 : σ 20 = ρ)  {rv : UInt32} {ρ' : OM} (hf : f_X13_placedFraction ρ = some (rv, ρ')) : Met l yX13_placedFraction (wC yX13_placedFraction cX13_placedFraction 3 (some .float)) rm_X13_placedFraction (va_Pc [.ref (adr E 20 0)] (Wu E σ)) (va_Qf (fun r u => rv = r ∧ u 20 = ρ' ∧ ∀ q, q ≠ 20 → u q = σ q) (fun u t => Wu E u t) (eA E)) 0 0 (eA E) := by
  refine g_entry (lv := [(0, .ref (adr E 20 0))]) (by decide) (Nat.le_of_ble_eq_true rfl) rfl ?_
  intro p e s m below meth c cx hp ls hl
  have hx := cx.1.1
  have hb := cx.1.2.1
  have fr : ∀ q, q ≠ 20 → σ q = σ q := fun _ _ => rfl
  unfold f_X13_placedFraction at hf
  refine lv_aload_n hx hb dX13_placedFraction_0 rfl (lv_at hl 0 rfl) ?_
  refine lv_iconst (v := 0) hx hb dX13_placedFraction_1 (by decide) ?_
  obtain ⟨ρ1, e_l, hf⟩ := fl hf
  refine pF_X13_77 e20 hN cx hp dX13_placedFraction_2 (fun u H locs e_u n_u hp => ?_)
  have e20 := e_u.trans e_l
  have fr : ∀ q, q ≠ 20 → u q = σ q := fun q h0 => (n_u q h0).trans (fr q h0)
  refine lv_iconst (v := 0) hx hb dX13_placedFraction_5 (by decide) ?_
  refine lv_istore_n (lv' := [(1, .int 0), (0, .ref (adr E 20 0))]) hx hb dX13_placedFraction_6 rfl hl (by decide) rfl (fun ls hl => ?_)
  refine lv_iconst (v := 0) hx hb dX13_placedFraction_7 (by decide) ?_
  refine lv_istore_n (lv' := [(2, .int 0), (1, .int 0), (0, .ref (adr E 20 0))]) hx hb dX13_placedFraction_8 rfl hl (by decide) rfl (fun ls hl => ?_)
  exact L_X13_placedFraction_9 l hN hT cx  _ hf e20 fr hp (lv_sub hl [2, 1, 0] rfl)
abbrev rm_X13_ledgerDifference : Room := { frames := 2, cells := 0, slots := 0, locals := 44 }
set_option maxRecDepth 100000 in
set_option maxHeartbeats 4000000 in
theorem c_X13_ledgerDifference (l : Launch) {E : Ev} (hN : 146 ≤ eN E) (hT : St E) {σ : SM} {ρ : OM} (e20 : σ 20 = ρ)  {rv : Int32} {ρ' : OM} (hf : f_X13_ledgerDifference ρ = some (rv, ρ')) : Met l yX13_ledgerDifference (wC yX13_ledgerDifference cX13_ledgerDifference 1 (some .int)) rm_X13_ledgerDifference (va_Pc [.ref (adr E 20 0)] (Wu E σ)) (va_Qi (fun r u => rv = r ∧ u 20 = ρ' ∧ ∀ q, q ≠ 20 → u q = σ q) (fun u t => Wu E u t) (eA E)) 0 0 (eA E) := by
  refine g_entry (lv := [(0, .ref (adr E 20 0))]) (by decide) (Nat.le_of_ble_eq_true rfl) rfl ?_
  intro p e s m below meth c cx hp ls hl
  have hx := cx.1.1
  have hb := cx.1.2.1
  have fr : ∀ q, q ≠ 20 → σ q = σ q := fun _ _ => rfl
  unfold f_X13_ledgerDifference at hf
  refine lv_aload_n hx hb dX13_ledgerDifference_0 rfl (lv_at hl 0 rfl) ?_
  refine lv_iconst (v := 0) hx hb dX13_ledgerDifference_1 (by decide) ?_
  obtain ⟨ρ1, e_l, hf⟩ := fl hf
  refine pF_X13_77 e20 hN cx hp dX13_ledgerDifference_2 (fun u H locs e_u n_u hp => ?_)
  have e20 := e_u.trans e_l
  have fr : ∀ q, q ≠ 20 → u q = σ q := fun q h0 => (n_u q h0).trans (fr q h0)
  refine lv_aload_n hx hb dX13_ledgerDifference_5 rfl (lv_at hl 0 rfl) ?_
  obtain ⟨r2, hc, hf⟩ := fb hf
  refine x_i hp (y_V (As := []) (rest := []) cx hp hl (c_X13_balances l hN hT e20 hc) (cw_X13_259 cx (mc := 0) (ms := 0) rfl rfl ⟨by decide, by decide⟩) (rC_X13 hN cx hp) rfl rfl (Nat.le_of_ble_eq_true rfl) dX13_ledgerDifference_6 ⟨Nat.zero_le _, Nat.zero_le _⟩) (fun r_c u_c H locs hq hp => ?_)
  obtain ⟨rfl, rfl⟩ := hq
  refine lv_aload_n hx hb dX13_ledgerDifference_9 rfl (lv_at hl 0 rfl) ?_
  refine gF_X13_7 rfl hN cx hp dX13_ledgerDifference_10 ?_
  refine lv_bipush (v := 7) hx hb dX13_ledgerDifference_13 (by decide) ?_
  obtain ⟨g_i, hf⟩ := fg hf
  refine lA_X13_1 e20 hN cx hp g_i dX13_ledgerDifference_15 ?_
  refine lv_isub hx hb dX13_ledgerDifference_16 ?_
  refine lv_aload_n hx hb dX13_ledgerDifference_17 rfl (lv_at hl 0 rfl) ?_
  refine gF_X13_7 rfl hN cx hp dX13_ledgerDifference_18 ?_
  refine lv_bipush (v := 8) hx hb dX13_ledgerDifference_21 (by decide) ?_
  obtain ⟨g_i, hf⟩ := fg hf
  refine lA_X13_1 e20 hN cx hp g_i dX13_ledgerDifference_23 ?_
  refine lv_isub hx hb dX13_ledgerDifference_24 ?_
  refine lv_aload_n hx hb dX13_ledgerDifference_25 rfl (lv_at hl 0 rfl) ?_
  refine gF_X13_7 rfl hN cx hp dX13_ledgerDifference_26 ?_
  refine lv_iconst (v := 3) hx hb dX13_ledgerDifference_29 (by decide) ?_
  obtain ⟨g_i, hf⟩ := fg hf
  refine lA_X13_1 e20 hN cx hp g_i dX13_ledgerDifference_30 ?_
  refine lv_iadd hx hb dX13_ledgerDifference_31 ?_
  cases hf
  exact r_i cx hp ⟨rfl, e20, fr⟩ dX13_ledgerDifference_32
abbrev rm_X13_assign : Room := { frames := 3, cells := 0, slots := 0, locals := 66 }
set_option maxRecDepth 100000 in
set_option maxHeartbeats 4000000 in
theorem c_X13_assign (l : Launch) {E : Ev} (hN : 146 ≤ eN E) (hT : St E) {σ : SM} {ρ : OM} (e20 : σ 20 = ρ) {p1 : Int32} {p2 : Int32} {rv : Int32} {ρ' : OM} (hf : f_X13_assign p1 p2 ρ = some (rv, ρ')) : Met l yX13_assign (wC yX13_assign cX13_assign 4 (some .int)) rm_X13_assign (va_Pc [.ref (adr E 20 0), .int p1, .int p2] (Wu E σ)) (va_Qi (fun r u => rv = r ∧ u 20 = ρ' ∧ ∀ q, q ≠ 20 → u q = σ q) (fun u t => Wu E u t) (eA E)) 0 0 (eA E) := by
  refine g_entry (lv := [(0, .ref (adr E 20 0)), (1, .int p1), (2, .int p2)]) (by decide) (Nat.le_of_ble_eq_true rfl) rfl ?_
  intro p e s m below meth c cx hp ls hl
  have hx := cx.1.1
  have hb := cx.1.2.1
  have fr : ∀ q, q ≠ 20 → σ q = σ q := fun _ _ => rfl
  unfold f_X13_assign at hf
  refine lv_aload_n hx hb dX13_assign_0 rfl (lv_at hl 0 rfl) ?_
  refine lv_iload_n hx hb dX13_assign_1 rfl (lv_at hl 1 rfl) ?_
  obtain ⟨r1, hc, hf⟩ := fb hf
  refine x_i hp (y_V (As := [.int p1]) (rest := []) cx hp hl (c_X13_isSeller l hN hT e20 hc) (cw_X13_339 cx (mc := 0) (ms := 0) rfl rfl ⟨by decide, by decide⟩) (rC_X13 hN cx hp) rfl rfl (Nat.le_of_ble_eq_true rfl) dX13_assign_2 ⟨Nat.zero_le _, Nat.zero_le _⟩) (fun r_c u_c H locs hq hp => ?_)
  obtain ⟨rfl, rfl⟩ := hq
  refine lv_if_eq (tgt := 20) hx hb dX13_assign_5 (by decide) (fun c2 => ?_) (fun c2 => ?_)
  · have hf := fp hf c2
    refine lv_iconst (v := 0) hx hb dX13_assign_20 (by decide) ?_
    refine lv_istore_n (lv' := [(3, .int 0), (0, .ref (adr E 20 0)), (1, .int p1), (2, .int p2)]) hx hb dX13_assign_21 rfl hl (by decide) rfl (fun ls hl => ?_)
    refine lv_aload_n hx hb dX13_assign_22 rfl (lv_at hl 1 rfl) ?_
    refine lv_iload_n hx hb dX13_assign_23 rfl (lv_at hl 0 rfl) ?_
    refine lv_if_ne (tgt := 31) hx hb dX13_assign_24 (by decide) (fun c_x => absurd c_x (by decide)) (fun _ => ?_)
    refine lv_iconst (v := 1) hx hb dX13_assign_27 (by decide) ?_
    refine lv_goto (tgt := 45) hx hb dX13_assign_28 (by decide) ?_
    obtain ⟨ρ4, e_l, hf⟩ := fl hf
    refine pF_X13_77 e20 hN cx hp dX13_assign_45 (fun u H locs e_u n_u hp => ?_)
    have e20 := e_u.trans e_l
    have fr : ∀ q, q ≠ 20 → u q = σ q := fun q h0 => (n_u q h0).trans (fr q h0)
    refine lv_aload_n hx hb dX13_assign_48 rfl (lv_at hl 1 rfl) ?_
    refine gF_X13_77 e20 hN cx hp dX13_assign_49 ?_
    refine lv_if_le (tgt := 57) hx hb dX13_assign_52 (by decide) (fun c5 => ?_) (fun c5 => ?_)
    · have hf := fp hf c5
      refine lv_aload_n hx hb dX13_assign_57 rfl (lv_at hl 1 rfl) ?_
      obtain ⟨ρ6, hc, hf⟩ := fb hf
      refine x_v hp (y_V (As := []) (rest := []) cx hp hl (c_X13_remembers l hN hT e20 hc) (cw_X13_333 cx (mc := 0) (ms := 0) rfl rfl ⟨by decide, by decide⟩) (rC_X13 hN cx hp) rfl rfl (Nat.le_of_ble_eq_true rfl) dX13_assign_58 ⟨Nat.zero_le _, Nat.zero_le _⟩) (fun u_c H locs hq hp => ?_)
      obtain ⟨e_0, n_u⟩ := hq
      have e20 := e_0
      have fr : ∀ q, q ≠ 20 → u_c q = σ q := fun q h0 => (n_u q h0).trans (fr q h0)
      obtain ⟨u, rfl⟩ : ∃ z, u_c = z := ⟨_, rfl⟩
      refine lv_aload_n hx hb dX13_assign_61 rfl (lv_at hl 1 rfl) ?_
      refine lv_iload_n hx hb dX13_assign_62 rfl (lv_at hl 2 rfl) ?_
      refine lv_iload_n hx hb dX13_assign_63 rfl (lv_at hl 3 rfl) ?_
      obtain ⟨r7, ρ8, hc, hf⟩ := fb2 hf
      refine x_i hp (y_V (As := [.int p1, .int p2]) (rest := []) cx hp hl (c_X13_assigns l hN hT e20 hc) (cw_X13_301 cx (mc := 0) (ms := 0) rfl rfl ⟨by decide, by decide⟩) (rC_X13 hN cx hp) rfl rfl (Nat.le_of_ble_eq_true rfl) dX13_assign_64 ⟨Nat.zero_le _, Nat.zero_le _⟩) (fun r_c u_c H locs hq hp => ?_)
      obtain ⟨rfl, e_0, n_u⟩ := hq
      have e20 := e_0
      have fr : ∀ q, q ≠ 20 → u_c q = σ q := fun q h0 => (n_u q h0).trans (fr q h0)
      obtain ⟨u, rfl⟩ : ∃ z, u_c = z := ⟨_, rfl⟩
      cases hf
      exact r_i cx hp ⟨rfl, e20, fr⟩ dX13_assign_67
    · have hf := fn hf c5
      refine lv_iconst (v := 0) hx hb dX13_assign_55 (by decide) ?_
      cases hf
      exact r_i cx hp ⟨rfl, e20, fr⟩ dX13_assign_56
  · have hf := fn hf c2
    refine lv_aload_n hx hb dX13_assign_8 rfl (lv_at hl 0 rfl) ?_
    refine lv_iload_n hx hb dX13_assign_9 rfl (lv_at hl 2 rfl) ?_
    obtain ⟨r9, hc, hf⟩ := fb hf
    refine x_i hp (y_V (As := [.int p2]) (rest := []) cx hp hl (c_X13_isStall l hN hT e20 hc) (cw_X13_94 cx (mc := 0) (ms := 0) rfl rfl ⟨by decide, by decide⟩) (rC_X13 hN cx hp) rfl rfl (Nat.le_of_ble_eq_true rfl) dX13_assign_10 ⟨Nat.zero_le _, Nat.zero_le _⟩) (fun r_c u_c H locs hq hp => ?_)
    obtain ⟨rfl, rfl⟩ := hq
    refine lv_if_eq (tgt := 20) hx hb dX13_assign_13 (by decide) (fun c10 => ?_) (fun c10 => ?_)
    · have hf := fp hf c10
      refine lv_iconst (v := 0) hx hb dX13_assign_20 (by decide) ?_
      refine lv_istore_n (lv' := [(3, .int 0), (0, .ref (adr E 20 0)), (1, .int p1), (2, .int p2)]) hx hb dX13_assign_21 rfl hl (by decide) rfl (fun ls hl => ?_)
      refine lv_aload_n hx hb dX13_assign_22 rfl (lv_at hl 1 rfl) ?_
      refine lv_iload_n hx hb dX13_assign_23 rfl (lv_at hl 0 rfl) ?_
      refine lv_if_ne (tgt := 31) hx hb dX13_assign_24 (by decide) (fun c_x => absurd c_x (by decide)) (fun _ => ?_)
      refine lv_iconst (v := 1) hx hb dX13_assign_27 (by decide) ?_
      refine lv_goto (tgt := 45) hx hb dX13_assign_28 (by decide) ?_
      obtain ⟨ρ12, e_l, hf⟩ := fl hf
      refine pF_X13_77 e20 hN cx hp dX13_assign_45 (fun u H locs e_u n_u hp => ?_)
      have e20 := e_u.trans e_l
      have fr : ∀ q, q ≠ 20 → u q = σ q := fun q h0 => (n_u q h0).trans (fr q h0)
      refine lv_aload_n hx hb dX13_assign_48 rfl (lv_at hl 1 rfl) ?_
      refine gF_X13_77 e20 hN cx hp dX13_assign_49 ?_
      refine lv_if_le (tgt := 57) hx hb dX13_assign_52 (by decide) (fun c13 => ?_) (fun c13 => ?_)
      · have hf := fp hf c13
        refine lv_aload_n hx hb dX13_assign_57 rfl (lv_at hl 1 rfl) ?_
        obtain ⟨ρ14, hc, hf⟩ := fb hf
        refine x_v hp (y_V (As := []) (rest := []) cx hp hl (c_X13_remembers l hN hT e20 hc) (cw_X13_333 cx (mc := 0) (ms := 0) rfl rfl ⟨by decide, by decide⟩) (rC_X13 hN cx hp) rfl rfl (Nat.le_of_ble_eq_true rfl) dX13_assign_58 ⟨Nat.zero_le _, Nat.zero_le _⟩) (fun u_c H locs hq hp => ?_)
        obtain ⟨e_0, n_u⟩ := hq
        have e20 := e_0
        have fr : ∀ q, q ≠ 20 → u_c q = σ q := fun q h0 => (n_u q h0).trans (fr q h0)
        obtain ⟨u, rfl⟩ : ∃ z, u_c = z := ⟨_, rfl⟩
        refine lv_aload_n hx hb dX13_assign_61 rfl (lv_at hl 1 rfl) ?_
        refine lv_iload_n hx hb dX13_assign_62 rfl (lv_at hl 2 rfl) ?_
        refine lv_iload_n hx hb dX13_assign_63 rfl (lv_at hl 3 rfl) ?_
        obtain ⟨r15, ρ16, hc, hf⟩ := fb2 hf
        refine x_i hp (y_V (As := [.int p1, .int p2]) (rest := []) cx hp hl (c_X13_assigns l hN hT e20 hc) (cw_X13_301 cx (mc := 0) (ms := 0) rfl rfl ⟨by decide, by decide⟩) (rC_X13 hN cx hp) rfl rfl (Nat.le_of_ble_eq_true rfl) dX13_assign_64 ⟨Nat.zero_le _, Nat.zero_le _⟩) (fun r_c u_c H locs hq hp => ?_)
        obtain ⟨rfl, e_0, n_u⟩ := hq
        have e20 := e_0
        have fr : ∀ q, q ≠ 20 → u_c q = σ q := fun q h0 => (n_u q h0).trans (fr q h0)
        obtain ⟨u, rfl⟩ : ∃ z, u_c = z := ⟨_, rfl⟩
        cases hf
        exact r_i cx hp ⟨rfl, e20, fr⟩ dX13_assign_67
      · have hf := fn hf c13
        refine lv_iconst (v := 0) hx hb dX13_assign_55 (by decide) ?_
        cases hf
        exact r_i cx hp ⟨rfl, e20, fr⟩ dX13_assign_56
    · have hf := fn hf c10
      refine lv_iconst (v := 1) hx hb dX13_assign_16 (by decide) ?_
      refine lv_goto (tgt := 21) hx hb dX13_assign_17 (by decide) ?_
      refine lv_istore_n (lv' := [(3, .int 1), (0, .ref (adr E 20 0)), (1, .int p1), (2, .int p2)]) hx hb dX13_assign_21 rfl hl (by decide) rfl (fun ls hl => ?_)
      refine lv_aload_n hx hb dX13_assign_22 rfl (lv_at hl 1 rfl) ?_
      refine lv_iload_n hx hb dX13_assign_23 rfl (lv_at hl 0 rfl) ?_
      refine lv_if_ne (tgt := 31) hx hb dX13_assign_24 (by decide) (fun _ => ?_) (fun c_x => absurd c_x (by decide))
      refine lv_aload_n hx hb dX13_assign_31 rfl (lv_at hl 1 rfl) ?_
      refine lv_iload_n hx hb dX13_assign_32 rfl (lv_at hl 2 rfl) ?_
      refine lv_iload_n hx hb dX13_assign_33 rfl (lv_at hl 3 rfl) ?_
      obtain ⟨r18, hc, hf⟩ := fb hf
      refine x_i hp (y_V (As := [.int p1, .int p2]) (rest := [.ref (adr E 20 0)]) cx hp hl (c_X13_canAssign l hN hT e20 hc) (cw_X13_298 cx (mc := 0) (ms := 0) rfl rfl ⟨by decide, by decide⟩) (rC_X13 hN cx hp) rfl rfl (Nat.le_of_ble_eq_true rfl) dX13_assign_34 ⟨Nat.zero_le _, Nat.zero_le _⟩) (fun r_c u_c H locs hq hp => ?_)
      obtain ⟨rfl, rfl⟩ := hq
      refine lv_if_ne (tgt := 44) hx hb dX13_assign_37 (by decide) (fun c19 => ?_) (fun c19 => ?_)
      · have hf := fn hf c19
        refine lv_iconst (v := 0) hx hb dX13_assign_44 (by decide) ?_
        obtain ⟨ρ20, e_l, hf⟩ := fl hf
        refine pF_X13_77 e20 hN cx hp dX13_assign_45 (fun u H locs e_u n_u hp => ?_)
        have e20 := e_u.trans e_l
        have fr : ∀ q, q ≠ 20 → u q = σ q := fun q h0 => (n_u q h0).trans (fr q h0)
        refine lv_aload_n hx hb dX13_assign_48 rfl (lv_at hl 1 rfl) ?_
        refine gF_X13_77 e20 hN cx hp dX13_assign_49 ?_
        refine lv_if_le (tgt := 57) hx hb dX13_assign_52 (by decide) (fun c21 => ?_) (fun c21 => ?_)
        · have hf := fp hf c21
          refine lv_aload_n hx hb dX13_assign_57 rfl (lv_at hl 1 rfl) ?_
          obtain ⟨ρ22, hc, hf⟩ := fb hf
          refine x_v hp (y_V (As := []) (rest := []) cx hp hl (c_X13_remembers l hN hT e20 hc) (cw_X13_333 cx (mc := 0) (ms := 0) rfl rfl ⟨by decide, by decide⟩) (rC_X13 hN cx hp) rfl rfl (Nat.le_of_ble_eq_true rfl) dX13_assign_58 ⟨Nat.zero_le _, Nat.zero_le _⟩) (fun u_c H locs hq hp => ?_)
          obtain ⟨e_0, n_u⟩ := hq
          have e20 := e_0
          have fr : ∀ q, q ≠ 20 → u_c q = σ q := fun q h0 => (n_u q h0).trans (fr q h0)
          obtain ⟨u, rfl⟩ : ∃ z, u_c = z := ⟨_, rfl⟩
          refine lv_aload_n hx hb dX13_assign_61 rfl (lv_at hl 1 rfl) ?_
          refine lv_iload_n hx hb dX13_assign_62 rfl (lv_at hl 2 rfl) ?_
          refine lv_iload_n hx hb dX13_assign_63 rfl (lv_at hl 3 rfl) ?_
          obtain ⟨r23, ρ24, hc, hf⟩ := fb2 hf
          refine x_i hp (y_V (As := [.int p1, .int p2]) (rest := []) cx hp hl (c_X13_assigns l hN hT e20 hc) (cw_X13_301 cx (mc := 0) (ms := 0) rfl rfl ⟨by decide, by decide⟩) (rC_X13 hN cx hp) rfl rfl (Nat.le_of_ble_eq_true rfl) dX13_assign_64 ⟨Nat.zero_le _, Nat.zero_le _⟩) (fun r_c u_c H locs hq hp => ?_)
          obtain ⟨rfl, e_0, n_u⟩ := hq
          have e20 := e_0
          have fr : ∀ q, q ≠ 20 → u_c q = σ q := fun q h0 => (n_u q h0).trans (fr q h0)
          obtain ⟨u, rfl⟩ : ∃ z, u_c = z := ⟨_, rfl⟩
          cases hf
          exact r_i cx hp ⟨rfl, e20, fr⟩ dX13_assign_67
        · have hf := fn hf c21
          refine lv_iconst (v := 0) hx hb dX13_assign_55 (by decide) ?_
          cases hf
          exact r_i cx hp ⟨rfl, e20, fr⟩ dX13_assign_56
      · have hf := fp hf c19
        refine lv_iconst (v := 2) hx hb dX13_assign_40 (by decide) ?_
        refine lv_goto (tgt := 45) hx hb dX13_assign_41 (by decide) ?_
        obtain ⟨ρ25, e_l, hf⟩ := fl hf
        refine pF_X13_77 e20 hN cx hp dX13_assign_45 (fun u H locs e_u n_u hp => ?_)
        have e20 := e_u.trans e_l
        have fr : ∀ q, q ≠ 20 → u q = σ q := fun q h0 => (n_u q h0).trans (fr q h0)
        refine lv_aload_n hx hb dX13_assign_48 rfl (lv_at hl 1 rfl) ?_
        refine gF_X13_77 e20 hN cx hp dX13_assign_49 ?_
        refine lv_if_le (tgt := 57) hx hb dX13_assign_52 (by decide) (fun c26 => ?_) (fun c26 => ?_)
        · have hf := fp hf c26
          refine lv_aload_n hx hb dX13_assign_57 rfl (lv_at hl 1 rfl) ?_
          obtain ⟨ρ27, hc, hf⟩ := fb hf
          refine x_v hp (y_V (As := []) (rest := []) cx hp hl (c_X13_remembers l hN hT e20 hc) (cw_X13_333 cx (mc := 0) (ms := 0) rfl rfl ⟨by decide, by decide⟩) (rC_X13 hN cx hp) rfl rfl (Nat.le_of_ble_eq_true rfl) dX13_assign_58 ⟨Nat.zero_le _, Nat.zero_le _⟩) (fun u_c H locs hq hp => ?_)
          obtain ⟨e_0, n_u⟩ := hq
          have e20 := e_0
          have fr : ∀ q, q ≠ 20 → u_c q = σ q := fun q h0 => (n_u q h0).trans (fr q h0)
          obtain ⟨u, rfl⟩ : ∃ z, u_c = z := ⟨_, rfl⟩
          refine lv_aload_n hx hb dX13_assign_61 rfl (lv_at hl 1 rfl) ?_
          refine lv_iload_n hx hb dX13_assign_62 rfl (lv_at hl 2 rfl) ?_
          refine lv_iload_n hx hb dX13_assign_63 rfl (lv_at hl 3 rfl) ?_
          obtain ⟨r28, ρ29, hc, hf⟩ := fb2 hf
          refine x_i hp (y_V (As := [.int p1, .int p2]) (rest := []) cx hp hl (c_X13_assigns l hN hT e20 hc) (cw_X13_301 cx (mc := 0) (ms := 0) rfl rfl ⟨by decide, by decide⟩) (rC_X13 hN cx hp) rfl rfl (Nat.le_of_ble_eq_true rfl) dX13_assign_64 ⟨Nat.zero_le _, Nat.zero_le _⟩) (fun r_c u_c H locs hq hp => ?_)
          obtain ⟨rfl, e_0, n_u⟩ := hq
          have e20 := e_0
          have fr : ∀ q, q ≠ 20 → u_c q = σ q := fun q h0 => (n_u q h0).trans (fr q h0)
          obtain ⟨u, rfl⟩ : ∃ z, u_c = z := ⟨_, rfl⟩
          cases hf
          exact r_i cx hp ⟨rfl, e20, fr⟩ dX13_assign_67
        · have hf := fn hf c26
          refine lv_iconst (v := 0) hx hb dX13_assign_55 (by decide) ?_
          cases hf
          exact r_i cx hp ⟨rfl, e20, fr⟩ dX13_assign_56
abbrev rm_X13_vacate : Room := { frames := 2, cells := 0, slots := 0, locals := 46 }
set_option maxRecDepth 100000 in
set_option maxHeartbeats 4000000 in
theorem c_X13_vacate (l : Launch) {E : Ev} (hN : 146 ≤ eN E) (hT : St E) {σ : SM} {ρ : OM} (e20 : σ 20 = ρ) {p1 : Int32} {rv : Int32} {ρ' : OM} (hf : f_X13_vacate p1 ρ = some (rv, ρ')) : Met l yX13_vacate (wC yX13_vacate cX13_vacate 2 (some .int)) rm_X13_vacate (va_Pc [.ref (adr E 20 0), .int p1] (Wu E σ)) (va_Qi (fun r u => rv = r ∧ u 20 = ρ' ∧ ∀ q, q ≠ 20 → u q = σ q) (fun u t => Wu E u t) (eA E)) 0 0 (eA E) := by
  refine g_entry (lv := [(0, .ref (adr E 20 0)), (1, .int p1)]) (by decide) (Nat.le_of_ble_eq_true rfl) rfl ?_
  intro p e s m below meth c cx hp ls hl
  have hx := cx.1.1
  have hb := cx.1.2.1
  have fr : ∀ q, q ≠ 20 → σ q = σ q := fun _ _ => rfl
  unfold f_X13_vacate at hf
  refine lv_aload_n hx hb dX13_vacate_0 rfl (lv_at hl 0 rfl) ?_
  refine lv_aload_n hx hb dX13_vacate_1 rfl (lv_at hl 0 rfl) ?_
  refine lv_iload_n hx hb dX13_vacate_2 rfl (lv_at hl 1 rfl) ?_
  obtain ⟨r1, hc, hf⟩ := fb hf
  refine x_i hp (y_V (As := [.int p1]) (rest := [.ref (adr E 20 0)]) cx hp hl (c_X13_isSeller l hN hT e20 hc) (cw_X13_339 cx (mc := 0) (ms := 0) rfl rfl ⟨by decide, by decide⟩) (rC_X13 hN cx hp) rfl rfl (Nat.le_of_ble_eq_true rfl) dX13_vacate_3 ⟨Nat.zero_le _, Nat.zero_le _⟩) (fun r_c u_c H locs hq hp => ?_)
  obtain ⟨rfl, rfl⟩ := hq
  refine lv_if_ne (tgt := 13) hx hb dX13_vacate_6 (by decide) (fun c2 => ?_) (fun c2 => ?_)
  · have hf := fn hf c2
    refine lv_aload_n hx hb dX13_vacate_13 rfl (lv_at hl 0 rfl) ?_
    refine lv_iload_n hx hb dX13_vacate_14 rfl (lv_at hl 1 rfl) ?_
    refine lv_iconst (v := 3) hx hb dX13_vacate_15 (by decide) ?_
    obtain ⟨r3, hc, hf⟩ := fb hf
    refine x_i hp (y_V (As := [.int p1, .int 3]) (rest := [.ref (adr E 20 0)]) cx hp hl (c_X13_of l hN hT e20 hc) (cw_X13_98 cx (mc := 0) (ms := 0) rfl rfl ⟨by decide, by decide⟩) (rC_X13 hN cx hp) rfl rfl (Nat.le_of_ble_eq_true rfl) dX13_vacate_16 ⟨Nat.zero_le _, Nat.zero_le _⟩) (fun r_c u_c H locs hq hp => ?_)
    obtain ⟨rfl, rfl⟩ := hq
    refine lv_iconst (v := (-1)) hx hb dX13_vacate_19 (by decide) ?_
    refine lv_icmp_ne (tgt := 27) hx hb dX13_vacate_20 (by decide) (fun c4 => ?_) (fun c4 => ?_)
    · have hf := fn hf c4
      refine lv_iconst (v := 0) hx hb dX13_vacate_27 (by decide) ?_
      obtain ⟨ρ5, e_l, hf⟩ := fl hf
      refine pF_X13_77 e20 hN cx hp dX13_vacate_28 (fun u H locs e_u n_u hp => ?_)
      have e20 := e_u.trans e_l
      have fr : ∀ q, q ≠ 20 → u q = σ q := fun q h0 => (n_u q h0).trans (fr q h0)
      refine lv_aload_n hx hb dX13_vacate_31 rfl (lv_at hl 0 rfl) ?_
      refine gF_X13_77 e20 hN cx hp dX13_vacate_32 ?_
      refine lv_if_le (tgt := 40) hx hb dX13_vacate_35 (by decide) (fun c6 => ?_) (fun c6 => ?_)
      · have hf := fp hf c6
        refine lv_aload_n hx hb dX13_vacate_40 rfl (lv_at hl 0 rfl) ?_
        obtain ⟨ρ7, hc, hf⟩ := fb hf
        refine x_v hp (y_V (As := []) (rest := []) cx hp hl (c_X13_remembers l hN hT e20 hc) (cw_X13_333 cx (mc := 0) (ms := 0) rfl rfl ⟨by decide, by decide⟩) (rC_X13 hN cx hp) rfl rfl (Nat.le_of_ble_eq_true rfl) dX13_vacate_41 ⟨Nat.zero_le _, Nat.zero_le _⟩) (fun u_c H locs hq hp => ?_)
        obtain ⟨e_0, n_u⟩ := hq
        have e20 := e_0
        have fr : ∀ q, q ≠ 20 → u_c q = σ q := fun q h0 => (n_u q h0).trans (fr q h0)
        obtain ⟨u, rfl⟩ : ∃ z, u_c = z := ⟨_, rfl⟩
        refine lv_aload_n hx hb dX13_vacate_44 rfl (lv_at hl 0 rfl) ?_
        refine lv_iload_n hx hb dX13_vacate_45 rfl (lv_at hl 1 rfl) ?_
        refine lv_iconst (v := (-1)) hx hb dX13_vacate_46 (by decide) ?_
        obtain ⟨r8, ρ9, hc, hf⟩ := fb2 hf
        refine x_i hp (y_V (As := [.int p1, .int (-1)]) (rest := []) cx hp hl (c_X13_assigns l hN hT e20 hc) (cw_X13_301 cx (mc := 0) (ms := 0) rfl rfl ⟨by decide, by decide⟩) (rC_X13 hN cx hp) rfl rfl (Nat.le_of_ble_eq_true rfl) dX13_vacate_47 ⟨Nat.zero_le _, Nat.zero_le _⟩) (fun r_c u_c H locs hq hp => ?_)
        obtain ⟨rfl, e_0, n_u⟩ := hq
        have e20 := e_0
        have fr : ∀ q, q ≠ 20 → u_c q = σ q := fun q h0 => (n_u q h0).trans (fr q h0)
        obtain ⟨u, rfl⟩ : ∃ z, u_c = z := ⟨_, rfl⟩
        cases hf
        exact r_i cx hp ⟨rfl, e20, fr⟩ dX13_vacate_50
      · have hf := fn hf c6
        refine lv_iconst (v := 0) hx hb dX13_vacate_38 (by decide) ?_
        cases hf
        exact r_i cx hp ⟨rfl, e20, fr⟩ dX13_vacate_39
    · have hf := fp hf c4
      refine lv_iconst (v := 2) hx hb dX13_vacate_23 (by decide) ?_
      refine lv_goto (tgt := 28) hx hb dX13_vacate_24 (by decide) ?_
      obtain ⟨ρ10, e_l, hf⟩ := fl hf
      refine pF_X13_77 e20 hN cx hp dX13_vacate_28 (fun u H locs e_u n_u hp => ?_)
      have e20 := e_u.trans e_l
      have fr : ∀ q, q ≠ 20 → u q = σ q := fun q h0 => (n_u q h0).trans (fr q h0)
      refine lv_aload_n hx hb dX13_vacate_31 rfl (lv_at hl 0 rfl) ?_
      refine gF_X13_77 e20 hN cx hp dX13_vacate_32 ?_
      refine lv_if_le (tgt := 40) hx hb dX13_vacate_35 (by decide) (fun c11 => ?_) (fun c11 => ?_)
      · have hf := fp hf c11
        refine lv_aload_n hx hb dX13_vacate_40 rfl (lv_at hl 0 rfl) ?_
        obtain ⟨ρ12, hc, hf⟩ := fb hf
        refine x_v hp (y_V (As := []) (rest := []) cx hp hl (c_X13_remembers l hN hT e20 hc) (cw_X13_333 cx (mc := 0) (ms := 0) rfl rfl ⟨by decide, by decide⟩) (rC_X13 hN cx hp) rfl rfl (Nat.le_of_ble_eq_true rfl) dX13_vacate_41 ⟨Nat.zero_le _, Nat.zero_le _⟩) (fun u_c H locs hq hp => ?_)
        obtain ⟨e_0, n_u⟩ := hq
        have e20 := e_0
        have fr : ∀ q, q ≠ 20 → u_c q = σ q := fun q h0 => (n_u q h0).trans (fr q h0)
        obtain ⟨u, rfl⟩ : ∃ z, u_c = z := ⟨_, rfl⟩
        refine lv_aload_n hx hb dX13_vacate_44 rfl (lv_at hl 0 rfl) ?_
        refine lv_iload_n hx hb dX13_vacate_45 rfl (lv_at hl 1 rfl) ?_
        refine lv_iconst (v := (-1)) hx hb dX13_vacate_46 (by decide) ?_
        obtain ⟨r13, ρ14, hc, hf⟩ := fb2 hf
        refine x_i hp (y_V (As := [.int p1, .int (-1)]) (rest := []) cx hp hl (c_X13_assigns l hN hT e20 hc) (cw_X13_301 cx (mc := 0) (ms := 0) rfl rfl ⟨by decide, by decide⟩) (rC_X13 hN cx hp) rfl rfl (Nat.le_of_ble_eq_true rfl) dX13_vacate_47 ⟨Nat.zero_le _, Nat.zero_le _⟩) (fun r_c u_c H locs hq hp => ?_)
        obtain ⟨rfl, e_0, n_u⟩ := hq
        have e20 := e_0
        have fr : ∀ q, q ≠ 20 → u_c q = σ q := fun q h0 => (n_u q h0).trans (fr q h0)
        obtain ⟨u, rfl⟩ : ∃ z, u_c = z := ⟨_, rfl⟩
        cases hf
        exact r_i cx hp ⟨rfl, e20, fr⟩ dX13_vacate_50
      · have hf := fn hf c11
        refine lv_iconst (v := 0) hx hb dX13_vacate_38 (by decide) ?_
        cases hf
        exact r_i cx hp ⟨rfl, e20, fr⟩ dX13_vacate_39
  · have hf := fp hf c2
    refine lv_iconst (v := 1) hx hb dX13_vacate_9 (by decide) ?_
    refine lv_goto (tgt := 28) hx hb dX13_vacate_10 (by decide) ?_
    obtain ⟨ρ15, e_l, hf⟩ := fl hf
    refine pF_X13_77 e20 hN cx hp dX13_vacate_28 (fun u H locs e_u n_u hp => ?_)
    have e20 := e_u.trans e_l
    have fr : ∀ q, q ≠ 20 → u q = σ q := fun q h0 => (n_u q h0).trans (fr q h0)
    refine lv_aload_n hx hb dX13_vacate_31 rfl (lv_at hl 0 rfl) ?_
    refine gF_X13_77 e20 hN cx hp dX13_vacate_32 ?_
    refine lv_if_le (tgt := 40) hx hb dX13_vacate_35 (by decide) (fun c16 => ?_) (fun c16 => ?_)
    · have hf := fp hf c16
      refine lv_aload_n hx hb dX13_vacate_40 rfl (lv_at hl 0 rfl) ?_
      obtain ⟨ρ17, hc, hf⟩ := fb hf
      refine x_v hp (y_V (As := []) (rest := []) cx hp hl (c_X13_remembers l hN hT e20 hc) (cw_X13_333 cx (mc := 0) (ms := 0) rfl rfl ⟨by decide, by decide⟩) (rC_X13 hN cx hp) rfl rfl (Nat.le_of_ble_eq_true rfl) dX13_vacate_41 ⟨Nat.zero_le _, Nat.zero_le _⟩) (fun u_c H locs hq hp => ?_)
      obtain ⟨e_0, n_u⟩ := hq
      have e20 := e_0
      have fr : ∀ q, q ≠ 20 → u_c q = σ q := fun q h0 => (n_u q h0).trans (fr q h0)
      obtain ⟨u, rfl⟩ : ∃ z, u_c = z := ⟨_, rfl⟩
      refine lv_aload_n hx hb dX13_vacate_44 rfl (lv_at hl 0 rfl) ?_
      refine lv_iload_n hx hb dX13_vacate_45 rfl (lv_at hl 1 rfl) ?_
      refine lv_iconst (v := (-1)) hx hb dX13_vacate_46 (by decide) ?_
      obtain ⟨r18, ρ19, hc, hf⟩ := fb2 hf
      refine x_i hp (y_V (As := [.int p1, .int (-1)]) (rest := []) cx hp hl (c_X13_assigns l hN hT e20 hc) (cw_X13_301 cx (mc := 0) (ms := 0) rfl rfl ⟨by decide, by decide⟩) (rC_X13 hN cx hp) rfl rfl (Nat.le_of_ble_eq_true rfl) dX13_vacate_47 ⟨Nat.zero_le _, Nat.zero_le _⟩) (fun r_c u_c H locs hq hp => ?_)
      obtain ⟨rfl, e_0, n_u⟩ := hq
      have e20 := e_0
      have fr : ∀ q, q ≠ 20 → u_c q = σ q := fun q h0 => (n_u q h0).trans (fr q h0)
      obtain ⟨u, rfl⟩ : ∃ z, u_c = z := ⟨_, rfl⟩
      cases hf
      exact r_i cx hp ⟨rfl, e20, fr⟩ dX13_vacate_50
    · have hf := fn hf c16
      refine lv_iconst (v := 0) hx hb dX13_vacate_38 (by decide) ?_
      cases hf
      exact r_i cx hp ⟨rfl, e20, fr⟩ dX13_vacate_39
abbrev rm_X13_swap : Room := { frames := 6, cells := 0, slots := 0, locals := 137 }
set_option maxRecDepth 100000 in
set_option maxHeartbeats 4000000 in
theorem c_X13_swap (l : Launch) {E : Ev} (hN : 146 ≤ eN E) (hT : St E) {σ : SM} {ρ : OM} (e20 : σ 20 = ρ) {p1 : Int32} {p2 : Int32} {rv : Int32} {ρ' : OM} (hf : f_X13_swap p1 p2 ρ = some (rv, ρ')) : Met l yX13_swap (wC yX13_swap cX13_swap 4 (some .int)) rm_X13_swap (va_Pc [.ref (adr E 20 0), .int p1, .int p2] (Wu E σ)) (va_Qi (fun r u => rv = r ∧ u 20 = ρ' ∧ ∀ q, q ≠ 20 → u q = σ q) (fun u t => Wu E u t) (eA E)) 0 0 (eA E) := by
  refine g_entry (lv := [(0, .ref (adr E 20 0)), (1, .int p1), (2, .int p2)]) (by decide) (Nat.le_of_ble_eq_true rfl) rfl ?_
  intro p e s m below meth c cx hp ls hl
  have hx := cx.1.1
  have hb := cx.1.2.1
  have fr : ∀ q, q ≠ 20 → σ q = σ q := fun _ _ => rfl
  unfold f_X13_swap at hf
  refine lv_aload_n hx hb dX13_swap_0 rfl (lv_at hl 0 rfl) ?_
  refine lv_iload_n hx hb dX13_swap_1 rfl (lv_at hl 1 rfl) ?_
  obtain ⟨r1, hc, hf⟩ := fb hf
  refine x_i hp (y_V (As := [.int p1]) (rest := []) cx hp hl (c_X13_isSeller l hN hT e20 hc) (cw_X13_339 cx (mc := 0) (ms := 0) rfl rfl ⟨by decide, by decide⟩) (rC_X13 hN cx hp) rfl rfl (Nat.le_of_ble_eq_true rfl) dX13_swap_2 ⟨Nat.zero_le _, Nat.zero_le _⟩) (fun r_c u_c H locs hq hp => ?_)
  obtain ⟨rfl, rfl⟩ := hq
  refine lv_if_eq (tgt := 20) hx hb dX13_swap_5 (by decide) (fun c2 => ?_) (fun c2 => ?_)
  · have hf := fp hf c2
    refine lv_iconst (v := 0) hx hb dX13_swap_20 (by decide) ?_
    refine lv_istore_n (lv' := [(3, .int 0), (0, .ref (adr E 20 0)), (1, .int p1), (2, .int p2)]) hx hb dX13_swap_21 rfl hl (by decide) rfl (fun ls hl => ?_)
    refine lv_aload_n hx hb dX13_swap_22 rfl (lv_at hl 1 rfl) ?_
    refine lv_iload_n hx hb dX13_swap_23 rfl (lv_at hl 0 rfl) ?_
    refine lv_if_ne (tgt := 31) hx hb dX13_swap_24 (by decide) (fun c_x => absurd c_x (by decide)) (fun _ => ?_)
    refine lv_iconst (v := 1) hx hb dX13_swap_27 (by decide) ?_
    refine lv_goto (tgt := 45) hx hb dX13_swap_28 (by decide) ?_
    obtain ⟨ρ4, e_l, hf⟩ := fl hf
    refine pF_X13_77 e20 hN cx hp dX13_swap_45 (fun u H locs e_u n_u hp => ?_)
    have e20 := e_u.trans e_l
    have fr : ∀ q, q ≠ 20 → u q = σ q := fun q h0 => (n_u q h0).trans (fr q h0)
    refine lv_aload_n hx hb dX13_swap_48 rfl (lv_at hl 1 rfl) ?_
    refine gF_X13_77 e20 hN cx hp dX13_swap_49 ?_
    refine lv_if_le (tgt := 57) hx hb dX13_swap_52 (by decide) (fun c5 => ?_) (fun c5 => ?_)
    · have hf := fp hf c5
      refine lv_aload_n hx hb dX13_swap_57 rfl (lv_at hl 1 rfl) ?_
      obtain ⟨ρ6, hc, hf⟩ := fb hf
      refine x_v hp (y_V (As := []) (rest := []) cx hp hl (c_X13_remembers l hN hT e20 hc) (cw_X13_333 cx (mc := 0) (ms := 0) rfl rfl ⟨by decide, by decide⟩) (rC_X13 hN cx hp) rfl rfl (Nat.le_of_ble_eq_true rfl) dX13_swap_58 ⟨Nat.zero_le _, Nat.zero_le _⟩) (fun u_c H locs hq hp => ?_)
      obtain ⟨e_0, n_u⟩ := hq
      have e20 := e_0
      have fr : ∀ q, q ≠ 20 → u_c q = σ q := fun q h0 => (n_u q h0).trans (fr q h0)
      obtain ⟨u, rfl⟩ : ∃ z, u_c = z := ⟨_, rfl⟩
      refine lv_aload_n hx hb dX13_swap_61 rfl (lv_at hl 1 rfl) ?_
      refine lv_iload_n hx hb dX13_swap_62 rfl (lv_at hl 2 rfl) ?_
      refine lv_iload_n hx hb dX13_swap_63 rfl (lv_at hl 3 rfl) ?_
      obtain ⟨r7, ρ8, hc, hf⟩ := fb2 hf
      refine x_i hp (y_V (As := [.int p1, .int p2]) (rest := []) cx hp hl (c_X13_swaps l hN hT e20 hc) (cw_X13_307 cx (mc := 0) (ms := 0) rfl rfl ⟨by decide, by decide⟩) (rC_X13 hN cx hp) rfl rfl (Nat.le_of_ble_eq_true rfl) dX13_swap_64 ⟨Nat.zero_le _, Nat.zero_le _⟩) (fun r_c u_c H locs hq hp => ?_)
      obtain ⟨rfl, e_0, n_u⟩ := hq
      have e20 := e_0
      have fr : ∀ q, q ≠ 20 → u_c q = σ q := fun q h0 => (n_u q h0).trans (fr q h0)
      obtain ⟨u, rfl⟩ : ∃ z, u_c = z := ⟨_, rfl⟩
      cases hf
      exact r_i cx hp ⟨rfl, e20, fr⟩ dX13_swap_67
    · have hf := fn hf c5
      refine lv_iconst (v := 0) hx hb dX13_swap_55 (by decide) ?_
      cases hf
      exact r_i cx hp ⟨rfl, e20, fr⟩ dX13_swap_56
  · have hf := fn hf c2
    refine lv_aload_n hx hb dX13_swap_8 rfl (lv_at hl 0 rfl) ?_
    refine lv_iload_n hx hb dX13_swap_9 rfl (lv_at hl 2 rfl) ?_
    obtain ⟨r9, hc, hf⟩ := fb hf
    refine x_i hp (y_V (As := [.int p2]) (rest := []) cx hp hl (c_X13_isSeller l hN hT e20 hc) (cw_X13_339 cx (mc := 0) (ms := 0) rfl rfl ⟨by decide, by decide⟩) (rC_X13 hN cx hp) rfl rfl (Nat.le_of_ble_eq_true rfl) dX13_swap_10 ⟨Nat.zero_le _, Nat.zero_le _⟩) (fun r_c u_c H locs hq hp => ?_)
    obtain ⟨rfl, rfl⟩ := hq
    refine lv_if_eq (tgt := 20) hx hb dX13_swap_13 (by decide) (fun c10 => ?_) (fun c10 => ?_)
    · have hf := fp hf c10
      refine lv_iconst (v := 0) hx hb dX13_swap_20 (by decide) ?_
      refine lv_istore_n (lv' := [(3, .int 0), (0, .ref (adr E 20 0)), (1, .int p1), (2, .int p2)]) hx hb dX13_swap_21 rfl hl (by decide) rfl (fun ls hl => ?_)
      refine lv_aload_n hx hb dX13_swap_22 rfl (lv_at hl 1 rfl) ?_
      refine lv_iload_n hx hb dX13_swap_23 rfl (lv_at hl 0 rfl) ?_
      refine lv_if_ne (tgt := 31) hx hb dX13_swap_24 (by decide) (fun c_x => absurd c_x (by decide)) (fun _ => ?_)
      refine lv_iconst (v := 1) hx hb dX13_swap_27 (by decide) ?_
      refine lv_goto (tgt := 45) hx hb dX13_swap_28 (by decide) ?_
      obtain ⟨ρ12, e_l, hf⟩ := fl hf
      refine pF_X13_77 e20 hN cx hp dX13_swap_45 (fun u H locs e_u n_u hp => ?_)
      have e20 := e_u.trans e_l
      have fr : ∀ q, q ≠ 20 → u q = σ q := fun q h0 => (n_u q h0).trans (fr q h0)
      refine lv_aload_n hx hb dX13_swap_48 rfl (lv_at hl 1 rfl) ?_
      refine gF_X13_77 e20 hN cx hp dX13_swap_49 ?_
      refine lv_if_le (tgt := 57) hx hb dX13_swap_52 (by decide) (fun c13 => ?_) (fun c13 => ?_)
      · have hf := fp hf c13
        refine lv_aload_n hx hb dX13_swap_57 rfl (lv_at hl 1 rfl) ?_
        obtain ⟨ρ14, hc, hf⟩ := fb hf
        refine x_v hp (y_V (As := []) (rest := []) cx hp hl (c_X13_remembers l hN hT e20 hc) (cw_X13_333 cx (mc := 0) (ms := 0) rfl rfl ⟨by decide, by decide⟩) (rC_X13 hN cx hp) rfl rfl (Nat.le_of_ble_eq_true rfl) dX13_swap_58 ⟨Nat.zero_le _, Nat.zero_le _⟩) (fun u_c H locs hq hp => ?_)
        obtain ⟨e_0, n_u⟩ := hq
        have e20 := e_0
        have fr : ∀ q, q ≠ 20 → u_c q = σ q := fun q h0 => (n_u q h0).trans (fr q h0)
        obtain ⟨u, rfl⟩ : ∃ z, u_c = z := ⟨_, rfl⟩
        refine lv_aload_n hx hb dX13_swap_61 rfl (lv_at hl 1 rfl) ?_
        refine lv_iload_n hx hb dX13_swap_62 rfl (lv_at hl 2 rfl) ?_
        refine lv_iload_n hx hb dX13_swap_63 rfl (lv_at hl 3 rfl) ?_
        obtain ⟨r15, ρ16, hc, hf⟩ := fb2 hf
        refine x_i hp (y_V (As := [.int p1, .int p2]) (rest := []) cx hp hl (c_X13_swaps l hN hT e20 hc) (cw_X13_307 cx (mc := 0) (ms := 0) rfl rfl ⟨by decide, by decide⟩) (rC_X13 hN cx hp) rfl rfl (Nat.le_of_ble_eq_true rfl) dX13_swap_64 ⟨Nat.zero_le _, Nat.zero_le _⟩) (fun r_c u_c H locs hq hp => ?_)
        obtain ⟨rfl, e_0, n_u⟩ := hq
        have e20 := e_0
        have fr : ∀ q, q ≠ 20 → u_c q = σ q := fun q h0 => (n_u q h0).trans (fr q h0)
        obtain ⟨u, rfl⟩ : ∃ z, u_c = z := ⟨_, rfl⟩
        cases hf
        exact r_i cx hp ⟨rfl, e20, fr⟩ dX13_swap_67
      · have hf := fn hf c13
        refine lv_iconst (v := 0) hx hb dX13_swap_55 (by decide) ?_
        cases hf
        exact r_i cx hp ⟨rfl, e20, fr⟩ dX13_swap_56
    · have hf := fn hf c10
      refine lv_iconst (v := 1) hx hb dX13_swap_16 (by decide) ?_
      refine lv_goto (tgt := 21) hx hb dX13_swap_17 (by decide) ?_
      refine lv_istore_n (lv' := [(3, .int 1), (0, .ref (adr E 20 0)), (1, .int p1), (2, .int p2)]) hx hb dX13_swap_21 rfl hl (by decide) rfl (fun ls hl => ?_)
      refine lv_aload_n hx hb dX13_swap_22 rfl (lv_at hl 1 rfl) ?_
      refine lv_iload_n hx hb dX13_swap_23 rfl (lv_at hl 0 rfl) ?_
      refine lv_if_ne (tgt := 31) hx hb dX13_swap_24 (by decide) (fun _ => ?_) (fun c_x => absurd c_x (by decide))
      refine lv_aload_n hx hb dX13_swap_31 rfl (lv_at hl 1 rfl) ?_
      refine lv_iload_n hx hb dX13_swap_32 rfl (lv_at hl 2 rfl) ?_
      refine lv_iload_n hx hb dX13_swap_33 rfl (lv_at hl 3 rfl) ?_
      obtain ⟨r18, hc, hf⟩ := fb hf
      refine x_i hp (y_V (As := [.int p1, .int p2]) (rest := [.ref (adr E 20 0)]) cx hp hl (c_X13_exchange l hN hT e20 hc) (cw_X13_304 cx (mc := 0) (ms := 0) rfl rfl ⟨by decide, by decide⟩) (rC_X13 hN cx hp) rfl rfl (Nat.le_of_ble_eq_true rfl) dX13_swap_34 ⟨Nat.zero_le _, Nat.zero_le _⟩) (fun r_c u_c H locs hq hp => ?_)
      obtain ⟨rfl, rfl⟩ := hq
      refine lv_if_ne (tgt := 44) hx hb dX13_swap_37 (by decide) (fun c19 => ?_) (fun c19 => ?_)
      · have hf := fn hf c19
        refine lv_iconst (v := 0) hx hb dX13_swap_44 (by decide) ?_
        obtain ⟨ρ20, e_l, hf⟩ := fl hf
        refine pF_X13_77 e20 hN cx hp dX13_swap_45 (fun u H locs e_u n_u hp => ?_)
        have e20 := e_u.trans e_l
        have fr : ∀ q, q ≠ 20 → u q = σ q := fun q h0 => (n_u q h0).trans (fr q h0)
        refine lv_aload_n hx hb dX13_swap_48 rfl (lv_at hl 1 rfl) ?_
        refine gF_X13_77 e20 hN cx hp dX13_swap_49 ?_
        refine lv_if_le (tgt := 57) hx hb dX13_swap_52 (by decide) (fun c21 => ?_) (fun c21 => ?_)
        · have hf := fp hf c21
          refine lv_aload_n hx hb dX13_swap_57 rfl (lv_at hl 1 rfl) ?_
          obtain ⟨ρ22, hc, hf⟩ := fb hf
          refine x_v hp (y_V (As := []) (rest := []) cx hp hl (c_X13_remembers l hN hT e20 hc) (cw_X13_333 cx (mc := 0) (ms := 0) rfl rfl ⟨by decide, by decide⟩) (rC_X13 hN cx hp) rfl rfl (Nat.le_of_ble_eq_true rfl) dX13_swap_58 ⟨Nat.zero_le _, Nat.zero_le _⟩) (fun u_c H locs hq hp => ?_)
          obtain ⟨e_0, n_u⟩ := hq
          have e20 := e_0
          have fr : ∀ q, q ≠ 20 → u_c q = σ q := fun q h0 => (n_u q h0).trans (fr q h0)
          obtain ⟨u, rfl⟩ : ∃ z, u_c = z := ⟨_, rfl⟩
          refine lv_aload_n hx hb dX13_swap_61 rfl (lv_at hl 1 rfl) ?_
          refine lv_iload_n hx hb dX13_swap_62 rfl (lv_at hl 2 rfl) ?_
          refine lv_iload_n hx hb dX13_swap_63 rfl (lv_at hl 3 rfl) ?_
          obtain ⟨r23, ρ24, hc, hf⟩ := fb2 hf
          refine x_i hp (y_V (As := [.int p1, .int p2]) (rest := []) cx hp hl (c_X13_swaps l hN hT e20 hc) (cw_X13_307 cx (mc := 0) (ms := 0) rfl rfl ⟨by decide, by decide⟩) (rC_X13 hN cx hp) rfl rfl (Nat.le_of_ble_eq_true rfl) dX13_swap_64 ⟨Nat.zero_le _, Nat.zero_le _⟩) (fun r_c u_c H locs hq hp => ?_)
          obtain ⟨rfl, e_0, n_u⟩ := hq
          have e20 := e_0
          have fr : ∀ q, q ≠ 20 → u_c q = σ q := fun q h0 => (n_u q h0).trans (fr q h0)
          obtain ⟨u, rfl⟩ : ∃ z, u_c = z := ⟨_, rfl⟩
          cases hf
          exact r_i cx hp ⟨rfl, e20, fr⟩ dX13_swap_67
        · have hf := fn hf c21
          refine lv_iconst (v := 0) hx hb dX13_swap_55 (by decide) ?_
          cases hf
          exact r_i cx hp ⟨rfl, e20, fr⟩ dX13_swap_56
      · have hf := fp hf c19
        refine lv_iconst (v := 2) hx hb dX13_swap_40 (by decide) ?_
        refine lv_goto (tgt := 45) hx hb dX13_swap_41 (by decide) ?_
        obtain ⟨ρ25, e_l, hf⟩ := fl hf
        refine pF_X13_77 e20 hN cx hp dX13_swap_45 (fun u H locs e_u n_u hp => ?_)
        have e20 := e_u.trans e_l
        have fr : ∀ q, q ≠ 20 → u q = σ q := fun q h0 => (n_u q h0).trans (fr q h0)
        refine lv_aload_n hx hb dX13_swap_48 rfl (lv_at hl 1 rfl) ?_
        refine gF_X13_77 e20 hN cx hp dX13_swap_49 ?_
        refine lv_if_le (tgt := 57) hx hb dX13_swap_52 (by decide) (fun c26 => ?_) (fun c26 => ?_)
        · have hf := fp hf c26
          refine lv_aload_n hx hb dX13_swap_57 rfl (lv_at hl 1 rfl) ?_
          obtain ⟨ρ27, hc, hf⟩ := fb hf
          refine x_v hp (y_V (As := []) (rest := []) cx hp hl (c_X13_remembers l hN hT e20 hc) (cw_X13_333 cx (mc := 0) (ms := 0) rfl rfl ⟨by decide, by decide⟩) (rC_X13 hN cx hp) rfl rfl (Nat.le_of_ble_eq_true rfl) dX13_swap_58 ⟨Nat.zero_le _, Nat.zero_le _⟩) (fun u_c H locs hq hp => ?_)
          obtain ⟨e_0, n_u⟩ := hq
          have e20 := e_0
          have fr : ∀ q, q ≠ 20 → u_c q = σ q := fun q h0 => (n_u q h0).trans (fr q h0)
          obtain ⟨u, rfl⟩ : ∃ z, u_c = z := ⟨_, rfl⟩
          refine lv_aload_n hx hb dX13_swap_61 rfl (lv_at hl 1 rfl) ?_
          refine lv_iload_n hx hb dX13_swap_62 rfl (lv_at hl 2 rfl) ?_
          refine lv_iload_n hx hb dX13_swap_63 rfl (lv_at hl 3 rfl) ?_
          obtain ⟨r28, ρ29, hc, hf⟩ := fb2 hf
          refine x_i hp (y_V (As := [.int p1, .int p2]) (rest := []) cx hp hl (c_X13_swaps l hN hT e20 hc) (cw_X13_307 cx (mc := 0) (ms := 0) rfl rfl ⟨by decide, by decide⟩) (rC_X13 hN cx hp) rfl rfl (Nat.le_of_ble_eq_true rfl) dX13_swap_64 ⟨Nat.zero_le _, Nat.zero_le _⟩) (fun r_c u_c H locs hq hp => ?_)
          obtain ⟨rfl, e_0, n_u⟩ := hq
          have e20 := e_0
          have fr : ∀ q, q ≠ 20 → u_c q = σ q := fun q h0 => (n_u q h0).trans (fr q h0)
          obtain ⟨u, rfl⟩ : ∃ z, u_c = z := ⟨_, rfl⟩
          cases hf
          exact r_i cx hp ⟨rfl, e20, fr⟩ dX13_swap_67
        · have hf := fn hf c26
          refine lv_iconst (v := 0) hx hb dX13_swap_55 (by decide) ?_
          cases hf
          exact r_i cx hp ⟨rfl, e20, fr⟩ dX13_swap_56
abbrev rm_X13_reallocate : Room := { frames := 5, cells := 0, slots := 0, locals := 113 }
set_option maxRecDepth 100000 in
set_option maxHeartbeats 4000000 in
theorem c_X13_reallocate (l : Launch) {E : Ev} (hN : 146 ≤ eN E) (hT : St E) {σ : SM} {ρ : OM} (e20 : σ 20 = ρ)  {rv : Int32} {ρ' : OM} (hf : f_X13_reallocate ρ = some (rv, ρ')) : Met l yX13_reallocate (wC yX13_reallocate cX13_reallocate 1 (some .int)) rm_X13_reallocate (va_Pc [.ref (adr E 20 0)] (Wu E σ)) (va_Qi (fun r u => rv = r ∧ u 20 = ρ' ∧ ∀ q, q ≠ 20 → u q = σ q) (fun u t => Wu E u t) (eA E)) 0 0 (eA E) := by
  refine g_entry (lv := [(0, .ref (adr E 20 0))]) (by decide) (Nat.le_of_ble_eq_true rfl) rfl ?_
  intro p e s m below meth c cx hp ls hl
  have hx := cx.1.1
  have hb := cx.1.2.1
  have fr : ∀ q, q ≠ 20 → σ q = σ q := fun _ _ => rfl
  unfold f_X13_reallocate at hf
  refine lv_aload_n hx hb dX13_reallocate_0 rfl (lv_at hl 0 rfl) ?_
  refine lv_iconst (v := 0) hx hb dX13_reallocate_1 (by decide) ?_
  obtain ⟨ρ1, e_l, hf⟩ := fl hf
  refine pF_X13_77 e20 hN cx hp dX13_reallocate_2 (fun u H locs e_u n_u hp => ?_)
  have e20 := e_u.trans e_l
  have fr : ∀ q, q ≠ 20 → u q = σ q := fun q h0 => (n_u q h0).trans (fr q h0)
  refine lv_aload_n hx hb dX13_reallocate_5 rfl (lv_at hl 0 rfl) ?_
  obtain ⟨ρ2, hc, hf⟩ := fb hf
  refine x_v hp (y_V (As := []) (rest := []) cx hp hl (c_X13_remembers l hN hT e20 hc) (cw_X13_333 cx (mc := 0) (ms := 0) rfl rfl ⟨by decide, by decide⟩) (rC_X13 hN cx hp) rfl rfl (Nat.le_of_ble_eq_true rfl) dX13_reallocate_6 ⟨Nat.zero_le _, Nat.zero_le _⟩) (fun u_c H locs hq hp => ?_)
  obtain ⟨e_0, n_u⟩ := hq
  have e20 := e_0
  have fr : ∀ q, q ≠ 20 → u_c q = σ q := fun q h0 => (n_u q h0).trans (fr q h0)
  obtain ⟨u, rfl⟩ : ∃ z, u_c = z := ⟨_, rfl⟩
  refine lv_aload_n hx hb dX13_reallocate_9 rfl (lv_at hl 0 rfl) ?_
  obtain ⟨r3, ρ4, hc, hf⟩ := fb2 hf
  refine x_i hp (y_V (As := []) (rest := []) cx hp hl (c_X13_reallocates l hN hT e20 hc) (cw_X13_310 cx (mc := 0) (ms := 0) rfl rfl ⟨by decide, by decide⟩) (rC_X13 hN cx hp) rfl rfl (Nat.le_of_ble_eq_true rfl) dX13_reallocate_10 ⟨Nat.zero_le _, Nat.zero_le _⟩) (fun r_c u_c H locs hq hp => ?_)
  obtain ⟨rfl, e_0, n_u⟩ := hq
  have e20 := e_0
  have fr : ∀ q, q ≠ 20 → u_c q = σ q := fun q h0 => (n_u q h0).trans (fr q h0)
  obtain ⟨u, rfl⟩ : ∃ z, u_c = z := ⟨_, rfl⟩
  cases hf
  exact r_i cx hp ⟨rfl, e20, fr⟩ dX13_reallocate_13
abbrev rm_X13_setPriority : Room := { frames := 2, cells := 0, slots := 0, locals := 47 }
set_option maxRecDepth 100000 in
set_option maxHeartbeats 4000000 in
theorem c_X13_setPriority (l : Launch) {E : Ev} (hN : 146 ≤ eN E) (hT : St E) {σ : SM} {ρ : OM} (e20 : σ 20 = ρ) {p1 : Int32} {p2 : Int32} {rv : Int32} {ρ' : OM} (hf : f_X13_setPriority p1 p2 ρ = some (rv, ρ')) : Met l yX13_setPriority (wC yX13_setPriority cX13_setPriority 3 (some .int)) rm_X13_setPriority (va_Pc [.ref (adr E 20 0), .int p1, .int p2] (Wu E σ)) (va_Qi (fun r u => rv = r ∧ u 20 = ρ' ∧ ∀ q, q ≠ 20 → u q = σ q) (fun u t => Wu E u t) (eA E)) 0 0 (eA E) := by
  refine g_entry (lv := [(0, .ref (adr E 20 0)), (1, .int p1), (2, .int p2)]) (by decide) (Nat.le_of_ble_eq_true rfl) rfl ?_
  intro p e s m below meth c cx hp ls hl
  have hx := cx.1.1
  have hb := cx.1.2.1
  have fr : ∀ q, q ≠ 20 → σ q = σ q := fun _ _ => rfl
  unfold f_X13_setPriority at hf
  refine lv_aload_n hx hb dX13_setPriority_0 rfl (lv_at hl 0 rfl) ?_
  refine lv_aload_n hx hb dX13_setPriority_1 rfl (lv_at hl 0 rfl) ?_
  refine lv_iload_n hx hb dX13_setPriority_2 rfl (lv_at hl 1 rfl) ?_
  obtain ⟨r1, hc, hf⟩ := fb hf
  refine x_i hp (y_V (As := [.int p1]) (rest := [.ref (adr E 20 0)]) cx hp hl (c_X13_isSeller l hN hT e20 hc) (cw_X13_339 cx (mc := 0) (ms := 0) rfl rfl ⟨by decide, by decide⟩) (rC_X13 hN cx hp) rfl rfl (Nat.le_of_ble_eq_true rfl) dX13_setPriority_3 ⟨Nat.zero_le _, Nat.zero_le _⟩) (fun r_c u_c H locs hq hp => ?_)
  obtain ⟨rfl, rfl⟩ := hq
  refine lv_if_ne (tgt := 13) hx hb dX13_setPriority_6 (by decide) (fun c2 => ?_) (fun c2 => ?_)
  · have hf := fn hf c2
    refine lv_iload_n hx hb dX13_setPriority_13 rfl (lv_at hl 2 rfl) ?_
    refine lv_iconst (v := 0) hx hb dX13_setPriority_14 (by decide) ?_
    refine lv_aload_n hx hb dX13_setPriority_15 rfl (lv_at hl 0 rfl) ?_
    refine gF_X13_7 rfl hN cx hp dX13_setPriority_16 ?_
    refine lv_iconst (v := 0) hx hb dX13_setPriority_19 (by decide) ?_
    obtain ⟨g_i, hf⟩ := fg hf
    refine lA_X13_1 e20 hN cx hp g_i dX13_setPriority_20 ?_
    refine lv_iconst (v := 1) hx hb dX13_setPriority_21 (by decide) ?_
    refine lv_isub hx hb dX13_setPriority_22 ?_
    obtain ⟨r3, hc, hf⟩ := fb hf
    refine x_i hp (y_S (As := [.int p2, .int 0, .int ((ρ.1 1 (Int32.toNatClampNeg 0)) - 1)]) (rest := [.ref (adr E 20 0)]) cx hp hl (c_X13_isBetween l hN hT  hc) (cw_X13_90 cx (mc := 0) (ms := 0) rfl rfl ⟨by decide, by decide⟩) rfl rfl (Nat.le_of_ble_eq_true rfl) dX13_setPriority_23 ⟨Nat.zero_le _, Nat.zero_le _⟩) (fun r_c u_c H locs hq hp => ?_)
    obtain ⟨rfl, rfl⟩ := hq
    refine lv_if_ne (tgt := 33) hx hb dX13_setPriority_26 (by decide) (fun c4 => ?_) (fun c4 => ?_)
    · have hf := fn hf c4
      refine lv_iconst (v := 0) hx hb dX13_setPriority_33 (by decide) ?_
      obtain ⟨ρ5, e_l, hf⟩ := fl hf
      refine pF_X13_77 e20 hN cx hp dX13_setPriority_34 (fun u H locs e_u n_u hp => ?_)
      have e20 := e_u.trans e_l
      have fr : ∀ q, q ≠ 20 → u q = σ q := fun q h0 => (n_u q h0).trans (fr q h0)
      refine lv_aload_n hx hb dX13_setPriority_37 rfl (lv_at hl 0 rfl) ?_
      refine gF_X13_77 e20 hN cx hp dX13_setPriority_38 ?_
      refine lv_if_le (tgt := 46) hx hb dX13_setPriority_41 (by decide) (fun c6 => ?_) (fun c6 => ?_)
      · have hf := fp hf c6
        refine lv_aload_n hx hb dX13_setPriority_46 rfl (lv_at hl 0 rfl) ?_
        obtain ⟨ρ7, hc, hf⟩ := fb hf
        refine x_v hp (y_V (As := []) (rest := []) cx hp hl (c_X13_remembers l hN hT e20 hc) (cw_X13_333 cx (mc := 0) (ms := 0) rfl rfl ⟨by decide, by decide⟩) (rC_X13 hN cx hp) rfl rfl (Nat.le_of_ble_eq_true rfl) dX13_setPriority_47 ⟨Nat.zero_le _, Nat.zero_le _⟩) (fun u_c H locs hq hp => ?_)
        obtain ⟨e_0, n_u⟩ := hq
        have e20 := e_0
        have fr : ∀ q, q ≠ 20 → u_c q = σ q := fun q h0 => (n_u q h0).trans (fr q h0)
        obtain ⟨u, rfl⟩ : ∃ z, u_c = z := ⟨_, rfl⟩
        refine lv_aload_n hx hb dX13_setPriority_50 rfl (lv_at hl 0 rfl) ?_
        refine lv_iload_n hx hb dX13_setPriority_51 rfl (lv_at hl 1 rfl) ?_
        refine lv_iload_n hx hb dX13_setPriority_52 rfl (lv_at hl 2 rfl) ?_
        obtain ⟨r8, ρ9, hc, hf⟩ := fb2 hf
        refine x_i hp (y_V (As := [.int p1, .int p2]) (rest := []) cx hp hl (c_X13_moves l hN hT e20 hc) (cw_X13_361 cx (mc := 0) (ms := 0) rfl rfl ⟨by decide, by decide⟩) (rC_X13 hN cx hp) rfl rfl (Nat.le_of_ble_eq_true rfl) dX13_setPriority_53 ⟨Nat.zero_le _, Nat.zero_le _⟩) (fun r_c u_c H locs hq hp => ?_)
        obtain ⟨rfl, e_0, n_u⟩ := hq
        have e20 := e_0
        have fr : ∀ q, q ≠ 20 → u_c q = σ q := fun q h0 => (n_u q h0).trans (fr q h0)
        obtain ⟨u, rfl⟩ : ∃ z, u_c = z := ⟨_, rfl⟩
        cases hf
        exact r_i cx hp ⟨rfl, e20, fr⟩ dX13_setPriority_56
      · have hf := fn hf c6
        refine lv_iconst (v := 0) hx hb dX13_setPriority_44 (by decide) ?_
        cases hf
        exact r_i cx hp ⟨rfl, e20, fr⟩ dX13_setPriority_45
    · have hf := fp hf c4
      refine lv_iconst (v := 2) hx hb dX13_setPriority_29 (by decide) ?_
      refine lv_goto (tgt := 34) hx hb dX13_setPriority_30 (by decide) ?_
      obtain ⟨ρ10, e_l, hf⟩ := fl hf
      refine pF_X13_77 e20 hN cx hp dX13_setPriority_34 (fun u H locs e_u n_u hp => ?_)
      have e20 := e_u.trans e_l
      have fr : ∀ q, q ≠ 20 → u q = σ q := fun q h0 => (n_u q h0).trans (fr q h0)
      refine lv_aload_n hx hb dX13_setPriority_37 rfl (lv_at hl 0 rfl) ?_
      refine gF_X13_77 e20 hN cx hp dX13_setPriority_38 ?_
      refine lv_if_le (tgt := 46) hx hb dX13_setPriority_41 (by decide) (fun c11 => ?_) (fun c11 => ?_)
      · have hf := fp hf c11
        refine lv_aload_n hx hb dX13_setPriority_46 rfl (lv_at hl 0 rfl) ?_
        obtain ⟨ρ12, hc, hf⟩ := fb hf
        refine x_v hp (y_V (As := []) (rest := []) cx hp hl (c_X13_remembers l hN hT e20 hc) (cw_X13_333 cx (mc := 0) (ms := 0) rfl rfl ⟨by decide, by decide⟩) (rC_X13 hN cx hp) rfl rfl (Nat.le_of_ble_eq_true rfl) dX13_setPriority_47 ⟨Nat.zero_le _, Nat.zero_le _⟩) (fun u_c H locs hq hp => ?_)
        obtain ⟨e_0, n_u⟩ := hq
        have e20 := e_0
        have fr : ∀ q, q ≠ 20 → u_c q = σ q := fun q h0 => (n_u q h0).trans (fr q h0)
        obtain ⟨u, rfl⟩ : ∃ z, u_c = z := ⟨_, rfl⟩
        refine lv_aload_n hx hb dX13_setPriority_50 rfl (lv_at hl 0 rfl) ?_
        refine lv_iload_n hx hb dX13_setPriority_51 rfl (lv_at hl 1 rfl) ?_
        refine lv_iload_n hx hb dX13_setPriority_52 rfl (lv_at hl 2 rfl) ?_
        obtain ⟨r13, ρ14, hc, hf⟩ := fb2 hf
        refine x_i hp (y_V (As := [.int p1, .int p2]) (rest := []) cx hp hl (c_X13_moves l hN hT e20 hc) (cw_X13_361 cx (mc := 0) (ms := 0) rfl rfl ⟨by decide, by decide⟩) (rC_X13 hN cx hp) rfl rfl (Nat.le_of_ble_eq_true rfl) dX13_setPriority_53 ⟨Nat.zero_le _, Nat.zero_le _⟩) (fun r_c u_c H locs hq hp => ?_)
        obtain ⟨rfl, e_0, n_u⟩ := hq
        have e20 := e_0
        have fr : ∀ q, q ≠ 20 → u_c q = σ q := fun q h0 => (n_u q h0).trans (fr q h0)
        obtain ⟨u, rfl⟩ : ∃ z, u_c = z := ⟨_, rfl⟩
        cases hf
        exact r_i cx hp ⟨rfl, e20, fr⟩ dX13_setPriority_56
      · have hf := fn hf c11
        refine lv_iconst (v := 0) hx hb dX13_setPriority_44 (by decide) ?_
        cases hf
        exact r_i cx hp ⟨rfl, e20, fr⟩ dX13_setPriority_45
  · have hf := fp hf c2
    refine lv_iconst (v := 1) hx hb dX13_setPriority_9 (by decide) ?_
    refine lv_goto (tgt := 34) hx hb dX13_setPriority_10 (by decide) ?_
    obtain ⟨ρ15, e_l, hf⟩ := fl hf
    refine pF_X13_77 e20 hN cx hp dX13_setPriority_34 (fun u H locs e_u n_u hp => ?_)
    have e20 := e_u.trans e_l
    have fr : ∀ q, q ≠ 20 → u q = σ q := fun q h0 => (n_u q h0).trans (fr q h0)
    refine lv_aload_n hx hb dX13_setPriority_37 rfl (lv_at hl 0 rfl) ?_
    refine gF_X13_77 e20 hN cx hp dX13_setPriority_38 ?_
    refine lv_if_le (tgt := 46) hx hb dX13_setPriority_41 (by decide) (fun c16 => ?_) (fun c16 => ?_)
    · have hf := fp hf c16
      refine lv_aload_n hx hb dX13_setPriority_46 rfl (lv_at hl 0 rfl) ?_
      obtain ⟨ρ17, hc, hf⟩ := fb hf
      refine x_v hp (y_V (As := []) (rest := []) cx hp hl (c_X13_remembers l hN hT e20 hc) (cw_X13_333 cx (mc := 0) (ms := 0) rfl rfl ⟨by decide, by decide⟩) (rC_X13 hN cx hp) rfl rfl (Nat.le_of_ble_eq_true rfl) dX13_setPriority_47 ⟨Nat.zero_le _, Nat.zero_le _⟩) (fun u_c H locs hq hp => ?_)
      obtain ⟨e_0, n_u⟩ := hq
      have e20 := e_0
      have fr : ∀ q, q ≠ 20 → u_c q = σ q := fun q h0 => (n_u q h0).trans (fr q h0)
      obtain ⟨u, rfl⟩ : ∃ z, u_c = z := ⟨_, rfl⟩
      refine lv_aload_n hx hb dX13_setPriority_50 rfl (lv_at hl 0 rfl) ?_
      refine lv_iload_n hx hb dX13_setPriority_51 rfl (lv_at hl 1 rfl) ?_
      refine lv_iload_n hx hb dX13_setPriority_52 rfl (lv_at hl 2 rfl) ?_
      obtain ⟨r18, ρ19, hc, hf⟩ := fb2 hf
      refine x_i hp (y_V (As := [.int p1, .int p2]) (rest := []) cx hp hl (c_X13_moves l hN hT e20 hc) (cw_X13_361 cx (mc := 0) (ms := 0) rfl rfl ⟨by decide, by decide⟩) (rC_X13 hN cx hp) rfl rfl (Nat.le_of_ble_eq_true rfl) dX13_setPriority_53 ⟨Nat.zero_le _, Nat.zero_le _⟩) (fun r_c u_c H locs hq hp => ?_)
      obtain ⟨rfl, e_0, n_u⟩ := hq
      have e20 := e_0
      have fr : ∀ q, q ≠ 20 → u_c q = σ q := fun q h0 => (n_u q h0).trans (fr q h0)
      obtain ⟨u, rfl⟩ : ∃ z, u_c = z := ⟨_, rfl⟩
      cases hf
      exact r_i cx hp ⟨rfl, e20, fr⟩ dX13_setPriority_56
    · have hf := fn hf c16
      refine lv_iconst (v := 0) hx hb dX13_setPriority_44 (by decide) ?_
      cases hf
      exact r_i cx hp ⟨rfl, e20, fr⟩ dX13_setPriority_45
abbrev rm_X13_preferFirst : Room := { frames := 4, cells := 0, slots := 0, locals := 93 }
set_option maxRecDepth 100000 in
set_option maxHeartbeats 4000000 in
theorem c_X13_preferFirst (l : Launch) {E : Ev} (hN : 146 ≤ eN E) (hT : St E) {σ : SM} {ρ : OM} (e20 : σ 20 = ρ) {p1 : Int32} {p2 : Int32} {rv : Int32} {ρ' : OM} (hf : f_X13_preferFirst p1 p2 ρ = some (rv, ρ')) : Met l yX13_preferFirst (wC yX13_preferFirst cX13_preferFirst 3 (some .int)) rm_X13_preferFirst (va_Pc [.ref (adr E 20 0), .int p1, .int p2] (Wu E σ)) (va_Qi (fun r u => rv = r ∧ u 20 = ρ' ∧ ∀ q, q ≠ 20 → u q = σ q) (fun u t => Wu E u t) (eA E)) 0 0 (eA E) := by
  refine g_entry (lv := [(0, .ref (adr E 20 0)), (1, .int p1), (2, .int p2)]) (by decide) (Nat.le_of_ble_eq_true rfl) rfl ?_
  intro p e s m below meth c cx hp ls hl
  have hx := cx.1.1
  have hb := cx.1.2.1
  have fr : ∀ q, q ≠ 20 → σ q = σ q := fun _ _ => rfl
  unfold f_X13_preferFirst at hf
  refine lv_aload_n hx hb dX13_preferFirst_0 rfl (lv_at hl 0 rfl) ?_
  refine lv_aload_n hx hb dX13_preferFirst_1 rfl (lv_at hl 0 rfl) ?_
  refine lv_iload_n hx hb dX13_preferFirst_2 rfl (lv_at hl 1 rfl) ?_
  obtain ⟨r1, hc, hf⟩ := fb hf
  refine x_i hp (y_V (As := [.int p1]) (rest := [.ref (adr E 20 0)]) cx hp hl (c_X13_isSeller l hN hT e20 hc) (cw_X13_339 cx (mc := 0) (ms := 0) rfl rfl ⟨by decide, by decide⟩) (rC_X13 hN cx hp) rfl rfl (Nat.le_of_ble_eq_true rfl) dX13_preferFirst_3 ⟨Nat.zero_le _, Nat.zero_le _⟩) (fun r_c u_c H locs hq hp => ?_)
  obtain ⟨rfl, rfl⟩ := hq
  refine lv_if_eq (tgt := 21) hx hb dX13_preferFirst_6 (by decide) (fun c2 => ?_) (fun c2 => ?_)
  · have hf := fp hf c2
    refine lv_iconst (v := 0) hx hb dX13_preferFirst_21 (by decide) ?_
    obtain ⟨r3, ρ4, hc, hf⟩ := fb2 hf
    refine x_i hp (y_V (As := [.int 0]) (rest := []) cx hp hl (c_X13_wants l hN hT e20 hc) (cw_X13_322 cx (mc := 0) (ms := 0) rfl rfl ⟨by decide, by decide⟩) (rC_X13 hN cx hp) rfl rfl (Nat.le_of_ble_eq_true rfl) dX13_preferFirst_22 ⟨Nat.zero_le _, Nat.zero_le _⟩) (fun r_c u_c H locs hq hp => ?_)
    obtain ⟨rfl, e_0, n_u⟩ := hq
    have e20 := e_0
    have fr : ∀ q, q ≠ 20 → u_c q = σ q := fun q h0 => (n_u q h0).trans (fr q h0)
    obtain ⟨u, rfl⟩ : ∃ z, u_c = z := ⟨_, rfl⟩
    refine lv_if_ne (tgt := 30) hx hb dX13_preferFirst_25 (by decide) (fun c5 => ?_) (fun c5 => ?_)
    · have hf := fn hf c5
      refine lv_aload_n hx hb dX13_preferFirst_30 rfl (lv_at hl 0 rfl) ?_
      obtain ⟨ρ6, hc, hf⟩ := fb hf
      refine x_v hp (y_V (As := []) (rest := []) cx hp hl (c_X13_remembers l hN hT e20 hc) (cw_X13_333 cx (mc := 0) (ms := 0) rfl rfl ⟨by decide, by decide⟩) (rC_X13 hN cx hp) rfl rfl (Nat.le_of_ble_eq_true rfl) dX13_preferFirst_31 ⟨Nat.zero_le _, Nat.zero_le _⟩) (fun u_c H locs hq hp => ?_)
      obtain ⟨e_0, n_u⟩ := hq
      have e20 := e_0
      have fr : ∀ q, q ≠ 20 → u_c q = σ q := fun q h0 => (n_u q h0).trans (fr q h0)
      obtain ⟨u, rfl⟩ : ∃ z, u_c = z := ⟨_, rfl⟩
      refine lv_aload_n hx hb dX13_preferFirst_34 rfl (lv_at hl 0 rfl) ?_
      refine lv_iload_n hx hb dX13_preferFirst_35 rfl (lv_at hl 1 rfl) ?_
      refine lv_iload_n hx hb dX13_preferFirst_36 rfl (lv_at hl 2 rfl) ?_
      obtain ⟨r7, ρ8, hc, hf⟩ := fb2 hf
      refine x_i hp (y_V (As := [.int p1, .int p2]) (rest := []) cx hp hl (c_X13_putsFirst l hN hT e20 hc) (cw_X13_313 cx (mc := 0) (ms := 0) rfl rfl ⟨by decide, by decide⟩) (rC_X13 hN cx hp) rfl rfl (Nat.le_of_ble_eq_true rfl) dX13_preferFirst_37 ⟨Nat.zero_le _, Nat.zero_le _⟩) (fun r_c u_c H locs hq hp => ?_)
      obtain ⟨rfl, e_0, n_u⟩ := hq
      have e20 := e_0
      have fr : ∀ q, q ≠ 20 → u_c q = σ q := fun q h0 => (n_u q h0).trans (fr q h0)
      obtain ⟨u, rfl⟩ : ∃ z, u_c = z := ⟨_, rfl⟩
      cases hf
      exact r_i cx hp ⟨rfl, e20, fr⟩ dX13_preferFirst_40
    · have hf := fp hf c5
      refine lv_iconst (v := 0) hx hb dX13_preferFirst_28 (by decide) ?_
      cases hf
      exact r_i cx hp ⟨rfl, e20, fr⟩ dX13_preferFirst_29
  · have hf := fn hf c2
    refine lv_aload_n hx hb dX13_preferFirst_9 rfl (lv_at hl 0 rfl) ?_
    refine lv_iload_n hx hb dX13_preferFirst_10 rfl (lv_at hl 2 rfl) ?_
    obtain ⟨r9, hc, hf⟩ := fb hf
    refine x_i hp (y_V (As := [.int p2]) (rest := [.ref (adr E 20 0)]) cx hp hl (c_X13_isStall l hN hT e20 hc) (cw_X13_94 cx (mc := 0) (ms := 0) rfl rfl ⟨by decide, by decide⟩) (rC_X13 hN cx hp) rfl rfl (Nat.le_of_ble_eq_true rfl) dX13_preferFirst_11 ⟨Nat.zero_le _, Nat.zero_le _⟩) (fun r_c u_c H locs hq hp => ?_)
    obtain ⟨rfl, rfl⟩ := hq
    refine lv_if_eq (tgt := 21) hx hb dX13_preferFirst_14 (by decide) (fun c10 => ?_) (fun c10 => ?_)
    · have hf := fp hf c10
      refine lv_iconst (v := 0) hx hb dX13_preferFirst_21 (by decide) ?_
      obtain ⟨r11, ρ12, hc, hf⟩ := fb2 hf
      refine x_i hp (y_V (As := [.int 0]) (rest := []) cx hp hl (c_X13_wants l hN hT e20 hc) (cw_X13_322 cx (mc := 0) (ms := 0) rfl rfl ⟨by decide, by decide⟩) (rC_X13 hN cx hp) rfl rfl (Nat.le_of_ble_eq_true rfl) dX13_preferFirst_22 ⟨Nat.zero_le _, Nat.zero_le _⟩) (fun r_c u_c H locs hq hp => ?_)
      obtain ⟨rfl, e_0, n_u⟩ := hq
      have e20 := e_0
      have fr : ∀ q, q ≠ 20 → u_c q = σ q := fun q h0 => (n_u q h0).trans (fr q h0)
      obtain ⟨u, rfl⟩ : ∃ z, u_c = z := ⟨_, rfl⟩
      refine lv_if_ne (tgt := 30) hx hb dX13_preferFirst_25 (by decide) (fun c13 => ?_) (fun c13 => ?_)
      · have hf := fn hf c13
        refine lv_aload_n hx hb dX13_preferFirst_30 rfl (lv_at hl 0 rfl) ?_
        obtain ⟨ρ14, hc, hf⟩ := fb hf
        refine x_v hp (y_V (As := []) (rest := []) cx hp hl (c_X13_remembers l hN hT e20 hc) (cw_X13_333 cx (mc := 0) (ms := 0) rfl rfl ⟨by decide, by decide⟩) (rC_X13 hN cx hp) rfl rfl (Nat.le_of_ble_eq_true rfl) dX13_preferFirst_31 ⟨Nat.zero_le _, Nat.zero_le _⟩) (fun u_c H locs hq hp => ?_)
        obtain ⟨e_0, n_u⟩ := hq
        have e20 := e_0
        have fr : ∀ q, q ≠ 20 → u_c q = σ q := fun q h0 => (n_u q h0).trans (fr q h0)
        obtain ⟨u, rfl⟩ : ∃ z, u_c = z := ⟨_, rfl⟩
        refine lv_aload_n hx hb dX13_preferFirst_34 rfl (lv_at hl 0 rfl) ?_
        refine lv_iload_n hx hb dX13_preferFirst_35 rfl (lv_at hl 1 rfl) ?_
        refine lv_iload_n hx hb dX13_preferFirst_36 rfl (lv_at hl 2 rfl) ?_
        obtain ⟨r15, ρ16, hc, hf⟩ := fb2 hf
        refine x_i hp (y_V (As := [.int p1, .int p2]) (rest := []) cx hp hl (c_X13_putsFirst l hN hT e20 hc) (cw_X13_313 cx (mc := 0) (ms := 0) rfl rfl ⟨by decide, by decide⟩) (rC_X13 hN cx hp) rfl rfl (Nat.le_of_ble_eq_true rfl) dX13_preferFirst_37 ⟨Nat.zero_le _, Nat.zero_le _⟩) (fun r_c u_c H locs hq hp => ?_)
        obtain ⟨rfl, e_0, n_u⟩ := hq
        have e20 := e_0
        have fr : ∀ q, q ≠ 20 → u_c q = σ q := fun q h0 => (n_u q h0).trans (fr q h0)
        obtain ⟨u, rfl⟩ : ∃ z, u_c = z := ⟨_, rfl⟩
        cases hf
        exact r_i cx hp ⟨rfl, e20, fr⟩ dX13_preferFirst_40
      · have hf := fp hf c13
        refine lv_iconst (v := 0) hx hb dX13_preferFirst_28 (by decide) ?_
        cases hf
        exact r_i cx hp ⟨rfl, e20, fr⟩ dX13_preferFirst_29
    · have hf := fn hf c10
      refine lv_iconst (v := 1) hx hb dX13_preferFirst_17 (by decide) ?_
      refine lv_goto (tgt := 22) hx hb dX13_preferFirst_18 (by decide) ?_
      obtain ⟨r17, ρ18, hc, hf⟩ := fb2 hf
      refine x_i hp (y_V (As := [.int 1]) (rest := []) cx hp hl (c_X13_wants l hN hT e20 hc) (cw_X13_322 cx (mc := 0) (ms := 0) rfl rfl ⟨by decide, by decide⟩) (rC_X13 hN cx hp) rfl rfl (Nat.le_of_ble_eq_true rfl) dX13_preferFirst_22 ⟨Nat.zero_le _, Nat.zero_le _⟩) (fun r_c u_c H locs hq hp => ?_)
      obtain ⟨rfl, e_0, n_u⟩ := hq
      have e20 := e_0
      have fr : ∀ q, q ≠ 20 → u_c q = σ q := fun q h0 => (n_u q h0).trans (fr q h0)
      obtain ⟨u, rfl⟩ : ∃ z, u_c = z := ⟨_, rfl⟩
      refine lv_if_ne (tgt := 30) hx hb dX13_preferFirst_25 (by decide) (fun c19 => ?_) (fun c19 => ?_)
      · have hf := fn hf c19
        refine lv_aload_n hx hb dX13_preferFirst_30 rfl (lv_at hl 0 rfl) ?_
        obtain ⟨ρ20, hc, hf⟩ := fb hf
        refine x_v hp (y_V (As := []) (rest := []) cx hp hl (c_X13_remembers l hN hT e20 hc) (cw_X13_333 cx (mc := 0) (ms := 0) rfl rfl ⟨by decide, by decide⟩) (rC_X13 hN cx hp) rfl rfl (Nat.le_of_ble_eq_true rfl) dX13_preferFirst_31 ⟨Nat.zero_le _, Nat.zero_le _⟩) (fun u_c H locs hq hp => ?_)
        obtain ⟨e_0, n_u⟩ := hq
        have e20 := e_0
        have fr : ∀ q, q ≠ 20 → u_c q = σ q := fun q h0 => (n_u q h0).trans (fr q h0)
        obtain ⟨u, rfl⟩ : ∃ z, u_c = z := ⟨_, rfl⟩
        refine lv_aload_n hx hb dX13_preferFirst_34 rfl (lv_at hl 0 rfl) ?_
        refine lv_iload_n hx hb dX13_preferFirst_35 rfl (lv_at hl 1 rfl) ?_
        refine lv_iload_n hx hb dX13_preferFirst_36 rfl (lv_at hl 2 rfl) ?_
        obtain ⟨r21, ρ22, hc, hf⟩ := fb2 hf
        refine x_i hp (y_V (As := [.int p1, .int p2]) (rest := []) cx hp hl (c_X13_putsFirst l hN hT e20 hc) (cw_X13_313 cx (mc := 0) (ms := 0) rfl rfl ⟨by decide, by decide⟩) (rC_X13 hN cx hp) rfl rfl (Nat.le_of_ble_eq_true rfl) dX13_preferFirst_37 ⟨Nat.zero_le _, Nat.zero_le _⟩) (fun r_c u_c H locs hq hp => ?_)
        obtain ⟨rfl, e_0, n_u⟩ := hq
        have e20 := e_0
        have fr : ∀ q, q ≠ 20 → u_c q = σ q := fun q h0 => (n_u q h0).trans (fr q h0)
        obtain ⟨u, rfl⟩ : ∃ z, u_c = z := ⟨_, rfl⟩
        cases hf
        exact r_i cx hp ⟨rfl, e20, fr⟩ dX13_preferFirst_40
      · have hf := fp hf c19
        refine lv_iconst (v := 0) hx hb dX13_preferFirst_28 (by decide) ?_
        cases hf
        exact r_i cx hp ⟨rfl, e20, fr⟩ dX13_preferFirst_29
abbrev rm_X13_removePreference : Room := { frames := 3, cells := 0, slots := 0, locals := 69 }
set_option maxRecDepth 100000 in
set_option maxHeartbeats 4000000 in
theorem c_X13_removePreference (l : Launch) {E : Ev} (hN : 146 ≤ eN E) (hT : St E) {σ : SM} {ρ : OM} (e20 : σ 20 = ρ) {p1 : Int32} {p2 : Int32} {rv : Int32} {ρ' : OM} (hf : f_X13_removePreference p1 p2 ρ = some (rv, ρ')) : Met l yX13_removePreference (wC yX13_removePreference cX13_removePreference 4 (some .int)) rm_X13_removePreference (va_Pc [.ref (adr E 20 0), .int p1, .int p2] (Wu E σ)) (va_Qi (fun r u => rv = r ∧ u 20 = ρ' ∧ ∀ q, q ≠ 20 → u q = σ q) (fun u t => Wu E u t) (eA E)) 0 0 (eA E) := by
  refine g_entry (lv := [(0, .ref (adr E 20 0)), (1, .int p1), (2, .int p2)]) (by decide) (Nat.le_of_ble_eq_true rfl) rfl ?_
  intro p e s m below meth c cx hp ls hl
  have hx := cx.1.1
  have hb := cx.1.2.1
  have fr : ∀ q, q ≠ 20 → σ q = σ q := fun _ _ => rfl
  unfold f_X13_removePreference at hf
  refine lv_aload_n hx hb dX13_removePreference_0 rfl (lv_at hl 0 rfl) ?_
  refine lv_iload_n hx hb dX13_removePreference_1 rfl (lv_at hl 1 rfl) ?_
  obtain ⟨r1, hc, hf⟩ := fb hf
  refine x_i hp (y_V (As := [.int p1]) (rest := []) cx hp hl (c_X13_isSeller l hN hT e20 hc) (cw_X13_339 cx (mc := 0) (ms := 0) rfl rfl ⟨by decide, by decide⟩) (rC_X13 hN cx hp) rfl rfl (Nat.le_of_ble_eq_true rfl) dX13_removePreference_2 ⟨Nat.zero_le _, Nat.zero_le _⟩) (fun r_c u_c H locs hq hp => ?_)
  obtain ⟨rfl, rfl⟩ := hq
  refine lv_if_eq (tgt := 20) hx hb dX13_removePreference_5 (by decide) (fun c2 => ?_) (fun c2 => ?_)
  · have hf := fp hf c2
    refine lv_iconst (v := 0) hx hb dX13_removePreference_20 (by decide) ?_
    refine lv_istore_n (lv' := [(3, .int 0), (0, .ref (adr E 20 0)), (1, .int p1), (2, .int p2)]) hx hb dX13_removePreference_21 rfl hl (by decide) rfl (fun ls hl => ?_)
    refine lv_aload_n hx hb dX13_removePreference_22 rfl (lv_at hl 1 rfl) ?_
    refine lv_iload_n hx hb dX13_removePreference_23 rfl (lv_at hl 0 rfl) ?_
    refine lv_if_ne (tgt := 31) hx hb dX13_removePreference_24 (by decide) (fun c_x => absurd c_x (by decide)) (fun _ => ?_)
    refine lv_iconst (v := 1) hx hb dX13_removePreference_27 (by decide) ?_
    refine lv_goto (tgt := 46) hx hb dX13_removePreference_28 (by decide) ?_
    obtain ⟨ρ4, e_l, hf⟩ := fl hf
    refine pF_X13_77 e20 hN cx hp dX13_removePreference_46 (fun u H locs e_u n_u hp => ?_)
    have e20 := e_u.trans e_l
    have fr : ∀ q, q ≠ 20 → u q = σ q := fun q h0 => (n_u q h0).trans (fr q h0)
    refine lv_aload_n hx hb dX13_removePreference_49 rfl (lv_at hl 1 rfl) ?_
    refine gF_X13_77 e20 hN cx hp dX13_removePreference_50 ?_
    refine lv_if_le (tgt := 58) hx hb dX13_removePreference_53 (by decide) (fun c5 => ?_) (fun c5 => ?_)
    · have hf := fp hf c5
      refine lv_aload_n hx hb dX13_removePreference_58 rfl (lv_at hl 1 rfl) ?_
      obtain ⟨ρ6, hc, hf⟩ := fb hf
      refine x_v hp (y_V (As := []) (rest := []) cx hp hl (c_X13_remembers l hN hT e20 hc) (cw_X13_333 cx (mc := 0) (ms := 0) rfl rfl ⟨by decide, by decide⟩) (rC_X13 hN cx hp) rfl rfl (Nat.le_of_ble_eq_true rfl) dX13_removePreference_59 ⟨Nat.zero_le _, Nat.zero_le _⟩) (fun u_c H locs hq hp => ?_)
      obtain ⟨e_0, n_u⟩ := hq
      have e20 := e_0
      have fr : ∀ q, q ≠ 20 → u_c q = σ q := fun q h0 => (n_u q h0).trans (fr q h0)
      obtain ⟨u, rfl⟩ : ∃ z, u_c = z := ⟨_, rfl⟩
      refine lv_aload_n hx hb dX13_removePreference_62 rfl (lv_at hl 1 rfl) ?_
      refine lv_iload_n hx hb dX13_removePreference_63 rfl (lv_at hl 2 rfl) ?_
      refine lv_iload_n hx hb dX13_removePreference_64 rfl (lv_at hl 3 rfl) ?_
      obtain ⟨r7, ρ8, hc, hf⟩ := fb2 hf
      refine x_i hp (y_V (As := [.int p1, .int p2]) (rest := []) cx hp hl (c_X13_removes l hN hT e20 hc) (cw_X13_158 cx (mc := 0) (ms := 0) rfl rfl ⟨by decide, by decide⟩) (rC_X13 hN cx hp) rfl rfl (Nat.le_of_ble_eq_true rfl) dX13_removePreference_65 ⟨Nat.zero_le _, Nat.zero_le _⟩) (fun r_c u_c H locs hq hp => ?_)
      obtain ⟨rfl, e_0, n_u⟩ := hq
      have e20 := e_0
      have fr : ∀ q, q ≠ 20 → u_c q = σ q := fun q h0 => (n_u q h0).trans (fr q h0)
      obtain ⟨u, rfl⟩ : ∃ z, u_c = z := ⟨_, rfl⟩
      cases hf
      exact r_i cx hp ⟨rfl, e20, fr⟩ dX13_removePreference_68
    · have hf := fn hf c5
      refine lv_iconst (v := 0) hx hb dX13_removePreference_56 (by decide) ?_
      cases hf
      exact r_i cx hp ⟨rfl, e20, fr⟩ dX13_removePreference_57
  · have hf := fn hf c2
    refine lv_aload_n hx hb dX13_removePreference_8 rfl (lv_at hl 0 rfl) ?_
    refine lv_iload_n hx hb dX13_removePreference_9 rfl (lv_at hl 2 rfl) ?_
    obtain ⟨r9, hc, hf⟩ := fb hf
    refine x_i hp (y_V (As := [.int p2]) (rest := []) cx hp hl (c_X13_isStall l hN hT e20 hc) (cw_X13_94 cx (mc := 0) (ms := 0) rfl rfl ⟨by decide, by decide⟩) (rC_X13 hN cx hp) rfl rfl (Nat.le_of_ble_eq_true rfl) dX13_removePreference_10 ⟨Nat.zero_le _, Nat.zero_le _⟩) (fun r_c u_c H locs hq hp => ?_)
    obtain ⟨rfl, rfl⟩ := hq
    refine lv_if_eq (tgt := 20) hx hb dX13_removePreference_13 (by decide) (fun c10 => ?_) (fun c10 => ?_)
    · have hf := fp hf c10
      refine lv_iconst (v := 0) hx hb dX13_removePreference_20 (by decide) ?_
      refine lv_istore_n (lv' := [(3, .int 0), (0, .ref (adr E 20 0)), (1, .int p1), (2, .int p2)]) hx hb dX13_removePreference_21 rfl hl (by decide) rfl (fun ls hl => ?_)
      refine lv_aload_n hx hb dX13_removePreference_22 rfl (lv_at hl 1 rfl) ?_
      refine lv_iload_n hx hb dX13_removePreference_23 rfl (lv_at hl 0 rfl) ?_
      refine lv_if_ne (tgt := 31) hx hb dX13_removePreference_24 (by decide) (fun c_x => absurd c_x (by decide)) (fun _ => ?_)
      refine lv_iconst (v := 1) hx hb dX13_removePreference_27 (by decide) ?_
      refine lv_goto (tgt := 46) hx hb dX13_removePreference_28 (by decide) ?_
      obtain ⟨ρ12, e_l, hf⟩ := fl hf
      refine pF_X13_77 e20 hN cx hp dX13_removePreference_46 (fun u H locs e_u n_u hp => ?_)
      have e20 := e_u.trans e_l
      have fr : ∀ q, q ≠ 20 → u q = σ q := fun q h0 => (n_u q h0).trans (fr q h0)
      refine lv_aload_n hx hb dX13_removePreference_49 rfl (lv_at hl 1 rfl) ?_
      refine gF_X13_77 e20 hN cx hp dX13_removePreference_50 ?_
      refine lv_if_le (tgt := 58) hx hb dX13_removePreference_53 (by decide) (fun c13 => ?_) (fun c13 => ?_)
      · have hf := fp hf c13
        refine lv_aload_n hx hb dX13_removePreference_58 rfl (lv_at hl 1 rfl) ?_
        obtain ⟨ρ14, hc, hf⟩ := fb hf
        refine x_v hp (y_V (As := []) (rest := []) cx hp hl (c_X13_remembers l hN hT e20 hc) (cw_X13_333 cx (mc := 0) (ms := 0) rfl rfl ⟨by decide, by decide⟩) (rC_X13 hN cx hp) rfl rfl (Nat.le_of_ble_eq_true rfl) dX13_removePreference_59 ⟨Nat.zero_le _, Nat.zero_le _⟩) (fun u_c H locs hq hp => ?_)
        obtain ⟨e_0, n_u⟩ := hq
        have e20 := e_0
        have fr : ∀ q, q ≠ 20 → u_c q = σ q := fun q h0 => (n_u q h0).trans (fr q h0)
        obtain ⟨u, rfl⟩ : ∃ z, u_c = z := ⟨_, rfl⟩
        refine lv_aload_n hx hb dX13_removePreference_62 rfl (lv_at hl 1 rfl) ?_
        refine lv_iload_n hx hb dX13_removePreference_63 rfl (lv_at hl 2 rfl) ?_
        refine lv_iload_n hx hb dX13_removePreference_64 rfl (lv_at hl 3 rfl) ?_
        obtain ⟨r15, ρ16, hc, hf⟩ := fb2 hf
        refine x_i hp (y_V (As := [.int p1, .int p2]) (rest := []) cx hp hl (c_X13_removes l hN hT e20 hc) (cw_X13_158 cx (mc := 0) (ms := 0) rfl rfl ⟨by decide, by decide⟩) (rC_X13 hN cx hp) rfl rfl (Nat.le_of_ble_eq_true rfl) dX13_removePreference_65 ⟨Nat.zero_le _, Nat.zero_le _⟩) (fun r_c u_c H locs hq hp => ?_)
        obtain ⟨rfl, e_0, n_u⟩ := hq
        have e20 := e_0
        have fr : ∀ q, q ≠ 20 → u_c q = σ q := fun q h0 => (n_u q h0).trans (fr q h0)
        obtain ⟨u, rfl⟩ : ∃ z, u_c = z := ⟨_, rfl⟩
        cases hf
        exact r_i cx hp ⟨rfl, e20, fr⟩ dX13_removePreference_68
      · have hf := fn hf c13
        refine lv_iconst (v := 0) hx hb dX13_removePreference_56 (by decide) ?_
        cases hf
        exact r_i cx hp ⟨rfl, e20, fr⟩ dX13_removePreference_57
    · have hf := fn hf c10
      refine lv_iconst (v := 1) hx hb dX13_removePreference_16 (by decide) ?_
      refine lv_goto (tgt := 21) hx hb dX13_removePreference_17 (by decide) ?_
      refine lv_istore_n (lv' := [(3, .int 1), (0, .ref (adr E 20 0)), (1, .int p1), (2, .int p2)]) hx hb dX13_removePreference_21 rfl hl (by decide) rfl (fun ls hl => ?_)
      refine lv_aload_n hx hb dX13_removePreference_22 rfl (lv_at hl 1 rfl) ?_
      refine lv_iload_n hx hb dX13_removePreference_23 rfl (lv_at hl 0 rfl) ?_
      refine lv_if_ne (tgt := 31) hx hb dX13_removePreference_24 (by decide) (fun _ => ?_) (fun c_x => absurd c_x (by decide))
      refine lv_aload_n hx hb dX13_removePreference_31 rfl (lv_at hl 1 rfl) ?_
      refine lv_iload_n hx hb dX13_removePreference_32 rfl (lv_at hl 2 rfl) ?_
      refine lv_iload_n hx hb dX13_removePreference_33 rfl (lv_at hl 3 rfl) ?_
      obtain ⟨r18, hc, hf⟩ := fb hf
      refine x_i hp (y_V (As := [.int p1, .int p2]) (rest := [.ref (adr E 20 0)]) cx hp hl (c_X13_rank l hN hT e20 hc) (cw_X13_102 cx (mc := 0) (ms := 0) rfl rfl ⟨by decide, by decide⟩) (rC_X13 hN cx hp) rfl rfl (Nat.le_of_ble_eq_true rfl) dX13_removePreference_34 ⟨Nat.zero_le _, Nat.zero_le _⟩) (fun r_c u_c H locs hq hp => ?_)
      obtain ⟨rfl, rfl⟩ := hq
      refine lv_iconst (v := (-1)) hx hb dX13_removePreference_37 (by decide) ?_
      refine lv_icmp_ne (tgt := 45) hx hb dX13_removePreference_38 (by decide) (fun c19 => ?_) (fun c19 => ?_)
      · have hf := fn hf c19
        refine lv_iconst (v := 0) hx hb dX13_removePreference_45 (by decide) ?_
        obtain ⟨ρ20, e_l, hf⟩ := fl hf
        refine pF_X13_77 e20 hN cx hp dX13_removePreference_46 (fun u H locs e_u n_u hp => ?_)
        have e20 := e_u.trans e_l
        have fr : ∀ q, q ≠ 20 → u q = σ q := fun q h0 => (n_u q h0).trans (fr q h0)
        refine lv_aload_n hx hb dX13_removePreference_49 rfl (lv_at hl 1 rfl) ?_
        refine gF_X13_77 e20 hN cx hp dX13_removePreference_50 ?_
        refine lv_if_le (tgt := 58) hx hb dX13_removePreference_53 (by decide) (fun c21 => ?_) (fun c21 => ?_)
        · have hf := fp hf c21
          refine lv_aload_n hx hb dX13_removePreference_58 rfl (lv_at hl 1 rfl) ?_
          obtain ⟨ρ22, hc, hf⟩ := fb hf
          refine x_v hp (y_V (As := []) (rest := []) cx hp hl (c_X13_remembers l hN hT e20 hc) (cw_X13_333 cx (mc := 0) (ms := 0) rfl rfl ⟨by decide, by decide⟩) (rC_X13 hN cx hp) rfl rfl (Nat.le_of_ble_eq_true rfl) dX13_removePreference_59 ⟨Nat.zero_le _, Nat.zero_le _⟩) (fun u_c H locs hq hp => ?_)
          obtain ⟨e_0, n_u⟩ := hq
          have e20 := e_0
          have fr : ∀ q, q ≠ 20 → u_c q = σ q := fun q h0 => (n_u q h0).trans (fr q h0)
          obtain ⟨u, rfl⟩ : ∃ z, u_c = z := ⟨_, rfl⟩
          refine lv_aload_n hx hb dX13_removePreference_62 rfl (lv_at hl 1 rfl) ?_
          refine lv_iload_n hx hb dX13_removePreference_63 rfl (lv_at hl 2 rfl) ?_
          refine lv_iload_n hx hb dX13_removePreference_64 rfl (lv_at hl 3 rfl) ?_
          obtain ⟨r23, ρ24, hc, hf⟩ := fb2 hf
          refine x_i hp (y_V (As := [.int p1, .int p2]) (rest := []) cx hp hl (c_X13_removes l hN hT e20 hc) (cw_X13_158 cx (mc := 0) (ms := 0) rfl rfl ⟨by decide, by decide⟩) (rC_X13 hN cx hp) rfl rfl (Nat.le_of_ble_eq_true rfl) dX13_removePreference_65 ⟨Nat.zero_le _, Nat.zero_le _⟩) (fun r_c u_c H locs hq hp => ?_)
          obtain ⟨rfl, e_0, n_u⟩ := hq
          have e20 := e_0
          have fr : ∀ q, q ≠ 20 → u_c q = σ q := fun q h0 => (n_u q h0).trans (fr q h0)
          obtain ⟨u, rfl⟩ : ∃ z, u_c = z := ⟨_, rfl⟩
          cases hf
          exact r_i cx hp ⟨rfl, e20, fr⟩ dX13_removePreference_68
        · have hf := fn hf c21
          refine lv_iconst (v := 0) hx hb dX13_removePreference_56 (by decide) ?_
          cases hf
          exact r_i cx hp ⟨rfl, e20, fr⟩ dX13_removePreference_57
      · have hf := fp hf c19
        refine lv_iconst (v := 2) hx hb dX13_removePreference_41 (by decide) ?_
        refine lv_goto (tgt := 46) hx hb dX13_removePreference_42 (by decide) ?_
        obtain ⟨ρ25, e_l, hf⟩ := fl hf
        refine pF_X13_77 e20 hN cx hp dX13_removePreference_46 (fun u H locs e_u n_u hp => ?_)
        have e20 := e_u.trans e_l
        have fr : ∀ q, q ≠ 20 → u q = σ q := fun q h0 => (n_u q h0).trans (fr q h0)
        refine lv_aload_n hx hb dX13_removePreference_49 rfl (lv_at hl 1 rfl) ?_
        refine gF_X13_77 e20 hN cx hp dX13_removePreference_50 ?_
        refine lv_if_le (tgt := 58) hx hb dX13_removePreference_53 (by decide) (fun c26 => ?_) (fun c26 => ?_)
        · have hf := fp hf c26
          refine lv_aload_n hx hb dX13_removePreference_58 rfl (lv_at hl 1 rfl) ?_
          obtain ⟨ρ27, hc, hf⟩ := fb hf
          refine x_v hp (y_V (As := []) (rest := []) cx hp hl (c_X13_remembers l hN hT e20 hc) (cw_X13_333 cx (mc := 0) (ms := 0) rfl rfl ⟨by decide, by decide⟩) (rC_X13 hN cx hp) rfl rfl (Nat.le_of_ble_eq_true rfl) dX13_removePreference_59 ⟨Nat.zero_le _, Nat.zero_le _⟩) (fun u_c H locs hq hp => ?_)
          obtain ⟨e_0, n_u⟩ := hq
          have e20 := e_0
          have fr : ∀ q, q ≠ 20 → u_c q = σ q := fun q h0 => (n_u q h0).trans (fr q h0)
          obtain ⟨u, rfl⟩ : ∃ z, u_c = z := ⟨_, rfl⟩
          refine lv_aload_n hx hb dX13_removePreference_62 rfl (lv_at hl 1 rfl) ?_
          refine lv_iload_n hx hb dX13_removePreference_63 rfl (lv_at hl 2 rfl) ?_
          refine lv_iload_n hx hb dX13_removePreference_64 rfl (lv_at hl 3 rfl) ?_
          obtain ⟨r28, ρ29, hc, hf⟩ := fb2 hf
          refine x_i hp (y_V (As := [.int p1, .int p2]) (rest := []) cx hp hl (c_X13_removes l hN hT e20 hc) (cw_X13_158 cx (mc := 0) (ms := 0) rfl rfl ⟨by decide, by decide⟩) (rC_X13 hN cx hp) rfl rfl (Nat.le_of_ble_eq_true rfl) dX13_removePreference_65 ⟨Nat.zero_le _, Nat.zero_le _⟩) (fun r_c u_c H locs hq hp => ?_)
          obtain ⟨rfl, e_0, n_u⟩ := hq
          have e20 := e_0
          have fr : ∀ q, q ≠ 20 → u_c q = σ q := fun q h0 => (n_u q h0).trans (fr q h0)
          obtain ⟨u, rfl⟩ : ∃ z, u_c = z := ⟨_, rfl⟩
          cases hf
          exact r_i cx hp ⟨rfl, e20, fr⟩ dX13_removePreference_68
        · have hf := fn hf c26
          refine lv_iconst (v := 0) hx hb dX13_removePreference_56 (by decide) ?_
          cases hf
          exact r_i cx hp ⟨rfl, e20, fr⟩ dX13_removePreference_57
abbrev rm_X13_setRent : Room := { frames := 2, cells := 0, slots := 0, locals := 43 }
set_option maxRecDepth 100000 in
set_option maxHeartbeats 4000000 in
theorem c_X13_setRent (l : Launch) {E : Ev} (hN : 146 ≤ eN E) (hT : St E) {σ : SM} {ρ : OM} (e20 : σ 20 = ρ) {p1 : Int32} {p2 : Int32} {rv : Int32} {ρ' : OM} (hf : f_X13_setRent p1 p2 ρ = some (rv, ρ')) : Met l yX13_setRent (wC yX13_setRent cX13_setRent 4 (some .int)) rm_X13_setRent (va_Pc [.ref (adr E 20 0), .int p1, .int p2] (Wu E σ)) (va_Qi (fun r u => rv = r ∧ u 20 = ρ' ∧ ∀ q, q ≠ 20 → u q = σ q) (fun u t => Wu E u t) (eA E)) 0 0 (eA E) := by
  refine g_entry (lv := [(0, .ref (adr E 20 0)), (1, .int p1), (2, .int p2)]) (by decide) (Nat.le_of_ble_eq_true rfl) rfl ?_
  intro p e s m below meth c cx hp ls hl
  have hx := cx.1.1
  have hb := cx.1.2.1
  have fr : ∀ q, q ≠ 20 → σ q = σ q := fun _ _ => rfl
  unfold f_X13_setRent at hf
  refine lv_aload_n hx hb dX13_setRent_0 rfl (lv_at hl 0 rfl) ?_
  refine lv_aload_n hx hb dX13_setRent_1 rfl (lv_at hl 0 rfl) ?_
  refine lv_iload_n hx hb dX13_setRent_2 rfl (lv_at hl 1 rfl) ?_
  obtain ⟨r1, hc, hf⟩ := fb hf
  refine x_i hp (y_V (As := [.int p1]) (rest := [.ref (adr E 20 0)]) cx hp hl (c_X13_isStall l hN hT e20 hc) (cw_X13_94 cx (mc := 0) (ms := 0) rfl rfl ⟨by decide, by decide⟩) (rC_X13 hN cx hp) rfl rfl (Nat.le_of_ble_eq_true rfl) dX13_setRent_3 ⟨Nat.zero_le _, Nat.zero_le _⟩) (fun r_c u_c H locs hq hp => ?_)
  obtain ⟨rfl, rfl⟩ := hq
  refine lv_if_ne (tgt := 13) hx hb dX13_setRent_6 (by decide) (fun c2 => ?_) (fun c2 => ?_)
  · have hf := fn hf c2
    refine lv_iload_n hx hb dX13_setRent_13 rfl (lv_at hl 2 rfl) ?_
    refine lv_iconst (v := 0) hx hb dX13_setRent_14 (by decide) ?_
    refine lv_bipush (v := 99) hx hb dX13_setRent_15 (by decide) ?_
    obtain ⟨r3, hc, hf⟩ := fb hf
    refine x_i hp (y_S (As := [.int p2, .int 0, .int 99]) (rest := [.ref (adr E 20 0)]) cx hp hl (c_X13_isBetween l hN hT  hc) (cw_X13_90 cx (mc := 0) (ms := 0) rfl rfl ⟨by decide, by decide⟩) rfl rfl (Nat.le_of_ble_eq_true rfl) dX13_setRent_17 ⟨Nat.zero_le _, Nat.zero_le _⟩) (fun r_c u_c H locs hq hp => ?_)
    obtain ⟨rfl, rfl⟩ := hq
    refine lv_if_ne (tgt := 27) hx hb dX13_setRent_20 (by decide) (fun c4 => ?_) (fun c4 => ?_)
    · have hf := fn hf c4
      refine lv_iconst (v := 0) hx hb dX13_setRent_27 (by decide) ?_
      obtain ⟨ρ5, e_l, hf⟩ := fl hf
      refine pF_X13_77 e20 hN cx hp dX13_setRent_28 (fun u H locs e_u n_u hp => ?_)
      have e20 := e_u.trans e_l
      have fr : ∀ q, q ≠ 20 → u q = σ q := fun q h0 => (n_u q h0).trans (fr q h0)
      refine lv_aload_n hx hb dX13_setRent_31 rfl (lv_at hl 0 rfl) ?_
      refine gF_X13_77 e20 hN cx hp dX13_setRent_32 ?_
      refine lv_if_le (tgt := 40) hx hb dX13_setRent_35 (by decide) (fun c6 => ?_) (fun c6 => ?_)
      · have hf := fp hf c6
        refine lv_aload_n hx hb dX13_setRent_40 rfl (lv_at hl 0 rfl) ?_
        obtain ⟨ρ7, hc, hf⟩ := fb hf
        refine x_v hp (y_V (As := []) (rest := []) cx hp hl (c_X13_remembers l hN hT e20 hc) (cw_X13_333 cx (mc := 0) (ms := 0) rfl rfl ⟨by decide, by decide⟩) (rC_X13 hN cx hp) rfl rfl (Nat.le_of_ble_eq_true rfl) dX13_setRent_41 ⟨Nat.zero_le _, Nat.zero_le _⟩) (fun u_c H locs hq hp => ?_)
        obtain ⟨e_0, n_u⟩ := hq
        have e20 := e_0
        have fr : ∀ q, q ≠ 20 → u_c q = σ q := fun q h0 => (n_u q h0).trans (fr q h0)
        obtain ⟨u, rfl⟩ : ∃ z, u_c = z := ⟨_, rfl⟩
        refine lv_aload_n hx hb dX13_setRent_44 rfl (lv_at hl 0 rfl) ?_
        refine lv_iload_n hx hb dX13_setRent_45 rfl (lv_at hl 1 rfl) ?_
        obtain ⟨r8, hc, hf⟩ := fb hf
        refine x_i hp (y_V (As := [.int p1]) (rest := []) cx hp hl (c_X13_rentOf l hN hT e20 hc) (cw_X13_149 cx (mc := 0) (ms := 0) rfl rfl ⟨by decide, by decide⟩) (rC_X13 hN cx hp) rfl rfl (Nat.le_of_ble_eq_true rfl) dX13_setRent_46 ⟨Nat.zero_le _, Nat.zero_le _⟩) (fun r_c u_c H locs hq hp => ?_)
        obtain ⟨rfl, rfl⟩ := hq
        refine lv_istore_n (lv' := [(3, .int r8), (0, .ref (adr E 20 0)), (1, .int p1), (2, .int p2)]) hx hb dX13_setRent_49 rfl hl (by decide) rfl (fun ls hl => ?_)
        refine lv_aload_n hx hb dX13_setRent_50 rfl (lv_at hl 1 rfl) ?_
        refine gF_X13_7 rfl hN cx hp dX13_setRent_51 ?_
        refine lv_bipush (v := 9) hx hb dX13_setRent_54 (by decide) ?_
        refine lv_iconst (v := 2) hx hb dX13_setRent_56 (by decide) ?_
        refine lv_iload_n hx hb dX13_setRent_57 rfl (lv_at hl 2 rfl) ?_
        refine lv_imul hx hb dX13_setRent_58 ?_
        refine lv_iadd hx hb dX13_setRent_59 ?_
        refine lv_iconst (v := 1) hx hb dX13_setRent_60 (by decide) ?_
        refine lv_iadd hx hb dX13_setRent_61 ?_
        refine lv_iload_n hx hb dX13_setRent_62 rfl (lv_at hl 3 rfl) ?_
        obtain ⟨g_i, hf⟩ := fg hf
        obtain ⟨ρ9, e_l, hf⟩ := fl hf
        refine sA_X13_1 e20 hN cx hp g_i dX13_setRent_63 (fun u H locs e_u n_u hp => ?_)
        have e20 := e_u.trans e_l
        have fr : ∀ q, q ≠ 20 → u q = σ q := fun q h0 => (n_u q h0).trans (fr q h0)
        refine lv_iload_n hx hb dX13_setRent_64 rfl (lv_at hl 0 rfl) ?_
        cases hf
        exact r_i cx hp ⟨rfl, e20, fr⟩ dX13_setRent_65
      · have hf := fn hf c6
        refine lv_iconst (v := 0) hx hb dX13_setRent_38 (by decide) ?_
        cases hf
        exact r_i cx hp ⟨rfl, e20, fr⟩ dX13_setRent_39
    · have hf := fp hf c4
      refine lv_iconst (v := 2) hx hb dX13_setRent_23 (by decide) ?_
      refine lv_goto (tgt := 28) hx hb dX13_setRent_24 (by decide) ?_
      obtain ⟨ρ10, e_l, hf⟩ := fl hf
      refine pF_X13_77 e20 hN cx hp dX13_setRent_28 (fun u H locs e_u n_u hp => ?_)
      have e20 := e_u.trans e_l
      have fr : ∀ q, q ≠ 20 → u q = σ q := fun q h0 => (n_u q h0).trans (fr q h0)
      refine lv_aload_n hx hb dX13_setRent_31 rfl (lv_at hl 0 rfl) ?_
      refine gF_X13_77 e20 hN cx hp dX13_setRent_32 ?_
      refine lv_if_le (tgt := 40) hx hb dX13_setRent_35 (by decide) (fun c11 => ?_) (fun c11 => ?_)
      · have hf := fp hf c11
        refine lv_aload_n hx hb dX13_setRent_40 rfl (lv_at hl 0 rfl) ?_
        obtain ⟨ρ12, hc, hf⟩ := fb hf
        refine x_v hp (y_V (As := []) (rest := []) cx hp hl (c_X13_remembers l hN hT e20 hc) (cw_X13_333 cx (mc := 0) (ms := 0) rfl rfl ⟨by decide, by decide⟩) (rC_X13 hN cx hp) rfl rfl (Nat.le_of_ble_eq_true rfl) dX13_setRent_41 ⟨Nat.zero_le _, Nat.zero_le _⟩) (fun u_c H locs hq hp => ?_)
        obtain ⟨e_0, n_u⟩ := hq
        have e20 := e_0
        have fr : ∀ q, q ≠ 20 → u_c q = σ q := fun q h0 => (n_u q h0).trans (fr q h0)
        obtain ⟨u, rfl⟩ : ∃ z, u_c = z := ⟨_, rfl⟩
        refine lv_aload_n hx hb dX13_setRent_44 rfl (lv_at hl 0 rfl) ?_
        refine lv_iload_n hx hb dX13_setRent_45 rfl (lv_at hl 1 rfl) ?_
        obtain ⟨r13, hc, hf⟩ := fb hf
        refine x_i hp (y_V (As := [.int p1]) (rest := []) cx hp hl (c_X13_rentOf l hN hT e20 hc) (cw_X13_149 cx (mc := 0) (ms := 0) rfl rfl ⟨by decide, by decide⟩) (rC_X13 hN cx hp) rfl rfl (Nat.le_of_ble_eq_true rfl) dX13_setRent_46 ⟨Nat.zero_le _, Nat.zero_le _⟩) (fun r_c u_c H locs hq hp => ?_)
        obtain ⟨rfl, rfl⟩ := hq
        refine lv_istore_n (lv' := [(3, .int r13), (0, .ref (adr E 20 0)), (1, .int p1), (2, .int p2)]) hx hb dX13_setRent_49 rfl hl (by decide) rfl (fun ls hl => ?_)
        refine lv_aload_n hx hb dX13_setRent_50 rfl (lv_at hl 1 rfl) ?_
        refine gF_X13_7 rfl hN cx hp dX13_setRent_51 ?_
        refine lv_bipush (v := 9) hx hb dX13_setRent_54 (by decide) ?_
        refine lv_iconst (v := 2) hx hb dX13_setRent_56 (by decide) ?_
        refine lv_iload_n hx hb dX13_setRent_57 rfl (lv_at hl 2 rfl) ?_
        refine lv_imul hx hb dX13_setRent_58 ?_
        refine lv_iadd hx hb dX13_setRent_59 ?_
        refine lv_iconst (v := 1) hx hb dX13_setRent_60 (by decide) ?_
        refine lv_iadd hx hb dX13_setRent_61 ?_
        refine lv_iload_n hx hb dX13_setRent_62 rfl (lv_at hl 3 rfl) ?_
        obtain ⟨g_i, hf⟩ := fg hf
        obtain ⟨ρ14, e_l, hf⟩ := fl hf
        refine sA_X13_1 e20 hN cx hp g_i dX13_setRent_63 (fun u H locs e_u n_u hp => ?_)
        have e20 := e_u.trans e_l
        have fr : ∀ q, q ≠ 20 → u q = σ q := fun q h0 => (n_u q h0).trans (fr q h0)
        refine lv_iload_n hx hb dX13_setRent_64 rfl (lv_at hl 0 rfl) ?_
        cases hf
        exact r_i cx hp ⟨rfl, e20, fr⟩ dX13_setRent_65
      · have hf := fn hf c11
        refine lv_iconst (v := 0) hx hb dX13_setRent_38 (by decide) ?_
        cases hf
        exact r_i cx hp ⟨rfl, e20, fr⟩ dX13_setRent_39
  · have hf := fp hf c2
    refine lv_iconst (v := 1) hx hb dX13_setRent_9 (by decide) ?_
    refine lv_goto (tgt := 28) hx hb dX13_setRent_10 (by decide) ?_
    obtain ⟨ρ15, e_l, hf⟩ := fl hf
    refine pF_X13_77 e20 hN cx hp dX13_setRent_28 (fun u H locs e_u n_u hp => ?_)
    have e20 := e_u.trans e_l
    have fr : ∀ q, q ≠ 20 → u q = σ q := fun q h0 => (n_u q h0).trans (fr q h0)
    refine lv_aload_n hx hb dX13_setRent_31 rfl (lv_at hl 0 rfl) ?_
    refine gF_X13_77 e20 hN cx hp dX13_setRent_32 ?_
    refine lv_if_le (tgt := 40) hx hb dX13_setRent_35 (by decide) (fun c16 => ?_) (fun c16 => ?_)
    · have hf := fp hf c16
      refine lv_aload_n hx hb dX13_setRent_40 rfl (lv_at hl 0 rfl) ?_
      obtain ⟨ρ17, hc, hf⟩ := fb hf
      refine x_v hp (y_V (As := []) (rest := []) cx hp hl (c_X13_remembers l hN hT e20 hc) (cw_X13_333 cx (mc := 0) (ms := 0) rfl rfl ⟨by decide, by decide⟩) (rC_X13 hN cx hp) rfl rfl (Nat.le_of_ble_eq_true rfl) dX13_setRent_41 ⟨Nat.zero_le _, Nat.zero_le _⟩) (fun u_c H locs hq hp => ?_)
      obtain ⟨e_0, n_u⟩ := hq
      have e20 := e_0
      have fr : ∀ q, q ≠ 20 → u_c q = σ q := fun q h0 => (n_u q h0).trans (fr q h0)
      obtain ⟨u, rfl⟩ : ∃ z, u_c = z := ⟨_, rfl⟩
      refine lv_aload_n hx hb dX13_setRent_44 rfl (lv_at hl 0 rfl) ?_
      refine lv_iload_n hx hb dX13_setRent_45 rfl (lv_at hl 1 rfl) ?_
      obtain ⟨r18, hc, hf⟩ := fb hf
      refine x_i hp (y_V (As := [.int p1]) (rest := []) cx hp hl (c_X13_rentOf l hN hT e20 hc) (cw_X13_149 cx (mc := 0) (ms := 0) rfl rfl ⟨by decide, by decide⟩) (rC_X13 hN cx hp) rfl rfl (Nat.le_of_ble_eq_true rfl) dX13_setRent_46 ⟨Nat.zero_le _, Nat.zero_le _⟩) (fun r_c u_c H locs hq hp => ?_)
      obtain ⟨rfl, rfl⟩ := hq
      refine lv_istore_n (lv' := [(3, .int r18), (0, .ref (adr E 20 0)), (1, .int p1), (2, .int p2)]) hx hb dX13_setRent_49 rfl hl (by decide) rfl (fun ls hl => ?_)
      refine lv_aload_n hx hb dX13_setRent_50 rfl (lv_at hl 1 rfl) ?_
      refine gF_X13_7 rfl hN cx hp dX13_setRent_51 ?_
      refine lv_bipush (v := 9) hx hb dX13_setRent_54 (by decide) ?_
      refine lv_iconst (v := 2) hx hb dX13_setRent_56 (by decide) ?_
      refine lv_iload_n hx hb dX13_setRent_57 rfl (lv_at hl 2 rfl) ?_
      refine lv_imul hx hb dX13_setRent_58 ?_
      refine lv_iadd hx hb dX13_setRent_59 ?_
      refine lv_iconst (v := 1) hx hb dX13_setRent_60 (by decide) ?_
      refine lv_iadd hx hb dX13_setRent_61 ?_
      refine lv_iload_n hx hb dX13_setRent_62 rfl (lv_at hl 3 rfl) ?_
      obtain ⟨g_i, hf⟩ := fg hf
      obtain ⟨ρ19, e_l, hf⟩ := fl hf
      refine sA_X13_1 e20 hN cx hp g_i dX13_setRent_63 (fun u H locs e_u n_u hp => ?_)
      have e20 := e_u.trans e_l
      have fr : ∀ q, q ≠ 20 → u q = σ q := fun q h0 => (n_u q h0).trans (fr q h0)
      refine lv_iload_n hx hb dX13_setRent_64 rfl (lv_at hl 0 rfl) ?_
      cases hf
      exact r_i cx hp ⟨rfl, e20, fr⟩ dX13_setRent_65
    · have hf := fn hf c16
      refine lv_iconst (v := 0) hx hb dX13_setRent_38 (by decide) ?_
      cases hf
      exact r_i cx hp ⟨rfl, e20, fr⟩ dX13_setRent_39
abbrev rm_X13_deposit : Room := { frames := 2, cells := 0, slots := 0, locals := 45 }
set_option maxRecDepth 100000 in
set_option maxHeartbeats 4000000 in
theorem c_X13_deposit (l : Launch) {E : Ev} (hN : 146 ≤ eN E) (hT : St E) {σ : SM} {ρ : OM} (e20 : σ 20 = ρ) {p1 : Int32} {p2 : Int32} {rv : Int32} {ρ' : OM} (hf : f_X13_deposit p1 p2 ρ = some (rv, ρ')) : Met l yX13_deposit (wC yX13_deposit cX13_deposit 3 (some .int)) rm_X13_deposit (va_Pc [.ref (adr E 20 0), .int p1, .int p2] (Wu E σ)) (va_Qi (fun r u => rv = r ∧ u 20 = ρ' ∧ ∀ q, q ≠ 20 → u q = σ q) (fun u t => Wu E u t) (eA E)) 0 0 (eA E) := by
  refine g_entry (lv := [(0, .ref (adr E 20 0)), (1, .int p1), (2, .int p2)]) (by decide) (Nat.le_of_ble_eq_true rfl) rfl ?_
  intro p e s m below meth c cx hp ls hl
  have hx := cx.1.1
  have hb := cx.1.2.1
  have fr : ∀ q, q ≠ 20 → σ q = σ q := fun _ _ => rfl
  unfold f_X13_deposit at hf
  refine lv_aload_n hx hb dX13_deposit_0 rfl (lv_at hl 0 rfl) ?_
  refine lv_aload_n hx hb dX13_deposit_1 rfl (lv_at hl 0 rfl) ?_
  refine lv_iload_n hx hb dX13_deposit_2 rfl (lv_at hl 1 rfl) ?_
  obtain ⟨r1, hc, hf⟩ := fb hf
  refine x_i hp (y_V (As := [.int p1]) (rest := [.ref (adr E 20 0)]) cx hp hl (c_X13_isSeller l hN hT e20 hc) (cw_X13_339 cx (mc := 0) (ms := 0) rfl rfl ⟨by decide, by decide⟩) (rC_X13 hN cx hp) rfl rfl (Nat.le_of_ble_eq_true rfl) dX13_deposit_3 ⟨Nat.zero_le _, Nat.zero_le _⟩) (fun r_c u_c H locs hq hp => ?_)
  obtain ⟨rfl, rfl⟩ := hq
  refine lv_if_ne (tgt := 13) hx hb dX13_deposit_6 (by decide) (fun c2 => ?_) (fun c2 => ?_)
  · have hf := fn hf c2
    refine lv_iload_n hx hb dX13_deposit_13 rfl (lv_at hl 2 rfl) ?_
    refine lv_iconst (v := 1) hx hb dX13_deposit_14 (by decide) ?_
    refine lv_sipush (v := 999) hx hb dX13_deposit_15 (by decide) ?_
    obtain ⟨r3, hc, hf⟩ := fb hf
    refine x_i hp (y_S (As := [.int p2, .int 1, .int 999]) (rest := [.ref (adr E 20 0)]) cx hp hl (c_X13_isBetween l hN hT  hc) (cw_X13_90 cx (mc := 0) (ms := 0) rfl rfl ⟨by decide, by decide⟩) rfl rfl (Nat.le_of_ble_eq_true rfl) dX13_deposit_18 ⟨Nat.zero_le _, Nat.zero_le _⟩) (fun r_c u_c H locs hq hp => ?_)
    obtain ⟨rfl, rfl⟩ := hq
    refine lv_if_ne (tgt := 28) hx hb dX13_deposit_21 (by decide) (fun c4 => ?_) (fun c4 => ?_)
    · have hf := fn hf c4
      refine lv_iconst (v := 0) hx hb dX13_deposit_28 (by decide) ?_
      obtain ⟨ρ5, e_l, hf⟩ := fl hf
      refine pF_X13_77 e20 hN cx hp dX13_deposit_29 (fun u H locs e_u n_u hp => ?_)
      have e20 := e_u.trans e_l
      have fr : ∀ q, q ≠ 20 → u q = σ q := fun q h0 => (n_u q h0).trans (fr q h0)
      refine lv_aload_n hx hb dX13_deposit_32 rfl (lv_at hl 0 rfl) ?_
      refine gF_X13_77 e20 hN cx hp dX13_deposit_33 ?_
      refine lv_if_le (tgt := 41) hx hb dX13_deposit_36 (by decide) (fun c6 => ?_) (fun c6 => ?_)
      · have hf := fp hf c6
        refine lv_aload_n hx hb dX13_deposit_41 rfl (lv_at hl 0 rfl) ?_
        obtain ⟨ρ7, hc, hf⟩ := fb hf
        refine x_v hp (y_V (As := []) (rest := []) cx hp hl (c_X13_remembers l hN hT e20 hc) (cw_X13_333 cx (mc := 0) (ms := 0) rfl rfl ⟨by decide, by decide⟩) (rC_X13 hN cx hp) rfl rfl (Nat.le_of_ble_eq_true rfl) dX13_deposit_42 ⟨Nat.zero_le _, Nat.zero_le _⟩) (fun u_c H locs hq hp => ?_)
        obtain ⟨e_0, n_u⟩ := hq
        have e20 := e_0
        have fr : ∀ q, q ≠ 20 → u_c q = σ q := fun q h0 => (n_u q h0).trans (fr q h0)
        obtain ⟨u, rfl⟩ : ∃ z, u_c = z := ⟨_, rfl⟩
        refine lv_aload_n hx hb dX13_deposit_45 rfl (lv_at hl 0 rfl) ?_
        refine lv_iload_n hx hb dX13_deposit_46 rfl (lv_at hl 1 rfl) ?_
        refine lv_iload_n hx hb dX13_deposit_47 rfl (lv_at hl 2 rfl) ?_
        obtain ⟨r8, ρ9, hc, hf⟩ := fb2 hf
        refine x_i hp (y_V (As := [.int p1, .int p2]) (rest := []) cx hp hl (c_X13_deposits l hN hT e20 hc) (cw_X13_161 cx (mc := 0) (ms := 0) rfl rfl ⟨by decide, by decide⟩) (rC_X13 hN cx hp) rfl rfl (Nat.le_of_ble_eq_true rfl) dX13_deposit_48 ⟨Nat.zero_le _, Nat.zero_le _⟩) (fun r_c u_c H locs hq hp => ?_)
        obtain ⟨rfl, e_0, n_u⟩ := hq
        have e20 := e_0
        have fr : ∀ q, q ≠ 20 → u_c q = σ q := fun q h0 => (n_u q h0).trans (fr q h0)
        obtain ⟨u, rfl⟩ : ∃ z, u_c = z := ⟨_, rfl⟩
        cases hf
        exact r_i cx hp ⟨rfl, e20, fr⟩ dX13_deposit_51
      · have hf := fn hf c6
        refine lv_iconst (v := 0) hx hb dX13_deposit_39 (by decide) ?_
        cases hf
        exact r_i cx hp ⟨rfl, e20, fr⟩ dX13_deposit_40
    · have hf := fp hf c4
      refine lv_iconst (v := 2) hx hb dX13_deposit_24 (by decide) ?_
      refine lv_goto (tgt := 29) hx hb dX13_deposit_25 (by decide) ?_
      obtain ⟨ρ10, e_l, hf⟩ := fl hf
      refine pF_X13_77 e20 hN cx hp dX13_deposit_29 (fun u H locs e_u n_u hp => ?_)
      have e20 := e_u.trans e_l
      have fr : ∀ q, q ≠ 20 → u q = σ q := fun q h0 => (n_u q h0).trans (fr q h0)
      refine lv_aload_n hx hb dX13_deposit_32 rfl (lv_at hl 0 rfl) ?_
      refine gF_X13_77 e20 hN cx hp dX13_deposit_33 ?_
      refine lv_if_le (tgt := 41) hx hb dX13_deposit_36 (by decide) (fun c11 => ?_) (fun c11 => ?_)
      · have hf := fp hf c11
        refine lv_aload_n hx hb dX13_deposit_41 rfl (lv_at hl 0 rfl) ?_
        obtain ⟨ρ12, hc, hf⟩ := fb hf
        refine x_v hp (y_V (As := []) (rest := []) cx hp hl (c_X13_remembers l hN hT e20 hc) (cw_X13_333 cx (mc := 0) (ms := 0) rfl rfl ⟨by decide, by decide⟩) (rC_X13 hN cx hp) rfl rfl (Nat.le_of_ble_eq_true rfl) dX13_deposit_42 ⟨Nat.zero_le _, Nat.zero_le _⟩) (fun u_c H locs hq hp => ?_)
        obtain ⟨e_0, n_u⟩ := hq
        have e20 := e_0
        have fr : ∀ q, q ≠ 20 → u_c q = σ q := fun q h0 => (n_u q h0).trans (fr q h0)
        obtain ⟨u, rfl⟩ : ∃ z, u_c = z := ⟨_, rfl⟩
        refine lv_aload_n hx hb dX13_deposit_45 rfl (lv_at hl 0 rfl) ?_
        refine lv_iload_n hx hb dX13_deposit_46 rfl (lv_at hl 1 rfl) ?_
        refine lv_iload_n hx hb dX13_deposit_47 rfl (lv_at hl 2 rfl) ?_
        obtain ⟨r13, ρ14, hc, hf⟩ := fb2 hf
        refine x_i hp (y_V (As := [.int p1, .int p2]) (rest := []) cx hp hl (c_X13_deposits l hN hT e20 hc) (cw_X13_161 cx (mc := 0) (ms := 0) rfl rfl ⟨by decide, by decide⟩) (rC_X13 hN cx hp) rfl rfl (Nat.le_of_ble_eq_true rfl) dX13_deposit_48 ⟨Nat.zero_le _, Nat.zero_le _⟩) (fun r_c u_c H locs hq hp => ?_)
        obtain ⟨rfl, e_0, n_u⟩ := hq
        have e20 := e_0
        have fr : ∀ q, q ≠ 20 → u_c q = σ q := fun q h0 => (n_u q h0).trans (fr q h0)
        obtain ⟨u, rfl⟩ : ∃ z, u_c = z := ⟨_, rfl⟩
        cases hf
        exact r_i cx hp ⟨rfl, e20, fr⟩ dX13_deposit_51
      · have hf := fn hf c11
        refine lv_iconst (v := 0) hx hb dX13_deposit_39 (by decide) ?_
        cases hf
        exact r_i cx hp ⟨rfl, e20, fr⟩ dX13_deposit_40
  · have hf := fp hf c2
    refine lv_iconst (v := 1) hx hb dX13_deposit_9 (by decide) ?_
    refine lv_goto (tgt := 29) hx hb dX13_deposit_10 (by decide) ?_
    obtain ⟨ρ15, e_l, hf⟩ := fl hf
    refine pF_X13_77 e20 hN cx hp dX13_deposit_29 (fun u H locs e_u n_u hp => ?_)
    have e20 := e_u.trans e_l
    have fr : ∀ q, q ≠ 20 → u q = σ q := fun q h0 => (n_u q h0).trans (fr q h0)
    refine lv_aload_n hx hb dX13_deposit_32 rfl (lv_at hl 0 rfl) ?_
    refine gF_X13_77 e20 hN cx hp dX13_deposit_33 ?_
    refine lv_if_le (tgt := 41) hx hb dX13_deposit_36 (by decide) (fun c16 => ?_) (fun c16 => ?_)
    · have hf := fp hf c16
      refine lv_aload_n hx hb dX13_deposit_41 rfl (lv_at hl 0 rfl) ?_
      obtain ⟨ρ17, hc, hf⟩ := fb hf
      refine x_v hp (y_V (As := []) (rest := []) cx hp hl (c_X13_remembers l hN hT e20 hc) (cw_X13_333 cx (mc := 0) (ms := 0) rfl rfl ⟨by decide, by decide⟩) (rC_X13 hN cx hp) rfl rfl (Nat.le_of_ble_eq_true rfl) dX13_deposit_42 ⟨Nat.zero_le _, Nat.zero_le _⟩) (fun u_c H locs hq hp => ?_)
      obtain ⟨e_0, n_u⟩ := hq
      have e20 := e_0
      have fr : ∀ q, q ≠ 20 → u_c q = σ q := fun q h0 => (n_u q h0).trans (fr q h0)
      obtain ⟨u, rfl⟩ : ∃ z, u_c = z := ⟨_, rfl⟩
      refine lv_aload_n hx hb dX13_deposit_45 rfl (lv_at hl 0 rfl) ?_
      refine lv_iload_n hx hb dX13_deposit_46 rfl (lv_at hl 1 rfl) ?_
      refine lv_iload_n hx hb dX13_deposit_47 rfl (lv_at hl 2 rfl) ?_
      obtain ⟨r18, ρ19, hc, hf⟩ := fb2 hf
      refine x_i hp (y_V (As := [.int p1, .int p2]) (rest := []) cx hp hl (c_X13_deposits l hN hT e20 hc) (cw_X13_161 cx (mc := 0) (ms := 0) rfl rfl ⟨by decide, by decide⟩) (rC_X13 hN cx hp) rfl rfl (Nat.le_of_ble_eq_true rfl) dX13_deposit_48 ⟨Nat.zero_le _, Nat.zero_le _⟩) (fun r_c u_c H locs hq hp => ?_)
      obtain ⟨rfl, e_0, n_u⟩ := hq
      have e20 := e_0
      have fr : ∀ q, q ≠ 20 → u_c q = σ q := fun q h0 => (n_u q h0).trans (fr q h0)
      obtain ⟨u, rfl⟩ : ∃ z, u_c = z := ⟨_, rfl⟩
      cases hf
      exact r_i cx hp ⟨rfl, e20, fr⟩ dX13_deposit_51
    · have hf := fn hf c16
      refine lv_iconst (v := 0) hx hb dX13_deposit_39 (by decide) ?_
      cases hf
      exact r_i cx hp ⟨rfl, e20, fr⟩ dX13_deposit_40
abbrev rm_X13_advanceDays : Room := { frames := 4, cells := 0, slots := 0, locals := 91 }
set_option maxRecDepth 100000 in
set_option maxHeartbeats 4000000 in
theorem c_X13_advanceDays (l : Launch) {E : Ev} (hN : 146 ≤ eN E) (hT : St E) {σ : SM} {ρ : OM} (e20 : σ 20 = ρ) {p1 : Int32} {rv : Int32} {ρ' : OM} (hf : f_X13_advanceDays p1 ρ = some (rv, ρ')) : Met l yX13_advanceDays (wC yX13_advanceDays cX13_advanceDays 2 (some .int)) rm_X13_advanceDays (va_Pc [.ref (adr E 20 0), .int p1] (Wu E σ)) (va_Qi (fun r u => rv = r ∧ u 20 = ρ' ∧ ∀ q, q ≠ 20 → u q = σ q) (fun u t => Wu E u t) (eA E)) 0 0 (eA E) := by
  refine g_entry (lv := [(0, .ref (adr E 20 0)), (1, .int p1)]) (by decide) (Nat.le_of_ble_eq_true rfl) rfl ?_
  intro p e s m below meth c cx hp ls hl
  have hx := cx.1.1
  have hb := cx.1.2.1
  have fr : ∀ q, q ≠ 20 → σ q = σ q := fun _ _ => rfl
  unfold f_X13_advanceDays at hf
  refine lv_aload_n hx hb dX13_advanceDays_0 rfl (lv_at hl 0 rfl) ?_
  refine lv_iload_n hx hb dX13_advanceDays_1 rfl (lv_at hl 1 rfl) ?_
  refine lv_iconst (v := 1) hx hb dX13_advanceDays_2 (by decide) ?_
  refine lv_bipush (v := 99) hx hb dX13_advanceDays_3 (by decide) ?_
  obtain ⟨r1, hc, hf⟩ := fb hf
  refine x_i hp (y_S (As := [.int p1, .int 1, .int 99]) (rest := [.ref (adr E 20 0)]) cx hp hl (c_X13_isBetween l hN hT  hc) (cw_X13_90 cx (mc := 0) (ms := 0) rfl rfl ⟨by decide, by decide⟩) rfl rfl (Nat.le_of_ble_eq_true rfl) dX13_advanceDays_5 ⟨Nat.zero_le _, Nat.zero_le _⟩) (fun r_c u_c H locs hq hp => ?_)
  obtain ⟨rfl, rfl⟩ := hq
  refine lv_if_ne (tgt := 15) hx hb dX13_advanceDays_8 (by decide) (fun c2 => ?_) (fun c2 => ?_)
  · have hf := fn hf c2
    refine lv_aload_n hx hb dX13_advanceDays_15 rfl (lv_at hl 0 rfl) ?_
    refine gF_X13_7 rfl hN cx hp dX13_advanceDays_16 ?_
    refine lv_iconst (v := 2) hx hb dX13_advanceDays_19 (by decide) ?_
    obtain ⟨g_i, hf⟩ := fg hf
    refine lA_X13_1 e20 hN cx hp g_i dX13_advanceDays_20 ?_
    refine lv_iload_n hx hb dX13_advanceDays_21 rfl (lv_at hl 1 rfl) ?_
    refine lv_iadd hx hb dX13_advanceDays_22 ?_
    refine lv_sipush (v := 9999) hx hb dX13_advanceDays_23 (by decide) ?_
    refine lv_icmp_le (tgt := 33) hx hb dX13_advanceDays_26 (by decide) (fun c3 => ?_) (fun c3 => ?_)
    · have hf := fp hf c3
      refine lv_iconst (v := 0) hx hb dX13_advanceDays_33 (by decide) ?_
      obtain ⟨ρ4, e_l, hf⟩ := fl hf
      refine pF_X13_77 e20 hN cx hp dX13_advanceDays_34 (fun u H locs e_u n_u hp => ?_)
      have e20 := e_u.trans e_l
      have fr : ∀ q, q ≠ 20 → u q = σ q := fun q h0 => (n_u q h0).trans (fr q h0)
      refine lv_aload_n hx hb dX13_advanceDays_37 rfl (lv_at hl 0 rfl) ?_
      refine gF_X13_77 e20 hN cx hp dX13_advanceDays_38 ?_
      refine lv_if_le (tgt := 46) hx hb dX13_advanceDays_41 (by decide) (fun c5 => ?_) (fun c5 => ?_)
      · have hf := fp hf c5
        refine lv_aload_n hx hb dX13_advanceDays_46 rfl (lv_at hl 0 rfl) ?_
        obtain ⟨ρ6, hc, hf⟩ := fb hf
        refine x_v hp (y_V (As := []) (rest := []) cx hp hl (c_X13_remembers l hN hT e20 hc) (cw_X13_333 cx (mc := 0) (ms := 0) rfl rfl ⟨by decide, by decide⟩) (rC_X13 hN cx hp) rfl rfl (Nat.le_of_ble_eq_true rfl) dX13_advanceDays_47 ⟨Nat.zero_le _, Nat.zero_le _⟩) (fun u_c H locs hq hp => ?_)
        obtain ⟨e_0, n_u⟩ := hq
        have e20 := e_0
        have fr : ∀ q, q ≠ 20 → u_c q = σ q := fun q h0 => (n_u q h0).trans (fr q h0)
        obtain ⟨u, rfl⟩ : ∃ z, u_c = z := ⟨_, rfl⟩
        refine lv_aload_n hx hb dX13_advanceDays_50 rfl (lv_at hl 0 rfl) ?_
        refine lv_iload_n hx hb dX13_advanceDays_51 rfl (lv_at hl 1 rfl) ?_
        obtain ⟨r7, ρ8, hc, hf⟩ := fb2 hf
        refine x_i hp (y_V (As := [.int p1]) (rest := []) cx hp hl (c_X13_passes l hN hT e20 hc) (cw_X13_316 cx (mc := 0) (ms := 0) rfl rfl ⟨by decide, by decide⟩) (rC_X13 hN cx hp) rfl rfl (Nat.le_of_ble_eq_true rfl) dX13_advanceDays_52 ⟨Nat.zero_le _, Nat.zero_le _⟩) (fun r_c u_c H locs hq hp => ?_)
        obtain ⟨rfl, e_0, n_u⟩ := hq
        have e20 := e_0
        have fr : ∀ q, q ≠ 20 → u_c q = σ q := fun q h0 => (n_u q h0).trans (fr q h0)
        obtain ⟨u, rfl⟩ : ∃ z, u_c = z := ⟨_, rfl⟩
        cases hf
        exact r_i cx hp ⟨rfl, e20, fr⟩ dX13_advanceDays_55
      · have hf := fn hf c5
        refine lv_iconst (v := 0) hx hb dX13_advanceDays_44 (by decide) ?_
        cases hf
        exact r_i cx hp ⟨rfl, e20, fr⟩ dX13_advanceDays_45
    · have hf := fn hf c3
      refine lv_iconst (v := 2) hx hb dX13_advanceDays_29 (by decide) ?_
      refine lv_goto (tgt := 34) hx hb dX13_advanceDays_30 (by decide) ?_
      obtain ⟨ρ9, e_l, hf⟩ := fl hf
      refine pF_X13_77 e20 hN cx hp dX13_advanceDays_34 (fun u H locs e_u n_u hp => ?_)
      have e20 := e_u.trans e_l
      have fr : ∀ q, q ≠ 20 → u q = σ q := fun q h0 => (n_u q h0).trans (fr q h0)
      refine lv_aload_n hx hb dX13_advanceDays_37 rfl (lv_at hl 0 rfl) ?_
      refine gF_X13_77 e20 hN cx hp dX13_advanceDays_38 ?_
      refine lv_if_le (tgt := 46) hx hb dX13_advanceDays_41 (by decide) (fun c10 => ?_) (fun c10 => ?_)
      · have hf := fp hf c10
        refine lv_aload_n hx hb dX13_advanceDays_46 rfl (lv_at hl 0 rfl) ?_
        obtain ⟨ρ11, hc, hf⟩ := fb hf
        refine x_v hp (y_V (As := []) (rest := []) cx hp hl (c_X13_remembers l hN hT e20 hc) (cw_X13_333 cx (mc := 0) (ms := 0) rfl rfl ⟨by decide, by decide⟩) (rC_X13 hN cx hp) rfl rfl (Nat.le_of_ble_eq_true rfl) dX13_advanceDays_47 ⟨Nat.zero_le _, Nat.zero_le _⟩) (fun u_c H locs hq hp => ?_)
        obtain ⟨e_0, n_u⟩ := hq
        have e20 := e_0
        have fr : ∀ q, q ≠ 20 → u_c q = σ q := fun q h0 => (n_u q h0).trans (fr q h0)
        obtain ⟨u, rfl⟩ : ∃ z, u_c = z := ⟨_, rfl⟩
        refine lv_aload_n hx hb dX13_advanceDays_50 rfl (lv_at hl 0 rfl) ?_
        refine lv_iload_n hx hb dX13_advanceDays_51 rfl (lv_at hl 1 rfl) ?_
        obtain ⟨r12, ρ13, hc, hf⟩ := fb2 hf
        refine x_i hp (y_V (As := [.int p1]) (rest := []) cx hp hl (c_X13_passes l hN hT e20 hc) (cw_X13_316 cx (mc := 0) (ms := 0) rfl rfl ⟨by decide, by decide⟩) (rC_X13 hN cx hp) rfl rfl (Nat.le_of_ble_eq_true rfl) dX13_advanceDays_52 ⟨Nat.zero_le _, Nat.zero_le _⟩) (fun r_c u_c H locs hq hp => ?_)
        obtain ⟨rfl, e_0, n_u⟩ := hq
        have e20 := e_0
        have fr : ∀ q, q ≠ 20 → u_c q = σ q := fun q h0 => (n_u q h0).trans (fr q h0)
        obtain ⟨u, rfl⟩ : ∃ z, u_c = z := ⟨_, rfl⟩
        cases hf
        exact r_i cx hp ⟨rfl, e20, fr⟩ dX13_advanceDays_55
      · have hf := fn hf c10
        refine lv_iconst (v := 0) hx hb dX13_advanceDays_44 (by decide) ?_
        cases hf
        exact r_i cx hp ⟨rfl, e20, fr⟩ dX13_advanceDays_45
  · have hf := fp hf c2
    refine lv_iconst (v := 1) hx hb dX13_advanceDays_11 (by decide) ?_
    refine lv_goto (tgt := 34) hx hb dX13_advanceDays_12 (by decide) ?_
    obtain ⟨ρ14, e_l, hf⟩ := fl hf
    refine pF_X13_77 e20 hN cx hp dX13_advanceDays_34 (fun u H locs e_u n_u hp => ?_)
    have e20 := e_u.trans e_l
    have fr : ∀ q, q ≠ 20 → u q = σ q := fun q h0 => (n_u q h0).trans (fr q h0)
    refine lv_aload_n hx hb dX13_advanceDays_37 rfl (lv_at hl 0 rfl) ?_
    refine gF_X13_77 e20 hN cx hp dX13_advanceDays_38 ?_
    refine lv_if_le (tgt := 46) hx hb dX13_advanceDays_41 (by decide) (fun c15 => ?_) (fun c15 => ?_)
    · have hf := fp hf c15
      refine lv_aload_n hx hb dX13_advanceDays_46 rfl (lv_at hl 0 rfl) ?_
      obtain ⟨ρ16, hc, hf⟩ := fb hf
      refine x_v hp (y_V (As := []) (rest := []) cx hp hl (c_X13_remembers l hN hT e20 hc) (cw_X13_333 cx (mc := 0) (ms := 0) rfl rfl ⟨by decide, by decide⟩) (rC_X13 hN cx hp) rfl rfl (Nat.le_of_ble_eq_true rfl) dX13_advanceDays_47 ⟨Nat.zero_le _, Nat.zero_le _⟩) (fun u_c H locs hq hp => ?_)
      obtain ⟨e_0, n_u⟩ := hq
      have e20 := e_0
      have fr : ∀ q, q ≠ 20 → u_c q = σ q := fun q h0 => (n_u q h0).trans (fr q h0)
      obtain ⟨u, rfl⟩ : ∃ z, u_c = z := ⟨_, rfl⟩
      refine lv_aload_n hx hb dX13_advanceDays_50 rfl (lv_at hl 0 rfl) ?_
      refine lv_iload_n hx hb dX13_advanceDays_51 rfl (lv_at hl 1 rfl) ?_
      obtain ⟨r17, ρ18, hc, hf⟩ := fb2 hf
      refine x_i hp (y_V (As := [.int p1]) (rest := []) cx hp hl (c_X13_passes l hN hT e20 hc) (cw_X13_316 cx (mc := 0) (ms := 0) rfl rfl ⟨by decide, by decide⟩) (rC_X13 hN cx hp) rfl rfl (Nat.le_of_ble_eq_true rfl) dX13_advanceDays_52 ⟨Nat.zero_le _, Nat.zero_le _⟩) (fun r_c u_c H locs hq hp => ?_)
      obtain ⟨rfl, e_0, n_u⟩ := hq
      have e20 := e_0
      have fr : ∀ q, q ≠ 20 → u_c q = σ q := fun q h0 => (n_u q h0).trans (fr q h0)
      obtain ⟨u, rfl⟩ : ∃ z, u_c = z := ⟨_, rfl⟩
      cases hf
      exact r_i cx hp ⟨rfl, e20, fr⟩ dX13_advanceDays_55
    · have hf := fn hf c15
      refine lv_iconst (v := 0) hx hb dX13_advanceDays_44 (by decide) ?_
      cases hf
      exact r_i cx hp ⟨rfl, e20, fr⟩ dX13_advanceDays_45
abbrev rm_X13_write : Room := { frames := 0, cells := 0, slots := 0, locals := 0 }
set_option maxRecDepth 100000 in
set_option maxHeartbeats 4000000 in
theorem c_X13_write (l : Launch) {E : Ev} (hN : 146 ≤ eN E) (hT : St E) {σ : SM} {ρ : OM} (e20 : σ 20 = ρ) {p1 : Int32} {ρ' : OM} (hf : f_X13_write p1 ρ = some ρ') : Met l yX13_write (wC yX13_write cX13_write 2 none) rm_X13_write (va_Pc [.ref (adr E 20 0), .int p1] (Wu E σ)) (va_Qv (fun u => u 20 = ρ' ∧ ∀ q, q ≠ 20 → u q = σ q) (fun u t => Wu E u t) (eA E)) 0 0 (eA E) := by
  refine g_entry (lv := [(0, .ref (adr E 20 0)), (1, .int p1)]) (by decide) (Nat.le_of_ble_eq_true rfl) rfl ?_
  intro p e s m below meth c cx hp ls hl
  have hx := cx.1.1
  have hb := cx.1.2.1
  have fr : ∀ q, q ≠ 20 → σ q = σ q := fun _ _ => rfl
  unfold f_X13_write at hf
  refine lv_aload_n hx hb dX13_write_0 rfl (lv_at hl 0 rfl) ?_
  refine gF_X13_29 rfl hN cx hp dX13_write_1 ?_
  refine lv_aload_n hx hb dX13_write_4 rfl (lv_at hl 0 rfl) ?_
  refine gF_X13_373 e20 hN cx hp dX13_write_5 ?_
  refine lv_iload_n hx hb dX13_write_8 rfl (lv_at hl 1 rfl) ?_
  obtain ⟨g_i, hf⟩ := fg hf
  obtain ⟨ρ1, e_l, hf⟩ := fl hf
  refine sA_X13_6 e20 hN cx hp g_i dX13_write_9 (fun u H locs e_u n_u hp => ?_)
  have e20 := e_u.trans e_l
  have fr : ∀ q, q ≠ 20 → u q = σ q := fun q h0 => (n_u q h0).trans (fr q h0)
  refine lv_aload_n hx hb dX13_write_10 rfl (lv_at hl 0 rfl) ?_
  refine lv_dup hx hb dX13_write_11 rfl ?_
  refine gF_X13_373 e20 hN cx hp dX13_write_12 ?_
  refine lv_iconst (v := 1) hx hb dX13_write_15 (by decide) ?_
  refine lv_iadd hx hb dX13_write_16 ?_
  obtain ⟨ρ2, e_l, hf⟩ := fl hf
  refine pF_X13_373 e20 hN cx hp dX13_write_17 (fun u H locs e_u n_u hp => ?_)
  have e20 := e_u.trans e_l
  have fr : ∀ q, q ≠ 20 → u q = σ q := fun q h0 => (n_u q h0).trans (fr q h0)
  cases hf
  exact r_v cx hp ⟨e20, fr⟩ dX13_write_20
abbrev rm_X13_writesName : Room := { frames := 2, cells := 0, slots := 0, locals := 45 }
set_option maxRecDepth 100000 in
set_option maxHeartbeats 4000000 in
theorem L_X13_writesName_2 {p : Program} {e : Env} {s : State} {m : MethodId} {args : Array Value} {below : List Frame} {meth : Method} {c : Code} (l : Launch) {E : Ev} (hN : 146 ≤ eN E) (hT : St E) {σ : SM} (cx : Cx E p s m meth c args RX13 cX13_writesName 3 none) {x1 : Int32} {ρ' : OM} : ∀ (n : Nat) {x2 : Int32} {ρ : OM}, f_X13_writesName_2 x1 n x2 ρ = some ρ' → ∀ {u : SM} {H : Heap} {locs : List Loc} {ls : Array Slot}, u 20 = ρ → (∀ q, q ≠ 20 → u q = σ q) → Hp E u s H locs → lv_has ls 3 [(0, .ref (adr E 20 0)), (1, .int x1), (2, .int x2)] → W p l e rm_X13_writesName s m args below meth c H locs 0 0 (MQ below (va_Qv (fun u => u 20 = ρ' ∧ ∀ q, q ≠ 20 → u q = σ q) (fun u t => Wu E u t) (eA E)) args s 0 0 (eA E)) (F0 m 2 ls []) := by
  have hx := cx.1.1
  have hb := cx.1.2.1
  intro n
  induction n with
  | zero =>
    intro x2 ρ hf
    exact absurd hf (by simp [f_X13_writesName_2])
  | succ n ih =>
    intro x2 ρ hf u H locs ls e20 fr hp hl
    rw [f_X13_writesName_2] at hf
    refine lv_iload_n hx hb dX13_writesName_2 rfl (lv_at hl 2 rfl) ?_
    refine lv_iload_n hx hb dX13_writesName_3 rfl (lv_at hl 1 rfl) ?_
    obtain ⟨r1, hc, hf⟩ := fb hf
    refine x_i hp (y_S (As := [.int x1]) (rest := [.int x2]) cx hp hl (c_X13_letters l hN hT  hc) (cw_X13_345 cx (mc := 0) (ms := 0) rfl rfl ⟨by decide, by decide⟩) rfl rfl (Nat.le_of_ble_eq_true rfl) dX13_writesName_4 ⟨Nat.zero_le _, Nat.zero_le _⟩) (fun r_c u_c H locs hq hp => ?_)
    obtain ⟨rfl, rfl⟩ := hq
    refine lv_icmp_ge (tgt := 25) hx hb dX13_writesName_7 (by decide) (fun c2 => ?_) (fun c2 => ?_)
    · have hf := fp hf c2
      cases hf
      exact r_v cx hp ⟨e20, fr⟩ dX13_writesName_25
    · have hf := fn hf c2
      refine lv_aload_n hx hb dX13_writesName_10 rfl (lv_at hl 0 rfl) ?_
      refine lv_iload_n hx hb dX13_writesName_11 rfl (lv_at hl 1 rfl) ?_
      refine lv_iload_n hx hb dX13_writesName_12 rfl (lv_at hl 2 rfl) ?_
      obtain ⟨r3, hc, hf⟩ := fb hf
      refine x_i hp (y_S (As := [.int x1, .int x2]) (rest := [.ref (adr E 20 0)]) cx hp hl (c_X13_letterOf l hN hT  hc) (cw_X13_348 cx (mc := 0) (ms := 0) rfl rfl ⟨by decide, by decide⟩) rfl rfl (Nat.le_of_ble_eq_true rfl) dX13_writesName_13 ⟨Nat.zero_le _, Nat.zero_le _⟩) (fun r_c u_c H locs hq hp => ?_)
      obtain ⟨rfl, rfl⟩ := hq
      obtain ⟨ρ4, hc, hf⟩ := fb hf
      refine x_v hp (y_V (As := [.int r3]) (rest := []) cx hp hl (c_X13_write l hN hT e20 hc) (cw_X13_376 cx (mc := 0) (ms := 0) rfl rfl ⟨by decide, by decide⟩) (rC_X13 hN cx hp) rfl rfl (Nat.le_of_ble_eq_true rfl) dX13_writesName_16 ⟨Nat.zero_le _, Nat.zero_le _⟩) (fun u_c H locs hq hp => ?_)
      obtain ⟨e_0, n_u⟩ := hq
      have e20 := e_0
      have fr : ∀ q, q ≠ 20 → u_c q = σ q := fun q h0 => (n_u q h0).trans (fr q h0)
      obtain ⟨u, rfl⟩ : ∃ z, u_c = z := ⟨_, rfl⟩
      refine lv_iinc (v := (x2 + 1)) (lv' := [(2, .int (x2 + 1)), (0, .ref (adr E 20 0)), (1, .int x1)]) hx hb dX13_writesName_19 hl (k := 2) rfl rfl (by decide) rfl (fun ls hl => ?_)
      refine lv_goto (tgt := 2) hx hb dX13_writesName_22 (by decide) ?_
      exact ih  hf e20 fr hp (lv_sub hl [1, 2, 0] rfl)
set_option maxRecDepth 100000 in
set_option maxHeartbeats 4000000 in
theorem c_X13_writesName (l : Launch) {E : Ev} (hN : 146 ≤ eN E) (hT : St E) {σ : SM} {ρ : OM} (e20 : σ 20 = ρ) {p1 : Int32} {ρ' : OM} (hf : f_X13_writesName p1 ρ = some ρ') : Met l yX13_writesName (wC yX13_writesName cX13_writesName 3 none) rm_X13_writesName (va_Pc [.ref (adr E 20 0), .int p1] (Wu E σ)) (va_Qv (fun u => u 20 = ρ' ∧ ∀ q, q ≠ 20 → u q = σ q) (fun u t => Wu E u t) (eA E)) 0 0 (eA E) := by
  refine g_entry (lv := [(0, .ref (adr E 20 0)), (1, .int p1)]) (by decide) (Nat.le_of_ble_eq_true rfl) rfl ?_
  intro p e s m below meth c cx hp ls hl
  have hx := cx.1.1
  have hb := cx.1.2.1
  have fr : ∀ q, q ≠ 20 → σ q = σ q := fun _ _ => rfl
  unfold f_X13_writesName at hf
  refine lv_iconst (v := 0) hx hb dX13_writesName_0 (by decide) ?_
  refine lv_istore_n (lv' := [(2, .int 0), (0, .ref (adr E 20 0)), (1, .int p1)]) hx hb dX13_writesName_1 rfl hl (by decide) rfl (fun ls hl => ?_)
  exact L_X13_writesName_2 l hN hT cx  _ hf e20 fr hp (lv_sub hl [1, 2, 0] rfl)

abbrev rm_X13_pass : Room := { frames := 0, cells := 0, slots := 0, locals := 0 }
set_option maxRecDepth 100000 in
set_option maxHeartbeats 4000000 in
theorem L_X13_pass_14 {p : Program} {e : Env} {s : State} {m : MethodId} {args : Array Value} {below : List Frame} {meth : Method} {c : Code} (l : Launch) {E : Ev} (hN : 151 ≤ eN E) (hT : St E) {σ : SM} (cx : Cx E p s m meth c args RX13 cX13_pass 3 (some .int)) {rv : Int32} {ρ' : OM} : ∀ (n : Nat) {x2 : Int32} {x1 : Int32} {ρ : OM}, f_X13_pass_14  n x2 x1 ρ = some (rv, ρ') → ∀ {u : SM} {H : Heap} {locs : List Loc} {ls : Array Slot}, u 20 = ρ → (∀ q, q ≠ 20 → u q = σ q) → Hp E u s H locs → lv_has ls 3 [(0, .ref (adr E 20 0)), (1, .int x1), (2, .int x2)] → W p l e rm_X13_pass s m args below meth c H locs 0 0 (MQ below (va_Qi (fun r u => rv = r ∧ u 20 = ρ' ∧ ∀ q, q ≠ 20 → u q = σ q) (fun u t => Wu E u t) (eA E)) args s 0 0 (eA E)) (F0 m 14 ls []) := by
  have hx := cx.1.1
  have hb := cx.1.2.1
  intro n
  induction n with
  | zero =>
    intro x2 x1 ρ hf
    exact absurd hf (by simp [f_X13_pass_14])
  | succ n ih =>
    intro x2 x1 ρ hf u H locs ls e20 fr hp hl
    rw [f_X13_pass_14] at hf
    refine lv_iload_n hx hb dX13_pass_14 rfl (lv_at hl 2 rfl) ?_
    refine lv_aload_n hx hb dX13_pass_15 rfl (lv_at hl 0 rfl) ?_
    refine gF_X13_98 e20 hN cx hp dX13_pass_16 ?_
    refine lv_icmp_ge (tgt := 109) hx hb dX13_pass_19 (by decide) (fun c2 => ?_) (fun c2 => ?_)
    · have hf := fp hf c2
      refine lv_iload_n hx hb dX13_pass_109 rfl (lv_at hl 1 rfl) ?_
      cases hf
      exact r_i cx hp ⟨rfl, e20, fr⟩ dX13_pass_110
    · have hf := fn hf c2
      refine lv_aload_n hx hb dX13_pass_22 rfl (lv_at hl 0 rfl) ?_
      refine gF_X13_19 rfl hN cx hp dX13_pass_23 ?_
      refine lv_iload_n hx hb dX13_pass_26 rfl (lv_at hl 2 rfl) ?_
      refine lv_dup2_11 hx hb dX13_pass_27 rfl rfl ?_
      obtain ⟨g_i, hf⟩ := fg hf
      refine lA_X13_3 e20 hN cx hp g_i dX13_pass_28 ?_
      refine lv_aload_n hx hb dX13_pass_29 rfl (lv_at hl 0 rfl) ?_
      refine gF_X13_22 rfl hN cx hp dX13_pass_30 ?_
      refine lv_iload_n hx hb dX13_pass_33 rfl (lv_at hl 2 rfl) ?_
      obtain ⟨g_i, hf⟩ := fg hf
      refine lA_X13_4 e20 hN cx hp g_i dX13_pass_34 ?_
      refine lv_iadd hx hb dX13_pass_35 ?_
      obtain ⟨g_i, hf⟩ := fg hf
      obtain ⟨ρ3, e_l, hf⟩ := fl hf
      refine sA_X13_3 e20 hN cx hp g_i dX13_pass_36 (fun u H locs e_u n_u hp => ?_)
      have e20 := e_u.trans e_l
      have fr : ∀ q, q ≠ 20 → u q = σ q := fun q h0 => (n_u q h0).trans (fr q h0)
      refine lv_aload_n hx hb dX13_pass_37 rfl (lv_at hl 0 rfl) ?_
      refine gF_X13_25 rfl hN cx hp dX13_pass_38 ?_
      refine lv_iload_n hx hb dX13_pass_41 rfl (lv_at hl 2 rfl) ?_
      obtain ⟨g_i, hf⟩ := fg hf
      refine lA_X13_5 e20 hN cx hp g_i dX13_pass_42 ?_
      refine lv_iconst (v := (-1)) hx hb dX13_pass_43 (by decide) ?_
      refine lv_icmp_ne (tgt := 50) hx hb dX13_pass_44 (by decide) (fun c4 => ?_) (fun c4 => ?_)
      · have hf := fn hf c4
        refine lv_aload_n hx hb dX13_pass_50 rfl (lv_at hl 0 rfl) ?_
        refine gF_X13_19 rfl hN cx hp dX13_pass_51 ?_
        refine lv_iload_n hx hb dX13_pass_54 rfl (lv_at hl 2 rfl) ?_
        obtain ⟨g_i, hf⟩ := fg hf
        refine lA_X13_3 e20 hN cx hp g_i dX13_pass_55 ?_
        refine lv_aload_n hx hb dX13_pass_56 rfl (lv_at hl 0 rfl) ?_
        refine gF_X13_15 rfl hN cx hp dX13_pass_57 ?_
        refine lv_aload_n hx hb dX13_pass_60 rfl (lv_at hl 0 rfl) ?_
        refine gF_X13_25 rfl hN cx hp dX13_pass_61 ?_
        refine lv_iload_n hx hb dX13_pass_64 rfl (lv_at hl 2 rfl) ?_
        obtain ⟨g_i, hf⟩ := fg hf
        refine lA_X13_5 e20 hN cx hp g_i dX13_pass_65 ?_
        obtain ⟨g_i, hf⟩ := fg hf
        refine lA_X13_2 e20 hN cx hp g_i dX13_pass_66 ?_
        refine lv_icmp_ge (tgt := 83) hx hb dX13_pass_67 (by decide) (fun c5 => ?_) (fun c5 => ?_)
        · have hf := fp hf c5
          refine lv_aload_n hx hb dX13_pass_83 rfl (lv_at hl 0 rfl) ?_
          refine gF_X13_19 rfl hN cx hp dX13_pass_84 ?_
          refine lv_iload_n hx hb dX13_pass_87 rfl (lv_at hl 2 rfl) ?_
          refine lv_dup2_11 hx hb dX13_pass_88 rfl rfl ?_
          obtain ⟨g_i, hf⟩ := fg hf
          refine lA_X13_3 e20 hN cx hp g_i dX13_pass_89 ?_
          refine lv_aload_n hx hb dX13_pass_90 rfl (lv_at hl 0 rfl) ?_
          refine gF_X13_15 rfl hN cx hp dX13_pass_91 ?_
          refine lv_aload_n hx hb dX13_pass_94 rfl (lv_at hl 0 rfl) ?_
          refine gF_X13_25 rfl hN cx hp dX13_pass_95 ?_
          refine lv_iload_n hx hb dX13_pass_98 rfl (lv_at hl 2 rfl) ?_
          obtain ⟨g_i, hf⟩ := fg hf
          refine lA_X13_5 e20 hN cx hp g_i dX13_pass_99 ?_
          obtain ⟨g_i, hf⟩ := fg hf
          refine lA_X13_2 e20 hN cx hp g_i dX13_pass_100 ?_
          refine lv_isub hx hb dX13_pass_101 ?_
          obtain ⟨g_i, hf⟩ := fg hf
          obtain ⟨ρ6, e_l, hf⟩ := fl hf
          refine sA_X13_3 e20 hN cx hp g_i dX13_pass_102 (fun u H locs e_u n_u hp => ?_)
          have e20 := e_u.trans e_l
          have fr : ∀ q, q ≠ 20 → u q = σ q := fun q h0 => (n_u q h0).trans (fr q h0)
          refine lv_iinc (v := (x2 + 1)) (lv' := [(2, .int (x2 + 1)), (0, .ref (adr E 20 0)), (1, .int x1)]) hx hb dX13_pass_103 hl (k := 2) rfl rfl (by decide) rfl (fun ls hl => ?_)
          refine lv_goto (tgt := 14) hx hb dX13_pass_106 (by decide) ?_
          exact ih  hf e20 fr hp (lv_sub hl [1, 2, 0] rfl)
        · have hf := fn hf c5
          refine lv_aload_n hx hb dX13_pass_70 rfl (lv_at hl 0 rfl) ?_
          refine gF_X13_25 rfl hN cx hp dX13_pass_71 ?_
          refine lv_iload_n hx hb dX13_pass_74 rfl (lv_at hl 2 rfl) ?_
          refine lv_iconst (v := (-1)) hx hb dX13_pass_75 (by decide) ?_
          obtain ⟨g_i, hf⟩ := fg hf
          obtain ⟨ρ7, e_l, hf⟩ := fl hf
          refine sA_X13_5 e20 hN cx hp g_i dX13_pass_76 (fun u H locs e_u n_u hp => ?_)
          have e20 := e_u.trans e_l
          have fr : ∀ q, q ≠ 20 → u q = σ q := fun q h0 => (n_u q h0).trans (fr q h0)
          refine lv_iinc (v := (x1 + 1)) (lv' := [(1, .int (x1 + 1)), (0, .ref (adr E 20 0)), (2, .int x2)]) hx hb dX13_pass_77 hl (k := 1) rfl rfl (by decide) rfl (fun ls hl => ?_)
          refine lv_goto (tgt := 103) hx hb dX13_pass_80 (by decide) ?_
          refine lv_iinc (v := (x2 + 1)) (lv' := [(2, .int (x2 + 1)), (1, .int (x1 + 1)), (0, .ref (adr E 20 0))]) hx hb dX13_pass_103 hl (k := 2) rfl rfl (by decide) rfl (fun ls hl => ?_)
          refine lv_goto (tgt := 14) hx hb dX13_pass_106 (by decide) ?_
          exact ih  hf e20 fr hp (lv_sub hl [2, 1, 0] rfl)
      · have hf := fp hf c4
        refine lv_goto (tgt := 103) hx hb dX13_pass_47 (by decide) ?_
        refine lv_iinc (v := (x2 + 1)) (lv' := [(2, .int (x2 + 1)), (0, .ref (adr E 20 0)), (1, .int x1)]) hx hb dX13_pass_103 hl (k := 2) rfl rfl (by decide) rfl (fun ls hl => ?_)
        refine lv_goto (tgt := 14) hx hb dX13_pass_106 (by decide) ?_
        exact ih  hf e20 fr hp (lv_sub hl [1, 2, 0] rfl)
set_option maxRecDepth 100000 in
set_option maxHeartbeats 4000000 in
theorem c_X13_pass (l : Launch) {E : Ev} (hN : 151 ≤ eN E) (hT : St E) {σ : SM} {ρ : OM} (e20 : σ 20 = ρ)  {rv : Int32} {ρ' : OM} (hf : f_X13_pass ρ = some (rv, ρ')) : Met l yX13_pass (wC yX13_pass cX13_pass 3 (some .int)) rm_X13_pass (va_Pc [.ref (adr E 20 0)] (Wu E σ)) (va_Qi (fun r u => rv = r ∧ u 20 = ρ' ∧ ∀ q, q ≠ 20 → u q = σ q) (fun u t => Wu E u t) (eA E)) 0 0 (eA E) := by
  refine g_entry (lv := [(0, .ref (adr E 20 0))]) (by decide) (Nat.le_of_ble_eq_true rfl) rfl ?_
  intro p e s m below meth c cx hp ls hl
  have hx := cx.1.1
  have hb := cx.1.2.1
  have fr : ∀ q, q ≠ 20 → σ q = σ q := fun _ _ => rfl
  unfold f_X13_pass at hf
  refine lv_iconst (v := 0) hx hb dX13_pass_0 (by decide) ?_
  refine lv_istore_n (lv' := [(1, .int 0), (0, .ref (adr E 20 0))]) hx hb dX13_pass_1 rfl hl (by decide) rfl (fun ls hl => ?_)
  refine lv_aload_n hx hb dX13_pass_2 rfl (lv_at hl 1 rfl) ?_
  refine lv_dup hx hb dX13_pass_3 rfl ?_
  refine gF_X13_89 e20 hN cx hp dX13_pass_4 ?_
  refine lv_iconst (v := 1) hx hb dX13_pass_7 (by decide) ?_
  refine lv_iadd hx hb dX13_pass_8 ?_
  obtain ⟨ρ1, e_l, hf⟩ := fl hf
  refine pF_X13_89 e20 hN cx hp dX13_pass_9 (fun u H locs e_u n_u hp => ?_)
  have e20 := e_u.trans e_l
  have fr : ∀ q, q ≠ 20 → u q = σ q := fun q h0 => (n_u q h0).trans (fr q h0)
  refine lv_iconst (v := 0) hx hb dX13_pass_12 (by decide) ?_
  refine lv_istore_n (lv' := [(2, .int 0), (1, .int 0), (0, .ref (adr E 20 0))]) hx hb dX13_pass_13 rfl hl (by decide) rfl (fun ls hl => ?_)
  exact L_X13_pass_14 l hN hT cx  _ hf e20 fr hp (lv_sub hl [2, 1, 0] rfl)
abbrev rm_X13_rankAll : Room := { frames := 0, cells := 0, slots := 0, locals := 0 }
set_option maxRecDepth 100000 in
set_option maxHeartbeats 4000000 in
theorem L_X13_rankAll_2 {p : Program} {e : Env} {s : State} {m : MethodId} {args : Array Value} {below : List Frame} {meth : Method} {c : Code} (l : Launch) {E : Ev} (hN : 151 ≤ eN E) (hT : St E) {σ : SM} (cx : Cx E p s m meth c args RX13 cX13_rankAll 4 (some .int)) {x1 : Int32} {x2 : Int32} {ρ : OM} {rv : Int32} : ∀ (n : Nat) {x3 : Int32}, f_X13_rankAll_2 x1 x2 ρ n x3 = some rv → ∀ {u : SM} {H : Heap} {locs : List Loc} {ls : Array Slot}, u 20 = ρ → (∀ q, u q = σ q) → Hp E u s H locs → lv_has ls 4 [(0, .ref (adr E 20 0)), (1, .int x1), (2, .int x2), (3, .int x3)] → W p l e rm_X13_rankAll s m args below meth c H locs 0 0 (MQ below (va_Qi (fun r u => rv = r ∧ σ = u) (fun u t => Wu E u t) (eA E)) args s 0 0 (eA E)) (F0 m 2 ls []) := by
  have hx := cx.1.1
  have hb := cx.1.2.1
  intro n
  induction n with
  | zero =>
    intro x3 hf
    exact absurd hf (by simp [f_X13_rankAll_2])
  | succ n ih =>
    intro x3 hf u H locs ls e20 fr hp hl
    rw [f_X13_rankAll_2] at hf
    refine lv_iload_n hx hb dX13_rankAll_2 rfl (lv_at hl 3 rfl) ?_
    refine lv_aload_n hx hb dX13_rankAll_3 rfl (lv_at hl 0 rfl) ?_
    refine gF_X13_28 rfl hN cx hp dX13_rankAll_4 ?_
    refine lv_iload_n hx hb dX13_rankAll_7 rfl (lv_at hl 1 rfl) ?_
    obtain ⟨g_i, hf⟩ := fg hf
    refine lA_X13_6 e20 hN cx hp g_i dX13_rankAll_8 ?_
    refine lv_icmp_gt (tgt := 32) hx hb dX13_rankAll_9 (by decide) (fun c1 => ?_) (fun c1 => ?_)
    · have hf := fp hf c1
      refine lv_aload_n hx hb dX13_rankAll_32 rfl (lv_at hl 0 rfl) ?_
      refine gF_X13_28 rfl hN cx hp dX13_rankAll_33 ?_
      refine lv_iload_n hx hb dX13_rankAll_36 rfl (lv_at hl 1 rfl) ?_
      obtain ⟨g_i, hf⟩ := fg hf
      refine lA_X13_6 e20 hN cx hp g_i dX13_rankAll_37 ?_
      cases hf
      exact r_i cx hp ⟨rfl, (funext fr).symm⟩ dX13_rankAll_38
    · have hf := fn hf c1
      refine lv_aload_n hx hb dX13_rankAll_12 rfl (lv_at hl 0 rfl) ?_
      refine gF_X13_45 rfl hN cx hp dX13_rankAll_13 ?_
      refine lv_iload_n hx hb dX13_rankAll_16 rfl (lv_at hl 1 rfl) ?_
      obtain ⟨g_r2, hf⟩ := fg hf
      refine lA_X13_11 hN cx hp g_r2 dX13_rankAll_17 ?_
      refine lv_iload_n hx hb dX13_rankAll_18 rfl (lv_at hl 3 rfl) ?_
      obtain ⟨g_i, hf⟩ := fg hf
      refine lA_X13_r (inb_lt g_r2) e20 hN cx hp g_i dX13_rankAll_19 ?_
      refine lv_iload_n hx hb dX13_rankAll_20 rfl (lv_at hl 2 rfl) ?_
      refine lv_icmp_ne (tgt := 26) hx hb dX13_rankAll_21 (by decide) (fun c3 => ?_) (fun c3 => ?_)
      · have hf := fn hf c3
        refine lv_iinc (v := (x3 + 1)) (lv' := [(3, .int (x3 + 1)), (0, .ref (adr E 20 0)), (1, .int x1), (2, .int x2)]) hx hb dX13_rankAll_26 hl (k := 3) rfl rfl (by decide) rfl (fun ls hl => ?_)
        refine lv_goto (tgt := 2) hx hb dX13_rankAll_29 (by decide) ?_
        exact ih  hf e20 fr hp (lv_sub hl [1, 2, 3, 0] rfl)
      · have hf := fp hf c3
        refine lv_iload_n hx hb dX13_rankAll_24 rfl (lv_at hl 3 rfl) ?_
        cases hf
        exact r_i cx hp ⟨rfl, (funext fr).symm⟩ dX13_rankAll_25
set_option maxRecDepth 100000 in
set_option maxHeartbeats 4000000 in
theorem c_X13_rankAll (l : Launch) {E : Ev} (hN : 151 ≤ eN E) (hT : St E) {σ : SM} {ρ : OM} (e20 : σ 20 = ρ) {p1 : Int32} {p2 : Int32} {rv : Int32} (hf : f_X13_rankAll p1 p2 ρ = some rv) : Met l yX13_rankAll (wC yX13_rankAll cX13_rankAll 4 (some .int)) rm_X13_rankAll (va_Pc [.ref (adr E 20 0), .int p1, .int p2] (Wu E σ)) (va_Qi (fun r u => rv = r ∧ σ = u) (fun u t => Wu E u t) (eA E)) 0 0 (eA E) := by
  refine g_entry (lv := [(0, .ref (adr E 20 0)), (1, .int p1), (2, .int p2)]) (by decide) (Nat.le_of_ble_eq_true rfl) rfl ?_
  intro p e s m below meth c cx hp ls hl
  have hx := cx.1.1
  have hb := cx.1.2.1
  have fr : ∀ q, σ q = σ q := fun _ => rfl
  unfold f_X13_rankAll at hf
  refine lv_iconst (v := 0) hx hb dX13_rankAll_0 (by decide) ?_
  refine lv_istore_n (lv' := [(3, .int 0), (0, .ref (adr E 20 0)), (1, .int p1), (2, .int p2)]) hx hb dX13_rankAll_1 rfl hl (by decide) rfl (fun ls hl => ?_)
  exact L_X13_rankAll_2 l hN hT cx  _ hf e20 fr hp (lv_sub hl [1, 2, 3, 0] rfl)
abbrev rm_X13_act : Room := { frames := 6, cells := 0, slots := 0, locals := 136 }
set_option maxRecDepth 100000 in
set_option maxHeartbeats 4000000 in
theorem L_X13_act_520 {p : Program} {e : Env} {s : State} {m : MethodId} {args : Array Value} {below : List Frame} {meth : Method} {c : Code} (l : Launch) {E : Ev} (hN : 151 ≤ eN E) (hT : St E) {Q : State → Prop} (cx : Cx E p s m meth c args RX13 cX13_act 10 (some .boolean)) {x7 : Int32} {z8 : Int32} {σ' : SM} (K : ∀ (H : Heap) (locs : List Loc) (ls : Array Slot), Hp E σ' s H locs → lv_has ls 10 [(1, .ref (adr E 19 0)), (7, .int x7), (8, .int z8)] → W p l e rm_X13_act s m args below meth c H locs 0 0 Q (F0 m 542 ls [])) : ∀ (n : Nat) {x9 : Int32} {x8 : Int32} {σ : SM}, f_X13_act_520 x7 n x9 x8 σ = some (z8, σ') → ∀ {H : Heap} {locs : List Loc} {ls : Array Slot}, Hp E σ s H locs → lv_has ls 10 [(0, .ref (adr E 20 0)), (1, .ref (adr E 19 0)), (7, .int x7), (8, .int x8), (9, .int x9)] → W p l e rm_X13_act s m args below meth c H locs 0 0 Q (F0 m 520 ls []) := by
  have hx := cx.1.1
  have hb := cx.1.2.1
  intro n
  induction n with
  | zero =>
    intro x9 x8 σ hf
    exact absurd hf (by simp [f_X13_act_520])
  | succ n ih =>
    intro x9 x8 σ hf H locs ls hp hl
    rw [f_X13_act_520] at hf
    refine lv_iload hx hb dX13_act_520 (lv_at hl 4 rfl) ?_
    refine lv_iload hx hb dX13_act_522 (lv_at hl 2 rfl) ?_
    refine lv_icmp_ge (tgt := 542) hx hb dX13_act_524 (by decide) (fun c26 => ?_) (fun c26 => ?_)
    · have hf := fp hf c26
      cases hf
      exact K _ _ _  hp (lv_sub hl [1, 2, 3] rfl)
    · have hf := fn hf c26
      refine lv_iload hx hb dX13_act_527 (lv_at hl 3 rfl) ?_
      refine lv_aload_n hx hb dX13_act_529 rfl (lv_at hl 0 rfl) ?_
      obtain ⟨r27, m28, hc, hf⟩ := fb2 hf
      refine x_i hp (y_V (As := []) (rest := [.int x8]) cx hp hl (c_X13_pass l hN hT rfl hc) (cw_X13_224 cx (mc := 0) (ms := 0) rfl rfl ⟨by decide, by decide⟩) (rC_X13 hN cx hp) rfl rfl (Nat.le_of_ble_eq_true rfl) dX13_act_530 ⟨Nat.zero_le _, Nat.zero_le _⟩) (fun r_c u_c H locs hq hp => ?_)
      obtain ⟨rfl, e_0, n_u⟩ := hq
      obtain ⟨σ29, e_l, hf⟩ := fl hf
      obtain rfl := ((us_x e_0 n_u).trans e_l).symm
      refine lv_iadd hx hb dX13_act_533 ?_
      obtain ⟨i30, x_e, hf⟩ := fl hf
      refine lv_nm x_e ?_
      refine lv_istore (lv' := [(8, .int i30), (0, .ref (adr E 20 0)), (1, .ref (adr E 19 0)), (7, .int x7), (9, .int x9)]) hx hb dX13_act_534 hl (by decide) rfl (fun ls hl => ?_)
      refine lv_iinc (v := (x9 + 1)) (lv' := [(9, .int (x9 + 1)), (8, .int i30), (0, .ref (adr E 20 0)), (1, .ref (adr E 19 0)), (7, .int x7)]) hx hb dX13_act_536 hl (k := 4) rfl rfl (by decide) rfl (fun ls hl => ?_)
      refine lv_goto (tgt := 520) hx hb dX13_act_539 (by decide) ?_
      exact ih  hf hp (lv_sub hl [2, 3, 4, 1, 0] rfl)
set_option maxRecDepth 100000 in
set_option maxHeartbeats 4000000 in
theorem L_X13_act_411 {p : Program} {e : Env} {s : State} {m : MethodId} {args : Array Value} {below : List Frame} {meth : Method} {c : Code} (l : Launch) {E : Ev} (hN : 151 ≤ eN E) (hT : St E) {σ : SM} {Q : State → Prop} (cx : Cx E p s m meth c args RX13 cX13_act 10 (some .boolean)) {x3 : Int32} {x4 : Int32} {z7 : Int32} (K : ∀ (H : Heap) (locs : List Loc) (ls : Array Slot), Hp E σ s H locs → lv_has ls 10 [(0, .ref (adr E 20 0)), (1, .ref (adr E 19 0)), (3, .int x3), (4, .int x4), (7, .int z7)] → W p l e rm_X13_act s m args below meth c H locs 0 0 Q (F0 m 428 ls [])) : ∀ (n : Nat) {x7 : Int32}, f_X13_act_411 x3 σ n x7 = some z7 → ∀ {H : Heap} {locs : List Loc} {ls : Array Slot}, Hp E σ s H locs → lv_has ls 10 [(0, .ref (adr E 20 0)), (1, .ref (adr E 19 0)), (3, .int x3), (4, .int x4), (7, .int x7)] → W p l e rm_X13_act s m args below meth c H locs 0 0 Q (F0 m 411 ls []) := by
  have hx := cx.1.1
  have hb := cx.1.2.1
  intro n
  induction n with
  | zero =>
    intro x7 hf
    exact absurd hf (by simp [f_X13_act_411])
  | succ n ih =>
    intro x7 hf H locs ls hp hl
    rw [f_X13_act_411] at hf
    refine lv_aload_n hx hb dX13_act_411 rfl (lv_at hl 0 rfl) ?_
    refine gF_X13_31 rfl hN cx hp dX13_act_412 ?_
    refine lv_iload hx hb dX13_act_415 (lv_at hl 4 rfl) ?_
    obtain ⟨g_i, hf⟩ := fg hf
    refine lA_X13_7 rfl hN cx hp g_i dX13_act_417 ?_
    refine lv_iload_n hx hb dX13_act_418 rfl (lv_at hl 2 rfl) ?_
    refine lv_icmp_eq (tgt := 428) hx hb dX13_act_419 (by decide) (fun c44 => ?_) (fun c44 => ?_)
    · have hf := fp hf c44
      cases hf
      exact K _ _ _  hp (lv_sub hl [0, 1, 2, 3, 4] rfl)
    · have hf := fn hf c44
      refine lv_iinc (v := (x7 + 1)) (lv' := [(7, .int (x7 + 1)), (0, .ref (adr E 20 0)), (1, .ref (adr E 19 0)), (3, .int x3), (4, .int x4)]) hx hb dX13_act_422 hl (k := 4) rfl rfl (by decide) rfl (fun ls hl => ?_)
      refine lv_goto (tgt := 411) hx hb dX13_act_425 (by decide) ?_
      exact ih  hf hp (lv_sub hl [1, 2, 3, 4, 0] rfl)
set_option maxRecDepth 100000 in
set_option maxHeartbeats 4000000 in
theorem L_X13_act_402 {p : Program} {e : Env} {s : State} {m : MethodId} {args : Array Value} {below : List Frame} {meth : Method} {c : Code} (l : Launch) {E : Ev} (hN : 151 ≤ eN E) (hT : St E) (cx : Cx E p s m meth c args RX13 cX13_act 10 (some .boolean)) {x2 : Int32} {x3 : Int32} {x4 : Int32} {x5 : Int32} {rv : Int32} {σ' : SM} : ∀ (n : Nat) {σ : SM}, f_X13_act_402 x2 x3 x4 x5 n σ = some (rv, σ') → ∀ {H : Heap} {locs : List Loc} {ls : Array Slot}, Hp E σ s H locs → lv_has ls 10 [(0, .ref (adr E 20 0)), (1, .ref (adr E 19 0)), (2, .int x2), (3, .int x3), (4, .int x4), (5, .int x5)] → W p l e rm_X13_act s m args below meth c H locs 0 0 (MQ below (va_Qi (fun r u => rv = r ∧ σ' = u) (fun u t => Wu E u t) (eA E)) args s 0 0 (eA E)) (F0 m 402 ls []) := by
  have hx := cx.1.1
  have hb := cx.1.2.1
  intro n
  induction n with
  | zero =>
    intro σ hf
    exact absurd hf (by simp [f_X13_act_402])
  | succ n ih =>
    intro σ hf H locs ls hp hl
    rw [f_X13_act_402] at hf
    refine lv_iload_n hx hb dX13_act_402 rfl (lv_at hl 2 rfl) ?_
    refine lv_bipush (v := 7) hx hb dX13_act_403 (by decide) ?_
    refine lv_icmp_ne (tgt := 453) hx hb dX13_act_405 (by decide) (fun c20 => ?_) (fun c20 => ?_)
    · have hf := fn hf c20
      refine lv_iload_n hx hb dX13_act_453 rfl (lv_at hl 2 rfl) ?_
      refine lv_bipush (v := 8) hx hb dX13_act_454 (by decide) ?_
      refine lv_icmp_ne (tgt := 505) hx hb dX13_act_456 (by decide) (fun c21 => ?_) (fun c21 => ?_)
      · have hf := fn hf c21
        refine lv_iconst (v := 1) hx hb dX13_act_505 (by decide) ?_
        refine lv_aload_n hx hb dX13_act_506 rfl (lv_at hl 0 rfl) ?_
        refine lv_iconst (v := 3) hx hb dX13_act_507 (by decide) ?_
        obtain ⟨r22, m23, hc, hf⟩ := fb2 hf
        refine x_i hp (y_V (As := [.int 3]) (rest := [.int 1]) cx hp hl (c_X13_draw l hN hT rfl hc) (cw_X13_92 cx (mc := 0) (ms := 0) rfl rfl ⟨by decide, by decide⟩) (rC_X13 hN cx hp) rfl rfl (Nat.le_of_ble_eq_true rfl) dX13_act_508 ⟨Nat.zero_le _, Nat.zero_le _⟩) (fun r_c u_c H locs hq hp => ?_)
        obtain ⟨rfl, e_0, n_u⟩ := hq
        obtain ⟨σ24, e_l, hf⟩ := fl hf
        obtain rfl := ((us_x e_0 n_u).trans e_l).symm
        refine lv_iadd hx hb dX13_act_511 ?_
        obtain ⟨i25, x_e, hf⟩ := fl hf
        refine lv_nm x_e ?_
        refine lv_istore (lv' := [(7, .int i25), (0, .ref (adr E 20 0)), (1, .ref (adr E 19 0)), (2, .int x2), (3, .int x3), (4, .int x4), (5, .int x5)]) hx hb dX13_act_512 hl (by decide) rfl (fun ls hl => ?_)
        refine lv_iconst (v := 0) hx hb dX13_act_514 (by decide) ?_
        refine lv_istore (lv' := [(8, .int 0), (7, .int i25), (0, .ref (adr E 20 0)), (1, .ref (adr E 19 0)), (2, .int x2), (3, .int x3), (4, .int x4), (5, .int x5)]) hx hb dX13_act_515 hl (by decide) rfl (fun ls hl => ?_)
        refine lv_iconst (v := 0) hx hb dX13_act_517 (by decide) ?_
        refine lv_istore (lv' := [(9, .int 0), (8, .int 0), (7, .int i25), (0, .ref (adr E 20 0)), (1, .ref (adr E 19 0)), (2, .int x2), (3, .int x3), (4, .int x4), (5, .int x5)]) hx hb dX13_act_518 hl (by decide) rfl (fun ls hl => ?_)
        obtain ⟨i31, σ32, hc, hf⟩ := fb2 hf
        refine L_X13_act_520 l hN hT cx  (fun H locs ls hp hl => ?_) _ hc hp (lv_sub hl [3, 4, 2, 1, 0] rfl)
        refine lv_aload_n hx hb dX13_act_542 rfl (lv_at hl 0 rfl) ?_
        refine lv_iload hx hb dX13_act_543 (lv_at hl 1 rfl) ?_
        obtain ⟨r33, σ34, hc, hf⟩ := fb2 hf
        refine x_i hp (y_V (As := [.int i25]) (rest := []) cx hp hl (c_X12_advanceDays l (Nat.le_trans (by decide) hN) hT  hc) (cw_X13_227 cx (mc := 0) (ms := 0) rfl rfl ⟨by decide, by decide⟩) (rC_X12 (Nat.le_trans (by decide) hN) cx hp) rfl rfl (Nat.le_of_ble_eq_true rfl) dX13_act_545 ⟨Nat.zero_le _, Nat.zero_le _⟩) (fun r_c u_c H locs hq hp => ?_)
        obtain ⟨rfl, rfl⟩ := hq
        refine lv_iload hx hb dX13_act_548 (lv_at hl 2 rfl) ?_
        refine lv_icmp_ne (tgt := 557) hx hb dX13_act_550 (by decide) (fun c35 => ?_) (fun c35 => ?_)
        · have hf := fn hf c35
          cases hf
        · have hf := fp hf c35
          refine lv_iconst (v := 1) hx hb dX13_act_553 (by decide) ?_
          refine lv_goto (tgt := 558) hx hb dX13_act_554 (by decide) ?_
          cases hf
          exact r_z cx hp rfl ⟨rfl, rfl⟩ dX13_act_558
      · have hf := fp hf c21
        refine lv_aload_n hx hb dX13_act_459 rfl (lv_at hl 0 rfl) ?_
        refine gF_X13_15 rfl hN cx hp dX13_act_460 ?_
        refine lv_iload hx hb dX13_act_463 (lv_at hl 5 rfl) ?_
        obtain ⟨g_i, hf⟩ := fg hf
        refine lA_X13_2 rfl hN cx hp g_i dX13_act_465 ?_
        obtain ⟨i36, x_e, hf⟩ := fl hf
        refine lv_nm x_e ?_
        refine lv_istore (lv' := [(7, .int i36), (0, .ref (adr E 20 0)), (1, .ref (adr E 19 0)), (2, .int x2), (3, .int x3), (4, .int x4), (5, .int x5)]) hx hb dX13_act_466 hl (by decide) rfl (fun ls hl => ?_)
        refine lv_aload_n hx hb dX13_act_468 rfl (lv_at hl 1 rfl) ?_
        refine gF_X13_15 rfl hN cx hp dX13_act_469 ?_
        refine lv_iload hx hb dX13_act_472 (lv_at hl 6 rfl) ?_
        refine lv_aload_n hx hb dX13_act_474 rfl (lv_at hl 1 rfl) ?_
        refine lv_bipush (v := 100) hx hb dX13_act_475 (by decide) ?_
        obtain ⟨r37, m38, hc, hf⟩ := fb2 hf
        refine x_i hp (y_V (As := [.int 100]) (rest := [.int x5, .ref (adr E 20 2)]) cx hp hl (c_X13_draw l hN hT rfl hc) (cw_X13_92 cx (mc := 0) (ms := 0) rfl rfl ⟨by decide, by decide⟩) (rC_X13 hN cx hp) rfl rfl (Nat.le_of_ble_eq_true rfl) dX13_act_477 ⟨Nat.zero_le _, Nat.zero_le _⟩) (fun r_c u_c H locs hq hp => ?_)
        obtain ⟨rfl, e_0, n_u⟩ := hq
        obtain ⟨σ39, e_l, hf⟩ := fl hf
        obtain rfl := ((us_x e_0 n_u).trans e_l).symm
        obtain ⟨g_i, hf⟩ := fg hf
        obtain ⟨σ40, e_l, hf⟩ := fl hf
        refine sA_X13_2 rfl hN cx hp g_i dX13_act_480 (fun u H locs e_u n_u hp => ?_)
        obtain rfl := ((us_x e_u n_u).trans e_l).symm
        refine lv_aload_n hx hb dX13_act_481 rfl (lv_at hl 2 rfl) ?_
        refine lv_iload hx hb dX13_act_482 (lv_at hl 6 rfl) ?_
        refine lv_aload_n hx hb dX13_act_484 rfl (lv_at hl 1 rfl) ?_
        refine gF_X13_15 rfl hN cx hp dX13_act_485 ?_
        refine lv_iload hx hb dX13_act_488 (lv_at hl 6 rfl) ?_
        obtain ⟨g_i, hf⟩ := fg hf
        refine lA_X13_2 rfl hN cx hp g_i dX13_act_490 ?_
        obtain ⟨r41, σ42, hc, hf⟩ := fb2 hf
        refine x_i hp (y_V (As := [.int x5, .int ((σ40 20).1 2 (Int32.toNatClampNeg x5))]) (rest := []) cx hp hl (c_X12_setRent l (Nat.le_trans (by decide) hN) hT  hc) (cw_X13_221 cx (mc := 0) (ms := 0) rfl rfl ⟨by decide, by decide⟩) (rC_X12 (Nat.le_trans (by decide) hN) cx hp) rfl rfl (Nat.le_of_ble_eq_true rfl) dX13_act_491 ⟨Nat.zero_le _, Nat.zero_le _⟩) (fun r_c u_c H locs hq hp => ?_)
        obtain ⟨rfl, rfl⟩ := hq
        refine lv_iload hx hb dX13_act_494 (lv_at hl 0 rfl) ?_
        refine lv_icmp_ne (tgt := 503) hx hb dX13_act_496 (by decide) (fun c43 => ?_) (fun c43 => ?_)
        · have hf := fn hf c43
          cases hf
        · have hf := fp hf c43
          refine lv_iconst (v := 1) hx hb dX13_act_499 (by decide) ?_
          refine lv_goto (tgt := 504) hx hb dX13_act_500 (by decide) ?_
          cases hf
          exact r_z cx hp rfl ⟨rfl, rfl⟩ dX13_act_504
    · have hf := fp hf c20
      refine lv_iconst (v := 0) hx hb dX13_act_408 (by decide) ?_
      refine lv_istore (lv' := [(7, .int 0), (0, .ref (adr E 20 0)), (1, .ref (adr E 19 0)), (2, .int x2), (3, .int x3), (4, .int x4), (5, .int x5)]) hx hb dX13_act_409 hl (by decide) rfl (fun ls hl => ?_)
      obtain ⟨i45, hc, hf⟩ := fb hf
      refine L_X13_act_411 l hN hT cx  (fun H locs ls hp hl => ?_) _ hc hp (lv_sub hl [1, 2, 4, 5, 0] rfl)
      refine lv_aload_n hx hb dX13_act_428 rfl (lv_at hl 0 rfl) ?_
      refine lv_iload_n hx hb dX13_act_429 rfl (lv_at hl 2 rfl) ?_
      refine lv_iload hx hb dX13_act_430 (lv_at hl 3 rfl) ?_
      obtain ⟨m46, hc, hf⟩ := fb hf
      refine x_v hp (y_V (As := [.int x3, .int x4]) (rest := []) cx hp hl (c_X13_first l hN hT rfl hc) (cw_X13_215 cx (mc := 0) (ms := 0) rfl rfl ⟨by decide, by decide⟩) (rC_X13 hN cx hp) rfl rfl (Nat.le_of_ble_eq_true rfl) dX13_act_432 ⟨Nat.zero_le _, Nat.zero_le _⟩) (fun u_c H locs hq hp => ?_)
      obtain ⟨e_0, n_u⟩ := hq
      obtain ⟨σ47, e_l, hf⟩ := fl hf
      obtain rfl := ((us_x e_0 n_u).trans e_l).symm
      refine lv_aload_n hx hb dX13_act_435 rfl (lv_at hl 1 rfl) ?_
      refine lv_iload_n hx hb dX13_act_436 rfl (lv_at hl 2 rfl) ?_
      refine lv_iload hx hb dX13_act_437 (lv_at hl 3 rfl) ?_
      obtain ⟨r48, σ49, hc, hf⟩ := fb2 hf
      refine x_i hp (y_V (As := [.int x3, .int x4]) (rest := []) cx hp hl (c_X12_setPriority l (Nat.le_trans (by decide) hN) hT  hc) (cw_X13_218 cx (mc := 0) (ms := 0) rfl rfl ⟨by decide, by decide⟩) (rC_X12 (Nat.le_trans (by decide) hN) cx hp) rfl rfl (Nat.le_of_ble_eq_true rfl) dX13_act_439 ⟨Nat.zero_le _, Nat.zero_le _⟩) (fun r_c u_c H locs hq hp => ?_)
      obtain ⟨rfl, rfl⟩ := hq
      refine lv_iload hx hb dX13_act_442 (lv_at hl 4 rfl) ?_
      refine lv_icmp_ne (tgt := 451) hx hb dX13_act_444 (by decide) (fun c50 => ?_) (fun c50 => ?_)
      · have hf := fn hf c50
        cases hf
      · have hf := fp hf c50
        refine lv_iconst (v := 1) hx hb dX13_act_447 (by decide) ?_
        refine lv_goto (tgt := 452) hx hb dX13_act_448 (by decide) ?_
        cases hf
        exact r_z cx hp rfl ⟨rfl, rfl⟩ dX13_act_452
set_option maxRecDepth 100000 in
set_option maxHeartbeats 4000000 in
theorem L_X13_act_343 {p : Program} {e : Env} {s : State} {m : MethodId} {args : Array Value} {below : List Frame} {meth : Method} {c : Code} (l : Launch) {E : Ev} (hN : 151 ≤ eN E) (hT : St E) {Q : State → Prop} (cx : Cx E p s m meth c args RX13 cX13_act 10 (some .boolean)) {x3 : Int32} {x5 : Int32} {σ' : SM} (K : ∀ (H : Heap) (locs : List Loc) (ls : Array Slot), Hp E σ' s H locs → lv_has ls 10 [(0, .ref (adr E 20 0)), (1, .ref (adr E 19 0)), (3, .int x3), (5, .int x5)] → W p l e rm_X13_act s m args below meth c H locs 0 0 Q (F0 m 380 ls [])) : ∀ (n : Nat) {x7 : Int32} {σ : SM}, f_X13_act_343 x3 n x7 σ = some σ' → ∀ {H : Heap} {locs : List Loc} {ls : Array Slot}, Hp E σ s H locs → lv_has ls 10 [(0, .ref (adr E 20 0)), (1, .ref (adr E 19 0)), (3, .int x3), (5, .int x5), (7, .int x7)] → W p l e rm_X13_act s m args below meth c H locs 0 0 Q (F0 m 343 ls []) := by
  have hx := cx.1.1
  have hb := cx.1.2.1
  intro n
  induction n with
  | zero =>
    intro x7 σ hf
    exact absurd hf (by simp [f_X13_act_343])
  | succ n ih =>
    intro x7 σ hf H locs ls hp hl
    rw [f_X13_act_343] at hf
    refine lv_iload hx hb dX13_act_343 (lv_at hl 4 rfl) ?_
    refine lv_aload_n hx hb dX13_act_345 rfl (lv_at hl 0 rfl) ?_
    refine gF_X13_28 rfl hN cx hp dX13_act_346 ?_
    refine lv_iload_n hx hb dX13_act_349 rfl (lv_at hl 2 rfl) ?_
    obtain ⟨g_i, hf⟩ := fg hf
    refine lA_X13_6 rfl hN cx hp g_i dX13_act_350 ?_
    refine lv_icmp_ge (tgt := 380) hx hb dX13_act_351 (by decide) (fun c55 => ?_) (fun c55 => ?_)
    · have hf := fp hf c55
      cases hf
      exact K _ _ _  hp (lv_sub hl [0, 1, 2, 3] rfl)
    · have hf := fn hf c55
      refine lv_aload_n hx hb dX13_act_354 rfl (lv_at hl 0 rfl) ?_
      refine gF_X13_45 rfl hN cx hp dX13_act_355 ?_
      refine lv_iload_n hx hb dX13_act_358 rfl (lv_at hl 2 rfl) ?_
      obtain ⟨g_r56, hf⟩ := fg hf
      refine lA_X13_11 hN cx hp g_r56 dX13_act_359 ?_
      refine lv_iload hx hb dX13_act_360 (lv_at hl 4 rfl) ?_
      refine lv_aload_n hx hb dX13_act_362 rfl (lv_at hl 0 rfl) ?_
      refine gF_X13_45 rfl hN cx hp dX13_act_363 ?_
      refine lv_iload_n hx hb dX13_act_366 rfl (lv_at hl 2 rfl) ?_
      obtain ⟨g_r57, hf⟩ := fg hf
      refine lA_X13_11 hN cx hp g_r57 dX13_act_367 ?_
      refine lv_iload hx hb dX13_act_368 (lv_at hl 4 rfl) ?_
      refine lv_iconst (v := 1) hx hb dX13_act_370 (by decide) ?_
      refine lv_iadd hx hb dX13_act_371 ?_
      obtain ⟨g_i, hf⟩ := fg hf
      refine lA_X13_r (inb_lt g_r57) rfl hN cx hp g_i dX13_act_372 ?_
      obtain ⟨g_i, hf⟩ := fg hf
      obtain ⟨σ58, e_l, hf⟩ := fl hf
      refine sA_X13_r (inb_lt g_r56) rfl hN cx hp g_i dX13_act_373 (fun u H locs e_u n_u hp => ?_)
      obtain rfl := ((us_x e_u n_u).trans e_l).symm
      refine lv_iinc (v := (x7 + 1)) (lv' := [(7, .int (x7 + 1)), (0, .ref (adr E 20 0)), (1, .ref (adr E 19 0)), (3, .int x3), (5, .int x5)]) hx hb dX13_act_374 hl (k := 4) rfl rfl (by decide) rfl (fun ls hl => ?_)
      refine lv_goto (tgt := 343) hx hb dX13_act_377 (by decide) ?_
      exact ih  hf hp (lv_sub hl [1, 2, 3, 4, 0] rfl)
set_option maxRecDepth 100000 in
set_option maxHeartbeats 4000000 in
theorem L_X13_act_209 {p : Program} {e : Env} {s : State} {m : MethodId} {args : Array Value} {below : List Frame} {meth : Method} {c : Code} (l : Launch) {E : Ev} (hN : 151 ≤ eN E) (hT : St E) (cx : Cx E p s m meth c args RX13 cX13_act 10 (some .boolean)) {rv : Int32} {σ' : SM} : ∀ (n : Nat) {x8 : Int32} {x7 : Int32} {σ : SM}, f_X13_act_209  n x8 x7 σ = some (rv, σ') → ∀ {H : Heap} {locs : List Loc} {ls : Array Slot}, Hp E σ s H locs → lv_has ls 10 [(0, .ref (adr E 20 0)), (1, .ref (adr E 19 0)), (7, .int x7), (8, .int x8)] → W p l e rm_X13_act s m args below meth c H locs 0 0 (MQ below (va_Qi (fun r u => rv = r ∧ σ' = u) (fun u t => Wu E u t) (eA E)) args s 0 0 (eA E)) (F0 m 209 ls []) := by
  have hx := cx.1.1
  have hb := cx.1.2.1
  intro n
  induction n with
  | zero =>
    intro x8 x7 σ hf
    exact absurd hf (by simp [f_X13_act_209])
  | succ n ih =>
    intro x8 x7 σ hf H locs ls hp hl
    rw [f_X13_act_209] at hf
    refine lv_iload hx hb dX13_act_209 (lv_at hl 3 rfl) ?_
    refine lv_aload_n hx hb dX13_act_211 rfl (lv_at hl 0 rfl) ?_
    refine gF_X13_98 rfl hN cx hp dX13_act_212 ?_
    refine lv_icmp_ge (tgt := 258) hx hb dX13_act_215 (by decide) (fun c70 => ?_) (fun c70 => ?_)
    · have hf := fp hf c70
      refine lv_aload_n hx hb dX13_act_258 rfl (lv_at hl 1 rfl) ?_
      obtain ⟨r71, σ72, hc, hf⟩ := fb2 hf
      refine x_i hp (y_V (As := []) (rest := []) cx hp hl (c_X12_reallocate l (Nat.le_trans (by decide) hN) hT  hc) (cw_X13_200 cx (mc := 0) (ms := 0) rfl rfl ⟨by decide, by decide⟩) (rC_X12 (Nat.le_trans (by decide) hN) cx hp) rfl rfl (Nat.le_of_ble_eq_true rfl) dX13_act_259 ⟨Nat.zero_le _, Nat.zero_le _⟩) (fun r_c u_c H locs hq hp => ?_)
      obtain ⟨rfl, rfl⟩ := hq
      refine lv_iload hx hb dX13_act_262 (lv_at hl 2 rfl) ?_
      refine lv_icmp_ne (tgt := 271) hx hb dX13_act_264 (by decide) (fun c73 => ?_) (fun c73 => ?_)
      · have hf := fn hf c73
        cases hf
      · have hf := fp hf c73
        refine lv_iconst (v := 1) hx hb dX13_act_267 (by decide) ?_
        refine lv_goto (tgt := 272) hx hb dX13_act_268 (by decide) ?_
        cases hf
        exact r_z cx hp rfl ⟨rfl, rfl⟩ dX13_act_272
    · have hf := fn hf c70
      refine lv_aload_n hx hb dX13_act_218 rfl (lv_at hl 0 rfl) ?_
      refine gF_X13_40 rfl hN cx hp dX13_act_219 ?_
      refine lv_iload hx hb dX13_act_222 (lv_at hl 3 rfl) ?_
      obtain ⟨g_i, hf⟩ := fg hf
      refine lA_X13_10 rfl hN cx hp g_i dX13_act_224 ?_
      refine lv_aload_n hx hb dX13_act_225 rfl (lv_at hl 0 rfl) ?_
      refine gF_X13_25 rfl hN cx hp dX13_act_226 ?_
      refine lv_iload hx hb dX13_act_229 (lv_at hl 3 rfl) ?_
      obtain ⟨g_i, hf⟩ := fg hf
      refine lA_X13_5 rfl hN cx hp g_i dX13_act_231 ?_
      refine lv_icmp_eq (tgt := 238) hx hb dX13_act_232 (by decide) (fun c74 => ?_) (fun c74 => ?_)
      · have hf := fp hf c74
        refine lv_aload_n hx hb dX13_act_238 rfl (lv_at hl 0 rfl) ?_
        refine gF_X13_25 rfl hN cx hp dX13_act_239 ?_
        refine lv_iload hx hb dX13_act_242 (lv_at hl 3 rfl) ?_
        refine lv_aload_n hx hb dX13_act_244 rfl (lv_at hl 0 rfl) ?_
        refine gF_X13_40 rfl hN cx hp dX13_act_245 ?_
        refine lv_iload hx hb dX13_act_248 (lv_at hl 3 rfl) ?_
        obtain ⟨g_i, hf⟩ := fg hf
        refine lA_X13_10 rfl hN cx hp g_i dX13_act_250 ?_
        obtain ⟨g_i, hf⟩ := fg hf
        obtain ⟨σ75, e_l, hf⟩ := fl hf
        refine sA_X13_5 rfl hN cx hp g_i dX13_act_251 (fun u H locs e_u n_u hp => ?_)
        obtain rfl := ((us_x e_u n_u).trans e_l).symm
        refine lv_iinc (v := (x8 + 1)) (lv' := [(8, .int (x8 + 1)), (0, .ref (adr E 20 0)), (1, .ref (adr E 19 0)), (7, .int x7)]) hx hb dX13_act_252 hl (k := 3) rfl rfl (by decide) rfl (fun ls hl => ?_)
        refine lv_goto (tgt := 209) hx hb dX13_act_255 (by decide) ?_
        exact ih  hf hp (lv_sub hl [1, 2, 3, 0] rfl)
      · have hf := fn hf c74
        refine lv_iinc (v := (x7 + 1)) (lv' := [(7, .int (x7 + 1)), (0, .ref (adr E 20 0)), (1, .ref (adr E 19 0)), (8, .int x8)]) hx hb dX13_act_235 hl (k := 2) rfl rfl (by decide) rfl (fun ls hl => ?_)
        refine lv_aload_n hx hb dX13_act_238 rfl (lv_at hl 1 rfl) ?_
        refine gF_X13_25 rfl hN cx hp dX13_act_239 ?_
        refine lv_iload hx hb dX13_act_242 (lv_at hl 3 rfl) ?_
        refine lv_aload_n hx hb dX13_act_244 rfl (lv_at hl 1 rfl) ?_
        refine gF_X13_40 rfl hN cx hp dX13_act_245 ?_
        refine lv_iload hx hb dX13_act_248 (lv_at hl 3 rfl) ?_
        obtain ⟨g_i, hf⟩ := fg hf
        refine lA_X13_10 rfl hN cx hp g_i dX13_act_250 ?_
        obtain ⟨g_i, hf⟩ := fg hf
        obtain ⟨σ76, e_l, hf⟩ := fl hf
        refine sA_X13_5 rfl hN cx hp g_i dX13_act_251 (fun u H locs e_u n_u hp => ?_)
        obtain rfl := ((us_x e_u n_u).trans e_l).symm
        refine lv_iinc (v := (x8 + 1)) (lv' := [(8, .int (x8 + 1)), (7, .int (x7 + 1)), (0, .ref (adr E 20 0)), (1, .ref (adr E 19 0))]) hx hb dX13_act_252 hl (k := 3) rfl rfl (by decide) rfl (fun ls hl => ?_)
        refine lv_goto (tgt := 209) hx hb dX13_act_255 (by decide) ?_
        exact ih  hf hp (lv_sub hl [2, 3, 1, 0] rfl)
set_option maxRecDepth 100000 in
set_option maxHeartbeats 4000000 in
theorem L_X13_act_194 {p : Program} {e : Env} {s : State} {m : MethodId} {args : Array Value} {below : List Frame} {meth : Method} {c : Code} (l : Launch) {E : Ev} (hN : 151 ≤ eN E) (hT : St E) (cx : Cx E p s m meth c args RX13 cX13_act 10 (some .boolean)) {x2 : Int32} {x3 : Int32} {x4 : Int32} {x5 : Int32} {rv : Int32} {σ' : SM} : ∀ (n : Nat) {σ : SM}, f_X13_act_194 x2 x3 x4 x5 n σ = some (rv, σ') → ∀ {H : Heap} {locs : List Loc} {ls : Array Slot}, Hp E σ s H locs → lv_has ls 10 [(0, .ref (adr E 20 0)), (1, .ref (adr E 19 0)), (2, .int x2), (3, .int x3), (4, .int x4), (5, .int x5)] → W p l e rm_X13_act s m args below meth c H locs 0 0 (MQ below (va_Qi (fun r u => rv = r ∧ σ' = u) (fun u t => Wu E u t) (eA E)) args s 0 0 (eA E)) (F0 m 194 ls []) := by
  have hx := cx.1.1
  have hb := cx.1.2.1
  intro n
  induction n with
  | zero =>
    intro σ hf
    exact absurd hf (by simp [f_X13_act_194])
  | succ n ih =>
    intro σ hf H locs ls hp hl
    rw [f_X13_act_194] at hf
    refine lv_iload_n hx hb dX13_act_194 rfl (lv_at hl 2 rfl) ?_
    refine lv_iconst (v := 4) hx hb dX13_act_195 (by decide) ?_
    refine lv_icmp_ne (tgt := 273) hx hb dX13_act_196 (by decide) (fun c17 => ?_) (fun c17 => ?_)
    · have hf := fn hf c17
      refine lv_iload_n hx hb dX13_act_273 rfl (lv_at hl 2 rfl) ?_
      refine lv_iconst (v := 5) hx hb dX13_act_274 (by decide) ?_
      refine lv_icmp_ne (tgt := 307) hx hb dX13_act_275 (by decide) (fun c18 => ?_) (fun c18 => ?_)
      · have hf := fn hf c18
        refine lv_iload_n hx hb dX13_act_307 rfl (lv_at hl 2 rfl) ?_
        refine lv_bipush (v := 6) hx hb dX13_act_308 (by decide) ?_
        refine lv_icmp_ne (tgt := 402) hx hb dX13_act_310 (by decide) (fun c19 => ?_) (fun c19 => ?_)
        · have hf := fn hf c19
          exact L_X13_act_402 l hN hT cx  _ hf hp (lv_sub hl [0, 1, 2, 3, 4, 5] rfl)
        · have hf := fp hf c19
          refine lv_aload_n hx hb dX13_act_313 rfl (lv_at hl 0 rfl) ?_
          refine lv_iload_n hx hb dX13_act_314 rfl (lv_at hl 3 rfl) ?_
          refine lv_iload hx hb dX13_act_315 (lv_at hl 5 rfl) ?_
          obtain ⟨r51, hc, hf⟩ := fb hf
          refine x_i hp (y_V (As := [.int x3, .int x5]) (rest := []) cx hp hl (c_X13_rank l hN hT rfl hc) (cw_X13_115 cx (mc := 0) (ms := 0) rfl rfl ⟨by decide, by decide⟩) (rC_X13 hN cx hp) rfl rfl (Nat.le_of_ble_eq_true rfl) dX13_act_317 ⟨Nat.zero_le _, Nat.zero_le _⟩) (fun r_c u_c H locs hq hp => ?_)
          obtain ⟨rfl, rfl⟩ := hq
          refine lv_iconst (v := (-1)) hx hb dX13_act_320 (by decide) ?_
          refine lv_icmp_eq (tgt := 402) hx hb dX13_act_321 (by decide) (fun c52 => ?_) (fun c52 => ?_)
          · have hf := fp hf c52
            exact L_X13_act_402 l hN hT cx  _ hf hp (lv_sub hl [0, 1, 2, 3, 4, 5] rfl)
          · have hf := fn hf c52
            refine lv_aload_n hx hb dX13_act_324 rfl (lv_at hl 0 rfl) ?_
            refine gF_X13_28 rfl hN cx hp dX13_act_325 ?_
            refine lv_iload_n hx hb dX13_act_328 rfl (lv_at hl 3 rfl) ?_
            refine lv_dup2_11 hx hb dX13_act_329 rfl rfl ?_
            obtain ⟨g_i, hf⟩ := fg hf
            refine lA_X13_6 rfl hN cx hp g_i dX13_act_330 ?_
            refine lv_iconst (v := 1) hx hb dX13_act_331 (by decide) ?_
            refine lv_isub hx hb dX13_act_332 ?_
            obtain ⟨g_i, hf⟩ := fg hf
            obtain ⟨σ53, e_l, hf⟩ := fl hf
            refine sA_X13_6 rfl hN cx hp g_i dX13_act_333 (fun u H locs e_u n_u hp => ?_)
            obtain rfl := ((us_x e_u n_u).trans e_l).symm
            refine lv_aload_n hx hb dX13_act_334 rfl (lv_at hl 0 rfl) ?_
            refine lv_iload_n hx hb dX13_act_335 rfl (lv_at hl 3 rfl) ?_
            refine lv_iload hx hb dX13_act_336 (lv_at hl 5 rfl) ?_
            obtain ⟨r54, hc, hf⟩ := fb hf
            refine x_i hp (y_V (As := [.int x3, .int x5]) (rest := []) cx hp hl (c_X13_rankAll l hN hT rfl hc) (cw_X13_209 cx (mc := 0) (ms := 0) rfl rfl ⟨by decide, by decide⟩) (rC_X13 hN cx hp) rfl rfl (Nat.le_of_ble_eq_true rfl) dX13_act_338 ⟨Nat.zero_le _, Nat.zero_le _⟩) (fun r_c u_c H locs hq hp => ?_)
            obtain ⟨rfl, rfl⟩ := hq
            refine lv_istore (lv' := [(7, .int r54), (0, .ref (adr E 20 0)), (1, .ref (adr E 19 0)), (2, .int x2), (3, .int x3), (4, .int x4), (5, .int x5)]) hx hb dX13_act_341 hl (by decide) rfl (fun ls hl => ?_)
            obtain ⟨σ59, hc, hf⟩ := fb hf
            refine L_X13_act_343 l hN hT cx  (fun H locs ls hp hl => ?_) _ hc hp (lv_sub hl [1, 2, 4, 6, 0] rfl)
            refine lv_aload_n hx hb dX13_act_380 rfl (lv_at hl 1 rfl) ?_
            refine lv_iload_n hx hb dX13_act_381 rfl (lv_at hl 2 rfl) ?_
            refine lv_iload hx hb dX13_act_382 (lv_at hl 3 rfl) ?_
            obtain ⟨r60, σ61, hc, hf⟩ := fb2 hf
            refine x_i hp (y_V (As := [.int x3, .int x5]) (rest := []) cx hp hl (c_X12_removePreference l (Nat.le_trans (by decide) hN) hT  hc) (cw_X13_212 cx (mc := 0) (ms := 0) rfl rfl ⟨by decide, by decide⟩) (rC_X12 (Nat.le_trans (by decide) hN) cx hp) rfl rfl (Nat.le_of_ble_eq_true rfl) dX13_act_384 ⟨Nat.zero_le _, Nat.zero_le _⟩) (fun r_c u_c H locs hq hp => ?_)
            obtain ⟨rfl, rfl⟩ := hq
            refine lv_aload_n hx hb dX13_act_387 rfl (lv_at hl 0 rfl) ?_
            refine gF_X13_28 rfl hN cx hp dX13_act_388 ?_
            refine lv_iload_n hx hb dX13_act_391 rfl (lv_at hl 2 rfl) ?_
            obtain ⟨g_i, hf⟩ := fg hf
            refine lA_X13_6 rfl hN cx hp g_i dX13_act_392 ?_
            refine lv_icmp_ne (tgt := 400) hx hb dX13_act_393 (by decide) (fun c62 => ?_) (fun c62 => ?_)
            · have hf := fn hf c62
              cases hf
            · have hf := fp hf c62
              refine lv_iconst (v := 1) hx hb dX13_act_396 (by decide) ?_
              refine lv_goto (tgt := 401) hx hb dX13_act_397 (by decide) ?_
              cases hf
              exact r_z cx hp rfl ⟨rfl, rfl⟩ dX13_act_401
      · have hf := fp hf c18
        refine lv_aload_n hx hb dX13_act_278 rfl (lv_at hl 0 rfl) ?_
        refine lv_iload_n hx hb dX13_act_279 rfl (lv_at hl 3 rfl) ?_
        refine lv_iload hx hb dX13_act_280 (lv_at hl 5 rfl) ?_
        obtain ⟨m63, hc, hf⟩ := fb hf
        refine x_v hp (y_V (As := [.int x3, .int x5]) (rest := []) cx hp hl (c_X13_toFront l hN hT rfl hc) (cw_X13_203 cx (mc := 0) (ms := 0) rfl rfl ⟨by decide, by decide⟩) (rC_X13 hN cx hp) rfl rfl (Nat.le_of_ble_eq_true rfl) dX13_act_282 ⟨Nat.zero_le _, Nat.zero_le _⟩) (fun u_c H locs hq hp => ?_)
        obtain ⟨e_0, n_u⟩ := hq
        obtain ⟨σ64, e_l, hf⟩ := fl hf
        obtain rfl := ((us_x e_0 n_u).trans e_l).symm
        refine lv_aload_n hx hb dX13_act_285 rfl (lv_at hl 1 rfl) ?_
        refine lv_iload_n hx hb dX13_act_286 rfl (lv_at hl 3 rfl) ?_
        refine lv_iload hx hb dX13_act_287 (lv_at hl 5 rfl) ?_
        obtain ⟨r65, σ66, hc, hf⟩ := fb2 hf
        refine x_i hp (y_V (As := [.int x3, .int x5]) (rest := []) cx hp hl (c_X12_preferFirst l (Nat.le_trans (by decide) hN) hT  hc) (cw_X13_206 cx (mc := 0) (ms := 0) rfl rfl ⟨by decide, by decide⟩) (rC_X12 (Nat.le_trans (by decide) hN) cx hp) rfl rfl (Nat.le_of_ble_eq_true rfl) dX13_act_289 ⟨Nat.zero_le _, Nat.zero_le _⟩) (fun r_c u_c H locs hq hp => ?_)
        obtain ⟨rfl, rfl⟩ := hq
        refine lv_aload_n hx hb dX13_act_292 rfl (lv_at hl 0 rfl) ?_
        refine gF_X13_28 rfl hN cx hp dX13_act_293 ?_
        refine lv_iload_n hx hb dX13_act_296 rfl (lv_at hl 3 rfl) ?_
        obtain ⟨g_i, hf⟩ := fg hf
        refine lA_X13_6 rfl hN cx hp g_i dX13_act_297 ?_
        refine lv_icmp_ne (tgt := 305) hx hb dX13_act_298 (by decide) (fun c67 => ?_) (fun c67 => ?_)
        · have hf := fn hf c67
          cases hf
        · have hf := fp hf c67
          refine lv_iconst (v := 1) hx hb dX13_act_301 (by decide) ?_
          refine lv_goto (tgt := 306) hx hb dX13_act_302 (by decide) ?_
          cases hf
          exact r_z cx hp rfl ⟨rfl, rfl⟩ dX13_act_306
    · have hf := fp hf c17
      refine lv_iconst (v := 0) hx hb dX13_act_199 (by decide) ?_
      refine lv_istore (lv' := [(7, .int 0), (0, .ref (adr E 20 0)), (1, .ref (adr E 19 0)), (2, .int x2), (3, .int x3), (4, .int x4), (5, .int x5)]) hx hb dX13_act_200 hl (by decide) rfl (fun ls hl => ?_)
      refine lv_aload_n hx hb dX13_act_202 rfl (lv_at hl 1 rfl) ?_
      obtain ⟨m68, hc, hf⟩ := fb hf
      refine x_v hp (y_V (As := []) (rest := []) cx hp hl (c_X13_mechanism l hN hT rfl hc) (cw_X13_197 cx (mc := 0) (ms := 0) rfl rfl ⟨by decide, by decide⟩) (rC_X13 hN cx hp) rfl rfl (Nat.le_of_ble_eq_true rfl) dX13_act_203 ⟨Nat.zero_le _, Nat.zero_le _⟩) (fun u_c H locs hq hp => ?_)
      obtain ⟨e_0, n_u⟩ := hq
      obtain ⟨σ69, e_l, hf⟩ := fl hf
      obtain rfl := ((us_x e_0 n_u).trans e_l).symm
      refine lv_iconst (v := 0) hx hb dX13_act_206 (by decide) ?_
      refine lv_istore (lv' := [(8, .int 0), (7, .int 0), (0, .ref (adr E 20 0)), (1, .ref (adr E 19 0)), (2, .int x2), (3, .int x3), (4, .int x4), (5, .int x5)]) hx hb dX13_act_207 hl (by decide) rfl (fun ls hl => ?_)
      exact L_X13_act_209 l hN hT cx  _ hf hp (lv_sub hl [2, 3, 1, 0] rfl)
set_option maxRecDepth 100000 in
set_option maxHeartbeats 4000000 in
theorem L_X13_act_135 {p : Program} {e : Env} {s : State} {m : MethodId} {args : Array Value} {below : List Frame} {meth : Method} {c : Code} (l : Launch) {E : Ev} (hN : 151 ≤ eN E) (hT : St E) (cx : Cx E p s m meth c args RX13 cX13_act 10 (some .boolean)) {x2 : Int32} {x3 : Int32} {x4 : Int32} {x5 : Int32} {x6 : Int32} {rv : Int32} {σ' : SM} : ∀ (n : Nat) {σ : SM}, f_X13_act_135 x2 x3 x4 x5 x6 n σ = some (rv, σ') → ∀ {H : Heap} {locs : List Loc} {ls : Array Slot}, Hp E σ s H locs → lv_has ls 10 [(0, .ref (adr E 20 0)), (1, .ref (adr E 19 0)), (2, .int x2), (3, .int x3), (4, .int x4), (5, .int x5), (6, .int x6)] → W p l e rm_X13_act s m args below meth c H locs 0 0 (MQ below (va_Qi (fun r u => rv = r ∧ σ' = u) (fun u t => Wu E u t) (eA E)) args s 0 0 (eA E)) (F0 m 135 ls []) := by
  have hx := cx.1.1
  have hb := cx.1.2.1
  intro n
  induction n with
  | zero =>
    intro σ hf
    exact absurd hf (by simp [f_X13_act_135])
  | succ n ih =>
    intro σ hf H locs ls hp hl
    rw [f_X13_act_135] at hf
    refine lv_iload_n hx hb dX13_act_135 rfl (lv_at hl 2 rfl) ?_
    refine lv_iconst (v := 3) hx hb dX13_act_136 (by decide) ?_
    refine lv_icmp_ne (tgt := 194) hx hb dX13_act_137 (by decide) (fun c16 => ?_) (fun c16 => ?_)
    · have hf := fn hf c16
      exact L_X13_act_194 l hN hT cx  _ hf hp (lv_sub hl [0, 1, 2, 3, 4, 5] rfl)
    · have hf := fp hf c16
      refine lv_aload_n hx hb dX13_act_140 rfl (lv_at hl 0 rfl) ?_
      refine lv_iload_n hx hb dX13_act_141 rfl (lv_at hl 3 rfl) ?_
      refine lv_iload hx hb dX13_act_142 (lv_at hl 4 rfl) ?_
      obtain ⟨r77, hc, hf⟩ := fb hf
      refine x_i hp (y_V (As := [.int x3, .int x4]) (rest := []) cx hp hl (c_X13_both l hN hT rfl hc) (cw_X13_191 cx (mc := 0) (ms := 0) rfl rfl ⟨by decide, by decide⟩) (rC_X13 hN cx hp) rfl rfl (Nat.le_of_ble_eq_true rfl) dX13_act_144 ⟨Nat.zero_le _, Nat.zero_le _⟩) (fun r_c u_c H locs hq hp => ?_)
      obtain ⟨rfl, rfl⟩ := hq
      refine lv_if_eq (tgt := 194) hx hb dX13_act_147 (by decide) (fun c78 => ?_) (fun c78 => ?_)
      · have hf := fp hf c78
        exact L_X13_act_194 l hN hT cx  _ hf hp (lv_sub hl [0, 1, 2, 3, 4, 5] rfl)
      · have hf := fn hf c78
        refine lv_aload_n hx hb dX13_act_150 rfl (lv_at hl 0 rfl) ?_
        refine gF_X13_25 rfl hN cx hp dX13_act_151 ?_
        refine lv_iload_n hx hb dX13_act_154 rfl (lv_at hl 3 rfl) ?_
        refine lv_aload_n hx hb dX13_act_155 rfl (lv_at hl 0 rfl) ?_
        refine gF_X13_25 rfl hN cx hp dX13_act_156 ?_
        refine lv_iload hx hb dX13_act_159 (lv_at hl 4 rfl) ?_
        obtain ⟨g_i, hf⟩ := fg hf
        refine lA_X13_5 rfl hN cx hp g_i dX13_act_161 ?_
        obtain ⟨g_i, hf⟩ := fg hf
        obtain ⟨σ79, e_l, hf⟩ := fl hf
        refine sA_X13_5 rfl hN cx hp g_i dX13_act_162 (fun u H locs e_u n_u hp => ?_)
        obtain rfl := ((us_x e_u n_u).trans e_l).symm
        refine lv_aload_n hx hb dX13_act_163 rfl (lv_at hl 0 rfl) ?_
        refine gF_X13_25 rfl hN cx hp dX13_act_164 ?_
        refine lv_iload hx hb dX13_act_167 (lv_at hl 4 rfl) ?_
        refine lv_iload hx hb dX13_act_169 (lv_at hl 6 rfl) ?_
        obtain ⟨g_i, hf⟩ := fg hf
        obtain ⟨σ80, e_l, hf⟩ := fl hf
        refine sA_X13_5 rfl hN cx hp g_i dX13_act_171 (fun u H locs e_u n_u hp => ?_)
        obtain rfl := ((us_x e_u n_u).trans e_l).symm
        refine lv_aload_n hx hb dX13_act_172 rfl (lv_at hl 1 rfl) ?_
        refine lv_iload_n hx hb dX13_act_173 rfl (lv_at hl 3 rfl) ?_
        refine lv_iload hx hb dX13_act_174 (lv_at hl 4 rfl) ?_
        obtain ⟨r81, σ82, hc, hf⟩ := fb2 hf
        refine x_i hp (y_V (As := [.int x3, .int x4]) (rest := []) cx hp hl (c_X12_swap l (Nat.le_trans (by decide) hN) hT  hc) (cw_X13_194 cx (mc := 0) (ms := 0) rfl rfl ⟨by decide, by decide⟩) (rC_X12 (Nat.le_trans (by decide) hN) cx hp) rfl rfl (Nat.le_of_ble_eq_true rfl) dX13_act_176 ⟨Nat.zero_le _, Nat.zero_le _⟩) (fun r_c u_c H locs hq hp => ?_)
        obtain ⟨rfl, rfl⟩ := hq
        refine lv_aload_n hx hb dX13_act_179 rfl (lv_at hl 0 rfl) ?_
        refine gF_X13_25 rfl hN cx hp dX13_act_180 ?_
        refine lv_iload_n hx hb dX13_act_183 rfl (lv_at hl 3 rfl) ?_
        obtain ⟨g_i, hf⟩ := fg hf
        refine lA_X13_5 rfl hN cx hp g_i dX13_act_184 ?_
        refine lv_icmp_ne (tgt := 192) hx hb dX13_act_185 (by decide) (fun c83 => ?_) (fun c83 => ?_)
        · have hf := fn hf c83
          cases hf
        · have hf := fp hf c83
          refine lv_iconst (v := 1) hx hb dX13_act_188 (by decide) ?_
          refine lv_goto (tgt := 193) hx hb dX13_act_189 (by decide) ?_
          cases hf
          exact r_z cx hp rfl ⟨rfl, rfl⟩ dX13_act_193
set_option maxRecDepth 100000 in
set_option maxHeartbeats 4000000 in
theorem L_X13_act_101 {p : Program} {e : Env} {s : State} {m : MethodId} {args : Array Value} {below : List Frame} {meth : Method} {c : Code} (l : Launch) {E : Ev} (hN : 151 ≤ eN E) (hT : St E) (cx : Cx E p s m meth c args RX13 cX13_act 10 (some .boolean)) {x6 : Int32} {x5 : Int32} {x4 : Int32} {x3 : Int32} {x2 : Int32} {rv : Int32} {σ' : SM} : ∀ (n : Nat) {σ : SM}, f_X13_act_101 x6 x5 x4 x3 x2 n σ = some (rv, σ') → ∀ {H : Heap} {locs : List Loc} {ls : Array Slot}, Hp E σ s H locs → lv_has ls 10 [(0, .ref (adr E 20 0)), (1, .ref (adr E 19 0)), (2, .int x2), (3, .int x3), (4, .int x4), (5, .int x5), (6, .int x6)] → W p l e rm_X13_act s m args below meth c H locs 0 0 (MQ below (va_Qi (fun r u => rv = r ∧ σ' = u) (fun u t => Wu E u t) (eA E)) args s 0 0 (eA E)) (F0 m 101 ls []) := by
  have hx := cx.1.1
  have hb := cx.1.2.1
  intro n
  induction n with
  | zero =>
    intro σ hf
    exact absurd hf (by simp [f_X13_act_101])
  | succ n ih =>
    intro σ hf H locs ls hp hl
    rw [f_X13_act_101] at hf
    refine lv_iload_n hx hb dX13_act_101 rfl (lv_at hl 2 rfl) ?_
    refine lv_iconst (v := 2) hx hb dX13_act_102 (by decide) ?_
    refine lv_icmp_ne (tgt := 135) hx hb dX13_act_103 (by decide) (fun c15 => ?_) (fun c15 => ?_)
    · have hf := fn hf c15
      exact L_X13_act_135 l hN hT cx  _ hf hp (lv_sub hl [0, 1, 2, 3, 4, 5, 6] rfl)
    · have hf := fp hf c15
      refine lv_iload hx hb dX13_act_106 (lv_at hl 6 rfl) ?_
      refine lv_iconst (v := (-1)) hx hb dX13_act_108 (by decide) ?_
      refine lv_icmp_eq (tgt := 135) hx hb dX13_act_109 (by decide) (fun c84 => ?_) (fun c84 => ?_)
      · have hf := fp hf c84
        exact L_X13_act_135 l hN hT cx  _ hf hp (lv_sub hl [0, 1, 2, 3, 4, 5, 6] rfl)
      · have hf := fn hf c84
        refine lv_aload_n hx hb dX13_act_112 rfl (lv_at hl 0 rfl) ?_
        refine gF_X13_25 rfl hN cx hp dX13_act_113 ?_
        refine lv_iload_n hx hb dX13_act_116 rfl (lv_at hl 3 rfl) ?_
        refine lv_iconst (v := (-1)) hx hb dX13_act_117 (by decide) ?_
        obtain ⟨g_i, hf⟩ := fg hf
        obtain ⟨σ85, e_l, hf⟩ := fl hf
        refine sA_X13_5 rfl hN cx hp g_i dX13_act_118 (fun u H locs e_u n_u hp => ?_)
        obtain rfl := ((us_x e_u n_u).trans e_l).symm
        refine lv_aload_n hx hb dX13_act_119 rfl (lv_at hl 1 rfl) ?_
        refine lv_iload_n hx hb dX13_act_120 rfl (lv_at hl 3 rfl) ?_
        obtain ⟨r86, σ87, hc, hf⟩ := fb2 hf
        refine x_i hp (y_V (As := [.int x3]) (rest := []) cx hp hl (c_X12_vacate l (Nat.le_trans (by decide) hN) hT  hc) (cw_X13_188 cx (mc := 0) (ms := 0) rfl rfl ⟨by decide, by decide⟩) (rC_X12 (Nat.le_trans (by decide) hN) cx hp) rfl rfl (Nat.le_of_ble_eq_true rfl) dX13_act_121 ⟨Nat.zero_le _, Nat.zero_le _⟩) (fun r_c u_c H locs hq hp => ?_)
        obtain ⟨rfl, rfl⟩ := hq
        refine lv_iload hx hb dX13_act_124 (lv_at hl 6 rfl) ?_
        refine lv_icmp_ne (tgt := 133) hx hb dX13_act_126 (by decide) (fun c88 => ?_) (fun c88 => ?_)
        · have hf := fn hf c88
          cases hf
        · have hf := fp hf c88
          refine lv_iconst (v := 1) hx hb dX13_act_129 (by decide) ?_
          refine lv_goto (tgt := 134) hx hb dX13_act_130 (by decide) ?_
          cases hf
          exact r_z cx hp rfl ⟨rfl, rfl⟩ dX13_act_134
set_option maxRecDepth 100000 in
set_option maxHeartbeats 4000000 in
theorem c_X13_act (l : Launch) {E : Ev} (hN : 151 ≤ eN E) (hT : St E) {σ : SM}  {rv : Int32} {σ' : SM} (hf : f_X13_act σ = some (rv, σ')) : Met l yX13_act (wC yX13_act cX13_act 10 (some .boolean)) rm_X13_act (va_Pc [.ref (adr E 20 0), .ref (adr E 19 0)] (Wu E σ)) (va_Qi (fun r u => rv = r ∧ σ' = u) (fun u t => Wu E u t) (eA E)) 0 0 (eA E) := by
  refine g_entry (lv := [(0, .ref (adr E 20 0)), (1, .ref (adr E 19 0))]) (by decide) (Nat.le_of_ble_eq_true rfl) rfl ?_
  intro p e s m below meth c cx hp ls hl
  have hx := cx.1.1
  have hb := cx.1.2.1
  unfold f_X13_act at hf
  refine lv_aload_n hx hb dX13_act_0 rfl (lv_at hl 0 rfl) ?_
  refine lv_bipush (v := 10) hx hb dX13_act_1 (by decide) ?_
  obtain ⟨r1, m2, hc, hf⟩ := fb2 hf
  refine x_i hp (y_V (As := [.int 10]) (rest := []) cx hp hl (c_X13_draw l hN hT rfl hc) (cw_X13_92 cx (mc := 0) (ms := 0) rfl rfl ⟨by decide, by decide⟩) (rC_X13 hN cx hp) rfl rfl (Nat.le_of_ble_eq_true rfl) dX13_act_3 ⟨Nat.zero_le _, Nat.zero_le _⟩) (fun r_c u_c H locs hq hp => ?_)
  obtain ⟨rfl, e_0, n_u⟩ := hq
  obtain ⟨σ3, e_l, hf⟩ := fl hf
  obtain rfl := ((us_x e_0 n_u).trans e_l).symm
  refine lv_istore_n (lv' := [(2, .int r1), (0, .ref (adr E 20 0)), (1, .ref (adr E 19 0))]) hx hb dX13_act_6 rfl hl (by decide) rfl (fun ls hl => ?_)
  refine lv_aload_n hx hb dX13_act_7 rfl (lv_at hl 1 rfl) ?_
  refine lv_aload_n hx hb dX13_act_8 rfl (lv_at hl 1 rfl) ?_
  refine gF_X13_98 rfl hN cx hp dX13_act_9 ?_
  obtain ⟨r4, m5, hc, hf⟩ := fb2 hf
  refine x_i hp (y_V (As := [.int ((σ3 20).1 0 15)]) (rest := []) cx hp hl (c_X13_draw l hN hT rfl hc) (cw_X13_92 cx (mc := 0) (ms := 0) rfl rfl ⟨by decide, by decide⟩) (rC_X13 hN cx hp) rfl rfl (Nat.le_of_ble_eq_true rfl) dX13_act_12 ⟨Nat.zero_le _, Nat.zero_le _⟩) (fun r_c u_c H locs hq hp => ?_)
  obtain ⟨rfl, e_0, n_u⟩ := hq
  obtain ⟨σ6, e_l, hf⟩ := fl hf
  obtain rfl := ((us_x e_0 n_u).trans e_l).symm
  refine lv_istore_n (lv' := [(3, .int r4), (2, .int r1), (0, .ref (adr E 20 0)), (1, .ref (adr E 19 0))]) hx hb dX13_act_15 rfl hl (by decide) rfl (fun ls hl => ?_)
  refine lv_aload_n hx hb dX13_act_16 rfl (lv_at hl 2 rfl) ?_
  refine lv_aload_n hx hb dX13_act_17 rfl (lv_at hl 2 rfl) ?_
  refine gF_X13_98 rfl hN cx hp dX13_act_18 ?_
  obtain ⟨r7, m8, hc, hf⟩ := fb2 hf
  refine x_i hp (y_V (As := [.int ((σ6 20).1 0 15)]) (rest := []) cx hp hl (c_X13_draw l hN hT rfl hc) (cw_X13_92 cx (mc := 0) (ms := 0) rfl rfl ⟨by decide, by decide⟩) (rC_X13 hN cx hp) rfl rfl (Nat.le_of_ble_eq_true rfl) dX13_act_21 ⟨Nat.zero_le _, Nat.zero_le _⟩) (fun r_c u_c H locs hq hp => ?_)
  obtain ⟨rfl, e_0, n_u⟩ := hq
  obtain ⟨σ9, e_l, hf⟩ := fl hf
  obtain rfl := ((us_x e_0 n_u).trans e_l).symm
  refine lv_istore (lv' := [(4, .int r7), (3, .int r4), (2, .int r1), (0, .ref (adr E 20 0)), (1, .ref (adr E 19 0))]) hx hb dX13_act_24 hl (by decide) rfl (fun ls hl => ?_)
  refine lv_aload_n hx hb dX13_act_26 rfl (lv_at hl 3 rfl) ?_
  refine lv_aload_n hx hb dX13_act_27 rfl (lv_at hl 3 rfl) ?_
  refine gF_X13_95 rfl hN cx hp dX13_act_28 ?_
  obtain ⟨r10, m11, hc, hf⟩ := fb2 hf
  refine x_i hp (y_V (As := [.int ((σ9 20).1 0 14)]) (rest := []) cx hp hl (c_X13_draw l hN hT rfl hc) (cw_X13_92 cx (mc := 0) (ms := 0) rfl rfl ⟨by decide, by decide⟩) (rC_X13 hN cx hp) rfl rfl (Nat.le_of_ble_eq_true rfl) dX13_act_31 ⟨Nat.zero_le _, Nat.zero_le _⟩) (fun r_c u_c H locs hq hp => ?_)
  obtain ⟨rfl, e_0, n_u⟩ := hq
  obtain ⟨σ12, e_l, hf⟩ := fl hf
  obtain rfl := ((us_x e_0 n_u).trans e_l).symm
  refine lv_istore (lv' := [(5, .int r10), (4, .int r7), (3, .int r4), (2, .int r1), (0, .ref (adr E 20 0)), (1, .ref (adr E 19 0))]) hx hb dX13_act_34 hl (by decide) rfl (fun ls hl => ?_)
  refine lv_aload_n hx hb dX13_act_36 rfl (lv_at hl 4 rfl) ?_
  refine gF_X13_25 rfl hN cx hp dX13_act_37 ?_
  refine lv_iload_n hx hb dX13_act_40 rfl (lv_at hl 2 rfl) ?_
  obtain ⟨g_i, hf⟩ := fg hf
  refine lA_X13_5 rfl hN cx hp g_i dX13_act_41 ?_
  obtain ⟨i13, x_e, hf⟩ := fl hf
  refine lv_nm x_e ?_
  refine lv_istore (lv' := [(6, .int i13), (5, .int r10), (4, .int r7), (3, .int r4), (2, .int r1), (0, .ref (adr E 20 0)), (1, .ref (adr E 19 0))]) hx hb dX13_act_42 hl (by decide) rfl (fun ls hl => ?_)
  refine lv_iload_n hx hb dX13_act_44 rfl (lv_at hl 4 rfl) ?_
  refine lv_iconst (v := 2) hx hb dX13_act_45 (by decide) ?_
  refine lv_icmp_ge (tgt := 101) hx hb dX13_act_46 (by decide) (fun c14 => ?_) (fun c14 => ?_)
  · have hf := fp hf c14
    exact L_X13_act_101 l hN hT cx  _ hf hp (lv_sub hl [5, 6, 4, 3, 2, 1, 0] rfl)
  · have hf := fn hf c14
    refine lv_aload_n hx hb dX13_act_49 rfl (lv_at hl 5 rfl) ?_
    refine lv_iload hx hb dX13_act_50 (lv_at hl 1 rfl) ?_
    obtain ⟨r89, hc, hf⟩ := fb hf
    refine x_i hp (y_V (As := [.int r10]) (rest := []) cx hp hl (c_X13_tenant l hN hT rfl hc) (cw_X13_119 cx (mc := 0) (ms := 0) rfl rfl ⟨by decide, by decide⟩) (rC_X13 hN cx hp) rfl rfl (Nat.le_of_ble_eq_true rfl) dX13_act_52 ⟨Nat.zero_le _, Nat.zero_le _⟩) (fun r_c u_c H locs hq hp => ?_)
    obtain ⟨rfl, rfl⟩ := hq
    refine lv_iconst (v := (-1)) hx hb dX13_act_55 (by decide) ?_
    refine lv_icmp_ne (tgt := 101) hx hb dX13_act_56 (by decide) (fun c90 => ?_) (fun c90 => ?_)
    · have hf := fn hf c90
      exact L_X13_act_101 l hN hT cx  _ hf hp (lv_sub hl [5, 6, 4, 3, 2, 1, 0] rfl)
    · have hf := fp hf c90
      refine lv_aload_n hx hb dX13_act_59 rfl (lv_at hl 5 rfl) ?_
      refine gF_X13_15 rfl hN cx hp dX13_act_60 ?_
      refine lv_iload hx hb dX13_act_63 (lv_at hl 1 rfl) ?_
      obtain ⟨g_i, hf⟩ := fg hf
      refine lA_X13_2 rfl hN cx hp g_i dX13_act_65 ?_
      refine lv_aload_n hx hb dX13_act_66 rfl (lv_at hl 5 rfl) ?_
      refine gF_X13_19 rfl hN cx hp dX13_act_67 ?_
      refine lv_iload_n hx hb dX13_act_70 rfl (lv_at hl 3 rfl) ?_
      obtain ⟨g_i, hf⟩ := fg hf
      refine lA_X13_3 rfl hN cx hp g_i dX13_act_71 ?_
      refine lv_icmp_gt (tgt := 101) hx hb dX13_act_72 (by decide) (fun c91 => ?_) (fun c91 => ?_)
      · have hf := fp hf c91
        exact L_X13_act_101 l hN hT cx  _ hf hp (lv_sub hl [5, 6, 4, 3, 2, 1, 0] rfl)
      · have hf := fn hf c91
        refine lv_aload_n hx hb dX13_act_75 rfl (lv_at hl 5 rfl) ?_
        refine gF_X13_25 rfl hN cx hp dX13_act_76 ?_
        refine lv_iload_n hx hb dX13_act_79 rfl (lv_at hl 3 rfl) ?_
        refine lv_iload hx hb dX13_act_80 (lv_at hl 1 rfl) ?_
        obtain ⟨g_i, hf⟩ := fg hf
        obtain ⟨σ92, e_l, hf⟩ := fl hf
        refine sA_X13_5 rfl hN cx hp g_i dX13_act_82 (fun u H locs e_u n_u hp => ?_)
        obtain rfl := ((us_x e_u n_u).trans e_l).symm
        refine lv_aload_n hx hb dX13_act_83 rfl (lv_at hl 6 rfl) ?_
        refine lv_iload_n hx hb dX13_act_84 rfl (lv_at hl 3 rfl) ?_
        refine lv_iload hx hb dX13_act_85 (lv_at hl 1 rfl) ?_
        obtain ⟨r93, σ94, hc, hf⟩ := fb2 hf
        refine x_i hp (y_V (As := [.int r4, .int r10]) (rest := []) cx hp hl (c_X12_assign l (Nat.le_trans (by decide) hN) hT  hc) (cw_X13_185 cx (mc := 0) (ms := 0) rfl rfl ⟨by decide, by decide⟩) (rC_X12 (Nat.le_trans (by decide) hN) cx hp) rfl rfl (Nat.le_of_ble_eq_true rfl) dX13_act_87 ⟨Nat.zero_le _, Nat.zero_le _⟩) (fun r_c u_c H locs hq hp => ?_)
        obtain ⟨rfl, rfl⟩ := hq
        refine lv_iload hx hb dX13_act_90 (lv_at hl 0 rfl) ?_
        refine lv_icmp_ne (tgt := 99) hx hb dX13_act_92 (by decide) (fun c95 => ?_) (fun c95 => ?_)
        · have hf := fn hf c95
          cases hf
        · have hf := fp hf c95
          refine lv_iconst (v := 1) hx hb dX13_act_95 (by decide) ?_
          refine lv_goto (tgt := 100) hx hb dX13_act_96 (by decide) ?_
          cases hf
          exact r_z cx hp rfl ⟨rfl, rfl⟩ dX13_act_100
abbrev rm_L_pick : Room := { frames := 0, cells := 0, slots := 0, locals := 0 }
set_option maxRecDepth 100000 in
set_option maxHeartbeats 4000000 in
theorem c_L_pick (l : Launch) {E : Ev} (hN : 151 ≤ eN E) (hT : St E) {b Ls : Nat} {xs : Nat → Int32} (SX : va_T .int b Ls (fun j => .int (xs j)) (eA E) (eS E) (eS E).heap) {σ : SM} {p1 : Int32} {rv : Int32} (hf : f_L_pick xs Ls p1 = some rv) : Met l yL_pick (wC yL_pick cL_pick 2 (some .int)) rm_L_pick (va_Pc [.ref b, .int p1] (Wu E σ)) (va_Qi (fun r u => rv = r ∧ σ = u) (fun u t => Wu E u t) (eA E)) 0 0 (eA E) := by
  refine g_entry (lv := [(0, .ref b), (1, .int p1)]) (by decide) (Nat.le_of_ble_eq_true rfl) rfl ?_
  intro p e s m below meth c cx hp ls hl
  have hx := cx.1.1
  have hb := cx.1.2.1
  have fr : ∀ q, σ q = σ q := fun _ => rfl
  unfold f_L_pick at hf
  refine lv_iload_n hx hb dL_pick_0 rfl (lv_at hl 1 rfl) ?_
  refine lv_if_lt (tgt := 16) hx hb dL_pick_1 (by decide) (fun c1 => ?_) (fun c1 => ?_)
  · have hf := fp hf c1
    refine lv_iconst (v := 0) hx hb dL_pick_16 (by decide) ?_
    cases hf
    exact r_i cx hp ⟨rfl, (funext fr).symm⟩ dL_pick_17
  · have hf := fn hf c1
    refine lv_iload_n hx hb dL_pick_4 rfl (lv_at hl 1 rfl) ?_
    refine lv_aload_n hx hb dL_pick_5 rfl (lv_at hl 0 rfl) ?_
    refine va_tlen (v := nI Ls) hx hb (tS cx SX) hp.2 rfl dL_pick_6 ?_
    refine lv_icmp_ge (tgt := 16) hx hb dL_pick_7 (by decide) (fun c2 => ?_) (fun c2 => ?_)
    · have hf := fp hf c2
      refine lv_iconst (v := 0) hx hb dL_pick_16 (by decide) ?_
      cases hf
      exact r_i cx hp ⟨rfl, (funext fr).symm⟩ dL_pick_17
    · have hf := fn hf c2
      refine lv_aload_n hx hb dL_pick_10 rfl (lv_at hl 0 rfl) ?_
      refine lv_iload_n hx hb dL_pick_11 rfl (lv_at hl 1 rfl) ?_
      obtain ⟨g_i, hf⟩ := fg hf
      refine va_ti hx hb (tS cx SX) hp.2 (inb_vp g_i) rfl dL_pick_12 ?_
      refine lv_goto (tgt := 17) hx hb dL_pick_13 (by decide) ?_
      cases hf
      exact r_i cx hp ⟨rfl, (funext fr).symm⟩ dL_pick_17

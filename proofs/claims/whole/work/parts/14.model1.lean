abbrev rm_X13_puts : Room := { frames := 4, cells := 0, slots := 0, locals := 85 }
set_option maxRecDepth 100000 in
set_option maxHeartbeats 4000000 in
theorem L_X13_puts_2 {p : Program} {e : Env} {s : State} {m : MethodId} {args : Array Value} {below : List Frame} {meth : Method} {c : Code} (l : Launch) {E : Ev} (hN : 146 ≤ eN E) (hT : St E) {σ : SM} (cx : Cx E p s m meth c args RX13 cX13_puts 3 none) {w1 : Nat} {ρ' : OM} : ∀ (n : Nat) {x2 : Int32} {ρ : OM}, f_X13_puts_2 w1 n x2 ρ = some ρ' → ∀ {u : SM} {H : Heap} {locs : List Loc} {ls : Array Slot}, u 20 = ρ → (∀ q, q ≠ 20 → u q = σ q) → Hp E u s H locs → lv_has ls 3 [(0, .ref (adr E 20 0)), (1, .ref (eK E w1)), (2, .int x2)] → W p l e rm_X13_puts s m args below meth c H locs 0 0 (MQ below (va_Qv (fun u => u 20 = ρ' ∧ ∀ q, q ≠ 20 → u q = σ q) (fun u t => Wu E u t) (eA E)) args s 0 0 (eA E)) (F0 m 2 ls []) := by
  have hx := cx.1.1
  have hb := cx.1.2.1
  intro n
  induction n with
  | zero =>
    intro x2 ρ hf
    exact absurd hf (by simp [f_X13_puts_2])
  | succ n ih =>
    intro x2 ρ hf u H locs ls e20 fr hp hl
    rw [f_X13_puts_2] at hf
    refine lv_iload_n hx hb dX13_puts_2 rfl (lv_at hl 2 rfl) ?_
    refine lv_aload_n hx hb dX13_puts_3 rfl (lv_at hl 1 rfl) ?_
    obtain ⟨r1, hc, hf⟩ := fb hf
    refine x_i hp (y_V (As := []) (rest := [.int x2]) cx hp hl (c_J0_length_8abf5 l (Nat.le_trans (by decide) hN) hT  hc) (cw_X13_80 cx (mc := 0) (ms := 0) rfl rfl ⟨by decide, by decide⟩) (rcS cx hp (hT.1 _ (g46_J0_length_8abf5 hc)).1) rfl rfl (Nat.le_of_ble_eq_true rfl) dX13_puts_4 ⟨Nat.zero_le _, Nat.zero_le _⟩) (fun r_c u_c H locs hq hp => ?_)
    obtain ⟨rfl, rfl⟩ := hq
    refine lv_icmp_ge (tgt := 40) hx hb dX13_puts_7 (by decide) (fun c2 => ?_) (fun c2 => ?_)
    · have hf := fp hf c2
      cases hf
      exact r_v cx hp ⟨e20, fr⟩ dX13_puts_40
    · have hf := fn hf c2
      refine lv_aload_n hx hb dX13_puts_10 rfl (lv_at hl 0 rfl) ?_
      refine gF_X13_22 rfl hN cx hp dX13_puts_11 ?_
      refine lv_aload_n hx hb dX13_puts_14 rfl (lv_at hl 0 rfl) ?_
      refine gF_X13_74 e20 hN cx hp dX13_puts_15 ?_
      refine lv_aload_n hx hb dX13_puts_18 rfl (lv_at hl 1 rfl) ?_
      refine lv_iload_n hx hb dX13_puts_19 rfl (lv_at hl 2 rfl) ?_
      obtain ⟨r3, hc, hf⟩ := fb hf
      refine x_i hp (y_V (As := [.int x2]) (rest := [.int (ρ.1 0 7), .ref (adr E 20 5)]) cx hp hl (c_J0_charAt_5068e l (Nat.le_trans (by decide) hN) hT  hc) (cw_X13_86 cx (mc := 0) (ms := 0) rfl rfl ⟨by decide, by decide⟩) (rcS cx hp (hT.1 _ (g46_J0_charAt_5068e hc)).1) rfl rfl (Nat.le_of_ble_eq_true rfl) dX13_puts_20 ⟨Nat.zero_le _, Nat.zero_le _⟩) (fun r_c u_c H locs hq hp => ?_)
      obtain ⟨rfl, rfl⟩ := hq
      obtain ⟨g_i, hf⟩ := fg hf
      obtain ⟨ρ4, e_l, hf⟩ := fl hf
      refine sA_X13_5 e20 hN cx hp g_i dX13_puts_23 (fun u H locs e_u n_u hp => ?_)
      have e20 := e_u.trans e_l
      have fr : ∀ q, q ≠ 20 → u q = σ q := fun q h0 => (n_u q h0).trans (fr q h0)
      refine lv_aload_n hx hb dX13_puts_24 rfl (lv_at hl 0 rfl) ?_
      refine lv_dup hx hb dX13_puts_25 rfl ?_
      refine gF_X13_74 e20 hN cx hp dX13_puts_26 ?_
      refine lv_iconst (v := 1) hx hb dX13_puts_29 (by decide) ?_
      refine lv_iadd hx hb dX13_puts_30 ?_
      obtain ⟨ρ5, e_l, hf⟩ := fl hf
      refine pF_X13_74 e20 hN cx hp dX13_puts_31 (fun u H locs e_u n_u hp => ?_)
      have e20 := e_u.trans e_l
      have fr : ∀ q, q ≠ 20 → u q = σ q := fun q h0 => (n_u q h0).trans (fr q h0)
      refine lv_iinc (v := (x2 + 1)) (lv' := [(2, .int (x2 + 1)), (0, .ref (adr E 20 0)), (1, .ref (eK E w1))]) hx hb dX13_puts_34 hl (k := 2) rfl rfl (by decide) rfl (fun ls hl => ?_)
      refine lv_goto (tgt := 2) hx hb dX13_puts_37 (by decide) ?_
      exact ih  hf e20 fr hp (lv_sub hl [1, 2, 0] rfl)
set_option maxRecDepth 100000 in
set_option maxHeartbeats 4000000 in
theorem c_X13_puts (l : Launch) {E : Ev} (hN : 146 ≤ eN E) (hT : St E) {σ : SM} {ρ : OM} (e20 : σ 20 = ρ) {w1 : Nat} {ρ' : OM} (hf : f_X13_puts w1 ρ = some ρ') : Met l yX13_puts (wC yX13_puts cX13_puts 3 none) rm_X13_puts (va_Pc [.ref (adr E 20 0), .ref (eK E w1)] (Wu E σ)) (va_Qv (fun u => u 20 = ρ' ∧ ∀ q, q ≠ 20 → u q = σ q) (fun u t => Wu E u t) (eA E)) 0 0 (eA E) := by
  refine g_entry (lv := [(0, .ref (adr E 20 0)), (1, .ref (eK E w1))]) (by decide) (Nat.le_of_ble_eq_true rfl) rfl ?_
  intro p e s m below meth c cx hp ls hl
  have hx := cx.1.1
  have hb := cx.1.2.1
  have fr : ∀ q, q ≠ 20 → σ q = σ q := fun _ _ => rfl
  unfold f_X13_puts at hf
  refine lv_iconst (v := 0) hx hb dX13_puts_0 (by decide) ?_
  refine lv_istore_n (lv' := [(2, .int 0), (0, .ref (adr E 20 0)), (1, .ref (eK E w1))]) hx hb dX13_puts_1 rfl hl (by decide) rfl (fun ls hl => ?_)
  exact L_X13_puts_2 l hN hT cx  _ hf e20 fr hp (lv_sub hl [1, 2, 0] rfl)
abbrev rm_X13_isBetween : Room := { frames := 0, cells := 0, slots := 0, locals := 0 }
set_option maxRecDepth 100000 in
set_option maxHeartbeats 4000000 in
theorem c_X13_isBetween (l : Launch) {E : Ev} (hN : 146 ≤ eN E) (hT : St E) {σ : SM} {p0 : Int32} {p1 : Int32} {p2 : Int32} {rv : Int32} (hf : f_X13_isBetween p0 p1 p2 = some rv) : Met l yX13_isBetween (wC yX13_isBetween cX13_isBetween 3 (some .boolean)) rm_X13_isBetween (va_Pc [.int p0, .int p1, .int p2] (Wu E σ)) (va_Qi (fun r u => rv = r ∧ σ = u) (fun u t => Wu E u t) (eA E)) 0 0 (eA E) := by
  refine g_entry (lv := [(0, .int p0), (1, .int p1), (2, .int p2)]) (by decide) (Nat.le_of_ble_eq_true rfl) rfl ?_
  intro p e s m below meth c cx hp ls hl
  have hx := cx.1.1
  have hb := cx.1.2.1
  have fr : ∀ q, σ q = σ q := fun _ => rfl
  unfold f_X13_isBetween at hf
  refine lv_iload_n hx hb dX13_isBetween_0 rfl (lv_at hl 0 rfl) ?_
  refine lv_iload_n hx hb dX13_isBetween_1 rfl (lv_at hl 1 rfl) ?_
  refine lv_icmp_lt (tgt := 14) hx hb dX13_isBetween_2 (by decide) (fun c1 => ?_) (fun c1 => ?_)
  · have hf := fp hf c1
    refine lv_iconst (v := 0) hx hb dX13_isBetween_14 (by decide) ?_
    cases hf
    exact r_z cx hp rfl ⟨rfl, (funext fr).symm⟩ dX13_isBetween_15
  · have hf := fn hf c1
    refine lv_iload_n hx hb dX13_isBetween_5 rfl (lv_at hl 0 rfl) ?_
    refine lv_iload_n hx hb dX13_isBetween_6 rfl (lv_at hl 2 rfl) ?_
    refine lv_icmp_gt (tgt := 14) hx hb dX13_isBetween_7 (by decide) (fun c2 => ?_) (fun c2 => ?_)
    · have hf := fp hf c2
      refine lv_iconst (v := 0) hx hb dX13_isBetween_14 (by decide) ?_
      cases hf
      exact r_z cx hp rfl ⟨rfl, (funext fr).symm⟩ dX13_isBetween_15
    · have hf := fn hf c2
      refine lv_iconst (v := 1) hx hb dX13_isBetween_10 (by decide) ?_
      refine lv_goto (tgt := 15) hx hb dX13_isBetween_11 (by decide) ?_
      cases hf
      exact r_z cx hp rfl ⟨rfl, (funext fr).symm⟩ dX13_isBetween_15
abbrev rm_X13_isLetter : Room := { frames := 1, cells := 0, slots := 0, locals := 22 }
set_option maxRecDepth 100000 in
set_option maxHeartbeats 4000000 in
theorem c_X13_isLetter (l : Launch) {E : Ev} (hN : 146 ≤ eN E) (hT : St E) {σ : SM} {ρ : OM} (e20 : σ 20 = ρ) {p1 : Int32} {rv : Int32} (hf : f_X13_isLetter p1 ρ = some rv) : Met l yX13_isLetter (wC yX13_isLetter cX13_isLetter 2 (some .boolean)) rm_X13_isLetter (va_Pc [.ref (adr E 20 0), .int p1] (Wu E σ)) (va_Qi (fun r u => rv = r ∧ σ = u) (fun u t => Wu E u t) (eA E)) 0 0 (eA E) := by
  refine g_entry (lv := [(0, .ref (adr E 20 0)), (1, .int p1)]) (by decide) (Nat.le_of_ble_eq_true rfl) rfl ?_
  intro p e s m below meth c cx hp ls hl
  have hx := cx.1.1
  have hb := cx.1.2.1
  have fr : ∀ q, σ q = σ q := fun _ => rfl
  unfold f_X13_isLetter at hf
  refine lv_iload_n hx hb dX13_isLetter_0 rfl (lv_at hl 1 rfl) ?_
  refine lv_aload_n hx hb dX13_isLetter_1 rfl (lv_at hl 0 rfl) ?_
  refine gF_X13_74 e20 hN cx hp dX13_isLetter_2 ?_
  refine lv_icmp_ge (tgt := 28) hx hb dX13_isLetter_5 (by decide) (fun c1 => ?_) (fun c1 => ?_)
  · have hf := fp hf c1
    refine lv_iconst (v := 0) hx hb dX13_isLetter_28 (by decide) ?_
    cases hf
    exact r_z cx hp rfl ⟨rfl, (funext fr).symm⟩ dX13_isLetter_29
  · have hf := fn hf c1
    refine lv_aload_n hx hb dX13_isLetter_8 rfl (lv_at hl 0 rfl) ?_
    refine gF_X13_22 rfl hN cx hp dX13_isLetter_9 ?_
    refine lv_iload_n hx hb dX13_isLetter_12 rfl (lv_at hl 1 rfl) ?_
    obtain ⟨g_i, hf⟩ := fg hf
    refine lA_X13_5 e20 hN cx hp g_i dX13_isLetter_13 ?_
    refine lv_bipush (v := 97) hx hb dX13_isLetter_14 (by decide) ?_
    refine lv_bipush (v := 122) hx hb dX13_isLetter_16 (by decide) ?_
    obtain ⟨r2, hc, hf⟩ := fb hf
    refine x_i hp (y_S (As := [.int (ρ.1 5 (Int32.toNatClampNeg p1)), .int 97, .int 122]) (rest := []) cx hp hl (c_X13_isBetween l hN hT  hc) (cw_X13_90 cx (mc := 0) (ms := 0) rfl rfl ⟨by decide, by decide⟩) rfl rfl (Nat.le_of_ble_eq_true rfl) dX13_isLetter_18 ⟨Nat.zero_le _, Nat.zero_le _⟩) (fun r_c u_c H locs hq hp => ?_)
    obtain ⟨rfl, rfl⟩ := hq
    refine lv_if_eq (tgt := 28) hx hb dX13_isLetter_21 (by decide) (fun c3 => ?_) (fun c3 => ?_)
    · have hf := fp hf c3
      refine lv_iconst (v := 0) hx hb dX13_isLetter_28 (by decide) ?_
      cases hf
      exact r_z cx hp rfl ⟨rfl, (funext fr).symm⟩ dX13_isLetter_29
    · have hf := fn hf c3
      refine lv_iconst (v := 1) hx hb dX13_isLetter_24 (by decide) ?_
      refine lv_goto (tgt := 29) hx hb dX13_isLetter_25 (by decide) ?_
      cases hf
      exact r_z cx hp rfl ⟨rfl, (funext fr).symm⟩ dX13_isLetter_29
abbrev rm_X13_isDigit : Room := { frames := 1, cells := 0, slots := 0, locals := 22 }
set_option maxRecDepth 100000 in
set_option maxHeartbeats 4000000 in
theorem c_X13_isDigit (l : Launch) {E : Ev} (hN : 146 ≤ eN E) (hT : St E) {σ : SM} {ρ : OM} (e20 : σ 20 = ρ) {p1 : Int32} {rv : Int32} (hf : f_X13_isDigit p1 ρ = some rv) : Met l yX13_isDigit (wC yX13_isDigit cX13_isDigit 2 (some .boolean)) rm_X13_isDigit (va_Pc [.ref (adr E 20 0), .int p1] (Wu E σ)) (va_Qi (fun r u => rv = r ∧ σ = u) (fun u t => Wu E u t) (eA E)) 0 0 (eA E) := by
  refine g_entry (lv := [(0, .ref (adr E 20 0)), (1, .int p1)]) (by decide) (Nat.le_of_ble_eq_true rfl) rfl ?_
  intro p e s m below meth c cx hp ls hl
  have hx := cx.1.1
  have hb := cx.1.2.1
  have fr : ∀ q, σ q = σ q := fun _ => rfl
  unfold f_X13_isDigit at hf
  refine lv_iload_n hx hb dX13_isDigit_0 rfl (lv_at hl 1 rfl) ?_
  refine lv_aload_n hx hb dX13_isDigit_1 rfl (lv_at hl 0 rfl) ?_
  refine gF_X13_74 e20 hN cx hp dX13_isDigit_2 ?_
  refine lv_icmp_ge (tgt := 28) hx hb dX13_isDigit_5 (by decide) (fun c1 => ?_) (fun c1 => ?_)
  · have hf := fp hf c1
    refine lv_iconst (v := 0) hx hb dX13_isDigit_28 (by decide) ?_
    cases hf
    exact r_z cx hp rfl ⟨rfl, (funext fr).symm⟩ dX13_isDigit_29
  · have hf := fn hf c1
    refine lv_aload_n hx hb dX13_isDigit_8 rfl (lv_at hl 0 rfl) ?_
    refine gF_X13_22 rfl hN cx hp dX13_isDigit_9 ?_
    refine lv_iload_n hx hb dX13_isDigit_12 rfl (lv_at hl 1 rfl) ?_
    obtain ⟨g_i, hf⟩ := fg hf
    refine lA_X13_5 e20 hN cx hp g_i dX13_isDigit_13 ?_
    refine lv_bipush (v := 48) hx hb dX13_isDigit_14 (by decide) ?_
    refine lv_bipush (v := 57) hx hb dX13_isDigit_16 (by decide) ?_
    obtain ⟨r2, hc, hf⟩ := fb hf
    refine x_i hp (y_S (As := [.int (ρ.1 5 (Int32.toNatClampNeg p1)), .int 48, .int 57]) (rest := []) cx hp hl (c_X13_isBetween l hN hT  hc) (cw_X13_90 cx (mc := 0) (ms := 0) rfl rfl ⟨by decide, by decide⟩) rfl rfl (Nat.le_of_ble_eq_true rfl) dX13_isDigit_18 ⟨Nat.zero_le _, Nat.zero_le _⟩) (fun r_c u_c H locs hq hp => ?_)
    obtain ⟨rfl, rfl⟩ := hq
    refine lv_if_eq (tgt := 28) hx hb dX13_isDigit_21 (by decide) (fun c3 => ?_) (fun c3 => ?_)
    · have hf := fp hf c3
      refine lv_iconst (v := 0) hx hb dX13_isDigit_28 (by decide) ?_
      cases hf
      exact r_z cx hp rfl ⟨rfl, (funext fr).symm⟩ dX13_isDigit_29
    · have hf := fn hf c3
      refine lv_iconst (v := 1) hx hb dX13_isDigit_24 (by decide) ?_
      refine lv_goto (tgt := 29) hx hb dX13_isDigit_25 (by decide) ?_
      cases hf
      exact r_z cx hp rfl ⟨rfl, (funext fr).symm⟩ dX13_isDigit_29
abbrev rm_X13_nextToken : Room := { frames := 2, cells := 0, slots := 0, locals := 43 }
set_option maxRecDepth 100000 in
set_option maxHeartbeats 4000000 in
theorem L_X13_nextToken_8 {p : Program} {e : Env} {s : State} {m : MethodId} {args : Array Value} {below : List Frame} {meth : Method} {c : Code} (l : Launch) {E : Ev} (hN : 146 ≤ eN E) (hT : St E) {σ : SM} {Q : State → Prop} (cx : Cx E p s m meth c args RX13 cX13_nextToken 1 none) {ρ' : OM} (K : ∀ (u : SM) (H : Heap) (locs : List Loc) (ls : Array Slot), u 20 = ρ' → (∀ q, q ≠ 20 → u q = σ q) → Hp E u s H locs → lv_has ls 1 [(0, .ref (adr E 20 0))] → W p l e rm_X13_nextToken s m args below meth c H locs 0 0 Q (F0 m 46 ls [])) : ∀ (n : Nat) {ρ : OM}, f_X13_nextToken_8  n ρ = some ρ' → ∀ {u : SM} {H : Heap} {locs : List Loc} {ls : Array Slot}, u 20 = ρ → (∀ q, q ≠ 20 → u q = σ q) → Hp E u s H locs → lv_has ls 1 [(0, .ref (adr E 20 0))] → W p l e rm_X13_nextToken s m args below meth c H locs 0 0 Q (F0 m 8 ls []) := by
  have hx := cx.1.1
  have hb := cx.1.2.1
  intro n
  induction n with
  | zero =>
    intro ρ hf
    exact absurd hf (by simp [f_X13_nextToken_8])
  | succ n ih =>
    intro ρ hf u H locs ls e20 fr hp hl
    rw [f_X13_nextToken_8] at hf
    refine lv_aload_n hx hb dX13_nextToken_8 rfl (lv_at hl 0 rfl) ?_
    refine gF_X13_176 e20 hN cx hp dX13_nextToken_9 ?_
    refine lv_aload_n hx hb dX13_nextToken_12 rfl (lv_at hl 0 rfl) ?_
    refine gF_X13_74 e20 hN cx hp dX13_nextToken_13 ?_
    refine lv_icmp_ge (tgt := 46) hx hb dX13_nextToken_16 (by decide) (fun c2 => ?_) (fun c2 => ?_)
    · have hf := fp hf c2
      cases hf
      exact K _ _ _ _ e20 fr hp (lv_sub hl [0] rfl)
    · have hf := fn hf c2
      refine lv_aload_n hx hb dX13_nextToken_19 rfl (lv_at hl 0 rfl) ?_
      refine gF_X13_22 rfl hN cx hp dX13_nextToken_20 ?_
      refine lv_aload_n hx hb dX13_nextToken_23 rfl (lv_at hl 0 rfl) ?_
      refine gF_X13_176 e20 hN cx hp dX13_nextToken_24 ?_
      obtain ⟨g_i, hf⟩ := fg hf
      refine lA_X13_5 e20 hN cx hp g_i dX13_nextToken_27 ?_
      refine lv_bipush (v := 32) hx hb dX13_nextToken_28 (by decide) ?_
      refine lv_icmp_ne (tgt := 46) hx hb dX13_nextToken_30 (by decide) (fun c3 => ?_) (fun c3 => ?_)
      · have hf := fn hf c3
        cases hf
        exact K _ _ _ _ e20 fr hp (lv_sub hl [0] rfl)
      · have hf := fp hf c3
        refine lv_aload_n hx hb dX13_nextToken_33 rfl (lv_at hl 0 rfl) ?_
        refine lv_dup hx hb dX13_nextToken_34 rfl ?_
        refine gF_X13_176 e20 hN cx hp dX13_nextToken_35 ?_
        refine lv_iconst (v := 1) hx hb dX13_nextToken_38 (by decide) ?_
        refine lv_iadd hx hb dX13_nextToken_39 ?_
        obtain ⟨ρ4, e_l, hf⟩ := fl hf
        refine pF_X13_176 e20 hN cx hp dX13_nextToken_40 (fun u H locs e_u n_u hp => ?_)
        have e20 := e_u.trans e_l
        have fr : ∀ q, q ≠ 20 → u q = σ q := fun q h0 => (n_u q h0).trans (fr q h0)
        refine lv_goto (tgt := 8) hx hb dX13_nextToken_43 (by decide) ?_
        exact ih  hf e20 fr hp (lv_sub hl [0] rfl)
set_option maxRecDepth 100000 in
set_option maxHeartbeats 4000000 in
theorem L_X13_nextToken_134 {p : Program} {e : Env} {s : State} {m : MethodId} {args : Array Value} {below : List Frame} {meth : Method} {c : Code} (l : Launch) {E : Ev} (hN : 146 ≤ eN E) (hT : St E) {σ : SM} (cx : Cx E p s m meth c args RX13 cX13_nextToken 1 none) {ρ' : OM} : ∀ (n : Nat) {ρ : OM}, f_X13_nextToken_134  n ρ = some ρ' → ∀ {u : SM} {H : Heap} {locs : List Loc} {ls : Array Slot}, u 20 = ρ → (∀ q, q ≠ 20 → u q = σ q) → Hp E u s H locs → lv_has ls 1 [(0, .ref (adr E 20 0))] → W p l e rm_X13_nextToken s m args below meth c H locs 0 0 (MQ below (va_Qv (fun u => u 20 = ρ' ∧ ∀ q, q ≠ 20 → u q = σ q) (fun u t => Wu E u t) (eA E)) args s 0 0 (eA E)) (F0 m 134 ls []) := by
  have hx := cx.1.1
  have hb := cx.1.2.1
  intro n
  induction n with
  | zero =>
    intro ρ hf
    exact absurd hf (by simp [f_X13_nextToken_134])
  | succ n ih =>
    intro ρ hf u H locs ls e20 fr hp hl
    rw [f_X13_nextToken_134] at hf
    refine lv_aload_n hx hb dX13_nextToken_134 rfl (lv_at hl 0 rfl) ?_
    refine lv_aload_n hx hb dX13_nextToken_135 rfl (lv_at hl 0 rfl) ?_
    refine gF_X13_173 e20 hN cx hp dX13_nextToken_136 ?_
    obtain ⟨r16, hc, hf⟩ := fb hf
    refine x_i hp (y_V (As := [.int (ρ.1 0 22)]) (rest := []) cx hp hl (c_X13_isDigit l hN hT e20 hc) (cw_X13_185 cx (mc := 0) (ms := 0) rfl rfl ⟨by decide, by decide⟩) (rC_X13 hN cx hp) rfl rfl (Nat.le_of_ble_eq_true rfl) dX13_nextToken_139 ⟨Nat.zero_le _, Nat.zero_le _⟩) (fun r_c u_c H locs hq hp => ?_)
    obtain ⟨rfl, rfl⟩ := hq
    refine lv_if_eq (tgt := 219) hx hb dX13_nextToken_142 (by decide) (fun c17 => ?_) (fun c17 => ?_)
    · have hf := fp hf c17
      cases hf
      exact r_v cx hp ⟨e20, fr⟩ dX13_nextToken_219
    · have hf := fn hf c17
      refine lv_aload_n hx hb dX13_nextToken_145 rfl (lv_at hl 0 rfl) ?_
      refine lv_bipush (v := 10) hx hb dX13_nextToken_146 (by decide) ?_
      refine lv_aload_n hx hb dX13_nextToken_148 rfl (lv_at hl 0 rfl) ?_
      refine gF_X13_188 e20 hN cx hp dX13_nextToken_149 ?_
      refine lv_imul hx hb dX13_nextToken_152 ?_
      refine lv_aload_n hx hb dX13_nextToken_153 rfl (lv_at hl 0 rfl) ?_
      refine gF_X13_22 rfl hN cx hp dX13_nextToken_154 ?_
      refine lv_aload_n hx hb dX13_nextToken_157 rfl (lv_at hl 0 rfl) ?_
      refine gF_X13_173 e20 hN cx hp dX13_nextToken_158 ?_
      obtain ⟨g_i, hf⟩ := fg hf
      refine lA_X13_5 e20 hN cx hp g_i dX13_nextToken_161 ?_
      refine lv_iadd hx hb dX13_nextToken_162 ?_
      refine lv_bipush (v := 48) hx hb dX13_nextToken_163 (by decide) ?_
      refine lv_isub hx hb dX13_nextToken_165 ?_
      obtain ⟨ρ18, e_l, hf⟩ := fl hf
      refine pF_X13_188 e20 hN cx hp dX13_nextToken_166 (fun u H locs e_u n_u hp => ?_)
      have e20 := e_u.trans e_l
      have fr : ∀ q, q ≠ 20 → u q = σ q := fun q h0 => (n_u q h0).trans (fr q h0)
      refine lv_aload_n hx hb dX13_nextToken_169 rfl (lv_at hl 0 rfl) ?_
      refine lv_aload_n hx hb dX13_nextToken_170 rfl (lv_at hl 0 rfl) ?_
      refine gF_X13_188 e20 hN cx hp dX13_nextToken_171 ?_
      refine lv_ldc (v := 100000) hx hb cx.1.2.2.2.1 (cx.1.2.2.2.2 _ qV_X13_191) dX13_nextToken_174 ?_
      refine lv_icmp_le (tgt := 184) hx hb dX13_nextToken_176 (by decide) (fun c19 => ?_) (fun c19 => ?_)
      · have hf := fp hf c19
        refine lv_aload_n hx hb dX13_nextToken_184 rfl (lv_at hl 0 rfl) ?_
        refine gF_X13_188 e20 hN cx hp dX13_nextToken_185 ?_
        obtain ⟨ρ20, e_l, hf⟩ := fl hf
        refine pF_X13_188 e20 hN cx hp dX13_nextToken_188 (fun u H locs e_u n_u hp => ?_)
        have e20 := e_u.trans e_l
        have fr : ∀ q, q ≠ 20 → u q = σ q := fun q h0 => (n_u q h0).trans (fr q h0)
        refine lv_aload_n hx hb dX13_nextToken_191 rfl (lv_at hl 0 rfl) ?_
        refine lv_dup hx hb dX13_nextToken_192 rfl ?_
        refine gF_X13_173 e20 hN cx hp dX13_nextToken_193 ?_
        refine lv_iconst (v := 1) hx hb dX13_nextToken_196 (by decide) ?_
        refine lv_iadd hx hb dX13_nextToken_197 ?_
        obtain ⟨ρ21, e_l, hf⟩ := fl hf
        refine pF_X13_173 e20 hN cx hp dX13_nextToken_198 (fun u H locs e_u n_u hp => ?_)
        have e20 := e_u.trans e_l
        have fr : ∀ q, q ≠ 20 → u q = σ q := fun q h0 => (n_u q h0).trans (fr q h0)
        refine lv_goto (tgt := 134) hx hb dX13_nextToken_201 (by decide) ?_
        exact ih  hf e20 fr hp (lv_sub hl [0] rfl)
      · have hf := fn hf c19
        refine lv_ldc (v := 100000) hx hb cx.1.2.2.2.1 (cx.1.2.2.2.2 _ qV_X13_191) dX13_nextToken_179 ?_
        refine lv_goto (tgt := 188) hx hb dX13_nextToken_181 (by decide) ?_
        obtain ⟨ρ22, e_l, hf⟩ := fl hf
        refine pF_X13_188 e20 hN cx hp dX13_nextToken_188 (fun u H locs e_u n_u hp => ?_)
        have e20 := e_u.trans e_l
        have fr : ∀ q, q ≠ 20 → u q = σ q := fun q h0 => (n_u q h0).trans (fr q h0)
        refine lv_aload_n hx hb dX13_nextToken_191 rfl (lv_at hl 0 rfl) ?_
        refine lv_dup hx hb dX13_nextToken_192 rfl ?_
        refine gF_X13_173 e20 hN cx hp dX13_nextToken_193 ?_
        refine lv_iconst (v := 1) hx hb dX13_nextToken_196 (by decide) ?_
        refine lv_iadd hx hb dX13_nextToken_197 ?_
        obtain ⟨ρ23, e_l, hf⟩ := fl hf
        refine pF_X13_173 e20 hN cx hp dX13_nextToken_198 (fun u H locs e_u n_u hp => ?_)
        have e20 := e_u.trans e_l
        have fr : ∀ q, q ≠ 20 → u q = σ q := fun q h0 => (n_u q h0).trans (fr q h0)
        refine lv_goto (tgt := 134) hx hb dX13_nextToken_201 (by decide) ?_
        exact ih  hf e20 fr hp (lv_sub hl [0] rfl)
set_option maxRecDepth 100000 in
set_option maxHeartbeats 4000000 in
theorem L_X13_nextToken_89 {p : Program} {e : Env} {s : State} {m : MethodId} {args : Array Value} {below : List Frame} {meth : Method} {c : Code} (l : Launch) {E : Ev} (hN : 146 ≤ eN E) (hT : St E) {σ : SM} (cx : Cx E p s m meth c args RX13 cX13_nextToken 1 none) {ρ' : OM} : ∀ (n : Nat) {ρ : OM}, f_X13_nextToken_89  n ρ = some ρ' → ∀ {u : SM} {H : Heap} {locs : List Loc} {ls : Array Slot}, u 20 = ρ → (∀ q, q ≠ 20 → u q = σ q) → Hp E u s H locs → lv_has ls 1 [(0, .ref (adr E 20 0))] → W p l e rm_X13_nextToken s m args below meth c H locs 0 0 (MQ below (va_Qv (fun u => u 20 = ρ' ∧ ∀ q, q ≠ 20 → u q = σ q) (fun u t => Wu E u t) (eA E)) args s 0 0 (eA E)) (F0 m 89 ls []) := by
  have hx := cx.1.1
  have hb := cx.1.2.1
  intro n
  induction n with
  | zero =>
    intro ρ hf
    exact absurd hf (by simp [f_X13_nextToken_89])
  | succ n ih =>
    intro ρ hf u H locs ls e20 fr hp hl
    rw [f_X13_nextToken_89] at hf
    refine lv_aload_n hx hb dX13_nextToken_89 rfl (lv_at hl 0 rfl) ?_
    refine lv_aload_n hx hb dX13_nextToken_90 rfl (lv_at hl 0 rfl) ?_
    refine gF_X13_173 e20 hN cx hp dX13_nextToken_91 ?_
    obtain ⟨r25, hc, hf⟩ := fb hf
    refine x_i hp (y_V (As := [.int (ρ.1 0 22)]) (rest := []) cx hp hl (c_X13_isLetter l hN hT e20 hc) (cw_X13_182 cx (mc := 0) (ms := 0) rfl rfl ⟨by decide, by decide⟩) (rC_X13 hN cx hp) rfl rfl (Nat.le_of_ble_eq_true rfl) dX13_nextToken_94 ⟨Nat.zero_le _, Nat.zero_le _⟩) (fun r_c u_c H locs hq hp => ?_)
    obtain ⟨rfl, rfl⟩ := hq
    refine lv_if_eq (tgt := 219) hx hb dX13_nextToken_97 (by decide) (fun c26 => ?_) (fun c26 => ?_)
    · have hf := fp hf c26
      cases hf
      exact r_v cx hp ⟨e20, fr⟩ dX13_nextToken_219
    · have hf := fn hf c26
      refine lv_aload_n hx hb dX13_nextToken_100 rfl (lv_at hl 0 rfl) ?_
      refine lv_dup hx hb dX13_nextToken_101 rfl ?_
      refine gF_X13_173 e20 hN cx hp dX13_nextToken_102 ?_
      refine lv_iconst (v := 1) hx hb dX13_nextToken_105 (by decide) ?_
      refine lv_iadd hx hb dX13_nextToken_106 ?_
      obtain ⟨ρ27, e_l, hf⟩ := fl hf
      refine pF_X13_173 e20 hN cx hp dX13_nextToken_107 (fun u H locs e_u n_u hp => ?_)
      have e20 := e_u.trans e_l
      have fr : ∀ q, q ≠ 20 → u q = σ q := fun q h0 => (n_u q h0).trans (fr q h0)
      refine lv_goto (tgt := 89) hx hb dX13_nextToken_110 (by decide) ?_
      exact ih  hf e20 fr hp (lv_sub hl [0] rfl)
set_option maxRecDepth 100000 in
set_option maxHeartbeats 4000000 in
theorem c_X13_nextToken (l : Launch) {E : Ev} (hN : 146 ≤ eN E) (hT : St E) {σ : SM} {ρ : OM} (e20 : σ 20 = ρ)  {ρ' : OM} (hf : f_X13_nextToken ρ = some ρ') : Met l yX13_nextToken (wC yX13_nextToken cX13_nextToken 1 none) rm_X13_nextToken (va_Pc [.ref (adr E 20 0)] (Wu E σ)) (va_Qv (fun u => u 20 = ρ' ∧ ∀ q, q ≠ 20 → u q = σ q) (fun u t => Wu E u t) (eA E)) 0 0 (eA E) := by
  refine g_entry (lv := [(0, .ref (adr E 20 0))]) (by decide) (Nat.le_of_ble_eq_true rfl) rfl ?_
  intro p e s m below meth c cx hp ls hl
  have hx := cx.1.1
  have hb := cx.1.2.1
  have fr : ∀ q, q ≠ 20 → σ q = σ q := fun _ _ => rfl
  unfold f_X13_nextToken at hf
  refine lv_aload_n hx hb dX13_nextToken_0 rfl (lv_at hl 0 rfl) ?_
  refine lv_aload_n hx hb dX13_nextToken_1 rfl (lv_at hl 0 rfl) ?_
  refine gF_X13_173 e20 hN cx hp dX13_nextToken_2 ?_
  obtain ⟨ρ1, e_l, hf⟩ := fl hf
  refine pF_X13_176 e20 hN cx hp dX13_nextToken_5 (fun u H locs e_u n_u hp => ?_)
  have e20 := e_u.trans e_l
  have fr : ∀ q, q ≠ 20 → u q = σ q := fun q h0 => (n_u q h0).trans (fr q h0)
  obtain ⟨ρ5, hc, hf⟩ := fb hf
  refine L_X13_nextToken_8 l hN hT cx  (fun u H locs ls e20 fr hp hl => ?_) _ hc e20 fr hp (lv_sub hl [0] rfl)
  refine lv_aload_n hx hb dX13_nextToken_46 rfl (lv_at hl 0 rfl) ?_
  refine lv_aload_n hx hb dX13_nextToken_47 rfl (lv_at hl 0 rfl) ?_
  refine gF_X13_176 e20 hN cx hp dX13_nextToken_48 ?_
  obtain ⟨ρ6, e_l, hf⟩ := fl hf
  refine pF_X13_173 e20 hN cx hp dX13_nextToken_51 (fun u H locs e_u n_u hp => ?_)
  have e20 := e_u.trans e_l
  have fr : ∀ q, q ≠ 20 → u q = σ q := fun q h0 => (n_u q h0).trans (fr q h0)
  refine lv_aload_n hx hb dX13_nextToken_54 rfl (lv_at hl 0 rfl) ?_
  refine gF_X13_176 e20 hN cx hp dX13_nextToken_55 ?_
  refine lv_aload_n hx hb dX13_nextToken_58 rfl (lv_at hl 0 rfl) ?_
  refine gF_X13_74 e20 hN cx hp dX13_nextToken_59 ?_
  refine lv_icmp_ne (tgt := 73) hx hb dX13_nextToken_62 (by decide) (fun c7 => ?_) (fun c7 => ?_)
  · have hf := fn hf c7
    refine lv_aload_n hx hb dX13_nextToken_73 rfl (lv_at hl 0 rfl) ?_
    refine lv_aload_n hx hb dX13_nextToken_74 rfl (lv_at hl 0 rfl) ?_
    refine gF_X13_176 e20 hN cx hp dX13_nextToken_75 ?_
    obtain ⟨r8, hc, hf⟩ := fb hf
    refine x_i hp (y_V (As := [.int (ρ6.1 0 21)]) (rest := []) cx hp hl (c_X13_isLetter l hN hT e20 hc) (cw_X13_182 cx (mc := 0) (ms := 0) rfl rfl ⟨by decide, by decide⟩) (rC_X13 hN cx hp) rfl rfl (Nat.le_of_ble_eq_true rfl) dX13_nextToken_78 ⟨Nat.zero_le _, Nat.zero_le _⟩) (fun r_c u_c H locs hq hp => ?_)
    obtain ⟨rfl, rfl⟩ := hq
    refine lv_if_eq (tgt := 113) hx hb dX13_nextToken_81 (by decide) (fun c9 => ?_) (fun c9 => ?_)
    · have hf := fp hf c9
      refine lv_aload_n hx hb dX13_nextToken_113 rfl (lv_at hl 0 rfl) ?_
      refine lv_aload_n hx hb dX13_nextToken_114 rfl (lv_at hl 0 rfl) ?_
      refine gF_X13_176 e20 hN cx hp dX13_nextToken_115 ?_
      obtain ⟨r10, hc, hf⟩ := fb hf
      refine x_i hp (y_V (As := [.int (ρ6.1 0 21)]) (rest := []) cx hp hl (c_X13_isDigit l hN hT e20 hc) (cw_X13_185 cx (mc := 0) (ms := 0) rfl rfl ⟨by decide, by decide⟩) (rC_X13 hN cx hp) rfl rfl (Nat.le_of_ble_eq_true rfl) dX13_nextToken_118 ⟨Nat.zero_le _, Nat.zero_le _⟩) (fun r_c u_c H locs hq hp => ?_)
      obtain ⟨rfl, rfl⟩ := hq
      refine lv_if_eq (tgt := 204) hx hb dX13_nextToken_121 (by decide) (fun c11 => ?_) (fun c11 => ?_)
      · have hf := fp hf c11
        refine lv_aload_n hx hb dX13_nextToken_204 rfl (lv_at hl 0 rfl) ?_
        refine lv_iconst (v := 3) hx hb dX13_nextToken_205 (by decide) ?_
        obtain ⟨ρ12, e_l, hf⟩ := fl hf
        refine pF_X13_179 e20 hN cx hp dX13_nextToken_206 (fun u H locs e_u n_u hp => ?_)
        have e20 := e_u.trans e_l
        have fr : ∀ q, q ≠ 20 → u q = σ q := fun q h0 => (n_u q h0).trans (fr q h0)
        refine lv_aload_n hx hb dX13_nextToken_209 rfl (lv_at hl 0 rfl) ?_
        refine lv_dup hx hb dX13_nextToken_210 rfl ?_
        refine gF_X13_173 e20 hN cx hp dX13_nextToken_211 ?_
        refine lv_iconst (v := 1) hx hb dX13_nextToken_214 (by decide) ?_
        refine lv_iadd hx hb dX13_nextToken_215 ?_
        obtain ⟨ρ13, e_l, hf⟩ := fl hf
        refine pF_X13_173 e20 hN cx hp dX13_nextToken_216 (fun u H locs e_u n_u hp => ?_)
        have e20 := e_u.trans e_l
        have fr : ∀ q, q ≠ 20 → u q = σ q := fun q h0 => (n_u q h0).trans (fr q h0)
        cases hf
        exact r_v cx hp ⟨e20, fr⟩ dX13_nextToken_219
      · have hf := fn hf c11
        refine lv_aload_n hx hb dX13_nextToken_124 rfl (lv_at hl 0 rfl) ?_
        refine lv_iconst (v := 2) hx hb dX13_nextToken_125 (by decide) ?_
        obtain ⟨ρ14, e_l, hf⟩ := fl hf
        refine pF_X13_179 e20 hN cx hp dX13_nextToken_126 (fun u H locs e_u n_u hp => ?_)
        have e20 := e_u.trans e_l
        have fr : ∀ q, q ≠ 20 → u q = σ q := fun q h0 => (n_u q h0).trans (fr q h0)
        refine lv_aload_n hx hb dX13_nextToken_129 rfl (lv_at hl 0 rfl) ?_
        refine lv_iconst (v := 0) hx hb dX13_nextToken_130 (by decide) ?_
        obtain ⟨ρ15, e_l, hf⟩ := fl hf
        refine pF_X13_188 e20 hN cx hp dX13_nextToken_131 (fun u H locs e_u n_u hp => ?_)
        have e20 := e_u.trans e_l
        have fr : ∀ q, q ≠ 20 → u q = σ q := fun q h0 => (n_u q h0).trans (fr q h0)
        exact L_X13_nextToken_134 l hN hT cx  _ hf e20 fr hp (lv_sub hl [0] rfl)
    · have hf := fn hf c9
      refine lv_aload_n hx hb dX13_nextToken_84 rfl (lv_at hl 0 rfl) ?_
      refine lv_iconst (v := 1) hx hb dX13_nextToken_85 (by decide) ?_
      obtain ⟨ρ24, e_l, hf⟩ := fl hf
      refine pF_X13_179 e20 hN cx hp dX13_nextToken_86 (fun u H locs e_u n_u hp => ?_)
      have e20 := e_u.trans e_l
      have fr : ∀ q, q ≠ 20 → u q = σ q := fun q h0 => (n_u q h0).trans (fr q h0)
      exact L_X13_nextToken_89 l hN hT cx  _ hf e20 fr hp (lv_sub hl [0] rfl)
  · have hf := fp hf c7
    refine lv_aload_n hx hb dX13_nextToken_65 rfl (lv_at hl 0 rfl) ?_
    refine lv_iconst (v := 0) hx hb dX13_nextToken_66 (by decide) ?_
    obtain ⟨ρ28, e_l, hf⟩ := fl hf
    refine pF_X13_179 e20 hN cx hp dX13_nextToken_67 (fun u H locs e_u n_u hp => ?_)
    have e20 := e_u.trans e_l
    have fr : ∀ q, q ≠ 20 → u q = σ q := fun q h0 => (n_u q h0).trans (fr q h0)
    refine lv_goto (tgt := 219) hx hb dX13_nextToken_70 (by decide) ?_
    cases hf
    exact r_v cx hp ⟨e20, fr⟩ dX13_nextToken_219
abbrev rm_X13_starts : Room := { frames := 3, cells := 0, slots := 0, locals := 63 }
set_option maxRecDepth 100000 in
set_option maxHeartbeats 4000000 in
theorem c_X13_starts (l : Launch) {E : Ev} (hN : 146 ≤ eN E) (hT : St E) {σ : SM} {ρ : OM} (e20 : σ 20 = ρ)  {ρ' : OM} (hf : f_X13_starts ρ = some ρ') : Met l yX13_starts (wC yX13_starts cX13_starts 1 none) rm_X13_starts (va_Pc [.ref (adr E 20 0)] (Wu E σ)) (va_Qv (fun u => u 20 = ρ' ∧ ∀ q, q ≠ 20 → u q = σ q) (fun u t => Wu E u t) (eA E)) 0 0 (eA E) := by
  refine g_entry (lv := [(0, .ref (adr E 20 0))]) (by decide) (Nat.le_of_ble_eq_true rfl) rfl ?_
  intro p e s m below meth c cx hp ls hl
  have hx := cx.1.1
  have hb := cx.1.2.1
  have fr : ∀ q, q ≠ 20 → σ q = σ q := fun _ _ => rfl
  unfold f_X13_starts at hf
  refine lv_aload_n hx hb dX13_starts_0 rfl (lv_at hl 0 rfl) ?_
  refine lv_iconst (v := 0) hx hb dX13_starts_1 (by decide) ?_
  obtain ⟨ρ1, e_l, hf⟩ := fl hf
  refine pF_X13_173 e20 hN cx hp dX13_starts_2 (fun u H locs e_u n_u hp => ?_)
  have e20 := e_u.trans e_l
  have fr : ∀ q, q ≠ 20 → u q = σ q := fun q h0 => (n_u q h0).trans (fr q h0)
  refine lv_aload_n hx hb dX13_starts_5 rfl (lv_at hl 0 rfl) ?_
  refine lv_iconst (v := 0) hx hb dX13_starts_6 (by decide) ?_
  obtain ⟨ρ2, e_l, hf⟩ := fl hf
  refine pF_X13_192 e20 hN cx hp rfl rfl dX13_starts_7 (fun u H locs e_u n_u hp => ?_)
  have e20 := e_u.trans e_l
  have fr : ∀ q, q ≠ 20 → u q = σ q := fun q h0 => (n_u q h0).trans (fr q h0)
  refine lv_aload_n hx hb dX13_starts_10 rfl (lv_at hl 0 rfl) ?_
  refine lv_iconst (v := 0) hx hb dX13_starts_11 (by decide) ?_
  obtain ⟨ρ3, e_l, hf⟩ := fl hf
  refine pF_X13_196 e20 hN cx hp dX13_starts_12 (fun u H locs e_u n_u hp => ?_)
  have e20 := e_u.trans e_l
  have fr : ∀ q, q ≠ 20 → u q = σ q := fun q h0 => (n_u q h0).trans (fr q h0)
  refine lv_aload_n hx hb dX13_starts_15 rfl (lv_at hl 0 rfl) ?_
  refine lv_iconst (v := (-1)) hx hb dX13_starts_16 (by decide) ?_
  obtain ⟨ρ4, e_l, hf⟩ := fl hf
  refine pF_X13_25 e20 hN cx hp dX13_starts_17 (fun u H locs e_u n_u hp => ?_)
  have e20 := e_u.trans e_l
  have fr : ∀ q, q ≠ 20 → u q = σ q := fun q h0 => (n_u q h0).trans (fr q h0)
  refine lv_aload_n hx hb dX13_starts_20 rfl (lv_at hl 0 rfl) ?_
  obtain ⟨ρ5, hc, hf⟩ := fb hf
  refine x_v hp (y_V (As := []) (rest := []) cx hp hl (c_X13_nextToken l hN hT e20 hc) (cw_X13_199 cx (mc := 0) (ms := 0) rfl rfl ⟨by decide, by decide⟩) (rC_X13 hN cx hp) rfl rfl (Nat.le_of_ble_eq_true rfl) dX13_starts_21 ⟨Nat.zero_le _, Nat.zero_le _⟩) (fun u_c H locs hq hp => ?_)
  obtain ⟨e_0, n_u⟩ := hq
  have e20 := e_0
  have fr : ∀ q, q ≠ 20 → u_c q = σ q := fun q h0 => (n_u q h0).trans (fr q h0)
  obtain ⟨u, rfl⟩ : ∃ z, u_c = z := ⟨_, rfl⟩
  cases hf
  exact r_v cx hp ⟨e20, fr⟩ dX13_starts_24
abbrev rm_X13_isWord : Room := { frames := 4, cells := 0, slots := 0, locals := 85 }
set_option maxRecDepth 100000 in
set_option maxHeartbeats 4000000 in
theorem L_X13_isWord_39 {p : Program} {e : Env} {s : State} {m : MethodId} {args : Array Value} {below : List Frame} {meth : Method} {c : Code} (l : Launch) {E : Ev} (hN : 146 ≤ eN E) (hT : St E) {σ : SM} (cx : Cx E p s m meth c args RX13 cX13_isWord 4 (some .boolean)) {w1 : Nat} {ρ : OM} {rv : Int32} : ∀ (n : Nat) {x3 : Int32} {x2 : Int32}, f_X13_isWord_39 w1 ρ n x3 x2 = some rv → ∀ {u : SM} {H : Heap} {locs : List Loc} {ls : Array Slot}, u 20 = ρ → (∀ q, u q = σ q) → Hp E u s H locs → lv_has ls 4 [(0, .ref (adr E 20 0)), (1, .ref (eK E w1)), (2, .int x2), (3, .int x3)] → W p l e rm_X13_isWord s m args below meth c H locs 0 0 (MQ below (va_Qi (fun r u => rv = r ∧ σ = u) (fun u t => Wu E u t) (eA E)) args s 0 0 (eA E)) (F0 m 39 ls []) := by
  have hx := cx.1.1
  have hb := cx.1.2.1
  intro n
  induction n with
  | zero =>
    intro x3 x2 hf
    exact absurd hf (by simp [f_X13_isWord_39])
  | succ n ih =>
    intro x3 x2 hf u H locs ls e20 fr hp hl
    rw [f_X13_isWord_39] at hf
    refine lv_iload_n hx hb dX13_isWord_39 rfl (lv_at hl 3 rfl) ?_
    refine lv_aload_n hx hb dX13_isWord_40 rfl (lv_at hl 1 rfl) ?_
    obtain ⟨r2, hc, hf⟩ := fb hf
    refine x_i hp (y_V (As := []) (rest := [.int x3]) cx hp hl (c_J0_length_8abf5 l (Nat.le_trans (by decide) hN) hT  hc) (cw_X13_80 cx (mc := 0) (ms := 0) rfl rfl ⟨by decide, by decide⟩) (rcS cx hp (hT.1 _ (g46_J0_length_8abf5 hc)).1) rfl rfl (Nat.le_of_ble_eq_true rfl) dX13_isWord_41 ⟨Nat.zero_le _, Nat.zero_le _⟩) (fun r_c u_c H locs hq hp => ?_)
    obtain ⟨rfl, rfl⟩ := hq
    refine lv_icmp_ge (tgt := 82) hx hb dX13_isWord_44 (by decide) (fun c3 => ?_) (fun c3 => ?_)
    · have hf := fp hf c3
      refine lv_iload_n hx hb dX13_isWord_82 rfl (lv_at hl 2 rfl) ?_
      obtain ⟨g_z, hf⟩ := fg hf
      cases hf
      exact r_z cx hp (bz_n g_z) ⟨rfl, (funext fr).symm⟩ dX13_isWord_83
    · have hf := fn hf c3
      refine lv_iload_n hx hb dX13_isWord_47 rfl (lv_at hl 2 rfl) ?_
      refine lv_if_eq (tgt := 82) hx hb dX13_isWord_48 (by decide) (fun c4 => ?_) (fun c4 => ?_)
      · have hf := fp hf c4
        refine lv_iload_n hx hb dX13_isWord_82 rfl (lv_at hl 2 rfl) ?_
        obtain ⟨g_z, hf⟩ := fg hf
        cases hf
        exact r_z cx hp (bz_n g_z) ⟨rfl, (funext fr).symm⟩ dX13_isWord_83
      · have hf := fn hf c4
        refine lv_aload_n hx hb dX13_isWord_51 rfl (lv_at hl 0 rfl) ?_
        refine gF_X13_22 rfl hN cx hp dX13_isWord_52 ?_
        refine lv_aload_n hx hb dX13_isWord_55 rfl (lv_at hl 0 rfl) ?_
        refine gF_X13_176 e20 hN cx hp dX13_isWord_56 ?_
        refine lv_iload_n hx hb dX13_isWord_59 rfl (lv_at hl 3 rfl) ?_
        refine lv_iadd hx hb dX13_isWord_60 ?_
        obtain ⟨g_i, hf⟩ := fg hf
        refine lA_X13_5 e20 hN cx hp g_i dX13_isWord_61 ?_
        refine lv_aload_n hx hb dX13_isWord_62 rfl (lv_at hl 1 rfl) ?_
        refine lv_iload_n hx hb dX13_isWord_63 rfl (lv_at hl 3 rfl) ?_
        obtain ⟨r5, hc, hf⟩ := fb hf
        refine x_i hp (y_V (As := [.int x3]) (rest := [.int (ρ.1 5 (Int32.toNatClampNeg ((ρ.1 0 21) + x3)))]) cx hp hl (c_J0_charAt_5068e l (Nat.le_trans (by decide) hN) hT  hc) (cw_X13_86 cx (mc := 0) (ms := 0) rfl rfl ⟨by decide, by decide⟩) (rcS cx hp (hT.1 _ (g46_J0_charAt_5068e hc)).1) rfl rfl (Nat.le_of_ble_eq_true rfl) dX13_isWord_64 ⟨Nat.zero_le _, Nat.zero_le _⟩) (fun r_c u_c H locs hq hp => ?_)
        obtain ⟨rfl, rfl⟩ := hq
        refine lv_icmp_ne (tgt := 74) hx hb dX13_isWord_67 (by decide) (fun c6 => ?_) (fun c6 => ?_)
        · have hf := fn hf c6
          refine lv_iconst (v := 0) hx hb dX13_isWord_74 (by decide) ?_
          refine lv_istore_n (lv' := [(2, .int 0), (0, .ref (adr E 20 0)), (1, .ref (eK E w1)), (3, .int x3)]) hx hb dX13_isWord_75 rfl hl (by decide) rfl (fun ls hl => ?_)
          refine lv_iinc (v := (x3 + 1)) (lv' := [(3, .int (x3 + 1)), (2, .int 0), (0, .ref (adr E 20 0)), (1, .ref (eK E w1))]) hx hb dX13_isWord_76 hl (k := 3) rfl rfl (by decide) rfl (fun ls hl => ?_)
          refine lv_goto (tgt := 39) hx hb dX13_isWord_79 (by decide) ?_
          exact ih  hf e20 fr hp (lv_sub hl [2, 3, 1, 0] rfl)
        · have hf := fp hf c6
          refine lv_iconst (v := 1) hx hb dX13_isWord_70 (by decide) ?_
          refine lv_goto (tgt := 75) hx hb dX13_isWord_71 (by decide) ?_
          refine lv_istore_n (lv' := [(2, .int 1), (0, .ref (adr E 20 0)), (1, .ref (eK E w1)), (3, .int x3)]) hx hb dX13_isWord_75 rfl hl (by decide) rfl (fun ls hl => ?_)
          refine lv_iinc (v := (x3 + 1)) (lv' := [(3, .int (x3 + 1)), (2, .int 1), (0, .ref (adr E 20 0)), (1, .ref (eK E w1))]) hx hb dX13_isWord_76 hl (k := 3) rfl rfl (by decide) rfl (fun ls hl => ?_)
          refine lv_goto (tgt := 39) hx hb dX13_isWord_79 (by decide) ?_
          exact ih  hf e20 fr hp (lv_sub hl [2, 3, 1, 0] rfl)
set_option maxRecDepth 100000 in
set_option maxHeartbeats 4000000 in
theorem c_X13_isWord (l : Launch) {E : Ev} (hN : 146 ≤ eN E) (hT : St E) {σ : SM} {ρ : OM} (e20 : σ 20 = ρ) {w1 : Nat} {rv : Int32} (hf : f_X13_isWord w1 ρ = some rv) : Met l yX13_isWord (wC yX13_isWord cX13_isWord 4 (some .boolean)) rm_X13_isWord (va_Pc [.ref (adr E 20 0), .ref (eK E w1)] (Wu E σ)) (va_Qi (fun r u => rv = r ∧ σ = u) (fun u t => Wu E u t) (eA E)) 0 0 (eA E) := by
  refine g_entry (lv := [(0, .ref (adr E 20 0)), (1, .ref (eK E w1))]) (by decide) (Nat.le_of_ble_eq_true rfl) rfl ?_
  intro p e s m below meth c cx hp ls hl
  have hx := cx.1.1
  have hb := cx.1.2.1
  have fr : ∀ q, σ q = σ q := fun _ => rfl
  unfold f_X13_isWord at hf
  refine lv_aload_n hx hb dX13_isWord_0 rfl (lv_at hl 0 rfl) ?_
  refine gF_X13_192 e20 hN cx hp dX13_isWord_1 ?_
  refine lv_if_ne (tgt := 35) hx hb dX13_isWord_4 (by decide) (fun c1 => ?_) (fun c1 => ?_)
  · have hf := fn hf c1
    refine lv_iconst (v := 0) hx hb dX13_isWord_35 (by decide) ?_
    refine lv_istore_n (lv' := [(2, .int 0), (0, .ref (adr E 20 0)), (1, .ref (eK E w1))]) hx hb dX13_isWord_36 rfl hl (by decide) rfl (fun ls hl => ?_)
    refine lv_iconst (v := 0) hx hb dX13_isWord_37 (by decide) ?_
    refine lv_istore_n (lv' := [(3, .int 0), (2, .int 0), (0, .ref (adr E 20 0)), (1, .ref (eK E w1))]) hx hb dX13_isWord_38 rfl hl (by decide) rfl (fun ls hl => ?_)
    exact L_X13_isWord_39 l hN hT cx  _ hf e20 fr hp (lv_sub hl [2, 3, 1, 0] rfl)
  · have hf := fp hf c1
    refine lv_aload_n hx hb dX13_isWord_7 rfl (lv_at hl 0 rfl) ?_
    refine gF_X13_179 e20 hN cx hp dX13_isWord_8 ?_
    refine lv_iconst (v := 1) hx hb dX13_isWord_11 (by decide) ?_
    refine lv_icmp_ne (tgt := 35) hx hb dX13_isWord_12 (by decide) (fun c7 => ?_) (fun c7 => ?_)
    · have hf := fn hf c7
      refine lv_iconst (v := 0) hx hb dX13_isWord_35 (by decide) ?_
      refine lv_istore_n (lv' := [(2, .int 0), (0, .ref (adr E 20 0)), (1, .ref (eK E w1))]) hx hb dX13_isWord_36 rfl hl (by decide) rfl (fun ls hl => ?_)
      refine lv_iconst (v := 0) hx hb dX13_isWord_37 (by decide) ?_
      refine lv_istore_n (lv' := [(3, .int 0), (2, .int 0), (0, .ref (adr E 20 0)), (1, .ref (eK E w1))]) hx hb dX13_isWord_38 rfl hl (by decide) rfl (fun ls hl => ?_)
      exact L_X13_isWord_39 l hN hT cx  _ hf e20 fr hp (lv_sub hl [2, 3, 1, 0] rfl)
    · have hf := fp hf c7
      refine lv_aload_n hx hb dX13_isWord_15 rfl (lv_at hl 0 rfl) ?_
      refine gF_X13_173 e20 hN cx hp dX13_isWord_16 ?_
      refine lv_aload_n hx hb dX13_isWord_19 rfl (lv_at hl 0 rfl) ?_
      refine gF_X13_176 e20 hN cx hp dX13_isWord_20 ?_
      refine lv_isub hx hb dX13_isWord_23 ?_
      refine lv_aload_n hx hb dX13_isWord_24 rfl (lv_at hl 1 rfl) ?_
      obtain ⟨r8, hc, hf⟩ := fb hf
      refine x_i hp (y_V (As := []) (rest := [.int ((ρ.1 0 22) - (ρ.1 0 21))]) cx hp hl (c_J0_length_8abf5 l (Nat.le_trans (by decide) hN) hT  hc) (cw_X13_80 cx (mc := 0) (ms := 0) rfl rfl ⟨by decide, by decide⟩) (rcS cx hp (hT.1 _ (g46_J0_length_8abf5 hc)).1) rfl rfl (Nat.le_of_ble_eq_true rfl) dX13_isWord_25 ⟨Nat.zero_le _, Nat.zero_le _⟩) (fun r_c u_c H locs hq hp => ?_)
      obtain ⟨rfl, rfl⟩ := hq
      refine lv_icmp_ne (tgt := 35) hx hb dX13_isWord_28 (by decide) (fun c9 => ?_) (fun c9 => ?_)
      · have hf := fn hf c9
        refine lv_iconst (v := 0) hx hb dX13_isWord_35 (by decide) ?_
        refine lv_istore_n (lv' := [(2, .int 0), (0, .ref (adr E 20 0)), (1, .ref (eK E w1))]) hx hb dX13_isWord_36 rfl hl (by decide) rfl (fun ls hl => ?_)
        refine lv_iconst (v := 0) hx hb dX13_isWord_37 (by decide) ?_
        refine lv_istore_n (lv' := [(3, .int 0), (2, .int 0), (0, .ref (adr E 20 0)), (1, .ref (eK E w1))]) hx hb dX13_isWord_38 rfl hl (by decide) rfl (fun ls hl => ?_)
        exact L_X13_isWord_39 l hN hT cx  _ hf e20 fr hp (lv_sub hl [2, 3, 1, 0] rfl)
      · have hf := fp hf c9
        refine lv_iconst (v := 1) hx hb dX13_isWord_31 (by decide) ?_
        refine lv_goto (tgt := 36) hx hb dX13_isWord_32 (by decide) ?_
        refine lv_istore_n (lv' := [(2, .int 1), (0, .ref (adr E 20 0)), (1, .ref (eK E w1))]) hx hb dX13_isWord_36 rfl hl (by decide) rfl (fun ls hl => ?_)
        refine lv_iconst (v := 0) hx hb dX13_isWord_37 (by decide) ?_
        refine lv_istore_n (lv' := [(3, .int 0), (2, .int 1), (0, .ref (adr E 20 0)), (1, .ref (eK E w1))]) hx hb dX13_isWord_38 rfl hl (by decide) rfl (fun ls hl => ?_)
        exact L_X13_isWord_39 l hN hT cx  _ hf e20 fr hp (lv_sub hl [2, 3, 1, 0] rfl)
abbrev rm_X13_wrong : Room := { frames := 0, cells := 0, slots := 0, locals := 0 }
set_option maxRecDepth 100000 in
set_option maxHeartbeats 4000000 in
theorem c_X13_wrong (l : Launch) {E : Ev} (hN : 146 ≤ eN E) (hT : St E) {σ : SM} {ρ : OM} (e20 : σ 20 = ρ) {p1 : Int32} {ρ' : OM} (hf : f_X13_wrong p1 ρ = some ρ') : Met l yX13_wrong (wC yX13_wrong cX13_wrong 2 none) rm_X13_wrong (va_Pc [.ref (adr E 20 0), .int p1] (Wu E σ)) (va_Qv (fun u => u 20 = ρ' ∧ ∀ q, q ≠ 20 → u q = σ q) (fun u t => Wu E u t) (eA E)) 0 0 (eA E) := by
  refine g_entry (lv := [(0, .ref (adr E 20 0)), (1, .int p1)]) (by decide) (Nat.le_of_ble_eq_true rfl) rfl ?_
  intro p e s m below meth c cx hp ls hl
  have hx := cx.1.1
  have hb := cx.1.2.1
  have fr : ∀ q, q ≠ 20 → σ q = σ q := fun _ _ => rfl
  unfold f_X13_wrong at hf
  refine lv_aload_n hx hb dX13_wrong_0 rfl (lv_at hl 0 rfl) ?_
  refine gF_X13_192 e20 hN cx hp dX13_wrong_1 ?_
  refine lv_if_ne (tgt := 25) hx hb dX13_wrong_4 (by decide) (fun c1 => ?_) (fun c1 => ?_)
  · have hf := fn hf c1
    cases hf
    exact r_v cx hp ⟨e20, fr⟩ dX13_wrong_25
  · have hf := fp hf c1
    refine lv_aload_n hx hb dX13_wrong_7 rfl (lv_at hl 0 rfl) ?_
    refine lv_iconst (v := 1) hx hb dX13_wrong_8 (by decide) ?_
    obtain ⟨ρ2, e_l, hf⟩ := fl hf
    refine pF_X13_192 e20 hN cx hp rfl rfl dX13_wrong_9 (fun u H locs e_u n_u hp => ?_)
    have e20 := e_u.trans e_l
    have fr : ∀ q, q ≠ 20 → u q = σ q := fun q h0 => (n_u q h0).trans (fr q h0)
    refine lv_aload_n hx hb dX13_wrong_12 rfl (lv_at hl 0 rfl) ?_
    refine lv_iload_n hx hb dX13_wrong_13 rfl (lv_at hl 1 rfl) ?_
    obtain ⟨ρ3, e_l, hf⟩ := fl hf
    refine pF_X13_196 e20 hN cx hp dX13_wrong_14 (fun u H locs e_u n_u hp => ?_)
    have e20 := e_u.trans e_l
    have fr : ∀ q, q ≠ 20 → u q = σ q := fun q h0 => (n_u q h0).trans (fr q h0)
    refine lv_aload_n hx hb dX13_wrong_17 rfl (lv_at hl 0 rfl) ?_
    refine lv_aload_n hx hb dX13_wrong_18 rfl (lv_at hl 0 rfl) ?_
    refine gF_X13_176 e20 hN cx hp dX13_wrong_19 ?_
    obtain ⟨ρ4, e_l, hf⟩ := fl hf
    refine pF_X13_25 e20 hN cx hp dX13_wrong_22 (fun u H locs e_u n_u hp => ?_)
    have e20 := e_u.trans e_l
    have fr : ∀ q, q ≠ 20 → u q = σ q := fun q h0 => (n_u q h0).trans (fr q h0)
    cases hf
    exact r_v cx hp ⟨e20, fr⟩ dX13_wrong_25
abbrev rm_X13_goesOn : Room := { frames := 3, cells := 0, slots := 0, locals := 63 }
set_option maxRecDepth 100000 in
set_option maxHeartbeats 4000000 in
theorem c_X13_goesOn (l : Launch) {E : Ev} (hN : 146 ≤ eN E) (hT : St E) {σ : SM} {ρ : OM} (e20 : σ 20 = ρ)  {ρ' : OM} (hf : f_X13_goesOn ρ = some ρ') : Met l yX13_goesOn (wC yX13_goesOn cX13_goesOn 1 none) rm_X13_goesOn (va_Pc [.ref (adr E 20 0)] (Wu E σ)) (va_Qv (fun u => u 20 = ρ' ∧ ∀ q, q ≠ 20 → u q = σ q) (fun u t => Wu E u t) (eA E)) 0 0 (eA E) := by
  refine g_entry (lv := [(0, .ref (adr E 20 0))]) (by decide) (Nat.le_of_ble_eq_true rfl) rfl ?_
  intro p e s m below meth c cx hp ls hl
  have hx := cx.1.1
  have hb := cx.1.2.1
  have fr : ∀ q, q ≠ 20 → σ q = σ q := fun _ _ => rfl
  unfold f_X13_goesOn at hf
  refine lv_aload_n hx hb dX13_goesOn_0 rfl (lv_at hl 0 rfl) ?_
  refine gF_X13_192 e20 hN cx hp dX13_goesOn_1 ?_
  refine lv_if_ne (tgt := 11) hx hb dX13_goesOn_4 (by decide) (fun c1 => ?_) (fun c1 => ?_)
  · have hf := fn hf c1
    cases hf
    exact r_v cx hp ⟨e20, fr⟩ dX13_goesOn_11
  · have hf := fp hf c1
    refine lv_aload_n hx hb dX13_goesOn_7 rfl (lv_at hl 0 rfl) ?_
    obtain ⟨ρ2, hc, hf⟩ := fb hf
    refine x_v hp (y_V (As := []) (rest := []) cx hp hl (c_X13_nextToken l hN hT e20 hc) (cw_X13_199 cx (mc := 0) (ms := 0) rfl rfl ⟨by decide, by decide⟩) (rC_X13 hN cx hp) rfl rfl (Nat.le_of_ble_eq_true rfl) dX13_goesOn_8 ⟨Nat.zero_le _, Nat.zero_le _⟩) (fun u_c H locs hq hp => ?_)
    obtain ⟨e_0, n_u⟩ := hq
    have e20 := e_0
    have fr : ∀ q, q ≠ 20 → u_c q = σ q := fun q h0 => (n_u q h0).trans (fr q h0)
    obtain ⟨u, rfl⟩ : ∃ z, u_c = z := ⟨_, rfl⟩
    cases hf
    exact r_v cx hp ⟨e20, fr⟩ dX13_goesOn_11
abbrev rm_X13_wantsWord : Room := { frames := 5, cells := 0, slots := 0, locals := 108 }
set_option maxRecDepth 100000 in
set_option maxHeartbeats 4000000 in
theorem c_X13_wantsWord (l : Launch) {E : Ev} (hN : 146 ≤ eN E) (hT : St E) {σ : SM} {ρ : OM} (e20 : σ 20 = ρ) {w1 : Nat} {ρ' : OM} (hf : f_X13_wantsWord w1 ρ = some ρ') : Met l yX13_wantsWord (wC yX13_wantsWord cX13_wantsWord 2 none) rm_X13_wantsWord (va_Pc [.ref (adr E 20 0), .ref (eK E w1)] (Wu E σ)) (va_Qv (fun u => u 20 = ρ' ∧ ∀ q, q ≠ 20 → u q = σ q) (fun u t => Wu E u t) (eA E)) 0 0 (eA E) := by
  refine g_entry (lv := [(0, .ref (adr E 20 0)), (1, .ref (eK E w1))]) (by decide) (Nat.le_of_ble_eq_true rfl) rfl ?_
  intro p e s m below meth c cx hp ls hl
  have hx := cx.1.1
  have hb := cx.1.2.1
  have fr : ∀ q, q ≠ 20 → σ q = σ q := fun _ _ => rfl
  unfold f_X13_wantsWord at hf
  refine lv_aload_n hx hb dX13_wantsWord_0 rfl (lv_at hl 0 rfl) ?_
  refine lv_aload_n hx hb dX13_wantsWord_1 rfl (lv_at hl 1 rfl) ?_
  obtain ⟨r1, hc, hf⟩ := fb hf
  refine x_i hp (y_V (As := [.ref (eK E w1)]) (rest := []) cx hp hl (c_X13_isWord l hN hT e20 hc) (cw_X13_202 cx (mc := 0) (ms := 0) rfl rfl ⟨by decide, by decide⟩) (rC_X13 hN cx hp) rfl rfl (Nat.le_of_ble_eq_true rfl) dX13_wantsWord_2 ⟨Nat.zero_le _, Nat.zero_le _⟩) (fun r_c u_c H locs hq hp => ?_)
  obtain ⟨rfl, rfl⟩ := hq
  refine lv_if_ne (tgt := 13) hx hb dX13_wantsWord_5 (by decide) (fun c2 => ?_) (fun c2 => ?_)
  · have hf := fn hf c2
    refine lv_aload_n hx hb dX13_wantsWord_13 rfl (lv_at hl 0 rfl) ?_
    obtain ⟨ρ3, hc, hf⟩ := fb hf
    refine x_v hp (y_V (As := []) (rest := []) cx hp hl (c_X13_goesOn l hN hT e20 hc) (cw_X13_209 cx (mc := 0) (ms := 0) rfl rfl ⟨by decide, by decide⟩) (rC_X13 hN cx hp) rfl rfl (Nat.le_of_ble_eq_true rfl) dX13_wantsWord_14 ⟨Nat.zero_le _, Nat.zero_le _⟩) (fun u_c H locs hq hp => ?_)
    obtain ⟨e_0, n_u⟩ := hq
    have e20 := e_0
    have fr : ∀ q, q ≠ 20 → u_c q = σ q := fun q h0 => (n_u q h0).trans (fr q h0)
    obtain ⟨u, rfl⟩ : ∃ z, u_c = z := ⟨_, rfl⟩
    cases hf
    exact r_v cx hp ⟨e20, fr⟩ dX13_wantsWord_17
  · have hf := fp hf c2
    refine lv_aload_n hx hb dX13_wantsWord_8 rfl (lv_at hl 0 rfl) ?_
    refine lv_iconst (v := 1) hx hb dX13_wantsWord_9 (by decide) ?_
    obtain ⟨ρ4, hc, hf⟩ := fb hf
    refine x_v hp (y_V (As := [.int 1]) (rest := []) cx hp hl (c_X13_wrong l hN hT e20 hc) (cw_X13_206 cx (mc := 0) (ms := 0) rfl rfl ⟨by decide, by decide⟩) (rC_X13 hN cx hp) rfl rfl (Nat.le_of_ble_eq_true rfl) dX13_wantsWord_10 ⟨Nat.zero_le _, Nat.zero_le _⟩) (fun u_c H locs hq hp => ?_)
    obtain ⟨e_0, n_u⟩ := hq
    have e20 := e_0
    have fr : ∀ q, q ≠ 20 → u_c q = σ q := fun q h0 => (n_u q h0).trans (fr q h0)
    obtain ⟨u, rfl⟩ : ∃ z, u_c = z := ⟨_, rfl⟩
    refine lv_aload_n hx hb dX13_wantsWord_13 rfl (lv_at hl 0 rfl) ?_
    obtain ⟨ρ5, hc, hf⟩ := fb hf
    refine x_v hp (y_V (As := []) (rest := []) cx hp hl (c_X13_goesOn l hN hT e20 hc) (cw_X13_209 cx (mc := 0) (ms := 0) rfl rfl ⟨by decide, by decide⟩) (rC_X13 hN cx hp) rfl rfl (Nat.le_of_ble_eq_true rfl) dX13_wantsWord_14 ⟨Nat.zero_le _, Nat.zero_le _⟩) (fun u_c H locs hq hp => ?_)
    obtain ⟨e_0, n_u⟩ := hq
    have e20 := e_0
    have fr : ∀ q, q ≠ 20 → u_c q = σ q := fun q h0 => (n_u q h0).trans (fr q h0)
    obtain ⟨u, rfl⟩ : ∃ z, u_c = z := ⟨_, rfl⟩
    cases hf
    exact r_v cx hp ⟨e20, fr⟩ dX13_wantsWord_17
abbrev rm_X13_wantsSemicolon : Room := { frames := 4, cells := 0, slots := 0, locals := 83 }
set_option maxRecDepth 100000 in
set_option maxHeartbeats 4000000 in
theorem c_X13_wantsSemicolon (l : Launch) {E : Ev} (hN : 146 ≤ eN E) (hT : St E) {σ : SM} {ρ : OM} (e20 : σ 20 = ρ)  {ρ' : OM} (hf : f_X13_wantsSemicolon ρ = some ρ') : Met l yX13_wantsSemicolon (wC yX13_wantsSemicolon cX13_wantsSemicolon 1 none) rm_X13_wantsSemicolon (va_Pc [.ref (adr E 20 0)] (Wu E σ)) (va_Qv (fun u => u 20 = ρ' ∧ ∀ q, q ≠ 20 → u q = σ q) (fun u t => Wu E u t) (eA E)) 0 0 (eA E) := by
  refine g_entry (lv := [(0, .ref (adr E 20 0))]) (by decide) (Nat.le_of_ble_eq_true rfl) rfl ?_
  intro p e s m below meth c cx hp ls hl
  have hx := cx.1.1
  have hb := cx.1.2.1
  have fr : ∀ q, q ≠ 20 → σ q = σ q := fun _ _ => rfl
  unfold f_X13_wantsSemicolon at hf
  refine lv_aload_n hx hb dX13_wantsSemicolon_0 rfl (lv_at hl 0 rfl) ?_
  refine gF_X13_192 e20 hN cx hp dX13_wantsSemicolon_1 ?_
  refine lv_if_ne (tgt := 29) hx hb dX13_wantsSemicolon_4 (by decide) (fun c1 => ?_) (fun c1 => ?_)
  · have hf := fn hf c1
    refine lv_aload_n hx hb dX13_wantsSemicolon_29 rfl (lv_at hl 0 rfl) ?_
    refine lv_iconst (v := 1) hx hb dX13_wantsSemicolon_30 (by decide) ?_
    obtain ⟨ρ2, hc, hf⟩ := fb hf
    refine x_v hp (y_V (As := [.int 1]) (rest := []) cx hp hl (c_X13_wrong l hN hT e20 hc) (cw_X13_206 cx (mc := 0) (ms := 0) rfl rfl ⟨by decide, by decide⟩) (rC_X13 hN cx hp) rfl rfl (Nat.le_of_ble_eq_true rfl) dX13_wantsSemicolon_31 ⟨Nat.zero_le _, Nat.zero_le _⟩) (fun u_c H locs hq hp => ?_)
    obtain ⟨e_0, n_u⟩ := hq
    have e20 := e_0
    have fr : ∀ q, q ≠ 20 → u_c q = σ q := fun q h0 => (n_u q h0).trans (fr q h0)
    obtain ⟨u, rfl⟩ : ∃ z, u_c = z := ⟨_, rfl⟩
    refine lv_aload_n hx hb dX13_wantsSemicolon_34 rfl (lv_at hl 0 rfl) ?_
    obtain ⟨ρ3, hc, hf⟩ := fb hf
    refine x_v hp (y_V (As := []) (rest := []) cx hp hl (c_X13_goesOn l hN hT e20 hc) (cw_X13_209 cx (mc := 0) (ms := 0) rfl rfl ⟨by decide, by decide⟩) (rC_X13 hN cx hp) rfl rfl (Nat.le_of_ble_eq_true rfl) dX13_wantsSemicolon_35 ⟨Nat.zero_le _, Nat.zero_le _⟩) (fun u_c H locs hq hp => ?_)
    obtain ⟨e_0, n_u⟩ := hq
    have e20 := e_0
    have fr : ∀ q, q ≠ 20 → u_c q = σ q := fun q h0 => (n_u q h0).trans (fr q h0)
    obtain ⟨u, rfl⟩ : ∃ z, u_c = z := ⟨_, rfl⟩
    cases hf
    exact r_v cx hp ⟨e20, fr⟩ dX13_wantsSemicolon_38
  · have hf := fp hf c1
    refine lv_aload_n hx hb dX13_wantsSemicolon_7 rfl (lv_at hl 0 rfl) ?_
    refine gF_X13_179 e20 hN cx hp dX13_wantsSemicolon_8 ?_
    refine lv_iconst (v := 3) hx hb dX13_wantsSemicolon_11 (by decide) ?_
    refine lv_icmp_ne (tgt := 29) hx hb dX13_wantsSemicolon_12 (by decide) (fun c4 => ?_) (fun c4 => ?_)
    · have hf := fn hf c4
      refine lv_aload_n hx hb dX13_wantsSemicolon_29 rfl (lv_at hl 0 rfl) ?_
      refine lv_iconst (v := 1) hx hb dX13_wantsSemicolon_30 (by decide) ?_
      obtain ⟨ρ5, hc, hf⟩ := fb hf
      refine x_v hp (y_V (As := [.int 1]) (rest := []) cx hp hl (c_X13_wrong l hN hT e20 hc) (cw_X13_206 cx (mc := 0) (ms := 0) rfl rfl ⟨by decide, by decide⟩) (rC_X13 hN cx hp) rfl rfl (Nat.le_of_ble_eq_true rfl) dX13_wantsSemicolon_31 ⟨Nat.zero_le _, Nat.zero_le _⟩) (fun u_c H locs hq hp => ?_)
      obtain ⟨e_0, n_u⟩ := hq
      have e20 := e_0
      have fr : ∀ q, q ≠ 20 → u_c q = σ q := fun q h0 => (n_u q h0).trans (fr q h0)
      obtain ⟨u, rfl⟩ : ∃ z, u_c = z := ⟨_, rfl⟩
      refine lv_aload_n hx hb dX13_wantsSemicolon_34 rfl (lv_at hl 0 rfl) ?_
      obtain ⟨ρ6, hc, hf⟩ := fb hf
      refine x_v hp (y_V (As := []) (rest := []) cx hp hl (c_X13_goesOn l hN hT e20 hc) (cw_X13_209 cx (mc := 0) (ms := 0) rfl rfl ⟨by decide, by decide⟩) (rC_X13 hN cx hp) rfl rfl (Nat.le_of_ble_eq_true rfl) dX13_wantsSemicolon_35 ⟨Nat.zero_le _, Nat.zero_le _⟩) (fun u_c H locs hq hp => ?_)
      obtain ⟨e_0, n_u⟩ := hq
      have e20 := e_0
      have fr : ∀ q, q ≠ 20 → u_c q = σ q := fun q h0 => (n_u q h0).trans (fr q h0)
      obtain ⟨u, rfl⟩ : ∃ z, u_c = z := ⟨_, rfl⟩
      cases hf
      exact r_v cx hp ⟨e20, fr⟩ dX13_wantsSemicolon_38
    · have hf := fp hf c4
      refine lv_aload_n hx hb dX13_wantsSemicolon_15 rfl (lv_at hl 0 rfl) ?_
      refine gF_X13_22 rfl hN cx hp dX13_wantsSemicolon_16 ?_
      refine lv_aload_n hx hb dX13_wantsSemicolon_19 rfl (lv_at hl 0 rfl) ?_
      refine gF_X13_176 e20 hN cx hp dX13_wantsSemicolon_20 ?_
      obtain ⟨g_i, hf⟩ := fg hf
      refine lA_X13_5 e20 hN cx hp g_i dX13_wantsSemicolon_23 ?_
      refine lv_bipush (v := 59) hx hb dX13_wantsSemicolon_24 (by decide) ?_
      refine lv_icmp_eq (tgt := 34) hx hb dX13_wantsSemicolon_26 (by decide) (fun c7 => ?_) (fun c7 => ?_)
      · have hf := fp hf c7
        refine lv_aload_n hx hb dX13_wantsSemicolon_34 rfl (lv_at hl 0 rfl) ?_
        obtain ⟨ρ8, hc, hf⟩ := fb hf
        refine x_v hp (y_V (As := []) (rest := []) cx hp hl (c_X13_goesOn l hN hT e20 hc) (cw_X13_209 cx (mc := 0) (ms := 0) rfl rfl ⟨by decide, by decide⟩) (rC_X13 hN cx hp) rfl rfl (Nat.le_of_ble_eq_true rfl) dX13_wantsSemicolon_35 ⟨Nat.zero_le _, Nat.zero_le _⟩) (fun u_c H locs hq hp => ?_)
        obtain ⟨e_0, n_u⟩ := hq
        have e20 := e_0
        have fr : ∀ q, q ≠ 20 → u_c q = σ q := fun q h0 => (n_u q h0).trans (fr q h0)
        obtain ⟨u, rfl⟩ : ∃ z, u_c = z := ⟨_, rfl⟩
        cases hf
        exact r_v cx hp ⟨e20, fr⟩ dX13_wantsSemicolon_38
      · have hf := fn hf c7
        refine lv_aload_n hx hb dX13_wantsSemicolon_29 rfl (lv_at hl 0 rfl) ?_
        refine lv_iconst (v := 1) hx hb dX13_wantsSemicolon_30 (by decide) ?_
        obtain ⟨ρ9, hc, hf⟩ := fb hf
        refine x_v hp (y_V (As := [.int 1]) (rest := []) cx hp hl (c_X13_wrong l hN hT e20 hc) (cw_X13_206 cx (mc := 0) (ms := 0) rfl rfl ⟨by decide, by decide⟩) (rC_X13 hN cx hp) rfl rfl (Nat.le_of_ble_eq_true rfl) dX13_wantsSemicolon_31 ⟨Nat.zero_le _, Nat.zero_le _⟩) (fun u_c H locs hq hp => ?_)
        obtain ⟨e_0, n_u⟩ := hq
        have e20 := e_0
        have fr : ∀ q, q ≠ 20 → u_c q = σ q := fun q h0 => (n_u q h0).trans (fr q h0)
        obtain ⟨u, rfl⟩ : ∃ z, u_c = z := ⟨_, rfl⟩
        refine lv_aload_n hx hb dX13_wantsSemicolon_34 rfl (lv_at hl 0 rfl) ?_
        obtain ⟨ρ10, hc, hf⟩ := fb hf
        refine x_v hp (y_V (As := []) (rest := []) cx hp hl (c_X13_goesOn l hN hT e20 hc) (cw_X13_209 cx (mc := 0) (ms := 0) rfl rfl ⟨by decide, by decide⟩) (rC_X13 hN cx hp) rfl rfl (Nat.le_of_ble_eq_true rfl) dX13_wantsSemicolon_35 ⟨Nat.zero_le _, Nat.zero_le _⟩) (fun u_c H locs hq hp => ?_)
        obtain ⟨e_0, n_u⟩ := hq
        have e20 := e_0
        have fr : ∀ q, q ≠ 20 → u_c q = σ q := fun q h0 => (n_u q h0).trans (fr q h0)
        obtain ⟨u, rfl⟩ : ∃ z, u_c = z := ⟨_, rfl⟩
        cases hf
        exact r_v cx hp ⟨e20, fr⟩ dX13_wantsSemicolon_38
abbrev rm_X13_begins : Room := { frames := 3, cells := 0, slots := 0, locals := 63 }
set_option maxRecDepth 100000 in
set_option maxHeartbeats 4000000 in
theorem c_X13_begins (l : Launch) {E : Ev} (hN : 146 ≤ eN E) (hT : St E) {σ : SM} {ρ : OM} (e20 : σ 20 = ρ) {p1 : Int32} {rv : Int32} {ρ' : OM} (hf : f_X13_begins p1 ρ = some (rv, ρ')) : Met l yX13_begins (wC yX13_begins cX13_begins 2 (some .boolean)) rm_X13_begins (va_Pc [.ref (adr E 20 0), .int p1] (Wu E σ)) (va_Qi (fun r u => rv = r ∧ u 20 = ρ' ∧ ∀ q, q ≠ 20 → u q = σ q) (fun u t => Wu E u t) (eA E)) 0 0 (eA E) := by
  refine g_entry (lv := [(0, .ref (adr E 20 0)), (1, .int p1)]) (by decide) (Nat.le_of_ble_eq_true rfl) rfl ?_
  intro p e s m below meth c cx hp ls hl
  have hx := cx.1.1
  have hb := cx.1.2.1
  have fr : ∀ q, q ≠ 20 → σ q = σ q := fun _ _ => rfl
  unfold f_X13_begins at hf
  refine lv_iload_n hx hb dX13_begins_0 rfl (lv_at hl 1 rfl) ?_
  refine lv_bipush (v := 8) hx hb dX13_begins_1 (by decide) ?_
  refine lv_icmp_ne (tgt := 13) hx hb dX13_begins_3 (by decide) (fun c1 => ?_) (fun c1 => ?_)
  · have hf := fn hf c1
    refine lv_aload_n hx hb dX13_begins_13 rfl (lv_at hl 0 rfl) ?_
    obtain ⟨ρ2, hc, hf⟩ := fb hf
    refine x_v hp (y_V (As := []) (rest := []) cx hp hl (c_X13_nextToken l hN hT e20 hc) (cw_X13_199 cx (mc := 0) (ms := 0) rfl rfl ⟨by decide, by decide⟩) (rC_X13 hN cx hp) rfl rfl (Nat.le_of_ble_eq_true rfl) dX13_begins_14 ⟨Nat.zero_le _, Nat.zero_le _⟩) (fun u_c H locs hq hp => ?_)
    obtain ⟨e_0, n_u⟩ := hq
    have e20 := e_0
    have fr : ∀ q, q ≠ 20 → u_c q = σ q := fun q h0 => (n_u q h0).trans (fr q h0)
    obtain ⟨u, rfl⟩ : ∃ z, u_c = z := ⟨_, rfl⟩
    refine lv_iconst (v := 1) hx hb dX13_begins_17 (by decide) ?_
    cases hf
    exact r_z cx hp rfl ⟨rfl, e20, fr⟩ dX13_begins_18
  · have hf := fp hf c1
    refine lv_aload_n hx hb dX13_begins_6 rfl (lv_at hl 0 rfl) ?_
    refine lv_iconst (v := 5) hx hb dX13_begins_7 (by decide) ?_
    obtain ⟨ρ3, hc, hf⟩ := fb hf
    refine x_v hp (y_V (As := [.int 5]) (rest := []) cx hp hl (c_X13_wrong l hN hT e20 hc) (cw_X13_206 cx (mc := 0) (ms := 0) rfl rfl ⟨by decide, by decide⟩) (rC_X13 hN cx hp) rfl rfl (Nat.le_of_ble_eq_true rfl) dX13_begins_8 ⟨Nat.zero_le _, Nat.zero_le _⟩) (fun u_c H locs hq hp => ?_)
    obtain ⟨e_0, n_u⟩ := hq
    have e20 := e_0
    have fr : ∀ q, q ≠ 20 → u_c q = σ q := fun q h0 => (n_u q h0).trans (fr q h0)
    obtain ⟨u, rfl⟩ : ∃ z, u_c = z := ⟨_, rfl⟩
    refine lv_iconst (v := 0) hx hb dX13_begins_11 (by decide) ?_
    cases hf
    exact r_z cx hp rfl ⟨rfl, e20, fr⟩ dX13_begins_12
abbrev rm_X13_letterSum : Room := { frames := 0, cells := 0, slots := 0, locals := 0 }
set_option maxRecDepth 100000 in
set_option maxHeartbeats 4000000 in
theorem L_X13_letterSum_5 {p : Program} {e : Env} {s : State} {m : MethodId} {args : Array Value} {below : List Frame} {meth : Method} {c : Code} (l : Launch) {E : Ev} (hN : 146 ≤ eN E) (hT : St E) {σ : SM} (cx : Cx E p s m meth c args RX13 cX13_letterSum 5 (some .int)) {x2 : Int32} {ρ : OM} {rv : Int32} : ∀ (n : Nat) {x4 : Int32} {x3 : Int32}, f_X13_letterSum_5 x2 ρ n x4 x3 = some rv → ∀ {u : SM} {H : Heap} {locs : List Loc} {ls : Array Slot}, u 20 = ρ → (∀ q, u q = σ q) → Hp E u s H locs → lv_has ls 5 [(0, .ref (adr E 20 0)), (2, .int x2), (3, .int x3), (4, .int x4)] → W p l e rm_X13_letterSum s m args below meth c H locs 0 0 (MQ below (va_Qi (fun r u => rv = r ∧ σ = u) (fun u t => Wu E u t) (eA E)) args s 0 0 (eA E)) (F0 m 5 ls []) := by
  have hx := cx.1.1
  have hb := cx.1.2.1
  intro n
  induction n with
  | zero =>
    intro x4 x3 hf
    exact absurd hf (by simp [f_X13_letterSum_5])
  | succ n ih =>
    intro x4 x3 hf u H locs ls e20 fr hp hl
    rw [f_X13_letterSum_5] at hf
    refine lv_iload hx hb dX13_letterSum_5 (lv_at hl 3 rfl) ?_
    refine lv_iload_n hx hb dX13_letterSum_7 rfl (lv_at hl 1 rfl) ?_
    refine lv_icmp_ge (tgt := 33) hx hb dX13_letterSum_8 (by decide) (fun c1 => ?_) (fun c1 => ?_)
    · have hf := fp hf c1
      refine lv_iload_n hx hb dX13_letterSum_33 rfl (lv_at hl 2 rfl) ?_
      cases hf
      exact r_i cx hp ⟨rfl, (funext fr).symm⟩ dX13_letterSum_34
    · have hf := fn hf c1
      refine lv_bipush (v := 27) hx hb dX13_letterSum_11 (by decide) ?_
      refine lv_iload_n hx hb dX13_letterSum_13 rfl (lv_at hl 2 rfl) ?_
      refine lv_imul hx hb dX13_letterSum_14 ?_
      refine lv_aload_n hx hb dX13_letterSum_15 rfl (lv_at hl 0 rfl) ?_
      refine gF_X13_22 rfl hN cx hp dX13_letterSum_16 ?_
      refine lv_iload hx hb dX13_letterSum_19 (lv_at hl 3 rfl) ?_
      obtain ⟨g_i, hf⟩ := fg hf
      refine lA_X13_5 e20 hN cx hp g_i dX13_letterSum_21 ?_
      refine lv_iadd hx hb dX13_letterSum_22 ?_
      refine lv_bipush (v := 96) hx hb dX13_letterSum_23 (by decide) ?_
      refine lv_isub hx hb dX13_letterSum_25 ?_
      obtain ⟨i2, x_e, hf⟩ := fl hf
      refine lv_nm x_e ?_
      refine lv_istore_n (lv' := [(3, .int i2), (0, .ref (adr E 20 0)), (2, .int x2), (4, .int x4)]) hx hb dX13_letterSum_26 rfl hl (by decide) rfl (fun ls hl => ?_)
      refine lv_iinc (v := (x4 + 1)) (lv' := [(4, .int (x4 + 1)), (3, .int i2), (0, .ref (adr E 20 0)), (2, .int x2)]) hx hb dX13_letterSum_27 hl (k := 3) rfl rfl (by decide) rfl (fun ls hl => ?_)
      refine lv_goto (tgt := 5) hx hb dX13_letterSum_30 (by decide) ?_
      exact ih  hf e20 fr hp (lv_sub hl [2, 3, 1, 0] rfl)
set_option maxRecDepth 100000 in
set_option maxHeartbeats 4000000 in
theorem c_X13_letterSum (l : Launch) {E : Ev} (hN : 146 ≤ eN E) (hT : St E) {σ : SM} {ρ : OM} (e20 : σ 20 = ρ) {p1 : Int32} {p2 : Int32} {rv : Int32} (hf : f_X13_letterSum p1 p2 ρ = some rv) : Met l yX13_letterSum (wC yX13_letterSum cX13_letterSum 5 (some .int)) rm_X13_letterSum (va_Pc [.ref (adr E 20 0), .int p1, .int p2] (Wu E σ)) (va_Qi (fun r u => rv = r ∧ σ = u) (fun u t => Wu E u t) (eA E)) 0 0 (eA E) := by
  refine g_entry (lv := [(0, .ref (adr E 20 0)), (1, .int p1), (2, .int p2)]) (by decide) (Nat.le_of_ble_eq_true rfl) rfl ?_
  intro p e s m below meth c cx hp ls hl
  have hx := cx.1.1
  have hb := cx.1.2.1
  have fr : ∀ q, σ q = σ q := fun _ => rfl
  unfold f_X13_letterSum at hf
  refine lv_iconst (v := 0) hx hb dX13_letterSum_0 (by decide) ?_
  refine lv_istore_n (lv' := [(3, .int 0), (0, .ref (adr E 20 0)), (1, .int p1), (2, .int p2)]) hx hb dX13_letterSum_1 rfl hl (by decide) rfl (fun ls hl => ?_)
  refine lv_iload_n hx hb dX13_letterSum_2 rfl (lv_at hl 2 rfl) ?_
  refine lv_istore (lv' := [(4, .int p1), (3, .int 0), (0, .ref (adr E 20 0)), (1, .int p1), (2, .int p2)]) hx hb dX13_letterSum_3 hl (by decide) rfl (fun ls hl => ?_)
  exact L_X13_letterSum_5 l hN hT cx  _ hf e20 fr hp (lv_sub hl [2, 4, 1, 0] rfl)
abbrev rm_X13_seesName : Room := { frames := 1, cells := 0, slots := 0, locals := 24 }
set_option maxRecDepth 100000 in
set_option maxHeartbeats 4000000 in
theorem c_X13_seesName (l : Launch) {E : Ev} (hN : 146 ≤ eN E) (hT : St E) {σ : SM} {ρ : OM} (e20 : σ 20 = ρ)  {rv : Int32} {ρ' : OM} (hf : f_X13_seesName ρ = some (rv, ρ')) : Met l yX13_seesName (wC yX13_seesName cX13_seesName 2 (some .int)) rm_X13_seesName (va_Pc [.ref (adr E 20 0)] (Wu E σ)) (va_Qi (fun r u => rv = r ∧ u 20 = ρ' ∧ ∀ q, q ≠ 20 → u q = σ q) (fun u t => Wu E u t) (eA E)) 0 0 (eA E) := by
  refine g_entry (lv := [(0, .ref (adr E 20 0))]) (by decide) (Nat.le_of_ble_eq_true rfl) rfl ?_
  intro p e s m below meth c cx hp ls hl
  have hx := cx.1.1
  have hb := cx.1.2.1
  have fr : ∀ q, q ≠ 20 → σ q = σ q := fun _ _ => rfl
  unfold f_X13_seesName at hf
  refine lv_iconst (v := 0) hx hb dX13_seesName_0 (by decide) ?_
  refine lv_istore_n (lv' := [(1, .int 0), (0, .ref (adr E 20 0))]) hx hb dX13_seesName_1 rfl hl (by decide) rfl (fun ls hl => ?_)
  refine lv_aload_n hx hb dX13_seesName_2 rfl (lv_at hl 1 rfl) ?_
  refine gF_X13_192 e20 hN cx hp dX13_seesName_3 ?_
  refine lv_if_ne (tgt := 60) hx hb dX13_seesName_6 (by decide) (fun c1 => ?_) (fun c1 => ?_)
  · have hf := fn hf c1
    refine lv_iload_n hx hb dX13_seesName_60 rfl (lv_at hl 0 rfl) ?_
    cases hf
    exact r_i cx hp ⟨rfl, e20, fr⟩ dX13_seesName_61
  · have hf := fp hf c1
    refine lv_aload_n hx hb dX13_seesName_9 rfl (lv_at hl 1 rfl) ?_
    refine gF_X13_179 e20 hN cx hp dX13_seesName_10 ?_
    refine lv_iconst (v := 1) hx hb dX13_seesName_13 (by decide) ?_
    refine lv_icmp_eq (tgt := 25) hx hb dX13_seesName_14 (by decide) (fun c2 => ?_) (fun c2 => ?_)
    · have hf := fp hf c2
      refine lv_aload_n hx hb dX13_seesName_25 rfl (lv_at hl 1 rfl) ?_
      refine gF_X13_173 e20 hN cx hp dX13_seesName_26 ?_
      refine lv_aload_n hx hb dX13_seesName_29 rfl (lv_at hl 1 rfl) ?_
      refine gF_X13_176 e20 hN cx hp dX13_seesName_30 ?_
      refine lv_isub hx hb dX13_seesName_33 ?_
      refine lv_bipush (v := 6) hx hb dX13_seesName_34 (by decide) ?_
      refine lv_icmp_le (tgt := 47) hx hb dX13_seesName_36 (by decide) (fun c3 => ?_) (fun c3 => ?_)
      · have hf := fp hf c3
        refine lv_aload_n hx hb dX13_seesName_47 rfl (lv_at hl 1 rfl) ?_
        refine lv_aload_n hx hb dX13_seesName_48 rfl (lv_at hl 1 rfl) ?_
        refine gF_X13_176 e20 hN cx hp dX13_seesName_49 ?_
        refine lv_aload_n hx hb dX13_seesName_52 rfl (lv_at hl 1 rfl) ?_
        refine gF_X13_173 e20 hN cx hp dX13_seesName_53 ?_
        obtain ⟨r4, hc, hf⟩ := fb hf
        refine x_i hp (y_V (As := [.int (ρ.1 0 21), .int (ρ.1 0 22)]) (rest := []) cx hp hl (c_X13_letterSum l hN hT e20 hc) (cw_X13_212 cx (mc := 0) (ms := 0) rfl rfl ⟨by decide, by decide⟩) (rC_X13 hN cx hp) rfl rfl (Nat.le_of_ble_eq_true rfl) dX13_seesName_56 ⟨Nat.zero_le _, Nat.zero_le _⟩) (fun r_c u_c H locs hq hp => ?_)
        obtain ⟨rfl, rfl⟩ := hq
        refine lv_istore_n (lv' := [(1, .int r4), (0, .ref (adr E 20 0))]) hx hb dX13_seesName_59 rfl hl (by decide) rfl (fun ls hl => ?_)
        refine lv_iload_n hx hb dX13_seesName_60 rfl (lv_at hl 0 rfl) ?_
        cases hf
        exact r_i cx hp ⟨rfl, e20, fr⟩ dX13_seesName_61
      · have hf := fn hf c3
        refine lv_aload_n hx hb dX13_seesName_39 rfl (lv_at hl 1 rfl) ?_
        refine lv_iconst (v := 3) hx hb dX13_seesName_40 (by decide) ?_
        obtain ⟨ρ5, hc, hf⟩ := fb hf
        refine x_v hp (y_V (As := [.int 3]) (rest := []) cx hp hl (c_X13_wrong l hN hT e20 hc) (cw_X13_206 cx (mc := 0) (ms := 0) rfl rfl ⟨by decide, by decide⟩) (rC_X13 hN cx hp) rfl rfl (Nat.le_of_ble_eq_true rfl) dX13_seesName_41 ⟨Nat.zero_le _, Nat.zero_le _⟩) (fun u_c H locs hq hp => ?_)
        obtain ⟨e_0, n_u⟩ := hq
        have e20 := e_0
        have fr : ∀ q, q ≠ 20 → u_c q = σ q := fun q h0 => (n_u q h0).trans (fr q h0)
        obtain ⟨u, rfl⟩ : ∃ z, u_c = z := ⟨_, rfl⟩
        refine lv_goto (tgt := 60) hx hb dX13_seesName_44 (by decide) ?_
        refine lv_iload_n hx hb dX13_seesName_60 rfl (lv_at hl 0 rfl) ?_
        cases hf
        exact r_i cx hp ⟨rfl, e20, fr⟩ dX13_seesName_61
    · have hf := fn hf c2
      refine lv_aload_n hx hb dX13_seesName_17 rfl (lv_at hl 1 rfl) ?_
      refine lv_iconst (v := 1) hx hb dX13_seesName_18 (by decide) ?_
      obtain ⟨ρ6, hc, hf⟩ := fb hf
      refine x_v hp (y_V (As := [.int 1]) (rest := []) cx hp hl (c_X13_wrong l hN hT e20 hc) (cw_X13_206 cx (mc := 0) (ms := 0) rfl rfl ⟨by decide, by decide⟩) (rC_X13 hN cx hp) rfl rfl (Nat.le_of_ble_eq_true rfl) dX13_seesName_19 ⟨Nat.zero_le _, Nat.zero_le _⟩) (fun u_c H locs hq hp => ?_)
      obtain ⟨e_0, n_u⟩ := hq
      have e20 := e_0
      have fr : ∀ q, q ≠ 20 → u_c q = σ q := fun q h0 => (n_u q h0).trans (fr q h0)
      obtain ⟨u, rfl⟩ : ∃ z, u_c = z := ⟨_, rfl⟩
      refine lv_goto (tgt := 60) hx hb dX13_seesName_22 (by decide) ?_
      refine lv_iload_n hx hb dX13_seesName_60 rfl (lv_at hl 0 rfl) ?_
      cases hf
      exact r_i cx hp ⟨rfl, e20, fr⟩ dX13_seesName_61
abbrev rm_X13_stallNamed : Room := { frames := 0, cells := 0, slots := 0, locals := 0 }
set_option maxRecDepth 100000 in
set_option maxHeartbeats 4000000 in
theorem L_X13_stallNamed_2 {p : Program} {e : Env} {s : State} {m : MethodId} {args : Array Value} {below : List Frame} {meth : Method} {c : Code} (l : Launch) {E : Ev} (hN : 146 ≤ eN E) (hT : St E) {σ : SM} (cx : Cx E p s m meth c args RX13 cX13_stallNamed 3 (some .int)) {x1 : Int32} {ρ : OM} {rv : Int32} : ∀ (n : Nat) {x2 : Int32}, f_X13_stallNamed_2 x1 ρ n x2 = some rv → ∀ {u : SM} {H : Heap} {locs : List Loc} {ls : Array Slot}, u 20 = ρ → (∀ q, u q = σ q) → Hp E u s H locs → lv_has ls 3 [(0, .ref (adr E 20 0)), (1, .int x1), (2, .int x2)] → W p l e rm_X13_stallNamed s m args below meth c H locs 0 0 (MQ below (va_Qi (fun r u => rv = r ∧ σ = u) (fun u t => Wu E u t) (eA E)) args s 0 0 (eA E)) (F0 m 2 ls []) := by
  have hx := cx.1.1
  have hb := cx.1.2.1
  intro n
  induction n with
  | zero =>
    intro x2 hf
    exact absurd hf (by simp [f_X13_stallNamed_2])
  | succ n ih =>
    intro x2 hf u H locs ls e20 fr hp hl
    rw [f_X13_stallNamed_2] at hf
    refine lv_iload_n hx hb dX13_stallNamed_2 rfl (lv_at hl 2 rfl) ?_
    refine lv_aload_n hx hb dX13_stallNamed_3 rfl (lv_at hl 0 rfl) ?_
    refine gF_X13_7 rfl hN cx hp dX13_stallNamed_4 ?_
    refine lv_iconst (v := 1) hx hb dX13_stallNamed_7 (by decide) ?_
    obtain ⟨g_i, hf⟩ := fg hf
    refine lA_X13_1 e20 hN cx hp g_i dX13_stallNamed_8 ?_
    refine lv_icmp_ge (tgt := 35) hx hb dX13_stallNamed_9 (by decide) (fun c1 => ?_) (fun c1 => ?_)
    · have hf := fp hf c1
      refine lv_iconst (v := (-1)) hx hb dX13_stallNamed_35 (by decide) ?_
      cases hf
      exact r_i cx hp ⟨rfl, (funext fr).symm⟩ dX13_stallNamed_36
    · have hf := fn hf c1
      refine lv_aload_n hx hb dX13_stallNamed_12 rfl (lv_at hl 0 rfl) ?_
      refine gF_X13_7 rfl hN cx hp dX13_stallNamed_13 ?_
      refine lv_bipush (v := 9) hx hb dX13_stallNamed_16 (by decide) ?_
      refine lv_iconst (v := 2) hx hb dX13_stallNamed_18 (by decide) ?_
      refine lv_iload_n hx hb dX13_stallNamed_19 rfl (lv_at hl 2 rfl) ?_
      refine lv_imul hx hb dX13_stallNamed_20 ?_
      refine lv_iadd hx hb dX13_stallNamed_21 ?_
      obtain ⟨g_i, hf⟩ := fg hf
      refine lA_X13_1 e20 hN cx hp g_i dX13_stallNamed_22 ?_
      refine lv_iload_n hx hb dX13_stallNamed_23 rfl (lv_at hl 1 rfl) ?_
      refine lv_icmp_ne (tgt := 29) hx hb dX13_stallNamed_24 (by decide) (fun c2 => ?_) (fun c2 => ?_)
      · have hf := fn hf c2
        refine lv_iinc (v := (x2 + 1)) (lv' := [(2, .int (x2 + 1)), (0, .ref (adr E 20 0)), (1, .int x1)]) hx hb dX13_stallNamed_29 hl (k := 2) rfl rfl (by decide) rfl (fun ls hl => ?_)
        refine lv_goto (tgt := 2) hx hb dX13_stallNamed_32 (by decide) ?_
        exact ih  hf e20 fr hp (lv_sub hl [1, 2, 0] rfl)
      · have hf := fp hf c2
        refine lv_iload_n hx hb dX13_stallNamed_27 rfl (lv_at hl 2 rfl) ?_
        cases hf
        exact r_i cx hp ⟨rfl, (funext fr).symm⟩ dX13_stallNamed_28
set_option maxRecDepth 100000 in
set_option maxHeartbeats 4000000 in
theorem c_X13_stallNamed (l : Launch) {E : Ev} (hN : 146 ≤ eN E) (hT : St E) {σ : SM} {ρ : OM} (e20 : σ 20 = ρ) {p1 : Int32} {rv : Int32} (hf : f_X13_stallNamed p1 ρ = some rv) : Met l yX13_stallNamed (wC yX13_stallNamed cX13_stallNamed 3 (some .int)) rm_X13_stallNamed (va_Pc [.ref (adr E 20 0), .int p1] (Wu E σ)) (va_Qi (fun r u => rv = r ∧ σ = u) (fun u t => Wu E u t) (eA E)) 0 0 (eA E) := by
  refine g_entry (lv := [(0, .ref (adr E 20 0)), (1, .int p1)]) (by decide) (Nat.le_of_ble_eq_true rfl) rfl ?_
  intro p e s m below meth c cx hp ls hl
  have hx := cx.1.1
  have hb := cx.1.2.1
  have fr : ∀ q, σ q = σ q := fun _ => rfl
  unfold f_X13_stallNamed at hf
  refine lv_iconst (v := 0) hx hb dX13_stallNamed_0 (by decide) ?_
  refine lv_istore_n (lv' := [(2, .int 0), (0, .ref (adr E 20 0)), (1, .int p1)]) hx hb dX13_stallNamed_1 rfl hl (by decide) rfl (fun ls hl => ?_)
  exact L_X13_stallNamed_2 l hN hT cx  _ hf e20 fr hp (lv_sub hl [1, 2, 0] rfl)
abbrev rm_X13_wantsNumber : Room := { frames := 3, cells := 0, slots := 0, locals := 63 }
set_option maxRecDepth 100000 in
set_option maxHeartbeats 4000000 in
theorem c_X13_wantsNumber (l : Launch) {E : Ev} (hN : 146 ≤ eN E) (hT : St E) {σ : SM} {ρ : OM} (e20 : σ 20 = ρ) {p1 : Int32} {p2 : Int32} {rv : Int32} {ρ' : OM} (hf : f_X13_wantsNumber p1 p2 ρ = some (rv, ρ')) : Met l yX13_wantsNumber (wC yX13_wantsNumber cX13_wantsNumber 4 (some .int)) rm_X13_wantsNumber (va_Pc [.ref (adr E 20 0), .int p1, .int p2] (Wu E σ)) (va_Qi (fun r u => rv = r ∧ u 20 = ρ' ∧ ∀ q, q ≠ 20 → u q = σ q) (fun u t => Wu E u t) (eA E)) 0 0 (eA E) := by
  refine g_entry (lv := [(0, .ref (adr E 20 0)), (1, .int p1), (2, .int p2)]) (by decide) (Nat.le_of_ble_eq_true rfl) rfl ?_
  intro p e s m below meth c cx hp ls hl
  have hx := cx.1.1
  have hb := cx.1.2.1
  have fr : ∀ q, q ≠ 20 → σ q = σ q := fun _ _ => rfl
  unfold f_X13_wantsNumber at hf
  refine lv_iload_n hx hb dX13_wantsNumber_0 rfl (lv_at hl 1 rfl) ?_
  refine lv_istore_n (lv' := [(3, .int p1), (0, .ref (adr E 20 0)), (1, .int p1), (2, .int p2)]) hx hb dX13_wantsNumber_1 rfl hl (by decide) rfl (fun ls hl => ?_)
  refine lv_aload_n hx hb dX13_wantsNumber_2 rfl (lv_at hl 1 rfl) ?_
  refine gF_X13_192 e20 hN cx hp dX13_wantsNumber_3 ?_
  refine lv_if_ne (tgt := 54) hx hb dX13_wantsNumber_6 (by decide) (fun c1 => ?_) (fun c1 => ?_)
  · have hf := fn hf c1
    refine lv_iload_n hx hb dX13_wantsNumber_54 rfl (lv_at hl 0 rfl) ?_
    cases hf
    exact r_i cx hp ⟨rfl, e20, fr⟩ dX13_wantsNumber_55
  · have hf := fp hf c1
    refine lv_aload_n hx hb dX13_wantsNumber_9 rfl (lv_at hl 1 rfl) ?_
    refine gF_X13_179 e20 hN cx hp dX13_wantsNumber_10 ?_
    refine lv_iconst (v := 2) hx hb dX13_wantsNumber_13 (by decide) ?_
    refine lv_icmp_eq (tgt := 25) hx hb dX13_wantsNumber_14 (by decide) (fun c2 => ?_) (fun c2 => ?_)
    · have hf := fp hf c2
      refine lv_aload_n hx hb dX13_wantsNumber_25 rfl (lv_at hl 1 rfl) ?_
      refine gF_X13_188 e20 hN cx hp dX13_wantsNumber_26 ?_
      refine lv_iload_n hx hb dX13_wantsNumber_29 rfl (lv_at hl 2 rfl) ?_
      refine lv_iload_n hx hb dX13_wantsNumber_30 rfl (lv_at hl 3 rfl) ?_
      obtain ⟨r3, hc, hf⟩ := fb hf
      refine x_i hp (y_S (As := [.int (ρ.1 0 23), .int p1, .int p2]) (rest := []) cx hp hl (c_X13_isBetween l hN hT  hc) (cw_X13_90 cx (mc := 0) (ms := 0) rfl rfl ⟨by decide, by decide⟩) rfl rfl (Nat.le_of_ble_eq_true rfl) dX13_wantsNumber_31 ⟨Nat.zero_le _, Nat.zero_le _⟩) (fun r_c u_c H locs hq hp => ?_)
      obtain ⟨rfl, rfl⟩ := hq
      refine lv_if_ne (tgt := 45) hx hb dX13_wantsNumber_34 (by decide) (fun c4 => ?_) (fun c4 => ?_)
      · have hf := fn hf c4
        refine lv_aload_n hx hb dX13_wantsNumber_45 rfl (lv_at hl 1 rfl) ?_
        refine gF_X13_188 e20 hN cx hp dX13_wantsNumber_46 ?_
        obtain ⟨i5, x_e, hf⟩ := fl hf
        refine lv_nm x_e ?_
        refine lv_istore_n (lv' := [(3, .int i5), (0, .ref (adr E 20 0)), (1, .int p1), (2, .int p2)]) hx hb dX13_wantsNumber_49 rfl hl (by decide) rfl (fun ls hl => ?_)
        refine lv_aload_n hx hb dX13_wantsNumber_50 rfl (lv_at hl 1 rfl) ?_
        obtain ⟨ρ6, hc, hf⟩ := fb hf
        refine x_v hp (y_V (As := []) (rest := []) cx hp hl (c_X13_nextToken l hN hT e20 hc) (cw_X13_199 cx (mc := 0) (ms := 0) rfl rfl ⟨by decide, by decide⟩) (rC_X13 hN cx hp) rfl rfl (Nat.le_of_ble_eq_true rfl) dX13_wantsNumber_51 ⟨Nat.zero_le _, Nat.zero_le _⟩) (fun u_c H locs hq hp => ?_)
        obtain ⟨e_0, n_u⟩ := hq
        have e20 := e_0
        have fr : ∀ q, q ≠ 20 → u_c q = σ q := fun q h0 => (n_u q h0).trans (fr q h0)
        obtain ⟨u, rfl⟩ : ∃ z, u_c = z := ⟨_, rfl⟩
        refine lv_iload_n hx hb dX13_wantsNumber_54 rfl (lv_at hl 0 rfl) ?_
        cases hf
        exact r_i cx hp ⟨rfl, e20, fr⟩ dX13_wantsNumber_55
      · have hf := fp hf c4
        refine lv_aload_n hx hb dX13_wantsNumber_37 rfl (lv_at hl 1 rfl) ?_
        refine lv_iconst (v := 2) hx hb dX13_wantsNumber_38 (by decide) ?_
        obtain ⟨ρ7, hc, hf⟩ := fb hf
        refine x_v hp (y_V (As := [.int 2]) (rest := []) cx hp hl (c_X13_wrong l hN hT e20 hc) (cw_X13_206 cx (mc := 0) (ms := 0) rfl rfl ⟨by decide, by decide⟩) (rC_X13 hN cx hp) rfl rfl (Nat.le_of_ble_eq_true rfl) dX13_wantsNumber_39 ⟨Nat.zero_le _, Nat.zero_le _⟩) (fun u_c H locs hq hp => ?_)
        obtain ⟨e_0, n_u⟩ := hq
        have e20 := e_0
        have fr : ∀ q, q ≠ 20 → u_c q = σ q := fun q h0 => (n_u q h0).trans (fr q h0)
        obtain ⟨u, rfl⟩ : ∃ z, u_c = z := ⟨_, rfl⟩
        refine lv_goto (tgt := 54) hx hb dX13_wantsNumber_42 (by decide) ?_
        refine lv_iload_n hx hb dX13_wantsNumber_54 rfl (lv_at hl 0 rfl) ?_
        cases hf
        exact r_i cx hp ⟨rfl, e20, fr⟩ dX13_wantsNumber_55
    · have hf := fn hf c2
      refine lv_aload_n hx hb dX13_wantsNumber_17 rfl (lv_at hl 1 rfl) ?_
      refine lv_iconst (v := 1) hx hb dX13_wantsNumber_18 (by decide) ?_
      obtain ⟨ρ8, hc, hf⟩ := fb hf
      refine x_v hp (y_V (As := [.int 1]) (rest := []) cx hp hl (c_X13_wrong l hN hT e20 hc) (cw_X13_206 cx (mc := 0) (ms := 0) rfl rfl ⟨by decide, by decide⟩) (rC_X13 hN cx hp) rfl rfl (Nat.le_of_ble_eq_true rfl) dX13_wantsNumber_19 ⟨Nat.zero_le _, Nat.zero_le _⟩) (fun u_c H locs hq hp => ?_)
      obtain ⟨e_0, n_u⟩ := hq
      have e20 := e_0
      have fr : ∀ q, q ≠ 20 → u_c q = σ q := fun q h0 => (n_u q h0).trans (fr q h0)
      obtain ⟨u, rfl⟩ : ∃ z, u_c = z := ⟨_, rfl⟩
      refine lv_goto (tgt := 54) hx hb dX13_wantsNumber_22 (by decide) ?_
      refine lv_iload_n hx hb dX13_wantsNumber_54 rfl (lv_at hl 0 rfl) ?_
      cases hf
      exact r_i cx hp ⟨rfl, e20, fr⟩ dX13_wantsNumber_55
abbrev rm_X13_readsStall : Room := { frames := 5, cells := 0, slots := 0, locals := 108 }
set_option maxRecDepth 100000 in
set_option maxHeartbeats 4000000 in
theorem c_X13_readsStall (l : Launch) {E : Ev} (hN : 146 ≤ eN E) (hT : St E) {σ : SM} {ρ : OM} (e20 : σ 20 = ρ)  {ρ' : OM} (hf : f_X13_readsStall ρ = some ρ') : Met l yX13_readsStall (wC yX13_readsStall cX13_readsStall 4 none) rm_X13_readsStall (va_Pc [.ref (adr E 20 0)] (Wu E σ)) (va_Qv (fun u => u 20 = ρ' ∧ ∀ q, q ≠ 20 → u q = σ q) (fun u t => Wu E u t) (eA E)) 0 0 (eA E) := by
  refine g_entry (lv := [(0, .ref (adr E 20 0))]) (by decide) (Nat.le_of_ble_eq_true rfl) rfl ?_
  intro p e s m below meth c cx hp ls hl
  have hx := cx.1.1
  have hb := cx.1.2.1
  have fr : ∀ q, q ≠ 20 → σ q = σ q := fun _ _ => rfl
  unfold f_X13_readsStall at hf
  refine lv_aload_n hx hb dX13_readsStall_0 rfl (lv_at hl 0 rfl) ?_
  refine lv_aload_n hx hb dX13_readsStall_1 rfl (lv_at hl 0 rfl) ?_
  refine gF_X13_7 rfl hN cx hp dX13_readsStall_2 ?_
  refine lv_iconst (v := 1) hx hb dX13_readsStall_5 (by decide) ?_
  obtain ⟨g_i, hf⟩ := fg hf
  refine lA_X13_1 e20 hN cx hp g_i dX13_readsStall_6 ?_
  obtain ⟨r1, ρ2, hc, hf⟩ := fb2 hf
  refine x_i hp (y_V (As := [.int (ρ.1 1 (Int32.toNatClampNeg 1))]) (rest := []) cx hp hl (c_X13_begins l hN hT e20 hc) (cw_X13_229 cx (mc := 0) (ms := 0) rfl rfl ⟨by decide, by decide⟩) (rC_X13 hN cx hp) rfl rfl (Nat.le_of_ble_eq_true rfl) dX13_readsStall_7 ⟨Nat.zero_le _, Nat.zero_le _⟩) (fun r_c u_c H locs hq hp => ?_)
  obtain ⟨rfl, e_0, n_u⟩ := hq
  have e20 := e_0
  have fr : ∀ q, q ≠ 20 → u_c q = σ q := fun q h0 => (n_u q h0).trans (fr q h0)
  obtain ⟨u, rfl⟩ : ∃ z, u_c = z := ⟨_, rfl⟩
  refine lv_if_eq (tgt := 119) hx hb dX13_readsStall_10 (by decide) (fun c3 => ?_) (fun c3 => ?_)
  · have hf := fp hf c3
    cases hf
    exact r_v cx hp ⟨e20, fr⟩ dX13_readsStall_119
  · have hf := fn hf c3
    refine lv_aload_n hx hb dX13_readsStall_13 rfl (lv_at hl 0 rfl) ?_
    refine va_ldcS hx hb cx.1.2.2.2.1 (cx.2.2.1.2.2.2.1 26 _ rfl) dX13_readsStall_14 ?_
    obtain ⟨r4, hc, hf⟩ := fb hf
    refine x_i hp (y_V (As := [.ref (eK E 26)]) (rest := []) cx hp hl (c_X13_isWord l hN hT e20 hc) (cw_X13_202 cx (mc := 0) (ms := 0) rfl rfl ⟨by decide, by decide⟩) (rC_X13 hN cx hp) rfl rfl (Nat.le_of_ble_eq_true rfl) dX13_readsStall_16 ⟨Nat.zero_le _, Nat.zero_le _⟩) (fun r_c u_c H locs hq hp => ?_)
    obtain ⟨rfl, rfl⟩ := hq
    refine lv_istore_n (lv' := [(1, .int r4), (0, .ref (adr E 20 0))]) hx hb dX13_readsStall_19 rfl hl (by decide) rfl (fun ls hl => ?_)
    refine lv_aload_n hx hb dX13_readsStall_20 rfl (lv_at hl 1 rfl) ?_
    obtain ⟨r5, ρ6, hc, hf⟩ := fb2 hf
    refine x_i hp (y_V (As := []) (rest := []) cx hp hl (c_X13_seesName l hN hT e20 hc) (cw_X13_217 cx (mc := 0) (ms := 0) rfl rfl ⟨by decide, by decide⟩) (rC_X13 hN cx hp) rfl rfl (Nat.le_of_ble_eq_true rfl) dX13_readsStall_21 ⟨Nat.zero_le _, Nat.zero_le _⟩) (fun r_c u_c H locs hq hp => ?_)
    obtain ⟨rfl, e_0, n_u⟩ := hq
    have e20 := e_0
    have fr : ∀ q, q ≠ 20 → u_c q = σ q := fun q h0 => (n_u q h0).trans (fr q h0)
    obtain ⟨u, rfl⟩ : ∃ z, u_c = z := ⟨_, rfl⟩
    refine lv_istore_n (lv' := [(2, .int r5), (1, .int r4), (0, .ref (adr E 20 0))]) hx hb dX13_readsStall_24 rfl hl (by decide) rfl (fun ls hl => ?_)
    refine lv_aload_n hx hb dX13_readsStall_25 rfl (lv_at hl 2 rfl) ?_
    refine gF_X13_192 e20 hN cx hp dX13_readsStall_26 ?_
    refine lv_if_ne (tgt := 50) hx hb dX13_readsStall_29 (by decide) (fun c7 => ?_) (fun c7 => ?_)
    · have hf := fn hf c7
      refine lv_aload_n hx hb dX13_readsStall_50 rfl (lv_at hl 2 rfl) ?_
      obtain ⟨ρ8, hc, hf⟩ := fb hf
      refine x_v hp (y_V (As := []) (rest := []) cx hp hl (c_X13_goesOn l hN hT e20 hc) (cw_X13_209 cx (mc := 0) (ms := 0) rfl rfl ⟨by decide, by decide⟩) (rC_X13 hN cx hp) rfl rfl (Nat.le_of_ble_eq_true rfl) dX13_readsStall_51 ⟨Nat.zero_le _, Nat.zero_le _⟩) (fun u_c H locs hq hp => ?_)
      obtain ⟨e_0, n_u⟩ := hq
      have e20 := e_0
      have fr : ∀ q, q ≠ 20 → u_c q = σ q := fun q h0 => (n_u q h0).trans (fr q h0)
      obtain ⟨u, rfl⟩ : ∃ z, u_c = z := ⟨_, rfl⟩
      refine lv_aload_n hx hb dX13_readsStall_54 rfl (lv_at hl 2 rfl) ?_
      refine lv_iconst (v := 0) hx hb dX13_readsStall_55 (by decide) ?_
      refine lv_bipush (v := 99) hx hb dX13_readsStall_56 (by decide) ?_
      obtain ⟨r9, ρ10, hc, hf⟩ := fb2 hf
      refine x_i hp (y_V (As := [.int 0, .int 99]) (rest := []) cx hp hl (c_X13_wantsNumber l hN hT e20 hc) (cw_X13_232 cx (mc := 0) (ms := 0) rfl rfl ⟨by decide, by decide⟩) (rC_X13 hN cx hp) rfl rfl (Nat.le_of_ble_eq_true rfl) dX13_readsStall_58 ⟨Nat.zero_le _, Nat.zero_le _⟩) (fun r_c u_c H locs hq hp => ?_)
      obtain ⟨rfl, e_0, n_u⟩ := hq
      have e20 := e_0
      have fr : ∀ q, q ≠ 20 → u_c q = σ q := fun q h0 => (n_u q h0).trans (fr q h0)
      obtain ⟨u, rfl⟩ : ∃ z, u_c = z := ⟨_, rfl⟩
      refine lv_istore_n (lv' := [(3, .int r9), (2, .int r5), (1, .int r4), (0, .ref (adr E 20 0))]) hx hb dX13_readsStall_61 rfl hl (by decide) rfl (fun ls hl => ?_)
      refine lv_aload_n hx hb dX13_readsStall_62 rfl (lv_at hl 3 rfl) ?_
      obtain ⟨ρ11, hc, hf⟩ := fb hf
      refine x_v hp (y_V (As := []) (rest := []) cx hp hl (c_X13_wantsSemicolon l hN hT e20 hc) (cw_X13_235 cx (mc := 0) (ms := 0) rfl rfl ⟨by decide, by decide⟩) (rC_X13 hN cx hp) rfl rfl (Nat.le_of_ble_eq_true rfl) dX13_readsStall_63 ⟨Nat.zero_le _, Nat.zero_le _⟩) (fun u_c H locs hq hp => ?_)
      obtain ⟨e_0, n_u⟩ := hq
      have e20 := e_0
      have fr : ∀ q, q ≠ 20 → u_c q = σ q := fun q h0 => (n_u q h0).trans (fr q h0)
      obtain ⟨u, rfl⟩ : ∃ z, u_c = z := ⟨_, rfl⟩
      refine lv_aload_n hx hb dX13_readsStall_66 rfl (lv_at hl 3 rfl) ?_
      refine gF_X13_192 e20 hN cx hp dX13_readsStall_67 ?_
      refine lv_if_ne (tgt := 119) hx hb dX13_readsStall_70 (by decide) (fun c12 => ?_) (fun c12 => ?_)
      · have hf := fn hf c12
        cases hf
        exact r_v cx hp ⟨e20, fr⟩ dX13_readsStall_119
      · have hf := fp hf c12
        refine lv_aload_n hx hb dX13_readsStall_73 rfl (lv_at hl 3 rfl) ?_
        refine gF_X13_7 rfl hN cx hp dX13_readsStall_74 ?_
        refine lv_bipush (v := 9) hx hb dX13_readsStall_77 (by decide) ?_
        refine lv_iconst (v := 2) hx hb dX13_readsStall_79 (by decide) ?_
        refine lv_aload_n hx hb dX13_readsStall_80 rfl (lv_at hl 3 rfl) ?_
        refine gF_X13_7 rfl hN cx hp dX13_readsStall_81 ?_
        refine lv_iconst (v := 1) hx hb dX13_readsStall_84 (by decide) ?_
        obtain ⟨g_i, hf⟩ := fg hf
        refine lA_X13_1 e20 hN cx hp g_i dX13_readsStall_85 ?_
        refine lv_imul hx hb dX13_readsStall_86 ?_
        refine lv_iadd hx hb dX13_readsStall_87 ?_
        refine lv_iload_n hx hb dX13_readsStall_88 rfl (lv_at hl 1 rfl) ?_
        obtain ⟨g_i, hf⟩ := fg hf
        obtain ⟨ρ13, e_l, hf⟩ := fl hf
        refine sA_X13_1 e20 hN cx hp g_i dX13_readsStall_89 (fun u H locs e_u n_u hp => ?_)
        have e20 := e_u.trans e_l
        have fr : ∀ q, q ≠ 20 → u q = σ q := fun q h0 => (n_u q h0).trans (fr q h0)
        refine lv_aload_n hx hb dX13_readsStall_90 rfl (lv_at hl 3 rfl) ?_
        refine gF_X13_7 rfl hN cx hp dX13_readsStall_91 ?_
        refine lv_bipush (v := 9) hx hb dX13_readsStall_94 (by decide) ?_
        refine lv_iconst (v := 2) hx hb dX13_readsStall_96 (by decide) ?_
        refine lv_aload_n hx hb dX13_readsStall_97 rfl (lv_at hl 3 rfl) ?_
        refine gF_X13_7 rfl hN cx hp dX13_readsStall_98 ?_
        refine lv_iconst (v := 1) hx hb dX13_readsStall_101 (by decide) ?_
        obtain ⟨g_i, hf⟩ := fg hf
        refine lA_X13_1 e20 hN cx hp g_i dX13_readsStall_102 ?_
        refine lv_imul hx hb dX13_readsStall_103 ?_
        refine lv_iadd hx hb dX13_readsStall_104 ?_
        refine lv_iconst (v := 1) hx hb dX13_readsStall_105 (by decide) ?_
        refine lv_iadd hx hb dX13_readsStall_106 ?_
        refine lv_iload_n hx hb dX13_readsStall_107 rfl (lv_at hl 0 rfl) ?_
        obtain ⟨g_i, hf⟩ := fg hf
        obtain ⟨ρ14, e_l, hf⟩ := fl hf
        refine sA_X13_1 e20 hN cx hp g_i dX13_readsStall_108 (fun u H locs e_u n_u hp => ?_)
        have e20 := e_u.trans e_l
        have fr : ∀ q, q ≠ 20 → u q = σ q := fun q h0 => (n_u q h0).trans (fr q h0)
        refine lv_aload_n hx hb dX13_readsStall_109 rfl (lv_at hl 3 rfl) ?_
        refine gF_X13_7 rfl hN cx hp dX13_readsStall_110 ?_
        refine lv_iconst (v := 1) hx hb dX13_readsStall_113 (by decide) ?_
        refine lv_dup2_11 hx hb dX13_readsStall_114 rfl rfl ?_
        obtain ⟨g_i, hf⟩ := fg hf
        refine lA_X13_1 e20 hN cx hp g_i dX13_readsStall_115 ?_
        refine lv_iconst (v := 1) hx hb dX13_readsStall_116 (by decide) ?_
        refine lv_iadd hx hb dX13_readsStall_117 ?_
        obtain ⟨g_i, hf⟩ := fg hf
        obtain ⟨ρ15, e_l, hf⟩ := fl hf
        refine sA_X13_1 e20 hN cx hp g_i dX13_readsStall_118 (fun u H locs e_u n_u hp => ?_)
        have e20 := e_u.trans e_l
        have fr : ∀ q, q ≠ 20 → u q = σ q := fun q h0 => (n_u q h0).trans (fr q h0)
        cases hf
        exact r_v cx hp ⟨e20, fr⟩ dX13_readsStall_119
    · have hf := fp hf c7
      refine lv_iload_n hx hb dX13_readsStall_32 rfl (lv_at hl 1 rfl) ?_
      refine lv_if_ne (tgt := 45) hx hb dX13_readsStall_33 (by decide) (fun c16 => ?_) (fun c16 => ?_)
      · have hf := fn hf c16
        refine lv_aload_n hx hb dX13_readsStall_45 rfl (lv_at hl 2 rfl) ?_
        refine lv_iconst (v := 3) hx hb dX13_readsStall_46 (by decide) ?_
        obtain ⟨ρ17, hc, hf⟩ := fb hf
        refine x_v hp (y_V (As := [.int 3]) (rest := []) cx hp hl (c_X13_wrong l hN hT e20 hc) (cw_X13_206 cx (mc := 0) (ms := 0) rfl rfl ⟨by decide, by decide⟩) (rC_X13 hN cx hp) rfl rfl (Nat.le_of_ble_eq_true rfl) dX13_readsStall_47 ⟨Nat.zero_le _, Nat.zero_le _⟩) (fun u_c H locs hq hp => ?_)
        obtain ⟨e_0, n_u⟩ := hq
        have e20 := e_0
        have fr : ∀ q, q ≠ 20 → u_c q = σ q := fun q h0 => (n_u q h0).trans (fr q h0)
        obtain ⟨u, rfl⟩ : ∃ z, u_c = z := ⟨_, rfl⟩
        refine lv_aload_n hx hb dX13_readsStall_50 rfl (lv_at hl 2 rfl) ?_
        obtain ⟨ρ18, hc, hf⟩ := fb hf
        refine x_v hp (y_V (As := []) (rest := []) cx hp hl (c_X13_goesOn l hN hT e20 hc) (cw_X13_209 cx (mc := 0) (ms := 0) rfl rfl ⟨by decide, by decide⟩) (rC_X13 hN cx hp) rfl rfl (Nat.le_of_ble_eq_true rfl) dX13_readsStall_51 ⟨Nat.zero_le _, Nat.zero_le _⟩) (fun u_c H locs hq hp => ?_)
        obtain ⟨e_0, n_u⟩ := hq
        have e20 := e_0
        have fr : ∀ q, q ≠ 20 → u_c q = σ q := fun q h0 => (n_u q h0).trans (fr q h0)
        obtain ⟨u, rfl⟩ : ∃ z, u_c = z := ⟨_, rfl⟩
        refine lv_aload_n hx hb dX13_readsStall_54 rfl (lv_at hl 2 rfl) ?_
        refine lv_iconst (v := 0) hx hb dX13_readsStall_55 (by decide) ?_
        refine lv_bipush (v := 99) hx hb dX13_readsStall_56 (by decide) ?_
        obtain ⟨r19, ρ20, hc, hf⟩ := fb2 hf
        refine x_i hp (y_V (As := [.int 0, .int 99]) (rest := []) cx hp hl (c_X13_wantsNumber l hN hT e20 hc) (cw_X13_232 cx (mc := 0) (ms := 0) rfl rfl ⟨by decide, by decide⟩) (rC_X13 hN cx hp) rfl rfl (Nat.le_of_ble_eq_true rfl) dX13_readsStall_58 ⟨Nat.zero_le _, Nat.zero_le _⟩) (fun r_c u_c H locs hq hp => ?_)
        obtain ⟨rfl, e_0, n_u⟩ := hq
        have e20 := e_0
        have fr : ∀ q, q ≠ 20 → u_c q = σ q := fun q h0 => (n_u q h0).trans (fr q h0)
        obtain ⟨u, rfl⟩ : ∃ z, u_c = z := ⟨_, rfl⟩
        refine lv_istore_n (lv' := [(3, .int r19), (2, .int r5), (1, .int r4), (0, .ref (adr E 20 0))]) hx hb dX13_readsStall_61 rfl hl (by decide) rfl (fun ls hl => ?_)
        refine lv_aload_n hx hb dX13_readsStall_62 rfl (lv_at hl 3 rfl) ?_
        obtain ⟨ρ21, hc, hf⟩ := fb hf
        refine x_v hp (y_V (As := []) (rest := []) cx hp hl (c_X13_wantsSemicolon l hN hT e20 hc) (cw_X13_235 cx (mc := 0) (ms := 0) rfl rfl ⟨by decide, by decide⟩) (rC_X13 hN cx hp) rfl rfl (Nat.le_of_ble_eq_true rfl) dX13_readsStall_63 ⟨Nat.zero_le _, Nat.zero_le _⟩) (fun u_c H locs hq hp => ?_)
        obtain ⟨e_0, n_u⟩ := hq
        have e20 := e_0
        have fr : ∀ q, q ≠ 20 → u_c q = σ q := fun q h0 => (n_u q h0).trans (fr q h0)
        obtain ⟨u, rfl⟩ : ∃ z, u_c = z := ⟨_, rfl⟩
        refine lv_aload_n hx hb dX13_readsStall_66 rfl (lv_at hl 3 rfl) ?_
        refine gF_X13_192 e20 hN cx hp dX13_readsStall_67 ?_
        refine lv_if_ne (tgt := 119) hx hb dX13_readsStall_70 (by decide) (fun c22 => ?_) (fun c22 => ?_)
        · have hf := fn hf c22
          cases hf
          exact r_v cx hp ⟨e20, fr⟩ dX13_readsStall_119
        · have hf := fp hf c22
          refine lv_aload_n hx hb dX13_readsStall_73 rfl (lv_at hl 3 rfl) ?_
          refine gF_X13_7 rfl hN cx hp dX13_readsStall_74 ?_
          refine lv_bipush (v := 9) hx hb dX13_readsStall_77 (by decide) ?_
          refine lv_iconst (v := 2) hx hb dX13_readsStall_79 (by decide) ?_
          refine lv_aload_n hx hb dX13_readsStall_80 rfl (lv_at hl 3 rfl) ?_
          refine gF_X13_7 rfl hN cx hp dX13_readsStall_81 ?_
          refine lv_iconst (v := 1) hx hb dX13_readsStall_84 (by decide) ?_
          obtain ⟨g_i, hf⟩ := fg hf
          refine lA_X13_1 e20 hN cx hp g_i dX13_readsStall_85 ?_
          refine lv_imul hx hb dX13_readsStall_86 ?_
          refine lv_iadd hx hb dX13_readsStall_87 ?_
          refine lv_iload_n hx hb dX13_readsStall_88 rfl (lv_at hl 1 rfl) ?_
          obtain ⟨g_i, hf⟩ := fg hf
          obtain ⟨ρ23, e_l, hf⟩ := fl hf
          refine sA_X13_1 e20 hN cx hp g_i dX13_readsStall_89 (fun u H locs e_u n_u hp => ?_)
          have e20 := e_u.trans e_l
          have fr : ∀ q, q ≠ 20 → u q = σ q := fun q h0 => (n_u q h0).trans (fr q h0)
          refine lv_aload_n hx hb dX13_readsStall_90 rfl (lv_at hl 3 rfl) ?_
          refine gF_X13_7 rfl hN cx hp dX13_readsStall_91 ?_
          refine lv_bipush (v := 9) hx hb dX13_readsStall_94 (by decide) ?_
          refine lv_iconst (v := 2) hx hb dX13_readsStall_96 (by decide) ?_
          refine lv_aload_n hx hb dX13_readsStall_97 rfl (lv_at hl 3 rfl) ?_
          refine gF_X13_7 rfl hN cx hp dX13_readsStall_98 ?_
          refine lv_iconst (v := 1) hx hb dX13_readsStall_101 (by decide) ?_
          obtain ⟨g_i, hf⟩ := fg hf
          refine lA_X13_1 e20 hN cx hp g_i dX13_readsStall_102 ?_
          refine lv_imul hx hb dX13_readsStall_103 ?_
          refine lv_iadd hx hb dX13_readsStall_104 ?_
          refine lv_iconst (v := 1) hx hb dX13_readsStall_105 (by decide) ?_
          refine lv_iadd hx hb dX13_readsStall_106 ?_
          refine lv_iload_n hx hb dX13_readsStall_107 rfl (lv_at hl 0 rfl) ?_
          obtain ⟨g_i, hf⟩ := fg hf
          obtain ⟨ρ24, e_l, hf⟩ := fl hf
          refine sA_X13_1 e20 hN cx hp g_i dX13_readsStall_108 (fun u H locs e_u n_u hp => ?_)
          have e20 := e_u.trans e_l
          have fr : ∀ q, q ≠ 20 → u q = σ q := fun q h0 => (n_u q h0).trans (fr q h0)
          refine lv_aload_n hx hb dX13_readsStall_109 rfl (lv_at hl 3 rfl) ?_
          refine gF_X13_7 rfl hN cx hp dX13_readsStall_110 ?_
          refine lv_iconst (v := 1) hx hb dX13_readsStall_113 (by decide) ?_
          refine lv_dup2_11 hx hb dX13_readsStall_114 rfl rfl ?_
          obtain ⟨g_i, hf⟩ := fg hf
          refine lA_X13_1 e20 hN cx hp g_i dX13_readsStall_115 ?_
          refine lv_iconst (v := 1) hx hb dX13_readsStall_116 (by decide) ?_
          refine lv_iadd hx hb dX13_readsStall_117 ?_
          obtain ⟨g_i, hf⟩ := fg hf
          obtain ⟨ρ25, e_l, hf⟩ := fl hf
          refine sA_X13_1 e20 hN cx hp g_i dX13_readsStall_118 (fun u H locs e_u n_u hp => ?_)
          have e20 := e_u.trans e_l
          have fr : ∀ q, q ≠ 20 → u q = σ q := fun q h0 => (n_u q h0).trans (fr q h0)
          cases hf
          exact r_v cx hp ⟨e20, fr⟩ dX13_readsStall_119
      · have hf := fp hf c16
        refine lv_aload_n hx hb dX13_readsStall_36 rfl (lv_at hl 2 rfl) ?_
        refine lv_iload_n hx hb dX13_readsStall_37 rfl (lv_at hl 0 rfl) ?_
        obtain ⟨r26, hc, hf⟩ := fb hf
        refine x_i hp (y_V (As := [.int r5]) (rest := []) cx hp hl (c_X13_stallNamed l hN hT e20 hc) (cw_X13_220 cx (mc := 0) (ms := 0) rfl rfl ⟨by decide, by decide⟩) (rC_X13 hN cx hp) rfl rfl (Nat.le_of_ble_eq_true rfl) dX13_readsStall_38 ⟨Nat.zero_le _, Nat.zero_le _⟩) (fun r_c u_c H locs hq hp => ?_)
        obtain ⟨rfl, rfl⟩ := hq
        refine lv_iconst (v := (-1)) hx hb dX13_readsStall_41 (by decide) ?_
        refine lv_icmp_eq (tgt := 50) hx hb dX13_readsStall_42 (by decide) (fun c27 => ?_) (fun c27 => ?_)
        · have hf := fp hf c27
          refine lv_aload_n hx hb dX13_readsStall_50 rfl (lv_at hl 2 rfl) ?_
          obtain ⟨ρ28, hc, hf⟩ := fb hf
          refine x_v hp (y_V (As := []) (rest := []) cx hp hl (c_X13_goesOn l hN hT e20 hc) (cw_X13_209 cx (mc := 0) (ms := 0) rfl rfl ⟨by decide, by decide⟩) (rC_X13 hN cx hp) rfl rfl (Nat.le_of_ble_eq_true rfl) dX13_readsStall_51 ⟨Nat.zero_le _, Nat.zero_le _⟩) (fun u_c H locs hq hp => ?_)
          obtain ⟨e_0, n_u⟩ := hq
          have e20 := e_0
          have fr : ∀ q, q ≠ 20 → u_c q = σ q := fun q h0 => (n_u q h0).trans (fr q h0)
          obtain ⟨u, rfl⟩ : ∃ z, u_c = z := ⟨_, rfl⟩
          refine lv_aload_n hx hb dX13_readsStall_54 rfl (lv_at hl 2 rfl) ?_
          refine lv_iconst (v := 0) hx hb dX13_readsStall_55 (by decide) ?_
          refine lv_bipush (v := 99) hx hb dX13_readsStall_56 (by decide) ?_
          obtain ⟨r29, ρ30, hc, hf⟩ := fb2 hf
          refine x_i hp (y_V (As := [.int 0, .int 99]) (rest := []) cx hp hl (c_X13_wantsNumber l hN hT e20 hc) (cw_X13_232 cx (mc := 0) (ms := 0) rfl rfl ⟨by decide, by decide⟩) (rC_X13 hN cx hp) rfl rfl (Nat.le_of_ble_eq_true rfl) dX13_readsStall_58 ⟨Nat.zero_le _, Nat.zero_le _⟩) (fun r_c u_c H locs hq hp => ?_)
          obtain ⟨rfl, e_0, n_u⟩ := hq
          have e20 := e_0
          have fr : ∀ q, q ≠ 20 → u_c q = σ q := fun q h0 => (n_u q h0).trans (fr q h0)
          obtain ⟨u, rfl⟩ : ∃ z, u_c = z := ⟨_, rfl⟩
          refine lv_istore_n (lv' := [(3, .int r29), (2, .int r5), (1, .int r4), (0, .ref (adr E 20 0))]) hx hb dX13_readsStall_61 rfl hl (by decide) rfl (fun ls hl => ?_)
          refine lv_aload_n hx hb dX13_readsStall_62 rfl (lv_at hl 3 rfl) ?_
          obtain ⟨ρ31, hc, hf⟩ := fb hf
          refine x_v hp (y_V (As := []) (rest := []) cx hp hl (c_X13_wantsSemicolon l hN hT e20 hc) (cw_X13_235 cx (mc := 0) (ms := 0) rfl rfl ⟨by decide, by decide⟩) (rC_X13 hN cx hp) rfl rfl (Nat.le_of_ble_eq_true rfl) dX13_readsStall_63 ⟨Nat.zero_le _, Nat.zero_le _⟩) (fun u_c H locs hq hp => ?_)
          obtain ⟨e_0, n_u⟩ := hq
          have e20 := e_0
          have fr : ∀ q, q ≠ 20 → u_c q = σ q := fun q h0 => (n_u q h0).trans (fr q h0)
          obtain ⟨u, rfl⟩ : ∃ z, u_c = z := ⟨_, rfl⟩
          refine lv_aload_n hx hb dX13_readsStall_66 rfl (lv_at hl 3 rfl) ?_
          refine gF_X13_192 e20 hN cx hp dX13_readsStall_67 ?_
          refine lv_if_ne (tgt := 119) hx hb dX13_readsStall_70 (by decide) (fun c32 => ?_) (fun c32 => ?_)
          · have hf := fn hf c32
            cases hf
            exact r_v cx hp ⟨e20, fr⟩ dX13_readsStall_119
          · have hf := fp hf c32
            refine lv_aload_n hx hb dX13_readsStall_73 rfl (lv_at hl 3 rfl) ?_
            refine gF_X13_7 rfl hN cx hp dX13_readsStall_74 ?_
            refine lv_bipush (v := 9) hx hb dX13_readsStall_77 (by decide) ?_
            refine lv_iconst (v := 2) hx hb dX13_readsStall_79 (by decide) ?_
            refine lv_aload_n hx hb dX13_readsStall_80 rfl (lv_at hl 3 rfl) ?_
            refine gF_X13_7 rfl hN cx hp dX13_readsStall_81 ?_
            refine lv_iconst (v := 1) hx hb dX13_readsStall_84 (by decide) ?_
            obtain ⟨g_i, hf⟩ := fg hf
            refine lA_X13_1 e20 hN cx hp g_i dX13_readsStall_85 ?_
            refine lv_imul hx hb dX13_readsStall_86 ?_
            refine lv_iadd hx hb dX13_readsStall_87 ?_
            refine lv_iload_n hx hb dX13_readsStall_88 rfl (lv_at hl 1 rfl) ?_
            obtain ⟨g_i, hf⟩ := fg hf
            obtain ⟨ρ33, e_l, hf⟩ := fl hf
            refine sA_X13_1 e20 hN cx hp g_i dX13_readsStall_89 (fun u H locs e_u n_u hp => ?_)
            have e20 := e_u.trans e_l
            have fr : ∀ q, q ≠ 20 → u q = σ q := fun q h0 => (n_u q h0).trans (fr q h0)
            refine lv_aload_n hx hb dX13_readsStall_90 rfl (lv_at hl 3 rfl) ?_
            refine gF_X13_7 rfl hN cx hp dX13_readsStall_91 ?_
            refine lv_bipush (v := 9) hx hb dX13_readsStall_94 (by decide) ?_
            refine lv_iconst (v := 2) hx hb dX13_readsStall_96 (by decide) ?_
            refine lv_aload_n hx hb dX13_readsStall_97 rfl (lv_at hl 3 rfl) ?_
            refine gF_X13_7 rfl hN cx hp dX13_readsStall_98 ?_
            refine lv_iconst (v := 1) hx hb dX13_readsStall_101 (by decide) ?_
            obtain ⟨g_i, hf⟩ := fg hf
            refine lA_X13_1 e20 hN cx hp g_i dX13_readsStall_102 ?_
            refine lv_imul hx hb dX13_readsStall_103 ?_
            refine lv_iadd hx hb dX13_readsStall_104 ?_
            refine lv_iconst (v := 1) hx hb dX13_readsStall_105 (by decide) ?_
            refine lv_iadd hx hb dX13_readsStall_106 ?_
            refine lv_iload_n hx hb dX13_readsStall_107 rfl (lv_at hl 0 rfl) ?_
            obtain ⟨g_i, hf⟩ := fg hf
            obtain ⟨ρ34, e_l, hf⟩ := fl hf
            refine sA_X13_1 e20 hN cx hp g_i dX13_readsStall_108 (fun u H locs e_u n_u hp => ?_)
            have e20 := e_u.trans e_l
            have fr : ∀ q, q ≠ 20 → u q = σ q := fun q h0 => (n_u q h0).trans (fr q h0)
            refine lv_aload_n hx hb dX13_readsStall_109 rfl (lv_at hl 3 rfl) ?_
            refine gF_X13_7 rfl hN cx hp dX13_readsStall_110 ?_
            refine lv_iconst (v := 1) hx hb dX13_readsStall_113 (by decide) ?_
            refine lv_dup2_11 hx hb dX13_readsStall_114 rfl rfl ?_
            obtain ⟨g_i, hf⟩ := fg hf
            refine lA_X13_1 e20 hN cx hp g_i dX13_readsStall_115 ?_
            refine lv_iconst (v := 1) hx hb dX13_readsStall_116 (by decide) ?_
            refine lv_iadd hx hb dX13_readsStall_117 ?_
            obtain ⟨g_i, hf⟩ := fg hf
            obtain ⟨ρ35, e_l, hf⟩ := fl hf
            refine sA_X13_1 e20 hN cx hp g_i dX13_readsStall_118 (fun u H locs e_u n_u hp => ?_)
            have e20 := e_u.trans e_l
            have fr : ∀ q, q ≠ 20 → u q = σ q := fun q h0 => (n_u q h0).trans (fr q h0)
            cases hf
            exact r_v cx hp ⟨e20, fr⟩ dX13_readsStall_119
        · have hf := fn hf c27
          refine lv_aload_n hx hb dX13_readsStall_45 rfl (lv_at hl 2 rfl) ?_
          refine lv_iconst (v := 3) hx hb dX13_readsStall_46 (by decide) ?_
          obtain ⟨ρ36, hc, hf⟩ := fb hf
          refine x_v hp (y_V (As := [.int 3]) (rest := []) cx hp hl (c_X13_wrong l hN hT e20 hc) (cw_X13_206 cx (mc := 0) (ms := 0) rfl rfl ⟨by decide, by decide⟩) (rC_X13 hN cx hp) rfl rfl (Nat.le_of_ble_eq_true rfl) dX13_readsStall_47 ⟨Nat.zero_le _, Nat.zero_le _⟩) (fun u_c H locs hq hp => ?_)
          obtain ⟨e_0, n_u⟩ := hq
          have e20 := e_0
          have fr : ∀ q, q ≠ 20 → u_c q = σ q := fun q h0 => (n_u q h0).trans (fr q h0)
          obtain ⟨u, rfl⟩ : ∃ z, u_c = z := ⟨_, rfl⟩
          refine lv_aload_n hx hb dX13_readsStall_50 rfl (lv_at hl 2 rfl) ?_
          obtain ⟨ρ37, hc, hf⟩ := fb hf
          refine x_v hp (y_V (As := []) (rest := []) cx hp hl (c_X13_goesOn l hN hT e20 hc) (cw_X13_209 cx (mc := 0) (ms := 0) rfl rfl ⟨by decide, by decide⟩) (rC_X13 hN cx hp) rfl rfl (Nat.le_of_ble_eq_true rfl) dX13_readsStall_51 ⟨Nat.zero_le _, Nat.zero_le _⟩) (fun u_c H locs hq hp => ?_)
          obtain ⟨e_0, n_u⟩ := hq
          have e20 := e_0
          have fr : ∀ q, q ≠ 20 → u_c q = σ q := fun q h0 => (n_u q h0).trans (fr q h0)
          obtain ⟨u, rfl⟩ : ∃ z, u_c = z := ⟨_, rfl⟩
          refine lv_aload_n hx hb dX13_readsStall_54 rfl (lv_at hl 2 rfl) ?_
          refine lv_iconst (v := 0) hx hb dX13_readsStall_55 (by decide) ?_
          refine lv_bipush (v := 99) hx hb dX13_readsStall_56 (by decide) ?_
          obtain ⟨r38, ρ39, hc, hf⟩ := fb2 hf
          refine x_i hp (y_V (As := [.int 0, .int 99]) (rest := []) cx hp hl (c_X13_wantsNumber l hN hT e20 hc) (cw_X13_232 cx (mc := 0) (ms := 0) rfl rfl ⟨by decide, by decide⟩) (rC_X13 hN cx hp) rfl rfl (Nat.le_of_ble_eq_true rfl) dX13_readsStall_58 ⟨Nat.zero_le _, Nat.zero_le _⟩) (fun r_c u_c H locs hq hp => ?_)
          obtain ⟨rfl, e_0, n_u⟩ := hq
          have e20 := e_0
          have fr : ∀ q, q ≠ 20 → u_c q = σ q := fun q h0 => (n_u q h0).trans (fr q h0)
          obtain ⟨u, rfl⟩ : ∃ z, u_c = z := ⟨_, rfl⟩
          refine lv_istore_n (lv' := [(3, .int r38), (2, .int r5), (1, .int r4), (0, .ref (adr E 20 0))]) hx hb dX13_readsStall_61 rfl hl (by decide) rfl (fun ls hl => ?_)
          refine lv_aload_n hx hb dX13_readsStall_62 rfl (lv_at hl 3 rfl) ?_
          obtain ⟨ρ40, hc, hf⟩ := fb hf
          refine x_v hp (y_V (As := []) (rest := []) cx hp hl (c_X13_wantsSemicolon l hN hT e20 hc) (cw_X13_235 cx (mc := 0) (ms := 0) rfl rfl ⟨by decide, by decide⟩) (rC_X13 hN cx hp) rfl rfl (Nat.le_of_ble_eq_true rfl) dX13_readsStall_63 ⟨Nat.zero_le _, Nat.zero_le _⟩) (fun u_c H locs hq hp => ?_)
          obtain ⟨e_0, n_u⟩ := hq
          have e20 := e_0
          have fr : ∀ q, q ≠ 20 → u_c q = σ q := fun q h0 => (n_u q h0).trans (fr q h0)
          obtain ⟨u, rfl⟩ : ∃ z, u_c = z := ⟨_, rfl⟩
          refine lv_aload_n hx hb dX13_readsStall_66 rfl (lv_at hl 3 rfl) ?_
          refine gF_X13_192 e20 hN cx hp dX13_readsStall_67 ?_
          refine lv_if_ne (tgt := 119) hx hb dX13_readsStall_70 (by decide) (fun c41 => ?_) (fun c41 => ?_)
          · have hf := fn hf c41
            cases hf
            exact r_v cx hp ⟨e20, fr⟩ dX13_readsStall_119
          · have hf := fp hf c41
            refine lv_aload_n hx hb dX13_readsStall_73 rfl (lv_at hl 3 rfl) ?_
            refine gF_X13_7 rfl hN cx hp dX13_readsStall_74 ?_
            refine lv_bipush (v := 9) hx hb dX13_readsStall_77 (by decide) ?_
            refine lv_iconst (v := 2) hx hb dX13_readsStall_79 (by decide) ?_
            refine lv_aload_n hx hb dX13_readsStall_80 rfl (lv_at hl 3 rfl) ?_
            refine gF_X13_7 rfl hN cx hp dX13_readsStall_81 ?_
            refine lv_iconst (v := 1) hx hb dX13_readsStall_84 (by decide) ?_
            obtain ⟨g_i, hf⟩ := fg hf
            refine lA_X13_1 e20 hN cx hp g_i dX13_readsStall_85 ?_
            refine lv_imul hx hb dX13_readsStall_86 ?_
            refine lv_iadd hx hb dX13_readsStall_87 ?_
            refine lv_iload_n hx hb dX13_readsStall_88 rfl (lv_at hl 1 rfl) ?_
            obtain ⟨g_i, hf⟩ := fg hf
            obtain ⟨ρ42, e_l, hf⟩ := fl hf
            refine sA_X13_1 e20 hN cx hp g_i dX13_readsStall_89 (fun u H locs e_u n_u hp => ?_)
            have e20 := e_u.trans e_l
            have fr : ∀ q, q ≠ 20 → u q = σ q := fun q h0 => (n_u q h0).trans (fr q h0)
            refine lv_aload_n hx hb dX13_readsStall_90 rfl (lv_at hl 3 rfl) ?_
            refine gF_X13_7 rfl hN cx hp dX13_readsStall_91 ?_
            refine lv_bipush (v := 9) hx hb dX13_readsStall_94 (by decide) ?_
            refine lv_iconst (v := 2) hx hb dX13_readsStall_96 (by decide) ?_
            refine lv_aload_n hx hb dX13_readsStall_97 rfl (lv_at hl 3 rfl) ?_
            refine gF_X13_7 rfl hN cx hp dX13_readsStall_98 ?_
            refine lv_iconst (v := 1) hx hb dX13_readsStall_101 (by decide) ?_
            obtain ⟨g_i, hf⟩ := fg hf
            refine lA_X13_1 e20 hN cx hp g_i dX13_readsStall_102 ?_
            refine lv_imul hx hb dX13_readsStall_103 ?_
            refine lv_iadd hx hb dX13_readsStall_104 ?_
            refine lv_iconst (v := 1) hx hb dX13_readsStall_105 (by decide) ?_
            refine lv_iadd hx hb dX13_readsStall_106 ?_
            refine lv_iload_n hx hb dX13_readsStall_107 rfl (lv_at hl 0 rfl) ?_
            obtain ⟨g_i, hf⟩ := fg hf
            obtain ⟨ρ43, e_l, hf⟩ := fl hf
            refine sA_X13_1 e20 hN cx hp g_i dX13_readsStall_108 (fun u H locs e_u n_u hp => ?_)
            have e20 := e_u.trans e_l
            have fr : ∀ q, q ≠ 20 → u q = σ q := fun q h0 => (n_u q h0).trans (fr q h0)
            refine lv_aload_n hx hb dX13_readsStall_109 rfl (lv_at hl 3 rfl) ?_
            refine gF_X13_7 rfl hN cx hp dX13_readsStall_110 ?_
            refine lv_iconst (v := 1) hx hb dX13_readsStall_113 (by decide) ?_
            refine lv_dup2_11 hx hb dX13_readsStall_114 rfl rfl ?_
            obtain ⟨g_i, hf⟩ := fg hf
            refine lA_X13_1 e20 hN cx hp g_i dX13_readsStall_115 ?_
            refine lv_iconst (v := 1) hx hb dX13_readsStall_116 (by decide) ?_
            refine lv_iadd hx hb dX13_readsStall_117 ?_
            obtain ⟨g_i, hf⟩ := fg hf
            obtain ⟨ρ44, e_l, hf⟩ := fl hf
            refine sA_X13_1 e20 hN cx hp g_i dX13_readsStall_118 (fun u H locs e_u n_u hp => ?_)
            have e20 := e_u.trans e_l
            have fr : ∀ q, q ≠ 20 → u q = σ q := fun q h0 => (n_u q h0).trans (fr q h0)
            cases hf
            exact r_v cx hp ⟨e20, fr⟩ dX13_readsStall_119
abbrev rm_X13_of : Room := { frames := 0, cells := 0, slots := 0, locals := 0 }
set_option maxRecDepth 100000 in
set_option maxHeartbeats 4000000 in
theorem c_X13_of (l : Launch) {E : Ev} (hN : 146 ≤ eN E) (hT : St E) {σ : SM} {ρ : OM} (e20 : σ 20 = ρ) {p1 : Int32} {p2 : Int32} {rv : Int32} (hf : f_X13_of p1 p2 ρ = some rv) : Met l yX13_of (wC yX13_of cX13_of 3 (some .int)) rm_X13_of (va_Pc [.ref (adr E 20 0), .int p1, .int p2] (Wu E σ)) (va_Qi (fun r u => rv = r ∧ σ = u) (fun u t => Wu E u t) (eA E)) 0 0 (eA E) := by
  refine g_entry (lv := [(0, .ref (adr E 20 0)), (1, .int p1), (2, .int p2)]) (by decide) (Nat.le_of_ble_eq_true rfl) rfl ?_
  intro p e s m below meth c cx hp ls hl
  have hx := cx.1.1
  have hb := cx.1.2.1
  have fr : ∀ q, σ q = σ q := fun _ => rfl
  unfold f_X13_of at hf
  refine lv_aload_n hx hb dX13_of_0 rfl (lv_at hl 0 rfl) ?_
  refine gF_X13_7 rfl hN cx hp dX13_of_1 ?_
  refine lv_bipush (v := 25) hx hb dX13_of_4 (by decide) ?_
  refine lv_bipush (v := 13) hx hb dX13_of_6 (by decide) ?_
  refine lv_iload_n hx hb dX13_of_8 rfl (lv_at hl 1 rfl) ?_
  refine lv_imul hx hb dX13_of_9 ?_
  refine lv_iadd hx hb dX13_of_10 ?_
  refine lv_iload_n hx hb dX13_of_11 rfl (lv_at hl 2 rfl) ?_
  refine lv_iadd hx hb dX13_of_12 ?_
  obtain ⟨g_i, hf⟩ := fg hf
  refine lA_X13_1 e20 hN cx hp g_i dX13_of_13 ?_
  cases hf
  exact r_i cx hp ⟨rfl, (funext fr).symm⟩ dX13_of_14
abbrev rm_X13_sellerNamed : Room := { frames := 1, cells := 0, slots := 0, locals := 22 }
set_option maxRecDepth 100000 in
set_option maxHeartbeats 4000000 in
theorem L_X13_sellerNamed_2 {p : Program} {e : Env} {s : State} {m : MethodId} {args : Array Value} {below : List Frame} {meth : Method} {c : Code} (l : Launch) {E : Ev} (hN : 146 ≤ eN E) (hT : St E) {σ : SM} (cx : Cx E p s m meth c args RX13 cX13_sellerNamed 3 (some .int)) {x1 : Int32} {ρ : OM} {rv : Int32} : ∀ (n : Nat) {x2 : Int32}, f_X13_sellerNamed_2 x1 ρ n x2 = some rv → ∀ {u : SM} {H : Heap} {locs : List Loc} {ls : Array Slot}, u 20 = ρ → (∀ q, u q = σ q) → Hp E u s H locs → lv_has ls 3 [(0, .ref (adr E 20 0)), (1, .int x1), (2, .int x2)] → W p l e rm_X13_sellerNamed s m args below meth c H locs 0 0 (MQ below (va_Qi (fun r u => rv = r ∧ σ = u) (fun u t => Wu E u t) (eA E)) args s 0 0 (eA E)) (F0 m 2 ls []) := by
  have hx := cx.1.1
  have hb := cx.1.2.1
  intro n
  induction n with
  | zero =>
    intro x2 hf
    exact absurd hf (by simp [f_X13_sellerNamed_2])
  | succ n ih =>
    intro x2 hf u H locs ls e20 fr hp hl
    rw [f_X13_sellerNamed_2] at hf
    refine lv_iload_n hx hb dX13_sellerNamed_2 rfl (lv_at hl 2 rfl) ?_
    refine lv_aload_n hx hb dX13_sellerNamed_3 rfl (lv_at hl 0 rfl) ?_
    refine gF_X13_7 rfl hN cx hp dX13_sellerNamed_4 ?_
    refine lv_iconst (v := 0) hx hb dX13_sellerNamed_7 (by decide) ?_
    obtain ⟨g_i, hf⟩ := fg hf
    refine lA_X13_1 e20 hN cx hp g_i dX13_sellerNamed_8 ?_
    refine lv_icmp_ge (tgt := 30) hx hb dX13_sellerNamed_9 (by decide) (fun c1 => ?_) (fun c1 => ?_)
    · have hf := fp hf c1
      refine lv_iconst (v := (-1)) hx hb dX13_sellerNamed_30 (by decide) ?_
      cases hf
      exact r_i cx hp ⟨rfl, (funext fr).symm⟩ dX13_sellerNamed_31
    · have hf := fn hf c1
      refine lv_aload_n hx hb dX13_sellerNamed_12 rfl (lv_at hl 0 rfl) ?_
      refine lv_iload_n hx hb dX13_sellerNamed_13 rfl (lv_at hl 2 rfl) ?_
      refine lv_iconst (v := 0) hx hb dX13_sellerNamed_14 (by decide) ?_
      obtain ⟨r2, hc, hf⟩ := fb hf
      refine x_i hp (y_V (As := [.int x2, .int 0]) (rest := []) cx hp hl (c_X13_of l hN hT e20 hc) (cw_X13_98 cx (mc := 0) (ms := 0) rfl rfl ⟨by decide, by decide⟩) (rC_X13 hN cx hp) rfl rfl (Nat.le_of_ble_eq_true rfl) dX13_sellerNamed_15 ⟨Nat.zero_le _, Nat.zero_le _⟩) (fun r_c u_c H locs hq hp => ?_)
      obtain ⟨rfl, rfl⟩ := hq
      refine lv_iload_n hx hb dX13_sellerNamed_18 rfl (lv_at hl 1 rfl) ?_
      refine lv_icmp_ne (tgt := 24) hx hb dX13_sellerNamed_19 (by decide) (fun c3 => ?_) (fun c3 => ?_)
      · have hf := fn hf c3
        refine lv_iinc (v := (x2 + 1)) (lv' := [(2, .int (x2 + 1)), (0, .ref (adr E 20 0)), (1, .int x1)]) hx hb dX13_sellerNamed_24 hl (k := 2) rfl rfl (by decide) rfl (fun ls hl => ?_)
        refine lv_goto (tgt := 2) hx hb dX13_sellerNamed_27 (by decide) ?_
        exact ih  hf e20 fr hp (lv_sub hl [1, 2, 0] rfl)
      · have hf := fp hf c3
        refine lv_iload_n hx hb dX13_sellerNamed_22 rfl (lv_at hl 2 rfl) ?_
        cases hf
        exact r_i cx hp ⟨rfl, (funext fr).symm⟩ dX13_sellerNamed_23
set_option maxRecDepth 100000 in
set_option maxHeartbeats 4000000 in
theorem c_X13_sellerNamed (l : Launch) {E : Ev} (hN : 146 ≤ eN E) (hT : St E) {σ : SM} {ρ : OM} (e20 : σ 20 = ρ) {p1 : Int32} {rv : Int32} (hf : f_X13_sellerNamed p1 ρ = some rv) : Met l yX13_sellerNamed (wC yX13_sellerNamed cX13_sellerNamed 3 (some .int)) rm_X13_sellerNamed (va_Pc [.ref (adr E 20 0), .int p1] (Wu E σ)) (va_Qi (fun r u => rv = r ∧ σ = u) (fun u t => Wu E u t) (eA E)) 0 0 (eA E) := by
  refine g_entry (lv := [(0, .ref (adr E 20 0)), (1, .int p1)]) (by decide) (Nat.le_of_ble_eq_true rfl) rfl ?_
  intro p e s m below meth c cx hp ls hl
  have hx := cx.1.1
  have hb := cx.1.2.1
  have fr : ∀ q, σ q = σ q := fun _ => rfl
  unfold f_X13_sellerNamed at hf
  refine lv_iconst (v := 0) hx hb dX13_sellerNamed_0 (by decide) ?_
  refine lv_istore_n (lv' := [(2, .int 0), (0, .ref (adr E 20 0)), (1, .int p1)]) hx hb dX13_sellerNamed_1 rfl hl (by decide) rfl (fun ls hl => ?_)
  exact L_X13_sellerNamed_2 l hN hT cx  _ hf e20 fr hp (lv_sub hl [1, 2, 0] rfl)
abbrev rm_X13_sets : Room := { frames := 0, cells := 0, slots := 0, locals := 0 }
set_option maxRecDepth 100000 in
set_option maxHeartbeats 4000000 in
theorem c_X13_sets (l : Launch) {E : Ev} (hN : 146 ≤ eN E) (hT : St E) {σ : SM} {ρ : OM} (e20 : σ 20 = ρ) {p1 : Int32} {p2 : Int32} {p3 : Int32} {ρ' : OM} (hf : f_X13_sets p1 p2 p3 ρ = some ρ') : Met l yX13_sets (wC yX13_sets cX13_sets 4 none) rm_X13_sets (va_Pc [.ref (adr E 20 0), .int p1, .int p2, .int p3] (Wu E σ)) (va_Qv (fun u => u 20 = ρ' ∧ ∀ q, q ≠ 20 → u q = σ q) (fun u t => Wu E u t) (eA E)) 0 0 (eA E) := by
  refine g_entry (lv := [(0, .ref (adr E 20 0)), (1, .int p1), (2, .int p2), (3, .int p3)]) (by decide) (Nat.le_of_ble_eq_true rfl) rfl ?_
  intro p e s m below meth c cx hp ls hl
  have hx := cx.1.1
  have hb := cx.1.2.1
  have fr : ∀ q, q ≠ 20 → σ q = σ q := fun _ _ => rfl
  unfold f_X13_sets at hf
  refine lv_aload_n hx hb dX13_sets_0 rfl (lv_at hl 0 rfl) ?_
  refine gF_X13_7 rfl hN cx hp dX13_sets_1 ?_
  refine lv_bipush (v := 25) hx hb dX13_sets_4 (by decide) ?_
  refine lv_bipush (v := 13) hx hb dX13_sets_6 (by decide) ?_
  refine lv_iload_n hx hb dX13_sets_8 rfl (lv_at hl 1 rfl) ?_
  refine lv_imul hx hb dX13_sets_9 ?_
  refine lv_iadd hx hb dX13_sets_10 ?_
  refine lv_iload_n hx hb dX13_sets_11 rfl (lv_at hl 2 rfl) ?_
  refine lv_iadd hx hb dX13_sets_12 ?_
  refine lv_iload_n hx hb dX13_sets_13 rfl (lv_at hl 3 rfl) ?_
  obtain ⟨g_i, hf⟩ := fg hf
  obtain ⟨ρ1, e_l, hf⟩ := fl hf
  refine sA_X13_1 e20 hN cx hp g_i dX13_sets_14 (fun u H locs e_u n_u hp => ?_)
  have e20 := e_u.trans e_l
  have fr : ∀ q, q ≠ 20 → u q = σ q := fun q h0 => (n_u q h0).trans (fr q h0)
  cases hf
  exact r_v cx hp ⟨e20, fr⟩ dX13_sets_15
abbrev rm_X13_seesStall : Room := { frames := 5, cells := 0, slots := 0, locals := 108 }
set_option maxRecDepth 100000 in
set_option maxHeartbeats 4000000 in
theorem c_X13_seesStall (l : Launch) {E : Ev} (hN : 146 ≤ eN E) (hT : St E) {σ : SM} {ρ : OM} (e20 : σ 20 = ρ)  {rv : Int32} {ρ' : OM} (hf : f_X13_seesStall ρ = some (rv, ρ')) : Met l yX13_seesStall (wC yX13_seesStall cX13_seesStall 2 (some .int)) rm_X13_seesStall (va_Pc [.ref (adr E 20 0)] (Wu E σ)) (va_Qi (fun r u => rv = r ∧ u 20 = ρ' ∧ ∀ q, q ≠ 20 → u q = σ q) (fun u t => Wu E u t) (eA E)) 0 0 (eA E) := by
  refine g_entry (lv := [(0, .ref (adr E 20 0))]) (by decide) (Nat.le_of_ble_eq_true rfl) rfl ?_
  intro p e s m below meth c cx hp ls hl
  have hx := cx.1.1
  have hb := cx.1.2.1
  have fr : ∀ q, q ≠ 20 → σ q = σ q := fun _ _ => rfl
  unfold f_X13_seesStall at hf
  refine lv_aload_n hx hb dX13_seesStall_0 rfl (lv_at hl 0 rfl) ?_
  refine va_ldcS hx hb cx.1.2.2.2.1 (cx.2.2.1.2.2.2.1 26 _ rfl) dX13_seesStall_1 ?_
  obtain ⟨r1, hc, hf⟩ := fb hf
  refine x_i hp (y_V (As := [.ref (eK E 26)]) (rest := []) cx hp hl (c_X13_isWord l hN hT e20 hc) (cw_X13_202 cx (mc := 0) (ms := 0) rfl rfl ⟨by decide, by decide⟩) (rC_X13 hN cx hp) rfl rfl (Nat.le_of_ble_eq_true rfl) dX13_seesStall_3 ⟨Nat.zero_le _, Nat.zero_le _⟩) (fun r_c u_c H locs hq hp => ?_)
  obtain ⟨rfl, rfl⟩ := hq
  refine lv_if_eq (tgt := 14) hx hb dX13_seesStall_6 (by decide) (fun c2 => ?_) (fun c2 => ?_)
  · have hf := fp hf c2
    refine lv_aload_n hx hb dX13_seesStall_14 rfl (lv_at hl 0 rfl) ?_
    refine lv_aload_n hx hb dX13_seesStall_15 rfl (lv_at hl 0 rfl) ?_
    obtain ⟨r3, ρ4, hc, hf⟩ := fb2 hf
    refine x_i hp (y_V (As := []) (rest := [.ref (adr E 20 0)]) cx hp hl (c_X13_seesName l hN hT e20 hc) (cw_X13_217 cx (mc := 0) (ms := 0) rfl rfl ⟨by decide, by decide⟩) (rC_X13 hN cx hp) rfl rfl (Nat.le_of_ble_eq_true rfl) dX13_seesStall_16 ⟨Nat.zero_le _, Nat.zero_le _⟩) (fun r_c u_c H locs hq hp => ?_)
    obtain ⟨rfl, e_0, n_u⟩ := hq
    have e20 := e_0
    have fr : ∀ q, q ≠ 20 → u_c q = σ q := fun q h0 => (n_u q h0).trans (fr q h0)
    obtain ⟨u, rfl⟩ : ∃ z, u_c = z := ⟨_, rfl⟩
    obtain ⟨r5, hc, hf⟩ := fb hf
    refine x_i hp (y_V (As := [.int r3]) (rest := []) cx hp hl (c_X13_stallNamed l hN hT e20 hc) (cw_X13_220 cx (mc := 0) (ms := 0) rfl rfl ⟨by decide, by decide⟩) (rC_X13 hN cx hp) rfl rfl (Nat.le_of_ble_eq_true rfl) dX13_seesStall_19 ⟨Nat.zero_le _, Nat.zero_le _⟩) (fun r_c u_c H locs hq hp => ?_)
    obtain ⟨rfl, rfl⟩ := hq
    refine lv_istore_n (lv' := [(1, .int r5), (0, .ref (adr E 20 0))]) hx hb dX13_seesStall_22 rfl hl (by decide) rfl (fun ls hl => ?_)
    refine lv_aload_n hx hb dX13_seesStall_23 rfl (lv_at hl 1 rfl) ?_
    refine gF_X13_192 e20 hN cx hp dX13_seesStall_24 ?_
    refine lv_if_ne (tgt := 40) hx hb dX13_seesStall_27 (by decide) (fun c6 => ?_) (fun c6 => ?_)
    · have hf := fn hf c6
      refine lv_iload_n hx hb dX13_seesStall_40 rfl (lv_at hl 0 rfl) ?_
      cases hf
      exact r_i cx hp ⟨rfl, e20, fr⟩ dX13_seesStall_41
    · have hf := fp hf c6
      refine lv_iload_n hx hb dX13_seesStall_30 rfl (lv_at hl 0 rfl) ?_
      refine lv_iconst (v := (-1)) hx hb dX13_seesStall_31 (by decide) ?_
      refine lv_icmp_ne (tgt := 40) hx hb dX13_seesStall_32 (by decide) (fun c7 => ?_) (fun c7 => ?_)
      · have hf := fn hf c7
        refine lv_iload_n hx hb dX13_seesStall_40 rfl (lv_at hl 0 rfl) ?_
        cases hf
        exact r_i cx hp ⟨rfl, e20, fr⟩ dX13_seesStall_41
      · have hf := fp hf c7
        refine lv_aload_n hx hb dX13_seesStall_35 rfl (lv_at hl 1 rfl) ?_
        refine lv_iconst (v := 3) hx hb dX13_seesStall_36 (by decide) ?_
        obtain ⟨ρ8, hc, hf⟩ := fb hf
        refine x_v hp (y_V (As := [.int 3]) (rest := []) cx hp hl (c_X13_wrong l hN hT e20 hc) (cw_X13_206 cx (mc := 0) (ms := 0) rfl rfl ⟨by decide, by decide⟩) (rC_X13 hN cx hp) rfl rfl (Nat.le_of_ble_eq_true rfl) dX13_seesStall_37 ⟨Nat.zero_le _, Nat.zero_le _⟩) (fun u_c H locs hq hp => ?_)
        obtain ⟨e_0, n_u⟩ := hq
        have e20 := e_0
        have fr : ∀ q, q ≠ 20 → u_c q = σ q := fun q h0 => (n_u q h0).trans (fr q h0)
        obtain ⟨u, rfl⟩ : ∃ z, u_c = z := ⟨_, rfl⟩
        refine lv_iload_n hx hb dX13_seesStall_40 rfl (lv_at hl 0 rfl) ?_
        cases hf
        exact r_i cx hp ⟨rfl, e20, fr⟩ dX13_seesStall_41
  · have hf := fn hf c2
    refine lv_aload_n hx hb dX13_seesStall_9 rfl (lv_at hl 0 rfl) ?_
    refine lv_iconst (v := 1) hx hb dX13_seesStall_10 (by decide) ?_
    obtain ⟨ρ9, hc, hf⟩ := fb hf
    refine x_v hp (y_V (As := [.int 1]) (rest := []) cx hp hl (c_X13_wrong l hN hT e20 hc) (cw_X13_206 cx (mc := 0) (ms := 0) rfl rfl ⟨by decide, by decide⟩) (rC_X13 hN cx hp) rfl rfl (Nat.le_of_ble_eq_true rfl) dX13_seesStall_11 ⟨Nat.zero_le _, Nat.zero_le _⟩) (fun u_c H locs hq hp => ?_)
    obtain ⟨e_0, n_u⟩ := hq
    have e20 := e_0
    have fr : ∀ q, q ≠ 20 → u_c q = σ q := fun q h0 => (n_u q h0).trans (fr q h0)
    obtain ⟨u, rfl⟩ : ∃ z, u_c = z := ⟨_, rfl⟩
    refine lv_aload_n hx hb dX13_seesStall_14 rfl (lv_at hl 0 rfl) ?_
    refine lv_aload_n hx hb dX13_seesStall_15 rfl (lv_at hl 0 rfl) ?_
    obtain ⟨r10, ρ11, hc, hf⟩ := fb2 hf
    refine x_i hp (y_V (As := []) (rest := [.ref (adr E 20 0)]) cx hp hl (c_X13_seesName l hN hT e20 hc) (cw_X13_217 cx (mc := 0) (ms := 0) rfl rfl ⟨by decide, by decide⟩) (rC_X13 hN cx hp) rfl rfl (Nat.le_of_ble_eq_true rfl) dX13_seesStall_16 ⟨Nat.zero_le _, Nat.zero_le _⟩) (fun r_c u_c H locs hq hp => ?_)
    obtain ⟨rfl, e_0, n_u⟩ := hq
    have e20 := e_0
    have fr : ∀ q, q ≠ 20 → u_c q = σ q := fun q h0 => (n_u q h0).trans (fr q h0)
    obtain ⟨u, rfl⟩ : ∃ z, u_c = z := ⟨_, rfl⟩
    obtain ⟨r12, hc, hf⟩ := fb hf
    refine x_i hp (y_V (As := [.int r10]) (rest := []) cx hp hl (c_X13_stallNamed l hN hT e20 hc) (cw_X13_220 cx (mc := 0) (ms := 0) rfl rfl ⟨by decide, by decide⟩) (rC_X13 hN cx hp) rfl rfl (Nat.le_of_ble_eq_true rfl) dX13_seesStall_19 ⟨Nat.zero_le _, Nat.zero_le _⟩) (fun r_c u_c H locs hq hp => ?_)
    obtain ⟨rfl, rfl⟩ := hq
    refine lv_istore_n (lv' := [(1, .int r12), (0, .ref (adr E 20 0))]) hx hb dX13_seesStall_22 rfl hl (by decide) rfl (fun ls hl => ?_)
    refine lv_aload_n hx hb dX13_seesStall_23 rfl (lv_at hl 1 rfl) ?_
    refine gF_X13_192 e20 hN cx hp dX13_seesStall_24 ?_
    refine lv_if_ne (tgt := 40) hx hb dX13_seesStall_27 (by decide) (fun c13 => ?_) (fun c13 => ?_)
    · have hf := fn hf c13
      refine lv_iload_n hx hb dX13_seesStall_40 rfl (lv_at hl 0 rfl) ?_
      cases hf
      exact r_i cx hp ⟨rfl, e20, fr⟩ dX13_seesStall_41
    · have hf := fp hf c13
      refine lv_iload_n hx hb dX13_seesStall_30 rfl (lv_at hl 0 rfl) ?_
      refine lv_iconst (v := (-1)) hx hb dX13_seesStall_31 (by decide) ?_
      refine lv_icmp_ne (tgt := 40) hx hb dX13_seesStall_32 (by decide) (fun c14 => ?_) (fun c14 => ?_)
      · have hf := fn hf c14
        refine lv_iload_n hx hb dX13_seesStall_40 rfl (lv_at hl 0 rfl) ?_
        cases hf
        exact r_i cx hp ⟨rfl, e20, fr⟩ dX13_seesStall_41
      · have hf := fp hf c14
        refine lv_aload_n hx hb dX13_seesStall_35 rfl (lv_at hl 1 rfl) ?_
        refine lv_iconst (v := 3) hx hb dX13_seesStall_36 (by decide) ?_
        obtain ⟨ρ15, hc, hf⟩ := fb hf
        refine x_v hp (y_V (As := [.int 3]) (rest := []) cx hp hl (c_X13_wrong l hN hT e20 hc) (cw_X13_206 cx (mc := 0) (ms := 0) rfl rfl ⟨by decide, by decide⟩) (rC_X13 hN cx hp) rfl rfl (Nat.le_of_ble_eq_true rfl) dX13_seesStall_37 ⟨Nat.zero_le _, Nat.zero_le _⟩) (fun u_c H locs hq hp => ?_)
        obtain ⟨e_0, n_u⟩ := hq
        have e20 := e_0
        have fr : ∀ q, q ≠ 20 → u_c q = σ q := fun q h0 => (n_u q h0).trans (fr q h0)
        obtain ⟨u, rfl⟩ : ∃ z, u_c = z := ⟨_, rfl⟩
        refine lv_iload_n hx hb dX13_seesStall_40 rfl (lv_at hl 0 rfl) ?_
        cases hf
        exact r_i cx hp ⟨rfl, e20, fr⟩ dX13_seesStall_41
abbrev rm_X13_rank : Room := { frames := 1, cells := 0, slots := 0, locals := 22 }
set_option maxRecDepth 100000 in
set_option maxHeartbeats 4000000 in
theorem L_X13_rank_2 {p : Program} {e : Env} {s : State} {m : MethodId} {args : Array Value} {below : List Frame} {meth : Method} {c : Code} (l : Launch) {E : Ev} (hN : 146 ≤ eN E) (hT : St E) {σ : SM} (cx : Cx E p s m meth c args RX13 cX13_rank 4 (some .int)) {x1 : Int32} {x2 : Int32} {ρ : OM} {rv : Int32} : ∀ (n : Nat) {x3 : Int32}, f_X13_rank_2 x1 x2 ρ n x3 = some rv → ∀ {u : SM} {H : Heap} {locs : List Loc} {ls : Array Slot}, u 20 = ρ → (∀ q, u q = σ q) → Hp E u s H locs → lv_has ls 4 [(0, .ref (adr E 20 0)), (1, .int x1), (2, .int x2), (3, .int x3)] → W p l e rm_X13_rank s m args below meth c H locs 0 0 (MQ below (va_Qi (fun r u => rv = r ∧ σ = u) (fun u t => Wu E u t) (eA E)) args s 0 0 (eA E)) (F0 m 2 ls []) := by
  have hx := cx.1.1
  have hb := cx.1.2.1
  intro n
  induction n with
  | zero =>
    intro x3 hf
    exact absurd hf (by simp [f_X13_rank_2])
  | succ n ih =>
    intro x3 hf u H locs ls e20 fr hp hl
    rw [f_X13_rank_2] at hf
    refine lv_iload_n hx hb dX13_rank_2 rfl (lv_at hl 3 rfl) ?_
    refine lv_aload_n hx hb dX13_rank_3 rfl (lv_at hl 0 rfl) ?_
    refine lv_iload_n hx hb dX13_rank_4 rfl (lv_at hl 1 rfl) ?_
    refine lv_iconst (v := 4) hx hb dX13_rank_5 (by decide) ?_
    obtain ⟨r1, hc, hf⟩ := fb hf
    refine x_i hp (y_V (As := [.int x1, .int 4]) (rest := [.int x3]) cx hp hl (c_X13_of l hN hT e20 hc) (cw_X13_98 cx (mc := 0) (ms := 0) rfl rfl ⟨by decide, by decide⟩) (rC_X13 hN cx hp) rfl rfl (Nat.le_of_ble_eq_true rfl) dX13_rank_6 ⟨Nat.zero_le _, Nat.zero_le _⟩) (fun r_c u_c H locs hq hp => ?_)
    obtain ⟨rfl, rfl⟩ := hq
    refine lv_icmp_ge (tgt := 32) hx hb dX13_rank_9 (by decide) (fun c2 => ?_) (fun c2 => ?_)
    · have hf := fp hf c2
      refine lv_iconst (v := (-1)) hx hb dX13_rank_32 (by decide) ?_
      cases hf
      exact r_i cx hp ⟨rfl, (funext fr).symm⟩ dX13_rank_33
    · have hf := fn hf c2
      refine lv_aload_n hx hb dX13_rank_12 rfl (lv_at hl 0 rfl) ?_
      refine lv_iload_n hx hb dX13_rank_13 rfl (lv_at hl 1 rfl) ?_
      refine lv_iconst (v := 5) hx hb dX13_rank_14 (by decide) ?_
      refine lv_iload_n hx hb dX13_rank_15 rfl (lv_at hl 3 rfl) ?_
      refine lv_iadd hx hb dX13_rank_16 ?_
      obtain ⟨r3, hc, hf⟩ := fb hf
      refine x_i hp (y_V (As := [.int x1, .int (5 + x3)]) (rest := []) cx hp hl (c_X13_of l hN hT e20 hc) (cw_X13_98 cx (mc := 0) (ms := 0) rfl rfl ⟨by decide, by decide⟩) (rC_X13 hN cx hp) rfl rfl (Nat.le_of_ble_eq_true rfl) dX13_rank_17 ⟨Nat.zero_le _, Nat.zero_le _⟩) (fun r_c u_c H locs hq hp => ?_)
      obtain ⟨rfl, rfl⟩ := hq
      refine lv_iload_n hx hb dX13_rank_20 rfl (lv_at hl 2 rfl) ?_
      refine lv_icmp_ne (tgt := 26) hx hb dX13_rank_21 (by decide) (fun c4 => ?_) (fun c4 => ?_)
      · have hf := fn hf c4
        refine lv_iinc (v := (x3 + 1)) (lv' := [(3, .int (x3 + 1)), (0, .ref (adr E 20 0)), (1, .int x1), (2, .int x2)]) hx hb dX13_rank_26 hl (k := 3) rfl rfl (by decide) rfl (fun ls hl => ?_)
        refine lv_goto (tgt := 2) hx hb dX13_rank_29 (by decide) ?_
        exact ih  hf e20 fr hp (lv_sub hl [1, 2, 3, 0] rfl)
      · have hf := fp hf c4
        refine lv_iload_n hx hb dX13_rank_24 rfl (lv_at hl 3 rfl) ?_
        cases hf
        exact r_i cx hp ⟨rfl, (funext fr).symm⟩ dX13_rank_25
set_option maxRecDepth 100000 in
set_option maxHeartbeats 4000000 in
theorem c_X13_rank (l : Launch) {E : Ev} (hN : 146 ≤ eN E) (hT : St E) {σ : SM} {ρ : OM} (e20 : σ 20 = ρ) {p1 : Int32} {p2 : Int32} {rv : Int32} (hf : f_X13_rank p1 p2 ρ = some rv) : Met l yX13_rank (wC yX13_rank cX13_rank 4 (some .int)) rm_X13_rank (va_Pc [.ref (adr E 20 0), .int p1, .int p2] (Wu E σ)) (va_Qi (fun r u => rv = r ∧ σ = u) (fun u t => Wu E u t) (eA E)) 0 0 (eA E) := by
  refine g_entry (lv := [(0, .ref (adr E 20 0)), (1, .int p1), (2, .int p2)]) (by decide) (Nat.le_of_ble_eq_true rfl) rfl ?_
  intro p e s m below meth c cx hp ls hl
  have hx := cx.1.1
  have hb := cx.1.2.1
  have fr : ∀ q, σ q = σ q := fun _ => rfl
  unfold f_X13_rank at hf
  refine lv_iconst (v := 0) hx hb dX13_rank_0 (by decide) ?_
  refine lv_istore_n (lv' := [(3, .int 0), (0, .ref (adr E 20 0)), (1, .int p1), (2, .int p2)]) hx hb dX13_rank_1 rfl hl (by decide) rfl (fun ls hl => ?_)
  exact L_X13_rank_2 l hN hT cx  _ hf e20 fr hp (lv_sub hl [1, 2, 3, 0] rfl)
abbrev rm_X13_readsList : Room := { frames := 6, cells := 0, slots := 0, locals := 129 }
set_option maxRecDepth 100000 in
set_option maxHeartbeats 4000000 in
theorem L_X13_readsList_0 {p : Program} {e : Env} {s : State} {m : MethodId} {args : Array Value} {below : List Frame} {meth : Method} {c : Code} (l : Launch) {E : Ev} (hN : 146 ≤ eN E) (hT : St E) {σ : SM} (cx : Cx E p s m meth c args RX13 cX13_readsList 3 none) {x1 : Int32} {ρ' : OM} : ∀ (n : Nat) {ρ : OM}, f_X13_readsList_0 x1 n ρ = some ρ' → ∀ {u : SM} {H : Heap} {locs : List Loc} {ls : Array Slot}, u 20 = ρ → (∀ q, q ≠ 20 → u q = σ q) → Hp E u s H locs → lv_has ls 3 [(0, .ref (adr E 20 0)), (1, .int x1)] → W p l e rm_X13_readsList s m args below meth c H locs 0 0 (MQ below (va_Qv (fun u => u 20 = ρ' ∧ ∀ q, q ≠ 20 → u q = σ q) (fun u t => Wu E u t) (eA E)) args s 0 0 (eA E)) (F0 m 0 ls []) := by
  have hx := cx.1.1
  have hb := cx.1.2.1
  intro n
  induction n with
  | zero =>
    intro ρ hf
    exact absurd hf (by simp [f_X13_readsList_0])
  | succ n ih =>
    intro ρ hf u H locs ls e20 fr hp hl
    rw [f_X13_readsList_0] at hf
    refine lv_aload_n hx hb dX13_readsList_0 rfl (lv_at hl 0 rfl) ?_
    refine gF_X13_192 e20 hN cx hp dX13_readsList_1 ?_
    refine lv_if_ne (tgt := 93) hx hb dX13_readsList_4 (by decide) (fun c1 => ?_) (fun c1 => ?_)
    · have hf := fn hf c1
      cases hf
      exact r_v cx hp ⟨e20, fr⟩ dX13_readsList_93
    · have hf := fp hf c1
      refine lv_aload_n hx hb dX13_readsList_7 rfl (lv_at hl 0 rfl) ?_
      refine gF_X13_179 e20 hN cx hp dX13_readsList_8 ?_
      refine lv_iconst (v := 1) hx hb dX13_readsList_11 (by decide) ?_
      refine lv_icmp_ne (tgt := 93) hx hb dX13_readsList_12 (by decide) (fun c2 => ?_) (fun c2 => ?_)
      · have hf := fn hf c2
        cases hf
        exact r_v cx hp ⟨e20, fr⟩ dX13_readsList_93
      · have hf := fp hf c2
        refine lv_aload_n hx hb dX13_readsList_15 rfl (lv_at hl 0 rfl) ?_
        refine va_ldcS hx hb cx.1.2.2.2.1 (cx.2.2.1.2.2.2.1 26 _ rfl) dX13_readsList_16 ?_
        obtain ⟨r3, hc, hf⟩ := fb hf
        refine x_i hp (y_V (As := [.ref (eK E 26)]) (rest := []) cx hp hl (c_X13_isWord l hN hT e20 hc) (cw_X13_202 cx (mc := 0) (ms := 0) rfl rfl ⟨by decide, by decide⟩) (rC_X13 hN cx hp) rfl rfl (Nat.le_of_ble_eq_true rfl) dX13_readsList_18 ⟨Nat.zero_le _, Nat.zero_le _⟩) (fun r_c u_c H locs hq hp => ?_)
        obtain ⟨rfl, rfl⟩ := hq
        refine lv_if_ne (tgt := 93) hx hb dX13_readsList_21 (by decide) (fun c4 => ?_) (fun c4 => ?_)
        · have hf := fn hf c4
          cases hf
          exact r_v cx hp ⟨e20, fr⟩ dX13_readsList_93
        · have hf := fp hf c4
          refine lv_aload_n hx hb dX13_readsList_24 rfl (lv_at hl 0 rfl) ?_
          obtain ⟨r5, ρ6, hc, hf⟩ := fb2 hf
          refine x_i hp (y_V (As := []) (rest := []) cx hp hl (c_X13_seesStall l hN hT e20 hc) (cw_X13_223 cx (mc := 0) (ms := 0) rfl rfl ⟨by decide, by decide⟩) (rC_X13 hN cx hp) rfl rfl (Nat.le_of_ble_eq_true rfl) dX13_readsList_25 ⟨Nat.zero_le _, Nat.zero_le _⟩) (fun r_c u_c H locs hq hp => ?_)
          obtain ⟨rfl, e_0, n_u⟩ := hq
          have e20 := e_0
          have fr : ∀ q, q ≠ 20 → u_c q = σ q := fun q h0 => (n_u q h0).trans (fr q h0)
          obtain ⟨u, rfl⟩ : ∃ z, u_c = z := ⟨_, rfl⟩
          refine lv_istore_n (lv' := [(2, .int r5), (0, .ref (adr E 20 0)), (1, .int x1)]) hx hb dX13_readsList_28 rfl hl (by decide) rfl (fun ls hl => ?_)
          refine lv_aload_n hx hb dX13_readsList_29 rfl (lv_at hl 1 rfl) ?_
          refine gF_X13_192 e20 hN cx hp dX13_readsList_30 ?_
          refine lv_if_ne (tgt := 51) hx hb dX13_readsList_33 (by decide) (fun c7 => ?_) (fun c7 => ?_)
          · have hf := fn hf c7
            refine lv_aload_n hx hb dX13_readsList_51 rfl (lv_at hl 1 rfl) ?_
            obtain ⟨ρ8, hc, hf⟩ := fb hf
            refine x_v hp (y_V (As := []) (rest := []) cx hp hl (c_X13_goesOn l hN hT e20 hc) (cw_X13_209 cx (mc := 0) (ms := 0) rfl rfl ⟨by decide, by decide⟩) (rC_X13 hN cx hp) rfl rfl (Nat.le_of_ble_eq_true rfl) dX13_readsList_52 ⟨Nat.zero_le _, Nat.zero_le _⟩) (fun u_c H locs hq hp => ?_)
            obtain ⟨e_0, n_u⟩ := hq
            have e20 := e_0
            have fr : ∀ q, q ≠ 20 → u_c q = σ q := fun q h0 => (n_u q h0).trans (fr q h0)
            obtain ⟨u, rfl⟩ : ∃ z, u_c = z := ⟨_, rfl⟩
            refine lv_aload_n hx hb dX13_readsList_55 rfl (lv_at hl 1 rfl) ?_
            refine gF_X13_192 e20 hN cx hp dX13_readsList_56 ?_
            refine lv_if_ne (tgt := 90) hx hb dX13_readsList_59 (by decide) (fun c9 => ?_) (fun c9 => ?_)
            · have hf := fn hf c9
              refine lv_goto (tgt := 0) hx hb dX13_readsList_90 (by decide) ?_
              exact ih  hf e20 fr hp (lv_sub hl [1, 2] rfl)
            · have hf := fp hf c9
              refine lv_aload_n hx hb dX13_readsList_62 rfl (lv_at hl 1 rfl) ?_
              refine lv_iload_n hx hb dX13_readsList_63 rfl (lv_at hl 2 rfl) ?_
              refine lv_iconst (v := 5) hx hb dX13_readsList_64 (by decide) ?_
              refine lv_aload_n hx hb dX13_readsList_65 rfl (lv_at hl 1 rfl) ?_
              refine lv_iload_n hx hb dX13_readsList_66 rfl (lv_at hl 2 rfl) ?_
              refine lv_iconst (v := 4) hx hb dX13_readsList_67 (by decide) ?_
              obtain ⟨r10, hc, hf⟩ := fb hf
              refine x_i hp (y_V (As := [.int x1, .int 4]) (rest := [.int 5, .int x1, .ref (adr E 20 0)]) cx hp hl (c_X13_of l hN hT e20 hc) (cw_X13_98 cx (mc := 0) (ms := 0) rfl rfl ⟨by decide, by decide⟩) (rC_X13 hN cx hp) rfl rfl (Nat.le_of_ble_eq_true rfl) dX13_readsList_68 ⟨Nat.zero_le _, Nat.zero_le _⟩) (fun r_c u_c H locs hq hp => ?_)
              obtain ⟨rfl, rfl⟩ := hq
              refine lv_iadd hx hb dX13_readsList_71 ?_
              refine lv_iload_n hx hb dX13_readsList_72 rfl (lv_at hl 0 rfl) ?_
              obtain ⟨ρ11, hc, hf⟩ := fb hf
              refine x_v hp (y_V (As := [.int x1, .int (5 + r10), .int r5]) (rest := []) cx hp hl (c_X13_sets l hN hT e20 hc) (cw_X13_145 cx (mc := 0) (ms := 0) rfl rfl ⟨by decide, by decide⟩) (rC_X13 hN cx hp) rfl rfl (Nat.le_of_ble_eq_true rfl) dX13_readsList_73 ⟨Nat.zero_le _, Nat.zero_le _⟩) (fun u_c H locs hq hp => ?_)
              obtain ⟨e_0, n_u⟩ := hq
              have e20 := e_0
              have fr : ∀ q, q ≠ 20 → u_c q = σ q := fun q h0 => (n_u q h0).trans (fr q h0)
              obtain ⟨u, rfl⟩ : ∃ z, u_c = z := ⟨_, rfl⟩
              refine lv_aload_n hx hb dX13_readsList_76 rfl (lv_at hl 1 rfl) ?_
              refine lv_iload_n hx hb dX13_readsList_77 rfl (lv_at hl 2 rfl) ?_
              refine lv_iconst (v := 4) hx hb dX13_readsList_78 (by decide) ?_
              refine lv_aload_n hx hb dX13_readsList_79 rfl (lv_at hl 1 rfl) ?_
              refine lv_iload_n hx hb dX13_readsList_80 rfl (lv_at hl 2 rfl) ?_
              refine lv_iconst (v := 4) hx hb dX13_readsList_81 (by decide) ?_
              obtain ⟨r12, hc, hf⟩ := fb hf
              refine x_i hp (y_V (As := [.int x1, .int 4]) (rest := [.int 4, .int x1, .ref (adr E 20 0)]) cx hp hl (c_X13_of l hN hT e20 hc) (cw_X13_98 cx (mc := 0) (ms := 0) rfl rfl ⟨by decide, by decide⟩) (rC_X13 hN cx hp) rfl rfl (Nat.le_of_ble_eq_true rfl) dX13_readsList_82 ⟨Nat.zero_le _, Nat.zero_le _⟩) (fun r_c u_c H locs hq hp => ?_)
              obtain ⟨rfl, rfl⟩ := hq
              refine lv_iconst (v := 1) hx hb dX13_readsList_85 (by decide) ?_
              refine lv_iadd hx hb dX13_readsList_86 ?_
              obtain ⟨ρ13, hc, hf⟩ := fb hf
              refine x_v hp (y_V (As := [.int x1, .int 4, .int (r12 + 1)]) (rest := []) cx hp hl (c_X13_sets l hN hT e20 hc) (cw_X13_145 cx (mc := 0) (ms := 0) rfl rfl ⟨by decide, by decide⟩) (rC_X13 hN cx hp) rfl rfl (Nat.le_of_ble_eq_true rfl) dX13_readsList_87 ⟨Nat.zero_le _, Nat.zero_le _⟩) (fun u_c H locs hq hp => ?_)
              obtain ⟨e_0, n_u⟩ := hq
              have e20 := e_0
              have fr : ∀ q, q ≠ 20 → u_c q = σ q := fun q h0 => (n_u q h0).trans (fr q h0)
              obtain ⟨u, rfl⟩ : ∃ z, u_c = z := ⟨_, rfl⟩
              refine lv_goto (tgt := 0) hx hb dX13_readsList_90 (by decide) ?_
              exact ih  hf e20 fr hp (lv_sub hl [1, 2] rfl)
          · have hf := fp hf c7
            refine lv_aload_n hx hb dX13_readsList_36 rfl (lv_at hl 1 rfl) ?_
            refine lv_iload_n hx hb dX13_readsList_37 rfl (lv_at hl 2 rfl) ?_
            refine lv_iload_n hx hb dX13_readsList_38 rfl (lv_at hl 0 rfl) ?_
            obtain ⟨r14, hc, hf⟩ := fb hf
            refine x_i hp (y_V (As := [.int x1, .int r5]) (rest := []) cx hp hl (c_X13_rank l hN hT e20 hc) (cw_X13_102 cx (mc := 0) (ms := 0) rfl rfl ⟨by decide, by decide⟩) (rC_X13 hN cx hp) rfl rfl (Nat.le_of_ble_eq_true rfl) dX13_readsList_39 ⟨Nat.zero_le _, Nat.zero_le _⟩) (fun r_c u_c H locs hq hp => ?_)
            obtain ⟨rfl, rfl⟩ := hq
            refine lv_iconst (v := (-1)) hx hb dX13_readsList_42 (by decide) ?_
            refine lv_icmp_eq (tgt := 51) hx hb dX13_readsList_43 (by decide) (fun c15 => ?_) (fun c15 => ?_)
            · have hf := fp hf c15
              refine lv_aload_n hx hb dX13_readsList_51 rfl (lv_at hl 1 rfl) ?_
              obtain ⟨ρ16, hc, hf⟩ := fb hf
              refine x_v hp (y_V (As := []) (rest := []) cx hp hl (c_X13_goesOn l hN hT e20 hc) (cw_X13_209 cx (mc := 0) (ms := 0) rfl rfl ⟨by decide, by decide⟩) (rC_X13 hN cx hp) rfl rfl (Nat.le_of_ble_eq_true rfl) dX13_readsList_52 ⟨Nat.zero_le _, Nat.zero_le _⟩) (fun u_c H locs hq hp => ?_)
              obtain ⟨e_0, n_u⟩ := hq
              have e20 := e_0
              have fr : ∀ q, q ≠ 20 → u_c q = σ q := fun q h0 => (n_u q h0).trans (fr q h0)
              obtain ⟨u, rfl⟩ : ∃ z, u_c = z := ⟨_, rfl⟩
              refine lv_aload_n hx hb dX13_readsList_55 rfl (lv_at hl 1 rfl) ?_
              refine gF_X13_192 e20 hN cx hp dX13_readsList_56 ?_
              refine lv_if_ne (tgt := 90) hx hb dX13_readsList_59 (by decide) (fun c17 => ?_) (fun c17 => ?_)
              · have hf := fn hf c17
                refine lv_goto (tgt := 0) hx hb dX13_readsList_90 (by decide) ?_
                exact ih  hf e20 fr hp (lv_sub hl [1, 2] rfl)
              · have hf := fp hf c17
                refine lv_aload_n hx hb dX13_readsList_62 rfl (lv_at hl 1 rfl) ?_
                refine lv_iload_n hx hb dX13_readsList_63 rfl (lv_at hl 2 rfl) ?_
                refine lv_iconst (v := 5) hx hb dX13_readsList_64 (by decide) ?_
                refine lv_aload_n hx hb dX13_readsList_65 rfl (lv_at hl 1 rfl) ?_
                refine lv_iload_n hx hb dX13_readsList_66 rfl (lv_at hl 2 rfl) ?_
                refine lv_iconst (v := 4) hx hb dX13_readsList_67 (by decide) ?_
                obtain ⟨r18, hc, hf⟩ := fb hf
                refine x_i hp (y_V (As := [.int x1, .int 4]) (rest := [.int 5, .int x1, .ref (adr E 20 0)]) cx hp hl (c_X13_of l hN hT e20 hc) (cw_X13_98 cx (mc := 0) (ms := 0) rfl rfl ⟨by decide, by decide⟩) (rC_X13 hN cx hp) rfl rfl (Nat.le_of_ble_eq_true rfl) dX13_readsList_68 ⟨Nat.zero_le _, Nat.zero_le _⟩) (fun r_c u_c H locs hq hp => ?_)
                obtain ⟨rfl, rfl⟩ := hq
                refine lv_iadd hx hb dX13_readsList_71 ?_
                refine lv_iload_n hx hb dX13_readsList_72 rfl (lv_at hl 0 rfl) ?_
                obtain ⟨ρ19, hc, hf⟩ := fb hf
                refine x_v hp (y_V (As := [.int x1, .int (5 + r18), .int r5]) (rest := []) cx hp hl (c_X13_sets l hN hT e20 hc) (cw_X13_145 cx (mc := 0) (ms := 0) rfl rfl ⟨by decide, by decide⟩) (rC_X13 hN cx hp) rfl rfl (Nat.le_of_ble_eq_true rfl) dX13_readsList_73 ⟨Nat.zero_le _, Nat.zero_le _⟩) (fun u_c H locs hq hp => ?_)
                obtain ⟨e_0, n_u⟩ := hq
                have e20 := e_0
                have fr : ∀ q, q ≠ 20 → u_c q = σ q := fun q h0 => (n_u q h0).trans (fr q h0)
                obtain ⟨u, rfl⟩ : ∃ z, u_c = z := ⟨_, rfl⟩
                refine lv_aload_n hx hb dX13_readsList_76 rfl (lv_at hl 1 rfl) ?_
                refine lv_iload_n hx hb dX13_readsList_77 rfl (lv_at hl 2 rfl) ?_
                refine lv_iconst (v := 4) hx hb dX13_readsList_78 (by decide) ?_
                refine lv_aload_n hx hb dX13_readsList_79 rfl (lv_at hl 1 rfl) ?_
                refine lv_iload_n hx hb dX13_readsList_80 rfl (lv_at hl 2 rfl) ?_
                refine lv_iconst (v := 4) hx hb dX13_readsList_81 (by decide) ?_
                obtain ⟨r20, hc, hf⟩ := fb hf
                refine x_i hp (y_V (As := [.int x1, .int 4]) (rest := [.int 4, .int x1, .ref (adr E 20 0)]) cx hp hl (c_X13_of l hN hT e20 hc) (cw_X13_98 cx (mc := 0) (ms := 0) rfl rfl ⟨by decide, by decide⟩) (rC_X13 hN cx hp) rfl rfl (Nat.le_of_ble_eq_true rfl) dX13_readsList_82 ⟨Nat.zero_le _, Nat.zero_le _⟩) (fun r_c u_c H locs hq hp => ?_)
                obtain ⟨rfl, rfl⟩ := hq
                refine lv_iconst (v := 1) hx hb dX13_readsList_85 (by decide) ?_
                refine lv_iadd hx hb dX13_readsList_86 ?_
                obtain ⟨ρ21, hc, hf⟩ := fb hf
                refine x_v hp (y_V (As := [.int x1, .int 4, .int (r20 + 1)]) (rest := []) cx hp hl (c_X13_sets l hN hT e20 hc) (cw_X13_145 cx (mc := 0) (ms := 0) rfl rfl ⟨by decide, by decide⟩) (rC_X13 hN cx hp) rfl rfl (Nat.le_of_ble_eq_true rfl) dX13_readsList_87 ⟨Nat.zero_le _, Nat.zero_le _⟩) (fun u_c H locs hq hp => ?_)
                obtain ⟨e_0, n_u⟩ := hq
                have e20 := e_0
                have fr : ∀ q, q ≠ 20 → u_c q = σ q := fun q h0 => (n_u q h0).trans (fr q h0)
                obtain ⟨u, rfl⟩ : ∃ z, u_c = z := ⟨_, rfl⟩
                refine lv_goto (tgt := 0) hx hb dX13_readsList_90 (by decide) ?_
                exact ih  hf e20 fr hp (lv_sub hl [1, 2] rfl)
            · have hf := fn hf c15
              refine lv_aload_n hx hb dX13_readsList_46 rfl (lv_at hl 1 rfl) ?_
              refine lv_iconst (v := 4) hx hb dX13_readsList_47 (by decide) ?_
              obtain ⟨ρ22, hc, hf⟩ := fb hf
              refine x_v hp (y_V (As := [.int 4]) (rest := []) cx hp hl (c_X13_wrong l hN hT e20 hc) (cw_X13_206 cx (mc := 0) (ms := 0) rfl rfl ⟨by decide, by decide⟩) (rC_X13 hN cx hp) rfl rfl (Nat.le_of_ble_eq_true rfl) dX13_readsList_48 ⟨Nat.zero_le _, Nat.zero_le _⟩) (fun u_c H locs hq hp => ?_)
              obtain ⟨e_0, n_u⟩ := hq
              have e20 := e_0
              have fr : ∀ q, q ≠ 20 → u_c q = σ q := fun q h0 => (n_u q h0).trans (fr q h0)
              obtain ⟨u, rfl⟩ : ∃ z, u_c = z := ⟨_, rfl⟩
              refine lv_aload_n hx hb dX13_readsList_51 rfl (lv_at hl 1 rfl) ?_
              obtain ⟨ρ23, hc, hf⟩ := fb hf
              refine x_v hp (y_V (As := []) (rest := []) cx hp hl (c_X13_goesOn l hN hT e20 hc) (cw_X13_209 cx (mc := 0) (ms := 0) rfl rfl ⟨by decide, by decide⟩) (rC_X13 hN cx hp) rfl rfl (Nat.le_of_ble_eq_true rfl) dX13_readsList_52 ⟨Nat.zero_le _, Nat.zero_le _⟩) (fun u_c H locs hq hp => ?_)
              obtain ⟨e_0, n_u⟩ := hq
              have e20 := e_0
              have fr : ∀ q, q ≠ 20 → u_c q = σ q := fun q h0 => (n_u q h0).trans (fr q h0)
              obtain ⟨u, rfl⟩ : ∃ z, u_c = z := ⟨_, rfl⟩
              refine lv_aload_n hx hb dX13_readsList_55 rfl (lv_at hl 1 rfl) ?_
              refine gF_X13_192 e20 hN cx hp dX13_readsList_56 ?_
              refine lv_if_ne (tgt := 90) hx hb dX13_readsList_59 (by decide) (fun c24 => ?_) (fun c24 => ?_)
              · have hf := fn hf c24
                refine lv_goto (tgt := 0) hx hb dX13_readsList_90 (by decide) ?_
                exact ih  hf e20 fr hp (lv_sub hl [1, 2] rfl)
              · have hf := fp hf c24
                refine lv_aload_n hx hb dX13_readsList_62 rfl (lv_at hl 1 rfl) ?_
                refine lv_iload_n hx hb dX13_readsList_63 rfl (lv_at hl 2 rfl) ?_
                refine lv_iconst (v := 5) hx hb dX13_readsList_64 (by decide) ?_
                refine lv_aload_n hx hb dX13_readsList_65 rfl (lv_at hl 1 rfl) ?_
                refine lv_iload_n hx hb dX13_readsList_66 rfl (lv_at hl 2 rfl) ?_
                refine lv_iconst (v := 4) hx hb dX13_readsList_67 (by decide) ?_
                obtain ⟨r25, hc, hf⟩ := fb hf
                refine x_i hp (y_V (As := [.int x1, .int 4]) (rest := [.int 5, .int x1, .ref (adr E 20 0)]) cx hp hl (c_X13_of l hN hT e20 hc) (cw_X13_98 cx (mc := 0) (ms := 0) rfl rfl ⟨by decide, by decide⟩) (rC_X13 hN cx hp) rfl rfl (Nat.le_of_ble_eq_true rfl) dX13_readsList_68 ⟨Nat.zero_le _, Nat.zero_le _⟩) (fun r_c u_c H locs hq hp => ?_)
                obtain ⟨rfl, rfl⟩ := hq
                refine lv_iadd hx hb dX13_readsList_71 ?_
                refine lv_iload_n hx hb dX13_readsList_72 rfl (lv_at hl 0 rfl) ?_
                obtain ⟨ρ26, hc, hf⟩ := fb hf
                refine x_v hp (y_V (As := [.int x1, .int (5 + r25), .int r5]) (rest := []) cx hp hl (c_X13_sets l hN hT e20 hc) (cw_X13_145 cx (mc := 0) (ms := 0) rfl rfl ⟨by decide, by decide⟩) (rC_X13 hN cx hp) rfl rfl (Nat.le_of_ble_eq_true rfl) dX13_readsList_73 ⟨Nat.zero_le _, Nat.zero_le _⟩) (fun u_c H locs hq hp => ?_)
                obtain ⟨e_0, n_u⟩ := hq
                have e20 := e_0
                have fr : ∀ q, q ≠ 20 → u_c q = σ q := fun q h0 => (n_u q h0).trans (fr q h0)
                obtain ⟨u, rfl⟩ : ∃ z, u_c = z := ⟨_, rfl⟩
                refine lv_aload_n hx hb dX13_readsList_76 rfl (lv_at hl 1 rfl) ?_
                refine lv_iload_n hx hb dX13_readsList_77 rfl (lv_at hl 2 rfl) ?_
                refine lv_iconst (v := 4) hx hb dX13_readsList_78 (by decide) ?_
                refine lv_aload_n hx hb dX13_readsList_79 rfl (lv_at hl 1 rfl) ?_
                refine lv_iload_n hx hb dX13_readsList_80 rfl (lv_at hl 2 rfl) ?_
                refine lv_iconst (v := 4) hx hb dX13_readsList_81 (by decide) ?_
                obtain ⟨r27, hc, hf⟩ := fb hf
                refine x_i hp (y_V (As := [.int x1, .int 4]) (rest := [.int 4, .int x1, .ref (adr E 20 0)]) cx hp hl (c_X13_of l hN hT e20 hc) (cw_X13_98 cx (mc := 0) (ms := 0) rfl rfl ⟨by decide, by decide⟩) (rC_X13 hN cx hp) rfl rfl (Nat.le_of_ble_eq_true rfl) dX13_readsList_82 ⟨Nat.zero_le _, Nat.zero_le _⟩) (fun r_c u_c H locs hq hp => ?_)
                obtain ⟨rfl, rfl⟩ := hq
                refine lv_iconst (v := 1) hx hb dX13_readsList_85 (by decide) ?_
                refine lv_iadd hx hb dX13_readsList_86 ?_
                obtain ⟨ρ28, hc, hf⟩ := fb hf
                refine x_v hp (y_V (As := [.int x1, .int 4, .int (r27 + 1)]) (rest := []) cx hp hl (c_X13_sets l hN hT e20 hc) (cw_X13_145 cx (mc := 0) (ms := 0) rfl rfl ⟨by decide, by decide⟩) (rC_X13 hN cx hp) rfl rfl (Nat.le_of_ble_eq_true rfl) dX13_readsList_87 ⟨Nat.zero_le _, Nat.zero_le _⟩) (fun u_c H locs hq hp => ?_)
                obtain ⟨e_0, n_u⟩ := hq
                have e20 := e_0
                have fr : ∀ q, q ≠ 20 → u_c q = σ q := fun q h0 => (n_u q h0).trans (fr q h0)
                obtain ⟨u, rfl⟩ : ∃ z, u_c = z := ⟨_, rfl⟩
                refine lv_goto (tgt := 0) hx hb dX13_readsList_90 (by decide) ?_
                exact ih  hf e20 fr hp (lv_sub hl [1, 2] rfl)
set_option maxRecDepth 100000 in
set_option maxHeartbeats 4000000 in
theorem c_X13_readsList (l : Launch) {E : Ev} (hN : 146 ≤ eN E) (hT : St E) {σ : SM} {ρ : OM} (e20 : σ 20 = ρ) {p1 : Int32} {ρ' : OM} (hf : f_X13_readsList p1 ρ = some ρ') : Met l yX13_readsList (wC yX13_readsList cX13_readsList 3 none) rm_X13_readsList (va_Pc [.ref (adr E 20 0), .int p1] (Wu E σ)) (va_Qv (fun u => u 20 = ρ' ∧ ∀ q, q ≠ 20 → u q = σ q) (fun u t => Wu E u t) (eA E)) 0 0 (eA E) := by
  refine g_entry (lv := [(0, .ref (adr E 20 0)), (1, .int p1)]) (by decide) (Nat.le_of_ble_eq_true rfl) rfl ?_
  intro p e s m below meth c cx hp ls hl
  have hx := cx.1.1
  have hb := cx.1.2.1
  have fr : ∀ q, q ≠ 20 → σ q = σ q := fun _ _ => rfl
  unfold f_X13_readsList at hf
  exact L_X13_readsList_0 l hN hT cx  _ hf e20 fr hp (lv_sub hl [0, 1] rfl)
abbrev rm_X13_occupant : Room := { frames := 1, cells := 0, slots := 0, locals := 22 }
set_option maxRecDepth 100000 in
set_option maxHeartbeats 4000000 in
theorem L_X13_occupant_2 {p : Program} {e : Env} {s : State} {m : MethodId} {args : Array Value} {below : List Frame} {meth : Method} {c : Code} (l : Launch) {E : Ev} (hN : 146 ≤ eN E) (hT : St E) {σ : SM} (cx : Cx E p s m meth c args RX13 cX13_occupant 3 (some .int)) {x1 : Int32} {ρ : OM} {rv : Int32} : ∀ (n : Nat) {x2 : Int32}, f_X13_occupant_2 x1 ρ n x2 = some rv → ∀ {u : SM} {H : Heap} {locs : List Loc} {ls : Array Slot}, u 20 = ρ → (∀ q, u q = σ q) → Hp E u s H locs → lv_has ls 3 [(0, .ref (adr E 20 0)), (1, .int x1), (2, .int x2)] → W p l e rm_X13_occupant s m args below meth c H locs 0 0 (MQ below (va_Qi (fun r u => rv = r ∧ σ = u) (fun u t => Wu E u t) (eA E)) args s 0 0 (eA E)) (F0 m 2 ls []) := by
  have hx := cx.1.1
  have hb := cx.1.2.1
  intro n
  induction n with
  | zero =>
    intro x2 hf
    exact absurd hf (by simp [f_X13_occupant_2])
  | succ n ih =>
    intro x2 hf u H locs ls e20 fr hp hl
    rw [f_X13_occupant_2] at hf
    refine lv_iload_n hx hb dX13_occupant_2 rfl (lv_at hl 2 rfl) ?_
    refine lv_aload_n hx hb dX13_occupant_3 rfl (lv_at hl 0 rfl) ?_
    refine gF_X13_7 rfl hN cx hp dX13_occupant_4 ?_
    refine lv_iconst (v := 0) hx hb dX13_occupant_7 (by decide) ?_
    obtain ⟨g_i, hf⟩ := fg hf
    refine lA_X13_1 e20 hN cx hp g_i dX13_occupant_8 ?_
    refine lv_icmp_ge (tgt := 30) hx hb dX13_occupant_9 (by decide) (fun c1 => ?_) (fun c1 => ?_)
    · have hf := fp hf c1
      refine lv_iconst (v := (-1)) hx hb dX13_occupant_30 (by decide) ?_
      cases hf
      exact r_i cx hp ⟨rfl, (funext fr).symm⟩ dX13_occupant_31
    · have hf := fn hf c1
      refine lv_aload_n hx hb dX13_occupant_12 rfl (lv_at hl 0 rfl) ?_
      refine lv_iload_n hx hb dX13_occupant_13 rfl (lv_at hl 2 rfl) ?_
      refine lv_iconst (v := 3) hx hb dX13_occupant_14 (by decide) ?_
      obtain ⟨r2, hc, hf⟩ := fb hf
      refine x_i hp (y_V (As := [.int x2, .int 3]) (rest := []) cx hp hl (c_X13_of l hN hT e20 hc) (cw_X13_98 cx (mc := 0) (ms := 0) rfl rfl ⟨by decide, by decide⟩) (rC_X13 hN cx hp) rfl rfl (Nat.le_of_ble_eq_true rfl) dX13_occupant_15 ⟨Nat.zero_le _, Nat.zero_le _⟩) (fun r_c u_c H locs hq hp => ?_)
      obtain ⟨rfl, rfl⟩ := hq
      refine lv_iload_n hx hb dX13_occupant_18 rfl (lv_at hl 1 rfl) ?_
      refine lv_icmp_ne (tgt := 24) hx hb dX13_occupant_19 (by decide) (fun c3 => ?_) (fun c3 => ?_)
      · have hf := fn hf c3
        refine lv_iinc (v := (x2 + 1)) (lv' := [(2, .int (x2 + 1)), (0, .ref (adr E 20 0)), (1, .int x1)]) hx hb dX13_occupant_24 hl (k := 2) rfl rfl (by decide) rfl (fun ls hl => ?_)
        refine lv_goto (tgt := 2) hx hb dX13_occupant_27 (by decide) ?_
        exact ih  hf e20 fr hp (lv_sub hl [1, 2, 0] rfl)
      · have hf := fp hf c3
        refine lv_iload_n hx hb dX13_occupant_22 rfl (lv_at hl 2 rfl) ?_
        cases hf
        exact r_i cx hp ⟨rfl, (funext fr).symm⟩ dX13_occupant_23
set_option maxRecDepth 100000 in
set_option maxHeartbeats 4000000 in
theorem c_X13_occupant (l : Launch) {E : Ev} (hN : 146 ≤ eN E) (hT : St E) {σ : SM} {ρ : OM} (e20 : σ 20 = ρ) {p1 : Int32} {rv : Int32} (hf : f_X13_occupant p1 ρ = some rv) : Met l yX13_occupant (wC yX13_occupant cX13_occupant 3 (some .int)) rm_X13_occupant (va_Pc [.ref (adr E 20 0), .int p1] (Wu E σ)) (va_Qi (fun r u => rv = r ∧ σ = u) (fun u t => Wu E u t) (eA E)) 0 0 (eA E) := by
  refine g_entry (lv := [(0, .ref (adr E 20 0)), (1, .int p1)]) (by decide) (Nat.le_of_ble_eq_true rfl) rfl ?_
  intro p e s m below meth c cx hp ls hl
  have hx := cx.1.1
  have hb := cx.1.2.1
  have fr : ∀ q, σ q = σ q := fun _ => rfl
  unfold f_X13_occupant at hf
  refine lv_iconst (v := 0) hx hb dX13_occupant_0 (by decide) ?_
  refine lv_istore_n (lv' := [(2, .int 0), (0, .ref (adr E 20 0)), (1, .int p1)]) hx hb dX13_occupant_1 rfl hl (by decide) rfl (fun ls hl => ?_)
  exact L_X13_occupant_2 l hN hT cx  _ hf e20 fr hp (lv_sub hl [1, 2, 0] rfl)
abbrev rm_X13_readsPlace : Room := { frames := 6, cells := 0, slots := 0, locals := 129 }
set_option maxRecDepth 100000 in
set_option maxHeartbeats 4000000 in
theorem c_X13_readsPlace (l : Launch) {E : Ev} (hN : 146 ≤ eN E) (hT : St E) {σ : SM} {ρ : OM} (e20 : σ 20 = ρ) {p1 : Int32} {ρ' : OM} (hf : f_X13_readsPlace p1 ρ = some ρ') : Met l yX13_readsPlace (wC yX13_readsPlace cX13_readsPlace 3 none) rm_X13_readsPlace (va_Pc [.ref (adr E 20 0), .int p1] (Wu E σ)) (va_Qv (fun u => u 20 = ρ' ∧ ∀ q, q ≠ 20 → u q = σ q) (fun u t => Wu E u t) (eA E)) 0 0 (eA E) := by
  refine g_entry (lv := [(0, .ref (adr E 20 0)), (1, .int p1)]) (by decide) (Nat.le_of_ble_eq_true rfl) rfl ?_
  intro p e s m below meth c cx hp ls hl
  have hx := cx.1.1
  have hb := cx.1.2.1
  have fr : ∀ q, q ≠ 20 → σ q = σ q := fun _ _ => rfl
  unfold f_X13_readsPlace at hf
  refine lv_aload_n hx hb dX13_readsPlace_0 rfl (lv_at hl 0 rfl) ?_
  refine va_ldcS hx hb cx.1.2.2.2.1 (cx.2.2.1.2.2.2.1 26 _ rfl) dX13_readsPlace_1 ?_
  obtain ⟨r1, hc, hf⟩ := fb hf
  refine x_i hp (y_V (As := [.ref (eK E 26)]) (rest := []) cx hp hl (c_X13_isWord l hN hT e20 hc) (cw_X13_202 cx (mc := 0) (ms := 0) rfl rfl ⟨by decide, by decide⟩) (rC_X13 hN cx hp) rfl rfl (Nat.le_of_ble_eq_true rfl) dX13_readsPlace_3 ⟨Nat.zero_le _, Nat.zero_le _⟩) (fun r_c u_c H locs hq hp => ?_)
  obtain ⟨rfl, rfl⟩ := hq
  refine lv_if_eq (tgt := 61) hx hb dX13_readsPlace_6 (by decide) (fun c2 => ?_) (fun c2 => ?_)
  · have hf := fp hf c2
    cases hf
    exact r_v cx hp ⟨e20, fr⟩ dX13_readsPlace_61
  · have hf := fn hf c2
    refine lv_aload_n hx hb dX13_readsPlace_9 rfl (lv_at hl 0 rfl) ?_
    obtain ⟨ρ3, hc, hf⟩ := fb hf
    refine x_v hp (y_V (As := []) (rest := []) cx hp hl (c_X13_nextToken l hN hT e20 hc) (cw_X13_199 cx (mc := 0) (ms := 0) rfl rfl ⟨by decide, by decide⟩) (rC_X13 hN cx hp) rfl rfl (Nat.le_of_ble_eq_true rfl) dX13_readsPlace_10 ⟨Nat.zero_le _, Nat.zero_le _⟩) (fun u_c H locs hq hp => ?_)
    obtain ⟨e_0, n_u⟩ := hq
    have e20 := e_0
    have fr : ∀ q, q ≠ 20 → u_c q = σ q := fun q h0 => (n_u q h0).trans (fr q h0)
    obtain ⟨u, rfl⟩ : ∃ z, u_c = z := ⟨_, rfl⟩
    refine lv_aload_n hx hb dX13_readsPlace_13 rfl (lv_at hl 0 rfl) ?_
    obtain ⟨r4, ρ5, hc, hf⟩ := fb2 hf
    refine x_i hp (y_V (As := []) (rest := []) cx hp hl (c_X13_seesStall l hN hT e20 hc) (cw_X13_223 cx (mc := 0) (ms := 0) rfl rfl ⟨by decide, by decide⟩) (rC_X13 hN cx hp) rfl rfl (Nat.le_of_ble_eq_true rfl) dX13_readsPlace_14 ⟨Nat.zero_le _, Nat.zero_le _⟩) (fun r_c u_c H locs hq hp => ?_)
    obtain ⟨rfl, e_0, n_u⟩ := hq
    have e20 := e_0
    have fr : ∀ q, q ≠ 20 → u_c q = σ q := fun q h0 => (n_u q h0).trans (fr q h0)
    obtain ⟨u, rfl⟩ : ∃ z, u_c = z := ⟨_, rfl⟩
    refine lv_istore_n (lv' := [(2, .int r4), (0, .ref (adr E 20 0)), (1, .int p1)]) hx hb dX13_readsPlace_17 rfl hl (by decide) rfl (fun ls hl => ?_)
    refine lv_aload_n hx hb dX13_readsPlace_18 rfl (lv_at hl 1 rfl) ?_
    refine gF_X13_192 e20 hN cx hp dX13_readsPlace_19 ?_
    refine lv_if_ne (tgt := 39) hx hb dX13_readsPlace_22 (by decide) (fun c6 => ?_) (fun c6 => ?_)
    · have hf := fn hf c6
      refine lv_aload_n hx hb dX13_readsPlace_39 rfl (lv_at hl 1 rfl) ?_
      obtain ⟨ρ7, hc, hf⟩ := fb hf
      refine x_v hp (y_V (As := []) (rest := []) cx hp hl (c_X13_goesOn l hN hT e20 hc) (cw_X13_209 cx (mc := 0) (ms := 0) rfl rfl ⟨by decide, by decide⟩) (rC_X13 hN cx hp) rfl rfl (Nat.le_of_ble_eq_true rfl) dX13_readsPlace_40 ⟨Nat.zero_le _, Nat.zero_le _⟩) (fun u_c H locs hq hp => ?_)
      obtain ⟨e_0, n_u⟩ := hq
      have e20 := e_0
      have fr : ∀ q, q ≠ 20 → u_c q = σ q := fun q h0 => (n_u q h0).trans (fr q h0)
      obtain ⟨u, rfl⟩ : ∃ z, u_c = z := ⟨_, rfl⟩
      refine lv_aload_n hx hb dX13_readsPlace_43 rfl (lv_at hl 1 rfl) ?_
      refine lv_iload_n hx hb dX13_readsPlace_44 rfl (lv_at hl 2 rfl) ?_
      refine lv_iconst (v := 3) hx hb dX13_readsPlace_45 (by decide) ?_
      refine lv_aload_n hx hb dX13_readsPlace_46 rfl (lv_at hl 1 rfl) ?_
      refine gF_X13_192 e20 hN cx hp dX13_readsPlace_47 ?_
      refine lv_if_eq (tgt := 57) hx hb dX13_readsPlace_50 (by decide) (fun c8 => ?_) (fun c8 => ?_)
      · have hf := fp hf c8
        refine lv_iload_n hx hb dX13_readsPlace_57 rfl (lv_at hl 0 rfl) ?_
        obtain ⟨ρ9, hc, hf⟩ := fb hf
        refine x_v hp (y_V (As := [.int p1, .int 3, .int r4]) (rest := []) cx hp hl (c_X13_sets l hN hT e20 hc) (cw_X13_145 cx (mc := 0) (ms := 0) rfl rfl ⟨by decide, by decide⟩) (rC_X13 hN cx hp) rfl rfl (Nat.le_of_ble_eq_true rfl) dX13_readsPlace_58 ⟨Nat.zero_le _, Nat.zero_le _⟩) (fun u_c H locs hq hp => ?_)
        obtain ⟨e_0, n_u⟩ := hq
        have e20 := e_0
        have fr : ∀ q, q ≠ 20 → u_c q = σ q := fun q h0 => (n_u q h0).trans (fr q h0)
        obtain ⟨u, rfl⟩ : ∃ z, u_c = z := ⟨_, rfl⟩
        cases hf
        exact r_v cx hp ⟨e20, fr⟩ dX13_readsPlace_61
      · have hf := fn hf c8
        refine lv_iconst (v := (-1)) hx hb dX13_readsPlace_53 (by decide) ?_
        refine lv_goto (tgt := 58) hx hb dX13_readsPlace_54 (by decide) ?_
        obtain ⟨ρ10, hc, hf⟩ := fb hf
        refine x_v hp (y_V (As := [.int p1, .int 3, .int (-1)]) (rest := []) cx hp hl (c_X13_sets l hN hT e20 hc) (cw_X13_145 cx (mc := 0) (ms := 0) rfl rfl ⟨by decide, by decide⟩) (rC_X13 hN cx hp) rfl rfl (Nat.le_of_ble_eq_true rfl) dX13_readsPlace_58 ⟨Nat.zero_le _, Nat.zero_le _⟩) (fun u_c H locs hq hp => ?_)
        obtain ⟨e_0, n_u⟩ := hq
        have e20 := e_0
        have fr : ∀ q, q ≠ 20 → u_c q = σ q := fun q h0 => (n_u q h0).trans (fr q h0)
        obtain ⟨u, rfl⟩ : ∃ z, u_c = z := ⟨_, rfl⟩
        cases hf
        exact r_v cx hp ⟨e20, fr⟩ dX13_readsPlace_61
    · have hf := fp hf c6
      refine lv_aload_n hx hb dX13_readsPlace_25 rfl (lv_at hl 1 rfl) ?_
      refine lv_iload_n hx hb dX13_readsPlace_26 rfl (lv_at hl 0 rfl) ?_
      obtain ⟨r11, hc, hf⟩ := fb hf
      refine x_i hp (y_V (As := [.int r4]) (rest := []) cx hp hl (c_X13_occupant l hN hT e20 hc) (cw_X13_115 cx (mc := 0) (ms := 0) rfl rfl ⟨by decide, by decide⟩) (rC_X13 hN cx hp) rfl rfl (Nat.le_of_ble_eq_true rfl) dX13_readsPlace_27 ⟨Nat.zero_le _, Nat.zero_le _⟩) (fun r_c u_c H locs hq hp => ?_)
      obtain ⟨rfl, rfl⟩ := hq
      refine lv_iconst (v := (-1)) hx hb dX13_readsPlace_30 (by decide) ?_
      refine lv_icmp_eq (tgt := 39) hx hb dX13_readsPlace_31 (by decide) (fun c12 => ?_) (fun c12 => ?_)
      · have hf := fp hf c12
        refine lv_aload_n hx hb dX13_readsPlace_39 rfl (lv_at hl 1 rfl) ?_
        obtain ⟨ρ13, hc, hf⟩ := fb hf
        refine x_v hp (y_V (As := []) (rest := []) cx hp hl (c_X13_goesOn l hN hT e20 hc) (cw_X13_209 cx (mc := 0) (ms := 0) rfl rfl ⟨by decide, by decide⟩) (rC_X13 hN cx hp) rfl rfl (Nat.le_of_ble_eq_true rfl) dX13_readsPlace_40 ⟨Nat.zero_le _, Nat.zero_le _⟩) (fun u_c H locs hq hp => ?_)
        obtain ⟨e_0, n_u⟩ := hq
        have e20 := e_0
        have fr : ∀ q, q ≠ 20 → u_c q = σ q := fun q h0 => (n_u q h0).trans (fr q h0)
        obtain ⟨u, rfl⟩ : ∃ z, u_c = z := ⟨_, rfl⟩
        refine lv_aload_n hx hb dX13_readsPlace_43 rfl (lv_at hl 1 rfl) ?_
        refine lv_iload_n hx hb dX13_readsPlace_44 rfl (lv_at hl 2 rfl) ?_
        refine lv_iconst (v := 3) hx hb dX13_readsPlace_45 (by decide) ?_
        refine lv_aload_n hx hb dX13_readsPlace_46 rfl (lv_at hl 1 rfl) ?_
        refine gF_X13_192 e20 hN cx hp dX13_readsPlace_47 ?_
        refine lv_if_eq (tgt := 57) hx hb dX13_readsPlace_50 (by decide) (fun c14 => ?_) (fun c14 => ?_)
        · have hf := fp hf c14
          refine lv_iload_n hx hb dX13_readsPlace_57 rfl (lv_at hl 0 rfl) ?_
          obtain ⟨ρ15, hc, hf⟩ := fb hf
          refine x_v hp (y_V (As := [.int p1, .int 3, .int r4]) (rest := []) cx hp hl (c_X13_sets l hN hT e20 hc) (cw_X13_145 cx (mc := 0) (ms := 0) rfl rfl ⟨by decide, by decide⟩) (rC_X13 hN cx hp) rfl rfl (Nat.le_of_ble_eq_true rfl) dX13_readsPlace_58 ⟨Nat.zero_le _, Nat.zero_le _⟩) (fun u_c H locs hq hp => ?_)
          obtain ⟨e_0, n_u⟩ := hq
          have e20 := e_0
          have fr : ∀ q, q ≠ 20 → u_c q = σ q := fun q h0 => (n_u q h0).trans (fr q h0)
          obtain ⟨u, rfl⟩ : ∃ z, u_c = z := ⟨_, rfl⟩
          cases hf
          exact r_v cx hp ⟨e20, fr⟩ dX13_readsPlace_61
        · have hf := fn hf c14
          refine lv_iconst (v := (-1)) hx hb dX13_readsPlace_53 (by decide) ?_
          refine lv_goto (tgt := 58) hx hb dX13_readsPlace_54 (by decide) ?_
          obtain ⟨ρ16, hc, hf⟩ := fb hf
          refine x_v hp (y_V (As := [.int p1, .int 3, .int (-1)]) (rest := []) cx hp hl (c_X13_sets l hN hT e20 hc) (cw_X13_145 cx (mc := 0) (ms := 0) rfl rfl ⟨by decide, by decide⟩) (rC_X13 hN cx hp) rfl rfl (Nat.le_of_ble_eq_true rfl) dX13_readsPlace_58 ⟨Nat.zero_le _, Nat.zero_le _⟩) (fun u_c H locs hq hp => ?_)
          obtain ⟨e_0, n_u⟩ := hq
          have e20 := e_0
          have fr : ∀ q, q ≠ 20 → u_c q = σ q := fun q h0 => (n_u q h0).trans (fr q h0)
          obtain ⟨u, rfl⟩ : ∃ z, u_c = z := ⟨_, rfl⟩
          cases hf
          exact r_v cx hp ⟨e20, fr⟩ dX13_readsPlace_61
      · have hf := fn hf c12
        refine lv_aload_n hx hb dX13_readsPlace_34 rfl (lv_at hl 1 rfl) ?_
        refine lv_iconst (v := 4) hx hb dX13_readsPlace_35 (by decide) ?_
        obtain ⟨ρ17, hc, hf⟩ := fb hf
        refine x_v hp (y_V (As := [.int 4]) (rest := []) cx hp hl (c_X13_wrong l hN hT e20 hc) (cw_X13_206 cx (mc := 0) (ms := 0) rfl rfl ⟨by decide, by decide⟩) (rC_X13 hN cx hp) rfl rfl (Nat.le_of_ble_eq_true rfl) dX13_readsPlace_36 ⟨Nat.zero_le _, Nat.zero_le _⟩) (fun u_c H locs hq hp => ?_)
        obtain ⟨e_0, n_u⟩ := hq
        have e20 := e_0
        have fr : ∀ q, q ≠ 20 → u_c q = σ q := fun q h0 => (n_u q h0).trans (fr q h0)
        obtain ⟨u, rfl⟩ : ∃ z, u_c = z := ⟨_, rfl⟩
        refine lv_aload_n hx hb dX13_readsPlace_39 rfl (lv_at hl 1 rfl) ?_
        obtain ⟨ρ18, hc, hf⟩ := fb hf
        refine x_v hp (y_V (As := []) (rest := []) cx hp hl (c_X13_goesOn l hN hT e20 hc) (cw_X13_209 cx (mc := 0) (ms := 0) rfl rfl ⟨by decide, by decide⟩) (rC_X13 hN cx hp) rfl rfl (Nat.le_of_ble_eq_true rfl) dX13_readsPlace_40 ⟨Nat.zero_le _, Nat.zero_le _⟩) (fun u_c H locs hq hp => ?_)
        obtain ⟨e_0, n_u⟩ := hq
        have e20 := e_0
        have fr : ∀ q, q ≠ 20 → u_c q = σ q := fun q h0 => (n_u q h0).trans (fr q h0)
        obtain ⟨u, rfl⟩ : ∃ z, u_c = z := ⟨_, rfl⟩
        refine lv_aload_n hx hb dX13_readsPlace_43 rfl (lv_at hl 1 rfl) ?_
        refine lv_iload_n hx hb dX13_readsPlace_44 rfl (lv_at hl 2 rfl) ?_
        refine lv_iconst (v := 3) hx hb dX13_readsPlace_45 (by decide) ?_
        refine lv_aload_n hx hb dX13_readsPlace_46 rfl (lv_at hl 1 rfl) ?_
        refine gF_X13_192 e20 hN cx hp dX13_readsPlace_47 ?_
        refine lv_if_eq (tgt := 57) hx hb dX13_readsPlace_50 (by decide) (fun c19 => ?_) (fun c19 => ?_)
        · have hf := fp hf c19
          refine lv_iload_n hx hb dX13_readsPlace_57 rfl (lv_at hl 0 rfl) ?_
          obtain ⟨ρ20, hc, hf⟩ := fb hf
          refine x_v hp (y_V (As := [.int p1, .int 3, .int r4]) (rest := []) cx hp hl (c_X13_sets l hN hT e20 hc) (cw_X13_145 cx (mc := 0) (ms := 0) rfl rfl ⟨by decide, by decide⟩) (rC_X13 hN cx hp) rfl rfl (Nat.le_of_ble_eq_true rfl) dX13_readsPlace_58 ⟨Nat.zero_le _, Nat.zero_le _⟩) (fun u_c H locs hq hp => ?_)
          obtain ⟨e_0, n_u⟩ := hq
          have e20 := e_0
          have fr : ∀ q, q ≠ 20 → u_c q = σ q := fun q h0 => (n_u q h0).trans (fr q h0)
          obtain ⟨u, rfl⟩ : ∃ z, u_c = z := ⟨_, rfl⟩
          cases hf
          exact r_v cx hp ⟨e20, fr⟩ dX13_readsPlace_61
        · have hf := fn hf c19
          refine lv_iconst (v := (-1)) hx hb dX13_readsPlace_53 (by decide) ?_
          refine lv_goto (tgt := 58) hx hb dX13_readsPlace_54 (by decide) ?_
          obtain ⟨ρ21, hc, hf⟩ := fb hf
          refine x_v hp (y_V (As := [.int p1, .int 3, .int (-1)]) (rest := []) cx hp hl (c_X13_sets l hN hT e20 hc) (cw_X13_145 cx (mc := 0) (ms := 0) rfl rfl ⟨by decide, by decide⟩) (rC_X13 hN cx hp) rfl rfl (Nat.le_of_ble_eq_true rfl) dX13_readsPlace_58 ⟨Nat.zero_le _, Nat.zero_le _⟩) (fun u_c H locs hq hp => ?_)
          obtain ⟨e_0, n_u⟩ := hq
          have e20 := e_0
          have fr : ∀ q, q ≠ 20 → u_c q = σ q := fun q h0 => (n_u q h0).trans (fr q h0)
          obtain ⟨u, rfl⟩ : ∃ z, u_c = z := ⟨_, rfl⟩
          cases hf
          exact r_v cx hp ⟨e20, fr⟩ dX13_readsPlace_61

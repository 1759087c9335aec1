abbrev rm_X13_draw : Room := { frames := 0, cells := 0, slots := 0, locals := 0 }
set_option maxRecDepth 100000 in
set_option maxHeartbeats 4000000 in
theorem c_X13_draw (l : Launch) {E : Ev} (hN : 151 ≤ eN E) (hT : St E) {σ : SM} {ρ : OM} (e20 : σ 20 = ρ) {p1 : Int32} {rv : Int32} {ρ' : OM} (hf : f_X13_draw p1 ρ = some (rv, ρ')) : Met l yX13_draw (wC yX13_draw cX13_draw 2 (some .int)) rm_X13_draw (va_Pc [.ref (adr E 20 0), .int p1] (Wu E σ)) (va_Qi (fun r u => rv = r ∧ u 20 = ρ' ∧ ∀ q, q ≠ 20 → u q = σ q) (fun u t => Wu E u t) (eA E)) 0 0 (eA E) := by
  refine g_entry (lv := [(0, .ref (adr E 20 0)), (1, .int p1)]) (by decide) (Nat.le_of_ble_eq_true rfl) rfl ?_
  intro p e s m below meth c cx hp ls hl
  have hx := cx.1.1
  have hb := cx.1.2.1
  have fr : ∀ q, q ≠ 20 → σ q = σ q := fun _ _ => rfl
  unfold f_X13_draw at hf
  refine lv_aload_n hx hb dX13_draw_0 rfl (lv_at hl 0 rfl) ?_
  refine lv_aload_n hx hb dX13_draw_1 rfl (lv_at hl 0 rfl) ?_
  refine gF_X13_52 e20 hN cx hp dX13_draw_2 ?_
  refine lv_ldc (v := 1103515245) hx hb cx.1.2.2.2.1 (cx.1.2.2.2.2 _ qV_X13_56) dX13_draw_5 ?_
  refine lv_imul hx hb dX13_draw_7 ?_
  refine lv_sipush (v := 12345) hx hb dX13_draw_8 (by decide) ?_
  refine lv_iadd hx hb dX13_draw_11 ?_
  obtain ⟨ρ1, e_l, hf⟩ := fl hf
  refine pF_X13_52 e20 hN cx hp dX13_draw_12 (fun u H locs e_u n_u hp => ?_)
  have e20 := e_u.trans e_l
  have fr : ∀ q, q ≠ 20 → u q = σ q := fun q h0 => (n_u q h0).trans (fr q h0)
  refine lv_aload_n hx hb dX13_draw_15 rfl (lv_at hl 0 rfl) ?_
  refine gF_X13_52 e20 hN cx hp dX13_draw_16 ?_
  refine lv_bipush (v := 16) hx hb dX13_draw_19 (by decide) ?_
  refine lv_iushr hx hb dX13_draw_21 rfl ?_
  refine lv_iload_n hx hb dX13_draw_22 rfl (lv_at hl 1 rfl) ?_
  obtain ⟨g_d, hf⟩ := fgn hf
  refine lv_irem hx hb dX13_draw_23 g_d ?_
  cases hf
  exact r_i cx hp ⟨rfl, e20, fr⟩ dX13_draw_24
abbrev rm_X13_put : Room := { frames := 4, cells := 0, slots := 0, locals := 85 }
set_option maxRecDepth 100000 in
set_option maxHeartbeats 4000000 in
theorem L_X13_put_2 {p : Program} {e : Env} {s : State} {m : MethodId} {args : Array Value} {below : List Frame} {meth : Method} {c : Code} (l : Launch) {E : Ev} (hN : 151 ≤ eN E) (hT : St E) {σ : SM} (cx : Cx E p s m meth c args RX13 cX13_put 3 none) {w1 : Nat} {ρ' : OM} : ∀ (n : Nat) {x2 : Int32} {ρ : OM}, f_X13_put_2 w1 n x2 ρ = some ρ' → ∀ {u : SM} {H : Heap} {locs : List Loc} {ls : Array Slot}, u 20 = ρ → (∀ q, q ≠ 20 → u q = σ q) → Hp E u s H locs → lv_has ls 3 [(0, .ref (adr E 20 0)), (1, .ref (eK E w1)), (2, .int x2)] → W p l e rm_X13_put s m args below meth c H locs 0 0 (MQ below (va_Qv (fun u => u 20 = ρ' ∧ ∀ q, q ≠ 20 → u q = σ q) (fun u t => Wu E u t) (eA E)) args s 0 0 (eA E)) (F0 m 2 ls []) := by
  have hx := cx.1.1
  have hb := cx.1.2.1
  intro n
  induction n with
  | zero =>
    intro x2 ρ hf
    exact absurd hf (by simp [f_X13_put_2])
  | succ n ih =>
    intro x2 ρ hf u H locs ls e20 fr hp hl
    rw [f_X13_put_2] at hf
    refine lv_iload_n hx hb dX13_put_2 rfl (lv_at hl 2 rfl) ?_
    refine lv_aload_n hx hb dX13_put_3 rfl (lv_at hl 1 rfl) ?_
    obtain ⟨r1, hc, hf⟩ := fb hf
    refine x_i hp (y_V (As := []) (rest := [.int x2]) cx hp hl (c_J0_length_8abf5 l (Nat.le_trans (by decide) hN) hT  hc) (cw_X13_57 cx (mc := 0) (ms := 0) rfl rfl ⟨by decide, by decide⟩) (rcS cx hp (hT.1 _ (g46_J0_length_8abf5 hc)).1) rfl rfl (Nat.le_of_ble_eq_true rfl) dX13_put_4 ⟨Nat.zero_le _, Nat.zero_le _⟩) (fun r_c u_c H locs hq hp => ?_)
    obtain ⟨rfl, rfl⟩ := hq
    refine lv_icmp_ge (tgt := 38) hx hb dX13_put_7 (by decide) (fun c2 => ?_) (fun c2 => ?_)
    · have hf := fp hf c2
      cases hf
      exact r_v cx hp ⟨e20, fr⟩ dX13_put_38
    · have hf := fn hf c2
      refine lv_aload_n hx hb dX13_put_10 rfl (lv_at hl 0 rfl) ?_
      refine gF_X13_9 rfl hN cx hp dX13_put_11 ?_
      refine lv_aload_n hx hb dX13_put_14 rfl (lv_at hl 0 rfl) ?_
      refine lv_dup hx hb dX13_put_15 rfl ?_
      refine gF_X13_62 e20 hN cx hp dX13_put_16 ?_
      refine lv_dup_x1 hx hb dX13_put_19 rfl rfl ?_
      refine lv_iconst (v := 1) hx hb dX13_put_20 (by decide) ?_
      refine lv_iadd hx hb dX13_put_21 ?_
      obtain ⟨ρ3, e_l, hf⟩ := fl hf
      refine pF_X13_62 e20 hN cx hp dX13_put_22 (fun u H locs e_u n_u hp => ?_)
      have e20 := e_u.trans e_l
      have fr : ∀ q, q ≠ 20 → u q = σ q := fun q h0 => (n_u q h0).trans (fr q h0)
      refine lv_aload_n hx hb dX13_put_25 rfl (lv_at hl 1 rfl) ?_
      refine lv_iload_n hx hb dX13_put_26 rfl (lv_at hl 2 rfl) ?_
      obtain ⟨r4, hc, hf⟩ := fb hf
      refine x_i hp (y_V (As := [.int x2]) (rest := [.int (ρ.1 0 13), .ref (adr E 20 1)]) cx hp hl (c_J0_charAt_5068e l (Nat.le_trans (by decide) hN) hT  hc) (cw_X13_65 cx (mc := 0) (ms := 0) rfl rfl ⟨by decide, by decide⟩) (rcS cx hp (hT.1 _ (g46_J0_charAt_5068e hc)).1) rfl rfl (Nat.le_of_ble_eq_true rfl) dX13_put_27 ⟨Nat.zero_le _, Nat.zero_le _⟩) (fun r_c u_c H locs hq hp => ?_)
      obtain ⟨rfl, rfl⟩ := hq
      refine lv_i2b hx hb dX13_put_30 rfl ?_
      obtain ⟨g_i, hf⟩ := fg hf
      obtain ⟨ρ5, e_l, hf⟩ := fl hf
      refine sA_X13_1 e20 hN cx hp (nb_n _) g_i dX13_put_31 (fun u H locs e_u n_u hp => ?_)
      have e20 := e_u.trans e_l
      have fr : ∀ q, q ≠ 20 → u q = σ q := fun q h0 => (n_u q h0).trans (fr q h0)
      refine lv_iinc (v := (x2 + 1)) (lv' := [(2, .int (x2 + 1)), (0, .ref (adr E 20 0)), (1, .ref (eK E w1))]) hx hb dX13_put_32 hl (k := 2) rfl rfl (by decide) rfl (fun ls hl => ?_)
      refine lv_goto (tgt := 2) hx hb dX13_put_35 (by decide) ?_
      exact ih  hf e20 fr hp (lv_sub hl [1, 2, 0] rfl)
set_option maxRecDepth 100000 in
set_option maxHeartbeats 4000000 in
theorem c_X13_put (l : Launch) {E : Ev} (hN : 151 ≤ eN E) (hT : St E) {σ : SM} {ρ : OM} (e20 : σ 20 = ρ) {w1 : Nat} {ρ' : OM} (hf : f_X13_put w1 ρ = some ρ') : Met l yX13_put (wC yX13_put cX13_put 3 none) rm_X13_put (va_Pc [.ref (adr E 20 0), .ref (eK E w1)] (Wu E σ)) (va_Qv (fun u => u 20 = ρ' ∧ ∀ q, q ≠ 20 → u q = σ q) (fun u t => Wu E u t) (eA E)) 0 0 (eA E) := by
  refine g_entry (lv := [(0, .ref (adr E 20 0)), (1, .ref (eK E w1))]) (by decide) (Nat.le_of_ble_eq_true rfl) rfl ?_
  intro p e s m below meth c cx hp ls hl
  have hx := cx.1.1
  have hb := cx.1.2.1
  have fr : ∀ q, q ≠ 20 → σ q = σ q := fun _ _ => rfl
  unfold f_X13_put at hf
  refine lv_iconst (v := 0) hx hb dX13_put_0 (by decide) ?_
  refine lv_istore_n (lv' := [(2, .int 0), (0, .ref (adr E 20 0)), (1, .ref (eK E w1))]) hx hb dX13_put_1 rfl hl (by decide) rfl (fun ls hl => ?_)
  exact L_X13_put_2 l hN hT cx  _ hf e20 fr hp (lv_sub hl [1, 2, 0] rfl)
abbrev rm_X13_digits_1 : Room := { frames := 0, cells := 0, slots := 0, locals := 0 }
set_option maxRecDepth 100000 in
set_option maxHeartbeats 4000000 in
theorem c_X13_digits_1 (l : Launch) {E : Ev} (hN : 151 ≤ eN E) (hT : St E) {σ : SM} {ρ : OM} (e20 : σ 20 = ρ) {p1 : Int32} {ρ' : OM} (hf : f_X13_digits_1 p1 ρ = some ρ') : Met l yX13_digits (wC yX13_digits cX13_digits 2 none) rm_X13_digits_1 (va_Pc [.ref (adr E 20 0), .int p1] (Wu E σ)) (va_Qv (fun u => u 20 = ρ' ∧ ∀ q, q ≠ 20 → u q = σ q) (fun u t => Wu E u t) (eA E)) 0 0 (eA E) := by
  refine g_entry (lv := [(0, .ref (adr E 20 0)), (1, .int p1)]) (by decide) (Nat.le_of_ble_eq_true rfl) rfl ?_
  intro p e s m below meth c cx hp ls hl
  have hx := cx.1.1
  have hb := cx.1.2.1
  have fr : ∀ q, q ≠ 20 → σ q = σ q := fun _ _ => rfl
  unfold f_X13_digits_1 at hf
  refine lv_iload_n hx hb dX13_digits_0 rfl (lv_at hl 1 rfl) ?_
  refine lv_bipush (v := 9) hx hb dX13_digits_1 (by decide) ?_
  refine lv_icmp_le (tgt := 14) hx hb dX13_digits_3 (by decide) (fun c1 => ?_) (fun c1 => ?_)
  · have hf := fp hf c1
    refine lv_aload_n hx hb dX13_digits_14 rfl (lv_at hl 0 rfl) ?_
    refine gF_X13_9 rfl hN cx hp dX13_digits_15 ?_
    refine lv_aload_n hx hb dX13_digits_18 rfl (lv_at hl 0 rfl) ?_
    refine lv_dup hx hb dX13_digits_19 rfl ?_
    refine gF_X13_62 e20 hN cx hp dX13_digits_20 ?_
    refine lv_dup_x1 hx hb dX13_digits_23 rfl rfl ?_
    refine lv_iconst (v := 1) hx hb dX13_digits_24 (by decide) ?_
    refine lv_iadd hx hb dX13_digits_25 ?_
    obtain ⟨ρ2, e_l, hf⟩ := fl hf
    refine pF_X13_62 e20 hN cx hp dX13_digits_26 (fun u H locs e_u n_u hp => ?_)
    have e20 := e_u.trans e_l
    have fr : ∀ q, q ≠ 20 → u q = σ q := fun q h0 => (n_u q h0).trans (fr q h0)
    refine lv_bipush (v := 48) hx hb dX13_digits_29 (by decide) ?_
    refine lv_iload_n hx hb dX13_digits_31 rfl (lv_at hl 1 rfl) ?_
    refine lv_bipush (v := 10) hx hb dX13_digits_32 (by decide) ?_
    refine lv_irem hx hb dX13_digits_34 (by decide) ?_
    refine lv_iadd hx hb dX13_digits_35 ?_
    refine lv_i2b hx hb dX13_digits_36 rfl ?_
    obtain ⟨g_i, hf⟩ := fg hf
    obtain ⟨ρ3, e_l, hf⟩ := fl hf
    refine sA_X13_1 e20 hN cx hp (nb_n _) g_i dX13_digits_37 (fun u H locs e_u n_u hp => ?_)
    have e20 := e_u.trans e_l
    have fr : ∀ q, q ≠ 20 → u q = σ q := fun q h0 => (n_u q h0).trans (fr q h0)
    cases hf
    exact r_v cx hp ⟨e20, fr⟩ dX13_digits_38
  · have hf := fn hf c1
    refine lv_aload_n hx hb dX13_digits_6 rfl (lv_at hl 0 rfl) ?_
    refine lv_iload_n hx hb dX13_digits_7 rfl (lv_at hl 1 rfl) ?_
    refine lv_bipush (v := 10) hx hb dX13_digits_8 (by decide) ?_
    refine lv_idiv hx hb dX13_digits_10 (by decide) ?_
    cases hf
abbrev rm_X13_digits_2 : Room := { frames := 1, cells := 0, slots := 0, locals := 21 }
set_option maxRecDepth 100000 in
set_option maxHeartbeats 4000000 in
theorem c_X13_digits_2 (l : Launch) {E : Ev} (hN : 151 ≤ eN E) (hT : St E) {σ : SM} {ρ : OM} (e20 : σ 20 = ρ) {p1 : Int32} {ρ' : OM} (hf : f_X13_digits_2 p1 ρ = some ρ') : Met l yX13_digits (wC yX13_digits cX13_digits 2 none) rm_X13_digits_2 (va_Pc [.ref (adr E 20 0), .int p1] (Wu E σ)) (va_Qv (fun u => u 20 = ρ' ∧ ∀ q, q ≠ 20 → u q = σ q) (fun u t => Wu E u t) (eA E)) 0 0 (eA E) := by
  refine g_entry (lv := [(0, .ref (adr E 20 0)), (1, .int p1)]) (by decide) (Nat.le_of_ble_eq_true rfl) rfl ?_
  intro p e s m below meth c cx hp ls hl
  have hx := cx.1.1
  have hb := cx.1.2.1
  have fr : ∀ q, q ≠ 20 → σ q = σ q := fun _ _ => rfl
  unfold f_X13_digits_2 at hf
  refine lv_iload_n hx hb dX13_digits_0 rfl (lv_at hl 1 rfl) ?_
  refine lv_bipush (v := 9) hx hb dX13_digits_1 (by decide) ?_
  refine lv_icmp_le (tgt := 14) hx hb dX13_digits_3 (by decide) (fun c1 => ?_) (fun c1 => ?_)
  · have hf := fp hf c1
    refine lv_aload_n hx hb dX13_digits_14 rfl (lv_at hl 0 rfl) ?_
    refine gF_X13_9 rfl hN cx hp dX13_digits_15 ?_
    refine lv_aload_n hx hb dX13_digits_18 rfl (lv_at hl 0 rfl) ?_
    refine lv_dup hx hb dX13_digits_19 rfl ?_
    refine gF_X13_62 e20 hN cx hp dX13_digits_20 ?_
    refine lv_dup_x1 hx hb dX13_digits_23 rfl rfl ?_
    refine lv_iconst (v := 1) hx hb dX13_digits_24 (by decide) ?_
    refine lv_iadd hx hb dX13_digits_25 ?_
    obtain ⟨ρ2, e_l, hf⟩ := fl hf
    refine pF_X13_62 e20 hN cx hp dX13_digits_26 (fun u H locs e_u n_u hp => ?_)
    have e20 := e_u.trans e_l
    have fr : ∀ q, q ≠ 20 → u q = σ q := fun q h0 => (n_u q h0).trans (fr q h0)
    refine lv_bipush (v := 48) hx hb dX13_digits_29 (by decide) ?_
    refine lv_iload_n hx hb dX13_digits_31 rfl (lv_at hl 1 rfl) ?_
    refine lv_bipush (v := 10) hx hb dX13_digits_32 (by decide) ?_
    refine lv_irem hx hb dX13_digits_34 (by decide) ?_
    refine lv_iadd hx hb dX13_digits_35 ?_
    refine lv_i2b hx hb dX13_digits_36 rfl ?_
    obtain ⟨g_i, hf⟩ := fg hf
    obtain ⟨ρ3, e_l, hf⟩ := fl hf
    refine sA_X13_1 e20 hN cx hp (nb_n _) g_i dX13_digits_37 (fun u H locs e_u n_u hp => ?_)
    have e20 := e_u.trans e_l
    have fr : ∀ q, q ≠ 20 → u q = σ q := fun q h0 => (n_u q h0).trans (fr q h0)
    cases hf
    exact r_v cx hp ⟨e20, fr⟩ dX13_digits_38
  · have hf := fn hf c1
    refine lv_aload_n hx hb dX13_digits_6 rfl (lv_at hl 0 rfl) ?_
    refine lv_iload_n hx hb dX13_digits_7 rfl (lv_at hl 1 rfl) ?_
    refine lv_bipush (v := 10) hx hb dX13_digits_8 (by decide) ?_
    refine lv_idiv hx hb dX13_digits_10 (by decide) ?_
    obtain ⟨ρ4, hc, hf⟩ := fb hf
    refine x_v hp (y_V (As := [.int (p1 / 10)]) (rest := []) cx hp hl (c_X13_digits_1 l hN hT e20 hc) (cw_X13_69 cx (mc := 0) (ms := 0) rfl rfl ⟨by decide, by decide⟩) (rC_X13 hN cx hp) rfl rfl (Nat.le_of_ble_eq_true rfl) dX13_digits_11 ⟨Nat.zero_le _, Nat.zero_le _⟩) (fun u_c H locs hq hp => ?_)
    obtain ⟨e_0, n_u⟩ := hq
    have e20 := e_0
    have fr : ∀ q, q ≠ 20 → u_c q = σ q := fun q h0 => (n_u q h0).trans (fr q h0)
    obtain ⟨u, rfl⟩ : ∃ z, u_c = z := ⟨_, rfl⟩
    refine lv_aload_n hx hb dX13_digits_14 rfl (lv_at hl 0 rfl) ?_
    refine gF_X13_9 rfl hN cx hp dX13_digits_15 ?_
    refine lv_aload_n hx hb dX13_digits_18 rfl (lv_at hl 0 rfl) ?_
    refine lv_dup hx hb dX13_digits_19 rfl ?_
    refine gF_X13_62 e20 hN cx hp dX13_digits_20 ?_
    refine lv_dup_x1 hx hb dX13_digits_23 rfl rfl ?_
    refine lv_iconst (v := 1) hx hb dX13_digits_24 (by decide) ?_
    refine lv_iadd hx hb dX13_digits_25 ?_
    obtain ⟨ρ5, e_l, hf⟩ := fl hf
    refine pF_X13_62 e20 hN cx hp dX13_digits_26 (fun u H locs e_u n_u hp => ?_)
    have e20 := e_u.trans e_l
    have fr : ∀ q, q ≠ 20 → u q = σ q := fun q h0 => (n_u q h0).trans (fr q h0)
    refine lv_bipush (v := 48) hx hb dX13_digits_29 (by decide) ?_
    refine lv_iload_n hx hb dX13_digits_31 rfl (lv_at hl 1 rfl) ?_
    refine lv_bipush (v := 10) hx hb dX13_digits_32 (by decide) ?_
    refine lv_irem hx hb dX13_digits_34 (by decide) ?_
    refine lv_iadd hx hb dX13_digits_35 ?_
    refine lv_i2b hx hb dX13_digits_36 rfl ?_
    obtain ⟨g_i, hf⟩ := fg hf
    obtain ⟨ρ6, e_l, hf⟩ := fl hf
    refine sA_X13_1 e20 hN cx hp (nb_n _) g_i dX13_digits_37 (fun u H locs e_u n_u hp => ?_)
    have e20 := e_u.trans e_l
    have fr : ∀ q, q ≠ 20 → u q = σ q := fun q h0 => (n_u q h0).trans (fr q h0)
    cases hf
    exact r_v cx hp ⟨e20, fr⟩ dX13_digits_38
abbrev rm_X13_digits_3 : Room := { frames := 2, cells := 0, slots := 0, locals := 42 }
set_option maxRecDepth 100000 in
set_option maxHeartbeats 4000000 in
theorem c_X13_digits_3 (l : Launch) {E : Ev} (hN : 151 ≤ eN E) (hT : St E) {σ : SM} {ρ : OM} (e20 : σ 20 = ρ) {p1 : Int32} {ρ' : OM} (hf : f_X13_digits_3 p1 ρ = some ρ') : Met l yX13_digits (wC yX13_digits cX13_digits 2 none) rm_X13_digits_3 (va_Pc [.ref (adr E 20 0), .int p1] (Wu E σ)) (va_Qv (fun u => u 20 = ρ' ∧ ∀ q, q ≠ 20 → u q = σ q) (fun u t => Wu E u t) (eA E)) 0 0 (eA E) := by
  refine g_entry (lv := [(0, .ref (adr E 20 0)), (1, .int p1)]) (by decide) (Nat.le_of_ble_eq_true rfl) rfl ?_
  intro p e s m below meth c cx hp ls hl
  have hx := cx.1.1
  have hb := cx.1.2.1
  have fr : ∀ q, q ≠ 20 → σ q = σ q := fun _ _ => rfl
  unfold f_X13_digits_3 at hf
  refine lv_iload_n hx hb dX13_digits_0 rfl (lv_at hl 1 rfl) ?_
  refine lv_bipush (v := 9) hx hb dX13_digits_1 (by decide) ?_
  refine lv_icmp_le (tgt := 14) hx hb dX13_digits_3 (by decide) (fun c1 => ?_) (fun c1 => ?_)
  · have hf := fp hf c1
    refine lv_aload_n hx hb dX13_digits_14 rfl (lv_at hl 0 rfl) ?_
    refine gF_X13_9 rfl hN cx hp dX13_digits_15 ?_
    refine lv_aload_n hx hb dX13_digits_18 rfl (lv_at hl 0 rfl) ?_
    refine lv_dup hx hb dX13_digits_19 rfl ?_
    refine gF_X13_62 e20 hN cx hp dX13_digits_20 ?_
    refine lv_dup_x1 hx hb dX13_digits_23 rfl rfl ?_
    refine lv_iconst (v := 1) hx hb dX13_digits_24 (by decide) ?_
    refine lv_iadd hx hb dX13_digits_25 ?_
    obtain ⟨ρ2, e_l, hf⟩ := fl hf
    refine pF_X13_62 e20 hN cx hp dX13_digits_26 (fun u H locs e_u n_u hp => ?_)
    have e20 := e_u.trans e_l
    have fr : ∀ q, q ≠ 20 → u q = σ q := fun q h0 => (n_u q h0).trans (fr q h0)
    refine lv_bipush (v := 48) hx hb dX13_digits_29 (by decide) ?_
    refine lv_iload_n hx hb dX13_digits_31 rfl (lv_at hl 1 rfl) ?_
    refine lv_bipush (v := 10) hx hb dX13_digits_32 (by decide) ?_
    refine lv_irem hx hb dX13_digits_34 (by decide) ?_
    refine lv_iadd hx hb dX13_digits_35 ?_
    refine lv_i2b hx hb dX13_digits_36 rfl ?_
    obtain ⟨g_i, hf⟩ := fg hf
    obtain ⟨ρ3, e_l, hf⟩ := fl hf
    refine sA_X13_1 e20 hN cx hp (nb_n _) g_i dX13_digits_37 (fun u H locs e_u n_u hp => ?_)
    have e20 := e_u.trans e_l
    have fr : ∀ q, q ≠ 20 → u q = σ q := fun q h0 => (n_u q h0).trans (fr q h0)
    cases hf
    exact r_v cx hp ⟨e20, fr⟩ dX13_digits_38
  · have hf := fn hf c1
    refine lv_aload_n hx hb dX13_digits_6 rfl (lv_at hl 0 rfl) ?_
    refine lv_iload_n hx hb dX13_digits_7 rfl (lv_at hl 1 rfl) ?_
    refine lv_bipush (v := 10) hx hb dX13_digits_8 (by decide) ?_
    refine lv_idiv hx hb dX13_digits_10 (by decide) ?_
    obtain ⟨ρ4, hc, hf⟩ := fb hf
    refine x_v hp (y_V (As := [.int (p1 / 10)]) (rest := []) cx hp hl (c_X13_digits_2 l hN hT e20 hc) (cw_X13_69 cx (mc := 0) (ms := 0) rfl rfl ⟨by decide, by decide⟩) (rC_X13 hN cx hp) rfl rfl (Nat.le_of_ble_eq_true rfl) dX13_digits_11 ⟨Nat.zero_le _, Nat.zero_le _⟩) (fun u_c H locs hq hp => ?_)
    obtain ⟨e_0, n_u⟩ := hq
    have e20 := e_0
    have fr : ∀ q, q ≠ 20 → u_c q = σ q := fun q h0 => (n_u q h0).trans (fr q h0)
    obtain ⟨u, rfl⟩ : ∃ z, u_c = z := ⟨_, rfl⟩
    refine lv_aload_n hx hb dX13_digits_14 rfl (lv_at hl 0 rfl) ?_
    refine gF_X13_9 rfl hN cx hp dX13_digits_15 ?_
    refine lv_aload_n hx hb dX13_digits_18 rfl (lv_at hl 0 rfl) ?_
    refine lv_dup hx hb dX13_digits_19 rfl ?_
    refine gF_X13_62 e20 hN cx hp dX13_digits_20 ?_
    refine lv_dup_x1 hx hb dX13_digits_23 rfl rfl ?_
    refine lv_iconst (v := 1) hx hb dX13_digits_24 (by decide) ?_
    refine lv_iadd hx hb dX13_digits_25 ?_
    obtain ⟨ρ5, e_l, hf⟩ := fl hf
    refine pF_X13_62 e20 hN cx hp dX13_digits_26 (fun u H locs e_u n_u hp => ?_)
    have e20 := e_u.trans e_l
    have fr : ∀ q, q ≠ 20 → u q = σ q := fun q h0 => (n_u q h0).trans (fr q h0)
    refine lv_bipush (v := 48) hx hb dX13_digits_29 (by decide) ?_
    refine lv_iload_n hx hb dX13_digits_31 rfl (lv_at hl 1 rfl) ?_
    refine lv_bipush (v := 10) hx hb dX13_digits_32 (by decide) ?_
    refine lv_irem hx hb dX13_digits_34 (by decide) ?_
    refine lv_iadd hx hb dX13_digits_35 ?_
    refine lv_i2b hx hb dX13_digits_36 rfl ?_
    obtain ⟨g_i, hf⟩ := fg hf
    obtain ⟨ρ6, e_l, hf⟩ := fl hf
    refine sA_X13_1 e20 hN cx hp (nb_n _) g_i dX13_digits_37 (fun u H locs e_u n_u hp => ?_)
    have e20 := e_u.trans e_l
    have fr : ∀ q, q ≠ 20 → u q = σ q := fun q h0 => (n_u q h0).trans (fr q h0)
    cases hf
    exact r_v cx hp ⟨e20, fr⟩ dX13_digits_38
abbrev rm_X13_put_ : Room := { frames := 5, cells := 0, slots := 0, locals := 107 }
set_option maxRecDepth 100000 in
set_option maxHeartbeats 4000000 in
theorem c_X13_put_ (l : Launch) {E : Ev} (hN : 151 ≤ eN E) (hT : St E) {σ : SM} {ρ : OM} (e20 : σ 20 = ρ) {p1 : Int32} {ρ' : OM} (hf : f_X13_put_ p1 ρ = some ρ') : Met l yX13_put_ (wC yX13_put_ cX13_put_ 2 none) rm_X13_put_ (va_Pc [.ref (adr E 20 0), .int p1] (Wu E σ)) (va_Qv (fun u => u 20 = ρ' ∧ ∀ q, q ≠ 20 → u q = σ q) (fun u t => Wu E u t) (eA E)) 0 0 (eA E) := by
  refine g_entry (lv := [(0, .ref (adr E 20 0)), (1, .int p1)]) (by decide) (Nat.le_of_ble_eq_true rfl) rfl ?_
  intro p e s m below meth c cx hp ls hl
  have hx := cx.1.1
  have hb := cx.1.2.1
  have fr : ∀ q, q ≠ 20 → σ q = σ q := fun _ _ => rfl
  unfold f_X13_put_ at hf
  refine lv_aload_n hx hb dX13_put__0 rfl (lv_at hl 0 rfl) ?_
  refine va_ldcS hx hb cx.1.2.2.2.1 (cx.2.2.1.2.2.2 8 _ rfl) dX13_put__1 ?_
  obtain ⟨ρ1, hc, hf⟩ := fb hf
  refine x_v hp (y_V (As := [.ref (eK E 8)]) (rest := []) cx hp hl (c_X13_put l hN hT e20 hc) (cw_X13_75 cx (mc := 0) (ms := 0) rfl rfl ⟨by decide, by decide⟩) (rC_X13 hN cx hp) rfl rfl (Nat.le_of_ble_eq_true rfl) dX13_put__3 ⟨Nat.zero_le _, Nat.zero_le _⟩) (fun u_c H locs hq hp => ?_)
  obtain ⟨e_0, n_u⟩ := hq
  have e20 := e_0
  have fr : ∀ q, q ≠ 20 → u_c q = σ q := fun q h0 => (n_u q h0).trans (fr q h0)
  obtain ⟨u, rfl⟩ : ∃ z, u_c = z := ⟨_, rfl⟩
  refine lv_aload_n hx hb dX13_put__6 rfl (lv_at hl 0 rfl) ?_
  refine lv_iload_n hx hb dX13_put__7 rfl (lv_at hl 1 rfl) ?_
  obtain ⟨ρ2, hc, hf⟩ := fb hf
  refine x_v hp (y_V (As := [.int p1]) (rest := []) cx hp hl (c_X13_digits_3 l hN hT e20 hc) (cw_X13_69 cx (mc := 0) (ms := 0) rfl rfl ⟨by decide, by decide⟩) (rC_X13 hN cx hp) rfl rfl (Nat.le_of_ble_eq_true rfl) dX13_put__8 ⟨Nat.zero_le _, Nat.zero_le _⟩) (fun u_c H locs hq hp => ?_)
  obtain ⟨e_0, n_u⟩ := hq
  have e20 := e_0
  have fr : ∀ q, q ≠ 20 → u_c q = σ q := fun q h0 => (n_u q h0).trans (fr q h0)
  obtain ⟨u, rfl⟩ : ∃ z, u_c = z := ⟨_, rfl⟩
  cases hf
  exact r_v cx hp ⟨e20, fr⟩ dX13_put__11
abbrev rm_X13_letter : Room := { frames := 5, cells := 0, slots := 0, locals := 107 }
set_option maxRecDepth 100000 in
set_option maxHeartbeats 4000000 in
theorem c_X13_letter (l : Launch) {E : Ev} (hN : 151 ≤ eN E) (hT : St E) {σ : SM} {ρ : OM} (e20 : σ 20 = ρ) {p1 : Int32} {p2 : Int32} {ρ' : OM} (hf : f_X13_letter p1 p2 ρ = some ρ') : Met l yX13_letter (wC yX13_letter cX13_letter 3 none) rm_X13_letter (va_Pc [.ref (adr E 20 0), .int p1, .int p2] (Wu E σ)) (va_Qv (fun u => u 20 = ρ' ∧ ∀ q, q ≠ 20 → u q = σ q) (fun u t => Wu E u t) (eA E)) 0 0 (eA E) := by
  refine g_entry (lv := [(0, .ref (adr E 20 0)), (1, .int p1), (2, .int p2)]) (by decide) (Nat.le_of_ble_eq_true rfl) rfl ?_
  intro p e s m below meth c cx hp ls hl
  have hx := cx.1.1
  have hb := cx.1.2.1
  have fr : ∀ q, q ≠ 20 → σ q = σ q := fun _ _ => rfl
  unfold f_X13_letter at hf
  refine lv_aload_n hx hb dX13_letter_0 rfl (lv_at hl 0 rfl) ?_
  refine va_ldcS hx hb cx.1.2.2.2.1 (cx.2.2.1.2.2.2 8 _ rfl) dX13_letter_1 ?_
  obtain ⟨ρ1, hc, hf⟩ := fb hf
  refine x_v hp (y_V (As := [.ref (eK E 8)]) (rest := []) cx hp hl (c_X13_put l hN hT e20 hc) (cw_X13_75 cx (mc := 0) (ms := 0) rfl rfl ⟨by decide, by decide⟩) (rC_X13 hN cx hp) rfl rfl (Nat.le_of_ble_eq_true rfl) dX13_letter_3 ⟨Nat.zero_le _, Nat.zero_le _⟩) (fun u_c H locs hq hp => ?_)
  obtain ⟨e_0, n_u⟩ := hq
  have e20 := e_0
  have fr : ∀ q, q ≠ 20 → u_c q = σ q := fun q h0 => (n_u q h0).trans (fr q h0)
  obtain ⟨u, rfl⟩ : ∃ z, u_c = z := ⟨_, rfl⟩
  refine lv_aload_n hx hb dX13_letter_6 rfl (lv_at hl 0 rfl) ?_
  refine gF_X13_9 rfl hN cx hp dX13_letter_7 ?_
  refine lv_aload_n hx hb dX13_letter_10 rfl (lv_at hl 0 rfl) ?_
  refine lv_dup hx hb dX13_letter_11 rfl ?_
  refine gF_X13_62 e20 hN cx hp dX13_letter_12 ?_
  refine lv_dup_x1 hx hb dX13_letter_15 rfl rfl ?_
  refine lv_iconst (v := 1) hx hb dX13_letter_16 (by decide) ?_
  refine lv_iadd hx hb dX13_letter_17 ?_
  obtain ⟨ρ2, e_l, hf⟩ := fl hf
  refine pF_X13_62 e20 hN cx hp dX13_letter_18 (fun u H locs e_u n_u hp => ?_)
  have e20 := e_u.trans e_l
  have fr : ∀ q, q ≠ 20 → u q = σ q := fun q h0 => (n_u q h0).trans (fr q h0)
  refine lv_iload_n hx hb dX13_letter_21 rfl (lv_at hl 1 rfl) ?_
  refine lv_iload_n hx hb dX13_letter_22 rfl (lv_at hl 2 rfl) ?_
  refine lv_iadd hx hb dX13_letter_23 ?_
  refine lv_i2b hx hb dX13_letter_24 rfl ?_
  obtain ⟨g_i, hf⟩ := fg hf
  obtain ⟨ρ3, e_l, hf⟩ := fl hf
  refine sA_X13_1 e20 hN cx hp (nb_n _) g_i dX13_letter_25 (fun u H locs e_u n_u hp => ?_)
  have e20 := e_u.trans e_l
  have fr : ∀ q, q ≠ 20 → u q = σ q := fun q h0 => (n_u q h0).trans (fr q h0)
  cases hf
  exact r_v cx hp ⟨e20, fr⟩ dX13_letter_26
abbrev rm_X13_four : Room := { frames := 0, cells := 0, slots := 0, locals := 0 }
set_option maxRecDepth 100000 in
set_option maxHeartbeats 4000000 in
theorem L_X13_four_4 {p : Program} {e : Env} {s : State} {m : MethodId} {args : Array Value} {below : List Frame} {meth : Method} {c : Code} (l : Launch) {E : Ev} (hN : 151 ≤ eN E) (hT : St E) {σ : SM} (cx : Cx E p s m meth c args RX13 cX13_four 4 (some .int)) {x1 : Int32} {ρ : OM} {rv : Int32} : ∀ (n : Nat) {x3 : Int32} {x2 : Int32}, f_X13_four_4 x1 ρ n x3 x2 = some rv → ∀ {u : SM} {H : Heap} {locs : List Loc} {ls : Array Slot}, u 20 = ρ → (∀ q, u q = σ q) → Hp E u s H locs → lv_has ls 4 [(0, .ref (adr E 20 0)), (1, .int x1), (2, .int x2), (3, .int x3)] → W p l e rm_X13_four s m args below meth c H locs 0 0 (MQ below (va_Qi (fun r u => rv = r ∧ σ = u) (fun u t => Wu E u t) (eA E)) args s 0 0 (eA E)) (F0 m 4 ls []) := by
  have hx := cx.1.1
  have hb := cx.1.2.1
  intro n
  induction n with
  | zero =>
    intro x3 x2 hf
    exact absurd hf (by simp [f_X13_four_4])
  | succ n ih =>
    intro x3 x2 hf u H locs ls e20 fr hp hl
    rw [f_X13_four_4] at hf
    refine lv_iload_n hx hb dX13_four_4 rfl (lv_at hl 3 rfl) ?_
    refine lv_iload_n hx hb dX13_four_5 rfl (lv_at hl 1 rfl) ?_
    refine lv_iconst (v := 4) hx hb dX13_four_6 (by decide) ?_
    refine lv_iadd hx hb dX13_four_7 ?_
    refine lv_icmp_ge (tgt := 42) hx hb dX13_four_8 (by decide) (fun c1 => ?_) (fun c1 => ?_)
    · have hf := fp hf c1
      refine lv_iload_n hx hb dX13_four_42 rfl (lv_at hl 2 rfl) ?_
      cases hf
      exact r_i cx hp ⟨rfl, (funext fr).symm⟩ dX13_four_43
    · have hf := fn hf c1
      refine lv_iload_n hx hb dX13_four_11 rfl (lv_at hl 2 rfl) ?_
      refine lv_bipush (v := 8) hx hb dX13_four_12 (by decide) ?_
      refine lv_ishl hx hb dX13_four_14 ?_
      refine lv_iload_n hx hb dX13_four_15 rfl (lv_at hl 3 rfl) ?_
      refine lv_aload_n hx hb dX13_four_16 rfl (lv_at hl 0 rfl) ?_
      refine gF_X13_62 e20 hN cx hp dX13_four_17 ?_
      refine lv_icmp_ge (tgt := 32) hx hb dX13_four_20 (by decide) (fun c2 => ?_) (fun c2 => ?_)
      · have hf := fp hf c2
        refine lv_bipush (v := 32) hx hb dX13_four_32 (by decide) ?_
        refine lv_ior hx hb dX13_four_34 ?_
        obtain ⟨i3, x_e, hf⟩ := fl hf
        refine lv_nm x_e ?_
        refine lv_istore_n (lv' := [(2, .int i3), (0, .ref (adr E 20 0)), (1, .int x1), (3, .int x3)]) hx hb dX13_four_35 rfl hl (by decide) rfl (fun ls hl => ?_)
        refine lv_iinc (v := (x3 + 1)) (lv' := [(3, .int (x3 + 1)), (2, .int i3), (0, .ref (adr E 20 0)), (1, .int x1)]) hx hb dX13_four_36 hl (k := 3) rfl rfl (by decide) rfl (fun ls hl => ?_)
        refine lv_goto (tgt := 4) hx hb dX13_four_39 (by decide) ?_
        exact ih  hf e20 fr hp (lv_sub hl [2, 3, 1, 0] rfl)
      · have hf := fn hf c2
        refine lv_aload_n hx hb dX13_four_23 rfl (lv_at hl 0 rfl) ?_
        refine gF_X13_9 rfl hN cx hp dX13_four_24 ?_
        refine lv_iload_n hx hb dX13_four_27 rfl (lv_at hl 3 rfl) ?_
        obtain ⟨g_i, hf⟩ := fg hf
        refine lA_X13_1 e20 hN cx hp g_i dX13_four_28 ?_
        refine lv_goto (tgt := 34) hx hb dX13_four_29 (by decide) ?_
        refine lv_ior hx hb dX13_four_34 ?_
        obtain ⟨i4, x_e, hf⟩ := fl hf
        refine lv_nm x_e ?_
        refine lv_istore_n (lv' := [(2, .int i4), (0, .ref (adr E 20 0)), (1, .int x1), (3, .int x3)]) hx hb dX13_four_35 rfl hl (by decide) rfl (fun ls hl => ?_)
        refine lv_iinc (v := (x3 + 1)) (lv' := [(3, .int (x3 + 1)), (2, .int i4), (0, .ref (adr E 20 0)), (1, .int x1)]) hx hb dX13_four_36 hl (k := 3) rfl rfl (by decide) rfl (fun ls hl => ?_)
        refine lv_goto (tgt := 4) hx hb dX13_four_39 (by decide) ?_
        exact ih  hf e20 fr hp (lv_sub hl [2, 3, 1, 0] rfl)
set_option maxRecDepth 100000 in
set_option maxHeartbeats 4000000 in
theorem c_X13_four (l : Launch) {E : Ev} (hN : 151 ≤ eN E) (hT : St E) {σ : SM} {ρ : OM} (e20 : σ 20 = ρ) {p1 : Int32} {rv : Int32} (hf : f_X13_four p1 ρ = some rv) : Met l yX13_four (wC yX13_four cX13_four 4 (some .int)) rm_X13_four (va_Pc [.ref (adr E 20 0), .int p1] (Wu E σ)) (va_Qi (fun r u => rv = r ∧ σ = u) (fun u t => Wu E u t) (eA E)) 0 0 (eA E) := by
  refine g_entry (lv := [(0, .ref (adr E 20 0)), (1, .int p1)]) (by decide) (Nat.le_of_ble_eq_true rfl) rfl ?_
  intro p e s m below meth c cx hp ls hl
  have hx := cx.1.1
  have hb := cx.1.2.1
  have fr : ∀ q, σ q = σ q := fun _ => rfl
  unfold f_X13_four at hf
  refine lv_iconst (v := 0) hx hb dX13_four_0 (by decide) ?_
  refine lv_istore_n (lv' := [(2, .int 0), (0, .ref (adr E 20 0)), (1, .int p1)]) hx hb dX13_four_1 rfl hl (by decide) rfl (fun ls hl => ?_)
  refine lv_iload_n hx hb dX13_four_2 rfl (lv_at hl 2 rfl) ?_
  refine lv_istore_n (lv' := [(3, .int p1), (2, .int 0), (0, .ref (adr E 20 0)), (1, .int p1)]) hx hb dX13_four_3 rfl hl (by decide) rfl (fun ls hl => ?_)
  exact L_X13_four_4 l hN hT cx  _ hf e20 fr hp (lv_sub hl [2, 3, 1, 0] rfl)
abbrev rm_X13_send : Room := { frames := 3, cells := 0, slots := 0, locals := 69 }
set_option maxRecDepth 100000 in
set_option maxHeartbeats 4000000 in
theorem L_X13_send_2 {p : Program} {e : Env} {s : State} {m : MethodId} {args : Array Value} {below : List Frame} {meth : Method} {c : Code} (l : Launch) {E : Ev} (hN : 151 ≤ eN E) (hT : St E) (cx : Cx E p s m meth c args RX13 cX13_send 3 (some .boolean)) {rv : Int32} {σ' : SM} : ∀ (n : Nat) {x2 : Int32} {σ : SM}, f_X13_send_2  n x2 σ = some (rv, σ') → ∀ {H : Heap} {locs : List Loc} {ls : Array Slot}, Hp E σ s H locs → lv_has ls 3 [(0, .ref (adr E 20 0)), (1, .ref (adr E 19 0)), (2, .int x2)] → W p l e rm_X13_send s m args below meth c H locs 0 0 (MQ below (va_Qi (fun r u => rv = r ∧ σ' = u) (fun u t => Wu E u t) (eA E)) args s 0 0 (eA E)) (F0 m 2 ls []) := by
  have hx := cx.1.1
  have hb := cx.1.2.1
  intro n
  induction n with
  | zero =>
    intro x2 σ hf
    exact absurd hf (by simp [f_X13_send_2])
  | succ n ih =>
    intro x2 σ hf H locs ls hp hl
    rw [f_X13_send_2] at hf
    refine lv_iload_n hx hb dX13_send_2 rfl (lv_at hl 2 rfl) ?_
    refine lv_aload_n hx hb dX13_send_3 rfl (lv_at hl 0 rfl) ?_
    refine gF_X13_62 rfl hN cx hp dX13_send_4 ?_
    refine lv_icmp_ge (tgt := 65) hx hb dX13_send_7 (by decide) (fun c1 => ?_) (fun c1 => ?_)
    · have hf := fp hf c1
      refine lv_aload_n hx hb dX13_send_65 rfl (lv_at hl 0 rfl) ?_
      refine lv_iconst (v := 0) hx hb dX13_send_66 (by decide) ?_
      obtain ⟨σ2, e_l, hf⟩ := fl hf
      refine pF_X13_62 rfl hN cx hp dX13_send_67 (fun u H locs e_u n_u hp => ?_)
      obtain rfl := ((us_x e_u n_u).trans e_l).symm
      refine lv_iconst (v := 1) hx hb dX13_send_70 (by decide) ?_
      cases hf
      exact r_z cx hp rfl ⟨rfl, rfl⟩ dX13_send_71
    · have hf := fn hf c1
      refine lv_aload_n hx hb dX13_send_10 rfl (lv_at hl 1 rfl) ?_
      refine lv_aload_n hx hb dX13_send_11 rfl (lv_at hl 0 rfl) ?_
      refine lv_iload_n hx hb dX13_send_12 rfl (lv_at hl 2 rfl) ?_
      obtain ⟨r3, hc, hf⟩ := fb hf
      refine x_i hp (y_V (As := [.int x2]) (rest := [.ref (adr E 19 0)]) cx hp hl (c_X13_four l hN hT rfl hc) (cw_X13_79 cx (mc := 0) (ms := 0) rfl rfl ⟨by decide, by decide⟩) (rC_X13 hN cx hp) rfl rfl (Nat.le_of_ble_eq_true rfl) dX13_send_13 ⟨Nat.zero_le _, Nat.zero_le _⟩) (fun r_c u_c H locs hq hp => ?_)
      obtain ⟨rfl, rfl⟩ := hq
      refine lv_aload_n hx hb dX13_send_16 rfl (lv_at hl 0 rfl) ?_
      refine lv_iload_n hx hb dX13_send_17 rfl (lv_at hl 2 rfl) ?_
      refine lv_iconst (v := 4) hx hb dX13_send_18 (by decide) ?_
      refine lv_iadd hx hb dX13_send_19 ?_
      obtain ⟨r4, hc, hf⟩ := fb hf
      refine x_i hp (y_V (As := [.int (x2 + 4)]) (rest := [.int r3, .ref (adr E 19 0)]) cx hp hl (c_X13_four l hN hT rfl hc) (cw_X13_79 cx (mc := 0) (ms := 0) rfl rfl ⟨by decide, by decide⟩) (rC_X13 hN cx hp) rfl rfl (Nat.le_of_ble_eq_true rfl) dX13_send_20 ⟨Nat.zero_le _, Nat.zero_le _⟩) (fun r_c u_c H locs hq hp => ?_)
      obtain ⟨rfl, rfl⟩ := hq
      refine lv_aload_n hx hb dX13_send_23 rfl (lv_at hl 0 rfl) ?_
      refine lv_iload_n hx hb dX13_send_24 rfl (lv_at hl 2 rfl) ?_
      refine lv_bipush (v := 8) hx hb dX13_send_25 (by decide) ?_
      refine lv_iadd hx hb dX13_send_27 ?_
      obtain ⟨r5, hc, hf⟩ := fb hf
      refine x_i hp (y_V (As := [.int (x2 + 8)]) (rest := [.int r4, .int r3, .ref (adr E 19 0)]) cx hp hl (c_X13_four l hN hT rfl hc) (cw_X13_79 cx (mc := 0) (ms := 0) rfl rfl ⟨by decide, by decide⟩) (rC_X13 hN cx hp) rfl rfl (Nat.le_of_ble_eq_true rfl) dX13_send_28 ⟨Nat.zero_le _, Nat.zero_le _⟩) (fun r_c u_c H locs hq hp => ?_)
      obtain ⟨rfl, rfl⟩ := hq
      refine lv_aload_n hx hb dX13_send_31 rfl (lv_at hl 0 rfl) ?_
      refine lv_iload_n hx hb dX13_send_32 rfl (lv_at hl 2 rfl) ?_
      refine lv_bipush (v := 12) hx hb dX13_send_33 (by decide) ?_
      refine lv_iadd hx hb dX13_send_35 ?_
      obtain ⟨r6, hc, hf⟩ := fb hf
      refine x_i hp (y_V (As := [.int (x2 + 12)]) (rest := [.int r5, .int r4, .int r3, .ref (adr E 19 0)]) cx hp hl (c_X13_four l hN hT rfl hc) (cw_X13_79 cx (mc := 0) (ms := 0) rfl rfl ⟨by decide, by decide⟩) (rC_X13 hN cx hp) rfl rfl (Nat.le_of_ble_eq_true rfl) dX13_send_36 ⟨Nat.zero_le _, Nat.zero_le _⟩) (fun r_c u_c H locs hq hp => ?_)
      obtain ⟨rfl, rfl⟩ := hq
      refine lv_aload_n hx hb dX13_send_39 rfl (lv_at hl 0 rfl) ?_
      refine lv_iload_n hx hb dX13_send_40 rfl (lv_at hl 2 rfl) ?_
      refine lv_bipush (v := 16) hx hb dX13_send_41 (by decide) ?_
      refine lv_iadd hx hb dX13_send_43 ?_
      obtain ⟨r7, hc, hf⟩ := fb hf
      refine x_i hp (y_V (As := [.int (x2 + 16)]) (rest := [.int r6, .int r5, .int r4, .int r3, .ref (adr E 19 0)]) cx hp hl (c_X13_four l hN hT rfl hc) (cw_X13_79 cx (mc := 0) (ms := 0) rfl rfl ⟨by decide, by decide⟩) (rC_X13 hN cx hp) rfl rfl (Nat.le_of_ble_eq_true rfl) dX13_send_44 ⟨Nat.zero_le _, Nat.zero_le _⟩) (fun r_c u_c H locs hq hp => ?_)
      obtain ⟨rfl, rfl⟩ := hq
      obtain ⟨r8, σ9, hc, hf⟩ := fb2 hf
      refine x_i hp (y_V (As := [.int r3, .int r4, .int r5, .int r6, .int r7]) (rest := []) cx hp hl (c_X12_appendInput l (Nat.le_trans (by decide) hN) hT  hc) (cw_X13_83 cx (mc := 0) (ms := 0) rfl rfl ⟨by decide, by decide⟩) (rC_X12 (Nat.le_trans (by decide) hN) cx hp) rfl rfl (Nat.le_of_ble_eq_true rfl) dX13_send_47 ⟨Nat.zero_le _, Nat.zero_le _⟩) (fun r_c u_c H locs hq hp => ?_)
      obtain ⟨rfl, rfl⟩ := hq
      refine lv_iload_n hx hb dX13_send_50 rfl (lv_at hl 2 rfl) ?_
      refine lv_bipush (v := 20) hx hb dX13_send_51 (by decide) ?_
      refine lv_iadd hx hb dX13_send_53 ?_
      refine lv_icmp_eq (tgt := 59) hx hb dX13_send_54 (by decide) (fun c10 => ?_) (fun c10 => ?_)
      · have hf := fp hf c10
        refine lv_iinc (v := (x2 + 20)) (lv' := [(2, .int (x2 + 20)), (0, .ref (adr E 20 0)), (1, .ref (adr E 19 0))]) hx hb dX13_send_59 hl (k := 2) rfl rfl (by decide) rfl (fun ls hl => ?_)
        refine lv_goto (tgt := 2) hx hb dX13_send_62 (by decide) ?_
        exact ih  hf hp (lv_sub hl [1, 2, 0] rfl)
      · have hf := fn hf c10
        cases hf
set_option maxRecDepth 100000 in
set_option maxHeartbeats 4000000 in
theorem c_X13_send (l : Launch) {E : Ev} (hN : 151 ≤ eN E) (hT : St E) {σ : SM}  {rv : Int32} {σ' : SM} (hf : f_X13_send σ = some (rv, σ')) : Met l yX13_send (wC yX13_send cX13_send 3 (some .boolean)) rm_X13_send (va_Pc [.ref (adr E 20 0), .ref (adr E 19 0)] (Wu E σ)) (va_Qi (fun r u => rv = r ∧ σ' = u) (fun u t => Wu E u t) (eA E)) 0 0 (eA E) := by
  refine g_entry (lv := [(0, .ref (adr E 20 0)), (1, .ref (adr E 19 0))]) (by decide) (Nat.le_of_ble_eq_true rfl) rfl ?_
  intro p e s m below meth c cx hp ls hl
  have hx := cx.1.1
  have hb := cx.1.2.1
  unfold f_X13_send at hf
  refine lv_iconst (v := 0) hx hb dX13_send_0 (by decide) ?_
  refine lv_istore_n (lv' := [(2, .int 0), (0, .ref (adr E 20 0)), (1, .ref (adr E 19 0))]) hx hb dX13_send_1 rfl hl (by decide) rfl (fun ls hl => ?_)
  exact L_X13_send_2 l hN hT cx  _ hf hp (lv_sub hl [1, 2, 0] rfl)
abbrev rm_X13_rank : Room := { frames := 0, cells := 0, slots := 0, locals := 0 }
set_option maxRecDepth 100000 in
set_option maxHeartbeats 4000000 in
theorem L_X13_rank_2 {p : Program} {e : Env} {s : State} {m : MethodId} {args : Array Value} {below : List Frame} {meth : Method} {c : Code} (l : Launch) {E : Ev} (hN : 151 ≤ eN E) (hT : St E) {σ : SM} (cx : Cx E p s m meth c args RX13 cX13_rank 4 (some .int)) {x1 : Int32} {x2 : Int32} {ρ : OM} {rv : Int32} : ∀ (n : Nat) {x3 : Int32}, f_X13_rank_2 x1 x2 ρ n x3 = some rv → ∀ {u : SM} {H : Heap} {locs : List Loc} {ls : Array Slot}, u 20 = ρ → (∀ q, u q = σ q) → Hp E u s H locs → lv_has ls 4 [(0, .ref (adr E 20 0)), (1, .int x1), (2, .int x2), (3, .int x3)] → W p l e rm_X13_rank s m args below meth c H locs 0 0 (MQ below (va_Qi (fun r u => rv = r ∧ σ = u) (fun u t => Wu E u t) (eA E)) args s 0 0 (eA E)) (F0 m 2 ls []) := by
  have hx := cx.1.1
  have hb := cx.1.2.1
  intro n
  induction n with
  | zero =>
    intro x3 hf
    exact absurd hf (by simp [f_X13_rank_2])
  | succ n ih =>
    intro x3 hf u H locs ls e20 fr hp hl
    rw [f_X13_rank_2] at hf
    refine lv_iload_n hx hb dX13_rank_2 rfl (lv_at hl 3 rfl) ?_
    refine lv_aload_n hx hb dX13_rank_3 rfl (lv_at hl 0 rfl) ?_
    refine gF_X13_28 rfl hN cx hp dX13_rank_4 ?_
    refine lv_iload_n hx hb dX13_rank_7 rfl (lv_at hl 1 rfl) ?_
    obtain ⟨g_i, hf⟩ := fg hf
    refine lA_X13_6 e20 hN cx hp g_i dX13_rank_8 ?_
    refine lv_icmp_ge (tgt := 32) hx hb dX13_rank_9 (by decide) (fun c1 => ?_) (fun c1 => ?_)
    · have hf := fp hf c1
      refine lv_iconst (v := (-1)) hx hb dX13_rank_32 (by decide) ?_
      cases hf
      exact r_i cx hp ⟨rfl, (funext fr).symm⟩ dX13_rank_33
    · have hf := fn hf c1
      refine lv_aload_n hx hb dX13_rank_12 rfl (lv_at hl 0 rfl) ?_
      refine gF_X13_45 rfl hN cx hp dX13_rank_13 ?_
      refine lv_iload_n hx hb dX13_rank_16 rfl (lv_at hl 1 rfl) ?_
      obtain ⟨g_r2, hf⟩ := fg hf
      refine lA_X13_11 hN cx hp g_r2 dX13_rank_17 ?_
      refine lv_iload_n hx hb dX13_rank_18 rfl (lv_at hl 3 rfl) ?_
      obtain ⟨g_i, hf⟩ := fg hf
      refine lA_X13_r (inb_lt g_r2) e20 hN cx hp g_i dX13_rank_19 ?_
      refine lv_iload_n hx hb dX13_rank_20 rfl (lv_at hl 2 rfl) ?_
      refine lv_icmp_ne (tgt := 26) hx hb dX13_rank_21 (by decide) (fun c3 => ?_) (fun c3 => ?_)
      · have hf := fn hf c3
        refine lv_iinc (v := (x3 + 1)) (lv' := [(3, .int (x3 + 1)), (0, .ref (adr E 20 0)), (1, .int x1), (2, .int x2)]) hx hb dX13_rank_26 hl (k := 3) rfl rfl (by decide) rfl (fun ls hl => ?_)
        refine lv_goto (tgt := 2) hx hb dX13_rank_29 (by decide) ?_
        exact ih  hf e20 fr hp (lv_sub hl [1, 2, 3, 0] rfl)
      · have hf := fp hf c3
        refine lv_iload_n hx hb dX13_rank_24 rfl (lv_at hl 3 rfl) ?_
        cases hf
        exact r_i cx hp ⟨rfl, (funext fr).symm⟩ dX13_rank_25
set_option maxRecDepth 100000 in
set_option maxHeartbeats 4000000 in
theorem c_X13_rank (l : Launch) {E : Ev} (hN : 151 ≤ eN E) (hT : St E) {σ : SM} {ρ : OM} (e20 : σ 20 = ρ) {p1 : Int32} {p2 : Int32} {rv : Int32} (hf : f_X13_rank p1 p2 ρ = some rv) : Met l yX13_rank (wC yX13_rank cX13_rank 4 (some .int)) rm_X13_rank (va_Pc [.ref (adr E 20 0), .int p1, .int p2] (Wu E σ)) (va_Qi (fun r u => rv = r ∧ σ = u) (fun u t => Wu E u t) (eA E)) 0 0 (eA E) := by
  refine g_entry (lv := [(0, .ref (adr E 20 0)), (1, .int p1), (2, .int p2)]) (by decide) (Nat.le_of_ble_eq_true rfl) rfl ?_
  intro p e s m below meth c cx hp ls hl
  have hx := cx.1.1
  have hb := cx.1.2.1
  have fr : ∀ q, σ q = σ q := fun _ => rfl
  unfold f_X13_rank at hf
  refine lv_iconst (v := 0) hx hb dX13_rank_0 (by decide) ?_
  refine lv_istore_n (lv' := [(3, .int 0), (0, .ref (adr E 20 0)), (1, .int p1), (2, .int p2)]) hx hb dX13_rank_1 rfl hl (by decide) rfl (fun ls hl => ?_)
  exact L_X13_rank_2 l hN hT cx  _ hf e20 fr hp (lv_sub hl [1, 2, 3, 0] rfl)
abbrev rm_X13_tenant : Room := { frames := 0, cells := 0, slots := 0, locals := 0 }
set_option maxRecDepth 100000 in
set_option maxHeartbeats 4000000 in
theorem L_X13_tenant_2 {p : Program} {e : Env} {s : State} {m : MethodId} {args : Array Value} {below : List Frame} {meth : Method} {c : Code} (l : Launch) {E : Ev} (hN : 151 ≤ eN E) (hT : St E) {σ : SM} (cx : Cx E p s m meth c args RX13 cX13_tenant 3 (some .int)) {x1 : Int32} {ρ : OM} {rv : Int32} : ∀ (n : Nat) {x2 : Int32}, f_X13_tenant_2 x1 ρ n x2 = some rv → ∀ {u : SM} {H : Heap} {locs : List Loc} {ls : Array Slot}, u 20 = ρ → (∀ q, u q = σ q) → Hp E u s H locs → lv_has ls 3 [(0, .ref (adr E 20 0)), (1, .int x1), (2, .int x2)] → W p l e rm_X13_tenant s m args below meth c H locs 0 0 (MQ below (va_Qi (fun r u => rv = r ∧ σ = u) (fun u t => Wu E u t) (eA E)) args s 0 0 (eA E)) (F0 m 2 ls []) := by
  have hx := cx.1.1
  have hb := cx.1.2.1
  intro n
  induction n with
  | zero =>
    intro x2 hf
    exact absurd hf (by simp [f_X13_tenant_2])
  | succ n ih =>
    intro x2 hf u H locs ls e20 fr hp hl
    rw [f_X13_tenant_2] at hf
    refine lv_iload_n hx hb dX13_tenant_2 rfl (lv_at hl 2 rfl) ?_
    refine lv_aload_n hx hb dX13_tenant_3 rfl (lv_at hl 0 rfl) ?_
    refine gF_X13_98 e20 hN cx hp dX13_tenant_4 ?_
    refine lv_icmp_ge (tgt := 28) hx hb dX13_tenant_7 (by decide) (fun c1 => ?_) (fun c1 => ?_)
    · have hf := fp hf c1
      refine lv_iconst (v := (-1)) hx hb dX13_tenant_28 (by decide) ?_
      cases hf
      exact r_i cx hp ⟨rfl, (funext fr).symm⟩ dX13_tenant_29
    · have hf := fn hf c1
      refine lv_aload_n hx hb dX13_tenant_10 rfl (lv_at hl 0 rfl) ?_
      refine gF_X13_25 rfl hN cx hp dX13_tenant_11 ?_
      refine lv_iload_n hx hb dX13_tenant_14 rfl (lv_at hl 2 rfl) ?_
      obtain ⟨g_i, hf⟩ := fg hf
      refine lA_X13_5 e20 hN cx hp g_i dX13_tenant_15 ?_
      refine lv_iload_n hx hb dX13_tenant_16 rfl (lv_at hl 1 rfl) ?_
      refine lv_icmp_ne (tgt := 22) hx hb dX13_tenant_17 (by decide) (fun c2 => ?_) (fun c2 => ?_)
      · have hf := fn hf c2
        refine lv_iinc (v := (x2 + 1)) (lv' := [(2, .int (x2 + 1)), (0, .ref (adr E 20 0)), (1, .int x1)]) hx hb dX13_tenant_22 hl (k := 2) rfl rfl (by decide) rfl (fun ls hl => ?_)
        refine lv_goto (tgt := 2) hx hb dX13_tenant_25 (by decide) ?_
        exact ih  hf e20 fr hp (lv_sub hl [1, 2, 0] rfl)
      · have hf := fp hf c2
        refine lv_iload_n hx hb dX13_tenant_20 rfl (lv_at hl 2 rfl) ?_
        cases hf
        exact r_i cx hp ⟨rfl, (funext fr).symm⟩ dX13_tenant_21
set_option maxRecDepth 100000 in
set_option maxHeartbeats 4000000 in
theorem c_X13_tenant (l : Launch) {E : Ev} (hN : 151 ≤ eN E) (hT : St E) {σ : SM} {ρ : OM} (e20 : σ 20 = ρ) {p1 : Int32} {rv : Int32} (hf : f_X13_tenant p1 ρ = some rv) : Met l yX13_tenant (wC yX13_tenant cX13_tenant 3 (some .int)) rm_X13_tenant (va_Pc [.ref (adr E 20 0), .int p1] (Wu E σ)) (va_Qi (fun r u => rv = r ∧ σ = u) (fun u t => Wu E u t) (eA E)) 0 0 (eA E) := by
  refine g_entry (lv := [(0, .ref (adr E 20 0)), (1, .int p1)]) (by decide) (Nat.le_of_ble_eq_true rfl) rfl ?_
  intro p e s m below meth c cx hp ls hl
  have hx := cx.1.1
  have hb := cx.1.2.1
  have fr : ∀ q, σ q = σ q := fun _ => rfl
  unfold f_X13_tenant at hf
  refine lv_iconst (v := 0) hx hb dX13_tenant_0 (by decide) ?_
  refine lv_istore_n (lv' := [(2, .int 0), (0, .ref (adr E 20 0)), (1, .int p1)]) hx hb dX13_tenant_1 rfl hl (by decide) rfl (fun ls hl => ?_)
  exact L_X13_tenant_2 l hN hT cx  _ hf e20 fr hp (lv_sub hl [1, 2, 0] rfl)
abbrev rm_X13_begin : Room := { frames := 11, cells := 0, slots := 0, locals := 243 }
set_option maxRecDepth 100000 in
set_option maxHeartbeats 4000000 in
theorem L_X13_begin_36 {p : Program} {e : Env} {s : State} {m : MethodId} {args : Array Value} {below : List Frame} {meth : Method} {c : Code} (l : Launch) {E : Ev} (hN : 151 ≤ eN E) (hT : St E) {Q : State → Prop} (cx : Cx E p s m meth c args RX13 cX13_begin 6 (some .boolean)) {σ' : SM} (K : ∀ (H : Heap) (locs : List Loc) (ls : Array Slot), Hp E σ' s H locs → lv_has ls 6 [(0, .ref (adr E 20 0)), (1, .ref (adr E 19 0))] → W p l e rm_X13_begin s m args below meth c H locs 0 0 Q (F0 m 55 ls [])) : ∀ (n : Nat) {x3 : Int32} {σ : SM}, f_X13_begin_36  n x3 σ = some σ' → ∀ {H : Heap} {locs : List Loc} {ls : Array Slot}, Hp E σ s H locs → lv_has ls 6 [(0, .ref (adr E 20 0)), (1, .ref (adr E 19 0)), (3, .int x3)] → W p l e rm_X13_begin s m args below meth c H locs 0 0 Q (F0 m 36 ls []) := by
  have hx := cx.1.1
  have hb := cx.1.2.1
  intro n
  induction n with
  | zero =>
    intro x3 σ hf
    exact absurd hf (by simp [f_X13_begin_36])
  | succ n ih =>
    intro x3 σ hf H locs ls hp hl
    rw [f_X13_begin_36] at hf
    refine lv_iload_n hx hb dX13_begin_36 rfl (lv_at hl 2 rfl) ?_
    refine lv_bipush (v := 8) hx hb dX13_begin_37 (by decide) ?_
    refine lv_icmp_ge (tgt := 55) hx hb dX13_begin_39 (by decide) (fun c11 => ?_) (fun c11 => ?_)
    · have hf := fp hf c11
      cases hf
      exact K _ _ _  hp (lv_sub hl [0, 1] rfl)
    · have hf := fn hf c11
      refine lv_aload_n hx hb dX13_begin_42 rfl (lv_at hl 0 rfl) ?_
      refine gF_X13_25 rfl hN cx hp dX13_begin_43 ?_
      refine lv_iload_n hx hb dX13_begin_46 rfl (lv_at hl 2 rfl) ?_
      refine lv_iconst (v := (-1)) hx hb dX13_begin_47 (by decide) ?_
      obtain ⟨g_i, hf⟩ := fg hf
      obtain ⟨σ12, e_l, hf⟩ := fl hf
      refine sA_X13_5 rfl hN cx hp g_i dX13_begin_48 (fun u H locs e_u n_u hp => ?_)
      obtain rfl := ((us_x e_u n_u).trans e_l).symm
      refine lv_iinc (v := (x3 + 1)) (lv' := [(3, .int (x3 + 1)), (0, .ref (adr E 20 0)), (1, .ref (adr E 19 0))]) hx hb dX13_begin_49 hl (k := 2) rfl rfl (by decide) rfl (fun ls hl => ?_)
      refine lv_goto (tgt := 36) hx hb dX13_begin_52 (by decide) ?_
      exact ih  hf hp (lv_sub hl [1, 2, 0] rfl)
set_option maxRecDepth 100000 in
set_option maxHeartbeats 4000000 in
theorem L_X13_begin_63 {p : Program} {e : Env} {s : State} {m : MethodId} {args : Array Value} {below : List Frame} {meth : Method} {c : Code} (l : Launch) {E : Ev} (hN : 151 ≤ eN E) (hT : St E) {Q : State → Prop} (cx : Cx E p s m meth c args RX13 cX13_begin 6 (some .boolean)) {σ' : SM} (K : ∀ (H : Heap) (locs : List Loc) (ls : Array Slot), Hp E σ' s H locs → lv_has ls 6 [(0, .ref (adr E 20 0)), (1, .ref (adr E 19 0))] → W p l e rm_X13_begin s m args below meth c H locs 0 0 Q (F0 m 131 ls [])) : ∀ (n : Nat) {x3 : Int32} {σ : SM}, f_X13_begin_63  n x3 σ = some σ' → ∀ {H : Heap} {locs : List Loc} {ls : Array Slot}, Hp E σ s H locs → lv_has ls 6 [(0, .ref (adr E 20 0)), (1, .ref (adr E 19 0)), (3, .int x3)] → W p l e rm_X13_begin s m args below meth c H locs 0 0 Q (F0 m 63 ls []) := by
  have hx := cx.1.1
  have hb := cx.1.2.1
  intro n
  induction n with
  | zero =>
    intro x3 σ hf
    exact absurd hf (by simp [f_X13_begin_63])
  | succ n ih =>
    intro x3 σ hf H locs ls hp hl
    rw [f_X13_begin_63] at hf
    refine lv_iload_n hx hb dX13_begin_63 rfl (lv_at hl 2 rfl) ?_
    refine lv_aload_n hx hb dX13_begin_64 rfl (lv_at hl 0 rfl) ?_
    refine gF_X13_95 rfl hN cx hp dX13_begin_65 ?_
    refine lv_icmp_ge (tgt := 131) hx hb dX13_begin_68 (by decide) (fun c16 => ?_) (fun c16 => ?_)
    · have hf := fp hf c16
      cases hf
      exact K _ _ _  hp (lv_sub hl [0, 1] rfl)
    · have hf := fn hf c16
      refine lv_aload_n hx hb dX13_begin_71 rfl (lv_at hl 0 rfl) ?_
      refine gF_X13_15 rfl hN cx hp dX13_begin_72 ?_
      refine lv_iload_n hx hb dX13_begin_75 rfl (lv_at hl 2 rfl) ?_
      refine lv_aload_n hx hb dX13_begin_76 rfl (lv_at hl 0 rfl) ?_
      refine lv_aload_n hx hb dX13_begin_77 rfl (lv_at hl 0 rfl) ?_
      refine lv_iconst (v := 2) hx hb dX13_begin_78 (by decide) ?_
      obtain ⟨r17, m18, hc, hf⟩ := fb2 hf
      refine x_i hp (y_V (As := [.int 2]) (rest := [.ref (adr E 20 0), .int x3, .ref (adr E 20 2)]) cx hp hl (c_X13_draw l hN hT rfl hc) (cw_X13_92 cx (mc := 0) (ms := 0) rfl rfl ⟨by decide, by decide⟩) (rC_X13 hN cx hp) rfl rfl (Nat.le_of_ble_eq_true rfl) dX13_begin_79 ⟨Nat.zero_le _, Nat.zero_le _⟩) (fun r_c u_c H locs hq hp => ?_)
      obtain ⟨rfl, e_0, n_u⟩ := hq
      obtain ⟨σ19, e_l, hf⟩ := fl hf
      obtain rfl := ((us_x e_0 n_u).trans e_l).symm
      refine lv_if_ne (tgt := 90) hx hb dX13_begin_82 (by decide) (fun c20 => ?_) (fun c20 => ?_)
      · have hf := fn hf c20
        refine lv_bipush (v := 20) hx hb dX13_begin_90 (by decide) ?_
        obtain ⟨r21, m22, hc, hf⟩ := fb2 hf
        refine x_i hp (y_V (As := [.int 20]) (rest := [.int x3, .ref (adr E 20 2)]) cx hp hl (c_X13_draw l hN hT rfl hc) (cw_X13_92 cx (mc := 0) (ms := 0) rfl rfl ⟨by decide, by decide⟩) (rC_X13 hN cx hp) rfl rfl (Nat.le_of_ble_eq_true rfl) dX13_begin_92 ⟨Nat.zero_le _, Nat.zero_le _⟩) (fun r_c u_c H locs hq hp => ?_)
        obtain ⟨rfl, e_0, n_u⟩ := hq
        obtain ⟨σ23, e_l, hf⟩ := fl hf
        obtain rfl := ((us_x e_0 n_u).trans e_l).symm
        obtain ⟨g_i, hf⟩ := fg hf
        obtain ⟨σ24, e_l, hf⟩ := fl hf
        refine sA_X13_2 rfl hN cx hp g_i dX13_begin_95 (fun u H locs e_u n_u hp => ?_)
        obtain rfl := ((us_x e_u n_u).trans e_l).symm
        refine lv_aload_n hx hb dX13_begin_96 rfl (lv_at hl 0 rfl) ?_
        refine va_ldcS hx hb cx.1.2.2.2.1 (cx.2.2.1.2.2.2 7 _ rfl) dX13_begin_97 ?_
        obtain ⟨m25, hc, hf⟩ := fb hf
        refine x_v hp (y_V (As := [.ref (eK E 7)]) (rest := []) cx hp hl (c_X13_put l hN hT rfl hc) (cw_X13_75 cx (mc := 0) (ms := 0) rfl rfl ⟨by decide, by decide⟩) (rC_X13 hN cx hp) rfl rfl (Nat.le_of_ble_eq_true rfl) dX13_begin_99 ⟨Nat.zero_le _, Nat.zero_le _⟩) (fun u_c H locs hq hp => ?_)
        obtain ⟨e_0, n_u⟩ := hq
        obtain ⟨σ26, e_l, hf⟩ := fl hf
        obtain rfl := ((us_x e_0 n_u).trans e_l).symm
        refine lv_aload_n hx hb dX13_begin_102 rfl (lv_at hl 0 rfl) ?_
        refine lv_bipush (v := 112) hx hb dX13_begin_103 (by decide) ?_
        refine lv_iload_n hx hb dX13_begin_105 rfl (lv_at hl 2 rfl) ?_
        obtain ⟨m27, hc, hf⟩ := fb hf
        refine x_v hp (y_V (As := [.int 112, .int x3]) (rest := []) cx hp hl (c_X13_letter l hN hT rfl hc) (cw_X13_105 cx (mc := 0) (ms := 0) rfl rfl ⟨by decide, by decide⟩) (rC_X13 hN cx hp) rfl rfl (Nat.le_of_ble_eq_true rfl) dX13_begin_106 ⟨Nat.zero_le _, Nat.zero_le _⟩) (fun u_c H locs hq hp => ?_)
        obtain ⟨e_0, n_u⟩ := hq
        obtain ⟨σ28, e_l, hf⟩ := fl hf
        obtain rfl := ((us_x e_0 n_u).trans e_l).symm
        refine lv_aload_n hx hb dX13_begin_109 rfl (lv_at hl 0 rfl) ?_
        refine lv_aload_n hx hb dX13_begin_110 rfl (lv_at hl 0 rfl) ?_
        refine gF_X13_15 rfl hN cx hp dX13_begin_111 ?_
        refine lv_iload_n hx hb dX13_begin_114 rfl (lv_at hl 2 rfl) ?_
        obtain ⟨g_i, hf⟩ := fg hf
        refine lA_X13_2 rfl hN cx hp g_i dX13_begin_115 ?_
        obtain ⟨m29, hc, hf⟩ := fb hf
        refine x_v hp (y_V (As := [.int ((σ28 20).1 2 (Int32.toNatClampNeg x3))]) (rest := []) cx hp hl (c_X13_put_ l hN hT rfl hc) (cw_X13_109 cx (mc := 0) (ms := 0) rfl rfl ⟨by decide, by decide⟩) (rC_X13 hN cx hp) rfl rfl (Nat.le_of_ble_eq_true rfl) dX13_begin_116 ⟨Nat.zero_le _, Nat.zero_le _⟩) (fun u_c H locs hq hp => ?_)
        obtain ⟨e_0, n_u⟩ := hq
        obtain ⟨σ30, e_l, hf⟩ := fl hf
        obtain rfl := ((us_x e_0 n_u).trans e_l).symm
        refine lv_aload_n hx hb dX13_begin_119 rfl (lv_at hl 0 rfl) ?_
        refine va_ldcS hx hb cx.1.2.2.2.1 (cx.2.2.1.2.2.2 9 _ rfl) dX13_begin_120 ?_
        obtain ⟨m31, hc, hf⟩ := fb hf
        refine x_v hp (y_V (As := [.ref (eK E 9)]) (rest := []) cx hp hl (c_X13_put l hN hT rfl hc) (cw_X13_75 cx (mc := 0) (ms := 0) rfl rfl ⟨by decide, by decide⟩) (rC_X13 hN cx hp) rfl rfl (Nat.le_of_ble_eq_true rfl) dX13_begin_122 ⟨Nat.zero_le _, Nat.zero_le _⟩) (fun u_c H locs hq hp => ?_)
        obtain ⟨e_0, n_u⟩ := hq
        obtain ⟨σ32, e_l, hf⟩ := fl hf
        obtain rfl := ((us_x e_0 n_u).trans e_l).symm
        refine lv_iinc (v := (x3 + 1)) (lv' := [(3, .int (x3 + 1)), (0, .ref (adr E 20 0)), (1, .ref (adr E 19 0))]) hx hb dX13_begin_125 hl (k := 2) rfl rfl (by decide) rfl (fun ls hl => ?_)
        refine lv_goto (tgt := 63) hx hb dX13_begin_128 (by decide) ?_
        exact ih  hf hp (lv_sub hl [1, 2, 0] rfl)
      · have hf := fp hf c20
        refine lv_bipush (v := 100) hx hb dX13_begin_85 (by decide) ?_
        refine lv_goto (tgt := 92) hx hb dX13_begin_87 (by decide) ?_
        obtain ⟨r33, m34, hc, hf⟩ := fb2 hf
        refine x_i hp (y_V (As := [.int 100]) (rest := [.int x3, .ref (adr E 20 2)]) cx hp hl (c_X13_draw l hN hT rfl hc) (cw_X13_92 cx (mc := 0) (ms := 0) rfl rfl ⟨by decide, by decide⟩) (rC_X13 hN cx hp) rfl rfl (Nat.le_of_ble_eq_true rfl) dX13_begin_92 ⟨Nat.zero_le _, Nat.zero_le _⟩) (fun r_c u_c H locs hq hp => ?_)
        obtain ⟨rfl, e_0, n_u⟩ := hq
        obtain ⟨σ35, e_l, hf⟩ := fl hf
        obtain rfl := ((us_x e_0 n_u).trans e_l).symm
        obtain ⟨g_i, hf⟩ := fg hf
        obtain ⟨σ36, e_l, hf⟩ := fl hf
        refine sA_X13_2 rfl hN cx hp g_i dX13_begin_95 (fun u H locs e_u n_u hp => ?_)
        obtain rfl := ((us_x e_u n_u).trans e_l).symm
        refine lv_aload_n hx hb dX13_begin_96 rfl (lv_at hl 0 rfl) ?_
        refine va_ldcS hx hb cx.1.2.2.2.1 (cx.2.2.1.2.2.2 7 _ rfl) dX13_begin_97 ?_
        obtain ⟨m37, hc, hf⟩ := fb hf
        refine x_v hp (y_V (As := [.ref (eK E 7)]) (rest := []) cx hp hl (c_X13_put l hN hT rfl hc) (cw_X13_75 cx (mc := 0) (ms := 0) rfl rfl ⟨by decide, by decide⟩) (rC_X13 hN cx hp) rfl rfl (Nat.le_of_ble_eq_true rfl) dX13_begin_99 ⟨Nat.zero_le _, Nat.zero_le _⟩) (fun u_c H locs hq hp => ?_)
        obtain ⟨e_0, n_u⟩ := hq
        obtain ⟨σ38, e_l, hf⟩ := fl hf
        obtain rfl := ((us_x e_0 n_u).trans e_l).symm
        refine lv_aload_n hx hb dX13_begin_102 rfl (lv_at hl 0 rfl) ?_
        refine lv_bipush (v := 112) hx hb dX13_begin_103 (by decide) ?_
        refine lv_iload_n hx hb dX13_begin_105 rfl (lv_at hl 2 rfl) ?_
        obtain ⟨m39, hc, hf⟩ := fb hf
        refine x_v hp (y_V (As := [.int 112, .int x3]) (rest := []) cx hp hl (c_X13_letter l hN hT rfl hc) (cw_X13_105 cx (mc := 0) (ms := 0) rfl rfl ⟨by decide, by decide⟩) (rC_X13 hN cx hp) rfl rfl (Nat.le_of_ble_eq_true rfl) dX13_begin_106 ⟨Nat.zero_le _, Nat.zero_le _⟩) (fun u_c H locs hq hp => ?_)
        obtain ⟨e_0, n_u⟩ := hq
        obtain ⟨σ40, e_l, hf⟩ := fl hf
        obtain rfl := ((us_x e_0 n_u).trans e_l).symm
        refine lv_aload_n hx hb dX13_begin_109 rfl (lv_at hl 0 rfl) ?_
        refine lv_aload_n hx hb dX13_begin_110 rfl (lv_at hl 0 rfl) ?_
        refine gF_X13_15 rfl hN cx hp dX13_begin_111 ?_
        refine lv_iload_n hx hb dX13_begin_114 rfl (lv_at hl 2 rfl) ?_
        obtain ⟨g_i, hf⟩ := fg hf
        refine lA_X13_2 rfl hN cx hp g_i dX13_begin_115 ?_
        obtain ⟨m41, hc, hf⟩ := fb hf
        refine x_v hp (y_V (As := [.int ((σ40 20).1 2 (Int32.toNatClampNeg x3))]) (rest := []) cx hp hl (c_X13_put_ l hN hT rfl hc) (cw_X13_109 cx (mc := 0) (ms := 0) rfl rfl ⟨by decide, by decide⟩) (rC_X13 hN cx hp) rfl rfl (Nat.le_of_ble_eq_true rfl) dX13_begin_116 ⟨Nat.zero_le _, Nat.zero_le _⟩) (fun u_c H locs hq hp => ?_)
        obtain ⟨e_0, n_u⟩ := hq
        obtain ⟨σ42, e_l, hf⟩ := fl hf
        obtain rfl := ((us_x e_0 n_u).trans e_l).symm
        refine lv_aload_n hx hb dX13_begin_119 rfl (lv_at hl 0 rfl) ?_
        refine va_ldcS hx hb cx.1.2.2.2.1 (cx.2.2.1.2.2.2 9 _ rfl) dX13_begin_120 ?_
        obtain ⟨m43, hc, hf⟩ := fb hf
        refine x_v hp (y_V (As := [.ref (eK E 9)]) (rest := []) cx hp hl (c_X13_put l hN hT rfl hc) (cw_X13_75 cx (mc := 0) (ms := 0) rfl rfl ⟨by decide, by decide⟩) (rC_X13 hN cx hp) rfl rfl (Nat.le_of_ble_eq_true rfl) dX13_begin_122 ⟨Nat.zero_le _, Nat.zero_le _⟩) (fun u_c H locs hq hp => ?_)
        obtain ⟨e_0, n_u⟩ := hq
        obtain ⟨σ44, e_l, hf⟩ := fl hf
        obtain rfl := ((us_x e_0 n_u).trans e_l).symm
        refine lv_iinc (v := (x3 + 1)) (lv' := [(3, .int (x3 + 1)), (0, .ref (adr E 20 0)), (1, .ref (adr E 19 0))]) hx hb dX13_begin_125 hl (k := 2) rfl rfl (by decide) rfl (fun ls hl => ?_)
        refine lv_goto (tgt := 63) hx hb dX13_begin_128 (by decide) ?_
        exact ih  hf hp (lv_sub hl [1, 2, 0] rfl)
set_option maxRecDepth 100000 in
set_option maxHeartbeats 4000000 in
theorem L_X13_begin_232 {p : Program} {e : Env} {s : State} {m : MethodId} {args : Array Value} {below : List Frame} {meth : Method} {c : Code} (l : Launch) {E : Ev} (hN : 151 ≤ eN E) (hT : St E) {Q : State → Prop} (cx : Cx E p s m meth c args RX13 cX13_begin 6 (some .boolean)) {x3 : Int32} {σ' : SM} (K : ∀ (H : Heap) (locs : List Loc) (ls : Array Slot), Hp E σ' s H locs → lv_has ls 6 [(0, .ref (adr E 20 0)), (1, .ref (adr E 19 0)), (3, .int x3)] → W p l e rm_X13_begin s m args below meth c H locs 0 0 Q (F0 m 295 ls [])) : ∀ (n : Nat) {x4 : Int32} {σ : SM}, f_X13_begin_232 x3 n x4 σ = some σ' → ∀ {H : Heap} {locs : List Loc} {ls : Array Slot}, Hp E σ s H locs → lv_has ls 6 [(0, .ref (adr E 20 0)), (1, .ref (adr E 19 0)), (3, .int x3), (4, .int x4)] → W p l e rm_X13_begin s m args below meth c H locs 0 0 Q (F0 m 232 ls []) := by
  have hx := cx.1.1
  have hb := cx.1.2.1
  intro n
  induction n with
  | zero =>
    intro x4 σ hf
    exact absurd hf (by simp [f_X13_begin_232])
  | succ n ih =>
    intro x4 σ hf H locs ls hp hl
    rw [f_X13_begin_232] at hf
    refine lv_iload hx hb dX13_begin_232 (lv_at hl 3 rfl) ?_
    refine lv_if_le (tgt := 295) hx hb dX13_begin_234 (by decide) (fun c69 => ?_) (fun c69 => ?_)
    · have hf := fp hf c69
      cases hf
      exact K _ _ _  hp (lv_sub hl [0, 1, 2] rfl)
    · have hf := fn hf c69
      refine lv_aload_n hx hb dX13_begin_237 rfl (lv_at hl 0 rfl) ?_
      refine lv_aload_n hx hb dX13_begin_238 rfl (lv_at hl 0 rfl) ?_
      refine gF_X13_95 rfl hN cx hp dX13_begin_239 ?_
      obtain ⟨r70, m71, hc, hf⟩ := fb2 hf
      refine x_i hp (y_V (As := [.int ((σ 20).1 0 14)]) (rest := []) cx hp hl (c_X13_draw l hN hT rfl hc) (cw_X13_92 cx (mc := 0) (ms := 0) rfl rfl ⟨by decide, by decide⟩) (rC_X13 hN cx hp) rfl rfl (Nat.le_of_ble_eq_true rfl) dX13_begin_242 ⟨Nat.zero_le _, Nat.zero_le _⟩) (fun r_c u_c H locs hq hp => ?_)
      obtain ⟨rfl, e_0, n_u⟩ := hq
      obtain ⟨σ72, e_l, hf⟩ := fl hf
      obtain rfl := ((us_x e_0 n_u).trans e_l).symm
      refine lv_istore (lv' := [(5, .int r70), (0, .ref (adr E 20 0)), (1, .ref (adr E 19 0)), (3, .int x3), (4, .int x4)]) hx hb dX13_begin_245 hl (by decide) rfl (fun ls hl => ?_)
      refine lv_aload_n hx hb dX13_begin_247 rfl (lv_at hl 1 rfl) ?_
      refine lv_iload_n hx hb dX13_begin_248 rfl (lv_at hl 3 rfl) ?_
      refine lv_iload hx hb dX13_begin_249 (lv_at hl 0 rfl) ?_
      obtain ⟨r73, hc, hf⟩ := fb hf
      refine x_i hp (y_V (As := [.int x3, .int r70]) (rest := []) cx hp hl (c_X13_rank l hN hT rfl hc) (cw_X13_115 cx (mc := 0) (ms := 0) rfl rfl ⟨by decide, by decide⟩) (rC_X13 hN cx hp) rfl rfl (Nat.le_of_ble_eq_true rfl) dX13_begin_251 ⟨Nat.zero_le _, Nat.zero_le _⟩) (fun r_c u_c H locs hq hp => ?_)
      obtain ⟨rfl, rfl⟩ := hq
      refine lv_iconst (v := (-1)) hx hb dX13_begin_254 (by decide) ?_
      refine lv_icmp_eq (tgt := 261) hx hb dX13_begin_255 (by decide) (fun c74 => ?_) (fun c74 => ?_)
      · have hf := fp hf c74
        refine lv_aload_n hx hb dX13_begin_261 rfl (lv_at hl 1 rfl) ?_
        refine gF_X13_45 rfl hN cx hp dX13_begin_262 ?_
        refine lv_iload_n hx hb dX13_begin_265 rfl (lv_at hl 3 rfl) ?_
        obtain ⟨g_r75, hf⟩ := fg hf
        refine lA_X13_11 hN cx hp g_r75 dX13_begin_266 ?_
        refine lv_aload_n hx hb dX13_begin_267 rfl (lv_at hl 1 rfl) ?_
        refine gF_X13_28 rfl hN cx hp dX13_begin_268 ?_
        refine lv_iload_n hx hb dX13_begin_271 rfl (lv_at hl 3 rfl) ?_
        refine lv_dup2_11 hx hb dX13_begin_272 rfl rfl ?_
        obtain ⟨g_i, hf⟩ := fg hf
        refine lA_X13_6 rfl hN cx hp g_i dX13_begin_273 ?_
        refine lv_dup_x2 hx hb dX13_begin_274 rfl rfl rfl ?_
        refine lv_iconst (v := 1) hx hb dX13_begin_275 (by decide) ?_
        refine lv_iadd hx hb dX13_begin_276 ?_
        obtain ⟨g_i, hf⟩ := fg hf
        obtain ⟨σ76, e_l, hf⟩ := fl hf
        refine sA_X13_6 rfl hN cx hp g_i dX13_begin_277 (fun u H locs e_u n_u hp => ?_)
        obtain rfl := ((us_x e_u n_u).trans e_l).symm
        refine lv_iload hx hb dX13_begin_278 (lv_at hl 0 rfl) ?_
        obtain ⟨g_i, hf⟩ := fg hf
        obtain ⟨σ77, e_l, hf⟩ := fl hf
        refine sA_X13_r (inb_lt g_r75) rfl hN cx hp g_i dX13_begin_280 (fun u H locs e_u n_u hp => ?_)
        obtain rfl := ((us_x e_u n_u).trans e_l).symm
        refine lv_aload_n hx hb dX13_begin_281 rfl (lv_at hl 1 rfl) ?_
        refine lv_bipush (v := 112) hx hb dX13_begin_282 (by decide) ?_
        refine lv_iload hx hb dX13_begin_284 (lv_at hl 0 rfl) ?_
        obtain ⟨m78, hc, hf⟩ := fb hf
        refine x_v hp (y_V (As := [.int 112, .int r70]) (rest := []) cx hp hl (c_X13_letter l hN hT rfl hc) (cw_X13_105 cx (mc := 0) (ms := 0) rfl rfl ⟨by decide, by decide⟩) (rC_X13 hN cx hp) rfl rfl (Nat.le_of_ble_eq_true rfl) dX13_begin_286 ⟨Nat.zero_le _, Nat.zero_le _⟩) (fun u_c H locs hq hp => ?_)
        obtain ⟨e_0, n_u⟩ := hq
        obtain ⟨σ79, e_l, hf⟩ := fl hf
        obtain rfl := ((us_x e_0 n_u).trans e_l).symm
        refine lv_iinc (v := (x4 + (-1))) (lv' := [(4, .int (x4 + (-1))), (5, .int r70), (0, .ref (adr E 20 0)), (1, .ref (adr E 19 0)), (3, .int x3)]) hx hb dX13_begin_289 hl (k := 4) rfl rfl (by decide) rfl (fun ls hl => ?_)
        refine lv_goto (tgt := 232) hx hb dX13_begin_292 (by decide) ?_
        exact ih  hf hp (lv_sub hl [2, 3, 4, 0] rfl)
      · have hf := fn hf c74
        refine lv_goto (tgt := 289) hx hb dX13_begin_258 (by decide) ?_
        refine lv_iinc (v := (x4 + (-1))) (lv' := [(4, .int (x4 + (-1))), (5, .int r70), (0, .ref (adr E 20 0)), (1, .ref (adr E 19 0)), (3, .int x3)]) hx hb dX13_begin_289 hl (k := 4) rfl rfl (by decide) rfl (fun ls hl => ?_)
        refine lv_goto (tgt := 232) hx hb dX13_begin_292 (by decide) ?_
        exact ih  hf hp (lv_sub hl [2, 3, 4, 0] rfl)
set_option maxRecDepth 100000 in
set_option maxHeartbeats 4000000 in
theorem L_X13_begin_133 {p : Program} {e : Env} {s : State} {m : MethodId} {args : Array Value} {below : List Frame} {meth : Method} {c : Code} (l : Launch) {E : Ev} (hN : 151 ≤ eN E) (hT : St E) {Q : State → Prop} (cx : Cx E p s m meth c args RX13 cX13_begin 6 (some .boolean)) {σ' : SM} (K : ∀ (H : Heap) (locs : List Loc) (ls : Array Slot), Hp E σ' s H locs → lv_has ls 6 [(0, .ref (adr E 20 0)), (1, .ref (adr E 19 0))] → W p l e rm_X13_begin s m args below meth c H locs 0 0 Q (F0 m 357 ls [])) : ∀ (n : Nat) {x3 : Int32} {σ : SM}, f_X13_begin_133  n x3 σ = some σ' → ∀ {H : Heap} {locs : List Loc} {ls : Array Slot}, Hp E σ s H locs → lv_has ls 6 [(0, .ref (adr E 20 0)), (1, .ref (adr E 19 0)), (3, .int x3)] → W p l e rm_X13_begin s m args below meth c H locs 0 0 Q (F0 m 133 ls []) := by
  have hx := cx.1.1
  have hb := cx.1.2.1
  intro n
  induction n with
  | zero =>
    intro x3 σ hf
    exact absurd hf (by simp [f_X13_begin_133])
  | succ n ih =>
    intro x3 σ hf H locs ls hp hl
    rw [f_X13_begin_133] at hf
    refine lv_iload_n hx hb dX13_begin_133 rfl (lv_at hl 2 rfl) ?_
    refine lv_aload_n hx hb dX13_begin_134 rfl (lv_at hl 0 rfl) ?_
    refine gF_X13_98 rfl hN cx hp dX13_begin_135 ?_
    refine lv_icmp_ge (tgt := 357) hx hb dX13_begin_138 (by decide) (fun c46 => ?_) (fun c46 => ?_)
    · have hf := fp hf c46
      cases hf
      exact K _ _ _  hp (lv_sub hl [0, 1] rfl)
    · have hf := fn hf c46
      refine lv_aload_n hx hb dX13_begin_141 rfl (lv_at hl 0 rfl) ?_
      refine gF_X13_19 rfl hN cx hp dX13_begin_142 ?_
      refine lv_iload_n hx hb dX13_begin_145 rfl (lv_at hl 2 rfl) ?_
      refine lv_aload_n hx hb dX13_begin_146 rfl (lv_at hl 0 rfl) ?_
      refine lv_sipush (v := 200) hx hb dX13_begin_147 (by decide) ?_
      obtain ⟨r47, m48, hc, hf⟩ := fb2 hf
      refine x_i hp (y_V (As := [.int 200]) (rest := [.int x3, .ref (adr E 20 3)]) cx hp hl (c_X13_draw l hN hT rfl hc) (cw_X13_92 cx (mc := 0) (ms := 0) rfl rfl ⟨by decide, by decide⟩) (rC_X13 hN cx hp) rfl rfl (Nat.le_of_ble_eq_true rfl) dX13_begin_150 ⟨Nat.zero_le _, Nat.zero_le _⟩) (fun r_c u_c H locs hq hp => ?_)
      obtain ⟨rfl, e_0, n_u⟩ := hq
      obtain ⟨σ49, e_l, hf⟩ := fl hf
      obtain rfl := ((us_x e_0 n_u).trans e_l).symm
      obtain ⟨g_i, hf⟩ := fg hf
      obtain ⟨σ50, e_l, hf⟩ := fl hf
      refine sA_X13_3 rfl hN cx hp g_i dX13_begin_153 (fun u H locs e_u n_u hp => ?_)
      obtain rfl := ((us_x e_u n_u).trans e_l).symm
      refine lv_aload_n hx hb dX13_begin_154 rfl (lv_at hl 0 rfl) ?_
      refine gF_X13_22 rfl hN cx hp dX13_begin_155 ?_
      refine lv_iload_n hx hb dX13_begin_158 rfl (lv_at hl 2 rfl) ?_
      refine lv_aload_n hx hb dX13_begin_159 rfl (lv_at hl 0 rfl) ?_
      refine lv_bipush (v := 60) hx hb dX13_begin_160 (by decide) ?_
      obtain ⟨r51, m52, hc, hf⟩ := fb2 hf
      refine x_i hp (y_V (As := [.int 60]) (rest := [.int x3, .ref (adr E 20 4)]) cx hp hl (c_X13_draw l hN hT rfl hc) (cw_X13_92 cx (mc := 0) (ms := 0) rfl rfl ⟨by decide, by decide⟩) (rC_X13 hN cx hp) rfl rfl (Nat.le_of_ble_eq_true rfl) dX13_begin_162 ⟨Nat.zero_le _, Nat.zero_le _⟩) (fun r_c u_c H locs hq hp => ?_)
      obtain ⟨rfl, e_0, n_u⟩ := hq
      obtain ⟨σ53, e_l, hf⟩ := fl hf
      obtain rfl := ((us_x e_0 n_u).trans e_l).symm
      obtain ⟨g_i, hf⟩ := fg hf
      obtain ⟨σ54, e_l, hf⟩ := fl hf
      refine sA_X13_4 rfl hN cx hp g_i dX13_begin_165 (fun u H locs e_u n_u hp => ?_)
      obtain rfl := ((us_x e_u n_u).trans e_l).symm
      refine lv_aload_n hx hb dX13_begin_166 rfl (lv_at hl 0 rfl) ?_
      refine gF_X13_25 rfl hN cx hp dX13_begin_167 ?_
      refine lv_iload_n hx hb dX13_begin_170 rfl (lv_at hl 2 rfl) ?_
      refine lv_iconst (v := (-1)) hx hb dX13_begin_171 (by decide) ?_
      obtain ⟨g_i, hf⟩ := fg hf
      obtain ⟨σ55, e_l, hf⟩ := fl hf
      refine sA_X13_5 rfl hN cx hp g_i dX13_begin_172 (fun u H locs e_u n_u hp => ?_)
      obtain rfl := ((us_x e_u n_u).trans e_l).symm
      refine lv_aload_n hx hb dX13_begin_173 rfl (lv_at hl 0 rfl) ?_
      refine gF_X13_28 rfl hN cx hp dX13_begin_174 ?_
      refine lv_iload_n hx hb dX13_begin_177 rfl (lv_at hl 2 rfl) ?_
      refine lv_iconst (v := 0) hx hb dX13_begin_178 (by decide) ?_
      obtain ⟨g_i, hf⟩ := fg hf
      obtain ⟨σ56, e_l, hf⟩ := fl hf
      refine sA_X13_6 rfl hN cx hp g_i dX13_begin_179 (fun u H locs e_u n_u hp => ?_)
      obtain rfl := ((us_x e_u n_u).trans e_l).symm
      refine lv_aload_n hx hb dX13_begin_180 rfl (lv_at hl 0 rfl) ?_
      refine gF_X13_31 rfl hN cx hp dX13_begin_181 ?_
      refine lv_iload_n hx hb dX13_begin_184 rfl (lv_at hl 2 rfl) ?_
      refine lv_iload_n hx hb dX13_begin_185 rfl (lv_at hl 2 rfl) ?_
      obtain ⟨g_i, hf⟩ := fg hf
      obtain ⟨σ57, e_l, hf⟩ := fl hf
      refine sA_X13_7 rfl hN cx hp g_i dX13_begin_186 (fun u H locs e_u n_u hp => ?_)
      obtain rfl := ((us_x e_u n_u).trans e_l).symm
      refine lv_aload_n hx hb dX13_begin_187 rfl (lv_at hl 0 rfl) ?_
      refine va_ldcS hx hb cx.1.2.2.2.1 (cx.2.2.1.2.2.2 10 _ rfl) dX13_begin_188 ?_
      obtain ⟨m58, hc, hf⟩ := fb hf
      refine x_v hp (y_V (As := [.ref (eK E 10)]) (rest := []) cx hp hl (c_X13_put l hN hT rfl hc) (cw_X13_75 cx (mc := 0) (ms := 0) rfl rfl ⟨by decide, by decide⟩) (rC_X13 hN cx hp) rfl rfl (Nat.le_of_ble_eq_true rfl) dX13_begin_190 ⟨Nat.zero_le _, Nat.zero_le _⟩) (fun u_c H locs hq hp => ?_)
      obtain ⟨e_0, n_u⟩ := hq
      obtain ⟨σ59, e_l, hf⟩ := fl hf
      obtain rfl := ((us_x e_0 n_u).trans e_l).symm
      refine lv_aload_n hx hb dX13_begin_193 rfl (lv_at hl 0 rfl) ?_
      refine lv_bipush (v := 97) hx hb dX13_begin_194 (by decide) ?_
      refine lv_iload_n hx hb dX13_begin_196 rfl (lv_at hl 2 rfl) ?_
      obtain ⟨m60, hc, hf⟩ := fb hf
      refine x_v hp (y_V (As := [.int 97, .int x3]) (rest := []) cx hp hl (c_X13_letter l hN hT rfl hc) (cw_X13_105 cx (mc := 0) (ms := 0) rfl rfl ⟨by decide, by decide⟩) (rC_X13 hN cx hp) rfl rfl (Nat.le_of_ble_eq_true rfl) dX13_begin_197 ⟨Nat.zero_le _, Nat.zero_le _⟩) (fun u_c H locs hq hp => ?_)
      obtain ⟨e_0, n_u⟩ := hq
      obtain ⟨σ61, e_l, hf⟩ := fl hf
      obtain rfl := ((us_x e_0 n_u).trans e_l).symm
      refine lv_aload_n hx hb dX13_begin_200 rfl (lv_at hl 0 rfl) ?_
      refine lv_aload_n hx hb dX13_begin_201 rfl (lv_at hl 0 rfl) ?_
      refine gF_X13_19 rfl hN cx hp dX13_begin_202 ?_
      refine lv_iload_n hx hb dX13_begin_205 rfl (lv_at hl 2 rfl) ?_
      obtain ⟨g_i, hf⟩ := fg hf
      refine lA_X13_3 rfl hN cx hp g_i dX13_begin_206 ?_
      obtain ⟨m62, hc, hf⟩ := fb hf
      refine x_v hp (y_V (As := [.int ((σ61 20).1 3 (Int32.toNatClampNeg x3))]) (rest := []) cx hp hl (c_X13_put_ l hN hT rfl hc) (cw_X13_109 cx (mc := 0) (ms := 0) rfl rfl ⟨by decide, by decide⟩) (rC_X13 hN cx hp) rfl rfl (Nat.le_of_ble_eq_true rfl) dX13_begin_207 ⟨Nat.zero_le _, Nat.zero_le _⟩) (fun u_c H locs hq hp => ?_)
      obtain ⟨e_0, n_u⟩ := hq
      obtain ⟨σ63, e_l, hf⟩ := fl hf
      obtain rfl := ((us_x e_0 n_u).trans e_l).symm
      refine lv_aload_n hx hb dX13_begin_210 rfl (lv_at hl 0 rfl) ?_
      refine lv_aload_n hx hb dX13_begin_211 rfl (lv_at hl 0 rfl) ?_
      refine gF_X13_22 rfl hN cx hp dX13_begin_212 ?_
      refine lv_iload_n hx hb dX13_begin_215 rfl (lv_at hl 2 rfl) ?_
      obtain ⟨g_i, hf⟩ := fg hf
      refine lA_X13_4 rfl hN cx hp g_i dX13_begin_216 ?_
      obtain ⟨m64, hc, hf⟩ := fb hf
      refine x_v hp (y_V (As := [.int ((σ63 20).1 4 (Int32.toNatClampNeg x3))]) (rest := []) cx hp hl (c_X13_put_ l hN hT rfl hc) (cw_X13_109 cx (mc := 0) (ms := 0) rfl rfl ⟨by decide, by decide⟩) (rC_X13 hN cx hp) rfl rfl (Nat.le_of_ble_eq_true rfl) dX13_begin_217 ⟨Nat.zero_le _, Nat.zero_le _⟩) (fun u_c H locs hq hp => ?_)
      obtain ⟨e_0, n_u⟩ := hq
      obtain ⟨σ65, e_l, hf⟩ := fl hf
      obtain rfl := ((us_x e_0 n_u).trans e_l).symm
      refine lv_aload_n hx hb dX13_begin_220 rfl (lv_at hl 0 rfl) ?_
      refine lv_aload_n hx hb dX13_begin_221 rfl (lv_at hl 0 rfl) ?_
      refine gF_X13_95 rfl hN cx hp dX13_begin_222 ?_
      refine lv_iconst (v := 1) hx hb dX13_begin_225 (by decide) ?_
      refine lv_iadd hx hb dX13_begin_226 ?_
      obtain ⟨r66, m67, hc, hf⟩ := fb2 hf
      refine x_i hp (y_V (As := [.int (((σ65 20).1 0 14) + 1)]) (rest := []) cx hp hl (c_X13_draw l hN hT rfl hc) (cw_X13_92 cx (mc := 0) (ms := 0) rfl rfl ⟨by decide, by decide⟩) (rC_X13 hN cx hp) rfl rfl (Nat.le_of_ble_eq_true rfl) dX13_begin_227 ⟨Nat.zero_le _, Nat.zero_le _⟩) (fun r_c u_c H locs hq hp => ?_)
      obtain ⟨rfl, e_0, n_u⟩ := hq
      obtain ⟨σ68, e_l, hf⟩ := fl hf
      obtain rfl := ((us_x e_0 n_u).trans e_l).symm
      refine lv_istore (lv' := [(4, .int r66), (0, .ref (adr E 20 0)), (1, .ref (adr E 19 0)), (3, .int x3)]) hx hb dX13_begin_230 hl (by decide) rfl (fun ls hl => ?_)
      obtain ⟨σ80, hc, hf⟩ := fb hf
      refine L_X13_begin_232 l hN hT cx  (fun H locs ls hp hl => ?_) _ hc hp (lv_sub hl [1, 2, 3, 0] rfl)
      refine lv_aload_n hx hb dX13_begin_295 rfl (lv_at hl 0 rfl) ?_
      refine lv_aload_n hx hb dX13_begin_296 rfl (lv_at hl 0 rfl) ?_
      refine gF_X13_95 rfl hN cx hp dX13_begin_297 ?_
      obtain ⟨r81, m82, hc, hf⟩ := fb2 hf
      refine x_i hp (y_V (As := [.int ((σ80 20).1 0 14)]) (rest := []) cx hp hl (c_X13_draw l hN hT rfl hc) (cw_X13_92 cx (mc := 0) (ms := 0) rfl rfl ⟨by decide, by decide⟩) (rC_X13 hN cx hp) rfl rfl (Nat.le_of_ble_eq_true rfl) dX13_begin_300 ⟨Nat.zero_le _, Nat.zero_le _⟩) (fun r_c u_c H locs hq hp => ?_)
      obtain ⟨rfl, e_0, n_u⟩ := hq
      obtain ⟨σ83, e_l, hf⟩ := fl hf
      obtain rfl := ((us_x e_0 n_u).trans e_l).symm
      refine lv_istore (lv' := [(4, .int r81), (0, .ref (adr E 20 0)), (1, .ref (adr E 19 0)), (3, .int x3)]) hx hb dX13_begin_303 hl (by decide) rfl (fun ls hl => ?_)
      refine lv_aload_n hx hb dX13_begin_305 rfl (lv_at hl 1 rfl) ?_
      refine lv_iconst (v := 3) hx hb dX13_begin_306 (by decide) ?_
      obtain ⟨r84, m85, hc, hf⟩ := fb2 hf
      refine x_i hp (y_V (As := [.int 3]) (rest := []) cx hp hl (c_X13_draw l hN hT rfl hc) (cw_X13_92 cx (mc := 0) (ms := 0) rfl rfl ⟨by decide, by decide⟩) (rC_X13 hN cx hp) rfl rfl (Nat.le_of_ble_eq_true rfl) dX13_begin_307 ⟨Nat.zero_le _, Nat.zero_le _⟩) (fun r_c u_c H locs hq hp => ?_)
      obtain ⟨rfl, e_0, n_u⟩ := hq
      obtain ⟨σ86, e_l, hf⟩ := fl hf
      obtain rfl := ((us_x e_0 n_u).trans e_l).symm
      refine lv_if_le (tgt := 345) hx hb dX13_begin_310 (by decide) (fun c87 => ?_) (fun c87 => ?_)
      · have hf := fp hf c87
        refine lv_aload_n hx hb dX13_begin_345 rfl (lv_at hl 1 rfl) ?_
        refine va_ldcS hx hb cx.1.2.2.2.1 (cx.2.2.1.2.2.2 9 _ rfl) dX13_begin_346 ?_
        obtain ⟨m88, hc, hf⟩ := fb hf
        refine x_v hp (y_V (As := [.ref (eK E 9)]) (rest := []) cx hp hl (c_X13_put l hN hT rfl hc) (cw_X13_75 cx (mc := 0) (ms := 0) rfl rfl ⟨by decide, by decide⟩) (rC_X13 hN cx hp) rfl rfl (Nat.le_of_ble_eq_true rfl) dX13_begin_348 ⟨Nat.zero_le _, Nat.zero_le _⟩) (fun u_c H locs hq hp => ?_)
        obtain ⟨e_0, n_u⟩ := hq
        obtain ⟨σ89, e_l, hf⟩ := fl hf
        obtain rfl := ((us_x e_0 n_u).trans e_l).symm
        refine lv_iinc (v := (x3 + 1)) (lv' := [(3, .int (x3 + 1)), (4, .int r81), (0, .ref (adr E 20 0)), (1, .ref (adr E 19 0))]) hx hb dX13_begin_351 hl (k := 3) rfl rfl (by decide) rfl (fun ls hl => ?_)
        refine lv_goto (tgt := 133) hx hb dX13_begin_354 (by decide) ?_
        exact ih  hf hp (lv_sub hl [2, 3, 0] rfl)
      · have hf := fn hf c87
        refine lv_aload_n hx hb dX13_begin_313 rfl (lv_at hl 1 rfl) ?_
        refine lv_iload hx hb dX13_begin_314 (lv_at hl 0 rfl) ?_
        obtain ⟨r90, hc, hf⟩ := fb hf
        refine x_i hp (y_V (As := [.int r81]) (rest := []) cx hp hl (c_X13_tenant l hN hT rfl hc) (cw_X13_119 cx (mc := 0) (ms := 0) rfl rfl ⟨by decide, by decide⟩) (rC_X13 hN cx hp) rfl rfl (Nat.le_of_ble_eq_true rfl) dX13_begin_316 ⟨Nat.zero_le _, Nat.zero_le _⟩) (fun r_c u_c H locs hq hp => ?_)
        obtain ⟨rfl, rfl⟩ := hq
        refine lv_iconst (v := (-1)) hx hb dX13_begin_319 (by decide) ?_
        refine lv_icmp_ne (tgt := 345) hx hb dX13_begin_320 (by decide) (fun c91 => ?_) (fun c91 => ?_)
        · have hf := fn hf c91
          refine lv_aload_n hx hb dX13_begin_345 rfl (lv_at hl 1 rfl) ?_
          refine va_ldcS hx hb cx.1.2.2.2.1 (cx.2.2.1.2.2.2 9 _ rfl) dX13_begin_346 ?_
          obtain ⟨m92, hc, hf⟩ := fb hf
          refine x_v hp (y_V (As := [.ref (eK E 9)]) (rest := []) cx hp hl (c_X13_put l hN hT rfl hc) (cw_X13_75 cx (mc := 0) (ms := 0) rfl rfl ⟨by decide, by decide⟩) (rC_X13 hN cx hp) rfl rfl (Nat.le_of_ble_eq_true rfl) dX13_begin_348 ⟨Nat.zero_le _, Nat.zero_le _⟩) (fun u_c H locs hq hp => ?_)
          obtain ⟨e_0, n_u⟩ := hq
          obtain ⟨σ93, e_l, hf⟩ := fl hf
          obtain rfl := ((us_x e_0 n_u).trans e_l).symm
          refine lv_iinc (v := (x3 + 1)) (lv' := [(3, .int (x3 + 1)), (4, .int r81), (0, .ref (adr E 20 0)), (1, .ref (adr E 19 0))]) hx hb dX13_begin_351 hl (k := 3) rfl rfl (by decide) rfl (fun ls hl => ?_)
          refine lv_goto (tgt := 133) hx hb dX13_begin_354 (by decide) ?_
          exact ih  hf hp (lv_sub hl [2, 3, 0] rfl)
        · have hf := fp hf c91
          refine lv_aload_n hx hb dX13_begin_323 rfl (lv_at hl 1 rfl) ?_
          refine gF_X13_25 rfl hN cx hp dX13_begin_324 ?_
          refine lv_iload_n hx hb dX13_begin_327 rfl (lv_at hl 3 rfl) ?_
          refine lv_iload hx hb dX13_begin_328 (lv_at hl 0 rfl) ?_
          obtain ⟨g_i, hf⟩ := fg hf
          obtain ⟨σ94, e_l, hf⟩ := fl hf
          refine sA_X13_5 rfl hN cx hp g_i dX13_begin_330 (fun u H locs e_u n_u hp => ?_)
          obtain rfl := ((us_x e_u n_u).trans e_l).symm
          refine lv_aload_n hx hb dX13_begin_331 rfl (lv_at hl 1 rfl) ?_
          refine va_ldcS hx hb cx.1.2.2.2.1 (cx.2.2.1.2.2.2 11 _ rfl) dX13_begin_332 ?_
          obtain ⟨m95, hc, hf⟩ := fb hf
          refine x_v hp (y_V (As := [.ref (eK E 11)]) (rest := []) cx hp hl (c_X13_put l hN hT rfl hc) (cw_X13_75 cx (mc := 0) (ms := 0) rfl rfl ⟨by decide, by decide⟩) (rC_X13 hN cx hp) rfl rfl (Nat.le_of_ble_eq_true rfl) dX13_begin_334 ⟨Nat.zero_le _, Nat.zero_le _⟩) (fun u_c H locs hq hp => ?_)
          obtain ⟨e_0, n_u⟩ := hq
          obtain ⟨σ96, e_l, hf⟩ := fl hf
          obtain rfl := ((us_x e_0 n_u).trans e_l).symm
          refine lv_aload_n hx hb dX13_begin_337 rfl (lv_at hl 1 rfl) ?_
          refine lv_bipush (v := 112) hx hb dX13_begin_338 (by decide) ?_
          refine lv_iload hx hb dX13_begin_340 (lv_at hl 0 rfl) ?_
          obtain ⟨m97, hc, hf⟩ := fb hf
          refine x_v hp (y_V (As := [.int 112, .int r81]) (rest := []) cx hp hl (c_X13_letter l hN hT rfl hc) (cw_X13_105 cx (mc := 0) (ms := 0) rfl rfl ⟨by decide, by decide⟩) (rC_X13 hN cx hp) rfl rfl (Nat.le_of_ble_eq_true rfl) dX13_begin_342 ⟨Nat.zero_le _, Nat.zero_le _⟩) (fun u_c H locs hq hp => ?_)
          obtain ⟨e_0, n_u⟩ := hq
          obtain ⟨σ98, e_l, hf⟩ := fl hf
          obtain rfl := ((us_x e_0 n_u).trans e_l).symm
          refine lv_aload_n hx hb dX13_begin_345 rfl (lv_at hl 1 rfl) ?_
          refine va_ldcS hx hb cx.1.2.2.2.1 (cx.2.2.1.2.2.2 9 _ rfl) dX13_begin_346 ?_
          obtain ⟨m99, hc, hf⟩ := fb hf
          refine x_v hp (y_V (As := [.ref (eK E 9)]) (rest := []) cx hp hl (c_X13_put l hN hT rfl hc) (cw_X13_75 cx (mc := 0) (ms := 0) rfl rfl ⟨by decide, by decide⟩) (rC_X13 hN cx hp) rfl rfl (Nat.le_of_ble_eq_true rfl) dX13_begin_348 ⟨Nat.zero_le _, Nat.zero_le _⟩) (fun u_c H locs hq hp => ?_)
          obtain ⟨e_0, n_u⟩ := hq
          obtain ⟨σ100, e_l, hf⟩ := fl hf
          obtain rfl := ((us_x e_0 n_u).trans e_l).symm
          refine lv_iinc (v := (x3 + 1)) (lv' := [(3, .int (x3 + 1)), (4, .int r81), (0, .ref (adr E 20 0)), (1, .ref (adr E 19 0))]) hx hb dX13_begin_351 hl (k := 3) rfl rfl (by decide) rfl (fun ls hl => ?_)
          refine lv_goto (tgt := 133) hx hb dX13_begin_354 (by decide) ?_
          exact ih  hf hp (lv_sub hl [2, 3, 0] rfl)
set_option maxRecDepth 100000 in
set_option maxHeartbeats 4000000 in
theorem c_X13_begin (l : Launch) {E : Ev} (hN : 151 ≤ eN E) (hT : St E) {σ : SM} {p2 : Int32} {rv : Int32} {σ' : SM} (hf : f_X13_begin p2 σ = some (rv, σ')) : Met l yX13_begin (wC yX13_begin cX13_begin 6 (some .boolean)) rm_X13_begin (va_Pc [.ref (adr E 20 0), .ref (adr E 19 0), .int p2] (Wu E σ)) (va_Qi (fun r u => rv = r ∧ σ' = u) (fun u t => Wu E u t) (eA E)) 0 0 (eA E) := by
  refine g_entry (lv := [(0, .ref (adr E 20 0)), (1, .ref (adr E 19 0)), (2, .int p2)]) (by decide) (Nat.le_of_ble_eq_true rfl) rfl ?_
  intro p e s m below meth c cx hp ls hl
  have hx := cx.1.1
  have hb := cx.1.2.1
  unfold f_X13_begin at hf
  refine lv_aload_n hx hb dX13_begin_0 rfl (lv_at hl 0 rfl) ?_
  refine lv_iload_n hx hb dX13_begin_1 rfl (lv_at hl 2 rfl) ?_
  obtain ⟨σ1, e_l, hf⟩ := fl hf
  refine pF_X13_52 rfl hN cx hp dX13_begin_2 (fun u H locs e_u n_u hp => ?_)
  obtain rfl := ((us_x e_u n_u).trans e_l).symm
  refine lv_aload_n hx hb dX13_begin_5 rfl (lv_at hl 0 rfl) ?_
  refine lv_iconst (v := 0) hx hb dX13_begin_6 (by decide) ?_
  obtain ⟨σ2, e_l, hf⟩ := fl hf
  refine pF_X13_89 rfl hN cx hp dX13_begin_7 (fun u H locs e_u n_u hp => ?_)
  obtain rfl := ((us_x e_u n_u).trans e_l).symm
  refine lv_aload_n hx hb dX13_begin_10 rfl (lv_at hl 0 rfl) ?_
  refine lv_iconst (v := 1) hx hb dX13_begin_11 (by decide) ?_
  refine lv_aload_n hx hb dX13_begin_12 rfl (lv_at hl 0 rfl) ?_
  refine lv_bipush (v := 7) hx hb dX13_begin_13 (by decide) ?_
  obtain ⟨r3, m4, hc, hf⟩ := fb2 hf
  refine x_i hp (y_V (As := [.int 7]) (rest := [.int 1, .ref (adr E 20 0)]) cx hp hl (c_X13_draw l hN hT rfl hc) (cw_X13_92 cx (mc := 0) (ms := 0) rfl rfl ⟨by decide, by decide⟩) (rC_X13 hN cx hp) rfl rfl (Nat.le_of_ble_eq_true rfl) dX13_begin_15 ⟨Nat.zero_le _, Nat.zero_le _⟩) (fun r_c u_c H locs hq hp => ?_)
  obtain ⟨rfl, e_0, n_u⟩ := hq
  obtain ⟨σ5, e_l, hf⟩ := fl hf
  obtain rfl := ((us_x e_0 n_u).trans e_l).symm
  refine lv_iadd hx hb dX13_begin_18 ?_
  obtain ⟨σ6, e_l, hf⟩ := fl hf
  refine pF_X13_95 rfl hN cx hp dX13_begin_19 (fun u H locs e_u n_u hp => ?_)
  obtain rfl := ((us_x e_u n_u).trans e_l).symm
  refine lv_aload_n hx hb dX13_begin_22 rfl (lv_at hl 0 rfl) ?_
  refine lv_iconst (v := 1) hx hb dX13_begin_23 (by decide) ?_
  refine lv_aload_n hx hb dX13_begin_24 rfl (lv_at hl 0 rfl) ?_
  refine lv_bipush (v := 7) hx hb dX13_begin_25 (by decide) ?_
  obtain ⟨r7, m8, hc, hf⟩ := fb2 hf
  refine x_i hp (y_V (As := [.int 7]) (rest := [.int 1, .ref (adr E 20 0)]) cx hp hl (c_X13_draw l hN hT rfl hc) (cw_X13_92 cx (mc := 0) (ms := 0) rfl rfl ⟨by decide, by decide⟩) (rC_X13 hN cx hp) rfl rfl (Nat.le_of_ble_eq_true rfl) dX13_begin_27 ⟨Nat.zero_le _, Nat.zero_le _⟩) (fun r_c u_c H locs hq hp => ?_)
  obtain ⟨rfl, e_0, n_u⟩ := hq
  obtain ⟨σ9, e_l, hf⟩ := fl hf
  obtain rfl := ((us_x e_0 n_u).trans e_l).symm
  refine lv_iadd hx hb dX13_begin_30 ?_
  obtain ⟨σ10, e_l, hf⟩ := fl hf
  refine pF_X13_98 rfl hN cx hp dX13_begin_31 (fun u H locs e_u n_u hp => ?_)
  obtain rfl := ((us_x e_u n_u).trans e_l).symm
  refine lv_iconst (v := 0) hx hb dX13_begin_34 (by decide) ?_
  refine lv_istore_n (lv' := [(3, .int 0), (0, .ref (adr E 20 0)), (1, .ref (adr E 19 0)), (2, .int p2)]) hx hb dX13_begin_35 rfl hl (by decide) rfl (fun ls hl => ?_)
  obtain ⟨σ13, hc, hf⟩ := fb hf
  refine L_X13_begin_36 l hN hT cx  (fun H locs ls hp hl => ?_) _ hc hp (lv_sub hl [1, 2, 0] rfl)
  refine lv_aload_n hx hb dX13_begin_55 rfl (lv_at hl 0 rfl) ?_
  refine va_ldcS hx hb cx.1.2.2.2.1 (cx.2.2.1.2.2.2 6 _ rfl) dX13_begin_56 ?_
  obtain ⟨m14, hc, hf⟩ := fb hf
  refine x_v hp (y_V (As := [.ref (eK E 6)]) (rest := []) cx hp hl (c_X13_put l hN hT rfl hc) (cw_X13_75 cx (mc := 0) (ms := 0) rfl rfl ⟨by decide, by decide⟩) (rC_X13 hN cx hp) rfl rfl (Nat.le_of_ble_eq_true rfl) dX13_begin_58 ⟨Nat.zero_le _, Nat.zero_le _⟩) (fun u_c H locs hq hp => ?_)
  obtain ⟨e_0, n_u⟩ := hq
  obtain ⟨σ15, e_l, hf⟩ := fl hf
  obtain rfl := ((us_x e_0 n_u).trans e_l).symm
  refine lv_iconst (v := 0) hx hb dX13_begin_61 (by decide) ?_
  refine lv_istore_n (lv' := [(3, .int 0), (0, .ref (adr E 20 0)), (1, .ref (adr E 19 0))]) hx hb dX13_begin_62 rfl hl (by decide) rfl (fun ls hl => ?_)
  obtain ⟨σ45, hc, hf⟩ := fb hf
  refine L_X13_begin_63 l hN hT cx  (fun H locs ls hp hl => ?_) _ hc hp (lv_sub hl [1, 2, 0] rfl)
  refine lv_iconst (v := 0) hx hb dX13_begin_131 (by decide) ?_
  refine lv_istore_n (lv' := [(3, .int 0), (0, .ref (adr E 20 0)), (1, .ref (adr E 19 0))]) hx hb dX13_begin_132 rfl hl (by decide) rfl (fun ls hl => ?_)
  obtain ⟨σ101, hc, hf⟩ := fb hf
  refine L_X13_begin_133 l hN hT cx  (fun H locs ls hp hl => ?_) _ hc hp (lv_sub hl [1, 2, 0] rfl)
  refine lv_aload_n hx hb dX13_begin_357 rfl (lv_at hl 0 rfl) ?_
  refine lv_aload_n hx hb dX13_begin_358 rfl (lv_at hl 1 rfl) ?_
  obtain ⟨r102, σ103, hc, hf⟩ := fb2 hf
  refine x_i hp (y_V (As := [.ref (adr E 19 0)]) (rest := []) cx hp hl (c_X13_send l hN hT  hc) (cw_X13_124 cx (mc := 0) (ms := 0) rfl rfl ⟨by decide, by decide⟩) (rC_X13 hN cx hp) rfl rfl (Nat.le_of_ble_eq_true rfl) dX13_begin_359 ⟨Nat.zero_le _, Nat.zero_le _⟩) (fun r_c u_c H locs hq hp => ?_)
  obtain ⟨rfl, rfl⟩ := hq
  refine lv_if_eq (tgt := 380) hx hb dX13_begin_362 (by decide) (fun c104 => ?_) (fun c104 => ?_)
  · have hf := fp hf c104
    cases hf
  · have hf := fn hf c104
    refine lv_aload_n hx hb dX13_begin_365 rfl (lv_at hl 1 rfl) ?_
    obtain ⟨r105, σ106, hc, hf⟩ := fb2 hf
    refine x_i hp (y_V (As := []) (rest := []) cx hp hl (c_X12_loadSetup l (Nat.le_trans (by decide) hN) hT  hc) (cw_X13_128 cx (mc := 0) (ms := 0) rfl rfl ⟨by decide, by decide⟩) (rC_X12 (Nat.le_trans (by decide) hN) cx hp) rfl rfl (Nat.le_of_ble_eq_true rfl) dX13_begin_366 ⟨Nat.zero_le _, Nat.zero_le _⟩) (fun r_c u_c H locs hq hp => ?_)
    obtain ⟨rfl, rfl⟩ := hq
    refine lv_aload_n hx hb dX13_begin_369 rfl (lv_at hl 0 rfl) ?_
    refine gF_X13_98 rfl hN cx hp dX13_begin_370 ?_
    refine lv_icmp_ne (tgt := 380) hx hb dX13_begin_373 (by decide) (fun c107 => ?_) (fun c107 => ?_)
    · have hf := fn hf c107
      cases hf
    · have hf := fp hf c107
      refine lv_iconst (v := 1) hx hb dX13_begin_376 (by decide) ?_
      refine lv_goto (tgt := 381) hx hb dX13_begin_377 (by decide) ?_
      cases hf
      exact r_z cx hp rfl ⟨rfl, rfl⟩ dX13_begin_381
abbrev rm_X13_bad : Room := { frames := 1, cells := 0, slots := 0, locals := 23 }
set_option maxRecDepth 100000 in
set_option maxHeartbeats 4000000 in
theorem c_X13_bad (l : Launch) {E : Ev} (hN : 151 ≤ eN E) (hT : St E) {σ : SM} {ρ : OM} (e20 : σ 20 = ρ) {p1 : Int32} {p2 : Int32} {rv : Int32} (hf : f_X13_bad p1 p2 ρ = some rv) : Met l yX13_bad (wC yX13_bad cX13_bad 3 (some .int)) rm_X13_bad (va_Pc [.ref (adr E 20 0), .int p1, .int p2] (Wu E σ)) (va_Qi (fun r u => rv = r ∧ σ = u) (fun u t => Wu E u t) (eA E)) 0 0 (eA E) := by
  refine g_entry (lv := [(0, .ref (adr E 20 0)), (1, .int p1), (2, .int p2)]) (by decide) (Nat.le_of_ble_eq_true rfl) rfl ?_
  intro p e s m below meth c cx hp ls hl
  have hx := cx.1.1
  have hb := cx.1.2.1
  have fr : ∀ q, σ q = σ q := fun _ => rfl
  unfold f_X13_bad at hf
  refine lv_iload_n hx hb dX13_bad_0 rfl (lv_at hl 2 rfl) ?_
  refine lv_iconst (v := (-1)) hx hb dX13_bad_1 (by decide) ?_
  refine lv_icmp_ne (tgt := 10) hx hb dX13_bad_2 (by decide) (fun c1 => ?_) (fun c1 => ?_)
  · have hf := fn hf c1
    refine lv_aload_n hx hb dX13_bad_10 rfl (lv_at hl 0 rfl) ?_
    refine lv_iload_n hx hb dX13_bad_11 rfl (lv_at hl 1 rfl) ?_
    refine lv_iload_n hx hb dX13_bad_12 rfl (lv_at hl 2 rfl) ?_
    obtain ⟨r2, hc, hf⟩ := fb hf
    refine x_i hp (y_V (As := [.int p1, .int p2]) (rest := []) cx hp hl (c_X13_rank l hN hT e20 hc) (cw_X13_115 cx (mc := 0) (ms := 0) rfl rfl ⟨by decide, by decide⟩) (rC_X13 hN cx hp) rfl rfl (Nat.le_of_ble_eq_true rfl) dX13_bad_13 ⟨Nat.zero_le _, Nat.zero_le _⟩) (fun r_c u_c H locs hq hp => ?_)
    obtain ⟨rfl, rfl⟩ := hq
    refine lv_iconst (v := (-1)) hx hb dX13_bad_16 (by decide) ?_
    refine lv_icmp_ne (tgt := 25) hx hb dX13_bad_17 (by decide) (fun c3 => ?_) (fun c3 => ?_)
    · have hf := fn hf c3
      refine lv_aload_n hx hb dX13_bad_25 rfl (lv_at hl 0 rfl) ?_
      refine lv_iload_n hx hb dX13_bad_26 rfl (lv_at hl 1 rfl) ?_
      refine lv_iload_n hx hb dX13_bad_27 rfl (lv_at hl 2 rfl) ?_
      obtain ⟨r4, hc, hf⟩ := fb hf
      refine x_i hp (y_V (As := [.int p1, .int p2]) (rest := []) cx hp hl (c_X13_rank l hN hT e20 hc) (cw_X13_115 cx (mc := 0) (ms := 0) rfl rfl ⟨by decide, by decide⟩) (rC_X13 hN cx hp) rfl rfl (Nat.le_of_ble_eq_true rfl) dX13_bad_28 ⟨Nat.zero_le _, Nat.zero_le _⟩) (fun r_c u_c H locs hq hp => ?_)
      obtain ⟨rfl, rfl⟩ := hq
      cases hf
      exact r_i cx hp ⟨rfl, (funext fr).symm⟩ dX13_bad_31
    · have hf := fp hf c3
      refine lv_bipush (v := 99) hx hb dX13_bad_20 (by decide) ?_
      refine lv_goto (tgt := 31) hx hb dX13_bad_22 (by decide) ?_
      cases hf
      exact r_i cx hp ⟨rfl, (funext fr).symm⟩ dX13_bad_31
  · have hf := fp hf c1
    refine lv_bipush (v := 50) hx hb dX13_bad_5 (by decide) ?_
    refine lv_goto (tgt := 31) hx hb dX13_bad_7 (by decide) ?_
    cases hf
    exact r_i cx hp ⟨rfl, (funext fr).symm⟩ dX13_bad_31
abbrev rm_X13_likes : Room := { frames := 2, cells := 0, slots := 0, locals := 45 }
set_option maxRecDepth 100000 in
set_option maxHeartbeats 4000000 in
theorem c_X13_likes (l : Launch) {E : Ev} (hN : 151 ≤ eN E) (hT : St E) {σ : SM} {ρ : OM} (e20 : σ 20 = ρ) {p1 : Int32} {p2 : Int32} {p3 : Int32} {rv : Int32} (hf : f_X13_likes p1 p2 p3 ρ = some rv) : Met l yX13_likes (wC yX13_likes cX13_likes 4 (some .boolean)) rm_X13_likes (va_Pc [.ref (adr E 20 0), .int p1, .int p2, .int p3] (Wu E σ)) (va_Qi (fun r u => rv = r ∧ σ = u) (fun u t => Wu E u t) (eA E)) 0 0 (eA E) := by
  refine g_entry (lv := [(0, .ref (adr E 20 0)), (1, .int p1), (2, .int p2), (3, .int p3)]) (by decide) (Nat.le_of_ble_eq_true rfl) rfl ?_
  intro p e s m below meth c cx hp ls hl
  have hx := cx.1.1
  have hb := cx.1.2.1
  have fr : ∀ q, σ q = σ q := fun _ => rfl
  unfold f_X13_likes at hf
  refine lv_aload_n hx hb dX13_likes_0 rfl (lv_at hl 0 rfl) ?_
  refine lv_iload_n hx hb dX13_likes_1 rfl (lv_at hl 1 rfl) ?_
  refine lv_iload_n hx hb dX13_likes_2 rfl (lv_at hl 2 rfl) ?_
  obtain ⟨r1, hc, hf⟩ := fb hf
  refine x_i hp (y_V (As := [.int p1, .int p2]) (rest := []) cx hp hl (c_X13_bad l hN hT e20 hc) (cw_X13_131 cx (mc := 0) (ms := 0) rfl rfl ⟨by decide, by decide⟩) (rC_X13 hN cx hp) rfl rfl (Nat.le_of_ble_eq_true rfl) dX13_likes_3 ⟨Nat.zero_le _, Nat.zero_le _⟩) (fun r_c u_c H locs hq hp => ?_)
  obtain ⟨rfl, rfl⟩ := hq
  refine lv_aload_n hx hb dX13_likes_6 rfl (lv_at hl 0 rfl) ?_
  refine lv_iload_n hx hb dX13_likes_7 rfl (lv_at hl 1 rfl) ?_
  refine lv_iload_n hx hb dX13_likes_8 rfl (lv_at hl 3 rfl) ?_
  obtain ⟨r2, hc, hf⟩ := fb hf
  refine x_i hp (y_V (As := [.int p1, .int p3]) (rest := [.int r1]) cx hp hl (c_X13_bad l hN hT e20 hc) (cw_X13_131 cx (mc := 0) (ms := 0) rfl rfl ⟨by decide, by decide⟩) (rC_X13 hN cx hp) rfl rfl (Nat.le_of_ble_eq_true rfl) dX13_likes_9 ⟨Nat.zero_le _, Nat.zero_le _⟩) (fun r_c u_c H locs hq hp => ?_)
  obtain ⟨rfl, rfl⟩ := hq
  refine lv_icmp_ge (tgt := 19) hx hb dX13_likes_12 (by decide) (fun c3 => ?_) (fun c3 => ?_)
  · have hf := fp hf c3
    refine lv_iconst (v := 0) hx hb dX13_likes_19 (by decide) ?_
    cases hf
    exact r_z cx hp rfl ⟨rfl, (funext fr).symm⟩ dX13_likes_20
  · have hf := fn hf c3
    refine lv_iconst (v := 1) hx hb dX13_likes_15 (by decide) ?_
    refine lv_goto (tgt := 20) hx hb dX13_likes_16 (by decide) ?_
    cases hf
    exact r_z cx hp rfl ⟨rfl, (funext fr).symm⟩ dX13_likes_20
abbrev rm_X13_envies : Room := { frames := 3, cells := 0, slots := 0, locals := 68 }
set_option maxRecDepth 100000 in
set_option maxHeartbeats 4000000 in
theorem c_X13_envies (l : Launch) {E : Ev} (hN : 151 ≤ eN E) (hT : St E) {σ : SM} {ρ : OM} (e20 : σ 20 = ρ) {p1 : Int32} {p2 : Int32} {rv : Int32} (hf : f_X13_envies p1 p2 ρ = some rv) : Met l yX13_envies (wC yX13_envies cX13_envies 3 (some .boolean)) rm_X13_envies (va_Pc [.ref (adr E 20 0), .int p1, .int p2] (Wu E σ)) (va_Qi (fun r u => rv = r ∧ σ = u) (fun u t => Wu E u t) (eA E)) 0 0 (eA E) := by
  refine g_entry (lv := [(0, .ref (adr E 20 0)), (1, .int p1), (2, .int p2)]) (by decide) (Nat.le_of_ble_eq_true rfl) rfl ?_
  intro p e s m below meth c cx hp ls hl
  have hx := cx.1.1
  have hb := cx.1.2.1
  have fr : ∀ q, σ q = σ q := fun _ => rfl
  unfold f_X13_envies at hf
  refine lv_aload_n hx hb dX13_envies_0 rfl (lv_at hl 0 rfl) ?_
  refine gF_X13_25 rfl hN cx hp dX13_envies_1 ?_
  refine lv_iload_n hx hb dX13_envies_4 rfl (lv_at hl 2 rfl) ?_
  obtain ⟨g_i, hf⟩ := fg hf
  refine lA_X13_5 e20 hN cx hp g_i dX13_envies_5 ?_
  refine lv_iconst (v := (-1)) hx hb dX13_envies_6 (by decide) ?_
  refine lv_icmp_eq (tgt := 34) hx hb dX13_envies_7 (by decide) (fun c1 => ?_) (fun c1 => ?_)
  · have hf := fp hf c1
    refine lv_iconst (v := 0) hx hb dX13_envies_34 (by decide) ?_
    cases hf
    exact r_z cx hp rfl ⟨rfl, (funext fr).symm⟩ dX13_envies_35
  · have hf := fn hf c1
    refine lv_aload_n hx hb dX13_envies_10 rfl (lv_at hl 0 rfl) ?_
    refine lv_iload_n hx hb dX13_envies_11 rfl (lv_at hl 1 rfl) ?_
    refine lv_aload_n hx hb dX13_envies_12 rfl (lv_at hl 0 rfl) ?_
    refine gF_X13_25 rfl hN cx hp dX13_envies_13 ?_
    refine lv_iload_n hx hb dX13_envies_16 rfl (lv_at hl 2 rfl) ?_
    obtain ⟨g_i, hf⟩ := fg hf
    refine lA_X13_5 e20 hN cx hp g_i dX13_envies_17 ?_
    refine lv_aload_n hx hb dX13_envies_18 rfl (lv_at hl 0 rfl) ?_
    refine gF_X13_25 rfl hN cx hp dX13_envies_19 ?_
    refine lv_iload_n hx hb dX13_envies_22 rfl (lv_at hl 1 rfl) ?_
    obtain ⟨g_i, hf⟩ := fg hf
    refine lA_X13_5 e20 hN cx hp g_i dX13_envies_23 ?_
    obtain ⟨r2, hc, hf⟩ := fb hf
    refine x_i hp (y_V (As := [.int p1, .int (ρ.1 5 (Int32.toNatClampNeg p2)), .int (ρ.1 5 (Int32.toNatClampNeg p1))]) (rest := []) cx hp hl (c_X13_likes l hN hT e20 hc) (cw_X13_134 cx (mc := 0) (ms := 0) rfl rfl ⟨by decide, by decide⟩) (rC_X13 hN cx hp) rfl rfl (Nat.le_of_ble_eq_true rfl) dX13_envies_24 ⟨Nat.zero_le _, Nat.zero_le _⟩) (fun r_c u_c H locs hq hp => ?_)
    obtain ⟨rfl, rfl⟩ := hq
    refine lv_if_eq (tgt := 34) hx hb dX13_envies_27 (by decide) (fun c3 => ?_) (fun c3 => ?_)
    · have hf := fp hf c3
      refine lv_iconst (v := 0) hx hb dX13_envies_34 (by decide) ?_
      cases hf
      exact r_z cx hp rfl ⟨rfl, (funext fr).symm⟩ dX13_envies_35
    · have hf := fn hf c3
      refine lv_iconst (v := 1) hx hb dX13_envies_30 (by decide) ?_
      refine lv_goto (tgt := 35) hx hb dX13_envies_31 (by decide) ?_
      cases hf
      exact r_z cx hp rfl ⟨rfl, (funext fr).symm⟩ dX13_envies_35
abbrev rm_X13_both : Room := { frames := 4, cells := 0, slots := 0, locals := 90 }
set_option maxRecDepth 100000 in
set_option maxHeartbeats 4000000 in
theorem c_X13_both (l : Launch) {E : Ev} (hN : 151 ≤ eN E) (hT : St E) {σ : SM} {ρ : OM} (e20 : σ 20 = ρ) {p1 : Int32} {p2 : Int32} {rv : Int32} (hf : f_X13_both p1 p2 ρ = some rv) : Met l yX13_both (wC yX13_both cX13_both 3 (some .boolean)) rm_X13_both (va_Pc [.ref (adr E 20 0), .int p1, .int p2] (Wu E σ)) (va_Qi (fun r u => rv = r ∧ σ = u) (fun u t => Wu E u t) (eA E)) 0 0 (eA E) := by
  refine g_entry (lv := [(0, .ref (adr E 20 0)), (1, .int p1), (2, .int p2)]) (by decide) (Nat.le_of_ble_eq_true rfl) rfl ?_
  intro p e s m below meth c cx hp ls hl
  have hx := cx.1.1
  have hb := cx.1.2.1
  have fr : ∀ q, σ q = σ q := fun _ => rfl
  unfold f_X13_both at hf
  refine lv_aload_n hx hb dX13_both_0 rfl (lv_at hl 0 rfl) ?_
  refine gF_X13_25 rfl hN cx hp dX13_both_1 ?_
  refine lv_iload_n hx hb dX13_both_4 rfl (lv_at hl 1 rfl) ?_
  obtain ⟨g_i, hf⟩ := fg hf
  refine lA_X13_5 e20 hN cx hp g_i dX13_both_5 ?_
  refine lv_iconst (v := (-1)) hx hb dX13_both_6 (by decide) ?_
  refine lv_icmp_eq (tgt := 42) hx hb dX13_both_7 (by decide) (fun c1 => ?_) (fun c1 => ?_)
  · have hf := fp hf c1
    refine lv_iconst (v := 0) hx hb dX13_both_42 (by decide) ?_
    cases hf
    exact r_z cx hp rfl ⟨rfl, (funext fr).symm⟩ dX13_both_43
  · have hf := fn hf c1
    refine lv_aload_n hx hb dX13_both_10 rfl (lv_at hl 0 rfl) ?_
    refine gF_X13_25 rfl hN cx hp dX13_both_11 ?_
    refine lv_iload_n hx hb dX13_both_14 rfl (lv_at hl 2 rfl) ?_
    obtain ⟨g_i, hf⟩ := fg hf
    refine lA_X13_5 e20 hN cx hp g_i dX13_both_15 ?_
    refine lv_iconst (v := (-1)) hx hb dX13_both_16 (by decide) ?_
    refine lv_icmp_eq (tgt := 42) hx hb dX13_both_17 (by decide) (fun c2 => ?_) (fun c2 => ?_)
    · have hf := fp hf c2
      refine lv_iconst (v := 0) hx hb dX13_both_42 (by decide) ?_
      cases hf
      exact r_z cx hp rfl ⟨rfl, (funext fr).symm⟩ dX13_both_43
    · have hf := fn hf c2
      refine lv_aload_n hx hb dX13_both_20 rfl (lv_at hl 0 rfl) ?_
      refine lv_iload_n hx hb dX13_both_21 rfl (lv_at hl 1 rfl) ?_
      refine lv_iload_n hx hb dX13_both_22 rfl (lv_at hl 2 rfl) ?_
      obtain ⟨r3, hc, hf⟩ := fb hf
      refine x_i hp (y_V (As := [.int p1, .int p2]) (rest := []) cx hp hl (c_X13_envies l hN hT e20 hc) (cw_X13_138 cx (mc := 0) (ms := 0) rfl rfl ⟨by decide, by decide⟩) (rC_X13 hN cx hp) rfl rfl (Nat.le_of_ble_eq_true rfl) dX13_both_23 ⟨Nat.zero_le _, Nat.zero_le _⟩) (fun r_c u_c H locs hq hp => ?_)
      obtain ⟨rfl, rfl⟩ := hq
      refine lv_if_eq (tgt := 42) hx hb dX13_both_26 (by decide) (fun c4 => ?_) (fun c4 => ?_)
      · have hf := fp hf c4
        refine lv_iconst (v := 0) hx hb dX13_both_42 (by decide) ?_
        cases hf
        exact r_z cx hp rfl ⟨rfl, (funext fr).symm⟩ dX13_both_43
      · have hf := fn hf c4
        refine lv_aload_n hx hb dX13_both_29 rfl (lv_at hl 0 rfl) ?_
        refine lv_iload_n hx hb dX13_both_30 rfl (lv_at hl 2 rfl) ?_
        refine lv_iload_n hx hb dX13_both_31 rfl (lv_at hl 1 rfl) ?_
        obtain ⟨r5, hc, hf⟩ := fb hf
        refine x_i hp (y_V (As := [.int p2, .int p1]) (rest := []) cx hp hl (c_X13_envies l hN hT e20 hc) (cw_X13_138 cx (mc := 0) (ms := 0) rfl rfl ⟨by decide, by decide⟩) (rC_X13 hN cx hp) rfl rfl (Nat.le_of_ble_eq_true rfl) dX13_both_32 ⟨Nat.zero_le _, Nat.zero_le _⟩) (fun r_c u_c H locs hq hp => ?_)
        obtain ⟨rfl, rfl⟩ := hq
        refine lv_if_eq (tgt := 42) hx hb dX13_both_35 (by decide) (fun c6 => ?_) (fun c6 => ?_)
        · have hf := fp hf c6
          refine lv_iconst (v := 0) hx hb dX13_both_42 (by decide) ?_
          cases hf
          exact r_z cx hp rfl ⟨rfl, (funext fr).symm⟩ dX13_both_43
        · have hf := fn hf c6
          refine lv_iconst (v := 1) hx hb dX13_both_38 (by decide) ?_
          refine lv_goto (tgt := 43) hx hb dX13_both_39 (by decide) ?_
          cases hf
          exact r_z cx hp rfl ⟨rfl, (funext fr).symm⟩ dX13_both_43
abbrev rm_X13_where : Room := { frames := 0, cells := 0, slots := 0, locals := 0 }
set_option maxRecDepth 100000 in
set_option maxHeartbeats 4000000 in
theorem L_X13_where_2 {p : Program} {e : Env} {s : State} {m : MethodId} {args : Array Value} {below : List Frame} {meth : Method} {c : Code} (l : Launch) {E : Ev} (hN : 151 ≤ eN E) (hT : St E) {σ : SM} (cx : Cx E p s m meth c args RX13 cX13_where 3 (some .int)) {x1 : Int32} {ρ : OM} {rv : Int32} : ∀ (n : Nat) {x2 : Int32}, f_X13_where_2 x1 ρ n x2 = some rv → ∀ {u : SM} {H : Heap} {locs : List Loc} {ls : Array Slot}, u 20 = ρ → (∀ q, u q = σ q) → Hp E u s H locs → lv_has ls 3 [(0, .ref (adr E 20 0)), (1, .int x1), (2, .int x2)] → W p l e rm_X13_where s m args below meth c H locs 0 0 (MQ below (va_Qi (fun r u => rv = r ∧ σ = u) (fun u t => Wu E u t) (eA E)) args s 0 0 (eA E)) (F0 m 2 ls []) := by
  have hx := cx.1.1
  have hb := cx.1.2.1
  intro n
  induction n with
  | zero =>
    intro x2 hf
    exact absurd hf (by simp [f_X13_where_2])
  | succ n ih =>
    intro x2 hf u H locs ls e20 fr hp hl
    rw [f_X13_where_2] at hf
    refine lv_iload_n hx hb dX13_where_2 rfl (lv_at hl 2 rfl) ?_
    refine lv_aload_n hx hb dX13_where_3 rfl (lv_at hl 0 rfl) ?_
    refine gF_X13_142 e20 hN cx hp dX13_where_4 ?_
    refine lv_icmp_ge (tgt := 28) hx hb dX13_where_7 (by decide) (fun c1 => ?_) (fun c1 => ?_)
    · have hf := fp hf c1
      refine lv_iconst (v := (-1)) hx hb dX13_where_28 (by decide) ?_
      cases hf
      exact r_i cx hp ⟨rfl, (funext fr).symm⟩ dX13_where_29
    · have hf := fn hf c1
      refine lv_aload_n hx hb dX13_where_10 rfl (lv_at hl 0 rfl) ?_
      refine gF_X13_34 rfl hN cx hp dX13_where_11 ?_
      refine lv_iload_n hx hb dX13_where_14 rfl (lv_at hl 2 rfl) ?_
      obtain ⟨g_i, hf⟩ := fg hf
      refine lA_X13_8 e20 hN cx hp g_i dX13_where_15 ?_
      refine lv_iload_n hx hb dX13_where_16 rfl (lv_at hl 1 rfl) ?_
      refine lv_icmp_ne (tgt := 22) hx hb dX13_where_17 (by decide) (fun c2 => ?_) (fun c2 => ?_)
      · have hf := fn hf c2
        refine lv_iinc (v := (x2 + 1)) (lv' := [(2, .int (x2 + 1)), (0, .ref (adr E 20 0)), (1, .int x1)]) hx hb dX13_where_22 hl (k := 2) rfl rfl (by decide) rfl (fun ls hl => ?_)
        refine lv_goto (tgt := 2) hx hb dX13_where_25 (by decide) ?_
        exact ih  hf e20 fr hp (lv_sub hl [1, 2, 0] rfl)
      · have hf := fp hf c2
        refine lv_iload_n hx hb dX13_where_20 rfl (lv_at hl 2 rfl) ?_
        cases hf
        exact r_i cx hp ⟨rfl, (funext fr).symm⟩ dX13_where_21
set_option maxRecDepth 100000 in
set_option maxHeartbeats 4000000 in
theorem c_X13_where (l : Launch) {E : Ev} (hN : 151 ≤ eN E) (hT : St E) {σ : SM} {ρ : OM} (e20 : σ 20 = ρ) {p1 : Int32} {rv : Int32} (hf : f_X13_where p1 ρ = some rv) : Met l yX13_where (wC yX13_where cX13_where 3 (some .int)) rm_X13_where (va_Pc [.ref (adr E 20 0), .int p1] (Wu E σ)) (va_Qi (fun r u => rv = r ∧ σ = u) (fun u t => Wu E u t) (eA E)) 0 0 (eA E) := by
  refine g_entry (lv := [(0, .ref (adr E 20 0)), (1, .int p1)]) (by decide) (Nat.le_of_ble_eq_true rfl) rfl ?_
  intro p e s m below meth c cx hp ls hl
  have hx := cx.1.1
  have hb := cx.1.2.1
  have fr : ∀ q, σ q = σ q := fun _ => rfl
  unfold f_X13_where at hf
  refine lv_iconst (v := 0) hx hb dX13_where_0 (by decide) ?_
  refine lv_istore_n (lv' := [(2, .int 0), (0, .ref (adr E 20 0)), (1, .int p1)]) hx hb dX13_where_1 rfl hl (by decide) rfl (fun ls hl => ?_)
  exact L_X13_where_2 l hN hT cx  _ hf e20 fr hp (lv_sub hl [1, 2, 0] rfl)
abbrev rm_X13_whereAll : Room := { frames := 0, cells := 0, slots := 0, locals := 0 }
set_option maxRecDepth 100000 in
set_option maxHeartbeats 4000000 in
theorem L_X13_whereAll_2 {p : Program} {e : Env} {s : State} {m : MethodId} {args : Array Value} {below : List Frame} {meth : Method} {c : Code} (l : Launch) {E : Ev} (hN : 151 ≤ eN E) (hT : St E) {σ : SM} (cx : Cx E p s m meth c args RX13 cX13_whereAll 3 (some .int)) {x1 : Int32} {ρ : OM} {rv : Int32} : ∀ (n : Nat) {x2 : Int32}, f_X13_whereAll_2 x1 ρ n x2 = some rv → ∀ {u : SM} {H : Heap} {locs : List Loc} {ls : Array Slot}, u 20 = ρ → (∀ q, u q = σ q) → Hp E u s H locs → lv_has ls 3 [(0, .ref (adr E 20 0)), (1, .int x1), (2, .int x2)] → W p l e rm_X13_whereAll s m args below meth c H locs 0 0 (MQ below (va_Qi (fun r u => rv = r ∧ σ = u) (fun u t => Wu E u t) (eA E)) args s 0 0 (eA E)) (F0 m 2 ls []) := by
  have hx := cx.1.1
  have hb := cx.1.2.1
  intro n
  induction n with
  | zero =>
    intro x2 hf
    exact absurd hf (by simp [f_X13_whereAll_2])
  | succ n ih =>
    intro x2 hf u H locs ls e20 fr hp hl
    rw [f_X13_whereAll_2] at hf
    refine lv_iload_n hx hb dX13_whereAll_2 rfl (lv_at hl 2 rfl) ?_
    refine lv_aload_n hx hb dX13_whereAll_3 rfl (lv_at hl 0 rfl) ?_
    refine gF_X13_142 e20 hN cx hp dX13_whereAll_4 ?_
    refine lv_icmp_gt (tgt := 28) hx hb dX13_whereAll_7 (by decide) (fun c1 => ?_) (fun c1 => ?_)
    · have hf := fp hf c1
      refine lv_aload_n hx hb dX13_whereAll_28 rfl (lv_at hl 0 rfl) ?_
      refine gF_X13_142 e20 hN cx hp dX13_whereAll_29 ?_
      cases hf
      exact r_i cx hp ⟨rfl, (funext fr).symm⟩ dX13_whereAll_32
    · have hf := fn hf c1
      refine lv_aload_n hx hb dX13_whereAll_10 rfl (lv_at hl 0 rfl) ?_
      refine gF_X13_34 rfl hN cx hp dX13_whereAll_11 ?_
      refine lv_iload_n hx hb dX13_whereAll_14 rfl (lv_at hl 2 rfl) ?_
      obtain ⟨g_i, hf⟩ := fg hf
      refine lA_X13_8 e20 hN cx hp g_i dX13_whereAll_15 ?_
      refine lv_iload_n hx hb dX13_whereAll_16 rfl (lv_at hl 1 rfl) ?_
      refine lv_icmp_ne (tgt := 22) hx hb dX13_whereAll_17 (by decide) (fun c2 => ?_) (fun c2 => ?_)
      · have hf := fn hf c2
        refine lv_iinc (v := (x2 + 1)) (lv' := [(2, .int (x2 + 1)), (0, .ref (adr E 20 0)), (1, .int x1)]) hx hb dX13_whereAll_22 hl (k := 2) rfl rfl (by decide) rfl (fun ls hl => ?_)
        refine lv_goto (tgt := 2) hx hb dX13_whereAll_25 (by decide) ?_
        exact ih  hf e20 fr hp (lv_sub hl [1, 2, 0] rfl)
      · have hf := fp hf c2
        refine lv_iload_n hx hb dX13_whereAll_20 rfl (lv_at hl 2 rfl) ?_
        cases hf
        exact r_i cx hp ⟨rfl, (funext fr).symm⟩ dX13_whereAll_21
set_option maxRecDepth 100000 in
set_option maxHeartbeats 4000000 in
theorem c_X13_whereAll (l : Launch) {E : Ev} (hN : 151 ≤ eN E) (hT : St E) {σ : SM} {ρ : OM} (e20 : σ 20 = ρ) {p1 : Int32} {rv : Int32} (hf : f_X13_whereAll p1 ρ = some rv) : Met l yX13_whereAll (wC yX13_whereAll cX13_whereAll 3 (some .int)) rm_X13_whereAll (va_Pc [.ref (adr E 20 0), .int p1] (Wu E σ)) (va_Qi (fun r u => rv = r ∧ σ = u) (fun u t => Wu E u t) (eA E)) 0 0 (eA E) := by
  refine g_entry (lv := [(0, .ref (adr E 20 0)), (1, .int p1)]) (by decide) (Nat.le_of_ble_eq_true rfl) rfl ?_
  intro p e s m below meth c cx hp ls hl
  have hx := cx.1.1
  have hb := cx.1.2.1
  have fr : ∀ q, σ q = σ q := fun _ => rfl
  unfold f_X13_whereAll at hf
  refine lv_iconst (v := 0) hx hb dX13_whereAll_0 (by decide) ?_
  refine lv_istore_n (lv' := [(2, .int 0), (0, .ref (adr E 20 0)), (1, .int p1)]) hx hb dX13_whereAll_1 rfl hl (by decide) rfl (fun ls hl => ?_)
  exact L_X13_whereAll_2 l hN hT cx  _ hf e20 fr hp (lv_sub hl [1, 2, 0] rfl)
abbrev rm_X13_give : Room := { frames := 1, cells := 0, slots := 0, locals := 22 }
set_option maxRecDepth 100000 in
set_option maxHeartbeats 4000000 in
theorem L_X13_give_35 {p : Program} {e : Env} {s : State} {m : MethodId} {args : Array Value} {below : List Frame} {meth : Method} {c : Code} (l : Launch) {E : Ev} (hN : 151 ≤ eN E) (hT : St E) {σ : SM} (cx : Cx E p s m meth c args RX13 cX13_give 4 none) {ρ' : OM} : ∀ (n : Nat) {x3 : Int32} {ρ : OM}, f_X13_give_35  n x3 ρ = some ρ' → ∀ {u : SM} {H : Heap} {locs : List Loc} {ls : Array Slot}, u 20 = ρ → (∀ q, q ≠ 20 → u q = σ q) → Hp E u s H locs → lv_has ls 4 [(0, .ref (adr E 20 0)), (3, .int x3)] → W p l e rm_X13_give s m args below meth c H locs 0 0 (MQ below (va_Qv (fun u => u 20 = ρ' ∧ ∀ q, q ≠ 20 → u q = σ q) (fun u t => Wu E u t) (eA E)) args s 0 0 (eA E)) (F0 m 35 ls []) := by
  have hx := cx.1.1
  have hb := cx.1.2.1
  intro n
  induction n with
  | zero =>
    intro x3 ρ hf
    exact absurd hf (by simp [f_X13_give_35])
  | succ n ih =>
    intro x3 ρ hf u H locs ls e20 fr hp hl
    rw [f_X13_give_35] at hf
    refine lv_iload_n hx hb dX13_give_35 rfl (lv_at hl 1 rfl) ?_
    refine lv_aload_n hx hb dX13_give_36 rfl (lv_at hl 0 rfl) ?_
    refine gF_X13_142 e20 hN cx hp dX13_give_37 ?_
    refine lv_icmp_ge (tgt := 63) hx hb dX13_give_40 (by decide) (fun c5 => ?_) (fun c5 => ?_)
    · have hf := fp hf c5
      cases hf
      exact r_v cx hp ⟨e20, fr⟩ dX13_give_63
    · have hf := fn hf c5
      refine lv_aload_n hx hb dX13_give_43 rfl (lv_at hl 0 rfl) ?_
      refine gF_X13_34 rfl hN cx hp dX13_give_44 ?_
      refine lv_iload_n hx hb dX13_give_47 rfl (lv_at hl 1 rfl) ?_
      refine lv_aload_n hx hb dX13_give_48 rfl (lv_at hl 0 rfl) ?_
      refine gF_X13_34 rfl hN cx hp dX13_give_49 ?_
      refine lv_iload_n hx hb dX13_give_52 rfl (lv_at hl 1 rfl) ?_
      refine lv_iconst (v := 1) hx hb dX13_give_53 (by decide) ?_
      refine lv_iadd hx hb dX13_give_54 ?_
      obtain ⟨g_i, hf⟩ := fg hf
      refine lA_X13_8 e20 hN cx hp g_i dX13_give_55 ?_
      obtain ⟨g_i, hf⟩ := fg hf
      obtain ⟨ρ6, e_l, hf⟩ := fl hf
      refine sA_X13_8 e20 hN cx hp g_i dX13_give_56 (fun u H locs e_u n_u hp => ?_)
      have e20 := e_u.trans e_l
      have fr : ∀ q, q ≠ 20 → u q = σ q := fun q h0 => (n_u q h0).trans (fr q h0)
      refine lv_iinc (v := (x3 + 1)) (lv' := [(3, .int (x3 + 1)), (0, .ref (adr E 20 0))]) hx hb dX13_give_57 hl (k := 1) rfl rfl (by decide) rfl (fun ls hl => ?_)
      refine lv_goto (tgt := 35) hx hb dX13_give_60 (by decide) ?_
      exact ih  hf e20 fr hp (lv_sub hl [1, 0] rfl)
set_option maxRecDepth 100000 in
set_option maxHeartbeats 4000000 in
theorem c_X13_give (l : Launch) {E : Ev} (hN : 151 ≤ eN E) (hT : St E) {σ : SM} {ρ : OM} (e20 : σ 20 = ρ) {p1 : Int32} {p2 : Int32} {ρ' : OM} (hf : f_X13_give p1 p2 ρ = some ρ') : Met l yX13_give (wC yX13_give cX13_give 4 none) rm_X13_give (va_Pc [.ref (adr E 20 0), .int p1, .int p2] (Wu E σ)) (va_Qv (fun u => u 20 = ρ' ∧ ∀ q, q ≠ 20 → u q = σ q) (fun u t => Wu E u t) (eA E)) 0 0 (eA E) := by
  refine g_entry (lv := [(0, .ref (adr E 20 0)), (1, .int p1), (2, .int p2)]) (by decide) (Nat.le_of_ble_eq_true rfl) rfl ?_
  intro p e s m below meth c cx hp ls hl
  have hx := cx.1.1
  have hb := cx.1.2.1
  have fr : ∀ q, q ≠ 20 → σ q = σ q := fun _ _ => rfl
  unfold f_X13_give at hf
  refine lv_aload_n hx hb dX13_give_0 rfl (lv_at hl 0 rfl) ?_
  refine gF_X13_40 rfl hN cx hp dX13_give_1 ?_
  refine lv_iload_n hx hb dX13_give_4 rfl (lv_at hl 1 rfl) ?_
  refine lv_iload_n hx hb dX13_give_5 rfl (lv_at hl 2 rfl) ?_
  obtain ⟨g_i, hf⟩ := fg hf
  obtain ⟨ρ1, e_l, hf⟩ := fl hf
  refine sA_X13_10 e20 hN cx hp g_i dX13_give_6 (fun u H locs e_u n_u hp => ?_)
  have e20 := e_u.trans e_l
  have fr : ∀ q, q ≠ 20 → u q = σ q := fun q h0 => (n_u q h0).trans (fr q h0)
  refine lv_iload_n hx hb dX13_give_7 rfl (lv_at hl 2 rfl) ?_
  refine lv_iconst (v := (-1)) hx hb dX13_give_8 (by decide) ?_
  refine lv_icmp_eq (tgt := 19) hx hb dX13_give_9 (by decide) (fun c2 => ?_) (fun c2 => ?_)
  · have hf := fp hf c2
    refine lv_aload_n hx hb dX13_give_19 rfl (lv_at hl 0 rfl) ?_
    refine lv_dup hx hb dX13_give_20 rfl ?_
    refine gF_X13_142 e20 hN cx hp dX13_give_21 ?_
    refine lv_iconst (v := 1) hx hb dX13_give_24 (by decide) ?_
    refine lv_isub hx hb dX13_give_25 ?_
    obtain ⟨ρ3, e_l, hf⟩ := fl hf
    refine pF_X13_142 e20 hN cx hp dX13_give_26 (fun u H locs e_u n_u hp => ?_)
    have e20 := e_u.trans e_l
    have fr : ∀ q, q ≠ 20 → u q = σ q := fun q h0 => (n_u q h0).trans (fr q h0)
    refine lv_aload_n hx hb dX13_give_29 rfl (lv_at hl 0 rfl) ?_
    refine lv_iload_n hx hb dX13_give_30 rfl (lv_at hl 1 rfl) ?_
    obtain ⟨r4, hc, hf⟩ := fb hf
    refine x_i hp (y_V (As := [.int p1]) (rest := []) cx hp hl (c_X13_whereAll l hN hT e20 hc) (cw_X13_154 cx (mc := 0) (ms := 0) rfl rfl ⟨by decide, by decide⟩) (rC_X13 hN cx hp) rfl rfl (Nat.le_of_ble_eq_true rfl) dX13_give_31 ⟨Nat.zero_le _, Nat.zero_le _⟩) (fun r_c u_c H locs hq hp => ?_)
    obtain ⟨rfl, rfl⟩ := hq
    refine lv_istore_n (lv' := [(3, .int r4), (0, .ref (adr E 20 0)), (1, .int p1), (2, .int p2)]) hx hb dX13_give_34 rfl hl (by decide) rfl (fun ls hl => ?_)
    exact L_X13_give_35 l hN hT cx  _ hf e20 fr hp (lv_sub hl [1, 0] rfl)
  · have hf := fn hf c2
    refine lv_aload_n hx hb dX13_give_12 rfl (lv_at hl 0 rfl) ?_
    refine gF_X13_48 rfl hN cx hp dX13_give_13 ?_
    refine lv_iload_n hx hb dX13_give_16 rfl (lv_at hl 2 rfl) ?_
    refine lv_iconst (v := 1) hx hb dX13_give_17 (by decide) ?_
    obtain ⟨g_i, hf⟩ := fg hf
    obtain ⟨ρ7, e_l, hf⟩ := fl hf
    refine sA_X13_20 e20 hN cx hp rfl g_i dX13_give_18 (fun u H locs e_u n_u hp => ?_)
    have e20 := e_u.trans e_l
    have fr : ∀ q, q ≠ 20 → u q = σ q := fun q h0 => (n_u q h0).trans (fr q h0)
    refine lv_aload_n hx hb dX13_give_19 rfl (lv_at hl 0 rfl) ?_
    refine lv_dup hx hb dX13_give_20 rfl ?_
    refine gF_X13_142 e20 hN cx hp dX13_give_21 ?_
    refine lv_iconst (v := 1) hx hb dX13_give_24 (by decide) ?_
    refine lv_isub hx hb dX13_give_25 ?_
    obtain ⟨ρ8, e_l, hf⟩ := fl hf
    refine pF_X13_142 e20 hN cx hp dX13_give_26 (fun u H locs e_u n_u hp => ?_)
    have e20 := e_u.trans e_l
    have fr : ∀ q, q ≠ 20 → u q = σ q := fun q h0 => (n_u q h0).trans (fr q h0)
    refine lv_aload_n hx hb dX13_give_29 rfl (lv_at hl 0 rfl) ?_
    refine lv_iload_n hx hb dX13_give_30 rfl (lv_at hl 1 rfl) ?_
    obtain ⟨r9, hc, hf⟩ := fb hf
    refine x_i hp (y_V (As := [.int p1]) (rest := []) cx hp hl (c_X13_whereAll l hN hT e20 hc) (cw_X13_154 cx (mc := 0) (ms := 0) rfl rfl ⟨by decide, by decide⟩) (rC_X13 hN cx hp) rfl rfl (Nat.le_of_ble_eq_true rfl) dX13_give_31 ⟨Nat.zero_le _, Nat.zero_le _⟩) (fun r_c u_c H locs hq hp => ?_)
    obtain ⟨rfl, rfl⟩ := hq
    refine lv_istore_n (lv' := [(3, .int r9), (0, .ref (adr E 20 0)), (1, .int p1), (2, .int p2)]) hx hb dX13_give_34 rfl hl (by decide) rfl (fun ls hl => ?_)
    exact L_X13_give_35 l hN hT cx  _ hf e20 fr hp (lv_sub hl [1, 0] rfl)
abbrev rm_X13_front : Room := { frames := 1, cells := 0, slots := 0, locals := 22 }
set_option maxRecDepth 100000 in
set_option maxHeartbeats 4000000 in
theorem L_X13_front_6 {p : Program} {e : Env} {s : State} {m : MethodId} {args : Array Value} {below : List Frame} {meth : Method} {c : Code} (l : Launch) {E : Ev} (hN : 151 ≤ eN E) (hT : St E) {σ : SM} (cx : Cx E p s m meth c args RX13 cX13_front 3 none) {x1 : Int32} {ρ' : OM} : ∀ (n : Nat) {x2 : Int32} {ρ : OM}, f_X13_front_6 x1 n x2 ρ = some ρ' → ∀ {u : SM} {H : Heap} {locs : List Loc} {ls : Array Slot}, u 20 = ρ → (∀ q, q ≠ 20 → u q = σ q) → Hp E u s H locs → lv_has ls 3 [(0, .ref (adr E 20 0)), (1, .int x1), (2, .int x2)] → W p l e rm_X13_front s m args below meth c H locs 0 0 (MQ below (va_Qv (fun u => u 20 = ρ' ∧ ∀ q, q ≠ 20 → u q = σ q) (fun u t => Wu E u t) (eA E)) args s 0 0 (eA E)) (F0 m 6 ls []) := by
  have hx := cx.1.1
  have hb := cx.1.2.1
  intro n
  induction n with
  | zero =>
    intro x2 ρ hf
    exact absurd hf (by simp [f_X13_front_6])
  | succ n ih =>
    intro x2 ρ hf u H locs ls e20 fr hp hl
    rw [f_X13_front_6] at hf
    refine lv_iload_n hx hb dX13_front_6 rfl (lv_at hl 2 rfl) ?_
    refine lv_if_le (tgt := 30) hx hb dX13_front_7 (by decide) (fun c2 => ?_) (fun c2 => ?_)
    · have hf := fp hf c2
      refine lv_aload_n hx hb dX13_front_30 rfl (lv_at hl 0 rfl) ?_
      refine gF_X13_34 rfl hN cx hp dX13_front_31 ?_
      refine lv_iconst (v := 0) hx hb dX13_front_34 (by decide) ?_
      refine lv_iload_n hx hb dX13_front_35 rfl (lv_at hl 1 rfl) ?_
      obtain ⟨g_i, hf⟩ := fg hf
      obtain ⟨ρ3, e_l, hf⟩ := fl hf
      refine sA_X13_8 e20 hN cx hp g_i dX13_front_36 (fun u H locs e_u n_u hp => ?_)
      have e20 := e_u.trans e_l
      have fr : ∀ q, q ≠ 20 → u q = σ q := fun q h0 => (n_u q h0).trans (fr q h0)
      cases hf
      exact r_v cx hp ⟨e20, fr⟩ dX13_front_37
    · have hf := fn hf c2
      refine lv_aload_n hx hb dX13_front_10 rfl (lv_at hl 0 rfl) ?_
      refine gF_X13_34 rfl hN cx hp dX13_front_11 ?_
      refine lv_iload_n hx hb dX13_front_14 rfl (lv_at hl 2 rfl) ?_
      refine lv_aload_n hx hb dX13_front_15 rfl (lv_at hl 0 rfl) ?_
      refine gF_X13_34 rfl hN cx hp dX13_front_16 ?_
      refine lv_iload_n hx hb dX13_front_19 rfl (lv_at hl 2 rfl) ?_
      refine lv_iconst (v := 1) hx hb dX13_front_20 (by decide) ?_
      refine lv_isub hx hb dX13_front_21 ?_
      obtain ⟨g_i, hf⟩ := fg hf
      refine lA_X13_8 e20 hN cx hp g_i dX13_front_22 ?_
      obtain ⟨g_i, hf⟩ := fg hf
      obtain ⟨ρ4, e_l, hf⟩ := fl hf
      refine sA_X13_8 e20 hN cx hp g_i dX13_front_23 (fun u H locs e_u n_u hp => ?_)
      have e20 := e_u.trans e_l
      have fr : ∀ q, q ≠ 20 → u q = σ q := fun q h0 => (n_u q h0).trans (fr q h0)
      refine lv_iinc (v := (x2 + (-1))) (lv' := [(2, .int (x2 + (-1))), (0, .ref (adr E 20 0)), (1, .int x1)]) hx hb dX13_front_24 hl (k := 2) rfl rfl (by decide) rfl (fun ls hl => ?_)
      refine lv_goto (tgt := 6) hx hb dX13_front_27 (by decide) ?_
      exact ih  hf e20 fr hp (lv_sub hl [1, 2, 0] rfl)
set_option maxRecDepth 100000 in
set_option maxHeartbeats 4000000 in
theorem c_X13_front (l : Launch) {E : Ev} (hN : 151 ≤ eN E) (hT : St E) {σ : SM} {ρ : OM} (e20 : σ 20 = ρ) {p1 : Int32} {ρ' : OM} (hf : f_X13_front p1 ρ = some ρ') : Met l yX13_front (wC yX13_front cX13_front 3 none) rm_X13_front (va_Pc [.ref (adr E 20 0), .int p1] (Wu E σ)) (va_Qv (fun u => u 20 = ρ' ∧ ∀ q, q ≠ 20 → u q = σ q) (fun u t => Wu E u t) (eA E)) 0 0 (eA E) := by
  refine g_entry (lv := [(0, .ref (adr E 20 0)), (1, .int p1)]) (by decide) (Nat.le_of_ble_eq_true rfl) rfl ?_
  intro p e s m below meth c cx hp ls hl
  have hx := cx.1.1
  have hb := cx.1.2.1
  have fr : ∀ q, q ≠ 20 → σ q = σ q := fun _ _ => rfl
  unfold f_X13_front at hf
  refine lv_aload_n hx hb dX13_front_0 rfl (lv_at hl 0 rfl) ?_
  refine lv_iload_n hx hb dX13_front_1 rfl (lv_at hl 1 rfl) ?_
  obtain ⟨r1, hc, hf⟩ := fb hf
  refine x_i hp (y_V (As := [.int p1]) (rest := []) cx hp hl (c_X13_where l hN hT e20 hc) (cw_X13_145 cx (mc := 0) (ms := 0) rfl rfl ⟨by decide, by decide⟩) (rC_X13 hN cx hp) rfl rfl (Nat.le_of_ble_eq_true rfl) dX13_front_2 ⟨Nat.zero_le _, Nat.zero_le _⟩) (fun r_c u_c H locs hq hp => ?_)
  obtain ⟨rfl, rfl⟩ := hq
  refine lv_istore_n (lv' := [(2, .int r1), (0, .ref (adr E 20 0)), (1, .int p1)]) hx hb dX13_front_5 rfl hl (by decide) rfl (fun ls hl => ?_)
  exact L_X13_front_6 l hN hT cx  _ hf e20 fr hp (lv_sub hl [1, 2, 0] rfl)
abbrev rm_X13_mechanism : Room := { frames := 2, cells := 0, slots := 0, locals := 45 }
set_option maxRecDepth 100000 in
set_option maxHeartbeats 4000000 in
theorem L_X13_mechanism_10 {p : Program} {e : Env} {s : State} {m : MethodId} {args : Array Value} {below : List Frame} {meth : Method} {c : Code} (l : Launch) {E : Ev} (hN : 151 ≤ eN E) (hT : St E) {σ : SM} {Q : State → Prop} (cx : Cx E p s m meth c args RX13 cX13_mechanism 6 none) {ρ' : OM} (K : ∀ (u : SM) (H : Heap) (locs : List Loc) (ls : Array Slot), u 20 = ρ' → (∀ q, q ≠ 20 → u q = σ q) → Hp E u s H locs → lv_has ls 6 [(0, .ref (adr E 20 0))] → W p l e rm_X13_mechanism s m args below meth c H locs 0 0 Q (F0 m 50 ls [])) : ∀ (n : Nat) {x1 : Int32} {ρ : OM}, f_X13_mechanism_10  n x1 ρ = some ρ' → ∀ {u : SM} {H : Heap} {locs : List Loc} {ls : Array Slot}, u 20 = ρ → (∀ q, q ≠ 20 → u q = σ q) → Hp E u s H locs → lv_has ls 6 [(0, .ref (adr E 20 0)), (1, .int x1)] → W p l e rm_X13_mechanism s m args below meth c H locs 0 0 Q (F0 m 10 ls []) := by
  have hx := cx.1.1
  have hb := cx.1.2.1
  intro n
  induction n with
  | zero =>
    intro x1 ρ hf
    exact absurd hf (by simp [f_X13_mechanism_10])
  | succ n ih =>
    intro x1 ρ hf u H locs ls e20 fr hp hl
    rw [f_X13_mechanism_10] at hf
    refine lv_iload_n hx hb dX13_mechanism_10 rfl (lv_at hl 1 rfl) ?_
    refine lv_aload_n hx hb dX13_mechanism_11 rfl (lv_at hl 0 rfl) ?_
    refine gF_X13_98 e20 hN cx hp dX13_mechanism_12 ?_
    refine lv_icmp_ge (tgt := 50) hx hb dX13_mechanism_15 (by decide) (fun c2 => ?_) (fun c2 => ?_)
    · have hf := fp hf c2
      cases hf
      exact K _ _ _ _ e20 fr hp (lv_sub hl [0] rfl)
    · have hf := fn hf c2
      refine lv_aload_n hx hb dX13_mechanism_18 rfl (lv_at hl 0 rfl) ?_
      refine gF_X13_34 rfl hN cx hp dX13_mechanism_19 ?_
      refine lv_iload_n hx hb dX13_mechanism_22 rfl (lv_at hl 1 rfl) ?_
      refine lv_aload_n hx hb dX13_mechanism_23 rfl (lv_at hl 0 rfl) ?_
      refine gF_X13_31 rfl hN cx hp dX13_mechanism_24 ?_
      refine lv_iload_n hx hb dX13_mechanism_27 rfl (lv_at hl 1 rfl) ?_
      obtain ⟨g_i, hf⟩ := fg hf
      refine lA_X13_7 e20 hN cx hp g_i dX13_mechanism_28 ?_
      obtain ⟨g_i, hf⟩ := fg hf
      obtain ⟨ρ3, e_l, hf⟩ := fl hf
      refine sA_X13_8 e20 hN cx hp g_i dX13_mechanism_29 (fun u H locs e_u n_u hp => ?_)
      have e20 := e_u.trans e_l
      have fr : ∀ q, q ≠ 20 → u q = σ q := fun q h0 => (n_u q h0).trans (fr q h0)
      refine lv_aload_n hx hb dX13_mechanism_30 rfl (lv_at hl 0 rfl) ?_
      refine gF_X13_37 rfl hN cx hp dX13_mechanism_31 ?_
      refine lv_iload_n hx hb dX13_mechanism_34 rfl (lv_at hl 1 rfl) ?_
      refine lv_iconst (v := (-1)) hx hb dX13_mechanism_35 (by decide) ?_
      obtain ⟨g_i, hf⟩ := fg hf
      obtain ⟨ρ4, e_l, hf⟩ := fl hf
      refine sA_X13_9 e20 hN cx hp g_i dX13_mechanism_36 (fun u H locs e_u n_u hp => ?_)
      have e20 := e_u.trans e_l
      have fr : ∀ q, q ≠ 20 → u q = σ q := fun q h0 => (n_u q h0).trans (fr q h0)
      refine lv_aload_n hx hb dX13_mechanism_37 rfl (lv_at hl 0 rfl) ?_
      refine gF_X13_40 rfl hN cx hp dX13_mechanism_38 ?_
      refine lv_iload_n hx hb dX13_mechanism_41 rfl (lv_at hl 1 rfl) ?_
      refine lv_iconst (v := (-1)) hx hb dX13_mechanism_42 (by decide) ?_
      obtain ⟨g_i, hf⟩ := fg hf
      obtain ⟨ρ5, e_l, hf⟩ := fl hf
      refine sA_X13_10 e20 hN cx hp g_i dX13_mechanism_43 (fun u H locs e_u n_u hp => ?_)
      have e20 := e_u.trans e_l
      have fr : ∀ q, q ≠ 20 → u q = σ q := fun q h0 => (n_u q h0).trans (fr q h0)
      refine lv_iinc (v := (x1 + 1)) (lv' := [(1, .int (x1 + 1)), (0, .ref (adr E 20 0))]) hx hb dX13_mechanism_44 hl (k := 1) rfl rfl (by decide) rfl (fun ls hl => ?_)
      refine lv_goto (tgt := 10) hx hb dX13_mechanism_47 (by decide) ?_
      exact ih  hf e20 fr hp (lv_sub hl [1, 0] rfl)
set_option maxRecDepth 100000 in
set_option maxHeartbeats 4000000 in
theorem L_X13_mechanism_52 {p : Program} {e : Env} {s : State} {m : MethodId} {args : Array Value} {below : List Frame} {meth : Method} {c : Code} (l : Launch) {E : Ev} (hN : 151 ≤ eN E) (hT : St E) {σ : SM} {Q : State → Prop} (cx : Cx E p s m meth c args RX13 cX13_mechanism 6 none) {ρ' : OM} (K : ∀ (u : SM) (H : Heap) (locs : List Loc) (ls : Array Slot), u 20 = ρ' → (∀ q, q ≠ 20 → u q = σ q) → Hp E u s H locs → lv_has ls 6 [(0, .ref (adr E 20 0))] → W p l e rm_X13_mechanism s m args below meth c H locs 0 0 Q (F0 m 73 ls [])) : ∀ (n : Nat) {x1 : Int32} {ρ : OM}, f_X13_mechanism_52  n x1 ρ = some ρ' → ∀ {u : SM} {H : Heap} {locs : List Loc} {ls : Array Slot}, u 20 = ρ → (∀ q, q ≠ 20 → u q = σ q) → Hp E u s H locs → lv_has ls 6 [(0, .ref (adr E 20 0)), (1, .int x1)] → W p l e rm_X13_mechanism s m args below meth c H locs 0 0 Q (F0 m 52 ls []) := by
  have hx := cx.1.1
  have hb := cx.1.2.1
  intro n
  induction n with
  | zero =>
    intro x1 ρ hf
    exact absurd hf (by simp [f_X13_mechanism_52])
  | succ n ih =>
    intro x1 ρ hf u H locs ls e20 fr hp hl
    rw [f_X13_mechanism_52] at hf
    refine lv_iload_n hx hb dX13_mechanism_52 rfl (lv_at hl 1 rfl) ?_
    refine lv_aload_n hx hb dX13_mechanism_53 rfl (lv_at hl 0 rfl) ?_
    refine gF_X13_95 e20 hN cx hp dX13_mechanism_54 ?_
    refine lv_icmp_ge (tgt := 73) hx hb dX13_mechanism_57 (by decide) (fun c7 => ?_) (fun c7 => ?_)
    · have hf := fp hf c7
      cases hf
      exact K _ _ _ _ e20 fr hp (lv_sub hl [0] rfl)
    · have hf := fn hf c7
      refine lv_aload_n hx hb dX13_mechanism_60 rfl (lv_at hl 0 rfl) ?_
      refine gF_X13_48 rfl hN cx hp dX13_mechanism_61 ?_
      refine lv_iload_n hx hb dX13_mechanism_64 rfl (lv_at hl 1 rfl) ?_
      refine lv_iconst (v := 0) hx hb dX13_mechanism_65 (by decide) ?_
      obtain ⟨g_i, hf⟩ := fg hf
      obtain ⟨ρ8, e_l, hf⟩ := fl hf
      refine sA_X13_20 e20 hN cx hp rfl g_i dX13_mechanism_66 (fun u H locs e_u n_u hp => ?_)
      have e20 := e_u.trans e_l
      have fr : ∀ q, q ≠ 20 → u q = σ q := fun q h0 => (n_u q h0).trans (fr q h0)
      refine lv_iinc (v := (x1 + 1)) (lv' := [(1, .int (x1 + 1)), (0, .ref (adr E 20 0))]) hx hb dX13_mechanism_67 hl (k := 1) rfl rfl (by decide) rfl (fun ls hl => ?_)
      refine lv_goto (tgt := 52) hx hb dX13_mechanism_70 (by decide) ?_
      exact ih  hf e20 fr hp (lv_sub hl [1, 0] rfl)
set_option maxRecDepth 100000 in
set_option maxHeartbeats 4000000 in
theorem L_X13_mechanism_98 {p : Program} {e : Env} {s : State} {m : MethodId} {args : Array Value} {below : List Frame} {meth : Method} {c : Code} (l : Launch) {E : Ev} (hN : 151 ≤ eN E) (hT : St E) {σ : SM} {Q : State → Prop} (cx : Cx E p s m meth c args RX13 cX13_mechanism 6 none) {x1 : Int32} {ρ : OM} {z2 : Int32} (K : ∀ (u : SM) (H : Heap) (locs : List Loc) (ls : Array Slot), u 20 = ρ → (∀ q, q ≠ 20 → u q = σ q) → Hp E u s H locs → lv_has ls 6 [(0, .ref (adr E 20 0)), (1, .int x1), (2, .int z2)] → W p l e rm_X13_mechanism s m args below meth c H locs 0 0 Q (F0 m 133 ls [])) : ∀ (n : Nat) {x3 : Int32} {x2 : Int32}, f_X13_mechanism_98 x1 ρ n x3 x2 = some z2 → ∀ {u : SM} {H : Heap} {locs : List Loc} {ls : Array Slot}, u 20 = ρ → (∀ q, q ≠ 20 → u q = σ q) → Hp E u s H locs → lv_has ls 6 [(0, .ref (adr E 20 0)), (1, .int x1), (2, .int x2), (3, .int x3)] → W p l e rm_X13_mechanism s m args below meth c H locs 0 0 Q (F0 m 98 ls []) := by
  have hx := cx.1.1
  have hb := cx.1.2.1
  intro n
  induction n with
  | zero =>
    intro x3 x2 hf
    exact absurd hf (by simp [f_X13_mechanism_98])
  | succ n ih =>
    intro x3 x2 hf u H locs ls e20 fr hp hl
    rw [f_X13_mechanism_98] at hf
    refine lv_iload_n hx hb dX13_mechanism_98 rfl (lv_at hl 3 rfl) ?_
    refine lv_if_lt (tgt := 133) hx hb dX13_mechanism_99 (by decide) (fun c13 => ?_) (fun c13 => ?_)
    · have hf := fp hf c13
      cases hf
      exact K _ _ _ _ e20 fr hp (lv_sub hl [0, 1, 2] rfl)
    · have hf := fn hf c13
      refine lv_aload_n hx hb dX13_mechanism_102 rfl (lv_at hl 0 rfl) ?_
      refine gF_X13_48 rfl hN cx hp dX13_mechanism_103 ?_
      refine lv_aload_n hx hb dX13_mechanism_106 rfl (lv_at hl 0 rfl) ?_
      refine gF_X13_45 rfl hN cx hp dX13_mechanism_107 ?_
      refine lv_iload_n hx hb dX13_mechanism_110 rfl (lv_at hl 1 rfl) ?_
      obtain ⟨g_r14, hf⟩ := fg hf
      refine lA_X13_11 hN cx hp g_r14 dX13_mechanism_111 ?_
      refine lv_iload_n hx hb dX13_mechanism_112 rfl (lv_at hl 3 rfl) ?_
      obtain ⟨g_i, hf⟩ := fg hf
      refine lA_X13_r (inb_lt g_r14) e20 hN cx hp g_i dX13_mechanism_113 ?_
      obtain ⟨g_i, hf⟩ := fg hf
      refine lA_X13_20 e20 hN cx hp g_i dX13_mechanism_114 ?_
      refine lv_if_ne (tgt := 127) hx hb dX13_mechanism_115 (by decide) (fun c15 => ?_) (fun c15 => ?_)
      · have hf := fn hf c15
        refine lv_iinc (v := (x3 + (-1))) (lv' := [(3, .int (x3 + (-1))), (0, .ref (adr E 20 0)), (1, .int x1), (2, .int x2)]) hx hb dX13_mechanism_127 hl (k := 3) rfl rfl (by decide) rfl (fun ls hl => ?_)
        refine lv_goto (tgt := 98) hx hb dX13_mechanism_130 (by decide) ?_
        exact ih  hf e20 fr hp (lv_sub hl [1, 2, 3, 0] rfl)
      · have hf := fp hf c15
        refine lv_aload_n hx hb dX13_mechanism_118 rfl (lv_at hl 0 rfl) ?_
        refine gF_X13_45 rfl hN cx hp dX13_mechanism_119 ?_
        refine lv_iload_n hx hb dX13_mechanism_122 rfl (lv_at hl 1 rfl) ?_
        obtain ⟨g_r16, hf⟩ := fg hf
        refine lA_X13_11 hN cx hp g_r16 dX13_mechanism_123 ?_
        refine lv_iload_n hx hb dX13_mechanism_124 rfl (lv_at hl 3 rfl) ?_
        obtain ⟨g_i, hf⟩ := fg hf
        refine lA_X13_r (inb_lt g_r16) e20 hN cx hp g_i dX13_mechanism_125 ?_
        obtain ⟨i17, x_e, hf⟩ := fl hf
        refine lv_nm x_e ?_
        refine lv_istore_n (lv' := [(2, .int i17), (0, .ref (adr E 20 0)), (1, .int x1), (3, .int x3)]) hx hb dX13_mechanism_126 rfl hl (by decide) rfl (fun ls hl => ?_)
        refine lv_iinc (v := (x3 + (-1))) (lv' := [(3, .int (x3 + (-1))), (2, .int i17), (0, .ref (adr E 20 0)), (1, .int x1)]) hx hb dX13_mechanism_127 hl (k := 3) rfl rfl (by decide) rfl (fun ls hl => ?_)
        refine lv_goto (tgt := 98) hx hb dX13_mechanism_130 (by decide) ?_
        exact ih  hf e20 fr hp (lv_sub hl [2, 3, 1, 0] rfl)
set_option maxRecDepth 100000 in
set_option maxHeartbeats 4000000 in
theorem L_X13_mechanism_204 {p : Program} {e : Env} {s : State} {m : MethodId} {args : Array Value} {below : List Frame} {meth : Method} {c : Code} (l : Launch) {E : Ev} (hN : 151 ≤ eN E) (hT : St E) {σ : SM} {Q : State → Prop} (cx : Cx E p s m meth c args RX13 cX13_mechanism 6 none) {x1 : Int32} {ρ' : OM} (K : ∀ (u : SM) (H : Heap) (locs : List Loc) (ls : Array Slot), u 20 = ρ' → (∀ q, q ≠ 20 → u q = σ q) → Hp E u s H locs → lv_has ls 6 [(0, .ref (adr E 20 0))] → W p l e rm_X13_mechanism s m args below meth c H locs 0 0 Q (F0 m 253 ls [])) : ∀ (n : Nat) {x4 : Int32} {ρ : OM}, f_X13_mechanism_204 x1 n x4 ρ = some ρ' → ∀ {u : SM} {H : Heap} {locs : List Loc} {ls : Array Slot}, u 20 = ρ → (∀ q, q ≠ 20 → u q = σ q) → Hp E u s H locs → lv_has ls 6 [(0, .ref (adr E 20 0)), (1, .int x1), (4, .int x4)] → W p l e rm_X13_mechanism s m args below meth c H locs 0 0 Q (F0 m 204 ls []) := by
  have hx := cx.1.1
  have hb := cx.1.2.1
  intro n
  induction n with
  | zero =>
    intro x4 ρ hf
    exact absurd hf (by simp [f_X13_mechanism_204])
  | succ n ih =>
    intro x4 ρ hf u H locs ls e20 fr hp hl
    rw [f_X13_mechanism_204] at hf
    refine lv_iload hx hb dX13_mechanism_204 (lv_at hl 2 rfl) ?_
    refine lv_iconst (v := (-1)) hx hb dX13_mechanism_206 (by decide) ?_
    refine lv_icmp_eq (tgt := 253) hx hb dX13_mechanism_207 (by decide) (fun c29 => ?_) (fun c29 => ?_)
    · have hf := fp hf c29
      cases hf
      exact K _ _ _ _ e20 fr hp (lv_sub hl [0] rfl)
    · have hf := fn hf c29
      refine lv_iload hx hb dX13_mechanism_210 (lv_at hl 2 rfl) ?_
      refine lv_iload_n hx hb dX13_mechanism_212 rfl (lv_at hl 1 rfl) ?_
      refine lv_icmp_ne (tgt := 220) hx hb dX13_mechanism_213 (by decide) (fun c30 => ?_) (fun c30 => ?_)
      · have hf := fn hf c30
        refine lv_aload_n hx hb dX13_mechanism_220 rfl (lv_at hl 0 rfl) ?_
        refine lv_aload_n hx hb dX13_mechanism_221 rfl (lv_at hl 0 rfl) ?_
        refine gF_X13_37 rfl hN cx hp dX13_mechanism_222 ?_
        refine lv_iload hx hb dX13_mechanism_225 (lv_at hl 2 rfl) ?_
        obtain ⟨g_i, hf⟩ := fg hf
        refine lA_X13_9 e20 hN cx hp g_i dX13_mechanism_227 ?_
        obtain ⟨r31, hc, hf⟩ := fb hf
        refine x_i hp (y_V (As := [.int (ρ.1 9 (Int32.toNatClampNeg x4))]) (rest := []) cx hp hl (c_X13_tenant l hN hT e20 hc) (cw_X13_119 cx (mc := 0) (ms := 0) rfl rfl ⟨by decide, by decide⟩) (rC_X13 hN cx hp) rfl rfl (Nat.le_of_ble_eq_true rfl) dX13_mechanism_228 ⟨Nat.zero_le _, Nat.zero_le _⟩) (fun r_c u_c H locs hq hp => ?_)
        obtain ⟨rfl, rfl⟩ := hq
        refine lv_istore (lv' := [(5, .int r31), (0, .ref (adr E 20 0)), (1, .int x1), (4, .int x4)]) hx hb dX13_mechanism_231 hl (by decide) rfl (fun ls hl => ?_)
        refine lv_aload_n hx hb dX13_mechanism_233 rfl (lv_at hl 1 rfl) ?_
        refine lv_iload hx hb dX13_mechanism_234 (lv_at hl 3 rfl) ?_
        refine lv_aload_n hx hb dX13_mechanism_236 rfl (lv_at hl 1 rfl) ?_
        refine gF_X13_37 rfl hN cx hp dX13_mechanism_237 ?_
        refine lv_iload hx hb dX13_mechanism_240 (lv_at hl 3 rfl) ?_
        obtain ⟨g_i, hf⟩ := fg hf
        refine lA_X13_9 e20 hN cx hp g_i dX13_mechanism_242 ?_
        obtain ⟨ρ32, hc, hf⟩ := fb hf
        refine x_v hp (y_V (As := [.int x4, .int (ρ.1 9 (Int32.toNatClampNeg x4))]) (rest := []) cx hp hl (c_X13_give l hN hT e20 hc) (cw_X13_148 cx (mc := 0) (ms := 0) rfl rfl ⟨by decide, by decide⟩) (rC_X13 hN cx hp) rfl rfl (Nat.le_of_ble_eq_true rfl) dX13_mechanism_243 ⟨Nat.zero_le _, Nat.zero_le _⟩) (fun u_c H locs hq hp => ?_)
        obtain ⟨e_0, n_u⟩ := hq
        have e20 := e_0
        have fr : ∀ q, q ≠ 20 → u_c q = σ q := fun q h0 => (n_u q h0).trans (fr q h0)
        obtain ⟨u, rfl⟩ : ∃ z, u_c = z := ⟨_, rfl⟩
        refine lv_iload hx hb dX13_mechanism_246 (lv_at hl 0 rfl) ?_
        refine lv_istore (lv' := [(4, .int r31), (5, .int r31), (0, .ref (adr E 20 0)), (1, .int x1)]) hx hb dX13_mechanism_248 hl (by decide) rfl (fun ls hl => ?_)
        refine lv_goto (tgt := 204) hx hb dX13_mechanism_250 (by decide) ?_
        exact ih  hf e20 fr hp (lv_sub hl [2, 3, 0] rfl)
      · have hf := fp hf c30
        refine lv_iconst (v := (-1)) hx hb dX13_mechanism_216 (by decide) ?_
        refine lv_goto (tgt := 231) hx hb dX13_mechanism_217 (by decide) ?_
        refine lv_istore (lv' := [(5, .int (-1)), (0, .ref (adr E 20 0)), (1, .int x1), (4, .int x4)]) hx hb dX13_mechanism_231 hl (by decide) rfl (fun ls hl => ?_)
        refine lv_aload_n hx hb dX13_mechanism_233 rfl (lv_at hl 1 rfl) ?_
        refine lv_iload hx hb dX13_mechanism_234 (lv_at hl 3 rfl) ?_
        refine lv_aload_n hx hb dX13_mechanism_236 rfl (lv_at hl 1 rfl) ?_
        refine gF_X13_37 rfl hN cx hp dX13_mechanism_237 ?_
        refine lv_iload hx hb dX13_mechanism_240 (lv_at hl 3 rfl) ?_
        obtain ⟨g_i, hf⟩ := fg hf
        refine lA_X13_9 e20 hN cx hp g_i dX13_mechanism_242 ?_
        obtain ⟨ρ33, hc, hf⟩ := fb hf
        refine x_v hp (y_V (As := [.int x4, .int (ρ.1 9 (Int32.toNatClampNeg x4))]) (rest := []) cx hp hl (c_X13_give l hN hT e20 hc) (cw_X13_148 cx (mc := 0) (ms := 0) rfl rfl ⟨by decide, by decide⟩) (rC_X13 hN cx hp) rfl rfl (Nat.le_of_ble_eq_true rfl) dX13_mechanism_243 ⟨Nat.zero_le _, Nat.zero_le _⟩) (fun u_c H locs hq hp => ?_)
        obtain ⟨e_0, n_u⟩ := hq
        have e20 := e_0
        have fr : ∀ q, q ≠ 20 → u_c q = σ q := fun q h0 => (n_u q h0).trans (fr q h0)
        obtain ⟨u, rfl⟩ : ∃ z, u_c = z := ⟨_, rfl⟩
        refine lv_iload hx hb dX13_mechanism_246 (lv_at hl 0 rfl) ?_
        refine lv_istore (lv' := [(4, .int (-1)), (5, .int (-1)), (0, .ref (adr E 20 0)), (1, .int x1)]) hx hb dX13_mechanism_248 hl (by decide) rfl (fun ls hl => ?_)
        refine lv_goto (tgt := 204) hx hb dX13_mechanism_250 (by decide) ?_
        exact ih  hf e20 fr hp (lv_sub hl [2, 3, 0] rfl)
set_option maxRecDepth 100000 in
set_option maxHeartbeats 4000000 in
theorem L_X13_mechanism_73 {p : Program} {e : Env} {s : State} {m : MethodId} {args : Array Value} {below : List Frame} {meth : Method} {c : Code} (l : Launch) {E : Ev} (hN : 151 ≤ eN E) (hT : St E) {σ : SM} (cx : Cx E p s m meth c args RX13 cX13_mechanism 6 none) {ρ' : OM} : ∀ (n : Nat) {ρ : OM}, f_X13_mechanism_73  n ρ = some ρ' → ∀ {u : SM} {H : Heap} {locs : List Loc} {ls : Array Slot}, u 20 = ρ → (∀ q, q ≠ 20 → u q = σ q) → Hp E u s H locs → lv_has ls 6 [(0, .ref (adr E 20 0))] → W p l e rm_X13_mechanism s m args below meth c H locs 0 0 (MQ below (va_Qv (fun u => u 20 = ρ' ∧ ∀ q, q ≠ 20 → u q = σ q) (fun u t => Wu E u t) (eA E)) args s 0 0 (eA E)) (F0 m 73 ls []) := by
  have hx := cx.1.1
  have hb := cx.1.2.1
  intro n
  induction n with
  | zero =>
    intro ρ hf
    exact absurd hf (by simp [f_X13_mechanism_73])
  | succ n ih =>
    intro ρ hf u H locs ls e20 fr hp hl
    rw [f_X13_mechanism_73] at hf
    refine lv_aload_n hx hb dX13_mechanism_73 rfl (lv_at hl 0 rfl) ?_
    refine gF_X13_142 e20 hN cx hp dX13_mechanism_74 ?_
    refine lv_if_le (tgt := 256) hx hb dX13_mechanism_77 (by decide) (fun c10 => ?_) (fun c10 => ?_)
    · have hf := fp hf c10
      cases hf
      exact r_v cx hp ⟨e20, fr⟩ dX13_mechanism_256
    · have hf := fn hf c10
      refine lv_aload_n hx hb dX13_mechanism_80 rfl (lv_at hl 0 rfl) ?_
      refine gF_X13_34 rfl hN cx hp dX13_mechanism_81 ?_
      refine lv_iconst (v := 0) hx hb dX13_mechanism_84 (by decide) ?_
      obtain ⟨g_i, hf⟩ := fg hf
      refine lA_X13_8 e20 hN cx hp g_i dX13_mechanism_85 ?_
      obtain ⟨i11, x_e, hf⟩ := fl hf
      refine lv_nm x_e ?_
      refine lv_istore_n (lv' := [(1, .int i11), (0, .ref (adr E 20 0))]) hx hb dX13_mechanism_86 rfl hl (by decide) rfl (fun ls hl => ?_)
      refine lv_iconst (v := (-1)) hx hb dX13_mechanism_87 (by decide) ?_
      refine lv_istore_n (lv' := [(2, .int (-1)), (1, .int i11), (0, .ref (adr E 20 0))]) hx hb dX13_mechanism_88 rfl hl (by decide) rfl (fun ls hl => ?_)
      refine lv_aload_n hx hb dX13_mechanism_89 rfl (lv_at hl 2 rfl) ?_
      refine gF_X13_28 rfl hN cx hp dX13_mechanism_90 ?_
      refine lv_iload_n hx hb dX13_mechanism_93 rfl (lv_at hl 1 rfl) ?_
      obtain ⟨g_i, hf⟩ := fg hf
      refine lA_X13_6 e20 hN cx hp g_i dX13_mechanism_94 ?_
      refine lv_iconst (v := 1) hx hb dX13_mechanism_95 (by decide) ?_
      refine lv_isub hx hb dX13_mechanism_96 ?_
      obtain ⟨i12, x_e, hf⟩ := fl hf
      refine lv_nm x_e ?_
      refine lv_istore_n (lv' := [(3, .int i12), (2, .int (-1)), (1, .int i11), (0, .ref (adr E 20 0))]) hx hb dX13_mechanism_97 rfl hl (by decide) rfl (fun ls hl => ?_)
      obtain ⟨i18, hc, hf⟩ := fb hf
      refine L_X13_mechanism_98 l hN hT cx  (fun u H locs ls e20 fr hp hl => ?_) _ hc e20 fr hp (lv_sub hl [3, 2, 1, 0] rfl)
      refine lv_aload_n hx hb dX13_mechanism_133 rfl (lv_at hl 0 rfl) ?_
      refine gF_X13_37 rfl hN cx hp dX13_mechanism_134 ?_
      refine lv_iload_n hx hb dX13_mechanism_137 rfl (lv_at hl 1 rfl) ?_
      refine lv_iload_n hx hb dX13_mechanism_138 rfl (lv_at hl 2 rfl) ?_
      obtain ⟨g_i, hf⟩ := fg hf
      obtain ⟨ρ19, e_l, hf⟩ := fl hf
      refine sA_X13_9 e20 hN cx hp g_i dX13_mechanism_139 (fun u H locs e_u n_u hp => ?_)
      have e20 := e_u.trans e_l
      have fr : ∀ q, q ≠ 20 → u q = σ q := fun q h0 => (n_u q h0).trans (fr q h0)
      refine lv_iload_n hx hb dX13_mechanism_140 rfl (lv_at hl 2 rfl) ?_
      refine lv_iconst (v := (-1)) hx hb dX13_mechanism_141 (by decide) ?_
      refine lv_icmp_ne (tgt := 149) hx hb dX13_mechanism_142 (by decide) (fun c20 => ?_) (fun c20 => ?_)
      · have hf := fn hf c20
        refine lv_aload_n hx hb dX13_mechanism_149 rfl (lv_at hl 0 rfl) ?_
        refine lv_iload_n hx hb dX13_mechanism_150 rfl (lv_at hl 2 rfl) ?_
        obtain ⟨r21, hc, hf⟩ := fb hf
        refine x_i hp (y_V (As := [.int i18]) (rest := []) cx hp hl (c_X13_tenant l hN hT e20 hc) (cw_X13_119 cx (mc := 0) (ms := 0) rfl rfl ⟨by decide, by decide⟩) (rC_X13 hN cx hp) rfl rfl (Nat.le_of_ble_eq_true rfl) dX13_mechanism_151 ⟨Nat.zero_le _, Nat.zero_le _⟩) (fun r_c u_c H locs hq hp => ?_)
        obtain ⟨rfl, rfl⟩ := hq
        refine lv_istore_n (lv' := [(3, .int r21), (0, .ref (adr E 20 0)), (1, .int i11), (2, .int i18)]) hx hb dX13_mechanism_154 rfl hl (by decide) rfl (fun ls hl => ?_)
        refine lv_iload_n hx hb dX13_mechanism_155 rfl (lv_at hl 0 rfl) ?_
        refine lv_iconst (v := (-1)) hx hb dX13_mechanism_156 (by decide) ?_
        refine lv_icmp_eq (tgt := 174) hx hb dX13_mechanism_157 (by decide) (fun c22 => ?_) (fun c22 => ?_)
        · have hf := fp hf c22
          refine lv_aload_n hx hb dX13_mechanism_174 rfl (lv_at hl 1 rfl) ?_
          refine lv_iload_n hx hb dX13_mechanism_175 rfl (lv_at hl 2 rfl) ?_
          refine lv_iload_n hx hb dX13_mechanism_176 rfl (lv_at hl 3 rfl) ?_
          obtain ⟨ρ23, hc, hf⟩ := fb hf
          refine x_v hp (y_V (As := [.int i11, .int i18]) (rest := []) cx hp hl (c_X13_give l hN hT e20 hc) (cw_X13_148 cx (mc := 0) (ms := 0) rfl rfl ⟨by decide, by decide⟩) (rC_X13 hN cx hp) rfl rfl (Nat.le_of_ble_eq_true rfl) dX13_mechanism_177 ⟨Nat.zero_le _, Nat.zero_le _⟩) (fun u_c H locs hq hp => ?_)
          obtain ⟨e_0, n_u⟩ := hq
          have e20 := e_0
          have fr : ∀ q, q ≠ 20 → u_c q = σ q := fun q h0 => (n_u q h0).trans (fr q h0)
          obtain ⟨u, rfl⟩ : ∃ z, u_c = z := ⟨_, rfl⟩
          refine lv_goto (tgt := 253) hx hb dX13_mechanism_180 (by decide) ?_
          refine lv_goto (tgt := 73) hx hb dX13_mechanism_253 (by decide) ?_
          exact ih  hf e20 fr hp (lv_sub hl [1] rfl)
        · have hf := fn hf c22
          refine lv_iload_n hx hb dX13_mechanism_160 rfl (lv_at hl 0 rfl) ?_
          refine lv_iload_n hx hb dX13_mechanism_161 rfl (lv_at hl 2 rfl) ?_
          refine lv_icmp_eq (tgt := 174) hx hb dX13_mechanism_162 (by decide) (fun c24 => ?_) (fun c24 => ?_)
          · have hf := fp hf c24
            refine lv_aload_n hx hb dX13_mechanism_174 rfl (lv_at hl 1 rfl) ?_
            refine lv_iload_n hx hb dX13_mechanism_175 rfl (lv_at hl 2 rfl) ?_
            refine lv_iload_n hx hb dX13_mechanism_176 rfl (lv_at hl 3 rfl) ?_
            obtain ⟨ρ25, hc, hf⟩ := fb hf
            refine x_v hp (y_V (As := [.int i11, .int i18]) (rest := []) cx hp hl (c_X13_give l hN hT e20 hc) (cw_X13_148 cx (mc := 0) (ms := 0) rfl rfl ⟨by decide, by decide⟩) (rC_X13 hN cx hp) rfl rfl (Nat.le_of_ble_eq_true rfl) dX13_mechanism_177 ⟨Nat.zero_le _, Nat.zero_le _⟩) (fun u_c H locs hq hp => ?_)
            obtain ⟨e_0, n_u⟩ := hq
            have e20 := e_0
            have fr : ∀ q, q ≠ 20 → u_c q = σ q := fun q h0 => (n_u q h0).trans (fr q h0)
            obtain ⟨u, rfl⟩ : ∃ z, u_c = z := ⟨_, rfl⟩
            refine lv_goto (tgt := 253) hx hb dX13_mechanism_180 (by decide) ?_
            refine lv_goto (tgt := 73) hx hb dX13_mechanism_253 (by decide) ?_
            exact ih  hf e20 fr hp (lv_sub hl [1] rfl)
          · have hf := fn hf c24
            refine lv_aload_n hx hb dX13_mechanism_165 rfl (lv_at hl 1 rfl) ?_
            refine lv_iload_n hx hb dX13_mechanism_166 rfl (lv_at hl 0 rfl) ?_
            obtain ⟨r26, hc, hf⟩ := fb hf
            refine x_i hp (y_V (As := [.int r21]) (rest := []) cx hp hl (c_X13_where l hN hT e20 hc) (cw_X13_145 cx (mc := 0) (ms := 0) rfl rfl ⟨by decide, by decide⟩) (rC_X13 hN cx hp) rfl rfl (Nat.le_of_ble_eq_true rfl) dX13_mechanism_167 ⟨Nat.zero_le _, Nat.zero_le _⟩) (fun r_c u_c H locs hq hp => ?_)
            obtain ⟨rfl, rfl⟩ := hq
            refine lv_iconst (v := (-1)) hx hb dX13_mechanism_170 (by decide) ?_
            refine lv_icmp_ne (tgt := 183) hx hb dX13_mechanism_171 (by decide) (fun c27 => ?_) (fun c27 => ?_)
            · have hf := fn hf c27
              refine lv_aload_n hx hb dX13_mechanism_183 rfl (lv_at hl 1 rfl) ?_
              refine gF_X13_37 rfl hN cx hp dX13_mechanism_184 ?_
              refine lv_iload_n hx hb dX13_mechanism_187 rfl (lv_at hl 0 rfl) ?_
              obtain ⟨g_i, hf⟩ := fg hf
              refine lA_X13_9 e20 hN cx hp g_i dX13_mechanism_188 ?_
              refine lv_iconst (v := (-1)) hx hb dX13_mechanism_189 (by decide) ?_
              refine lv_icmp_ne (tgt := 201) hx hb dX13_mechanism_190 (by decide) (fun c28 => ?_) (fun c28 => ?_)
              · have hf := fn hf c28
                refine lv_iload_n hx hb dX13_mechanism_201 rfl (lv_at hl 0 rfl) ?_
                refine lv_istore (lv' := [(4, .int r21), (3, .int r21), (0, .ref (adr E 20 0)), (1, .int i11), (2, .int i18)]) hx hb dX13_mechanism_202 hl (by decide) rfl (fun ls hl => ?_)
                obtain ⟨ρ34, hc, hf⟩ := fb hf
                refine L_X13_mechanism_204 l hN hT cx  (fun u H locs ls e20 fr hp hl => ?_) _ hc e20 fr hp (lv_sub hl [2, 3, 0] rfl)
                refine lv_goto (tgt := 73) hx hb dX13_mechanism_253 (by decide) ?_
                exact ih  hf e20 fr hp (lv_sub hl [0] rfl)
              · have hf := fp hf c28
                refine lv_aload_n hx hb dX13_mechanism_193 rfl (lv_at hl 1 rfl) ?_
                refine lv_iload_n hx hb dX13_mechanism_194 rfl (lv_at hl 0 rfl) ?_
                obtain ⟨ρ35, hc, hf⟩ := fb hf
                refine x_v hp (y_V (As := [.int r21]) (rest := []) cx hp hl (c_X13_front l hN hT e20 hc) (cw_X13_151 cx (mc := 0) (ms := 0) rfl rfl ⟨by decide, by decide⟩) (rC_X13 hN cx hp) rfl rfl (Nat.le_of_ble_eq_true rfl) dX13_mechanism_195 ⟨Nat.zero_le _, Nat.zero_le _⟩) (fun u_c H locs hq hp => ?_)
                obtain ⟨e_0, n_u⟩ := hq
                have e20 := e_0
                have fr : ∀ q, q ≠ 20 → u_c q = σ q := fun q h0 => (n_u q h0).trans (fr q h0)
                obtain ⟨u, rfl⟩ : ∃ z, u_c = z := ⟨_, rfl⟩
                refine lv_goto (tgt := 253) hx hb dX13_mechanism_198 (by decide) ?_
                refine lv_goto (tgt := 73) hx hb dX13_mechanism_253 (by decide) ?_
                exact ih  hf e20 fr hp (lv_sub hl [1] rfl)
            · have hf := fp hf c27
              refine lv_aload_n hx hb dX13_mechanism_174 rfl (lv_at hl 1 rfl) ?_
              refine lv_iload_n hx hb dX13_mechanism_175 rfl (lv_at hl 2 rfl) ?_
              refine lv_iload_n hx hb dX13_mechanism_176 rfl (lv_at hl 3 rfl) ?_
              obtain ⟨ρ36, hc, hf⟩ := fb hf
              refine x_v hp (y_V (As := [.int i11, .int i18]) (rest := []) cx hp hl (c_X13_give l hN hT e20 hc) (cw_X13_148 cx (mc := 0) (ms := 0) rfl rfl ⟨by decide, by decide⟩) (rC_X13 hN cx hp) rfl rfl (Nat.le_of_ble_eq_true rfl) dX13_mechanism_177 ⟨Nat.zero_le _, Nat.zero_le _⟩) (fun u_c H locs hq hp => ?_)
              obtain ⟨e_0, n_u⟩ := hq
              have e20 := e_0
              have fr : ∀ q, q ≠ 20 → u_c q = σ q := fun q h0 => (n_u q h0).trans (fr q h0)
              obtain ⟨u, rfl⟩ : ∃ z, u_c = z := ⟨_, rfl⟩
              refine lv_goto (tgt := 253) hx hb dX13_mechanism_180 (by decide) ?_
              refine lv_goto (tgt := 73) hx hb dX13_mechanism_253 (by decide) ?_
              exact ih  hf e20 fr hp (lv_sub hl [1] rfl)
      · have hf := fp hf c20
        refine lv_iconst (v := (-1)) hx hb dX13_mechanism_145 (by decide) ?_
        refine lv_goto (tgt := 154) hx hb dX13_mechanism_146 (by decide) ?_
        refine lv_istore_n (lv' := [(3, .int (-1)), (0, .ref (adr E 20 0)), (1, .int i11), (2, .int i18)]) hx hb dX13_mechanism_154 rfl hl (by decide) rfl (fun ls hl => ?_)
        refine lv_iload_n hx hb dX13_mechanism_155 rfl (lv_at hl 0 rfl) ?_
        refine lv_iconst (v := (-1)) hx hb dX13_mechanism_156 (by decide) ?_
        refine lv_icmp_eq (tgt := 174) hx hb dX13_mechanism_157 (by decide) (fun _ => ?_) (fun c_x => absurd (by decide) c_x)
        refine lv_aload_n hx hb dX13_mechanism_174 rfl (lv_at hl 1 rfl) ?_
        refine lv_iload_n hx hb dX13_mechanism_175 rfl (lv_at hl 2 rfl) ?_
        refine lv_iload_n hx hb dX13_mechanism_176 rfl (lv_at hl 3 rfl) ?_
        obtain ⟨ρ38, hc, hf⟩ := fb hf
        refine x_v hp (y_V (As := [.int i11, .int i18]) (rest := []) cx hp hl (c_X13_give l hN hT e20 hc) (cw_X13_148 cx (mc := 0) (ms := 0) rfl rfl ⟨by decide, by decide⟩) (rC_X13 hN cx hp) rfl rfl (Nat.le_of_ble_eq_true rfl) dX13_mechanism_177 ⟨Nat.zero_le _, Nat.zero_le _⟩) (fun u_c H locs hq hp => ?_)
        obtain ⟨e_0, n_u⟩ := hq
        have e20 := e_0
        have fr : ∀ q, q ≠ 20 → u_c q = σ q := fun q h0 => (n_u q h0).trans (fr q h0)
        obtain ⟨u, rfl⟩ : ∃ z, u_c = z := ⟨_, rfl⟩
        refine lv_goto (tgt := 253) hx hb dX13_mechanism_180 (by decide) ?_
        refine lv_goto (tgt := 73) hx hb dX13_mechanism_253 (by decide) ?_
        exact ih  hf e20 fr hp (lv_sub hl [1] rfl)
set_option maxRecDepth 100000 in
set_option maxHeartbeats 4000000 in
theorem c_X13_mechanism (l : Launch) {E : Ev} (hN : 151 ≤ eN E) (hT : St E) {σ : SM} {ρ : OM} (e20 : σ 20 = ρ)  {ρ' : OM} (hf : f_X13_mechanism ρ = some ρ') : Met l yX13_mechanism (wC yX13_mechanism cX13_mechanism 6 none) rm_X13_mechanism (va_Pc [.ref (adr E 20 0)] (Wu E σ)) (va_Qv (fun u => u 20 = ρ' ∧ ∀ q, q ≠ 20 → u q = σ q) (fun u t => Wu E u t) (eA E)) 0 0 (eA E) := by
  refine g_entry (lv := [(0, .ref (adr E 20 0))]) (by decide) (Nat.le_of_ble_eq_true rfl) rfl ?_
  intro p e s m below meth c cx hp ls hl
  have hx := cx.1.1
  have hb := cx.1.2.1
  have fr : ∀ q, q ≠ 20 → σ q = σ q := fun _ _ => rfl
  unfold f_X13_mechanism at hf
  refine lv_aload_n hx hb dX13_mechanism_0 rfl (lv_at hl 0 rfl) ?_
  refine lv_aload_n hx hb dX13_mechanism_1 rfl (lv_at hl 0 rfl) ?_
  refine gF_X13_98 e20 hN cx hp dX13_mechanism_2 ?_
  obtain ⟨ρ1, e_l, hf⟩ := fl hf
  refine pF_X13_142 e20 hN cx hp dX13_mechanism_5 (fun u H locs e_u n_u hp => ?_)
  have e20 := e_u.trans e_l
  have fr : ∀ q, q ≠ 20 → u q = σ q := fun q h0 => (n_u q h0).trans (fr q h0)
  refine lv_iconst (v := 0) hx hb dX13_mechanism_8 (by decide) ?_
  refine lv_istore_n (lv' := [(1, .int 0), (0, .ref (adr E 20 0))]) hx hb dX13_mechanism_9 rfl hl (by decide) rfl (fun ls hl => ?_)
  obtain ⟨ρ6, hc, hf⟩ := fb hf
  refine L_X13_mechanism_10 l hN hT cx  (fun u H locs ls e20 fr hp hl => ?_) _ hc e20 fr hp (lv_sub hl [1, 0] rfl)
  refine lv_iconst (v := 0) hx hb dX13_mechanism_50 (by decide) ?_
  refine lv_istore_n (lv' := [(1, .int 0), (0, .ref (adr E 20 0))]) hx hb dX13_mechanism_51 rfl hl (by decide) rfl (fun ls hl => ?_)
  obtain ⟨ρ9, hc, hf⟩ := fb hf
  refine L_X13_mechanism_52 l hN hT cx  (fun u H locs ls e20 fr hp hl => ?_) _ hc e20 fr hp (lv_sub hl [1, 0] rfl)
  exact L_X13_mechanism_73 l hN hT cx  _ hf e20 fr hp (lv_sub hl [0] rfl)
abbrev rm_X13_isSame : Room := { frames := 3, cells := 0, slots := 0, locals := 65 }
set_option maxRecDepth 100000 in
set_option maxHeartbeats 4000000 in
theorem L_X13_isSame_105 {p : Program} {e : Env} {s : State} {m : MethodId} {args : Array Value} {below : List Frame} {meth : Method} {c : Code} (l : Launch) {E : Ev} (hN : 151 ≤ eN E) (hT : St E) {σ : SM} {Q : State → Prop} (cx : Cx E p s m meth c args RX13 cX13_isSame 4 (some .boolean)) {x2 : Int32} (K : ∀ (H : Heap) (locs : List Loc) (ls : Array Slot), Hp E σ s H locs → lv_has ls 4 [(0, .ref (adr E 20 0)), (1, .ref (adr E 19 0)), (2, .int x2)] → W p l e rm_X13_isSame s m args below meth c H locs 0 0 Q (F0 m 140 ls [])) : ∀ (n : Nat) {x3 : Int32}, f_X13_isSame_105 x2 σ n x3 = some () → ∀ {H : Heap} {locs : List Loc} {ls : Array Slot}, Hp E σ s H locs → lv_has ls 4 [(0, .ref (adr E 20 0)), (1, .ref (adr E 19 0)), (2, .int x2), (3, .int x3)] → W p l e rm_X13_isSame s m args below meth c H locs 0 0 Q (F0 m 105 ls []) := by
  have hx := cx.1.1
  have hb := cx.1.2.1
  intro n
  induction n with
  | zero =>
    intro x3 hf
    exact absurd hf (by simp [f_X13_isSame_105])
  | succ n ih =>
    intro x3 hf H locs ls hp hl
    rw [f_X13_isSame_105] at hf
    refine lv_iload_n hx hb dX13_isSame_105 rfl (lv_at hl 3 rfl) ?_
    refine lv_aload_n hx hb dX13_isSame_106 rfl (lv_at hl 0 rfl) ?_
    refine gF_X13_28 rfl hN cx hp dX13_isSame_107 ?_
    refine lv_iload_n hx hb dX13_isSame_110 rfl (lv_at hl 2 rfl) ?_
    obtain ⟨g_i, hf⟩ := fg hf
    refine lA_X13_6 rfl hN cx hp g_i dX13_isSame_111 ?_
    refine lv_icmp_ge (tgt := 140) hx hb dX13_isSame_112 (by decide) (fun c16 => ?_) (fun c16 => ?_)
    · have hf := fp hf c16
      cases hf
      exact K _ _ _  hp (lv_sub hl [0, 1, 2] rfl)
    · have hf := fn hf c16
      refine lv_aload_n hx hb dX13_isSame_115 rfl (lv_at hl 1 rfl) ?_
      refine lv_iload_n hx hb dX13_isSame_116 rfl (lv_at hl 2 rfl) ?_
      refine lv_iload_n hx hb dX13_isSame_117 rfl (lv_at hl 3 rfl) ?_
      obtain ⟨r17, hc, hf⟩ := fb hf
      refine x_i hp (y_V (As := [.int x2, .int x3]) (rest := []) cx hp hl (c_X12_preferenceAt l (Nat.le_trans (by decide) hN) hT  hc) (cw_X13_177 cx (mc := 0) (ms := 0) rfl rfl ⟨by decide, by decide⟩) (rC_X12 (Nat.le_trans (by decide) hN) cx hp) rfl rfl (Nat.le_of_ble_eq_true rfl) dX13_isSame_118 ⟨Nat.zero_le _, Nat.zero_le _⟩) (fun r_c u_c H locs hq hp => ?_)
      obtain ⟨rfl, rfl⟩ := hq
      refine lv_aload_n hx hb dX13_isSame_121 rfl (lv_at hl 0 rfl) ?_
      refine gF_X13_45 rfl hN cx hp dX13_isSame_122 ?_
      refine lv_iload_n hx hb dX13_isSame_125 rfl (lv_at hl 2 rfl) ?_
      obtain ⟨g_r18, hf⟩ := fg hf
      refine lA_X13_11 hN cx hp g_r18 dX13_isSame_126 ?_
      refine lv_iload_n hx hb dX13_isSame_127 rfl (lv_at hl 3 rfl) ?_
      obtain ⟨g_i, hf⟩ := fg hf
      refine lA_X13_r (inb_lt g_r18) rfl hN cx hp g_i dX13_isSame_128 ?_
      refine lv_icmp_eq (tgt := 134) hx hb dX13_isSame_129 (by decide) (fun c19 => ?_) (fun c19 => ?_)
      · have hf := fp hf c19
        refine lv_iinc (v := (x3 + 1)) (lv' := [(3, .int (x3 + 1)), (0, .ref (adr E 20 0)), (1, .ref (adr E 19 0)), (2, .int x2)]) hx hb dX13_isSame_134 hl (k := 3) rfl rfl (by decide) rfl (fun ls hl => ?_)
        refine lv_goto (tgt := 105) hx hb dX13_isSame_137 (by decide) ?_
        exact ih  hf hp (lv_sub hl [1, 2, 3, 0] rfl)
      · have hf := fn hf c19
        cases hf
set_option maxRecDepth 100000 in
set_option maxHeartbeats 4000000 in
theorem L_X13_isSame_37 {p : Program} {e : Env} {s : State} {m : MethodId} {args : Array Value} {below : List Frame} {meth : Method} {c : Code} (l : Launch) {E : Ev} (hN : 151 ≤ eN E) (hT : St E) {σ : SM} {Q : State → Prop} (cx : Cx E p s m meth c args RX13 cX13_isSame 4 (some .boolean)) (K : ∀ (H : Heap) (locs : List Loc) (ls : Array Slot), Hp E σ s H locs → lv_has ls 4 [(0, .ref (adr E 20 0)), (1, .ref (adr E 19 0))] → W p l e rm_X13_isSame s m args below meth c H locs 0 0 Q (F0 m 146 ls [])) : ∀ (n : Nat) {x2 : Int32}, f_X13_isSame_37 σ n x2 = some () → ∀ {H : Heap} {locs : List Loc} {ls : Array Slot}, Hp E σ s H locs → lv_has ls 4 [(0, .ref (adr E 20 0)), (1, .ref (adr E 19 0)), (2, .int x2)] → W p l e rm_X13_isSame s m args below meth c H locs 0 0 Q (F0 m 37 ls []) := by
  have hx := cx.1.1
  have hb := cx.1.2.1
  intro n
  induction n with
  | zero =>
    intro x2 hf
    exact absurd hf (by simp [f_X13_isSame_37])
  | succ n ih =>
    intro x2 hf H locs ls hp hl
    rw [f_X13_isSame_37] at hf
    refine lv_iload_n hx hb dX13_isSame_37 rfl (lv_at hl 2 rfl) ?_
    refine lv_aload_n hx hb dX13_isSame_38 rfl (lv_at hl 0 rfl) ?_
    refine gF_X13_98 rfl hN cx hp dX13_isSame_39 ?_
    refine lv_icmp_ge (tgt := 146) hx hb dX13_isSame_42 (by decide) (fun c7 => ?_) (fun c7 => ?_)
    · have hf := fp hf c7
      cases hf
      exact K _ _ _  hp (lv_sub hl [0, 1] rfl)
    · have hf := fn hf c7
      refine lv_aload_n hx hb dX13_isSame_45 rfl (lv_at hl 1 rfl) ?_
      refine lv_iload_n hx hb dX13_isSame_46 rfl (lv_at hl 2 rfl) ?_
      obtain ⟨r8, hc, hf⟩ := fb hf
      refine x_i hp (y_V (As := [.int x2]) (rest := []) cx hp hl (c_X12_balance l (Nat.le_trans (by decide) hN) hT  hc) (cw_X13_165 cx (mc := 0) (ms := 0) rfl rfl ⟨by decide, by decide⟩) (rC_X12 (Nat.le_trans (by decide) hN) cx hp) rfl rfl (Nat.le_of_ble_eq_true rfl) dX13_isSame_47 ⟨Nat.zero_le _, Nat.zero_le _⟩) (fun r_c u_c H locs hq hp => ?_)
      obtain ⟨rfl, rfl⟩ := hq
      refine lv_aload_n hx hb dX13_isSame_50 rfl (lv_at hl 0 rfl) ?_
      refine gF_X13_19 rfl hN cx hp dX13_isSame_51 ?_
      refine lv_iload_n hx hb dX13_isSame_54 rfl (lv_at hl 2 rfl) ?_
      obtain ⟨g_i, hf⟩ := fg hf
      refine lA_X13_3 rfl hN cx hp g_i dX13_isSame_55 ?_
      refine lv_icmp_ne (tgt := 101) hx hb dX13_isSame_56 (by decide) (fun c9 => ?_) (fun c9 => ?_)
      · have hf := fn hf c9
        cases hf
      · have hf := fp hf c9
        refine lv_aload_n hx hb dX13_isSame_59 rfl (lv_at hl 1 rfl) ?_
        refine lv_iload_n hx hb dX13_isSame_60 rfl (lv_at hl 2 rfl) ?_
        obtain ⟨r10, hc, hf⟩ := fb hf
        refine x_i hp (y_V (As := [.int x2]) (rest := []) cx hp hl (c_X12_stallOf l (Nat.le_trans (by decide) hN) hT  hc) (cw_X13_168 cx (mc := 0) (ms := 0) rfl rfl ⟨by decide, by decide⟩) (rC_X12 (Nat.le_trans (by decide) hN) cx hp) rfl rfl (Nat.le_of_ble_eq_true rfl) dX13_isSame_61 ⟨Nat.zero_le _, Nat.zero_le _⟩) (fun r_c u_c H locs hq hp => ?_)
        obtain ⟨rfl, rfl⟩ := hq
        refine lv_aload_n hx hb dX13_isSame_64 rfl (lv_at hl 0 rfl) ?_
        refine gF_X13_25 rfl hN cx hp dX13_isSame_65 ?_
        refine lv_iload_n hx hb dX13_isSame_68 rfl (lv_at hl 2 rfl) ?_
        obtain ⟨g_i, hf⟩ := fg hf
        refine lA_X13_5 rfl hN cx hp g_i dX13_isSame_69 ?_
        refine lv_icmp_ne (tgt := 101) hx hb dX13_isSame_70 (by decide) (fun c11 => ?_) (fun c11 => ?_)
        · have hf := fn hf c11
          cases hf
        · have hf := fp hf c11
          refine lv_aload_n hx hb dX13_isSame_73 rfl (lv_at hl 1 rfl) ?_
          refine lv_iload_n hx hb dX13_isSame_74 rfl (lv_at hl 2 rfl) ?_
          obtain ⟨r12, hc, hf⟩ := fb hf
          refine x_i hp (y_V (As := [.int x2]) (rest := []) cx hp hl (c_X12_preferenceCount l (Nat.le_trans (by decide) hN) hT  hc) (cw_X13_171 cx (mc := 0) (ms := 0) rfl rfl ⟨by decide, by decide⟩) (rC_X12 (Nat.le_trans (by decide) hN) cx hp) rfl rfl (Nat.le_of_ble_eq_true rfl) dX13_isSame_75 ⟨Nat.zero_le _, Nat.zero_le _⟩) (fun r_c u_c H locs hq hp => ?_)
          obtain ⟨rfl, rfl⟩ := hq
          refine lv_aload_n hx hb dX13_isSame_78 rfl (lv_at hl 0 rfl) ?_
          refine gF_X13_28 rfl hN cx hp dX13_isSame_79 ?_
          refine lv_iload_n hx hb dX13_isSame_82 rfl (lv_at hl 2 rfl) ?_
          obtain ⟨g_i, hf⟩ := fg hf
          refine lA_X13_6 rfl hN cx hp g_i dX13_isSame_83 ?_
          refine lv_icmp_ne (tgt := 101) hx hb dX13_isSame_84 (by decide) (fun c13 => ?_) (fun c13 => ?_)
          · have hf := fn hf c13
            cases hf
          · have hf := fp hf c13
            refine lv_aload_n hx hb dX13_isSame_87 rfl (lv_at hl 1 rfl) ?_
            refine lv_aload_n hx hb dX13_isSame_88 rfl (lv_at hl 0 rfl) ?_
            refine gF_X13_31 rfl hN cx hp dX13_isSame_89 ?_
            refine lv_iload_n hx hb dX13_isSame_92 rfl (lv_at hl 2 rfl) ?_
            obtain ⟨g_i, hf⟩ := fg hf
            refine lA_X13_7 rfl hN cx hp g_i dX13_isSame_93 ?_
            obtain ⟨r14, hc, hf⟩ := fb hf
            refine x_i hp (y_V (As := [.int ((σ 20).1 7 (Int32.toNatClampNeg x2))]) (rest := []) cx hp hl (c_X12_priorityOf l (Nat.le_trans (by decide) hN) hT  hc) (cw_X13_174 cx (mc := 0) (ms := 0) rfl rfl ⟨by decide, by decide⟩) (rC_X12 (Nat.le_trans (by decide) hN) cx hp) rfl rfl (Nat.le_of_ble_eq_true rfl) dX13_isSame_94 ⟨Nat.zero_le _, Nat.zero_le _⟩) (fun r_c u_c H locs hq hp => ?_)
            obtain ⟨rfl, rfl⟩ := hq
            refine lv_iload_n hx hb dX13_isSame_97 rfl (lv_at hl 2 rfl) ?_
            refine lv_icmp_eq (tgt := 103) hx hb dX13_isSame_98 (by decide) (fun c15 => ?_) (fun c15 => ?_)
            · have hf := fp hf c15
              refine lv_iconst (v := 0) hx hb dX13_isSame_103 (by decide) ?_
              refine lv_istore_n (lv' := [(3, .int 0), (0, .ref (adr E 20 0)), (1, .ref (adr E 19 0)), (2, .int x2)]) hx hb dX13_isSame_104 rfl hl (by decide) rfl (fun ls hl => ?_)
              obtain ⟨_, hc, hf⟩ := fb hf
              refine L_X13_isSame_105 l hN hT cx  (fun H locs ls hp hl => ?_) _ hc hp (lv_sub hl [1, 2, 3, 0] rfl)
              refine lv_iinc (v := (x2 + 1)) (lv' := [(2, .int (x2 + 1)), (0, .ref (adr E 20 0)), (1, .ref (adr E 19 0))]) hx hb dX13_isSame_140 hl (k := 2) rfl rfl (by decide) rfl (fun ls hl => ?_)
              refine lv_goto (tgt := 37) hx hb dX13_isSame_143 (by decide) ?_
              exact ih  hf hp (lv_sub hl [1, 2, 0] rfl)
            · have hf := fn hf c15
              cases hf
set_option maxRecDepth 100000 in
set_option maxHeartbeats 4000000 in
theorem L_X13_isSame_148 {p : Program} {e : Env} {s : State} {m : MethodId} {args : Array Value} {below : List Frame} {meth : Method} {c : Code} (l : Launch) {E : Ev} (hN : 151 ≤ eN E) (hT : St E) {σ : SM} (cx : Cx E p s m meth c args RX13 cX13_isSame 4 (some .boolean)) {rv : Int32} : ∀ (n : Nat) {x2 : Int32}, f_X13_isSame_148 σ n x2 = some rv → ∀ {H : Heap} {locs : List Loc} {ls : Array Slot}, Hp E σ s H locs → lv_has ls 4 [(0, .ref (adr E 20 0)), (1, .ref (adr E 19 0)), (2, .int x2)] → W p l e rm_X13_isSame s m args below meth c H locs 0 0 (MQ below (va_Qi (fun r u => rv = r ∧ σ = u) (fun u t => Wu E u t) (eA E)) args s 0 0 (eA E)) (F0 m 148 ls []) := by
  have hx := cx.1.1
  have hb := cx.1.2.1
  intro n
  induction n with
  | zero =>
    intro x2 hf
    exact absurd hf (by simp [f_X13_isSame_148])
  | succ n ih =>
    intro x2 hf H locs ls hp hl
    rw [f_X13_isSame_148] at hf
    refine lv_iload_n hx hb dX13_isSame_148 rfl (lv_at hl 2 rfl) ?_
    refine lv_aload_n hx hb dX13_isSame_149 rfl (lv_at hl 0 rfl) ?_
    refine gF_X13_95 rfl hN cx hp dX13_isSame_150 ?_
    refine lv_icmp_ge (tgt := 191) hx hb dX13_isSame_153 (by decide) (fun c20 => ?_) (fun c20 => ?_)
    · have hf := fp hf c20
      refine lv_iconst (v := 1) hx hb dX13_isSame_191 (by decide) ?_
      cases hf
      exact r_z cx hp rfl ⟨rfl, rfl⟩ dX13_isSame_192
    · have hf := fn hf c20
      refine lv_aload_n hx hb dX13_isSame_156 rfl (lv_at hl 1 rfl) ?_
      refine lv_iload_n hx hb dX13_isSame_157 rfl (lv_at hl 2 rfl) ?_
      obtain ⟨r21, hc, hf⟩ := fb hf
      refine x_i hp (y_V (As := [.int x2]) (rest := []) cx hp hl (c_X12_rent l (Nat.le_trans (by decide) hN) hT  hc) (cw_X13_180 cx (mc := 0) (ms := 0) rfl rfl ⟨by decide, by decide⟩) (rC_X12 (Nat.le_trans (by decide) hN) cx hp) rfl rfl (Nat.le_of_ble_eq_true rfl) dX13_isSame_158 ⟨Nat.zero_le _, Nat.zero_le _⟩) (fun r_c u_c H locs hq hp => ?_)
      obtain ⟨rfl, rfl⟩ := hq
      refine lv_aload_n hx hb dX13_isSame_161 rfl (lv_at hl 0 rfl) ?_
      refine gF_X13_15 rfl hN cx hp dX13_isSame_162 ?_
      refine lv_iload_n hx hb dX13_isSame_165 rfl (lv_at hl 2 rfl) ?_
      obtain ⟨g_i, hf⟩ := fg hf
      refine lA_X13_2 rfl hN cx hp g_i dX13_isSame_166 ?_
      refine lv_icmp_ne (tgt := 183) hx hb dX13_isSame_167 (by decide) (fun c22 => ?_) (fun c22 => ?_)
      · have hf := fn hf c22
        cases hf
      · have hf := fp hf c22
        refine lv_aload_n hx hb dX13_isSame_170 rfl (lv_at hl 1 rfl) ?_
        refine lv_iload_n hx hb dX13_isSame_171 rfl (lv_at hl 2 rfl) ?_
        obtain ⟨r23, hc, hf⟩ := fb hf
        refine x_i hp (y_V (As := [.int x2]) (rest := []) cx hp hl (c_X12_occupantOf l (Nat.le_trans (by decide) hN) hT  hc) (cw_X13_182 cx (mc := 0) (ms := 0) rfl rfl ⟨by decide, by decide⟩) (rC_X12 (Nat.le_trans (by decide) hN) cx hp) rfl rfl (Nat.le_of_ble_eq_true rfl) dX13_isSame_172 ⟨Nat.zero_le _, Nat.zero_le _⟩) (fun r_c u_c H locs hq hp => ?_)
        obtain ⟨rfl, rfl⟩ := hq
        refine lv_aload_n hx hb dX13_isSame_175 rfl (lv_at hl 0 rfl) ?_
        refine lv_iload_n hx hb dX13_isSame_176 rfl (lv_at hl 2 rfl) ?_
        obtain ⟨r24, hc, hf⟩ := fb hf
        refine x_i hp (y_V (As := [.int x2]) (rest := [.int r23]) cx hp hl (c_X13_tenant l hN hT rfl hc) (cw_X13_119 cx (mc := 0) (ms := 0) rfl rfl ⟨by decide, by decide⟩) (rC_X13 hN cx hp) rfl rfl (Nat.le_of_ble_eq_true rfl) dX13_isSame_177 ⟨Nat.zero_le _, Nat.zero_le _⟩) (fun r_c u_c H locs hq hp => ?_)
        obtain ⟨rfl, rfl⟩ := hq
        refine lv_icmp_eq (tgt := 185) hx hb dX13_isSame_180 (by decide) (fun c25 => ?_) (fun c25 => ?_)
        · have hf := fp hf c25
          refine lv_iinc (v := (x2 + 1)) (lv' := [(2, .int (x2 + 1)), (0, .ref (adr E 20 0)), (1, .ref (adr E 19 0))]) hx hb dX13_isSame_185 hl (k := 2) rfl rfl (by decide) rfl (fun ls hl => ?_)
          refine lv_goto (tgt := 148) hx hb dX13_isSame_188 (by decide) ?_
          exact ih  hf hp (lv_sub hl [1, 2, 0] rfl)
        · have hf := fn hf c25
          cases hf
set_option maxRecDepth 100000 in
set_option maxHeartbeats 4000000 in
theorem c_X13_isSame (l : Launch) {E : Ev} (hN : 151 ≤ eN E) (hT : St E) {σ : SM}  {rv : Int32} (hf : f_X13_isSame σ = some rv) : Met l yX13_isSame (wC yX13_isSame cX13_isSame 4 (some .boolean)) rm_X13_isSame (va_Pc [.ref (adr E 20 0), .ref (adr E 19 0)] (Wu E σ)) (va_Qi (fun r u => rv = r ∧ σ = u) (fun u t => Wu E u t) (eA E)) 0 0 (eA E) := by
  refine g_entry (lv := [(0, .ref (adr E 20 0)), (1, .ref (adr E 19 0))]) (by decide) (Nat.le_of_ble_eq_true rfl) rfl ?_
  intro p e s m below meth c cx hp ls hl
  have hx := cx.1.1
  have hb := cx.1.2.1
  unfold f_X13_isSame at hf
  refine lv_aload_n hx hb dX13_isSame_0 rfl (lv_at hl 1 rfl) ?_
  obtain ⟨r1, hc, hf⟩ := fb hf
  refine x_i hp (y_V (As := []) (rest := []) cx hp hl (c_X12_day l (Nat.le_trans (by decide) hN) hT  hc) (cw_X13_157 cx (mc := 0) (ms := 0) rfl rfl ⟨by decide, by decide⟩) (rC_X12 (Nat.le_trans (by decide) hN) cx hp) rfl rfl (Nat.le_of_ble_eq_true rfl) dX13_isSame_1 ⟨Nat.zero_le _, Nat.zero_le _⟩) (fun r_c u_c H locs hq hp => ?_)
  obtain ⟨rfl, rfl⟩ := hq
  refine lv_aload_n hx hb dX13_isSame_4 rfl (lv_at hl 0 rfl) ?_
  refine gF_X13_89 rfl hN cx hp dX13_isSame_5 ?_
  refine lv_icmp_ne (tgt := 33) hx hb dX13_isSame_8 (by decide) (fun c2 => ?_) (fun c2 => ?_)
  · have hf := fn hf c2
    cases hf
  · have hf := fp hf c2
    refine lv_aload_n hx hb dX13_isSame_11 rfl (lv_at hl 1 rfl) ?_
    obtain ⟨r3, hc, hf⟩ := fb hf
    refine x_i hp (y_V (As := []) (rest := []) cx hp hl (c_X12_sellerCount l (Nat.le_trans (by decide) hN) hT  hc) (cw_X13_159 cx (mc := 0) (ms := 0) rfl rfl ⟨by decide, by decide⟩) (rC_X12 (Nat.le_trans (by decide) hN) cx hp) rfl rfl (Nat.le_of_ble_eq_true rfl) dX13_isSame_12 ⟨Nat.zero_le _, Nat.zero_le _⟩) (fun r_c u_c H locs hq hp => ?_)
    obtain ⟨rfl, rfl⟩ := hq
    refine lv_aload_n hx hb dX13_isSame_15 rfl (lv_at hl 0 rfl) ?_
    refine gF_X13_98 rfl hN cx hp dX13_isSame_16 ?_
    refine lv_icmp_ne (tgt := 33) hx hb dX13_isSame_19 (by decide) (fun c4 => ?_) (fun c4 => ?_)
    · have hf := fn hf c4
      cases hf
    · have hf := fp hf c4
      refine lv_aload_n hx hb dX13_isSame_22 rfl (lv_at hl 1 rfl) ?_
      obtain ⟨r5, hc, hf⟩ := fb hf
      refine x_i hp (y_V (As := []) (rest := []) cx hp hl (c_X12_stallCount l (Nat.le_trans (by decide) hN) hT  hc) (cw_X13_162 cx (mc := 0) (ms := 0) rfl rfl ⟨by decide, by decide⟩) (rC_X12 (Nat.le_trans (by decide) hN) cx hp) rfl rfl (Nat.le_of_ble_eq_true rfl) dX13_isSame_23 ⟨Nat.zero_le _, Nat.zero_le _⟩) (fun r_c u_c H locs hq hp => ?_)
      obtain ⟨rfl, rfl⟩ := hq
      refine lv_aload_n hx hb dX13_isSame_26 rfl (lv_at hl 0 rfl) ?_
      refine gF_X13_95 rfl hN cx hp dX13_isSame_27 ?_
      refine lv_icmp_eq (tgt := 35) hx hb dX13_isSame_30 (by decide) (fun c6 => ?_) (fun c6 => ?_)
      · have hf := fp hf c6
        refine lv_iconst (v := 0) hx hb dX13_isSame_35 (by decide) ?_
        refine lv_istore_n (lv' := [(2, .int 0), (0, .ref (adr E 20 0)), (1, .ref (adr E 19 0))]) hx hb dX13_isSame_36 rfl hl (by decide) rfl (fun ls hl => ?_)
        obtain ⟨_, hc, hf⟩ := fb hf
        refine L_X13_isSame_37 l hN hT cx  (fun H locs ls hp hl => ?_) _ hc hp (lv_sub hl [1, 2, 0] rfl)
        refine lv_iconst (v := 0) hx hb dX13_isSame_146 (by decide) ?_
        refine lv_istore_n (lv' := [(2, .int 0), (0, .ref (adr E 20 0)), (1, .ref (adr E 19 0))]) hx hb dX13_isSame_147 rfl hl (by decide) rfl (fun ls hl => ?_)
        exact L_X13_isSame_148 l hN hT cx  _ hf hp (lv_sub hl [1, 2, 0] rfl)
      · have hf := fn hf c6
        cases hf
abbrev rm_X13_toFront : Room := { frames := 1, cells := 0, slots := 0, locals := 23 }
set_option maxRecDepth 100000 in
set_option maxHeartbeats 4000000 in
theorem L_X13_toFront_24 {p : Program} {e : Env} {s : State} {m : MethodId} {args : Array Value} {below : List Frame} {meth : Method} {c : Code} (l : Launch) {E : Ev} (hN : 151 ≤ eN E) (hT : St E) {σ : SM} (cx : Cx E p s m meth c args RX13 cX13_toFront 4 none) {x1 : Int32} {x2 : Int32} {ρ' : OM} : ∀ (n : Nat) {x3 : Int32} {ρ : OM}, f_X13_toFront_24 x1 x2 n x3 ρ = some ρ' → ∀ {u : SM} {H : Heap} {locs : List Loc} {ls : Array Slot}, u 20 = ρ → (∀ q, q ≠ 20 → u q = σ q) → Hp E u s H locs → lv_has ls 4 [(0, .ref (adr E 20 0)), (1, .int x1), (2, .int x2), (3, .int x3)] → W p l e rm_X13_toFront s m args below meth c H locs 0 0 (MQ below (va_Qv (fun u => u 20 = ρ' ∧ ∀ q, q ≠ 20 → u q = σ q) (fun u t => Wu E u t) (eA E)) args s 0 0 (eA E)) (F0 m 24 ls []) := by
  have hx := cx.1.1
  have hb := cx.1.2.1
  intro n
  induction n with
  | zero =>
    intro x3 ρ hf
    exact absurd hf (by simp [f_X13_toFront_24])
  | succ n ih =>
    intro x3 ρ hf u H locs ls e20 fr hp hl
    rw [f_X13_toFront_24] at hf
    refine lv_iload_n hx hb dX13_toFront_24 rfl (lv_at hl 3 rfl) ?_
    refine lv_if_le (tgt := 52) hx hb dX13_toFront_25 (by decide) (fun c3 => ?_) (fun c3 => ?_)
    · have hf := fp hf c3
      refine lv_aload_n hx hb dX13_toFront_52 rfl (lv_at hl 0 rfl) ?_
      refine gF_X13_45 rfl hN cx hp dX13_toFront_53 ?_
      refine lv_iload_n hx hb dX13_toFront_56 rfl (lv_at hl 1 rfl) ?_
      obtain ⟨g_r4, hf⟩ := fg hf
      refine lA_X13_11 hN cx hp g_r4 dX13_toFront_57 ?_
      refine lv_iconst (v := 0) hx hb dX13_toFront_58 (by decide) ?_
      refine lv_iload_n hx hb dX13_toFront_59 rfl (lv_at hl 2 rfl) ?_
      obtain ⟨g_i, hf⟩ := fg hf
      obtain ⟨ρ5, e_l, hf⟩ := fl hf
      refine sA_X13_r (inb_lt g_r4) e20 hN cx hp g_i dX13_toFront_60 (fun u H locs e_u n_u hp => ?_)
      have e20 := e_u.trans e_l
      have fr : ∀ q, q ≠ 20 → u q = σ q := fun q h0 => (n_u q h0).trans (fr q h0)
      cases hf
      exact r_v cx hp ⟨e20, fr⟩ dX13_toFront_61
    · have hf := fn hf c3
      refine lv_aload_n hx hb dX13_toFront_28 rfl (lv_at hl 0 rfl) ?_
      refine gF_X13_45 rfl hN cx hp dX13_toFront_29 ?_
      refine lv_iload_n hx hb dX13_toFront_32 rfl (lv_at hl 1 rfl) ?_
      obtain ⟨g_r6, hf⟩ := fg hf
      refine lA_X13_11 hN cx hp g_r6 dX13_toFront_33 ?_
      refine lv_iload_n hx hb dX13_toFront_34 rfl (lv_at hl 3 rfl) ?_
      refine lv_aload_n hx hb dX13_toFront_35 rfl (lv_at hl 0 rfl) ?_
      refine gF_X13_45 rfl hN cx hp dX13_toFront_36 ?_
      refine lv_iload_n hx hb dX13_toFront_39 rfl (lv_at hl 1 rfl) ?_
      obtain ⟨g_r7, hf⟩ := fg hf
      refine lA_X13_11 hN cx hp g_r7 dX13_toFront_40 ?_
      refine lv_iload_n hx hb dX13_toFront_41 rfl (lv_at hl 3 rfl) ?_
      refine lv_iconst (v := 1) hx hb dX13_toFront_42 (by decide) ?_
      refine lv_isub hx hb dX13_toFront_43 ?_
      obtain ⟨g_i, hf⟩ := fg hf
      refine lA_X13_r (inb_lt g_r7) e20 hN cx hp g_i dX13_toFront_44 ?_
      obtain ⟨g_i, hf⟩ := fg hf
      obtain ⟨ρ8, e_l, hf⟩ := fl hf
      refine sA_X13_r (inb_lt g_r6) e20 hN cx hp g_i dX13_toFront_45 (fun u H locs e_u n_u hp => ?_)
      have e20 := e_u.trans e_l
      have fr : ∀ q, q ≠ 20 → u q = σ q := fun q h0 => (n_u q h0).trans (fr q h0)
      refine lv_iinc (v := (x3 + (-1))) (lv' := [(3, .int (x3 + (-1))), (0, .ref (adr E 20 0)), (1, .int x1), (2, .int x2)]) hx hb dX13_toFront_46 hl (k := 3) rfl rfl (by decide) rfl (fun ls hl => ?_)
      refine lv_goto (tgt := 24) hx hb dX13_toFront_49 (by decide) ?_
      exact ih  hf e20 fr hp (lv_sub hl [1, 2, 3, 0] rfl)
set_option maxRecDepth 100000 in
set_option maxHeartbeats 4000000 in
theorem c_X13_toFront (l : Launch) {E : Ev} (hN : 151 ≤ eN E) (hT : St E) {σ : SM} {ρ : OM} (e20 : σ 20 = ρ) {p1 : Int32} {p2 : Int32} {ρ' : OM} (hf : f_X13_toFront p1 p2 ρ = some ρ') : Met l yX13_toFront (wC yX13_toFront cX13_toFront 4 none) rm_X13_toFront (va_Pc [.ref (adr E 20 0), .int p1, .int p2] (Wu E σ)) (va_Qv (fun u => u 20 = ρ' ∧ ∀ q, q ≠ 20 → u q = σ q) (fun u t => Wu E u t) (eA E)) 0 0 (eA E) := by
  refine g_entry (lv := [(0, .ref (adr E 20 0)), (1, .int p1), (2, .int p2)]) (by decide) (Nat.le_of_ble_eq_true rfl) rfl ?_
  intro p e s m below meth c cx hp ls hl
  have hx := cx.1.1
  have hb := cx.1.2.1
  have fr : ∀ q, q ≠ 20 → σ q = σ q := fun _ _ => rfl
  unfold f_X13_toFront at hf
  refine lv_aload_n hx hb dX13_toFront_0 rfl (lv_at hl 0 rfl) ?_
  refine lv_iload_n hx hb dX13_toFront_1 rfl (lv_at hl 1 rfl) ?_
  refine lv_iload_n hx hb dX13_toFront_2 rfl (lv_at hl 2 rfl) ?_
  obtain ⟨r1, hc, hf⟩ := fb hf
  refine x_i hp (y_V (As := [.int p1, .int p2]) (rest := []) cx hp hl (c_X13_rank l hN hT e20 hc) (cw_X13_115 cx (mc := 0) (ms := 0) rfl rfl ⟨by decide, by decide⟩) (rC_X13 hN cx hp) rfl rfl (Nat.le_of_ble_eq_true rfl) dX13_toFront_3 ⟨Nat.zero_le _, Nat.zero_le _⟩) (fun r_c u_c H locs hq hp => ?_)
  obtain ⟨rfl, rfl⟩ := hq
  refine lv_istore_n (lv' := [(3, .int r1), (0, .ref (adr E 20 0)), (1, .int p1), (2, .int p2)]) hx hb dX13_toFront_6 rfl hl (by decide) rfl (fun ls hl => ?_)
  refine lv_iload_n hx hb dX13_toFront_7 rfl (lv_at hl 0 rfl) ?_
  refine lv_iconst (v := (-1)) hx hb dX13_toFront_8 (by decide) ?_
  refine lv_icmp_ne (tgt := 24) hx hb dX13_toFront_9 (by decide) (fun c2 => ?_) (fun c2 => ?_)
  · have hf := fn hf c2
    exact L_X13_toFront_24 l hN hT cx  _ hf e20 fr hp (lv_sub hl [1, 2, 3, 0] rfl)
  · have hf := fp hf c2
    refine lv_aload_n hx hb dX13_toFront_12 rfl (lv_at hl 1 rfl) ?_
    refine gF_X13_28 rfl hN cx hp dX13_toFront_13 ?_
    refine lv_iload_n hx hb dX13_toFront_16 rfl (lv_at hl 2 rfl) ?_
    refine lv_dup2_11 hx hb dX13_toFront_17 rfl rfl ?_
    obtain ⟨g_i, hf⟩ := fg hf
    refine lA_X13_6 e20 hN cx hp g_i dX13_toFront_18 ?_
    refine lv_dup_x2 hx hb dX13_toFront_19 rfl rfl rfl ?_
    refine lv_iconst (v := 1) hx hb dX13_toFront_20 (by decide) ?_
    refine lv_iadd hx hb dX13_toFront_21 ?_
    obtain ⟨g_i, hf⟩ := fg hf
    obtain ⟨ρ9, e_l, hf⟩ := fl hf
    refine sA_X13_6 e20 hN cx hp g_i dX13_toFront_22 (fun u H locs e_u n_u hp => ?_)
    have e20 := e_u.trans e_l
    have fr : ∀ q, q ≠ 20 → u q = σ q := fun q h0 => (n_u q h0).trans (fr q h0)
    obtain ⟨i10, x_e, hf⟩ := fl hf
    refine lv_nm x_e ?_
    refine lv_istore_n (lv' := [(3, .int i10), (0, .ref (adr E 20 0)), (1, .int p1), (2, .int p2)]) hx hb dX13_toFront_23 rfl hl (by decide) rfl (fun ls hl => ?_)
    exact L_X13_toFront_24 l hN hT cx  _ hf e20 fr hp (lv_sub hl [1, 2, 3, 0] rfl)
abbrev rm_X13_first : Room := { frames := 0, cells := 0, slots := 0, locals := 0 }
set_option maxRecDepth 100000 in
set_option maxHeartbeats 4000000 in
theorem L_X13_first_2 {p : Program} {e : Env} {s : State} {m : MethodId} {args : Array Value} {below : List Frame} {meth : Method} {c : Code} (l : Launch) {E : Ev} (hN : 151 ≤ eN E) (hT : St E) {σ : SM} {Q : State → Prop} (cx : Cx E p s m meth c args RX13 cX13_first 4 none) {x1 : Int32} {x2 : Int32} {ρ : OM} {z3 : Int32} (K : ∀ (u : SM) (H : Heap) (locs : List Loc) (ls : Array Slot), u 20 = ρ → (∀ q, q ≠ 20 → u q = σ q) → Hp E u s H locs → lv_has ls 4 [(0, .ref (adr E 20 0)), (1, .int x1), (2, .int x2), (3, .int z3)] → W p l e rm_X13_first s m args below meth c H locs 0 0 Q (F0 m 18 ls [])) : ∀ (n : Nat) {x3 : Int32}, f_X13_first_2 x1 ρ n x3 = some z3 → ∀ {u : SM} {H : Heap} {locs : List Loc} {ls : Array Slot}, u 20 = ρ → (∀ q, q ≠ 20 → u q = σ q) → Hp E u s H locs → lv_has ls 4 [(0, .ref (adr E 20 0)), (1, .int x1), (2, .int x2), (3, .int x3)] → W p l e rm_X13_first s m args below meth c H locs 0 0 Q (F0 m 2 ls []) := by
  have hx := cx.1.1
  have hb := cx.1.2.1
  intro n
  induction n with
  | zero =>
    intro x3 hf
    exact absurd hf (by simp [f_X13_first_2])
  | succ n ih =>
    intro x3 hf u H locs ls e20 fr hp hl
    rw [f_X13_first_2] at hf
    refine lv_aload_n hx hb dX13_first_2 rfl (lv_at hl 0 rfl) ?_
    refine gF_X13_31 rfl hN cx hp dX13_first_3 ?_
    refine lv_iload_n hx hb dX13_first_6 rfl (lv_at hl 3 rfl) ?_
    obtain ⟨g_i, hf⟩ := fg hf
    refine lA_X13_7 e20 hN cx hp g_i dX13_first_7 ?_
    refine lv_iload_n hx hb dX13_first_8 rfl (lv_at hl 1 rfl) ?_
    refine lv_icmp_eq (tgt := 18) hx hb dX13_first_9 (by decide) (fun c1 => ?_) (fun c1 => ?_)
    · have hf := fp hf c1
      cases hf
      exact K _ _ _ _ e20 fr hp (lv_sub hl [0, 1, 2, 3] rfl)
    · have hf := fn hf c1
      refine lv_iinc (v := (x3 + 1)) (lv' := [(3, .int (x3 + 1)), (0, .ref (adr E 20 0)), (1, .int x1), (2, .int x2)]) hx hb dX13_first_12 hl (k := 3) rfl rfl (by decide) rfl (fun ls hl => ?_)
      refine lv_goto (tgt := 2) hx hb dX13_first_15 (by decide) ?_
      exact ih  hf e20 fr hp (lv_sub hl [1, 2, 3, 0] rfl)
set_option maxRecDepth 100000 in
set_option maxHeartbeats 4000000 in
theorem L_X13_first_18 {p : Program} {e : Env} {s : State} {m : MethodId} {args : Array Value} {below : List Frame} {meth : Method} {c : Code} (l : Launch) {E : Ev} (hN : 151 ≤ eN E) (hT : St E) {σ : SM} {Q : State → Prop} (cx : Cx E p s m meth c args RX13 cX13_first 4 none) {x1 : Int32} {x2 : Int32} {z3 : Int32} {ρ' : OM} (K : ∀ (u : SM) (H : Heap) (locs : List Loc) (ls : Array Slot), u 20 = ρ' → (∀ q, q ≠ 20 → u q = σ q) → Hp E u s H locs → lv_has ls 4 [(0, .ref (adr E 20 0)), (1, .int x1), (2, .int x2), (3, .int z3)] → W p l e rm_X13_first s m args below meth c H locs 0 0 Q (F0 m 43 ls [])) : ∀ (n : Nat) {x3 : Int32} {ρ : OM}, f_X13_first_18 x2 n x3 ρ = some (z3, ρ') → ∀ {u : SM} {H : Heap} {locs : List Loc} {ls : Array Slot}, u 20 = ρ → (∀ q, q ≠ 20 → u q = σ q) → Hp E u s H locs → lv_has ls 4 [(0, .ref (adr E 20 0)), (1, .int x1), (2, .int x2), (3, .int x3)] → W p l e rm_X13_first s m args below meth c H locs 0 0 Q (F0 m 18 ls []) := by
  have hx := cx.1.1
  have hb := cx.1.2.1
  intro n
  induction n with
  | zero =>
    intro x3 ρ hf
    exact absurd hf (by simp [f_X13_first_18])
  | succ n ih =>
    intro x3 ρ hf u H locs ls e20 fr hp hl
    rw [f_X13_first_18] at hf
    refine lv_iload_n hx hb dX13_first_18 rfl (lv_at hl 3 rfl) ?_
    refine lv_iload_n hx hb dX13_first_19 rfl (lv_at hl 2 rfl) ?_
    refine lv_icmp_ge (tgt := 43) hx hb dX13_first_20 (by decide) (fun c3 => ?_) (fun c3 => ?_)
    · have hf := fp hf c3
      cases hf
      exact K _ _ _ _ e20 fr hp (lv_sub hl [0, 1, 2, 3] rfl)
    · have hf := fn hf c3
      refine lv_aload_n hx hb dX13_first_23 rfl (lv_at hl 0 rfl) ?_
      refine gF_X13_31 rfl hN cx hp dX13_first_24 ?_
      refine lv_iload_n hx hb dX13_first_27 rfl (lv_at hl 3 rfl) ?_
      refine lv_aload_n hx hb dX13_first_28 rfl (lv_at hl 0 rfl) ?_
      refine gF_X13_31 rfl hN cx hp dX13_first_29 ?_
      refine lv_iload_n hx hb dX13_first_32 rfl (lv_at hl 3 rfl) ?_
      refine lv_iconst (v := 1) hx hb dX13_first_33 (by decide) ?_
      refine lv_iadd hx hb dX13_first_34 ?_
      obtain ⟨g_i, hf⟩ := fg hf
      refine lA_X13_7 e20 hN cx hp g_i dX13_first_35 ?_
      obtain ⟨g_i, hf⟩ := fg hf
      obtain ⟨ρ4, e_l, hf⟩ := fl hf
      refine sA_X13_7 e20 hN cx hp g_i dX13_first_36 (fun u H locs e_u n_u hp => ?_)
      have e20 := e_u.trans e_l
      have fr : ∀ q, q ≠ 20 → u q = σ q := fun q h0 => (n_u q h0).trans (fr q h0)
      refine lv_iinc (v := (x3 + 1)) (lv' := [(3, .int (x3 + 1)), (0, .ref (adr E 20 0)), (1, .int x1), (2, .int x2)]) hx hb dX13_first_37 hl (k := 3) rfl rfl (by decide) rfl (fun ls hl => ?_)
      refine lv_goto (tgt := 18) hx hb dX13_first_40 (by decide) ?_
      exact ih  hf e20 fr hp (lv_sub hl [1, 2, 3, 0] rfl)
set_option maxRecDepth 100000 in
set_option maxHeartbeats 4000000 in
theorem L_X13_first_43 {p : Program} {e : Env} {s : State} {m : MethodId} {args : Array Value} {below : List Frame} {meth : Method} {c : Code} (l : Launch) {E : Ev} (hN : 151 ≤ eN E) (hT : St E) {σ : SM} (cx : Cx E p s m meth c args RX13 cX13_first 4 none) {x1 : Int32} {x2 : Int32} {ρ' : OM} : ∀ (n : Nat) {x3 : Int32} {ρ : OM}, f_X13_first_43 x1 x2 n x3 ρ = some ρ' → ∀ {u : SM} {H : Heap} {locs : List Loc} {ls : Array Slot}, u 20 = ρ → (∀ q, q ≠ 20 → u q = σ q) → Hp E u s H locs → lv_has ls 4 [(0, .ref (adr E 20 0)), (1, .int x1), (2, .int x2), (3, .int x3)] → W p l e rm_X13_first s m args below meth c H locs 0 0 (MQ below (va_Qv (fun u => u 20 = ρ' ∧ ∀ q, q ≠ 20 → u q = σ q) (fun u t => Wu E u t) (eA E)) args s 0 0 (eA E)) (F0 m 43 ls []) := by
  have hx := cx.1.1
  have hb := cx.1.2.1
  intro n
  induction n with
  | zero =>
    intro x3 ρ hf
    exact absurd hf (by simp [f_X13_first_43])
  | succ n ih =>
    intro x3 ρ hf u H locs ls e20 fr hp hl
    rw [f_X13_first_43] at hf
    refine lv_iload_n hx hb dX13_first_43 rfl (lv_at hl 3 rfl) ?_
    refine lv_iload_n hx hb dX13_first_44 rfl (lv_at hl 2 rfl) ?_
    refine lv_icmp_le (tgt := 68) hx hb dX13_first_45 (by decide) (fun c7 => ?_) (fun c7 => ?_)
    · have hf := fp hf c7
      refine lv_aload_n hx hb dX13_first_68 rfl (lv_at hl 0 rfl) ?_
      refine gF_X13_31 rfl hN cx hp dX13_first_69 ?_
      refine lv_iload_n hx hb dX13_first_72 rfl (lv_at hl 2 rfl) ?_
      refine lv_iload_n hx hb dX13_first_73 rfl (lv_at hl 1 rfl) ?_
      obtain ⟨g_i, hf⟩ := fg hf
      obtain ⟨ρ8, e_l, hf⟩ := fl hf
      refine sA_X13_7 e20 hN cx hp g_i dX13_first_74 (fun u H locs e_u n_u hp => ?_)
      have e20 := e_u.trans e_l
      have fr : ∀ q, q ≠ 20 → u q = σ q := fun q h0 => (n_u q h0).trans (fr q h0)
      cases hf
      exact r_v cx hp ⟨e20, fr⟩ dX13_first_75
    · have hf := fn hf c7
      refine lv_aload_n hx hb dX13_first_48 rfl (lv_at hl 0 rfl) ?_
      refine gF_X13_31 rfl hN cx hp dX13_first_49 ?_
      refine lv_iload_n hx hb dX13_first_52 rfl (lv_at hl 3 rfl) ?_
      refine lv_aload_n hx hb dX13_first_53 rfl (lv_at hl 0 rfl) ?_
      refine gF_X13_31 rfl hN cx hp dX13_first_54 ?_
      refine lv_iload_n hx hb dX13_first_57 rfl (lv_at hl 3 rfl) ?_
      refine lv_iconst (v := 1) hx hb dX13_first_58 (by decide) ?_
      refine lv_isub hx hb dX13_first_59 ?_
      obtain ⟨g_i, hf⟩ := fg hf
      refine lA_X13_7 e20 hN cx hp g_i dX13_first_60 ?_
      obtain ⟨g_i, hf⟩ := fg hf
      obtain ⟨ρ9, e_l, hf⟩ := fl hf
      refine sA_X13_7 e20 hN cx hp g_i dX13_first_61 (fun u H locs e_u n_u hp => ?_)
      have e20 := e_u.trans e_l
      have fr : ∀ q, q ≠ 20 → u q = σ q := fun q h0 => (n_u q h0).trans (fr q h0)
      refine lv_iinc (v := (x3 + (-1))) (lv' := [(3, .int (x3 + (-1))), (0, .ref (adr E 20 0)), (1, .int x1), (2, .int x2)]) hx hb dX13_first_62 hl (k := 3) rfl rfl (by decide) rfl (fun ls hl => ?_)
      refine lv_goto (tgt := 43) hx hb dX13_first_65 (by decide) ?_
      exact ih  hf e20 fr hp (lv_sub hl [1, 2, 3, 0] rfl)
set_option maxRecDepth 100000 in
set_option maxHeartbeats 4000000 in
theorem c_X13_first (l : Launch) {E : Ev} (hN : 151 ≤ eN E) (hT : St E) {σ : SM} {ρ : OM} (e20 : σ 20 = ρ) {p1 : Int32} {p2 : Int32} {ρ' : OM} (hf : f_X13_first p1 p2 ρ = some ρ') : Met l yX13_first (wC yX13_first cX13_first 4 none) rm_X13_first (va_Pc [.ref (adr E 20 0), .int p1, .int p2] (Wu E σ)) (va_Qv (fun u => u 20 = ρ' ∧ ∀ q, q ≠ 20 → u q = σ q) (fun u t => Wu E u t) (eA E)) 0 0 (eA E) := by
  refine g_entry (lv := [(0, .ref (adr E 20 0)), (1, .int p1), (2, .int p2)]) (by decide) (Nat.le_of_ble_eq_true rfl) rfl ?_
  intro p e s m below meth c cx hp ls hl
  have hx := cx.1.1
  have hb := cx.1.2.1
  have fr : ∀ q, q ≠ 20 → σ q = σ q := fun _ _ => rfl
  unfold f_X13_first at hf
  refine lv_iconst (v := 0) hx hb dX13_first_0 (by decide) ?_
  refine lv_istore_n (lv' := [(3, .int 0), (0, .ref (adr E 20 0)), (1, .int p1), (2, .int p2)]) hx hb dX13_first_1 rfl hl (by decide) rfl (fun ls hl => ?_)
  obtain ⟨i2, hc, hf⟩ := fb hf
  refine L_X13_first_2 l hN hT cx  (fun u H locs ls e20 fr hp hl => ?_) _ hc e20 fr hp (lv_sub hl [1, 2, 3, 0] rfl)
  obtain ⟨i5, ρ6, hc, hf⟩ := fb2 hf
  refine L_X13_first_18 l hN hT cx  (fun u H locs ls e20 fr hp hl => ?_) _ hc e20 fr hp (lv_sub hl [0, 1, 2, 3] rfl)
  exact L_X13_first_43 l hN hT cx  _ hf e20 fr hp (lv_sub hl [0, 1, 2, 3] rfl)

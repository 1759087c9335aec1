abbrev rm_X1_nextInTurn : Room := { frames := 2, cells := 0, slots := 0, locals := 42 }
set_option maxRecDepth 100000 in
set_option maxHeartbeats 4000000 in
theorem L_X1_nextInTurn_4 {p : Program} {e : Env} {s : State} {m : MethodId} {args : Array Value} {below : List Frame} {meth : Method} {c : Code} (l : Launch) {E : Ev} (hN : 129 ≤ eN E) (hT : St E) {σ : SM} (cx : Cx E p s m meth c args RX1 cX1_nextInTurn 4 (some .int)) {o : Nat} (ho : o < 11) {μ : OM} {α : OM} {rv : Int32} : ∀ (n : Nat) {x3 : Int32} {x2 : Int32}, f_X1_nextInTurn_4 μ α n x3 x2 = some rv → ∀ {u : SM} {H : Heap} {locs : List Loc} {ls : Array Slot}, u o = μ → u 17 = α → (∀ q, u q = σ q) → Hp E u s H locs → lv_has ls 4 [(0, .ref (adr E 17 0)), (1, .ref (adr E o 0)), (2, .int x2), (3, .int x3)] → W p l e rm_X1_nextInTurn s m args below meth c H locs 0 0 (MQ below (va_Qi (fun r u => rv = r ∧ σ = u) (fun u t => Wu E u t) (eA E)) args s 0 0 (eA E)) (F0 m 4 ls []) := by
  have hx := cx.1.1
  have hb := cx.1.2.1
  intro n
  induction n with
  | zero =>
    intro x3 x2 hf
    exact absurd hf (by simp [f_X1_nextInTurn_4])
  | succ n ih =>
    intro x3 x2 hf u H locs ls eM e17 fr hp hl
    rw [f_X1_nextInTurn_4] at hf
    refine lv_iload_n hx hb dX1_nextInTurn_4 rfl (lv_at hl 3 rfl) ?_
    refine lv_aload_n hx hb dX1_nextInTurn_5 rfl (lv_at hl 1 rfl) ?_
    refine gF_X1_41 ho eM hN cx hp dX1_nextInTurn_6 ?_
    refine lv_icmp_ge (tgt := 47) hx hb dX1_nextInTurn_9 (by decide) (fun c1 => ?_) (fun c1 => ?_)
    · have hf := fp hf c1
      refine lv_iload_n hx hb dX1_nextInTurn_47 rfl (lv_at hl 2 rfl) ?_
      cases hf
      exact r_i cx hp ⟨rfl, (funext fr).symm⟩ dX1_nextInTurn_48
    · have hf := fn hf c1
      refine lv_aload_n hx hb dX1_nextInTurn_12 rfl (lv_at hl 0 rfl) ?_
      refine gF_X1_15 rfl hN cx hp dX1_nextInTurn_13 ?_
      refine lv_iload_n hx hb dX1_nextInTurn_16 rfl (lv_at hl 3 rfl) ?_
      obtain ⟨g_i, hf⟩ := fg hf
      refine lA_X1_2 e17 hN cx hp g_i dX1_nextInTurn_17 ?_
      refine lv_if_ne (tgt := 41) hx hb dX1_nextInTurn_18 (by decide) (fun c2 => ?_) (fun c2 => ?_)
      · have hf := fn hf c2
        refine lv_iinc (v := (x3 + 1)) (lv' := [(3, .int (x3 + 1)), (0, .ref (adr E 17 0)), (1, .ref (adr E o 0)), (2, .int x2)]) hx hb dX1_nextInTurn_41 hl (k := 3) rfl rfl (by decide) rfl (fun ls hl => ?_)
        refine lv_goto (tgt := 4) hx hb dX1_nextInTurn_44 (by decide) ?_
        exact ih  hf eM e17 fr hp (lv_sub hl [1, 2, 3, 0] rfl)
      · have hf := fp hf c2
        refine lv_iload_n hx hb dX1_nextInTurn_21 rfl (lv_at hl 2 rfl) ?_
        refine lv_iconst (v := (-1)) hx hb dX1_nextInTurn_22 (by decide) ?_
        refine lv_icmp_eq (tgt := 39) hx hb dX1_nextInTurn_23 (by decide) (fun c3 => ?_) (fun c3 => ?_)
        · have hf := fp hf c3
          refine lv_iload_n hx hb dX1_nextInTurn_39 rfl (lv_at hl 3 rfl) ?_
          refine lv_istore_n (lv' := [(2, .int x3), (0, .ref (adr E 17 0)), (1, .ref (adr E o 0)), (3, .int x3)]) hx hb dX1_nextInTurn_40 rfl hl (by decide) rfl (fun ls hl => ?_)
          refine lv_iinc (v := (x3 + 1)) (lv' := [(3, .int (x3 + 1)), (2, .int x3), (0, .ref (adr E 17 0)), (1, .ref (adr E o 0))]) hx hb dX1_nextInTurn_41 hl (k := 3) rfl rfl (by decide) rfl (fun ls hl => ?_)
          refine lv_goto (tgt := 4) hx hb dX1_nextInTurn_44 (by decide) ?_
          exact ih  hf eM e17 fr hp (lv_sub hl [2, 3, 1, 0] rfl)
        · have hf := fn hf c3
          refine lv_aload_n hx hb dX1_nextInTurn_26 rfl (lv_at hl 1 rfl) ?_
          refine lv_iload_n hx hb dX1_nextInTurn_27 rfl (lv_at hl 3 rfl) ?_
          obtain ⟨r4, hc, hf⟩ := fb hf
          refine x_i hp (y_V (As := [.int x3]) (rest := []) cx hp hl (c_X5_turnOf l hN hT ho eM hc) (cw_X1_46 cx (mc := 0) (ms := 0) rfl rfl ⟨by decide, by decide⟩) (rC_X5 ho hN cx hp) rfl rfl (Nat.le_of_ble_eq_true rfl) dX1_nextInTurn_28 ⟨Nat.zero_le _, Nat.zero_le _⟩) (fun r_c u_c H locs hq hp => ?_)
          obtain ⟨rfl, rfl⟩ := hq
          refine lv_aload_n hx hb dX1_nextInTurn_31 rfl (lv_at hl 1 rfl) ?_
          refine lv_iload_n hx hb dX1_nextInTurn_32 rfl (lv_at hl 2 rfl) ?_
          obtain ⟨r5, hc, hf⟩ := fb hf
          refine x_i hp (y_V (As := [.int x2]) (rest := [.int r4]) cx hp hl (c_X5_turnOf l hN hT ho eM hc) (cw_X1_46 cx (mc := 0) (ms := 0) rfl rfl ⟨by decide, by decide⟩) (rC_X5 ho hN cx hp) rfl rfl (Nat.le_of_ble_eq_true rfl) dX1_nextInTurn_33 ⟨Nat.zero_le _, Nat.zero_le _⟩) (fun r_c u_c H locs hq hp => ?_)
          obtain ⟨rfl, rfl⟩ := hq
          refine lv_icmp_ge (tgt := 41) hx hb dX1_nextInTurn_36 (by decide) (fun c6 => ?_) (fun c6 => ?_)
          · have hf := fp hf c6
            refine lv_iinc (v := (x3 + 1)) (lv' := [(3, .int (x3 + 1)), (0, .ref (adr E 17 0)), (1, .ref (adr E o 0)), (2, .int x2)]) hx hb dX1_nextInTurn_41 hl (k := 3) rfl rfl (by decide) rfl (fun ls hl => ?_)
            refine lv_goto (tgt := 4) hx hb dX1_nextInTurn_44 (by decide) ?_
            exact ih  hf eM e17 fr hp (lv_sub hl [1, 2, 3, 0] rfl)
          · have hf := fn hf c6
            refine lv_iload_n hx hb dX1_nextInTurn_39 rfl (lv_at hl 3 rfl) ?_
            refine lv_istore_n (lv' := [(2, .int x3), (0, .ref (adr E 17 0)), (1, .ref (adr E o 0)), (3, .int x3)]) hx hb dX1_nextInTurn_40 rfl hl (by decide) rfl (fun ls hl => ?_)
            refine lv_iinc (v := (x3 + 1)) (lv' := [(3, .int (x3 + 1)), (2, .int x3), (0, .ref (adr E 17 0)), (1, .ref (adr E o 0))]) hx hb dX1_nextInTurn_41 hl (k := 3) rfl rfl (by decide) rfl (fun ls hl => ?_)
            refine lv_goto (tgt := 4) hx hb dX1_nextInTurn_44 (by decide) ?_
            exact ih  hf eM e17 fr hp (lv_sub hl [2, 3, 1, 0] rfl)
set_option maxRecDepth 100000 in
set_option maxHeartbeats 4000000 in
theorem c_X1_nextInTurn (l : Launch) {E : Ev} (hN : 129 ≤ eN E) (hT : St E) {σ : SM} {o : Nat} {μ : OM} (ho : o < 11) (eM : σ o = μ) {α : OM} (e17 : σ 17 = α)  {rv : Int32} (hf : f_X1_nextInTurn μ α = some rv) : Met l yX1_nextInTurn (wC yX1_nextInTurn cX1_nextInTurn 4 (some .int)) rm_X1_nextInTurn (va_Pc [.ref (adr E 17 0), .ref (adr E o 0)] (Wu E σ)) (va_Qi (fun r u => rv = r ∧ σ = u) (fun u t => Wu E u t) (eA E)) 0 0 (eA E) := by
  refine g_entry (lv := [(0, .ref (adr E 17 0)), (1, .ref (adr E o 0))]) (by decide) (Nat.le_of_ble_eq_true rfl) rfl ?_
  intro p e s m below meth c cx hp ls hl
  have hx := cx.1.1
  have hb := cx.1.2.1
  have fr : ∀ q, σ q = σ q := fun _ => rfl
  unfold f_X1_nextInTurn at hf
  refine lv_iconst (v := (-1)) hx hb dX1_nextInTurn_0 (by decide) ?_
  refine lv_istore_n (lv' := [(2, .int (-1)), (0, .ref (adr E 17 0)), (1, .ref (adr E o 0))]) hx hb dX1_nextInTurn_1 rfl hl (by decide) rfl (fun ls hl => ?_)
  refine lv_iconst (v := 0) hx hb dX1_nextInTurn_2 (by decide) ?_
  refine lv_istore_n (lv' := [(3, .int 0), (2, .int (-1)), (0, .ref (adr E 17 0)), (1, .ref (adr E o 0))]) hx hb dX1_nextInTurn_3 rfl hl (by decide) rfl (fun ls hl => ?_)
  exact L_X1_nextInTurn_4 l hN hT cx ho _ hf eM e17 fr hp (lv_sub hl [2, 3, 1, 0] rfl)
abbrev rm_X1_append : Room := { frames := 0, cells := 0, slots := 0, locals := 0 }
set_option maxRecDepth 100000 in
set_option maxHeartbeats 4000000 in
theorem c_X1_append (l : Launch) {E : Ev} (hN : 129 ≤ eN E) (hT : St E) {σ : SM} {α : OM} (e17 : σ 17 = α) {p1 : Int32} {α' : OM} (hf : f_X1_append p1 α = some α') : Met l yX1_append (wC yX1_append cX1_append 2 none) rm_X1_append (va_Pc [.ref (adr E 17 0), .int p1] (Wu E σ)) (va_Qv (fun u => u 17 = α' ∧ ∀ q, q ≠ 17 → u q = σ q) (fun u t => Wu E u t) (eA E)) 0 0 (eA E) := by
  refine g_entry (lv := [(0, .ref (adr E 17 0)), (1, .int p1)]) (by decide) (Nat.le_of_ble_eq_true rfl) rfl ?_
  intro p e s m below meth c cx hp ls hl
  have hx := cx.1.1
  have hb := cx.1.2.1
  have fr : ∀ q, q ≠ 17 → σ q = σ q := fun _ _ => rfl
  unfold f_X1_append at hf
  refine lv_iload_n hx hb dX1_append_0 rfl (lv_at hl 1 rfl) ?_
  refine lv_iconst (v := (-1)) hx hb dX1_append_1 (by decide) ?_
  refine lv_icmp_eq (tgt := 34) hx hb dX1_append_2 (by decide) (fun c1 => ?_) (fun c1 => ?_)
  · have hf := fp hf c1
    cases hf
    exact r_v cx hp ⟨e17, fr⟩ dX1_append_34
  · have hf := fn hf c1
    refine lv_aload_n hx hb dX1_append_5 rfl (lv_at hl 0 rfl) ?_
    refine gF_X1_25 e17 hN cx hp dX1_append_6 ?_
    refine lv_bipush (v := 8) hx hb dX1_append_9 (by decide) ?_
    refine lv_icmp_ge (tgt := 34) hx hb dX1_append_11 (by decide) (fun c2 => ?_) (fun c2 => ?_)
    · have hf := fp hf c2
      cases hf
      exact r_v cx hp ⟨e17, fr⟩ dX1_append_34
    · have hf := fn hf c2
      refine lv_aload_n hx hb dX1_append_14 rfl (lv_at hl 0 rfl) ?_
      refine gF_X1_22 rfl hN cx hp dX1_append_15 ?_
      refine lv_aload_n hx hb dX1_append_18 rfl (lv_at hl 0 rfl) ?_
      refine gF_X1_25 e17 hN cx hp dX1_append_19 ?_
      refine lv_iload_n hx hb dX1_append_22 rfl (lv_at hl 1 rfl) ?_
      obtain ⟨g_i, hf⟩ := fg hf
      obtain ⟨α3, e_l, hf⟩ := fl hf
      refine sA_X1_4 e17 hN cx hp g_i dX1_append_23 (fun u H locs e_u n_u hp => ?_)
      have e17 := e_u.trans e_l
      have fr : ∀ q, q ≠ 17 → u q = σ q := fun q h0 => (n_u q h0).trans (fr q h0)
      refine lv_aload_n hx hb dX1_append_24 rfl (lv_at hl 0 rfl) ?_
      refine lv_dup hx hb dX1_append_25 rfl ?_
      refine gF_X1_25 e17 hN cx hp dX1_append_26 ?_
      refine lv_iconst (v := 1) hx hb dX1_append_29 (by decide) ?_
      refine lv_iadd hx hb dX1_append_30 ?_
      obtain ⟨α4, e_l, hf⟩ := fl hf
      refine pF_X1_25 e17 hN cx hp dX1_append_31 (fun u H locs e_u n_u hp => ?_)
      have e17 := e_u.trans e_l
      have fr : ∀ q, q ≠ 17 → u q = σ q := fun q h0 => (n_u q h0).trans (fr q h0)
      cases hf
      exact r_v cx hp ⟨e17, fr⟩ dX1_append_34
abbrev rm_X1_firstAvailable : Room := { frames := 2, cells := 0, slots := 0, locals := 43 }
set_option maxRecDepth 100000 in
set_option maxHeartbeats 4000000 in
theorem L_X1_firstAvailable_2 {p : Program} {e : Env} {s : State} {m : MethodId} {args : Array Value} {below : List Frame} {meth : Method} {c : Code} (l : Launch) {E : Ev} (hN : 129 ≤ eN E) (hT : St E) {σ : SM} (cx : Cx E p s m meth c args RX1 cX1_firstAvailable 5 (some .int)) {o : Nat} (ho : o < 11) {x2 : Int32} {μ : OM} {α : OM} {rv : Int32} : ∀ (n : Nat) {x3 : Int32}, f_X1_firstAvailable_2 x2 μ α n x3 = some rv → ∀ {u : SM} {H : Heap} {locs : List Loc} {ls : Array Slot}, u o = μ → u 17 = α → (∀ q, u q = σ q) → Hp E u s H locs → lv_has ls 5 [(0, .ref (adr E 17 0)), (1, .ref (adr E o 0)), (2, .int x2), (3, .int x3)] → W p l e rm_X1_firstAvailable s m args below meth c H locs 0 0 (MQ below (va_Qi (fun r u => rv = r ∧ σ = u) (fun u t => Wu E u t) (eA E)) args s 0 0 (eA E)) (F0 m 2 ls []) := by
  have hx := cx.1.1
  have hb := cx.1.2.1
  intro n
  induction n with
  | zero =>
    intro x3 hf
    exact absurd hf (by simp [f_X1_firstAvailable_2])
  | succ n ih =>
    intro x3 hf u H locs ls eM e17 fr hp hl
    rw [f_X1_firstAvailable_2] at hf
    refine lv_iload_n hx hb dX1_firstAvailable_2 rfl (lv_at hl 3 rfl) ?_
    refine lv_aload_n hx hb dX1_firstAvailable_3 rfl (lv_at hl 1 rfl) ?_
    refine lv_iload_n hx hb dX1_firstAvailable_4 rfl (lv_at hl 2 rfl) ?_
    obtain ⟨r1, hc, hf⟩ := fb hf
    refine x_i hp (y_V (As := [.int x2]) (rest := [.int x3]) cx hp hl (c_X5_wishesOf l hN hT ho eM hc) (cw_X1_63 cx (mc := 0) (ms := 0) rfl rfl ⟨by decide, by decide⟩) (rC_X5 ho hN cx hp) rfl rfl (Nat.le_of_ble_eq_true rfl) dX1_firstAvailable_5 ⟨Nat.zero_le _, Nat.zero_le _⟩) (fun r_c u_c H locs hq hp => ?_)
    obtain ⟨rfl, rfl⟩ := hq
    refine lv_icmp_ge (tgt := 44) hx hb dX1_firstAvailable_8 (by decide) (fun c2 => ?_) (fun c2 => ?_)
    · have hf := fp hf c2
      refine lv_iconst (v := (-1)) hx hb dX1_firstAvailable_44 (by decide) ?_
      cases hf
      exact r_i cx hp ⟨rfl, (funext fr).symm⟩ dX1_firstAvailable_45
    · have hf := fn hf c2
      refine lv_aload_n hx hb dX1_firstAvailable_11 rfl (lv_at hl 1 rfl) ?_
      refine lv_iload_n hx hb dX1_firstAvailable_12 rfl (lv_at hl 2 rfl) ?_
      refine lv_iload_n hx hb dX1_firstAvailable_13 rfl (lv_at hl 3 rfl) ?_
      obtain ⟨r3, hc, hf⟩ := fb hf
      refine x_i hp (y_V (As := [.int x2, .int x3]) (rest := []) cx hp hl (c_X5_wish l hN hT ho eM hc) (cw_X1_66 cx (mc := 0) (ms := 0) rfl rfl ⟨by decide, by decide⟩) (rC_X5 ho hN cx hp) rfl rfl (Nat.le_of_ble_eq_true rfl) dX1_firstAvailable_14 ⟨Nat.zero_le _, Nat.zero_le _⟩) (fun r_c u_c H locs hq hp => ?_)
      obtain ⟨rfl, rfl⟩ := hq
      refine lv_istore (lv' := [(4, .int r3), (0, .ref (adr E 17 0)), (1, .ref (adr E o 0)), (2, .int x2), (3, .int x3)]) hx hb dX1_firstAvailable_17 hl (by decide) rfl (fun ls hl => ?_)
      refine lv_iload hx hb dX1_firstAvailable_19 (lv_at hl 0 rfl) ?_
      refine lv_iconst (v := (-1)) hx hb dX1_firstAvailable_21 (by decide) ?_
      refine lv_icmp_eq (tgt := 38) hx hb dX1_firstAvailable_22 (by decide) (fun c4 => ?_) (fun c4 => ?_)
      · have hf := fp hf c4
        refine lv_iinc (v := (x3 + 1)) (lv' := [(3, .int (x3 + 1)), (4, .int r3), (0, .ref (adr E 17 0)), (1, .ref (adr E o 0)), (2, .int x2)]) hx hb dX1_firstAvailable_38 hl (k := 4) rfl rfl (by decide) rfl (fun ls hl => ?_)
        refine lv_goto (tgt := 2) hx hb dX1_firstAvailable_41 (by decide) ?_
        exact ih  hf eM e17 fr hp (lv_sub hl [2, 3, 4, 0] rfl)
      · have hf := fn hf c4
        refine lv_aload_n hx hb dX1_firstAvailable_25 rfl (lv_at hl 1 rfl) ?_
        refine gF_X1_19 rfl hN cx hp dX1_firstAvailable_26 ?_
        refine lv_iload hx hb dX1_firstAvailable_29 (lv_at hl 0 rfl) ?_
        obtain ⟨g_i, hf⟩ := fg hf
        refine lA_X1_3 e17 hN cx hp g_i dX1_firstAvailable_31 ?_
        refine lv_if_ne (tgt := 38) hx hb dX1_firstAvailable_32 (by decide) (fun c5 => ?_) (fun c5 => ?_)
        · have hf := fn hf c5
          refine lv_iinc (v := (x3 + 1)) (lv' := [(3, .int (x3 + 1)), (4, .int r3), (0, .ref (adr E 17 0)), (1, .ref (adr E o 0)), (2, .int x2)]) hx hb dX1_firstAvailable_38 hl (k := 4) rfl rfl (by decide) rfl (fun ls hl => ?_)
          refine lv_goto (tgt := 2) hx hb dX1_firstAvailable_41 (by decide) ?_
          exact ih  hf eM e17 fr hp (lv_sub hl [2, 3, 4, 0] rfl)
        · have hf := fp hf c5
          refine lv_iload hx hb dX1_firstAvailable_35 (lv_at hl 0 rfl) ?_
          cases hf
          exact r_i cx hp ⟨rfl, (funext fr).symm⟩ dX1_firstAvailable_37
set_option maxRecDepth 100000 in
set_option maxHeartbeats 4000000 in
theorem c_X1_firstAvailable (l : Launch) {E : Ev} (hN : 129 ≤ eN E) (hT : St E) {σ : SM} {o : Nat} {μ : OM} (ho : o < 11) (eM : σ o = μ) {α : OM} (e17 : σ 17 = α) {p2 : Int32} {rv : Int32} (hf : f_X1_firstAvailable p2 μ α = some rv) : Met l yX1_firstAvailable (wC yX1_firstAvailable cX1_firstAvailable 5 (some .int)) rm_X1_firstAvailable (va_Pc [.ref (adr E 17 0), .ref (adr E o 0), .int p2] (Wu E σ)) (va_Qi (fun r u => rv = r ∧ σ = u) (fun u t => Wu E u t) (eA E)) 0 0 (eA E) := by
  refine g_entry (lv := [(0, .ref (adr E 17 0)), (1, .ref (adr E o 0)), (2, .int p2)]) (by decide) (Nat.le_of_ble_eq_true rfl) rfl ?_
  intro p e s m below meth c cx hp ls hl
  have hx := cx.1.1
  have hb := cx.1.2.1
  have fr : ∀ q, σ q = σ q := fun _ => rfl
  unfold f_X1_firstAvailable at hf
  refine lv_iconst (v := 0) hx hb dX1_firstAvailable_0 (by decide) ?_
  refine lv_istore_n (lv' := [(3, .int 0), (0, .ref (adr E 17 0)), (1, .ref (adr E o 0)), (2, .int p2)]) hx hb dX1_firstAvailable_1 rfl hl (by decide) rfl (fun ls hl => ?_)
  exact L_X1_firstAvailable_2 l hN hT cx ho _ hf eM e17 fr hp (lv_sub hl [1, 2, 3, 0] rfl)
abbrev rm_X1_finishFrom : Room := { frames := 0, cells := 0, slots := 0, locals := 0 }
set_option maxRecDepth 100000 in
set_option maxHeartbeats 4000000 in
theorem L_X1_finishFrom_2 {p : Program} {e : Env} {s : State} {m : MethodId} {args : Array Value} {below : List Frame} {meth : Method} {c : Code} (l : Launch) {E : Ev} (hN : 129 ≤ eN E) (hT : St E) {σ : SM} (cx : Cx E p s m meth c args RX1 cX1_finishFrom 5 none) {x1 : Int32} {α' : OM} : ∀ (n : Nat) {x2 : Int32} {α : OM}, f_X1_finishFrom_2 x1 n x2 α = some α' → ∀ {u : SM} {H : Heap} {locs : List Loc} {ls : Array Slot}, u 17 = α → (∀ q, q ≠ 17 → u q = σ q) → Hp E u s H locs → lv_has ls 5 [(0, .ref (adr E 17 0)), (1, .int x1), (2, .int x2)] → W p l e rm_X1_finishFrom s m args below meth c H locs 0 0 (MQ below (va_Qv (fun u => u 17 = α' ∧ ∀ q, q ≠ 17 → u q = σ q) (fun u t => Wu E u t) (eA E)) args s 0 0 (eA E)) (F0 m 2 ls []) := by
  have hx := cx.1.1
  have hb := cx.1.2.1
  intro n
  induction n with
  | zero =>
    intro x2 α hf
    exact absurd hf (by simp [f_X1_finishFrom_2])
  | succ n ih =>
    intro x2 α hf u H locs ls e17 fr hp hl
    rw [f_X1_finishFrom_2] at hf
    refine lv_iload_n hx hb dX1_finishFrom_2 rfl (lv_at hl 2 rfl) ?_
    refine lv_if_lt (tgt := 56) hx hb dX1_finishFrom_3 (by decide) (fun c1 => ?_) (fun c1 => ?_)
    · have hf := fp hf c1
      refine lv_aload_n hx hb dX1_finishFrom_56 rfl (lv_at hl 0 rfl) ?_
      refine lv_iload_n hx hb dX1_finishFrom_57 rfl (lv_at hl 1 rfl) ?_
      obtain ⟨α2, e_l, hf⟩ := fl hf
      refine pF_X1_25 e17 hN cx hp dX1_finishFrom_58 (fun u H locs e_u n_u hp => ?_)
      have e17 := e_u.trans e_l
      have fr : ∀ q, q ≠ 17 → u q = σ q := fun q h0 => (n_u q h0).trans (fr q h0)
      cases hf
      exact r_v cx hp ⟨e17, fr⟩ dX1_finishFrom_61
    · have hf := fn hf c1
      refine lv_iload_n hx hb dX1_finishFrom_6 rfl (lv_at hl 2 rfl) ?_
      refine lv_aload_n hx hb dX1_finishFrom_7 rfl (lv_at hl 0 rfl) ?_
      refine gF_X1_25 e17 hN cx hp dX1_finishFrom_8 ?_
      refine lv_icmp_ge (tgt := 56) hx hb dX1_finishFrom_11 (by decide) (fun c3 => ?_) (fun c3 => ?_)
      · have hf := fp hf c3
        refine lv_aload_n hx hb dX1_finishFrom_56 rfl (lv_at hl 0 rfl) ?_
        refine lv_iload_n hx hb dX1_finishFrom_57 rfl (lv_at hl 1 rfl) ?_
        obtain ⟨α4, e_l, hf⟩ := fl hf
        refine pF_X1_25 e17 hN cx hp dX1_finishFrom_58 (fun u H locs e_u n_u hp => ?_)
        have e17 := e_u.trans e_l
        have fr : ∀ q, q ≠ 17 → u q = σ q := fun q h0 => (n_u q h0).trans (fr q h0)
        cases hf
        exact r_v cx hp ⟨e17, fr⟩ dX1_finishFrom_61
      · have hf := fn hf c3
        refine lv_aload_n hx hb dX1_finishFrom_14 rfl (lv_at hl 0 rfl) ?_
        refine gF_X1_22 rfl hN cx hp dX1_finishFrom_15 ?_
        refine lv_iload_n hx hb dX1_finishFrom_18 rfl (lv_at hl 2 rfl) ?_
        obtain ⟨g_i, hf⟩ := fg hf
        refine lA_X1_4 e17 hN cx hp g_i dX1_finishFrom_19 ?_
        obtain ⟨i5, x_e, hf⟩ := fl hf
        refine lv_nm x_e ?_
        refine lv_istore_n (lv' := [(3, .int i5), (0, .ref (adr E 17 0)), (1, .int x1), (2, .int x2)]) hx hb dX1_finishFrom_20 rfl hl (by decide) rfl (fun ls hl => ?_)
        refine lv_aload_n hx hb dX1_finishFrom_21 rfl (lv_at hl 1 rfl) ?_
        refine gF_X1_15 rfl hN cx hp dX1_finishFrom_22 ?_
        refine lv_iload_n hx hb dX1_finishFrom_25 rfl (lv_at hl 0 rfl) ?_
        refine lv_iconst (v := 1) hx hb dX1_finishFrom_26 (by decide) ?_
        obtain ⟨g_i, hf⟩ := fg hf
        obtain ⟨α6, e_l, hf⟩ := fl hf
        refine sA_X1_2 e17 hN cx hp rfl g_i dX1_finishFrom_27 (fun u H locs e_u n_u hp => ?_)
        have e17 := e_u.trans e_l
        have fr : ∀ q, q ≠ 17 → u q = σ q := fun q h0 => (n_u q h0).trans (fr q h0)
        refine lv_aload_n hx hb dX1_finishFrom_28 rfl (lv_at hl 1 rfl) ?_
        refine gF_X1_9 rfl hN cx hp dX1_finishFrom_29 ?_
        refine lv_iload_n hx hb dX1_finishFrom_32 rfl (lv_at hl 0 rfl) ?_
        obtain ⟨g_i, hf⟩ := fg hf
        refine lA_X1_1 e17 hN cx hp g_i dX1_finishFrom_33 ?_
        obtain ⟨i7, x_e, hf⟩ := fl hf
        refine lv_nm x_e ?_
        refine lv_istore (lv' := [(4, .int i7), (3, .int i5), (0, .ref (adr E 17 0)), (1, .int x1), (2, .int x2)]) hx hb dX1_finishFrom_34 hl (by decide) rfl (fun ls hl => ?_)
        refine lv_iload hx hb dX1_finishFrom_36 (lv_at hl 0 rfl) ?_
        refine lv_iconst (v := (-1)) hx hb dX1_finishFrom_38 (by decide) ?_
        refine lv_icmp_eq (tgt := 50) hx hb dX1_finishFrom_39 (by decide) (fun c8 => ?_) (fun c8 => ?_)
        · have hf := fp hf c8
          refine lv_iinc (v := (x2 + 1)) (lv' := [(2, .int (x2 + 1)), (4, .int i7), (3, .int i5), (0, .ref (adr E 17 0)), (1, .int x1)]) hx hb dX1_finishFrom_50 hl (k := 4) rfl rfl (by decide) rfl (fun ls hl => ?_)
          refine lv_goto (tgt := 2) hx hb dX1_finishFrom_53 (by decide) ?_
          exact ih  hf e17 fr hp (lv_sub hl [3, 4, 0] rfl)
        · have hf := fn hf c8
          refine lv_aload_n hx hb dX1_finishFrom_42 rfl (lv_at hl 2 rfl) ?_
          refine gF_X1_19 rfl hN cx hp dX1_finishFrom_43 ?_
          refine lv_iload hx hb dX1_finishFrom_46 (lv_at hl 0 rfl) ?_
          refine lv_iconst (v := 1) hx hb dX1_finishFrom_48 (by decide) ?_
          obtain ⟨g_i, hf⟩ := fg hf
          obtain ⟨α9, e_l, hf⟩ := fl hf
          refine sA_X1_3 e17 hN cx hp rfl g_i dX1_finishFrom_49 (fun u H locs e_u n_u hp => ?_)
          have e17 := e_u.trans e_l
          have fr : ∀ q, q ≠ 17 → u q = σ q := fun q h0 => (n_u q h0).trans (fr q h0)
          refine lv_iinc (v := (x2 + 1)) (lv' := [(2, .int (x2 + 1)), (4, .int i7), (3, .int i5), (0, .ref (adr E 17 0)), (1, .int x1)]) hx hb dX1_finishFrom_50 hl (k := 4) rfl rfl (by decide) rfl (fun ls hl => ?_)
          refine lv_goto (tgt := 2) hx hb dX1_finishFrom_53 (by decide) ?_
          exact ih  hf e17 fr hp (lv_sub hl [3, 4, 0] rfl)
set_option maxRecDepth 100000 in
set_option maxHeartbeats 4000000 in
theorem c_X1_finishFrom (l : Launch) {E : Ev} (hN : 129 ≤ eN E) (hT : St E) {σ : SM} {α : OM} (e17 : σ 17 = α) {p1 : Int32} {α' : OM} (hf : f_X1_finishFrom p1 α = some α') : Met l yX1_finishFrom (wC yX1_finishFrom cX1_finishFrom 5 none) rm_X1_finishFrom (va_Pc [.ref (adr E 17 0), .int p1] (Wu E σ)) (va_Qv (fun u => u 17 = α' ∧ ∀ q, q ≠ 17 → u q = σ q) (fun u t => Wu E u t) (eA E)) 0 0 (eA E) := by
  refine g_entry (lv := [(0, .ref (adr E 17 0)), (1, .int p1)]) (by decide) (Nat.le_of_ble_eq_true rfl) rfl ?_
  intro p e s m below meth c cx hp ls hl
  have hx := cx.1.1
  have hb := cx.1.2.1
  have fr : ∀ q, q ≠ 17 → σ q = σ q := fun _ _ => rfl
  unfold f_X1_finishFrom at hf
  refine lv_iload_n hx hb dX1_finishFrom_0 rfl (lv_at hl 1 rfl) ?_
  refine lv_istore_n (lv' := [(2, .int p1), (0, .ref (adr E 17 0)), (1, .int p1)]) hx hb dX1_finishFrom_1 rfl hl (by decide) rfl (fun ls hl => ?_)
  exact L_X1_finishFrom_2 l hN hT cx  _ hf e17 fr hp (lv_sub hl [1, 2, 0] rfl)
abbrev rm_X1_placeInChain : Room := { frames := 0, cells := 0, slots := 0, locals := 0 }
set_option maxRecDepth 100000 in
set_option maxHeartbeats 4000000 in
theorem L_X1_placeInChain_2 {p : Program} {e : Env} {s : State} {m : MethodId} {args : Array Value} {below : List Frame} {meth : Method} {c : Code} (l : Launch) {E : Ev} (hN : 129 ≤ eN E) (hT : St E) {σ : SM} (cx : Cx E p s m meth c args RX1 cX1_placeInChain 3 (some .int)) {x1 : Int32} {α : OM} {rv : Int32} : ∀ (n : Nat) {x2 : Int32}, f_X1_placeInChain_2 x1 α n x2 = some rv → ∀ {u : SM} {H : Heap} {locs : List Loc} {ls : Array Slot}, u 17 = α → (∀ q, u q = σ q) → Hp E u s H locs → lv_has ls 3 [(0, .ref (adr E 17 0)), (1, .int x1), (2, .int x2)] → W p l e rm_X1_placeInChain s m args below meth c H locs 0 0 (MQ below (va_Qi (fun r u => rv = r ∧ σ = u) (fun u t => Wu E u t) (eA E)) args s 0 0 (eA E)) (F0 m 2 ls []) := by
  have hx := cx.1.1
  have hb := cx.1.2.1
  intro n
  induction n with
  | zero =>
    intro x2 hf
    exact absurd hf (by simp [f_X1_placeInChain_2])
  | succ n ih =>
    intro x2 hf u H locs ls e17 fr hp hl
    rw [f_X1_placeInChain_2] at hf
    refine lv_iload_n hx hb dX1_placeInChain_2 rfl (lv_at hl 2 rfl) ?_
    refine lv_aload_n hx hb dX1_placeInChain_3 rfl (lv_at hl 0 rfl) ?_
    refine gF_X1_25 e17 hN cx hp dX1_placeInChain_4 ?_
    refine lv_icmp_ge (tgt := 28) hx hb dX1_placeInChain_7 (by decide) (fun c1 => ?_) (fun c1 => ?_)
    · have hf := fp hf c1
      refine lv_iconst (v := (-1)) hx hb dX1_placeInChain_28 (by decide) ?_
      cases hf
      exact r_i cx hp ⟨rfl, (funext fr).symm⟩ dX1_placeInChain_29
    · have hf := fn hf c1
      refine lv_aload_n hx hb dX1_placeInChain_10 rfl (lv_at hl 0 rfl) ?_
      refine gF_X1_22 rfl hN cx hp dX1_placeInChain_11 ?_
      refine lv_iload_n hx hb dX1_placeInChain_14 rfl (lv_at hl 2 rfl) ?_
      obtain ⟨g_i, hf⟩ := fg hf
      refine lA_X1_4 e17 hN cx hp g_i dX1_placeInChain_15 ?_
      refine lv_iload_n hx hb dX1_placeInChain_16 rfl (lv_at hl 1 rfl) ?_
      refine lv_icmp_ne (tgt := 22) hx hb dX1_placeInChain_17 (by decide) (fun c2 => ?_) (fun c2 => ?_)
      · have hf := fn hf c2
        refine lv_iinc (v := (x2 + 1)) (lv' := [(2, .int (x2 + 1)), (0, .ref (adr E 17 0)), (1, .int x1)]) hx hb dX1_placeInChain_22 hl (k := 2) rfl rfl (by decide) rfl (fun ls hl => ?_)
        refine lv_goto (tgt := 2) hx hb dX1_placeInChain_25 (by decide) ?_
        exact ih  hf e17 fr hp (lv_sub hl [1, 2, 0] rfl)
      · have hf := fp hf c2
        refine lv_iload_n hx hb dX1_placeInChain_20 rfl (lv_at hl 2 rfl) ?_
        cases hf
        exact r_i cx hp ⟨rfl, (funext fr).symm⟩ dX1_placeInChain_21
set_option maxRecDepth 100000 in
set_option maxHeartbeats 4000000 in
theorem c_X1_placeInChain (l : Launch) {E : Ev} (hN : 129 ≤ eN E) (hT : St E) {σ : SM} {α : OM} (e17 : σ 17 = α) {p1 : Int32} {rv : Int32} (hf : f_X1_placeInChain p1 α = some rv) : Met l yX1_placeInChain (wC yX1_placeInChain cX1_placeInChain 3 (some .int)) rm_X1_placeInChain (va_Pc [.ref (adr E 17 0), .int p1] (Wu E σ)) (va_Qi (fun r u => rv = r ∧ σ = u) (fun u t => Wu E u t) (eA E)) 0 0 (eA E) := by
  refine g_entry (lv := [(0, .ref (adr E 17 0)), (1, .int p1)]) (by decide) (Nat.le_of_ble_eq_true rfl) rfl ?_
  intro p e s m below meth c cx hp ls hl
  have hx := cx.1.1
  have hb := cx.1.2.1
  have fr : ∀ q, σ q = σ q := fun _ => rfl
  unfold f_X1_placeInChain at hf
  refine lv_iconst (v := 0) hx hb dX1_placeInChain_0 (by decide) ?_
  refine lv_istore_n (lv' := [(2, .int 0), (0, .ref (adr E 17 0)), (1, .int p1)]) hx hb dX1_placeInChain_1 rfl hl (by decide) rfl (fun ls hl => ?_)
  exact L_X1_placeInChain_2 l hN hT cx  _ hf e17 fr hp (lv_sub hl [1, 2, 0] rfl)
abbrev rm_X1_serve : Room := { frames := 3, cells := 0, slots := 0, locals := 67 }
set_option maxRecDepth 100000 in
set_option maxHeartbeats 4000000 in
theorem c_X1_serve (l : Launch) {E : Ev} (hN : 129 ≤ eN E) (hT : St E) {σ : SM} {o : Nat} {μ : OM} (ho : o < 11) (eM : σ o = μ) {α : OM} (e17 : σ 17 = α) {p2 : Int32} {α' : OM} (hf : f_X1_serve p2 μ α = some α') : Met l yX1_serve (wC yX1_serve cX1_serve 6 none) rm_X1_serve (va_Pc [.ref (adr E 17 0), .ref (adr E o 0), .int p2] (Wu E σ)) (va_Qv (fun u => u 17 = α' ∧ ∀ q, q ≠ 17 → u q = σ q) (fun u t => Wu E u t) (eA E)) 0 0 (eA E) := by
  refine g_entry (lv := [(0, .ref (adr E 17 0)), (1, .ref (adr E o 0)), (2, .int p2)]) (by decide) (Nat.le_of_ble_eq_true rfl) rfl ?_
  intro p e s m below meth c cx hp ls hl
  have hx := cx.1.1
  have hb := cx.1.2.1
  have fr : ∀ q, q ≠ 17 → σ q = σ q := fun _ _ => rfl
  have d_M_17 : (o : Nat) ≠ 17 := by omega
  unfold f_X1_serve at hf
  refine lv_aload_n hx hb dX1_serve_0 rfl (lv_at hl 0 rfl) ?_
  refine lv_aload_n hx hb dX1_serve_1 rfl (lv_at hl 1 rfl) ?_
  refine lv_iload_n hx hb dX1_serve_2 rfl (lv_at hl 2 rfl) ?_
  obtain ⟨r1, hc, hf⟩ := fb hf
  refine x_i hp (y_V (As := [.ref (adr E o 0), .int p2]) (rest := []) cx hp hl (c_X1_firstAvailable l hN hT ho eM e17 hc) (cw_X1_50 cx (mc := 0) (ms := 0) rfl rfl ⟨by decide, by decide⟩) (rC_X1 hN cx hp) rfl rfl (Nat.le_of_ble_eq_true rfl) dX1_serve_3 ⟨Nat.zero_le _, Nat.zero_le _⟩) (fun r_c u_c H locs hq hp => ?_)
  obtain ⟨rfl, rfl⟩ := hq
  refine lv_istore_n (lv' := [(3, .int r1), (0, .ref (adr E 17 0)), (1, .ref (adr E o 0)), (2, .int p2)]) hx hb dX1_serve_6 rfl hl (by decide) rfl (fun ls hl => ?_)
  refine lv_aload_n hx hb dX1_serve_7 rfl (lv_at hl 1 rfl) ?_
  refine gF_X1_9 rfl hN cx hp dX1_serve_8 ?_
  refine lv_iload_n hx hb dX1_serve_11 rfl (lv_at hl 3 rfl) ?_
  refine lv_iload_n hx hb dX1_serve_12 rfl (lv_at hl 0 rfl) ?_
  obtain ⟨g_i, hf⟩ := fg hf
  obtain ⟨α2, e_l, hf⟩ := fl hf
  refine sA_X1_1 e17 hN cx hp g_i dX1_serve_13 (fun u H locs e_u n_u hp => ?_)
  have e17 := e_u.trans e_l
  have eM := (n_u _ d_M_17).trans eM
  have fr : ∀ q, q ≠ 17 → u q = σ q := fun q h0 => (n_u q h0).trans (fr q h0)
  refine lv_aload_n hx hb dX1_serve_14 rfl (lv_at hl 2 rfl) ?_
  refine lv_iload_n hx hb dX1_serve_15 rfl (lv_at hl 0 rfl) ?_
  obtain ⟨r3, hc, hf⟩ := fb hf
  refine x_i hp (y_V (As := [.int r1]) (rest := []) cx hp hl (c_X5_holderOf l hN hT ho eM hc) (cw_X1_54 cx (mc := 0) (ms := 0) rfl rfl ⟨by decide, by decide⟩) (rC_X5 ho hN cx hp) rfl rfl (Nat.le_of_ble_eq_true rfl) dX1_serve_16 ⟨Nat.zero_le _, Nat.zero_le _⟩) (fun r_c u_c H locs hq hp => ?_)
  obtain ⟨rfl, rfl⟩ := hq
  refine lv_istore (lv' := [(4, .int r3), (3, .int r1), (0, .ref (adr E 17 0)), (1, .ref (adr E o 0)), (2, .int p2)]) hx hb dX1_serve_19 hl (by decide) rfl (fun ls hl => ?_)
  refine lv_iload hx hb dX1_serve_21 (lv_at hl 0 rfl) ?_
  refine lv_iconst (v := (-1)) hx hb dX1_serve_23 (by decide) ?_
  refine lv_icmp_eq (tgt := 43) hx hb dX1_serve_24 (by decide) (fun c4 => ?_) (fun c4 => ?_)
  · have hf := fp hf c4
    refine lv_aload_n hx hb dX1_serve_43 rfl (lv_at hl 2 rfl) ?_
    refine lv_aload_n hx hb dX1_serve_44 rfl (lv_at hl 2 rfl) ?_
    refine gF_X1_25 e17 hN cx hp dX1_serve_45 ?_
    refine lv_iconst (v := 1) hx hb dX1_serve_48 (by decide) ?_
    refine lv_isub hx hb dX1_serve_49 ?_
    obtain ⟨α5, hc, hf⟩ := fb hf
    refine x_v hp (y_V (As := [.int ((α2.1 0 4) - 1)]) (rest := []) cx hp hl (c_X1_finishFrom l hN hT e17 hc) (cw_X1_57 cx (mc := 0) (ms := 0) rfl rfl ⟨by decide, by decide⟩) (rC_X1 hN cx hp) rfl rfl (Nat.le_of_ble_eq_true rfl) dX1_serve_50 ⟨Nat.zero_le _, Nat.zero_le _⟩) (fun u_c H locs hq hp => ?_)
    obtain ⟨e_0, n_u⟩ := hq
    have e17 := e_0
    have eM := (n_u _ d_M_17).trans eM
    have fr : ∀ q, q ≠ 17 → u_c q = σ q := fun q h0 => (n_u q h0).trans (fr q h0)
    obtain ⟨u, rfl⟩ : ∃ z, u_c = z := ⟨_, rfl⟩
    cases hf
    exact r_v cx hp ⟨e17, fr⟩ dX1_serve_53
  · have hf := fn hf c4
    refine lv_iload hx hb dX1_serve_27 (lv_at hl 0 rfl) ?_
    refine lv_iload_n hx hb dX1_serve_29 rfl (lv_at hl 4 rfl) ?_
    refine lv_icmp_eq (tgt := 43) hx hb dX1_serve_30 (by decide) (fun c6 => ?_) (fun c6 => ?_)
    · have hf := fp hf c6
      refine lv_aload_n hx hb dX1_serve_43 rfl (lv_at hl 2 rfl) ?_
      refine lv_aload_n hx hb dX1_serve_44 rfl (lv_at hl 2 rfl) ?_
      refine gF_X1_25 e17 hN cx hp dX1_serve_45 ?_
      refine lv_iconst (v := 1) hx hb dX1_serve_48 (by decide) ?_
      refine lv_isub hx hb dX1_serve_49 ?_
      obtain ⟨α7, hc, hf⟩ := fb hf
      refine x_v hp (y_V (As := [.int ((α2.1 0 4) - 1)]) (rest := []) cx hp hl (c_X1_finishFrom l hN hT e17 hc) (cw_X1_57 cx (mc := 0) (ms := 0) rfl rfl ⟨by decide, by decide⟩) (rC_X1 hN cx hp) rfl rfl (Nat.le_of_ble_eq_true rfl) dX1_serve_50 ⟨Nat.zero_le _, Nat.zero_le _⟩) (fun u_c H locs hq hp => ?_)
      obtain ⟨e_0, n_u⟩ := hq
      have e17 := e_0
      have eM := (n_u _ d_M_17).trans eM
      have fr : ∀ q, q ≠ 17 → u_c q = σ q := fun q h0 => (n_u q h0).trans (fr q h0)
      obtain ⟨u, rfl⟩ : ∃ z, u_c = z := ⟨_, rfl⟩
      cases hf
      exact r_v cx hp ⟨e17, fr⟩ dX1_serve_53
    · have hf := fn hf c6
      refine lv_aload_n hx hb dX1_serve_33 rfl (lv_at hl 2 rfl) ?_
      refine gF_X1_15 rfl hN cx hp dX1_serve_34 ?_
      refine lv_iload hx hb dX1_serve_37 (lv_at hl 0 rfl) ?_
      obtain ⟨g_i, hf⟩ := fg hf
      refine lA_X1_2 e17 hN cx hp g_i dX1_serve_39 ?_
      refine lv_if_eq (tgt := 54) hx hb dX1_serve_40 (by decide) (fun c8 => ?_) (fun c8 => ?_)
      · have hf := fp hf c8
        refine lv_aload_n hx hb dX1_serve_54 rfl (lv_at hl 2 rfl) ?_
        refine lv_iload hx hb dX1_serve_55 (lv_at hl 0 rfl) ?_
        obtain ⟨r9, hc, hf⟩ := fb hf
        refine x_i hp (y_V (As := [.int r3]) (rest := []) cx hp hl (c_X1_placeInChain l hN hT e17 hc) (cw_X1_60 cx (mc := 0) (ms := 0) rfl rfl ⟨by decide, by decide⟩) (rC_X1 hN cx hp) rfl rfl (Nat.le_of_ble_eq_true rfl) dX1_serve_57 ⟨Nat.zero_le _, Nat.zero_le _⟩) (fun r_c u_c H locs hq hp => ?_)
        obtain ⟨rfl, rfl⟩ := hq
        refine lv_istore (lv' := [(5, .int r9), (4, .int r3), (3, .int r1), (0, .ref (adr E 17 0)), (1, .ref (adr E o 0)), (2, .int p2)]) hx hb dX1_serve_60 hl (by decide) rfl (fun ls hl => ?_)
        refine lv_iload hx hb dX1_serve_62 (lv_at hl 0 rfl) ?_
        refine lv_iconst (v := (-1)) hx hb dX1_serve_64 (by decide) ?_
        refine lv_icmp_ne (tgt := 77) hx hb dX1_serve_65 (by decide) (fun c10 => ?_) (fun c10 => ?_)
        · have hf := fn hf c10
          refine lv_aload_n hx hb dX1_serve_77 rfl (lv_at hl 3 rfl) ?_
          refine lv_iload hx hb dX1_serve_78 (lv_at hl 0 rfl) ?_
          obtain ⟨α11, hc, hf⟩ := fb hf
          refine x_v hp (y_V (As := [.int r9]) (rest := []) cx hp hl (c_X1_finishFrom l hN hT e17 hc) (cw_X1_57 cx (mc := 0) (ms := 0) rfl rfl ⟨by decide, by decide⟩) (rC_X1 hN cx hp) rfl rfl (Nat.le_of_ble_eq_true rfl) dX1_serve_80 ⟨Nat.zero_le _, Nat.zero_le _⟩) (fun u_c H locs hq hp => ?_)
          obtain ⟨e_0, n_u⟩ := hq
          have e17 := e_0
          have eM := (n_u _ d_M_17).trans eM
          have fr : ∀ q, q ≠ 17 → u_c q = σ q := fun q h0 => (n_u q h0).trans (fr q h0)
          obtain ⟨u, rfl⟩ : ∃ z, u_c = z := ⟨_, rfl⟩
          cases hf
          exact r_v cx hp ⟨e17, fr⟩ dX1_serve_83
        · have hf := fp hf c10
          refine lv_aload_n hx hb dX1_serve_68 rfl (lv_at hl 3 rfl) ?_
          refine lv_iload hx hb dX1_serve_69 (lv_at hl 1 rfl) ?_
          obtain ⟨α12, hc, hf⟩ := fb hf
          refine x_v hp (y_V (As := [.int r3]) (rest := []) cx hp hl (c_X1_append l hN hT e17 hc) (cw_X1_33 cx (mc := 0) (ms := 0) rfl rfl ⟨by decide, by decide⟩) (rC_X1 hN cx hp) rfl rfl (Nat.le_of_ble_eq_true rfl) dX1_serve_71 ⟨Nat.zero_le _, Nat.zero_le _⟩) (fun u_c H locs hq hp => ?_)
          obtain ⟨e_0, n_u⟩ := hq
          have e17 := e_0
          have eM := (n_u _ d_M_17).trans eM
          have fr : ∀ q, q ≠ 17 → u_c q = σ q := fun q h0 => (n_u q h0).trans (fr q h0)
          obtain ⟨u, rfl⟩ : ∃ z, u_c = z := ⟨_, rfl⟩
          refine lv_goto (tgt := 83) hx hb dX1_serve_74 (by decide) ?_
          cases hf
          exact r_v cx hp ⟨e17, fr⟩ dX1_serve_83
      · have hf := fn hf c8
        refine lv_aload_n hx hb dX1_serve_43 rfl (lv_at hl 2 rfl) ?_
        refine lv_aload_n hx hb dX1_serve_44 rfl (lv_at hl 2 rfl) ?_
        refine gF_X1_25 e17 hN cx hp dX1_serve_45 ?_
        refine lv_iconst (v := 1) hx hb dX1_serve_48 (by decide) ?_
        refine lv_isub hx hb dX1_serve_49 ?_
        obtain ⟨α13, hc, hf⟩ := fb hf
        refine x_v hp (y_V (As := [.int ((α2.1 0 4) - 1)]) (rest := []) cx hp hl (c_X1_finishFrom l hN hT e17 hc) (cw_X1_57 cx (mc := 0) (ms := 0) rfl rfl ⟨by decide, by decide⟩) (rC_X1 hN cx hp) rfl rfl (Nat.le_of_ble_eq_true rfl) dX1_serve_50 ⟨Nat.zero_le _, Nat.zero_le _⟩) (fun u_c H locs hq hp => ?_)
        obtain ⟨e_0, n_u⟩ := hq
        have e17 := e_0
        have eM := (n_u _ d_M_17).trans eM
        have fr : ∀ q, q ≠ 17 → u_c q = σ q := fun q h0 => (n_u q h0).trans (fr q h0)
        obtain ⟨u, rfl⟩ : ∃ z, u_c = z := ⟨_, rfl⟩
        cases hf
        exact r_v cx hp ⟨e17, fr⟩ dX1_serve_53
abbrev rm_X1_decide : Room := { frames := 4, cells := 0, slots := 0, locals := 92 }
set_option maxRecDepth 100000 in
set_option maxHeartbeats 4000000 in
theorem L_X1_decide_7 {p : Program} {e : Env} {s : State} {m : MethodId} {args : Array Value} {below : List Frame} {meth : Method} {c : Code} (l : Launch) {E : Ev} (hN : 129 ≤ eN E) (hT : St E) {σ : SM} {Q : State → Prop} (cx : Cx E p s m meth c args RX1 cX1_decide 3 none) {o : Nat} (ho : o < 11) {μ : OM} {α' : OM} (K : ∀ (u : SM) (H : Heap) (locs : List Loc) (ls : Array Slot), u o = μ → u 17 = α' → (∀ q, q ≠ 17 → u q = σ q) → Hp E u s H locs → lv_has ls 3 [(0, .ref (adr E 17 0)), (1, .ref (adr E o 0))] → W p l e rm_X1_decide s m args below meth c H locs 0 0 Q (F0 m 33 ls [])) : ∀ (n : Nat) {x2 : Int32} {α : OM}, f_X1_decide_7  n x2 α = some α' → ∀ {u : SM} {H : Heap} {locs : List Loc} {ls : Array Slot}, u o = μ → u 17 = α → (∀ q, q ≠ 17 → u q = σ q) → Hp E u s H locs → lv_has ls 3 [(0, .ref (adr E 17 0)), (1, .ref (adr E o 0)), (2, .int x2)] → W p l e rm_X1_decide s m args below meth c H locs 0 0 Q (F0 m 7 ls []) := by
  have hx := cx.1.1
  have hb := cx.1.2.1
  have d_M_17 : (o : Nat) ≠ 17 := by omega
  intro n
  induction n with
  | zero =>
    intro x2 α hf
    exact absurd hf (by simp [f_X1_decide_7])
  | succ n ih =>
    intro x2 α hf u H locs ls eM e17 fr hp hl
    rw [f_X1_decide_7] at hf
    refine lv_iload_n hx hb dX1_decide_7 rfl (lv_at hl 2 rfl) ?_
    refine lv_bipush (v := 8) hx hb dX1_decide_8 (by decide) ?_
    refine lv_icmp_ge (tgt := 33) hx hb dX1_decide_10 (by decide) (fun c2 => ?_) (fun c2 => ?_)
    · have hf := fp hf c2
      cases hf
      exact K _ _ _ _ eM e17 fr hp (lv_sub hl [0, 1] rfl)
    · have hf := fn hf c2
      refine lv_aload_n hx hb dX1_decide_13 rfl (lv_at hl 0 rfl) ?_
      refine gF_X1_9 rfl hN cx hp dX1_decide_14 ?_
      refine lv_iload_n hx hb dX1_decide_17 rfl (lv_at hl 2 rfl) ?_
      refine lv_iconst (v := (-1)) hx hb dX1_decide_18 (by decide) ?_
      obtain ⟨g_i, hf⟩ := fg hf
      obtain ⟨α3, e_l, hf⟩ := fl hf
      refine sA_X1_1 e17 hN cx hp g_i dX1_decide_19 (fun u H locs e_u n_u hp => ?_)
      have e17 := e_u.trans e_l
      have eM := (n_u _ d_M_17).trans eM
      have fr : ∀ q, q ≠ 17 → u q = σ q := fun q h0 => (n_u q h0).trans (fr q h0)
      refine lv_aload_n hx hb dX1_decide_20 rfl (lv_at hl 0 rfl) ?_
      refine gF_X1_15 rfl hN cx hp dX1_decide_21 ?_
      refine lv_iload_n hx hb dX1_decide_24 rfl (lv_at hl 2 rfl) ?_
      refine lv_iconst (v := 0) hx hb dX1_decide_25 (by decide) ?_
      obtain ⟨g_i, hf⟩ := fg hf
      obtain ⟨α4, e_l, hf⟩ := fl hf
      refine sA_X1_2 e17 hN cx hp rfl g_i dX1_decide_26 (fun u H locs e_u n_u hp => ?_)
      have e17 := e_u.trans e_l
      have eM := (n_u _ d_M_17).trans eM
      have fr : ∀ q, q ≠ 17 → u q = σ q := fun q h0 => (n_u q h0).trans (fr q h0)
      refine lv_iinc (v := (x2 + 1)) (lv' := [(2, .int (x2 + 1)), (0, .ref (adr E 17 0)), (1, .ref (adr E o 0))]) hx hb dX1_decide_27 hl (k := 2) rfl rfl (by decide) rfl (fun ls hl => ?_)
      refine lv_goto (tgt := 7) hx hb dX1_decide_30 (by decide) ?_
      exact ih  hf eM e17 fr hp (lv_sub hl [1, 2, 0] rfl)
set_option maxRecDepth 100000 in
set_option maxHeartbeats 4000000 in
theorem L_X1_decide_35 {p : Program} {e : Env} {s : State} {m : MethodId} {args : Array Value} {below : List Frame} {meth : Method} {c : Code} (l : Launch) {E : Ev} (hN : 129 ≤ eN E) (hT : St E) {σ : SM} {Q : State → Prop} (cx : Cx E p s m meth c args RX1 cX1_decide 3 none) {o : Nat} (ho : o < 11) {μ : OM} {α' : OM} (K : ∀ (u : SM) (H : Heap) (locs : List Loc) (ls : Array Slot), u o = μ → u 17 = α' → (∀ q, q ≠ 17 → u q = σ q) → Hp E u s H locs → lv_has ls 3 [(0, .ref (adr E 17 0)), (1, .ref (adr E o 0))] → W p l e rm_X1_decide s m args below meth c H locs 0 0 Q (F0 m 54 ls [])) : ∀ (n : Nat) {x2 : Int32} {α : OM}, f_X1_decide_35  n x2 α = some α' → ∀ {u : SM} {H : Heap} {locs : List Loc} {ls : Array Slot}, u o = μ → u 17 = α → (∀ q, q ≠ 17 → u q = σ q) → Hp E u s H locs → lv_has ls 3 [(0, .ref (adr E 17 0)), (1, .ref (adr E o 0)), (2, .int x2)] → W p l e rm_X1_decide s m args below meth c H locs 0 0 Q (F0 m 35 ls []) := by
  have hx := cx.1.1
  have hb := cx.1.2.1
  have d_M_17 : (o : Nat) ≠ 17 := by omega
  intro n
  induction n with
  | zero =>
    intro x2 α hf
    exact absurd hf (by simp [f_X1_decide_35])
  | succ n ih =>
    intro x2 α hf u H locs ls eM e17 fr hp hl
    rw [f_X1_decide_35] at hf
    refine lv_iload_n hx hb dX1_decide_35 rfl (lv_at hl 2 rfl) ?_
    refine lv_bipush (v := 8) hx hb dX1_decide_36 (by decide) ?_
    refine lv_icmp_ge (tgt := 54) hx hb dX1_decide_38 (by decide) (fun c6 => ?_) (fun c6 => ?_)
    · have hf := fp hf c6
      cases hf
      exact K _ _ _ _ eM e17 fr hp (lv_sub hl [0, 1] rfl)
    · have hf := fn hf c6
      refine lv_aload_n hx hb dX1_decide_41 rfl (lv_at hl 0 rfl) ?_
      refine gF_X1_19 rfl hN cx hp dX1_decide_42 ?_
      refine lv_iload_n hx hb dX1_decide_45 rfl (lv_at hl 2 rfl) ?_
      refine lv_iconst (v := 0) hx hb dX1_decide_46 (by decide) ?_
      obtain ⟨g_i, hf⟩ := fg hf
      obtain ⟨α7, e_l, hf⟩ := fl hf
      refine sA_X1_3 e17 hN cx hp rfl g_i dX1_decide_47 (fun u H locs e_u n_u hp => ?_)
      have e17 := e_u.trans e_l
      have eM := (n_u _ d_M_17).trans eM
      have fr : ∀ q, q ≠ 17 → u q = σ q := fun q h0 => (n_u q h0).trans (fr q h0)
      refine lv_iinc (v := (x2 + 1)) (lv' := [(2, .int (x2 + 1)), (0, .ref (adr E 17 0)), (1, .ref (adr E o 0))]) hx hb dX1_decide_48 hl (k := 2) rfl rfl (by decide) rfl (fun ls hl => ?_)
      refine lv_goto (tgt := 35) hx hb dX1_decide_51 (by decide) ?_
      exact ih  hf eM e17 fr hp (lv_sub hl [1, 2, 0] rfl)
set_option maxRecDepth 100000 in
set_option maxHeartbeats 4000000 in
theorem L_X1_decide_56 {p : Program} {e : Env} {s : State} {m : MethodId} {args : Array Value} {below : List Frame} {meth : Method} {c : Code} (l : Launch) {E : Ev} (hN : 129 ≤ eN E) (hT : St E) {σ : SM} (cx : Cx E p s m meth c args RX1 cX1_decide 3 none) {o : Nat} (ho : o < 11) {μ : OM} {α' : OM} : ∀ (n : Nat) {x2 : Int32} {α : OM}, f_X1_decide_56 μ n x2 α = some α' → ∀ {u : SM} {H : Heap} {locs : List Loc} {ls : Array Slot}, u o = μ → u 17 = α → (∀ q, q ≠ 17 → u q = σ q) → Hp E u s H locs → lv_has ls 3 [(0, .ref (adr E 17 0)), (1, .ref (adr E o 0)), (2, .int x2)] → W p l e rm_X1_decide s m args below meth c H locs 0 0 (MQ below (va_Qv (fun u => u 17 = α' ∧ ∀ q, q ≠ 17 → u q = σ q) (fun u t => Wu E u t) (eA E)) args s 0 0 (eA E)) (F0 m 56 ls []) := by
  have hx := cx.1.1
  have hb := cx.1.2.1
  have d_M_17 : (o : Nat) ≠ 17 := by omega
  intro n
  induction n with
  | zero =>
    intro x2 α hf
    exact absurd hf (by simp [f_X1_decide_56])
  | succ n ih =>
    intro x2 α hf u H locs ls eM e17 fr hp hl
    rw [f_X1_decide_56] at hf
    refine lv_iload_n hx hb dX1_decide_56 rfl (lv_at hl 2 rfl) ?_
    refine lv_bipush (v := 16) hx hb dX1_decide_57 (by decide) ?_
    refine lv_icmp_ge (tgt := 107) hx hb dX1_decide_59 (by decide) (fun c9 => ?_) (fun c9 => ?_)
    · have hf := fp hf c9
      cases hf
      exact r_v cx hp ⟨e17, fr⟩ dX1_decide_107
    · have hf := fn hf c9
      refine lv_aload_n hx hb dX1_decide_62 rfl (lv_at hl 0 rfl) ?_
      refine gF_X1_25 e17 hN cx hp dX1_decide_63 ?_
      refine lv_if_ne (tgt := 78) hx hb dX1_decide_66 (by decide) (fun c10 => ?_) (fun c10 => ?_)
      · have hf := fn hf c10
        refine lv_aload_n hx hb dX1_decide_78 rfl (lv_at hl 0 rfl) ?_
        refine gF_X1_25 e17 hN cx hp dX1_decide_79 ?_
        refine lv_if_le (tgt := 101) hx hb dX1_decide_82 (by decide) (fun c11 => ?_) (fun c11 => ?_)
        · have hf := fp hf c11
          refine lv_iinc (v := (x2 + 1)) (lv' := [(2, .int (x2 + 1)), (0, .ref (adr E 17 0)), (1, .ref (adr E o 0))]) hx hb dX1_decide_101 hl (k := 2) rfl rfl (by decide) rfl (fun ls hl => ?_)
          refine lv_goto (tgt := 56) hx hb dX1_decide_104 (by decide) ?_
          exact ih  hf eM e17 fr hp (lv_sub hl [1, 2, 0] rfl)
        · have hf := fn hf c11
          refine lv_aload_n hx hb dX1_decide_85 rfl (lv_at hl 0 rfl) ?_
          refine lv_aload_n hx hb dX1_decide_86 rfl (lv_at hl 1 rfl) ?_
          refine lv_aload_n hx hb dX1_decide_87 rfl (lv_at hl 0 rfl) ?_
          refine gF_X1_22 rfl hN cx hp dX1_decide_88 ?_
          refine lv_aload_n hx hb dX1_decide_91 rfl (lv_at hl 0 rfl) ?_
          refine gF_X1_25 e17 hN cx hp dX1_decide_92 ?_
          refine lv_iconst (v := 1) hx hb dX1_decide_95 (by decide) ?_
          refine lv_isub hx hb dX1_decide_96 ?_
          obtain ⟨g_i, hf⟩ := fg hf
          refine lA_X1_4 e17 hN cx hp g_i dX1_decide_97 ?_
          obtain ⟨α12, hc, hf⟩ := fb hf
          refine x_v hp (y_V (As := [.ref (adr E o 0), .int (α.1 4 (Int32.toNatClampNeg ((α.1 0 4) - 1)))]) (rest := []) cx hp hl (c_X1_serve l hN hT ho eM e17 hc) (cw_X1_37 cx (mc := 0) (ms := 0) rfl rfl ⟨by decide, by decide⟩) (rC_X1 hN cx hp) rfl rfl (Nat.le_of_ble_eq_true rfl) dX1_decide_98 ⟨Nat.zero_le _, Nat.zero_le _⟩) (fun u_c H locs hq hp => ?_)
          obtain ⟨e_0, n_u⟩ := hq
          have e17 := e_0
          have eM := (n_u _ d_M_17).trans eM
          have fr : ∀ q, q ≠ 17 → u_c q = σ q := fun q h0 => (n_u q h0).trans (fr q h0)
          obtain ⟨u, rfl⟩ : ∃ z, u_c = z := ⟨_, rfl⟩
          refine lv_iinc (v := (x2 + 1)) (lv' := [(2, .int (x2 + 1)), (0, .ref (adr E 17 0)), (1, .ref (adr E o 0))]) hx hb dX1_decide_101 hl (k := 2) rfl rfl (by decide) rfl (fun ls hl => ?_)
          refine lv_goto (tgt := 56) hx hb dX1_decide_104 (by decide) ?_
          exact ih  hf eM e17 fr hp (lv_sub hl [1, 2, 0] rfl)
      · have hf := fp hf c10
        refine lv_aload_n hx hb dX1_decide_69 rfl (lv_at hl 0 rfl) ?_
        refine lv_aload_n hx hb dX1_decide_70 rfl (lv_at hl 0 rfl) ?_
        refine lv_aload_n hx hb dX1_decide_71 rfl (lv_at hl 1 rfl) ?_
        obtain ⟨r13, hc, hf⟩ := fb hf
        refine x_i hp (y_V (As := [.ref (adr E o 0)]) (rest := [.ref (adr E 17 0)]) cx hp hl (c_X1_nextInTurn l hN hT ho eM e17 hc) (cw_X1_29 cx (mc := 0) (ms := 0) rfl rfl ⟨by decide, by decide⟩) (rC_X1 hN cx hp) rfl rfl (Nat.le_of_ble_eq_true rfl) dX1_decide_72 ⟨Nat.zero_le _, Nat.zero_le _⟩) (fun r_c u_c H locs hq hp => ?_)
        obtain ⟨rfl, rfl⟩ := hq
        obtain ⟨α14, hc, hf⟩ := fb hf
        refine x_v hp (y_V (As := [.int r13]) (rest := []) cx hp hl (c_X1_append l hN hT e17 hc) (cw_X1_33 cx (mc := 0) (ms := 0) rfl rfl ⟨by decide, by decide⟩) (rC_X1 hN cx hp) rfl rfl (Nat.le_of_ble_eq_true rfl) dX1_decide_75 ⟨Nat.zero_le _, Nat.zero_le _⟩) (fun u_c H locs hq hp => ?_)
        obtain ⟨e_0, n_u⟩ := hq
        have e17 := e_0
        have eM := (n_u _ d_M_17).trans eM
        have fr : ∀ q, q ≠ 17 → u_c q = σ q := fun q h0 => (n_u q h0).trans (fr q h0)
        obtain ⟨u, rfl⟩ : ∃ z, u_c = z := ⟨_, rfl⟩
        refine lv_aload_n hx hb dX1_decide_78 rfl (lv_at hl 0 rfl) ?_
        refine gF_X1_25 e17 hN cx hp dX1_decide_79 ?_
        refine lv_if_le (tgt := 101) hx hb dX1_decide_82 (by decide) (fun c15 => ?_) (fun c15 => ?_)
        · have hf := fp hf c15
          refine lv_iinc (v := (x2 + 1)) (lv' := [(2, .int (x2 + 1)), (0, .ref (adr E 17 0)), (1, .ref (adr E o 0))]) hx hb dX1_decide_101 hl (k := 2) rfl rfl (by decide) rfl (fun ls hl => ?_)
          refine lv_goto (tgt := 56) hx hb dX1_decide_104 (by decide) ?_
          exact ih  hf eM e17 fr hp (lv_sub hl [1, 2, 0] rfl)
        · have hf := fn hf c15
          refine lv_aload_n hx hb dX1_decide_85 rfl (lv_at hl 0 rfl) ?_
          refine lv_aload_n hx hb dX1_decide_86 rfl (lv_at hl 1 rfl) ?_
          refine lv_aload_n hx hb dX1_decide_87 rfl (lv_at hl 0 rfl) ?_
          refine gF_X1_22 rfl hN cx hp dX1_decide_88 ?_
          refine lv_aload_n hx hb dX1_decide_91 rfl (lv_at hl 0 rfl) ?_
          refine gF_X1_25 e17 hN cx hp dX1_decide_92 ?_
          refine lv_iconst (v := 1) hx hb dX1_decide_95 (by decide) ?_
          refine lv_isub hx hb dX1_decide_96 ?_
          obtain ⟨g_i, hf⟩ := fg hf
          refine lA_X1_4 e17 hN cx hp g_i dX1_decide_97 ?_
          obtain ⟨α16, hc, hf⟩ := fb hf
          refine x_v hp (y_V (As := [.ref (adr E o 0), .int (α14.1 4 (Int32.toNatClampNeg ((α14.1 0 4) - 1)))]) (rest := []) cx hp hl (c_X1_serve l hN hT ho eM e17 hc) (cw_X1_37 cx (mc := 0) (ms := 0) rfl rfl ⟨by decide, by decide⟩) (rC_X1 hN cx hp) rfl rfl (Nat.le_of_ble_eq_true rfl) dX1_decide_98 ⟨Nat.zero_le _, Nat.zero_le _⟩) (fun u_c H locs hq hp => ?_)
          obtain ⟨e_0, n_u⟩ := hq
          have e17 := e_0
          have eM := (n_u _ d_M_17).trans eM
          have fr : ∀ q, q ≠ 17 → u_c q = σ q := fun q h0 => (n_u q h0).trans (fr q h0)
          obtain ⟨u, rfl⟩ : ∃ z, u_c = z := ⟨_, rfl⟩
          refine lv_iinc (v := (x2 + 1)) (lv' := [(2, .int (x2 + 1)), (0, .ref (adr E 17 0)), (1, .ref (adr E o 0))]) hx hb dX1_decide_101 hl (k := 2) rfl rfl (by decide) rfl (fun ls hl => ?_)
          refine lv_goto (tgt := 56) hx hb dX1_decide_104 (by decide) ?_
          exact ih  hf eM e17 fr hp (lv_sub hl [1, 2, 0] rfl)
set_option maxRecDepth 100000 in
set_option maxHeartbeats 4000000 in
theorem c_X1_decide (l : Launch) {E : Ev} (hN : 129 ≤ eN E) (hT : St E) {σ : SM} {o : Nat} {μ : OM} (ho : o < 11) (eM : σ o = μ) {α : OM} (e17 : σ 17 = α)  {α' : OM} (hf : f_X1_decide μ α = some α') : Met l yX1_decide (wC yX1_decide cX1_decide 3 none) rm_X1_decide (va_Pc [.ref (adr E 17 0), .ref (adr E o 0)] (Wu E σ)) (va_Qv (fun u => u 17 = α' ∧ ∀ q, q ≠ 17 → u q = σ q) (fun u t => Wu E u t) (eA E)) 0 0 (eA E) := by
  refine g_entry (lv := [(0, .ref (adr E 17 0)), (1, .ref (adr E o 0))]) (by decide) (Nat.le_of_ble_eq_true rfl) rfl ?_
  intro p e s m below meth c cx hp ls hl
  have hx := cx.1.1
  have hb := cx.1.2.1
  have fr : ∀ q, q ≠ 17 → σ q = σ q := fun _ _ => rfl
  have d_M_17 : (o : Nat) ≠ 17 := by omega
  unfold f_X1_decide at hf
  refine lv_aload_n hx hb dX1_decide_0 rfl (lv_at hl 0 rfl) ?_
  refine lv_iconst (v := 0) hx hb dX1_decide_1 (by decide) ?_
  obtain ⟨α1, e_l, hf⟩ := fl hf
  refine pF_X1_25 e17 hN cx hp dX1_decide_2 (fun u H locs e_u n_u hp => ?_)
  have e17 := e_u.trans e_l
  have eM := (n_u _ d_M_17).trans eM
  have fr : ∀ q, q ≠ 17 → u q = σ q := fun q h0 => (n_u q h0).trans (fr q h0)
  refine lv_iconst (v := 0) hx hb dX1_decide_5 (by decide) ?_
  refine lv_istore_n (lv' := [(2, .int 0), (0, .ref (adr E 17 0)), (1, .ref (adr E o 0))]) hx hb dX1_decide_6 rfl hl (by decide) rfl (fun ls hl => ?_)
  obtain ⟨α5, hc, hf⟩ := fb hf
  refine L_X1_decide_7 l hN hT cx ho (fun u H locs ls eM e17 fr hp hl => ?_) _ hc eM e17 fr hp (lv_sub hl [1, 2, 0] rfl)
  refine lv_iconst (v := 0) hx hb dX1_decide_33 (by decide) ?_
  refine lv_istore_n (lv' := [(2, .int 0), (0, .ref (adr E 17 0)), (1, .ref (adr E o 0))]) hx hb dX1_decide_34 rfl hl (by decide) rfl (fun ls hl => ?_)
  obtain ⟨α8, hc, hf⟩ := fb hf
  refine L_X1_decide_35 l hN hT cx ho (fun u H locs ls eM e17 fr hp hl => ?_) _ hc eM e17 fr hp (lv_sub hl [1, 2, 0] rfl)
  refine lv_iconst (v := 0) hx hb dX1_decide_54 (by decide) ?_
  refine lv_istore_n (lv' := [(2, .int 0), (0, .ref (adr E 17 0)), (1, .ref (adr E o 0))]) hx hb dX1_decide_55 rfl hl (by decide) rfl (fun ls hl => ?_)
  exact L_X1_decide_56 l hN hT cx ho _ hf eM e17 fr hp (lv_sub hl [1, 2, 0] rfl)
abbrev rm_X1_givenTo : Room := { frames := 0, cells := 0, slots := 0, locals := 0 }
set_option maxRecDepth 100000 in
set_option maxHeartbeats 4000000 in
theorem c_X1_givenTo (l : Launch) {E : Ev} (hN : 129 ≤ eN E) (hT : St E) {σ : SM} {α : OM} (e17 : σ 17 = α) {p1 : Int32} {rv : Int32} (hf : f_X1_givenTo p1 α = some rv) : Met l yX1_givenTo (wC yX1_givenTo cX1_givenTo 2 (some .int)) rm_X1_givenTo (va_Pc [.ref (adr E 17 0), .int p1] (Wu E σ)) (va_Qi (fun r u => rv = r ∧ σ = u) (fun u t => Wu E u t) (eA E)) 0 0 (eA E) := by
  refine g_entry (lv := [(0, .ref (adr E 17 0)), (1, .int p1)]) (by decide) (Nat.le_of_ble_eq_true rfl) rfl ?_
  intro p e s m below meth c cx hp ls hl
  have hx := cx.1.1
  have hb := cx.1.2.1
  have fr : ∀ q, σ q = σ q := fun _ => rfl
  unfold f_X1_givenTo at hf
  refine lv_iload_n hx hb dX1_givenTo_0 rfl (lv_at hl 1 rfl) ?_
  refine lv_if_lt (tgt := 10) hx hb dX1_givenTo_1 (by decide) (fun c1 => ?_) (fun c1 => ?_)
  · have hf := fp hf c1
    refine lv_iconst (v := (-1)) hx hb dX1_givenTo_10 (by decide) ?_
    refine lv_goto (tgt := 20) hx hb dX1_givenTo_11 (by decide) ?_
    cases hf
    exact r_i cx hp ⟨rfl, (funext fr).symm⟩ dX1_givenTo_20
  · have hf := fn hf c1
    refine lv_iload_n hx hb dX1_givenTo_4 rfl (lv_at hl 1 rfl) ?_
    refine lv_bipush (v := 8) hx hb dX1_givenTo_5 (by decide) ?_
    refine lv_icmp_lt (tgt := 14) hx hb dX1_givenTo_7 (by decide) (fun c2 => ?_) (fun c2 => ?_)
    · have hf := fp hf c2
      refine lv_aload_n hx hb dX1_givenTo_14 rfl (lv_at hl 0 rfl) ?_
      refine gF_X1_9 rfl hN cx hp dX1_givenTo_15 ?_
      refine lv_iload_n hx hb dX1_givenTo_18 rfl (lv_at hl 1 rfl) ?_
      obtain ⟨g_i, hf⟩ := fg hf
      refine lA_X1_1 e17 hN cx hp g_i dX1_givenTo_19 ?_
      cases hf
      exact r_i cx hp ⟨rfl, (funext fr).symm⟩ dX1_givenTo_20
    · have hf := fn hf c2
      refine lv_iconst (v := (-1)) hx hb dX1_givenTo_10 (by decide) ?_
      refine lv_goto (tgt := 20) hx hb dX1_givenTo_11 (by decide) ?_
      cases hf
      exact r_i cx hp ⟨rfl, (funext fr).symm⟩ dX1_givenTo_20
abbrev rm_X1_applyTo : Room := { frames := 2, cells := 0, slots := 0, locals := 43 }
set_option maxRecDepth 100000 in
set_option maxHeartbeats 4000000 in
theorem L_X1_applyTo_4 {p : Program} {e : Env} {s : State} {m : MethodId} {args : Array Value} {below : List Frame} {meth : Method} {c : Code} (l : Launch) {E : Ev} (hN : 129 ≤ eN E) (hT : St E) {σ : SM} {Q : State → Prop} (cx : Cx E p s m meth c args RX1 cX1_applyTo 5 (some .int)) {o : Nat} (ho : o < 11) {α : OM} {z2 : Int32} {μ' : OM} (K : ∀ (u : SM) (H : Heap) (locs : List Loc) (ls : Array Slot), u o = μ' → u 17 = α → (∀ q, q ≠ o → u q = σ q) → Hp E u s H locs → lv_has ls 5 [(0, .ref (adr E 17 0)), (1, .ref (adr E o 0)), (2, .int z2)] → W p l e rm_X1_applyTo s m args below meth c H locs 0 0 Q (F0 m 54 ls [])) : ∀ (n : Nat) {x3 : Int32} {x2 : Int32} {μ : OM}, f_X1_applyTo_4 α n x3 x2 μ = some (z2, μ') → ∀ {u : SM} {H : Heap} {locs : List Loc} {ls : Array Slot}, u o = μ → u 17 = α → (∀ q, q ≠ o → u q = σ q) → Hp E u s H locs → lv_has ls 5 [(0, .ref (adr E 17 0)), (1, .ref (adr E o 0)), (2, .int x2), (3, .int x3)] → W p l e rm_X1_applyTo s m args below meth c H locs 0 0 Q (F0 m 4 ls []) := by
  have hx := cx.1.1
  have hb := cx.1.2.1
  have d_17_M : (17 : Nat) ≠ o := by omega
  intro n
  induction n with
  | zero =>
    intro x3 x2 μ hf
    exact absurd hf (by simp [f_X1_applyTo_4])
  | succ n ih =>
    intro x3 x2 μ hf u H locs ls eM e17 fr hp hl
    rw [f_X1_applyTo_4] at hf
    refine lv_iload_n hx hb dX1_applyTo_4 rfl (lv_at hl 3 rfl) ?_
    refine lv_aload_n hx hb dX1_applyTo_5 rfl (lv_at hl 1 rfl) ?_
    refine gF_X1_41 ho eM hN cx hp dX1_applyTo_6 ?_
    refine lv_icmp_ge (tgt := 54) hx hb dX1_applyTo_9 (by decide) (fun c1 => ?_) (fun c1 => ?_)
    · have hf := fp hf c1
      cases hf
      exact K _ _ _ _ eM e17 fr hp (lv_sub hl [0, 1, 2] rfl)
    · have hf := fn hf c1
      refine lv_aload_n hx hb dX1_applyTo_12 rfl (lv_at hl 0 rfl) ?_
      refine lv_iload_n hx hb dX1_applyTo_13 rfl (lv_at hl 3 rfl) ?_
      obtain ⟨r2, hc, hf⟩ := fb hf
      refine x_i hp (y_V (As := [.int x3]) (rest := []) cx hp hl (c_X1_givenTo l hN hT e17 hc) (cw_X1_70 cx (mc := 0) (ms := 0) rfl rfl ⟨by decide, by decide⟩) (rC_X1 hN cx hp) rfl rfl (Nat.le_of_ble_eq_true rfl) dX1_applyTo_14 ⟨Nat.zero_le _, Nat.zero_le _⟩) (fun r_c u_c H locs hq hp => ?_)
      obtain ⟨rfl, rfl⟩ := hq
      refine lv_istore (lv' := [(4, .int r2), (0, .ref (adr E 17 0)), (1, .ref (adr E o 0)), (2, .int x2), (3, .int x3)]) hx hb dX1_applyTo_17 hl (by decide) rfl (fun ls hl => ?_)
      refine lv_iload hx hb dX1_applyTo_19 (lv_at hl 0 rfl) ?_
      refine lv_aload_n hx hb dX1_applyTo_21 rfl (lv_at hl 2 rfl) ?_
      refine lv_iload_n hx hb dX1_applyTo_22 rfl (lv_at hl 4 rfl) ?_
      obtain ⟨r3, hc, hf⟩ := fb hf
      refine x_i hp (y_V (As := [.int x3]) (rest := [.int r2]) cx hp hl (c_X5_heldBy l hN hT ho eM hc) (cw_X1_73 cx (mc := 0) (ms := 0) rfl rfl ⟨by decide, by decide⟩) (rC_X5 ho hN cx hp) rfl rfl (Nat.le_of_ble_eq_true rfl) dX1_applyTo_23 ⟨Nat.zero_le _, Nat.zero_le _⟩) (fun r_c u_c H locs hq hp => ?_)
      obtain ⟨rfl, rfl⟩ := hq
      refine lv_icmp_eq (tgt := 48) hx hb dX1_applyTo_26 (by decide) (fun c4 => ?_) (fun c4 => ?_)
      · have hf := fp hf c4
        refine lv_iinc (v := (x3 + 1)) (lv' := [(3, .int (x3 + 1)), (4, .int r2), (0, .ref (adr E 17 0)), (1, .ref (adr E o 0)), (2, .int x2)]) hx hb dX1_applyTo_48 hl (k := 4) rfl rfl (by decide) rfl (fun ls hl => ?_)
        refine lv_goto (tgt := 4) hx hb dX1_applyTo_51 (by decide) ?_
        exact ih  hf eM e17 fr hp (lv_sub hl [2, 3, 4, 0] rfl)
      · have hf := fn hf c4
        refine lv_iinc (v := (x2 + 1)) (lv' := [(2, .int (x2 + 1)), (4, .int r2), (0, .ref (adr E 17 0)), (1, .ref (adr E o 0)), (3, .int x3)]) hx hb dX1_applyTo_29 hl (k := 3) rfl rfl (by decide) rfl (fun ls hl => ?_)
        refine lv_iload hx hb dX1_applyTo_32 (lv_at hl 1 rfl) ?_
        refine lv_iconst (v := (-1)) hx hb dX1_applyTo_34 (by decide) ?_
        refine lv_icmp_eq (tgt := 48) hx hb dX1_applyTo_35 (by decide) (fun c5 => ?_) (fun c5 => ?_)
        · have hf := fp hf c5
          refine lv_iinc (v := (x3 + 1)) (lv' := [(3, .int (x3 + 1)), (2, .int (x2 + 1)), (4, .int r2), (0, .ref (adr E 17 0)), (1, .ref (adr E o 0))]) hx hb dX1_applyTo_48 hl (k := 4) rfl rfl (by decide) rfl (fun ls hl => ?_)
          refine lv_goto (tgt := 4) hx hb dX1_applyTo_51 (by decide) ?_
          exact ih  hf eM e17 fr hp (lv_sub hl [3, 4, 1, 0] rfl)
        · have hf := fn hf c5
          refine lv_aload_n hx hb dX1_applyTo_38 rfl (lv_at hl 3 rfl) ?_
          refine lv_dup hx hb dX1_applyTo_39 rfl ?_
          refine gF_X1_76 ho eM hN cx hp dX1_applyTo_40 ?_
          refine lv_iconst (v := 1) hx hb dX1_applyTo_43 (by decide) ?_
          refine lv_iadd hx hb dX1_applyTo_44 ?_
          obtain ⟨μ6, e_l, hf⟩ := fl hf
          refine pF_X1_76 ho eM hN cx hp dX1_applyTo_45 (fun u H locs e_u n_u hp => ?_)
          have eM := e_u.trans e_l
          have e17 := (n_u _ d_17_M).trans e17
          have fr : ∀ q, q ≠ o → u q = σ q := fun q h0 => (n_u q h0).trans (fr q h0)
          refine lv_iinc (v := (x3 + 1)) (lv' := [(3, .int (x3 + 1)), (2, .int (x2 + 1)), (4, .int r2), (0, .ref (adr E 17 0)), (1, .ref (adr E o 0))]) hx hb dX1_applyTo_48 hl (k := 4) rfl rfl (by decide) rfl (fun ls hl => ?_)
          refine lv_goto (tgt := 4) hx hb dX1_applyTo_51 (by decide) ?_
          exact ih  hf eM e17 fr hp (lv_sub hl [3, 4, 1, 0] rfl)
set_option maxRecDepth 100000 in
set_option maxHeartbeats 4000000 in
theorem L_X1_applyTo_56 {p : Program} {e : Env} {s : State} {m : MethodId} {args : Array Value} {below : List Frame} {meth : Method} {c : Code} (l : Launch) {E : Ev} (hN : 129 ≤ eN E) (hT : St E) {σ : SM} (cx : Cx E p s m meth c args RX1 cX1_applyTo 5 (some .int)) {o : Nat} (ho : o < 11) {x2 : Int32} {α : OM} {rv : Int32} {μ' : OM} : ∀ (n : Nat) {x3 : Int32} {μ : OM}, f_X1_applyTo_56 x2 α n x3 μ = some (rv, μ') → ∀ {u : SM} {H : Heap} {locs : List Loc} {ls : Array Slot}, u o = μ → u 17 = α → (∀ q, q ≠ o → u q = σ q) → Hp E u s H locs → lv_has ls 5 [(0, .ref (adr E 17 0)), (1, .ref (adr E o 0)), (2, .int x2), (3, .int x3)] → W p l e rm_X1_applyTo s m args below meth c H locs 0 0 (MQ below (va_Qi (fun r u => rv = r ∧ u o = μ' ∧ ∀ q, q ≠ o → u q = σ q) (fun u t => Wu E u t) (eA E)) args s 0 0 (eA E)) (F0 m 56 ls []) := by
  have hx := cx.1.1
  have hb := cx.1.2.1
  have d_17_M : (17 : Nat) ≠ o := by omega
  intro n
  induction n with
  | zero =>
    intro x3 μ hf
    exact absurd hf (by simp [f_X1_applyTo_56])
  | succ n ih =>
    intro x3 μ hf u H locs ls eM e17 fr hp hl
    rw [f_X1_applyTo_56] at hf
    refine lv_iload_n hx hb dX1_applyTo_56 rfl (lv_at hl 3 rfl) ?_
    refine lv_aload_n hx hb dX1_applyTo_57 rfl (lv_at hl 1 rfl) ?_
    refine gF_X1_41 ho eM hN cx hp dX1_applyTo_58 ?_
    refine lv_icmp_ge (tgt := 80) hx hb dX1_applyTo_61 (by decide) (fun c9 => ?_) (fun c9 => ?_)
    · have hf := fp hf c9
      refine lv_iload_n hx hb dX1_applyTo_80 rfl (lv_at hl 2 rfl) ?_
      cases hf
      exact r_i cx hp ⟨rfl, eM, fr⟩ dX1_applyTo_81
    · have hf := fn hf c9
      refine lv_aload_n hx hb dX1_applyTo_64 rfl (lv_at hl 1 rfl) ?_
      refine lv_iload_n hx hb dX1_applyTo_65 rfl (lv_at hl 3 rfl) ?_
      refine lv_aload_n hx hb dX1_applyTo_66 rfl (lv_at hl 0 rfl) ?_
      refine lv_iload_n hx hb dX1_applyTo_67 rfl (lv_at hl 3 rfl) ?_
      obtain ⟨r10, hc, hf⟩ := fb hf
      refine x_i hp (y_V (As := [.int x3]) (rest := [.int x3, .ref (adr E o 0)]) cx hp hl (c_X1_givenTo l hN hT e17 hc) (cw_X1_70 cx (mc := 0) (ms := 0) rfl rfl ⟨by decide, by decide⟩) (rC_X1 hN cx hp) rfl rfl (Nat.le_of_ble_eq_true rfl) dX1_applyTo_68 ⟨Nat.zero_le _, Nat.zero_le _⟩) (fun r_c u_c H locs hq hp => ?_)
      obtain ⟨rfl, rfl⟩ := hq
      obtain ⟨μ11, hc, hf⟩ := fb hf
      refine x_v hp (y_V (As := [.int x3, .int r10]) (rest := []) cx hp hl (c_X5_seat l hN hT ho eM hc) (cw_X1_79 cx (mc := 0) (ms := 0) rfl rfl ⟨by decide, by decide⟩) (rC_X5 ho hN cx hp) rfl rfl (Nat.le_of_ble_eq_true rfl) dX1_applyTo_71 ⟨Nat.zero_le _, Nat.zero_le _⟩) (fun u_c H locs hq hp => ?_)
      obtain ⟨e_0, n_u⟩ := hq
      have eM := e_0
      have e17 := (n_u _ d_17_M).trans e17
      have fr : ∀ q, q ≠ o → u_c q = σ q := fun q h0 => (n_u q h0).trans (fr q h0)
      obtain ⟨u, rfl⟩ : ∃ z, u_c = z := ⟨_, rfl⟩
      refine lv_iinc (v := (x3 + 1)) (lv' := [(3, .int (x3 + 1)), (0, .ref (adr E 17 0)), (1, .ref (adr E o 0)), (2, .int x2)]) hx hb dX1_applyTo_74 hl (k := 3) rfl rfl (by decide) rfl (fun ls hl => ?_)
      refine lv_goto (tgt := 56) hx hb dX1_applyTo_77 (by decide) ?_
      exact ih  hf eM e17 fr hp (lv_sub hl [1, 2, 3, 0] rfl)
set_option maxRecDepth 100000 in
set_option maxHeartbeats 4000000 in
theorem c_X1_applyTo (l : Launch) {E : Ev} (hN : 129 ≤ eN E) (hT : St E) {σ : SM} {o : Nat} {μ : OM} (ho : o < 11) (eM : σ o = μ) {α : OM} (e17 : σ 17 = α)  {rv : Int32} {μ' : OM} (hf : f_X1_applyTo μ α = some (rv, μ')) : Met l yX1_applyTo (wC yX1_applyTo cX1_applyTo 5 (some .int)) rm_X1_applyTo (va_Pc [.ref (adr E 17 0), .ref (adr E o 0)] (Wu E σ)) (va_Qi (fun r u => rv = r ∧ u o = μ' ∧ ∀ q, q ≠ o → u q = σ q) (fun u t => Wu E u t) (eA E)) 0 0 (eA E) := by
  refine g_entry (lv := [(0, .ref (adr E 17 0)), (1, .ref (adr E o 0))]) (by decide) (Nat.le_of_ble_eq_true rfl) rfl ?_
  intro p e s m below meth c cx hp ls hl
  have hx := cx.1.1
  have hb := cx.1.2.1
  have fr : ∀ q, q ≠ o → σ q = σ q := fun _ _ => rfl
  have d_17_M : (17 : Nat) ≠ o := by omega
  unfold f_X1_applyTo at hf
  refine lv_iconst (v := 0) hx hb dX1_applyTo_0 (by decide) ?_
  refine lv_istore_n (lv' := [(2, .int 0), (0, .ref (adr E 17 0)), (1, .ref (adr E o 0))]) hx hb dX1_applyTo_1 rfl hl (by decide) rfl (fun ls hl => ?_)
  refine lv_iconst (v := 0) hx hb dX1_applyTo_2 (by decide) ?_
  refine lv_istore_n (lv' := [(3, .int 0), (2, .int 0), (0, .ref (adr E 17 0)), (1, .ref (adr E o 0))]) hx hb dX1_applyTo_3 rfl hl (by decide) rfl (fun ls hl => ?_)
  obtain ⟨i7, μ8, hc, hf⟩ := fb2 hf
  refine L_X1_applyTo_4 l hN hT cx ho (fun u H locs ls eM e17 fr hp hl => ?_) _ hc eM e17 fr hp (lv_sub hl [2, 3, 1, 0] rfl)
  refine lv_iconst (v := 0) hx hb dX1_applyTo_54 (by decide) ?_
  refine lv_istore_n (lv' := [(3, .int 0), (0, .ref (adr E 17 0)), (1, .ref (adr E o 0)), (2, .int i7)]) hx hb dX1_applyTo_55 rfl hl (by decide) rfl (fun ls hl => ?_)
  exact L_X1_applyTo_56 l hN hT cx ho _ hf eM e17 fr hp (lv_sub hl [1, 2, 3, 0] rfl)
abbrev rm_X2_byteAt_13 : Room := { frames := 0, cells := 0, slots := 0, locals := 0 }
set_option maxRecDepth 100000 in
set_option maxHeartbeats 4000000 in
theorem c_X2_byteAt_13 (l : Launch) {E : Ev} (hN : 129 ≤ eN E) (hT : St E) {σ : SM} {β : OM} (eB : σ 13 = β) {p1 : Int32} {rv : Int32} (hf : f_X2_byteAt p1 β = some rv) : Met l yX2_byteAt (wC yX2_byteAt cX2_byteAt 2 (some .int)) rm_X2_byteAt_13 (va_Pc [.ref (adr E 13 0), .int p1] (Wu E σ)) (va_Qi (fun r u => rv = r ∧ σ = u) (fun u t => Wu E u t) (eA E)) 0 0 (eA E) := by
  refine g_entry (lv := [(0, .ref (adr E 13 0)), (1, .int p1)]) (by decide) (Nat.le_of_ble_eq_true rfl) rfl ?_
  intro p e s m below meth c cx hp ls hl
  have hx := cx.1.1
  have hb := cx.1.2.1
  have fr : ∀ q, σ q = σ q := fun _ => rfl
  unfold f_X2_byteAt at hf
  refine lv_iload_n hx hb dX2_byteAt_0 rfl (lv_at hl 1 rfl) ?_
  refine lv_if_lt (tgt := 12) hx hb dX2_byteAt_1 (by decide) (fun c1 => ?_) (fun c1 => ?_)
  · have hf := fp hf c1
    refine lv_iconst (v := (-1)) hx hb dX2_byteAt_12 (by decide) ?_
    refine lv_goto (tgt := 22) hx hb dX2_byteAt_13 (by decide) ?_
    cases hf
    exact r_i cx hp ⟨rfl, (funext fr).symm⟩ dX2_byteAt_22
  · have hf := fn hf c1
    refine lv_iload_n hx hb dX2_byteAt_4 rfl (lv_at hl 1 rfl) ?_
    refine lv_aload_n hx hb dX2_byteAt_5 rfl (lv_at hl 0 rfl) ?_
    refine gF_X2_15_13 eB hN cx hp dX2_byteAt_6 ?_
    refine lv_icmp_lt (tgt := 16) hx hb dX2_byteAt_9 (by decide) (fun c2 => ?_) (fun c2 => ?_)
    · have hf := fp hf c2
      refine lv_aload_n hx hb dX2_byteAt_16 rfl (lv_at hl 0 rfl) ?_
      refine gF_X2_9_13 rfl hN cx hp dX2_byteAt_17 ?_
      refine lv_iload_n hx hb dX2_byteAt_20 rfl (lv_at hl 1 rfl) ?_
      obtain ⟨g_i, hf⟩ := fg hf
      refine lA_X2_1_13 eB hN cx hp g_i dX2_byteAt_21 ?_
      cases hf
      exact r_i cx hp ⟨rfl, (funext fr).symm⟩ dX2_byteAt_22
    · have hf := fn hf c2
      refine lv_iconst (v := (-1)) hx hb dX2_byteAt_12 (by decide) ?_
      refine lv_goto (tgt := 22) hx hb dX2_byteAt_13 (by decide) ?_
      cases hf
      exact r_i cx hp ⟨rfl, (funext fr).symm⟩ dX2_byteAt_22
abbrev rm_X2_add_13 : Room := { frames := 0, cells := 0, slots := 0, locals := 0 }
set_option maxRecDepth 100000 in
set_option maxHeartbeats 4000000 in
theorem c_X2_add_13 (l : Launch) {E : Ev} (hN : 129 ≤ eN E) (hT : St E) {σ : SM} {β : OM} (eB : σ 13 = β) {p1 : Int32} {β' : OM} (hf : f_X2_add p1 β = some β') : Met l yX2_add (wC yX2_add cX2_add 2 none) rm_X2_add_13 (va_Pc [.ref (adr E 13 0), .int p1] (Wu E σ)) (va_Qv (fun u => u 13 = β' ∧ ∀ q, q ≠ 13 → u q = σ q) (fun u t => Wu E u t) (eA E)) 0 0 (eA E) := by
  refine g_entry (lv := [(0, .ref (adr E 13 0)), (1, .int p1)]) (by decide) (Nat.le_of_ble_eq_true rfl) rfl ?_
  intro p e s m below meth c cx hp ls hl
  have hx := cx.1.1
  have hb := cx.1.2.1
  have fr : ∀ q, q ≠ 13 → σ q = σ q := fun _ _ => rfl
  unfold f_X2_add at hf
  refine lv_aload_n hx hb dX2_add_0 rfl (lv_at hl 0 rfl) ?_
  refine gF_X2_15_13 eB hN cx hp dX2_add_1 ?_
  refine lv_sipush (v := 700) hx hb dX2_add_4 (by decide) ?_
  refine lv_icmp_ge (tgt := 30) hx hb dX2_add_7 (by decide) (fun c1 => ?_) (fun c1 => ?_)
  · have hf := fp hf c1
    cases hf
    exact r_v cx hp ⟨eB, fr⟩ dX2_add_30
  · have hf := fn hf c1
    refine lv_aload_n hx hb dX2_add_10 rfl (lv_at hl 0 rfl) ?_
    refine gF_X2_9_13 rfl hN cx hp dX2_add_11 ?_
    refine lv_aload_n hx hb dX2_add_14 rfl (lv_at hl 0 rfl) ?_
    refine gF_X2_15_13 eB hN cx hp dX2_add_15 ?_
    refine lv_iload_n hx hb dX2_add_18 rfl (lv_at hl 1 rfl) ?_
    obtain ⟨g_i, hf⟩ := fg hf
    obtain ⟨β2, e_l, hf⟩ := fl hf
    refine sA_X2_1_13 eB hN cx hp g_i dX2_add_19 (fun u H locs e_u n_u hp => ?_)
    have eB := e_u.trans e_l
    have fr : ∀ q, q ≠ 13 → u q = σ q := fun q h0 => (n_u q h0).trans (fr q h0)
    refine lv_aload_n hx hb dX2_add_20 rfl (lv_at hl 0 rfl) ?_
    refine lv_dup hx hb dX2_add_21 rfl ?_
    refine gF_X2_15_13 eB hN cx hp dX2_add_22 ?_
    refine lv_iconst (v := 1) hx hb dX2_add_25 (by decide) ?_
    refine lv_iadd hx hb dX2_add_26 ?_
    obtain ⟨β3, e_l, hf⟩ := fl hf
    refine pF_X2_15_13 eB hN cx hp dX2_add_27 (fun u H locs e_u n_u hp => ?_)
    have eB := e_u.trans e_l
    have fr : ∀ q, q ≠ 13 → u q = σ q := fun q h0 => (n_u q h0).trans (fr q h0)
    cases hf
    exact r_v cx hp ⟨eB, fr⟩ dX2_add_30
abbrev rm_X2_addWord_13 : Room := { frames := 1, cells := 0, slots := 0, locals := 21 }
set_option maxRecDepth 100000 in
set_option maxHeartbeats 4000000 in
theorem L_X2_addWord_13_3 {p : Program} {e : Env} {s : State} {m : MethodId} {args : Array Value} {below : List Frame} {meth : Method} {c : Code} (l : Launch) {E : Ev} (hN : 129 ≤ eN E) (hT : St E) {σ : SM} (cx : Cx E p s m meth c args RX2 cX2_addWord 3 none) {x1 : Int32} {β' : OM} : ∀ (n : Nat) {x2 : Int32} {β : OM}, f_X2_addWord_3 x1 n x2 β = some β' → ∀ {u : SM} {H : Heap} {locs : List Loc} {ls : Array Slot}, u 13 = β → (∀ q, q ≠ 13 → u q = σ q) → Hp E u s H locs → lv_has ls 3 [(0, .ref (adr E 13 0)), (1, .int x1), (2, .int x2)] → W p l e rm_X2_addWord_13 s m args below meth c H locs 0 0 (MQ below (va_Qv (fun u => u 13 = β' ∧ ∀ q, q ≠ 13 → u q = σ q) (fun u t => Wu E u t) (eA E)) args s 0 0 (eA E)) (F0 m 3 ls []) := by
  have hx := cx.1.1
  have hb := cx.1.2.1
  intro n
  induction n with
  | zero =>
    intro x2 β hf
    exact absurd hf (by simp [f_X2_addWord_3])
  | succ n ih =>
    intro x2 β hf u H locs ls eB fr hp hl
    rw [f_X2_addWord_3] at hf
    refine lv_iload_n hx hb dX2_addWord_3 rfl (lv_at hl 2 rfl) ?_
    refine lv_if_lt (tgt := 24) hx hb dX2_addWord_4 (by decide) (fun c1 => ?_) (fun c1 => ?_)
    · have hf := fp hf c1
      cases hf
      exact r_v cx hp ⟨eB, fr⟩ dX2_addWord_24
    · have hf := fn hf c1
      refine lv_aload_n hx hb dX2_addWord_7 rfl (lv_at hl 0 rfl) ?_
      refine lv_iload_n hx hb dX2_addWord_8 rfl (lv_at hl 1 rfl) ?_
      refine lv_iload_n hx hb dX2_addWord_9 rfl (lv_at hl 2 rfl) ?_
      refine lv_iushr hx hb dX2_addWord_10 rfl ?_
      refine lv_sipush (v := 255) hx hb dX2_addWord_11 (by decide) ?_
      refine lv_iand hx hb dX2_addWord_14 ?_
      obtain ⟨β2, hc, hf⟩ := fb hf
      refine x_v hp (y_V (As := [.int (((x1.toUInt32 >>> (Int32.toUInt32 x2 &&& Int32.toUInt32 31)).toInt32) &&& 255)]) (rest := []) cx hp hl (c_X2_add_13 l hN hT eB hc) (cw_X2_19 cx (mc := 0) (ms := 0) rfl rfl ⟨by decide, by decide⟩) (rC_X2_13 hN cx hp) rfl rfl (Nat.le_of_ble_eq_true rfl) dX2_addWord_15 ⟨Nat.zero_le _, Nat.zero_le _⟩) (fun u_c H locs hq hp => ?_)
      obtain ⟨e_0, n_u⟩ := hq
      have eB := e_0
      have fr : ∀ q, q ≠ 13 → u_c q = σ q := fun q h0 => (n_u q h0).trans (fr q h0)
      obtain ⟨u, rfl⟩ : ∃ z, u_c = z := ⟨_, rfl⟩
      refine lv_iinc (v := (x2 + (-8))) (lv' := [(2, .int (x2 + (-8))), (0, .ref (adr E 13 0)), (1, .int x1)]) hx hb dX2_addWord_18 hl (k := 2) rfl rfl (by decide) rfl (fun ls hl => ?_)
      refine lv_goto (tgt := 3) hx hb dX2_addWord_21 (by decide) ?_
      exact ih  hf eB fr hp (lv_sub hl [1, 2, 0] rfl)
set_option maxRecDepth 100000 in
set_option maxHeartbeats 4000000 in
theorem c_X2_addWord_13 (l : Launch) {E : Ev} (hN : 129 ≤ eN E) (hT : St E) {σ : SM} {β : OM} (eB : σ 13 = β) {p1 : Int32} {β' : OM} (hf : f_X2_addWord p1 β = some β') : Met l yX2_addWord (wC yX2_addWord cX2_addWord 3 none) rm_X2_addWord_13 (va_Pc [.ref (adr E 13 0), .int p1] (Wu E σ)) (va_Qv (fun u => u 13 = β' ∧ ∀ q, q ≠ 13 → u q = σ q) (fun u t => Wu E u t) (eA E)) 0 0 (eA E) := by
  refine g_entry (lv := [(0, .ref (adr E 13 0)), (1, .int p1)]) (by decide) (Nat.le_of_ble_eq_true rfl) rfl ?_
  intro p e s m below meth c cx hp ls hl
  have hx := cx.1.1
  have hb := cx.1.2.1
  have fr : ∀ q, q ≠ 13 → σ q = σ q := fun _ _ => rfl
  unfold f_X2_addWord at hf
  refine lv_bipush (v := 24) hx hb dX2_addWord_0 (by decide) ?_
  refine lv_istore_n (lv' := [(2, .int 24), (0, .ref (adr E 13 0)), (1, .int p1)]) hx hb dX2_addWord_2 rfl hl (by decide) rfl (fun ls hl => ?_)
  exact L_X2_addWord_13_3 l hN hT cx  _ hf eB fr hp (lv_sub hl [1, 2, 0] rfl)
abbrev rm_X2_cut_13 : Room := { frames := 0, cells := 0, slots := 0, locals := 0 }
set_option maxRecDepth 100000 in
set_option maxHeartbeats 4000000 in
theorem c_X2_cut_13 (l : Launch) {E : Ev} (hN : 129 ≤ eN E) (hT : St E) {σ : SM} {β : OM} (eB : σ 13 = β) {p1 : Int32} {β' : OM} (hf : f_X2_cut p1 β = some β') : Met l yX2_cut (wC yX2_cut cX2_cut 2 none) rm_X2_cut_13 (va_Pc [.ref (adr E 13 0), .int p1] (Wu E σ)) (va_Qv (fun u => u 13 = β' ∧ ∀ q, q ≠ 13 → u q = σ q) (fun u t => Wu E u t) (eA E)) 0 0 (eA E) := by
  refine g_entry (lv := [(0, .ref (adr E 13 0)), (1, .int p1)]) (by decide) (Nat.le_of_ble_eq_true rfl) rfl ?_
  intro p e s m below meth c cx hp ls hl
  have hx := cx.1.1
  have hb := cx.1.2.1
  have fr : ∀ q, q ≠ 13 → σ q = σ q := fun _ _ => rfl
  unfold f_X2_cut at hf
  refine lv_iload_n hx hb dX2_cut_0 rfl (lv_at hl 1 rfl) ?_
  refine lv_if_lt (tgt := 17) hx hb dX2_cut_1 (by decide) (fun c1 => ?_) (fun c1 => ?_)
  · have hf := fp hf c1
    cases hf
    exact r_v cx hp ⟨eB, fr⟩ dX2_cut_17
  · have hf := fn hf c1
    refine lv_iload_n hx hb dX2_cut_4 rfl (lv_at hl 1 rfl) ?_
    refine lv_aload_n hx hb dX2_cut_5 rfl (lv_at hl 0 rfl) ?_
    refine gF_X2_15_13 eB hN cx hp dX2_cut_6 ?_
    refine lv_icmp_ge (tgt := 17) hx hb dX2_cut_9 (by decide) (fun c2 => ?_) (fun c2 => ?_)
    · have hf := fp hf c2
      cases hf
      exact r_v cx hp ⟨eB, fr⟩ dX2_cut_17
    · have hf := fn hf c2
      refine lv_aload_n hx hb dX2_cut_12 rfl (lv_at hl 0 rfl) ?_
      refine lv_iload_n hx hb dX2_cut_13 rfl (lv_at hl 1 rfl) ?_
      obtain ⟨β3, e_l, hf⟩ := fl hf
      refine pF_X2_15_13 eB hN cx hp dX2_cut_14 (fun u H locs e_u n_u hp => ?_)
      have eB := e_u.trans e_l
      have fr : ∀ q, q ≠ 13 → u q = σ q := fun q h0 => (n_u q h0).trans (fr q h0)
      cases hf
      exact r_v cx hp ⟨eB, fr⟩ dX2_cut_17
abbrev rm_X3_wantsStallOf : Room := { frames := 3, cells := 0, slots := 0, locals := 69 }
set_option maxRecDepth 100000 in
set_option maxHeartbeats 4000000 in
theorem c_X3_wantsStallOf (l : Launch) {E : Ev} (hN : 129 ≤ eN E) (hT : St E) {σ : SM} {o : Nat} {μ : OM} (ho : o < 11) (eM : σ o = μ) {p1 : Int32} {p2 : Int32} {rv : Int32} (hf : f_X3_wantsStallOf p1 p2 μ = some rv) : Met l yX3_wantsStallOf (wC yX3_wantsStallOf cX3_wantsStallOf 4 (some .boolean)) rm_X3_wantsStallOf (va_Pc [.ref (adr E o 0), .int p1, .int p2] (Wu E σ)) (va_Qi (fun r u => rv = r ∧ σ = u) (fun u t => Wu E u t) (eA E)) 0 0 (eA E) := by
  refine g_entry (lv := [(0, .ref (adr E o 0)), (1, .int p1), (2, .int p2)]) (by decide) (Nat.le_of_ble_eq_true rfl) rfl ?_
  intro p e s m below meth c cx hp ls hl
  have hx := cx.1.1
  have hb := cx.1.2.1
  have fr : ∀ q, σ q = σ q := fun _ => rfl
  unfold f_X3_wantsStallOf at hf
  refine lv_aload_n hx hb dX3_wantsStallOf_0 rfl (lv_at hl 0 rfl) ?_
  refine lv_iload_n hx hb dX3_wantsStallOf_1 rfl (lv_at hl 2 rfl) ?_
  obtain ⟨r1, hc, hf⟩ := fb hf
  refine x_i hp (y_V (As := [.int p2]) (rest := []) cx hp hl (c_X5_heldBy l hN hT ho eM hc) (cw_X3_9 cx (mc := 0) (ms := 0) rfl rfl ⟨by decide, by decide⟩) (rC_X5 ho hN cx hp) rfl rfl (Nat.le_of_ble_eq_true rfl) dX3_wantsStallOf_2 ⟨Nat.zero_le _, Nat.zero_le _⟩) (fun r_c u_c H locs hq hp => ?_)
  obtain ⟨rfl, rfl⟩ := hq
  refine lv_istore_n (lv' := [(3, .int r1), (0, .ref (adr E o 0)), (1, .int p1), (2, .int p2)]) hx hb dX3_wantsStallOf_5 rfl hl (by decide) rfl (fun ls hl => ?_)
  refine lv_iload_n hx hb dX3_wantsStallOf_6 rfl (lv_at hl 0 rfl) ?_
  refine lv_iconst (v := (-1)) hx hb dX3_wantsStallOf_7 (by decide) ?_
  refine lv_icmp_eq (tgt := 29) hx hb dX3_wantsStallOf_8 (by decide) (fun c2 => ?_) (fun c2 => ?_)
  · have hf := fp hf c2
    refine lv_iconst (v := 0) hx hb dX3_wantsStallOf_29 (by decide) ?_
    cases hf
    exact r_z cx hp rfl ⟨rfl, (funext fr).symm⟩ dX3_wantsStallOf_30
  · have hf := fn hf c2
    refine lv_aload_n hx hb dX3_wantsStallOf_11 rfl (lv_at hl 1 rfl) ?_
    refine lv_iload_n hx hb dX3_wantsStallOf_12 rfl (lv_at hl 2 rfl) ?_
    refine lv_iload_n hx hb dX3_wantsStallOf_13 rfl (lv_at hl 0 rfl) ?_
    refine lv_aload_n hx hb dX3_wantsStallOf_14 rfl (lv_at hl 1 rfl) ?_
    refine lv_iload_n hx hb dX3_wantsStallOf_15 rfl (lv_at hl 2 rfl) ?_
    obtain ⟨r3, hc, hf⟩ := fb hf
    refine x_i hp (y_V (As := [.int p1]) (rest := [.int r1, .int p1, .ref (adr E o 0)]) cx hp hl (c_X5_heldBy l hN hT ho eM hc) (cw_X3_9 cx (mc := 0) (ms := 0) rfl rfl ⟨by decide, by decide⟩) (rC_X5 ho hN cx hp) rfl rfl (Nat.le_of_ble_eq_true rfl) dX3_wantsStallOf_16 ⟨Nat.zero_le _, Nat.zero_le _⟩) (fun r_c u_c H locs hq hp => ?_)
    obtain ⟨rfl, rfl⟩ := hq
    obtain ⟨r4, hc, hf⟩ := fb hf
    refine x_i hp (y_V (As := [.int p1, .int r1, .int r3]) (rest := []) cx hp hl (c_X5_ranksAbove l hN hT ho eM hc) (cw_X3_15 cx (mc := 0) (ms := 0) rfl rfl ⟨by decide, by decide⟩) (rC_X5 ho hN cx hp) rfl rfl (Nat.le_of_ble_eq_true rfl) dX3_wantsStallOf_19 ⟨Nat.zero_le _, Nat.zero_le _⟩) (fun r_c u_c H locs hq hp => ?_)
    obtain ⟨rfl, rfl⟩ := hq
    refine lv_if_eq (tgt := 29) hx hb dX3_wantsStallOf_22 (by decide) (fun c5 => ?_) (fun c5 => ?_)
    · have hf := fp hf c5
      refine lv_iconst (v := 0) hx hb dX3_wantsStallOf_29 (by decide) ?_
      cases hf
      exact r_z cx hp rfl ⟨rfl, (funext fr).symm⟩ dX3_wantsStallOf_30
    · have hf := fn hf c5
      refine lv_iconst (v := 1) hx hb dX3_wantsStallOf_25 (by decide) ?_
      refine lv_goto (tgt := 30) hx hb dX3_wantsStallOf_26 (by decide) ?_
      cases hf
      exact r_z cx hp rfl ⟨rfl, (funext fr).symm⟩ dX3_wantsStallOf_30
abbrev rm_X3_bothGain : Room := { frames := 4, cells := 0, slots := 0, locals := 92 }
set_option maxRecDepth 100000 in
set_option maxHeartbeats 4000000 in
theorem c_X3_bothGain (l : Launch) {E : Ev} (hN : 129 ≤ eN E) (hT : St E) {σ : SM} {o : Nat} {μ : OM} (ho : o < 11) (eM : σ o = μ) {p1 : Int32} {p2 : Int32} {rv : Int32} (hf : f_X3_bothGain p1 p2 μ = some rv) : Met l yX3_bothGain (wC yX3_bothGain cX3_bothGain 3 (some .boolean)) rm_X3_bothGain (va_Pc [.ref (adr E o 0), .int p1, .int p2] (Wu E σ)) (va_Qi (fun r u => rv = r ∧ σ = u) (fun u t => Wu E u t) (eA E)) 0 0 (eA E) := by
  refine g_entry (lv := [(0, .ref (adr E o 0)), (1, .int p1), (2, .int p2)]) (by decide) (Nat.le_of_ble_eq_true rfl) rfl ?_
  intro p e s m below meth c cx hp ls hl
  have hx := cx.1.1
  have hb := cx.1.2.1
  have fr : ∀ q, σ q = σ q := fun _ => rfl
  unfold f_X3_bothGain at hf
  refine lv_aload_n hx hb dX3_bothGain_0 rfl (lv_at hl 0 rfl) ?_
  refine lv_iload_n hx hb dX3_bothGain_1 rfl (lv_at hl 1 rfl) ?_
  obtain ⟨r1, hc, hf⟩ := fb hf
  refine x_i hp (y_V (As := [.int p1]) (rest := []) cx hp hl (c_X5_heldBy l hN hT ho eM hc) (cw_X3_9 cx (mc := 0) (ms := 0) rfl rfl ⟨by decide, by decide⟩) (rC_X5 ho hN cx hp) rfl rfl (Nat.le_of_ble_eq_true rfl) dX3_bothGain_2 ⟨Nat.zero_le _, Nat.zero_le _⟩) (fun r_c u_c H locs hq hp => ?_)
  obtain ⟨rfl, rfl⟩ := hq
  refine lv_iconst (v := (-1)) hx hb dX3_bothGain_5 (by decide) ?_
  refine lv_icmp_eq (tgt := 31) hx hb dX3_bothGain_6 (by decide) (fun c2 => ?_) (fun c2 => ?_)
  · have hf := fp hf c2
    refine lv_iconst (v := 0) hx hb dX3_bothGain_31 (by decide) ?_
    cases hf
    exact r_z cx hp rfl ⟨rfl, (funext fr).symm⟩ dX3_bothGain_32
  · have hf := fn hf c2
    refine lv_aload_n hx hb dX3_bothGain_9 rfl (lv_at hl 0 rfl) ?_
    refine lv_iload_n hx hb dX3_bothGain_10 rfl (lv_at hl 1 rfl) ?_
    refine lv_iload_n hx hb dX3_bothGain_11 rfl (lv_at hl 2 rfl) ?_
    obtain ⟨r3, hc, hf⟩ := fb hf
    refine x_i hp (y_S (As := [.ref (adr E o 0), .int p1, .int p2]) (rest := []) cx hp hl (c_X3_wantsStallOf l hN hT ho eM hc) (cw_X3_19 cx (mc := 0) (ms := 0) rfl rfl ⟨by decide, by decide⟩) rfl rfl (Nat.le_of_ble_eq_true rfl) dX3_bothGain_12 ⟨Nat.zero_le _, Nat.zero_le _⟩) (fun r_c u_c H locs hq hp => ?_)
    obtain ⟨rfl, rfl⟩ := hq
    refine lv_if_eq (tgt := 31) hx hb dX3_bothGain_15 (by decide) (fun c4 => ?_) (fun c4 => ?_)
    · have hf := fp hf c4
      refine lv_iconst (v := 0) hx hb dX3_bothGain_31 (by decide) ?_
      cases hf
      exact r_z cx hp rfl ⟨rfl, (funext fr).symm⟩ dX3_bothGain_32
    · have hf := fn hf c4
      refine lv_aload_n hx hb dX3_bothGain_18 rfl (lv_at hl 0 rfl) ?_
      refine lv_iload_n hx hb dX3_bothGain_19 rfl (lv_at hl 2 rfl) ?_
      refine lv_iload_n hx hb dX3_bothGain_20 rfl (lv_at hl 1 rfl) ?_
      obtain ⟨r5, hc, hf⟩ := fb hf
      refine x_i hp (y_S (As := [.ref (adr E o 0), .int p2, .int p1]) (rest := []) cx hp hl (c_X3_wantsStallOf l hN hT ho eM hc) (cw_X3_19 cx (mc := 0) (ms := 0) rfl rfl ⟨by decide, by decide⟩) rfl rfl (Nat.le_of_ble_eq_true rfl) dX3_bothGain_21 ⟨Nat.zero_le _, Nat.zero_le _⟩) (fun r_c u_c H locs hq hp => ?_)
      obtain ⟨rfl, rfl⟩ := hq
      refine lv_if_eq (tgt := 31) hx hb dX3_bothGain_24 (by decide) (fun c6 => ?_) (fun c6 => ?_)
      · have hf := fp hf c6
        refine lv_iconst (v := 0) hx hb dX3_bothGain_31 (by decide) ?_
        cases hf
        exact r_z cx hp rfl ⟨rfl, (funext fr).symm⟩ dX3_bothGain_32
      · have hf := fn hf c6
        refine lv_iconst (v := 1) hx hb dX3_bothGain_27 (by decide) ?_
        refine lv_goto (tgt := 32) hx hb dX3_bothGain_28 (by decide) ?_
        cases hf
        exact r_z cx hp rfl ⟨rfl, (funext fr).symm⟩ dX3_bothGain_32
abbrev rm_X3_wantedByAny : Room := { frames := 4, cells := 0, slots := 0, locals := 92 }
set_option maxRecDepth 100000 in
set_option maxHeartbeats 4000000 in
theorem L_X3_wantedByAny_15 {p : Program} {e : Env} {s : State} {m : MethodId} {args : Array Value} {below : List Frame} {meth : Method} {c : Code} (l : Launch) {E : Ev} (hN : 129 ≤ eN E) (hT : St E) {σ : SM} {Q : State → Prop} (cx : Cx E p s m meth c args RX3 cX3_wantedByAny 5 (some .int)) {o : Nat} (ho : o < 11) {x1 : Int32} {x3 : Int32} {μ : OM} {z2 : Int32} (K : ∀ (u : SM) (H : Heap) (locs : List Loc) (ls : Array Slot), u o = μ → (∀ q, u q = σ q) → Hp E u s H locs → lv_has ls 5 [(0, .ref (adr E o 0)), (1, .int x1), (2, .int z2), (3, .int x3)] → W p l e rm_X3_wantedByAny s m args below meth c H locs 0 0 Q (F0 m 55 ls [])) : ∀ (n : Nat) {x4 : Int32} {x2 : Int32}, f_X3_wantedByAny_15 x1 x3 μ n x4 x2 = some z2 → ∀ {u : SM} {H : Heap} {locs : List Loc} {ls : Array Slot}, u o = μ → (∀ q, u q = σ q) → Hp E u s H locs → lv_has ls 5 [(0, .ref (adr E o 0)), (1, .int x1), (2, .int x2), (3, .int x3), (4, .int x4)] → W p l e rm_X3_wantedByAny s m args below meth c H locs 0 0 Q (F0 m 15 ls []) := by
  have hx := cx.1.1
  have hb := cx.1.2.1
  intro n
  induction n with
  | zero =>
    intro x4 x2 hf
    exact absurd hf (by simp [f_X3_wantedByAny_15])
  | succ n ih =>
    intro x4 x2 hf u H locs ls eM fr hp hl
    rw [f_X3_wantedByAny_15] at hf
    refine lv_iload hx hb dX3_wantedByAny_15 (lv_at hl 4 rfl) ?_
    refine lv_aload_n hx hb dX3_wantedByAny_17 rfl (lv_at hl 0 rfl) ?_
    refine gF_X3_25 ho eM hN cx hp dX3_wantedByAny_18 ?_
    refine lv_icmp_ge (tgt := 55) hx hb dX3_wantedByAny_21 (by decide) (fun c2 => ?_) (fun c2 => ?_)
    · have hf := fp hf c2
      cases hf
      exact K _ _ _ _ eM fr hp (lv_sub hl [0, 1, 2, 3] rfl)
    · have hf := fn hf c2
      refine lv_iload_n hx hb dX3_wantedByAny_24 rfl (lv_at hl 1 rfl) ?_
      refine lv_iconst (v := 1) hx hb dX3_wantedByAny_25 (by decide) ?_
      refine lv_iload_n hx hb dX3_wantedByAny_26 rfl (lv_at hl 3 rfl) ?_
      refine lv_ishl hx hb dX3_wantedByAny_27 ?_
      refine lv_iand hx hb dX3_wantedByAny_28 ?_
      refine lv_if_eq (tgt := 49) hx hb dX3_wantedByAny_29 (by decide) (fun c3 => ?_) (fun c3 => ?_)
      · have hf := fp hf c3
        refine lv_iinc (v := (x4 + 1)) (lv' := [(4, .int (x4 + 1)), (0, .ref (adr E o 0)), (1, .int x1), (2, .int x2), (3, .int x3)]) hx hb dX3_wantedByAny_49 hl (k := 4) rfl rfl (by decide) rfl (fun ls hl => ?_)
        refine lv_goto (tgt := 15) hx hb dX3_wantedByAny_52 (by decide) ?_
        exact ih  hf eM fr hp (lv_sub hl [1, 2, 3, 4, 0] rfl)
      · have hf := fn hf c3
        refine lv_aload_n hx hb dX3_wantedByAny_32 rfl (lv_at hl 0 rfl) ?_
        refine lv_iload_n hx hb dX3_wantedByAny_33 rfl (lv_at hl 3 rfl) ?_
        refine lv_iload hx hb dX3_wantedByAny_34 (lv_at hl 4 rfl) ?_
        obtain ⟨r4, hc, hf⟩ := fb hf
        refine x_i hp (y_S (As := [.ref (adr E o 0), .int x3, .int x4]) (rest := []) cx hp hl (c_X3_wantsStallOf l hN hT ho eM hc) (cw_X3_19 cx (mc := 0) (ms := 0) rfl rfl ⟨by decide, by decide⟩) rfl rfl (Nat.le_of_ble_eq_true rfl) dX3_wantedByAny_36 ⟨Nat.zero_le _, Nat.zero_le _⟩) (fun r_c u_c H locs hq hp => ?_)
        obtain ⟨rfl, rfl⟩ := hq
        refine lv_if_eq (tgt := 49) hx hb dX3_wantedByAny_39 (by decide) (fun c5 => ?_) (fun c5 => ?_)
        · have hf := fp hf c5
          refine lv_iinc (v := (x4 + 1)) (lv' := [(4, .int (x4 + 1)), (0, .ref (adr E o 0)), (1, .int x1), (2, .int x2), (3, .int x3)]) hx hb dX3_wantedByAny_49 hl (k := 4) rfl rfl (by decide) rfl (fun ls hl => ?_)
          refine lv_goto (tgt := 15) hx hb dX3_wantedByAny_52 (by decide) ?_
          exact ih  hf eM fr hp (lv_sub hl [1, 2, 3, 4, 0] rfl)
        · have hf := fn hf c5
          refine lv_iload_n hx hb dX3_wantedByAny_42 rfl (lv_at hl 2 rfl) ?_
          refine lv_iconst (v := 1) hx hb dX3_wantedByAny_43 (by decide) ?_
          refine lv_iload hx hb dX3_wantedByAny_44 (lv_at hl 4 rfl) ?_
          refine lv_ishl hx hb dX3_wantedByAny_46 ?_
          refine lv_ior hx hb dX3_wantedByAny_47 ?_
          obtain ⟨i6, x_e, hf⟩ := fl hf
          refine lv_nm x_e ?_
          refine lv_istore_n (lv' := [(2, .int i6), (0, .ref (adr E o 0)), (1, .int x1), (3, .int x3), (4, .int x4)]) hx hb dX3_wantedByAny_48 rfl hl (by decide) rfl (fun ls hl => ?_)
          refine lv_iinc (v := (x4 + 1)) (lv' := [(4, .int (x4 + 1)), (2, .int i6), (0, .ref (adr E o 0)), (1, .int x1), (3, .int x3)]) hx hb dX3_wantedByAny_49 hl (k := 4) rfl rfl (by decide) rfl (fun ls hl => ?_)
          refine lv_goto (tgt := 15) hx hb dX3_wantedByAny_52 (by decide) ?_
          exact ih  hf eM fr hp (lv_sub hl [2, 3, 1, 4, 0] rfl)
set_option maxRecDepth 100000 in
set_option maxHeartbeats 4000000 in
theorem L_X3_wantedByAny_4 {p : Program} {e : Env} {s : State} {m : MethodId} {args : Array Value} {below : List Frame} {meth : Method} {c : Code} (l : Launch) {E : Ev} (hN : 129 ≤ eN E) (hT : St E) {σ : SM} (cx : Cx E p s m meth c args RX3 cX3_wantedByAny 5 (some .int)) {o : Nat} (ho : o < 11) {x1 : Int32} {μ : OM} {rv : Int32} : ∀ (n : Nat) {x3 : Int32} {x2 : Int32}, f_X3_wantedByAny_4 x1 μ n x3 x2 = some rv → ∀ {u : SM} {H : Heap} {locs : List Loc} {ls : Array Slot}, u o = μ → (∀ q, u q = σ q) → Hp E u s H locs → lv_has ls 5 [(0, .ref (adr E o 0)), (1, .int x1), (2, .int x2), (3, .int x3)] → W p l e rm_X3_wantedByAny s m args below meth c H locs 0 0 (MQ below (va_Qi (fun r u => rv = r ∧ σ = u) (fun u t => Wu E u t) (eA E)) args s 0 0 (eA E)) (F0 m 4 ls []) := by
  have hx := cx.1.1
  have hb := cx.1.2.1
  intro n
  induction n with
  | zero =>
    intro x3 x2 hf
    exact absurd hf (by simp [f_X3_wantedByAny_4])
  | succ n ih =>
    intro x3 x2 hf u H locs ls eM fr hp hl
    rw [f_X3_wantedByAny_4] at hf
    refine lv_iload_n hx hb dX3_wantedByAny_4 rfl (lv_at hl 3 rfl) ?_
    refine lv_aload_n hx hb dX3_wantedByAny_5 rfl (lv_at hl 0 rfl) ?_
    refine gF_X3_25 ho eM hN cx hp dX3_wantedByAny_6 ?_
    refine lv_icmp_ge (tgt := 61) hx hb dX3_wantedByAny_9 (by decide) (fun c1 => ?_) (fun c1 => ?_)
    · have hf := fp hf c1
      refine lv_iload_n hx hb dX3_wantedByAny_61 rfl (lv_at hl 2 rfl) ?_
      cases hf
      exact r_i cx hp ⟨rfl, (funext fr).symm⟩ dX3_wantedByAny_62
    · have hf := fn hf c1
      refine lv_iconst (v := 0) hx hb dX3_wantedByAny_12 (by decide) ?_
      refine lv_istore (lv' := [(4, .int 0), (0, .ref (adr E o 0)), (1, .int x1), (2, .int x2), (3, .int x3)]) hx hb dX3_wantedByAny_13 hl (by decide) rfl (fun ls hl => ?_)
      obtain ⟨i7, hc, hf⟩ := fb hf
      refine L_X3_wantedByAny_15 l hN hT cx ho (fun u H locs ls eM fr hp hl => ?_) _ hc eM fr hp (lv_sub hl [1, 2, 3, 4, 0] rfl)
      refine lv_iinc (v := (x3 + 1)) (lv' := [(3, .int (x3 + 1)), (0, .ref (adr E o 0)), (1, .int x1), (2, .int i7)]) hx hb dX3_wantedByAny_55 hl (k := 3) rfl rfl (by decide) rfl (fun ls hl => ?_)
      refine lv_goto (tgt := 4) hx hb dX3_wantedByAny_58 (by decide) ?_
      exact ih  hf eM fr hp (lv_sub hl [1, 2, 3, 0] rfl)
set_option maxRecDepth 100000 in
set_option maxHeartbeats 4000000 in
theorem c_X3_wantedByAny (l : Launch) {E : Ev} (hN : 129 ≤ eN E) (hT : St E) {σ : SM} {o : Nat} {μ : OM} (ho : o < 11) (eM : σ o = μ) {p1 : Int32} {rv : Int32} (hf : f_X3_wantedByAny p1 μ = some rv) : Met l yX3_wantedByAny (wC yX3_wantedByAny cX3_wantedByAny 5 (some .int)) rm_X3_wantedByAny (va_Pc [.ref (adr E o 0), .int p1] (Wu E σ)) (va_Qi (fun r u => rv = r ∧ σ = u) (fun u t => Wu E u t) (eA E)) 0 0 (eA E) := by
  refine g_entry (lv := [(0, .ref (adr E o 0)), (1, .int p1)]) (by decide) (Nat.le_of_ble_eq_true rfl) rfl ?_
  intro p e s m below meth c cx hp ls hl
  have hx := cx.1.1
  have hb := cx.1.2.1
  have fr : ∀ q, σ q = σ q := fun _ => rfl
  unfold f_X3_wantedByAny at hf
  refine lv_iconst (v := 0) hx hb dX3_wantedByAny_0 (by decide) ?_
  refine lv_istore_n (lv' := [(2, .int 0), (0, .ref (adr E o 0)), (1, .int p1)]) hx hb dX3_wantedByAny_1 rfl hl (by decide) rfl (fun ls hl => ?_)
  refine lv_iconst (v := 0) hx hb dX3_wantedByAny_2 (by decide) ?_
  refine lv_istore_n (lv' := [(3, .int 0), (2, .int 0), (0, .ref (adr E o 0)), (1, .int p1)]) hx hb dX3_wantedByAny_3 rfl hl (by decide) rfl (fun ls hl => ?_)
  exact L_X3_wantedByAny_4 l hN hT cx ho _ hf eM fr hp (lv_sub hl [2, 3, 1, 0] rfl)
abbrev rm_X3_shortestCycle : Room := { frames := 5, cells := 0, slots := 0, locals := 116 }
set_option maxRecDepth 100000 in
set_option maxHeartbeats 4000000 in
theorem L_X3_shortestCycle_17 {p : Program} {e : Env} {s : State} {m : MethodId} {args : Array Value} {below : List Frame} {meth : Method} {c : Code} (l : Launch) {E : Ev} (hN : 129 ≤ eN E) (hT : St E) {σ : SM} (cx : Cx E p s m meth c args RX3 cX3_shortestCycle 4 (some .int)) {o : Nat} (ho : o < 11) {x1 : Int32} {μ : OM} {rv : Int32} : ∀ (n : Nat) {x3 : Int32} {x2 : Int32}, f_X3_shortestCycle_17 x1 μ n x3 x2 = some rv → ∀ {u : SM} {H : Heap} {locs : List Loc} {ls : Array Slot}, u o = μ → (∀ q, u q = σ q) → Hp E u s H locs → lv_has ls 4 [(0, .ref (adr E o 0)), (1, .int x1), (2, .int x2), (3, .int x3)] → W p l e rm_X3_shortestCycle s m args below meth c H locs 0 0 (MQ below (va_Qi (fun r u => rv = r ∧ σ = u) (fun u t => Wu E u t) (eA E)) args s 0 0 (eA E)) (F0 m 17 ls []) := by
  have hx := cx.1.1
  have hb := cx.1.2.1
  intro n
  induction n with
  | zero =>
    intro x3 x2 hf
    exact absurd hf (by simp [f_X3_shortestCycle_17])
  | succ n ih =>
    intro x3 x2 hf u H locs ls eM fr hp hl
    rw [f_X3_shortestCycle_17] at hf
    refine lv_iload_n hx hb dX3_shortestCycle_17 rfl (lv_at hl 3 rfl) ?_
    refine lv_aload_n hx hb dX3_shortestCycle_18 rfl (lv_at hl 0 rfl) ?_
    refine gF_X3_25 ho eM hN cx hp dX3_shortestCycle_19 ?_
    refine lv_icmp_gt (tgt := 47) hx hb dX3_shortestCycle_22 (by decide) (fun c4 => ?_) (fun c4 => ?_)
    · have hf := fp hf c4
      refine lv_iconst (v := (-1)) hx hb dX3_shortestCycle_47 (by decide) ?_
      cases hf
      exact r_i cx hp ⟨rfl, (funext fr).symm⟩ dX3_shortestCycle_48
    · have hf := fn hf c4
      refine lv_aload_n hx hb dX3_shortestCycle_25 rfl (lv_at hl 0 rfl) ?_
      refine lv_iload_n hx hb dX3_shortestCycle_26 rfl (lv_at hl 2 rfl) ?_
      obtain ⟨r5, hc, hf⟩ := fb hf
      refine x_i hp (y_S (As := [.ref (adr E o 0), .int x2]) (rest := []) cx hp hl (c_X3_wantedByAny l hN hT ho eM hc) (cw_X3_32 cx (mc := 0) (ms := 0) rfl rfl ⟨by decide, by decide⟩) rfl rfl (Nat.le_of_ble_eq_true rfl) dX3_shortestCycle_27 ⟨Nat.zero_le _, Nat.zero_le _⟩) (fun r_c u_c H locs hq hp => ?_)
      obtain ⟨rfl, rfl⟩ := hq
      refine lv_istore_n (lv' := [(2, .int r5), (0, .ref (adr E o 0)), (1, .int x1), (3, .int x3)]) hx hb dX3_shortestCycle_30 rfl hl (by decide) rfl (fun ls hl => ?_)
      refine lv_iload_n hx hb dX3_shortestCycle_31 rfl (lv_at hl 0 rfl) ?_
      refine lv_iconst (v := 1) hx hb dX3_shortestCycle_32 (by decide) ?_
      refine lv_iload_n hx hb dX3_shortestCycle_33 rfl (lv_at hl 2 rfl) ?_
      refine lv_ishl hx hb dX3_shortestCycle_34 ?_
      refine lv_iand hx hb dX3_shortestCycle_35 ?_
      refine lv_if_eq (tgt := 41) hx hb dX3_shortestCycle_36 (by decide) (fun c6 => ?_) (fun c6 => ?_)
      · have hf := fp hf c6
        refine lv_iinc (v := (x3 + 1)) (lv' := [(3, .int (x3 + 1)), (2, .int r5), (0, .ref (adr E o 0)), (1, .int x1)]) hx hb dX3_shortestCycle_41 hl (k := 3) rfl rfl (by decide) rfl (fun ls hl => ?_)
        refine lv_goto (tgt := 17) hx hb dX3_shortestCycle_44 (by decide) ?_
        exact ih  hf eM fr hp (lv_sub hl [2, 3, 1, 0] rfl)
      · have hf := fn hf c6
        refine lv_iload_n hx hb dX3_shortestCycle_39 rfl (lv_at hl 3 rfl) ?_
        cases hf
        exact r_i cx hp ⟨rfl, (funext fr).symm⟩ dX3_shortestCycle_40
set_option maxRecDepth 100000 in
set_option maxHeartbeats 4000000 in
theorem c_X3_shortestCycle (l : Launch) {E : Ev} (hN : 129 ≤ eN E) (hT : St E) {σ : SM} {o : Nat} {μ : OM} (ho : o < 11) (eM : σ o = μ) {p1 : Int32} {rv : Int32} (hf : f_X3_shortestCycle p1 μ = some rv) : Met l yX3_shortestCycle (wC yX3_shortestCycle cX3_shortestCycle 4 (some .int)) rm_X3_shortestCycle (va_Pc [.ref (adr E o 0), .int p1] (Wu E σ)) (va_Qi (fun r u => rv = r ∧ σ = u) (fun u t => Wu E u t) (eA E)) 0 0 (eA E) := by
  refine g_entry (lv := [(0, .ref (adr E o 0)), (1, .int p1)]) (by decide) (Nat.le_of_ble_eq_true rfl) rfl ?_
  intro p e s m below meth c cx hp ls hl
  have hx := cx.1.1
  have hb := cx.1.2.1
  have fr : ∀ q, σ q = σ q := fun _ => rfl
  unfold f_X3_shortestCycle at hf
  refine lv_aload_n hx hb dX3_shortestCycle_0 rfl (lv_at hl 0 rfl) ?_
  refine lv_iload_n hx hb dX3_shortestCycle_1 rfl (lv_at hl 1 rfl) ?_
  obtain ⟨r1, hc, hf⟩ := fb hf
  refine x_i hp (y_V (As := [.int p1]) (rest := []) cx hp hl (c_X5_heldBy l hN hT ho eM hc) (cw_X3_9 cx (mc := 0) (ms := 0) rfl rfl ⟨by decide, by decide⟩) (rC_X5 ho hN cx hp) rfl rfl (Nat.le_of_ble_eq_true rfl) dX3_shortestCycle_2 ⟨Nat.zero_le _, Nat.zero_le _⟩) (fun r_c u_c H locs hq hp => ?_)
  obtain ⟨rfl, rfl⟩ := hq
  refine lv_iconst (v := (-1)) hx hb dX3_shortestCycle_5 (by decide) ?_
  refine lv_icmp_ne (tgt := 11) hx hb dX3_shortestCycle_6 (by decide) (fun c2 => ?_) (fun c2 => ?_)
  · have hf := fn hf c2
    refine lv_iconst (v := 1) hx hb dX3_shortestCycle_11 (by decide) ?_
    refine lv_iload_n hx hb dX3_shortestCycle_12 rfl (lv_at hl 1 rfl) ?_
    refine lv_ishl hx hb dX3_shortestCycle_13 ?_
    obtain ⟨i3, x_e, hf⟩ := fl hf
    refine lv_nm x_e ?_
    refine lv_istore_n (lv' := [(2, .int i3), (0, .ref (adr E o 0)), (1, .int p1)]) hx hb dX3_shortestCycle_14 rfl hl (by decide) rfl (fun ls hl => ?_)
    refine lv_iconst (v := 1) hx hb dX3_shortestCycle_15 (by decide) ?_
    refine lv_istore_n (lv' := [(3, .int 1), (2, .int i3), (0, .ref (adr E o 0)), (1, .int p1)]) hx hb dX3_shortestCycle_16 rfl hl (by decide) rfl (fun ls hl => ?_)
    exact L_X3_shortestCycle_17 l hN hT cx ho _ hf eM fr hp (lv_sub hl [2, 3, 1, 0] rfl)
  · have hf := fp hf c2
    refine lv_iconst (v := (-1)) hx hb dX3_shortestCycle_9 (by decide) ?_
    cases hf
    exact r_i cx hp ⟨rfl, (funext fr).symm⟩ dX3_shortestCycle_10
abbrev rm_X3_bestFreeStall : Room := { frames := 2, cells := 0, slots := 0, locals := 43 }
set_option maxRecDepth 100000 in
set_option maxHeartbeats 4000000 in
theorem L_X3_bestFreeStall_8 {p : Program} {e : Env} {s : State} {m : MethodId} {args : Array Value} {below : List Frame} {meth : Method} {c : Code} (l : Launch) {E : Ev} (hN : 129 ≤ eN E) (hT : St E) {σ : SM} (cx : Cx E p s m meth c args RX3 cX3_bestFreeStall 5 (some .int)) {o : Nat} (ho : o < 11) {x2 : Int32} {x1 : Int32} {μ : OM} {rv : Int32} : ∀ (n : Nat) {x3 : Int32}, f_X3_bestFreeStall_8 x2 x1 μ n x3 = some rv → ∀ {u : SM} {H : Heap} {locs : List Loc} {ls : Array Slot}, u o = μ → (∀ q, u q = σ q) → Hp E u s H locs → lv_has ls 5 [(0, .ref (adr E o 0)), (1, .int x1), (2, .int x2), (3, .int x3)] → W p l e rm_X3_bestFreeStall s m args below meth c H locs 0 0 (MQ below (va_Qi (fun r u => rv = r ∧ σ = u) (fun u t => Wu E u t) (eA E)) args s 0 0 (eA E)) (F0 m 8 ls []) := by
  have hx := cx.1.1
  have hb := cx.1.2.1
  intro n
  induction n with
  | zero =>
    intro x3 hf
    exact absurd hf (by simp [f_X3_bestFreeStall_8])
  | succ n ih =>
    intro x3 hf u H locs ls eM fr hp hl
    rw [f_X3_bestFreeStall_8] at hf
    refine lv_iload_n hx hb dX3_bestFreeStall_8 rfl (lv_at hl 3 rfl) ?_
    refine lv_aload_n hx hb dX3_bestFreeStall_9 rfl (lv_at hl 0 rfl) ?_
    refine lv_iload_n hx hb dX3_bestFreeStall_10 rfl (lv_at hl 1 rfl) ?_
    obtain ⟨r2, hc, hf⟩ := fb hf
    refine x_i hp (y_V (As := [.int x1]) (rest := [.int x3]) cx hp hl (c_X5_wishesOf l hN hT ho eM hc) (cw_X3_36 cx (mc := 0) (ms := 0) rfl rfl ⟨by decide, by decide⟩) (rC_X5 ho hN cx hp) rfl rfl (Nat.le_of_ble_eq_true rfl) dX3_bestFreeStall_11 ⟨Nat.zero_le _, Nat.zero_le _⟩) (fun r_c u_c H locs hq hp => ?_)
    obtain ⟨rfl, rfl⟩ := hq
    refine lv_icmp_ge (tgt := 52) hx hb dX3_bestFreeStall_14 (by decide) (fun c3 => ?_) (fun c3 => ?_)
    · have hf := fp hf c3
      refine lv_iconst (v := (-1)) hx hb dX3_bestFreeStall_52 (by decide) ?_
      cases hf
      exact r_i cx hp ⟨rfl, (funext fr).symm⟩ dX3_bestFreeStall_53
    · have hf := fn hf c3
      refine lv_aload_n hx hb dX3_bestFreeStall_17 rfl (lv_at hl 0 rfl) ?_
      refine lv_iload_n hx hb dX3_bestFreeStall_18 rfl (lv_at hl 1 rfl) ?_
      refine lv_iload_n hx hb dX3_bestFreeStall_19 rfl (lv_at hl 3 rfl) ?_
      obtain ⟨r4, hc, hf⟩ := fb hf
      refine x_i hp (y_V (As := [.int x1, .int x3]) (rest := []) cx hp hl (c_X5_wish l hN hT ho eM hc) (cw_X3_39 cx (mc := 0) (ms := 0) rfl rfl ⟨by decide, by decide⟩) (rC_X5 ho hN cx hp) rfl rfl (Nat.le_of_ble_eq_true rfl) dX3_bestFreeStall_20 ⟨Nat.zero_le _, Nat.zero_le _⟩) (fun r_c u_c H locs hq hp => ?_)
      obtain ⟨rfl, rfl⟩ := hq
      refine lv_istore (lv' := [(4, .int r4), (0, .ref (adr E o 0)), (1, .int x1), (2, .int x2), (3, .int x3)]) hx hb dX3_bestFreeStall_23 hl (by decide) rfl (fun ls hl => ?_)
      refine lv_iload hx hb dX3_bestFreeStall_25 (lv_at hl 0 rfl) ?_
      refine lv_iload_n hx hb dX3_bestFreeStall_27 rfl (lv_at hl 3 rfl) ?_
      refine lv_icmp_ne (tgt := 33) hx hb dX3_bestFreeStall_28 (by decide) (fun c5 => ?_) (fun c5 => ?_)
      · have hf := fn hf c5
        refine lv_aload_n hx hb dX3_bestFreeStall_33 rfl (lv_at hl 1 rfl) ?_
        refine lv_iload hx hb dX3_bestFreeStall_34 (lv_at hl 0 rfl) ?_
        obtain ⟨r6, hc, hf⟩ := fb hf
        refine x_i hp (y_V (As := [.int r4]) (rest := []) cx hp hl (c_X5_holderOf l hN hT ho eM hc) (cw_X3_43 cx (mc := 0) (ms := 0) rfl rfl ⟨by decide, by decide⟩) (rC_X5 ho hN cx hp) rfl rfl (Nat.le_of_ble_eq_true rfl) dX3_bestFreeStall_36 ⟨Nat.zero_le _, Nat.zero_le _⟩) (fun r_c u_c H locs hq hp => ?_)
        obtain ⟨rfl, rfl⟩ := hq
        refine lv_iconst (v := (-1)) hx hb dX3_bestFreeStall_39 (by decide) ?_
        refine lv_icmp_ne (tgt := 46) hx hb dX3_bestFreeStall_40 (by decide) (fun c7 => ?_) (fun c7 => ?_)
        · have hf := fn hf c7
          refine lv_iinc (v := (x3 + 1)) (lv' := [(3, .int (x3 + 1)), (4, .int r4), (0, .ref (adr E o 0)), (1, .int x1), (2, .int x2)]) hx hb dX3_bestFreeStall_46 hl (k := 4) rfl rfl (by decide) rfl (fun ls hl => ?_)
          refine lv_goto (tgt := 8) hx hb dX3_bestFreeStall_49 (by decide) ?_
          exact ih  hf eM fr hp (lv_sub hl [2, 3, 4, 0] rfl)
        · have hf := fp hf c7
          refine lv_iload hx hb dX3_bestFreeStall_43 (lv_at hl 0 rfl) ?_
          cases hf
          exact r_i cx hp ⟨rfl, (funext fr).symm⟩ dX3_bestFreeStall_45
      · have hf := fp hf c5
        refine lv_iconst (v := (-1)) hx hb dX3_bestFreeStall_31 (by decide) ?_
        cases hf
        exact r_i cx hp ⟨rfl, (funext fr).symm⟩ dX3_bestFreeStall_32
set_option maxRecDepth 100000 in
set_option maxHeartbeats 4000000 in
theorem c_X3_bestFreeStall (l : Launch) {E : Ev} (hN : 129 ≤ eN E) (hT : St E) {σ : SM} {o : Nat} {μ : OM} (ho : o < 11) (eM : σ o = μ) {p1 : Int32} {rv : Int32} (hf : f_X3_bestFreeStall p1 μ = some rv) : Met l yX3_bestFreeStall (wC yX3_bestFreeStall cX3_bestFreeStall 5 (some .int)) rm_X3_bestFreeStall (va_Pc [.ref (adr E o 0), .int p1] (Wu E σ)) (va_Qi (fun r u => rv = r ∧ σ = u) (fun u t => Wu E u t) (eA E)) 0 0 (eA E) := by
  refine g_entry (lv := [(0, .ref (adr E o 0)), (1, .int p1)]) (by decide) (Nat.le_of_ble_eq_true rfl) rfl ?_
  intro p e s m below meth c cx hp ls hl
  have hx := cx.1.1
  have hb := cx.1.2.1
  have fr : ∀ q, σ q = σ q := fun _ => rfl
  unfold f_X3_bestFreeStall at hf
  refine lv_aload_n hx hb dX3_bestFreeStall_0 rfl (lv_at hl 0 rfl) ?_
  refine lv_iload_n hx hb dX3_bestFreeStall_1 rfl (lv_at hl 1 rfl) ?_
  obtain ⟨r1, hc, hf⟩ := fb hf
  refine x_i hp (y_V (As := [.int p1]) (rest := []) cx hp hl (c_X5_heldBy l hN hT ho eM hc) (cw_X3_9 cx (mc := 0) (ms := 0) rfl rfl ⟨by decide, by decide⟩) (rC_X5 ho hN cx hp) rfl rfl (Nat.le_of_ble_eq_true rfl) dX3_bestFreeStall_2 ⟨Nat.zero_le _, Nat.zero_le _⟩) (fun r_c u_c H locs hq hp => ?_)
  obtain ⟨rfl, rfl⟩ := hq
  refine lv_istore_n (lv' := [(2, .int r1), (0, .ref (adr E o 0)), (1, .int p1)]) hx hb dX3_bestFreeStall_5 rfl hl (by decide) rfl (fun ls hl => ?_)
  refine lv_iconst (v := 0) hx hb dX3_bestFreeStall_6 (by decide) ?_
  refine lv_istore_n (lv' := [(3, .int 0), (2, .int r1), (0, .ref (adr E o 0)), (1, .int p1)]) hx hb dX3_bestFreeStall_7 rfl hl (by decide) rfl (fun ls hl => ?_)
  exact L_X3_bestFreeStall_8 l hN hT cx ho _ hf eM fr hp (lv_sub hl [2, 3, 1, 0] rfl)
abbrev rm_X3_canImprove : Room := { frames := 6, cells := 0, slots := 0, locals := 139 }
set_option maxRecDepth 100000 in
set_option maxHeartbeats 4000000 in
theorem L_X3_canImprove_2 {p : Program} {e : Env} {s : State} {m : MethodId} {args : Array Value} {below : List Frame} {meth : Method} {c : Code} (l : Launch) {E : Ev} (hN : 129 ≤ eN E) (hT : St E) {σ : SM} (cx : Cx E p s m meth c args RX3 cX3_canImprove 3 (some .boolean)) {o : Nat} (ho : o < 11) {μ : OM} {rv : Int32} : ∀ (n : Nat) {x1 : Int32}, f_X3_canImprove_2 μ n x1 = some rv → ∀ {u : SM} {H : Heap} {locs : List Loc} {ls : Array Slot}, u o = μ → (∀ q, u q = σ q) → Hp E u s H locs → lv_has ls 3 [(0, .ref (adr E o 0)), (1, .int x1)] → W p l e rm_X3_canImprove s m args below meth c H locs 0 0 (MQ below (va_Qi (fun r u => rv = r ∧ σ = u) (fun u t => Wu E u t) (eA E)) args s 0 0 (eA E)) (F0 m 2 ls []) := by
  have hx := cx.1.1
  have hb := cx.1.2.1
  intro n
  induction n with
  | zero =>
    intro x1 hf
    exact absurd hf (by simp [f_X3_canImprove_2])
  | succ n ih =>
    intro x1 hf u H locs ls eM fr hp hl
    rw [f_X3_canImprove_2] at hf
    refine lv_iload_n hx hb dX3_canImprove_2 rfl (lv_at hl 1 rfl) ?_
    refine lv_aload_n hx hb dX3_canImprove_3 rfl (lv_at hl 0 rfl) ?_
    refine gF_X3_25 ho eM hN cx hp dX3_canImprove_4 ?_
    refine lv_icmp_ge (tgt := 52) hx hb dX3_canImprove_7 (by decide) (fun c1 => ?_) (fun c1 => ?_)
    · have hf := fp hf c1
      refine lv_iconst (v := 0) hx hb dX3_canImprove_52 (by decide) ?_
      cases hf
      exact r_z cx hp rfl ⟨rfl, (funext fr).symm⟩ dX3_canImprove_53
    · have hf := fn hf c1
      refine lv_aload_n hx hb dX3_canImprove_10 rfl (lv_at hl 0 rfl) ?_
      refine lv_iload_n hx hb dX3_canImprove_11 rfl (lv_at hl 1 rfl) ?_
      refine lv_iconst (v := (-1)) hx hb dX3_canImprove_12 (by decide) ?_
      refine lv_aload_n hx hb dX3_canImprove_13 rfl (lv_at hl 0 rfl) ?_
      refine lv_iload_n hx hb dX3_canImprove_14 rfl (lv_at hl 1 rfl) ?_
      obtain ⟨r2, hc, hf⟩ := fb hf
      refine x_i hp (y_V (As := [.int x1]) (rest := [.int (-1), .int x1, .ref (adr E o 0)]) cx hp hl (c_X5_heldBy l hN hT ho eM hc) (cw_X3_9 cx (mc := 0) (ms := 0) rfl rfl ⟨by decide, by decide⟩) (rC_X5 ho hN cx hp) rfl rfl (Nat.le_of_ble_eq_true rfl) dX3_canImprove_15 ⟨Nat.zero_le _, Nat.zero_le _⟩) (fun r_c u_c H locs hq hp => ?_)
      obtain ⟨rfl, rfl⟩ := hq
      obtain ⟨r3, hc, hf⟩ := fb hf
      refine x_i hp (y_V (As := [.int x1, .int (-1), .int r2]) (rest := []) cx hp hl (c_X5_ranksAbove l hN hT ho eM hc) (cw_X3_15 cx (mc := 0) (ms := 0) rfl rfl ⟨by decide, by decide⟩) (rC_X5 ho hN cx hp) rfl rfl (Nat.le_of_ble_eq_true rfl) dX3_canImprove_18 ⟨Nat.zero_le _, Nat.zero_le _⟩) (fun r_c u_c H locs hq hp => ?_)
      obtain ⟨rfl, rfl⟩ := hq
      refine lv_istore_n (lv' := [(2, .int r3), (0, .ref (adr E o 0)), (1, .int x1)]) hx hb dX3_canImprove_21 rfl hl (by decide) rfl (fun ls hl => ?_)
      refine lv_iload_n hx hb dX3_canImprove_22 rfl (lv_at hl 0 rfl) ?_
      refine lv_if_ne (tgt := 44) hx hb dX3_canImprove_23 (by decide) (fun c4 => ?_) (fun c4 => ?_)
      · have hf := fn hf c4
        refine lv_iconst (v := 1) hx hb dX3_canImprove_44 (by decide) ?_
        cases hf
        exact r_z cx hp rfl ⟨rfl, (funext fr).symm⟩ dX3_canImprove_45
      · have hf := fp hf c4
        refine lv_aload_n hx hb dX3_canImprove_26 rfl (lv_at hl 1 rfl) ?_
        refine lv_iload_n hx hb dX3_canImprove_27 rfl (lv_at hl 2 rfl) ?_
        obtain ⟨r5, hc, hf⟩ := fb hf
        refine x_i hp (y_S (As := [.ref (adr E o 0), .int x1]) (rest := []) cx hp hl (c_X3_bestFreeStall l hN hT ho eM hc) (cw_X3_46 cx (mc := 0) (ms := 0) rfl rfl ⟨by decide, by decide⟩) rfl rfl (Nat.le_of_ble_eq_true rfl) dX3_canImprove_28 ⟨Nat.zero_le _, Nat.zero_le _⟩) (fun r_c u_c H locs hq hp => ?_)
        obtain ⟨rfl, rfl⟩ := hq
        refine lv_iconst (v := (-1)) hx hb dX3_canImprove_31 (by decide) ?_
        refine lv_icmp_ne (tgt := 44) hx hb dX3_canImprove_32 (by decide) (fun c6 => ?_) (fun c6 => ?_)
        · have hf := fn hf c6
          refine lv_iconst (v := 1) hx hb dX3_canImprove_44 (by decide) ?_
          cases hf
          exact r_z cx hp rfl ⟨rfl, (funext fr).symm⟩ dX3_canImprove_45
        · have hf := fp hf c6
          refine lv_aload_n hx hb dX3_canImprove_35 rfl (lv_at hl 1 rfl) ?_
          refine lv_iload_n hx hb dX3_canImprove_36 rfl (lv_at hl 2 rfl) ?_
          obtain ⟨r7, hc, hf⟩ := fb hf
          refine x_i hp (y_S (As := [.ref (adr E o 0), .int x1]) (rest := []) cx hp hl (c_X3_shortestCycle l hN hT ho eM hc) (cw_X3_49 cx (mc := 0) (ms := 0) rfl rfl ⟨by decide, by decide⟩) rfl rfl (Nat.le_of_ble_eq_true rfl) dX3_canImprove_37 ⟨Nat.zero_le _, Nat.zero_le _⟩) (fun r_c u_c H locs hq hp => ?_)
          obtain ⟨rfl, rfl⟩ := hq
          refine lv_iconst (v := (-1)) hx hb dX3_canImprove_40 (by decide) ?_
          refine lv_icmp_eq (tgt := 46) hx hb dX3_canImprove_41 (by decide) (fun c8 => ?_) (fun c8 => ?_)
          · have hf := fp hf c8
            refine lv_iinc (v := (x1 + 1)) (lv' := [(1, .int (x1 + 1)), (2, .int r3), (0, .ref (adr E o 0))]) hx hb dX3_canImprove_46 hl (k := 2) rfl rfl (by decide) rfl (fun ls hl => ?_)
            refine lv_goto (tgt := 2) hx hb dX3_canImprove_49 (by decide) ?_
            exact ih  hf eM fr hp (lv_sub hl [2, 0] rfl)
          · have hf := fn hf c8
            refine lv_iconst (v := 1) hx hb dX3_canImprove_44 (by decide) ?_
            cases hf
            exact r_z cx hp rfl ⟨rfl, (funext fr).symm⟩ dX3_canImprove_45
set_option maxRecDepth 100000 in
set_option maxHeartbeats 4000000 in
theorem c_X3_canImprove (l : Launch) {E : Ev} (hN : 129 ≤ eN E) (hT : St E) {σ : SM} {o : Nat} {μ : OM} (ho : o < 11) (eM : σ o = μ)  {rv : Int32} (hf : f_X3_canImprove μ = some rv) : Met l yX3_canImprove (wC yX3_canImprove cX3_canImprove 3 (some .boolean)) rm_X3_canImprove (va_Pc [.ref (adr E o 0)] (Wu E σ)) (va_Qi (fun r u => rv = r ∧ σ = u) (fun u t => Wu E u t) (eA E)) 0 0 (eA E) := by
  refine g_entry (lv := [(0, .ref (adr E o 0))]) (by decide) (Nat.le_of_ble_eq_true rfl) rfl ?_
  intro p e s m below meth c cx hp ls hl
  have hx := cx.1.1
  have hb := cx.1.2.1
  have fr : ∀ q, σ q = σ q := fun _ => rfl
  unfold f_X3_canImprove at hf
  refine lv_iconst (v := 0) hx hb dX3_canImprove_0 (by decide) ?_
  refine lv_istore_n (lv' := [(1, .int 0), (0, .ref (adr E o 0))]) hx hb dX3_canImprove_1 rfl hl (by decide) rfl (fun ls hl => ?_)
  exact L_X3_canImprove_2 l hN hT cx ho _ hf eM fr hp (lv_sub hl [1, 0] rfl)
abbrev rm_X4_clear : Room := { frames := 0, cells := 0, slots := 0, locals := 0 }
set_option maxRecDepth 100000 in
set_option maxHeartbeats 4000000 in
theorem c_X4_clear (l : Launch) {E : Ev} (hN : 129 ≤ eN E) (hT : St E) {σ : SM}  {σ' : SM} (hf : f_X4_clear σ = some σ') : Met l yX4_clear (wC yX4_clear cX4_clear 1 none) rm_X4_clear (va_Pc [.ref (adr E 16 0)] (Wu E σ)) (va_Qv (fun u => σ' = u) (fun u t => Wu E u t) (eA E)) 0 0 (eA E) := by
  refine g_entry (lv := [(0, .ref (adr E 16 0))]) (by decide) (Nat.le_of_ble_eq_true rfl) rfl ?_
  intro p e s m below meth c cx hp ls hl
  have hx := cx.1.1
  have hb := cx.1.2.1
  unfold f_X4_clear at hf
  refine lv_aload_n hx hb dX4_clear_0 rfl (lv_at hl 0 rfl) ?_
  refine lv_iconst (v := 0) hx hb dX4_clear_1 (by decide) ?_
  obtain ⟨σ1, e_l, hf⟩ := fl hf
  refine pF_X4_17 rfl hN cx hp dX4_clear_2 (fun u H locs e_u n_u hp => ?_)
  obtain rfl := ((us_x e_u n_u).trans e_l).symm
  refine lv_aload_n hx hb dX4_clear_5 rfl (lv_at hl 0 rfl) ?_
  refine lv_iconst (v := 0) hx hb dX4_clear_6 (by decide) ?_
  obtain ⟨σ2, e_l, hf⟩ := fl hf
  refine pF_X4_21 rfl hN cx hp dX4_clear_7 (fun u H locs e_u n_u hp => ?_)
  obtain rfl := ((us_x e_u n_u).trans e_l).symm
  cases hf
  exact r_v cx hp rfl dX4_clear_10
abbrev rm_X4_slotAfter : Room := { frames := 0, cells := 0, slots := 0, locals := 0 }
set_option maxRecDepth 100000 in
set_option maxHeartbeats 4000000 in
theorem c_X4_slotAfter (l : Launch) {E : Ev} (hN : 129 ≤ eN E) (hT : St E) {σ : SM} {p1 : Int32} {rv : Int32} (hf : f_X4_slotAfter p1 σ = some rv) : Met l yX4_slotAfter (wC yX4_slotAfter cX4_slotAfter 2 (some .int)) rm_X4_slotAfter (va_Pc [.ref (adr E 16 0), .int p1] (Wu E σ)) (va_Qi (fun r u => rv = r ∧ σ = u) (fun u t => Wu E u t) (eA E)) 0 0 (eA E) := by
  refine g_entry (lv := [(0, .ref (adr E 16 0)), (1, .int p1)]) (by decide) (Nat.le_of_ble_eq_true rfl) rfl ?_
  intro p e s m below meth c cx hp ls hl
  have hx := cx.1.1
  have hb := cx.1.2.1
  unfold f_X4_slotAfter at hf
  refine lv_aload_n hx hb dX4_slotAfter_0 rfl (lv_at hl 0 rfl) ?_
  refine gF_X4_17 rfl hN cx hp dX4_slotAfter_1 ?_
  refine lv_iload_n hx hb dX4_slotAfter_4 rfl (lv_at hl 1 rfl) ?_
  refine lv_iadd hx hb dX4_slotAfter_5 ?_
  refine lv_bipush (v := 8) hx hb dX4_slotAfter_6 (by decide) ?_
  refine lv_irem hx hb dX4_slotAfter_8 (by decide) ?_
  cases hf
  exact r_i cx hp ⟨rfl, rfl⟩ dX4_slotAfter_9
abbrev rm_X4_record : Room := { frames := 1, cells := 0, slots := 0, locals := 22 }
set_option maxRecDepth 100000 in
set_option maxHeartbeats 4000000 in
theorem c_X4_record (l : Launch) {E : Ev} (hN : 129 ≤ eN E) (hT : St E) {σ : SM}  {σ' : SM} (hf : f_X4_record σ = some σ') : Met l yX4_record (wC yX4_record cX4_record 2 none) rm_X4_record (va_Pc [.ref (adr E 16 0), .ref (adr E 0 0)] (Wu E σ)) (va_Qv (fun u => σ' = u) (fun u t => Wu E u t) (eA E)) 0 0 (eA E) := by
  refine g_entry (lv := [(0, .ref (adr E 16 0)), (1, .ref (adr E 0 0))]) (by decide) (Nat.le_of_ble_eq_true rfl) rfl ?_
  intro p e s m below meth c cx hp ls hl
  have hx := cx.1.1
  have hb := cx.1.2.1
  unfold f_X4_record at hf
  refine lv_aload_n hx hb dX4_record_0 rfl (lv_at hl 1 rfl) ?_
  refine lv_aload_n hx hb dX4_record_1 rfl (lv_at hl 0 rfl) ?_
  refine gF_X4_11 rfl hN cx hp dX4_record_2 ?_
  refine lv_aload_n hx hb dX4_record_5 rfl (lv_at hl 0 rfl) ?_
  refine lv_aload_n hx hb dX4_record_6 rfl (lv_at hl 0 rfl) ?_
  refine gF_X4_21 rfl hN cx hp dX4_record_7 ?_
  obtain ⟨r1, hc, hf⟩ := fb hf
  refine x_i hp (y_V (As := [.int ((σ 16).1 0 2)]) (rest := [.ref (adr E 16 1), .ref (adr E 0 0)]) cx hp hl (c_X4_slotAfter l hN hT  hc) (cw_X4_25 cx (mc := 0) (ms := 0) rfl rfl ⟨by decide, by decide⟩) (rC_X4 hN cx hp) rfl rfl (Nat.le_of_ble_eq_true rfl) dX4_record_10 ⟨Nat.zero_le _, Nat.zero_le _⟩) (fun r_c u_c H locs hq hp => ?_)
  obtain ⟨rfl, rfl⟩ := hq
  obtain ⟨g_i, hf⟩ := fg hf
  obtain ⟨ob2, e_l, hf⟩ := fl hf
  refine lA_X4_1 hN cx hp g_i dX4_record_13 ?_
  rw [e_l]
  have hob2 : ob2 < 11 := by have := inb_lt g_i; omega
  have h0ob2 : 0 ≠ ob2 := by omega
  obtain ⟨m3, hc, hf⟩ := fb hf
  refine x_v hp (y_S (As := [.ref (adr E 0 0), .ref (adr E ob2 0)]) (rest := []) cx hp hl (c_X5_copy l hN hT (by decide) rfl hob2 rfl (by omega) hc) (cw_X4_29 cx (mc := 0) (ms := 0) rfl rfl ⟨by decide, by decide⟩) rfl rfl (Nat.le_of_ble_eq_true rfl) dX4_record_14 ⟨Nat.zero_le _, Nat.zero_le _⟩) (fun u_c H locs hq hp => ?_)
  obtain ⟨e_0, n_u⟩ := hq
  obtain ⟨σ4, e_l, hf⟩ := fl hf
  obtain rfl := ((us_x e_0 n_u).trans e_l).symm
  refine lv_aload_n hx hb dX4_record_17 rfl (lv_at hl 0 rfl) ?_
  refine gF_X4_21 rfl hN cx hp dX4_record_18 ?_
  refine lv_bipush (v := 8) hx hb dX4_record_21 (by decide) ?_
  refine lv_icmp_ge (tgt := 39) hx hb dX4_record_23 (by decide) (fun c5 => ?_) (fun c5 => ?_)
  · have hf := fp hf c5
    refine lv_aload_n hx hb dX4_record_39 rfl (lv_at hl 0 rfl) ?_
    refine lv_aload_n hx hb dX4_record_40 rfl (lv_at hl 0 rfl) ?_
    refine lv_iconst (v := 1) hx hb dX4_record_41 (by decide) ?_
    obtain ⟨r6, hc, hf⟩ := fb hf
    refine x_i hp (y_V (As := [.int 1]) (rest := [.ref (adr E 16 0)]) cx hp hl (c_X4_slotAfter l hN hT  hc) (cw_X4_25 cx (mc := 0) (ms := 0) rfl rfl ⟨by decide, by decide⟩) (rC_X4 hN cx hp) rfl rfl (Nat.le_of_ble_eq_true rfl) dX4_record_42 ⟨Nat.zero_le _, Nat.zero_le _⟩) (fun r_c u_c H locs hq hp => ?_)
    obtain ⟨rfl, rfl⟩ := hq
    obtain ⟨σ7, e_l, hf⟩ := fl hf
    refine pF_X4_17 rfl hN cx hp dX4_record_45 (fun u H locs e_u n_u hp => ?_)
    obtain rfl := ((us_x e_u n_u).trans e_l).symm
    cases hf
    exact r_v cx hp rfl dX4_record_48
  · have hf := fn hf c5
    refine lv_aload_n hx hb dX4_record_26 rfl (lv_at hl 0 rfl) ?_
    refine lv_dup hx hb dX4_record_27 rfl ?_
    refine gF_X4_21 rfl hN cx hp dX4_record_28 ?_
    refine lv_iconst (v := 1) hx hb dX4_record_31 (by decide) ?_
    refine lv_iadd hx hb dX4_record_32 ?_
    obtain ⟨σ8, e_l, hf⟩ := fl hf
    refine pF_X4_21 rfl hN cx hp dX4_record_33 (fun u H locs e_u n_u hp => ?_)
    obtain rfl := ((us_x e_u n_u).trans e_l).symm
    refine lv_goto (tgt := 48) hx hb dX4_record_36 (by decide) ?_
    cases hf
    exact r_v cx hp rfl dX4_record_48
abbrev rm_X4_takeBack : Room := { frames := 1, cells := 0, slots := 0, locals := 22 }
set_option maxRecDepth 100000 in
set_option maxHeartbeats 4000000 in
theorem c_X4_takeBack (l : Launch) {E : Ev} (hN : 129 ≤ eN E) (hT : St E) {σ : SM}  {rv : Int32} {σ' : SM} (hf : f_X4_takeBack σ = some (rv, σ')) : Met l yX4_takeBack (wC yX4_takeBack cX4_takeBack 2 (some .int)) rm_X4_takeBack (va_Pc [.ref (adr E 16 0), .ref (adr E 0 0)] (Wu E σ)) (va_Qi (fun r u => rv = r ∧ σ' = u) (fun u t => Wu E u t) (eA E)) 0 0 (eA E) := by
  refine g_entry (lv := [(0, .ref (adr E 16 0)), (1, .ref (adr E 0 0))]) (by decide) (Nat.le_of_ble_eq_true rfl) rfl ?_
  intro p e s m below meth c cx hp ls hl
  have hx := cx.1.1
  have hb := cx.1.2.1
  unfold f_X4_takeBack at hf
  refine lv_aload_n hx hb dX4_takeBack_0 rfl (lv_at hl 0 rfl) ?_
  refine gF_X4_21 rfl hN cx hp dX4_takeBack_1 ?_
  refine lv_if_ne (tgt := 9) hx hb dX4_takeBack_4 (by decide) (fun c1 => ?_) (fun c1 => ?_)
  · have hf := fn hf c1
    refine lv_aload_n hx hb dX4_takeBack_9 rfl (lv_at hl 0 rfl) ?_
    refine lv_dup hx hb dX4_takeBack_10 rfl ?_
    refine gF_X4_21 rfl hN cx hp dX4_takeBack_11 ?_
    refine lv_iconst (v := 1) hx hb dX4_takeBack_14 (by decide) ?_
    refine lv_isub hx hb dX4_takeBack_15 ?_
    obtain ⟨σ2, e_l, hf⟩ := fl hf
    refine pF_X4_21 rfl hN cx hp dX4_takeBack_16 (fun u H locs e_u n_u hp => ?_)
    obtain rfl := ((us_x e_u n_u).trans e_l).symm
    refine lv_aload_n hx hb dX4_takeBack_19 rfl (lv_at hl 0 rfl) ?_
    refine gF_X4_11 rfl hN cx hp dX4_takeBack_20 ?_
    refine lv_aload_n hx hb dX4_takeBack_23 rfl (lv_at hl 0 rfl) ?_
    refine lv_aload_n hx hb dX4_takeBack_24 rfl (lv_at hl 0 rfl) ?_
    refine gF_X4_21 rfl hN cx hp dX4_takeBack_25 ?_
    obtain ⟨r3, hc, hf⟩ := fb hf
    refine x_i hp (y_V (As := [.int ((σ2 16).1 0 2)]) (rest := [.ref (adr E 16 1)]) cx hp hl (c_X4_slotAfter l hN hT  hc) (cw_X4_25 cx (mc := 0) (ms := 0) rfl rfl ⟨by decide, by decide⟩) (rC_X4 hN cx hp) rfl rfl (Nat.le_of_ble_eq_true rfl) dX4_takeBack_28 ⟨Nat.zero_le _, Nat.zero_le _⟩) (fun r_c u_c H locs hq hp => ?_)
    obtain ⟨rfl, rfl⟩ := hq
    obtain ⟨g_i, hf⟩ := fg hf
    obtain ⟨ob4, e_l, hf⟩ := fl hf
    refine lA_X4_1 hN cx hp g_i dX4_takeBack_31 ?_
    rw [e_l]
    have hob4 : ob4 < 11 := by have := inb_lt g_i; omega
    have h0ob4 : 0 ≠ ob4 := by omega
    refine lv_aload_n hx hb dX4_takeBack_32 rfl (lv_at hl 1 rfl) ?_
    obtain ⟨m5, hc, hf⟩ := fb hf
    refine x_v hp (y_S (As := [.ref (adr E ob4 0), .ref (adr E 0 0)]) (rest := []) cx hp hl (c_X5_copy l hN hT hob4 rfl (by decide) rfl (by omega) hc) (cw_X4_29 cx (mc := 0) (ms := 0) rfl rfl ⟨by decide, by decide⟩) rfl rfl (Nat.le_of_ble_eq_true rfl) dX4_takeBack_33 ⟨Nat.zero_le _, Nat.zero_le _⟩) (fun u_c H locs hq hp => ?_)
    obtain ⟨e_0, n_u⟩ := hq
    obtain ⟨σ6, e_l, hf⟩ := fl hf
    obtain rfl := ((us_x e_0 n_u).trans e_l).symm
    refine lv_aload_n hx hb dX4_takeBack_36 rfl (lv_at hl 0 rfl) ?_
    refine gF_X4_21 rfl hN cx hp dX4_takeBack_37 ?_
    cases hf
    exact r_i cx hp ⟨rfl, rfl⟩ dX4_takeBack_40
  · have hf := fp hf c1
    refine lv_iconst (v := (-1)) hx hb dX4_takeBack_7 (by decide) ?_
    cases hf
    exact r_i cx hp ⟨rfl, rfl⟩ dX4_takeBack_8
abbrev rm_X10_isLetter : Room := { frames := 0, cells := 0, slots := 0, locals := 0 }
set_option maxRecDepth 100000 in
set_option maxHeartbeats 4000000 in
theorem c_X10_isLetter (l : Launch) {E : Ev} (hN : 129 ≤ eN E) (hT : St E) {σ : SM} {p0 : Int32} {rv : Int32} (hf : f_X10_isLetter p0 = some rv) : Met l yX10_isLetter (wC yX10_isLetter cX10_isLetter 1 (some .boolean)) rm_X10_isLetter (va_Pc [.int p0] (Wu E σ)) (va_Qi (fun r u => rv = r ∧ σ = u) (fun u t => Wu E u t) (eA E)) 0 0 (eA E) := by
  refine g_entry (lv := [(0, .int p0)]) (by decide) (Nat.le_of_ble_eq_true rfl) rfl ?_
  intro p e s m below meth c cx hp ls hl
  have hx := cx.1.1
  have hb := cx.1.2.1
  have fr : ∀ q, σ q = σ q := fun _ => rfl
  unfold f_X10_isLetter at hf
  refine lv_iload_n hx hb dX10_isLetter_0 rfl (lv_at hl 0 rfl) ?_
  refine lv_bipush (v := 97) hx hb dX10_isLetter_1 (by decide) ?_
  refine lv_icmp_lt (tgt := 16) hx hb dX10_isLetter_3 (by decide) (fun c1 => ?_) (fun c1 => ?_)
  · have hf := fp hf c1
    refine lv_iconst (v := 0) hx hb dX10_isLetter_16 (by decide) ?_
    cases hf
    exact r_z cx hp rfl ⟨rfl, (funext fr).symm⟩ dX10_isLetter_17
  · have hf := fn hf c1
    refine lv_iload_n hx hb dX10_isLetter_6 rfl (lv_at hl 0 rfl) ?_
    refine lv_bipush (v := 122) hx hb dX10_isLetter_7 (by decide) ?_
    refine lv_icmp_gt (tgt := 16) hx hb dX10_isLetter_9 (by decide) (fun c2 => ?_) (fun c2 => ?_)
    · have hf := fp hf c2
      refine lv_iconst (v := 0) hx hb dX10_isLetter_16 (by decide) ?_
      cases hf
      exact r_z cx hp rfl ⟨rfl, (funext fr).symm⟩ dX10_isLetter_17
    · have hf := fn hf c2
      refine lv_iconst (v := 1) hx hb dX10_isLetter_12 (by decide) ?_
      refine lv_goto (tgt := 17) hx hb dX10_isLetter_13 (by decide) ?_
      cases hf
      exact r_z cx hp rfl ⟨rfl, (funext fr).symm⟩ dX10_isLetter_17
abbrev rm_X10_readWord : Room := { frames := 1, cells := 0, slots := 0, locals := 21 }
set_option maxRecDepth 100000 in
set_option maxHeartbeats 4000000 in
theorem L_X10_readWord_5 {p : Program} {e : Env} {s : State} {m : MethodId} {args : Array Value} {below : List Frame} {meth : Method} {c : Code} (l : Launch) {E : Ev} (hN : 129 ≤ eN E) (hT : St E) {σ : SM} (cx : Cx E p s m meth c args RX10 cX10_readWord 1 none) {β : OM} {τ' : OM} : ∀ (n : Nat) {τ : OM}, f_X10_readWord_5 β n τ = some τ' → ∀ {u : SM} {H : Heap} {locs : List Loc} {ls : Array Slot}, u 12 = τ → u 13 = β → (∀ q, q ≠ 12 → u q = σ q) → Hp E u s H locs → lv_has ls 1 [(0, .ref (adr E 12 0))] → W p l e rm_X10_readWord s m args below meth c H locs 0 0 (MQ below (va_Qv (fun u => u 12 = τ' ∧ ∀ q, q ≠ 12 → u q = σ q) (fun u t => Wu E u t) (eA E)) args s 0 0 (eA E)) (F0 m 5 ls []) := by
  have hx := cx.1.1
  have hb := cx.1.2.1
  have d_13_12 : (13 : Nat) ≠ 12 := by decide
  intro n
  induction n with
  | zero =>
    intro τ hf
    exact absurd hf (by simp [f_X10_readWord_5])
  | succ n ih =>
    intro τ hf u H locs ls e12 e13 fr hp hl
    rw [f_X10_readWord_5] at hf
    refine lv_aload_n hx hb dX10_readWord_5 rfl (lv_at hl 0 rfl) ?_
    refine gF_X10_25 e12 hN cx hp dX10_readWord_6 ?_
    refine lv_aload_n hx hb dX10_readWord_9 rfl (lv_at hl 0 rfl) ?_
    refine gF_X10_12 rfl hN cx hp dX10_readWord_10 ?_
    refine gF_X10_38_13 e13 hN cx hp dX10_readWord_13 ?_
    refine lv_icmp_ge (tgt := 91) hx hb dX10_readWord_16 (by decide) (fun c2 => ?_) (fun c2 => ?_)
    · have hf := fp hf c2
      cases hf
      exact r_v cx hp ⟨e12, fr⟩ dX10_readWord_91
    · have hf := fn hf c2
      refine lv_aload_n hx hb dX10_readWord_19 rfl (lv_at hl 0 rfl) ?_
      refine gF_X10_12 rfl hN cx hp dX10_readWord_20 ?_
      refine lv_aload_n hx hb dX10_readWord_23 rfl (lv_at hl 0 rfl) ?_
      refine gF_X10_25 e12 hN cx hp dX10_readWord_24 ?_
      obtain ⟨r3, hc, hf⟩ := fb hf
      refine x_i hp (y_V (As := [.int (τ.1 0 3)]) (rest := []) cx hp hl (c_X2_byteAt_13 l hN hT e13 hc) (cw_X10_41 cx (mc := 0) (ms := 0) rfl rfl ⟨by decide, by decide⟩) (rC_X2_13 hN cx hp) rfl rfl (Nat.le_of_ble_eq_true rfl) dX10_readWord_27 ⟨Nat.zero_le _, Nat.zero_le _⟩) (fun r_c u_c H locs hq hp => ?_)
      obtain ⟨rfl, rfl⟩ := hq
      obtain ⟨r4, hc, hf⟩ := fb hf
      refine x_i hp (y_S (As := [.int r3]) (rest := []) cx hp hl (c_X10_isLetter l hN hT  hc) (cw_X10_45 cx (mc := 0) (ms := 0) rfl rfl ⟨by decide, by decide⟩) rfl rfl (Nat.le_of_ble_eq_true rfl) dX10_readWord_30 ⟨Nat.zero_le _, Nat.zero_le _⟩) (fun r_c u_c H locs hq hp => ?_)
      obtain ⟨rfl, rfl⟩ := hq
      refine lv_if_eq (tgt := 91) hx hb dX10_readWord_33 (by decide) (fun c5 => ?_) (fun c5 => ?_)
      · have hf := fp hf c5
        cases hf
        exact r_v cx hp ⟨e12, fr⟩ dX10_readWord_91
      · have hf := fn hf c5
        refine lv_aload_n hx hb dX10_readWord_36 rfl (lv_at hl 0 rfl) ?_
        refine lv_aload_n hx hb dX10_readWord_37 rfl (lv_at hl 0 rfl) ?_
        refine gF_X10_25 e12 hN cx hp dX10_readWord_38 ?_
        refine lv_aload_n hx hb dX10_readWord_41 rfl (lv_at hl 0 rfl) ?_
        refine gF_X10_22 e12 hN cx hp dX10_readWord_42 ?_
        refine lv_isub hx hb dX10_readWord_45 ?_
        refine lv_bipush (v := 6) hx hb dX10_readWord_46 (by decide) ?_
        refine lv_icmp_ge (tgt := 74) hx hb dX10_readWord_48 (by decide) (fun c6 => ?_) (fun c6 => ?_)
        · have hf := fp hf c6
          refine lv_lconst (v := 0) hx hb dX10_readWord_74 (by decide) ?_
          obtain ⟨τ7, e_l, hf⟩ := fl hf
          refine pF_X10_31 e12 hN cx hp dX10_readWord_75 (fun u H locs e_u n_u hp => ?_)
          have e12 := e_u.trans e_l
          have e13 := (n_u _ d_13_12).trans e13
          have fr : ∀ q, q ≠ 12 → u q = σ q := fun q h0 => (n_u q h0).trans (fr q h0)
          refine lv_aload_n hx hb dX10_readWord_78 rfl (lv_at hl 0 rfl) ?_
          refine lv_dup hx hb dX10_readWord_79 rfl ?_
          refine gF_X10_25 e12 hN cx hp dX10_readWord_80 ?_
          refine lv_iconst (v := 1) hx hb dX10_readWord_83 (by decide) ?_
          refine lv_iadd hx hb dX10_readWord_84 ?_
          obtain ⟨τ8, e_l, hf⟩ := fl hf
          refine pF_X10_25 e12 hN cx hp dX10_readWord_85 (fun u H locs e_u n_u hp => ?_)
          have e12 := e_u.trans e_l
          have e13 := (n_u _ d_13_12).trans e13
          have fr : ∀ q, q ≠ 12 → u q = σ q := fun q h0 => (n_u q h0).trans (fr q h0)
          refine lv_goto (tgt := 5) hx hb dX10_readWord_88 (by decide) ?_
          exact ih  hf e12 e13 fr hp (lv_sub hl [0] rfl)
        · have hf := fn hf c6
          refine lv_aload_n hx hb dX10_readWord_51 rfl (lv_at hl 0 rfl) ?_
          refine gF_X10_31 e12 hN cx hp dX10_readWord_52 ?_
          refine lv_bipush (v := 8) hx hb dX10_readWord_55 (by decide) ?_
          refine lv_lshl hx hb dX10_readWord_57 rfl ?_
          refine lv_aload_n hx hb dX10_readWord_58 rfl (lv_at hl 0 rfl) ?_
          refine gF_X10_12 rfl hN cx hp dX10_readWord_59 ?_
          refine lv_aload_n hx hb dX10_readWord_62 rfl (lv_at hl 0 rfl) ?_
          refine gF_X10_25 e12 hN cx hp dX10_readWord_63 ?_
          obtain ⟨r9, hc, hf⟩ := fb hf
          refine x_i hp (y_V (As := [.int (τ.1 0 3)]) (rest := [.long ((τ.2.1 0 5) <<< ((Int32.toInt64 8) &&& 63)), .ref (adr E 12 0)]) cx hp hl (c_X2_byteAt_13 l hN hT e13 hc) (cw_X10_41 cx (mc := 0) (ms := 0) rfl rfl ⟨by decide, by decide⟩) (rC_X2_13 hN cx hp) rfl rfl (Nat.le_of_ble_eq_true rfl) dX10_readWord_66 ⟨Nat.zero_le _, Nat.zero_le _⟩) (fun r_c u_c H locs hq hp => ?_)
          obtain ⟨rfl, rfl⟩ := hq
          refine lv_i2l hx hb dX10_readWord_69 rfl ?_
          refine lv_lor hx hb dX10_readWord_70 ?_
          refine lv_goto (tgt := 75) hx hb dX10_readWord_71 (by decide) ?_
          obtain ⟨τ10, e_l, hf⟩ := fl hf
          refine pF_X10_31 e12 hN cx hp dX10_readWord_75 (fun u H locs e_u n_u hp => ?_)
          have e12 := e_u.trans e_l
          have e13 := (n_u _ d_13_12).trans e13
          have fr : ∀ q, q ≠ 12 → u q = σ q := fun q h0 => (n_u q h0).trans (fr q h0)
          refine lv_aload_n hx hb dX10_readWord_78 rfl (lv_at hl 0 rfl) ?_
          refine lv_dup hx hb dX10_readWord_79 rfl ?_
          refine gF_X10_25 e12 hN cx hp dX10_readWord_80 ?_
          refine lv_iconst (v := 1) hx hb dX10_readWord_83 (by decide) ?_
          refine lv_iadd hx hb dX10_readWord_84 ?_
          obtain ⟨τ11, e_l, hf⟩ := fl hf
          refine pF_X10_25 e12 hN cx hp dX10_readWord_85 (fun u H locs e_u n_u hp => ?_)
          have e12 := e_u.trans e_l
          have e13 := (n_u _ d_13_12).trans e13
          have fr : ∀ q, q ≠ 12 → u q = σ q := fun q h0 => (n_u q h0).trans (fr q h0)
          refine lv_goto (tgt := 5) hx hb dX10_readWord_88 (by decide) ?_
          exact ih  hf e12 e13 fr hp (lv_sub hl [0] rfl)
set_option maxRecDepth 100000 in
set_option maxHeartbeats 4000000 in
theorem c_X10_readWord (l : Launch) {E : Ev} (hN : 129 ≤ eN E) (hT : St E) {σ : SM} {τ : OM} (e12 : σ 12 = τ) {β : OM} (e13 : σ 13 = β)  {τ' : OM} (hf : f_X10_readWord τ β = some τ') : Met l yX10_readWord (wC yX10_readWord cX10_readWord 1 none) rm_X10_readWord (va_Pc [.ref (adr E 12 0)] (Wu E σ)) (va_Qv (fun u => u 12 = τ' ∧ ∀ q, q ≠ 12 → u q = σ q) (fun u t => Wu E u t) (eA E)) 0 0 (eA E) := by
  refine g_entry (lv := [(0, .ref (adr E 12 0))]) (by decide) (Nat.le_of_ble_eq_true rfl) rfl ?_
  intro p e s m below meth c cx hp ls hl
  have hx := cx.1.1
  have hb := cx.1.2.1
  have fr : ∀ q, q ≠ 12 → σ q = σ q := fun _ _ => rfl
  have d_13_12 : (13 : Nat) ≠ 12 := by decide
  unfold f_X10_readWord at hf
  refine lv_aload_n hx hb dX10_readWord_0 rfl (lv_at hl 0 rfl) ?_
  refine lv_iconst (v := 1) hx hb dX10_readWord_1 (by decide) ?_
  obtain ⟨τ1, e_l, hf⟩ := fl hf
  refine pF_X10_18 e12 hN cx hp dX10_readWord_2 (fun u H locs e_u n_u hp => ?_)
  have e12 := e_u.trans e_l
  have e13 := (n_u _ d_13_12).trans e13
  have fr : ∀ q, q ≠ 12 → u q = σ q := fun q h0 => (n_u q h0).trans (fr q h0)
  exact L_X10_readWord_5 l hN hT cx  _ hf e12 e13 fr hp (lv_sub hl [0] rfl)
abbrev rm_X10_isDigit : Room := { frames := 0, cells := 0, slots := 0, locals := 0 }
set_option maxRecDepth 100000 in
set_option maxHeartbeats 4000000 in
theorem c_X10_isDigit (l : Launch) {E : Ev} (hN : 129 ≤ eN E) (hT : St E) {σ : SM} {p0 : Int32} {rv : Int32} (hf : f_X10_isDigit p0 = some rv) : Met l yX10_isDigit (wC yX10_isDigit cX10_isDigit 1 (some .boolean)) rm_X10_isDigit (va_Pc [.int p0] (Wu E σ)) (va_Qi (fun r u => rv = r ∧ σ = u) (fun u t => Wu E u t) (eA E)) 0 0 (eA E) := by
  refine g_entry (lv := [(0, .int p0)]) (by decide) (Nat.le_of_ble_eq_true rfl) rfl ?_
  intro p e s m below meth c cx hp ls hl
  have hx := cx.1.1
  have hb := cx.1.2.1
  have fr : ∀ q, σ q = σ q := fun _ => rfl
  unfold f_X10_isDigit at hf
  refine lv_iload_n hx hb dX10_isDigit_0 rfl (lv_at hl 0 rfl) ?_
  refine lv_bipush (v := 48) hx hb dX10_isDigit_1 (by decide) ?_
  refine lv_icmp_lt (tgt := 16) hx hb dX10_isDigit_3 (by decide) (fun c1 => ?_) (fun c1 => ?_)
  · have hf := fp hf c1
    refine lv_iconst (v := 0) hx hb dX10_isDigit_16 (by decide) ?_
    cases hf
    exact r_z cx hp rfl ⟨rfl, (funext fr).symm⟩ dX10_isDigit_17
  · have hf := fn hf c1
    refine lv_iload_n hx hb dX10_isDigit_6 rfl (lv_at hl 0 rfl) ?_
    refine lv_bipush (v := 57) hx hb dX10_isDigit_7 (by decide) ?_
    refine lv_icmp_gt (tgt := 16) hx hb dX10_isDigit_9 (by decide) (fun c2 => ?_) (fun c2 => ?_)
    · have hf := fp hf c2
      refine lv_iconst (v := 0) hx hb dX10_isDigit_16 (by decide) ?_
      cases hf
      exact r_z cx hp rfl ⟨rfl, (funext fr).symm⟩ dX10_isDigit_17
    · have hf := fn hf c2
      refine lv_iconst (v := 1) hx hb dX10_isDigit_12 (by decide) ?_
      refine lv_goto (tgt := 17) hx hb dX10_isDigit_13 (by decide) ?_
      cases hf
      exact r_z cx hp rfl ⟨rfl, (funext fr).symm⟩ dX10_isDigit_17
abbrev rm_X10_readNumber : Room := { frames := 1, cells := 0, slots := 0, locals := 21 }
set_option maxRecDepth 100000 in
set_option maxHeartbeats 4000000 in
theorem L_X10_readNumber_5 {p : Program} {e : Env} {s : State} {m : MethodId} {args : Array Value} {below : List Frame} {meth : Method} {c : Code} (l : Launch) {E : Ev} (hN : 129 ≤ eN E) (hT : St E) {σ : SM} (cx : Cx E p s m meth c args RX10 cX10_readNumber 1 none) {β : OM} {τ' : OM} : ∀ (n : Nat) {τ : OM}, f_X10_readNumber_5 β n τ = some τ' → ∀ {u : SM} {H : Heap} {locs : List Loc} {ls : Array Slot}, u 12 = τ → u 13 = β → (∀ q, q ≠ 12 → u q = σ q) → Hp E u s H locs → lv_has ls 1 [(0, .ref (adr E 12 0))] → W p l e rm_X10_readNumber s m args below meth c H locs 0 0 (MQ below (va_Qv (fun u => u 12 = τ' ∧ ∀ q, q ≠ 12 → u q = σ q) (fun u t => Wu E u t) (eA E)) args s 0 0 (eA E)) (F0 m 5 ls []) := by
  have hx := cx.1.1
  have hb := cx.1.2.1
  have d_13_12 : (13 : Nat) ≠ 12 := by decide
  intro n
  induction n with
  | zero =>
    intro τ hf
    exact absurd hf (by simp [f_X10_readNumber_5])
  | succ n ih =>
    intro τ hf u H locs ls e12 e13 fr hp hl
    rw [f_X10_readNumber_5] at hf
    refine lv_aload_n hx hb dX10_readNumber_5 rfl (lv_at hl 0 rfl) ?_
    refine gF_X10_25 e12 hN cx hp dX10_readNumber_6 ?_
    refine lv_aload_n hx hb dX10_readNumber_9 rfl (lv_at hl 0 rfl) ?_
    refine gF_X10_12 rfl hN cx hp dX10_readNumber_10 ?_
    refine gF_X10_38_13 e13 hN cx hp dX10_readNumber_13 ?_
    refine lv_icmp_ge (tgt := 85) hx hb dX10_readNumber_16 (by decide) (fun c2 => ?_) (fun c2 => ?_)
    · have hf := fp hf c2
      cases hf
      exact r_v cx hp ⟨e12, fr⟩ dX10_readNumber_85
    · have hf := fn hf c2
      refine lv_aload_n hx hb dX10_readNumber_19 rfl (lv_at hl 0 rfl) ?_
      refine gF_X10_12 rfl hN cx hp dX10_readNumber_20 ?_
      refine lv_aload_n hx hb dX10_readNumber_23 rfl (lv_at hl 0 rfl) ?_
      refine gF_X10_25 e12 hN cx hp dX10_readNumber_24 ?_
      obtain ⟨r3, hc, hf⟩ := fb hf
      refine x_i hp (y_V (As := [.int (τ.1 0 3)]) (rest := []) cx hp hl (c_X2_byteAt_13 l hN hT e13 hc) (cw_X10_41 cx (mc := 0) (ms := 0) rfl rfl ⟨by decide, by decide⟩) (rC_X2_13 hN cx hp) rfl rfl (Nat.le_of_ble_eq_true rfl) dX10_readNumber_27 ⟨Nat.zero_le _, Nat.zero_le _⟩) (fun r_c u_c H locs hq hp => ?_)
      obtain ⟨rfl, rfl⟩ := hq
      obtain ⟨r4, hc, hf⟩ := fb hf
      refine x_i hp (y_S (As := [.int r3]) (rest := []) cx hp hl (c_X10_isDigit l hN hT  hc) (cw_X10_52 cx (mc := 0) (ms := 0) rfl rfl ⟨by decide, by decide⟩) rfl rfl (Nat.le_of_ble_eq_true rfl) dX10_readNumber_30 ⟨Nat.zero_le _, Nat.zero_le _⟩) (fun r_c u_c H locs hq hp => ?_)
      obtain ⟨rfl, rfl⟩ := hq
      refine lv_if_eq (tgt := 85) hx hb dX10_readNumber_33 (by decide) (fun c5 => ?_) (fun c5 => ?_)
      · have hf := fp hf c5
        cases hf
        exact r_v cx hp ⟨e12, fr⟩ dX10_readNumber_85
      · have hf := fn hf c5
        refine lv_aload_n hx hb dX10_readNumber_36 rfl (lv_at hl 0 rfl) ?_
        refine gF_X10_28 e12 hN cx hp dX10_readNumber_37 ?_
        refine lv_sipush (v := 10000) hx hb dX10_readNumber_40 (by decide) ?_
        refine lv_icmp_ge (tgt := 72) hx hb dX10_readNumber_43 (by decide) (fun c6 => ?_) (fun c6 => ?_)
        · have hf := fp hf c6
          refine lv_aload_n hx hb dX10_readNumber_72 rfl (lv_at hl 0 rfl) ?_
          refine lv_dup hx hb dX10_readNumber_73 rfl ?_
          refine gF_X10_25 e12 hN cx hp dX10_readNumber_74 ?_
          refine lv_iconst (v := 1) hx hb dX10_readNumber_77 (by decide) ?_
          refine lv_iadd hx hb dX10_readNumber_78 ?_
          obtain ⟨τ7, e_l, hf⟩ := fl hf
          refine pF_X10_25 e12 hN cx hp dX10_readNumber_79 (fun u H locs e_u n_u hp => ?_)
          have e12 := e_u.trans e_l
          have e13 := (n_u _ d_13_12).trans e13
          have fr : ∀ q, q ≠ 12 → u q = σ q := fun q h0 => (n_u q h0).trans (fr q h0)
          refine lv_goto (tgt := 5) hx hb dX10_readNumber_82 (by decide) ?_
          exact ih  hf e12 e13 fr hp (lv_sub hl [0] rfl)
        · have hf := fn hf c6
          refine lv_aload_n hx hb dX10_readNumber_46 rfl (lv_at hl 0 rfl) ?_
          refine lv_bipush (v := 10) hx hb dX10_readNumber_47 (by decide) ?_
          refine lv_aload_n hx hb dX10_readNumber_49 rfl (lv_at hl 0 rfl) ?_
          refine gF_X10_28 e12 hN cx hp dX10_readNumber_50 ?_
          refine lv_imul hx hb dX10_readNumber_53 ?_
          refine lv_aload_n hx hb dX10_readNumber_54 rfl (lv_at hl 0 rfl) ?_
          refine gF_X10_12 rfl hN cx hp dX10_readNumber_55 ?_
          refine lv_aload_n hx hb dX10_readNumber_58 rfl (lv_at hl 0 rfl) ?_
          refine gF_X10_25 e12 hN cx hp dX10_readNumber_59 ?_
          obtain ⟨r8, hc, hf⟩ := fb hf
          refine x_i hp (y_V (As := [.int (τ.1 0 3)]) (rest := [.int (10 * (τ.1 0 4)), .ref (adr E 12 0)]) cx hp hl (c_X2_byteAt_13 l hN hT e13 hc) (cw_X10_41 cx (mc := 0) (ms := 0) rfl rfl ⟨by decide, by decide⟩) (rC_X2_13 hN cx hp) rfl rfl (Nat.le_of_ble_eq_true rfl) dX10_readNumber_62 ⟨Nat.zero_le _, Nat.zero_le _⟩) (fun r_c u_c H locs hq hp => ?_)
          obtain ⟨rfl, rfl⟩ := hq
          refine lv_iadd hx hb dX10_readNumber_65 ?_
          refine lv_bipush (v := 48) hx hb dX10_readNumber_66 (by decide) ?_
          refine lv_isub hx hb dX10_readNumber_68 ?_
          obtain ⟨τ9, e_l, hf⟩ := fl hf
          refine pF_X10_28 e12 hN cx hp dX10_readNumber_69 (fun u H locs e_u n_u hp => ?_)
          have e12 := e_u.trans e_l
          have e13 := (n_u _ d_13_12).trans e13
          have fr : ∀ q, q ≠ 12 → u q = σ q := fun q h0 => (n_u q h0).trans (fr q h0)
          refine lv_aload_n hx hb dX10_readNumber_72 rfl (lv_at hl 0 rfl) ?_
          refine lv_dup hx hb dX10_readNumber_73 rfl ?_
          refine gF_X10_25 e12 hN cx hp dX10_readNumber_74 ?_
          refine lv_iconst (v := 1) hx hb dX10_readNumber_77 (by decide) ?_
          refine lv_iadd hx hb dX10_readNumber_78 ?_
          obtain ⟨τ10, e_l, hf⟩ := fl hf
          refine pF_X10_25 e12 hN cx hp dX10_readNumber_79 (fun u H locs e_u n_u hp => ?_)
          have e12 := e_u.trans e_l
          have e13 := (n_u _ d_13_12).trans e13
          have fr : ∀ q, q ≠ 12 → u q = σ q := fun q h0 => (n_u q h0).trans (fr q h0)
          refine lv_goto (tgt := 5) hx hb dX10_readNumber_82 (by decide) ?_
          exact ih  hf e12 e13 fr hp (lv_sub hl [0] rfl)
set_option maxRecDepth 100000 in
set_option maxHeartbeats 4000000 in
theorem c_X10_readNumber (l : Launch) {E : Ev} (hN : 129 ≤ eN E) (hT : St E) {σ : SM} {τ : OM} (e12 : σ 12 = τ) {β : OM} (e13 : σ 13 = β)  {τ' : OM} (hf : f_X10_readNumber τ β = some τ') : Met l yX10_readNumber (wC yX10_readNumber cX10_readNumber 1 none) rm_X10_readNumber (va_Pc [.ref (adr E 12 0)] (Wu E σ)) (va_Qv (fun u => u 12 = τ' ∧ ∀ q, q ≠ 12 → u q = σ q) (fun u t => Wu E u t) (eA E)) 0 0 (eA E) := by
  refine g_entry (lv := [(0, .ref (adr E 12 0))]) (by decide) (Nat.le_of_ble_eq_true rfl) rfl ?_
  intro p e s m below meth c cx hp ls hl
  have hx := cx.1.1
  have hb := cx.1.2.1
  have fr : ∀ q, q ≠ 12 → σ q = σ q := fun _ _ => rfl
  have d_13_12 : (13 : Nat) ≠ 12 := by decide
  unfold f_X10_readNumber at hf
  refine lv_aload_n hx hb dX10_readNumber_0 rfl (lv_at hl 0 rfl) ?_
  refine lv_iconst (v := 2) hx hb dX10_readNumber_1 (by decide) ?_
  obtain ⟨τ1, e_l, hf⟩ := fl hf
  refine pF_X10_18 e12 hN cx hp dX10_readNumber_2 (fun u H locs e_u n_u hp => ?_)
  have e12 := e_u.trans e_l
  have e13 := (n_u _ d_13_12).trans e13
  have fr : ∀ q, q ≠ 12 → u q = σ q := fun q h0 => (n_u q h0).trans (fr q h0)
  exact L_X10_readNumber_5 l hN hT cx  _ hf e12 e13 fr hp (lv_sub hl [0] rfl)

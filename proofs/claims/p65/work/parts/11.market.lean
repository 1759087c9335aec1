abbrev rm_X5_hasSeller : Room := { frames := 0, cells := 0, slots := 0, locals := 0 }
set_option maxRecDepth 100000 in
set_option maxHeartbeats 4000000 in
theorem c_X5_hasSeller (l : Launch) {E : Ev} (hN : 129 ≤ eN E) (hT : St E) {σ : SM} {o : Nat} {μ : OM} (ho : o < 11) (eM : σ o = μ) {p1 : Int32} {rv : Int32} (hf : f_X5_hasSeller p1 μ = some rv) : Met l yX5_hasSeller (wC yX5_hasSeller cX5_hasSeller 2 (some .boolean)) rm_X5_hasSeller (va_Pc [.ref (adr E o 0), .int p1] (Wu E σ)) (va_Qi (fun r u => rv = r ∧ σ = u) (fun u t => Wu E u t) (eA E)) 0 0 (eA E) := by
  refine g_entry (lv := [(0, .ref (adr E o 0)), (1, .int p1)]) (by decide) (Nat.le_of_ble_eq_true rfl) rfl ?_
  intro p e s m below meth c cx hp ls hl
  have hx := cx.1.1
  have hb := cx.1.2.1
  have fr : ∀ q, σ q = σ q := fun _ => rfl
  unfold f_X5_hasSeller at hf
  refine lv_iload_n hx hb dX5_hasSeller_0 rfl (lv_at hl 1 rfl) ?_
  refine lv_if_lt (tgt := 16) hx hb dX5_hasSeller_1 (by decide) (fun c1 => ?_) (fun c1 => ?_)
  · have hf := fp hf c1
    refine lv_iconst (v := 0) hx hb dX5_hasSeller_16 (by decide) ?_
    cases hf
    exact r_z cx hp rfl ⟨rfl, (funext fr).symm⟩ dX5_hasSeller_17
  · have hf := fn hf c1
    refine lv_iload_n hx hb dX5_hasSeller_4 rfl (lv_at hl 1 rfl) ?_
    refine lv_aload_n hx hb dX5_hasSeller_5 rfl (lv_at hl 0 rfl) ?_
    refine gF_X5_9 ho eM hN cx hp dX5_hasSeller_6 ?_
    refine lv_icmp_ge (tgt := 16) hx hb dX5_hasSeller_9 (by decide) (fun c2 => ?_) (fun c2 => ?_)
    · have hf := fp hf c2
      refine lv_iconst (v := 0) hx hb dX5_hasSeller_16 (by decide) ?_
      cases hf
      exact r_z cx hp rfl ⟨rfl, (funext fr).symm⟩ dX5_hasSeller_17
    · have hf := fn hf c2
      refine lv_iconst (v := 1) hx hb dX5_hasSeller_12 (by decide) ?_
      refine lv_goto (tgt := 17) hx hb dX5_hasSeller_13 (by decide) ?_
      cases hf
      exact r_z cx hp rfl ⟨rfl, (funext fr).symm⟩ dX5_hasSeller_17
abbrev rm_X5_turnOf : Room := { frames := 1, cells := 0, slots := 0, locals := 21 }
set_option maxRecDepth 100000 in
set_option maxHeartbeats 4000000 in
theorem c_X5_turnOf (l : Launch) {E : Ev} (hN : 129 ≤ eN E) (hT : St E) {σ : SM} {o : Nat} {μ : OM} (ho : o < 11) (eM : σ o = μ) {p1 : Int32} {rv : Int32} (hf : f_X5_turnOf p1 μ = some rv) : Met l yX5_turnOf (wC yX5_turnOf cX5_turnOf 2 (some .int)) rm_X5_turnOf (va_Pc [.ref (adr E o 0), .int p1] (Wu E σ)) (va_Qi (fun r u => rv = r ∧ σ = u) (fun u t => Wu E u t) (eA E)) 0 0 (eA E) := by
  refine g_entry (lv := [(0, .ref (adr E o 0)), (1, .int p1)]) (by decide) (Nat.le_of_ble_eq_true rfl) rfl ?_
  intro p e s m below meth c cx hp ls hl
  have hx := cx.1.1
  have hb := cx.1.2.1
  have fr : ∀ q, σ q = σ q := fun _ => rfl
  unfold f_X5_turnOf at hf
  refine lv_aload_n hx hb dX5_turnOf_0 rfl (lv_at hl 0 rfl) ?_
  refine lv_iload_n hx hb dX5_turnOf_1 rfl (lv_at hl 1 rfl) ?_
  obtain ⟨r1, hc, hf⟩ := fb hf
  refine x_i hp (y_V (As := [.int p1]) (rest := []) cx hp hl (c_X5_hasSeller l hN hT ho eM hc) (cw_X5_68 cx (mc := 0) (ms := 0) rfl rfl ⟨by decide, by decide⟩) (rC_X5 ho hN cx hp) rfl rfl (Nat.le_of_ble_eq_true rfl) dX5_turnOf_2 ⟨Nat.zero_le _, Nat.zero_le _⟩) (fun r_c u_c H locs hq hp => ?_)
  obtain ⟨rfl, rfl⟩ := hq
  refine lv_if_eq (tgt := 17) hx hb dX5_turnOf_5 (by decide) (fun c2 => ?_) (fun c2 => ?_)
  · have hf := fp hf c2
    refine lv_iconst (v := (-1)) hx hb dX5_turnOf_17 (by decide) ?_
    cases hf
    exact r_i cx hp ⟨rfl, (funext fr).symm⟩ dX5_turnOf_18
  · have hf := fn hf c2
    refine lv_aload_n hx hb dX5_turnOf_8 rfl (lv_at hl 0 rfl) ?_
    refine gF_X5_53 ho rfl hN cx hp dX5_turnOf_9 ?_
    refine lv_iload_n hx hb dX5_turnOf_12 rfl (lv_at hl 1 rfl) ?_
    obtain ⟨g_i, hf⟩ := fg hf
    refine lA_X5_5 ho eM hN cx hp g_i dX5_turnOf_13 ?_
    refine lv_goto (tgt := 18) hx hb dX5_turnOf_14 (by decide) ?_
    cases hf
    exact r_i cx hp ⟨rfl, (funext fr).symm⟩ dX5_turnOf_18
abbrev rm_X5_wishesOf : Room := { frames := 1, cells := 0, slots := 0, locals := 21 }
set_option maxRecDepth 100000 in
set_option maxHeartbeats 4000000 in
theorem c_X5_wishesOf (l : Launch) {E : Ev} (hN : 129 ≤ eN E) (hT : St E) {σ : SM} {o : Nat} {μ : OM} (ho : o < 11) (eM : σ o = μ) {p1 : Int32} {rv : Int32} (hf : f_X5_wishesOf p1 μ = some rv) : Met l yX5_wishesOf (wC yX5_wishesOf cX5_wishesOf 2 (some .int)) rm_X5_wishesOf (va_Pc [.ref (adr E o 0), .int p1] (Wu E σ)) (va_Qi (fun r u => rv = r ∧ σ = u) (fun u t => Wu E u t) (eA E)) 0 0 (eA E) := by
  refine g_entry (lv := [(0, .ref (adr E o 0)), (1, .int p1)]) (by decide) (Nat.le_of_ble_eq_true rfl) rfl ?_
  intro p e s m below meth c cx hp ls hl
  have hx := cx.1.1
  have hb := cx.1.2.1
  have fr : ∀ q, σ q = σ q := fun _ => rfl
  unfold f_X5_wishesOf at hf
  refine lv_aload_n hx hb dX5_wishesOf_0 rfl (lv_at hl 0 rfl) ?_
  refine lv_iload_n hx hb dX5_wishesOf_1 rfl (lv_at hl 1 rfl) ?_
  obtain ⟨r1, hc, hf⟩ := fb hf
  refine x_i hp (y_V (As := [.int p1]) (rest := []) cx hp hl (c_X5_hasSeller l hN hT ho eM hc) (cw_X5_68 cx (mc := 0) (ms := 0) rfl rfl ⟨by decide, by decide⟩) (rC_X5 ho hN cx hp) rfl rfl (Nat.le_of_ble_eq_true rfl) dX5_wishesOf_2 ⟨Nat.zero_le _, Nat.zero_le _⟩) (fun r_c u_c H locs hq hp => ?_)
  obtain ⟨rfl, rfl⟩ := hq
  refine lv_if_eq (tgt := 17) hx hb dX5_wishesOf_5 (by decide) (fun c2 => ?_) (fun c2 => ?_)
  · have hf := fp hf c2
    refine lv_iconst (v := 0) hx hb dX5_wishesOf_17 (by decide) ?_
    cases hf
    exact r_i cx hp ⟨rfl, (funext fr).symm⟩ dX5_wishesOf_18
  · have hf := fn hf c2
    refine lv_aload_n hx hb dX5_wishesOf_8 rfl (lv_at hl 0 rfl) ?_
    refine gF_X5_56 ho rfl hN cx hp dX5_wishesOf_9 ?_
    refine lv_iload_n hx hb dX5_wishesOf_12 rfl (lv_at hl 1 rfl) ?_
    obtain ⟨g_i, hf⟩ := fg hf
    refine lA_X5_6 ho eM hN cx hp g_i dX5_wishesOf_13 ?_
    refine lv_goto (tgt := 18) hx hb dX5_wishesOf_14 (by decide) ?_
    cases hf
    exact r_i cx hp ⟨rfl, (funext fr).symm⟩ dX5_wishesOf_18
abbrev rm_X5_wish : Room := { frames := 1, cells := 0, slots := 0, locals := 21 }
set_option maxRecDepth 100000 in
set_option maxHeartbeats 4000000 in
theorem c_X5_wish (l : Launch) {E : Ev} (hN : 129 ≤ eN E) (hT : St E) {σ : SM} {o : Nat} {μ : OM} (ho : o < 11) (eM : σ o = μ) {p1 : Int32} {p2 : Int32} {rv : Int32} (hf : f_X5_wish p1 p2 μ = some rv) : Met l yX5_wish (wC yX5_wish cX5_wish 3 (some .int)) rm_X5_wish (va_Pc [.ref (adr E o 0), .int p1, .int p2] (Wu E σ)) (va_Qi (fun r u => rv = r ∧ σ = u) (fun u t => Wu E u t) (eA E)) 0 0 (eA E) := by
  refine g_entry (lv := [(0, .ref (adr E o 0)), (1, .int p1), (2, .int p2)]) (by decide) (Nat.le_of_ble_eq_true rfl) rfl ?_
  intro p e s m below meth c cx hp ls hl
  have hx := cx.1.1
  have hb := cx.1.2.1
  have fr : ∀ q, σ q = σ q := fun _ => rfl
  unfold f_X5_wish at hf
  refine lv_aload_n hx hb dX5_wish_0 rfl (lv_at hl 0 rfl) ?_
  refine lv_iload_n hx hb dX5_wish_1 rfl (lv_at hl 1 rfl) ?_
  obtain ⟨r1, hc, hf⟩ := fb hf
  refine x_i hp (y_V (As := [.int p1]) (rest := []) cx hp hl (c_X5_hasSeller l hN hT ho eM hc) (cw_X5_68 cx (mc := 0) (ms := 0) rfl rfl ⟨by decide, by decide⟩) (rC_X5 ho hN cx hp) rfl rfl (Nat.le_of_ble_eq_true rfl) dX5_wish_2 ⟨Nat.zero_le _, Nat.zero_le _⟩) (fun r_c u_c H locs hq hp => ?_)
  obtain ⟨rfl, rfl⟩ := hq
  refine lv_if_eq (tgt := 22) hx hb dX5_wish_5 (by decide) (fun c2 => ?_) (fun c2 => ?_)
  · have hf := fp hf c2
    refine lv_iconst (v := (-1)) hx hb dX5_wish_22 (by decide) ?_
    cases hf
    exact r_i cx hp ⟨rfl, (funext fr).symm⟩ dX5_wish_23
  · have hf := fn hf c2
    refine lv_iload_n hx hb dX5_wish_8 rfl (lv_at hl 2 rfl) ?_
    refine lv_if_lt (tgt := 22) hx hb dX5_wish_9 (by decide) (fun c3 => ?_) (fun c3 => ?_)
    · have hf := fp hf c3
      refine lv_iconst (v := (-1)) hx hb dX5_wish_22 (by decide) ?_
      cases hf
      exact r_i cx hp ⟨rfl, (funext fr).symm⟩ dX5_wish_23
    · have hf := fn hf c3
      refine lv_iload_n hx hb dX5_wish_12 rfl (lv_at hl 2 rfl) ?_
      refine lv_aload_n hx hb dX5_wish_13 rfl (lv_at hl 0 rfl) ?_
      refine gF_X5_56 ho rfl hN cx hp dX5_wish_14 ?_
      refine lv_iload_n hx hb dX5_wish_17 rfl (lv_at hl 1 rfl) ?_
      obtain ⟨g_i, hf⟩ := fg hf
      refine lA_X5_6 ho eM hN cx hp g_i dX5_wish_18 ?_
      refine lv_icmp_lt (tgt := 24) hx hb dX5_wish_19 (by decide) (fun c4 => ?_) (fun c4 => ?_)
      · have hf := fp hf c4
        refine lv_aload_n hx hb dX5_wish_24 rfl (lv_at hl 0 rfl) ?_
        refine gF_X5_59 ho rfl hN cx hp dX5_wish_25 ?_
        refine lv_iload_n hx hb dX5_wish_28 rfl (lv_at hl 1 rfl) ?_
        refine lv_bipush (v := 8) hx hb dX5_wish_29 (by decide) ?_
        refine lv_imul hx hb dX5_wish_31 ?_
        refine lv_iload_n hx hb dX5_wish_32 rfl (lv_at hl 2 rfl) ?_
        refine lv_iadd hx hb dX5_wish_33 ?_
        obtain ⟨g_i, hf⟩ := fg hf
        refine lA_X5_7 ho eM hN cx hp g_i dX5_wish_34 ?_
        cases hf
        exact r_i cx hp ⟨rfl, (funext fr).symm⟩ dX5_wish_35
      · have hf := fn hf c4
        refine lv_iconst (v := (-1)) hx hb dX5_wish_22 (by decide) ?_
        cases hf
        exact r_i cx hp ⟨rfl, (funext fr).symm⟩ dX5_wish_23
abbrev rm_X5_holderOf : Room := { frames := 0, cells := 0, slots := 0, locals := 0 }
set_option maxRecDepth 100000 in
set_option maxHeartbeats 4000000 in
theorem L_X5_holderOf_9 {p : Program} {e : Env} {s : State} {m : MethodId} {args : Array Value} {below : List Frame} {meth : Method} {c : Code} (l : Launch) {E : Ev} (hN : 129 ≤ eN E) (hT : St E) {σ : SM} (cx : Cx E p s m meth c args RX5 cX5_holderOf 3 (some .int)) {o : Nat} (ho : o < 11) {x1 : Int32} {μ : OM} {rv : Int32} : ∀ (n : Nat) {x2 : Int32}, f_X5_holderOf_9 x1 μ n x2 = some rv → ∀ {u : SM} {H : Heap} {locs : List Loc} {ls : Array Slot}, u o = μ → (∀ q, u q = σ q) → Hp E u s H locs → lv_has ls 3 [(0, .ref (adr E o 0)), (1, .int x1), (2, .int x2)] → W p l e rm_X5_holderOf s m args below meth c H locs 0 0 (MQ below (va_Qi (fun r u => rv = r ∧ σ = u) (fun u t => Wu E u t) (eA E)) args s 0 0 (eA E)) (F0 m 9 ls []) := by
  have hx := cx.1.1
  have hb := cx.1.2.1
  intro n
  induction n with
  | zero =>
    intro x2 hf
    exact absurd hf (by simp [f_X5_holderOf_9])
  | succ n ih =>
    intro x2 hf u H locs ls eM fr hp hl
    rw [f_X5_holderOf_9] at hf
    refine lv_iload_n hx hb dX5_holderOf_9 rfl (lv_at hl 2 rfl) ?_
    refine lv_aload_n hx hb dX5_holderOf_10 rfl (lv_at hl 0 rfl) ?_
    refine gF_X5_9 ho eM hN cx hp dX5_holderOf_11 ?_
    refine lv_icmp_ge (tgt := 35) hx hb dX5_holderOf_14 (by decide) (fun c2 => ?_) (fun c2 => ?_)
    · have hf := fp hf c2
      refine lv_iconst (v := (-1)) hx hb dX5_holderOf_35 (by decide) ?_
      cases hf
      exact r_i cx hp ⟨rfl, (funext fr).symm⟩ dX5_holderOf_36
    · have hf := fn hf c2
      refine lv_aload_n hx hb dX5_holderOf_17 rfl (lv_at hl 0 rfl) ?_
      refine gF_X5_50 ho rfl hN cx hp dX5_holderOf_18 ?_
      refine lv_iload_n hx hb dX5_holderOf_21 rfl (lv_at hl 2 rfl) ?_
      obtain ⟨g_i, hf⟩ := fg hf
      refine lA_X5_4 ho eM hN cx hp g_i dX5_holderOf_22 ?_
      refine lv_iload_n hx hb dX5_holderOf_23 rfl (lv_at hl 1 rfl) ?_
      refine lv_icmp_ne (tgt := 29) hx hb dX5_holderOf_24 (by decide) (fun c3 => ?_) (fun c3 => ?_)
      · have hf := fn hf c3
        refine lv_iinc (v := (x2 + 1)) (lv' := [(2, .int (x2 + 1)), (0, .ref (adr E o 0)), (1, .int x1)]) hx hb dX5_holderOf_29 hl (k := 2) rfl rfl (by decide) rfl (fun ls hl => ?_)
        refine lv_goto (tgt := 9) hx hb dX5_holderOf_32 (by decide) ?_
        exact ih  hf eM fr hp (lv_sub hl [1, 2, 0] rfl)
      · have hf := fp hf c3
        refine lv_iload_n hx hb dX5_holderOf_27 rfl (lv_at hl 2 rfl) ?_
        cases hf
        exact r_i cx hp ⟨rfl, (funext fr).symm⟩ dX5_holderOf_28
set_option maxRecDepth 100000 in
set_option maxHeartbeats 4000000 in
theorem c_X5_holderOf (l : Launch) {E : Ev} (hN : 129 ≤ eN E) (hT : St E) {σ : SM} {o : Nat} {μ : OM} (ho : o < 11) (eM : σ o = μ) {p1 : Int32} {rv : Int32} (hf : f_X5_holderOf p1 μ = some rv) : Met l yX5_holderOf (wC yX5_holderOf cX5_holderOf 3 (some .int)) rm_X5_holderOf (va_Pc [.ref (adr E o 0), .int p1] (Wu E σ)) (va_Qi (fun r u => rv = r ∧ σ = u) (fun u t => Wu E u t) (eA E)) 0 0 (eA E) := by
  refine g_entry (lv := [(0, .ref (adr E o 0)), (1, .int p1)]) (by decide) (Nat.le_of_ble_eq_true rfl) rfl ?_
  intro p e s m below meth c cx hp ls hl
  have hx := cx.1.1
  have hb := cx.1.2.1
  have fr : ∀ q, σ q = σ q := fun _ => rfl
  unfold f_X5_holderOf at hf
  refine lv_iload_n hx hb dX5_holderOf_0 rfl (lv_at hl 1 rfl) ?_
  refine lv_iconst (v := (-1)) hx hb dX5_holderOf_1 (by decide) ?_
  refine lv_icmp_ne (tgt := 7) hx hb dX5_holderOf_2 (by decide) (fun c1 => ?_) (fun c1 => ?_)
  · have hf := fn hf c1
    refine lv_iconst (v := 0) hx hb dX5_holderOf_7 (by decide) ?_
    refine lv_istore_n (lv' := [(2, .int 0), (0, .ref (adr E o 0)), (1, .int p1)]) hx hb dX5_holderOf_8 rfl hl (by decide) rfl (fun ls hl => ?_)
    exact L_X5_holderOf_9 l hN hT cx ho _ hf eM fr hp (lv_sub hl [1, 2, 0] rfl)
  · have hf := fp hf c1
    refine lv_iconst (v := (-1)) hx hb dX5_holderOf_5 (by decide) ?_
    cases hf
    exact r_i cx hp ⟨rfl, (funext fr).symm⟩ dX5_holderOf_6
abbrev rm_X5_heldBy : Room := { frames := 1, cells := 0, slots := 0, locals := 21 }
set_option maxRecDepth 100000 in
set_option maxHeartbeats 4000000 in
theorem c_X5_heldBy (l : Launch) {E : Ev} (hN : 129 ≤ eN E) (hT : St E) {σ : SM} {o : Nat} {μ : OM} (ho : o < 11) (eM : σ o = μ) {p1 : Int32} {rv : Int32} (hf : f_X5_heldBy p1 μ = some rv) : Met l yX5_heldBy (wC yX5_heldBy cX5_heldBy 2 (some .int)) rm_X5_heldBy (va_Pc [.ref (adr E o 0), .int p1] (Wu E σ)) (va_Qi (fun r u => rv = r ∧ σ = u) (fun u t => Wu E u t) (eA E)) 0 0 (eA E) := by
  refine g_entry (lv := [(0, .ref (adr E o 0)), (1, .int p1)]) (by decide) (Nat.le_of_ble_eq_true rfl) rfl ?_
  intro p e s m below meth c cx hp ls hl
  have hx := cx.1.1
  have hb := cx.1.2.1
  have fr : ∀ q, σ q = σ q := fun _ => rfl
  unfold f_X5_heldBy at hf
  refine lv_aload_n hx hb dX5_heldBy_0 rfl (lv_at hl 0 rfl) ?_
  refine lv_iload_n hx hb dX5_heldBy_1 rfl (lv_at hl 1 rfl) ?_
  obtain ⟨r1, hc, hf⟩ := fb hf
  refine x_i hp (y_V (As := [.int p1]) (rest := []) cx hp hl (c_X5_hasSeller l hN hT ho eM hc) (cw_X5_68 cx (mc := 0) (ms := 0) rfl rfl ⟨by decide, by decide⟩) (rC_X5 ho hN cx hp) rfl rfl (Nat.le_of_ble_eq_true rfl) dX5_heldBy_2 ⟨Nat.zero_le _, Nat.zero_le _⟩) (fun r_c u_c H locs hq hp => ?_)
  obtain ⟨rfl, rfl⟩ := hq
  refine lv_if_eq (tgt := 17) hx hb dX5_heldBy_5 (by decide) (fun c2 => ?_) (fun c2 => ?_)
  · have hf := fp hf c2
    refine lv_iconst (v := (-1)) hx hb dX5_heldBy_17 (by decide) ?_
    cases hf
    exact r_i cx hp ⟨rfl, (funext fr).symm⟩ dX5_heldBy_18
  · have hf := fn hf c2
    refine lv_aload_n hx hb dX5_heldBy_8 rfl (lv_at hl 0 rfl) ?_
    refine gF_X5_50 ho rfl hN cx hp dX5_heldBy_9 ?_
    refine lv_iload_n hx hb dX5_heldBy_12 rfl (lv_at hl 1 rfl) ?_
    obtain ⟨g_i, hf⟩ := fg hf
    refine lA_X5_4 ho eM hN cx hp g_i dX5_heldBy_13 ?_
    refine lv_goto (tgt := 18) hx hb dX5_heldBy_14 (by decide) ?_
    cases hf
    exact r_i cx hp ⟨rfl, (funext fr).symm⟩ dX5_heldBy_18
abbrev rm_X5_seat : Room := { frames := 1, cells := 0, slots := 0, locals := 21 }
set_option maxRecDepth 100000 in
set_option maxHeartbeats 4000000 in
theorem c_X5_seat (l : Launch) {E : Ev} (hN : 129 ≤ eN E) (hT : St E) {σ : SM} {o : Nat} {μ : OM} (ho : o < 11) (eM : σ o = μ) {p1 : Int32} {p2 : Int32} {μ' : OM} (hf : f_X5_seat p1 p2 μ = some μ') : Met l yX5_seat (wC yX5_seat cX5_seat 3 none) rm_X5_seat (va_Pc [.ref (adr E o 0), .int p1, .int p2] (Wu E σ)) (va_Qv (fun u => u o = μ' ∧ ∀ q, q ≠ o → u q = σ q) (fun u t => Wu E u t) (eA E)) 0 0 (eA E) := by
  refine g_entry (lv := [(0, .ref (adr E o 0)), (1, .int p1), (2, .int p2)]) (by decide) (Nat.le_of_ble_eq_true rfl) rfl ?_
  intro p e s m below meth c cx hp ls hl
  have hx := cx.1.1
  have hb := cx.1.2.1
  have fr : ∀ q, q ≠ o → σ q = σ q := fun _ _ => rfl
  unfold f_X5_seat at hf
  refine lv_aload_n hx hb dX5_seat_0 rfl (lv_at hl 0 rfl) ?_
  refine lv_iload_n hx hb dX5_seat_1 rfl (lv_at hl 1 rfl) ?_
  obtain ⟨r1, hc, hf⟩ := fb hf
  refine x_i hp (y_V (As := [.int p1]) (rest := []) cx hp hl (c_X5_hasSeller l hN hT ho eM hc) (cw_X5_68 cx (mc := 0) (ms := 0) rfl rfl ⟨by decide, by decide⟩) (rC_X5 ho hN cx hp) rfl rfl (Nat.le_of_ble_eq_true rfl) dX5_seat_2 ⟨Nat.zero_le _, Nat.zero_le _⟩) (fun r_c u_c H locs hq hp => ?_)
  obtain ⟨rfl, rfl⟩ := hq
  refine lv_if_eq (tgt := 15) hx hb dX5_seat_5 (by decide) (fun c2 => ?_) (fun c2 => ?_)
  · have hf := fp hf c2
    cases hf
    exact r_v cx hp ⟨eM, fr⟩ dX5_seat_15
  · have hf := fn hf c2
    refine lv_aload_n hx hb dX5_seat_8 rfl (lv_at hl 0 rfl) ?_
    refine gF_X5_50 ho rfl hN cx hp dX5_seat_9 ?_
    refine lv_iload_n hx hb dX5_seat_12 rfl (lv_at hl 1 rfl) ?_
    refine lv_iload_n hx hb dX5_seat_13 rfl (lv_at hl 2 rfl) ?_
    obtain ⟨g_i, hf⟩ := fg hf
    obtain ⟨μ3, e_l, hf⟩ := fl hf
    refine sA_X5_4 ho eM hN cx hp g_i dX5_seat_14 (fun u H locs e_u n_u hp => ?_)
    have eM := e_u.trans e_l
    have fr : ∀ q, q ≠ o → u q = σ q := fun q h0 => (n_u q h0).trans (fr q h0)
    cases hf
    exact r_v cx hp ⟨eM, fr⟩ dX5_seat_15
abbrev rm_X5_rankIn : Room := { frames := 0, cells := 0, slots := 0, locals := 0 }
set_option maxRecDepth 100000 in
set_option maxHeartbeats 4000000 in
theorem L_X5_rankIn_16 {p : Program} {e : Env} {s : State} {m : MethodId} {args : Array Value} {below : List Frame} {meth : Method} {c : Code} (l : Launch) {E : Ev} (hN : 129 ≤ eN E) (hT : St E) {σ : SM} (cx : Cx E p s m meth c args RX5 cX5_rankIn 4 (some .int)) {o : Nat} (ho : o < 11) {x1 : Int32} {x2 : Int32} {μ : OM} {rv : Int32} : ∀ (n : Nat) {x3 : Int32}, f_X5_rankIn_16 x1 x2 μ n x3 = some rv → ∀ {u : SM} {H : Heap} {locs : List Loc} {ls : Array Slot}, u o = μ → (∀ q, u q = σ q) → Hp E u s H locs → lv_has ls 4 [(0, .ref (adr E o 0)), (1, .int x1), (2, .int x2), (3, .int x3)] → W p l e rm_X5_rankIn s m args below meth c H locs 0 0 (MQ below (va_Qi (fun r u => rv = r ∧ σ = u) (fun u t => Wu E u t) (eA E)) args s 0 0 (eA E)) (F0 m 16 ls []) := by
  have hx := cx.1.1
  have hb := cx.1.2.1
  intro n
  induction n with
  | zero =>
    intro x3 hf
    exact absurd hf (by simp [f_X5_rankIn_16])
  | succ n ih =>
    intro x3 hf u H locs ls eM fr hp hl
    rw [f_X5_rankIn_16] at hf
    refine lv_iload_n hx hb dX5_rankIn_16 rfl (lv_at hl 3 rfl) ?_
    refine lv_aload_n hx hb dX5_rankIn_17 rfl (lv_at hl 0 rfl) ?_
    refine gF_X5_56 ho rfl hN cx hp dX5_rankIn_18 ?_
    refine lv_iload_n hx hb dX5_rankIn_21 rfl (lv_at hl 1 rfl) ?_
    obtain ⟨g_i, hf⟩ := fg hf
    refine lA_X5_6 ho eM hN cx hp g_i dX5_rankIn_22 ?_
    refine lv_icmp_ge (tgt := 49) hx hb dX5_rankIn_23 (by decide) (fun c3 => ?_) (fun c3 => ?_)
    · have hf := fp hf c3
      refine lv_iconst (v := (-1)) hx hb dX5_rankIn_49 (by decide) ?_
      cases hf
      exact r_i cx hp ⟨rfl, (funext fr).symm⟩ dX5_rankIn_50
    · have hf := fn hf c3
      refine lv_aload_n hx hb dX5_rankIn_26 rfl (lv_at hl 0 rfl) ?_
      refine gF_X5_59 ho rfl hN cx hp dX5_rankIn_27 ?_
      refine lv_iload_n hx hb dX5_rankIn_30 rfl (lv_at hl 1 rfl) ?_
      refine lv_bipush (v := 8) hx hb dX5_rankIn_31 (by decide) ?_
      refine lv_imul hx hb dX5_rankIn_33 ?_
      refine lv_iload_n hx hb dX5_rankIn_34 rfl (lv_at hl 3 rfl) ?_
      refine lv_iadd hx hb dX5_rankIn_35 ?_
      obtain ⟨g_i, hf⟩ := fg hf
      refine lA_X5_7 ho eM hN cx hp g_i dX5_rankIn_36 ?_
      refine lv_iload_n hx hb dX5_rankIn_37 rfl (lv_at hl 2 rfl) ?_
      refine lv_icmp_ne (tgt := 43) hx hb dX5_rankIn_38 (by decide) (fun c4 => ?_) (fun c4 => ?_)
      · have hf := fn hf c4
        refine lv_iinc (v := (x3 + 1)) (lv' := [(3, .int (x3 + 1)), (0, .ref (adr E o 0)), (1, .int x1), (2, .int x2)]) hx hb dX5_rankIn_43 hl (k := 3) rfl rfl (by decide) rfl (fun ls hl => ?_)
        refine lv_goto (tgt := 16) hx hb dX5_rankIn_46 (by decide) ?_
        exact ih  hf eM fr hp (lv_sub hl [1, 2, 3, 0] rfl)
      · have hf := fp hf c4
        refine lv_iload_n hx hb dX5_rankIn_41 rfl (lv_at hl 3 rfl) ?_
        cases hf
        exact r_i cx hp ⟨rfl, (funext fr).symm⟩ dX5_rankIn_42
set_option maxRecDepth 100000 in
set_option maxHeartbeats 4000000 in
theorem c_X5_rankIn (l : Launch) {E : Ev} (hN : 129 ≤ eN E) (hT : St E) {σ : SM} {o : Nat} {μ : OM} (ho : o < 11) (eM : σ o = μ) {p1 : Int32} {p2 : Int32} {rv : Int32} (hf : f_X5_rankIn p1 p2 μ = some rv) : Met l yX5_rankIn (wC yX5_rankIn cX5_rankIn 4 (some .int)) rm_X5_rankIn (va_Pc [.ref (adr E o 0), .int p1, .int p2] (Wu E σ)) (va_Qi (fun r u => rv = r ∧ σ = u) (fun u t => Wu E u t) (eA E)) 0 0 (eA E) := by
  refine g_entry (lv := [(0, .ref (adr E o 0)), (1, .int p1), (2, .int p2)]) (by decide) (Nat.le_of_ble_eq_true rfl) rfl ?_
  intro p e s m below meth c cx hp ls hl
  have hx := cx.1.1
  have hb := cx.1.2.1
  have fr : ∀ q, σ q = σ q := fun _ => rfl
  unfold f_X5_rankIn at hf
  refine lv_iload_n hx hb dX5_rankIn_0 rfl (lv_at hl 1 rfl) ?_
  refine lv_if_lt (tgt := 12) hx hb dX5_rankIn_1 (by decide) (fun c1 => ?_) (fun c1 => ?_)
  · have hf := fp hf c1
    refine lv_iconst (v := (-1)) hx hb dX5_rankIn_12 (by decide) ?_
    cases hf
    exact r_i cx hp ⟨rfl, (funext fr).symm⟩ dX5_rankIn_13
  · have hf := fn hf c1
    refine lv_iload_n hx hb dX5_rankIn_4 rfl (lv_at hl 1 rfl) ?_
    refine lv_aload_n hx hb dX5_rankIn_5 rfl (lv_at hl 0 rfl) ?_
    refine gF_X5_9 ho eM hN cx hp dX5_rankIn_6 ?_
    refine lv_icmp_lt (tgt := 14) hx hb dX5_rankIn_9 (by decide) (fun c2 => ?_) (fun c2 => ?_)
    · have hf := fp hf c2
      refine lv_iconst (v := 0) hx hb dX5_rankIn_14 (by decide) ?_
      refine lv_istore_n (lv' := [(3, .int 0), (0, .ref (adr E o 0)), (1, .int p1), (2, .int p2)]) hx hb dX5_rankIn_15 rfl hl (by decide) rfl (fun ls hl => ?_)
      exact L_X5_rankIn_16 l hN hT cx ho _ hf eM fr hp (lv_sub hl [1, 2, 3, 0] rfl)
    · have hf := fn hf c2
      refine lv_iconst (v := (-1)) hx hb dX5_rankIn_12 (by decide) ?_
      cases hf
      exact r_i cx hp ⟨rfl, (funext fr).symm⟩ dX5_rankIn_13
abbrev rm_X5_standing : Room := { frames := 1, cells := 0, slots := 0, locals := 23 }
set_option maxRecDepth 100000 in
set_option maxHeartbeats 4000000 in
theorem c_X5_standing (l : Launch) {E : Ev} (hN : 129 ≤ eN E) (hT : St E) {σ : SM} {o : Nat} {μ : OM} (ho : o < 11) (eM : σ o = μ) {p1 : Int32} {p2 : Int32} {rv : Int32} (hf : f_X5_standing p1 p2 μ = some rv) : Met l yX5_standing (wC yX5_standing cX5_standing 4 (some .int)) rm_X5_standing (va_Pc [.ref (adr E o 0), .int p1, .int p2] (Wu E σ)) (va_Qi (fun r u => rv = r ∧ σ = u) (fun u t => Wu E u t) (eA E)) 0 0 (eA E) := by
  refine g_entry (lv := [(0, .ref (adr E o 0)), (1, .int p1), (2, .int p2)]) (by decide) (Nat.le_of_ble_eq_true rfl) rfl ?_
  intro p e s m below meth c cx hp ls hl
  have hx := cx.1.1
  have hb := cx.1.2.1
  have fr : ∀ q, σ q = σ q := fun _ => rfl
  unfold f_X5_standing at hf
  refine lv_iload_n hx hb dX5_standing_0 rfl (lv_at hl 2 rfl) ?_
  refine lv_iconst (v := (-1)) hx hb dX5_standing_1 (by decide) ?_
  refine lv_icmp_ne (tgt := 8) hx hb dX5_standing_2 (by decide) (fun c1 => ?_) (fun c1 => ?_)
  · have hf := fn hf c1
    refine lv_aload_n hx hb dX5_standing_8 rfl (lv_at hl 0 rfl) ?_
    refine lv_iload_n hx hb dX5_standing_9 rfl (lv_at hl 1 rfl) ?_
    refine lv_iload_n hx hb dX5_standing_10 rfl (lv_at hl 2 rfl) ?_
    obtain ⟨r2, hc, hf⟩ := fb hf
    refine x_i hp (y_V (As := [.int p1, .int p2]) (rest := []) cx hp hl (c_X5_rankIn l hN hT ho eM hc) (cw_X5_79 cx (mc := 0) (ms := 0) rfl rfl ⟨by decide, by decide⟩) (rC_X5 ho hN cx hp) rfl rfl (Nat.le_of_ble_eq_true rfl) dX5_standing_11 ⟨Nat.zero_le _, Nat.zero_le _⟩) (fun r_c u_c H locs hq hp => ?_)
    obtain ⟨rfl, rfl⟩ := hq
    refine lv_istore_n (lv' := [(3, .int r2), (0, .ref (adr E o 0)), (1, .int p1), (2, .int p2)]) hx hb dX5_standing_14 rfl hl (by decide) rfl (fun ls hl => ?_)
    refine lv_iload_n hx hb dX5_standing_15 rfl (lv_at hl 0 rfl) ?_
    refine lv_iconst (v := (-1)) hx hb dX5_standing_16 (by decide) ?_
    refine lv_icmp_ne (tgt := 25) hx hb dX5_standing_17 (by decide) (fun c3 => ?_) (fun c3 => ?_)
    · have hf := fn hf c3
      refine lv_iload_n hx hb dX5_standing_25 rfl (lv_at hl 0 rfl) ?_
      cases hf
      exact r_i cx hp ⟨rfl, (funext fr).symm⟩ dX5_standing_26
    · have hf := fp hf c3
      refine lv_bipush (v := 9) hx hb dX5_standing_20 (by decide) ?_
      refine lv_goto (tgt := 26) hx hb dX5_standing_22 (by decide) ?_
      cases hf
      exact r_i cx hp ⟨rfl, (funext fr).symm⟩ dX5_standing_26
  · have hf := fp hf c1
    refine lv_bipush (v := 8) hx hb dX5_standing_5 (by decide) ?_
    cases hf
    exact r_i cx hp ⟨rfl, (funext fr).symm⟩ dX5_standing_7
abbrev rm_X5_ranksAbove : Room := { frames := 2, cells := 0, slots := 0, locals := 46 }
set_option maxRecDepth 100000 in
set_option maxHeartbeats 4000000 in
theorem c_X5_ranksAbove (l : Launch) {E : Ev} (hN : 129 ≤ eN E) (hT : St E) {σ : SM} {o : Nat} {μ : OM} (ho : o < 11) (eM : σ o = μ) {p1 : Int32} {p2 : Int32} {p3 : Int32} {rv : Int32} (hf : f_X5_ranksAbove p1 p2 p3 μ = some rv) : Met l yX5_ranksAbove (wC yX5_ranksAbove cX5_ranksAbove 4 (some .boolean)) rm_X5_ranksAbove (va_Pc [.ref (adr E o 0), .int p1, .int p2, .int p3] (Wu E σ)) (va_Qi (fun r u => rv = r ∧ σ = u) (fun u t => Wu E u t) (eA E)) 0 0 (eA E) := by
  refine g_entry (lv := [(0, .ref (adr E o 0)), (1, .int p1), (2, .int p2), (3, .int p3)]) (by decide) (Nat.le_of_ble_eq_true rfl) rfl ?_
  intro p e s m below meth c cx hp ls hl
  have hx := cx.1.1
  have hb := cx.1.2.1
  have fr : ∀ q, σ q = σ q := fun _ => rfl
  unfold f_X5_ranksAbove at hf
  refine lv_aload_n hx hb dX5_ranksAbove_0 rfl (lv_at hl 0 rfl) ?_
  refine lv_iload_n hx hb dX5_ranksAbove_1 rfl (lv_at hl 1 rfl) ?_
  refine lv_iload_n hx hb dX5_ranksAbove_2 rfl (lv_at hl 2 rfl) ?_
  obtain ⟨r1, hc, hf⟩ := fb hf
  refine x_i hp (y_V (As := [.int p1, .int p2]) (rest := []) cx hp hl (c_X5_standing l hN hT ho eM hc) (cw_X5_75 cx (mc := 0) (ms := 0) rfl rfl ⟨by decide, by decide⟩) (rC_X5 ho hN cx hp) rfl rfl (Nat.le_of_ble_eq_true rfl) dX5_ranksAbove_3 ⟨Nat.zero_le _, Nat.zero_le _⟩) (fun r_c u_c H locs hq hp => ?_)
  obtain ⟨rfl, rfl⟩ := hq
  refine lv_aload_n hx hb dX5_ranksAbove_6 rfl (lv_at hl 0 rfl) ?_
  refine lv_iload_n hx hb dX5_ranksAbove_7 rfl (lv_at hl 1 rfl) ?_
  refine lv_iload_n hx hb dX5_ranksAbove_8 rfl (lv_at hl 3 rfl) ?_
  obtain ⟨r2, hc, hf⟩ := fb hf
  refine x_i hp (y_V (As := [.int p1, .int p3]) (rest := [.int r1]) cx hp hl (c_X5_standing l hN hT ho eM hc) (cw_X5_75 cx (mc := 0) (ms := 0) rfl rfl ⟨by decide, by decide⟩) (rC_X5 ho hN cx hp) rfl rfl (Nat.le_of_ble_eq_true rfl) dX5_ranksAbove_9 ⟨Nat.zero_le _, Nat.zero_le _⟩) (fun r_c u_c H locs hq hp => ?_)
  obtain ⟨rfl, rfl⟩ := hq
  refine lv_icmp_ge (tgt := 19) hx hb dX5_ranksAbove_12 (by decide) (fun c3 => ?_) (fun c3 => ?_)
  · have hf := fp hf c3
    refine lv_iconst (v := 0) hx hb dX5_ranksAbove_19 (by decide) ?_
    cases hf
    exact r_z cx hp rfl ⟨rfl, (funext fr).symm⟩ dX5_ranksAbove_20
  · have hf := fn hf c3
    refine lv_iconst (v := 1) hx hb dX5_ranksAbove_15 (by decide) ?_
    refine lv_goto (tgt := 20) hx hb dX5_ranksAbove_16 (by decide) ?_
    cases hf
    exact r_z cx hp rfl ⟨rfl, (funext fr).symm⟩ dX5_ranksAbove_20
abbrev rm_X5_copy : Room := { frames := 0, cells := 0, slots := 0, locals := 0 }
set_option maxRecDepth 100000 in
set_option maxHeartbeats 4000000 in
theorem L_X5_copy_83 {p : Program} {e : Env} {s : State} {m : MethodId} {args : Array Value} {below : List Frame} {meth : Method} {c : Code} (l : Launch) {E : Ev} (hN : 129 ≤ eN E) (hT : St E) {σ : SM} {Q : State → Prop} (cx : Cx E p s m meth c args RX5 cX5_copy 3 none) {o : Nat} (ho : o < 11) {o2 : Nat} (ho2 : o2 < 11) (hoo : o ≠ o2) {μ : OM} {ν' : OM} (K : ∀ (u : SM) (H : Heap) (locs : List Loc) (ls : Array Slot), u o = μ → u o2 = ν' → (∀ q, q ≠ o2 → u q = σ q) → Hp E u s H locs → lv_has ls 3 [(0, .ref (adr E o 0)), (1, .ref (adr E o2 0))] → W p l e rm_X5_copy s m args below meth c H locs 0 0 Q (F0 m 167 ls [])) : ∀ (n : Nat) {x2 : Int32} {ν : OM}, f_X5_copy_83 μ n x2 ν = some ν' → ∀ {u : SM} {H : Heap} {locs : List Loc} {ls : Array Slot}, u o = μ → u o2 = ν → (∀ q, q ≠ o2 → u q = σ q) → Hp E u s H locs → lv_has ls 3 [(0, .ref (adr E o 0)), (1, .ref (adr E o2 0)), (2, .int x2)] → W p l e rm_X5_copy s m args below meth c H locs 0 0 Q (F0 m 83 ls []) := by
  have hx := cx.1.1
  have hb := cx.1.2.1
  have d_M_N : (o : Nat) ≠ o2 := hoo
  intro n
  induction n with
  | zero =>
    intro x2 ν hf
    exact absurd hf (by simp [f_X5_copy_83])
  | succ n ih =>
    intro x2 ν hf u H locs ls eM eN fr hp hl
    rw [f_X5_copy_83] at hf
    refine lv_iload_n hx hb dX5_copy_83 rfl (lv_at hl 2 rfl) ?_
    refine lv_bipush (v := 8) hx hb dX5_copy_84 (by decide) ?_
    refine lv_icmp_ge (tgt := 167) hx hb dX5_copy_86 (by decide) (fun c10 => ?_) (fun c10 => ?_)
    · have hf := fp hf c10
      cases hf
      exact K _ _ _ _ eM eN fr hp (lv_sub hl [0, 1] rfl)
    · have hf := fn hf c10
      refine lv_aload_n hx hb dX5_copy_89 rfl (lv_at hl 1 rfl) ?_
      refine gF_X5_39 ho2 rfl hN cx hp dX5_copy_90 ?_
      refine lv_iload_n hx hb dX5_copy_93 rfl (lv_at hl 2 rfl) ?_
      refine lv_aload_n hx hb dX5_copy_94 rfl (lv_at hl 0 rfl) ?_
      refine gF_X5_39 ho rfl hN cx hp dX5_copy_95 ?_
      refine lv_iload_n hx hb dX5_copy_98 rfl (lv_at hl 2 rfl) ?_
      obtain ⟨g_i, hf⟩ := fg hf
      refine lA_X5_1 ho eM hN cx hp g_i dX5_copy_99 ?_
      obtain ⟨g_i, hf⟩ := fg hf
      obtain ⟨ν11, e_l, hf⟩ := fl hf
      refine sA_X5_1 ho2 eN hN cx hp g_i dX5_copy_100 (fun u H locs e_u n_u hp => ?_)
      have eN := e_u.trans e_l
      have eM := (n_u _ d_M_N).trans eM
      have fr : ∀ q, q ≠ o2 → u q = σ q := fun q h0 => (n_u q h0).trans (fr q h0)
      refine lv_aload_n hx hb dX5_copy_101 rfl (lv_at hl 1 rfl) ?_
      refine gF_X5_43 ho2 rfl hN cx hp dX5_copy_102 ?_
      refine lv_iload_n hx hb dX5_copy_105 rfl (lv_at hl 2 rfl) ?_
      refine lv_aload_n hx hb dX5_copy_106 rfl (lv_at hl 0 rfl) ?_
      refine gF_X5_43 ho rfl hN cx hp dX5_copy_107 ?_
      refine lv_iload_n hx hb dX5_copy_110 rfl (lv_at hl 2 rfl) ?_
      obtain ⟨g_i, hf⟩ := fg hf
      refine lA_X5_2 ho eM hN cx hp g_i dX5_copy_111 ?_
      obtain ⟨g_i, hf⟩ := fg hf
      obtain ⟨ν12, e_l, hf⟩ := fl hf
      refine sA_X5_2 ho2 eN hN cx hp g_i dX5_copy_112 (fun u H locs e_u n_u hp => ?_)
      have eN := e_u.trans e_l
      have eM := (n_u _ d_M_N).trans eM
      have fr : ∀ q, q ≠ o2 → u q = σ q := fun q h0 => (n_u q h0).trans (fr q h0)
      refine lv_aload_n hx hb dX5_copy_113 rfl (lv_at hl 1 rfl) ?_
      refine gF_X5_47 ho2 rfl hN cx hp dX5_copy_114 ?_
      refine lv_iload_n hx hb dX5_copy_117 rfl (lv_at hl 2 rfl) ?_
      refine lv_aload_n hx hb dX5_copy_118 rfl (lv_at hl 0 rfl) ?_
      refine gF_X5_47 ho rfl hN cx hp dX5_copy_119 ?_
      refine lv_iload_n hx hb dX5_copy_122 rfl (lv_at hl 2 rfl) ?_
      obtain ⟨g_i, hf⟩ := fg hf
      refine lA_X5_3 ho eM hN cx hp g_i dX5_copy_123 ?_
      obtain ⟨g_i, hf⟩ := fg hf
      obtain ⟨ν13, e_l, hf⟩ := fl hf
      refine sA_X5_3 ho2 eN hN cx hp g_i dX5_copy_124 (fun u H locs e_u n_u hp => ?_)
      have eN := e_u.trans e_l
      have eM := (n_u _ d_M_N).trans eM
      have fr : ∀ q, q ≠ o2 → u q = σ q := fun q h0 => (n_u q h0).trans (fr q h0)
      refine lv_aload_n hx hb dX5_copy_125 rfl (lv_at hl 1 rfl) ?_
      refine gF_X5_50 ho2 rfl hN cx hp dX5_copy_126 ?_
      refine lv_iload_n hx hb dX5_copy_129 rfl (lv_at hl 2 rfl) ?_
      refine lv_aload_n hx hb dX5_copy_130 rfl (lv_at hl 0 rfl) ?_
      refine gF_X5_50 ho rfl hN cx hp dX5_copy_131 ?_
      refine lv_iload_n hx hb dX5_copy_134 rfl (lv_at hl 2 rfl) ?_
      obtain ⟨g_i, hf⟩ := fg hf
      refine lA_X5_4 ho eM hN cx hp g_i dX5_copy_135 ?_
      obtain ⟨g_i, hf⟩ := fg hf
      obtain ⟨ν14, e_l, hf⟩ := fl hf
      refine sA_X5_4 ho2 eN hN cx hp g_i dX5_copy_136 (fun u H locs e_u n_u hp => ?_)
      have eN := e_u.trans e_l
      have eM := (n_u _ d_M_N).trans eM
      have fr : ∀ q, q ≠ o2 → u q = σ q := fun q h0 => (n_u q h0).trans (fr q h0)
      refine lv_aload_n hx hb dX5_copy_137 rfl (lv_at hl 1 rfl) ?_
      refine gF_X5_53 ho2 rfl hN cx hp dX5_copy_138 ?_
      refine lv_iload_n hx hb dX5_copy_141 rfl (lv_at hl 2 rfl) ?_
      refine lv_aload_n hx hb dX5_copy_142 rfl (lv_at hl 0 rfl) ?_
      refine gF_X5_53 ho rfl hN cx hp dX5_copy_143 ?_
      refine lv_iload_n hx hb dX5_copy_146 rfl (lv_at hl 2 rfl) ?_
      obtain ⟨g_i, hf⟩ := fg hf
      refine lA_X5_5 ho eM hN cx hp g_i dX5_copy_147 ?_
      obtain ⟨g_i, hf⟩ := fg hf
      obtain ⟨ν15, e_l, hf⟩ := fl hf
      refine sA_X5_5 ho2 eN hN cx hp g_i dX5_copy_148 (fun u H locs e_u n_u hp => ?_)
      have eN := e_u.trans e_l
      have eM := (n_u _ d_M_N).trans eM
      have fr : ∀ q, q ≠ o2 → u q = σ q := fun q h0 => (n_u q h0).trans (fr q h0)
      refine lv_aload_n hx hb dX5_copy_149 rfl (lv_at hl 1 rfl) ?_
      refine gF_X5_56 ho2 rfl hN cx hp dX5_copy_150 ?_
      refine lv_iload_n hx hb dX5_copy_153 rfl (lv_at hl 2 rfl) ?_
      refine lv_aload_n hx hb dX5_copy_154 rfl (lv_at hl 0 rfl) ?_
      refine gF_X5_56 ho rfl hN cx hp dX5_copy_155 ?_
      refine lv_iload_n hx hb dX5_copy_158 rfl (lv_at hl 2 rfl) ?_
      obtain ⟨g_i, hf⟩ := fg hf
      refine lA_X5_6 ho eM hN cx hp g_i dX5_copy_159 ?_
      obtain ⟨g_i, hf⟩ := fg hf
      obtain ⟨ν16, e_l, hf⟩ := fl hf
      refine sA_X5_6 ho2 eN hN cx hp g_i dX5_copy_160 (fun u H locs e_u n_u hp => ?_)
      have eN := e_u.trans e_l
      have eM := (n_u _ d_M_N).trans eM
      have fr : ∀ q, q ≠ o2 → u q = σ q := fun q h0 => (n_u q h0).trans (fr q h0)
      refine lv_iinc (v := (x2 + 1)) (lv' := [(2, .int (x2 + 1)), (0, .ref (adr E o 0)), (1, .ref (adr E o2 0))]) hx hb dX5_copy_161 hl (k := 2) rfl rfl (by decide) rfl (fun ls hl => ?_)
      refine lv_goto (tgt := 83) hx hb dX5_copy_164 (by decide) ?_
      exact ih  hf eM eN fr hp (lv_sub hl [1, 2, 0] rfl)
set_option maxRecDepth 100000 in
set_option maxHeartbeats 4000000 in
theorem L_X5_copy_169 {p : Program} {e : Env} {s : State} {m : MethodId} {args : Array Value} {below : List Frame} {meth : Method} {c : Code} (l : Launch) {E : Ev} (hN : 129 ≤ eN E) (hT : St E) {σ : SM} {Q : State → Prop} (cx : Cx E p s m meth c args RX5 cX5_copy 3 none) {o : Nat} (ho : o < 11) {o2 : Nat} (ho2 : o2 < 11) (hoo : o ≠ o2) {μ : OM} {ν' : OM} (K : ∀ (u : SM) (H : Heap) (locs : List Loc) (ls : Array Slot), u o = μ → u o2 = ν' → (∀ q, q ≠ o2 → u q = σ q) → Hp E u s H locs → lv_has ls 3 [(0, .ref (adr E o 0)), (1, .ref (adr E o2 0))] → W p l e rm_X5_copy s m args below meth c H locs 0 0 Q (F0 m 193 ls [])) : ∀ (n : Nat) {x2 : Int32} {ν : OM}, f_X5_copy_169 μ n x2 ν = some ν' → ∀ {u : SM} {H : Heap} {locs : List Loc} {ls : Array Slot}, u o = μ → u o2 = ν → (∀ q, q ≠ o2 → u q = σ q) → Hp E u s H locs → lv_has ls 3 [(0, .ref (adr E o 0)), (1, .ref (adr E o2 0)), (2, .int x2)] → W p l e rm_X5_copy s m args below meth c H locs 0 0 Q (F0 m 169 ls []) := by
  have hx := cx.1.1
  have hb := cx.1.2.1
  have d_M_N : (o : Nat) ≠ o2 := hoo
  intro n
  induction n with
  | zero =>
    intro x2 ν hf
    exact absurd hf (by simp [f_X5_copy_169])
  | succ n ih =>
    intro x2 ν hf u H locs ls eM eN fr hp hl
    rw [f_X5_copy_169] at hf
    refine lv_iload_n hx hb dX5_copy_169 rfl (lv_at hl 2 rfl) ?_
    refine lv_bipush (v := 64) hx hb dX5_copy_170 (by decide) ?_
    refine lv_icmp_ge (tgt := 193) hx hb dX5_copy_172 (by decide) (fun c18 => ?_) (fun c18 => ?_)
    · have hf := fp hf c18
      cases hf
      exact K _ _ _ _ eM eN fr hp (lv_sub hl [0, 1] rfl)
    · have hf := fn hf c18
      refine lv_aload_n hx hb dX5_copy_175 rfl (lv_at hl 1 rfl) ?_
      refine gF_X5_59 ho2 rfl hN cx hp dX5_copy_176 ?_
      refine lv_iload_n hx hb dX5_copy_179 rfl (lv_at hl 2 rfl) ?_
      refine lv_aload_n hx hb dX5_copy_180 rfl (lv_at hl 0 rfl) ?_
      refine gF_X5_59 ho rfl hN cx hp dX5_copy_181 ?_
      refine lv_iload_n hx hb dX5_copy_184 rfl (lv_at hl 2 rfl) ?_
      obtain ⟨g_i, hf⟩ := fg hf
      refine lA_X5_7 ho eM hN cx hp g_i dX5_copy_185 ?_
      obtain ⟨g_i, hf⟩ := fg hf
      obtain ⟨ν19, e_l, hf⟩ := fl hf
      refine sA_X5_7 ho2 eN hN cx hp g_i dX5_copy_186 (fun u H locs e_u n_u hp => ?_)
      have eN := e_u.trans e_l
      have eM := (n_u _ d_M_N).trans eM
      have fr : ∀ q, q ≠ o2 → u q = σ q := fun q h0 => (n_u q h0).trans (fr q h0)
      refine lv_iinc (v := (x2 + 1)) (lv' := [(2, .int (x2 + 1)), (0, .ref (adr E o 0)), (1, .ref (adr E o2 0))]) hx hb dX5_copy_187 hl (k := 2) rfl rfl (by decide) rfl (fun ls hl => ?_)
      refine lv_goto (tgt := 169) hx hb dX5_copy_190 (by decide) ?_
      exact ih  hf eM eN fr hp (lv_sub hl [1, 2, 0] rfl)
set_option maxRecDepth 100000 in
set_option maxHeartbeats 4000000 in
theorem L_X5_copy_195 {p : Program} {e : Env} {s : State} {m : MethodId} {args : Array Value} {below : List Frame} {meth : Method} {c : Code} (l : Launch) {E : Ev} (hN : 129 ≤ eN E) (hT : St E) {σ : SM} (cx : Cx E p s m meth c args RX5 cX5_copy 3 none) {o : Nat} (ho : o < 11) {o2 : Nat} (ho2 : o2 < 11) (hoo : o ≠ o2) {μ : OM} {ν' : OM} : ∀ (n : Nat) {x2 : Int32} {ν : OM}, f_X5_copy_195 μ n x2 ν = some ν' → ∀ {u : SM} {H : Heap} {locs : List Loc} {ls : Array Slot}, u o = μ → u o2 = ν → (∀ q, q ≠ o2 → u q = σ q) → Hp E u s H locs → lv_has ls 3 [(0, .ref (adr E o 0)), (1, .ref (adr E o2 0)), (2, .int x2)] → W p l e rm_X5_copy s m args below meth c H locs 0 0 (MQ below (va_Qv (fun u => u o2 = ν' ∧ ∀ q, q ≠ o2 → u q = σ q) (fun u t => Wu E u t) (eA E)) args s 0 0 (eA E)) (F0 m 195 ls []) := by
  have hx := cx.1.1
  have hb := cx.1.2.1
  have d_M_N : (o : Nat) ≠ o2 := hoo
  intro n
  induction n with
  | zero =>
    intro x2 ν hf
    exact absurd hf (by simp [f_X5_copy_195])
  | succ n ih =>
    intro x2 ν hf u H locs ls eM eN fr hp hl
    rw [f_X5_copy_195] at hf
    refine lv_iload_n hx hb dX5_copy_195 rfl (lv_at hl 2 rfl) ?_
    refine lv_bipush (v := 8) hx hb dX5_copy_196 (by decide) ?_
    refine lv_icmp_ge (tgt := 231) hx hb dX5_copy_198 (by decide) (fun c21 => ?_) (fun c21 => ?_)
    · have hf := fp hf c21
      cases hf
      exact r_v cx hp ⟨eN, fr⟩ dX5_copy_231
    · have hf := fn hf c21
      refine lv_aload_n hx hb dX5_copy_201 rfl (lv_at hl 1 rfl) ?_
      refine gF_X5_62 ho2 rfl hN cx hp dX5_copy_202 ?_
      refine lv_iload_n hx hb dX5_copy_205 rfl (lv_at hl 2 rfl) ?_
      refine lv_aload_n hx hb dX5_copy_206 rfl (lv_at hl 0 rfl) ?_
      refine gF_X5_62 ho rfl hN cx hp dX5_copy_207 ?_
      refine lv_iload_n hx hb dX5_copy_210 rfl (lv_at hl 2 rfl) ?_
      obtain ⟨g_i, hf⟩ := fg hf
      refine lA_X5_8 ho eM hN cx hp g_i dX5_copy_211 ?_
      obtain ⟨g_i, hf⟩ := fg hf
      obtain ⟨ν22, e_l, hf⟩ := fl hf
      refine sA_X5_8 ho2 eN hN cx hp g_i dX5_copy_212 (fun u H locs e_u n_u hp => ?_)
      have eN := e_u.trans e_l
      have eM := (n_u _ d_M_N).trans eM
      have fr : ∀ q, q ≠ o2 → u q = σ q := fun q h0 => (n_u q h0).trans (fr q h0)
      refine lv_aload_n hx hb dX5_copy_213 rfl (lv_at hl 1 rfl) ?_
      refine gF_X5_65 ho2 rfl hN cx hp dX5_copy_214 ?_
      refine lv_iload_n hx hb dX5_copy_217 rfl (lv_at hl 2 rfl) ?_
      refine lv_aload_n hx hb dX5_copy_218 rfl (lv_at hl 0 rfl) ?_
      refine gF_X5_65 ho rfl hN cx hp dX5_copy_219 ?_
      refine lv_iload_n hx hb dX5_copy_222 rfl (lv_at hl 2 rfl) ?_
      obtain ⟨g_i, hf⟩ := fg hf
      refine lA_X5_9 ho eM hN cx hp g_i dX5_copy_223 ?_
      obtain ⟨g_i, hf⟩ := fg hf
      obtain ⟨ν23, e_l, hf⟩ := fl hf
      refine sA_X5_9 ho2 eN hN cx hp g_i dX5_copy_224 (fun u H locs e_u n_u hp => ?_)
      have eN := e_u.trans e_l
      have eM := (n_u _ d_M_N).trans eM
      have fr : ∀ q, q ≠ o2 → u q = σ q := fun q h0 => (n_u q h0).trans (fr q h0)
      refine lv_iinc (v := (x2 + 1)) (lv' := [(2, .int (x2 + 1)), (0, .ref (adr E o 0)), (1, .ref (adr E o2 0))]) hx hb dX5_copy_225 hl (k := 2) rfl rfl (by decide) rfl (fun ls hl => ?_)
      refine lv_goto (tgt := 195) hx hb dX5_copy_228 (by decide) ?_
      exact ih  hf eM eN fr hp (lv_sub hl [1, 2, 0] rfl)
set_option maxRecDepth 100000 in
set_option maxHeartbeats 4000000 in
theorem c_X5_copy (l : Launch) {E : Ev} (hN : 129 ≤ eN E) (hT : St E) {σ : SM} {o : Nat} {μ : OM} (ho : o < 11) (eM : σ o = μ) {o2 : Nat} {ν : OM} (ho2 : o2 < 11) (eN : σ o2 = ν) (hoo : o ≠ o2)  {ν' : OM} (hf : f_X5_copy μ ν = some ν') : Met l yX5_copy (wC yX5_copy cX5_copy 3 none) rm_X5_copy (va_Pc [.ref (adr E o 0), .ref (adr E o2 0)] (Wu E σ)) (va_Qv (fun u => u o2 = ν' ∧ ∀ q, q ≠ o2 → u q = σ q) (fun u t => Wu E u t) (eA E)) 0 0 (eA E) := by
  refine g_entry (lv := [(0, .ref (adr E o 0)), (1, .ref (adr E o2 0))]) (by decide) (Nat.le_of_ble_eq_true rfl) rfl ?_
  intro p e s m below meth c cx hp ls hl
  have hx := cx.1.1
  have hb := cx.1.2.1
  have fr : ∀ q, q ≠ o2 → σ q = σ q := fun _ _ => rfl
  have d_M_N : (o : Nat) ≠ o2 := hoo
  unfold f_X5_copy at hf
  refine lv_aload_n hx hb dX5_copy_0 rfl (lv_at hl 0 rfl) ?_
  refine lv_ifnull hx hb dX5_copy_1 ?_
  refine lv_aload_n hx hb dX5_copy_4 rfl (lv_at hl 1 rfl) ?_
  refine lv_ifnonnull (tgt := 9) hx hb dX5_copy_5 (by decide) ?_
  refine lv_aload_n hx hb dX5_copy_9 rfl (lv_at hl 1 rfl) ?_
  refine lv_aload_n hx hb dX5_copy_10 rfl (lv_at hl 0 rfl) ?_
  refine gF_X5_9 ho eM hN cx hp dX5_copy_11 ?_
  obtain ⟨ν1, e_l, hf⟩ := fl hf
  refine pF_X5_9 ho2 eN hN cx hp dX5_copy_14 (fun u H locs e_u n_u hp => ?_)
  have eN := e_u.trans e_l
  have eM := (n_u _ d_M_N).trans eM
  have fr : ∀ q, q ≠ o2 → u q = σ q := fun q h0 => (n_u q h0).trans (fr q h0)
  refine lv_aload_n hx hb dX5_copy_17 rfl (lv_at hl 1 rfl) ?_
  refine lv_aload_n hx hb dX5_copy_18 rfl (lv_at hl 0 rfl) ?_
  refine gF_X5_15 ho eM hN cx hp dX5_copy_19 ?_
  obtain ⟨ν2, e_l, hf⟩ := fl hf
  refine pF_X5_15 ho2 eN hN cx hp dX5_copy_22 (fun u H locs e_u n_u hp => ?_)
  have eN := e_u.trans e_l
  have eM := (n_u _ d_M_N).trans eM
  have fr : ∀ q, q ≠ o2 → u q = σ q := fun q h0 => (n_u q h0).trans (fr q h0)
  refine lv_aload_n hx hb dX5_copy_25 rfl (lv_at hl 1 rfl) ?_
  refine lv_aload_n hx hb dX5_copy_26 rfl (lv_at hl 0 rfl) ?_
  refine gF_X5_18 ho eM hN cx hp dX5_copy_27 ?_
  obtain ⟨ν3, e_l, hf⟩ := fl hf
  refine pF_X5_18 ho2 eN hN cx hp dX5_copy_30 (fun u H locs e_u n_u hp => ?_)
  have eN := e_u.trans e_l
  have eM := (n_u _ d_M_N).trans eM
  have fr : ∀ q, q ≠ o2 → u q = σ q := fun q h0 => (n_u q h0).trans (fr q h0)
  refine lv_aload_n hx hb dX5_copy_33 rfl (lv_at hl 1 rfl) ?_
  refine lv_aload_n hx hb dX5_copy_34 rfl (lv_at hl 0 rfl) ?_
  refine gF_X5_21 ho eM hN cx hp dX5_copy_35 ?_
  obtain ⟨ν4, e_l, hf⟩ := fl hf
  refine pF_X5_21 ho2 eN hN cx hp dX5_copy_38 (fun u H locs e_u n_u hp => ?_)
  have eN := e_u.trans e_l
  have eM := (n_u _ d_M_N).trans eM
  have fr : ∀ q, q ≠ o2 → u q = σ q := fun q h0 => (n_u q h0).trans (fr q h0)
  refine lv_aload_n hx hb dX5_copy_41 rfl (lv_at hl 1 rfl) ?_
  refine lv_aload_n hx hb dX5_copy_42 rfl (lv_at hl 0 rfl) ?_
  refine gF_X5_24 ho eM hN cx hp dX5_copy_43 ?_
  obtain ⟨ν5, e_l, hf⟩ := fl hf
  refine pF_X5_24 ho2 eN hN cx hp dX5_copy_46 (fun u H locs e_u n_u hp => ?_)
  have eN := e_u.trans e_l
  have eM := (n_u _ d_M_N).trans eM
  have fr : ∀ q, q ≠ o2 → u q = σ q := fun q h0 => (n_u q h0).trans (fr q h0)
  refine lv_aload_n hx hb dX5_copy_49 rfl (lv_at hl 1 rfl) ?_
  refine lv_aload_n hx hb dX5_copy_50 rfl (lv_at hl 0 rfl) ?_
  refine gF_X5_27 ho eM hN cx hp dX5_copy_51 ?_
  obtain ⟨ν6, e_l, hf⟩ := fl hf
  refine pF_X5_27 ho2 eN hN cx hp dX5_copy_54 (fun u H locs e_u n_u hp => ?_)
  have eN := e_u.trans e_l
  have eM := (n_u _ d_M_N).trans eM
  have fr : ∀ q, q ≠ o2 → u q = σ q := fun q h0 => (n_u q h0).trans (fr q h0)
  refine lv_aload_n hx hb dX5_copy_57 rfl (lv_at hl 1 rfl) ?_
  refine lv_aload_n hx hb dX5_copy_58 rfl (lv_at hl 0 rfl) ?_
  refine gF_X5_30 ho eM hN cx hp dX5_copy_59 ?_
  obtain ⟨ν7, e_l, hf⟩ := fl hf
  refine pF_X5_30 ho2 eN hN cx hp dX5_copy_62 (fun u H locs e_u n_u hp => ?_)
  have eN := e_u.trans e_l
  have eM := (n_u _ d_M_N).trans eM
  have fr : ∀ q, q ≠ o2 → u q = σ q := fun q h0 => (n_u q h0).trans (fr q h0)
  refine lv_aload_n hx hb dX5_copy_65 rfl (lv_at hl 1 rfl) ?_
  refine lv_aload_n hx hb dX5_copy_66 rfl (lv_at hl 0 rfl) ?_
  refine gF_X5_33 ho eM hN cx hp dX5_copy_67 ?_
  obtain ⟨ν8, e_l, hf⟩ := fl hf
  refine pF_X5_33 ho2 eN hN cx hp dX5_copy_70 (fun u H locs e_u n_u hp => ?_)
  have eN := e_u.trans e_l
  have eM := (n_u _ d_M_N).trans eM
  have fr : ∀ q, q ≠ o2 → u q = σ q := fun q h0 => (n_u q h0).trans (fr q h0)
  refine lv_aload_n hx hb dX5_copy_73 rfl (lv_at hl 1 rfl) ?_
  refine lv_aload_n hx hb dX5_copy_74 rfl (lv_at hl 0 rfl) ?_
  refine gF_X5_36 ho eM hN cx hp dX5_copy_75 ?_
  obtain ⟨ν9, e_l, hf⟩ := fl hf
  refine pF_X5_36 ho2 eN hN cx hp dX5_copy_78 (fun u H locs e_u n_u hp => ?_)
  have eN := e_u.trans e_l
  have eM := (n_u _ d_M_N).trans eM
  have fr : ∀ q, q ≠ o2 → u q = σ q := fun q h0 => (n_u q h0).trans (fr q h0)
  refine lv_iconst (v := 0) hx hb dX5_copy_81 (by decide) ?_
  refine lv_istore_n (lv' := [(2, .int 0), (0, .ref (adr E o 0)), (1, .ref (adr E o2 0))]) hx hb dX5_copy_82 rfl hl (by decide) rfl (fun ls hl => ?_)
  obtain ⟨ν17, hc, hf⟩ := fb hf
  refine L_X5_copy_83 l hN hT cx ho ho2 hoo (fun u H locs ls eM eN fr hp hl => ?_) _ hc eM eN fr hp (lv_sub hl [1, 2, 0] rfl)
  refine lv_iconst (v := 0) hx hb dX5_copy_167 (by decide) ?_
  refine lv_istore_n (lv' := [(2, .int 0), (0, .ref (adr E o 0)), (1, .ref (adr E o2 0))]) hx hb dX5_copy_168 rfl hl (by decide) rfl (fun ls hl => ?_)
  obtain ⟨ν20, hc, hf⟩ := fb hf
  refine L_X5_copy_169 l hN hT cx ho ho2 hoo (fun u H locs ls eM eN fr hp hl => ?_) _ hc eM eN fr hp (lv_sub hl [1, 2, 0] rfl)
  refine lv_iconst (v := 0) hx hb dX5_copy_193 (by decide) ?_
  refine lv_istore_n (lv' := [(2, .int 0), (0, .ref (adr E o 0)), (1, .ref (adr E o2 0))]) hx hb dX5_copy_194 rfl hl (by decide) rfl (fun ls hl => ?_)
  exact L_X5_copy_195 l hN hT cx ho ho2 hoo _ hf eM eN fr hp (lv_sub hl [1, 2, 0] rfl)
abbrev rm_X5_clear : Room := { frames := 0, cells := 0, slots := 0, locals := 0 }
set_option maxRecDepth 100000 in
set_option maxHeartbeats 4000000 in
theorem c_X5_clear (l : Launch) {E : Ev} (hN : 129 ≤ eN E) (hT : St E) {σ : SM} {o : Nat} {μ : OM} (ho : o < 11) (eM : σ o = μ)  {μ' : OM} (hf : f_X5_clear μ = some μ') : Met l yX5_clear (wC yX5_clear cX5_clear 1 none) rm_X5_clear (va_Pc [.ref (adr E o 0)] (Wu E σ)) (va_Qv (fun u => u o = μ' ∧ ∀ q, q ≠ o → u q = σ q) (fun u t => Wu E u t) (eA E)) 0 0 (eA E) := by
  refine g_entry (lv := [(0, .ref (adr E o 0))]) (by decide) (Nat.le_of_ble_eq_true rfl) rfl ?_
  intro p e s m below meth c cx hp ls hl
  have hx := cx.1.1
  have hb := cx.1.2.1
  have fr : ∀ q, q ≠ o → σ q = σ q := fun _ _ => rfl
  unfold f_X5_clear at hf
  refine lv_aload_n hx hb dX5_clear_0 rfl (lv_at hl 0 rfl) ?_
  refine lv_iconst (v := 0) hx hb dX5_clear_1 (by decide) ?_
  obtain ⟨μ1, e_l, hf⟩ := fl hf
  refine pF_X5_9 ho eM hN cx hp dX5_clear_2 (fun u H locs e_u n_u hp => ?_)
  have eM := e_u.trans e_l
  have fr : ∀ q, q ≠ o → u q = σ q := fun q h0 => (n_u q h0).trans (fr q h0)
  refine lv_aload_n hx hb dX5_clear_5 rfl (lv_at hl 0 rfl) ?_
  refine lv_iconst (v := 0) hx hb dX5_clear_6 (by decide) ?_
  obtain ⟨μ2, e_l, hf⟩ := fl hf
  refine pF_X5_15 ho eM hN cx hp dX5_clear_7 (fun u H locs e_u n_u hp => ?_)
  have eM := e_u.trans e_l
  have fr : ∀ q, q ≠ o → u q = σ q := fun q h0 => (n_u q h0).trans (fr q h0)
  refine lv_aload_n hx hb dX5_clear_10 rfl (lv_at hl 0 rfl) ?_
  refine lv_iconst (v := 0) hx hb dX5_clear_11 (by decide) ?_
  obtain ⟨μ3, e_l, hf⟩ := fl hf
  refine pF_X5_18 ho eM hN cx hp dX5_clear_12 (fun u H locs e_u n_u hp => ?_)
  have eM := e_u.trans e_l
  have fr : ∀ q, q ≠ o → u q = σ q := fun q h0 => (n_u q h0).trans (fr q h0)
  refine lv_aload_n hx hb dX5_clear_15 rfl (lv_at hl 0 rfl) ?_
  refine lv_iconst (v := 0) hx hb dX5_clear_16 (by decide) ?_
  obtain ⟨μ4, e_l, hf⟩ := fl hf
  refine pF_X5_21 ho eM hN cx hp dX5_clear_17 (fun u H locs e_u n_u hp => ?_)
  have eM := e_u.trans e_l
  have fr : ∀ q, q ≠ o → u q = σ q := fun q h0 => (n_u q h0).trans (fr q h0)
  refine lv_aload_n hx hb dX5_clear_20 rfl (lv_at hl 0 rfl) ?_
  refine lv_iconst (v := 0) hx hb dX5_clear_21 (by decide) ?_
  obtain ⟨μ5, e_l, hf⟩ := fl hf
  refine pF_X5_24 ho eM hN cx hp dX5_clear_22 (fun u H locs e_u n_u hp => ?_)
  have eM := e_u.trans e_l
  have fr : ∀ q, q ≠ o → u q = σ q := fun q h0 => (n_u q h0).trans (fr q h0)
  refine lv_aload_n hx hb dX5_clear_25 rfl (lv_at hl 0 rfl) ?_
  refine lv_iconst (v := 0) hx hb dX5_clear_26 (by decide) ?_
  obtain ⟨μ6, e_l, hf⟩ := fl hf
  refine pF_X5_27 ho eM hN cx hp dX5_clear_27 (fun u H locs e_u n_u hp => ?_)
  have eM := e_u.trans e_l
  have fr : ∀ q, q ≠ o → u q = σ q := fun q h0 => (n_u q h0).trans (fr q h0)
  refine lv_aload_n hx hb dX5_clear_30 rfl (lv_at hl 0 rfl) ?_
  refine lv_iconst (v := 0) hx hb dX5_clear_31 (by decide) ?_
  obtain ⟨μ7, e_l, hf⟩ := fl hf
  refine pF_X5_30 ho eM hN cx hp dX5_clear_32 (fun u H locs e_u n_u hp => ?_)
  have eM := e_u.trans e_l
  have fr : ∀ q, q ≠ o → u q = σ q := fun q h0 => (n_u q h0).trans (fr q h0)
  refine lv_aload_n hx hb dX5_clear_35 rfl (lv_at hl 0 rfl) ?_
  refine lv_iconst (v := 0) hx hb dX5_clear_36 (by decide) ?_
  obtain ⟨μ8, e_l, hf⟩ := fl hf
  refine pF_X5_33 ho eM hN cx hp dX5_clear_37 (fun u H locs e_u n_u hp => ?_)
  have eM := e_u.trans e_l
  have fr : ∀ q, q ≠ o → u q = σ q := fun q h0 => (n_u q h0).trans (fr q h0)
  refine lv_aload_n hx hb dX5_clear_40 rfl (lv_at hl 0 rfl) ?_
  refine lv_iconst (v := 0) hx hb dX5_clear_41 (by decide) ?_
  obtain ⟨μ9, e_l, hf⟩ := fl hf
  refine pF_X5_36 ho eM hN cx hp dX5_clear_42 (fun u H locs e_u n_u hp => ?_)
  have eM := e_u.trans e_l
  have fr : ∀ q, q ≠ o → u q = σ q := fun q h0 => (n_u q h0).trans (fr q h0)
  cases hf
  exact r_v cx hp ⟨eM, fr⟩ dX5_clear_45
abbrev rm_X5_addStall : Room := { frames := 0, cells := 0, slots := 0, locals := 0 }
set_option maxRecDepth 100000 in
set_option maxHeartbeats 4000000 in
theorem c_X5_addStall (l : Launch) {E : Ev} (hN : 129 ≤ eN E) (hT : St E) {σ : SM} {o : Nat} {μ : OM} (ho : o < 11) (eM : σ o = μ) {p1 : Int64} {p3 : Int32} {μ' : OM} (hf : f_X5_addStall p1 p3 μ = some μ') : Met l yX5_addStall (wC yX5_addStall cX5_addStall 4 none) rm_X5_addStall (va_Pc [.ref (adr E o 0), .long p1, .int p3] (Wu E σ)) (va_Qv (fun u => u o = μ' ∧ ∀ q, q ≠ o → u q = σ q) (fun u t => Wu E u t) (eA E)) 0 0 (eA E) := by
  refine g_entry (lv := [(0, .ref (adr E o 0)), (1, .long p1), (3, .int p3)]) (by decide) (Nat.le_of_ble_eq_true rfl) rfl ?_
  intro p e s m below meth c cx hp ls hl
  have hx := cx.1.1
  have hb := cx.1.2.1
  have fr : ∀ q, q ≠ o → σ q = σ q := fun _ _ => rfl
  unfold f_X5_addStall at hf
  refine lv_aload_n hx hb dX5_addStall_0 rfl (lv_at hl 0 rfl) ?_
  refine gF_X5_15 ho eM hN cx hp dX5_addStall_1 ?_
  refine lv_bipush (v := 8) hx hb dX5_addStall_4 (by decide) ?_
  refine lv_icmp_ge (tgt := 39) hx hb dX5_addStall_6 (by decide) (fun c1 => ?_) (fun c1 => ?_)
  · have hf := fp hf c1
    cases hf
    exact r_v cx hp ⟨eM, fr⟩ dX5_addStall_39
  · have hf := fn hf c1
    refine lv_aload_n hx hb dX5_addStall_9 rfl (lv_at hl 0 rfl) ?_
    refine gF_X5_62 ho rfl hN cx hp dX5_addStall_10 ?_
    refine lv_aload_n hx hb dX5_addStall_13 rfl (lv_at hl 0 rfl) ?_
    refine gF_X5_15 ho eM hN cx hp dX5_addStall_14 ?_
    refine lv_lload_n hx hb dX5_addStall_17 rfl (lv_at hl 1 rfl) ?_
    obtain ⟨g_i, hf⟩ := fg hf
    obtain ⟨μ2, e_l, hf⟩ := fl hf
    refine sA_X5_8 ho eM hN cx hp g_i dX5_addStall_18 (fun u H locs e_u n_u hp => ?_)
    have eM := e_u.trans e_l
    have fr : ∀ q, q ≠ o → u q = σ q := fun q h0 => (n_u q h0).trans (fr q h0)
    refine lv_aload_n hx hb dX5_addStall_19 rfl (lv_at hl 0 rfl) ?_
    refine gF_X5_65 ho rfl hN cx hp dX5_addStall_20 ?_
    refine lv_aload_n hx hb dX5_addStall_23 rfl (lv_at hl 0 rfl) ?_
    refine gF_X5_15 ho eM hN cx hp dX5_addStall_24 ?_
    refine lv_iload_n hx hb dX5_addStall_27 rfl (lv_at hl 2 rfl) ?_
    obtain ⟨g_i, hf⟩ := fg hf
    obtain ⟨μ3, e_l, hf⟩ := fl hf
    refine sA_X5_9 ho eM hN cx hp g_i dX5_addStall_28 (fun u H locs e_u n_u hp => ?_)
    have eM := e_u.trans e_l
    have fr : ∀ q, q ≠ o → u q = σ q := fun q h0 => (n_u q h0).trans (fr q h0)
    refine lv_aload_n hx hb dX5_addStall_29 rfl (lv_at hl 0 rfl) ?_
    refine lv_dup hx hb dX5_addStall_30 rfl ?_
    refine gF_X5_15 ho eM hN cx hp dX5_addStall_31 ?_
    refine lv_iconst (v := 1) hx hb dX5_addStall_34 (by decide) ?_
    refine lv_iadd hx hb dX5_addStall_35 ?_
    obtain ⟨μ4, e_l, hf⟩ := fl hf
    refine pF_X5_15 ho eM hN cx hp dX5_addStall_36 (fun u H locs e_u n_u hp => ?_)
    have eM := e_u.trans e_l
    have fr : ∀ q, q ≠ o → u q = σ q := fun q h0 => (n_u q h0).trans (fr q h0)
    cases hf
    exact r_v cx hp ⟨eM, fr⟩ dX5_addStall_39
abbrev rm_X5_addSeller : Room := { frames := 0, cells := 0, slots := 0, locals := 0 }
set_option maxRecDepth 100000 in
set_option maxHeartbeats 4000000 in
theorem c_X5_addSeller (l : Launch) {E : Ev} (hN : 129 ≤ eN E) (hT : St E) {σ : SM} {o : Nat} {μ : OM} (ho : o < 11) (eM : σ o = μ) {p1 : Int64} {p3 : Int32} {p4 : Int32} {μ' : OM} (hf : f_X5_addSeller p1 p3 p4 μ = some μ') : Met l yX5_addSeller (wC yX5_addSeller cX5_addSeller 5 none) rm_X5_addSeller (va_Pc [.ref (adr E o 0), .long p1, .int p3, .int p4] (Wu E σ)) (va_Qv (fun u => u o = μ' ∧ ∀ q, q ≠ o → u q = σ q) (fun u t => Wu E u t) (eA E)) 0 0 (eA E) := by
  refine g_entry (lv := [(0, .ref (adr E o 0)), (1, .long p1), (3, .int p3), (4, .int p4)]) (by decide) (Nat.le_of_ble_eq_true rfl) rfl ?_
  intro p e s m below meth c cx hp ls hl
  have hx := cx.1.1
  have hb := cx.1.2.1
  have fr : ∀ q, q ≠ o → σ q = σ q := fun _ _ => rfl
  unfold f_X5_addSeller at hf
  refine lv_aload_n hx hb dX5_addSeller_0 rfl (lv_at hl 0 rfl) ?_
  refine gF_X5_9 ho eM hN cx hp dX5_addSeller_1 ?_
  refine lv_bipush (v := 8) hx hb dX5_addSeller_4 (by decide) ?_
  refine lv_icmp_ge (tgt := 93) hx hb dX5_addSeller_6 (by decide) (fun c1 => ?_) (fun c1 => ?_)
  · have hf := fp hf c1
    cases hf
    exact r_v cx hp ⟨eM, fr⟩ dX5_addSeller_93
  · have hf := fn hf c1
    refine lv_aload_n hx hb dX5_addSeller_9 rfl (lv_at hl 0 rfl) ?_
    refine gF_X5_39 ho rfl hN cx hp dX5_addSeller_10 ?_
    refine lv_aload_n hx hb dX5_addSeller_13 rfl (lv_at hl 0 rfl) ?_
    refine gF_X5_9 ho eM hN cx hp dX5_addSeller_14 ?_
    refine lv_lload_n hx hb dX5_addSeller_17 rfl (lv_at hl 1 rfl) ?_
    obtain ⟨g_i, hf⟩ := fg hf
    obtain ⟨μ2, e_l, hf⟩ := fl hf
    refine sA_X5_1 ho eM hN cx hp g_i dX5_addSeller_18 (fun u H locs e_u n_u hp => ?_)
    have eM := e_u.trans e_l
    have fr : ∀ q, q ≠ o → u q = σ q := fun q h0 => (n_u q h0).trans (fr q h0)
    refine lv_aload_n hx hb dX5_addSeller_19 rfl (lv_at hl 0 rfl) ?_
    refine gF_X5_43 ho rfl hN cx hp dX5_addSeller_20 ?_
    refine lv_aload_n hx hb dX5_addSeller_23 rfl (lv_at hl 0 rfl) ?_
    refine gF_X5_9 ho eM hN cx hp dX5_addSeller_24 ?_
    refine lv_iload_n hx hb dX5_addSeller_27 rfl (lv_at hl 2 rfl) ?_
    obtain ⟨g_i, hf⟩ := fg hf
    obtain ⟨μ3, e_l, hf⟩ := fl hf
    refine sA_X5_2 ho eM hN cx hp g_i dX5_addSeller_28 (fun u H locs e_u n_u hp => ?_)
    have eM := e_u.trans e_l
    have fr : ∀ q, q ≠ o → u q = σ q := fun q h0 => (n_u q h0).trans (fr q h0)
    refine lv_aload_n hx hb dX5_addSeller_29 rfl (lv_at hl 0 rfl) ?_
    refine gF_X5_47 ho rfl hN cx hp dX5_addSeller_30 ?_
    refine lv_aload_n hx hb dX5_addSeller_33 rfl (lv_at hl 0 rfl) ?_
    refine gF_X5_9 ho eM hN cx hp dX5_addSeller_34 ?_
    refine lv_iload hx hb dX5_addSeller_37 (lv_at hl 3 rfl) ?_
    obtain ⟨g_i, hf⟩ := fg hf
    obtain ⟨μ4, e_l, hf⟩ := fl hf
    refine sA_X5_3 ho eM hN cx hp g_i dX5_addSeller_39 (fun u H locs e_u n_u hp => ?_)
    have eM := e_u.trans e_l
    have fr : ∀ q, q ≠ o → u q = σ q := fun q h0 => (n_u q h0).trans (fr q h0)
    refine lv_aload_n hx hb dX5_addSeller_40 rfl (lv_at hl 0 rfl) ?_
    refine gF_X5_50 ho rfl hN cx hp dX5_addSeller_41 ?_
    refine lv_aload_n hx hb dX5_addSeller_44 rfl (lv_at hl 0 rfl) ?_
    refine gF_X5_9 ho eM hN cx hp dX5_addSeller_45 ?_
    refine lv_iconst (v := (-1)) hx hb dX5_addSeller_48 (by decide) ?_
    obtain ⟨g_i, hf⟩ := fg hf
    obtain ⟨μ5, e_l, hf⟩ := fl hf
    refine sA_X5_4 ho eM hN cx hp g_i dX5_addSeller_49 (fun u H locs e_u n_u hp => ?_)
    have eM := e_u.trans e_l
    have fr : ∀ q, q ≠ o → u q = σ q := fun q h0 => (n_u q h0).trans (fr q h0)
    refine lv_aload_n hx hb dX5_addSeller_50 rfl (lv_at hl 0 rfl) ?_
    refine gF_X5_53 ho rfl hN cx hp dX5_addSeller_51 ?_
    refine lv_aload_n hx hb dX5_addSeller_54 rfl (lv_at hl 0 rfl) ?_
    refine gF_X5_9 ho eM hN cx hp dX5_addSeller_55 ?_
    refine lv_aload_n hx hb dX5_addSeller_58 rfl (lv_at hl 0 rfl) ?_
    refine gF_X5_9 ho eM hN cx hp dX5_addSeller_59 ?_
    obtain ⟨g_i, hf⟩ := fg hf
    obtain ⟨μ6, e_l, hf⟩ := fl hf
    refine sA_X5_5 ho eM hN cx hp g_i dX5_addSeller_62 (fun u H locs e_u n_u hp => ?_)
    have eM := e_u.trans e_l
    have fr : ∀ q, q ≠ o → u q = σ q := fun q h0 => (n_u q h0).trans (fr q h0)
    refine lv_aload_n hx hb dX5_addSeller_63 rfl (lv_at hl 0 rfl) ?_
    refine gF_X5_56 ho rfl hN cx hp dX5_addSeller_64 ?_
    refine lv_aload_n hx hb dX5_addSeller_67 rfl (lv_at hl 0 rfl) ?_
    refine gF_X5_9 ho eM hN cx hp dX5_addSeller_68 ?_
    refine lv_iconst (v := 0) hx hb dX5_addSeller_71 (by decide) ?_
    obtain ⟨g_i, hf⟩ := fg hf
    obtain ⟨μ7, e_l, hf⟩ := fl hf
    refine sA_X5_6 ho eM hN cx hp g_i dX5_addSeller_72 (fun u H locs e_u n_u hp => ?_)
    have eM := e_u.trans e_l
    have fr : ∀ q, q ≠ o → u q = σ q := fun q h0 => (n_u q h0).trans (fr q h0)
    refine lv_aload_n hx hb dX5_addSeller_73 rfl (lv_at hl 0 rfl) ?_
    refine lv_dup hx hb dX5_addSeller_74 rfl ?_
    refine gF_X5_33 ho eM hN cx hp dX5_addSeller_75 ?_
    refine lv_iload_n hx hb dX5_addSeller_78 rfl (lv_at hl 2 rfl) ?_
    refine lv_iadd hx hb dX5_addSeller_79 ?_
    obtain ⟨μ8, e_l, hf⟩ := fl hf
    refine pF_X5_33 ho eM hN cx hp dX5_addSeller_80 (fun u H locs e_u n_u hp => ?_)
    have eM := e_u.trans e_l
    have fr : ∀ q, q ≠ o → u q = σ q := fun q h0 => (n_u q h0).trans (fr q h0)
    refine lv_aload_n hx hb dX5_addSeller_83 rfl (lv_at hl 0 rfl) ?_
    refine lv_dup hx hb dX5_addSeller_84 rfl ?_
    refine gF_X5_9 ho eM hN cx hp dX5_addSeller_85 ?_
    refine lv_iconst (v := 1) hx hb dX5_addSeller_88 (by decide) ?_
    refine lv_iadd hx hb dX5_addSeller_89 ?_
    obtain ⟨μ9, e_l, hf⟩ := fl hf
    refine pF_X5_9 ho eM hN cx hp dX5_addSeller_90 (fun u H locs e_u n_u hp => ?_)
    have eM := e_u.trans e_l
    have fr : ∀ q, q ≠ o → u q = σ q := fun q h0 => (n_u q h0).trans (fr q h0)
    cases hf
    exact r_v cx hp ⟨eM, fr⟩ dX5_addSeller_93
abbrev rm_X5_hasStall : Room := { frames := 0, cells := 0, slots := 0, locals := 0 }
set_option maxRecDepth 100000 in
set_option maxHeartbeats 4000000 in
theorem c_X5_hasStall (l : Launch) {E : Ev} (hN : 129 ≤ eN E) (hT : St E) {σ : SM} {o : Nat} {μ : OM} (ho : o < 11) (eM : σ o = μ) {p1 : Int32} {rv : Int32} (hf : f_X5_hasStall p1 μ = some rv) : Met l yX5_hasStall (wC yX5_hasStall cX5_hasStall 2 (some .boolean)) rm_X5_hasStall (va_Pc [.ref (adr E o 0), .int p1] (Wu E σ)) (va_Qi (fun r u => rv = r ∧ σ = u) (fun u t => Wu E u t) (eA E)) 0 0 (eA E) := by
  refine g_entry (lv := [(0, .ref (adr E o 0)), (1, .int p1)]) (by decide) (Nat.le_of_ble_eq_true rfl) rfl ?_
  intro p e s m below meth c cx hp ls hl
  have hx := cx.1.1
  have hb := cx.1.2.1
  have fr : ∀ q, σ q = σ q := fun _ => rfl
  unfold f_X5_hasStall at hf
  refine lv_iload_n hx hb dX5_hasStall_0 rfl (lv_at hl 1 rfl) ?_
  refine lv_if_lt (tgt := 16) hx hb dX5_hasStall_1 (by decide) (fun c1 => ?_) (fun c1 => ?_)
  · have hf := fp hf c1
    refine lv_iconst (v := 0) hx hb dX5_hasStall_16 (by decide) ?_
    cases hf
    exact r_z cx hp rfl ⟨rfl, (funext fr).symm⟩ dX5_hasStall_17
  · have hf := fn hf c1
    refine lv_iload_n hx hb dX5_hasStall_4 rfl (lv_at hl 1 rfl) ?_
    refine lv_aload_n hx hb dX5_hasStall_5 rfl (lv_at hl 0 rfl) ?_
    refine gF_X5_15 ho eM hN cx hp dX5_hasStall_6 ?_
    refine lv_icmp_ge (tgt := 16) hx hb dX5_hasStall_9 (by decide) (fun c2 => ?_) (fun c2 => ?_)
    · have hf := fp hf c2
      refine lv_iconst (v := 0) hx hb dX5_hasStall_16 (by decide) ?_
      cases hf
      exact r_z cx hp rfl ⟨rfl, (funext fr).symm⟩ dX5_hasStall_17
    · have hf := fn hf c2
      refine lv_iconst (v := 1) hx hb dX5_hasStall_12 (by decide) ?_
      refine lv_goto (tgt := 17) hx hb dX5_hasStall_13 (by decide) ?_
      cases hf
      exact r_z cx hp rfl ⟨rfl, (funext fr).symm⟩ dX5_hasStall_17
abbrev rm_X5_coinsOf : Room := { frames := 1, cells := 0, slots := 0, locals := 21 }
set_option maxRecDepth 100000 in
set_option maxHeartbeats 4000000 in
theorem c_X5_coinsOf (l : Launch) {E : Ev} (hN : 129 ≤ eN E) (hT : St E) {σ : SM} {o : Nat} {μ : OM} (ho : o < 11) (eM : σ o = μ) {p1 : Int32} {rv : Int32} (hf : f_X5_coinsOf p1 μ = some rv) : Met l yX5_coinsOf (wC yX5_coinsOf cX5_coinsOf 2 (some .int)) rm_X5_coinsOf (va_Pc [.ref (adr E o 0), .int p1] (Wu E σ)) (va_Qi (fun r u => rv = r ∧ σ = u) (fun u t => Wu E u t) (eA E)) 0 0 (eA E) := by
  refine g_entry (lv := [(0, .ref (adr E o 0)), (1, .int p1)]) (by decide) (Nat.le_of_ble_eq_true rfl) rfl ?_
  intro p e s m below meth c cx hp ls hl
  have hx := cx.1.1
  have hb := cx.1.2.1
  have fr : ∀ q, σ q = σ q := fun _ => rfl
  unfold f_X5_coinsOf at hf
  refine lv_aload_n hx hb dX5_coinsOf_0 rfl (lv_at hl 0 rfl) ?_
  refine lv_iload_n hx hb dX5_coinsOf_1 rfl (lv_at hl 1 rfl) ?_
  obtain ⟨r1, hc, hf⟩ := fb hf
  refine x_i hp (y_V (As := [.int p1]) (rest := []) cx hp hl (c_X5_hasSeller l hN hT ho eM hc) (cw_X5_68 cx (mc := 0) (ms := 0) rfl rfl ⟨by decide, by decide⟩) (rC_X5 ho hN cx hp) rfl rfl (Nat.le_of_ble_eq_true rfl) dX5_coinsOf_2 ⟨Nat.zero_le _, Nat.zero_le _⟩) (fun r_c u_c H locs hq hp => ?_)
  obtain ⟨rfl, rfl⟩ := hq
  refine lv_if_eq (tgt := 17) hx hb dX5_coinsOf_5 (by decide) (fun c2 => ?_) (fun c2 => ?_)
  · have hf := fp hf c2
    refine lv_iconst (v := 0) hx hb dX5_coinsOf_17 (by decide) ?_
    cases hf
    exact r_i cx hp ⟨rfl, (funext fr).symm⟩ dX5_coinsOf_18
  · have hf := fn hf c2
    refine lv_aload_n hx hb dX5_coinsOf_8 rfl (lv_at hl 0 rfl) ?_
    refine gF_X5_43 ho rfl hN cx hp dX5_coinsOf_9 ?_
    refine lv_iload_n hx hb dX5_coinsOf_12 rfl (lv_at hl 1 rfl) ?_
    obtain ⟨g_i, hf⟩ := fg hf
    refine lA_X5_2 ho eM hN cx hp g_i dX5_coinsOf_13 ?_
    refine lv_goto (tgt := 18) hx hb dX5_coinsOf_14 (by decide) ?_
    cases hf
    exact r_i cx hp ⟨rfl, (funext fr).symm⟩ dX5_coinsOf_18
abbrev rm_X5_priceOf : Room := { frames := 1, cells := 0, slots := 0, locals := 21 }
set_option maxRecDepth 100000 in
set_option maxHeartbeats 4000000 in
theorem c_X5_priceOf (l : Launch) {E : Ev} (hN : 129 ≤ eN E) (hT : St E) {σ : SM} {o : Nat} {μ : OM} (ho : o < 11) (eM : σ o = μ) {p1 : Int32} {rv : Int32} (hf : f_X5_priceOf p1 μ = some rv) : Met l yX5_priceOf (wC yX5_priceOf cX5_priceOf 2 (some .int)) rm_X5_priceOf (va_Pc [.ref (adr E o 0), .int p1] (Wu E σ)) (va_Qi (fun r u => rv = r ∧ σ = u) (fun u t => Wu E u t) (eA E)) 0 0 (eA E) := by
  refine g_entry (lv := [(0, .ref (adr E o 0)), (1, .int p1)]) (by decide) (Nat.le_of_ble_eq_true rfl) rfl ?_
  intro p e s m below meth c cx hp ls hl
  have hx := cx.1.1
  have hb := cx.1.2.1
  have fr : ∀ q, σ q = σ q := fun _ => rfl
  unfold f_X5_priceOf at hf
  refine lv_aload_n hx hb dX5_priceOf_0 rfl (lv_at hl 0 rfl) ?_
  refine lv_iload_n hx hb dX5_priceOf_1 rfl (lv_at hl 1 rfl) ?_
  obtain ⟨r1, hc, hf⟩ := fb hf
  refine x_i hp (y_V (As := [.int p1]) (rest := []) cx hp hl (c_X5_hasStall l hN hT ho eM hc) (cw_X5_72 cx (mc := 0) (ms := 0) rfl rfl ⟨by decide, by decide⟩) (rC_X5 ho hN cx hp) rfl rfl (Nat.le_of_ble_eq_true rfl) dX5_priceOf_2 ⟨Nat.zero_le _, Nat.zero_le _⟩) (fun r_c u_c H locs hq hp => ?_)
  obtain ⟨rfl, rfl⟩ := hq
  refine lv_if_eq (tgt := 17) hx hb dX5_priceOf_5 (by decide) (fun c2 => ?_) (fun c2 => ?_)
  · have hf := fp hf c2
    refine lv_iconst (v := 0) hx hb dX5_priceOf_17 (by decide) ?_
    cases hf
    exact r_i cx hp ⟨rfl, (funext fr).symm⟩ dX5_priceOf_18
  · have hf := fn hf c2
    refine lv_aload_n hx hb dX5_priceOf_8 rfl (lv_at hl 0 rfl) ?_
    refine gF_X5_65 ho rfl hN cx hp dX5_priceOf_9 ?_
    refine lv_iload_n hx hb dX5_priceOf_12 rfl (lv_at hl 1 rfl) ?_
    obtain ⟨g_i, hf⟩ := fg hf
    refine lA_X5_9 ho eM hN cx hp g_i dX5_priceOf_13 ?_
    refine lv_goto (tgt := 18) hx hb dX5_priceOf_14 (by decide) ?_
    cases hf
    exact r_i cx hp ⟨rfl, (funext fr).symm⟩ dX5_priceOf_18
abbrev rm_X5_sellerCalled : Room := { frames := 0, cells := 0, slots := 0, locals := 0 }
set_option maxRecDepth 100000 in
set_option maxHeartbeats 4000000 in
theorem L_X5_sellerCalled_2 {p : Program} {e : Env} {s : State} {m : MethodId} {args : Array Value} {below : List Frame} {meth : Method} {c : Code} (l : Launch) {E : Ev} (hN : 129 ≤ eN E) (hT : St E) {σ : SM} (cx : Cx E p s m meth c args RX5 cX5_sellerCalled 4 (some .int)) {o : Nat} (ho : o < 11) {x1 : Int64} {μ : OM} {rv : Int32} : ∀ (n : Nat) {x3 : Int32}, f_X5_sellerCalled_2 x1 μ n x3 = some rv → ∀ {u : SM} {H : Heap} {locs : List Loc} {ls : Array Slot}, u o = μ → (∀ q, u q = σ q) → Hp E u s H locs → lv_has ls 4 [(0, .ref (adr E o 0)), (1, .long x1), (3, .int x3)] → W p l e rm_X5_sellerCalled s m args below meth c H locs 0 0 (MQ below (va_Qi (fun r u => rv = r ∧ σ = u) (fun u t => Wu E u t) (eA E)) args s 0 0 (eA E)) (F0 m 2 ls []) := by
  have hx := cx.1.1
  have hb := cx.1.2.1
  intro n
  induction n with
  | zero =>
    intro x3 hf
    exact absurd hf (by simp [f_X5_sellerCalled_2])
  | succ n ih =>
    intro x3 hf u H locs ls eM fr hp hl
    rw [f_X5_sellerCalled_2] at hf
    refine lv_iload_n hx hb dX5_sellerCalled_2 rfl (lv_at hl 2 rfl) ?_
    refine lv_aload_n hx hb dX5_sellerCalled_3 rfl (lv_at hl 0 rfl) ?_
    refine gF_X5_9 ho eM hN cx hp dX5_sellerCalled_4 ?_
    refine lv_icmp_ge (tgt := 29) hx hb dX5_sellerCalled_7 (by decide) (fun c1 => ?_) (fun c1 => ?_)
    · have hf := fp hf c1
      refine lv_iconst (v := (-1)) hx hb dX5_sellerCalled_29 (by decide) ?_
      cases hf
      exact r_i cx hp ⟨rfl, (funext fr).symm⟩ dX5_sellerCalled_30
    · have hf := fn hf c1
      refine lv_aload_n hx hb dX5_sellerCalled_10 rfl (lv_at hl 0 rfl) ?_
      refine gF_X5_39 ho rfl hN cx hp dX5_sellerCalled_11 ?_
      refine lv_iload_n hx hb dX5_sellerCalled_14 rfl (lv_at hl 2 rfl) ?_
      obtain ⟨g_i, hf⟩ := fg hf
      refine lA_X5_1 ho eM hN cx hp g_i dX5_sellerCalled_15 ?_
      refine lv_lload_n hx hb dX5_sellerCalled_16 rfl (lv_at hl 1 rfl) ?_
      refine W.lcmp hx hb dX5_sellerCalled_17 ?_
      refine lv_if_ne (tgt := 23) hx hb dX5_sellerCalled_18 (by decide) (fun c2 => ?_) (fun c2 => ?_)
      · have hf := fn hf c2
        refine lv_iinc (v := (x3 + 1)) (lv' := [(3, .int (x3 + 1)), (0, .ref (adr E o 0)), (1, .long x1)]) hx hb dX5_sellerCalled_23 hl (k := 2) rfl rfl (by decide) rfl (fun ls hl => ?_)
        refine lv_goto (tgt := 2) hx hb dX5_sellerCalled_26 (by decide) ?_
        exact ih  hf eM fr hp (lv_sub hl [1, 2, 0] rfl)
      · have hf := fp hf c2
        refine lv_iload_n hx hb dX5_sellerCalled_21 rfl (lv_at hl 2 rfl) ?_
        cases hf
        exact r_i cx hp ⟨rfl, (funext fr).symm⟩ dX5_sellerCalled_22
set_option maxRecDepth 100000 in
set_option maxHeartbeats 4000000 in
theorem c_X5_sellerCalled (l : Launch) {E : Ev} (hN : 129 ≤ eN E) (hT : St E) {σ : SM} {o : Nat} {μ : OM} (ho : o < 11) (eM : σ o = μ) {p1 : Int64} {rv : Int32} (hf : f_X5_sellerCalled p1 μ = some rv) : Met l yX5_sellerCalled (wC yX5_sellerCalled cX5_sellerCalled 4 (some .int)) rm_X5_sellerCalled (va_Pc [.ref (adr E o 0), .long p1] (Wu E σ)) (va_Qi (fun r u => rv = r ∧ σ = u) (fun u t => Wu E u t) (eA E)) 0 0 (eA E) := by
  refine g_entry (lv := [(0, .ref (adr E o 0)), (1, .long p1)]) (by decide) (Nat.le_of_ble_eq_true rfl) rfl ?_
  intro p e s m below meth c cx hp ls hl
  have hx := cx.1.1
  have hb := cx.1.2.1
  have fr : ∀ q, σ q = σ q := fun _ => rfl
  unfold f_X5_sellerCalled at hf
  refine lv_iconst (v := 0) hx hb dX5_sellerCalled_0 (by decide) ?_
  refine lv_istore_n (lv' := [(3, .int 0), (0, .ref (adr E o 0)), (1, .long p1)]) hx hb dX5_sellerCalled_1 rfl hl (by decide) rfl (fun ls hl => ?_)
  exact L_X5_sellerCalled_2 l hN hT cx ho _ hf eM fr hp (lv_sub hl [1, 2, 0] rfl)
abbrev rm_X5_stallCalled : Room := { frames := 0, cells := 0, slots := 0, locals := 0 }
set_option maxRecDepth 100000 in
set_option maxHeartbeats 4000000 in
theorem L_X5_stallCalled_2 {p : Program} {e : Env} {s : State} {m : MethodId} {args : Array Value} {below : List Frame} {meth : Method} {c : Code} (l : Launch) {E : Ev} (hN : 129 ≤ eN E) (hT : St E) {σ : SM} (cx : Cx E p s m meth c args RX5 cX5_stallCalled 4 (some .int)) {o : Nat} (ho : o < 11) {x1 : Int64} {μ : OM} {rv : Int32} : ∀ (n : Nat) {x3 : Int32}, f_X5_stallCalled_2 x1 μ n x3 = some rv → ∀ {u : SM} {H : Heap} {locs : List Loc} {ls : Array Slot}, u o = μ → (∀ q, u q = σ q) → Hp E u s H locs → lv_has ls 4 [(0, .ref (adr E o 0)), (1, .long x1), (3, .int x3)] → W p l e rm_X5_stallCalled s m args below meth c H locs 0 0 (MQ below (va_Qi (fun r u => rv = r ∧ σ = u) (fun u t => Wu E u t) (eA E)) args s 0 0 (eA E)) (F0 m 2 ls []) := by
  have hx := cx.1.1
  have hb := cx.1.2.1
  intro n
  induction n with
  | zero =>
    intro x3 hf
    exact absurd hf (by simp [f_X5_stallCalled_2])
  | succ n ih =>
    intro x3 hf u H locs ls eM fr hp hl
    rw [f_X5_stallCalled_2] at hf
    refine lv_iload_n hx hb dX5_stallCalled_2 rfl (lv_at hl 2 rfl) ?_
    refine lv_aload_n hx hb dX5_stallCalled_3 rfl (lv_at hl 0 rfl) ?_
    refine gF_X5_15 ho eM hN cx hp dX5_stallCalled_4 ?_
    refine lv_icmp_ge (tgt := 29) hx hb dX5_stallCalled_7 (by decide) (fun c1 => ?_) (fun c1 => ?_)
    · have hf := fp hf c1
      refine lv_iconst (v := (-1)) hx hb dX5_stallCalled_29 (by decide) ?_
      cases hf
      exact r_i cx hp ⟨rfl, (funext fr).symm⟩ dX5_stallCalled_30
    · have hf := fn hf c1
      refine lv_aload_n hx hb dX5_stallCalled_10 rfl (lv_at hl 0 rfl) ?_
      refine gF_X5_62 ho rfl hN cx hp dX5_stallCalled_11 ?_
      refine lv_iload_n hx hb dX5_stallCalled_14 rfl (lv_at hl 2 rfl) ?_
      obtain ⟨g_i, hf⟩ := fg hf
      refine lA_X5_8 ho eM hN cx hp g_i dX5_stallCalled_15 ?_
      refine lv_lload_n hx hb dX5_stallCalled_16 rfl (lv_at hl 1 rfl) ?_
      refine W.lcmp hx hb dX5_stallCalled_17 ?_
      refine lv_if_ne (tgt := 23) hx hb dX5_stallCalled_18 (by decide) (fun c2 => ?_) (fun c2 => ?_)
      · have hf := fn hf c2
        refine lv_iinc (v := (x3 + 1)) (lv' := [(3, .int (x3 + 1)), (0, .ref (adr E o 0)), (1, .long x1)]) hx hb dX5_stallCalled_23 hl (k := 2) rfl rfl (by decide) rfl (fun ls hl => ?_)
        refine lv_goto (tgt := 2) hx hb dX5_stallCalled_26 (by decide) ?_
        exact ih  hf eM fr hp (lv_sub hl [1, 2, 0] rfl)
      · have hf := fp hf c2
        refine lv_iload_n hx hb dX5_stallCalled_21 rfl (lv_at hl 2 rfl) ?_
        cases hf
        exact r_i cx hp ⟨rfl, (funext fr).symm⟩ dX5_stallCalled_22
set_option maxRecDepth 100000 in
set_option maxHeartbeats 4000000 in
theorem c_X5_stallCalled (l : Launch) {E : Ev} (hN : 129 ≤ eN E) (hT : St E) {σ : SM} {o : Nat} {μ : OM} (ho : o < 11) (eM : σ o = μ) {p1 : Int64} {rv : Int32} (hf : f_X5_stallCalled p1 μ = some rv) : Met l yX5_stallCalled (wC yX5_stallCalled cX5_stallCalled 4 (some .int)) rm_X5_stallCalled (va_Pc [.ref (adr E o 0), .long p1] (Wu E σ)) (va_Qi (fun r u => rv = r ∧ σ = u) (fun u t => Wu E u t) (eA E)) 0 0 (eA E) := by
  refine g_entry (lv := [(0, .ref (adr E o 0)), (1, .long p1)]) (by decide) (Nat.le_of_ble_eq_true rfl) rfl ?_
  intro p e s m below meth c cx hp ls hl
  have hx := cx.1.1
  have hb := cx.1.2.1
  have fr : ∀ q, σ q = σ q := fun _ => rfl
  unfold f_X5_stallCalled at hf
  refine lv_iconst (v := 0) hx hb dX5_stallCalled_0 (by decide) ?_
  refine lv_istore_n (lv' := [(3, .int 0), (0, .ref (adr E o 0)), (1, .long p1)]) hx hb dX5_stallCalled_1 rfl hl (by decide) rfl (fun ls hl => ?_)
  exact L_X5_stallCalled_2 l hN hT cx ho _ hf eM fr hp (lv_sub hl [1, 2, 0] rfl)
abbrev rm_X5_mayMoveInto : Room := { frames := 2, cells := 0, slots := 0, locals := 42 }
set_option maxRecDepth 100000 in
set_option maxHeartbeats 4000000 in
theorem c_X5_mayMoveInto (l : Launch) {E : Ev} (hN : 129 ≤ eN E) (hT : St E) {σ : SM} {o : Nat} {μ : OM} (ho : o < 11) (eM : σ o = μ) {p1 : Int32} {p2 : Int32} {rv : Int32} (hf : f_X5_mayMoveInto p1 p2 μ = some rv) : Met l yX5_mayMoveInto (wC yX5_mayMoveInto cX5_mayMoveInto 3 (some .boolean)) rm_X5_mayMoveInto (va_Pc [.ref (adr E o 0), .int p1, .int p2] (Wu E σ)) (va_Qi (fun r u => rv = r ∧ σ = u) (fun u t => Wu E u t) (eA E)) 0 0 (eA E) := by
  refine g_entry (lv := [(0, .ref (adr E o 0)), (1, .int p1), (2, .int p2)]) (by decide) (Nat.le_of_ble_eq_true rfl) rfl ?_
  intro p e s m below meth c cx hp ls hl
  have hx := cx.1.1
  have hb := cx.1.2.1
  have fr : ∀ q, σ q = σ q := fun _ => rfl
  unfold f_X5_mayMoveInto at hf
  refine lv_aload_n hx hb dX5_mayMoveInto_0 rfl (lv_at hl 0 rfl) ?_
  refine lv_iload_n hx hb dX5_mayMoveInto_1 rfl (lv_at hl 2 rfl) ?_
  obtain ⟨r1, hc, hf⟩ := fb hf
  refine x_i hp (y_V (As := [.int p2]) (rest := []) cx hp hl (c_X5_holderOf l hN hT ho eM hc) (cw_X5_82 cx (mc := 0) (ms := 0) rfl rfl ⟨by decide, by decide⟩) (rC_X5 ho hN cx hp) rfl rfl (Nat.le_of_ble_eq_true rfl) dX5_mayMoveInto_2 ⟨Nat.zero_le _, Nat.zero_le _⟩) (fun r_c u_c H locs hq hp => ?_)
  obtain ⟨rfl, rfl⟩ := hq
  refine lv_iconst (v := (-1)) hx hb dX5_mayMoveInto_5 (by decide) ?_
  refine lv_icmp_ne (tgt := 26) hx hb dX5_mayMoveInto_6 (by decide) (fun c2 => ?_) (fun c2 => ?_)
  · have hf := fn hf c2
    refine lv_iconst (v := 0) hx hb dX5_mayMoveInto_26 (by decide) ?_
    cases hf
    exact r_z cx hp rfl ⟨rfl, (funext fr).symm⟩ dX5_mayMoveInto_27
  · have hf := fp hf c2
    refine lv_aload_n hx hb dX5_mayMoveInto_9 rfl (lv_at hl 0 rfl) ?_
    refine lv_iload_n hx hb dX5_mayMoveInto_10 rfl (lv_at hl 2 rfl) ?_
    obtain ⟨r3, hc, hf⟩ := fb hf
    refine x_i hp (y_V (As := [.int p2]) (rest := []) cx hp hl (c_X5_priceOf l hN hT ho eM hc) (cw_X5_86 cx (mc := 0) (ms := 0) rfl rfl ⟨by decide, by decide⟩) (rC_X5 ho hN cx hp) rfl rfl (Nat.le_of_ble_eq_true rfl) dX5_mayMoveInto_11 ⟨Nat.zero_le _, Nat.zero_le _⟩) (fun r_c u_c H locs hq hp => ?_)
    obtain ⟨rfl, rfl⟩ := hq
    refine lv_aload_n hx hb dX5_mayMoveInto_14 rfl (lv_at hl 0 rfl) ?_
    refine lv_iload_n hx hb dX5_mayMoveInto_15 rfl (lv_at hl 1 rfl) ?_
    obtain ⟨r4, hc, hf⟩ := fb hf
    refine x_i hp (y_V (As := [.int p1]) (rest := [.int r3]) cx hp hl (c_X5_coinsOf l hN hT ho eM hc) (cw_X5_89 cx (mc := 0) (ms := 0) rfl rfl ⟨by decide, by decide⟩) (rC_X5 ho hN cx hp) rfl rfl (Nat.le_of_ble_eq_true rfl) dX5_mayMoveInto_16 ⟨Nat.zero_le _, Nat.zero_le _⟩) (fun r_c u_c H locs hq hp => ?_)
    obtain ⟨rfl, rfl⟩ := hq
    refine lv_icmp_gt (tgt := 26) hx hb dX5_mayMoveInto_19 (by decide) (fun c5 => ?_) (fun c5 => ?_)
    · have hf := fp hf c5
      refine lv_iconst (v := 0) hx hb dX5_mayMoveInto_26 (by decide) ?_
      cases hf
      exact r_z cx hp rfl ⟨rfl, (funext fr).symm⟩ dX5_mayMoveInto_27
    · have hf := fn hf c5
      refine lv_iconst (v := 1) hx hb dX5_mayMoveInto_22 (by decide) ?_
      refine lv_goto (tgt := 27) hx hb dX5_mayMoveInto_23 (by decide) ?_
      cases hf
      exact r_z cx hp rfl ⟨rfl, (funext fr).symm⟩ dX5_mayMoveInto_27
abbrev rm_X5_exchange : Room := { frames := 2, cells := 0, slots := 0, locals := 43 }
set_option maxRecDepth 100000 in
set_option maxHeartbeats 4000000 in
theorem c_X5_exchange (l : Launch) {E : Ev} (hN : 129 ≤ eN E) (hT : St E) {σ : SM} {o : Nat} {μ : OM} (ho : o < 11) (eM : σ o = μ) {p1 : Int32} {p2 : Int32} {μ' : OM} (hf : f_X5_exchange p1 p2 μ = some μ') : Met l yX5_exchange (wC yX5_exchange cX5_exchange 4 none) rm_X5_exchange (va_Pc [.ref (adr E o 0), .int p1, .int p2] (Wu E σ)) (va_Qv (fun u => u o = μ' ∧ ∀ q, q ≠ o → u q = σ q) (fun u t => Wu E u t) (eA E)) 0 0 (eA E) := by
  refine g_entry (lv := [(0, .ref (adr E o 0)), (1, .int p1), (2, .int p2)]) (by decide) (Nat.le_of_ble_eq_true rfl) rfl ?_
  intro p e s m below meth c cx hp ls hl
  have hx := cx.1.1
  have hb := cx.1.2.1
  have fr : ∀ q, q ≠ o → σ q = σ q := fun _ _ => rfl
  unfold f_X5_exchange at hf
  refine lv_aload_n hx hb dX5_exchange_0 rfl (lv_at hl 0 rfl) ?_
  refine lv_iload_n hx hb dX5_exchange_1 rfl (lv_at hl 1 rfl) ?_
  obtain ⟨r1, hc, hf⟩ := fb hf
  refine x_i hp (y_V (As := [.int p1]) (rest := []) cx hp hl (c_X5_heldBy l hN hT ho eM hc) (cw_X5_92 cx (mc := 0) (ms := 0) rfl rfl ⟨by decide, by decide⟩) (rC_X5 ho hN cx hp) rfl rfl (Nat.le_of_ble_eq_true rfl) dX5_exchange_2 ⟨Nat.zero_le _, Nat.zero_le _⟩) (fun r_c u_c H locs hq hp => ?_)
  obtain ⟨rfl, rfl⟩ := hq
  refine lv_istore_n (lv' := [(3, .int r1), (0, .ref (adr E o 0)), (1, .int p1), (2, .int p2)]) hx hb dX5_exchange_5 rfl hl (by decide) rfl (fun ls hl => ?_)
  refine lv_aload_n hx hb dX5_exchange_6 rfl (lv_at hl 1 rfl) ?_
  refine lv_iload_n hx hb dX5_exchange_7 rfl (lv_at hl 2 rfl) ?_
  refine lv_aload_n hx hb dX5_exchange_8 rfl (lv_at hl 1 rfl) ?_
  refine lv_iload_n hx hb dX5_exchange_9 rfl (lv_at hl 3 rfl) ?_
  obtain ⟨r2, hc, hf⟩ := fb hf
  refine x_i hp (y_V (As := [.int p2]) (rest := [.int p1, .ref (adr E o 0)]) cx hp hl (c_X5_heldBy l hN hT ho eM hc) (cw_X5_92 cx (mc := 0) (ms := 0) rfl rfl ⟨by decide, by decide⟩) (rC_X5 ho hN cx hp) rfl rfl (Nat.le_of_ble_eq_true rfl) dX5_exchange_10 ⟨Nat.zero_le _, Nat.zero_le _⟩) (fun r_c u_c H locs hq hp => ?_)
  obtain ⟨rfl, rfl⟩ := hq
  obtain ⟨μ3, hc, hf⟩ := fb hf
  refine x_v hp (y_V (As := [.int p1, .int r2]) (rest := []) cx hp hl (c_X5_seat l hN hT ho eM hc) (cw_X5_95 cx (mc := 0) (ms := 0) rfl rfl ⟨by decide, by decide⟩) (rC_X5 ho hN cx hp) rfl rfl (Nat.le_of_ble_eq_true rfl) dX5_exchange_13 ⟨Nat.zero_le _, Nat.zero_le _⟩) (fun u_c H locs hq hp => ?_)
  obtain ⟨e_0, n_u⟩ := hq
  have eM := e_0
  have fr : ∀ q, q ≠ o → u_c q = σ q := fun q h0 => (n_u q h0).trans (fr q h0)
  obtain ⟨u, rfl⟩ : ∃ z, u_c = z := ⟨_, rfl⟩
  refine lv_aload_n hx hb dX5_exchange_16 rfl (lv_at hl 1 rfl) ?_
  refine lv_iload_n hx hb dX5_exchange_17 rfl (lv_at hl 3 rfl) ?_
  refine lv_iload_n hx hb dX5_exchange_18 rfl (lv_at hl 0 rfl) ?_
  obtain ⟨μ4, hc, hf⟩ := fb hf
  refine x_v hp (y_V (As := [.int p2, .int r1]) (rest := []) cx hp hl (c_X5_seat l hN hT ho eM hc) (cw_X5_95 cx (mc := 0) (ms := 0) rfl rfl ⟨by decide, by decide⟩) (rC_X5 ho hN cx hp) rfl rfl (Nat.le_of_ble_eq_true rfl) dX5_exchange_19 ⟨Nat.zero_le _, Nat.zero_le _⟩) (fun u_c H locs hq hp => ?_)
  obtain ⟨e_0, n_u⟩ := hq
  have eM := e_0
  have fr : ∀ q, q ≠ o → u_c q = σ q := fun q h0 => (n_u q h0).trans (fr q h0)
  obtain ⟨u, rfl⟩ : ∃ z, u_c = z := ⟨_, rfl⟩
  refine lv_aload_n hx hb dX5_exchange_22 rfl (lv_at hl 1 rfl) ?_
  refine lv_dup hx hb dX5_exchange_23 rfl ?_
  refine gF_X5_27 ho eM hN cx hp dX5_exchange_24 ?_
  refine lv_iconst (v := 1) hx hb dX5_exchange_27 (by decide) ?_
  refine lv_iadd hx hb dX5_exchange_28 ?_
  obtain ⟨μ5, e_l, hf⟩ := fl hf
  refine pF_X5_27 ho eM hN cx hp dX5_exchange_29 (fun u H locs e_u n_u hp => ?_)
  have eM := e_u.trans e_l
  have fr : ∀ q, q ≠ o → u q = σ q := fun q h0 => (n_u q h0).trans (fr q h0)
  cases hf
  exact r_v cx hp ⟨eM, fr⟩ dX5_exchange_32
abbrev rm_X5_moveTurn : Room := { frames := 2, cells := 0, slots := 0, locals := 42 }
set_option maxRecDepth 100000 in
set_option maxHeartbeats 4000000 in
theorem L_X5_moveTurn_9 {p : Program} {e : Env} {s : State} {m : MethodId} {args : Array Value} {below : List Frame} {meth : Method} {c : Code} (l : Launch) {E : Ev} (hN : 129 ≤ eN E) (hT : St E) {σ : SM} {Q : State → Prop} (cx : Cx E p s m meth c args RX5 cX5_moveTurn 5 none) {o : Nat} (ho : o < 11) {x3 : Int32} {x1 : Int32} {x2 : Int32} {μ' : OM} (K : ∀ (u : SM) (H : Heap) (locs : List Loc) (ls : Array Slot), u o = μ' → (∀ q, q ≠ o → u q = σ q) → Hp E u s H locs → lv_has ls 5 [(0, .ref (adr E o 0)), (1, .int x1), (2, .int x2)] → W p l e rm_X5_moveTurn s m args below meth c H locs 0 0 Q (F0 m 93 ls [])) : ∀ (n : Nat) {x4 : Int32} {μ : OM}, f_X5_moveTurn_9 x3 x2 n x4 μ = some μ' → ∀ {u : SM} {H : Heap} {locs : List Loc} {ls : Array Slot}, u o = μ → (∀ q, q ≠ o → u q = σ q) → Hp E u s H locs → lv_has ls 5 [(0, .ref (adr E o 0)), (1, .int x1), (2, .int x2), (3, .int x3), (4, .int x4)] → W p l e rm_X5_moveTurn s m args below meth c H locs 0 0 Q (F0 m 9 ls []) := by
  have hx := cx.1.1
  have hb := cx.1.2.1
  intro n
  induction n with
  | zero =>
    intro x4 μ hf
    exact absurd hf (by simp [f_X5_moveTurn_9])
  | succ n ih =>
    intro x4 μ hf u H locs ls eM fr hp hl
    rw [f_X5_moveTurn_9] at hf
    refine lv_iload hx hb dX5_moveTurn_9 (lv_at hl 4 rfl) ?_
    refine lv_aload_n hx hb dX5_moveTurn_11 rfl (lv_at hl 0 rfl) ?_
    refine gF_X5_9 ho eM hN cx hp dX5_moveTurn_12 ?_
    refine lv_icmp_ge (tgt := 93) hx hb dX5_moveTurn_15 (by decide) (fun c2 => ?_) (fun c2 => ?_)
    · have hf := fp hf c2
      cases hf
      exact K _ _ _ _ eM fr hp (lv_sub hl [0, 1, 2] rfl)
    · have hf := fn hf c2
      refine lv_aload_n hx hb dX5_moveTurn_18 rfl (lv_at hl 0 rfl) ?_
      refine gF_X5_53 ho rfl hN cx hp dX5_moveTurn_19 ?_
      refine lv_iload hx hb dX5_moveTurn_22 (lv_at hl 4 rfl) ?_
      obtain ⟨g_i, hf⟩ := fg hf
      refine lA_X5_5 ho eM hN cx hp g_i dX5_moveTurn_24 ?_
      refine lv_iload_n hx hb dX5_moveTurn_25 rfl (lv_at hl 3 rfl) ?_
      refine lv_icmp_le (tgt := 54) hx hb dX5_moveTurn_26 (by decide) (fun c3 => ?_) (fun c3 => ?_)
      · have hf := fp hf c3
        refine lv_aload_n hx hb dX5_moveTurn_54 rfl (lv_at hl 0 rfl) ?_
        refine gF_X5_53 ho rfl hN cx hp dX5_moveTurn_55 ?_
        refine lv_iload hx hb dX5_moveTurn_58 (lv_at hl 4 rfl) ?_
        obtain ⟨g_i, hf⟩ := fg hf
        refine lA_X5_5 ho eM hN cx hp g_i dX5_moveTurn_60 ?_
        refine lv_iload_n hx hb dX5_moveTurn_61 rfl (lv_at hl 3 rfl) ?_
        refine lv_icmp_ge (tgt := 87) hx hb dX5_moveTurn_62 (by decide) (fun c4 => ?_) (fun c4 => ?_)
        · have hf := fp hf c4
          refine lv_iinc (v := (x4 + 1)) (lv' := [(4, .int (x4 + 1)), (0, .ref (adr E o 0)), (1, .int x1), (2, .int x2), (3, .int x3)]) hx hb dX5_moveTurn_87 hl (k := 4) rfl rfl (by decide) rfl (fun ls hl => ?_)
          refine lv_goto (tgt := 9) hx hb dX5_moveTurn_90 (by decide) ?_
          exact ih  hf eM fr hp (lv_sub hl [1, 2, 3, 4, 0] rfl)
        · have hf := fn hf c4
          refine lv_aload_n hx hb dX5_moveTurn_65 rfl (lv_at hl 0 rfl) ?_
          refine gF_X5_53 ho rfl hN cx hp dX5_moveTurn_66 ?_
          refine lv_iload hx hb dX5_moveTurn_69 (lv_at hl 4 rfl) ?_
          obtain ⟨g_i, hf⟩ := fg hf
          refine lA_X5_5 ho eM hN cx hp g_i dX5_moveTurn_71 ?_
          refine lv_iload_n hx hb dX5_moveTurn_72 rfl (lv_at hl 2 rfl) ?_
          refine lv_icmp_lt (tgt := 87) hx hb dX5_moveTurn_73 (by decide) (fun c5 => ?_) (fun c5 => ?_)
          · have hf := fp hf c5
            refine lv_iinc (v := (x4 + 1)) (lv' := [(4, .int (x4 + 1)), (0, .ref (adr E o 0)), (1, .int x1), (2, .int x2), (3, .int x3)]) hx hb dX5_moveTurn_87 hl (k := 4) rfl rfl (by decide) rfl (fun ls hl => ?_)
            refine lv_goto (tgt := 9) hx hb dX5_moveTurn_90 (by decide) ?_
            exact ih  hf eM fr hp (lv_sub hl [1, 2, 3, 4, 0] rfl)
          · have hf := fn hf c5
            refine lv_aload_n hx hb dX5_moveTurn_76 rfl (lv_at hl 0 rfl) ?_
            refine gF_X5_53 ho rfl hN cx hp dX5_moveTurn_77 ?_
            refine lv_iload hx hb dX5_moveTurn_80 (lv_at hl 4 rfl) ?_
            refine lv_dup2_11 hx hb dX5_moveTurn_82 rfl rfl ?_
            obtain ⟨g_i, hf⟩ := fg hf
            refine lA_X5_5 ho eM hN cx hp g_i dX5_moveTurn_83 ?_
            refine lv_iconst (v := 1) hx hb dX5_moveTurn_84 (by decide) ?_
            refine lv_iadd hx hb dX5_moveTurn_85 ?_
            obtain ⟨g_i, hf⟩ := fg hf
            obtain ⟨μ6, e_l, hf⟩ := fl hf
            refine sA_X5_5 ho eM hN cx hp g_i dX5_moveTurn_86 (fun u H locs e_u n_u hp => ?_)
            have eM := e_u.trans e_l
            have fr : ∀ q, q ≠ o → u q = σ q := fun q h0 => (n_u q h0).trans (fr q h0)
            refine lv_iinc (v := (x4 + 1)) (lv' := [(4, .int (x4 + 1)), (0, .ref (adr E o 0)), (1, .int x1), (2, .int x2), (3, .int x3)]) hx hb dX5_moveTurn_87 hl (k := 4) rfl rfl (by decide) rfl (fun ls hl => ?_)
            refine lv_goto (tgt := 9) hx hb dX5_moveTurn_90 (by decide) ?_
            exact ih  hf eM fr hp (lv_sub hl [1, 2, 3, 4, 0] rfl)
      · have hf := fn hf c3
        refine lv_aload_n hx hb dX5_moveTurn_29 rfl (lv_at hl 0 rfl) ?_
        refine gF_X5_53 ho rfl hN cx hp dX5_moveTurn_30 ?_
        refine lv_iload hx hb dX5_moveTurn_33 (lv_at hl 4 rfl) ?_
        obtain ⟨g_i, hf⟩ := fg hf
        refine lA_X5_5 ho eM hN cx hp g_i dX5_moveTurn_35 ?_
        refine lv_iload_n hx hb dX5_moveTurn_36 rfl (lv_at hl 2 rfl) ?_
        refine lv_icmp_gt (tgt := 54) hx hb dX5_moveTurn_37 (by decide) (fun c7 => ?_) (fun c7 => ?_)
        · have hf := fp hf c7
          refine lv_aload_n hx hb dX5_moveTurn_54 rfl (lv_at hl 0 rfl) ?_
          refine gF_X5_53 ho rfl hN cx hp dX5_moveTurn_55 ?_
          refine lv_iload hx hb dX5_moveTurn_58 (lv_at hl 4 rfl) ?_
          obtain ⟨g_i, hf⟩ := fg hf
          refine lA_X5_5 ho eM hN cx hp g_i dX5_moveTurn_60 ?_
          refine lv_iload_n hx hb dX5_moveTurn_61 rfl (lv_at hl 3 rfl) ?_
          refine lv_icmp_ge (tgt := 87) hx hb dX5_moveTurn_62 (by decide) (fun c8 => ?_) (fun c8 => ?_)
          · have hf := fp hf c8
            refine lv_iinc (v := (x4 + 1)) (lv' := [(4, .int (x4 + 1)), (0, .ref (adr E o 0)), (1, .int x1), (2, .int x2), (3, .int x3)]) hx hb dX5_moveTurn_87 hl (k := 4) rfl rfl (by decide) rfl (fun ls hl => ?_)
            refine lv_goto (tgt := 9) hx hb dX5_moveTurn_90 (by decide) ?_
            exact ih  hf eM fr hp (lv_sub hl [1, 2, 3, 4, 0] rfl)
          · have hf := fn hf c8
            refine lv_aload_n hx hb dX5_moveTurn_65 rfl (lv_at hl 0 rfl) ?_
            refine gF_X5_53 ho rfl hN cx hp dX5_moveTurn_66 ?_
            refine lv_iload hx hb dX5_moveTurn_69 (lv_at hl 4 rfl) ?_
            obtain ⟨g_i, hf⟩ := fg hf
            refine lA_X5_5 ho eM hN cx hp g_i dX5_moveTurn_71 ?_
            refine lv_iload_n hx hb dX5_moveTurn_72 rfl (lv_at hl 2 rfl) ?_
            refine lv_icmp_lt (tgt := 87) hx hb dX5_moveTurn_73 (by decide) (fun c9 => ?_) (fun c9 => ?_)
            · have hf := fp hf c9
              refine lv_iinc (v := (x4 + 1)) (lv' := [(4, .int (x4 + 1)), (0, .ref (adr E o 0)), (1, .int x1), (2, .int x2), (3, .int x3)]) hx hb dX5_moveTurn_87 hl (k := 4) rfl rfl (by decide) rfl (fun ls hl => ?_)
              refine lv_goto (tgt := 9) hx hb dX5_moveTurn_90 (by decide) ?_
              exact ih  hf eM fr hp (lv_sub hl [1, 2, 3, 4, 0] rfl)
            · have hf := fn hf c9
              refine lv_aload_n hx hb dX5_moveTurn_76 rfl (lv_at hl 0 rfl) ?_
              refine gF_X5_53 ho rfl hN cx hp dX5_moveTurn_77 ?_
              refine lv_iload hx hb dX5_moveTurn_80 (lv_at hl 4 rfl) ?_
              refine lv_dup2_11 hx hb dX5_moveTurn_82 rfl rfl ?_
              obtain ⟨g_i, hf⟩ := fg hf
              refine lA_X5_5 ho eM hN cx hp g_i dX5_moveTurn_83 ?_
              refine lv_iconst (v := 1) hx hb dX5_moveTurn_84 (by decide) ?_
              refine lv_iadd hx hb dX5_moveTurn_85 ?_
              obtain ⟨g_i, hf⟩ := fg hf
              obtain ⟨μ10, e_l, hf⟩ := fl hf
              refine sA_X5_5 ho eM hN cx hp g_i dX5_moveTurn_86 (fun u H locs e_u n_u hp => ?_)
              have eM := e_u.trans e_l
              have fr : ∀ q, q ≠ o → u q = σ q := fun q h0 => (n_u q h0).trans (fr q h0)
              refine lv_iinc (v := (x4 + 1)) (lv' := [(4, .int (x4 + 1)), (0, .ref (adr E o 0)), (1, .int x1), (2, .int x2), (3, .int x3)]) hx hb dX5_moveTurn_87 hl (k := 4) rfl rfl (by decide) rfl (fun ls hl => ?_)
              refine lv_goto (tgt := 9) hx hb dX5_moveTurn_90 (by decide) ?_
              exact ih  hf eM fr hp (lv_sub hl [1, 2, 3, 4, 0] rfl)
        · have hf := fn hf c7
          refine lv_aload_n hx hb dX5_moveTurn_40 rfl (lv_at hl 0 rfl) ?_
          refine gF_X5_53 ho rfl hN cx hp dX5_moveTurn_41 ?_
          refine lv_iload hx hb dX5_moveTurn_44 (lv_at hl 4 rfl) ?_
          refine lv_dup2_11 hx hb dX5_moveTurn_46 rfl rfl ?_
          obtain ⟨g_i, hf⟩ := fg hf
          refine lA_X5_5 ho eM hN cx hp g_i dX5_moveTurn_47 ?_
          refine lv_iconst (v := 1) hx hb dX5_moveTurn_48 (by decide) ?_
          refine lv_isub hx hb dX5_moveTurn_49 ?_
          obtain ⟨g_i, hf⟩ := fg hf
          obtain ⟨μ11, e_l, hf⟩ := fl hf
          refine sA_X5_5 ho eM hN cx hp g_i dX5_moveTurn_50 (fun u H locs e_u n_u hp => ?_)
          have eM := e_u.trans e_l
          have fr : ∀ q, q ≠ o → u q = σ q := fun q h0 => (n_u q h0).trans (fr q h0)
          refine lv_goto (tgt := 87) hx hb dX5_moveTurn_51 (by decide) ?_
          refine lv_iinc (v := (x4 + 1)) (lv' := [(4, .int (x4 + 1)), (0, .ref (adr E o 0)), (1, .int x1), (2, .int x2), (3, .int x3)]) hx hb dX5_moveTurn_87 hl (k := 4) rfl rfl (by decide) rfl (fun ls hl => ?_)
          refine lv_goto (tgt := 9) hx hb dX5_moveTurn_90 (by decide) ?_
          exact ih  hf eM fr hp (lv_sub hl [1, 2, 3, 4, 0] rfl)
set_option maxRecDepth 100000 in
set_option maxHeartbeats 4000000 in
theorem c_X5_moveTurn (l : Launch) {E : Ev} (hN : 129 ≤ eN E) (hT : St E) {σ : SM} {o : Nat} {μ : OM} (ho : o < 11) (eM : σ o = μ) {p1 : Int32} {p2 : Int32} {μ' : OM} (hf : f_X5_moveTurn p1 p2 μ = some μ') : Met l yX5_moveTurn (wC yX5_moveTurn cX5_moveTurn 5 none) rm_X5_moveTurn (va_Pc [.ref (adr E o 0), .int p1, .int p2] (Wu E σ)) (va_Qv (fun u => u o = μ' ∧ ∀ q, q ≠ o → u q = σ q) (fun u t => Wu E u t) (eA E)) 0 0 (eA E) := by
  refine g_entry (lv := [(0, .ref (adr E o 0)), (1, .int p1), (2, .int p2)]) (by decide) (Nat.le_of_ble_eq_true rfl) rfl ?_
  intro p e s m below meth c cx hp ls hl
  have hx := cx.1.1
  have hb := cx.1.2.1
  have fr : ∀ q, q ≠ o → σ q = σ q := fun _ _ => rfl
  unfold f_X5_moveTurn at hf
  refine lv_aload_n hx hb dX5_moveTurn_0 rfl (lv_at hl 0 rfl) ?_
  refine lv_iload_n hx hb dX5_moveTurn_1 rfl (lv_at hl 1 rfl) ?_
  obtain ⟨r1, hc, hf⟩ := fb hf
  refine x_i hp (y_V (As := [.int p1]) (rest := []) cx hp hl (c_X5_turnOf l hN hT ho eM hc) (cw_X5_99 cx (mc := 0) (ms := 0) rfl rfl ⟨by decide, by decide⟩) (rC_X5 ho hN cx hp) rfl rfl (Nat.le_of_ble_eq_true rfl) dX5_moveTurn_2 ⟨Nat.zero_le _, Nat.zero_le _⟩) (fun r_c u_c H locs hq hp => ?_)
  obtain ⟨rfl, rfl⟩ := hq
  refine lv_istore_n (lv' := [(3, .int r1), (0, .ref (adr E o 0)), (1, .int p1), (2, .int p2)]) hx hb dX5_moveTurn_5 rfl hl (by decide) rfl (fun ls hl => ?_)
  refine lv_iconst (v := 0) hx hb dX5_moveTurn_6 (by decide) ?_
  refine lv_istore (lv' := [(4, .int 0), (3, .int r1), (0, .ref (adr E o 0)), (1, .int p1), (2, .int p2)]) hx hb dX5_moveTurn_7 hl (by decide) rfl (fun ls hl => ?_)
  obtain ⟨μ12, hc, hf⟩ := fb hf
  refine L_X5_moveTurn_9 l hN hT cx ho (fun u H locs ls eM fr hp hl => ?_) _ hc eM fr hp (lv_sub hl [2, 3, 4, 1, 0] rfl)
  refine lv_aload_n hx hb dX5_moveTurn_93 rfl (lv_at hl 0 rfl) ?_
  refine lv_iload_n hx hb dX5_moveTurn_94 rfl (lv_at hl 1 rfl) ?_
  obtain ⟨r13, hc, hf⟩ := fb hf
  refine x_i hp (y_V (As := [.int p1]) (rest := []) cx hp hl (c_X5_hasSeller l hN hT ho eM hc) (cw_X5_68 cx (mc := 0) (ms := 0) rfl rfl ⟨by decide, by decide⟩) (rC_X5 ho hN cx hp) rfl rfl (Nat.le_of_ble_eq_true rfl) dX5_moveTurn_95 ⟨Nat.zero_le _, Nat.zero_le _⟩) (fun r_c u_c H locs hq hp => ?_)
  obtain ⟨rfl, rfl⟩ := hq
  refine lv_if_eq (tgt := 108) hx hb dX5_moveTurn_98 (by decide) (fun c14 => ?_) (fun c14 => ?_)
  · have hf := fp hf c14
    cases hf
    exact r_v cx hp ⟨eM, fr⟩ dX5_moveTurn_108
  · have hf := fn hf c14
    refine lv_aload_n hx hb dX5_moveTurn_101 rfl (lv_at hl 0 rfl) ?_
    refine gF_X5_53 ho rfl hN cx hp dX5_moveTurn_102 ?_
    refine lv_iload_n hx hb dX5_moveTurn_105 rfl (lv_at hl 1 rfl) ?_
    refine lv_iload_n hx hb dX5_moveTurn_106 rfl (lv_at hl 2 rfl) ?_
    obtain ⟨g_i, hf⟩ := fg hf
    obtain ⟨μ15, e_l, hf⟩ := fl hf
    refine sA_X5_5 ho eM hN cx hp g_i dX5_moveTurn_107 (fun u H locs e_u n_u hp => ?_)
    have eM := e_u.trans e_l
    have fr : ∀ q, q ≠ o → u q = σ q := fun q h0 => (n_u q h0).trans (fr q h0)
    cases hf
    exact r_v cx hp ⟨eM, fr⟩ dX5_moveTurn_108
abbrev rm_X5_wishLast : Room := { frames := 2, cells := 0, slots := 0, locals := 42 }
set_option maxRecDepth 100000 in
set_option maxHeartbeats 4000000 in
theorem c_X5_wishLast (l : Launch) {E : Ev} (hN : 129 ≤ eN E) (hT : St E) {σ : SM} {o : Nat} {μ : OM} (ho : o < 11) (eM : σ o = μ) {p1 : Int32} {p2 : Int32} {μ' : OM} (hf : f_X5_wishLast p1 p2 μ = some μ') : Met l yX5_wishLast (wC yX5_wishLast cX5_wishLast 4 none) rm_X5_wishLast (va_Pc [.ref (adr E o 0), .int p1, .int p2] (Wu E σ)) (va_Qv (fun u => u o = μ' ∧ ∀ q, q ≠ o → u q = σ q) (fun u t => Wu E u t) (eA E)) 0 0 (eA E) := by
  refine g_entry (lv := [(0, .ref (adr E o 0)), (1, .int p1), (2, .int p2)]) (by decide) (Nat.le_of_ble_eq_true rfl) rfl ?_
  intro p e s m below meth c cx hp ls hl
  have hx := cx.1.1
  have hb := cx.1.2.1
  have fr : ∀ q, q ≠ o → σ q = σ q := fun _ _ => rfl
  unfold f_X5_wishLast at hf
  refine lv_aload_n hx hb dX5_wishLast_0 rfl (lv_at hl 0 rfl) ?_
  refine lv_iload_n hx hb dX5_wishLast_1 rfl (lv_at hl 1 rfl) ?_
  obtain ⟨r1, hc, hf⟩ := fb hf
  refine x_i hp (y_V (As := [.int p1]) (rest := []) cx hp hl (c_X5_wishesOf l hN hT ho eM hc) (cw_X5_102 cx (mc := 0) (ms := 0) rfl rfl ⟨by decide, by decide⟩) (rC_X5 ho hN cx hp) rfl rfl (Nat.le_of_ble_eq_true rfl) dX5_wishLast_2 ⟨Nat.zero_le _, Nat.zero_le _⟩) (fun r_c u_c H locs hq hp => ?_)
  obtain ⟨rfl, rfl⟩ := hq
  refine lv_istore_n (lv' := [(3, .int r1), (0, .ref (adr E o 0)), (1, .int p1), (2, .int p2)]) hx hb dX5_wishLast_5 rfl hl (by decide) rfl (fun ls hl => ?_)
  refine lv_aload_n hx hb dX5_wishLast_6 rfl (lv_at hl 1 rfl) ?_
  refine lv_iload_n hx hb dX5_wishLast_7 rfl (lv_at hl 2 rfl) ?_
  obtain ⟨r2, hc, hf⟩ := fb hf
  refine x_i hp (y_V (As := [.int p1]) (rest := []) cx hp hl (c_X5_hasSeller l hN hT ho eM hc) (cw_X5_68 cx (mc := 0) (ms := 0) rfl rfl ⟨by decide, by decide⟩) (rC_X5 ho hN cx hp) rfl rfl (Nat.le_of_ble_eq_true rfl) dX5_wishLast_8 ⟨Nat.zero_le _, Nat.zero_le _⟩) (fun r_c u_c H locs hq hp => ?_)
  obtain ⟨rfl, rfl⟩ := hq
  refine lv_if_eq (tgt := 41) hx hb dX5_wishLast_11 (by decide) (fun c3 => ?_) (fun c3 => ?_)
  · have hf := fp hf c3
    cases hf
    exact r_v cx hp ⟨eM, fr⟩ dX5_wishLast_41
  · have hf := fn hf c3
    refine lv_iload_n hx hb dX5_wishLast_14 rfl (lv_at hl 0 rfl) ?_
    refine lv_bipush (v := 8) hx hb dX5_wishLast_15 (by decide) ?_
    refine lv_icmp_ge (tgt := 41) hx hb dX5_wishLast_17 (by decide) (fun c4 => ?_) (fun c4 => ?_)
    · have hf := fp hf c4
      cases hf
      exact r_v cx hp ⟨eM, fr⟩ dX5_wishLast_41
    · have hf := fn hf c4
      refine lv_aload_n hx hb dX5_wishLast_20 rfl (lv_at hl 1 rfl) ?_
      refine gF_X5_59 ho rfl hN cx hp dX5_wishLast_21 ?_
      refine lv_iload_n hx hb dX5_wishLast_24 rfl (lv_at hl 2 rfl) ?_
      refine lv_bipush (v := 8) hx hb dX5_wishLast_25 (by decide) ?_
      refine lv_imul hx hb dX5_wishLast_27 ?_
      refine lv_iload_n hx hb dX5_wishLast_28 rfl (lv_at hl 0 rfl) ?_
      refine lv_iadd hx hb dX5_wishLast_29 ?_
      refine lv_iload_n hx hb dX5_wishLast_30 rfl (lv_at hl 3 rfl) ?_
      obtain ⟨g_i, hf⟩ := fg hf
      obtain ⟨μ5, e_l, hf⟩ := fl hf
      refine sA_X5_7 ho eM hN cx hp g_i dX5_wishLast_31 (fun u H locs e_u n_u hp => ?_)
      have eM := e_u.trans e_l
      have fr : ∀ q, q ≠ o → u q = σ q := fun q h0 => (n_u q h0).trans (fr q h0)
      refine lv_aload_n hx hb dX5_wishLast_32 rfl (lv_at hl 1 rfl) ?_
      refine gF_X5_56 ho rfl hN cx hp dX5_wishLast_33 ?_
      refine lv_iload_n hx hb dX5_wishLast_36 rfl (lv_at hl 2 rfl) ?_
      refine lv_iload_n hx hb dX5_wishLast_37 rfl (lv_at hl 0 rfl) ?_
      refine lv_iconst (v := 1) hx hb dX5_wishLast_38 (by decide) ?_
      refine lv_iadd hx hb dX5_wishLast_39 ?_
      obtain ⟨g_i, hf⟩ := fg hf
      obtain ⟨μ6, e_l, hf⟩ := fl hf
      refine sA_X5_6 ho eM hN cx hp g_i dX5_wishLast_40 (fun u H locs e_u n_u hp => ?_)
      have eM := e_u.trans e_l
      have fr : ∀ q, q ≠ o → u q = σ q := fun q h0 => (n_u q h0).trans (fr q h0)
      cases hf
      exact r_v cx hp ⟨eM, fr⟩ dX5_wishLast_41
abbrev rm_X5_dropWish : Room := { frames := 1, cells := 0, slots := 0, locals := 23 }
set_option maxRecDepth 100000 in
set_option maxHeartbeats 4000000 in
theorem L_X5_dropWish_34 {p : Program} {e : Env} {s : State} {m : MethodId} {args : Array Value} {below : List Frame} {meth : Method} {c : Code} (l : Launch) {E : Ev} (hN : 129 ≤ eN E) (hT : St E) {σ : SM} (cx : Cx E p s m meth c args RX5 cX5_dropWish 7 none) {o : Nat} (ho : o < 11) {x4 : Int32} {x1 : Int32} {μ' : OM} : ∀ (n : Nat) {x5 : Int32} {μ : OM}, f_X5_dropWish_34 x4 x1 n x5 μ = some μ' → ∀ {u : SM} {H : Heap} {locs : List Loc} {ls : Array Slot}, u o = μ → (∀ q, q ≠ o → u q = σ q) → Hp E u s H locs → lv_has ls 7 [(0, .ref (adr E o 0)), (1, .int x1), (4, .int x4), (5, .int x5)] → W p l e rm_X5_dropWish s m args below meth c H locs 0 0 (MQ below (va_Qv (fun u => u o = μ' ∧ ∀ q, q ≠ o → u q = σ q) (fun u t => Wu E u t) (eA E)) args s 0 0 (eA E)) (F0 m 34 ls []) := by
  have hx := cx.1.1
  have hb := cx.1.2.1
  intro n
  induction n with
  | zero =>
    intro x5 μ hf
    exact absurd hf (by simp [f_X5_dropWish_34])
  | succ n ih =>
    intro x5 μ hf u H locs ls eM fr hp hl
    rw [f_X5_dropWish_34] at hf
    refine lv_iload hx hb dX5_dropWish_34 (lv_at hl 3 rfl) ?_
    refine lv_iload hx hb dX5_dropWish_36 (lv_at hl 2 rfl) ?_
    refine lv_icmp_ge (tgt := 72) hx hb dX5_dropWish_38 (by decide) (fun c6 => ?_) (fun c6 => ?_)
    · have hf := fp hf c6
      refine lv_aload_n hx hb dX5_dropWish_72 rfl (lv_at hl 0 rfl) ?_
      refine gF_X5_56 ho rfl hN cx hp dX5_dropWish_73 ?_
      refine lv_iload_n hx hb dX5_dropWish_76 rfl (lv_at hl 1 rfl) ?_
      refine lv_iload hx hb dX5_dropWish_77 (lv_at hl 2 rfl) ?_
      obtain ⟨g_i, hf⟩ := fg hf
      obtain ⟨μ7, e_l, hf⟩ := fl hf
      refine sA_X5_6 ho eM hN cx hp g_i dX5_dropWish_79 (fun u H locs e_u n_u hp => ?_)
      have eM := e_u.trans e_l
      have fr : ∀ q, q ≠ o → u q = σ q := fun q h0 => (n_u q h0).trans (fr q h0)
      cases hf
      exact r_v cx hp ⟨eM, fr⟩ dX5_dropWish_80
    · have hf := fn hf c6
      refine lv_iload_n hx hb dX5_dropWish_41 rfl (lv_at hl 1 rfl) ?_
      refine lv_bipush (v := 8) hx hb dX5_dropWish_42 (by decide) ?_
      refine lv_imul hx hb dX5_dropWish_44 ?_
      refine lv_iload hx hb dX5_dropWish_45 (lv_at hl 3 rfl) ?_
      refine lv_iadd hx hb dX5_dropWish_47 ?_
      obtain ⟨i8, x_e, hf⟩ := fl hf
      refine lv_nm x_e ?_
      refine lv_istore (lv' := [(6, .int i8), (0, .ref (adr E o 0)), (1, .int x1), (4, .int x4), (5, .int x5)]) hx hb dX5_dropWish_48 hl (by decide) rfl (fun ls hl => ?_)
      refine lv_aload_n hx hb dX5_dropWish_50 rfl (lv_at hl 1 rfl) ?_
      refine gF_X5_59 ho rfl hN cx hp dX5_dropWish_51 ?_
      refine lv_iload hx hb dX5_dropWish_54 (lv_at hl 0 rfl) ?_
      refine lv_aload_n hx hb dX5_dropWish_56 rfl (lv_at hl 1 rfl) ?_
      refine gF_X5_59 ho rfl hN cx hp dX5_dropWish_57 ?_
      refine lv_iload hx hb dX5_dropWish_60 (lv_at hl 0 rfl) ?_
      refine lv_iconst (v := 1) hx hb dX5_dropWish_62 (by decide) ?_
      refine lv_iadd hx hb dX5_dropWish_63 ?_
      obtain ⟨g_i, hf⟩ := fg hf
      refine lA_X5_7 ho eM hN cx hp g_i dX5_dropWish_64 ?_
      obtain ⟨g_i, hf⟩ := fg hf
      obtain ⟨μ9, e_l, hf⟩ := fl hf
      refine sA_X5_7 ho eM hN cx hp g_i dX5_dropWish_65 (fun u H locs e_u n_u hp => ?_)
      have eM := e_u.trans e_l
      have fr : ∀ q, q ≠ o → u q = σ q := fun q h0 => (n_u q h0).trans (fr q h0)
      refine lv_iinc (v := (x5 + 1)) (lv' := [(5, .int (x5 + 1)), (6, .int i8), (0, .ref (adr E o 0)), (1, .int x1), (4, .int x4)]) hx hb dX5_dropWish_66 hl (k := 4) rfl rfl (by decide) rfl (fun ls hl => ?_)
      refine lv_goto (tgt := 34) hx hb dX5_dropWish_69 (by decide) ?_
      exact ih  hf eM fr hp (lv_sub hl [2, 3, 4, 0] rfl)
set_option maxRecDepth 100000 in
set_option maxHeartbeats 4000000 in
theorem c_X5_dropWish (l : Launch) {E : Ev} (hN : 129 ≤ eN E) (hT : St E) {σ : SM} {o : Nat} {μ : OM} (ho : o < 11) (eM : σ o = μ) {p1 : Int32} {p2 : Int32} {μ' : OM} (hf : f_X5_dropWish p1 p2 μ = some μ') : Met l yX5_dropWish (wC yX5_dropWish cX5_dropWish 7 none) rm_X5_dropWish (va_Pc [.ref (adr E o 0), .int p1, .int p2] (Wu E σ)) (va_Qv (fun u => u o = μ' ∧ ∀ q, q ≠ o → u q = σ q) (fun u t => Wu E u t) (eA E)) 0 0 (eA E) := by
  refine g_entry (lv := [(0, .ref (adr E o 0)), (1, .int p1), (2, .int p2)]) (by decide) (Nat.le_of_ble_eq_true rfl) rfl ?_
  intro p e s m below meth c cx hp ls hl
  have hx := cx.1.1
  have hb := cx.1.2.1
  have fr : ∀ q, q ≠ o → σ q = σ q := fun _ _ => rfl
  unfold f_X5_dropWish at hf
  refine lv_aload_n hx hb dX5_dropWish_0 rfl (lv_at hl 0 rfl) ?_
  refine lv_iload_n hx hb dX5_dropWish_1 rfl (lv_at hl 1 rfl) ?_
  refine lv_iload_n hx hb dX5_dropWish_2 rfl (lv_at hl 2 rfl) ?_
  obtain ⟨r1, hc, hf⟩ := fb hf
  refine x_i hp (y_V (As := [.int p1, .int p2]) (rest := []) cx hp hl (c_X5_rankIn l hN hT ho eM hc) (cw_X5_79 cx (mc := 0) (ms := 0) rfl rfl ⟨by decide, by decide⟩) (rC_X5 ho hN cx hp) rfl rfl (Nat.le_of_ble_eq_true rfl) dX5_dropWish_3 ⟨Nat.zero_le _, Nat.zero_le _⟩) (fun r_c u_c H locs hq hp => ?_)
  obtain ⟨rfl, rfl⟩ := hq
  refine lv_istore_n (lv' := [(3, .int r1), (0, .ref (adr E o 0)), (1, .int p1), (2, .int p2)]) hx hb dX5_dropWish_6 rfl hl (by decide) rfl (fun ls hl => ?_)
  refine lv_aload_n hx hb dX5_dropWish_7 rfl (lv_at hl 1 rfl) ?_
  refine lv_iload_n hx hb dX5_dropWish_8 rfl (lv_at hl 2 rfl) ?_
  obtain ⟨r2, hc, hf⟩ := fb hf
  refine x_i hp (y_V (As := [.int p1]) (rest := []) cx hp hl (c_X5_hasSeller l hN hT ho eM hc) (cw_X5_68 cx (mc := 0) (ms := 0) rfl rfl ⟨by decide, by decide⟩) (rC_X5 ho hN cx hp) rfl rfl (Nat.le_of_ble_eq_true rfl) dX5_dropWish_9 ⟨Nat.zero_le _, Nat.zero_le _⟩) (fun r_c u_c H locs hq hp => ?_)
  obtain ⟨rfl, rfl⟩ := hq
  refine lv_if_eq (tgt := 20) hx hb dX5_dropWish_12 (by decide) (fun c3 => ?_) (fun c3 => ?_)
  · have hf := fp hf c3
    cases hf
    exact r_v cx hp ⟨eM, fr⟩ dX5_dropWish_20
  · have hf := fn hf c3
    refine lv_iload_n hx hb dX5_dropWish_15 rfl (lv_at hl 0 rfl) ?_
    refine lv_iconst (v := (-1)) hx hb dX5_dropWish_16 (by decide) ?_
    refine lv_icmp_ne (tgt := 21) hx hb dX5_dropWish_17 (by decide) (fun c4 => ?_) (fun c4 => ?_)
    · have hf := fn hf c4
      refine lv_aload_n hx hb dX5_dropWish_21 rfl (lv_at hl 1 rfl) ?_
      refine gF_X5_56 ho rfl hN cx hp dX5_dropWish_22 ?_
      refine lv_iload_n hx hb dX5_dropWish_25 rfl (lv_at hl 2 rfl) ?_
      obtain ⟨g_i, hf⟩ := fg hf
      refine lA_X5_6 ho eM hN cx hp g_i dX5_dropWish_26 ?_
      refine lv_iconst (v := 1) hx hb dX5_dropWish_27 (by decide) ?_
      refine lv_isub hx hb dX5_dropWish_28 ?_
      obtain ⟨i5, x_e, hf⟩ := fl hf
      refine lv_nm x_e ?_
      refine lv_istore (lv' := [(4, .int i5), (3, .int r1), (0, .ref (adr E o 0)), (1, .int p1), (2, .int p2)]) hx hb dX5_dropWish_29 hl (by decide) rfl (fun ls hl => ?_)
      refine lv_iload_n hx hb dX5_dropWish_31 rfl (lv_at hl 1 rfl) ?_
      refine lv_istore (lv' := [(5, .int r1), (4, .int i5), (3, .int r1), (0, .ref (adr E o 0)), (1, .int p1), (2, .int p2)]) hx hb dX5_dropWish_32 hl (by decide) rfl (fun ls hl => ?_)
      exact L_X5_dropWish_34 l hN hT cx ho _ hf eM fr hp (lv_sub hl [3, 4, 1, 0] rfl)
    · have hf := fp hf c4
      cases hf
      exact r_v cx hp ⟨eM, fr⟩ dX5_dropWish_20
abbrev rm_X5_wishFirst : Room := { frames := 2, cells := 0, slots := 0, locals := 49 }
set_option maxRecDepth 100000 in
set_option maxHeartbeats 4000000 in
theorem L_X5_wishFirst_30 {p : Program} {e : Env} {s : State} {m : MethodId} {args : Array Value} {below : List Frame} {meth : Method} {c : Code} (l : Launch) {E : Ev} (hN : 129 ≤ eN E) (hT : St E) {σ : SM} {Q : State → Prop} (cx : Cx E p s m meth c args RX5 cX5_wishFirst 6 none) {o : Nat} (ho : o < 11) {x3 : Int32} {x1 : Int32} {x2 : Int32} {μ' : OM} (K : ∀ (u : SM) (H : Heap) (locs : List Loc) (ls : Array Slot), u o = μ' → (∀ q, q ≠ o → u q = σ q) → Hp E u s H locs → lv_has ls 6 [(0, .ref (adr E o 0)), (1, .int x1), (2, .int x2), (3, .int x3)] → W p l e rm_X5_wishFirst s m args below meth c H locs 0 0 Q (F0 m 66 ls [])) : ∀ (n : Nat) {x4 : Int32} {μ : OM}, f_X5_wishFirst_30 x1 n x4 μ = some μ' → ∀ {u : SM} {H : Heap} {locs : List Loc} {ls : Array Slot}, u o = μ → (∀ q, q ≠ o → u q = σ q) → Hp E u s H locs → lv_has ls 6 [(0, .ref (adr E o 0)), (1, .int x1), (2, .int x2), (3, .int x3), (4, .int x4)] → W p l e rm_X5_wishFirst s m args below meth c H locs 0 0 Q (F0 m 30 ls []) := by
  have hx := cx.1.1
  have hb := cx.1.2.1
  intro n
  induction n with
  | zero =>
    intro x4 μ hf
    exact absurd hf (by simp [f_X5_wishFirst_30])
  | succ n ih =>
    intro x4 μ hf u H locs ls eM fr hp hl
    rw [f_X5_wishFirst_30] at hf
    refine lv_iload hx hb dX5_wishFirst_30 (lv_at hl 4 rfl) ?_
    refine lv_if_le (tgt := 66) hx hb dX5_wishFirst_32 (by decide) (fun c6 => ?_) (fun c6 => ?_)
    · have hf := fp hf c6
      cases hf
      exact K _ _ _ _ eM fr hp (lv_sub hl [0, 1, 2, 3] rfl)
    · have hf := fn hf c6
      refine lv_iload_n hx hb dX5_wishFirst_35 rfl (lv_at hl 1 rfl) ?_
      refine lv_bipush (v := 8) hx hb dX5_wishFirst_36 (by decide) ?_
      refine lv_imul hx hb dX5_wishFirst_38 ?_
      refine lv_iload hx hb dX5_wishFirst_39 (lv_at hl 4 rfl) ?_
      refine lv_iadd hx hb dX5_wishFirst_41 ?_
      obtain ⟨i7, x_e, hf⟩ := fl hf
      refine lv_nm x_e ?_
      refine lv_istore (lv' := [(5, .int i7), (0, .ref (adr E o 0)), (1, .int x1), (2, .int x2), (3, .int x3), (4, .int x4)]) hx hb dX5_wishFirst_42 hl (by decide) rfl (fun ls hl => ?_)
      refine lv_aload_n hx hb dX5_wishFirst_44 rfl (lv_at hl 1 rfl) ?_
      refine gF_X5_59 ho rfl hN cx hp dX5_wishFirst_45 ?_
      refine lv_iload hx hb dX5_wishFirst_48 (lv_at hl 0 rfl) ?_
      refine lv_aload_n hx hb dX5_wishFirst_50 rfl (lv_at hl 1 rfl) ?_
      refine gF_X5_59 ho rfl hN cx hp dX5_wishFirst_51 ?_
      refine lv_iload hx hb dX5_wishFirst_54 (lv_at hl 0 rfl) ?_
      refine lv_iconst (v := 1) hx hb dX5_wishFirst_56 (by decide) ?_
      refine lv_isub hx hb dX5_wishFirst_57 ?_
      obtain ⟨g_i, hf⟩ := fg hf
      refine lA_X5_7 ho eM hN cx hp g_i dX5_wishFirst_58 ?_
      obtain ⟨g_i, hf⟩ := fg hf
      obtain ⟨μ8, e_l, hf⟩ := fl hf
      refine sA_X5_7 ho eM hN cx hp g_i dX5_wishFirst_59 (fun u H locs e_u n_u hp => ?_)
      have eM := e_u.trans e_l
      have fr : ∀ q, q ≠ o → u q = σ q := fun q h0 => (n_u q h0).trans (fr q h0)
      refine lv_iinc (v := (x4 + (-1))) (lv' := [(4, .int (x4 + (-1))), (5, .int i7), (0, .ref (adr E o 0)), (1, .int x1), (2, .int x2), (3, .int x3)]) hx hb dX5_wishFirst_60 hl (k := 5) rfl rfl (by decide) rfl (fun ls hl => ?_)
      refine lv_goto (tgt := 30) hx hb dX5_wishFirst_63 (by decide) ?_
      exact ih  hf eM fr hp (lv_sub hl [2, 3, 4, 5, 0] rfl)
set_option maxRecDepth 100000 in
set_option maxHeartbeats 4000000 in
theorem c_X5_wishFirst (l : Launch) {E : Ev} (hN : 129 ≤ eN E) (hT : St E) {σ : SM} {o : Nat} {μ : OM} (ho : o < 11) (eM : σ o = μ) {p1 : Int32} {p2 : Int32} {μ' : OM} (hf : f_X5_wishFirst p1 p2 μ = some μ') : Met l yX5_wishFirst (wC yX5_wishFirst cX5_wishFirst 6 none) rm_X5_wishFirst (va_Pc [.ref (adr E o 0), .int p1, .int p2] (Wu E σ)) (va_Qv (fun u => u o = μ' ∧ ∀ q, q ≠ o → u q = σ q) (fun u t => Wu E u t) (eA E)) 0 0 (eA E) := by
  refine g_entry (lv := [(0, .ref (adr E o 0)), (1, .int p1), (2, .int p2)]) (by decide) (Nat.le_of_ble_eq_true rfl) rfl ?_
  intro p e s m below meth c cx hp ls hl
  have hx := cx.1.1
  have hb := cx.1.2.1
  have fr : ∀ q, q ≠ o → σ q = σ q := fun _ _ => rfl
  unfold f_X5_wishFirst at hf
  refine lv_aload_n hx hb dX5_wishFirst_0 rfl (lv_at hl 0 rfl) ?_
  refine lv_iload_n hx hb dX5_wishFirst_1 rfl (lv_at hl 1 rfl) ?_
  refine lv_iload_n hx hb dX5_wishFirst_2 rfl (lv_at hl 2 rfl) ?_
  obtain ⟨μ1, hc, hf⟩ := fb hf
  refine x_v hp (y_V (As := [.int p1, .int p2]) (rest := []) cx hp hl (c_X5_dropWish l hN hT ho eM hc) (cw_X5_105 cx (mc := 0) (ms := 0) rfl rfl ⟨by decide, by decide⟩) (rC_X5 ho hN cx hp) rfl rfl (Nat.le_of_ble_eq_true rfl) dX5_wishFirst_3 ⟨Nat.zero_le _, Nat.zero_le _⟩) (fun u_c H locs hq hp => ?_)
  obtain ⟨e_0, n_u⟩ := hq
  have eM := e_0
  have fr : ∀ q, q ≠ o → u_c q = σ q := fun q h0 => (n_u q h0).trans (fr q h0)
  obtain ⟨u, rfl⟩ : ∃ z, u_c = z := ⟨_, rfl⟩
  refine lv_aload_n hx hb dX5_wishFirst_6 rfl (lv_at hl 0 rfl) ?_
  refine lv_iload_n hx hb dX5_wishFirst_7 rfl (lv_at hl 1 rfl) ?_
  obtain ⟨r2, hc, hf⟩ := fb hf
  refine x_i hp (y_V (As := [.int p1]) (rest := []) cx hp hl (c_X5_wishesOf l hN hT ho eM hc) (cw_X5_102 cx (mc := 0) (ms := 0) rfl rfl ⟨by decide, by decide⟩) (rC_X5 ho hN cx hp) rfl rfl (Nat.le_of_ble_eq_true rfl) dX5_wishFirst_8 ⟨Nat.zero_le _, Nat.zero_le _⟩) (fun r_c u_c H locs hq hp => ?_)
  obtain ⟨rfl, rfl⟩ := hq
  refine lv_istore_n (lv' := [(3, .int r2), (0, .ref (adr E o 0)), (1, .int p1), (2, .int p2)]) hx hb dX5_wishFirst_11 rfl hl (by decide) rfl (fun ls hl => ?_)
  refine lv_aload_n hx hb dX5_wishFirst_12 rfl (lv_at hl 1 rfl) ?_
  refine lv_iload_n hx hb dX5_wishFirst_13 rfl (lv_at hl 2 rfl) ?_
  obtain ⟨r3, hc, hf⟩ := fb hf
  refine x_i hp (y_V (As := [.int p1]) (rest := []) cx hp hl (c_X5_hasSeller l hN hT ho eM hc) (cw_X5_68 cx (mc := 0) (ms := 0) rfl rfl ⟨by decide, by decide⟩) (rC_X5 ho hN cx hp) rfl rfl (Nat.le_of_ble_eq_true rfl) dX5_wishFirst_14 ⟨Nat.zero_le _, Nat.zero_le _⟩) (fun r_c u_c H locs hq hp => ?_)
  obtain ⟨rfl, rfl⟩ := hq
  refine lv_if_eq (tgt := 26) hx hb dX5_wishFirst_17 (by decide) (fun c4 => ?_) (fun c4 => ?_)
  · have hf := fp hf c4
    cases hf
    exact r_v cx hp ⟨eM, fr⟩ dX5_wishFirst_26
  · have hf := fn hf c4
    refine lv_iload_n hx hb dX5_wishFirst_20 rfl (lv_at hl 0 rfl) ?_
    refine lv_bipush (v := 8) hx hb dX5_wishFirst_21 (by decide) ?_
    refine lv_icmp_lt (tgt := 27) hx hb dX5_wishFirst_23 (by decide) (fun c5 => ?_) (fun c5 => ?_)
    · have hf := fp hf c5
      refine lv_iload_n hx hb dX5_wishFirst_27 rfl (lv_at hl 0 rfl) ?_
      refine lv_istore (lv' := [(4, .int r2), (3, .int r2), (0, .ref (adr E o 0)), (1, .int p1), (2, .int p2)]) hx hb dX5_wishFirst_28 hl (by decide) rfl (fun ls hl => ?_)
      obtain ⟨μ9, hc, hf⟩ := fb hf
      refine L_X5_wishFirst_30 l hN hT cx ho (fun u H locs ls eM fr hp hl => ?_) _ hc eM fr hp (lv_sub hl [2, 3, 4, 1, 0] rfl)
      refine lv_aload_n hx hb dX5_wishFirst_66 rfl (lv_at hl 0 rfl) ?_
      refine gF_X5_59 ho rfl hN cx hp dX5_wishFirst_67 ?_
      refine lv_iload_n hx hb dX5_wishFirst_70 rfl (lv_at hl 1 rfl) ?_
      refine lv_bipush (v := 8) hx hb dX5_wishFirst_71 (by decide) ?_
      refine lv_imul hx hb dX5_wishFirst_73 ?_
      refine lv_iload_n hx hb dX5_wishFirst_74 rfl (lv_at hl 2 rfl) ?_
      obtain ⟨g_i, hf⟩ := fg hf
      obtain ⟨μ10, e_l, hf⟩ := fl hf
      refine sA_X5_7 ho eM hN cx hp g_i dX5_wishFirst_75 (fun u H locs e_u n_u hp => ?_)
      have eM := e_u.trans e_l
      have fr : ∀ q, q ≠ o → u q = σ q := fun q h0 => (n_u q h0).trans (fr q h0)
      refine lv_aload_n hx hb dX5_wishFirst_76 rfl (lv_at hl 0 rfl) ?_
      refine gF_X5_56 ho rfl hN cx hp dX5_wishFirst_77 ?_
      refine lv_iload_n hx hb dX5_wishFirst_80 rfl (lv_at hl 1 rfl) ?_
      refine lv_iload_n hx hb dX5_wishFirst_81 rfl (lv_at hl 3 rfl) ?_
      refine lv_iconst (v := 1) hx hb dX5_wishFirst_82 (by decide) ?_
      refine lv_iadd hx hb dX5_wishFirst_83 ?_
      obtain ⟨g_i, hf⟩ := fg hf
      obtain ⟨μ11, e_l, hf⟩ := fl hf
      refine sA_X5_6 ho eM hN cx hp g_i dX5_wishFirst_84 (fun u H locs e_u n_u hp => ?_)
      have eM := e_u.trans e_l
      have fr : ∀ q, q ≠ o → u q = σ q := fun q h0 => (n_u q h0).trans (fr q h0)
      cases hf
      exact r_v cx hp ⟨eM, fr⟩ dX5_wishFirst_85
    · have hf := fn hf c5
      cases hf
      exact r_v cx hp ⟨eM, fr⟩ dX5_wishFirst_26
abbrev rm_X5_price : Room := { frames := 1, cells := 0, slots := 0, locals := 21 }
set_option maxRecDepth 100000 in
set_option maxHeartbeats 4000000 in
theorem c_X5_price (l : Launch) {E : Ev} (hN : 129 ≤ eN E) (hT : St E) {σ : SM} {o : Nat} {μ : OM} (ho : o < 11) (eM : σ o = μ) {p1 : Int32} {p2 : Int32} {μ' : OM} (hf : f_X5_price p1 p2 μ = some μ') : Met l yX5_price (wC yX5_price cX5_price 3 none) rm_X5_price (va_Pc [.ref (adr E o 0), .int p1, .int p2] (Wu E σ)) (va_Qv (fun u => u o = μ' ∧ ∀ q, q ≠ o → u q = σ q) (fun u t => Wu E u t) (eA E)) 0 0 (eA E) := by
  refine g_entry (lv := [(0, .ref (adr E o 0)), (1, .int p1), (2, .int p2)]) (by decide) (Nat.le_of_ble_eq_true rfl) rfl ?_
  intro p e s m below meth c cx hp ls hl
  have hx := cx.1.1
  have hb := cx.1.2.1
  have fr : ∀ q, q ≠ o → σ q = σ q := fun _ _ => rfl
  unfold f_X5_price at hf
  refine lv_aload_n hx hb dX5_price_0 rfl (lv_at hl 0 rfl) ?_
  refine lv_iload_n hx hb dX5_price_1 rfl (lv_at hl 1 rfl) ?_
  obtain ⟨r1, hc, hf⟩ := fb hf
  refine x_i hp (y_V (As := [.int p1]) (rest := []) cx hp hl (c_X5_hasStall l hN hT ho eM hc) (cw_X5_72 cx (mc := 0) (ms := 0) rfl rfl ⟨by decide, by decide⟩) (rC_X5 ho hN cx hp) rfl rfl (Nat.le_of_ble_eq_true rfl) dX5_price_2 ⟨Nat.zero_le _, Nat.zero_le _⟩) (fun r_c u_c H locs hq hp => ?_)
  obtain ⟨rfl, rfl⟩ := hq
  refine lv_if_eq (tgt := 15) hx hb dX5_price_5 (by decide) (fun c2 => ?_) (fun c2 => ?_)
  · have hf := fp hf c2
    cases hf
    exact r_v cx hp ⟨eM, fr⟩ dX5_price_15
  · have hf := fn hf c2
    refine lv_aload_n hx hb dX5_price_8 rfl (lv_at hl 0 rfl) ?_
    refine gF_X5_65 ho rfl hN cx hp dX5_price_9 ?_
    refine lv_iload_n hx hb dX5_price_12 rfl (lv_at hl 1 rfl) ?_
    refine lv_iload_n hx hb dX5_price_13 rfl (lv_at hl 2 rfl) ?_
    obtain ⟨g_i, hf⟩ := fg hf
    obtain ⟨μ3, e_l, hf⟩ := fl hf
    refine sA_X5_9 ho eM hN cx hp g_i dX5_price_14 (fun u H locs e_u n_u hp => ?_)
    have eM := e_u.trans e_l
    have fr : ∀ q, q ≠ o → u q = σ q := fun q h0 => (n_u q h0).trans (fr q h0)
    cases hf
    exact r_v cx hp ⟨eM, fr⟩ dX5_price_15
abbrev rm_X5_receive : Room := { frames := 1, cells := 0, slots := 0, locals := 21 }
set_option maxRecDepth 100000 in
set_option maxHeartbeats 4000000 in
theorem c_X5_receive (l : Launch) {E : Ev} (hN : 129 ≤ eN E) (hT : St E) {σ : SM} {o : Nat} {μ : OM} (ho : o < 11) (eM : σ o = μ) {p1 : Int32} {p2 : Int32} {μ' : OM} (hf : f_X5_receive p1 p2 μ = some μ') : Met l yX5_receive (wC yX5_receive cX5_receive 3 none) rm_X5_receive (va_Pc [.ref (adr E o 0), .int p1, .int p2] (Wu E σ)) (va_Qv (fun u => u o = μ' ∧ ∀ q, q ≠ o → u q = σ q) (fun u t => Wu E u t) (eA E)) 0 0 (eA E) := by
  refine g_entry (lv := [(0, .ref (adr E o 0)), (1, .int p1), (2, .int p2)]) (by decide) (Nat.le_of_ble_eq_true rfl) rfl ?_
  intro p e s m below meth c cx hp ls hl
  have hx := cx.1.1
  have hb := cx.1.2.1
  have fr : ∀ q, q ≠ o → σ q = σ q := fun _ _ => rfl
  unfold f_X5_receive at hf
  refine lv_aload_n hx hb dX5_receive_0 rfl (lv_at hl 0 rfl) ?_
  refine lv_iload_n hx hb dX5_receive_1 rfl (lv_at hl 1 rfl) ?_
  obtain ⟨r1, hc, hf⟩ := fb hf
  refine x_i hp (y_V (As := [.int p1]) (rest := []) cx hp hl (c_X5_hasSeller l hN hT ho eM hc) (cw_X5_68 cx (mc := 0) (ms := 0) rfl rfl ⟨by decide, by decide⟩) (rC_X5 ho hN cx hp) rfl rfl (Nat.le_of_ble_eq_true rfl) dX5_receive_2 ⟨Nat.zero_le _, Nat.zero_le _⟩) (fun r_c u_c H locs hq hp => ?_)
  obtain ⟨rfl, rfl⟩ := hq
  refine lv_if_eq (tgt := 28) hx hb dX5_receive_5 (by decide) (fun c2 => ?_) (fun c2 => ?_)
  · have hf := fp hf c2
    cases hf
    exact r_v cx hp ⟨eM, fr⟩ dX5_receive_28
  · have hf := fn hf c2
    refine lv_aload_n hx hb dX5_receive_8 rfl (lv_at hl 0 rfl) ?_
    refine gF_X5_43 ho rfl hN cx hp dX5_receive_9 ?_
    refine lv_iload_n hx hb dX5_receive_12 rfl (lv_at hl 1 rfl) ?_
    refine lv_dup2_11 hx hb dX5_receive_13 rfl rfl ?_
    obtain ⟨g_i, hf⟩ := fg hf
    refine lA_X5_2 ho eM hN cx hp g_i dX5_receive_14 ?_
    refine lv_iload_n hx hb dX5_receive_15 rfl (lv_at hl 2 rfl) ?_
    refine lv_iadd hx hb dX5_receive_16 ?_
    obtain ⟨g_i, hf⟩ := fg hf
    obtain ⟨μ3, e_l, hf⟩ := fl hf
    refine sA_X5_2 ho eM hN cx hp g_i dX5_receive_17 (fun u H locs e_u n_u hp => ?_)
    have eM := e_u.trans e_l
    have fr : ∀ q, q ≠ o → u q = σ q := fun q h0 => (n_u q h0).trans (fr q h0)
    refine lv_aload_n hx hb dX5_receive_18 rfl (lv_at hl 0 rfl) ?_
    refine lv_dup hx hb dX5_receive_19 rfl ?_
    refine gF_X5_36 ho eM hN cx hp dX5_receive_20 ?_
    refine lv_iload_n hx hb dX5_receive_23 rfl (lv_at hl 2 rfl) ?_
    refine lv_iadd hx hb dX5_receive_24 ?_
    obtain ⟨μ4, e_l, hf⟩ := fl hf
    refine pF_X5_36 ho eM hN cx hp dX5_receive_25 (fun u H locs e_u n_u hp => ?_)
    have eM := e_u.trans e_l
    have fr : ∀ q, q ≠ o → u q = σ q := fun q h0 => (n_u q h0).trans (fr q h0)
    cases hf
    exact r_v cx hp ⟨eM, fr⟩ dX5_receive_28
abbrev rm_X5_mayPass : Room := { frames := 0, cells := 0, slots := 0, locals := 0 }
set_option maxRecDepth 100000 in
set_option maxHeartbeats 4000000 in
theorem c_X5_mayPass (l : Launch) {E : Ev} (hN : 129 ≤ eN E) (hT : St E) {σ : SM} {o : Nat} {μ : OM} (ho : o < 11) (eM : σ o = μ) {p1 : Int32} {rv : Int32} (hf : f_X5_mayPass p1 μ = some rv) : Met l yX5_mayPass (wC yX5_mayPass cX5_mayPass 2 (some .boolean)) rm_X5_mayPass (va_Pc [.ref (adr E o 0), .int p1] (Wu E σ)) (va_Qi (fun r u => rv = r ∧ σ = u) (fun u t => Wu E u t) (eA E)) 0 0 (eA E) := by
  refine g_entry (lv := [(0, .ref (adr E o 0)), (1, .int p1)]) (by decide) (Nat.le_of_ble_eq_true rfl) rfl ?_
  intro p e s m below meth c cx hp ls hl
  have hx := cx.1.1
  have hb := cx.1.2.1
  have fr : ∀ q, σ q = σ q := fun _ => rfl
  unfold f_X5_mayPass at hf
  refine lv_iload_n hx hb dX5_mayPass_0 rfl (lv_at hl 1 rfl) ?_
  refine lv_sipush (v := 9999) hx hb dX5_mayPass_1 (by decide) ?_
  refine lv_aload_n hx hb dX5_mayPass_4 rfl (lv_at hl 0 rfl) ?_
  refine gF_X5_18 ho eM hN cx hp dX5_mayPass_5 ?_
  refine lv_isub hx hb dX5_mayPass_8 ?_
  refine lv_icmp_gt (tgt := 16) hx hb dX5_mayPass_9 (by decide) (fun c1 => ?_) (fun c1 => ?_)
  · have hf := fp hf c1
    refine lv_iconst (v := 0) hx hb dX5_mayPass_16 (by decide) ?_
    cases hf
    exact r_z cx hp rfl ⟨rfl, (funext fr).symm⟩ dX5_mayPass_17
  · have hf := fn hf c1
    refine lv_iconst (v := 1) hx hb dX5_mayPass_12 (by decide) ?_
    refine lv_goto (tgt := 17) hx hb dX5_mayPass_13 (by decide) ?_
    cases hf
    exact r_z cx hp rfl ⟨rfl, (funext fr).symm⟩ dX5_mayPass_17
abbrev rm_X5_chargeOrEvict : Room := { frames := 2, cells := 0, slots := 0, locals := 42 }
set_option maxRecDepth 100000 in
set_option maxHeartbeats 4000000 in
theorem c_X5_chargeOrEvict (l : Launch) {E : Ev} (hN : 129 ≤ eN E) (hT : St E) {σ : SM} {o : Nat} {μ : OM} (ho : o < 11) (eM : σ o = μ) {p1 : Int32} {μ' : OM} (hf : f_X5_chargeOrEvict p1 μ = some μ') : Met l yX5_chargeOrEvict (wC yX5_chargeOrEvict cX5_chargeOrEvict 4 none) rm_X5_chargeOrEvict (va_Pc [.ref (adr E o 0), .int p1] (Wu E σ)) (va_Qv (fun u => u o = μ' ∧ ∀ q, q ≠ o → u q = σ q) (fun u t => Wu E u t) (eA E)) 0 0 (eA E) := by
  refine g_entry (lv := [(0, .ref (adr E o 0)), (1, .int p1)]) (by decide) (Nat.le_of_ble_eq_true rfl) rfl ?_
  intro p e s m below meth c cx hp ls hl
  have hx := cx.1.1
  have hb := cx.1.2.1
  have fr : ∀ q, q ≠ o → σ q = σ q := fun _ _ => rfl
  unfold f_X5_chargeOrEvict at hf
  refine lv_aload_n hx hb dX5_chargeOrEvict_0 rfl (lv_at hl 0 rfl) ?_
  refine lv_iload_n hx hb dX5_chargeOrEvict_1 rfl (lv_at hl 1 rfl) ?_
  obtain ⟨r1, hc, hf⟩ := fb hf
  refine x_i hp (y_V (As := [.int p1]) (rest := []) cx hp hl (c_X5_heldBy l hN hT ho eM hc) (cw_X5_92 cx (mc := 0) (ms := 0) rfl rfl ⟨by decide, by decide⟩) (rC_X5 ho hN cx hp) rfl rfl (Nat.le_of_ble_eq_true rfl) dX5_chargeOrEvict_2 ⟨Nat.zero_le _, Nat.zero_le _⟩) (fun r_c u_c H locs hq hp => ?_)
  obtain ⟨rfl, rfl⟩ := hq
  refine lv_istore_n (lv' := [(2, .int r1), (0, .ref (adr E o 0)), (1, .int p1)]) hx hb dX5_chargeOrEvict_5 rfl hl (by decide) rfl (fun ls hl => ?_)
  refine lv_aload_n hx hb dX5_chargeOrEvict_6 rfl (lv_at hl 1 rfl) ?_
  refine lv_iload_n hx hb dX5_chargeOrEvict_7 rfl (lv_at hl 2 rfl) ?_
  obtain ⟨r2, hc, hf⟩ := fb hf
  refine x_i hp (y_V (As := [.int p1]) (rest := []) cx hp hl (c_X5_hasSeller l hN hT ho eM hc) (cw_X5_68 cx (mc := 0) (ms := 0) rfl rfl ⟨by decide, by decide⟩) (rC_X5 ho hN cx hp) rfl rfl (Nat.le_of_ble_eq_true rfl) dX5_chargeOrEvict_8 ⟨Nat.zero_le _, Nat.zero_le _⟩) (fun r_c u_c H locs hq hp => ?_)
  obtain ⟨rfl, rfl⟩ := hq
  refine lv_if_eq (tgt := 19) hx hb dX5_chargeOrEvict_11 (by decide) (fun c3 => ?_) (fun c3 => ?_)
  · have hf := fp hf c3
    cases hf
    exact r_v cx hp ⟨eM, fr⟩ dX5_chargeOrEvict_19
  · have hf := fn hf c3
    refine lv_iload_n hx hb dX5_chargeOrEvict_14 rfl (lv_at hl 0 rfl) ?_
    refine lv_iconst (v := (-1)) hx hb dX5_chargeOrEvict_15 (by decide) ?_
    refine lv_icmp_ne (tgt := 20) hx hb dX5_chargeOrEvict_16 (by decide) (fun c4 => ?_) (fun c4 => ?_)
    · have hf := fn hf c4
      refine lv_aload_n hx hb dX5_chargeOrEvict_20 rfl (lv_at hl 1 rfl) ?_
      refine lv_iload_n hx hb dX5_chargeOrEvict_21 rfl (lv_at hl 0 rfl) ?_
      obtain ⟨r5, hc, hf⟩ := fb hf
      refine x_i hp (y_V (As := [.int r1]) (rest := []) cx hp hl (c_X5_priceOf l hN hT ho eM hc) (cw_X5_86 cx (mc := 0) (ms := 0) rfl rfl ⟨by decide, by decide⟩) (rC_X5 ho hN cx hp) rfl rfl (Nat.le_of_ble_eq_true rfl) dX5_chargeOrEvict_22 ⟨Nat.zero_le _, Nat.zero_le _⟩) (fun r_c u_c H locs hq hp => ?_)
      obtain ⟨rfl, rfl⟩ := hq
      refine lv_istore_n (lv' := [(3, .int r5), (2, .int r1), (0, .ref (adr E o 0)), (1, .int p1)]) hx hb dX5_chargeOrEvict_25 rfl hl (by decide) rfl (fun ls hl => ?_)
      refine lv_aload_n hx hb dX5_chargeOrEvict_26 rfl (lv_at hl 2 rfl) ?_
      refine gF_X5_43 ho rfl hN cx hp dX5_chargeOrEvict_27 ?_
      refine lv_iload_n hx hb dX5_chargeOrEvict_30 rfl (lv_at hl 3 rfl) ?_
      obtain ⟨g_i, hf⟩ := fg hf
      refine lA_X5_2 ho eM hN cx hp g_i dX5_chargeOrEvict_31 ?_
      refine lv_iload_n hx hb dX5_chargeOrEvict_32 rfl (lv_at hl 0 rfl) ?_
      refine lv_icmp_lt (tgt := 59) hx hb dX5_chargeOrEvict_33 (by decide) (fun c6 => ?_) (fun c6 => ?_)
      · have hf := fp hf c6
        refine lv_aload_n hx hb dX5_chargeOrEvict_59 rfl (lv_at hl 2 rfl) ?_
        refine gF_X5_50 ho rfl hN cx hp dX5_chargeOrEvict_60 ?_
        refine lv_iload_n hx hb dX5_chargeOrEvict_63 rfl (lv_at hl 3 rfl) ?_
        refine lv_iconst (v := (-1)) hx hb dX5_chargeOrEvict_64 (by decide) ?_
        obtain ⟨g_i, hf⟩ := fg hf
        obtain ⟨μ7, e_l, hf⟩ := fl hf
        refine sA_X5_4 ho eM hN cx hp g_i dX5_chargeOrEvict_65 (fun u H locs e_u n_u hp => ?_)
        have eM := e_u.trans e_l
        have fr : ∀ q, q ≠ o → u q = σ q := fun q h0 => (n_u q h0).trans (fr q h0)
        refine lv_aload_n hx hb dX5_chargeOrEvict_66 rfl (lv_at hl 2 rfl) ?_
        refine lv_dup hx hb dX5_chargeOrEvict_67 rfl ?_
        refine gF_X5_24 ho eM hN cx hp dX5_chargeOrEvict_68 ?_
        refine lv_iconst (v := 1) hx hb dX5_chargeOrEvict_71 (by decide) ?_
        refine lv_iadd hx hb dX5_chargeOrEvict_72 ?_
        obtain ⟨μ8, e_l, hf⟩ := fl hf
        refine pF_X5_24 ho eM hN cx hp dX5_chargeOrEvict_73 (fun u H locs e_u n_u hp => ?_)
        have eM := e_u.trans e_l
        have fr : ∀ q, q ≠ o → u q = σ q := fun q h0 => (n_u q h0).trans (fr q h0)
        cases hf
        exact r_v cx hp ⟨eM, fr⟩ dX5_chargeOrEvict_76
      · have hf := fn hf c6
        refine lv_aload_n hx hb dX5_chargeOrEvict_36 rfl (lv_at hl 2 rfl) ?_
        refine gF_X5_43 ho rfl hN cx hp dX5_chargeOrEvict_37 ?_
        refine lv_iload_n hx hb dX5_chargeOrEvict_40 rfl (lv_at hl 3 rfl) ?_
        refine lv_dup2_11 hx hb dX5_chargeOrEvict_41 rfl rfl ?_
        obtain ⟨g_i, hf⟩ := fg hf
        refine lA_X5_2 ho eM hN cx hp g_i dX5_chargeOrEvict_42 ?_
        refine lv_iload_n hx hb dX5_chargeOrEvict_43 rfl (lv_at hl 0 rfl) ?_
        refine lv_isub hx hb dX5_chargeOrEvict_44 ?_
        obtain ⟨g_i, hf⟩ := fg hf
        obtain ⟨μ9, e_l, hf⟩ := fl hf
        refine sA_X5_2 ho eM hN cx hp g_i dX5_chargeOrEvict_45 (fun u H locs e_u n_u hp => ?_)
        have eM := e_u.trans e_l
        have fr : ∀ q, q ≠ o → u q = σ q := fun q h0 => (n_u q h0).trans (fr q h0)
        refine lv_aload_n hx hb dX5_chargeOrEvict_46 rfl (lv_at hl 2 rfl) ?_
        refine lv_dup hx hb dX5_chargeOrEvict_47 rfl ?_
        refine gF_X5_21 ho eM hN cx hp dX5_chargeOrEvict_48 ?_
        refine lv_iload_n hx hb dX5_chargeOrEvict_51 rfl (lv_at hl 0 rfl) ?_
        refine lv_iadd hx hb dX5_chargeOrEvict_52 ?_
        obtain ⟨μ10, e_l, hf⟩ := fl hf
        refine pF_X5_21 ho eM hN cx hp dX5_chargeOrEvict_53 (fun u H locs e_u n_u hp => ?_)
        have eM := e_u.trans e_l
        have fr : ∀ q, q ≠ o → u q = σ q := fun q h0 => (n_u q h0).trans (fr q h0)
        refine lv_goto (tgt := 76) hx hb dX5_chargeOrEvict_56 (by decide) ?_
        cases hf
        exact r_v cx hp ⟨eM, fr⟩ dX5_chargeOrEvict_76
    · have hf := fp hf c4
      cases hf
      exact r_v cx hp ⟨eM, fr⟩ dX5_chargeOrEvict_19
abbrev rm_X5_pass : Room := { frames := 3, cells := 0, slots := 0, locals := 65 }
set_option maxRecDepth 100000 in
set_option maxHeartbeats 4000000 in
theorem L_X5_pass_19 {p : Program} {e : Env} {s : State} {m : MethodId} {args : Array Value} {below : List Frame} {meth : Method} {c : Code} (l : Launch) {E : Ev} (hN : 129 ≤ eN E) (hT : St E) {σ : SM} {Q : State → Prop} (cx : Cx E p s m meth c args RX5 cX5_pass 4 none) {o : Nat} (ho : o < 11) {x1 : Int32} {x2 : Int32} {μ' : OM} (K : ∀ (u : SM) (H : Heap) (locs : List Loc) (ls : Array Slot), u o = μ' → (∀ q, q ≠ o → u q = σ q) → Hp E u s H locs → lv_has ls 4 [(0, .ref (adr E o 0)), (1, .int x1), (2, .int x2)] → W p l e rm_X5_pass s m args below meth c H locs 0 0 Q (F0 m 44 ls [])) : ∀ (n : Nat) {x3 : Int32} {μ : OM}, f_X5_pass_19  n x3 μ = some μ' → ∀ {u : SM} {H : Heap} {locs : List Loc} {ls : Array Slot}, u o = μ → (∀ q, q ≠ o → u q = σ q) → Hp E u s H locs → lv_has ls 4 [(0, .ref (adr E o 0)), (1, .int x1), (2, .int x2), (3, .int x3)] → W p l e rm_X5_pass s m args below meth c H locs 0 0 Q (F0 m 19 ls []) := by
  have hx := cx.1.1
  have hb := cx.1.2.1
  intro n
  induction n with
  | zero =>
    intro x3 μ hf
    exact absurd hf (by simp [f_X5_pass_19])
  | succ n ih =>
    intro x3 μ hf u H locs ls eM fr hp hl
    rw [f_X5_pass_19] at hf
    refine lv_iload_n hx hb dX5_pass_19 rfl (lv_at hl 3 rfl) ?_
    refine lv_aload_n hx hb dX5_pass_20 rfl (lv_at hl 0 rfl) ?_
    refine gF_X5_9 ho eM hN cx hp dX5_pass_21 ?_
    refine lv_icmp_ge (tgt := 44) hx hb dX5_pass_24 (by decide) (fun c3 => ?_) (fun c3 => ?_)
    · have hf := fp hf c3
      cases hf
      exact K _ _ _ _ eM fr hp (lv_sub hl [0, 1, 2] rfl)
    · have hf := fn hf c3
      refine lv_aload_n hx hb dX5_pass_27 rfl (lv_at hl 0 rfl) ?_
      refine lv_iload_n hx hb dX5_pass_28 rfl (lv_at hl 3 rfl) ?_
      refine lv_aload_n hx hb dX5_pass_29 rfl (lv_at hl 0 rfl) ?_
      refine gF_X5_47 ho rfl hN cx hp dX5_pass_30 ?_
      refine lv_iload_n hx hb dX5_pass_33 rfl (lv_at hl 3 rfl) ?_
      obtain ⟨g_i, hf⟩ := fg hf
      refine lA_X5_3 ho eM hN cx hp g_i dX5_pass_34 ?_
      obtain ⟨μ4, hc, hf⟩ := fb hf
      refine x_v hp (y_V (As := [.int x3, .int (μ.1 3 (Int32.toNatClampNeg x3))]) (rest := []) cx hp hl (c_X5_receive l hN hT ho eM hc) (cw_X5_108 cx (mc := 0) (ms := 0) rfl rfl ⟨by decide, by decide⟩) (rC_X5 ho hN cx hp) rfl rfl (Nat.le_of_ble_eq_true rfl) dX5_pass_35 ⟨Nat.zero_le _, Nat.zero_le _⟩) (fun u_c H locs hq hp => ?_)
      obtain ⟨e_0, n_u⟩ := hq
      have eM := e_0
      have fr : ∀ q, q ≠ o → u_c q = σ q := fun q h0 => (n_u q h0).trans (fr q h0)
      obtain ⟨u, rfl⟩ : ∃ z, u_c = z := ⟨_, rfl⟩
      refine lv_iinc (v := (x3 + 1)) (lv' := [(3, .int (x3 + 1)), (0, .ref (adr E o 0)), (1, .int x1), (2, .int x2)]) hx hb dX5_pass_38 hl (k := 3) rfl rfl (by decide) rfl (fun ls hl => ?_)
      refine lv_goto (tgt := 19) hx hb dX5_pass_41 (by decide) ?_
      exact ih  hf eM fr hp (lv_sub hl [1, 2, 3, 0] rfl)
set_option maxRecDepth 100000 in
set_option maxHeartbeats 4000000 in
theorem L_X5_pass_46 {p : Program} {e : Env} {s : State} {m : MethodId} {args : Array Value} {below : List Frame} {meth : Method} {c : Code} (l : Launch) {E : Ev} (hN : 129 ≤ eN E) (hT : St E) {σ : SM} {Q : State → Prop} (cx : Cx E p s m meth c args RX5 cX5_pass 4 none) {o : Nat} (ho : o < 11) {x1 : Int32} {x2 : Int32} {μ' : OM} (K : ∀ (u : SM) (H : Heap) (locs : List Loc) (ls : Array Slot), u o = μ' → (∀ q, q ≠ o → u q = σ q) → Hp E u s H locs → lv_has ls 4 [(0, .ref (adr E o 0)), (1, .int x1), (2, .int x2)] → W p l e rm_X5_pass s m args below meth c H locs 0 0 Q (F0 m 65 ls [])) : ∀ (n : Nat) {x3 : Int32} {μ : OM}, f_X5_pass_46  n x3 μ = some μ' → ∀ {u : SM} {H : Heap} {locs : List Loc} {ls : Array Slot}, u o = μ → (∀ q, q ≠ o → u q = σ q) → Hp E u s H locs → lv_has ls 4 [(0, .ref (adr E o 0)), (1, .int x1), (2, .int x2), (3, .int x3)] → W p l e rm_X5_pass s m args below meth c H locs 0 0 Q (F0 m 46 ls []) := by
  have hx := cx.1.1
  have hb := cx.1.2.1
  intro n
  induction n with
  | zero =>
    intro x3 μ hf
    exact absurd hf (by simp [f_X5_pass_46])
  | succ n ih =>
    intro x3 μ hf u H locs ls eM fr hp hl
    rw [f_X5_pass_46] at hf
    refine lv_iload_n hx hb dX5_pass_46 rfl (lv_at hl 3 rfl) ?_
    refine lv_aload_n hx hb dX5_pass_47 rfl (lv_at hl 0 rfl) ?_
    refine gF_X5_9 ho eM hN cx hp dX5_pass_48 ?_
    refine lv_icmp_ge (tgt := 65) hx hb dX5_pass_51 (by decide) (fun c6 => ?_) (fun c6 => ?_)
    · have hf := fp hf c6
      cases hf
      exact K _ _ _ _ eM fr hp (lv_sub hl [0, 1, 2] rfl)
    · have hf := fn hf c6
      refine lv_aload_n hx hb dX5_pass_54 rfl (lv_at hl 0 rfl) ?_
      refine lv_iload_n hx hb dX5_pass_55 rfl (lv_at hl 3 rfl) ?_
      obtain ⟨μ7, hc, hf⟩ := fb hf
      refine x_v hp (y_V (As := [.int x3]) (rest := []) cx hp hl (c_X5_chargeOrEvict l hN hT ho eM hc) (cw_X5_111 cx (mc := 0) (ms := 0) rfl rfl ⟨by decide, by decide⟩) (rC_X5 ho hN cx hp) rfl rfl (Nat.le_of_ble_eq_true rfl) dX5_pass_56 ⟨Nat.zero_le _, Nat.zero_le _⟩) (fun u_c H locs hq hp => ?_)
      obtain ⟨e_0, n_u⟩ := hq
      have eM := e_0
      have fr : ∀ q, q ≠ o → u_c q = σ q := fun q h0 => (n_u q h0).trans (fr q h0)
      obtain ⟨u, rfl⟩ : ∃ z, u_c = z := ⟨_, rfl⟩
      refine lv_iinc (v := (x3 + 1)) (lv' := [(3, .int (x3 + 1)), (0, .ref (adr E o 0)), (1, .int x1), (2, .int x2)]) hx hb dX5_pass_59 hl (k := 3) rfl rfl (by decide) rfl (fun ls hl => ?_)
      refine lv_goto (tgt := 46) hx hb dX5_pass_62 (by decide) ?_
      exact ih  hf eM fr hp (lv_sub hl [1, 2, 3, 0] rfl)
set_option maxRecDepth 100000 in
set_option maxHeartbeats 4000000 in
theorem L_X5_pass_2 {p : Program} {e : Env} {s : State} {m : MethodId} {args : Array Value} {below : List Frame} {meth : Method} {c : Code} (l : Launch) {E : Ev} (hN : 129 ≤ eN E) (hT : St E) {σ : SM} (cx : Cx E p s m meth c args RX5 cX5_pass 4 none) {o : Nat} (ho : o < 11) {x1 : Int32} {μ' : OM} : ∀ (n : Nat) {x2 : Int32} {μ : OM}, f_X5_pass_2 x1 n x2 μ = some μ' → ∀ {u : SM} {H : Heap} {locs : List Loc} {ls : Array Slot}, u o = μ → (∀ q, q ≠ o → u q = σ q) → Hp E u s H locs → lv_has ls 4 [(0, .ref (adr E o 0)), (1, .int x1), (2, .int x2)] → W p l e rm_X5_pass s m args below meth c H locs 0 0 (MQ below (va_Qv (fun u => u o = μ' ∧ ∀ q, q ≠ o → u q = σ q) (fun u t => Wu E u t) (eA E)) args s 0 0 (eA E)) (F0 m 2 ls []) := by
  have hx := cx.1.1
  have hb := cx.1.2.1
  intro n
  induction n with
  | zero =>
    intro x2 μ hf
    exact absurd hf (by simp [f_X5_pass_2])
  | succ n ih =>
    intro x2 μ hf u H locs ls eM fr hp hl
    rw [f_X5_pass_2] at hf
    refine lv_iload_n hx hb dX5_pass_2 rfl (lv_at hl 2 rfl) ?_
    refine lv_iload_n hx hb dX5_pass_3 rfl (lv_at hl 1 rfl) ?_
    refine lv_icmp_ge (tgt := 71) hx hb dX5_pass_4 (by decide) (fun c1 => ?_) (fun c1 => ?_)
    · have hf := fp hf c1
      cases hf
      exact r_v cx hp ⟨eM, fr⟩ dX5_pass_71
    · have hf := fn hf c1
      refine lv_aload_n hx hb dX5_pass_7 rfl (lv_at hl 0 rfl) ?_
      refine lv_dup hx hb dX5_pass_8 rfl ?_
      refine gF_X5_18 ho eM hN cx hp dX5_pass_9 ?_
      refine lv_iconst (v := 1) hx hb dX5_pass_12 (by decide) ?_
      refine lv_iadd hx hb dX5_pass_13 ?_
      obtain ⟨μ2, e_l, hf⟩ := fl hf
      refine pF_X5_18 ho eM hN cx hp dX5_pass_14 (fun u H locs e_u n_u hp => ?_)
      have eM := e_u.trans e_l
      have fr : ∀ q, q ≠ o → u q = σ q := fun q h0 => (n_u q h0).trans (fr q h0)
      refine lv_iconst (v := 0) hx hb dX5_pass_17 (by decide) ?_
      refine lv_istore_n (lv' := [(3, .int 0), (0, .ref (adr E o 0)), (1, .int x1), (2, .int x2)]) hx hb dX5_pass_18 rfl hl (by decide) rfl (fun ls hl => ?_)
      obtain ⟨μ5, hc, hf⟩ := fb hf
      refine L_X5_pass_19 l hN hT cx ho (fun u H locs ls eM fr hp hl => ?_) _ hc eM fr hp (lv_sub hl [1, 2, 3, 0] rfl)
      refine lv_iconst (v := 0) hx hb dX5_pass_44 (by decide) ?_
      refine lv_istore_n (lv' := [(3, .int 0), (0, .ref (adr E o 0)), (1, .int x1), (2, .int x2)]) hx hb dX5_pass_45 rfl hl (by decide) rfl (fun ls hl => ?_)
      obtain ⟨μ8, hc, hf⟩ := fb hf
      refine L_X5_pass_46 l hN hT cx ho (fun u H locs ls eM fr hp hl => ?_) _ hc eM fr hp (lv_sub hl [1, 2, 3, 0] rfl)
      refine lv_iinc (v := (x2 + 1)) (lv' := [(2, .int (x2 + 1)), (0, .ref (adr E o 0)), (1, .int x1)]) hx hb dX5_pass_65 hl (k := 2) rfl rfl (by decide) rfl (fun ls hl => ?_)
      refine lv_goto (tgt := 2) hx hb dX5_pass_68 (by decide) ?_
      exact ih  hf eM fr hp (lv_sub hl [1, 2, 0] rfl)
set_option maxRecDepth 100000 in
set_option maxHeartbeats 4000000 in
theorem c_X5_pass (l : Launch) {E : Ev} (hN : 129 ≤ eN E) (hT : St E) {σ : SM} {o : Nat} {μ : OM} (ho : o < 11) (eM : σ o = μ) {p1 : Int32} {μ' : OM} (hf : f_X5_pass p1 μ = some μ') : Met l yX5_pass (wC yX5_pass cX5_pass 4 none) rm_X5_pass (va_Pc [.ref (adr E o 0), .int p1] (Wu E σ)) (va_Qv (fun u => u o = μ' ∧ ∀ q, q ≠ o → u q = σ q) (fun u t => Wu E u t) (eA E)) 0 0 (eA E) := by
  refine g_entry (lv := [(0, .ref (adr E o 0)), (1, .int p1)]) (by decide) (Nat.le_of_ble_eq_true rfl) rfl ?_
  intro p e s m below meth c cx hp ls hl
  have hx := cx.1.1
  have hb := cx.1.2.1
  have fr : ∀ q, q ≠ o → σ q = σ q := fun _ _ => rfl
  unfold f_X5_pass at hf
  refine lv_iconst (v := 0) hx hb dX5_pass_0 (by decide) ?_
  refine lv_istore_n (lv' := [(2, .int 0), (0, .ref (adr E o 0)), (1, .int p1)]) hx hb dX5_pass_1 rfl hl (by decide) rfl (fun ls hl => ?_)
  exact L_X5_pass_2 l hN hT cx ho _ hf eM fr hp (lv_sub hl [1, 2, 0] rfl)

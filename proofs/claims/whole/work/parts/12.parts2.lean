abbrev rm_X6_include : Room := { frames := 2, cells := 0, slots := 0, locals := 43 }
set_option maxRecDepth 100000 in
set_option maxHeartbeats 4000000 in
theorem L_X6_include_11 {p : Program} {e : Env} {s : State} {m : MethodId} {args : Array Value} {below : List Frame} {meth : Method} {c : Code} (l : Launch) {E : Ev} (hN : 129 ≤ eN E) (hT : St E) {σ : SM} {Q : State → Prop} (cx : Cx E p s m meth c args RX6 cX6_include 7 none) {o : Nat} (ho : o < 11) {x2 : Int32} {x3 : Int32} {μ : OM} {κ' : OM} (K : ∀ (u : SM) (H : Heap) (locs : List Loc) (ls : Array Slot), u o = μ → u 18 = κ' → (∀ q, q ≠ 18 → u q = σ q) → Hp E u s H locs → lv_has ls 7 [(0, .ref (adr E 18 0)), (1, .ref (adr E o 0)), (2, .int x2), (3, .int x3)] → W p l e rm_X6_include s m args below meth c H locs 0 0 Q (F0 m 103 ls [])) : ∀ (n : Nat) {x4 : Int32} {κ : OM}, f_X6_include_11 x2 x3 μ n x4 κ = some κ' → ∀ {u : SM} {H : Heap} {locs : List Loc} {ls : Array Slot}, u o = μ → u 18 = κ → (∀ q, q ≠ 18 → u q = σ q) → Hp E u s H locs → lv_has ls 7 [(0, .ref (adr E 18 0)), (1, .ref (adr E o 0)), (2, .int x2), (3, .int x3), (4, .int x4)] → W p l e rm_X6_include s m args below meth c H locs 0 0 Q (F0 m 11 ls []) := by
  have hx := cx.1.1
  have hb := cx.1.2.1
  have d_M_18 : (o : Nat) ≠ 18 := by omega
  intro n
  induction n with
  | zero =>
    intro x4 κ hf
    exact absurd hf (by simp [f_X6_include_11])
  | succ n ih =>
    intro x4 κ hf u H locs ls eM e18 fr hp hl
    rw [f_X6_include_11] at hf
    refine lv_iload hx hb dX6_include_11 (lv_at hl 4 rfl) ?_
    refine lv_aload_n hx hb dX6_include_13 rfl (lv_at hl 1 rfl) ?_
    refine lv_iload_n hx hb dX6_include_14 rfl (lv_at hl 2 rfl) ?_
    obtain ⟨r2, hc, hf⟩ := fb hf
    refine x_i hp (y_V (As := [.int x2]) (rest := [.int x4]) cx hp hl (c_X5_wishesOf l hN hT ho eM hc) (cw_X6_41 cx (mc := 0) (ms := 0) rfl rfl ⟨by decide, by decide⟩) (rC_X5 ho hN cx hp) rfl rfl (Nat.le_of_ble_eq_true rfl) dX6_include_15 ⟨Nat.zero_le _, Nat.zero_le _⟩) (fun r_c u_c H locs hq hp => ?_)
    obtain ⟨rfl, rfl⟩ := hq
    refine lv_icmp_ge (tgt := 103) hx hb dX6_include_18 (by decide) (fun c3 => ?_) (fun c3 => ?_)
    · have hf := fp hf c3
      cases hf
      exact K _ _ _ _ eM e18 fr hp (lv_sub hl [0, 1, 2, 3] rfl)
    · have hf := fn hf c3
      refine lv_iconst (v := 1) hx hb dX6_include_21 (by decide) ?_
      refine lv_aload_n hx hb dX6_include_22 rfl (lv_at hl 1 rfl) ?_
      refine lv_iload_n hx hb dX6_include_23 rfl (lv_at hl 2 rfl) ?_
      refine lv_iload hx hb dX6_include_24 (lv_at hl 4 rfl) ?_
      obtain ⟨r4, hc, hf⟩ := fb hf
      refine x_i hp (y_V (As := [.int x2, .int x4]) (rest := [.int 1]) cx hp hl (c_X5_wish l hN hT ho eM hc) (cw_X6_44 cx (mc := 0) (ms := 0) rfl rfl ⟨by decide, by decide⟩) (rC_X5 ho hN cx hp) rfl rfl (Nat.le_of_ble_eq_true rfl) dX6_include_26 ⟨Nat.zero_le _, Nat.zero_le _⟩) (fun r_c u_c H locs hq hp => ?_)
      obtain ⟨rfl, rfl⟩ := hq
      refine lv_ishl hx hb dX6_include_29 ?_
      obtain ⟨i5, x_e, hf⟩ := fl hf
      refine lv_nm x_e ?_
      refine lv_istore (lv' := [(5, .int i5), (0, .ref (adr E 18 0)), (1, .ref (adr E o 0)), (2, .int x2), (3, .int x3), (4, .int x4)]) hx hb dX6_include_30 hl (by decide) rfl (fun ls hl => ?_)
      refine lv_iload_n hx hb dX6_include_32 rfl (lv_at hl 4 rfl) ?_
      refine lv_iload hx hb dX6_include_33 (lv_at hl 0 rfl) ?_
      refine lv_iand hx hb dX6_include_35 ?_
      refine lv_if_eq (tgt := 53) hx hb dX6_include_36 (by decide) (fun c6 => ?_) (fun c6 => ?_)
      · have hf := fp hf c6
        refine lv_iconst (v := (-1)) hx hb dX6_include_53 (by decide) ?_
        refine lv_istore (lv' := [(6, .int (-1)), (5, .int i5), (0, .ref (adr E 18 0)), (1, .ref (adr E o 0)), (2, .int x2), (3, .int x3), (4, .int x4)]) hx hb dX6_include_54 hl (by decide) rfl (fun ls hl => ?_)
        refine lv_iload hx hb dX6_include_56 (lv_at hl 0 rfl) ?_
        refine lv_iconst (v := (-1)) hx hb dX6_include_58 (by decide) ?_
        refine lv_icmp_eq (tgt := 97) hx hb dX6_include_59 (by decide) (fun _ => ?_) (fun c_x => absurd (by decide) c_x)
        refine lv_iinc (v := (x4 + 1)) (lv' := [(4, .int (x4 + 1)), (6, .int (-1)), (5, .int i5), (0, .ref (adr E 18 0)), (1, .ref (adr E o 0)), (2, .int x2), (3, .int x3)]) hx hb dX6_include_97 hl (k := 6) rfl rfl (by decide) rfl (fun ls hl => ?_)
        refine lv_goto (tgt := 11) hx hb dX6_include_100 (by decide) ?_
        exact ih  hf eM e18 fr hp (lv_sub hl [3, 4, 5, 6, 0] rfl)
      · have hf := fn hf c6
        refine lv_aload_n hx hb dX6_include_39 rfl (lv_at hl 1 rfl) ?_
        refine gF_X6_9 rfl hN cx hp dX6_include_40 ?_
        refine lv_iload_n hx hb dX6_include_43 rfl (lv_at hl 4 rfl) ?_
        refine lv_iload hx hb dX6_include_44 (lv_at hl 0 rfl) ?_
        refine lv_iconst (v := (-1)) hx hb dX6_include_46 (by decide) ?_
        refine lv_ixor hx hb dX6_include_47 ?_
        refine lv_iand hx hb dX6_include_48 ?_
        obtain ⟨g_i, hf⟩ := fg hf
        refine lA_X6_1 e18 hN cx hp g_i dX6_include_49 ?_
        refine lv_goto (tgt := 54) hx hb dX6_include_50 (by decide) ?_
        obtain ⟨i8, x_e, hf⟩ := fl hf
        refine lv_nm x_e ?_
        refine lv_istore (lv' := [(6, .int i8), (5, .int i5), (0, .ref (adr E 18 0)), (1, .ref (adr E o 0)), (2, .int x2), (3, .int x3), (4, .int x4)]) hx hb dX6_include_54 hl (by decide) rfl (fun ls hl => ?_)
        refine lv_iload hx hb dX6_include_56 (lv_at hl 0 rfl) ?_
        refine lv_iconst (v := (-1)) hx hb dX6_include_58 (by decide) ?_
        refine lv_icmp_eq (tgt := 97) hx hb dX6_include_59 (by decide) (fun c9 => ?_) (fun c9 => ?_)
        · have hf := fp hf c9
          refine lv_iinc (v := (x4 + 1)) (lv' := [(4, .int (x4 + 1)), (6, .int i8), (5, .int i5), (0, .ref (adr E 18 0)), (1, .ref (adr E o 0)), (2, .int x2), (3, .int x3)]) hx hb dX6_include_97 hl (k := 6) rfl rfl (by decide) rfl (fun ls hl => ?_)
          refine lv_goto (tgt := 11) hx hb dX6_include_100 (by decide) ?_
          exact ih  hf eM e18 fr hp (lv_sub hl [3, 4, 5, 6, 0] rfl)
        · have hf := fn hf c9
          refine lv_aload_n hx hb dX6_include_62 rfl (lv_at hl 2 rfl) ?_
          refine gF_X6_9 rfl hN cx hp dX6_include_63 ?_
          refine lv_iload_n hx hb dX6_include_66 rfl (lv_at hl 5 rfl) ?_
          obtain ⟨g_i, hf⟩ := fg hf
          refine lA_X6_1 e18 hN cx hp g_i dX6_include_67 ?_
          refine lv_iconst (v := (-1)) hx hb dX6_include_68 (by decide) ?_
          refine lv_icmp_eq (tgt := 86) hx hb dX6_include_69 (by decide) (fun c10 => ?_) (fun c10 => ?_)
          · have hf := fp hf c10
            refine lv_aload_n hx hb dX6_include_86 rfl (lv_at hl 2 rfl) ?_
            refine gF_X6_9 rfl hN cx hp dX6_include_87 ?_
            refine lv_iload_n hx hb dX6_include_90 rfl (lv_at hl 5 rfl) ?_
            refine lv_iload hx hb dX6_include_91 (lv_at hl 0 rfl) ?_
            refine lv_iload hx hb dX6_include_93 (lv_at hl 6 rfl) ?_
            refine lv_iadd hx hb dX6_include_95 ?_
            obtain ⟨g_i, hf⟩ := fg hf
            obtain ⟨κ11, e_l, hf⟩ := fl hf
            refine sA_X6_1 e18 hN cx hp g_i dX6_include_96 (fun u H locs e_u n_u hp => ?_)
            have e18 := e_u.trans e_l
            have eM := (n_u _ d_M_18).trans eM
            have fr : ∀ q, q ≠ 18 → u q = σ q := fun q h0 => (n_u q h0).trans (fr q h0)
            refine lv_iinc (v := (x4 + 1)) (lv' := [(4, .int (x4 + 1)), (6, .int i8), (5, .int i5), (0, .ref (adr E 18 0)), (1, .ref (adr E o 0)), (2, .int x2), (3, .int x3)]) hx hb dX6_include_97 hl (k := 6) rfl rfl (by decide) rfl (fun ls hl => ?_)
            refine lv_goto (tgt := 11) hx hb dX6_include_100 (by decide) ?_
            exact ih  hf eM e18 fr hp (lv_sub hl [3, 4, 5, 6, 0] rfl)
          · have hf := fn hf c10
            refine lv_iload hx hb dX6_include_72 (lv_at hl 0 rfl) ?_
            refine lv_iload hx hb dX6_include_74 (lv_at hl 6 rfl) ?_
            refine lv_iadd hx hb dX6_include_76 ?_
            refine lv_aload_n hx hb dX6_include_77 rfl (lv_at hl 2 rfl) ?_
            refine gF_X6_9 rfl hN cx hp dX6_include_78 ?_
            refine lv_iload_n hx hb dX6_include_81 rfl (lv_at hl 5 rfl) ?_
            obtain ⟨g_i, hf⟩ := fg hf
            refine lA_X6_1 e18 hN cx hp g_i dX6_include_82 ?_
            refine lv_icmp_ge (tgt := 97) hx hb dX6_include_83 (by decide) (fun c12 => ?_) (fun c12 => ?_)
            · have hf := fp hf c12
              refine lv_iinc (v := (x4 + 1)) (lv' := [(4, .int (x4 + 1)), (6, .int i8), (5, .int i5), (0, .ref (adr E 18 0)), (1, .ref (adr E o 0)), (2, .int x2), (3, .int x3)]) hx hb dX6_include_97 hl (k := 6) rfl rfl (by decide) rfl (fun ls hl => ?_)
              refine lv_goto (tgt := 11) hx hb dX6_include_100 (by decide) ?_
              exact ih  hf eM e18 fr hp (lv_sub hl [3, 4, 5, 6, 0] rfl)
            · have hf := fn hf c12
              refine lv_aload_n hx hb dX6_include_86 rfl (lv_at hl 2 rfl) ?_
              refine gF_X6_9 rfl hN cx hp dX6_include_87 ?_
              refine lv_iload_n hx hb dX6_include_90 rfl (lv_at hl 5 rfl) ?_
              refine lv_iload hx hb dX6_include_91 (lv_at hl 0 rfl) ?_
              refine lv_iload hx hb dX6_include_93 (lv_at hl 6 rfl) ?_
              refine lv_iadd hx hb dX6_include_95 ?_
              obtain ⟨g_i, hf⟩ := fg hf
              obtain ⟨κ13, e_l, hf⟩ := fl hf
              refine sA_X6_1 e18 hN cx hp g_i dX6_include_96 (fun u H locs e_u n_u hp => ?_)
              have e18 := e_u.trans e_l
              have eM := (n_u _ d_M_18).trans eM
              have fr : ∀ q, q ≠ 18 → u q = σ q := fun q h0 => (n_u q h0).trans (fr q h0)
              refine lv_iinc (v := (x4 + 1)) (lv' := [(4, .int (x4 + 1)), (6, .int i8), (5, .int i5), (0, .ref (adr E 18 0)), (1, .ref (adr E o 0)), (2, .int x2), (3, .int x3)]) hx hb dX6_include_97 hl (k := 6) rfl rfl (by decide) rfl (fun ls hl => ?_)
              refine lv_goto (tgt := 11) hx hb dX6_include_100 (by decide) ?_
              exact ih  hf eM e18 fr hp (lv_sub hl [3, 4, 5, 6, 0] rfl)
set_option maxRecDepth 100000 in
set_option maxHeartbeats 4000000 in
theorem L_X6_include_4 {p : Program} {e : Env} {s : State} {m : MethodId} {args : Array Value} {below : List Frame} {meth : Method} {c : Code} (l : Launch) {E : Ev} (hN : 129 ≤ eN E) (hT : St E) {σ : SM} (cx : Cx E p s m meth c args RX6 cX6_include 7 none) {o : Nat} (ho : o < 11) {x2 : Int32} {μ : OM} {κ' : OM} : ∀ (n : Nat) {x3 : Int32} {κ : OM}, f_X6_include_4 x2 μ n x3 κ = some κ' → ∀ {u : SM} {H : Heap} {locs : List Loc} {ls : Array Slot}, u o = μ → u 18 = κ → (∀ q, q ≠ 18 → u q = σ q) → Hp E u s H locs → lv_has ls 7 [(0, .ref (adr E 18 0)), (1, .ref (adr E o 0)), (2, .int x2), (3, .int x3)] → W p l e rm_X6_include s m args below meth c H locs 0 0 (MQ below (va_Qv (fun u => u 18 = κ' ∧ ∀ q, q ≠ 18 → u q = σ q) (fun u t => Wu E u t) (eA E)) args s 0 0 (eA E)) (F0 m 4 ls []) := by
  have hx := cx.1.1
  have hb := cx.1.2.1
  have d_M_18 : (o : Nat) ≠ 18 := by omega
  intro n
  induction n with
  | zero =>
    intro x3 κ hf
    exact absurd hf (by simp [f_X6_include_4])
  | succ n ih =>
    intro x3 κ hf u H locs ls eM e18 fr hp hl
    rw [f_X6_include_4] at hf
    refine lv_iload_n hx hb dX6_include_4 rfl (lv_at hl 3 rfl) ?_
    refine lv_if_le (tgt := 109) hx hb dX6_include_5 (by decide) (fun c1 => ?_) (fun c1 => ?_)
    · have hf := fp hf c1
      cases hf
      exact r_v cx hp ⟨e18, fr⟩ dX6_include_109
    · have hf := fn hf c1
      refine lv_iconst (v := 0) hx hb dX6_include_8 (by decide) ?_
      refine lv_istore (lv' := [(4, .int 0), (0, .ref (adr E 18 0)), (1, .ref (adr E o 0)), (2, .int x2), (3, .int x3)]) hx hb dX6_include_9 hl (by decide) rfl (fun ls hl => ?_)
      obtain ⟨κ14, hc, hf⟩ := fb hf
      refine L_X6_include_11 l hN hT cx ho (fun u H locs ls eM e18 fr hp hl => ?_) _ hc eM e18 fr hp (lv_sub hl [1, 2, 3, 4, 0] rfl)
      refine lv_iinc (v := (x3 + (-1))) (lv' := [(3, .int (x3 + (-1))), (0, .ref (adr E 18 0)), (1, .ref (adr E o 0)), (2, .int x2)]) hx hb dX6_include_103 hl (k := 3) rfl rfl (by decide) rfl (fun ls hl => ?_)
      refine lv_goto (tgt := 4) hx hb dX6_include_106 (by decide) ?_
      exact ih  hf eM e18 fr hp (lv_sub hl [1, 2, 3, 0] rfl)
set_option maxRecDepth 100000 in
set_option maxHeartbeats 4000000 in
theorem c_X6_include (l : Launch) {E : Ev} (hN : 129 ≤ eN E) (hT : St E) {σ : SM} {o : Nat} {μ : OM} (ho : o < 11) (eM : σ o = μ) {κ : OM} (e18 : σ 18 = κ) {p2 : Int32} {κ' : OM} (hf : f_X6_include p2 μ κ = some κ') : Met l yX6_include (wC yX6_include cX6_include 7 none) rm_X6_include (va_Pc [.ref (adr E 18 0), .ref (adr E o 0), .int p2] (Wu E σ)) (va_Qv (fun u => u 18 = κ' ∧ ∀ q, q ≠ 18 → u q = σ q) (fun u t => Wu E u t) (eA E)) 0 0 (eA E) := by
  refine g_entry (lv := [(0, .ref (adr E 18 0)), (1, .ref (adr E o 0)), (2, .int p2)]) (by decide) (Nat.le_of_ble_eq_true rfl) rfl ?_
  intro p e s m below meth c cx hp ls hl
  have hx := cx.1.1
  have hb := cx.1.2.1
  have fr : ∀ q, q ≠ 18 → σ q = σ q := fun _ _ => rfl
  have d_M_18 : (o : Nat) ≠ 18 := by omega
  unfold f_X6_include at hf
  refine lv_sipush (v := 255) hx hb dX6_include_0 (by decide) ?_
  refine lv_istore_n (lv' := [(3, .int 255), (0, .ref (adr E 18 0)), (1, .ref (adr E o 0)), (2, .int p2)]) hx hb dX6_include_3 rfl hl (by decide) rfl (fun ls hl => ?_)
  exact L_X6_include_4 l hN hT cx ho _ hf eM e18 fr hp (lv_sub hl [1, 2, 3, 0] rfl)
abbrev rm_J6_bitCount_0f7a4 : Room := { frames := 0, cells := 0, slots := 0, locals := 0 }
set_option maxRecDepth 100000 in
set_option maxHeartbeats 4000000 in
theorem c_J6_bitCount_0f7a4 (l : Launch) {E : Ev} (hN : 129 ≤ eN E) (hT : St E) {σ : SM} {p0 : Int32} {rv : Int32} (hf : f_J6_bitCount_0f7a4 p0 = some rv) : Met l yJ6_bitCount_0f7a4 (wC yJ6_bitCount_0f7a4 cJ6_bitCount_0f7a4 1 (some .int)) rm_J6_bitCount_0f7a4 (va_Pc [.int p0] (Wu E σ)) (va_Qi (fun r u => rv = r ∧ σ = u) (fun u t => Wu E u t) (eA E)) 0 0 (eA E) := by
  refine g_entry (lv := [(0, .int p0)]) (by decide) (Nat.le_of_ble_eq_true rfl) rfl ?_
  intro p e s m below meth c cx hp ls hl
  have hx := cx.1.1
  have hb := cx.1.2.1
  have fr : ∀ q, σ q = σ q := fun _ => rfl
  unfold f_J6_bitCount_0f7a4 at hf
  refine lv_iload_n hx hb dJ6_bitCount_0f7a4_0 rfl (lv_at hl 0 rfl) ?_
  refine lv_iload_n hx hb dJ6_bitCount_0f7a4_1 rfl (lv_at hl 0 rfl) ?_
  refine lv_iconst (v := 1) hx hb dJ6_bitCount_0f7a4_2 (by decide) ?_
  refine lv_iushr hx hb dJ6_bitCount_0f7a4_3 rfl ?_
  refine lv_ldcw (v := 1431655765) hx hb cx.1.2.2.2.1 (cx.1.2.2.2.2 _ qV_J6_265) dJ6_bitCount_0f7a4_4 ?_
  refine lv_iand hx hb dJ6_bitCount_0f7a4_7 ?_
  refine lv_isub hx hb dJ6_bitCount_0f7a4_8 ?_
  obtain ⟨i1, x_e, hf⟩ := fl hf
  refine lv_nm x_e ?_
  refine lv_istore_n (lv' := [(0, .int i1)]) hx hb dJ6_bitCount_0f7a4_9 rfl hl (by decide) rfl (fun ls hl => ?_)
  refine lv_iload_n hx hb dJ6_bitCount_0f7a4_10 rfl (lv_at hl 0 rfl) ?_
  refine lv_ldcw (v := 858993459) hx hb cx.1.2.2.2.1 (cx.1.2.2.2.2 _ qV_J6_266) dJ6_bitCount_0f7a4_11 ?_
  refine lv_iand hx hb dJ6_bitCount_0f7a4_14 ?_
  refine lv_iload_n hx hb dJ6_bitCount_0f7a4_15 rfl (lv_at hl 0 rfl) ?_
  refine lv_iconst (v := 2) hx hb dJ6_bitCount_0f7a4_16 (by decide) ?_
  refine lv_iushr hx hb dJ6_bitCount_0f7a4_17 rfl ?_
  refine lv_ldcw (v := 858993459) hx hb cx.1.2.2.2.1 (cx.1.2.2.2.2 _ qV_J6_266) dJ6_bitCount_0f7a4_18 ?_
  refine lv_iand hx hb dJ6_bitCount_0f7a4_21 ?_
  refine lv_iadd hx hb dJ6_bitCount_0f7a4_22 ?_
  obtain ⟨i2, x_e, hf⟩ := fl hf
  refine lv_nm x_e ?_
  refine lv_istore_n (lv' := [(0, .int i2)]) hx hb dJ6_bitCount_0f7a4_23 rfl hl (by decide) rfl (fun ls hl => ?_)
  refine lv_iload_n hx hb dJ6_bitCount_0f7a4_24 rfl (lv_at hl 0 rfl) ?_
  refine lv_iload_n hx hb dJ6_bitCount_0f7a4_25 rfl (lv_at hl 0 rfl) ?_
  refine lv_iconst (v := 4) hx hb dJ6_bitCount_0f7a4_26 (by decide) ?_
  refine lv_iushr hx hb dJ6_bitCount_0f7a4_27 rfl ?_
  refine lv_iadd hx hb dJ6_bitCount_0f7a4_28 ?_
  refine lv_ldcw (v := 252645135) hx hb cx.1.2.2.2.1 (cx.1.2.2.2.2 _ qV_J6_267) dJ6_bitCount_0f7a4_29 ?_
  refine lv_iand hx hb dJ6_bitCount_0f7a4_32 ?_
  obtain ⟨i3, x_e, hf⟩ := fl hf
  refine lv_nm x_e ?_
  refine lv_istore_n (lv' := [(0, .int i3)]) hx hb dJ6_bitCount_0f7a4_33 rfl hl (by decide) rfl (fun ls hl => ?_)
  refine lv_iload_n hx hb dJ6_bitCount_0f7a4_34 rfl (lv_at hl 0 rfl) ?_
  refine lv_iload_n hx hb dJ6_bitCount_0f7a4_35 rfl (lv_at hl 0 rfl) ?_
  refine lv_bipush (v := 8) hx hb dJ6_bitCount_0f7a4_36 (by decide) ?_
  refine lv_iushr hx hb dJ6_bitCount_0f7a4_38 rfl ?_
  refine lv_iadd hx hb dJ6_bitCount_0f7a4_39 ?_
  obtain ⟨i4, x_e, hf⟩ := fl hf
  refine lv_nm x_e ?_
  refine lv_istore_n (lv' := [(0, .int i4)]) hx hb dJ6_bitCount_0f7a4_40 rfl hl (by decide) rfl (fun ls hl => ?_)
  refine lv_iload_n hx hb dJ6_bitCount_0f7a4_41 rfl (lv_at hl 0 rfl) ?_
  refine lv_iload_n hx hb dJ6_bitCount_0f7a4_42 rfl (lv_at hl 0 rfl) ?_
  refine lv_bipush (v := 16) hx hb dJ6_bitCount_0f7a4_43 (by decide) ?_
  refine lv_iushr hx hb dJ6_bitCount_0f7a4_45 rfl ?_
  refine lv_iadd hx hb dJ6_bitCount_0f7a4_46 ?_
  obtain ⟨i5, x_e, hf⟩ := fl hf
  refine lv_nm x_e ?_
  refine lv_istore_n (lv' := [(0, .int i5)]) hx hb dJ6_bitCount_0f7a4_47 rfl hl (by decide) rfl (fun ls hl => ?_)
  refine lv_iload_n hx hb dJ6_bitCount_0f7a4_48 rfl (lv_at hl 0 rfl) ?_
  refine lv_bipush (v := 63) hx hb dJ6_bitCount_0f7a4_49 (by decide) ?_
  refine lv_iand hx hb dJ6_bitCount_0f7a4_51 ?_
  cases hf
  exact r_i cx hp ⟨rfl, (funext fr).symm⟩ dJ6_bitCount_0f7a4_52
abbrev rm_X6_consider : Room := { frames := 0, cells := 0, slots := 0, locals := 0 }
set_option maxRecDepth 100000 in
set_option maxHeartbeats 4000000 in
theorem c_X6_consider (l : Launch) {E : Ev} (hN : 129 ≤ eN E) (hT : St E) {σ : SM} {κ : OM} (e18 : σ 18 = κ) {p1 : Int32} {p2 : Int32} {κ' : OM} (hf : f_X6_consider p1 p2 κ = some κ') : Met l yX6_consider (wC yX6_consider cX6_consider 3 none) rm_X6_consider (va_Pc [.ref (adr E 18 0), .int p1, .int p2] (Wu E σ)) (va_Qv (fun u => u 18 = κ' ∧ ∀ q, q ≠ 18 → u q = σ q) (fun u t => Wu E u t) (eA E)) 0 0 (eA E) := by
  refine g_entry (lv := [(0, .ref (adr E 18 0)), (1, .int p1), (2, .int p2)]) (by decide) (Nat.le_of_ble_eq_true rfl) rfl ?_
  intro p e s m below meth c cx hp ls hl
  have hx := cx.1.1
  have hb := cx.1.2.1
  have fr : ∀ q, q ≠ 18 → σ q = σ q := fun _ _ => rfl
  unfold f_X6_consider at hf
  refine lv_iload_n hx hb dX6_consider_0 rfl (lv_at hl 2 rfl) ?_
  refine lv_iconst (v := (-1)) hx hb dX6_consider_1 (by decide) ?_
  refine lv_icmp_eq (tgt := 39) hx hb dX6_consider_2 (by decide) (fun c1 => ?_) (fun c1 => ?_)
  · have hf := fp hf c1
    cases hf
    exact r_v cx hp ⟨e18, fr⟩ dX6_consider_39
  · have hf := fn hf c1
    refine lv_iload_n hx hb dX6_consider_5 rfl (lv_at hl 1 rfl) ?_
    refine lv_aload_n hx hb dX6_consider_6 rfl (lv_at hl 0 rfl) ?_
    refine gF_X6_15 e18 hN cx hp dX6_consider_7 ?_
    refine lv_icmp_gt (tgt := 29) hx hb dX6_consider_10 (by decide) (fun c2 => ?_) (fun c2 => ?_)
    · have hf := fp hf c2
      refine lv_aload_n hx hb dX6_consider_29 rfl (lv_at hl 0 rfl) ?_
      refine lv_iload_n hx hb dX6_consider_30 rfl (lv_at hl 1 rfl) ?_
      obtain ⟨κ3, e_l, hf⟩ := fl hf
      refine pF_X6_15 e18 hN cx hp dX6_consider_31 (fun u H locs e_u n_u hp => ?_)
      have e18 := e_u.trans e_l
      have fr : ∀ q, q ≠ 18 → u q = σ q := fun q h0 => (n_u q h0).trans (fr q h0)
      refine lv_aload_n hx hb dX6_consider_34 rfl (lv_at hl 0 rfl) ?_
      refine lv_iload_n hx hb dX6_consider_35 rfl (lv_at hl 2 rfl) ?_
      obtain ⟨κ4, e_l, hf⟩ := fl hf
      refine pF_X6_19 e18 hN cx hp dX6_consider_36 (fun u H locs e_u n_u hp => ?_)
      have e18 := e_u.trans e_l
      have fr : ∀ q, q ≠ 18 → u q = σ q := fun q h0 => (n_u q h0).trans (fr q h0)
      cases hf
      exact r_v cx hp ⟨e18, fr⟩ dX6_consider_39
    · have hf := fn hf c2
      refine lv_iload_n hx hb dX6_consider_13 rfl (lv_at hl 1 rfl) ?_
      refine lv_aload_n hx hb dX6_consider_14 rfl (lv_at hl 0 rfl) ?_
      refine gF_X6_15 e18 hN cx hp dX6_consider_15 ?_
      refine lv_icmp_ne (tgt := 39) hx hb dX6_consider_18 (by decide) (fun c5 => ?_) (fun c5 => ?_)
      · have hf := fn hf c5
        cases hf
        exact r_v cx hp ⟨e18, fr⟩ dX6_consider_39
      · have hf := fp hf c5
        refine lv_iload_n hx hb dX6_consider_21 rfl (lv_at hl 2 rfl) ?_
        refine lv_aload_n hx hb dX6_consider_22 rfl (lv_at hl 0 rfl) ?_
        refine gF_X6_19 e18 hN cx hp dX6_consider_23 ?_
        refine lv_icmp_ge (tgt := 39) hx hb dX6_consider_26 (by decide) (fun c6 => ?_) (fun c6 => ?_)
        · have hf := fp hf c6
          cases hf
          exact r_v cx hp ⟨e18, fr⟩ dX6_consider_39
        · have hf := fn hf c6
          refine lv_aload_n hx hb dX6_consider_29 rfl (lv_at hl 0 rfl) ?_
          refine lv_iload_n hx hb dX6_consider_30 rfl (lv_at hl 1 rfl) ?_
          obtain ⟨κ7, e_l, hf⟩ := fl hf
          refine pF_X6_15 e18 hN cx hp dX6_consider_31 (fun u H locs e_u n_u hp => ?_)
          have e18 := e_u.trans e_l
          have fr : ∀ q, q ≠ 18 → u q = σ q := fun q h0 => (n_u q h0).trans (fr q h0)
          refine lv_aload_n hx hb dX6_consider_34 rfl (lv_at hl 0 rfl) ?_
          refine lv_iload_n hx hb dX6_consider_35 rfl (lv_at hl 2 rfl) ?_
          obtain ⟨κ8, e_l, hf⟩ := fl hf
          refine pF_X6_19 e18 hN cx hp dX6_consider_36 (fun u H locs e_u n_u hp => ?_)
          have e18 := e_u.trans e_l
          have fr : ∀ q, q ≠ 18 → u q = σ q := fun q h0 => (n_u q h0).trans (fr q h0)
          cases hf
          exact r_v cx hp ⟨e18, fr⟩ dX6_consider_39
abbrev rm_X6_solve : Room := { frames := 3, cells := 0, slots := 0, locals := 69 }
set_option maxRecDepth 100000 in
set_option maxHeartbeats 4000000 in
theorem L_X6_solve_2 {p : Program} {e : Env} {s : State} {m : MethodId} {args : Array Value} {below : List Frame} {meth : Method} {c : Code} (l : Launch) {E : Ev} (hN : 129 ≤ eN E) (hT : St E) {σ : SM} {Q : State → Prop} (cx : Cx E p s m meth c args RX6 cX6_solve 3 none) {o : Nat} (ho : o < 11) {μ : OM} {κ' : OM} (K : ∀ (u : SM) (H : Heap) (locs : List Loc) (ls : Array Slot), u o = μ → u 18 = κ' → (∀ q, q ≠ 18 → u q = σ q) → Hp E u s H locs → lv_has ls 3 [(0, .ref (adr E 18 0)), (1, .ref (adr E o 0))] → W p l e rm_X6_solve s m args below meth c H locs 0 0 Q (F0 m 22 ls [])) : ∀ (n : Nat) {x2 : Int32} {κ : OM}, f_X6_solve_2  n x2 κ = some κ' → ∀ {u : SM} {H : Heap} {locs : List Loc} {ls : Array Slot}, u o = μ → u 18 = κ → (∀ q, q ≠ 18 → u q = σ q) → Hp E u s H locs → lv_has ls 3 [(0, .ref (adr E 18 0)), (1, .ref (adr E o 0)), (2, .int x2)] → W p l e rm_X6_solve s m args below meth c H locs 0 0 Q (F0 m 2 ls []) := by
  have hx := cx.1.1
  have hb := cx.1.2.1
  have d_M_18 : (o : Nat) ≠ 18 := by omega
  intro n
  induction n with
  | zero =>
    intro x2 κ hf
    exact absurd hf (by simp [f_X6_solve_2])
  | succ n ih =>
    intro x2 κ hf u H locs ls eM e18 fr hp hl
    rw [f_X6_solve_2] at hf
    refine lv_iload_n hx hb dX6_solve_2 rfl (lv_at hl 2 rfl) ?_
    refine lv_sipush (v := 256) hx hb dX6_solve_3 (by decide) ?_
    refine lv_icmp_ge (tgt := 22) hx hb dX6_solve_6 (by decide) (fun c1 => ?_) (fun c1 => ?_)
    · have hf := fp hf c1
      cases hf
      exact K _ _ _ _ eM e18 fr hp (lv_sub hl [0, 1] rfl)
    · have hf := fn hf c1
      refine lv_aload_n hx hb dX6_solve_9 rfl (lv_at hl 0 rfl) ?_
      refine gF_X6_9 rfl hN cx hp dX6_solve_10 ?_
      refine lv_iload_n hx hb dX6_solve_13 rfl (lv_at hl 2 rfl) ?_
      refine lv_iconst (v := (-1)) hx hb dX6_solve_14 (by decide) ?_
      obtain ⟨g_i, hf⟩ := fg hf
      obtain ⟨κ2, e_l, hf⟩ := fl hf
      refine sA_X6_1 e18 hN cx hp g_i dX6_solve_15 (fun u H locs e_u n_u hp => ?_)
      have e18 := e_u.trans e_l
      have eM := (n_u _ d_M_18).trans eM
      have fr : ∀ q, q ≠ 18 → u q = σ q := fun q h0 => (n_u q h0).trans (fr q h0)
      refine lv_iinc (v := (x2 + 1)) (lv' := [(2, .int (x2 + 1)), (0, .ref (adr E 18 0)), (1, .ref (adr E o 0))]) hx hb dX6_solve_16 hl (k := 2) rfl rfl (by decide) rfl (fun ls hl => ?_)
      refine lv_goto (tgt := 2) hx hb dX6_solve_19 (by decide) ?_
      exact ih  hf eM e18 fr hp (lv_sub hl [1, 2, 0] rfl)
set_option maxRecDepth 100000 in
set_option maxHeartbeats 4000000 in
theorem L_X6_solve_31 {p : Program} {e : Env} {s : State} {m : MethodId} {args : Array Value} {below : List Frame} {meth : Method} {c : Code} (l : Launch) {E : Ev} (hN : 129 ≤ eN E) (hT : St E) {σ : SM} {Q : State → Prop} (cx : Cx E p s m meth c args RX6 cX6_solve 3 none) {o : Nat} (ho : o < 11) {μ : OM} {κ' : OM} (K : ∀ (u : SM) (H : Heap) (locs : List Loc) (ls : Array Slot), u o = μ → u 18 = κ' → (∀ q, q ≠ 18 → u q = σ q) → Hp E u s H locs → lv_has ls 3 [(0, .ref (adr E 18 0))] → W p l e rm_X6_solve s m args below meth c H locs 0 0 Q (F0 m 51 ls [])) : ∀ (n : Nat) {x2 : Int32} {κ : OM}, f_X6_solve_31 μ n x2 κ = some κ' → ∀ {u : SM} {H : Heap} {locs : List Loc} {ls : Array Slot}, u o = μ → u 18 = κ → (∀ q, q ≠ 18 → u q = σ q) → Hp E u s H locs → lv_has ls 3 [(0, .ref (adr E 18 0)), (1, .ref (adr E o 0)), (2, .int x2)] → W p l e rm_X6_solve s m args below meth c H locs 0 0 Q (F0 m 31 ls []) := by
  have hx := cx.1.1
  have hb := cx.1.2.1
  have d_M_18 : (o : Nat) ≠ 18 := by omega
  intro n
  induction n with
  | zero =>
    intro x2 κ hf
    exact absurd hf (by simp [f_X6_solve_31])
  | succ n ih =>
    intro x2 κ hf u H locs ls eM e18 fr hp hl
    rw [f_X6_solve_31] at hf
    refine lv_iload_n hx hb dX6_solve_31 rfl (lv_at hl 2 rfl) ?_
    refine lv_aload_n hx hb dX6_solve_32 rfl (lv_at hl 1 rfl) ?_
    refine gF_X6_22 ho eM hN cx hp dX6_solve_33 ?_
    refine lv_icmp_ge (tgt := 51) hx hb dX6_solve_36 (by decide) (fun c5 => ?_) (fun c5 => ?_)
    · have hf := fp hf c5
      cases hf
      exact K _ _ _ _ eM e18 fr hp (lv_sub hl [0] rfl)
    · have hf := fn hf c5
      refine lv_aload_n hx hb dX6_solve_39 rfl (lv_at hl 0 rfl) ?_
      refine lv_aload_n hx hb dX6_solve_40 rfl (lv_at hl 1 rfl) ?_
      refine lv_iload_n hx hb dX6_solve_41 rfl (lv_at hl 2 rfl) ?_
      obtain ⟨κ6, hc, hf⟩ := fb hf
      refine x_v hp (y_V (As := [.ref (adr E o 0), .int x2]) (rest := []) cx hp hl (c_X6_include l hN hT ho eM e18 hc) (cw_X6_27 cx (mc := 0) (ms := 0) rfl rfl ⟨by decide, by decide⟩) (rC_X6 hN cx hp) rfl rfl (Nat.le_of_ble_eq_true rfl) dX6_solve_42 ⟨Nat.zero_le _, Nat.zero_le _⟩) (fun u_c H locs hq hp => ?_)
      obtain ⟨e_0, n_u⟩ := hq
      have e18 := e_0
      have eM := (n_u _ d_M_18).trans eM
      have fr : ∀ q, q ≠ 18 → u_c q = σ q := fun q h0 => (n_u q h0).trans (fr q h0)
      obtain ⟨u, rfl⟩ : ∃ z, u_c = z := ⟨_, rfl⟩
      refine lv_iinc (v := (x2 + 1)) (lv' := [(2, .int (x2 + 1)), (0, .ref (adr E 18 0)), (1, .ref (adr E o 0))]) hx hb dX6_solve_45 hl (k := 2) rfl rfl (by decide) rfl (fun ls hl => ?_)
      refine lv_goto (tgt := 31) hx hb dX6_solve_48 (by decide) ?_
      exact ih  hf eM e18 fr hp (lv_sub hl [1, 2, 0] rfl)
set_option maxRecDepth 100000 in
set_option maxHeartbeats 4000000 in
theorem L_X6_solve_63 {p : Program} {e : Env} {s : State} {m : MethodId} {args : Array Value} {below : List Frame} {meth : Method} {c : Code} (l : Launch) {E : Ev} (hN : 129 ≤ eN E) (hT : St E) {σ : SM} (cx : Cx E p s m meth c args RX6 cX6_solve 3 none) {o : Nat} (ho : o < 11) {μ : OM} {κ' : OM} : ∀ (n : Nat) {x2 : Int32} {κ : OM}, f_X6_solve_63  n x2 κ = some κ' → ∀ {u : SM} {H : Heap} {locs : List Loc} {ls : Array Slot}, u o = μ → u 18 = κ → (∀ q, q ≠ 18 → u q = σ q) → Hp E u s H locs → lv_has ls 3 [(0, .ref (adr E 18 0)), (2, .int x2)] → W p l e rm_X6_solve s m args below meth c H locs 0 0 (MQ below (va_Qv (fun u => u 18 = κ' ∧ ∀ q, q ≠ 18 → u q = σ q) (fun u t => Wu E u t) (eA E)) args s 0 0 (eA E)) (F0 m 63 ls []) := by
  have hx := cx.1.1
  have hb := cx.1.2.1
  have d_M_18 : (o : Nat) ≠ 18 := by omega
  intro n
  induction n with
  | zero =>
    intro x2 κ hf
    exact absurd hf (by simp [f_X6_solve_63])
  | succ n ih =>
    intro x2 κ hf u H locs ls eM e18 fr hp hl
    rw [f_X6_solve_63] at hf
    refine lv_iload_n hx hb dX6_solve_63 rfl (lv_at hl 1 rfl) ?_
    refine lv_sipush (v := 256) hx hb dX6_solve_64 (by decide) ?_
    refine lv_icmp_ge (tgt := 90) hx hb dX6_solve_67 (by decide) (fun c10 => ?_) (fun c10 => ?_)
    · have hf := fp hf c10
      cases hf
      exact r_v cx hp ⟨e18, fr⟩ dX6_solve_90
    · have hf := fn hf c10
      refine lv_aload_n hx hb dX6_solve_70 rfl (lv_at hl 0 rfl) ?_
      refine lv_iload_n hx hb dX6_solve_71 rfl (lv_at hl 1 rfl) ?_
      obtain ⟨r11, hc, hf⟩ := fb hf
      refine x_i hp (y_S (As := [.int x2]) (rest := [.ref (adr E 18 0)]) cx hp hl (c_J6_bitCount_0f7a4 l hN hT  hc) (cw_X6_31 cx (mc := 0) (ms := 0) rfl rfl ⟨by decide, by decide⟩) rfl rfl (Nat.le_of_ble_eq_true rfl) dX6_solve_72 ⟨Nat.zero_le _, Nat.zero_le _⟩) (fun r_c u_c H locs hq hp => ?_)
      obtain ⟨rfl, rfl⟩ := hq
      refine lv_aload_n hx hb dX6_solve_75 rfl (lv_at hl 0 rfl) ?_
      refine gF_X6_9 rfl hN cx hp dX6_solve_76 ?_
      refine lv_iload_n hx hb dX6_solve_79 rfl (lv_at hl 1 rfl) ?_
      obtain ⟨g_i, hf⟩ := fg hf
      refine lA_X6_1 e18 hN cx hp g_i dX6_solve_80 ?_
      obtain ⟨κ12, hc, hf⟩ := fb hf
      refine x_v hp (y_V (As := [.int r11, .int (κ.1 1 (Int32.toNatClampNeg x2))]) (rest := []) cx hp hl (c_X6_consider l hN hT e18 hc) (cw_X6_37 cx (mc := 0) (ms := 0) rfl rfl ⟨by decide, by decide⟩) (rC_X6 hN cx hp) rfl rfl (Nat.le_of_ble_eq_true rfl) dX6_solve_81 ⟨Nat.zero_le _, Nat.zero_le _⟩) (fun u_c H locs hq hp => ?_)
      obtain ⟨e_0, n_u⟩ := hq
      have e18 := e_0
      have eM := (n_u _ d_M_18).trans eM
      have fr : ∀ q, q ≠ 18 → u_c q = σ q := fun q h0 => (n_u q h0).trans (fr q h0)
      obtain ⟨u, rfl⟩ : ∃ z, u_c = z := ⟨_, rfl⟩
      refine lv_iinc (v := (x2 + 1)) (lv' := [(2, .int (x2 + 1)), (0, .ref (adr E 18 0))]) hx hb dX6_solve_84 hl (k := 1) rfl rfl (by decide) rfl (fun ls hl => ?_)
      refine lv_goto (tgt := 63) hx hb dX6_solve_87 (by decide) ?_
      exact ih  hf eM e18 fr hp (lv_sub hl [1, 0] rfl)
set_option maxRecDepth 100000 in
set_option maxHeartbeats 4000000 in
theorem c_X6_solve (l : Launch) {E : Ev} (hN : 129 ≤ eN E) (hT : St E) {σ : SM} {o : Nat} {μ : OM} (ho : o < 11) (eM : σ o = μ) {κ : OM} (e18 : σ 18 = κ)  {κ' : OM} (hf : f_X6_solve μ κ = some κ') : Met l yX6_solve (wC yX6_solve cX6_solve 3 none) rm_X6_solve (va_Pc [.ref (adr E 18 0), .ref (adr E o 0)] (Wu E σ)) (va_Qv (fun u => u 18 = κ' ∧ ∀ q, q ≠ 18 → u q = σ q) (fun u t => Wu E u t) (eA E)) 0 0 (eA E) := by
  refine g_entry (lv := [(0, .ref (adr E 18 0)), (1, .ref (adr E o 0))]) (by decide) (Nat.le_of_ble_eq_true rfl) rfl ?_
  intro p e s m below meth c cx hp ls hl
  have hx := cx.1.1
  have hb := cx.1.2.1
  have fr : ∀ q, q ≠ 18 → σ q = σ q := fun _ _ => rfl
  have d_M_18 : (o : Nat) ≠ 18 := by omega
  unfold f_X6_solve at hf
  refine lv_iconst (v := 1) hx hb dX6_solve_0 (by decide) ?_
  refine lv_istore_n (lv' := [(2, .int 1), (0, .ref (adr E 18 0)), (1, .ref (adr E o 0))]) hx hb dX6_solve_1 rfl hl (by decide) rfl (fun ls hl => ?_)
  obtain ⟨κ3, hc, hf⟩ := fb hf
  refine L_X6_solve_2 l hN hT cx ho (fun u H locs ls eM e18 fr hp hl => ?_) _ hc eM e18 fr hp (lv_sub hl [1, 2, 0] rfl)
  refine lv_aload_n hx hb dX6_solve_22 rfl (lv_at hl 0 rfl) ?_
  refine gF_X6_9 rfl hN cx hp dX6_solve_23 ?_
  refine lv_iconst (v := 0) hx hb dX6_solve_26 (by decide) ?_
  refine lv_iconst (v := 0) hx hb dX6_solve_27 (by decide) ?_
  obtain ⟨g_i, hf⟩ := fg hf
  obtain ⟨κ4, e_l, hf⟩ := fl hf
  refine sA_X6_1 e18 hN cx hp g_i dX6_solve_28 (fun u H locs e_u n_u hp => ?_)
  have e18 := e_u.trans e_l
  have eM := (n_u _ d_M_18).trans eM
  have fr : ∀ q, q ≠ 18 → u q = σ q := fun q h0 => (n_u q h0).trans (fr q h0)
  refine lv_iconst (v := 0) hx hb dX6_solve_29 (by decide) ?_
  refine lv_istore_n (lv' := [(2, .int 0), (0, .ref (adr E 18 0)), (1, .ref (adr E o 0))]) hx hb dX6_solve_30 rfl hl (by decide) rfl (fun ls hl => ?_)
  obtain ⟨κ7, hc, hf⟩ := fb hf
  refine L_X6_solve_31 l hN hT cx ho (fun u H locs ls eM e18 fr hp hl => ?_) _ hc eM e18 fr hp (lv_sub hl [1, 2, 0] rfl)
  refine lv_aload_n hx hb dX6_solve_51 rfl (lv_at hl 0 rfl) ?_
  refine lv_iconst (v := 0) hx hb dX6_solve_52 (by decide) ?_
  obtain ⟨κ8, e_l, hf⟩ := fl hf
  refine pF_X6_15 e18 hN cx hp dX6_solve_53 (fun u H locs e_u n_u hp => ?_)
  have e18 := e_u.trans e_l
  have eM := (n_u _ d_M_18).trans eM
  have fr : ∀ q, q ≠ 18 → u q = σ q := fun q h0 => (n_u q h0).trans (fr q h0)
  refine lv_aload_n hx hb dX6_solve_56 rfl (lv_at hl 0 rfl) ?_
  refine lv_iconst (v := 0) hx hb dX6_solve_57 (by decide) ?_
  obtain ⟨κ9, e_l, hf⟩ := fl hf
  refine pF_X6_19 e18 hN cx hp dX6_solve_58 (fun u H locs e_u n_u hp => ?_)
  have e18 := e_u.trans e_l
  have eM := (n_u _ d_M_18).trans eM
  have fr : ∀ q, q ≠ 18 → u q = σ q := fun q h0 => (n_u q h0).trans (fr q h0)
  refine lv_iconst (v := 1) hx hb dX6_solve_61 (by decide) ?_
  refine lv_istore_n (lv' := [(2, .int 1), (0, .ref (adr E 18 0))]) hx hb dX6_solve_62 rfl hl (by decide) rfl (fun ls hl => ?_)
  exact L_X6_solve_63 l hN hT cx ho _ hf eM e18 fr hp (lv_sub hl [1, 0] rfl)
abbrev rm_X10_isLetter : Room := { frames := 0, cells := 0, slots := 0, locals := 0 }
set_option maxRecDepth 100000 in
set_option maxHeartbeats 4000000 in
theorem c_X10_isLetter (l : Launch) {E : Ev} (hN : 129 ≤ eN E) (hT : St E) {σ : SM} {p0 : Int32} {rv : Int32} (hf : f_X10_isLetter p0 = some rv) : Met l yX10_isLetter (wC yX10_isLetter cX10_isLetter 1 (some .boolean)) rm_X10_isLetter (va_Pc [.int p0] (Wu E σ)) (va_Qi (fun r u => rv = r ∧ σ = u) (fun u t => Wu E u t) (eA E)) 0 0 (eA E) := by
  refine g_entry (lv := [(0, .int p0)]) (by decide) (Nat.le_of_ble_eq_true rfl) rfl ?_
  intro p e s m below meth c cx hp ls hl
  have hx := cx.1.1
  have hb := cx.1.2.1
  have fr : ∀ q, σ q = σ q := fun _ => rfl
  unfold f_X10_isLetter at hf
  refine lv_iload_n hx hb dX10_isLetter_0 rfl (lv_at hl 0 rfl) ?_
  refine lv_bipush (v := 97) hx hb dX10_isLetter_1 (by decide) ?_
  refine lv_icmp_lt (tgt := 16) hx hb dX10_isLetter_3 (by decide) (fun c1 => ?_) (fun c1 => ?_)
  · have hf := fp hf c1
    refine lv_iconst (v := 0) hx hb dX10_isLetter_16 (by decide) ?_
    cases hf
    exact r_z cx hp rfl ⟨rfl, (funext fr).symm⟩ dX10_isLetter_17
  · have hf := fn hf c1
    refine lv_iload_n hx hb dX10_isLetter_6 rfl (lv_at hl 0 rfl) ?_
    refine lv_bipush (v := 122) hx hb dX10_isLetter_7 (by decide) ?_
    refine lv_icmp_gt (tgt := 16) hx hb dX10_isLetter_9 (by decide) (fun c2 => ?_) (fun c2 => ?_)
    · have hf := fp hf c2
      refine lv_iconst (v := 0) hx hb dX10_isLetter_16 (by decide) ?_
      cases hf
      exact r_z cx hp rfl ⟨rfl, (funext fr).symm⟩ dX10_isLetter_17
    · have hf := fn hf c2
      refine lv_iconst (v := 1) hx hb dX10_isLetter_12 (by decide) ?_
      refine lv_goto (tgt := 17) hx hb dX10_isLetter_13 (by decide) ?_
      cases hf
      exact r_z cx hp rfl ⟨rfl, (funext fr).symm⟩ dX10_isLetter_17
abbrev rm_X10_readWord : Room := { frames := 1, cells := 0, slots := 0, locals := 21 }
set_option maxRecDepth 100000 in
set_option maxHeartbeats 4000000 in
theorem L_X10_readWord_5 {p : Program} {e : Env} {s : State} {m : MethodId} {args : Array Value} {below : List Frame} {meth : Method} {c : Code} (l : Launch) {E : Ev} (hN : 129 ≤ eN E) (hT : St E) {σ : SM} (cx : Cx E p s m meth c args RX10 cX10_readWord 1 none) {β : OM} {τ' : OM} : ∀ (n : Nat) {τ : OM}, f_X10_readWord_5 β n τ = some τ' → ∀ {u : SM} {H : Heap} {locs : List Loc} {ls : Array Slot}, u 12 = τ → u 13 = β → (∀ q, q ≠ 12 → u q = σ q) → Hp E u s H locs → lv_has ls 1 [(0, .ref (adr E 12 0))] → W p l e rm_X10_readWord s m args below meth c H locs 0 0 (MQ below (va_Qv (fun u => u 12 = τ' ∧ ∀ q, q ≠ 12 → u q = σ q) (fun u t => Wu E u t) (eA E)) args s 0 0 (eA E)) (F0 m 5 ls []) := by
  have hx := cx.1.1
  have hb := cx.1.2.1
  have d_13_12 : (13 : Nat) ≠ 12 := by decide
  intro n
  induction n with
  | zero =>
    intro τ hf
    exact absurd hf (by simp [f_X10_readWord_5])
  | succ n ih =>
    intro τ hf u H locs ls e12 e13 fr hp hl
    rw [f_X10_readWord_5] at hf
    refine lv_aload_n hx hb dX10_readWord_5 rfl (lv_at hl 0 rfl) ?_
    refine gF_X10_25 e12 hN cx hp dX10_readWord_6 ?_
    refine lv_aload_n hx hb dX10_readWord_9 rfl (lv_at hl 0 rfl) ?_
    refine gF_X10_12 rfl hN cx hp dX10_readWord_10 ?_
    refine gF_X10_38_13 e13 hN cx hp dX10_readWord_13 ?_
    refine lv_icmp_ge (tgt := 91) hx hb dX10_readWord_16 (by decide) (fun c2 => ?_) (fun c2 => ?_)
    · have hf := fp hf c2
      cases hf
      exact r_v cx hp ⟨e12, fr⟩ dX10_readWord_91
    · have hf := fn hf c2
      refine lv_aload_n hx hb dX10_readWord_19 rfl (lv_at hl 0 rfl) ?_
      refine gF_X10_12 rfl hN cx hp dX10_readWord_20 ?_
      refine lv_aload_n hx hb dX10_readWord_23 rfl (lv_at hl 0 rfl) ?_
      refine gF_X10_25 e12 hN cx hp dX10_readWord_24 ?_
      obtain ⟨r3, hc, hf⟩ := fb hf
      refine x_i hp (y_V (As := [.int (τ.1 0 3)]) (rest := []) cx hp hl (c_X2_byteAt_13 l hN hT e13 hc) (cw_X10_41 cx (mc := 0) (ms := 0) rfl rfl ⟨by decide, by decide⟩) (rC_X2_13 hN cx hp) rfl rfl (Nat.le_of_ble_eq_true rfl) dX10_readWord_27 ⟨Nat.zero_le _, Nat.zero_le _⟩) (fun r_c u_c H locs hq hp => ?_)
      obtain ⟨rfl, rfl⟩ := hq
      obtain ⟨r4, hc, hf⟩ := fb hf
      refine x_i hp (y_S (As := [.int r3]) (rest := []) cx hp hl (c_X10_isLetter l hN hT  hc) (cw_X10_45 cx (mc := 0) (ms := 0) rfl rfl ⟨by decide, by decide⟩) rfl rfl (Nat.le_of_ble_eq_true rfl) dX10_readWord_30 ⟨Nat.zero_le _, Nat.zero_le _⟩) (fun r_c u_c H locs hq hp => ?_)
      obtain ⟨rfl, rfl⟩ := hq
      refine lv_if_eq (tgt := 91) hx hb dX10_readWord_33 (by decide) (fun c5 => ?_) (fun c5 => ?_)
      · have hf := fp hf c5
        cases hf
        exact r_v cx hp ⟨e12, fr⟩ dX10_readWord_91
      · have hf := fn hf c5
        refine lv_aload_n hx hb dX10_readWord_36 rfl (lv_at hl 0 rfl) ?_
        refine lv_aload_n hx hb dX10_readWord_37 rfl (lv_at hl 0 rfl) ?_
        refine gF_X10_25 e12 hN cx hp dX10_readWord_38 ?_
        refine lv_aload_n hx hb dX10_readWord_41 rfl (lv_at hl 0 rfl) ?_
        refine gF_X10_22 e12 hN cx hp dX10_readWord_42 ?_
        refine lv_isub hx hb dX10_readWord_45 ?_
        refine lv_bipush (v := 6) hx hb dX10_readWord_46 (by decide) ?_
        refine lv_icmp_ge (tgt := 74) hx hb dX10_readWord_48 (by decide) (fun c6 => ?_) (fun c6 => ?_)
        · have hf := fp hf c6
          refine lv_lconst (v := 0) hx hb dX10_readWord_74 (by decide) ?_
          obtain ⟨τ7, e_l, hf⟩ := fl hf
          refine pF_X10_31 e12 hN cx hp dX10_readWord_75 (fun u H locs e_u n_u hp => ?_)
          have e12 := e_u.trans e_l
          have e13 := (n_u _ d_13_12).trans e13
          have fr : ∀ q, q ≠ 12 → u q = σ q := fun q h0 => (n_u q h0).trans (fr q h0)
          refine lv_aload_n hx hb dX10_readWord_78 rfl (lv_at hl 0 rfl) ?_
          refine lv_dup hx hb dX10_readWord_79 rfl ?_
          refine gF_X10_25 e12 hN cx hp dX10_readWord_80 ?_
          refine lv_iconst (v := 1) hx hb dX10_readWord_83 (by decide) ?_
          refine lv_iadd hx hb dX10_readWord_84 ?_
          obtain ⟨τ8, e_l, hf⟩ := fl hf
          refine pF_X10_25 e12 hN cx hp dX10_readWord_85 (fun u H locs e_u n_u hp => ?_)
          have e12 := e_u.trans e_l
          have e13 := (n_u _ d_13_12).trans e13
          have fr : ∀ q, q ≠ 12 → u q = σ q := fun q h0 => (n_u q h0).trans (fr q h0)
          refine lv_goto (tgt := 5) hx hb dX10_readWord_88 (by decide) ?_
          exact ih  hf e12 e13 fr hp (lv_sub hl [0] rfl)
        · have hf := fn hf c6
          refine lv_aload_n hx hb dX10_readWord_51 rfl (lv_at hl 0 rfl) ?_
          refine gF_X10_31 e12 hN cx hp dX10_readWord_52 ?_
          refine lv_bipush (v := 8) hx hb dX10_readWord_55 (by decide) ?_
          refine lv_lshl hx hb dX10_readWord_57 rfl ?_
          refine lv_aload_n hx hb dX10_readWord_58 rfl (lv_at hl 0 rfl) ?_
          refine gF_X10_12 rfl hN cx hp dX10_readWord_59 ?_
          refine lv_aload_n hx hb dX10_readWord_62 rfl (lv_at hl 0 rfl) ?_
          refine gF_X10_25 e12 hN cx hp dX10_readWord_63 ?_
          obtain ⟨r9, hc, hf⟩ := fb hf
          refine x_i hp (y_V (As := [.int (τ.1 0 3)]) (rest := [.long ((τ.2.1 0 5) <<< ((Int32.toInt64 8) &&& 63)), .ref (adr E 12 0)]) cx hp hl (c_X2_byteAt_13 l hN hT e13 hc) (cw_X10_41 cx (mc := 0) (ms := 0) rfl rfl ⟨by decide, by decide⟩) (rC_X2_13 hN cx hp) rfl rfl (Nat.le_of_ble_eq_true rfl) dX10_readWord_66 ⟨Nat.zero_le _, Nat.zero_le _⟩) (fun r_c u_c H locs hq hp => ?_)
          obtain ⟨rfl, rfl⟩ := hq
          refine lv_i2l hx hb dX10_readWord_69 rfl ?_
          refine lv_lor hx hb dX10_readWord_70 ?_
          refine lv_goto (tgt := 75) hx hb dX10_readWord_71 (by decide) ?_
          obtain ⟨τ10, e_l, hf⟩ := fl hf
          refine pF_X10_31 e12 hN cx hp dX10_readWord_75 (fun u H locs e_u n_u hp => ?_)
          have e12 := e_u.trans e_l
          have e13 := (n_u _ d_13_12).trans e13
          have fr : ∀ q, q ≠ 12 → u q = σ q := fun q h0 => (n_u q h0).trans (fr q h0)
          refine lv_aload_n hx hb dX10_readWord_78 rfl (lv_at hl 0 rfl) ?_
          refine lv_dup hx hb dX10_readWord_79 rfl ?_
          refine gF_X10_25 e12 hN cx hp dX10_readWord_80 ?_
          refine lv_iconst (v := 1) hx hb dX10_readWord_83 (by decide) ?_
          refine lv_iadd hx hb dX10_readWord_84 ?_
          obtain ⟨τ11, e_l, hf⟩ := fl hf
          refine pF_X10_25 e12 hN cx hp dX10_readWord_85 (fun u H locs e_u n_u hp => ?_)
          have e12 := e_u.trans e_l
          have e13 := (n_u _ d_13_12).trans e13
          have fr : ∀ q, q ≠ 12 → u q = σ q := fun q h0 => (n_u q h0).trans (fr q h0)
          refine lv_goto (tgt := 5) hx hb dX10_readWord_88 (by decide) ?_
          exact ih  hf e12 e13 fr hp (lv_sub hl [0] rfl)
set_option maxRecDepth 100000 in
set_option maxHeartbeats 4000000 in
theorem c_X10_readWord (l : Launch) {E : Ev} (hN : 129 ≤ eN E) (hT : St E) {σ : SM} {τ : OM} (e12 : σ 12 = τ) {β : OM} (e13 : σ 13 = β)  {τ' : OM} (hf : f_X10_readWord τ β = some τ') : Met l yX10_readWord (wC yX10_readWord cX10_readWord 1 none) rm_X10_readWord (va_Pc [.ref (adr E 12 0)] (Wu E σ)) (va_Qv (fun u => u 12 = τ' ∧ ∀ q, q ≠ 12 → u q = σ q) (fun u t => Wu E u t) (eA E)) 0 0 (eA E) := by
  refine g_entry (lv := [(0, .ref (adr E 12 0))]) (by decide) (Nat.le_of_ble_eq_true rfl) rfl ?_
  intro p e s m below meth c cx hp ls hl
  have hx := cx.1.1
  have hb := cx.1.2.1
  have fr : ∀ q, q ≠ 12 → σ q = σ q := fun _ _ => rfl
  have d_13_12 : (13 : Nat) ≠ 12 := by decide
  unfold f_X10_readWord at hf
  refine lv_aload_n hx hb dX10_readWord_0 rfl (lv_at hl 0 rfl) ?_
  refine lv_iconst (v := 1) hx hb dX10_readWord_1 (by decide) ?_
  obtain ⟨τ1, e_l, hf⟩ := fl hf
  refine pF_X10_18 e12 hN cx hp dX10_readWord_2 (fun u H locs e_u n_u hp => ?_)
  have e12 := e_u.trans e_l
  have e13 := (n_u _ d_13_12).trans e13
  have fr : ∀ q, q ≠ 12 → u q = σ q := fun q h0 => (n_u q h0).trans (fr q h0)
  exact L_X10_readWord_5 l hN hT cx  _ hf e12 e13 fr hp (lv_sub hl [0] rfl)
abbrev rm_X10_isDigit : Room := { frames := 0, cells := 0, slots := 0, locals := 0 }
set_option maxRecDepth 100000 in
set_option maxHeartbeats 4000000 in
theorem c_X10_isDigit (l : Launch) {E : Ev} (hN : 129 ≤ eN E) (hT : St E) {σ : SM} {p0 : Int32} {rv : Int32} (hf : f_X10_isDigit p0 = some rv) : Met l yX10_isDigit (wC yX10_isDigit cX10_isDigit 1 (some .boolean)) rm_X10_isDigit (va_Pc [.int p0] (Wu E σ)) (va_Qi (fun r u => rv = r ∧ σ = u) (fun u t => Wu E u t) (eA E)) 0 0 (eA E) := by
  refine g_entry (lv := [(0, .int p0)]) (by decide) (Nat.le_of_ble_eq_true rfl) rfl ?_
  intro p e s m below meth c cx hp ls hl
  have hx := cx.1.1
  have hb := cx.1.2.1
  have fr : ∀ q, σ q = σ q := fun _ => rfl
  unfold f_X10_isDigit at hf
  refine lv_iload_n hx hb dX10_isDigit_0 rfl (lv_at hl 0 rfl) ?_
  refine lv_bipush (v := 48) hx hb dX10_isDigit_1 (by decide) ?_
  refine lv_icmp_lt (tgt := 16) hx hb dX10_isDigit_3 (by decide) (fun c1 => ?_) (fun c1 => ?_)
  · have hf := fp hf c1
    refine lv_iconst (v := 0) hx hb dX10_isDigit_16 (by decide) ?_
    cases hf
    exact r_z cx hp rfl ⟨rfl, (funext fr).symm⟩ dX10_isDigit_17
  · have hf := fn hf c1
    refine lv_iload_n hx hb dX10_isDigit_6 rfl (lv_at hl 0 rfl) ?_
    refine lv_bipush (v := 57) hx hb dX10_isDigit_7 (by decide) ?_
    refine lv_icmp_gt (tgt := 16) hx hb dX10_isDigit_9 (by decide) (fun c2 => ?_) (fun c2 => ?_)
    · have hf := fp hf c2
      refine lv_iconst (v := 0) hx hb dX10_isDigit_16 (by decide) ?_
      cases hf
      exact r_z cx hp rfl ⟨rfl, (funext fr).symm⟩ dX10_isDigit_17
    · have hf := fn hf c2
      refine lv_iconst (v := 1) hx hb dX10_isDigit_12 (by decide) ?_
      refine lv_goto (tgt := 17) hx hb dX10_isDigit_13 (by decide) ?_
      cases hf
      exact r_z cx hp rfl ⟨rfl, (funext fr).symm⟩ dX10_isDigit_17
abbrev rm_X10_readNumber : Room := { frames := 1, cells := 0, slots := 0, locals := 21 }
set_option maxRecDepth 100000 in
set_option maxHeartbeats 4000000 in
theorem L_X10_readNumber_5 {p : Program} {e : Env} {s : State} {m : MethodId} {args : Array Value} {below : List Frame} {meth : Method} {c : Code} (l : Launch) {E : Ev} (hN : 129 ≤ eN E) (hT : St E) {σ : SM} (cx : Cx E p s m meth c args RX10 cX10_readNumber 1 none) {β : OM} {τ' : OM} : ∀ (n : Nat) {τ : OM}, f_X10_readNumber_5 β n τ = some τ' → ∀ {u : SM} {H : Heap} {locs : List Loc} {ls : Array Slot}, u 12 = τ → u 13 = β → (∀ q, q ≠ 12 → u q = σ q) → Hp E u s H locs → lv_has ls 1 [(0, .ref (adr E 12 0))] → W p l e rm_X10_readNumber s m args below meth c H locs 0 0 (MQ below (va_Qv (fun u => u 12 = τ' ∧ ∀ q, q ≠ 12 → u q = σ q) (fun u t => Wu E u t) (eA E)) args s 0 0 (eA E)) (F0 m 5 ls []) := by
  have hx := cx.1.1
  have hb := cx.1.2.1
  have d_13_12 : (13 : Nat) ≠ 12 := by decide
  intro n
  induction n with
  | zero =>
    intro τ hf
    exact absurd hf (by simp [f_X10_readNumber_5])
  | succ n ih =>
    intro τ hf u H locs ls e12 e13 fr hp hl
    rw [f_X10_readNumber_5] at hf
    refine lv_aload_n hx hb dX10_readNumber_5 rfl (lv_at hl 0 rfl) ?_
    refine gF_X10_25 e12 hN cx hp dX10_readNumber_6 ?_
    refine lv_aload_n hx hb dX10_readNumber_9 rfl (lv_at hl 0 rfl) ?_
    refine gF_X10_12 rfl hN cx hp dX10_readNumber_10 ?_
    refine gF_X10_38_13 e13 hN cx hp dX10_readNumber_13 ?_
    refine lv_icmp_ge (tgt := 85) hx hb dX10_readNumber_16 (by decide) (fun c2 => ?_) (fun c2 => ?_)
    · have hf := fp hf c2
      cases hf
      exact r_v cx hp ⟨e12, fr⟩ dX10_readNumber_85
    · have hf := fn hf c2
      refine lv_aload_n hx hb dX10_readNumber_19 rfl (lv_at hl 0 rfl) ?_
      refine gF_X10_12 rfl hN cx hp dX10_readNumber_20 ?_
      refine lv_aload_n hx hb dX10_readNumber_23 rfl (lv_at hl 0 rfl) ?_
      refine gF_X10_25 e12 hN cx hp dX10_readNumber_24 ?_
      obtain ⟨r3, hc, hf⟩ := fb hf
      refine x_i hp (y_V (As := [.int (τ.1 0 3)]) (rest := []) cx hp hl (c_X2_byteAt_13 l hN hT e13 hc) (cw_X10_41 cx (mc := 0) (ms := 0) rfl rfl ⟨by decide, by decide⟩) (rC_X2_13 hN cx hp) rfl rfl (Nat.le_of_ble_eq_true rfl) dX10_readNumber_27 ⟨Nat.zero_le _, Nat.zero_le _⟩) (fun r_c u_c H locs hq hp => ?_)
      obtain ⟨rfl, rfl⟩ := hq
      obtain ⟨r4, hc, hf⟩ := fb hf
      refine x_i hp (y_S (As := [.int r3]) (rest := []) cx hp hl (c_X10_isDigit l hN hT  hc) (cw_X10_52 cx (mc := 0) (ms := 0) rfl rfl ⟨by decide, by decide⟩) rfl rfl (Nat.le_of_ble_eq_true rfl) dX10_readNumber_30 ⟨Nat.zero_le _, Nat.zero_le _⟩) (fun r_c u_c H locs hq hp => ?_)
      obtain ⟨rfl, rfl⟩ := hq
      refine lv_if_eq (tgt := 85) hx hb dX10_readNumber_33 (by decide) (fun c5 => ?_) (fun c5 => ?_)
      · have hf := fp hf c5
        cases hf
        exact r_v cx hp ⟨e12, fr⟩ dX10_readNumber_85
      · have hf := fn hf c5
        refine lv_aload_n hx hb dX10_readNumber_36 rfl (lv_at hl 0 rfl) ?_
        refine gF_X10_28 e12 hN cx hp dX10_readNumber_37 ?_
        refine lv_sipush (v := 10000) hx hb dX10_readNumber_40 (by decide) ?_
        refine lv_icmp_ge (tgt := 72) hx hb dX10_readNumber_43 (by decide) (fun c6 => ?_) (fun c6 => ?_)
        · have hf := fp hf c6
          refine lv_aload_n hx hb dX10_readNumber_72 rfl (lv_at hl 0 rfl) ?_
          refine lv_dup hx hb dX10_readNumber_73 rfl ?_
          refine gF_X10_25 e12 hN cx hp dX10_readNumber_74 ?_
          refine lv_iconst (v := 1) hx hb dX10_readNumber_77 (by decide) ?_
          refine lv_iadd hx hb dX10_readNumber_78 ?_
          obtain ⟨τ7, e_l, hf⟩ := fl hf
          refine pF_X10_25 e12 hN cx hp dX10_readNumber_79 (fun u H locs e_u n_u hp => ?_)
          have e12 := e_u.trans e_l
          have e13 := (n_u _ d_13_12).trans e13
          have fr : ∀ q, q ≠ 12 → u q = σ q := fun q h0 => (n_u q h0).trans (fr q h0)
          refine lv_goto (tgt := 5) hx hb dX10_readNumber_82 (by decide) ?_
          exact ih  hf e12 e13 fr hp (lv_sub hl [0] rfl)
        · have hf := fn hf c6
          refine lv_aload_n hx hb dX10_readNumber_46 rfl (lv_at hl 0 rfl) ?_
          refine lv_bipush (v := 10) hx hb dX10_readNumber_47 (by decide) ?_
          refine lv_aload_n hx hb dX10_readNumber_49 rfl (lv_at hl 0 rfl) ?_
          refine gF_X10_28 e12 hN cx hp dX10_readNumber_50 ?_
          refine lv_imul hx hb dX10_readNumber_53 ?_
          refine lv_aload_n hx hb dX10_readNumber_54 rfl (lv_at hl 0 rfl) ?_
          refine gF_X10_12 rfl hN cx hp dX10_readNumber_55 ?_
          refine lv_aload_n hx hb dX10_readNumber_58 rfl (lv_at hl 0 rfl) ?_
          refine gF_X10_25 e12 hN cx hp dX10_readNumber_59 ?_
          obtain ⟨r8, hc, hf⟩ := fb hf
          refine x_i hp (y_V (As := [.int (τ.1 0 3)]) (rest := [.int (10 * (τ.1 0 4)), .ref (adr E 12 0)]) cx hp hl (c_X2_byteAt_13 l hN hT e13 hc) (cw_X10_41 cx (mc := 0) (ms := 0) rfl rfl ⟨by decide, by decide⟩) (rC_X2_13 hN cx hp) rfl rfl (Nat.le_of_ble_eq_true rfl) dX10_readNumber_62 ⟨Nat.zero_le _, Nat.zero_le _⟩) (fun r_c u_c H locs hq hp => ?_)
          obtain ⟨rfl, rfl⟩ := hq
          refine lv_iadd hx hb dX10_readNumber_65 ?_
          refine lv_bipush (v := 48) hx hb dX10_readNumber_66 (by decide) ?_
          refine lv_isub hx hb dX10_readNumber_68 ?_
          obtain ⟨τ9, e_l, hf⟩ := fl hf
          refine pF_X10_28 e12 hN cx hp dX10_readNumber_69 (fun u H locs e_u n_u hp => ?_)
          have e12 := e_u.trans e_l
          have e13 := (n_u _ d_13_12).trans e13
          have fr : ∀ q, q ≠ 12 → u q = σ q := fun q h0 => (n_u q h0).trans (fr q h0)
          refine lv_aload_n hx hb dX10_readNumber_72 rfl (lv_at hl 0 rfl) ?_
          refine lv_dup hx hb dX10_readNumber_73 rfl ?_
          refine gF_X10_25 e12 hN cx hp dX10_readNumber_74 ?_
          refine lv_iconst (v := 1) hx hb dX10_readNumber_77 (by decide) ?_
          refine lv_iadd hx hb dX10_readNumber_78 ?_
          obtain ⟨τ10, e_l, hf⟩ := fl hf
          refine pF_X10_25 e12 hN cx hp dX10_readNumber_79 (fun u H locs e_u n_u hp => ?_)
          have e12 := e_u.trans e_l
          have e13 := (n_u _ d_13_12).trans e13
          have fr : ∀ q, q ≠ 12 → u q = σ q := fun q h0 => (n_u q h0).trans (fr q h0)
          refine lv_goto (tgt := 5) hx hb dX10_readNumber_82 (by decide) ?_
          exact ih  hf e12 e13 fr hp (lv_sub hl [0] rfl)
set_option maxRecDepth 100000 in
set_option maxHeartbeats 4000000 in
theorem c_X10_readNumber (l : Launch) {E : Ev} (hN : 129 ≤ eN E) (hT : St E) {σ : SM} {τ : OM} (e12 : σ 12 = τ) {β : OM} (e13 : σ 13 = β)  {τ' : OM} (hf : f_X10_readNumber τ β = some τ') : Met l yX10_readNumber (wC yX10_readNumber cX10_readNumber 1 none) rm_X10_readNumber (va_Pc [.ref (adr E 12 0)] (Wu E σ)) (va_Qv (fun u => u 12 = τ' ∧ ∀ q, q ≠ 12 → u q = σ q) (fun u t => Wu E u t) (eA E)) 0 0 (eA E) := by
  refine g_entry (lv := [(0, .ref (adr E 12 0))]) (by decide) (Nat.le_of_ble_eq_true rfl) rfl ?_
  intro p e s m below meth c cx hp ls hl
  have hx := cx.1.1
  have hb := cx.1.2.1
  have fr : ∀ q, q ≠ 12 → σ q = σ q := fun _ _ => rfl
  have d_13_12 : (13 : Nat) ≠ 12 := by decide
  unfold f_X10_readNumber at hf
  refine lv_aload_n hx hb dX10_readNumber_0 rfl (lv_at hl 0 rfl) ?_
  refine lv_iconst (v := 2) hx hb dX10_readNumber_1 (by decide) ?_
  obtain ⟨τ1, e_l, hf⟩ := fl hf
  refine pF_X10_18 e12 hN cx hp dX10_readNumber_2 (fun u H locs e_u n_u hp => ?_)
  have e12 := e_u.trans e_l
  have e13 := (n_u _ d_13_12).trans e13
  have fr : ∀ q, q ≠ 12 → u q = σ q := fun q h0 => (n_u q h0).trans (fr q h0)
  exact L_X10_readNumber_5 l hN hT cx  _ hf e12 e13 fr hp (lv_sub hl [0] rfl)
abbrev rm_X10_next : Room := { frames := 2, cells := 0, slots := 0, locals := 41 }
set_option maxRecDepth 100000 in
set_option maxHeartbeats 4000000 in
theorem L_X10_next_8 {p : Program} {e : Env} {s : State} {m : MethodId} {args : Array Value} {below : List Frame} {meth : Method} {c : Code} (l : Launch) {E : Ev} (hN : 129 ≤ eN E) (hT : St E) {σ : SM} {Q : State → Prop} (cx : Cx E p s m meth c args RX10 cX10_next 2 none) {β : OM} {τ' : OM} (K : ∀ (u : SM) (H : Heap) (locs : List Loc) (ls : Array Slot), u 12 = τ' → u 13 = β → (∀ q, q ≠ 12 → u q = σ q) → Hp E u s H locs → lv_has ls 2 [(0, .ref (adr E 12 0))] → W p l e rm_X10_next s m args below meth c H locs 0 0 Q (F0 m 51 ls [])) : ∀ (n : Nat) {τ : OM}, f_X10_next_8 β n τ = some τ' → ∀ {u : SM} {H : Heap} {locs : List Loc} {ls : Array Slot}, u 12 = τ → u 13 = β → (∀ q, q ≠ 12 → u q = σ q) → Hp E u s H locs → lv_has ls 2 [(0, .ref (adr E 12 0))] → W p l e rm_X10_next s m args below meth c H locs 0 0 Q (F0 m 8 ls []) := by
  have hx := cx.1.1
  have hb := cx.1.2.1
  have d_13_12 : (13 : Nat) ≠ 12 := by decide
  intro n
  induction n with
  | zero =>
    intro τ hf
    exact absurd hf (by simp [f_X10_next_8])
  | succ n ih =>
    intro τ hf u H locs ls e12 e13 fr hp hl
    rw [f_X10_next_8] at hf
    refine lv_aload_n hx hb dX10_next_8 rfl (lv_at hl 0 rfl) ?_
    refine gF_X10_22 e12 hN cx hp dX10_next_9 ?_
    refine lv_aload_n hx hb dX10_next_12 rfl (lv_at hl 0 rfl) ?_
    refine gF_X10_12 rfl hN cx hp dX10_next_13 ?_
    refine gF_X10_38_13 e13 hN cx hp dX10_next_16 ?_
    refine lv_icmp_ge (tgt := 51) hx hb dX10_next_19 (by decide) (fun c2 => ?_) (fun c2 => ?_)
    · have hf := fp hf c2
      cases hf
      exact K _ _ _ _ e12 e13 fr hp (lv_sub hl [0] rfl)
    · have hf := fn hf c2
      refine lv_aload_n hx hb dX10_next_22 rfl (lv_at hl 0 rfl) ?_
      refine gF_X10_12 rfl hN cx hp dX10_next_23 ?_
      refine lv_aload_n hx hb dX10_next_26 rfl (lv_at hl 0 rfl) ?_
      refine gF_X10_22 e12 hN cx hp dX10_next_27 ?_
      obtain ⟨r3, hc, hf⟩ := fb hf
      refine x_i hp (y_V (As := [.int (τ.1 0 2)]) (rest := []) cx hp hl (c_X2_byteAt_13 l hN hT e13 hc) (cw_X10_41 cx (mc := 0) (ms := 0) rfl rfl ⟨by decide, by decide⟩) (rC_X2_13 hN cx hp) rfl rfl (Nat.le_of_ble_eq_true rfl) dX10_next_30 ⟨Nat.zero_le _, Nat.zero_le _⟩) (fun r_c u_c H locs hq hp => ?_)
      obtain ⟨rfl, rfl⟩ := hq
      refine lv_bipush (v := 32) hx hb dX10_next_33 (by decide) ?_
      refine lv_icmp_ne (tgt := 51) hx hb dX10_next_35 (by decide) (fun c4 => ?_) (fun c4 => ?_)
      · have hf := fn hf c4
        cases hf
        exact K _ _ _ _ e12 e13 fr hp (lv_sub hl [0] rfl)
      · have hf := fp hf c4
        refine lv_aload_n hx hb dX10_next_38 rfl (lv_at hl 0 rfl) ?_
        refine lv_dup hx hb dX10_next_39 rfl ?_
        refine gF_X10_22 e12 hN cx hp dX10_next_40 ?_
        refine lv_iconst (v := 1) hx hb dX10_next_43 (by decide) ?_
        refine lv_iadd hx hb dX10_next_44 ?_
        obtain ⟨τ5, e_l, hf⟩ := fl hf
        refine pF_X10_22 e12 hN cx hp dX10_next_45 (fun u H locs e_u n_u hp => ?_)
        have e12 := e_u.trans e_l
        have e13 := (n_u _ d_13_12).trans e13
        have fr : ∀ q, q ≠ 12 → u q = σ q := fun q h0 => (n_u q h0).trans (fr q h0)
        refine lv_goto (tgt := 8) hx hb dX10_next_48 (by decide) ?_
        exact ih  hf e12 e13 fr hp (lv_sub hl [0] rfl)
set_option maxRecDepth 100000 in
set_option maxHeartbeats 4000000 in
theorem c_X10_next (l : Launch) {E : Ev} (hN : 129 ≤ eN E) (hT : St E) {σ : SM} {τ : OM} (e12 : σ 12 = τ) {β : OM} (e13 : σ 13 = β)  {τ' : OM} (hf : f_X10_next τ β = some τ') : Met l yX10_next (wC yX10_next cX10_next 2 none) rm_X10_next (va_Pc [.ref (adr E 12 0)] (Wu E σ)) (va_Qv (fun u => u 12 = τ' ∧ ∀ q, q ≠ 12 → u q = σ q) (fun u t => Wu E u t) (eA E)) 0 0 (eA E) := by
  refine g_entry (lv := [(0, .ref (adr E 12 0))]) (by decide) (Nat.le_of_ble_eq_true rfl) rfl ?_
  intro p e s m below meth c cx hp ls hl
  have hx := cx.1.1
  have hb := cx.1.2.1
  have fr : ∀ q, q ≠ 12 → σ q = σ q := fun _ _ => rfl
  have d_13_12 : (13 : Nat) ≠ 12 := by decide
  unfold f_X10_next at hf
  refine lv_aload_n hx hb dX10_next_0 rfl (lv_at hl 0 rfl) ?_
  refine lv_aload_n hx hb dX10_next_1 rfl (lv_at hl 0 rfl) ?_
  refine gF_X10_25 e12 hN cx hp dX10_next_2 ?_
  obtain ⟨τ1, e_l, hf⟩ := fl hf
  refine pF_X10_22 e12 hN cx hp dX10_next_5 (fun u H locs e_u n_u hp => ?_)
  have e12 := e_u.trans e_l
  have e13 := (n_u _ d_13_12).trans e13
  have fr : ∀ q, q ≠ 12 → u q = σ q := fun q h0 => (n_u q h0).trans (fr q h0)
  obtain ⟨τ6, hc, hf⟩ := fb hf
  refine L_X10_next_8 l hN hT cx  (fun u H locs ls e12 e13 fr hp hl => ?_) _ hc e12 e13 fr hp (lv_sub hl [0] rfl)
  refine lv_aload_n hx hb dX10_next_51 rfl (lv_at hl 0 rfl) ?_
  refine lv_aload_n hx hb dX10_next_52 rfl (lv_at hl 0 rfl) ?_
  refine gF_X10_22 e12 hN cx hp dX10_next_53 ?_
  obtain ⟨τ7, e_l, hf⟩ := fl hf
  refine pF_X10_25 e12 hN cx hp dX10_next_56 (fun u H locs e_u n_u hp => ?_)
  have e12 := e_u.trans e_l
  have e13 := (n_u _ d_13_12).trans e13
  have fr : ∀ q, q ≠ 12 → u q = σ q := fun q h0 => (n_u q h0).trans (fr q h0)
  refine lv_aload_n hx hb dX10_next_59 rfl (lv_at hl 0 rfl) ?_
  refine lv_iconst (v := 0) hx hb dX10_next_60 (by decide) ?_
  obtain ⟨τ8, e_l, hf⟩ := fl hf
  refine pF_X10_28 e12 hN cx hp dX10_next_61 (fun u H locs e_u n_u hp => ?_)
  have e12 := e_u.trans e_l
  have e13 := (n_u _ d_13_12).trans e13
  have fr : ∀ q, q ≠ 12 → u q = σ q := fun q h0 => (n_u q h0).trans (fr q h0)
  refine lv_aload_n hx hb dX10_next_64 rfl (lv_at hl 0 rfl) ?_
  refine lv_lconst (v := 0) hx hb dX10_next_65 (by decide) ?_
  obtain ⟨τ9, e_l, hf⟩ := fl hf
  refine pF_X10_31 e12 hN cx hp dX10_next_66 (fun u H locs e_u n_u hp => ?_)
  have e12 := e_u.trans e_l
  have e13 := (n_u _ d_13_12).trans e13
  have fr : ∀ q, q ≠ 12 → u q = σ q := fun q h0 => (n_u q h0).trans (fr q h0)
  refine lv_aload_n hx hb dX10_next_69 rfl (lv_at hl 0 rfl) ?_
  refine gF_X10_12 rfl hN cx hp dX10_next_70 ?_
  refine lv_aload_n hx hb dX10_next_73 rfl (lv_at hl 0 rfl) ?_
  refine gF_X10_22 e12 hN cx hp dX10_next_74 ?_
  obtain ⟨r10, hc, hf⟩ := fb hf
  refine x_i hp (y_V (As := [.int (τ9.1 0 2)]) (rest := []) cx hp hl (c_X2_byteAt_13 l hN hT e13 hc) (cw_X10_41 cx (mc := 0) (ms := 0) rfl rfl ⟨by decide, by decide⟩) (rC_X2_13 hN cx hp) rfl rfl (Nat.le_of_ble_eq_true rfl) dX10_next_77 ⟨Nat.zero_le _, Nat.zero_le _⟩) (fun r_c u_c H locs hq hp => ?_)
  obtain ⟨rfl, rfl⟩ := hq
  refine lv_istore_n (lv' := [(1, .int r10), (0, .ref (adr E 12 0))]) hx hb dX10_next_80 rfl hl (by decide) rfl (fun ls hl => ?_)
  refine lv_iload_n hx hb dX10_next_81 rfl (lv_at hl 0 rfl) ?_
  refine lv_iconst (v := (-1)) hx hb dX10_next_82 (by decide) ?_
  refine lv_icmp_ne (tgt := 94) hx hb dX10_next_83 (by decide) (fun c11 => ?_) (fun c11 => ?_)
  · have hf := fn hf c11
    refine lv_iload_n hx hb dX10_next_94 rfl (lv_at hl 0 rfl) ?_
    obtain ⟨r12, hc, hf⟩ := fb hf
    refine x_i hp (y_S (As := [.int r10]) (rest := []) cx hp hl (c_X10_isLetter l hN hT  hc) (cw_X10_45 cx (mc := 0) (ms := 0) rfl rfl ⟨by decide, by decide⟩) rfl rfl (Nat.le_of_ble_eq_true rfl) dX10_next_95 ⟨Nat.zero_le _, Nat.zero_le _⟩) (fun r_c u_c H locs hq hp => ?_)
    obtain ⟨rfl, rfl⟩ := hq
    refine lv_if_eq (tgt := 108) hx hb dX10_next_98 (by decide) (fun c13 => ?_) (fun c13 => ?_)
    · have hf := fp hf c13
      refine lv_iload_n hx hb dX10_next_108 rfl (lv_at hl 0 rfl) ?_
      obtain ⟨r14, hc, hf⟩ := fb hf
      refine x_i hp (y_S (As := [.int r10]) (rest := []) cx hp hl (c_X10_isDigit l hN hT  hc) (cw_X10_52 cx (mc := 0) (ms := 0) rfl rfl ⟨by decide, by decide⟩) rfl rfl (Nat.le_of_ble_eq_true rfl) dX10_next_109 ⟨Nat.zero_le _, Nat.zero_le _⟩) (fun r_c u_c H locs hq hp => ?_)
      obtain ⟨rfl, rfl⟩ := hq
      refine lv_if_eq (tgt := 122) hx hb dX10_next_112 (by decide) (fun c15 => ?_) (fun c15 => ?_)
      · have hf := fp hf c15
        refine lv_aload_n hx hb dX10_next_122 rfl (lv_at hl 1 rfl) ?_
        refine lv_iload_n hx hb dX10_next_123 rfl (lv_at hl 0 rfl) ?_
        refine lv_bipush (v := 59) hx hb dX10_next_124 (by decide) ?_
        refine lv_icmp_ne (tgt := 133) hx hb dX10_next_126 (by decide) (fun c16 => ?_) (fun c16 => ?_)
        · have hf := fn hf c16
          refine lv_iconst (v := 4) hx hb dX10_next_133 (by decide) ?_
          obtain ⟨τ17, e_l, hf⟩ := fl hf
          refine pF_X10_18 e12 hN cx hp dX10_next_134 (fun u H locs e_u n_u hp => ?_)
          have e12 := e_u.trans e_l
          have e13 := (n_u _ d_13_12).trans e13
          have fr : ∀ q, q ≠ 12 → u q = σ q := fun q h0 => (n_u q h0).trans (fr q h0)
          refine lv_aload_n hx hb dX10_next_137 rfl (lv_at hl 1 rfl) ?_
          refine lv_aload_n hx hb dX10_next_138 rfl (lv_at hl 1 rfl) ?_
          refine gF_X10_22 e12 hN cx hp dX10_next_139 ?_
          refine lv_iconst (v := 1) hx hb dX10_next_142 (by decide) ?_
          refine lv_iadd hx hb dX10_next_143 ?_
          obtain ⟨τ18, e_l, hf⟩ := fl hf
          refine pF_X10_25 e12 hN cx hp dX10_next_144 (fun u H locs e_u n_u hp => ?_)
          have e12 := e_u.trans e_l
          have e13 := (n_u _ d_13_12).trans e13
          have fr : ∀ q, q ≠ 12 → u q = σ q := fun q h0 => (n_u q h0).trans (fr q h0)
          cases hf
          exact r_v cx hp ⟨e12, fr⟩ dX10_next_147
        · have hf := fp hf c16
          refine lv_iconst (v := 3) hx hb dX10_next_129 (by decide) ?_
          refine lv_goto (tgt := 134) hx hb dX10_next_130 (by decide) ?_
          obtain ⟨τ19, e_l, hf⟩ := fl hf
          refine pF_X10_18 e12 hN cx hp dX10_next_134 (fun u H locs e_u n_u hp => ?_)
          have e12 := e_u.trans e_l
          have e13 := (n_u _ d_13_12).trans e13
          have fr : ∀ q, q ≠ 12 → u q = σ q := fun q h0 => (n_u q h0).trans (fr q h0)
          refine lv_aload_n hx hb dX10_next_137 rfl (lv_at hl 1 rfl) ?_
          refine lv_aload_n hx hb dX10_next_138 rfl (lv_at hl 1 rfl) ?_
          refine gF_X10_22 e12 hN cx hp dX10_next_139 ?_
          refine lv_iconst (v := 1) hx hb dX10_next_142 (by decide) ?_
          refine lv_iadd hx hb dX10_next_143 ?_
          obtain ⟨τ20, e_l, hf⟩ := fl hf
          refine pF_X10_25 e12 hN cx hp dX10_next_144 (fun u H locs e_u n_u hp => ?_)
          have e12 := e_u.trans e_l
          have e13 := (n_u _ d_13_12).trans e13
          have fr : ∀ q, q ≠ 12 → u q = σ q := fun q h0 => (n_u q h0).trans (fr q h0)
          cases hf
          exact r_v cx hp ⟨e12, fr⟩ dX10_next_147
      · have hf := fn hf c15
        refine lv_aload_n hx hb dX10_next_115 rfl (lv_at hl 1 rfl) ?_
        obtain ⟨τ21, hc, hf⟩ := fb hf
        refine x_v hp (y_V (As := []) (rest := []) cx hp hl (c_X10_readNumber l hN hT e12 e13 hc) (cw_X10_55 cx (mc := 0) (ms := 0) rfl rfl ⟨by decide, by decide⟩) (rC_X10 hN cx hp) rfl rfl (Nat.le_of_ble_eq_true rfl) dX10_next_116 ⟨Nat.zero_le _, Nat.zero_le _⟩) (fun u_c H locs hq hp => ?_)
        obtain ⟨e_0, n_u⟩ := hq
        have e12 := e_0
        have e13 := (n_u _ d_13_12).trans e13
        have fr : ∀ q, q ≠ 12 → u_c q = σ q := fun q h0 => (n_u q h0).trans (fr q h0)
        obtain ⟨u, rfl⟩ : ∃ z, u_c = z := ⟨_, rfl⟩
        refine lv_goto (tgt := 147) hx hb dX10_next_119 (by decide) ?_
        cases hf
        exact r_v cx hp ⟨e12, fr⟩ dX10_next_147
    · have hf := fn hf c13
      refine lv_aload_n hx hb dX10_next_101 rfl (lv_at hl 1 rfl) ?_
      obtain ⟨τ22, hc, hf⟩ := fb hf
      refine x_v hp (y_V (As := []) (rest := []) cx hp hl (c_X10_readWord l hN hT e12 e13 hc) (cw_X10_49 cx (mc := 0) (ms := 0) rfl rfl ⟨by decide, by decide⟩) (rC_X10 hN cx hp) rfl rfl (Nat.le_of_ble_eq_true rfl) dX10_next_102 ⟨Nat.zero_le _, Nat.zero_le _⟩) (fun u_c H locs hq hp => ?_)
      obtain ⟨e_0, n_u⟩ := hq
      have e12 := e_0
      have e13 := (n_u _ d_13_12).trans e13
      have fr : ∀ q, q ≠ 12 → u_c q = σ q := fun q h0 => (n_u q h0).trans (fr q h0)
      obtain ⟨u, rfl⟩ : ∃ z, u_c = z := ⟨_, rfl⟩
      refine lv_goto (tgt := 147) hx hb dX10_next_105 (by decide) ?_
      cases hf
      exact r_v cx hp ⟨e12, fr⟩ dX10_next_147
  · have hf := fp hf c11
    refine lv_aload_n hx hb dX10_next_86 rfl (lv_at hl 1 rfl) ?_
    refine lv_iconst (v := 0) hx hb dX10_next_87 (by decide) ?_
    obtain ⟨τ23, e_l, hf⟩ := fl hf
    refine pF_X10_18 e12 hN cx hp dX10_next_88 (fun u H locs e_u n_u hp => ?_)
    have e12 := e_u.trans e_l
    have e13 := (n_u _ d_13_12).trans e13
    have fr : ∀ q, q ≠ 12 → u q = σ q := fun q h0 => (n_u q h0).trans (fr q h0)
    refine lv_goto (tgt := 147) hx hb dX10_next_91 (by decide) ?_
    cases hf
    exact r_v cx hp ⟨e12, fr⟩ dX10_next_147
abbrev rm_X10_rewind : Room := { frames := 3, cells := 0, slots := 0, locals := 62 }
set_option maxRecDepth 100000 in
set_option maxHeartbeats 4000000 in
theorem c_X10_rewind (l : Launch) {E : Ev} (hN : 129 ≤ eN E) (hT : St E) {σ : SM} {τ : OM} (e12 : σ 12 = τ) {β : OM} (e13 : σ 13 = β)  {τ' : OM} (hf : f_X10_rewind τ β = some τ') : Met l yX10_rewind (wC yX10_rewind cX10_rewind 1 none) rm_X10_rewind (va_Pc [.ref (adr E 12 0)] (Wu E σ)) (va_Qv (fun u => u 12 = τ' ∧ ∀ q, q ≠ 12 → u q = σ q) (fun u t => Wu E u t) (eA E)) 0 0 (eA E) := by
  refine g_entry (lv := [(0, .ref (adr E 12 0))]) (by decide) (Nat.le_of_ble_eq_true rfl) rfl ?_
  intro p e s m below meth c cx hp ls hl
  have hx := cx.1.1
  have hb := cx.1.2.1
  have fr : ∀ q, q ≠ 12 → σ q = σ q := fun _ _ => rfl
  have d_13_12 : (13 : Nat) ≠ 12 := by decide
  unfold f_X10_rewind at hf
  refine lv_aload_n hx hb dX10_rewind_0 rfl (lv_at hl 0 rfl) ?_
  refine lv_iconst (v := 0) hx hb dX10_rewind_1 (by decide) ?_
  obtain ⟨τ1, e_l, hf⟩ := fl hf
  refine pF_X10_25 e12 hN cx hp dX10_rewind_2 (fun u H locs e_u n_u hp => ?_)
  have e12 := e_u.trans e_l
  have e13 := (n_u _ d_13_12).trans e13
  have fr : ∀ q, q ≠ 12 → u q = σ q := fun q h0 => (n_u q h0).trans (fr q h0)
  refine lv_aload_n hx hb dX10_rewind_5 rfl (lv_at hl 0 rfl) ?_
  obtain ⟨τ2, hc, hf⟩ := fb hf
  refine x_v hp (y_V (As := []) (rest := []) cx hp hl (c_X10_next l hN hT e12 e13 hc) (cw_X10_35 cx (mc := 0) (ms := 0) rfl rfl ⟨by decide, by decide⟩) (rC_X10 hN cx hp) rfl rfl (Nat.le_of_ble_eq_true rfl) dX10_rewind_6 ⟨Nat.zero_le _, Nat.zero_le _⟩) (fun u_c H locs hq hp => ?_)
  obtain ⟨e_0, n_u⟩ := hq
  have e12 := e_0
  have e13 := (n_u _ d_13_12).trans e13
  have fr : ∀ q, q ≠ 12 → u_c q = σ q := fun q h0 => (n_u q h0).trans (fr q h0)
  obtain ⟨u, rfl⟩ : ∃ z, u_c = z := ⟨_, rfl⟩
  cases hf
  exact r_v cx hp ⟨e12, fr⟩ dX10_rewind_9
abbrev rm_X7_begin : Room := { frames := 4, cells := 0, slots := 0, locals := 82 }
set_option maxRecDepth 100000 in
set_option maxHeartbeats 4000000 in
theorem c_X7_begin (l : Launch) {E : Ev} (hN : 129 ≤ eN E) (hT : St E) {σ : SM} {π : OM} (e11 : σ 11 = π) {τ : OM} (e12 : σ 12 = τ) {β : OM} (e13 : σ 13 = β)  {π' : OM} {τ' : OM} (hf : f_X7_begin π τ β = some (π', τ')) : Met l yX7_begin (wC yX7_begin cX7_begin 1 none) rm_X7_begin (va_Pc [.ref (adr E 11 0)] (Wu E σ)) (va_Qv (fun u => u 11 = π' ∧ u 12 = τ' ∧ ∀ q, q ≠ 11 → q ≠ 12 → u q = σ q) (fun u t => Wu E u t) (eA E)) 0 0 (eA E) := by
  refine g_entry (lv := [(0, .ref (adr E 11 0))]) (by decide) (Nat.le_of_ble_eq_true rfl) rfl ?_
  intro p e s m below meth c cx hp ls hl
  have hx := cx.1.1
  have hb := cx.1.2.1
  have fr : ∀ q, q ≠ 11 → q ≠ 12 → σ q = σ q := fun _ _ _ => rfl
  have d_11_12 : (11 : Nat) ≠ 12 := by decide
  have d_12_11 : (12 : Nat) ≠ 11 := by decide
  have d_13_11 : (13 : Nat) ≠ 11 := by decide
  have d_13_12 : (13 : Nat) ≠ 12 := by decide
  unfold f_X7_begin at hf
  refine lv_aload_n hx hb dX7_begin_0 rfl (lv_at hl 0 rfl) ?_
  refine lv_iconst (v := 0) hx hb dX7_begin_1 (by decide) ?_
  obtain ⟨π1, e_l, hf⟩ := fl hf
  refine pF_X7_18 e11 hN cx hp dX7_begin_2 (fun u H locs e_u n_u hp => ?_)
  have e11 := e_u.trans e_l
  have e12 := (n_u _ d_12_11).trans e12
  have e13 := (n_u _ d_13_11).trans e13
  have fr : ∀ q, q ≠ 11 → q ≠ 12 → u q = σ q := fun q h0 h1 => (n_u q h0).trans (fr q h0 h1)
  refine lv_aload_n hx hb dX7_begin_5 rfl (lv_at hl 0 rfl) ?_
  refine lv_iconst (v := (-1)) hx hb dX7_begin_6 (by decide) ?_
  obtain ⟨π2, e_l, hf⟩ := fl hf
  refine pF_X7_22 e11 hN cx hp dX7_begin_7 (fun u H locs e_u n_u hp => ?_)
  have e11 := e_u.trans e_l
  have e12 := (n_u _ d_12_11).trans e12
  have e13 := (n_u _ d_13_11).trans e13
  have fr : ∀ q, q ≠ 11 → q ≠ 12 → u q = σ q := fun q h0 h1 => (n_u q h0).trans (fr q h0 h1)
  refine lv_aload_n hx hb dX7_begin_10 rfl (lv_at hl 0 rfl) ?_
  refine gF_X7_12 rfl hN cx hp dX7_begin_11 ?_
  obtain ⟨τ3, hc, hf⟩ := fb hf
  refine x_v hp (y_V (As := []) (rest := []) cx hp hl (c_X10_rewind l hN hT e12 e13 hc) (cw_X7_25 cx (mc := 0) (ms := 0) rfl rfl ⟨by decide, by decide⟩) (rC_X10 hN cx hp) rfl rfl (Nat.le_of_ble_eq_true rfl) dX7_begin_14 ⟨Nat.zero_le _, Nat.zero_le _⟩) (fun u_c H locs hq hp => ?_)
  obtain ⟨e_0, n_u⟩ := hq
  have e12 := e_0
  have e11 := (n_u _ d_11_12).trans e11
  have e13 := (n_u _ d_13_12).trans e13
  have fr : ∀ q, q ≠ 11 → q ≠ 12 → u_c q = σ q := fun q h0 h1 => (n_u q h1).trans (fr q h0 h1)
  obtain ⟨u, rfl⟩ : ∃ z, u_c = z := ⟨_, rfl⟩
  cases hf
  exact r_v cx hp ⟨e11, e12, fr⟩ dX7_begin_17
abbrev rm_X7_fail : Room := { frames := 0, cells := 0, slots := 0, locals := 0 }
set_option maxRecDepth 100000 in
set_option maxHeartbeats 4000000 in
theorem c_X7_fail (l : Launch) {E : Ev} (hN : 129 ≤ eN E) (hT : St E) {σ : SM} {π : OM} (e11 : σ 11 = π) {τ : OM} (e12 : σ 12 = τ) {p1 : Int32} {rv : Int32} {π' : OM} (hf : f_X7_fail p1 π τ = some (rv, π')) : Met l yX7_fail (wC yX7_fail cX7_fail 2 (some .boolean)) rm_X7_fail (va_Pc [.ref (adr E 11 0), .int p1] (Wu E σ)) (va_Qi (fun r u => rv = r ∧ u 11 = π' ∧ ∀ q, q ≠ 11 → u q = σ q) (fun u t => Wu E u t) (eA E)) 0 0 (eA E) := by
  refine g_entry (lv := [(0, .ref (adr E 11 0)), (1, .int p1)]) (by decide) (Nat.le_of_ble_eq_true rfl) rfl ?_
  intro p e s m below meth c cx hp ls hl
  have hx := cx.1.1
  have hb := cx.1.2.1
  have fr : ∀ q, q ≠ 11 → σ q = σ q := fun _ _ => rfl
  have d_12_11 : (12 : Nat) ≠ 11 := by decide
  unfold f_X7_fail at hf
  refine lv_aload_n hx hb dX7_fail_0 rfl (lv_at hl 0 rfl) ?_
  refine lv_iload_n hx hb dX7_fail_1 rfl (lv_at hl 1 rfl) ?_
  obtain ⟨π1, e_l, hf⟩ := fl hf
  refine pF_X7_18 e11 hN cx hp dX7_fail_2 (fun u H locs e_u n_u hp => ?_)
  have e11 := e_u.trans e_l
  have e12 := (n_u _ d_12_11).trans e12
  have fr : ∀ q, q ≠ 11 → u q = σ q := fun q h0 => (n_u q h0).trans (fr q h0)
  refine lv_aload_n hx hb dX7_fail_5 rfl (lv_at hl 0 rfl) ?_
  refine lv_aload_n hx hb dX7_fail_6 rfl (lv_at hl 0 rfl) ?_
  refine gF_X7_12 rfl hN cx hp dX7_fail_7 ?_
  refine gF_X7_28 e12 hN cx hp dX7_fail_10 ?_
  obtain ⟨π2, e_l, hf⟩ := fl hf
  refine pF_X7_22 e11 hN cx hp dX7_fail_13 (fun u H locs e_u n_u hp => ?_)
  have e11 := e_u.trans e_l
  have e12 := (n_u _ d_12_11).trans e12
  have fr : ∀ q, q ≠ 11 → u q = σ q := fun q h0 => (n_u q h0).trans (fr q h0)
  refine lv_iconst (v := 0) hx hb dX7_fail_16 (by decide) ?_
  cases hf
  exact r_z cx hp rfl ⟨rfl, e11, fr⟩ dX7_fail_17
abbrev rm_J0_coder_7d493 : Room := { frames := 0, cells := 0, slots := 0, locals := 0 }
set_option maxRecDepth 100000 in
set_option maxHeartbeats 4000000 in
theorem c_J0_coder_7d493 (l : Launch) {E : Ev} (hN : 129 ≤ eN E) (hT : St E) {σ : SM} {w0 : Nat} {rv : Int32} (hf : f_J0_coder_7d493 w0 = some rv) : Met l yJ0_coder_7d493 (wC yJ0_coder_7d493 cJ0_coder_7d493 1 (some .byte)) rm_J0_coder_7d493 (va_Pc [.ref (eK E w0)] (Wu E σ)) (va_Qi (fun r u => rv = r ∧ σ = u) (fun u t => Wu E u t) (eA E)) 0 0 (eA E) := by
  refine g_entry (lv := [(0, .ref (eK E w0))]) (by decide) (Nat.le_of_ble_eq_true rfl) rfl ?_
  intro p e s m below meth c cx hp ls hl
  have hx := cx.1.1
  have hb := cx.1.2.1
  have fr : ∀ q, σ q = σ q := fun _ => rfl
  unfold f_J0_coder_7d493 at hf
  refine va_gets hx hb (zS cx hT.2.1.1) hp.2 cx.1.2.2.2.1 (cx.1.2.2.2.2 _ qF_J0_38) (fun _ h => h) dJ0_coder_7d493_0 ?_
  refine lv_if_eq (tgt := 13) hx hb dJ0_coder_7d493_3 (by decide) (fun c_x => absurd c_x (by decide)) (fun _ => ?_)
  refine lv_aload_n hx hb dJ0_coder_7d493_6 rfl (lv_at hl 0 rfl) ?_
  obtain ⟨g_w, hf⟩ := fg hf
  refine vk_getf hx hb (ofS cx (hT.1 _ g_w).2.1) hp.2 cx.1.2.2.2.1 (cx.1.2.2.2.2 _ qF_J0_15) (fun _ h => h) dJ0_coder_7d493_7 ?_
  refine lv_goto (tgt := 14) hx hb dJ0_coder_7d493_10 (by decide) ?_
  cases hf
  exact r_z cx hp rfl ⟨rfl, (funext fr).symm⟩ dJ0_coder_7d493_14
theorem g46_J0_coder_7d493 {w0 : Nat} {r : Int32} (h : f_J0_coder_7d493 w0 = some r) : w0 < 46 := by
  unfold f_J0_coder_7d493 at h
  first
    | exact (fg h).1
    | (obtain ⟨_, h1, _⟩ := fb h; exact g46_J0_isLatin1_aae02 h1)
abbrev rm_J0_length_8abf5 : Room := { frames := 1, cells := 0, slots := 0, locals := 20 }
set_option maxRecDepth 100000 in
set_option maxHeartbeats 4000000 in
theorem c_J0_length_8abf5 (l : Launch) {E : Ev} (hN : 129 ≤ eN E) (hT : St E) {σ : SM} {w0 : Nat} {rv : Int32} (hf : f_J0_length_8abf5 w0 = some rv) : Met l yJ0_length_8abf5 (wC yJ0_length_8abf5 cJ0_length_8abf5 1 (some .int)) rm_J0_length_8abf5 (va_Pc [.ref (eK E w0)] (Wu E σ)) (va_Qi (fun r u => rv = r ∧ σ = u) (fun u t => Wu E u t) (eA E)) 0 0 (eA E) := by
  refine g_entry (lv := [(0, .ref (eK E w0))]) (by decide) (Nat.le_of_ble_eq_true rfl) rfl ?_
  intro p e s m below meth c cx hp ls hl
  have hx := cx.1.1
  have hb := cx.1.2.1
  have fr : ∀ q, σ q = σ q := fun _ => rfl
  unfold f_J0_length_8abf5 at hf
  refine lv_aload_n hx hb dJ0_length_8abf5_0 rfl (lv_at hl 0 rfl) ?_
  obtain ⟨g_w, hf⟩ := fg hf
  refine vk_getf hx hb (ofS cx (hT.1 _ g_w).2.2.1) hp.2 cx.1.2.2.2.1 (cx.1.2.2.2.2 _ qF_J0_9) (fun _ h => h) dJ0_length_8abf5_1 ?_
  obtain ⟨g_w, hf⟩ := fg hf
  refine va_tlen hx hb (tS cx (hT.1 _ g_w).2.2.2) hp.2 rfl dJ0_length_8abf5_4 ?_
  refine lv_aload_n hx hb dJ0_length_8abf5_5 rfl (lv_at hl 0 rfl) ?_
  obtain ⟨r1, hc, hf⟩ := fb hf
  refine x_i hp (y_V (As := []) (rest := [.int (nI (lens.getD w0 0))]) cx hp hl (c_J0_coder_7d493 l hN hT  hc) (cw_J0_335 cx (mc := 0) (ms := 0) rfl rfl ⟨by decide, by decide⟩) (rcS cx hp (hT.1 _ (g46_J0_coder_7d493 hc)).1) rfl rfl (Nat.le_of_ble_eq_true rfl) dJ0_length_8abf5_6 ⟨Nat.zero_le _, Nat.zero_le _⟩) (fun r_c u_c H locs hq hp => ?_)
  obtain ⟨rfl, rfl⟩ := hq
  refine lv_ishr hx hb dJ0_length_8abf5_9 ?_
  cases hf
  exact r_i cx hp ⟨rfl, (funext fr).symm⟩ dJ0_length_8abf5_10
theorem g46_J0_length_8abf5 {w0 : Nat} {r : Int32} (h : f_J0_length_8abf5 w0 = some r) : w0 < 46 := by
  unfold f_J0_length_8abf5 at h
  first
    | exact (fg h).1
    | (obtain ⟨_, h1, _⟩ := fb h; exact g46_J0_isLatin1_aae02 h1)
abbrev rm_J0_isLatin1_aae02 : Room := { frames := 0, cells := 0, slots := 0, locals := 0 }
set_option maxRecDepth 100000 in
set_option maxHeartbeats 4000000 in
theorem c_J0_isLatin1_aae02 (l : Launch) {E : Ev} (hN : 129 ≤ eN E) (hT : St E) {σ : SM} {w0 : Nat} {rv : Int32} (hf : f_J0_isLatin1_aae02 w0 = some rv) : Met l yJ0_isLatin1_aae02 (wC yJ0_isLatin1_aae02 cJ0_isLatin1_aae02 1 (some .boolean)) rm_J0_isLatin1_aae02 (va_Pc [.ref (eK E w0)] (Wu E σ)) (va_Qi (fun r u => rv = r ∧ σ = u) (fun u t => Wu E u t) (eA E)) 0 0 (eA E) := by
  refine g_entry (lv := [(0, .ref (eK E w0))]) (by decide) (Nat.le_of_ble_eq_true rfl) rfl ?_
  intro p e s m below meth c cx hp ls hl
  have hx := cx.1.1
  have hb := cx.1.2.1
  have fr : ∀ q, σ q = σ q := fun _ => rfl
  unfold f_J0_isLatin1_aae02 at hf
  refine va_gets hx hb (zS cx hT.2.1.1) hp.2 cx.1.2.2.2.1 (cx.1.2.2.2.2 _ qF_J0_38) (fun _ h => h) dJ0_isLatin1_aae02_0 ?_
  refine lv_if_eq (tgt := 17) hx hb dJ0_isLatin1_aae02_3 (by decide) (fun c_x => absurd c_x (by decide)) (fun _ => ?_)
  refine lv_aload_n hx hb dJ0_isLatin1_aae02_6 rfl (lv_at hl 0 rfl) ?_
  obtain ⟨g_w, hf⟩ := fg hf
  refine vk_getf hx hb (ofS cx (hT.1 _ g_w).2.1) hp.2 cx.1.2.2.2.1 (cx.1.2.2.2.2 _ qF_J0_15) (fun _ h => h) dJ0_isLatin1_aae02_7 ?_
  refine lv_if_ne (tgt := 17) hx hb dJ0_isLatin1_aae02_10 (by decide) (fun c_x => absurd c_x (by decide)) (fun _ => ?_)
  refine lv_iconst (v := 1) hx hb dJ0_isLatin1_aae02_13 (by decide) ?_
  refine lv_goto (tgt := 18) hx hb dJ0_isLatin1_aae02_14 (by decide) ?_
  cases hf
  exact r_z cx hp rfl ⟨rfl, (funext fr).symm⟩ dJ0_isLatin1_aae02_18
theorem g46_J0_isLatin1_aae02 {w0 : Nat} {r : Int32} (h : f_J0_isLatin1_aae02 w0 = some r) : w0 < 46 := by
  unfold f_J0_isLatin1_aae02 at h
  first
    | exact (fg h).1
    | (obtain ⟨_, h1, _⟩ := fb h; exact g46_J0_isLatin1_aae02 h1)
abbrev rm_J3_checkIndex_8e157 : Room := { frames := 0, cells := 0, slots := 0, locals := 0 }
set_option maxRecDepth 100000 in
set_option maxHeartbeats 4000000 in
theorem c_J3_checkIndex_8e157 (l : Launch) {E : Ev} (hN : 129 ≤ eN E) (hT : St E) {σ : SM} {v2 : Value} (k_v2 : v2.category = 1) {p0 : Int32} {p1 : Int32} {rv : Int32} (hf : f_J3_checkIndex_8e157 p0 p1 = some rv) : Met l yJ3_checkIndex_8e157 (wC yJ3_checkIndex_8e157 cJ3_checkIndex_8e157 3 (some .int)) rm_J3_checkIndex_8e157 (va_Pc [.int p0, .int p1, v2] (Wu E σ)) (va_Qi (fun r u => rv = r ∧ σ = u) (fun u t => Wu E u t) (eA E)) 0 0 (eA E) := by
  refine g_entry (lv := [(0, .int p0), (1, .int p1), (2, v2)]) (by decide) (lg_v3 _ _ k_v2) rfl ?_
  intro p e s m below meth c cx hp ls hl
  have hx := cx.1.1
  have hb := cx.1.2.1
  have fr : ∀ q, σ q = σ q := fun _ => rfl
  unfold f_J3_checkIndex_8e157 at hf
  refine lv_iload_n hx hb dJ3_checkIndex_8e157_0 rfl (lv_at hl 0 rfl) ?_
  refine lv_if_lt (tgt := 9) hx hb dJ3_checkIndex_8e157_1 (by decide) (fun c1 => ?_) (fun c1 => ?_)
  · have hf := fp hf c1
    cases hf
  · have hf := fn hf c1
    refine lv_iload_n hx hb dJ3_checkIndex_8e157_4 rfl (lv_at hl 0 rfl) ?_
    refine lv_iload_n hx hb dJ3_checkIndex_8e157_5 rfl (lv_at hl 1 rfl) ?_
    refine lv_icmp_lt (tgt := 16) hx hb dJ3_checkIndex_8e157_6 (by decide) (fun c2 => ?_) (fun c2 => ?_)
    · have hf := fp hf c2
      refine lv_iload_n hx hb dJ3_checkIndex_8e157_16 rfl (lv_at hl 0 rfl) ?_
      cases hf
      exact r_i cx hp ⟨rfl, (funext fr).symm⟩ dJ3_checkIndex_8e157_17
    · have hf := fn hf c2
      cases hf
abbrev rm_J0_checkIndex_df160 : Room := { frames := 1, cells := 0, slots := 0, locals := 22 }
set_option maxRecDepth 100000 in
set_option maxHeartbeats 4000000 in
theorem c_J0_checkIndex_df160 (l : Launch) {E : Ev} (hN : 129 ≤ eN E) (hT : St E) {σ : SM} {p0 : Int32} {p1 : Int32}  (hf : f_J0_checkIndex_df160 p0 p1 = some ()) : Met l yJ0_checkIndex_df160 (wC yJ0_checkIndex_df160 cJ0_checkIndex_df160 2 none) rm_J0_checkIndex_df160 (va_Pc [.int p0, .int p1] (Wu E σ)) (va_Qv (fun u => σ = u) (fun u t => Wu E u t) (eA E)) 0 0 (eA E) := by
  refine g_entry (lv := [(0, .int p0), (1, .int p1)]) (by decide) (Nat.le_of_ble_eq_true rfl) rfl ?_
  intro p e s m below meth c cx hp ls hl
  have hx := cx.1.1
  have hb := cx.1.2.1
  have fr : ∀ q, σ q = σ q := fun _ => rfl
  unfold f_J0_checkIndex_df160 at hf
  refine lv_iload_n hx hb dJ0_checkIndex_df160_0 rfl (lv_at hl 0 rfl) ?_
  refine lv_iload_n hx hb dJ0_checkIndex_df160_1 rfl (lv_at hl 1 rfl) ?_
  obtain ⟨v1, z_v, k_v1⟩ := zvS cx hT.2.1.2
  refine va_gets hx hb z_v hp.2 cx.1.2.2.2.1 (cx.1.2.2.2.2 _ qF_J0_1053) (fun _ h => h) dJ0_checkIndex_df160_2 ?_
  obtain ⟨r2, hc, hf⟩ := fb hf
  refine x_i hp (y_S (As := [.int p0, .int p1, v1]) (rest := []) cx hp hl (c_J3_checkIndex_8e157 l hN hT k_v1 hc) (cw_J0_1059 cx (mc := 0) (ms := 0) rfl rfl ⟨by decide, by decide⟩) rfl rfl (Nat.le_of_ble_eq_true rfl) dJ0_checkIndex_df160_5 ⟨Nat.zero_le _, Nat.zero_le _⟩) (fun r_c u_c H locs hq hp => ?_)
  obtain ⟨rfl, rfl⟩ := hq
  refine lv_pop hx hb dJ0_checkIndex_df160_8 rfl ?_
  cases hf
  exact r_v cx hp (funext fr).symm dJ0_checkIndex_df160_9
abbrev rm_J1_charAt_3b067 : Room := { frames := 2, cells := 0, slots := 0, locals := 43 }
set_option maxRecDepth 100000 in
set_option maxHeartbeats 4000000 in
theorem c_J1_charAt_3b067 (l : Launch) {E : Ev} (hN : 129 ≤ eN E) (hT : St E) {σ : SM} {w0 : Nat} {p1 : Int32} {rv : Int32} (hf : f_J1_charAt_3b067 w0 p1 = some rv) : Met l yJ1_charAt_3b067 (wC yJ1_charAt_3b067 cJ1_charAt_3b067 2 (some .char)) rm_J1_charAt_3b067 (va_Pc [.ref (eB E w0), .int p1] (Wu E σ)) (va_Qi (fun r u => rv = r ∧ σ = u) (fun u t => Wu E u t) (eA E)) 0 0 (eA E) := by
  refine g_entry (lv := [(0, .ref (eB E w0)), (1, .int p1)]) (by decide) (Nat.le_of_ble_eq_true rfl) rfl ?_
  intro p e s m below meth c cx hp ls hl
  have hx := cx.1.1
  have hb := cx.1.2.1
  have fr : ∀ q, σ q = σ q := fun _ => rfl
  unfold f_J1_charAt_3b067 at hf
  refine lv_iload_n hx hb dJ1_charAt_3b067_0 rfl (lv_at hl 1 rfl) ?_
  refine lv_aload_n hx hb dJ1_charAt_3b067_1 rfl (lv_at hl 0 rfl) ?_
  obtain ⟨g_w, hf⟩ := fg hf
  refine va_tlen hx hb (tS cx (hT.1 _ g_w).2.2.2) hp.2 rfl dJ1_charAt_3b067_2 ?_
  obtain ⟨_, hc, hf⟩ := fb hf
  refine x_v hp (y_S (As := [.int p1, .int (nI (lens.getD w0 0))]) (rest := []) cx hp hl (c_J0_checkIndex_df160 l hN hT  hc) (cw_J1_9 cx (mc := 0) (ms := 0) rfl rfl ⟨by decide, by decide⟩) rfl rfl (Nat.le_of_ble_eq_true rfl) dJ1_charAt_3b067_3 ⟨Nat.zero_le _, Nat.zero_le _⟩) (fun u_c H locs hq hp => ?_)
  obtain rfl := hq
  refine lv_aload_n hx hb dJ1_charAt_3b067_6 rfl (lv_at hl 0 rfl) ?_
  refine lv_iload_n hx hb dJ1_charAt_3b067_7 rfl (lv_at hl 1 rfl) ?_
  obtain ⟨g_w, hf⟩ := fg hf
  obtain ⟨g_i, hf⟩ := fg hf
  refine va_tb hx hb (tS cx (hT.1 _ g_w).2.2.2) hp.2 (inb_vp g_i) rfl dJ1_charAt_3b067_8 ?_
  refine lv_sipush (v := 255) hx hb dJ1_charAt_3b067_9 (by decide) ?_
  refine lv_iand hx hb dJ1_charAt_3b067_12 ?_
  refine lv_i2c hx hb dJ1_charAt_3b067_13 rfl ?_
  obtain ⟨g_z, hf⟩ := fg hf
  cases hf
  exact r_z cx hp (cz_n g_z) ⟨rfl, (funext fr).symm⟩ dJ1_charAt_3b067_14
abbrev rm_J0_charAt_5068e : Room := { frames := 3, cells := 0, slots := 0, locals := 64 }
set_option maxRecDepth 100000 in
set_option maxHeartbeats 4000000 in
theorem c_J0_charAt_5068e (l : Launch) {E : Ev} (hN : 129 ≤ eN E) (hT : St E) {σ : SM} {w0 : Nat} {p1 : Int32} {rv : Int32} (hf : f_J0_charAt_5068e w0 p1 = some rv) : Met l yJ0_charAt_5068e (wC yJ0_charAt_5068e cJ0_charAt_5068e 2 (some .char)) rm_J0_charAt_5068e (va_Pc [.ref (eK E w0), .int p1] (Wu E σ)) (va_Qi (fun r u => rv = r ∧ σ = u) (fun u t => Wu E u t) (eA E)) 0 0 (eA E) := by
  refine g_entry (lv := [(0, .ref (eK E w0)), (1, .int p1)]) (by decide) (Nat.le_of_ble_eq_true rfl) rfl ?_
  intro p e s m below meth c cx hp ls hl
  have hx := cx.1.1
  have hb := cx.1.2.1
  have fr : ∀ q, σ q = σ q := fun _ => rfl
  unfold f_J0_charAt_5068e at hf
  refine lv_aload_n hx hb dJ0_charAt_5068e_0 rfl (lv_at hl 0 rfl) ?_
  obtain ⟨r1, hc, hf⟩ := fb hf
  refine x_i hp (y_V (As := []) (rest := []) cx hp hl (c_J0_isLatin1_aae02 l hN hT  hc) (cw_J0_492 cx (mc := 0) (ms := 0) rfl rfl ⟨by decide, by decide⟩) (rcS cx hp (hT.1 _ (g46_J0_isLatin1_aae02 hc)).1) rfl rfl (Nat.le_of_ble_eq_true rfl) dJ0_charAt_5068e_1 ⟨Nat.zero_le _, Nat.zero_le _⟩) (fun r_c u_c H locs hq hp => ?_)
  obtain ⟨rfl, rfl⟩ := hq
  refine lv_if_eq (tgt := 16) hx hb dJ0_charAt_5068e_4 (by decide) (fun c2 => ?_) (fun c2 => ?_)
  · have hf := fp hf c2
    cases hf
  · have hf := fn hf c2
    refine lv_aload_n hx hb dJ0_charAt_5068e_7 rfl (lv_at hl 0 rfl) ?_
    obtain ⟨g_w, hf⟩ := fg hf
    refine vk_getf hx hb (ofS cx (hT.1 _ g_w).2.2.1) hp.2 cx.1.2.2.2.1 (cx.1.2.2.2.2 _ qF_J0_9) (fun _ h => h) dJ0_charAt_5068e_8 ?_
    refine lv_iload_n hx hb dJ0_charAt_5068e_11 rfl (lv_at hl 1 rfl) ?_
    obtain ⟨r3, hc, hf⟩ := fb hf
    refine x_i hp (y_S (As := [.ref (eB E w0), .int p1]) (rest := []) cx hp hl (c_J1_charAt_3b067 l hN hT  hc) (cw_J0_495 cx (mc := 0) (ms := 0) rfl rfl ⟨by decide, by decide⟩) rfl rfl (Nat.le_of_ble_eq_true rfl) dJ0_charAt_5068e_12 ⟨Nat.zero_le _, Nat.zero_le _⟩) (fun r_c u_c H locs hq hp => ?_)
    obtain ⟨rfl, rfl⟩ := hq
    obtain ⟨g_z, hf⟩ := fg hf
    cases hf
    exact r_z cx hp (cz_n g_z) ⟨rfl, (funext fr).symm⟩ dJ0_charAt_5068e_15
theorem g46_J0_charAt_5068e {w0 : Nat} {p1 : Int32} {r : Int32} (h : f_J0_charAt_5068e w0 p1 = some r) : w0 < 46 := by
  unfold f_J0_charAt_5068e at h
  first
    | exact (fg h).1
    | (obtain ⟨_, h1, _⟩ := fb h; exact g46_J0_isLatin1_aae02 h1)
abbrev rm_X10_isWord : Room := { frames := 4, cells := 0, slots := 0, locals := 85 }
set_option maxRecDepth 100000 in
set_option maxHeartbeats 4000000 in
theorem L_X10_isWord_28 {p : Program} {e : Env} {s : State} {m : MethodId} {args : Array Value} {below : List Frame} {meth : Method} {c : Code} (l : Launch) {E : Ev} (hN : 129 ≤ eN E) (hT : St E) {σ : SM} (cx : Cx E p s m meth c args RX10 cX10_isWord 3 (some .boolean)) {w1 : Nat} {τ : OM} {β : OM} {rv : Int32} : ∀ (n : Nat) {x2 : Int32}, f_X10_isWord_28 w1 τ β n x2 = some rv → ∀ {u : SM} {H : Heap} {locs : List Loc} {ls : Array Slot}, u 12 = τ → u 13 = β → (∀ q, u q = σ q) → Hp E u s H locs → lv_has ls 3 [(0, .ref (adr E 12 0)), (1, .ref (eK E w1)), (2, .int x2)] → W p l e rm_X10_isWord s m args below meth c H locs 0 0 (MQ below (va_Qi (fun r u => rv = r ∧ σ = u) (fun u t => Wu E u t) (eA E)) args s 0 0 (eA E)) (F0 m 28 ls []) := by
  have hx := cx.1.1
  have hb := cx.1.2.1
  intro n
  induction n with
  | zero =>
    intro x2 hf
    exact absurd hf (by simp [f_X10_isWord_28])
  | succ n ih =>
    intro x2 hf u H locs ls e12 e13 fr hp hl
    rw [f_X10_isWord_28] at hf
    refine lv_iload_n hx hb dX10_isWord_28 rfl (lv_at hl 2 rfl) ?_
    refine lv_aload_n hx hb dX10_isWord_29 rfl (lv_at hl 1 rfl) ?_
    obtain ⟨r4, hc, hf⟩ := fb hf
    refine x_i hp (y_V (As := []) (rest := [.int x2]) cx hp hl (c_J0_length_8abf5 l hN hT  hc) (cw_X10_58 cx (mc := 0) (ms := 0) rfl rfl ⟨by decide, by decide⟩) (rcS cx hp (hT.1 _ (g46_J0_length_8abf5 hc)).1) rfl rfl (Nat.le_of_ble_eq_true rfl) dX10_isWord_30 ⟨Nat.zero_le _, Nat.zero_le _⟩) (fun r_c u_c H locs hq hp => ?_)
    obtain ⟨rfl, rfl⟩ := hq
    refine lv_icmp_ge (tgt := 65) hx hb dX10_isWord_33 (by decide) (fun c5 => ?_) (fun c5 => ?_)
    · have hf := fp hf c5
      refine lv_iconst (v := 1) hx hb dX10_isWord_65 (by decide) ?_
      cases hf
      exact r_z cx hp rfl ⟨rfl, (funext fr).symm⟩ dX10_isWord_66
    · have hf := fn hf c5
      refine lv_aload_n hx hb dX10_isWord_36 rfl (lv_at hl 0 rfl) ?_
      refine gF_X10_12 rfl hN cx hp dX10_isWord_37 ?_
      refine lv_aload_n hx hb dX10_isWord_40 rfl (lv_at hl 0 rfl) ?_
      refine gF_X10_22 e12 hN cx hp dX10_isWord_41 ?_
      refine lv_iload_n hx hb dX10_isWord_44 rfl (lv_at hl 2 rfl) ?_
      refine lv_iadd hx hb dX10_isWord_45 ?_
      obtain ⟨r6, hc, hf⟩ := fb hf
      refine x_i hp (y_V (As := [.int ((τ.1 0 2) + x2)]) (rest := []) cx hp hl (c_X2_byteAt_13 l hN hT e13 hc) (cw_X10_41 cx (mc := 0) (ms := 0) rfl rfl ⟨by decide, by decide⟩) (rC_X2_13 hN cx hp) rfl rfl (Nat.le_of_ble_eq_true rfl) dX10_isWord_46 ⟨Nat.zero_le _, Nat.zero_le _⟩) (fun r_c u_c H locs hq hp => ?_)
      obtain ⟨rfl, rfl⟩ := hq
      refine lv_aload_n hx hb dX10_isWord_49 rfl (lv_at hl 1 rfl) ?_
      refine lv_iload_n hx hb dX10_isWord_50 rfl (lv_at hl 2 rfl) ?_
      obtain ⟨r7, hc, hf⟩ := fb hf
      refine x_i hp (y_V (As := [.int x2]) (rest := [.int r6]) cx hp hl (c_J0_charAt_5068e l hN hT  hc) (cw_X10_63 cx (mc := 0) (ms := 0) rfl rfl ⟨by decide, by decide⟩) (rcS cx hp (hT.1 _ (g46_J0_charAt_5068e hc)).1) rfl rfl (Nat.le_of_ble_eq_true rfl) dX10_isWord_51 ⟨Nat.zero_le _, Nat.zero_le _⟩) (fun r_c u_c H locs hq hp => ?_)
      obtain ⟨rfl, rfl⟩ := hq
      refine lv_icmp_eq (tgt := 59) hx hb dX10_isWord_54 (by decide) (fun c8 => ?_) (fun c8 => ?_)
      · have hf := fp hf c8
        refine lv_iinc (v := (x2 + 1)) (lv' := [(2, .int (x2 + 1)), (0, .ref (adr E 12 0)), (1, .ref (eK E w1))]) hx hb dX10_isWord_59 hl (k := 2) rfl rfl (by decide) rfl (fun ls hl => ?_)
        refine lv_goto (tgt := 28) hx hb dX10_isWord_62 (by decide) ?_
        exact ih  hf e12 e13 fr hp (lv_sub hl [1, 2, 0] rfl)
      · have hf := fn hf c8
        refine lv_iconst (v := 0) hx hb dX10_isWord_57 (by decide) ?_
        cases hf
        exact r_z cx hp rfl ⟨rfl, (funext fr).symm⟩ dX10_isWord_58
set_option maxRecDepth 100000 in
set_option maxHeartbeats 4000000 in
theorem c_X10_isWord (l : Launch) {E : Ev} (hN : 129 ≤ eN E) (hT : St E) {σ : SM} {τ : OM} (e12 : σ 12 = τ) {β : OM} (e13 : σ 13 = β) {w1 : Nat} {rv : Int32} (hf : f_X10_isWord w1 τ β = some rv) : Met l yX10_isWord (wC yX10_isWord cX10_isWord 3 (some .boolean)) rm_X10_isWord (va_Pc [.ref (adr E 12 0), .ref (eK E w1)] (Wu E σ)) (va_Qi (fun r u => rv = r ∧ σ = u) (fun u t => Wu E u t) (eA E)) 0 0 (eA E) := by
  refine g_entry (lv := [(0, .ref (adr E 12 0)), (1, .ref (eK E w1))]) (by decide) (Nat.le_of_ble_eq_true rfl) rfl ?_
  intro p e s m below meth c cx hp ls hl
  have hx := cx.1.1
  have hb := cx.1.2.1
  have fr : ∀ q, σ q = σ q := fun _ => rfl
  unfold f_X10_isWord at hf
  refine lv_aload_n hx hb dX10_isWord_0 rfl (lv_at hl 0 rfl) ?_
  refine gF_X10_18 e12 hN cx hp dX10_isWord_1 ?_
  refine lv_iconst (v := 1) hx hb dX10_isWord_4 (by decide) ?_
  refine lv_icmp_ne (tgt := 24) hx hb dX10_isWord_5 (by decide) (fun c1 => ?_) (fun c1 => ?_)
  · have hf := fn hf c1
    refine lv_iconst (v := 0) hx hb dX10_isWord_24 (by decide) ?_
    cases hf
    exact r_z cx hp rfl ⟨rfl, (funext fr).symm⟩ dX10_isWord_25
  · have hf := fp hf c1
    refine lv_aload_n hx hb dX10_isWord_8 rfl (lv_at hl 0 rfl) ?_
    refine gF_X10_25 e12 hN cx hp dX10_isWord_9 ?_
    refine lv_aload_n hx hb dX10_isWord_12 rfl (lv_at hl 0 rfl) ?_
    refine gF_X10_22 e12 hN cx hp dX10_isWord_13 ?_
    refine lv_isub hx hb dX10_isWord_16 ?_
    refine lv_aload_n hx hb dX10_isWord_17 rfl (lv_at hl 1 rfl) ?_
    obtain ⟨r2, hc, hf⟩ := fb hf
    refine x_i hp (y_V (As := []) (rest := [.int ((τ.1 0 3) - (τ.1 0 2))]) cx hp hl (c_J0_length_8abf5 l hN hT  hc) (cw_X10_58 cx (mc := 0) (ms := 0) rfl rfl ⟨by decide, by decide⟩) (rcS cx hp (hT.1 _ (g46_J0_length_8abf5 hc)).1) rfl rfl (Nat.le_of_ble_eq_true rfl) dX10_isWord_18 ⟨Nat.zero_le _, Nat.zero_le _⟩) (fun r_c u_c H locs hq hp => ?_)
    obtain ⟨rfl, rfl⟩ := hq
    refine lv_icmp_eq (tgt := 26) hx hb dX10_isWord_21 (by decide) (fun c3 => ?_) (fun c3 => ?_)
    · have hf := fp hf c3
      refine lv_iconst (v := 0) hx hb dX10_isWord_26 (by decide) ?_
      refine lv_istore_n (lv' := [(2, .int 0), (0, .ref (adr E 12 0)), (1, .ref (eK E w1))]) hx hb dX10_isWord_27 rfl hl (by decide) rfl (fun ls hl => ?_)
      exact L_X10_isWord_28 l hN hT cx  _ hf e12 e13 fr hp (lv_sub hl [1, 2, 0] rfl)
    · have hf := fn hf c3
      refine lv_iconst (v := 0) hx hb dX10_isWord_24 (by decide) ?_
      cases hf
      exact r_z cx hp rfl ⟨rfl, (funext fr).symm⟩ dX10_isWord_25
abbrev rm_X7_takeWord : Room := { frames := 5, cells := 0, slots := 0, locals := 107 }
set_option maxRecDepth 100000 in
set_option maxHeartbeats 4000000 in
theorem c_X7_takeWord (l : Launch) {E : Ev} (hN : 129 ≤ eN E) (hT : St E) {σ : SM} {π : OM} (e11 : σ 11 = π) {τ : OM} (e12 : σ 12 = τ) {β : OM} (e13 : σ 13 = β) {w1 : Nat} {rv : Int32} {π' : OM} {τ' : OM} (hf : f_X7_takeWord w1 π τ β = some (rv, π', τ')) : Met l yX7_takeWord (wC yX7_takeWord cX7_takeWord 2 (some .boolean)) rm_X7_takeWord (va_Pc [.ref (adr E 11 0), .ref (eK E w1)] (Wu E σ)) (va_Qi (fun r u => rv = r ∧ u 11 = π' ∧ u 12 = τ' ∧ ∀ q, q ≠ 11 → q ≠ 12 → u q = σ q) (fun u t => Wu E u t) (eA E)) 0 0 (eA E) := by
  refine g_entry (lv := [(0, .ref (adr E 11 0)), (1, .ref (eK E w1))]) (by decide) (Nat.le_of_ble_eq_true rfl) rfl ?_
  intro p e s m below meth c cx hp ls hl
  have hx := cx.1.1
  have hb := cx.1.2.1
  have fr : ∀ q, q ≠ 11 → q ≠ 12 → σ q = σ q := fun _ _ _ => rfl
  have d_11_12 : (11 : Nat) ≠ 12 := by decide
  have d_12_11 : (12 : Nat) ≠ 11 := by decide
  have d_13_11 : (13 : Nat) ≠ 11 := by decide
  have d_13_12 : (13 : Nat) ≠ 12 := by decide
  unfold f_X7_takeWord at hf
  refine lv_aload_n hx hb dX7_takeWord_0 rfl (lv_at hl 0 rfl) ?_
  refine gF_X7_12 rfl hN cx hp dX7_takeWord_1 ?_
  refine lv_aload_n hx hb dX7_takeWord_4 rfl (lv_at hl 1 rfl) ?_
  obtain ⟨r1, hc, hf⟩ := fb hf
  refine x_i hp (y_V (As := [.ref (eK E w1)]) (rest := []) cx hp hl (c_X10_isWord l hN hT e12 e13 hc) (cw_X7_31 cx (mc := 0) (ms := 0) rfl rfl ⟨by decide, by decide⟩) (rC_X10 hN cx hp) rfl rfl (Nat.le_of_ble_eq_true rfl) dX7_takeWord_5 ⟨Nat.zero_le _, Nat.zero_le _⟩) (fun r_c u_c H locs hq hp => ?_)
  obtain ⟨rfl, rfl⟩ := hq
  refine lv_if_ne (tgt := 17) hx hb dX7_takeWord_8 (by decide) (fun c2 => ?_) (fun c2 => ?_)
  · have hf := fn hf c2
    refine lv_aload_n hx hb dX7_takeWord_17 rfl (lv_at hl 0 rfl) ?_
    refine gF_X7_12 rfl hN cx hp dX7_takeWord_18 ?_
    obtain ⟨τ3, hc, hf⟩ := fb hf
    refine x_v hp (y_V (As := []) (rest := []) cx hp hl (c_X10_next l hN hT e12 e13 hc) (cw_X7_39 cx (mc := 0) (ms := 0) rfl rfl ⟨by decide, by decide⟩) (rC_X10 hN cx hp) rfl rfl (Nat.le_of_ble_eq_true rfl) dX7_takeWord_21 ⟨Nat.zero_le _, Nat.zero_le _⟩) (fun u_c H locs hq hp => ?_)
    obtain ⟨e_0, n_u⟩ := hq
    have e12 := e_0
    have e11 := (n_u _ d_11_12).trans e11
    have e13 := (n_u _ d_13_12).trans e13
    have fr : ∀ q, q ≠ 11 → q ≠ 12 → u_c q = σ q := fun q h0 h1 => (n_u q h1).trans (fr q h0 h1)
    obtain ⟨u, rfl⟩ : ∃ z, u_c = z := ⟨_, rfl⟩
    refine lv_iconst (v := 1) hx hb dX7_takeWord_24 (by decide) ?_
    cases hf
    exact r_z cx hp rfl ⟨rfl, e11, e12, fr⟩ dX7_takeWord_25
  · have hf := fp hf c2
    refine lv_aload_n hx hb dX7_takeWord_11 rfl (lv_at hl 0 rfl) ?_
    refine lv_iconst (v := 1) hx hb dX7_takeWord_12 (by decide) ?_
    obtain ⟨r4, π5, hc, hf⟩ := fb2 hf
    refine x_i hp (y_V (As := [.int 1]) (rest := []) cx hp hl (c_X7_fail l hN hT e11 e12 hc) (cw_X7_35 cx (mc := 0) (ms := 0) rfl rfl ⟨by decide, by decide⟩) (rC_X7 hN cx hp) rfl rfl (Nat.le_of_ble_eq_true rfl) dX7_takeWord_13 ⟨Nat.zero_le _, Nat.zero_le _⟩) (fun r_c u_c H locs hq hp => ?_)
    obtain ⟨rfl, e_0, n_u⟩ := hq
    have e11 := e_0
    have e12 := (n_u _ d_12_11).trans e12
    have e13 := (n_u _ d_13_11).trans e13
    have fr : ∀ q, q ≠ 11 → q ≠ 12 → u_c q = σ q := fun q h0 h1 => (n_u q h0).trans (fr q h0 h1)
    obtain ⟨u, rfl⟩ : ∃ z, u_c = z := ⟨_, rfl⟩
    obtain ⟨g_z, hf⟩ := fg hf
    cases hf
    exact r_z cx hp (bz_n g_z) ⟨rfl, e11, e12, fr⟩ dX7_takeWord_16
abbrev rm_X7_takeSemicolon : Room := { frames := 3, cells := 0, slots := 0, locals := 62 }
set_option maxRecDepth 100000 in
set_option maxHeartbeats 4000000 in
theorem c_X7_takeSemicolon (l : Launch) {E : Ev} (hN : 129 ≤ eN E) (hT : St E) {σ : SM} {π : OM} (e11 : σ 11 = π) {τ : OM} (e12 : σ 12 = τ) {β : OM} (e13 : σ 13 = β)  {rv : Int32} {π' : OM} {τ' : OM} (hf : f_X7_takeSemicolon π τ β = some (rv, π', τ')) : Met l yX7_takeSemicolon (wC yX7_takeSemicolon cX7_takeSemicolon 1 (some .boolean)) rm_X7_takeSemicolon (va_Pc [.ref (adr E 11 0)] (Wu E σ)) (va_Qi (fun r u => rv = r ∧ u 11 = π' ∧ u 12 = τ' ∧ ∀ q, q ≠ 11 → q ≠ 12 → u q = σ q) (fun u t => Wu E u t) (eA E)) 0 0 (eA E) := by
  refine g_entry (lv := [(0, .ref (adr E 11 0))]) (by decide) (Nat.le_of_ble_eq_true rfl) rfl ?_
  intro p e s m below meth c cx hp ls hl
  have hx := cx.1.1
  have hb := cx.1.2.1
  have fr : ∀ q, q ≠ 11 → q ≠ 12 → σ q = σ q := fun _ _ _ => rfl
  have d_11_12 : (11 : Nat) ≠ 12 := by decide
  have d_12_11 : (12 : Nat) ≠ 11 := by decide
  have d_13_11 : (13 : Nat) ≠ 11 := by decide
  have d_13_12 : (13 : Nat) ≠ 12 := by decide
  unfold f_X7_takeSemicolon at hf
  refine lv_aload_n hx hb dX7_takeSemicolon_0 rfl (lv_at hl 0 rfl) ?_
  refine gF_X7_12 rfl hN cx hp dX7_takeSemicolon_1 ?_
  refine gF_X7_42 e12 hN cx hp dX7_takeSemicolon_4 ?_
  refine lv_iconst (v := 3) hx hb dX7_takeSemicolon_7 (by decide) ?_
  refine lv_icmp_eq (tgt := 17) hx hb dX7_takeSemicolon_8 (by decide) (fun c1 => ?_) (fun c1 => ?_)
  · have hf := fp hf c1
    refine lv_aload_n hx hb dX7_takeSemicolon_17 rfl (lv_at hl 0 rfl) ?_
    refine gF_X7_12 rfl hN cx hp dX7_takeSemicolon_18 ?_
    obtain ⟨τ2, hc, hf⟩ := fb hf
    refine x_v hp (y_V (As := []) (rest := []) cx hp hl (c_X10_next l hN hT e12 e13 hc) (cw_X7_39 cx (mc := 0) (ms := 0) rfl rfl ⟨by decide, by decide⟩) (rC_X10 hN cx hp) rfl rfl (Nat.le_of_ble_eq_true rfl) dX7_takeSemicolon_21 ⟨Nat.zero_le _, Nat.zero_le _⟩) (fun u_c H locs hq hp => ?_)
    obtain ⟨e_0, n_u⟩ := hq
    have e12 := e_0
    have e11 := (n_u _ d_11_12).trans e11
    have e13 := (n_u _ d_13_12).trans e13
    have fr : ∀ q, q ≠ 11 → q ≠ 12 → u_c q = σ q := fun q h0 h1 => (n_u q h1).trans (fr q h0 h1)
    obtain ⟨u, rfl⟩ : ∃ z, u_c = z := ⟨_, rfl⟩
    refine lv_iconst (v := 1) hx hb dX7_takeSemicolon_24 (by decide) ?_
    cases hf
    exact r_z cx hp rfl ⟨rfl, e11, e12, fr⟩ dX7_takeSemicolon_25
  · have hf := fn hf c1
    refine lv_aload_n hx hb dX7_takeSemicolon_11 rfl (lv_at hl 0 rfl) ?_
    refine lv_iconst (v := 1) hx hb dX7_takeSemicolon_12 (by decide) ?_
    obtain ⟨r3, π4, hc, hf⟩ := fb2 hf
    refine x_i hp (y_V (As := [.int 1]) (rest := []) cx hp hl (c_X7_fail l hN hT e11 e12 hc) (cw_X7_35 cx (mc := 0) (ms := 0) rfl rfl ⟨by decide, by decide⟩) (rC_X7 hN cx hp) rfl rfl (Nat.le_of_ble_eq_true rfl) dX7_takeSemicolon_13 ⟨Nat.zero_le _, Nat.zero_le _⟩) (fun r_c u_c H locs hq hp => ?_)
    obtain ⟨rfl, e_0, n_u⟩ := hq
    have e11 := e_0
    have e12 := (n_u _ d_12_11).trans e12
    have e13 := (n_u _ d_13_11).trans e13
    have fr : ∀ q, q ≠ 11 → q ≠ 12 → u_c q = σ q := fun q h0 h1 => (n_u q h0).trans (fr q h0 h1)
    obtain ⟨u, rfl⟩ : ∃ z, u_c = z := ⟨_, rfl⟩
    obtain ⟨g_z, hf⟩ := fg hf
    cases hf
    exact r_z cx hp (bz_n g_z) ⟨rfl, e11, e12, fr⟩ dX7_takeSemicolon_16
abbrev rm_X7_takeNumber : Room := { frames := 3, cells := 0, slots := 0, locals := 62 }
set_option maxRecDepth 100000 in
set_option maxHeartbeats 4000000 in
theorem c_X7_takeNumber (l : Launch) {E : Ev} (hN : 129 ≤ eN E) (hT : St E) {σ : SM} {π : OM} (e11 : σ 11 = π) {τ : OM} (e12 : σ 12 = τ) {β : OM} (e13 : σ 13 = β) {p1 : Int32} {p2 : Int32} {rv : Int32} {π' : OM} {τ' : OM} (hf : f_X7_takeNumber p1 p2 π τ β = some (rv, π', τ')) : Met l yX7_takeNumber (wC yX7_takeNumber cX7_takeNumber 4 (some .int)) rm_X7_takeNumber (va_Pc [.ref (adr E 11 0), .int p1, .int p2] (Wu E σ)) (va_Qi (fun r u => rv = r ∧ u 11 = π' ∧ u 12 = τ' ∧ ∀ q, q ≠ 11 → q ≠ 12 → u q = σ q) (fun u t => Wu E u t) (eA E)) 0 0 (eA E) := by
  refine g_entry (lv := [(0, .ref (adr E 11 0)), (1, .int p1), (2, .int p2)]) (by decide) (Nat.le_of_ble_eq_true rfl) rfl ?_
  intro p e s m below meth c cx hp ls hl
  have hx := cx.1.1
  have hb := cx.1.2.1
  have fr : ∀ q, q ≠ 11 → q ≠ 12 → σ q = σ q := fun _ _ _ => rfl
  have d_11_12 : (11 : Nat) ≠ 12 := by decide
  have d_12_11 : (12 : Nat) ≠ 11 := by decide
  have d_13_11 : (13 : Nat) ≠ 11 := by decide
  have d_13_12 : (13 : Nat) ≠ 12 := by decide
  unfold f_X7_takeNumber at hf
  refine lv_aload_n hx hb dX7_takeNumber_0 rfl (lv_at hl 0 rfl) ?_
  refine gF_X7_12 rfl hN cx hp dX7_takeNumber_1 ?_
  refine gF_X7_45 e12 hN cx hp dX7_takeNumber_4 ?_
  obtain ⟨i1, x_e, hf⟩ := fl hf
  refine lv_nm x_e ?_
  refine lv_istore_n (lv' := [(3, .int i1), (0, .ref (adr E 11 0)), (1, .int p1), (2, .int p2)]) hx hb dX7_takeNumber_7 rfl hl (by decide) rfl (fun ls hl => ?_)
  refine lv_aload_n hx hb dX7_takeNumber_8 rfl (lv_at hl 1 rfl) ?_
  refine gF_X7_12 rfl hN cx hp dX7_takeNumber_9 ?_
  refine gF_X7_42 e12 hN cx hp dX7_takeNumber_12 ?_
  refine lv_iconst (v := 2) hx hb dX7_takeNumber_15 (by decide) ?_
  refine lv_icmp_eq (tgt := 27) hx hb dX7_takeNumber_16 (by decide) (fun c2 => ?_) (fun c2 => ?_)
  · have hf := fp hf c2
    refine lv_iload_n hx hb dX7_takeNumber_27 rfl (lv_at hl 0 rfl) ?_
    refine lv_iload_n hx hb dX7_takeNumber_28 rfl (lv_at hl 2 rfl) ?_
    refine lv_icmp_lt (tgt := 37) hx hb dX7_takeNumber_29 (by decide) (fun c3 => ?_) (fun c3 => ?_)
    · have hf := fp hf c3
      refine lv_aload_n hx hb dX7_takeNumber_37 rfl (lv_at hl 1 rfl) ?_
      refine lv_iconst (v := 2) hx hb dX7_takeNumber_38 (by decide) ?_
      obtain ⟨r4, π5, hc, hf⟩ := fb2 hf
      refine x_i hp (y_V (As := [.int 2]) (rest := []) cx hp hl (c_X7_fail l hN hT e11 e12 hc) (cw_X7_35 cx (mc := 0) (ms := 0) rfl rfl ⟨by decide, by decide⟩) (rC_X7 hN cx hp) rfl rfl (Nat.le_of_ble_eq_true rfl) dX7_takeNumber_39 ⟨Nat.zero_le _, Nat.zero_le _⟩) (fun r_c u_c H locs hq hp => ?_)
      obtain ⟨rfl, e_0, n_u⟩ := hq
      have e11 := e_0
      have e12 := (n_u _ d_12_11).trans e12
      have e13 := (n_u _ d_13_11).trans e13
      have fr : ∀ q, q ≠ 11 → q ≠ 12 → u_c q = σ q := fun q h0 h1 => (n_u q h0).trans (fr q h0 h1)
      obtain ⟨u, rfl⟩ : ∃ z, u_c = z := ⟨_, rfl⟩
      refine lv_pop hx hb dX7_takeNumber_42 rfl ?_
      refine lv_iconst (v := (-1)) hx hb dX7_takeNumber_43 (by decide) ?_
      cases hf
      exact r_i cx hp ⟨rfl, e11, e12, fr⟩ dX7_takeNumber_44
    · have hf := fn hf c3
      refine lv_iload_n hx hb dX7_takeNumber_32 rfl (lv_at hl 0 rfl) ?_
      refine lv_iload_n hx hb dX7_takeNumber_33 rfl (lv_at hl 3 rfl) ?_
      refine lv_icmp_le (tgt := 45) hx hb dX7_takeNumber_34 (by decide) (fun c6 => ?_) (fun c6 => ?_)
      · have hf := fp hf c6
        refine lv_aload_n hx hb dX7_takeNumber_45 rfl (lv_at hl 1 rfl) ?_
        refine gF_X7_12 rfl hN cx hp dX7_takeNumber_46 ?_
        obtain ⟨τ7, hc, hf⟩ := fb hf
        refine x_v hp (y_V (As := []) (rest := []) cx hp hl (c_X10_next l hN hT e12 e13 hc) (cw_X7_39 cx (mc := 0) (ms := 0) rfl rfl ⟨by decide, by decide⟩) (rC_X10 hN cx hp) rfl rfl (Nat.le_of_ble_eq_true rfl) dX7_takeNumber_49 ⟨Nat.zero_le _, Nat.zero_le _⟩) (fun u_c H locs hq hp => ?_)
        obtain ⟨e_0, n_u⟩ := hq
        have e12 := e_0
        have e11 := (n_u _ d_11_12).trans e11
        have e13 := (n_u _ d_13_12).trans e13
        have fr : ∀ q, q ≠ 11 → q ≠ 12 → u_c q = σ q := fun q h0 h1 => (n_u q h1).trans (fr q h0 h1)
        obtain ⟨u, rfl⟩ : ∃ z, u_c = z := ⟨_, rfl⟩
        refine lv_iload_n hx hb dX7_takeNumber_52 rfl (lv_at hl 0 rfl) ?_
        cases hf
        exact r_i cx hp ⟨rfl, e11, e12, fr⟩ dX7_takeNumber_53
      · have hf := fn hf c6
        refine lv_aload_n hx hb dX7_takeNumber_37 rfl (lv_at hl 1 rfl) ?_
        refine lv_iconst (v := 2) hx hb dX7_takeNumber_38 (by decide) ?_
        obtain ⟨r8, π9, hc, hf⟩ := fb2 hf
        refine x_i hp (y_V (As := [.int 2]) (rest := []) cx hp hl (c_X7_fail l hN hT e11 e12 hc) (cw_X7_35 cx (mc := 0) (ms := 0) rfl rfl ⟨by decide, by decide⟩) (rC_X7 hN cx hp) rfl rfl (Nat.le_of_ble_eq_true rfl) dX7_takeNumber_39 ⟨Nat.zero_le _, Nat.zero_le _⟩) (fun r_c u_c H locs hq hp => ?_)
        obtain ⟨rfl, e_0, n_u⟩ := hq
        have e11 := e_0
        have e12 := (n_u _ d_12_11).trans e12
        have e13 := (n_u _ d_13_11).trans e13
        have fr : ∀ q, q ≠ 11 → q ≠ 12 → u_c q = σ q := fun q h0 h1 => (n_u q h0).trans (fr q h0 h1)
        obtain ⟨u, rfl⟩ : ∃ z, u_c = z := ⟨_, rfl⟩
        refine lv_pop hx hb dX7_takeNumber_42 rfl ?_
        refine lv_iconst (v := (-1)) hx hb dX7_takeNumber_43 (by decide) ?_
        cases hf
        exact r_i cx hp ⟨rfl, e11, e12, fr⟩ dX7_takeNumber_44
  · have hf := fn hf c2
    refine lv_aload_n hx hb dX7_takeNumber_19 rfl (lv_at hl 1 rfl) ?_
    refine lv_iconst (v := 1) hx hb dX7_takeNumber_20 (by decide) ?_
    obtain ⟨r10, π11, hc, hf⟩ := fb2 hf
    refine x_i hp (y_V (As := [.int 1]) (rest := []) cx hp hl (c_X7_fail l hN hT e11 e12 hc) (cw_X7_35 cx (mc := 0) (ms := 0) rfl rfl ⟨by decide, by decide⟩) (rC_X7 hN cx hp) rfl rfl (Nat.le_of_ble_eq_true rfl) dX7_takeNumber_21 ⟨Nat.zero_le _, Nat.zero_le _⟩) (fun r_c u_c H locs hq hp => ?_)
    obtain ⟨rfl, e_0, n_u⟩ := hq
    have e11 := e_0
    have e12 := (n_u _ d_12_11).trans e12
    have e13 := (n_u _ d_13_11).trans e13
    have fr : ∀ q, q ≠ 11 → q ≠ 12 → u_c q = σ q := fun q h0 h1 => (n_u q h0).trans (fr q h0 h1)
    obtain ⟨u, rfl⟩ : ∃ z, u_c = z := ⟨_, rfl⟩
    refine lv_pop hx hb dX7_takeNumber_24 rfl ?_
    refine lv_iconst (v := (-1)) hx hb dX7_takeNumber_25 (by decide) ?_
    cases hf
    exact r_i cx hp ⟨rfl, e11, e12, fr⟩ dX7_takeNumber_26
abbrev rm_X7_takeSeller : Room := { frames := 3, cells := 0, slots := 0, locals := 62 }
set_option maxRecDepth 100000 in
set_option maxHeartbeats 4000000 in
theorem c_X7_takeSeller (l : Launch) {E : Ev} (hN : 129 ≤ eN E) (hT : St E) {σ : SM} {o : Nat} {μ : OM} (ho : o < 11) (eM : σ o = μ) {π : OM} (e11 : σ 11 = π) {τ : OM} (e12 : σ 12 = τ) {β : OM} (e13 : σ 13 = β)  {rv : Int32} {π' : OM} {τ' : OM} (hf : f_X7_takeSeller μ π τ β = some (rv, π', τ')) : Met l yX7_takeSeller (wC yX7_takeSeller cX7_takeSeller 3 (some .int)) rm_X7_takeSeller (va_Pc [.ref (adr E 11 0), .ref (adr E o 0)] (Wu E σ)) (va_Qi (fun r u => rv = r ∧ u 11 = π' ∧ u 12 = τ' ∧ ∀ q, q ≠ 11 → q ≠ 12 → u q = σ q) (fun u t => Wu E u t) (eA E)) 0 0 (eA E) := by
  refine g_entry (lv := [(0, .ref (adr E 11 0)), (1, .ref (adr E o 0))]) (by decide) (Nat.le_of_ble_eq_true rfl) rfl ?_
  intro p e s m below meth c cx hp ls hl
  have hx := cx.1.1
  have hb := cx.1.2.1
  have fr : ∀ q, q ≠ 11 → q ≠ 12 → σ q = σ q := fun _ _ _ => rfl
  have d_M_11 : (o : Nat) ≠ 11 := by omega
  have d_M_12 : (o : Nat) ≠ 12 := by omega
  have d_11_12 : (11 : Nat) ≠ 12 := by decide
  have d_12_11 : (12 : Nat) ≠ 11 := by decide
  have d_13_11 : (13 : Nat) ≠ 11 := by decide
  have d_13_12 : (13 : Nat) ≠ 12 := by decide
  unfold f_X7_takeSeller at hf
  refine lv_aload_n hx hb dX7_takeSeller_0 rfl (lv_at hl 0 rfl) ?_
  refine gF_X7_12 rfl hN cx hp dX7_takeSeller_1 ?_
  refine gF_X7_42 e12 hN cx hp dX7_takeSeller_4 ?_
  refine lv_iconst (v := 1) hx hb dX7_takeSeller_7 (by decide) ?_
  refine lv_icmp_eq (tgt := 19) hx hb dX7_takeSeller_8 (by decide) (fun c1 => ?_) (fun c1 => ?_)
  · have hf := fp hf c1
    refine lv_aload_n hx hb dX7_takeSeller_19 rfl (lv_at hl 1 rfl) ?_
    refine lv_aload_n hx hb dX7_takeSeller_20 rfl (lv_at hl 0 rfl) ?_
    refine gF_X7_12 rfl hN cx hp dX7_takeSeller_21 ?_
    refine gF_X7_48 e12 hN cx hp dX7_takeSeller_24 ?_
    obtain ⟨r2, hc, hf⟩ := fb hf
    refine x_i hp (y_V (As := [.long (τ.2.1 0 5)]) (rest := []) cx hp hl (c_X5_sellerCalled l hN hT ho eM hc) (cw_X7_52 cx (mc := 0) (ms := 0) rfl rfl ⟨by decide, by decide⟩) (rC_X5 ho hN cx hp) rfl rfl (Nat.le_of_ble_eq_true rfl) dX7_takeSeller_27 ⟨Nat.zero_le _, Nat.zero_le _⟩) (fun r_c u_c H locs hq hp => ?_)
    obtain ⟨rfl, rfl⟩ := hq
    refine lv_istore_n (lv' := [(2, .int r2), (0, .ref (adr E 11 0)), (1, .ref (adr E o 0))]) hx hb dX7_takeSeller_30 rfl hl (by decide) rfl (fun ls hl => ?_)
    refine lv_iload_n hx hb dX7_takeSeller_31 rfl (lv_at hl 0 rfl) ?_
    refine lv_iconst (v := (-1)) hx hb dX7_takeSeller_32 (by decide) ?_
    refine lv_icmp_ne (tgt := 44) hx hb dX7_takeSeller_33 (by decide) (fun c3 => ?_) (fun c3 => ?_)
    · have hf := fn hf c3
      refine lv_aload_n hx hb dX7_takeSeller_44 rfl (lv_at hl 1 rfl) ?_
      refine gF_X7_12 rfl hN cx hp dX7_takeSeller_45 ?_
      obtain ⟨τ4, hc, hf⟩ := fb hf
      refine x_v hp (y_V (As := []) (rest := []) cx hp hl (c_X10_next l hN hT e12 e13 hc) (cw_X7_39 cx (mc := 0) (ms := 0) rfl rfl ⟨by decide, by decide⟩) (rC_X10 hN cx hp) rfl rfl (Nat.le_of_ble_eq_true rfl) dX7_takeSeller_48 ⟨Nat.zero_le _, Nat.zero_le _⟩) (fun u_c H locs hq hp => ?_)
      obtain ⟨e_0, n_u⟩ := hq
      have e12 := e_0
      have eM := (n_u _ d_M_12).trans eM
      have e11 := (n_u _ d_11_12).trans e11
      have e13 := (n_u _ d_13_12).trans e13
      have fr : ∀ q, q ≠ 11 → q ≠ 12 → u_c q = σ q := fun q h0 h1 => (n_u q h1).trans (fr q h0 h1)
      obtain ⟨u, rfl⟩ : ∃ z, u_c = z := ⟨_, rfl⟩
      refine lv_iload_n hx hb dX7_takeSeller_51 rfl (lv_at hl 0 rfl) ?_
      cases hf
      exact r_i cx hp ⟨rfl, e11, e12, fr⟩ dX7_takeSeller_52
    · have hf := fp hf c3
      refine lv_aload_n hx hb dX7_takeSeller_36 rfl (lv_at hl 1 rfl) ?_
      refine lv_iconst (v := 3) hx hb dX7_takeSeller_37 (by decide) ?_
      obtain ⟨r5, π6, hc, hf⟩ := fb2 hf
      refine x_i hp (y_V (As := [.int 3]) (rest := []) cx hp hl (c_X7_fail l hN hT e11 e12 hc) (cw_X7_35 cx (mc := 0) (ms := 0) rfl rfl ⟨by decide, by decide⟩) (rC_X7 hN cx hp) rfl rfl (Nat.le_of_ble_eq_true rfl) dX7_takeSeller_38 ⟨Nat.zero_le _, Nat.zero_le _⟩) (fun r_c u_c H locs hq hp => ?_)
      obtain ⟨rfl, e_0, n_u⟩ := hq
      have e11 := e_0
      have eM := (n_u _ d_M_11).trans eM
      have e12 := (n_u _ d_12_11).trans e12
      have e13 := (n_u _ d_13_11).trans e13
      have fr : ∀ q, q ≠ 11 → q ≠ 12 → u_c q = σ q := fun q h0 h1 => (n_u q h0).trans (fr q h0 h1)
      obtain ⟨u, rfl⟩ : ∃ z, u_c = z := ⟨_, rfl⟩
      refine lv_pop hx hb dX7_takeSeller_41 rfl ?_
      refine lv_iconst (v := (-1)) hx hb dX7_takeSeller_42 (by decide) ?_
      cases hf
      exact r_i cx hp ⟨rfl, e11, e12, fr⟩ dX7_takeSeller_43
  · have hf := fn hf c1
    refine lv_aload_n hx hb dX7_takeSeller_11 rfl (lv_at hl 0 rfl) ?_
    refine lv_iconst (v := 1) hx hb dX7_takeSeller_12 (by decide) ?_
    obtain ⟨r7, π8, hc, hf⟩ := fb2 hf
    refine x_i hp (y_V (As := [.int 1]) (rest := []) cx hp hl (c_X7_fail l hN hT e11 e12 hc) (cw_X7_35 cx (mc := 0) (ms := 0) rfl rfl ⟨by decide, by decide⟩) (rC_X7 hN cx hp) rfl rfl (Nat.le_of_ble_eq_true rfl) dX7_takeSeller_13 ⟨Nat.zero_le _, Nat.zero_le _⟩) (fun r_c u_c H locs hq hp => ?_)
    obtain ⟨rfl, e_0, n_u⟩ := hq
    have e11 := e_0
    have eM := (n_u _ d_M_11).trans eM
    have e12 := (n_u _ d_12_11).trans e12
    have e13 := (n_u _ d_13_11).trans e13
    have fr : ∀ q, q ≠ 11 → q ≠ 12 → u_c q = σ q := fun q h0 h1 => (n_u q h0).trans (fr q h0 h1)
    obtain ⟨u, rfl⟩ : ∃ z, u_c = z := ⟨_, rfl⟩
    refine lv_pop hx hb dX7_takeSeller_16 rfl ?_
    refine lv_iconst (v := (-1)) hx hb dX7_takeSeller_17 (by decide) ?_
    cases hf
    exact r_i cx hp ⟨rfl, e11, e12, fr⟩ dX7_takeSeller_18
abbrev rm_X7_seeStall : Room := { frames := 5, cells := 0, slots := 0, locals := 107 }
set_option maxRecDepth 100000 in
set_option maxHeartbeats 4000000 in
theorem c_X7_seeStall (l : Launch) {E : Ev} (hN : 129 ≤ eN E) (hT : St E) {σ : SM} {o : Nat} {μ : OM} (ho : o < 11) (eM : σ o = μ) {π : OM} (e11 : σ 11 = π) {τ : OM} (e12 : σ 12 = τ) {β : OM} (e13 : σ 13 = β)  {rv : Int32} {π' : OM} (hf : f_X7_seeStall μ π τ β = some (rv, π')) : Met l yX7_seeStall (wC yX7_seeStall cX7_seeStall 3 (some .int)) rm_X7_seeStall (va_Pc [.ref (adr E 11 0), .ref (adr E o 0)] (Wu E σ)) (va_Qi (fun r u => rv = r ∧ u 11 = π' ∧ ∀ q, q ≠ 11 → u q = σ q) (fun u t => Wu E u t) (eA E)) 0 0 (eA E) := by
  refine g_entry (lv := [(0, .ref (adr E 11 0)), (1, .ref (adr E o 0))]) (by decide) (Nat.le_of_ble_eq_true rfl) rfl ?_
  intro p e s m below meth c cx hp ls hl
  have hx := cx.1.1
  have hb := cx.1.2.1
  have fr : ∀ q, q ≠ 11 → σ q = σ q := fun _ _ => rfl
  have d_M_11 : (o : Nat) ≠ 11 := by omega
  have d_12_11 : (12 : Nat) ≠ 11 := by decide
  have d_13_11 : (13 : Nat) ≠ 11 := by decide
  unfold f_X7_seeStall at hf
  refine lv_aload_n hx hb dX7_seeStall_0 rfl (lv_at hl 0 rfl) ?_
  refine gF_X7_12 rfl hN cx hp dX7_seeStall_1 ?_
  refine gF_X7_42 e12 hN cx hp dX7_seeStall_4 ?_
  refine lv_iconst (v := 1) hx hb dX7_seeStall_7 (by decide) ?_
  refine lv_icmp_ne (tgt := 23) hx hb dX7_seeStall_8 (by decide) (fun c1 => ?_) (fun c1 => ?_)
  · have hf := fn hf c1
    refine lv_aload_n hx hb dX7_seeStall_23 rfl (lv_at hl 0 rfl) ?_
    refine lv_iconst (v := 1) hx hb dX7_seeStall_24 (by decide) ?_
    obtain ⟨r2, π3, hc, hf⟩ := fb2 hf
    refine x_i hp (y_V (As := [.int 1]) (rest := []) cx hp hl (c_X7_fail l hN hT e11 e12 hc) (cw_X7_35 cx (mc := 0) (ms := 0) rfl rfl ⟨by decide, by decide⟩) (rC_X7 hN cx hp) rfl rfl (Nat.le_of_ble_eq_true rfl) dX7_seeStall_25 ⟨Nat.zero_le _, Nat.zero_le _⟩) (fun r_c u_c H locs hq hp => ?_)
    obtain ⟨rfl, e_0, n_u⟩ := hq
    have e11 := e_0
    have eM := (n_u _ d_M_11).trans eM
    have e12 := (n_u _ d_12_11).trans e12
    have e13 := (n_u _ d_13_11).trans e13
    have fr : ∀ q, q ≠ 11 → u_c q = σ q := fun q h0 => (n_u q h0).trans (fr q h0)
    obtain ⟨u, rfl⟩ : ∃ z, u_c = z := ⟨_, rfl⟩
    refine lv_pop hx hb dX7_seeStall_28 rfl ?_
    refine lv_iconst (v := (-1)) hx hb dX7_seeStall_29 (by decide) ?_
    cases hf
    exact r_i cx hp ⟨rfl, e11, fr⟩ dX7_seeStall_30
  · have hf := fp hf c1
    refine lv_aload_n hx hb dX7_seeStall_11 rfl (lv_at hl 0 rfl) ?_
    refine gF_X7_12 rfl hN cx hp dX7_seeStall_12 ?_
    refine va_ldcS hx hb cx.1.2.2.2.1 (cx.2.2.1.2.2.2.1 5 _ rfl) dX7_seeStall_15 ?_
    obtain ⟨r4, hc, hf⟩ := fb hf
    refine x_i hp (y_V (As := [.ref (eK E 5)]) (rest := []) cx hp hl (c_X10_isWord l hN hT e12 e13 hc) (cw_X7_31 cx (mc := 0) (ms := 0) rfl rfl ⟨by decide, by decide⟩) (rC_X10 hN cx hp) rfl rfl (Nat.le_of_ble_eq_true rfl) dX7_seeStall_17 ⟨Nat.zero_le _, Nat.zero_le _⟩) (fun r_c u_c H locs hq hp => ?_)
    obtain ⟨rfl, rfl⟩ := hq
    refine lv_if_eq (tgt := 31) hx hb dX7_seeStall_20 (by decide) (fun c5 => ?_) (fun c5 => ?_)
    · have hf := fp hf c5
      refine lv_aload_n hx hb dX7_seeStall_31 rfl (lv_at hl 1 rfl) ?_
      refine lv_aload_n hx hb dX7_seeStall_32 rfl (lv_at hl 0 rfl) ?_
      refine gF_X7_12 rfl hN cx hp dX7_seeStall_33 ?_
      refine gF_X7_48 e12 hN cx hp dX7_seeStall_36 ?_
      obtain ⟨r6, hc, hf⟩ := fb hf
      refine x_i hp (y_V (As := [.long (τ.2.1 0 5)]) (rest := []) cx hp hl (c_X5_stallCalled l hN hT ho eM hc) (cw_X7_60 cx (mc := 0) (ms := 0) rfl rfl ⟨by decide, by decide⟩) (rC_X5 ho hN cx hp) rfl rfl (Nat.le_of_ble_eq_true rfl) dX7_seeStall_39 ⟨Nat.zero_le _, Nat.zero_le _⟩) (fun r_c u_c H locs hq hp => ?_)
      obtain ⟨rfl, rfl⟩ := hq
      refine lv_istore_n (lv' := [(2, .int r6), (0, .ref (adr E 11 0)), (1, .ref (adr E o 0))]) hx hb dX7_seeStall_42 rfl hl (by decide) rfl (fun ls hl => ?_)
      refine lv_iload_n hx hb dX7_seeStall_43 rfl (lv_at hl 0 rfl) ?_
      refine lv_iconst (v := (-1)) hx hb dX7_seeStall_44 (by decide) ?_
      refine lv_icmp_ne (tgt := 54) hx hb dX7_seeStall_45 (by decide) (fun c7 => ?_) (fun c7 => ?_)
      · have hf := fn hf c7
        refine lv_iload_n hx hb dX7_seeStall_54 rfl (lv_at hl 0 rfl) ?_
        cases hf
        exact r_i cx hp ⟨rfl, e11, fr⟩ dX7_seeStall_55
      · have hf := fp hf c7
        refine lv_aload_n hx hb dX7_seeStall_48 rfl (lv_at hl 1 rfl) ?_
        refine lv_iconst (v := 3) hx hb dX7_seeStall_49 (by decide) ?_
        obtain ⟨r8, π9, hc, hf⟩ := fb2 hf
        refine x_i hp (y_V (As := [.int 3]) (rest := []) cx hp hl (c_X7_fail l hN hT e11 e12 hc) (cw_X7_35 cx (mc := 0) (ms := 0) rfl rfl ⟨by decide, by decide⟩) (rC_X7 hN cx hp) rfl rfl (Nat.le_of_ble_eq_true rfl) dX7_seeStall_50 ⟨Nat.zero_le _, Nat.zero_le _⟩) (fun r_c u_c H locs hq hp => ?_)
        obtain ⟨rfl, e_0, n_u⟩ := hq
        have e11 := e_0
        have eM := (n_u _ d_M_11).trans eM
        have e12 := (n_u _ d_12_11).trans e12
        have e13 := (n_u _ d_13_11).trans e13
        have fr : ∀ q, q ≠ 11 → u_c q = σ q := fun q h0 => (n_u q h0).trans (fr q h0)
        obtain ⟨u, rfl⟩ : ∃ z, u_c = z := ⟨_, rfl⟩
        refine lv_pop hx hb dX7_seeStall_53 rfl ?_
        refine lv_iload_n hx hb dX7_seeStall_54 rfl (lv_at hl 0 rfl) ?_
        cases hf
        exact r_i cx hp ⟨rfl, e11, fr⟩ dX7_seeStall_55
    · have hf := fn hf c5
      refine lv_aload_n hx hb dX7_seeStall_23 rfl (lv_at hl 0 rfl) ?_
      refine lv_iconst (v := 1) hx hb dX7_seeStall_24 (by decide) ?_
      obtain ⟨r10, π11, hc, hf⟩ := fb2 hf
      refine x_i hp (y_V (As := [.int 1]) (rest := []) cx hp hl (c_X7_fail l hN hT e11 e12 hc) (cw_X7_35 cx (mc := 0) (ms := 0) rfl rfl ⟨by decide, by decide⟩) (rC_X7 hN cx hp) rfl rfl (Nat.le_of_ble_eq_true rfl) dX7_seeStall_25 ⟨Nat.zero_le _, Nat.zero_le _⟩) (fun r_c u_c H locs hq hp => ?_)
      obtain ⟨rfl, e_0, n_u⟩ := hq
      have e11 := e_0
      have eM := (n_u _ d_M_11).trans eM
      have e12 := (n_u _ d_12_11).trans e12
      have e13 := (n_u _ d_13_11).trans e13
      have fr : ∀ q, q ≠ 11 → u_c q = σ q := fun q h0 => (n_u q h0).trans (fr q h0)
      obtain ⟨u, rfl⟩ : ∃ z, u_c = z := ⟨_, rfl⟩
      refine lv_pop hx hb dX7_seeStall_28 rfl ?_
      refine lv_iconst (v := (-1)) hx hb dX7_seeStall_29 (by decide) ?_
      cases hf
      exact r_i cx hp ⟨rfl, e11, fr⟩ dX7_seeStall_30
abbrev rm_X7_takeStall : Room := { frames := 6, cells := 0, slots := 0, locals := 129 }
set_option maxRecDepth 100000 in
set_option maxHeartbeats 4000000 in
theorem c_X7_takeStall (l : Launch) {E : Ev} (hN : 129 ≤ eN E) (hT : St E) {σ : SM} {o : Nat} {μ : OM} (ho : o < 11) (eM : σ o = μ) {π : OM} (e11 : σ 11 = π) {τ : OM} (e12 : σ 12 = τ) {β : OM} (e13 : σ 13 = β)  {rv : Int32} {π' : OM} {τ' : OM} (hf : f_X7_takeStall μ π τ β = some (rv, π', τ')) : Met l yX7_takeStall (wC yX7_takeStall cX7_takeStall 3 (some .int)) rm_X7_takeStall (va_Pc [.ref (adr E 11 0), .ref (adr E o 0)] (Wu E σ)) (va_Qi (fun r u => rv = r ∧ u 11 = π' ∧ u 12 = τ' ∧ ∀ q, q ≠ 11 → q ≠ 12 → u q = σ q) (fun u t => Wu E u t) (eA E)) 0 0 (eA E) := by
  refine g_entry (lv := [(0, .ref (adr E 11 0)), (1, .ref (adr E o 0))]) (by decide) (Nat.le_of_ble_eq_true rfl) rfl ?_
  intro p e s m below meth c cx hp ls hl
  have hx := cx.1.1
  have hb := cx.1.2.1
  have fr : ∀ q, q ≠ 11 → q ≠ 12 → σ q = σ q := fun _ _ _ => rfl
  have d_M_11 : (o : Nat) ≠ 11 := by omega
  have d_M_12 : (o : Nat) ≠ 12 := by omega
  have d_11_12 : (11 : Nat) ≠ 12 := by decide
  have d_12_11 : (12 : Nat) ≠ 11 := by decide
  have d_13_11 : (13 : Nat) ≠ 11 := by decide
  have d_13_12 : (13 : Nat) ≠ 12 := by decide
  unfold f_X7_takeStall at hf
  refine lv_aload_n hx hb dX7_takeStall_0 rfl (lv_at hl 0 rfl) ?_
  refine lv_aload_n hx hb dX7_takeStall_1 rfl (lv_at hl 1 rfl) ?_
  obtain ⟨r1, π2, hc, hf⟩ := fb2 hf
  refine x_i hp (y_V (As := [.ref (adr E o 0)]) (rest := []) cx hp hl (c_X7_seeStall l hN hT ho eM e11 e12 e13 hc) (cw_X7_63 cx (mc := 0) (ms := 0) rfl rfl ⟨by decide, by decide⟩) (rC_X7 hN cx hp) rfl rfl (Nat.le_of_ble_eq_true rfl) dX7_takeStall_2 ⟨Nat.zero_le _, Nat.zero_le _⟩) (fun r_c u_c H locs hq hp => ?_)
  obtain ⟨rfl, e_0, n_u⟩ := hq
  have e11 := e_0
  have eM := (n_u _ d_M_11).trans eM
  have e12 := (n_u _ d_12_11).trans e12
  have e13 := (n_u _ d_13_11).trans e13
  have fr : ∀ q, q ≠ 11 → q ≠ 12 → u_c q = σ q := fun q h0 h1 => (n_u q h0).trans (fr q h0 h1)
  obtain ⟨u, rfl⟩ : ∃ z, u_c = z := ⟨_, rfl⟩
  refine lv_istore_n (lv' := [(2, .int r1), (0, .ref (adr E 11 0)), (1, .ref (adr E o 0))]) hx hb dX7_takeStall_5 rfl hl (by decide) rfl (fun ls hl => ?_)
  refine lv_iload_n hx hb dX7_takeStall_6 rfl (lv_at hl 0 rfl) ?_
  refine lv_iconst (v := (-1)) hx hb dX7_takeStall_7 (by decide) ?_
  refine lv_icmp_eq (tgt := 18) hx hb dX7_takeStall_8 (by decide) (fun c3 => ?_) (fun c3 => ?_)
  · have hf := fp hf c3
    refine lv_iload_n hx hb dX7_takeStall_18 rfl (lv_at hl 0 rfl) ?_
    cases hf
    exact r_i cx hp ⟨rfl, e11, e12, fr⟩ dX7_takeStall_19
  · have hf := fn hf c3
    refine lv_aload_n hx hb dX7_takeStall_11 rfl (lv_at hl 1 rfl) ?_
    refine gF_X7_12 rfl hN cx hp dX7_takeStall_12 ?_
    obtain ⟨τ4, hc, hf⟩ := fb hf
    refine x_v hp (y_V (As := []) (rest := []) cx hp hl (c_X10_next l hN hT e12 e13 hc) (cw_X7_39 cx (mc := 0) (ms := 0) rfl rfl ⟨by decide, by decide⟩) (rC_X10 hN cx hp) rfl rfl (Nat.le_of_ble_eq_true rfl) dX7_takeStall_15 ⟨Nat.zero_le _, Nat.zero_le _⟩) (fun u_c H locs hq hp => ?_)
    obtain ⟨e_0, n_u⟩ := hq
    have e12 := e_0
    have eM := (n_u _ d_M_12).trans eM
    have e11 := (n_u _ d_11_12).trans e11
    have e13 := (n_u _ d_13_12).trans e13
    have fr : ∀ q, q ≠ 11 → q ≠ 12 → u_c q = σ q := fun q h0 h1 => (n_u q h1).trans (fr q h0 h1)
    obtain ⟨u, rfl⟩ : ∃ z, u_c = z := ⟨_, rfl⟩
    refine lv_iload_n hx hb dX7_takeStall_18 rfl (lv_at hl 0 rfl) ?_
    cases hf
    exact r_i cx hp ⟨rfl, e11, e12, fr⟩ dX7_takeStall_19
abbrev rm_X8_verbAt : Room := { frames := 5, cells := 0, slots := 0, locals := 107 }
set_option maxRecDepth 100000 in
set_option maxHeartbeats 4000000 in
theorem L_X8_verbAt_2 {p : Program} {e : Env} {s : State} {m : MethodId} {args : Array Value} {below : List Frame} {meth : Method} {c : Code} (l : Launch) {E : Ev} (hN : 129 ≤ eN E) (hT : St E) {σ : SM} (cx : Cx E p s m meth c args RX8 cX8_verbAt 3 (some (.object "StallMarket$Verb") )) {τ : OM} {β : OM} {rv : Option Nat} : ∀ (n : Nat) {x1 : Int32}, f_X8_verbAt_2 τ β n x1 = some rv → ∀ {u : SM} {H : Heap} {locs : List Loc} {ls : Array Slot}, u 12 = τ → u 13 = β → (∀ q, u q = σ q) → Hp E u s H locs → lv_has ls 3 [(0, .ref (adr E 12 0)), (1, .int x1)] → W p l e rm_X8_verbAt s m args below meth c H locs 0 0 (MQ below (Qe E (fun r u => rv = r ∧ σ = u)) args s 0 0 (eA E)) (F0 m 2 ls []) := by
  have hx := cx.1.1
  have hb := cx.1.2.1
  intro n
  induction n with
  | zero =>
    intro x1 hf
    exact absurd hf (by simp [f_X8_verbAt_2])
  | succ n ih =>
    intro x1 hf u H locs ls e12 e13 fr hp hl
    rw [f_X8_verbAt_2] at hf
    refine lv_iload_n hx hb dX8_verbAt_2 rfl (lv_at hl 1 rfl) ?_
    refine va_getsN hx hb (zS cx hT.2.2.2.1.1) hp.2 cx.1.2.2.2.1 (va_Nw.use (nb_tab qF_X8_71) (cx.2.2.1.2.2.1 _ qF_X8_71)) (fun _ h => h) dX8_verbAt_3 ?_
    refine va_tlen (v := 9) hx hb (tS cx hT.2.2.2.1.2) hp.2 (by decide) dX8_verbAt_6 ?_
    refine lv_icmp_ge (tgt := 39) hx hb dX8_verbAt_7 (by decide) (fun c1 => ?_) (fun c1 => ?_)
    · have hf := fp hf c1
      refine lv_null hx hb dX8_verbAt_39 ?_
      cases hf
      exact r_e (v := none) cx hp ⟨rfl, (funext fr).symm⟩ dX8_verbAt_40
    · have hf := fn hf c1
      refine va_getsN hx hb (zS cx hT.2.2.2.1.1) hp.2 cx.1.2.2.2.1 (va_Nw.use (nb_tab qF_X8_71) (cx.2.2.1.2.2.1 _ qF_X8_71)) (fun _ h => h) dX8_verbAt_10 ?_
      refine lv_iload_n hx hb dX8_verbAt_13 rfl (lv_at hl 1 rfl) ?_
      obtain ⟨g_i, hf⟩ := fg hf
      obtain ⟨b2, e_l, hf⟩ := fl hf
      refine va_tr hx hb (tS cx hT.2.2.2.1.2) hp.2 (inb_vp g_i) rfl dX8_verbAt_14 ?_
      rw [e_l]
      refine lv_astore_n (lv' := [(2, .ref (eV E b2)), (0, .ref (adr E 12 0)), (1, .int x1)]) hx hb dX8_verbAt_15 rfl hl (by decide) rfl (fun ls hl => ?_)
      refine lv_aload_n hx hb dX8_verbAt_16 rfl (lv_at hl 0 rfl) ?_
      refine lv_ifnull hx hb dX8_verbAt_17 ?_
      refine lv_aload_n hx hb dX8_verbAt_20 rfl (lv_at hl 1 rfl) ?_
      refine lv_aload_n hx hb dX8_verbAt_21 rfl (lv_at hl 0 rfl) ?_
      obtain ⟨g_b, hf⟩ := fg hf
      refine vk_getfN hx hb (ofS cx (hT.2.2.2.2.2 _ g_b).2.2.1) hp.2 cx.1.2.2.2.1 (va_Nw.use (nb_tab qF_X8_74) (cx.2.2.1.2.2.1 _ qF_X8_74)) (fun _ h => h) dX8_verbAt_22 ?_
      obtain ⟨r3, hc, hf⟩ := fb hf
      refine x_i hp (y_V (As := [.ref (eK E (37 + b2))]) (rest := []) cx hp hl (c_X10_isWord l hN hT e12 e13 hc) (cw_X8_78 cx (mc := 0) (ms := 0) rfl rfl ⟨by decide, by decide⟩) (rC_X10 hN cx hp) rfl rfl (Nat.le_of_ble_eq_true rfl) dX8_verbAt_25 ⟨Nat.zero_le _, Nat.zero_le _⟩) (fun r_c u_c H locs hq hp => ?_)
      obtain ⟨rfl, rfl⟩ := hq
      refine lv_if_eq (tgt := 33) hx hb dX8_verbAt_28 (by decide) (fun c4 => ?_) (fun c4 => ?_)
      · have hf := fp hf c4
        refine lv_iinc (v := (x1 + 1)) (lv' := [(1, .int (x1 + 1)), (2, .ref (eV E b2)), (0, .ref (adr E 12 0))]) hx hb dX8_verbAt_33 hl (k := 2) rfl rfl (by decide) rfl (fun ls hl => ?_)
        refine lv_goto (tgt := 2) hx hb dX8_verbAt_36 (by decide) ?_
        exact ih  hf e12 e13 fr hp (lv_sub hl [2, 0] rfl)
      · have hf := fn hf c4
        refine lv_aload_n hx hb dX8_verbAt_31 rfl (lv_at hl 0 rfl) ?_
        cases hf
        exact r_e (v := (some b2)) cx hp ⟨rfl, (funext fr).symm⟩ dX8_verbAt_32
set_option maxRecDepth 100000 in
set_option maxHeartbeats 4000000 in
theorem c_X8_verbAt (l : Launch) {E : Ev} (hN : 129 ≤ eN E) (hT : St E) {σ : SM} {τ : OM} (e12 : σ 12 = τ) {β : OM} (e13 : σ 13 = β)  {rv : Option Nat} (hf : f_X8_verbAt τ β = some rv) : Met l yX8_verbAt (wC yX8_verbAt cX8_verbAt 3 (some (.object "StallMarket$Verb") )) rm_X8_verbAt (va_Pc [.ref (adr E 12 0)] (Wu E σ)) (Qe E (fun r u => rv = r ∧ σ = u)) 0 0 (eA E) := by
  refine g_entry (lv := [(0, .ref (adr E 12 0))]) (by decide) (Nat.le_of_ble_eq_true rfl) rfl ?_
  intro p e s m below meth c cx hp ls hl
  have hx := cx.1.1
  have hb := cx.1.2.1
  have fr : ∀ q, σ q = σ q := fun _ => rfl
  unfold f_X8_verbAt at hf
  refine lv_iconst (v := 0) hx hb dX8_verbAt_0 (by decide) ?_
  refine lv_istore_n (lv' := [(1, .int 0), (0, .ref (adr E 12 0))]) hx hb dX8_verbAt_1 rfl hl (by decide) rfl (fun ls hl => ?_)
  exact L_X8_verbAt_2 l hN hT cx  _ hf e12 e13 fr hp (lv_sub hl [1, 0] rfl)
abbrev rm_X8_takeOperand : Room := { frames := 7, cells := 0, slots := 0, locals := 151 }
set_option maxRecDepth 100000 in
set_option maxHeartbeats 4000000 in
theorem c_X8_takeOperand (l : Launch) {E : Ev} (hN : 129 ≤ eN E) (hT : St E) {σ : SM} {o : Nat} {μ : OM} (ho : o < 11) (eM : σ o = μ) {π : OM} (e11 : σ 11 = π) {τ : OM} (e12 : σ 12 = τ) {β : OM} (e13 : σ 13 = β) {p2 : Int32} {rv : Int32} {π' : OM} {τ' : OM} (hf : f_X8_takeOperand p2 μ π τ β = some (rv, π', τ')) : Met l yX8_takeOperand (wC yX8_takeOperand cX8_takeOperand 3 (some .int)) rm_X8_takeOperand (va_Pc [.ref (adr E 11 0), .ref (adr E o 0), .int p2] (Wu E σ)) (va_Qi (fun r u => rv = r ∧ u 11 = π' ∧ u 12 = τ' ∧ ∀ q, q ≠ 11 → q ≠ 12 → u q = σ q) (fun u t => Wu E u t) (eA E)) 0 0 (eA E) := by
  refine g_entry (lv := [(0, .ref (adr E 11 0)), (1, .ref (adr E o 0)), (2, .int p2)]) (by decide) (Nat.le_of_ble_eq_true rfl) rfl ?_
  intro p e s m below meth c cx hp ls hl
  have hx := cx.1.1
  have hb := cx.1.2.1
  have fr : ∀ q, q ≠ 11 → q ≠ 12 → σ q = σ q := fun _ _ _ => rfl
  have d_M_11 : (o : Nat) ≠ 11 := by omega
  have d_M_12 : (o : Nat) ≠ 12 := by omega
  have d_11_12 : (11 : Nat) ≠ 12 := by decide
  have d_12_11 : (12 : Nat) ≠ 11 := by decide
  have d_13_11 : (13 : Nat) ≠ 11 := by decide
  have d_13_12 : (13 : Nat) ≠ 12 := by decide
  unfold f_X8_takeOperand at hf
  refine lv_iload_n hx hb dX8_takeOperand_0 rfl (lv_at hl 2 rfl) ?_
  by_cases c1 : p2 = 1
  · have hf := fp hf c1
    refine lv_nm c1 ?_
    refine lv_tableIn (off := 35) (tgt := 36) hx hb dX8_takeOperand_1 (by decide) (by decide) (by decide) (by decide) ?_
    refine lv_aload_n hx hb dX8_takeOperand_36 rfl (lv_at hl 0 rfl) ?_
    refine lv_aload_n hx hb dX8_takeOperand_37 rfl (lv_at hl 1 rfl) ?_
    obtain ⟨r2, π3, τ4, hc, hf⟩ := fb3 hf
    refine x_i hp (y_V (As := [.ref (adr E o 0)]) (rest := []) cx hp hl (c_X7_takeSeller l hN hT ho eM e11 e12 e13 hc) (cw_X8_82 cx (mc := 0) (ms := 0) rfl rfl ⟨by decide, by decide⟩) (rC_X7 hN cx hp) rfl rfl (Nat.le_of_ble_eq_true rfl) dX8_takeOperand_38 ⟨Nat.zero_le _, Nat.zero_le _⟩) (fun r_c u_c H locs hq hp => ?_)
    obtain ⟨rfl, e_0, e_1, n_u⟩ := hq
    have e11 := e_0
    have e12 := e_1
    have eM := (n_u _ d_M_11 d_M_12).trans eM
    have e13 := (n_u _ d_13_11 d_13_12).trans e13
    have fr : ∀ q, q ≠ 11 → q ≠ 12 → u_c q = σ q := fun q h0 h1 => (n_u q h0 h1).trans (fr q h0 h1)
    obtain ⟨u, rfl⟩ : ∃ z, u_c = z := ⟨_, rfl⟩
    cases hf
    exact r_i cx hp ⟨rfl, e11, e12, fr⟩ dX8_takeOperand_41
  · have hf := fn hf c1
    by_cases c5 : p2 = 2
    · have hf := fp hf c5
      refine lv_nm c5 ?_
      refine lv_tableIn (off := 41) (tgt := 42) hx hb dX8_takeOperand_1 (by decide) (by decide) (by decide) (by decide) ?_
      refine lv_aload_n hx hb dX8_takeOperand_42 rfl (lv_at hl 0 rfl) ?_
      refine lv_aload_n hx hb dX8_takeOperand_43 rfl (lv_at hl 1 rfl) ?_
      obtain ⟨r6, π7, τ8, hc, hf⟩ := fb3 hf
      refine x_i hp (y_V (As := [.ref (adr E o 0)]) (rest := []) cx hp hl (c_X7_takeStall l hN hT ho eM e11 e12 e13 hc) (cw_X8_86 cx (mc := 0) (ms := 0) rfl rfl ⟨by decide, by decide⟩) (rC_X7 hN cx hp) rfl rfl (Nat.le_of_ble_eq_true rfl) dX8_takeOperand_44 ⟨Nat.zero_le _, Nat.zero_le _⟩) (fun r_c u_c H locs hq hp => ?_)
      obtain ⟨rfl, e_0, e_1, n_u⟩ := hq
      have e11 := e_0
      have e12 := e_1
      have eM := (n_u _ d_M_11 d_M_12).trans eM
      have e13 := (n_u _ d_13_11 d_13_12).trans e13
      have fr : ∀ q, q ≠ 11 → q ≠ 12 → u_c q = σ q := fun q h0 h1 => (n_u q h0 h1).trans (fr q h0 h1)
      obtain ⟨u, rfl⟩ : ∃ z, u_c = z := ⟨_, rfl⟩
      cases hf
      exact r_i cx hp ⟨rfl, e11, e12, fr⟩ dX8_takeOperand_47
    · have hf := fn hf c5
      by_cases c9 : p2 = 3
      · have hf := fp hf c9
        refine lv_nm c9 ?_
        refine lv_tableIn (off := 47) (tgt := 48) hx hb dX8_takeOperand_1 (by decide) (by decide) (by decide) (by decide) ?_
        refine lv_aload_n hx hb dX8_takeOperand_48 rfl (lv_at hl 0 rfl) ?_
        refine lv_iconst (v := 0) hx hb dX8_takeOperand_49 (by decide) ?_
        refine lv_bipush (v := 99) hx hb dX8_takeOperand_50 (by decide) ?_
        obtain ⟨r10, π11, τ12, hc, hf⟩ := fb3 hf
        refine x_i hp (y_V (As := [.int 0, .int 99]) (rest := []) cx hp hl (c_X7_takeNumber l hN hT e11 e12 e13 hc) (cw_X8_89 cx (mc := 0) (ms := 0) rfl rfl ⟨by decide, by decide⟩) (rC_X7 hN cx hp) rfl rfl (Nat.le_of_ble_eq_true rfl) dX8_takeOperand_52 ⟨Nat.zero_le _, Nat.zero_le _⟩) (fun r_c u_c H locs hq hp => ?_)
        obtain ⟨rfl, e_0, e_1, n_u⟩ := hq
        have e11 := e_0
        have e12 := e_1
        have eM := (n_u _ d_M_11 d_M_12).trans eM
        have e13 := (n_u _ d_13_11 d_13_12).trans e13
        have fr : ∀ q, q ≠ 11 → q ≠ 12 → u_c q = σ q := fun q h0 h1 => (n_u q h0 h1).trans (fr q h0 h1)
        obtain ⟨u, rfl⟩ : ∃ z, u_c = z := ⟨_, rfl⟩
        cases hf
        exact r_i cx hp ⟨rfl, e11, e12, fr⟩ dX8_takeOperand_55
      · have hf := fn hf c9
        by_cases c13 : p2 = 4
        · have hf := fp hf c13
          refine lv_nm c13 ?_
          refine lv_tableIn (off := 55) (tgt := 56) hx hb dX8_takeOperand_1 (by decide) (by decide) (by decide) (by decide) ?_
          refine lv_aload_n hx hb dX8_takeOperand_56 rfl (lv_at hl 0 rfl) ?_
          refine lv_iconst (v := 1) hx hb dX8_takeOperand_57 (by decide) ?_
          refine lv_sipush (v := 999) hx hb dX8_takeOperand_58 (by decide) ?_
          obtain ⟨r14, π15, τ16, hc, hf⟩ := fb3 hf
          refine x_i hp (y_V (As := [.int 1, .int 999]) (rest := []) cx hp hl (c_X7_takeNumber l hN hT e11 e12 e13 hc) (cw_X8_89 cx (mc := 0) (ms := 0) rfl rfl ⟨by decide, by decide⟩) (rC_X7 hN cx hp) rfl rfl (Nat.le_of_ble_eq_true rfl) dX8_takeOperand_61 ⟨Nat.zero_le _, Nat.zero_le _⟩) (fun r_c u_c H locs hq hp => ?_)
          obtain ⟨rfl, e_0, e_1, n_u⟩ := hq
          have e11 := e_0
          have e12 := e_1
          have eM := (n_u _ d_M_11 d_M_12).trans eM
          have e13 := (n_u _ d_13_11 d_13_12).trans e13
          have fr : ∀ q, q ≠ 11 → q ≠ 12 → u_c q = σ q := fun q h0 h1 => (n_u q h0 h1).trans (fr q h0 h1)
          obtain ⟨u, rfl⟩ : ∃ z, u_c = z := ⟨_, rfl⟩
          cases hf
          exact r_i cx hp ⟨rfl, e11, e12, fr⟩ dX8_takeOperand_64
        · have hf := fn hf c13
          by_cases c17 : p2 = 5
          · have hf := fp hf c17
            refine lv_nm c17 ?_
            refine lv_tableIn (off := 64) (tgt := 65) hx hb dX8_takeOperand_1 (by decide) (by decide) (by decide) (by decide) ?_
            refine lv_aload_n hx hb dX8_takeOperand_65 rfl (lv_at hl 0 rfl) ?_
            refine lv_iconst (v := 1) hx hb dX8_takeOperand_66 (by decide) ?_
            refine lv_bipush (v := 99) hx hb dX8_takeOperand_67 (by decide) ?_
            obtain ⟨r18, π19, τ20, hc, hf⟩ := fb3 hf
            refine x_i hp (y_V (As := [.int 1, .int 99]) (rest := []) cx hp hl (c_X7_takeNumber l hN hT e11 e12 e13 hc) (cw_X8_89 cx (mc := 0) (ms := 0) rfl rfl ⟨by decide, by decide⟩) (rC_X7 hN cx hp) rfl rfl (Nat.le_of_ble_eq_true rfl) dX8_takeOperand_69 ⟨Nat.zero_le _, Nat.zero_le _⟩) (fun r_c u_c H locs hq hp => ?_)
            obtain ⟨rfl, e_0, e_1, n_u⟩ := hq
            have e11 := e_0
            have e12 := e_1
            have eM := (n_u _ d_M_11 d_M_12).trans eM
            have e13 := (n_u _ d_13_11 d_13_12).trans e13
            have fr : ∀ q, q ≠ 11 → q ≠ 12 → u_c q = σ q := fun q h0 h1 => (n_u q h0 h1).trans (fr q h0 h1)
            obtain ⟨u, rfl⟩ : ∃ z, u_c = z := ⟨_, rfl⟩
            cases hf
            exact r_i cx hp ⟨rfl, e11, e12, fr⟩ dX8_takeOperand_72
          · have hf := fn hf c17
            have t_o : p2.toInt < 1 ∨ 5 < p2.toInt := by
              have := i_ne (n := 1) c1 (by decide)
              have := i_ne (n := 2) c5 (by decide)
              have := i_ne (n := 3) c9 (by decide)
              have := i_ne (n := 4) c13 (by decide)
              have := i_ne (n := 5) c17 (by decide)
              omega
            refine lv_tableOut (tgt := 73) hx hb dX8_takeOperand_1 t_o (by decide) ?_
            refine lv_iconst (v := 0) hx hb dX8_takeOperand_73 (by decide) ?_
            cases hf
            exact r_i cx hp ⟨rfl, e11, e12, fr⟩ dX8_takeOperand_74

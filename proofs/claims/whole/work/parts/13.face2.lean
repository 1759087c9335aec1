abbrev rm_X12_balanceAfter : Room := { frames := 7, cells := 2, slots := 12, locals := 103 }
set_option maxRecDepth 100000 in
set_option maxHeartbeats 4000000 in
theorem L_X12_balanceAfter_56 {p : Program} {e : Env} {s : State} {m : MethodId} {args : Array Value} {below : List Frame} {meth : Method} {c : Code} (l : Launch) {E : Ev} (hN : 130 ≤ eN E) (hT : St E) (hlf : l.stackTraces = false) {σ : SM} (cx : Cx E p s m meth c args RX12 cX12_balanceAfter 6 (some .int)) (hxt : ∀ x ∈ c.exceptionTable.toList, False) {x1 : Int32} {x2 : Int32} {σs : SM} {z : Nat ⊕ (Int32)} : ∀ (n : Nat) {x5 : Int32} {x4 : Int32} {x3 : Int32}, f_X12_balanceAfter_56 x1 x2 σ n x5 x4 x3 = some z → ∀ {H : Heap} {locs : List Loc} {ls : Array Slot}, Hp E σ s H locs → lv_has ls 6 [(0, .ref (adr E 19 0)), (1, .int x1), (2, .int x2), (3, .int x3), (4, .int x4), (5, .int x5)] → W p l e rm_X12_balanceAfter s m args below meth c H locs 1 6 (vx_MQ below (va_Qi (fun r u => z = .inr r ∧ σ = u) (fun u t => Wu E u t) (eA E)) (XT E σs (fun k => z = .inl k)) args s 2 12 (eA E)) (F0 m 56 ls []) := by
  have hx := cx.1.1
  have hb := cx.1.2.1
  intro n
  induction n with
  | zero =>
    intro x5 x4 x3 hf
    exact absurd hf (by simp [f_X12_balanceAfter_56])
  | succ n ih =>
    intro x5 x4 x3 hf H locs ls hp hl
    rw [f_X12_balanceAfter_56] at hf
    refine lv_iload hx hb dX12_balanceAfter_56 (lv_at hl 5 rfl) ?_
    refine lv_iload_n hx hb dX12_balanceAfter_58 rfl (lv_at hl 2 rfl) ?_
    refine lv_icmp_gt (tgt := 95) hx hb dX12_balanceAfter_59 (by decide) (fun c6 => ?_) (fun c6 => ?_)
    · have hf := fp hf c6
      refine lv_iload hx hb dX12_balanceAfter_95 (lv_at hl 4 rfl) ?_
      cases hf
      refine vx_ret ?_
      refine W.widen (k := 2) (n := 12) (by decide) (by decide) ?_
      exact r_i cx hp ⟨rfl, rfl⟩ dX12_balanceAfter_97
    · have hf := fn hf c6
      refine lv_iload hx hb dX12_balanceAfter_62 (lv_at hl 4 rfl) ?_
      refine lv_aload_n hx hb dX12_balanceAfter_64 rfl (lv_at hl 0 rfl) ?_
      refine gF_X12_99 rfl hN cx hp dX12_balanceAfter_65 ?_
      refine lv_iload_n hx hb dX12_balanceAfter_68 rfl (lv_at hl 1 rfl) ?_
      obtain ⟨r7, hc, hf⟩ := fb hf
      refine x_i hp (y_V (As := [.int x1]) (rest := [.int x4]) cx hp hl (c_X5_wageOf l (Nat.le_trans (by decide) hN) hT (by decide) rfl hc) (cw_X12_158 cx (mc := 0) (ms := 0) rfl rfl ⟨by decide, by decide⟩) (rC_X5 (by decide) (Nat.le_trans (by decide) hN) cx hp) rfl rfl (Nat.le_of_ble_eq_true rfl) dX12_balanceAfter_69 ⟨by decide, by decide⟩) (fun r_c u_c H locs hq hp => ?_)
      obtain ⟨rfl, rfl⟩ := hq
      refine lv_iadd hx hb dX12_balanceAfter_72 ?_
      obtain ⟨i8, x_e, hf⟩ := fl hf
      refine lv_nm x_e ?_
      refine lv_istore (lv' := [(4, .int i8), (0, .ref (adr E 19 0)), (1, .int x1), (2, .int x2), (3, .int x3), (5, .int x5)]) hx hb dX12_balanceAfter_73 hl (by decide) rfl (fun ls hl => ?_)
      refine lv_iload hx hb dX12_balanceAfter_75 (lv_at hl 0 rfl) ?_
      refine lv_iload_n hx hb dX12_balanceAfter_77 rfl (lv_at hl 4 rfl) ?_
      refine lv_icmp_ge (tgt := 83) hx hb dX12_balanceAfter_78 (by decide) (fun c9 => ?_) (fun c9 => ?_)
      · have hf := fp hf c9
        refine lv_iload hx hb dX12_balanceAfter_83 (lv_at hl 0 rfl) ?_
        refine lv_iload_n hx hb dX12_balanceAfter_85 rfl (lv_at hl 4 rfl) ?_
        refine lv_isub hx hb dX12_balanceAfter_86 ?_
        obtain ⟨i10, x_e, hf⟩ := fl hf
        refine lv_nm x_e ?_
        refine lv_istore (lv' := [(4, .int i10), (0, .ref (adr E 19 0)), (1, .int x1), (2, .int x2), (3, .int x3), (5, .int x5)]) hx hb dX12_balanceAfter_87 hl (by decide) rfl (fun ls hl => ?_)
        refine lv_iinc (v := (x5 + 1)) (lv' := [(5, .int (x5 + 1)), (4, .int i10), (0, .ref (adr E 19 0)), (1, .int x1), (2, .int x2), (3, .int x3)]) hx hb dX12_balanceAfter_89 hl (k := 5) rfl rfl (by decide) rfl (fun ls hl => ?_)
        refine lv_goto (tgt := 56) hx hb dX12_balanceAfter_92 (by decide) ?_
        exact ih  hf hp (lv_sub hl [2, 3, 4, 5, 1, 0] rfl)
      · have hf := fn hf c9
        refine lv_iconst (v := 0) hx hb dX12_balanceAfter_81 (by decide) ?_
        refine lv_istore_n (lv' := [(3, .int 0), (4, .int i8), (0, .ref (adr E 19 0)), (1, .int x1), (2, .int x2), (5, .int x5)]) hx hb dX12_balanceAfter_82 rfl hl (by decide) rfl (fun ls hl => ?_)
        refine lv_iload hx hb dX12_balanceAfter_83 (lv_at hl 1 rfl) ?_
        refine lv_iload_n hx hb dX12_balanceAfter_85 rfl (lv_at hl 0 rfl) ?_
        refine lv_isub hx hb dX12_balanceAfter_86 ?_
        obtain ⟨i11, x_e, hf⟩ := fl hf
        refine lv_nm x_e ?_
        refine lv_istore (lv' := [(4, .int i11), (3, .int 0), (0, .ref (adr E 19 0)), (1, .int x1), (2, .int x2), (5, .int x5)]) hx hb dX12_balanceAfter_87 hl (by decide) rfl (fun ls hl => ?_)
        refine lv_iinc (v := (x5 + 1)) (lv' := [(5, .int (x5 + 1)), (4, .int i11), (3, .int 0), (0, .ref (adr E 19 0)), (1, .int x1), (2, .int x2)]) hx hb dX12_balanceAfter_89 hl (k := 5) rfl rfl (by decide) rfl (fun ls hl => ?_)
        refine lv_goto (tgt := 56) hx hb dX12_balanceAfter_92 (by decide) ?_
        exact ih  hf hp (lv_sub hl [3, 4, 5, 2, 1, 0] rfl)
set_option maxRecDepth 100000 in
set_option maxHeartbeats 4000000 in
theorem c_X12_balanceAfter (l : Launch) {E : Ev} (hN : 130 ≤ eN E) (hT : St E) (hlf : l.stackTraces = false) {σ : SM} {p1 : Int32} {p2 : Int32} {z : Nat ⊕ (Int32)} (hf : f_X12_balanceAfter p1 p2 σ = some z) : vx_Met l yX12_balanceAfter (wC yX12_balanceAfter cX12_balanceAfter 6 (some .int)) rm_X12_balanceAfter (va_Pc [.ref (adr E 19 0), .int p1, .int p2] (Wu E σ)) (va_Qi (fun r u => z = .inr r ∧ σ = u) (fun u t => Wu E u t) (eA E)) (XT E σ (fun k => z = .inl k)) 2 12 (eA E) := by
  refine gx_entry (lv := [(0, .ref (adr E 19 0)), (1, .int p1), (2, .int p2)]) (by decide) (Nat.le_of_ble_eq_true rfl) rfl ?_
  intro p e s m below meth c cx hxt hp ls hl
  have hx := cx.1.1
  have hb := cx.1.2.1
  unfold f_X12_balanceAfter at hf
  refine lv_aload_n hx hb dX12_balanceAfter_0 rfl (lv_at hl 0 rfl) ?_
  refine lv_iload_n hx hb dX12_balanceAfter_1 rfl (lv_at hl 1 rfl) ?_
  rcases fX hf with ⟨k_t, hc, rfl⟩ | ⟨_, hc, hf⟩
  · exact zv_thr cx hxt hp (yx_V (As := [.int p1]) (rest := []) cx hp hl (c_X12_requireSeller l hN hT hlf  hc) (cw_X12_151 cx (mc := 1) (ms := 6) rfl rfl ⟨by decide, by decide⟩) (rC_X12 hN cx hp) rfl rfl (Nat.le_of_ble_eq_true rfl) dX12_balanceAfter_2 ⟨by decide, by decide⟩) rfl rfl (by decide) (by decide)
  · refine zv_ok hp (yx_V (As := [.int p1]) (rest := []) cx hp hl (c_X12_requireSeller l hN hT hlf  hc) (cw_X12_151 cx (mc := 1) (ms := 6) rfl rfl ⟨by decide, by decide⟩) (rC_X12 hN cx hp) rfl rfl (Nat.le_of_ble_eq_true rfl) dX12_balanceAfter_2 ⟨by decide, by decide⟩) rfl (fun H locs hp => ?_)
    refine lv_iload_n hx hb dX12_balanceAfter_5 rfl (lv_at hl 2 rfl) ?_
    refine lv_if_lt (tgt := 16) hx hb dX12_balanceAfter_6 (by decide) (fun c1 => ?_) (fun c1 => ?_)
    · have hf := fp hf c1
      cases hf
      exact t_SW (k := 1) hlf hT cx hp hl.1 hxt xw_1 (cx.2.2.1.2.2.2.1 11 _ rfl) rfl dX12_balanceAfter_16 dX12_balanceAfter_19 dX12_balanceAfter_20 dX12_balanceAfter_23 dX12_balanceAfter_26 ⟨by decide, Nat.le_of_ble_eq_true rfl, by decide, by decide⟩ (by decide) (by decide)
    · have hf := fn hf c1
      refine lv_iload_n hx hb dX12_balanceAfter_9 rfl (lv_at hl 2 rfl) ?_
      refine lv_sipush (v := 400) hx hb dX12_balanceAfter_10 (by decide) ?_
      refine lv_icmp_le (tgt := 27) hx hb dX12_balanceAfter_13 (by decide) (fun c2 => ?_) (fun c2 => ?_)
      · have hf := fp hf c2
        refine lv_aload_n hx hb dX12_balanceAfter_27 rfl (lv_at hl 0 rfl) ?_
        refine gF_X12_99 rfl hN cx hp dX12_balanceAfter_28 ?_
        refine lv_aload_n hx hb dX12_balanceAfter_31 rfl (lv_at hl 0 rfl) ?_
        refine gF_X12_99 rfl hN cx hp dX12_balanceAfter_32 ?_
        refine lv_iload_n hx hb dX12_balanceAfter_35 rfl (lv_at hl 1 rfl) ?_
        obtain ⟨r3, hc, hf⟩ := fb hf
        refine x_i hp (y_V (As := [.int p1]) (rest := [.ref (adr E 0 0)]) cx hp hl (c_X5_heldBy l (Nat.le_trans (by decide) hN) hT (by decide) rfl hc) (cw_X12_167 cx (mc := 0) (ms := 0) rfl rfl ⟨by decide, by decide⟩) (rC_X5 (by decide) (Nat.le_trans (by decide) hN) cx hp) rfl rfl (Nat.le_of_ble_eq_true rfl) dX12_balanceAfter_36 ⟨by decide, by decide⟩) (fun r_c u_c H locs hq hp => ?_)
        obtain ⟨rfl, rfl⟩ := hq
        obtain ⟨r4, hc, hf⟩ := fb hf
        refine x_i hp (y_V (As := [.int r3]) (rest := []) cx hp hl (c_X5_priceOf l (Nat.le_trans (by decide) hN) hT (by decide) rfl hc) (cw_X12_164 cx (mc := 0) (ms := 0) rfl rfl ⟨by decide, by decide⟩) (rC_X5 (by decide) (Nat.le_trans (by decide) hN) cx hp) rfl rfl (Nat.le_of_ble_eq_true rfl) dX12_balanceAfter_39 ⟨by decide, by decide⟩) (fun r_c u_c H locs hq hp => ?_)
        obtain ⟨rfl, rfl⟩ := hq
        refine lv_istore_n (lv' := [(3, .int r4), (0, .ref (adr E 19 0)), (1, .int p1), (2, .int p2)]) hx hb dX12_balanceAfter_42 rfl hl (by decide) rfl (fun ls hl => ?_)
        refine lv_aload_n hx hb dX12_balanceAfter_43 rfl (lv_at hl 1 rfl) ?_
        refine gF_X12_99 rfl hN cx hp dX12_balanceAfter_44 ?_
        refine lv_iload_n hx hb dX12_balanceAfter_47 rfl (lv_at hl 2 rfl) ?_
        obtain ⟨r5, hc, hf⟩ := fb hf
        refine x_i hp (y_V (As := [.int p1]) (rest := []) cx hp hl (c_X5_coinsOf l (Nat.le_trans (by decide) hN) hT (by decide) rfl hc) (cw_X12_154 cx (mc := 0) (ms := 0) rfl rfl ⟨by decide, by decide⟩) (rC_X5 (by decide) (Nat.le_trans (by decide) hN) cx hp) rfl rfl (Nat.le_of_ble_eq_true rfl) dX12_balanceAfter_48 ⟨by decide, by decide⟩) (fun r_c u_c H locs hq hp => ?_)
        obtain ⟨rfl, rfl⟩ := hq
        refine lv_istore (lv' := [(4, .int r5), (3, .int r4), (0, .ref (adr E 19 0)), (1, .int p1), (2, .int p2)]) hx hb dX12_balanceAfter_51 hl (by decide) rfl (fun ls hl => ?_)
        refine lv_iconst (v := 1) hx hb dX12_balanceAfter_53 (by decide) ?_
        refine lv_istore (lv' := [(5, .int 1), (4, .int r5), (3, .int r4), (0, .ref (adr E 19 0)), (1, .int p1), (2, .int p2)]) hx hb dX12_balanceAfter_54 hl (by decide) rfl (fun ls hl => ?_)
        exact L_X12_balanceAfter_56 l hN hT hlf cx hxt  _ hf hp (lv_sub hl [3, 4, 5, 2, 1, 0] rfl)
      · have hf := fn hf c2
        cases hf
        exact t_SW (k := 1) hlf hT cx hp hl.1 hxt xw_1 (cx.2.2.1.2.2.2.1 11 _ rfl) rfl dX12_balanceAfter_16 dX12_balanceAfter_19 dX12_balanceAfter_20 dX12_balanceAfter_23 dX12_balanceAfter_26 ⟨by decide, Nat.le_of_ble_eq_true rfl, by decide, by decide⟩ (by decide) (by decide)
abbrev rm_X12_rentPaid : Room := { frames := 0, cells := 0, slots := 0, locals := 0 }
set_option maxRecDepth 100000 in
set_option maxHeartbeats 4000000 in
theorem c_X12_rentPaid (l : Launch) {E : Ev} (hN : 130 ≤ eN E) (hT : St E) {σ : SM}  {rv : Int32} (hf : f_X12_rentPaid σ = some rv) : Met l yX12_rentPaid (wC yX12_rentPaid cX12_rentPaid 1 (some .int)) rm_X12_rentPaid (va_Pc [.ref (adr E 19 0)] (Wu E σ)) (va_Qi (fun r u => rv = r ∧ σ = u) (fun u t => Wu E u t) (eA E)) 0 0 (eA E) := by
  refine g_entry (lv := [(0, .ref (adr E 19 0))]) (by decide) (Nat.le_of_ble_eq_true rfl) rfl ?_
  intro p e s m below meth c cx hp ls hl
  have hx := cx.1.1
  have hb := cx.1.2.1
  unfold f_X12_rentPaid at hf
  refine lv_aload_n hx hb dX12_rentPaid_0 rfl (lv_at hl 0 rfl) ?_
  refine gF_X12_99 rfl hN cx hp dX12_rentPaid_1 ?_
  refine gF_X12_274 (by decide) rfl (Nat.le_trans (by decide) hN) cx hp dX12_rentPaid_4 ?_
  cases hf
  exact r_i cx hp ⟨rfl, rfl⟩ dX12_rentPaid_7
abbrev rm_X12_evictionCount : Room := { frames := 0, cells := 0, slots := 0, locals := 0 }
set_option maxRecDepth 100000 in
set_option maxHeartbeats 4000000 in
theorem c_X12_evictionCount (l : Launch) {E : Ev} (hN : 130 ≤ eN E) (hT : St E) {σ : SM}  {rv : Int32} (hf : f_X12_evictionCount σ = some rv) : Met l yX12_evictionCount (wC yX12_evictionCount cX12_evictionCount 1 (some .int)) rm_X12_evictionCount (va_Pc [.ref (adr E 19 0)] (Wu E σ)) (va_Qi (fun r u => rv = r ∧ σ = u) (fun u t => Wu E u t) (eA E)) 0 0 (eA E) := by
  refine g_entry (lv := [(0, .ref (adr E 19 0))]) (by decide) (Nat.le_of_ble_eq_true rfl) rfl ?_
  intro p e s m below meth c cx hp ls hl
  have hx := cx.1.1
  have hb := cx.1.2.1
  unfold f_X12_evictionCount at hf
  refine lv_aload_n hx hb dX12_evictionCount_0 rfl (lv_at hl 0 rfl) ?_
  refine gF_X12_99 rfl hN cx hp dX12_evictionCount_1 ?_
  refine gF_X12_277 (by decide) rfl (Nat.le_trans (by decide) hN) cx hp dX12_evictionCount_4 ?_
  cases hf
  exact r_i cx hp ⟨rfl, rfl⟩ dX12_evictionCount_7
abbrev rm_X12_swapCount : Room := { frames := 0, cells := 0, slots := 0, locals := 0 }
set_option maxRecDepth 100000 in
set_option maxHeartbeats 4000000 in
theorem c_X12_swapCount (l : Launch) {E : Ev} (hN : 130 ≤ eN E) (hT : St E) {σ : SM}  {rv : Int32} (hf : f_X12_swapCount σ = some rv) : Met l yX12_swapCount (wC yX12_swapCount cX12_swapCount 1 (some .int)) rm_X12_swapCount (va_Pc [.ref (adr E 19 0)] (Wu E σ)) (va_Qi (fun r u => rv = r ∧ σ = u) (fun u t => Wu E u t) (eA E)) 0 0 (eA E) := by
  refine g_entry (lv := [(0, .ref (adr E 19 0))]) (by decide) (Nat.le_of_ble_eq_true rfl) rfl ?_
  intro p e s m below meth c cx hp ls hl
  have hx := cx.1.1
  have hb := cx.1.2.1
  unfold f_X12_swapCount at hf
  refine lv_aload_n hx hb dX12_swapCount_0 rfl (lv_at hl 0 rfl) ?_
  refine gF_X12_99 rfl hN cx hp dX12_swapCount_1 ?_
  refine gF_X12_280 (by decide) rfl (Nat.le_trans (by decide) hN) cx hp dX12_swapCount_4 ?_
  cases hf
  exact r_i cx hp ⟨rfl, rfl⟩ dX12_swapCount_7
abbrev rm_X12_relocationCount : Room := { frames := 0, cells := 0, slots := 0, locals := 0 }
set_option maxRecDepth 100000 in
set_option maxHeartbeats 4000000 in
theorem c_X12_relocationCount (l : Launch) {E : Ev} (hN : 130 ≤ eN E) (hT : St E) {σ : SM}  {rv : Int32} (hf : f_X12_relocationCount σ = some rv) : Met l yX12_relocationCount (wC yX12_relocationCount cX12_relocationCount 1 (some .int)) rm_X12_relocationCount (va_Pc [.ref (adr E 19 0)] (Wu E σ)) (va_Qi (fun r u => rv = r ∧ σ = u) (fun u t => Wu E u t) (eA E)) 0 0 (eA E) := by
  refine g_entry (lv := [(0, .ref (adr E 19 0))]) (by decide) (Nat.le_of_ble_eq_true rfl) rfl ?_
  intro p e s m below meth c cx hp ls hl
  have hx := cx.1.1
  have hb := cx.1.2.1
  unfold f_X12_relocationCount at hf
  refine lv_aload_n hx hb dX12_relocationCount_0 rfl (lv_at hl 0 rfl) ?_
  refine gF_X12_99 rfl hN cx hp dX12_relocationCount_1 ?_
  refine gF_X12_283 (by decide) rfl (Nat.le_trans (by decide) hN) cx hp dX12_relocationCount_4 ?_
  cases hf
  exact r_i cx hp ⟨rfl, rfl⟩ dX12_relocationCount_7
abbrev rm_X12_meanRank : Room := { frames := 2, cells := 0, slots := 0, locals := 42 }
set_option maxRecDepth 100000 in
set_option maxHeartbeats 4000000 in
theorem L_X12_meanRank_6 {p : Program} {e : Env} {s : State} {m : MethodId} {args : Array Value} {below : List Frame} {meth : Method} {c : Code} (l : Launch) {E : Ev} (hN : 130 ≤ eN E) (hT : St E) {σ : SM} {Q : State → Prop} (cx : Cx E p s m meth c args RX12 cX12_meanRank 5 (some .double)) {z1 : Int32} {z2 : Int32} (K : ∀ (H : Heap) (locs : List Loc) (ls : Array Slot), Hp E σ s H locs → lv_has ls 5 [(1, .int z1), (2, .int z2)] → W p l e rm_X12_meanRank s m args below meth c H locs 0 0 Q (F0 m 55 ls [])) : ∀ (n : Nat) {x3 : Int32} {x2 : Int32} {x1 : Int32}, f_X12_meanRank_6 σ n x3 x2 x1 = some (z1, z2) → ∀ {H : Heap} {locs : List Loc} {ls : Array Slot}, Hp E σ s H locs → lv_has ls 5 [(0, .ref (adr E 19 0)), (1, .int x1), (2, .int x2), (3, .int x3)] → W p l e rm_X12_meanRank s m args below meth c H locs 0 0 Q (F0 m 6 ls []) := by
  have hx := cx.1.1
  have hb := cx.1.2.1
  intro n
  induction n with
  | zero =>
    intro x3 x2 x1 hf
    exact absurd hf (by simp [f_X12_meanRank_6])
  | succ n ih =>
    intro x3 x2 x1 hf H locs ls hp hl
    rw [f_X12_meanRank_6] at hf
    refine lv_iload_n hx hb dX12_meanRank_6 rfl (lv_at hl 3 rfl) ?_
    refine lv_aload_n hx hb dX12_meanRank_7 rfl (lv_at hl 0 rfl) ?_
    refine gF_X12_99 rfl hN cx hp dX12_meanRank_8 ?_
    refine gF_X12_127 (by decide) rfl (Nat.le_trans (by decide) hN) cx hp dX12_meanRank_11 ?_
    refine lv_icmp_ge (tgt := 55) hx hb dX12_meanRank_14 (by decide) (fun c1 => ?_) (fun c1 => ?_)
    · have hf := fp hf c1
      cases hf
      exact K _ _ _  hp (lv_sub hl [1, 2] rfl)
    · have hf := fn hf c1
      refine lv_aload_n hx hb dX12_meanRank_17 rfl (lv_at hl 0 rfl) ?_
      refine gF_X12_99 rfl hN cx hp dX12_meanRank_18 ?_
      refine lv_iload_n hx hb dX12_meanRank_21 rfl (lv_at hl 3 rfl) ?_
      refine lv_aload_n hx hb dX12_meanRank_22 rfl (lv_at hl 0 rfl) ?_
      refine gF_X12_99 rfl hN cx hp dX12_meanRank_23 ?_
      refine lv_iload_n hx hb dX12_meanRank_26 rfl (lv_at hl 3 rfl) ?_
      obtain ⟨r2, hc, hf⟩ := fb hf
      refine x_i hp (y_V (As := [.int x3]) (rest := [.int x3, .ref (adr E 0 0)]) cx hp hl (c_X5_heldBy l (Nat.le_trans (by decide) hN) hT (by decide) rfl hc) (cw_X12_167 cx (mc := 0) (ms := 0) rfl rfl ⟨by decide, by decide⟩) (rC_X5 (by decide) (Nat.le_trans (by decide) hN) cx hp) rfl rfl (Nat.le_of_ble_eq_true rfl) dX12_meanRank_27 ⟨Nat.zero_le _, Nat.zero_le _⟩) (fun r_c u_c H locs hq hp => ?_)
      obtain ⟨rfl, rfl⟩ := hq
      obtain ⟨r3, hc, hf⟩ := fb hf
      refine x_i hp (y_V (As := [.int x3, .int r2]) (rest := []) cx hp hl (c_X5_rankIn l (Nat.le_trans (by decide) hN) hT (by decide) rfl hc) (cw_X12_188 cx (mc := 0) (ms := 0) rfl rfl ⟨by decide, by decide⟩) (rC_X5 (by decide) (Nat.le_trans (by decide) hN) cx hp) rfl rfl (Nat.le_of_ble_eq_true rfl) dX12_meanRank_30 ⟨Nat.zero_le _, Nat.zero_le _⟩) (fun r_c u_c H locs hq hp => ?_)
      obtain ⟨rfl, rfl⟩ := hq
      refine lv_istore (lv' := [(4, .int r3), (0, .ref (adr E 19 0)), (1, .int x1), (2, .int x2), (3, .int x3)]) hx hb dX12_meanRank_33 hl (by decide) rfl (fun ls hl => ?_)
      refine lv_iload hx hb dX12_meanRank_35 (lv_at hl 0 rfl) ?_
      refine lv_iconst (v := (-1)) hx hb dX12_meanRank_37 (by decide) ?_
      refine lv_icmp_eq (tgt := 49) hx hb dX12_meanRank_38 (by decide) (fun c4 => ?_) (fun c4 => ?_)
      · have hf := fp hf c4
        refine lv_iinc (v := (x3 + 1)) (lv' := [(3, .int (x3 + 1)), (4, .int r3), (0, .ref (adr E 19 0)), (1, .int x1), (2, .int x2)]) hx hb dX12_meanRank_49 hl (k := 4) rfl rfl (by decide) rfl (fun ls hl => ?_)
        refine lv_goto (tgt := 6) hx hb dX12_meanRank_52 (by decide) ?_
        exact ih  hf hp (lv_sub hl [2, 3, 4, 0] rfl)
      · have hf := fn hf c4
        refine lv_iload_n hx hb dX12_meanRank_41 rfl (lv_at hl 2 rfl) ?_
        refine lv_iload hx hb dX12_meanRank_42 (lv_at hl 0 rfl) ?_
        refine lv_iadd hx hb dX12_meanRank_44 ?_
        obtain ⟨i5, x_e, hf⟩ := fl hf
        refine lv_nm x_e ?_
        refine lv_istore_n (lv' := [(1, .int i5), (4, .int r3), (0, .ref (adr E 19 0)), (2, .int x2), (3, .int x3)]) hx hb dX12_meanRank_45 rfl hl (by decide) rfl (fun ls hl => ?_)
        refine lv_iinc (v := (x2 + 1)) (lv' := [(2, .int (x2 + 1)), (1, .int i5), (4, .int r3), (0, .ref (adr E 19 0)), (3, .int x3)]) hx hb dX12_meanRank_46 hl (k := 3) rfl rfl (by decide) rfl (fun ls hl => ?_)
        refine lv_iinc (v := (x3 + 1)) (lv' := [(3, .int (x3 + 1)), (2, .int (x2 + 1)), (1, .int i5), (4, .int r3), (0, .ref (adr E 19 0))]) hx hb dX12_meanRank_49 hl (k := 4) rfl rfl (by decide) rfl (fun ls hl => ?_)
        refine lv_goto (tgt := 6) hx hb dX12_meanRank_52 (by decide) ?_
        exact ih  hf hp (lv_sub hl [4, 2, 1, 0] rfl)
set_option maxRecDepth 100000 in
set_option maxHeartbeats 4000000 in
theorem c_X12_meanRank (l : Launch) {E : Ev} (hN : 130 ≤ eN E) (hT : St E) {σ : SM}  {rv : UInt64} (hf : f_X12_meanRank σ = some rv) : Met l yX12_meanRank (wC yX12_meanRank cX12_meanRank 5 (some .double)) rm_X12_meanRank (va_Pc [.ref (adr E 19 0)] (Wu E σ)) (va_Qd (fun r u => rv = r ∧ σ = u) (fun u t => Wu E u t) (eA E)) 0 0 (eA E) := by
  refine g_entry (lv := [(0, .ref (adr E 19 0))]) (by decide) (Nat.le_of_ble_eq_true rfl) rfl ?_
  intro p e s m below meth c cx hp ls hl
  have hx := cx.1.1
  have hb := cx.1.2.1
  unfold f_X12_meanRank at hf
  refine lv_iconst (v := 0) hx hb dX12_meanRank_0 (by decide) ?_
  refine lv_istore_n (lv' := [(1, .int 0), (0, .ref (adr E 19 0))]) hx hb dX12_meanRank_1 rfl hl (by decide) rfl (fun ls hl => ?_)
  refine lv_iconst (v := 0) hx hb dX12_meanRank_2 (by decide) ?_
  refine lv_istore_n (lv' := [(2, .int 0), (1, .int 0), (0, .ref (adr E 19 0))]) hx hb dX12_meanRank_3 rfl hl (by decide) rfl (fun ls hl => ?_)
  refine lv_iconst (v := 0) hx hb dX12_meanRank_4 (by decide) ?_
  refine lv_istore_n (lv' := [(3, .int 0), (2, .int 0), (1, .int 0), (0, .ref (adr E 19 0))]) hx hb dX12_meanRank_5 rfl hl (by decide) rfl (fun ls hl => ?_)
  obtain ⟨i6, i7, hc, hf⟩ := fb2 hf
  refine L_X12_meanRank_6 l hN hT cx  (fun H locs ls hp hl => ?_) _ hc hp (lv_sub hl [3, 2, 1, 0] rfl)
  refine lv_iload_n hx hb dX12_meanRank_55 rfl (lv_at hl 1 rfl) ?_
  refine lv_if_ne (tgt := 63) hx hb dX12_meanRank_56 (by decide) (fun c8 => ?_) (fun c8 => ?_)
  · have hf := fn hf c8
    refine lv_iload_n hx hb dX12_meanRank_63 rfl (lv_at hl 0 rfl) ?_
    refine lv_i2d hx hb dX12_meanRank_64 ?_
    refine lv_iload_n hx hb dX12_meanRank_65 rfl (lv_at hl 1 rfl) ?_
    refine lv_i2d hx hb dX12_meanRank_66 ?_
    obtain ⟨g_n, hf⟩ := fg hf
    refine lv_ddiv hx hb dX12_meanRank_67 (nn64_vf g_n) ?_
    cases hf
    exact r_d cx hp ⟨rfl, rfl⟩ dX12_meanRank_68
  · have hf := fp hf c8
    refine lv_dconst0 hx hb dX12_meanRank_59 ?_
    refine lv_goto (tgt := 68) hx hb dX12_meanRank_60 (by decide) ?_
    cases hf
    exact r_d cx hp ⟨rfl, rfl⟩ dX12_meanRank_68
abbrev rm_X12_placedFraction : Room := { frames := 1, cells := 0, slots := 0, locals := 22 }
set_option maxRecDepth 100000 in
set_option maxHeartbeats 4000000 in
theorem c_X12_placedFraction (l : Launch) {E : Ev} (hN : 130 ≤ eN E) (hT : St E) {σ : SM}  {rv : UInt32} (hf : f_X12_placedFraction σ = some rv) : Met l yX12_placedFraction (wC yX12_placedFraction cX12_placedFraction 2 (some .float)) rm_X12_placedFraction (va_Pc [.ref (adr E 19 0)] (Wu E σ)) (va_Qf (fun r u => rv = r ∧ σ = u) (fun u t => Wu E u t) (eA E)) 0 0 (eA E) := by
  refine g_entry (lv := [(0, .ref (adr E 19 0))]) (by decide) (Nat.le_of_ble_eq_true rfl) rfl ?_
  intro p e s m below meth c cx hp ls hl
  have hx := cx.1.1
  have hb := cx.1.2.1
  unfold f_X12_placedFraction at hf
  refine lv_aload_n hx hb dX12_placedFraction_0 rfl (lv_at hl 0 rfl) ?_
  refine gF_X12_99 rfl hN cx hp dX12_placedFraction_1 ?_
  refine gF_X12_127 (by decide) rfl (Nat.le_trans (by decide) hN) cx hp dX12_placedFraction_4 ?_
  obtain ⟨i1, x_e, hf⟩ := fl hf
  refine lv_nm x_e ?_
  refine lv_istore_n (lv' := [(1, .int i1), (0, .ref (adr E 19 0))]) hx hb dX12_placedFraction_7 rfl hl (by decide) rfl (fun ls hl => ?_)
  refine lv_iload_n hx hb dX12_placedFraction_8 rfl (lv_at hl 0 rfl) ?_
  refine lv_if_ne (tgt := 16) hx hb dX12_placedFraction_9 (by decide) (fun c2 => ?_) (fun c2 => ?_)
  · have hf := fn hf c2
    refine lv_aload_n hx hb dX12_placedFraction_16 rfl (lv_at hl 1 rfl) ?_
    refine gF_X12_99 rfl hN cx hp dX12_placedFraction_17 ?_
    obtain ⟨r3, hc, hf⟩ := fb hf
    refine x_i hp (y_V (As := []) (rest := []) cx hp hl (c_X5_housedSellers l (Nat.le_trans (by decide) hN) hT (by decide) rfl hc) (cw_X12_223 cx (mc := 0) (ms := 0) rfl rfl ⟨by decide, by decide⟩) (rC_X5 (by decide) (Nat.le_trans (by decide) hN) cx hp) rfl rfl (Nat.le_of_ble_eq_true rfl) dX12_placedFraction_20 ⟨Nat.zero_le _, Nat.zero_le _⟩) (fun r_c u_c H locs hq hp => ?_)
    obtain ⟨rfl, rfl⟩ := hq
    refine lv_i2f hx hb dX12_placedFraction_23 ?_
    refine lv_iload_n hx hb dX12_placedFraction_24 rfl (lv_at hl 0 rfl) ?_
    refine lv_i2f hx hb dX12_placedFraction_25 ?_
    obtain ⟨g_n, hf⟩ := fg hf
    refine lv_fdiv hx hb dX12_placedFraction_26 (nn32_vf g_n) ?_
    cases hf
    exact r_f cx hp ⟨rfl, rfl⟩ dX12_placedFraction_27
  · have hf := fp hf c2
    refine lv_fconst0 hx hb dX12_placedFraction_12 ?_
    refine lv_goto (tgt := 27) hx hb dX12_placedFraction_13 (by decide) ?_
    cases hf
    exact r_f cx hp ⟨rfl, rfl⟩ dX12_placedFraction_27
abbrev rm_X12_ledgerDifference : Room := { frames := 2, cells := 0, slots := 0, locals := 42 }
set_option maxRecDepth 100000 in
set_option maxHeartbeats 4000000 in
theorem L_X12_ledgerDifference_4 {p : Program} {e : Env} {s : State} {m : MethodId} {args : Array Value} {below : List Frame} {meth : Method} {c : Code} (l : Launch) {E : Ev} (hN : 130 ≤ eN E) (hT : St E) {σ : SM} {Q : State → Prop} (cx : Cx E p s m meth c args RX12 cX12_ledgerDifference 3 (some .int)) {z1 : Int32} (K : ∀ (H : Heap) (locs : List Loc) (ls : Array Slot), Hp E σ s H locs → lv_has ls 3 [(0, .ref (adr E 19 0)), (1, .int z1)] → W p l e rm_X12_ledgerDifference s m args below meth c H locs 0 0 Q (F0 m 32 ls [])) : ∀ (n : Nat) {x2 : Int32} {x1 : Int32}, f_X12_ledgerDifference_4 σ n x2 x1 = some z1 → ∀ {H : Heap} {locs : List Loc} {ls : Array Slot}, Hp E σ s H locs → lv_has ls 3 [(0, .ref (adr E 19 0)), (1, .int x1), (2, .int x2)] → W p l e rm_X12_ledgerDifference s m args below meth c H locs 0 0 Q (F0 m 4 ls []) := by
  have hx := cx.1.1
  have hb := cx.1.2.1
  intro n
  induction n with
  | zero =>
    intro x2 x1 hf
    exact absurd hf (by simp [f_X12_ledgerDifference_4])
  | succ n ih =>
    intro x2 x1 hf H locs ls hp hl
    rw [f_X12_ledgerDifference_4] at hf
    refine lv_iload_n hx hb dX12_ledgerDifference_4 rfl (lv_at hl 2 rfl) ?_
    refine lv_aload_n hx hb dX12_ledgerDifference_5 rfl (lv_at hl 0 rfl) ?_
    refine gF_X12_99 rfl hN cx hp dX12_ledgerDifference_6 ?_
    refine gF_X12_127 (by decide) rfl (Nat.le_trans (by decide) hN) cx hp dX12_ledgerDifference_9 ?_
    refine lv_icmp_ge (tgt := 32) hx hb dX12_ledgerDifference_12 (by decide) (fun c1 => ?_) (fun c1 => ?_)
    · have hf := fp hf c1
      cases hf
      exact K _ _ _  hp (lv_sub hl [0, 1] rfl)
    · have hf := fn hf c1
      refine lv_iload_n hx hb dX12_ledgerDifference_15 rfl (lv_at hl 1 rfl) ?_
      refine lv_aload_n hx hb dX12_ledgerDifference_16 rfl (lv_at hl 0 rfl) ?_
      refine gF_X12_99 rfl hN cx hp dX12_ledgerDifference_17 ?_
      refine lv_iload_n hx hb dX12_ledgerDifference_20 rfl (lv_at hl 2 rfl) ?_
      obtain ⟨r2, hc, hf⟩ := fb hf
      refine x_i hp (y_V (As := [.int x2]) (rest := [.int x1]) cx hp hl (c_X5_coinsOf l (Nat.le_trans (by decide) hN) hT (by decide) rfl hc) (cw_X12_154 cx (mc := 0) (ms := 0) rfl rfl ⟨by decide, by decide⟩) (rC_X5 (by decide) (Nat.le_trans (by decide) hN) cx hp) rfl rfl (Nat.le_of_ble_eq_true rfl) dX12_ledgerDifference_21 ⟨Nat.zero_le _, Nat.zero_le _⟩) (fun r_c u_c H locs hq hp => ?_)
      obtain ⟨rfl, rfl⟩ := hq
      refine lv_iadd hx hb dX12_ledgerDifference_24 ?_
      obtain ⟨i3, x_e, hf⟩ := fl hf
      refine lv_nm x_e ?_
      refine lv_istore_n (lv' := [(1, .int i3), (0, .ref (adr E 19 0)), (2, .int x2)]) hx hb dX12_ledgerDifference_25 rfl hl (by decide) rfl (fun ls hl => ?_)
      refine lv_iinc (v := (x2 + 1)) (lv' := [(2, .int (x2 + 1)), (1, .int i3), (0, .ref (adr E 19 0))]) hx hb dX12_ledgerDifference_26 hl (k := 2) rfl rfl (by decide) rfl (fun ls hl => ?_)
      refine lv_goto (tgt := 4) hx hb dX12_ledgerDifference_29 (by decide) ?_
      exact ih  hf hp (lv_sub hl [2, 1, 0] rfl)
set_option maxRecDepth 100000 in
set_option maxHeartbeats 4000000 in
theorem c_X12_ledgerDifference (l : Launch) {E : Ev} (hN : 130 ≤ eN E) (hT : St E) {σ : SM}  {rv : Int32} (hf : f_X12_ledgerDifference σ = some rv) : Met l yX12_ledgerDifference (wC yX12_ledgerDifference cX12_ledgerDifference 3 (some .int)) rm_X12_ledgerDifference (va_Pc [.ref (adr E 19 0)] (Wu E σ)) (va_Qi (fun r u => rv = r ∧ σ = u) (fun u t => Wu E u t) (eA E)) 0 0 (eA E) := by
  refine g_entry (lv := [(0, .ref (adr E 19 0))]) (by decide) (Nat.le_of_ble_eq_true rfl) rfl ?_
  intro p e s m below meth c cx hp ls hl
  have hx := cx.1.1
  have hb := cx.1.2.1
  unfold f_X12_ledgerDifference at hf
  refine lv_iconst (v := 0) hx hb dX12_ledgerDifference_0 (by decide) ?_
  refine lv_istore_n (lv' := [(1, .int 0), (0, .ref (adr E 19 0))]) hx hb dX12_ledgerDifference_1 rfl hl (by decide) rfl (fun ls hl => ?_)
  refine lv_iconst (v := 0) hx hb dX12_ledgerDifference_2 (by decide) ?_
  refine lv_istore_n (lv' := [(2, .int 0), (1, .int 0), (0, .ref (adr E 19 0))]) hx hb dX12_ledgerDifference_3 rfl hl (by decide) rfl (fun ls hl => ?_)
  obtain ⟨i4, hc, hf⟩ := fb hf
  refine L_X12_ledgerDifference_4 l hN hT cx  (fun H locs ls hp hl => ?_) _ hc hp (lv_sub hl [2, 1, 0] rfl)
  refine lv_iload_n hx hb dX12_ledgerDifference_32 rfl (lv_at hl 1 rfl) ?_
  refine lv_aload_n hx hb dX12_ledgerDifference_33 rfl (lv_at hl 0 rfl) ?_
  refine gF_X12_99 rfl hN cx hp dX12_ledgerDifference_34 ?_
  refine gF_X12_286 (by decide) rfl (Nat.le_trans (by decide) hN) cx hp dX12_ledgerDifference_37 ?_
  refine lv_isub hx hb dX12_ledgerDifference_40 ?_
  refine lv_aload_n hx hb dX12_ledgerDifference_41 rfl (lv_at hl 0 rfl) ?_
  refine gF_X12_99 rfl hN cx hp dX12_ledgerDifference_42 ?_
  refine gF_X12_289 (by decide) rfl (Nat.le_trans (by decide) hN) cx hp dX12_ledgerDifference_45 ?_
  refine lv_isub hx hb dX12_ledgerDifference_48 ?_
  refine lv_aload_n hx hb dX12_ledgerDifference_49 rfl (lv_at hl 0 rfl) ?_
  refine gF_X12_99 rfl hN cx hp dX12_ledgerDifference_50 ?_
  refine gF_X12_274 (by decide) rfl (Nat.le_trans (by decide) hN) cx hp dX12_ledgerDifference_53 ?_
  refine lv_iadd hx hb dX12_ledgerDifference_56 ?_
  cases hf
  exact r_i cx hp ⟨rfl, rfl⟩ dX12_ledgerDifference_57
abbrev rm_X12_assign : Room := { frames := 7, cells := 3, slots := 18, locals := 103 }
set_option maxRecDepth 100000 in
set_option maxHeartbeats 4000000 in
theorem c_X12_assign (l : Launch) {E : Ev} (hN : 130 ≤ eN E) (hT : St E) (hlf : l.stackTraces = false) {σ : SM} {p1 : Int32} {p2 : Int32} {z : Nat ⊕ (Int32 × SM)} (hf : f_X12_assign p1 p2 σ = some z) : vx_Met l yX12_assign (wC yX12_assign cX12_assign 4 (some .int)) rm_X12_assign (va_Pc [.ref (adr E 19 0), .int p1, .int p2] (Wu E σ)) (va_Qi (fun r u => z = .inr (r, u)) (fun u t => Wu E u t) (eA E)) (XT E σ (fun k => z = .inl k)) 3 18 (eA E) := by
  refine gx_entry (lv := [(0, .ref (adr E 19 0)), (1, .int p1), (2, .int p2)]) (by decide) (Nat.le_of_ble_eq_true rfl) rfl ?_
  intro p e s m below meth c cx hxt hp ls hl
  have hx := cx.1.1
  have hb := cx.1.2.1
  unfold f_X12_assign at hf
  refine lv_aload_n hx hb dX12_assign_0 rfl (lv_at hl 0 rfl) ?_
  refine lv_iload_n hx hb dX12_assign_1 rfl (lv_at hl 1 rfl) ?_
  rcases fX hf with ⟨k_t, hc, rfl⟩ | ⟨_, hc, hf⟩
  · exact zv_thr cx hxt hp (yx_V (As := [.int p1]) (rest := []) cx hp hl (c_X12_requireSeller l hN hT hlf  hc) (cw_X12_151 cx (mc := 1) (ms := 6) rfl rfl ⟨by decide, by decide⟩) (rC_X12 hN cx hp) rfl rfl (Nat.le_of_ble_eq_true rfl) dX12_assign_2 ⟨by decide, by decide⟩) rfl rfl (by decide) (by decide)
  · refine zv_ok hp (yx_V (As := [.int p1]) (rest := []) cx hp hl (c_X12_requireSeller l hN hT hlf  hc) (cw_X12_151 cx (mc := 1) (ms := 6) rfl rfl ⟨by decide, by decide⟩) (rC_X12 hN cx hp) rfl rfl (Nat.le_of_ble_eq_true rfl) dX12_assign_2 ⟨by decide, by decide⟩) rfl (fun H locs hp => ?_)
    refine lv_aload_n hx hb dX12_assign_5 rfl (lv_at hl 0 rfl) ?_
    refine lv_iload_n hx hb dX12_assign_6 rfl (lv_at hl 2 rfl) ?_
    rcases fX hf with ⟨k_t, hc, rfl⟩ | ⟨_, hc, hf⟩
    · exact zv_thr cx hxt hp (yx_V (As := [.int p2]) (rest := []) cx hp hl (c_X12_requireStall l hN hT hlf  hc) (cw_X12_161 cx (mc := 1) (ms := 6) rfl rfl ⟨by decide, by decide⟩) (rC_X12 hN cx hp) rfl rfl (Nat.le_of_ble_eq_true rfl) dX12_assign_7 ⟨by decide, by decide⟩) rfl rfl (by decide) (by decide)
    · refine zv_ok hp (yx_V (As := [.int p2]) (rest := []) cx hp hl (c_X12_requireStall l hN hT hlf  hc) (cw_X12_161 cx (mc := 1) (ms := 6) rfl rfl ⟨by decide, by decide⟩) (rC_X12 hN cx hp) rfl rfl (Nat.le_of_ble_eq_true rfl) dX12_assign_7 ⟨by decide, by decide⟩) rfl (fun H locs hp => ?_)
      refine lv_aload_n hx hb dX12_assign_10 rfl (lv_at hl 0 rfl) ?_
      refine gF_X12_99 rfl hN cx hp dX12_assign_11 ?_
      refine lv_iload_n hx hb dX12_assign_14 rfl (lv_at hl 1 rfl) ?_
      refine lv_iload_n hx hb dX12_assign_15 rfl (lv_at hl 2 rfl) ?_
      obtain ⟨r1, hc, hf⟩ := fb hf
      refine x_i hp (y_V (As := [.int p1, .int p2]) (rest := []) cx hp hl (c_X5_mayMoveInto l (Nat.le_trans (by decide) hN) hT (by decide) rfl hc) (cw_X12_292 cx (mc := 0) (ms := 0) rfl rfl ⟨by decide, by decide⟩) (rC_X5 (by decide) (Nat.le_trans (by decide) hN) cx hp) rfl rfl (Nat.le_of_ble_eq_true rfl) dX12_assign_16 ⟨by decide, by decide⟩) (fun r_c u_c H locs hq hp => ?_)
      obtain ⟨rfl, rfl⟩ := hq
      refine lv_if_ne (tgt := 33) hx hb dX12_assign_19 (by decide) (fun c2 => ?_) (fun c2 => ?_)
      · have hf := fn hf c2
        refine lv_aload_n hx hb dX12_assign_33 rfl (lv_at hl 0 rfl) ?_
        refine gF_X12_40 rfl hN cx hp dX12_assign_34 ?_
        refine lv_aload_n hx hb dX12_assign_37 rfl (lv_at hl 0 rfl) ?_
        refine gF_X12_99 rfl hN cx hp dX12_assign_38 ?_
        obtain ⟨σ3, hc, hf⟩ := fb hf
        refine x_v hp (y_V (As := [.ref (adr E 0 0)]) (rest := []) cx hp hl (c_X4_record l (Nat.le_trans (by decide) hN) hT  hc) (cw_X12_131 cx (mc := 0) (ms := 0) rfl rfl ⟨by decide, by decide⟩) (rC_X4 (Nat.le_trans (by decide) hN) cx hp) rfl rfl (Nat.le_of_ble_eq_true rfl) dX12_assign_41 ⟨by decide, by decide⟩) (fun u_c H locs hq hp => ?_)
        obtain rfl := hq
        refine lv_aload_n hx hb dX12_assign_44 rfl (lv_at hl 0 rfl) ?_
        refine gF_X12_99 rfl hN cx hp dX12_assign_45 ?_
        refine lv_iload_n hx hb dX12_assign_48 rfl (lv_at hl 1 rfl) ?_
        obtain ⟨r4, hc, hf⟩ := fb hf
        refine x_i hp (y_V (As := [.int p1]) (rest := []) cx hp hl (c_X5_heldBy l (Nat.le_trans (by decide) hN) hT (by decide) rfl hc) (cw_X12_167 cx (mc := 0) (ms := 0) rfl rfl ⟨by decide, by decide⟩) (rC_X5 (by decide) (Nat.le_trans (by decide) hN) cx hp) rfl rfl (Nat.le_of_ble_eq_true rfl) dX12_assign_49 ⟨by decide, by decide⟩) (fun r_c u_c H locs hq hp => ?_)
        obtain ⟨rfl, rfl⟩ := hq
        refine lv_istore_n (lv' := [(3, .int r4), (0, .ref (adr E 19 0)), (1, .int p1), (2, .int p2)]) hx hb dX12_assign_52 rfl hl (by decide) rfl (fun ls hl => ?_)
        refine lv_aload_n hx hb dX12_assign_53 rfl (lv_at hl 1 rfl) ?_
        refine gF_X12_99 rfl hN cx hp dX12_assign_54 ?_
        refine lv_iload_n hx hb dX12_assign_57 rfl (lv_at hl 2 rfl) ?_
        refine lv_iload_n hx hb dX12_assign_58 rfl (lv_at hl 3 rfl) ?_
        obtain ⟨m5, hc, hf⟩ := fb hf
        refine x_v hp (y_V (As := [.int p1, .int p2]) (rest := []) cx hp hl (c_X5_seat l (Nat.le_trans (by decide) hN) hT (by decide) rfl hc) (cw_X12_298 cx (mc := 0) (ms := 0) rfl rfl ⟨by decide, by decide⟩) (rC_X5 (by decide) (Nat.le_trans (by decide) hN) cx hp) rfl rfl (Nat.le_of_ble_eq_true rfl) dX12_assign_59 ⟨by decide, by decide⟩) (fun u_c H locs hq hp => ?_)
        obtain ⟨e_0, n_u⟩ := hq
        obtain ⟨σ6, e_l, hf⟩ := fl hf
        obtain rfl := ((us_x e_0 n_u).trans e_l).symm
        refine lv_iload_n hx hb dX12_assign_62 rfl (lv_at hl 0 rfl) ?_
        cases hf
        refine vx_ret ?_
        refine W.widen (k := 3) (n := 18) (by decide) (by decide) ?_
        exact r_i cx hp rfl dX12_assign_63
      · have hf := fp hf c2
        cases hf
        exact t_SW (k := 0) hlf hT cx hp hl.1 hxt xw_0 (cx.2.2.1.2.2.2.1 12 _ rfl) rfl dX12_assign_22 dX12_assign_25 dX12_assign_26 dX12_assign_29 dX12_assign_32 ⟨by decide, Nat.le_of_ble_eq_true rfl, by decide, by decide⟩ (by decide) (by decide)
abbrev rm_X12_vacate : Room := { frames := 7, cells := 2, slots := 12, locals := 103 }
set_option maxRecDepth 100000 in
set_option maxHeartbeats 4000000 in
theorem c_X12_vacate (l : Launch) {E : Ev} (hN : 130 ≤ eN E) (hT : St E) (hlf : l.stackTraces = false) {σ : SM} {p1 : Int32} {z : Nat ⊕ (Int32 × SM)} (hf : f_X12_vacate p1 σ = some z) : vx_Met l yX12_vacate (wC yX12_vacate cX12_vacate 3 (some .int)) rm_X12_vacate (va_Pc [.ref (adr E 19 0), .int p1] (Wu E σ)) (va_Qi (fun r u => z = .inr (r, u)) (fun u t => Wu E u t) (eA E)) (XT E σ (fun k => z = .inl k)) 2 12 (eA E) := by
  refine gx_entry (lv := [(0, .ref (adr E 19 0)), (1, .int p1)]) (by decide) (Nat.le_of_ble_eq_true rfl) rfl ?_
  intro p e s m below meth c cx hxt hp ls hl
  have hx := cx.1.1
  have hb := cx.1.2.1
  unfold f_X12_vacate at hf
  refine lv_aload_n hx hb dX12_vacate_0 rfl (lv_at hl 0 rfl) ?_
  refine lv_iload_n hx hb dX12_vacate_1 rfl (lv_at hl 1 rfl) ?_
  rcases fX hf with ⟨k_t, hc, rfl⟩ | ⟨_, hc, hf⟩
  · exact zv_thr cx hxt hp (yx_V (As := [.int p1]) (rest := []) cx hp hl (c_X12_requireSeller l hN hT hlf  hc) (cw_X12_151 cx (mc := 1) (ms := 6) rfl rfl ⟨by decide, by decide⟩) (rC_X12 hN cx hp) rfl rfl (Nat.le_of_ble_eq_true rfl) dX12_vacate_2 ⟨by decide, by decide⟩) rfl rfl (by decide) (by decide)
  · refine zv_ok hp (yx_V (As := [.int p1]) (rest := []) cx hp hl (c_X12_requireSeller l hN hT hlf  hc) (cw_X12_151 cx (mc := 1) (ms := 6) rfl rfl ⟨by decide, by decide⟩) (rC_X12 hN cx hp) rfl rfl (Nat.le_of_ble_eq_true rfl) dX12_vacate_2 ⟨by decide, by decide⟩) rfl (fun H locs hp => ?_)
    refine lv_aload_n hx hb dX12_vacate_5 rfl (lv_at hl 0 rfl) ?_
    refine gF_X12_99 rfl hN cx hp dX12_vacate_6 ?_
    refine lv_iload_n hx hb dX12_vacate_9 rfl (lv_at hl 1 rfl) ?_
    obtain ⟨r1, hc, hf⟩ := fb hf
    refine x_i hp (y_V (As := [.int p1]) (rest := []) cx hp hl (c_X5_heldBy l (Nat.le_trans (by decide) hN) hT (by decide) rfl hc) (cw_X12_167 cx (mc := 0) (ms := 0) rfl rfl ⟨by decide, by decide⟩) (rC_X5 (by decide) (Nat.le_trans (by decide) hN) cx hp) rfl rfl (Nat.le_of_ble_eq_true rfl) dX12_vacate_10 ⟨by decide, by decide⟩) (fun r_c u_c H locs hq hp => ?_)
    obtain ⟨rfl, rfl⟩ := hq
    refine lv_istore_n (lv' := [(2, .int r1), (0, .ref (adr E 19 0)), (1, .int p1)]) hx hb dX12_vacate_13 rfl hl (by decide) rfl (fun ls hl => ?_)
    refine lv_iload_n hx hb dX12_vacate_14 rfl (lv_at hl 0 rfl) ?_
    refine lv_iconst (v := (-1)) hx hb dX12_vacate_15 (by decide) ?_
    refine lv_icmp_ne (tgt := 30) hx hb dX12_vacate_16 (by decide) (fun c2 => ?_) (fun c2 => ?_)
    · have hf := fn hf c2
      refine lv_aload_n hx hb dX12_vacate_30 rfl (lv_at hl 1 rfl) ?_
      refine gF_X12_40 rfl hN cx hp dX12_vacate_31 ?_
      refine lv_aload_n hx hb dX12_vacate_34 rfl (lv_at hl 1 rfl) ?_
      refine gF_X12_99 rfl hN cx hp dX12_vacate_35 ?_
      obtain ⟨σ3, hc, hf⟩ := fb hf
      refine x_v hp (y_V (As := [.ref (adr E 0 0)]) (rest := []) cx hp hl (c_X4_record l (Nat.le_trans (by decide) hN) hT  hc) (cw_X12_131 cx (mc := 0) (ms := 0) rfl rfl ⟨by decide, by decide⟩) (rC_X4 (Nat.le_trans (by decide) hN) cx hp) rfl rfl (Nat.le_of_ble_eq_true rfl) dX12_vacate_38 ⟨by decide, by decide⟩) (fun u_c H locs hq hp => ?_)
      obtain rfl := hq
      refine lv_aload_n hx hb dX12_vacate_41 rfl (lv_at hl 1 rfl) ?_
      refine gF_X12_99 rfl hN cx hp dX12_vacate_42 ?_
      refine lv_iload_n hx hb dX12_vacate_45 rfl (lv_at hl 2 rfl) ?_
      refine lv_iconst (v := (-1)) hx hb dX12_vacate_46 (by decide) ?_
      obtain ⟨m4, hc, hf⟩ := fb hf
      refine x_v hp (y_V (As := [.int p1, .int (-1)]) (rest := []) cx hp hl (c_X5_seat l (Nat.le_trans (by decide) hN) hT (by decide) rfl hc) (cw_X12_298 cx (mc := 0) (ms := 0) rfl rfl ⟨by decide, by decide⟩) (rC_X5 (by decide) (Nat.le_trans (by decide) hN) cx hp) rfl rfl (Nat.le_of_ble_eq_true rfl) dX12_vacate_47 ⟨by decide, by decide⟩) (fun u_c H locs hq hp => ?_)
      obtain ⟨e_0, n_u⟩ := hq
      obtain ⟨σ5, e_l, hf⟩ := fl hf
      obtain rfl := ((us_x e_0 n_u).trans e_l).symm
      refine lv_iload_n hx hb dX12_vacate_50 rfl (lv_at hl 0 rfl) ?_
      cases hf
      refine vx_ret ?_
      refine W.widen (k := 2) (n := 12) (by decide) (by decide) ?_
      exact r_i cx hp rfl dX12_vacate_51
    · have hf := fp hf c2
      cases hf
      exact t_SW (k := 0) hlf hT cx hp hl.1 hxt xw_0 (cx.2.2.1.2.2.2.1 13 _ rfl) rfl dX12_vacate_19 dX12_vacate_22 dX12_vacate_23 dX12_vacate_26 dX12_vacate_29 ⟨by decide, Nat.le_of_ble_eq_true rfl, by decide, by decide⟩ (by decide) (by decide)
abbrev rm_X12_swap : Room := { frames := 7, cells := 3, slots := 18, locals := 114 }
set_option maxRecDepth 100000 in
set_option maxHeartbeats 4000000 in
theorem c_X12_swap (l : Launch) {E : Ev} (hN : 130 ≤ eN E) (hT : St E) (hlf : l.stackTraces = false) {σ : SM} {p1 : Int32} {p2 : Int32} {z : Nat ⊕ (Int32 × SM)} (hf : f_X12_swap p1 p2 σ = some z) : vx_Met l yX12_swap (wC yX12_swap cX12_swap 3 (some .int)) rm_X12_swap (va_Pc [.ref (adr E 19 0), .int p1, .int p2] (Wu E σ)) (va_Qi (fun r u => z = .inr (r, u)) (fun u t => Wu E u t) (eA E)) (XT E σ (fun k => z = .inl k)) 3 18 (eA E) := by
  refine gx_entry (lv := [(0, .ref (adr E 19 0)), (1, .int p1), (2, .int p2)]) (by decide) (Nat.le_of_ble_eq_true rfl) rfl ?_
  intro p e s m below meth c cx hxt hp ls hl
  have hx := cx.1.1
  have hb := cx.1.2.1
  unfold f_X12_swap at hf
  refine lv_aload_n hx hb dX12_swap_0 rfl (lv_at hl 0 rfl) ?_
  refine lv_iload_n hx hb dX12_swap_1 rfl (lv_at hl 1 rfl) ?_
  rcases fX hf with ⟨k_t, hc, rfl⟩ | ⟨_, hc, hf⟩
  · exact zv_thr cx hxt hp (yx_V (As := [.int p1]) (rest := []) cx hp hl (c_X12_requireSeller l hN hT hlf  hc) (cw_X12_151 cx (mc := 1) (ms := 6) rfl rfl ⟨by decide, by decide⟩) (rC_X12 hN cx hp) rfl rfl (Nat.le_of_ble_eq_true rfl) dX12_swap_2 ⟨by decide, by decide⟩) rfl rfl (by decide) (by decide)
  · refine zv_ok hp (yx_V (As := [.int p1]) (rest := []) cx hp hl (c_X12_requireSeller l hN hT hlf  hc) (cw_X12_151 cx (mc := 1) (ms := 6) rfl rfl ⟨by decide, by decide⟩) (rC_X12 hN cx hp) rfl rfl (Nat.le_of_ble_eq_true rfl) dX12_swap_2 ⟨by decide, by decide⟩) rfl (fun H locs hp => ?_)
    refine lv_aload_n hx hb dX12_swap_5 rfl (lv_at hl 0 rfl) ?_
    refine lv_iload_n hx hb dX12_swap_6 rfl (lv_at hl 2 rfl) ?_
    rcases fX hf with ⟨k_t, hc, rfl⟩ | ⟨_, hc, hf⟩
    · exact zv_thr cx hxt hp (yx_V (As := [.int p2]) (rest := []) cx hp hl (c_X12_requireSeller l hN hT hlf  hc) (cw_X12_151 cx (mc := 1) (ms := 6) rfl rfl ⟨by decide, by decide⟩) (rC_X12 hN cx hp) rfl rfl (Nat.le_of_ble_eq_true rfl) dX12_swap_7 ⟨by decide, by decide⟩) rfl rfl (by decide) (by decide)
    · refine zv_ok hp (yx_V (As := [.int p2]) (rest := []) cx hp hl (c_X12_requireSeller l hN hT hlf  hc) (cw_X12_151 cx (mc := 1) (ms := 6) rfl rfl ⟨by decide, by decide⟩) (rC_X12 hN cx hp) rfl rfl (Nat.le_of_ble_eq_true rfl) dX12_swap_7 ⟨by decide, by decide⟩) rfl (fun H locs hp => ?_)
      refine lv_aload_n hx hb dX12_swap_10 rfl (lv_at hl 0 rfl) ?_
      refine gF_X12_99 rfl hN cx hp dX12_swap_11 ?_
      refine lv_iload_n hx hb dX12_swap_14 rfl (lv_at hl 1 rfl) ?_
      refine lv_iload_n hx hb dX12_swap_15 rfl (lv_at hl 2 rfl) ?_
      obtain ⟨r1, hc, hf⟩ := fb hf
      refine x_i hp (y_S (As := [.ref (adr E 0 0), .int p1, .int p2]) (rest := []) cx hp hl (c_X3_bothGain l (Nat.le_trans (by decide) hN) hT (by decide) rfl hc) (cw_X12_232 cx (mc := 0) (ms := 0) rfl rfl ⟨by decide, by decide⟩) rfl rfl (Nat.le_of_ble_eq_true rfl) dX12_swap_16 ⟨by decide, by decide⟩) (fun r_c u_c H locs hq hp => ?_)
      obtain ⟨rfl, rfl⟩ := hq
      refine lv_if_ne (tgt := 33) hx hb dX12_swap_19 (by decide) (fun c2 => ?_) (fun c2 => ?_)
      · have hf := fn hf c2
        refine lv_aload_n hx hb dX12_swap_33 rfl (lv_at hl 0 rfl) ?_
        refine gF_X12_40 rfl hN cx hp dX12_swap_34 ?_
        refine lv_aload_n hx hb dX12_swap_37 rfl (lv_at hl 0 rfl) ?_
        refine gF_X12_99 rfl hN cx hp dX12_swap_38 ?_
        obtain ⟨σ3, hc, hf⟩ := fb hf
        refine x_v hp (y_V (As := [.ref (adr E 0 0)]) (rest := []) cx hp hl (c_X4_record l (Nat.le_trans (by decide) hN) hT  hc) (cw_X12_131 cx (mc := 0) (ms := 0) rfl rfl ⟨by decide, by decide⟩) (rC_X4 (Nat.le_trans (by decide) hN) cx hp) rfl rfl (Nat.le_of_ble_eq_true rfl) dX12_swap_41 ⟨by decide, by decide⟩) (fun u_c H locs hq hp => ?_)
        obtain rfl := hq
        refine lv_aload_n hx hb dX12_swap_44 rfl (lv_at hl 0 rfl) ?_
        refine gF_X12_99 rfl hN cx hp dX12_swap_45 ?_
        refine lv_iload_n hx hb dX12_swap_48 rfl (lv_at hl 1 rfl) ?_
        refine lv_iload_n hx hb dX12_swap_49 rfl (lv_at hl 2 rfl) ?_
        obtain ⟨m4, hc, hf⟩ := fb hf
        refine x_v hp (y_V (As := [.int p1, .int p2]) (rest := []) cx hp hl (c_X5_exchange l (Nat.le_trans (by decide) hN) hT (by decide) rfl hc) (cw_X12_305 cx (mc := 0) (ms := 0) rfl rfl ⟨by decide, by decide⟩) (rC_X5 (by decide) (Nat.le_trans (by decide) hN) cx hp) rfl rfl (Nat.le_of_ble_eq_true rfl) dX12_swap_50 ⟨by decide, by decide⟩) (fun u_c H locs hq hp => ?_)
        obtain ⟨e_0, n_u⟩ := hq
        obtain ⟨σ5, e_l, hf⟩ := fl hf
        obtain rfl := ((us_x e_0 n_u).trans e_l).symm
        refine lv_aload_n hx hb dX12_swap_53 rfl (lv_at hl 0 rfl) ?_
        refine gF_X12_99 rfl hN cx hp dX12_swap_54 ?_
        refine lv_iload_n hx hb dX12_swap_57 rfl (lv_at hl 1 rfl) ?_
        obtain ⟨r6, hc, hf⟩ := fb hf
        refine x_i hp (y_V (As := [.int p1]) (rest := []) cx hp hl (c_X5_heldBy l (Nat.le_trans (by decide) hN) hT (by decide) rfl hc) (cw_X12_167 cx (mc := 0) (ms := 0) rfl rfl ⟨by decide, by decide⟩) (rC_X5 (by decide) (Nat.le_trans (by decide) hN) cx hp) rfl rfl (Nat.le_of_ble_eq_true rfl) dX12_swap_58 ⟨by decide, by decide⟩) (fun r_c u_c H locs hq hp => ?_)
        obtain ⟨rfl, rfl⟩ := hq
        cases hf
        refine vx_ret ?_
        refine W.widen (k := 3) (n := 18) (by decide) (by decide) ?_
        exact r_i cx hp rfl dX12_swap_61
      · have hf := fp hf c2
        cases hf
        exact t_SW (k := 0) hlf hT cx hp hl.1 hxt xw_0 (cx.2.2.1.2.2.2.1 14 _ rfl) rfl dX12_swap_22 dX12_swap_25 dX12_swap_26 dX12_swap_29 dX12_swap_32 ⟨by decide, Nat.le_of_ble_eq_true rfl, by decide, by decide⟩ (by decide) (by decide)
abbrev rm_X12_reallocate : Room := { frames := 5, cells := 0, slots := 0, locals := 114 }
set_option maxRecDepth 100000 in
set_option maxHeartbeats 4000000 in
theorem c_X12_reallocate (l : Launch) {E : Ev} (hN : 130 ≤ eN E) (hT : St E) {σ : SM}  {rv : Int32} {σ' : SM} (hf : f_X12_reallocate σ = some (rv, σ')) : Met l yX12_reallocate (wC yX12_reallocate cX12_reallocate 1 (some .int)) rm_X12_reallocate (va_Pc [.ref (adr E 19 0)] (Wu E σ)) (va_Qi (fun r u => rv = r ∧ σ' = u) (fun u t => Wu E u t) (eA E)) 0 0 (eA E) := by
  refine g_entry (lv := [(0, .ref (adr E 19 0))]) (by decide) (Nat.le_of_ble_eq_true rfl) rfl ?_
  intro p e s m below meth c cx hp ls hl
  have hx := cx.1.1
  have hb := cx.1.2.1
  unfold f_X12_reallocate at hf
  refine lv_aload_n hx hb dX12_reallocate_0 rfl (lv_at hl 0 rfl) ?_
  refine gF_X12_40 rfl hN cx hp dX12_reallocate_1 ?_
  refine lv_aload_n hx hb dX12_reallocate_4 rfl (lv_at hl 0 rfl) ?_
  refine gF_X12_99 rfl hN cx hp dX12_reallocate_5 ?_
  obtain ⟨σ1, hc, hf⟩ := fb hf
  refine x_v hp (y_V (As := [.ref (adr E 0 0)]) (rest := []) cx hp hl (c_X4_record l (Nat.le_trans (by decide) hN) hT  hc) (cw_X12_131 cx (mc := 0) (ms := 0) rfl rfl ⟨by decide, by decide⟩) (rC_X4 (Nat.le_trans (by decide) hN) cx hp) rfl rfl (Nat.le_of_ble_eq_true rfl) dX12_reallocate_8 ⟨Nat.zero_le _, Nat.zero_le _⟩) (fun u_c H locs hq hp => ?_)
  obtain rfl := hq
  refine lv_aload_n hx hb dX12_reallocate_11 rfl (lv_at hl 0 rfl) ?_
  refine gF_X12_47 rfl hN cx hp dX12_reallocate_12 ?_
  refine lv_aload_n hx hb dX12_reallocate_15 rfl (lv_at hl 0 rfl) ?_
  refine gF_X12_99 rfl hN cx hp dX12_reallocate_16 ?_
  obtain ⟨m2, hc, hf⟩ := fb hf
  refine x_v hp (y_V (As := [.ref (adr E 0 0)]) (rest := []) cx hp hl (c_X1_decide l (Nat.le_trans (by decide) hN) hT (by decide) rfl rfl hc) (cw_X12_250 cx (mc := 0) (ms := 0) rfl rfl ⟨by decide, by decide⟩) (rC_X1 (Nat.le_trans (by decide) hN) cx hp) rfl rfl (Nat.le_of_ble_eq_true rfl) dX12_reallocate_19 ⟨Nat.zero_le _, Nat.zero_le _⟩) (fun u_c H locs hq hp => ?_)
  obtain ⟨e_0, n_u⟩ := hq
  obtain ⟨σ3, e_l, hf⟩ := fl hf
  obtain rfl := ((us_x e_0 n_u).trans e_l).symm
  refine lv_aload_n hx hb dX12_reallocate_22 rfl (lv_at hl 0 rfl) ?_
  refine gF_X12_47 rfl hN cx hp dX12_reallocate_23 ?_
  refine lv_aload_n hx hb dX12_reallocate_26 rfl (lv_at hl 0 rfl) ?_
  refine gF_X12_99 rfl hN cx hp dX12_reallocate_27 ?_
  obtain ⟨r4, m5, hc, hf⟩ := fb2 hf
  refine x_i hp (y_V (As := [.ref (adr E 0 0)]) (rest := []) cx hp hl (c_X1_applyTo l (Nat.le_trans (by decide) hN) hT (by decide) rfl rfl hc) (cw_X12_308 cx (mc := 0) (ms := 0) rfl rfl ⟨by decide, by decide⟩) (rC_X1 (Nat.le_trans (by decide) hN) cx hp) rfl rfl (Nat.le_of_ble_eq_true rfl) dX12_reallocate_30 ⟨Nat.zero_le _, Nat.zero_le _⟩) (fun r_c u_c H locs hq hp => ?_)
  obtain ⟨rfl, e_0, n_u⟩ := hq
  obtain ⟨σ6, e_l, hf⟩ := fl hf
  obtain rfl := ((us_x e_0 n_u).trans e_l).symm
  cases hf
  exact r_i cx hp ⟨rfl, rfl⟩ dX12_reallocate_33
abbrev rm_X12_setPriority : Room := { frames := 7, cells := 2, slots := 12, locals := 103 }
set_option maxRecDepth 100000 in
set_option maxHeartbeats 4000000 in
theorem c_X12_setPriority (l : Launch) {E : Ev} (hN : 130 ≤ eN E) (hT : St E) (hlf : l.stackTraces = false) {σ : SM} {p1 : Int32} {p2 : Int32} {z : Nat ⊕ (Int32 × SM)} (hf : f_X12_setPriority p1 p2 σ = some z) : vx_Met l yX12_setPriority (wC yX12_setPriority cX12_setPriority 4 (some .int)) rm_X12_setPriority (va_Pc [.ref (adr E 19 0), .int p1, .int p2] (Wu E σ)) (va_Qi (fun r u => z = .inr (r, u)) (fun u t => Wu E u t) (eA E)) (XT E σ (fun k => z = .inl k)) 2 12 (eA E) := by
  refine gx_entry (lv := [(0, .ref (adr E 19 0)), (1, .int p1), (2, .int p2)]) (by decide) (Nat.le_of_ble_eq_true rfl) rfl ?_
  intro p e s m below meth c cx hxt hp ls hl
  have hx := cx.1.1
  have hb := cx.1.2.1
  unfold f_X12_setPriority at hf
  refine lv_aload_n hx hb dX12_setPriority_0 rfl (lv_at hl 0 rfl) ?_
  refine lv_iload_n hx hb dX12_setPriority_1 rfl (lv_at hl 1 rfl) ?_
  rcases fX hf with ⟨k_t, hc, rfl⟩ | ⟨_, hc, hf⟩
  · exact zv_thr cx hxt hp (yx_V (As := [.int p1]) (rest := []) cx hp hl (c_X12_requireSeller l hN hT hlf  hc) (cw_X12_151 cx (mc := 1) (ms := 6) rfl rfl ⟨by decide, by decide⟩) (rC_X12 hN cx hp) rfl rfl (Nat.le_of_ble_eq_true rfl) dX12_setPriority_2 ⟨by decide, by decide⟩) rfl rfl (by decide) (by decide)
  · refine zv_ok hp (yx_V (As := [.int p1]) (rest := []) cx hp hl (c_X12_requireSeller l hN hT hlf  hc) (cw_X12_151 cx (mc := 1) (ms := 6) rfl rfl ⟨by decide, by decide⟩) (rC_X12 hN cx hp) rfl rfl (Nat.le_of_ble_eq_true rfl) dX12_setPriority_2 ⟨by decide, by decide⟩) rfl (fun H locs hp => ?_)
    refine lv_iload_n hx hb dX12_setPriority_5 rfl (lv_at hl 2 rfl) ?_
    refine lv_if_lt (tgt := 20) hx hb dX12_setPriority_6 (by decide) (fun c1 => ?_) (fun c1 => ?_)
    · have hf := fp hf c1
      cases hf
      exact t_SW (k := 1) hlf hT cx hp hl.1 hxt xw_1 (cx.2.2.1.2.2.2.1 15 _ rfl) rfl dX12_setPriority_20 dX12_setPriority_23 dX12_setPriority_24 dX12_setPriority_27 dX12_setPriority_30 ⟨by decide, Nat.le_of_ble_eq_true rfl, by decide, by decide⟩ (by decide) (by decide)
    · have hf := fn hf c1
      refine lv_iload_n hx hb dX12_setPriority_9 rfl (lv_at hl 2 rfl) ?_
      refine lv_aload_n hx hb dX12_setPriority_10 rfl (lv_at hl 0 rfl) ?_
      refine gF_X12_99 rfl hN cx hp dX12_setPriority_11 ?_
      refine gF_X12_127 (by decide) rfl (Nat.le_trans (by decide) hN) cx hp dX12_setPriority_14 ?_
      refine lv_icmp_lt (tgt := 31) hx hb dX12_setPriority_17 (by decide) (fun c2 => ?_) (fun c2 => ?_)
      · have hf := fp hf c2
        refine lv_aload_n hx hb dX12_setPriority_31 rfl (lv_at hl 0 rfl) ?_
        refine gF_X12_40 rfl hN cx hp dX12_setPriority_32 ?_
        refine lv_aload_n hx hb dX12_setPriority_35 rfl (lv_at hl 0 rfl) ?_
        refine gF_X12_99 rfl hN cx hp dX12_setPriority_36 ?_
        obtain ⟨σ3, hc, hf⟩ := fb hf
        refine x_v hp (y_V (As := [.ref (adr E 0 0)]) (rest := []) cx hp hl (c_X4_record l (Nat.le_trans (by decide) hN) hT  hc) (cw_X12_131 cx (mc := 0) (ms := 0) rfl rfl ⟨by decide, by decide⟩) (rC_X4 (Nat.le_trans (by decide) hN) cx hp) rfl rfl (Nat.le_of_ble_eq_true rfl) dX12_setPriority_39 ⟨by decide, by decide⟩) (fun u_c H locs hq hp => ?_)
        obtain rfl := hq
        refine lv_aload_n hx hb dX12_setPriority_42 rfl (lv_at hl 0 rfl) ?_
        refine gF_X12_99 rfl hN cx hp dX12_setPriority_43 ?_
        refine lv_iload_n hx hb dX12_setPriority_46 rfl (lv_at hl 1 rfl) ?_
        obtain ⟨r4, hc, hf⟩ := fb hf
        refine x_i hp (y_V (As := [.int p1]) (rest := []) cx hp hl (c_X5_turnOf l (Nat.le_trans (by decide) hN) hT (by decide) rfl hc) (cw_X12_173 cx (mc := 0) (ms := 0) rfl rfl ⟨by decide, by decide⟩) (rC_X5 (by decide) (Nat.le_trans (by decide) hN) cx hp) rfl rfl (Nat.le_of_ble_eq_true rfl) dX12_setPriority_47 ⟨by decide, by decide⟩) (fun r_c u_c H locs hq hp => ?_)
        obtain ⟨rfl, rfl⟩ := hq
        refine lv_istore_n (lv' := [(3, .int r4), (0, .ref (adr E 19 0)), (1, .int p1), (2, .int p2)]) hx hb dX12_setPriority_50 rfl hl (by decide) rfl (fun ls hl => ?_)
        refine lv_aload_n hx hb dX12_setPriority_51 rfl (lv_at hl 1 rfl) ?_
        refine gF_X12_99 rfl hN cx hp dX12_setPriority_52 ?_
        refine lv_iload_n hx hb dX12_setPriority_55 rfl (lv_at hl 2 rfl) ?_
        refine lv_iload_n hx hb dX12_setPriority_56 rfl (lv_at hl 3 rfl) ?_
        obtain ⟨m5, hc, hf⟩ := fb hf
        refine x_v hp (y_V (As := [.int p1, .int p2]) (rest := []) cx hp hl (c_X5_moveTurn l (Nat.le_trans (by decide) hN) hT (by decide) rfl hc) (cw_X12_256 cx (mc := 0) (ms := 0) rfl rfl ⟨by decide, by decide⟩) (rC_X5 (by decide) (Nat.le_trans (by decide) hN) cx hp) rfl rfl (Nat.le_of_ble_eq_true rfl) dX12_setPriority_57 ⟨by decide, by decide⟩) (fun u_c H locs hq hp => ?_)
        obtain ⟨e_0, n_u⟩ := hq
        obtain ⟨σ6, e_l, hf⟩ := fl hf
        obtain rfl := ((us_x e_0 n_u).trans e_l).symm
        refine lv_iload_n hx hb dX12_setPriority_60 rfl (lv_at hl 0 rfl) ?_
        cases hf
        refine vx_ret ?_
        refine W.widen (k := 2) (n := 12) (by decide) (by decide) ?_
        exact r_i cx hp rfl dX12_setPriority_61
      · have hf := fn hf c2
        cases hf
        exact t_SW (k := 1) hlf hT cx hp hl.1 hxt xw_1 (cx.2.2.1.2.2.2.1 15 _ rfl) rfl dX12_setPriority_20 dX12_setPriority_23 dX12_setPriority_24 dX12_setPriority_27 dX12_setPriority_30 ⟨by decide, Nat.le_of_ble_eq_true rfl, by decide, by decide⟩ (by decide) (by decide)
abbrev rm_X12_preferFirst : Room := { frames := 7, cells := 2, slots := 12, locals := 103 }
set_option maxRecDepth 100000 in
set_option maxHeartbeats 4000000 in
theorem c_X12_preferFirst (l : Launch) {E : Ev} (hN : 130 ≤ eN E) (hT : St E) (hlf : l.stackTraces = false) {σ : SM} {p1 : Int32} {p2 : Int32} {z : Nat ⊕ (Int32 × SM)} (hf : f_X12_preferFirst p1 p2 σ = some z) : vx_Met l yX12_preferFirst (wC yX12_preferFirst cX12_preferFirst 3 (some .int)) rm_X12_preferFirst (va_Pc [.ref (adr E 19 0), .int p1, .int p2] (Wu E σ)) (va_Qi (fun r u => z = .inr (r, u)) (fun u t => Wu E u t) (eA E)) (XT E σ (fun k => z = .inl k)) 2 12 (eA E) := by
  refine gx_entry (lv := [(0, .ref (adr E 19 0)), (1, .int p1), (2, .int p2)]) (by decide) (Nat.le_of_ble_eq_true rfl) rfl ?_
  intro p e s m below meth c cx hxt hp ls hl
  have hx := cx.1.1
  have hb := cx.1.2.1
  unfold f_X12_preferFirst at hf
  refine lv_aload_n hx hb dX12_preferFirst_0 rfl (lv_at hl 0 rfl) ?_
  refine lv_iload_n hx hb dX12_preferFirst_1 rfl (lv_at hl 1 rfl) ?_
  rcases fX hf with ⟨k_t, hc, rfl⟩ | ⟨_, hc, hf⟩
  · exact zv_thr cx hxt hp (yx_V (As := [.int p1]) (rest := []) cx hp hl (c_X12_requireSeller l hN hT hlf  hc) (cw_X12_151 cx (mc := 1) (ms := 6) rfl rfl ⟨by decide, by decide⟩) (rC_X12 hN cx hp) rfl rfl (Nat.le_of_ble_eq_true rfl) dX12_preferFirst_2 ⟨by decide, by decide⟩) rfl rfl (by decide) (by decide)
  · refine zv_ok hp (yx_V (As := [.int p1]) (rest := []) cx hp hl (c_X12_requireSeller l hN hT hlf  hc) (cw_X12_151 cx (mc := 1) (ms := 6) rfl rfl ⟨by decide, by decide⟩) (rC_X12 hN cx hp) rfl rfl (Nat.le_of_ble_eq_true rfl) dX12_preferFirst_2 ⟨by decide, by decide⟩) rfl (fun H locs hp => ?_)
    refine lv_aload_n hx hb dX12_preferFirst_5 rfl (lv_at hl 0 rfl) ?_
    refine lv_iload_n hx hb dX12_preferFirst_6 rfl (lv_at hl 2 rfl) ?_
    rcases fX hf with ⟨k_t, hc, rfl⟩ | ⟨_, hc, hf⟩
    · exact zv_thr cx hxt hp (yx_V (As := [.int p2]) (rest := []) cx hp hl (c_X12_requireStall l hN hT hlf  hc) (cw_X12_161 cx (mc := 1) (ms := 6) rfl rfl ⟨by decide, by decide⟩) (rC_X12 hN cx hp) rfl rfl (Nat.le_of_ble_eq_true rfl) dX12_preferFirst_7 ⟨by decide, by decide⟩) rfl rfl (by decide) (by decide)
    · refine zv_ok hp (yx_V (As := [.int p2]) (rest := []) cx hp hl (c_X12_requireStall l hN hT hlf  hc) (cw_X12_161 cx (mc := 1) (ms := 6) rfl rfl ⟨by decide, by decide⟩) (rC_X12 hN cx hp) rfl rfl (Nat.le_of_ble_eq_true rfl) dX12_preferFirst_7 ⟨by decide, by decide⟩) rfl (fun H locs hp => ?_)
      refine lv_aload_n hx hb dX12_preferFirst_10 rfl (lv_at hl 0 rfl) ?_
      refine gF_X12_40 rfl hN cx hp dX12_preferFirst_11 ?_
      refine lv_aload_n hx hb dX12_preferFirst_14 rfl (lv_at hl 0 rfl) ?_
      refine gF_X12_99 rfl hN cx hp dX12_preferFirst_15 ?_
      obtain ⟨σ1, hc, hf⟩ := fb hf
      refine x_v hp (y_V (As := [.ref (adr E 0 0)]) (rest := []) cx hp hl (c_X4_record l (Nat.le_trans (by decide) hN) hT  hc) (cw_X12_131 cx (mc := 0) (ms := 0) rfl rfl ⟨by decide, by decide⟩) (rC_X4 (Nat.le_trans (by decide) hN) cx hp) rfl rfl (Nat.le_of_ble_eq_true rfl) dX12_preferFirst_18 ⟨by decide, by decide⟩) (fun u_c H locs hq hp => ?_)
      obtain rfl := hq
      refine lv_aload_n hx hb dX12_preferFirst_21 rfl (lv_at hl 0 rfl) ?_
      refine gF_X12_99 rfl hN cx hp dX12_preferFirst_22 ?_
      refine lv_iload_n hx hb dX12_preferFirst_25 rfl (lv_at hl 1 rfl) ?_
      refine lv_iload_n hx hb dX12_preferFirst_26 rfl (lv_at hl 2 rfl) ?_
      obtain ⟨m2, hc, hf⟩ := fb hf
      refine x_v hp (y_V (As := [.int p1, .int p2]) (rest := []) cx hp hl (c_X5_wishFirst l (Nat.le_trans (by decide) hN) hT (by decide) rfl hc) (cw_X12_260 cx (mc := 0) (ms := 0) rfl rfl ⟨by decide, by decide⟩) (rC_X5 (by decide) (Nat.le_trans (by decide) hN) cx hp) rfl rfl (Nat.le_of_ble_eq_true rfl) dX12_preferFirst_27 ⟨by decide, by decide⟩) (fun u_c H locs hq hp => ?_)
      obtain ⟨e_0, n_u⟩ := hq
      obtain ⟨σ3, e_l, hf⟩ := fl hf
      obtain rfl := ((us_x e_0 n_u).trans e_l).symm
      refine lv_aload_n hx hb dX12_preferFirst_30 rfl (lv_at hl 0 rfl) ?_
      refine gF_X12_99 rfl hN cx hp dX12_preferFirst_31 ?_
      refine lv_iload_n hx hb dX12_preferFirst_34 rfl (lv_at hl 1 rfl) ?_
      obtain ⟨r4, hc, hf⟩ := fb hf
      refine x_i hp (y_V (As := [.int p1]) (rest := []) cx hp hl (c_X5_wishesOf l (Nat.le_trans (by decide) hN) hT (by decide) rfl hc) (cw_X12_176 cx (mc := 0) (ms := 0) rfl rfl ⟨by decide, by decide⟩) (rC_X5 (by decide) (Nat.le_trans (by decide) hN) cx hp) rfl rfl (Nat.le_of_ble_eq_true rfl) dX12_preferFirst_35 ⟨by decide, by decide⟩) (fun r_c u_c H locs hq hp => ?_)
      obtain ⟨rfl, rfl⟩ := hq
      cases hf
      refine vx_ret ?_
      exact r_i cx hp rfl dX12_preferFirst_38
abbrev rm_X12_removePreference : Room := { frames := 7, cells := 3, slots := 18, locals := 103 }
set_option maxRecDepth 100000 in
set_option maxHeartbeats 4000000 in
theorem c_X12_removePreference (l : Launch) {E : Ev} (hN : 130 ≤ eN E) (hT : St E) (hlf : l.stackTraces = false) {σ : SM} {p1 : Int32} {p2 : Int32} {z : Nat ⊕ (Int32 × SM)} (hf : f_X12_removePreference p1 p2 σ = some z) : vx_Met l yX12_removePreference (wC yX12_removePreference cX12_removePreference 3 (some .int)) rm_X12_removePreference (va_Pc [.ref (adr E 19 0), .int p1, .int p2] (Wu E σ)) (va_Qi (fun r u => z = .inr (r, u)) (fun u t => Wu E u t) (eA E)) (XT E σ (fun k => z = .inl k)) 3 18 (eA E) := by
  refine gx_entry (lv := [(0, .ref (adr E 19 0)), (1, .int p1), (2, .int p2)]) (by decide) (Nat.le_of_ble_eq_true rfl) rfl ?_
  intro p e s m below meth c cx hxt hp ls hl
  have hx := cx.1.1
  have hb := cx.1.2.1
  unfold f_X12_removePreference at hf
  refine lv_aload_n hx hb dX12_removePreference_0 rfl (lv_at hl 0 rfl) ?_
  refine lv_iload_n hx hb dX12_removePreference_1 rfl (lv_at hl 1 rfl) ?_
  rcases fX hf with ⟨k_t, hc, rfl⟩ | ⟨_, hc, hf⟩
  · exact zv_thr cx hxt hp (yx_V (As := [.int p1]) (rest := []) cx hp hl (c_X12_requireSeller l hN hT hlf  hc) (cw_X12_151 cx (mc := 1) (ms := 6) rfl rfl ⟨by decide, by decide⟩) (rC_X12 hN cx hp) rfl rfl (Nat.le_of_ble_eq_true rfl) dX12_removePreference_2 ⟨by decide, by decide⟩) rfl rfl (by decide) (by decide)
  · refine zv_ok hp (yx_V (As := [.int p1]) (rest := []) cx hp hl (c_X12_requireSeller l hN hT hlf  hc) (cw_X12_151 cx (mc := 1) (ms := 6) rfl rfl ⟨by decide, by decide⟩) (rC_X12 hN cx hp) rfl rfl (Nat.le_of_ble_eq_true rfl) dX12_removePreference_2 ⟨by decide, by decide⟩) rfl (fun H locs hp => ?_)
    refine lv_aload_n hx hb dX12_removePreference_5 rfl (lv_at hl 0 rfl) ?_
    refine lv_iload_n hx hb dX12_removePreference_6 rfl (lv_at hl 2 rfl) ?_
    rcases fX hf with ⟨k_t, hc, rfl⟩ | ⟨_, hc, hf⟩
    · exact zv_thr cx hxt hp (yx_V (As := [.int p2]) (rest := []) cx hp hl (c_X12_requireStall l hN hT hlf  hc) (cw_X12_161 cx (mc := 1) (ms := 6) rfl rfl ⟨by decide, by decide⟩) (rC_X12 hN cx hp) rfl rfl (Nat.le_of_ble_eq_true rfl) dX12_removePreference_7 ⟨by decide, by decide⟩) rfl rfl (by decide) (by decide)
    · refine zv_ok hp (yx_V (As := [.int p2]) (rest := []) cx hp hl (c_X12_requireStall l hN hT hlf  hc) (cw_X12_161 cx (mc := 1) (ms := 6) rfl rfl ⟨by decide, by decide⟩) (rC_X12 hN cx hp) rfl rfl (Nat.le_of_ble_eq_true rfl) dX12_removePreference_7 ⟨by decide, by decide⟩) rfl (fun H locs hp => ?_)
      refine lv_aload_n hx hb dX12_removePreference_10 rfl (lv_at hl 0 rfl) ?_
      refine gF_X12_99 rfl hN cx hp dX12_removePreference_11 ?_
      refine lv_iload_n hx hb dX12_removePreference_14 rfl (lv_at hl 1 rfl) ?_
      refine lv_iload_n hx hb dX12_removePreference_15 rfl (lv_at hl 2 rfl) ?_
      obtain ⟨r1, hc, hf⟩ := fb hf
      refine x_i hp (y_V (As := [.int p1, .int p2]) (rest := []) cx hp hl (c_X5_rankIn l (Nat.le_trans (by decide) hN) hT (by decide) rfl hc) (cw_X12_188 cx (mc := 0) (ms := 0) rfl rfl ⟨by decide, by decide⟩) (rC_X5 (by decide) (Nat.le_trans (by decide) hN) cx hp) rfl rfl (Nat.le_of_ble_eq_true rfl) dX12_removePreference_16 ⟨by decide, by decide⟩) (fun r_c u_c H locs hq hp => ?_)
      obtain ⟨rfl, rfl⟩ := hq
      refine lv_iconst (v := (-1)) hx hb dX12_removePreference_19 (by decide) ?_
      refine lv_icmp_ne (tgt := 34) hx hb dX12_removePreference_20 (by decide) (fun c2 => ?_) (fun c2 => ?_)
      · have hf := fn hf c2
        refine lv_aload_n hx hb dX12_removePreference_34 rfl (lv_at hl 0 rfl) ?_
        refine gF_X12_40 rfl hN cx hp dX12_removePreference_35 ?_
        refine lv_aload_n hx hb dX12_removePreference_38 rfl (lv_at hl 0 rfl) ?_
        refine gF_X12_99 rfl hN cx hp dX12_removePreference_39 ?_
        obtain ⟨σ3, hc, hf⟩ := fb hf
        refine x_v hp (y_V (As := [.ref (adr E 0 0)]) (rest := []) cx hp hl (c_X4_record l (Nat.le_trans (by decide) hN) hT  hc) (cw_X12_131 cx (mc := 0) (ms := 0) rfl rfl ⟨by decide, by decide⟩) (rC_X4 (Nat.le_trans (by decide) hN) cx hp) rfl rfl (Nat.le_of_ble_eq_true rfl) dX12_removePreference_42 ⟨by decide, by decide⟩) (fun u_c H locs hq hp => ?_)
        obtain rfl := hq
        refine lv_aload_n hx hb dX12_removePreference_45 rfl (lv_at hl 0 rfl) ?_
        refine gF_X12_99 rfl hN cx hp dX12_removePreference_46 ?_
        refine lv_iload_n hx hb dX12_removePreference_49 rfl (lv_at hl 1 rfl) ?_
        refine lv_iload_n hx hb dX12_removePreference_50 rfl (lv_at hl 2 rfl) ?_
        obtain ⟨m4, hc, hf⟩ := fb hf
        refine x_v hp (y_V (As := [.int p1, .int p2]) (rest := []) cx hp hl (c_X5_dropWish l (Nat.le_trans (by decide) hN) hT (by decide) rfl hc) (cw_X12_315 cx (mc := 0) (ms := 0) rfl rfl ⟨by decide, by decide⟩) (rC_X5 (by decide) (Nat.le_trans (by decide) hN) cx hp) rfl rfl (Nat.le_of_ble_eq_true rfl) dX12_removePreference_51 ⟨by decide, by decide⟩) (fun u_c H locs hq hp => ?_)
        obtain ⟨e_0, n_u⟩ := hq
        obtain ⟨σ5, e_l, hf⟩ := fl hf
        obtain rfl := ((us_x e_0 n_u).trans e_l).symm
        refine lv_aload_n hx hb dX12_removePreference_54 rfl (lv_at hl 0 rfl) ?_
        refine gF_X12_99 rfl hN cx hp dX12_removePreference_55 ?_
        refine lv_iload_n hx hb dX12_removePreference_58 rfl (lv_at hl 1 rfl) ?_
        obtain ⟨r6, hc, hf⟩ := fb hf
        refine x_i hp (y_V (As := [.int p1]) (rest := []) cx hp hl (c_X5_wishesOf l (Nat.le_trans (by decide) hN) hT (by decide) rfl hc) (cw_X12_176 cx (mc := 0) (ms := 0) rfl rfl ⟨by decide, by decide⟩) (rC_X5 (by decide) (Nat.le_trans (by decide) hN) cx hp) rfl rfl (Nat.le_of_ble_eq_true rfl) dX12_removePreference_59 ⟨by decide, by decide⟩) (fun r_c u_c H locs hq hp => ?_)
        obtain ⟨rfl, rfl⟩ := hq
        cases hf
        refine vx_ret ?_
        refine W.widen (k := 3) (n := 18) (by decide) (by decide) ?_
        exact r_i cx hp rfl dX12_removePreference_62
      · have hf := fp hf c2
        cases hf
        exact t_SW (k := 0) hlf hT cx hp hl.1 hxt xw_0 (cx.2.2.1.2.2.2.1 16 _ rfl) rfl dX12_removePreference_23 dX12_removePreference_26 dX12_removePreference_27 dX12_removePreference_30 dX12_removePreference_33 ⟨by decide, Nat.le_of_ble_eq_true rfl, by decide, by decide⟩ (by decide) (by decide)
abbrev rm_X12_setRent : Room := { frames := 7, cells := 2, slots := 12, locals := 103 }
set_option maxRecDepth 100000 in
set_option maxHeartbeats 4000000 in
theorem c_X12_setRent (l : Launch) {E : Ev} (hN : 130 ≤ eN E) (hT : St E) (hlf : l.stackTraces = false) {σ : SM} {p1 : Int32} {p2 : Int32} {z : Nat ⊕ (Int32 × SM)} (hf : f_X12_setRent p1 p2 σ = some z) : vx_Met l yX12_setRent (wC yX12_setRent cX12_setRent 4 (some .int)) rm_X12_setRent (va_Pc [.ref (adr E 19 0), .int p1, .int p2] (Wu E σ)) (va_Qi (fun r u => z = .inr (r, u)) (fun u t => Wu E u t) (eA E)) (XT E σ (fun k => z = .inl k)) 2 12 (eA E) := by
  refine gx_entry (lv := [(0, .ref (adr E 19 0)), (1, .int p1), (2, .int p2)]) (by decide) (Nat.le_of_ble_eq_true rfl) rfl ?_
  intro p e s m below meth c cx hxt hp ls hl
  have hx := cx.1.1
  have hb := cx.1.2.1
  unfold f_X12_setRent at hf
  refine lv_aload_n hx hb dX12_setRent_0 rfl (lv_at hl 0 rfl) ?_
  refine lv_iload_n hx hb dX12_setRent_1 rfl (lv_at hl 1 rfl) ?_
  rcases fX hf with ⟨k_t, hc, rfl⟩ | ⟨_, hc, hf⟩
  · exact zv_thr cx hxt hp (yx_V (As := [.int p1]) (rest := []) cx hp hl (c_X12_requireStall l hN hT hlf  hc) (cw_X12_161 cx (mc := 1) (ms := 6) rfl rfl ⟨by decide, by decide⟩) (rC_X12 hN cx hp) rfl rfl (Nat.le_of_ble_eq_true rfl) dX12_setRent_2 ⟨by decide, by decide⟩) rfl rfl (by decide) (by decide)
  · refine zv_ok hp (yx_V (As := [.int p1]) (rest := []) cx hp hl (c_X12_requireStall l hN hT hlf  hc) (cw_X12_161 cx (mc := 1) (ms := 6) rfl rfl ⟨by decide, by decide⟩) (rC_X12 hN cx hp) rfl rfl (Nat.le_of_ble_eq_true rfl) dX12_setRent_2 ⟨by decide, by decide⟩) rfl (fun H locs hp => ?_)
    refine lv_iload_n hx hb dX12_setRent_5 rfl (lv_at hl 2 rfl) ?_
    refine lv_if_lt (tgt := 15) hx hb dX12_setRent_6 (by decide) (fun c1 => ?_) (fun c1 => ?_)
    · have hf := fp hf c1
      cases hf
      exact t_SW (k := 1) hlf hT cx hp hl.1 hxt xw_1 (cx.2.2.1.2.2.2.1 17 _ rfl) rfl dX12_setRent_15 dX12_setRent_18 dX12_setRent_19 dX12_setRent_22 dX12_setRent_25 ⟨by decide, Nat.le_of_ble_eq_true rfl, by decide, by decide⟩ (by decide) (by decide)
    · have hf := fn hf c1
      refine lv_iload_n hx hb dX12_setRent_9 rfl (lv_at hl 2 rfl) ?_
      refine lv_bipush (v := 99) hx hb dX12_setRent_10 (by decide) ?_
      refine lv_icmp_le (tgt := 26) hx hb dX12_setRent_12 (by decide) (fun c2 => ?_) (fun c2 => ?_)
      · have hf := fp hf c2
        refine lv_aload_n hx hb dX12_setRent_26 rfl (lv_at hl 0 rfl) ?_
        refine gF_X12_40 rfl hN cx hp dX12_setRent_27 ?_
        refine lv_aload_n hx hb dX12_setRent_30 rfl (lv_at hl 0 rfl) ?_
        refine gF_X12_99 rfl hN cx hp dX12_setRent_31 ?_
        obtain ⟨σ3, hc, hf⟩ := fb hf
        refine x_v hp (y_V (As := [.ref (adr E 0 0)]) (rest := []) cx hp hl (c_X4_record l (Nat.le_trans (by decide) hN) hT  hc) (cw_X12_131 cx (mc := 0) (ms := 0) rfl rfl ⟨by decide, by decide⟩) (rC_X4 (Nat.le_trans (by decide) hN) cx hp) rfl rfl (Nat.le_of_ble_eq_true rfl) dX12_setRent_34 ⟨by decide, by decide⟩) (fun u_c H locs hq hp => ?_)
        obtain rfl := hq
        refine lv_aload_n hx hb dX12_setRent_37 rfl (lv_at hl 0 rfl) ?_
        refine gF_X12_99 rfl hN cx hp dX12_setRent_38 ?_
        refine lv_iload_n hx hb dX12_setRent_41 rfl (lv_at hl 1 rfl) ?_
        obtain ⟨r4, hc, hf⟩ := fb hf
        refine x_i hp (y_V (As := [.int p1]) (rest := []) cx hp hl (c_X5_priceOf l (Nat.le_trans (by decide) hN) hT (by decide) rfl hc) (cw_X12_164 cx (mc := 0) (ms := 0) rfl rfl ⟨by decide, by decide⟩) (rC_X5 (by decide) (Nat.le_trans (by decide) hN) cx hp) rfl rfl (Nat.le_of_ble_eq_true rfl) dX12_setRent_42 ⟨by decide, by decide⟩) (fun r_c u_c H locs hq hp => ?_)
        obtain ⟨rfl, rfl⟩ := hq
        refine lv_istore_n (lv' := [(3, .int r4), (0, .ref (adr E 19 0)), (1, .int p1), (2, .int p2)]) hx hb dX12_setRent_45 rfl hl (by decide) rfl (fun ls hl => ?_)
        refine lv_aload_n hx hb dX12_setRent_46 rfl (lv_at hl 1 rfl) ?_
        refine gF_X12_99 rfl hN cx hp dX12_setRent_47 ?_
        refine lv_iload_n hx hb dX12_setRent_50 rfl (lv_at hl 2 rfl) ?_
        refine lv_iload_n hx hb dX12_setRent_51 rfl (lv_at hl 3 rfl) ?_
        obtain ⟨m5, hc, hf⟩ := fb hf
        refine x_v hp (y_V (As := [.int p1, .int p2]) (rest := []) cx hp hl (c_X5_price l (Nat.le_trans (by decide) hN) hT (by decide) rfl hc) (cw_X12_320 cx (mc := 0) (ms := 0) rfl rfl ⟨by decide, by decide⟩) (rC_X5 (by decide) (Nat.le_trans (by decide) hN) cx hp) rfl rfl (Nat.le_of_ble_eq_true rfl) dX12_setRent_52 ⟨by decide, by decide⟩) (fun u_c H locs hq hp => ?_)
        obtain ⟨e_0, n_u⟩ := hq
        obtain ⟨σ6, e_l, hf⟩ := fl hf
        obtain rfl := ((us_x e_0 n_u).trans e_l).symm
        refine lv_iload_n hx hb dX12_setRent_55 rfl (lv_at hl 0 rfl) ?_
        cases hf
        refine vx_ret ?_
        refine W.widen (k := 2) (n := 12) (by decide) (by decide) ?_
        exact r_i cx hp rfl dX12_setRent_56
      · have hf := fn hf c2
        cases hf
        exact t_SW (k := 1) hlf hT cx hp hl.1 hxt xw_1 (cx.2.2.1.2.2.2.1 17 _ rfl) rfl dX12_setRent_15 dX12_setRent_18 dX12_setRent_19 dX12_setRent_22 dX12_setRent_25 ⟨by decide, Nat.le_of_ble_eq_true rfl, by decide, by decide⟩ (by decide) (by decide)
abbrev rm_X12_deposit : Room := { frames := 7, cells := 2, slots := 12, locals := 103 }
set_option maxRecDepth 100000 in
set_option maxHeartbeats 4000000 in
theorem c_X12_deposit (l : Launch) {E : Ev} (hN : 130 ≤ eN E) (hT : St E) (hlf : l.stackTraces = false) {σ : SM} {p1 : Int32} {p2 : Int32} {z : Nat ⊕ (Int32 × SM)} (hf : f_X12_deposit p1 p2 σ = some z) : vx_Met l yX12_deposit (wC yX12_deposit cX12_deposit 3 (some .int)) rm_X12_deposit (va_Pc [.ref (adr E 19 0), .int p1, .int p2] (Wu E σ)) (va_Qi (fun r u => z = .inr (r, u)) (fun u t => Wu E u t) (eA E)) (XT E σ (fun k => z = .inl k)) 2 12 (eA E) := by
  refine gx_entry (lv := [(0, .ref (adr E 19 0)), (1, .int p1), (2, .int p2)]) (by decide) (Nat.le_of_ble_eq_true rfl) rfl ?_
  intro p e s m below meth c cx hxt hp ls hl
  have hx := cx.1.1
  have hb := cx.1.2.1
  unfold f_X12_deposit at hf
  refine lv_aload_n hx hb dX12_deposit_0 rfl (lv_at hl 0 rfl) ?_
  refine lv_iload_n hx hb dX12_deposit_1 rfl (lv_at hl 1 rfl) ?_
  rcases fX hf with ⟨k_t, hc, rfl⟩ | ⟨_, hc, hf⟩
  · exact zv_thr cx hxt hp (yx_V (As := [.int p1]) (rest := []) cx hp hl (c_X12_requireSeller l hN hT hlf  hc) (cw_X12_151 cx (mc := 1) (ms := 6) rfl rfl ⟨by decide, by decide⟩) (rC_X12 hN cx hp) rfl rfl (Nat.le_of_ble_eq_true rfl) dX12_deposit_2 ⟨by decide, by decide⟩) rfl rfl (by decide) (by decide)
  · refine zv_ok hp (yx_V (As := [.int p1]) (rest := []) cx hp hl (c_X12_requireSeller l hN hT hlf  hc) (cw_X12_151 cx (mc := 1) (ms := 6) rfl rfl ⟨by decide, by decide⟩) (rC_X12 hN cx hp) rfl rfl (Nat.le_of_ble_eq_true rfl) dX12_deposit_2 ⟨by decide, by decide⟩) rfl (fun H locs hp => ?_)
    refine lv_iload_n hx hb dX12_deposit_5 rfl (lv_at hl 2 rfl) ?_
    refine lv_iconst (v := 1) hx hb dX12_deposit_6 (by decide) ?_
    refine lv_icmp_lt (tgt := 17) hx hb dX12_deposit_7 (by decide) (fun c1 => ?_) (fun c1 => ?_)
    · have hf := fp hf c1
      cases hf
      exact t_SW (k := 1) hlf hT cx hp hl.1 hxt xw_1 (cx.2.2.1.2.2.2.1 18 _ rfl) rfl dX12_deposit_17 dX12_deposit_20 dX12_deposit_21 dX12_deposit_24 dX12_deposit_27 ⟨by decide, Nat.le_of_ble_eq_true rfl, by decide, by decide⟩ (by decide) (by decide)
    · have hf := fn hf c1
      refine lv_iload_n hx hb dX12_deposit_10 rfl (lv_at hl 2 rfl) ?_
      refine lv_sipush (v := 999) hx hb dX12_deposit_11 (by decide) ?_
      refine lv_icmp_le (tgt := 28) hx hb dX12_deposit_14 (by decide) (fun c2 => ?_) (fun c2 => ?_)
      · have hf := fp hf c2
        refine lv_aload_n hx hb dX12_deposit_28 rfl (lv_at hl 0 rfl) ?_
        refine gF_X12_40 rfl hN cx hp dX12_deposit_29 ?_
        refine lv_aload_n hx hb dX12_deposit_32 rfl (lv_at hl 0 rfl) ?_
        refine gF_X12_99 rfl hN cx hp dX12_deposit_33 ?_
        obtain ⟨σ3, hc, hf⟩ := fb hf
        refine x_v hp (y_V (As := [.ref (adr E 0 0)]) (rest := []) cx hp hl (c_X4_record l (Nat.le_trans (by decide) hN) hT  hc) (cw_X12_131 cx (mc := 0) (ms := 0) rfl rfl ⟨by decide, by decide⟩) (rC_X4 (Nat.le_trans (by decide) hN) cx hp) rfl rfl (Nat.le_of_ble_eq_true rfl) dX12_deposit_36 ⟨by decide, by decide⟩) (fun u_c H locs hq hp => ?_)
        obtain rfl := hq
        refine lv_aload_n hx hb dX12_deposit_39 rfl (lv_at hl 0 rfl) ?_
        refine gF_X12_99 rfl hN cx hp dX12_deposit_40 ?_
        refine lv_iload_n hx hb dX12_deposit_43 rfl (lv_at hl 1 rfl) ?_
        refine lv_iload_n hx hb dX12_deposit_44 rfl (lv_at hl 2 rfl) ?_
        obtain ⟨m4, hc, hf⟩ := fb hf
        refine x_v hp (y_V (As := [.int p1, .int p2]) (rest := []) cx hp hl (c_X5_receive l (Nat.le_trans (by decide) hN) hT (by decide) rfl hc) (cw_X12_325 cx (mc := 0) (ms := 0) rfl rfl ⟨by decide, by decide⟩) (rC_X5 (by decide) (Nat.le_trans (by decide) hN) cx hp) rfl rfl (Nat.le_of_ble_eq_true rfl) dX12_deposit_45 ⟨by decide, by decide⟩) (fun u_c H locs hq hp => ?_)
        obtain ⟨e_0, n_u⟩ := hq
        obtain ⟨σ5, e_l, hf⟩ := fl hf
        obtain rfl := ((us_x e_0 n_u).trans e_l).symm
        refine lv_aload_n hx hb dX12_deposit_48 rfl (lv_at hl 0 rfl) ?_
        refine gF_X12_99 rfl hN cx hp dX12_deposit_49 ?_
        refine lv_iload_n hx hb dX12_deposit_52 rfl (lv_at hl 1 rfl) ?_
        obtain ⟨r6, hc, hf⟩ := fb hf
        refine x_i hp (y_V (As := [.int p1]) (rest := []) cx hp hl (c_X5_coinsOf l (Nat.le_trans (by decide) hN) hT (by decide) rfl hc) (cw_X12_154 cx (mc := 0) (ms := 0) rfl rfl ⟨by decide, by decide⟩) (rC_X5 (by decide) (Nat.le_trans (by decide) hN) cx hp) rfl rfl (Nat.le_of_ble_eq_true rfl) dX12_deposit_53 ⟨by decide, by decide⟩) (fun r_c u_c H locs hq hp => ?_)
        obtain ⟨rfl, rfl⟩ := hq
        cases hf
        refine vx_ret ?_
        refine W.widen (k := 2) (n := 12) (by decide) (by decide) ?_
        exact r_i cx hp rfl dX12_deposit_56
      · have hf := fn hf c2
        cases hf
        exact t_SW (k := 1) hlf hT cx hp hl.1 hxt xw_1 (cx.2.2.1.2.2.2.1 18 _ rfl) rfl dX12_deposit_17 dX12_deposit_20 dX12_deposit_21 dX12_deposit_24 dX12_deposit_27 ⟨by decide, Nat.le_of_ble_eq_true rfl, by decide, by decide⟩ (by decide) (by decide)
abbrev rm_X12_advanceDays : Room := { frames := 6, cells := 1, slots := 6, locals := 88 }
set_option maxRecDepth 100000 in
set_option maxHeartbeats 4000000 in
theorem c_X12_advanceDays (l : Launch) {E : Ev} (hN : 130 ≤ eN E) (hT : St E) (hlf : l.stackTraces = false) {σ : SM} {p1 : Int32} {z : Nat ⊕ (Int32 × SM)} (hf : f_X12_advanceDays p1 σ = some z) : vx_Met l yX12_advanceDays (wC yX12_advanceDays cX12_advanceDays 3 (some .int)) rm_X12_advanceDays (va_Pc [.ref (adr E 19 0), .int p1] (Wu E σ)) (va_Qi (fun r u => z = .inr (r, u)) (fun u t => Wu E u t) (eA E)) (XT E σ (fun k => z = .inl k)) 1 6 (eA E) := by
  refine gx_entry (lv := [(0, .ref (adr E 19 0)), (1, .int p1)]) (by decide) (Nat.le_of_ble_eq_true rfl) rfl ?_
  intro p e s m below meth c cx hxt hp ls hl
  have hx := cx.1.1
  have hb := cx.1.2.1
  unfold f_X12_advanceDays at hf
  refine lv_iload_n hx hb dX12_advanceDays_0 rfl (lv_at hl 1 rfl) ?_
  refine lv_iconst (v := 1) hx hb dX12_advanceDays_1 (by decide) ?_
  refine lv_icmp_lt (tgt := 11) hx hb dX12_advanceDays_2 (by decide) (fun c1 => ?_) (fun c1 => ?_)
  · have hf := fp hf c1
    cases hf
    exact t_SW (k := 1) hlf hT cx hp hl.1 hxt xw_1 (cx.2.2.1.2.2.2.1 19 _ rfl) rfl dX12_advanceDays_11 dX12_advanceDays_14 dX12_advanceDays_15 dX12_advanceDays_18 dX12_advanceDays_21 ⟨by decide, Nat.le_of_ble_eq_true rfl, by decide, by decide⟩ (by decide) (by decide)
  · have hf := fn hf c1
    refine lv_iload_n hx hb dX12_advanceDays_5 rfl (lv_at hl 1 rfl) ?_
    refine lv_bipush (v := 99) hx hb dX12_advanceDays_6 (by decide) ?_
    refine lv_icmp_le (tgt := 22) hx hb dX12_advanceDays_8 (by decide) (fun c2 => ?_) (fun c2 => ?_)
    · have hf := fp hf c2
      refine lv_aload_n hx hb dX12_advanceDays_22 rfl (lv_at hl 0 rfl) ?_
      refine gF_X12_99 rfl hN cx hp dX12_advanceDays_23 ?_
      refine lv_iload_n hx hb dX12_advanceDays_26 rfl (lv_at hl 1 rfl) ?_
      obtain ⟨r3, hc, hf⟩ := fb hf
      refine x_i hp (y_V (As := [.int p1]) (rest := []) cx hp hl (c_X5_mayPass l (Nat.le_trans (by decide) hN) hT (by decide) rfl hc) (cw_X12_330 cx (mc := 0) (ms := 0) rfl rfl ⟨by decide, by decide⟩) (rC_X5 (by decide) (Nat.le_trans (by decide) hN) cx hp) rfl rfl (Nat.le_of_ble_eq_true rfl) dX12_advanceDays_27 ⟨by decide, by decide⟩) (fun r_c u_c H locs hq hp => ?_)
      obtain ⟨rfl, rfl⟩ := hq
      refine lv_if_ne (tgt := 44) hx hb dX12_advanceDays_30 (by decide) (fun c4 => ?_) (fun c4 => ?_)
      · have hf := fn hf c4
        refine lv_aload_n hx hb dX12_advanceDays_44 rfl (lv_at hl 0 rfl) ?_
        refine gF_X12_40 rfl hN cx hp dX12_advanceDays_45 ?_
        refine lv_aload_n hx hb dX12_advanceDays_48 rfl (lv_at hl 0 rfl) ?_
        refine gF_X12_99 rfl hN cx hp dX12_advanceDays_49 ?_
        obtain ⟨σ5, hc, hf⟩ := fb hf
        refine x_v hp (y_V (As := [.ref (adr E 0 0)]) (rest := []) cx hp hl (c_X4_record l (Nat.le_trans (by decide) hN) hT  hc) (cw_X12_131 cx (mc := 0) (ms := 0) rfl rfl ⟨by decide, by decide⟩) (rC_X4 (Nat.le_trans (by decide) hN) cx hp) rfl rfl (Nat.le_of_ble_eq_true rfl) dX12_advanceDays_52 ⟨by decide, by decide⟩) (fun u_c H locs hq hp => ?_)
        obtain rfl := hq
        refine lv_aload_n hx hb dX12_advanceDays_55 rfl (lv_at hl 0 rfl) ?_
        refine gF_X12_99 rfl hN cx hp dX12_advanceDays_56 ?_
        refine gF_X12_277 (by decide) rfl (Nat.le_trans (by decide) hN) cx hp dX12_advanceDays_59 ?_
        obtain ⟨i6, x_e, hf⟩ := fl hf
        refine lv_nm x_e ?_
        refine lv_istore_n (lv' := [(2, .int i6), (0, .ref (adr E 19 0)), (1, .int p1)]) hx hb dX12_advanceDays_62 rfl hl (by decide) rfl (fun ls hl => ?_)
        refine lv_aload_n hx hb dX12_advanceDays_63 rfl (lv_at hl 1 rfl) ?_
        refine gF_X12_99 rfl hN cx hp dX12_advanceDays_64 ?_
        refine lv_iload_n hx hb dX12_advanceDays_67 rfl (lv_at hl 2 rfl) ?_
        obtain ⟨m7, hc, hf⟩ := fb hf
        refine x_v hp (y_V (As := [.int p1]) (rest := []) cx hp hl (c_X5_pass l (Nat.le_trans (by decide) hN) hT (by decide) rfl hc) (cw_X12_336 cx (mc := 0) (ms := 0) rfl rfl ⟨by decide, by decide⟩) (rC_X5 (by decide) (Nat.le_trans (by decide) hN) cx hp) rfl rfl (Nat.le_of_ble_eq_true rfl) dX12_advanceDays_68 ⟨by decide, by decide⟩) (fun u_c H locs hq hp => ?_)
        obtain ⟨e_0, n_u⟩ := hq
        obtain ⟨σ8, e_l, hf⟩ := fl hf
        obtain rfl := ((us_x e_0 n_u).trans e_l).symm
        refine lv_aload_n hx hb dX12_advanceDays_71 rfl (lv_at hl 1 rfl) ?_
        refine gF_X12_99 rfl hN cx hp dX12_advanceDays_72 ?_
        refine gF_X12_277 (by decide) rfl (Nat.le_trans (by decide) hN) cx hp dX12_advanceDays_75 ?_
        refine lv_iload_n hx hb dX12_advanceDays_78 rfl (lv_at hl 0 rfl) ?_
        refine lv_isub hx hb dX12_advanceDays_79 ?_
        cases hf
        refine vx_ret ?_
        refine W.widen (k := 1) (n := 6) (by decide) (by decide) ?_
        exact r_i cx hp rfl dX12_advanceDays_80
      · have hf := fp hf c4
        cases hf
        exact t_SW (k := 0) hlf hT cx hp hl.1 hxt xw_0 (cx.2.2.1.2.2.2.1 20 _ rfl) rfl dX12_advanceDays_33 dX12_advanceDays_36 dX12_advanceDays_37 dX12_advanceDays_40 dX12_advanceDays_43 ⟨by decide, Nat.le_of_ble_eq_true rfl, by decide, by decide⟩ (by decide) (by decide)
    · have hf := fn hf c2
      cases hf
      exact t_SW (k := 1) hlf hT cx hp hl.1 hxt xw_1 (cx.2.2.1.2.2.2.1 19 _ rfl) rfl dX12_advanceDays_11 dX12_advanceDays_14 dX12_advanceDays_15 dX12_advanceDays_18 dX12_advanceDays_21 ⟨by decide, Nat.le_of_ble_eq_true rfl, by decide, by decide⟩ (by decide) (by decide)
abbrev rm_X12_writeAssignment : Room := { frames := 3, cells := 0, slots := 0, locals := 69 }
set_option maxRecDepth 100000 in
set_option maxHeartbeats 4000000 in
theorem L_X12_writeAssignment_10 {p : Program} {e : Env} {s : State} {m : MethodId} {args : Array Value} {below : List Frame} {meth : Method} {c : Code} (l : Launch) {E : Ev} (hN : 130 ≤ eN E) (hT : St E) (cx : Cx E p s m meth c args RX12 cX12_writeAssignment 3 (some .int)) {rv : Int32} {σ' : SM} : ∀ (n : Nat) {x1 : Int32} {σ : SM}, f_X12_writeAssignment_10  n x1 σ = some (rv, σ') → ∀ {H : Heap} {locs : List Loc} {ls : Array Slot}, Hp E σ s H locs → lv_has ls 3 [(0, .ref (adr E 19 0)), (1, .int x1)] → W p l e rm_X12_writeAssignment s m args below meth c H locs 0 0 (MQ below (va_Qi (fun r u => rv = r ∧ σ' = u) (fun u t => Wu E u t) (eA E)) args s 0 0 (eA E)) (F0 m 10 ls []) := by
  have hx := cx.1.1
  have hb := cx.1.2.1
  intro n
  induction n with
  | zero =>
    intro x1 σ hf
    exact absurd hf (by simp [f_X12_writeAssignment_10])
  | succ n ih =>
    intro x1 σ hf H locs ls hp hl
    rw [f_X12_writeAssignment_10] at hf
    refine lv_iload_n hx hb dX12_writeAssignment_10 rfl (lv_at hl 1 rfl) ?_
    refine lv_aload_n hx hb dX12_writeAssignment_11 rfl (lv_at hl 0 rfl) ?_
    refine gF_X12_99 rfl hN cx hp dX12_writeAssignment_12 ?_
    refine gF_X12_127 (by decide) rfl (Nat.le_trans (by decide) hN) cx hp dX12_writeAssignment_15 ?_
    refine lv_icmp_ge (tgt := 105) hx hb dX12_writeAssignment_18 (by decide) (fun c3 => ?_) (fun c3 => ?_)
    · have hf := fp hf c3
      refine lv_aload_n hx hb dX12_writeAssignment_105 rfl (lv_at hl 0 rfl) ?_
      refine gF_X12_12 rfl hN cx hp dX12_writeAssignment_106 ?_
      refine gF_X12_102_14 rfl (Nat.le_trans (by decide) hN) cx hp dX12_writeAssignment_109 ?_
      cases hf
      exact r_i cx hp ⟨rfl, rfl⟩ dX12_writeAssignment_112
    · have hf := fn hf c3
      refine lv_iload_n hx hb dX12_writeAssignment_21 rfl (lv_at hl 1 rfl) ?_
      refine lv_if_le (tgt := 34) hx hb dX12_writeAssignment_22 (by decide) (fun c4 => ?_) (fun c4 => ?_)
      · have hf := fp hf c4
        refine lv_aload_n hx hb dX12_writeAssignment_34 rfl (lv_at hl 0 rfl) ?_
        refine gF_X12_12 rfl hN cx hp dX12_writeAssignment_35 ?_
        refine lv_aload_n hx hb dX12_writeAssignment_38 rfl (lv_at hl 0 rfl) ?_
        refine gF_X12_99 rfl hN cx hp dX12_writeAssignment_39 ?_
        refine lv_iload_n hx hb dX12_writeAssignment_42 rfl (lv_at hl 1 rfl) ?_
        obtain ⟨r5, hc, hf⟩ := fb hf
        refine x_l hp (y_V (As := [.int x1]) (rest := [.ref (adr E 14 0)]) cx hp hl (c_X5_nameOfSeller l (Nat.le_trans (by decide) hN) hT (by decide) rfl hc) (cw_X12_195 cx (mc := 0) (ms := 0) rfl rfl ⟨by decide, by decide⟩) (rC_X5 (by decide) (Nat.le_trans (by decide) hN) cx hp) rfl rfl (Nat.le_of_ble_eq_true rfl) dX12_writeAssignment_43 ⟨Nat.zero_le _, Nat.zero_le _⟩) (fun r_c u_c H locs hq hp => ?_)
        obtain ⟨rfl, rfl⟩ := hq
        obtain ⟨m6, hc, hf⟩ := fb hf
        refine x_v hp (y_V (As := [.long r5]) (rest := []) cx hp hl (c_X2_addName_14 l (Nat.le_trans (by decide) hN) hT rfl hc) (cw_X12_339 cx (mc := 0) (ms := 0) rfl rfl ⟨by decide, by decide⟩) (rC_X2_14 (Nat.le_trans (by decide) hN) cx hp) rfl rfl (Nat.le_of_ble_eq_true rfl) dX12_writeAssignment_46 ⟨Nat.zero_le _, Nat.zero_le _⟩) (fun u_c H locs hq hp => ?_)
        obtain ⟨e_0, n_u⟩ := hq
        obtain ⟨σ7, e_l, hf⟩ := fl hf
        obtain rfl := ((us_x e_0 n_u).trans e_l).symm
        refine lv_aload_n hx hb dX12_writeAssignment_49 rfl (lv_at hl 0 rfl) ?_
        refine gF_X12_12 rfl hN cx hp dX12_writeAssignment_50 ?_
        refine lv_bipush (v := 58) hx hb dX12_writeAssignment_53 (by decide) ?_
        obtain ⟨m8, hc, hf⟩ := fb hf
        refine x_v hp (y_V (As := [.int 58]) (rest := []) cx hp hl (c_X2_add_14 l (Nat.le_trans (by decide) hN) hT rfl hc) (cw_X12_82 cx (mc := 0) (ms := 0) rfl rfl ⟨by decide, by decide⟩) (rC_X2_14 (Nat.le_trans (by decide) hN) cx hp) rfl rfl (Nat.le_of_ble_eq_true rfl) dX12_writeAssignment_55 ⟨Nat.zero_le _, Nat.zero_le _⟩) (fun u_c H locs hq hp => ?_)
        obtain ⟨e_0, n_u⟩ := hq
        obtain ⟨σ9, e_l, hf⟩ := fl hf
        obtain rfl := ((us_x e_0 n_u).trans e_l).symm
        refine lv_aload_n hx hb dX12_writeAssignment_58 rfl (lv_at hl 0 rfl) ?_
        refine gF_X12_99 rfl hN cx hp dX12_writeAssignment_59 ?_
        refine lv_iload_n hx hb dX12_writeAssignment_62 rfl (lv_at hl 1 rfl) ?_
        obtain ⟨r10, hc, hf⟩ := fb hf
        refine x_i hp (y_V (As := [.int x1]) (rest := []) cx hp hl (c_X5_heldBy l (Nat.le_trans (by decide) hN) hT (by decide) rfl hc) (cw_X12_167 cx (mc := 0) (ms := 0) rfl rfl ⟨by decide, by decide⟩) (rC_X5 (by decide) (Nat.le_trans (by decide) hN) cx hp) rfl rfl (Nat.le_of_ble_eq_true rfl) dX12_writeAssignment_63 ⟨Nat.zero_le _, Nat.zero_le _⟩) (fun r_c u_c H locs hq hp => ?_)
        obtain ⟨rfl, rfl⟩ := hq
        refine lv_istore_n (lv' := [(2, .int r10), (0, .ref (adr E 19 0)), (1, .int x1)]) hx hb dX12_writeAssignment_66 rfl hl (by decide) rfl (fun ls hl => ?_)
        refine lv_iload_n hx hb dX12_writeAssignment_67 rfl (lv_at hl 0 rfl) ?_
        refine lv_iconst (v := (-1)) hx hb dX12_writeAssignment_68 (by decide) ?_
        refine lv_icmp_ne (tgt := 84) hx hb dX12_writeAssignment_69 (by decide) (fun c11 => ?_) (fun c11 => ?_)
        · have hf := fn hf c11
          refine lv_aload_n hx hb dX12_writeAssignment_84 rfl (lv_at hl 1 rfl) ?_
          refine gF_X12_12 rfl hN cx hp dX12_writeAssignment_85 ?_
          refine lv_aload_n hx hb dX12_writeAssignment_88 rfl (lv_at hl 1 rfl) ?_
          refine gF_X12_99 rfl hN cx hp dX12_writeAssignment_89 ?_
          refine lv_iload_n hx hb dX12_writeAssignment_92 rfl (lv_at hl 0 rfl) ?_
          obtain ⟨r12, hc, hf⟩ := fb hf
          refine x_l hp (y_V (As := [.int r10]) (rest := [.ref (adr E 14 0)]) cx hp hl (c_X5_nameOfStall l (Nat.le_trans (by decide) hN) hT (by decide) rfl hc) (cw_X12_203 cx (mc := 0) (ms := 0) rfl rfl ⟨by decide, by decide⟩) (rC_X5 (by decide) (Nat.le_trans (by decide) hN) cx hp) rfl rfl (Nat.le_of_ble_eq_true rfl) dX12_writeAssignment_93 ⟨Nat.zero_le _, Nat.zero_le _⟩) (fun r_c u_c H locs hq hp => ?_)
          obtain ⟨rfl, rfl⟩ := hq
          obtain ⟨m13, hc, hf⟩ := fb hf
          refine x_v hp (y_V (As := [.long r12]) (rest := []) cx hp hl (c_X2_addName_14 l (Nat.le_trans (by decide) hN) hT rfl hc) (cw_X12_339 cx (mc := 0) (ms := 0) rfl rfl ⟨by decide, by decide⟩) (rC_X2_14 (Nat.le_trans (by decide) hN) cx hp) rfl rfl (Nat.le_of_ble_eq_true rfl) dX12_writeAssignment_96 ⟨Nat.zero_le _, Nat.zero_le _⟩) (fun u_c H locs hq hp => ?_)
          obtain ⟨e_0, n_u⟩ := hq
          obtain ⟨σ14, e_l, hf⟩ := fl hf
          obtain rfl := ((us_x e_0 n_u).trans e_l).symm
          refine lv_iinc (v := (x1 + 1)) (lv' := [(1, .int (x1 + 1)), (2, .int r10), (0, .ref (adr E 19 0))]) hx hb dX12_writeAssignment_99 hl (k := 2) rfl rfl (by decide) rfl (fun ls hl => ?_)
          refine lv_goto (tgt := 10) hx hb dX12_writeAssignment_102 (by decide) ?_
          exact ih  hf hp (lv_sub hl [2, 0] rfl)
        · have hf := fp hf c11
          refine lv_aload_n hx hb dX12_writeAssignment_72 rfl (lv_at hl 1 rfl) ?_
          refine gF_X12_12 rfl hN cx hp dX12_writeAssignment_73 ?_
          refine lv_bipush (v := 45) hx hb dX12_writeAssignment_76 (by decide) ?_
          obtain ⟨m15, hc, hf⟩ := fb hf
          refine x_v hp (y_V (As := [.int 45]) (rest := []) cx hp hl (c_X2_add_14 l (Nat.le_trans (by decide) hN) hT rfl hc) (cw_X12_82 cx (mc := 0) (ms := 0) rfl rfl ⟨by decide, by decide⟩) (rC_X2_14 (Nat.le_trans (by decide) hN) cx hp) rfl rfl (Nat.le_of_ble_eq_true rfl) dX12_writeAssignment_78 ⟨Nat.zero_le _, Nat.zero_le _⟩) (fun u_c H locs hq hp => ?_)
          obtain ⟨e_0, n_u⟩ := hq
          obtain ⟨σ16, e_l, hf⟩ := fl hf
          obtain rfl := ((us_x e_0 n_u).trans e_l).symm
          refine lv_goto (tgt := 99) hx hb dX12_writeAssignment_81 (by decide) ?_
          refine lv_iinc (v := (x1 + 1)) (lv' := [(1, .int (x1 + 1)), (2, .int r10), (0, .ref (adr E 19 0))]) hx hb dX12_writeAssignment_99 hl (k := 2) rfl rfl (by decide) rfl (fun ls hl => ?_)
          refine lv_goto (tgt := 10) hx hb dX12_writeAssignment_102 (by decide) ?_
          exact ih  hf hp (lv_sub hl [2, 0] rfl)
      · have hf := fn hf c4
        refine lv_aload_n hx hb dX12_writeAssignment_25 rfl (lv_at hl 0 rfl) ?_
        refine gF_X12_12 rfl hN cx hp dX12_writeAssignment_26 ?_
        refine lv_bipush (v := 32) hx hb dX12_writeAssignment_29 (by decide) ?_
        obtain ⟨m17, hc, hf⟩ := fb hf
        refine x_v hp (y_V (As := [.int 32]) (rest := []) cx hp hl (c_X2_add_14 l (Nat.le_trans (by decide) hN) hT rfl hc) (cw_X12_82 cx (mc := 0) (ms := 0) rfl rfl ⟨by decide, by decide⟩) (rC_X2_14 (Nat.le_trans (by decide) hN) cx hp) rfl rfl (Nat.le_of_ble_eq_true rfl) dX12_writeAssignment_31 ⟨Nat.zero_le _, Nat.zero_le _⟩) (fun u_c H locs hq hp => ?_)
        obtain ⟨e_0, n_u⟩ := hq
        obtain ⟨σ18, e_l, hf⟩ := fl hf
        obtain rfl := ((us_x e_0 n_u).trans e_l).symm
        refine lv_aload_n hx hb dX12_writeAssignment_34 rfl (lv_at hl 0 rfl) ?_
        refine gF_X12_12 rfl hN cx hp dX12_writeAssignment_35 ?_
        refine lv_aload_n hx hb dX12_writeAssignment_38 rfl (lv_at hl 0 rfl) ?_
        refine gF_X12_99 rfl hN cx hp dX12_writeAssignment_39 ?_
        refine lv_iload_n hx hb dX12_writeAssignment_42 rfl (lv_at hl 1 rfl) ?_
        obtain ⟨r19, hc, hf⟩ := fb hf
        refine x_l hp (y_V (As := [.int x1]) (rest := [.ref (adr E 14 0)]) cx hp hl (c_X5_nameOfSeller l (Nat.le_trans (by decide) hN) hT (by decide) rfl hc) (cw_X12_195 cx (mc := 0) (ms := 0) rfl rfl ⟨by decide, by decide⟩) (rC_X5 (by decide) (Nat.le_trans (by decide) hN) cx hp) rfl rfl (Nat.le_of_ble_eq_true rfl) dX12_writeAssignment_43 ⟨Nat.zero_le _, Nat.zero_le _⟩) (fun r_c u_c H locs hq hp => ?_)
        obtain ⟨rfl, rfl⟩ := hq
        obtain ⟨m20, hc, hf⟩ := fb hf
        refine x_v hp (y_V (As := [.long r19]) (rest := []) cx hp hl (c_X2_addName_14 l (Nat.le_trans (by decide) hN) hT rfl hc) (cw_X12_339 cx (mc := 0) (ms := 0) rfl rfl ⟨by decide, by decide⟩) (rC_X2_14 (Nat.le_trans (by decide) hN) cx hp) rfl rfl (Nat.le_of_ble_eq_true rfl) dX12_writeAssignment_46 ⟨Nat.zero_le _, Nat.zero_le _⟩) (fun u_c H locs hq hp => ?_)
        obtain ⟨e_0, n_u⟩ := hq
        obtain ⟨σ21, e_l, hf⟩ := fl hf
        obtain rfl := ((us_x e_0 n_u).trans e_l).symm
        refine lv_aload_n hx hb dX12_writeAssignment_49 rfl (lv_at hl 0 rfl) ?_
        refine gF_X12_12 rfl hN cx hp dX12_writeAssignment_50 ?_
        refine lv_bipush (v := 58) hx hb dX12_writeAssignment_53 (by decide) ?_
        obtain ⟨m22, hc, hf⟩ := fb hf
        refine x_v hp (y_V (As := [.int 58]) (rest := []) cx hp hl (c_X2_add_14 l (Nat.le_trans (by decide) hN) hT rfl hc) (cw_X12_82 cx (mc := 0) (ms := 0) rfl rfl ⟨by decide, by decide⟩) (rC_X2_14 (Nat.le_trans (by decide) hN) cx hp) rfl rfl (Nat.le_of_ble_eq_true rfl) dX12_writeAssignment_55 ⟨Nat.zero_le _, Nat.zero_le _⟩) (fun u_c H locs hq hp => ?_)
        obtain ⟨e_0, n_u⟩ := hq
        obtain ⟨σ23, e_l, hf⟩ := fl hf
        obtain rfl := ((us_x e_0 n_u).trans e_l).symm
        refine lv_aload_n hx hb dX12_writeAssignment_58 rfl (lv_at hl 0 rfl) ?_
        refine gF_X12_99 rfl hN cx hp dX12_writeAssignment_59 ?_
        refine lv_iload_n hx hb dX12_writeAssignment_62 rfl (lv_at hl 1 rfl) ?_
        obtain ⟨r24, hc, hf⟩ := fb hf
        refine x_i hp (y_V (As := [.int x1]) (rest := []) cx hp hl (c_X5_heldBy l (Nat.le_trans (by decide) hN) hT (by decide) rfl hc) (cw_X12_167 cx (mc := 0) (ms := 0) rfl rfl ⟨by decide, by decide⟩) (rC_X5 (by decide) (Nat.le_trans (by decide) hN) cx hp) rfl rfl (Nat.le_of_ble_eq_true rfl) dX12_writeAssignment_63 ⟨Nat.zero_le _, Nat.zero_le _⟩) (fun r_c u_c H locs hq hp => ?_)
        obtain ⟨rfl, rfl⟩ := hq
        refine lv_istore_n (lv' := [(2, .int r24), (0, .ref (adr E 19 0)), (1, .int x1)]) hx hb dX12_writeAssignment_66 rfl hl (by decide) rfl (fun ls hl => ?_)
        refine lv_iload_n hx hb dX12_writeAssignment_67 rfl (lv_at hl 0 rfl) ?_
        refine lv_iconst (v := (-1)) hx hb dX12_writeAssignment_68 (by decide) ?_
        refine lv_icmp_ne (tgt := 84) hx hb dX12_writeAssignment_69 (by decide) (fun c25 => ?_) (fun c25 => ?_)
        · have hf := fn hf c25
          refine lv_aload_n hx hb dX12_writeAssignment_84 rfl (lv_at hl 1 rfl) ?_
          refine gF_X12_12 rfl hN cx hp dX12_writeAssignment_85 ?_
          refine lv_aload_n hx hb dX12_writeAssignment_88 rfl (lv_at hl 1 rfl) ?_
          refine gF_X12_99 rfl hN cx hp dX12_writeAssignment_89 ?_
          refine lv_iload_n hx hb dX12_writeAssignment_92 rfl (lv_at hl 0 rfl) ?_
          obtain ⟨r26, hc, hf⟩ := fb hf
          refine x_l hp (y_V (As := [.int r24]) (rest := [.ref (adr E 14 0)]) cx hp hl (c_X5_nameOfStall l (Nat.le_trans (by decide) hN) hT (by decide) rfl hc) (cw_X12_203 cx (mc := 0) (ms := 0) rfl rfl ⟨by decide, by decide⟩) (rC_X5 (by decide) (Nat.le_trans (by decide) hN) cx hp) rfl rfl (Nat.le_of_ble_eq_true rfl) dX12_writeAssignment_93 ⟨Nat.zero_le _, Nat.zero_le _⟩) (fun r_c u_c H locs hq hp => ?_)
          obtain ⟨rfl, rfl⟩ := hq
          obtain ⟨m27, hc, hf⟩ := fb hf
          refine x_v hp (y_V (As := [.long r26]) (rest := []) cx hp hl (c_X2_addName_14 l (Nat.le_trans (by decide) hN) hT rfl hc) (cw_X12_339 cx (mc := 0) (ms := 0) rfl rfl ⟨by decide, by decide⟩) (rC_X2_14 (Nat.le_trans (by decide) hN) cx hp) rfl rfl (Nat.le_of_ble_eq_true rfl) dX12_writeAssignment_96 ⟨Nat.zero_le _, Nat.zero_le _⟩) (fun u_c H locs hq hp => ?_)
          obtain ⟨e_0, n_u⟩ := hq
          obtain ⟨σ28, e_l, hf⟩ := fl hf
          obtain rfl := ((us_x e_0 n_u).trans e_l).symm
          refine lv_iinc (v := (x1 + 1)) (lv' := [(1, .int (x1 + 1)), (2, .int r24), (0, .ref (adr E 19 0))]) hx hb dX12_writeAssignment_99 hl (k := 2) rfl rfl (by decide) rfl (fun ls hl => ?_)
          refine lv_goto (tgt := 10) hx hb dX12_writeAssignment_102 (by decide) ?_
          exact ih  hf hp (lv_sub hl [2, 0] rfl)
        · have hf := fp hf c25
          refine lv_aload_n hx hb dX12_writeAssignment_72 rfl (lv_at hl 1 rfl) ?_
          refine gF_X12_12 rfl hN cx hp dX12_writeAssignment_73 ?_
          refine lv_bipush (v := 45) hx hb dX12_writeAssignment_76 (by decide) ?_
          obtain ⟨m29, hc, hf⟩ := fb hf
          refine x_v hp (y_V (As := [.int 45]) (rest := []) cx hp hl (c_X2_add_14 l (Nat.le_trans (by decide) hN) hT rfl hc) (cw_X12_82 cx (mc := 0) (ms := 0) rfl rfl ⟨by decide, by decide⟩) (rC_X2_14 (Nat.le_trans (by decide) hN) cx hp) rfl rfl (Nat.le_of_ble_eq_true rfl) dX12_writeAssignment_78 ⟨Nat.zero_le _, Nat.zero_le _⟩) (fun u_c H locs hq hp => ?_)
          obtain ⟨e_0, n_u⟩ := hq
          obtain ⟨σ30, e_l, hf⟩ := fl hf
          obtain rfl := ((us_x e_0 n_u).trans e_l).symm
          refine lv_goto (tgt := 99) hx hb dX12_writeAssignment_81 (by decide) ?_
          refine lv_iinc (v := (x1 + 1)) (lv' := [(1, .int (x1 + 1)), (2, .int r24), (0, .ref (adr E 19 0))]) hx hb dX12_writeAssignment_99 hl (k := 2) rfl rfl (by decide) rfl (fun ls hl => ?_)
          refine lv_goto (tgt := 10) hx hb dX12_writeAssignment_102 (by decide) ?_
          exact ih  hf hp (lv_sub hl [2, 0] rfl)
set_option maxRecDepth 100000 in
set_option maxHeartbeats 4000000 in
theorem c_X12_writeAssignment (l : Launch) {E : Ev} (hN : 130 ≤ eN E) (hT : St E) {σ : SM}  {rv : Int32} {σ' : SM} (hf : f_X12_writeAssignment σ = some (rv, σ')) : Met l yX12_writeAssignment (wC yX12_writeAssignment cX12_writeAssignment 3 (some .int)) rm_X12_writeAssignment (va_Pc [.ref (adr E 19 0)] (Wu E σ)) (va_Qi (fun r u => rv = r ∧ σ' = u) (fun u t => Wu E u t) (eA E)) 0 0 (eA E) := by
  refine g_entry (lv := [(0, .ref (adr E 19 0))]) (by decide) (Nat.le_of_ble_eq_true rfl) rfl ?_
  intro p e s m below meth c cx hp ls hl
  have hx := cx.1.1
  have hb := cx.1.2.1
  unfold f_X12_writeAssignment at hf
  refine lv_aload_n hx hb dX12_writeAssignment_0 rfl (lv_at hl 0 rfl) ?_
  refine gF_X12_12 rfl hN cx hp dX12_writeAssignment_1 ?_
  refine lv_iconst (v := 0) hx hb dX12_writeAssignment_4 (by decide) ?_
  obtain ⟨m1, hc, hf⟩ := fb hf
  refine x_v hp (y_V (As := [.int 0]) (rest := []) cx hp hl (c_X2_cut_14 l (Nat.le_trans (by decide) hN) hT rfl hc) (cw_X12_92 cx (mc := 0) (ms := 0) rfl rfl ⟨by decide, by decide⟩) (rC_X2_14 (Nat.le_trans (by decide) hN) cx hp) rfl rfl (Nat.le_of_ble_eq_true rfl) dX12_writeAssignment_5 ⟨Nat.zero_le _, Nat.zero_le _⟩) (fun u_c H locs hq hp => ?_)
  obtain ⟨e_0, n_u⟩ := hq
  obtain ⟨σ2, e_l, hf⟩ := fl hf
  obtain rfl := ((us_x e_0 n_u).trans e_l).symm
  refine lv_iconst (v := 0) hx hb dX12_writeAssignment_8 (by decide) ?_
  refine lv_istore_n (lv' := [(1, .int 0), (0, .ref (adr E 19 0))]) hx hb dX12_writeAssignment_9 rfl hl (by decide) rfl (fun ls hl => ?_)
  exact L_X12_writeAssignment_10 l hN hT cx  _ hf hp (lv_sub hl [1, 0] rfl)
abbrev rm_X12_writePreferences : Room := { frames := 7, cells := 1, slots := 6, locals := 103 }
set_option maxRecDepth 100000 in
set_option maxHeartbeats 4000000 in
theorem L_X12_writePreferences_15 {p : Program} {e : Env} {s : State} {m : MethodId} {args : Array Value} {below : List Frame} {meth : Method} {c : Code} (l : Launch) {E : Ev} (hN : 130 ≤ eN E) (hT : St E) (hlf : l.stackTraces = false) (cx : Cx E p s m meth c args RX12 cX12_writePreferences 3 (some .int)) (hxt : ∀ x ∈ c.exceptionTable.toList, False) {x1 : Int32} {σs : SM} {z : Nat ⊕ (Int32 × SM)} : ∀ (n : Nat) {x2 : Int32} {σ : SM}, f_X12_writePreferences_15 x1 n x2 σ = some z → ∀ {H : Heap} {locs : List Loc} {ls : Array Slot}, Hp E σ s H locs → lv_has ls 3 [(0, .ref (adr E 19 0)), (1, .int x1), (2, .int x2)] → W p l e rm_X12_writePreferences s m args below meth c H locs 1 6 (vx_MQ below (va_Qi (fun r u => z = .inr (r, u)) (fun u t => Wu E u t) (eA E)) (XT E σs (fun k => z = .inl k)) args s 1 6 (eA E)) (F0 m 15 ls []) := by
  have hx := cx.1.1
  have hb := cx.1.2.1
  intro n
  induction n with
  | zero =>
    intro x2 σ hf
    exact absurd hf (by simp [f_X12_writePreferences_15])
  | succ n ih =>
    intro x2 σ hf H locs ls hp hl
    rw [f_X12_writePreferences_15] at hf
    refine lv_iload_n hx hb dX12_writePreferences_15 rfl (lv_at hl 2 rfl) ?_
    refine lv_aload_n hx hb dX12_writePreferences_16 rfl (lv_at hl 0 rfl) ?_
    refine gF_X12_99 rfl hN cx hp dX12_writePreferences_17 ?_
    refine lv_iload_n hx hb dX12_writePreferences_20 rfl (lv_at hl 1 rfl) ?_
    obtain ⟨r3, hc, hf⟩ := fb hf
    refine x_i hp (y_V (As := [.int x1]) (rest := [.int x2]) cx hp hl (c_X5_wishesOf l (Nat.le_trans (by decide) hN) hT (by decide) rfl hc) (cw_X12_176 cx (mc := 0) (ms := 0) rfl rfl ⟨by decide, by decide⟩) (rC_X5 (by decide) (Nat.le_trans (by decide) hN) cx hp) rfl rfl (Nat.le_of_ble_eq_true rfl) dX12_writePreferences_21 ⟨by decide, by decide⟩) (fun r_c u_c H locs hq hp => ?_)
    obtain ⟨rfl, rfl⟩ := hq
    refine lv_icmp_ge (tgt := 69) hx hb dX12_writePreferences_24 (by decide) (fun c4 => ?_) (fun c4 => ?_)
    · have hf := fp hf c4
      refine lv_aload_n hx hb dX12_writePreferences_69 rfl (lv_at hl 0 rfl) ?_
      refine gF_X12_12 rfl hN cx hp dX12_writePreferences_70 ?_
      refine gF_X12_102_14 rfl (Nat.le_trans (by decide) hN) cx hp dX12_writePreferences_73 ?_
      cases hf
      refine vx_ret ?_
      exact r_i cx hp rfl dX12_writePreferences_76
    · have hf := fn hf c4
      refine lv_iload_n hx hb dX12_writePreferences_27 rfl (lv_at hl 2 rfl) ?_
      refine lv_if_le (tgt := 40) hx hb dX12_writePreferences_28 (by decide) (fun c5 => ?_) (fun c5 => ?_)
      · have hf := fp hf c5
        refine lv_aload_n hx hb dX12_writePreferences_40 rfl (lv_at hl 0 rfl) ?_
        refine gF_X12_12 rfl hN cx hp dX12_writePreferences_41 ?_
        refine lv_aload_n hx hb dX12_writePreferences_44 rfl (lv_at hl 0 rfl) ?_
        refine gF_X12_99 rfl hN cx hp dX12_writePreferences_45 ?_
        refine lv_aload_n hx hb dX12_writePreferences_48 rfl (lv_at hl 0 rfl) ?_
        refine gF_X12_99 rfl hN cx hp dX12_writePreferences_49 ?_
        refine lv_iload_n hx hb dX12_writePreferences_52 rfl (lv_at hl 1 rfl) ?_
        refine lv_iload_n hx hb dX12_writePreferences_53 rfl (lv_at hl 2 rfl) ?_
        obtain ⟨r6, hc, hf⟩ := fb hf
        refine x_i hp (y_V (As := [.int x1, .int x2]) (rest := [.ref (adr E 0 0), .ref (adr E 14 0)]) cx hp hl (c_X5_wish l (Nat.le_trans (by decide) hN) hT (by decide) rfl hc) (cw_X12_184 cx (mc := 0) (ms := 0) rfl rfl ⟨by decide, by decide⟩) (rC_X5 (by decide) (Nat.le_trans (by decide) hN) cx hp) rfl rfl (Nat.le_of_ble_eq_true rfl) dX12_writePreferences_54 ⟨by decide, by decide⟩) (fun r_c u_c H locs hq hp => ?_)
        obtain ⟨rfl, rfl⟩ := hq
        obtain ⟨r7, hc, hf⟩ := fb hf
        refine x_l hp (y_V (As := [.int r6]) (rest := [.ref (adr E 14 0)]) cx hp hl (c_X5_nameOfStall l (Nat.le_trans (by decide) hN) hT (by decide) rfl hc) (cw_X12_203 cx (mc := 0) (ms := 0) rfl rfl ⟨by decide, by decide⟩) (rC_X5 (by decide) (Nat.le_trans (by decide) hN) cx hp) rfl rfl (Nat.le_of_ble_eq_true rfl) dX12_writePreferences_57 ⟨by decide, by decide⟩) (fun r_c u_c H locs hq hp => ?_)
        obtain ⟨rfl, rfl⟩ := hq
        obtain ⟨m8, hc, hf⟩ := fb hf
        refine x_v hp (y_V (As := [.long r7]) (rest := []) cx hp hl (c_X2_addName_14 l (Nat.le_trans (by decide) hN) hT rfl hc) (cw_X12_339 cx (mc := 0) (ms := 0) rfl rfl ⟨by decide, by decide⟩) (rC_X2_14 (Nat.le_trans (by decide) hN) cx hp) rfl rfl (Nat.le_of_ble_eq_true rfl) dX12_writePreferences_60 ⟨by decide, by decide⟩) (fun u_c H locs hq hp => ?_)
        obtain ⟨e_0, n_u⟩ := hq
        obtain ⟨σ9, e_l, hf⟩ := fl hf
        obtain rfl := ((us_x e_0 n_u).trans e_l).symm
        refine lv_iinc (v := (x2 + 1)) (lv' := [(2, .int (x2 + 1)), (0, .ref (adr E 19 0)), (1, .int x1)]) hx hb dX12_writePreferences_63 hl (k := 2) rfl rfl (by decide) rfl (fun ls hl => ?_)
        refine lv_goto (tgt := 15) hx hb dX12_writePreferences_66 (by decide) ?_
        exact ih  hf hp (lv_sub hl [1, 2, 0] rfl)
      · have hf := fn hf c5
        refine lv_aload_n hx hb dX12_writePreferences_31 rfl (lv_at hl 0 rfl) ?_
        refine gF_X12_12 rfl hN cx hp dX12_writePreferences_32 ?_
        refine lv_bipush (v := 62) hx hb dX12_writePreferences_35 (by decide) ?_
        obtain ⟨m10, hc, hf⟩ := fb hf
        refine x_v hp (y_V (As := [.int 62]) (rest := []) cx hp hl (c_X2_add_14 l (Nat.le_trans (by decide) hN) hT rfl hc) (cw_X12_82 cx (mc := 0) (ms := 0) rfl rfl ⟨by decide, by decide⟩) (rC_X2_14 (Nat.le_trans (by decide) hN) cx hp) rfl rfl (Nat.le_of_ble_eq_true rfl) dX12_writePreferences_37 ⟨by decide, by decide⟩) (fun u_c H locs hq hp => ?_)
        obtain ⟨e_0, n_u⟩ := hq
        obtain ⟨σ11, e_l, hf⟩ := fl hf
        obtain rfl := ((us_x e_0 n_u).trans e_l).symm
        refine lv_aload_n hx hb dX12_writePreferences_40 rfl (lv_at hl 0 rfl) ?_
        refine gF_X12_12 rfl hN cx hp dX12_writePreferences_41 ?_
        refine lv_aload_n hx hb dX12_writePreferences_44 rfl (lv_at hl 0 rfl) ?_
        refine gF_X12_99 rfl hN cx hp dX12_writePreferences_45 ?_
        refine lv_aload_n hx hb dX12_writePreferences_48 rfl (lv_at hl 0 rfl) ?_
        refine gF_X12_99 rfl hN cx hp dX12_writePreferences_49 ?_
        refine lv_iload_n hx hb dX12_writePreferences_52 rfl (lv_at hl 1 rfl) ?_
        refine lv_iload_n hx hb dX12_writePreferences_53 rfl (lv_at hl 2 rfl) ?_
        obtain ⟨r12, hc, hf⟩ := fb hf
        refine x_i hp (y_V (As := [.int x1, .int x2]) (rest := [.ref (adr E 0 0), .ref (adr E 14 0)]) cx hp hl (c_X5_wish l (Nat.le_trans (by decide) hN) hT (by decide) rfl hc) (cw_X12_184 cx (mc := 0) (ms := 0) rfl rfl ⟨by decide, by decide⟩) (rC_X5 (by decide) (Nat.le_trans (by decide) hN) cx hp) rfl rfl (Nat.le_of_ble_eq_true rfl) dX12_writePreferences_54 ⟨by decide, by decide⟩) (fun r_c u_c H locs hq hp => ?_)
        obtain ⟨rfl, rfl⟩ := hq
        obtain ⟨r13, hc, hf⟩ := fb hf
        refine x_l hp (y_V (As := [.int r12]) (rest := [.ref (adr E 14 0)]) cx hp hl (c_X5_nameOfStall l (Nat.le_trans (by decide) hN) hT (by decide) rfl hc) (cw_X12_203 cx (mc := 0) (ms := 0) rfl rfl ⟨by decide, by decide⟩) (rC_X5 (by decide) (Nat.le_trans (by decide) hN) cx hp) rfl rfl (Nat.le_of_ble_eq_true rfl) dX12_writePreferences_57 ⟨by decide, by decide⟩) (fun r_c u_c H locs hq hp => ?_)
        obtain ⟨rfl, rfl⟩ := hq
        obtain ⟨m14, hc, hf⟩ := fb hf
        refine x_v hp (y_V (As := [.long r13]) (rest := []) cx hp hl (c_X2_addName_14 l (Nat.le_trans (by decide) hN) hT rfl hc) (cw_X12_339 cx (mc := 0) (ms := 0) rfl rfl ⟨by decide, by decide⟩) (rC_X2_14 (Nat.le_trans (by decide) hN) cx hp) rfl rfl (Nat.le_of_ble_eq_true rfl) dX12_writePreferences_60 ⟨by decide, by decide⟩) (fun u_c H locs hq hp => ?_)
        obtain ⟨e_0, n_u⟩ := hq
        obtain ⟨σ15, e_l, hf⟩ := fl hf
        obtain rfl := ((us_x e_0 n_u).trans e_l).symm
        refine lv_iinc (v := (x2 + 1)) (lv' := [(2, .int (x2 + 1)), (0, .ref (adr E 19 0)), (1, .int x1)]) hx hb dX12_writePreferences_63 hl (k := 2) rfl rfl (by decide) rfl (fun ls hl => ?_)
        refine lv_goto (tgt := 15) hx hb dX12_writePreferences_66 (by decide) ?_
        exact ih  hf hp (lv_sub hl [1, 2, 0] rfl)
set_option maxRecDepth 100000 in
set_option maxHeartbeats 4000000 in
theorem c_X12_writePreferences (l : Launch) {E : Ev} (hN : 130 ≤ eN E) (hT : St E) (hlf : l.stackTraces = false) {σ : SM} {p1 : Int32} {z : Nat ⊕ (Int32 × SM)} (hf : f_X12_writePreferences p1 σ = some z) : vx_Met l yX12_writePreferences (wC yX12_writePreferences cX12_writePreferences 3 (some .int)) rm_X12_writePreferences (va_Pc [.ref (adr E 19 0), .int p1] (Wu E σ)) (va_Qi (fun r u => z = .inr (r, u)) (fun u t => Wu E u t) (eA E)) (XT E σ (fun k => z = .inl k)) 1 6 (eA E) := by
  refine gx_entry (lv := [(0, .ref (adr E 19 0)), (1, .int p1)]) (by decide) (Nat.le_of_ble_eq_true rfl) rfl ?_
  intro p e s m below meth c cx hxt hp ls hl
  have hx := cx.1.1
  have hb := cx.1.2.1
  unfold f_X12_writePreferences at hf
  refine lv_aload_n hx hb dX12_writePreferences_0 rfl (lv_at hl 0 rfl) ?_
  refine lv_iload_n hx hb dX12_writePreferences_1 rfl (lv_at hl 1 rfl) ?_
  rcases fX hf with ⟨k_t, hc, rfl⟩ | ⟨_, hc, hf⟩
  · exact zv_thr cx hxt hp (yx_V (As := [.int p1]) (rest := []) cx hp hl (c_X12_requireSeller l hN hT hlf  hc) (cw_X12_151 cx (mc := 1) (ms := 6) rfl rfl ⟨by decide, by decide⟩) (rC_X12 hN cx hp) rfl rfl (Nat.le_of_ble_eq_true rfl) dX12_writePreferences_2 ⟨by decide, by decide⟩) rfl rfl (by decide) (by decide)
  · refine zv_ok hp (yx_V (As := [.int p1]) (rest := []) cx hp hl (c_X12_requireSeller l hN hT hlf  hc) (cw_X12_151 cx (mc := 1) (ms := 6) rfl rfl ⟨by decide, by decide⟩) (rC_X12 hN cx hp) rfl rfl (Nat.le_of_ble_eq_true rfl) dX12_writePreferences_2 ⟨by decide, by decide⟩) rfl (fun H locs hp => ?_)
    refine lv_aload_n hx hb dX12_writePreferences_5 rfl (lv_at hl 0 rfl) ?_
    refine gF_X12_12 rfl hN cx hp dX12_writePreferences_6 ?_
    refine lv_iconst (v := 0) hx hb dX12_writePreferences_9 (by decide) ?_
    obtain ⟨m1, hc, hf⟩ := fb hf
    refine x_v hp (y_V (As := [.int 0]) (rest := []) cx hp hl (c_X2_cut_14 l (Nat.le_trans (by decide) hN) hT rfl hc) (cw_X12_92 cx (mc := 0) (ms := 0) rfl rfl ⟨by decide, by decide⟩) (rC_X2_14 (Nat.le_trans (by decide) hN) cx hp) rfl rfl (Nat.le_of_ble_eq_true rfl) dX12_writePreferences_10 ⟨by decide, by decide⟩) (fun u_c H locs hq hp => ?_)
    obtain ⟨e_0, n_u⟩ := hq
    obtain ⟨σ2, e_l, hf⟩ := fl hf
    obtain rfl := ((us_x e_0 n_u).trans e_l).symm
    refine lv_iconst (v := 0) hx hb dX12_writePreferences_13 (by decide) ?_
    refine lv_istore_n (lv' := [(2, .int 0), (0, .ref (adr E 19 0)), (1, .int p1)]) hx hb dX12_writePreferences_14 rfl hl (by decide) rfl (fun ls hl => ?_)
    exact L_X12_writePreferences_15 l hN hT hlf cx hxt  _ hf hp (lv_sub hl [1, 2, 0] rfl)
abbrev rm_X12_outputByte : Room := { frames := 1, cells := 0, slots := 0, locals := 21 }
set_option maxRecDepth 100000 in
set_option maxHeartbeats 4000000 in
theorem c_X12_outputByte (l : Launch) {E : Ev} (hN : 130 ≤ eN E) (hT : St E) {σ : SM} {p1 : Int32} {rv : Int32} (hf : f_X12_outputByte p1 σ = some rv) : Met l yX12_outputByte (wC yX12_outputByte cX12_outputByte 2 (some .int)) rm_X12_outputByte (va_Pc [.ref (adr E 19 0), .int p1] (Wu E σ)) (va_Qi (fun r u => rv = r ∧ σ = u) (fun u t => Wu E u t) (eA E)) 0 0 (eA E) := by
  refine g_entry (lv := [(0, .ref (adr E 19 0)), (1, .int p1)]) (by decide) (Nat.le_of_ble_eq_true rfl) rfl ?_
  intro p e s m below meth c cx hp ls hl
  have hx := cx.1.1
  have hb := cx.1.2.1
  unfold f_X12_outputByte at hf
  refine lv_aload_n hx hb dX12_outputByte_0 rfl (lv_at hl 0 rfl) ?_
  refine gF_X12_12 rfl hN cx hp dX12_outputByte_1 ?_
  refine lv_iload_n hx hb dX12_outputByte_4 rfl (lv_at hl 1 rfl) ?_
  obtain ⟨r1, hc, hf⟩ := fb hf
  refine x_i hp (y_V (As := [.int p1]) (rest := []) cx hp hl (c_X2_byteAt_14 l (Nat.le_trans (by decide) hN) hT rfl hc) (cw_X12_343 cx (mc := 0) (ms := 0) rfl rfl ⟨by decide, by decide⟩) (rC_X2_14 (Nat.le_trans (by decide) hN) cx hp) rfl rfl (Nat.le_of_ble_eq_true rfl) dX12_outputByte_5 ⟨Nat.zero_le _, Nat.zero_le _⟩) (fun r_c u_c H locs hq hp => ?_)
  obtain ⟨rfl, rfl⟩ := hq
  cases hf
  exact r_i cx hp ⟨rfl, rfl⟩ dX12_outputByte_8
abbrev rm_X12_undo : Room := { frames := 2, cells := 0, slots := 0, locals := 43 }
set_option maxRecDepth 100000 in
set_option maxHeartbeats 4000000 in
theorem c_X12_undo (l : Launch) {E : Ev} (hN : 130 ≤ eN E) (hT : St E) {σ : SM}  {rv : Int32} {σ' : SM} (hf : f_X12_undo σ = some (rv, σ')) : Met l yX12_undo (wC yX12_undo cX12_undo 1 (some .int)) rm_X12_undo (va_Pc [.ref (adr E 19 0)] (Wu E σ)) (va_Qi (fun r u => rv = r ∧ σ' = u) (fun u t => Wu E u t) (eA E)) 0 0 (eA E) := by
  refine g_entry (lv := [(0, .ref (adr E 19 0))]) (by decide) (Nat.le_of_ble_eq_true rfl) rfl ?_
  intro p e s m below meth c cx hp ls hl
  have hx := cx.1.1
  have hb := cx.1.2.1
  unfold f_X12_undo at hf
  refine lv_aload_n hx hb dX12_undo_0 rfl (lv_at hl 0 rfl) ?_
  refine gF_X12_40 rfl hN cx hp dX12_undo_1 ?_
  refine lv_aload_n hx hb dX12_undo_4 rfl (lv_at hl 0 rfl) ?_
  refine gF_X12_99 rfl hN cx hp dX12_undo_5 ?_
  obtain ⟨r1, σ2, hc, hf⟩ := fb2 hf
  refine x_i hp (y_V (As := [.ref (adr E 0 0)]) (rest := []) cx hp hl (c_X4_takeBack l (Nat.le_trans (by decide) hN) hT  hc) (cw_X12_346 cx (mc := 0) (ms := 0) rfl rfl ⟨by decide, by decide⟩) (rC_X4 (Nat.le_trans (by decide) hN) cx hp) rfl rfl (Nat.le_of_ble_eq_true rfl) dX12_undo_8 ⟨Nat.zero_le _, Nat.zero_le _⟩) (fun r_c u_c H locs hq hp => ?_)
  obtain ⟨rfl, rfl⟩ := hq
  cases hf
  exact r_i cx hp ⟨rfl, rfl⟩ dX12_undo_11
abbrev rm_X12_undoCount : Room := { frames := 0, cells := 0, slots := 0, locals := 0 }
set_option maxRecDepth 100000 in
set_option maxHeartbeats 4000000 in
theorem c_X12_undoCount (l : Launch) {E : Ev} (hN : 130 ≤ eN E) (hT : St E) {σ : SM}  {rv : Int32} (hf : f_X12_undoCount σ = some rv) : Met l yX12_undoCount (wC yX12_undoCount cX12_undoCount 1 (some .int)) rm_X12_undoCount (va_Pc [.ref (adr E 19 0)] (Wu E σ)) (va_Qi (fun r u => rv = r ∧ σ = u) (fun u t => Wu E u t) (eA E)) 0 0 (eA E) := by
  refine g_entry (lv := [(0, .ref (adr E 19 0))]) (by decide) (Nat.le_of_ble_eq_true rfl) rfl ?_
  intro p e s m below meth c cx hp ls hl
  have hx := cx.1.1
  have hb := cx.1.2.1
  unfold f_X12_undoCount at hf
  refine lv_aload_n hx hb dX12_undoCount_0 rfl (lv_at hl 0 rfl) ?_
  refine gF_X12_40 rfl hN cx hp dX12_undoCount_1 ?_
  refine gF_X12_349 rfl (Nat.le_trans (by decide) hN) cx hp dX12_undoCount_4 ?_
  cases hf
  exact r_i cx hp ⟨rfl, rfl⟩ dX12_undoCount_7
abbrev rm_X12_save : Room := { frames := 1, cells := 0, slots := 0, locals := 22 }
set_option maxRecDepth 100000 in
set_option maxHeartbeats 4000000 in
theorem c_X12_save (l : Launch) {E : Ev} (hN : 130 ≤ eN E) (hT : St E) {σ : SM}  {rv : Int32} {σ' : SM} (hf : f_X12_save σ = some (rv, σ')) : Met l yX12_save (wC yX12_save cX12_save 1 (some .int)) rm_X12_save (va_Pc [.ref (adr E 19 0)] (Wu E σ)) (va_Qi (fun r u => rv = r ∧ σ' = u) (fun u t => Wu E u t) (eA E)) 0 0 (eA E) := by
  refine g_entry (lv := [(0, .ref (adr E 19 0))]) (by decide) (Nat.le_of_ble_eq_true rfl) rfl ?_
  intro p e s m below meth c cx hp ls hl
  have hx := cx.1.1
  have hb := cx.1.2.1
  unfold f_X12_save at hf
  refine lv_aload_n hx hb dX12_save_0 rfl (lv_at hl 0 rfl) ?_
  refine gF_X12_99 rfl hN cx hp dX12_save_1 ?_
  refine lv_aload_n hx hb dX12_save_4 rfl (lv_at hl 0 rfl) ?_
  refine gF_X12_30 rfl hN cx hp dX12_save_5 ?_
  obtain ⟨m1, hc, hf⟩ := fb hf
  refine x_v hp (y_S (As := [.ref (adr E 0 0), .ref (adr E 2 0)]) (rest := []) cx hp hl (c_X5_copy l (Nat.le_trans (by decide) hN) hT (by decide) rfl (by decide) rfl (by decide) hc) (cw_X12_120 cx (mc := 0) (ms := 0) rfl rfl ⟨by decide, by decide⟩) rfl rfl (Nat.le_of_ble_eq_true rfl) dX12_save_8 ⟨Nat.zero_le _, Nat.zero_le _⟩) (fun u_c H locs hq hp => ?_)
  obtain ⟨e_0, n_u⟩ := hq
  obtain ⟨σ2, e_l, hf⟩ := fl hf
  obtain rfl := ((us_x e_0 n_u).trans e_l).symm
  refine lv_aload_n hx hb dX12_save_11 rfl (lv_at hl 0 rfl) ?_
  refine lv_iconst (v := 1) hx hb dX12_save_12 (by decide) ?_
  obtain ⟨σ3, e_l, hf⟩ := fl hf
  refine pF_X12_33 rfl hN cx hp rfl rfl dX12_save_13 (fun u H locs e_u n_u hp => ?_)
  obtain rfl := ((us_x e_u n_u).trans e_l).symm
  refine lv_aload_n hx hb dX12_save_16 rfl (lv_at hl 0 rfl) ?_
  refine gF_X12_99 rfl hN cx hp dX12_save_17 ?_
  refine gF_X12_148 (by decide) rfl (Nat.le_trans (by decide) hN) cx hp dX12_save_20 ?_
  cases hf
  exact r_i cx hp ⟨rfl, rfl⟩ dX12_save_23
abbrev rm_X12_restore : Room := { frames := 6, cells := 1, slots := 6, locals := 82 }
set_option maxRecDepth 100000 in
set_option maxHeartbeats 4000000 in
theorem c_X12_restore (l : Launch) {E : Ev} (hN : 130 ≤ eN E) (hT : St E) (hlf : l.stackTraces = false) {σ : SM}  {z : Nat ⊕ (Int32 × SM)} (hf : f_X12_restore σ = some z) : vx_Met l yX12_restore (wC yX12_restore cX12_restore 1 (some .int)) rm_X12_restore (va_Pc [.ref (adr E 19 0)] (Wu E σ)) (va_Qi (fun r u => z = .inr (r, u)) (fun u t => Wu E u t) (eA E)) (XT E σ (fun k => z = .inl k)) 1 6 (eA E) := by
  refine gx_entry (lv := [(0, .ref (adr E 19 0))]) (by decide) (Nat.le_of_ble_eq_true rfl) rfl ?_
  intro p e s m below meth c cx hxt hp ls hl
  have hx := cx.1.1
  have hb := cx.1.2.1
  unfold f_X12_restore at hf
  refine lv_aload_n hx hb dX12_restore_0 rfl (lv_at hl 0 rfl) ?_
  refine gF_X12_33 rfl hN cx hp dX12_restore_1 ?_
  refine lv_if_ne (tgt := 18) hx hb dX12_restore_4 (by decide) (fun c1 => ?_) (fun c1 => ?_)
  · have hf := fn hf c1
    refine lv_aload_n hx hb dX12_restore_18 rfl (lv_at hl 0 rfl) ?_
    refine gF_X12_30 rfl hN cx hp dX12_restore_19 ?_
    refine lv_aload_n hx hb dX12_restore_22 rfl (lv_at hl 0 rfl) ?_
    refine gF_X12_99 rfl hN cx hp dX12_restore_23 ?_
    obtain ⟨m2, hc, hf⟩ := fb hf
    refine x_v hp (y_S (As := [.ref (adr E 2 0), .ref (adr E 0 0)]) (rest := []) cx hp hl (c_X5_copy l (Nat.le_trans (by decide) hN) hT (by decide) rfl (by decide) rfl (by decide) hc) (cw_X12_120 cx (mc := 0) (ms := 0) rfl rfl ⟨by decide, by decide⟩) rfl rfl (Nat.le_of_ble_eq_true rfl) dX12_restore_26 ⟨by decide, by decide⟩) (fun u_c H locs hq hp => ?_)
    obtain ⟨e_0, n_u⟩ := hq
    obtain ⟨σ3, e_l, hf⟩ := fl hf
    obtain rfl := ((us_x e_0 n_u).trans e_l).symm
    refine lv_aload_n hx hb dX12_restore_29 rfl (lv_at hl 0 rfl) ?_
    refine gF_X12_40 rfl hN cx hp dX12_restore_30 ?_
    obtain ⟨σ4, hc, hf⟩ := fb hf
    refine x_v hp (y_V (As := []) (rest := []) cx hp hl (c_X4_clear l (Nat.le_trans (by decide) hN) hT  hc) (cw_X12_124 cx (mc := 0) (ms := 0) rfl rfl ⟨by decide, by decide⟩) (rC_X4 (Nat.le_trans (by decide) hN) cx hp) rfl rfl (Nat.le_of_ble_eq_true rfl) dX12_restore_33 ⟨by decide, by decide⟩) (fun u_c H locs hq hp => ?_)
    obtain rfl := hq
    refine lv_aload_n hx hb dX12_restore_36 rfl (lv_at hl 0 rfl) ?_
    refine gF_X12_99 rfl hN cx hp dX12_restore_37 ?_
    refine gF_X12_148 (by decide) rfl (Nat.le_trans (by decide) hN) cx hp dX12_restore_40 ?_
    cases hf
    refine vx_ret ?_
    refine W.widen (k := 1) (n := 6) (by decide) (by decide) ?_
    exact r_i cx hp rfl dX12_restore_43
  · have hf := fp hf c1
    cases hf
    exact t_SW (k := 0) hlf hT cx hp hl.1 hxt xw_0 (cx.2.2.1.2.2.2.1 21 _ rfl) rfl dX12_restore_7 dX12_restore_10 dX12_restore_11 dX12_restore_14 dX12_restore_17 ⟨by decide, Nat.le_of_ble_eq_true rfl, by decide, by decide⟩ (by decide) (by decide)

theorem df_X1 : ∀ j, j < 5 → defaultValue (tyX1 j) = vp_V [.null, .null, .null, .null, .int 0] j := by
  intro j hj
  match j, hj with
  | 0, _ => rfl
  | 1, _ => rfl
  | 2, _ => rfl
  | 3, _ => rfl
  | 4, _ => rfl
  | n + 5, h => exact absurd h (by omega)
theorem df_X2 : ∀ j, j < 2 → defaultValue (tyX2 j) = vp_V [.null, .int 0] j := by
  intro j hj
  match j, hj with
  | 0, _ => rfl
  | 1, _ => rfl
  | n + 2, h => exact absurd h (by omega)
theorem df_X4 : ∀ j, j < 3 → defaultValue (tyX4 j) = vp_V [.null, .int 0, .int 0] j := by
  intro j hj
  match j, hj with
  | 0, _ => rfl
  | 1, _ => rfl
  | 2, _ => rfl
  | n + 3, h => exact absurd h (by omega)
theorem df_X5 : ∀ j, j < 18 → defaultValue (tyX5 j) = vp_V [.int 0, .int 0, .int 0, .int 0, .int 0, .int 0, .int 0, .int 0, .int 0, .null, .null, .null, .null, .null, .null, .null, .null, .null] j := by
  intro j hj
  match j, hj with
  | 0, _ => rfl
  | 1, _ => rfl
  | 2, _ => rfl
  | 3, _ => rfl
  | 4, _ => rfl
  | 5, _ => rfl
  | 6, _ => rfl
  | 7, _ => rfl
  | 8, _ => rfl
  | 9, _ => rfl
  | 10, _ => rfl
  | 11, _ => rfl
  | 12, _ => rfl
  | 13, _ => rfl
  | 14, _ => rfl
  | 15, _ => rfl
  | 16, _ => rfl
  | 17, _ => rfl
  | n + 18, h => exact absurd h (by omega)
theorem df_X6 : ∀ j, j < 3 → defaultValue (tyX6 j) = vp_V [.null, .int 0, .int 0] j := by
  intro j hj
  match j, hj with
  | 0, _ => rfl
  | 1, _ => rfl
  | 2, _ => rfl
  | n + 3, h => exact absurd h (by omega)
theorem df_X7 : ∀ j, j < 3 → defaultValue (tyX7 j) = vp_V [.null, .int 0, .int 0] j := by
  intro j hj
  match j, hj with
  | 0, _ => rfl
  | 1, _ => rfl
  | 2, _ => rfl
  | n + 3, h => exact absurd h (by omega)
theorem df_X8 : ∀ j, j < 4 → defaultValue (tyX8 j) = vp_V [.null, .null, .null, .int 0] j := by
  intro j hj
  match j, hj with
  | 0, _ => rfl
  | 1, _ => rfl
  | 2, _ => rfl
  | 3, _ => rfl
  | n + 4, h => exact absurd h (by omega)
theorem df_X10 : ∀ j, j < 6 → defaultValue (tyX10 j) = vp_V [.null, .int 0, .int 0, .int 0, .int 0, .long 0] j := by
  intro j hj
  match j, hj with
  | 0, _ => rfl
  | 1, _ => rfl
  | 2, _ => rfl
  | 3, _ => rfl
  | 4, _ => rfl
  | 5, _ => rfl
  | n + 6, h => exact absurd h (by omega)
theorem df_X12 : ∀ j, j < 10 → defaultValue (tyX12 j) = vp_V [.null, .null, .null, .null, .null, .null, .int 0, .null, .null, .null] j := by
  intro j hj
  match j, hj with
  | 0, _ => rfl
  | 1, _ => rfl
  | 2, _ => rfl
  | 3, _ => rfl
  | 4, _ => rfl
  | 5, _ => rfl
  | 6, _ => rfl
  | 7, _ => rfl
  | 8, _ => rfl
  | 9, _ => rfl
  | n + 10, h => exact absurd h (by omega)
theorem df_X13 : ∀ j, j < 18 → defaultValue (tyX13 j) = vp_V [.null, .null, .null, .null, .null, .null, .null, .null, .null, .null, .null, .null, .int 0, .int 0, .int 0, .int 0, .int 0, .int 0] j := by
  intro j hj
  match j, hj with
  | 0, _ => rfl
  | 1, _ => rfl
  | 2, _ => rfl
  | 3, _ => rfl
  | 4, _ => rfl
  | 5, _ => rfl
  | 6, _ => rfl
  | 7, _ => rfl
  | 8, _ => rfl
  | 9, _ => rfl
  | 10, _ => rfl
  | 11, _ => rfl
  | 12, _ => rfl
  | 13, _ => rfl
  | 14, _ => rfl
  | 15, _ => rfl
  | 16, _ => rfl
  | 17, _ => rfl
  | n + 18, h => exact absurd h (by omega)
def sB (E : Ev) (h : Nat) (a : Nat → Nat) : va_W := [(h, .inr (1, [.ref (a 1), .int 0])), (a 1, aI E 700 (fun _ => 0))]
def sM (E : Ev) (h : Nat) (a : Nat → Nat) : va_W := [(h, .inr (3, [.int 0, .int 0, .int 0, .int 0, .int 0, .int 0, .int 0, .int 0, .int 0, .ref (a 1), .ref (a 2), .ref (a 3), .ref (a 4), .ref (a 5), .ref (a 6), .ref (a 7), .ref (a 8), .ref (a 9)])), (a 1, aJ E 8 (fun _ => 0)), (a 2, aI E 8 (fun _ => 0)), (a 3, aI E 8 (fun _ => 0)), (a 4, aI E 8 (fun _ => 0)), (a 5, aI E 8 (fun _ => 0)), (a 6, aI E 8 (fun _ => 0)), (a 7, aI E 64 (fun _ => 0)), (a 8, aJ E 8 (fun _ => 0)), (a 9, aI E 8 (fun _ => 0))]
def sS (E : Ev) (h : Nat) (a : Nat → Nat) : va_W := [(h, .inr (6, [.ref (a 1), .ref (a 2), .ref (a 3), .int 0])), (a 1, .inl (eC E 3, 20, .inr (.inr (.inr (.inr (fun _ => none)))))), (a 2, aI E 20 (fun _ => 0)), (a 3, aI E 20 (fun _ => 0))]
def sA (E : Ev) (h : Nat) (a : Nat → Nat) : va_W := [(h, .inr (0, [.ref (a 1), .ref (a 2), .ref (a 3), .ref (a 4), .int 0])), (a 1, aI E 8 (fun _ => 0)), (a 2, aZ E 8 (fun _ => 0)), (a 3, aZ E 8 (fun _ => 0)), (a 4, aI E 8 (fun _ => 0))]
def sG (E : Ev) (h : Nat) (a : Nat → Nat) : va_W := [(h, .inr (4, [.ref (a 1), .int 0, .int 0])), (a 1, aI E 256 (fun _ => 0))]
def sT (E : Ev) (h : Nat) (a : Nat → Nat) : va_W := [(h, .inr (7, [.ref (a 1), .int 0, .int 0, .int 0, .int 0, .long 0])), (a 1, .inr (1, [.ref (a 2), .int 0])), (a 2, aI E 700 (fun _ => 0))]
def sP (E : Ev) (h : Nat) (a : Nat → Nat) : va_W := [(h, .inr (5, [.ref (a 1), .int 0, .int (-1)])), (a 1, .inr (7, [.ref (a 2), .int 0, .int 0, .int 0, .int 0, .long 0])), (a 2, .inr (1, [.ref (a 3), .int 0])), (a 3, aI E 700 (fun _ => 0))]
def sH (E : Ev) (h : Nat) (a : Nat → Nat → Nat) : va_W := (h, .inr (2, [.ref (a 8 1), .int 0, .int 0])) :: (a 8 1, .inl (eC E 4, 8, .inr (.inr (.inr (.inr (fun j => some (a j 0))))))) :: (sM E (a 0 0) (a 0) ++ sM E (a 1 0) (a 1) ++ sM E (a 2 0) (a 2) ++ sM E (a 3 0) (a 3) ++ sM E (a 4 0) (a 4) ++ sM E (a 5 0) (a 5) ++ sM E (a 6 0) (a 6) ++ sM E (a 7 0) (a 7))
abbrev rm_X2_init : Room := { frames := 1, cells := 1, slots := 700, locals := 20 }
set_option maxRecDepth 100000 in
set_option maxHeartbeats 4000000 in
theorem c_X2_init (l : Launch) {E : Ev} (L : va_W) (h : Nat) : Met l yX2_init (wC yX2_init cX2_init 1 none) rm_X2_init (va_Pc [.ref h] (Wul E (L ++ [(h, .inr (1, [.null, .int 0]))]))) (va_Qv (fun (_ : Nat → Nat) => True) (fun (a : Nat → Nat) t => Wul E (L ++ sB E h a) t) (eA E)) 1 700 (eA E) := by
  refine gI_entry (lv := [(0, .ref h)]) (by decide) (Nat.le_of_ble_eq_true rfl) rfl ?_
  intro p e s m below meth c cx hnm hp ls hl
  have hx := cx.1.1
  have hb := cx.1.2.1
  refine lv_aload_n hx hb dX2_init_0 rfl (lv_at hl 0 rfl) ?_
  refine oiJ cx qM_X2_3 hl.1 dX2_init_1 (by decide) (by decide) ?_
  refine lv_aload_n hx hb dX2_init_4 rfl (lv_at hl 0 rfl) ?_
  refine lv_sipush (v := 700) hx hb dX2_init_5 (by decide) ?_
  refine hl_newa cx hp (atype := .int) (ty := .int) rfl 0 rfl qR_46 ((700, .inl (fun _ => 0))) (fun _ => rfl) (N' := 700) (by decide) (by decide) (by decide) (by decide) (by decide) dX2_init_8 (fun q1 H hp => ?_)
  have hp : Hl E (L ++ ((h, .inr (1, [.null, .int 0])) :: [(q1, aI E 700 (fun _ => 0))])) s _ _ := hp.assoc
  refine hl_putF cx hnm hp 0 (C := RX2) (T := TX2) (N := 2) (ci := 1) rfl rfl inB_X2 tyX2 tyX2_ok nmX2 0 (by decide) qF_X2_9 rfl rfl rfl (ty := .array .int) (v := .ref q1) (by decide +kernel) rfl rfl (Nat.le_of_ble_eq_true rfl) dX2_init_10 (fun H locs hp => ?_)
  have hp : Hl E (L ++ ((h, .inr (1, [.ref q1, .int 0])) :: [(q1, aI E 700 (fun _ => 0))])) s _ _ := hp
  refine lv_aload_n hx hb dX2_init_13 rfl (lv_at hl 0 rfl) ?_
  refine lv_iconst (v := 0) hx hb dX2_init_14 (by decide) ?_
  refine hl_put cx hp 0 (C := RX2) (T := TX2) (N := 2) (ci := 1) rfl rfl inB_X2 tyX2 tyX2_ok nmX2 1 (by decide) qF_X2_15 rfl rfl (ty := .int) (v := .int 0) (by decide +kernel) rfl rfl (Nat.le_of_ble_eq_true rfl) dX2_init_15 (fun H locs hp => ?_)
  have hp : Hl E (L ++ ((h, .inr (1, [.ref q1, .int 0])) :: [(q1, aI E 700 (fun _ => 0))])) s _ _ := hp
  refine W.widen (k := 1) (n := 700) (by decide) (by decide) ?_
  exact rI cx hp (u := fun k => ([0, q1] : List Nat).getD k 0) trivial (fun t ht => ht) dX2_init_18
abbrev rm_X5_init : Room := { frames := 1, cells := 9, slots := 128, locals := 20 }
set_option maxRecDepth 100000 in
set_option maxHeartbeats 4000000 in
theorem c_X5_init (l : Launch) {E : Ev} (L : va_W) (h : Nat) : Met l yX5_init (wC yX5_init cX5_init 1 none) rm_X5_init (va_Pc [.ref h] (Wul E (L ++ [(h, .inr (3, [.int 0, .int 0, .int 0, .int 0, .int 0, .int 0, .int 0, .int 0, .int 0, .null, .null, .null, .null, .null, .null, .null, .null, .null]))]))) (va_Qv (fun (_ : Nat → Nat) => True) (fun (a : Nat → Nat) t => Wul E (L ++ sM E h a) t) (eA E)) 9 128 (eA E) := by
  refine gI_entry (lv := [(0, .ref h)]) (by decide) (Nat.le_of_ble_eq_true rfl) rfl ?_
  intro p e s m below meth c cx hnm hp ls hl
  have hx := cx.1.1
  have hb := cx.1.2.1
  refine lv_aload_n hx hb dX5_init_0 rfl (lv_at hl 0 rfl) ?_
  refine oiJ cx qM_X5_3 hl.1 dX5_init_1 (by decide) (by decide) ?_
  refine lv_aload_n hx hb dX5_init_4 rfl (lv_at hl 0 rfl) ?_
  refine lv_iconst (v := 0) hx hb dX5_init_5 (by decide) ?_
  refine hl_put cx hp 0 (C := RX5) (T := TX5) (N := 18) (ci := 3) rfl rfl inB_X5 tyX5 tyX5_ok nmX5 0 (by decide) qF_X5_9 rfl rfl (ty := .int) (v := .int 0) (by decide +kernel) rfl rfl (Nat.le_of_ble_eq_true rfl) dX5_init_6 (fun H locs hp => ?_)
  have hp : Hl E (L ++ ((h, .inr (3, [.int 0, .int 0, .int 0, .int 0, .int 0, .int 0, .int 0, .int 0, .int 0, .null, .null, .null, .null, .null, .null, .null, .null, .null])) :: [])) s _ _ := hp
  refine lv_aload_n hx hb dX5_init_9 rfl (lv_at hl 0 rfl) ?_
  refine lv_iconst (v := 0) hx hb dX5_init_10 (by decide) ?_
  refine hl_put cx hp 0 (C := RX5) (T := TX5) (N := 18) (ci := 3) rfl rfl inB_X5 tyX5 tyX5_ok nmX5 1 (by decide) qF_X5_15 rfl rfl (ty := .int) (v := .int 0) (by decide +kernel) rfl rfl (Nat.le_of_ble_eq_true rfl) dX5_init_11 (fun H locs hp => ?_)
  have hp : Hl E (L ++ ((h, .inr (3, [.int 0, .int 0, .int 0, .int 0, .int 0, .int 0, .int 0, .int 0, .int 0, .null, .null, .null, .null, .null, .null, .null, .null, .null])) :: [])) s _ _ := hp
  refine lv_aload_n hx hb dX5_init_14 rfl (lv_at hl 0 rfl) ?_
  refine lv_iconst (v := 0) hx hb dX5_init_15 (by decide) ?_
  refine hl_put cx hp 0 (C := RX5) (T := TX5) (N := 18) (ci := 3) rfl rfl inB_X5 tyX5 tyX5_ok nmX5 2 (by decide) qF_X5_18 rfl rfl (ty := .int) (v := .int 0) (by decide +kernel) rfl rfl (Nat.le_of_ble_eq_true rfl) dX5_init_16 (fun H locs hp => ?_)
  have hp : Hl E (L ++ ((h, .inr (3, [.int 0, .int 0, .int 0, .int 0, .int 0, .int 0, .int 0, .int 0, .int 0, .null, .null, .null, .null, .null, .null, .null, .null, .null])) :: [])) s _ _ := hp
  refine lv_aload_n hx hb dX5_init_19 rfl (lv_at hl 0 rfl) ?_
  refine lv_iconst (v := 0) hx hb dX5_init_20 (by decide) ?_
  refine hl_put cx hp 0 (C := RX5) (T := TX5) (N := 18) (ci := 3) rfl rfl inB_X5 tyX5 tyX5_ok nmX5 3 (by decide) qF_X5_21 rfl rfl (ty := .int) (v := .int 0) (by decide +kernel) rfl rfl (Nat.le_of_ble_eq_true rfl) dX5_init_21 (fun H locs hp => ?_)
  have hp : Hl E (L ++ ((h, .inr (3, [.int 0, .int 0, .int 0, .int 0, .int 0, .int 0, .int 0, .int 0, .int 0, .null, .null, .null, .null, .null, .null, .null, .null, .null])) :: [])) s _ _ := hp
  refine lv_aload_n hx hb dX5_init_24 rfl (lv_at hl 0 rfl) ?_
  refine lv_iconst (v := 0) hx hb dX5_init_25 (by decide) ?_
  refine hl_put cx hp 0 (C := RX5) (T := TX5) (N := 18) (ci := 3) rfl rfl inB_X5 tyX5 tyX5_ok nmX5 4 (by decide) qF_X5_24 rfl rfl (ty := .int) (v := .int 0) (by decide +kernel) rfl rfl (Nat.le_of_ble_eq_true rfl) dX5_init_26 (fun H locs hp => ?_)
  have hp : Hl E (L ++ ((h, .inr (3, [.int 0, .int 0, .int 0, .int 0, .int 0, .int 0, .int 0, .int 0, .int 0, .null, .null, .null, .null, .null, .null, .null, .null, .null])) :: [])) s _ _ := hp
  refine lv_aload_n hx hb dX5_init_29 rfl (lv_at hl 0 rfl) ?_
  refine lv_iconst (v := 0) hx hb dX5_init_30 (by decide) ?_
  refine hl_put cx hp 0 (C := RX5) (T := TX5) (N := 18) (ci := 3) rfl rfl inB_X5 tyX5 tyX5_ok nmX5 5 (by decide) qF_X5_27 rfl rfl (ty := .int) (v := .int 0) (by decide +kernel) rfl rfl (Nat.le_of_ble_eq_true rfl) dX5_init_31 (fun H locs hp => ?_)
  have hp : Hl E (L ++ ((h, .inr (3, [.int 0, .int 0, .int 0, .int 0, .int 0, .int 0, .int 0, .int 0, .int 0, .null, .null, .null, .null, .null, .null, .null, .null, .null])) :: [])) s _ _ := hp
  refine lv_aload_n hx hb dX5_init_34 rfl (lv_at hl 0 rfl) ?_
  refine lv_iconst (v := 0) hx hb dX5_init_35 (by decide) ?_
  refine hl_put cx hp 0 (C := RX5) (T := TX5) (N := 18) (ci := 3) rfl rfl inB_X5 tyX5 tyX5_ok nmX5 6 (by decide) qF_X5_30 rfl rfl (ty := .int) (v := .int 0) (by decide +kernel) rfl rfl (Nat.le_of_ble_eq_true rfl) dX5_init_36 (fun H locs hp => ?_)
  have hp : Hl E (L ++ ((h, .inr (3, [.int 0, .int 0, .int 0, .int 0, .int 0, .int 0, .int 0, .int 0, .int 0, .null, .null, .null, .null, .null, .null, .null, .null, .null])) :: [])) s _ _ := hp
  refine lv_aload_n hx hb dX5_init_39 rfl (lv_at hl 0 rfl) ?_
  refine lv_iconst (v := 0) hx hb dX5_init_40 (by decide) ?_
  refine hl_put cx hp 0 (C := RX5) (T := TX5) (N := 18) (ci := 3) rfl rfl inB_X5 tyX5 tyX5_ok nmX5 7 (by decide) qF_X5_33 rfl rfl (ty := .int) (v := .int 0) (by decide +kernel) rfl rfl (Nat.le_of_ble_eq_true rfl) dX5_init_41 (fun H locs hp => ?_)
  have hp : Hl E (L ++ ((h, .inr (3, [.int 0, .int 0, .int 0, .int 0, .int 0, .int 0, .int 0, .int 0, .int 0, .null, .null, .null, .null, .null, .null, .null, .null, .null])) :: [])) s _ _ := hp
  refine lv_aload_n hx hb dX5_init_44 rfl (lv_at hl 0 rfl) ?_
  refine lv_iconst (v := 0) hx hb dX5_init_45 (by decide) ?_
  refine hl_put cx hp 0 (C := RX5) (T := TX5) (N := 18) (ci := 3) rfl rfl inB_X5 tyX5 tyX5_ok nmX5 8 (by decide) qF_X5_36 rfl rfl (ty := .int) (v := .int 0) (by decide +kernel) rfl rfl (Nat.le_of_ble_eq_true rfl) dX5_init_46 (fun H locs hp => ?_)
  have hp : Hl E (L ++ ((h, .inr (3, [.int 0, .int 0, .int 0, .int 0, .int 0, .int 0, .int 0, .int 0, .int 0, .null, .null, .null, .null, .null, .null, .null, .null, .null])) :: [])) s _ _ := hp
  refine lv_aload_n hx hb dX5_init_49 rfl (lv_at hl 0 rfl) ?_
  refine lv_bipush (v := 8) hx hb dX5_init_50 (by decide) ?_
  refine hl_newa cx hp (atype := .long) (ty := .long) rfl 1 rfl qR_140 ((8, .inr (.inl (fun _ => 0)))) (fun _ => rfl) (N' := 8) (by decide) (by decide) (by decide) (by decide) (by decide) dX5_init_52 (fun q1 H hp => ?_)
  have hp : Hl E (L ++ ((h, .inr (3, [.int 0, .int 0, .int 0, .int 0, .int 0, .int 0, .int 0, .int 0, .int 0, .null, .null, .null, .null, .null, .null, .null, .null, .null])) :: [(q1, aJ E 8 (fun _ => 0))])) s _ _ := hp.assoc
  refine hl_putF cx hnm hp 0 (C := RX5) (T := TX5) (N := 18) (ci := 3) rfl rfl inB_X5 tyX5 tyX5_ok nmX5 9 (by decide) qF_X5_39 rfl rfl rfl (ty := .array .long) (v := .ref q1) (by decide +kernel) rfl rfl (Nat.le_of_ble_eq_true rfl) dX5_init_54 (fun H locs hp => ?_)
  have hp : Hl E (L ++ ((h, .inr (3, [.int 0, .int 0, .int 0, .int 0, .int 0, .int 0, .int 0, .int 0, .int 0, .ref q1, .null, .null, .null, .null, .null, .null, .null, .null])) :: [(q1, aJ E 8 (fun _ => 0))])) s _ _ := hp
  refine lv_aload_n hx hb dX5_init_57 rfl (lv_at hl 0 rfl) ?_
  refine lv_bipush (v := 8) hx hb dX5_init_58 (by decide) ?_
  refine hl_newa cx hp (atype := .int) (ty := .int) rfl 0 rfl qR_46 ((8, .inl (fun _ => 0))) (fun _ => rfl) (N' := 8) (by decide) (by decide) (by decide) (by decide) (by decide) dX5_init_60 (fun q2 H hp => ?_)
  have hp : Hl E (L ++ ((h, .inr (3, [.int 0, .int 0, .int 0, .int 0, .int 0, .int 0, .int 0, .int 0, .int 0, .ref q1, .null, .null, .null, .null, .null, .null, .null, .null])) :: [(q1, aJ E 8 (fun _ => 0)), (q2, aI E 8 (fun _ => 0))])) s _ _ := hp.assoc
  refine hl_putF cx hnm hp 0 (C := RX5) (T := TX5) (N := 18) (ci := 3) rfl rfl inB_X5 tyX5 tyX5_ok nmX5 10 (by decide) qF_X5_43 rfl rfl rfl (ty := .array .int) (v := .ref q2) (by decide +kernel) rfl rfl (Nat.le_of_ble_eq_true rfl) dX5_init_62 (fun H locs hp => ?_)
  have hp : Hl E (L ++ ((h, .inr (3, [.int 0, .int 0, .int 0, .int 0, .int 0, .int 0, .int 0, .int 0, .int 0, .ref q1, .ref q2, .null, .null, .null, .null, .null, .null, .null])) :: [(q1, aJ E 8 (fun _ => 0)), (q2, aI E 8 (fun _ => 0))])) s _ _ := hp
  refine lv_aload_n hx hb dX5_init_65 rfl (lv_at hl 0 rfl) ?_
  refine lv_bipush (v := 8) hx hb dX5_init_66 (by decide) ?_
  refine hl_newa cx hp (atype := .int) (ty := .int) rfl 0 rfl qR_46 ((8, .inl (fun _ => 0))) (fun _ => rfl) (N' := 8) (by decide) (by decide) (by decide) (by decide) (by decide) dX5_init_68 (fun q3 H hp => ?_)
  have hp : Hl E (L ++ ((h, .inr (3, [.int 0, .int 0, .int 0, .int 0, .int 0, .int 0, .int 0, .int 0, .int 0, .ref q1, .ref q2, .null, .null, .null, .null, .null, .null, .null])) :: [(q1, aJ E 8 (fun _ => 0)), (q2, aI E 8 (fun _ => 0)), (q3, aI E 8 (fun _ => 0))])) s _ _ := hp.assoc
  refine hl_putF cx hnm hp 0 (C := RX5) (T := TX5) (N := 18) (ci := 3) rfl rfl inB_X5 tyX5 tyX5_ok nmX5 11 (by decide) qF_X5_47 rfl rfl rfl (ty := .array .int) (v := .ref q3) (by decide +kernel) rfl rfl (Nat.le_of_ble_eq_true rfl) dX5_init_70 (fun H locs hp => ?_)
  have hp : Hl E (L ++ ((h, .inr (3, [.int 0, .int 0, .int 0, .int 0, .int 0, .int 0, .int 0, .int 0, .int 0, .ref q1, .ref q2, .ref q3, .null, .null, .null, .null, .null, .null])) :: [(q1, aJ E 8 (fun _ => 0)), (q2, aI E 8 (fun _ => 0)), (q3, aI E 8 (fun _ => 0))])) s _ _ := hp
  refine lv_aload_n hx hb dX5_init_73 rfl (lv_at hl 0 rfl) ?_
  refine lv_bipush (v := 8) hx hb dX5_init_74 (by decide) ?_
  refine hl_newa cx hp (atype := .int) (ty := .int) rfl 0 rfl qR_46 ((8, .inl (fun _ => 0))) (fun _ => rfl) (N' := 8) (by decide) (by decide) (by decide) (by decide) (by decide) dX5_init_76 (fun q4 H hp => ?_)
  have hp : Hl E (L ++ ((h, .inr (3, [.int 0, .int 0, .int 0, .int 0, .int 0, .int 0, .int 0, .int 0, .int 0, .ref q1, .ref q2, .ref q3, .null, .null, .null, .null, .null, .null])) :: [(q1, aJ E 8 (fun _ => 0)), (q2, aI E 8 (fun _ => 0)), (q3, aI E 8 (fun _ => 0)), (q4, aI E 8 (fun _ => 0))])) s _ _ := hp.assoc
  refine hl_putF cx hnm hp 0 (C := RX5) (T := TX5) (N := 18) (ci := 3) rfl rfl inB_X5 tyX5 tyX5_ok nmX5 12 (by decide) qF_X5_50 rfl rfl rfl (ty := .array .int) (v := .ref q4) (by decide +kernel) rfl rfl (Nat.le_of_ble_eq_true rfl) dX5_init_78 (fun H locs hp => ?_)
  have hp : Hl E (L ++ ((h, .inr (3, [.int 0, .int 0, .int 0, .int 0, .int 0, .int 0, .int 0, .int 0, .int 0, .ref q1, .ref q2, .ref q3, .ref q4, .null, .null, .null, .null, .null])) :: [(q1, aJ E 8 (fun _ => 0)), (q2, aI E 8 (fun _ => 0)), (q3, aI E 8 (fun _ => 0)), (q4, aI E 8 (fun _ => 0))])) s _ _ := hp
  refine lv_aload_n hx hb dX5_init_81 rfl (lv_at hl 0 rfl) ?_
  refine lv_bipush (v := 8) hx hb dX5_init_82 (by decide) ?_
  refine hl_newa cx hp (atype := .int) (ty := .int) rfl 0 rfl qR_46 ((8, .inl (fun _ => 0))) (fun _ => rfl) (N' := 8) (by decide) (by decide) (by decide) (by decide) (by decide) dX5_init_84 (fun q5 H hp => ?_)
  have hp : Hl E (L ++ ((h, .inr (3, [.int 0, .int 0, .int 0, .int 0, .int 0, .int 0, .int 0, .int 0, .int 0, .ref q1, .ref q2, .ref q3, .ref q4, .null, .null, .null, .null, .null])) :: [(q1, aJ E 8 (fun _ => 0)), (q2, aI E 8 (fun _ => 0)), (q3, aI E 8 (fun _ => 0)), (q4, aI E 8 (fun _ => 0)), (q5, aI E 8 (fun _ => 0))])) s _ _ := hp.assoc
  refine hl_putF cx hnm hp 0 (C := RX5) (T := TX5) (N := 18) (ci := 3) rfl rfl inB_X5 tyX5 tyX5_ok nmX5 13 (by decide) qF_X5_53 rfl rfl rfl (ty := .array .int) (v := .ref q5) (by decide +kernel) rfl rfl (Nat.le_of_ble_eq_true rfl) dX5_init_86 (fun H locs hp => ?_)
  have hp : Hl E (L ++ ((h, .inr (3, [.int 0, .int 0, .int 0, .int 0, .int 0, .int 0, .int 0, .int 0, .int 0, .ref q1, .ref q2, .ref q3, .ref q4, .ref q5, .null, .null, .null, .null])) :: [(q1, aJ E 8 (fun _ => 0)), (q2, aI E 8 (fun _ => 0)), (q3, aI E 8 (fun _ => 0)), (q4, aI E 8 (fun _ => 0)), (q5, aI E 8 (fun _ => 0))])) s _ _ := hp
  refine lv_aload_n hx hb dX5_init_89 rfl (lv_at hl 0 rfl) ?_
  refine lv_bipush (v := 8) hx hb dX5_init_90 (by decide) ?_
  refine hl_newa cx hp (atype := .int) (ty := .int) rfl 0 rfl qR_46 ((8, .inl (fun _ => 0))) (fun _ => rfl) (N' := 8) (by decide) (by decide) (by decide) (by decide) (by decide) dX5_init_92 (fun q6 H hp => ?_)
  have hp : Hl E (L ++ ((h, .inr (3, [.int 0, .int 0, .int 0, .int 0, .int 0, .int 0, .int 0, .int 0, .int 0, .ref q1, .ref q2, .ref q3, .ref q4, .ref q5, .null, .null, .null, .null])) :: [(q1, aJ E 8 (fun _ => 0)), (q2, aI E 8 (fun _ => 0)), (q3, aI E 8 (fun _ => 0)), (q4, aI E 8 (fun _ => 0)), (q5, aI E 8 (fun _ => 0)), (q6, aI E 8 (fun _ => 0))])) s _ _ := hp.assoc
  refine hl_putF cx hnm hp 0 (C := RX5) (T := TX5) (N := 18) (ci := 3) rfl rfl inB_X5 tyX5 tyX5_ok nmX5 14 (by decide) qF_X5_56 rfl rfl rfl (ty := .array .int) (v := .ref q6) (by decide +kernel) rfl rfl (Nat.le_of_ble_eq_true rfl) dX5_init_94 (fun H locs hp => ?_)
  have hp : Hl E (L ++ ((h, .inr (3, [.int 0, .int 0, .int 0, .int 0, .int 0, .int 0, .int 0, .int 0, .int 0, .ref q1, .ref q2, .ref q3, .ref q4, .ref q5, .ref q6, .null, .null, .null])) :: [(q1, aJ E 8 (fun _ => 0)), (q2, aI E 8 (fun _ => 0)), (q3, aI E 8 (fun _ => 0)), (q4, aI E 8 (fun _ => 0)), (q5, aI E 8 (fun _ => 0)), (q6, aI E 8 (fun _ => 0))])) s _ _ := hp
  refine lv_aload_n hx hb dX5_init_97 rfl (lv_at hl 0 rfl) ?_
  refine lv_bipush (v := 64) hx hb dX5_init_98 (by decide) ?_
  refine hl_newa cx hp (atype := .int) (ty := .int) rfl 0 rfl qR_46 ((64, .inl (fun _ => 0))) (fun _ => rfl) (N' := 64) (by decide) (by decide) (by decide) (by decide) (by decide) dX5_init_100 (fun q7 H hp => ?_)
  have hp : Hl E (L ++ ((h, .inr (3, [.int 0, .int 0, .int 0, .int 0, .int 0, .int 0, .int 0, .int 0, .int 0, .ref q1, .ref q2, .ref q3, .ref q4, .ref q5, .ref q6, .null, .null, .null])) :: [(q1, aJ E 8 (fun _ => 0)), (q2, aI E 8 (fun _ => 0)), (q3, aI E 8 (fun _ => 0)), (q4, aI E 8 (fun _ => 0)), (q5, aI E 8 (fun _ => 0)), (q6, aI E 8 (fun _ => 0)), (q7, aI E 64 (fun _ => 0))])) s _ _ := hp.assoc
  refine hl_putF cx hnm hp 0 (C := RX5) (T := TX5) (N := 18) (ci := 3) rfl rfl inB_X5 tyX5 tyX5_ok nmX5 15 (by decide) qF_X5_59 rfl rfl rfl (ty := .array .int) (v := .ref q7) (by decide +kernel) rfl rfl (Nat.le_of_ble_eq_true rfl) dX5_init_102 (fun H locs hp => ?_)
  have hp : Hl E (L ++ ((h, .inr (3, [.int 0, .int 0, .int 0, .int 0, .int 0, .int 0, .int 0, .int 0, .int 0, .ref q1, .ref q2, .ref q3, .ref q4, .ref q5, .ref q6, .ref q7, .null, .null])) :: [(q1, aJ E 8 (fun _ => 0)), (q2, aI E 8 (fun _ => 0)), (q3, aI E 8 (fun _ => 0)), (q4, aI E 8 (fun _ => 0)), (q5, aI E 8 (fun _ => 0)), (q6, aI E 8 (fun _ => 0)), (q7, aI E 64 (fun _ => 0))])) s _ _ := hp
  refine lv_aload_n hx hb dX5_init_105 rfl (lv_at hl 0 rfl) ?_
  refine lv_bipush (v := 8) hx hb dX5_init_106 (by decide) ?_
  refine hl_newa cx hp (atype := .long) (ty := .long) rfl 1 rfl qR_140 ((8, .inr (.inl (fun _ => 0)))) (fun _ => rfl) (N' := 8) (by decide) (by decide) (by decide) (by decide) (by decide) dX5_init_108 (fun q8 H hp => ?_)
  have hp : Hl E (L ++ ((h, .inr (3, [.int 0, .int 0, .int 0, .int 0, .int 0, .int 0, .int 0, .int 0, .int 0, .ref q1, .ref q2, .ref q3, .ref q4, .ref q5, .ref q6, .ref q7, .null, .null])) :: [(q1, aJ E 8 (fun _ => 0)), (q2, aI E 8 (fun _ => 0)), (q3, aI E 8 (fun _ => 0)), (q4, aI E 8 (fun _ => 0)), (q5, aI E 8 (fun _ => 0)), (q6, aI E 8 (fun _ => 0)), (q7, aI E 64 (fun _ => 0)), (q8, aJ E 8 (fun _ => 0))])) s _ _ := hp.assoc
  refine hl_putF cx hnm hp 0 (C := RX5) (T := TX5) (N := 18) (ci := 3) rfl rfl inB_X5 tyX5 tyX5_ok nmX5 16 (by decide) qF_X5_62 rfl rfl rfl (ty := .array .long) (v := .ref q8) (by decide +kernel) rfl rfl (Nat.le_of_ble_eq_true rfl) dX5_init_110 (fun H locs hp => ?_)
  have hp : Hl E (L ++ ((h, .inr (3, [.int 0, .int 0, .int 0, .int 0, .int 0, .int 0, .int 0, .int 0, .int 0, .ref q1, .ref q2, .ref q3, .ref q4, .ref q5, .ref q6, .ref q7, .ref q8, .null])) :: [(q1, aJ E 8 (fun _ => 0)), (q2, aI E 8 (fun _ => 0)), (q3, aI E 8 (fun _ => 0)), (q4, aI E 8 (fun _ => 0)), (q5, aI E 8 (fun _ => 0)), (q6, aI E 8 (fun _ => 0)), (q7, aI E 64 (fun _ => 0)), (q8, aJ E 8 (fun _ => 0))])) s _ _ := hp
  refine lv_aload_n hx hb dX5_init_113 rfl (lv_at hl 0 rfl) ?_
  refine lv_bipush (v := 8) hx hb dX5_init_114 (by decide) ?_
  refine hl_newa cx hp (atype := .int) (ty := .int) rfl 0 rfl qR_46 ((8, .inl (fun _ => 0))) (fun _ => rfl) (N' := 8) (by decide) (by decide) (by decide) (by decide) (by decide) dX5_init_116 (fun q9 H hp => ?_)
  have hp : Hl E (L ++ ((h, .inr (3, [.int 0, .int 0, .int 0, .int 0, .int 0, .int 0, .int 0, .int 0, .int 0, .ref q1, .ref q2, .ref q3, .ref q4, .ref q5, .ref q6, .ref q7, .ref q8, .null])) :: [(q1, aJ E 8 (fun _ => 0)), (q2, aI E 8 (fun _ => 0)), (q3, aI E 8 (fun _ => 0)), (q4, aI E 8 (fun _ => 0)), (q5, aI E 8 (fun _ => 0)), (q6, aI E 8 (fun _ => 0)), (q7, aI E 64 (fun _ => 0)), (q8, aJ E 8 (fun _ => 0)), (q9, aI E 8 (fun _ => 0))])) s _ _ := hp.assoc
  refine hl_putF cx hnm hp 0 (C := RX5) (T := TX5) (N := 18) (ci := 3) rfl rfl inB_X5 tyX5 tyX5_ok nmX5 17 (by decide) qF_X5_65 rfl rfl rfl (ty := .array .int) (v := .ref q9) (by decide +kernel) rfl rfl (Nat.le_of_ble_eq_true rfl) dX5_init_118 (fun H locs hp => ?_)
  have hp : Hl E (L ++ ((h, .inr (3, [.int 0, .int 0, .int 0, .int 0, .int 0, .int 0, .int 0, .int 0, .int 0, .ref q1, .ref q2, .ref q3, .ref q4, .ref q5, .ref q6, .ref q7, .ref q8, .ref q9])) :: [(q1, aJ E 8 (fun _ => 0)), (q2, aI E 8 (fun _ => 0)), (q3, aI E 8 (fun _ => 0)), (q4, aI E 8 (fun _ => 0)), (q5, aI E 8 (fun _ => 0)), (q6, aI E 8 (fun _ => 0)), (q7, aI E 64 (fun _ => 0)), (q8, aJ E 8 (fun _ => 0)), (q9, aI E 8 (fun _ => 0))])) s _ _ := hp
  refine W.widen (k := 9) (n := 128) (by decide) (by decide) ?_
  exact rI cx hp (u := fun k => ([0, q1, q2, q3, q4, q5, q6, q7, q8, q9] : List Nat).getD k 0) trivial (fun t ht => ht) dX5_init_121
abbrev rm_X8_init : Room := { frames := 1, cells := 3, slots := 60, locals := 20 }
set_option maxRecDepth 100000 in
set_option maxHeartbeats 4000000 in
theorem c_X8_init (l : Launch) {E : Ev} (hAO : AO E) (L : va_W) (h : Nat) : Met l yX8_init (wC yX8_init cX8_init 1 none) rm_X8_init (va_Pc [.ref h] (Wul E (L ++ [(h, .inr (6, [.null, .null, .null, .int 0]))]))) (va_Qv (fun (_ : Nat → Nat) => True) (fun (a : Nat → Nat) t => Wul E (L ++ sS E h a) t) (eA E)) 3 60 (eA E) := by
  refine gI_entry (lv := [(0, .ref h)]) (by decide) (Nat.le_of_ble_eq_true rfl) rfl ?_
  intro p e s m below meth c cx hnm hp ls hl
  have hx := cx.1.1
  have hb := cx.1.2.1
  refine lv_aload_n hx hb dX8_init_0 rfl (lv_at hl 0 rfl) ?_
  refine oiJ cx qM_X8_3 hl.1 dX8_init_1 (by decide) (by decide) ?_
  refine lv_aload_n hx hb dX8_init_4 rfl (lv_at hl 0 rfl) ?_
  refine lv_bipush (v := 20) hx hb dX8_init_5 (by decide) ?_
  refine hl_newq cx hp (C := RX11) qK_X8_9 (va_AO.moved cx.2.2.1.1 hAO.1) 3 rfl (N' := 20) (by decide) (by decide) (by decide) (by decide) (by decide) dX8_init_7 (fun q1 H hp => ?_)
  have hp : Hl E (L ++ ((h, .inr (6, [.null, .null, .null, .int 0])) :: [(q1, .inl (eC E 3, 20, .inr (.inr (.inr (.inr (fun _ => none))))))])) s _ _ := hp.assoc
  refine hl_putF cx hnm hp 0 (C := RX8) (T := TX8) (N := 4) (ci := 6) rfl rfl inB_X8 tyX8 tyX8_ok nmX8 0 (by decide) qF_X8_11 rfl rfl rfl (ty := .array (.object "StallMarket$Verb")) (v := .ref q1) (by decide +kernel) rfl rfl (Nat.le_of_ble_eq_true rfl) dX8_init_10 (fun H locs hp => ?_)
  have hp : Hl E (L ++ ((h, .inr (6, [.ref q1, .null, .null, .int 0])) :: [(q1, .inl (eC E 3, 20, .inr (.inr (.inr (.inr (fun _ => none))))))])) s _ _ := hp
  refine lv_aload_n hx hb dX8_init_13 rfl (lv_at hl 0 rfl) ?_
  refine lv_bipush (v := 20) hx hb dX8_init_14 (by decide) ?_
  refine hl_newa cx hp (atype := .int) (ty := .int) rfl 0 rfl qR_46 ((20, .inl (fun _ => 0))) (fun _ => rfl) (N' := 20) (by decide) (by decide) (by decide) (by decide) (by decide) dX8_init_16 (fun q2 H hp => ?_)
  have hp : Hl E (L ++ ((h, .inr (6, [.ref q1, .null, .null, .int 0])) :: [(q1, .inl (eC E 3, 20, .inr (.inr (.inr (.inr (fun _ => none)))))), (q2, aI E 20 (fun _ => 0))])) s _ _ := hp.assoc
  refine hl_putF cx hnm hp 0 (C := RX8) (T := TX8) (N := 4) (ci := 6) rfl rfl inB_X8 tyX8 tyX8_ok nmX8 1 (by decide) qF_X8_17 rfl rfl rfl (ty := .array .int) (v := .ref q2) (by decide +kernel) rfl rfl (Nat.le_of_ble_eq_true rfl) dX8_init_18 (fun H locs hp => ?_)
  have hp : Hl E (L ++ ((h, .inr (6, [.ref q1, .ref q2, .null, .int 0])) :: [(q1, .inl (eC E 3, 20, .inr (.inr (.inr (.inr (fun _ => none)))))), (q2, aI E 20 (fun _ => 0))])) s _ _ := hp
  refine lv_aload_n hx hb dX8_init_21 rfl (lv_at hl 0 rfl) ?_
  refine lv_bipush (v := 20) hx hb dX8_init_22 (by decide) ?_
  refine hl_newa cx hp (atype := .int) (ty := .int) rfl 0 rfl qR_46 ((20, .inl (fun _ => 0))) (fun _ => rfl) (N' := 20) (by decide) (by decide) (by decide) (by decide) (by decide) dX8_init_24 (fun q3 H hp => ?_)
  have hp : Hl E (L ++ ((h, .inr (6, [.ref q1, .ref q2, .null, .int 0])) :: [(q1, .inl (eC E 3, 20, .inr (.inr (.inr (.inr (fun _ => none)))))), (q2, aI E 20 (fun _ => 0)), (q3, aI E 20 (fun _ => 0))])) s _ _ := hp.assoc
  refine hl_putF cx hnm hp 0 (C := RX8) (T := TX8) (N := 4) (ci := 6) rfl rfl inB_X8 tyX8 tyX8_ok nmX8 2 (by decide) qF_X8_21 rfl rfl rfl (ty := .array .int) (v := .ref q3) (by decide +kernel) rfl rfl (Nat.le_of_ble_eq_true rfl) dX8_init_26 (fun H locs hp => ?_)
  have hp : Hl E (L ++ ((h, .inr (6, [.ref q1, .ref q2, .ref q3, .int 0])) :: [(q1, .inl (eC E 3, 20, .inr (.inr (.inr (.inr (fun _ => none)))))), (q2, aI E 20 (fun _ => 0)), (q3, aI E 20 (fun _ => 0))])) s _ _ := hp
  refine lv_aload_n hx hb dX8_init_29 rfl (lv_at hl 0 rfl) ?_
  refine lv_iconst (v := 0) hx hb dX8_init_30 (by decide) ?_
  refine hl_put cx hp 0 (C := RX8) (T := TX8) (N := 4) (ci := 6) rfl rfl inB_X8 tyX8 tyX8_ok nmX8 3 (by decide) qF_X8_24 rfl rfl (ty := .int) (v := .int 0) (by decide +kernel) rfl rfl (Nat.le_of_ble_eq_true rfl) dX8_init_31 (fun H locs hp => ?_)
  have hp : Hl E (L ++ ((h, .inr (6, [.ref q1, .ref q2, .ref q3, .int 0])) :: [(q1, .inl (eC E 3, 20, .inr (.inr (.inr (.inr (fun _ => none)))))), (q2, aI E 20 (fun _ => 0)), (q3, aI E 20 (fun _ => 0))])) s _ _ := hp
  refine W.widen (k := 3) (n := 60) (by decide) (by decide) ?_
  exact rI cx hp (u := fun k => ([0, q1, q2, q3] : List Nat).getD k 0) trivial (fun t ht => ht) dX8_init_34
abbrev rm_X1_init : Room := { frames := 1, cells := 4, slots := 32, locals := 20 }
set_option maxRecDepth 100000 in
set_option maxHeartbeats 4000000 in
theorem c_X1_init (l : Launch) {E : Ev} (L : va_W) (h : Nat) : Met l yX1_init (wC yX1_init cX1_init 1 none) rm_X1_init (va_Pc [.ref h] (Wul E (L ++ [(h, .inr (0, [.null, .null, .null, .null, .int 0]))]))) (va_Qv (fun (_ : Nat → Nat) => True) (fun (a : Nat → Nat) t => Wul E (L ++ sA E h a) t) (eA E)) 4 32 (eA E) := by
  refine gI_entry (lv := [(0, .ref h)]) (by decide) (Nat.le_of_ble_eq_true rfl) rfl ?_
  intro p e s m below meth c cx hnm hp ls hl
  have hx := cx.1.1
  have hb := cx.1.2.1
  refine lv_aload_n hx hb dX1_init_0 rfl (lv_at hl 0 rfl) ?_
  refine oiJ cx qM_X1_3 hl.1 dX1_init_1 (by decide) (by decide) ?_
  refine lv_aload_n hx hb dX1_init_4 rfl (lv_at hl 0 rfl) ?_
  refine lv_bipush (v := 8) hx hb dX1_init_5 (by decide) ?_
  refine hl_newa cx hp (atype := .int) (ty := .int) rfl 0 rfl qR_46 ((8, .inl (fun _ => 0))) (fun _ => rfl) (N' := 8) (by decide) (by decide) (by decide) (by decide) (by decide) dX1_init_7 (fun q1 H hp => ?_)
  have hp : Hl E (L ++ ((h, .inr (0, [.null, .null, .null, .null, .int 0])) :: [(q1, aI E 8 (fun _ => 0))])) s _ _ := hp.assoc
  refine hl_putF cx hnm hp 0 (C := RX1) (T := TX1) (N := 5) (ci := 0) rfl rfl inB_X1 tyX1 tyX1_ok nmX1 0 (by decide) qF_X1_9 rfl rfl rfl (ty := .array .int) (v := .ref q1) (by decide +kernel) rfl rfl (Nat.le_of_ble_eq_true rfl) dX1_init_9 (fun H locs hp => ?_)
  have hp : Hl E (L ++ ((h, .inr (0, [.ref q1, .null, .null, .null, .int 0])) :: [(q1, aI E 8 (fun _ => 0))])) s _ _ := hp
  refine lv_aload_n hx hb dX1_init_12 rfl (lv_at hl 0 rfl) ?_
  refine lv_bipush (v := 8) hx hb dX1_init_13 (by decide) ?_
  refine hl_newa cx hp (atype := .boolean) (ty := .boolean) rfl 2 rfl qR_182 ((8, .inl (fun _ => 0))) (fun _ => rfl) (N' := 8) (by decide) (by decide) (by decide) (by decide) (by decide) dX1_init_15 (fun q2 H hp => ?_)
  have hp : Hl E (L ++ ((h, .inr (0, [.ref q1, .null, .null, .null, .int 0])) :: [(q1, aI E 8 (fun _ => 0)), (q2, aZ E 8 (fun _ => 0))])) s _ _ := hp.assoc
  refine hl_putF cx hnm hp 0 (C := RX1) (T := TX1) (N := 5) (ci := 0) rfl rfl inB_X1 tyX1 tyX1_ok nmX1 1 (by decide) qF_X1_15 rfl rfl rfl (ty := .array .boolean) (v := .ref q2) (by decide +kernel) rfl rfl (Nat.le_of_ble_eq_true rfl) dX1_init_17 (fun H locs hp => ?_)
  have hp : Hl E (L ++ ((h, .inr (0, [.ref q1, .ref q2, .null, .null, .int 0])) :: [(q1, aI E 8 (fun _ => 0)), (q2, aZ E 8 (fun _ => 0))])) s _ _ := hp
  refine lv_aload_n hx hb dX1_init_20 rfl (lv_at hl 0 rfl) ?_
  refine lv_bipush (v := 8) hx hb dX1_init_21 (by decide) ?_
  refine hl_newa cx hp (atype := .boolean) (ty := .boolean) rfl 2 rfl qR_182 ((8, .inl (fun _ => 0))) (fun _ => rfl) (N' := 8) (by decide) (by decide) (by decide) (by decide) (by decide) dX1_init_23 (fun q3 H hp => ?_)
  have hp : Hl E (L ++ ((h, .inr (0, [.ref q1, .ref q2, .null, .null, .int 0])) :: [(q1, aI E 8 (fun _ => 0)), (q2, aZ E 8 (fun _ => 0)), (q3, aZ E 8 (fun _ => 0))])) s _ _ := hp.assoc
  refine hl_putF cx hnm hp 0 (C := RX1) (T := TX1) (N := 5) (ci := 0) rfl rfl inB_X1 tyX1 tyX1_ok nmX1 2 (by decide) qF_X1_19 rfl rfl rfl (ty := .array .boolean) (v := .ref q3) (by decide +kernel) rfl rfl (Nat.le_of_ble_eq_true rfl) dX1_init_25 (fun H locs hp => ?_)
  have hp : Hl E (L ++ ((h, .inr (0, [.ref q1, .ref q2, .ref q3, .null, .int 0])) :: [(q1, aI E 8 (fun _ => 0)), (q2, aZ E 8 (fun _ => 0)), (q3, aZ E 8 (fun _ => 0))])) s _ _ := hp
  refine lv_aload_n hx hb dX1_init_28 rfl (lv_at hl 0 rfl) ?_
  refine lv_bipush (v := 8) hx hb dX1_init_29 (by decide) ?_
  refine hl_newa cx hp (atype := .int) (ty := .int) rfl 0 rfl qR_46 ((8, .inl (fun _ => 0))) (fun _ => rfl) (N' := 8) (by decide) (by decide) (by decide) (by decide) (by decide) dX1_init_31 (fun q4 H hp => ?_)
  have hp : Hl E (L ++ ((h, .inr (0, [.ref q1, .ref q2, .ref q3, .null, .int 0])) :: [(q1, aI E 8 (fun _ => 0)), (q2, aZ E 8 (fun _ => 0)), (q3, aZ E 8 (fun _ => 0)), (q4, aI E 8 (fun _ => 0))])) s _ _ := hp.assoc
  refine hl_putF cx hnm hp 0 (C := RX1) (T := TX1) (N := 5) (ci := 0) rfl rfl inB_X1 tyX1 tyX1_ok nmX1 3 (by decide) qF_X1_22 rfl rfl rfl (ty := .array .int) (v := .ref q4) (by decide +kernel) rfl rfl (Nat.le_of_ble_eq_true rfl) dX1_init_33 (fun H locs hp => ?_)
  have hp : Hl E (L ++ ((h, .inr (0, [.ref q1, .ref q2, .ref q3, .ref q4, .int 0])) :: [(q1, aI E 8 (fun _ => 0)), (q2, aZ E 8 (fun _ => 0)), (q3, aZ E 8 (fun _ => 0)), (q4, aI E 8 (fun _ => 0))])) s _ _ := hp
  refine lv_aload_n hx hb dX1_init_36 rfl (lv_at hl 0 rfl) ?_
  refine lv_iconst (v := 0) hx hb dX1_init_37 (by decide) ?_
  refine hl_put cx hp 0 (C := RX1) (T := TX1) (N := 5) (ci := 0) rfl rfl inB_X1 tyX1 tyX1_ok nmX1 4 (by decide) qF_X1_25 rfl rfl (ty := .int) (v := .int 0) (by decide +kernel) rfl rfl (Nat.le_of_ble_eq_true rfl) dX1_init_38 (fun H locs hp => ?_)
  have hp : Hl E (L ++ ((h, .inr (0, [.ref q1, .ref q2, .ref q3, .ref q4, .int 0])) :: [(q1, aI E 8 (fun _ => 0)), (q2, aZ E 8 (fun _ => 0)), (q3, aZ E 8 (fun _ => 0)), (q4, aI E 8 (fun _ => 0))])) s _ _ := hp
  refine W.widen (k := 4) (n := 32) (by decide) (by decide) ?_
  exact rI cx hp (u := fun k => ([0, q1, q2, q3, q4] : List Nat).getD k 0) trivial (fun t ht => ht) dX1_init_41
abbrev rm_X6_init : Room := { frames := 1, cells := 1, slots := 256, locals := 20 }
set_option maxRecDepth 100000 in
set_option maxHeartbeats 4000000 in
theorem c_X6_init (l : Launch) {E : Ev} (L : va_W) (h : Nat) : Met l yX6_init (wC yX6_init cX6_init 1 none) rm_X6_init (va_Pc [.ref h] (Wul E (L ++ [(h, .inr (4, [.null, .int 0, .int 0]))]))) (va_Qv (fun (_ : Nat → Nat) => True) (fun (a : Nat → Nat) t => Wul E (L ++ sG E h a) t) (eA E)) 1 256 (eA E) := by
  refine gI_entry (lv := [(0, .ref h)]) (by decide) (Nat.le_of_ble_eq_true rfl) rfl ?_
  intro p e s m below meth c cx hnm hp ls hl
  have hx := cx.1.1
  have hb := cx.1.2.1
  refine lv_aload_n hx hb dX6_init_0 rfl (lv_at hl 0 rfl) ?_
  refine oiJ cx qM_X6_3 hl.1 dX6_init_1 (by decide) (by decide) ?_
  refine lv_aload_n hx hb dX6_init_4 rfl (lv_at hl 0 rfl) ?_
  refine lv_sipush (v := 256) hx hb dX6_init_5 (by decide) ?_
  refine hl_newa cx hp (atype := .int) (ty := .int) rfl 0 rfl qR_46 ((256, .inl (fun _ => 0))) (fun _ => rfl) (N' := 256) (by decide) (by decide) (by decide) (by decide) (by decide) dX6_init_8 (fun q1 H hp => ?_)
  have hp : Hl E (L ++ ((h, .inr (4, [.null, .int 0, .int 0])) :: [(q1, aI E 256 (fun _ => 0))])) s _ _ := hp.assoc
  refine hl_putF cx hnm hp 0 (C := RX6) (T := TX6) (N := 3) (ci := 4) rfl rfl inB_X6 tyX6 tyX6_ok nmX6 0 (by decide) qF_X6_9 rfl rfl rfl (ty := .array .int) (v := .ref q1) (by decide +kernel) rfl rfl (Nat.le_of_ble_eq_true rfl) dX6_init_10 (fun H locs hp => ?_)
  have hp : Hl E (L ++ ((h, .inr (4, [.ref q1, .int 0, .int 0])) :: [(q1, aI E 256 (fun _ => 0))])) s _ _ := hp
  refine lv_aload_n hx hb dX6_init_13 rfl (lv_at hl 0 rfl) ?_
  refine lv_iconst (v := 0) hx hb dX6_init_14 (by decide) ?_
  refine hl_put cx hp 0 (C := RX6) (T := TX6) (N := 3) (ci := 4) rfl rfl inB_X6 tyX6 tyX6_ok nmX6 1 (by decide) qF_X6_15 rfl rfl (ty := .int) (v := .int 0) (by decide +kernel) rfl rfl (Nat.le_of_ble_eq_true rfl) dX6_init_15 (fun H locs hp => ?_)
  have hp : Hl E (L ++ ((h, .inr (4, [.ref q1, .int 0, .int 0])) :: [(q1, aI E 256 (fun _ => 0))])) s _ _ := hp
  refine lv_aload_n hx hb dX6_init_18 rfl (lv_at hl 0 rfl) ?_
  refine lv_iconst (v := 0) hx hb dX6_init_19 (by decide) ?_
  refine hl_put cx hp 0 (C := RX6) (T := TX6) (N := 3) (ci := 4) rfl rfl inB_X6 tyX6 tyX6_ok nmX6 2 (by decide) qF_X6_19 rfl rfl (ty := .int) (v := .int 0) (by decide +kernel) rfl rfl (Nat.le_of_ble_eq_true rfl) dX6_init_20 (fun H locs hp => ?_)
  have hp : Hl E (L ++ ((h, .inr (4, [.ref q1, .int 0, .int 0])) :: [(q1, aI E 256 (fun _ => 0))])) s _ _ := hp
  refine W.widen (k := 1) (n := 256) (by decide) (by decide) ?_
  exact rI cx hp (u := fun k => ([0, q1] : List Nat).getD k 0) trivial (fun t ht => ht) dX6_init_23
abbrev rm_X10_init : Room := { frames := 2, cells := 2, slots := 702, locals := 40 }
set_option maxRecDepth 100000 in
set_option maxHeartbeats 4000000 in
theorem c_X10_init (l : Launch) {E : Ev} (L : va_W) (h : Nat) : Met l yX10_init (wC yX10_init cX10_init 1 none) rm_X10_init (va_Pc [.ref h] (Wul E (L ++ [(h, .inr (7, [.null, .int 0, .int 0, .int 0, .int 0, .long 0]))]))) (va_Qv (fun (_ : Nat → Nat) => True) (fun (a : Nat → Nat) t => Wul E (L ++ sT E h a) t) (eA E)) 2 702 (eA E) := by
  refine gI_entry (lv := [(0, .ref h)]) (by decide) (Nat.le_of_ble_eq_true rfl) rfl ?_
  intro p e s m below meth c cx hnm hp ls hl
  have hx := cx.1.1
  have hb := cx.1.2.1
  refine lv_aload_n hx hb dX10_init_0 rfl (lv_at hl 0 rfl) ?_
  refine oiJ cx qM_X10_3 hl.1 dX10_init_1 (by decide) (by decide) ?_
  refine lv_aload_n hx hb dX10_init_4 rfl (lv_at hl 0 rfl) ?_
  refine hl_newo cx hp (C := RX2) (T := TX2) (N := 2) (ci := 1) (fs := [.null, .int 0]) inB_X2 tyX2 tyX2_ok qK_X10_9 qA_X2 qN_X2 rfl df_X2 (by decide) (by decide) dX10_init_5 (fun q1 H hp => ?_)
  refine lv_dup hx hb dX10_init_8 rfl ?_
  refine xI hp (y_IN (As := []) (rest := [.ref q1, .ref h]) cx hp hl (c_X2_init l (E := E) _ q1) (cw_X10_11 cx rfl rfl ⟨by decide, by decide⟩) rfl rfl (Nat.le_of_ble_eq_true rfl) dX10_init_9 ⟨by decide, by decide⟩) (fun a2 H locs _ hp => ?_)
  have hp : Hl E (L ++ ((h, .inr (7, [.null, .int 0, .int 0, .int 0, .int 0, .long 0])) :: sB E q1 a2)) s _ _ := hp.assoc
  refine hl_putF cx hnm hp 0 (C := RX10) (T := TX10) (N := 6) (ci := 7) rfl rfl inB_X10 tyX10 tyX10_ok nmX10 0 (by decide) qF_X10_12 rfl rfl rfl (ty := .object "StallMarket$ByteText") (v := .ref q1) (by decide +kernel) rfl rfl (Nat.le_of_ble_eq_true rfl) dX10_init_12 (fun H locs hp => ?_)
  have hp : Hl E (L ++ ((h, .inr (7, [.ref q1, .int 0, .int 0, .int 0, .int 0, .long 0])) :: sB E q1 a2)) s _ _ := hp
  refine lv_aload_n hx hb dX10_init_15 rfl (lv_at hl 0 rfl) ?_
  refine lv_iconst (v := 0) hx hb dX10_init_16 (by decide) ?_
  refine hl_put cx hp 0 (C := RX10) (T := TX10) (N := 6) (ci := 7) rfl rfl inB_X10 tyX10 tyX10_ok nmX10 1 (by decide) qF_X10_18 rfl rfl (ty := .int) (v := .int 0) (by decide +kernel) rfl rfl (Nat.le_of_ble_eq_true rfl) dX10_init_17 (fun H locs hp => ?_)
  have hp : Hl E (L ++ ((h, .inr (7, [.ref q1, .int 0, .int 0, .int 0, .int 0, .long 0])) :: sB E q1 a2)) s _ _ := hp
  refine lv_aload_n hx hb dX10_init_20 rfl (lv_at hl 0 rfl) ?_
  refine lv_iconst (v := 0) hx hb dX10_init_21 (by decide) ?_
  refine hl_put cx hp 0 (C := RX10) (T := TX10) (N := 6) (ci := 7) rfl rfl inB_X10 tyX10 tyX10_ok nmX10 2 (by decide) qF_X10_22 rfl rfl (ty := .int) (v := .int 0) (by decide +kernel) rfl rfl (Nat.le_of_ble_eq_true rfl) dX10_init_22 (fun H locs hp => ?_)
  have hp : Hl E (L ++ ((h, .inr (7, [.ref q1, .int 0, .int 0, .int 0, .int 0, .long 0])) :: sB E q1 a2)) s _ _ := hp
  refine lv_aload_n hx hb dX10_init_25 rfl (lv_at hl 0 rfl) ?_
  refine lv_iconst (v := 0) hx hb dX10_init_26 (by decide) ?_
  refine hl_put cx hp 0 (C := RX10) (T := TX10) (N := 6) (ci := 7) rfl rfl inB_X10 tyX10 tyX10_ok nmX10 3 (by decide) qF_X10_25 rfl rfl (ty := .int) (v := .int 0) (by decide +kernel) rfl rfl (Nat.le_of_ble_eq_true rfl) dX10_init_27 (fun H locs hp => ?_)
  have hp : Hl E (L ++ ((h, .inr (7, [.ref q1, .int 0, .int 0, .int 0, .int 0, .long 0])) :: sB E q1 a2)) s _ _ := hp
  refine lv_aload_n hx hb dX10_init_30 rfl (lv_at hl 0 rfl) ?_
  refine lv_iconst (v := 0) hx hb dX10_init_31 (by decide) ?_
  refine hl_put cx hp 0 (C := RX10) (T := TX10) (N := 6) (ci := 7) rfl rfl inB_X10 tyX10 tyX10_ok nmX10 4 (by decide) qF_X10_28 rfl rfl (ty := .int) (v := .int 0) (by decide +kernel) rfl rfl (Nat.le_of_ble_eq_true rfl) dX10_init_32 (fun H locs hp => ?_)
  have hp : Hl E (L ++ ((h, .inr (7, [.ref q1, .int 0, .int 0, .int 0, .int 0, .long 0])) :: sB E q1 a2)) s _ _ := hp
  refine lv_aload_n hx hb dX10_init_35 rfl (lv_at hl 0 rfl) ?_
  refine lv_lconst (v := 0) hx hb dX10_init_36 (by decide) ?_
  refine hl_put cx hp 0 (C := RX10) (T := TX10) (N := 6) (ci := 7) rfl rfl inB_X10 tyX10 tyX10_ok nmX10 5 (by decide) qF_X10_31 rfl rfl (ty := .long) (v := .long 0) (by decide +kernel) rfl rfl (Nat.le_of_ble_eq_true rfl) dX10_init_37 (fun H locs hp => ?_)
  have hp : Hl E (L ++ ((h, .inr (7, [.ref q1, .int 0, .int 0, .int 0, .int 0, .long 0])) :: sB E q1 a2)) s _ _ := hp
  refine W.widen (k := 2) (n := 702) (by decide) (by decide) ?_
  exact rI cx hp (u := fun k => ([0, q1, a2 1] : List Nat).getD k 0) trivial (fun t ht => ht) dX10_init_40
abbrev rm_X7_init : Room := { frames := 3, cells := 3, slots := 708, locals := 60 }
set_option maxRecDepth 100000 in
set_option maxHeartbeats 4000000 in
theorem c_X7_init (l : Launch) {E : Ev} (L : va_W) (h : Nat) : Met l yX7_init (wC yX7_init cX7_init 1 none) rm_X7_init (va_Pc [.ref h] (Wul E (L ++ [(h, .inr (5, [.null, .int 0, .int 0]))]))) (va_Qv (fun (_ : Nat → Nat) => True) (fun (a : Nat → Nat) t => Wul E (L ++ sP E h a) t) (eA E)) 3 708 (eA E) := by
  refine gI_entry (lv := [(0, .ref h)]) (by decide) (Nat.le_of_ble_eq_true rfl) rfl ?_
  intro p e s m below meth c cx hnm hp ls hl
  have hx := cx.1.1
  have hb := cx.1.2.1
  refine lv_aload_n hx hb dX7_init_0 rfl (lv_at hl 0 rfl) ?_
  refine oiJ cx qM_X7_3 hl.1 dX7_init_1 (by decide) (by decide) ?_
  refine lv_aload_n hx hb dX7_init_4 rfl (lv_at hl 0 rfl) ?_
  refine hl_newo cx hp (C := RX10) (T := TX10) (N := 6) (ci := 7) (fs := [.null, .int 0, .int 0, .int 0, .int 0, .long 0]) inB_X10 tyX10 tyX10_ok qK_X7_9 qA_X10 qN_X10 rfl df_X10 (by decide) (by decide) dX7_init_5 (fun q1 H hp => ?_)
  refine lv_dup hx hb dX7_init_8 rfl ?_
  refine xI hp (y_IN (As := []) (rest := [.ref q1, .ref h]) cx hp hl (c_X10_init l (E := E) _ q1) (cw_X7_11 cx rfl rfl ⟨by decide, by decide⟩) rfl rfl (Nat.le_of_ble_eq_true rfl) dX7_init_9 ⟨by decide, by decide⟩) (fun a2 H locs _ hp => ?_)
  have hp : Hl E (L ++ ((h, .inr (5, [.null, .int 0, .int 0])) :: sT E q1 a2)) s _ _ := hp.assoc
  refine hl_putF cx hnm hp 0 (C := RX7) (T := TX7) (N := 3) (ci := 5) rfl rfl inB_X7 tyX7 tyX7_ok nmX7 0 (by decide) qF_X7_12 rfl rfl rfl (ty := .object "StallMarket$Tokens") (v := .ref q1) (by decide +kernel) rfl rfl (Nat.le_of_ble_eq_true rfl) dX7_init_12 (fun H locs hp => ?_)
  have hp : Hl E (L ++ ((h, .inr (5, [.ref q1, .int 0, .int 0])) :: sT E q1 a2)) s _ _ := hp
  refine lv_aload_n hx hb dX7_init_15 rfl (lv_at hl 0 rfl) ?_
  refine lv_iconst (v := 0) hx hb dX7_init_16 (by decide) ?_
  refine hl_put cx hp 0 (C := RX7) (T := TX7) (N := 3) (ci := 5) rfl rfl inB_X7 tyX7 tyX7_ok nmX7 1 (by decide) qF_X7_18 rfl rfl (ty := .int) (v := .int 0) (by decide +kernel) rfl rfl (Nat.le_of_ble_eq_true rfl) dX7_init_17 (fun H locs hp => ?_)
  have hp : Hl E (L ++ ((h, .inr (5, [.ref q1, .int 0, .int 0])) :: sT E q1 a2)) s _ _ := hp
  refine lv_aload_n hx hb dX7_init_20 rfl (lv_at hl 0 rfl) ?_
  refine lv_iconst (v := (-1)) hx hb dX7_init_21 (by decide) ?_
  refine hl_put cx hp 0 (C := RX7) (T := TX7) (N := 3) (ci := 5) rfl rfl inB_X7 tyX7 tyX7_ok nmX7 2 (by decide) qF_X7_22 rfl rfl (ty := .int) (v := .int (-1)) (by decide +kernel) rfl rfl (Nat.le_of_ble_eq_true rfl) dX7_init_22 (fun H locs hp => ?_)
  have hp : Hl E (L ++ ((h, .inr (5, [.ref q1, .int 0, .int (-1)])) :: sT E q1 a2)) s _ _ := hp
  refine W.widen (k := 3) (n := 708) (by decide) (by decide) ?_
  exact rI cx hp (u := fun k => ([0, q1, a2 1, a2 2] : List Nat).getD k 0) trivial (fun t ht => ht) dX7_init_25

theorem arrV_ext {cA : ClassId} {N : Nat} {f g : Nat → Value} (h : ∀ j, j < N → f j = g j) : arrV cA N f = arrV cA N g := by
  have e : (fun j : Fin N => f j.val) = fun j : Fin N => g j.val := funext fun j => h j.val j.isLt
  unfold arrV
  rw [e]
theorem wul_q {E : Ev} {L1 L2 : va_W} {q n : Nat} {cA : ClassId} {f : Nat → Option Nat} (g : Nat → Option Nat) (h : ∀ j, j < n → f j = g j) {t : State} (hw : Wul E (L1 ++ ((q, .inl (cA, n, .inr (.inr (.inr (.inr f))))) :: L2)) t) : Wul E (L1 ++ ((q, .inl (cA, n, .inr (.inr (.inr (.inr g))))) :: L2)) t := by
  have ha : (L1 ++ ((q, Sum.inl (cA, n, .inr (.inr (.inr (.inr f))))) :: L2) : va_W)[L1.length + 0]? = some (q, .inl (cA, n, .inr (.inr (.inr (.inr f))))) := (sg_at _ _ 0).trans rfl
  have h2 : t.heap[q]? = some (vp_cell cA (n, .inr (.inr (.inr (.inr f))))) := hw.2.1 _ _ ha
  have hP := hw.2.1.set hw.2.2.1 (e := .inl (cA, n, .inr (.inr (.inr (.inr g))))) (H1 := t.heap) ha (by
    show t.heap[q]? = some (vp_cell cA (n, .inr (.inr (.inr (.inr g)))))
    rw [h2, vp_cell_q, vp_cell_q, arrV_ext (fun j hj => by rw [h j hj])]) (fun _ _ => rfl)
  have hD := hw.2.2.1.set (e := .inl (cA, n, .inr (.inr (.inr (.inr g))))) ha
  rw [sg_set] at hP hD
  exact ⟨hw.1, hP, hD, hw.2.2.2⟩
theorem hist_end {E : Ev} {L L2 : va_W} {x : Nat × va_E} {q n : Nat} {cA : ClassId} {f : Nat → Option Nat} (g : Nat → Option Nat) (h : ∀ j, j < n → f j = g j) {t : State} (hw : Wul E (L ++ (x :: (q, .inl (cA, n, .inr (.inr (.inr (.inr f))))) :: L2)) t) : Wul E (L ++ (x :: (q, .inl (cA, n, .inr (.inr (.inr (.inr g))))) :: L2)) t := by
  have e : ∀ y : va_W, L ++ (x :: y) = (L ++ [x]) ++ y := fun y => by rw [List.append_assoc]; rfl
  rw [e] at hw ⊢
  exact wul_q g h hw
abbrev rm_X4_init : Room := { frames := 2, cells := 81, slots := 1176, locals := 40 }
set_option maxRecDepth 100000 in
set_option maxHeartbeats 4000000 in
theorem c_X4_init (l : Launch) {E : Ev} (hAO : AO E) (L : va_W) (h : Nat) : Met l yX4_init (wC yX4_init cX4_init 2 none) rm_X4_init (va_Pc [.ref h] (Wul E (L ++ [(h, .inr (2, [.null, .int 0, .int 0]))]))) (va_Qv (fun (_ : Nat → Nat → Nat) => True) (fun (a : Nat → Nat → Nat) t => Wul E (L ++ sH E h a) t) (eA E)) 81 1176 (eA E) := by
  refine gI_entry (lv := [(0, .ref h)]) (by decide) (Nat.le_of_ble_eq_true rfl) rfl ?_
  intro p e s m below meth c cx hnm hp ls hl
  have hx := cx.1.1
  have hb := cx.1.2.1
  refine lv_aload_n hx hb dX4_init_0 rfl (lv_at hl 0 rfl) ?_
  refine oiJ cx qM_X4_3 hl.1 dX4_init_1 (by decide) (by decide) ?_
  refine lv_aload_n hx hb dX4_init_4 rfl (lv_at hl 0 rfl) ?_
  refine lv_bipush (v := 8) hx hb dX4_init_5 (by decide) ?_
  refine hl_newq cx hp (C := RX5) qK_X4_9 (va_AO.moved cx.2.2.1.1 hAO.2.1) 4 rfl (N' := 8) (by decide) (by decide) (by decide) (by decide) (by decide) dX4_init_7 (fun q1 H hp => ?_)
  have hp : Hl E (L ++ ((h, .inr (2, [.null, .int 0, .int 0])) :: (q1, .inl (eC E 4, 8, .inr (.inr (.inr (.inr (fun _ => none)))))) :: [])) s _ _ := hp.assoc
  refine hl_putF cx hnm hp 0 (C := RX4) (T := TX4) (N := 3) (ci := 2) rfl rfl inB_X4 tyX4 tyX4_ok nmX4 0 (by decide) qF_X4_11 rfl rfl rfl (ty := .array (.object "StallMarket$Market")) (v := .ref q1) (by decide +kernel) rfl rfl (Nat.le_of_ble_eq_true rfl) dX4_init_10 (fun H locs hp => ?_)
  have hp : Hl E (L ++ ((h, .inr (2, [.ref q1, .int 0, .int 0])) :: (q1, .inl (eC E 4, 8, .inr (.inr (.inr (.inr (fun _ => none)))))) :: [])) s _ _ := hp
  refine lv_aload_n hx hb dX4_init_13 rfl (lv_at hl 0 rfl) ?_
  refine lv_iconst (v := 0) hx hb dX4_init_14 (by decide) ?_
  refine hl_put cx hp 0 (C := RX4) (T := TX4) (N := 3) (ci := 2) rfl rfl inB_X4 tyX4 tyX4_ok nmX4 1 (by decide) qF_X4_17 rfl rfl (ty := .int) (v := .int 0) (by decide +kernel) rfl rfl (Nat.le_of_ble_eq_true rfl) dX4_init_15 (fun H locs hp => ?_)
  have hp : Hl E (L ++ ((h, .inr (2, [.ref q1, .int 0, .int 0])) :: (q1, .inl (eC E 4, 8, .inr (.inr (.inr (.inr (fun _ => none)))))) :: [])) s _ _ := hp
  refine lv_aload_n hx hb dX4_init_18 rfl (lv_at hl 0 rfl) ?_
  refine lv_iconst (v := 0) hx hb dX4_init_19 (by decide) ?_
  refine hl_put cx hp 0 (C := RX4) (T := TX4) (N := 3) (ci := 2) rfl rfl inB_X4 tyX4 tyX4_ok nmX4 2 (by decide) qF_X4_21 rfl rfl (ty := .int) (v := .int 0) (by decide +kernel) rfl rfl (Nat.le_of_ble_eq_true rfl) dX4_init_20 (fun H locs hp => ?_)
  have hp : Hl E (L ++ ((h, .inr (2, [.ref q1, .int 0, .int 0])) :: (q1, .inl (eC E 4, 8, .inr (.inr (.inr (.inr (fun _ => none)))))) :: [])) s _ _ := hp
  refine lv_iconst (v := 0) hx hb dX4_init_23 (by decide) ?_
  refine lv_istore_n (lv' := [(1, .int 0), (0, .ref h)]) hx hb dX4_init_24 rfl hl (by decide) rfl (fun ls hl => ?_)
  refine lv_iload_n hx hb dX4_init_25 rfl (lv_at hl 0 rfl) ?_
  refine lv_bipush (v := 8) hx hb dX4_init_26 (by decide) ?_
  refine lv_icmp_ge (tgt := 50) hx hb dX4_init_28 (by decide) (fun c_x => absurd c_x (by decide)) (fun _ => ?_)
  refine lv_aload_n hx hb dX4_init_31 rfl (lv_at hl 1 rfl) ?_
  refine va_get (D := eD E) (ci := 2) (C := RX4) (T := TX4) (N := 3) cx.1.1 cx.1.2.1 cx.1.2.2.2.2 inB_X4 cx.1.2.2.2.1 cx.2.2.1.2.1 hp.1.1 (L.length + 0) ((sg_at L _ 0).trans rfl) rfl 0 (by decide) (cx.1.2.2.2.2 _ qF_X4_11) (fun _ h => h) rfl dX4_init_32 ?_
  refine lv_iload_n hx hb dX4_init_35 rfl (lv_at hl 0 rfl) ?_
  refine hl_newo cx hp (C := RX5) (T := TX5) (N := 18) (ci := 3) (fs := [.int 0, .int 0, .int 0, .int 0, .int 0, .int 0, .int 0, .int 0, .int 0, .null, .null, .null, .null, .null, .null, .null, .null, .null]) inB_X5 tyX5 tyX5_ok qK_X4_9 qA_X5 qN_X5 rfl df_X5 (by decide) (by decide) dX4_init_36 (fun q2 H hp => ?_)
  refine lv_dup hx hb dX4_init_39 rfl ?_
  refine xI hp (y_IN (As := []) (rest := [.ref q2, .int 0, .ref q1]) cx hp hl (c_X5_init l (E := E) _ q2) (cw_X4_24 cx rfl rfl ⟨by decide, by decide⟩) rfl rfl (Nat.le_of_ble_eq_true rfl) dX4_init_40 ⟨by decide, by decide⟩) (fun a3 H locs _ hp => ?_)
  have hp : Hl E (L ++ ((h, .inr (2, [.ref q1, .int 0, .int 0])) :: (q1, .inl (eC E 4, 8, .inr (.inr (.inr (.inr (fun _ => none)))))) :: (sM E q2 a3))) s _ _ := hp.assoc
  refine va_astq cx.1.1 cx.1.2.1 cx.2.2.1.2.1 hp.1.1 hp.1.2.1 hp.2 (L.length + 1) 4 (L.length + 2) 3 ((sg_at L _ 1).trans rfl) rfl ((sg_at L _ 2).trans rfl) rfl (inb_vp (n := 8) (by decide)) dX4_init_43 (fun H locs hP hD hS => ?_)
  have hp : Hl E (L ++ ((h, .inr (2, [.ref q1, .int 0, .int 0])) :: (q1, .inl (eC E 4, 8, .inr (.inr (.inr (.inr (va_up (fun _ => none) 0 (some q2))))))) :: (sM E q2 a3))) s H locs := by rw [show Int32.toNatClampNeg 0 = 0 from by decide, sg_set] at hP hD; exact hl_new cx hP hD hS
  refine lv_iinc (v := 1) (lv' := [(1, .int 1), (0, .ref h)]) hx hb dX4_init_44 hl (k := 0) rfl (by decide) (by decide) rfl (fun ls hl => ?_)
  refine lv_goto (tgt := 25) hx hb dX4_init_47 (by decide) ?_
  refine lv_iload_n hx hb dX4_init_25 rfl (lv_at hl 0 rfl) ?_
  refine lv_bipush (v := 8) hx hb dX4_init_26 (by decide) ?_
  refine lv_icmp_ge (tgt := 50) hx hb dX4_init_28 (by decide) (fun c_x => absurd c_x (by decide)) (fun _ => ?_)
  refine lv_aload_n hx hb dX4_init_31 rfl (lv_at hl 1 rfl) ?_
  refine va_get (D := eD E) (ci := 2) (C := RX4) (T := TX4) (N := 3) cx.1.1 cx.1.2.1 cx.1.2.2.2.2 inB_X4 cx.1.2.2.2.1 cx.2.2.1.2.1 hp.1.1 (L.length + 0) ((sg_at L _ 0).trans rfl) rfl 0 (by decide) (cx.1.2.2.2.2 _ qF_X4_11) (fun _ h => h) rfl dX4_init_32 ?_
  refine lv_iload_n hx hb dX4_init_35 rfl (lv_at hl 0 rfl) ?_
  refine hl_newo cx hp (C := RX5) (T := TX5) (N := 18) (ci := 3) (fs := [.int 0, .int 0, .int 0, .int 0, .int 0, .int 0, .int 0, .int 0, .int 0, .null, .null, .null, .null, .null, .null, .null, .null, .null]) inB_X5 tyX5 tyX5_ok qK_X4_9 qA_X5 qN_X5 rfl df_X5 (by decide) (by decide) dX4_init_36 (fun q4 H hp => ?_)
  refine lv_dup hx hb dX4_init_39 rfl ?_
  refine xI hp (y_IN (As := []) (rest := [.ref q4, .int 1, .ref q1]) cx hp hl (c_X5_init l (E := E) _ q4) (cw_X4_24 cx rfl rfl ⟨by decide, by decide⟩) rfl rfl (Nat.le_of_ble_eq_true rfl) dX4_init_40 ⟨by decide, by decide⟩) (fun a5 H locs _ hp => ?_)
  have hp : Hl E (L ++ ((h, .inr (2, [.ref q1, .int 0, .int 0])) :: (q1, .inl (eC E 4, 8, .inr (.inr (.inr (.inr (va_up (fun _ => none) 0 (some q2))))))) :: (sM E q2 a3 ++ sM E q4 a5))) s _ _ := hp.assoc
  refine va_astq cx.1.1 cx.1.2.1 cx.2.2.1.2.1 hp.1.1 hp.1.2.1 hp.2 (L.length + 1) 4 (L.length + 12) 3 ((sg_at L _ 1).trans rfl) rfl ((sg_at L _ 12).trans rfl) rfl (inb_vp (n := 8) (by decide)) dX4_init_43 (fun H locs hP hD hS => ?_)
  have hp : Hl E (L ++ ((h, .inr (2, [.ref q1, .int 0, .int 0])) :: (q1, .inl (eC E 4, 8, .inr (.inr (.inr (.inr (va_up (va_up (fun _ => none) 0 (some q2)) 1 (some q4))))))) :: (sM E q2 a3 ++ sM E q4 a5))) s H locs := by rw [show Int32.toNatClampNeg 1 = 1 from by decide, sg_set] at hP hD; exact hl_new cx hP hD hS
  refine lv_iinc (v := 2) (lv' := [(1, .int 2), (0, .ref h)]) hx hb dX4_init_44 hl (k := 0) rfl (by decide) (by decide) rfl (fun ls hl => ?_)
  refine lv_goto (tgt := 25) hx hb dX4_init_47 (by decide) ?_
  refine lv_iload_n hx hb dX4_init_25 rfl (lv_at hl 0 rfl) ?_
  refine lv_bipush (v := 8) hx hb dX4_init_26 (by decide) ?_
  refine lv_icmp_ge (tgt := 50) hx hb dX4_init_28 (by decide) (fun c_x => absurd c_x (by decide)) (fun _ => ?_)
  refine lv_aload_n hx hb dX4_init_31 rfl (lv_at hl 1 rfl) ?_
  refine va_get (D := eD E) (ci := 2) (C := RX4) (T := TX4) (N := 3) cx.1.1 cx.1.2.1 cx.1.2.2.2.2 inB_X4 cx.1.2.2.2.1 cx.2.2.1.2.1 hp.1.1 (L.length + 0) ((sg_at L _ 0).trans rfl) rfl 0 (by decide) (cx.1.2.2.2.2 _ qF_X4_11) (fun _ h => h) rfl dX4_init_32 ?_
  refine lv_iload_n hx hb dX4_init_35 rfl (lv_at hl 0 rfl) ?_
  refine hl_newo cx hp (C := RX5) (T := TX5) (N := 18) (ci := 3) (fs := [.int 0, .int 0, .int 0, .int 0, .int 0, .int 0, .int 0, .int 0, .int 0, .null, .null, .null, .null, .null, .null, .null, .null, .null]) inB_X5 tyX5 tyX5_ok qK_X4_9 qA_X5 qN_X5 rfl df_X5 (by decide) (by decide) dX4_init_36 (fun q6 H hp => ?_)
  refine lv_dup hx hb dX4_init_39 rfl ?_
  refine xI hp (y_IN (As := []) (rest := [.ref q6, .int 2, .ref q1]) cx hp hl (c_X5_init l (E := E) _ q6) (cw_X4_24 cx rfl rfl ⟨by decide, by decide⟩) rfl rfl (Nat.le_of_ble_eq_true rfl) dX4_init_40 ⟨by decide, by decide⟩) (fun a7 H locs _ hp => ?_)
  have hp : Hl E (L ++ ((h, .inr (2, [.ref q1, .int 0, .int 0])) :: (q1, .inl (eC E 4, 8, .inr (.inr (.inr (.inr (va_up (va_up (fun _ => none) 0 (some q2)) 1 (some q4))))))) :: (sM E q2 a3 ++ sM E q4 a5 ++ sM E q6 a7))) s _ _ := hp.assoc
  refine va_astq cx.1.1 cx.1.2.1 cx.2.2.1.2.1 hp.1.1 hp.1.2.1 hp.2 (L.length + 1) 4 (L.length + 22) 3 ((sg_at L _ 1).trans rfl) rfl ((sg_at L _ 22).trans rfl) rfl (inb_vp (n := 8) (by decide)) dX4_init_43 (fun H locs hP hD hS => ?_)
  have hp : Hl E (L ++ ((h, .inr (2, [.ref q1, .int 0, .int 0])) :: (q1, .inl (eC E 4, 8, .inr (.inr (.inr (.inr (va_up (va_up (va_up (fun _ => none) 0 (some q2)) 1 (some q4)) 2 (some q6))))))) :: (sM E q2 a3 ++ sM E q4 a5 ++ sM E q6 a7))) s H locs := by rw [show Int32.toNatClampNeg 2 = 2 from by decide, sg_set] at hP hD; exact hl_new cx hP hD hS
  refine lv_iinc (v := 3) (lv' := [(1, .int 3), (0, .ref h)]) hx hb dX4_init_44 hl (k := 0) rfl (by decide) (by decide) rfl (fun ls hl => ?_)
  refine lv_goto (tgt := 25) hx hb dX4_init_47 (by decide) ?_
  refine lv_iload_n hx hb dX4_init_25 rfl (lv_at hl 0 rfl) ?_
  refine lv_bipush (v := 8) hx hb dX4_init_26 (by decide) ?_
  refine lv_icmp_ge (tgt := 50) hx hb dX4_init_28 (by decide) (fun c_x => absurd c_x (by decide)) (fun _ => ?_)
  refine lv_aload_n hx hb dX4_init_31 rfl (lv_at hl 1 rfl) ?_
  refine va_get (D := eD E) (ci := 2) (C := RX4) (T := TX4) (N := 3) cx.1.1 cx.1.2.1 cx.1.2.2.2.2 inB_X4 cx.1.2.2.2.1 cx.2.2.1.2.1 hp.1.1 (L.length + 0) ((sg_at L _ 0).trans rfl) rfl 0 (by decide) (cx.1.2.2.2.2 _ qF_X4_11) (fun _ h => h) rfl dX4_init_32 ?_
  refine lv_iload_n hx hb dX4_init_35 rfl (lv_at hl 0 rfl) ?_
  refine hl_newo cx hp (C := RX5) (T := TX5) (N := 18) (ci := 3) (fs := [.int 0, .int 0, .int 0, .int 0, .int 0, .int 0, .int 0, .int 0, .int 0, .null, .null, .null, .null, .null, .null, .null, .null, .null]) inB_X5 tyX5 tyX5_ok qK_X4_9 qA_X5 qN_X5 rfl df_X5 (by decide) (by decide) dX4_init_36 (fun q8 H hp => ?_)
  refine lv_dup hx hb dX4_init_39 rfl ?_
  refine xI hp (y_IN (As := []) (rest := [.ref q8, .int 3, .ref q1]) cx hp hl (c_X5_init l (E := E) _ q8) (cw_X4_24 cx rfl rfl ⟨by decide, by decide⟩) rfl rfl (Nat.le_of_ble_eq_true rfl) dX4_init_40 ⟨by decide, by decide⟩) (fun a9 H locs _ hp => ?_)
  have hp : Hl E (L ++ ((h, .inr (2, [.ref q1, .int 0, .int 0])) :: (q1, .inl (eC E 4, 8, .inr (.inr (.inr (.inr (va_up (va_up (va_up (fun _ => none) 0 (some q2)) 1 (some q4)) 2 (some q6))))))) :: (sM E q2 a3 ++ sM E q4 a5 ++ sM E q6 a7 ++ sM E q8 a9))) s _ _ := hp.assoc
  refine va_astq cx.1.1 cx.1.2.1 cx.2.2.1.2.1 hp.1.1 hp.1.2.1 hp.2 (L.length + 1) 4 (L.length + 32) 3 ((sg_at L _ 1).trans rfl) rfl ((sg_at L _ 32).trans rfl) rfl (inb_vp (n := 8) (by decide)) dX4_init_43 (fun H locs hP hD hS => ?_)
  have hp : Hl E (L ++ ((h, .inr (2, [.ref q1, .int 0, .int 0])) :: (q1, .inl (eC E 4, 8, .inr (.inr (.inr (.inr (va_up (va_up (va_up (va_up (fun _ => none) 0 (some q2)) 1 (some q4)) 2 (some q6)) 3 (some q8))))))) :: (sM E q2 a3 ++ sM E q4 a5 ++ sM E q6 a7 ++ sM E q8 a9))) s H locs := by rw [show Int32.toNatClampNeg 3 = 3 from by decide, sg_set] at hP hD; exact hl_new cx hP hD hS
  refine lv_iinc (v := 4) (lv' := [(1, .int 4), (0, .ref h)]) hx hb dX4_init_44 hl (k := 0) rfl (by decide) (by decide) rfl (fun ls hl => ?_)
  refine lv_goto (tgt := 25) hx hb dX4_init_47 (by decide) ?_
  refine lv_iload_n hx hb dX4_init_25 rfl (lv_at hl 0 rfl) ?_
  refine lv_bipush (v := 8) hx hb dX4_init_26 (by decide) ?_
  refine lv_icmp_ge (tgt := 50) hx hb dX4_init_28 (by decide) (fun c_x => absurd c_x (by decide)) (fun _ => ?_)
  refine lv_aload_n hx hb dX4_init_31 rfl (lv_at hl 1 rfl) ?_
  refine va_get (D := eD E) (ci := 2) (C := RX4) (T := TX4) (N := 3) cx.1.1 cx.1.2.1 cx.1.2.2.2.2 inB_X4 cx.1.2.2.2.1 cx.2.2.1.2.1 hp.1.1 (L.length + 0) ((sg_at L _ 0).trans rfl) rfl 0 (by decide) (cx.1.2.2.2.2 _ qF_X4_11) (fun _ h => h) rfl dX4_init_32 ?_
  refine lv_iload_n hx hb dX4_init_35 rfl (lv_at hl 0 rfl) ?_
  refine hl_newo cx hp (C := RX5) (T := TX5) (N := 18) (ci := 3) (fs := [.int 0, .int 0, .int 0, .int 0, .int 0, .int 0, .int 0, .int 0, .int 0, .null, .null, .null, .null, .null, .null, .null, .null, .null]) inB_X5 tyX5 tyX5_ok qK_X4_9 qA_X5 qN_X5 rfl df_X5 (by decide) (by decide) dX4_init_36 (fun q10 H hp => ?_)
  refine lv_dup hx hb dX4_init_39 rfl ?_
  refine xI hp (y_IN (As := []) (rest := [.ref q10, .int 4, .ref q1]) cx hp hl (c_X5_init l (E := E) _ q10) (cw_X4_24 cx rfl rfl ⟨by decide, by decide⟩) rfl rfl (Nat.le_of_ble_eq_true rfl) dX4_init_40 ⟨by decide, by decide⟩) (fun a11 H locs _ hp => ?_)
  have hp : Hl E (L ++ ((h, .inr (2, [.ref q1, .int 0, .int 0])) :: (q1, .inl (eC E 4, 8, .inr (.inr (.inr (.inr (va_up (va_up (va_up (va_up (fun _ => none) 0 (some q2)) 1 (some q4)) 2 (some q6)) 3 (some q8))))))) :: (sM E q2 a3 ++ sM E q4 a5 ++ sM E q6 a7 ++ sM E q8 a9 ++ sM E q10 a11))) s _ _ := hp.assoc
  refine va_astq cx.1.1 cx.1.2.1 cx.2.2.1.2.1 hp.1.1 hp.1.2.1 hp.2 (L.length + 1) 4 (L.length + 42) 3 ((sg_at L _ 1).trans rfl) rfl ((sg_at L _ 42).trans rfl) rfl (inb_vp (n := 8) (by decide)) dX4_init_43 (fun H locs hP hD hS => ?_)
  have hp : Hl E (L ++ ((h, .inr (2, [.ref q1, .int 0, .int 0])) :: (q1, .inl (eC E 4, 8, .inr (.inr (.inr (.inr (va_up (va_up (va_up (va_up (va_up (fun _ => none) 0 (some q2)) 1 (some q4)) 2 (some q6)) 3 (some q8)) 4 (some q10))))))) :: (sM E q2 a3 ++ sM E q4 a5 ++ sM E q6 a7 ++ sM E q8 a9 ++ sM E q10 a11))) s H locs := by rw [show Int32.toNatClampNeg 4 = 4 from by decide, sg_set] at hP hD; exact hl_new cx hP hD hS
  refine lv_iinc (v := 5) (lv' := [(1, .int 5), (0, .ref h)]) hx hb dX4_init_44 hl (k := 0) rfl (by decide) (by decide) rfl (fun ls hl => ?_)
  refine lv_goto (tgt := 25) hx hb dX4_init_47 (by decide) ?_
  refine lv_iload_n hx hb dX4_init_25 rfl (lv_at hl 0 rfl) ?_
  refine lv_bipush (v := 8) hx hb dX4_init_26 (by decide) ?_
  refine lv_icmp_ge (tgt := 50) hx hb dX4_init_28 (by decide) (fun c_x => absurd c_x (by decide)) (fun _ => ?_)
  refine lv_aload_n hx hb dX4_init_31 rfl (lv_at hl 1 rfl) ?_
  refine va_get (D := eD E) (ci := 2) (C := RX4) (T := TX4) (N := 3) cx.1.1 cx.1.2.1 cx.1.2.2.2.2 inB_X4 cx.1.2.2.2.1 cx.2.2.1.2.1 hp.1.1 (L.length + 0) ((sg_at L _ 0).trans rfl) rfl 0 (by decide) (cx.1.2.2.2.2 _ qF_X4_11) (fun _ h => h) rfl dX4_init_32 ?_
  refine lv_iload_n hx hb dX4_init_35 rfl (lv_at hl 0 rfl) ?_
  refine hl_newo cx hp (C := RX5) (T := TX5) (N := 18) (ci := 3) (fs := [.int 0, .int 0, .int 0, .int 0, .int 0, .int 0, .int 0, .int 0, .int 0, .null, .null, .null, .null, .null, .null, .null, .null, .null]) inB_X5 tyX5 tyX5_ok qK_X4_9 qA_X5 qN_X5 rfl df_X5 (by decide) (by decide) dX4_init_36 (fun q12 H hp => ?_)
  refine lv_dup hx hb dX4_init_39 rfl ?_
  refine xI hp (y_IN (As := []) (rest := [.ref q12, .int 5, .ref q1]) cx hp hl (c_X5_init l (E := E) _ q12) (cw_X4_24 cx rfl rfl ⟨by decide, by decide⟩) rfl rfl (Nat.le_of_ble_eq_true rfl) dX4_init_40 ⟨by decide, by decide⟩) (fun a13 H locs _ hp => ?_)
  have hp : Hl E (L ++ ((h, .inr (2, [.ref q1, .int 0, .int 0])) :: (q1, .inl (eC E 4, 8, .inr (.inr (.inr (.inr (va_up (va_up (va_up (va_up (va_up (fun _ => none) 0 (some q2)) 1 (some q4)) 2 (some q6)) 3 (some q8)) 4 (some q10))))))) :: (sM E q2 a3 ++ sM E q4 a5 ++ sM E q6 a7 ++ sM E q8 a9 ++ sM E q10 a11 ++ sM E q12 a13))) s _ _ := hp.assoc
  refine va_astq cx.1.1 cx.1.2.1 cx.2.2.1.2.1 hp.1.1 hp.1.2.1 hp.2 (L.length + 1) 4 (L.length + 52) 3 ((sg_at L _ 1).trans rfl) rfl ((sg_at L _ 52).trans rfl) rfl (inb_vp (n := 8) (by decide)) dX4_init_43 (fun H locs hP hD hS => ?_)
  have hp : Hl E (L ++ ((h, .inr (2, [.ref q1, .int 0, .int 0])) :: (q1, .inl (eC E 4, 8, .inr (.inr (.inr (.inr (va_up (va_up (va_up (va_up (va_up (va_up (fun _ => none) 0 (some q2)) 1 (some q4)) 2 (some q6)) 3 (some q8)) 4 (some q10)) 5 (some q12))))))) :: (sM E q2 a3 ++ sM E q4 a5 ++ sM E q6 a7 ++ sM E q8 a9 ++ sM E q10 a11 ++ sM E q12 a13))) s H locs := by rw [show Int32.toNatClampNeg 5 = 5 from by decide, sg_set] at hP hD; exact hl_new cx hP hD hS
  refine lv_iinc (v := 6) (lv' := [(1, .int 6), (0, .ref h)]) hx hb dX4_init_44 hl (k := 0) rfl (by decide) (by decide) rfl (fun ls hl => ?_)
  refine lv_goto (tgt := 25) hx hb dX4_init_47 (by decide) ?_
  refine lv_iload_n hx hb dX4_init_25 rfl (lv_at hl 0 rfl) ?_
  refine lv_bipush (v := 8) hx hb dX4_init_26 (by decide) ?_
  refine lv_icmp_ge (tgt := 50) hx hb dX4_init_28 (by decide) (fun c_x => absurd c_x (by decide)) (fun _ => ?_)
  refine lv_aload_n hx hb dX4_init_31 rfl (lv_at hl 1 rfl) ?_
  refine va_get (D := eD E) (ci := 2) (C := RX4) (T := TX4) (N := 3) cx.1.1 cx.1.2.1 cx.1.2.2.2.2 inB_X4 cx.1.2.2.2.1 cx.2.2.1.2.1 hp.1.1 (L.length + 0) ((sg_at L _ 0).trans rfl) rfl 0 (by decide) (cx.1.2.2.2.2 _ qF_X4_11) (fun _ h => h) rfl dX4_init_32 ?_
  refine lv_iload_n hx hb dX4_init_35 rfl (lv_at hl 0 rfl) ?_
  refine hl_newo cx hp (C := RX5) (T := TX5) (N := 18) (ci := 3) (fs := [.int 0, .int 0, .int 0, .int 0, .int 0, .int 0, .int 0, .int 0, .int 0, .null, .null, .null, .null, .null, .null, .null, .null, .null]) inB_X5 tyX5 tyX5_ok qK_X4_9 qA_X5 qN_X5 rfl df_X5 (by decide) (by decide) dX4_init_36 (fun q14 H hp => ?_)
  refine lv_dup hx hb dX4_init_39 rfl ?_
  refine xI hp (y_IN (As := []) (rest := [.ref q14, .int 6, .ref q1]) cx hp hl (c_X5_init l (E := E) _ q14) (cw_X4_24 cx rfl rfl ⟨by decide, by decide⟩) rfl rfl (Nat.le_of_ble_eq_true rfl) dX4_init_40 ⟨by decide, by decide⟩) (fun a15 H locs _ hp => ?_)
  have hp : Hl E (L ++ ((h, .inr (2, [.ref q1, .int 0, .int 0])) :: (q1, .inl (eC E 4, 8, .inr (.inr (.inr (.inr (va_up (va_up (va_up (va_up (va_up (va_up (fun _ => none) 0 (some q2)) 1 (some q4)) 2 (some q6)) 3 (some q8)) 4 (some q10)) 5 (some q12))))))) :: (sM E q2 a3 ++ sM E q4 a5 ++ sM E q6 a7 ++ sM E q8 a9 ++ sM E q10 a11 ++ sM E q12 a13 ++ sM E q14 a15))) s _ _ := hp.assoc
  refine va_astq cx.1.1 cx.1.2.1 cx.2.2.1.2.1 hp.1.1 hp.1.2.1 hp.2 (L.length + 1) 4 (L.length + 62) 3 ((sg_at L _ 1).trans rfl) rfl ((sg_at L _ 62).trans rfl) rfl (inb_vp (n := 8) (by decide)) dX4_init_43 (fun H locs hP hD hS => ?_)
  have hp : Hl E (L ++ ((h, .inr (2, [.ref q1, .int 0, .int 0])) :: (q1, .inl (eC E 4, 8, .inr (.inr (.inr (.inr (va_up (va_up (va_up (va_up (va_up (va_up (va_up (fun _ => none) 0 (some q2)) 1 (some q4)) 2 (some q6)) 3 (some q8)) 4 (some q10)) 5 (some q12)) 6 (some q14))))))) :: (sM E q2 a3 ++ sM E q4 a5 ++ sM E q6 a7 ++ sM E q8 a9 ++ sM E q10 a11 ++ sM E q12 a13 ++ sM E q14 a15))) s H locs := by rw [show Int32.toNatClampNeg 6 = 6 from by decide, sg_set] at hP hD; exact hl_new cx hP hD hS
  refine lv_iinc (v := 7) (lv' := [(1, .int 7), (0, .ref h)]) hx hb dX4_init_44 hl (k := 0) rfl (by decide) (by decide) rfl (fun ls hl => ?_)
  refine lv_goto (tgt := 25) hx hb dX4_init_47 (by decide) ?_
  refine lv_iload_n hx hb dX4_init_25 rfl (lv_at hl 0 rfl) ?_
  refine lv_bipush (v := 8) hx hb dX4_init_26 (by decide) ?_
  refine lv_icmp_ge (tgt := 50) hx hb dX4_init_28 (by decide) (fun c_x => absurd c_x (by decide)) (fun _ => ?_)
  refine lv_aload_n hx hb dX4_init_31 rfl (lv_at hl 1 rfl) ?_
  refine va_get (D := eD E) (ci := 2) (C := RX4) (T := TX4) (N := 3) cx.1.1 cx.1.2.1 cx.1.2.2.2.2 inB_X4 cx.1.2.2.2.1 cx.2.2.1.2.1 hp.1.1 (L.length + 0) ((sg_at L _ 0).trans rfl) rfl 0 (by decide) (cx.1.2.2.2.2 _ qF_X4_11) (fun _ h => h) rfl dX4_init_32 ?_
  refine lv_iload_n hx hb dX4_init_35 rfl (lv_at hl 0 rfl) ?_
  refine hl_newo cx hp (C := RX5) (T := TX5) (N := 18) (ci := 3) (fs := [.int 0, .int 0, .int 0, .int 0, .int 0, .int 0, .int 0, .int 0, .int 0, .null, .null, .null, .null, .null, .null, .null, .null, .null]) inB_X5 tyX5 tyX5_ok qK_X4_9 qA_X5 qN_X5 rfl df_X5 (by decide) (by decide) dX4_init_36 (fun q16 H hp => ?_)
  refine lv_dup hx hb dX4_init_39 rfl ?_
  refine xI hp (y_IN (As := []) (rest := [.ref q16, .int 7, .ref q1]) cx hp hl (c_X5_init l (E := E) _ q16) (cw_X4_24 cx rfl rfl ⟨by decide, by decide⟩) rfl rfl (Nat.le_of_ble_eq_true rfl) dX4_init_40 ⟨by decide, by decide⟩) (fun a17 H locs _ hp => ?_)
  have hp : Hl E (L ++ ((h, .inr (2, [.ref q1, .int 0, .int 0])) :: (q1, .inl (eC E 4, 8, .inr (.inr (.inr (.inr (va_up (va_up (va_up (va_up (va_up (va_up (va_up (fun _ => none) 0 (some q2)) 1 (some q4)) 2 (some q6)) 3 (some q8)) 4 (some q10)) 5 (some q12)) 6 (some q14))))))) :: (sM E q2 a3 ++ sM E q4 a5 ++ sM E q6 a7 ++ sM E q8 a9 ++ sM E q10 a11 ++ sM E q12 a13 ++ sM E q14 a15 ++ sM E q16 a17))) s _ _ := hp.assoc
  refine va_astq cx.1.1 cx.1.2.1 cx.2.2.1.2.1 hp.1.1 hp.1.2.1 hp.2 (L.length + 1) 4 (L.length + 72) 3 ((sg_at L _ 1).trans rfl) rfl ((sg_at L _ 72).trans rfl) rfl (inb_vp (n := 8) (by decide)) dX4_init_43 (fun H locs hP hD hS => ?_)
  have hp : Hl E (L ++ ((h, .inr (2, [.ref q1, .int 0, .int 0])) :: (q1, .inl (eC E 4, 8, .inr (.inr (.inr (.inr (va_up (va_up (va_up (va_up (va_up (va_up (va_up (va_up (fun _ => none) 0 (some q2)) 1 (some q4)) 2 (some q6)) 3 (some q8)) 4 (some q10)) 5 (some q12)) 6 (some q14)) 7 (some q16))))))) :: (sM E q2 a3 ++ sM E q4 a5 ++ sM E q6 a7 ++ sM E q8 a9 ++ sM E q10 a11 ++ sM E q12 a13 ++ sM E q14 a15 ++ sM E q16 a17))) s H locs := by rw [show Int32.toNatClampNeg 7 = 7 from by decide, sg_set] at hP hD; exact hl_new cx hP hD hS
  refine lv_iinc (v := 8) (lv' := [(1, .int 8), (0, .ref h)]) hx hb dX4_init_44 hl (k := 0) rfl (by decide) (by decide) rfl (fun ls hl => ?_)
  refine lv_goto (tgt := 25) hx hb dX4_init_47 (by decide) ?_
  refine lv_iload_n hx hb dX4_init_25 rfl (lv_at hl 0 rfl) ?_
  refine lv_bipush (v := 8) hx hb dX4_init_26 (by decide) ?_
  refine lv_icmp_ge (tgt := 50) hx hb dX4_init_28 (by decide) (fun _ => ?_) (fun c_x => absurd (by decide) c_x)
  refine W.widen (k := 81) (n := 1176) (by decide) (by decide) ?_
  refine rI cx hp (u := fun j k => if j = 8 then q1 else if k = 0 then ([q2, q4, q6, q8, q10, q12, q14, q16] : List Nat).getD j 0 else ([a3, a5, a7, a9, a11, a13, a15, a17] : List (Nat → Nat)).getD j (fun _ => 0) k) trivial (fun t ht => ?_) dX4_init_50
  exact (hist_end (fun j => some ((fun j k => if j = 8 then q1 else if k = 0 then ([q2, q4, q6, q8, q10, q12, q14, q16] : List Nat).getD j 0 else ([a3, a5, a7, a9, a11, a13, a15, a17] : List (Nat → Nat)).getD j (fun _ => 0) k) j 0)) (by
    intro j hj
    match j, hj with
    | 0, _ => rfl
    | 1, _ => rfl
    | 2, _ => rfl
    | 3, _ => rfl
    | 4, _ => rfl
    | 5, _ => rfl
    | 6, _ => rfl
    | 7, _ => rfl
    | n + 8, h => exact absurd h (by omega)) ht : Wul E (L ++ sH E h (fun j k => if j = 8 then q1 else if k = 0 then ([q2, q4, q6, q8, q10, q12, q14, q16] : List Nat).getD j 0 else ([a3, a5, a7, a9, a11, a13, a15, a17] : List (Nat → Nat)).getD j (fun _ => 0) k)) t)

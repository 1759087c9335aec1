section RX2
variable {E : Ev} {h0 : Nat} {q1 : Nat} {a2 : Nat → Nat} {q3 : Nat} {a4 : Nat → Nat} {q5 : Nat} {a6 : Nat → Nat} {q7 : Nat} {a8 : Nat → Nat} {q9 : Nat} {a10 : Nat → Nat → Nat} {q11 : Nat} {a12 : Nat → Nat} {q13 : Nat} {a14 : Nat → Nat} {q15 : Nat} {a16 : Nat → Nat} {q17 : Nat} {a18 : Nat → Nat}
theorem vD_of {A : Nat → Prop} {L L' : va_W} (hD : va_D A L) (G : Nat → Nat) (hg : ∀ (k : Nat) (q : Nat × va_E), L'[k]? = some q → ∃ e : va_E, L[G k]? = some (q.1, e)) (hi : ∀ i j : Nat, i < L'.length → j < L'.length → G i = G j → i = j) : va_D A L' := by
  refine ⟨fun i j p q hp hq hpq => ?_, fun k q hq => ?_⟩
  · obtain ⟨e1, h1⟩ := hg i p hp
    obtain ⟨e2, h2⟩ := hg j q hq
    exact hi i j (List.getElem?_eq_some_iff.mp hp).1 (List.getElem?_eq_some_iff.mp hq).1 (hD.1 _ _ _ _ h1 h2 hpq)
  · obtain ⟨e1, h1⟩ := hg k q hq
    exact hD.2 (G k) (q.1, e1) h1
theorem ws_k (E : Ev) (La : Nat → Nat) (n : Nat) (σ : SM) {k : Nat} (hk : k < n) : (ws (wE E La n) σ)[k]? = some (La k, celX (wE E La n) (dec k).1 (dec k).2 (σ (dec k).1)) := by
  show ((List.range n).map _)[k]? = _
  rw [List.getElem?_map, List.getElem?_range hk]
  rfl
set_option maxRecDepth 100000 in
set_option maxHeartbeats 4000000 in
theorem ho_of {s : State} {H : Heap} {locs : List Loc} (hh : h0 = (eS E).heap.size) (hp : Hl E (((eS E).heap.size, .inr (8, [.null, .ref q1, .ref q3, .null, .ref q5, .ref q7, .int 0, .ref q9, .ref q11, .ref q13])) :: (rX E q1 a2 q3 a4 q5 a6 q7 a8 q9 a10 q11 a12 q13 a14 q15 a16 q17 a18)) s H locs) : HO E (LaX h0 q1 a2 q3 a4 q5 a6 q7 a8 q9 a10 q11 a12 q13 a14 q15 a16 q17 a18) (ow0 (LaX h0 q1 a2 q3 a4 q5 a6 q7 a8 q9 a10 q11 a12 q13 a14 q15 a16 q17 a18)) σ0 s H locs := by
  obtain ⟨⟨hP, hD, hz, ho, hN⟩, hS⟩ := hp
  have key : ∀ k, k < 129 → ∃ e : va_E, (rX E q1 a2 q3 a4 q5 a6 q7 a8 q9 a10 q11 a12 q13 a14 q15 a16 q17 a18)[gX k]? = some ((LaX h0 q1 a2 q3 a4 q5 a6 q7 a8 q9 a10 q11 a12 q13 a14 q15 a16 q17 a18) k, e) := by
    intro k hk
    by_cases h : k = 121
    · subst h; exact ⟨_, rX_121⟩
    · exact ⟨_, rX_at k hk h⟩
  have hlen : (ws (wE E (LaX h0 q1 a2 q3 a4 q5 a6 q7 a8 q9 a10 q11 a12 q13 a14 q15 a16 q17 a18) 129) σ0).length = 129 := ws_len _ _
  refine ⟨⟨?_, ?_, hz, ho, hN⟩, hS⟩
  · intro k q hq
    match k, hq with
    | 0, hq =>
      cases hq
      exact hP 0 _ rfl
    | k + 1, hq =>
      have hk : k < 129 := by
        have h1 := (List.getElem?_eq_some_iff.mp hq).1
        rw [List.length_cons, hlen] at h1
        omega
      have e1 : q = ((LaX h0 q1 a2 q3 a4 q5 a6 q7 a8 q9 a10 q11 a12 q13 a14 q15 a16 q17 a18) k, celX (wE E (LaX h0 q1 a2 q3 a4 q5 a6 q7 a8 q9 a10 q11 a12 q13 a14 q15 a16 q17 a18) 129) (dec k).1 (dec k).2 (σ0 (dec k).1)) := (Option.some.inj ((ws_k E (LaX h0 q1 a2 q3 a4 q5 a6 q7 a8 q9 a10 q11 a12 q13 a14 q15 a16 q17 a18) 129 σ0 hk).symm.trans hq)).symm
      subst e1
      by_cases h : k = 121
      · subst h
        have h2 : H[(LaX h0 q1 a2 q3 a4 q5 a6 q7 a8 q9 a10 q11 a12 q13 a14 q15 a16 q17 a18) 121]? = some (vp_cell (eC E 4) (8, .inr (.inr (.inr (.inr (fun j => some (a10 j 0))))))) := hP (gX 121 + 1) _ (rX_121 (E := E) (h0 := h0) (q1 := q1) (a2 := a2) (q3 := q3) (a4 := a4) (q5 := q5) (a6 := a6) (q7 := q7) (a8 := a8) (q9 := q9) (a10 := a10) (q11 := q11) (a12 := a12) (q13 := q13) (a14 := a14) (q15 := q15) (a16 := a16) (q17 := q17) (a18 := a18))
        show H[(LaX h0 q1 a2 q3 a4 q5 a6 q7 a8 q9 a10 q11 a12 q13 a14 q15 a16 q17 a18) 121]? = some (vp_cell (eC E 4) (8, .inr (.inr (.inr (.inr (fun j => some (adr (wE E (LaX h0 q1 a2 q3 a4 q5 a6 q7 a8 q9 a10 q11 a12 q13 a14 q15 a16 q17 a18) 129) (3 + j) 0)))))))
        rw [h2, vp_cell_q, vp_cell_q]
        exact congrArg some (arrV_ext (fun j hj => by rw [rX_hist (E := E) (h0 := h0) (q1 := q1) (a2 := a2) (q3 := q3) (a4 := a4) (q5 := q5) (a6 := a6) (q7 := q7) (a8 := a8) (q9 := q9) (a10 := a10) (q11 := q11) (a12 := a12) (q13 := q13) (a14 := a14) (q15 := q15) (a16 := a16) (q17 := q17) (a18 := a18) j hj]))
      · exact hP (gX k + 1) _ (rX_at k hk h)
  · refine vD_of hD (fun k => match k with | 0 => 0 | k + 1 => gX k + 1) (fun k q hq => ?_) (fun i j hi hj e => ?_)
    · match k, hq with
      | 0, hq => cases hq; exact ⟨_, rfl⟩
      | k + 1, hq =>
        have hk : k < 129 := by
          have h1 := (List.getElem?_eq_some_iff.mp hq).1
          rw [List.length_cons, hlen] at h1
          omega
        have e1 : q = ((LaX h0 q1 a2 q3 a4 q5 a6 q7 a8 q9 a10 q11 a12 q13 a14 q15 a16 q17 a18) k, celX (wE E (LaX h0 q1 a2 q3 a4 q5 a6 q7 a8 q9 a10 q11 a12 q13 a14 q15 a16 q17 a18) 129) (dec k).1 (dec k).2 (σ0 (dec k).1)) := (Option.some.inj ((ws_k E (LaX h0 q1 a2 q3 a4 q5 a6 q7 a8 q9 a10 q11 a12 q13 a14 q15 a16 q17 a18) 129 σ0 hk).symm.trans hq)).symm
        subst e1
        exact key k hk
    · rw [List.length_cons, hlen] at hi hj
      match i, j, e with
      | 0, 0, _ => rfl
      | 0, j + 1, e => exact absurd e (by show ¬ (0 = gX j + 1); omega)
      | i + 1, 0, e => exact absurd e (by show ¬ (gX i + 1 = 0); omega)
      | i + 1, j + 1, e =>
        have e2 : gX i = gX j := Nat.succ.inj e
        exact congrArg (· + 1) (gX_inj i (by omega) j (by omega) e2)
end RX2
theorem us_id (σ : SM) (o : Nat) : us σ o (σ o) = σ := by
  funext q
  by_cases h : q = o
  · rw [h, us_s]
  · rw [us_n h]
set_option maxRecDepth 100000 in
set_option maxHeartbeats 4000000 in
theorem c_X12_init (l : Launch) {E : Ev} (hT : St E) (hAO : AO E) {rv : Int32} {μ1 π1 τ1 : OM} (hR : f_X9_read ZM (wI ZM 0 2 (-1)) ZM (bt 0 188) = some (rv, μ1, π1, τ1)) : Met l yX12_init (wC yX12_init cX12_init 4 none) rm_X12_init (va_Pc [.ref (eS E).heap.size] (Wul E [((eS E).heap.size, .inr (8, [.null, .null, .null, .null, .null, .null, .int 0, .null, .null, .null]))])) (va_Qv (fun (La : Nat → Nat) => La 129 = (eS E).heap.size) (fun La t => Wu (wE E La 130) (σ1 μ1 π1 τ1) t) (eA E)) 129 3390 (eA E) := by
  refine gI_entry (lv := [(0, .ref (eS E).heap.size)]) (by decide) (Nat.le_of_ble_eq_true rfl) rfl ?_
  intro p e s m below meth c cx hnm hp ls hl
  have hx := cx.1.1
  have hb := cx.1.2.1
  refine lv_aload_n hx hb dX12_init_0 rfl (lv_at hl 0 rfl) ?_
  refine oiJ cx qM_X12_3 hl.1 dX12_init_1 (by decide) (by decide) ?_
  refine lv_aload_n hx hb dX12_init_4 rfl (lv_at hl 0 rfl) ?_
  refine hl_newo cx hp (C := RX2) (T := TX2) (N := 2) (ci := 1) (fs := [.null, .int 0]) inB_X2 tyX2 tyX2_ok qK_X12_9 qA_X2 qN_X2 rfl df_X2 (by decide) (by decide) dX12_init_5 (fun q1 H hp => ?_)
  refine lv_dup hx hb dX12_init_8 rfl ?_
  refine xI hp (y_IN (As := []) (rest := [.ref q1, .ref (eS E).heap.size]) cx hp hl (c_X2_init l (E := E) _ q1) (cw_X12_11 cx rfl rfl ⟨by decide, by decide⟩) rfl rfl (Nat.le_of_ble_eq_true rfl) dX12_init_9 ⟨by decide, by decide⟩) (fun a2 H locs _ hp => ?_)
  have hp : Hl E (((eS E).heap.size, .inr (8, [.null, .null, .null, .null, .null, .null, .int 0, .null, .null, .null])) :: (sB E q1 a2)) s _ _ := hp
  have hp : Hl E (([] : va_W) ++ (((eS E).heap.size, .inr (8, [.null, .null, .null, .null, .null, .null, .int 0, .null, .null, .null])) :: (sB E q1 a2))) s _ _ := hp
  refine hl_putF cx hnm hp 0 (C := RX12) (T := TX12) (N := 10) (ci := 8) rfl rfl inB_X12 tyX12 tyX12_ok nmX12 1 (by decide) qF_X12_12 rfl rfl rfl (ty := .object "StallMarket$ByteText") (v := .ref q1) (by decide +kernel) rfl rfl (Nat.le_of_ble_eq_true rfl) dX12_init_12 (fun H locs hp => ?_)
  have hp : Hl E (((eS E).heap.size, .inr (8, [.null, .ref q1, .null, .null, .null, .null, .int 0, .null, .null, .null])) :: (sB E q1 a2)) s _ _ := hp
  refine lv_aload_n hx hb dX12_init_15 rfl (lv_at hl 0 rfl) ?_
  refine hl_newo cx hp (C := RX8) (T := TX8) (N := 4) (ci := 6) (fs := [.null, .null, .null, .int 0]) inB_X8 tyX8 tyX8_ok qK_X12_16 qA_X8 qN_X8 rfl df_X8 (by decide) (by decide) dX12_init_16 (fun q3 H hp => ?_)
  refine lv_dup hx hb dX12_init_19 rfl ?_
  refine xI hp (y_IN (As := []) (rest := [.ref q3, .ref (eS E).heap.size]) cx hp hl (c_X8_init l hAO (E := E) _ q3) (cw_X12_18 cx rfl rfl ⟨by decide, by decide⟩) rfl rfl (Nat.le_of_ble_eq_true rfl) dX12_init_20 ⟨by decide, by decide⟩) (fun a4 H locs _ hp => ?_)
  have hp : Hl E (((eS E).heap.size, .inr (8, [.null, .ref q1, .null, .null, .null, .null, .int 0, .null, .null, .null])) :: ((sB E q1 a2) ++ sS E q3 a4)) s _ _ := hp
  have hp : Hl E (([] : va_W) ++ (((eS E).heap.size, .inr (8, [.null, .ref q1, .null, .null, .null, .null, .int 0, .null, .null, .null])) :: ((sB E q1 a2) ++ sS E q3 a4))) s _ _ := hp
  refine hl_putF cx hnm hp 0 (C := RX12) (T := TX12) (N := 10) (ci := 8) rfl rfl inB_X12 tyX12 tyX12_ok nmX12 2 (by decide) qF_X12_19 rfl rfl rfl (ty := .object "StallMarket$Script") (v := .ref q3) (by decide +kernel) rfl rfl (Nat.le_of_ble_eq_true rfl) dX12_init_23 (fun H locs hp => ?_)
  have hp : Hl E (((eS E).heap.size, .inr (8, [.null, .ref q1, .ref q3, .null, .null, .null, .int 0, .null, .null, .null])) :: ((sB E q1 a2) ++ sS E q3 a4)) s _ _ := hp
  refine lv_aload_n hx hb dX12_init_26 rfl (lv_at hl 0 rfl) ?_
  refine hl_newo cx hp (C := RX5) (T := TX5) (N := 18) (ci := 3) (fs := [.int 0, .int 0, .int 0, .int 0, .int 0, .int 0, .int 0, .int 0, .int 0, .null, .null, .null, .null, .null, .null, .null, .null, .null]) inB_X5 tyX5 tyX5_ok qK_X12_23 qA_X5 qN_X5 rfl df_X5 (by decide) (by decide) dX12_init_27 (fun q5 H hp => ?_)
  refine lv_dup hx hb dX12_init_30 rfl ?_
  refine xI hp (y_IN (As := []) (rest := [.ref q5, .ref (eS E).heap.size]) cx hp hl (c_X5_init l (E := E) _ q5) (cw_X12_25 cx rfl rfl ⟨by decide, by decide⟩) rfl rfl (Nat.le_of_ble_eq_true rfl) dX12_init_31 ⟨by decide, by decide⟩) (fun a6 H locs _ hp => ?_)
  have hp : Hl E (((eS E).heap.size, .inr (8, [.null, .ref q1, .ref q3, .null, .null, .null, .int 0, .null, .null, .null])) :: (((sB E q1 a2) ++ sS E q3 a4) ++ sM E q5 a6)) s _ _ := hp
  have hp : Hl E (([] : va_W) ++ (((eS E).heap.size, .inr (8, [.null, .ref q1, .ref q3, .null, .null, .null, .int 0, .null, .null, .null])) :: (((sB E q1 a2) ++ sS E q3 a4) ++ sM E q5 a6))) s _ _ := hp
  refine hl_putF cx hnm hp 0 (C := RX12) (T := TX12) (N := 10) (ci := 8) rfl rfl inB_X12 tyX12 tyX12_ok nmX12 4 (by decide) qF_X12_26 rfl rfl rfl (ty := .object "StallMarket$Market") (v := .ref q5) (by decide +kernel) rfl rfl (Nat.le_of_ble_eq_true rfl) dX12_init_34 (fun H locs hp => ?_)
  have hp : Hl E (((eS E).heap.size, .inr (8, [.null, .ref q1, .ref q3, .null, .ref q5, .null, .int 0, .null, .null, .null])) :: (((sB E q1 a2) ++ sS E q3 a4) ++ sM E q5 a6)) s _ _ := hp
  refine lv_aload_n hx hb dX12_init_37 rfl (lv_at hl 0 rfl) ?_
  refine hl_newo cx hp (C := RX5) (T := TX5) (N := 18) (ci := 3) (fs := [.int 0, .int 0, .int 0, .int 0, .int 0, .int 0, .int 0, .int 0, .int 0, .null, .null, .null, .null, .null, .null, .null, .null, .null]) inB_X5 tyX5 tyX5_ok qK_X12_23 qA_X5 qN_X5 rfl df_X5 (by decide) (by decide) dX12_init_38 (fun q7 H hp => ?_)
  refine lv_dup hx hb dX12_init_41 rfl ?_
  refine xI hp (y_IN (As := []) (rest := [.ref q7, .ref (eS E).heap.size]) cx hp hl (c_X5_init l (E := E) _ q7) (cw_X12_25 cx rfl rfl ⟨by decide, by decide⟩) rfl rfl (Nat.le_of_ble_eq_true rfl) dX12_init_42 ⟨by decide, by decide⟩) (fun a8 H locs _ hp => ?_)
  have hp : Hl E (((eS E).heap.size, .inr (8, [.null, .ref q1, .ref q3, .null, .ref q5, .null, .int 0, .null, .null, .null])) :: ((((sB E q1 a2) ++ sS E q3 a4) ++ sM E q5 a6) ++ sM E q7 a8)) s _ _ := hp
  have hp : Hl E (([] : va_W) ++ (((eS E).heap.size, .inr (8, [.null, .ref q1, .ref q3, .null, .ref q5, .null, .int 0, .null, .null, .null])) :: ((((sB E q1 a2) ++ sS E q3 a4) ++ sM E q5 a6) ++ sM E q7 a8))) s _ _ := hp
  refine hl_putF cx hnm hp 0 (C := RX12) (T := TX12) (N := 10) (ci := 8) rfl rfl inB_X12 tyX12 tyX12_ok nmX12 5 (by decide) qF_X12_30 rfl rfl rfl (ty := .object "StallMarket$Market") (v := .ref q7) (by decide +kernel) rfl rfl (Nat.le_of_ble_eq_true rfl) dX12_init_45 (fun H locs hp => ?_)
  have hp : Hl E (((eS E).heap.size, .inr (8, [.null, .ref q1, .ref q3, .null, .ref q5, .ref q7, .int 0, .null, .null, .null])) :: ((((sB E q1 a2) ++ sS E q3 a4) ++ sM E q5 a6) ++ sM E q7 a8)) s _ _ := hp
  refine lv_aload_n hx hb dX12_init_48 rfl (lv_at hl 0 rfl) ?_
  refine lv_iconst (v := 0) hx hb dX12_init_49 (by decide) ?_
  have hp : Hl E (([] : va_W) ++ (((eS E).heap.size, .inr (8, [.null, .ref q1, .ref q3, .null, .ref q5, .ref q7, .int 0, .null, .null, .null])) :: ((((sB E q1 a2) ++ sS E q3 a4) ++ sM E q5 a6) ++ sM E q7 a8))) s _ _ := hp
  refine hl_put cx hp 0 (C := RX12) (T := TX12) (N := 10) (ci := 8) rfl rfl inB_X12 tyX12 tyX12_ok nmX12 6 (by decide) qF_X12_33 rfl rfl (ty := .boolean) (v := .int 0) (by decide +kernel) rfl rfl (Nat.le_of_ble_eq_true rfl) dX12_init_50 (fun H locs hp => ?_)
  have hp : Hl E (((eS E).heap.size, .inr (8, [.null, .ref q1, .ref q3, .null, .ref q5, .ref q7, .int 0, .null, .null, .null])) :: ((((sB E q1 a2) ++ sS E q3 a4) ++ sM E q5 a6) ++ sM E q7 a8)) s _ _ := hp
  refine lv_aload_n hx hb dX12_init_53 rfl (lv_at hl 0 rfl) ?_
  refine hl_newo cx hp (C := RX4) (T := TX4) (N := 3) (ci := 2) (fs := [.null, .int 0, .int 0]) inB_X4 tyX4 tyX4_ok qK_X12_37 qA_X4 qN_X4 rfl df_X4 (by decide) (by decide) dX12_init_54 (fun q9 H hp => ?_)
  refine lv_dup hx hb dX12_init_57 rfl ?_
  refine xI hp (y_I (As := []) (rest := [.ref q9, .ref (eS E).heap.size]) cx hp hl (c_X4_init l hAO (E := E) _ q9) (cw_X12_39 cx rfl rfl ⟨by decide, by decide⟩) rfl rfl (Nat.le_of_ble_eq_true rfl) dX12_init_58 ⟨by decide, by decide⟩) (fun a10 H locs _ hp => ?_)
  have hp : Hl E (((eS E).heap.size, .inr (8, [.null, .ref q1, .ref q3, .null, .ref q5, .ref q7, .int 0, .null, .null, .null])) :: (((((sB E q1 a2) ++ sS E q3 a4) ++ sM E q5 a6) ++ sM E q7 a8) ++ sH E q9 a10)) s _ _ := hp
  have hp : Hl E (([] : va_W) ++ (((eS E).heap.size, .inr (8, [.null, .ref q1, .ref q3, .null, .ref q5, .ref q7, .int 0, .null, .null, .null])) :: (((((sB E q1 a2) ++ sS E q3 a4) ++ sM E q5 a6) ++ sM E q7 a8) ++ sH E q9 a10))) s _ _ := hp
  refine hl_putF cx hnm hp 0 (C := RX12) (T := TX12) (N := 10) (ci := 8) rfl rfl inB_X12 tyX12 tyX12_ok nmX12 7 (by decide) qF_X12_40 rfl rfl rfl (ty := .object "StallMarket$History") (v := .ref q9) (by decide +kernel) rfl rfl (Nat.le_of_ble_eq_true rfl) dX12_init_61 (fun H locs hp => ?_)
  have hp : Hl E (((eS E).heap.size, .inr (8, [.null, .ref q1, .ref q3, .null, .ref q5, .ref q7, .int 0, .ref q9, .null, .null])) :: (((((sB E q1 a2) ++ sS E q3 a4) ++ sM E q5 a6) ++ sM E q7 a8) ++ sH E q9 a10)) s _ _ := hp
  refine lv_aload_n hx hb dX12_init_64 rfl (lv_at hl 0 rfl) ?_
  refine hl_newo cx hp (C := RX1) (T := TX1) (N := 5) (ci := 0) (fs := [.null, .null, .null, .null, .int 0]) inB_X1 tyX1 tyX1_ok qK_X12_44 qA_X1 qN_X1 rfl df_X1 (by decide) (by decide) dX12_init_65 (fun q11 H hp => ?_)
  refine lv_dup hx hb dX12_init_68 rfl ?_
  refine xI hp (y_IN (As := []) (rest := [.ref q11, .ref (eS E).heap.size]) cx hp hl (c_X1_init l (E := E) _ q11) (cw_X12_46 cx rfl rfl ⟨by decide, by decide⟩) rfl rfl (Nat.le_of_ble_eq_true rfl) dX12_init_69 ⟨by decide, by decide⟩) (fun a12 H locs _ hp => ?_)
  have hp : Hl E (((eS E).heap.size, .inr (8, [.null, .ref q1, .ref q3, .null, .ref q5, .ref q7, .int 0, .ref q9, .null, .null])) :: ((((((sB E q1 a2) ++ sS E q3 a4) ++ sM E q5 a6) ++ sM E q7 a8) ++ sH E q9 a10) ++ sA E q11 a12)) s _ _ := hp
  have hp : Hl E (([] : va_W) ++ (((eS E).heap.size, .inr (8, [.null, .ref q1, .ref q3, .null, .ref q5, .ref q7, .int 0, .ref q9, .null, .null])) :: ((((((sB E q1 a2) ++ sS E q3 a4) ++ sM E q5 a6) ++ sM E q7 a8) ++ sH E q9 a10) ++ sA E q11 a12))) s _ _ := hp
  refine hl_putF cx hnm hp 0 (C := RX12) (T := TX12) (N := 10) (ci := 8) rfl rfl inB_X12 tyX12 tyX12_ok nmX12 8 (by decide) qF_X12_47 rfl rfl rfl (ty := .object "StallMarket$Allocation") (v := .ref q11) (by decide +kernel) rfl rfl (Nat.le_of_ble_eq_true rfl) dX12_init_72 (fun H locs hp => ?_)
  have hp : Hl E (((eS E).heap.size, .inr (8, [.null, .ref q1, .ref q3, .null, .ref q5, .ref q7, .int 0, .ref q9, .ref q11, .null])) :: ((((((sB E q1 a2) ++ sS E q3 a4) ++ sM E q5 a6) ++ sM E q7 a8) ++ sH E q9 a10) ++ sA E q11 a12)) s _ _ := hp
  refine lv_aload_n hx hb dX12_init_75 rfl (lv_at hl 0 rfl) ?_
  refine hl_newo cx hp (C := RX6) (T := TX6) (N := 3) (ci := 4) (fs := [.null, .int 0, .int 0]) inB_X6 tyX6 tyX6_ok qK_X12_51 qA_X6 qN_X6 rfl df_X6 (by decide) (by decide) dX12_init_76 (fun q13 H hp => ?_)
  refine lv_dup hx hb dX12_init_79 rfl ?_
  refine xI hp (y_IN (As := []) (rest := [.ref q13, .ref (eS E).heap.size]) cx hp hl (c_X6_init l (E := E) _ q13) (cw_X12_53 cx rfl rfl ⟨by decide, by decide⟩) rfl rfl (Nat.le_of_ble_eq_true rfl) dX12_init_80 ⟨by decide, by decide⟩) (fun a14 H locs _ hp => ?_)
  have hp : Hl E (((eS E).heap.size, .inr (8, [.null, .ref q1, .ref q3, .null, .ref q5, .ref q7, .int 0, .ref q9, .ref q11, .null])) :: (((((((sB E q1 a2) ++ sS E q3 a4) ++ sM E q5 a6) ++ sM E q7 a8) ++ sH E q9 a10) ++ sA E q11 a12) ++ sG E q13 a14)) s _ _ := hp
  have hp : Hl E (([] : va_W) ++ (((eS E).heap.size, .inr (8, [.null, .ref q1, .ref q3, .null, .ref q5, .ref q7, .int 0, .ref q9, .ref q11, .null])) :: (((((((sB E q1 a2) ++ sS E q3 a4) ++ sM E q5 a6) ++ sM E q7 a8) ++ sH E q9 a10) ++ sA E q11 a12) ++ sG E q13 a14))) s _ _ := hp
  refine hl_putF cx hnm hp 0 (C := RX12) (T := TX12) (N := 10) (ci := 8) rfl rfl inB_X12 tyX12 tyX12_ok nmX12 9 (by decide) qF_X12_54 rfl rfl rfl (ty := .object "StallMarket$Matching") (v := .ref q13) (by decide +kernel) rfl rfl (Nat.le_of_ble_eq_true rfl) dX12_init_83 (fun H locs hp => ?_)
  have hp : Hl E (((eS E).heap.size, .inr (8, [.null, .ref q1, .ref q3, .null, .ref q5, .ref q7, .int 0, .ref q9, .ref q11, .ref q13])) :: (((((((sB E q1 a2) ++ sS E q3 a4) ++ sM E q5 a6) ++ sM E q7 a8) ++ sH E q9 a10) ++ sA E q11 a12) ++ sG E q13 a14)) s _ _ := hp
  refine hl_newo cx hp (C := RX7) (T := TX7) (N := 3) (ci := 5) (fs := [.null, .int 0, .int 0]) inB_X7 tyX7 tyX7_ok qK_X12_58 qA_X7 qN_X7 rfl df_X7 (by decide) (by decide) dX12_init_86 (fun q15 H hp => ?_)
  refine lv_dup hx hb dX12_init_89 rfl ?_
  refine xI hp (y_IN (As := []) (rest := [.ref q15]) cx hp hl (c_X7_init l (E := E) _ q15) (cw_X12_60 cx rfl rfl ⟨by decide, by decide⟩) rfl rfl (Nat.le_of_ble_eq_true rfl) dX12_init_90 ⟨by decide, by decide⟩) (fun a16 H locs _ hp => ?_)
  have hp : Hl E (((eS E).heap.size, .inr (8, [.null, .ref q1, .ref q3, .null, .ref q5, .ref q7, .int 0, .ref q9, .ref q11, .ref q13])) :: ((((((((sB E q1 a2) ++ sS E q3 a4) ++ sM E q5 a6) ++ sM E q7 a8) ++ sH E q9 a10) ++ sA E q11 a12) ++ sG E q13 a14) ++ sP E q15 a16)) s _ _ := hp
  refine lv_astore_n (lv' := [(1, .ref q15), (0, .ref (eS E).heap.size)]) hx hb dX12_init_93 rfl hl (by decide) rfl (fun ls hl => ?_)
  refine hl_newo cx hp (C := RX5) (T := TX5) (N := 18) (ci := 3) (fs := [.int 0, .int 0, .int 0, .int 0, .int 0, .int 0, .int 0, .int 0, .int 0, .null, .null, .null, .null, .null, .null, .null, .null, .null]) inB_X5 tyX5 tyX5_ok qK_X12_23 qA_X5 qN_X5 rfl df_X5 (by decide) (by decide) dX12_init_94 (fun q17 H hp => ?_)
  refine lv_dup hx hb dX12_init_97 rfl ?_
  refine xI hp (y_IN (As := []) (rest := [.ref q17]) cx hp hl (c_X5_init l (E := E) _ q17) (cw_X12_25 cx rfl rfl ⟨by decide, by decide⟩) rfl rfl (Nat.le_of_ble_eq_true rfl) dX12_init_98 ⟨by decide, by decide⟩) (fun a18 H locs _ hp => ?_)
  have hp : Hl E (((eS E).heap.size, .inr (8, [.null, .ref q1, .ref q3, .null, .ref q5, .ref q7, .int 0, .ref q9, .ref q11, .ref q13])) :: (((((((((sB E q1 a2) ++ sS E q3 a4) ++ sM E q5 a6) ++ sM E q7 a8) ++ sH E q9 a10) ++ sA E q11 a12) ++ sG E q13 a14) ++ sP E q15 a16) ++ sM E q17 a18)) s _ _ := hp
  refine lv_astore_n (lv' := [(2, .ref q17), (1, .ref q15), (0, .ref (eS E).heap.size)]) hx hb dX12_init_101 rfl hl (by decide) rfl (fun ls hl => ?_)
  refine lv_iconst (v := 0) hx hb dX12_init_102 (by decide) ?_
  refine lv_istore_n (lv' := [(3, .int 0), (2, .ref q17), (1, .ref q15), (0, .ref (eS E).heap.size)]) hx hb dX12_init_103 rfl hl (by decide) rfl (fun ls hl => ?_)
  have ho : HO E (LaX (eS E).heap.size q1 a2 q3 a4 q5 a6 q7 a8 q9 a10 q11 a12 q13 a14 q15 a16 q17 a18) (ow0 (LaX (eS E).heap.size q1 a2 q3 a4 q5 a6 q7 a8 q9 a10 q11 a12 q13 a14 q15 a16 q17 a18)) (us σ0 13 (bt 0 0)) s H locs := by
    rw [bt_0]
    have e1 : us σ0 13 ZM = σ0 := us_id σ0 13
    rw [e1]
    exact ho_of rfl hp
  refine i12_l l hT cx (La := (LaX (eS E).heap.size q1 a2 q3 a4 q5 a6 q7 a8 q9 a10 q11 a12 q13 a14 q15 a16 q17 a18)) (fun H locs ls ho hl => i12_a l hT rfl hR cx hnm ho hl) 188 0 rfl H locs ls ho ?_
  exact hl

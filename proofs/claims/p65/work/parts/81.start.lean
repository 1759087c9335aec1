/-! from the entry to the loop's head: the class's object, the law's own -/
theorem W.sz {p : Program} {l : Launch} {e : Env} {R : Room} {s : State} {m : MethodId} {args : Array Value} {below : List Frame} {meth : Method} {c : Code} {H : Heap} {locs : List Loc} {cells slots : Nat} {Q : State → Prop} {g : JFrame} (kk : H.size ≤ s.heap.size + cells → W p l e R s m args below meth c H locs cells slots Q g) : W p l e R s m args below meth c H locs cells slots Q g := fun T hT X => kk (by
  have h := X.heapSize
  rw [hT] at h
  exact h) T hT X
theorem sx_T {E : Ev} {b L : Nat} {xs : Nat → Int32} (SX : va_X b L xs (eS E) (eS E).heap) (hbl : b < (eS E).heap.size) : va_T .int b L (fun j => .int (xs j)) (eA E) (eS E) (eS E).heap := by
  obtain ⟨scr, h1, h2, h3, h4, h5⟩ := SX
  exact ⟨scr, h1, h2, h3, Nat.le_of_eq h4.symm, by rw [h4], h5, Nat.not_le.mpr hbl⟩
set_option maxRecDepth 100000 in
set_option maxHeartbeats 4000000 in
theorem whole_start {p : Program} {e : Env} {s : State} {m : MethodId} {below : List Frame} {meth : Method} {c : Code} (l : Launch) (hflags : l.flags = flags0) {b L : Nat} {xs : Nat → Int32} (hL : L ≤ 260) (C0 : lw_At p s m meth c b L xs) : W p l e room_1 s m #[Value.ref b] below meth c s.heap [] 0 0 (lw_Z below #[Value.ref b] s) (entryFrame m ([Value.ref b] : List Value).toArray 5) := by
  obtain ⟨E, rfl, hN0, hT, hAO, hK, hKx⟩ := the_env C0
  obtain ⟨hx, hb, hr, hml, hown, hts, SX, hbl, hlocks, -⟩ := C0
  have cx : Cx E p (eS E) m meth c #[Value.ref b] RL cL_law 5 (some .boolean) := ⟨⟨hx, hb, hml, hown, fun w hw => hts w (tb_lw hw)⟩, ⟨hr, hlocks⟩, ⟨Vm.Alike.refl _, hK, hKx⟩, Nat.le_refl _, fun _ _ => rfl, by rw [hN0]; decide⟩
  have hp : Hl E [] (eS E) (eS E).heap [] := ⟨⟨fun k q h => (by cases h), ⟨fun i j p q h => (by cases h), fun k q h => (by cases h)⟩, Nat.le_refl _, fun _ _ => rfl, by rw [hN0]; decide⟩, va_S.rf⟩
  suffices body : ∀ ls : Array Slot, lv_has ls 5 [(0, .ref b)] → W p l e room_1 (eS E) m #[Value.ref b] below meth c (eS E).heap [] 0 0 (lw_Z below #[Value.ref b] (eS E)) (F0 m 0 ls []) by
    rw [lg_entry_eq]
    exact body _ (lv_entry [.ref b] (Nat.le_of_ble_eq_true rfl))
  intro ls hl
  refine hl_newo cx hp (C := RX12) (T := TX12) (N := 10) (ci := 8) (fs := [.null, .null, .null, .null, .null, .null, .int 0, .null, .null, .null]) inB_X12 tyX12 tyX12_ok qK_L_7 qA_X12 qN_X12 rfl df_X12 (by decide) (by decide) dL_law_0 (fun q1 H hp => ?_)
  refine W.sz (fun hsz => ?_)
  have h1 : q1 < H.size := vx_lt (k := 0) hp.1.1 rfl
  have h2 : (eS E).heap.size ≤ q1 := hp.1.2.1.2 0 _ rfl
  obtain rfl : q1 = (eS E).heap.size := by omega
  refine lv_dup hx hb dL_law_3 rfl ?_
  obtain ⟨rv, μ1, π1, τ1, σ', g0, hlaw⟩ := law_true xs L hL
  refine va_callv (y_I (As := []) (rest := [.ref (eS E).heap.size]) cx hp hl (c_X12_init l hT hAO g0) (cw_L_9 cx rfl rfl ⟨by decide, by decide⟩) rfl rfl (Nat.le_of_ble_eq_true rfl) dL_law_4 ⟨by decide, by decide⟩) hp.2 (fun _ _ h => h) (fun _ h => h) (fun La t H1 locs1 ht _ hLa hW _ _ hS => ?_)
  refine lv_astore_n (lv' := [(1, .ref (eS E).heap.size), (0, .ref b)]) hx hb dL_law_7 rfl hl (by decide) rfl (fun ls hl => ?_)
  have cy := cx.w La 130 (by decide)
  have hp : Hl (wE E La 130) (ws (wE E La 130) (σ1 μ1 π1 τ1)) (eS E) H1 locs1 := ⟨ht ▸ hW.2, hS⟩
  refine hl_newo cy hp (C := RX13) (T := TX13) (N := 18) (ci := 9) (fs := [.null, .null, .null, .null, .null, .null, .null, .null, .null, .null, .null, .null, .int 0, .int 0, .int 0, .int 0, .int 0, .int 0]) inB_X13 tyX13 tyX13_ok qK_L_10 qA_X13 qN_X13 rfl df_X13 (by decide) (by decide) dL_law_8 (fun q2 H hp => ?_)
  refine lv_dup hx hb dL_law_11 rfl ?_
  refine va_callv (y_IN (As := []) (rest := [.ref q2]) cy hp hl (c_X13_init l (E := wE E La 130) rfl hAO) (cw_L_12 cy rfl rfl ⟨by decide, by decide⟩) rfl rfl (Nat.le_of_ble_eq_true rfl) dL_law_12 ⟨by decide, by decide⟩) hp.2 (fun _ _ h => h) (fun _ h => h) (fun La2 t2 H2 locs2 ht2 _ hLa2 hW2 _ _ hS2 => ?_)
  refine lv_astore_n (lv' := [(2, .ref q2), (1, .ref (eS E).heap.size), (0, .ref b)]) hx hb dL_law_15 rfl hl (by decide) rfl (fun ls hl => ?_)
  have hp : Hp (wE E La2 151) (us (σ1 μ1 π1 τ1) 20 ZM) (eS E) H2 locs2 := ⟨ht2 ▸ hW2.2, hS2⟩
  have h129 : La2 129 = (eS E).heap.size := hLa2.1.trans hLa
  have h130 : La2 130 = q2 := hLa2.2
  have e9 : [(0, Value.ref b), (1, .ref (adr (wE E La2 151) 19 0)), (2, .ref (adr (wE E La2 151) 20 0))] = [(0, .ref b), (1, .ref (eS E).heap.size), (2, .ref q2)] := by
    show [(0, Value.ref b), (1, .ref (La2 129)), (2, .ref (La2 130))] = _
    rw [h129, h130]
  refine L_L_law_16 (E := wE E La2 151) l (Nat.le_refl 151) (hT.w _ _) (sx_T SX hbl) (cx.w _ 151 (Nat.le_refl _)) (fun H locs ls hp hl => ?_) FU hlaw hp (e9 ▸ lv_sub hl [2, 1, 0] rfl)
  refine lv_iconst (v := 1) hx hb dL_law_223 (by decide) ?_
  refine va_forget (fun q hq => hp.2.2.2 q hq) ?_
  refine W.widen (k := 600086) (n := 7301442) (Nat.le_of_ble_eq_true rfl) (Nat.le_of_ble_eq_true rfl) ?_
  exact lw_ret hx hb hr hlocks dL_law_224

set_option maxRecDepth 100000 in
set_option maxHeartbeats 4000000 in
theorem k_0 {p : Program} {l : Launch} {e : Env} {s : State} {m : MethodId} {below : List Frame} {meth : Method} {c : Code} {E : Ev} {b Ls : Nat} {xs : Nat → Int32} (hlf : l.stackTraces = false) (hN : 147 ≤ eN E) (hT : St E) (hC : NC E) (cx : Cx E p s m meth c #[Value.ref b] RL cL_law 9 (some .boolean)) (SX : va_X b Ls xs s s.heap) (hbl : b < s.heap.size) (hbA : ¬ eA E b) (hLs : Ls ≤ 3072) {Q : State → Prop} {i B : Nat} (hi : i + 6 ≤ Ls) (hB9 : 9999 ≤ B) (hB : B + 300000 < 2 ^ 31) {σ : SM} (hr : Rel B σ) {cells slots : Nat} (hc : cells + 3 ≤ 601024 ∧ slots + 18 ≤ 7293034) {H : Heap} {locs : List Loc} (hp : Hp E σ s H locs) {ls : Array Slot} (hl : lv_has ls 9 (LL b E i))
    (K : ∀ (τ : SM) (H : Heap) (locs : List Loc) (ls : Array Slot), Rel (B + 196020) τ → Hp E τ s H locs → lv_has ls 9 (LL b E i) → W p l e room_1 s m #[Value.ref b] below meth c H locs (cells + 3) (slots + 18) Q (F0 m 2958 ls [])) : W p l e room_1 s m #[Value.ref b] below meth c H locs cells slots Q (F0 m 304 ls []) := by
  have hx := cx.1.1
  have hb := cx.1.2.1
  obtain ⟨z, r, ρ', σ', e1, e2, hz, e20, hr9, ho⟩ := fs_two (Nat.le_refl B) oI (by decide) (P_appendInput hr (xs (i + 1)) (xs (i + 2)) (xs (i + 3)) (xs (i + 4)) (xs (i + 5)))
  refine lv_aload_n hx hb dL_law_304 rfl (lv_at hl 1 rfl) ?_
  refine lv_aload_n hx hb dL_law_305 rfl (lv_at hl 0 rfl) ?_
  refine lv_iload hx hb dL_law_306 (lv_at hl 4 rfl) ?_
  refine lv_iconst (v := 1) hx hb dL_law_308 (by decide) ?_
  refine lv_iadd hx hb dL_law_309 ?_
  refine s_ld (k := 1) rfl (by decide) hi hLs SX hbl hbA cx hp dL_law_310 ?_
  refine lv_aload_n hx hb dL_law_311 rfl (lv_at hl 0 rfl) ?_
  refine lv_iload hx hb dL_law_312 (lv_at hl 4 rfl) ?_
  refine lv_iconst (v := 2) hx hb dL_law_314 (by decide) ?_
  refine lv_iadd hx hb dL_law_315 ?_
  refine s_ld (k := 2) rfl (by decide) hi hLs SX hbl hbA cx hp dL_law_316 ?_
  refine lv_aload_n hx hb dL_law_317 rfl (lv_at hl 0 rfl) ?_
  refine lv_iload hx hb dL_law_318 (lv_at hl 4 rfl) ?_
  refine lv_iconst (v := 3) hx hb dL_law_320 (by decide) ?_
  refine lv_iadd hx hb dL_law_321 ?_
  refine s_ld (k := 3) rfl (by decide) hi hLs SX hbl hbA cx hp dL_law_322 ?_
  refine lv_aload_n hx hb dL_law_323 rfl (lv_at hl 0 rfl) ?_
  refine lv_iload hx hb dL_law_324 (lv_at hl 4 rfl) ?_
  refine lv_iconst (v := 4) hx hb dL_law_326 (by decide) ?_
  refine lv_iadd hx hb dL_law_327 ?_
  refine s_ld (k := 4) rfl (by decide) hi hLs SX hbl hbA cx hp dL_law_328 ?_
  refine lv_aload_n hx hb dL_law_329 rfl (lv_at hl 0 rfl) ?_
  refine lv_iload hx hb dL_law_330 (lv_at hl 4 rfl) ?_
  refine lv_iconst (v := 5) hx hb dL_law_332 (by decide) ?_
  refine lv_iadd hx hb dL_law_333 ?_
  refine s_ld (k := 5) rfl (by decide) hi hLs SX hbl hbA cx hp dL_law_334 ?_
  refine lv_aload_n hx hb dL_law_335 rfl (lv_at hl 3 rfl) ?_
  refine x_iM hp (y_SW (As := [.ref (adr E 19 0), .int (xs (i + 1)), .int (xs (i + 2)), .int (xs (i + 3)), .int (xs (i + 4)), .int (xs (i + 5)), .ref (adr E 21 0)]) (rest := []) cx hp hl (c_L_appendInput l hN hT hlf hC e1 hz) (cwS_L_appendInput cx ⟨by decide, by decide⟩) rfl rfl (Nat.le_of_ble_eq_true rfl) dL_law_336 ⟨by show _ ≤ 601024; omega, by show _ ≤ 7293034; omega⟩) (fun r9 u H locs hq hp => ?_)
  obtain ⟨rfl, rfl⟩ := hq
  refine lv_istore (lv' := [(5, .int (ρ'.1 0 12)), (0, .ref b), (1, .ref (adr E 19 0)), (2, .ref (adr E 20 0)), (3, .ref (adr E 21 0)), (4, .int (nI i))]) hx hb dL_law_339 hl (by decide) rfl (fun ls hl => ?_)
  refine lv_aload_n hx hb dL_law_341 rfl (lv_at hl 3 rfl) ?_
  refine lv_aload_n hx hb dL_law_342 rfl (lv_at hl 1 rfl) ?_
  refine lv_iload hx hb dL_law_343 (lv_at hl 5 rfl) ?_
  refine lv_iconst (v := 1) hx hb dL_law_345 (by decide) ?_
  refine lv_iadd hx hb dL_law_346 ?_
  refine s_ld (k := 1) rfl (by decide) hi hLs SX hbl hbA cx hp dL_law_347 ?_
  refine lv_aload_n hx hb dL_law_348 rfl (lv_at hl 1 rfl) ?_
  refine lv_iload hx hb dL_law_349 (lv_at hl 5 rfl) ?_
  refine lv_iconst (v := 2) hx hb dL_law_351 (by decide) ?_
  refine lv_iadd hx hb dL_law_352 ?_
  refine s_ld (k := 2) rfl (by decide) hi hLs SX hbl hbA cx hp dL_law_353 ?_
  refine lv_aload_n hx hb dL_law_354 rfl (lv_at hl 1 rfl) ?_
  refine lv_iload hx hb dL_law_355 (lv_at hl 5 rfl) ?_
  refine lv_iconst (v := 3) hx hb dL_law_357 (by decide) ?_
  refine lv_iadd hx hb dL_law_358 ?_
  refine s_ld (k := 3) rfl (by decide) hi hLs SX hbl hbA cx hp dL_law_359 ?_
  refine lv_aload_n hx hb dL_law_360 rfl (lv_at hl 1 rfl) ?_
  refine lv_iload hx hb dL_law_361 (lv_at hl 5 rfl) ?_
  refine lv_iconst (v := 4) hx hb dL_law_363 (by decide) ?_
  refine lv_iadd hx hb dL_law_364 ?_
  refine s_ld (k := 4) rfl (by decide) hi hLs SX hbl hbA cx hp dL_law_365 ?_
  refine lv_aload_n hx hb dL_law_366 rfl (lv_at hl 1 rfl) ?_
  refine lv_iload hx hb dL_law_367 (lv_at hl 5 rfl) ?_
  refine lv_iconst (v := 5) hx hb dL_law_369 (by decide) ?_
  refine lv_iadd hx hb dL_law_370 ?_
  refine s_ld (k := 5) rfl (by decide) hi hLs SX hbl hbA cx hp dL_law_371 ?_
  refine x_i hp (y_V (As := [.int (xs (i + 1)), .int (xs (i + 2)), .int (xs (i + 3)), .int (xs (i + 4)), .int (xs (i + 5))]) (rest := []) cx hp hl (c_X13_appendInput l (Nat.le_trans (by decide) hN) hT e20 e2) (cw_L_135 cx rfl rfl ⟨by decide, by decide⟩) (rC_X13 (Nat.le_trans (by decide) hN) cx hp) rfl rfl (Nat.le_of_ble_eq_true rfl) dL_law_372 ⟨by show _ ≤ 601024; omega, by show _ ≤ 7293034; omega⟩) (fun r9 u H locs hq hp => ?_)
  obtain ⟨rfl, hu, hn⟩ := hq
  obtain rfl := us_x hu hn
  refine lv_istore (lv' := [(6, .int r), (5, .int (ρ'.1 0 12)), (0, .ref b), (1, .ref (adr E 19 0)), (2, .ref (adr E 20 0)), (3, .ref (adr E 21 0)), (4, .int (nI i))]) hx hb dL_law_375 hl (by decide) rfl (fun ls hl => ?_)
  refine lv_aload_n hx hb dL_law_377 rfl (lv_at hl 4 rfl) ?_
  refine x_i hp (y_V (As := []) (rest := []) cx hp hl (c_X13_thrown l (Nat.le_trans (by decide) hN) hT (us_s _ _ _) rfl) (cw_L_136 cx rfl rfl ⟨by decide, by decide⟩) (rC_X13 (Nat.le_trans (by decide) hN) cx hp) rfl rfl (Nat.le_of_ble_eq_true rfl) dL_law_378 ⟨by show _ ≤ 601024; omega, by show _ ≤ 7293034; omega⟩) (fun r9 u H locs hq hp => ?_)
  obtain ⟨rfl, rfl⟩ := hq
  refine lv_iload hx hb dL_law_381 (lv_at hl 1 rfl) ?_
  refine lv_icmp_eq (tgt := 388) hx hb dL_law_383 (by decide) (fun _ => ?_) (fun c9 => absurd rfl c9)
  refine lv_iload hx hb dL_law_388 (lv_at hl 1 rfl) ?_
  refine lv_if_ne (tgt := 405) hx hb dL_law_390 (by decide) (fun c9 => ?_) (fun c9 => ?_)
  · skip
    refine lv_goto (tgt := 2958) hx hb dL_law_405 (by decide) ?_
    refine W.widen (k := cells + 3) (n := slots + 18) (by omega) (by omega) ?_
    exact K _ H locs ls (hr9.mono (by omega)) hp (lv_sub hl [2, 3, 4, 5, 6] rfl)
  · skip
    refine lv_aload_n hx hb dL_law_393 rfl (lv_at hl 5 rfl) ?_
    refine lv_iconst (v := 0) hx hb dL_law_394 (by decide) ?_
    refine l_out hN cx hp (x := oI r) (by rw [us_n (by decide)]; exact ho (c9.trans nI_0.symm)) dL_law_395 ?_
    refine lv_iload hx hb dL_law_396 (lv_at hl 0 rfl) ?_
    refine lv_i2l hx hb dL_law_398 rfl ?_
    refine W.lcmp hx hb dL_law_399 ?_
    refine lv_if_eq (tgt := 405) hx hb dL_law_400 (by decide) (fun _ => ?_) (fun c8 => absurd (lgc_rf _) c8)
    refine lv_goto (tgt := 2958) hx hb dL_law_405 (by decide) ?_
    refine W.widen (k := cells + 3) (n := slots + 18) (by omega) (by omega) ?_
    exact K _ H locs ls (hr9.mono (by omega)) hp (lv_sub hl [2, 3, 4, 5, 6] rfl)
set_option maxRecDepth 100000 in
set_option maxHeartbeats 4000000 in
theorem k_1 {p : Program} {l : Launch} {e : Env} {s : State} {m : MethodId} {below : List Frame} {meth : Method} {c : Code} {E : Ev} {b Ls : Nat} {xs : Nat → Int32} (hlf : l.stackTraces = false) (hN : 147 ≤ eN E) (hT : St E) (hC : NC E) (cx : Cx E p s m meth c #[Value.ref b] RL cL_law 9 (some .boolean)) (SX : va_X b Ls xs s s.heap) (hbl : b < s.heap.size) (hbA : ¬ eA E b) (hLs : Ls ≤ 3072) {Q : State → Prop} {i B : Nat} (hi : i + 6 ≤ Ls) (hB9 : 9999 ≤ B) (hB : B + 300000 < 2 ^ 31) {σ : SM} (hr : Rel B σ) {cells slots : Nat} (hc : cells + 3 ≤ 601024 ∧ slots + 18 ≤ 7293034) {H : Heap} {locs : List Loc} (hp : Hp E σ s H locs) {ls : Array Slot} (hl : lv_has ls 9 (LL b E i))
    (K : ∀ (τ : SM) (H : Heap) (locs : List Loc) (ls : Array Slot), Rel (B + 196020) τ → Hp E τ s H locs → lv_has ls 9 (LL b E i) → W p l e room_1 s m #[Value.ref b] below meth c H locs (cells + 3) (slots + 18) Q (F0 m 2958 ls [])) : W p l e room_1 s m #[Value.ref b] below meth c H locs cells slots Q (F0 m 408 ls []) := by
  have hx := cx.1.1
  have hb := cx.1.2.1
  obtain ⟨z, r, ρ', σ', e1, e2, hz, e20, hr9, ho⟩ := fs_two (Nat.le_refl B) oI (by decide) (P_truncateInput hr (xs (i + 1)))
  refine lv_aload_n hx hb dL_law_408 rfl (lv_at hl 1 rfl) ?_
  refine lv_aload_n hx hb dL_law_409 rfl (lv_at hl 0 rfl) ?_
  refine lv_iload hx hb dL_law_410 (lv_at hl 4 rfl) ?_
  refine lv_iconst (v := 1) hx hb dL_law_412 (by decide) ?_
  refine lv_iadd hx hb dL_law_413 ?_
  refine s_ld (k := 1) rfl (by decide) hi hLs SX hbl hbA cx hp dL_law_414 ?_
  refine lv_aload_n hx hb dL_law_415 rfl (lv_at hl 3 rfl) ?_
  refine x_iM hp (y_SW (As := [.ref (adr E 19 0), .int (xs (i + 1)), .ref (adr E 21 0)]) (rest := []) cx hp hl (c_L_truncateInput l hN hT hlf hC e1 hz) (cwS_L_truncateInput cx ⟨by decide, by decide⟩) rfl rfl (Nat.le_of_ble_eq_true rfl) dL_law_416 ⟨by show _ ≤ 601024; omega, by show _ ≤ 7293034; omega⟩) (fun r9 u H locs hq hp => ?_)
  obtain ⟨rfl, rfl⟩ := hq
  refine lv_istore (lv' := [(5, .int (ρ'.1 0 12)), (0, .ref b), (1, .ref (adr E 19 0)), (2, .ref (adr E 20 0)), (3, .ref (adr E 21 0)), (4, .int (nI i))]) hx hb dL_law_419 hl (by decide) rfl (fun ls hl => ?_)
  refine lv_aload_n hx hb dL_law_421 rfl (lv_at hl 3 rfl) ?_
  refine lv_aload_n hx hb dL_law_422 rfl (lv_at hl 1 rfl) ?_
  refine lv_iload hx hb dL_law_423 (lv_at hl 5 rfl) ?_
  refine lv_iconst (v := 1) hx hb dL_law_425 (by decide) ?_
  refine lv_iadd hx hb dL_law_426 ?_
  refine s_ld (k := 1) rfl (by decide) hi hLs SX hbl hbA cx hp dL_law_427 ?_
  refine x_i hp (y_V (As := [.int (xs (i + 1))]) (rest := []) cx hp hl (c_X13_truncateInput l (Nat.le_trans (by decide) hN) hT e20 e2) (cw_L_142 cx rfl rfl ⟨by decide, by decide⟩) (rC_X13 (Nat.le_trans (by decide) hN) cx hp) rfl rfl (Nat.le_of_ble_eq_true rfl) dL_law_428 ⟨by show _ ≤ 601024; omega, by show _ ≤ 7293034; omega⟩) (fun r9 u H locs hq hp => ?_)
  obtain ⟨rfl, hu, hn⟩ := hq
  obtain rfl := us_x hu hn
  refine lv_istore (lv' := [(6, .int r), (5, .int (ρ'.1 0 12)), (0, .ref b), (1, .ref (adr E 19 0)), (2, .ref (adr E 20 0)), (3, .ref (adr E 21 0)), (4, .int (nI i))]) hx hb dL_law_431 hl (by decide) rfl (fun ls hl => ?_)
  refine lv_aload_n hx hb dL_law_433 rfl (lv_at hl 4 rfl) ?_
  refine x_i hp (y_V (As := []) (rest := []) cx hp hl (c_X13_thrown l (Nat.le_trans (by decide) hN) hT (us_s _ _ _) rfl) (cw_L_136 cx rfl rfl ⟨by decide, by decide⟩) (rC_X13 (Nat.le_trans (by decide) hN) cx hp) rfl rfl (Nat.le_of_ble_eq_true rfl) dL_law_434 ⟨by show _ ≤ 601024; omega, by show _ ≤ 7293034; omega⟩) (fun r9 u H locs hq hp => ?_)
  obtain ⟨rfl, rfl⟩ := hq
  refine lv_iload hx hb dL_law_437 (lv_at hl 1 rfl) ?_
  refine lv_icmp_eq (tgt := 444) hx hb dL_law_439 (by decide) (fun _ => ?_) (fun c9 => absurd rfl c9)
  refine lv_iload hx hb dL_law_444 (lv_at hl 1 rfl) ?_
  refine lv_if_ne (tgt := 461) hx hb dL_law_446 (by decide) (fun c9 => ?_) (fun c9 => ?_)
  · skip
    refine lv_goto (tgt := 2958) hx hb dL_law_461 (by decide) ?_
    refine W.widen (k := cells + 3) (n := slots + 18) (by omega) (by omega) ?_
    exact K _ H locs ls (hr9.mono (by omega)) hp (lv_sub hl [2, 3, 4, 5, 6] rfl)
  · skip
    refine lv_aload_n hx hb dL_law_449 rfl (lv_at hl 5 rfl) ?_
    refine lv_iconst (v := 0) hx hb dL_law_450 (by decide) ?_
    refine l_out hN cx hp (x := oI r) (by rw [us_n (by decide)]; exact ho (c9.trans nI_0.symm)) dL_law_451 ?_
    refine lv_iload hx hb dL_law_452 (lv_at hl 0 rfl) ?_
    refine lv_i2l hx hb dL_law_454 rfl ?_
    refine W.lcmp hx hb dL_law_455 ?_
    refine lv_if_eq (tgt := 461) hx hb dL_law_456 (by decide) (fun _ => ?_) (fun c8 => absurd (lgc_rf _) c8)
    refine lv_goto (tgt := 2958) hx hb dL_law_461 (by decide) ?_
    refine W.widen (k := cells + 3) (n := slots + 18) (by omega) (by omega) ?_
    exact K _ H locs ls (hr9.mono (by omega)) hp (lv_sub hl [2, 3, 4, 5, 6] rfl)
set_option maxRecDepth 100000 in
set_option maxHeartbeats 4000000 in
theorem k_2 {p : Program} {l : Launch} {e : Env} {s : State} {m : MethodId} {below : List Frame} {meth : Method} {c : Code} {E : Ev} {b Ls : Nat} {xs : Nat → Int32} (hlf : l.stackTraces = false) (hN : 147 ≤ eN E) (hT : St E) (hC : NC E) (cx : Cx E p s m meth c #[Value.ref b] RL cL_law 9 (some .boolean)) (SX : va_X b Ls xs s s.heap) (hbl : b < s.heap.size) (hbA : ¬ eA E b) (hLs : Ls ≤ 3072) {Q : State → Prop} {i B : Nat} (hi : i + 6 ≤ Ls) (hB9 : 9999 ≤ B) (hB : B + 300000 < 2 ^ 31) {σ : SM} (hr : Rel B σ) {cells slots : Nat} (hc : cells + 3 ≤ 601024 ∧ slots + 18 ≤ 7293034) {H : Heap} {locs : List Loc} (hp : Hp E σ s H locs) {ls : Array Slot} (hl : lv_has ls 9 (LL b E i))
    (K : ∀ (τ : SM) (H : Heap) (locs : List Loc) (ls : Array Slot), Rel (B + 196020) τ → Hp E τ s H locs → lv_has ls 9 (LL b E i) → W p l e room_1 s m #[Value.ref b] below meth c H locs (cells + 3) (slots + 18) Q (F0 m 2958 ls [])) : W p l e room_1 s m #[Value.ref b] below meth c H locs cells slots Q (F0 m 464 ls []) := by
  have hx := cx.1.1
  have hb := cx.1.2.1
  obtain ⟨r, τ, ρ', e1, e2, e20, hr9⟩ := P_loadSetup hr hB9 
  refine lv_aload_n hx hb dL_law_464 rfl (lv_at hl 1 rfl) ?_
  refine x_i hp (y_V (As := []) (rest := []) cx hp hl (c_X12_loadSetup l (Nat.le_trans (by decide) hN) hT e1) (cw_L_143 cx rfl rfl ⟨by decide, by decide⟩) (rC_X12 (Nat.le_trans (by decide) hN) cx hp) rfl rfl (Nat.le_of_ble_eq_true rfl) dL_law_465 ⟨by show _ ≤ 601024; omega, by show _ ≤ 7293034; omega⟩) (fun r9 u H locs hq hp => ?_)
  obtain ⟨rfl, rfl⟩ := hq
  refine lv_aload_n hx hb dL_law_468 rfl (lv_at hl 2 rfl) ?_
  refine x_i hp (y_V (As := []) (rest := [.int r]) cx hp hl (c_X13_loadSetup l (Nat.le_trans (by decide) hN) hT e20 e2) (cw_L_146 cx rfl rfl ⟨by decide, by decide⟩) (rC_X13 (Nat.le_trans (by decide) hN) cx hp) rfl rfl (Nat.le_of_ble_eq_true rfl) dL_law_469 ⟨by show _ ≤ 601024; omega, by show _ ≤ 7293034; omega⟩) (fun r9 u H locs hq hp => ?_)
  obtain ⟨rfl, hu, hn⟩ := hq
  obtain rfl := us_x hu hn
  refine lv_icmp_eq (tgt := 2958) hx hb dL_law_472 (by decide) (fun _ => ?_) (fun c9 => absurd rfl c9)
  refine W.widen (k := cells + 3) (n := slots + 18) (by omega) (by omega) ?_
  exact K _ H locs ls (hr9.mono (by omega)) hp hl
set_option maxRecDepth 100000 in
set_option maxHeartbeats 4000000 in
theorem k_3 {p : Program} {l : Launch} {e : Env} {s : State} {m : MethodId} {below : List Frame} {meth : Method} {c : Code} {E : Ev} {b Ls : Nat} {xs : Nat → Int32} (hlf : l.stackTraces = false) (hN : 147 ≤ eN E) (hT : St E) (hC : NC E) (cx : Cx E p s m meth c #[Value.ref b] RL cL_law 9 (some .boolean)) (SX : va_X b Ls xs s s.heap) (hbl : b < s.heap.size) (hbA : ¬ eA E b) (hLs : Ls ≤ 3072) {Q : State → Prop} {i B : Nat} (hi : i + 6 ≤ Ls) (hB9 : 9999 ≤ B) (hB : B + 300000 < 2 ^ 31) {σ : SM} (hr : Rel B σ) {cells slots : Nat} (hc : cells + 3 ≤ 601024 ∧ slots + 18 ≤ 7293034) {H : Heap} {locs : List Loc} (hp : Hp E σ s H locs) {ls : Array Slot} (hl : lv_has ls 9 (LL b E i))
    (K : ∀ (τ : SM) (H : Heap) (locs : List Loc) (ls : Array Slot), Rel (B + 196020) τ → Hp E τ s H locs → lv_has ls 9 (LL b E i) → W p l e room_1 s m #[Value.ref b] below meth c H locs (cells + 3) (slots + 18) Q (F0 m 2958 ls [])) : W p l e room_1 s m #[Value.ref b] below meth c H locs cells slots Q (F0 m 477 ls []) := by
  have hx := cx.1.1
  have hb := cx.1.2.1
  obtain ⟨r, τ, ρ', e1, e2, e20, hr9⟩ := P_runScript hr (by omega) 
  refine lv_aload_n hx hb dL_law_477 rfl (lv_at hl 1 rfl) ?_
  refine x_i hp (y_V (As := []) (rest := []) cx hp hl (c_X12_runScript l (Nat.le_trans (by decide) hN) hT e1) (cw_L_147 cx rfl rfl ⟨by decide, by decide⟩) (rC_X12 (Nat.le_trans (by decide) hN) cx hp) rfl rfl (Nat.le_of_ble_eq_true rfl) dL_law_478 ⟨by show _ ≤ 601024; omega, by show _ ≤ 7293034; omega⟩) (fun r9 u H locs hq hp => ?_)
  obtain ⟨rfl, rfl⟩ := hq
  refine lv_aload_n hx hb dL_law_481 rfl (lv_at hl 2 rfl) ?_
  refine x_i hp (y_V (As := []) (rest := [.int r]) cx hp hl (c_X13_runScript l (Nat.le_trans (by decide) hN) hT e20 e2) (cw_L_150 cx rfl rfl ⟨by decide, by decide⟩) (rC_X13 (Nat.le_trans (by decide) hN) cx hp) rfl rfl (Nat.le_of_ble_eq_true rfl) dL_law_482 ⟨by show _ ≤ 601024; omega, by show _ ≤ 7293034; omega⟩) (fun r9 u H locs hq hp => ?_)
  obtain ⟨rfl, hu, hn⟩ := hq
  obtain rfl := us_x hu hn
  refine lv_icmp_eq (tgt := 2958) hx hb dL_law_485 (by decide) (fun _ => ?_) (fun c9 => absurd rfl c9)
  refine W.widen (k := cells + 3) (n := slots + 18) (by omega) (by omega) ?_
  exact K _ H locs ls (hr9.mono (by omega)) hp hl
set_option maxRecDepth 100000 in
set_option maxHeartbeats 4000000 in
theorem k_4 {p : Program} {l : Launch} {e : Env} {s : State} {m : MethodId} {below : List Frame} {meth : Method} {c : Code} {E : Ev} {b Ls : Nat} {xs : Nat → Int32} (hlf : l.stackTraces = false) (hN : 147 ≤ eN E) (hT : St E) (hC : NC E) (cx : Cx E p s m meth c #[Value.ref b] RL cL_law 9 (some .boolean)) (SX : va_X b Ls xs s s.heap) (hbl : b < s.heap.size) (hbA : ¬ eA E b) (hLs : Ls ≤ 3072) {Q : State → Prop} {i B : Nat} (hi : i + 6 ≤ Ls) (hB9 : 9999 ≤ B) (hB : B + 300000 < 2 ^ 31) {σ : SM} (hr : Rel B σ) {cells slots : Nat} (hc : cells + 3 ≤ 601024 ∧ slots + 18 ≤ 7293034) {H : Heap} {locs : List Loc} (hp : Hp E σ s H locs) {ls : Array Slot} (hl : lv_has ls 9 (LL b E i))
    (K : ∀ (τ : SM) (H : Heap) (locs : List Loc) (ls : Array Slot), Rel (B + 196020) τ → Hp E τ s H locs → lv_has ls 9 (LL b E i) → W p l e room_1 s m #[Value.ref b] below meth c H locs (cells + 3) (slots + 18) Q (F0 m 2958 ls [])) : W p l e room_1 s m #[Value.ref b] below meth c H locs cells slots Q (F0 m 490 ls []) := by
  have hx := cx.1.1
  have hb := cx.1.2.1
  obtain ⟨r, ρ', e1, e2, hr9⟩ := P_errorCode hr 
  refine lv_aload_n hx hb dL_law_490 rfl (lv_at hl 1 rfl) ?_
  refine x_i hp (y_V (As := []) (rest := []) cx hp hl (c_X12_errorCode l (Nat.le_trans (by decide) hN) hT e1) (cw_L_151 cx rfl rfl ⟨by decide, by decide⟩) (rC_X12 (Nat.le_trans (by decide) hN) cx hp) rfl rfl (Nat.le_of_ble_eq_true rfl) dL_law_491 ⟨by show _ ≤ 601024; omega, by show _ ≤ 7293034; omega⟩) (fun r9 u H locs hq hp => ?_)
  obtain ⟨rfl, rfl⟩ := hq
  refine lv_aload_n hx hb dL_law_494 rfl (lv_at hl 2 rfl) ?_
  refine x_i hp (y_V (As := []) (rest := [.int r]) cx hp hl (c_X13_errorCode l (Nat.le_trans (by decide) hN) hT rfl e2) (cw_L_154 cx rfl rfl ⟨by decide, by decide⟩) (rC_X13 (Nat.le_trans (by decide) hN) cx hp) rfl rfl (Nat.le_of_ble_eq_true rfl) dL_law_495 ⟨by show _ ≤ 601024; omega, by show _ ≤ 7293034; omega⟩) (fun r9 u H locs hq hp => ?_)
  obtain ⟨rfl, hu, hn⟩ := hq
  obtain rfl := us_x hu hn
  refine lv_icmp_eq (tgt := 2958) hx hb dL_law_498 (by decide) (fun _ => ?_) (fun c9 => absurd rfl c9)
  refine W.widen (k := cells + 3) (n := slots + 18) (by omega) (by omega) ?_
  exact K _ H locs ls (hr9.mono (by omega)) hp hl
set_option maxRecDepth 100000 in
set_option maxHeartbeats 4000000 in
theorem k_5 {p : Program} {l : Launch} {e : Env} {s : State} {m : MethodId} {below : List Frame} {meth : Method} {c : Code} {E : Ev} {b Ls : Nat} {xs : Nat → Int32} (hlf : l.stackTraces = false) (hN : 147 ≤ eN E) (hT : St E) (hC : NC E) (cx : Cx E p s m meth c #[Value.ref b] RL cL_law 9 (some .boolean)) (SX : va_X b Ls xs s s.heap) (hbl : b < s.heap.size) (hbA : ¬ eA E b) (hLs : Ls ≤ 3072) {Q : State → Prop} {i B : Nat} (hi : i + 6 ≤ Ls) (hB9 : 9999 ≤ B) (hB : B + 300000 < 2 ^ 31) {σ : SM} (hr : Rel B σ) {cells slots : Nat} (hc : cells + 3 ≤ 601024 ∧ slots + 18 ≤ 7293034) {H : Heap} {locs : List Loc} (hp : Hp E σ s H locs) {ls : Array Slot} (hl : lv_has ls 9 (LL b E i))
    (K : ∀ (τ : SM) (H : Heap) (locs : List Loc) (ls : Array Slot), Rel (B + 196020) τ → Hp E τ s H locs → lv_has ls 9 (LL b E i) → W p l e room_1 s m #[Value.ref b] below meth c H locs (cells + 3) (slots + 18) Q (F0 m 2958 ls [])) : W p l e room_1 s m #[Value.ref b] below meth c H locs cells slots Q (F0 m 503 ls []) := by
  have hx := cx.1.1
  have hb := cx.1.2.1
  obtain ⟨r, ρ', e1, e2, hr9⟩ := P_errorPosition hr 
  refine lv_aload_n hx hb dL_law_503 rfl (lv_at hl 1 rfl) ?_
  refine x_i hp (y_V (As := []) (rest := []) cx hp hl (c_X12_errorPosition l (Nat.le_trans (by decide) hN) hT e1) (cw_L_155 cx rfl rfl ⟨by decide, by decide⟩) (rC_X12 (Nat.le_trans (by decide) hN) cx hp) rfl rfl (Nat.le_of_ble_eq_true rfl) dL_law_504 ⟨by show _ ≤ 601024; omega, by show _ ≤ 7293034; omega⟩) (fun r9 u H locs hq hp => ?_)
  obtain ⟨rfl, rfl⟩ := hq
  refine lv_aload_n hx hb dL_law_507 rfl (lv_at hl 2 rfl) ?_
  refine x_i hp (y_V (As := []) (rest := [.int r]) cx hp hl (c_X13_errorPosition l (Nat.le_trans (by decide) hN) hT rfl e2) (cw_L_158 cx rfl rfl ⟨by decide, by decide⟩) (rC_X13 (Nat.le_trans (by decide) hN) cx hp) rfl rfl (Nat.le_of_ble_eq_true rfl) dL_law_508 ⟨by show _ ≤ 601024; omega, by show _ ≤ 7293034; omega⟩) (fun r9 u H locs hq hp => ?_)
  obtain ⟨rfl, hu, hn⟩ := hq
  obtain rfl := us_x hu hn
  refine lv_icmp_eq (tgt := 2958) hx hb dL_law_511 (by decide) (fun _ => ?_) (fun c9 => absurd rfl c9)
  refine W.widen (k := cells + 3) (n := slots + 18) (by omega) (by omega) ?_
  exact K _ H locs ls (hr9.mono (by omega)) hp hl
set_option maxRecDepth 100000 in
set_option maxHeartbeats 4000000 in
theorem k_6 {p : Program} {l : Launch} {e : Env} {s : State} {m : MethodId} {below : List Frame} {meth : Method} {c : Code} {E : Ev} {b Ls : Nat} {xs : Nat → Int32} (hlf : l.stackTraces = false) (hN : 147 ≤ eN E) (hT : St E) (hC : NC E) (cx : Cx E p s m meth c #[Value.ref b] RL cL_law 9 (some .boolean)) (SX : va_X b Ls xs s s.heap) (hbl : b < s.heap.size) (hbA : ¬ eA E b) (hLs : Ls ≤ 3072) {Q : State → Prop} {i B : Nat} (hi : i + 6 ≤ Ls) (hB9 : 9999 ≤ B) (hB : B + 300000 < 2 ^ 31) {σ : SM} (hr : Rel B σ) {cells slots : Nat} (hc : cells + 3 ≤ 601024 ∧ slots + 18 ≤ 7293034) {H : Heap} {locs : List Loc} (hp : Hp E σ s H locs) {ls : Array Slot} (hl : lv_has ls 9 (LL b E i))
    (K : ∀ (τ : SM) (H : Heap) (locs : List Loc) (ls : Array Slot), Rel (B + 196020) τ → Hp E τ s H locs → lv_has ls 9 (LL b E i) → W p l e room_1 s m #[Value.ref b] below meth c H locs (cells + 3) (slots + 18) Q (F0 m 2958 ls [])) : W p l e room_1 s m #[Value.ref b] below meth c H locs cells slots Q (F0 m 516 ls []) := by
  have hx := cx.1.1
  have hb := cx.1.2.1
  obtain ⟨r, ρ', e1, e2, hr9⟩ := P_sellerCount hr 
  refine lv_aload_n hx hb dL_law_516 rfl (lv_at hl 1 rfl) ?_
  refine x_i hp (y_V (As := []) (rest := []) cx hp hl (c_X12_sellerCount l (Nat.le_trans (by decide) hN) hT e1) (cw_L_159 cx rfl rfl ⟨by decide, by decide⟩) (rC_X12 (Nat.le_trans (by decide) hN) cx hp) rfl rfl (Nat.le_of_ble_eq_true rfl) dL_law_517 ⟨by show _ ≤ 601024; omega, by show _ ≤ 7293034; omega⟩) (fun r9 u H locs hq hp => ?_)
  obtain ⟨rfl, rfl⟩ := hq
  refine lv_aload_n hx hb dL_law_520 rfl (lv_at hl 2 rfl) ?_
  refine x_i hp (y_V (As := []) (rest := [.int r]) cx hp hl (c_X13_sellerCount l (Nat.le_trans (by decide) hN) hT rfl e2) (cw_L_162 cx rfl rfl ⟨by decide, by decide⟩) (rC_X13 (Nat.le_trans (by decide) hN) cx hp) rfl rfl (Nat.le_of_ble_eq_true rfl) dL_law_521 ⟨by show _ ≤ 601024; omega, by show _ ≤ 7293034; omega⟩) (fun r9 u H locs hq hp => ?_)
  obtain ⟨rfl, hu, hn⟩ := hq
  obtain rfl := us_x hu hn
  refine lv_icmp_eq (tgt := 2958) hx hb dL_law_524 (by decide) (fun _ => ?_) (fun c9 => absurd rfl c9)
  refine W.widen (k := cells + 3) (n := slots + 18) (by omega) (by omega) ?_
  exact K _ H locs ls (hr9.mono (by omega)) hp hl
set_option maxRecDepth 100000 in
set_option maxHeartbeats 4000000 in
theorem k_7 {p : Program} {l : Launch} {e : Env} {s : State} {m : MethodId} {below : List Frame} {meth : Method} {c : Code} {E : Ev} {b Ls : Nat} {xs : Nat → Int32} (hlf : l.stackTraces = false) (hN : 147 ≤ eN E) (hT : St E) (hC : NC E) (cx : Cx E p s m meth c #[Value.ref b] RL cL_law 9 (some .boolean)) (SX : va_X b Ls xs s s.heap) (hbl : b < s.heap.size) (hbA : ¬ eA E b) (hLs : Ls ≤ 3072) {Q : State → Prop} {i B : Nat} (hi : i + 6 ≤ Ls) (hB9 : 9999 ≤ B) (hB : B + 300000 < 2 ^ 31) {σ : SM} (hr : Rel B σ) {cells slots : Nat} (hc : cells + 3 ≤ 601024 ∧ slots + 18 ≤ 7293034) {H : Heap} {locs : List Loc} (hp : Hp E σ s H locs) {ls : Array Slot} (hl : lv_has ls 9 (LL b E i))
    (K : ∀ (τ : SM) (H : Heap) (locs : List Loc) (ls : Array Slot), Rel (B + 196020) τ → Hp E τ s H locs → lv_has ls 9 (LL b E i) → W p l e room_1 s m #[Value.ref b] below meth c H locs (cells + 3) (slots + 18) Q (F0 m 2958 ls [])) : W p l e room_1 s m #[Value.ref b] below meth c H locs cells slots Q (F0 m 529 ls []) := by
  have hx := cx.1.1
  have hb := cx.1.2.1
  obtain ⟨r, ρ', e1, e2, hr9⟩ := P_stallCount hr 
  refine lv_aload_n hx hb dL_law_529 rfl (lv_at hl 1 rfl) ?_
  refine x_i hp (y_V (As := []) (rest := []) cx hp hl (c_X12_stallCount l (Nat.le_trans (by decide) hN) hT e1) (cw_L_163 cx rfl rfl ⟨by decide, by decide⟩) (rC_X12 (Nat.le_trans (by decide) hN) cx hp) rfl rfl (Nat.le_of_ble_eq_true rfl) dL_law_530 ⟨by show _ ≤ 601024; omega, by show _ ≤ 7293034; omega⟩) (fun r9 u H locs hq hp => ?_)
  obtain ⟨rfl, rfl⟩ := hq
  refine lv_aload_n hx hb dL_law_533 rfl (lv_at hl 2 rfl) ?_
  refine x_i hp (y_V (As := []) (rest := [.int r]) cx hp hl (c_X13_stallCount l (Nat.le_trans (by decide) hN) hT rfl e2) (cw_L_166 cx rfl rfl ⟨by decide, by decide⟩) (rC_X13 (Nat.le_trans (by decide) hN) cx hp) rfl rfl (Nat.le_of_ble_eq_true rfl) dL_law_534 ⟨by show _ ≤ 601024; omega, by show _ ≤ 7293034; omega⟩) (fun r9 u H locs hq hp => ?_)
  obtain ⟨rfl, hu, hn⟩ := hq
  obtain rfl := us_x hu hn
  refine lv_icmp_eq (tgt := 2958) hx hb dL_law_537 (by decide) (fun _ => ?_) (fun c9 => absurd rfl c9)
  refine W.widen (k := cells + 3) (n := slots + 18) (by omega) (by omega) ?_
  exact K _ H locs ls (hr9.mono (by omega)) hp hl
set_option maxRecDepth 100000 in
set_option maxHeartbeats 4000000 in
theorem k_8 {p : Program} {l : Launch} {e : Env} {s : State} {m : MethodId} {below : List Frame} {meth : Method} {c : Code} {E : Ev} {b Ls : Nat} {xs : Nat → Int32} (hlf : l.stackTraces = false) (hN : 147 ≤ eN E) (hT : St E) (hC : NC E) (cx : Cx E p s m meth c #[Value.ref b] RL cL_law 9 (some .boolean)) (SX : va_X b Ls xs s s.heap) (hbl : b < s.heap.size) (hbA : ¬ eA E b) (hLs : Ls ≤ 3072) {Q : State → Prop} {i B : Nat} (hi : i + 6 ≤ Ls) (hB9 : 9999 ≤ B) (hB : B + 300000 < 2 ^ 31) {σ : SM} (hr : Rel B σ) {cells slots : Nat} (hc : cells + 3 ≤ 601024 ∧ slots + 18 ≤ 7293034) {H : Heap} {locs : List Loc} (hp : Hp E σ s H locs) {ls : Array Slot} (hl : lv_has ls 9 (LL b E i))
    (K : ∀ (τ : SM) (H : Heap) (locs : List Loc) (ls : Array Slot), Rel (B + 196020) τ → Hp E τ s H locs → lv_has ls 9 (LL b E i) → W p l e room_1 s m #[Value.ref b] below meth c H locs (cells + 3) (slots + 18) Q (F0 m 2958 ls [])) : W p l e room_1 s m #[Value.ref b] below meth c H locs cells slots Q (F0 m 542 ls []) := by
  have hx := cx.1.1
  have hb := cx.1.2.1
  obtain ⟨r, ρ', e1, e2, hr9⟩ := P_day hr 
  refine lv_aload_n hx hb dL_law_542 rfl (lv_at hl 1 rfl) ?_
  refine x_i hp (y_V (As := []) (rest := []) cx hp hl (c_X12_day l (Nat.le_trans (by decide) hN) hT e1) (cw_L_167 cx rfl rfl ⟨by decide, by decide⟩) (rC_X12 (Nat.le_trans (by decide) hN) cx hp) rfl rfl (Nat.le_of_ble_eq_true rfl) dL_law_543 ⟨by show _ ≤ 601024; omega, by show _ ≤ 7293034; omega⟩) (fun r9 u H locs hq hp => ?_)
  obtain ⟨rfl, rfl⟩ := hq
  refine lv_aload_n hx hb dL_law_546 rfl (lv_at hl 2 rfl) ?_
  refine x_i hp (y_V (As := []) (rest := [.int r]) cx hp hl (c_X13_day l (Nat.le_trans (by decide) hN) hT rfl e2) (cw_L_170 cx rfl rfl ⟨by decide, by decide⟩) (rC_X13 (Nat.le_trans (by decide) hN) cx hp) rfl rfl (Nat.le_of_ble_eq_true rfl) dL_law_547 ⟨by show _ ≤ 601024; omega, by show _ ≤ 7293034; omega⟩) (fun r9 u H locs hq hp => ?_)
  obtain ⟨rfl, hu, hn⟩ := hq
  obtain rfl := us_x hu hn
  refine lv_icmp_eq (tgt := 2958) hx hb dL_law_550 (by decide) (fun _ => ?_) (fun c9 => absurd rfl c9)
  refine W.widen (k := cells + 3) (n := slots + 18) (by omega) (by omega) ?_
  exact K _ H locs ls (hr9.mono (by omega)) hp hl
set_option maxRecDepth 100000 in
set_option maxHeartbeats 4000000 in
theorem k_9 {p : Program} {l : Launch} {e : Env} {s : State} {m : MethodId} {below : List Frame} {meth : Method} {c : Code} {E : Ev} {b Ls : Nat} {xs : Nat → Int32} (hlf : l.stackTraces = false) (hN : 147 ≤ eN E) (hT : St E) (hC : NC E) (cx : Cx E p s m meth c #[Value.ref b] RL cL_law 9 (some .boolean)) (SX : va_X b Ls xs s s.heap) (hbl : b < s.heap.size) (hbA : ¬ eA E b) (hLs : Ls ≤ 3072) {Q : State → Prop} {i B : Nat} (hi : i + 6 ≤ Ls) (hB9 : 9999 ≤ B) (hB : B + 300000 < 2 ^ 31) {σ : SM} (hr : Rel B σ) {cells slots : Nat} (hc : cells + 3 ≤ 601024 ∧ slots + 18 ≤ 7293034) {H : Heap} {locs : List Loc} (hp : Hp E σ s H locs) {ls : Array Slot} (hl : lv_has ls 9 (LL b E i))
    (K : ∀ (τ : SM) (H : Heap) (locs : List Loc) (ls : Array Slot), Rel (B + 196020) τ → Hp E τ s H locs → lv_has ls 9 (LL b E i) → W p l e room_1 s m #[Value.ref b] below meth c H locs (cells + 3) (slots + 18) Q (F0 m 2958 ls [])) : W p l e room_1 s m #[Value.ref b] below meth c H locs cells slots Q (F0 m 555 ls []) := by
  have hx := cx.1.1
  have hb := cx.1.2.1
  obtain ⟨z, r, ρ', σ', e1, e2, hz, e20, hr9, ho⟩ := fx_two oI (by decide) (P_balance hr (xs (i + 1)))
  refine lv_aload_n hx hb dL_law_555 rfl (lv_at hl 1 rfl) ?_
  refine lv_aload_n hx hb dL_law_556 rfl (lv_at hl 0 rfl) ?_
  refine lv_iload hx hb dL_law_557 (lv_at hl 4 rfl) ?_
  refine lv_iconst (v := 1) hx hb dL_law_559 (by decide) ?_
  refine lv_iadd hx hb dL_law_560 ?_
  refine s_ld (k := 1) rfl (by decide) hi hLs SX hbl hbA cx hp dL_law_561 ?_
  refine lv_aload_n hx hb dL_law_562 rfl (lv_at hl 3 rfl) ?_
  refine x_iM hp (y_SW (As := [.ref (adr E 19 0), .int (xs (i + 1)), .ref (adr E 21 0)]) (rest := []) cx hp hl (c_L_balance l hN hT hlf hC e1 hz) (cwS_L_balance cx ⟨by decide, by decide⟩) rfl rfl (Nat.le_of_ble_eq_true rfl) dL_law_563 ⟨by show _ ≤ 601024; omega, by show _ ≤ 7293034; omega⟩) (fun r9 u H locs hq hp => ?_)
  obtain ⟨rfl, rfl⟩ := hq
  refine lv_istore (lv' := [(5, .int (ρ'.1 0 12)), (0, .ref b), (1, .ref (adr E 19 0)), (2, .ref (adr E 20 0)), (3, .ref (adr E 21 0)), (4, .int (nI i))]) hx hb dL_law_566 hl (by decide) rfl (fun ls hl => ?_)
  refine lv_aload_n hx hb dL_law_568 rfl (lv_at hl 3 rfl) ?_
  refine lv_aload_n hx hb dL_law_569 rfl (lv_at hl 1 rfl) ?_
  refine lv_iload hx hb dL_law_570 (lv_at hl 5 rfl) ?_
  refine lv_iconst (v := 1) hx hb dL_law_572 (by decide) ?_
  refine lv_iadd hx hb dL_law_573 ?_
  refine s_ld (k := 1) rfl (by decide) hi hLs SX hbl hbA cx hp dL_law_574 ?_
  refine x_i hp (y_V (As := [.int (xs (i + 1))]) (rest := []) cx hp hl (c_X13_balance l (Nat.le_trans (by decide) hN) hT e20 e2) (cw_L_173 cx rfl rfl ⟨by decide, by decide⟩) (rC_X13 (Nat.le_trans (by decide) hN) cx hp) rfl rfl (Nat.le_of_ble_eq_true rfl) dL_law_575 ⟨by show _ ≤ 601024; omega, by show _ ≤ 7293034; omega⟩) (fun r9 u H locs hq hp => ?_)
  obtain ⟨rfl, hu, hn⟩ := hq
  obtain rfl := us_x hu hn
  refine lv_istore (lv' := [(6, .int r), (5, .int (ρ'.1 0 12)), (0, .ref b), (1, .ref (adr E 19 0)), (2, .ref (adr E 20 0)), (3, .ref (adr E 21 0)), (4, .int (nI i))]) hx hb dL_law_578 hl (by decide) rfl (fun ls hl => ?_)
  refine lv_aload_n hx hb dL_law_580 rfl (lv_at hl 4 rfl) ?_
  refine x_i hp (y_V (As := []) (rest := []) cx hp hl (c_X13_thrown l (Nat.le_trans (by decide) hN) hT (us_s _ _ _) rfl) (cw_L_136 cx rfl rfl ⟨by decide, by decide⟩) (rC_X13 (Nat.le_trans (by decide) hN) cx hp) rfl rfl (Nat.le_of_ble_eq_true rfl) dL_law_581 ⟨by show _ ≤ 601024; omega, by show _ ≤ 7293034; omega⟩) (fun r9 u H locs hq hp => ?_)
  obtain ⟨rfl, rfl⟩ := hq
  refine lv_iload hx hb dL_law_584 (lv_at hl 1 rfl) ?_
  refine lv_icmp_eq (tgt := 591) hx hb dL_law_586 (by decide) (fun _ => ?_) (fun c9 => absurd rfl c9)
  refine lv_iload hx hb dL_law_591 (lv_at hl 1 rfl) ?_
  refine lv_if_ne (tgt := 608) hx hb dL_law_593 (by decide) (fun c9 => ?_) (fun c9 => ?_)
  · skip
    refine lv_goto (tgt := 2958) hx hb dL_law_608 (by decide) ?_
    refine W.widen (k := cells + 3) (n := slots + 18) (by omega) (by omega) ?_
    exact K _ H locs ls (hr9.mono (by omega)) hp (lv_sub hl [2, 3, 4, 5, 6] rfl)
  · skip
    refine lv_aload_n hx hb dL_law_596 rfl (lv_at hl 5 rfl) ?_
    refine lv_iconst (v := 0) hx hb dL_law_597 (by decide) ?_
    refine l_out hN cx hp (x := oI r) (by rw [us_n (by decide)]; exact ho (c9.trans nI_0.symm)) dL_law_598 ?_
    refine lv_iload hx hb dL_law_599 (lv_at hl 0 rfl) ?_
    refine lv_i2l hx hb dL_law_601 rfl ?_
    refine W.lcmp hx hb dL_law_602 ?_
    refine lv_if_eq (tgt := 608) hx hb dL_law_603 (by decide) (fun _ => ?_) (fun c8 => absurd (lgc_rf _) c8)
    refine lv_goto (tgt := 2958) hx hb dL_law_608 (by decide) ?_
    refine W.widen (k := cells + 3) (n := slots + 18) (by omega) (by omega) ?_
    exact K _ H locs ls (hr9.mono (by omega)) hp (lv_sub hl [2, 3, 4, 5, 6] rfl)
set_option maxRecDepth 100000 in
set_option maxHeartbeats 4000000 in
theorem k_10 {p : Program} {l : Launch} {e : Env} {s : State} {m : MethodId} {below : List Frame} {meth : Method} {c : Code} {E : Ev} {b Ls : Nat} {xs : Nat → Int32} (hlf : l.stackTraces = false) (hN : 147 ≤ eN E) (hT : St E) (hC : NC E) (cx : Cx E p s m meth c #[Value.ref b] RL cL_law 9 (some .boolean)) (SX : va_X b Ls xs s s.heap) (hbl : b < s.heap.size) (hbA : ¬ eA E b) (hLs : Ls ≤ 3072) {Q : State → Prop} {i B : Nat} (hi : i + 6 ≤ Ls) (hB9 : 9999 ≤ B) (hB : B + 300000 < 2 ^ 31) {σ : SM} (hr : Rel B σ) {cells slots : Nat} (hc : cells + 3 ≤ 601024 ∧ slots + 18 ≤ 7293034) {H : Heap} {locs : List Loc} (hp : Hp E σ s H locs) {ls : Array Slot} (hl : lv_has ls 9 (LL b E i))
    (K : ∀ (τ : SM) (H : Heap) (locs : List Loc) (ls : Array Slot), Rel (B + 196020) τ → Hp E τ s H locs → lv_has ls 9 (LL b E i) → W p l e room_1 s m #[Value.ref b] below meth c H locs (cells + 3) (slots + 18) Q (F0 m 2958 ls [])) : W p l e room_1 s m #[Value.ref b] below meth c H locs cells slots Q (F0 m 611 ls []) := by
  have hx := cx.1.1
  have hb := cx.1.2.1
  obtain ⟨z, r, ρ', σ', e1, e2, hz, e20, hr9, ho⟩ := fx_two oI (by decide) (P_income hr (xs (i + 1)))
  refine lv_aload_n hx hb dL_law_611 rfl (lv_at hl 1 rfl) ?_
  refine lv_aload_n hx hb dL_law_612 rfl (lv_at hl 0 rfl) ?_
  refine lv_iload hx hb dL_law_613 (lv_at hl 4 rfl) ?_
  refine lv_iconst (v := 1) hx hb dL_law_615 (by decide) ?_
  refine lv_iadd hx hb dL_law_616 ?_
  refine s_ld (k := 1) rfl (by decide) hi hLs SX hbl hbA cx hp dL_law_617 ?_
  refine lv_aload_n hx hb dL_law_618 rfl (lv_at hl 3 rfl) ?_
  refine x_iM hp (y_SW (As := [.ref (adr E 19 0), .int (xs (i + 1)), .ref (adr E 21 0)]) (rest := []) cx hp hl (c_L_income l hN hT hlf hC e1 hz) (cwS_L_income cx ⟨by decide, by decide⟩) rfl rfl (Nat.le_of_ble_eq_true rfl) dL_law_619 ⟨by show _ ≤ 601024; omega, by show _ ≤ 7293034; omega⟩) (fun r9 u H locs hq hp => ?_)
  obtain ⟨rfl, rfl⟩ := hq
  refine lv_istore (lv' := [(5, .int (ρ'.1 0 12)), (0, .ref b), (1, .ref (adr E 19 0)), (2, .ref (adr E 20 0)), (3, .ref (adr E 21 0)), (4, .int (nI i))]) hx hb dL_law_622 hl (by decide) rfl (fun ls hl => ?_)
  refine lv_aload_n hx hb dL_law_624 rfl (lv_at hl 3 rfl) ?_
  refine lv_aload_n hx hb dL_law_625 rfl (lv_at hl 1 rfl) ?_
  refine lv_iload hx hb dL_law_626 (lv_at hl 5 rfl) ?_
  refine lv_iconst (v := 1) hx hb dL_law_628 (by decide) ?_
  refine lv_iadd hx hb dL_law_629 ?_
  refine s_ld (k := 1) rfl (by decide) hi hLs SX hbl hbA cx hp dL_law_630 ?_
  refine x_i hp (y_V (As := [.int (xs (i + 1))]) (rest := []) cx hp hl (c_X13_income l (Nat.le_trans (by decide) hN) hT e20 e2) (cw_L_176 cx rfl rfl ⟨by decide, by decide⟩) (rC_X13 (Nat.le_trans (by decide) hN) cx hp) rfl rfl (Nat.le_of_ble_eq_true rfl) dL_law_631 ⟨by show _ ≤ 601024; omega, by show _ ≤ 7293034; omega⟩) (fun r9 u H locs hq hp => ?_)
  obtain ⟨rfl, hu, hn⟩ := hq
  obtain rfl := us_x hu hn
  refine lv_istore (lv' := [(6, .int r), (5, .int (ρ'.1 0 12)), (0, .ref b), (1, .ref (adr E 19 0)), (2, .ref (adr E 20 0)), (3, .ref (adr E 21 0)), (4, .int (nI i))]) hx hb dL_law_634 hl (by decide) rfl (fun ls hl => ?_)
  refine lv_aload_n hx hb dL_law_636 rfl (lv_at hl 4 rfl) ?_
  refine x_i hp (y_V (As := []) (rest := []) cx hp hl (c_X13_thrown l (Nat.le_trans (by decide) hN) hT (us_s _ _ _) rfl) (cw_L_136 cx rfl rfl ⟨by decide, by decide⟩) (rC_X13 (Nat.le_trans (by decide) hN) cx hp) rfl rfl (Nat.le_of_ble_eq_true rfl) dL_law_637 ⟨by show _ ≤ 601024; omega, by show _ ≤ 7293034; omega⟩) (fun r9 u H locs hq hp => ?_)
  obtain ⟨rfl, rfl⟩ := hq
  refine lv_iload hx hb dL_law_640 (lv_at hl 1 rfl) ?_
  refine lv_icmp_eq (tgt := 647) hx hb dL_law_642 (by decide) (fun _ => ?_) (fun c9 => absurd rfl c9)
  refine lv_iload hx hb dL_law_647 (lv_at hl 1 rfl) ?_
  refine lv_if_ne (tgt := 664) hx hb dL_law_649 (by decide) (fun c9 => ?_) (fun c9 => ?_)
  · skip
    refine lv_goto (tgt := 2958) hx hb dL_law_664 (by decide) ?_
    refine W.widen (k := cells + 3) (n := slots + 18) (by omega) (by omega) ?_
    exact K _ H locs ls (hr9.mono (by omega)) hp (lv_sub hl [2, 3, 4, 5, 6] rfl)
  · skip
    refine lv_aload_n hx hb dL_law_652 rfl (lv_at hl 5 rfl) ?_
    refine lv_iconst (v := 0) hx hb dL_law_653 (by decide) ?_
    refine l_out hN cx hp (x := oI r) (by rw [us_n (by decide)]; exact ho (c9.trans nI_0.symm)) dL_law_654 ?_
    refine lv_iload hx hb dL_law_655 (lv_at hl 0 rfl) ?_
    refine lv_i2l hx hb dL_law_657 rfl ?_
    refine W.lcmp hx hb dL_law_658 ?_
    refine lv_if_eq (tgt := 664) hx hb dL_law_659 (by decide) (fun _ => ?_) (fun c8 => absurd (lgc_rf _) c8)
    refine lv_goto (tgt := 2958) hx hb dL_law_664 (by decide) ?_
    refine W.widen (k := cells + 3) (n := slots + 18) (by omega) (by omega) ?_
    exact K _ H locs ls (hr9.mono (by omega)) hp (lv_sub hl [2, 3, 4, 5, 6] rfl)
set_option maxRecDepth 100000 in
set_option maxHeartbeats 4000000 in
theorem k_11 {p : Program} {l : Launch} {e : Env} {s : State} {m : MethodId} {below : List Frame} {meth : Method} {c : Code} {E : Ev} {b Ls : Nat} {xs : Nat → Int32} (hlf : l.stackTraces = false) (hN : 147 ≤ eN E) (hT : St E) (hC : NC E) (cx : Cx E p s m meth c #[Value.ref b] RL cL_law 9 (some .boolean)) (SX : va_X b Ls xs s s.heap) (hbl : b < s.heap.size) (hbA : ¬ eA E b) (hLs : Ls ≤ 3072) {Q : State → Prop} {i B : Nat} (hi : i + 6 ≤ Ls) (hB9 : 9999 ≤ B) (hB : B + 300000 < 2 ^ 31) {σ : SM} (hr : Rel B σ) {cells slots : Nat} (hc : cells + 3 ≤ 601024 ∧ slots + 18 ≤ 7293034) {H : Heap} {locs : List Loc} (hp : Hp E σ s H locs) {ls : Array Slot} (hl : lv_has ls 9 (LL b E i))
    (K : ∀ (τ : SM) (H : Heap) (locs : List Loc) (ls : Array Slot), Rel (B + 196020) τ → Hp E τ s H locs → lv_has ls 9 (LL b E i) → W p l e room_1 s m #[Value.ref b] below meth c H locs (cells + 3) (slots + 18) Q (F0 m 2958 ls [])) : W p l e room_1 s m #[Value.ref b] below meth c H locs cells slots Q (F0 m 667 ls []) := by
  have hx := cx.1.1
  have hb := cx.1.2.1
  obtain ⟨z, r, ρ', σ', e1, e2, hz, e20, hr9, ho⟩ := fx_two oI (by decide) (P_rent hr (xs (i + 1)))
  refine lv_aload_n hx hb dL_law_667 rfl (lv_at hl 1 rfl) ?_
  refine lv_aload_n hx hb dL_law_668 rfl (lv_at hl 0 rfl) ?_
  refine lv_iload hx hb dL_law_669 (lv_at hl 4 rfl) ?_
  refine lv_iconst (v := 1) hx hb dL_law_671 (by decide) ?_
  refine lv_iadd hx hb dL_law_672 ?_
  refine s_ld (k := 1) rfl (by decide) hi hLs SX hbl hbA cx hp dL_law_673 ?_
  refine lv_aload_n hx hb dL_law_674 rfl (lv_at hl 3 rfl) ?_
  refine x_iM hp (y_SW (As := [.ref (adr E 19 0), .int (xs (i + 1)), .ref (adr E 21 0)]) (rest := []) cx hp hl (c_L_rent l hN hT hlf hC e1 hz) (cwS_L_rent cx ⟨by decide, by decide⟩) rfl rfl (Nat.le_of_ble_eq_true rfl) dL_law_675 ⟨by show _ ≤ 601024; omega, by show _ ≤ 7293034; omega⟩) (fun r9 u H locs hq hp => ?_)
  obtain ⟨rfl, rfl⟩ := hq
  refine lv_istore (lv' := [(5, .int (ρ'.1 0 12)), (0, .ref b), (1, .ref (adr E 19 0)), (2, .ref (adr E 20 0)), (3, .ref (adr E 21 0)), (4, .int (nI i))]) hx hb dL_law_678 hl (by decide) rfl (fun ls hl => ?_)
  refine lv_aload_n hx hb dL_law_680 rfl (lv_at hl 3 rfl) ?_
  refine lv_aload_n hx hb dL_law_681 rfl (lv_at hl 1 rfl) ?_
  refine lv_iload hx hb dL_law_682 (lv_at hl 5 rfl) ?_
  refine lv_iconst (v := 1) hx hb dL_law_684 (by decide) ?_
  refine lv_iadd hx hb dL_law_685 ?_
  refine s_ld (k := 1) rfl (by decide) hi hLs SX hbl hbA cx hp dL_law_686 ?_
  refine x_i hp (y_V (As := [.int (xs (i + 1))]) (rest := []) cx hp hl (c_X13_rent l (Nat.le_trans (by decide) hN) hT e20 e2) (cw_L_179 cx rfl rfl ⟨by decide, by decide⟩) (rC_X13 (Nat.le_trans (by decide) hN) cx hp) rfl rfl (Nat.le_of_ble_eq_true rfl) dL_law_687 ⟨by show _ ≤ 601024; omega, by show _ ≤ 7293034; omega⟩) (fun r9 u H locs hq hp => ?_)
  obtain ⟨rfl, hu, hn⟩ := hq
  obtain rfl := us_x hu hn
  refine lv_istore (lv' := [(6, .int r), (5, .int (ρ'.1 0 12)), (0, .ref b), (1, .ref (adr E 19 0)), (2, .ref (adr E 20 0)), (3, .ref (adr E 21 0)), (4, .int (nI i))]) hx hb dL_law_690 hl (by decide) rfl (fun ls hl => ?_)
  refine lv_aload_n hx hb dL_law_692 rfl (lv_at hl 4 rfl) ?_
  refine x_i hp (y_V (As := []) (rest := []) cx hp hl (c_X13_thrown l (Nat.le_trans (by decide) hN) hT (us_s _ _ _) rfl) (cw_L_136 cx rfl rfl ⟨by decide, by decide⟩) (rC_X13 (Nat.le_trans (by decide) hN) cx hp) rfl rfl (Nat.le_of_ble_eq_true rfl) dL_law_693 ⟨by show _ ≤ 601024; omega, by show _ ≤ 7293034; omega⟩) (fun r9 u H locs hq hp => ?_)
  obtain ⟨rfl, rfl⟩ := hq
  refine lv_iload hx hb dL_law_696 (lv_at hl 1 rfl) ?_
  refine lv_icmp_eq (tgt := 703) hx hb dL_law_698 (by decide) (fun _ => ?_) (fun c9 => absurd rfl c9)
  refine lv_iload hx hb dL_law_703 (lv_at hl 1 rfl) ?_
  refine lv_if_ne (tgt := 720) hx hb dL_law_705 (by decide) (fun c9 => ?_) (fun c9 => ?_)
  · skip
    refine lv_goto (tgt := 2958) hx hb dL_law_720 (by decide) ?_
    refine W.widen (k := cells + 3) (n := slots + 18) (by omega) (by omega) ?_
    exact K _ H locs ls (hr9.mono (by omega)) hp (lv_sub hl [2, 3, 4, 5, 6] rfl)
  · skip
    refine lv_aload_n hx hb dL_law_708 rfl (lv_at hl 5 rfl) ?_
    refine lv_iconst (v := 0) hx hb dL_law_709 (by decide) ?_
    refine l_out hN cx hp (x := oI r) (by rw [us_n (by decide)]; exact ho (c9.trans nI_0.symm)) dL_law_710 ?_
    refine lv_iload hx hb dL_law_711 (lv_at hl 0 rfl) ?_
    refine lv_i2l hx hb dL_law_713 rfl ?_
    refine W.lcmp hx hb dL_law_714 ?_
    refine lv_if_eq (tgt := 720) hx hb dL_law_715 (by decide) (fun _ => ?_) (fun c8 => absurd (lgc_rf _) c8)
    refine lv_goto (tgt := 2958) hx hb dL_law_720 (by decide) ?_
    refine W.widen (k := cells + 3) (n := slots + 18) (by omega) (by omega) ?_
    exact K _ H locs ls (hr9.mono (by omega)) hp (lv_sub hl [2, 3, 4, 5, 6] rfl)
set_option maxRecDepth 100000 in
set_option maxHeartbeats 4000000 in
theorem k_12 {p : Program} {l : Launch} {e : Env} {s : State} {m : MethodId} {below : List Frame} {meth : Method} {c : Code} {E : Ev} {b Ls : Nat} {xs : Nat → Int32} (hlf : l.stackTraces = false) (hN : 147 ≤ eN E) (hT : St E) (hC : NC E) (cx : Cx E p s m meth c #[Value.ref b] RL cL_law 9 (some .boolean)) (SX : va_X b Ls xs s s.heap) (hbl : b < s.heap.size) (hbA : ¬ eA E b) (hLs : Ls ≤ 3072) {Q : State → Prop} {i B : Nat} (hi : i + 6 ≤ Ls) (hB9 : 9999 ≤ B) (hB : B + 300000 < 2 ^ 31) {σ : SM} (hr : Rel B σ) {cells slots : Nat} (hc : cells + 3 ≤ 601024 ∧ slots + 18 ≤ 7293034) {H : Heap} {locs : List Loc} (hp : Hp E σ s H locs) {ls : Array Slot} (hl : lv_has ls 9 (LL b E i))
    (K : ∀ (τ : SM) (H : Heap) (locs : List Loc) (ls : Array Slot), Rel (B + 196020) τ → Hp E τ s H locs → lv_has ls 9 (LL b E i) → W p l e room_1 s m #[Value.ref b] below meth c H locs (cells + 3) (slots + 18) Q (F0 m 2958 ls [])) : W p l e room_1 s m #[Value.ref b] below meth c H locs cells slots Q (F0 m 723 ls []) := by
  have hx := cx.1.1
  have hb := cx.1.2.1
  obtain ⟨z, r, ρ', σ', e1, e2, hz, e20, hr9, ho⟩ := fx_two oI (by decide) (P_stallOf hr (xs (i + 1)))
  refine lv_aload_n hx hb dL_law_723 rfl (lv_at hl 1 rfl) ?_
  refine lv_aload_n hx hb dL_law_724 rfl (lv_at hl 0 rfl) ?_
  refine lv_iload hx hb dL_law_725 (lv_at hl 4 rfl) ?_
  refine lv_iconst (v := 1) hx hb dL_law_727 (by decide) ?_
  refine lv_iadd hx hb dL_law_728 ?_
  refine s_ld (k := 1) rfl (by decide) hi hLs SX hbl hbA cx hp dL_law_729 ?_
  refine lv_aload_n hx hb dL_law_730 rfl (lv_at hl 3 rfl) ?_
  refine x_iM hp (y_SW (As := [.ref (adr E 19 0), .int (xs (i + 1)), .ref (adr E 21 0)]) (rest := []) cx hp hl (c_L_stallOf l hN hT hlf hC e1 hz) (cwS_L_stallOf cx ⟨by decide, by decide⟩) rfl rfl (Nat.le_of_ble_eq_true rfl) dL_law_731 ⟨by show _ ≤ 601024; omega, by show _ ≤ 7293034; omega⟩) (fun r9 u H locs hq hp => ?_)
  obtain ⟨rfl, rfl⟩ := hq
  refine lv_istore (lv' := [(5, .int (ρ'.1 0 12)), (0, .ref b), (1, .ref (adr E 19 0)), (2, .ref (adr E 20 0)), (3, .ref (adr E 21 0)), (4, .int (nI i))]) hx hb dL_law_734 hl (by decide) rfl (fun ls hl => ?_)
  refine lv_aload_n hx hb dL_law_736 rfl (lv_at hl 3 rfl) ?_
  refine lv_aload_n hx hb dL_law_737 rfl (lv_at hl 1 rfl) ?_
  refine lv_iload hx hb dL_law_738 (lv_at hl 5 rfl) ?_
  refine lv_iconst (v := 1) hx hb dL_law_740 (by decide) ?_
  refine lv_iadd hx hb dL_law_741 ?_
  refine s_ld (k := 1) rfl (by decide) hi hLs SX hbl hbA cx hp dL_law_742 ?_
  refine x_i hp (y_V (As := [.int (xs (i + 1))]) (rest := []) cx hp hl (c_X13_stallOf l (Nat.le_trans (by decide) hN) hT e20 e2) (cw_L_182 cx rfl rfl ⟨by decide, by decide⟩) (rC_X13 (Nat.le_trans (by decide) hN) cx hp) rfl rfl (Nat.le_of_ble_eq_true rfl) dL_law_743 ⟨by show _ ≤ 601024; omega, by show _ ≤ 7293034; omega⟩) (fun r9 u H locs hq hp => ?_)
  obtain ⟨rfl, hu, hn⟩ := hq
  obtain rfl := us_x hu hn
  refine lv_istore (lv' := [(6, .int r), (5, .int (ρ'.1 0 12)), (0, .ref b), (1, .ref (adr E 19 0)), (2, .ref (adr E 20 0)), (3, .ref (adr E 21 0)), (4, .int (nI i))]) hx hb dL_law_746 hl (by decide) rfl (fun ls hl => ?_)
  refine lv_aload_n hx hb dL_law_748 rfl (lv_at hl 4 rfl) ?_
  refine x_i hp (y_V (As := []) (rest := []) cx hp hl (c_X13_thrown l (Nat.le_trans (by decide) hN) hT (us_s _ _ _) rfl) (cw_L_136 cx rfl rfl ⟨by decide, by decide⟩) (rC_X13 (Nat.le_trans (by decide) hN) cx hp) rfl rfl (Nat.le_of_ble_eq_true rfl) dL_law_749 ⟨by show _ ≤ 601024; omega, by show _ ≤ 7293034; omega⟩) (fun r9 u H locs hq hp => ?_)
  obtain ⟨rfl, rfl⟩ := hq
  refine lv_iload hx hb dL_law_752 (lv_at hl 1 rfl) ?_
  refine lv_icmp_eq (tgt := 759) hx hb dL_law_754 (by decide) (fun _ => ?_) (fun c9 => absurd rfl c9)
  refine lv_iload hx hb dL_law_759 (lv_at hl 1 rfl) ?_
  refine lv_if_ne (tgt := 776) hx hb dL_law_761 (by decide) (fun c9 => ?_) (fun c9 => ?_)
  · skip
    refine lv_goto (tgt := 2958) hx hb dL_law_776 (by decide) ?_
    refine W.widen (k := cells + 3) (n := slots + 18) (by omega) (by omega) ?_
    exact K _ H locs ls (hr9.mono (by omega)) hp (lv_sub hl [2, 3, 4, 5, 6] rfl)
  · skip
    refine lv_aload_n hx hb dL_law_764 rfl (lv_at hl 5 rfl) ?_
    refine lv_iconst (v := 0) hx hb dL_law_765 (by decide) ?_
    refine l_out hN cx hp (x := oI r) (by rw [us_n (by decide)]; exact ho (c9.trans nI_0.symm)) dL_law_766 ?_
    refine lv_iload hx hb dL_law_767 (lv_at hl 0 rfl) ?_
    refine lv_i2l hx hb dL_law_769 rfl ?_
    refine W.lcmp hx hb dL_law_770 ?_
    refine lv_if_eq (tgt := 776) hx hb dL_law_771 (by decide) (fun _ => ?_) (fun c8 => absurd (lgc_rf _) c8)
    refine lv_goto (tgt := 2958) hx hb dL_law_776 (by decide) ?_
    refine W.widen (k := cells + 3) (n := slots + 18) (by omega) (by omega) ?_
    exact K _ H locs ls (hr9.mono (by omega)) hp (lv_sub hl [2, 3, 4, 5, 6] rfl)
set_option maxRecDepth 100000 in
set_option maxHeartbeats 4000000 in
theorem k_13 {p : Program} {l : Launch} {e : Env} {s : State} {m : MethodId} {below : List Frame} {meth : Method} {c : Code} {E : Ev} {b Ls : Nat} {xs : Nat → Int32} (hlf : l.stackTraces = false) (hN : 147 ≤ eN E) (hT : St E) (hC : NC E) (cx : Cx E p s m meth c #[Value.ref b] RL cL_law 9 (some .boolean)) (SX : va_X b Ls xs s s.heap) (hbl : b < s.heap.size) (hbA : ¬ eA E b) (hLs : Ls ≤ 3072) {Q : State → Prop} {i B : Nat} (hi : i + 6 ≤ Ls) (hB9 : 9999 ≤ B) (hB : B + 300000 < 2 ^ 31) {σ : SM} (hr : Rel B σ) {cells slots : Nat} (hc : cells + 3 ≤ 601024 ∧ slots + 18 ≤ 7293034) {H : Heap} {locs : List Loc} (hp : Hp E σ s H locs) {ls : Array Slot} (hl : lv_has ls 9 (LL b E i))
    (K : ∀ (τ : SM) (H : Heap) (locs : List Loc) (ls : Array Slot), Rel (B + 196020) τ → Hp E τ s H locs → lv_has ls 9 (LL b E i) → W p l e room_1 s m #[Value.ref b] below meth c H locs (cells + 3) (slots + 18) Q (F0 m 2958 ls [])) : W p l e room_1 s m #[Value.ref b] below meth c H locs cells slots Q (F0 m 779 ls []) := by
  have hx := cx.1.1
  have hb := cx.1.2.1
  obtain ⟨z, r, ρ', σ', e1, e2, hz, e20, hr9, ho⟩ := fx_two oI (by decide) (P_occupantOf hr (xs (i + 1)))
  refine lv_aload_n hx hb dL_law_779 rfl (lv_at hl 1 rfl) ?_
  refine lv_aload_n hx hb dL_law_780 rfl (lv_at hl 0 rfl) ?_
  refine lv_iload hx hb dL_law_781 (lv_at hl 4 rfl) ?_
  refine lv_iconst (v := 1) hx hb dL_law_783 (by decide) ?_
  refine lv_iadd hx hb dL_law_784 ?_
  refine s_ld (k := 1) rfl (by decide) hi hLs SX hbl hbA cx hp dL_law_785 ?_
  refine lv_aload_n hx hb dL_law_786 rfl (lv_at hl 3 rfl) ?_
  refine x_iM hp (y_SW (As := [.ref (adr E 19 0), .int (xs (i + 1)), .ref (adr E 21 0)]) (rest := []) cx hp hl (c_L_occupantOf l hN hT hlf hC e1 hz) (cwS_L_occupantOf cx ⟨by decide, by decide⟩) rfl rfl (Nat.le_of_ble_eq_true rfl) dL_law_787 ⟨by show _ ≤ 601024; omega, by show _ ≤ 7293034; omega⟩) (fun r9 u H locs hq hp => ?_)
  obtain ⟨rfl, rfl⟩ := hq
  refine lv_istore (lv' := [(5, .int (ρ'.1 0 12)), (0, .ref b), (1, .ref (adr E 19 0)), (2, .ref (adr E 20 0)), (3, .ref (adr E 21 0)), (4, .int (nI i))]) hx hb dL_law_790 hl (by decide) rfl (fun ls hl => ?_)
  refine lv_aload_n hx hb dL_law_792 rfl (lv_at hl 3 rfl) ?_
  refine lv_aload_n hx hb dL_law_793 rfl (lv_at hl 1 rfl) ?_
  refine lv_iload hx hb dL_law_794 (lv_at hl 5 rfl) ?_
  refine lv_iconst (v := 1) hx hb dL_law_796 (by decide) ?_
  refine lv_iadd hx hb dL_law_797 ?_
  refine s_ld (k := 1) rfl (by decide) hi hLs SX hbl hbA cx hp dL_law_798 ?_
  refine x_i hp (y_V (As := [.int (xs (i + 1))]) (rest := []) cx hp hl (c_X13_occupantOf l (Nat.le_trans (by decide) hN) hT e20 e2) (cw_L_185 cx rfl rfl ⟨by decide, by decide⟩) (rC_X13 (Nat.le_trans (by decide) hN) cx hp) rfl rfl (Nat.le_of_ble_eq_true rfl) dL_law_799 ⟨by show _ ≤ 601024; omega, by show _ ≤ 7293034; omega⟩) (fun r9 u H locs hq hp => ?_)
  obtain ⟨rfl, hu, hn⟩ := hq
  obtain rfl := us_x hu hn
  refine lv_istore (lv' := [(6, .int r), (5, .int (ρ'.1 0 12)), (0, .ref b), (1, .ref (adr E 19 0)), (2, .ref (adr E 20 0)), (3, .ref (adr E 21 0)), (4, .int (nI i))]) hx hb dL_law_802 hl (by decide) rfl (fun ls hl => ?_)
  refine lv_aload_n hx hb dL_law_804 rfl (lv_at hl 4 rfl) ?_
  refine x_i hp (y_V (As := []) (rest := []) cx hp hl (c_X13_thrown l (Nat.le_trans (by decide) hN) hT (us_s _ _ _) rfl) (cw_L_136 cx rfl rfl ⟨by decide, by decide⟩) (rC_X13 (Nat.le_trans (by decide) hN) cx hp) rfl rfl (Nat.le_of_ble_eq_true rfl) dL_law_805 ⟨by show _ ≤ 601024; omega, by show _ ≤ 7293034; omega⟩) (fun r9 u H locs hq hp => ?_)
  obtain ⟨rfl, rfl⟩ := hq
  refine lv_iload hx hb dL_law_808 (lv_at hl 1 rfl) ?_
  refine lv_icmp_eq (tgt := 815) hx hb dL_law_810 (by decide) (fun _ => ?_) (fun c9 => absurd rfl c9)
  refine lv_iload hx hb dL_law_815 (lv_at hl 1 rfl) ?_
  refine lv_if_ne (tgt := 832) hx hb dL_law_817 (by decide) (fun c9 => ?_) (fun c9 => ?_)
  · skip
    refine lv_goto (tgt := 2958) hx hb dL_law_832 (by decide) ?_
    refine W.widen (k := cells + 3) (n := slots + 18) (by omega) (by omega) ?_
    exact K _ H locs ls (hr9.mono (by omega)) hp (lv_sub hl [2, 3, 4, 5, 6] rfl)
  · skip
    refine lv_aload_n hx hb dL_law_820 rfl (lv_at hl 5 rfl) ?_
    refine lv_iconst (v := 0) hx hb dL_law_821 (by decide) ?_
    refine l_out hN cx hp (x := oI r) (by rw [us_n (by decide)]; exact ho (c9.trans nI_0.symm)) dL_law_822 ?_
    refine lv_iload hx hb dL_law_823 (lv_at hl 0 rfl) ?_
    refine lv_i2l hx hb dL_law_825 rfl ?_
    refine W.lcmp hx hb dL_law_826 ?_
    refine lv_if_eq (tgt := 832) hx hb dL_law_827 (by decide) (fun _ => ?_) (fun c8 => absurd (lgc_rf _) c8)
    refine lv_goto (tgt := 2958) hx hb dL_law_832 (by decide) ?_
    refine W.widen (k := cells + 3) (n := slots + 18) (by omega) (by omega) ?_
    exact K _ H locs ls (hr9.mono (by omega)) hp (lv_sub hl [2, 3, 4, 5, 6] rfl)
set_option maxRecDepth 100000 in
set_option maxHeartbeats 4000000 in
theorem k_14 {p : Program} {l : Launch} {e : Env} {s : State} {m : MethodId} {below : List Frame} {meth : Method} {c : Code} {E : Ev} {b Ls : Nat} {xs : Nat → Int32} (hlf : l.stackTraces = false) (hN : 147 ≤ eN E) (hT : St E) (hC : NC E) (cx : Cx E p s m meth c #[Value.ref b] RL cL_law 9 (some .boolean)) (SX : va_X b Ls xs s s.heap) (hbl : b < s.heap.size) (hbA : ¬ eA E b) (hLs : Ls ≤ 3072) {Q : State → Prop} {i B : Nat} (hi : i + 6 ≤ Ls) (hB9 : 9999 ≤ B) (hB : B + 300000 < 2 ^ 31) {σ : SM} (hr : Rel B σ) {cells slots : Nat} (hc : cells + 3 ≤ 601024 ∧ slots + 18 ≤ 7293034) {H : Heap} {locs : List Loc} (hp : Hp E σ s H locs) {ls : Array Slot} (hl : lv_has ls 9 (LL b E i))
    (K : ∀ (τ : SM) (H : Heap) (locs : List Loc) (ls : Array Slot), Rel (B + 196020) τ → Hp E τ s H locs → lv_has ls 9 (LL b E i) → W p l e room_1 s m #[Value.ref b] below meth c H locs (cells + 3) (slots + 18) Q (F0 m 2958 ls [])) : W p l e room_1 s m #[Value.ref b] below meth c H locs cells slots Q (F0 m 835 ls []) := by
  have hx := cx.1.1
  have hb := cx.1.2.1
  obtain ⟨z, r, ρ', σ', e1, e2, hz, e20, hr9, ho⟩ := fx_two oI (by decide) (P_priorityOf hr (xs (i + 1)))
  refine lv_aload_n hx hb dL_law_835 rfl (lv_at hl 1 rfl) ?_
  refine lv_aload_n hx hb dL_law_836 rfl (lv_at hl 0 rfl) ?_
  refine lv_iload hx hb dL_law_837 (lv_at hl 4 rfl) ?_
  refine lv_iconst (v := 1) hx hb dL_law_839 (by decide) ?_
  refine lv_iadd hx hb dL_law_840 ?_
  refine s_ld (k := 1) rfl (by decide) hi hLs SX hbl hbA cx hp dL_law_841 ?_
  refine lv_aload_n hx hb dL_law_842 rfl (lv_at hl 3 rfl) ?_
  refine x_iM hp (y_SW (As := [.ref (adr E 19 0), .int (xs (i + 1)), .ref (adr E 21 0)]) (rest := []) cx hp hl (c_L_priorityOf l hN hT hlf hC e1 hz) (cwS_L_priorityOf cx ⟨by decide, by decide⟩) rfl rfl (Nat.le_of_ble_eq_true rfl) dL_law_843 ⟨by show _ ≤ 601024; omega, by show _ ≤ 7293034; omega⟩) (fun r9 u H locs hq hp => ?_)
  obtain ⟨rfl, rfl⟩ := hq
  refine lv_istore (lv' := [(5, .int (ρ'.1 0 12)), (0, .ref b), (1, .ref (adr E 19 0)), (2, .ref (adr E 20 0)), (3, .ref (adr E 21 0)), (4, .int (nI i))]) hx hb dL_law_846 hl (by decide) rfl (fun ls hl => ?_)
  refine lv_aload_n hx hb dL_law_848 rfl (lv_at hl 3 rfl) ?_
  refine lv_aload_n hx hb dL_law_849 rfl (lv_at hl 1 rfl) ?_
  refine lv_iload hx hb dL_law_850 (lv_at hl 5 rfl) ?_
  refine lv_iconst (v := 1) hx hb dL_law_852 (by decide) ?_
  refine lv_iadd hx hb dL_law_853 ?_
  refine s_ld (k := 1) rfl (by decide) hi hLs SX hbl hbA cx hp dL_law_854 ?_
  refine x_i hp (y_V (As := [.int (xs (i + 1))]) (rest := []) cx hp hl (c_X13_priorityOf l (Nat.le_trans (by decide) hN) hT e20 e2) (cw_L_188 cx rfl rfl ⟨by decide, by decide⟩) (rC_X13 (Nat.le_trans (by decide) hN) cx hp) rfl rfl (Nat.le_of_ble_eq_true rfl) dL_law_855 ⟨by show _ ≤ 601024; omega, by show _ ≤ 7293034; omega⟩) (fun r9 u H locs hq hp => ?_)
  obtain ⟨rfl, hu, hn⟩ := hq
  obtain rfl := us_x hu hn
  refine lv_istore (lv' := [(6, .int r), (5, .int (ρ'.1 0 12)), (0, .ref b), (1, .ref (adr E 19 0)), (2, .ref (adr E 20 0)), (3, .ref (adr E 21 0)), (4, .int (nI i))]) hx hb dL_law_858 hl (by decide) rfl (fun ls hl => ?_)
  refine lv_aload_n hx hb dL_law_860 rfl (lv_at hl 4 rfl) ?_
  refine x_i hp (y_V (As := []) (rest := []) cx hp hl (c_X13_thrown l (Nat.le_trans (by decide) hN) hT (us_s _ _ _) rfl) (cw_L_136 cx rfl rfl ⟨by decide, by decide⟩) (rC_X13 (Nat.le_trans (by decide) hN) cx hp) rfl rfl (Nat.le_of_ble_eq_true rfl) dL_law_861 ⟨by show _ ≤ 601024; omega, by show _ ≤ 7293034; omega⟩) (fun r9 u H locs hq hp => ?_)
  obtain ⟨rfl, rfl⟩ := hq
  refine lv_iload hx hb dL_law_864 (lv_at hl 1 rfl) ?_
  refine lv_icmp_eq (tgt := 871) hx hb dL_law_866 (by decide) (fun _ => ?_) (fun c9 => absurd rfl c9)
  refine lv_iload hx hb dL_law_871 (lv_at hl 1 rfl) ?_
  refine lv_if_ne (tgt := 888) hx hb dL_law_873 (by decide) (fun c9 => ?_) (fun c9 => ?_)
  · skip
    refine lv_goto (tgt := 2958) hx hb dL_law_888 (by decide) ?_
    refine W.widen (k := cells + 3) (n := slots + 18) (by omega) (by omega) ?_
    exact K _ H locs ls (hr9.mono (by omega)) hp (lv_sub hl [2, 3, 4, 5, 6] rfl)
  · skip
    refine lv_aload_n hx hb dL_law_876 rfl (lv_at hl 5 rfl) ?_
    refine lv_iconst (v := 0) hx hb dL_law_877 (by decide) ?_
    refine l_out hN cx hp (x := oI r) (by rw [us_n (by decide)]; exact ho (c9.trans nI_0.symm)) dL_law_878 ?_
    refine lv_iload hx hb dL_law_879 (lv_at hl 0 rfl) ?_
    refine lv_i2l hx hb dL_law_881 rfl ?_
    refine W.lcmp hx hb dL_law_882 ?_
    refine lv_if_eq (tgt := 888) hx hb dL_law_883 (by decide) (fun _ => ?_) (fun c8 => absurd (lgc_rf _) c8)
    refine lv_goto (tgt := 2958) hx hb dL_law_888 (by decide) ?_
    refine W.widen (k := cells + 3) (n := slots + 18) (by omega) (by omega) ?_
    exact K _ H locs ls (hr9.mono (by omega)) hp (lv_sub hl [2, 3, 4, 5, 6] rfl)
set_option maxRecDepth 100000 in
set_option maxHeartbeats 4000000 in
theorem k_15 {p : Program} {l : Launch} {e : Env} {s : State} {m : MethodId} {below : List Frame} {meth : Method} {c : Code} {E : Ev} {b Ls : Nat} {xs : Nat → Int32} (hlf : l.stackTraces = false) (hN : 147 ≤ eN E) (hT : St E) (hC : NC E) (cx : Cx E p s m meth c #[Value.ref b] RL cL_law 9 (some .boolean)) (SX : va_X b Ls xs s s.heap) (hbl : b < s.heap.size) (hbA : ¬ eA E b) (hLs : Ls ≤ 3072) {Q : State → Prop} {i B : Nat} (hi : i + 6 ≤ Ls) (hB9 : 9999 ≤ B) (hB : B + 300000 < 2 ^ 31) {σ : SM} (hr : Rel B σ) {cells slots : Nat} (hc : cells + 3 ≤ 601024 ∧ slots + 18 ≤ 7293034) {H : Heap} {locs : List Loc} (hp : Hp E σ s H locs) {ls : Array Slot} (hl : lv_has ls 9 (LL b E i))
    (K : ∀ (τ : SM) (H : Heap) (locs : List Loc) (ls : Array Slot), Rel (B + 196020) τ → Hp E τ s H locs → lv_has ls 9 (LL b E i) → W p l e room_1 s m #[Value.ref b] below meth c H locs (cells + 3) (slots + 18) Q (F0 m 2958 ls [])) : W p l e room_1 s m #[Value.ref b] below meth c H locs cells slots Q (F0 m 891 ls []) := by
  have hx := cx.1.1
  have hb := cx.1.2.1
  obtain ⟨z, r, ρ', σ', e1, e2, hz, e20, hr9, ho⟩ := fx_two oI (by decide) (P_preferenceCount hr (xs (i + 1)))
  refine lv_aload_n hx hb dL_law_891 rfl (lv_at hl 1 rfl) ?_
  refine lv_aload_n hx hb dL_law_892 rfl (lv_at hl 0 rfl) ?_
  refine lv_iload hx hb dL_law_893 (lv_at hl 4 rfl) ?_
  refine lv_iconst (v := 1) hx hb dL_law_895 (by decide) ?_
  refine lv_iadd hx hb dL_law_896 ?_
  refine s_ld (k := 1) rfl (by decide) hi hLs SX hbl hbA cx hp dL_law_897 ?_
  refine lv_aload_n hx hb dL_law_898 rfl (lv_at hl 3 rfl) ?_
  refine x_iM hp (y_SW (As := [.ref (adr E 19 0), .int (xs (i + 1)), .ref (adr E 21 0)]) (rest := []) cx hp hl (c_L_preferenceCount l hN hT hlf hC e1 hz) (cwS_L_preferenceCount cx ⟨by decide, by decide⟩) rfl rfl (Nat.le_of_ble_eq_true rfl) dL_law_899 ⟨by show _ ≤ 601024; omega, by show _ ≤ 7293034; omega⟩) (fun r9 u H locs hq hp => ?_)
  obtain ⟨rfl, rfl⟩ := hq
  refine lv_istore (lv' := [(5, .int (ρ'.1 0 12)), (0, .ref b), (1, .ref (adr E 19 0)), (2, .ref (adr E 20 0)), (3, .ref (adr E 21 0)), (4, .int (nI i))]) hx hb dL_law_902 hl (by decide) rfl (fun ls hl => ?_)
  refine lv_aload_n hx hb dL_law_904 rfl (lv_at hl 3 rfl) ?_
  refine lv_aload_n hx hb dL_law_905 rfl (lv_at hl 1 rfl) ?_
  refine lv_iload hx hb dL_law_906 (lv_at hl 5 rfl) ?_
  refine lv_iconst (v := 1) hx hb dL_law_908 (by decide) ?_
  refine lv_iadd hx hb dL_law_909 ?_
  refine s_ld (k := 1) rfl (by decide) hi hLs SX hbl hbA cx hp dL_law_910 ?_
  refine x_i hp (y_V (As := [.int (xs (i + 1))]) (rest := []) cx hp hl (c_X13_preferenceCount l (Nat.le_trans (by decide) hN) hT e20 e2) (cw_L_191 cx rfl rfl ⟨by decide, by decide⟩) (rC_X13 (Nat.le_trans (by decide) hN) cx hp) rfl rfl (Nat.le_of_ble_eq_true rfl) dL_law_911 ⟨by show _ ≤ 601024; omega, by show _ ≤ 7293034; omega⟩) (fun r9 u H locs hq hp => ?_)
  obtain ⟨rfl, hu, hn⟩ := hq
  obtain rfl := us_x hu hn
  refine lv_istore (lv' := [(6, .int r), (5, .int (ρ'.1 0 12)), (0, .ref b), (1, .ref (adr E 19 0)), (2, .ref (adr E 20 0)), (3, .ref (adr E 21 0)), (4, .int (nI i))]) hx hb dL_law_914 hl (by decide) rfl (fun ls hl => ?_)
  refine lv_aload_n hx hb dL_law_916 rfl (lv_at hl 4 rfl) ?_
  refine x_i hp (y_V (As := []) (rest := []) cx hp hl (c_X13_thrown l (Nat.le_trans (by decide) hN) hT (us_s _ _ _) rfl) (cw_L_136 cx rfl rfl ⟨by decide, by decide⟩) (rC_X13 (Nat.le_trans (by decide) hN) cx hp) rfl rfl (Nat.le_of_ble_eq_true rfl) dL_law_917 ⟨by show _ ≤ 601024; omega, by show _ ≤ 7293034; omega⟩) (fun r9 u H locs hq hp => ?_)
  obtain ⟨rfl, rfl⟩ := hq
  refine lv_iload hx hb dL_law_920 (lv_at hl 1 rfl) ?_
  refine lv_icmp_eq (tgt := 927) hx hb dL_law_922 (by decide) (fun _ => ?_) (fun c9 => absurd rfl c9)
  refine lv_iload hx hb dL_law_927 (lv_at hl 1 rfl) ?_
  refine lv_if_ne (tgt := 944) hx hb dL_law_929 (by decide) (fun c9 => ?_) (fun c9 => ?_)
  · skip
    refine lv_goto (tgt := 2958) hx hb dL_law_944 (by decide) ?_
    refine W.widen (k := cells + 3) (n := slots + 18) (by omega) (by omega) ?_
    exact K _ H locs ls (hr9.mono (by omega)) hp (lv_sub hl [2, 3, 4, 5, 6] rfl)
  · skip
    refine lv_aload_n hx hb dL_law_932 rfl (lv_at hl 5 rfl) ?_
    refine lv_iconst (v := 0) hx hb dL_law_933 (by decide) ?_
    refine l_out hN cx hp (x := oI r) (by rw [us_n (by decide)]; exact ho (c9.trans nI_0.symm)) dL_law_934 ?_
    refine lv_iload hx hb dL_law_935 (lv_at hl 0 rfl) ?_
    refine lv_i2l hx hb dL_law_937 rfl ?_
    refine W.lcmp hx hb dL_law_938 ?_
    refine lv_if_eq (tgt := 944) hx hb dL_law_939 (by decide) (fun _ => ?_) (fun c8 => absurd (lgc_rf _) c8)
    refine lv_goto (tgt := 2958) hx hb dL_law_944 (by decide) ?_
    refine W.widen (k := cells + 3) (n := slots + 18) (by omega) (by omega) ?_
    exact K _ H locs ls (hr9.mono (by omega)) hp (lv_sub hl [2, 3, 4, 5, 6] rfl)
set_option maxRecDepth 100000 in
set_option maxHeartbeats 4000000 in
theorem k_16 {p : Program} {l : Launch} {e : Env} {s : State} {m : MethodId} {below : List Frame} {meth : Method} {c : Code} {E : Ev} {b Ls : Nat} {xs : Nat → Int32} (hlf : l.stackTraces = false) (hN : 147 ≤ eN E) (hT : St E) (hC : NC E) (cx : Cx E p s m meth c #[Value.ref b] RL cL_law 9 (some .boolean)) (SX : va_X b Ls xs s s.heap) (hbl : b < s.heap.size) (hbA : ¬ eA E b) (hLs : Ls ≤ 3072) {Q : State → Prop} {i B : Nat} (hi : i + 6 ≤ Ls) (hB9 : 9999 ≤ B) (hB : B + 300000 < 2 ^ 31) {σ : SM} (hr : Rel B σ) {cells slots : Nat} (hc : cells + 3 ≤ 601024 ∧ slots + 18 ≤ 7293034) {H : Heap} {locs : List Loc} (hp : Hp E σ s H locs) {ls : Array Slot} (hl : lv_has ls 9 (LL b E i))
    (K : ∀ (τ : SM) (H : Heap) (locs : List Loc) (ls : Array Slot), Rel (B + 196020) τ → Hp E τ s H locs → lv_has ls 9 (LL b E i) → W p l e room_1 s m #[Value.ref b] below meth c H locs (cells + 3) (slots + 18) Q (F0 m 2958 ls [])) : W p l e room_1 s m #[Value.ref b] below meth c H locs cells slots Q (F0 m 947 ls []) := by
  have hx := cx.1.1
  have hb := cx.1.2.1
  obtain ⟨z, r, ρ', σ', e1, e2, hz, e20, hr9, ho⟩ := fx_two oI (by decide) (P_preferenceAt hr (xs (i + 1)) (xs (i + 2)))
  refine lv_aload_n hx hb dL_law_947 rfl (lv_at hl 1 rfl) ?_
  refine lv_aload_n hx hb dL_law_948 rfl (lv_at hl 0 rfl) ?_
  refine lv_iload hx hb dL_law_949 (lv_at hl 4 rfl) ?_
  refine lv_iconst (v := 1) hx hb dL_law_951 (by decide) ?_
  refine lv_iadd hx hb dL_law_952 ?_
  refine s_ld (k := 1) rfl (by decide) hi hLs SX hbl hbA cx hp dL_law_953 ?_
  refine lv_aload_n hx hb dL_law_954 rfl (lv_at hl 0 rfl) ?_
  refine lv_iload hx hb dL_law_955 (lv_at hl 4 rfl) ?_
  refine lv_iconst (v := 2) hx hb dL_law_957 (by decide) ?_
  refine lv_iadd hx hb dL_law_958 ?_
  refine s_ld (k := 2) rfl (by decide) hi hLs SX hbl hbA cx hp dL_law_959 ?_
  refine lv_aload_n hx hb dL_law_960 rfl (lv_at hl 3 rfl) ?_
  refine x_iM hp (y_SW (As := [.ref (adr E 19 0), .int (xs (i + 1)), .int (xs (i + 2)), .ref (adr E 21 0)]) (rest := []) cx hp hl (c_L_preferenceAt l hN hT hlf hC e1 hz) (cwS_L_preferenceAt cx ⟨by decide, by decide⟩) rfl rfl (Nat.le_of_ble_eq_true rfl) dL_law_961 ⟨by show _ ≤ 601024; omega, by show _ ≤ 7293034; omega⟩) (fun r9 u H locs hq hp => ?_)
  obtain ⟨rfl, rfl⟩ := hq
  refine lv_istore (lv' := [(5, .int (ρ'.1 0 12)), (0, .ref b), (1, .ref (adr E 19 0)), (2, .ref (adr E 20 0)), (3, .ref (adr E 21 0)), (4, .int (nI i))]) hx hb dL_law_964 hl (by decide) rfl (fun ls hl => ?_)
  refine lv_aload_n hx hb dL_law_966 rfl (lv_at hl 3 rfl) ?_
  refine lv_aload_n hx hb dL_law_967 rfl (lv_at hl 1 rfl) ?_
  refine lv_iload hx hb dL_law_968 (lv_at hl 5 rfl) ?_
  refine lv_iconst (v := 1) hx hb dL_law_970 (by decide) ?_
  refine lv_iadd hx hb dL_law_971 ?_
  refine s_ld (k := 1) rfl (by decide) hi hLs SX hbl hbA cx hp dL_law_972 ?_
  refine lv_aload_n hx hb dL_law_973 rfl (lv_at hl 1 rfl) ?_
  refine lv_iload hx hb dL_law_974 (lv_at hl 5 rfl) ?_
  refine lv_iconst (v := 2) hx hb dL_law_976 (by decide) ?_
  refine lv_iadd hx hb dL_law_977 ?_
  refine s_ld (k := 2) rfl (by decide) hi hLs SX hbl hbA cx hp dL_law_978 ?_
  refine x_i hp (y_V (As := [.int (xs (i + 1)), .int (xs (i + 2))]) (rest := []) cx hp hl (c_X13_preferenceAt l (Nat.le_trans (by decide) hN) hT e20 e2) (cw_L_195 cx rfl rfl ⟨by decide, by decide⟩) (rC_X13 (Nat.le_trans (by decide) hN) cx hp) rfl rfl (Nat.le_of_ble_eq_true rfl) dL_law_979 ⟨by show _ ≤ 601024; omega, by show _ ≤ 7293034; omega⟩) (fun r9 u H locs hq hp => ?_)
  obtain ⟨rfl, hu, hn⟩ := hq
  obtain rfl := us_x hu hn
  refine lv_istore (lv' := [(6, .int r), (5, .int (ρ'.1 0 12)), (0, .ref b), (1, .ref (adr E 19 0)), (2, .ref (adr E 20 0)), (3, .ref (adr E 21 0)), (4, .int (nI i))]) hx hb dL_law_982 hl (by decide) rfl (fun ls hl => ?_)
  refine lv_aload_n hx hb dL_law_984 rfl (lv_at hl 4 rfl) ?_
  refine x_i hp (y_V (As := []) (rest := []) cx hp hl (c_X13_thrown l (Nat.le_trans (by decide) hN) hT (us_s _ _ _) rfl) (cw_L_136 cx rfl rfl ⟨by decide, by decide⟩) (rC_X13 (Nat.le_trans (by decide) hN) cx hp) rfl rfl (Nat.le_of_ble_eq_true rfl) dL_law_985 ⟨by show _ ≤ 601024; omega, by show _ ≤ 7293034; omega⟩) (fun r9 u H locs hq hp => ?_)
  obtain ⟨rfl, rfl⟩ := hq
  refine lv_iload hx hb dL_law_988 (lv_at hl 1 rfl) ?_
  refine lv_icmp_eq (tgt := 995) hx hb dL_law_990 (by decide) (fun _ => ?_) (fun c9 => absurd rfl c9)
  refine lv_iload hx hb dL_law_995 (lv_at hl 1 rfl) ?_
  refine lv_if_ne (tgt := 1012) hx hb dL_law_997 (by decide) (fun c9 => ?_) (fun c9 => ?_)
  · skip
    refine lv_goto (tgt := 2958) hx hb dL_law_1012 (by decide) ?_
    refine W.widen (k := cells + 3) (n := slots + 18) (by omega) (by omega) ?_
    exact K _ H locs ls (hr9.mono (by omega)) hp (lv_sub hl [2, 3, 4, 5, 6] rfl)
  · skip
    refine lv_aload_n hx hb dL_law_1000 rfl (lv_at hl 5 rfl) ?_
    refine lv_iconst (v := 0) hx hb dL_law_1001 (by decide) ?_
    refine l_out hN cx hp (x := oI r) (by rw [us_n (by decide)]; exact ho (c9.trans nI_0.symm)) dL_law_1002 ?_
    refine lv_iload hx hb dL_law_1003 (lv_at hl 0 rfl) ?_
    refine lv_i2l hx hb dL_law_1005 rfl ?_
    refine W.lcmp hx hb dL_law_1006 ?_
    refine lv_if_eq (tgt := 1012) hx hb dL_law_1007 (by decide) (fun _ => ?_) (fun c8 => absurd (lgc_rf _) c8)
    refine lv_goto (tgt := 2958) hx hb dL_law_1012 (by decide) ?_
    refine W.widen (k := cells + 3) (n := slots + 18) (by omega) (by omega) ?_
    exact K _ H locs ls (hr9.mono (by omega)) hp (lv_sub hl [2, 3, 4, 5, 6] rfl)
set_option maxRecDepth 100000 in
set_option maxHeartbeats 4000000 in
theorem k_17 {p : Program} {l : Launch} {e : Env} {s : State} {m : MethodId} {below : List Frame} {meth : Method} {c : Code} {E : Ev} {b Ls : Nat} {xs : Nat → Int32} (hlf : l.stackTraces = false) (hN : 147 ≤ eN E) (hT : St E) (hC : NC E) (cx : Cx E p s m meth c #[Value.ref b] RL cL_law 9 (some .boolean)) (SX : va_X b Ls xs s s.heap) (hbl : b < s.heap.size) (hbA : ¬ eA E b) (hLs : Ls ≤ 3072) {Q : State → Prop} {i B : Nat} (hi : i + 6 ≤ Ls) (hB9 : 9999 ≤ B) (hB : B + 300000 < 2 ^ 31) {σ : SM} (hr : Rel B σ) {cells slots : Nat} (hc : cells + 3 ≤ 601024 ∧ slots + 18 ≤ 7293034) {H : Heap} {locs : List Loc} (hp : Hp E σ s H locs) {ls : Array Slot} (hl : lv_has ls 9 (LL b E i))
    (K : ∀ (τ : SM) (H : Heap) (locs : List Loc) (ls : Array Slot), Rel (B + 196020) τ → Hp E τ s H locs → lv_has ls 9 (LL b E i) → W p l e room_1 s m #[Value.ref b] below meth c H locs (cells + 3) (slots + 18) Q (F0 m 2958 ls [])) : W p l e room_1 s m #[Value.ref b] below meth c H locs cells slots Q (F0 m 1015 ls []) := by
  have hx := cx.1.1
  have hb := cx.1.2.1
  obtain ⟨z, r, ρ', σ', e1, e2, hz, e20, hr9, ho⟩ := fx_two oI (by decide) (P_rankOf hr (xs (i + 1)) (xs (i + 2)))
  refine lv_aload_n hx hb dL_law_1015 rfl (lv_at hl 1 rfl) ?_
  refine lv_aload_n hx hb dL_law_1016 rfl (lv_at hl 0 rfl) ?_
  refine lv_iload hx hb dL_law_1017 (lv_at hl 4 rfl) ?_
  refine lv_iconst (v := 1) hx hb dL_law_1019 (by decide) ?_
  refine lv_iadd hx hb dL_law_1020 ?_
  refine s_ld (k := 1) rfl (by decide) hi hLs SX hbl hbA cx hp dL_law_1021 ?_
  refine lv_aload_n hx hb dL_law_1022 rfl (lv_at hl 0 rfl) ?_
  refine lv_iload hx hb dL_law_1023 (lv_at hl 4 rfl) ?_
  refine lv_iconst (v := 2) hx hb dL_law_1025 (by decide) ?_
  refine lv_iadd hx hb dL_law_1026 ?_
  refine s_ld (k := 2) rfl (by decide) hi hLs SX hbl hbA cx hp dL_law_1027 ?_
  refine lv_aload_n hx hb dL_law_1028 rfl (lv_at hl 3 rfl) ?_
  refine x_iM hp (y_SW (As := [.ref (adr E 19 0), .int (xs (i + 1)), .int (xs (i + 2)), .ref (adr E 21 0)]) (rest := []) cx hp hl (c_L_rankOf l hN hT hlf hC e1 hz) (cwS_L_rankOf cx ⟨by decide, by decide⟩) rfl rfl (Nat.le_of_ble_eq_true rfl) dL_law_1029 ⟨by show _ ≤ 601024; omega, by show _ ≤ 7293034; omega⟩) (fun r9 u H locs hq hp => ?_)
  obtain ⟨rfl, rfl⟩ := hq
  refine lv_istore (lv' := [(5, .int (ρ'.1 0 12)), (0, .ref b), (1, .ref (adr E 19 0)), (2, .ref (adr E 20 0)), (3, .ref (adr E 21 0)), (4, .int (nI i))]) hx hb dL_law_1032 hl (by decide) rfl (fun ls hl => ?_)
  refine lv_aload_n hx hb dL_law_1034 rfl (lv_at hl 3 rfl) ?_
  refine lv_aload_n hx hb dL_law_1035 rfl (lv_at hl 1 rfl) ?_
  refine lv_iload hx hb dL_law_1036 (lv_at hl 5 rfl) ?_
  refine lv_iconst (v := 1) hx hb dL_law_1038 (by decide) ?_
  refine lv_iadd hx hb dL_law_1039 ?_
  refine s_ld (k := 1) rfl (by decide) hi hLs SX hbl hbA cx hp dL_law_1040 ?_
  refine lv_aload_n hx hb dL_law_1041 rfl (lv_at hl 1 rfl) ?_
  refine lv_iload hx hb dL_law_1042 (lv_at hl 5 rfl) ?_
  refine lv_iconst (v := 2) hx hb dL_law_1044 (by decide) ?_
  refine lv_iadd hx hb dL_law_1045 ?_
  refine s_ld (k := 2) rfl (by decide) hi hLs SX hbl hbA cx hp dL_law_1046 ?_
  refine x_i hp (y_V (As := [.int (xs (i + 1)), .int (xs (i + 2))]) (rest := []) cx hp hl (c_X13_rankOf l (Nat.le_trans (by decide) hN) hT e20 e2) (cw_L_198 cx rfl rfl ⟨by decide, by decide⟩) (rC_X13 (Nat.le_trans (by decide) hN) cx hp) rfl rfl (Nat.le_of_ble_eq_true rfl) dL_law_1047 ⟨by show _ ≤ 601024; omega, by show _ ≤ 7293034; omega⟩) (fun r9 u H locs hq hp => ?_)
  obtain ⟨rfl, hu, hn⟩ := hq
  obtain rfl := us_x hu hn
  refine lv_istore (lv' := [(6, .int r), (5, .int (ρ'.1 0 12)), (0, .ref b), (1, .ref (adr E 19 0)), (2, .ref (adr E 20 0)), (3, .ref (adr E 21 0)), (4, .int (nI i))]) hx hb dL_law_1050 hl (by decide) rfl (fun ls hl => ?_)
  refine lv_aload_n hx hb dL_law_1052 rfl (lv_at hl 4 rfl) ?_
  refine x_i hp (y_V (As := []) (rest := []) cx hp hl (c_X13_thrown l (Nat.le_trans (by decide) hN) hT (us_s _ _ _) rfl) (cw_L_136 cx rfl rfl ⟨by decide, by decide⟩) (rC_X13 (Nat.le_trans (by decide) hN) cx hp) rfl rfl (Nat.le_of_ble_eq_true rfl) dL_law_1053 ⟨by show _ ≤ 601024; omega, by show _ ≤ 7293034; omega⟩) (fun r9 u H locs hq hp => ?_)
  obtain ⟨rfl, rfl⟩ := hq
  refine lv_iload hx hb dL_law_1056 (lv_at hl 1 rfl) ?_
  refine lv_icmp_eq (tgt := 1063) hx hb dL_law_1058 (by decide) (fun _ => ?_) (fun c9 => absurd rfl c9)
  refine lv_iload hx hb dL_law_1063 (lv_at hl 1 rfl) ?_
  refine lv_if_ne (tgt := 1080) hx hb dL_law_1065 (by decide) (fun c9 => ?_) (fun c9 => ?_)
  · skip
    refine lv_goto (tgt := 2958) hx hb dL_law_1080 (by decide) ?_
    refine W.widen (k := cells + 3) (n := slots + 18) (by omega) (by omega) ?_
    exact K _ H locs ls (hr9.mono (by omega)) hp (lv_sub hl [2, 3, 4, 5, 6] rfl)
  · skip
    refine lv_aload_n hx hb dL_law_1068 rfl (lv_at hl 5 rfl) ?_
    refine lv_iconst (v := 0) hx hb dL_law_1069 (by decide) ?_
    refine l_out hN cx hp (x := oI r) (by rw [us_n (by decide)]; exact ho (c9.trans nI_0.symm)) dL_law_1070 ?_
    refine lv_iload hx hb dL_law_1071 (lv_at hl 0 rfl) ?_
    refine lv_i2l hx hb dL_law_1073 rfl ?_
    refine W.lcmp hx hb dL_law_1074 ?_
    refine lv_if_eq (tgt := 1080) hx hb dL_law_1075 (by decide) (fun _ => ?_) (fun c8 => absurd (lgc_rf _) c8)
    refine lv_goto (tgt := 2958) hx hb dL_law_1080 (by decide) ?_
    refine W.widen (k := cells + 3) (n := slots + 18) (by omega) (by omega) ?_
    exact K _ H locs ls (hr9.mono (by omega)) hp (lv_sub hl [2, 3, 4, 5, 6] rfl)
set_option maxRecDepth 100000 in
set_option maxHeartbeats 4000000 in
theorem k_18 {p : Program} {l : Launch} {e : Env} {s : State} {m : MethodId} {below : List Frame} {meth : Method} {c : Code} {E : Ev} {b Ls : Nat} {xs : Nat → Int32} (hlf : l.stackTraces = false) (hN : 147 ≤ eN E) (hT : St E) (hC : NC E) (cx : Cx E p s m meth c #[Value.ref b] RL cL_law 9 (some .boolean)) (SX : va_X b Ls xs s s.heap) (hbl : b < s.heap.size) (hbA : ¬ eA E b) (hLs : Ls ≤ 3072) {Q : State → Prop} {i B : Nat} (hi : i + 6 ≤ Ls) (hB9 : 9999 ≤ B) (hB : B + 300000 < 2 ^ 31) {σ : SM} (hr : Rel B σ) {cells slots : Nat} (hc : cells + 3 ≤ 601024 ∧ slots + 18 ≤ 7293034) {H : Heap} {locs : List Loc} (hp : Hp E σ s H locs) {ls : Array Slot} (hl : lv_has ls 9 (LL b E i))
    (K : ∀ (τ : SM) (H : Heap) (locs : List Loc) (ls : Array Slot), Rel (B + 196020) τ → Hp E τ s H locs → lv_has ls 9 (LL b E i) → W p l e room_1 s m #[Value.ref b] below meth c H locs (cells + 3) (slots + 18) Q (F0 m 2958 ls [])) : W p l e room_1 s m #[Value.ref b] below meth c H locs cells slots Q (F0 m 1083 ls []) := by
  have hx := cx.1.1
  have hb := cx.1.2.1
  obtain ⟨z, r, ρ', σ', e1, e2, hz, e20, hr9, ho⟩ := fx_two oB (by decide) (P_prefers hr (xs (i + 1)) (xs (i + 2)) (xs (i + 3)))
  refine lv_aload_n hx hb dL_law_1083 rfl (lv_at hl 1 rfl) ?_
  refine lv_aload_n hx hb dL_law_1084 rfl (lv_at hl 0 rfl) ?_
  refine lv_iload hx hb dL_law_1085 (lv_at hl 4 rfl) ?_
  refine lv_iconst (v := 1) hx hb dL_law_1087 (by decide) ?_
  refine lv_iadd hx hb dL_law_1088 ?_
  refine s_ld (k := 1) rfl (by decide) hi hLs SX hbl hbA cx hp dL_law_1089 ?_
  refine lv_aload_n hx hb dL_law_1090 rfl (lv_at hl 0 rfl) ?_
  refine lv_iload hx hb dL_law_1091 (lv_at hl 4 rfl) ?_
  refine lv_iconst (v := 2) hx hb dL_law_1093 (by decide) ?_
  refine lv_iadd hx hb dL_law_1094 ?_
  refine s_ld (k := 2) rfl (by decide) hi hLs SX hbl hbA cx hp dL_law_1095 ?_
  refine lv_aload_n hx hb dL_law_1096 rfl (lv_at hl 0 rfl) ?_
  refine lv_iload hx hb dL_law_1097 (lv_at hl 4 rfl) ?_
  refine lv_iconst (v := 3) hx hb dL_law_1099 (by decide) ?_
  refine lv_iadd hx hb dL_law_1100 ?_
  refine s_ld (k := 3) rfl (by decide) hi hLs SX hbl hbA cx hp dL_law_1101 ?_
  refine lv_aload_n hx hb dL_law_1102 rfl (lv_at hl 3 rfl) ?_
  refine x_iM hp (y_SW (As := [.ref (adr E 19 0), .int (xs (i + 1)), .int (xs (i + 2)), .int (xs (i + 3)), .ref (adr E 21 0)]) (rest := []) cx hp hl (c_L_prefers l hN hT hlf hC e1 hz) (cwS_L_prefers cx ⟨by decide, by decide⟩) rfl rfl (Nat.le_of_ble_eq_true rfl) dL_law_1103 ⟨by show _ ≤ 601024; omega, by show _ ≤ 7293034; omega⟩) (fun r9 u H locs hq hp => ?_)
  obtain ⟨rfl, rfl⟩ := hq
  refine lv_istore (lv' := [(5, .int (ρ'.1 0 12)), (0, .ref b), (1, .ref (adr E 19 0)), (2, .ref (adr E 20 0)), (3, .ref (adr E 21 0)), (4, .int (nI i))]) hx hb dL_law_1106 hl (by decide) rfl (fun ls hl => ?_)
  refine lv_aload_n hx hb dL_law_1108 rfl (lv_at hl 3 rfl) ?_
  refine lv_aload_n hx hb dL_law_1109 rfl (lv_at hl 1 rfl) ?_
  refine lv_iload hx hb dL_law_1110 (lv_at hl 5 rfl) ?_
  refine lv_iconst (v := 1) hx hb dL_law_1112 (by decide) ?_
  refine lv_iadd hx hb dL_law_1113 ?_
  refine s_ld (k := 1) rfl (by decide) hi hLs SX hbl hbA cx hp dL_law_1114 ?_
  refine lv_aload_n hx hb dL_law_1115 rfl (lv_at hl 1 rfl) ?_
  refine lv_iload hx hb dL_law_1116 (lv_at hl 5 rfl) ?_
  refine lv_iconst (v := 2) hx hb dL_law_1118 (by decide) ?_
  refine lv_iadd hx hb dL_law_1119 ?_
  refine s_ld (k := 2) rfl (by decide) hi hLs SX hbl hbA cx hp dL_law_1120 ?_
  refine lv_aload_n hx hb dL_law_1121 rfl (lv_at hl 1 rfl) ?_
  refine lv_iload hx hb dL_law_1122 (lv_at hl 5 rfl) ?_
  refine lv_iconst (v := 3) hx hb dL_law_1124 (by decide) ?_
  refine lv_iadd hx hb dL_law_1125 ?_
  refine s_ld (k := 3) rfl (by decide) hi hLs SX hbl hbA cx hp dL_law_1126 ?_
  refine x_i hp (y_V (As := [.int (xs (i + 1)), .int (xs (i + 2)), .int (xs (i + 3))]) (rest := []) cx hp hl (c_X13_prefers l (Nat.le_trans (by decide) hN) hT e20 e2) (cw_L_202 cx rfl rfl ⟨by decide, by decide⟩) (rC_X13 (Nat.le_trans (by decide) hN) cx hp) rfl rfl (Nat.le_of_ble_eq_true rfl) dL_law_1127 ⟨by show _ ≤ 601024; omega, by show _ ≤ 7293034; omega⟩) (fun r9 u H locs hq hp => ?_)
  obtain ⟨rfl, hu, hn⟩ := hq
  obtain rfl := us_x hu hn
  refine lv_istore (lv' := [(6, .int r), (5, .int (ρ'.1 0 12)), (0, .ref b), (1, .ref (adr E 19 0)), (2, .ref (adr E 20 0)), (3, .ref (adr E 21 0)), (4, .int (nI i))]) hx hb dL_law_1130 hl (by decide) rfl (fun ls hl => ?_)
  refine lv_aload_n hx hb dL_law_1132 rfl (lv_at hl 4 rfl) ?_
  refine x_i hp (y_V (As := []) (rest := []) cx hp hl (c_X13_thrown l (Nat.le_trans (by decide) hN) hT (us_s _ _ _) rfl) (cw_L_136 cx rfl rfl ⟨by decide, by decide⟩) (rC_X13 (Nat.le_trans (by decide) hN) cx hp) rfl rfl (Nat.le_of_ble_eq_true rfl) dL_law_1133 ⟨by show _ ≤ 601024; omega, by show _ ≤ 7293034; omega⟩) (fun r9 u H locs hq hp => ?_)
  obtain ⟨rfl, rfl⟩ := hq
  refine lv_iload hx hb dL_law_1136 (lv_at hl 1 rfl) ?_
  refine lv_icmp_eq (tgt := 1143) hx hb dL_law_1138 (by decide) (fun _ => ?_) (fun c9 => absurd rfl c9)
  refine lv_iload hx hb dL_law_1143 (lv_at hl 1 rfl) ?_
  refine lv_if_ne (tgt := 1167) hx hb dL_law_1145 (by decide) (fun c9 => ?_) (fun c9 => ?_)
  · skip
    refine lv_goto (tgt := 2958) hx hb dL_law_1167 (by decide) ?_
    refine W.widen (k := cells + 3) (n := slots + 18) (by omega) (by omega) ?_
    exact K _ H locs ls (hr9.mono (by omega)) hp (lv_sub hl [2, 3, 4, 5, 6] rfl)
  · skip
    refine lv_aload_n hx hb dL_law_1148 rfl (lv_at hl 5 rfl) ?_
    refine lv_iconst (v := 0) hx hb dL_law_1149 (by decide) ?_
    refine l_out hN cx hp (x := oB r) (by rw [us_n (by decide)]; exact ho (c9.trans nI_0.symm)) dL_law_1150 ?_
    refine lv_iload hx hb dL_law_1151 (lv_at hl 0 rfl) ?_
    refine lv_if_eq (tgt := 1160) hx hb dL_law_1153 (by decide) (fun c7 => ?_) (fun c7 => ?_)
    · skip
      refine lv_lconst (v := 0) hx hb dL_law_1160 (by decide) ?_
      refine W.lcmp hx hb dL_law_1161 ?_
      refine lv_if_eq (tgt := 1167) hx hb dL_law_1162 (by decide) (fun _ => ?_) (fun c8 => absurd (by rw [oB, if_pos c7]; exact lgc_rf _) c8)
      refine lv_goto (tgt := 2958) hx hb dL_law_1167 (by decide) ?_
      refine W.widen (k := cells + 3) (n := slots + 18) (by omega) (by omega) ?_
      exact K _ H locs ls (hr9.mono (by omega)) hp (lv_sub hl [2, 3, 4, 5, 6] rfl)
    · skip
      refine lv_lconst (v := 1) hx hb dL_law_1156 (by decide) ?_
      refine lv_goto (tgt := 1161) hx hb dL_law_1157 (by decide) ?_
      refine W.lcmp hx hb dL_law_1161 ?_
      refine lv_if_eq (tgt := 1167) hx hb dL_law_1162 (by decide) (fun _ => ?_) (fun c8 => absurd (by rw [oB, if_neg c7]; exact lgc_rf _) c8)
      refine lv_goto (tgt := 2958) hx hb dL_law_1167 (by decide) ?_
      refine W.widen (k := cells + 3) (n := slots + 18) (by omega) (by omega) ?_
      exact K _ H locs ls (hr9.mono (by omega)) hp (lv_sub hl [2, 3, 4, 5, 6] rfl)
set_option maxRecDepth 100000 in
set_option maxHeartbeats 4000000 in
theorem k_19 {p : Program} {l : Launch} {e : Env} {s : State} {m : MethodId} {below : List Frame} {meth : Method} {c : Code} {E : Ev} {b Ls : Nat} {xs : Nat → Int32} (hlf : l.stackTraces = false) (hN : 147 ≤ eN E) (hT : St E) (hC : NC E) (cx : Cx E p s m meth c #[Value.ref b] RL cL_law 9 (some .boolean)) (SX : va_X b Ls xs s s.heap) (hbl : b < s.heap.size) (hbA : ¬ eA E b) (hLs : Ls ≤ 3072) {Q : State → Prop} {i B : Nat} (hi : i + 6 ≤ Ls) (hB9 : 9999 ≤ B) (hB : B + 300000 < 2 ^ 31) {σ : SM} (hr : Rel B σ) {cells slots : Nat} (hc : cells + 3 ≤ 601024 ∧ slots + 18 ≤ 7293034) {H : Heap} {locs : List Loc} (hp : Hp E σ s H locs) {ls : Array Slot} (hl : lv_has ls 9 (LL b E i))
    (K : ∀ (τ : SM) (H : Heap) (locs : List Loc) (ls : Array Slot), Rel (B + 196020) τ → Hp E τ s H locs → lv_has ls 9 (LL b E i) → W p l e room_1 s m #[Value.ref b] below meth c H locs (cells + 3) (slots + 18) Q (F0 m 2958 ls [])) : W p l e room_1 s m #[Value.ref b] below meth c H locs cells slots Q (F0 m 1170 ls []) := by
  have hx := cx.1.1
  have hb := cx.1.2.1
  obtain ⟨z, r, ρ', σ', e1, e2, hz, e20, hr9, ho⟩ := fx_two oI (by decide) (P_sellerNameByte hr (xs (i + 1)) (xs (i + 2)))
  refine lv_aload_n hx hb dL_law_1170 rfl (lv_at hl 1 rfl) ?_
  refine lv_aload_n hx hb dL_law_1171 rfl (lv_at hl 0 rfl) ?_
  refine lv_iload hx hb dL_law_1172 (lv_at hl 4 rfl) ?_
  refine lv_iconst (v := 1) hx hb dL_law_1174 (by decide) ?_
  refine lv_iadd hx hb dL_law_1175 ?_
  refine s_ld (k := 1) rfl (by decide) hi hLs SX hbl hbA cx hp dL_law_1176 ?_
  refine lv_aload_n hx hb dL_law_1177 rfl (lv_at hl 0 rfl) ?_
  refine lv_iload hx hb dL_law_1178 (lv_at hl 4 rfl) ?_
  refine lv_iconst (v := 2) hx hb dL_law_1180 (by decide) ?_
  refine lv_iadd hx hb dL_law_1181 ?_
  refine s_ld (k := 2) rfl (by decide) hi hLs SX hbl hbA cx hp dL_law_1182 ?_
  refine lv_aload_n hx hb dL_law_1183 rfl (lv_at hl 3 rfl) ?_
  refine x_iM hp (y_SW (As := [.ref (adr E 19 0), .int (xs (i + 1)), .int (xs (i + 2)), .ref (adr E 21 0)]) (rest := []) cx hp hl (c_L_sellerNameByte l hN hT hlf hC e1 hz) (cwS_L_sellerNameByte cx ⟨by decide, by decide⟩) rfl rfl (Nat.le_of_ble_eq_true rfl) dL_law_1184 ⟨by show _ ≤ 601024; omega, by show _ ≤ 7293034; omega⟩) (fun r9 u H locs hq hp => ?_)
  obtain ⟨rfl, rfl⟩ := hq
  refine lv_istore (lv' := [(5, .int (ρ'.1 0 12)), (0, .ref b), (1, .ref (adr E 19 0)), (2, .ref (adr E 20 0)), (3, .ref (adr E 21 0)), (4, .int (nI i))]) hx hb dL_law_1187 hl (by decide) rfl (fun ls hl => ?_)
  refine lv_aload_n hx hb dL_law_1189 rfl (lv_at hl 3 rfl) ?_
  refine lv_aload_n hx hb dL_law_1190 rfl (lv_at hl 1 rfl) ?_
  refine lv_iload hx hb dL_law_1191 (lv_at hl 5 rfl) ?_
  refine lv_iconst (v := 1) hx hb dL_law_1193 (by decide) ?_
  refine lv_iadd hx hb dL_law_1194 ?_
  refine s_ld (k := 1) rfl (by decide) hi hLs SX hbl hbA cx hp dL_law_1195 ?_
  refine lv_aload_n hx hb dL_law_1196 rfl (lv_at hl 1 rfl) ?_
  refine lv_iload hx hb dL_law_1197 (lv_at hl 5 rfl) ?_
  refine lv_iconst (v := 2) hx hb dL_law_1199 (by decide) ?_
  refine lv_iadd hx hb dL_law_1200 ?_
  refine s_ld (k := 2) rfl (by decide) hi hLs SX hbl hbA cx hp dL_law_1201 ?_
  refine x_i hp (y_V (As := [.int (xs (i + 1)), .int (xs (i + 2))]) (rest := []) cx hp hl (c_X13_sellerNameByte l (Nat.le_trans (by decide) hN) hT e20 e2) (cw_L_205 cx rfl rfl ⟨by decide, by decide⟩) (rC_X13 (Nat.le_trans (by decide) hN) cx hp) rfl rfl (Nat.le_of_ble_eq_true rfl) dL_law_1202 ⟨by show _ ≤ 601024; omega, by show _ ≤ 7293034; omega⟩) (fun r9 u H locs hq hp => ?_)
  obtain ⟨rfl, hu, hn⟩ := hq
  obtain rfl := us_x hu hn
  refine lv_istore (lv' := [(6, .int r), (5, .int (ρ'.1 0 12)), (0, .ref b), (1, .ref (adr E 19 0)), (2, .ref (adr E 20 0)), (3, .ref (adr E 21 0)), (4, .int (nI i))]) hx hb dL_law_1205 hl (by decide) rfl (fun ls hl => ?_)
  refine lv_aload_n hx hb dL_law_1207 rfl (lv_at hl 4 rfl) ?_
  refine x_i hp (y_V (As := []) (rest := []) cx hp hl (c_X13_thrown l (Nat.le_trans (by decide) hN) hT (us_s _ _ _) rfl) (cw_L_136 cx rfl rfl ⟨by decide, by decide⟩) (rC_X13 (Nat.le_trans (by decide) hN) cx hp) rfl rfl (Nat.le_of_ble_eq_true rfl) dL_law_1208 ⟨by show _ ≤ 601024; omega, by show _ ≤ 7293034; omega⟩) (fun r9 u H locs hq hp => ?_)
  obtain ⟨rfl, rfl⟩ := hq
  refine lv_iload hx hb dL_law_1211 (lv_at hl 1 rfl) ?_
  refine lv_icmp_eq (tgt := 1218) hx hb dL_law_1213 (by decide) (fun _ => ?_) (fun c9 => absurd rfl c9)
  refine lv_iload hx hb dL_law_1218 (lv_at hl 1 rfl) ?_
  refine lv_if_ne (tgt := 1235) hx hb dL_law_1220 (by decide) (fun c9 => ?_) (fun c9 => ?_)
  · skip
    refine lv_goto (tgt := 2958) hx hb dL_law_1235 (by decide) ?_
    refine W.widen (k := cells + 3) (n := slots + 18) (by omega) (by omega) ?_
    exact K _ H locs ls (hr9.mono (by omega)) hp (lv_sub hl [2, 3, 4, 5, 6] rfl)
  · skip
    refine lv_aload_n hx hb dL_law_1223 rfl (lv_at hl 5 rfl) ?_
    refine lv_iconst (v := 0) hx hb dL_law_1224 (by decide) ?_
    refine l_out hN cx hp (x := oI r) (by rw [us_n (by decide)]; exact ho (c9.trans nI_0.symm)) dL_law_1225 ?_
    refine lv_iload hx hb dL_law_1226 (lv_at hl 0 rfl) ?_
    refine lv_i2l hx hb dL_law_1228 rfl ?_
    refine W.lcmp hx hb dL_law_1229 ?_
    refine lv_if_eq (tgt := 1235) hx hb dL_law_1230 (by decide) (fun _ => ?_) (fun c8 => absurd (lgc_rf _) c8)
    refine lv_goto (tgt := 2958) hx hb dL_law_1235 (by decide) ?_
    refine W.widen (k := cells + 3) (n := slots + 18) (by omega) (by omega) ?_
    exact K _ H locs ls (hr9.mono (by omega)) hp (lv_sub hl [2, 3, 4, 5, 6] rfl)
set_option maxRecDepth 100000 in
set_option maxHeartbeats 4000000 in
theorem k_20 {p : Program} {l : Launch} {e : Env} {s : State} {m : MethodId} {below : List Frame} {meth : Method} {c : Code} {E : Ev} {b Ls : Nat} {xs : Nat → Int32} (hlf : l.stackTraces = false) (hN : 147 ≤ eN E) (hT : St E) (hC : NC E) (cx : Cx E p s m meth c #[Value.ref b] RL cL_law 9 (some .boolean)) (SX : va_X b Ls xs s s.heap) (hbl : b < s.heap.size) (hbA : ¬ eA E b) (hLs : Ls ≤ 3072) {Q : State → Prop} {i B : Nat} (hi : i + 6 ≤ Ls) (hB9 : 9999 ≤ B) (hB : B + 300000 < 2 ^ 31) {σ : SM} (hr : Rel B σ) {cells slots : Nat} (hc : cells + 3 ≤ 601024 ∧ slots + 18 ≤ 7293034) {H : Heap} {locs : List Loc} (hp : Hp E σ s H locs) {ls : Array Slot} (hl : lv_has ls 9 (LL b E i))
    (K : ∀ (τ : SM) (H : Heap) (locs : List Loc) (ls : Array Slot), Rel (B + 196020) τ → Hp E τ s H locs → lv_has ls 9 (LL b E i) → W p l e room_1 s m #[Value.ref b] below meth c H locs (cells + 3) (slots + 18) Q (F0 m 2958 ls [])) : W p l e room_1 s m #[Value.ref b] below meth c H locs cells slots Q (F0 m 1238 ls []) := by
  have hx := cx.1.1
  have hb := cx.1.2.1
  obtain ⟨z, r, ρ', σ', e1, e2, hz, e20, hr9, ho⟩ := fx_two oI (by decide) (P_stallNameByte hr (xs (i + 1)) (xs (i + 2)))
  refine lv_aload_n hx hb dL_law_1238 rfl (lv_at hl 1 rfl) ?_
  refine lv_aload_n hx hb dL_law_1239 rfl (lv_at hl 0 rfl) ?_
  refine lv_iload hx hb dL_law_1240 (lv_at hl 4 rfl) ?_
  refine lv_iconst (v := 1) hx hb dL_law_1242 (by decide) ?_
  refine lv_iadd hx hb dL_law_1243 ?_
  refine s_ld (k := 1) rfl (by decide) hi hLs SX hbl hbA cx hp dL_law_1244 ?_
  refine lv_aload_n hx hb dL_law_1245 rfl (lv_at hl 0 rfl) ?_
  refine lv_iload hx hb dL_law_1246 (lv_at hl 4 rfl) ?_
  refine lv_iconst (v := 2) hx hb dL_law_1248 (by decide) ?_
  refine lv_iadd hx hb dL_law_1249 ?_
  refine s_ld (k := 2) rfl (by decide) hi hLs SX hbl hbA cx hp dL_law_1250 ?_
  refine lv_aload_n hx hb dL_law_1251 rfl (lv_at hl 3 rfl) ?_
  refine x_iM hp (y_SW (As := [.ref (adr E 19 0), .int (xs (i + 1)), .int (xs (i + 2)), .ref (adr E 21 0)]) (rest := []) cx hp hl (c_L_stallNameByte l hN hT hlf hC e1 hz) (cwS_L_stallNameByte cx ⟨by decide, by decide⟩) rfl rfl (Nat.le_of_ble_eq_true rfl) dL_law_1252 ⟨by show _ ≤ 601024; omega, by show _ ≤ 7293034; omega⟩) (fun r9 u H locs hq hp => ?_)
  obtain ⟨rfl, rfl⟩ := hq
  refine lv_istore (lv' := [(5, .int (ρ'.1 0 12)), (0, .ref b), (1, .ref (adr E 19 0)), (2, .ref (adr E 20 0)), (3, .ref (adr E 21 0)), (4, .int (nI i))]) hx hb dL_law_1255 hl (by decide) rfl (fun ls hl => ?_)
  refine lv_aload_n hx hb dL_law_1257 rfl (lv_at hl 3 rfl) ?_
  refine lv_aload_n hx hb dL_law_1258 rfl (lv_at hl 1 rfl) ?_
  refine lv_iload hx hb dL_law_1259 (lv_at hl 5 rfl) ?_
  refine lv_iconst (v := 1) hx hb dL_law_1261 (by decide) ?_
  refine lv_iadd hx hb dL_law_1262 ?_
  refine s_ld (k := 1) rfl (by decide) hi hLs SX hbl hbA cx hp dL_law_1263 ?_
  refine lv_aload_n hx hb dL_law_1264 rfl (lv_at hl 1 rfl) ?_
  refine lv_iload hx hb dL_law_1265 (lv_at hl 5 rfl) ?_
  refine lv_iconst (v := 2) hx hb dL_law_1267 (by decide) ?_
  refine lv_iadd hx hb dL_law_1268 ?_
  refine s_ld (k := 2) rfl (by decide) hi hLs SX hbl hbA cx hp dL_law_1269 ?_
  refine x_i hp (y_V (As := [.int (xs (i + 1)), .int (xs (i + 2))]) (rest := []) cx hp hl (c_X13_stallNameByte l (Nat.le_trans (by decide) hN) hT e20 e2) (cw_L_208 cx rfl rfl ⟨by decide, by decide⟩) (rC_X13 (Nat.le_trans (by decide) hN) cx hp) rfl rfl (Nat.le_of_ble_eq_true rfl) dL_law_1270 ⟨by show _ ≤ 601024; omega, by show _ ≤ 7293034; omega⟩) (fun r9 u H locs hq hp => ?_)
  obtain ⟨rfl, hu, hn⟩ := hq
  obtain rfl := us_x hu hn
  refine lv_istore (lv' := [(6, .int r), (5, .int (ρ'.1 0 12)), (0, .ref b), (1, .ref (adr E 19 0)), (2, .ref (adr E 20 0)), (3, .ref (adr E 21 0)), (4, .int (nI i))]) hx hb dL_law_1273 hl (by decide) rfl (fun ls hl => ?_)
  refine lv_aload_n hx hb dL_law_1275 rfl (lv_at hl 4 rfl) ?_
  refine x_i hp (y_V (As := []) (rest := []) cx hp hl (c_X13_thrown l (Nat.le_trans (by decide) hN) hT (us_s _ _ _) rfl) (cw_L_136 cx rfl rfl ⟨by decide, by decide⟩) (rC_X13 (Nat.le_trans (by decide) hN) cx hp) rfl rfl (Nat.le_of_ble_eq_true rfl) dL_law_1276 ⟨by show _ ≤ 601024; omega, by show _ ≤ 7293034; omega⟩) (fun r9 u H locs hq hp => ?_)
  obtain ⟨rfl, rfl⟩ := hq
  refine lv_iload hx hb dL_law_1279 (lv_at hl 1 rfl) ?_
  refine lv_icmp_eq (tgt := 1286) hx hb dL_law_1281 (by decide) (fun _ => ?_) (fun c9 => absurd rfl c9)
  refine lv_iload hx hb dL_law_1286 (lv_at hl 1 rfl) ?_
  refine lv_if_ne (tgt := 1303) hx hb dL_law_1288 (by decide) (fun c9 => ?_) (fun c9 => ?_)
  · skip
    refine lv_goto (tgt := 2958) hx hb dL_law_1303 (by decide) ?_
    refine W.widen (k := cells + 3) (n := slots + 18) (by omega) (by omega) ?_
    exact K _ H locs ls (hr9.mono (by omega)) hp (lv_sub hl [2, 3, 4, 5, 6] rfl)
  · skip
    refine lv_aload_n hx hb dL_law_1291 rfl (lv_at hl 5 rfl) ?_
    refine lv_iconst (v := 0) hx hb dL_law_1292 (by decide) ?_
    refine l_out hN cx hp (x := oI r) (by rw [us_n (by decide)]; exact ho (c9.trans nI_0.symm)) dL_law_1293 ?_
    refine lv_iload hx hb dL_law_1294 (lv_at hl 0 rfl) ?_
    refine lv_i2l hx hb dL_law_1296 rfl ?_
    refine W.lcmp hx hb dL_law_1297 ?_
    refine lv_if_eq (tgt := 1303) hx hb dL_law_1298 (by decide) (fun _ => ?_) (fun c8 => absurd (lgc_rf _) c8)
    refine lv_goto (tgt := 2958) hx hb dL_law_1303 (by decide) ?_
    refine W.widen (k := cells + 3) (n := slots + 18) (by omega) (by omega) ?_
    exact K _ H locs ls (hr9.mono (by omega)) hp (lv_sub hl [2, 3, 4, 5, 6] rfl)

set_option maxRecDepth 100000 in
set_option maxHeartbeats 4000000 in
theorem k_21 {p : Program} {l : Launch} {e : Env} {s : State} {m : MethodId} {below : List Frame} {meth : Method} {c : Code} {E : Ev} {b Ls : Nat} {xs : Nat → Int32} (hlf : l.stackTraces = false) (hN : 147 ≤ eN E) (hT : St E) (hC : NC E) (cx : Cx E p s m meth c #[Value.ref b] RL cL_law 9 (some .boolean)) (SX : va_X b Ls xs s s.heap) (hbl : b < s.heap.size) (hbA : ¬ eA E b) (hLs : Ls ≤ 3072) {Q : State → Prop} {i B : Nat} (hi : i + 6 ≤ Ls) (hB9 : 9999 ≤ B) (hB : B + 300000 < 2 ^ 31) {σ : SM} (hr : Rel B σ) {cells slots : Nat} (hc : cells + 3 ≤ 601024 ∧ slots + 18 ≤ 7293034) {H : Heap} {locs : List Loc} (hp : Hp E σ s H locs) {ls : Array Slot} (hl : lv_has ls 9 (LL b E i))
    (K : ∀ (τ : SM) (H : Heap) (locs : List Loc) (ls : Array Slot), Rel (B + 196020) τ → Hp E τ s H locs → lv_has ls 9 (LL b E i) → W p l e room_1 s m #[Value.ref b] below meth c H locs (cells + 3) (slots + 18) Q (F0 m 2958 ls [])) : W p l e room_1 s m #[Value.ref b] below meth c H locs cells slots Q (F0 m 1306 ls []) := by
  have hx := cx.1.1
  have hb := cx.1.2.1
  obtain ⟨r, τ, ρ', e1, e2, e20, hr9⟩ := P_findSeller hr 
  refine lv_aload_n hx hb dL_law_1306 rfl (lv_at hl 1 rfl) ?_
  refine x_i hp (y_V (As := []) (rest := []) cx hp hl (c_X12_findSeller l (Nat.le_trans (by decide) hN) hT e1) (cw_L_209 cx rfl rfl ⟨by decide, by decide⟩) (rC_X12 (Nat.le_trans (by decide) hN) cx hp) rfl rfl (Nat.le_of_ble_eq_true rfl) dL_law_1307 ⟨by show _ ≤ 601024; omega, by show _ ≤ 7293034; omega⟩) (fun r9 u H locs hq hp => ?_)
  obtain ⟨rfl, rfl⟩ := hq
  refine lv_aload_n hx hb dL_law_1310 rfl (lv_at hl 2 rfl) ?_
  refine x_i hp (y_V (As := []) (rest := [.int r]) cx hp hl (c_X13_findSeller l (Nat.le_trans (by decide) hN) hT e20 e2) (cw_L_212 cx rfl rfl ⟨by decide, by decide⟩) (rC_X13 (Nat.le_trans (by decide) hN) cx hp) rfl rfl (Nat.le_of_ble_eq_true rfl) dL_law_1311 ⟨by show _ ≤ 601024; omega, by show _ ≤ 7293034; omega⟩) (fun r9 u H locs hq hp => ?_)
  obtain ⟨rfl, hu, hn⟩ := hq
  obtain rfl := us_x hu hn
  refine lv_icmp_eq (tgt := 2958) hx hb dL_law_1314 (by decide) (fun _ => ?_) (fun c9 => absurd rfl c9)
  refine W.widen (k := cells + 3) (n := slots + 18) (by omega) (by omega) ?_
  exact K _ H locs ls (hr9.mono (by omega)) hp hl
set_option maxRecDepth 100000 in
set_option maxHeartbeats 4000000 in
theorem k_22 {p : Program} {l : Launch} {e : Env} {s : State} {m : MethodId} {below : List Frame} {meth : Method} {c : Code} {E : Ev} {b Ls : Nat} {xs : Nat → Int32} (hlf : l.stackTraces = false) (hN : 147 ≤ eN E) (hT : St E) (hC : NC E) (cx : Cx E p s m meth c #[Value.ref b] RL cL_law 9 (some .boolean)) (SX : va_X b Ls xs s s.heap) (hbl : b < s.heap.size) (hbA : ¬ eA E b) (hLs : Ls ≤ 3072) {Q : State → Prop} {i B : Nat} (hi : i + 6 ≤ Ls) (hB9 : 9999 ≤ B) (hB : B + 300000 < 2 ^ 31) {σ : SM} (hr : Rel B σ) {cells slots : Nat} (hc : cells + 3 ≤ 601024 ∧ slots + 18 ≤ 7293034) {H : Heap} {locs : List Loc} (hp : Hp E σ s H locs) {ls : Array Slot} (hl : lv_has ls 9 (LL b E i))
    (K : ∀ (τ : SM) (H : Heap) (locs : List Loc) (ls : Array Slot), Rel (B + 196020) τ → Hp E τ s H locs → lv_has ls 9 (LL b E i) → W p l e room_1 s m #[Value.ref b] below meth c H locs (cells + 3) (slots + 18) Q (F0 m 2958 ls [])) : W p l e room_1 s m #[Value.ref b] below meth c H locs cells slots Q (F0 m 1319 ls []) := by
  have hx := cx.1.1
  have hb := cx.1.2.1
  obtain ⟨r, ρ', e1, e2, hr9⟩ := P_freeStallCount hr 
  refine lv_aload_n hx hb dL_law_1319 rfl (lv_at hl 1 rfl) ?_
  refine x_i hp (y_V (As := []) (rest := []) cx hp hl (c_X12_freeStallCount l (Nat.le_trans (by decide) hN) hT e1) (cw_L_213 cx rfl rfl ⟨by decide, by decide⟩) (rC_X12 (Nat.le_trans (by decide) hN) cx hp) rfl rfl (Nat.le_of_ble_eq_true rfl) dL_law_1320 ⟨by show _ ≤ 601024; omega, by show _ ≤ 7293034; omega⟩) (fun r9 u H locs hq hp => ?_)
  obtain ⟨rfl, rfl⟩ := hq
  refine lv_aload_n hx hb dL_law_1323 rfl (lv_at hl 2 rfl) ?_
  refine x_i hp (y_V (As := []) (rest := [.int r]) cx hp hl (c_X13_freeStallCount l (Nat.le_trans (by decide) hN) hT rfl e2) (cw_L_216 cx rfl rfl ⟨by decide, by decide⟩) (rC_X13 (Nat.le_trans (by decide) hN) cx hp) rfl rfl (Nat.le_of_ble_eq_true rfl) dL_law_1324 ⟨by show _ ≤ 601024; omega, by show _ ≤ 7293034; omega⟩) (fun r9 u H locs hq hp => ?_)
  obtain ⟨rfl, hu, hn⟩ := hq
  obtain rfl := us_x hu hn
  refine lv_icmp_eq (tgt := 2958) hx hb dL_law_1327 (by decide) (fun _ => ?_) (fun c9 => absurd rfl c9)
  refine W.widen (k := cells + 3) (n := slots + 18) (by omega) (by omega) ?_
  exact K _ H locs ls (hr9.mono (by omega)) hp hl
set_option maxRecDepth 100000 in
set_option maxHeartbeats 4000000 in
theorem k_23 {p : Program} {l : Launch} {e : Env} {s : State} {m : MethodId} {below : List Frame} {meth : Method} {c : Code} {E : Ev} {b Ls : Nat} {xs : Nat → Int32} (hlf : l.stackTraces = false) (hN : 147 ≤ eN E) (hT : St E) (hC : NC E) (cx : Cx E p s m meth c #[Value.ref b] RL cL_law 9 (some .boolean)) (SX : va_X b Ls xs s s.heap) (hbl : b < s.heap.size) (hbA : ¬ eA E b) (hLs : Ls ≤ 3072) {Q : State → Prop} {i B : Nat} (hi : i + 6 ≤ Ls) (hB9 : 9999 ≤ B) (hB : B + 300000 < 2 ^ 31) {σ : SM} (hr : Rel B σ) {cells slots : Nat} (hc : cells + 3 ≤ 601024 ∧ slots + 18 ≤ 7293034) {H : Heap} {locs : List Loc} (hp : Hp E σ s H locs) {ls : Array Slot} (hl : lv_has ls 9 (LL b E i))
    (K : ∀ (τ : SM) (H : Heap) (locs : List Loc) (ls : Array Slot), Rel (B + 196020) τ → Hp E τ s H locs → lv_has ls 9 (LL b E i) → W p l e room_1 s m #[Value.ref b] below meth c H locs (cells + 3) (slots + 18) Q (F0 m 2958 ls [])) : W p l e room_1 s m #[Value.ref b] below meth c H locs cells slots Q (F0 m 1332 ls []) := by
  have hx := cx.1.1
  have hb := cx.1.2.1
  obtain ⟨z, r, ρ', σ', e1, e2, hz, e20, hr9, ho⟩ := fx_two oB (by decide) (P_envies hr (xs (i + 1)) (xs (i + 2)))
  refine lv_aload_n hx hb dL_law_1332 rfl (lv_at hl 1 rfl) ?_
  refine lv_aload_n hx hb dL_law_1333 rfl (lv_at hl 0 rfl) ?_
  refine lv_iload hx hb dL_law_1334 (lv_at hl 4 rfl) ?_
  refine lv_iconst (v := 1) hx hb dL_law_1336 (by decide) ?_
  refine lv_iadd hx hb dL_law_1337 ?_
  refine s_ld (k := 1) rfl (by decide) hi hLs SX hbl hbA cx hp dL_law_1338 ?_
  refine lv_aload_n hx hb dL_law_1339 rfl (lv_at hl 0 rfl) ?_
  refine lv_iload hx hb dL_law_1340 (lv_at hl 4 rfl) ?_
  refine lv_iconst (v := 2) hx hb dL_law_1342 (by decide) ?_
  refine lv_iadd hx hb dL_law_1343 ?_
  refine s_ld (k := 2) rfl (by decide) hi hLs SX hbl hbA cx hp dL_law_1344 ?_
  refine lv_aload_n hx hb dL_law_1345 rfl (lv_at hl 3 rfl) ?_
  refine x_iM hp (y_SW (As := [.ref (adr E 19 0), .int (xs (i + 1)), .int (xs (i + 2)), .ref (adr E 21 0)]) (rest := []) cx hp hl (c_L_envies l hN hT hlf hC e1 hz) (cwS_L_envies cx ⟨by decide, by decide⟩) rfl rfl (Nat.le_of_ble_eq_true rfl) dL_law_1346 ⟨by show _ ≤ 601024; omega, by show _ ≤ 7293034; omega⟩) (fun r9 u H locs hq hp => ?_)
  obtain ⟨rfl, rfl⟩ := hq
  refine lv_istore (lv' := [(5, .int (ρ'.1 0 12)), (0, .ref b), (1, .ref (adr E 19 0)), (2, .ref (adr E 20 0)), (3, .ref (adr E 21 0)), (4, .int (nI i))]) hx hb dL_law_1349 hl (by decide) rfl (fun ls hl => ?_)
  refine lv_aload_n hx hb dL_law_1351 rfl (lv_at hl 3 rfl) ?_
  refine lv_aload_n hx hb dL_law_1352 rfl (lv_at hl 1 rfl) ?_
  refine lv_iload hx hb dL_law_1353 (lv_at hl 5 rfl) ?_
  refine lv_iconst (v := 1) hx hb dL_law_1355 (by decide) ?_
  refine lv_iadd hx hb dL_law_1356 ?_
  refine s_ld (k := 1) rfl (by decide) hi hLs SX hbl hbA cx hp dL_law_1357 ?_
  refine lv_aload_n hx hb dL_law_1358 rfl (lv_at hl 1 rfl) ?_
  refine lv_iload hx hb dL_law_1359 (lv_at hl 5 rfl) ?_
  refine lv_iconst (v := 2) hx hb dL_law_1361 (by decide) ?_
  refine lv_iadd hx hb dL_law_1362 ?_
  refine s_ld (k := 2) rfl (by decide) hi hLs SX hbl hbA cx hp dL_law_1363 ?_
  refine x_i hp (y_V (As := [.int (xs (i + 1)), .int (xs (i + 2))]) (rest := []) cx hp hl (c_X13_envies l (Nat.le_trans (by decide) hN) hT e20 e2) (cw_L_219 cx rfl rfl ⟨by decide, by decide⟩) (rC_X13 (Nat.le_trans (by decide) hN) cx hp) rfl rfl (Nat.le_of_ble_eq_true rfl) dL_law_1364 ⟨by show _ ≤ 601024; omega, by show _ ≤ 7293034; omega⟩) (fun r9 u H locs hq hp => ?_)
  obtain ⟨rfl, hu, hn⟩ := hq
  obtain rfl := us_x hu hn
  refine lv_istore (lv' := [(6, .int r), (5, .int (ρ'.1 0 12)), (0, .ref b), (1, .ref (adr E 19 0)), (2, .ref (adr E 20 0)), (3, .ref (adr E 21 0)), (4, .int (nI i))]) hx hb dL_law_1367 hl (by decide) rfl (fun ls hl => ?_)
  refine lv_aload_n hx hb dL_law_1369 rfl (lv_at hl 4 rfl) ?_
  refine x_i hp (y_V (As := []) (rest := []) cx hp hl (c_X13_thrown l (Nat.le_trans (by decide) hN) hT (us_s _ _ _) rfl) (cw_L_136 cx rfl rfl ⟨by decide, by decide⟩) (rC_X13 (Nat.le_trans (by decide) hN) cx hp) rfl rfl (Nat.le_of_ble_eq_true rfl) dL_law_1370 ⟨by show _ ≤ 601024; omega, by show _ ≤ 7293034; omega⟩) (fun r9 u H locs hq hp => ?_)
  obtain ⟨rfl, rfl⟩ := hq
  refine lv_iload hx hb dL_law_1373 (lv_at hl 1 rfl) ?_
  refine lv_icmp_eq (tgt := 1380) hx hb dL_law_1375 (by decide) (fun _ => ?_) (fun c9 => absurd rfl c9)
  refine lv_iload hx hb dL_law_1380 (lv_at hl 1 rfl) ?_
  refine lv_if_ne (tgt := 1404) hx hb dL_law_1382 (by decide) (fun c9 => ?_) (fun c9 => ?_)
  · skip
    refine lv_goto (tgt := 2958) hx hb dL_law_1404 (by decide) ?_
    refine W.widen (k := cells + 3) (n := slots + 18) (by omega) (by omega) ?_
    exact K _ H locs ls (hr9.mono (by omega)) hp (lv_sub hl [2, 3, 4, 5, 6] rfl)
  · skip
    refine lv_aload_n hx hb dL_law_1385 rfl (lv_at hl 5 rfl) ?_
    refine lv_iconst (v := 0) hx hb dL_law_1386 (by decide) ?_
    refine l_out hN cx hp (x := oB r) (by rw [us_n (by decide)]; exact ho (c9.trans nI_0.symm)) dL_law_1387 ?_
    refine lv_iload hx hb dL_law_1388 (lv_at hl 0 rfl) ?_
    refine lv_if_eq (tgt := 1397) hx hb dL_law_1390 (by decide) (fun c7 => ?_) (fun c7 => ?_)
    · skip
      refine lv_lconst (v := 0) hx hb dL_law_1397 (by decide) ?_
      refine W.lcmp hx hb dL_law_1398 ?_
      refine lv_if_eq (tgt := 1404) hx hb dL_law_1399 (by decide) (fun _ => ?_) (fun c8 => absurd (by rw [oB, if_pos c7]; exact lgc_rf _) c8)
      refine lv_goto (tgt := 2958) hx hb dL_law_1404 (by decide) ?_
      refine W.widen (k := cells + 3) (n := slots + 18) (by omega) (by omega) ?_
      exact K _ H locs ls (hr9.mono (by omega)) hp (lv_sub hl [2, 3, 4, 5, 6] rfl)
    · skip
      refine lv_lconst (v := 1) hx hb dL_law_1393 (by decide) ?_
      refine lv_goto (tgt := 1398) hx hb dL_law_1394 (by decide) ?_
      refine W.lcmp hx hb dL_law_1398 ?_
      refine lv_if_eq (tgt := 1404) hx hb dL_law_1399 (by decide) (fun _ => ?_) (fun c8 => absurd (by rw [oB, if_neg c7]; exact lgc_rf _) c8)
      refine lv_goto (tgt := 2958) hx hb dL_law_1404 (by decide) ?_
      refine W.widen (k := cells + 3) (n := slots + 18) (by omega) (by omega) ?_
      exact K _ H locs ls (hr9.mono (by omega)) hp (lv_sub hl [2, 3, 4, 5, 6] rfl)
set_option maxRecDepth 100000 in
set_option maxHeartbeats 4000000 in
theorem k_24 {p : Program} {l : Launch} {e : Env} {s : State} {m : MethodId} {below : List Frame} {meth : Method} {c : Code} {E : Ev} {b Ls : Nat} {xs : Nat → Int32} (hlf : l.stackTraces = false) (hN : 147 ≤ eN E) (hT : St E) (hC : NC E) (cx : Cx E p s m meth c #[Value.ref b] RL cL_law 9 (some .boolean)) (SX : va_X b Ls xs s s.heap) (hbl : b < s.heap.size) (hbA : ¬ eA E b) (hLs : Ls ≤ 3072) {Q : State → Prop} {i B : Nat} (hi : i + 6 ≤ Ls) (hB9 : 9999 ≤ B) (hB : B + 300000 < 2 ^ 31) {σ : SM} (hr : Rel B σ) {cells slots : Nat} (hc : cells + 3 ≤ 601024 ∧ slots + 18 ≤ 7293034) {H : Heap} {locs : List Loc} (hp : Hp E σ s H locs) {ls : Array Slot} (hl : lv_has ls 9 (LL b E i))
    (K : ∀ (τ : SM) (H : Heap) (locs : List Loc) (ls : Array Slot), Rel (B + 196020) τ → Hp E τ s H locs → lv_has ls 9 (LL b E i) → W p l e room_1 s m #[Value.ref b] below meth c H locs (cells + 3) (slots + 18) Q (F0 m 2958 ls [])) : W p l e room_1 s m #[Value.ref b] below meth c H locs cells slots Q (F0 m 1407 ls []) := by
  have hx := cx.1.1
  have hb := cx.1.2.1
  obtain ⟨z, r, ρ', σ', e1, e2, hz, e20, hr9, ho⟩ := fx_two oB (by decide) (P_wouldSwap hr (xs (i + 1)) (xs (i + 2)))
  refine lv_aload_n hx hb dL_law_1407 rfl (lv_at hl 1 rfl) ?_
  refine lv_aload_n hx hb dL_law_1408 rfl (lv_at hl 0 rfl) ?_
  refine lv_iload hx hb dL_law_1409 (lv_at hl 4 rfl) ?_
  refine lv_iconst (v := 1) hx hb dL_law_1411 (by decide) ?_
  refine lv_iadd hx hb dL_law_1412 ?_
  refine s_ld (k := 1) rfl (by decide) hi hLs SX hbl hbA cx hp dL_law_1413 ?_
  refine lv_aload_n hx hb dL_law_1414 rfl (lv_at hl 0 rfl) ?_
  refine lv_iload hx hb dL_law_1415 (lv_at hl 4 rfl) ?_
  refine lv_iconst (v := 2) hx hb dL_law_1417 (by decide) ?_
  refine lv_iadd hx hb dL_law_1418 ?_
  refine s_ld (k := 2) rfl (by decide) hi hLs SX hbl hbA cx hp dL_law_1419 ?_
  refine lv_aload_n hx hb dL_law_1420 rfl (lv_at hl 3 rfl) ?_
  refine x_iM hp (y_SW (As := [.ref (adr E 19 0), .int (xs (i + 1)), .int (xs (i + 2)), .ref (adr E 21 0)]) (rest := []) cx hp hl (c_L_wouldSwap l hN hT hlf hC e1 hz) (cwS_L_wouldSwap cx ⟨by decide, by decide⟩) rfl rfl (Nat.le_of_ble_eq_true rfl) dL_law_1421 ⟨by show _ ≤ 601024; omega, by show _ ≤ 7293034; omega⟩) (fun r9 u H locs hq hp => ?_)
  obtain ⟨rfl, rfl⟩ := hq
  refine lv_istore (lv' := [(5, .int (ρ'.1 0 12)), (0, .ref b), (1, .ref (adr E 19 0)), (2, .ref (adr E 20 0)), (3, .ref (adr E 21 0)), (4, .int (nI i))]) hx hb dL_law_1424 hl (by decide) rfl (fun ls hl => ?_)
  refine lv_aload_n hx hb dL_law_1426 rfl (lv_at hl 3 rfl) ?_
  refine lv_aload_n hx hb dL_law_1427 rfl (lv_at hl 1 rfl) ?_
  refine lv_iload hx hb dL_law_1428 (lv_at hl 5 rfl) ?_
  refine lv_iconst (v := 1) hx hb dL_law_1430 (by decide) ?_
  refine lv_iadd hx hb dL_law_1431 ?_
  refine s_ld (k := 1) rfl (by decide) hi hLs SX hbl hbA cx hp dL_law_1432 ?_
  refine lv_aload_n hx hb dL_law_1433 rfl (lv_at hl 1 rfl) ?_
  refine lv_iload hx hb dL_law_1434 (lv_at hl 5 rfl) ?_
  refine lv_iconst (v := 2) hx hb dL_law_1436 (by decide) ?_
  refine lv_iadd hx hb dL_law_1437 ?_
  refine s_ld (k := 2) rfl (by decide) hi hLs SX hbl hbA cx hp dL_law_1438 ?_
  refine x_i hp (y_V (As := [.int (xs (i + 1)), .int (xs (i + 2))]) (rest := []) cx hp hl (c_X13_wouldSwap l (Nat.le_trans (by decide) hN) hT e20 e2) (cw_L_222 cx rfl rfl ⟨by decide, by decide⟩) (rC_X13 (Nat.le_trans (by decide) hN) cx hp) rfl rfl (Nat.le_of_ble_eq_true rfl) dL_law_1439 ⟨by show _ ≤ 601024; omega, by show _ ≤ 7293034; omega⟩) (fun r9 u H locs hq hp => ?_)
  obtain ⟨rfl, hu, hn⟩ := hq
  obtain rfl := us_x hu hn
  refine lv_istore (lv' := [(6, .int r), (5, .int (ρ'.1 0 12)), (0, .ref b), (1, .ref (adr E 19 0)), (2, .ref (adr E 20 0)), (3, .ref (adr E 21 0)), (4, .int (nI i))]) hx hb dL_law_1442 hl (by decide) rfl (fun ls hl => ?_)
  refine lv_aload_n hx hb dL_law_1444 rfl (lv_at hl 4 rfl) ?_
  refine x_i hp (y_V (As := []) (rest := []) cx hp hl (c_X13_thrown l (Nat.le_trans (by decide) hN) hT (us_s _ _ _) rfl) (cw_L_136 cx rfl rfl ⟨by decide, by decide⟩) (rC_X13 (Nat.le_trans (by decide) hN) cx hp) rfl rfl (Nat.le_of_ble_eq_true rfl) dL_law_1445 ⟨by show _ ≤ 601024; omega, by show _ ≤ 7293034; omega⟩) (fun r9 u H locs hq hp => ?_)
  obtain ⟨rfl, rfl⟩ := hq
  refine lv_iload hx hb dL_law_1448 (lv_at hl 1 rfl) ?_
  refine lv_icmp_eq (tgt := 1455) hx hb dL_law_1450 (by decide) (fun _ => ?_) (fun c9 => absurd rfl c9)
  refine lv_iload hx hb dL_law_1455 (lv_at hl 1 rfl) ?_
  refine lv_if_ne (tgt := 1479) hx hb dL_law_1457 (by decide) (fun c9 => ?_) (fun c9 => ?_)
  · skip
    refine lv_goto (tgt := 2958) hx hb dL_law_1479 (by decide) ?_
    refine W.widen (k := cells + 3) (n := slots + 18) (by omega) (by omega) ?_
    exact K _ H locs ls (hr9.mono (by omega)) hp (lv_sub hl [2, 3, 4, 5, 6] rfl)
  · skip
    refine lv_aload_n hx hb dL_law_1460 rfl (lv_at hl 5 rfl) ?_
    refine lv_iconst (v := 0) hx hb dL_law_1461 (by decide) ?_
    refine l_out hN cx hp (x := oB r) (by rw [us_n (by decide)]; exact ho (c9.trans nI_0.symm)) dL_law_1462 ?_
    refine lv_iload hx hb dL_law_1463 (lv_at hl 0 rfl) ?_
    refine lv_if_eq (tgt := 1472) hx hb dL_law_1465 (by decide) (fun c7 => ?_) (fun c7 => ?_)
    · skip
      refine lv_lconst (v := 0) hx hb dL_law_1472 (by decide) ?_
      refine W.lcmp hx hb dL_law_1473 ?_
      refine lv_if_eq (tgt := 1479) hx hb dL_law_1474 (by decide) (fun _ => ?_) (fun c8 => absurd (by rw [oB, if_pos c7]; exact lgc_rf _) c8)
      refine lv_goto (tgt := 2958) hx hb dL_law_1479 (by decide) ?_
      refine W.widen (k := cells + 3) (n := slots + 18) (by omega) (by omega) ?_
      exact K _ H locs ls (hr9.mono (by omega)) hp (lv_sub hl [2, 3, 4, 5, 6] rfl)
    · skip
      refine lv_lconst (v := 1) hx hb dL_law_1468 (by decide) ?_
      refine lv_goto (tgt := 1473) hx hb dL_law_1469 (by decide) ?_
      refine W.lcmp hx hb dL_law_1473 ?_
      refine lv_if_eq (tgt := 1479) hx hb dL_law_1474 (by decide) (fun _ => ?_) (fun c8 => absurd (by rw [oB, if_neg c7]; exact lgc_rf _) c8)
      refine lv_goto (tgt := 2958) hx hb dL_law_1479 (by decide) ?_
      refine W.widen (k := cells + 3) (n := slots + 18) (by omega) (by omega) ?_
      exact K _ H locs ls (hr9.mono (by omega)) hp (lv_sub hl [2, 3, 4, 5, 6] rfl)
set_option maxRecDepth 100000 in
set_option maxHeartbeats 4000000 in
theorem k_25 {p : Program} {l : Launch} {e : Env} {s : State} {m : MethodId} {below : List Frame} {meth : Method} {c : Code} {E : Ev} {b Ls : Nat} {xs : Nat → Int32} (hlf : l.stackTraces = false) (hN : 147 ≤ eN E) (hT : St E) (hC : NC E) (cx : Cx E p s m meth c #[Value.ref b] RL cL_law 9 (some .boolean)) (SX : va_X b Ls xs s s.heap) (hbl : b < s.heap.size) (hbA : ¬ eA E b) (hLs : Ls ≤ 3072) {Q : State → Prop} {i B : Nat} (hi : i + 6 ≤ Ls) (hB9 : 9999 ≤ B) (hB : B + 300000 < 2 ^ 31) {σ : SM} (hr : Rel B σ) {cells slots : Nat} (hc : cells + 3 ≤ 601024 ∧ slots + 18 ≤ 7293034) {H : Heap} {locs : List Loc} (hp : Hp E σ s H locs) {ls : Array Slot} (hl : lv_has ls 9 (LL b E i))
    (K : ∀ (τ : SM) (H : Heap) (locs : List Loc) (ls : Array Slot), Rel (B + 196020) τ → Hp E τ s H locs → lv_has ls 9 (LL b E i) → W p l e room_1 s m #[Value.ref b] below meth c H locs (cells + 3) (slots + 18) Q (F0 m 2958 ls [])) : W p l e room_1 s m #[Value.ref b] below meth c H locs cells slots Q (F0 m 1482 ls []) := by
  have hx := cx.1.1
  have hb := cx.1.2.1
  obtain ⟨r, ρ', e1, e2, hr9⟩ := P_swapPairCount hr 
  refine lv_aload_n hx hb dL_law_1482 rfl (lv_at hl 1 rfl) ?_
  refine x_i hp (y_V (As := []) (rest := []) cx hp hl (c_X12_swapPairCount l (Nat.le_trans (by decide) hN) hT e1) (cw_L_223 cx rfl rfl ⟨by decide, by decide⟩) (rC_X12 (Nat.le_trans (by decide) hN) cx hp) rfl rfl (Nat.le_of_ble_eq_true rfl) dL_law_1483 ⟨by show _ ≤ 601024; omega, by show _ ≤ 7293034; omega⟩) (fun r9 u H locs hq hp => ?_)
  obtain ⟨rfl, rfl⟩ := hq
  refine lv_aload_n hx hb dL_law_1486 rfl (lv_at hl 2 rfl) ?_
  refine x_i hp (y_V (As := []) (rest := [.int r]) cx hp hl (c_X13_swapPairCount l (Nat.le_trans (by decide) hN) hT rfl e2) (cw_L_226 cx rfl rfl ⟨by decide, by decide⟩) (rC_X13 (Nat.le_trans (by decide) hN) cx hp) rfl rfl (Nat.le_of_ble_eq_true rfl) dL_law_1487 ⟨by show _ ≤ 601024; omega, by show _ ≤ 7293034; omega⟩) (fun r9 u H locs hq hp => ?_)
  obtain ⟨rfl, hu, hn⟩ := hq
  obtain rfl := us_x hu hn
  refine lv_icmp_eq (tgt := 2958) hx hb dL_law_1490 (by decide) (fun _ => ?_) (fun c9 => absurd rfl c9)
  refine W.widen (k := cells + 3) (n := slots + 18) (by omega) (by omega) ?_
  exact K _ H locs ls (hr9.mono (by omega)) hp hl
set_option maxRecDepth 100000 in
set_option maxHeartbeats 4000000 in
theorem k_26 {p : Program} {l : Launch} {e : Env} {s : State} {m : MethodId} {below : List Frame} {meth : Method} {c : Code} {E : Ev} {b Ls : Nat} {xs : Nat → Int32} (hlf : l.stackTraces = false) (hN : 147 ≤ eN E) (hT : St E) (hC : NC E) (cx : Cx E p s m meth c #[Value.ref b] RL cL_law 9 (some .boolean)) (SX : va_X b Ls xs s s.heap) (hbl : b < s.heap.size) (hbA : ¬ eA E b) (hLs : Ls ≤ 3072) {Q : State → Prop} {i B : Nat} (hi : i + 6 ≤ Ls) (hB9 : 9999 ≤ B) (hB : B + 300000 < 2 ^ 31) {σ : SM} (hr : Rel B σ) {cells slots : Nat} (hc : cells + 3 ≤ 601024 ∧ slots + 18 ≤ 7293034) {H : Heap} {locs : List Loc} (hp : Hp E σ s H locs) {ls : Array Slot} (hl : lv_has ls 9 (LL b E i))
    (K : ∀ (τ : SM) (H : Heap) (locs : List Loc) (ls : Array Slot), Rel (B + 196020) τ → Hp E τ s H locs → lv_has ls 9 (LL b E i) → W p l e room_1 s m #[Value.ref b] below meth c H locs (cells + 3) (slots + 18) Q (F0 m 2958 ls [])) : W p l e room_1 s m #[Value.ref b] below meth c H locs cells slots Q (F0 m 1495 ls []) := by
  have hx := cx.1.1
  have hb := cx.1.2.1
  obtain ⟨z, r, ρ', σ', e1, e2, hz, e20, hr9, ho⟩ := fx_two oI (by decide) (P_improvingCycleLength hr (xs (i + 1)))
  refine lv_aload_n hx hb dL_law_1495 rfl (lv_at hl 1 rfl) ?_
  refine lv_aload_n hx hb dL_law_1496 rfl (lv_at hl 0 rfl) ?_
  refine lv_iload hx hb dL_law_1497 (lv_at hl 4 rfl) ?_
  refine lv_iconst (v := 1) hx hb dL_law_1499 (by decide) ?_
  refine lv_iadd hx hb dL_law_1500 ?_
  refine s_ld (k := 1) rfl (by decide) hi hLs SX hbl hbA cx hp dL_law_1501 ?_
  refine lv_aload_n hx hb dL_law_1502 rfl (lv_at hl 3 rfl) ?_
  refine x_iM hp (y_SW (As := [.ref (adr E 19 0), .int (xs (i + 1)), .ref (adr E 21 0)]) (rest := []) cx hp hl (c_L_improvingCycleLength l hN hT hlf hC e1 hz) (cwS_L_improvingCycleLength cx ⟨by decide, by decide⟩) rfl rfl (Nat.le_of_ble_eq_true rfl) dL_law_1503 ⟨by show _ ≤ 601024; omega, by show _ ≤ 7293034; omega⟩) (fun r9 u H locs hq hp => ?_)
  obtain ⟨rfl, rfl⟩ := hq
  refine lv_istore (lv' := [(5, .int (ρ'.1 0 12)), (0, .ref b), (1, .ref (adr E 19 0)), (2, .ref (adr E 20 0)), (3, .ref (adr E 21 0)), (4, .int (nI i))]) hx hb dL_law_1506 hl (by decide) rfl (fun ls hl => ?_)
  refine lv_aload_n hx hb dL_law_1508 rfl (lv_at hl 3 rfl) ?_
  refine lv_aload_n hx hb dL_law_1509 rfl (lv_at hl 1 rfl) ?_
  refine lv_iload hx hb dL_law_1510 (lv_at hl 5 rfl) ?_
  refine lv_iconst (v := 1) hx hb dL_law_1512 (by decide) ?_
  refine lv_iadd hx hb dL_law_1513 ?_
  refine s_ld (k := 1) rfl (by decide) hi hLs SX hbl hbA cx hp dL_law_1514 ?_
  refine x_i hp (y_V (As := [.int (xs (i + 1))]) (rest := []) cx hp hl (c_X13_improvingCycleLength l (Nat.le_trans (by decide) hN) hT e20 e2) (cw_L_229 cx rfl rfl ⟨by decide, by decide⟩) (rC_X13 (Nat.le_trans (by decide) hN) cx hp) rfl rfl (Nat.le_of_ble_eq_true rfl) dL_law_1515 ⟨by show _ ≤ 601024; omega, by show _ ≤ 7293034; omega⟩) (fun r9 u H locs hq hp => ?_)
  obtain ⟨rfl, hu, hn⟩ := hq
  obtain rfl := us_x hu hn
  refine lv_istore (lv' := [(6, .int r), (5, .int (ρ'.1 0 12)), (0, .ref b), (1, .ref (adr E 19 0)), (2, .ref (adr E 20 0)), (3, .ref (adr E 21 0)), (4, .int (nI i))]) hx hb dL_law_1518 hl (by decide) rfl (fun ls hl => ?_)
  refine lv_aload_n hx hb dL_law_1520 rfl (lv_at hl 4 rfl) ?_
  refine x_i hp (y_V (As := []) (rest := []) cx hp hl (c_X13_thrown l (Nat.le_trans (by decide) hN) hT (us_s _ _ _) rfl) (cw_L_136 cx rfl rfl ⟨by decide, by decide⟩) (rC_X13 (Nat.le_trans (by decide) hN) cx hp) rfl rfl (Nat.le_of_ble_eq_true rfl) dL_law_1521 ⟨by show _ ≤ 601024; omega, by show _ ≤ 7293034; omega⟩) (fun r9 u H locs hq hp => ?_)
  obtain ⟨rfl, rfl⟩ := hq
  refine lv_iload hx hb dL_law_1524 (lv_at hl 1 rfl) ?_
  refine lv_icmp_eq (tgt := 1531) hx hb dL_law_1526 (by decide) (fun _ => ?_) (fun c9 => absurd rfl c9)
  refine lv_iload hx hb dL_law_1531 (lv_at hl 1 rfl) ?_
  refine lv_if_ne (tgt := 1548) hx hb dL_law_1533 (by decide) (fun c9 => ?_) (fun c9 => ?_)
  · skip
    refine lv_goto (tgt := 2958) hx hb dL_law_1548 (by decide) ?_
    refine W.widen (k := cells + 3) (n := slots + 18) (by omega) (by omega) ?_
    exact K _ H locs ls (hr9.mono (by omega)) hp (lv_sub hl [2, 3, 4, 5, 6] rfl)
  · skip
    refine lv_aload_n hx hb dL_law_1536 rfl (lv_at hl 5 rfl) ?_
    refine lv_iconst (v := 0) hx hb dL_law_1537 (by decide) ?_
    refine l_out hN cx hp (x := oI r) (by rw [us_n (by decide)]; exact ho (c9.trans nI_0.symm)) dL_law_1538 ?_
    refine lv_iload hx hb dL_law_1539 (lv_at hl 0 rfl) ?_
    refine lv_i2l hx hb dL_law_1541 rfl ?_
    refine W.lcmp hx hb dL_law_1542 ?_
    refine lv_if_eq (tgt := 1548) hx hb dL_law_1543 (by decide) (fun _ => ?_) (fun c8 => absurd (lgc_rf _) c8)
    refine lv_goto (tgt := 2958) hx hb dL_law_1548 (by decide) ?_
    refine W.widen (k := cells + 3) (n := slots + 18) (by omega) (by omega) ?_
    exact K _ H locs ls (hr9.mono (by omega)) hp (lv_sub hl [2, 3, 4, 5, 6] rfl)
set_option maxRecDepth 100000 in
set_option maxHeartbeats 4000000 in
theorem k_27 {p : Program} {l : Launch} {e : Env} {s : State} {m : MethodId} {below : List Frame} {meth : Method} {c : Code} {E : Ev} {b Ls : Nat} {xs : Nat → Int32} (hlf : l.stackTraces = false) (hN : 147 ≤ eN E) (hT : St E) (hC : NC E) (cx : Cx E p s m meth c #[Value.ref b] RL cL_law 9 (some .boolean)) (SX : va_X b Ls xs s s.heap) (hbl : b < s.heap.size) (hbA : ¬ eA E b) (hLs : Ls ≤ 3072) {Q : State → Prop} {i B : Nat} (hi : i + 6 ≤ Ls) (hB9 : 9999 ≤ B) (hB : B + 300000 < 2 ^ 31) {σ : SM} (hr : Rel B σ) {cells slots : Nat} (hc : cells + 3 ≤ 601024 ∧ slots + 18 ≤ 7293034) {H : Heap} {locs : List Loc} (hp : Hp E σ s H locs) {ls : Array Slot} (hl : lv_has ls 9 (LL b E i))
    (K : ∀ (τ : SM) (H : Heap) (locs : List Loc) (ls : Array Slot), Rel (B + 196020) τ → Hp E τ s H locs → lv_has ls 9 (LL b E i) → W p l e room_1 s m #[Value.ref b] below meth c H locs (cells + 3) (slots + 18) Q (F0 m 2958 ls [])) : W p l e room_1 s m #[Value.ref b] below meth c H locs cells slots Q (F0 m 1551 ls []) := by
  have hx := cx.1.1
  have hb := cx.1.2.1
  obtain ⟨z, r, ρ', σ', e1, e2, hz, e20, hr9, ho⟩ := fx_two oI (by decide) (P_betterFreeStall hr (xs (i + 1)))
  refine lv_aload_n hx hb dL_law_1551 rfl (lv_at hl 1 rfl) ?_
  refine lv_aload_n hx hb dL_law_1552 rfl (lv_at hl 0 rfl) ?_
  refine lv_iload hx hb dL_law_1553 (lv_at hl 4 rfl) ?_
  refine lv_iconst (v := 1) hx hb dL_law_1555 (by decide) ?_
  refine lv_iadd hx hb dL_law_1556 ?_
  refine s_ld (k := 1) rfl (by decide) hi hLs SX hbl hbA cx hp dL_law_1557 ?_
  refine lv_aload_n hx hb dL_law_1558 rfl (lv_at hl 3 rfl) ?_
  refine x_iM hp (y_SW (As := [.ref (adr E 19 0), .int (xs (i + 1)), .ref (adr E 21 0)]) (rest := []) cx hp hl (c_L_betterFreeStall l hN hT hlf hC e1 hz) (cwS_L_betterFreeStall cx ⟨by decide, by decide⟩) rfl rfl (Nat.le_of_ble_eq_true rfl) dL_law_1559 ⟨by show _ ≤ 601024; omega, by show _ ≤ 7293034; omega⟩) (fun r9 u H locs hq hp => ?_)
  obtain ⟨rfl, rfl⟩ := hq
  refine lv_istore (lv' := [(5, .int (ρ'.1 0 12)), (0, .ref b), (1, .ref (adr E 19 0)), (2, .ref (adr E 20 0)), (3, .ref (adr E 21 0)), (4, .int (nI i))]) hx hb dL_law_1562 hl (by decide) rfl (fun ls hl => ?_)
  refine lv_aload_n hx hb dL_law_1564 rfl (lv_at hl 3 rfl) ?_
  refine lv_aload_n hx hb dL_law_1565 rfl (lv_at hl 1 rfl) ?_
  refine lv_iload hx hb dL_law_1566 (lv_at hl 5 rfl) ?_
  refine lv_iconst (v := 1) hx hb dL_law_1568 (by decide) ?_
  refine lv_iadd hx hb dL_law_1569 ?_
  refine s_ld (k := 1) rfl (by decide) hi hLs SX hbl hbA cx hp dL_law_1570 ?_
  refine x_i hp (y_V (As := [.int (xs (i + 1))]) (rest := []) cx hp hl (c_X13_betterFreeStall l (Nat.le_trans (by decide) hN) hT e20 e2) (cw_L_232 cx rfl rfl ⟨by decide, by decide⟩) (rC_X13 (Nat.le_trans (by decide) hN) cx hp) rfl rfl (Nat.le_of_ble_eq_true rfl) dL_law_1571 ⟨by show _ ≤ 601024; omega, by show _ ≤ 7293034; omega⟩) (fun r9 u H locs hq hp => ?_)
  obtain ⟨rfl, hu, hn⟩ := hq
  obtain rfl := us_x hu hn
  refine lv_istore (lv' := [(6, .int r), (5, .int (ρ'.1 0 12)), (0, .ref b), (1, .ref (adr E 19 0)), (2, .ref (adr E 20 0)), (3, .ref (adr E 21 0)), (4, .int (nI i))]) hx hb dL_law_1574 hl (by decide) rfl (fun ls hl => ?_)
  refine lv_aload_n hx hb dL_law_1576 rfl (lv_at hl 4 rfl) ?_
  refine x_i hp (y_V (As := []) (rest := []) cx hp hl (c_X13_thrown l (Nat.le_trans (by decide) hN) hT (us_s _ _ _) rfl) (cw_L_136 cx rfl rfl ⟨by decide, by decide⟩) (rC_X13 (Nat.le_trans (by decide) hN) cx hp) rfl rfl (Nat.le_of_ble_eq_true rfl) dL_law_1577 ⟨by show _ ≤ 601024; omega, by show _ ≤ 7293034; omega⟩) (fun r9 u H locs hq hp => ?_)
  obtain ⟨rfl, rfl⟩ := hq
  refine lv_iload hx hb dL_law_1580 (lv_at hl 1 rfl) ?_
  refine lv_icmp_eq (tgt := 1587) hx hb dL_law_1582 (by decide) (fun _ => ?_) (fun c9 => absurd rfl c9)
  refine lv_iload hx hb dL_law_1587 (lv_at hl 1 rfl) ?_
  refine lv_if_ne (tgt := 1604) hx hb dL_law_1589 (by decide) (fun c9 => ?_) (fun c9 => ?_)
  · skip
    refine lv_goto (tgt := 2958) hx hb dL_law_1604 (by decide) ?_
    refine W.widen (k := cells + 3) (n := slots + 18) (by omega) (by omega) ?_
    exact K _ H locs ls (hr9.mono (by omega)) hp (lv_sub hl [2, 3, 4, 5, 6] rfl)
  · skip
    refine lv_aload_n hx hb dL_law_1592 rfl (lv_at hl 5 rfl) ?_
    refine lv_iconst (v := 0) hx hb dL_law_1593 (by decide) ?_
    refine l_out hN cx hp (x := oI r) (by rw [us_n (by decide)]; exact ho (c9.trans nI_0.symm)) dL_law_1594 ?_
    refine lv_iload hx hb dL_law_1595 (lv_at hl 0 rfl) ?_
    refine lv_i2l hx hb dL_law_1597 rfl ?_
    refine W.lcmp hx hb dL_law_1598 ?_
    refine lv_if_eq (tgt := 1604) hx hb dL_law_1599 (by decide) (fun _ => ?_) (fun c8 => absurd (lgc_rf _) c8)
    refine lv_goto (tgt := 2958) hx hb dL_law_1604 (by decide) ?_
    refine W.widen (k := cells + 3) (n := slots + 18) (by omega) (by omega) ?_
    exact K _ H locs ls (hr9.mono (by omega)) hp (lv_sub hl [2, 3, 4, 5, 6] rfl)
set_option maxRecDepth 100000 in
set_option maxHeartbeats 4000000 in
theorem k_28 {p : Program} {l : Launch} {e : Env} {s : State} {m : MethodId} {below : List Frame} {meth : Method} {c : Code} {E : Ev} {b Ls : Nat} {xs : Nat → Int32} (hlf : l.stackTraces = false) (hN : 147 ≤ eN E) (hT : St E) (hC : NC E) (cx : Cx E p s m meth c #[Value.ref b] RL cL_law 9 (some .boolean)) (SX : va_X b Ls xs s s.heap) (hbl : b < s.heap.size) (hbA : ¬ eA E b) (hLs : Ls ≤ 3072) {Q : State → Prop} {i B : Nat} (hi : i + 6 ≤ Ls) (hB9 : 9999 ≤ B) (hB : B + 300000 < 2 ^ 31) {σ : SM} (hr : Rel B σ) {cells slots : Nat} (hc : cells + 3 ≤ 601024 ∧ slots + 18 ≤ 7293034) {H : Heap} {locs : List Loc} (hp : Hp E σ s H locs) {ls : Array Slot} (hl : lv_has ls 9 (LL b E i))
    (K : ∀ (τ : SM) (H : Heap) (locs : List Loc) (ls : Array Slot), Rel (B + 196020) τ → Hp E τ s H locs → lv_has ls 9 (LL b E i) → W p l e room_1 s m #[Value.ref b] below meth c H locs (cells + 3) (slots + 18) Q (F0 m 2958 ls [])) : W p l e room_1 s m #[Value.ref b] below meth c H locs cells slots Q (F0 m 1607 ls []) := by
  have hx := cx.1.1
  have hb := cx.1.2.1
  obtain ⟨r, ρ', e1, e2, hr9⟩ := P_isEfficient hr 
  refine lv_aload_n hx hb dL_law_1607 rfl (lv_at hl 1 rfl) ?_
  refine x_i hp (y_V (As := []) (rest := []) cx hp hl (c_X12_isEfficient l (Nat.le_trans (by decide) hN) hT e1) (cw_L_233 cx rfl rfl ⟨by decide, by decide⟩) (rC_X12 (Nat.le_trans (by decide) hN) cx hp) rfl rfl (Nat.le_of_ble_eq_true rfl) dL_law_1608 ⟨by show _ ≤ 601024; omega, by show _ ≤ 7293034; omega⟩) (fun r9 u H locs hq hp => ?_)
  obtain ⟨rfl, rfl⟩ := hq
  refine lv_aload_n hx hb dL_law_1611 rfl (lv_at hl 2 rfl) ?_
  refine x_i hp (y_V (As := []) (rest := [.int r]) cx hp hl (c_X13_isEfficient l (Nat.le_trans (by decide) hN) hT rfl e2) (cw_L_237 cx rfl rfl ⟨by decide, by decide⟩) (rC_X13 (Nat.le_trans (by decide) hN) cx hp) rfl rfl (Nat.le_of_ble_eq_true rfl) dL_law_1612 ⟨by show _ ≤ 601024; omega, by show _ ≤ 7293034; omega⟩) (fun r9 u H locs hq hp => ?_)
  obtain ⟨rfl, hu, hn⟩ := hq
  obtain rfl := us_x hu hn
  refine lv_icmp_eq (tgt := 2958) hx hb dL_law_1615 (by decide) (fun _ => ?_) (fun c9 => absurd rfl c9)
  refine W.widen (k := cells + 3) (n := slots + 18) (by omega) (by omega) ?_
  exact K _ H locs ls (hr9.mono (by omega)) hp hl
set_option maxRecDepth 100000 in
set_option maxHeartbeats 4000000 in
theorem k_29 {p : Program} {l : Launch} {e : Env} {s : State} {m : MethodId} {below : List Frame} {meth : Method} {c : Code} {E : Ev} {b Ls : Nat} {xs : Nat → Int32} (hlf : l.stackTraces = false) (hN : 147 ≤ eN E) (hT : St E) (hC : NC E) (cx : Cx E p s m meth c #[Value.ref b] RL cL_law 9 (some .boolean)) (SX : va_X b Ls xs s s.heap) (hbl : b < s.heap.size) (hbA : ¬ eA E b) (hLs : Ls ≤ 3072) {Q : State → Prop} {i B : Nat} (hi : i + 6 ≤ Ls) (hB9 : 9999 ≤ B) (hB : B + 300000 < 2 ^ 31) {σ : SM} (hr : Rel B σ) {cells slots : Nat} (hc : cells + 3 ≤ 601024 ∧ slots + 18 ≤ 7293034) {H : Heap} {locs : List Loc} (hp : Hp E σ s H locs) {ls : Array Slot} (hl : lv_has ls 9 (LL b E i))
    (K : ∀ (τ : SM) (H : Heap) (locs : List Loc) (ls : Array Slot), Rel (B + 196020) τ → Hp E τ s H locs → lv_has ls 9 (LL b E i) → W p l e room_1 s m #[Value.ref b] below meth c H locs (cells + 3) (slots + 18) Q (F0 m 2958 ls [])) : W p l e room_1 s m #[Value.ref b] below meth c H locs cells slots Q (F0 m 1620 ls []) := by
  have hx := cx.1.1
  have hb := cx.1.2.1
  obtain ⟨z, r, ρ', σ', e1, e2, hz, e20, hr9, ho⟩ := fx_two oI (by decide) (P_blockReason hr (xs (i + 1)) (xs (i + 2)))
  refine lv_aload_n hx hb dL_law_1620 rfl (lv_at hl 1 rfl) ?_
  refine lv_aload_n hx hb dL_law_1621 rfl (lv_at hl 0 rfl) ?_
  refine lv_iload hx hb dL_law_1622 (lv_at hl 4 rfl) ?_
  refine lv_iconst (v := 1) hx hb dL_law_1624 (by decide) ?_
  refine lv_iadd hx hb dL_law_1625 ?_
  refine s_ld (k := 1) rfl (by decide) hi hLs SX hbl hbA cx hp dL_law_1626 ?_
  refine lv_aload_n hx hb dL_law_1627 rfl (lv_at hl 0 rfl) ?_
  refine lv_iload hx hb dL_law_1628 (lv_at hl 4 rfl) ?_
  refine lv_iconst (v := 2) hx hb dL_law_1630 (by decide) ?_
  refine lv_iadd hx hb dL_law_1631 ?_
  refine s_ld (k := 2) rfl (by decide) hi hLs SX hbl hbA cx hp dL_law_1632 ?_
  refine lv_aload_n hx hb dL_law_1633 rfl (lv_at hl 3 rfl) ?_
  refine x_iM hp (y_SW (As := [.ref (adr E 19 0), .int (xs (i + 1)), .int (xs (i + 2)), .ref (adr E 21 0)]) (rest := []) cx hp hl (c_L_blockReason l hN hT hlf hC e1 hz) (cwS_L_blockReason cx ⟨by decide, by decide⟩) rfl rfl (Nat.le_of_ble_eq_true rfl) dL_law_1634 ⟨by show _ ≤ 601024; omega, by show _ ≤ 7293034; omega⟩) (fun r9 u H locs hq hp => ?_)
  obtain ⟨rfl, rfl⟩ := hq
  refine lv_istore (lv' := [(5, .int (ρ'.1 0 12)), (0, .ref b), (1, .ref (adr E 19 0)), (2, .ref (adr E 20 0)), (3, .ref (adr E 21 0)), (4, .int (nI i))]) hx hb dL_law_1637 hl (by decide) rfl (fun ls hl => ?_)
  refine lv_aload_n hx hb dL_law_1639 rfl (lv_at hl 3 rfl) ?_
  refine lv_aload_n hx hb dL_law_1640 rfl (lv_at hl 1 rfl) ?_
  refine lv_iload hx hb dL_law_1641 (lv_at hl 5 rfl) ?_
  refine lv_iconst (v := 1) hx hb dL_law_1643 (by decide) ?_
  refine lv_iadd hx hb dL_law_1644 ?_
  refine s_ld (k := 1) rfl (by decide) hi hLs SX hbl hbA cx hp dL_law_1645 ?_
  refine lv_aload_n hx hb dL_law_1646 rfl (lv_at hl 1 rfl) ?_
  refine lv_iload hx hb dL_law_1647 (lv_at hl 5 rfl) ?_
  refine lv_iconst (v := 2) hx hb dL_law_1649 (by decide) ?_
  refine lv_iadd hx hb dL_law_1650 ?_
  refine s_ld (k := 2) rfl (by decide) hi hLs SX hbl hbA cx hp dL_law_1651 ?_
  refine x_i hp (y_V (As := [.int (xs (i + 1)), .int (xs (i + 2))]) (rest := []) cx hp hl (c_X13_blockReason l (Nat.le_trans (by decide) hN) hT e20 e2) (cw_L_240 cx rfl rfl ⟨by decide, by decide⟩) (rC_X13 (Nat.le_trans (by decide) hN) cx hp) rfl rfl (Nat.le_of_ble_eq_true rfl) dL_law_1652 ⟨by show _ ≤ 601024; omega, by show _ ≤ 7293034; omega⟩) (fun r9 u H locs hq hp => ?_)
  obtain ⟨rfl, hu, hn⟩ := hq
  obtain rfl := us_x hu hn
  refine lv_istore (lv' := [(6, .int r), (5, .int (ρ'.1 0 12)), (0, .ref b), (1, .ref (adr E 19 0)), (2, .ref (adr E 20 0)), (3, .ref (adr E 21 0)), (4, .int (nI i))]) hx hb dL_law_1655 hl (by decide) rfl (fun ls hl => ?_)
  refine lv_aload_n hx hb dL_law_1657 rfl (lv_at hl 4 rfl) ?_
  refine x_i hp (y_V (As := []) (rest := []) cx hp hl (c_X13_thrown l (Nat.le_trans (by decide) hN) hT (us_s _ _ _) rfl) (cw_L_136 cx rfl rfl ⟨by decide, by decide⟩) (rC_X13 (Nat.le_trans (by decide) hN) cx hp) rfl rfl (Nat.le_of_ble_eq_true rfl) dL_law_1658 ⟨by show _ ≤ 601024; omega, by show _ ≤ 7293034; omega⟩) (fun r9 u H locs hq hp => ?_)
  obtain ⟨rfl, rfl⟩ := hq
  refine lv_iload hx hb dL_law_1661 (lv_at hl 1 rfl) ?_
  refine lv_icmp_eq (tgt := 1668) hx hb dL_law_1663 (by decide) (fun _ => ?_) (fun c9 => absurd rfl c9)
  refine lv_iload hx hb dL_law_1668 (lv_at hl 1 rfl) ?_
  refine lv_if_ne (tgt := 1685) hx hb dL_law_1670 (by decide) (fun c9 => ?_) (fun c9 => ?_)
  · skip
    refine lv_goto (tgt := 2958) hx hb dL_law_1685 (by decide) ?_
    refine W.widen (k := cells + 3) (n := slots + 18) (by omega) (by omega) ?_
    exact K _ H locs ls (hr9.mono (by omega)) hp (lv_sub hl [2, 3, 4, 5, 6] rfl)
  · skip
    refine lv_aload_n hx hb dL_law_1673 rfl (lv_at hl 5 rfl) ?_
    refine lv_iconst (v := 0) hx hb dL_law_1674 (by decide) ?_
    refine l_out hN cx hp (x := oI r) (by rw [us_n (by decide)]; exact ho (c9.trans nI_0.symm)) dL_law_1675 ?_
    refine lv_iload hx hb dL_law_1676 (lv_at hl 0 rfl) ?_
    refine lv_i2l hx hb dL_law_1678 rfl ?_
    refine W.lcmp hx hb dL_law_1679 ?_
    refine lv_if_eq (tgt := 1685) hx hb dL_law_1680 (by decide) (fun _ => ?_) (fun c8 => absurd (lgc_rf _) c8)
    refine lv_goto (tgt := 2958) hx hb dL_law_1685 (by decide) ?_
    refine W.widen (k := cells + 3) (n := slots + 18) (by omega) (by omega) ?_
    exact K _ H locs ls (hr9.mono (by omega)) hp (lv_sub hl [2, 3, 4, 5, 6] rfl)
set_option maxRecDepth 100000 in
set_option maxHeartbeats 4000000 in
theorem k_30 {p : Program} {l : Launch} {e : Env} {s : State} {m : MethodId} {below : List Frame} {meth : Method} {c : Code} {E : Ev} {b Ls : Nat} {xs : Nat → Int32} (hlf : l.stackTraces = false) (hN : 147 ≤ eN E) (hT : St E) (hC : NC E) (cx : Cx E p s m meth c #[Value.ref b] RL cL_law 9 (some .boolean)) (SX : va_X b Ls xs s s.heap) (hbl : b < s.heap.size) (hbA : ¬ eA E b) (hLs : Ls ≤ 3072) {Q : State → Prop} {i B : Nat} (hi : i + 6 ≤ Ls) (hB9 : 9999 ≤ B) (hB : B + 300000 < 2 ^ 31) {σ : SM} (hr : Rel B σ) {cells slots : Nat} (hc : cells + 3 ≤ 601024 ∧ slots + 18 ≤ 7293034) {H : Heap} {locs : List Loc} (hp : Hp E σ s H locs) {ls : Array Slot} (hl : lv_has ls 9 (LL b E i))
    (K : ∀ (τ : SM) (H : Heap) (locs : List Loc) (ls : Array Slot), Rel (B + 196020) τ → Hp E τ s H locs → lv_has ls 9 (LL b E i) → W p l e room_1 s m #[Value.ref b] below meth c H locs (cells + 3) (slots + 18) Q (F0 m 2958 ls [])) : W p l e room_1 s m #[Value.ref b] below meth c H locs cells slots Q (F0 m 1688 ls []) := by
  have hx := cx.1.1
  have hb := cx.1.2.1
  obtain ⟨z, r, ρ', σ', e1, e2, hz, e20, hr9, ho⟩ := fs_two (Nat.le_refl B) oI (by decide) (P_allocatedStall hr (xs (i + 1)))
  refine lv_aload_n hx hb dL_law_1688 rfl (lv_at hl 1 rfl) ?_
  refine lv_aload_n hx hb dL_law_1689 rfl (lv_at hl 0 rfl) ?_
  refine lv_iload hx hb dL_law_1690 (lv_at hl 4 rfl) ?_
  refine lv_iconst (v := 1) hx hb dL_law_1692 (by decide) ?_
  refine lv_iadd hx hb dL_law_1693 ?_
  refine s_ld (k := 1) rfl (by decide) hi hLs SX hbl hbA cx hp dL_law_1694 ?_
  refine lv_aload_n hx hb dL_law_1695 rfl (lv_at hl 3 rfl) ?_
  refine x_iM hp (y_SW (As := [.ref (adr E 19 0), .int (xs (i + 1)), .ref (adr E 21 0)]) (rest := []) cx hp hl (c_L_allocatedStall l hN hT hlf hC e1 hz) (cwS_L_allocatedStall cx ⟨by decide, by decide⟩) rfl rfl (Nat.le_of_ble_eq_true rfl) dL_law_1696 ⟨by show _ ≤ 601024; omega, by show _ ≤ 7293034; omega⟩) (fun r9 u H locs hq hp => ?_)
  obtain ⟨rfl, rfl⟩ := hq
  refine lv_istore (lv' := [(5, .int (ρ'.1 0 12)), (0, .ref b), (1, .ref (adr E 19 0)), (2, .ref (adr E 20 0)), (3, .ref (adr E 21 0)), (4, .int (nI i))]) hx hb dL_law_1699 hl (by decide) rfl (fun ls hl => ?_)
  refine lv_aload_n hx hb dL_law_1701 rfl (lv_at hl 3 rfl) ?_
  refine lv_aload_n hx hb dL_law_1702 rfl (lv_at hl 1 rfl) ?_
  refine lv_iload hx hb dL_law_1703 (lv_at hl 5 rfl) ?_
  refine lv_iconst (v := 1) hx hb dL_law_1705 (by decide) ?_
  refine lv_iadd hx hb dL_law_1706 ?_
  refine s_ld (k := 1) rfl (by decide) hi hLs SX hbl hbA cx hp dL_law_1707 ?_
  refine x_i hp (y_V (As := [.int (xs (i + 1))]) (rest := []) cx hp hl (c_X13_allocatedStall l (Nat.le_trans (by decide) hN) hT e20 e2) (cw_L_243 cx rfl rfl ⟨by decide, by decide⟩) (rC_X13 (Nat.le_trans (by decide) hN) cx hp) rfl rfl (Nat.le_of_ble_eq_true rfl) dL_law_1708 ⟨by show _ ≤ 601024; omega, by show _ ≤ 7293034; omega⟩) (fun r9 u H locs hq hp => ?_)
  obtain ⟨rfl, hu, hn⟩ := hq
  obtain rfl := us_x hu hn
  refine lv_istore (lv' := [(6, .int r), (5, .int (ρ'.1 0 12)), (0, .ref b), (1, .ref (adr E 19 0)), (2, .ref (adr E 20 0)), (3, .ref (adr E 21 0)), (4, .int (nI i))]) hx hb dL_law_1711 hl (by decide) rfl (fun ls hl => ?_)
  refine lv_aload_n hx hb dL_law_1713 rfl (lv_at hl 4 rfl) ?_
  refine x_i hp (y_V (As := []) (rest := []) cx hp hl (c_X13_thrown l (Nat.le_trans (by decide) hN) hT (us_s _ _ _) rfl) (cw_L_136 cx rfl rfl ⟨by decide, by decide⟩) (rC_X13 (Nat.le_trans (by decide) hN) cx hp) rfl rfl (Nat.le_of_ble_eq_true rfl) dL_law_1714 ⟨by show _ ≤ 601024; omega, by show _ ≤ 7293034; omega⟩) (fun r9 u H locs hq hp => ?_)
  obtain ⟨rfl, rfl⟩ := hq
  refine lv_iload hx hb dL_law_1717 (lv_at hl 1 rfl) ?_
  refine lv_icmp_eq (tgt := 1724) hx hb dL_law_1719 (by decide) (fun _ => ?_) (fun c9 => absurd rfl c9)
  refine lv_iload hx hb dL_law_1724 (lv_at hl 1 rfl) ?_
  refine lv_if_ne (tgt := 1741) hx hb dL_law_1726 (by decide) (fun c9 => ?_) (fun c9 => ?_)
  · skip
    refine lv_goto (tgt := 2958) hx hb dL_law_1741 (by decide) ?_
    refine W.widen (k := cells + 3) (n := slots + 18) (by omega) (by omega) ?_
    exact K _ H locs ls (hr9.mono (by omega)) hp (lv_sub hl [2, 3, 4, 5, 6] rfl)
  · skip
    refine lv_aload_n hx hb dL_law_1729 rfl (lv_at hl 5 rfl) ?_
    refine lv_iconst (v := 0) hx hb dL_law_1730 (by decide) ?_
    refine l_out hN cx hp (x := oI r) (by rw [us_n (by decide)]; exact ho (c9.trans nI_0.symm)) dL_law_1731 ?_
    refine lv_iload hx hb dL_law_1732 (lv_at hl 0 rfl) ?_
    refine lv_i2l hx hb dL_law_1734 rfl ?_
    refine W.lcmp hx hb dL_law_1735 ?_
    refine lv_if_eq (tgt := 1741) hx hb dL_law_1736 (by decide) (fun _ => ?_) (fun c8 => absurd (lgc_rf _) c8)
    refine lv_goto (tgt := 2958) hx hb dL_law_1741 (by decide) ?_
    refine W.widen (k := cells + 3) (n := slots + 18) (by omega) (by omega) ?_
    exact K _ H locs ls (hr9.mono (by omega)) hp (lv_sub hl [2, 3, 4, 5, 6] rfl)
set_option maxRecDepth 100000 in
set_option maxHeartbeats 4000000 in
theorem k_31 {p : Program} {l : Launch} {e : Env} {s : State} {m : MethodId} {below : List Frame} {meth : Method} {c : Code} {E : Ev} {b Ls : Nat} {xs : Nat → Int32} (hlf : l.stackTraces = false) (hN : 147 ≤ eN E) (hT : St E) (hC : NC E) (cx : Cx E p s m meth c #[Value.ref b] RL cL_law 9 (some .boolean)) (SX : va_X b Ls xs s s.heap) (hbl : b < s.heap.size) (hbA : ¬ eA E b) (hLs : Ls ≤ 3072) {Q : State → Prop} {i B : Nat} (hi : i + 6 ≤ Ls) (hB9 : 9999 ≤ B) (hB : B + 300000 < 2 ^ 31) {σ : SM} (hr : Rel B σ) {cells slots : Nat} (hc : cells + 3 ≤ 601024 ∧ slots + 18 ≤ 7293034) {H : Heap} {locs : List Loc} (hp : Hp E σ s H locs) {ls : Array Slot} (hl : lv_has ls 9 (LL b E i))
    (K : ∀ (τ : SM) (H : Heap) (locs : List Loc) (ls : Array Slot), Rel (B + 196020) τ → Hp E τ s H locs → lv_has ls 9 (LL b E i) → W p l e room_1 s m #[Value.ref b] below meth c H locs (cells + 3) (slots + 18) Q (F0 m 2958 ls [])) : W p l e room_1 s m #[Value.ref b] below meth c H locs cells slots Q (F0 m 1744 ls []) := by
  have hx := cx.1.1
  have hb := cx.1.2.1
  obtain ⟨z, r, ρ', σ', e1, e2, hz, e20, hr9, ho⟩ := fs_two (Nat.le_refl B) oI (by decide) (P_allocatedIfFirst hr (xs (i + 1)))
  refine lv_aload_n hx hb dL_law_1744 rfl (lv_at hl 1 rfl) ?_
  refine lv_aload_n hx hb dL_law_1745 rfl (lv_at hl 0 rfl) ?_
  refine lv_iload hx hb dL_law_1746 (lv_at hl 4 rfl) ?_
  refine lv_iconst (v := 1) hx hb dL_law_1748 (by decide) ?_
  refine lv_iadd hx hb dL_law_1749 ?_
  refine s_ld (k := 1) rfl (by decide) hi hLs SX hbl hbA cx hp dL_law_1750 ?_
  refine lv_aload_n hx hb dL_law_1751 rfl (lv_at hl 3 rfl) ?_
  refine x_iM hp (y_SW (As := [.ref (adr E 19 0), .int (xs (i + 1)), .ref (adr E 21 0)]) (rest := []) cx hp hl (c_L_allocatedIfFirst l hN hT hlf hC e1 hz) (cwS_L_allocatedIfFirst cx ⟨by decide, by decide⟩) rfl rfl (Nat.le_of_ble_eq_true rfl) dL_law_1752 ⟨by show _ ≤ 601024; omega, by show _ ≤ 7293034; omega⟩) (fun r9 u H locs hq hp => ?_)
  obtain ⟨rfl, rfl⟩ := hq
  refine lv_istore (lv' := [(5, .int (ρ'.1 0 12)), (0, .ref b), (1, .ref (adr E 19 0)), (2, .ref (adr E 20 0)), (3, .ref (adr E 21 0)), (4, .int (nI i))]) hx hb dL_law_1755 hl (by decide) rfl (fun ls hl => ?_)
  refine lv_aload_n hx hb dL_law_1757 rfl (lv_at hl 3 rfl) ?_
  refine lv_aload_n hx hb dL_law_1758 rfl (lv_at hl 1 rfl) ?_
  refine lv_iload hx hb dL_law_1759 (lv_at hl 5 rfl) ?_
  refine lv_iconst (v := 1) hx hb dL_law_1761 (by decide) ?_
  refine lv_iadd hx hb dL_law_1762 ?_
  refine s_ld (k := 1) rfl (by decide) hi hLs SX hbl hbA cx hp dL_law_1763 ?_
  refine x_i hp (y_V (As := [.int (xs (i + 1))]) (rest := []) cx hp hl (c_X13_allocatedIfFirst l (Nat.le_trans (by decide) hN) hT e20 e2) (cw_L_246 cx rfl rfl ⟨by decide, by decide⟩) (rC_X13 (Nat.le_trans (by decide) hN) cx hp) rfl rfl (Nat.le_of_ble_eq_true rfl) dL_law_1764 ⟨by show _ ≤ 601024; omega, by show _ ≤ 7293034; omega⟩) (fun r9 u H locs hq hp => ?_)
  obtain ⟨rfl, hu, hn⟩ := hq
  obtain rfl := us_x hu hn
  refine lv_istore (lv' := [(6, .int r), (5, .int (ρ'.1 0 12)), (0, .ref b), (1, .ref (adr E 19 0)), (2, .ref (adr E 20 0)), (3, .ref (adr E 21 0)), (4, .int (nI i))]) hx hb dL_law_1767 hl (by decide) rfl (fun ls hl => ?_)
  refine lv_aload_n hx hb dL_law_1769 rfl (lv_at hl 4 rfl) ?_
  refine x_i hp (y_V (As := []) (rest := []) cx hp hl (c_X13_thrown l (Nat.le_trans (by decide) hN) hT (us_s _ _ _) rfl) (cw_L_136 cx rfl rfl ⟨by decide, by decide⟩) (rC_X13 (Nat.le_trans (by decide) hN) cx hp) rfl rfl (Nat.le_of_ble_eq_true rfl) dL_law_1770 ⟨by show _ ≤ 601024; omega, by show _ ≤ 7293034; omega⟩) (fun r9 u H locs hq hp => ?_)
  obtain ⟨rfl, rfl⟩ := hq
  refine lv_iload hx hb dL_law_1773 (lv_at hl 1 rfl) ?_
  refine lv_icmp_eq (tgt := 1780) hx hb dL_law_1775 (by decide) (fun _ => ?_) (fun c9 => absurd rfl c9)
  refine lv_iload hx hb dL_law_1780 (lv_at hl 1 rfl) ?_
  refine lv_if_ne (tgt := 1797) hx hb dL_law_1782 (by decide) (fun c9 => ?_) (fun c9 => ?_)
  · skip
    refine lv_goto (tgt := 2958) hx hb dL_law_1797 (by decide) ?_
    refine W.widen (k := cells + 3) (n := slots + 18) (by omega) (by omega) ?_
    exact K _ H locs ls (hr9.mono (by omega)) hp (lv_sub hl [2, 3, 4, 5, 6] rfl)
  · skip
    refine lv_aload_n hx hb dL_law_1785 rfl (lv_at hl 5 rfl) ?_
    refine lv_iconst (v := 0) hx hb dL_law_1786 (by decide) ?_
    refine l_out hN cx hp (x := oI r) (by rw [us_n (by decide)]; exact ho (c9.trans nI_0.symm)) dL_law_1787 ?_
    refine lv_iload hx hb dL_law_1788 (lv_at hl 0 rfl) ?_
    refine lv_i2l hx hb dL_law_1790 rfl ?_
    refine W.lcmp hx hb dL_law_1791 ?_
    refine lv_if_eq (tgt := 1797) hx hb dL_law_1792 (by decide) (fun _ => ?_) (fun c8 => absurd (lgc_rf _) c8)
    refine lv_goto (tgt := 2958) hx hb dL_law_1797 (by decide) ?_
    refine W.widen (k := cells + 3) (n := slots + 18) (by omega) (by omega) ?_
    exact K _ H locs ls (hr9.mono (by omega)) hp (lv_sub hl [2, 3, 4, 5, 6] rfl)
set_option maxRecDepth 100000 in
set_option maxHeartbeats 4000000 in
theorem k_32 {p : Program} {l : Launch} {e : Env} {s : State} {m : MethodId} {below : List Frame} {meth : Method} {c : Code} {E : Ev} {b Ls : Nat} {xs : Nat → Int32} (hlf : l.stackTraces = false) (hN : 147 ≤ eN E) (hT : St E) (hC : NC E) (cx : Cx E p s m meth c #[Value.ref b] RL cL_law 9 (some .boolean)) (SX : va_X b Ls xs s s.heap) (hbl : b < s.heap.size) (hbA : ¬ eA E b) (hLs : Ls ≤ 3072) {Q : State → Prop} {i B : Nat} (hi : i + 6 ≤ Ls) (hB9 : 9999 ≤ B) (hB : B + 300000 < 2 ^ 31) {σ : SM} (hr : Rel B σ) {cells slots : Nat} (hc : cells + 3 ≤ 601024 ∧ slots + 18 ≤ 7293034) {H : Heap} {locs : List Loc} (hp : Hp E σ s H locs) {ls : Array Slot} (hl : lv_has ls 9 (LL b E i))
    (K : ∀ (τ : SM) (H : Heap) (locs : List Loc) (ls : Array Slot), Rel (B + 196020) τ → Hp E τ s H locs → lv_has ls 9 (LL b E i) → W p l e room_1 s m #[Value.ref b] below meth c H locs (cells + 3) (slots + 18) Q (F0 m 2958 ls [])) : W p l e room_1 s m #[Value.ref b] below meth c H locs cells slots Q (F0 m 1800 ls []) := by
  have hx := cx.1.1
  have hb := cx.1.2.1
  obtain ⟨z, r, ρ', σ', e1, e2, hz, e20, hr9, ho⟩ := fs_two (Nat.le_refl B) oI (by decide) (P_allocatedIfReported hr (xs (i + 1)) (xs (i + 2)))
  refine lv_aload_n hx hb dL_law_1800 rfl (lv_at hl 1 rfl) ?_
  refine lv_aload_n hx hb dL_law_1801 rfl (lv_at hl 0 rfl) ?_
  refine lv_iload hx hb dL_law_1802 (lv_at hl 4 rfl) ?_
  refine lv_iconst (v := 1) hx hb dL_law_1804 (by decide) ?_
  refine lv_iadd hx hb dL_law_1805 ?_
  refine s_ld (k := 1) rfl (by decide) hi hLs SX hbl hbA cx hp dL_law_1806 ?_
  refine lv_aload_n hx hb dL_law_1807 rfl (lv_at hl 0 rfl) ?_
  refine lv_iload hx hb dL_law_1808 (lv_at hl 4 rfl) ?_
  refine lv_iconst (v := 2) hx hb dL_law_1810 (by decide) ?_
  refine lv_iadd hx hb dL_law_1811 ?_
  refine s_ld (k := 2) rfl (by decide) hi hLs SX hbl hbA cx hp dL_law_1812 ?_
  refine lv_aload_n hx hb dL_law_1813 rfl (lv_at hl 3 rfl) ?_
  refine x_iM hp (y_SW (As := [.ref (adr E 19 0), .int (xs (i + 1)), .int (xs (i + 2)), .ref (adr E 21 0)]) (rest := []) cx hp hl (c_L_allocatedIfReported l hN hT hlf hC e1 hz) (cwS_L_allocatedIfReported cx ⟨by decide, by decide⟩) rfl rfl (Nat.le_of_ble_eq_true rfl) dL_law_1814 ⟨by show _ ≤ 601024; omega, by show _ ≤ 7293034; omega⟩) (fun r9 u H locs hq hp => ?_)
  obtain ⟨rfl, rfl⟩ := hq
  refine lv_istore (lv' := [(5, .int (ρ'.1 0 12)), (0, .ref b), (1, .ref (adr E 19 0)), (2, .ref (adr E 20 0)), (3, .ref (adr E 21 0)), (4, .int (nI i))]) hx hb dL_law_1817 hl (by decide) rfl (fun ls hl => ?_)
  refine lv_aload_n hx hb dL_law_1819 rfl (lv_at hl 3 rfl) ?_
  refine lv_aload_n hx hb dL_law_1820 rfl (lv_at hl 1 rfl) ?_
  refine lv_iload hx hb dL_law_1821 (lv_at hl 5 rfl) ?_
  refine lv_iconst (v := 1) hx hb dL_law_1823 (by decide) ?_
  refine lv_iadd hx hb dL_law_1824 ?_
  refine s_ld (k := 1) rfl (by decide) hi hLs SX hbl hbA cx hp dL_law_1825 ?_
  refine lv_aload_n hx hb dL_law_1826 rfl (lv_at hl 1 rfl) ?_
  refine lv_iload hx hb dL_law_1827 (lv_at hl 5 rfl) ?_
  refine lv_iconst (v := 2) hx hb dL_law_1829 (by decide) ?_
  refine lv_iadd hx hb dL_law_1830 ?_
  refine s_ld (k := 2) rfl (by decide) hi hLs SX hbl hbA cx hp dL_law_1831 ?_
  refine x_i hp (y_V (As := [.int (xs (i + 1)), .int (xs (i + 2))]) (rest := []) cx hp hl (c_X13_allocatedIfReported l (Nat.le_trans (by decide) hN) hT e20 e2) (cw_L_249 cx rfl rfl ⟨by decide, by decide⟩) (rC_X13 (Nat.le_trans (by decide) hN) cx hp) rfl rfl (Nat.le_of_ble_eq_true rfl) dL_law_1832 ⟨by show _ ≤ 601024; omega, by show _ ≤ 7293034; omega⟩) (fun r9 u H locs hq hp => ?_)
  obtain ⟨rfl, hu, hn⟩ := hq
  obtain rfl := us_x hu hn
  refine lv_istore (lv' := [(6, .int r), (5, .int (ρ'.1 0 12)), (0, .ref b), (1, .ref (adr E 19 0)), (2, .ref (adr E 20 0)), (3, .ref (adr E 21 0)), (4, .int (nI i))]) hx hb dL_law_1835 hl (by decide) rfl (fun ls hl => ?_)
  refine lv_aload_n hx hb dL_law_1837 rfl (lv_at hl 4 rfl) ?_
  refine x_i hp (y_V (As := []) (rest := []) cx hp hl (c_X13_thrown l (Nat.le_trans (by decide) hN) hT (us_s _ _ _) rfl) (cw_L_136 cx rfl rfl ⟨by decide, by decide⟩) (rC_X13 (Nat.le_trans (by decide) hN) cx hp) rfl rfl (Nat.le_of_ble_eq_true rfl) dL_law_1838 ⟨by show _ ≤ 601024; omega, by show _ ≤ 7293034; omega⟩) (fun r9 u H locs hq hp => ?_)
  obtain ⟨rfl, rfl⟩ := hq
  refine lv_iload hx hb dL_law_1841 (lv_at hl 1 rfl) ?_
  refine lv_icmp_eq (tgt := 1848) hx hb dL_law_1843 (by decide) (fun _ => ?_) (fun c9 => absurd rfl c9)
  refine lv_iload hx hb dL_law_1848 (lv_at hl 1 rfl) ?_
  refine lv_if_ne (tgt := 1865) hx hb dL_law_1850 (by decide) (fun c9 => ?_) (fun c9 => ?_)
  · skip
    refine lv_goto (tgt := 2958) hx hb dL_law_1865 (by decide) ?_
    refine W.widen (k := cells + 3) (n := slots + 18) (by omega) (by omega) ?_
    exact K _ H locs ls (hr9.mono (by omega)) hp (lv_sub hl [2, 3, 4, 5, 6] rfl)
  · skip
    refine lv_aload_n hx hb dL_law_1853 rfl (lv_at hl 5 rfl) ?_
    refine lv_iconst (v := 0) hx hb dL_law_1854 (by decide) ?_
    refine l_out hN cx hp (x := oI r) (by rw [us_n (by decide)]; exact ho (c9.trans nI_0.symm)) dL_law_1855 ?_
    refine lv_iload hx hb dL_law_1856 (lv_at hl 0 rfl) ?_
    refine lv_i2l hx hb dL_law_1858 rfl ?_
    refine W.lcmp hx hb dL_law_1859 ?_
    refine lv_if_eq (tgt := 1865) hx hb dL_law_1860 (by decide) (fun _ => ?_) (fun c8 => absurd (lgc_rf _) c8)
    refine lv_goto (tgt := 2958) hx hb dL_law_1865 (by decide) ?_
    refine W.widen (k := cells + 3) (n := slots + 18) (by omega) (by omega) ?_
    exact K _ H locs ls (hr9.mono (by omega)) hp (lv_sub hl [2, 3, 4, 5, 6] rfl)
set_option maxRecDepth 100000 in
set_option maxHeartbeats 4000000 in
theorem k_33 {p : Program} {l : Launch} {e : Env} {s : State} {m : MethodId} {below : List Frame} {meth : Method} {c : Code} {E : Ev} {b Ls : Nat} {xs : Nat → Int32} (hlf : l.stackTraces = false) (hN : 147 ≤ eN E) (hT : St E) (hC : NC E) (cx : Cx E p s m meth c #[Value.ref b] RL cL_law 9 (some .boolean)) (SX : va_X b Ls xs s s.heap) (hbl : b < s.heap.size) (hbA : ¬ eA E b) (hLs : Ls ≤ 3072) {Q : State → Prop} {i B : Nat} (hi : i + 6 ≤ Ls) (hB9 : 9999 ≤ B) (hB : B + 300000 < 2 ^ 31) {σ : SM} (hr : Rel B σ) {cells slots : Nat} (hc : cells + 3 ≤ 601024 ∧ slots + 18 ≤ 7293034) {H : Heap} {locs : List Loc} (hp : Hp E σ s H locs) {ls : Array Slot} (hl : lv_has ls 9 (LL b E i))
    (K : ∀ (τ : SM) (H : Heap) (locs : List Loc) (ls : Array Slot), Rel (B + 196020) τ → Hp E τ s H locs → lv_has ls 9 (LL b E i) → W p l e room_1 s m #[Value.ref b] below meth c H locs (cells + 3) (slots + 18) Q (F0 m 2958 ls [])) : W p l e room_1 s m #[Value.ref b] below meth c H locs cells slots Q (F0 m 1868 ls []) := by
  have hx := cx.1.1
  have hb := cx.1.2.1
  obtain ⟨r, τ, ρ', e1, e2, e20, hr9⟩ := P_gainerCount hr 
  refine lv_aload_n hx hb dL_law_1868 rfl (lv_at hl 1 rfl) ?_
  refine x_i hp (y_V (As := []) (rest := []) cx hp hl (c_X12_gainerCount l (Nat.le_trans (by decide) hN) hT e1) (cw_L_250 cx rfl rfl ⟨by decide, by decide⟩) (rC_X12 (Nat.le_trans (by decide) hN) cx hp) rfl rfl (Nat.le_of_ble_eq_true rfl) dL_law_1869 ⟨by show _ ≤ 601024; omega, by show _ ≤ 7293034; omega⟩) (fun r9 u H locs hq hp => ?_)
  obtain ⟨rfl, rfl⟩ := hq
  refine lv_aload_n hx hb dL_law_1872 rfl (lv_at hl 2 rfl) ?_
  refine x_i hp (y_V (As := []) (rest := [.int r]) cx hp hl (c_X13_gainerCount l (Nat.le_trans (by decide) hN) hT e20 e2) (cw_L_253 cx rfl rfl ⟨by decide, by decide⟩) (rC_X13 (Nat.le_trans (by decide) hN) cx hp) rfl rfl (Nat.le_of_ble_eq_true rfl) dL_law_1873 ⟨by show _ ≤ 601024; omega, by show _ ≤ 7293034; omega⟩) (fun r9 u H locs hq hp => ?_)
  obtain ⟨rfl, hu, hn⟩ := hq
  obtain rfl := us_x hu hn
  refine lv_icmp_eq (tgt := 2958) hx hb dL_law_1876 (by decide) (fun _ => ?_) (fun c9 => absurd rfl c9)
  refine W.widen (k := cells + 3) (n := slots + 18) (by omega) (by omega) ?_
  exact K _ H locs ls (hr9.mono (by omega)) hp hl
set_option maxRecDepth 100000 in
set_option maxHeartbeats 4000000 in
theorem k_34 {p : Program} {l : Launch} {e : Env} {s : State} {m : MethodId} {below : List Frame} {meth : Method} {c : Code} {E : Ev} {b Ls : Nat} {xs : Nat → Int32} (hlf : l.stackTraces = false) (hN : 147 ≤ eN E) (hT : St E) (hC : NC E) (cx : Cx E p s m meth c #[Value.ref b] RL cL_law 9 (some .boolean)) (SX : va_X b Ls xs s s.heap) (hbl : b < s.heap.size) (hbA : ¬ eA E b) (hLs : Ls ≤ 3072) {Q : State → Prop} {i B : Nat} (hi : i + 6 ≤ Ls) (hB9 : 9999 ≤ B) (hB : B + 300000 < 2 ^ 31) {σ : SM} (hr : Rel B σ) {cells slots : Nat} (hc : cells + 3 ≤ 601024 ∧ slots + 18 ≤ 7293034) {H : Heap} {locs : List Loc} (hp : Hp E σ s H locs) {ls : Array Slot} (hl : lv_has ls 9 (LL b E i))
    (K : ∀ (τ : SM) (H : Heap) (locs : List Loc) (ls : Array Slot), Rel (B + 196020) τ → Hp E τ s H locs → lv_has ls 9 (LL b E i) → W p l e room_1 s m #[Value.ref b] below meth c H locs (cells + 3) (slots + 18) Q (F0 m 2958 ls [])) : W p l e room_1 s m #[Value.ref b] below meth c H locs cells slots Q (F0 m 1881 ls []) := by
  have hx := cx.1.1
  have hb := cx.1.2.1
  obtain ⟨r, τ, ρ', e1, e2, e20, hr9⟩ := P_maximumMatchingSize hr 
  refine lv_aload_n hx hb dL_law_1881 rfl (lv_at hl 1 rfl) ?_
  refine x_i hp (y_V (As := []) (rest := []) cx hp hl (c_X12_maximumMatchingSize l (Nat.le_trans (by decide) hN) hT e1) (cw_L_254 cx rfl rfl ⟨by decide, by decide⟩) (rC_X12 (Nat.le_trans (by decide) hN) cx hp) rfl rfl (Nat.le_of_ble_eq_true rfl) dL_law_1882 ⟨by show _ ≤ 601024; omega, by show _ ≤ 7293034; omega⟩) (fun r9 u H locs hq hp => ?_)
  obtain ⟨rfl, rfl⟩ := hq
  refine lv_aload_n hx hb dL_law_1885 rfl (lv_at hl 2 rfl) ?_
  refine x_i hp (y_V (As := []) (rest := [.int r]) cx hp hl (c_X13_maximumMatchingSize l (Nat.le_trans (by decide) hN) hT e20 e2) (cw_L_257 cx rfl rfl ⟨by decide, by decide⟩) (rC_X13 (Nat.le_trans (by decide) hN) cx hp) rfl rfl (Nat.le_of_ble_eq_true rfl) dL_law_1886 ⟨by show _ ≤ 601024; omega, by show _ ≤ 7293034; omega⟩) (fun r9 u H locs hq hp => ?_)
  obtain ⟨rfl, hu, hn⟩ := hq
  obtain rfl := us_x hu hn
  refine lv_icmp_eq (tgt := 2958) hx hb dL_law_1889 (by decide) (fun _ => ?_) (fun c9 => absurd rfl c9)
  refine W.widen (k := cells + 3) (n := slots + 18) (by omega) (by omega) ?_
  exact K _ H locs ls (hr9.mono (by omega)) hp hl
set_option maxRecDepth 100000 in
set_option maxHeartbeats 4000000 in
theorem k_35 {p : Program} {l : Launch} {e : Env} {s : State} {m : MethodId} {below : List Frame} {meth : Method} {c : Code} {E : Ev} {b Ls : Nat} {xs : Nat → Int32} (hlf : l.stackTraces = false) (hN : 147 ≤ eN E) (hT : St E) (hC : NC E) (cx : Cx E p s m meth c #[Value.ref b] RL cL_law 9 (some .boolean)) (SX : va_X b Ls xs s s.heap) (hbl : b < s.heap.size) (hbA : ¬ eA E b) (hLs : Ls ≤ 3072) {Q : State → Prop} {i B : Nat} (hi : i + 6 ≤ Ls) (hB9 : 9999 ≤ B) (hB : B + 300000 < 2 ^ 31) {σ : SM} (hr : Rel B σ) {cells slots : Nat} (hc : cells + 3 ≤ 601024 ∧ slots + 18 ≤ 7293034) {H : Heap} {locs : List Loc} (hp : Hp E σ s H locs) {ls : Array Slot} (hl : lv_has ls 9 (LL b E i))
    (K : ∀ (τ : SM) (H : Heap) (locs : List Loc) (ls : Array Slot), Rel (B + 196020) τ → Hp E τ s H locs → lv_has ls 9 (LL b E i) → W p l e room_1 s m #[Value.ref b] below meth c H locs (cells + 3) (slots + 18) Q (F0 m 2958 ls [])) : W p l e room_1 s m #[Value.ref b] below meth c H locs cells slots Q (F0 m 1894 ls []) := by
  have hx := cx.1.1
  have hb := cx.1.2.1
  obtain ⟨r, τ, ρ', e1, e2, e20, hr9⟩ := P_leastRankSum hr 
  refine lv_aload_n hx hb dL_law_1894 rfl (lv_at hl 1 rfl) ?_
  refine x_i hp (y_V (As := []) (rest := []) cx hp hl (c_X12_leastRankSum l (Nat.le_trans (by decide) hN) hT e1) (cw_L_258 cx rfl rfl ⟨by decide, by decide⟩) (rC_X12 (Nat.le_trans (by decide) hN) cx hp) rfl rfl (Nat.le_of_ble_eq_true rfl) dL_law_1895 ⟨by show _ ≤ 601024; omega, by show _ ≤ 7293034; omega⟩) (fun r9 u H locs hq hp => ?_)
  obtain ⟨rfl, rfl⟩ := hq
  refine lv_aload_n hx hb dL_law_1898 rfl (lv_at hl 2 rfl) ?_
  refine x_i hp (y_V (As := []) (rest := [.int r]) cx hp hl (c_X13_leastRankSum l (Nat.le_trans (by decide) hN) hT e20 e2) (cw_L_261 cx rfl rfl ⟨by decide, by decide⟩) (rC_X13 (Nat.le_trans (by decide) hN) cx hp) rfl rfl (Nat.le_of_ble_eq_true rfl) dL_law_1899 ⟨by show _ ≤ 601024; omega, by show _ ≤ 7293034; omega⟩) (fun r9 u H locs hq hp => ?_)
  obtain ⟨rfl, hu, hn⟩ := hq
  obtain rfl := us_x hu hn
  refine lv_icmp_eq (tgt := 2958) hx hb dL_law_1902 (by decide) (fun _ => ?_) (fun c9 => absurd rfl c9)
  refine W.widen (k := cells + 3) (n := slots + 18) (by omega) (by omega) ?_
  exact K _ H locs ls (hr9.mono (by omega)) hp hl
set_option maxRecDepth 100000 in
set_option maxHeartbeats 4000000 in
theorem k_36 {p : Program} {l : Launch} {e : Env} {s : State} {m : MethodId} {below : List Frame} {meth : Method} {c : Code} {E : Ev} {b Ls : Nat} {xs : Nat → Int32} (hlf : l.stackTraces = false) (hN : 147 ≤ eN E) (hT : St E) (hC : NC E) (cx : Cx E p s m meth c #[Value.ref b] RL cL_law 9 (some .boolean)) (SX : va_X b Ls xs s s.heap) (hbl : b < s.heap.size) (hbA : ¬ eA E b) (hLs : Ls ≤ 3072) {Q : State → Prop} {i B : Nat} (hi : i + 6 ≤ Ls) (hB9 : 9999 ≤ B) (hB : B + 300000 < 2 ^ 31) {σ : SM} (hr : Rel B σ) {cells slots : Nat} (hc : cells + 3 ≤ 601024 ∧ slots + 18 ≤ 7293034) {H : Heap} {locs : List Loc} (hp : Hp E σ s H locs) {ls : Array Slot} (hl : lv_has ls 9 (LL b E i))
    (K : ∀ (τ : SM) (H : Heap) (locs : List Loc) (ls : Array Slot), Rel (B + 196020) τ → Hp E τ s H locs → lv_has ls 9 (LL b E i) → W p l e room_1 s m #[Value.ref b] below meth c H locs (cells + 3) (slots + 18) Q (F0 m 2958 ls [])) : W p l e room_1 s m #[Value.ref b] below meth c H locs cells slots Q (F0 m 1907 ls []) := by
  have hx := cx.1.1
  have hb := cx.1.2.1
  obtain ⟨z, r, ρ', σ', e1, e2, hz, e20, hr9, ho⟩ := fx_two oI (by decide) (P_daysUntilEviction hr (by omega) (xs (i + 1)))
  refine lv_aload_n hx hb dL_law_1907 rfl (lv_at hl 1 rfl) ?_
  refine lv_aload_n hx hb dL_law_1908 rfl (lv_at hl 0 rfl) ?_
  refine lv_iload hx hb dL_law_1909 (lv_at hl 4 rfl) ?_
  refine lv_iconst (v := 1) hx hb dL_law_1911 (by decide) ?_
  refine lv_iadd hx hb dL_law_1912 ?_
  refine s_ld (k := 1) rfl (by decide) hi hLs SX hbl hbA cx hp dL_law_1913 ?_
  refine lv_aload_n hx hb dL_law_1914 rfl (lv_at hl 3 rfl) ?_
  refine x_iM hp (y_SW (As := [.ref (adr E 19 0), .int (xs (i + 1)), .ref (adr E 21 0)]) (rest := []) cx hp hl (c_L_daysUntilEviction l hN hT hlf hC e1 hz) (cwS_L_daysUntilEviction cx ⟨by decide, by decide⟩) rfl rfl (Nat.le_of_ble_eq_true rfl) dL_law_1915 ⟨by show _ ≤ 601024; omega, by show _ ≤ 7293034; omega⟩) (fun r9 u H locs hq hp => ?_)
  obtain ⟨rfl, rfl⟩ := hq
  refine lv_istore (lv' := [(5, .int (ρ'.1 0 12)), (0, .ref b), (1, .ref (adr E 19 0)), (2, .ref (adr E 20 0)), (3, .ref (adr E 21 0)), (4, .int (nI i))]) hx hb dL_law_1918 hl (by decide) rfl (fun ls hl => ?_)
  refine lv_aload_n hx hb dL_law_1920 rfl (lv_at hl 3 rfl) ?_
  refine lv_aload_n hx hb dL_law_1921 rfl (lv_at hl 1 rfl) ?_
  refine lv_iload hx hb dL_law_1922 (lv_at hl 5 rfl) ?_
  refine lv_iconst (v := 1) hx hb dL_law_1924 (by decide) ?_
  refine lv_iadd hx hb dL_law_1925 ?_
  refine s_ld (k := 1) rfl (by decide) hi hLs SX hbl hbA cx hp dL_law_1926 ?_
  refine x_i hp (y_V (As := [.int (xs (i + 1))]) (rest := []) cx hp hl (c_X13_daysUntilEviction l (Nat.le_trans (by decide) hN) hT e20 e2) (cw_L_264 cx rfl rfl ⟨by decide, by decide⟩) (rC_X13 (Nat.le_trans (by decide) hN) cx hp) rfl rfl (Nat.le_of_ble_eq_true rfl) dL_law_1927 ⟨by show _ ≤ 601024; omega, by show _ ≤ 7293034; omega⟩) (fun r9 u H locs hq hp => ?_)
  obtain ⟨rfl, hu, hn⟩ := hq
  obtain rfl := us_x hu hn
  refine lv_istore (lv' := [(6, .int r), (5, .int (ρ'.1 0 12)), (0, .ref b), (1, .ref (adr E 19 0)), (2, .ref (adr E 20 0)), (3, .ref (adr E 21 0)), (4, .int (nI i))]) hx hb dL_law_1930 hl (by decide) rfl (fun ls hl => ?_)
  refine lv_aload_n hx hb dL_law_1932 rfl (lv_at hl 4 rfl) ?_
  refine x_i hp (y_V (As := []) (rest := []) cx hp hl (c_X13_thrown l (Nat.le_trans (by decide) hN) hT (us_s _ _ _) rfl) (cw_L_136 cx rfl rfl ⟨by decide, by decide⟩) (rC_X13 (Nat.le_trans (by decide) hN) cx hp) rfl rfl (Nat.le_of_ble_eq_true rfl) dL_law_1933 ⟨by show _ ≤ 601024; omega, by show _ ≤ 7293034; omega⟩) (fun r9 u H locs hq hp => ?_)
  obtain ⟨rfl, rfl⟩ := hq
  refine lv_iload hx hb dL_law_1936 (lv_at hl 1 rfl) ?_
  refine lv_icmp_eq (tgt := 1943) hx hb dL_law_1938 (by decide) (fun _ => ?_) (fun c9 => absurd rfl c9)
  refine lv_iload hx hb dL_law_1943 (lv_at hl 1 rfl) ?_
  refine lv_if_ne (tgt := 1960) hx hb dL_law_1945 (by decide) (fun c9 => ?_) (fun c9 => ?_)
  · skip
    refine lv_goto (tgt := 2958) hx hb dL_law_1960 (by decide) ?_
    refine W.widen (k := cells + 3) (n := slots + 18) (by omega) (by omega) ?_
    exact K _ H locs ls (hr9.mono (by omega)) hp (lv_sub hl [2, 3, 4, 5, 6] rfl)
  · skip
    refine lv_aload_n hx hb dL_law_1948 rfl (lv_at hl 5 rfl) ?_
    refine lv_iconst (v := 0) hx hb dL_law_1949 (by decide) ?_
    refine l_out hN cx hp (x := oI r) (by rw [us_n (by decide)]; exact ho (c9.trans nI_0.symm)) dL_law_1950 ?_
    refine lv_iload hx hb dL_law_1951 (lv_at hl 0 rfl) ?_
    refine lv_i2l hx hb dL_law_1953 rfl ?_
    refine W.lcmp hx hb dL_law_1954 ?_
    refine lv_if_eq (tgt := 1960) hx hb dL_law_1955 (by decide) (fun _ => ?_) (fun c8 => absurd (lgc_rf _) c8)
    refine lv_goto (tgt := 2958) hx hb dL_law_1960 (by decide) ?_
    refine W.widen (k := cells + 3) (n := slots + 18) (by omega) (by omega) ?_
    exact K _ H locs ls (hr9.mono (by omega)) hp (lv_sub hl [2, 3, 4, 5, 6] rfl)
set_option maxRecDepth 100000 in
set_option maxHeartbeats 4000000 in
theorem k_37 {p : Program} {l : Launch} {e : Env} {s : State} {m : MethodId} {below : List Frame} {meth : Method} {c : Code} {E : Ev} {b Ls : Nat} {xs : Nat → Int32} (hlf : l.stackTraces = false) (hN : 147 ≤ eN E) (hT : St E) (hC : NC E) (cx : Cx E p s m meth c #[Value.ref b] RL cL_law 9 (some .boolean)) (SX : va_X b Ls xs s s.heap) (hbl : b < s.heap.size) (hbA : ¬ eA E b) (hLs : Ls ≤ 3072) {Q : State → Prop} {i B : Nat} (hi : i + 6 ≤ Ls) (hB9 : 9999 ≤ B) (hB : B + 300000 < 2 ^ 31) {σ : SM} (hr : Rel B σ) {cells slots : Nat} (hc : cells + 3 ≤ 601024 ∧ slots + 18 ≤ 7293034) {H : Heap} {locs : List Loc} (hp : Hp E σ s H locs) {ls : Array Slot} (hl : lv_has ls 9 (LL b E i))
    (K : ∀ (τ : SM) (H : Heap) (locs : List Loc) (ls : Array Slot), Rel (B + 196020) τ → Hp E τ s H locs → lv_has ls 9 (LL b E i) → W p l e room_1 s m #[Value.ref b] below meth c H locs (cells + 3) (slots + 18) Q (F0 m 2958 ls [])) : W p l e room_1 s m #[Value.ref b] below meth c H locs cells slots Q (F0 m 1963 ls []) := by
  have hx := cx.1.1
  have hb := cx.1.2.1
  obtain ⟨z, r, ρ', σ', e1, e2, hz, e20, hr9, ho⟩ := fx_two oI (by decide) (P_balanceAfter hr (xs (i + 1)) (xs (i + 2)))
  refine lv_aload_n hx hb dL_law_1963 rfl (lv_at hl 1 rfl) ?_
  refine lv_aload_n hx hb dL_law_1964 rfl (lv_at hl 0 rfl) ?_
  refine lv_iload hx hb dL_law_1965 (lv_at hl 4 rfl) ?_
  refine lv_iconst (v := 1) hx hb dL_law_1967 (by decide) ?_
  refine lv_iadd hx hb dL_law_1968 ?_
  refine s_ld (k := 1) rfl (by decide) hi hLs SX hbl hbA cx hp dL_law_1969 ?_
  refine lv_aload_n hx hb dL_law_1970 rfl (lv_at hl 0 rfl) ?_
  refine lv_iload hx hb dL_law_1971 (lv_at hl 4 rfl) ?_
  refine lv_iconst (v := 2) hx hb dL_law_1973 (by decide) ?_
  refine lv_iadd hx hb dL_law_1974 ?_
  refine s_ld (k := 2) rfl (by decide) hi hLs SX hbl hbA cx hp dL_law_1975 ?_
  refine lv_aload_n hx hb dL_law_1976 rfl (lv_at hl 3 rfl) ?_
  refine x_iM hp (y_SW (As := [.ref (adr E 19 0), .int (xs (i + 1)), .int (xs (i + 2)), .ref (adr E 21 0)]) (rest := []) cx hp hl (c_L_balanceAfter l hN hT hlf hC e1 hz) (cwS_L_balanceAfter cx ⟨by decide, by decide⟩) rfl rfl (Nat.le_of_ble_eq_true rfl) dL_law_1977 ⟨by show _ ≤ 601024; omega, by show _ ≤ 7293034; omega⟩) (fun r9 u H locs hq hp => ?_)
  obtain ⟨rfl, rfl⟩ := hq
  refine lv_istore (lv' := [(5, .int (ρ'.1 0 12)), (0, .ref b), (1, .ref (adr E 19 0)), (2, .ref (adr E 20 0)), (3, .ref (adr E 21 0)), (4, .int (nI i))]) hx hb dL_law_1980 hl (by decide) rfl (fun ls hl => ?_)
  refine lv_aload_n hx hb dL_law_1982 rfl (lv_at hl 3 rfl) ?_
  refine lv_aload_n hx hb dL_law_1983 rfl (lv_at hl 1 rfl) ?_
  refine lv_iload hx hb dL_law_1984 (lv_at hl 5 rfl) ?_
  refine lv_iconst (v := 1) hx hb dL_law_1986 (by decide) ?_
  refine lv_iadd hx hb dL_law_1987 ?_
  refine s_ld (k := 1) rfl (by decide) hi hLs SX hbl hbA cx hp dL_law_1988 ?_
  refine lv_aload_n hx hb dL_law_1989 rfl (lv_at hl 1 rfl) ?_
  refine lv_iload hx hb dL_law_1990 (lv_at hl 5 rfl) ?_
  refine lv_iconst (v := 2) hx hb dL_law_1992 (by decide) ?_
  refine lv_iadd hx hb dL_law_1993 ?_
  refine s_ld (k := 2) rfl (by decide) hi hLs SX hbl hbA cx hp dL_law_1994 ?_
  refine x_i hp (y_V (As := [.int (xs (i + 1)), .int (xs (i + 2))]) (rest := []) cx hp hl (c_X13_balanceAfter l (Nat.le_trans (by decide) hN) hT e20 e2) (cw_L_267 cx rfl rfl ⟨by decide, by decide⟩) (rC_X13 (Nat.le_trans (by decide) hN) cx hp) rfl rfl (Nat.le_of_ble_eq_true rfl) dL_law_1995 ⟨by show _ ≤ 601024; omega, by show _ ≤ 7293034; omega⟩) (fun r9 u H locs hq hp => ?_)
  obtain ⟨rfl, hu, hn⟩ := hq
  obtain rfl := us_x hu hn
  refine lv_istore (lv' := [(6, .int r), (5, .int (ρ'.1 0 12)), (0, .ref b), (1, .ref (adr E 19 0)), (2, .ref (adr E 20 0)), (3, .ref (adr E 21 0)), (4, .int (nI i))]) hx hb dL_law_1998 hl (by decide) rfl (fun ls hl => ?_)
  refine lv_aload_n hx hb dL_law_2000 rfl (lv_at hl 4 rfl) ?_
  refine x_i hp (y_V (As := []) (rest := []) cx hp hl (c_X13_thrown l (Nat.le_trans (by decide) hN) hT (us_s _ _ _) rfl) (cw_L_136 cx rfl rfl ⟨by decide, by decide⟩) (rC_X13 (Nat.le_trans (by decide) hN) cx hp) rfl rfl (Nat.le_of_ble_eq_true rfl) dL_law_2001 ⟨by show _ ≤ 601024; omega, by show _ ≤ 7293034; omega⟩) (fun r9 u H locs hq hp => ?_)
  obtain ⟨rfl, rfl⟩ := hq
  refine lv_iload hx hb dL_law_2004 (lv_at hl 1 rfl) ?_
  refine lv_icmp_eq (tgt := 2011) hx hb dL_law_2006 (by decide) (fun _ => ?_) (fun c9 => absurd rfl c9)
  refine lv_iload hx hb dL_law_2011 (lv_at hl 1 rfl) ?_
  refine lv_if_ne (tgt := 2028) hx hb dL_law_2013 (by decide) (fun c9 => ?_) (fun c9 => ?_)
  · skip
    refine lv_goto (tgt := 2958) hx hb dL_law_2028 (by decide) ?_
    refine W.widen (k := cells + 3) (n := slots + 18) (by omega) (by omega) ?_
    exact K _ H locs ls (hr9.mono (by omega)) hp (lv_sub hl [2, 3, 4, 5, 6] rfl)
  · skip
    refine lv_aload_n hx hb dL_law_2016 rfl (lv_at hl 5 rfl) ?_
    refine lv_iconst (v := 0) hx hb dL_law_2017 (by decide) ?_
    refine l_out hN cx hp (x := oI r) (by rw [us_n (by decide)]; exact ho (c9.trans nI_0.symm)) dL_law_2018 ?_
    refine lv_iload hx hb dL_law_2019 (lv_at hl 0 rfl) ?_
    refine lv_i2l hx hb dL_law_2021 rfl ?_
    refine W.lcmp hx hb dL_law_2022 ?_
    refine lv_if_eq (tgt := 2028) hx hb dL_law_2023 (by decide) (fun _ => ?_) (fun c8 => absurd (lgc_rf _) c8)
    refine lv_goto (tgt := 2958) hx hb dL_law_2028 (by decide) ?_
    refine W.widen (k := cells + 3) (n := slots + 18) (by omega) (by omega) ?_
    exact K _ H locs ls (hr9.mono (by omega)) hp (lv_sub hl [2, 3, 4, 5, 6] rfl)
set_option maxRecDepth 100000 in
set_option maxHeartbeats 4000000 in
theorem k_38 {p : Program} {l : Launch} {e : Env} {s : State} {m : MethodId} {below : List Frame} {meth : Method} {c : Code} {E : Ev} {b Ls : Nat} {xs : Nat → Int32} (hlf : l.stackTraces = false) (hN : 147 ≤ eN E) (hT : St E) (hC : NC E) (cx : Cx E p s m meth c #[Value.ref b] RL cL_law 9 (some .boolean)) (SX : va_X b Ls xs s s.heap) (hbl : b < s.heap.size) (hbA : ¬ eA E b) (hLs : Ls ≤ 3072) {Q : State → Prop} {i B : Nat} (hi : i + 6 ≤ Ls) (hB9 : 9999 ≤ B) (hB : B + 300000 < 2 ^ 31) {σ : SM} (hr : Rel B σ) {cells slots : Nat} (hc : cells + 3 ≤ 601024 ∧ slots + 18 ≤ 7293034) {H : Heap} {locs : List Loc} (hp : Hp E σ s H locs) {ls : Array Slot} (hl : lv_has ls 9 (LL b E i))
    (K : ∀ (τ : SM) (H : Heap) (locs : List Loc) (ls : Array Slot), Rel (B + 196020) τ → Hp E τ s H locs → lv_has ls 9 (LL b E i) → W p l e room_1 s m #[Value.ref b] below meth c H locs (cells + 3) (slots + 18) Q (F0 m 2958 ls [])) : W p l e room_1 s m #[Value.ref b] below meth c H locs cells slots Q (F0 m 2031 ls []) := by
  have hx := cx.1.1
  have hb := cx.1.2.1
  obtain ⟨r, ρ', e1, e2, hr9⟩ := P_rentPaid hr 
  refine lv_aload_n hx hb dL_law_2031 rfl (lv_at hl 1 rfl) ?_
  refine x_i hp (y_V (As := []) (rest := []) cx hp hl (c_X12_rentPaid l (Nat.le_trans (by decide) hN) hT e1) (cw_L_268 cx rfl rfl ⟨by decide, by decide⟩) (rC_X12 (Nat.le_trans (by decide) hN) cx hp) rfl rfl (Nat.le_of_ble_eq_true rfl) dL_law_2032 ⟨by show _ ≤ 601024; omega, by show _ ≤ 7293034; omega⟩) (fun r9 u H locs hq hp => ?_)
  obtain ⟨rfl, rfl⟩ := hq
  refine lv_aload_n hx hb dL_law_2035 rfl (lv_at hl 2 rfl) ?_
  refine x_i hp (y_V (As := []) (rest := [.int r]) cx hp hl (c_X13_rentPaid l (Nat.le_trans (by decide) hN) hT rfl e2) (cw_L_271 cx rfl rfl ⟨by decide, by decide⟩) (rC_X13 (Nat.le_trans (by decide) hN) cx hp) rfl rfl (Nat.le_of_ble_eq_true rfl) dL_law_2036 ⟨by show _ ≤ 601024; omega, by show _ ≤ 7293034; omega⟩) (fun r9 u H locs hq hp => ?_)
  obtain ⟨rfl, hu, hn⟩ := hq
  obtain rfl := us_x hu hn
  refine lv_icmp_eq (tgt := 2958) hx hb dL_law_2039 (by decide) (fun _ => ?_) (fun c9 => absurd rfl c9)
  refine W.widen (k := cells + 3) (n := slots + 18) (by omega) (by omega) ?_
  exact K _ H locs ls (hr9.mono (by omega)) hp hl
set_option maxRecDepth 100000 in
set_option maxHeartbeats 4000000 in
theorem k_39 {p : Program} {l : Launch} {e : Env} {s : State} {m : MethodId} {below : List Frame} {meth : Method} {c : Code} {E : Ev} {b Ls : Nat} {xs : Nat → Int32} (hlf : l.stackTraces = false) (hN : 147 ≤ eN E) (hT : St E) (hC : NC E) (cx : Cx E p s m meth c #[Value.ref b] RL cL_law 9 (some .boolean)) (SX : va_X b Ls xs s s.heap) (hbl : b < s.heap.size) (hbA : ¬ eA E b) (hLs : Ls ≤ 3072) {Q : State → Prop} {i B : Nat} (hi : i + 6 ≤ Ls) (hB9 : 9999 ≤ B) (hB : B + 300000 < 2 ^ 31) {σ : SM} (hr : Rel B σ) {cells slots : Nat} (hc : cells + 3 ≤ 601024 ∧ slots + 18 ≤ 7293034) {H : Heap} {locs : List Loc} (hp : Hp E σ s H locs) {ls : Array Slot} (hl : lv_has ls 9 (LL b E i))
    (K : ∀ (τ : SM) (H : Heap) (locs : List Loc) (ls : Array Slot), Rel (B + 196020) τ → Hp E τ s H locs → lv_has ls 9 (LL b E i) → W p l e room_1 s m #[Value.ref b] below meth c H locs (cells + 3) (slots + 18) Q (F0 m 2958 ls [])) : W p l e room_1 s m #[Value.ref b] below meth c H locs cells slots Q (F0 m 2044 ls []) := by
  have hx := cx.1.1
  have hb := cx.1.2.1
  obtain ⟨r, ρ', e1, e2, hr9⟩ := P_evictionCount hr 
  refine lv_aload_n hx hb dL_law_2044 rfl (lv_at hl 1 rfl) ?_
  refine x_i hp (y_V (As := []) (rest := []) cx hp hl (c_X12_evictionCount l (Nat.le_trans (by decide) hN) hT e1) (cw_L_272 cx rfl rfl ⟨by decide, by decide⟩) (rC_X12 (Nat.le_trans (by decide) hN) cx hp) rfl rfl (Nat.le_of_ble_eq_true rfl) dL_law_2045 ⟨by show _ ≤ 601024; omega, by show _ ≤ 7293034; omega⟩) (fun r9 u H locs hq hp => ?_)
  obtain ⟨rfl, rfl⟩ := hq
  refine lv_aload_n hx hb dL_law_2048 rfl (lv_at hl 2 rfl) ?_
  refine x_i hp (y_V (As := []) (rest := [.int r]) cx hp hl (c_X13_evictionCount l (Nat.le_trans (by decide) hN) hT rfl e2) (cw_L_275 cx rfl rfl ⟨by decide, by decide⟩) (rC_X13 (Nat.le_trans (by decide) hN) cx hp) rfl rfl (Nat.le_of_ble_eq_true rfl) dL_law_2049 ⟨by show _ ≤ 601024; omega, by show _ ≤ 7293034; omega⟩) (fun r9 u H locs hq hp => ?_)
  obtain ⟨rfl, hu, hn⟩ := hq
  obtain rfl := us_x hu hn
  refine lv_icmp_eq (tgt := 2958) hx hb dL_law_2052 (by decide) (fun _ => ?_) (fun c9 => absurd rfl c9)
  refine W.widen (k := cells + 3) (n := slots + 18) (by omega) (by omega) ?_
  exact K _ H locs ls (hr9.mono (by omega)) hp hl
set_option maxRecDepth 100000 in
set_option maxHeartbeats 4000000 in
theorem k_40 {p : Program} {l : Launch} {e : Env} {s : State} {m : MethodId} {below : List Frame} {meth : Method} {c : Code} {E : Ev} {b Ls : Nat} {xs : Nat → Int32} (hlf : l.stackTraces = false) (hN : 147 ≤ eN E) (hT : St E) (hC : NC E) (cx : Cx E p s m meth c #[Value.ref b] RL cL_law 9 (some .boolean)) (SX : va_X b Ls xs s s.heap) (hbl : b < s.heap.size) (hbA : ¬ eA E b) (hLs : Ls ≤ 3072) {Q : State → Prop} {i B : Nat} (hi : i + 6 ≤ Ls) (hB9 : 9999 ≤ B) (hB : B + 300000 < 2 ^ 31) {σ : SM} (hr : Rel B σ) {cells slots : Nat} (hc : cells + 3 ≤ 601024 ∧ slots + 18 ≤ 7293034) {H : Heap} {locs : List Loc} (hp : Hp E σ s H locs) {ls : Array Slot} (hl : lv_has ls 9 (LL b E i))
    (K : ∀ (τ : SM) (H : Heap) (locs : List Loc) (ls : Array Slot), Rel (B + 196020) τ → Hp E τ s H locs → lv_has ls 9 (LL b E i) → W p l e room_1 s m #[Value.ref b] below meth c H locs (cells + 3) (slots + 18) Q (F0 m 2958 ls [])) : W p l e room_1 s m #[Value.ref b] below meth c H locs cells slots Q (F0 m 2057 ls []) := by
  have hx := cx.1.1
  have hb := cx.1.2.1
  obtain ⟨r, ρ', e1, e2, hr9⟩ := P_swapCount hr 
  refine lv_aload_n hx hb dL_law_2057 rfl (lv_at hl 1 rfl) ?_
  refine x_i hp (y_V (As := []) (rest := []) cx hp hl (c_X12_swapCount l (Nat.le_trans (by decide) hN) hT e1) (cw_L_276 cx rfl rfl ⟨by decide, by decide⟩) (rC_X12 (Nat.le_trans (by decide) hN) cx hp) rfl rfl (Nat.le_of_ble_eq_true rfl) dL_law_2058 ⟨by show _ ≤ 601024; omega, by show _ ≤ 7293034; omega⟩) (fun r9 u H locs hq hp => ?_)
  obtain ⟨rfl, rfl⟩ := hq
  refine lv_aload_n hx hb dL_law_2061 rfl (lv_at hl 2 rfl) ?_
  refine x_i hp (y_V (As := []) (rest := [.int r]) cx hp hl (c_X13_swapCount l (Nat.le_trans (by decide) hN) hT rfl e2) (cw_L_279 cx rfl rfl ⟨by decide, by decide⟩) (rC_X13 (Nat.le_trans (by decide) hN) cx hp) rfl rfl (Nat.le_of_ble_eq_true rfl) dL_law_2062 ⟨by show _ ≤ 601024; omega, by show _ ≤ 7293034; omega⟩) (fun r9 u H locs hq hp => ?_)
  obtain ⟨rfl, hu, hn⟩ := hq
  obtain rfl := us_x hu hn
  refine lv_icmp_eq (tgt := 2958) hx hb dL_law_2065 (by decide) (fun _ => ?_) (fun c9 => absurd rfl c9)
  refine W.widen (k := cells + 3) (n := slots + 18) (by omega) (by omega) ?_
  exact K _ H locs ls (hr9.mono (by omega)) hp hl
set_option maxRecDepth 100000 in
set_option maxHeartbeats 4000000 in
theorem k_41 {p : Program} {l : Launch} {e : Env} {s : State} {m : MethodId} {below : List Frame} {meth : Method} {c : Code} {E : Ev} {b Ls : Nat} {xs : Nat → Int32} (hlf : l.stackTraces = false) (hN : 147 ≤ eN E) (hT : St E) (hC : NC E) (cx : Cx E p s m meth c #[Value.ref b] RL cL_law 9 (some .boolean)) (SX : va_X b Ls xs s s.heap) (hbl : b < s.heap.size) (hbA : ¬ eA E b) (hLs : Ls ≤ 3072) {Q : State → Prop} {i B : Nat} (hi : i + 6 ≤ Ls) (hB9 : 9999 ≤ B) (hB : B + 300000 < 2 ^ 31) {σ : SM} (hr : Rel B σ) {cells slots : Nat} (hc : cells + 3 ≤ 601024 ∧ slots + 18 ≤ 7293034) {H : Heap} {locs : List Loc} (hp : Hp E σ s H locs) {ls : Array Slot} (hl : lv_has ls 9 (LL b E i))
    (K : ∀ (τ : SM) (H : Heap) (locs : List Loc) (ls : Array Slot), Rel (B + 196020) τ → Hp E τ s H locs → lv_has ls 9 (LL b E i) → W p l e room_1 s m #[Value.ref b] below meth c H locs (cells + 3) (slots + 18) Q (F0 m 2958 ls [])) : W p l e room_1 s m #[Value.ref b] below meth c H locs cells slots Q (F0 m 2070 ls []) := by
  have hx := cx.1.1
  have hb := cx.1.2.1
  obtain ⟨r, ρ', e1, e2, hr9⟩ := P_relocationCount hr 
  refine lv_aload_n hx hb dL_law_2070 rfl (lv_at hl 1 rfl) ?_
  refine x_i hp (y_V (As := []) (rest := []) cx hp hl (c_X12_relocationCount l (Nat.le_trans (by decide) hN) hT e1) (cw_L_280 cx rfl rfl ⟨by decide, by decide⟩) (rC_X12 (Nat.le_trans (by decide) hN) cx hp) rfl rfl (Nat.le_of_ble_eq_true rfl) dL_law_2071 ⟨by show _ ≤ 601024; omega, by show _ ≤ 7293034; omega⟩) (fun r9 u H locs hq hp => ?_)
  obtain ⟨rfl, rfl⟩ := hq
  refine lv_aload_n hx hb dL_law_2074 rfl (lv_at hl 2 rfl) ?_
  refine x_i hp (y_V (As := []) (rest := [.int r]) cx hp hl (c_X13_relocationCount l (Nat.le_trans (by decide) hN) hT rfl e2) (cw_L_283 cx rfl rfl ⟨by decide, by decide⟩) (rC_X13 (Nat.le_trans (by decide) hN) cx hp) rfl rfl (Nat.le_of_ble_eq_true rfl) dL_law_2075 ⟨by show _ ≤ 601024; omega, by show _ ≤ 7293034; omega⟩) (fun r9 u H locs hq hp => ?_)
  obtain ⟨rfl, hu, hn⟩ := hq
  obtain rfl := us_x hu hn
  refine lv_icmp_eq (tgt := 2958) hx hb dL_law_2078 (by decide) (fun _ => ?_) (fun c9 => absurd rfl c9)
  refine W.widen (k := cells + 3) (n := slots + 18) (by omega) (by omega) ?_
  exact K _ H locs ls (hr9.mono (by omega)) hp hl

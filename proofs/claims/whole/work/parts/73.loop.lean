theorem cases64 {P : Nat → Prop} (h0 : P 0) (h1 : P 1) (h2 : P 2) (h3 : P 3) (h4 : P 4) (h5 : P 5) (h6 : P 6) (h7 : P 7) (h8 : P 8) (h9 : P 9) (h10 : P 10) (h11 : P 11) (h12 : P 12) (h13 : P 13) (h14 : P 14) (h15 : P 15) (h16 : P 16) (h17 : P 17) (h18 : P 18) (h19 : P 19) (h20 : P 20) (h21 : P 21) (h22 : P 22) (h23 : P 23) (h24 : P 24) (h25 : P 25) (h26 : P 26) (h27 : P 27) (h28 : P 28) (h29 : P 29) (h30 : P 30) (h31 : P 31) (h32 : P 32) (h33 : P 33) (h34 : P 34) (h35 : P 35) (h36 : P 36) (h37 : P 37) (h38 : P 38) (h39 : P 39) (h40 : P 40) (h41 : P 41) (h42 : P 42) (h43 : P 43) (h44 : P 44) (h45 : P 45) (h46 : P 46) (h47 : P 47) (h48 : P 48) (h49 : P 49) (h50 : P 50) (h51 : P 51) (h52 : P 52) (h53 : P 53) (h54 : P 54) (h55 : P 55) (h56 : P 56) (h57 : P 57) (h58 : P 58) (h59 : P 59) (h60 : P 60) (h61 : P 61) (h62 : P 62) (h63 : P 63) {j : Nat} (hj : j < 64) : P j := by
  match j, hj with
  | 0, _ => exact h0
  | 1, _ => exact h1
  | 2, _ => exact h2
  | 3, _ => exact h3
  | 4, _ => exact h4
  | 5, _ => exact h5
  | 6, _ => exact h6
  | 7, _ => exact h7
  | 8, _ => exact h8
  | 9, _ => exact h9
  | 10, _ => exact h10
  | 11, _ => exact h11
  | 12, _ => exact h12
  | 13, _ => exact h13
  | 14, _ => exact h14
  | 15, _ => exact h15
  | 16, _ => exact h16
  | 17, _ => exact h17
  | 18, _ => exact h18
  | 19, _ => exact h19
  | 20, _ => exact h20
  | 21, _ => exact h21
  | 22, _ => exact h22
  | 23, _ => exact h23
  | 24, _ => exact h24
  | 25, _ => exact h25
  | 26, _ => exact h26
  | 27, _ => exact h27
  | 28, _ => exact h28
  | 29, _ => exact h29
  | 30, _ => exact h30
  | 31, _ => exact h31
  | 32, _ => exact h32
  | 33, _ => exact h33
  | 34, _ => exact h34
  | 35, _ => exact h35
  | 36, _ => exact h36
  | 37, _ => exact h37
  | 38, _ => exact h38
  | 39, _ => exact h39
  | 40, _ => exact h40
  | 41, _ => exact h41
  | 42, _ => exact h42
  | 43, _ => exact h43
  | 44, _ => exact h44
  | 45, _ => exact h45
  | 46, _ => exact h46
  | 47, _ => exact h47
  | 48, _ => exact h48
  | 49, _ => exact h49
  | 50, _ => exact h50
  | 51, _ => exact h51
  | 52, _ => exact h52
  | 53, _ => exact h53
  | 54, _ => exact h54
  | 55, _ => exact h55
  | 56, _ => exact h56
  | 57, _ => exact h57
  | 58, _ => exact h58
  | 59, _ => exact h59
  | 60, _ => exact h60
  | 61, _ => exact h61
  | 62, _ => exact h62
  | 63, _ => exact h63
  | n + 64, h => exact absurd h (by omega)
set_option maxRecDepth 100000 in
set_option maxHeartbeats 4000000 in
theorem law_switch {p : Program} {l : Launch} {e : Env} {s : State} {m : MethodId} {below : List Frame} {meth : Method} {c : Code} {E : Ev} {b Ls : Nat} {xs : Nat → Int32} (hlf : l.stackTraces = false) (hN : 147 ≤ eN E) (hT : St E) (hC : NC E) (cx : Cx E p s m meth c #[Value.ref b] RL cL_law 9 (some .boolean)) (SX : va_X b Ls xs s s.heap) (hbl : b < s.heap.size) (hbA : ¬ eA E b) (hLs : Ls ≤ 3072) {Q : State → Prop} {i B : Nat} (hi : i + 6 ≤ Ls) (hB9 : 9999 ≤ B) (hB : B + 300000 < 2 ^ 31) {σ : SM} (hr : Rel B σ) {cells slots : Nat} (hc : cells + 3 ≤ 601024 ∧ slots + 18 ≤ 7293034) {H : Heap} {locs : List Loc} (hp : Hp E σ s H locs) {ls : Array Slot} (hl : lv_has ls 9 (LL b E i))
    (K : ∀ (τ : SM) (H : Heap) (locs : List Loc) (ls : Array Slot), Rel (B + 196020) τ → Hp E τ s H locs → lv_has ls 9 (LL b E i) → W p l e room_1 s m #[Value.ref b] below meth c H locs (cells + 3) (slots + 18) Q (F0 m 2958 ls [])) {j : Nat} (hj : j < 64) : W p l e room_1 s m #[Value.ref b] below meth c H locs cells slots Q (F0 m 40 ls [.int (nI j)]) := by
  have hx := cx.1.1
  have hb := cx.1.2.1
  refine cases64 (P := fun j => W p l e room_1 s m #[Value.ref b] below meth c H locs cells slots Q (F0 m 40 ls [.int (nI j)])) ?_ ?_ ?_ ?_ ?_ ?_ ?_ ?_ ?_ ?_ ?_ ?_ ?_ ?_ ?_ ?_ ?_ ?_ ?_ ?_ ?_ ?_ ?_ ?_ ?_ ?_ ?_ ?_ ?_ ?_ ?_ ?_ ?_ ?_ ?_ ?_ ?_ ?_ ?_ ?_ ?_ ?_ ?_ ?_ ?_ ?_ ?_ ?_ ?_ ?_ ?_ ?_ ?_ ?_ ?_ ?_ ?_ ?_ ?_ ?_ ?_ ?_ ?_ ?_ hj
  · exact lv_tableIn (off := 264) (tgt := 304) hx hb dL_law_40 (by decide) (by decide) (by decide) (by decide) (k_0 hlf hN hT hC cx SX hbl hbA hLs hi hB9 hB hr hc hp hl K)
  · exact lv_tableIn (off := 368) (tgt := 408) hx hb dL_law_40 (by decide) (by decide) (by decide) (by decide) (k_1 hlf hN hT hC cx SX hbl hbA hLs hi hB9 hB hr hc hp hl K)
  · exact lv_tableIn (off := 424) (tgt := 464) hx hb dL_law_40 (by decide) (by decide) (by decide) (by decide) (k_2 hlf hN hT hC cx SX hbl hbA hLs hi hB9 hB hr hc hp hl K)
  · exact lv_tableIn (off := 437) (tgt := 477) hx hb dL_law_40 (by decide) (by decide) (by decide) (by decide) (k_3 hlf hN hT hC cx SX hbl hbA hLs hi hB9 hB hr hc hp hl K)
  · exact lv_tableIn (off := 450) (tgt := 490) hx hb dL_law_40 (by decide) (by decide) (by decide) (by decide) (k_4 hlf hN hT hC cx SX hbl hbA hLs hi hB9 hB hr hc hp hl K)
  · exact lv_tableIn (off := 463) (tgt := 503) hx hb dL_law_40 (by decide) (by decide) (by decide) (by decide) (k_5 hlf hN hT hC cx SX hbl hbA hLs hi hB9 hB hr hc hp hl K)
  · exact lv_tableIn (off := 476) (tgt := 516) hx hb dL_law_40 (by decide) (by decide) (by decide) (by decide) (k_6 hlf hN hT hC cx SX hbl hbA hLs hi hB9 hB hr hc hp hl K)
  · exact lv_tableIn (off := 489) (tgt := 529) hx hb dL_law_40 (by decide) (by decide) (by decide) (by decide) (k_7 hlf hN hT hC cx SX hbl hbA hLs hi hB9 hB hr hc hp hl K)
  · exact lv_tableIn (off := 502) (tgt := 542) hx hb dL_law_40 (by decide) (by decide) (by decide) (by decide) (k_8 hlf hN hT hC cx SX hbl hbA hLs hi hB9 hB hr hc hp hl K)
  · exact lv_tableIn (off := 515) (tgt := 555) hx hb dL_law_40 (by decide) (by decide) (by decide) (by decide) (k_9 hlf hN hT hC cx SX hbl hbA hLs hi hB9 hB hr hc hp hl K)
  · exact lv_tableIn (off := 571) (tgt := 611) hx hb dL_law_40 (by decide) (by decide) (by decide) (by decide) (k_10 hlf hN hT hC cx SX hbl hbA hLs hi hB9 hB hr hc hp hl K)
  · exact lv_tableIn (off := 627) (tgt := 667) hx hb dL_law_40 (by decide) (by decide) (by decide) (by decide) (k_11 hlf hN hT hC cx SX hbl hbA hLs hi hB9 hB hr hc hp hl K)
  · exact lv_tableIn (off := 683) (tgt := 723) hx hb dL_law_40 (by decide) (by decide) (by decide) (by decide) (k_12 hlf hN hT hC cx SX hbl hbA hLs hi hB9 hB hr hc hp hl K)
  · exact lv_tableIn (off := 739) (tgt := 779) hx hb dL_law_40 (by decide) (by decide) (by decide) (by decide) (k_13 hlf hN hT hC cx SX hbl hbA hLs hi hB9 hB hr hc hp hl K)
  · exact lv_tableIn (off := 795) (tgt := 835) hx hb dL_law_40 (by decide) (by decide) (by decide) (by decide) (k_14 hlf hN hT hC cx SX hbl hbA hLs hi hB9 hB hr hc hp hl K)
  · exact lv_tableIn (off := 851) (tgt := 891) hx hb dL_law_40 (by decide) (by decide) (by decide) (by decide) (k_15 hlf hN hT hC cx SX hbl hbA hLs hi hB9 hB hr hc hp hl K)
  · exact lv_tableIn (off := 907) (tgt := 947) hx hb dL_law_40 (by decide) (by decide) (by decide) (by decide) (k_16 hlf hN hT hC cx SX hbl hbA hLs hi hB9 hB hr hc hp hl K)
  · exact lv_tableIn (off := 975) (tgt := 1015) hx hb dL_law_40 (by decide) (by decide) (by decide) (by decide) (k_17 hlf hN hT hC cx SX hbl hbA hLs hi hB9 hB hr hc hp hl K)
  · exact lv_tableIn (off := 1043) (tgt := 1083) hx hb dL_law_40 (by decide) (by decide) (by decide) (by decide) (k_18 hlf hN hT hC cx SX hbl hbA hLs hi hB9 hB hr hc hp hl K)
  · exact lv_tableIn (off := 1130) (tgt := 1170) hx hb dL_law_40 (by decide) (by decide) (by decide) (by decide) (k_19 hlf hN hT hC cx SX hbl hbA hLs hi hB9 hB hr hc hp hl K)
  · exact lv_tableIn (off := 1198) (tgt := 1238) hx hb dL_law_40 (by decide) (by decide) (by decide) (by decide) (k_20 hlf hN hT hC cx SX hbl hbA hLs hi hB9 hB hr hc hp hl K)
  · exact lv_tableIn (off := 1266) (tgt := 1306) hx hb dL_law_40 (by decide) (by decide) (by decide) (by decide) (k_21 hlf hN hT hC cx SX hbl hbA hLs hi hB9 hB hr hc hp hl K)
  · exact lv_tableIn (off := 1279) (tgt := 1319) hx hb dL_law_40 (by decide) (by decide) (by decide) (by decide) (k_22 hlf hN hT hC cx SX hbl hbA hLs hi hB9 hB hr hc hp hl K)
  · exact lv_tableIn (off := 1292) (tgt := 1332) hx hb dL_law_40 (by decide) (by decide) (by decide) (by decide) (k_23 hlf hN hT hC cx SX hbl hbA hLs hi hB9 hB hr hc hp hl K)
  · exact lv_tableIn (off := 1367) (tgt := 1407) hx hb dL_law_40 (by decide) (by decide) (by decide) (by decide) (k_24 hlf hN hT hC cx SX hbl hbA hLs hi hB9 hB hr hc hp hl K)
  · exact lv_tableIn (off := 1442) (tgt := 1482) hx hb dL_law_40 (by decide) (by decide) (by decide) (by decide) (k_25 hlf hN hT hC cx SX hbl hbA hLs hi hB9 hB hr hc hp hl K)
  · exact lv_tableIn (off := 1455) (tgt := 1495) hx hb dL_law_40 (by decide) (by decide) (by decide) (by decide) (k_26 hlf hN hT hC cx SX hbl hbA hLs hi hB9 hB hr hc hp hl K)
  · exact lv_tableIn (off := 1511) (tgt := 1551) hx hb dL_law_40 (by decide) (by decide) (by decide) (by decide) (k_27 hlf hN hT hC cx SX hbl hbA hLs hi hB9 hB hr hc hp hl K)
  · exact lv_tableIn (off := 1567) (tgt := 1607) hx hb dL_law_40 (by decide) (by decide) (by decide) (by decide) (k_28 hlf hN hT hC cx SX hbl hbA hLs hi hB9 hB hr hc hp hl K)
  · exact lv_tableIn (off := 1580) (tgt := 1620) hx hb dL_law_40 (by decide) (by decide) (by decide) (by decide) (k_29 hlf hN hT hC cx SX hbl hbA hLs hi hB9 hB hr hc hp hl K)
  · exact lv_tableIn (off := 1648) (tgt := 1688) hx hb dL_law_40 (by decide) (by decide) (by decide) (by decide) (k_30 hlf hN hT hC cx SX hbl hbA hLs hi hB9 hB hr hc hp hl K)
  · exact lv_tableIn (off := 1704) (tgt := 1744) hx hb dL_law_40 (by decide) (by decide) (by decide) (by decide) (k_31 hlf hN hT hC cx SX hbl hbA hLs hi hB9 hB hr hc hp hl K)
  · exact lv_tableIn (off := 1760) (tgt := 1800) hx hb dL_law_40 (by decide) (by decide) (by decide) (by decide) (k_32 hlf hN hT hC cx SX hbl hbA hLs hi hB9 hB hr hc hp hl K)
  · exact lv_tableIn (off := 1828) (tgt := 1868) hx hb dL_law_40 (by decide) (by decide) (by decide) (by decide) (k_33 hlf hN hT hC cx SX hbl hbA hLs hi hB9 hB hr hc hp hl K)
  · exact lv_tableIn (off := 1841) (tgt := 1881) hx hb dL_law_40 (by decide) (by decide) (by decide) (by decide) (k_34 hlf hN hT hC cx SX hbl hbA hLs hi hB9 hB hr hc hp hl K)
  · exact lv_tableIn (off := 1854) (tgt := 1894) hx hb dL_law_40 (by decide) (by decide) (by decide) (by decide) (k_35 hlf hN hT hC cx SX hbl hbA hLs hi hB9 hB hr hc hp hl K)
  · exact lv_tableIn (off := 1867) (tgt := 1907) hx hb dL_law_40 (by decide) (by decide) (by decide) (by decide) (k_36 hlf hN hT hC cx SX hbl hbA hLs hi hB9 hB hr hc hp hl K)
  · exact lv_tableIn (off := 1923) (tgt := 1963) hx hb dL_law_40 (by decide) (by decide) (by decide) (by decide) (k_37 hlf hN hT hC cx SX hbl hbA hLs hi hB9 hB hr hc hp hl K)
  · exact lv_tableIn (off := 1991) (tgt := 2031) hx hb dL_law_40 (by decide) (by decide) (by decide) (by decide) (k_38 hlf hN hT hC cx SX hbl hbA hLs hi hB9 hB hr hc hp hl K)
  · exact lv_tableIn (off := 2004) (tgt := 2044) hx hb dL_law_40 (by decide) (by decide) (by decide) (by decide) (k_39 hlf hN hT hC cx SX hbl hbA hLs hi hB9 hB hr hc hp hl K)
  · exact lv_tableIn (off := 2017) (tgt := 2057) hx hb dL_law_40 (by decide) (by decide) (by decide) (by decide) (k_40 hlf hN hT hC cx SX hbl hbA hLs hi hB9 hB hr hc hp hl K)
  · exact lv_tableIn (off := 2030) (tgt := 2070) hx hb dL_law_40 (by decide) (by decide) (by decide) (by decide) (k_41 hlf hN hT hC cx SX hbl hbA hLs hi hB9 hB hr hc hp hl K)
  · exact lv_tableIn (off := 2043) (tgt := 2083) hx hb dL_law_40 (by decide) (by decide) (by decide) (by decide) (k_42 hlf hN hT hC cx SX hbl hbA hLs hi hB9 hB hr hc hp hl K)
  · exact lv_tableIn (off := 2084) (tgt := 2124) hx hb dL_law_40 (by decide) (by decide) (by decide) (by decide) (k_43 hlf hN hT hC cx SX hbl hbA hLs hi hB9 hB hr hc hp hl K)
  · exact lv_tableIn (off := 2127) (tgt := 2167) hx hb dL_law_40 (by decide) (by decide) (by decide) (by decide) (k_44 hlf hN hT hC cx SX hbl hbA hLs hi hB9 hB hr hc hp hl K)
  · exact lv_tableIn (off := 2140) (tgt := 2180) hx hb dL_law_40 (by decide) (by decide) (by decide) (by decide) (k_45 hlf hN hT hC cx SX hbl hbA hLs hi hB9 hB hr hc hp hl K)
  · exact lv_tableIn (off := 2208) (tgt := 2248) hx hb dL_law_40 (by decide) (by decide) (by decide) (by decide) (k_46 hlf hN hT hC cx SX hbl hbA hLs hi hB9 hB hr hc hp hl K)
  · exact lv_tableIn (off := 2264) (tgt := 2304) hx hb dL_law_40 (by decide) (by decide) (by decide) (by decide) (k_47 hlf hN hT hC cx SX hbl hbA hLs hi hB9 hB hr hc hp hl K)
  · exact lv_tableIn (off := 2332) (tgt := 2372) hx hb dL_law_40 (by decide) (by decide) (by decide) (by decide) (k_48 hlf hN hT hC cx SX hbl hbA hLs hi hB9 hB hr hc hp hl K)
  · exact lv_tableIn (off := 2345) (tgt := 2385) hx hb dL_law_40 (by decide) (by decide) (by decide) (by decide) (k_49 hlf hN hT hC cx SX hbl hbA hLs hi hB9 hB hr hc hp hl K)
  · exact lv_tableIn (off := 2413) (tgt := 2453) hx hb dL_law_40 (by decide) (by decide) (by decide) (by decide) (k_50 hlf hN hT hC cx SX hbl hbA hLs hi hB9 hB hr hc hp hl K)
  · exact lv_tableIn (off := 2481) (tgt := 2521) hx hb dL_law_40 (by decide) (by decide) (by decide) (by decide) (k_51 hlf hN hT hC cx SX hbl hbA hLs hi hB9 hB hr hc hp hl K)
  · exact lv_tableIn (off := 2549) (tgt := 2589) hx hb dL_law_40 (by decide) (by decide) (by decide) (by decide) (k_52 hlf hN hT hC cx SX hbl hbA hLs hi hB9 hB hr hc hp hl K)
  · exact lv_tableIn (off := 2617) (tgt := 2657) hx hb dL_law_40 (by decide) (by decide) (by decide) (by decide) (k_53 hlf hN hT hC cx SX hbl hbA hLs hi hB9 hB hr hc hp hl K)
  · exact lv_tableIn (off := 2685) (tgt := 2725) hx hb dL_law_40 (by decide) (by decide) (by decide) (by decide) (k_54 hlf hN hT hC cx SX hbl hbA hLs hi hB9 hB hr hc hp hl K)
  · exact lv_tableIn (off := 2741) (tgt := 2781) hx hb dL_law_40 (by decide) (by decide) (by decide) (by decide) (k_55 hlf hN hT hC cx SX hbl hbA hLs hi hB9 hB hr hc hp hl K)
  · exact lv_tableIn (off := 2754) (tgt := 2794) hx hb dL_law_40 (by decide) (by decide) (by decide) (by decide) (k_56 hlf hN hT hC cx SX hbl hbA hLs hi hB9 hB hr hc hp hl K)
  · exact lv_tableIn (off := 2810) (tgt := 2850) hx hb dL_law_40 (by decide) (by decide) (by decide) (by decide) (k_57 hlf hN hT hC cx SX hbl hbA hLs hi hB9 hB hr hc hp hl K)
  · exact lv_tableIn (off := 2835) (tgt := 2875) hx hb dL_law_40 (by decide) (by decide) (by decide) (by decide) (k_58 hlf hN hT hC cx SX hbl hbA hLs hi hB9 hB hr hc hp hl K)
  · exact lv_tableIn (off := 2848) (tgt := 2888) hx hb dL_law_40 (by decide) (by decide) (by decide) (by decide) (k_59 hlf hN hT hC cx SX hbl hbA hLs hi hB9 hB hr hc hp hl K)
  · exact lv_tableIn (off := 2861) (tgt := 2901) hx hb dL_law_40 (by decide) (by decide) (by decide) (by decide) (k_60 hlf hN hT hC cx SX hbl hbA hLs hi hB9 hB hr hc hp hl K)
  · exact lv_tableIn (off := 2874) (tgt := 2914) hx hb dL_law_40 (by decide) (by decide) (by decide) (by decide) (k_61 hlf hN hT hC cx SX hbl hbA hLs hi hB9 hB hr hc hp hl K)
  · exact lv_tableOut (tgt := 2958) hx hb dL_law_40 (Or.inr (by decide)) (by decide) (W.widen (k := cells + 3) (n := slots + 18) (by omega) (by omega) (K σ H locs ls (hr.mono (by omega)) hp hl))
  · exact lv_tableOut (tgt := 2958) hx hb dL_law_40 (Or.inr (by decide)) (by decide) (W.widen (k := cells + 3) (n := slots + 18) (by omega) (by omega) (K σ H locs ls (hr.mono (by omega)) hp hl))
set_option maxRecDepth 100000 in
set_option maxHeartbeats 4000000 in
theorem law_loop {p : Program} {l : Launch} {e : Env} {s : State} {m : MethodId} {below : List Frame} {meth : Method} {c : Code} {E : Ev} {b Ls : Nat} {xs : Nat → Int32} (hlf : l.stackTraces = false) (hN : 147 ≤ eN E) (hT : St E) (hC : NC E) (cx : Cx E p s m meth c #[Value.ref b] RL cL_law 9 (some .boolean)) (SX : va_X b Ls xs s s.heap) (hbl : b < s.heap.size) (hbA : ¬ eA E b) (hLs : Ls ≤ 3072) {Q : State → Prop} (KE : ∀ (H : Heap) (locs : List Loc) (ls : Array Slot) (cells slots : Nat), cells ≤ 601024 → slots ≤ 7293034 → va_S (eA E) s.heap H locs → W p l e room_1 s m #[Value.ref b] below meth c H locs cells slots Q (F0 m 2964 ls [])) :
    ∀ (n i B cells slots : Nat) (σ : SM) (H : Heap) (locs : List Loc) (ls : Array Slot), i ≤ Ls → Ls + 1 ≤ i + n → 9999 ≤ B → B ≤ 9999 + 196020 * i → cells ≤ 1000 + i → slots ≤ 100000 + 6 * i → Rel B σ → Hp E σ s H locs → lv_has ls 9 (LL b E i) → W p l e room_1 s m #[Value.ref b] below meth c H locs cells slots Q (F0 m 23 ls []) := by
  have hx := cx.1.1
  have hb := cx.1.2.1
  intro n
  induction n with
  | zero =>
    intro i B cells slots σ H locs ls h1 h2
    exact absurd h2 (by omega)
  | succ n ih =>
    intro i B cells slots σ H locs ls h1 h2 h3 h4 h5 h6 hr hp hl
    refine lv_iload hx hb dL_law_23 (lv_at hl 4 rfl) ?_
    refine lv_aload_n hx hb dL_law_25 rfl (lv_at hl 0 rfl) ?_
    refine va_slen hx hb SX hbl hbA hp.2 dL_law_26 ?_
    refine lv_bipush (v := 6) hx hb dL_law_27 (by decide) ?_
    refine lv_isub hx hb dL_law_29 ?_
    refine lv_icmp_gt (tgt := 2964) hx hb dL_law_30 (by decide) (fun c9 => ?_) (fun c9 => ?_)
    · exact KE H locs ls cells slots (by omega) (by omega) hp.2
    · have hi : i + 6 ≤ Ls := by
        rcases Nat.lt_or_ge Ls (i + 6) with q | q
        · refine absurd (show nI Ls - 6 < nI i from Int32.lt_iff_toInt_lt.mpr ?_) c9
          have e1 := pk_sub_toInt (a := Ls) (b := 6) (by omega) (by omega)
          rw [show (6 : Int32) = nI 6 from rfl, e1, nI_toInt (by omega)]
          omega
        · exact q
      refine lv_aload_n hx hb dL_law_33 rfl (lv_at hl 0 rfl) ?_
      refine lv_iload hx hb dL_law_34 (lv_at hl 4 rfl) ?_
      refine s_ld0 hi hLs SX hbl hbA cx hp dL_law_36 ?_
      refine lv_bipush (v := 63) hx hb dL_law_37 (by decide) ?_
      refine lv_iand hx hb dL_law_39 ?_
      obtain ⟨j, hj, ej⟩ := pk_andE (xs i) (m := 63) 6 (by decide)
      rw [ej]
      refine law_switch hlf hN hT hC cx SX hbl hbA hLs hi h3 (by omega) hr ⟨by omega, by omega⟩ hp hl (fun τ H locs ls hr hp hl => ?_) hj
      refine lv_iinc (v := nI (i + 6)) (lv' := [(4, .int (nI (i + 6))), (0, .ref b), (1, .ref (adr E 19 0)), (2, .ref (adr E 20 0)), (3, .ref (adr E 21 0))]) hx hb dL_law_2958 hl (k := 4) rfl (by rw [← nI_add]; rfl) (by decide) rfl (fun ls hl => ?_)
      refine lv_goto (tgt := 23) hx hb dL_law_2961 (by decide) ?_
      exact ih (i + 6) (B + 196020) (cells + 3) (slots + 18) τ H locs ls (by omega) (by omega) (by omega) (by omega) (by omega) (by omega) hr hp (lv_sub hl [1, 2, 3, 4, 0] rfl)

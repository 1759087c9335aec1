set_option maxRecDepth 100000 in
set_option maxHeartbeats 4000000 in
theorem k_42 {p : Program} {l : Launch} {e : Env} {s : State} {m : MethodId} {below : List Frame} {meth : Method} {c : Code} {E : Ev} {b Ls : Nat} {xs : Nat → Int32} (hlf : l.stackTraces = false) (hN : 147 ≤ eN E) (hT : St E) (hC : NC E) (cx : Cx E p s m meth c #[Value.ref b] RL cL_law 9 (some .boolean)) (SX : va_X b Ls xs s s.heap) (hbl : b < s.heap.size) (hbA : ¬ eA E b) (hLs : Ls ≤ 3072) {Q : State → Prop} {i B : Nat} (hi : i + 6 ≤ Ls) (hB9 : 9999 ≤ B) (hB : B + 300000 < 2 ^ 31) {σ : SM} (hr : Rel B σ) {cells slots : Nat} (hc : cells + 3 ≤ 601024 ∧ slots + 18 ≤ 7293034) {H : Heap} {locs : List Loc} (hp : Hp E σ s H locs) {ls : Array Slot} (hl : lv_has ls 9 (LL b E i))
    (K : ∀ (τ : SM) (H : Heap) (locs : List Loc) (ls : Array Slot), Rel (B + 196020) τ → Hp E τ s H locs → lv_has ls 9 (LL b E i) → W p l e room_1 s m #[Value.ref b] below meth c H locs (cells + 3) (slots + 18) Q (F0 m 2958 ls [])) : W p l e room_1 s m #[Value.ref b] below meth c H locs cells slots Q (F0 m 2083 ls []) := by
  have hx := cx.1.1
  have hb := cx.1.2.1
  obtain ⟨r, ρ', e1, e2, hr9⟩ := P_meanRank hr 
  refine lv_aload_n hx hb dL_law_2083 rfl (lv_at hl 1 rfl) ?_
  refine x_d hp (y_V (As := []) (rest := []) cx hp hl (c_X12_meanRank l (Nat.le_trans (by decide) hN) hT e1) (cw_L_284 cx rfl rfl ⟨by decide, by decide⟩) (rC_X12 (Nat.le_trans (by decide) hN) cx hp) rfl rfl (Nat.le_of_ble_eq_true rfl) dL_law_2084 ⟨by show _ ≤ 601024; omega, by show _ ≤ 7293034; omega⟩) (fun r9 u H locs hq hp => ?_)
  obtain ⟨rfl, rfl⟩ := hq
  refine lv_dstore (lv' := [(5, .double r), (0, .ref b), (1, .ref (adr E 19 0)), (2, .ref (adr E 20 0)), (3, .ref (adr E 21 0)), (4, .int (nI i))]) hx hb dL_law_2087 hl (by decide) rfl (fun ls hl => ?_)
  refine lv_aload_n hx hb dL_law_2089 rfl (lv_at hl 3 rfl) ?_
  refine x_d hp (y_V (As := []) (rest := []) cx hp hl (c_X13_meanRank l (Nat.le_trans (by decide) hN) hT rfl e2) (cw_L_288 cx rfl rfl ⟨by decide, by decide⟩) (rC_X13 (Nat.le_trans (by decide) hN) cx hp) rfl rfl (Nat.le_of_ble_eq_true rfl) dL_law_2090 ⟨by show _ ≤ 601024; omega, by show _ ≤ 7293034; omega⟩) (fun r9 u H locs hq hp => ?_)
  obtain ⟨rfl, hu, hn⟩ := hq
  obtain rfl := us_x hu hn
  refine lv_dstore (lv' := [(7, .double r), (5, .double r), (0, .ref b), (1, .ref (adr E 19 0)), (2, .ref (adr E 20 0)), (3, .ref (adr E 21 0)), (4, .int (nI i))]) hx hb dL_law_2093 hl (by decide) rfl (fun ls hl => ?_)
  refine lv_dload hx hb dL_law_2095 (lv_at hl 1 rfl) ?_
  refine lv_dload hx hb dL_law_2097 (lv_at hl 0 rfl) ?_
  refine lv_dcmp hx hb dL_law_2099 ?_
  refine lv_if_eq (tgt := 2121) hx hb dL_law_2100 (by decide) (fun c1 => ?_) (fun c1 => ?_)
  · skip
    refine lv_goto (tgt := 2958) hx hb dL_law_2121 (by decide) ?_
    refine W.widen (k := cells + 3) (n := slots + 18) (by omega) (by omega) ?_
    exact K _ H locs ls (hr9.mono (by omega)) hp (lv_sub hl [2, 3, 4, 5, 6] rfl)
  · skip
    refine lv_dload hx hb dL_law_2103 (lv_at hl 1 rfl) ?_
    refine lv_dload hx hb dL_law_2105 (lv_at hl 1 rfl) ?_
    refine lv_dcmp hx hb dL_law_2107 ?_
    refine lv_if_eq (tgt := 2119) hx hb dL_law_2108 (by decide) (fun c2 => absurd c2 c1) (fun _ => ?_)
    refine lv_dload hx hb dL_law_2111 (lv_at hl 0 rfl) ?_
    refine lv_dload hx hb dL_law_2113 (lv_at hl 0 rfl) ?_
    refine lv_dcmp hx hb dL_law_2115 ?_
    refine lv_if_ne (tgt := 2121) hx hb dL_law_2116 (by decide) (fun _ => ?_) (fun c2 => absurd c2 c1)
    refine lv_goto (tgt := 2958) hx hb dL_law_2121 (by decide) ?_
    refine W.widen (k := cells + 3) (n := slots + 18) (by omega) (by omega) ?_
    exact K _ H locs ls (hr9.mono (by omega)) hp (lv_sub hl [2, 3, 4, 5, 6] rfl)
set_option maxRecDepth 100000 in
set_option maxHeartbeats 4000000 in
theorem k_43 {p : Program} {l : Launch} {e : Env} {s : State} {m : MethodId} {below : List Frame} {meth : Method} {c : Code} {E : Ev} {b Ls : Nat} {xs : Nat → Int32} (hlf : l.stackTraces = false) (hN : 147 ≤ eN E) (hT : St E) (hC : NC E) (cx : Cx E p s m meth c #[Value.ref b] RL cL_law 9 (some .boolean)) (SX : va_X b Ls xs s s.heap) (hbl : b < s.heap.size) (hbA : ¬ eA E b) (hLs : Ls ≤ 3072) {Q : State → Prop} {i B : Nat} (hi : i + 6 ≤ Ls) (hB9 : 9999 ≤ B) (hB : B + 300000 < 2 ^ 31) {σ : SM} (hr : Rel B σ) {cells slots : Nat} (hc : cells + 3 ≤ 601024 ∧ slots + 18 ≤ 7293034) {H : Heap} {locs : List Loc} (hp : Hp E σ s H locs) {ls : Array Slot} (hl : lv_has ls 9 (LL b E i))
    (K : ∀ (τ : SM) (H : Heap) (locs : List Loc) (ls : Array Slot), Rel (B + 196020) τ → Hp E τ s H locs → lv_has ls 9 (LL b E i) → W p l e room_1 s m #[Value.ref b] below meth c H locs (cells + 3) (slots + 18) Q (F0 m 2958 ls [])) : W p l e room_1 s m #[Value.ref b] below meth c H locs cells slots Q (F0 m 2124 ls []) := by
  have hx := cx.1.1
  have hb := cx.1.2.1
  obtain ⟨r, ρ', e1, e2, hr9⟩ := P_placedFraction hr 
  refine lv_aload_n hx hb dL_law_2124 rfl (lv_at hl 1 rfl) ?_
  refine x_f hp (y_V (As := []) (rest := []) cx hp hl (c_X12_placedFraction l (Nat.le_trans (by decide) hN) hT e1) (cw_L_289 cx rfl rfl ⟨by decide, by decide⟩) (rC_X12 (Nat.le_trans (by decide) hN) cx hp) rfl rfl (Nat.le_of_ble_eq_true rfl) dL_law_2125 ⟨by show _ ≤ 601024; omega, by show _ ≤ 7293034; omega⟩) (fun r9 u H locs hq hp => ?_)
  obtain ⟨rfl, rfl⟩ := hq
  refine lv_f2d hx hb dL_law_2128 (pf_n hr e1) ?_
  refine lv_dstore (lv' := [(5, .double (FP.f2d r)), (0, .ref b), (1, .ref (adr E 19 0)), (2, .ref (adr E 20 0)), (3, .ref (adr E 21 0)), (4, .int (nI i))]) hx hb dL_law_2129 hl (by decide) rfl (fun ls hl => ?_)
  refine lv_aload_n hx hb dL_law_2131 rfl (lv_at hl 3 rfl) ?_
  refine x_f hp (y_V (As := []) (rest := []) cx hp hl (c_X13_placedFraction l (Nat.le_trans (by decide) hN) hT rfl e2) (cw_L_293 cx rfl rfl ⟨by decide, by decide⟩) (rC_X13 (Nat.le_trans (by decide) hN) cx hp) rfl rfl (Nat.le_of_ble_eq_true rfl) dL_law_2132 ⟨by show _ ≤ 601024; omega, by show _ ≤ 7293034; omega⟩) (fun r9 u H locs hq hp => ?_)
  obtain ⟨rfl, hu, hn⟩ := hq
  obtain rfl := us_x hu hn
  refine lv_f2d hx hb dL_law_2135 (pf_n hr e1) ?_
  refine lv_dstore (lv' := [(7, .double (FP.f2d r)), (5, .double (FP.f2d r)), (0, .ref b), (1, .ref (adr E 19 0)), (2, .ref (adr E 20 0)), (3, .ref (adr E 21 0)), (4, .int (nI i))]) hx hb dL_law_2136 hl (by decide) rfl (fun ls hl => ?_)
  refine lv_dload hx hb dL_law_2138 (lv_at hl 1 rfl) ?_
  refine lv_dload hx hb dL_law_2140 (lv_at hl 0 rfl) ?_
  refine lv_dcmp hx hb dL_law_2142 ?_
  refine lv_if_eq (tgt := 2164) hx hb dL_law_2143 (by decide) (fun c1 => ?_) (fun c1 => ?_)
  · skip
    refine lv_goto (tgt := 2958) hx hb dL_law_2164 (by decide) ?_
    refine W.widen (k := cells + 3) (n := slots + 18) (by omega) (by omega) ?_
    exact K _ H locs ls (hr9.mono (by omega)) hp (lv_sub hl [2, 3, 4, 5, 6] rfl)
  · skip
    refine lv_dload hx hb dL_law_2146 (lv_at hl 1 rfl) ?_
    refine lv_dload hx hb dL_law_2148 (lv_at hl 1 rfl) ?_
    refine lv_dcmp hx hb dL_law_2150 ?_
    refine lv_if_eq (tgt := 2162) hx hb dL_law_2151 (by decide) (fun c2 => absurd c2 c1) (fun _ => ?_)
    refine lv_dload hx hb dL_law_2154 (lv_at hl 0 rfl) ?_
    refine lv_dload hx hb dL_law_2156 (lv_at hl 0 rfl) ?_
    refine lv_dcmp hx hb dL_law_2158 ?_
    refine lv_if_ne (tgt := 2164) hx hb dL_law_2159 (by decide) (fun _ => ?_) (fun c2 => absurd c2 c1)
    refine lv_goto (tgt := 2958) hx hb dL_law_2164 (by decide) ?_
    refine W.widen (k := cells + 3) (n := slots + 18) (by omega) (by omega) ?_
    exact K _ H locs ls (hr9.mono (by omega)) hp (lv_sub hl [2, 3, 4, 5, 6] rfl)
set_option maxRecDepth 100000 in
set_option maxHeartbeats 4000000 in
theorem k_44 {p : Program} {l : Launch} {e : Env} {s : State} {m : MethodId} {below : List Frame} {meth : Method} {c : Code} {E : Ev} {b Ls : Nat} {xs : Nat → Int32} (hlf : l.stackTraces = false) (hN : 147 ≤ eN E) (hT : St E) (hC : NC E) (cx : Cx E p s m meth c #[Value.ref b] RL cL_law 9 (some .boolean)) (SX : va_X b Ls xs s s.heap) (hbl : b < s.heap.size) (hbA : ¬ eA E b) (hLs : Ls ≤ 3072) {Q : State → Prop} {i B : Nat} (hi : i + 6 ≤ Ls) (hB9 : 9999 ≤ B) (hB : B + 300000 < 2 ^ 31) {σ : SM} (hr : Rel B σ) {cells slots : Nat} (hc : cells + 3 ≤ 601024 ∧ slots + 18 ≤ 7293034) {H : Heap} {locs : List Loc} (hp : Hp E σ s H locs) {ls : Array Slot} (hl : lv_has ls 9 (LL b E i))
    (K : ∀ (τ : SM) (H : Heap) (locs : List Loc) (ls : Array Slot), Rel (B + 196020) τ → Hp E τ s H locs → lv_has ls 9 (LL b E i) → W p l e room_1 s m #[Value.ref b] below meth c H locs (cells + 3) (slots + 18) Q (F0 m 2958 ls [])) : W p l e room_1 s m #[Value.ref b] below meth c H locs cells slots Q (F0 m 2167 ls []) := by
  have hx := cx.1.1
  have hb := cx.1.2.1
  obtain ⟨r, ρ', e1, e2, hr9⟩ := P_ledgerDifference hr 
  refine lv_aload_n hx hb dL_law_2167 rfl (lv_at hl 1 rfl) ?_
  refine x_i hp (y_V (As := []) (rest := []) cx hp hl (c_X12_ledgerDifference l (Nat.le_trans (by decide) hN) hT e1) (cw_L_294 cx rfl rfl ⟨by decide, by decide⟩) (rC_X12 (Nat.le_trans (by decide) hN) cx hp) rfl rfl (Nat.le_of_ble_eq_true rfl) dL_law_2168 ⟨by show _ ≤ 601024; omega, by show _ ≤ 7293034; omega⟩) (fun r9 u H locs hq hp => ?_)
  obtain ⟨rfl, rfl⟩ := hq
  refine lv_aload_n hx hb dL_law_2171 rfl (lv_at hl 2 rfl) ?_
  refine x_i hp (y_V (As := []) (rest := [.int r]) cx hp hl (c_X13_ledgerDifference l (Nat.le_trans (by decide) hN) hT rfl e2) (cw_L_297 cx rfl rfl ⟨by decide, by decide⟩) (rC_X13 (Nat.le_trans (by decide) hN) cx hp) rfl rfl (Nat.le_of_ble_eq_true rfl) dL_law_2172 ⟨by show _ ≤ 601024; omega, by show _ ≤ 7293034; omega⟩) (fun r9 u H locs hq hp => ?_)
  obtain ⟨rfl, hu, hn⟩ := hq
  obtain rfl := us_x hu hn
  refine lv_icmp_eq (tgt := 2958) hx hb dL_law_2175 (by decide) (fun _ => ?_) (fun c9 => absurd rfl c9)
  refine W.widen (k := cells + 3) (n := slots + 18) (by omega) (by omega) ?_
  exact K _ H locs ls (hr9.mono (by omega)) hp hl
set_option maxRecDepth 100000 in
set_option maxHeartbeats 4000000 in
theorem k_45 {p : Program} {l : Launch} {e : Env} {s : State} {m : MethodId} {below : List Frame} {meth : Method} {c : Code} {E : Ev} {b Ls : Nat} {xs : Nat → Int32} (hlf : l.stackTraces = false) (hN : 147 ≤ eN E) (hT : St E) (hC : NC E) (cx : Cx E p s m meth c #[Value.ref b] RL cL_law 9 (some .boolean)) (SX : va_X b Ls xs s s.heap) (hbl : b < s.heap.size) (hbA : ¬ eA E b) (hLs : Ls ≤ 3072) {Q : State → Prop} {i B : Nat} (hi : i + 6 ≤ Ls) (hB9 : 9999 ≤ B) (hB : B + 300000 < 2 ^ 31) {σ : SM} (hr : Rel B σ) {cells slots : Nat} (hc : cells + 3 ≤ 601024 ∧ slots + 18 ≤ 7293034) {H : Heap} {locs : List Loc} (hp : Hp E σ s H locs) {ls : Array Slot} (hl : lv_has ls 9 (LL b E i))
    (K : ∀ (τ : SM) (H : Heap) (locs : List Loc) (ls : Array Slot), Rel (B + 196020) τ → Hp E τ s H locs → lv_has ls 9 (LL b E i) → W p l e room_1 s m #[Value.ref b] below meth c H locs (cells + 3) (slots + 18) Q (F0 m 2958 ls [])) : W p l e room_1 s m #[Value.ref b] below meth c H locs cells slots Q (F0 m 2180 ls []) := by
  have hx := cx.1.1
  have hb := cx.1.2.1
  obtain ⟨z, r, ρ', σ', e1, e2, hz, e20, hr9, ho⟩ := fs_two (Nat.le_refl B) oI (by decide) (P_assign hr (xs (i + 1)) (xs (i + 2)))
  refine lv_aload_n hx hb dL_law_2180 rfl (lv_at hl 1 rfl) ?_
  refine lv_aload_n hx hb dL_law_2181 rfl (lv_at hl 0 rfl) ?_
  refine lv_iload hx hb dL_law_2182 (lv_at hl 4 rfl) ?_
  refine lv_iconst (v := 1) hx hb dL_law_2184 (by decide) ?_
  refine lv_iadd hx hb dL_law_2185 ?_
  refine s_ld (k := 1) rfl (by decide) hi hLs SX hbl hbA cx hp dL_law_2186 ?_
  refine lv_aload_n hx hb dL_law_2187 rfl (lv_at hl 0 rfl) ?_
  refine lv_iload hx hb dL_law_2188 (lv_at hl 4 rfl) ?_
  refine lv_iconst (v := 2) hx hb dL_law_2190 (by decide) ?_
  refine lv_iadd hx hb dL_law_2191 ?_
  refine s_ld (k := 2) rfl (by decide) hi hLs SX hbl hbA cx hp dL_law_2192 ?_
  refine lv_aload_n hx hb dL_law_2193 rfl (lv_at hl 3 rfl) ?_
  refine x_iM hp (y_SW (As := [.ref (adr E 19 0), .int (xs (i + 1)), .int (xs (i + 2)), .ref (adr E 21 0)]) (rest := []) cx hp hl (c_L_assign l hN hT hlf hC e1 hz) (cwS_L_assign cx ⟨by decide, by decide⟩) rfl rfl (Nat.le_of_ble_eq_true rfl) dL_law_2194 ⟨by show _ ≤ 601024; omega, by show _ ≤ 7293034; omega⟩) (fun r9 u H locs hq hp => ?_)
  obtain ⟨rfl, rfl⟩ := hq
  refine lv_istore (lv' := [(5, .int (ρ'.1 0 12)), (0, .ref b), (1, .ref (adr E 19 0)), (2, .ref (adr E 20 0)), (3, .ref (adr E 21 0)), (4, .int (nI i))]) hx hb dL_law_2197 hl (by decide) rfl (fun ls hl => ?_)
  refine lv_aload_n hx hb dL_law_2199 rfl (lv_at hl 3 rfl) ?_
  refine lv_aload_n hx hb dL_law_2200 rfl (lv_at hl 1 rfl) ?_
  refine lv_iload hx hb dL_law_2201 (lv_at hl 5 rfl) ?_
  refine lv_iconst (v := 1) hx hb dL_law_2203 (by decide) ?_
  refine lv_iadd hx hb dL_law_2204 ?_
  refine s_ld (k := 1) rfl (by decide) hi hLs SX hbl hbA cx hp dL_law_2205 ?_
  refine lv_aload_n hx hb dL_law_2206 rfl (lv_at hl 1 rfl) ?_
  refine lv_iload hx hb dL_law_2207 (lv_at hl 5 rfl) ?_
  refine lv_iconst (v := 2) hx hb dL_law_2209 (by decide) ?_
  refine lv_iadd hx hb dL_law_2210 ?_
  refine s_ld (k := 2) rfl (by decide) hi hLs SX hbl hbA cx hp dL_law_2211 ?_
  refine x_i hp (y_V (As := [.int (xs (i + 1)), .int (xs (i + 2))]) (rest := []) cx hp hl (c_X13_assign l (Nat.le_trans (by decide) hN) hT e20 e2) (cw_L_300 cx rfl rfl ⟨by decide, by decide⟩) (rC_X13 (Nat.le_trans (by decide) hN) cx hp) rfl rfl (Nat.le_of_ble_eq_true rfl) dL_law_2212 ⟨by show _ ≤ 601024; omega, by show _ ≤ 7293034; omega⟩) (fun r9 u H locs hq hp => ?_)
  obtain ⟨rfl, hu, hn⟩ := hq
  obtain rfl := us_x hu hn
  refine lv_istore (lv' := [(6, .int r), (5, .int (ρ'.1 0 12)), (0, .ref b), (1, .ref (adr E 19 0)), (2, .ref (adr E 20 0)), (3, .ref (adr E 21 0)), (4, .int (nI i))]) hx hb dL_law_2215 hl (by decide) rfl (fun ls hl => ?_)
  refine lv_aload_n hx hb dL_law_2217 rfl (lv_at hl 4 rfl) ?_
  refine x_i hp (y_V (As := []) (rest := []) cx hp hl (c_X13_thrown l (Nat.le_trans (by decide) hN) hT (us_s _ _ _) rfl) (cw_L_136 cx rfl rfl ⟨by decide, by decide⟩) (rC_X13 (Nat.le_trans (by decide) hN) cx hp) rfl rfl (Nat.le_of_ble_eq_true rfl) dL_law_2218 ⟨by show _ ≤ 601024; omega, by show _ ≤ 7293034; omega⟩) (fun r9 u H locs hq hp => ?_)
  obtain ⟨rfl, rfl⟩ := hq
  refine lv_iload hx hb dL_law_2221 (lv_at hl 1 rfl) ?_
  refine lv_icmp_eq (tgt := 2228) hx hb dL_law_2223 (by decide) (fun _ => ?_) (fun c9 => absurd rfl c9)
  refine lv_iload hx hb dL_law_2228 (lv_at hl 1 rfl) ?_
  refine lv_if_ne (tgt := 2245) hx hb dL_law_2230 (by decide) (fun c9 => ?_) (fun c9 => ?_)
  · skip
    refine lv_goto (tgt := 2958) hx hb dL_law_2245 (by decide) ?_
    refine W.widen (k := cells + 3) (n := slots + 18) (by omega) (by omega) ?_
    exact K _ H locs ls (hr9.mono (by omega)) hp (lv_sub hl [2, 3, 4, 5, 6] rfl)
  · skip
    refine lv_aload_n hx hb dL_law_2233 rfl (lv_at hl 5 rfl) ?_
    refine lv_iconst (v := 0) hx hb dL_law_2234 (by decide) ?_
    refine l_out hN cx hp (x := oI r) (by rw [us_n (by decide)]; exact ho (c9.trans nI_0.symm)) dL_law_2235 ?_
    refine lv_iload hx hb dL_law_2236 (lv_at hl 0 rfl) ?_
    refine lv_i2l hx hb dL_law_2238 rfl ?_
    refine W.lcmp hx hb dL_law_2239 ?_
    refine lv_if_eq (tgt := 2245) hx hb dL_law_2240 (by decide) (fun _ => ?_) (fun c8 => absurd (lgc_rf _) c8)
    refine lv_goto (tgt := 2958) hx hb dL_law_2245 (by decide) ?_
    refine W.widen (k := cells + 3) (n := slots + 18) (by omega) (by omega) ?_
    exact K _ H locs ls (hr9.mono (by omega)) hp (lv_sub hl [2, 3, 4, 5, 6] rfl)
set_option maxRecDepth 100000 in
set_option maxHeartbeats 4000000 in
theorem k_46 {p : Program} {l : Launch} {e : Env} {s : State} {m : MethodId} {below : List Frame} {meth : Method} {c : Code} {E : Ev} {b Ls : Nat} {xs : Nat → Int32} (hlf : l.stackTraces = false) (hN : 147 ≤ eN E) (hT : St E) (hC : NC E) (cx : Cx E p s m meth c #[Value.ref b] RL cL_law 9 (some .boolean)) (SX : va_X b Ls xs s s.heap) (hbl : b < s.heap.size) (hbA : ¬ eA E b) (hLs : Ls ≤ 3072) {Q : State → Prop} {i B : Nat} (hi : i + 6 ≤ Ls) (hB9 : 9999 ≤ B) (hB : B + 300000 < 2 ^ 31) {σ : SM} (hr : Rel B σ) {cells slots : Nat} (hc : cells + 3 ≤ 601024 ∧ slots + 18 ≤ 7293034) {H : Heap} {locs : List Loc} (hp : Hp E σ s H locs) {ls : Array Slot} (hl : lv_has ls 9 (LL b E i))
    (K : ∀ (τ : SM) (H : Heap) (locs : List Loc) (ls : Array Slot), Rel (B + 196020) τ → Hp E τ s H locs → lv_has ls 9 (LL b E i) → W p l e room_1 s m #[Value.ref b] below meth c H locs (cells + 3) (slots + 18) Q (F0 m 2958 ls [])) : W p l e room_1 s m #[Value.ref b] below meth c H locs cells slots Q (F0 m 2248 ls []) := by
  have hx := cx.1.1
  have hb := cx.1.2.1
  obtain ⟨z, r, ρ', σ', e1, e2, hz, e20, hr9, ho⟩ := fs_two (Nat.le_refl B) oI (by decide) (P_vacate hr (xs (i + 1)))
  refine lv_aload_n hx hb dL_law_2248 rfl (lv_at hl 1 rfl) ?_
  refine lv_aload_n hx hb dL_law_2249 rfl (lv_at hl 0 rfl) ?_
  refine lv_iload hx hb dL_law_2250 (lv_at hl 4 rfl) ?_
  refine lv_iconst (v := 1) hx hb dL_law_2252 (by decide) ?_
  refine lv_iadd hx hb dL_law_2253 ?_
  refine s_ld (k := 1) rfl (by decide) hi hLs SX hbl hbA cx hp dL_law_2254 ?_
  refine lv_aload_n hx hb dL_law_2255 rfl (lv_at hl 3 rfl) ?_
  refine x_iM hp (y_SW (As := [.ref (adr E 19 0), .int (xs (i + 1)), .ref (adr E 21 0)]) (rest := []) cx hp hl (c_L_vacate l hN hT hlf hC e1 hz) (cwS_L_vacate cx ⟨by decide, by decide⟩) rfl rfl (Nat.le_of_ble_eq_true rfl) dL_law_2256 ⟨by show _ ≤ 601024; omega, by show _ ≤ 7293034; omega⟩) (fun r9 u H locs hq hp => ?_)
  obtain ⟨rfl, rfl⟩ := hq
  refine lv_istore (lv' := [(5, .int (ρ'.1 0 12)), (0, .ref b), (1, .ref (adr E 19 0)), (2, .ref (adr E 20 0)), (3, .ref (adr E 21 0)), (4, .int (nI i))]) hx hb dL_law_2259 hl (by decide) rfl (fun ls hl => ?_)
  refine lv_aload_n hx hb dL_law_2261 rfl (lv_at hl 3 rfl) ?_
  refine lv_aload_n hx hb dL_law_2262 rfl (lv_at hl 1 rfl) ?_
  refine lv_iload hx hb dL_law_2263 (lv_at hl 5 rfl) ?_
  refine lv_iconst (v := 1) hx hb dL_law_2265 (by decide) ?_
  refine lv_iadd hx hb dL_law_2266 ?_
  refine s_ld (k := 1) rfl (by decide) hi hLs SX hbl hbA cx hp dL_law_2267 ?_
  refine x_i hp (y_V (As := [.int (xs (i + 1))]) (rest := []) cx hp hl (c_X13_vacate l (Nat.le_trans (by decide) hN) hT e20 e2) (cw_L_303 cx rfl rfl ⟨by decide, by decide⟩) (rC_X13 (Nat.le_trans (by decide) hN) cx hp) rfl rfl (Nat.le_of_ble_eq_true rfl) dL_law_2268 ⟨by show _ ≤ 601024; omega, by show _ ≤ 7293034; omega⟩) (fun r9 u H locs hq hp => ?_)
  obtain ⟨rfl, hu, hn⟩ := hq
  obtain rfl := us_x hu hn
  refine lv_istore (lv' := [(6, .int r), (5, .int (ρ'.1 0 12)), (0, .ref b), (1, .ref (adr E 19 0)), (2, .ref (adr E 20 0)), (3, .ref (adr E 21 0)), (4, .int (nI i))]) hx hb dL_law_2271 hl (by decide) rfl (fun ls hl => ?_)
  refine lv_aload_n hx hb dL_law_2273 rfl (lv_at hl 4 rfl) ?_
  refine x_i hp (y_V (As := []) (rest := []) cx hp hl (c_X13_thrown l (Nat.le_trans (by decide) hN) hT (us_s _ _ _) rfl) (cw_L_136 cx rfl rfl ⟨by decide, by decide⟩) (rC_X13 (Nat.le_trans (by decide) hN) cx hp) rfl rfl (Nat.le_of_ble_eq_true rfl) dL_law_2274 ⟨by show _ ≤ 601024; omega, by show _ ≤ 7293034; omega⟩) (fun r9 u H locs hq hp => ?_)
  obtain ⟨rfl, rfl⟩ := hq
  refine lv_iload hx hb dL_law_2277 (lv_at hl 1 rfl) ?_
  refine lv_icmp_eq (tgt := 2284) hx hb dL_law_2279 (by decide) (fun _ => ?_) (fun c9 => absurd rfl c9)
  refine lv_iload hx hb dL_law_2284 (lv_at hl 1 rfl) ?_
  refine lv_if_ne (tgt := 2301) hx hb dL_law_2286 (by decide) (fun c9 => ?_) (fun c9 => ?_)
  · skip
    refine lv_goto (tgt := 2958) hx hb dL_law_2301 (by decide) ?_
    refine W.widen (k := cells + 3) (n := slots + 18) (by omega) (by omega) ?_
    exact K _ H locs ls (hr9.mono (by omega)) hp (lv_sub hl [2, 3, 4, 5, 6] rfl)
  · skip
    refine lv_aload_n hx hb dL_law_2289 rfl (lv_at hl 5 rfl) ?_
    refine lv_iconst (v := 0) hx hb dL_law_2290 (by decide) ?_
    refine l_out hN cx hp (x := oI r) (by rw [us_n (by decide)]; exact ho (c9.trans nI_0.symm)) dL_law_2291 ?_
    refine lv_iload hx hb dL_law_2292 (lv_at hl 0 rfl) ?_
    refine lv_i2l hx hb dL_law_2294 rfl ?_
    refine W.lcmp hx hb dL_law_2295 ?_
    refine lv_if_eq (tgt := 2301) hx hb dL_law_2296 (by decide) (fun _ => ?_) (fun c8 => absurd (lgc_rf _) c8)
    refine lv_goto (tgt := 2958) hx hb dL_law_2301 (by decide) ?_
    refine W.widen (k := cells + 3) (n := slots + 18) (by omega) (by omega) ?_
    exact K _ H locs ls (hr9.mono (by omega)) hp (lv_sub hl [2, 3, 4, 5, 6] rfl)
set_option maxRecDepth 100000 in
set_option maxHeartbeats 4000000 in
theorem k_47 {p : Program} {l : Launch} {e : Env} {s : State} {m : MethodId} {below : List Frame} {meth : Method} {c : Code} {E : Ev} {b Ls : Nat} {xs : Nat → Int32} (hlf : l.stackTraces = false) (hN : 147 ≤ eN E) (hT : St E) (hC : NC E) (cx : Cx E p s m meth c #[Value.ref b] RL cL_law 9 (some .boolean)) (SX : va_X b Ls xs s s.heap) (hbl : b < s.heap.size) (hbA : ¬ eA E b) (hLs : Ls ≤ 3072) {Q : State → Prop} {i B : Nat} (hi : i + 6 ≤ Ls) (hB9 : 9999 ≤ B) (hB : B + 300000 < 2 ^ 31) {σ : SM} (hr : Rel B σ) {cells slots : Nat} (hc : cells + 3 ≤ 601024 ∧ slots + 18 ≤ 7293034) {H : Heap} {locs : List Loc} (hp : Hp E σ s H locs) {ls : Array Slot} (hl : lv_has ls 9 (LL b E i))
    (K : ∀ (τ : SM) (H : Heap) (locs : List Loc) (ls : Array Slot), Rel (B + 196020) τ → Hp E τ s H locs → lv_has ls 9 (LL b E i) → W p l e room_1 s m #[Value.ref b] below meth c H locs (cells + 3) (slots + 18) Q (F0 m 2958 ls [])) : W p l e room_1 s m #[Value.ref b] below meth c H locs cells slots Q (F0 m 2304 ls []) := by
  have hx := cx.1.1
  have hb := cx.1.2.1
  obtain ⟨z, r, ρ', σ', e1, e2, hz, e20, hr9, ho⟩ := fs_two (Nat.le_refl B) oI (by decide) (P_swap hr (xs (i + 1)) (xs (i + 2)))
  refine lv_aload_n hx hb dL_law_2304 rfl (lv_at hl 1 rfl) ?_
  refine lv_aload_n hx hb dL_law_2305 rfl (lv_at hl 0 rfl) ?_
  refine lv_iload hx hb dL_law_2306 (lv_at hl 4 rfl) ?_
  refine lv_iconst (v := 1) hx hb dL_law_2308 (by decide) ?_
  refine lv_iadd hx hb dL_law_2309 ?_
  refine s_ld (k := 1) rfl (by decide) hi hLs SX hbl hbA cx hp dL_law_2310 ?_
  refine lv_aload_n hx hb dL_law_2311 rfl (lv_at hl 0 rfl) ?_
  refine lv_iload hx hb dL_law_2312 (lv_at hl 4 rfl) ?_
  refine lv_iconst (v := 2) hx hb dL_law_2314 (by decide) ?_
  refine lv_iadd hx hb dL_law_2315 ?_
  refine s_ld (k := 2) rfl (by decide) hi hLs SX hbl hbA cx hp dL_law_2316 ?_
  refine lv_aload_n hx hb dL_law_2317 rfl (lv_at hl 3 rfl) ?_
  refine x_iM hp (y_SW (As := [.ref (adr E 19 0), .int (xs (i + 1)), .int (xs (i + 2)), .ref (adr E 21 0)]) (rest := []) cx hp hl (c_L_swap l hN hT hlf hC e1 hz) (cwS_L_swap cx ⟨by decide, by decide⟩) rfl rfl (Nat.le_of_ble_eq_true rfl) dL_law_2318 ⟨by show _ ≤ 601024; omega, by show _ ≤ 7293034; omega⟩) (fun r9 u H locs hq hp => ?_)
  obtain ⟨rfl, rfl⟩ := hq
  refine lv_istore (lv' := [(5, .int (ρ'.1 0 12)), (0, .ref b), (1, .ref (adr E 19 0)), (2, .ref (adr E 20 0)), (3, .ref (adr E 21 0)), (4, .int (nI i))]) hx hb dL_law_2321 hl (by decide) rfl (fun ls hl => ?_)
  refine lv_aload_n hx hb dL_law_2323 rfl (lv_at hl 3 rfl) ?_
  refine lv_aload_n hx hb dL_law_2324 rfl (lv_at hl 1 rfl) ?_
  refine lv_iload hx hb dL_law_2325 (lv_at hl 5 rfl) ?_
  refine lv_iconst (v := 1) hx hb dL_law_2327 (by decide) ?_
  refine lv_iadd hx hb dL_law_2328 ?_
  refine s_ld (k := 1) rfl (by decide) hi hLs SX hbl hbA cx hp dL_law_2329 ?_
  refine lv_aload_n hx hb dL_law_2330 rfl (lv_at hl 1 rfl) ?_
  refine lv_iload hx hb dL_law_2331 (lv_at hl 5 rfl) ?_
  refine lv_iconst (v := 2) hx hb dL_law_2333 (by decide) ?_
  refine lv_iadd hx hb dL_law_2334 ?_
  refine s_ld (k := 2) rfl (by decide) hi hLs SX hbl hbA cx hp dL_law_2335 ?_
  refine x_i hp (y_V (As := [.int (xs (i + 1)), .int (xs (i + 2))]) (rest := []) cx hp hl (c_X13_swap l (Nat.le_trans (by decide) hN) hT e20 e2) (cw_L_306 cx rfl rfl ⟨by decide, by decide⟩) (rC_X13 (Nat.le_trans (by decide) hN) cx hp) rfl rfl (Nat.le_of_ble_eq_true rfl) dL_law_2336 ⟨by show _ ≤ 601024; omega, by show _ ≤ 7293034; omega⟩) (fun r9 u H locs hq hp => ?_)
  obtain ⟨rfl, hu, hn⟩ := hq
  obtain rfl := us_x hu hn
  refine lv_istore (lv' := [(6, .int r), (5, .int (ρ'.1 0 12)), (0, .ref b), (1, .ref (adr E 19 0)), (2, .ref (adr E 20 0)), (3, .ref (adr E 21 0)), (4, .int (nI i))]) hx hb dL_law_2339 hl (by decide) rfl (fun ls hl => ?_)
  refine lv_aload_n hx hb dL_law_2341 rfl (lv_at hl 4 rfl) ?_
  refine x_i hp (y_V (As := []) (rest := []) cx hp hl (c_X13_thrown l (Nat.le_trans (by decide) hN) hT (us_s _ _ _) rfl) (cw_L_136 cx rfl rfl ⟨by decide, by decide⟩) (rC_X13 (Nat.le_trans (by decide) hN) cx hp) rfl rfl (Nat.le_of_ble_eq_true rfl) dL_law_2342 ⟨by show _ ≤ 601024; omega, by show _ ≤ 7293034; omega⟩) (fun r9 u H locs hq hp => ?_)
  obtain ⟨rfl, rfl⟩ := hq
  refine lv_iload hx hb dL_law_2345 (lv_at hl 1 rfl) ?_
  refine lv_icmp_eq (tgt := 2352) hx hb dL_law_2347 (by decide) (fun _ => ?_) (fun c9 => absurd rfl c9)
  refine lv_iload hx hb dL_law_2352 (lv_at hl 1 rfl) ?_
  refine lv_if_ne (tgt := 2369) hx hb dL_law_2354 (by decide) (fun c9 => ?_) (fun c9 => ?_)
  · skip
    refine lv_goto (tgt := 2958) hx hb dL_law_2369 (by decide) ?_
    refine W.widen (k := cells + 3) (n := slots + 18) (by omega) (by omega) ?_
    exact K _ H locs ls (hr9.mono (by omega)) hp (lv_sub hl [2, 3, 4, 5, 6] rfl)
  · skip
    refine lv_aload_n hx hb dL_law_2357 rfl (lv_at hl 5 rfl) ?_
    refine lv_iconst (v := 0) hx hb dL_law_2358 (by decide) ?_
    refine l_out hN cx hp (x := oI r) (by rw [us_n (by decide)]; exact ho (c9.trans nI_0.symm)) dL_law_2359 ?_
    refine lv_iload hx hb dL_law_2360 (lv_at hl 0 rfl) ?_
    refine lv_i2l hx hb dL_law_2362 rfl ?_
    refine W.lcmp hx hb dL_law_2363 ?_
    refine lv_if_eq (tgt := 2369) hx hb dL_law_2364 (by decide) (fun _ => ?_) (fun c8 => absurd (lgc_rf _) c8)
    refine lv_goto (tgt := 2958) hx hb dL_law_2369 (by decide) ?_
    refine W.widen (k := cells + 3) (n := slots + 18) (by omega) (by omega) ?_
    exact K _ H locs ls (hr9.mono (by omega)) hp (lv_sub hl [2, 3, 4, 5, 6] rfl)
set_option maxRecDepth 100000 in
set_option maxHeartbeats 4000000 in
theorem k_48 {p : Program} {l : Launch} {e : Env} {s : State} {m : MethodId} {below : List Frame} {meth : Method} {c : Code} {E : Ev} {b Ls : Nat} {xs : Nat → Int32} (hlf : l.stackTraces = false) (hN : 147 ≤ eN E) (hT : St E) (hC : NC E) (cx : Cx E p s m meth c #[Value.ref b] RL cL_law 9 (some .boolean)) (SX : va_X b Ls xs s s.heap) (hbl : b < s.heap.size) (hbA : ¬ eA E b) (hLs : Ls ≤ 3072) {Q : State → Prop} {i B : Nat} (hi : i + 6 ≤ Ls) (hB9 : 9999 ≤ B) (hB : B + 300000 < 2 ^ 31) {σ : SM} (hr : Rel B σ) {cells slots : Nat} (hc : cells + 3 ≤ 601024 ∧ slots + 18 ≤ 7293034) {H : Heap} {locs : List Loc} (hp : Hp E σ s H locs) {ls : Array Slot} (hl : lv_has ls 9 (LL b E i))
    (K : ∀ (τ : SM) (H : Heap) (locs : List Loc) (ls : Array Slot), Rel (B + 196020) τ → Hp E τ s H locs → lv_has ls 9 (LL b E i) → W p l e room_1 s m #[Value.ref b] below meth c H locs (cells + 3) (slots + 18) Q (F0 m 2958 ls [])) : W p l e room_1 s m #[Value.ref b] below meth c H locs cells slots Q (F0 m 2372 ls []) := by
  have hx := cx.1.1
  have hb := cx.1.2.1
  obtain ⟨r, τ, ρ', e1, e2, e20, hr9⟩ := P_reallocate hr 
  refine lv_aload_n hx hb dL_law_2372 rfl (lv_at hl 1 rfl) ?_
  refine x_i hp (y_V (As := []) (rest := []) cx hp hl (c_X12_reallocate l (Nat.le_trans (by decide) hN) hT e1) (cw_L_307 cx rfl rfl ⟨by decide, by decide⟩) (rC_X12 (Nat.le_trans (by decide) hN) cx hp) rfl rfl (Nat.le_of_ble_eq_true rfl) dL_law_2373 ⟨by show _ ≤ 601024; omega, by show _ ≤ 7293034; omega⟩) (fun r9 u H locs hq hp => ?_)
  obtain ⟨rfl, rfl⟩ := hq
  refine lv_aload_n hx hb dL_law_2376 rfl (lv_at hl 2 rfl) ?_
  refine x_i hp (y_V (As := []) (rest := [.int r]) cx hp hl (c_X13_reallocate l (Nat.le_trans (by decide) hN) hT e20 e2) (cw_L_310 cx rfl rfl ⟨by decide, by decide⟩) (rC_X13 (Nat.le_trans (by decide) hN) cx hp) rfl rfl (Nat.le_of_ble_eq_true rfl) dL_law_2377 ⟨by show _ ≤ 601024; omega, by show _ ≤ 7293034; omega⟩) (fun r9 u H locs hq hp => ?_)
  obtain ⟨rfl, hu, hn⟩ := hq
  obtain rfl := us_x hu hn
  refine lv_icmp_eq (tgt := 2958) hx hb dL_law_2380 (by decide) (fun _ => ?_) (fun c9 => absurd rfl c9)
  refine W.widen (k := cells + 3) (n := slots + 18) (by omega) (by omega) ?_
  exact K _ H locs ls (hr9.mono (by omega)) hp hl
set_option maxRecDepth 100000 in
set_option maxHeartbeats 4000000 in
theorem k_49 {p : Program} {l : Launch} {e : Env} {s : State} {m : MethodId} {below : List Frame} {meth : Method} {c : Code} {E : Ev} {b Ls : Nat} {xs : Nat → Int32} (hlf : l.stackTraces = false) (hN : 147 ≤ eN E) (hT : St E) (hC : NC E) (cx : Cx E p s m meth c #[Value.ref b] RL cL_law 9 (some .boolean)) (SX : va_X b Ls xs s s.heap) (hbl : b < s.heap.size) (hbA : ¬ eA E b) (hLs : Ls ≤ 3072) {Q : State → Prop} {i B : Nat} (hi : i + 6 ≤ Ls) (hB9 : 9999 ≤ B) (hB : B + 300000 < 2 ^ 31) {σ : SM} (hr : Rel B σ) {cells slots : Nat} (hc : cells + 3 ≤ 601024 ∧ slots + 18 ≤ 7293034) {H : Heap} {locs : List Loc} (hp : Hp E σ s H locs) {ls : Array Slot} (hl : lv_has ls 9 (LL b E i))
    (K : ∀ (τ : SM) (H : Heap) (locs : List Loc) (ls : Array Slot), Rel (B + 196020) τ → Hp E τ s H locs → lv_has ls 9 (LL b E i) → W p l e room_1 s m #[Value.ref b] below meth c H locs (cells + 3) (slots + 18) Q (F0 m 2958 ls [])) : W p l e room_1 s m #[Value.ref b] below meth c H locs cells slots Q (F0 m 2385 ls []) := by
  have hx := cx.1.1
  have hb := cx.1.2.1
  obtain ⟨z, r, ρ', σ', e1, e2, hz, e20, hr9, ho⟩ := fs_two (Nat.le_refl B) oI (by decide) (P_setPriority hr (xs (i + 1)) (xs (i + 2)))
  refine lv_aload_n hx hb dL_law_2385 rfl (lv_at hl 1 rfl) ?_
  refine lv_aload_n hx hb dL_law_2386 rfl (lv_at hl 0 rfl) ?_
  refine lv_iload hx hb dL_law_2387 (lv_at hl 4 rfl) ?_
  refine lv_iconst (v := 1) hx hb dL_law_2389 (by decide) ?_
  refine lv_iadd hx hb dL_law_2390 ?_
  refine s_ld (k := 1) rfl (by decide) hi hLs SX hbl hbA cx hp dL_law_2391 ?_
  refine lv_aload_n hx hb dL_law_2392 rfl (lv_at hl 0 rfl) ?_
  refine lv_iload hx hb dL_law_2393 (lv_at hl 4 rfl) ?_
  refine lv_iconst (v := 2) hx hb dL_law_2395 (by decide) ?_
  refine lv_iadd hx hb dL_law_2396 ?_
  refine s_ld (k := 2) rfl (by decide) hi hLs SX hbl hbA cx hp dL_law_2397 ?_
  refine lv_aload_n hx hb dL_law_2398 rfl (lv_at hl 3 rfl) ?_
  refine x_iM hp (y_SW (As := [.ref (adr E 19 0), .int (xs (i + 1)), .int (xs (i + 2)), .ref (adr E 21 0)]) (rest := []) cx hp hl (c_L_setPriority l hN hT hlf hC e1 hz) (cwS_L_setPriority cx ⟨by decide, by decide⟩) rfl rfl (Nat.le_of_ble_eq_true rfl) dL_law_2399 ⟨by show _ ≤ 601024; omega, by show _ ≤ 7293034; omega⟩) (fun r9 u H locs hq hp => ?_)
  obtain ⟨rfl, rfl⟩ := hq
  refine lv_istore (lv' := [(5, .int (ρ'.1 0 12)), (0, .ref b), (1, .ref (adr E 19 0)), (2, .ref (adr E 20 0)), (3, .ref (adr E 21 0)), (4, .int (nI i))]) hx hb dL_law_2402 hl (by decide) rfl (fun ls hl => ?_)
  refine lv_aload_n hx hb dL_law_2404 rfl (lv_at hl 3 rfl) ?_
  refine lv_aload_n hx hb dL_law_2405 rfl (lv_at hl 1 rfl) ?_
  refine lv_iload hx hb dL_law_2406 (lv_at hl 5 rfl) ?_
  refine lv_iconst (v := 1) hx hb dL_law_2408 (by decide) ?_
  refine lv_iadd hx hb dL_law_2409 ?_
  refine s_ld (k := 1) rfl (by decide) hi hLs SX hbl hbA cx hp dL_law_2410 ?_
  refine lv_aload_n hx hb dL_law_2411 rfl (lv_at hl 1 rfl) ?_
  refine lv_iload hx hb dL_law_2412 (lv_at hl 5 rfl) ?_
  refine lv_iconst (v := 2) hx hb dL_law_2414 (by decide) ?_
  refine lv_iadd hx hb dL_law_2415 ?_
  refine s_ld (k := 2) rfl (by decide) hi hLs SX hbl hbA cx hp dL_law_2416 ?_
  refine x_i hp (y_V (As := [.int (xs (i + 1)), .int (xs (i + 2))]) (rest := []) cx hp hl (c_X13_setPriority l (Nat.le_trans (by decide) hN) hT e20 e2) (cw_L_313 cx rfl rfl ⟨by decide, by decide⟩) (rC_X13 (Nat.le_trans (by decide) hN) cx hp) rfl rfl (Nat.le_of_ble_eq_true rfl) dL_law_2417 ⟨by show _ ≤ 601024; omega, by show _ ≤ 7293034; omega⟩) (fun r9 u H locs hq hp => ?_)
  obtain ⟨rfl, hu, hn⟩ := hq
  obtain rfl := us_x hu hn
  refine lv_istore (lv' := [(6, .int r), (5, .int (ρ'.1 0 12)), (0, .ref b), (1, .ref (adr E 19 0)), (2, .ref (adr E 20 0)), (3, .ref (adr E 21 0)), (4, .int (nI i))]) hx hb dL_law_2420 hl (by decide) rfl (fun ls hl => ?_)
  refine lv_aload_n hx hb dL_law_2422 rfl (lv_at hl 4 rfl) ?_
  refine x_i hp (y_V (As := []) (rest := []) cx hp hl (c_X13_thrown l (Nat.le_trans (by decide) hN) hT (us_s _ _ _) rfl) (cw_L_136 cx rfl rfl ⟨by decide, by decide⟩) (rC_X13 (Nat.le_trans (by decide) hN) cx hp) rfl rfl (Nat.le_of_ble_eq_true rfl) dL_law_2423 ⟨by show _ ≤ 601024; omega, by show _ ≤ 7293034; omega⟩) (fun r9 u H locs hq hp => ?_)
  obtain ⟨rfl, rfl⟩ := hq
  refine lv_iload hx hb dL_law_2426 (lv_at hl 1 rfl) ?_
  refine lv_icmp_eq (tgt := 2433) hx hb dL_law_2428 (by decide) (fun _ => ?_) (fun c9 => absurd rfl c9)
  refine lv_iload hx hb dL_law_2433 (lv_at hl 1 rfl) ?_
  refine lv_if_ne (tgt := 2450) hx hb dL_law_2435 (by decide) (fun c9 => ?_) (fun c9 => ?_)
  · skip
    refine lv_goto (tgt := 2958) hx hb dL_law_2450 (by decide) ?_
    refine W.widen (k := cells + 3) (n := slots + 18) (by omega) (by omega) ?_
    exact K _ H locs ls (hr9.mono (by omega)) hp (lv_sub hl [2, 3, 4, 5, 6] rfl)
  · skip
    refine lv_aload_n hx hb dL_law_2438 rfl (lv_at hl 5 rfl) ?_
    refine lv_iconst (v := 0) hx hb dL_law_2439 (by decide) ?_
    refine l_out hN cx hp (x := oI r) (by rw [us_n (by decide)]; exact ho (c9.trans nI_0.symm)) dL_law_2440 ?_
    refine lv_iload hx hb dL_law_2441 (lv_at hl 0 rfl) ?_
    refine lv_i2l hx hb dL_law_2443 rfl ?_
    refine W.lcmp hx hb dL_law_2444 ?_
    refine lv_if_eq (tgt := 2450) hx hb dL_law_2445 (by decide) (fun _ => ?_) (fun c8 => absurd (lgc_rf _) c8)
    refine lv_goto (tgt := 2958) hx hb dL_law_2450 (by decide) ?_
    refine W.widen (k := cells + 3) (n := slots + 18) (by omega) (by omega) ?_
    exact K _ H locs ls (hr9.mono (by omega)) hp (lv_sub hl [2, 3, 4, 5, 6] rfl)
set_option maxRecDepth 100000 in
set_option maxHeartbeats 4000000 in
theorem k_50 {p : Program} {l : Launch} {e : Env} {s : State} {m : MethodId} {below : List Frame} {meth : Method} {c : Code} {E : Ev} {b Ls : Nat} {xs : Nat → Int32} (hlf : l.stackTraces = false) (hN : 147 ≤ eN E) (hT : St E) (hC : NC E) (cx : Cx E p s m meth c #[Value.ref b] RL cL_law 9 (some .boolean)) (SX : va_X b Ls xs s s.heap) (hbl : b < s.heap.size) (hbA : ¬ eA E b) (hLs : Ls ≤ 3072) {Q : State → Prop} {i B : Nat} (hi : i + 6 ≤ Ls) (hB9 : 9999 ≤ B) (hB : B + 300000 < 2 ^ 31) {σ : SM} (hr : Rel B σ) {cells slots : Nat} (hc : cells + 3 ≤ 601024 ∧ slots + 18 ≤ 7293034) {H : Heap} {locs : List Loc} (hp : Hp E σ s H locs) {ls : Array Slot} (hl : lv_has ls 9 (LL b E i))
    (K : ∀ (τ : SM) (H : Heap) (locs : List Loc) (ls : Array Slot), Rel (B + 196020) τ → Hp E τ s H locs → lv_has ls 9 (LL b E i) → W p l e room_1 s m #[Value.ref b] below meth c H locs (cells + 3) (slots + 18) Q (F0 m 2958 ls [])) : W p l e room_1 s m #[Value.ref b] below meth c H locs cells slots Q (F0 m 2453 ls []) := by
  have hx := cx.1.1
  have hb := cx.1.2.1
  obtain ⟨z, r, ρ', σ', e1, e2, hz, e20, hr9, ho⟩ := fs_two (Nat.le_refl B) oI (by decide) (P_preferFirst hr (xs (i + 1)) (xs (i + 2)))
  refine lv_aload_n hx hb dL_law_2453 rfl (lv_at hl 1 rfl) ?_
  refine lv_aload_n hx hb dL_law_2454 rfl (lv_at hl 0 rfl) ?_
  refine lv_iload hx hb dL_law_2455 (lv_at hl 4 rfl) ?_
  refine lv_iconst (v := 1) hx hb dL_law_2457 (by decide) ?_
  refine lv_iadd hx hb dL_law_2458 ?_
  refine s_ld (k := 1) rfl (by decide) hi hLs SX hbl hbA cx hp dL_law_2459 ?_
  refine lv_aload_n hx hb dL_law_2460 rfl (lv_at hl 0 rfl) ?_
  refine lv_iload hx hb dL_law_2461 (lv_at hl 4 rfl) ?_
  refine lv_iconst (v := 2) hx hb dL_law_2463 (by decide) ?_
  refine lv_iadd hx hb dL_law_2464 ?_
  refine s_ld (k := 2) rfl (by decide) hi hLs SX hbl hbA cx hp dL_law_2465 ?_
  refine lv_aload_n hx hb dL_law_2466 rfl (lv_at hl 3 rfl) ?_
  refine x_iM hp (y_SW (As := [.ref (adr E 19 0), .int (xs (i + 1)), .int (xs (i + 2)), .ref (adr E 21 0)]) (rest := []) cx hp hl (c_L_preferFirst l hN hT hlf hC e1 hz) (cwS_L_preferFirst cx ⟨by decide, by decide⟩) rfl rfl (Nat.le_of_ble_eq_true rfl) dL_law_2467 ⟨by show _ ≤ 601024; omega, by show _ ≤ 7293034; omega⟩) (fun r9 u H locs hq hp => ?_)
  obtain ⟨rfl, rfl⟩ := hq
  refine lv_istore (lv' := [(5, .int (ρ'.1 0 12)), (0, .ref b), (1, .ref (adr E 19 0)), (2, .ref (adr E 20 0)), (3, .ref (adr E 21 0)), (4, .int (nI i))]) hx hb dL_law_2470 hl (by decide) rfl (fun ls hl => ?_)
  refine lv_aload_n hx hb dL_law_2472 rfl (lv_at hl 3 rfl) ?_
  refine lv_aload_n hx hb dL_law_2473 rfl (lv_at hl 1 rfl) ?_
  refine lv_iload hx hb dL_law_2474 (lv_at hl 5 rfl) ?_
  refine lv_iconst (v := 1) hx hb dL_law_2476 (by decide) ?_
  refine lv_iadd hx hb dL_law_2477 ?_
  refine s_ld (k := 1) rfl (by decide) hi hLs SX hbl hbA cx hp dL_law_2478 ?_
  refine lv_aload_n hx hb dL_law_2479 rfl (lv_at hl 1 rfl) ?_
  refine lv_iload hx hb dL_law_2480 (lv_at hl 5 rfl) ?_
  refine lv_iconst (v := 2) hx hb dL_law_2482 (by decide) ?_
  refine lv_iadd hx hb dL_law_2483 ?_
  refine s_ld (k := 2) rfl (by decide) hi hLs SX hbl hbA cx hp dL_law_2484 ?_
  refine x_i hp (y_V (As := [.int (xs (i + 1)), .int (xs (i + 2))]) (rest := []) cx hp hl (c_X13_preferFirst l (Nat.le_trans (by decide) hN) hT e20 e2) (cw_L_316 cx rfl rfl ⟨by decide, by decide⟩) (rC_X13 (Nat.le_trans (by decide) hN) cx hp) rfl rfl (Nat.le_of_ble_eq_true rfl) dL_law_2485 ⟨by show _ ≤ 601024; omega, by show _ ≤ 7293034; omega⟩) (fun r9 u H locs hq hp => ?_)
  obtain ⟨rfl, hu, hn⟩ := hq
  obtain rfl := us_x hu hn
  refine lv_istore (lv' := [(6, .int r), (5, .int (ρ'.1 0 12)), (0, .ref b), (1, .ref (adr E 19 0)), (2, .ref (adr E 20 0)), (3, .ref (adr E 21 0)), (4, .int (nI i))]) hx hb dL_law_2488 hl (by decide) rfl (fun ls hl => ?_)
  refine lv_aload_n hx hb dL_law_2490 rfl (lv_at hl 4 rfl) ?_
  refine x_i hp (y_V (As := []) (rest := []) cx hp hl (c_X13_thrown l (Nat.le_trans (by decide) hN) hT (us_s _ _ _) rfl) (cw_L_136 cx rfl rfl ⟨by decide, by decide⟩) (rC_X13 (Nat.le_trans (by decide) hN) cx hp) rfl rfl (Nat.le_of_ble_eq_true rfl) dL_law_2491 ⟨by show _ ≤ 601024; omega, by show _ ≤ 7293034; omega⟩) (fun r9 u H locs hq hp => ?_)
  obtain ⟨rfl, rfl⟩ := hq
  refine lv_iload hx hb dL_law_2494 (lv_at hl 1 rfl) ?_
  refine lv_icmp_eq (tgt := 2501) hx hb dL_law_2496 (by decide) (fun _ => ?_) (fun c9 => absurd rfl c9)
  refine lv_iload hx hb dL_law_2501 (lv_at hl 1 rfl) ?_
  refine lv_if_ne (tgt := 2518) hx hb dL_law_2503 (by decide) (fun c9 => ?_) (fun c9 => ?_)
  · skip
    refine lv_goto (tgt := 2958) hx hb dL_law_2518 (by decide) ?_
    refine W.widen (k := cells + 3) (n := slots + 18) (by omega) (by omega) ?_
    exact K _ H locs ls (hr9.mono (by omega)) hp (lv_sub hl [2, 3, 4, 5, 6] rfl)
  · skip
    refine lv_aload_n hx hb dL_law_2506 rfl (lv_at hl 5 rfl) ?_
    refine lv_iconst (v := 0) hx hb dL_law_2507 (by decide) ?_
    refine l_out hN cx hp (x := oI r) (by rw [us_n (by decide)]; exact ho (c9.trans nI_0.symm)) dL_law_2508 ?_
    refine lv_iload hx hb dL_law_2509 (lv_at hl 0 rfl) ?_
    refine lv_i2l hx hb dL_law_2511 rfl ?_
    refine W.lcmp hx hb dL_law_2512 ?_
    refine lv_if_eq (tgt := 2518) hx hb dL_law_2513 (by decide) (fun _ => ?_) (fun c8 => absurd (lgc_rf _) c8)
    refine lv_goto (tgt := 2958) hx hb dL_law_2518 (by decide) ?_
    refine W.widen (k := cells + 3) (n := slots + 18) (by omega) (by omega) ?_
    exact K _ H locs ls (hr9.mono (by omega)) hp (lv_sub hl [2, 3, 4, 5, 6] rfl)
set_option maxRecDepth 100000 in
set_option maxHeartbeats 4000000 in
theorem k_51 {p : Program} {l : Launch} {e : Env} {s : State} {m : MethodId} {below : List Frame} {meth : Method} {c : Code} {E : Ev} {b Ls : Nat} {xs : Nat → Int32} (hlf : l.stackTraces = false) (hN : 147 ≤ eN E) (hT : St E) (hC : NC E) (cx : Cx E p s m meth c #[Value.ref b] RL cL_law 9 (some .boolean)) (SX : va_X b Ls xs s s.heap) (hbl : b < s.heap.size) (hbA : ¬ eA E b) (hLs : Ls ≤ 3072) {Q : State → Prop} {i B : Nat} (hi : i + 6 ≤ Ls) (hB9 : 9999 ≤ B) (hB : B + 300000 < 2 ^ 31) {σ : SM} (hr : Rel B σ) {cells slots : Nat} (hc : cells + 3 ≤ 601024 ∧ slots + 18 ≤ 7293034) {H : Heap} {locs : List Loc} (hp : Hp E σ s H locs) {ls : Array Slot} (hl : lv_has ls 9 (LL b E i))
    (K : ∀ (τ : SM) (H : Heap) (locs : List Loc) (ls : Array Slot), Rel (B + 196020) τ → Hp E τ s H locs → lv_has ls 9 (LL b E i) → W p l e room_1 s m #[Value.ref b] below meth c H locs (cells + 3) (slots + 18) Q (F0 m 2958 ls [])) : W p l e room_1 s m #[Value.ref b] below meth c H locs cells slots Q (F0 m 2521 ls []) := by
  have hx := cx.1.1
  have hb := cx.1.2.1
  obtain ⟨z, r, ρ', σ', e1, e2, hz, e20, hr9, ho⟩ := fs_two (Nat.le_refl B) oI (by decide) (P_removePreference hr (xs (i + 1)) (xs (i + 2)))
  refine lv_aload_n hx hb dL_law_2521 rfl (lv_at hl 1 rfl) ?_
  refine lv_aload_n hx hb dL_law_2522 rfl (lv_at hl 0 rfl) ?_
  refine lv_iload hx hb dL_law_2523 (lv_at hl 4 rfl) ?_
  refine lv_iconst (v := 1) hx hb dL_law_2525 (by decide) ?_
  refine lv_iadd hx hb dL_law_2526 ?_
  refine s_ld (k := 1) rfl (by decide) hi hLs SX hbl hbA cx hp dL_law_2527 ?_
  refine lv_aload_n hx hb dL_law_2528 rfl (lv_at hl 0 rfl) ?_
  refine lv_iload hx hb dL_law_2529 (lv_at hl 4 rfl) ?_
  refine lv_iconst (v := 2) hx hb dL_law_2531 (by decide) ?_
  refine lv_iadd hx hb dL_law_2532 ?_
  refine s_ld (k := 2) rfl (by decide) hi hLs SX hbl hbA cx hp dL_law_2533 ?_
  refine lv_aload_n hx hb dL_law_2534 rfl (lv_at hl 3 rfl) ?_
  refine x_iM hp (y_SW (As := [.ref (adr E 19 0), .int (xs (i + 1)), .int (xs (i + 2)), .ref (adr E 21 0)]) (rest := []) cx hp hl (c_L_removePreference l hN hT hlf hC e1 hz) (cwS_L_removePreference cx ⟨by decide, by decide⟩) rfl rfl (Nat.le_of_ble_eq_true rfl) dL_law_2535 ⟨by show _ ≤ 601024; omega, by show _ ≤ 7293034; omega⟩) (fun r9 u H locs hq hp => ?_)
  obtain ⟨rfl, rfl⟩ := hq
  refine lv_istore (lv' := [(5, .int (ρ'.1 0 12)), (0, .ref b), (1, .ref (adr E 19 0)), (2, .ref (adr E 20 0)), (3, .ref (adr E 21 0)), (4, .int (nI i))]) hx hb dL_law_2538 hl (by decide) rfl (fun ls hl => ?_)
  refine lv_aload_n hx hb dL_law_2540 rfl (lv_at hl 3 rfl) ?_
  refine lv_aload_n hx hb dL_law_2541 rfl (lv_at hl 1 rfl) ?_
  refine lv_iload hx hb dL_law_2542 (lv_at hl 5 rfl) ?_
  refine lv_iconst (v := 1) hx hb dL_law_2544 (by decide) ?_
  refine lv_iadd hx hb dL_law_2545 ?_
  refine s_ld (k := 1) rfl (by decide) hi hLs SX hbl hbA cx hp dL_law_2546 ?_
  refine lv_aload_n hx hb dL_law_2547 rfl (lv_at hl 1 rfl) ?_
  refine lv_iload hx hb dL_law_2548 (lv_at hl 5 rfl) ?_
  refine lv_iconst (v := 2) hx hb dL_law_2550 (by decide) ?_
  refine lv_iadd hx hb dL_law_2551 ?_
  refine s_ld (k := 2) rfl (by decide) hi hLs SX hbl hbA cx hp dL_law_2552 ?_
  refine x_i hp (y_V (As := [.int (xs (i + 1)), .int (xs (i + 2))]) (rest := []) cx hp hl (c_X13_removePreference l (Nat.le_trans (by decide) hN) hT e20 e2) (cw_L_319 cx rfl rfl ⟨by decide, by decide⟩) (rC_X13 (Nat.le_trans (by decide) hN) cx hp) rfl rfl (Nat.le_of_ble_eq_true rfl) dL_law_2553 ⟨by show _ ≤ 601024; omega, by show _ ≤ 7293034; omega⟩) (fun r9 u H locs hq hp => ?_)
  obtain ⟨rfl, hu, hn⟩ := hq
  obtain rfl := us_x hu hn
  refine lv_istore (lv' := [(6, .int r), (5, .int (ρ'.1 0 12)), (0, .ref b), (1, .ref (adr E 19 0)), (2, .ref (adr E 20 0)), (3, .ref (adr E 21 0)), (4, .int (nI i))]) hx hb dL_law_2556 hl (by decide) rfl (fun ls hl => ?_)
  refine lv_aload_n hx hb dL_law_2558 rfl (lv_at hl 4 rfl) ?_
  refine x_i hp (y_V (As := []) (rest := []) cx hp hl (c_X13_thrown l (Nat.le_trans (by decide) hN) hT (us_s _ _ _) rfl) (cw_L_136 cx rfl rfl ⟨by decide, by decide⟩) (rC_X13 (Nat.le_trans (by decide) hN) cx hp) rfl rfl (Nat.le_of_ble_eq_true rfl) dL_law_2559 ⟨by show _ ≤ 601024; omega, by show _ ≤ 7293034; omega⟩) (fun r9 u H locs hq hp => ?_)
  obtain ⟨rfl, rfl⟩ := hq
  refine lv_iload hx hb dL_law_2562 (lv_at hl 1 rfl) ?_
  refine lv_icmp_eq (tgt := 2569) hx hb dL_law_2564 (by decide) (fun _ => ?_) (fun c9 => absurd rfl c9)
  refine lv_iload hx hb dL_law_2569 (lv_at hl 1 rfl) ?_
  refine lv_if_ne (tgt := 2586) hx hb dL_law_2571 (by decide) (fun c9 => ?_) (fun c9 => ?_)
  · skip
    refine lv_goto (tgt := 2958) hx hb dL_law_2586 (by decide) ?_
    refine W.widen (k := cells + 3) (n := slots + 18) (by omega) (by omega) ?_
    exact K _ H locs ls (hr9.mono (by omega)) hp (lv_sub hl [2, 3, 4, 5, 6] rfl)
  · skip
    refine lv_aload_n hx hb dL_law_2574 rfl (lv_at hl 5 rfl) ?_
    refine lv_iconst (v := 0) hx hb dL_law_2575 (by decide) ?_
    refine l_out hN cx hp (x := oI r) (by rw [us_n (by decide)]; exact ho (c9.trans nI_0.symm)) dL_law_2576 ?_
    refine lv_iload hx hb dL_law_2577 (lv_at hl 0 rfl) ?_
    refine lv_i2l hx hb dL_law_2579 rfl ?_
    refine W.lcmp hx hb dL_law_2580 ?_
    refine lv_if_eq (tgt := 2586) hx hb dL_law_2581 (by decide) (fun _ => ?_) (fun c8 => absurd (lgc_rf _) c8)
    refine lv_goto (tgt := 2958) hx hb dL_law_2586 (by decide) ?_
    refine W.widen (k := cells + 3) (n := slots + 18) (by omega) (by omega) ?_
    exact K _ H locs ls (hr9.mono (by omega)) hp (lv_sub hl [2, 3, 4, 5, 6] rfl)
set_option maxRecDepth 100000 in
set_option maxHeartbeats 4000000 in
theorem k_52 {p : Program} {l : Launch} {e : Env} {s : State} {m : MethodId} {below : List Frame} {meth : Method} {c : Code} {E : Ev} {b Ls : Nat} {xs : Nat → Int32} (hlf : l.stackTraces = false) (hN : 147 ≤ eN E) (hT : St E) (hC : NC E) (cx : Cx E p s m meth c #[Value.ref b] RL cL_law 9 (some .boolean)) (SX : va_X b Ls xs s s.heap) (hbl : b < s.heap.size) (hbA : ¬ eA E b) (hLs : Ls ≤ 3072) {Q : State → Prop} {i B : Nat} (hi : i + 6 ≤ Ls) (hB9 : 9999 ≤ B) (hB : B + 300000 < 2 ^ 31) {σ : SM} (hr : Rel B σ) {cells slots : Nat} (hc : cells + 3 ≤ 601024 ∧ slots + 18 ≤ 7293034) {H : Heap} {locs : List Loc} (hp : Hp E σ s H locs) {ls : Array Slot} (hl : lv_has ls 9 (LL b E i))
    (K : ∀ (τ : SM) (H : Heap) (locs : List Loc) (ls : Array Slot), Rel (B + 196020) τ → Hp E τ s H locs → lv_has ls 9 (LL b E i) → W p l e room_1 s m #[Value.ref b] below meth c H locs (cells + 3) (slots + 18) Q (F0 m 2958 ls [])) : W p l e room_1 s m #[Value.ref b] below meth c H locs cells slots Q (F0 m 2589 ls []) := by
  have hx := cx.1.1
  have hb := cx.1.2.1
  obtain ⟨z, r, ρ', σ', e1, e2, hz, e20, hr9, ho⟩ := fs_two (Nat.le_refl B) oI (by decide) (P_setRent hr (xs (i + 1)) (xs (i + 2)))
  refine lv_aload_n hx hb dL_law_2589 rfl (lv_at hl 1 rfl) ?_
  refine lv_aload_n hx hb dL_law_2590 rfl (lv_at hl 0 rfl) ?_
  refine lv_iload hx hb dL_law_2591 (lv_at hl 4 rfl) ?_
  refine lv_iconst (v := 1) hx hb dL_law_2593 (by decide) ?_
  refine lv_iadd hx hb dL_law_2594 ?_
  refine s_ld (k := 1) rfl (by decide) hi hLs SX hbl hbA cx hp dL_law_2595 ?_
  refine lv_aload_n hx hb dL_law_2596 rfl (lv_at hl 0 rfl) ?_
  refine lv_iload hx hb dL_law_2597 (lv_at hl 4 rfl) ?_
  refine lv_iconst (v := 2) hx hb dL_law_2599 (by decide) ?_
  refine lv_iadd hx hb dL_law_2600 ?_
  refine s_ld (k := 2) rfl (by decide) hi hLs SX hbl hbA cx hp dL_law_2601 ?_
  refine lv_aload_n hx hb dL_law_2602 rfl (lv_at hl 3 rfl) ?_
  refine x_iM hp (y_SW (As := [.ref (adr E 19 0), .int (xs (i + 1)), .int (xs (i + 2)), .ref (adr E 21 0)]) (rest := []) cx hp hl (c_L_setRent l hN hT hlf hC e1 hz) (cwS_L_setRent cx ⟨by decide, by decide⟩) rfl rfl (Nat.le_of_ble_eq_true rfl) dL_law_2603 ⟨by show _ ≤ 601024; omega, by show _ ≤ 7293034; omega⟩) (fun r9 u H locs hq hp => ?_)
  obtain ⟨rfl, rfl⟩ := hq
  refine lv_istore (lv' := [(5, .int (ρ'.1 0 12)), (0, .ref b), (1, .ref (adr E 19 0)), (2, .ref (adr E 20 0)), (3, .ref (adr E 21 0)), (4, .int (nI i))]) hx hb dL_law_2606 hl (by decide) rfl (fun ls hl => ?_)
  refine lv_aload_n hx hb dL_law_2608 rfl (lv_at hl 3 rfl) ?_
  refine lv_aload_n hx hb dL_law_2609 rfl (lv_at hl 1 rfl) ?_
  refine lv_iload hx hb dL_law_2610 (lv_at hl 5 rfl) ?_
  refine lv_iconst (v := 1) hx hb dL_law_2612 (by decide) ?_
  refine lv_iadd hx hb dL_law_2613 ?_
  refine s_ld (k := 1) rfl (by decide) hi hLs SX hbl hbA cx hp dL_law_2614 ?_
  refine lv_aload_n hx hb dL_law_2615 rfl (lv_at hl 1 rfl) ?_
  refine lv_iload hx hb dL_law_2616 (lv_at hl 5 rfl) ?_
  refine lv_iconst (v := 2) hx hb dL_law_2618 (by decide) ?_
  refine lv_iadd hx hb dL_law_2619 ?_
  refine s_ld (k := 2) rfl (by decide) hi hLs SX hbl hbA cx hp dL_law_2620 ?_
  refine x_i hp (y_V (As := [.int (xs (i + 1)), .int (xs (i + 2))]) (rest := []) cx hp hl (c_X13_setRent l (Nat.le_trans (by decide) hN) hT e20 e2) (cw_L_322 cx rfl rfl ⟨by decide, by decide⟩) (rC_X13 (Nat.le_trans (by decide) hN) cx hp) rfl rfl (Nat.le_of_ble_eq_true rfl) dL_law_2621 ⟨by show _ ≤ 601024; omega, by show _ ≤ 7293034; omega⟩) (fun r9 u H locs hq hp => ?_)
  obtain ⟨rfl, hu, hn⟩ := hq
  obtain rfl := us_x hu hn
  refine lv_istore (lv' := [(6, .int r), (5, .int (ρ'.1 0 12)), (0, .ref b), (1, .ref (adr E 19 0)), (2, .ref (adr E 20 0)), (3, .ref (adr E 21 0)), (4, .int (nI i))]) hx hb dL_law_2624 hl (by decide) rfl (fun ls hl => ?_)
  refine lv_aload_n hx hb dL_law_2626 rfl (lv_at hl 4 rfl) ?_
  refine x_i hp (y_V (As := []) (rest := []) cx hp hl (c_X13_thrown l (Nat.le_trans (by decide) hN) hT (us_s _ _ _) rfl) (cw_L_136 cx rfl rfl ⟨by decide, by decide⟩) (rC_X13 (Nat.le_trans (by decide) hN) cx hp) rfl rfl (Nat.le_of_ble_eq_true rfl) dL_law_2627 ⟨by show _ ≤ 601024; omega, by show _ ≤ 7293034; omega⟩) (fun r9 u H locs hq hp => ?_)
  obtain ⟨rfl, rfl⟩ := hq
  refine lv_iload hx hb dL_law_2630 (lv_at hl 1 rfl) ?_
  refine lv_icmp_eq (tgt := 2637) hx hb dL_law_2632 (by decide) (fun _ => ?_) (fun c9 => absurd rfl c9)
  refine lv_iload hx hb dL_law_2637 (lv_at hl 1 rfl) ?_
  refine lv_if_ne (tgt := 2654) hx hb dL_law_2639 (by decide) (fun c9 => ?_) (fun c9 => ?_)
  · skip
    refine lv_goto (tgt := 2958) hx hb dL_law_2654 (by decide) ?_
    refine W.widen (k := cells + 3) (n := slots + 18) (by omega) (by omega) ?_
    exact K _ H locs ls (hr9.mono (by omega)) hp (lv_sub hl [2, 3, 4, 5, 6] rfl)
  · skip
    refine lv_aload_n hx hb dL_law_2642 rfl (lv_at hl 5 rfl) ?_
    refine lv_iconst (v := 0) hx hb dL_law_2643 (by decide) ?_
    refine l_out hN cx hp (x := oI r) (by rw [us_n (by decide)]; exact ho (c9.trans nI_0.symm)) dL_law_2644 ?_
    refine lv_iload hx hb dL_law_2645 (lv_at hl 0 rfl) ?_
    refine lv_i2l hx hb dL_law_2647 rfl ?_
    refine W.lcmp hx hb dL_law_2648 ?_
    refine lv_if_eq (tgt := 2654) hx hb dL_law_2649 (by decide) (fun _ => ?_) (fun c8 => absurd (lgc_rf _) c8)
    refine lv_goto (tgt := 2958) hx hb dL_law_2654 (by decide) ?_
    refine W.widen (k := cells + 3) (n := slots + 18) (by omega) (by omega) ?_
    exact K _ H locs ls (hr9.mono (by omega)) hp (lv_sub hl [2, 3, 4, 5, 6] rfl)
set_option maxRecDepth 100000 in
set_option maxHeartbeats 4000000 in
theorem k_53 {p : Program} {l : Launch} {e : Env} {s : State} {m : MethodId} {below : List Frame} {meth : Method} {c : Code} {E : Ev} {b Ls : Nat} {xs : Nat → Int32} (hlf : l.stackTraces = false) (hN : 147 ≤ eN E) (hT : St E) (hC : NC E) (cx : Cx E p s m meth c #[Value.ref b] RL cL_law 9 (some .boolean)) (SX : va_X b Ls xs s s.heap) (hbl : b < s.heap.size) (hbA : ¬ eA E b) (hLs : Ls ≤ 3072) {Q : State → Prop} {i B : Nat} (hi : i + 6 ≤ Ls) (hB9 : 9999 ≤ B) (hB : B + 300000 < 2 ^ 31) {σ : SM} (hr : Rel B σ) {cells slots : Nat} (hc : cells + 3 ≤ 601024 ∧ slots + 18 ≤ 7293034) {H : Heap} {locs : List Loc} (hp : Hp E σ s H locs) {ls : Array Slot} (hl : lv_has ls 9 (LL b E i))
    (K : ∀ (τ : SM) (H : Heap) (locs : List Loc) (ls : Array Slot), Rel (B + 196020) τ → Hp E τ s H locs → lv_has ls 9 (LL b E i) → W p l e room_1 s m #[Value.ref b] below meth c H locs (cells + 3) (slots + 18) Q (F0 m 2958 ls [])) : W p l e room_1 s m #[Value.ref b] below meth c H locs cells slots Q (F0 m 2657 ls []) := by
  have hx := cx.1.1
  have hb := cx.1.2.1
  obtain ⟨z, r, ρ', σ', e1, e2, hz, e20, hr9, ho⟩ := fs_two (by omega) oI (by decide) (P_deposit hr (by omega) (xs (i + 1)) (xs (i + 2)))
  refine lv_aload_n hx hb dL_law_2657 rfl (lv_at hl 1 rfl) ?_
  refine lv_aload_n hx hb dL_law_2658 rfl (lv_at hl 0 rfl) ?_
  refine lv_iload hx hb dL_law_2659 (lv_at hl 4 rfl) ?_
  refine lv_iconst (v := 1) hx hb dL_law_2661 (by decide) ?_
  refine lv_iadd hx hb dL_law_2662 ?_
  refine s_ld (k := 1) rfl (by decide) hi hLs SX hbl hbA cx hp dL_law_2663 ?_
  refine lv_aload_n hx hb dL_law_2664 rfl (lv_at hl 0 rfl) ?_
  refine lv_iload hx hb dL_law_2665 (lv_at hl 4 rfl) ?_
  refine lv_iconst (v := 2) hx hb dL_law_2667 (by decide) ?_
  refine lv_iadd hx hb dL_law_2668 ?_
  refine s_ld (k := 2) rfl (by decide) hi hLs SX hbl hbA cx hp dL_law_2669 ?_
  refine lv_aload_n hx hb dL_law_2670 rfl (lv_at hl 3 rfl) ?_
  refine x_iM hp (y_SW (As := [.ref (adr E 19 0), .int (xs (i + 1)), .int (xs (i + 2)), .ref (adr E 21 0)]) (rest := []) cx hp hl (c_L_deposit l hN hT hlf hC e1 hz) (cwS_L_deposit cx ⟨by decide, by decide⟩) rfl rfl (Nat.le_of_ble_eq_true rfl) dL_law_2671 ⟨by show _ ≤ 601024; omega, by show _ ≤ 7293034; omega⟩) (fun r9 u H locs hq hp => ?_)
  obtain ⟨rfl, rfl⟩ := hq
  refine lv_istore (lv' := [(5, .int (ρ'.1 0 12)), (0, .ref b), (1, .ref (adr E 19 0)), (2, .ref (adr E 20 0)), (3, .ref (adr E 21 0)), (4, .int (nI i))]) hx hb dL_law_2674 hl (by decide) rfl (fun ls hl => ?_)
  refine lv_aload_n hx hb dL_law_2676 rfl (lv_at hl 3 rfl) ?_
  refine lv_aload_n hx hb dL_law_2677 rfl (lv_at hl 1 rfl) ?_
  refine lv_iload hx hb dL_law_2678 (lv_at hl 5 rfl) ?_
  refine lv_iconst (v := 1) hx hb dL_law_2680 (by decide) ?_
  refine lv_iadd hx hb dL_law_2681 ?_
  refine s_ld (k := 1) rfl (by decide) hi hLs SX hbl hbA cx hp dL_law_2682 ?_
  refine lv_aload_n hx hb dL_law_2683 rfl (lv_at hl 1 rfl) ?_
  refine lv_iload hx hb dL_law_2684 (lv_at hl 5 rfl) ?_
  refine lv_iconst (v := 2) hx hb dL_law_2686 (by decide) ?_
  refine lv_iadd hx hb dL_law_2687 ?_
  refine s_ld (k := 2) rfl (by decide) hi hLs SX hbl hbA cx hp dL_law_2688 ?_
  refine x_i hp (y_V (As := [.int (xs (i + 1)), .int (xs (i + 2))]) (rest := []) cx hp hl (c_X13_deposit l (Nat.le_trans (by decide) hN) hT e20 e2) (cw_L_325 cx rfl rfl ⟨by decide, by decide⟩) (rC_X13 (Nat.le_trans (by decide) hN) cx hp) rfl rfl (Nat.le_of_ble_eq_true rfl) dL_law_2689 ⟨by show _ ≤ 601024; omega, by show _ ≤ 7293034; omega⟩) (fun r9 u H locs hq hp => ?_)
  obtain ⟨rfl, hu, hn⟩ := hq
  obtain rfl := us_x hu hn
  refine lv_istore (lv' := [(6, .int r), (5, .int (ρ'.1 0 12)), (0, .ref b), (1, .ref (adr E 19 0)), (2, .ref (adr E 20 0)), (3, .ref (adr E 21 0)), (4, .int (nI i))]) hx hb dL_law_2692 hl (by decide) rfl (fun ls hl => ?_)
  refine lv_aload_n hx hb dL_law_2694 rfl (lv_at hl 4 rfl) ?_
  refine x_i hp (y_V (As := []) (rest := []) cx hp hl (c_X13_thrown l (Nat.le_trans (by decide) hN) hT (us_s _ _ _) rfl) (cw_L_136 cx rfl rfl ⟨by decide, by decide⟩) (rC_X13 (Nat.le_trans (by decide) hN) cx hp) rfl rfl (Nat.le_of_ble_eq_true rfl) dL_law_2695 ⟨by show _ ≤ 601024; omega, by show _ ≤ 7293034; omega⟩) (fun r9 u H locs hq hp => ?_)
  obtain ⟨rfl, rfl⟩ := hq
  refine lv_iload hx hb dL_law_2698 (lv_at hl 1 rfl) ?_
  refine lv_icmp_eq (tgt := 2705) hx hb dL_law_2700 (by decide) (fun _ => ?_) (fun c9 => absurd rfl c9)
  refine lv_iload hx hb dL_law_2705 (lv_at hl 1 rfl) ?_
  refine lv_if_ne (tgt := 2722) hx hb dL_law_2707 (by decide) (fun c9 => ?_) (fun c9 => ?_)
  · skip
    refine lv_goto (tgt := 2958) hx hb dL_law_2722 (by decide) ?_
    refine W.widen (k := cells + 3) (n := slots + 18) (by omega) (by omega) ?_
    exact K _ H locs ls (hr9.mono (by omega)) hp (lv_sub hl [2, 3, 4, 5, 6] rfl)
  · skip
    refine lv_aload_n hx hb dL_law_2710 rfl (lv_at hl 5 rfl) ?_
    refine lv_iconst (v := 0) hx hb dL_law_2711 (by decide) ?_
    refine l_out hN cx hp (x := oI r) (by rw [us_n (by decide)]; exact ho (c9.trans nI_0.symm)) dL_law_2712 ?_
    refine lv_iload hx hb dL_law_2713 (lv_at hl 0 rfl) ?_
    refine lv_i2l hx hb dL_law_2715 rfl ?_
    refine W.lcmp hx hb dL_law_2716 ?_
    refine lv_if_eq (tgt := 2722) hx hb dL_law_2717 (by decide) (fun _ => ?_) (fun c8 => absurd (lgc_rf _) c8)
    refine lv_goto (tgt := 2958) hx hb dL_law_2722 (by decide) ?_
    refine W.widen (k := cells + 3) (n := slots + 18) (by omega) (by omega) ?_
    exact K _ H locs ls (hr9.mono (by omega)) hp (lv_sub hl [2, 3, 4, 5, 6] rfl)
set_option maxRecDepth 100000 in
set_option maxHeartbeats 4000000 in
theorem k_54 {p : Program} {l : Launch} {e : Env} {s : State} {m : MethodId} {below : List Frame} {meth : Method} {c : Code} {E : Ev} {b Ls : Nat} {xs : Nat → Int32} (hlf : l.stackTraces = false) (hN : 147 ≤ eN E) (hT : St E) (hC : NC E) (cx : Cx E p s m meth c #[Value.ref b] RL cL_law 9 (some .boolean)) (SX : va_X b Ls xs s s.heap) (hbl : b < s.heap.size) (hbA : ¬ eA E b) (hLs : Ls ≤ 3072) {Q : State → Prop} {i B : Nat} (hi : i + 6 ≤ Ls) (hB9 : 9999 ≤ B) (hB : B + 300000 < 2 ^ 31) {σ : SM} (hr : Rel B σ) {cells slots : Nat} (hc : cells + 3 ≤ 601024 ∧ slots + 18 ≤ 7293034) {H : Heap} {locs : List Loc} (hp : Hp E σ s H locs) {ls : Array Slot} (hl : lv_has ls 9 (LL b E i))
    (K : ∀ (τ : SM) (H : Heap) (locs : List Loc) (ls : Array Slot), Rel (B + 196020) τ → Hp E τ s H locs → lv_has ls 9 (LL b E i) → W p l e room_1 s m #[Value.ref b] below meth c H locs (cells + 3) (slots + 18) Q (F0 m 2958 ls [])) : W p l e room_1 s m #[Value.ref b] below meth c H locs cells slots Q (F0 m 2725 ls []) := by
  have hx := cx.1.1
  have hb := cx.1.2.1
  obtain ⟨z, r, ρ', σ', e1, e2, hz, e20, hr9, ho⟩ := fs_two (by omega) oI (by decide) (P_advanceDays hr (by omega) (xs (i + 1)))
  refine lv_aload_n hx hb dL_law_2725 rfl (lv_at hl 1 rfl) ?_
  refine lv_aload_n hx hb dL_law_2726 rfl (lv_at hl 0 rfl) ?_
  refine lv_iload hx hb dL_law_2727 (lv_at hl 4 rfl) ?_
  refine lv_iconst (v := 1) hx hb dL_law_2729 (by decide) ?_
  refine lv_iadd hx hb dL_law_2730 ?_
  refine s_ld (k := 1) rfl (by decide) hi hLs SX hbl hbA cx hp dL_law_2731 ?_
  refine lv_aload_n hx hb dL_law_2732 rfl (lv_at hl 3 rfl) ?_
  refine x_iM hp (y_SW (As := [.ref (adr E 19 0), .int (xs (i + 1)), .ref (adr E 21 0)]) (rest := []) cx hp hl (c_L_advanceDays l hN hT hlf hC e1 hz) (cwS_L_advanceDays cx ⟨by decide, by decide⟩) rfl rfl (Nat.le_of_ble_eq_true rfl) dL_law_2733 ⟨by show _ ≤ 601024; omega, by show _ ≤ 7293034; omega⟩) (fun r9 u H locs hq hp => ?_)
  obtain ⟨rfl, rfl⟩ := hq
  refine lv_istore (lv' := [(5, .int (ρ'.1 0 12)), (0, .ref b), (1, .ref (adr E 19 0)), (2, .ref (adr E 20 0)), (3, .ref (adr E 21 0)), (4, .int (nI i))]) hx hb dL_law_2736 hl (by decide) rfl (fun ls hl => ?_)
  refine lv_aload_n hx hb dL_law_2738 rfl (lv_at hl 3 rfl) ?_
  refine lv_aload_n hx hb dL_law_2739 rfl (lv_at hl 1 rfl) ?_
  refine lv_iload hx hb dL_law_2740 (lv_at hl 5 rfl) ?_
  refine lv_iconst (v := 1) hx hb dL_law_2742 (by decide) ?_
  refine lv_iadd hx hb dL_law_2743 ?_
  refine s_ld (k := 1) rfl (by decide) hi hLs SX hbl hbA cx hp dL_law_2744 ?_
  refine x_i hp (y_V (As := [.int (xs (i + 1))]) (rest := []) cx hp hl (c_X13_advanceDays l (Nat.le_trans (by decide) hN) hT e20 e2) (cw_L_328 cx rfl rfl ⟨by decide, by decide⟩) (rC_X13 (Nat.le_trans (by decide) hN) cx hp) rfl rfl (Nat.le_of_ble_eq_true rfl) dL_law_2745 ⟨by show _ ≤ 601024; omega, by show _ ≤ 7293034; omega⟩) (fun r9 u H locs hq hp => ?_)
  obtain ⟨rfl, hu, hn⟩ := hq
  obtain rfl := us_x hu hn
  refine lv_istore (lv' := [(6, .int r), (5, .int (ρ'.1 0 12)), (0, .ref b), (1, .ref (adr E 19 0)), (2, .ref (adr E 20 0)), (3, .ref (adr E 21 0)), (4, .int (nI i))]) hx hb dL_law_2748 hl (by decide) rfl (fun ls hl => ?_)
  refine lv_aload_n hx hb dL_law_2750 rfl (lv_at hl 4 rfl) ?_
  refine x_i hp (y_V (As := []) (rest := []) cx hp hl (c_X13_thrown l (Nat.le_trans (by decide) hN) hT (us_s _ _ _) rfl) (cw_L_136 cx rfl rfl ⟨by decide, by decide⟩) (rC_X13 (Nat.le_trans (by decide) hN) cx hp) rfl rfl (Nat.le_of_ble_eq_true rfl) dL_law_2751 ⟨by show _ ≤ 601024; omega, by show _ ≤ 7293034; omega⟩) (fun r9 u H locs hq hp => ?_)
  obtain ⟨rfl, rfl⟩ := hq
  refine lv_iload hx hb dL_law_2754 (lv_at hl 1 rfl) ?_
  refine lv_icmp_eq (tgt := 2761) hx hb dL_law_2756 (by decide) (fun _ => ?_) (fun c9 => absurd rfl c9)
  refine lv_iload hx hb dL_law_2761 (lv_at hl 1 rfl) ?_
  refine lv_if_ne (tgt := 2778) hx hb dL_law_2763 (by decide) (fun c9 => ?_) (fun c9 => ?_)
  · skip
    refine lv_goto (tgt := 2958) hx hb dL_law_2778 (by decide) ?_
    refine W.widen (k := cells + 3) (n := slots + 18) (by omega) (by omega) ?_
    exact K _ H locs ls (hr9.mono (by omega)) hp (lv_sub hl [2, 3, 4, 5, 6] rfl)
  · skip
    refine lv_aload_n hx hb dL_law_2766 rfl (lv_at hl 5 rfl) ?_
    refine lv_iconst (v := 0) hx hb dL_law_2767 (by decide) ?_
    refine l_out hN cx hp (x := oI r) (by rw [us_n (by decide)]; exact ho (c9.trans nI_0.symm)) dL_law_2768 ?_
    refine lv_iload hx hb dL_law_2769 (lv_at hl 0 rfl) ?_
    refine lv_i2l hx hb dL_law_2771 rfl ?_
    refine W.lcmp hx hb dL_law_2772 ?_
    refine lv_if_eq (tgt := 2778) hx hb dL_law_2773 (by decide) (fun _ => ?_) (fun c8 => absurd (lgc_rf _) c8)
    refine lv_goto (tgt := 2958) hx hb dL_law_2778 (by decide) ?_
    refine W.widen (k := cells + 3) (n := slots + 18) (by omega) (by omega) ?_
    exact K _ H locs ls (hr9.mono (by omega)) hp (lv_sub hl [2, 3, 4, 5, 6] rfl)
set_option maxRecDepth 100000 in
set_option maxHeartbeats 4000000 in
theorem k_55 {p : Program} {l : Launch} {e : Env} {s : State} {m : MethodId} {below : List Frame} {meth : Method} {c : Code} {E : Ev} {b Ls : Nat} {xs : Nat → Int32} (hlf : l.stackTraces = false) (hN : 147 ≤ eN E) (hT : St E) (hC : NC E) (cx : Cx E p s m meth c #[Value.ref b] RL cL_law 9 (some .boolean)) (SX : va_X b Ls xs s s.heap) (hbl : b < s.heap.size) (hbA : ¬ eA E b) (hLs : Ls ≤ 3072) {Q : State → Prop} {i B : Nat} (hi : i + 6 ≤ Ls) (hB9 : 9999 ≤ B) (hB : B + 300000 < 2 ^ 31) {σ : SM} (hr : Rel B σ) {cells slots : Nat} (hc : cells + 3 ≤ 601024 ∧ slots + 18 ≤ 7293034) {H : Heap} {locs : List Loc} (hp : Hp E σ s H locs) {ls : Array Slot} (hl : lv_has ls 9 (LL b E i))
    (K : ∀ (τ : SM) (H : Heap) (locs : List Loc) (ls : Array Slot), Rel (B + 196020) τ → Hp E τ s H locs → lv_has ls 9 (LL b E i) → W p l e room_1 s m #[Value.ref b] below meth c H locs (cells + 3) (slots + 18) Q (F0 m 2958 ls [])) : W p l e room_1 s m #[Value.ref b] below meth c H locs cells slots Q (F0 m 2781 ls []) := by
  have hx := cx.1.1
  have hb := cx.1.2.1
  obtain ⟨r, τ, ρ', e1, e2, e20, hr9⟩ := P_writeAssignment hr 
  refine lv_aload_n hx hb dL_law_2781 rfl (lv_at hl 1 rfl) ?_
  refine x_i hp (y_V (As := []) (rest := []) cx hp hl (c_X12_writeAssignment l (Nat.le_trans (by decide) hN) hT e1) (cw_L_329 cx rfl rfl ⟨by decide, by decide⟩) (rC_X12 (Nat.le_trans (by decide) hN) cx hp) rfl rfl (Nat.le_of_ble_eq_true rfl) dL_law_2782 ⟨by show _ ≤ 601024; omega, by show _ ≤ 7293034; omega⟩) (fun r9 u H locs hq hp => ?_)
  obtain ⟨rfl, rfl⟩ := hq
  refine lv_aload_n hx hb dL_law_2785 rfl (lv_at hl 2 rfl) ?_
  refine x_i hp (y_V (As := []) (rest := [.int r]) cx hp hl (c_X13_writeAssignment l (Nat.le_trans (by decide) hN) hT e20 e2) (cw_L_332 cx rfl rfl ⟨by decide, by decide⟩) (rC_X13 (Nat.le_trans (by decide) hN) cx hp) rfl rfl (Nat.le_of_ble_eq_true rfl) dL_law_2786 ⟨by show _ ≤ 601024; omega, by show _ ≤ 7293034; omega⟩) (fun r9 u H locs hq hp => ?_)
  obtain ⟨rfl, hu, hn⟩ := hq
  obtain rfl := us_x hu hn
  refine lv_icmp_eq (tgt := 2958) hx hb dL_law_2789 (by decide) (fun _ => ?_) (fun c9 => absurd rfl c9)
  refine W.widen (k := cells + 3) (n := slots + 18) (by omega) (by omega) ?_
  exact K _ H locs ls (hr9.mono (by omega)) hp hl
set_option maxRecDepth 100000 in
set_option maxHeartbeats 4000000 in
theorem k_56 {p : Program} {l : Launch} {e : Env} {s : State} {m : MethodId} {below : List Frame} {meth : Method} {c : Code} {E : Ev} {b Ls : Nat} {xs : Nat → Int32} (hlf : l.stackTraces = false) (hN : 147 ≤ eN E) (hT : St E) (hC : NC E) (cx : Cx E p s m meth c #[Value.ref b] RL cL_law 9 (some .boolean)) (SX : va_X b Ls xs s s.heap) (hbl : b < s.heap.size) (hbA : ¬ eA E b) (hLs : Ls ≤ 3072) {Q : State → Prop} {i B : Nat} (hi : i + 6 ≤ Ls) (hB9 : 9999 ≤ B) (hB : B + 300000 < 2 ^ 31) {σ : SM} (hr : Rel B σ) {cells slots : Nat} (hc : cells + 3 ≤ 601024 ∧ slots + 18 ≤ 7293034) {H : Heap} {locs : List Loc} (hp : Hp E σ s H locs) {ls : Array Slot} (hl : lv_has ls 9 (LL b E i))
    (K : ∀ (τ : SM) (H : Heap) (locs : List Loc) (ls : Array Slot), Rel (B + 196020) τ → Hp E τ s H locs → lv_has ls 9 (LL b E i) → W p l e room_1 s m #[Value.ref b] below meth c H locs (cells + 3) (slots + 18) Q (F0 m 2958 ls [])) : W p l e room_1 s m #[Value.ref b] below meth c H locs cells slots Q (F0 m 2794 ls []) := by
  have hx := cx.1.1
  have hb := cx.1.2.1
  obtain ⟨z, r, ρ', σ', e1, e2, hz, e20, hr9, ho⟩ := fs_two (Nat.le_refl B) oI (by decide) (P_writePreferences hr (xs (i + 1)))
  refine lv_aload_n hx hb dL_law_2794 rfl (lv_at hl 1 rfl) ?_
  refine lv_aload_n hx hb dL_law_2795 rfl (lv_at hl 0 rfl) ?_
  refine lv_iload hx hb dL_law_2796 (lv_at hl 4 rfl) ?_
  refine lv_iconst (v := 1) hx hb dL_law_2798 (by decide) ?_
  refine lv_iadd hx hb dL_law_2799 ?_
  refine s_ld (k := 1) rfl (by decide) hi hLs SX hbl hbA cx hp dL_law_2800 ?_
  refine lv_aload_n hx hb dL_law_2801 rfl (lv_at hl 3 rfl) ?_
  refine x_iM hp (y_SW (As := [.ref (adr E 19 0), .int (xs (i + 1)), .ref (adr E 21 0)]) (rest := []) cx hp hl (c_L_writePreferences l hN hT hlf hC e1 hz) (cwS_L_writePreferences cx ⟨by decide, by decide⟩) rfl rfl (Nat.le_of_ble_eq_true rfl) dL_law_2802 ⟨by show _ ≤ 601024; omega, by show _ ≤ 7293034; omega⟩) (fun r9 u H locs hq hp => ?_)
  obtain ⟨rfl, rfl⟩ := hq
  refine lv_istore (lv' := [(5, .int (ρ'.1 0 12)), (0, .ref b), (1, .ref (adr E 19 0)), (2, .ref (adr E 20 0)), (3, .ref (adr E 21 0)), (4, .int (nI i))]) hx hb dL_law_2805 hl (by decide) rfl (fun ls hl => ?_)
  refine lv_aload_n hx hb dL_law_2807 rfl (lv_at hl 3 rfl) ?_
  refine lv_aload_n hx hb dL_law_2808 rfl (lv_at hl 1 rfl) ?_
  refine lv_iload hx hb dL_law_2809 (lv_at hl 5 rfl) ?_
  refine lv_iconst (v := 1) hx hb dL_law_2811 (by decide) ?_
  refine lv_iadd hx hb dL_law_2812 ?_
  refine s_ld (k := 1) rfl (by decide) hi hLs SX hbl hbA cx hp dL_law_2813 ?_
  refine x_i hp (y_V (As := [.int (xs (i + 1))]) (rest := []) cx hp hl (c_X13_writePreferences l (Nat.le_trans (by decide) hN) hT e20 e2) (cw_L_335 cx rfl rfl ⟨by decide, by decide⟩) (rC_X13 (Nat.le_trans (by decide) hN) cx hp) rfl rfl (Nat.le_of_ble_eq_true rfl) dL_law_2814 ⟨by show _ ≤ 601024; omega, by show _ ≤ 7293034; omega⟩) (fun r9 u H locs hq hp => ?_)
  obtain ⟨rfl, hu, hn⟩ := hq
  obtain rfl := us_x hu hn
  refine lv_istore (lv' := [(6, .int r), (5, .int (ρ'.1 0 12)), (0, .ref b), (1, .ref (adr E 19 0)), (2, .ref (adr E 20 0)), (3, .ref (adr E 21 0)), (4, .int (nI i))]) hx hb dL_law_2817 hl (by decide) rfl (fun ls hl => ?_)
  refine lv_aload_n hx hb dL_law_2819 rfl (lv_at hl 4 rfl) ?_
  refine x_i hp (y_V (As := []) (rest := []) cx hp hl (c_X13_thrown l (Nat.le_trans (by decide) hN) hT (us_s _ _ _) rfl) (cw_L_136 cx rfl rfl ⟨by decide, by decide⟩) (rC_X13 (Nat.le_trans (by decide) hN) cx hp) rfl rfl (Nat.le_of_ble_eq_true rfl) dL_law_2820 ⟨by show _ ≤ 601024; omega, by show _ ≤ 7293034; omega⟩) (fun r9 u H locs hq hp => ?_)
  obtain ⟨rfl, rfl⟩ := hq
  refine lv_iload hx hb dL_law_2823 (lv_at hl 1 rfl) ?_
  refine lv_icmp_eq (tgt := 2830) hx hb dL_law_2825 (by decide) (fun _ => ?_) (fun c9 => absurd rfl c9)
  refine lv_iload hx hb dL_law_2830 (lv_at hl 1 rfl) ?_
  refine lv_if_ne (tgt := 2847) hx hb dL_law_2832 (by decide) (fun c9 => ?_) (fun c9 => ?_)
  · skip
    refine lv_goto (tgt := 2958) hx hb dL_law_2847 (by decide) ?_
    refine W.widen (k := cells + 3) (n := slots + 18) (by omega) (by omega) ?_
    exact K _ H locs ls (hr9.mono (by omega)) hp (lv_sub hl [2, 3, 4, 5, 6] rfl)
  · skip
    refine lv_aload_n hx hb dL_law_2835 rfl (lv_at hl 5 rfl) ?_
    refine lv_iconst (v := 0) hx hb dL_law_2836 (by decide) ?_
    refine l_out hN cx hp (x := oI r) (by rw [us_n (by decide)]; exact ho (c9.trans nI_0.symm)) dL_law_2837 ?_
    refine lv_iload hx hb dL_law_2838 (lv_at hl 0 rfl) ?_
    refine lv_i2l hx hb dL_law_2840 rfl ?_
    refine W.lcmp hx hb dL_law_2841 ?_
    refine lv_if_eq (tgt := 2847) hx hb dL_law_2842 (by decide) (fun _ => ?_) (fun c8 => absurd (lgc_rf _) c8)
    refine lv_goto (tgt := 2958) hx hb dL_law_2847 (by decide) ?_
    refine W.widen (k := cells + 3) (n := slots + 18) (by omega) (by omega) ?_
    exact K _ H locs ls (hr9.mono (by omega)) hp (lv_sub hl [2, 3, 4, 5, 6] rfl)
set_option maxRecDepth 100000 in
set_option maxHeartbeats 4000000 in
theorem k_57 {p : Program} {l : Launch} {e : Env} {s : State} {m : MethodId} {below : List Frame} {meth : Method} {c : Code} {E : Ev} {b Ls : Nat} {xs : Nat → Int32} (hlf : l.stackTraces = false) (hN : 147 ≤ eN E) (hT : St E) (hC : NC E) (cx : Cx E p s m meth c #[Value.ref b] RL cL_law 9 (some .boolean)) (SX : va_X b Ls xs s s.heap) (hbl : b < s.heap.size) (hbA : ¬ eA E b) (hLs : Ls ≤ 3072) {Q : State → Prop} {i B : Nat} (hi : i + 6 ≤ Ls) (hB9 : 9999 ≤ B) (hB : B + 300000 < 2 ^ 31) {σ : SM} (hr : Rel B σ) {cells slots : Nat} (hc : cells + 3 ≤ 601024 ∧ slots + 18 ≤ 7293034) {H : Heap} {locs : List Loc} (hp : Hp E σ s H locs) {ls : Array Slot} (hl : lv_has ls 9 (LL b E i))
    (K : ∀ (τ : SM) (H : Heap) (locs : List Loc) (ls : Array Slot), Rel (B + 196020) τ → Hp E τ s H locs → lv_has ls 9 (LL b E i) → W p l e room_1 s m #[Value.ref b] below meth c H locs (cells + 3) (slots + 18) Q (F0 m 2958 ls [])) : W p l e room_1 s m #[Value.ref b] below meth c H locs cells slots Q (F0 m 2850 ls []) := by
  have hx := cx.1.1
  have hb := cx.1.2.1
  obtain ⟨r, ρ', e1, e2, hr9⟩ := P_outputByte hr (xs (i + 1))
  refine lv_aload_n hx hb dL_law_2850 rfl (lv_at hl 1 rfl) ?_
  refine lv_aload_n hx hb dL_law_2851 rfl (lv_at hl 0 rfl) ?_
  refine lv_iload hx hb dL_law_2852 (lv_at hl 4 rfl) ?_
  refine lv_iconst (v := 1) hx hb dL_law_2854 (by decide) ?_
  refine lv_iadd hx hb dL_law_2855 ?_
  refine s_ld (k := 1) rfl (by decide) hi hLs SX hbl hbA cx hp dL_law_2856 ?_
  refine x_i hp (y_V (As := [.int (xs (i + 1))]) (rest := []) cx hp hl (c_X12_outputByte l (Nat.le_trans (by decide) hN) hT e1) (cw_L_336 cx rfl rfl ⟨by decide, by decide⟩) (rC_X12 (Nat.le_trans (by decide) hN) cx hp) rfl rfl (Nat.le_of_ble_eq_true rfl) dL_law_2857 ⟨by show _ ≤ 601024; omega, by show _ ≤ 7293034; omega⟩) (fun r9 u H locs hq hp => ?_)
  obtain ⟨rfl, rfl⟩ := hq
  refine lv_aload_n hx hb dL_law_2860 rfl (lv_at hl 2 rfl) ?_
  refine lv_aload_n hx hb dL_law_2861 rfl (lv_at hl 0 rfl) ?_
  refine lv_iload hx hb dL_law_2862 (lv_at hl 4 rfl) ?_
  refine lv_iconst (v := 1) hx hb dL_law_2864 (by decide) ?_
  refine lv_iadd hx hb dL_law_2865 ?_
  refine s_ld (k := 1) rfl (by decide) hi hLs SX hbl hbA cx hp dL_law_2866 ?_
  refine x_i hp (y_V (As := [.int (xs (i + 1))]) (rest := [.int r]) cx hp hl (c_X13_outputByte l (Nat.le_trans (by decide) hN) hT rfl e2) (cw_L_339 cx rfl rfl ⟨by decide, by decide⟩) (rC_X13 (Nat.le_trans (by decide) hN) cx hp) rfl rfl (Nat.le_of_ble_eq_true rfl) dL_law_2867 ⟨by show _ ≤ 601024; omega, by show _ ≤ 7293034; omega⟩) (fun r9 u H locs hq hp => ?_)
  obtain ⟨rfl, hu, hn⟩ := hq
  obtain rfl := us_x hu hn
  refine lv_icmp_eq (tgt := 2958) hx hb dL_law_2870 (by decide) (fun _ => ?_) (fun c9 => absurd rfl c9)
  refine W.widen (k := cells + 3) (n := slots + 18) (by omega) (by omega) ?_
  exact K _ H locs ls (hr9.mono (by omega)) hp hl
set_option maxRecDepth 100000 in
set_option maxHeartbeats 4000000 in
theorem k_58 {p : Program} {l : Launch} {e : Env} {s : State} {m : MethodId} {below : List Frame} {meth : Method} {c : Code} {E : Ev} {b Ls : Nat} {xs : Nat → Int32} (hlf : l.stackTraces = false) (hN : 147 ≤ eN E) (hT : St E) (hC : NC E) (cx : Cx E p s m meth c #[Value.ref b] RL cL_law 9 (some .boolean)) (SX : va_X b Ls xs s s.heap) (hbl : b < s.heap.size) (hbA : ¬ eA E b) (hLs : Ls ≤ 3072) {Q : State → Prop} {i B : Nat} (hi : i + 6 ≤ Ls) (hB9 : 9999 ≤ B) (hB : B + 300000 < 2 ^ 31) {σ : SM} (hr : Rel B σ) {cells slots : Nat} (hc : cells + 3 ≤ 601024 ∧ slots + 18 ≤ 7293034) {H : Heap} {locs : List Loc} (hp : Hp E σ s H locs) {ls : Array Slot} (hl : lv_has ls 9 (LL b E i))
    (K : ∀ (τ : SM) (H : Heap) (locs : List Loc) (ls : Array Slot), Rel (B + 196020) τ → Hp E τ s H locs → lv_has ls 9 (LL b E i) → W p l e room_1 s m #[Value.ref b] below meth c H locs (cells + 3) (slots + 18) Q (F0 m 2958 ls [])) : W p l e room_1 s m #[Value.ref b] below meth c H locs cells slots Q (F0 m 2875 ls []) := by
  have hx := cx.1.1
  have hb := cx.1.2.1
  obtain ⟨r, τ, ρ', e1, e2, e20, hr9⟩ := P_undo hr 
  refine lv_aload_n hx hb dL_law_2875 rfl (lv_at hl 1 rfl) ?_
  refine x_i hp (y_V (As := []) (rest := []) cx hp hl (c_X12_undo l (Nat.le_trans (by decide) hN) hT e1) (cw_L_340 cx rfl rfl ⟨by decide, by decide⟩) (rC_X12 (Nat.le_trans (by decide) hN) cx hp) rfl rfl (Nat.le_of_ble_eq_true rfl) dL_law_2876 ⟨by show _ ≤ 601024; omega, by show _ ≤ 7293034; omega⟩) (fun r9 u H locs hq hp => ?_)
  obtain ⟨rfl, rfl⟩ := hq
  refine lv_aload_n hx hb dL_law_2879 rfl (lv_at hl 2 rfl) ?_
  refine x_i hp (y_V (As := []) (rest := [.int r]) cx hp hl (c_X13_undo l (Nat.le_trans (by decide) hN) hT e20 e2) (cw_L_343 cx rfl rfl ⟨by decide, by decide⟩) (rC_X13 (Nat.le_trans (by decide) hN) cx hp) rfl rfl (Nat.le_of_ble_eq_true rfl) dL_law_2880 ⟨by show _ ≤ 601024; omega, by show _ ≤ 7293034; omega⟩) (fun r9 u H locs hq hp => ?_)
  obtain ⟨rfl, hu, hn⟩ := hq
  obtain rfl := us_x hu hn
  refine lv_icmp_eq (tgt := 2958) hx hb dL_law_2883 (by decide) (fun _ => ?_) (fun c9 => absurd rfl c9)
  refine W.widen (k := cells + 3) (n := slots + 18) (by omega) (by omega) ?_
  exact K _ H locs ls (hr9.mono (by omega)) hp hl
set_option maxRecDepth 100000 in
set_option maxHeartbeats 4000000 in
theorem k_59 {p : Program} {l : Launch} {e : Env} {s : State} {m : MethodId} {below : List Frame} {meth : Method} {c : Code} {E : Ev} {b Ls : Nat} {xs : Nat → Int32} (hlf : l.stackTraces = false) (hN : 147 ≤ eN E) (hT : St E) (hC : NC E) (cx : Cx E p s m meth c #[Value.ref b] RL cL_law 9 (some .boolean)) (SX : va_X b Ls xs s s.heap) (hbl : b < s.heap.size) (hbA : ¬ eA E b) (hLs : Ls ≤ 3072) {Q : State → Prop} {i B : Nat} (hi : i + 6 ≤ Ls) (hB9 : 9999 ≤ B) (hB : B + 300000 < 2 ^ 31) {σ : SM} (hr : Rel B σ) {cells slots : Nat} (hc : cells + 3 ≤ 601024 ∧ slots + 18 ≤ 7293034) {H : Heap} {locs : List Loc} (hp : Hp E σ s H locs) {ls : Array Slot} (hl : lv_has ls 9 (LL b E i))
    (K : ∀ (τ : SM) (H : Heap) (locs : List Loc) (ls : Array Slot), Rel (B + 196020) τ → Hp E τ s H locs → lv_has ls 9 (LL b E i) → W p l e room_1 s m #[Value.ref b] below meth c H locs (cells + 3) (slots + 18) Q (F0 m 2958 ls [])) : W p l e room_1 s m #[Value.ref b] below meth c H locs cells slots Q (F0 m 2888 ls []) := by
  have hx := cx.1.1
  have hb := cx.1.2.1
  obtain ⟨r, ρ', e1, e2, hr9⟩ := P_undoCount hr 
  refine lv_aload_n hx hb dL_law_2888 rfl (lv_at hl 1 rfl) ?_
  refine x_i hp (y_V (As := []) (rest := []) cx hp hl (c_X12_undoCount l (Nat.le_trans (by decide) hN) hT e1) (cw_L_344 cx rfl rfl ⟨by decide, by decide⟩) (rC_X12 (Nat.le_trans (by decide) hN) cx hp) rfl rfl (Nat.le_of_ble_eq_true rfl) dL_law_2889 ⟨by show _ ≤ 601024; omega, by show _ ≤ 7293034; omega⟩) (fun r9 u H locs hq hp => ?_)
  obtain ⟨rfl, rfl⟩ := hq
  refine lv_aload_n hx hb dL_law_2892 rfl (lv_at hl 2 rfl) ?_
  refine x_i hp (y_V (As := []) (rest := [.int r]) cx hp hl (c_X13_undoCount l (Nat.le_trans (by decide) hN) hT rfl e2) (cw_L_347 cx rfl rfl ⟨by decide, by decide⟩) (rC_X13 (Nat.le_trans (by decide) hN) cx hp) rfl rfl (Nat.le_of_ble_eq_true rfl) dL_law_2893 ⟨by show _ ≤ 601024; omega, by show _ ≤ 7293034; omega⟩) (fun r9 u H locs hq hp => ?_)
  obtain ⟨rfl, hu, hn⟩ := hq
  obtain rfl := us_x hu hn
  refine lv_icmp_eq (tgt := 2958) hx hb dL_law_2896 (by decide) (fun _ => ?_) (fun c9 => absurd rfl c9)
  refine W.widen (k := cells + 3) (n := slots + 18) (by omega) (by omega) ?_
  exact K _ H locs ls (hr9.mono (by omega)) hp hl
set_option maxRecDepth 100000 in
set_option maxHeartbeats 4000000 in
theorem k_60 {p : Program} {l : Launch} {e : Env} {s : State} {m : MethodId} {below : List Frame} {meth : Method} {c : Code} {E : Ev} {b Ls : Nat} {xs : Nat → Int32} (hlf : l.stackTraces = false) (hN : 147 ≤ eN E) (hT : St E) (hC : NC E) (cx : Cx E p s m meth c #[Value.ref b] RL cL_law 9 (some .boolean)) (SX : va_X b Ls xs s s.heap) (hbl : b < s.heap.size) (hbA : ¬ eA E b) (hLs : Ls ≤ 3072) {Q : State → Prop} {i B : Nat} (hi : i + 6 ≤ Ls) (hB9 : 9999 ≤ B) (hB : B + 300000 < 2 ^ 31) {σ : SM} (hr : Rel B σ) {cells slots : Nat} (hc : cells + 3 ≤ 601024 ∧ slots + 18 ≤ 7293034) {H : Heap} {locs : List Loc} (hp : Hp E σ s H locs) {ls : Array Slot} (hl : lv_has ls 9 (LL b E i))
    (K : ∀ (τ : SM) (H : Heap) (locs : List Loc) (ls : Array Slot), Rel (B + 196020) τ → Hp E τ s H locs → lv_has ls 9 (LL b E i) → W p l e room_1 s m #[Value.ref b] below meth c H locs (cells + 3) (slots + 18) Q (F0 m 2958 ls [])) : W p l e room_1 s m #[Value.ref b] below meth c H locs cells slots Q (F0 m 2901 ls []) := by
  have hx := cx.1.1
  have hb := cx.1.2.1
  obtain ⟨r, τ, ρ', e1, e2, e20, hr9⟩ := P_save hr 
  refine lv_aload_n hx hb dL_law_2901 rfl (lv_at hl 1 rfl) ?_
  refine x_i hp (y_V (As := []) (rest := []) cx hp hl (c_X12_save l (Nat.le_trans (by decide) hN) hT e1) (cw_L_348 cx rfl rfl ⟨by decide, by decide⟩) (rC_X12 (Nat.le_trans (by decide) hN) cx hp) rfl rfl (Nat.le_of_ble_eq_true rfl) dL_law_2902 ⟨by show _ ≤ 601024; omega, by show _ ≤ 7293034; omega⟩) (fun r9 u H locs hq hp => ?_)
  obtain ⟨rfl, rfl⟩ := hq
  refine lv_aload_n hx hb dL_law_2905 rfl (lv_at hl 2 rfl) ?_
  refine x_i hp (y_V (As := []) (rest := [.int r]) cx hp hl (c_X13_save l (Nat.le_trans (by decide) hN) hT e20 e2) (cw_L_351 cx rfl rfl ⟨by decide, by decide⟩) (rC_X13 (Nat.le_trans (by decide) hN) cx hp) rfl rfl (Nat.le_of_ble_eq_true rfl) dL_law_2906 ⟨by show _ ≤ 601024; omega, by show _ ≤ 7293034; omega⟩) (fun r9 u H locs hq hp => ?_)
  obtain ⟨rfl, hu, hn⟩ := hq
  obtain rfl := us_x hu hn
  refine lv_icmp_eq (tgt := 2958) hx hb dL_law_2909 (by decide) (fun _ => ?_) (fun c9 => absurd rfl c9)
  refine W.widen (k := cells + 3) (n := slots + 18) (by omega) (by omega) ?_
  exact K _ H locs ls (hr9.mono (by omega)) hp hl
set_option maxRecDepth 100000 in
set_option maxHeartbeats 4000000 in
theorem k_61 {p : Program} {l : Launch} {e : Env} {s : State} {m : MethodId} {below : List Frame} {meth : Method} {c : Code} {E : Ev} {b Ls : Nat} {xs : Nat → Int32} (hlf : l.stackTraces = false) (hN : 147 ≤ eN E) (hT : St E) (hC : NC E) (cx : Cx E p s m meth c #[Value.ref b] RL cL_law 9 (some .boolean)) (SX : va_X b Ls xs s s.heap) (hbl : b < s.heap.size) (hbA : ¬ eA E b) (hLs : Ls ≤ 3072) {Q : State → Prop} {i B : Nat} (hi : i + 6 ≤ Ls) (hB9 : 9999 ≤ B) (hB : B + 300000 < 2 ^ 31) {σ : SM} (hr : Rel B σ) {cells slots : Nat} (hc : cells + 3 ≤ 601024 ∧ slots + 18 ≤ 7293034) {H : Heap} {locs : List Loc} (hp : Hp E σ s H locs) {ls : Array Slot} (hl : lv_has ls 9 (LL b E i))
    (K : ∀ (τ : SM) (H : Heap) (locs : List Loc) (ls : Array Slot), Rel (B + 196020) τ → Hp E τ s H locs → lv_has ls 9 (LL b E i) → W p l e room_1 s m #[Value.ref b] below meth c H locs (cells + 3) (slots + 18) Q (F0 m 2958 ls [])) : W p l e room_1 s m #[Value.ref b] below meth c H locs cells slots Q (F0 m 2914 ls []) := by
  have hx := cx.1.1
  have hb := cx.1.2.1
  obtain ⟨z, r, ρ', σ', e1, e2, hz, e20, hr9, ho⟩ := fs_two (Nat.le_refl B) oI (by decide) (P_restore hr )
  refine lv_aload_n hx hb dL_law_2914 rfl (lv_at hl 1 rfl) ?_
  refine lv_aload_n hx hb dL_law_2915 rfl (lv_at hl 3 rfl) ?_
  refine x_iM hp (y_SW (As := [.ref (adr E 19 0), .ref (adr E 21 0)]) (rest := []) cx hp hl (c_L_restore l hN hT hlf hC e1 hz) (cwS_L_restore cx ⟨by decide, by decide⟩) rfl rfl (Nat.le_of_ble_eq_true rfl) dL_law_2916 ⟨by show _ ≤ 601024; omega, by show _ ≤ 7293034; omega⟩) (fun r9 u H locs hq hp => ?_)
  obtain ⟨rfl, rfl⟩ := hq
  refine lv_istore (lv' := [(5, .int (ρ'.1 0 12)), (0, .ref b), (1, .ref (adr E 19 0)), (2, .ref (adr E 20 0)), (3, .ref (adr E 21 0)), (4, .int (nI i))]) hx hb dL_law_2919 hl (by decide) rfl (fun ls hl => ?_)
  refine lv_aload_n hx hb dL_law_2921 rfl (lv_at hl 3 rfl) ?_
  refine x_i hp (y_V (As := []) (rest := []) cx hp hl (c_X13_restore l (Nat.le_trans (by decide) hN) hT e20 e2) (cw_L_355 cx rfl rfl ⟨by decide, by decide⟩) (rC_X13 (Nat.le_trans (by decide) hN) cx hp) rfl rfl (Nat.le_of_ble_eq_true rfl) dL_law_2922 ⟨by show _ ≤ 601024; omega, by show _ ≤ 7293034; omega⟩) (fun r9 u H locs hq hp => ?_)
  obtain ⟨rfl, hu, hn⟩ := hq
  obtain rfl := us_x hu hn
  refine lv_istore (lv' := [(6, .int r), (5, .int (ρ'.1 0 12)), (0, .ref b), (1, .ref (adr E 19 0)), (2, .ref (adr E 20 0)), (3, .ref (adr E 21 0)), (4, .int (nI i))]) hx hb dL_law_2925 hl (by decide) rfl (fun ls hl => ?_)
  refine lv_aload_n hx hb dL_law_2927 rfl (lv_at hl 4 rfl) ?_
  refine x_i hp (y_V (As := []) (rest := []) cx hp hl (c_X13_thrown l (Nat.le_trans (by decide) hN) hT (us_s _ _ _) rfl) (cw_L_136 cx rfl rfl ⟨by decide, by decide⟩) (rC_X13 (Nat.le_trans (by decide) hN) cx hp) rfl rfl (Nat.le_of_ble_eq_true rfl) dL_law_2928 ⟨by show _ ≤ 601024; omega, by show _ ≤ 7293034; omega⟩) (fun r9 u H locs hq hp => ?_)
  obtain ⟨rfl, rfl⟩ := hq
  refine lv_iload hx hb dL_law_2931 (lv_at hl 1 rfl) ?_
  refine lv_icmp_eq (tgt := 2938) hx hb dL_law_2933 (by decide) (fun _ => ?_) (fun c9 => absurd rfl c9)
  refine lv_iload hx hb dL_law_2938 (lv_at hl 1 rfl) ?_
  refine lv_if_ne (tgt := 2955) hx hb dL_law_2940 (by decide) (fun c9 => ?_) (fun c9 => ?_)
  · skip
    refine lv_goto (tgt := 2958) hx hb dL_law_2955 (by decide) ?_
    refine W.widen (k := cells + 3) (n := slots + 18) (by omega) (by omega) ?_
    exact K _ H locs ls (hr9.mono (by omega)) hp (lv_sub hl [2, 3, 4, 5, 6] rfl)
  · skip
    refine lv_aload_n hx hb dL_law_2943 rfl (lv_at hl 5 rfl) ?_
    refine lv_iconst (v := 0) hx hb dL_law_2944 (by decide) ?_
    refine l_out hN cx hp (x := oI r) (by rw [us_n (by decide)]; exact ho (c9.trans nI_0.symm)) dL_law_2945 ?_
    refine lv_iload hx hb dL_law_2946 (lv_at hl 0 rfl) ?_
    refine lv_i2l hx hb dL_law_2948 rfl ?_
    refine W.lcmp hx hb dL_law_2949 ?_
    refine lv_if_eq (tgt := 2955) hx hb dL_law_2950 (by decide) (fun _ => ?_) (fun c8 => absurd (lgc_rf _) c8)
    refine lv_goto (tgt := 2958) hx hb dL_law_2955 (by decide) ?_
    refine W.widen (k := cells + 3) (n := slots + 18) (by omega) (by omega) ?_
    exact K _ H locs ls (hr9.mono (by omega)) hp (lv_sub hl [2, 3, 4, 5, 6] rfl)

abbrev rm_X12_appendInput : Room := { frames := 6, cells := 1, slots := 6, locals := 82 }
set_option maxRecDepth 100000 in
set_option maxHeartbeats 4000000 in
theorem c_X12_appendInput (l : Launch) {E : Ev} (hN : 130 ≤ eN E) (hT : St E) (hlf : l.stackTraces = false) {σ : SM} {p1 : Int32} {p2 : Int32} {p3 : Int32} {p4 : Int32} {p5 : Int32} {z : Nat ⊕ (Int32 × SM)} (hf : f_X12_appendInput p1 p2 p3 p4 p5 σ = some z) : vx_Met l yX12_appendInput (wC yX12_appendInput cX12_appendInput 7 (some .int)) rm_X12_appendInput (va_Pc [.ref (adr E 19 0), .int p1, .int p2, .int p3, .int p4, .int p5] (Wu E σ)) (va_Qi (fun r u => z = .inr (r, u)) (fun u t => Wu E u t) (eA E)) (XT E σ (fun k => z = .inl k)) 1 6 (eA E) := by
  refine gx_entry (lv := [(0, .ref (adr E 19 0)), (1, .int p1), (2, .int p2), (3, .int p3), (4, .int p4), (5, .int p5)]) (by decide) (Nat.le_of_ble_eq_true rfl) rfl ?_
  intro p e s m below meth c cx hxt hp ls hl
  have hx := cx.1.1
  have hb := cx.1.2.1
  unfold f_X12_appendInput at hf
  refine lv_aload_n hx hb dX12_appendInput_0 rfl (lv_at hl 0 rfl) ?_
  refine gF_X12_95 rfl hN cx hp dX12_appendInput_1 ?_
  refine gF_X12_69 rfl (Nat.le_trans (by decide) hN) cx hp dX12_appendInput_4 ?_
  refine gF_X12_73 rfl (Nat.le_trans (by decide) hN) cx hp dX12_appendInput_7 ?_
  refine lv_astore (lv' := [(6, .ref (adr E 13 0)), (0, .ref (adr E 19 0)), (1, .int p1), (2, .int p2), (3, .int p3), (4, .int p4), (5, .int p5)]) hx hb dX12_appendInput_10 hl (by decide) rfl (fun ls hl => ?_)
  refine lv_aload hx hb dX12_appendInput_12 (lv_at hl 0 rfl) ?_
  refine gF_X12_102_13 rfl (Nat.le_trans (by decide) hN) cx hp dX12_appendInput_14 ?_
  refine lv_sipush (v := 680) hx hb dX12_appendInput_17 (by decide) ?_
  refine lv_icmp_le (tgt := 33) hx hb dX12_appendInput_20 (by decide) (fun c1 => ?_) (fun c1 => ?_)
  · have hf := fp hf c1
    refine lv_aload hx hb dX12_appendInput_33 (lv_at hl 0 rfl) ?_
    refine lv_iload_n hx hb dX12_appendInput_35 rfl (lv_at hl 2 rfl) ?_
    obtain ⟨m2, hc, hf⟩ := fb hf
    refine x_v hp (y_V (As := [.int p1]) (rest := []) cx hp hl (c_X2_addWord_13 l (Nat.le_trans (by decide) hN) hT rfl hc) (cw_X12_112 cx (mc := 0) (ms := 0) rfl rfl ⟨by decide, by decide⟩) (rC_X2_13 (Nat.le_trans (by decide) hN) cx hp) rfl rfl (Nat.le_of_ble_eq_true rfl) dX12_appendInput_36 ⟨by decide, by decide⟩) (fun u_c H locs hq hp => ?_)
    obtain ⟨e_0, n_u⟩ := hq
    obtain ⟨σ3, e_l, hf⟩ := fl hf
    obtain rfl := ((us_x e_0 n_u).trans e_l).symm
    refine lv_aload hx hb dX12_appendInput_39 (lv_at hl 0 rfl) ?_
    refine lv_iload_n hx hb dX12_appendInput_41 rfl (lv_at hl 3 rfl) ?_
    obtain ⟨m4, hc, hf⟩ := fb hf
    refine x_v hp (y_V (As := [.int p2]) (rest := []) cx hp hl (c_X2_addWord_13 l (Nat.le_trans (by decide) hN) hT rfl hc) (cw_X12_112 cx (mc := 0) (ms := 0) rfl rfl ⟨by decide, by decide⟩) (rC_X2_13 (Nat.le_trans (by decide) hN) cx hp) rfl rfl (Nat.le_of_ble_eq_true rfl) dX12_appendInput_42 ⟨by decide, by decide⟩) (fun u_c H locs hq hp => ?_)
    obtain ⟨e_0, n_u⟩ := hq
    obtain ⟨σ5, e_l, hf⟩ := fl hf
    obtain rfl := ((us_x e_0 n_u).trans e_l).symm
    refine lv_aload hx hb dX12_appendInput_45 (lv_at hl 0 rfl) ?_
    refine lv_iload_n hx hb dX12_appendInput_47 rfl (lv_at hl 4 rfl) ?_
    obtain ⟨m6, hc, hf⟩ := fb hf
    refine x_v hp (y_V (As := [.int p3]) (rest := []) cx hp hl (c_X2_addWord_13 l (Nat.le_trans (by decide) hN) hT rfl hc) (cw_X12_112 cx (mc := 0) (ms := 0) rfl rfl ⟨by decide, by decide⟩) (rC_X2_13 (Nat.le_trans (by decide) hN) cx hp) rfl rfl (Nat.le_of_ble_eq_true rfl) dX12_appendInput_48 ⟨by decide, by decide⟩) (fun u_c H locs hq hp => ?_)
    obtain ⟨e_0, n_u⟩ := hq
    obtain ⟨σ7, e_l, hf⟩ := fl hf
    obtain rfl := ((us_x e_0 n_u).trans e_l).symm
    refine lv_aload hx hb dX12_appendInput_51 (lv_at hl 0 rfl) ?_
    refine lv_iload hx hb dX12_appendInput_53 (lv_at hl 5 rfl) ?_
    obtain ⟨m8, hc, hf⟩ := fb hf
    refine x_v hp (y_V (As := [.int p4]) (rest := []) cx hp hl (c_X2_addWord_13 l (Nat.le_trans (by decide) hN) hT rfl hc) (cw_X12_112 cx (mc := 0) (ms := 0) rfl rfl ⟨by decide, by decide⟩) (rC_X2_13 (Nat.le_trans (by decide) hN) cx hp) rfl rfl (Nat.le_of_ble_eq_true rfl) dX12_appendInput_55 ⟨by decide, by decide⟩) (fun u_c H locs hq hp => ?_)
    obtain ⟨e_0, n_u⟩ := hq
    obtain ⟨σ9, e_l, hf⟩ := fl hf
    obtain rfl := ((us_x e_0 n_u).trans e_l).symm
    refine lv_aload hx hb dX12_appendInput_58 (lv_at hl 0 rfl) ?_
    refine lv_iload hx hb dX12_appendInput_60 (lv_at hl 6 rfl) ?_
    obtain ⟨m10, hc, hf⟩ := fb hf
    refine x_v hp (y_V (As := [.int p5]) (rest := []) cx hp hl (c_X2_addWord_13 l (Nat.le_trans (by decide) hN) hT rfl hc) (cw_X12_112 cx (mc := 0) (ms := 0) rfl rfl ⟨by decide, by decide⟩) (rC_X2_13 (Nat.le_trans (by decide) hN) cx hp) rfl rfl (Nat.le_of_ble_eq_true rfl) dX12_appendInput_62 ⟨by decide, by decide⟩) (fun u_c H locs hq hp => ?_)
    obtain ⟨e_0, n_u⟩ := hq
    obtain ⟨σ11, e_l, hf⟩ := fl hf
    obtain rfl := ((us_x e_0 n_u).trans e_l).symm
    refine lv_aload hx hb dX12_appendInput_65 (lv_at hl 0 rfl) ?_
    refine gF_X12_102_13 rfl (Nat.le_trans (by decide) hN) cx hp dX12_appendInput_67 ?_
    cases hf
    refine vx_ret ?_
    refine W.widen (k := 1) (n := 6) (by decide) (by decide) ?_
    exact r_i cx hp rfl dX12_appendInput_70
  · have hf := fn hf c1
    cases hf
    exact t_S (k := 0) hlf hT cx hp hl.1 hxt xw_0 (cx.2.2.1.2.2.2.1 6 _ rfl) rfl dX12_appendInput_23 dX12_appendInput_26 dX12_appendInput_27 dX12_appendInput_29 dX12_appendInput_32 ⟨by decide, Nat.le_of_ble_eq_true rfl, by decide, by decide⟩ (by decide) (by decide)
abbrev rm_X12_truncateInput : Room := { frames := 6, cells := 1, slots := 6, locals := 82 }
set_option maxRecDepth 100000 in
set_option maxHeartbeats 4000000 in
theorem c_X12_truncateInput (l : Launch) {E : Ev} (hN : 130 ≤ eN E) (hT : St E) (hlf : l.stackTraces = false) {σ : SM} {p1 : Int32} {z : Nat ⊕ (Int32 × SM)} (hf : f_X12_truncateInput p1 σ = some z) : vx_Met l yX12_truncateInput (wC yX12_truncateInput cX12_truncateInput 3 (some .int)) rm_X12_truncateInput (va_Pc [.ref (adr E 19 0), .int p1] (Wu E σ)) (va_Qi (fun r u => z = .inr (r, u)) (fun u t => Wu E u t) (eA E)) (XT E σ (fun k => z = .inl k)) 1 6 (eA E) := by
  refine gx_entry (lv := [(0, .ref (adr E 19 0)), (1, .int p1)]) (by decide) (Nat.le_of_ble_eq_true rfl) rfl ?_
  intro p e s m below meth c cx hxt hp ls hl
  have hx := cx.1.1
  have hb := cx.1.2.1
  unfold f_X12_truncateInput at hf
  refine lv_aload_n hx hb dX12_truncateInput_0 rfl (lv_at hl 0 rfl) ?_
  refine gF_X12_95 rfl hN cx hp dX12_truncateInput_1 ?_
  refine gF_X12_69 rfl (Nat.le_trans (by decide) hN) cx hp dX12_truncateInput_4 ?_
  refine gF_X12_73 rfl (Nat.le_trans (by decide) hN) cx hp dX12_truncateInput_7 ?_
  refine lv_astore_n (lv' := [(2, .ref (adr E 13 0)), (0, .ref (adr E 19 0)), (1, .int p1)]) hx hb dX12_truncateInput_10 rfl hl (by decide) rfl (fun ls hl => ?_)
  refine lv_iload_n hx hb dX12_truncateInput_11 rfl (lv_at hl 2 rfl) ?_
  refine lv_if_lt (tgt := 23) hx hb dX12_truncateInput_12 (by decide) (fun c1 => ?_) (fun c1 => ?_)
  · have hf := fp hf c1
    cases hf
    exact t_S (k := 1) hlf hT cx hp hl.1 hxt xw_1 (cx.2.2.1.2.2.2.1 7 _ rfl) rfl dX12_truncateInput_23 dX12_truncateInput_26 dX12_truncateInput_27 dX12_truncateInput_29 dX12_truncateInput_32 ⟨by decide, Nat.le_of_ble_eq_true rfl, by decide, by decide⟩ (by decide) (by decide)
  · have hf := fn hf c1
    refine lv_iload_n hx hb dX12_truncateInput_15 rfl (lv_at hl 2 rfl) ?_
    refine lv_aload_n hx hb dX12_truncateInput_16 rfl (lv_at hl 0 rfl) ?_
    refine gF_X12_102_13 rfl (Nat.le_trans (by decide) hN) cx hp dX12_truncateInput_17 ?_
    refine lv_icmp_le (tgt := 33) hx hb dX12_truncateInput_20 (by decide) (fun c2 => ?_) (fun c2 => ?_)
    · have hf := fp hf c2
      refine lv_aload_n hx hb dX12_truncateInput_33 rfl (lv_at hl 0 rfl) ?_
      refine lv_iload_n hx hb dX12_truncateInput_34 rfl (lv_at hl 2 rfl) ?_
      obtain ⟨m3, hc, hf⟩ := fb hf
      refine x_v hp (y_V (As := [.int p1]) (rest := []) cx hp hl (c_X2_cut_13 l (Nat.le_trans (by decide) hN) hT rfl hc) (cw_X12_92 cx (mc := 0) (ms := 0) rfl rfl ⟨by decide, by decide⟩) (rC_X2_13 (Nat.le_trans (by decide) hN) cx hp) rfl rfl (Nat.le_of_ble_eq_true rfl) dX12_truncateInput_35 ⟨by decide, by decide⟩) (fun u_c H locs hq hp => ?_)
      obtain ⟨e_0, n_u⟩ := hq
      obtain ⟨σ4, e_l, hf⟩ := fl hf
      obtain rfl := ((us_x e_0 n_u).trans e_l).symm
      refine lv_aload_n hx hb dX12_truncateInput_38 rfl (lv_at hl 0 rfl) ?_
      refine gF_X12_102_13 rfl (Nat.le_trans (by decide) hN) cx hp dX12_truncateInput_39 ?_
      cases hf
      refine vx_ret ?_
      refine W.widen (k := 1) (n := 6) (by decide) (by decide) ?_
      exact r_i cx hp rfl dX12_truncateInput_42
    · have hf := fn hf c2
      cases hf
      exact t_S (k := 1) hlf hT cx hp hl.1 hxt xw_1 (cx.2.2.1.2.2.2.1 7 _ rfl) rfl dX12_truncateInput_23 dX12_truncateInput_26 dX12_truncateInput_27 dX12_truncateInput_29 dX12_truncateInput_32 ⟨by decide, Nat.le_of_ble_eq_true rfl, by decide, by decide⟩ (by decide) (by decide)
abbrev rm_X12_loadSetup : Room := { frames := 10, cells := 0, slots := 0, locals := 222 }
set_option maxRecDepth 100000 in
set_option maxHeartbeats 4000000 in
theorem c_X12_loadSetup (l : Launch) {E : Ev} (hN : 130 ≤ eN E) (hT : St E) {σ : SM}  {rv : Int32} {σ' : SM} (hf : f_X12_loadSetup σ = some (rv, σ')) : Met l yX12_loadSetup (wC yX12_loadSetup cX12_loadSetup 2 (some .int)) rm_X12_loadSetup (va_Pc [.ref (adr E 19 0)] (Wu E σ)) (va_Qi (fun r u => rv = r ∧ σ' = u) (fun u t => Wu E u t) (eA E)) 0 0 (eA E) := by
  refine g_entry (lv := [(0, .ref (adr E 19 0))]) (by decide) (Nat.le_of_ble_eq_true rfl) rfl ?_
  intro p e s m below meth c cx hp ls hl
  have hx := cx.1.1
  have hb := cx.1.2.1
  unfold f_X12_loadSetup at hf
  refine lv_aload_n hx hb dX12_loadSetup_0 rfl (lv_at hl 0 rfl) ?_
  refine gF_X12_95 rfl hN cx hp dX12_loadSetup_1 ?_
  refine lv_aload_n hx hb dX12_loadSetup_4 rfl (lv_at hl 0 rfl) ?_
  refine gF_X12_26 rfl hN cx hp dX12_loadSetup_5 ?_
  obtain ⟨r1, m2, m3, m4, hc, hf⟩ := fb4 hf
  refine x_i hp (y_S (As := [.ref (adr E 11 0), .ref (adr E 1 0)]) (rest := []) cx hp hl (c_X9_read l (Nat.le_trans (by decide) hN) hT (by decide) rfl rfl rfl rfl hc) (cw_X12_86 cx (mc := 0) (ms := 0) rfl rfl ⟨by decide, by decide⟩) rfl rfl (Nat.le_of_ble_eq_true rfl) dX12_loadSetup_8 ⟨Nat.zero_le _, Nat.zero_le _⟩) (fun r_c u_c H locs hq hp => ?_)
  obtain ⟨rfl, e_0, e_1, e_2, n_u⟩ := hq
  obtain ⟨σ5, e_l, hf⟩ := fl hf
  obtain rfl := ((us_x3 e_0 e_1 e_2 n_u).trans e_l).symm
  refine lv_istore_n (lv' := [(1, .int r1), (0, .ref (adr E 19 0))]) hx hb dX12_loadSetup_11 rfl hl (by decide) rfl (fun ls hl => ?_)
  refine lv_aload_n hx hb dX12_loadSetup_12 rfl (lv_at hl 1 rfl) ?_
  refine gF_X12_95 rfl hN cx hp dX12_loadSetup_13 ?_
  refine gF_X12_69 rfl (Nat.le_trans (by decide) hN) cx hp dX12_loadSetup_16 ?_
  refine gF_X12_73 rfl (Nat.le_trans (by decide) hN) cx hp dX12_loadSetup_19 ?_
  refine lv_iconst (v := 0) hx hb dX12_loadSetup_22 (by decide) ?_
  obtain ⟨m6, hc, hf⟩ := fb hf
  refine x_v hp (y_V (As := [.int 0]) (rest := []) cx hp hl (c_X2_cut_13 l (Nat.le_trans (by decide) hN) hT rfl hc) (cw_X12_92 cx (mc := 0) (ms := 0) rfl rfl ⟨by decide, by decide⟩) (rC_X2_13 (Nat.le_trans (by decide) hN) cx hp) rfl rfl (Nat.le_of_ble_eq_true rfl) dX12_loadSetup_23 ⟨Nat.zero_le _, Nat.zero_le _⟩) (fun u_c H locs hq hp => ?_)
  obtain ⟨e_0, n_u⟩ := hq
  obtain ⟨σ7, e_l, hf⟩ := fl hf
  obtain rfl := ((us_x e_0 n_u).trans e_l).symm
  refine lv_iload_n hx hb dX12_loadSetup_26 rfl (lv_at hl 0 rfl) ?_
  refine lv_if_ne (tgt := 32) hx hb dX12_loadSetup_27 (by decide) (fun c8 => ?_) (fun c8 => ?_)
  · have hf := fn hf c8
    refine lv_aload_n hx hb dX12_loadSetup_32 rfl (lv_at hl 1 rfl) ?_
    refine gF_X12_26 rfl hN cx hp dX12_loadSetup_33 ?_
    refine lv_aload_n hx hb dX12_loadSetup_36 rfl (lv_at hl 1 rfl) ?_
    refine gF_X12_99 rfl hN cx hp dX12_loadSetup_37 ?_
    obtain ⟨m9, hc, hf⟩ := fb hf
    refine x_v hp (y_S (As := [.ref (adr E 1 0), .ref (adr E 0 0)]) (rest := []) cx hp hl (c_X5_copy l (Nat.le_trans (by decide) hN) hT (by decide) rfl (by decide) rfl (by decide) hc) (cw_X12_120 cx (mc := 0) (ms := 0) rfl rfl ⟨by decide, by decide⟩) rfl rfl (Nat.le_of_ble_eq_true rfl) dX12_loadSetup_40 ⟨Nat.zero_le _, Nat.zero_le _⟩) (fun u_c H locs hq hp => ?_)
    obtain ⟨e_0, n_u⟩ := hq
    obtain ⟨σ10, e_l, hf⟩ := fl hf
    obtain rfl := ((us_x e_0 n_u).trans e_l).symm
    refine lv_aload_n hx hb dX12_loadSetup_43 rfl (lv_at hl 1 rfl) ?_
    refine gF_X12_40 rfl hN cx hp dX12_loadSetup_44 ?_
    obtain ⟨σ11, hc, hf⟩ := fb hf
    refine x_v hp (y_V (As := []) (rest := []) cx hp hl (c_X4_clear l (Nat.le_trans (by decide) hN) hT  hc) (cw_X12_124 cx (mc := 0) (ms := 0) rfl rfl ⟨by decide, by decide⟩) (rC_X4 (Nat.le_trans (by decide) hN) cx hp) rfl rfl (Nat.le_of_ble_eq_true rfl) dX12_loadSetup_47 ⟨Nat.zero_le _, Nat.zero_le _⟩) (fun u_c H locs hq hp => ?_)
    obtain rfl := hq
    refine lv_aload_n hx hb dX12_loadSetup_50 rfl (lv_at hl 1 rfl) ?_
    refine gF_X12_99 rfl hN cx hp dX12_loadSetup_51 ?_
    refine gF_X12_127 (by decide) rfl (Nat.le_trans (by decide) hN) cx hp dX12_loadSetup_54 ?_
    cases hf
    exact r_i cx hp ⟨rfl, rfl⟩ dX12_loadSetup_57
  · have hf := fp hf c8
    refine lv_iconst (v := (-1)) hx hb dX12_loadSetup_30 (by decide) ?_
    cases hf
    exact r_i cx hp ⟨rfl, rfl⟩ dX12_loadSetup_31
abbrev rm_X12_runScript : Room := { frames := 10, cells := 0, slots := 0, locals := 220 }
set_option maxRecDepth 100000 in
set_option maxHeartbeats 4000000 in
theorem c_X12_runScript (l : Launch) {E : Ev} (hN : 130 ≤ eN E) (hT : St E) {σ : SM}  {rv : Int32} {σ' : SM} (hf : f_X12_runScript σ = some (rv, σ')) : Met l yX12_runScript (wC yX12_runScript cX12_runScript 2 (some .int)) rm_X12_runScript (va_Pc [.ref (adr E 19 0)] (Wu E σ)) (va_Qi (fun r u => rv = r ∧ σ' = u) (fun u t => Wu E u t) (eA E)) 0 0 (eA E) := by
  refine g_entry (lv := [(0, .ref (adr E 19 0))]) (by decide) (Nat.le_of_ble_eq_true rfl) rfl ?_
  intro p e s m below meth c cx hp ls hl
  have hx := cx.1.1
  have hb := cx.1.2.1
  unfold f_X12_runScript at hf
  refine lv_aload_n hx hb dX12_runScript_0 rfl (lv_at hl 0 rfl) ?_
  refine gF_X12_19 rfl hN cx hp dX12_runScript_1 ?_
  refine lv_aload_n hx hb dX12_runScript_4 rfl (lv_at hl 0 rfl) ?_
  refine gF_X12_95 rfl hN cx hp dX12_runScript_5 ?_
  refine lv_aload_n hx hb dX12_runScript_8 rfl (lv_at hl 0 rfl) ?_
  refine gF_X12_99 rfl hN cx hp dX12_runScript_9 ?_
  obtain ⟨r1, m2, m3, m4, hc, hf⟩ := fb4 hf
  refine x_i hp (y_V (As := [.ref (adr E 11 0), .ref (adr E 0 0)]) (rest := []) cx hp hl (c_X8_read l (Nat.le_trans (by decide) hN) hT (by decide) rfl rfl rfl rfl rfl hc) (cw_X12_130 cx (mc := 0) (ms := 0) rfl rfl ⟨by decide, by decide⟩) (rC_X8 (Nat.le_trans (by decide) hN) cx hp) rfl rfl (Nat.le_of_ble_eq_true rfl) dX12_runScript_12 ⟨Nat.zero_le _, Nat.zero_le _⟩) (fun r_c u_c H locs hq hp => ?_)
  obtain ⟨rfl, e_0, e_1, e_2, n_u⟩ := hq
  obtain ⟨σ5, e_l, hf⟩ := fl hf
  obtain rfl := ((us_x3 e_0 e_1 e_2 n_u).trans e_l).symm
  refine lv_istore_n (lv' := [(1, .int r1), (0, .ref (adr E 19 0))]) hx hb dX12_runScript_15 rfl hl (by decide) rfl (fun ls hl => ?_)
  refine lv_aload_n hx hb dX12_runScript_16 rfl (lv_at hl 1 rfl) ?_
  refine gF_X12_95 rfl hN cx hp dX12_runScript_17 ?_
  refine gF_X12_69 rfl (Nat.le_trans (by decide) hN) cx hp dX12_runScript_20 ?_
  refine gF_X12_73 rfl (Nat.le_trans (by decide) hN) cx hp dX12_runScript_23 ?_
  refine lv_iconst (v := 0) hx hb dX12_runScript_26 (by decide) ?_
  obtain ⟨m6, hc, hf⟩ := fb hf
  refine x_v hp (y_V (As := [.int 0]) (rest := []) cx hp hl (c_X2_cut_13 l (Nat.le_trans (by decide) hN) hT rfl hc) (cw_X12_92 cx (mc := 0) (ms := 0) rfl rfl ⟨by decide, by decide⟩) (rC_X2_13 (Nat.le_trans (by decide) hN) cx hp) rfl rfl (Nat.le_of_ble_eq_true rfl) dX12_runScript_27 ⟨Nat.zero_le _, Nat.zero_le _⟩) (fun u_c H locs hq hp => ?_)
  obtain ⟨e_0, n_u⟩ := hq
  obtain ⟨σ7, e_l, hf⟩ := fl hf
  obtain rfl := ((us_x e_0 n_u).trans e_l).symm
  refine lv_iload_n hx hb dX12_runScript_30 rfl (lv_at hl 0 rfl) ?_
  refine lv_if_ne (tgt := 36) hx hb dX12_runScript_31 (by decide) (fun c8 => ?_) (fun c8 => ?_)
  · have hf := fn hf c8
    refine lv_aload_n hx hb dX12_runScript_36 rfl (lv_at hl 1 rfl) ?_
    refine gF_X12_40 rfl hN cx hp dX12_runScript_37 ?_
    refine lv_aload_n hx hb dX12_runScript_40 rfl (lv_at hl 1 rfl) ?_
    refine gF_X12_99 rfl hN cx hp dX12_runScript_41 ?_
    obtain ⟨σ9, hc, hf⟩ := fb hf
    refine x_v hp (y_V (As := [.ref (adr E 0 0)]) (rest := []) cx hp hl (c_X4_record l (Nat.le_trans (by decide) hN) hT  hc) (cw_X12_131 cx (mc := 0) (ms := 0) rfl rfl ⟨by decide, by decide⟩) (rC_X4 (Nat.le_trans (by decide) hN) cx hp) rfl rfl (Nat.le_of_ble_eq_true rfl) dX12_runScript_44 ⟨Nat.zero_le _, Nat.zero_le _⟩) (fun u_c H locs hq hp => ?_)
    obtain rfl := hq
    refine lv_aload_n hx hb dX12_runScript_47 rfl (lv_at hl 1 rfl) ?_
    refine gF_X12_19 rfl hN cx hp dX12_runScript_48 ?_
    refine lv_aload_n hx hb dX12_runScript_51 rfl (lv_at hl 1 rfl) ?_
    refine gF_X12_99 rfl hN cx hp dX12_runScript_52 ?_
    refine lv_aload_n hx hb dX12_runScript_55 rfl (lv_at hl 1 rfl) ?_
    refine gF_X12_47 rfl hN cx hp dX12_runScript_56 ?_
    obtain ⟨r10, m11, m12, hc, hf⟩ := fb3 hf
    refine x_i hp (y_V (As := [.ref (adr E 0 0), .ref (adr E 17 0)]) (rest := []) cx hp hl (c_X8_execute l (Nat.le_trans (by decide) hN) hT (by decide) rfl rfl rfl hc) (cw_X12_135 cx (mc := 0) (ms := 0) rfl rfl ⟨by decide, by decide⟩) (rC_X8 (Nat.le_trans (by decide) hN) cx hp) rfl rfl (Nat.le_of_ble_eq_true rfl) dX12_runScript_59 ⟨Nat.zero_le _, Nat.zero_le _⟩) (fun r_c u_c H locs hq hp => ?_)
    obtain ⟨rfl, e_0, e_1, n_u⟩ := hq
    obtain ⟨σ13, e_l, hf⟩ := fl hf
    obtain rfl := ((us_x2 e_0 e_1 n_u).trans e_l).symm
    cases hf
    exact r_i cx hp ⟨rfl, rfl⟩ dX12_runScript_62
  · have hf := fp hf c8
    refine lv_iconst (v := (-1)) hx hb dX12_runScript_34 (by decide) ?_
    cases hf
    exact r_i cx hp ⟨rfl, rfl⟩ dX12_runScript_35
abbrev rm_X12_errorCode : Room := { frames := 0, cells := 0, slots := 0, locals := 0 }
set_option maxRecDepth 100000 in
set_option maxHeartbeats 4000000 in
theorem c_X12_errorCode (l : Launch) {E : Ev} (hN : 130 ≤ eN E) (hT : St E) {σ : SM}  {rv : Int32} (hf : f_X12_errorCode σ = some rv) : Met l yX12_errorCode (wC yX12_errorCode cX12_errorCode 1 (some .int)) rm_X12_errorCode (va_Pc [.ref (adr E 19 0)] (Wu E σ)) (va_Qi (fun r u => rv = r ∧ σ = u) (fun u t => Wu E u t) (eA E)) 0 0 (eA E) := by
  refine g_entry (lv := [(0, .ref (adr E 19 0))]) (by decide) (Nat.le_of_ble_eq_true rfl) rfl ?_
  intro p e s m below meth c cx hp ls hl
  have hx := cx.1.1
  have hb := cx.1.2.1
  unfold f_X12_errorCode at hf
  refine lv_aload_n hx hb dX12_errorCode_0 rfl (lv_at hl 0 rfl) ?_
  refine gF_X12_95 rfl hN cx hp dX12_errorCode_1 ?_
  refine gF_X12_139 rfl (Nat.le_trans (by decide) hN) cx hp dX12_errorCode_4 ?_
  cases hf
  exact r_i cx hp ⟨rfl, rfl⟩ dX12_errorCode_7
abbrev rm_X12_errorPosition : Room := { frames := 0, cells := 0, slots := 0, locals := 0 }
set_option maxRecDepth 100000 in
set_option maxHeartbeats 4000000 in
theorem c_X12_errorPosition (l : Launch) {E : Ev} (hN : 130 ≤ eN E) (hT : St E) {σ : SM}  {rv : Int32} (hf : f_X12_errorPosition σ = some rv) : Met l yX12_errorPosition (wC yX12_errorPosition cX12_errorPosition 1 (some .int)) rm_X12_errorPosition (va_Pc [.ref (adr E 19 0)] (Wu E σ)) (va_Qi (fun r u => rv = r ∧ σ = u) (fun u t => Wu E u t) (eA E)) 0 0 (eA E) := by
  refine g_entry (lv := [(0, .ref (adr E 19 0))]) (by decide) (Nat.le_of_ble_eq_true rfl) rfl ?_
  intro p e s m below meth c cx hp ls hl
  have hx := cx.1.1
  have hb := cx.1.2.1
  unfold f_X12_errorPosition at hf
  refine lv_aload_n hx hb dX12_errorPosition_0 rfl (lv_at hl 0 rfl) ?_
  refine gF_X12_95 rfl hN cx hp dX12_errorPosition_1 ?_
  refine gF_X12_142 rfl (Nat.le_trans (by decide) hN) cx hp dX12_errorPosition_4 ?_
  cases hf
  exact r_i cx hp ⟨rfl, rfl⟩ dX12_errorPosition_7
abbrev rm_X12_sellerCount : Room := { frames := 0, cells := 0, slots := 0, locals := 0 }
set_option maxRecDepth 100000 in
set_option maxHeartbeats 4000000 in
theorem c_X12_sellerCount (l : Launch) {E : Ev} (hN : 130 ≤ eN E) (hT : St E) {σ : SM}  {rv : Int32} (hf : f_X12_sellerCount σ = some rv) : Met l yX12_sellerCount (wC yX12_sellerCount cX12_sellerCount 1 (some .int)) rm_X12_sellerCount (va_Pc [.ref (adr E 19 0)] (Wu E σ)) (va_Qi (fun r u => rv = r ∧ σ = u) (fun u t => Wu E u t) (eA E)) 0 0 (eA E) := by
  refine g_entry (lv := [(0, .ref (adr E 19 0))]) (by decide) (Nat.le_of_ble_eq_true rfl) rfl ?_
  intro p e s m below meth c cx hp ls hl
  have hx := cx.1.1
  have hb := cx.1.2.1
  unfold f_X12_sellerCount at hf
  refine lv_aload_n hx hb dX12_sellerCount_0 rfl (lv_at hl 0 rfl) ?_
  refine gF_X12_99 rfl hN cx hp dX12_sellerCount_1 ?_
  refine gF_X12_127 (by decide) rfl (Nat.le_trans (by decide) hN) cx hp dX12_sellerCount_4 ?_
  cases hf
  exact r_i cx hp ⟨rfl, rfl⟩ dX12_sellerCount_7
abbrev rm_X12_stallCount : Room := { frames := 0, cells := 0, slots := 0, locals := 0 }
set_option maxRecDepth 100000 in
set_option maxHeartbeats 4000000 in
theorem c_X12_stallCount (l : Launch) {E : Ev} (hN : 130 ≤ eN E) (hT : St E) {σ : SM}  {rv : Int32} (hf : f_X12_stallCount σ = some rv) : Met l yX12_stallCount (wC yX12_stallCount cX12_stallCount 1 (some .int)) rm_X12_stallCount (va_Pc [.ref (adr E 19 0)] (Wu E σ)) (va_Qi (fun r u => rv = r ∧ σ = u) (fun u t => Wu E u t) (eA E)) 0 0 (eA E) := by
  refine g_entry (lv := [(0, .ref (adr E 19 0))]) (by decide) (Nat.le_of_ble_eq_true rfl) rfl ?_
  intro p e s m below meth c cx hp ls hl
  have hx := cx.1.1
  have hb := cx.1.2.1
  unfold f_X12_stallCount at hf
  refine lv_aload_n hx hb dX12_stallCount_0 rfl (lv_at hl 0 rfl) ?_
  refine gF_X12_99 rfl hN cx hp dX12_stallCount_1 ?_
  refine gF_X12_145 (by decide) rfl (Nat.le_trans (by decide) hN) cx hp dX12_stallCount_4 ?_
  cases hf
  exact r_i cx hp ⟨rfl, rfl⟩ dX12_stallCount_7
abbrev rm_X12_day : Room := { frames := 0, cells := 0, slots := 0, locals := 0 }
set_option maxRecDepth 100000 in
set_option maxHeartbeats 4000000 in
theorem c_X12_day (l : Launch) {E : Ev} (hN : 130 ≤ eN E) (hT : St E) {σ : SM}  {rv : Int32} (hf : f_X12_day σ = some rv) : Met l yX12_day (wC yX12_day cX12_day 1 (some .int)) rm_X12_day (va_Pc [.ref (adr E 19 0)] (Wu E σ)) (va_Qi (fun r u => rv = r ∧ σ = u) (fun u t => Wu E u t) (eA E)) 0 0 (eA E) := by
  refine g_entry (lv := [(0, .ref (adr E 19 0))]) (by decide) (Nat.le_of_ble_eq_true rfl) rfl ?_
  intro p e s m below meth c cx hp ls hl
  have hx := cx.1.1
  have hb := cx.1.2.1
  unfold f_X12_day at hf
  refine lv_aload_n hx hb dX12_day_0 rfl (lv_at hl 0 rfl) ?_
  refine gF_X12_99 rfl hN cx hp dX12_day_1 ?_
  refine gF_X12_148 (by decide) rfl (Nat.le_trans (by decide) hN) cx hp dX12_day_4 ?_
  cases hf
  exact r_i cx hp ⟨rfl, rfl⟩ dX12_day_7
abbrev rm_X12_requireSeller : Room := { frames := 6, cells := 1, slots := 6, locals := 82 }
set_option maxRecDepth 100000 in
set_option maxHeartbeats 4000000 in
theorem c_X12_requireSeller (l : Launch) {E : Ev} (hN : 130 ≤ eN E) (hT : St E) (hlf : l.stackTraces = false) {σ : SM} {p1 : Int32} {z : Nat ⊕ (Unit)} (hf : f_X12_requireSeller p1 σ = some z) : vx_Met l yX12_requireSeller (wC yX12_requireSeller cX12_requireSeller 2 none) rm_X12_requireSeller (va_Pc [.ref (adr E 19 0), .int p1] (Wu E σ)) (va_Qv (fun u => z = .inr () ∧ σ = u) (fun u t => Wu E u t) (eA E)) (XT E σ (fun k => z = .inl k)) 1 6 (eA E) := by
  refine gx_entry (lv := [(0, .ref (adr E 19 0)), (1, .int p1)]) (by decide) (Nat.le_of_ble_eq_true rfl) rfl ?_
  intro p e s m below meth c cx hxt hp ls hl
  have hx := cx.1.1
  have hb := cx.1.2.1
  unfold f_X12_requireSeller at hf
  refine lv_iload_n hx hb dX12_requireSeller_0 rfl (lv_at hl 1 rfl) ?_
  refine lv_if_lt (tgt := 15) hx hb dX12_requireSeller_1 (by decide) (fun c1 => ?_) (fun c1 => ?_)
  · have hf := fp hf c1
    cases hf
    exact t_SW (k := 2) hlf hT cx hp hl.1 hxt xw_2 (cx.2.2.1.2.2.2.1 8 _ rfl) rfl dX12_requireSeller_15 dX12_requireSeller_18 dX12_requireSeller_19 dX12_requireSeller_22 dX12_requireSeller_25 ⟨by decide, Nat.le_of_ble_eq_true rfl, by decide, by decide⟩ (by decide) (by decide)
  · have hf := fn hf c1
    refine lv_iload_n hx hb dX12_requireSeller_4 rfl (lv_at hl 1 rfl) ?_
    refine lv_aload_n hx hb dX12_requireSeller_5 rfl (lv_at hl 0 rfl) ?_
    refine gF_X12_99 rfl hN cx hp dX12_requireSeller_6 ?_
    refine gF_X12_127 (by decide) rfl (Nat.le_trans (by decide) hN) cx hp dX12_requireSeller_9 ?_
    refine lv_icmp_lt (tgt := 26) hx hb dX12_requireSeller_12 (by decide) (fun c2 => ?_) (fun c2 => ?_)
    · have hf := fp hf c2
      cases hf
      refine vx_ret ?_
      refine W.widen (k := 1) (n := 6) (by decide) (by decide) ?_
      exact r_v cx hp ⟨rfl, rfl⟩ dX12_requireSeller_26
    · have hf := fn hf c2
      cases hf
      exact t_SW (k := 2) hlf hT cx hp hl.1 hxt xw_2 (cx.2.2.1.2.2.2.1 8 _ rfl) rfl dX12_requireSeller_15 dX12_requireSeller_18 dX12_requireSeller_19 dX12_requireSeller_22 dX12_requireSeller_25 ⟨by decide, Nat.le_of_ble_eq_true rfl, by decide, by decide⟩ (by decide) (by decide)
abbrev rm_X12_balance : Room := { frames := 7, cells := 1, slots := 6, locals := 103 }
set_option maxRecDepth 100000 in
set_option maxHeartbeats 4000000 in
theorem c_X12_balance (l : Launch) {E : Ev} (hN : 130 ≤ eN E) (hT : St E) (hlf : l.stackTraces = false) {σ : SM} {p1 : Int32} {z : Nat ⊕ (Int32)} (hf : f_X12_balance p1 σ = some z) : vx_Met l yX12_balance (wC yX12_balance cX12_balance 2 (some .int)) rm_X12_balance (va_Pc [.ref (adr E 19 0), .int p1] (Wu E σ)) (va_Qi (fun r u => z = .inr r ∧ σ = u) (fun u t => Wu E u t) (eA E)) (XT E σ (fun k => z = .inl k)) 1 6 (eA E) := by
  refine gx_entry (lv := [(0, .ref (adr E 19 0)), (1, .int p1)]) (by decide) (Nat.le_of_ble_eq_true rfl) rfl ?_
  intro p e s m below meth c cx hxt hp ls hl
  have hx := cx.1.1
  have hb := cx.1.2.1
  unfold f_X12_balance at hf
  refine lv_aload_n hx hb dX12_balance_0 rfl (lv_at hl 0 rfl) ?_
  refine lv_iload_n hx hb dX12_balance_1 rfl (lv_at hl 1 rfl) ?_
  rcases fX hf with ⟨k_t, hc, rfl⟩ | ⟨_, hc, hf⟩
  · exact zv_thr cx hxt hp (yx_V (As := [.int p1]) (rest := []) cx hp hl (c_X12_requireSeller l hN hT hlf  hc) (cw_X12_151 cx (mc := 1) (ms := 6) rfl rfl ⟨by decide, by decide⟩) (rC_X12 hN cx hp) rfl rfl (Nat.le_of_ble_eq_true rfl) dX12_balance_2 ⟨by decide, by decide⟩) rfl rfl (by decide) (by decide)
  · refine zv_ok hp (yx_V (As := [.int p1]) (rest := []) cx hp hl (c_X12_requireSeller l hN hT hlf  hc) (cw_X12_151 cx (mc := 1) (ms := 6) rfl rfl ⟨by decide, by decide⟩) (rC_X12 hN cx hp) rfl rfl (Nat.le_of_ble_eq_true rfl) dX12_balance_2 ⟨by decide, by decide⟩) rfl (fun H locs hp => ?_)
    refine lv_aload_n hx hb dX12_balance_5 rfl (lv_at hl 0 rfl) ?_
    refine gF_X12_99 rfl hN cx hp dX12_balance_6 ?_
    refine lv_iload_n hx hb dX12_balance_9 rfl (lv_at hl 1 rfl) ?_
    obtain ⟨r1, hc, hf⟩ := fb hf
    refine x_i hp (y_V (As := [.int p1]) (rest := []) cx hp hl (c_X5_coinsOf l (Nat.le_trans (by decide) hN) hT (by decide) rfl hc) (cw_X12_154 cx (mc := 0) (ms := 0) rfl rfl ⟨by decide, by decide⟩) (rC_X5 (by decide) (Nat.le_trans (by decide) hN) cx hp) rfl rfl (Nat.le_of_ble_eq_true rfl) dX12_balance_10 ⟨by decide, by decide⟩) (fun r_c u_c H locs hq hp => ?_)
    obtain ⟨rfl, rfl⟩ := hq
    cases hf
    refine vx_ret ?_
    exact r_i cx hp ⟨rfl, rfl⟩ dX12_balance_13
abbrev rm_X12_income : Room := { frames := 7, cells := 1, slots := 6, locals := 103 }
set_option maxRecDepth 100000 in
set_option maxHeartbeats 4000000 in
theorem c_X12_income (l : Launch) {E : Ev} (hN : 130 ≤ eN E) (hT : St E) (hlf : l.stackTraces = false) {σ : SM} {p1 : Int32} {z : Nat ⊕ (Int32)} (hf : f_X12_income p1 σ = some z) : vx_Met l yX12_income (wC yX12_income cX12_income 2 (some .int)) rm_X12_income (va_Pc [.ref (adr E 19 0), .int p1] (Wu E σ)) (va_Qi (fun r u => z = .inr r ∧ σ = u) (fun u t => Wu E u t) (eA E)) (XT E σ (fun k => z = .inl k)) 1 6 (eA E) := by
  refine gx_entry (lv := [(0, .ref (adr E 19 0)), (1, .int p1)]) (by decide) (Nat.le_of_ble_eq_true rfl) rfl ?_
  intro p e s m below meth c cx hxt hp ls hl
  have hx := cx.1.1
  have hb := cx.1.2.1
  unfold f_X12_income at hf
  refine lv_aload_n hx hb dX12_income_0 rfl (lv_at hl 0 rfl) ?_
  refine lv_iload_n hx hb dX12_income_1 rfl (lv_at hl 1 rfl) ?_
  rcases fX hf with ⟨k_t, hc, rfl⟩ | ⟨_, hc, hf⟩
  · exact zv_thr cx hxt hp (yx_V (As := [.int p1]) (rest := []) cx hp hl (c_X12_requireSeller l hN hT hlf  hc) (cw_X12_151 cx (mc := 1) (ms := 6) rfl rfl ⟨by decide, by decide⟩) (rC_X12 hN cx hp) rfl rfl (Nat.le_of_ble_eq_true rfl) dX12_income_2 ⟨by decide, by decide⟩) rfl rfl (by decide) (by decide)
  · refine zv_ok hp (yx_V (As := [.int p1]) (rest := []) cx hp hl (c_X12_requireSeller l hN hT hlf  hc) (cw_X12_151 cx (mc := 1) (ms := 6) rfl rfl ⟨by decide, by decide⟩) (rC_X12 hN cx hp) rfl rfl (Nat.le_of_ble_eq_true rfl) dX12_income_2 ⟨by decide, by decide⟩) rfl (fun H locs hp => ?_)
    refine lv_aload_n hx hb dX12_income_5 rfl (lv_at hl 0 rfl) ?_
    refine gF_X12_99 rfl hN cx hp dX12_income_6 ?_
    refine lv_iload_n hx hb dX12_income_9 rfl (lv_at hl 1 rfl) ?_
    obtain ⟨r1, hc, hf⟩ := fb hf
    refine x_i hp (y_V (As := [.int p1]) (rest := []) cx hp hl (c_X5_wageOf l (Nat.le_trans (by decide) hN) hT (by decide) rfl hc) (cw_X12_158 cx (mc := 0) (ms := 0) rfl rfl ⟨by decide, by decide⟩) (rC_X5 (by decide) (Nat.le_trans (by decide) hN) cx hp) rfl rfl (Nat.le_of_ble_eq_true rfl) dX12_income_10 ⟨by decide, by decide⟩) (fun r_c u_c H locs hq hp => ?_)
    obtain ⟨rfl, rfl⟩ := hq
    cases hf
    refine vx_ret ?_
    exact r_i cx hp ⟨rfl, rfl⟩ dX12_income_13
abbrev rm_X12_requireStall : Room := { frames := 6, cells := 1, slots := 6, locals := 82 }
set_option maxRecDepth 100000 in
set_option maxHeartbeats 4000000 in
theorem c_X12_requireStall (l : Launch) {E : Ev} (hN : 130 ≤ eN E) (hT : St E) (hlf : l.stackTraces = false) {σ : SM} {p1 : Int32} {z : Nat ⊕ (Unit)} (hf : f_X12_requireStall p1 σ = some z) : vx_Met l yX12_requireStall (wC yX12_requireStall cX12_requireStall 2 none) rm_X12_requireStall (va_Pc [.ref (adr E 19 0), .int p1] (Wu E σ)) (va_Qv (fun u => z = .inr () ∧ σ = u) (fun u t => Wu E u t) (eA E)) (XT E σ (fun k => z = .inl k)) 1 6 (eA E) := by
  refine gx_entry (lv := [(0, .ref (adr E 19 0)), (1, .int p1)]) (by decide) (Nat.le_of_ble_eq_true rfl) rfl ?_
  intro p e s m below meth c cx hxt hp ls hl
  have hx := cx.1.1
  have hb := cx.1.2.1
  unfold f_X12_requireStall at hf
  refine lv_iload_n hx hb dX12_requireStall_0 rfl (lv_at hl 1 rfl) ?_
  refine lv_if_lt (tgt := 15) hx hb dX12_requireStall_1 (by decide) (fun c1 => ?_) (fun c1 => ?_)
  · have hf := fp hf c1
    cases hf
    exact t_SW (k := 2) hlf hT cx hp hl.1 hxt xw_2 (cx.2.2.1.2.2.2.1 9 _ rfl) rfl dX12_requireStall_15 dX12_requireStall_18 dX12_requireStall_19 dX12_requireStall_22 dX12_requireStall_25 ⟨by decide, Nat.le_of_ble_eq_true rfl, by decide, by decide⟩ (by decide) (by decide)
  · have hf := fn hf c1
    refine lv_iload_n hx hb dX12_requireStall_4 rfl (lv_at hl 1 rfl) ?_
    refine lv_aload_n hx hb dX12_requireStall_5 rfl (lv_at hl 0 rfl) ?_
    refine gF_X12_99 rfl hN cx hp dX12_requireStall_6 ?_
    refine gF_X12_145 (by decide) rfl (Nat.le_trans (by decide) hN) cx hp dX12_requireStall_9 ?_
    refine lv_icmp_lt (tgt := 26) hx hb dX12_requireStall_12 (by decide) (fun c2 => ?_) (fun c2 => ?_)
    · have hf := fp hf c2
      cases hf
      refine vx_ret ?_
      refine W.widen (k := 1) (n := 6) (by decide) (by decide) ?_
      exact r_v cx hp ⟨rfl, rfl⟩ dX12_requireStall_26
    · have hf := fn hf c2
      cases hf
      exact t_SW (k := 2) hlf hT cx hp hl.1 hxt xw_2 (cx.2.2.1.2.2.2.1 9 _ rfl) rfl dX12_requireStall_15 dX12_requireStall_18 dX12_requireStall_19 dX12_requireStall_22 dX12_requireStall_25 ⟨by decide, Nat.le_of_ble_eq_true rfl, by decide, by decide⟩ (by decide) (by decide)
abbrev rm_X12_rent : Room := { frames := 7, cells := 1, slots := 6, locals := 103 }
set_option maxRecDepth 100000 in
set_option maxHeartbeats 4000000 in
theorem c_X12_rent (l : Launch) {E : Ev} (hN : 130 ≤ eN E) (hT : St E) (hlf : l.stackTraces = false) {σ : SM} {p1 : Int32} {z : Nat ⊕ (Int32)} (hf : f_X12_rent p1 σ = some z) : vx_Met l yX12_rent (wC yX12_rent cX12_rent 2 (some .int)) rm_X12_rent (va_Pc [.ref (adr E 19 0), .int p1] (Wu E σ)) (va_Qi (fun r u => z = .inr r ∧ σ = u) (fun u t => Wu E u t) (eA E)) (XT E σ (fun k => z = .inl k)) 1 6 (eA E) := by
  refine gx_entry (lv := [(0, .ref (adr E 19 0)), (1, .int p1)]) (by decide) (Nat.le_of_ble_eq_true rfl) rfl ?_
  intro p e s m below meth c cx hxt hp ls hl
  have hx := cx.1.1
  have hb := cx.1.2.1
  unfold f_X12_rent at hf
  refine lv_aload_n hx hb dX12_rent_0 rfl (lv_at hl 0 rfl) ?_
  refine lv_iload_n hx hb dX12_rent_1 rfl (lv_at hl 1 rfl) ?_
  rcases fX hf with ⟨k_t, hc, rfl⟩ | ⟨_, hc, hf⟩
  · exact zv_thr cx hxt hp (yx_V (As := [.int p1]) (rest := []) cx hp hl (c_X12_requireStall l hN hT hlf  hc) (cw_X12_161 cx (mc := 1) (ms := 6) rfl rfl ⟨by decide, by decide⟩) (rC_X12 hN cx hp) rfl rfl (Nat.le_of_ble_eq_true rfl) dX12_rent_2 ⟨by decide, by decide⟩) rfl rfl (by decide) (by decide)
  · refine zv_ok hp (yx_V (As := [.int p1]) (rest := []) cx hp hl (c_X12_requireStall l hN hT hlf  hc) (cw_X12_161 cx (mc := 1) (ms := 6) rfl rfl ⟨by decide, by decide⟩) (rC_X12 hN cx hp) rfl rfl (Nat.le_of_ble_eq_true rfl) dX12_rent_2 ⟨by decide, by decide⟩) rfl (fun H locs hp => ?_)
    refine lv_aload_n hx hb dX12_rent_5 rfl (lv_at hl 0 rfl) ?_
    refine gF_X12_99 rfl hN cx hp dX12_rent_6 ?_
    refine lv_iload_n hx hb dX12_rent_9 rfl (lv_at hl 1 rfl) ?_
    obtain ⟨r1, hc, hf⟩ := fb hf
    refine x_i hp (y_V (As := [.int p1]) (rest := []) cx hp hl (c_X5_priceOf l (Nat.le_trans (by decide) hN) hT (by decide) rfl hc) (cw_X12_164 cx (mc := 0) (ms := 0) rfl rfl ⟨by decide, by decide⟩) (rC_X5 (by decide) (Nat.le_trans (by decide) hN) cx hp) rfl rfl (Nat.le_of_ble_eq_true rfl) dX12_rent_10 ⟨by decide, by decide⟩) (fun r_c u_c H locs hq hp => ?_)
    obtain ⟨rfl, rfl⟩ := hq
    cases hf
    refine vx_ret ?_
    exact r_i cx hp ⟨rfl, rfl⟩ dX12_rent_13
abbrev rm_X12_stallOf : Room := { frames := 7, cells := 1, slots := 6, locals := 103 }
set_option maxRecDepth 100000 in
set_option maxHeartbeats 4000000 in
theorem c_X12_stallOf (l : Launch) {E : Ev} (hN : 130 ≤ eN E) (hT : St E) (hlf : l.stackTraces = false) {σ : SM} {p1 : Int32} {z : Nat ⊕ (Int32)} (hf : f_X12_stallOf p1 σ = some z) : vx_Met l yX12_stallOf (wC yX12_stallOf cX12_stallOf 2 (some .int)) rm_X12_stallOf (va_Pc [.ref (adr E 19 0), .int p1] (Wu E σ)) (va_Qi (fun r u => z = .inr r ∧ σ = u) (fun u t => Wu E u t) (eA E)) (XT E σ (fun k => z = .inl k)) 1 6 (eA E) := by
  refine gx_entry (lv := [(0, .ref (adr E 19 0)), (1, .int p1)]) (by decide) (Nat.le_of_ble_eq_true rfl) rfl ?_
  intro p e s m below meth c cx hxt hp ls hl
  have hx := cx.1.1
  have hb := cx.1.2.1
  unfold f_X12_stallOf at hf
  refine lv_aload_n hx hb dX12_stallOf_0 rfl (lv_at hl 0 rfl) ?_
  refine lv_iload_n hx hb dX12_stallOf_1 rfl (lv_at hl 1 rfl) ?_
  rcases fX hf with ⟨k_t, hc, rfl⟩ | ⟨_, hc, hf⟩
  · exact zv_thr cx hxt hp (yx_V (As := [.int p1]) (rest := []) cx hp hl (c_X12_requireSeller l hN hT hlf  hc) (cw_X12_151 cx (mc := 1) (ms := 6) rfl rfl ⟨by decide, by decide⟩) (rC_X12 hN cx hp) rfl rfl (Nat.le_of_ble_eq_true rfl) dX12_stallOf_2 ⟨by decide, by decide⟩) rfl rfl (by decide) (by decide)
  · refine zv_ok hp (yx_V (As := [.int p1]) (rest := []) cx hp hl (c_X12_requireSeller l hN hT hlf  hc) (cw_X12_151 cx (mc := 1) (ms := 6) rfl rfl ⟨by decide, by decide⟩) (rC_X12 hN cx hp) rfl rfl (Nat.le_of_ble_eq_true rfl) dX12_stallOf_2 ⟨by decide, by decide⟩) rfl (fun H locs hp => ?_)
    refine lv_aload_n hx hb dX12_stallOf_5 rfl (lv_at hl 0 rfl) ?_
    refine gF_X12_99 rfl hN cx hp dX12_stallOf_6 ?_
    refine lv_iload_n hx hb dX12_stallOf_9 rfl (lv_at hl 1 rfl) ?_
    obtain ⟨r1, hc, hf⟩ := fb hf
    refine x_i hp (y_V (As := [.int p1]) (rest := []) cx hp hl (c_X5_heldBy l (Nat.le_trans (by decide) hN) hT (by decide) rfl hc) (cw_X12_167 cx (mc := 0) (ms := 0) rfl rfl ⟨by decide, by decide⟩) (rC_X5 (by decide) (Nat.le_trans (by decide) hN) cx hp) rfl rfl (Nat.le_of_ble_eq_true rfl) dX12_stallOf_10 ⟨by decide, by decide⟩) (fun r_c u_c H locs hq hp => ?_)
    obtain ⟨rfl, rfl⟩ := hq
    cases hf
    refine vx_ret ?_
    exact r_i cx hp ⟨rfl, rfl⟩ dX12_stallOf_13
abbrev rm_X12_occupantOf : Room := { frames := 7, cells := 1, slots := 6, locals := 103 }
set_option maxRecDepth 100000 in
set_option maxHeartbeats 4000000 in
theorem c_X12_occupantOf (l : Launch) {E : Ev} (hN : 130 ≤ eN E) (hT : St E) (hlf : l.stackTraces = false) {σ : SM} {p1 : Int32} {z : Nat ⊕ (Int32)} (hf : f_X12_occupantOf p1 σ = some z) : vx_Met l yX12_occupantOf (wC yX12_occupantOf cX12_occupantOf 2 (some .int)) rm_X12_occupantOf (va_Pc [.ref (adr E 19 0), .int p1] (Wu E σ)) (va_Qi (fun r u => z = .inr r ∧ σ = u) (fun u t => Wu E u t) (eA E)) (XT E σ (fun k => z = .inl k)) 1 6 (eA E) := by
  refine gx_entry (lv := [(0, .ref (adr E 19 0)), (1, .int p1)]) (by decide) (Nat.le_of_ble_eq_true rfl) rfl ?_
  intro p e s m below meth c cx hxt hp ls hl
  have hx := cx.1.1
  have hb := cx.1.2.1
  unfold f_X12_occupantOf at hf
  refine lv_aload_n hx hb dX12_occupantOf_0 rfl (lv_at hl 0 rfl) ?_
  refine lv_iload_n hx hb dX12_occupantOf_1 rfl (lv_at hl 1 rfl) ?_
  rcases fX hf with ⟨k_t, hc, rfl⟩ | ⟨_, hc, hf⟩
  · exact zv_thr cx hxt hp (yx_V (As := [.int p1]) (rest := []) cx hp hl (c_X12_requireStall l hN hT hlf  hc) (cw_X12_161 cx (mc := 1) (ms := 6) rfl rfl ⟨by decide, by decide⟩) (rC_X12 hN cx hp) rfl rfl (Nat.le_of_ble_eq_true rfl) dX12_occupantOf_2 ⟨by decide, by decide⟩) rfl rfl (by decide) (by decide)
  · refine zv_ok hp (yx_V (As := [.int p1]) (rest := []) cx hp hl (c_X12_requireStall l hN hT hlf  hc) (cw_X12_161 cx (mc := 1) (ms := 6) rfl rfl ⟨by decide, by decide⟩) (rC_X12 hN cx hp) rfl rfl (Nat.le_of_ble_eq_true rfl) dX12_occupantOf_2 ⟨by decide, by decide⟩) rfl (fun H locs hp => ?_)
    refine lv_aload_n hx hb dX12_occupantOf_5 rfl (lv_at hl 0 rfl) ?_
    refine gF_X12_99 rfl hN cx hp dX12_occupantOf_6 ?_
    refine lv_iload_n hx hb dX12_occupantOf_9 rfl (lv_at hl 1 rfl) ?_
    obtain ⟨r1, hc, hf⟩ := fb hf
    refine x_i hp (y_V (As := [.int p1]) (rest := []) cx hp hl (c_X5_holderOf l (Nat.le_trans (by decide) hN) hT (by decide) rfl hc) (cw_X12_170 cx (mc := 0) (ms := 0) rfl rfl ⟨by decide, by decide⟩) (rC_X5 (by decide) (Nat.le_trans (by decide) hN) cx hp) rfl rfl (Nat.le_of_ble_eq_true rfl) dX12_occupantOf_10 ⟨by decide, by decide⟩) (fun r_c u_c H locs hq hp => ?_)
    obtain ⟨rfl, rfl⟩ := hq
    cases hf
    refine vx_ret ?_
    exact r_i cx hp ⟨rfl, rfl⟩ dX12_occupantOf_13
abbrev rm_X12_priorityOf : Room := { frames := 7, cells := 1, slots := 6, locals := 103 }
set_option maxRecDepth 100000 in
set_option maxHeartbeats 4000000 in
theorem c_X12_priorityOf (l : Launch) {E : Ev} (hN : 130 ≤ eN E) (hT : St E) (hlf : l.stackTraces = false) {σ : SM} {p1 : Int32} {z : Nat ⊕ (Int32)} (hf : f_X12_priorityOf p1 σ = some z) : vx_Met l yX12_priorityOf (wC yX12_priorityOf cX12_priorityOf 2 (some .int)) rm_X12_priorityOf (va_Pc [.ref (adr E 19 0), .int p1] (Wu E σ)) (va_Qi (fun r u => z = .inr r ∧ σ = u) (fun u t => Wu E u t) (eA E)) (XT E σ (fun k => z = .inl k)) 1 6 (eA E) := by
  refine gx_entry (lv := [(0, .ref (adr E 19 0)), (1, .int p1)]) (by decide) (Nat.le_of_ble_eq_true rfl) rfl ?_
  intro p e s m below meth c cx hxt hp ls hl
  have hx := cx.1.1
  have hb := cx.1.2.1
  unfold f_X12_priorityOf at hf
  refine lv_aload_n hx hb dX12_priorityOf_0 rfl (lv_at hl 0 rfl) ?_
  refine lv_iload_n hx hb dX12_priorityOf_1 rfl (lv_at hl 1 rfl) ?_
  rcases fX hf with ⟨k_t, hc, rfl⟩ | ⟨_, hc, hf⟩
  · exact zv_thr cx hxt hp (yx_V (As := [.int p1]) (rest := []) cx hp hl (c_X12_requireSeller l hN hT hlf  hc) (cw_X12_151 cx (mc := 1) (ms := 6) rfl rfl ⟨by decide, by decide⟩) (rC_X12 hN cx hp) rfl rfl (Nat.le_of_ble_eq_true rfl) dX12_priorityOf_2 ⟨by decide, by decide⟩) rfl rfl (by decide) (by decide)
  · refine zv_ok hp (yx_V (As := [.int p1]) (rest := []) cx hp hl (c_X12_requireSeller l hN hT hlf  hc) (cw_X12_151 cx (mc := 1) (ms := 6) rfl rfl ⟨by decide, by decide⟩) (rC_X12 hN cx hp) rfl rfl (Nat.le_of_ble_eq_true rfl) dX12_priorityOf_2 ⟨by decide, by decide⟩) rfl (fun H locs hp => ?_)
    refine lv_aload_n hx hb dX12_priorityOf_5 rfl (lv_at hl 0 rfl) ?_
    refine gF_X12_99 rfl hN cx hp dX12_priorityOf_6 ?_
    refine lv_iload_n hx hb dX12_priorityOf_9 rfl (lv_at hl 1 rfl) ?_
    obtain ⟨r1, hc, hf⟩ := fb hf
    refine x_i hp (y_V (As := [.int p1]) (rest := []) cx hp hl (c_X5_turnOf l (Nat.le_trans (by decide) hN) hT (by decide) rfl hc) (cw_X12_173 cx (mc := 0) (ms := 0) rfl rfl ⟨by decide, by decide⟩) (rC_X5 (by decide) (Nat.le_trans (by decide) hN) cx hp) rfl rfl (Nat.le_of_ble_eq_true rfl) dX12_priorityOf_10 ⟨by decide, by decide⟩) (fun r_c u_c H locs hq hp => ?_)
    obtain ⟨rfl, rfl⟩ := hq
    cases hf
    refine vx_ret ?_
    exact r_i cx hp ⟨rfl, rfl⟩ dX12_priorityOf_13
abbrev rm_X12_preferenceCount : Room := { frames := 7, cells := 1, slots := 6, locals := 103 }
set_option maxRecDepth 100000 in
set_option maxHeartbeats 4000000 in
theorem c_X12_preferenceCount (l : Launch) {E : Ev} (hN : 130 ≤ eN E) (hT : St E) (hlf : l.stackTraces = false) {σ : SM} {p1 : Int32} {z : Nat ⊕ (Int32)} (hf : f_X12_preferenceCount p1 σ = some z) : vx_Met l yX12_preferenceCount (wC yX12_preferenceCount cX12_preferenceCount 2 (some .int)) rm_X12_preferenceCount (va_Pc [.ref (adr E 19 0), .int p1] (Wu E σ)) (va_Qi (fun r u => z = .inr r ∧ σ = u) (fun u t => Wu E u t) (eA E)) (XT E σ (fun k => z = .inl k)) 1 6 (eA E) := by
  refine gx_entry (lv := [(0, .ref (adr E 19 0)), (1, .int p1)]) (by decide) (Nat.le_of_ble_eq_true rfl) rfl ?_
  intro p e s m below meth c cx hxt hp ls hl
  have hx := cx.1.1
  have hb := cx.1.2.1
  unfold f_X12_preferenceCount at hf
  refine lv_aload_n hx hb dX12_preferenceCount_0 rfl (lv_at hl 0 rfl) ?_
  refine lv_iload_n hx hb dX12_preferenceCount_1 rfl (lv_at hl 1 rfl) ?_
  rcases fX hf with ⟨k_t, hc, rfl⟩ | ⟨_, hc, hf⟩
  · exact zv_thr cx hxt hp (yx_V (As := [.int p1]) (rest := []) cx hp hl (c_X12_requireSeller l hN hT hlf  hc) (cw_X12_151 cx (mc := 1) (ms := 6) rfl rfl ⟨by decide, by decide⟩) (rC_X12 hN cx hp) rfl rfl (Nat.le_of_ble_eq_true rfl) dX12_preferenceCount_2 ⟨by decide, by decide⟩) rfl rfl (by decide) (by decide)
  · refine zv_ok hp (yx_V (As := [.int p1]) (rest := []) cx hp hl (c_X12_requireSeller l hN hT hlf  hc) (cw_X12_151 cx (mc := 1) (ms := 6) rfl rfl ⟨by decide, by decide⟩) (rC_X12 hN cx hp) rfl rfl (Nat.le_of_ble_eq_true rfl) dX12_preferenceCount_2 ⟨by decide, by decide⟩) rfl (fun H locs hp => ?_)
    refine lv_aload_n hx hb dX12_preferenceCount_5 rfl (lv_at hl 0 rfl) ?_
    refine gF_X12_99 rfl hN cx hp dX12_preferenceCount_6 ?_
    refine lv_iload_n hx hb dX12_preferenceCount_9 rfl (lv_at hl 1 rfl) ?_
    obtain ⟨r1, hc, hf⟩ := fb hf
    refine x_i hp (y_V (As := [.int p1]) (rest := []) cx hp hl (c_X5_wishesOf l (Nat.le_trans (by decide) hN) hT (by decide) rfl hc) (cw_X12_176 cx (mc := 0) (ms := 0) rfl rfl ⟨by decide, by decide⟩) (rC_X5 (by decide) (Nat.le_trans (by decide) hN) cx hp) rfl rfl (Nat.le_of_ble_eq_true rfl) dX12_preferenceCount_10 ⟨by decide, by decide⟩) (fun r_c u_c H locs hq hp => ?_)
    obtain ⟨rfl, rfl⟩ := hq
    cases hf
    refine vx_ret ?_
    exact r_i cx hp ⟨rfl, rfl⟩ dX12_preferenceCount_13
abbrev rm_X12_preferenceAt : Room := { frames := 7, cells := 2, slots := 12, locals := 103 }
set_option maxRecDepth 100000 in
set_option maxHeartbeats 4000000 in
theorem c_X12_preferenceAt (l : Launch) {E : Ev} (hN : 130 ≤ eN E) (hT : St E) (hlf : l.stackTraces = false) {σ : SM} {p1 : Int32} {p2 : Int32} {z : Nat ⊕ (Int32)} (hf : f_X12_preferenceAt p1 p2 σ = some z) : vx_Met l yX12_preferenceAt (wC yX12_preferenceAt cX12_preferenceAt 3 (some .int)) rm_X12_preferenceAt (va_Pc [.ref (adr E 19 0), .int p1, .int p2] (Wu E σ)) (va_Qi (fun r u => z = .inr r ∧ σ = u) (fun u t => Wu E u t) (eA E)) (XT E σ (fun k => z = .inl k)) 2 12 (eA E) := by
  refine gx_entry (lv := [(0, .ref (adr E 19 0)), (1, .int p1), (2, .int p2)]) (by decide) (Nat.le_of_ble_eq_true rfl) rfl ?_
  intro p e s m below meth c cx hxt hp ls hl
  have hx := cx.1.1
  have hb := cx.1.2.1
  unfold f_X12_preferenceAt at hf
  refine lv_aload_n hx hb dX12_preferenceAt_0 rfl (lv_at hl 0 rfl) ?_
  refine lv_iload_n hx hb dX12_preferenceAt_1 rfl (lv_at hl 1 rfl) ?_
  rcases fX hf with ⟨k_t, hc, rfl⟩ | ⟨_, hc, hf⟩
  · exact zv_thr cx hxt hp (yx_V (As := [.int p1]) (rest := []) cx hp hl (c_X12_requireSeller l hN hT hlf  hc) (cw_X12_151 cx (mc := 1) (ms := 6) rfl rfl ⟨by decide, by decide⟩) (rC_X12 hN cx hp) rfl rfl (Nat.le_of_ble_eq_true rfl) dX12_preferenceAt_2 ⟨by decide, by decide⟩) rfl rfl (by decide) (by decide)
  · refine zv_ok hp (yx_V (As := [.int p1]) (rest := []) cx hp hl (c_X12_requireSeller l hN hT hlf  hc) (cw_X12_151 cx (mc := 1) (ms := 6) rfl rfl ⟨by decide, by decide⟩) (rC_X12 hN cx hp) rfl rfl (Nat.le_of_ble_eq_true rfl) dX12_preferenceAt_2 ⟨by decide, by decide⟩) rfl (fun H locs hp => ?_)
    refine lv_iload_n hx hb dX12_preferenceAt_5 rfl (lv_at hl 2 rfl) ?_
    refine lv_if_lt (tgt := 21) hx hb dX12_preferenceAt_6 (by decide) (fun c1 => ?_) (fun c1 => ?_)
    · have hf := fp hf c1
      cases hf
      exact t_S (k := 2) hlf hT cx hp hl.1 hxt xw_2 (cx.2.2.1.2.2.2.1 10 _ rfl) rfl dX12_preferenceAt_21 dX12_preferenceAt_24 dX12_preferenceAt_25 dX12_preferenceAt_27 dX12_preferenceAt_30 ⟨by decide, Nat.le_of_ble_eq_true rfl, by decide, by decide⟩ (by decide) (by decide)
    · have hf := fn hf c1
      refine lv_iload_n hx hb dX12_preferenceAt_9 rfl (lv_at hl 2 rfl) ?_
      refine lv_aload_n hx hb dX12_preferenceAt_10 rfl (lv_at hl 0 rfl) ?_
      refine gF_X12_99 rfl hN cx hp dX12_preferenceAt_11 ?_
      refine lv_iload_n hx hb dX12_preferenceAt_14 rfl (lv_at hl 1 rfl) ?_
      obtain ⟨r2, hc, hf⟩ := fb hf
      refine x_i hp (y_V (As := [.int p1]) (rest := [.int p2]) cx hp hl (c_X5_wishesOf l (Nat.le_trans (by decide) hN) hT (by decide) rfl hc) (cw_X12_176 cx (mc := 0) (ms := 0) rfl rfl ⟨by decide, by decide⟩) (rC_X5 (by decide) (Nat.le_trans (by decide) hN) cx hp) rfl rfl (Nat.le_of_ble_eq_true rfl) dX12_preferenceAt_15 ⟨by decide, by decide⟩) (fun r_c u_c H locs hq hp => ?_)
      obtain ⟨rfl, rfl⟩ := hq
      refine lv_icmp_lt (tgt := 31) hx hb dX12_preferenceAt_18 (by decide) (fun c3 => ?_) (fun c3 => ?_)
      · have hf := fp hf c3
        refine lv_aload_n hx hb dX12_preferenceAt_31 rfl (lv_at hl 0 rfl) ?_
        refine gF_X12_99 rfl hN cx hp dX12_preferenceAt_32 ?_
        refine lv_iload_n hx hb dX12_preferenceAt_35 rfl (lv_at hl 1 rfl) ?_
        refine lv_iload_n hx hb dX12_preferenceAt_36 rfl (lv_at hl 2 rfl) ?_
        obtain ⟨r4, hc, hf⟩ := fb hf
        refine x_i hp (y_V (As := [.int p1, .int p2]) (rest := []) cx hp hl (c_X5_wish l (Nat.le_trans (by decide) hN) hT (by decide) rfl hc) (cw_X12_184 cx (mc := 0) (ms := 0) rfl rfl ⟨by decide, by decide⟩) (rC_X5 (by decide) (Nat.le_trans (by decide) hN) cx hp) rfl rfl (Nat.le_of_ble_eq_true rfl) dX12_preferenceAt_37 ⟨by decide, by decide⟩) (fun r_c u_c H locs hq hp => ?_)
        obtain ⟨rfl, rfl⟩ := hq
        cases hf
        refine vx_ret ?_
        refine W.widen (k := 2) (n := 12) (by decide) (by decide) ?_
        exact r_i cx hp ⟨rfl, rfl⟩ dX12_preferenceAt_40
      · have hf := fn hf c3
        cases hf
        exact t_S (k := 2) hlf hT cx hp hl.1 hxt xw_2 (cx.2.2.1.2.2.2.1 10 _ rfl) rfl dX12_preferenceAt_21 dX12_preferenceAt_24 dX12_preferenceAt_25 dX12_preferenceAt_27 dX12_preferenceAt_30 ⟨by decide, Nat.le_of_ble_eq_true rfl, by decide, by decide⟩ (by decide) (by decide)
abbrev rm_X12_rankOf : Room := { frames := 7, cells := 2, slots := 12, locals := 103 }
set_option maxRecDepth 100000 in
set_option maxHeartbeats 4000000 in
theorem c_X12_rankOf (l : Launch) {E : Ev} (hN : 130 ≤ eN E) (hT : St E) (hlf : l.stackTraces = false) {σ : SM} {p1 : Int32} {p2 : Int32} {z : Nat ⊕ (Int32)} (hf : f_X12_rankOf p1 p2 σ = some z) : vx_Met l yX12_rankOf (wC yX12_rankOf cX12_rankOf 3 (some .int)) rm_X12_rankOf (va_Pc [.ref (adr E 19 0), .int p1, .int p2] (Wu E σ)) (va_Qi (fun r u => z = .inr r ∧ σ = u) (fun u t => Wu E u t) (eA E)) (XT E σ (fun k => z = .inl k)) 2 12 (eA E) := by
  refine gx_entry (lv := [(0, .ref (adr E 19 0)), (1, .int p1), (2, .int p2)]) (by decide) (Nat.le_of_ble_eq_true rfl) rfl ?_
  intro p e s m below meth c cx hxt hp ls hl
  have hx := cx.1.1
  have hb := cx.1.2.1
  unfold f_X12_rankOf at hf
  refine lv_aload_n hx hb dX12_rankOf_0 rfl (lv_at hl 0 rfl) ?_
  refine lv_iload_n hx hb dX12_rankOf_1 rfl (lv_at hl 1 rfl) ?_
  rcases fX hf with ⟨k_t, hc, rfl⟩ | ⟨_, hc, hf⟩
  · exact zv_thr cx hxt hp (yx_V (As := [.int p1]) (rest := []) cx hp hl (c_X12_requireSeller l hN hT hlf  hc) (cw_X12_151 cx (mc := 1) (ms := 6) rfl rfl ⟨by decide, by decide⟩) (rC_X12 hN cx hp) rfl rfl (Nat.le_of_ble_eq_true rfl) dX12_rankOf_2 ⟨by decide, by decide⟩) rfl rfl (by decide) (by decide)
  · refine zv_ok hp (yx_V (As := [.int p1]) (rest := []) cx hp hl (c_X12_requireSeller l hN hT hlf  hc) (cw_X12_151 cx (mc := 1) (ms := 6) rfl rfl ⟨by decide, by decide⟩) (rC_X12 hN cx hp) rfl rfl (Nat.le_of_ble_eq_true rfl) dX12_rankOf_2 ⟨by decide, by decide⟩) rfl (fun H locs hp => ?_)
    refine lv_aload_n hx hb dX12_rankOf_5 rfl (lv_at hl 0 rfl) ?_
    refine lv_iload_n hx hb dX12_rankOf_6 rfl (lv_at hl 2 rfl) ?_
    rcases fX hf with ⟨k_t, hc, rfl⟩ | ⟨_, hc, hf⟩
    · exact zv_thr cx hxt hp (yx_V (As := [.int p2]) (rest := []) cx hp hl (c_X12_requireStall l hN hT hlf  hc) (cw_X12_161 cx (mc := 1) (ms := 6) rfl rfl ⟨by decide, by decide⟩) (rC_X12 hN cx hp) rfl rfl (Nat.le_of_ble_eq_true rfl) dX12_rankOf_7 ⟨by decide, by decide⟩) rfl rfl (by decide) (by decide)
    · refine zv_ok hp (yx_V (As := [.int p2]) (rest := []) cx hp hl (c_X12_requireStall l hN hT hlf  hc) (cw_X12_161 cx (mc := 1) (ms := 6) rfl rfl ⟨by decide, by decide⟩) (rC_X12 hN cx hp) rfl rfl (Nat.le_of_ble_eq_true rfl) dX12_rankOf_7 ⟨by decide, by decide⟩) rfl (fun H locs hp => ?_)
      refine lv_aload_n hx hb dX12_rankOf_10 rfl (lv_at hl 0 rfl) ?_
      refine gF_X12_99 rfl hN cx hp dX12_rankOf_11 ?_
      refine lv_iload_n hx hb dX12_rankOf_14 rfl (lv_at hl 1 rfl) ?_
      refine lv_iload_n hx hb dX12_rankOf_15 rfl (lv_at hl 2 rfl) ?_
      obtain ⟨r1, hc, hf⟩ := fb hf
      refine x_i hp (y_V (As := [.int p1, .int p2]) (rest := []) cx hp hl (c_X5_rankIn l (Nat.le_trans (by decide) hN) hT (by decide) rfl hc) (cw_X12_188 cx (mc := 0) (ms := 0) rfl rfl ⟨by decide, by decide⟩) (rC_X5 (by decide) (Nat.le_trans (by decide) hN) cx hp) rfl rfl (Nat.le_of_ble_eq_true rfl) dX12_rankOf_16 ⟨by decide, by decide⟩) (fun r_c u_c H locs hq hp => ?_)
      obtain ⟨rfl, rfl⟩ := hq
      cases hf
      refine vx_ret ?_
      exact r_i cx hp ⟨rfl, rfl⟩ dX12_rankOf_19
abbrev rm_X12_prefers : Room := { frames := 7, cells := 3, slots := 18, locals := 103 }
set_option maxRecDepth 100000 in
set_option maxHeartbeats 4000000 in
theorem c_X12_prefers (l : Launch) {E : Ev} (hN : 130 ≤ eN E) (hT : St E) (hlf : l.stackTraces = false) {σ : SM} {p1 : Int32} {p2 : Int32} {p3 : Int32} {z : Nat ⊕ (Int32)} (hf : f_X12_prefers p1 p2 p3 σ = some z) : vx_Met l yX12_prefers (wC yX12_prefers cX12_prefers 4 (some .boolean)) rm_X12_prefers (va_Pc [.ref (adr E 19 0), .int p1, .int p2, .int p3] (Wu E σ)) (va_Qi (fun r u => z = .inr r ∧ σ = u) (fun u t => Wu E u t) (eA E)) (XT E σ (fun k => z = .inl k)) 3 18 (eA E) := by
  refine gx_entry (lv := [(0, .ref (adr E 19 0)), (1, .int p1), (2, .int p2), (3, .int p3)]) (by decide) (Nat.le_of_ble_eq_true rfl) rfl ?_
  intro p e s m below meth c cx hxt hp ls hl
  have hx := cx.1.1
  have hb := cx.1.2.1
  unfold f_X12_prefers at hf
  refine lv_aload_n hx hb dX12_prefers_0 rfl (lv_at hl 0 rfl) ?_
  refine lv_iload_n hx hb dX12_prefers_1 rfl (lv_at hl 1 rfl) ?_
  rcases fX hf with ⟨k_t, hc, rfl⟩ | ⟨_, hc, hf⟩
  · exact zv_thr cx hxt hp (yx_V (As := [.int p1]) (rest := []) cx hp hl (c_X12_requireSeller l hN hT hlf  hc) (cw_X12_151 cx (mc := 1) (ms := 6) rfl rfl ⟨by decide, by decide⟩) (rC_X12 hN cx hp) rfl rfl (Nat.le_of_ble_eq_true rfl) dX12_prefers_2 ⟨by decide, by decide⟩) rfl rfl (by decide) (by decide)
  · refine zv_ok hp (yx_V (As := [.int p1]) (rest := []) cx hp hl (c_X12_requireSeller l hN hT hlf  hc) (cw_X12_151 cx (mc := 1) (ms := 6) rfl rfl ⟨by decide, by decide⟩) (rC_X12 hN cx hp) rfl rfl (Nat.le_of_ble_eq_true rfl) dX12_prefers_2 ⟨by decide, by decide⟩) rfl (fun H locs hp => ?_)
    refine lv_iload_n hx hb dX12_prefers_5 rfl (lv_at hl 2 rfl) ?_
    refine lv_iconst (v := (-1)) hx hb dX12_prefers_6 (by decide) ?_
    refine lv_icmp_eq (tgt := 15) hx hb dX12_prefers_7 (by decide) (fun c1 => ?_) (fun c1 => ?_)
    · have hf := fp hf c1
      refine lv_iload_n hx hb dX12_prefers_15 rfl (lv_at hl 3 rfl) ?_
      refine lv_iconst (v := (-1)) hx hb dX12_prefers_16 (by decide) ?_
      refine lv_icmp_eq (tgt := 25) hx hb dX12_prefers_17 (by decide) (fun c2 => ?_) (fun c2 => ?_)
      · have hf := fp hf c2
        refine lv_aload_n hx hb dX12_prefers_25 rfl (lv_at hl 0 rfl) ?_
        refine gF_X12_99 rfl hN cx hp dX12_prefers_26 ?_
        refine lv_iload_n hx hb dX12_prefers_29 rfl (lv_at hl 1 rfl) ?_
        refine lv_iload_n hx hb dX12_prefers_30 rfl (lv_at hl 2 rfl) ?_
        refine lv_iload_n hx hb dX12_prefers_31 rfl (lv_at hl 3 rfl) ?_
        obtain ⟨r3, hc, hf⟩ := fb hf
        refine x_i hp (y_V (As := [.int p1, .int p2, .int p3]) (rest := []) cx hp hl (c_X5_ranksAbove l (Nat.le_trans (by decide) hN) hT (by decide) rfl hc) (cw_X12_191 cx (mc := 0) (ms := 0) rfl rfl ⟨by decide, by decide⟩) (rC_X5 (by decide) (Nat.le_trans (by decide) hN) cx hp) rfl rfl (Nat.le_of_ble_eq_true rfl) dX12_prefers_32 ⟨by decide, by decide⟩) (fun r_c u_c H locs hq hp => ?_)
        obtain ⟨rfl, rfl⟩ := hq
        obtain ⟨g_z, hf⟩ := fg hf
        cases hf
        refine vx_ret ?_
        refine W.widen (k := 3) (n := 18) (by decide) (by decide) ?_
        exact r_z cx hp (bz_n g_z) ⟨rfl, rfl⟩ dX12_prefers_35
      · have hf := fn hf c2
        refine lv_aload_n hx hb dX12_prefers_20 rfl (lv_at hl 0 rfl) ?_
        refine lv_iload_n hx hb dX12_prefers_21 rfl (lv_at hl 3 rfl) ?_
        rcases fX hf with ⟨k_t, hc, rfl⟩ | ⟨_, hc, hf⟩
        · exact zv_thr cx hxt hp (yx_V (As := [.int p3]) (rest := []) cx hp hl (c_X12_requireStall l hN hT hlf  hc) (cw_X12_161 cx (mc := 1) (ms := 6) rfl rfl ⟨by decide, by decide⟩) (rC_X12 hN cx hp) rfl rfl (Nat.le_of_ble_eq_true rfl) dX12_prefers_22 ⟨by decide, by decide⟩) rfl rfl (by decide) (by decide)
        · refine zv_ok hp (yx_V (As := [.int p3]) (rest := []) cx hp hl (c_X12_requireStall l hN hT hlf  hc) (cw_X12_161 cx (mc := 1) (ms := 6) rfl rfl ⟨by decide, by decide⟩) (rC_X12 hN cx hp) rfl rfl (Nat.le_of_ble_eq_true rfl) dX12_prefers_22 ⟨by decide, by decide⟩) rfl (fun H locs hp => ?_)
          refine lv_aload_n hx hb dX12_prefers_25 rfl (lv_at hl 0 rfl) ?_
          refine gF_X12_99 rfl hN cx hp dX12_prefers_26 ?_
          refine lv_iload_n hx hb dX12_prefers_29 rfl (lv_at hl 1 rfl) ?_
          refine lv_iload_n hx hb dX12_prefers_30 rfl (lv_at hl 2 rfl) ?_
          refine lv_iload_n hx hb dX12_prefers_31 rfl (lv_at hl 3 rfl) ?_
          obtain ⟨r4, hc, hf⟩ := fb hf
          refine x_i hp (y_V (As := [.int p1, .int p2, .int p3]) (rest := []) cx hp hl (c_X5_ranksAbove l (Nat.le_trans (by decide) hN) hT (by decide) rfl hc) (cw_X12_191 cx (mc := 0) (ms := 0) rfl rfl ⟨by decide, by decide⟩) (rC_X5 (by decide) (Nat.le_trans (by decide) hN) cx hp) rfl rfl (Nat.le_of_ble_eq_true rfl) dX12_prefers_32 ⟨by decide, by decide⟩) (fun r_c u_c H locs hq hp => ?_)
          obtain ⟨rfl, rfl⟩ := hq
          obtain ⟨g_z, hf⟩ := fg hf
          cases hf
          refine vx_ret ?_
          refine W.widen (k := 3) (n := 18) (by decide) (by decide) ?_
          exact r_z cx hp (bz_n g_z) ⟨rfl, rfl⟩ dX12_prefers_35
    · have hf := fn hf c1
      refine lv_aload_n hx hb dX12_prefers_10 rfl (lv_at hl 0 rfl) ?_
      refine lv_iload_n hx hb dX12_prefers_11 rfl (lv_at hl 2 rfl) ?_
      rcases fX hf with ⟨k_t, hc, rfl⟩ | ⟨_, hc, hf⟩
      · exact zv_thr cx hxt hp (yx_V (As := [.int p2]) (rest := []) cx hp hl (c_X12_requireStall l hN hT hlf  hc) (cw_X12_161 cx (mc := 1) (ms := 6) rfl rfl ⟨by decide, by decide⟩) (rC_X12 hN cx hp) rfl rfl (Nat.le_of_ble_eq_true rfl) dX12_prefers_12 ⟨by decide, by decide⟩) rfl rfl (by decide) (by decide)
      · refine zv_ok hp (yx_V (As := [.int p2]) (rest := []) cx hp hl (c_X12_requireStall l hN hT hlf  hc) (cw_X12_161 cx (mc := 1) (ms := 6) rfl rfl ⟨by decide, by decide⟩) (rC_X12 hN cx hp) rfl rfl (Nat.le_of_ble_eq_true rfl) dX12_prefers_12 ⟨by decide, by decide⟩) rfl (fun H locs hp => ?_)
        refine lv_iload_n hx hb dX12_prefers_15 rfl (lv_at hl 3 rfl) ?_
        refine lv_iconst (v := (-1)) hx hb dX12_prefers_16 (by decide) ?_
        refine lv_icmp_eq (tgt := 25) hx hb dX12_prefers_17 (by decide) (fun c5 => ?_) (fun c5 => ?_)
        · have hf := fp hf c5
          refine lv_aload_n hx hb dX12_prefers_25 rfl (lv_at hl 0 rfl) ?_
          refine gF_X12_99 rfl hN cx hp dX12_prefers_26 ?_
          refine lv_iload_n hx hb dX12_prefers_29 rfl (lv_at hl 1 rfl) ?_
          refine lv_iload_n hx hb dX12_prefers_30 rfl (lv_at hl 2 rfl) ?_
          refine lv_iload_n hx hb dX12_prefers_31 rfl (lv_at hl 3 rfl) ?_
          obtain ⟨r6, hc, hf⟩ := fb hf
          refine x_i hp (y_V (As := [.int p1, .int p2, .int p3]) (rest := []) cx hp hl (c_X5_ranksAbove l (Nat.le_trans (by decide) hN) hT (by decide) rfl hc) (cw_X12_191 cx (mc := 0) (ms := 0) rfl rfl ⟨by decide, by decide⟩) (rC_X5 (by decide) (Nat.le_trans (by decide) hN) cx hp) rfl rfl (Nat.le_of_ble_eq_true rfl) dX12_prefers_32 ⟨by decide, by decide⟩) (fun r_c u_c H locs hq hp => ?_)
          obtain ⟨rfl, rfl⟩ := hq
          obtain ⟨g_z, hf⟩ := fg hf
          cases hf
          refine vx_ret ?_
          refine W.widen (k := 3) (n := 18) (by decide) (by decide) ?_
          exact r_z cx hp (bz_n g_z) ⟨rfl, rfl⟩ dX12_prefers_35
        · have hf := fn hf c5
          refine lv_aload_n hx hb dX12_prefers_20 rfl (lv_at hl 0 rfl) ?_
          refine lv_iload_n hx hb dX12_prefers_21 rfl (lv_at hl 3 rfl) ?_
          rcases fX hf with ⟨k_t, hc, rfl⟩ | ⟨_, hc, hf⟩
          · exact zv_thr cx hxt hp (yx_V (As := [.int p3]) (rest := []) cx hp hl (c_X12_requireStall l hN hT hlf  hc) (cw_X12_161 cx (mc := 1) (ms := 6) rfl rfl ⟨by decide, by decide⟩) (rC_X12 hN cx hp) rfl rfl (Nat.le_of_ble_eq_true rfl) dX12_prefers_22 ⟨by decide, by decide⟩) rfl rfl (by decide) (by decide)
          · refine zv_ok hp (yx_V (As := [.int p3]) (rest := []) cx hp hl (c_X12_requireStall l hN hT hlf  hc) (cw_X12_161 cx (mc := 1) (ms := 6) rfl rfl ⟨by decide, by decide⟩) (rC_X12 hN cx hp) rfl rfl (Nat.le_of_ble_eq_true rfl) dX12_prefers_22 ⟨by decide, by decide⟩) rfl (fun H locs hp => ?_)
            refine lv_aload_n hx hb dX12_prefers_25 rfl (lv_at hl 0 rfl) ?_
            refine gF_X12_99 rfl hN cx hp dX12_prefers_26 ?_
            refine lv_iload_n hx hb dX12_prefers_29 rfl (lv_at hl 1 rfl) ?_
            refine lv_iload_n hx hb dX12_prefers_30 rfl (lv_at hl 2 rfl) ?_
            refine lv_iload_n hx hb dX12_prefers_31 rfl (lv_at hl 3 rfl) ?_
            obtain ⟨r7, hc, hf⟩ := fb hf
            refine x_i hp (y_V (As := [.int p1, .int p2, .int p3]) (rest := []) cx hp hl (c_X5_ranksAbove l (Nat.le_trans (by decide) hN) hT (by decide) rfl hc) (cw_X12_191 cx (mc := 0) (ms := 0) rfl rfl ⟨by decide, by decide⟩) (rC_X5 (by decide) (Nat.le_trans (by decide) hN) cx hp) rfl rfl (Nat.le_of_ble_eq_true rfl) dX12_prefers_32 ⟨by decide, by decide⟩) (fun r_c u_c H locs hq hp => ?_)
            obtain ⟨rfl, rfl⟩ := hq
            obtain ⟨g_z, hf⟩ := fg hf
            cases hf
            refine vx_ret ?_
            exact r_z cx hp (bz_n g_z) ⟨rfl, rfl⟩ dX12_prefers_35
abbrev rm_X12_sellerNameByte : Room := { frames := 7, cells := 1, slots := 6, locals := 103 }
set_option maxRecDepth 100000 in
set_option maxHeartbeats 4000000 in
theorem c_X12_sellerNameByte (l : Launch) {E : Ev} (hN : 130 ≤ eN E) (hT : St E) (hlf : l.stackTraces = false) {σ : SM} {p1 : Int32} {p2 : Int32} {z : Nat ⊕ (Int32)} (hf : f_X12_sellerNameByte p1 p2 σ = some z) : vx_Met l yX12_sellerNameByte (wC yX12_sellerNameByte cX12_sellerNameByte 3 (some .int)) rm_X12_sellerNameByte (va_Pc [.ref (adr E 19 0), .int p1, .int p2] (Wu E σ)) (va_Qi (fun r u => z = .inr r ∧ σ = u) (fun u t => Wu E u t) (eA E)) (XT E σ (fun k => z = .inl k)) 1 6 (eA E) := by
  refine gx_entry (lv := [(0, .ref (adr E 19 0)), (1, .int p1), (2, .int p2)]) (by decide) (Nat.le_of_ble_eq_true rfl) rfl ?_
  intro p e s m below meth c cx hxt hp ls hl
  have hx := cx.1.1
  have hb := cx.1.2.1
  unfold f_X12_sellerNameByte at hf
  refine lv_aload_n hx hb dX12_sellerNameByte_0 rfl (lv_at hl 0 rfl) ?_
  refine lv_iload_n hx hb dX12_sellerNameByte_1 rfl (lv_at hl 1 rfl) ?_
  rcases fX hf with ⟨k_t, hc, rfl⟩ | ⟨_, hc, hf⟩
  · exact zv_thr cx hxt hp (yx_V (As := [.int p1]) (rest := []) cx hp hl (c_X12_requireSeller l hN hT hlf  hc) (cw_X12_151 cx (mc := 1) (ms := 6) rfl rfl ⟨by decide, by decide⟩) (rC_X12 hN cx hp) rfl rfl (Nat.le_of_ble_eq_true rfl) dX12_sellerNameByte_2 ⟨by decide, by decide⟩) rfl rfl (by decide) (by decide)
  · refine zv_ok hp (yx_V (As := [.int p1]) (rest := []) cx hp hl (c_X12_requireSeller l hN hT hlf  hc) (cw_X12_151 cx (mc := 1) (ms := 6) rfl rfl ⟨by decide, by decide⟩) (rC_X12 hN cx hp) rfl rfl (Nat.le_of_ble_eq_true rfl) dX12_sellerNameByte_2 ⟨by decide, by decide⟩) rfl (fun H locs hp => ?_)
    refine lv_aload_n hx hb dX12_sellerNameByte_5 rfl (lv_at hl 0 rfl) ?_
    refine gF_X12_99 rfl hN cx hp dX12_sellerNameByte_6 ?_
    refine lv_iload_n hx hb dX12_sellerNameByte_9 rfl (lv_at hl 1 rfl) ?_
    obtain ⟨r1, hc, hf⟩ := fb hf
    refine x_l hp (y_V (As := [.int p1]) (rest := []) cx hp hl (c_X5_nameOfSeller l (Nat.le_trans (by decide) hN) hT (by decide) rfl hc) (cw_X12_195 cx (mc := 0) (ms := 0) rfl rfl ⟨by decide, by decide⟩) (rC_X5 (by decide) (Nat.le_trans (by decide) hN) cx hp) rfl rfl (Nat.le_of_ble_eq_true rfl) dX12_sellerNameByte_10 ⟨by decide, by decide⟩) (fun r_c u_c H locs hq hp => ?_)
    obtain ⟨rfl, rfl⟩ := hq
    refine lv_iload_n hx hb dX12_sellerNameByte_13 rfl (lv_at hl 2 rfl) ?_
    obtain ⟨r2, hc, hf⟩ := fb hf
    refine x_i hp (y_S (As := [.long r1, .int p2]) (rest := []) cx hp hl (c_X12_letterAt l (Nat.le_trans (by decide) hN) hT  hc) (cw_X12_199 cx (mc := 0) (ms := 0) rfl rfl ⟨by decide, by decide⟩) rfl rfl (Nat.le_of_ble_eq_true rfl) dX12_sellerNameByte_14 ⟨by decide, by decide⟩) (fun r_c u_c H locs hq hp => ?_)
    obtain ⟨rfl, rfl⟩ := hq
    cases hf
    refine vx_ret ?_
    exact r_i cx hp ⟨rfl, rfl⟩ dX12_sellerNameByte_17
abbrev rm_X12_stallNameByte : Room := { frames := 7, cells := 1, slots := 6, locals := 103 }
set_option maxRecDepth 100000 in
set_option maxHeartbeats 4000000 in
theorem c_X12_stallNameByte (l : Launch) {E : Ev} (hN : 130 ≤ eN E) (hT : St E) (hlf : l.stackTraces = false) {σ : SM} {p1 : Int32} {p2 : Int32} {z : Nat ⊕ (Int32)} (hf : f_X12_stallNameByte p1 p2 σ = some z) : vx_Met l yX12_stallNameByte (wC yX12_stallNameByte cX12_stallNameByte 3 (some .int)) rm_X12_stallNameByte (va_Pc [.ref (adr E 19 0), .int p1, .int p2] (Wu E σ)) (va_Qi (fun r u => z = .inr r ∧ σ = u) (fun u t => Wu E u t) (eA E)) (XT E σ (fun k => z = .inl k)) 1 6 (eA E) := by
  refine gx_entry (lv := [(0, .ref (adr E 19 0)), (1, .int p1), (2, .int p2)]) (by decide) (Nat.le_of_ble_eq_true rfl) rfl ?_
  intro p e s m below meth c cx hxt hp ls hl
  have hx := cx.1.1
  have hb := cx.1.2.1
  unfold f_X12_stallNameByte at hf
  refine lv_aload_n hx hb dX12_stallNameByte_0 rfl (lv_at hl 0 rfl) ?_
  refine lv_iload_n hx hb dX12_stallNameByte_1 rfl (lv_at hl 1 rfl) ?_
  rcases fX hf with ⟨k_t, hc, rfl⟩ | ⟨_, hc, hf⟩
  · exact zv_thr cx hxt hp (yx_V (As := [.int p1]) (rest := []) cx hp hl (c_X12_requireStall l hN hT hlf  hc) (cw_X12_161 cx (mc := 1) (ms := 6) rfl rfl ⟨by decide, by decide⟩) (rC_X12 hN cx hp) rfl rfl (Nat.le_of_ble_eq_true rfl) dX12_stallNameByte_2 ⟨by decide, by decide⟩) rfl rfl (by decide) (by decide)
  · refine zv_ok hp (yx_V (As := [.int p1]) (rest := []) cx hp hl (c_X12_requireStall l hN hT hlf  hc) (cw_X12_161 cx (mc := 1) (ms := 6) rfl rfl ⟨by decide, by decide⟩) (rC_X12 hN cx hp) rfl rfl (Nat.le_of_ble_eq_true rfl) dX12_stallNameByte_2 ⟨by decide, by decide⟩) rfl (fun H locs hp => ?_)
    refine lv_aload_n hx hb dX12_stallNameByte_5 rfl (lv_at hl 0 rfl) ?_
    refine gF_X12_99 rfl hN cx hp dX12_stallNameByte_6 ?_
    refine lv_iload_n hx hb dX12_stallNameByte_9 rfl (lv_at hl 1 rfl) ?_
    obtain ⟨r1, hc, hf⟩ := fb hf
    refine x_l hp (y_V (As := [.int p1]) (rest := []) cx hp hl (c_X5_nameOfStall l (Nat.le_trans (by decide) hN) hT (by decide) rfl hc) (cw_X12_203 cx (mc := 0) (ms := 0) rfl rfl ⟨by decide, by decide⟩) (rC_X5 (by decide) (Nat.le_trans (by decide) hN) cx hp) rfl rfl (Nat.le_of_ble_eq_true rfl) dX12_stallNameByte_10 ⟨by decide, by decide⟩) (fun r_c u_c H locs hq hp => ?_)
    obtain ⟨rfl, rfl⟩ := hq
    refine lv_iload_n hx hb dX12_stallNameByte_13 rfl (lv_at hl 2 rfl) ?_
    obtain ⟨r2, hc, hf⟩ := fb hf
    refine x_i hp (y_S (As := [.long r1, .int p2]) (rest := []) cx hp hl (c_X12_letterAt l (Nat.le_trans (by decide) hN) hT  hc) (cw_X12_199 cx (mc := 0) (ms := 0) rfl rfl ⟨by decide, by decide⟩) rfl rfl (Nat.le_of_ble_eq_true rfl) dX12_stallNameByte_14 ⟨by decide, by decide⟩) (fun r_c u_c H locs hq hp => ?_)
    obtain ⟨rfl, rfl⟩ := hq
    cases hf
    refine vx_ret ?_
    exact r_i cx hp ⟨rfl, rfl⟩ dX12_stallNameByte_17
abbrev rm_X12_findSeller : Room := { frames := 4, cells := 0, slots := 0, locals := 82 }
set_option maxRecDepth 100000 in
set_option maxHeartbeats 4000000 in
theorem c_X12_findSeller (l : Launch) {E : Ev} (hN : 130 ≤ eN E) (hT : St E) {σ : SM}  {rv : Int32} {σ' : SM} (hf : f_X12_findSeller σ = some (rv, σ')) : Met l yX12_findSeller (wC yX12_findSeller cX12_findSeller 3 (some .int)) rm_X12_findSeller (va_Pc [.ref (adr E 19 0)] (Wu E σ)) (va_Qi (fun r u => rv = r ∧ σ' = u) (fun u t => Wu E u t) (eA E)) 0 0 (eA E) := by
  refine g_entry (lv := [(0, .ref (adr E 19 0))]) (by decide) (Nat.le_of_ble_eq_true rfl) rfl ?_
  intro p e s m below meth c cx hp ls hl
  have hx := cx.1.1
  have hb := cx.1.2.1
  unfold f_X12_findSeller at hf
  refine lv_aload_n hx hb dX12_findSeller_0 rfl (lv_at hl 0 rfl) ?_
  refine gF_X12_95 rfl hN cx hp dX12_findSeller_1 ?_
  refine gF_X12_69 rfl (Nat.le_trans (by decide) hN) cx hp dX12_findSeller_4 ?_
  refine lv_astore_n (lv' := [(1, .ref (adr E 12 0)), (0, .ref (adr E 19 0))]) hx hb dX12_findSeller_7 rfl hl (by decide) rfl (fun ls hl => ?_)
  refine lv_aload_n hx hb dX12_findSeller_8 rfl (lv_at hl 0 rfl) ?_
  obtain ⟨m1, hc, hf⟩ := fb hf
  refine x_v hp (y_V (As := []) (rest := []) cx hp hl (c_X10_rewind l (Nat.le_trans (by decide) hN) hT rfl rfl hc) (cw_X12_206 cx (mc := 0) (ms := 0) rfl rfl ⟨by decide, by decide⟩) (rC_X10 (Nat.le_trans (by decide) hN) cx hp) rfl rfl (Nat.le_of_ble_eq_true rfl) dX12_findSeller_9 ⟨Nat.zero_le _, Nat.zero_le _⟩) (fun u_c H locs hq hp => ?_)
  obtain ⟨e_0, n_u⟩ := hq
  obtain ⟨σ2, e_l, hf⟩ := fl hf
  obtain rfl := ((us_x e_0 n_u).trans e_l).symm
  refine lv_aload_n hx hb dX12_findSeller_12 rfl (lv_at hl 0 rfl) ?_
  refine gF_X12_209 rfl (Nat.le_trans (by decide) hN) cx hp dX12_findSeller_13 ?_
  refine lv_if_ne (tgt := 37) hx hb dX12_findSeller_16 (by decide) (fun c3 => ?_) (fun c3 => ?_)
  · have hf := fn hf c3
    refine lv_iconst (v := 0) hx hb dX12_findSeller_37 (by decide) ?_
    refine lv_istore_n (lv' := [(2, .int 0), (1, .ref (adr E 12 0)), (0, .ref (adr E 19 0))]) hx hb dX12_findSeller_38 rfl hl (by decide) rfl (fun ls hl => ?_)
    refine lv_iload_n hx hb dX12_findSeller_39 rfl (lv_at hl 0 rfl) ?_
    refine lv_if_eq (tgt := 57) hx hb dX12_findSeller_40 (by decide) (fun _ => ?_) (fun c_x => absurd (by decide) c_x)
    refine lv_iconst (v := (-1)) hx hb dX12_findSeller_57 (by decide) ?_
    cases hf
    exact r_i cx hp ⟨rfl, rfl⟩ dX12_findSeller_58
  · have hf := fp hf c3
    refine lv_aload_n hx hb dX12_findSeller_19 rfl (lv_at hl 0 rfl) ?_
    refine gF_X12_212 rfl (Nat.le_trans (by decide) hN) cx hp dX12_findSeller_20 ?_
    refine lv_aload_n hx hb dX12_findSeller_23 rfl (lv_at hl 0 rfl) ?_
    refine gF_X12_73 rfl (Nat.le_trans (by decide) hN) cx hp dX12_findSeller_24 ?_
    refine gF_X12_102_13 rfl (Nat.le_trans (by decide) hN) cx hp dX12_findSeller_27 ?_
    refine lv_icmp_ne (tgt := 37) hx hb dX12_findSeller_30 (by decide) (fun c5 => ?_) (fun c5 => ?_)
    · have hf := fn hf c5
      refine lv_iconst (v := 0) hx hb dX12_findSeller_37 (by decide) ?_
      refine lv_istore_n (lv' := [(2, .int 0), (1, .ref (adr E 12 0)), (0, .ref (adr E 19 0))]) hx hb dX12_findSeller_38 rfl hl (by decide) rfl (fun ls hl => ?_)
      refine lv_iload_n hx hb dX12_findSeller_39 rfl (lv_at hl 0 rfl) ?_
      refine lv_if_eq (tgt := 57) hx hb dX12_findSeller_40 (by decide) (fun _ => ?_) (fun c_x => absurd (by decide) c_x)
      refine lv_iconst (v := (-1)) hx hb dX12_findSeller_57 (by decide) ?_
      cases hf
      exact r_i cx hp ⟨rfl, rfl⟩ dX12_findSeller_58
    · have hf := fp hf c5
      refine lv_iconst (v := 1) hx hb dX12_findSeller_33 (by decide) ?_
      refine lv_goto (tgt := 38) hx hb dX12_findSeller_34 (by decide) ?_
      refine lv_istore_n (lv' := [(2, .int 1), (1, .ref (adr E 12 0)), (0, .ref (adr E 19 0))]) hx hb dX12_findSeller_38 rfl hl (by decide) rfl (fun ls hl => ?_)
      refine lv_iload_n hx hb dX12_findSeller_39 rfl (lv_at hl 0 rfl) ?_
      refine lv_if_eq (tgt := 57) hx hb dX12_findSeller_40 (by decide) (fun c_x => absurd c_x (by decide)) (fun _ => ?_)
      refine lv_aload_n hx hb dX12_findSeller_43 rfl (lv_at hl 2 rfl) ?_
      refine gF_X12_99 rfl hN cx hp dX12_findSeller_44 ?_
      refine lv_aload_n hx hb dX12_findSeller_47 rfl (lv_at hl 1 rfl) ?_
      refine gF_X12_215 rfl (Nat.le_trans (by decide) hN) cx hp dX12_findSeller_48 ?_
      obtain ⟨r8, hc, hf⟩ := fb hf
      refine x_i hp (y_V (As := [.long ((σ2 12).2.1 0 5)]) (rest := []) cx hp hl (c_X5_sellerCalled l (Nat.le_trans (by decide) hN) hT (by decide) rfl hc) (cw_X12_219 cx (mc := 0) (ms := 0) rfl rfl ⟨by decide, by decide⟩) (rC_X5 (by decide) (Nat.le_trans (by decide) hN) cx hp) rfl rfl (Nat.le_of_ble_eq_true rfl) dX12_findSeller_51 ⟨Nat.zero_le _, Nat.zero_le _⟩) (fun r_c u_c H locs hq hp => ?_)
      obtain ⟨rfl, rfl⟩ := hq
      refine lv_goto (tgt := 58) hx hb dX12_findSeller_54 (by decide) ?_
      cases hf
      exact r_i cx hp ⟨rfl, rfl⟩ dX12_findSeller_58
abbrev rm_X12_freeStallCount : Room := { frames := 1, cells := 0, slots := 0, locals := 22 }
set_option maxRecDepth 100000 in
set_option maxHeartbeats 4000000 in
theorem c_X12_freeStallCount (l : Launch) {E : Ev} (hN : 130 ≤ eN E) (hT : St E) {σ : SM}  {rv : Int32} (hf : f_X12_freeStallCount σ = some rv) : Met l yX12_freeStallCount (wC yX12_freeStallCount cX12_freeStallCount 1 (some .int)) rm_X12_freeStallCount (va_Pc [.ref (adr E 19 0)] (Wu E σ)) (va_Qi (fun r u => rv = r ∧ σ = u) (fun u t => Wu E u t) (eA E)) 0 0 (eA E) := by
  refine g_entry (lv := [(0, .ref (adr E 19 0))]) (by decide) (Nat.le_of_ble_eq_true rfl) rfl ?_
  intro p e s m below meth c cx hp ls hl
  have hx := cx.1.1
  have hb := cx.1.2.1
  unfold f_X12_freeStallCount at hf
  refine lv_aload_n hx hb dX12_freeStallCount_0 rfl (lv_at hl 0 rfl) ?_
  refine gF_X12_99 rfl hN cx hp dX12_freeStallCount_1 ?_
  refine gF_X12_145 (by decide) rfl (Nat.le_trans (by decide) hN) cx hp dX12_freeStallCount_4 ?_
  refine lv_aload_n hx hb dX12_freeStallCount_7 rfl (lv_at hl 0 rfl) ?_
  refine gF_X12_99 rfl hN cx hp dX12_freeStallCount_8 ?_
  obtain ⟨r1, hc, hf⟩ := fb hf
  refine x_i hp (y_V (As := []) (rest := [.int ((σ 0).1 0 1)]) cx hp hl (c_X5_housedSellers l (Nat.le_trans (by decide) hN) hT (by decide) rfl hc) (cw_X12_223 cx (mc := 0) (ms := 0) rfl rfl ⟨by decide, by decide⟩) (rC_X5 (by decide) (Nat.le_trans (by decide) hN) cx hp) rfl rfl (Nat.le_of_ble_eq_true rfl) dX12_freeStallCount_11 ⟨Nat.zero_le _, Nat.zero_le _⟩) (fun r_c u_c H locs hq hp => ?_)
  obtain ⟨rfl, rfl⟩ := hq
  refine lv_isub hx hb dX12_freeStallCount_14 ?_
  cases hf
  exact r_i cx hp ⟨rfl, rfl⟩ dX12_freeStallCount_15
abbrev rm_X12_envies : Room := { frames := 7, cells := 2, slots := 12, locals := 103 }
set_option maxRecDepth 100000 in
set_option maxHeartbeats 4000000 in
theorem c_X12_envies (l : Launch) {E : Ev} (hN : 130 ≤ eN E) (hT : St E) (hlf : l.stackTraces = false) {σ : SM} {p1 : Int32} {p2 : Int32} {z : Nat ⊕ (Int32)} (hf : f_X12_envies p1 p2 σ = some z) : vx_Met l yX12_envies (wC yX12_envies cX12_envies 3 (some .boolean)) rm_X12_envies (va_Pc [.ref (adr E 19 0), .int p1, .int p2] (Wu E σ)) (va_Qi (fun r u => z = .inr r ∧ σ = u) (fun u t => Wu E u t) (eA E)) (XT E σ (fun k => z = .inl k)) 2 12 (eA E) := by
  refine gx_entry (lv := [(0, .ref (adr E 19 0)), (1, .int p1), (2, .int p2)]) (by decide) (Nat.le_of_ble_eq_true rfl) rfl ?_
  intro p e s m below meth c cx hxt hp ls hl
  have hx := cx.1.1
  have hb := cx.1.2.1
  unfold f_X12_envies at hf
  refine lv_aload_n hx hb dX12_envies_0 rfl (lv_at hl 0 rfl) ?_
  refine lv_iload_n hx hb dX12_envies_1 rfl (lv_at hl 1 rfl) ?_
  rcases fX hf with ⟨k_t, hc, rfl⟩ | ⟨_, hc, hf⟩
  · exact zv_thr cx hxt hp (yx_V (As := [.int p1]) (rest := []) cx hp hl (c_X12_requireSeller l hN hT hlf  hc) (cw_X12_151 cx (mc := 1) (ms := 6) rfl rfl ⟨by decide, by decide⟩) (rC_X12 hN cx hp) rfl rfl (Nat.le_of_ble_eq_true rfl) dX12_envies_2 ⟨by decide, by decide⟩) rfl rfl (by decide) (by decide)
  · refine zv_ok hp (yx_V (As := [.int p1]) (rest := []) cx hp hl (c_X12_requireSeller l hN hT hlf  hc) (cw_X12_151 cx (mc := 1) (ms := 6) rfl rfl ⟨by decide, by decide⟩) (rC_X12 hN cx hp) rfl rfl (Nat.le_of_ble_eq_true rfl) dX12_envies_2 ⟨by decide, by decide⟩) rfl (fun H locs hp => ?_)
    refine lv_aload_n hx hb dX12_envies_5 rfl (lv_at hl 0 rfl) ?_
    refine lv_iload_n hx hb dX12_envies_6 rfl (lv_at hl 2 rfl) ?_
    rcases fX hf with ⟨k_t, hc, rfl⟩ | ⟨_, hc, hf⟩
    · exact zv_thr cx hxt hp (yx_V (As := [.int p2]) (rest := []) cx hp hl (c_X12_requireSeller l hN hT hlf  hc) (cw_X12_151 cx (mc := 1) (ms := 6) rfl rfl ⟨by decide, by decide⟩) (rC_X12 hN cx hp) rfl rfl (Nat.le_of_ble_eq_true rfl) dX12_envies_7 ⟨by decide, by decide⟩) rfl rfl (by decide) (by decide)
    · refine zv_ok hp (yx_V (As := [.int p2]) (rest := []) cx hp hl (c_X12_requireSeller l hN hT hlf  hc) (cw_X12_151 cx (mc := 1) (ms := 6) rfl rfl ⟨by decide, by decide⟩) (rC_X12 hN cx hp) rfl rfl (Nat.le_of_ble_eq_true rfl) dX12_envies_7 ⟨by decide, by decide⟩) rfl (fun H locs hp => ?_)
      refine lv_aload_n hx hb dX12_envies_10 rfl (lv_at hl 0 rfl) ?_
      refine gF_X12_99 rfl hN cx hp dX12_envies_11 ?_
      refine lv_iload_n hx hb dX12_envies_14 rfl (lv_at hl 1 rfl) ?_
      refine lv_iload_n hx hb dX12_envies_15 rfl (lv_at hl 2 rfl) ?_
      obtain ⟨r1, hc, hf⟩ := fb hf
      refine x_i hp (y_S (As := [.ref (adr E 0 0), .int p1, .int p2]) (rest := []) cx hp hl (c_X3_wantsStallOf l (Nat.le_trans (by decide) hN) hT (by decide) rfl hc) (cw_X12_226 cx (mc := 0) (ms := 0) rfl rfl ⟨by decide, by decide⟩) rfl rfl (Nat.le_of_ble_eq_true rfl) dX12_envies_16 ⟨by decide, by decide⟩) (fun r_c u_c H locs hq hp => ?_)
      obtain ⟨rfl, rfl⟩ := hq
      obtain ⟨g_z, hf⟩ := fg hf
      cases hf
      refine vx_ret ?_
      exact r_z cx hp (bz_n g_z) ⟨rfl, rfl⟩ dX12_envies_19
abbrev rm_X12_wouldSwap : Room := { frames := 7, cells := 2, slots := 12, locals := 114 }
set_option maxRecDepth 100000 in
set_option maxHeartbeats 4000000 in
theorem c_X12_wouldSwap (l : Launch) {E : Ev} (hN : 130 ≤ eN E) (hT : St E) (hlf : l.stackTraces = false) {σ : SM} {p1 : Int32} {p2 : Int32} {z : Nat ⊕ (Int32)} (hf : f_X12_wouldSwap p1 p2 σ = some z) : vx_Met l yX12_wouldSwap (wC yX12_wouldSwap cX12_wouldSwap 3 (some .boolean)) rm_X12_wouldSwap (va_Pc [.ref (adr E 19 0), .int p1, .int p2] (Wu E σ)) (va_Qi (fun r u => z = .inr r ∧ σ = u) (fun u t => Wu E u t) (eA E)) (XT E σ (fun k => z = .inl k)) 2 12 (eA E) := by
  refine gx_entry (lv := [(0, .ref (adr E 19 0)), (1, .int p1), (2, .int p2)]) (by decide) (Nat.le_of_ble_eq_true rfl) rfl ?_
  intro p e s m below meth c cx hxt hp ls hl
  have hx := cx.1.1
  have hb := cx.1.2.1
  unfold f_X12_wouldSwap at hf
  refine lv_aload_n hx hb dX12_wouldSwap_0 rfl (lv_at hl 0 rfl) ?_
  refine lv_iload_n hx hb dX12_wouldSwap_1 rfl (lv_at hl 1 rfl) ?_
  rcases fX hf with ⟨k_t, hc, rfl⟩ | ⟨_, hc, hf⟩
  · exact zv_thr cx hxt hp (yx_V (As := [.int p1]) (rest := []) cx hp hl (c_X12_requireSeller l hN hT hlf  hc) (cw_X12_151 cx (mc := 1) (ms := 6) rfl rfl ⟨by decide, by decide⟩) (rC_X12 hN cx hp) rfl rfl (Nat.le_of_ble_eq_true rfl) dX12_wouldSwap_2 ⟨by decide, by decide⟩) rfl rfl (by decide) (by decide)
  · refine zv_ok hp (yx_V (As := [.int p1]) (rest := []) cx hp hl (c_X12_requireSeller l hN hT hlf  hc) (cw_X12_151 cx (mc := 1) (ms := 6) rfl rfl ⟨by decide, by decide⟩) (rC_X12 hN cx hp) rfl rfl (Nat.le_of_ble_eq_true rfl) dX12_wouldSwap_2 ⟨by decide, by decide⟩) rfl (fun H locs hp => ?_)
    refine lv_aload_n hx hb dX12_wouldSwap_5 rfl (lv_at hl 0 rfl) ?_
    refine lv_iload_n hx hb dX12_wouldSwap_6 rfl (lv_at hl 2 rfl) ?_
    rcases fX hf with ⟨k_t, hc, rfl⟩ | ⟨_, hc, hf⟩
    · exact zv_thr cx hxt hp (yx_V (As := [.int p2]) (rest := []) cx hp hl (c_X12_requireSeller l hN hT hlf  hc) (cw_X12_151 cx (mc := 1) (ms := 6) rfl rfl ⟨by decide, by decide⟩) (rC_X12 hN cx hp) rfl rfl (Nat.le_of_ble_eq_true rfl) dX12_wouldSwap_7 ⟨by decide, by decide⟩) rfl rfl (by decide) (by decide)
    · refine zv_ok hp (yx_V (As := [.int p2]) (rest := []) cx hp hl (c_X12_requireSeller l hN hT hlf  hc) (cw_X12_151 cx (mc := 1) (ms := 6) rfl rfl ⟨by decide, by decide⟩) (rC_X12 hN cx hp) rfl rfl (Nat.le_of_ble_eq_true rfl) dX12_wouldSwap_7 ⟨by decide, by decide⟩) rfl (fun H locs hp => ?_)
      refine lv_aload_n hx hb dX12_wouldSwap_10 rfl (lv_at hl 0 rfl) ?_
      refine gF_X12_99 rfl hN cx hp dX12_wouldSwap_11 ?_
      refine lv_iload_n hx hb dX12_wouldSwap_14 rfl (lv_at hl 1 rfl) ?_
      refine lv_iload_n hx hb dX12_wouldSwap_15 rfl (lv_at hl 2 rfl) ?_
      obtain ⟨r1, hc, hf⟩ := fb hf
      refine x_i hp (y_S (As := [.ref (adr E 0 0), .int p1, .int p2]) (rest := []) cx hp hl (c_X3_bothGain l (Nat.le_trans (by decide) hN) hT (by decide) rfl hc) (cw_X12_232 cx (mc := 0) (ms := 0) rfl rfl ⟨by decide, by decide⟩) rfl rfl (Nat.le_of_ble_eq_true rfl) dX12_wouldSwap_16 ⟨by decide, by decide⟩) (fun r_c u_c H locs hq hp => ?_)
      obtain ⟨rfl, rfl⟩ := hq
      obtain ⟨g_z, hf⟩ := fg hf
      cases hf
      refine vx_ret ?_
      exact r_z cx hp (bz_n g_z) ⟨rfl, rfl⟩ dX12_wouldSwap_19
abbrev rm_X12_swapPairCount : Room := { frames := 6, cells := 0, slots := 0, locals := 137 }
set_option maxRecDepth 100000 in
set_option maxHeartbeats 4000000 in
theorem c_X12_swapPairCount (l : Launch) {E : Ev} (hN : 130 ≤ eN E) (hT : St E) {σ : SM}  {rv : Int32} (hf : f_X12_swapPairCount σ = some rv) : Met l yX12_swapPairCount (wC yX12_swapPairCount cX12_swapPairCount 1 (some .int)) rm_X12_swapPairCount (va_Pc [.ref (adr E 19 0)] (Wu E σ)) (va_Qi (fun r u => rv = r ∧ σ = u) (fun u t => Wu E u t) (eA E)) 0 0 (eA E) := by
  refine g_entry (lv := [(0, .ref (adr E 19 0))]) (by decide) (Nat.le_of_ble_eq_true rfl) rfl ?_
  intro p e s m below meth c cx hp ls hl
  have hx := cx.1.1
  have hb := cx.1.2.1
  unfold f_X12_swapPairCount at hf
  refine lv_aload_n hx hb dX12_swapPairCount_0 rfl (lv_at hl 0 rfl) ?_
  refine gF_X12_99 rfl hN cx hp dX12_swapPairCount_1 ?_
  obtain ⟨r1, hc, hf⟩ := fb hf
  refine x_i hp (y_S (As := [.ref (adr E 0 0)]) (rest := []) cx hp hl (c_X3_gainingPairs l (Nat.le_trans (by decide) hN) hT (by decide) rfl hc) (cw_X12_235 cx (mc := 0) (ms := 0) rfl rfl ⟨by decide, by decide⟩) rfl rfl (Nat.le_of_ble_eq_true rfl) dX12_swapPairCount_4 ⟨Nat.zero_le _, Nat.zero_le _⟩) (fun r_c u_c H locs hq hp => ?_)
  obtain ⟨rfl, rfl⟩ := hq
  cases hf
  exact r_i cx hp ⟨rfl, rfl⟩ dX12_swapPairCount_7
abbrev rm_X12_improvingCycleLength : Room := { frames := 7, cells := 1, slots := 6, locals := 139 }
set_option maxRecDepth 100000 in
set_option maxHeartbeats 4000000 in
theorem c_X12_improvingCycleLength (l : Launch) {E : Ev} (hN : 130 ≤ eN E) (hT : St E) (hlf : l.stackTraces = false) {σ : SM} {p1 : Int32} {z : Nat ⊕ (Int32)} (hf : f_X12_improvingCycleLength p1 σ = some z) : vx_Met l yX12_improvingCycleLength (wC yX12_improvingCycleLength cX12_improvingCycleLength 2 (some .int)) rm_X12_improvingCycleLength (va_Pc [.ref (adr E 19 0), .int p1] (Wu E σ)) (va_Qi (fun r u => z = .inr r ∧ σ = u) (fun u t => Wu E u t) (eA E)) (XT E σ (fun k => z = .inl k)) 1 6 (eA E) := by
  refine gx_entry (lv := [(0, .ref (adr E 19 0)), (1, .int p1)]) (by decide) (Nat.le_of_ble_eq_true rfl) rfl ?_
  intro p e s m below meth c cx hxt hp ls hl
  have hx := cx.1.1
  have hb := cx.1.2.1
  unfold f_X12_improvingCycleLength at hf
  refine lv_aload_n hx hb dX12_improvingCycleLength_0 rfl (lv_at hl 0 rfl) ?_
  refine lv_iload_n hx hb dX12_improvingCycleLength_1 rfl (lv_at hl 1 rfl) ?_
  rcases fX hf with ⟨k_t, hc, rfl⟩ | ⟨_, hc, hf⟩
  · exact zv_thr cx hxt hp (yx_V (As := [.int p1]) (rest := []) cx hp hl (c_X12_requireSeller l hN hT hlf  hc) (cw_X12_151 cx (mc := 1) (ms := 6) rfl rfl ⟨by decide, by decide⟩) (rC_X12 hN cx hp) rfl rfl (Nat.le_of_ble_eq_true rfl) dX12_improvingCycleLength_2 ⟨by decide, by decide⟩) rfl rfl (by decide) (by decide)
  · refine zv_ok hp (yx_V (As := [.int p1]) (rest := []) cx hp hl (c_X12_requireSeller l hN hT hlf  hc) (cw_X12_151 cx (mc := 1) (ms := 6) rfl rfl ⟨by decide, by decide⟩) (rC_X12 hN cx hp) rfl rfl (Nat.le_of_ble_eq_true rfl) dX12_improvingCycleLength_2 ⟨by decide, by decide⟩) rfl (fun H locs hp => ?_)
    refine lv_aload_n hx hb dX12_improvingCycleLength_5 rfl (lv_at hl 0 rfl) ?_
    refine gF_X12_99 rfl hN cx hp dX12_improvingCycleLength_6 ?_
    refine lv_iload_n hx hb dX12_improvingCycleLength_9 rfl (lv_at hl 1 rfl) ?_
    obtain ⟨r1, hc, hf⟩ := fb hf
    refine x_i hp (y_S (As := [.ref (adr E 0 0), .int p1]) (rest := []) cx hp hl (c_X3_shortestCycle l (Nat.le_trans (by decide) hN) hT (by decide) rfl hc) (cw_X12_239 cx (mc := 0) (ms := 0) rfl rfl ⟨by decide, by decide⟩) rfl rfl (Nat.le_of_ble_eq_true rfl) dX12_improvingCycleLength_10 ⟨by decide, by decide⟩) (fun r_c u_c H locs hq hp => ?_)
    obtain ⟨rfl, rfl⟩ := hq
    cases hf
    refine vx_ret ?_
    exact r_i cx hp ⟨rfl, rfl⟩ dX12_improvingCycleLength_13
abbrev rm_X12_betterFreeStall : Room := { frames := 7, cells := 1, slots := 6, locals := 103 }
set_option maxRecDepth 100000 in
set_option maxHeartbeats 4000000 in
theorem c_X12_betterFreeStall (l : Launch) {E : Ev} (hN : 130 ≤ eN E) (hT : St E) (hlf : l.stackTraces = false) {σ : SM} {p1 : Int32} {z : Nat ⊕ (Int32)} (hf : f_X12_betterFreeStall p1 σ = some z) : vx_Met l yX12_betterFreeStall (wC yX12_betterFreeStall cX12_betterFreeStall 2 (some .int)) rm_X12_betterFreeStall (va_Pc [.ref (adr E 19 0), .int p1] (Wu E σ)) (va_Qi (fun r u => z = .inr r ∧ σ = u) (fun u t => Wu E u t) (eA E)) (XT E σ (fun k => z = .inl k)) 1 6 (eA E) := by
  refine gx_entry (lv := [(0, .ref (adr E 19 0)), (1, .int p1)]) (by decide) (Nat.le_of_ble_eq_true rfl) rfl ?_
  intro p e s m below meth c cx hxt hp ls hl
  have hx := cx.1.1
  have hb := cx.1.2.1
  unfold f_X12_betterFreeStall at hf
  refine lv_aload_n hx hb dX12_betterFreeStall_0 rfl (lv_at hl 0 rfl) ?_
  refine lv_iload_n hx hb dX12_betterFreeStall_1 rfl (lv_at hl 1 rfl) ?_
  rcases fX hf with ⟨k_t, hc, rfl⟩ | ⟨_, hc, hf⟩
  · exact zv_thr cx hxt hp (yx_V (As := [.int p1]) (rest := []) cx hp hl (c_X12_requireSeller l hN hT hlf  hc) (cw_X12_151 cx (mc := 1) (ms := 6) rfl rfl ⟨by decide, by decide⟩) (rC_X12 hN cx hp) rfl rfl (Nat.le_of_ble_eq_true rfl) dX12_betterFreeStall_2 ⟨by decide, by decide⟩) rfl rfl (by decide) (by decide)
  · refine zv_ok hp (yx_V (As := [.int p1]) (rest := []) cx hp hl (c_X12_requireSeller l hN hT hlf  hc) (cw_X12_151 cx (mc := 1) (ms := 6) rfl rfl ⟨by decide, by decide⟩) (rC_X12 hN cx hp) rfl rfl (Nat.le_of_ble_eq_true rfl) dX12_betterFreeStall_2 ⟨by decide, by decide⟩) rfl (fun H locs hp => ?_)
    refine lv_aload_n hx hb dX12_betterFreeStall_5 rfl (lv_at hl 0 rfl) ?_
    refine gF_X12_99 rfl hN cx hp dX12_betterFreeStall_6 ?_
    refine lv_iload_n hx hb dX12_betterFreeStall_9 rfl (lv_at hl 1 rfl) ?_
    obtain ⟨r1, hc, hf⟩ := fb hf
    refine x_i hp (y_S (As := [.ref (adr E 0 0), .int p1]) (rest := []) cx hp hl (c_X3_bestFreeStall l (Nat.le_trans (by decide) hN) hT (by decide) rfl hc) (cw_X12_243 cx (mc := 0) (ms := 0) rfl rfl ⟨by decide, by decide⟩) rfl rfl (Nat.le_of_ble_eq_true rfl) dX12_betterFreeStall_10 ⟨by decide, by decide⟩) (fun r_c u_c H locs hq hp => ?_)
    obtain ⟨rfl, rfl⟩ := hq
    cases hf
    refine vx_ret ?_
    exact r_i cx hp ⟨rfl, rfl⟩ dX12_betterFreeStall_13
abbrev rm_X12_isEfficient : Room := { frames := 7, cells := 0, slots := 0, locals := 161 }
set_option maxRecDepth 100000 in
set_option maxHeartbeats 4000000 in
theorem c_X12_isEfficient (l : Launch) {E : Ev} (hN : 130 ≤ eN E) (hT : St E) {σ : SM}  {rv : Int32} (hf : f_X12_isEfficient σ = some rv) : Met l yX12_isEfficient (wC yX12_isEfficient cX12_isEfficient 1 (some .boolean)) rm_X12_isEfficient (va_Pc [.ref (adr E 19 0)] (Wu E σ)) (va_Qi (fun r u => rv = r ∧ σ = u) (fun u t => Wu E u t) (eA E)) 0 0 (eA E) := by
  refine g_entry (lv := [(0, .ref (adr E 19 0))]) (by decide) (Nat.le_of_ble_eq_true rfl) rfl ?_
  intro p e s m below meth c cx hp ls hl
  have hx := cx.1.1
  have hb := cx.1.2.1
  unfold f_X12_isEfficient at hf
  refine lv_aload_n hx hb dX12_isEfficient_0 rfl (lv_at hl 0 rfl) ?_
  refine gF_X12_99 rfl hN cx hp dX12_isEfficient_1 ?_
  obtain ⟨r1, hc, hf⟩ := fb hf
  refine x_i hp (y_S (As := [.ref (adr E 0 0)]) (rest := []) cx hp hl (c_X3_canImprove l (Nat.le_trans (by decide) hN) hT (by decide) rfl hc) (cw_X12_246 cx (mc := 0) (ms := 0) rfl rfl ⟨by decide, by decide⟩) rfl rfl (Nat.le_of_ble_eq_true rfl) dX12_isEfficient_4 ⟨Nat.zero_le _, Nat.zero_le _⟩) (fun r_c u_c H locs hq hp => ?_)
  obtain ⟨rfl, rfl⟩ := hq
  refine lv_if_ne (tgt := 14) hx hb dX12_isEfficient_7 (by decide) (fun c2 => ?_) (fun c2 => ?_)
  · have hf := fn hf c2
    refine lv_iconst (v := 0) hx hb dX12_isEfficient_14 (by decide) ?_
    cases hf
    exact r_z cx hp rfl ⟨rfl, rfl⟩ dX12_isEfficient_15
  · have hf := fp hf c2
    refine lv_iconst (v := 1) hx hb dX12_isEfficient_10 (by decide) ?_
    refine lv_goto (tgt := 15) hx hb dX12_isEfficient_11 (by decide) ?_
    cases hf
    exact r_z cx hp rfl ⟨rfl, rfl⟩ dX12_isEfficient_15
abbrev rm_X12_blockReason : Room := { frames := 7, cells := 2, slots := 12, locals := 103 }
set_option maxRecDepth 100000 in
set_option maxHeartbeats 4000000 in
theorem c_X12_blockReason (l : Launch) {E : Ev} (hN : 130 ≤ eN E) (hT : St E) (hlf : l.stackTraces = false) {σ : SM} {p1 : Int32} {p2 : Int32} {z : Nat ⊕ (Int32)} (hf : f_X12_blockReason p1 p2 σ = some z) : vx_Met l yX12_blockReason (wC yX12_blockReason cX12_blockReason 4 (some .int)) rm_X12_blockReason (va_Pc [.ref (adr E 19 0), .int p1, .int p2] (Wu E σ)) (va_Qi (fun r u => z = .inr r ∧ σ = u) (fun u t => Wu E u t) (eA E)) (XT E σ (fun k => z = .inl k)) 2 12 (eA E) := by
  refine gx_entry (lv := [(0, .ref (adr E 19 0)), (1, .int p1), (2, .int p2)]) (by decide) (Nat.le_of_ble_eq_true rfl) rfl ?_
  intro p e s m below meth c cx hxt hp ls hl
  have hx := cx.1.1
  have hb := cx.1.2.1
  unfold f_X12_blockReason at hf
  refine lv_aload_n hx hb dX12_blockReason_0 rfl (lv_at hl 0 rfl) ?_
  refine lv_iload_n hx hb dX12_blockReason_1 rfl (lv_at hl 1 rfl) ?_
  rcases fX hf with ⟨k_t, hc, rfl⟩ | ⟨_, hc, hf⟩
  · exact zv_thr cx hxt hp (yx_V (As := [.int p1]) (rest := []) cx hp hl (c_X12_requireSeller l hN hT hlf  hc) (cw_X12_151 cx (mc := 1) (ms := 6) rfl rfl ⟨by decide, by decide⟩) (rC_X12 hN cx hp) rfl rfl (Nat.le_of_ble_eq_true rfl) dX12_blockReason_2 ⟨by decide, by decide⟩) rfl rfl (by decide) (by decide)
  · refine zv_ok hp (yx_V (As := [.int p1]) (rest := []) cx hp hl (c_X12_requireSeller l hN hT hlf  hc) (cw_X12_151 cx (mc := 1) (ms := 6) rfl rfl ⟨by decide, by decide⟩) (rC_X12 hN cx hp) rfl rfl (Nat.le_of_ble_eq_true rfl) dX12_blockReason_2 ⟨by decide, by decide⟩) rfl (fun H locs hp => ?_)
    refine lv_aload_n hx hb dX12_blockReason_5 rfl (lv_at hl 0 rfl) ?_
    refine lv_iload_n hx hb dX12_blockReason_6 rfl (lv_at hl 2 rfl) ?_
    rcases fX hf with ⟨k_t, hc, rfl⟩ | ⟨_, hc, hf⟩
    · exact zv_thr cx hxt hp (yx_V (As := [.int p2]) (rest := []) cx hp hl (c_X12_requireStall l hN hT hlf  hc) (cw_X12_161 cx (mc := 1) (ms := 6) rfl rfl ⟨by decide, by decide⟩) (rC_X12 hN cx hp) rfl rfl (Nat.le_of_ble_eq_true rfl) dX12_blockReason_7 ⟨by decide, by decide⟩) rfl rfl (by decide) (by decide)
    · refine zv_ok hp (yx_V (As := [.int p2]) (rest := []) cx hp hl (c_X12_requireStall l hN hT hlf  hc) (cw_X12_161 cx (mc := 1) (ms := 6) rfl rfl ⟨by decide, by decide⟩) (rC_X12 hN cx hp) rfl rfl (Nat.le_of_ble_eq_true rfl) dX12_blockReason_7 ⟨by decide, by decide⟩) rfl (fun H locs hp => ?_)
      refine lv_aload_n hx hb dX12_blockReason_10 rfl (lv_at hl 0 rfl) ?_
      refine gF_X12_99 rfl hN cx hp dX12_blockReason_11 ?_
      refine lv_iload_n hx hb dX12_blockReason_14 rfl (lv_at hl 1 rfl) ?_
      obtain ⟨r1, hc, hf⟩ := fb hf
      refine x_i hp (y_V (As := [.int p1]) (rest := []) cx hp hl (c_X5_heldBy l (Nat.le_trans (by decide) hN) hT (by decide) rfl hc) (cw_X12_167 cx (mc := 0) (ms := 0) rfl rfl ⟨by decide, by decide⟩) (rC_X5 (by decide) (Nat.le_trans (by decide) hN) cx hp) rfl rfl (Nat.le_of_ble_eq_true rfl) dX12_blockReason_15 ⟨by decide, by decide⟩) (fun r_c u_c H locs hq hp => ?_)
      obtain ⟨rfl, rfl⟩ := hq
      refine lv_istore_n (lv' := [(3, .int r1), (0, .ref (adr E 19 0)), (1, .int p1), (2, .int p2)]) hx hb dX12_blockReason_18 rfl hl (by decide) rfl (fun ls hl => ?_)
      refine lv_iload_n hx hb dX12_blockReason_19 rfl (lv_at hl 0 rfl) ?_
      refine lv_iload_n hx hb dX12_blockReason_20 rfl (lv_at hl 3 rfl) ?_
      refine lv_icmp_ne (tgt := 26) hx hb dX12_blockReason_21 (by decide) (fun c2 => ?_) (fun c2 => ?_)
      · have hf := fn hf c2
        refine lv_aload_n hx hb dX12_blockReason_26 rfl (lv_at hl 1 rfl) ?_
        refine gF_X12_99 rfl hN cx hp dX12_blockReason_27 ?_
        refine lv_iload_n hx hb dX12_blockReason_30 rfl (lv_at hl 2 rfl) ?_
        refine lv_iload_n hx hb dX12_blockReason_31 rfl (lv_at hl 3 rfl) ?_
        obtain ⟨r3, hc, hf⟩ := fb hf
        refine x_i hp (y_V (As := [.int p1, .int p2]) (rest := []) cx hp hl (c_X5_rankIn l (Nat.le_trans (by decide) hN) hT (by decide) rfl hc) (cw_X12_188 cx (mc := 0) (ms := 0) rfl rfl ⟨by decide, by decide⟩) (rC_X5 (by decide) (Nat.le_trans (by decide) hN) cx hp) rfl rfl (Nat.le_of_ble_eq_true rfl) dX12_blockReason_32 ⟨by decide, by decide⟩) (fun r_c u_c H locs hq hp => ?_)
        obtain ⟨rfl, rfl⟩ := hq
        refine lv_iconst (v := (-1)) hx hb dX12_blockReason_35 (by decide) ?_
        refine lv_icmp_ne (tgt := 41) hx hb dX12_blockReason_36 (by decide) (fun c4 => ?_) (fun c4 => ?_)
        · have hf := fn hf c4
          refine lv_iload_n hx hb dX12_blockReason_41 rfl (lv_at hl 0 rfl) ?_
          refine lv_iconst (v := (-1)) hx hb dX12_blockReason_42 (by decide) ?_
          refine lv_icmp_eq (tgt := 61) hx hb dX12_blockReason_43 (by decide) (fun c5 => ?_) (fun c5 => ?_)
          · have hf := fp hf c5
            refine lv_aload_n hx hb dX12_blockReason_61 rfl (lv_at hl 1 rfl) ?_
            refine gF_X12_99 rfl hN cx hp dX12_blockReason_62 ?_
            refine lv_iload_n hx hb dX12_blockReason_65 rfl (lv_at hl 3 rfl) ?_
            obtain ⟨r6, hc, hf⟩ := fb hf
            refine x_i hp (y_V (As := [.int p2]) (rest := []) cx hp hl (c_X5_holderOf l (Nat.le_trans (by decide) hN) hT (by decide) rfl hc) (cw_X12_170 cx (mc := 0) (ms := 0) rfl rfl ⟨by decide, by decide⟩) (rC_X5 (by decide) (Nat.le_trans (by decide) hN) cx hp) rfl rfl (Nat.le_of_ble_eq_true rfl) dX12_blockReason_66 ⟨by decide, by decide⟩) (fun r_c u_c H locs hq hp => ?_)
            obtain ⟨rfl, rfl⟩ := hq
            refine lv_iconst (v := (-1)) hx hb dX12_blockReason_69 (by decide) ?_
            refine lv_icmp_eq (tgt := 75) hx hb dX12_blockReason_70 (by decide) (fun c7 => ?_) (fun c7 => ?_)
            · have hf := fp hf c7
              refine lv_aload_n hx hb dX12_blockReason_75 rfl (lv_at hl 1 rfl) ?_
              refine gF_X12_99 rfl hN cx hp dX12_blockReason_76 ?_
              refine lv_iload_n hx hb dX12_blockReason_79 rfl (lv_at hl 3 rfl) ?_
              obtain ⟨r8, hc, hf⟩ := fb hf
              refine x_i hp (y_V (As := [.int p2]) (rest := []) cx hp hl (c_X5_priceOf l (Nat.le_trans (by decide) hN) hT (by decide) rfl hc) (cw_X12_164 cx (mc := 0) (ms := 0) rfl rfl ⟨by decide, by decide⟩) (rC_X5 (by decide) (Nat.le_trans (by decide) hN) cx hp) rfl rfl (Nat.le_of_ble_eq_true rfl) dX12_blockReason_80 ⟨by decide, by decide⟩) (fun r_c u_c H locs hq hp => ?_)
              obtain ⟨rfl, rfl⟩ := hq
              refine lv_aload_n hx hb dX12_blockReason_83 rfl (lv_at hl 1 rfl) ?_
              refine gF_X12_99 rfl hN cx hp dX12_blockReason_84 ?_
              refine lv_iload_n hx hb dX12_blockReason_87 rfl (lv_at hl 2 rfl) ?_
              obtain ⟨r9, hc, hf⟩ := fb hf
              refine x_i hp (y_V (As := [.int p1]) (rest := [.int r8]) cx hp hl (c_X5_coinsOf l (Nat.le_trans (by decide) hN) hT (by decide) rfl hc) (cw_X12_154 cx (mc := 0) (ms := 0) rfl rfl ⟨by decide, by decide⟩) (rC_X5 (by decide) (Nat.le_trans (by decide) hN) cx hp) rfl rfl (Nat.le_of_ble_eq_true rfl) dX12_blockReason_88 ⟨by decide, by decide⟩) (fun r_c u_c H locs hq hp => ?_)
              obtain ⟨rfl, rfl⟩ := hq
              refine lv_icmp_le (tgt := 98) hx hb dX12_blockReason_91 (by decide) (fun c10 => ?_) (fun c10 => ?_)
              · have hf := fp hf c10
                refine lv_iconst (v := 5) hx hb dX12_blockReason_98 (by decide) ?_
                cases hf
                refine vx_ret ?_
                exact r_i cx hp ⟨rfl, rfl⟩ dX12_blockReason_99
              · have hf := fn hf c10
                refine lv_iconst (v := 4) hx hb dX12_blockReason_94 (by decide) ?_
                refine lv_goto (tgt := 99) hx hb dX12_blockReason_95 (by decide) ?_
                cases hf
                refine vx_ret ?_
                exact r_i cx hp ⟨rfl, rfl⟩ dX12_blockReason_99
            · have hf := fn hf c7
              refine lv_iconst (v := 3) hx hb dX12_blockReason_73 (by decide) ?_
              cases hf
              refine vx_ret ?_
              exact r_i cx hp ⟨rfl, rfl⟩ dX12_blockReason_74
          · have hf := fn hf c5
            refine lv_aload_n hx hb dX12_blockReason_46 rfl (lv_at hl 1 rfl) ?_
            refine gF_X12_99 rfl hN cx hp dX12_blockReason_47 ?_
            refine lv_iload_n hx hb dX12_blockReason_50 rfl (lv_at hl 2 rfl) ?_
            refine lv_iload_n hx hb dX12_blockReason_51 rfl (lv_at hl 0 rfl) ?_
            refine lv_iload_n hx hb dX12_blockReason_52 rfl (lv_at hl 3 rfl) ?_
            obtain ⟨r11, hc, hf⟩ := fb hf
            refine x_i hp (y_V (As := [.int p1, .int r1, .int p2]) (rest := []) cx hp hl (c_X5_ranksAbove l (Nat.le_trans (by decide) hN) hT (by decide) rfl hc) (cw_X12_191 cx (mc := 0) (ms := 0) rfl rfl ⟨by decide, by decide⟩) (rC_X5 (by decide) (Nat.le_trans (by decide) hN) cx hp) rfl rfl (Nat.le_of_ble_eq_true rfl) dX12_blockReason_53 ⟨by decide, by decide⟩) (fun r_c u_c H locs hq hp => ?_)
            obtain ⟨rfl, rfl⟩ := hq
            refine lv_if_eq (tgt := 61) hx hb dX12_blockReason_56 (by decide) (fun c12 => ?_) (fun c12 => ?_)
            · have hf := fp hf c12
              refine lv_aload_n hx hb dX12_blockReason_61 rfl (lv_at hl 1 rfl) ?_
              refine gF_X12_99 rfl hN cx hp dX12_blockReason_62 ?_
              refine lv_iload_n hx hb dX12_blockReason_65 rfl (lv_at hl 3 rfl) ?_
              obtain ⟨r13, hc, hf⟩ := fb hf
              refine x_i hp (y_V (As := [.int p2]) (rest := []) cx hp hl (c_X5_holderOf l (Nat.le_trans (by decide) hN) hT (by decide) rfl hc) (cw_X12_170 cx (mc := 0) (ms := 0) rfl rfl ⟨by decide, by decide⟩) (rC_X5 (by decide) (Nat.le_trans (by decide) hN) cx hp) rfl rfl (Nat.le_of_ble_eq_true rfl) dX12_blockReason_66 ⟨by decide, by decide⟩) (fun r_c u_c H locs hq hp => ?_)
              obtain ⟨rfl, rfl⟩ := hq
              refine lv_iconst (v := (-1)) hx hb dX12_blockReason_69 (by decide) ?_
              refine lv_icmp_eq (tgt := 75) hx hb dX12_blockReason_70 (by decide) (fun c14 => ?_) (fun c14 => ?_)
              · have hf := fp hf c14
                refine lv_aload_n hx hb dX12_blockReason_75 rfl (lv_at hl 1 rfl) ?_
                refine gF_X12_99 rfl hN cx hp dX12_blockReason_76 ?_
                refine lv_iload_n hx hb dX12_blockReason_79 rfl (lv_at hl 3 rfl) ?_
                obtain ⟨r15, hc, hf⟩ := fb hf
                refine x_i hp (y_V (As := [.int p2]) (rest := []) cx hp hl (c_X5_priceOf l (Nat.le_trans (by decide) hN) hT (by decide) rfl hc) (cw_X12_164 cx (mc := 0) (ms := 0) rfl rfl ⟨by decide, by decide⟩) (rC_X5 (by decide) (Nat.le_trans (by decide) hN) cx hp) rfl rfl (Nat.le_of_ble_eq_true rfl) dX12_blockReason_80 ⟨by decide, by decide⟩) (fun r_c u_c H locs hq hp => ?_)
                obtain ⟨rfl, rfl⟩ := hq
                refine lv_aload_n hx hb dX12_blockReason_83 rfl (lv_at hl 1 rfl) ?_
                refine gF_X12_99 rfl hN cx hp dX12_blockReason_84 ?_
                refine lv_iload_n hx hb dX12_blockReason_87 rfl (lv_at hl 2 rfl) ?_
                obtain ⟨r16, hc, hf⟩ := fb hf
                refine x_i hp (y_V (As := [.int p1]) (rest := [.int r15]) cx hp hl (c_X5_coinsOf l (Nat.le_trans (by decide) hN) hT (by decide) rfl hc) (cw_X12_154 cx (mc := 0) (ms := 0) rfl rfl ⟨by decide, by decide⟩) (rC_X5 (by decide) (Nat.le_trans (by decide) hN) cx hp) rfl rfl (Nat.le_of_ble_eq_true rfl) dX12_blockReason_88 ⟨by decide, by decide⟩) (fun r_c u_c H locs hq hp => ?_)
                obtain ⟨rfl, rfl⟩ := hq
                refine lv_icmp_le (tgt := 98) hx hb dX12_blockReason_91 (by decide) (fun c17 => ?_) (fun c17 => ?_)
                · have hf := fp hf c17
                  refine lv_iconst (v := 5) hx hb dX12_blockReason_98 (by decide) ?_
                  cases hf
                  refine vx_ret ?_
                  exact r_i cx hp ⟨rfl, rfl⟩ dX12_blockReason_99
                · have hf := fn hf c17
                  refine lv_iconst (v := 4) hx hb dX12_blockReason_94 (by decide) ?_
                  refine lv_goto (tgt := 99) hx hb dX12_blockReason_95 (by decide) ?_
                  cases hf
                  refine vx_ret ?_
                  exact r_i cx hp ⟨rfl, rfl⟩ dX12_blockReason_99
              · have hf := fn hf c14
                refine lv_iconst (v := 3) hx hb dX12_blockReason_73 (by decide) ?_
                cases hf
                refine vx_ret ?_
                exact r_i cx hp ⟨rfl, rfl⟩ dX12_blockReason_74
            · have hf := fn hf c12
              refine lv_iconst (v := 2) hx hb dX12_blockReason_59 (by decide) ?_
              cases hf
              refine vx_ret ?_
              exact r_i cx hp ⟨rfl, rfl⟩ dX12_blockReason_60
        · have hf := fp hf c4
          refine lv_iconst (v := 1) hx hb dX12_blockReason_39 (by decide) ?_
          cases hf
          refine vx_ret ?_
          exact r_i cx hp ⟨rfl, rfl⟩ dX12_blockReason_40
      · have hf := fp hf c2
        refine lv_iconst (v := 0) hx hb dX12_blockReason_24 (by decide) ?_
        cases hf
        refine vx_ret ?_
        exact r_i cx hp ⟨rfl, rfl⟩ dX12_blockReason_25
abbrev rm_X12_allocatedStall : Room := { frames := 7, cells := 1, slots := 6, locals := 114 }
set_option maxRecDepth 100000 in
set_option maxHeartbeats 4000000 in
theorem c_X12_allocatedStall (l : Launch) {E : Ev} (hN : 130 ≤ eN E) (hT : St E) (hlf : l.stackTraces = false) {σ : SM} {p1 : Int32} {z : Nat ⊕ (Int32 × SM)} (hf : f_X12_allocatedStall p1 σ = some z) : vx_Met l yX12_allocatedStall (wC yX12_allocatedStall cX12_allocatedStall 2 (some .int)) rm_X12_allocatedStall (va_Pc [.ref (adr E 19 0), .int p1] (Wu E σ)) (va_Qi (fun r u => z = .inr (r, u)) (fun u t => Wu E u t) (eA E)) (XT E σ (fun k => z = .inl k)) 1 6 (eA E) := by
  refine gx_entry (lv := [(0, .ref (adr E 19 0)), (1, .int p1)]) (by decide) (Nat.le_of_ble_eq_true rfl) rfl ?_
  intro p e s m below meth c cx hxt hp ls hl
  have hx := cx.1.1
  have hb := cx.1.2.1
  unfold f_X12_allocatedStall at hf
  refine lv_aload_n hx hb dX12_allocatedStall_0 rfl (lv_at hl 0 rfl) ?_
  refine lv_iload_n hx hb dX12_allocatedStall_1 rfl (lv_at hl 1 rfl) ?_
  rcases fX hf with ⟨k_t, hc, rfl⟩ | ⟨_, hc, hf⟩
  · exact zv_thr cx hxt hp (yx_V (As := [.int p1]) (rest := []) cx hp hl (c_X12_requireSeller l hN hT hlf  hc) (cw_X12_151 cx (mc := 1) (ms := 6) rfl rfl ⟨by decide, by decide⟩) (rC_X12 hN cx hp) rfl rfl (Nat.le_of_ble_eq_true rfl) dX12_allocatedStall_2 ⟨by decide, by decide⟩) rfl rfl (by decide) (by decide)
  · refine zv_ok hp (yx_V (As := [.int p1]) (rest := []) cx hp hl (c_X12_requireSeller l hN hT hlf  hc) (cw_X12_151 cx (mc := 1) (ms := 6) rfl rfl ⟨by decide, by decide⟩) (rC_X12 hN cx hp) rfl rfl (Nat.le_of_ble_eq_true rfl) dX12_allocatedStall_2 ⟨by decide, by decide⟩) rfl (fun H locs hp => ?_)
    refine lv_aload_n hx hb dX12_allocatedStall_5 rfl (lv_at hl 0 rfl) ?_
    refine gF_X12_47 rfl hN cx hp dX12_allocatedStall_6 ?_
    refine lv_aload_n hx hb dX12_allocatedStall_9 rfl (lv_at hl 0 rfl) ?_
    refine gF_X12_99 rfl hN cx hp dX12_allocatedStall_10 ?_
    obtain ⟨m1, hc, hf⟩ := fb hf
    refine x_v hp (y_V (As := [.ref (adr E 0 0)]) (rest := []) cx hp hl (c_X1_decide l (Nat.le_trans (by decide) hN) hT (by decide) rfl rfl hc) (cw_X12_250 cx (mc := 0) (ms := 0) rfl rfl ⟨by decide, by decide⟩) (rC_X1 (Nat.le_trans (by decide) hN) cx hp) rfl rfl (Nat.le_of_ble_eq_true rfl) dX12_allocatedStall_13 ⟨by decide, by decide⟩) (fun u_c H locs hq hp => ?_)
    obtain ⟨e_0, n_u⟩ := hq
    obtain ⟨σ2, e_l, hf⟩ := fl hf
    obtain rfl := ((us_x e_0 n_u).trans e_l).symm
    refine lv_aload_n hx hb dX12_allocatedStall_16 rfl (lv_at hl 0 rfl) ?_
    refine gF_X12_47 rfl hN cx hp dX12_allocatedStall_17 ?_
    refine lv_iload_n hx hb dX12_allocatedStall_20 rfl (lv_at hl 1 rfl) ?_
    obtain ⟨r3, hc, hf⟩ := fb hf
    refine x_i hp (y_V (As := [.int p1]) (rest := []) cx hp hl (c_X1_givenTo l (Nat.le_trans (by decide) hN) hT rfl hc) (cw_X12_253 cx (mc := 0) (ms := 0) rfl rfl ⟨by decide, by decide⟩) (rC_X1 (Nat.le_trans (by decide) hN) cx hp) rfl rfl (Nat.le_of_ble_eq_true rfl) dX12_allocatedStall_21 ⟨by decide, by decide⟩) (fun r_c u_c H locs hq hp => ?_)
    obtain ⟨rfl, rfl⟩ := hq
    cases hf
    refine vx_ret ?_
    exact r_i cx hp rfl dX12_allocatedStall_24
abbrev rm_X12_allocatedIfFirst : Room := { frames := 7, cells := 1, slots := 6, locals := 114 }
set_option maxRecDepth 100000 in
set_option maxHeartbeats 4000000 in
theorem c_X12_allocatedIfFirst (l : Launch) {E : Ev} (hN : 130 ≤ eN E) (hT : St E) (hlf : l.stackTraces = false) {σ : SM} {p1 : Int32} {z : Nat ⊕ (Int32 × SM)} (hf : f_X12_allocatedIfFirst p1 σ = some z) : vx_Met l yX12_allocatedIfFirst (wC yX12_allocatedIfFirst cX12_allocatedIfFirst 2 (some .int)) rm_X12_allocatedIfFirst (va_Pc [.ref (adr E 19 0), .int p1] (Wu E σ)) (va_Qi (fun r u => z = .inr (r, u)) (fun u t => Wu E u t) (eA E)) (XT E σ (fun k => z = .inl k)) 1 6 (eA E) := by
  refine gx_entry (lv := [(0, .ref (adr E 19 0)), (1, .int p1)]) (by decide) (Nat.le_of_ble_eq_true rfl) rfl ?_
  intro p e s m below meth c cx hxt hp ls hl
  have hx := cx.1.1
  have hb := cx.1.2.1
  unfold f_X12_allocatedIfFirst at hf
  refine lv_aload_n hx hb dX12_allocatedIfFirst_0 rfl (lv_at hl 0 rfl) ?_
  refine lv_iload_n hx hb dX12_allocatedIfFirst_1 rfl (lv_at hl 1 rfl) ?_
  rcases fX hf with ⟨k_t, hc, rfl⟩ | ⟨_, hc, hf⟩
  · exact zv_thr cx hxt hp (yx_V (As := [.int p1]) (rest := []) cx hp hl (c_X12_requireSeller l hN hT hlf  hc) (cw_X12_151 cx (mc := 1) (ms := 6) rfl rfl ⟨by decide, by decide⟩) (rC_X12 hN cx hp) rfl rfl (Nat.le_of_ble_eq_true rfl) dX12_allocatedIfFirst_2 ⟨by decide, by decide⟩) rfl rfl (by decide) (by decide)
  · refine zv_ok hp (yx_V (As := [.int p1]) (rest := []) cx hp hl (c_X12_requireSeller l hN hT hlf  hc) (cw_X12_151 cx (mc := 1) (ms := 6) rfl rfl ⟨by decide, by decide⟩) (rC_X12 hN cx hp) rfl rfl (Nat.le_of_ble_eq_true rfl) dX12_allocatedIfFirst_2 ⟨by decide, by decide⟩) rfl (fun H locs hp => ?_)
    refine lv_aload_n hx hb dX12_allocatedIfFirst_5 rfl (lv_at hl 0 rfl) ?_
    refine gF_X12_99 rfl hN cx hp dX12_allocatedIfFirst_6 ?_
    refine lv_aload_n hx hb dX12_allocatedIfFirst_9 rfl (lv_at hl 0 rfl) ?_
    refine gF_X12_26 rfl hN cx hp dX12_allocatedIfFirst_10 ?_
    obtain ⟨m1, hc, hf⟩ := fb hf
    refine x_v hp (y_S (As := [.ref (adr E 0 0), .ref (adr E 1 0)]) (rest := []) cx hp hl (c_X5_copy l (Nat.le_trans (by decide) hN) hT (by decide) rfl (by decide) rfl (by decide) hc) (cw_X12_120 cx (mc := 0) (ms := 0) rfl rfl ⟨by decide, by decide⟩) rfl rfl (Nat.le_of_ble_eq_true rfl) dX12_allocatedIfFirst_13 ⟨by decide, by decide⟩) (fun u_c H locs hq hp => ?_)
    obtain ⟨e_0, n_u⟩ := hq
    obtain ⟨σ2, e_l, hf⟩ := fl hf
    obtain rfl := ((us_x e_0 n_u).trans e_l).symm
    refine lv_aload_n hx hb dX12_allocatedIfFirst_16 rfl (lv_at hl 0 rfl) ?_
    refine gF_X12_26 rfl hN cx hp dX12_allocatedIfFirst_17 ?_
    refine lv_iload_n hx hb dX12_allocatedIfFirst_20 rfl (lv_at hl 1 rfl) ?_
    refine lv_iconst (v := 0) hx hb dX12_allocatedIfFirst_21 (by decide) ?_
    obtain ⟨m3, hc, hf⟩ := fb hf
    refine x_v hp (y_V (As := [.int p1, .int 0]) (rest := []) cx hp hl (c_X5_moveTurn l (Nat.le_trans (by decide) hN) hT (by decide) rfl hc) (cw_X12_256 cx (mc := 0) (ms := 0) rfl rfl ⟨by decide, by decide⟩) (rC_X5 (by decide) (Nat.le_trans (by decide) hN) cx hp) rfl rfl (Nat.le_of_ble_eq_true rfl) dX12_allocatedIfFirst_22 ⟨by decide, by decide⟩) (fun u_c H locs hq hp => ?_)
    obtain ⟨e_0, n_u⟩ := hq
    obtain ⟨σ4, e_l, hf⟩ := fl hf
    obtain rfl := ((us_x e_0 n_u).trans e_l).symm
    refine lv_aload_n hx hb dX12_allocatedIfFirst_25 rfl (lv_at hl 0 rfl) ?_
    refine gF_X12_47 rfl hN cx hp dX12_allocatedIfFirst_26 ?_
    refine lv_aload_n hx hb dX12_allocatedIfFirst_29 rfl (lv_at hl 0 rfl) ?_
    refine gF_X12_26 rfl hN cx hp dX12_allocatedIfFirst_30 ?_
    obtain ⟨m5, hc, hf⟩ := fb hf
    refine x_v hp (y_V (As := [.ref (adr E 1 0)]) (rest := []) cx hp hl (c_X1_decide l (Nat.le_trans (by decide) hN) hT (by decide) rfl rfl hc) (cw_X12_250 cx (mc := 0) (ms := 0) rfl rfl ⟨by decide, by decide⟩) (rC_X1 (Nat.le_trans (by decide) hN) cx hp) rfl rfl (Nat.le_of_ble_eq_true rfl) dX12_allocatedIfFirst_33 ⟨by decide, by decide⟩) (fun u_c H locs hq hp => ?_)
    obtain ⟨e_0, n_u⟩ := hq
    obtain ⟨σ6, e_l, hf⟩ := fl hf
    obtain rfl := ((us_x e_0 n_u).trans e_l).symm
    refine lv_aload_n hx hb dX12_allocatedIfFirst_36 rfl (lv_at hl 0 rfl) ?_
    refine gF_X12_47 rfl hN cx hp dX12_allocatedIfFirst_37 ?_
    refine lv_iload_n hx hb dX12_allocatedIfFirst_40 rfl (lv_at hl 1 rfl) ?_
    obtain ⟨r7, hc, hf⟩ := fb hf
    refine x_i hp (y_V (As := [.int p1]) (rest := []) cx hp hl (c_X1_givenTo l (Nat.le_trans (by decide) hN) hT rfl hc) (cw_X12_253 cx (mc := 0) (ms := 0) rfl rfl ⟨by decide, by decide⟩) (rC_X1 (Nat.le_trans (by decide) hN) cx hp) rfl rfl (Nat.le_of_ble_eq_true rfl) dX12_allocatedIfFirst_41 ⟨by decide, by decide⟩) (fun r_c u_c H locs hq hp => ?_)
    obtain ⟨rfl, rfl⟩ := hq
    cases hf
    refine vx_ret ?_
    exact r_i cx hp rfl dX12_allocatedIfFirst_44
abbrev rm_X12_allocatedIfReported : Room := { frames := 7, cells := 2, slots := 12, locals := 114 }
set_option maxRecDepth 100000 in
set_option maxHeartbeats 4000000 in
theorem c_X12_allocatedIfReported (l : Launch) {E : Ev} (hN : 130 ≤ eN E) (hT : St E) (hlf : l.stackTraces = false) {σ : SM} {p1 : Int32} {p2 : Int32} {z : Nat ⊕ (Int32 × SM)} (hf : f_X12_allocatedIfReported p1 p2 σ = some z) : vx_Met l yX12_allocatedIfReported (wC yX12_allocatedIfReported cX12_allocatedIfReported 3 (some .int)) rm_X12_allocatedIfReported (va_Pc [.ref (adr E 19 0), .int p1, .int p2] (Wu E σ)) (va_Qi (fun r u => z = .inr (r, u)) (fun u t => Wu E u t) (eA E)) (XT E σ (fun k => z = .inl k)) 2 12 (eA E) := by
  refine gx_entry (lv := [(0, .ref (adr E 19 0)), (1, .int p1), (2, .int p2)]) (by decide) (Nat.le_of_ble_eq_true rfl) rfl ?_
  intro p e s m below meth c cx hxt hp ls hl
  have hx := cx.1.1
  have hb := cx.1.2.1
  unfold f_X12_allocatedIfReported at hf
  refine lv_aload_n hx hb dX12_allocatedIfReported_0 rfl (lv_at hl 0 rfl) ?_
  refine lv_iload_n hx hb dX12_allocatedIfReported_1 rfl (lv_at hl 1 rfl) ?_
  rcases fX hf with ⟨k_t, hc, rfl⟩ | ⟨_, hc, hf⟩
  · exact zv_thr cx hxt hp (yx_V (As := [.int p1]) (rest := []) cx hp hl (c_X12_requireSeller l hN hT hlf  hc) (cw_X12_151 cx (mc := 1) (ms := 6) rfl rfl ⟨by decide, by decide⟩) (rC_X12 hN cx hp) rfl rfl (Nat.le_of_ble_eq_true rfl) dX12_allocatedIfReported_2 ⟨by decide, by decide⟩) rfl rfl (by decide) (by decide)
  · refine zv_ok hp (yx_V (As := [.int p1]) (rest := []) cx hp hl (c_X12_requireSeller l hN hT hlf  hc) (cw_X12_151 cx (mc := 1) (ms := 6) rfl rfl ⟨by decide, by decide⟩) (rC_X12 hN cx hp) rfl rfl (Nat.le_of_ble_eq_true rfl) dX12_allocatedIfReported_2 ⟨by decide, by decide⟩) rfl (fun H locs hp => ?_)
    refine lv_aload_n hx hb dX12_allocatedIfReported_5 rfl (lv_at hl 0 rfl) ?_
    refine lv_iload_n hx hb dX12_allocatedIfReported_6 rfl (lv_at hl 2 rfl) ?_
    rcases fX hf with ⟨k_t, hc, rfl⟩ | ⟨_, hc, hf⟩
    · exact zv_thr cx hxt hp (yx_V (As := [.int p2]) (rest := []) cx hp hl (c_X12_requireStall l hN hT hlf  hc) (cw_X12_161 cx (mc := 1) (ms := 6) rfl rfl ⟨by decide, by decide⟩) (rC_X12 hN cx hp) rfl rfl (Nat.le_of_ble_eq_true rfl) dX12_allocatedIfReported_7 ⟨by decide, by decide⟩) rfl rfl (by decide) (by decide)
    · refine zv_ok hp (yx_V (As := [.int p2]) (rest := []) cx hp hl (c_X12_requireStall l hN hT hlf  hc) (cw_X12_161 cx (mc := 1) (ms := 6) rfl rfl ⟨by decide, by decide⟩) (rC_X12 hN cx hp) rfl rfl (Nat.le_of_ble_eq_true rfl) dX12_allocatedIfReported_7 ⟨by decide, by decide⟩) rfl (fun H locs hp => ?_)
      refine lv_aload_n hx hb dX12_allocatedIfReported_10 rfl (lv_at hl 0 rfl) ?_
      refine gF_X12_99 rfl hN cx hp dX12_allocatedIfReported_11 ?_
      refine lv_aload_n hx hb dX12_allocatedIfReported_14 rfl (lv_at hl 0 rfl) ?_
      refine gF_X12_26 rfl hN cx hp dX12_allocatedIfReported_15 ?_
      obtain ⟨m1, hc, hf⟩ := fb hf
      refine x_v hp (y_S (As := [.ref (adr E 0 0), .ref (adr E 1 0)]) (rest := []) cx hp hl (c_X5_copy l (Nat.le_trans (by decide) hN) hT (by decide) rfl (by decide) rfl (by decide) hc) (cw_X12_120 cx (mc := 0) (ms := 0) rfl rfl ⟨by decide, by decide⟩) rfl rfl (Nat.le_of_ble_eq_true rfl) dX12_allocatedIfReported_18 ⟨by decide, by decide⟩) (fun u_c H locs hq hp => ?_)
      obtain ⟨e_0, n_u⟩ := hq
      obtain ⟨σ2, e_l, hf⟩ := fl hf
      obtain rfl := ((us_x e_0 n_u).trans e_l).symm
      refine lv_aload_n hx hb dX12_allocatedIfReported_21 rfl (lv_at hl 0 rfl) ?_
      refine gF_X12_26 rfl hN cx hp dX12_allocatedIfReported_22 ?_
      refine lv_iload_n hx hb dX12_allocatedIfReported_25 rfl (lv_at hl 1 rfl) ?_
      refine lv_iload_n hx hb dX12_allocatedIfReported_26 rfl (lv_at hl 2 rfl) ?_
      obtain ⟨m3, hc, hf⟩ := fb hf
      refine x_v hp (y_V (As := [.int p1, .int p2]) (rest := []) cx hp hl (c_X5_wishFirst l (Nat.le_trans (by decide) hN) hT (by decide) rfl hc) (cw_X12_260 cx (mc := 0) (ms := 0) rfl rfl ⟨by decide, by decide⟩) (rC_X5 (by decide) (Nat.le_trans (by decide) hN) cx hp) rfl rfl (Nat.le_of_ble_eq_true rfl) dX12_allocatedIfReported_27 ⟨by decide, by decide⟩) (fun u_c H locs hq hp => ?_)
      obtain ⟨e_0, n_u⟩ := hq
      obtain ⟨σ4, e_l, hf⟩ := fl hf
      obtain rfl := ((us_x e_0 n_u).trans e_l).symm
      refine lv_aload_n hx hb dX12_allocatedIfReported_30 rfl (lv_at hl 0 rfl) ?_
      refine gF_X12_47 rfl hN cx hp dX12_allocatedIfReported_31 ?_
      refine lv_aload_n hx hb dX12_allocatedIfReported_34 rfl (lv_at hl 0 rfl) ?_
      refine gF_X12_26 rfl hN cx hp dX12_allocatedIfReported_35 ?_
      obtain ⟨m5, hc, hf⟩ := fb hf
      refine x_v hp (y_V (As := [.ref (adr E 1 0)]) (rest := []) cx hp hl (c_X1_decide l (Nat.le_trans (by decide) hN) hT (by decide) rfl rfl hc) (cw_X12_250 cx (mc := 0) (ms := 0) rfl rfl ⟨by decide, by decide⟩) (rC_X1 (Nat.le_trans (by decide) hN) cx hp) rfl rfl (Nat.le_of_ble_eq_true rfl) dX12_allocatedIfReported_38 ⟨by decide, by decide⟩) (fun u_c H locs hq hp => ?_)
      obtain ⟨e_0, n_u⟩ := hq
      obtain ⟨σ6, e_l, hf⟩ := fl hf
      obtain rfl := ((us_x e_0 n_u).trans e_l).symm
      refine lv_aload_n hx hb dX12_allocatedIfReported_41 rfl (lv_at hl 0 rfl) ?_
      refine gF_X12_47 rfl hN cx hp dX12_allocatedIfReported_42 ?_
      refine lv_iload_n hx hb dX12_allocatedIfReported_45 rfl (lv_at hl 1 rfl) ?_
      obtain ⟨r7, hc, hf⟩ := fb hf
      refine x_i hp (y_V (As := [.int p1]) (rest := []) cx hp hl (c_X1_givenTo l (Nat.le_trans (by decide) hN) hT rfl hc) (cw_X12_253 cx (mc := 0) (ms := 0) rfl rfl ⟨by decide, by decide⟩) (rC_X1 (Nat.le_trans (by decide) hN) cx hp) rfl rfl (Nat.le_of_ble_eq_true rfl) dX12_allocatedIfReported_46 ⟨by decide, by decide⟩) (fun r_c u_c H locs hq hp => ?_)
      obtain ⟨rfl, rfl⟩ := hq
      cases hf
      refine vx_ret ?_
      exact r_i cx hp rfl dX12_allocatedIfReported_49
abbrev rm_X12_gainerCount : Room := { frames := 5, cells := 0, slots := 0, locals := 114 }
set_option maxRecDepth 100000 in
set_option maxHeartbeats 4000000 in
theorem L_X12_gainerCount_15 {p : Program} {e : Env} {s : State} {m : MethodId} {args : Array Value} {below : List Frame} {meth : Method} {c : Code} (l : Launch) {E : Ev} (hN : 130 ≤ eN E) (hT : St E) {σ : SM} (cx : Cx E p s m meth c args RX12 cX12_gainerCount 3 (some .int)) {rv : Int32} {σ' : SM} : ∀ (n : Nat) {x2 : Int32} {x1 : Int32}, f_X12_gainerCount_15 σ n x2 x1 = some (rv, σ') → ∀ {H : Heap} {locs : List Loc} {ls : Array Slot}, Hp E σ s H locs → lv_has ls 3 [(0, .ref (adr E 19 0)), (1, .int x1), (2, .int x2)] → W p l e rm_X12_gainerCount s m args below meth c H locs 0 0 (MQ below (va_Qi (fun r u => rv = r ∧ σ' = u) (fun u t => Wu E u t) (eA E)) args s 0 0 (eA E)) (F0 m 15 ls []) := by
  have hx := cx.1.1
  have hb := cx.1.2.1
  intro n
  induction n with
  | zero =>
    intro x2 x1 hf
    exact absurd hf (by simp [f_X12_gainerCount_15])
  | succ n ih =>
    intro x2 x1 hf H locs ls hp hl
    rw [f_X12_gainerCount_15] at hf
    refine lv_iload_n hx hb dX12_gainerCount_15 rfl (lv_at hl 2 rfl) ?_
    refine lv_aload_n hx hb dX12_gainerCount_16 rfl (lv_at hl 0 rfl) ?_
    refine gF_X12_99 rfl hN cx hp dX12_gainerCount_17 ?_
    refine gF_X12_127 (by decide) rfl (Nat.le_trans (by decide) hN) cx hp dX12_gainerCount_20 ?_
    refine lv_icmp_ge (tgt := 62) hx hb dX12_gainerCount_23 (by decide) (fun c3 => ?_) (fun c3 => ?_)
    · have hf := fp hf c3
      refine lv_iload_n hx hb dX12_gainerCount_62 rfl (lv_at hl 1 rfl) ?_
      cases hf
      exact r_i cx hp ⟨rfl, rfl⟩ dX12_gainerCount_63
    · have hf := fn hf c3
      refine lv_aload_n hx hb dX12_gainerCount_26 rfl (lv_at hl 0 rfl) ?_
      refine gF_X12_99 rfl hN cx hp dX12_gainerCount_27 ?_
      refine lv_iload_n hx hb dX12_gainerCount_30 rfl (lv_at hl 2 rfl) ?_
      refine lv_aload_n hx hb dX12_gainerCount_31 rfl (lv_at hl 0 rfl) ?_
      refine gF_X12_47 rfl hN cx hp dX12_gainerCount_32 ?_
      refine lv_iload_n hx hb dX12_gainerCount_35 rfl (lv_at hl 2 rfl) ?_
      obtain ⟨r4, hc, hf⟩ := fb hf
      refine x_i hp (y_V (As := [.int x2]) (rest := [.int x2, .ref (adr E 0 0)]) cx hp hl (c_X1_givenTo l (Nat.le_trans (by decide) hN) hT rfl hc) (cw_X12_253 cx (mc := 0) (ms := 0) rfl rfl ⟨by decide, by decide⟩) (rC_X1 (Nat.le_trans (by decide) hN) cx hp) rfl rfl (Nat.le_of_ble_eq_true rfl) dX12_gainerCount_36 ⟨Nat.zero_le _, Nat.zero_le _⟩) (fun r_c u_c H locs hq hp => ?_)
      obtain ⟨rfl, rfl⟩ := hq
      refine lv_aload_n hx hb dX12_gainerCount_39 rfl (lv_at hl 0 rfl) ?_
      refine gF_X12_99 rfl hN cx hp dX12_gainerCount_40 ?_
      refine lv_iload_n hx hb dX12_gainerCount_43 rfl (lv_at hl 2 rfl) ?_
      obtain ⟨r5, hc, hf⟩ := fb hf
      refine x_i hp (y_V (As := [.int x2]) (rest := [.int r4, .int x2, .ref (adr E 0 0)]) cx hp hl (c_X5_heldBy l (Nat.le_trans (by decide) hN) hT (by decide) rfl hc) (cw_X12_167 cx (mc := 0) (ms := 0) rfl rfl ⟨by decide, by decide⟩) (rC_X5 (by decide) (Nat.le_trans (by decide) hN) cx hp) rfl rfl (Nat.le_of_ble_eq_true rfl) dX12_gainerCount_44 ⟨Nat.zero_le _, Nat.zero_le _⟩) (fun r_c u_c H locs hq hp => ?_)
      obtain ⟨rfl, rfl⟩ := hq
      obtain ⟨r6, hc, hf⟩ := fb hf
      refine x_i hp (y_V (As := [.int x2, .int r4, .int r5]) (rest := []) cx hp hl (c_X5_ranksAbove l (Nat.le_trans (by decide) hN) hT (by decide) rfl hc) (cw_X12_191 cx (mc := 0) (ms := 0) rfl rfl ⟨by decide, by decide⟩) (rC_X5 (by decide) (Nat.le_trans (by decide) hN) cx hp) rfl rfl (Nat.le_of_ble_eq_true rfl) dX12_gainerCount_47 ⟨Nat.zero_le _, Nat.zero_le _⟩) (fun r_c u_c H locs hq hp => ?_)
      obtain ⟨rfl, rfl⟩ := hq
      refine lv_if_eq (tgt := 56) hx hb dX12_gainerCount_50 (by decide) (fun c7 => ?_) (fun c7 => ?_)
      · have hf := fp hf c7
        refine lv_iinc (v := (x2 + 1)) (lv' := [(2, .int (x2 + 1)), (0, .ref (adr E 19 0)), (1, .int x1)]) hx hb dX12_gainerCount_56 hl (k := 2) rfl rfl (by decide) rfl (fun ls hl => ?_)
        refine lv_goto (tgt := 15) hx hb dX12_gainerCount_59 (by decide) ?_
        exact ih  hf hp (lv_sub hl [1, 2, 0] rfl)
      · have hf := fn hf c7
        refine lv_iinc (v := (x1 + 1)) (lv' := [(1, .int (x1 + 1)), (0, .ref (adr E 19 0)), (2, .int x2)]) hx hb dX12_gainerCount_53 hl (k := 1) rfl rfl (by decide) rfl (fun ls hl => ?_)
        refine lv_iinc (v := (x2 + 1)) (lv' := [(2, .int (x2 + 1)), (1, .int (x1 + 1)), (0, .ref (adr E 19 0))]) hx hb dX12_gainerCount_56 hl (k := 2) rfl rfl (by decide) rfl (fun ls hl => ?_)
        refine lv_goto (tgt := 15) hx hb dX12_gainerCount_59 (by decide) ?_
        exact ih  hf hp (lv_sub hl [2, 1, 0] rfl)
set_option maxRecDepth 100000 in
set_option maxHeartbeats 4000000 in
theorem c_X12_gainerCount (l : Launch) {E : Ev} (hN : 130 ≤ eN E) (hT : St E) {σ : SM}  {rv : Int32} {σ' : SM} (hf : f_X12_gainerCount σ = some (rv, σ')) : Met l yX12_gainerCount (wC yX12_gainerCount cX12_gainerCount 3 (some .int)) rm_X12_gainerCount (va_Pc [.ref (adr E 19 0)] (Wu E σ)) (va_Qi (fun r u => rv = r ∧ σ' = u) (fun u t => Wu E u t) (eA E)) 0 0 (eA E) := by
  refine g_entry (lv := [(0, .ref (adr E 19 0))]) (by decide) (Nat.le_of_ble_eq_true rfl) rfl ?_
  intro p e s m below meth c cx hp ls hl
  have hx := cx.1.1
  have hb := cx.1.2.1
  unfold f_X12_gainerCount at hf
  refine lv_aload_n hx hb dX12_gainerCount_0 rfl (lv_at hl 0 rfl) ?_
  refine gF_X12_47 rfl hN cx hp dX12_gainerCount_1 ?_
  refine lv_aload_n hx hb dX12_gainerCount_4 rfl (lv_at hl 0 rfl) ?_
  refine gF_X12_99 rfl hN cx hp dX12_gainerCount_5 ?_
  obtain ⟨m1, hc, hf⟩ := fb hf
  refine x_v hp (y_V (As := [.ref (adr E 0 0)]) (rest := []) cx hp hl (c_X1_decide l (Nat.le_trans (by decide) hN) hT (by decide) rfl rfl hc) (cw_X12_250 cx (mc := 0) (ms := 0) rfl rfl ⟨by decide, by decide⟩) (rC_X1 (Nat.le_trans (by decide) hN) cx hp) rfl rfl (Nat.le_of_ble_eq_true rfl) dX12_gainerCount_8 ⟨Nat.zero_le _, Nat.zero_le _⟩) (fun u_c H locs hq hp => ?_)
  obtain ⟨e_0, n_u⟩ := hq
  obtain ⟨σ2, e_l, hf⟩ := fl hf
  obtain rfl := ((us_x e_0 n_u).trans e_l).symm
  refine lv_iconst (v := 0) hx hb dX12_gainerCount_11 (by decide) ?_
  refine lv_istore_n (lv' := [(1, .int 0), (0, .ref (adr E 19 0))]) hx hb dX12_gainerCount_12 rfl hl (by decide) rfl (fun ls hl => ?_)
  refine lv_iconst (v := 0) hx hb dX12_gainerCount_13 (by decide) ?_
  refine lv_istore_n (lv' := [(2, .int 0), (1, .int 0), (0, .ref (adr E 19 0))]) hx hb dX12_gainerCount_14 rfl hl (by decide) rfl (fun ls hl => ?_)
  exact L_X12_gainerCount_15 l hN hT cx  _ hf hp (lv_sub hl [2, 1, 0] rfl)
abbrev rm_X12_maximumMatchingSize : Room := { frames := 4, cells := 0, slots := 0, locals := 91 }
set_option maxRecDepth 100000 in
set_option maxHeartbeats 4000000 in
theorem c_X12_maximumMatchingSize (l : Launch) {E : Ev} (hN : 130 ≤ eN E) (hT : St E) {σ : SM}  {rv : Int32} {σ' : SM} (hf : f_X12_maximumMatchingSize σ = some (rv, σ')) : Met l yX12_maximumMatchingSize (wC yX12_maximumMatchingSize cX12_maximumMatchingSize 1 (some .int)) rm_X12_maximumMatchingSize (va_Pc [.ref (adr E 19 0)] (Wu E σ)) (va_Qi (fun r u => rv = r ∧ σ' = u) (fun u t => Wu E u t) (eA E)) 0 0 (eA E) := by
  refine g_entry (lv := [(0, .ref (adr E 19 0))]) (by decide) (Nat.le_of_ble_eq_true rfl) rfl ?_
  intro p e s m below meth c cx hp ls hl
  have hx := cx.1.1
  have hb := cx.1.2.1
  unfold f_X12_maximumMatchingSize at hf
  refine lv_aload_n hx hb dX12_maximumMatchingSize_0 rfl (lv_at hl 0 rfl) ?_
  refine gF_X12_54 rfl hN cx hp dX12_maximumMatchingSize_1 ?_
  refine lv_aload_n hx hb dX12_maximumMatchingSize_4 rfl (lv_at hl 0 rfl) ?_
  refine gF_X12_99 rfl hN cx hp dX12_maximumMatchingSize_5 ?_
  obtain ⟨m1, hc, hf⟩ := fb hf
  refine x_v hp (y_V (As := [.ref (adr E 0 0)]) (rest := []) cx hp hl (c_X6_solve l (Nat.le_trans (by decide) hN) hT (by decide) rfl rfl hc) (cw_X12_263 cx (mc := 0) (ms := 0) rfl rfl ⟨by decide, by decide⟩) (rC_X6 (Nat.le_trans (by decide) hN) cx hp) rfl rfl (Nat.le_of_ble_eq_true rfl) dX12_maximumMatchingSize_8 ⟨Nat.zero_le _, Nat.zero_le _⟩) (fun u_c H locs hq hp => ?_)
  obtain ⟨e_0, n_u⟩ := hq
  obtain ⟨σ2, e_l, hf⟩ := fl hf
  obtain rfl := ((us_x e_0 n_u).trans e_l).symm
  refine lv_aload_n hx hb dX12_maximumMatchingSize_11 rfl (lv_at hl 0 rfl) ?_
  refine gF_X12_54 rfl hN cx hp dX12_maximumMatchingSize_12 ?_
  refine gF_X12_266 rfl (Nat.le_trans (by decide) hN) cx hp dX12_maximumMatchingSize_15 ?_
  cases hf
  exact r_i cx hp ⟨rfl, rfl⟩ dX12_maximumMatchingSize_18
abbrev rm_X12_leastRankSum : Room := { frames := 4, cells := 0, slots := 0, locals := 91 }
set_option maxRecDepth 100000 in
set_option maxHeartbeats 4000000 in
theorem c_X12_leastRankSum (l : Launch) {E : Ev} (hN : 130 ≤ eN E) (hT : St E) {σ : SM}  {rv : Int32} {σ' : SM} (hf : f_X12_leastRankSum σ = some (rv, σ')) : Met l yX12_leastRankSum (wC yX12_leastRankSum cX12_leastRankSum 1 (some .int)) rm_X12_leastRankSum (va_Pc [.ref (adr E 19 0)] (Wu E σ)) (va_Qi (fun r u => rv = r ∧ σ' = u) (fun u t => Wu E u t) (eA E)) 0 0 (eA E) := by
  refine g_entry (lv := [(0, .ref (adr E 19 0))]) (by decide) (Nat.le_of_ble_eq_true rfl) rfl ?_
  intro p e s m below meth c cx hp ls hl
  have hx := cx.1.1
  have hb := cx.1.2.1
  unfold f_X12_leastRankSum at hf
  refine lv_aload_n hx hb dX12_leastRankSum_0 rfl (lv_at hl 0 rfl) ?_
  refine gF_X12_54 rfl hN cx hp dX12_leastRankSum_1 ?_
  refine lv_aload_n hx hb dX12_leastRankSum_4 rfl (lv_at hl 0 rfl) ?_
  refine gF_X12_99 rfl hN cx hp dX12_leastRankSum_5 ?_
  obtain ⟨m1, hc, hf⟩ := fb hf
  refine x_v hp (y_V (As := [.ref (adr E 0 0)]) (rest := []) cx hp hl (c_X6_solve l (Nat.le_trans (by decide) hN) hT (by decide) rfl rfl hc) (cw_X12_263 cx (mc := 0) (ms := 0) rfl rfl ⟨by decide, by decide⟩) (rC_X6 (Nat.le_trans (by decide) hN) cx hp) rfl rfl (Nat.le_of_ble_eq_true rfl) dX12_leastRankSum_8 ⟨Nat.zero_le _, Nat.zero_le _⟩) (fun u_c H locs hq hp => ?_)
  obtain ⟨e_0, n_u⟩ := hq
  obtain ⟨σ2, e_l, hf⟩ := fl hf
  obtain rfl := ((us_x e_0 n_u).trans e_l).symm
  refine lv_aload_n hx hb dX12_leastRankSum_11 rfl (lv_at hl 0 rfl) ?_
  refine gF_X12_54 rfl hN cx hp dX12_leastRankSum_12 ?_
  refine gF_X12_269 rfl (Nat.le_trans (by decide) hN) cx hp dX12_leastRankSum_15 ?_
  cases hf
  exact r_i cx hp ⟨rfl, rfl⟩ dX12_leastRankSum_18
abbrev rm_X12_daysUntilEviction : Room := { frames := 7, cells := 1, slots := 6, locals := 103 }
set_option maxRecDepth 100000 in
set_option maxHeartbeats 4000000 in
theorem L_X12_daysUntilEviction_33 {p : Program} {e : Env} {s : State} {m : MethodId} {args : Array Value} {below : List Frame} {meth : Method} {c : Code} (l : Launch) {E : Ev} (hN : 130 ≤ eN E) (hT : St E) (hlf : l.stackTraces = false) {σ : SM} (cx : Cx E p s m meth c args RX12 cX12_daysUntilEviction 5 (some .int)) (hxt : ∀ x ∈ c.exceptionTable.toList, False) {x2 : Int32} {x1 : Int32} {σs : SM} {z : Nat ⊕ (Int32)} : ∀ (n : Nat) {x4 : Int32} {x3 : Int32}, f_X12_daysUntilEviction_33 x2 x1 σ n x4 x3 = some z → ∀ {H : Heap} {locs : List Loc} {ls : Array Slot}, Hp E σ s H locs → lv_has ls 5 [(0, .ref (adr E 19 0)), (1, .int x1), (2, .int x2), (3, .int x3), (4, .int x4)] → W p l e rm_X12_daysUntilEviction s m args below meth c H locs 1 6 (vx_MQ below (va_Qi (fun r u => z = .inr r ∧ σ = u) (fun u t => Wu E u t) (eA E)) (XT E σs (fun k => z = .inl k)) args s 1 6 (eA E)) (F0 m 33 ls []) := by
  have hx := cx.1.1
  have hb := cx.1.2.1
  intro n
  induction n with
  | zero =>
    intro x4 x3 hf
    exact absurd hf (by simp [f_X12_daysUntilEviction_33])
  | succ n ih =>
    intro x4 x3 hf H locs ls hp hl
    rw [f_X12_daysUntilEviction_33] at hf
    refine lv_iload hx hb dX12_daysUntilEviction_33 (lv_at hl 4 rfl) ?_
    refine lv_sipush (v := 400) hx hb dX12_daysUntilEviction_35 (by decide) ?_
    refine lv_icmp_gt (tgt := 70) hx hb dX12_daysUntilEviction_38 (by decide) (fun c4 => ?_) (fun c4 => ?_)
    · have hf := fp hf c4
      refine lv_iconst (v := (-1)) hx hb dX12_daysUntilEviction_70 (by decide) ?_
      cases hf
      refine vx_ret ?_
      exact r_i cx hp ⟨rfl, rfl⟩ dX12_daysUntilEviction_71
    · have hf := fn hf c4
      refine lv_iload_n hx hb dX12_daysUntilEviction_41 rfl (lv_at hl 3 rfl) ?_
      refine lv_aload_n hx hb dX12_daysUntilEviction_42 rfl (lv_at hl 0 rfl) ?_
      refine gF_X12_99 rfl hN cx hp dX12_daysUntilEviction_43 ?_
      refine lv_iload_n hx hb dX12_daysUntilEviction_46 rfl (lv_at hl 1 rfl) ?_
      obtain ⟨r5, hc, hf⟩ := fb hf
      refine x_i hp (y_V (As := [.int x1]) (rest := [.int x3]) cx hp hl (c_X5_wageOf l (Nat.le_trans (by decide) hN) hT (by decide) rfl hc) (cw_X12_158 cx (mc := 0) (ms := 0) rfl rfl ⟨by decide, by decide⟩) (rC_X5 (by decide) (Nat.le_trans (by decide) hN) cx hp) rfl rfl (Nat.le_of_ble_eq_true rfl) dX12_daysUntilEviction_47 ⟨by decide, by decide⟩) (fun r_c u_c H locs hq hp => ?_)
      obtain ⟨rfl, rfl⟩ := hq
      refine lv_iadd hx hb dX12_daysUntilEviction_50 ?_
      obtain ⟨i6, x_e, hf⟩ := fl hf
      refine lv_nm x_e ?_
      refine lv_istore_n (lv' := [(3, .int i6), (0, .ref (adr E 19 0)), (1, .int x1), (2, .int x2), (4, .int x4)]) hx hb dX12_daysUntilEviction_51 rfl hl (by decide) rfl (fun ls hl => ?_)
      refine lv_iload_n hx hb dX12_daysUntilEviction_52 rfl (lv_at hl 0 rfl) ?_
      refine lv_iload_n hx hb dX12_daysUntilEviction_53 rfl (lv_at hl 3 rfl) ?_
      refine lv_icmp_ge (tgt := 60) hx hb dX12_daysUntilEviction_54 (by decide) (fun c7 => ?_) (fun c7 => ?_)
      · have hf := fp hf c7
        refine lv_iload_n hx hb dX12_daysUntilEviction_60 rfl (lv_at hl 0 rfl) ?_
        refine lv_iload_n hx hb dX12_daysUntilEviction_61 rfl (lv_at hl 3 rfl) ?_
        refine lv_isub hx hb dX12_daysUntilEviction_62 ?_
        obtain ⟨i8, x_e, hf⟩ := fl hf
        refine lv_nm x_e ?_
        refine lv_istore_n (lv' := [(3, .int i8), (0, .ref (adr E 19 0)), (1, .int x1), (2, .int x2), (4, .int x4)]) hx hb dX12_daysUntilEviction_63 rfl hl (by decide) rfl (fun ls hl => ?_)
        refine lv_iinc (v := (x4 + 1)) (lv' := [(4, .int (x4 + 1)), (3, .int i8), (0, .ref (adr E 19 0)), (1, .int x1), (2, .int x2)]) hx hb dX12_daysUntilEviction_64 hl (k := 4) rfl rfl (by decide) rfl (fun ls hl => ?_)
        refine lv_goto (tgt := 33) hx hb dX12_daysUntilEviction_67 (by decide) ?_
        exact ih  hf hp (lv_sub hl [2, 3, 4, 1, 0] rfl)
      · have hf := fn hf c7
        refine lv_iload hx hb dX12_daysUntilEviction_57 (lv_at hl 4 rfl) ?_
        cases hf
        refine vx_ret ?_
        exact r_i cx hp ⟨rfl, rfl⟩ dX12_daysUntilEviction_59
set_option maxRecDepth 100000 in
set_option maxHeartbeats 4000000 in
theorem c_X12_daysUntilEviction (l : Launch) {E : Ev} (hN : 130 ≤ eN E) (hT : St E) (hlf : l.stackTraces = false) {σ : SM} {p1 : Int32} {z : Nat ⊕ (Int32)} (hf : f_X12_daysUntilEviction p1 σ = some z) : vx_Met l yX12_daysUntilEviction (wC yX12_daysUntilEviction cX12_daysUntilEviction 5 (some .int)) rm_X12_daysUntilEviction (va_Pc [.ref (adr E 19 0), .int p1] (Wu E σ)) (va_Qi (fun r u => z = .inr r ∧ σ = u) (fun u t => Wu E u t) (eA E)) (XT E σ (fun k => z = .inl k)) 1 6 (eA E) := by
  refine gx_entry (lv := [(0, .ref (adr E 19 0)), (1, .int p1)]) (by decide) (Nat.le_of_ble_eq_true rfl) rfl ?_
  intro p e s m below meth c cx hxt hp ls hl
  have hx := cx.1.1
  have hb := cx.1.2.1
  unfold f_X12_daysUntilEviction at hf
  refine lv_aload_n hx hb dX12_daysUntilEviction_0 rfl (lv_at hl 0 rfl) ?_
  refine lv_iload_n hx hb dX12_daysUntilEviction_1 rfl (lv_at hl 1 rfl) ?_
  rcases fX hf with ⟨k_t, hc, rfl⟩ | ⟨_, hc, hf⟩
  · exact zv_thr cx hxt hp (yx_V (As := [.int p1]) (rest := []) cx hp hl (c_X12_requireSeller l hN hT hlf  hc) (cw_X12_151 cx (mc := 1) (ms := 6) rfl rfl ⟨by decide, by decide⟩) (rC_X12 hN cx hp) rfl rfl (Nat.le_of_ble_eq_true rfl) dX12_daysUntilEviction_2 ⟨by decide, by decide⟩) rfl rfl (by decide) (by decide)
  · refine zv_ok hp (yx_V (As := [.int p1]) (rest := []) cx hp hl (c_X12_requireSeller l hN hT hlf  hc) (cw_X12_151 cx (mc := 1) (ms := 6) rfl rfl ⟨by decide, by decide⟩) (rC_X12 hN cx hp) rfl rfl (Nat.le_of_ble_eq_true rfl) dX12_daysUntilEviction_2 ⟨by decide, by decide⟩) rfl (fun H locs hp => ?_)
    refine lv_aload_n hx hb dX12_daysUntilEviction_5 rfl (lv_at hl 0 rfl) ?_
    refine gF_X12_99 rfl hN cx hp dX12_daysUntilEviction_6 ?_
    refine lv_aload_n hx hb dX12_daysUntilEviction_9 rfl (lv_at hl 0 rfl) ?_
    refine gF_X12_99 rfl hN cx hp dX12_daysUntilEviction_10 ?_
    refine lv_iload_n hx hb dX12_daysUntilEviction_13 rfl (lv_at hl 1 rfl) ?_
    obtain ⟨r1, hc, hf⟩ := fb hf
    refine x_i hp (y_V (As := [.int p1]) (rest := [.ref (adr E 0 0)]) cx hp hl (c_X5_heldBy l (Nat.le_trans (by decide) hN) hT (by decide) rfl hc) (cw_X12_167 cx (mc := 0) (ms := 0) rfl rfl ⟨by decide, by decide⟩) (rC_X5 (by decide) (Nat.le_trans (by decide) hN) cx hp) rfl rfl (Nat.le_of_ble_eq_true rfl) dX12_daysUntilEviction_14 ⟨by decide, by decide⟩) (fun r_c u_c H locs hq hp => ?_)
    obtain ⟨rfl, rfl⟩ := hq
    obtain ⟨r2, hc, hf⟩ := fb hf
    refine x_i hp (y_V (As := [.int r1]) (rest := []) cx hp hl (c_X5_priceOf l (Nat.le_trans (by decide) hN) hT (by decide) rfl hc) (cw_X12_164 cx (mc := 0) (ms := 0) rfl rfl ⟨by decide, by decide⟩) (rC_X5 (by decide) (Nat.le_trans (by decide) hN) cx hp) rfl rfl (Nat.le_of_ble_eq_true rfl) dX12_daysUntilEviction_17 ⟨by decide, by decide⟩) (fun r_c u_c H locs hq hp => ?_)
    obtain ⟨rfl, rfl⟩ := hq
    refine lv_istore_n (lv' := [(2, .int r2), (0, .ref (adr E 19 0)), (1, .int p1)]) hx hb dX12_daysUntilEviction_20 rfl hl (by decide) rfl (fun ls hl => ?_)
    refine lv_aload_n hx hb dX12_daysUntilEviction_21 rfl (lv_at hl 1 rfl) ?_
    refine gF_X12_99 rfl hN cx hp dX12_daysUntilEviction_22 ?_
    refine lv_iload_n hx hb dX12_daysUntilEviction_25 rfl (lv_at hl 2 rfl) ?_
    obtain ⟨r3, hc, hf⟩ := fb hf
    refine x_i hp (y_V (As := [.int p1]) (rest := []) cx hp hl (c_X5_coinsOf l (Nat.le_trans (by decide) hN) hT (by decide) rfl hc) (cw_X12_154 cx (mc := 0) (ms := 0) rfl rfl ⟨by decide, by decide⟩) (rC_X5 (by decide) (Nat.le_trans (by decide) hN) cx hp) rfl rfl (Nat.le_of_ble_eq_true rfl) dX12_daysUntilEviction_26 ⟨by decide, by decide⟩) (fun r_c u_c H locs hq hp => ?_)
    obtain ⟨rfl, rfl⟩ := hq
    refine lv_istore_n (lv' := [(3, .int r3), (2, .int r2), (0, .ref (adr E 19 0)), (1, .int p1)]) hx hb dX12_daysUntilEviction_29 rfl hl (by decide) rfl (fun ls hl => ?_)
    refine lv_iconst (v := 1) hx hb dX12_daysUntilEviction_30 (by decide) ?_
    refine lv_istore (lv' := [(4, .int 1), (3, .int r3), (2, .int r2), (0, .ref (adr E 19 0)), (1, .int p1)]) hx hb dX12_daysUntilEviction_31 hl (by decide) rfl (fun ls hl => ?_)
    exact L_X12_daysUntilEviction_33 l hN hT hlf cx hxt  _ hf hp (lv_sub hl [3, 4, 2, 1, 0] rfl)

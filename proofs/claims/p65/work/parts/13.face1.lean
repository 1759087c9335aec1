abbrev rm_X12_appendInput : Room := { frames := 2, cells := 0, slots := 0, locals := 43 }
set_option maxRecDepth 100000 in
set_option maxHeartbeats 4000000 in
theorem c_X12_appendInput (l : Launch) {E : Ev} (hN : 130 ≤ eN E) (hT : St E) {σ : SM} {p1 : Int32} {p2 : Int32} {p3 : Int32} {p4 : Int32} {p5 : Int32} {rv : Int32} {σ' : SM} (hf : f_X12_appendInput p1 p2 p3 p4 p5 σ = some (rv, σ')) : Met l yX12_appendInput (wC yX12_appendInput cX12_appendInput 7 (some .int)) rm_X12_appendInput (va_Pc [.ref (adr E 19 0), .int p1, .int p2, .int p3, .int p4, .int p5] (Wu E σ)) (va_Qi (fun r u => rv = r ∧ σ' = u) (fun u t => Wu E u t) (eA E)) 0 0 (eA E) := by
  refine g_entry (lv := [(0, .ref (adr E 19 0)), (1, .int p1), (2, .int p2), (3, .int p3), (4, .int p4), (5, .int p5)]) (by decide) (Nat.le_of_ble_eq_true rfl) rfl ?_
  intro p e s m below meth c cx hp ls hl
  have hx := cx.1.1
  have hb := cx.1.2.1
  unfold f_X12_appendInput at hf
  refine lv_aload_n hx hb dX12_appendInput_0 rfl (lv_at hl 0 rfl) ?_
  refine gF_X12_95 rfl hN cx hp dX12_appendInput_1 ?_
  refine gF_X12_69 rfl (Nat.le_trans (by decide) hN) cx hp dX12_appendInput_4 ?_
  refine gF_X12_73 rfl (Nat.le_trans (by decide) hN) cx hp dX12_appendInput_7 ?_
  refine lv_astore (lv' := [(6, .ref (adr E 13 0)), (0, .ref (adr E 19 0)), (1, .int p1), (2, .int p2), (3, .int p3), (4, .int p4), (5, .int p5)]) hx hb dX12_appendInput_10 hl (by decide) rfl (fun ls hl => ?_)
  refine lv_aload hx hb dX12_appendInput_12 (lv_at hl 0 rfl) ?_
  refine gF_X12_102_13 rfl (Nat.le_trans (by decide) hN) cx hp dX12_appendInput_14 ?_
  refine lv_sipush (v := 680) hx hb dX12_appendInput_17 (by decide) ?_
  refine lv_icmp_le (tgt := 33) hx hb dX12_appendInput_20 (by decide) (fun c1 => ?_) (fun c1 => ?_)
  · have hf := fp hf c1
    refine lv_aload hx hb dX12_appendInput_33 (lv_at hl 0 rfl) ?_
    refine lv_iload_n hx hb dX12_appendInput_35 rfl (lv_at hl 2 rfl) ?_
    obtain ⟨m2, hc, hf⟩ := fb hf
    refine x_v hp (y_V (As := [.int p1]) (rest := []) cx hp hl (c_X2_addWord_13 l (Nat.le_trans (by decide) hN) hT rfl hc) (cw_X12_112 cx (mc := 0) (ms := 0) rfl rfl ⟨by decide, by decide⟩) (rC_X2_13 (Nat.le_trans (by decide) hN) cx hp) rfl rfl (Nat.le_of_ble_eq_true rfl) dX12_appendInput_36 ⟨Nat.zero_le _, Nat.zero_le _⟩) (fun u_c H locs hq hp => ?_)
    obtain ⟨e_0, n_u⟩ := hq
    obtain ⟨σ3, e_l, hf⟩ := fl hf
    obtain rfl := ((us_x e_0 n_u).trans e_l).symm
    refine lv_aload hx hb dX12_appendInput_39 (lv_at hl 0 rfl) ?_
    refine lv_iload_n hx hb dX12_appendInput_41 rfl (lv_at hl 3 rfl) ?_
    obtain ⟨m4, hc, hf⟩ := fb hf
    refine x_v hp (y_V (As := [.int p2]) (rest := []) cx hp hl (c_X2_addWord_13 l (Nat.le_trans (by decide) hN) hT rfl hc) (cw_X12_112 cx (mc := 0) (ms := 0) rfl rfl ⟨by decide, by decide⟩) (rC_X2_13 (Nat.le_trans (by decide) hN) cx hp) rfl rfl (Nat.le_of_ble_eq_true rfl) dX12_appendInput_42 ⟨Nat.zero_le _, Nat.zero_le _⟩) (fun u_c H locs hq hp => ?_)
    obtain ⟨e_0, n_u⟩ := hq
    obtain ⟨σ5, e_l, hf⟩ := fl hf
    obtain rfl := ((us_x e_0 n_u).trans e_l).symm
    refine lv_aload hx hb dX12_appendInput_45 (lv_at hl 0 rfl) ?_
    refine lv_iload_n hx hb dX12_appendInput_47 rfl (lv_at hl 4 rfl) ?_
    obtain ⟨m6, hc, hf⟩ := fb hf
    refine x_v hp (y_V (As := [.int p3]) (rest := []) cx hp hl (c_X2_addWord_13 l (Nat.le_trans (by decide) hN) hT rfl hc) (cw_X12_112 cx (mc := 0) (ms := 0) rfl rfl ⟨by decide, by decide⟩) (rC_X2_13 (Nat.le_trans (by decide) hN) cx hp) rfl rfl (Nat.le_of_ble_eq_true rfl) dX12_appendInput_48 ⟨Nat.zero_le _, Nat.zero_le _⟩) (fun u_c H locs hq hp => ?_)
    obtain ⟨e_0, n_u⟩ := hq
    obtain ⟨σ7, e_l, hf⟩ := fl hf
    obtain rfl := ((us_x e_0 n_u).trans e_l).symm
    refine lv_aload hx hb dX12_appendInput_51 (lv_at hl 0 rfl) ?_
    refine lv_iload hx hb dX12_appendInput_53 (lv_at hl 5 rfl) ?_
    obtain ⟨m8, hc, hf⟩ := fb hf
    refine x_v hp (y_V (As := [.int p4]) (rest := []) cx hp hl (c_X2_addWord_13 l (Nat.le_trans (by decide) hN) hT rfl hc) (cw_X12_112 cx (mc := 0) (ms := 0) rfl rfl ⟨by decide, by decide⟩) (rC_X2_13 (Nat.le_trans (by decide) hN) cx hp) rfl rfl (Nat.le_of_ble_eq_true rfl) dX12_appendInput_55 ⟨Nat.zero_le _, Nat.zero_le _⟩) (fun u_c H locs hq hp => ?_)
    obtain ⟨e_0, n_u⟩ := hq
    obtain ⟨σ9, e_l, hf⟩ := fl hf
    obtain rfl := ((us_x e_0 n_u).trans e_l).symm
    refine lv_aload hx hb dX12_appendInput_58 (lv_at hl 0 rfl) ?_
    refine lv_iload hx hb dX12_appendInput_60 (lv_at hl 6 rfl) ?_
    obtain ⟨m10, hc, hf⟩ := fb hf
    refine x_v hp (y_V (As := [.int p5]) (rest := []) cx hp hl (c_X2_addWord_13 l (Nat.le_trans (by decide) hN) hT rfl hc) (cw_X12_112 cx (mc := 0) (ms := 0) rfl rfl ⟨by decide, by decide⟩) (rC_X2_13 (Nat.le_trans (by decide) hN) cx hp) rfl rfl (Nat.le_of_ble_eq_true rfl) dX12_appendInput_62 ⟨Nat.zero_le _, Nat.zero_le _⟩) (fun u_c H locs hq hp => ?_)
    obtain ⟨e_0, n_u⟩ := hq
    obtain ⟨σ11, e_l, hf⟩ := fl hf
    obtain rfl := ((us_x e_0 n_u).trans e_l).symm
    refine lv_aload hx hb dX12_appendInput_65 (lv_at hl 0 rfl) ?_
    refine gF_X12_102_13 rfl (Nat.le_trans (by decide) hN) cx hp dX12_appendInput_67 ?_
    cases hf
    exact r_i cx hp ⟨rfl, rfl⟩ dX12_appendInput_70
  · have hf := fn hf c1
    cases hf
abbrev rm_X12_loadSetup : Room := { frames := 10, cells := 0, slots := 0, locals := 222 }
set_option maxRecDepth 100000 in
set_option maxHeartbeats 4000000 in
theorem c_X12_loadSetup (l : Launch) {E : Ev} (hN : 130 ≤ eN E) (hT : St E) {σ : SM}  {rv : Int32} {σ' : SM} (hf : f_X12_loadSetup σ = some (rv, σ')) : Met l yX12_loadSetup (wC yX12_loadSetup cX12_loadSetup 2 (some .int)) rm_X12_loadSetup (va_Pc [.ref (adr E 19 0)] (Wu E σ)) (va_Qi (fun r u => rv = r ∧ σ' = u) (fun u t => Wu E u t) (eA E)) 0 0 (eA E) := by
  refine g_entry (lv := [(0, .ref (adr E 19 0))]) (by decide) (Nat.le_of_ble_eq_true rfl) rfl ?_
  intro p e s m below meth c cx hp ls hl
  have hx := cx.1.1
  have hb := cx.1.2.1
  unfold f_X12_loadSetup at hf
  refine lv_aload_n hx hb dX12_loadSetup_0 rfl (lv_at hl 0 rfl) ?_
  refine gF_X12_95 rfl hN cx hp dX12_loadSetup_1 ?_
  refine lv_aload_n hx hb dX12_loadSetup_4 rfl (lv_at hl 0 rfl) ?_
  refine gF_X12_26 rfl hN cx hp dX12_loadSetup_5 ?_
  obtain ⟨r1, m2, m3, m4, hc, hf⟩ := fb4 hf
  refine x_i hp (y_S (As := [.ref (adr E 11 0), .ref (adr E 1 0)]) (rest := []) cx hp hl (c_X9_read l (Nat.le_trans (by decide) hN) hT (by decide) rfl rfl rfl rfl hc) (cw_X12_86 cx (mc := 0) (ms := 0) rfl rfl ⟨by decide, by decide⟩) rfl rfl (Nat.le_of_ble_eq_true rfl) dX12_loadSetup_8 ⟨Nat.zero_le _, Nat.zero_le _⟩) (fun r_c u_c H locs hq hp => ?_)
  obtain ⟨rfl, e_0, e_1, e_2, n_u⟩ := hq
  obtain ⟨σ5, e_l, hf⟩ := fl hf
  obtain rfl := ((us_x3 e_0 e_1 e_2 n_u).trans e_l).symm
  refine lv_istore_n (lv' := [(1, .int r1), (0, .ref (adr E 19 0))]) hx hb dX12_loadSetup_11 rfl hl (by decide) rfl (fun ls hl => ?_)
  refine lv_aload_n hx hb dX12_loadSetup_12 rfl (lv_at hl 1 rfl) ?_
  refine gF_X12_95 rfl hN cx hp dX12_loadSetup_13 ?_
  refine gF_X12_69 rfl (Nat.le_trans (by decide) hN) cx hp dX12_loadSetup_16 ?_
  refine gF_X12_73 rfl (Nat.le_trans (by decide) hN) cx hp dX12_loadSetup_19 ?_
  refine lv_iconst (v := 0) hx hb dX12_loadSetup_22 (by decide) ?_
  obtain ⟨m6, hc, hf⟩ := fb hf
  refine x_v hp (y_V (As := [.int 0]) (rest := []) cx hp hl (c_X2_cut_13 l (Nat.le_trans (by decide) hN) hT rfl hc) (cw_X12_92 cx (mc := 0) (ms := 0) rfl rfl ⟨by decide, by decide⟩) (rC_X2_13 (Nat.le_trans (by decide) hN) cx hp) rfl rfl (Nat.le_of_ble_eq_true rfl) dX12_loadSetup_23 ⟨Nat.zero_le _, Nat.zero_le _⟩) (fun u_c H locs hq hp => ?_)
  obtain ⟨e_0, n_u⟩ := hq
  obtain ⟨σ7, e_l, hf⟩ := fl hf
  obtain rfl := ((us_x e_0 n_u).trans e_l).symm
  refine lv_iload_n hx hb dX12_loadSetup_26 rfl (lv_at hl 0 rfl) ?_
  refine lv_if_ne (tgt := 32) hx hb dX12_loadSetup_27 (by decide) (fun c8 => ?_) (fun c8 => ?_)
  · have hf := fn hf c8
    refine lv_aload_n hx hb dX12_loadSetup_32 rfl (lv_at hl 1 rfl) ?_
    refine gF_X12_26 rfl hN cx hp dX12_loadSetup_33 ?_
    refine lv_aload_n hx hb dX12_loadSetup_36 rfl (lv_at hl 1 rfl) ?_
    refine gF_X12_99 rfl hN cx hp dX12_loadSetup_37 ?_
    obtain ⟨m9, hc, hf⟩ := fb hf
    refine x_v hp (y_S (As := [.ref (adr E 1 0), .ref (adr E 0 0)]) (rest := []) cx hp hl (c_X5_copy l (Nat.le_trans (by decide) hN) hT (by decide) rfl (by decide) rfl (by decide) hc) (cw_X12_120 cx (mc := 0) (ms := 0) rfl rfl ⟨by decide, by decide⟩) rfl rfl (Nat.le_of_ble_eq_true rfl) dX12_loadSetup_40 ⟨Nat.zero_le _, Nat.zero_le _⟩) (fun u_c H locs hq hp => ?_)
    obtain ⟨e_0, n_u⟩ := hq
    obtain ⟨σ10, e_l, hf⟩ := fl hf
    obtain rfl := ((us_x e_0 n_u).trans e_l).symm
    refine lv_aload_n hx hb dX12_loadSetup_43 rfl (lv_at hl 1 rfl) ?_
    refine gF_X12_40 rfl hN cx hp dX12_loadSetup_44 ?_
    obtain ⟨σ11, hc, hf⟩ := fb hf
    refine x_v hp (y_V (As := []) (rest := []) cx hp hl (c_X4_clear l (Nat.le_trans (by decide) hN) hT  hc) (cw_X12_124 cx (mc := 0) (ms := 0) rfl rfl ⟨by decide, by decide⟩) (rC_X4 (Nat.le_trans (by decide) hN) cx hp) rfl rfl (Nat.le_of_ble_eq_true rfl) dX12_loadSetup_47 ⟨Nat.zero_le _, Nat.zero_le _⟩) (fun u_c H locs hq hp => ?_)
    obtain rfl := hq
    refine lv_aload_n hx hb dX12_loadSetup_50 rfl (lv_at hl 1 rfl) ?_
    refine gF_X12_99 rfl hN cx hp dX12_loadSetup_51 ?_
    refine gF_X12_127 (by decide) rfl (Nat.le_trans (by decide) hN) cx hp dX12_loadSetup_54 ?_
    cases hf
    exact r_i cx hp ⟨rfl, rfl⟩ dX12_loadSetup_57
  · have hf := fp hf c8
    refine lv_iconst (v := (-1)) hx hb dX12_loadSetup_30 (by decide) ?_
    cases hf
    exact r_i cx hp ⟨rfl, rfl⟩ dX12_loadSetup_31
abbrev rm_X12_sellerCount : Room := { frames := 0, cells := 0, slots := 0, locals := 0 }
set_option maxRecDepth 100000 in
set_option maxHeartbeats 4000000 in
theorem c_X12_sellerCount (l : Launch) {E : Ev} (hN : 130 ≤ eN E) (hT : St E) {σ : SM}  {rv : Int32} (hf : f_X12_sellerCount σ = some rv) : Met l yX12_sellerCount (wC yX12_sellerCount cX12_sellerCount 1 (some .int)) rm_X12_sellerCount (va_Pc [.ref (adr E 19 0)] (Wu E σ)) (va_Qi (fun r u => rv = r ∧ σ = u) (fun u t => Wu E u t) (eA E)) 0 0 (eA E) := by
  refine g_entry (lv := [(0, .ref (adr E 19 0))]) (by decide) (Nat.le_of_ble_eq_true rfl) rfl ?_
  intro p e s m below meth c cx hp ls hl
  have hx := cx.1.1
  have hb := cx.1.2.1
  unfold f_X12_sellerCount at hf
  refine lv_aload_n hx hb dX12_sellerCount_0 rfl (lv_at hl 0 rfl) ?_
  refine gF_X12_99 rfl hN cx hp dX12_sellerCount_1 ?_
  refine gF_X12_127 (by decide) rfl (Nat.le_trans (by decide) hN) cx hp dX12_sellerCount_4 ?_
  cases hf
  exact r_i cx hp ⟨rfl, rfl⟩ dX12_sellerCount_7
abbrev rm_X12_stallCount : Room := { frames := 0, cells := 0, slots := 0, locals := 0 }
set_option maxRecDepth 100000 in
set_option maxHeartbeats 4000000 in
theorem c_X12_stallCount (l : Launch) {E : Ev} (hN : 130 ≤ eN E) (hT : St E) {σ : SM}  {rv : Int32} (hf : f_X12_stallCount σ = some rv) : Met l yX12_stallCount (wC yX12_stallCount cX12_stallCount 1 (some .int)) rm_X12_stallCount (va_Pc [.ref (adr E 19 0)] (Wu E σ)) (va_Qi (fun r u => rv = r ∧ σ = u) (fun u t => Wu E u t) (eA E)) 0 0 (eA E) := by
  refine g_entry (lv := [(0, .ref (adr E 19 0))]) (by decide) (Nat.le_of_ble_eq_true rfl) rfl ?_
  intro p e s m below meth c cx hp ls hl
  have hx := cx.1.1
  have hb := cx.1.2.1
  unfold f_X12_stallCount at hf
  refine lv_aload_n hx hb dX12_stallCount_0 rfl (lv_at hl 0 rfl) ?_
  refine gF_X12_99 rfl hN cx hp dX12_stallCount_1 ?_
  refine gF_X12_145 (by decide) rfl (Nat.le_trans (by decide) hN) cx hp dX12_stallCount_4 ?_
  cases hf
  exact r_i cx hp ⟨rfl, rfl⟩ dX12_stallCount_7
abbrev rm_X12_day : Room := { frames := 0, cells := 0, slots := 0, locals := 0 }
set_option maxRecDepth 100000 in
set_option maxHeartbeats 4000000 in
theorem c_X12_day (l : Launch) {E : Ev} (hN : 130 ≤ eN E) (hT : St E) {σ : SM}  {rv : Int32} (hf : f_X12_day σ = some rv) : Met l yX12_day (wC yX12_day cX12_day 1 (some .int)) rm_X12_day (va_Pc [.ref (adr E 19 0)] (Wu E σ)) (va_Qi (fun r u => rv = r ∧ σ = u) (fun u t => Wu E u t) (eA E)) 0 0 (eA E) := by
  refine g_entry (lv := [(0, .ref (adr E 19 0))]) (by decide) (Nat.le_of_ble_eq_true rfl) rfl ?_
  intro p e s m below meth c cx hp ls hl
  have hx := cx.1.1
  have hb := cx.1.2.1
  unfold f_X12_day at hf
  refine lv_aload_n hx hb dX12_day_0 rfl (lv_at hl 0 rfl) ?_
  refine gF_X12_99 rfl hN cx hp dX12_day_1 ?_
  refine gF_X12_148 (by decide) rfl (Nat.le_trans (by decide) hN) cx hp dX12_day_4 ?_
  cases hf
  exact r_i cx hp ⟨rfl, rfl⟩ dX12_day_7
abbrev rm_X12_requireSeller : Room := { frames := 0, cells := 0, slots := 0, locals := 0 }
set_option maxRecDepth 100000 in
set_option maxHeartbeats 4000000 in
theorem c_X12_requireSeller (l : Launch) {E : Ev} (hN : 130 ≤ eN E) (hT : St E) {σ : SM} {p1 : Int32}  (hf : f_X12_requireSeller p1 σ = some ()) : Met l yX12_requireSeller (wC yX12_requireSeller cX12_requireSeller 2 none) rm_X12_requireSeller (va_Pc [.ref (adr E 19 0), .int p1] (Wu E σ)) (va_Qv (fun u => σ = u) (fun u t => Wu E u t) (eA E)) 0 0 (eA E) := by
  refine g_entry (lv := [(0, .ref (adr E 19 0)), (1, .int p1)]) (by decide) (Nat.le_of_ble_eq_true rfl) rfl ?_
  intro p e s m below meth c cx hp ls hl
  have hx := cx.1.1
  have hb := cx.1.2.1
  unfold f_X12_requireSeller at hf
  refine lv_iload_n hx hb dX12_requireSeller_0 rfl (lv_at hl 1 rfl) ?_
  refine lv_if_lt (tgt := 15) hx hb dX12_requireSeller_1 (by decide) (fun c1 => ?_) (fun c1 => ?_)
  · have hf := fp hf c1
    cases hf
  · have hf := fn hf c1
    refine lv_iload_n hx hb dX12_requireSeller_4 rfl (lv_at hl 1 rfl) ?_
    refine lv_aload_n hx hb dX12_requireSeller_5 rfl (lv_at hl 0 rfl) ?_
    refine gF_X12_99 rfl hN cx hp dX12_requireSeller_6 ?_
    refine gF_X12_127 (by decide) rfl (Nat.le_trans (by decide) hN) cx hp dX12_requireSeller_9 ?_
    refine lv_icmp_lt (tgt := 26) hx hb dX12_requireSeller_12 (by decide) (fun c2 => ?_) (fun c2 => ?_)
    · have hf := fp hf c2
      cases hf
      exact r_v cx hp rfl dX12_requireSeller_26
    · have hf := fn hf c2
      cases hf
abbrev rm_X12_balance : Room := { frames := 2, cells := 0, slots := 0, locals := 42 }
set_option maxRecDepth 100000 in
set_option maxHeartbeats 4000000 in
theorem c_X12_balance (l : Launch) {E : Ev} (hN : 130 ≤ eN E) (hT : St E) {σ : SM} {p1 : Int32} {rv : Int32} (hf : f_X12_balance p1 σ = some rv) : Met l yX12_balance (wC yX12_balance cX12_balance 2 (some .int)) rm_X12_balance (va_Pc [.ref (adr E 19 0), .int p1] (Wu E σ)) (va_Qi (fun r u => rv = r ∧ σ = u) (fun u t => Wu E u t) (eA E)) 0 0 (eA E) := by
  refine g_entry (lv := [(0, .ref (adr E 19 0)), (1, .int p1)]) (by decide) (Nat.le_of_ble_eq_true rfl) rfl ?_
  intro p e s m below meth c cx hp ls hl
  have hx := cx.1.1
  have hb := cx.1.2.1
  unfold f_X12_balance at hf
  refine lv_aload_n hx hb dX12_balance_0 rfl (lv_at hl 0 rfl) ?_
  refine lv_iload_n hx hb dX12_balance_1 rfl (lv_at hl 1 rfl) ?_
  obtain ⟨_, hc, hf⟩ := fb hf
  refine x_v hp (y_V (As := [.int p1]) (rest := []) cx hp hl (c_X12_requireSeller l hN hT  hc) (cw_X12_151 cx (mc := 0) (ms := 0) rfl rfl ⟨by decide, by decide⟩) (rC_X12 hN cx hp) rfl rfl (Nat.le_of_ble_eq_true rfl) dX12_balance_2 ⟨Nat.zero_le _, Nat.zero_le _⟩) (fun u_c H locs hq hp => ?_)
  obtain rfl := hq
  refine lv_aload_n hx hb dX12_balance_5 rfl (lv_at hl 0 rfl) ?_
  refine gF_X12_99 rfl hN cx hp dX12_balance_6 ?_
  refine lv_iload_n hx hb dX12_balance_9 rfl (lv_at hl 1 rfl) ?_
  obtain ⟨r1, hc, hf⟩ := fb hf
  refine x_i hp (y_V (As := [.int p1]) (rest := []) cx hp hl (c_X5_coinsOf l (Nat.le_trans (by decide) hN) hT (by decide) rfl hc) (cw_X12_154 cx (mc := 0) (ms := 0) rfl rfl ⟨by decide, by decide⟩) (rC_X5 (by decide) (Nat.le_trans (by decide) hN) cx hp) rfl rfl (Nat.le_of_ble_eq_true rfl) dX12_balance_10 ⟨Nat.zero_le _, Nat.zero_le _⟩) (fun r_c u_c H locs hq hp => ?_)
  obtain ⟨rfl, rfl⟩ := hq
  cases hf
  exact r_i cx hp ⟨rfl, rfl⟩ dX12_balance_13
abbrev rm_X12_requireStall : Room := { frames := 0, cells := 0, slots := 0, locals := 0 }
set_option maxRecDepth 100000 in
set_option maxHeartbeats 4000000 in
theorem c_X12_requireStall (l : Launch) {E : Ev} (hN : 130 ≤ eN E) (hT : St E) {σ : SM} {p1 : Int32}  (hf : f_X12_requireStall p1 σ = some ()) : Met l yX12_requireStall (wC yX12_requireStall cX12_requireStall 2 none) rm_X12_requireStall (va_Pc [.ref (adr E 19 0), .int p1] (Wu E σ)) (va_Qv (fun u => σ = u) (fun u t => Wu E u t) (eA E)) 0 0 (eA E) := by
  refine g_entry (lv := [(0, .ref (adr E 19 0)), (1, .int p1)]) (by decide) (Nat.le_of_ble_eq_true rfl) rfl ?_
  intro p e s m below meth c cx hp ls hl
  have hx := cx.1.1
  have hb := cx.1.2.1
  unfold f_X12_requireStall at hf
  refine lv_iload_n hx hb dX12_requireStall_0 rfl (lv_at hl 1 rfl) ?_
  refine lv_if_lt (tgt := 15) hx hb dX12_requireStall_1 (by decide) (fun c1 => ?_) (fun c1 => ?_)
  · have hf := fp hf c1
    cases hf
  · have hf := fn hf c1
    refine lv_iload_n hx hb dX12_requireStall_4 rfl (lv_at hl 1 rfl) ?_
    refine lv_aload_n hx hb dX12_requireStall_5 rfl (lv_at hl 0 rfl) ?_
    refine gF_X12_99 rfl hN cx hp dX12_requireStall_6 ?_
    refine gF_X12_145 (by decide) rfl (Nat.le_trans (by decide) hN) cx hp dX12_requireStall_9 ?_
    refine lv_icmp_lt (tgt := 26) hx hb dX12_requireStall_12 (by decide) (fun c2 => ?_) (fun c2 => ?_)
    · have hf := fp hf c2
      cases hf
      exact r_v cx hp rfl dX12_requireStall_26
    · have hf := fn hf c2
      cases hf
abbrev rm_X12_rent : Room := { frames := 2, cells := 0, slots := 0, locals := 42 }
set_option maxRecDepth 100000 in
set_option maxHeartbeats 4000000 in
theorem c_X12_rent (l : Launch) {E : Ev} (hN : 130 ≤ eN E) (hT : St E) {σ : SM} {p1 : Int32} {rv : Int32} (hf : f_X12_rent p1 σ = some rv) : Met l yX12_rent (wC yX12_rent cX12_rent 2 (some .int)) rm_X12_rent (va_Pc [.ref (adr E 19 0), .int p1] (Wu E σ)) (va_Qi (fun r u => rv = r ∧ σ = u) (fun u t => Wu E u t) (eA E)) 0 0 (eA E) := by
  refine g_entry (lv := [(0, .ref (adr E 19 0)), (1, .int p1)]) (by decide) (Nat.le_of_ble_eq_true rfl) rfl ?_
  intro p e s m below meth c cx hp ls hl
  have hx := cx.1.1
  have hb := cx.1.2.1
  unfold f_X12_rent at hf
  refine lv_aload_n hx hb dX12_rent_0 rfl (lv_at hl 0 rfl) ?_
  refine lv_iload_n hx hb dX12_rent_1 rfl (lv_at hl 1 rfl) ?_
  obtain ⟨_, hc, hf⟩ := fb hf
  refine x_v hp (y_V (As := [.int p1]) (rest := []) cx hp hl (c_X12_requireStall l hN hT  hc) (cw_X12_161 cx (mc := 0) (ms := 0) rfl rfl ⟨by decide, by decide⟩) (rC_X12 hN cx hp) rfl rfl (Nat.le_of_ble_eq_true rfl) dX12_rent_2 ⟨Nat.zero_le _, Nat.zero_le _⟩) (fun u_c H locs hq hp => ?_)
  obtain rfl := hq
  refine lv_aload_n hx hb dX12_rent_5 rfl (lv_at hl 0 rfl) ?_
  refine gF_X12_99 rfl hN cx hp dX12_rent_6 ?_
  refine lv_iload_n hx hb dX12_rent_9 rfl (lv_at hl 1 rfl) ?_
  obtain ⟨r1, hc, hf⟩ := fb hf
  refine x_i hp (y_V (As := [.int p1]) (rest := []) cx hp hl (c_X5_priceOf l (Nat.le_trans (by decide) hN) hT (by decide) rfl hc) (cw_X12_164 cx (mc := 0) (ms := 0) rfl rfl ⟨by decide, by decide⟩) (rC_X5 (by decide) (Nat.le_trans (by decide) hN) cx hp) rfl rfl (Nat.le_of_ble_eq_true rfl) dX12_rent_10 ⟨Nat.zero_le _, Nat.zero_le _⟩) (fun r_c u_c H locs hq hp => ?_)
  obtain ⟨rfl, rfl⟩ := hq
  cases hf
  exact r_i cx hp ⟨rfl, rfl⟩ dX12_rent_13
abbrev rm_X12_stallOf : Room := { frames := 2, cells := 0, slots := 0, locals := 42 }
set_option maxRecDepth 100000 in
set_option maxHeartbeats 4000000 in
theorem c_X12_stallOf (l : Launch) {E : Ev} (hN : 130 ≤ eN E) (hT : St E) {σ : SM} {p1 : Int32} {rv : Int32} (hf : f_X12_stallOf p1 σ = some rv) : Met l yX12_stallOf (wC yX12_stallOf cX12_stallOf 2 (some .int)) rm_X12_stallOf (va_Pc [.ref (adr E 19 0), .int p1] (Wu E σ)) (va_Qi (fun r u => rv = r ∧ σ = u) (fun u t => Wu E u t) (eA E)) 0 0 (eA E) := by
  refine g_entry (lv := [(0, .ref (adr E 19 0)), (1, .int p1)]) (by decide) (Nat.le_of_ble_eq_true rfl) rfl ?_
  intro p e s m below meth c cx hp ls hl
  have hx := cx.1.1
  have hb := cx.1.2.1
  unfold f_X12_stallOf at hf
  refine lv_aload_n hx hb dX12_stallOf_0 rfl (lv_at hl 0 rfl) ?_
  refine lv_iload_n hx hb dX12_stallOf_1 rfl (lv_at hl 1 rfl) ?_
  obtain ⟨_, hc, hf⟩ := fb hf
  refine x_v hp (y_V (As := [.int p1]) (rest := []) cx hp hl (c_X12_requireSeller l hN hT  hc) (cw_X12_151 cx (mc := 0) (ms := 0) rfl rfl ⟨by decide, by decide⟩) (rC_X12 hN cx hp) rfl rfl (Nat.le_of_ble_eq_true rfl) dX12_stallOf_2 ⟨Nat.zero_le _, Nat.zero_le _⟩) (fun u_c H locs hq hp => ?_)
  obtain rfl := hq
  refine lv_aload_n hx hb dX12_stallOf_5 rfl (lv_at hl 0 rfl) ?_
  refine gF_X12_99 rfl hN cx hp dX12_stallOf_6 ?_
  refine lv_iload_n hx hb dX12_stallOf_9 rfl (lv_at hl 1 rfl) ?_
  obtain ⟨r1, hc, hf⟩ := fb hf
  refine x_i hp (y_V (As := [.int p1]) (rest := []) cx hp hl (c_X5_heldBy l (Nat.le_trans (by decide) hN) hT (by decide) rfl hc) (cw_X12_167 cx (mc := 0) (ms := 0) rfl rfl ⟨by decide, by decide⟩) (rC_X5 (by decide) (Nat.le_trans (by decide) hN) cx hp) rfl rfl (Nat.le_of_ble_eq_true rfl) dX12_stallOf_10 ⟨Nat.zero_le _, Nat.zero_le _⟩) (fun r_c u_c H locs hq hp => ?_)
  obtain ⟨rfl, rfl⟩ := hq
  cases hf
  exact r_i cx hp ⟨rfl, rfl⟩ dX12_stallOf_13
abbrev rm_X12_occupantOf : Room := { frames := 1, cells := 0, slots := 0, locals := 22 }
set_option maxRecDepth 100000 in
set_option maxHeartbeats 4000000 in
theorem c_X12_occupantOf (l : Launch) {E : Ev} (hN : 130 ≤ eN E) (hT : St E) {σ : SM} {p1 : Int32} {rv : Int32} (hf : f_X12_occupantOf p1 σ = some rv) : Met l yX12_occupantOf (wC yX12_occupantOf cX12_occupantOf 2 (some .int)) rm_X12_occupantOf (va_Pc [.ref (adr E 19 0), .int p1] (Wu E σ)) (va_Qi (fun r u => rv = r ∧ σ = u) (fun u t => Wu E u t) (eA E)) 0 0 (eA E) := by
  refine g_entry (lv := [(0, .ref (adr E 19 0)), (1, .int p1)]) (by decide) (Nat.le_of_ble_eq_true rfl) rfl ?_
  intro p e s m below meth c cx hp ls hl
  have hx := cx.1.1
  have hb := cx.1.2.1
  unfold f_X12_occupantOf at hf
  refine lv_aload_n hx hb dX12_occupantOf_0 rfl (lv_at hl 0 rfl) ?_
  refine lv_iload_n hx hb dX12_occupantOf_1 rfl (lv_at hl 1 rfl) ?_
  obtain ⟨_, hc, hf⟩ := fb hf
  refine x_v hp (y_V (As := [.int p1]) (rest := []) cx hp hl (c_X12_requireStall l hN hT  hc) (cw_X12_161 cx (mc := 0) (ms := 0) rfl rfl ⟨by decide, by decide⟩) (rC_X12 hN cx hp) rfl rfl (Nat.le_of_ble_eq_true rfl) dX12_occupantOf_2 ⟨Nat.zero_le _, Nat.zero_le _⟩) (fun u_c H locs hq hp => ?_)
  obtain rfl := hq
  refine lv_aload_n hx hb dX12_occupantOf_5 rfl (lv_at hl 0 rfl) ?_
  refine gF_X12_99 rfl hN cx hp dX12_occupantOf_6 ?_
  refine lv_iload_n hx hb dX12_occupantOf_9 rfl (lv_at hl 1 rfl) ?_
  obtain ⟨r1, hc, hf⟩ := fb hf
  refine x_i hp (y_V (As := [.int p1]) (rest := []) cx hp hl (c_X5_holderOf l (Nat.le_trans (by decide) hN) hT (by decide) rfl hc) (cw_X12_170 cx (mc := 0) (ms := 0) rfl rfl ⟨by decide, by decide⟩) (rC_X5 (by decide) (Nat.le_trans (by decide) hN) cx hp) rfl rfl (Nat.le_of_ble_eq_true rfl) dX12_occupantOf_10 ⟨Nat.zero_le _, Nat.zero_le _⟩) (fun r_c u_c H locs hq hp => ?_)
  obtain ⟨rfl, rfl⟩ := hq
  cases hf
  exact r_i cx hp ⟨rfl, rfl⟩ dX12_occupantOf_13
abbrev rm_X12_priorityOf : Room := { frames := 2, cells := 0, slots := 0, locals := 42 }
set_option maxRecDepth 100000 in
set_option maxHeartbeats 4000000 in
theorem c_X12_priorityOf (l : Launch) {E : Ev} (hN : 130 ≤ eN E) (hT : St E) {σ : SM} {p1 : Int32} {rv : Int32} (hf : f_X12_priorityOf p1 σ = some rv) : Met l yX12_priorityOf (wC yX12_priorityOf cX12_priorityOf 2 (some .int)) rm_X12_priorityOf (va_Pc [.ref (adr E 19 0), .int p1] (Wu E σ)) (va_Qi (fun r u => rv = r ∧ σ = u) (fun u t => Wu E u t) (eA E)) 0 0 (eA E) := by
  refine g_entry (lv := [(0, .ref (adr E 19 0)), (1, .int p1)]) (by decide) (Nat.le_of_ble_eq_true rfl) rfl ?_
  intro p e s m below meth c cx hp ls hl
  have hx := cx.1.1
  have hb := cx.1.2.1
  unfold f_X12_priorityOf at hf
  refine lv_aload_n hx hb dX12_priorityOf_0 rfl (lv_at hl 0 rfl) ?_
  refine lv_iload_n hx hb dX12_priorityOf_1 rfl (lv_at hl 1 rfl) ?_
  obtain ⟨_, hc, hf⟩ := fb hf
  refine x_v hp (y_V (As := [.int p1]) (rest := []) cx hp hl (c_X12_requireSeller l hN hT  hc) (cw_X12_151 cx (mc := 0) (ms := 0) rfl rfl ⟨by decide, by decide⟩) (rC_X12 hN cx hp) rfl rfl (Nat.le_of_ble_eq_true rfl) dX12_priorityOf_2 ⟨Nat.zero_le _, Nat.zero_le _⟩) (fun u_c H locs hq hp => ?_)
  obtain rfl := hq
  refine lv_aload_n hx hb dX12_priorityOf_5 rfl (lv_at hl 0 rfl) ?_
  refine gF_X12_99 rfl hN cx hp dX12_priorityOf_6 ?_
  refine lv_iload_n hx hb dX12_priorityOf_9 rfl (lv_at hl 1 rfl) ?_
  obtain ⟨r1, hc, hf⟩ := fb hf
  refine x_i hp (y_V (As := [.int p1]) (rest := []) cx hp hl (c_X5_turnOf l (Nat.le_trans (by decide) hN) hT (by decide) rfl hc) (cw_X12_173 cx (mc := 0) (ms := 0) rfl rfl ⟨by decide, by decide⟩) (rC_X5 (by decide) (Nat.le_trans (by decide) hN) cx hp) rfl rfl (Nat.le_of_ble_eq_true rfl) dX12_priorityOf_10 ⟨Nat.zero_le _, Nat.zero_le _⟩) (fun r_c u_c H locs hq hp => ?_)
  obtain ⟨rfl, rfl⟩ := hq
  cases hf
  exact r_i cx hp ⟨rfl, rfl⟩ dX12_priorityOf_13
abbrev rm_X12_preferenceCount : Room := { frames := 2, cells := 0, slots := 0, locals := 42 }
set_option maxRecDepth 100000 in
set_option maxHeartbeats 4000000 in
theorem c_X12_preferenceCount (l : Launch) {E : Ev} (hN : 130 ≤ eN E) (hT : St E) {σ : SM} {p1 : Int32} {rv : Int32} (hf : f_X12_preferenceCount p1 σ = some rv) : Met l yX12_preferenceCount (wC yX12_preferenceCount cX12_preferenceCount 2 (some .int)) rm_X12_preferenceCount (va_Pc [.ref (adr E 19 0), .int p1] (Wu E σ)) (va_Qi (fun r u => rv = r ∧ σ = u) (fun u t => Wu E u t) (eA E)) 0 0 (eA E) := by
  refine g_entry (lv := [(0, .ref (adr E 19 0)), (1, .int p1)]) (by decide) (Nat.le_of_ble_eq_true rfl) rfl ?_
  intro p e s m below meth c cx hp ls hl
  have hx := cx.1.1
  have hb := cx.1.2.1
  unfold f_X12_preferenceCount at hf
  refine lv_aload_n hx hb dX12_preferenceCount_0 rfl (lv_at hl 0 rfl) ?_
  refine lv_iload_n hx hb dX12_preferenceCount_1 rfl (lv_at hl 1 rfl) ?_
  obtain ⟨_, hc, hf⟩ := fb hf
  refine x_v hp (y_V (As := [.int p1]) (rest := []) cx hp hl (c_X12_requireSeller l hN hT  hc) (cw_X12_151 cx (mc := 0) (ms := 0) rfl rfl ⟨by decide, by decide⟩) (rC_X12 hN cx hp) rfl rfl (Nat.le_of_ble_eq_true rfl) dX12_preferenceCount_2 ⟨Nat.zero_le _, Nat.zero_le _⟩) (fun u_c H locs hq hp => ?_)
  obtain rfl := hq
  refine lv_aload_n hx hb dX12_preferenceCount_5 rfl (lv_at hl 0 rfl) ?_
  refine gF_X12_99 rfl hN cx hp dX12_preferenceCount_6 ?_
  refine lv_iload_n hx hb dX12_preferenceCount_9 rfl (lv_at hl 1 rfl) ?_
  obtain ⟨r1, hc, hf⟩ := fb hf
  refine x_i hp (y_V (As := [.int p1]) (rest := []) cx hp hl (c_X5_wishesOf l (Nat.le_trans (by decide) hN) hT (by decide) rfl hc) (cw_X12_176 cx (mc := 0) (ms := 0) rfl rfl ⟨by decide, by decide⟩) (rC_X5 (by decide) (Nat.le_trans (by decide) hN) cx hp) rfl rfl (Nat.le_of_ble_eq_true rfl) dX12_preferenceCount_10 ⟨Nat.zero_le _, Nat.zero_le _⟩) (fun r_c u_c H locs hq hp => ?_)
  obtain ⟨rfl, rfl⟩ := hq
  cases hf
  exact r_i cx hp ⟨rfl, rfl⟩ dX12_preferenceCount_13
abbrev rm_X12_preferenceAt : Room := { frames := 2, cells := 0, slots := 0, locals := 43 }
set_option maxRecDepth 100000 in
set_option maxHeartbeats 4000000 in
theorem c_X12_preferenceAt (l : Launch) {E : Ev} (hN : 130 ≤ eN E) (hT : St E) {σ : SM} {p1 : Int32} {p2 : Int32} {rv : Int32} (hf : f_X12_preferenceAt p1 p2 σ = some rv) : Met l yX12_preferenceAt (wC yX12_preferenceAt cX12_preferenceAt 3 (some .int)) rm_X12_preferenceAt (va_Pc [.ref (adr E 19 0), .int p1, .int p2] (Wu E σ)) (va_Qi (fun r u => rv = r ∧ σ = u) (fun u t => Wu E u t) (eA E)) 0 0 (eA E) := by
  refine g_entry (lv := [(0, .ref (adr E 19 0)), (1, .int p1), (2, .int p2)]) (by decide) (Nat.le_of_ble_eq_true rfl) rfl ?_
  intro p e s m below meth c cx hp ls hl
  have hx := cx.1.1
  have hb := cx.1.2.1
  unfold f_X12_preferenceAt at hf
  refine lv_aload_n hx hb dX12_preferenceAt_0 rfl (lv_at hl 0 rfl) ?_
  refine lv_iload_n hx hb dX12_preferenceAt_1 rfl (lv_at hl 1 rfl) ?_
  obtain ⟨_, hc, hf⟩ := fb hf
  refine x_v hp (y_V (As := [.int p1]) (rest := []) cx hp hl (c_X12_requireSeller l hN hT  hc) (cw_X12_151 cx (mc := 0) (ms := 0) rfl rfl ⟨by decide, by decide⟩) (rC_X12 hN cx hp) rfl rfl (Nat.le_of_ble_eq_true rfl) dX12_preferenceAt_2 ⟨Nat.zero_le _, Nat.zero_le _⟩) (fun u_c H locs hq hp => ?_)
  obtain rfl := hq
  refine lv_iload_n hx hb dX12_preferenceAt_5 rfl (lv_at hl 2 rfl) ?_
  refine lv_if_lt (tgt := 21) hx hb dX12_preferenceAt_6 (by decide) (fun c1 => ?_) (fun c1 => ?_)
  · have hf := fp hf c1
    cases hf
  · have hf := fn hf c1
    refine lv_iload_n hx hb dX12_preferenceAt_9 rfl (lv_at hl 2 rfl) ?_
    refine lv_aload_n hx hb dX12_preferenceAt_10 rfl (lv_at hl 0 rfl) ?_
    refine gF_X12_99 rfl hN cx hp dX12_preferenceAt_11 ?_
    refine lv_iload_n hx hb dX12_preferenceAt_14 rfl (lv_at hl 1 rfl) ?_
    obtain ⟨r2, hc, hf⟩ := fb hf
    refine x_i hp (y_V (As := [.int p1]) (rest := [.int p2]) cx hp hl (c_X5_wishesOf l (Nat.le_trans (by decide) hN) hT (by decide) rfl hc) (cw_X12_176 cx (mc := 0) (ms := 0) rfl rfl ⟨by decide, by decide⟩) (rC_X5 (by decide) (Nat.le_trans (by decide) hN) cx hp) rfl rfl (Nat.le_of_ble_eq_true rfl) dX12_preferenceAt_15 ⟨Nat.zero_le _, Nat.zero_le _⟩) (fun r_c u_c H locs hq hp => ?_)
    obtain ⟨rfl, rfl⟩ := hq
    refine lv_icmp_lt (tgt := 31) hx hb dX12_preferenceAt_18 (by decide) (fun c3 => ?_) (fun c3 => ?_)
    · have hf := fp hf c3
      refine lv_aload_n hx hb dX12_preferenceAt_31 rfl (lv_at hl 0 rfl) ?_
      refine gF_X12_99 rfl hN cx hp dX12_preferenceAt_32 ?_
      refine lv_iload_n hx hb dX12_preferenceAt_35 rfl (lv_at hl 1 rfl) ?_
      refine lv_iload_n hx hb dX12_preferenceAt_36 rfl (lv_at hl 2 rfl) ?_
      obtain ⟨r4, hc, hf⟩ := fb hf
      refine x_i hp (y_V (As := [.int p1, .int p2]) (rest := []) cx hp hl (c_X5_wish l (Nat.le_trans (by decide) hN) hT (by decide) rfl hc) (cw_X12_184 cx (mc := 0) (ms := 0) rfl rfl ⟨by decide, by decide⟩) (rC_X5 (by decide) (Nat.le_trans (by decide) hN) cx hp) rfl rfl (Nat.le_of_ble_eq_true rfl) dX12_preferenceAt_37 ⟨Nat.zero_le _, Nat.zero_le _⟩) (fun r_c u_c H locs hq hp => ?_)
      obtain ⟨rfl, rfl⟩ := hq
      cases hf
      exact r_i cx hp ⟨rfl, rfl⟩ dX12_preferenceAt_40
    · have hf := fn hf c3
      cases hf
abbrev rm_X12_isEfficient : Room := { frames := 7, cells := 0, slots := 0, locals := 161 }
set_option maxRecDepth 100000 in
set_option maxHeartbeats 4000000 in
theorem c_X12_isEfficient (l : Launch) {E : Ev} (hN : 130 ≤ eN E) (hT : St E) {σ : SM}  {rv : Int32} (hf : f_X12_isEfficient σ = some rv) : Met l yX12_isEfficient (wC yX12_isEfficient cX12_isEfficient 1 (some .boolean)) rm_X12_isEfficient (va_Pc [.ref (adr E 19 0)] (Wu E σ)) (va_Qi (fun r u => rv = r ∧ σ = u) (fun u t => Wu E u t) (eA E)) 0 0 (eA E) := by
  refine g_entry (lv := [(0, .ref (adr E 19 0))]) (by decide) (Nat.le_of_ble_eq_true rfl) rfl ?_
  intro p e s m below meth c cx hp ls hl
  have hx := cx.1.1
  have hb := cx.1.2.1
  unfold f_X12_isEfficient at hf
  refine lv_aload_n hx hb dX12_isEfficient_0 rfl (lv_at hl 0 rfl) ?_
  refine gF_X12_99 rfl hN cx hp dX12_isEfficient_1 ?_
  obtain ⟨r1, hc, hf⟩ := fb hf
  refine x_i hp (y_S (As := [.ref (adr E 0 0)]) (rest := []) cx hp hl (c_X3_canImprove l (Nat.le_trans (by decide) hN) hT (by decide) rfl hc) (cw_X12_246 cx (mc := 0) (ms := 0) rfl rfl ⟨by decide, by decide⟩) rfl rfl (Nat.le_of_ble_eq_true rfl) dX12_isEfficient_4 ⟨Nat.zero_le _, Nat.zero_le _⟩) (fun r_c u_c H locs hq hp => ?_)
  obtain ⟨rfl, rfl⟩ := hq
  refine lv_if_ne (tgt := 14) hx hb dX12_isEfficient_7 (by decide) (fun c2 => ?_) (fun c2 => ?_)
  · have hf := fn hf c2
    refine lv_iconst (v := 0) hx hb dX12_isEfficient_14 (by decide) ?_
    cases hf
    exact r_z cx hp rfl ⟨rfl, rfl⟩ dX12_isEfficient_15
  · have hf := fp hf c2
    refine lv_iconst (v := 1) hx hb dX12_isEfficient_10 (by decide) ?_
    refine lv_goto (tgt := 15) hx hb dX12_isEfficient_11 (by decide) ?_
    cases hf
    exact r_z cx hp rfl ⟨rfl, rfl⟩ dX12_isEfficient_15
abbrev rm_X12_allocatedStall : Room := { frames := 5, cells := 0, slots := 0, locals := 114 }
set_option maxRecDepth 100000 in
set_option maxHeartbeats 4000000 in
theorem c_X12_allocatedStall (l : Launch) {E : Ev} (hN : 130 ≤ eN E) (hT : St E) {σ : SM} {p1 : Int32} {rv : Int32} {σ' : SM} (hf : f_X12_allocatedStall p1 σ = some (rv, σ')) : Met l yX12_allocatedStall (wC yX12_allocatedStall cX12_allocatedStall 2 (some .int)) rm_X12_allocatedStall (va_Pc [.ref (adr E 19 0), .int p1] (Wu E σ)) (va_Qi (fun r u => rv = r ∧ σ' = u) (fun u t => Wu E u t) (eA E)) 0 0 (eA E) := by
  refine g_entry (lv := [(0, .ref (adr E 19 0)), (1, .int p1)]) (by decide) (Nat.le_of_ble_eq_true rfl) rfl ?_
  intro p e s m below meth c cx hp ls hl
  have hx := cx.1.1
  have hb := cx.1.2.1
  unfold f_X12_allocatedStall at hf
  refine lv_aload_n hx hb dX12_allocatedStall_0 rfl (lv_at hl 0 rfl) ?_
  refine lv_iload_n hx hb dX12_allocatedStall_1 rfl (lv_at hl 1 rfl) ?_
  obtain ⟨_, hc, hf⟩ := fb hf
  refine x_v hp (y_V (As := [.int p1]) (rest := []) cx hp hl (c_X12_requireSeller l hN hT  hc) (cw_X12_151 cx (mc := 0) (ms := 0) rfl rfl ⟨by decide, by decide⟩) (rC_X12 hN cx hp) rfl rfl (Nat.le_of_ble_eq_true rfl) dX12_allocatedStall_2 ⟨Nat.zero_le _, Nat.zero_le _⟩) (fun u_c H locs hq hp => ?_)
  obtain rfl := hq
  refine lv_aload_n hx hb dX12_allocatedStall_5 rfl (lv_at hl 0 rfl) ?_
  refine gF_X12_47 rfl hN cx hp dX12_allocatedStall_6 ?_
  refine lv_aload_n hx hb dX12_allocatedStall_9 rfl (lv_at hl 0 rfl) ?_
  refine gF_X12_99 rfl hN cx hp dX12_allocatedStall_10 ?_
  obtain ⟨m1, hc, hf⟩ := fb hf
  refine x_v hp (y_V (As := [.ref (adr E 0 0)]) (rest := []) cx hp hl (c_X1_decide l (Nat.le_trans (by decide) hN) hT (by decide) rfl rfl hc) (cw_X12_250 cx (mc := 0) (ms := 0) rfl rfl ⟨by decide, by decide⟩) (rC_X1 (Nat.le_trans (by decide) hN) cx hp) rfl rfl (Nat.le_of_ble_eq_true rfl) dX12_allocatedStall_13 ⟨Nat.zero_le _, Nat.zero_le _⟩) (fun u_c H locs hq hp => ?_)
  obtain ⟨e_0, n_u⟩ := hq
  obtain ⟨σ2, e_l, hf⟩ := fl hf
  obtain rfl := ((us_x e_0 n_u).trans e_l).symm
  refine lv_aload_n hx hb dX12_allocatedStall_16 rfl (lv_at hl 0 rfl) ?_
  refine gF_X12_47 rfl hN cx hp dX12_allocatedStall_17 ?_
  refine lv_iload_n hx hb dX12_allocatedStall_20 rfl (lv_at hl 1 rfl) ?_
  obtain ⟨r3, hc, hf⟩ := fb hf
  refine x_i hp (y_V (As := [.int p1]) (rest := []) cx hp hl (c_X1_givenTo l (Nat.le_trans (by decide) hN) hT rfl hc) (cw_X12_253 cx (mc := 0) (ms := 0) rfl rfl ⟨by decide, by decide⟩) (rC_X1 (Nat.le_trans (by decide) hN) cx hp) rfl rfl (Nat.le_of_ble_eq_true rfl) dX12_allocatedStall_21 ⟨Nat.zero_le _, Nat.zero_le _⟩) (fun r_c u_c H locs hq hp => ?_)
  obtain ⟨rfl, rfl⟩ := hq
  cases hf
  exact r_i cx hp ⟨rfl, rfl⟩ dX12_allocatedStall_24
abbrev rm_X12_ledgerDifference : Room := { frames := 2, cells := 0, slots := 0, locals := 42 }
set_option maxRecDepth 100000 in
set_option maxHeartbeats 4000000 in
theorem L_X12_ledgerDifference_4 {p : Program} {e : Env} {s : State} {m : MethodId} {args : Array Value} {below : List Frame} {meth : Method} {c : Code} (l : Launch) {E : Ev} (hN : 130 ≤ eN E) (hT : St E) {σ : SM} {Q : State → Prop} (cx : Cx E p s m meth c args RX12 cX12_ledgerDifference 3 (some .int)) {z1 : Int32} (K : ∀ (H : Heap) (locs : List Loc) (ls : Array Slot), Hp E σ s H locs → lv_has ls 3 [(0, .ref (adr E 19 0)), (1, .int z1)] → W p l e rm_X12_ledgerDifference s m args below meth c H locs 0 0 Q (F0 m 32 ls [])) : ∀ (n : Nat) {x2 : Int32} {x1 : Int32}, f_X12_ledgerDifference_4 σ n x2 x1 = some z1 → ∀ {H : Heap} {locs : List Loc} {ls : Array Slot}, Hp E σ s H locs → lv_has ls 3 [(0, .ref (adr E 19 0)), (1, .int x1), (2, .int x2)] → W p l e rm_X12_ledgerDifference s m args below meth c H locs 0 0 Q (F0 m 4 ls []) := by
  have hx := cx.1.1
  have hb := cx.1.2.1
  intro n
  induction n with
  | zero =>
    intro x2 x1 hf
    exact absurd hf (by simp [f_X12_ledgerDifference_4])
  | succ n ih =>
    intro x2 x1 hf H locs ls hp hl
    rw [f_X12_ledgerDifference_4] at hf
    refine lv_iload_n hx hb dX12_ledgerDifference_4 rfl (lv_at hl 2 rfl) ?_
    refine lv_aload_n hx hb dX12_ledgerDifference_5 rfl (lv_at hl 0 rfl) ?_
    refine gF_X12_99 rfl hN cx hp dX12_ledgerDifference_6 ?_
    refine gF_X12_127 (by decide) rfl (Nat.le_trans (by decide) hN) cx hp dX12_ledgerDifference_9 ?_
    refine lv_icmp_ge (tgt := 32) hx hb dX12_ledgerDifference_12 (by decide) (fun c1 => ?_) (fun c1 => ?_)
    · have hf := fp hf c1
      cases hf
      exact K _ _ _  hp (lv_sub hl [0, 1] rfl)
    · have hf := fn hf c1
      refine lv_iload_n hx hb dX12_ledgerDifference_15 rfl (lv_at hl 1 rfl) ?_
      refine lv_aload_n hx hb dX12_ledgerDifference_16 rfl (lv_at hl 0 rfl) ?_
      refine gF_X12_99 rfl hN cx hp dX12_ledgerDifference_17 ?_
      refine lv_iload_n hx hb dX12_ledgerDifference_20 rfl (lv_at hl 2 rfl) ?_
      obtain ⟨r2, hc, hf⟩ := fb hf
      refine x_i hp (y_V (As := [.int x2]) (rest := [.int x1]) cx hp hl (c_X5_coinsOf l (Nat.le_trans (by decide) hN) hT (by decide) rfl hc) (cw_X12_154 cx (mc := 0) (ms := 0) rfl rfl ⟨by decide, by decide⟩) (rC_X5 (by decide) (Nat.le_trans (by decide) hN) cx hp) rfl rfl (Nat.le_of_ble_eq_true rfl) dX12_ledgerDifference_21 ⟨Nat.zero_le _, Nat.zero_le _⟩) (fun r_c u_c H locs hq hp => ?_)
      obtain ⟨rfl, rfl⟩ := hq
      refine lv_iadd hx hb dX12_ledgerDifference_24 ?_
      obtain ⟨i3, x_e, hf⟩ := fl hf
      refine lv_nm x_e ?_
      refine lv_istore_n (lv' := [(1, .int i3), (0, .ref (adr E 19 0)), (2, .int x2)]) hx hb dX12_ledgerDifference_25 rfl hl (by decide) rfl (fun ls hl => ?_)
      refine lv_iinc (v := (x2 + 1)) (lv' := [(2, .int (x2 + 1)), (1, .int i3), (0, .ref (adr E 19 0))]) hx hb dX12_ledgerDifference_26 hl (k := 2) rfl rfl (by decide) rfl (fun ls hl => ?_)
      refine lv_goto (tgt := 4) hx hb dX12_ledgerDifference_29 (by decide) ?_
      exact ih  hf hp (lv_sub hl [2, 1, 0] rfl)
set_option maxRecDepth 100000 in
set_option maxHeartbeats 4000000 in
theorem c_X12_ledgerDifference (l : Launch) {E : Ev} (hN : 130 ≤ eN E) (hT : St E) {σ : SM}  {rv : Int32} (hf : f_X12_ledgerDifference σ = some rv) : Met l yX12_ledgerDifference (wC yX12_ledgerDifference cX12_ledgerDifference 3 (some .int)) rm_X12_ledgerDifference (va_Pc [.ref (adr E 19 0)] (Wu E σ)) (va_Qi (fun r u => rv = r ∧ σ = u) (fun u t => Wu E u t) (eA E)) 0 0 (eA E) := by
  refine g_entry (lv := [(0, .ref (adr E 19 0))]) (by decide) (Nat.le_of_ble_eq_true rfl) rfl ?_
  intro p e s m below meth c cx hp ls hl
  have hx := cx.1.1
  have hb := cx.1.2.1
  unfold f_X12_ledgerDifference at hf
  refine lv_iconst (v := 0) hx hb dX12_ledgerDifference_0 (by decide) ?_
  refine lv_istore_n (lv' := [(1, .int 0), (0, .ref (adr E 19 0))]) hx hb dX12_ledgerDifference_1 rfl hl (by decide) rfl (fun ls hl => ?_)
  refine lv_iconst (v := 0) hx hb dX12_ledgerDifference_2 (by decide) ?_
  refine lv_istore_n (lv' := [(2, .int 0), (1, .int 0), (0, .ref (adr E 19 0))]) hx hb dX12_ledgerDifference_3 rfl hl (by decide) rfl (fun ls hl => ?_)
  obtain ⟨i4, hc, hf⟩ := fb hf
  refine L_X12_ledgerDifference_4 l hN hT cx  (fun H locs ls hp hl => ?_) _ hc hp (lv_sub hl [2, 1, 0] rfl)
  refine lv_iload_n hx hb dX12_ledgerDifference_32 rfl (lv_at hl 1 rfl) ?_
  refine lv_aload_n hx hb dX12_ledgerDifference_33 rfl (lv_at hl 0 rfl) ?_
  refine gF_X12_99 rfl hN cx hp dX12_ledgerDifference_34 ?_
  refine gF_X12_286 (by decide) rfl (Nat.le_trans (by decide) hN) cx hp dX12_ledgerDifference_37 ?_
  refine lv_isub hx hb dX12_ledgerDifference_40 ?_
  refine lv_aload_n hx hb dX12_ledgerDifference_41 rfl (lv_at hl 0 rfl) ?_
  refine gF_X12_99 rfl hN cx hp dX12_ledgerDifference_42 ?_
  refine gF_X12_289 (by decide) rfl (Nat.le_trans (by decide) hN) cx hp dX12_ledgerDifference_45 ?_
  refine lv_isub hx hb dX12_ledgerDifference_48 ?_
  refine lv_aload_n hx hb dX12_ledgerDifference_49 rfl (lv_at hl 0 rfl) ?_
  refine gF_X12_99 rfl hN cx hp dX12_ledgerDifference_50 ?_
  refine gF_X12_274 (by decide) rfl (Nat.le_trans (by decide) hN) cx hp dX12_ledgerDifference_53 ?_
  refine lv_iadd hx hb dX12_ledgerDifference_56 ?_
  cases hf
  exact r_i cx hp ⟨rfl, rfl⟩ dX12_ledgerDifference_57
abbrev rm_X12_assign : Room := { frames := 3, cells := 0, slots := 0, locals := 64 }
set_option maxRecDepth 100000 in
set_option maxHeartbeats 4000000 in
theorem c_X12_assign (l : Launch) {E : Ev} (hN : 130 ≤ eN E) (hT : St E) {σ : SM} {p1 : Int32} {p2 : Int32} {rv : Int32} {σ' : SM} (hf : f_X12_assign p1 p2 σ = some (rv, σ')) : Met l yX12_assign (wC yX12_assign cX12_assign 4 (some .int)) rm_X12_assign (va_Pc [.ref (adr E 19 0), .int p1, .int p2] (Wu E σ)) (va_Qi (fun r u => rv = r ∧ σ' = u) (fun u t => Wu E u t) (eA E)) 0 0 (eA E) := by
  refine g_entry (lv := [(0, .ref (adr E 19 0)), (1, .int p1), (2, .int p2)]) (by decide) (Nat.le_of_ble_eq_true rfl) rfl ?_
  intro p e s m below meth c cx hp ls hl
  have hx := cx.1.1
  have hb := cx.1.2.1
  unfold f_X12_assign at hf
  refine lv_aload_n hx hb dX12_assign_0 rfl (lv_at hl 0 rfl) ?_
  refine lv_iload_n hx hb dX12_assign_1 rfl (lv_at hl 1 rfl) ?_
  obtain ⟨_, hc, hf⟩ := fb hf
  refine x_v hp (y_V (As := [.int p1]) (rest := []) cx hp hl (c_X12_requireSeller l hN hT  hc) (cw_X12_151 cx (mc := 0) (ms := 0) rfl rfl ⟨by decide, by decide⟩) (rC_X12 hN cx hp) rfl rfl (Nat.le_of_ble_eq_true rfl) dX12_assign_2 ⟨Nat.zero_le _, Nat.zero_le _⟩) (fun u_c H locs hq hp => ?_)
  obtain rfl := hq
  refine lv_aload_n hx hb dX12_assign_5 rfl (lv_at hl 0 rfl) ?_
  refine lv_iload_n hx hb dX12_assign_6 rfl (lv_at hl 2 rfl) ?_
  obtain ⟨_, hc, hf⟩ := fb hf
  refine x_v hp (y_V (As := [.int p2]) (rest := []) cx hp hl (c_X12_requireStall l hN hT  hc) (cw_X12_161 cx (mc := 0) (ms := 0) rfl rfl ⟨by decide, by decide⟩) (rC_X12 hN cx hp) rfl rfl (Nat.le_of_ble_eq_true rfl) dX12_assign_7 ⟨Nat.zero_le _, Nat.zero_le _⟩) (fun u_c H locs hq hp => ?_)
  obtain rfl := hq
  refine lv_aload_n hx hb dX12_assign_10 rfl (lv_at hl 0 rfl) ?_
  refine gF_X12_99 rfl hN cx hp dX12_assign_11 ?_
  refine lv_iload_n hx hb dX12_assign_14 rfl (lv_at hl 1 rfl) ?_
  refine lv_iload_n hx hb dX12_assign_15 rfl (lv_at hl 2 rfl) ?_
  obtain ⟨r1, hc, hf⟩ := fb hf
  refine x_i hp (y_V (As := [.int p1, .int p2]) (rest := []) cx hp hl (c_X5_mayMoveInto l (Nat.le_trans (by decide) hN) hT (by decide) rfl hc) (cw_X12_292 cx (mc := 0) (ms := 0) rfl rfl ⟨by decide, by decide⟩) (rC_X5 (by decide) (Nat.le_trans (by decide) hN) cx hp) rfl rfl (Nat.le_of_ble_eq_true rfl) dX12_assign_16 ⟨Nat.zero_le _, Nat.zero_le _⟩) (fun r_c u_c H locs hq hp => ?_)
  obtain ⟨rfl, rfl⟩ := hq
  refine lv_if_ne (tgt := 33) hx hb dX12_assign_19 (by decide) (fun c2 => ?_) (fun c2 => ?_)
  · have hf := fn hf c2
    refine lv_aload_n hx hb dX12_assign_33 rfl (lv_at hl 0 rfl) ?_
    refine gF_X12_40 rfl hN cx hp dX12_assign_34 ?_
    refine lv_aload_n hx hb dX12_assign_37 rfl (lv_at hl 0 rfl) ?_
    refine gF_X12_99 rfl hN cx hp dX12_assign_38 ?_
    obtain ⟨σ3, hc, hf⟩ := fb hf
    refine x_v hp (y_V (As := [.ref (adr E 0 0)]) (rest := []) cx hp hl (c_X4_record l (Nat.le_trans (by decide) hN) hT  hc) (cw_X12_131 cx (mc := 0) (ms := 0) rfl rfl ⟨by decide, by decide⟩) (rC_X4 (Nat.le_trans (by decide) hN) cx hp) rfl rfl (Nat.le_of_ble_eq_true rfl) dX12_assign_41 ⟨Nat.zero_le _, Nat.zero_le _⟩) (fun u_c H locs hq hp => ?_)
    obtain rfl := hq
    refine lv_aload_n hx hb dX12_assign_44 rfl (lv_at hl 0 rfl) ?_
    refine gF_X12_99 rfl hN cx hp dX12_assign_45 ?_
    refine lv_iload_n hx hb dX12_assign_48 rfl (lv_at hl 1 rfl) ?_
    obtain ⟨r4, hc, hf⟩ := fb hf
    refine x_i hp (y_V (As := [.int p1]) (rest := []) cx hp hl (c_X5_heldBy l (Nat.le_trans (by decide) hN) hT (by decide) rfl hc) (cw_X12_167 cx (mc := 0) (ms := 0) rfl rfl ⟨by decide, by decide⟩) (rC_X5 (by decide) (Nat.le_trans (by decide) hN) cx hp) rfl rfl (Nat.le_of_ble_eq_true rfl) dX12_assign_49 ⟨Nat.zero_le _, Nat.zero_le _⟩) (fun r_c u_c H locs hq hp => ?_)
    obtain ⟨rfl, rfl⟩ := hq
    refine lv_istore_n (lv' := [(3, .int r4), (0, .ref (adr E 19 0)), (1, .int p1), (2, .int p2)]) hx hb dX12_assign_52 rfl hl (by decide) rfl (fun ls hl => ?_)
    refine lv_aload_n hx hb dX12_assign_53 rfl (lv_at hl 1 rfl) ?_
    refine gF_X12_99 rfl hN cx hp dX12_assign_54 ?_
    refine lv_iload_n hx hb dX12_assign_57 rfl (lv_at hl 2 rfl) ?_
    refine lv_iload_n hx hb dX12_assign_58 rfl (lv_at hl 3 rfl) ?_
    obtain ⟨m5, hc, hf⟩ := fb hf
    refine x_v hp (y_V (As := [.int p1, .int p2]) (rest := []) cx hp hl (c_X5_seat l (Nat.le_trans (by decide) hN) hT (by decide) rfl hc) (cw_X12_298 cx (mc := 0) (ms := 0) rfl rfl ⟨by decide, by decide⟩) (rC_X5 (by decide) (Nat.le_trans (by decide) hN) cx hp) rfl rfl (Nat.le_of_ble_eq_true rfl) dX12_assign_59 ⟨Nat.zero_le _, Nat.zero_le _⟩) (fun u_c H locs hq hp => ?_)
    obtain ⟨e_0, n_u⟩ := hq
    obtain ⟨σ6, e_l, hf⟩ := fl hf
    obtain rfl := ((us_x e_0 n_u).trans e_l).symm
    refine lv_iload_n hx hb dX12_assign_62 rfl (lv_at hl 0 rfl) ?_
    cases hf
    exact r_i cx hp ⟨rfl, rfl⟩ dX12_assign_63
  · have hf := fp hf c2
    cases hf
abbrev rm_X12_vacate : Room := { frames := 2, cells := 0, slots := 0, locals := 43 }
set_option maxRecDepth 100000 in
set_option maxHeartbeats 4000000 in
theorem c_X12_vacate (l : Launch) {E : Ev} (hN : 130 ≤ eN E) (hT : St E) {σ : SM} {p1 : Int32} {rv : Int32} {σ' : SM} (hf : f_X12_vacate p1 σ = some (rv, σ')) : Met l yX12_vacate (wC yX12_vacate cX12_vacate 3 (some .int)) rm_X12_vacate (va_Pc [.ref (adr E 19 0), .int p1] (Wu E σ)) (va_Qi (fun r u => rv = r ∧ σ' = u) (fun u t => Wu E u t) (eA E)) 0 0 (eA E) := by
  refine g_entry (lv := [(0, .ref (adr E 19 0)), (1, .int p1)]) (by decide) (Nat.le_of_ble_eq_true rfl) rfl ?_
  intro p e s m below meth c cx hp ls hl
  have hx := cx.1.1
  have hb := cx.1.2.1
  unfold f_X12_vacate at hf
  refine lv_aload_n hx hb dX12_vacate_0 rfl (lv_at hl 0 rfl) ?_
  refine lv_iload_n hx hb dX12_vacate_1 rfl (lv_at hl 1 rfl) ?_
  obtain ⟨_, hc, hf⟩ := fb hf
  refine x_v hp (y_V (As := [.int p1]) (rest := []) cx hp hl (c_X12_requireSeller l hN hT  hc) (cw_X12_151 cx (mc := 0) (ms := 0) rfl rfl ⟨by decide, by decide⟩) (rC_X12 hN cx hp) rfl rfl (Nat.le_of_ble_eq_true rfl) dX12_vacate_2 ⟨Nat.zero_le _, Nat.zero_le _⟩) (fun u_c H locs hq hp => ?_)
  obtain rfl := hq
  refine lv_aload_n hx hb dX12_vacate_5 rfl (lv_at hl 0 rfl) ?_
  refine gF_X12_99 rfl hN cx hp dX12_vacate_6 ?_
  refine lv_iload_n hx hb dX12_vacate_9 rfl (lv_at hl 1 rfl) ?_
  obtain ⟨r1, hc, hf⟩ := fb hf
  refine x_i hp (y_V (As := [.int p1]) (rest := []) cx hp hl (c_X5_heldBy l (Nat.le_trans (by decide) hN) hT (by decide) rfl hc) (cw_X12_167 cx (mc := 0) (ms := 0) rfl rfl ⟨by decide, by decide⟩) (rC_X5 (by decide) (Nat.le_trans (by decide) hN) cx hp) rfl rfl (Nat.le_of_ble_eq_true rfl) dX12_vacate_10 ⟨Nat.zero_le _, Nat.zero_le _⟩) (fun r_c u_c H locs hq hp => ?_)
  obtain ⟨rfl, rfl⟩ := hq
  refine lv_istore_n (lv' := [(2, .int r1), (0, .ref (adr E 19 0)), (1, .int p1)]) hx hb dX12_vacate_13 rfl hl (by decide) rfl (fun ls hl => ?_)
  refine lv_iload_n hx hb dX12_vacate_14 rfl (lv_at hl 0 rfl) ?_
  refine lv_iconst (v := (-1)) hx hb dX12_vacate_15 (by decide) ?_
  refine lv_icmp_ne (tgt := 30) hx hb dX12_vacate_16 (by decide) (fun c2 => ?_) (fun c2 => ?_)
  · have hf := fn hf c2
    refine lv_aload_n hx hb dX12_vacate_30 rfl (lv_at hl 1 rfl) ?_
    refine gF_X12_40 rfl hN cx hp dX12_vacate_31 ?_
    refine lv_aload_n hx hb dX12_vacate_34 rfl (lv_at hl 1 rfl) ?_
    refine gF_X12_99 rfl hN cx hp dX12_vacate_35 ?_
    obtain ⟨σ3, hc, hf⟩ := fb hf
    refine x_v hp (y_V (As := [.ref (adr E 0 0)]) (rest := []) cx hp hl (c_X4_record l (Nat.le_trans (by decide) hN) hT  hc) (cw_X12_131 cx (mc := 0) (ms := 0) rfl rfl ⟨by decide, by decide⟩) (rC_X4 (Nat.le_trans (by decide) hN) cx hp) rfl rfl (Nat.le_of_ble_eq_true rfl) dX12_vacate_38 ⟨Nat.zero_le _, Nat.zero_le _⟩) (fun u_c H locs hq hp => ?_)
    obtain rfl := hq
    refine lv_aload_n hx hb dX12_vacate_41 rfl (lv_at hl 1 rfl) ?_
    refine gF_X12_99 rfl hN cx hp dX12_vacate_42 ?_
    refine lv_iload_n hx hb dX12_vacate_45 rfl (lv_at hl 2 rfl) ?_
    refine lv_iconst (v := (-1)) hx hb dX12_vacate_46 (by decide) ?_
    obtain ⟨m4, hc, hf⟩ := fb hf
    refine x_v hp (y_V (As := [.int p1, .int (-1)]) (rest := []) cx hp hl (c_X5_seat l (Nat.le_trans (by decide) hN) hT (by decide) rfl hc) (cw_X12_298 cx (mc := 0) (ms := 0) rfl rfl ⟨by decide, by decide⟩) (rC_X5 (by decide) (Nat.le_trans (by decide) hN) cx hp) rfl rfl (Nat.le_of_ble_eq_true rfl) dX12_vacate_47 ⟨Nat.zero_le _, Nat.zero_le _⟩) (fun u_c H locs hq hp => ?_)
    obtain ⟨e_0, n_u⟩ := hq
    obtain ⟨σ5, e_l, hf⟩ := fl hf
    obtain rfl := ((us_x e_0 n_u).trans e_l).symm
    refine lv_iload_n hx hb dX12_vacate_50 rfl (lv_at hl 0 rfl) ?_
    cases hf
    exact r_i cx hp ⟨rfl, rfl⟩ dX12_vacate_51
  · have hf := fp hf c2
    cases hf
abbrev rm_X12_swap : Room := { frames := 5, cells := 0, slots := 0, locals := 114 }
set_option maxRecDepth 100000 in
set_option maxHeartbeats 4000000 in
theorem c_X12_swap (l : Launch) {E : Ev} (hN : 130 ≤ eN E) (hT : St E) {σ : SM} {p1 : Int32} {p2 : Int32} {rv : Int32} {σ' : SM} (hf : f_X12_swap p1 p2 σ = some (rv, σ')) : Met l yX12_swap (wC yX12_swap cX12_swap 3 (some .int)) rm_X12_swap (va_Pc [.ref (adr E 19 0), .int p1, .int p2] (Wu E σ)) (va_Qi (fun r u => rv = r ∧ σ' = u) (fun u t => Wu E u t) (eA E)) 0 0 (eA E) := by
  refine g_entry (lv := [(0, .ref (adr E 19 0)), (1, .int p1), (2, .int p2)]) (by decide) (Nat.le_of_ble_eq_true rfl) rfl ?_
  intro p e s m below meth c cx hp ls hl
  have hx := cx.1.1
  have hb := cx.1.2.1
  unfold f_X12_swap at hf
  refine lv_aload_n hx hb dX12_swap_0 rfl (lv_at hl 0 rfl) ?_
  refine lv_iload_n hx hb dX12_swap_1 rfl (lv_at hl 1 rfl) ?_
  obtain ⟨_, hc, hf⟩ := fb hf
  refine x_v hp (y_V (As := [.int p1]) (rest := []) cx hp hl (c_X12_requireSeller l hN hT  hc) (cw_X12_151 cx (mc := 0) (ms := 0) rfl rfl ⟨by decide, by decide⟩) (rC_X12 hN cx hp) rfl rfl (Nat.le_of_ble_eq_true rfl) dX12_swap_2 ⟨Nat.zero_le _, Nat.zero_le _⟩) (fun u_c H locs hq hp => ?_)
  obtain rfl := hq
  refine lv_aload_n hx hb dX12_swap_5 rfl (lv_at hl 0 rfl) ?_
  refine lv_iload_n hx hb dX12_swap_6 rfl (lv_at hl 2 rfl) ?_
  obtain ⟨_, hc, hf⟩ := fb hf
  refine x_v hp (y_V (As := [.int p2]) (rest := []) cx hp hl (c_X12_requireSeller l hN hT  hc) (cw_X12_151 cx (mc := 0) (ms := 0) rfl rfl ⟨by decide, by decide⟩) (rC_X12 hN cx hp) rfl rfl (Nat.le_of_ble_eq_true rfl) dX12_swap_7 ⟨Nat.zero_le _, Nat.zero_le _⟩) (fun u_c H locs hq hp => ?_)
  obtain rfl := hq
  refine lv_aload_n hx hb dX12_swap_10 rfl (lv_at hl 0 rfl) ?_
  refine gF_X12_99 rfl hN cx hp dX12_swap_11 ?_
  refine lv_iload_n hx hb dX12_swap_14 rfl (lv_at hl 1 rfl) ?_
  refine lv_iload_n hx hb dX12_swap_15 rfl (lv_at hl 2 rfl) ?_
  obtain ⟨r1, hc, hf⟩ := fb hf
  refine x_i hp (y_S (As := [.ref (adr E 0 0), .int p1, .int p2]) (rest := []) cx hp hl (c_X3_bothGain l (Nat.le_trans (by decide) hN) hT (by decide) rfl hc) (cw_X12_232 cx (mc := 0) (ms := 0) rfl rfl ⟨by decide, by decide⟩) rfl rfl (Nat.le_of_ble_eq_true rfl) dX12_swap_16 ⟨Nat.zero_le _, Nat.zero_le _⟩) (fun r_c u_c H locs hq hp => ?_)
  obtain ⟨rfl, rfl⟩ := hq
  refine lv_if_ne (tgt := 33) hx hb dX12_swap_19 (by decide) (fun c2 => ?_) (fun c2 => ?_)
  · have hf := fn hf c2
    refine lv_aload_n hx hb dX12_swap_33 rfl (lv_at hl 0 rfl) ?_
    refine gF_X12_40 rfl hN cx hp dX12_swap_34 ?_
    refine lv_aload_n hx hb dX12_swap_37 rfl (lv_at hl 0 rfl) ?_
    refine gF_X12_99 rfl hN cx hp dX12_swap_38 ?_
    obtain ⟨σ3, hc, hf⟩ := fb hf
    refine x_v hp (y_V (As := [.ref (adr E 0 0)]) (rest := []) cx hp hl (c_X4_record l (Nat.le_trans (by decide) hN) hT  hc) (cw_X12_131 cx (mc := 0) (ms := 0) rfl rfl ⟨by decide, by decide⟩) (rC_X4 (Nat.le_trans (by decide) hN) cx hp) rfl rfl (Nat.le_of_ble_eq_true rfl) dX12_swap_41 ⟨Nat.zero_le _, Nat.zero_le _⟩) (fun u_c H locs hq hp => ?_)
    obtain rfl := hq
    refine lv_aload_n hx hb dX12_swap_44 rfl (lv_at hl 0 rfl) ?_
    refine gF_X12_99 rfl hN cx hp dX12_swap_45 ?_
    refine lv_iload_n hx hb dX12_swap_48 rfl (lv_at hl 1 rfl) ?_
    refine lv_iload_n hx hb dX12_swap_49 rfl (lv_at hl 2 rfl) ?_
    obtain ⟨m4, hc, hf⟩ := fb hf
    refine x_v hp (y_V (As := [.int p1, .int p2]) (rest := []) cx hp hl (c_X5_exchange l (Nat.le_trans (by decide) hN) hT (by decide) rfl hc) (cw_X12_305 cx (mc := 0) (ms := 0) rfl rfl ⟨by decide, by decide⟩) (rC_X5 (by decide) (Nat.le_trans (by decide) hN) cx hp) rfl rfl (Nat.le_of_ble_eq_true rfl) dX12_swap_50 ⟨Nat.zero_le _, Nat.zero_le _⟩) (fun u_c H locs hq hp => ?_)
    obtain ⟨e_0, n_u⟩ := hq
    obtain ⟨σ5, e_l, hf⟩ := fl hf
    obtain rfl := ((us_x e_0 n_u).trans e_l).symm
    refine lv_aload_n hx hb dX12_swap_53 rfl (lv_at hl 0 rfl) ?_
    refine gF_X12_99 rfl hN cx hp dX12_swap_54 ?_
    refine lv_iload_n hx hb dX12_swap_57 rfl (lv_at hl 1 rfl) ?_
    obtain ⟨r6, hc, hf⟩ := fb hf
    refine x_i hp (y_V (As := [.int p1]) (rest := []) cx hp hl (c_X5_heldBy l (Nat.le_trans (by decide) hN) hT (by decide) rfl hc) (cw_X12_167 cx (mc := 0) (ms := 0) rfl rfl ⟨by decide, by decide⟩) (rC_X5 (by decide) (Nat.le_trans (by decide) hN) cx hp) rfl rfl (Nat.le_of_ble_eq_true rfl) dX12_swap_58 ⟨Nat.zero_le _, Nat.zero_le _⟩) (fun r_c u_c H locs hq hp => ?_)
    obtain ⟨rfl, rfl⟩ := hq
    cases hf
    exact r_i cx hp ⟨rfl, rfl⟩ dX12_swap_61
  · have hf := fp hf c2
    cases hf
abbrev rm_X12_reallocate : Room := { frames := 5, cells := 0, slots := 0, locals := 114 }
set_option maxRecDepth 100000 in
set_option maxHeartbeats 4000000 in
theorem c_X12_reallocate (l : Launch) {E : Ev} (hN : 130 ≤ eN E) (hT : St E) {σ : SM}  {rv : Int32} {σ' : SM} (hf : f_X12_reallocate σ = some (rv, σ')) : Met l yX12_reallocate (wC yX12_reallocate cX12_reallocate 1 (some .int)) rm_X12_reallocate (va_Pc [.ref (adr E 19 0)] (Wu E σ)) (va_Qi (fun r u => rv = r ∧ σ' = u) (fun u t => Wu E u t) (eA E)) 0 0 (eA E) := by
  refine g_entry (lv := [(0, .ref (adr E 19 0))]) (by decide) (Nat.le_of_ble_eq_true rfl) rfl ?_
  intro p e s m below meth c cx hp ls hl
  have hx := cx.1.1
  have hb := cx.1.2.1
  unfold f_X12_reallocate at hf
  refine lv_aload_n hx hb dX12_reallocate_0 rfl (lv_at hl 0 rfl) ?_
  refine gF_X12_40 rfl hN cx hp dX12_reallocate_1 ?_
  refine lv_aload_n hx hb dX12_reallocate_4 rfl (lv_at hl 0 rfl) ?_
  refine gF_X12_99 rfl hN cx hp dX12_reallocate_5 ?_
  obtain ⟨σ1, hc, hf⟩ := fb hf
  refine x_v hp (y_V (As := [.ref (adr E 0 0)]) (rest := []) cx hp hl (c_X4_record l (Nat.le_trans (by decide) hN) hT  hc) (cw_X12_131 cx (mc := 0) (ms := 0) rfl rfl ⟨by decide, by decide⟩) (rC_X4 (Nat.le_trans (by decide) hN) cx hp) rfl rfl (Nat.le_of_ble_eq_true rfl) dX12_reallocate_8 ⟨Nat.zero_le _, Nat.zero_le _⟩) (fun u_c H locs hq hp => ?_)
  obtain rfl := hq
  refine lv_aload_n hx hb dX12_reallocate_11 rfl (lv_at hl 0 rfl) ?_
  refine gF_X12_47 rfl hN cx hp dX12_reallocate_12 ?_
  refine lv_aload_n hx hb dX12_reallocate_15 rfl (lv_at hl 0 rfl) ?_
  refine gF_X12_99 rfl hN cx hp dX12_reallocate_16 ?_
  obtain ⟨m2, hc, hf⟩ := fb hf
  refine x_v hp (y_V (As := [.ref (adr E 0 0)]) (rest := []) cx hp hl (c_X1_decide l (Nat.le_trans (by decide) hN) hT (by decide) rfl rfl hc) (cw_X12_250 cx (mc := 0) (ms := 0) rfl rfl ⟨by decide, by decide⟩) (rC_X1 (Nat.le_trans (by decide) hN) cx hp) rfl rfl (Nat.le_of_ble_eq_true rfl) dX12_reallocate_19 ⟨Nat.zero_le _, Nat.zero_le _⟩) (fun u_c H locs hq hp => ?_)
  obtain ⟨e_0, n_u⟩ := hq
  obtain ⟨σ3, e_l, hf⟩ := fl hf
  obtain rfl := ((us_x e_0 n_u).trans e_l).symm
  refine lv_aload_n hx hb dX12_reallocate_22 rfl (lv_at hl 0 rfl) ?_
  refine gF_X12_47 rfl hN cx hp dX12_reallocate_23 ?_
  refine lv_aload_n hx hb dX12_reallocate_26 rfl (lv_at hl 0 rfl) ?_
  refine gF_X12_99 rfl hN cx hp dX12_reallocate_27 ?_
  obtain ⟨r4, m5, hc, hf⟩ := fb2 hf
  refine x_i hp (y_V (As := [.ref (adr E 0 0)]) (rest := []) cx hp hl (c_X1_applyTo l (Nat.le_trans (by decide) hN) hT (by decide) rfl rfl hc) (cw_X12_308 cx (mc := 0) (ms := 0) rfl rfl ⟨by decide, by decide⟩) (rC_X1 (Nat.le_trans (by decide) hN) cx hp) rfl rfl (Nat.le_of_ble_eq_true rfl) dX12_reallocate_30 ⟨Nat.zero_le _, Nat.zero_le _⟩) (fun r_c u_c H locs hq hp => ?_)
  obtain ⟨rfl, e_0, n_u⟩ := hq
  obtain ⟨σ6, e_l, hf⟩ := fl hf
  obtain rfl := ((us_x e_0 n_u).trans e_l).symm
  cases hf
  exact r_i cx hp ⟨rfl, rfl⟩ dX12_reallocate_33
abbrev rm_X12_setPriority : Room := { frames := 3, cells := 0, slots := 0, locals := 66 }
set_option maxRecDepth 100000 in
set_option maxHeartbeats 4000000 in
theorem c_X12_setPriority (l : Launch) {E : Ev} (hN : 130 ≤ eN E) (hT : St E) {σ : SM} {p1 : Int32} {p2 : Int32} {rv : Int32} {σ' : SM} (hf : f_X12_setPriority p1 p2 σ = some (rv, σ')) : Met l yX12_setPriority (wC yX12_setPriority cX12_setPriority 4 (some .int)) rm_X12_setPriority (va_Pc [.ref (adr E 19 0), .int p1, .int p2] (Wu E σ)) (va_Qi (fun r u => rv = r ∧ σ' = u) (fun u t => Wu E u t) (eA E)) 0 0 (eA E) := by
  refine g_entry (lv := [(0, .ref (adr E 19 0)), (1, .int p1), (2, .int p2)]) (by decide) (Nat.le_of_ble_eq_true rfl) rfl ?_
  intro p e s m below meth c cx hp ls hl
  have hx := cx.1.1
  have hb := cx.1.2.1
  unfold f_X12_setPriority at hf
  refine lv_aload_n hx hb dX12_setPriority_0 rfl (lv_at hl 0 rfl) ?_
  refine lv_iload_n hx hb dX12_setPriority_1 rfl (lv_at hl 1 rfl) ?_
  obtain ⟨_, hc, hf⟩ := fb hf
  refine x_v hp (y_V (As := [.int p1]) (rest := []) cx hp hl (c_X12_requireSeller l hN hT  hc) (cw_X12_151 cx (mc := 0) (ms := 0) rfl rfl ⟨by decide, by decide⟩) (rC_X12 hN cx hp) rfl rfl (Nat.le_of_ble_eq_true rfl) dX12_setPriority_2 ⟨Nat.zero_le _, Nat.zero_le _⟩) (fun u_c H locs hq hp => ?_)
  obtain rfl := hq
  refine lv_iload_n hx hb dX12_setPriority_5 rfl (lv_at hl 2 rfl) ?_
  refine lv_if_lt (tgt := 20) hx hb dX12_setPriority_6 (by decide) (fun c1 => ?_) (fun c1 => ?_)
  · have hf := fp hf c1
    cases hf
  · have hf := fn hf c1
    refine lv_iload_n hx hb dX12_setPriority_9 rfl (lv_at hl 2 rfl) ?_
    refine lv_aload_n hx hb dX12_setPriority_10 rfl (lv_at hl 0 rfl) ?_
    refine gF_X12_99 rfl hN cx hp dX12_setPriority_11 ?_
    refine gF_X12_127 (by decide) rfl (Nat.le_trans (by decide) hN) cx hp dX12_setPriority_14 ?_
    refine lv_icmp_lt (tgt := 31) hx hb dX12_setPriority_17 (by decide) (fun c2 => ?_) (fun c2 => ?_)
    · have hf := fp hf c2
      refine lv_aload_n hx hb dX12_setPriority_31 rfl (lv_at hl 0 rfl) ?_
      refine gF_X12_40 rfl hN cx hp dX12_setPriority_32 ?_
      refine lv_aload_n hx hb dX12_setPriority_35 rfl (lv_at hl 0 rfl) ?_
      refine gF_X12_99 rfl hN cx hp dX12_setPriority_36 ?_
      obtain ⟨σ3, hc, hf⟩ := fb hf
      refine x_v hp (y_V (As := [.ref (adr E 0 0)]) (rest := []) cx hp hl (c_X4_record l (Nat.le_trans (by decide) hN) hT  hc) (cw_X12_131 cx (mc := 0) (ms := 0) rfl rfl ⟨by decide, by decide⟩) (rC_X4 (Nat.le_trans (by decide) hN) cx hp) rfl rfl (Nat.le_of_ble_eq_true rfl) dX12_setPriority_39 ⟨Nat.zero_le _, Nat.zero_le _⟩) (fun u_c H locs hq hp => ?_)
      obtain rfl := hq
      refine lv_aload_n hx hb dX12_setPriority_42 rfl (lv_at hl 0 rfl) ?_
      refine gF_X12_99 rfl hN cx hp dX12_setPriority_43 ?_
      refine lv_iload_n hx hb dX12_setPriority_46 rfl (lv_at hl 1 rfl) ?_
      obtain ⟨r4, hc, hf⟩ := fb hf
      refine x_i hp (y_V (As := [.int p1]) (rest := []) cx hp hl (c_X5_turnOf l (Nat.le_trans (by decide) hN) hT (by decide) rfl hc) (cw_X12_173 cx (mc := 0) (ms := 0) rfl rfl ⟨by decide, by decide⟩) (rC_X5 (by decide) (Nat.le_trans (by decide) hN) cx hp) rfl rfl (Nat.le_of_ble_eq_true rfl) dX12_setPriority_47 ⟨Nat.zero_le _, Nat.zero_le _⟩) (fun r_c u_c H locs hq hp => ?_)
      obtain ⟨rfl, rfl⟩ := hq
      refine lv_istore_n (lv' := [(3, .int r4), (0, .ref (adr E 19 0)), (1, .int p1), (2, .int p2)]) hx hb dX12_setPriority_50 rfl hl (by decide) rfl (fun ls hl => ?_)
      refine lv_aload_n hx hb dX12_setPriority_51 rfl (lv_at hl 1 rfl) ?_
      refine gF_X12_99 rfl hN cx hp dX12_setPriority_52 ?_
      refine lv_iload_n hx hb dX12_setPriority_55 rfl (lv_at hl 2 rfl) ?_
      refine lv_iload_n hx hb dX12_setPriority_56 rfl (lv_at hl 3 rfl) ?_
      obtain ⟨m5, hc, hf⟩ := fb hf
      refine x_v hp (y_V (As := [.int p1, .int p2]) (rest := []) cx hp hl (c_X5_moveTurn l (Nat.le_trans (by decide) hN) hT (by decide) rfl hc) (cw_X12_256 cx (mc := 0) (ms := 0) rfl rfl ⟨by decide, by decide⟩) (rC_X5 (by decide) (Nat.le_trans (by decide) hN) cx hp) rfl rfl (Nat.le_of_ble_eq_true rfl) dX12_setPriority_57 ⟨Nat.zero_le _, Nat.zero_le _⟩) (fun u_c H locs hq hp => ?_)
      obtain ⟨e_0, n_u⟩ := hq
      obtain ⟨σ6, e_l, hf⟩ := fl hf
      obtain rfl := ((us_x e_0 n_u).trans e_l).symm
      refine lv_iload_n hx hb dX12_setPriority_60 rfl (lv_at hl 0 rfl) ?_
      cases hf
      exact r_i cx hp ⟨rfl, rfl⟩ dX12_setPriority_61
    · have hf := fn hf c2
      cases hf
abbrev rm_X12_preferFirst : Room := { frames := 3, cells := 0, slots := 0, locals := 74 }
set_option maxRecDepth 100000 in
set_option maxHeartbeats 4000000 in
theorem c_X12_preferFirst (l : Launch) {E : Ev} (hN : 130 ≤ eN E) (hT : St E) {σ : SM} {p1 : Int32} {p2 : Int32} {rv : Int32} {σ' : SM} (hf : f_X12_preferFirst p1 p2 σ = some (rv, σ')) : Met l yX12_preferFirst (wC yX12_preferFirst cX12_preferFirst 3 (some .int)) rm_X12_preferFirst (va_Pc [.ref (adr E 19 0), .int p1, .int p2] (Wu E σ)) (va_Qi (fun r u => rv = r ∧ σ' = u) (fun u t => Wu E u t) (eA E)) 0 0 (eA E) := by
  refine g_entry (lv := [(0, .ref (adr E 19 0)), (1, .int p1), (2, .int p2)]) (by decide) (Nat.le_of_ble_eq_true rfl) rfl ?_
  intro p e s m below meth c cx hp ls hl
  have hx := cx.1.1
  have hb := cx.1.2.1
  unfold f_X12_preferFirst at hf
  refine lv_aload_n hx hb dX12_preferFirst_0 rfl (lv_at hl 0 rfl) ?_
  refine lv_iload_n hx hb dX12_preferFirst_1 rfl (lv_at hl 1 rfl) ?_
  obtain ⟨_, hc, hf⟩ := fb hf
  refine x_v hp (y_V (As := [.int p1]) (rest := []) cx hp hl (c_X12_requireSeller l hN hT  hc) (cw_X12_151 cx (mc := 0) (ms := 0) rfl rfl ⟨by decide, by decide⟩) (rC_X12 hN cx hp) rfl rfl (Nat.le_of_ble_eq_true rfl) dX12_preferFirst_2 ⟨Nat.zero_le _, Nat.zero_le _⟩) (fun u_c H locs hq hp => ?_)
  obtain rfl := hq
  refine lv_aload_n hx hb dX12_preferFirst_5 rfl (lv_at hl 0 rfl) ?_
  refine lv_iload_n hx hb dX12_preferFirst_6 rfl (lv_at hl 2 rfl) ?_
  obtain ⟨_, hc, hf⟩ := fb hf
  refine x_v hp (y_V (As := [.int p2]) (rest := []) cx hp hl (c_X12_requireStall l hN hT  hc) (cw_X12_161 cx (mc := 0) (ms := 0) rfl rfl ⟨by decide, by decide⟩) (rC_X12 hN cx hp) rfl rfl (Nat.le_of_ble_eq_true rfl) dX12_preferFirst_7 ⟨Nat.zero_le _, Nat.zero_le _⟩) (fun u_c H locs hq hp => ?_)
  obtain rfl := hq
  refine lv_aload_n hx hb dX12_preferFirst_10 rfl (lv_at hl 0 rfl) ?_
  refine gF_X12_40 rfl hN cx hp dX12_preferFirst_11 ?_
  refine lv_aload_n hx hb dX12_preferFirst_14 rfl (lv_at hl 0 rfl) ?_
  refine gF_X12_99 rfl hN cx hp dX12_preferFirst_15 ?_
  obtain ⟨σ1, hc, hf⟩ := fb hf
  refine x_v hp (y_V (As := [.ref (adr E 0 0)]) (rest := []) cx hp hl (c_X4_record l (Nat.le_trans (by decide) hN) hT  hc) (cw_X12_131 cx (mc := 0) (ms := 0) rfl rfl ⟨by decide, by decide⟩) (rC_X4 (Nat.le_trans (by decide) hN) cx hp) rfl rfl (Nat.le_of_ble_eq_true rfl) dX12_preferFirst_18 ⟨Nat.zero_le _, Nat.zero_le _⟩) (fun u_c H locs hq hp => ?_)
  obtain rfl := hq
  refine lv_aload_n hx hb dX12_preferFirst_21 rfl (lv_at hl 0 rfl) ?_
  refine gF_X12_99 rfl hN cx hp dX12_preferFirst_22 ?_
  refine lv_iload_n hx hb dX12_preferFirst_25 rfl (lv_at hl 1 rfl) ?_
  refine lv_iload_n hx hb dX12_preferFirst_26 rfl (lv_at hl 2 rfl) ?_
  obtain ⟨m2, hc, hf⟩ := fb hf
  refine x_v hp (y_V (As := [.int p1, .int p2]) (rest := []) cx hp hl (c_X5_wishFirst l (Nat.le_trans (by decide) hN) hT (by decide) rfl hc) (cw_X12_260 cx (mc := 0) (ms := 0) rfl rfl ⟨by decide, by decide⟩) (rC_X5 (by decide) (Nat.le_trans (by decide) hN) cx hp) rfl rfl (Nat.le_of_ble_eq_true rfl) dX12_preferFirst_27 ⟨Nat.zero_le _, Nat.zero_le _⟩) (fun u_c H locs hq hp => ?_)
  obtain ⟨e_0, n_u⟩ := hq
  obtain ⟨σ3, e_l, hf⟩ := fl hf
  obtain rfl := ((us_x e_0 n_u).trans e_l).symm
  refine lv_aload_n hx hb dX12_preferFirst_30 rfl (lv_at hl 0 rfl) ?_
  refine gF_X12_99 rfl hN cx hp dX12_preferFirst_31 ?_
  refine lv_iload_n hx hb dX12_preferFirst_34 rfl (lv_at hl 1 rfl) ?_
  obtain ⟨r4, hc, hf⟩ := fb hf
  refine x_i hp (y_V (As := [.int p1]) (rest := []) cx hp hl (c_X5_wishesOf l (Nat.le_trans (by decide) hN) hT (by decide) rfl hc) (cw_X12_176 cx (mc := 0) (ms := 0) rfl rfl ⟨by decide, by decide⟩) (rC_X5 (by decide) (Nat.le_trans (by decide) hN) cx hp) rfl rfl (Nat.le_of_ble_eq_true rfl) dX12_preferFirst_35 ⟨Nat.zero_le _, Nat.zero_le _⟩) (fun r_c u_c H locs hq hp => ?_)
  obtain ⟨rfl, rfl⟩ := hq
  cases hf
  exact r_i cx hp ⟨rfl, rfl⟩ dX12_preferFirst_38
abbrev rm_X12_removePreference : Room := { frames := 2, cells := 0, slots := 0, locals := 49 }
set_option maxRecDepth 100000 in
set_option maxHeartbeats 4000000 in
theorem c_X12_removePreference (l : Launch) {E : Ev} (hN : 130 ≤ eN E) (hT : St E) {σ : SM} {p1 : Int32} {p2 : Int32} {rv : Int32} {σ' : SM} (hf : f_X12_removePreference p1 p2 σ = some (rv, σ')) : Met l yX12_removePreference (wC yX12_removePreference cX12_removePreference 3 (some .int)) rm_X12_removePreference (va_Pc [.ref (adr E 19 0), .int p1, .int p2] (Wu E σ)) (va_Qi (fun r u => rv = r ∧ σ' = u) (fun u t => Wu E u t) (eA E)) 0 0 (eA E) := by
  refine g_entry (lv := [(0, .ref (adr E 19 0)), (1, .int p1), (2, .int p2)]) (by decide) (Nat.le_of_ble_eq_true rfl) rfl ?_
  intro p e s m below meth c cx hp ls hl
  have hx := cx.1.1
  have hb := cx.1.2.1
  unfold f_X12_removePreference at hf
  refine lv_aload_n hx hb dX12_removePreference_0 rfl (lv_at hl 0 rfl) ?_
  refine lv_iload_n hx hb dX12_removePreference_1 rfl (lv_at hl 1 rfl) ?_
  obtain ⟨_, hc, hf⟩ := fb hf
  refine x_v hp (y_V (As := [.int p1]) (rest := []) cx hp hl (c_X12_requireSeller l hN hT  hc) (cw_X12_151 cx (mc := 0) (ms := 0) rfl rfl ⟨by decide, by decide⟩) (rC_X12 hN cx hp) rfl rfl (Nat.le_of_ble_eq_true rfl) dX12_removePreference_2 ⟨Nat.zero_le _, Nat.zero_le _⟩) (fun u_c H locs hq hp => ?_)
  obtain rfl := hq
  refine lv_aload_n hx hb dX12_removePreference_5 rfl (lv_at hl 0 rfl) ?_
  refine lv_iload_n hx hb dX12_removePreference_6 rfl (lv_at hl 2 rfl) ?_
  obtain ⟨_, hc, hf⟩ := fb hf
  refine x_v hp (y_V (As := [.int p2]) (rest := []) cx hp hl (c_X12_requireStall l hN hT  hc) (cw_X12_161 cx (mc := 0) (ms := 0) rfl rfl ⟨by decide, by decide⟩) (rC_X12 hN cx hp) rfl rfl (Nat.le_of_ble_eq_true rfl) dX12_removePreference_7 ⟨Nat.zero_le _, Nat.zero_le _⟩) (fun u_c H locs hq hp => ?_)
  obtain rfl := hq
  refine lv_aload_n hx hb dX12_removePreference_10 rfl (lv_at hl 0 rfl) ?_
  refine gF_X12_99 rfl hN cx hp dX12_removePreference_11 ?_
  refine lv_iload_n hx hb dX12_removePreference_14 rfl (lv_at hl 1 rfl) ?_
  refine lv_iload_n hx hb dX12_removePreference_15 rfl (lv_at hl 2 rfl) ?_
  obtain ⟨r1, hc, hf⟩ := fb hf
  refine x_i hp (y_V (As := [.int p1, .int p2]) (rest := []) cx hp hl (c_X5_rankIn l (Nat.le_trans (by decide) hN) hT (by decide) rfl hc) (cw_X12_188 cx (mc := 0) (ms := 0) rfl rfl ⟨by decide, by decide⟩) (rC_X5 (by decide) (Nat.le_trans (by decide) hN) cx hp) rfl rfl (Nat.le_of_ble_eq_true rfl) dX12_removePreference_16 ⟨Nat.zero_le _, Nat.zero_le _⟩) (fun r_c u_c H locs hq hp => ?_)
  obtain ⟨rfl, rfl⟩ := hq
  refine lv_iconst (v := (-1)) hx hb dX12_removePreference_19 (by decide) ?_
  refine lv_icmp_ne (tgt := 34) hx hb dX12_removePreference_20 (by decide) (fun c2 => ?_) (fun c2 => ?_)
  · have hf := fn hf c2
    refine lv_aload_n hx hb dX12_removePreference_34 rfl (lv_at hl 0 rfl) ?_
    refine gF_X12_40 rfl hN cx hp dX12_removePreference_35 ?_
    refine lv_aload_n hx hb dX12_removePreference_38 rfl (lv_at hl 0 rfl) ?_
    refine gF_X12_99 rfl hN cx hp dX12_removePreference_39 ?_
    obtain ⟨σ3, hc, hf⟩ := fb hf
    refine x_v hp (y_V (As := [.ref (adr E 0 0)]) (rest := []) cx hp hl (c_X4_record l (Nat.le_trans (by decide) hN) hT  hc) (cw_X12_131 cx (mc := 0) (ms := 0) rfl rfl ⟨by decide, by decide⟩) (rC_X4 (Nat.le_trans (by decide) hN) cx hp) rfl rfl (Nat.le_of_ble_eq_true rfl) dX12_removePreference_42 ⟨Nat.zero_le _, Nat.zero_le _⟩) (fun u_c H locs hq hp => ?_)
    obtain rfl := hq
    refine lv_aload_n hx hb dX12_removePreference_45 rfl (lv_at hl 0 rfl) ?_
    refine gF_X12_99 rfl hN cx hp dX12_removePreference_46 ?_
    refine lv_iload_n hx hb dX12_removePreference_49 rfl (lv_at hl 1 rfl) ?_
    refine lv_iload_n hx hb dX12_removePreference_50 rfl (lv_at hl 2 rfl) ?_
    obtain ⟨m4, hc, hf⟩ := fb hf
    refine x_v hp (y_V (As := [.int p1, .int p2]) (rest := []) cx hp hl (c_X5_dropWish l (Nat.le_trans (by decide) hN) hT (by decide) rfl hc) (cw_X12_315 cx (mc := 0) (ms := 0) rfl rfl ⟨by decide, by decide⟩) (rC_X5 (by decide) (Nat.le_trans (by decide) hN) cx hp) rfl rfl (Nat.le_of_ble_eq_true rfl) dX12_removePreference_51 ⟨Nat.zero_le _, Nat.zero_le _⟩) (fun u_c H locs hq hp => ?_)
    obtain ⟨e_0, n_u⟩ := hq
    obtain ⟨σ5, e_l, hf⟩ := fl hf
    obtain rfl := ((us_x e_0 n_u).trans e_l).symm
    refine lv_aload_n hx hb dX12_removePreference_54 rfl (lv_at hl 0 rfl) ?_
    refine gF_X12_99 rfl hN cx hp dX12_removePreference_55 ?_
    refine lv_iload_n hx hb dX12_removePreference_58 rfl (lv_at hl 1 rfl) ?_
    obtain ⟨r6, hc, hf⟩ := fb hf
    refine x_i hp (y_V (As := [.int p1]) (rest := []) cx hp hl (c_X5_wishesOf l (Nat.le_trans (by decide) hN) hT (by decide) rfl hc) (cw_X12_176 cx (mc := 0) (ms := 0) rfl rfl ⟨by decide, by decide⟩) (rC_X5 (by decide) (Nat.le_trans (by decide) hN) cx hp) rfl rfl (Nat.le_of_ble_eq_true rfl) dX12_removePreference_59 ⟨Nat.zero_le _, Nat.zero_le _⟩) (fun r_c u_c H locs hq hp => ?_)
    obtain ⟨rfl, rfl⟩ := hq
    cases hf
    exact r_i cx hp ⟨rfl, rfl⟩ dX12_removePreference_62
  · have hf := fp hf c2
    cases hf
abbrev rm_X12_setRent : Room := { frames := 2, cells := 0, slots := 0, locals := 43 }
set_option maxRecDepth 100000 in
set_option maxHeartbeats 4000000 in
theorem c_X12_setRent (l : Launch) {E : Ev} (hN : 130 ≤ eN E) (hT : St E) {σ : SM} {p1 : Int32} {p2 : Int32} {rv : Int32} {σ' : SM} (hf : f_X12_setRent p1 p2 σ = some (rv, σ')) : Met l yX12_setRent (wC yX12_setRent cX12_setRent 4 (some .int)) rm_X12_setRent (va_Pc [.ref (adr E 19 0), .int p1, .int p2] (Wu E σ)) (va_Qi (fun r u => rv = r ∧ σ' = u) (fun u t => Wu E u t) (eA E)) 0 0 (eA E) := by
  refine g_entry (lv := [(0, .ref (adr E 19 0)), (1, .int p1), (2, .int p2)]) (by decide) (Nat.le_of_ble_eq_true rfl) rfl ?_
  intro p e s m below meth c cx hp ls hl
  have hx := cx.1.1
  have hb := cx.1.2.1
  unfold f_X12_setRent at hf
  refine lv_aload_n hx hb dX12_setRent_0 rfl (lv_at hl 0 rfl) ?_
  refine lv_iload_n hx hb dX12_setRent_1 rfl (lv_at hl 1 rfl) ?_
  obtain ⟨_, hc, hf⟩ := fb hf
  refine x_v hp (y_V (As := [.int p1]) (rest := []) cx hp hl (c_X12_requireStall l hN hT  hc) (cw_X12_161 cx (mc := 0) (ms := 0) rfl rfl ⟨by decide, by decide⟩) (rC_X12 hN cx hp) rfl rfl (Nat.le_of_ble_eq_true rfl) dX12_setRent_2 ⟨Nat.zero_le _, Nat.zero_le _⟩) (fun u_c H locs hq hp => ?_)
  obtain rfl := hq
  refine lv_iload_n hx hb dX12_setRent_5 rfl (lv_at hl 2 rfl) ?_
  refine lv_if_lt (tgt := 15) hx hb dX12_setRent_6 (by decide) (fun c1 => ?_) (fun c1 => ?_)
  · have hf := fp hf c1
    cases hf
  · have hf := fn hf c1
    refine lv_iload_n hx hb dX12_setRent_9 rfl (lv_at hl 2 rfl) ?_
    refine lv_bipush (v := 99) hx hb dX12_setRent_10 (by decide) ?_
    refine lv_icmp_le (tgt := 26) hx hb dX12_setRent_12 (by decide) (fun c2 => ?_) (fun c2 => ?_)
    · have hf := fp hf c2
      refine lv_aload_n hx hb dX12_setRent_26 rfl (lv_at hl 0 rfl) ?_
      refine gF_X12_40 rfl hN cx hp dX12_setRent_27 ?_
      refine lv_aload_n hx hb dX12_setRent_30 rfl (lv_at hl 0 rfl) ?_
      refine gF_X12_99 rfl hN cx hp dX12_setRent_31 ?_
      obtain ⟨σ3, hc, hf⟩ := fb hf
      refine x_v hp (y_V (As := [.ref (adr E 0 0)]) (rest := []) cx hp hl (c_X4_record l (Nat.le_trans (by decide) hN) hT  hc) (cw_X12_131 cx (mc := 0) (ms := 0) rfl rfl ⟨by decide, by decide⟩) (rC_X4 (Nat.le_trans (by decide) hN) cx hp) rfl rfl (Nat.le_of_ble_eq_true rfl) dX12_setRent_34 ⟨Nat.zero_le _, Nat.zero_le _⟩) (fun u_c H locs hq hp => ?_)
      obtain rfl := hq
      refine lv_aload_n hx hb dX12_setRent_37 rfl (lv_at hl 0 rfl) ?_
      refine gF_X12_99 rfl hN cx hp dX12_setRent_38 ?_
      refine lv_iload_n hx hb dX12_setRent_41 rfl (lv_at hl 1 rfl) ?_
      obtain ⟨r4, hc, hf⟩ := fb hf
      refine x_i hp (y_V (As := [.int p1]) (rest := []) cx hp hl (c_X5_priceOf l (Nat.le_trans (by decide) hN) hT (by decide) rfl hc) (cw_X12_164 cx (mc := 0) (ms := 0) rfl rfl ⟨by decide, by decide⟩) (rC_X5 (by decide) (Nat.le_trans (by decide) hN) cx hp) rfl rfl (Nat.le_of_ble_eq_true rfl) dX12_setRent_42 ⟨Nat.zero_le _, Nat.zero_le _⟩) (fun r_c u_c H locs hq hp => ?_)
      obtain ⟨rfl, rfl⟩ := hq
      refine lv_istore_n (lv' := [(3, .int r4), (0, .ref (adr E 19 0)), (1, .int p1), (2, .int p2)]) hx hb dX12_setRent_45 rfl hl (by decide) rfl (fun ls hl => ?_)
      refine lv_aload_n hx hb dX12_setRent_46 rfl (lv_at hl 1 rfl) ?_
      refine gF_X12_99 rfl hN cx hp dX12_setRent_47 ?_
      refine lv_iload_n hx hb dX12_setRent_50 rfl (lv_at hl 2 rfl) ?_
      refine lv_iload_n hx hb dX12_setRent_51 rfl (lv_at hl 3 rfl) ?_
      obtain ⟨m5, hc, hf⟩ := fb hf
      refine x_v hp (y_V (As := [.int p1, .int p2]) (rest := []) cx hp hl (c_X5_price l (Nat.le_trans (by decide) hN) hT (by decide) rfl hc) (cw_X12_320 cx (mc := 0) (ms := 0) rfl rfl ⟨by decide, by decide⟩) (rC_X5 (by decide) (Nat.le_trans (by decide) hN) cx hp) rfl rfl (Nat.le_of_ble_eq_true rfl) dX12_setRent_52 ⟨Nat.zero_le _, Nat.zero_le _⟩) (fun u_c H locs hq hp => ?_)
      obtain ⟨e_0, n_u⟩ := hq
      obtain ⟨σ6, e_l, hf⟩ := fl hf
      obtain rfl := ((us_x e_0 n_u).trans e_l).symm
      refine lv_iload_n hx hb dX12_setRent_55 rfl (lv_at hl 0 rfl) ?_
      cases hf
      exact r_i cx hp ⟨rfl, rfl⟩ dX12_setRent_56
    · have hf := fn hf c2
      cases hf
abbrev rm_X12_advanceDays : Room := { frames := 4, cells := 0, slots := 0, locals := 88 }
set_option maxRecDepth 100000 in
set_option maxHeartbeats 4000000 in
theorem c_X12_advanceDays (l : Launch) {E : Ev} (hN : 130 ≤ eN E) (hT : St E) {σ : SM} {p1 : Int32} {rv : Int32} {σ' : SM} (hf : f_X12_advanceDays p1 σ = some (rv, σ')) : Met l yX12_advanceDays (wC yX12_advanceDays cX12_advanceDays 3 (some .int)) rm_X12_advanceDays (va_Pc [.ref (adr E 19 0), .int p1] (Wu E σ)) (va_Qi (fun r u => rv = r ∧ σ' = u) (fun u t => Wu E u t) (eA E)) 0 0 (eA E) := by
  refine g_entry (lv := [(0, .ref (adr E 19 0)), (1, .int p1)]) (by decide) (Nat.le_of_ble_eq_true rfl) rfl ?_
  intro p e s m below meth c cx hp ls hl
  have hx := cx.1.1
  have hb := cx.1.2.1
  unfold f_X12_advanceDays at hf
  refine lv_iload_n hx hb dX12_advanceDays_0 rfl (lv_at hl 1 rfl) ?_
  refine lv_iconst (v := 1) hx hb dX12_advanceDays_1 (by decide) ?_
  refine lv_icmp_lt (tgt := 11) hx hb dX12_advanceDays_2 (by decide) (fun c1 => ?_) (fun c1 => ?_)
  · have hf := fp hf c1
    cases hf
  · have hf := fn hf c1
    refine lv_iload_n hx hb dX12_advanceDays_5 rfl (lv_at hl 1 rfl) ?_
    refine lv_bipush (v := 99) hx hb dX12_advanceDays_6 (by decide) ?_
    refine lv_icmp_le (tgt := 22) hx hb dX12_advanceDays_8 (by decide) (fun c2 => ?_) (fun c2 => ?_)
    · have hf := fp hf c2
      refine lv_aload_n hx hb dX12_advanceDays_22 rfl (lv_at hl 0 rfl) ?_
      refine gF_X12_99 rfl hN cx hp dX12_advanceDays_23 ?_
      refine lv_iload_n hx hb dX12_advanceDays_26 rfl (lv_at hl 1 rfl) ?_
      obtain ⟨r3, hc, hf⟩ := fb hf
      refine x_i hp (y_V (As := [.int p1]) (rest := []) cx hp hl (c_X5_mayPass l (Nat.le_trans (by decide) hN) hT (by decide) rfl hc) (cw_X12_330 cx (mc := 0) (ms := 0) rfl rfl ⟨by decide, by decide⟩) (rC_X5 (by decide) (Nat.le_trans (by decide) hN) cx hp) rfl rfl (Nat.le_of_ble_eq_true rfl) dX12_advanceDays_27 ⟨Nat.zero_le _, Nat.zero_le _⟩) (fun r_c u_c H locs hq hp => ?_)
      obtain ⟨rfl, rfl⟩ := hq
      refine lv_if_ne (tgt := 44) hx hb dX12_advanceDays_30 (by decide) (fun c4 => ?_) (fun c4 => ?_)
      · have hf := fn hf c4
        refine lv_aload_n hx hb dX12_advanceDays_44 rfl (lv_at hl 0 rfl) ?_
        refine gF_X12_40 rfl hN cx hp dX12_advanceDays_45 ?_
        refine lv_aload_n hx hb dX12_advanceDays_48 rfl (lv_at hl 0 rfl) ?_
        refine gF_X12_99 rfl hN cx hp dX12_advanceDays_49 ?_
        obtain ⟨σ5, hc, hf⟩ := fb hf
        refine x_v hp (y_V (As := [.ref (adr E 0 0)]) (rest := []) cx hp hl (c_X4_record l (Nat.le_trans (by decide) hN) hT  hc) (cw_X12_131 cx (mc := 0) (ms := 0) rfl rfl ⟨by decide, by decide⟩) (rC_X4 (Nat.le_trans (by decide) hN) cx hp) rfl rfl (Nat.le_of_ble_eq_true rfl) dX12_advanceDays_52 ⟨Nat.zero_le _, Nat.zero_le _⟩) (fun u_c H locs hq hp => ?_)
        obtain rfl := hq
        refine lv_aload_n hx hb dX12_advanceDays_55 rfl (lv_at hl 0 rfl) ?_
        refine gF_X12_99 rfl hN cx hp dX12_advanceDays_56 ?_
        refine gF_X12_277 (by decide) rfl (Nat.le_trans (by decide) hN) cx hp dX12_advanceDays_59 ?_
        obtain ⟨i6, x_e, hf⟩ := fl hf
        refine lv_nm x_e ?_
        refine lv_istore_n (lv' := [(2, .int i6), (0, .ref (adr E 19 0)), (1, .int p1)]) hx hb dX12_advanceDays_62 rfl hl (by decide) rfl (fun ls hl => ?_)
        refine lv_aload_n hx hb dX12_advanceDays_63 rfl (lv_at hl 1 rfl) ?_
        refine gF_X12_99 rfl hN cx hp dX12_advanceDays_64 ?_
        refine lv_iload_n hx hb dX12_advanceDays_67 rfl (lv_at hl 2 rfl) ?_
        obtain ⟨m7, hc, hf⟩ := fb hf
        refine x_v hp (y_V (As := [.int p1]) (rest := []) cx hp hl (c_X5_pass l (Nat.le_trans (by decide) hN) hT (by decide) rfl hc) (cw_X12_336 cx (mc := 0) (ms := 0) rfl rfl ⟨by decide, by decide⟩) (rC_X5 (by decide) (Nat.le_trans (by decide) hN) cx hp) rfl rfl (Nat.le_of_ble_eq_true rfl) dX12_advanceDays_68 ⟨Nat.zero_le _, Nat.zero_le _⟩) (fun u_c H locs hq hp => ?_)
        obtain ⟨e_0, n_u⟩ := hq
        obtain ⟨σ8, e_l, hf⟩ := fl hf
        obtain rfl := ((us_x e_0 n_u).trans e_l).symm
        refine lv_aload_n hx hb dX12_advanceDays_71 rfl (lv_at hl 1 rfl) ?_
        refine gF_X12_99 rfl hN cx hp dX12_advanceDays_72 ?_
        refine gF_X12_277 (by decide) rfl (Nat.le_trans (by decide) hN) cx hp dX12_advanceDays_75 ?_
        refine lv_iload_n hx hb dX12_advanceDays_78 rfl (lv_at hl 0 rfl) ?_
        refine lv_isub hx hb dX12_advanceDays_79 ?_
        cases hf
        exact r_i cx hp ⟨rfl, rfl⟩ dX12_advanceDays_80
      · have hf := fp hf c4
        cases hf
    · have hf := fn hf c2
      cases hf
abbrev rm_X12_undo : Room := { frames := 2, cells := 0, slots := 0, locals := 43 }
set_option maxRecDepth 100000 in
set_option maxHeartbeats 4000000 in
theorem c_X12_undo (l : Launch) {E : Ev} (hN : 130 ≤ eN E) (hT : St E) {σ : SM}  {rv : Int32} {σ' : SM} (hf : f_X12_undo σ = some (rv, σ')) : Met l yX12_undo (wC yX12_undo cX12_undo 1 (some .int)) rm_X12_undo (va_Pc [.ref (adr E 19 0)] (Wu E σ)) (va_Qi (fun r u => rv = r ∧ σ' = u) (fun u t => Wu E u t) (eA E)) 0 0 (eA E) := by
  refine g_entry (lv := [(0, .ref (adr E 19 0))]) (by decide) (Nat.le_of_ble_eq_true rfl) rfl ?_
  intro p e s m below meth c cx hp ls hl
  have hx := cx.1.1
  have hb := cx.1.2.1
  unfold f_X12_undo at hf
  refine lv_aload_n hx hb dX12_undo_0 rfl (lv_at hl 0 rfl) ?_
  refine gF_X12_40 rfl hN cx hp dX12_undo_1 ?_
  refine lv_aload_n hx hb dX12_undo_4 rfl (lv_at hl 0 rfl) ?_
  refine gF_X12_99 rfl hN cx hp dX12_undo_5 ?_
  obtain ⟨r1, σ2, hc, hf⟩ := fb2 hf
  refine x_i hp (y_V (As := [.ref (adr E 0 0)]) (rest := []) cx hp hl (c_X4_takeBack l (Nat.le_trans (by decide) hN) hT  hc) (cw_X12_346 cx (mc := 0) (ms := 0) rfl rfl ⟨by decide, by decide⟩) (rC_X4 (Nat.le_trans (by decide) hN) cx hp) rfl rfl (Nat.le_of_ble_eq_true rfl) dX12_undo_8 ⟨Nat.zero_le _, Nat.zero_le _⟩) (fun r_c u_c H locs hq hp => ?_)
  obtain ⟨rfl, rfl⟩ := hq
  cases hf
  exact r_i cx hp ⟨rfl, rfl⟩ dX12_undo_11

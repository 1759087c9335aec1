abbrev rm_X13_readsSeller : Room := { frames := 7, cells := 0, slots := 0, locals := 151 }
set_option maxRecDepth 100000 in
set_option maxHeartbeats 4000000 in
theorem c_X13_readsSeller (l : Launch) {E : Ev} (hN : 146 ≤ eN E) (hT : St E) {σ : SM} {ρ : OM} (e20 : σ 20 = ρ)  {ρ' : OM} (hf : f_X13_readsSeller ρ = some ρ') : Met l yX13_readsSeller (wC yX13_readsSeller cX13_readsSeller 3 none) rm_X13_readsSeller (va_Pc [.ref (adr E 20 0)] (Wu E σ)) (va_Qv (fun u => u 20 = ρ' ∧ ∀ q, q ≠ 20 → u q = σ q) (fun u t => Wu E u t) (eA E)) 0 0 (eA E) := by
  refine g_entry (lv := [(0, .ref (adr E 20 0))]) (by decide) (Nat.le_of_ble_eq_true rfl) rfl ?_
  intro p e s m below meth c cx hp ls hl
  have hx := cx.1.1
  have hb := cx.1.2.1
  have fr : ∀ q, q ≠ 20 → σ q = σ q := fun _ _ => rfl
  unfold f_X13_readsSeller at hf
  refine lv_aload_n hx hb dX13_readsSeller_0 rfl (lv_at hl 0 rfl) ?_
  refine lv_aload_n hx hb dX13_readsSeller_1 rfl (lv_at hl 0 rfl) ?_
  refine gF_X13_7 rfl hN cx hp dX13_readsSeller_2 ?_
  refine lv_iconst (v := 0) hx hb dX13_readsSeller_5 (by decide) ?_
  obtain ⟨g_i, hf⟩ := fg hf
  refine lA_X13_1 e20 hN cx hp g_i dX13_readsSeller_6 ?_
  obtain ⟨r1, ρ2, hc, hf⟩ := fb2 hf
  refine x_i hp (y_V (As := [.int (ρ.1 1 (Int32.toNatClampNeg 0))]) (rest := []) cx hp hl (c_X13_begins l hN hT e20 hc) (cw_X13_229 cx (mc := 0) (ms := 0) rfl rfl ⟨by decide, by decide⟩) (rC_X13 hN cx hp) rfl rfl (Nat.le_of_ble_eq_true rfl) dX13_readsSeller_7 ⟨Nat.zero_le _, Nat.zero_le _⟩) (fun r_c u_c H locs hq hp => ?_)
  obtain ⟨rfl, e_0, n_u⟩ := hq
  have e20 := e_0
  have fr : ∀ q, q ≠ 20 → u_c q = σ q := fun q h0 => (n_u q h0).trans (fr q h0)
  obtain ⟨u, rfl⟩ : ∃ z, u_c = z := ⟨_, rfl⟩
  refine lv_if_eq (tgt := 126) hx hb dX13_readsSeller_10 (by decide) (fun c3 => ?_) (fun c3 => ?_)
  · have hf := fp hf c3
    cases hf
    exact r_v cx hp ⟨e20, fr⟩ dX13_readsSeller_126
  · have hf := fn hf c3
    refine lv_aload_n hx hb dX13_readsSeller_13 rfl (lv_at hl 0 rfl) ?_
    refine gF_X13_7 rfl hN cx hp dX13_readsSeller_14 ?_
    refine lv_iconst (v := 0) hx hb dX13_readsSeller_17 (by decide) ?_
    obtain ⟨g_i, hf⟩ := fg hf
    refine lA_X13_1 e20 hN cx hp g_i dX13_readsSeller_18 ?_
    obtain ⟨i4, x_e, hf⟩ := fl hf
    refine lv_nm x_e ?_
    refine lv_istore_n (lv' := [(1, .int i4), (0, .ref (adr E 20 0))]) hx hb dX13_readsSeller_19 rfl hl (by decide) rfl (fun ls hl => ?_)
    refine lv_aload_n hx hb dX13_readsSeller_20 rfl (lv_at hl 1 rfl) ?_
    obtain ⟨r5, ρ6, hc, hf⟩ := fb2 hf
    refine x_i hp (y_V (As := []) (rest := []) cx hp hl (c_X13_seesName l hN hT e20 hc) (cw_X13_217 cx (mc := 0) (ms := 0) rfl rfl ⟨by decide, by decide⟩) (rC_X13 hN cx hp) rfl rfl (Nat.le_of_ble_eq_true rfl) dX13_readsSeller_21 ⟨Nat.zero_le _, Nat.zero_le _⟩) (fun r_c u_c H locs hq hp => ?_)
    obtain ⟨rfl, e_0, n_u⟩ := hq
    have e20 := e_0
    have fr : ∀ q, q ≠ 20 → u_c q = σ q := fun q h0 => (n_u q h0).trans (fr q h0)
    obtain ⟨u, rfl⟩ : ∃ z, u_c = z := ⟨_, rfl⟩
    refine lv_istore_n (lv' := [(2, .int r5), (1, .int i4), (0, .ref (adr E 20 0))]) hx hb dX13_readsSeller_24 rfl hl (by decide) rfl (fun ls hl => ?_)
    refine lv_aload_n hx hb dX13_readsSeller_25 rfl (lv_at hl 2 rfl) ?_
    refine gF_X13_192 e20 hN cx hp dX13_readsSeller_26 ?_
    refine lv_if_ne (tgt := 46) hx hb dX13_readsSeller_29 (by decide) (fun c7 => ?_) (fun c7 => ?_)
    · have hf := fn hf c7
      refine lv_aload_n hx hb dX13_readsSeller_46 rfl (lv_at hl 2 rfl) ?_
      obtain ⟨ρ8, hc, hf⟩ := fb hf
      refine x_v hp (y_V (As := []) (rest := []) cx hp hl (c_X13_goesOn l hN hT e20 hc) (cw_X13_209 cx (mc := 0) (ms := 0) rfl rfl ⟨by decide, by decide⟩) (rC_X13 hN cx hp) rfl rfl (Nat.le_of_ble_eq_true rfl) dX13_readsSeller_47 ⟨Nat.zero_le _, Nat.zero_le _⟩) (fun u_c H locs hq hp => ?_)
      obtain ⟨e_0, n_u⟩ := hq
      have e20 := e_0
      have fr : ∀ q, q ≠ 20 → u_c q = σ q := fun q h0 => (n_u q h0).trans (fr q h0)
      obtain ⟨u, rfl⟩ : ∃ z, u_c = z := ⟨_, rfl⟩
      refine lv_aload_n hx hb dX13_readsSeller_50 rfl (lv_at hl 2 rfl) ?_
      refine lv_iload_n hx hb dX13_readsSeller_51 rfl (lv_at hl 1 rfl) ?_
      refine lv_iconst (v := 0) hx hb dX13_readsSeller_52 (by decide) ?_
      refine lv_iload_n hx hb dX13_readsSeller_53 rfl (lv_at hl 0 rfl) ?_
      obtain ⟨ρ9, hc, hf⟩ := fb hf
      refine x_v hp (y_V (As := [.int i4, .int 0, .int r5]) (rest := []) cx hp hl (c_X13_sets l hN hT e20 hc) (cw_X13_145 cx (mc := 0) (ms := 0) rfl rfl ⟨by decide, by decide⟩) (rC_X13 hN cx hp) rfl rfl (Nat.le_of_ble_eq_true rfl) dX13_readsSeller_54 ⟨Nat.zero_le _, Nat.zero_le _⟩) (fun u_c H locs hq hp => ?_)
      obtain ⟨e_0, n_u⟩ := hq
      have e20 := e_0
      have fr : ∀ q, q ≠ 20 → u_c q = σ q := fun q h0 => (n_u q h0).trans (fr q h0)
      obtain ⟨u, rfl⟩ : ∃ z, u_c = z := ⟨_, rfl⟩
      refine lv_aload_n hx hb dX13_readsSeller_57 rfl (lv_at hl 2 rfl) ?_
      refine lv_iload_n hx hb dX13_readsSeller_58 rfl (lv_at hl 1 rfl) ?_
      refine lv_iconst (v := 1) hx hb dX13_readsSeller_59 (by decide) ?_
      refine lv_aload_n hx hb dX13_readsSeller_60 rfl (lv_at hl 2 rfl) ?_
      refine lv_iconst (v := 0) hx hb dX13_readsSeller_61 (by decide) ?_
      refine lv_sipush (v := 9999) hx hb dX13_readsSeller_62 (by decide) ?_
      obtain ⟨r10, ρ11, hc, hf⟩ := fb2 hf
      refine x_i hp (y_V (As := [.int 0, .int 9999]) (rest := [.int 1, .int i4, .ref (adr E 20 0)]) cx hp hl (c_X13_wantsNumber l hN hT e20 hc) (cw_X13_232 cx (mc := 0) (ms := 0) rfl rfl ⟨by decide, by decide⟩) (rC_X13 hN cx hp) rfl rfl (Nat.le_of_ble_eq_true rfl) dX13_readsSeller_65 ⟨Nat.zero_le _, Nat.zero_le _⟩) (fun r_c u_c H locs hq hp => ?_)
      obtain ⟨rfl, e_0, n_u⟩ := hq
      have e20 := e_0
      have fr : ∀ q, q ≠ 20 → u_c q = σ q := fun q h0 => (n_u q h0).trans (fr q h0)
      obtain ⟨u, rfl⟩ : ∃ z, u_c = z := ⟨_, rfl⟩
      obtain ⟨ρ12, hc, hf⟩ := fb hf
      refine x_v hp (y_V (As := [.int i4, .int 1, .int r10]) (rest := []) cx hp hl (c_X13_sets l hN hT e20 hc) (cw_X13_145 cx (mc := 0) (ms := 0) rfl rfl ⟨by decide, by decide⟩) (rC_X13 hN cx hp) rfl rfl (Nat.le_of_ble_eq_true rfl) dX13_readsSeller_68 ⟨Nat.zero_le _, Nat.zero_le _⟩) (fun u_c H locs hq hp => ?_)
      obtain ⟨e_0, n_u⟩ := hq
      have e20 := e_0
      have fr : ∀ q, q ≠ 20 → u_c q = σ q := fun q h0 => (n_u q h0).trans (fr q h0)
      obtain ⟨u, rfl⟩ : ∃ z, u_c = z := ⟨_, rfl⟩
      refine lv_aload_n hx hb dX13_readsSeller_71 rfl (lv_at hl 2 rfl) ?_
      refine lv_iload_n hx hb dX13_readsSeller_72 rfl (lv_at hl 1 rfl) ?_
      refine lv_iconst (v := 2) hx hb dX13_readsSeller_73 (by decide) ?_
      refine lv_aload_n hx hb dX13_readsSeller_74 rfl (lv_at hl 2 rfl) ?_
      refine lv_iconst (v := 0) hx hb dX13_readsSeller_75 (by decide) ?_
      refine lv_bipush (v := 99) hx hb dX13_readsSeller_76 (by decide) ?_
      obtain ⟨r13, ρ14, hc, hf⟩ := fb2 hf
      refine x_i hp (y_V (As := [.int 0, .int 99]) (rest := [.int 2, .int i4, .ref (adr E 20 0)]) cx hp hl (c_X13_wantsNumber l hN hT e20 hc) (cw_X13_232 cx (mc := 0) (ms := 0) rfl rfl ⟨by decide, by decide⟩) (rC_X13 hN cx hp) rfl rfl (Nat.le_of_ble_eq_true rfl) dX13_readsSeller_78 ⟨Nat.zero_le _, Nat.zero_le _⟩) (fun r_c u_c H locs hq hp => ?_)
      obtain ⟨rfl, e_0, n_u⟩ := hq
      have e20 := e_0
      have fr : ∀ q, q ≠ 20 → u_c q = σ q := fun q h0 => (n_u q h0).trans (fr q h0)
      obtain ⟨u, rfl⟩ : ∃ z, u_c = z := ⟨_, rfl⟩
      obtain ⟨ρ15, hc, hf⟩ := fb hf
      refine x_v hp (y_V (As := [.int i4, .int 2, .int r13]) (rest := []) cx hp hl (c_X13_sets l hN hT e20 hc) (cw_X13_145 cx (mc := 0) (ms := 0) rfl rfl ⟨by decide, by decide⟩) (rC_X13 hN cx hp) rfl rfl (Nat.le_of_ble_eq_true rfl) dX13_readsSeller_81 ⟨Nat.zero_le _, Nat.zero_le _⟩) (fun u_c H locs hq hp => ?_)
      obtain ⟨e_0, n_u⟩ := hq
      have e20 := e_0
      have fr : ∀ q, q ≠ 20 → u_c q = σ q := fun q h0 => (n_u q h0).trans (fr q h0)
      obtain ⟨u, rfl⟩ : ∃ z, u_c = z := ⟨_, rfl⟩
      refine lv_aload_n hx hb dX13_readsSeller_84 rfl (lv_at hl 2 rfl) ?_
      refine lv_iload_n hx hb dX13_readsSeller_85 rfl (lv_at hl 1 rfl) ?_
      refine lv_iconst (v := 3) hx hb dX13_readsSeller_86 (by decide) ?_
      refine lv_iconst (v := (-1)) hx hb dX13_readsSeller_87 (by decide) ?_
      obtain ⟨ρ16, hc, hf⟩ := fb hf
      refine x_v hp (y_V (As := [.int i4, .int 3, .int (-1)]) (rest := []) cx hp hl (c_X13_sets l hN hT e20 hc) (cw_X13_145 cx (mc := 0) (ms := 0) rfl rfl ⟨by decide, by decide⟩) (rC_X13 hN cx hp) rfl rfl (Nat.le_of_ble_eq_true rfl) dX13_readsSeller_88 ⟨Nat.zero_le _, Nat.zero_le _⟩) (fun u_c H locs hq hp => ?_)
      obtain ⟨e_0, n_u⟩ := hq
      have e20 := e_0
      have fr : ∀ q, q ≠ 20 → u_c q = σ q := fun q h0 => (n_u q h0).trans (fr q h0)
      obtain ⟨u, rfl⟩ : ∃ z, u_c = z := ⟨_, rfl⟩
      refine lv_aload_n hx hb dX13_readsSeller_91 rfl (lv_at hl 2 rfl) ?_
      refine lv_iload_n hx hb dX13_readsSeller_92 rfl (lv_at hl 1 rfl) ?_
      obtain ⟨ρ17, hc, hf⟩ := fb hf
      refine x_v hp (y_V (As := [.int i4]) (rest := []) cx hp hl (c_X13_readsList l hN hT e20 hc) (cw_X13_238 cx (mc := 0) (ms := 0) rfl rfl ⟨by decide, by decide⟩) (rC_X13 hN cx hp) rfl rfl (Nat.le_of_ble_eq_true rfl) dX13_readsSeller_93 ⟨Nat.zero_le _, Nat.zero_le _⟩) (fun u_c H locs hq hp => ?_)
      obtain ⟨e_0, n_u⟩ := hq
      have e20 := e_0
      have fr : ∀ q, q ≠ 20 → u_c q = σ q := fun q h0 => (n_u q h0).trans (fr q h0)
      obtain ⟨u, rfl⟩ : ∃ z, u_c = z := ⟨_, rfl⟩
      refine lv_aload_n hx hb dX13_readsSeller_96 rfl (lv_at hl 2 rfl) ?_
      refine lv_iload_n hx hb dX13_readsSeller_97 rfl (lv_at hl 1 rfl) ?_
      obtain ⟨ρ18, hc, hf⟩ := fb hf
      refine x_v hp (y_V (As := [.int i4]) (rest := []) cx hp hl (c_X13_readsPlace l hN hT e20 hc) (cw_X13_241 cx (mc := 0) (ms := 0) rfl rfl ⟨by decide, by decide⟩) (rC_X13 hN cx hp) rfl rfl (Nat.le_of_ble_eq_true rfl) dX13_readsSeller_98 ⟨Nat.zero_le _, Nat.zero_le _⟩) (fun u_c H locs hq hp => ?_)
      obtain ⟨e_0, n_u⟩ := hq
      have e20 := e_0
      have fr : ∀ q, q ≠ 20 → u_c q = σ q := fun q h0 => (n_u q h0).trans (fr q h0)
      obtain ⟨u, rfl⟩ : ∃ z, u_c = z := ⟨_, rfl⟩
      refine lv_aload_n hx hb dX13_readsSeller_101 rfl (lv_at hl 2 rfl) ?_
      obtain ⟨ρ19, hc, hf⟩ := fb hf
      refine x_v hp (y_V (As := []) (rest := []) cx hp hl (c_X13_wantsSemicolon l hN hT e20 hc) (cw_X13_235 cx (mc := 0) (ms := 0) rfl rfl ⟨by decide, by decide⟩) (rC_X13 hN cx hp) rfl rfl (Nat.le_of_ble_eq_true rfl) dX13_readsSeller_102 ⟨Nat.zero_le _, Nat.zero_le _⟩) (fun u_c H locs hq hp => ?_)
      obtain ⟨e_0, n_u⟩ := hq
      have e20 := e_0
      have fr : ∀ q, q ≠ 20 → u_c q = σ q := fun q h0 => (n_u q h0).trans (fr q h0)
      obtain ⟨u, rfl⟩ : ∃ z, u_c = z := ⟨_, rfl⟩
      refine lv_aload_n hx hb dX13_readsSeller_105 rfl (lv_at hl 2 rfl) ?_
      refine gF_X13_7 rfl hN cx hp dX13_readsSeller_106 ?_
      refine lv_sipush (v := 129) hx hb dX13_readsSeller_109 (by decide) ?_
      refine lv_iload_n hx hb dX13_readsSeller_112 rfl (lv_at hl 1 rfl) ?_
      refine lv_iadd hx hb dX13_readsSeller_113 ?_
      refine lv_iload_n hx hb dX13_readsSeller_114 rfl (lv_at hl 1 rfl) ?_
      obtain ⟨g_i, hf⟩ := fg hf
      obtain ⟨ρ20, e_l, hf⟩ := fl hf
      refine sA_X13_1 e20 hN cx hp g_i dX13_readsSeller_115 (fun u H locs e_u n_u hp => ?_)
      have e20 := e_u.trans e_l
      have fr : ∀ q, q ≠ 20 → u q = σ q := fun q h0 => (n_u q h0).trans (fr q h0)
      refine lv_aload_n hx hb dX13_readsSeller_116 rfl (lv_at hl 2 rfl) ?_
      refine gF_X13_7 rfl hN cx hp dX13_readsSeller_117 ?_
      refine lv_iconst (v := 0) hx hb dX13_readsSeller_120 (by decide) ?_
      refine lv_dup2_11 hx hb dX13_readsSeller_121 rfl rfl ?_
      obtain ⟨g_i, hf⟩ := fg hf
      refine lA_X13_1 e20 hN cx hp g_i dX13_readsSeller_122 ?_
      refine lv_iconst (v := 1) hx hb dX13_readsSeller_123 (by decide) ?_
      refine lv_iadd hx hb dX13_readsSeller_124 ?_
      obtain ⟨g_i, hf⟩ := fg hf
      obtain ⟨ρ21, e_l, hf⟩ := fl hf
      refine sA_X13_1 e20 hN cx hp g_i dX13_readsSeller_125 (fun u H locs e_u n_u hp => ?_)
      have e20 := e_u.trans e_l
      have fr : ∀ q, q ≠ 20 → u q = σ q := fun q h0 => (n_u q h0).trans (fr q h0)
      cases hf
      exact r_v cx hp ⟨e20, fr⟩ dX13_readsSeller_126
    · have hf := fp hf c7
      refine lv_aload_n hx hb dX13_readsSeller_32 rfl (lv_at hl 2 rfl) ?_
      refine lv_iload_n hx hb dX13_readsSeller_33 rfl (lv_at hl 0 rfl) ?_
      obtain ⟨r22, hc, hf⟩ := fb hf
      refine x_i hp (y_V (As := [.int r5]) (rest := []) cx hp hl (c_X13_sellerNamed l hN hT e20 hc) (cw_X13_226 cx (mc := 0) (ms := 0) rfl rfl ⟨by decide, by decide⟩) (rC_X13 hN cx hp) rfl rfl (Nat.le_of_ble_eq_true rfl) dX13_readsSeller_34 ⟨Nat.zero_le _, Nat.zero_le _⟩) (fun r_c u_c H locs hq hp => ?_)
      obtain ⟨rfl, rfl⟩ := hq
      refine lv_iconst (v := (-1)) hx hb dX13_readsSeller_37 (by decide) ?_
      refine lv_icmp_eq (tgt := 46) hx hb dX13_readsSeller_38 (by decide) (fun c23 => ?_) (fun c23 => ?_)
      · have hf := fp hf c23
        refine lv_aload_n hx hb dX13_readsSeller_46 rfl (lv_at hl 2 rfl) ?_
        obtain ⟨ρ24, hc, hf⟩ := fb hf
        refine x_v hp (y_V (As := []) (rest := []) cx hp hl (c_X13_goesOn l hN hT e20 hc) (cw_X13_209 cx (mc := 0) (ms := 0) rfl rfl ⟨by decide, by decide⟩) (rC_X13 hN cx hp) rfl rfl (Nat.le_of_ble_eq_true rfl) dX13_readsSeller_47 ⟨Nat.zero_le _, Nat.zero_le _⟩) (fun u_c H locs hq hp => ?_)
        obtain ⟨e_0, n_u⟩ := hq
        have e20 := e_0
        have fr : ∀ q, q ≠ 20 → u_c q = σ q := fun q h0 => (n_u q h0).trans (fr q h0)
        obtain ⟨u, rfl⟩ : ∃ z, u_c = z := ⟨_, rfl⟩
        refine lv_aload_n hx hb dX13_readsSeller_50 rfl (lv_at hl 2 rfl) ?_
        refine lv_iload_n hx hb dX13_readsSeller_51 rfl (lv_at hl 1 rfl) ?_
        refine lv_iconst (v := 0) hx hb dX13_readsSeller_52 (by decide) ?_
        refine lv_iload_n hx hb dX13_readsSeller_53 rfl (lv_at hl 0 rfl) ?_
        obtain ⟨ρ25, hc, hf⟩ := fb hf
        refine x_v hp (y_V (As := [.int i4, .int 0, .int r5]) (rest := []) cx hp hl (c_X13_sets l hN hT e20 hc) (cw_X13_145 cx (mc := 0) (ms := 0) rfl rfl ⟨by decide, by decide⟩) (rC_X13 hN cx hp) rfl rfl (Nat.le_of_ble_eq_true rfl) dX13_readsSeller_54 ⟨Nat.zero_le _, Nat.zero_le _⟩) (fun u_c H locs hq hp => ?_)
        obtain ⟨e_0, n_u⟩ := hq
        have e20 := e_0
        have fr : ∀ q, q ≠ 20 → u_c q = σ q := fun q h0 => (n_u q h0).trans (fr q h0)
        obtain ⟨u, rfl⟩ : ∃ z, u_c = z := ⟨_, rfl⟩
        refine lv_aload_n hx hb dX13_readsSeller_57 rfl (lv_at hl 2 rfl) ?_
        refine lv_iload_n hx hb dX13_readsSeller_58 rfl (lv_at hl 1 rfl) ?_
        refine lv_iconst (v := 1) hx hb dX13_readsSeller_59 (by decide) ?_
        refine lv_aload_n hx hb dX13_readsSeller_60 rfl (lv_at hl 2 rfl) ?_
        refine lv_iconst (v := 0) hx hb dX13_readsSeller_61 (by decide) ?_
        refine lv_sipush (v := 9999) hx hb dX13_readsSeller_62 (by decide) ?_
        obtain ⟨r26, ρ27, hc, hf⟩ := fb2 hf
        refine x_i hp (y_V (As := [.int 0, .int 9999]) (rest := [.int 1, .int i4, .ref (adr E 20 0)]) cx hp hl (c_X13_wantsNumber l hN hT e20 hc) (cw_X13_232 cx (mc := 0) (ms := 0) rfl rfl ⟨by decide, by decide⟩) (rC_X13 hN cx hp) rfl rfl (Nat.le_of_ble_eq_true rfl) dX13_readsSeller_65 ⟨Nat.zero_le _, Nat.zero_le _⟩) (fun r_c u_c H locs hq hp => ?_)
        obtain ⟨rfl, e_0, n_u⟩ := hq
        have e20 := e_0
        have fr : ∀ q, q ≠ 20 → u_c q = σ q := fun q h0 => (n_u q h0).trans (fr q h0)
        obtain ⟨u, rfl⟩ : ∃ z, u_c = z := ⟨_, rfl⟩
        obtain ⟨ρ28, hc, hf⟩ := fb hf
        refine x_v hp (y_V (As := [.int i4, .int 1, .int r26]) (rest := []) cx hp hl (c_X13_sets l hN hT e20 hc) (cw_X13_145 cx (mc := 0) (ms := 0) rfl rfl ⟨by decide, by decide⟩) (rC_X13 hN cx hp) rfl rfl (Nat.le_of_ble_eq_true rfl) dX13_readsSeller_68 ⟨Nat.zero_le _, Nat.zero_le _⟩) (fun u_c H locs hq hp => ?_)
        obtain ⟨e_0, n_u⟩ := hq
        have e20 := e_0
        have fr : ∀ q, q ≠ 20 → u_c q = σ q := fun q h0 => (n_u q h0).trans (fr q h0)
        obtain ⟨u, rfl⟩ : ∃ z, u_c = z := ⟨_, rfl⟩
        refine lv_aload_n hx hb dX13_readsSeller_71 rfl (lv_at hl 2 rfl) ?_
        refine lv_iload_n hx hb dX13_readsSeller_72 rfl (lv_at hl 1 rfl) ?_
        refine lv_iconst (v := 2) hx hb dX13_readsSeller_73 (by decide) ?_
        refine lv_aload_n hx hb dX13_readsSeller_74 rfl (lv_at hl 2 rfl) ?_
        refine lv_iconst (v := 0) hx hb dX13_readsSeller_75 (by decide) ?_
        refine lv_bipush (v := 99) hx hb dX13_readsSeller_76 (by decide) ?_
        obtain ⟨r29, ρ30, hc, hf⟩ := fb2 hf
        refine x_i hp (y_V (As := [.int 0, .int 99]) (rest := [.int 2, .int i4, .ref (adr E 20 0)]) cx hp hl (c_X13_wantsNumber l hN hT e20 hc) (cw_X13_232 cx (mc := 0) (ms := 0) rfl rfl ⟨by decide, by decide⟩) (rC_X13 hN cx hp) rfl rfl (Nat.le_of_ble_eq_true rfl) dX13_readsSeller_78 ⟨Nat.zero_le _, Nat.zero_le _⟩) (fun r_c u_c H locs hq hp => ?_)
        obtain ⟨rfl, e_0, n_u⟩ := hq
        have e20 := e_0
        have fr : ∀ q, q ≠ 20 → u_c q = σ q := fun q h0 => (n_u q h0).trans (fr q h0)
        obtain ⟨u, rfl⟩ : ∃ z, u_c = z := ⟨_, rfl⟩
        obtain ⟨ρ31, hc, hf⟩ := fb hf
        refine x_v hp (y_V (As := [.int i4, .int 2, .int r29]) (rest := []) cx hp hl (c_X13_sets l hN hT e20 hc) (cw_X13_145 cx (mc := 0) (ms := 0) rfl rfl ⟨by decide, by decide⟩) (rC_X13 hN cx hp) rfl rfl (Nat.le_of_ble_eq_true rfl) dX13_readsSeller_81 ⟨Nat.zero_le _, Nat.zero_le _⟩) (fun u_c H locs hq hp => ?_)
        obtain ⟨e_0, n_u⟩ := hq
        have e20 := e_0
        have fr : ∀ q, q ≠ 20 → u_c q = σ q := fun q h0 => (n_u q h0).trans (fr q h0)
        obtain ⟨u, rfl⟩ : ∃ z, u_c = z := ⟨_, rfl⟩
        refine lv_aload_n hx hb dX13_readsSeller_84 rfl (lv_at hl 2 rfl) ?_
        refine lv_iload_n hx hb dX13_readsSeller_85 rfl (lv_at hl 1 rfl) ?_
        refine lv_iconst (v := 3) hx hb dX13_readsSeller_86 (by decide) ?_
        refine lv_iconst (v := (-1)) hx hb dX13_readsSeller_87 (by decide) ?_
        obtain ⟨ρ32, hc, hf⟩ := fb hf
        refine x_v hp (y_V (As := [.int i4, .int 3, .int (-1)]) (rest := []) cx hp hl (c_X13_sets l hN hT e20 hc) (cw_X13_145 cx (mc := 0) (ms := 0) rfl rfl ⟨by decide, by decide⟩) (rC_X13 hN cx hp) rfl rfl (Nat.le_of_ble_eq_true rfl) dX13_readsSeller_88 ⟨Nat.zero_le _, Nat.zero_le _⟩) (fun u_c H locs hq hp => ?_)
        obtain ⟨e_0, n_u⟩ := hq
        have e20 := e_0
        have fr : ∀ q, q ≠ 20 → u_c q = σ q := fun q h0 => (n_u q h0).trans (fr q h0)
        obtain ⟨u, rfl⟩ : ∃ z, u_c = z := ⟨_, rfl⟩
        refine lv_aload_n hx hb dX13_readsSeller_91 rfl (lv_at hl 2 rfl) ?_
        refine lv_iload_n hx hb dX13_readsSeller_92 rfl (lv_at hl 1 rfl) ?_
        obtain ⟨ρ33, hc, hf⟩ := fb hf
        refine x_v hp (y_V (As := [.int i4]) (rest := []) cx hp hl (c_X13_readsList l hN hT e20 hc) (cw_X13_238 cx (mc := 0) (ms := 0) rfl rfl ⟨by decide, by decide⟩) (rC_X13 hN cx hp) rfl rfl (Nat.le_of_ble_eq_true rfl) dX13_readsSeller_93 ⟨Nat.zero_le _, Nat.zero_le _⟩) (fun u_c H locs hq hp => ?_)
        obtain ⟨e_0, n_u⟩ := hq
        have e20 := e_0
        have fr : ∀ q, q ≠ 20 → u_c q = σ q := fun q h0 => (n_u q h0).trans (fr q h0)
        obtain ⟨u, rfl⟩ : ∃ z, u_c = z := ⟨_, rfl⟩
        refine lv_aload_n hx hb dX13_readsSeller_96 rfl (lv_at hl 2 rfl) ?_
        refine lv_iload_n hx hb dX13_readsSeller_97 rfl (lv_at hl 1 rfl) ?_
        obtain ⟨ρ34, hc, hf⟩ := fb hf
        refine x_v hp (y_V (As := [.int i4]) (rest := []) cx hp hl (c_X13_readsPlace l hN hT e20 hc) (cw_X13_241 cx (mc := 0) (ms := 0) rfl rfl ⟨by decide, by decide⟩) (rC_X13 hN cx hp) rfl rfl (Nat.le_of_ble_eq_true rfl) dX13_readsSeller_98 ⟨Nat.zero_le _, Nat.zero_le _⟩) (fun u_c H locs hq hp => ?_)
        obtain ⟨e_0, n_u⟩ := hq
        have e20 := e_0
        have fr : ∀ q, q ≠ 20 → u_c q = σ q := fun q h0 => (n_u q h0).trans (fr q h0)
        obtain ⟨u, rfl⟩ : ∃ z, u_c = z := ⟨_, rfl⟩
        refine lv_aload_n hx hb dX13_readsSeller_101 rfl (lv_at hl 2 rfl) ?_
        obtain ⟨ρ35, hc, hf⟩ := fb hf
        refine x_v hp (y_V (As := []) (rest := []) cx hp hl (c_X13_wantsSemicolon l hN hT e20 hc) (cw_X13_235 cx (mc := 0) (ms := 0) rfl rfl ⟨by decide, by decide⟩) (rC_X13 hN cx hp) rfl rfl (Nat.le_of_ble_eq_true rfl) dX13_readsSeller_102 ⟨Nat.zero_le _, Nat.zero_le _⟩) (fun u_c H locs hq hp => ?_)
        obtain ⟨e_0, n_u⟩ := hq
        have e20 := e_0
        have fr : ∀ q, q ≠ 20 → u_c q = σ q := fun q h0 => (n_u q h0).trans (fr q h0)
        obtain ⟨u, rfl⟩ : ∃ z, u_c = z := ⟨_, rfl⟩
        refine lv_aload_n hx hb dX13_readsSeller_105 rfl (lv_at hl 2 rfl) ?_
        refine gF_X13_7 rfl hN cx hp dX13_readsSeller_106 ?_
        refine lv_sipush (v := 129) hx hb dX13_readsSeller_109 (by decide) ?_
        refine lv_iload_n hx hb dX13_readsSeller_112 rfl (lv_at hl 1 rfl) ?_
        refine lv_iadd hx hb dX13_readsSeller_113 ?_
        refine lv_iload_n hx hb dX13_readsSeller_114 rfl (lv_at hl 1 rfl) ?_
        obtain ⟨g_i, hf⟩ := fg hf
        obtain ⟨ρ36, e_l, hf⟩ := fl hf
        refine sA_X13_1 e20 hN cx hp g_i dX13_readsSeller_115 (fun u H locs e_u n_u hp => ?_)
        have e20 := e_u.trans e_l
        have fr : ∀ q, q ≠ 20 → u q = σ q := fun q h0 => (n_u q h0).trans (fr q h0)
        refine lv_aload_n hx hb dX13_readsSeller_116 rfl (lv_at hl 2 rfl) ?_
        refine gF_X13_7 rfl hN cx hp dX13_readsSeller_117 ?_
        refine lv_iconst (v := 0) hx hb dX13_readsSeller_120 (by decide) ?_
        refine lv_dup2_11 hx hb dX13_readsSeller_121 rfl rfl ?_
        obtain ⟨g_i, hf⟩ := fg hf
        refine lA_X13_1 e20 hN cx hp g_i dX13_readsSeller_122 ?_
        refine lv_iconst (v := 1) hx hb dX13_readsSeller_123 (by decide) ?_
        refine lv_iadd hx hb dX13_readsSeller_124 ?_
        obtain ⟨g_i, hf⟩ := fg hf
        obtain ⟨ρ37, e_l, hf⟩ := fl hf
        refine sA_X13_1 e20 hN cx hp g_i dX13_readsSeller_125 (fun u H locs e_u n_u hp => ?_)
        have e20 := e_u.trans e_l
        have fr : ∀ q, q ≠ 20 → u q = σ q := fun q h0 => (n_u q h0).trans (fr q h0)
        cases hf
        exact r_v cx hp ⟨e20, fr⟩ dX13_readsSeller_126
      · have hf := fn hf c23
        refine lv_aload_n hx hb dX13_readsSeller_41 rfl (lv_at hl 2 rfl) ?_
        refine lv_iconst (v := 3) hx hb dX13_readsSeller_42 (by decide) ?_
        obtain ⟨ρ38, hc, hf⟩ := fb hf
        refine x_v hp (y_V (As := [.int 3]) (rest := []) cx hp hl (c_X13_wrong l hN hT e20 hc) (cw_X13_206 cx (mc := 0) (ms := 0) rfl rfl ⟨by decide, by decide⟩) (rC_X13 hN cx hp) rfl rfl (Nat.le_of_ble_eq_true rfl) dX13_readsSeller_43 ⟨Nat.zero_le _, Nat.zero_le _⟩) (fun u_c H locs hq hp => ?_)
        obtain ⟨e_0, n_u⟩ := hq
        have e20 := e_0
        have fr : ∀ q, q ≠ 20 → u_c q = σ q := fun q h0 => (n_u q h0).trans (fr q h0)
        obtain ⟨u, rfl⟩ : ∃ z, u_c = z := ⟨_, rfl⟩
        refine lv_aload_n hx hb dX13_readsSeller_46 rfl (lv_at hl 2 rfl) ?_
        obtain ⟨ρ39, hc, hf⟩ := fb hf
        refine x_v hp (y_V (As := []) (rest := []) cx hp hl (c_X13_goesOn l hN hT e20 hc) (cw_X13_209 cx (mc := 0) (ms := 0) rfl rfl ⟨by decide, by decide⟩) (rC_X13 hN cx hp) rfl rfl (Nat.le_of_ble_eq_true rfl) dX13_readsSeller_47 ⟨Nat.zero_le _, Nat.zero_le _⟩) (fun u_c H locs hq hp => ?_)
        obtain ⟨e_0, n_u⟩ := hq
        have e20 := e_0
        have fr : ∀ q, q ≠ 20 → u_c q = σ q := fun q h0 => (n_u q h0).trans (fr q h0)
        obtain ⟨u, rfl⟩ : ∃ z, u_c = z := ⟨_, rfl⟩
        refine lv_aload_n hx hb dX13_readsSeller_50 rfl (lv_at hl 2 rfl) ?_
        refine lv_iload_n hx hb dX13_readsSeller_51 rfl (lv_at hl 1 rfl) ?_
        refine lv_iconst (v := 0) hx hb dX13_readsSeller_52 (by decide) ?_
        refine lv_iload_n hx hb dX13_readsSeller_53 rfl (lv_at hl 0 rfl) ?_
        obtain ⟨ρ40, hc, hf⟩ := fb hf
        refine x_v hp (y_V (As := [.int i4, .int 0, .int r5]) (rest := []) cx hp hl (c_X13_sets l hN hT e20 hc) (cw_X13_145 cx (mc := 0) (ms := 0) rfl rfl ⟨by decide, by decide⟩) (rC_X13 hN cx hp) rfl rfl (Nat.le_of_ble_eq_true rfl) dX13_readsSeller_54 ⟨Nat.zero_le _, Nat.zero_le _⟩) (fun u_c H locs hq hp => ?_)
        obtain ⟨e_0, n_u⟩ := hq
        have e20 := e_0
        have fr : ∀ q, q ≠ 20 → u_c q = σ q := fun q h0 => (n_u q h0).trans (fr q h0)
        obtain ⟨u, rfl⟩ : ∃ z, u_c = z := ⟨_, rfl⟩
        refine lv_aload_n hx hb dX13_readsSeller_57 rfl (lv_at hl 2 rfl) ?_
        refine lv_iload_n hx hb dX13_readsSeller_58 rfl (lv_at hl 1 rfl) ?_
        refine lv_iconst (v := 1) hx hb dX13_readsSeller_59 (by decide) ?_
        refine lv_aload_n hx hb dX13_readsSeller_60 rfl (lv_at hl 2 rfl) ?_
        refine lv_iconst (v := 0) hx hb dX13_readsSeller_61 (by decide) ?_
        refine lv_sipush (v := 9999) hx hb dX13_readsSeller_62 (by decide) ?_
        obtain ⟨r41, ρ42, hc, hf⟩ := fb2 hf
        refine x_i hp (y_V (As := [.int 0, .int 9999]) (rest := [.int 1, .int i4, .ref (adr E 20 0)]) cx hp hl (c_X13_wantsNumber l hN hT e20 hc) (cw_X13_232 cx (mc := 0) (ms := 0) rfl rfl ⟨by decide, by decide⟩) (rC_X13 hN cx hp) rfl rfl (Nat.le_of_ble_eq_true rfl) dX13_readsSeller_65 ⟨Nat.zero_le _, Nat.zero_le _⟩) (fun r_c u_c H locs hq hp => ?_)
        obtain ⟨rfl, e_0, n_u⟩ := hq
        have e20 := e_0
        have fr : ∀ q, q ≠ 20 → u_c q = σ q := fun q h0 => (n_u q h0).trans (fr q h0)
        obtain ⟨u, rfl⟩ : ∃ z, u_c = z := ⟨_, rfl⟩
        obtain ⟨ρ43, hc, hf⟩ := fb hf
        refine x_v hp (y_V (As := [.int i4, .int 1, .int r41]) (rest := []) cx hp hl (c_X13_sets l hN hT e20 hc) (cw_X13_145 cx (mc := 0) (ms := 0) rfl rfl ⟨by decide, by decide⟩) (rC_X13 hN cx hp) rfl rfl (Nat.le_of_ble_eq_true rfl) dX13_readsSeller_68 ⟨Nat.zero_le _, Nat.zero_le _⟩) (fun u_c H locs hq hp => ?_)
        obtain ⟨e_0, n_u⟩ := hq
        have e20 := e_0
        have fr : ∀ q, q ≠ 20 → u_c q = σ q := fun q h0 => (n_u q h0).trans (fr q h0)
        obtain ⟨u, rfl⟩ : ∃ z, u_c = z := ⟨_, rfl⟩
        refine lv_aload_n hx hb dX13_readsSeller_71 rfl (lv_at hl 2 rfl) ?_
        refine lv_iload_n hx hb dX13_readsSeller_72 rfl (lv_at hl 1 rfl) ?_
        refine lv_iconst (v := 2) hx hb dX13_readsSeller_73 (by decide) ?_
        refine lv_aload_n hx hb dX13_readsSeller_74 rfl (lv_at hl 2 rfl) ?_
        refine lv_iconst (v := 0) hx hb dX13_readsSeller_75 (by decide) ?_
        refine lv_bipush (v := 99) hx hb dX13_readsSeller_76 (by decide) ?_
        obtain ⟨r44, ρ45, hc, hf⟩ := fb2 hf
        refine x_i hp (y_V (As := [.int 0, .int 99]) (rest := [.int 2, .int i4, .ref (adr E 20 0)]) cx hp hl (c_X13_wantsNumber l hN hT e20 hc) (cw_X13_232 cx (mc := 0) (ms := 0) rfl rfl ⟨by decide, by decide⟩) (rC_X13 hN cx hp) rfl rfl (Nat.le_of_ble_eq_true rfl) dX13_readsSeller_78 ⟨Nat.zero_le _, Nat.zero_le _⟩) (fun r_c u_c H locs hq hp => ?_)
        obtain ⟨rfl, e_0, n_u⟩ := hq
        have e20 := e_0
        have fr : ∀ q, q ≠ 20 → u_c q = σ q := fun q h0 => (n_u q h0).trans (fr q h0)
        obtain ⟨u, rfl⟩ : ∃ z, u_c = z := ⟨_, rfl⟩
        obtain ⟨ρ46, hc, hf⟩ := fb hf
        refine x_v hp (y_V (As := [.int i4, .int 2, .int r44]) (rest := []) cx hp hl (c_X13_sets l hN hT e20 hc) (cw_X13_145 cx (mc := 0) (ms := 0) rfl rfl ⟨by decide, by decide⟩) (rC_X13 hN cx hp) rfl rfl (Nat.le_of_ble_eq_true rfl) dX13_readsSeller_81 ⟨Nat.zero_le _, Nat.zero_le _⟩) (fun u_c H locs hq hp => ?_)
        obtain ⟨e_0, n_u⟩ := hq
        have e20 := e_0
        have fr : ∀ q, q ≠ 20 → u_c q = σ q := fun q h0 => (n_u q h0).trans (fr q h0)
        obtain ⟨u, rfl⟩ : ∃ z, u_c = z := ⟨_, rfl⟩
        refine lv_aload_n hx hb dX13_readsSeller_84 rfl (lv_at hl 2 rfl) ?_
        refine lv_iload_n hx hb dX13_readsSeller_85 rfl (lv_at hl 1 rfl) ?_
        refine lv_iconst (v := 3) hx hb dX13_readsSeller_86 (by decide) ?_
        refine lv_iconst (v := (-1)) hx hb dX13_readsSeller_87 (by decide) ?_
        obtain ⟨ρ47, hc, hf⟩ := fb hf
        refine x_v hp (y_V (As := [.int i4, .int 3, .int (-1)]) (rest := []) cx hp hl (c_X13_sets l hN hT e20 hc) (cw_X13_145 cx (mc := 0) (ms := 0) rfl rfl ⟨by decide, by decide⟩) (rC_X13 hN cx hp) rfl rfl (Nat.le_of_ble_eq_true rfl) dX13_readsSeller_88 ⟨Nat.zero_le _, Nat.zero_le _⟩) (fun u_c H locs hq hp => ?_)
        obtain ⟨e_0, n_u⟩ := hq
        have e20 := e_0
        have fr : ∀ q, q ≠ 20 → u_c q = σ q := fun q h0 => (n_u q h0).trans (fr q h0)
        obtain ⟨u, rfl⟩ : ∃ z, u_c = z := ⟨_, rfl⟩
        refine lv_aload_n hx hb dX13_readsSeller_91 rfl (lv_at hl 2 rfl) ?_
        refine lv_iload_n hx hb dX13_readsSeller_92 rfl (lv_at hl 1 rfl) ?_
        obtain ⟨ρ48, hc, hf⟩ := fb hf
        refine x_v hp (y_V (As := [.int i4]) (rest := []) cx hp hl (c_X13_readsList l hN hT e20 hc) (cw_X13_238 cx (mc := 0) (ms := 0) rfl rfl ⟨by decide, by decide⟩) (rC_X13 hN cx hp) rfl rfl (Nat.le_of_ble_eq_true rfl) dX13_readsSeller_93 ⟨Nat.zero_le _, Nat.zero_le _⟩) (fun u_c H locs hq hp => ?_)
        obtain ⟨e_0, n_u⟩ := hq
        have e20 := e_0
        have fr : ∀ q, q ≠ 20 → u_c q = σ q := fun q h0 => (n_u q h0).trans (fr q h0)
        obtain ⟨u, rfl⟩ : ∃ z, u_c = z := ⟨_, rfl⟩
        refine lv_aload_n hx hb dX13_readsSeller_96 rfl (lv_at hl 2 rfl) ?_
        refine lv_iload_n hx hb dX13_readsSeller_97 rfl (lv_at hl 1 rfl) ?_
        obtain ⟨ρ49, hc, hf⟩ := fb hf
        refine x_v hp (y_V (As := [.int i4]) (rest := []) cx hp hl (c_X13_readsPlace l hN hT e20 hc) (cw_X13_241 cx (mc := 0) (ms := 0) rfl rfl ⟨by decide, by decide⟩) (rC_X13 hN cx hp) rfl rfl (Nat.le_of_ble_eq_true rfl) dX13_readsSeller_98 ⟨Nat.zero_le _, Nat.zero_le _⟩) (fun u_c H locs hq hp => ?_)
        obtain ⟨e_0, n_u⟩ := hq
        have e20 := e_0
        have fr : ∀ q, q ≠ 20 → u_c q = σ q := fun q h0 => (n_u q h0).trans (fr q h0)
        obtain ⟨u, rfl⟩ : ∃ z, u_c = z := ⟨_, rfl⟩
        refine lv_aload_n hx hb dX13_readsSeller_101 rfl (lv_at hl 2 rfl) ?_
        obtain ⟨ρ50, hc, hf⟩ := fb hf
        refine x_v hp (y_V (As := []) (rest := []) cx hp hl (c_X13_wantsSemicolon l hN hT e20 hc) (cw_X13_235 cx (mc := 0) (ms := 0) rfl rfl ⟨by decide, by decide⟩) (rC_X13 hN cx hp) rfl rfl (Nat.le_of_ble_eq_true rfl) dX13_readsSeller_102 ⟨Nat.zero_le _, Nat.zero_le _⟩) (fun u_c H locs hq hp => ?_)
        obtain ⟨e_0, n_u⟩ := hq
        have e20 := e_0
        have fr : ∀ q, q ≠ 20 → u_c q = σ q := fun q h0 => (n_u q h0).trans (fr q h0)
        obtain ⟨u, rfl⟩ : ∃ z, u_c = z := ⟨_, rfl⟩
        refine lv_aload_n hx hb dX13_readsSeller_105 rfl (lv_at hl 2 rfl) ?_
        refine gF_X13_7 rfl hN cx hp dX13_readsSeller_106 ?_
        refine lv_sipush (v := 129) hx hb dX13_readsSeller_109 (by decide) ?_
        refine lv_iload_n hx hb dX13_readsSeller_112 rfl (lv_at hl 1 rfl) ?_
        refine lv_iadd hx hb dX13_readsSeller_113 ?_
        refine lv_iload_n hx hb dX13_readsSeller_114 rfl (lv_at hl 1 rfl) ?_
        obtain ⟨g_i, hf⟩ := fg hf
        obtain ⟨ρ51, e_l, hf⟩ := fl hf
        refine sA_X13_1 e20 hN cx hp g_i dX13_readsSeller_115 (fun u H locs e_u n_u hp => ?_)
        have e20 := e_u.trans e_l
        have fr : ∀ q, q ≠ 20 → u q = σ q := fun q h0 => (n_u q h0).trans (fr q h0)
        refine lv_aload_n hx hb dX13_readsSeller_116 rfl (lv_at hl 2 rfl) ?_
        refine gF_X13_7 rfl hN cx hp dX13_readsSeller_117 ?_
        refine lv_iconst (v := 0) hx hb dX13_readsSeller_120 (by decide) ?_
        refine lv_dup2_11 hx hb dX13_readsSeller_121 rfl rfl ?_
        obtain ⟨g_i, hf⟩ := fg hf
        refine lA_X13_1 e20 hN cx hp g_i dX13_readsSeller_122 ?_
        refine lv_iconst (v := 1) hx hb dX13_readsSeller_123 (by decide) ?_
        refine lv_iadd hx hb dX13_readsSeller_124 ?_
        obtain ⟨g_i, hf⟩ := fg hf
        obtain ⟨ρ52, e_l, hf⟩ := fl hf
        refine sA_X13_1 e20 hN cx hp g_i dX13_readsSeller_125 (fun u H locs e_u n_u hp => ?_)
        have e20 := e_u.trans e_l
        have fr : ∀ q, q ≠ 20 → u q = σ q := fun q h0 => (n_u q h0).trans (fr q h0)
        cases hf
        exact r_v cx hp ⟨e20, fr⟩ dX13_readsSeller_126
abbrev rm_X13_balances : Room := { frames := 1, cells := 0, slots := 0, locals := 22 }
set_option maxRecDepth 100000 in
set_option maxHeartbeats 4000000 in
theorem L_X13_balances_4 {p : Program} {e : Env} {s : State} {m : MethodId} {args : Array Value} {below : List Frame} {meth : Method} {c : Code} (l : Launch) {E : Ev} (hN : 146 ≤ eN E) (hT : St E) {σ : SM} (cx : Cx E p s m meth c args RX13 cX13_balances 3 (some .int)) {ρ : OM} {rv : Int32} : ∀ (n : Nat) {x2 : Int32} {x1 : Int32}, f_X13_balances_4 ρ n x2 x1 = some rv → ∀ {u : SM} {H : Heap} {locs : List Loc} {ls : Array Slot}, u 20 = ρ → (∀ q, u q = σ q) → Hp E u s H locs → lv_has ls 3 [(0, .ref (adr E 20 0)), (1, .int x1), (2, .int x2)] → W p l e rm_X13_balances s m args below meth c H locs 0 0 (MQ below (va_Qi (fun r u => rv = r ∧ σ = u) (fun u t => Wu E u t) (eA E)) args s 0 0 (eA E)) (F0 m 4 ls []) := by
  have hx := cx.1.1
  have hb := cx.1.2.1
  intro n
  induction n with
  | zero =>
    intro x2 x1 hf
    exact absurd hf (by simp [f_X13_balances_4])
  | succ n ih =>
    intro x2 x1 hf u H locs ls e20 fr hp hl
    rw [f_X13_balances_4] at hf
    refine lv_iload_n hx hb dX13_balances_4 rfl (lv_at hl 2 rfl) ?_
    refine lv_aload_n hx hb dX13_balances_5 rfl (lv_at hl 0 rfl) ?_
    refine gF_X13_7 rfl hN cx hp dX13_balances_6 ?_
    refine lv_iconst (v := 0) hx hb dX13_balances_9 (by decide) ?_
    obtain ⟨g_i, hf⟩ := fg hf
    refine lA_X13_1 e20 hN cx hp g_i dX13_balances_10 ?_
    refine lv_icmp_ge (tgt := 29) hx hb dX13_balances_11 (by decide) (fun c1 => ?_) (fun c1 => ?_)
    · have hf := fp hf c1
      refine lv_iload_n hx hb dX13_balances_29 rfl (lv_at hl 1 rfl) ?_
      cases hf
      exact r_i cx hp ⟨rfl, (funext fr).symm⟩ dX13_balances_30
    · have hf := fn hf c1
      refine lv_iload_n hx hb dX13_balances_14 rfl (lv_at hl 1 rfl) ?_
      refine lv_aload_n hx hb dX13_balances_15 rfl (lv_at hl 0 rfl) ?_
      refine lv_iload_n hx hb dX13_balances_16 rfl (lv_at hl 2 rfl) ?_
      refine lv_iconst (v := 1) hx hb dX13_balances_17 (by decide) ?_
      obtain ⟨r2, hc, hf⟩ := fb hf
      refine x_i hp (y_V (As := [.int x2, .int 1]) (rest := [.int x1]) cx hp hl (c_X13_of l hN hT e20 hc) (cw_X13_98 cx (mc := 0) (ms := 0) rfl rfl ⟨by decide, by decide⟩) (rC_X13 hN cx hp) rfl rfl (Nat.le_of_ble_eq_true rfl) dX13_balances_18 ⟨Nat.zero_le _, Nat.zero_le _⟩) (fun r_c u_c H locs hq hp => ?_)
      obtain ⟨rfl, rfl⟩ := hq
      refine lv_iadd hx hb dX13_balances_21 ?_
      obtain ⟨i3, x_e, hf⟩ := fl hf
      refine lv_nm x_e ?_
      refine lv_istore_n (lv' := [(1, .int i3), (0, .ref (adr E 20 0)), (2, .int x2)]) hx hb dX13_balances_22 rfl hl (by decide) rfl (fun ls hl => ?_)
      refine lv_iinc (v := (x2 + 1)) (lv' := [(2, .int (x2 + 1)), (1, .int i3), (0, .ref (adr E 20 0))]) hx hb dX13_balances_23 hl (k := 2) rfl rfl (by decide) rfl (fun ls hl => ?_)
      refine lv_goto (tgt := 4) hx hb dX13_balances_26 (by decide) ?_
      exact ih  hf e20 fr hp (lv_sub hl [2, 1, 0] rfl)
set_option maxRecDepth 100000 in
set_option maxHeartbeats 4000000 in
theorem c_X13_balances (l : Launch) {E : Ev} (hN : 146 ≤ eN E) (hT : St E) {σ : SM} {ρ : OM} (e20 : σ 20 = ρ)  {rv : Int32} (hf : f_X13_balances ρ = some rv) : Met l yX13_balances (wC yX13_balances cX13_balances 3 (some .int)) rm_X13_balances (va_Pc [.ref (adr E 20 0)] (Wu E σ)) (va_Qi (fun r u => rv = r ∧ σ = u) (fun u t => Wu E u t) (eA E)) 0 0 (eA E) := by
  refine g_entry (lv := [(0, .ref (adr E 20 0))]) (by decide) (Nat.le_of_ble_eq_true rfl) rfl ?_
  intro p e s m below meth c cx hp ls hl
  have hx := cx.1.1
  have hb := cx.1.2.1
  have fr : ∀ q, σ q = σ q := fun _ => rfl
  unfold f_X13_balances at hf
  refine lv_iconst (v := 0) hx hb dX13_balances_0 (by decide) ?_
  refine lv_istore_n (lv' := [(1, .int 0), (0, .ref (adr E 20 0))]) hx hb dX13_balances_1 rfl hl (by decide) rfl (fun ls hl => ?_)
  refine lv_iconst (v := 0) hx hb dX13_balances_2 (by decide) ?_
  refine lv_istore_n (lv' := [(2, .int 0), (1, .int 0), (0, .ref (adr E 20 0))]) hx hb dX13_balances_3 rfl hl (by decide) rfl (fun ls hl => ?_)
  exact L_X13_balances_4 l hN hT cx  _ hf e20 fr hp (lv_sub hl [2, 1, 0] rfl)
abbrev rm_X13_readsSetup : Room := { frames := 8, cells := 0, slots := 0, locals := 173 }
set_option maxRecDepth 100000 in
set_option maxHeartbeats 4000000 in
theorem L_X13_readsSetup_2 {p : Program} {e : Env} {s : State} {m : MethodId} {args : Array Value} {below : List Frame} {meth : Method} {c : Code} (l : Launch) {E : Ev} (hN : 146 ≤ eN E) (hT : St E) {σ : SM} {Q : State → Prop} (cx : Cx E p s m meth c args RX13 cX13_readsSetup 2 none) {ρ' : OM} (K : ∀ (u : SM) (H : Heap) (locs : List Loc) (ls : Array Slot), u 20 = ρ' → (∀ q, q ≠ 20 → u q = σ q) → Hp E u s H locs → lv_has ls 2 [(0, .ref (adr E 20 0))] → W p l e rm_X13_readsSetup s m args below meth c H locs 0 0 Q (F0 m 22 ls [])) : ∀ (n : Nat) {x1 : Int32} {ρ : OM}, f_X13_readsSetup_2  n x1 ρ = some ρ' → ∀ {u : SM} {H : Heap} {locs : List Loc} {ls : Array Slot}, u 20 = ρ → (∀ q, q ≠ 20 → u q = σ q) → Hp E u s H locs → lv_has ls 2 [(0, .ref (adr E 20 0)), (1, .int x1)] → W p l e rm_X13_readsSetup s m args below meth c H locs 0 0 Q (F0 m 2 ls []) := by
  have hx := cx.1.1
  have hb := cx.1.2.1
  intro n
  induction n with
  | zero =>
    intro x1 ρ hf
    exact absurd hf (by simp [f_X13_readsSetup_2])
  | succ n ih =>
    intro x1 ρ hf u H locs ls e20 fr hp hl
    rw [f_X13_readsSetup_2] at hf
    refine lv_iload_n hx hb dX13_readsSetup_2 rfl (lv_at hl 1 rfl) ?_
    refine lv_sipush (v := 137) hx hb dX13_readsSetup_3 (by decide) ?_
    refine lv_icmp_ge (tgt := 22) hx hb dX13_readsSetup_6 (by decide) (fun c1 => ?_) (fun c1 => ?_)
    · have hf := fp hf c1
      cases hf
      exact K _ _ _ _ e20 fr hp (lv_sub hl [0] rfl)
    · have hf := fn hf c1
      refine lv_aload_n hx hb dX13_readsSetup_9 rfl (lv_at hl 0 rfl) ?_
      refine gF_X13_7 rfl hN cx hp dX13_readsSetup_10 ?_
      refine lv_iload_n hx hb dX13_readsSetup_13 rfl (lv_at hl 1 rfl) ?_
      refine lv_iconst (v := 0) hx hb dX13_readsSetup_14 (by decide) ?_
      obtain ⟨g_i, hf⟩ := fg hf
      obtain ⟨ρ2, e_l, hf⟩ := fl hf
      refine sA_X13_1 e20 hN cx hp g_i dX13_readsSetup_15 (fun u H locs e_u n_u hp => ?_)
      have e20 := e_u.trans e_l
      have fr : ∀ q, q ≠ 20 → u q = σ q := fun q h0 => (n_u q h0).trans (fr q h0)
      refine lv_iinc (v := (x1 + 1)) (lv' := [(1, .int (x1 + 1)), (0, .ref (adr E 20 0))]) hx hb dX13_readsSetup_16 hl (k := 1) rfl rfl (by decide) rfl (fun ls hl => ?_)
      refine lv_goto (tgt := 2) hx hb dX13_readsSetup_19 (by decide) ?_
      exact ih  hf e20 fr hp (lv_sub hl [1, 0] rfl)
set_option maxRecDepth 100000 in
set_option maxHeartbeats 4000000 in
theorem L_X13_readsSetup_46 {p : Program} {e : Env} {s : State} {m : MethodId} {args : Array Value} {below : List Frame} {meth : Method} {c : Code} (l : Launch) {E : Ev} (hN : 146 ≤ eN E) (hT : St E) {σ : SM} {Q : State → Prop} (cx : Cx E p s m meth c args RX13 cX13_readsSetup 2 none) {ρ' : OM} (K : ∀ (u : SM) (H : Heap) (locs : List Loc) (ls : Array Slot), u 20 = ρ' → (∀ q, q ≠ 20 → u q = σ q) → Hp E u s H locs → lv_has ls 2 [(0, .ref (adr E 20 0))] → W p l e rm_X13_readsSetup s m args below meth c H locs 0 0 Q (F0 m 62 ls [])) : ∀ (n : Nat) {ρ : OM}, f_X13_readsSetup_46  n ρ = some ρ' → ∀ {u : SM} {H : Heap} {locs : List Loc} {ls : Array Slot}, u 20 = ρ → (∀ q, q ≠ 20 → u q = σ q) → Hp E u s H locs → lv_has ls 2 [(0, .ref (adr E 20 0))] → W p l e rm_X13_readsSetup s m args below meth c H locs 0 0 Q (F0 m 46 ls []) := by
  have hx := cx.1.1
  have hb := cx.1.2.1
  intro n
  induction n with
  | zero =>
    intro ρ hf
    exact absurd hf (by simp [f_X13_readsSetup_46])
  | succ n ih =>
    intro ρ hf u H locs ls e20 fr hp hl
    rw [f_X13_readsSetup_46] at hf
    refine lv_aload_n hx hb dX13_readsSetup_46 rfl (lv_at hl 0 rfl) ?_
    refine va_ldcS hx hb cx.1.2.2.2.1 (cx.2.2.1.2.2.2.1 25 _ rfl) dX13_readsSetup_47 ?_
    obtain ⟨r8, hc, hf⟩ := fb hf
    refine x_i hp (y_V (As := [.ref (eK E 25)]) (rest := []) cx hp hl (c_X13_isWord l hN hT e20 hc) (cw_X13_202 cx (mc := 0) (ms := 0) rfl rfl ⟨by decide, by decide⟩) (rC_X13 hN cx hp) rfl rfl (Nat.le_of_ble_eq_true rfl) dX13_readsSetup_49 ⟨Nat.zero_le _, Nat.zero_le _⟩) (fun r_c u_c H locs hq hp => ?_)
    obtain ⟨rfl, rfl⟩ := hq
    refine lv_if_eq (tgt := 62) hx hb dX13_readsSetup_52 (by decide) (fun c9 => ?_) (fun c9 => ?_)
    · have hf := fp hf c9
      cases hf
      exact K _ _ _ _ e20 fr hp (lv_sub hl [0] rfl)
    · have hf := fn hf c9
      refine lv_aload_n hx hb dX13_readsSetup_55 rfl (lv_at hl 0 rfl) ?_
      obtain ⟨ρ10, hc, hf⟩ := fb hf
      refine x_v hp (y_V (As := []) (rest := []) cx hp hl (c_X13_readsStall l hN hT e20 hc) (cw_X13_251 cx (mc := 0) (ms := 0) rfl rfl ⟨by decide, by decide⟩) (rC_X13 hN cx hp) rfl rfl (Nat.le_of_ble_eq_true rfl) dX13_readsSetup_56 ⟨Nat.zero_le _, Nat.zero_le _⟩) (fun u_c H locs hq hp => ?_)
      obtain ⟨e_0, n_u⟩ := hq
      have e20 := e_0
      have fr : ∀ q, q ≠ 20 → u_c q = σ q := fun q h0 => (n_u q h0).trans (fr q h0)
      obtain ⟨u, rfl⟩ : ∃ z, u_c = z := ⟨_, rfl⟩
      refine lv_goto (tgt := 46) hx hb dX13_readsSetup_59 (by decide) ?_
      exact ih  hf e20 fr hp (lv_sub hl [0] rfl)
set_option maxRecDepth 100000 in
set_option maxHeartbeats 4000000 in
theorem L_X13_readsSetup_76 {p : Program} {e : Env} {s : State} {m : MethodId} {args : Array Value} {below : List Frame} {meth : Method} {c : Code} (l : Launch) {E : Ev} (hN : 146 ≤ eN E) (hT : St E) {σ : SM} {Q : State → Prop} (cx : Cx E p s m meth c args RX13 cX13_readsSetup 2 none) {ρ' : OM} (K : ∀ (u : SM) (H : Heap) (locs : List Loc) (ls : Array Slot), u 20 = ρ' → (∀ q, q ≠ 20 → u q = σ q) → Hp E u s H locs → lv_has ls 2 [(0, .ref (adr E 20 0))] → W p l e rm_X13_readsSetup s m args below meth c H locs 0 0 Q (F0 m 92 ls [])) : ∀ (n : Nat) {ρ : OM}, f_X13_readsSetup_76  n ρ = some ρ' → ∀ {u : SM} {H : Heap} {locs : List Loc} {ls : Array Slot}, u 20 = ρ → (∀ q, q ≠ 20 → u q = σ q) → Hp E u s H locs → lv_has ls 2 [(0, .ref (adr E 20 0))] → W p l e rm_X13_readsSetup s m args below meth c H locs 0 0 Q (F0 m 76 ls []) := by
  have hx := cx.1.1
  have hb := cx.1.2.1
  intro n
  induction n with
  | zero =>
    intro ρ hf
    exact absurd hf (by simp [f_X13_readsSetup_76])
  | succ n ih =>
    intro ρ hf u H locs ls e20 fr hp hl
    rw [f_X13_readsSetup_76] at hf
    refine lv_aload_n hx hb dX13_readsSetup_76 rfl (lv_at hl 0 rfl) ?_
    refine va_ldcS hx hb cx.1.2.2.2.1 (cx.2.2.1.2.2.2.1 27 _ rfl) dX13_readsSetup_77 ?_
    obtain ⟨r14, hc, hf⟩ := fb hf
    refine x_i hp (y_V (As := [.ref (eK E 27)]) (rest := []) cx hp hl (c_X13_isWord l hN hT e20 hc) (cw_X13_202 cx (mc := 0) (ms := 0) rfl rfl ⟨by decide, by decide⟩) (rC_X13 hN cx hp) rfl rfl (Nat.le_of_ble_eq_true rfl) dX13_readsSetup_79 ⟨Nat.zero_le _, Nat.zero_le _⟩) (fun r_c u_c H locs hq hp => ?_)
    obtain ⟨rfl, rfl⟩ := hq
    refine lv_if_eq (tgt := 92) hx hb dX13_readsSetup_82 (by decide) (fun c15 => ?_) (fun c15 => ?_)
    · have hf := fp hf c15
      cases hf
      exact K _ _ _ _ e20 fr hp (lv_sub hl [0] rfl)
    · have hf := fn hf c15
      refine lv_aload_n hx hb dX13_readsSetup_85 rfl (lv_at hl 0 rfl) ?_
      obtain ⟨ρ16, hc, hf⟩ := fb hf
      refine x_v hp (y_V (As := []) (rest := []) cx hp hl (c_X13_readsSeller l hN hT e20 hc) (cw_X13_256 cx (mc := 0) (ms := 0) rfl rfl ⟨by decide, by decide⟩) (rC_X13 hN cx hp) rfl rfl (Nat.le_of_ble_eq_true rfl) dX13_readsSetup_86 ⟨Nat.zero_le _, Nat.zero_le _⟩) (fun u_c H locs hq hp => ?_)
      obtain ⟨e_0, n_u⟩ := hq
      have e20 := e_0
      have fr : ∀ q, q ≠ 20 → u_c q = σ q := fun q h0 => (n_u q h0).trans (fr q h0)
      obtain ⟨u, rfl⟩ : ∃ z, u_c = z := ⟨_, rfl⟩
      refine lv_goto (tgt := 76) hx hb dX13_readsSetup_89 (by decide) ?_
      exact ih  hf e20 fr hp (lv_sub hl [0] rfl)
set_option maxRecDepth 100000 in
set_option maxHeartbeats 4000000 in
theorem c_X13_readsSetup (l : Launch) {E : Ev} (hN : 146 ≤ eN E) (hT : St E) {σ : SM} {ρ : OM} (e20 : σ 20 = ρ)  {ρ' : OM} (hf : f_X13_readsSetup ρ = some ρ') : Met l yX13_readsSetup (wC yX13_readsSetup cX13_readsSetup 2 none) rm_X13_readsSetup (va_Pc [.ref (adr E 20 0)] (Wu E σ)) (va_Qv (fun u => u 20 = ρ' ∧ ∀ q, q ≠ 20 → u q = σ q) (fun u t => Wu E u t) (eA E)) 0 0 (eA E) := by
  refine g_entry (lv := [(0, .ref (adr E 20 0))]) (by decide) (Nat.le_of_ble_eq_true rfl) rfl ?_
  intro p e s m below meth c cx hp ls hl
  have hx := cx.1.1
  have hb := cx.1.2.1
  have fr : ∀ q, q ≠ 20 → σ q = σ q := fun _ _ => rfl
  unfold f_X13_readsSetup at hf
  refine lv_iconst (v := 0) hx hb dX13_readsSetup_0 (by decide) ?_
  refine lv_istore_n (lv' := [(1, .int 0), (0, .ref (adr E 20 0))]) hx hb dX13_readsSetup_1 rfl hl (by decide) rfl (fun ls hl => ?_)
  obtain ⟨ρ3, hc, hf⟩ := fb hf
  refine L_X13_readsSetup_2 l hN hT cx  (fun u H locs ls e20 fr hp hl => ?_) _ hc e20 fr hp (lv_sub hl [1, 0] rfl)
  refine lv_aload_n hx hb dX13_readsSetup_22 rfl (lv_at hl 0 rfl) ?_
  refine va_ldcS hx hb cx.1.2.2.2.1 (cx.2.2.1.2.2.2.1 24 _ rfl) dX13_readsSetup_23 ?_
  obtain ⟨ρ4, hc, hf⟩ := fb hf
  refine x_v hp (y_V (As := [.ref (eK E 24)]) (rest := []) cx hp hl (c_X13_wantsWord l hN hT e20 hc) (cw_X13_246 cx (mc := 0) (ms := 0) rfl rfl ⟨by decide, by decide⟩) (rC_X13 hN cx hp) rfl rfl (Nat.le_of_ble_eq_true rfl) dX13_readsSetup_25 ⟨Nat.zero_le _, Nat.zero_le _⟩) (fun u_c H locs hq hp => ?_)
  obtain ⟨e_0, n_u⟩ := hq
  have e20 := e_0
  have fr : ∀ q, q ≠ 20 → u_c q = σ q := fun q h0 => (n_u q h0).trans (fr q h0)
  obtain ⟨u, rfl⟩ : ∃ z, u_c = z := ⟨_, rfl⟩
  refine lv_aload_n hx hb dX13_readsSetup_28 rfl (lv_at hl 0 rfl) ?_
  obtain ⟨ρ5, hc, hf⟩ := fb hf
  refine x_v hp (y_V (As := []) (rest := []) cx hp hl (c_X13_wantsSemicolon l hN hT e20 hc) (cw_X13_235 cx (mc := 0) (ms := 0) rfl rfl ⟨by decide, by decide⟩) (rC_X13 hN cx hp) rfl rfl (Nat.le_of_ble_eq_true rfl) dX13_readsSetup_29 ⟨Nat.zero_le _, Nat.zero_le _⟩) (fun u_c H locs hq hp => ?_)
  obtain ⟨e_0, n_u⟩ := hq
  have e20 := e_0
  have fr : ∀ q, q ≠ 20 → u_c q = σ q := fun q h0 => (n_u q h0).trans (fr q h0)
  obtain ⟨u, rfl⟩ : ∃ z, u_c = z := ⟨_, rfl⟩
  refine lv_aload_n hx hb dX13_readsSetup_32 rfl (lv_at hl 0 rfl) ?_
  refine va_ldcS hx hb cx.1.2.2.2.1 (cx.2.2.1.2.2.2.1 25 _ rfl) dX13_readsSetup_33 ?_
  obtain ⟨r6, hc, hf⟩ := fb hf
  refine x_i hp (y_V (As := [.ref (eK E 25)]) (rest := []) cx hp hl (c_X13_isWord l hN hT e20 hc) (cw_X13_202 cx (mc := 0) (ms := 0) rfl rfl ⟨by decide, by decide⟩) (rC_X13 hN cx hp) rfl rfl (Nat.le_of_ble_eq_true rfl) dX13_readsSetup_35 ⟨Nat.zero_le _, Nat.zero_le _⟩) (fun r_c u_c H locs hq hp => ?_)
  obtain ⟨rfl, rfl⟩ := hq
  refine lv_if_ne (tgt := 46) hx hb dX13_readsSetup_38 (by decide) (fun c7 => ?_) (fun c7 => ?_)
  · have hf := fn hf c7
    obtain ⟨ρ11, hc, hf⟩ := fb hf
    refine L_X13_readsSetup_46 l hN hT cx  (fun u H locs ls e20 fr hp hl => ?_) _ hc e20 fr hp (lv_sub hl [0] rfl)
    refine lv_aload_n hx hb dX13_readsSetup_62 rfl (lv_at hl 0 rfl) ?_
    refine va_ldcS hx hb cx.1.2.2.2.1 (cx.2.2.1.2.2.2.1 27 _ rfl) dX13_readsSetup_63 ?_
    obtain ⟨r12, hc, hf⟩ := fb hf
    refine x_i hp (y_V (As := [.ref (eK E 27)]) (rest := []) cx hp hl (c_X13_isWord l hN hT e20 hc) (cw_X13_202 cx (mc := 0) (ms := 0) rfl rfl ⟨by decide, by decide⟩) (rC_X13 hN cx hp) rfl rfl (Nat.le_of_ble_eq_true rfl) dX13_readsSetup_65 ⟨Nat.zero_le _, Nat.zero_le _⟩) (fun r_c u_c H locs hq hp => ?_)
    obtain ⟨rfl, rfl⟩ := hq
    refine lv_if_ne (tgt := 76) hx hb dX13_readsSetup_68 (by decide) (fun c13 => ?_) (fun c13 => ?_)
    · have hf := fn hf c13
      obtain ⟨ρ17, hc, hf⟩ := fb hf
      refine L_X13_readsSetup_76 l hN hT cx  (fun u H locs ls e20 fr hp hl => ?_) _ hc e20 fr hp (lv_sub hl [0] rfl)
      refine lv_aload_n hx hb dX13_readsSetup_92 rfl (lv_at hl 0 rfl) ?_
      refine gF_X13_179 e20 hN cx hp dX13_readsSetup_93 ?_
      refine lv_if_eq (tgt := 104) hx hb dX13_readsSetup_96 (by decide) (fun c18 => ?_) (fun c18 => ?_)
      · have hf := fp hf c18
        refine lv_aload_n hx hb dX13_readsSetup_104 rfl (lv_at hl 0 rfl) ?_
        refine gF_X13_7 rfl hN cx hp dX13_readsSetup_105 ?_
        refine lv_bipush (v := 7) hx hb dX13_readsSetup_108 (by decide) ?_
        refine lv_aload_n hx hb dX13_readsSetup_110 rfl (lv_at hl 0 rfl) ?_
        obtain ⟨r19, hc, hf⟩ := fb hf
        refine x_i hp (y_V (As := []) (rest := [.int 7, .ref (adr E 20 1)]) cx hp hl (c_X13_balances l hN hT e20 hc) (cw_X13_259 cx (mc := 0) (ms := 0) rfl rfl ⟨by decide, by decide⟩) (rC_X13 hN cx hp) rfl rfl (Nat.le_of_ble_eq_true rfl) dX13_readsSetup_111 ⟨Nat.zero_le _, Nat.zero_le _⟩) (fun r_c u_c H locs hq hp => ?_)
        obtain ⟨rfl, rfl⟩ := hq
        obtain ⟨g_i, hf⟩ := fg hf
        obtain ⟨ρ20, e_l, hf⟩ := fl hf
        refine sA_X13_1 e20 hN cx hp g_i dX13_readsSetup_114 (fun u H locs e_u n_u hp => ?_)
        have e20 := e_u.trans e_l
        have fr : ∀ q, q ≠ 20 → u q = σ q := fun q h0 => (n_u q h0).trans (fr q h0)
        cases hf
        exact r_v cx hp ⟨e20, fr⟩ dX13_readsSetup_115
      · have hf := fn hf c18
        refine lv_aload_n hx hb dX13_readsSetup_99 rfl (lv_at hl 0 rfl) ?_
        refine lv_iconst (v := 1) hx hb dX13_readsSetup_100 (by decide) ?_
        obtain ⟨ρ21, hc, hf⟩ := fb hf
        refine x_v hp (y_V (As := [.int 1]) (rest := []) cx hp hl (c_X13_wrong l hN hT e20 hc) (cw_X13_206 cx (mc := 0) (ms := 0) rfl rfl ⟨by decide, by decide⟩) (rC_X13 hN cx hp) rfl rfl (Nat.le_of_ble_eq_true rfl) dX13_readsSetup_101 ⟨Nat.zero_le _, Nat.zero_le _⟩) (fun u_c H locs hq hp => ?_)
        obtain ⟨e_0, n_u⟩ := hq
        have e20 := e_0
        have fr : ∀ q, q ≠ 20 → u_c q = σ q := fun q h0 => (n_u q h0).trans (fr q h0)
        obtain ⟨u, rfl⟩ : ∃ z, u_c = z := ⟨_, rfl⟩
        refine lv_aload_n hx hb dX13_readsSetup_104 rfl (lv_at hl 0 rfl) ?_
        refine gF_X13_7 rfl hN cx hp dX13_readsSetup_105 ?_
        refine lv_bipush (v := 7) hx hb dX13_readsSetup_108 (by decide) ?_
        refine lv_aload_n hx hb dX13_readsSetup_110 rfl (lv_at hl 0 rfl) ?_
        obtain ⟨r22, hc, hf⟩ := fb hf
        refine x_i hp (y_V (As := []) (rest := [.int 7, .ref (adr E 20 1)]) cx hp hl (c_X13_balances l hN hT e20 hc) (cw_X13_259 cx (mc := 0) (ms := 0) rfl rfl ⟨by decide, by decide⟩) (rC_X13 hN cx hp) rfl rfl (Nat.le_of_ble_eq_true rfl) dX13_readsSetup_111 ⟨Nat.zero_le _, Nat.zero_le _⟩) (fun r_c u_c H locs hq hp => ?_)
        obtain ⟨rfl, rfl⟩ := hq
        obtain ⟨g_i, hf⟩ := fg hf
        obtain ⟨ρ23, e_l, hf⟩ := fl hf
        refine sA_X13_1 e20 hN cx hp g_i dX13_readsSetup_114 (fun u H locs e_u n_u hp => ?_)
        have e20 := e_u.trans e_l
        have fr : ∀ q, q ≠ 20 → u q = σ q := fun q h0 => (n_u q h0).trans (fr q h0)
        cases hf
        exact r_v cx hp ⟨e20, fr⟩ dX13_readsSetup_115
    · have hf := fp hf c13
      refine lv_aload_n hx hb dX13_readsSetup_71 rfl (lv_at hl 0 rfl) ?_
      refine lv_iconst (v := 1) hx hb dX13_readsSetup_72 (by decide) ?_
      obtain ⟨ρ24, hc, hf⟩ := fb hf
      refine x_v hp (y_V (As := [.int 1]) (rest := []) cx hp hl (c_X13_wrong l hN hT e20 hc) (cw_X13_206 cx (mc := 0) (ms := 0) rfl rfl ⟨by decide, by decide⟩) (rC_X13 hN cx hp) rfl rfl (Nat.le_of_ble_eq_true rfl) dX13_readsSetup_73 ⟨Nat.zero_le _, Nat.zero_le _⟩) (fun u_c H locs hq hp => ?_)
      obtain ⟨e_0, n_u⟩ := hq
      have e20 := e_0
      have fr : ∀ q, q ≠ 20 → u_c q = σ q := fun q h0 => (n_u q h0).trans (fr q h0)
      obtain ⟨u, rfl⟩ : ∃ z, u_c = z := ⟨_, rfl⟩
      obtain ⟨ρ25, hc, hf⟩ := fb hf
      refine L_X13_readsSetup_76 l hN hT cx  (fun u H locs ls e20 fr hp hl => ?_) _ hc e20 fr hp (lv_sub hl [0] rfl)
      refine lv_aload_n hx hb dX13_readsSetup_92 rfl (lv_at hl 0 rfl) ?_
      refine gF_X13_179 e20 hN cx hp dX13_readsSetup_93 ?_
      refine lv_if_eq (tgt := 104) hx hb dX13_readsSetup_96 (by decide) (fun c26 => ?_) (fun c26 => ?_)
      · have hf := fp hf c26
        refine lv_aload_n hx hb dX13_readsSetup_104 rfl (lv_at hl 0 rfl) ?_
        refine gF_X13_7 rfl hN cx hp dX13_readsSetup_105 ?_
        refine lv_bipush (v := 7) hx hb dX13_readsSetup_108 (by decide) ?_
        refine lv_aload_n hx hb dX13_readsSetup_110 rfl (lv_at hl 0 rfl) ?_
        obtain ⟨r27, hc, hf⟩ := fb hf
        refine x_i hp (y_V (As := []) (rest := [.int 7, .ref (adr E 20 1)]) cx hp hl (c_X13_balances l hN hT e20 hc) (cw_X13_259 cx (mc := 0) (ms := 0) rfl rfl ⟨by decide, by decide⟩) (rC_X13 hN cx hp) rfl rfl (Nat.le_of_ble_eq_true rfl) dX13_readsSetup_111 ⟨Nat.zero_le _, Nat.zero_le _⟩) (fun r_c u_c H locs hq hp => ?_)
        obtain ⟨rfl, rfl⟩ := hq
        obtain ⟨g_i, hf⟩ := fg hf
        obtain ⟨ρ28, e_l, hf⟩ := fl hf
        refine sA_X13_1 e20 hN cx hp g_i dX13_readsSetup_114 (fun u H locs e_u n_u hp => ?_)
        have e20 := e_u.trans e_l
        have fr : ∀ q, q ≠ 20 → u q = σ q := fun q h0 => (n_u q h0).trans (fr q h0)
        cases hf
        exact r_v cx hp ⟨e20, fr⟩ dX13_readsSetup_115
      · have hf := fn hf c26
        refine lv_aload_n hx hb dX13_readsSetup_99 rfl (lv_at hl 0 rfl) ?_
        refine lv_iconst (v := 1) hx hb dX13_readsSetup_100 (by decide) ?_
        obtain ⟨ρ29, hc, hf⟩ := fb hf
        refine x_v hp (y_V (As := [.int 1]) (rest := []) cx hp hl (c_X13_wrong l hN hT e20 hc) (cw_X13_206 cx (mc := 0) (ms := 0) rfl rfl ⟨by decide, by decide⟩) (rC_X13 hN cx hp) rfl rfl (Nat.le_of_ble_eq_true rfl) dX13_readsSetup_101 ⟨Nat.zero_le _, Nat.zero_le _⟩) (fun u_c H locs hq hp => ?_)
        obtain ⟨e_0, n_u⟩ := hq
        have e20 := e_0
        have fr : ∀ q, q ≠ 20 → u_c q = σ q := fun q h0 => (n_u q h0).trans (fr q h0)
        obtain ⟨u, rfl⟩ : ∃ z, u_c = z := ⟨_, rfl⟩
        refine lv_aload_n hx hb dX13_readsSetup_104 rfl (lv_at hl 0 rfl) ?_
        refine gF_X13_7 rfl hN cx hp dX13_readsSetup_105 ?_
        refine lv_bipush (v := 7) hx hb dX13_readsSetup_108 (by decide) ?_
        refine lv_aload_n hx hb dX13_readsSetup_110 rfl (lv_at hl 0 rfl) ?_
        obtain ⟨r30, hc, hf⟩ := fb hf
        refine x_i hp (y_V (As := []) (rest := [.int 7, .ref (adr E 20 1)]) cx hp hl (c_X13_balances l hN hT e20 hc) (cw_X13_259 cx (mc := 0) (ms := 0) rfl rfl ⟨by decide, by decide⟩) (rC_X13 hN cx hp) rfl rfl (Nat.le_of_ble_eq_true rfl) dX13_readsSetup_111 ⟨Nat.zero_le _, Nat.zero_le _⟩) (fun r_c u_c H locs hq hp => ?_)
        obtain ⟨rfl, rfl⟩ := hq
        obtain ⟨g_i, hf⟩ := fg hf
        obtain ⟨ρ31, e_l, hf⟩ := fl hf
        refine sA_X13_1 e20 hN cx hp g_i dX13_readsSetup_114 (fun u H locs e_u n_u hp => ?_)
        have e20 := e_u.trans e_l
        have fr : ∀ q, q ≠ 20 → u q = σ q := fun q h0 => (n_u q h0).trans (fr q h0)
        cases hf
        exact r_v cx hp ⟨e20, fr⟩ dX13_readsSetup_115
  · have hf := fp hf c7
    refine lv_aload_n hx hb dX13_readsSetup_41 rfl (lv_at hl 0 rfl) ?_
    refine lv_iconst (v := 1) hx hb dX13_readsSetup_42 (by decide) ?_
    obtain ⟨ρ32, hc, hf⟩ := fb hf
    refine x_v hp (y_V (As := [.int 1]) (rest := []) cx hp hl (c_X13_wrong l hN hT e20 hc) (cw_X13_206 cx (mc := 0) (ms := 0) rfl rfl ⟨by decide, by decide⟩) (rC_X13 hN cx hp) rfl rfl (Nat.le_of_ble_eq_true rfl) dX13_readsSetup_43 ⟨Nat.zero_le _, Nat.zero_le _⟩) (fun u_c H locs hq hp => ?_)
    obtain ⟨e_0, n_u⟩ := hq
    have e20 := e_0
    have fr : ∀ q, q ≠ 20 → u_c q = σ q := fun q h0 => (n_u q h0).trans (fr q h0)
    obtain ⟨u, rfl⟩ : ∃ z, u_c = z := ⟨_, rfl⟩
    obtain ⟨ρ33, hc, hf⟩ := fb hf
    refine L_X13_readsSetup_46 l hN hT cx  (fun u H locs ls e20 fr hp hl => ?_) _ hc e20 fr hp (lv_sub hl [0] rfl)
    refine lv_aload_n hx hb dX13_readsSetup_62 rfl (lv_at hl 0 rfl) ?_
    refine va_ldcS hx hb cx.1.2.2.2.1 (cx.2.2.1.2.2.2.1 27 _ rfl) dX13_readsSetup_63 ?_
    obtain ⟨r34, hc, hf⟩ := fb hf
    refine x_i hp (y_V (As := [.ref (eK E 27)]) (rest := []) cx hp hl (c_X13_isWord l hN hT e20 hc) (cw_X13_202 cx (mc := 0) (ms := 0) rfl rfl ⟨by decide, by decide⟩) (rC_X13 hN cx hp) rfl rfl (Nat.le_of_ble_eq_true rfl) dX13_readsSetup_65 ⟨Nat.zero_le _, Nat.zero_le _⟩) (fun r_c u_c H locs hq hp => ?_)
    obtain ⟨rfl, rfl⟩ := hq
    refine lv_if_ne (tgt := 76) hx hb dX13_readsSetup_68 (by decide) (fun c35 => ?_) (fun c35 => ?_)
    · have hf := fn hf c35
      obtain ⟨ρ36, hc, hf⟩ := fb hf
      refine L_X13_readsSetup_76 l hN hT cx  (fun u H locs ls e20 fr hp hl => ?_) _ hc e20 fr hp (lv_sub hl [0] rfl)
      refine lv_aload_n hx hb dX13_readsSetup_92 rfl (lv_at hl 0 rfl) ?_
      refine gF_X13_179 e20 hN cx hp dX13_readsSetup_93 ?_
      refine lv_if_eq (tgt := 104) hx hb dX13_readsSetup_96 (by decide) (fun c37 => ?_) (fun c37 => ?_)
      · have hf := fp hf c37
        refine lv_aload_n hx hb dX13_readsSetup_104 rfl (lv_at hl 0 rfl) ?_
        refine gF_X13_7 rfl hN cx hp dX13_readsSetup_105 ?_
        refine lv_bipush (v := 7) hx hb dX13_readsSetup_108 (by decide) ?_
        refine lv_aload_n hx hb dX13_readsSetup_110 rfl (lv_at hl 0 rfl) ?_
        obtain ⟨r38, hc, hf⟩ := fb hf
        refine x_i hp (y_V (As := []) (rest := [.int 7, .ref (adr E 20 1)]) cx hp hl (c_X13_balances l hN hT e20 hc) (cw_X13_259 cx (mc := 0) (ms := 0) rfl rfl ⟨by decide, by decide⟩) (rC_X13 hN cx hp) rfl rfl (Nat.le_of_ble_eq_true rfl) dX13_readsSetup_111 ⟨Nat.zero_le _, Nat.zero_le _⟩) (fun r_c u_c H locs hq hp => ?_)
        obtain ⟨rfl, rfl⟩ := hq
        obtain ⟨g_i, hf⟩ := fg hf
        obtain ⟨ρ39, e_l, hf⟩ := fl hf
        refine sA_X13_1 e20 hN cx hp g_i dX13_readsSetup_114 (fun u H locs e_u n_u hp => ?_)
        have e20 := e_u.trans e_l
        have fr : ∀ q, q ≠ 20 → u q = σ q := fun q h0 => (n_u q h0).trans (fr q h0)
        cases hf
        exact r_v cx hp ⟨e20, fr⟩ dX13_readsSetup_115
      · have hf := fn hf c37
        refine lv_aload_n hx hb dX13_readsSetup_99 rfl (lv_at hl 0 rfl) ?_
        refine lv_iconst (v := 1) hx hb dX13_readsSetup_100 (by decide) ?_
        obtain ⟨ρ40, hc, hf⟩ := fb hf
        refine x_v hp (y_V (As := [.int 1]) (rest := []) cx hp hl (c_X13_wrong l hN hT e20 hc) (cw_X13_206 cx (mc := 0) (ms := 0) rfl rfl ⟨by decide, by decide⟩) (rC_X13 hN cx hp) rfl rfl (Nat.le_of_ble_eq_true rfl) dX13_readsSetup_101 ⟨Nat.zero_le _, Nat.zero_le _⟩) (fun u_c H locs hq hp => ?_)
        obtain ⟨e_0, n_u⟩ := hq
        have e20 := e_0
        have fr : ∀ q, q ≠ 20 → u_c q = σ q := fun q h0 => (n_u q h0).trans (fr q h0)
        obtain ⟨u, rfl⟩ : ∃ z, u_c = z := ⟨_, rfl⟩
        refine lv_aload_n hx hb dX13_readsSetup_104 rfl (lv_at hl 0 rfl) ?_
        refine gF_X13_7 rfl hN cx hp dX13_readsSetup_105 ?_
        refine lv_bipush (v := 7) hx hb dX13_readsSetup_108 (by decide) ?_
        refine lv_aload_n hx hb dX13_readsSetup_110 rfl (lv_at hl 0 rfl) ?_
        obtain ⟨r41, hc, hf⟩ := fb hf
        refine x_i hp (y_V (As := []) (rest := [.int 7, .ref (adr E 20 1)]) cx hp hl (c_X13_balances l hN hT e20 hc) (cw_X13_259 cx (mc := 0) (ms := 0) rfl rfl ⟨by decide, by decide⟩) (rC_X13 hN cx hp) rfl rfl (Nat.le_of_ble_eq_true rfl) dX13_readsSetup_111 ⟨Nat.zero_le _, Nat.zero_le _⟩) (fun r_c u_c H locs hq hp => ?_)
        obtain ⟨rfl, rfl⟩ := hq
        obtain ⟨g_i, hf⟩ := fg hf
        obtain ⟨ρ42, e_l, hf⟩ := fl hf
        refine sA_X13_1 e20 hN cx hp g_i dX13_readsSetup_114 (fun u H locs e_u n_u hp => ?_)
        have e20 := e_u.trans e_l
        have fr : ∀ q, q ≠ 20 → u q = σ q := fun q h0 => (n_u q h0).trans (fr q h0)
        cases hf
        exact r_v cx hp ⟨e20, fr⟩ dX13_readsSetup_115
    · have hf := fp hf c35
      refine lv_aload_n hx hb dX13_readsSetup_71 rfl (lv_at hl 0 rfl) ?_
      refine lv_iconst (v := 1) hx hb dX13_readsSetup_72 (by decide) ?_
      obtain ⟨ρ43, hc, hf⟩ := fb hf
      refine x_v hp (y_V (As := [.int 1]) (rest := []) cx hp hl (c_X13_wrong l hN hT e20 hc) (cw_X13_206 cx (mc := 0) (ms := 0) rfl rfl ⟨by decide, by decide⟩) (rC_X13 hN cx hp) rfl rfl (Nat.le_of_ble_eq_true rfl) dX13_readsSetup_73 ⟨Nat.zero_le _, Nat.zero_le _⟩) (fun u_c H locs hq hp => ?_)
      obtain ⟨e_0, n_u⟩ := hq
      have e20 := e_0
      have fr : ∀ q, q ≠ 20 → u_c q = σ q := fun q h0 => (n_u q h0).trans (fr q h0)
      obtain ⟨u, rfl⟩ : ∃ z, u_c = z := ⟨_, rfl⟩
      obtain ⟨ρ44, hc, hf⟩ := fb hf
      refine L_X13_readsSetup_76 l hN hT cx  (fun u H locs ls e20 fr hp hl => ?_) _ hc e20 fr hp (lv_sub hl [0] rfl)
      refine lv_aload_n hx hb dX13_readsSetup_92 rfl (lv_at hl 0 rfl) ?_
      refine gF_X13_179 e20 hN cx hp dX13_readsSetup_93 ?_
      refine lv_if_eq (tgt := 104) hx hb dX13_readsSetup_96 (by decide) (fun c45 => ?_) (fun c45 => ?_)
      · have hf := fp hf c45
        refine lv_aload_n hx hb dX13_readsSetup_104 rfl (lv_at hl 0 rfl) ?_
        refine gF_X13_7 rfl hN cx hp dX13_readsSetup_105 ?_
        refine lv_bipush (v := 7) hx hb dX13_readsSetup_108 (by decide) ?_
        refine lv_aload_n hx hb dX13_readsSetup_110 rfl (lv_at hl 0 rfl) ?_
        obtain ⟨r46, hc, hf⟩ := fb hf
        refine x_i hp (y_V (As := []) (rest := [.int 7, .ref (adr E 20 1)]) cx hp hl (c_X13_balances l hN hT e20 hc) (cw_X13_259 cx (mc := 0) (ms := 0) rfl rfl ⟨by decide, by decide⟩) (rC_X13 hN cx hp) rfl rfl (Nat.le_of_ble_eq_true rfl) dX13_readsSetup_111 ⟨Nat.zero_le _, Nat.zero_le _⟩) (fun r_c u_c H locs hq hp => ?_)
        obtain ⟨rfl, rfl⟩ := hq
        obtain ⟨g_i, hf⟩ := fg hf
        obtain ⟨ρ47, e_l, hf⟩ := fl hf
        refine sA_X13_1 e20 hN cx hp g_i dX13_readsSetup_114 (fun u H locs e_u n_u hp => ?_)
        have e20 := e_u.trans e_l
        have fr : ∀ q, q ≠ 20 → u q = σ q := fun q h0 => (n_u q h0).trans (fr q h0)
        cases hf
        exact r_v cx hp ⟨e20, fr⟩ dX13_readsSetup_115
      · have hf := fn hf c45
        refine lv_aload_n hx hb dX13_readsSetup_99 rfl (lv_at hl 0 rfl) ?_
        refine lv_iconst (v := 1) hx hb dX13_readsSetup_100 (by decide) ?_
        obtain ⟨ρ48, hc, hf⟩ := fb hf
        refine x_v hp (y_V (As := [.int 1]) (rest := []) cx hp hl (c_X13_wrong l hN hT e20 hc) (cw_X13_206 cx (mc := 0) (ms := 0) rfl rfl ⟨by decide, by decide⟩) (rC_X13 hN cx hp) rfl rfl (Nat.le_of_ble_eq_true rfl) dX13_readsSetup_101 ⟨Nat.zero_le _, Nat.zero_le _⟩) (fun u_c H locs hq hp => ?_)
        obtain ⟨e_0, n_u⟩ := hq
        have e20 := e_0
        have fr : ∀ q, q ≠ 20 → u_c q = σ q := fun q h0 => (n_u q h0).trans (fr q h0)
        obtain ⟨u, rfl⟩ : ∃ z, u_c = z := ⟨_, rfl⟩
        refine lv_aload_n hx hb dX13_readsSetup_104 rfl (lv_at hl 0 rfl) ?_
        refine gF_X13_7 rfl hN cx hp dX13_readsSetup_105 ?_
        refine lv_bipush (v := 7) hx hb dX13_readsSetup_108 (by decide) ?_
        refine lv_aload_n hx hb dX13_readsSetup_110 rfl (lv_at hl 0 rfl) ?_
        obtain ⟨r49, hc, hf⟩ := fb hf
        refine x_i hp (y_V (As := []) (rest := [.int 7, .ref (adr E 20 1)]) cx hp hl (c_X13_balances l hN hT e20 hc) (cw_X13_259 cx (mc := 0) (ms := 0) rfl rfl ⟨by decide, by decide⟩) (rC_X13 hN cx hp) rfl rfl (Nat.le_of_ble_eq_true rfl) dX13_readsSetup_111 ⟨Nat.zero_le _, Nat.zero_le _⟩) (fun r_c u_c H locs hq hp => ?_)
        obtain ⟨rfl, rfl⟩ := hq
        obtain ⟨g_i, hf⟩ := fg hf
        obtain ⟨ρ50, e_l, hf⟩ := fl hf
        refine sA_X13_1 e20 hN cx hp g_i dX13_readsSetup_114 (fun u H locs e_u n_u hp => ?_)
        have e20 := e_u.trans e_l
        have fr : ∀ q, q ≠ 20 → u q = σ q := fun q h0 => (n_u q h0).trans (fr q h0)
        cases hf
        exact r_v cx hp ⟨e20, fr⟩ dX13_readsSetup_115
abbrev rm_X13_thrown : Room := { frames := 0, cells := 0, slots := 0, locals := 0 }
set_option maxRecDepth 100000 in
set_option maxHeartbeats 4000000 in
theorem c_X13_thrown (l : Launch) {E : Ev} (hN : 146 ≤ eN E) (hT : St E) {σ : SM} {ρ : OM} (e20 : σ 20 = ρ)  {rv : Int32} (hf : f_X13_thrown ρ = some rv) : Met l yX13_thrown (wC yX13_thrown cX13_thrown 1 (some .int)) rm_X13_thrown (va_Pc [.ref (adr E 20 0)] (Wu E σ)) (va_Qi (fun r u => rv = r ∧ σ = u) (fun u t => Wu E u t) (eA E)) 0 0 (eA E) := by
  refine g_entry (lv := [(0, .ref (adr E 20 0))]) (by decide) (Nat.le_of_ble_eq_true rfl) rfl ?_
  intro p e s m below meth c cx hp ls hl
  have hx := cx.1.1
  have hb := cx.1.2.1
  have fr : ∀ q, σ q = σ q := fun _ => rfl
  unfold f_X13_thrown at hf
  refine lv_aload_n hx hb dX13_thrown_0 rfl (lv_at hl 0 rfl) ?_
  refine gF_X13_77 e20 hN cx hp dX13_thrown_1 ?_
  cases hf
  exact r_i cx hp ⟨rfl, (funext fr).symm⟩ dX13_thrown_4
abbrev rm_X13_wants : Room := { frames := 0, cells := 0, slots := 0, locals := 0 }
set_option maxRecDepth 100000 in
set_option maxHeartbeats 4000000 in
theorem c_X13_wants (l : Launch) {E : Ev} (hN : 146 ≤ eN E) (hT : St E) {σ : SM} {ρ : OM} (e20 : σ 20 = ρ) {p1 : Int32} {rv : Int32} {ρ' : OM} (hf : f_X13_wants p1 ρ = some (rv, ρ')) : Met l yX13_wants (wC yX13_wants cX13_wants 2 (some .boolean)) rm_X13_wants (va_Pc [.ref (adr E 20 0), .int p1] (Wu E σ)) (va_Qi (fun r u => rv = r ∧ u 20 = ρ' ∧ ∀ q, q ≠ 20 → u q = σ q) (fun u t => Wu E u t) (eA E)) 0 0 (eA E) := by
  refine g_entry (lv := [(0, .ref (adr E 20 0)), (1, .int p1)]) (by decide) (Nat.le_of_ble_eq_true rfl) rfl ?_
  intro p e s m below meth c cx hp ls hl
  have hx := cx.1.1
  have hb := cx.1.2.1
  have fr : ∀ q, q ≠ 20 → σ q = σ q := fun _ _ => rfl
  unfold f_X13_wants at hf
  refine lv_aload_n hx hb dX13_wants_0 rfl (lv_at hl 0 rfl) ?_
  refine lv_iload_n hx hb dX13_wants_1 rfl (lv_at hl 1 rfl) ?_
  refine lv_if_eq (tgt := 9) hx hb dX13_wants_2 (by decide) (fun c1 => ?_) (fun c1 => ?_)
  · have hf := fp hf c1
    refine lv_iconst (v := 1) hx hb dX13_wants_9 (by decide) ?_
    obtain ⟨ρ2, e_l, hf⟩ := fl hf
    refine pF_X13_77 e20 hN cx hp dX13_wants_10 (fun u H locs e_u n_u hp => ?_)
    have e20 := e_u.trans e_l
    have fr : ∀ q, q ≠ 20 → u q = σ q := fun q h0 => (n_u q h0).trans (fr q h0)
    refine lv_iload_n hx hb dX13_wants_13 rfl (lv_at hl 1 rfl) ?_
    obtain ⟨g_z, hf⟩ := fg hf
    cases hf
    exact r_z cx hp (bz_n g_z) ⟨rfl, e20, fr⟩ dX13_wants_14
  · have hf := fn hf c1
    refine lv_iconst (v := 0) hx hb dX13_wants_5 (by decide) ?_
    refine lv_goto (tgt := 10) hx hb dX13_wants_6 (by decide) ?_
    obtain ⟨ρ3, e_l, hf⟩ := fl hf
    refine pF_X13_77 e20 hN cx hp dX13_wants_10 (fun u H locs e_u n_u hp => ?_)
    have e20 := e_u.trans e_l
    have fr : ∀ q, q ≠ 20 → u q = σ q := fun q h0 => (n_u q h0).trans (fr q h0)
    refine lv_iload_n hx hb dX13_wants_13 rfl (lv_at hl 1 rfl) ?_
    obtain ⟨g_z, hf⟩ := fg hf
    cases hf
    exact r_z cx hp (bz_n g_z) ⟨rfl, e20, fr⟩ dX13_wants_14
abbrev rm_X13_rentOf : Room := { frames := 0, cells := 0, slots := 0, locals := 0 }
set_option maxRecDepth 100000 in
set_option maxHeartbeats 4000000 in
theorem c_X13_rentOf (l : Launch) {E : Ev} (hN : 146 ≤ eN E) (hT : St E) {σ : SM} {ρ : OM} (e20 : σ 20 = ρ) {p1 : Int32} {rv : Int32} (hf : f_X13_rentOf p1 ρ = some rv) : Met l yX13_rentOf (wC yX13_rentOf cX13_rentOf 2 (some .int)) rm_X13_rentOf (va_Pc [.ref (adr E 20 0), .int p1] (Wu E σ)) (va_Qi (fun r u => rv = r ∧ σ = u) (fun u t => Wu E u t) (eA E)) 0 0 (eA E) := by
  refine g_entry (lv := [(0, .ref (adr E 20 0)), (1, .int p1)]) (by decide) (Nat.le_of_ble_eq_true rfl) rfl ?_
  intro p e s m below meth c cx hp ls hl
  have hx := cx.1.1
  have hb := cx.1.2.1
  have fr : ∀ q, σ q = σ q := fun _ => rfl
  unfold f_X13_rentOf at hf
  refine lv_aload_n hx hb dX13_rentOf_0 rfl (lv_at hl 0 rfl) ?_
  refine gF_X13_7 rfl hN cx hp dX13_rentOf_1 ?_
  refine lv_bipush (v := 9) hx hb dX13_rentOf_4 (by decide) ?_
  refine lv_iconst (v := 2) hx hb dX13_rentOf_6 (by decide) ?_
  refine lv_iload_n hx hb dX13_rentOf_7 rfl (lv_at hl 1 rfl) ?_
  refine lv_imul hx hb dX13_rentOf_8 ?_
  refine lv_iadd hx hb dX13_rentOf_9 ?_
  refine lv_iconst (v := 1) hx hb dX13_rentOf_10 (by decide) ?_
  refine lv_iadd hx hb dX13_rentOf_11 ?_
  obtain ⟨g_i, hf⟩ := fg hf
  refine lA_X13_1 e20 hN cx hp g_i dX13_rentOf_12 ?_
  cases hf
  exact r_i cx hp ⟨rfl, (funext fr).symm⟩ dX13_rentOf_13
abbrev rm_X13_isSeller : Room := { frames := 1, cells := 0, slots := 0, locals := 22 }
set_option maxRecDepth 100000 in
set_option maxHeartbeats 4000000 in
theorem c_X13_isSeller (l : Launch) {E : Ev} (hN : 146 ≤ eN E) (hT : St E) {σ : SM} {ρ : OM} (e20 : σ 20 = ρ) {p1 : Int32} {rv : Int32} (hf : f_X13_isSeller p1 ρ = some rv) : Met l yX13_isSeller (wC yX13_isSeller cX13_isSeller 2 (some .boolean)) rm_X13_isSeller (va_Pc [.ref (adr E 20 0), .int p1] (Wu E σ)) (va_Qi (fun r u => rv = r ∧ σ = u) (fun u t => Wu E u t) (eA E)) 0 0 (eA E) := by
  refine g_entry (lv := [(0, .ref (adr E 20 0)), (1, .int p1)]) (by decide) (Nat.le_of_ble_eq_true rfl) rfl ?_
  intro p e s m below meth c cx hp ls hl
  have hx := cx.1.1
  have hb := cx.1.2.1
  have fr : ∀ q, σ q = σ q := fun _ => rfl
  unfold f_X13_isSeller at hf
  refine lv_iload_n hx hb dX13_isSeller_0 rfl (lv_at hl 1 rfl) ?_
  refine lv_iconst (v := 0) hx hb dX13_isSeller_1 (by decide) ?_
  refine lv_aload_n hx hb dX13_isSeller_2 rfl (lv_at hl 0 rfl) ?_
  refine gF_X13_7 rfl hN cx hp dX13_isSeller_3 ?_
  refine lv_iconst (v := 0) hx hb dX13_isSeller_6 (by decide) ?_
  obtain ⟨g_i, hf⟩ := fg hf
  refine lA_X13_1 e20 hN cx hp g_i dX13_isSeller_7 ?_
  refine lv_iconst (v := 1) hx hb dX13_isSeller_8 (by decide) ?_
  refine lv_isub hx hb dX13_isSeller_9 ?_
  obtain ⟨r1, hc, hf⟩ := fb hf
  refine x_i hp (y_S (As := [.int p1, .int 0, .int ((ρ.1 1 (Int32.toNatClampNeg 0)) - 1)]) (rest := []) cx hp hl (c_X13_isBetween l hN hT  hc) (cw_X13_90 cx (mc := 0) (ms := 0) rfl rfl ⟨by decide, by decide⟩) rfl rfl (Nat.le_of_ble_eq_true rfl) dX13_isSeller_10 ⟨Nat.zero_le _, Nat.zero_le _⟩) (fun r_c u_c H locs hq hp => ?_)
  obtain ⟨rfl, rfl⟩ := hq
  obtain ⟨g_z, hf⟩ := fg hf
  cases hf
  exact r_z cx hp (bz_n g_z) ⟨rfl, (funext fr).symm⟩ dX13_isSeller_13
abbrev rm_X13_isStall : Room := { frames := 1, cells := 0, slots := 0, locals := 22 }
set_option maxRecDepth 100000 in
set_option maxHeartbeats 4000000 in
theorem c_X13_isStall (l : Launch) {E : Ev} (hN : 146 ≤ eN E) (hT : St E) {σ : SM} {ρ : OM} (e20 : σ 20 = ρ) {p1 : Int32} {rv : Int32} (hf : f_X13_isStall p1 ρ = some rv) : Met l yX13_isStall (wC yX13_isStall cX13_isStall 2 (some .boolean)) rm_X13_isStall (va_Pc [.ref (adr E 20 0), .int p1] (Wu E σ)) (va_Qi (fun r u => rv = r ∧ σ = u) (fun u t => Wu E u t) (eA E)) 0 0 (eA E) := by
  refine g_entry (lv := [(0, .ref (adr E 20 0)), (1, .int p1)]) (by decide) (Nat.le_of_ble_eq_true rfl) rfl ?_
  intro p e s m below meth c cx hp ls hl
  have hx := cx.1.1
  have hb := cx.1.2.1
  have fr : ∀ q, σ q = σ q := fun _ => rfl
  unfold f_X13_isStall at hf
  refine lv_iload_n hx hb dX13_isStall_0 rfl (lv_at hl 1 rfl) ?_
  refine lv_iconst (v := 0) hx hb dX13_isStall_1 (by decide) ?_
  refine lv_aload_n hx hb dX13_isStall_2 rfl (lv_at hl 0 rfl) ?_
  refine gF_X13_7 rfl hN cx hp dX13_isStall_3 ?_
  refine lv_iconst (v := 1) hx hb dX13_isStall_6 (by decide) ?_
  obtain ⟨g_i, hf⟩ := fg hf
  refine lA_X13_1 e20 hN cx hp g_i dX13_isStall_7 ?_
  refine lv_iconst (v := 1) hx hb dX13_isStall_8 (by decide) ?_
  refine lv_isub hx hb dX13_isStall_9 ?_
  obtain ⟨r1, hc, hf⟩ := fb hf
  refine x_i hp (y_S (As := [.int p1, .int 0, .int ((ρ.1 1 (Int32.toNatClampNeg 1)) - 1)]) (rest := []) cx hp hl (c_X13_isBetween l hN hT  hc) (cw_X13_90 cx (mc := 0) (ms := 0) rfl rfl ⟨by decide, by decide⟩) rfl rfl (Nat.le_of_ble_eq_true rfl) dX13_isStall_10 ⟨Nat.zero_le _, Nat.zero_le _⟩) (fun r_c u_c H locs hq hp => ?_)
  obtain ⟨rfl, rfl⟩ := hq
  obtain ⟨g_z, hf⟩ := fg hf
  cases hf
  exact r_z cx hp (bz_n g_z) ⟨rfl, (funext fr).symm⟩ dX13_isStall_13
abbrev rm_X13_isOutcome : Room := { frames := 2, cells := 0, slots := 0, locals := 43 }
set_option maxRecDepth 100000 in
set_option maxHeartbeats 4000000 in
theorem c_X13_isOutcome (l : Launch) {E : Ev} (hN : 146 ≤ eN E) (hT : St E) {σ : SM} {ρ : OM} (e20 : σ 20 = ρ) {p1 : Int32} {rv : Int32} (hf : f_X13_isOutcome p1 ρ = some rv) : Met l yX13_isOutcome (wC yX13_isOutcome cX13_isOutcome 2 (some .boolean)) rm_X13_isOutcome (va_Pc [.ref (adr E 20 0), .int p1] (Wu E σ)) (va_Qi (fun r u => rv = r ∧ σ = u) (fun u t => Wu E u t) (eA E)) 0 0 (eA E) := by
  refine g_entry (lv := [(0, .ref (adr E 20 0)), (1, .int p1)]) (by decide) (Nat.le_of_ble_eq_true rfl) rfl ?_
  intro p e s m below meth c cx hp ls hl
  have hx := cx.1.1
  have hb := cx.1.2.1
  have fr : ∀ q, σ q = σ q := fun _ => rfl
  unfold f_X13_isOutcome at hf
  refine lv_iload_n hx hb dX13_isOutcome_0 rfl (lv_at hl 1 rfl) ?_
  refine lv_iconst (v := (-1)) hx hb dX13_isOutcome_1 (by decide) ?_
  refine lv_icmp_eq (tgt := 13) hx hb dX13_isOutcome_2 (by decide) (fun c1 => ?_) (fun c1 => ?_)
  · have hf := fp hf c1
    refine lv_iconst (v := 1) hx hb dX13_isOutcome_13 (by decide) ?_
    refine lv_goto (tgt := 18) hx hb dX13_isOutcome_14 (by decide) ?_
    cases hf
    exact r_z cx hp rfl ⟨rfl, (funext fr).symm⟩ dX13_isOutcome_18
  · have hf := fn hf c1
    refine lv_aload_n hx hb dX13_isOutcome_5 rfl (lv_at hl 0 rfl) ?_
    refine lv_iload_n hx hb dX13_isOutcome_6 rfl (lv_at hl 1 rfl) ?_
    obtain ⟨r2, hc, hf⟩ := fb hf
    refine x_i hp (y_V (As := [.int p1]) (rest := []) cx hp hl (c_X13_isStall l hN hT e20 hc) (cw_X13_94 cx (mc := 0) (ms := 0) rfl rfl ⟨by decide, by decide⟩) (rC_X13 hN cx hp) rfl rfl (Nat.le_of_ble_eq_true rfl) dX13_isOutcome_7 ⟨Nat.zero_le _, Nat.zero_le _⟩) (fun r_c u_c H locs hq hp => ?_)
    obtain ⟨rfl, rfl⟩ := hq
    refine lv_if_eq (tgt := 17) hx hb dX13_isOutcome_10 (by decide) (fun c3 => ?_) (fun c3 => ?_)
    · have hf := fp hf c3
      refine lv_iconst (v := 0) hx hb dX13_isOutcome_17 (by decide) ?_
      cases hf
      exact r_z cx hp rfl ⟨rfl, (funext fr).symm⟩ dX13_isOutcome_18
    · have hf := fn hf c3
      refine lv_iconst (v := 1) hx hb dX13_isOutcome_13 (by decide) ?_
      refine lv_goto (tgt := 18) hx hb dX13_isOutcome_14 (by decide) ?_
      cases hf
      exact r_z cx hp rfl ⟨rfl, (funext fr).symm⟩ dX13_isOutcome_18
abbrev rm_X13_badness : Room := { frames := 2, cells := 0, slots := 0, locals := 45 }
set_option maxRecDepth 100000 in
set_option maxHeartbeats 4000000 in
theorem c_X13_badness (l : Launch) {E : Ev} (hN : 146 ≤ eN E) (hT : St E) {σ : SM} {ρ : OM} (e20 : σ 20 = ρ) {p1 : Int32} {p2 : Int32} {rv : Int32} (hf : f_X13_badness p1 p2 ρ = some rv) : Met l yX13_badness (wC yX13_badness cX13_badness 4 (some .int)) rm_X13_badness (va_Pc [.ref (adr E 20 0), .int p1, .int p2] (Wu E σ)) (va_Qi (fun r u => rv = r ∧ σ = u) (fun u t => Wu E u t) (eA E)) 0 0 (eA E) := by
  refine g_entry (lv := [(0, .ref (adr E 20 0)), (1, .int p1), (2, .int p2)]) (by decide) (Nat.le_of_ble_eq_true rfl) rfl ?_
  intro p e s m below meth c cx hp ls hl
  have hx := cx.1.1
  have hb := cx.1.2.1
  have fr : ∀ q, σ q = σ q := fun _ => rfl
  unfold f_X13_badness at hf
  refine lv_iload_n hx hb dX13_badness_0 rfl (lv_at hl 2 rfl) ?_
  refine lv_iconst (v := (-1)) hx hb dX13_badness_1 (by decide) ?_
  refine lv_icmp_ne (tgt := 8) hx hb dX13_badness_2 (by decide) (fun c1 => ?_) (fun c1 => ?_)
  · have hf := fn hf c1
    refine lv_aload_n hx hb dX13_badness_8 rfl (lv_at hl 0 rfl) ?_
    refine lv_iload_n hx hb dX13_badness_9 rfl (lv_at hl 1 rfl) ?_
    refine lv_iload_n hx hb dX13_badness_10 rfl (lv_at hl 2 rfl) ?_
    obtain ⟨r2, hc, hf⟩ := fb hf
    refine x_i hp (y_V (As := [.int p1, .int p2]) (rest := []) cx hp hl (c_X13_rank l hN hT e20 hc) (cw_X13_102 cx (mc := 0) (ms := 0) rfl rfl ⟨by decide, by decide⟩) (rC_X13 hN cx hp) rfl rfl (Nat.le_of_ble_eq_true rfl) dX13_badness_11 ⟨Nat.zero_le _, Nat.zero_le _⟩) (fun r_c u_c H locs hq hp => ?_)
    obtain ⟨rfl, rfl⟩ := hq
    refine lv_istore_n (lv' := [(3, .int r2), (0, .ref (adr E 20 0)), (1, .int p1), (2, .int p2)]) hx hb dX13_badness_14 rfl hl (by decide) rfl (fun ls hl => ?_)
    refine lv_iload_n hx hb dX13_badness_15 rfl (lv_at hl 0 rfl) ?_
    refine lv_iconst (v := (-1)) hx hb dX13_badness_16 (by decide) ?_
    refine lv_icmp_ne (tgt := 25) hx hb dX13_badness_17 (by decide) (fun c3 => ?_) (fun c3 => ?_)
    · have hf := fn hf c3
      refine lv_iload_n hx hb dX13_badness_25 rfl (lv_at hl 0 rfl) ?_
      cases hf
      exact r_i cx hp ⟨rfl, (funext fr).symm⟩ dX13_badness_26
    · have hf := fp hf c3
      refine lv_bipush (v := 9) hx hb dX13_badness_20 (by decide) ?_
      refine lv_goto (tgt := 26) hx hb dX13_badness_22 (by decide) ?_
      cases hf
      exact r_i cx hp ⟨rfl, (funext fr).symm⟩ dX13_badness_26
  · have hf := fp hf c1
    refine lv_bipush (v := 8) hx hb dX13_badness_5 (by decide) ?_
    cases hf
    exact r_i cx hp ⟨rfl, (funext fr).symm⟩ dX13_badness_7
abbrev rm_X13_isBetter : Room := { frames := 3, cells := 0, slots := 0, locals := 68 }
set_option maxRecDepth 100000 in
set_option maxHeartbeats 4000000 in
theorem c_X13_isBetter (l : Launch) {E : Ev} (hN : 146 ≤ eN E) (hT : St E) {σ : SM} {ρ : OM} (e20 : σ 20 = ρ) {p1 : Int32} {p2 : Int32} {p3 : Int32} {rv : Int32} (hf : f_X13_isBetter p1 p2 p3 ρ = some rv) : Met l yX13_isBetter (wC yX13_isBetter cX13_isBetter 4 (some .boolean)) rm_X13_isBetter (va_Pc [.ref (adr E 20 0), .int p1, .int p2, .int p3] (Wu E σ)) (va_Qi (fun r u => rv = r ∧ σ = u) (fun u t => Wu E u t) (eA E)) 0 0 (eA E) := by
  refine g_entry (lv := [(0, .ref (adr E 20 0)), (1, .int p1), (2, .int p2), (3, .int p3)]) (by decide) (Nat.le_of_ble_eq_true rfl) rfl ?_
  intro p e s m below meth c cx hp ls hl
  have hx := cx.1.1
  have hb := cx.1.2.1
  have fr : ∀ q, σ q = σ q := fun _ => rfl
  unfold f_X13_isBetter at hf
  refine lv_aload_n hx hb dX13_isBetter_0 rfl (lv_at hl 0 rfl) ?_
  refine lv_iload_n hx hb dX13_isBetter_1 rfl (lv_at hl 1 rfl) ?_
  refine lv_iload_n hx hb dX13_isBetter_2 rfl (lv_at hl 2 rfl) ?_
  obtain ⟨r1, hc, hf⟩ := fb hf
  refine x_i hp (y_V (As := [.int p1, .int p2]) (rest := []) cx hp hl (c_X13_badness l hN hT e20 hc) (cw_X13_105 cx (mc := 0) (ms := 0) rfl rfl ⟨by decide, by decide⟩) (rC_X13 hN cx hp) rfl rfl (Nat.le_of_ble_eq_true rfl) dX13_isBetter_3 ⟨Nat.zero_le _, Nat.zero_le _⟩) (fun r_c u_c H locs hq hp => ?_)
  obtain ⟨rfl, rfl⟩ := hq
  refine lv_aload_n hx hb dX13_isBetter_6 rfl (lv_at hl 0 rfl) ?_
  refine lv_iload_n hx hb dX13_isBetter_7 rfl (lv_at hl 1 rfl) ?_
  refine lv_iload_n hx hb dX13_isBetter_8 rfl (lv_at hl 3 rfl) ?_
  obtain ⟨r2, hc, hf⟩ := fb hf
  refine x_i hp (y_V (As := [.int p1, .int p3]) (rest := [.int r1]) cx hp hl (c_X13_badness l hN hT e20 hc) (cw_X13_105 cx (mc := 0) (ms := 0) rfl rfl ⟨by decide, by decide⟩) (rC_X13 hN cx hp) rfl rfl (Nat.le_of_ble_eq_true rfl) dX13_isBetter_9 ⟨Nat.zero_le _, Nat.zero_le _⟩) (fun r_c u_c H locs hq hp => ?_)
  obtain ⟨rfl, rfl⟩ := hq
  refine lv_icmp_ge (tgt := 19) hx hb dX13_isBetter_12 (by decide) (fun c3 => ?_) (fun c3 => ?_)
  · have hf := fp hf c3
    refine lv_iconst (v := 0) hx hb dX13_isBetter_19 (by decide) ?_
    cases hf
    exact r_z cx hp rfl ⟨rfl, (funext fr).symm⟩ dX13_isBetter_20
  · have hf := fn hf c3
    refine lv_iconst (v := 1) hx hb dX13_isBetter_15 (by decide) ?_
    refine lv_goto (tgt := 20) hx hb dX13_isBetter_16 (by decide) ?_
    cases hf
    exact r_z cx hp rfl ⟨rfl, (funext fr).symm⟩ dX13_isBetter_20
abbrev rm_X13_positionOf : Room := { frames := 0, cells := 0, slots := 0, locals := 0 }
set_option maxRecDepth 100000 in
set_option maxHeartbeats 4000000 in
theorem L_X13_positionOf_2 {p : Program} {e : Env} {s : State} {m : MethodId} {args : Array Value} {below : List Frame} {meth : Method} {c : Code} (l : Launch) {E : Ev} (hN : 146 ≤ eN E) (hT : St E) {σ : SM} (cx : Cx E p s m meth c args RX13 cX13_positionOf 3 (some .int)) {x1 : Int32} {ρ : OM} {rv : Int32} : ∀ (n : Nat) {x2 : Int32}, f_X13_positionOf_2 x1 ρ n x2 = some rv → ∀ {u : SM} {H : Heap} {locs : List Loc} {ls : Array Slot}, u 20 = ρ → (∀ q, u q = σ q) → Hp E u s H locs → lv_has ls 3 [(0, .ref (adr E 20 0)), (1, .int x1), (2, .int x2)] → W p l e rm_X13_positionOf s m args below meth c H locs 0 0 (MQ below (va_Qi (fun r u => rv = r ∧ σ = u) (fun u t => Wu E u t) (eA E)) args s 0 0 (eA E)) (F0 m 2 ls []) := by
  have hx := cx.1.1
  have hb := cx.1.2.1
  intro n
  induction n with
  | zero =>
    intro x2 hf
    exact absurd hf (by simp [f_X13_positionOf_2])
  | succ n ih =>
    intro x2 hf u H locs ls e20 fr hp hl
    rw [f_X13_positionOf_2] at hf
    refine lv_aload_n hx hb dX13_positionOf_2 rfl (lv_at hl 0 rfl) ?_
    refine gF_X13_7 rfl hN cx hp dX13_positionOf_3 ?_
    refine lv_sipush (v := 129) hx hb dX13_positionOf_6 (by decide) ?_
    refine lv_iload_n hx hb dX13_positionOf_9 rfl (lv_at hl 2 rfl) ?_
    refine lv_iadd hx hb dX13_positionOf_10 ?_
    obtain ⟨g_i, hf⟩ := fg hf
    refine lA_X13_1 e20 hN cx hp g_i dX13_positionOf_11 ?_
    refine lv_iload_n hx hb dX13_positionOf_12 rfl (lv_at hl 1 rfl) ?_
    refine lv_icmp_eq (tgt := 22) hx hb dX13_positionOf_13 (by decide) (fun c1 => ?_) (fun c1 => ?_)
    · have hf := fp hf c1
      refine lv_iload_n hx hb dX13_positionOf_22 rfl (lv_at hl 2 rfl) ?_
      cases hf
      exact r_i cx hp ⟨rfl, (funext fr).symm⟩ dX13_positionOf_23
    · have hf := fn hf c1
      refine lv_iinc (v := (x2 + 1)) (lv' := [(2, .int (x2 + 1)), (0, .ref (adr E 20 0)), (1, .int x1)]) hx hb dX13_positionOf_16 hl (k := 2) rfl rfl (by decide) rfl (fun ls hl => ?_)
      refine lv_goto (tgt := 2) hx hb dX13_positionOf_19 (by decide) ?_
      exact ih  hf e20 fr hp (lv_sub hl [1, 2, 0] rfl)
set_option maxRecDepth 100000 in
set_option maxHeartbeats 4000000 in
theorem c_X13_positionOf (l : Launch) {E : Ev} (hN : 146 ≤ eN E) (hT : St E) {σ : SM} {ρ : OM} (e20 : σ 20 = ρ) {p1 : Int32} {rv : Int32} (hf : f_X13_positionOf p1 ρ = some rv) : Met l yX13_positionOf (wC yX13_positionOf cX13_positionOf 3 (some .int)) rm_X13_positionOf (va_Pc [.ref (adr E 20 0), .int p1] (Wu E σ)) (va_Qi (fun r u => rv = r ∧ σ = u) (fun u t => Wu E u t) (eA E)) 0 0 (eA E) := by
  refine g_entry (lv := [(0, .ref (adr E 20 0)), (1, .int p1)]) (by decide) (Nat.le_of_ble_eq_true rfl) rfl ?_
  intro p e s m below meth c cx hp ls hl
  have hx := cx.1.1
  have hb := cx.1.2.1
  have fr : ∀ q, σ q = σ q := fun _ => rfl
  unfold f_X13_positionOf at hf
  refine lv_iconst (v := 0) hx hb dX13_positionOf_0 (by decide) ?_
  refine lv_istore_n (lv' := [(2, .int 0), (0, .ref (adr E 20 0)), (1, .int p1)]) hx hb dX13_positionOf_1 rfl hl (by decide) rfl (fun ls hl => ?_)
  exact L_X13_positionOf_2 l hN hT cx  _ hf e20 fr hp (lv_sub hl [1, 2, 0] rfl)
abbrev rm_X13_longsFor : Room := { frames := 4, cells := 0, slots := 0, locals := 91 }
set_option maxRecDepth 100000 in
set_option maxHeartbeats 4000000 in
theorem c_X13_longsFor (l : Launch) {E : Ev} (hN : 146 ≤ eN E) (hT : St E) {σ : SM} {ρ : OM} (e20 : σ 20 = ρ) {p1 : Int32} {p2 : Int32} {rv : Int32} (hf : f_X13_longsFor p1 p2 ρ = some rv) : Met l yX13_longsFor (wC yX13_longsFor cX13_longsFor 4 (some .boolean)) rm_X13_longsFor (va_Pc [.ref (adr E 20 0), .int p1, .int p2] (Wu E σ)) (va_Qi (fun r u => rv = r ∧ σ = u) (fun u t => Wu E u t) (eA E)) 0 0 (eA E) := by
  refine g_entry (lv := [(0, .ref (adr E 20 0)), (1, .int p1), (2, .int p2)]) (by decide) (Nat.le_of_ble_eq_true rfl) rfl ?_
  intro p e s m below meth c cx hp ls hl
  have hx := cx.1.1
  have hb := cx.1.2.1
  have fr : ∀ q, σ q = σ q := fun _ => rfl
  unfold f_X13_longsFor at hf
  refine lv_aload_n hx hb dX13_longsFor_0 rfl (lv_at hl 0 rfl) ?_
  refine lv_iload_n hx hb dX13_longsFor_1 rfl (lv_at hl 2 rfl) ?_
  refine lv_iconst (v := 3) hx hb dX13_longsFor_2 (by decide) ?_
  obtain ⟨r1, hc, hf⟩ := fb hf
  refine x_i hp (y_V (As := [.int p2, .int 3]) (rest := []) cx hp hl (c_X13_of l hN hT e20 hc) (cw_X13_98 cx (mc := 0) (ms := 0) rfl rfl ⟨by decide, by decide⟩) (rC_X13 hN cx hp) rfl rfl (Nat.le_of_ble_eq_true rfl) dX13_longsFor_3 ⟨Nat.zero_le _, Nat.zero_le _⟩) (fun r_c u_c H locs hq hp => ?_)
  obtain ⟨rfl, rfl⟩ := hq
  refine lv_istore_n (lv' := [(3, .int r1), (0, .ref (adr E 20 0)), (1, .int p1), (2, .int p2)]) hx hb dX13_longsFor_6 rfl hl (by decide) rfl (fun ls hl => ?_)
  refine lv_iload_n hx hb dX13_longsFor_7 rfl (lv_at hl 0 rfl) ?_
  refine lv_iconst (v := (-1)) hx hb dX13_longsFor_8 (by decide) ?_
  refine lv_icmp_eq (tgt := 31) hx hb dX13_longsFor_9 (by decide) (fun c2 => ?_) (fun c2 => ?_)
  · have hf := fp hf c2
    refine lv_iconst (v := 0) hx hb dX13_longsFor_31 (by decide) ?_
    cases hf
    exact r_z cx hp rfl ⟨rfl, (funext fr).symm⟩ dX13_longsFor_32
  · have hf := fn hf c2
    refine lv_aload_n hx hb dX13_longsFor_12 rfl (lv_at hl 1 rfl) ?_
    refine lv_iload_n hx hb dX13_longsFor_13 rfl (lv_at hl 2 rfl) ?_
    refine lv_iload_n hx hb dX13_longsFor_14 rfl (lv_at hl 0 rfl) ?_
    refine lv_aload_n hx hb dX13_longsFor_15 rfl (lv_at hl 1 rfl) ?_
    refine lv_iload_n hx hb dX13_longsFor_16 rfl (lv_at hl 2 rfl) ?_
    refine lv_iconst (v := 3) hx hb dX13_longsFor_17 (by decide) ?_
    obtain ⟨r3, hc, hf⟩ := fb hf
    refine x_i hp (y_V (As := [.int p1, .int 3]) (rest := [.int r1, .int p1, .ref (adr E 20 0)]) cx hp hl (c_X13_of l hN hT e20 hc) (cw_X13_98 cx (mc := 0) (ms := 0) rfl rfl ⟨by decide, by decide⟩) (rC_X13 hN cx hp) rfl rfl (Nat.le_of_ble_eq_true rfl) dX13_longsFor_18 ⟨Nat.zero_le _, Nat.zero_le _⟩) (fun r_c u_c H locs hq hp => ?_)
    obtain ⟨rfl, rfl⟩ := hq
    obtain ⟨r4, hc, hf⟩ := fb hf
    refine x_i hp (y_V (As := [.int p1, .int r1, .int r3]) (rest := []) cx hp hl (c_X13_isBetter l hN hT e20 hc) (cw_X13_108 cx (mc := 0) (ms := 0) rfl rfl ⟨by decide, by decide⟩) (rC_X13 hN cx hp) rfl rfl (Nat.le_of_ble_eq_true rfl) dX13_longsFor_21 ⟨Nat.zero_le _, Nat.zero_le _⟩) (fun r_c u_c H locs hq hp => ?_)
    obtain ⟨rfl, rfl⟩ := hq
    refine lv_if_eq (tgt := 31) hx hb dX13_longsFor_24 (by decide) (fun c5 => ?_) (fun c5 => ?_)
    · have hf := fp hf c5
      refine lv_iconst (v := 0) hx hb dX13_longsFor_31 (by decide) ?_
      cases hf
      exact r_z cx hp rfl ⟨rfl, (funext fr).symm⟩ dX13_longsFor_32
    · have hf := fn hf c5
      refine lv_iconst (v := 1) hx hb dX13_longsFor_27 (by decide) ?_
      refine lv_goto (tgt := 32) hx hb dX13_longsFor_28 (by decide) ?_
      cases hf
      exact r_z cx hp rfl ⟨rfl, (funext fr).symm⟩ dX13_longsFor_32
abbrev rm_X13_exchange : Room := { frames := 5, cells := 0, slots := 0, locals := 114 }
set_option maxRecDepth 100000 in
set_option maxHeartbeats 4000000 in
theorem c_X13_exchange (l : Launch) {E : Ev} (hN : 146 ≤ eN E) (hT : St E) {σ : SM} {ρ : OM} (e20 : σ 20 = ρ) {p1 : Int32} {p2 : Int32} {rv : Int32} (hf : f_X13_exchange p1 p2 ρ = some rv) : Met l yX13_exchange (wC yX13_exchange cX13_exchange 4 (some .boolean)) rm_X13_exchange (va_Pc [.ref (adr E 20 0), .int p1, .int p2] (Wu E σ)) (va_Qi (fun r u => rv = r ∧ σ = u) (fun u t => Wu E u t) (eA E)) 0 0 (eA E) := by
  refine g_entry (lv := [(0, .ref (adr E 20 0)), (1, .int p1), (2, .int p2)]) (by decide) (Nat.le_of_ble_eq_true rfl) rfl ?_
  intro p e s m below meth c cx hp ls hl
  have hx := cx.1.1
  have hb := cx.1.2.1
  have fr : ∀ q, σ q = σ q := fun _ => rfl
  unfold f_X13_exchange at hf
  refine lv_iload_n hx hb dX13_exchange_0 rfl (lv_at hl 1 rfl) ?_
  refine lv_iload_n hx hb dX13_exchange_1 rfl (lv_at hl 2 rfl) ?_
  refine lv_icmp_eq (tgt := 29) hx hb dX13_exchange_2 (by decide) (fun c1 => ?_) (fun c1 => ?_)
  · have hf := fp hf c1
    refine lv_iconst (v := 0) hx hb dX13_exchange_29 (by decide) ?_
    refine lv_istore_n (lv' := [(3, .int 0), (0, .ref (adr E 20 0)), (1, .int p1), (2, .int p2)]) hx hb dX13_exchange_30 rfl hl (by decide) rfl (fun ls hl => ?_)
    refine lv_iload_n hx hb dX13_exchange_31 rfl (lv_at hl 0 rfl) ?_
    refine lv_if_eq (tgt := 57) hx hb dX13_exchange_32 (by decide) (fun _ => ?_) (fun c_x => absurd (by decide) c_x)
    refine lv_iconst (v := 0) hx hb dX13_exchange_57 (by decide) ?_
    cases hf
    exact r_z cx hp rfl ⟨rfl, (funext fr).symm⟩ dX13_exchange_58
  · have hf := fn hf c1
    refine lv_aload_n hx hb dX13_exchange_5 rfl (lv_at hl 0 rfl) ?_
    refine lv_iload_n hx hb dX13_exchange_6 rfl (lv_at hl 1 rfl) ?_
    refine lv_iconst (v := 3) hx hb dX13_exchange_7 (by decide) ?_
    obtain ⟨r3, hc, hf⟩ := fb hf
    refine x_i hp (y_V (As := [.int p1, .int 3]) (rest := []) cx hp hl (c_X13_of l hN hT e20 hc) (cw_X13_98 cx (mc := 0) (ms := 0) rfl rfl ⟨by decide, by decide⟩) (rC_X13 hN cx hp) rfl rfl (Nat.le_of_ble_eq_true rfl) dX13_exchange_8 ⟨Nat.zero_le _, Nat.zero_le _⟩) (fun r_c u_c H locs hq hp => ?_)
    obtain ⟨rfl, rfl⟩ := hq
    refine lv_iconst (v := (-1)) hx hb dX13_exchange_11 (by decide) ?_
    refine lv_icmp_eq (tgt := 29) hx hb dX13_exchange_12 (by decide) (fun c4 => ?_) (fun c4 => ?_)
    · have hf := fp hf c4
      refine lv_iconst (v := 0) hx hb dX13_exchange_29 (by decide) ?_
      refine lv_istore_n (lv' := [(3, .int 0), (0, .ref (adr E 20 0)), (1, .int p1), (2, .int p2)]) hx hb dX13_exchange_30 rfl hl (by decide) rfl (fun ls hl => ?_)
      refine lv_iload_n hx hb dX13_exchange_31 rfl (lv_at hl 0 rfl) ?_
      refine lv_if_eq (tgt := 57) hx hb dX13_exchange_32 (by decide) (fun _ => ?_) (fun c_x => absurd (by decide) c_x)
      refine lv_iconst (v := 0) hx hb dX13_exchange_57 (by decide) ?_
      cases hf
      exact r_z cx hp rfl ⟨rfl, (funext fr).symm⟩ dX13_exchange_58
    · have hf := fn hf c4
      refine lv_aload_n hx hb dX13_exchange_15 rfl (lv_at hl 0 rfl) ?_
      refine lv_iload_n hx hb dX13_exchange_16 rfl (lv_at hl 2 rfl) ?_
      refine lv_iconst (v := 3) hx hb dX13_exchange_17 (by decide) ?_
      obtain ⟨r6, hc, hf⟩ := fb hf
      refine x_i hp (y_V (As := [.int p2, .int 3]) (rest := []) cx hp hl (c_X13_of l hN hT e20 hc) (cw_X13_98 cx (mc := 0) (ms := 0) rfl rfl ⟨by decide, by decide⟩) (rC_X13 hN cx hp) rfl rfl (Nat.le_of_ble_eq_true rfl) dX13_exchange_18 ⟨Nat.zero_le _, Nat.zero_le _⟩) (fun r_c u_c H locs hq hp => ?_)
      obtain ⟨rfl, rfl⟩ := hq
      refine lv_iconst (v := (-1)) hx hb dX13_exchange_21 (by decide) ?_
      refine lv_icmp_eq (tgt := 29) hx hb dX13_exchange_22 (by decide) (fun c7 => ?_) (fun c7 => ?_)
      · have hf := fp hf c7
        refine lv_iconst (v := 0) hx hb dX13_exchange_29 (by decide) ?_
        refine lv_istore_n (lv' := [(3, .int 0), (0, .ref (adr E 20 0)), (1, .int p1), (2, .int p2)]) hx hb dX13_exchange_30 rfl hl (by decide) rfl (fun ls hl => ?_)
        refine lv_iload_n hx hb dX13_exchange_31 rfl (lv_at hl 0 rfl) ?_
        refine lv_if_eq (tgt := 57) hx hb dX13_exchange_32 (by decide) (fun _ => ?_) (fun c_x => absurd (by decide) c_x)
        refine lv_iconst (v := 0) hx hb dX13_exchange_57 (by decide) ?_
        cases hf
        exact r_z cx hp rfl ⟨rfl, (funext fr).symm⟩ dX13_exchange_58
      · have hf := fn hf c7
        refine lv_iconst (v := 1) hx hb dX13_exchange_25 (by decide) ?_
        refine lv_goto (tgt := 30) hx hb dX13_exchange_26 (by decide) ?_
        refine lv_istore_n (lv' := [(3, .int 1), (0, .ref (adr E 20 0)), (1, .int p1), (2, .int p2)]) hx hb dX13_exchange_30 rfl hl (by decide) rfl (fun ls hl => ?_)
        refine lv_iload_n hx hb dX13_exchange_31 rfl (lv_at hl 0 rfl) ?_
        refine lv_if_eq (tgt := 57) hx hb dX13_exchange_32 (by decide) (fun c_x => absurd c_x (by decide)) (fun _ => ?_)
        refine lv_aload_n hx hb dX13_exchange_35 rfl (lv_at hl 1 rfl) ?_
        refine lv_iload_n hx hb dX13_exchange_36 rfl (lv_at hl 2 rfl) ?_
        refine lv_iload_n hx hb dX13_exchange_37 rfl (lv_at hl 3 rfl) ?_
        obtain ⟨r10, hc, hf⟩ := fb hf
        refine x_i hp (y_V (As := [.int p1, .int p2]) (rest := []) cx hp hl (c_X13_longsFor l hN hT e20 hc) (cw_X13_111 cx (mc := 0) (ms := 0) rfl rfl ⟨by decide, by decide⟩) (rC_X13 hN cx hp) rfl rfl (Nat.le_of_ble_eq_true rfl) dX13_exchange_38 ⟨Nat.zero_le _, Nat.zero_le _⟩) (fun r_c u_c H locs hq hp => ?_)
        obtain ⟨rfl, rfl⟩ := hq
        refine lv_if_eq (tgt := 57) hx hb dX13_exchange_41 (by decide) (fun c11 => ?_) (fun c11 => ?_)
        · have hf := fp hf c11
          refine lv_iconst (v := 0) hx hb dX13_exchange_57 (by decide) ?_
          cases hf
          exact r_z cx hp rfl ⟨rfl, (funext fr).symm⟩ dX13_exchange_58
        · have hf := fn hf c11
          refine lv_aload_n hx hb dX13_exchange_44 rfl (lv_at hl 1 rfl) ?_
          refine lv_iload_n hx hb dX13_exchange_45 rfl (lv_at hl 3 rfl) ?_
          refine lv_iload_n hx hb dX13_exchange_46 rfl (lv_at hl 2 rfl) ?_
          obtain ⟨r12, hc, hf⟩ := fb hf
          refine x_i hp (y_V (As := [.int p2, .int p1]) (rest := []) cx hp hl (c_X13_longsFor l hN hT e20 hc) (cw_X13_111 cx (mc := 0) (ms := 0) rfl rfl ⟨by decide, by decide⟩) (rC_X13 hN cx hp) rfl rfl (Nat.le_of_ble_eq_true rfl) dX13_exchange_47 ⟨Nat.zero_le _, Nat.zero_le _⟩) (fun r_c u_c H locs hq hp => ?_)
          obtain ⟨rfl, rfl⟩ := hq
          refine lv_if_eq (tgt := 57) hx hb dX13_exchange_50 (by decide) (fun c13 => ?_) (fun c13 => ?_)
          · have hf := fp hf c13
            refine lv_iconst (v := 0) hx hb dX13_exchange_57 (by decide) ?_
            cases hf
            exact r_z cx hp rfl ⟨rfl, (funext fr).symm⟩ dX13_exchange_58
          · have hf := fn hf c13
            refine lv_iconst (v := 1) hx hb dX13_exchange_53 (by decide) ?_
            refine lv_goto (tgt := 58) hx hb dX13_exchange_54 (by decide) ?_
            cases hf
            exact r_z cx hp rfl ⟨rfl, (funext fr).symm⟩ dX13_exchange_58
abbrev rm_X13_betterFree : Room := { frames := 4, cells := 0, slots := 0, locals := 91 }
set_option maxRecDepth 100000 in
set_option maxHeartbeats 4000000 in
theorem L_X13_betterFree_2 {p : Program} {e : Env} {s : State} {m : MethodId} {args : Array Value} {below : List Frame} {meth : Method} {c : Code} (l : Launch) {E : Ev} (hN : 146 ≤ eN E) (hT : St E) {σ : SM} (cx : Cx E p s m meth c args RX13 cX13_betterFree 4 (some .int)) {x1 : Int32} {ρ : OM} {rv : Int32} : ∀ (n : Nat) {x2 : Int32}, f_X13_betterFree_2 x1 ρ n x2 = some rv → ∀ {u : SM} {H : Heap} {locs : List Loc} {ls : Array Slot}, u 20 = ρ → (∀ q, u q = σ q) → Hp E u s H locs → lv_has ls 4 [(0, .ref (adr E 20 0)), (1, .int x1), (2, .int x2)] → W p l e rm_X13_betterFree s m args below meth c H locs 0 0 (MQ below (va_Qi (fun r u => rv = r ∧ σ = u) (fun u t => Wu E u t) (eA E)) args s 0 0 (eA E)) (F0 m 2 ls []) := by
  have hx := cx.1.1
  have hb := cx.1.2.1
  intro n
  induction n with
  | zero =>
    intro x2 hf
    exact absurd hf (by simp [f_X13_betterFree_2])
  | succ n ih =>
    intro x2 hf u H locs ls e20 fr hp hl
    rw [f_X13_betterFree_2] at hf
    refine lv_iload_n hx hb dX13_betterFree_2 rfl (lv_at hl 2 rfl) ?_
    refine lv_aload_n hx hb dX13_betterFree_3 rfl (lv_at hl 0 rfl) ?_
    refine lv_iload_n hx hb dX13_betterFree_4 rfl (lv_at hl 1 rfl) ?_
    refine lv_iconst (v := 4) hx hb dX13_betterFree_5 (by decide) ?_
    obtain ⟨r1, hc, hf⟩ := fb hf
    refine x_i hp (y_V (As := [.int x1, .int 4]) (rest := [.int x2]) cx hp hl (c_X13_of l hN hT e20 hc) (cw_X13_98 cx (mc := 0) (ms := 0) rfl rfl ⟨by decide, by decide⟩) (rC_X13 hN cx hp) rfl rfl (Nat.le_of_ble_eq_true rfl) dX13_betterFree_6 ⟨Nat.zero_le _, Nat.zero_le _⟩) (fun r_c u_c H locs hq hp => ?_)
    obtain ⟨rfl, rfl⟩ := hq
    refine lv_icmp_ge (tgt := 53) hx hb dX13_betterFree_9 (by decide) (fun c2 => ?_) (fun c2 => ?_)
    · have hf := fp hf c2
      refine lv_iconst (v := (-1)) hx hb dX13_betterFree_53 (by decide) ?_
      cases hf
      exact r_i cx hp ⟨rfl, (funext fr).symm⟩ dX13_betterFree_54
    · have hf := fn hf c2
      refine lv_aload_n hx hb dX13_betterFree_12 rfl (lv_at hl 0 rfl) ?_
      refine lv_iload_n hx hb dX13_betterFree_13 rfl (lv_at hl 1 rfl) ?_
      refine lv_iconst (v := 5) hx hb dX13_betterFree_14 (by decide) ?_
      refine lv_iload_n hx hb dX13_betterFree_15 rfl (lv_at hl 2 rfl) ?_
      refine lv_iadd hx hb dX13_betterFree_16 ?_
      obtain ⟨r3, hc, hf⟩ := fb hf
      refine x_i hp (y_V (As := [.int x1, .int (5 + x2)]) (rest := []) cx hp hl (c_X13_of l hN hT e20 hc) (cw_X13_98 cx (mc := 0) (ms := 0) rfl rfl ⟨by decide, by decide⟩) (rC_X13 hN cx hp) rfl rfl (Nat.le_of_ble_eq_true rfl) dX13_betterFree_17 ⟨Nat.zero_le _, Nat.zero_le _⟩) (fun r_c u_c H locs hq hp => ?_)
      obtain ⟨rfl, rfl⟩ := hq
      refine lv_istore_n (lv' := [(3, .int r3), (0, .ref (adr E 20 0)), (1, .int x1), (2, .int x2)]) hx hb dX13_betterFree_20 rfl hl (by decide) rfl (fun ls hl => ?_)
      refine lv_aload_n hx hb dX13_betterFree_21 rfl (lv_at hl 1 rfl) ?_
      refine lv_iload_n hx hb dX13_betterFree_22 rfl (lv_at hl 0 rfl) ?_
      obtain ⟨r4, hc, hf⟩ := fb hf
      refine x_i hp (y_V (As := [.int r3]) (rest := []) cx hp hl (c_X13_occupant l hN hT e20 hc) (cw_X13_115 cx (mc := 0) (ms := 0) rfl rfl ⟨by decide, by decide⟩) (rC_X13 hN cx hp) rfl rfl (Nat.le_of_ble_eq_true rfl) dX13_betterFree_23 ⟨Nat.zero_le _, Nat.zero_le _⟩) (fun r_c u_c H locs hq hp => ?_)
      obtain ⟨rfl, rfl⟩ := hq
      refine lv_iconst (v := (-1)) hx hb dX13_betterFree_26 (by decide) ?_
      refine lv_icmp_ne (tgt := 47) hx hb dX13_betterFree_27 (by decide) (fun c5 => ?_) (fun c5 => ?_)
      · have hf := fn hf c5
        refine lv_iinc (v := (x2 + 1)) (lv' := [(2, .int (x2 + 1)), (3, .int r3), (0, .ref (adr E 20 0)), (1, .int x1)]) hx hb dX13_betterFree_47 hl (k := 3) rfl rfl (by decide) rfl (fun ls hl => ?_)
        refine lv_goto (tgt := 2) hx hb dX13_betterFree_50 (by decide) ?_
        exact ih  hf e20 fr hp (lv_sub hl [2, 3, 0] rfl)
      · have hf := fp hf c5
        refine lv_aload_n hx hb dX13_betterFree_30 rfl (lv_at hl 1 rfl) ?_
        refine lv_iload_n hx hb dX13_betterFree_31 rfl (lv_at hl 2 rfl) ?_
        refine lv_iload_n hx hb dX13_betterFree_32 rfl (lv_at hl 0 rfl) ?_
        refine lv_aload_n hx hb dX13_betterFree_33 rfl (lv_at hl 1 rfl) ?_
        refine lv_iload_n hx hb dX13_betterFree_34 rfl (lv_at hl 2 rfl) ?_
        refine lv_iconst (v := 3) hx hb dX13_betterFree_35 (by decide) ?_
        obtain ⟨r6, hc, hf⟩ := fb hf
        refine x_i hp (y_V (As := [.int x1, .int 3]) (rest := [.int r3, .int x1, .ref (adr E 20 0)]) cx hp hl (c_X13_of l hN hT e20 hc) (cw_X13_98 cx (mc := 0) (ms := 0) rfl rfl ⟨by decide, by decide⟩) (rC_X13 hN cx hp) rfl rfl (Nat.le_of_ble_eq_true rfl) dX13_betterFree_36 ⟨Nat.zero_le _, Nat.zero_le _⟩) (fun r_c u_c H locs hq hp => ?_)
        obtain ⟨rfl, rfl⟩ := hq
        obtain ⟨r7, hc, hf⟩ := fb hf
        refine x_i hp (y_V (As := [.int x1, .int r3, .int r6]) (rest := []) cx hp hl (c_X13_isBetter l hN hT e20 hc) (cw_X13_108 cx (mc := 0) (ms := 0) rfl rfl ⟨by decide, by decide⟩) (rC_X13 hN cx hp) rfl rfl (Nat.le_of_ble_eq_true rfl) dX13_betterFree_39 ⟨Nat.zero_le _, Nat.zero_le _⟩) (fun r_c u_c H locs hq hp => ?_)
        obtain ⟨rfl, rfl⟩ := hq
        refine lv_if_eq (tgt := 47) hx hb dX13_betterFree_42 (by decide) (fun c8 => ?_) (fun c8 => ?_)
        · have hf := fp hf c8
          refine lv_iinc (v := (x2 + 1)) (lv' := [(2, .int (x2 + 1)), (3, .int r3), (0, .ref (adr E 20 0)), (1, .int x1)]) hx hb dX13_betterFree_47 hl (k := 3) rfl rfl (by decide) rfl (fun ls hl => ?_)
          refine lv_goto (tgt := 2) hx hb dX13_betterFree_50 (by decide) ?_
          exact ih  hf e20 fr hp (lv_sub hl [2, 3, 0] rfl)
        · have hf := fn hf c8
          refine lv_iload_n hx hb dX13_betterFree_45 rfl (lv_at hl 0 rfl) ?_
          cases hf
          exact r_i cx hp ⟨rfl, (funext fr).symm⟩ dX13_betterFree_46
set_option maxRecDepth 100000 in
set_option maxHeartbeats 4000000 in
theorem c_X13_betterFree (l : Launch) {E : Ev} (hN : 146 ≤ eN E) (hT : St E) {σ : SM} {ρ : OM} (e20 : σ 20 = ρ) {p1 : Int32} {rv : Int32} (hf : f_X13_betterFree p1 ρ = some rv) : Met l yX13_betterFree (wC yX13_betterFree cX13_betterFree 4 (some .int)) rm_X13_betterFree (va_Pc [.ref (adr E 20 0), .int p1] (Wu E σ)) (va_Qi (fun r u => rv = r ∧ σ = u) (fun u t => Wu E u t) (eA E)) 0 0 (eA E) := by
  refine g_entry (lv := [(0, .ref (adr E 20 0)), (1, .int p1)]) (by decide) (Nat.le_of_ble_eq_true rfl) rfl ?_
  intro p e s m below meth c cx hp ls hl
  have hx := cx.1.1
  have hb := cx.1.2.1
  have fr : ∀ q, σ q = σ q := fun _ => rfl
  unfold f_X13_betterFree at hf
  refine lv_iconst (v := 0) hx hb dX13_betterFree_0 (by decide) ?_
  refine lv_istore_n (lv' := [(2, .int 0), (0, .ref (adr E 20 0)), (1, .int p1)]) hx hb dX13_betterFree_1 rfl hl (by decide) rfl (fun ls hl => ?_)
  exact L_X13_betterFree_2 l hN hT cx  _ hf e20 fr hp (lv_sub hl [1, 2, 0] rfl)
abbrev rm_X13_spreads : Room := { frames := 5, cells := 0, slots := 0, locals := 114 }
set_option maxRecDepth 100000 in
set_option maxHeartbeats 4000000 in
theorem L_X13_spreads_2 {p : Program} {e : Env} {s : State} {m : MethodId} {args : Array Value} {below : List Frame} {meth : Method} {c : Code} (l : Launch) {E : Ev} (hN : 146 ≤ eN E) (hT : St E) {σ : SM} (cx : Cx E p s m meth c args RX13 cX13_spreads 4 none) {x1 : Int32} {x2 : Int32} {ρ' : OM} : ∀ (n : Nat) {x3 : Int32} {ρ : OM}, f_X13_spreads_2 x1 x2 n x3 ρ = some ρ' → ∀ {u : SM} {H : Heap} {locs : List Loc} {ls : Array Slot}, u 20 = ρ → (∀ q, q ≠ 20 → u q = σ q) → Hp E u s H locs → lv_has ls 4 [(0, .ref (adr E 20 0)), (1, .int x1), (2, .int x2), (3, .int x3)] → W p l e rm_X13_spreads s m args below meth c H locs 0 0 (MQ below (va_Qv (fun u => u 20 = ρ' ∧ ∀ q, q ≠ 20 → u q = σ q) (fun u t => Wu E u t) (eA E)) args s 0 0 (eA E)) (F0 m 2 ls []) := by
  have hx := cx.1.1
  have hb := cx.1.2.1
  intro n
  induction n with
  | zero =>
    intro x3 ρ hf
    exact absurd hf (by simp [f_X13_spreads_2])
  | succ n ih =>
    intro x3 ρ hf u H locs ls e20 fr hp hl
    rw [f_X13_spreads_2] at hf
    refine lv_iload_n hx hb dX13_spreads_2 rfl (lv_at hl 3 rfl) ?_
    refine lv_aload_n hx hb dX13_spreads_3 rfl (lv_at hl 0 rfl) ?_
    refine gF_X13_7 rfl hN cx hp dX13_spreads_4 ?_
    refine lv_iconst (v := 0) hx hb dX13_spreads_7 (by decide) ?_
    obtain ⟨g_i, hf⟩ := fg hf
    refine lA_X13_1 e20 hN cx hp g_i dX13_spreads_8 ?_
    refine lv_icmp_ge (tgt := 54) hx hb dX13_spreads_9 (by decide) (fun c1 => ?_) (fun c1 => ?_)
    · have hf := fp hf c1
      cases hf
      exact r_v cx hp ⟨e20, fr⟩ dX13_spreads_54
    · have hf := fn hf c1
      refine lv_aload_n hx hb dX13_spreads_12 rfl (lv_at hl 0 rfl) ?_
      refine gF_X13_32 rfl hN cx hp dX13_spreads_13 ?_
      refine lv_iload_n hx hb dX13_spreads_16 rfl (lv_at hl 3 rfl) ?_
      obtain ⟨g_i, hf⟩ := fg hf
      refine lA_X13_7 e20 hN cx hp g_i dX13_spreads_17 ?_
      refine lv_iconst (v := (-1)) hx hb dX13_spreads_18 (by decide) ?_
      refine lv_icmp_ne (tgt := 48) hx hb dX13_spreads_19 (by decide) (fun c2 => ?_) (fun c2 => ?_)
      · have hf := fn hf c2
        refine lv_iinc (v := (x3 + 1)) (lv' := [(3, .int (x3 + 1)), (0, .ref (adr E 20 0)), (1, .int x1), (2, .int x2)]) hx hb dX13_spreads_48 hl (k := 3) rfl rfl (by decide) rfl (fun ls hl => ?_)
        refine lv_goto (tgt := 2) hx hb dX13_spreads_51 (by decide) ?_
        exact ih  hf e20 fr hp (lv_sub hl [1, 2, 3, 0] rfl)
      · have hf := fp hf c2
        refine lv_aload_n hx hb dX13_spreads_22 rfl (lv_at hl 0 rfl) ?_
        refine lv_iload_n hx hb dX13_spreads_23 rfl (lv_at hl 3 rfl) ?_
        refine lv_iconst (v := 3) hx hb dX13_spreads_24 (by decide) ?_
        obtain ⟨r3, hc, hf⟩ := fb hf
        refine x_i hp (y_V (As := [.int x3, .int 3]) (rest := []) cx hp hl (c_X13_of l hN hT e20 hc) (cw_X13_98 cx (mc := 0) (ms := 0) rfl rfl ⟨by decide, by decide⟩) (rC_X13 hN cx hp) rfl rfl (Nat.le_of_ble_eq_true rfl) dX13_spreads_25 ⟨Nat.zero_le _, Nat.zero_le _⟩) (fun r_c u_c H locs hq hp => ?_)
        obtain ⟨rfl, rfl⟩ := hq
        refine lv_iconst (v := (-1)) hx hb dX13_spreads_28 (by decide) ?_
        refine lv_icmp_eq (tgt := 48) hx hb dX13_spreads_29 (by decide) (fun c4 => ?_) (fun c4 => ?_)
        · have hf := fp hf c4
          refine lv_iinc (v := (x3 + 1)) (lv' := [(3, .int (x3 + 1)), (0, .ref (adr E 20 0)), (1, .int x1), (2, .int x2)]) hx hb dX13_spreads_48 hl (k := 3) rfl rfl (by decide) rfl (fun ls hl => ?_)
          refine lv_goto (tgt := 2) hx hb dX13_spreads_51 (by decide) ?_
          exact ih  hf e20 fr hp (lv_sub hl [1, 2, 3, 0] rfl)
        · have hf := fn hf c4
          refine lv_aload_n hx hb dX13_spreads_32 rfl (lv_at hl 0 rfl) ?_
          refine lv_iload_n hx hb dX13_spreads_33 rfl (lv_at hl 1 rfl) ?_
          refine lv_iload_n hx hb dX13_spreads_34 rfl (lv_at hl 3 rfl) ?_
          obtain ⟨r5, hc, hf⟩ := fb hf
          refine x_i hp (y_V (As := [.int x1, .int x3]) (rest := []) cx hp hl (c_X13_longsFor l hN hT e20 hc) (cw_X13_111 cx (mc := 0) (ms := 0) rfl rfl ⟨by decide, by decide⟩) (rC_X13 hN cx hp) rfl rfl (Nat.le_of_ble_eq_true rfl) dX13_spreads_35 ⟨Nat.zero_le _, Nat.zero_le _⟩) (fun r_c u_c H locs hq hp => ?_)
          obtain ⟨rfl, rfl⟩ := hq
          refine lv_if_eq (tgt := 48) hx hb dX13_spreads_38 (by decide) (fun c6 => ?_) (fun c6 => ?_)
          · have hf := fp hf c6
            refine lv_iinc (v := (x3 + 1)) (lv' := [(3, .int (x3 + 1)), (0, .ref (adr E 20 0)), (1, .int x1), (2, .int x2)]) hx hb dX13_spreads_48 hl (k := 3) rfl rfl (by decide) rfl (fun ls hl => ?_)
            refine lv_goto (tgt := 2) hx hb dX13_spreads_51 (by decide) ?_
            exact ih  hf e20 fr hp (lv_sub hl [1, 2, 3, 0] rfl)
          · have hf := fn hf c6
            refine lv_aload_n hx hb dX13_spreads_41 rfl (lv_at hl 0 rfl) ?_
            refine gF_X13_32 rfl hN cx hp dX13_spreads_42 ?_
            refine lv_iload_n hx hb dX13_spreads_45 rfl (lv_at hl 3 rfl) ?_
            refine lv_iload_n hx hb dX13_spreads_46 rfl (lv_at hl 2 rfl) ?_
            obtain ⟨g_i, hf⟩ := fg hf
            obtain ⟨ρ7, e_l, hf⟩ := fl hf
            refine sA_X13_7 e20 hN cx hp g_i dX13_spreads_47 (fun u H locs e_u n_u hp => ?_)
            have e20 := e_u.trans e_l
            have fr : ∀ q, q ≠ 20 → u q = σ q := fun q h0 => (n_u q h0).trans (fr q h0)
            refine lv_iinc (v := (x3 + 1)) (lv' := [(3, .int (x3 + 1)), (0, .ref (adr E 20 0)), (1, .int x1), (2, .int x2)]) hx hb dX13_spreads_48 hl (k := 3) rfl rfl (by decide) rfl (fun ls hl => ?_)
            refine lv_goto (tgt := 2) hx hb dX13_spreads_51 (by decide) ?_
            exact ih  hf e20 fr hp (lv_sub hl [1, 2, 3, 0] rfl)
set_option maxRecDepth 100000 in
set_option maxHeartbeats 4000000 in
theorem c_X13_spreads (l : Launch) {E : Ev} (hN : 146 ≤ eN E) (hT : St E) {σ : SM} {ρ : OM} (e20 : σ 20 = ρ) {p1 : Int32} {p2 : Int32} {ρ' : OM} (hf : f_X13_spreads p1 p2 ρ = some ρ') : Met l yX13_spreads (wC yX13_spreads cX13_spreads 4 none) rm_X13_spreads (va_Pc [.ref (adr E 20 0), .int p1, .int p2] (Wu E σ)) (va_Qv (fun u => u 20 = ρ' ∧ ∀ q, q ≠ 20 → u q = σ q) (fun u t => Wu E u t) (eA E)) 0 0 (eA E) := by
  refine g_entry (lv := [(0, .ref (adr E 20 0)), (1, .int p1), (2, .int p2)]) (by decide) (Nat.le_of_ble_eq_true rfl) rfl ?_
  intro p e s m below meth c cx hp ls hl
  have hx := cx.1.1
  have hb := cx.1.2.1
  have fr : ∀ q, q ≠ 20 → σ q = σ q := fun _ _ => rfl
  unfold f_X13_spreads at hf
  refine lv_iconst (v := 0) hx hb dX13_spreads_0 (by decide) ?_
  refine lv_istore_n (lv' := [(3, .int 0), (0, .ref (adr E 20 0)), (1, .int p1), (2, .int p2)]) hx hb dX13_spreads_1 rfl hl (by decide) rfl (fun ls hl => ?_)
  exact L_X13_spreads_2 l hN hT cx  _ hf e20 fr hp (lv_sub hl [1, 2, 3, 0] rfl)
abbrev rm_X13_shortestCycle : Room := { frames := 6, cells := 0, slots := 0, locals := 137 }
set_option maxRecDepth 100000 in
set_option maxHeartbeats 4000000 in
theorem L_X13_shortestCycle_2 {p : Program} {e : Env} {s : State} {m : MethodId} {args : Array Value} {below : List Frame} {meth : Method} {c : Code} (l : Launch) {E : Ev} (hN : 146 ≤ eN E) (hT : St E) {σ : SM} {Q : State → Prop} (cx : Cx E p s m meth c args RX13 cX13_shortestCycle 4 (some .int)) {x1 : Int32} {ρ' : OM} (K : ∀ (u : SM) (H : Heap) (locs : List Loc) (ls : Array Slot), u 20 = ρ' → (∀ q, q ≠ 20 → u q = σ q) → Hp E u s H locs → lv_has ls 4 [(0, .ref (adr E 20 0)), (1, .int x1)] → W p l e rm_X13_shortestCycle s m args below meth c H locs 0 0 Q (F0 m 21 ls [])) : ∀ (n : Nat) {x2 : Int32} {ρ : OM}, f_X13_shortestCycle_2  n x2 ρ = some ρ' → ∀ {u : SM} {H : Heap} {locs : List Loc} {ls : Array Slot}, u 20 = ρ → (∀ q, q ≠ 20 → u q = σ q) → Hp E u s H locs → lv_has ls 4 [(0, .ref (adr E 20 0)), (1, .int x1), (2, .int x2)] → W p l e rm_X13_shortestCycle s m args below meth c H locs 0 0 Q (F0 m 2 ls []) := by
  have hx := cx.1.1
  have hb := cx.1.2.1
  intro n
  induction n with
  | zero =>
    intro x2 ρ hf
    exact absurd hf (by simp [f_X13_shortestCycle_2])
  | succ n ih =>
    intro x2 ρ hf u H locs ls e20 fr hp hl
    rw [f_X13_shortestCycle_2] at hf
    refine lv_iload_n hx hb dX13_shortestCycle_2 rfl (lv_at hl 2 rfl) ?_
    refine lv_bipush (v := 8) hx hb dX13_shortestCycle_3 (by decide) ?_
    refine lv_icmp_ge (tgt := 21) hx hb dX13_shortestCycle_5 (by decide) (fun c1 => ?_) (fun c1 => ?_)
    · have hf := fp hf c1
      cases hf
      exact K _ _ _ _ e20 fr hp (lv_sub hl [0, 1] rfl)
    · have hf := fn hf c1
      refine lv_aload_n hx hb dX13_shortestCycle_8 rfl (lv_at hl 0 rfl) ?_
      refine gF_X13_32 rfl hN cx hp dX13_shortestCycle_9 ?_
      refine lv_iload_n hx hb dX13_shortestCycle_12 rfl (lv_at hl 2 rfl) ?_
      refine lv_iconst (v := (-1)) hx hb dX13_shortestCycle_13 (by decide) ?_
      obtain ⟨g_i, hf⟩ := fg hf
      obtain ⟨ρ2, e_l, hf⟩ := fl hf
      refine sA_X13_7 e20 hN cx hp g_i dX13_shortestCycle_14 (fun u H locs e_u n_u hp => ?_)
      have e20 := e_u.trans e_l
      have fr : ∀ q, q ≠ 20 → u q = σ q := fun q h0 => (n_u q h0).trans (fr q h0)
      refine lv_iinc (v := (x2 + 1)) (lv' := [(2, .int (x2 + 1)), (0, .ref (adr E 20 0)), (1, .int x1)]) hx hb dX13_shortestCycle_15 hl (k := 2) rfl rfl (by decide) rfl (fun ls hl => ?_)
      refine lv_goto (tgt := 2) hx hb dX13_shortestCycle_18 (by decide) ?_
      exact ih  hf e20 fr hp (lv_sub hl [1, 2, 0] rfl)
set_option maxRecDepth 100000 in
set_option maxHeartbeats 4000000 in
theorem L_X13_shortestCycle_50 {p : Program} {e : Env} {s : State} {m : MethodId} {args : Array Value} {below : List Frame} {meth : Method} {c : Code} (l : Launch) {E : Ev} (hN : 146 ≤ eN E) (hT : St E) {σ : SM} (cx : Cx E p s m meth c args RX13 cX13_shortestCycle 4 (some .int)) {x1 : Int32} {x2 : Int32} {rv : Int32} {ρ' : OM} {zz : (Int32 × OM) ⊕ (OM)} (K : ∀ {ρz' : OM}, zz = .inr ρz' → ∀ (u : SM) (H : Heap) (locs : List Loc) (ls : Array Slot), u 20 = ρz' → (∀ q, q ≠ 20 → u q = σ q) → Hp E u s H locs → lv_has ls 4 [(0, .ref (adr E 20 0)), (1, .int x1), (2, .int x2)] → W p l e rm_X13_shortestCycle s m args below meth c H locs 0 0 (MQ below (va_Qi (fun r u => rv = r ∧ u 20 = ρ' ∧ ∀ q, q ≠ 20 → u q = σ q) (fun u t => Wu E u t) (eA E)) args s 0 0 (eA E)) (F0 m 102 ls [])) (KR : ∀ t, zz = .inl t → (rv, ρ') = t) : ∀ (n : Nat) {x3 : Int32} {ρ : OM}, f_X13_shortestCycle_50 x1 x2 n x3 ρ = some zz → ∀ {u : SM} {H : Heap} {locs : List Loc} {ls : Array Slot}, u 20 = ρ → (∀ q, q ≠ 20 → u q = σ q) → Hp E u s H locs → lv_has ls 4 [(0, .ref (adr E 20 0)), (1, .int x1), (2, .int x2), (3, .int x3)] → W p l e rm_X13_shortestCycle s m args below meth c H locs 0 0 (MQ below (va_Qi (fun r u => rv = r ∧ u 20 = ρ' ∧ ∀ q, q ≠ 20 → u q = σ q) (fun u t => Wu E u t) (eA E)) args s 0 0 (eA E)) (F0 m 50 ls []) := by
  have hx := cx.1.1
  have hb := cx.1.2.1
  intro n
  induction n with
  | zero =>
    intro x3 ρ hf
    exact absurd hf (by simp [f_X13_shortestCycle_50])
  | succ n ih =>
    intro x3 ρ hf u H locs ls e20 fr hp hl
    rw [f_X13_shortestCycle_50] at hf
    refine lv_iload_n hx hb dX13_shortestCycle_50 rfl (lv_at hl 3 rfl) ?_
    refine lv_aload_n hx hb dX13_shortestCycle_51 rfl (lv_at hl 0 rfl) ?_
    refine gF_X13_7 rfl hN cx hp dX13_shortestCycle_52 ?_
    refine lv_iconst (v := 0) hx hb dX13_shortestCycle_55 (by decide) ?_
    obtain ⟨g_i, hf⟩ := fg hf
    refine lA_X13_1 e20 hN cx hp g_i dX13_shortestCycle_56 ?_
    refine lv_icmp_ge (tgt := 102) hx hb dX13_shortestCycle_57 (by decide) (fun c8 => ?_) (fun c8 => ?_)
    · have hf := fp hf c8
      cases hf
      exact K rfl _ _ _ _ e20 fr hp (lv_sub hl [0, 1, 2] rfl)
    · have hf := fn hf c8
      refine lv_aload_n hx hb dX13_shortestCycle_60 rfl (lv_at hl 0 rfl) ?_
      refine gF_X13_32 rfl hN cx hp dX13_shortestCycle_61 ?_
      refine lv_iload_n hx hb dX13_shortestCycle_64 rfl (lv_at hl 3 rfl) ?_
      obtain ⟨g_i, hf⟩ := fg hf
      refine lA_X13_7 e20 hN cx hp g_i dX13_shortestCycle_65 ?_
      refine lv_iload_n hx hb dX13_shortestCycle_66 rfl (lv_at hl 2 rfl) ?_
      refine lv_icmp_ne (tgt := 96) hx hb dX13_shortestCycle_67 (by decide) (fun c9 => ?_) (fun c9 => ?_)
      · have hf := fn hf c9
        refine lv_iinc (v := (x3 + 1)) (lv' := [(3, .int (x3 + 1)), (0, .ref (adr E 20 0)), (1, .int x1), (2, .int x2)]) hx hb dX13_shortestCycle_96 hl (k := 3) rfl rfl (by decide) rfl (fun ls hl => ?_)
        refine lv_goto (tgt := 50) hx hb dX13_shortestCycle_99 (by decide) ?_
        exact ih  hf e20 fr hp (lv_sub hl [1, 2, 3, 0] rfl)
      · have hf := fp hf c9
        refine lv_iload_n hx hb dX13_shortestCycle_70 rfl (lv_at hl 3 rfl) ?_
        refine lv_iload_n hx hb dX13_shortestCycle_71 rfl (lv_at hl 1 rfl) ?_
        refine lv_icmp_eq (tgt := 88) hx hb dX13_shortestCycle_72 (by decide) (fun c10 => ?_) (fun c10 => ?_)
        · have hf := fp hf c10
          refine lv_aload_n hx hb dX13_shortestCycle_88 rfl (lv_at hl 0 rfl) ?_
          refine lv_iload_n hx hb dX13_shortestCycle_89 rfl (lv_at hl 3 rfl) ?_
          refine lv_iload_n hx hb dX13_shortestCycle_90 rfl (lv_at hl 2 rfl) ?_
          refine lv_iconst (v := 1) hx hb dX13_shortestCycle_91 (by decide) ?_
          refine lv_iadd hx hb dX13_shortestCycle_92 ?_
          obtain ⟨ρ11, hc, hf⟩ := fb hf
          refine x_v hp (y_V (As := [.int x3, .int (x2 + 1)]) (rest := []) cx hp hl (c_X13_spreads l hN hT e20 hc) (cw_X13_119 cx (mc := 0) (ms := 0) rfl rfl ⟨by decide, by decide⟩) (rC_X13 hN cx hp) rfl rfl (Nat.le_of_ble_eq_true rfl) dX13_shortestCycle_93 ⟨Nat.zero_le _, Nat.zero_le _⟩) (fun u_c H locs hq hp => ?_)
          obtain ⟨e_0, n_u⟩ := hq
          have e20 := e_0
          have fr : ∀ q, q ≠ 20 → u_c q = σ q := fun q h0 => (n_u q h0).trans (fr q h0)
          obtain ⟨u, rfl⟩ : ∃ z, u_c = z := ⟨_, rfl⟩
          refine lv_iinc (v := (x3 + 1)) (lv' := [(3, .int (x3 + 1)), (0, .ref (adr E 20 0)), (1, .int x1), (2, .int x2)]) hx hb dX13_shortestCycle_96 hl (k := 3) rfl rfl (by decide) rfl (fun ls hl => ?_)
          refine lv_goto (tgt := 50) hx hb dX13_shortestCycle_99 (by decide) ?_
          exact ih  hf e20 fr hp (lv_sub hl [1, 2, 3, 0] rfl)
        · have hf := fn hf c10
          refine lv_aload_n hx hb dX13_shortestCycle_75 rfl (lv_at hl 0 rfl) ?_
          refine lv_iload_n hx hb dX13_shortestCycle_76 rfl (lv_at hl 3 rfl) ?_
          refine lv_iload_n hx hb dX13_shortestCycle_77 rfl (lv_at hl 1 rfl) ?_
          obtain ⟨r12, hc, hf⟩ := fb hf
          refine x_i hp (y_V (As := [.int x3, .int x1]) (rest := []) cx hp hl (c_X13_longsFor l hN hT e20 hc) (cw_X13_111 cx (mc := 0) (ms := 0) rfl rfl ⟨by decide, by decide⟩) (rC_X13 hN cx hp) rfl rfl (Nat.le_of_ble_eq_true rfl) dX13_shortestCycle_78 ⟨Nat.zero_le _, Nat.zero_le _⟩) (fun r_c u_c H locs hq hp => ?_)
          obtain ⟨rfl, rfl⟩ := hq
          refine lv_if_eq (tgt := 88) hx hb dX13_shortestCycle_81 (by decide) (fun c13 => ?_) (fun c13 => ?_)
          · have hf := fp hf c13
            refine lv_aload_n hx hb dX13_shortestCycle_88 rfl (lv_at hl 0 rfl) ?_
            refine lv_iload_n hx hb dX13_shortestCycle_89 rfl (lv_at hl 3 rfl) ?_
            refine lv_iload_n hx hb dX13_shortestCycle_90 rfl (lv_at hl 2 rfl) ?_
            refine lv_iconst (v := 1) hx hb dX13_shortestCycle_91 (by decide) ?_
            refine lv_iadd hx hb dX13_shortestCycle_92 ?_
            obtain ⟨ρ14, hc, hf⟩ := fb hf
            refine x_v hp (y_V (As := [.int x3, .int (x2 + 1)]) (rest := []) cx hp hl (c_X13_spreads l hN hT e20 hc) (cw_X13_119 cx (mc := 0) (ms := 0) rfl rfl ⟨by decide, by decide⟩) (rC_X13 hN cx hp) rfl rfl (Nat.le_of_ble_eq_true rfl) dX13_shortestCycle_93 ⟨Nat.zero_le _, Nat.zero_le _⟩) (fun u_c H locs hq hp => ?_)
            obtain ⟨e_0, n_u⟩ := hq
            have e20 := e_0
            have fr : ∀ q, q ≠ 20 → u_c q = σ q := fun q h0 => (n_u q h0).trans (fr q h0)
            obtain ⟨u, rfl⟩ : ∃ z, u_c = z := ⟨_, rfl⟩
            refine lv_iinc (v := (x3 + 1)) (lv' := [(3, .int (x3 + 1)), (0, .ref (adr E 20 0)), (1, .int x1), (2, .int x2)]) hx hb dX13_shortestCycle_96 hl (k := 3) rfl rfl (by decide) rfl (fun ls hl => ?_)
            refine lv_goto (tgt := 50) hx hb dX13_shortestCycle_99 (by decide) ?_
            exact ih  hf e20 fr hp (lv_sub hl [1, 2, 3, 0] rfl)
          · have hf := fn hf c13
            refine lv_iload_n hx hb dX13_shortestCycle_84 rfl (lv_at hl 2 rfl) ?_
            refine lv_iconst (v := 1) hx hb dX13_shortestCycle_85 (by decide) ?_
            refine lv_iadd hx hb dX13_shortestCycle_86 ?_
            cases hf
            cases KR _ rfl
            exact r_i cx hp ⟨rfl, e20, fr⟩ dX13_shortestCycle_87
set_option maxRecDepth 100000 in
set_option maxHeartbeats 4000000 in
theorem L_X13_shortestCycle_42 {p : Program} {e : Env} {s : State} {m : MethodId} {args : Array Value} {below : List Frame} {meth : Method} {c : Code} (l : Launch) {E : Ev} (hN : 146 ≤ eN E) (hT : St E) {σ : SM} (cx : Cx E p s m meth c args RX13 cX13_shortestCycle 4 (some .int)) {x1 : Int32} {rv : Int32} {ρ' : OM} : ∀ (n : Nat) {x2 : Int32} {ρ : OM}, f_X13_shortestCycle_42 x1 n x2 ρ = some (rv, ρ') → ∀ {u : SM} {H : Heap} {locs : List Loc} {ls : Array Slot}, u 20 = ρ → (∀ q, q ≠ 20 → u q = σ q) → Hp E u s H locs → lv_has ls 4 [(0, .ref (adr E 20 0)), (1, .int x1), (2, .int x2)] → W p l e rm_X13_shortestCycle s m args below meth c H locs 0 0 (MQ below (va_Qi (fun r u => rv = r ∧ u 20 = ρ' ∧ ∀ q, q ≠ 20 → u q = σ q) (fun u t => Wu E u t) (eA E)) args s 0 0 (eA E)) (F0 m 42 ls []) := by
  have hx := cx.1.1
  have hb := cx.1.2.1
  intro n
  induction n with
  | zero =>
    intro x2 ρ hf
    exact absurd hf (by simp [f_X13_shortestCycle_42])
  | succ n ih =>
    intro x2 ρ hf u H locs ls e20 fr hp hl
    rw [f_X13_shortestCycle_42] at hf
    refine lv_iload_n hx hb dX13_shortestCycle_42 rfl (lv_at hl 2 rfl) ?_
    refine lv_bipush (v := 8) hx hb dX13_shortestCycle_43 (by decide) ?_
    refine lv_icmp_ge (tgt := 108) hx hb dX13_shortestCycle_45 (by decide) (fun c7 => ?_) (fun c7 => ?_)
    · have hf := fp hf c7
      refine lv_iconst (v := (-1)) hx hb dX13_shortestCycle_108 (by decide) ?_
      cases hf
      exact r_i cx hp ⟨rfl, e20, fr⟩ dX13_shortestCycle_109
    · have hf := fn hf c7
      refine lv_iconst (v := 0) hx hb dX13_shortestCycle_48 (by decide) ?_
      refine lv_istore_n (lv' := [(3, .int 0), (0, .ref (adr E 20 0)), (1, .int x1), (2, .int x2)]) hx hb dX13_shortestCycle_49 rfl hl (by decide) rfl (fun ls hl => ?_)
      rcases fR hf with hc | ⟨ρ15, hc, hf⟩
      · exact L_X13_shortestCycle_50 l hN hT cx  (fun h9 => by cases h9) (fun _ h9 => by cases h9; rfl) _ hc e20 fr hp (lv_sub hl [1, 2, 3, 0] rfl)
      · refine L_X13_shortestCycle_50 l hN hT cx  (fun h9 u H locs ls e20 fr hp hl => ?_) (fun _ h9 => by cases h9) _ hc e20 fr hp (lv_sub hl [1, 2, 3, 0] rfl)
        cases h9
        refine lv_iinc (v := (x2 + 1)) (lv' := [(2, .int (x2 + 1)), (0, .ref (adr E 20 0)), (1, .int x1)]) hx hb dX13_shortestCycle_102 hl (k := 2) rfl rfl (by decide) rfl (fun ls hl => ?_)
        refine lv_goto (tgt := 42) hx hb dX13_shortestCycle_105 (by decide) ?_
        exact ih  hf e20 fr hp (lv_sub hl [1, 2, 0] rfl)
set_option maxRecDepth 100000 in
set_option maxHeartbeats 4000000 in
theorem c_X13_shortestCycle (l : Launch) {E : Ev} (hN : 146 ≤ eN E) (hT : St E) {σ : SM} {ρ : OM} (e20 : σ 20 = ρ) {p1 : Int32} {rv : Int32} {ρ' : OM} (hf : f_X13_shortestCycle p1 ρ = some (rv, ρ')) : Met l yX13_shortestCycle (wC yX13_shortestCycle cX13_shortestCycle 4 (some .int)) rm_X13_shortestCycle (va_Pc [.ref (adr E 20 0), .int p1] (Wu E σ)) (va_Qi (fun r u => rv = r ∧ u 20 = ρ' ∧ ∀ q, q ≠ 20 → u q = σ q) (fun u t => Wu E u t) (eA E)) 0 0 (eA E) := by
  refine g_entry (lv := [(0, .ref (adr E 20 0)), (1, .int p1)]) (by decide) (Nat.le_of_ble_eq_true rfl) rfl ?_
  intro p e s m below meth c cx hp ls hl
  have hx := cx.1.1
  have hb := cx.1.2.1
  have fr : ∀ q, q ≠ 20 → σ q = σ q := fun _ _ => rfl
  unfold f_X13_shortestCycle at hf
  refine lv_iconst (v := 0) hx hb dX13_shortestCycle_0 (by decide) ?_
  refine lv_istore_n (lv' := [(2, .int 0), (0, .ref (adr E 20 0)), (1, .int p1)]) hx hb dX13_shortestCycle_1 rfl hl (by decide) rfl (fun ls hl => ?_)
  obtain ⟨ρ3, hc, hf⟩ := fb hf
  refine L_X13_shortestCycle_2 l hN hT cx  (fun u H locs ls e20 fr hp hl => ?_) _ hc e20 fr hp (lv_sub hl [1, 2, 0] rfl)
  refine lv_aload_n hx hb dX13_shortestCycle_21 rfl (lv_at hl 0 rfl) ?_
  refine lv_iload_n hx hb dX13_shortestCycle_22 rfl (lv_at hl 1 rfl) ?_
  refine lv_iconst (v := 3) hx hb dX13_shortestCycle_23 (by decide) ?_
  obtain ⟨r4, hc, hf⟩ := fb hf
  refine x_i hp (y_V (As := [.int p1, .int 3]) (rest := []) cx hp hl (c_X13_of l hN hT e20 hc) (cw_X13_98 cx (mc := 0) (ms := 0) rfl rfl ⟨by decide, by decide⟩) (rC_X13 hN cx hp) rfl rfl (Nat.le_of_ble_eq_true rfl) dX13_shortestCycle_24 ⟨Nat.zero_le _, Nat.zero_le _⟩) (fun r_c u_c H locs hq hp => ?_)
  obtain ⟨rfl, rfl⟩ := hq
  refine lv_iconst (v := (-1)) hx hb dX13_shortestCycle_27 (by decide) ?_
  refine lv_icmp_ne (tgt := 33) hx hb dX13_shortestCycle_28 (by decide) (fun c5 => ?_) (fun c5 => ?_)
  · have hf := fn hf c5
    refine lv_aload_n hx hb dX13_shortestCycle_33 rfl (lv_at hl 0 rfl) ?_
    refine gF_X13_32 rfl hN cx hp dX13_shortestCycle_34 ?_
    refine lv_iload_n hx hb dX13_shortestCycle_37 rfl (lv_at hl 1 rfl) ?_
    refine lv_iconst (v := 0) hx hb dX13_shortestCycle_38 (by decide) ?_
    obtain ⟨g_i, hf⟩ := fg hf
    obtain ⟨ρ6, e_l, hf⟩ := fl hf
    refine sA_X13_7 e20 hN cx hp g_i dX13_shortestCycle_39 (fun u H locs e_u n_u hp => ?_)
    have e20 := e_u.trans e_l
    have fr : ∀ q, q ≠ 20 → u q = σ q := fun q h0 => (n_u q h0).trans (fr q h0)
    refine lv_iconst (v := 0) hx hb dX13_shortestCycle_40 (by decide) ?_
    refine lv_istore_n (lv' := [(2, .int 0), (0, .ref (adr E 20 0)), (1, .int p1)]) hx hb dX13_shortestCycle_41 rfl hl (by decide) rfl (fun ls hl => ?_)
    exact L_X13_shortestCycle_42 l hN hT cx  _ hf e20 fr hp (lv_sub hl [1, 2, 0] rfl)
  · have hf := fp hf c5
    refine lv_iconst (v := (-1)) hx hb dX13_shortestCycle_31 (by decide) ?_
    cases hf
    exact r_i cx hp ⟨rfl, e20, fr⟩ dX13_shortestCycle_32
abbrev rm_X13_request : Room := { frames := 1, cells := 0, slots := 0, locals := 22 }
set_option maxRecDepth 100000 in
set_option maxHeartbeats 4000000 in
theorem L_X13_request_2 {p : Program} {e : Env} {s : State} {m : MethodId} {args : Array Value} {below : List Frame} {meth : Method} {c : Code} (l : Launch) {E : Ev} (hN : 146 ≤ eN E) (hT : St E) {σ : SM} (cx : Cx E p s m meth c args RX13 cX13_request 3 (some .int)) {x1 : Int32} {ρ : OM} {rv : Int32} : ∀ (n : Nat) {x2 : Int32}, f_X13_request_2 x1 ρ n x2 = some rv → ∀ {u : SM} {H : Heap} {locs : List Loc} {ls : Array Slot}, u 20 = ρ → (∀ q, u q = σ q) → Hp E u s H locs → lv_has ls 3 [(0, .ref (adr E 20 0)), (1, .int x1), (2, .int x2)] → W p l e rm_X13_request s m args below meth c H locs 0 0 (MQ below (va_Qi (fun r u => rv = r ∧ σ = u) (fun u t => Wu E u t) (eA E)) args s 0 0 (eA E)) (F0 m 2 ls []) := by
  have hx := cx.1.1
  have hb := cx.1.2.1
  intro n
  induction n with
  | zero =>
    intro x2 hf
    exact absurd hf (by simp [f_X13_request_2])
  | succ n ih =>
    intro x2 hf u H locs ls e20 fr hp hl
    rw [f_X13_request_2] at hf
    refine lv_iload_n hx hb dX13_request_2 rfl (lv_at hl 2 rfl) ?_
    refine lv_aload_n hx hb dX13_request_3 rfl (lv_at hl 0 rfl) ?_
    refine lv_iload_n hx hb dX13_request_4 rfl (lv_at hl 1 rfl) ?_
    refine lv_iconst (v := 4) hx hb dX13_request_5 (by decide) ?_
    obtain ⟨r1, hc, hf⟩ := fb hf
    refine x_i hp (y_V (As := [.int x1, .int 4]) (rest := [.int x2]) cx hp hl (c_X13_of l hN hT e20 hc) (cw_X13_98 cx (mc := 0) (ms := 0) rfl rfl ⟨by decide, by decide⟩) (rC_X13 hN cx hp) rfl rfl (Nat.le_of_ble_eq_true rfl) dX13_request_6 ⟨Nat.zero_le _, Nat.zero_le _⟩) (fun r_c u_c H locs hq hp => ?_)
    obtain ⟨rfl, rfl⟩ := hq
    refine lv_icmp_ge (tgt := 43) hx hb dX13_request_9 (by decide) (fun c2 => ?_) (fun c2 => ?_)
    · have hf := fp hf c2
      refine lv_iconst (v := (-1)) hx hb dX13_request_43 (by decide) ?_
      cases hf
      exact r_i cx hp ⟨rfl, (funext fr).symm⟩ dX13_request_44
    · have hf := fn hf c2
      refine lv_aload_n hx hb dX13_request_12 rfl (lv_at hl 0 rfl) ?_
      refine gF_X13_48 rfl hN cx hp dX13_request_13 ?_
      refine lv_aload_n hx hb dX13_request_16 rfl (lv_at hl 0 rfl) ?_
      refine lv_iload_n hx hb dX13_request_17 rfl (lv_at hl 1 rfl) ?_
      refine lv_iconst (v := 5) hx hb dX13_request_18 (by decide) ?_
      refine lv_iload_n hx hb dX13_request_19 rfl (lv_at hl 2 rfl) ?_
      refine lv_iadd hx hb dX13_request_20 ?_
      obtain ⟨r3, hc, hf⟩ := fb hf
      refine x_i hp (y_V (As := [.int x1, .int (5 + x2)]) (rest := [.ref (adr E 20 12)]) cx hp hl (c_X13_of l hN hT e20 hc) (cw_X13_98 cx (mc := 0) (ms := 0) rfl rfl ⟨by decide, by decide⟩) (rC_X13 hN cx hp) rfl rfl (Nat.le_of_ble_eq_true rfl) dX13_request_21 ⟨Nat.zero_le _, Nat.zero_le _⟩) (fun r_c u_c H locs hq hp => ?_)
      obtain ⟨rfl, rfl⟩ := hq
      obtain ⟨g_i, hf⟩ := fg hf
      refine lA_X13_12 e20 hN cx hp g_i dX13_request_24 ?_
      refine lv_if_ne (tgt := 37) hx hb dX13_request_25 (by decide) (fun c4 => ?_) (fun c4 => ?_)
      · have hf := fn hf c4
        refine lv_iinc (v := (x2 + 1)) (lv' := [(2, .int (x2 + 1)), (0, .ref (adr E 20 0)), (1, .int x1)]) hx hb dX13_request_37 hl (k := 2) rfl rfl (by decide) rfl (fun ls hl => ?_)
        refine lv_goto (tgt := 2) hx hb dX13_request_40 (by decide) ?_
        exact ih  hf e20 fr hp (lv_sub hl [1, 2, 0] rfl)
      · have hf := fp hf c4
        refine lv_aload_n hx hb dX13_request_28 rfl (lv_at hl 0 rfl) ?_
        refine lv_iload_n hx hb dX13_request_29 rfl (lv_at hl 1 rfl) ?_
        refine lv_iconst (v := 5) hx hb dX13_request_30 (by decide) ?_
        refine lv_iload_n hx hb dX13_request_31 rfl (lv_at hl 2 rfl) ?_
        refine lv_iadd hx hb dX13_request_32 ?_
        obtain ⟨r5, hc, hf⟩ := fb hf
        refine x_i hp (y_V (As := [.int x1, .int (5 + x2)]) (rest := []) cx hp hl (c_X13_of l hN hT e20 hc) (cw_X13_98 cx (mc := 0) (ms := 0) rfl rfl ⟨by decide, by decide⟩) (rC_X13 hN cx hp) rfl rfl (Nat.le_of_ble_eq_true rfl) dX13_request_33 ⟨Nat.zero_le _, Nat.zero_le _⟩) (fun r_c u_c H locs hq hp => ?_)
        obtain ⟨rfl, rfl⟩ := hq
        cases hf
        exact r_i cx hp ⟨rfl, (funext fr).symm⟩ dX13_request_36
set_option maxRecDepth 100000 in
set_option maxHeartbeats 4000000 in
theorem c_X13_request (l : Launch) {E : Ev} (hN : 146 ≤ eN E) (hT : St E) {σ : SM} {ρ : OM} (e20 : σ 20 = ρ) {p1 : Int32} {rv : Int32} (hf : f_X13_request p1 ρ = some rv) : Met l yX13_request (wC yX13_request cX13_request 3 (some .int)) rm_X13_request (va_Pc [.ref (adr E 20 0), .int p1] (Wu E σ)) (va_Qi (fun r u => rv = r ∧ σ = u) (fun u t => Wu E u t) (eA E)) 0 0 (eA E) := by
  refine g_entry (lv := [(0, .ref (adr E 20 0)), (1, .int p1)]) (by decide) (Nat.le_of_ble_eq_true rfl) rfl ?_
  intro p e s m below meth c cx hp ls hl
  have hx := cx.1.1
  have hb := cx.1.2.1
  have fr : ∀ q, σ q = σ q := fun _ => rfl
  unfold f_X13_request at hf
  refine lv_iconst (v := 0) hx hb dX13_request_0 (by decide) ?_
  refine lv_istore_n (lv' := [(2, .int 0), (0, .ref (adr E 20 0)), (1, .int p1)]) hx hb dX13_request_1 rfl hl (by decide) rfl (fun ls hl => ?_)
  exact L_X13_request_2 l hN hT cx  _ hf e20 fr hp (lv_sub hl [1, 2, 0] rfl)
abbrev rm_X13_finishes : Room := { frames := 0, cells := 0, slots := 0, locals := 0 }
set_option maxRecDepth 100000 in
set_option maxHeartbeats 4000000 in
theorem c_X13_finishes (l : Launch) {E : Ev} (hN : 146 ≤ eN E) (hT : St E) {σ : SM} {ρ : OM} (e20 : σ 20 = ρ) {p1 : Int32} {p2 : Int32} {ρ' : OM} (hf : f_X13_finishes p1 p2 ρ = some ρ') : Met l yX13_finishes (wC yX13_finishes cX13_finishes 3 none) rm_X13_finishes (va_Pc [.ref (adr E 20 0), .int p1, .int p2] (Wu E σ)) (va_Qv (fun u => u 20 = ρ' ∧ ∀ q, q ≠ 20 → u q = σ q) (fun u t => Wu E u t) (eA E)) 0 0 (eA E) := by
  refine g_entry (lv := [(0, .ref (adr E 20 0)), (1, .int p1), (2, .int p2)]) (by decide) (Nat.le_of_ble_eq_true rfl) rfl ?_
  intro p e s m below meth c cx hp ls hl
  have hx := cx.1.1
  have hb := cx.1.2.1
  have fr : ∀ q, q ≠ 20 → σ q = σ q := fun _ _ => rfl
  unfold f_X13_finishes at hf
  refine lv_aload_n hx hb dX13_finishes_0 rfl (lv_at hl 0 rfl) ?_
  refine gF_X13_41 rfl hN cx hp dX13_finishes_1 ?_
  refine lv_iload_n hx hb dX13_finishes_4 rfl (lv_at hl 1 rfl) ?_
  refine lv_iload_n hx hb dX13_finishes_5 rfl (lv_at hl 2 rfl) ?_
  obtain ⟨g_i, hf⟩ := fg hf
  obtain ⟨ρ1, e_l, hf⟩ := fl hf
  refine sA_X13_10 e20 hN cx hp g_i dX13_finishes_6 (fun u H locs e_u n_u hp => ?_)
  have e20 := e_u.trans e_l
  have fr : ∀ q, q ≠ 20 → u q = σ q := fun q h0 => (n_u q h0).trans (fr q h0)
  refine lv_aload_n hx hb dX13_finishes_7 rfl (lv_at hl 0 rfl) ?_
  refine gF_X13_44 rfl hN cx hp dX13_finishes_8 ?_
  refine lv_iload_n hx hb dX13_finishes_11 rfl (lv_at hl 1 rfl) ?_
  refine lv_iconst (v := 1) hx hb dX13_finishes_12 (by decide) ?_
  obtain ⟨g_i, hf⟩ := fg hf
  obtain ⟨ρ2, e_l, hf⟩ := fl hf
  refine sA_X13_11 e20 hN cx hp rfl g_i dX13_finishes_13 (fun u H locs e_u n_u hp => ?_)
  have e20 := e_u.trans e_l
  have fr : ∀ q, q ≠ 20 → u q = σ q := fun q h0 => (n_u q h0).trans (fr q h0)
  refine lv_iload_n hx hb dX13_finishes_14 rfl (lv_at hl 2 rfl) ?_
  refine lv_iconst (v := (-1)) hx hb dX13_finishes_15 (by decide) ?_
  refine lv_icmp_eq (tgt := 26) hx hb dX13_finishes_16 (by decide) (fun c3 => ?_) (fun c3 => ?_)
  · have hf := fp hf c3
    cases hf
    exact r_v cx hp ⟨e20, fr⟩ dX13_finishes_26
  · have hf := fn hf c3
    refine lv_aload_n hx hb dX13_finishes_19 rfl (lv_at hl 0 rfl) ?_
    refine gF_X13_48 rfl hN cx hp dX13_finishes_20 ?_
    refine lv_iload_n hx hb dX13_finishes_23 rfl (lv_at hl 2 rfl) ?_
    refine lv_iconst (v := 1) hx hb dX13_finishes_24 (by decide) ?_
    obtain ⟨g_i, hf⟩ := fg hf
    obtain ⟨ρ4, e_l, hf⟩ := fl hf
    refine sA_X13_12 e20 hN cx hp rfl g_i dX13_finishes_25 (fun u H locs e_u n_u hp => ?_)
    have e20 := e_u.trans e_l
    have fr : ∀ q, q ≠ 20 → u q = σ q := fun q h0 => (n_u q h0).trans (fr q h0)
    cases hf
    exact r_v cx hp ⟨e20, fr⟩ dX13_finishes_26
abbrev rm_X13_firstUnfinished : Room := { frames := 0, cells := 0, slots := 0, locals := 0 }
set_option maxRecDepth 100000 in
set_option maxHeartbeats 4000000 in
theorem L_X13_firstUnfinished_2 {p : Program} {e : Env} {s : State} {m : MethodId} {args : Array Value} {below : List Frame} {meth : Method} {c : Code} (l : Launch) {E : Ev} (hN : 146 ≤ eN E) (hT : St E) {σ : SM} (cx : Cx E p s m meth c args RX13 cX13_firstUnfinished 2 (some .int)) {ρ : OM} {rv : Int32} : ∀ (n : Nat) {x1 : Int32}, f_X13_firstUnfinished_2 ρ n x1 = some rv → ∀ {u : SM} {H : Heap} {locs : List Loc} {ls : Array Slot}, u 20 = ρ → (∀ q, u q = σ q) → Hp E u s H locs → lv_has ls 2 [(0, .ref (adr E 20 0)), (1, .int x1)] → W p l e rm_X13_firstUnfinished s m args below meth c H locs 0 0 (MQ below (va_Qi (fun r u => rv = r ∧ σ = u) (fun u t => Wu E u t) (eA E)) args s 0 0 (eA E)) (F0 m 2 ls []) := by
  have hx := cx.1.1
  have hb := cx.1.2.1
  intro n
  induction n with
  | zero =>
    intro x1 hf
    exact absurd hf (by simp [f_X13_firstUnfinished_2])
  | succ n ih =>
    intro x1 hf u H locs ls e20 fr hp hl
    rw [f_X13_firstUnfinished_2] at hf
    refine lv_iload_n hx hb dX13_firstUnfinished_2 rfl (lv_at hl 1 rfl) ?_
    refine lv_aload_n hx hb dX13_firstUnfinished_3 rfl (lv_at hl 0 rfl) ?_
    refine gF_X13_7 rfl hN cx hp dX13_firstUnfinished_4 ?_
    refine lv_iconst (v := 0) hx hb dX13_firstUnfinished_7 (by decide) ?_
    obtain ⟨g_i, hf⟩ := fg hf
    refine lA_X13_1 e20 hN cx hp g_i dX13_firstUnfinished_8 ?_
    refine lv_icmp_ge (tgt := 47) hx hb dX13_firstUnfinished_9 (by decide) (fun c1 => ?_) (fun c1 => ?_)
    · have hf := fp hf c1
      refine lv_iconst (v := (-1)) hx hb dX13_firstUnfinished_47 (by decide) ?_
      cases hf
      exact r_i cx hp ⟨rfl, (funext fr).symm⟩ dX13_firstUnfinished_48
    · have hf := fn hf c1
      refine lv_aload_n hx hb dX13_firstUnfinished_12 rfl (lv_at hl 0 rfl) ?_
      refine gF_X13_44 rfl hN cx hp dX13_firstUnfinished_13 ?_
      refine lv_aload_n hx hb dX13_firstUnfinished_16 rfl (lv_at hl 0 rfl) ?_
      refine gF_X13_7 rfl hN cx hp dX13_firstUnfinished_17 ?_
      refine lv_sipush (v := 129) hx hb dX13_firstUnfinished_20 (by decide) ?_
      refine lv_iload_n hx hb dX13_firstUnfinished_23 rfl (lv_at hl 1 rfl) ?_
      refine lv_iadd hx hb dX13_firstUnfinished_24 ?_
      obtain ⟨g_i, hf⟩ := fg hf
      refine lA_X13_1 e20 hN cx hp g_i dX13_firstUnfinished_25 ?_
      obtain ⟨g_i, hf⟩ := fg hf
      refine lA_X13_11 e20 hN cx hp g_i dX13_firstUnfinished_26 ?_
      refine lv_if_ne (tgt := 41) hx hb dX13_firstUnfinished_27 (by decide) (fun c2 => ?_) (fun c2 => ?_)
      · have hf := fn hf c2
        refine lv_iinc (v := (x1 + 1)) (lv' := [(1, .int (x1 + 1)), (0, .ref (adr E 20 0))]) hx hb dX13_firstUnfinished_41 hl (k := 1) rfl rfl (by decide) rfl (fun ls hl => ?_)
        refine lv_goto (tgt := 2) hx hb dX13_firstUnfinished_44 (by decide) ?_
        exact ih  hf e20 fr hp (lv_sub hl [1, 0] rfl)
      · have hf := fp hf c2
        refine lv_aload_n hx hb dX13_firstUnfinished_30 rfl (lv_at hl 0 rfl) ?_
        refine gF_X13_7 rfl hN cx hp dX13_firstUnfinished_31 ?_
        refine lv_sipush (v := 129) hx hb dX13_firstUnfinished_34 (by decide) ?_
        refine lv_iload_n hx hb dX13_firstUnfinished_37 rfl (lv_at hl 1 rfl) ?_
        refine lv_iadd hx hb dX13_firstUnfinished_38 ?_
        obtain ⟨g_i, hf⟩ := fg hf
        refine lA_X13_1 e20 hN cx hp g_i dX13_firstUnfinished_39 ?_
        cases hf
        exact r_i cx hp ⟨rfl, (funext fr).symm⟩ dX13_firstUnfinished_40
set_option maxRecDepth 100000 in
set_option maxHeartbeats 4000000 in
theorem c_X13_firstUnfinished (l : Launch) {E : Ev} (hN : 146 ≤ eN E) (hT : St E) {σ : SM} {ρ : OM} (e20 : σ 20 = ρ)  {rv : Int32} (hf : f_X13_firstUnfinished ρ = some rv) : Met l yX13_firstUnfinished (wC yX13_firstUnfinished cX13_firstUnfinished 2 (some .int)) rm_X13_firstUnfinished (va_Pc [.ref (adr E 20 0)] (Wu E σ)) (va_Qi (fun r u => rv = r ∧ σ = u) (fun u t => Wu E u t) (eA E)) 0 0 (eA E) := by
  refine g_entry (lv := [(0, .ref (adr E 20 0))]) (by decide) (Nat.le_of_ble_eq_true rfl) rfl ?_
  intro p e s m below meth c cx hp ls hl
  have hx := cx.1.1
  have hb := cx.1.2.1
  have fr : ∀ q, σ q = σ q := fun _ => rfl
  unfold f_X13_firstUnfinished at hf
  refine lv_iconst (v := 0) hx hb dX13_firstUnfinished_0 (by decide) ?_
  refine lv_istore_n (lv' := [(1, .int 0), (0, .ref (adr E 20 0))]) hx hb dX13_firstUnfinished_1 rfl hl (by decide) rfl (fun ls hl => ?_)
  exact L_X13_firstUnfinished_2 l hN hT cx  _ hf e20 fr hp (lv_sub hl [1, 0] rfl)
abbrev rm_X13_inChain : Room := { frames := 0, cells := 0, slots := 0, locals := 0 }
set_option maxRecDepth 100000 in
set_option maxHeartbeats 4000000 in
theorem L_X13_inChain_2 {p : Program} {e : Env} {s : State} {m : MethodId} {args : Array Value} {below : List Frame} {meth : Method} {c : Code} (l : Launch) {E : Ev} (hN : 146 ≤ eN E) (hT : St E) {σ : SM} (cx : Cx E p s m meth c args RX13 cX13_inChain 3 (some .int)) {x1 : Int32} {ρ : OM} {rv : Int32} : ∀ (n : Nat) {x2 : Int32}, f_X13_inChain_2 x1 ρ n x2 = some rv → ∀ {u : SM} {H : Heap} {locs : List Loc} {ls : Array Slot}, u 20 = ρ → (∀ q, u q = σ q) → Hp E u s H locs → lv_has ls 3 [(0, .ref (adr E 20 0)), (1, .int x1), (2, .int x2)] → W p l e rm_X13_inChain s m args below meth c H locs 0 0 (MQ below (va_Qi (fun r u => rv = r ∧ σ = u) (fun u t => Wu E u t) (eA E)) args s 0 0 (eA E)) (F0 m 2 ls []) := by
  have hx := cx.1.1
  have hb := cx.1.2.1
  intro n
  induction n with
  | zero =>
    intro x2 hf
    exact absurd hf (by simp [f_X13_inChain_2])
  | succ n ih =>
    intro x2 hf u H locs ls e20 fr hp hl
    rw [f_X13_inChain_2] at hf
    refine lv_iload_n hx hb dX13_inChain_2 rfl (lv_at hl 2 rfl) ?_
    refine lv_aload_n hx hb dX13_inChain_3 rfl (lv_at hl 0 rfl) ?_
    refine gF_X13_123 e20 hN cx hp dX13_inChain_4 ?_
    refine lv_icmp_ge (tgt := 28) hx hb dX13_inChain_7 (by decide) (fun c1 => ?_) (fun c1 => ?_)
    · have hf := fp hf c1
      refine lv_iconst (v := (-1)) hx hb dX13_inChain_28 (by decide) ?_
      cases hf
      exact r_i cx hp ⟨rfl, (funext fr).symm⟩ dX13_inChain_29
    · have hf := fn hf c1
      refine lv_aload_n hx hb dX13_inChain_10 rfl (lv_at hl 0 rfl) ?_
      refine gF_X13_35 rfl hN cx hp dX13_inChain_11 ?_
      refine lv_iload_n hx hb dX13_inChain_14 rfl (lv_at hl 2 rfl) ?_
      obtain ⟨g_i, hf⟩ := fg hf
      refine lA_X13_8 e20 hN cx hp g_i dX13_inChain_15 ?_
      refine lv_iload_n hx hb dX13_inChain_16 rfl (lv_at hl 1 rfl) ?_
      refine lv_icmp_ne (tgt := 22) hx hb dX13_inChain_17 (by decide) (fun c2 => ?_) (fun c2 => ?_)
      · have hf := fn hf c2
        refine lv_iinc (v := (x2 + 1)) (lv' := [(2, .int (x2 + 1)), (0, .ref (adr E 20 0)), (1, .int x1)]) hx hb dX13_inChain_22 hl (k := 2) rfl rfl (by decide) rfl (fun ls hl => ?_)
        refine lv_goto (tgt := 2) hx hb dX13_inChain_25 (by decide) ?_
        exact ih  hf e20 fr hp (lv_sub hl [1, 2, 0] rfl)
      · have hf := fp hf c2
        refine lv_iload_n hx hb dX13_inChain_20 rfl (lv_at hl 2 rfl) ?_
        cases hf
        exact r_i cx hp ⟨rfl, (funext fr).symm⟩ dX13_inChain_21
set_option maxRecDepth 100000 in
set_option maxHeartbeats 4000000 in
theorem c_X13_inChain (l : Launch) {E : Ev} (hN : 146 ≤ eN E) (hT : St E) {σ : SM} {ρ : OM} (e20 : σ 20 = ρ) {p1 : Int32} {rv : Int32} (hf : f_X13_inChain p1 ρ = some rv) : Met l yX13_inChain (wC yX13_inChain cX13_inChain 3 (some .int)) rm_X13_inChain (va_Pc [.ref (adr E 20 0), .int p1] (Wu E σ)) (va_Qi (fun r u => rv = r ∧ σ = u) (fun u t => Wu E u t) (eA E)) 0 0 (eA E) := by
  refine g_entry (lv := [(0, .ref (adr E 20 0)), (1, .int p1)]) (by decide) (Nat.le_of_ble_eq_true rfl) rfl ?_
  intro p e s m below meth c cx hp ls hl
  have hx := cx.1.1
  have hb := cx.1.2.1
  have fr : ∀ q, σ q = σ q := fun _ => rfl
  unfold f_X13_inChain at hf
  refine lv_iconst (v := 0) hx hb dX13_inChain_0 (by decide) ?_
  refine lv_istore_n (lv' := [(2, .int 0), (0, .ref (adr E 20 0)), (1, .int p1)]) hx hb dX13_inChain_1 rfl hl (by decide) rfl (fun ls hl => ?_)
  exact L_X13_inChain_2 l hN hT cx  _ hf e20 fr hp (lv_sub hl [1, 2, 0] rfl)
abbrev rm_X13_appends : Room := { frames := 0, cells := 0, slots := 0, locals := 0 }
set_option maxRecDepth 100000 in
set_option maxHeartbeats 4000000 in
theorem c_X13_appends (l : Launch) {E : Ev} (hN : 146 ≤ eN E) (hT : St E) {σ : SM} {ρ : OM} (e20 : σ 20 = ρ) {p1 : Int32} {ρ' : OM} (hf : f_X13_appends p1 ρ = some ρ') : Met l yX13_appends (wC yX13_appends cX13_appends 2 none) rm_X13_appends (va_Pc [.ref (adr E 20 0), .int p1] (Wu E σ)) (va_Qv (fun u => u 20 = ρ' ∧ ∀ q, q ≠ 20 → u q = σ q) (fun u t => Wu E u t) (eA E)) 0 0 (eA E) := by
  refine g_entry (lv := [(0, .ref (adr E 20 0)), (1, .int p1)]) (by decide) (Nat.le_of_ble_eq_true rfl) rfl ?_
  intro p e s m below meth c cx hp ls hl
  have hx := cx.1.1
  have hb := cx.1.2.1
  have fr : ∀ q, q ≠ 20 → σ q = σ q := fun _ _ => rfl
  unfold f_X13_appends at hf
  refine lv_aload_n hx hb dX13_appends_0 rfl (lv_at hl 0 rfl) ?_
  refine gF_X13_35 rfl hN cx hp dX13_appends_1 ?_
  refine lv_aload_n hx hb dX13_appends_4 rfl (lv_at hl 0 rfl) ?_
  refine gF_X13_123 e20 hN cx hp dX13_appends_5 ?_
  refine lv_iload_n hx hb dX13_appends_8 rfl (lv_at hl 1 rfl) ?_
  obtain ⟨g_i, hf⟩ := fg hf
  obtain ⟨ρ1, e_l, hf⟩ := fl hf
  refine sA_X13_8 e20 hN cx hp g_i dX13_appends_9 (fun u H locs e_u n_u hp => ?_)
  have e20 := e_u.trans e_l
  have fr : ∀ q, q ≠ 20 → u q = σ q := fun q h0 => (n_u q h0).trans (fr q h0)
  refine lv_aload_n hx hb dX13_appends_10 rfl (lv_at hl 0 rfl) ?_
  refine lv_dup hx hb dX13_appends_11 rfl ?_
  refine gF_X13_123 e20 hN cx hp dX13_appends_12 ?_
  refine lv_iconst (v := 1) hx hb dX13_appends_15 (by decide) ?_
  refine lv_iadd hx hb dX13_appends_16 ?_
  obtain ⟨ρ2, e_l, hf⟩ := fl hf
  refine pF_X13_123 e20 hN cx hp dX13_appends_17 (fun u H locs e_u n_u hp => ?_)
  have e20 := e_u.trans e_l
  have fr : ∀ q, q ≠ 20 → u q = σ q := fun q h0 => (n_u q h0).trans (fr q h0)
  cases hf
  exact r_v cx hp ⟨e20, fr⟩ dX13_appends_20
abbrev rm_X13_steps : Room := { frames := 2, cells := 0, slots := 0, locals := 44 }
set_option maxRecDepth 100000 in
set_option maxHeartbeats 4000000 in
theorem L_X13_steps_99 {p : Program} {e : Env} {s : State} {m : MethodId} {args : Array Value} {below : List Frame} {meth : Method} {c : Code} (l : Launch) {E : Ev} (hN : 146 ≤ eN E) (hT : St E) {σ : SM} (cx : Cx E p s m meth c args RX13 cX13_steps 6 none) {x4 : Int32} {ρ' : OM} : ∀ (n : Nat) {x5 : Int32} {ρ : OM}, f_X13_steps_99 x4 n x5 ρ = some ρ' → ∀ {u : SM} {H : Heap} {locs : List Loc} {ls : Array Slot}, u 20 = ρ → (∀ q, q ≠ 20 → u q = σ q) → Hp E u s H locs → lv_has ls 6 [(0, .ref (adr E 20 0)), (4, .int x4), (5, .int x5)] → W p l e rm_X13_steps s m args below meth c H locs 0 0 (MQ below (va_Qv (fun u => u 20 = ρ' ∧ ∀ q, q ≠ 20 → u q = σ q) (fun u t => Wu E u t) (eA E)) args s 0 0 (eA E)) (F0 m 99 ls []) := by
  have hx := cx.1.1
  have hb := cx.1.2.1
  intro n
  induction n with
  | zero =>
    intro x5 ρ hf
    exact absurd hf (by simp [f_X13_steps_99])
  | succ n ih =>
    intro x5 ρ hf u H locs ls e20 fr hp hl
    rw [f_X13_steps_99] at hf
    refine lv_iload hx hb dX13_steps_99 (lv_at hl 2 rfl) ?_
    refine lv_aload_n hx hb dX13_steps_101 rfl (lv_at hl 0 rfl) ?_
    refine gF_X13_123 e20 hN cx hp dX13_steps_102 ?_
    refine lv_icmp_ge (tgt := 137) hx hb dX13_steps_105 (by decide) (fun c15 => ?_) (fun c15 => ?_)
    · have hf := fp hf c15
      refine lv_aload_n hx hb dX13_steps_137 rfl (lv_at hl 0 rfl) ?_
      refine lv_iload hx hb dX13_steps_138 (lv_at hl 1 rfl) ?_
      obtain ⟨ρ16, e_l, hf⟩ := fl hf
      refine pF_X13_123 e20 hN cx hp dX13_steps_140 (fun u H locs e_u n_u hp => ?_)
      have e20 := e_u.trans e_l
      have fr : ∀ q, q ≠ 20 → u q = σ q := fun q h0 => (n_u q h0).trans (fr q h0)
      cases hf
      exact r_v cx hp ⟨e20, fr⟩ dX13_steps_143
    · have hf := fn hf c15
      refine lv_aload_n hx hb dX13_steps_108 rfl (lv_at hl 0 rfl) ?_
      refine lv_aload_n hx hb dX13_steps_109 rfl (lv_at hl 0 rfl) ?_
      refine gF_X13_35 rfl hN cx hp dX13_steps_110 ?_
      refine lv_iload hx hb dX13_steps_113 (lv_at hl 2 rfl) ?_
      obtain ⟨g_i, hf⟩ := fg hf
      refine lA_X13_8 e20 hN cx hp g_i dX13_steps_115 ?_
      refine lv_aload_n hx hb dX13_steps_116 rfl (lv_at hl 0 rfl) ?_
      refine gF_X13_38 rfl hN cx hp dX13_steps_117 ?_
      refine lv_aload_n hx hb dX13_steps_120 rfl (lv_at hl 0 rfl) ?_
      refine gF_X13_35 rfl hN cx hp dX13_steps_121 ?_
      refine lv_iload hx hb dX13_steps_124 (lv_at hl 2 rfl) ?_
      obtain ⟨g_i, hf⟩ := fg hf
      refine lA_X13_8 e20 hN cx hp g_i dX13_steps_126 ?_
      obtain ⟨g_i, hf⟩ := fg hf
      refine lA_X13_9 e20 hN cx hp g_i dX13_steps_127 ?_
      obtain ⟨ρ17, hc, hf⟩ := fb hf
      refine x_v hp (y_V (As := [.int (ρ.1 8 (Int32.toNatClampNeg x5)), .int (ρ.1 9 (Int32.toNatClampNeg (ρ.1 8 (Int32.toNatClampNeg x5))))]) (rest := []) cx hp hl (c_X13_finishes l hN hT e20 hc) (cw_X13_129 cx (mc := 0) (ms := 0) rfl rfl ⟨by decide, by decide⟩) (rC_X13 hN cx hp) rfl rfl (Nat.le_of_ble_eq_true rfl) dX13_steps_128 ⟨Nat.zero_le _, Nat.zero_le _⟩) (fun u_c H locs hq hp => ?_)
      obtain ⟨e_0, n_u⟩ := hq
      have e20 := e_0
      have fr : ∀ q, q ≠ 20 → u_c q = σ q := fun q h0 => (n_u q h0).trans (fr q h0)
      obtain ⟨u, rfl⟩ : ∃ z, u_c = z := ⟨_, rfl⟩
      refine lv_iinc (v := (x5 + 1)) (lv' := [(5, .int (x5 + 1)), (0, .ref (adr E 20 0)), (4, .int x4)]) hx hb dX13_steps_131 hl (k := 2) rfl rfl (by decide) rfl (fun ls hl => ?_)
      refine lv_goto (tgt := 99) hx hb dX13_steps_134 (by decide) ?_
      exact ih  hf e20 fr hp (lv_sub hl [1, 2, 0] rfl)
set_option maxRecDepth 100000 in
set_option maxHeartbeats 4000000 in
theorem c_X13_steps (l : Launch) {E : Ev} (hN : 146 ≤ eN E) (hT : St E) {σ : SM} {ρ : OM} (e20 : σ 20 = ρ)  {ρ' : OM} (hf : f_X13_steps ρ = some ρ') : Met l yX13_steps (wC yX13_steps cX13_steps 6 none) rm_X13_steps (va_Pc [.ref (adr E 20 0)] (Wu E σ)) (va_Qv (fun u => u 20 = ρ' ∧ ∀ q, q ≠ 20 → u q = σ q) (fun u t => Wu E u t) (eA E)) 0 0 (eA E) := by
  refine g_entry (lv := [(0, .ref (adr E 20 0))]) (by decide) (Nat.le_of_ble_eq_true rfl) rfl ?_
  intro p e s m below meth c cx hp ls hl
  have hx := cx.1.1
  have hb := cx.1.2.1
  have fr : ∀ q, q ≠ 20 → σ q = σ q := fun _ _ => rfl
  unfold f_X13_steps at hf
  refine lv_aload_n hx hb dX13_steps_0 rfl (lv_at hl 0 rfl) ?_
  refine gF_X13_35 rfl hN cx hp dX13_steps_1 ?_
  refine lv_aload_n hx hb dX13_steps_4 rfl (lv_at hl 0 rfl) ?_
  refine gF_X13_123 e20 hN cx hp dX13_steps_5 ?_
  refine lv_iconst (v := 1) hx hb dX13_steps_8 (by decide) ?_
  refine lv_isub hx hb dX13_steps_9 ?_
  obtain ⟨g_i, hf⟩ := fg hf
  refine lA_X13_8 e20 hN cx hp g_i dX13_steps_10 ?_
  obtain ⟨i1, x_e, hf⟩ := fl hf
  refine lv_nm x_e ?_
  refine lv_istore_n (lv' := [(1, .int i1), (0, .ref (adr E 20 0))]) hx hb dX13_steps_11 rfl hl (by decide) rfl (fun ls hl => ?_)
  refine lv_aload_n hx hb dX13_steps_12 rfl (lv_at hl 1 rfl) ?_
  refine lv_iload_n hx hb dX13_steps_13 rfl (lv_at hl 0 rfl) ?_
  obtain ⟨r2, hc, hf⟩ := fb hf
  refine x_i hp (y_V (As := [.int i1]) (rest := []) cx hp hl (c_X13_request l hN hT e20 hc) (cw_X13_126 cx (mc := 0) (ms := 0) rfl rfl ⟨by decide, by decide⟩) (rC_X13 hN cx hp) rfl rfl (Nat.le_of_ble_eq_true rfl) dX13_steps_14 ⟨Nat.zero_le _, Nat.zero_le _⟩) (fun r_c u_c H locs hq hp => ?_)
  obtain ⟨rfl, rfl⟩ := hq
  refine lv_istore_n (lv' := [(2, .int r2), (1, .int i1), (0, .ref (adr E 20 0))]) hx hb dX13_steps_17 rfl hl (by decide) rfl (fun ls hl => ?_)
  refine lv_aload_n hx hb dX13_steps_18 rfl (lv_at hl 2 rfl) ?_
  refine gF_X13_38 rfl hN cx hp dX13_steps_19 ?_
  refine lv_iload_n hx hb dX13_steps_22 rfl (lv_at hl 1 rfl) ?_
  refine lv_iload_n hx hb dX13_steps_23 rfl (lv_at hl 0 rfl) ?_
  obtain ⟨g_i, hf⟩ := fg hf
  obtain ⟨ρ3, e_l, hf⟩ := fl hf
  refine sA_X13_9 e20 hN cx hp g_i dX13_steps_24 (fun u H locs e_u n_u hp => ?_)
  have e20 := e_u.trans e_l
  have fr : ∀ q, q ≠ 20 → u q = σ q := fun q h0 => (n_u q h0).trans (fr q h0)
  refine lv_iload_n hx hb dX13_steps_25 rfl (lv_at hl 0 rfl) ?_
  refine lv_iconst (v := (-1)) hx hb dX13_steps_26 (by decide) ?_
  refine lv_icmp_ne (tgt := 34) hx hb dX13_steps_27 (by decide) (fun c4 => ?_) (fun c4 => ?_)
  · have hf := fn hf c4
    refine lv_aload_n hx hb dX13_steps_34 rfl (lv_at hl 2 rfl) ?_
    refine lv_iload_n hx hb dX13_steps_35 rfl (lv_at hl 0 rfl) ?_
    obtain ⟨r5, hc, hf⟩ := fb hf
    refine x_i hp (y_V (As := [.int r2]) (rest := []) cx hp hl (c_X13_occupant l hN hT e20 hc) (cw_X13_115 cx (mc := 0) (ms := 0) rfl rfl ⟨by decide, by decide⟩) (rC_X13 hN cx hp) rfl rfl (Nat.le_of_ble_eq_true rfl) dX13_steps_36 ⟨Nat.zero_le _, Nat.zero_le _⟩) (fun r_c u_c H locs hq hp => ?_)
    obtain ⟨rfl, rfl⟩ := hq
    refine lv_istore_n (lv' := [(3, .int r5), (2, .int r2), (1, .int i1), (0, .ref (adr E 20 0))]) hx hb dX13_steps_39 rfl hl (by decide) rfl (fun ls hl => ?_)
    refine lv_iload_n hx hb dX13_steps_40 rfl (lv_at hl 0 rfl) ?_
    refine lv_iconst (v := (-1)) hx hb dX13_steps_41 (by decide) ?_
    refine lv_icmp_eq (tgt := 59) hx hb dX13_steps_42 (by decide) (fun c6 => ?_) (fun c6 => ?_)
    · have hf := fp hf c6
      refine lv_aload_n hx hb dX13_steps_59 rfl (lv_at hl 3 rfl) ?_
      refine lv_iload_n hx hb dX13_steps_60 rfl (lv_at hl 2 rfl) ?_
      refine lv_iload_n hx hb dX13_steps_61 rfl (lv_at hl 1 rfl) ?_
      obtain ⟨ρ7, hc, hf⟩ := fb hf
      refine x_v hp (y_V (As := [.int i1, .int r2]) (rest := []) cx hp hl (c_X13_finishes l hN hT e20 hc) (cw_X13_129 cx (mc := 0) (ms := 0) rfl rfl ⟨by decide, by decide⟩) (rC_X13 hN cx hp) rfl rfl (Nat.le_of_ble_eq_true rfl) dX13_steps_62 ⟨Nat.zero_le _, Nat.zero_le _⟩) (fun u_c H locs hq hp => ?_)
      obtain ⟨e_0, n_u⟩ := hq
      have e20 := e_0
      have fr : ∀ q, q ≠ 20 → u_c q = σ q := fun q h0 => (n_u q h0).trans (fr q h0)
      obtain ⟨u, rfl⟩ : ∃ z, u_c = z := ⟨_, rfl⟩
      refine lv_aload_n hx hb dX13_steps_65 rfl (lv_at hl 3 rfl) ?_
      refine lv_dup hx hb dX13_steps_66 rfl ?_
      refine gF_X13_123 e20 hN cx hp dX13_steps_67 ?_
      refine lv_iconst (v := 1) hx hb dX13_steps_70 (by decide) ?_
      refine lv_isub hx hb dX13_steps_71 ?_
      obtain ⟨ρ8, e_l, hf⟩ := fl hf
      refine pF_X13_123 e20 hN cx hp dX13_steps_72 (fun u H locs e_u n_u hp => ?_)
      have e20 := e_u.trans e_l
      have fr : ∀ q, q ≠ 20 → u q = σ q := fun q h0 => (n_u q h0).trans (fr q h0)
      cases hf
      exact r_v cx hp ⟨e20, fr⟩ dX13_steps_75
    · have hf := fn hf c6
      refine lv_iload_n hx hb dX13_steps_45 rfl (lv_at hl 0 rfl) ?_
      refine lv_iload_n hx hb dX13_steps_46 rfl (lv_at hl 2 rfl) ?_
      refine lv_icmp_eq (tgt := 59) hx hb dX13_steps_47 (by decide) (fun c9 => ?_) (fun c9 => ?_)
      · have hf := fp hf c9
        refine lv_aload_n hx hb dX13_steps_59 rfl (lv_at hl 3 rfl) ?_
        refine lv_iload_n hx hb dX13_steps_60 rfl (lv_at hl 2 rfl) ?_
        refine lv_iload_n hx hb dX13_steps_61 rfl (lv_at hl 1 rfl) ?_
        obtain ⟨ρ10, hc, hf⟩ := fb hf
        refine x_v hp (y_V (As := [.int i1, .int r2]) (rest := []) cx hp hl (c_X13_finishes l hN hT e20 hc) (cw_X13_129 cx (mc := 0) (ms := 0) rfl rfl ⟨by decide, by decide⟩) (rC_X13 hN cx hp) rfl rfl (Nat.le_of_ble_eq_true rfl) dX13_steps_62 ⟨Nat.zero_le _, Nat.zero_le _⟩) (fun u_c H locs hq hp => ?_)
        obtain ⟨e_0, n_u⟩ := hq
        have e20 := e_0
        have fr : ∀ q, q ≠ 20 → u_c q = σ q := fun q h0 => (n_u q h0).trans (fr q h0)
        obtain ⟨u, rfl⟩ : ∃ z, u_c = z := ⟨_, rfl⟩
        refine lv_aload_n hx hb dX13_steps_65 rfl (lv_at hl 3 rfl) ?_
        refine lv_dup hx hb dX13_steps_66 rfl ?_
        refine gF_X13_123 e20 hN cx hp dX13_steps_67 ?_
        refine lv_iconst (v := 1) hx hb dX13_steps_70 (by decide) ?_
        refine lv_isub hx hb dX13_steps_71 ?_
        obtain ⟨ρ11, e_l, hf⟩ := fl hf
        refine pF_X13_123 e20 hN cx hp dX13_steps_72 (fun u H locs e_u n_u hp => ?_)
        have e20 := e_u.trans e_l
        have fr : ∀ q, q ≠ 20 → u q = σ q := fun q h0 => (n_u q h0).trans (fr q h0)
        cases hf
        exact r_v cx hp ⟨e20, fr⟩ dX13_steps_75
      · have hf := fn hf c9
        refine lv_aload_n hx hb dX13_steps_50 rfl (lv_at hl 3 rfl) ?_
        refine gF_X13_44 rfl hN cx hp dX13_steps_51 ?_
        refine lv_iload_n hx hb dX13_steps_54 rfl (lv_at hl 0 rfl) ?_
        obtain ⟨g_i, hf⟩ := fg hf
        refine lA_X13_11 e20 hN cx hp g_i dX13_steps_55 ?_
        refine lv_if_eq (tgt := 76) hx hb dX13_steps_56 (by decide) (fun c12 => ?_) (fun c12 => ?_)
        · have hf := fp hf c12
          refine lv_aload_n hx hb dX13_steps_76 rfl (lv_at hl 3 rfl) ?_
          refine lv_iload_n hx hb dX13_steps_77 rfl (lv_at hl 0 rfl) ?_
          obtain ⟨r13, hc, hf⟩ := fb hf
          refine x_i hp (y_V (As := [.int r5]) (rest := []) cx hp hl (c_X13_inChain l hN hT e20 hc) (cw_X13_132 cx (mc := 0) (ms := 0) rfl rfl ⟨by decide, by decide⟩) (rC_X13 hN cx hp) rfl rfl (Nat.le_of_ble_eq_true rfl) dX13_steps_78 ⟨Nat.zero_le _, Nat.zero_le _⟩) (fun r_c u_c H locs hq hp => ?_)
          obtain ⟨rfl, rfl⟩ := hq
          refine lv_istore (lv' := [(4, .int r13), (3, .int r5), (2, .int r2), (1, .int i1), (0, .ref (adr E 20 0))]) hx hb dX13_steps_81 hl (by decide) rfl (fun ls hl => ?_)
          refine lv_iload hx hb dX13_steps_83 (lv_at hl 0 rfl) ?_
          refine lv_iconst (v := (-1)) hx hb dX13_steps_85 (by decide) ?_
          refine lv_icmp_ne (tgt := 95) hx hb dX13_steps_86 (by decide) (fun c14 => ?_) (fun c14 => ?_)
          · have hf := fn hf c14
            refine lv_iload hx hb dX13_steps_95 (lv_at hl 0 rfl) ?_
            refine lv_istore (lv' := [(5, .int r13), (4, .int r13), (3, .int r5), (2, .int r2), (1, .int i1), (0, .ref (adr E 20 0))]) hx hb dX13_steps_97 hl (by decide) rfl (fun ls hl => ?_)
            exact L_X13_steps_99 l hN hT cx  _ hf e20 fr hp (lv_sub hl [5, 1, 0] rfl)
          · have hf := fp hf c14
            refine lv_aload_n hx hb dX13_steps_89 rfl (lv_at hl 4 rfl) ?_
            refine lv_iload_n hx hb dX13_steps_90 rfl (lv_at hl 1 rfl) ?_
            obtain ⟨ρ18, hc, hf⟩ := fb hf
            refine x_v hp (y_V (As := [.int r5]) (rest := []) cx hp hl (c_X13_appends l hN hT e20 hc) (cw_X13_135 cx (mc := 0) (ms := 0) rfl rfl ⟨by decide, by decide⟩) (rC_X13 hN cx hp) rfl rfl (Nat.le_of_ble_eq_true rfl) dX13_steps_91 ⟨Nat.zero_le _, Nat.zero_le _⟩) (fun u_c H locs hq hp => ?_)
            obtain ⟨e_0, n_u⟩ := hq
            have e20 := e_0
            have fr : ∀ q, q ≠ 20 → u_c q = σ q := fun q h0 => (n_u q h0).trans (fr q h0)
            obtain ⟨u, rfl⟩ : ∃ z, u_c = z := ⟨_, rfl⟩
            cases hf
            exact r_v cx hp ⟨e20, fr⟩ dX13_steps_94
        · have hf := fn hf c12
          refine lv_aload_n hx hb dX13_steps_59 rfl (lv_at hl 3 rfl) ?_
          refine lv_iload_n hx hb dX13_steps_60 rfl (lv_at hl 2 rfl) ?_
          refine lv_iload_n hx hb dX13_steps_61 rfl (lv_at hl 1 rfl) ?_
          obtain ⟨ρ19, hc, hf⟩ := fb hf
          refine x_v hp (y_V (As := [.int i1, .int r2]) (rest := []) cx hp hl (c_X13_finishes l hN hT e20 hc) (cw_X13_129 cx (mc := 0) (ms := 0) rfl rfl ⟨by decide, by decide⟩) (rC_X13 hN cx hp) rfl rfl (Nat.le_of_ble_eq_true rfl) dX13_steps_62 ⟨Nat.zero_le _, Nat.zero_le _⟩) (fun u_c H locs hq hp => ?_)
          obtain ⟨e_0, n_u⟩ := hq
          have e20 := e_0
          have fr : ∀ q, q ≠ 20 → u_c q = σ q := fun q h0 => (n_u q h0).trans (fr q h0)
          obtain ⟨u, rfl⟩ : ∃ z, u_c = z := ⟨_, rfl⟩
          refine lv_aload_n hx hb dX13_steps_65 rfl (lv_at hl 3 rfl) ?_
          refine lv_dup hx hb dX13_steps_66 rfl ?_
          refine gF_X13_123 e20 hN cx hp dX13_steps_67 ?_
          refine lv_iconst (v := 1) hx hb dX13_steps_70 (by decide) ?_
          refine lv_isub hx hb dX13_steps_71 ?_
          obtain ⟨ρ20, e_l, hf⟩ := fl hf
          refine pF_X13_123 e20 hN cx hp dX13_steps_72 (fun u H locs e_u n_u hp => ?_)
          have e20 := e_u.trans e_l
          have fr : ∀ q, q ≠ 20 → u q = σ q := fun q h0 => (n_u q h0).trans (fr q h0)
          cases hf
          exact r_v cx hp ⟨e20, fr⟩ dX13_steps_75
  · have hf := fp hf c4
    refine lv_iconst (v := (-1)) hx hb dX13_steps_30 (by decide) ?_
    refine lv_goto (tgt := 39) hx hb dX13_steps_31 (by decide) ?_
    refine lv_istore_n (lv' := [(3, .int (-1)), (2, .int r2), (1, .int i1), (0, .ref (adr E 20 0))]) hx hb dX13_steps_39 rfl hl (by decide) rfl (fun ls hl => ?_)
    refine lv_iload_n hx hb dX13_steps_40 rfl (lv_at hl 0 rfl) ?_
    refine lv_iconst (v := (-1)) hx hb dX13_steps_41 (by decide) ?_
    refine lv_icmp_eq (tgt := 59) hx hb dX13_steps_42 (by decide) (fun _ => ?_) (fun c_x => absurd (by decide) c_x)
    refine lv_aload_n hx hb dX13_steps_59 rfl (lv_at hl 3 rfl) ?_
    refine lv_iload_n hx hb dX13_steps_60 rfl (lv_at hl 2 rfl) ?_
    refine lv_iload_n hx hb dX13_steps_61 rfl (lv_at hl 1 rfl) ?_
    obtain ⟨ρ22, hc, hf⟩ := fb hf
    refine x_v hp (y_V (As := [.int i1, .int r2]) (rest := []) cx hp hl (c_X13_finishes l hN hT e20 hc) (cw_X13_129 cx (mc := 0) (ms := 0) rfl rfl ⟨by decide, by decide⟩) (rC_X13 hN cx hp) rfl rfl (Nat.le_of_ble_eq_true rfl) dX13_steps_62 ⟨Nat.zero_le _, Nat.zero_le _⟩) (fun u_c H locs hq hp => ?_)
    obtain ⟨e_0, n_u⟩ := hq
    have e20 := e_0
    have fr : ∀ q, q ≠ 20 → u_c q = σ q := fun q h0 => (n_u q h0).trans (fr q h0)
    obtain ⟨u, rfl⟩ : ∃ z, u_c = z := ⟨_, rfl⟩
    refine lv_aload_n hx hb dX13_steps_65 rfl (lv_at hl 3 rfl) ?_
    refine lv_dup hx hb dX13_steps_66 rfl ?_
    refine gF_X13_123 e20 hN cx hp dX13_steps_67 ?_
    refine lv_iconst (v := 1) hx hb dX13_steps_70 (by decide) ?_
    refine lv_isub hx hb dX13_steps_71 ?_
    obtain ⟨ρ23, e_l, hf⟩ := fl hf
    refine pF_X13_123 e20 hN cx hp dX13_steps_72 (fun u H locs e_u n_u hp => ?_)
    have e20 := e_u.trans e_l
    have fr : ∀ q, q ≠ 20 → u q = σ q := fun q h0 => (n_u q h0).trans (fr q h0)
    cases hf
    exact r_v cx hp ⟨e20, fr⟩ dX13_steps_75
abbrev rm_X13_allocates : Room := { frames := 3, cells := 0, slots := 0, locals := 69 }
set_option maxRecDepth 100000 in
set_option maxHeartbeats 4000000 in
theorem L_X13_allocates_2 {p : Program} {e : Env} {s : State} {m : MethodId} {args : Array Value} {below : List Frame} {meth : Method} {c : Code} (l : Launch) {E : Ev} (hN : 146 ≤ eN E) (hT : St E) {σ : SM} {Q : State → Prop} (cx : Cx E p s m meth c args RX13 cX13_allocates 2 none) {ρ' : OM} (K : ∀ (u : SM) (H : Heap) (locs : List Loc) (ls : Array Slot), u 20 = ρ' → (∀ q, q ≠ 20 → u q = σ q) → Hp E u s H locs → lv_has ls 2 [(0, .ref (adr E 20 0))] → W p l e rm_X13_allocates s m args below meth c H locs 0 0 Q (F0 m 28 ls [])) : ∀ (n : Nat) {x1 : Int32} {ρ : OM}, f_X13_allocates_2  n x1 ρ = some ρ' → ∀ {u : SM} {H : Heap} {locs : List Loc} {ls : Array Slot}, u 20 = ρ → (∀ q, q ≠ 20 → u q = σ q) → Hp E u s H locs → lv_has ls 2 [(0, .ref (adr E 20 0)), (1, .int x1)] → W p l e rm_X13_allocates s m args below meth c H locs 0 0 Q (F0 m 2 ls []) := by
  have hx := cx.1.1
  have hb := cx.1.2.1
  intro n
  induction n with
  | zero =>
    intro x1 ρ hf
    exact absurd hf (by simp [f_X13_allocates_2])
  | succ n ih =>
    intro x1 ρ hf u H locs ls e20 fr hp hl
    rw [f_X13_allocates_2] at hf
    refine lv_iload_n hx hb dX13_allocates_2 rfl (lv_at hl 1 rfl) ?_
    refine lv_bipush (v := 8) hx hb dX13_allocates_3 (by decide) ?_
    refine lv_icmp_ge (tgt := 28) hx hb dX13_allocates_5 (by decide) (fun c1 => ?_) (fun c1 => ?_)
    · have hf := fp hf c1
      cases hf
      exact K _ _ _ _ e20 fr hp (lv_sub hl [0] rfl)
    · have hf := fn hf c1
      refine lv_aload_n hx hb dX13_allocates_8 rfl (lv_at hl 0 rfl) ?_
      refine gF_X13_44 rfl hN cx hp dX13_allocates_9 ?_
      refine lv_iload_n hx hb dX13_allocates_12 rfl (lv_at hl 1 rfl) ?_
      refine lv_iconst (v := 0) hx hb dX13_allocates_13 (by decide) ?_
      obtain ⟨g_i, hf⟩ := fg hf
      obtain ⟨ρ2, e_l, hf⟩ := fl hf
      refine sA_X13_11 e20 hN cx hp rfl g_i dX13_allocates_14 (fun u H locs e_u n_u hp => ?_)
      have e20 := e_u.trans e_l
      have fr : ∀ q, q ≠ 20 → u q = σ q := fun q h0 => (n_u q h0).trans (fr q h0)
      refine lv_aload_n hx hb dX13_allocates_15 rfl (lv_at hl 0 rfl) ?_
      refine gF_X13_48 rfl hN cx hp dX13_allocates_16 ?_
      refine lv_iload_n hx hb dX13_allocates_19 rfl (lv_at hl 1 rfl) ?_
      refine lv_iconst (v := 0) hx hb dX13_allocates_20 (by decide) ?_
      obtain ⟨g_i, hf⟩ := fg hf
      obtain ⟨ρ3, e_l, hf⟩ := fl hf
      refine sA_X13_12 e20 hN cx hp rfl g_i dX13_allocates_21 (fun u H locs e_u n_u hp => ?_)
      have e20 := e_u.trans e_l
      have fr : ∀ q, q ≠ 20 → u q = σ q := fun q h0 => (n_u q h0).trans (fr q h0)
      refine lv_iinc (v := (x1 + 1)) (lv' := [(1, .int (x1 + 1)), (0, .ref (adr E 20 0))]) hx hb dX13_allocates_22 hl (k := 1) rfl rfl (by decide) rfl (fun ls hl => ?_)
      refine lv_goto (tgt := 2) hx hb dX13_allocates_25 (by decide) ?_
      exact ih  hf e20 fr hp (lv_sub hl [1, 0] rfl)
set_option maxRecDepth 100000 in
set_option maxHeartbeats 4000000 in
theorem L_X13_allocates_38 {p : Program} {e : Env} {s : State} {m : MethodId} {args : Array Value} {below : List Frame} {meth : Method} {c : Code} (l : Launch) {E : Ev} (hN : 146 ≤ eN E) (hT : St E) {σ : SM} (cx : Cx E p s m meth c args RX13 cX13_allocates 2 none) {ρ' : OM} : ∀ (n : Nat) {x1 : Int32} {ρ : OM}, f_X13_allocates_38  n x1 ρ = some ρ' → ∀ {u : SM} {H : Heap} {locs : List Loc} {ls : Array Slot}, u 20 = ρ → (∀ q, q ≠ 20 → u q = σ q) → Hp E u s H locs → lv_has ls 2 [(0, .ref (adr E 20 0)), (1, .int x1)] → W p l e rm_X13_allocates s m args below meth c H locs 0 0 (MQ below (va_Qv (fun u => u 20 = ρ' ∧ ∀ q, q ≠ 20 → u q = σ q) (fun u t => Wu E u t) (eA E)) args s 0 0 (eA E)) (F0 m 38 ls []) := by
  have hx := cx.1.1
  have hb := cx.1.2.1
  intro n
  induction n with
  | zero =>
    intro x1 ρ hf
    exact absurd hf (by simp [f_X13_allocates_38])
  | succ n ih =>
    intro x1 ρ hf u H locs ls e20 fr hp hl
    rw [f_X13_allocates_38] at hf
    refine lv_iload_n hx hb dX13_allocates_38 rfl (lv_at hl 1 rfl) ?_
    refine lv_iconst (v := (-1)) hx hb dX13_allocates_39 (by decide) ?_
    refine lv_icmp_eq (tgt := 67) hx hb dX13_allocates_40 (by decide) (fun c7 => ?_) (fun c7 => ?_)
    · have hf := fp hf c7
      cases hf
      exact r_v cx hp ⟨e20, fr⟩ dX13_allocates_67
    · have hf := fn hf c7
      refine lv_aload_n hx hb dX13_allocates_43 rfl (lv_at hl 0 rfl) ?_
      refine gF_X13_123 e20 hN cx hp dX13_allocates_44 ?_
      refine lv_if_ne (tgt := 55) hx hb dX13_allocates_47 (by decide) (fun c8 => ?_) (fun c8 => ?_)
      · have hf := fn hf c8
        refine lv_aload_n hx hb dX13_allocates_55 rfl (lv_at hl 0 rfl) ?_
        obtain ⟨ρ9, hc, hf⟩ := fb hf
        refine x_v hp (y_V (As := []) (rest := []) cx hp hl (c_X13_steps l hN hT e20 hc) (cw_X13_142 cx (mc := 0) (ms := 0) rfl rfl ⟨by decide, by decide⟩) (rC_X13 hN cx hp) rfl rfl (Nat.le_of_ble_eq_true rfl) dX13_allocates_56 ⟨Nat.zero_le _, Nat.zero_le _⟩) (fun u_c H locs hq hp => ?_)
        obtain ⟨e_0, n_u⟩ := hq
        have e20 := e_0
        have fr : ∀ q, q ≠ 20 → u_c q = σ q := fun q h0 => (n_u q h0).trans (fr q h0)
        obtain ⟨u, rfl⟩ : ∃ z, u_c = z := ⟨_, rfl⟩
        refine lv_aload_n hx hb dX13_allocates_59 rfl (lv_at hl 0 rfl) ?_
        obtain ⟨r10, hc, hf⟩ := fb hf
        refine x_i hp (y_V (As := []) (rest := []) cx hp hl (c_X13_firstUnfinished l hN hT e20 hc) (cw_X13_139 cx (mc := 0) (ms := 0) rfl rfl ⟨by decide, by decide⟩) (rC_X13 hN cx hp) rfl rfl (Nat.le_of_ble_eq_true rfl) dX13_allocates_60 ⟨Nat.zero_le _, Nat.zero_le _⟩) (fun r_c u_c H locs hq hp => ?_)
        obtain ⟨rfl, rfl⟩ := hq
        refine lv_istore_n (lv' := [(1, .int r10), (0, .ref (adr E 20 0))]) hx hb dX13_allocates_63 rfl hl (by decide) rfl (fun ls hl => ?_)
        refine lv_goto (tgt := 38) hx hb dX13_allocates_64 (by decide) ?_
        exact ih  hf e20 fr hp (lv_sub hl [1, 0] rfl)
      · have hf := fp hf c8
        refine lv_aload_n hx hb dX13_allocates_50 rfl (lv_at hl 0 rfl) ?_
        refine lv_iload_n hx hb dX13_allocates_51 rfl (lv_at hl 1 rfl) ?_
        obtain ⟨ρ11, hc, hf⟩ := fb hf
        refine x_v hp (y_V (As := [.int x1]) (rest := []) cx hp hl (c_X13_appends l hN hT e20 hc) (cw_X13_135 cx (mc := 0) (ms := 0) rfl rfl ⟨by decide, by decide⟩) (rC_X13 hN cx hp) rfl rfl (Nat.le_of_ble_eq_true rfl) dX13_allocates_52 ⟨Nat.zero_le _, Nat.zero_le _⟩) (fun u_c H locs hq hp => ?_)
        obtain ⟨e_0, n_u⟩ := hq
        have e20 := e_0
        have fr : ∀ q, q ≠ 20 → u_c q = σ q := fun q h0 => (n_u q h0).trans (fr q h0)
        obtain ⟨u, rfl⟩ : ∃ z, u_c = z := ⟨_, rfl⟩
        refine lv_aload_n hx hb dX13_allocates_55 rfl (lv_at hl 0 rfl) ?_
        obtain ⟨ρ12, hc, hf⟩ := fb hf
        refine x_v hp (y_V (As := []) (rest := []) cx hp hl (c_X13_steps l hN hT e20 hc) (cw_X13_142 cx (mc := 0) (ms := 0) rfl rfl ⟨by decide, by decide⟩) (rC_X13 hN cx hp) rfl rfl (Nat.le_of_ble_eq_true rfl) dX13_allocates_56 ⟨Nat.zero_le _, Nat.zero_le _⟩) (fun u_c H locs hq hp => ?_)
        obtain ⟨e_0, n_u⟩ := hq
        have e20 := e_0
        have fr : ∀ q, q ≠ 20 → u_c q = σ q := fun q h0 => (n_u q h0).trans (fr q h0)
        obtain ⟨u, rfl⟩ : ∃ z, u_c = z := ⟨_, rfl⟩
        refine lv_aload_n hx hb dX13_allocates_59 rfl (lv_at hl 0 rfl) ?_
        obtain ⟨r13, hc, hf⟩ := fb hf
        refine x_i hp (y_V (As := []) (rest := []) cx hp hl (c_X13_firstUnfinished l hN hT e20 hc) (cw_X13_139 cx (mc := 0) (ms := 0) rfl rfl ⟨by decide, by decide⟩) (rC_X13 hN cx hp) rfl rfl (Nat.le_of_ble_eq_true rfl) dX13_allocates_60 ⟨Nat.zero_le _, Nat.zero_le _⟩) (fun r_c u_c H locs hq hp => ?_)
        obtain ⟨rfl, rfl⟩ := hq
        refine lv_istore_n (lv' := [(1, .int r13), (0, .ref (adr E 20 0))]) hx hb dX13_allocates_63 rfl hl (by decide) rfl (fun ls hl => ?_)
        refine lv_goto (tgt := 38) hx hb dX13_allocates_64 (by decide) ?_
        exact ih  hf e20 fr hp (lv_sub hl [1, 0] rfl)
set_option maxRecDepth 100000 in
set_option maxHeartbeats 4000000 in
theorem c_X13_allocates (l : Launch) {E : Ev} (hN : 146 ≤ eN E) (hT : St E) {σ : SM} {ρ : OM} (e20 : σ 20 = ρ)  {ρ' : OM} (hf : f_X13_allocates ρ = some ρ') : Met l yX13_allocates (wC yX13_allocates cX13_allocates 2 none) rm_X13_allocates (va_Pc [.ref (adr E 20 0)] (Wu E σ)) (va_Qv (fun u => u 20 = ρ' ∧ ∀ q, q ≠ 20 → u q = σ q) (fun u t => Wu E u t) (eA E)) 0 0 (eA E) := by
  refine g_entry (lv := [(0, .ref (adr E 20 0))]) (by decide) (Nat.le_of_ble_eq_true rfl) rfl ?_
  intro p e s m below meth c cx hp ls hl
  have hx := cx.1.1
  have hb := cx.1.2.1
  have fr : ∀ q, q ≠ 20 → σ q = σ q := fun _ _ => rfl
  unfold f_X13_allocates at hf
  refine lv_iconst (v := 0) hx hb dX13_allocates_0 (by decide) ?_
  refine lv_istore_n (lv' := [(1, .int 0), (0, .ref (adr E 20 0))]) hx hb dX13_allocates_1 rfl hl (by decide) rfl (fun ls hl => ?_)
  obtain ⟨ρ4, hc, hf⟩ := fb hf
  refine L_X13_allocates_2 l hN hT cx  (fun u H locs ls e20 fr hp hl => ?_) _ hc e20 fr hp (lv_sub hl [1, 0] rfl)
  refine lv_aload_n hx hb dX13_allocates_28 rfl (lv_at hl 0 rfl) ?_
  refine lv_iconst (v := 0) hx hb dX13_allocates_29 (by decide) ?_
  obtain ⟨ρ5, e_l, hf⟩ := fl hf
  refine pF_X13_123 e20 hN cx hp dX13_allocates_30 (fun u H locs e_u n_u hp => ?_)
  have e20 := e_u.trans e_l
  have fr : ∀ q, q ≠ 20 → u q = σ q := fun q h0 => (n_u q h0).trans (fr q h0)
  refine lv_aload_n hx hb dX13_allocates_33 rfl (lv_at hl 0 rfl) ?_
  obtain ⟨r6, hc, hf⟩ := fb hf
  refine x_i hp (y_V (As := []) (rest := []) cx hp hl (c_X13_firstUnfinished l hN hT e20 hc) (cw_X13_139 cx (mc := 0) (ms := 0) rfl rfl ⟨by decide, by decide⟩) (rC_X13 hN cx hp) rfl rfl (Nat.le_of_ble_eq_true rfl) dX13_allocates_34 ⟨Nat.zero_le _, Nat.zero_le _⟩) (fun r_c u_c H locs hq hp => ?_)
  obtain ⟨rfl, rfl⟩ := hq
  refine lv_istore_n (lv' := [(1, .int r6), (0, .ref (adr E 20 0))]) hx hb dX13_allocates_37 rfl hl (by decide) rfl (fun ls hl => ?_)
  exact L_X13_allocates_38 l hN hT cx  _ hf e20 fr hp (lv_sub hl [1, 0] rfl)
abbrev rm_X13_assigns : Room := { frames := 1, cells := 0, slots := 0, locals := 23 }
set_option maxRecDepth 100000 in
set_option maxHeartbeats 4000000 in
theorem c_X13_assigns (l : Launch) {E : Ev} (hN : 146 ≤ eN E) (hT : St E) {σ : SM} {ρ : OM} (e20 : σ 20 = ρ) {p1 : Int32} {p2 : Int32} {rv : Int32} {ρ' : OM} (hf : f_X13_assigns p1 p2 ρ = some (rv, ρ')) : Met l yX13_assigns (wC yX13_assigns cX13_assigns 4 (some .int)) rm_X13_assigns (va_Pc [.ref (adr E 20 0), .int p1, .int p2] (Wu E σ)) (va_Qi (fun r u => rv = r ∧ u 20 = ρ' ∧ ∀ q, q ≠ 20 → u q = σ q) (fun u t => Wu E u t) (eA E)) 0 0 (eA E) := by
  refine g_entry (lv := [(0, .ref (adr E 20 0)), (1, .int p1), (2, .int p2)]) (by decide) (Nat.le_of_ble_eq_true rfl) rfl ?_
  intro p e s m below meth c cx hp ls hl
  have hx := cx.1.1
  have hb := cx.1.2.1
  have fr : ∀ q, q ≠ 20 → σ q = σ q := fun _ _ => rfl
  unfold f_X13_assigns at hf
  refine lv_aload_n hx hb dX13_assigns_0 rfl (lv_at hl 0 rfl) ?_
  refine lv_iload_n hx hb dX13_assigns_1 rfl (lv_at hl 1 rfl) ?_
  refine lv_iconst (v := 3) hx hb dX13_assigns_2 (by decide) ?_
  obtain ⟨r1, hc, hf⟩ := fb hf
  refine x_i hp (y_V (As := [.int p1, .int 3]) (rest := []) cx hp hl (c_X13_of l hN hT e20 hc) (cw_X13_98 cx (mc := 0) (ms := 0) rfl rfl ⟨by decide, by decide⟩) (rC_X13 hN cx hp) rfl rfl (Nat.le_of_ble_eq_true rfl) dX13_assigns_3 ⟨Nat.zero_le _, Nat.zero_le _⟩) (fun r_c u_c H locs hq hp => ?_)
  obtain ⟨rfl, rfl⟩ := hq
  refine lv_istore_n (lv' := [(3, .int r1), (0, .ref (adr E 20 0)), (1, .int p1), (2, .int p2)]) hx hb dX13_assigns_6 rfl hl (by decide) rfl (fun ls hl => ?_)
  refine lv_aload_n hx hb dX13_assigns_7 rfl (lv_at hl 1 rfl) ?_
  refine lv_iload_n hx hb dX13_assigns_8 rfl (lv_at hl 2 rfl) ?_
  refine lv_iconst (v := 3) hx hb dX13_assigns_9 (by decide) ?_
  refine lv_iload_n hx hb dX13_assigns_10 rfl (lv_at hl 3 rfl) ?_
  obtain ⟨ρ2, hc, hf⟩ := fb hf
  refine x_v hp (y_V (As := [.int p1, .int 3, .int p2]) (rest := []) cx hp hl (c_X13_sets l hN hT e20 hc) (cw_X13_145 cx (mc := 0) (ms := 0) rfl rfl ⟨by decide, by decide⟩) (rC_X13 hN cx hp) rfl rfl (Nat.le_of_ble_eq_true rfl) dX13_assigns_11 ⟨Nat.zero_le _, Nat.zero_le _⟩) (fun u_c H locs hq hp => ?_)
  obtain ⟨e_0, n_u⟩ := hq
  have e20 := e_0
  have fr : ∀ q, q ≠ 20 → u_c q = σ q := fun q h0 => (n_u q h0).trans (fr q h0)
  obtain ⟨u, rfl⟩ : ∃ z, u_c = z := ⟨_, rfl⟩
  refine lv_iload_n hx hb dX13_assigns_14 rfl (lv_at hl 0 rfl) ?_
  cases hf
  exact r_i cx hp ⟨rfl, e20, fr⟩ dX13_assigns_15
abbrev rm_X13_canAssign : Room := { frames := 2, cells := 0, slots := 0, locals := 44 }
set_option maxRecDepth 100000 in
set_option maxHeartbeats 4000000 in
theorem c_X13_canAssign (l : Launch) {E : Ev} (hN : 146 ≤ eN E) (hT : St E) {σ : SM} {ρ : OM} (e20 : σ 20 = ρ) {p1 : Int32} {p2 : Int32} {rv : Int32} (hf : f_X13_canAssign p1 p2 ρ = some rv) : Met l yX13_canAssign (wC yX13_canAssign cX13_canAssign 3 (some .boolean)) rm_X13_canAssign (va_Pc [.ref (adr E 20 0), .int p1, .int p2] (Wu E σ)) (va_Qi (fun r u => rv = r ∧ σ = u) (fun u t => Wu E u t) (eA E)) 0 0 (eA E) := by
  refine g_entry (lv := [(0, .ref (adr E 20 0)), (1, .int p1), (2, .int p2)]) (by decide) (Nat.le_of_ble_eq_true rfl) rfl ?_
  intro p e s m below meth c cx hp ls hl
  have hx := cx.1.1
  have hb := cx.1.2.1
  have fr : ∀ q, σ q = σ q := fun _ => rfl
  unfold f_X13_canAssign at hf
  refine lv_aload_n hx hb dX13_canAssign_0 rfl (lv_at hl 0 rfl) ?_
  refine lv_iload_n hx hb dX13_canAssign_1 rfl (lv_at hl 2 rfl) ?_
  obtain ⟨r1, hc, hf⟩ := fb hf
  refine x_i hp (y_V (As := [.int p2]) (rest := []) cx hp hl (c_X13_occupant l hN hT e20 hc) (cw_X13_115 cx (mc := 0) (ms := 0) rfl rfl ⟨by decide, by decide⟩) (rC_X13 hN cx hp) rfl rfl (Nat.le_of_ble_eq_true rfl) dX13_canAssign_2 ⟨Nat.zero_le _, Nat.zero_le _⟩) (fun r_c u_c H locs hq hp => ?_)
  obtain ⟨rfl, rfl⟩ := hq
  refine lv_iconst (v := (-1)) hx hb dX13_canAssign_5 (by decide) ?_
  refine lv_icmp_ne (tgt := 27) hx hb dX13_canAssign_6 (by decide) (fun c2 => ?_) (fun c2 => ?_)
  · have hf := fn hf c2
    refine lv_iconst (v := 0) hx hb dX13_canAssign_27 (by decide) ?_
    cases hf
    exact r_z cx hp rfl ⟨rfl, (funext fr).symm⟩ dX13_canAssign_28
  · have hf := fp hf c2
    refine lv_aload_n hx hb dX13_canAssign_9 rfl (lv_at hl 0 rfl) ?_
    refine lv_iload_n hx hb dX13_canAssign_10 rfl (lv_at hl 2 rfl) ?_
    obtain ⟨r3, hc, hf⟩ := fb hf
    refine x_i hp (y_V (As := [.int p2]) (rest := []) cx hp hl (c_X13_rentOf l hN hT e20 hc) (cw_X13_149 cx (mc := 0) (ms := 0) rfl rfl ⟨by decide, by decide⟩) (rC_X13 hN cx hp) rfl rfl (Nat.le_of_ble_eq_true rfl) dX13_canAssign_11 ⟨Nat.zero_le _, Nat.zero_le _⟩) (fun r_c u_c H locs hq hp => ?_)
    obtain ⟨rfl, rfl⟩ := hq
    refine lv_aload_n hx hb dX13_canAssign_14 rfl (lv_at hl 0 rfl) ?_
    refine lv_iload_n hx hb dX13_canAssign_15 rfl (lv_at hl 1 rfl) ?_
    refine lv_iconst (v := 1) hx hb dX13_canAssign_16 (by decide) ?_
    obtain ⟨r4, hc, hf⟩ := fb hf
    refine x_i hp (y_V (As := [.int p1, .int 1]) (rest := [.int r3]) cx hp hl (c_X13_of l hN hT e20 hc) (cw_X13_98 cx (mc := 0) (ms := 0) rfl rfl ⟨by decide, by decide⟩) (rC_X13 hN cx hp) rfl rfl (Nat.le_of_ble_eq_true rfl) dX13_canAssign_17 ⟨Nat.zero_le _, Nat.zero_le _⟩) (fun r_c u_c H locs hq hp => ?_)
    obtain ⟨rfl, rfl⟩ := hq
    refine lv_icmp_gt (tgt := 27) hx hb dX13_canAssign_20 (by decide) (fun c5 => ?_) (fun c5 => ?_)
    · have hf := fp hf c5
      refine lv_iconst (v := 0) hx hb dX13_canAssign_27 (by decide) ?_
      cases hf
      exact r_z cx hp rfl ⟨rfl, (funext fr).symm⟩ dX13_canAssign_28
    · have hf := fn hf c5
      refine lv_iconst (v := 1) hx hb dX13_canAssign_23 (by decide) ?_
      refine lv_goto (tgt := 28) hx hb dX13_canAssign_24 (by decide) ?_
      cases hf
      exact r_z cx hp rfl ⟨rfl, (funext fr).symm⟩ dX13_canAssign_28
abbrev rm_X13_swaps : Room := { frames := 1, cells := 0, slots := 0, locals := 23 }
set_option maxRecDepth 100000 in
set_option maxHeartbeats 4000000 in
theorem c_X13_swaps (l : Launch) {E : Ev} (hN : 146 ≤ eN E) (hT : St E) {σ : SM} {ρ : OM} (e20 : σ 20 = ρ) {p1 : Int32} {p2 : Int32} {rv : Int32} {ρ' : OM} (hf : f_X13_swaps p1 p2 ρ = some (rv, ρ')) : Met l yX13_swaps (wC yX13_swaps cX13_swaps 4 (some .int)) rm_X13_swaps (va_Pc [.ref (adr E 20 0), .int p1, .int p2] (Wu E σ)) (va_Qi (fun r u => rv = r ∧ u 20 = ρ' ∧ ∀ q, q ≠ 20 → u q = σ q) (fun u t => Wu E u t) (eA E)) 0 0 (eA E) := by
  refine g_entry (lv := [(0, .ref (adr E 20 0)), (1, .int p1), (2, .int p2)]) (by decide) (Nat.le_of_ble_eq_true rfl) rfl ?_
  intro p e s m below meth c cx hp ls hl
  have hx := cx.1.1
  have hb := cx.1.2.1
  have fr : ∀ q, q ≠ 20 → σ q = σ q := fun _ _ => rfl
  unfold f_X13_swaps at hf
  refine lv_aload_n hx hb dX13_swaps_0 rfl (lv_at hl 0 rfl) ?_
  refine lv_iload_n hx hb dX13_swaps_1 rfl (lv_at hl 2 rfl) ?_
  refine lv_iconst (v := 3) hx hb dX13_swaps_2 (by decide) ?_
  obtain ⟨r1, hc, hf⟩ := fb hf
  refine x_i hp (y_V (As := [.int p2, .int 3]) (rest := []) cx hp hl (c_X13_of l hN hT e20 hc) (cw_X13_98 cx (mc := 0) (ms := 0) rfl rfl ⟨by decide, by decide⟩) (rC_X13 hN cx hp) rfl rfl (Nat.le_of_ble_eq_true rfl) dX13_swaps_3 ⟨Nat.zero_le _, Nat.zero_le _⟩) (fun r_c u_c H locs hq hp => ?_)
  obtain ⟨rfl, rfl⟩ := hq
  refine lv_istore_n (lv' := [(3, .int r1), (0, .ref (adr E 20 0)), (1, .int p1), (2, .int p2)]) hx hb dX13_swaps_6 rfl hl (by decide) rfl (fun ls hl => ?_)
  refine lv_aload_n hx hb dX13_swaps_7 rfl (lv_at hl 1 rfl) ?_
  refine lv_iload_n hx hb dX13_swaps_8 rfl (lv_at hl 3 rfl) ?_
  refine lv_iconst (v := 3) hx hb dX13_swaps_9 (by decide) ?_
  refine lv_aload_n hx hb dX13_swaps_10 rfl (lv_at hl 1 rfl) ?_
  refine lv_iload_n hx hb dX13_swaps_11 rfl (lv_at hl 2 rfl) ?_
  refine lv_iconst (v := 3) hx hb dX13_swaps_12 (by decide) ?_
  obtain ⟨r2, hc, hf⟩ := fb hf
  refine x_i hp (y_V (As := [.int p1, .int 3]) (rest := [.int 3, .int p2, .ref (adr E 20 0)]) cx hp hl (c_X13_of l hN hT e20 hc) (cw_X13_98 cx (mc := 0) (ms := 0) rfl rfl ⟨by decide, by decide⟩) (rC_X13 hN cx hp) rfl rfl (Nat.le_of_ble_eq_true rfl) dX13_swaps_13 ⟨Nat.zero_le _, Nat.zero_le _⟩) (fun r_c u_c H locs hq hp => ?_)
  obtain ⟨rfl, rfl⟩ := hq
  obtain ⟨ρ3, hc, hf⟩ := fb hf
  refine x_v hp (y_V (As := [.int p2, .int 3, .int r2]) (rest := []) cx hp hl (c_X13_sets l hN hT e20 hc) (cw_X13_145 cx (mc := 0) (ms := 0) rfl rfl ⟨by decide, by decide⟩) (rC_X13 hN cx hp) rfl rfl (Nat.le_of_ble_eq_true rfl) dX13_swaps_16 ⟨Nat.zero_le _, Nat.zero_le _⟩) (fun u_c H locs hq hp => ?_)
  obtain ⟨e_0, n_u⟩ := hq
  have e20 := e_0
  have fr : ∀ q, q ≠ 20 → u_c q = σ q := fun q h0 => (n_u q h0).trans (fr q h0)
  obtain ⟨u, rfl⟩ : ∃ z, u_c = z := ⟨_, rfl⟩
  refine lv_aload_n hx hb dX13_swaps_19 rfl (lv_at hl 1 rfl) ?_
  refine lv_iload_n hx hb dX13_swaps_20 rfl (lv_at hl 2 rfl) ?_
  refine lv_iconst (v := 3) hx hb dX13_swaps_21 (by decide) ?_
  refine lv_iload_n hx hb dX13_swaps_22 rfl (lv_at hl 0 rfl) ?_
  obtain ⟨ρ4, hc, hf⟩ := fb hf
  refine x_v hp (y_V (As := [.int p1, .int 3, .int r1]) (rest := []) cx hp hl (c_X13_sets l hN hT e20 hc) (cw_X13_145 cx (mc := 0) (ms := 0) rfl rfl ⟨by decide, by decide⟩) (rC_X13 hN cx hp) rfl rfl (Nat.le_of_ble_eq_true rfl) dX13_swaps_23 ⟨Nat.zero_le _, Nat.zero_le _⟩) (fun u_c H locs hq hp => ?_)
  obtain ⟨e_0, n_u⟩ := hq
  have e20 := e_0
  have fr : ∀ q, q ≠ 20 → u_c q = σ q := fun q h0 => (n_u q h0).trans (fr q h0)
  obtain ⟨u, rfl⟩ : ∃ z, u_c = z := ⟨_, rfl⟩
  refine lv_aload_n hx hb dX13_swaps_26 rfl (lv_at hl 1 rfl) ?_
  refine gF_X13_7 rfl hN cx hp dX13_swaps_27 ?_
  refine lv_iconst (v := 5) hx hb dX13_swaps_30 (by decide) ?_
  refine lv_dup2_11 hx hb dX13_swaps_31 rfl rfl ?_
  obtain ⟨g_i, hf⟩ := fg hf
  refine lA_X13_1 e20 hN cx hp g_i dX13_swaps_32 ?_
  refine lv_iconst (v := 1) hx hb dX13_swaps_33 (by decide) ?_
  refine lv_iadd hx hb dX13_swaps_34 ?_
  obtain ⟨g_i, hf⟩ := fg hf
  obtain ⟨ρ5, e_l, hf⟩ := fl hf
  refine sA_X13_1 e20 hN cx hp g_i dX13_swaps_35 (fun u H locs e_u n_u hp => ?_)
  have e20 := e_u.trans e_l
  have fr : ∀ q, q ≠ 20 → u q = σ q := fun q h0 => (n_u q h0).trans (fr q h0)
  refine lv_iload_n hx hb dX13_swaps_36 rfl (lv_at hl 0 rfl) ?_
  cases hf
  exact r_i cx hp ⟨rfl, e20, fr⟩ dX13_swaps_37
abbrev rm_X13_reallocates : Room := { frames := 4, cells := 0, slots := 0, locals := 90 }
set_option maxRecDepth 100000 in
set_option maxHeartbeats 4000000 in
theorem L_X13_reallocates_8 {p : Program} {e : Env} {s : State} {m : MethodId} {args : Array Value} {below : List Frame} {meth : Method} {c : Code} (l : Launch) {E : Ev} (hN : 146 ≤ eN E) (hT : St E) {σ : SM} {Q : State → Prop} (cx : Cx E p s m meth c args RX13 cX13_reallocates 4 (some .int)) {z1 : Int32} {ρ' : OM} (K : ∀ (u : SM) (H : Heap) (locs : List Loc) (ls : Array Slot), u 20 = ρ' → (∀ q, q ≠ 20 → u q = σ q) → Hp E u s H locs → lv_has ls 4 [(0, .ref (adr E 20 0)), (1, .int z1)] → W p l e rm_X13_reallocates s m args below meth c H locs 0 0 Q (F0 m 86 ls [])) : ∀ (n : Nat) {x2 : Int32} {x1 : Int32} {ρ : OM}, f_X13_reallocates_8  n x2 x1 ρ = some (z1, ρ') → ∀ {u : SM} {H : Heap} {locs : List Loc} {ls : Array Slot}, u 20 = ρ → (∀ q, q ≠ 20 → u q = σ q) → Hp E u s H locs → lv_has ls 4 [(0, .ref (adr E 20 0)), (1, .int x1), (2, .int x2)] → W p l e rm_X13_reallocates s m args below meth c H locs 0 0 Q (F0 m 8 ls []) := by
  have hx := cx.1.1
  have hb := cx.1.2.1
  intro n
  induction n with
  | zero =>
    intro x2 x1 ρ hf
    exact absurd hf (by simp [f_X13_reallocates_8])
  | succ n ih =>
    intro x2 x1 ρ hf u H locs ls e20 fr hp hl
    rw [f_X13_reallocates_8] at hf
    refine lv_iload_n hx hb dX13_reallocates_8 rfl (lv_at hl 2 rfl) ?_
    refine lv_aload_n hx hb dX13_reallocates_9 rfl (lv_at hl 0 rfl) ?_
    refine gF_X13_7 rfl hN cx hp dX13_reallocates_10 ?_
    refine lv_iconst (v := 0) hx hb dX13_reallocates_13 (by decide) ?_
    obtain ⟨g_i, hf⟩ := fg hf
    refine lA_X13_1 e20 hN cx hp g_i dX13_reallocates_14 ?_
    refine lv_icmp_ge (tgt := 86) hx hb dX13_reallocates_15 (by decide) (fun c2 => ?_) (fun c2 => ?_)
    · have hf := fp hf c2
      cases hf
      exact K _ _ _ _ e20 fr hp (lv_sub hl [0, 1] rfl)
    · have hf := fn hf c2
      refine lv_aload_n hx hb dX13_reallocates_18 rfl (lv_at hl 0 rfl) ?_
      refine gF_X13_41 rfl hN cx hp dX13_reallocates_19 ?_
      refine lv_iload_n hx hb dX13_reallocates_22 rfl (lv_at hl 2 rfl) ?_
      obtain ⟨g_i, hf⟩ := fg hf
      refine lA_X13_10 e20 hN cx hp g_i dX13_reallocates_23 ?_
      refine lv_aload_n hx hb dX13_reallocates_24 rfl (lv_at hl 0 rfl) ?_
      refine lv_iload_n hx hb dX13_reallocates_25 rfl (lv_at hl 2 rfl) ?_
      refine lv_iconst (v := 3) hx hb dX13_reallocates_26 (by decide) ?_
      obtain ⟨r3, hc, hf⟩ := fb hf
      refine x_i hp (y_V (As := [.int x2, .int 3]) (rest := [.int (ρ.1 10 (Int32.toNatClampNeg x2))]) cx hp hl (c_X13_of l hN hT e20 hc) (cw_X13_98 cx (mc := 0) (ms := 0) rfl rfl ⟨by decide, by decide⟩) (rC_X13 hN cx hp) rfl rfl (Nat.le_of_ble_eq_true rfl) dX13_reallocates_27 ⟨Nat.zero_le _, Nat.zero_le _⟩) (fun r_c u_c H locs hq hp => ?_)
      obtain ⟨rfl, rfl⟩ := hq
      refine lv_icmp_eq (tgt := 37) hx hb dX13_reallocates_30 (by decide) (fun c4 => ?_) (fun c4 => ?_)
      · have hf := fp hf c4
        refine lv_iconst (v := 0) hx hb dX13_reallocates_37 (by decide) ?_
        refine lv_istore_n (lv' := [(3, .int 0), (0, .ref (adr E 20 0)), (1, .int x1), (2, .int x2)]) hx hb dX13_reallocates_38 rfl hl (by decide) rfl (fun ls hl => ?_)
        refine lv_iload_n hx hb dX13_reallocates_39 rfl (lv_at hl 2 rfl) ?_
        refine lv_iload_n hx hb dX13_reallocates_40 rfl (lv_at hl 0 rfl) ?_
        refine lv_if_eq (tgt := 48) hx hb dX13_reallocates_41 (by decide) (fun _ => ?_) (fun c_x => absurd (by decide) c_x)
        refine lv_iconst (v := 0) hx hb dX13_reallocates_48 (by decide) ?_
        refine lv_iadd hx hb dX13_reallocates_49 ?_
        obtain ⟨i6, x_e, hf⟩ := fl hf
        refine lv_nm x_e ?_
        refine lv_istore_n (lv' := [(1, .int i6), (3, .int 0), (0, .ref (adr E 20 0)), (2, .int x2)]) hx hb dX13_reallocates_50 rfl hl (by decide) rfl (fun ls hl => ?_)
        refine lv_aload_n hx hb dX13_reallocates_51 rfl (lv_at hl 2 rfl) ?_
        refine gF_X13_7 rfl hN cx hp dX13_reallocates_52 ?_
        refine lv_bipush (v := 6) hx hb dX13_reallocates_55 (by decide) ?_
        refine lv_dup2_11 hx hb dX13_reallocates_57 rfl rfl ?_
        obtain ⟨g_i, hf⟩ := fg hf
        refine lA_X13_1 e20 hN cx hp g_i dX13_reallocates_58 ?_
        refine lv_iload_n hx hb dX13_reallocates_59 rfl (lv_at hl 1 rfl) ?_
        refine lv_if_eq (tgt := 77) hx hb dX13_reallocates_60 (by decide) (fun _ => ?_) (fun c_x => absurd (by decide) c_x)
        refine lv_iconst (v := 0) hx hb dX13_reallocates_77 (by decide) ?_
        refine lv_iadd hx hb dX13_reallocates_78 ?_
        obtain ⟨g_i, hf⟩ := fg hf
        obtain ⟨ρ8, e_l, hf⟩ := fl hf
        refine sA_X13_1 e20 hN cx hp g_i dX13_reallocates_79 (fun u H locs e_u n_u hp => ?_)
        have e20 := e_u.trans e_l
        have fr : ∀ q, q ≠ 20 → u q = σ q := fun q h0 => (n_u q h0).trans (fr q h0)
        refine lv_iinc (v := (x2 + 1)) (lv' := [(2, .int (x2 + 1)), (1, .int i6), (3, .int 0), (0, .ref (adr E 20 0))]) hx hb dX13_reallocates_80 hl (k := 3) rfl rfl (by decide) rfl (fun ls hl => ?_)
        refine lv_goto (tgt := 8) hx hb dX13_reallocates_83 (by decide) ?_
        exact ih  hf e20 fr hp (lv_sub hl [3, 1, 0] rfl)
      · have hf := fn hf c4
        refine lv_iconst (v := 1) hx hb dX13_reallocates_33 (by decide) ?_
        refine lv_goto (tgt := 38) hx hb dX13_reallocates_34 (by decide) ?_
        refine lv_istore_n (lv' := [(3, .int 1), (0, .ref (adr E 20 0)), (1, .int x1), (2, .int x2)]) hx hb dX13_reallocates_38 rfl hl (by decide) rfl (fun ls hl => ?_)
        refine lv_iload_n hx hb dX13_reallocates_39 rfl (lv_at hl 2 rfl) ?_
        refine lv_iload_n hx hb dX13_reallocates_40 rfl (lv_at hl 0 rfl) ?_
        refine lv_if_eq (tgt := 48) hx hb dX13_reallocates_41 (by decide) (fun c_x => absurd c_x (by decide)) (fun _ => ?_)
        refine lv_iconst (v := 1) hx hb dX13_reallocates_44 (by decide) ?_
        refine lv_goto (tgt := 49) hx hb dX13_reallocates_45 (by decide) ?_
        refine lv_iadd hx hb dX13_reallocates_49 ?_
        obtain ⟨i10, x_e, hf⟩ := fl hf
        refine lv_nm x_e ?_
        refine lv_istore_n (lv' := [(1, .int i10), (3, .int 1), (0, .ref (adr E 20 0)), (2, .int x2)]) hx hb dX13_reallocates_50 rfl hl (by decide) rfl (fun ls hl => ?_)
        refine lv_aload_n hx hb dX13_reallocates_51 rfl (lv_at hl 2 rfl) ?_
        refine gF_X13_7 rfl hN cx hp dX13_reallocates_52 ?_
        refine lv_bipush (v := 6) hx hb dX13_reallocates_55 (by decide) ?_
        refine lv_dup2_11 hx hb dX13_reallocates_57 rfl rfl ?_
        obtain ⟨g_i, hf⟩ := fg hf
        refine lA_X13_1 e20 hN cx hp g_i dX13_reallocates_58 ?_
        refine lv_iload_n hx hb dX13_reallocates_59 rfl (lv_at hl 1 rfl) ?_
        refine lv_if_eq (tgt := 77) hx hb dX13_reallocates_60 (by decide) (fun c_x => absurd c_x (by decide)) (fun _ => ?_)
        refine lv_aload_n hx hb dX13_reallocates_63 rfl (lv_at hl 2 rfl) ?_
        refine gF_X13_41 rfl hN cx hp dX13_reallocates_64 ?_
        refine lv_iload_n hx hb dX13_reallocates_67 rfl (lv_at hl 3 rfl) ?_
        obtain ⟨g_i, hf⟩ := fg hf
        refine lA_X13_10 e20 hN cx hp g_i dX13_reallocates_68 ?_
        refine lv_iconst (v := (-1)) hx hb dX13_reallocates_69 (by decide) ?_
        refine lv_icmp_eq (tgt := 77) hx hb dX13_reallocates_70 (by decide) (fun c12 => ?_) (fun c12 => ?_)
        · have hf := fp hf c12
          refine lv_iconst (v := 0) hx hb dX13_reallocates_77 (by decide) ?_
          refine lv_iadd hx hb dX13_reallocates_78 ?_
          obtain ⟨g_i, hf⟩ := fg hf
          obtain ⟨ρ13, e_l, hf⟩ := fl hf
          refine sA_X13_1 e20 hN cx hp g_i dX13_reallocates_79 (fun u H locs e_u n_u hp => ?_)
          have e20 := e_u.trans e_l
          have fr : ∀ q, q ≠ 20 → u q = σ q := fun q h0 => (n_u q h0).trans (fr q h0)
          refine lv_iinc (v := (x2 + 1)) (lv' := [(2, .int (x2 + 1)), (1, .int i10), (3, .int 1), (0, .ref (adr E 20 0))]) hx hb dX13_reallocates_80 hl (k := 3) rfl rfl (by decide) rfl (fun ls hl => ?_)
          refine lv_goto (tgt := 8) hx hb dX13_reallocates_83 (by decide) ?_
          exact ih  hf e20 fr hp (lv_sub hl [3, 1, 0] rfl)
        · have hf := fn hf c12
          refine lv_iconst (v := 1) hx hb dX13_reallocates_73 (by decide) ?_
          refine lv_goto (tgt := 78) hx hb dX13_reallocates_74 (by decide) ?_
          refine lv_iadd hx hb dX13_reallocates_78 ?_
          obtain ⟨g_i, hf⟩ := fg hf
          obtain ⟨ρ14, e_l, hf⟩ := fl hf
          refine sA_X13_1 e20 hN cx hp g_i dX13_reallocates_79 (fun u H locs e_u n_u hp => ?_)
          have e20 := e_u.trans e_l
          have fr : ∀ q, q ≠ 20 → u q = σ q := fun q h0 => (n_u q h0).trans (fr q h0)
          refine lv_iinc (v := (x2 + 1)) (lv' := [(2, .int (x2 + 1)), (1, .int i10), (3, .int 1), (0, .ref (adr E 20 0))]) hx hb dX13_reallocates_80 hl (k := 3) rfl rfl (by decide) rfl (fun ls hl => ?_)
          refine lv_goto (tgt := 8) hx hb dX13_reallocates_83 (by decide) ?_
          exact ih  hf e20 fr hp (lv_sub hl [3, 1, 0] rfl)
set_option maxRecDepth 100000 in
set_option maxHeartbeats 4000000 in
theorem L_X13_reallocates_88 {p : Program} {e : Env} {s : State} {m : MethodId} {args : Array Value} {below : List Frame} {meth : Method} {c : Code} (l : Launch) {E : Ev} (hN : 146 ≤ eN E) (hT : St E) {σ : SM} (cx : Cx E p s m meth c args RX13 cX13_reallocates 4 (some .int)) {x1 : Int32} {rv : Int32} {ρ' : OM} : ∀ (n : Nat) {x2 : Int32} {ρ : OM}, f_X13_reallocates_88 x1 n x2 ρ = some (rv, ρ') → ∀ {u : SM} {H : Heap} {locs : List Loc} {ls : Array Slot}, u 20 = ρ → (∀ q, q ≠ 20 → u q = σ q) → Hp E u s H locs → lv_has ls 4 [(0, .ref (adr E 20 0)), (1, .int x1), (2, .int x2)] → W p l e rm_X13_reallocates s m args below meth c H locs 0 0 (MQ below (va_Qi (fun r u => rv = r ∧ u 20 = ρ' ∧ ∀ q, q ≠ 20 → u q = σ q) (fun u t => Wu E u t) (eA E)) args s 0 0 (eA E)) (F0 m 88 ls []) := by
  have hx := cx.1.1
  have hb := cx.1.2.1
  intro n
  induction n with
  | zero =>
    intro x2 ρ hf
    exact absurd hf (by simp [f_X13_reallocates_88])
  | succ n ih =>
    intro x2 ρ hf u H locs ls e20 fr hp hl
    rw [f_X13_reallocates_88] at hf
    refine lv_iload_n hx hb dX13_reallocates_88 rfl (lv_at hl 2 rfl) ?_
    refine lv_aload_n hx hb dX13_reallocates_89 rfl (lv_at hl 0 rfl) ?_
    refine gF_X13_7 rfl hN cx hp dX13_reallocates_90 ?_
    refine lv_iconst (v := 0) hx hb dX13_reallocates_93 (by decide) ?_
    obtain ⟨g_i, hf⟩ := fg hf
    refine lA_X13_1 e20 hN cx hp g_i dX13_reallocates_94 ?_
    refine lv_icmp_ge (tgt := 116) hx hb dX13_reallocates_95 (by decide) (fun c17 => ?_) (fun c17 => ?_)
    · have hf := fp hf c17
      refine lv_iload_n hx hb dX13_reallocates_116 rfl (lv_at hl 1 rfl) ?_
      cases hf
      exact r_i cx hp ⟨rfl, e20, fr⟩ dX13_reallocates_117
    · have hf := fn hf c17
      refine lv_aload_n hx hb dX13_reallocates_98 rfl (lv_at hl 0 rfl) ?_
      refine lv_iload_n hx hb dX13_reallocates_99 rfl (lv_at hl 2 rfl) ?_
      refine lv_iconst (v := 3) hx hb dX13_reallocates_100 (by decide) ?_
      refine lv_aload_n hx hb dX13_reallocates_101 rfl (lv_at hl 0 rfl) ?_
      refine gF_X13_41 rfl hN cx hp dX13_reallocates_102 ?_
      refine lv_iload_n hx hb dX13_reallocates_105 rfl (lv_at hl 2 rfl) ?_
      obtain ⟨g_i, hf⟩ := fg hf
      refine lA_X13_10 e20 hN cx hp g_i dX13_reallocates_106 ?_
      obtain ⟨ρ18, hc, hf⟩ := fb hf
      refine x_v hp (y_V (As := [.int x2, .int 3, .int (ρ.1 10 (Int32.toNatClampNeg x2))]) (rest := []) cx hp hl (c_X13_sets l hN hT e20 hc) (cw_X13_145 cx (mc := 0) (ms := 0) rfl rfl ⟨by decide, by decide⟩) (rC_X13 hN cx hp) rfl rfl (Nat.le_of_ble_eq_true rfl) dX13_reallocates_107 ⟨Nat.zero_le _, Nat.zero_le _⟩) (fun u_c H locs hq hp => ?_)
      obtain ⟨e_0, n_u⟩ := hq
      have e20 := e_0
      have fr : ∀ q, q ≠ 20 → u_c q = σ q := fun q h0 => (n_u q h0).trans (fr q h0)
      obtain ⟨u, rfl⟩ : ∃ z, u_c = z := ⟨_, rfl⟩
      refine lv_iinc (v := (x2 + 1)) (lv' := [(2, .int (x2 + 1)), (0, .ref (adr E 20 0)), (1, .int x1)]) hx hb dX13_reallocates_110 hl (k := 2) rfl rfl (by decide) rfl (fun ls hl => ?_)
      refine lv_goto (tgt := 88) hx hb dX13_reallocates_113 (by decide) ?_
      exact ih  hf e20 fr hp (lv_sub hl [1, 2, 0] rfl)
set_option maxRecDepth 100000 in
set_option maxHeartbeats 4000000 in
theorem c_X13_reallocates (l : Launch) {E : Ev} (hN : 146 ≤ eN E) (hT : St E) {σ : SM} {ρ : OM} (e20 : σ 20 = ρ)  {rv : Int32} {ρ' : OM} (hf : f_X13_reallocates ρ = some (rv, ρ')) : Met l yX13_reallocates (wC yX13_reallocates cX13_reallocates 4 (some .int)) rm_X13_reallocates (va_Pc [.ref (adr E 20 0)] (Wu E σ)) (va_Qi (fun r u => rv = r ∧ u 20 = ρ' ∧ ∀ q, q ≠ 20 → u q = σ q) (fun u t => Wu E u t) (eA E)) 0 0 (eA E) := by
  refine g_entry (lv := [(0, .ref (adr E 20 0))]) (by decide) (Nat.le_of_ble_eq_true rfl) rfl ?_
  intro p e s m below meth c cx hp ls hl
  have hx := cx.1.1
  have hb := cx.1.2.1
  have fr : ∀ q, q ≠ 20 → σ q = σ q := fun _ _ => rfl
  unfold f_X13_reallocates at hf
  refine lv_aload_n hx hb dX13_reallocates_0 rfl (lv_at hl 0 rfl) ?_
  obtain ⟨ρ1, hc, hf⟩ := fb hf
  refine x_v hp (y_V (As := []) (rest := []) cx hp hl (c_X13_allocates l hN hT e20 hc) (cw_X13_152 cx (mc := 0) (ms := 0) rfl rfl ⟨by decide, by decide⟩) (rC_X13 hN cx hp) rfl rfl (Nat.le_of_ble_eq_true rfl) dX13_reallocates_1 ⟨Nat.zero_le _, Nat.zero_le _⟩) (fun u_c H locs hq hp => ?_)
  obtain ⟨e_0, n_u⟩ := hq
  have e20 := e_0
  have fr : ∀ q, q ≠ 20 → u_c q = σ q := fun q h0 => (n_u q h0).trans (fr q h0)
  obtain ⟨u, rfl⟩ : ∃ z, u_c = z := ⟨_, rfl⟩
  refine lv_iconst (v := 0) hx hb dX13_reallocates_4 (by decide) ?_
  refine lv_istore_n (lv' := [(1, .int 0), (0, .ref (adr E 20 0))]) hx hb dX13_reallocates_5 rfl hl (by decide) rfl (fun ls hl => ?_)
  refine lv_iconst (v := 0) hx hb dX13_reallocates_6 (by decide) ?_
  refine lv_istore_n (lv' := [(2, .int 0), (1, .int 0), (0, .ref (adr E 20 0))]) hx hb dX13_reallocates_7 rfl hl (by decide) rfl (fun ls hl => ?_)
  obtain ⟨i15, ρ16, hc, hf⟩ := fb2 hf
  refine L_X13_reallocates_8 l hN hT cx  (fun u H locs ls e20 fr hp hl => ?_) _ hc e20 fr hp (lv_sub hl [2, 1, 0] rfl)
  refine lv_iconst (v := 0) hx hb dX13_reallocates_86 (by decide) ?_
  refine lv_istore_n (lv' := [(2, .int 0), (0, .ref (adr E 20 0)), (1, .int i15)]) hx hb dX13_reallocates_87 rfl hl (by decide) rfl (fun ls hl => ?_)
  exact L_X13_reallocates_88 l hN hT cx  _ hf e20 fr hp (lv_sub hl [1, 2, 0] rfl)

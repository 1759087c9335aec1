/-! the setup is loaded, and Own has begun -/
section LOD
variable {S T : Nat} {β τ μ π ω : OM} {σ : SM}
theorem read_ok {pad : Nat} (hS : 1 ≤ S) (hS7 : S ≤ 7) (hT : 1 ≤ T) (hT7 : T ≤ 7) (h : BQ S T S ω) (hat : AT β 0 (sBw 6 ++ stalls (ω.1 2) T ++ sellers ω S ++ sp pad)) : ∃ μ' π' τ', f_X9_read μ π τ β = some (nI 1, μ', π', τ') ∧ PL T ω μ' S := by
  obtain ⟨T', rfl⟩ : ∃ q, T = q + 1 := ⟨T - 1, by omega⟩
  obtain ⟨S', rfl⟩ : ∃ q, S = q + 1 := ⟨S - 1, by omega⟩
  have hz : NX β (remE ω (S' + 1) 0 (sp pad)) (fun τ' => TW β τ' (sBw 4) (tlE ω 0 (remE ω S' 1 (sp pad)))) := nx_w (k := 0) (fun q => by have := sB_ln.2.2.2.2.2.2.2.2; rw [q] at this; cases this) (sB_let 4 (by omega) (by omega)) (nh_sp (by decide)) (by rw [sB_ln.2.2.2.2.2.2.2.2]; omega)
  have hy : NX β (remS (ω.1 2) (T' + 1) 0 (remE ω (S' + 1) 0 (sp pad))) (fun τ' => TW β τ' (sBw 2) (tlS (ω.1 2) 0 (remS (ω.1 2) T' 1 (remE ω (S' + 1) 0 (sp pad))))) := nx_w (k := 0) (fun q => by have := sB_ln.2.2.2.2.2.2.1; rw [q] at this; cases this) (sB_let 2 (by omega) (by omega)) (nh_sp (by decide)) (by rw [sB_ln.2.2.2.2.2.2.1]; omega)
  have hx : NX β (sp 0 ++ (sBw 1 ++ (sp 0 ++ 59 :: remS (ω.1 2) (T' + 1) 0 (remE ω (S' + 1) 0 (sp pad))))) (fun τ' => TW β τ' (sBw 1) (sp 0 ++ 59 :: remS (ω.1 2) (T' + 1) 0 (remE ω (S' + 1) 0 (sp pad)))) := nx_w (fun q => by have := sB_ln.2.2.2.2.2.1; rw [q] at this; cases this) (sB_let 1 (by omega) (by omega)) (nh_c (by decide)) (by rw [sB_ln.2.2.2.2.2.1]; omega)
  have e1 := remS_eq (ω.1 2) (remE ω (S' + 1) 0 (sp pad)) (T' + 1) 0
  have e2 := remE_eq ω (sp pad) (S' + 1) 0
  rw [Nat.zero_add] at e1 e2
  have e3 : sBw 6 ++ stalls (ω.1 2) (T' + 1) ++ sellers ω (S' + 1) ++ sp pad = sp 0 ++ (sBw 1 ++ (sp 0 ++ 59 :: remS (ω.1 2) (T' + 1) 0 (remE ω (S' + 1) 0 (sp pad)))) := by
    rw [sB_eq.2.2.2.1, List.append_assoc, List.append_assoc, ← e2, show sellers ω 0 ++ remE ω (S' + 1) 0 (sp pad) = remE ω (S' + 1) 0 (sp pad) from rfl, ← e1, show stalls (ω.1 2) 0 ++ remS (ω.1 2) (T' + 1) 0 (remE ω (S' + 1) 0 (sp pad)) = remS (ω.1 2) (T' + 1) 0 (remE ω (S' + 1) 0 (sp pad)) from rfl]
    simp [sp]
  rw [e3] at hat
  obtain ⟨τ1, a1, a2⟩ := hx (wI τ 0 3 (nI 0)) 0 (by rw [q_wIs, pk_us]) hat
  have hbeg : f_X7_begin π τ β = some (wI (wI π 0 1 (nI 0)) 0 2 m1, τ1) := by
    simp (maxSteps := 2000000) (disch := first | rfl | exact q_e1 _ _ _ | exact q_sr1 _ _ | omega) only [f_X7_begin, f_X10_rewind, a1, ↓q_m1, q_l0, q_l1, q_l2, q_l3, q_l4, q_l5, q_l6, q_l7, q_l8, q_l9, q_l10, q_l11, q_l12, q_l13, q_l14, q_l15, q_l16, q_l17, q_l18, q_l19, q_l20, q_l21, q_l22, q_l23, q_l24, q_l25, q_l26, q_l27, q_l28, q_l29, q_l30, q_l31, q_l32, q_l33, q_l45, q_l46, q_l48, q_l57, q_l58, q_l59, q_l60, q_l61, q_l62, q_l63, q_l64, q_l96, q_l97, q_l99, q_l122, q_l129, q_l137, q_l255, q_l256, q_l400, q_l680, q_l700, q_l959, q_l999, q_l9999, q_l10000, q_l100000, q_l36, q_l50, q_l100, q_l112, q_l200, q_ltT, q_ltF, q_leT, q_leF, q_eqF, q_eqR, q_mlt, q_mle, q_nlm, q_nLm, q_nem, q_men, q_mlm, Nat.add_zero, Nat.sub_zero, q_add0, pk_rem, nI_add, pk_mul, q_sub, q_subm, q_addm, nI_clamp, q_inT, q_inF, q_sr1, q_srn, q_srw, q_srs, q_wIs, q_wIn, q_wI2, q_wJ1, q_wJs, q_wJn, q_wR1, q_wRs, q_wRn, q_wI22, q_wJ22, pk_us, pk_un, pk_uLs, pk_uLn, q_usS, q_usN, q_ups, q_upn, Bool.true_eq_false, Bool.false_eq_true, q_lt, q_o2, q_o3, q_o4, q_o5, q_bi, ↓reduceIte, q_tv0, q_tv1, q_bz, q_oRl, q_oRr, q_oXl, q_oXr]
  obtain ⟨τ2, a3, a4⟩ := p_word (π := wI (wI π 0 1 (nI 0)) 0 2 m1) (by omega) a2 nx_s
  obtain ⟨τ3, a5, a6⟩ := p_semi (π := wI (wI π 0 1 (nI 0)) 0 2 m1) a4 hy
  have hcl : ∃ μ1, f_X5_clear μ = some μ1 ∧ PS ω μ1 0 := by
    refine ⟨_, by simp (maxSteps := 2000000) (disch := first | rfl | exact q_e1 _ _ _ | exact q_sr1 _ _ | omega) only [f_X5_clear, ↓q_m1, q_l0, q_l1, q_l2, q_l3, q_l4, q_l5, q_l6, q_l7, q_l8, q_l9, q_l10, q_l11, q_l12, q_l13, q_l14, q_l15, q_l16, q_l17, q_l18, q_l19, q_l20, q_l21, q_l22, q_l23, q_l24, q_l25, q_l26, q_l27, q_l28, q_l29, q_l30, q_l31, q_l32, q_l33, q_l45, q_l46, q_l48, q_l57, q_l58, q_l59, q_l60, q_l61, q_l62, q_l63, q_l64, q_l96, q_l97, q_l99, q_l122, q_l129, q_l137, q_l255, q_l256, q_l400, q_l680, q_l700, q_l959, q_l999, q_l9999, q_l10000, q_l100000, q_l36, q_l50, q_l100, q_l112, q_l200, q_ltT, q_ltF, q_leT, q_leF, q_eqF, q_eqR, q_mlt, q_mle, q_nlm, q_nLm, q_nem, q_men, q_mlm, Nat.add_zero, Nat.sub_zero, q_add0, pk_rem, nI_add, pk_mul, q_sub, q_subm, q_addm, nI_clamp, q_inT, q_inF, q_sr1, q_srn, q_srw, q_srs, q_wIs, q_wIn, q_wI2, q_wJ1, q_wJs, q_wJn, q_wR1, q_wRs, q_wRn, q_wI22, q_wJ22, pk_us, pk_un, pk_uLs, pk_uLn, q_usS, q_usN, q_ups, q_upn, Bool.true_eq_false, Bool.false_eq_true, q_lt, q_o2, q_o3, q_o4, q_o5, q_bi, ↓reduceIte, q_tv0, q_tv1, q_bz, q_oRl, q_oRr, q_oXl, q_oXr]; rfl, ⟨?_, ?_, fun k k1 k2 => ?_⟩, fun j hj => by omega⟩
    · simp (maxSteps := 2000000) (disch := first | rfl | exact q_e1 _ _ _ | exact q_sr1 _ _ | omega) only [q_sr1, q_srn, q_srw, q_srs, q_wIs, q_wIn, q_wI2, q_wJ1, q_wJs, q_wJn, q_wR1, q_wRs, q_wRn, q_wI22, q_wJ22, pk_us, pk_un, pk_uLs, pk_uLn, q_usS, q_usN, q_ups, q_upn]
    · simp (maxSteps := 2000000) (disch := first | rfl | exact q_e1 _ _ _ | exact q_sr1 _ _ | omega) only [q_sr1, q_srn, q_srw, q_srs, q_wIs, q_wIn, q_wI2, q_wJ1, q_wJs, q_wJn, q_wR1, q_wRs, q_wRn, q_wI22, q_wJ22, pk_us, pk_un, pk_uLs, pk_uLn, q_usS, q_usN, q_ups, q_upn]
    · have : k = 2 ∨ k = 3 ∨ k = 4 ∨ k = 5 ∨ k = 6 ∨ k = 7 ∨ k = 8 := by omega
      rcases this with e | e | e | e | e | e | e <;> subst e <;> simp (maxSteps := 2000000) (disch := first | rfl | exact q_e1 _ _ _ | exact q_sr1 _ _ | omega) only [q_sr1, q_srn, q_srw, q_srs, q_wIs, q_wIn, q_wI2, q_wJ1, q_wJs, q_wJn, q_wR1, q_wRs, q_wRn, q_wI22, q_wJ22, pk_us, pk_un, pk_uLs, pk_uLn, q_usS, q_usN, q_ups, q_upn]
  obtain ⟨μ1, b1, b2⟩ := hcl
  obtain ⟨μ2, τ4, c1, c2, c3⟩ := stalls_ok (π := wI (wI π 0 1 (nI 0)) 0 2 m1) hz hT7 h.2.2.1 T' 0 FU μ1 τ3 (by omega) (fu_lt (by omega)) b2 a6
  have hPL : PL (T' + 1) ω μ2 0 := by
    obtain ⟨⟨h1, h2, h3⟩, h4⟩ := c2
    exact ⟨⟨⟨h2, fun k a b _ => h3 k a b⟩, h4, fun j hj => by omega⟩, h1, h3 7 (by omega) (by omega)⟩
  obtain ⟨μ3, τ5, d1, d2⟩ := sellers_ok (π := wI (wI π 0 1 (nI 0)) 0 2 m1) nx_e hT7 hS7 h.2.2.2.1 h.2.2.2.2.1 S' 0 FU μ2 τ4 (by omega) (fu_lt (by omega)) hPL c3
  have hrs : f_X9_readStalls μ1 (wI (wI π 0 1 (nI 0)) 0 2 m1) τ3 β = some (nI 1, μ2, wI (wI π 0 1 (nI 0)) 0 2 m1, τ4) := c1
  have hre : f_X9_readSellers μ2 (wI (wI π 0 1 (nI 0)) 0 2 m1) τ4 β = some (nI 1, μ3, wI (wI π 0 1 (nI 0)) 0 2 m1, τ5) := d1
  refine ⟨μ3, wI (wI π 0 1 (nI 0)) 0 2 m1, τ5, ?_, d2⟩
  simp (maxSteps := 2000000) (disch := first | rfl | exact q_e1 _ _ _ | exact q_sr1 _ _ | omega) only [f_X9_read, b1, hbeg, a3, a5, hrs, hre, ↓q_m1, q_l0, q_l1, q_l2, q_l3, q_l4, q_l5, q_l6, q_l7, q_l8, q_l9, q_l10, q_l11, q_l12, q_l13, q_l14, q_l15, q_l16, q_l17, q_l18, q_l19, q_l20, q_l21, q_l22, q_l23, q_l24, q_l25, q_l26, q_l27, q_l28, q_l29, q_l30, q_l31, q_l32, q_l33, q_l45, q_l46, q_l48, q_l57, q_l58, q_l59, q_l60, q_l61, q_l62, q_l63, q_l64, q_l96, q_l97, q_l99, q_l122, q_l129, q_l137, q_l255, q_l256, q_l400, q_l680, q_l700, q_l959, q_l999, q_l9999, q_l10000, q_l100000, q_l36, q_l50, q_l100, q_l112, q_l200, q_ltT, q_ltF, q_leT, q_leF, q_eqF, q_eqR, q_mlt, q_mle, q_nlm, q_nLm, q_nem, q_men, q_mlm, Nat.add_zero, Nat.sub_zero, q_add0, pk_rem, nI_add, pk_mul, q_sub, q_subm, q_addm, nI_clamp, q_inT, q_inF, q_sr1, q_srn, q_srw, q_srs, q_wIs, q_wIn, q_wI2, q_wJ1, q_wJs, q_wJn, q_wR1, q_wRs, q_wRn, q_wI22, q_wJ22, pk_us, pk_un, pk_uLs, pk_uLn, q_usS, q_usN, q_ups, q_upn, Bool.true_eq_false, Bool.false_eq_true, q_lt, q_o2, q_o3, q_o4, q_o5, q_bi, ↓reduceIte, q_tv0, q_tv1, q_bz, q_oRl, q_oRr, q_oXl, q_oXr]
/-- the row of what was set up -/
def aO (S T : Nat) (ω : OM) : Nat → Int32 := fun x => if x = 0 then nI S else if x = 1 then nI T else if x = 7 then csum ω S else if x < 9 then nI 0 else if x < 25 then (if (x - 9) % 2 = 0 then nI (16 + (x - 9) / 2) else ω.1 2 ((x - 9) / 2)) else if x < 129 then (if (x - 25) % 13 = 0 then nI ((x - 25) / 13 + 1) else if (x - 25) % 13 = 1 then ω.1 3 ((x - 25) / 13) else if (x - 25) % 13 = 2 then ω.1 4 ((x - 25) / 13) else if (x - 25) % 13 = 3 then ω.1 5 ((x - 25) / 13) else if (x - 25) % 13 = 4 then ω.1 6 ((x - 25) / 13) else ω.1 (12 + (x - 25) / 13) ((x - 25) % 13 - 5)) else nI (x - 129)
theorem aO_0 : aO S T ω 0 = nI S := rfl
theorem aO_1 : aO S T ω 1 = nI T := rfl
theorem aO_7 : aO S T ω 7 = csum ω S := rfl
theorem aO_k {k : Nat} (h2 : 2 ≤ k) (h8 : k ≤ 8) (h7 : k ≠ 7) : aO S T ω k = nI 0 := by
  unfold aO
  rw [if_neg (by omega), if_neg (by omega), if_neg h7, if_pos (by omega)]
theorem aO_sn {t : Nat} (ht : t < 8) : aO S T ω (9 + 2 * t) = nI (16 + t) := by
  unfold aO
  rw [if_neg (by omega), if_neg (by omega), if_neg (by omega), if_neg (by omega), if_pos (by omega), if_pos (by omega), show (9 + 2 * t - 9) / 2 = t by omega]
theorem aO_sr {t : Nat} (ht : t < 8) : aO S T ω (9 + 2 * t + 1) = ω.1 2 t := by
  unfold aO
  rw [if_neg (by omega), if_neg (by omega), if_neg (by omega), if_neg (by omega), if_pos (by omega), if_neg (by omega), show (9 + 2 * t + 1 - 9) / 2 = t by omega]
theorem aO_n {i : Nat} (hi : i < 8) : aO S T ω (25 + 13 * i) = nI (i + 1) := by
  unfold aO
  rw [if_neg (by omega), if_neg (by omega), if_neg (by omega), if_neg (by omega), if_neg (by omega), if_pos (by omega), if_pos (by omega), show (25 + 13 * i - 25) / 13 = i by omega]
theorem aO_c {i : Nat} (hi : i < 8) : aO S T ω (25 + 13 * i + 1) = ω.1 3 i ∧ aO S T ω (25 + 13 * i + 2) = ω.1 4 i ∧ aO S T ω (25 + 13 * i + 3) = ω.1 5 i ∧ aO S T ω (25 + 13 * i + 4) = ω.1 6 i := by
  unfold aO
  refine ⟨?_, ?_, ?_, ?_⟩
  · rw [if_neg (by omega), if_neg (by omega), if_neg (by omega), if_neg (by omega), if_neg (by omega), if_pos (by omega), if_neg (by omega), if_pos (by omega), show (25 + 13 * i + 1 - 25) / 13 = i by omega]
  · rw [if_neg (by omega), if_neg (by omega), if_neg (by omega), if_neg (by omega), if_neg (by omega), if_pos (by omega), if_neg (by omega), if_neg (by omega), if_pos (by omega), show (25 + 13 * i + 2 - 25) / 13 = i by omega]
  · rw [if_neg (by omega), if_neg (by omega), if_neg (by omega), if_neg (by omega), if_neg (by omega), if_pos (by omega), if_neg (by omega), if_neg (by omega), if_neg (by omega), if_pos (by omega), show (25 + 13 * i + 3 - 25) / 13 = i by omega]
  · rw [if_neg (by omega), if_neg (by omega), if_neg (by omega), if_neg (by omega), if_neg (by omega), if_pos (by omega), if_neg (by omega), if_neg (by omega), if_neg (by omega), if_neg (by omega), if_pos (by omega), show (25 + 13 * i + 4 - 25) / 13 = i by omega]
theorem aO_l {i k : Nat} (hi : i < 8) (hk : k < 8) : aO S T ω (25 + 13 * i + (5 + k)) = ω.1 (12 + i) k := by
  unfold aO
  rw [if_neg (by omega), if_neg (by omega), if_neg (by omega), if_neg (by omega), if_neg (by omega), if_pos (by omega), if_neg (by omega), if_neg (by omega), if_neg (by omega), if_neg (by omega), if_neg (by omega), show (25 + 13 * i + (5 + k) - 25) / 13 = i by omega, show (25 + 13 * i + (5 + k) - 25) % 13 - 5 = k by omega]
theorem aO_o {k : Nat} : aO S T ω (129 + k) = nI k := by
  unfold aO
  rw [if_neg (by omega), if_neg (by omega), if_neg (by omega), if_neg (by omega), if_neg (by omega), if_neg (by omega), show 129 + k - 129 = k by omega]
theorem csum_eq : ∀ {n : Nat}, n ≤ 8 → lsum (aO S T ω) n = csum ω n
  | 0, _ => rfl
  | n + 1, h => by rw [lsum, csum, csum_eq (by omega), (aO_c (show n < 8 by omega)).1]
theorem i_0 (x : Int32) : x - x - nI 0 + nI 0 = nI 0 := by
  have : nI 0 = 0 := rfl
  rw [this, Int32.sub_self, Int32.sub_zero, Int32.add_zero]
theorem set_mx (hS : 1 ≤ S) (hS7 : S ≤ 7) (hT7 : T ≤ 7) (h : BQ S T S ω) (hp : PL T ω μ S) : MX 199 S T μ (aO S T ω) := by
  obtain ⟨_, g1, g2, g3, g4, _⟩ := h
  obtain ⟨⟨⟨p1, p2⟩, p3, p4⟩, p5, p6⟩ := hp
  have hln : ∀ i n, i < S → LT T i n ω → ln (aO S T ω) i = n := fun i n hi hl => by
    rw [ln, (aO_c (show i < 8 by omega)).2.2.2, hl.1, nI_clamp (by have := hl.2.1; omega)]
  have hnr : ∀ c, 1 ≤ c → c ≤ 26 → NR (lN (96 + c)) (nI c) := fun c h1 h2 => ⟨1, fun _ => c, ⟨by omega, by omega, fun k _ => ⟨h1, h2⟩⟩, by rw [cF, cF, Nat.mul_zero, Nat.zero_add, Nat.zero_add], by rw [cF, cF, Nat.mul_zero, Nat.zero_add]⟩
  refine ⟨⟨⟨p5, p1, aO_0, aO_1⟩, fun k k1 k2 => ?_, fun i hi => ?_, fun i k hi hk => ?_, fun t ht => ?_, fun i hi => ?_, fun t ht => ?_, fun i hi => ?_, fun k hk => ?_⟩, hS, ⟨⟨by omega, by omega⟩, fun i hi => ?_, fun i k hi hk => ?_, fun i hi => ?_⟩, ⟨fun i k k' hi hk hk' e => ?_, fun i j hi hj e ne => ?_⟩, ⟨0, by omega, aO_k (by omega) (by omega) (by omega)⟩, fun t ht => ?_, fun i hi => ?_, fun i hi => ?_⟩
  · by_cases e : k = 7
    · subst e; rw [p6, aO_7]
    · rw [p2 k k1 k2 e, aO_k k1 k2 e]
  · obtain ⟨q1, q2, q3, q4, q5, q6, q7⟩ := p4 i hi
    obtain ⟨r1, r2, r3, r4⟩ := aO_c (S := S) (T := T) (ω := ω) (show i < 8 by omega)
    exact ⟨q2.trans r1.symm, q3.trans r2.symm, q4.trans r3.symm, q6.trans r4.symm⟩
  · obtain ⟨_, _, _, ⟨n, hl⟩, _⟩ := g3 i hi
    rw [hln i n hi hl] at hk
    have hn := hl.2.1
    rw [aO_l (by omega) (by omega)]
    refine (p4 i hi).2.2.2.2.2.2 k ?_
    rw [hl.1, nI_clamp (by omega)]; exact hk
  · rw [(p3 t ht).1, aO_sr (by omega)]
  · rw [(p4 i hi).1, aO_n (by omega), show 97 + i = 96 + (i + 1) by omega]; exact hnr (i + 1) (by omega) (by omega)
  · rw [(p3 t ht).2, aO_sn (by omega), show 112 + t = 96 + (16 + t) by omega]; exact hnr (16 + t) (by omega) (by omega)
  · exact ⟨i, hi, (p4 i hi).2.2.2.2.1, aO_o⟩
  · exact ⟨k, hk, (p4 k hk).2.2.2.2.1, aO_o⟩
  · obtain ⟨_, _, _, ⟨n, hl⟩, _⟩ := g3 i hi
    have hn := hl.2.1
    rw [hln i n hi hl, (aO_c (show i < 8 by omega)).2.2.2]
    exact ⟨by omega, hl.1⟩
  · obtain ⟨_, _, _, ⟨n, hl⟩, _⟩ := g3 i hi
    have hn := hl.2.1
    rw [hln i n hi hl] at hk
    rw [aO_l (by omega) (by omega)]
    exact hl.2.2.1 k hk
  · rw [(aO_c (show i < 8 by omega)).2.2.1]; exact (g3 i hi).2.2.1
  · obtain ⟨_, _, _, ⟨n, hl⟩, _⟩ := g3 i hi
    have hn := hl.2.1
    rw [hln i n hi hl] at hk hk'
    rw [aO_l (by omega) (by omega), aO_l (by omega) (by omega)] at e
    exact hl.2.2.2 k k' hk hk' e
  · rw [(aO_c (show i < 8 by omega)).2.2.1] at e ne
    rw [(aO_c (show j < 8 by omega)).2.2.1] at e
    exact g4 i j hi hj e ne
  · rw [aO_sr (by omega)]; exact g2 t ht
  · rw [(aO_c (show i < 8 by omega)).2.1]; exact (g3 i hi).2.1
  · rw [(aO_c (show i < 8 by omega)).1]; exact (g3 i hi).1
theorem set_ow (hS7 : S ≤ 7) (hT7 : T ≤ 7) (h : BQ S T S ω) : OW S T (wI ω 0 13 (nI 0)) (aO S T ω) := by
  obtain ⟨⟨f1, f2, f3⟩, g1, g2, g3, g4, _⟩ := h
  refine ⟨⟨?_, ?_, ?_⟩, fun i hi => ?_, fun i k hi hk => ?_, fun t ht => ?_, fun k hk => ?_⟩
  · rw [q_wIs, pk_un (by omega)]; exact f1
  · rw [q_wIs, pk_un (by omega)]; exact f2
  · rw [q_wIs, pk_un (by omega), f3]; exact (aO_k (by omega) (by omega) (by omega)).symm
  · rw [q_wIn (by omega), q_wIn (by omega), q_wIn (by omega), q_wIn (by omega)]
    obtain ⟨r1, r2, r3, r4⟩ := aO_c (S := S) (T := T) (ω := ω) (show i < 8 by omega)
    exact ⟨r1.symm, r2.symm, r3.symm, r4.symm⟩
  · obtain ⟨_, _, _, ⟨n, hl⟩, _⟩ := g3 i hi
    have hn := hl.2.1
    rw [ln, (aO_c (show i < 8 by omega)).2.2.2, hl.1, nI_clamp (by omega)] at hk
    rw [q_wIn (by omega), aO_l (by omega) (by omega)]
  · rw [q_wIn (by omega), aO_sr (by omega)]
  · rw [q_wIn (by omega), aO_o]; exact (g3 k hk).2.2.2.2
theorem load_ok {n : Nat} {L : List Nat} (hS : 1 ≤ S) (hS7 : S ≤ 7) (hT : 1 ≤ T) (hT7 : T ≤ 7) (h : BQ S T S ω) (hL : L = sBw 6 ++ stalls (ω.1 2) T ++ sellers ω S) (hb : BT (σ 13) n (fun k => L.getD k 32)) (hn : L.length ≤ n) (hg : ∀ k, L.getD k 32 < 128) : ∃ σ', f_X12_loadSetup σ = some (nI S, σ') ∧ MX 199 S T (σ' 0) (aO S T ω) ∧ HI σ' ∧ σ' 20 = σ 20 := by
  have hl7 : 7 ≤ L.length := by
    rw [hL, List.length_append, List.length_append, sB_len.1]; omega
  have hat : AT (σ 13) 0 (sBw 6 ++ stalls (ω.1 2) T ++ sellers ω S ++ sp (n - L.length)) := by
    rw [← hL]
    have el : (L ++ sp (n - L.length)).length = n := by rw [List.length_append, show (sp (n - L.length)).length = n - L.length from List.length_replicate]; omega
    obtain ⟨b1, b2, b3⟩ := hb
    refine ⟨by rw [el, Nat.zero_add]; exact b1, by omega, fun k y hk => ?_⟩
    have hkn := (List.getElem?_eq_some_iff.mp hk).1
    rw [el] at hkn
    have e : L.getD k 32 = y := by
      rcases Nat.lt_or_ge k L.length with c | c
      · rw [List.getElem?_append_left c] at hk
        rw [List.getD_eq_getElem?_getD, hk]; rfl
      · rw [List.getElem?_append_right c] at hk
        have : y = 32 := by
          have := List.mem_of_getElem? hk
          exact (List.mem_replicate.mp this).2
        rw [List.getD_eq_getElem?_getD, List.getElem?_eq_none c, this]; rfl
    have h3 := b3 k hkn
    rw [Nat.zero_add, h3]
    show y < 128 ∧ nI (L.getD k 32) = nI y
    rw [e]
    exact ⟨by have := hg k; omega, rfl⟩
  obtain ⟨μ', π', τ', f1, f2⟩ := read_ok (μ := σ 1) (π := σ 11) (τ := σ 12) hS hS7 hT hT7 h hat
  obtain ⟨ν, f3, f4⟩ := s_copy μ' (σ 0)
  have hmx := (set_mx hS hS7 hT7 h f2).copy f4
  have c0 : (nI n ≤ nI 0) = False := eq_false (nI_ge (by omega) (by have := hb.2.1; omega))
  refine ⟨us (us (us (us (us (us σ 1 μ') 11 π') 12 τ') 13 (wI (σ 13) 0 1 (nI 0))) 0 ν) 16 (wI (wI (σ 16) 0 1 (nI 0)) 0 2 (nI 0)), ?_, ?_, ⟨0, 0, by omega, by omega, ?_, ?_⟩, ?_⟩
  · simp (maxSteps := 2000000) (disch := first | rfl | exact q_e1 _ _ _ | exact q_sr1 _ _ | omega) only [f_X12_loadSetup, f_X2_cut, f_X4_clear, ↓q_m1, q_l0, q_l1, q_l2, q_l3, q_l4, q_l5, q_l6, q_l7, q_l8, q_l9, q_l10, q_l11, q_l12, q_l13, q_l14, q_l15, q_l16, q_l17, q_l18, q_l19, q_l20, q_l21, q_l22, q_l23, q_l24, q_l25, q_l26, q_l27, q_l28, q_l29, q_l30, q_l31, q_l32, q_l33, q_l45, q_l46, q_l48, q_l57, q_l58, q_l59, q_l60, q_l61, q_l62, q_l63, q_l64, q_l96, q_l97, q_l99, q_l122, q_l129, q_l137, q_l255, q_l256, q_l400, q_l680, q_l700, q_l959, q_l999, q_l9999, q_l10000, q_l100000, q_l36, q_l50, q_l100, q_l112, q_l200, q_ltT, q_ltF, q_leT, q_leF, q_eqF, q_eqR, q_mlt, q_mle, q_nlm, q_nLm, q_nem, q_men, q_mlm, Nat.add_zero, Nat.sub_zero, q_add0, pk_rem, nI_add, pk_mul, q_sub, q_subm, q_addm, nI_clamp, q_inT, q_inF, q_sr1, q_srn, q_srw, q_srs, q_wIs, q_wIn, q_wI2, q_wJ1, q_wJs, q_wJn, q_wR1, q_wRs, q_wRn, q_wI22, q_wJ22, pk_us, pk_un, pk_uLs, pk_uLn, q_usS, q_usN, q_ups, q_upn, Bool.true_eq_false, Bool.false_eq_true, q_lt, q_o2, q_o3, q_o4, q_o5, q_bi, ↓reduceIte, q_tv0, q_tv1, q_bz, q_oRl, q_oRr, q_oXl, q_oXr, f1, hb.1, c0, f3, us_us, hmx.1.1.1]
  · rw [q_usN (by omega), q_usS]; exact hmx
  · rw [q_usS]; simp (maxSteps := 2000000) (disch := first | rfl | exact q_e1 _ _ _ | exact q_sr1 _ _ | omega) only [q_sr1, q_srn, q_srw, q_srs, q_wIs, q_wIn, q_wI2, q_wJ1, q_wJs, q_wJn, q_wR1, q_wRs, q_wRn, q_wI22, q_wJ22, pk_us, pk_un, pk_uLs, pk_uLn, q_usS, q_usN, q_ups, q_upn]
  · rw [q_usS]; simp (maxSteps := 2000000) (disch := first | rfl | exact q_e1 _ _ _ | exact q_sr1 _ _ | omega) only [q_sr1, q_srn, q_srw, q_srs, q_wIs, q_wIn, q_wI2, q_wJ1, q_wJs, q_wJn, q_wR1, q_wRs, q_wRn, q_wI22, q_wJ22, pk_us, pk_un, pk_uLs, pk_uLn, q_usS, q_usN, q_ups, q_upn]
  · rw [q_usN (by omega), q_usN (by omega), q_usN (by omega), q_usN (by omega), q_usN (by omega), q_usN (by omega)]
theorem begin_ok (p : Int32) (h13 : (σ 13).1 0 1 = nI 0) (h20 : (σ 20).1 0 13 = nI 0) : ∃ σ' S T a, f_X13_begin p σ = some (nI 1, σ') ∧ J 199 S T 0 σ' a := by
  obtain ⟨r3, v1, hr3, e1⟩ := draw_ok (m := 7) (by omega) (by omega) (wI (wI (σ 20) 0 12 p) 0 16 (nI 0))
  obtain ⟨r7, v2, hr7, e2⟩ := draw_ok (m := 7) (by omega) (by omega) (wI (wI (wI (wI (σ 20) 0 12 p) 0 16 (nI 0)) 0 12 v1) 0 14 (nI (1 + r3)))
  obtain ⟨σ13, m14, a1, a2, a3, a4⟩ := begin_36 (S := 1 + r7) (T := 1 + r3) (σ := us σ 20 (wI (wI (wI (wI (wI (wI (σ 20) 0 12 p) 0 16 (nI 0)) 0 12 v1) 0 14 (nI (1 + r3))) 0 12 v2) 0 15 (nI (1 + r7)))) (by rw [q_usS]; simp (maxSteps := 2000000) (disch := first | rfl | exact q_e1 _ _ _ | exact q_sr1 _ _ | omega) only [q_sr1, q_srn, q_srw, q_srs, q_wIs, q_wIn, q_wI2, q_wJ1, q_wJs, q_wJn, q_wR1, q_wRs, q_wRn, q_wI22, q_wJ22, pk_us, pk_un, pk_uLs, pk_uLn, q_usS, q_usN, q_ups, q_upn]) (by rw [q_usS]; simp (maxSteps := 2000000) (disch := first | rfl | exact q_e1 _ _ _ | exact q_sr1 _ _ | omega) only [q_sr1, q_srn, q_srw, q_srs, q_wIs, q_wIn, q_wI2, q_wJ1, q_wJs, q_wJn, q_wR1, q_wRs, q_wRn, q_wI22, q_wJ22, pk_us, pk_un, pk_uLs, pk_uLn, q_usS, q_usN, q_ups, q_upn]) (by rw [q_usS]; simp (maxSteps := 2000000) (disch := first | rfl | exact q_e1 _ _ _ | exact q_sr1 _ _ | omega) only [q_sr1, q_srn, q_srw, q_srs, q_wIs, q_wIn, q_wI2, q_wJ1, q_wJs, q_wJn, q_wR1, q_wRs, q_wRn, q_wI22, q_wJ22, pk_us, pk_un, pk_uLs, pk_uLn, q_usS, q_usN, q_ups, q_upn]) (by
    rw [q_usS]
    refine ⟨by simp (maxSteps := 2000000) (disch := first | rfl | exact q_e1 _ _ _ | exact q_sr1 _ _ | omega) only [q_sr1, q_srn, q_srw, q_srs, q_wIs, q_wIn, q_wI2, q_wJ1, q_wJs, q_wJn, q_wR1, q_wRs, q_wRn, q_wI22, q_wJ22, pk_us, pk_un, pk_uLs, pk_uLn, q_usS, q_usN, q_ups, q_upn, h20]; rfl, by show 0 ≤ 700; omega, fun k x hk => by simp at hk⟩)
  obtain ⟨σ45, b1, b2, b3⟩ := begin_63 (σ := us σ13 20 m14) (by rw [q_usS]; exact a4) (show 1 + r3 ≤ 8 by omega)
  have hbq0 : BQ (1 + r7) (1 + r3) 0 (σ45 20) := by
    obtain ⟨f, g1, g2, g3⟩ := b3
    exact ⟨f, fun j _ hj => g1 j hj, g2, fun j hj => by omega, fun j j' hj => by omega, by rw [sellers, List.append_nil]; exact g3⟩
  obtain ⟨σ101, c1, c2, c3⟩ := begin_133 hbq0 (by omega) (by omega) (by omega)
  have hlen := bq_len c3 (by omega) (by omega)
  have h13' : (σ101 13).1 0 1 = nI 0 := by
    rw [c2 13 (by omega), b2 13 (by omega), q_usN (by omega), a2 13 (by omega), q_usN (by omega)]; exact h13
  obtain ⟨σ103, n, d1, d2, d3, d4, d5, d6⟩ := send_ok c3.2.2.2.2.2 (by omega) h13'
  obtain ⟨σ106, g1, g2, g3, g4⟩ := load_ok (σ := σ103) (ω := σ101 20) (S := 1 + r7) (T := 1 + r3) (by omega) (by omega) (by omega) (by omega) c3 rfl d4 d5 d6
  have e15 : (σ106 20).1 0 15 = nI (1 + r7) := by rw [g4, d3, q_wIs, pk_un (by omega)]; exact c3.1.1
  refine ⟨σ106, 1 + r7, 1 + r3, aO (1 + r7) (1 + r3) (σ101 20), ?_, g2, by rw [g4, d3]; exact set_ow (by omega) (by omega) c3, g3, ?_, aO_k (by omega) (by omega) (by omega), by omega⟩
  · simp (maxSteps := 2000000) (disch := first | rfl | exact q_e1 _ _ _ | exact q_sr1 _ _ | omega) only [f_X13_begin, us_us, e1, e2, a1, a3, b1, c1, d1, g1, e15, ↓q_m1, q_l0, q_l1, q_l2, q_l3, q_l4, q_l5, q_l6, q_l7, q_l8, q_l9, q_l10, q_l11, q_l12, q_l13, q_l14, q_l15, q_l16, q_l17, q_l18, q_l19, q_l20, q_l21, q_l22, q_l23, q_l24, q_l25, q_l26, q_l27, q_l28, q_l29, q_l30, q_l31, q_l32, q_l33, q_l45, q_l46, q_l48, q_l57, q_l58, q_l59, q_l60, q_l61, q_l62, q_l63, q_l64, q_l96, q_l97, q_l99, q_l122, q_l129, q_l137, q_l255, q_l256, q_l400, q_l680, q_l700, q_l959, q_l999, q_l9999, q_l10000, q_l100000, q_l36, q_l50, q_l100, q_l112, q_l200, q_ltT, q_ltF, q_leT, q_leF, q_eqF, q_eqR, q_mlt, q_mle, q_nlm, q_nLm, q_nem, q_men, q_mlm, Nat.add_zero, Nat.sub_zero, q_add0, pk_rem, nI_add, pk_mul, q_sub, q_subm, q_addm, nI_clamp, q_inT, q_inF, q_sr1, q_srn, q_srw, q_srs, q_wIs, q_wIn, q_wI2, q_wJ1, q_wJs, q_wJn, q_wR1, q_wRs, q_wRn, q_wI22, q_wJ22, pk_us, pk_un, pk_uLs, pk_uLn, q_usS, q_usN, q_ups, q_upn, Bool.true_eq_false, Bool.false_eq_true, q_lt, q_o2, q_o3, q_o4, q_o5, q_bi, ↓reduceIte, q_tv0, q_tv1, q_bz, q_oRl, q_oRr, q_oXl, q_oXr]
  · unfold LG
    rw [csum_eq (by omega), aO_7, aO_k (by omega) (by omega) (by omega), aO_k (by omega) (by omega) (by omega)]
    exact i_0 _
end LOD

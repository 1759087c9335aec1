/-! the law is true -/
theorem pick_ok (xs : Nat → Int32) (L : Nat) (hL : L ≤ 260) {k : Nat} (hk : k < 2 ^ 31) : ∃ y, f_L_pick xs L (nI k) = some y := by
  have c0 : (nI k < nI 0) = False := eq_false (nI_nlt (Nat.zero_le _) hk)
  by_cases c : L ≤ k
  · have c1 : (nI L ≤ nI k) = True := eq_true (nI_le c hk)
    exact ⟨nI 0, by simp (maxSteps := 2000000) (disch := first | rfl | exact q_e1 _ _ _ | exact q_sr1 _ _ | omega) only [f_L_pick, c0, c1, ↓q_m1, q_l0, q_l1, q_l2, q_l3, q_l4, q_l5, q_l6, q_l7, q_l8, q_l9, q_l10, q_l11, q_l12, q_l13, q_l14, q_l15, q_l16, q_l17, q_l18, q_l19, q_l20, q_l21, q_l22, q_l23, q_l24, q_l25, q_l26, q_l27, q_l28, q_l29, q_l30, q_l31, q_l32, q_l33, q_l45, q_l46, q_l48, q_l57, q_l58, q_l59, q_l60, q_l61, q_l62, q_l63, q_l64, q_l96, q_l97, q_l99, q_l122, q_l129, q_l137, q_l255, q_l256, q_l400, q_l680, q_l700, q_l959, q_l999, q_l9999, q_l10000, q_l100000, q_l36, q_l50, q_l100, q_l112, q_l200, q_ltT, q_ltF, q_leT, q_leF, q_eqF, q_eqR, q_mlt, q_mle, q_nlm, q_nLm, q_nem, q_men, q_mlm, Nat.add_zero, Nat.sub_zero, q_add0, pk_rem, nI_add, pk_mul, q_sub, q_subm, q_addm, nI_clamp, q_inT, q_inF, q_sr1, q_srn, q_srw, q_srs, q_wIs, q_wIn, q_wI2, q_wJ1, q_wJs, q_wJn, q_wR1, q_wRs, q_wRn, q_wI22, q_wJ22, pk_us, pk_un, pk_uLs, pk_uLn, q_usS, q_usN, q_ups, q_upn, Bool.true_eq_false, Bool.false_eq_true, q_lt, q_o2, q_o3, q_o4, q_o5, q_bi, ↓reduceIte, q_tv0, q_tv1, q_bz, q_oRl, q_oRr, q_oXl, q_oXr]⟩
  · have c1 : (nI L ≤ nI k) = False := eq_false (nI_ge (by omega) (by omega))
    exact ⟨xs k, by simp (maxSteps := 2000000) (disch := first | rfl | exact q_e1 _ _ _ | exact q_sr1 _ _ | omega) only [f_L_pick, c0, c1, ↓q_m1, q_l0, q_l1, q_l2, q_l3, q_l4, q_l5, q_l6, q_l7, q_l8, q_l9, q_l10, q_l11, q_l12, q_l13, q_l14, q_l15, q_l16, q_l17, q_l18, q_l19, q_l20, q_l21, q_l22, q_l23, q_l24, q_l25, q_l26, q_l27, q_l28, q_l29, q_l30, q_l31, q_l32, q_l33, q_l45, q_l46, q_l48, q_l57, q_l58, q_l59, q_l60, q_l61, q_l62, q_l63, q_l64, q_l96, q_l97, q_l99, q_l122, q_l129, q_l137, q_l255, q_l256, q_l400, q_l680, q_l700, q_l959, q_l999, q_l9999, q_l10000, q_l100000, q_l36, q_l50, q_l100, q_l112, q_l200, q_ltT, q_ltF, q_leT, q_leF, q_eqF, q_eqR, q_mlt, q_mle, q_nlm, q_nLm, q_nem, q_men, q_mlm, Nat.add_zero, Nat.sub_zero, q_add0, pk_rem, nI_add, pk_mul, q_sub, q_subm, q_addm, nI_clamp, q_inT, q_inF, q_sr1, q_srn, q_srw, q_srs, q_wIs, q_wIn, q_wI2, q_wJ1, q_wJs, q_wJn, q_wR1, q_wRs, q_wRn, q_wI22, q_wJ22, pk_us, pk_un, pk_uLs, pk_uLn, q_usS, q_usN, q_ups, q_upn, Bool.true_eq_false, Bool.false_eq_true, q_lt, q_o2, q_o3, q_o4, q_o5, q_bi, ↓reduceIte, q_tv0, q_tv1, q_bz, q_oRl, q_oRr, q_oXl, q_oXr]⟩
section LAW
variable {S T : Nat}
/-- what a step leaves -/
theorem law_41_ok (xs : Nat → Int32) (L : Nat) (hL : L ≤ 260) : ∀ (r k m B d : Nat) (σ : SM) (a : Nat → Int32), k + r = 36 → r < m → 1 ≤ k → J B S T d σ a → B + 297 * r < 2 ^ 31 → d + 3 * r ≤ 9999 → ∃ σ', f_L_law_41 xs L m (nI k) σ = some σ' := by
  intro r
  induction r with
  | zero =>
    intro k m B d σ a hk hm h1 hj hB hd
    obtain ⟨m, rfl⟩ : ∃ q, m = q + 1 := ⟨m - 1, by omega⟩
    obtain rfl : k = 36 := by omega
    exact ⟨σ, by simp (maxSteps := 2000000) (disch := first | rfl | exact q_e1 _ _ _ | exact q_sr1 _ _ | omega) only [f_L_law_41, ↓q_m1, q_l0, q_l1, q_l2, q_l3, q_l4, q_l5, q_l6, q_l7, q_l8, q_l9, q_l10, q_l11, q_l12, q_l13, q_l14, q_l15, q_l16, q_l17, q_l18, q_l19, q_l20, q_l21, q_l22, q_l23, q_l24, q_l25, q_l26, q_l27, q_l28, q_l29, q_l30, q_l31, q_l32, q_l33, q_l45, q_l46, q_l48, q_l57, q_l58, q_l59, q_l60, q_l61, q_l62, q_l63, q_l64, q_l96, q_l97, q_l99, q_l122, q_l129, q_l137, q_l255, q_l256, q_l400, q_l680, q_l700, q_l959, q_l999, q_l9999, q_l10000, q_l100000, q_l36, q_l50, q_l100, q_l112, q_l200, q_ltT, q_ltF, q_leT, q_leF, q_eqF, q_eqR, q_mlt, q_mle, q_nlm, q_nLm, q_nem, q_men, q_mlm, Nat.add_zero, Nat.sub_zero, q_add0, pk_rem, nI_add, pk_mul, q_sub, q_subm, q_addm, nI_clamp, q_inT, q_inF, q_sr1, q_srn, q_srw, q_srs, q_wIs, q_wIn, q_wI2, q_wJ1, q_wJs, q_wJn, q_wR1, q_wRs, q_wRn, q_wI22, q_wJ22, pk_us, pk_un, pk_uLs, pk_uLn, q_usS, q_usN, q_ups, q_upn, Bool.true_eq_false, Bool.false_eq_true, q_lt, q_o2, q_o3, q_o4, q_o5, q_bi, ↓reduceIte, q_tv0, q_tv1, q_bz, q_oRl, q_oRr, q_oXl, q_oXr]⟩
  | succ r ih =>
    intro k m B d σ a hk hm h1 hj hB hd
    obtain ⟨m, rfl⟩ : ∃ q, m = q + 1 := ⟨m - 1, by omega⟩
    have hB1 : Unit → B + 297 < 2 ^ 31 := fun _ => Nat.lt_of_le_of_lt (Nat.add_le_add_left (Nat.le_mul_of_pos_right 297 (Nat.succ_pos r)) B) hB
    have hd1 : Unit → d + 3 ≤ 9999 := fun _ => Nat.le_trans (Nat.add_le_add_left (Nat.le_mul_of_pos_right 3 (Nat.succ_pos r)) d) hd
    have hB2 : Unit → B + 297 + 297 * r < 2 ^ 31 := fun _ => by
      have := hB
      rw [Nat.mul_succ] at this
      rw [Nat.add_assoc, Nat.add_comm 297]
      exact this
    have hd2 : Unit → d + 3 + 3 * r ≤ 9999 := fun _ => by
      have := hd
      rw [Nat.mul_succ] at this
      rw [Nat.add_assoc, Nat.add_comm 3]
      exact this
    clear hB hd
    obtain ⟨y, ey⟩ := pick_ok xs L hL (k := k) (by omega)
    have h8 := hj.1.2.2.1.1.1
    have hj1 := hj.own (hj.2.1.x12 ((σ 20).1 0 12 + y))
    obtain ⟨ω', rq, f1, f2, f3, f4, f5⟩ := mech_any hj1.1.1 hj1.1.2.2.1 hj1.1.2.2.2.1 hj1.2.1
    rw [q_usS] at f1 f2
    rw [q_usN (by omega)] at f5
    have hj2 := hj.own (((hj.2.1.x12 ((σ 20).1 0 12 + y))).kw f2 h8)
    obtain ⟨σ21, g1, g2⟩ := law68_ok (σ := us σ 20 ω') (rq := rq) hj2.1 hj2.2.1 (by rw [q_usS]; exact f3) f4 (by rw [q_usN (by omega)]; exact f5)
    have hj3 : J B S T d σ21 a := ⟨by rw [g2 0 (by omega)]; exact hj2.1, by rw [g2 20 (by omega)]; exact hj2.2.1, hj2.2.2.1.c (g2 16 (by omega)), hj2.2.2.2.1, hj2.2.2.2.2.1, hj2.2.2.2.2.2⟩
    obtain ⟨τ, a', d', k1, k2, k3⟩ := act_ok hj3 (hB1 ()) (hd1 ())
    obtain ⟨m1', m2, m3, m4, m5, m6⟩ := id k2
    have es := same_ok m1'.1 m1'.2.2.1 m2
    have el := m_ledger m1'.1 h8 m4
    have ek : nI k - nI k / nI 6 * nI 6 = nI (k % 6) := pk_rem (by omega) (by omega) (by omega)
    have n10 : (nI 1 = nI 0) = False := eq_false (by decide)
    by_cases c6 : k % 6 = 0
    · obtain ⟨ω2, rq2, p1, p2, p3, p4, p5⟩ := mech_any m1'.1 m1'.2.2.1 m1'.2.2.2.1 m2
      obtain ⟨a2, τ2, q1, q2, q3, q4, q, kk, q5, q6, q7, q8, q9⟩ := real_full m1' m3 p4 p5
      have hef := eff_ok (σ := τ2) q3.1 q3.2.2.1 q3.2.2.2.1 (fun i hi => ok_all m1'.2.2.1 m1'.2.2.2.1 p4 q1 q3.2.2.1 q3.2.2.2.1 hi)
      obtain ⟨τ3, u1, u2, u3, u4⟩ := undo_ok q5 q6 q7 q8
      have hj4 : J (B + 297) S T d' τ3 a' := ⟨(m1'.copy q9).copy u2, by rw [u4 20 (by omega) (by omega), q4]; exact m2, u3, m4, m5, m6⟩
      have es2 := same_ok hj4.1.1 hj4.1.2.2.1 hj4.2.1
      obtain ⟨σ', z⟩ := ih (k + 1) m (B + 297) d' τ3 a' (by omega) (by omega) (by omega) hj4 (hB2 ()) (Nat.le_trans (Nat.add_le_add_right k3 _) (hd2 ()))
      have cl := cnt_le (chg a' rq2) S
      have cn1 : (nI (cnt (chg a' rq2) S) < nI 0) = False := eq_false (nI_nlt (Nat.zero_le _) (by omega))
      have cn2 : (nI kk < nI 0) = False := eq_false (nI_nlt (Nat.zero_le _) (by omega))
      have c36 : (nI 36 ≤ nI k) = False := eq_false (nI_ge (by omega) (by omega))
      refine ⟨σ', ?_⟩
      simp (maxSteps := 2000000) (disch := first | rfl | exact q_e1 _ _ _ | exact q_sr1 _ _ | omega) only [f_L_law_41, c36, ey, f1, us_us, g1, k1, es, el, ek, c6, q2, cn1, hef, u1, cn2, es2, z, ↓q_m1, q_l0, q_l1, q_l2, q_l3, q_l4, q_l5, q_l6, q_l7, q_l8, q_l9, q_l10, q_l11, q_l12, q_l13, q_l14, q_l15, q_l16, q_l17, q_l18, q_l19, q_l20, q_l21, q_l22, q_l23, q_l24, q_l25, q_l26, q_l27, q_l28, q_l29, q_l30, q_l31, q_l32, q_l33, q_l45, q_l46, q_l48, q_l57, q_l58, q_l59, q_l60, q_l61, q_l62, q_l63, q_l64, q_l96, q_l97, q_l99, q_l122, q_l129, q_l137, q_l255, q_l256, q_l400, q_l680, q_l700, q_l959, q_l999, q_l9999, q_l10000, q_l100000, q_l36, q_l50, q_l100, q_l112, q_l200, q_ltT, q_ltF, q_leT, q_leF, q_eqF, q_eqR, q_mlt, q_mle, q_nlm, q_nLm, q_nem, q_men, q_mlm, Nat.add_zero, Nat.sub_zero, q_add0, pk_rem, nI_add, pk_mul, q_sub, q_subm, q_addm, nI_clamp, q_inT, q_inF, q_sr1, q_srn, q_srw, q_srs, q_wIs, q_wIn, q_wI2, q_wJ1, q_wJs, q_wJn, q_wR1, q_wRs, q_wRn, q_wI22, q_wJ22, pk_us, pk_un, pk_uLs, pk_uLn, q_usS, q_usN, q_ups, q_upn, Bool.true_eq_false, Bool.false_eq_true, q_lt, q_o2, q_o3, q_o4, q_o5, q_bi, ↓reduceIte, q_tv0, q_tv1, q_bz, q_oRl, q_oRr, q_oXl, q_oXr]
    · obtain ⟨σ', z⟩ := ih (k + 1) m (B + 297) d' τ a' (by omega) (by omega) (by omega) k2 (hB2 ()) (Nat.le_trans (Nat.add_le_add_right k3 _) (hd2 ()))
      have c36 : (nI 36 ≤ nI k) = False := eq_false (nI_ge (by omega) (by omega))
      have c60 : (nI (k % 6) = nI 0) = False := eq_false (fun e => c6 ((nI_eq (by omega) (by omega)).mp e))
      refine ⟨σ', ?_⟩
      simp (maxSteps := 2000000) (disch := first | rfl | exact q_e1 _ _ _ | exact q_sr1 _ _ | omega) only [f_L_law_41, c36, ey, f1, us_us, g1, k1, es, el, ek, c60, z, ↓q_m1, q_l0, q_l1, q_l2, q_l3, q_l4, q_l5, q_l6, q_l7, q_l8, q_l9, q_l10, q_l11, q_l12, q_l13, q_l14, q_l15, q_l16, q_l17, q_l18, q_l19, q_l20, q_l21, q_l22, q_l23, q_l24, q_l25, q_l26, q_l27, q_l28, q_l29, q_l30, q_l31, q_l32, q_l33, q_l45, q_l46, q_l48, q_l57, q_l58, q_l59, q_l60, q_l61, q_l62, q_l63, q_l64, q_l96, q_l97, q_l99, q_l122, q_l129, q_l137, q_l255, q_l256, q_l400, q_l680, q_l700, q_l959, q_l999, q_l9999, q_l10000, q_l100000, q_l36, q_l50, q_l100, q_l112, q_l200, q_ltT, q_ltF, q_leT, q_leF, q_eqF, q_eqR, q_mlt, q_mle, q_nlm, q_nLm, q_nem, q_men, q_mlm, Nat.add_zero, Nat.sub_zero, q_add0, pk_rem, nI_add, pk_mul, q_sub, q_subm, q_addm, nI_clamp, q_inT, q_inF, q_sr1, q_srn, q_srw, q_srs, q_wIs, q_wIn, q_wI2, q_wJ1, q_wJs, q_wJn, q_wR1, q_wRs, q_wRn, q_wI22, q_wJ22, pk_us, pk_un, pk_uLs, pk_uLn, q_usS, q_usN, q_ups, q_upn, Bool.true_eq_false, Bool.false_eq_true, q_lt, q_o2, q_o3, q_o4, q_o5, q_bi, ↓reduceIte, q_tv0, q_tv1, q_bz, q_oRl, q_oRr, q_oXl, q_oXr]
theorem law_16_ok (xs : Nat → Int32) (L : Nat) (hL : L ≤ 260) {σ : SM} (h13 : (σ 13).1 0 1 = nI 0) (h20 : (σ 20).1 0 13 = nI 0) : ∃ σ', f_L_law_16 xs L FU σ = some σ' := by
  obtain ⟨y, ey⟩ := pick_ok xs L hL (k := 0) (by omega)
  obtain ⟨σ2, S, T, a, b1, b2⟩ := begin_ok y h13 h20
  have es := same_ok b2.1.1 b2.1.2.2.1 b2.2.1
  obtain ⟨σ', z⟩ := law_41_ok xs L hL 35 1 FU 199 0 σ2 a (by omega) (fu_lt (by omega)) (by omega) b2 (by omega) (by omega)
  refine ⟨σ', ?_⟩
  show f_L_law_16 xs L (1999 + 1) σ = _
  simp (maxSteps := 2000000) (disch := first | rfl | exact q_e1 _ _ _ | exact q_sr1 _ _ | omega) only [f_L_law_16, ey, b1, es, z, ↓q_m1, q_l0, q_l1, q_l2, q_l3, q_l4, q_l5, q_l6, q_l7, q_l8, q_l9, q_l10, q_l11, q_l12, q_l13, q_l14, q_l15, q_l16, q_l17, q_l18, q_l19, q_l20, q_l21, q_l22, q_l23, q_l24, q_l25, q_l26, q_l27, q_l28, q_l29, q_l30, q_l31, q_l32, q_l33, q_l45, q_l46, q_l48, q_l57, q_l58, q_l59, q_l60, q_l61, q_l62, q_l63, q_l64, q_l96, q_l97, q_l99, q_l122, q_l129, q_l137, q_l255, q_l256, q_l400, q_l680, q_l700, q_l959, q_l999, q_l9999, q_l10000, q_l100000, q_l36, q_l50, q_l100, q_l112, q_l200, q_ltT, q_ltF, q_leT, q_leF, q_eqF, q_eqR, q_mlt, q_mle, q_nlm, q_nLm, q_nem, q_men, q_mlm, Nat.add_zero, Nat.sub_zero, q_add0, pk_rem, nI_add, pk_mul, q_sub, q_subm, q_addm, nI_clamp, q_inT, q_inF, q_sr1, q_srn, q_srw, q_srs, q_wIs, q_wIn, q_wI2, q_wJ1, q_wJs, q_wJn, q_wR1, q_wRs, q_wRn, q_wI22, q_wJ22, pk_us, pk_un, pk_uLs, pk_uLn, q_usS, q_usN, q_ups, q_upn, Bool.true_eq_false, Bool.false_eq_true, q_lt, q_o2, q_o3, q_o4, q_o5, q_bi, ↓reduceIte, q_tv0, q_tv1, q_bz, q_oRl, q_oRr, q_oXl, q_oXr]
end LAW
set_option maxRecDepth 1000000 in
/-- the first text is a setup without a fault -/
theorem fi_ok : (f_X9_read ZM (wI ZM 0 2 (-1)) ZM (bt 0 188)).map (fun r => r.1) = some 1 := by decide +kernel
theorem law_true (xs : Nat → Int32) (L : Nat) (hL : L ≤ 260) : ∃ rv μ1 π1 τ1 σ', f_X9_read ZM (wI ZM 0 2 (-1)) ZM (bt 0 188) = some (rv, μ1, π1, τ1) ∧ f_L_law_16 xs L FU (us (σ1 μ1 π1 τ1) 20 ZM) = some σ' := by
  have h := fi_ok
  generalize f_X9_read ZM (wI ZM 0 2 (-1)) ZM (bt 0 188) = z at h
  cases z with
  | none => cases h
  | some r =>
    obtain ⟨rv, μ1, π1, τ1⟩ := r
    obtain ⟨σ', e⟩ := law_16_ok xs L hL (σ := us (σ1 μ1 π1 τ1) 20 ZM) (by rw [q_usN (by omega), σ1, q_usS, q_wIs, pk_us]; rfl) (by rw [q_usS]; rfl)
    exact ⟨rv, μ1, π1, τ1, σ', rfl, e⟩

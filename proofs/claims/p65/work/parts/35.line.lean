/-! the law's own line -/
def LN (ω : OM) (L : List Nat) : Prop := ω.1 0 17 = nI L.length ∧ L.length ≤ 8 ∧ ∀ k x, L[k]? = some x → x < 8 ∧ ω.1 8 k = nI x
section LINE
variable {ω : OM} {X Y : List Nat} {y : Nat}
theorem ln_pre (h : LN ω (X ++ y :: Y)) (hy : y ∉ X) : (∀ k, k < X.length → ∃ z, z < 8 ∧ z ≠ y ∧ ω.1 8 k = nI z) ∧ y < 8 ∧ ω.1 8 X.length = nI y ∧ X.length + 1 + Y.length ≤ 8 ∧ ω.1 0 17 = nI (X.length + 1 + Y.length) := by
  obtain ⟨h1, h2, h3⟩ := h
  have el : (X ++ y :: Y).length = X.length + 1 + Y.length := by simp; omega
  rw [el] at h1 h2
  have hat := h3 X.length y (by rw [List.getElem?_append_right (Nat.le_refl _), Nat.sub_self]; rfl)
  refine ⟨fun k hk => ?_, hat.1, hat.2, h2, h1⟩
  have hx : X[k]? = some X[k] := List.getElem?_eq_getElem hk
  have := h3 k X[k] (by rw [List.getElem?_append_left hk]; exact hx)
  exact ⟨X[k], this.1, fun e => hy (e ▸ List.getElem_mem hk), this.2⟩
theorem o_where_in (h : LN ω (X ++ y :: Y)) (hy : y ∉ X) : f_X13_where (nI y) ω = some (nI X.length) := by
  obtain ⟨h1, h2, h3, h4, h5⟩ := ln_pre h hy
  have key : ∀ r k m, k + r = X.length → r < m → f_X13_where_2 (nI y) ω m (nI k) = some (nI X.length) := by
    intro r
    induction r with
    | zero =>
      intro k m hk hm
      obtain ⟨m, rfl⟩ : ∃ q, m = q + 1 := ⟨m - 1, by omega⟩
      obtain rfl : k = X.length := by omega
      simp (maxSteps := 2000000) (disch := first | rfl | exact q_e1 _ _ _ | exact q_sr1 _ _ | omega) only [f_X13_where_2, ↓q_m1, q_l0, q_l1, q_l2, q_l3, q_l4, q_l5, q_l6, q_l7, q_l8, q_l9, q_l10, q_l11, q_l12, q_l13, q_l14, q_l15, q_l16, q_l17, q_l18, q_l19, q_l20, q_l21, q_l22, q_l23, q_l24, q_l25, q_l26, q_l27, q_l28, q_l29, q_l30, q_l31, q_l32, q_l33, q_l45, q_l46, q_l48, q_l57, q_l58, q_l59, q_l60, q_l61, q_l62, q_l63, q_l64, q_l96, q_l97, q_l99, q_l122, q_l129, q_l137, q_l255, q_l256, q_l400, q_l680, q_l700, q_l959, q_l999, q_l9999, q_l10000, q_l100000, q_l36, q_l50, q_l100, q_l112, q_l200, q_ltT, q_ltF, q_leT, q_leF, q_eqF, q_eqR, q_mlt, q_mle, q_nlm, q_nLm, q_nem, q_men, q_mlm, Nat.add_zero, Nat.sub_zero, q_add0, pk_rem, nI_add, pk_mul, q_sub, q_subm, q_addm, nI_clamp, q_inT, q_inF, q_sr1, q_srn, q_srw, q_srs, q_wIs, q_wIn, q_wI2, q_wJ1, q_wJs, q_wJn, q_wR1, q_wRs, q_wRn, q_wI22, q_wJ22, pk_us, pk_un, pk_uLs, pk_uLn, q_usS, q_usN, q_ups, q_upn, Bool.true_eq_false, Bool.false_eq_true, q_lt, q_o2, q_o3, q_o4, q_o5, q_bi, ↓reduceIte, q_tv0, q_tv1, q_bz, q_oRl, q_oRr, q_oXl, q_oXr, h5, h3]
    | succ r ih =>
      intro k m hk hm
      obtain ⟨m, rfl⟩ : ∃ q, m = q + 1 := ⟨m - 1, by omega⟩
      obtain ⟨z, z1, z2, z3⟩ := h1 k (by omega)
      simp (maxSteps := 2000000) (disch := first | rfl | exact q_e1 _ _ _ | exact q_sr1 _ _ | omega) only [f_X13_where_2, ↓q_m1, q_l0, q_l1, q_l2, q_l3, q_l4, q_l5, q_l6, q_l7, q_l8, q_l9, q_l10, q_l11, q_l12, q_l13, q_l14, q_l15, q_l16, q_l17, q_l18, q_l19, q_l20, q_l21, q_l22, q_l23, q_l24, q_l25, q_l26, q_l27, q_l28, q_l29, q_l30, q_l31, q_l32, q_l33, q_l45, q_l46, q_l48, q_l57, q_l58, q_l59, q_l60, q_l61, q_l62, q_l63, q_l64, q_l96, q_l97, q_l99, q_l122, q_l129, q_l137, q_l255, q_l256, q_l400, q_l680, q_l700, q_l959, q_l999, q_l9999, q_l10000, q_l100000, q_l36, q_l50, q_l100, q_l112, q_l200, q_ltT, q_ltF, q_leT, q_leF, q_eqF, q_eqR, q_mlt, q_mle, q_nlm, q_nLm, q_nem, q_men, q_mlm, Nat.add_zero, Nat.sub_zero, q_add0, pk_rem, nI_add, pk_mul, q_sub, q_subm, q_addm, nI_clamp, q_inT, q_inF, q_sr1, q_srn, q_srw, q_srs, q_wIs, q_wIn, q_wI2, q_wJ1, q_wJs, q_wJn, q_wR1, q_wRs, q_wRn, q_wI22, q_wJ22, pk_us, pk_un, pk_uLs, pk_uLn, q_usS, q_usN, q_ups, q_upn, Bool.true_eq_false, Bool.false_eq_true, q_lt, q_o2, q_o3, q_o4, q_o5, q_bi, ↓reduceIte, q_tv0, q_tv1, q_bz, q_oRl, q_oRr, q_oXl, q_oXr, h5, z3]
      exact ih (k + 1) m (by omega) (by omega)
  exact key X.length 0 FU (by omega) (fu_lt (by omega))
theorem o_where_no {L : List Nat} (h : LN ω L) (h8 : y < 8) (hy : y ∉ L) : f_X13_where (nI y) ω = some m1 := by
  obtain ⟨h1, h2, h3⟩ := h
  have key : ∀ r k m, k + r = L.length → r < m → f_X13_where_2 (nI y) ω m (nI k) = some m1 := by
    intro r
    induction r with
    | zero =>
      intro k m hk hm
      obtain ⟨m, rfl⟩ : ∃ q, m = q + 1 := ⟨m - 1, by omega⟩
      obtain rfl : k = L.length := by omega
      simp (maxSteps := 2000000) (disch := first | rfl | exact q_e1 _ _ _ | exact q_sr1 _ _ | omega) only [f_X13_where_2, ↓q_m1, q_l0, q_l1, q_l2, q_l3, q_l4, q_l5, q_l6, q_l7, q_l8, q_l9, q_l10, q_l11, q_l12, q_l13, q_l14, q_l15, q_l16, q_l17, q_l18, q_l19, q_l20, q_l21, q_l22, q_l23, q_l24, q_l25, q_l26, q_l27, q_l28, q_l29, q_l30, q_l31, q_l32, q_l33, q_l45, q_l46, q_l48, q_l57, q_l58, q_l59, q_l60, q_l61, q_l62, q_l63, q_l64, q_l96, q_l97, q_l99, q_l122, q_l129, q_l137, q_l255, q_l256, q_l400, q_l680, q_l700, q_l959, q_l999, q_l9999, q_l10000, q_l100000, q_l36, q_l50, q_l100, q_l112, q_l200, q_ltT, q_ltF, q_leT, q_leF, q_eqF, q_eqR, q_mlt, q_mle, q_nlm, q_nLm, q_nem, q_men, q_mlm, Nat.add_zero, Nat.sub_zero, q_add0, pk_rem, nI_add, pk_mul, q_sub, q_subm, q_addm, nI_clamp, q_inT, q_inF, q_sr1, q_srn, q_srw, q_srs, q_wIs, q_wIn, q_wI2, q_wJ1, q_wJs, q_wJn, q_wR1, q_wRs, q_wRn, q_wI22, q_wJ22, pk_us, pk_un, pk_uLs, pk_uLn, q_usS, q_usN, q_ups, q_upn, Bool.true_eq_false, Bool.false_eq_true, q_lt, q_o2, q_o3, q_o4, q_o5, q_bi, ↓reduceIte, q_tv0, q_tv1, q_bz, q_oRl, q_oRr, q_oXl, q_oXr, h1]
    | succ r ih =>
      intro k m hk hm
      obtain ⟨m, rfl⟩ : ∃ q, m = q + 1 := ⟨m - 1, by omega⟩
      have hkl : k < L.length := by omega
      obtain ⟨z1, z2⟩ := h3 k L[k] (List.getElem?_eq_getElem hkl)
      have z3 : L[k] ≠ y := fun e => hy (e ▸ List.getElem_mem hkl)
      generalize L[k] = z at z1 z2 z3
      simp (maxSteps := 2000000) (disch := first | rfl | exact q_e1 _ _ _ | exact q_sr1 _ _ | omega) only [f_X13_where_2, ↓q_m1, q_l0, q_l1, q_l2, q_l3, q_l4, q_l5, q_l6, q_l7, q_l8, q_l9, q_l10, q_l11, q_l12, q_l13, q_l14, q_l15, q_l16, q_l17, q_l18, q_l19, q_l20, q_l21, q_l22, q_l23, q_l24, q_l25, q_l26, q_l27, q_l28, q_l29, q_l30, q_l31, q_l32, q_l33, q_l45, q_l46, q_l48, q_l57, q_l58, q_l59, q_l60, q_l61, q_l62, q_l63, q_l64, q_l96, q_l97, q_l99, q_l122, q_l129, q_l137, q_l255, q_l256, q_l400, q_l680, q_l700, q_l959, q_l999, q_l9999, q_l10000, q_l100000, q_l36, q_l50, q_l100, q_l112, q_l200, q_ltT, q_ltF, q_leT, q_leF, q_eqF, q_eqR, q_mlt, q_mle, q_nlm, q_nLm, q_nem, q_men, q_mlm, Nat.add_zero, Nat.sub_zero, q_add0, pk_rem, nI_add, pk_mul, q_sub, q_subm, q_addm, nI_clamp, q_inT, q_inF, q_sr1, q_srn, q_srw, q_srs, q_wIs, q_wIn, q_wI2, q_wJ1, q_wJs, q_wJn, q_wR1, q_wRs, q_wRn, q_wI22, q_wJ22, pk_us, pk_un, pk_uLs, pk_uLn, q_usS, q_usN, q_ups, q_upn, Bool.true_eq_false, Bool.false_eq_true, q_lt, q_o2, q_o3, q_o4, q_o5, q_bi, ↓reduceIte, q_tv0, q_tv1, q_bz, q_oRl, q_oRr, q_oXl, q_oXr, h1, z2]
      exact ih (k + 1) m (by omega) (by omega)
  exact key L.length 0 FU (by omega) (fu_lt (by omega))
theorem o_whereAll {n w : Nat} (h17 : ω.1 0 17 = nI n) (hn : n ≤ 7) (hw : w ≤ n) (y8 : y < 8) (h1 : ∀ k, k < w → ∃ z, z < 8 ∧ z ≠ y ∧ ω.1 8 k = nI z) (h3 : ω.1 8 w = nI y) : f_X13_whereAll (nI y) ω = some (nI w) := by
  have key : ∀ r k m, k + r = w → r < m → f_X13_whereAll_2 (nI y) ω m (nI k) = some (nI w) := by
    intro r
    induction r with
    | zero =>
      intro k m hk hm
      obtain ⟨m, rfl⟩ : ∃ q, m = q + 1 := ⟨m - 1, by omega⟩
      obtain rfl : k = w := by omega
      simp (maxSteps := 2000000) (disch := first | rfl | exact q_e1 _ _ _ | exact q_sr1 _ _ | omega) only [f_X13_whereAll_2, ↓q_m1, q_l0, q_l1, q_l2, q_l3, q_l4, q_l5, q_l6, q_l7, q_l8, q_l9, q_l10, q_l11, q_l12, q_l13, q_l14, q_l15, q_l16, q_l17, q_l18, q_l19, q_l20, q_l21, q_l22, q_l23, q_l24, q_l25, q_l26, q_l27, q_l28, q_l29, q_l30, q_l31, q_l32, q_l33, q_l45, q_l46, q_l48, q_l57, q_l58, q_l59, q_l60, q_l61, q_l62, q_l63, q_l64, q_l96, q_l97, q_l99, q_l122, q_l129, q_l137, q_l255, q_l256, q_l400, q_l680, q_l700, q_l959, q_l999, q_l9999, q_l10000, q_l100000, q_l36, q_l50, q_l100, q_l112, q_l200, q_ltT, q_ltF, q_leT, q_leF, q_eqF, q_eqR, q_mlt, q_mle, q_nlm, q_nLm, q_nem, q_men, q_mlm, Nat.add_zero, Nat.sub_zero, q_add0, pk_rem, nI_add, pk_mul, q_sub, q_subm, q_addm, nI_clamp, q_inT, q_inF, q_sr1, q_srn, q_srw, q_srs, q_wIs, q_wIn, q_wI2, q_wJ1, q_wJs, q_wJn, q_wR1, q_wRs, q_wRn, q_wI22, q_wJ22, pk_us, pk_un, pk_uLs, pk_uLn, q_usS, q_usN, q_ups, q_upn, Bool.true_eq_false, Bool.false_eq_true, q_lt, q_o2, q_o3, q_o4, q_o5, q_bi, ↓reduceIte, q_tv0, q_tv1, q_bz, q_oRl, q_oRr, q_oXl, q_oXr, h17, h3]
    | succ r ih =>
      intro k m hk hm
      obtain ⟨m, rfl⟩ : ∃ q, m = q + 1 := ⟨m - 1, by omega⟩
      obtain ⟨z, z1, z2, z3⟩ := h1 k (by omega)
      simp (maxSteps := 2000000) (disch := first | rfl | exact q_e1 _ _ _ | exact q_sr1 _ _ | omega) only [f_X13_whereAll_2, ↓q_m1, q_l0, q_l1, q_l2, q_l3, q_l4, q_l5, q_l6, q_l7, q_l8, q_l9, q_l10, q_l11, q_l12, q_l13, q_l14, q_l15, q_l16, q_l17, q_l18, q_l19, q_l20, q_l21, q_l22, q_l23, q_l24, q_l25, q_l26, q_l27, q_l28, q_l29, q_l30, q_l31, q_l32, q_l33, q_l45, q_l46, q_l48, q_l57, q_l58, q_l59, q_l60, q_l61, q_l62, q_l63, q_l64, q_l96, q_l97, q_l99, q_l122, q_l129, q_l137, q_l255, q_l256, q_l400, q_l680, q_l700, q_l959, q_l999, q_l9999, q_l10000, q_l100000, q_l36, q_l50, q_l100, q_l112, q_l200, q_ltT, q_ltF, q_leT, q_leF, q_eqF, q_eqR, q_mlt, q_mle, q_nlm, q_nLm, q_nem, q_men, q_mlm, Nat.add_zero, Nat.sub_zero, q_add0, pk_rem, nI_add, pk_mul, q_sub, q_subm, q_addm, nI_clamp, q_inT, q_inF, q_sr1, q_srn, q_srw, q_srs, q_wIs, q_wIn, q_wI2, q_wJ1, q_wJs, q_wJn, q_wR1, q_wRs, q_wRn, q_wI22, q_wJ22, pk_us, pk_un, pk_uLs, pk_uLn, q_usS, q_usN, q_ups, q_upn, Bool.true_eq_false, Bool.false_eq_true, q_lt, q_o2, q_o3, q_o4, q_o5, q_bi, ↓reduceIte, q_tv0, q_tv1, q_bz, q_oRl, q_oRr, q_oXl, q_oXr, h17, z3]
      exact ih (k + 1) m (by omega) (by omega)
  exact key w 0 FU (by omega) (fu_lt (by omega))
theorem o_shift {n : Nat} (hn : n ≤ 7) : ∀ (r w m : Nat) (ω : OM), w + r = n → r < m → ω.1 0 17 = nI n → ∃ ω', f_X13_give_35 m (nI w) ω = some ω' ∧ (∀ k, k ≠ 8 → ω'.1 k = ω.1 k) ∧ ∀ k, ω'.1 8 k = if w ≤ k ∧ k < n then ω.1 8 (k + 1) else ω.1 8 k := by
  intro r
  induction r with
  | zero =>
    intro w m ω hw hm h17
    obtain ⟨m, rfl⟩ : ∃ q, m = q + 1 := ⟨m - 1, by omega⟩
    obtain rfl : w = n := by omega
    exact ⟨ω, by simp (maxSteps := 2000000) (disch := first | rfl | exact q_e1 _ _ _ | exact q_sr1 _ _ | omega) only [f_X13_give_35, ↓q_m1, q_l0, q_l1, q_l2, q_l3, q_l4, q_l5, q_l6, q_l7, q_l8, q_l9, q_l10, q_l11, q_l12, q_l13, q_l14, q_l15, q_l16, q_l17, q_l18, q_l19, q_l20, q_l21, q_l22, q_l23, q_l24, q_l25, q_l26, q_l27, q_l28, q_l29, q_l30, q_l31, q_l32, q_l33, q_l45, q_l46, q_l48, q_l57, q_l58, q_l59, q_l60, q_l61, q_l62, q_l63, q_l64, q_l96, q_l97, q_l99, q_l122, q_l129, q_l137, q_l255, q_l256, q_l400, q_l680, q_l700, q_l959, q_l999, q_l9999, q_l10000, q_l100000, q_l36, q_l50, q_l100, q_l112, q_l200, q_ltT, q_ltF, q_leT, q_leF, q_eqF, q_eqR, q_mlt, q_mle, q_nlm, q_nLm, q_nem, q_men, q_mlm, Nat.add_zero, Nat.sub_zero, q_add0, pk_rem, nI_add, pk_mul, q_sub, q_subm, q_addm, nI_clamp, q_inT, q_inF, q_sr1, q_srn, q_srw, q_srs, q_wIs, q_wIn, q_wI2, q_wJ1, q_wJs, q_wJn, q_wR1, q_wRs, q_wRn, q_wI22, q_wJ22, pk_us, pk_un, pk_uLs, pk_uLn, q_usS, q_usN, q_ups, q_upn, Bool.true_eq_false, Bool.false_eq_true, q_lt, q_o2, q_o3, q_o4, q_o5, q_bi, ↓reduceIte, q_tv0, q_tv1, q_bz, q_oRl, q_oRr, q_oXl, q_oXr, h17], fun _ _ => rfl, fun k => by rw [if_neg (by omega)]⟩
  | succ r ih =>
    intro w m ω hw hm h17
    obtain ⟨m, rfl⟩ : ∃ q, m = q + 1 := ⟨m - 1, by omega⟩
    obtain ⟨ω', f1, f2, f3⟩ := ih (w + 1) m (wI ω 8 w (ω.1 8 (w + 1))) (by omega) (by omega) ((congrFun (q_wIn (by omega)) 17).trans h17)
    refine ⟨ω', ?_, fun k hk => (f2 k hk).trans (q_wIn hk), fun k => ?_⟩
    · simp (maxSteps := 2000000) (disch := first | rfl | exact q_e1 _ _ _ | exact q_sr1 _ _ | omega) only [f_X13_give_35, ↓q_m1, q_l0, q_l1, q_l2, q_l3, q_l4, q_l5, q_l6, q_l7, q_l8, q_l9, q_l10, q_l11, q_l12, q_l13, q_l14, q_l15, q_l16, q_l17, q_l18, q_l19, q_l20, q_l21, q_l22, q_l23, q_l24, q_l25, q_l26, q_l27, q_l28, q_l29, q_l30, q_l31, q_l32, q_l33, q_l45, q_l46, q_l48, q_l57, q_l58, q_l59, q_l60, q_l61, q_l62, q_l63, q_l64, q_l96, q_l97, q_l99, q_l122, q_l129, q_l137, q_l255, q_l256, q_l400, q_l680, q_l700, q_l959, q_l999, q_l9999, q_l10000, q_l100000, q_l36, q_l50, q_l100, q_l112, q_l200, q_ltT, q_ltF, q_leT, q_leF, q_eqF, q_eqR, q_mlt, q_mle, q_nlm, q_nLm, q_nem, q_men, q_mlm, Nat.add_zero, Nat.sub_zero, q_add0, pk_rem, nI_add, pk_mul, q_sub, q_subm, q_addm, nI_clamp, q_inT, q_inF, q_sr1, q_srn, q_srw, q_srs, q_wIs, q_wIn, q_wI2, q_wJ1, q_wJs, q_wJn, q_wR1, q_wRs, q_wRn, q_wI22, q_wJ22, pk_us, pk_un, pk_uLs, pk_uLn, q_usS, q_usN, q_ups, q_upn, Bool.true_eq_false, Bool.false_eq_true, q_lt, q_o2, q_o3, q_o4, q_o5, q_bi, ↓reduceIte, q_tv0, q_tv1, q_bz, q_oRl, q_oRr, q_oXl, q_oXr, h17]
      exact f1
    · rw [f3 k]
      by_cases c : w + 1 ≤ k ∧ k < n
      · rw [if_pos c, if_pos (by omega), q_wIs, pk_un (by omega)]
      · rw [if_neg c, q_wIs]
        by_cases e : k = w
        · subst e; rw [pk_us, if_pos (by omega)]
        · rw [pk_un e, if_neg (by omega)]
theorem at_del {X Y : List Nat} {y k z : Nat} (h : (X ++ Y)[k]? = some z) : (k < X.length ∧ (X ++ y :: Y)[k]? = some z) ∨ (X.length ≤ k ∧ (X ++ y :: Y)[k + 1]? = some z) := by
  by_cases c : k < X.length
  · rw [List.getElem?_append_left c] at h
    exact Or.inl ⟨c, by rw [List.getElem?_append_left c]; exact h⟩
  · rw [List.getElem?_append_right (by omega)] at h
    refine Or.inr ⟨by omega, ?_⟩
    rw [List.getElem?_append_right (by omega), show k + 1 - X.length = (k - X.length) + 1 by omega, List.getElem?_cons_succ]
    exact h
theorem o_give (h : LN ω (X ++ y :: Y)) (hy : y ∉ X) {v : Int32} (hv : v = m1 ∨ ∃ t, t < 8 ∧ v = nI t) : ∃ ω', f_X13_give (nI y) v ω = some ω' ∧ LN ω' (X ++ Y) ∧ (∀ k, k ≠ 0 → k ≠ 8 → k ≠ 10 → k ≠ 20 → ω'.1 k = ω.1 k) ∧ (∀ j, j ≠ 17 → ω'.1 0 j = ω.1 0 j) ∧ ω'.1 10 = upd (ω.1 10) y v ∧ ∀ t, t < 8 → ω'.1 20 t = if v = nI t then nI 1 else ω.1 20 t := by
  obtain ⟨h1, h2, h3, h4, h5⟩ := ln_pre h hy
  have main : ∀ s : OM, s.1 0 17 = nI (X.length + Y.length) → s.1 8 = ω.1 8 → ∃ ω', (f_X13_whereAll (nI y) s).bind (fun r4 => f_X13_give_35 FU r4 s) = some ω' ∧ LN ω' (X ++ Y) ∧ ∀ k, k ≠ 8 → ω'.1 k = s.1 k := by
    intro s s17 s8
    have e := o_whereAll (ω := s) (n := X.length + Y.length) (w := X.length) s17 (by omega) (by omega) h2 (by rw [s8]; exact h1) (by rw [s8]; exact h3)
    obtain ⟨ω', f1, f2, f3⟩ := o_shift (n := X.length + Y.length) (by omega) Y.length X.length FU s (by omega) (fu_lt (by omega)) s17
    refine ⟨ω', by rw [e]; exact f1, ⟨by rw [f2 0 (by omega), s17, List.length_append], by rw [List.length_append]; omega, fun k z hz => ?_⟩, f2⟩
    have hk : k < X.length + Y.length := by
      have := (List.getElem?_eq_some_iff.mp hz).1
      rw [List.length_append] at this
      exact this
    rw [f3 k, s8]
    rcases at_del (y := y) hz with ⟨c, q⟩ | ⟨c, q⟩
    · obtain ⟨q1, q2⟩ := h.2.2 k z q
      rw [if_neg (by omega)]; exact ⟨q1, q2⟩
    · obtain ⟨q1, q2⟩ := h.2.2 (k + 1) z q
      rw [if_pos ⟨c, hk⟩]; exact ⟨q1, q2⟩
  rcases hv with rfl | ⟨t, ht, rfl⟩
  · obtain ⟨ω', f1, f2, f3⟩ := main (wI (wI ω 10 y m1) 0 17 (nI (X.length + Y.length))) (by simp (maxSteps := 2000000) (disch := first | rfl | exact q_e1 _ _ _ | exact q_sr1 _ _ | omega) only [q_sr1, q_srn, q_srw, q_srs, q_wIs, q_wIn, q_wI2, q_wJ1, q_wJs, q_wJn, q_wR1, q_wRs, q_wRn, q_wI22, q_wJ22, pk_us, pk_un, pk_uLs, pk_uLn, q_usS, q_usN, q_ups, q_upn]) (by rw [q_wIn (by omega), q_wIn (by omega)])
    refine ⟨ω', ?_, f2, fun k h0 h8 h10 h20 => ?_, fun j hj => ?_, ?_, fun t ht => ?_⟩
    · have e1 : X.length + 1 + Y.length - 1 = X.length + Y.length := by omega
      simp (maxSteps := 2000000) (disch := first | rfl | exact q_e1 _ _ _ | exact q_sr1 _ _ | omega) only [f_X13_give, ↓q_m1, q_l0, q_l1, q_l2, q_l3, q_l4, q_l5, q_l6, q_l7, q_l8, q_l9, q_l10, q_l11, q_l12, q_l13, q_l14, q_l15, q_l16, q_l17, q_l18, q_l19, q_l20, q_l21, q_l22, q_l23, q_l24, q_l25, q_l26, q_l27, q_l28, q_l29, q_l30, q_l31, q_l32, q_l33, q_l45, q_l46, q_l48, q_l57, q_l58, q_l59, q_l60, q_l61, q_l62, q_l63, q_l64, q_l96, q_l97, q_l99, q_l122, q_l129, q_l137, q_l255, q_l256, q_l400, q_l680, q_l700, q_l959, q_l999, q_l9999, q_l10000, q_l100000, q_l36, q_l50, q_l100, q_l112, q_l200, q_ltT, q_ltF, q_leT, q_leF, q_eqF, q_eqR, q_mlt, q_mle, q_nlm, q_nLm, q_nem, q_men, q_mlm, Nat.add_zero, Nat.sub_zero, q_add0, pk_rem, nI_add, pk_mul, q_sub, q_subm, q_addm, nI_clamp, q_inT, q_inF, q_sr1, q_srn, q_srw, q_srs, q_wIs, q_wIn, q_wI2, q_wJ1, q_wJs, q_wJn, q_wR1, q_wRs, q_wRn, q_wI22, q_wJ22, pk_us, pk_un, pk_uLs, pk_uLn, q_usS, q_usN, q_ups, q_upn, Bool.true_eq_false, Bool.false_eq_true, q_lt, q_o2, q_o3, q_o4, q_o5, q_bi, ↓reduceIte, q_tv0, q_tv1, q_bz, q_oRl, q_oRr, q_oXl, q_oXr, h5, e1]
      exact f1
    · rw [f3 k h8, q_wIn h0, q_wIn h10]
    · rw [f3 0 (by omega), q_wIs, pk_un hj, q_wIn (by omega)]
    · rw [f3 10 (by omega), q_wIn (by omega), q_wIs]
    · rw [f3 20 (by omega), q_wIn (by omega), q_wIn (by omega), if_neg (fun q => (q_men (show t < 2 ^ 31 by omega)).mp q)]
  · obtain ⟨ω', f1, f2, f3⟩ := main (wI (wI (wI ω 10 y (nI t)) 20 t (nI 1)) 0 17 (nI (X.length + Y.length))) (by simp (maxSteps := 2000000) (disch := first | rfl | exact q_e1 _ _ _ | exact q_sr1 _ _ | omega) only [q_sr1, q_srn, q_srw, q_srs, q_wIs, q_wIn, q_wI2, q_wJ1, q_wJs, q_wJn, q_wR1, q_wRs, q_wRn, q_wI22, q_wJ22, pk_us, pk_un, pk_uLs, pk_uLn, q_usS, q_usN, q_ups, q_upn]) (by rw [q_wIn (by omega), q_wIn (by omega), q_wIn (by omega)])
    refine ⟨ω', ?_, f2, fun k h0 h8 h10 h20 => ?_, fun j hj => ?_, ?_, fun t' ht' => ?_⟩
    · have e1 : X.length + 1 + Y.length - 1 = X.length + Y.length := by omega
      simp (maxSteps := 2000000) (disch := first | rfl | exact q_e1 _ _ _ | exact q_sr1 _ _ | omega) only [f_X13_give, ↓q_m1, q_l0, q_l1, q_l2, q_l3, q_l4, q_l5, q_l6, q_l7, q_l8, q_l9, q_l10, q_l11, q_l12, q_l13, q_l14, q_l15, q_l16, q_l17, q_l18, q_l19, q_l20, q_l21, q_l22, q_l23, q_l24, q_l25, q_l26, q_l27, q_l28, q_l29, q_l30, q_l31, q_l32, q_l33, q_l45, q_l46, q_l48, q_l57, q_l58, q_l59, q_l60, q_l61, q_l62, q_l63, q_l64, q_l96, q_l97, q_l99, q_l122, q_l129, q_l137, q_l255, q_l256, q_l400, q_l680, q_l700, q_l959, q_l999, q_l9999, q_l10000, q_l100000, q_l36, q_l50, q_l100, q_l112, q_l200, q_ltT, q_ltF, q_leT, q_leF, q_eqF, q_eqR, q_mlt, q_mle, q_nlm, q_nLm, q_nem, q_men, q_mlm, Nat.add_zero, Nat.sub_zero, q_add0, pk_rem, nI_add, pk_mul, q_sub, q_subm, q_addm, nI_clamp, q_inT, q_inF, q_sr1, q_srn, q_srw, q_srs, q_wIs, q_wIn, q_wI2, q_wJ1, q_wJs, q_wJn, q_wR1, q_wRs, q_wRn, q_wI22, q_wJ22, pk_us, pk_un, pk_uLs, pk_uLn, q_usS, q_usN, q_ups, q_upn, Bool.true_eq_false, Bool.false_eq_true, q_lt, q_o2, q_o3, q_o4, q_o5, q_bi, ↓reduceIte, q_tv0, q_tv1, q_bz, q_oRl, q_oRr, q_oXl, q_oXr, h5, e1]
      exact f1
    · rw [f3 k h8, q_wIn h0, q_wIn h20, q_wIn h10]
    · rw [f3 0 (by omega), q_wIs, pk_un hj, q_wIn (by omega), q_wIn (by omega)]
    · rw [f3 10 (by omega), q_wIn (by omega), q_wIn (by omega), q_wIs]
    · rw [f3 20 (by omega), q_wIn (by omega), q_wIs]
      by_cases e : t' = t
      · subst e; rw [pk_us, if_pos rfl]
      · rw [pk_un e, q_wIn (by omega), if_neg (fun q => e ((nI_eq (by omega) (by omega)).mp q).symm)]
theorem o_frontl : ∀ (w m : Nat) (ω : OM), w ≤ 7 → w < m → y < 8 → ∃ ω', f_X13_front_6 (nI y) m (nI w) ω = some ω' ∧ (∀ k, k ≠ 8 → ω'.1 k = ω.1 k) ∧ ω'.1 8 0 = nI y ∧ ∀ k, 1 ≤ k → ω'.1 8 k = if k ≤ w then ω.1 8 (k - 1) else ω.1 8 k := by
  intro w
  induction w with
  | zero =>
    intro m ω hw hm h8
    obtain ⟨m, rfl⟩ : ∃ q, m = q + 1 := ⟨m - 1, by omega⟩
    refine ⟨wI ω 8 0 (nI y), by simp (maxSteps := 2000000) (disch := first | rfl | exact q_e1 _ _ _ | exact q_sr1 _ _ | omega) only [f_X13_front_6, ↓q_m1, q_l0, q_l1, q_l2, q_l3, q_l4, q_l5, q_l6, q_l7, q_l8, q_l9, q_l10, q_l11, q_l12, q_l13, q_l14, q_l15, q_l16, q_l17, q_l18, q_l19, q_l20, q_l21, q_l22, q_l23, q_l24, q_l25, q_l26, q_l27, q_l28, q_l29, q_l30, q_l31, q_l32, q_l33, q_l45, q_l46, q_l48, q_l57, q_l58, q_l59, q_l60, q_l61, q_l62, q_l63, q_l64, q_l96, q_l97, q_l99, q_l122, q_l129, q_l137, q_l255, q_l256, q_l400, q_l680, q_l700, q_l959, q_l999, q_l9999, q_l10000, q_l100000, q_l36, q_l50, q_l100, q_l112, q_l200, q_ltT, q_ltF, q_leT, q_leF, q_eqF, q_eqR, q_mlt, q_mle, q_nlm, q_nLm, q_nem, q_men, q_mlm, Nat.add_zero, Nat.sub_zero, q_add0, pk_rem, nI_add, pk_mul, q_sub, q_subm, q_addm, nI_clamp, q_inT, q_inF, q_sr1, q_srn, q_srw, q_srs, q_wIs, q_wIn, q_wI2, q_wJ1, q_wJs, q_wJn, q_wR1, q_wRs, q_wRn, q_wI22, q_wJ22, pk_us, pk_un, pk_uLs, pk_uLn, q_usS, q_usN, q_ups, q_upn, Bool.true_eq_false, Bool.false_eq_true, q_lt, q_o2, q_o3, q_o4, q_o5, q_bi, ↓reduceIte, q_tv0, q_tv1, q_bz, q_oRl, q_oRr, q_oXl, q_oXr], fun k hk => q_wIn hk, by simp (maxSteps := 2000000) (disch := first | rfl | exact q_e1 _ _ _ | exact q_sr1 _ _ | omega) only [q_sr1, q_srn, q_srw, q_srs, q_wIs, q_wIn, q_wI2, q_wJ1, q_wJs, q_wJn, q_wR1, q_wRs, q_wRn, q_wI22, q_wJ22, pk_us, pk_un, pk_uLs, pk_uLn, q_usS, q_usN, q_ups, q_upn], fun k hk => ?_⟩
    rw [q_wIs, pk_un (by omega), if_neg (by omega)]
  | succ w ih =>
    intro m ω hw hm h8
    obtain ⟨m, rfl⟩ : ∃ q, m = q + 1 := ⟨m - 1, by omega⟩
    obtain ⟨ω', f1, f2, f3, f4⟩ := ih m (wI ω 8 (w + 1) (ω.1 8 w)) (by omega) (by omega) h8
    refine ⟨ω', ?_, fun k hk => (f2 k hk).trans (q_wIn hk), f3, fun k hk => ?_⟩
    · have e1 : w + 1 - 1 = w := by omega
      simp (maxSteps := 2000000) (disch := first | rfl | exact q_e1 _ _ _ | exact q_sr1 _ _ | omega) only [f_X13_front_6, ↓q_m1, q_l0, q_l1, q_l2, q_l3, q_l4, q_l5, q_l6, q_l7, q_l8, q_l9, q_l10, q_l11, q_l12, q_l13, q_l14, q_l15, q_l16, q_l17, q_l18, q_l19, q_l20, q_l21, q_l22, q_l23, q_l24, q_l25, q_l26, q_l27, q_l28, q_l29, q_l30, q_l31, q_l32, q_l33, q_l45, q_l46, q_l48, q_l57, q_l58, q_l59, q_l60, q_l61, q_l62, q_l63, q_l64, q_l96, q_l97, q_l99, q_l122, q_l129, q_l137, q_l255, q_l256, q_l400, q_l680, q_l700, q_l959, q_l999, q_l9999, q_l10000, q_l100000, q_l36, q_l50, q_l100, q_l112, q_l200, q_ltT, q_ltF, q_leT, q_leF, q_eqF, q_eqR, q_mlt, q_mle, q_nlm, q_nLm, q_nem, q_men, q_mlm, Nat.add_zero, Nat.sub_zero, q_add0, pk_rem, nI_add, pk_mul, q_sub, q_subm, q_addm, nI_clamp, q_inT, q_inF, q_sr1, q_srn, q_srw, q_srs, q_wIs, q_wIn, q_wI2, q_wJ1, q_wJs, q_wJn, q_wR1, q_wRs, q_wRn, q_wI22, q_wJ22, pk_us, pk_un, pk_uLs, pk_uLn, q_usS, q_usN, q_ups, q_upn, Bool.true_eq_false, Bool.false_eq_true, q_lt, q_o2, q_o3, q_o4, q_o5, q_bi, ↓reduceIte, q_tv0, q_tv1, q_bz, q_oRl, q_oRr, q_oXl, q_oXr, e1]
      exact f1
    · rw [f4 k hk]
      by_cases c : k ≤ w
      · rw [if_pos c, if_pos (by omega), q_wIs, pk_un (by omega)]
      · rw [if_neg c, q_wIs]
        by_cases e : k = w + 1
        · subst e; rw [pk_us, if_pos (by omega), Nat.add_sub_cancel]
        · rw [pk_un e, if_neg (by omega)]
theorem o_front (h : LN ω (X ++ y :: Y)) (hy : y ∉ X) : ∃ ω', f_X13_front (nI y) ω = some ω' ∧ LN ω' (y :: (X ++ Y)) ∧ ∀ k, k ≠ 8 → ω'.1 k = ω.1 k := by
  obtain ⟨h1, h2, h3, h4, h5⟩ := ln_pre h hy
  have e := o_where_in h hy
  obtain ⟨ω', f1, f2, f3, f4⟩ := o_frontl X.length FU ω (by omega) (fu_lt (by omega)) h2
  refine ⟨ω', by simp (maxSteps := 2000000) (disch := first | rfl | exact q_e1 _ _ _ | exact q_sr1 _ _ | omega) only [f_X13_front, ↓q_m1, q_l0, q_l1, q_l2, q_l3, q_l4, q_l5, q_l6, q_l7, q_l8, q_l9, q_l10, q_l11, q_l12, q_l13, q_l14, q_l15, q_l16, q_l17, q_l18, q_l19, q_l20, q_l21, q_l22, q_l23, q_l24, q_l25, q_l26, q_l27, q_l28, q_l29, q_l30, q_l31, q_l32, q_l33, q_l45, q_l46, q_l48, q_l57, q_l58, q_l59, q_l60, q_l61, q_l62, q_l63, q_l64, q_l96, q_l97, q_l99, q_l122, q_l129, q_l137, q_l255, q_l256, q_l400, q_l680, q_l700, q_l959, q_l999, q_l9999, q_l10000, q_l100000, q_l36, q_l50, q_l100, q_l112, q_l200, q_ltT, q_ltF, q_leT, q_leF, q_eqF, q_eqR, q_mlt, q_mle, q_nlm, q_nLm, q_nem, q_men, q_mlm, Nat.add_zero, Nat.sub_zero, q_add0, pk_rem, nI_add, pk_mul, q_sub, q_subm, q_addm, nI_clamp, q_inT, q_inF, q_sr1, q_srn, q_srw, q_srs, q_wIs, q_wIn, q_wI2, q_wJ1, q_wJs, q_wJn, q_wR1, q_wRs, q_wRn, q_wI22, q_wJ22, pk_us, pk_un, pk_uLs, pk_uLn, q_usS, q_usN, q_ups, q_upn, Bool.true_eq_false, Bool.false_eq_true, q_lt, q_o2, q_o3, q_o4, q_o5, q_bi, ↓reduceIte, q_tv0, q_tv1, q_bz, q_oRl, q_oRr, q_oXl, q_oXr, e, f1], ⟨?_, ?_, fun k z hz => ?_⟩, f2⟩
  · rw [f2 0 (by omega), h5, List.length_cons, List.length_append, show X.length + 1 + Y.length = X.length + Y.length + 1 by omega]
  · rw [List.length_cons, List.length_append]; omega
  · match k, hz with
    | 0, hz =>
      obtain rfl : y = z := Option.some.inj hz
      exact ⟨h2, f3⟩
    | k + 1, hz =>
      rw [List.getElem?_cons_succ] at hz
      rw [f4 (k + 1) (by omega)]
      rcases at_del (y := y) hz with ⟨c, q⟩ | ⟨c, q⟩
      · obtain ⟨q1, q2⟩ := h.2.2 k z q
        rw [if_pos (by omega), Nat.add_sub_cancel]; exact ⟨q1, q2⟩
      · obtain ⟨q1, q2⟩ := h.2.2 (k + 1) z q
        rw [if_neg (by omega)]; exact ⟨q1, q2⟩
end LINE
section LINE2
variable {S T : Nat} {ω : OM} {a : Nat → Int32}
/-- the first stall of a list that isn't taken, looked for from behind -/
theorem o_avail (o : OW S T ω a) (w : WL S T a) {x : Nat} (hx : x < S) {tk : Nat → Bool} (ht : ∀ t, t < T → ω.1 20 t = tv (tk t)) : f_X13_mechanism_98 (nI x) ω FU (nI (ln a x) - nI 1) m1 = some (rqv tk a x) := by
  have h8 := w.1.1
  have t8 := w.1.2
  have hl := (w.2.1 x hx).1
  have stop : ∀ m v, f_X13_mechanism_98 (nI x) ω (m + 1) m1 v = some v := fun m v => by
    rw [f_X13_mechanism_98, q_l0, if_pos (by decide)]
  have key : ∀ k m, k ≤ ln a x → k < m → f_X13_mechanism_98 (nI x) ω m (nI k - nI 1) (fvr (fun k => !tk (a (25 + 13 * x + (5 + k))).toNatClampNeg) (fun k => a (25 + 13 * x + (5 + k))) (ln a x - k) k) = some (rqv tk a x) := by
    intro k
    induction k with
    | zero =>
      intro m hk hm
      obtain ⟨m, rfl⟩ : ∃ q, m = q + 1 := ⟨m - 1, by omega⟩
      rw [q_subm rfl, stop, Nat.sub_zero]; rfl
    | succ k ih =>
      intro m hk hm
      obtain ⟨m, rfl⟩ : ∃ q, m = q + 1 := ⟨m - 1, by omega⟩
      obtain ⟨t, htT, e⟩ := w.2.2.1 x k hx (by omega)
      have eo : ω.1 (12 + x) k = nI t := (o.2.2.1 x k hx (by omega)).trans e
      have ih' := ih m (by omega) (by omega)
      rw [show ln a x - k = (ln a x - (k + 1)) + 1 by omega, fvr, e, nI_clamp (by omega)] at ih'
      rw [q_sub (by omega), Nat.add_sub_cancel]
      have em : nI k + m1 = nI k - nI 1 := by rw [Int32.sub_eq_add_neg, show -(nI 1) = m1 by decide]
      cases hk : tk t with
      | true =>
        rw [hk] at ih'
        have h20 := ht t htT
        rw [hk] at h20
        simp (maxSteps := 2000000) (disch := first | rfl | exact q_e1 _ _ _ | exact q_sr1 _ _ | omega) only [f_X13_mechanism_98, ↓q_m1, q_l0, nI_clamp, q_inT, q_ltF, Bool.true_eq_false, Bool.false_eq_true, q_lt, q_o2, q_o3, q_o4, q_o5, q_bi, ↓reduceIte, q_tv0, q_tv1, q_bz, q_oRl, q_oRr, q_oXl, q_oXr, eo, h20, em]
        exact ih'
      | false =>
        rw [hk] at ih'
        have h20 := ht t htT
        rw [hk] at h20
        simp (maxSteps := 2000000) (disch := first | rfl | exact q_e1 _ _ _ | exact q_sr1 _ _ | omega) only [f_X13_mechanism_98, ↓q_m1, q_l0, nI_clamp, q_inT, q_ltF, Bool.true_eq_false, Bool.false_eq_true, q_lt, q_o2, q_o3, q_o4, q_o5, q_bi, ↓reduceIte, q_tv0, q_tv1, q_bz, q_oRl, q_oRr, q_oXl, q_oXr, eo, h20, em]
        exact ih'
  have := key (ln a x) FU (Nat.le_refl _) (fu_lt (by omega))
  rw [Nat.sub_self] at this
  exact this
/-- a chain's end gets what it asked for, from the one whose stall is asked for on -/
theorem o_cycle {P5 : Nat → Int32} {x : Nat} {rq : Nat → Int32} (S8 : S ≤ 8) (x8 : x < 8) : ∀ (bs : List Nat) (b m : Nat) (ω : OM) (Q : List Nat), bs.length < m → ω.1 0 15 = nI S → (∀ i, i < S → ω.1 5 i = a (25 + 13 * i + 3)) → LN ω ((b :: bs).reverse ++ Q) → (b :: bs).Nodup → (b :: bs).getLast? = some x → (∀ i, i ∈ b :: bs → i < S ∧ ω.1 9 i = rq i) → (∀ i, i ∈ b :: bs → rq i = m1 ∨ ∃ t, t < 8 ∧ rq i = nI t) → (∀ k y z, (b :: bs)[k]? = some y → (b :: bs)[k + 1]? = some z → occ S a (rq y) = nI z) → ∃ ω', f_X13_mechanism_204 (nI x) (m + 1) (nI b) ω = some ω' ∧ LN ω' Q ∧ (∀ k, k ≠ 0 → k ≠ 8 → k ≠ 10 → k ≠ 20 → ω'.1 k = ω.1 k) ∧ (∀ j, j ≠ 17 → ω'.1 0 j = ω.1 0 j) ∧ (∀ i, ω'.1 10 i = if i ∈ b :: bs then rq i else ω.1 10 i) ∧ ∀ t, t < 8 → ω'.1 20 t = if (∃ i, i ∈ b :: bs ∧ rq i = nI t) then nI 1 else ω.1 20 t := by
  intro bs
  induction bs with
  | nil =>
    intro b m ω Q hm h15 h5 hL hn hlast hq hv ho
    obtain rfl : b = x := Option.some.inj hlast
    obtain ⟨m, rfl⟩ : ∃ q, m = q + 1 := ⟨m - 1, by have : ([] : List Nat).length = 0 := rfl; omega⟩
    obtain ⟨hb, eb⟩ := hq b (by simp)
    obtain ⟨ω', f1, f2, f3, f4, f5, f6⟩ := o_give (X := []) (Y := Q) (y := b) hL (by simp) (hv b (by simp))
    refine ⟨ω', ?_, f2, f3, f4, fun i => ?_, fun t ht => ?_⟩
    · have e2 : f_X13_mechanism_204 (nI b) (m + 1) m1 ω' = some ω' := by rw [f_X13_mechanism_204, q_m1, if_pos rfl]
      simp (maxSteps := 2000000) (disch := first | rfl | exact q_e1 _ _ _ | exact q_sr1 _ _ | omega) only [f_X13_mechanism_204, ↓q_m1, q_l0, nI_clamp, q_inT, q_nem, q_eqR, Bool.true_eq_false, Bool.false_eq_true, q_lt, q_o2, q_o3, q_o4, q_o5, q_bi, ↓reduceIte, q_tv0, q_tv1, q_bz, q_oRl, q_oRr, q_oXl, q_oXr, eb, f1]
    · rw [f5]
      by_cases e : i = b
      · subst e; rw [pk_us, if_pos (by simp)]
      · rw [pk_un e, if_neg (by simpa using e)]
    · rw [f6 t ht]
      by_cases e : rq b = nI t
      · rw [if_pos e, if_pos ⟨b, by simp, e⟩]
      · rw [if_neg e, if_neg (fun ⟨i, hi, q⟩ => e (by rw [← (List.mem_singleton.mp hi)]; exact q))]
  | cons c bs ih =>
    intro b m ω Q hm h15 h5 hL hn hlast hq hv ho
    rw [List.length_cons] at hm
    obtain ⟨m, rfl⟩ : ∃ q, m = q + 1 := ⟨m - 1, by omega⟩
    obtain ⟨hb, eb⟩ := hq b (by simp)
    obtain ⟨hc, _⟩ := hq c (by simp)
    have hnb := List.nodup_cons.mp hn
    have hlc : (c :: bs).getLast? = some x := by rw [← hlast, List.getLast?_cons_cons]
    have hxm : x ∈ c :: bs := List.mem_of_getLast? hlc
    have hbx : b ≠ x := fun e => hnb.1 (e ▸ hxm)
    have hL2 : LN ω ((c :: bs).reverse ++ b :: Q) := by
      have : (b :: c :: bs).reverse ++ Q = (c :: bs).reverse ++ b :: Q := by rw [List.reverse_cons, List.append_assoc]; rfl
      rw [← this]; exact hL
    obtain ⟨ω1, f1, f2, f3, f4, f5, f6⟩ := o_give (X := (c :: bs).reverse) (Y := Q) (y := b) hL2 (fun q => hnb.1 (List.mem_reverse.mp q)) (hv b (by simp))
    have ht : f_X13_tenant (rq b) ω = some (nI c) := by
      have e := ho 0 b c rfl rfl
      rw [← e]
      unfold f_X13_tenant
      rw [q_l0]
      refine lp_fd _ S ?_ ?_ (fu_lt (by omega))
      · intro n i hi
        simp (maxSteps := 2000000) (disch := first | rfl | exact q_e1 _ _ _ | exact q_sr1 _ _ | omega) only [f_X13_tenant_2, ↓q_m1, q_l0, q_l1, q_l2, q_l3, q_l4, q_l5, q_l6, q_l7, q_l8, q_l9, q_l10, q_l11, q_l12, q_l13, q_l14, q_l15, q_l16, q_l17, q_l18, q_l19, q_l20, q_l21, q_l22, q_l23, q_l24, q_l25, q_l26, q_l27, q_l28, q_l29, q_l30, q_l31, q_l32, q_l33, q_l45, q_l46, q_l48, q_l57, q_l58, q_l59, q_l60, q_l61, q_l62, q_l63, q_l64, q_l96, q_l97, q_l99, q_l122, q_l129, q_l137, q_l255, q_l256, q_l400, q_l680, q_l700, q_l959, q_l999, q_l9999, q_l10000, q_l100000, q_l36, q_l50, q_l100, q_l112, q_l200, q_ltT, q_ltF, q_leT, q_leF, q_eqF, q_eqR, q_mlt, q_mle, q_nlm, q_nLm, q_nem, q_men, q_mlm, Nat.add_zero, Nat.sub_zero, q_add0, pk_rem, nI_add, pk_mul, q_sub, q_subm, q_addm, nI_clamp, q_inT, q_inF, q_sr1, q_srn, q_srw, q_srs, q_wIs, q_wIn, q_wI2, q_wJ1, q_wJs, q_wJn, q_wR1, q_wRs, q_wRn, q_wI22, q_wJ22, pk_us, pk_un, pk_uLs, pk_uLn, q_usS, q_usN, q_ups, q_upn, Bool.true_eq_false, Bool.false_eq_true, q_lt, q_o2, q_o3, q_o4, q_o5, q_bi, ↓reduceIte, q_tv0, q_tv1, q_bz, q_oRl, q_oRr, q_oXl, q_oXr, h15, h5 i hi, decide_eq_true_eq]
      · intro n
        simp (maxSteps := 2000000) (disch := first | rfl | exact q_e1 _ _ _ | exact q_sr1 _ _ | omega) only [f_X13_tenant_2, ↓q_m1, q_l0, q_l1, q_l2, q_l3, q_l4, q_l5, q_l6, q_l7, q_l8, q_l9, q_l10, q_l11, q_l12, q_l13, q_l14, q_l15, q_l16, q_l17, q_l18, q_l19, q_l20, q_l21, q_l22, q_l23, q_l24, q_l25, q_l26, q_l27, q_l28, q_l29, q_l30, q_l31, q_l32, q_l33, q_l45, q_l46, q_l48, q_l57, q_l58, q_l59, q_l60, q_l61, q_l62, q_l63, q_l64, q_l96, q_l97, q_l99, q_l122, q_l129, q_l137, q_l255, q_l256, q_l400, q_l680, q_l700, q_l959, q_l999, q_l9999, q_l10000, q_l100000, q_l36, q_l50, q_l100, q_l112, q_l200, q_ltT, q_ltF, q_leT, q_leF, q_eqF, q_eqR, q_mlt, q_mle, q_nlm, q_nLm, q_nem, q_men, q_mlm, Nat.add_zero, Nat.sub_zero, q_add0, pk_rem, nI_add, pk_mul, q_sub, q_subm, q_addm, nI_clamp, q_inT, q_inF, q_sr1, q_srn, q_srw, q_srs, q_wIs, q_wIn, q_wI2, q_wJ1, q_wJs, q_wJn, q_wR1, q_wRs, q_wRn, q_wI22, q_wJ22, pk_us, pk_un, pk_uLs, pk_uLn, q_usS, q_usN, q_ups, q_upn, Bool.true_eq_false, Bool.false_eq_true, q_lt, q_o2, q_o3, q_o4, q_o5, q_bi, ↓reduceIte, q_tv0, q_tv1, q_bz, q_oRl, q_oRr, q_oXl, q_oXr, h15]
    obtain ⟨ω', g1, g2, g3, g4, g5, g6⟩ := ih c m ω1 Q (by omega) ((f4 15 (by omega)).trans h15) (fun i hi => by rw [f3 5 (by omega) (by omega) (by omega) (by omega)]; exact h5 i hi) f2 hnb.2 hlc (fun i hi => ⟨(hq i (List.mem_cons_of_mem _ hi)).1, by rw [f3 9 (by omega) (by omega) (by omega) (by omega)]; exact (hq i (List.mem_cons_of_mem _ hi)).2⟩) (fun i hi => hv i (List.mem_cons_of_mem _ hi)) (fun k y z hy hz => ho (k + 1) y z hy hz)
    refine ⟨ω', ?_, g2, fun k h0 h8 h10 h20 => (g3 k h0 h8 h10 h20).trans (f3 k h0 h8 h10 h20), fun j hj => (g4 j hj).trans (f4 j hj), fun i => ?_, fun t ht' => ?_⟩
    · rw [f_X13_mechanism_204]
      simp (maxSteps := 2000000) (disch := first | rfl | exact q_e1 _ _ _ | exact q_sr1 _ _ | omega) only [↓q_m1, q_l0, nI_clamp, q_inT, q_nem, q_eqF, Bool.true_eq_false, Bool.false_eq_true, q_lt, q_o2, q_o3, q_o4, q_o5, q_bi, ↓reduceIte, q_tv0, q_tv1, q_bz, q_oRl, q_oRr, q_oXl, q_oXr, eb, ht, f1]
      exact g1
    · rw [g5 i, f5]
      by_cases e : i ∈ c :: bs
      · rw [if_pos e, if_pos (List.mem_cons_of_mem _ e)]
      · rw [if_neg e]
        by_cases e2 : i = b
        · subst e2; rw [pk_us, if_pos (by simp)]
        · rw [pk_un e2, if_neg (fun q => (List.mem_cons.mp q).elim e2 e)]
    · rw [g6 t ht', f6 t ht']
      by_cases e : ∃ i, i ∈ c :: bs ∧ rq i = nI t
      · obtain ⟨i, q1, q2⟩ := e
        rw [if_pos ⟨i, q1, q2⟩, if_pos ⟨i, List.mem_cons_of_mem _ q1, q2⟩]
      · rw [if_neg e]
        by_cases e2 : rq b = nI t
        · rw [if_pos e2, if_pos ⟨b, by simp, e2⟩]
        · rw [if_neg e2, if_neg (fun ⟨i, q1, q2⟩ => (List.mem_cons.mp q1).elim (fun z => e2 (z ▸ q2)) (fun z => e ⟨i, z, q2⟩))]
end LINE2

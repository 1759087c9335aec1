/-! copies, the ring of old markets, the saved one -/
theorem r_copy1_2 (ρ : OM) : ∃ ρ', f_X13_copies_1_2 ρ = some ρ' ∧ (∀ k, k ≠ 2 → ρ'.1 k = ρ.1 k) ∧ ∀ j, j < 137 → ρ'.1 2 j = ρ.1 1 j := by
  unfold f_X13_copies_1_2
  rw [q_l0]
  refine lp_inv (i0 := 0) (fun (i : Nat) (ρ' : OM) => (∀ k, k ≠ 2 → ρ'.1 k = ρ.1 k) ∧ ∀ j, j < i → ρ'.1 2 j = ρ.1 1 j) (fun (ρ' : OM) => (∀ k, k ≠ 2 → ρ'.1 k = ρ.1 k) ∧ ∀ j, j < 137 → ρ'.1 2 j = ρ.1 1 j) 137 ?_ ?_ (fu_lt (by omega)) ⟨fun _ _ => rfl, fun j hj => by omega⟩
  · intro n i t hi h
    refine ⟨wI t 2 i (t.1 1 i), ⟨fun k hk => (q_wIn hk).trans (h.1 k hk), fun j hj => ?_⟩, by simp (maxSteps := 2000000) (disch := first | rfl | exact q_e1 _ _ _ | exact q_sr1 _ _ | omega) only [f_X13_copies_1_2_2, ↓q_m1, q_l0, q_l1, q_l2, q_l3, q_l4, q_l5, q_l6, q_l7, q_l8, q_l9, q_l10, q_l11, q_l12, q_l13, q_l14, q_l15, q_l16, q_l17, q_l18, q_l19, q_l20, q_l21, q_l22, q_l23, q_l24, q_l25, q_l26, q_l27, q_l28, q_l29, q_l30, q_l31, q_l32, q_l33, q_l45, q_l46, q_l48, q_l57, q_l58, q_l59, q_l60, q_l61, q_l62, q_l63, q_l64, q_l96, q_l97, q_l99, q_l122, q_l129, q_l137, q_l255, q_l256, q_l400, q_l680, q_l700, q_l959, q_l999, q_l9999, q_l10000, q_l100000, q_ltT, q_ltF, q_leT, q_leF, q_eqF, q_eqR, q_mlt, q_mle, q_nlm, q_nLm, q_nem, q_men, q_mlm, Nat.add_zero, Nat.sub_zero, q_add0, pk_rem, nI_add, pk_mul, q_sub, q_subm, q_addm, nI_clamp, q_inT, q_inF, q_sr1, q_srn, q_srw, q_srs, q_wIs, q_wIn, q_wI2, q_wJ1, q_wJs, q_wJn, q_wR1, q_wRs, q_wRn, q_wI22, q_wJ22, pk_us, pk_un, pk_uLs, pk_uLn, q_usS, q_usN, q_ups, q_upn, Bool.true_eq_false, Bool.false_eq_true, q_lt, q_o2, q_o3, q_o4, q_o5, q_bi, ↓reduceIte, q_tv0, q_tv1, q_bz, q_oRl, q_oRr, q_oXl, q_oXr]⟩
    rw [q_wIs, h.1 1 (by omega)]
    by_cases hj' : j = i
    · rw [hj', pk_us]
    · rw [pk_un hj']; exact h.2 j (by omega)
  · intro n t h
    exact ⟨t, by simp (maxSteps := 2000000) (disch := first | rfl | exact q_e1 _ _ _ | exact q_sr1 _ _ | omega) only [f_X13_copies_1_2_2, ↓q_m1, q_l0, q_l1, q_l2, q_l3, q_l4, q_l5, q_l6, q_l7, q_l8, q_l9, q_l10, q_l11, q_l12, q_l13, q_l14, q_l15, q_l16, q_l17, q_l18, q_l19, q_l20, q_l21, q_l22, q_l23, q_l24, q_l25, q_l26, q_l27, q_l28, q_l29, q_l30, q_l31, q_l32, q_l33, q_l45, q_l46, q_l48, q_l57, q_l58, q_l59, q_l60, q_l61, q_l62, q_l63, q_l64, q_l96, q_l97, q_l99, q_l122, q_l129, q_l137, q_l255, q_l256, q_l400, q_l680, q_l700, q_l959, q_l999, q_l9999, q_l10000, q_l100000, q_ltT, q_ltF, q_leT, q_leF, q_eqF, q_eqR, q_mlt, q_mle, q_nlm, q_nLm, q_nem, q_men, q_mlm, Nat.add_zero, Nat.sub_zero, q_add0, pk_rem, nI_add, pk_mul, q_sub, q_subm, q_addm, nI_clamp, q_inT, q_inF, q_sr1, q_srn, q_srw, q_srs, q_wIs, q_wIn, q_wI2, q_wJ1, q_wJs, q_wJn, q_wR1, q_wRs, q_wRn, q_wI22, q_wJ22, pk_us, pk_un, pk_uLs, pk_uLn, q_usS, q_usN, q_ups, q_upn, Bool.true_eq_false, Bool.false_eq_true, q_lt, q_o2, q_o3, q_o4, q_o5, q_bi, ↓reduceIte, q_tv0, q_tv1, q_bz, q_oRl, q_oRr, q_oXl, q_oXr], h⟩
theorem r_copy2_1 (ρ : OM) : ∃ ρ', f_X13_copies_2_1 ρ = some ρ' ∧ (∀ k, k ≠ 1 → ρ'.1 k = ρ.1 k) ∧ ∀ j, j < 137 → ρ'.1 1 j = ρ.1 2 j := by
  unfold f_X13_copies_2_1
  rw [q_l0]
  refine lp_inv (i0 := 0) (fun (i : Nat) (ρ' : OM) => (∀ k, k ≠ 1 → ρ'.1 k = ρ.1 k) ∧ ∀ j, j < i → ρ'.1 1 j = ρ.1 2 j) (fun (ρ' : OM) => (∀ k, k ≠ 1 → ρ'.1 k = ρ.1 k) ∧ ∀ j, j < 137 → ρ'.1 1 j = ρ.1 2 j) 137 ?_ ?_ (fu_lt (by omega)) ⟨fun _ _ => rfl, fun j hj => by omega⟩
  · intro n i t hi h
    refine ⟨wI t 1 i (t.1 2 i), ⟨fun k hk => (q_wIn hk).trans (h.1 k hk), fun j hj => ?_⟩, by simp (maxSteps := 2000000) (disch := first | rfl | exact q_e1 _ _ _ | exact q_sr1 _ _ | omega) only [f_X13_copies_2_1_2, ↓q_m1, q_l0, q_l1, q_l2, q_l3, q_l4, q_l5, q_l6, q_l7, q_l8, q_l9, q_l10, q_l11, q_l12, q_l13, q_l14, q_l15, q_l16, q_l17, q_l18, q_l19, q_l20, q_l21, q_l22, q_l23, q_l24, q_l25, q_l26, q_l27, q_l28, q_l29, q_l30, q_l31, q_l32, q_l33, q_l45, q_l46, q_l48, q_l57, q_l58, q_l59, q_l60, q_l61, q_l62, q_l63, q_l64, q_l96, q_l97, q_l99, q_l122, q_l129, q_l137, q_l255, q_l256, q_l400, q_l680, q_l700, q_l959, q_l999, q_l9999, q_l10000, q_l100000, q_ltT, q_ltF, q_leT, q_leF, q_eqF, q_eqR, q_mlt, q_mle, q_nlm, q_nLm, q_nem, q_men, q_mlm, Nat.add_zero, Nat.sub_zero, q_add0, pk_rem, nI_add, pk_mul, q_sub, q_subm, q_addm, nI_clamp, q_inT, q_inF, q_sr1, q_srn, q_srw, q_srs, q_wIs, q_wIn, q_wI2, q_wJ1, q_wJs, q_wJn, q_wR1, q_wRs, q_wRn, q_wI22, q_wJ22, pk_us, pk_un, pk_uLs, pk_uLn, q_usS, q_usN, q_ups, q_upn, Bool.true_eq_false, Bool.false_eq_true, q_lt, q_o2, q_o3, q_o4, q_o5, q_bi, ↓reduceIte, q_tv0, q_tv1, q_bz, q_oRl, q_oRr, q_oXl, q_oXr]⟩
    rw [q_wIs, h.1 2 (by omega)]
    by_cases hj' : j = i
    · rw [hj', pk_us]
    · rw [pk_un hj']; exact h.2 j (by omega)
  · intro n t h
    exact ⟨t, by simp (maxSteps := 2000000) (disch := first | rfl | exact q_e1 _ _ _ | exact q_sr1 _ _ | omega) only [f_X13_copies_2_1_2, ↓q_m1, q_l0, q_l1, q_l2, q_l3, q_l4, q_l5, q_l6, q_l7, q_l8, q_l9, q_l10, q_l11, q_l12, q_l13, q_l14, q_l15, q_l16, q_l17, q_l18, q_l19, q_l20, q_l21, q_l22, q_l23, q_l24, q_l25, q_l26, q_l27, q_l28, q_l29, q_l30, q_l31, q_l32, q_l33, q_l45, q_l46, q_l48, q_l57, q_l58, q_l59, q_l60, q_l61, q_l62, q_l63, q_l64, q_l96, q_l97, q_l99, q_l122, q_l129, q_l137, q_l255, q_l256, q_l400, q_l680, q_l700, q_l959, q_l999, q_l9999, q_l10000, q_l100000, q_ltT, q_ltF, q_leT, q_leF, q_eqF, q_eqR, q_mlt, q_mle, q_nlm, q_nLm, q_nem, q_men, q_mlm, Nat.add_zero, Nat.sub_zero, q_add0, pk_rem, nI_add, pk_mul, q_sub, q_subm, q_addm, nI_clamp, q_inT, q_inF, q_sr1, q_srn, q_srw, q_srs, q_wIs, q_wIn, q_wI2, q_wJ1, q_wJs, q_wJn, q_wR1, q_wRs, q_wRn, q_wI22, q_wJ22, pk_us, pk_un, pk_uLs, pk_uLn, q_usS, q_usN, q_ups, q_upn, Bool.true_eq_false, Bool.false_eq_true, q_lt, q_o2, q_o3, q_o4, q_o5, q_bi, ↓reduceIte, q_tv0, q_tv1, q_bz, q_oRl, q_oRr, q_oXl, q_oXr], h⟩
theorem r_copy1_3 (ρ : OM) : ∃ ρ', f_X13_copies_1_3 ρ = some ρ' ∧ (∀ k, k ≠ 3 → ρ'.1 k = ρ.1 k) ∧ ∀ j, j < 137 → ρ'.1 3 j = ρ.1 1 j := by
  unfold f_X13_copies_1_3
  rw [q_l0]
  refine lp_inv (i0 := 0) (fun (i : Nat) (ρ' : OM) => (∀ k, k ≠ 3 → ρ'.1 k = ρ.1 k) ∧ ∀ j, j < i → ρ'.1 3 j = ρ.1 1 j) (fun (ρ' : OM) => (∀ k, k ≠ 3 → ρ'.1 k = ρ.1 k) ∧ ∀ j, j < 137 → ρ'.1 3 j = ρ.1 1 j) 137 ?_ ?_ (fu_lt (by omega)) ⟨fun _ _ => rfl, fun j hj => by omega⟩
  · intro n i t hi h
    refine ⟨wI t 3 i (t.1 1 i), ⟨fun k hk => (q_wIn hk).trans (h.1 k hk), fun j hj => ?_⟩, by simp (maxSteps := 2000000) (disch := first | rfl | exact q_e1 _ _ _ | exact q_sr1 _ _ | omega) only [f_X13_copies_1_3_2, ↓q_m1, q_l0, q_l1, q_l2, q_l3, q_l4, q_l5, q_l6, q_l7, q_l8, q_l9, q_l10, q_l11, q_l12, q_l13, q_l14, q_l15, q_l16, q_l17, q_l18, q_l19, q_l20, q_l21, q_l22, q_l23, q_l24, q_l25, q_l26, q_l27, q_l28, q_l29, q_l30, q_l31, q_l32, q_l33, q_l45, q_l46, q_l48, q_l57, q_l58, q_l59, q_l60, q_l61, q_l62, q_l63, q_l64, q_l96, q_l97, q_l99, q_l122, q_l129, q_l137, q_l255, q_l256, q_l400, q_l680, q_l700, q_l959, q_l999, q_l9999, q_l10000, q_l100000, q_ltT, q_ltF, q_leT, q_leF, q_eqF, q_eqR, q_mlt, q_mle, q_nlm, q_nLm, q_nem, q_men, q_mlm, Nat.add_zero, Nat.sub_zero, q_add0, pk_rem, nI_add, pk_mul, q_sub, q_subm, q_addm, nI_clamp, q_inT, q_inF, q_sr1, q_srn, q_srw, q_srs, q_wIs, q_wIn, q_wI2, q_wJ1, q_wJs, q_wJn, q_wR1, q_wRs, q_wRn, q_wI22, q_wJ22, pk_us, pk_un, pk_uLs, pk_uLn, q_usS, q_usN, q_ups, q_upn, Bool.true_eq_false, Bool.false_eq_true, q_lt, q_o2, q_o3, q_o4, q_o5, q_bi, ↓reduceIte, q_tv0, q_tv1, q_bz, q_oRl, q_oRr, q_oXl, q_oXr]⟩
    rw [q_wIs, h.1 1 (by omega)]
    by_cases hj' : j = i
    · rw [hj', pk_us]
    · rw [pk_un hj']; exact h.2 j (by omega)
  · intro n t h
    exact ⟨t, by simp (maxSteps := 2000000) (disch := first | rfl | exact q_e1 _ _ _ | exact q_sr1 _ _ | omega) only [f_X13_copies_1_3_2, ↓q_m1, q_l0, q_l1, q_l2, q_l3, q_l4, q_l5, q_l6, q_l7, q_l8, q_l9, q_l10, q_l11, q_l12, q_l13, q_l14, q_l15, q_l16, q_l17, q_l18, q_l19, q_l20, q_l21, q_l22, q_l23, q_l24, q_l25, q_l26, q_l27, q_l28, q_l29, q_l30, q_l31, q_l32, q_l33, q_l45, q_l46, q_l48, q_l57, q_l58, q_l59, q_l60, q_l61, q_l62, q_l63, q_l64, q_l96, q_l97, q_l99, q_l122, q_l129, q_l137, q_l255, q_l256, q_l400, q_l680, q_l700, q_l959, q_l999, q_l9999, q_l10000, q_l100000, q_ltT, q_ltF, q_leT, q_leF, q_eqF, q_eqR, q_mlt, q_mle, q_nlm, q_nLm, q_nem, q_men, q_mlm, Nat.add_zero, Nat.sub_zero, q_add0, pk_rem, nI_add, pk_mul, q_sub, q_subm, q_addm, nI_clamp, q_inT, q_inF, q_sr1, q_srn, q_srw, q_srs, q_wIs, q_wIn, q_wI2, q_wJ1, q_wJs, q_wJn, q_wR1, q_wRs, q_wRn, q_wI22, q_wJ22, pk_us, pk_un, pk_uLs, pk_uLn, q_usS, q_usN, q_ups, q_upn, Bool.true_eq_false, Bool.false_eq_true, q_lt, q_o2, q_o3, q_o4, q_o5, q_bi, ↓reduceIte, q_tv0, q_tv1, q_bz, q_oRl, q_oRr, q_oXl, q_oXr], h⟩
theorem r_copy3_1 (ρ : OM) : ∃ ρ', f_X13_copies_3_1 ρ = some ρ' ∧ (∀ k, k ≠ 1 → ρ'.1 k = ρ.1 k) ∧ ∀ j, j < 137 → ρ'.1 1 j = ρ.1 3 j := by
  unfold f_X13_copies_3_1
  rw [q_l0]
  refine lp_inv (i0 := 0) (fun (i : Nat) (ρ' : OM) => (∀ k, k ≠ 1 → ρ'.1 k = ρ.1 k) ∧ ∀ j, j < i → ρ'.1 1 j = ρ.1 3 j) (fun (ρ' : OM) => (∀ k, k ≠ 1 → ρ'.1 k = ρ.1 k) ∧ ∀ j, j < 137 → ρ'.1 1 j = ρ.1 3 j) 137 ?_ ?_ (fu_lt (by omega)) ⟨fun _ _ => rfl, fun j hj => by omega⟩
  · intro n i t hi h
    refine ⟨wI t 1 i (t.1 3 i), ⟨fun k hk => (q_wIn hk).trans (h.1 k hk), fun j hj => ?_⟩, by simp (maxSteps := 2000000) (disch := first | rfl | exact q_e1 _ _ _ | exact q_sr1 _ _ | omega) only [f_X13_copies_3_1_2, ↓q_m1, q_l0, q_l1, q_l2, q_l3, q_l4, q_l5, q_l6, q_l7, q_l8, q_l9, q_l10, q_l11, q_l12, q_l13, q_l14, q_l15, q_l16, q_l17, q_l18, q_l19, q_l20, q_l21, q_l22, q_l23, q_l24, q_l25, q_l26, q_l27, q_l28, q_l29, q_l30, q_l31, q_l32, q_l33, q_l45, q_l46, q_l48, q_l57, q_l58, q_l59, q_l60, q_l61, q_l62, q_l63, q_l64, q_l96, q_l97, q_l99, q_l122, q_l129, q_l137, q_l255, q_l256, q_l400, q_l680, q_l700, q_l959, q_l999, q_l9999, q_l10000, q_l100000, q_ltT, q_ltF, q_leT, q_leF, q_eqF, q_eqR, q_mlt, q_mle, q_nlm, q_nLm, q_nem, q_men, q_mlm, Nat.add_zero, Nat.sub_zero, q_add0, pk_rem, nI_add, pk_mul, q_sub, q_subm, q_addm, nI_clamp, q_inT, q_inF, q_sr1, q_srn, q_srw, q_srs, q_wIs, q_wIn, q_wI2, q_wJ1, q_wJs, q_wJn, q_wR1, q_wRs, q_wRn, q_wI22, q_wJ22, pk_us, pk_un, pk_uLs, pk_uLn, q_usS, q_usN, q_ups, q_upn, Bool.true_eq_false, Bool.false_eq_true, q_lt, q_o2, q_o3, q_o4, q_o5, q_bi, ↓reduceIte, q_tv0, q_tv1, q_bz, q_oRl, q_oRr, q_oXl, q_oXr]⟩
    rw [q_wIs, h.1 3 (by omega)]
    by_cases hj' : j = i
    · rw [hj', pk_us]
    · rw [pk_un hj']; exact h.2 j (by omega)
  · intro n t h
    exact ⟨t, by simp (maxSteps := 2000000) (disch := first | rfl | exact q_e1 _ _ _ | exact q_sr1 _ _ | omega) only [f_X13_copies_3_1_2, ↓q_m1, q_l0, q_l1, q_l2, q_l3, q_l4, q_l5, q_l6, q_l7, q_l8, q_l9, q_l10, q_l11, q_l12, q_l13, q_l14, q_l15, q_l16, q_l17, q_l18, q_l19, q_l20, q_l21, q_l22, q_l23, q_l24, q_l25, q_l26, q_l27, q_l28, q_l29, q_l30, q_l31, q_l32, q_l33, q_l45, q_l46, q_l48, q_l57, q_l58, q_l59, q_l60, q_l61, q_l62, q_l63, q_l64, q_l96, q_l97, q_l99, q_l122, q_l129, q_l137, q_l255, q_l256, q_l400, q_l680, q_l700, q_l959, q_l999, q_l9999, q_l10000, q_l100000, q_ltT, q_ltF, q_leT, q_leF, q_eqF, q_eqR, q_mlt, q_mle, q_nlm, q_nLm, q_nem, q_men, q_mlm, Nat.add_zero, Nat.sub_zero, q_add0, pk_rem, nI_add, pk_mul, q_sub, q_subm, q_addm, nI_clamp, q_inT, q_inF, q_sr1, q_srn, q_srw, q_srs, q_wIs, q_wIn, q_wI2, q_wJ1, q_wJs, q_wJn, q_wR1, q_wRs, q_wRn, q_wI22, q_wJ22, pk_us, pk_un, pk_uLs, pk_uLn, q_usS, q_usN, q_ups, q_upn, Bool.true_eq_false, Bool.false_eq_true, q_lt, q_o2, q_o3, q_o4, q_o5, q_bi, ↓reduceIte, q_tv0, q_tv1, q_bz, q_oRl, q_oRr, q_oXl, q_oXr], h⟩
/-- a market's copy -/
def CE (μ ν : OM) : Prop := (∀ k, k ≤ 8 → ν.1 0 k = μ.1 0 k) ∧ (∀ i, i < 8 → ν.2.1 1 i = μ.2.1 1 i ∧ ν.1 2 i = μ.1 2 i ∧ ν.1 3 i = μ.1 3 i ∧ ν.1 4 i = μ.1 4 i ∧ ν.1 5 i = μ.1 5 i ∧ ν.1 6 i = μ.1 6 i) ∧
  (∀ j, j < 64 → ν.1 7 j = μ.1 7 j) ∧ ∀ t, t < 8 → ν.2.1 8 t = μ.2.1 8 t ∧ ν.1 9 t = μ.1 9 t
theorem s_copy (μ ν : OM) : ∃ ν', f_X5_copy μ ν = some ν' ∧ CE μ ν' := by
  have h1 : ∀ t : OM, ∃ t', f_X5_copy_83 μ FU (nI 0) t = some t' ∧ (t'.1 0 = t.1 0 ∧ ∀ i, i < 8 → t'.2.1 1 i = μ.2.1 1 i ∧ t'.1 2 i = μ.1 2 i ∧ t'.1 3 i = μ.1 3 i ∧ t'.1 4 i = μ.1 4 i ∧ t'.1 5 i = μ.1 5 i ∧ t'.1 6 i = μ.1 6 i) := fun t => by
    refine lp_inv (i0 := 0) (fun (n : Nat) (t' : OM) => t'.1 0 = t.1 0 ∧ ∀ i, i < n → t'.2.1 1 i = μ.2.1 1 i ∧ t'.1 2 i = μ.1 2 i ∧ t'.1 3 i = μ.1 3 i ∧ t'.1 4 i = μ.1 4 i ∧ t'.1 5 i = μ.1 5 i ∧ t'.1 6 i = μ.1 6 i) _ 8 ?_ ?_ (fu_lt (by omega)) ⟨rfl, fun j hj => by omega⟩
    · intro n i s hi h
      refine ⟨wI (wI (wI (wI (wI (wJ s 1 i (μ.2.1 1 i)) 2 i (μ.1 2 i)) 3 i (μ.1 3 i)) 4 i (μ.1 4 i)) 5 i (μ.1 5 i)) 6 i (μ.1 6 i), ⟨h.1, fun j hj => ?_⟩, by simp (maxSteps := 2000000) (disch := first | rfl | exact q_e1 _ _ _ | exact q_sr1 _ _ | omega) only [f_X5_copy_83, ↓q_m1, q_l0, q_l1, q_l2, q_l3, q_l4, q_l5, q_l6, q_l7, q_l8, q_l9, q_l10, q_l11, q_l12, q_l13, q_l14, q_l15, q_l16, q_l17, q_l18, q_l19, q_l20, q_l21, q_l22, q_l23, q_l24, q_l25, q_l26, q_l27, q_l28, q_l29, q_l30, q_l31, q_l32, q_l33, q_l45, q_l46, q_l48, q_l57, q_l58, q_l59, q_l60, q_l61, q_l62, q_l63, q_l64, q_l96, q_l97, q_l99, q_l122, q_l129, q_l137, q_l255, q_l256, q_l400, q_l680, q_l700, q_l959, q_l999, q_l9999, q_l10000, q_l100000, q_ltT, q_ltF, q_leT, q_leF, q_eqF, q_eqR, q_mlt, q_mle, q_nlm, q_nLm, q_nem, q_men, q_mlm, Nat.add_zero, Nat.sub_zero, q_add0, pk_rem, nI_add, pk_mul, q_sub, q_subm, q_addm, nI_clamp, q_inT, q_inF, q_sr1, q_srn, q_srw, q_srs, q_wIs, q_wIn, q_wI2, q_wJ1, q_wJs, q_wJn, q_wR1, q_wRs, q_wRn, q_wI22, q_wJ22, pk_us, pk_un, pk_uLs, pk_uLn, q_usS, q_usN, q_ups, q_upn, Bool.true_eq_false, Bool.false_eq_true, q_lt, q_o2, q_o3, q_o4, q_o5, q_bi, ↓reduceIte, q_tv0, q_tv1, q_bz, q_oRl, q_oRr, q_oXl, q_oXr]⟩
      by_cases hj' : j = i
      · subst hj'
        simp (maxSteps := 2000000) (disch := first | rfl | exact q_e1 _ _ _ | exact q_sr1 _ _ | omega) only [q_sr1, q_srn, q_srw, q_srs, q_wIs, q_wIn, q_wI2, q_wJ1, q_wJs, q_wJn, q_wR1, q_wRs, q_wRn, q_wI22, q_wJ22, pk_us, pk_un, pk_uLs, pk_uLn, q_usS, q_usN, q_ups, q_upn, and_self]
      · have := h.2 j (by omega)
        simp (maxSteps := 2000000) (disch := first | rfl | exact q_e1 _ _ _ | exact q_sr1 _ _ | omega) only [q_sr1, q_srn, q_srw, q_srs, q_wIs, q_wIn, q_wI2, q_wJ1, q_wJs, q_wJn, q_wR1, q_wRs, q_wRn, q_wI22, q_wJ22, pk_us, pk_un, pk_uLs, pk_uLn, q_usS, q_usN, q_ups, q_upn, this, and_self]
    · intro n s h
      exact ⟨s, by simp (maxSteps := 2000000) (disch := first | rfl | exact q_e1 _ _ _ | exact q_sr1 _ _ | omega) only [f_X5_copy_83, ↓q_m1, q_l0, q_l1, q_l2, q_l3, q_l4, q_l5, q_l6, q_l7, q_l8, q_l9, q_l10, q_l11, q_l12, q_l13, q_l14, q_l15, q_l16, q_l17, q_l18, q_l19, q_l20, q_l21, q_l22, q_l23, q_l24, q_l25, q_l26, q_l27, q_l28, q_l29, q_l30, q_l31, q_l32, q_l33, q_l45, q_l46, q_l48, q_l57, q_l58, q_l59, q_l60, q_l61, q_l62, q_l63, q_l64, q_l96, q_l97, q_l99, q_l122, q_l129, q_l137, q_l255, q_l256, q_l400, q_l680, q_l700, q_l959, q_l999, q_l9999, q_l10000, q_l100000, q_ltT, q_ltF, q_leT, q_leF, q_eqF, q_eqR, q_mlt, q_mle, q_nlm, q_nLm, q_nem, q_men, q_mlm, Nat.add_zero, Nat.sub_zero, q_add0, pk_rem, nI_add, pk_mul, q_sub, q_subm, q_addm, nI_clamp, q_inT, q_inF, q_sr1, q_srn, q_srw, q_srs, q_wIs, q_wIn, q_wI2, q_wJ1, q_wJs, q_wJn, q_wR1, q_wRs, q_wRn, q_wI22, q_wJ22, pk_us, pk_un, pk_uLs, pk_uLn, q_usS, q_usN, q_ups, q_upn, Bool.true_eq_false, Bool.false_eq_true, q_lt, q_o2, q_o3, q_o4, q_o5, q_bi, ↓reduceIte, q_tv0, q_tv1, q_bz, q_oRl, q_oRr, q_oXl, q_oXr], h⟩
  have h2 : ∀ t : OM, ∃ t', f_X5_copy_169 μ FU (nI 0) t = some t' ∧ ((∀ k, k ≠ 7 → t'.1 k = t.1 k) ∧ t'.2 = t.2 ∧ ∀ i, i < 64 → t'.1 7 i = μ.1 7 i) := fun t => by
    refine lp_inv (i0 := 0) (fun (n : Nat) (t' : OM) => (∀ k, k ≠ 7 → t'.1 k = t.1 k) ∧ t'.2 = t.2 ∧ ∀ i, i < n → t'.1 7 i = μ.1 7 i) _ 64 ?_ ?_ (fu_lt (by omega)) ⟨fun _ _ => rfl, rfl, fun j hj => by omega⟩
    · intro n i s hi h
      refine ⟨wI s 7 i (μ.1 7 i), ⟨fun k hk => (q_wIn hk).trans (h.1 k hk), h.2.1, fun j hj => ?_⟩, by simp (maxSteps := 2000000) (disch := first | rfl | exact q_e1 _ _ _ | exact q_sr1 _ _ | omega) only [f_X5_copy_169, ↓q_m1, q_l0, q_l1, q_l2, q_l3, q_l4, q_l5, q_l6, q_l7, q_l8, q_l9, q_l10, q_l11, q_l12, q_l13, q_l14, q_l15, q_l16, q_l17, q_l18, q_l19, q_l20, q_l21, q_l22, q_l23, q_l24, q_l25, q_l26, q_l27, q_l28, q_l29, q_l30, q_l31, q_l32, q_l33, q_l45, q_l46, q_l48, q_l57, q_l58, q_l59, q_l60, q_l61, q_l62, q_l63, q_l64, q_l96, q_l97, q_l99, q_l122, q_l129, q_l137, q_l255, q_l256, q_l400, q_l680, q_l700, q_l959, q_l999, q_l9999, q_l10000, q_l100000, q_ltT, q_ltF, q_leT, q_leF, q_eqF, q_eqR, q_mlt, q_mle, q_nlm, q_nLm, q_nem, q_men, q_mlm, Nat.add_zero, Nat.sub_zero, q_add0, pk_rem, nI_add, pk_mul, q_sub, q_subm, q_addm, nI_clamp, q_inT, q_inF, q_sr1, q_srn, q_srw, q_srs, q_wIs, q_wIn, q_wI2, q_wJ1, q_wJs, q_wJn, q_wR1, q_wRs, q_wRn, q_wI22, q_wJ22, pk_us, pk_un, pk_uLs, pk_uLn, q_usS, q_usN, q_ups, q_upn, Bool.true_eq_false, Bool.false_eq_true, q_lt, q_o2, q_o3, q_o4, q_o5, q_bi, ↓reduceIte, q_tv0, q_tv1, q_bz, q_oRl, q_oRr, q_oXl, q_oXr]⟩
      by_cases hj' : j = i
      · subst hj'
        simp (maxSteps := 2000000) (disch := first | rfl | exact q_e1 _ _ _ | exact q_sr1 _ _ | omega) only [q_sr1, q_srn, q_srw, q_srs, q_wIs, q_wIn, q_wI2, q_wJ1, q_wJs, q_wJn, q_wR1, q_wRs, q_wRn, q_wI22, q_wJ22, pk_us, pk_un, pk_uLs, pk_uLn, q_usS, q_usN, q_ups, q_upn]
      · have := h.2.2 j (by omega)
        simp (maxSteps := 2000000) (disch := first | rfl | exact q_e1 _ _ _ | exact q_sr1 _ _ | omega) only [q_sr1, q_srn, q_srw, q_srs, q_wIs, q_wIn, q_wI2, q_wJ1, q_wJs, q_wJn, q_wR1, q_wRs, q_wRn, q_wI22, q_wJ22, pk_us, pk_un, pk_uLs, pk_uLn, q_usS, q_usN, q_ups, q_upn, this]
    · intro n s h
      exact ⟨s, by simp (maxSteps := 2000000) (disch := first | rfl | exact q_e1 _ _ _ | exact q_sr1 _ _ | omega) only [f_X5_copy_169, ↓q_m1, q_l0, q_l1, q_l2, q_l3, q_l4, q_l5, q_l6, q_l7, q_l8, q_l9, q_l10, q_l11, q_l12, q_l13, q_l14, q_l15, q_l16, q_l17, q_l18, q_l19, q_l20, q_l21, q_l22, q_l23, q_l24, q_l25, q_l26, q_l27, q_l28, q_l29, q_l30, q_l31, q_l32, q_l33, q_l45, q_l46, q_l48, q_l57, q_l58, q_l59, q_l60, q_l61, q_l62, q_l63, q_l64, q_l96, q_l97, q_l99, q_l122, q_l129, q_l137, q_l255, q_l256, q_l400, q_l680, q_l700, q_l959, q_l999, q_l9999, q_l10000, q_l100000, q_ltT, q_ltF, q_leT, q_leF, q_eqF, q_eqR, q_mlt, q_mle, q_nlm, q_nLm, q_nem, q_men, q_mlm, Nat.add_zero, Nat.sub_zero, q_add0, pk_rem, nI_add, pk_mul, q_sub, q_subm, q_addm, nI_clamp, q_inT, q_inF, q_sr1, q_srn, q_srw, q_srs, q_wIs, q_wIn, q_wI2, q_wJ1, q_wJs, q_wJn, q_wR1, q_wRs, q_wRn, q_wI22, q_wJ22, pk_us, pk_un, pk_uLs, pk_uLn, q_usS, q_usN, q_ups, q_upn, Bool.true_eq_false, Bool.false_eq_true, q_lt, q_o2, q_o3, q_o4, q_o5, q_bi, ↓reduceIte, q_tv0, q_tv1, q_bz, q_oRl, q_oRr, q_oXl, q_oXr], h⟩
  have h3 : ∀ t : OM, ∃ t', f_X5_copy_195 μ FU (nI 0) t = some t' ∧ ((∀ k, k ≠ 9 → t'.1 k = t.1 k) ∧ (∀ k, k ≠ 8 → t'.2.1 k = t.2.1 k) ∧ ∀ i, i < 8 → t'.2.1 8 i = μ.2.1 8 i ∧ t'.1 9 i = μ.1 9 i) := fun t => by
    refine lp_inv (i0 := 0) (fun (n : Nat) (t' : OM) => (∀ k, k ≠ 9 → t'.1 k = t.1 k) ∧ (∀ k, k ≠ 8 → t'.2.1 k = t.2.1 k) ∧ ∀ i, i < n → t'.2.1 8 i = μ.2.1 8 i ∧ t'.1 9 i = μ.1 9 i) _ 8 ?_ ?_ (fu_lt (by omega)) ⟨fun _ _ => rfl, fun _ _ => rfl, fun j hj => by omega⟩
    · intro n i s hi h
      refine ⟨wI (wJ s 8 i (μ.2.1 8 i)) 9 i (μ.1 9 i), ⟨fun k hk => (q_wIn hk).trans (h.1 k hk), fun k hk => (q_wJn hk).trans (h.2.1 k hk), fun j hj => ?_⟩, by simp (maxSteps := 2000000) (disch := first | rfl | exact q_e1 _ _ _ | exact q_sr1 _ _ | omega) only [f_X5_copy_195, ↓q_m1, q_l0, q_l1, q_l2, q_l3, q_l4, q_l5, q_l6, q_l7, q_l8, q_l9, q_l10, q_l11, q_l12, q_l13, q_l14, q_l15, q_l16, q_l17, q_l18, q_l19, q_l20, q_l21, q_l22, q_l23, q_l24, q_l25, q_l26, q_l27, q_l28, q_l29, q_l30, q_l31, q_l32, q_l33, q_l45, q_l46, q_l48, q_l57, q_l58, q_l59, q_l60, q_l61, q_l62, q_l63, q_l64, q_l96, q_l97, q_l99, q_l122, q_l129, q_l137, q_l255, q_l256, q_l400, q_l680, q_l700, q_l959, q_l999, q_l9999, q_l10000, q_l100000, q_ltT, q_ltF, q_leT, q_leF, q_eqF, q_eqR, q_mlt, q_mle, q_nlm, q_nLm, q_nem, q_men, q_mlm, Nat.add_zero, Nat.sub_zero, q_add0, pk_rem, nI_add, pk_mul, q_sub, q_subm, q_addm, nI_clamp, q_inT, q_inF, q_sr1, q_srn, q_srw, q_srs, q_wIs, q_wIn, q_wI2, q_wJ1, q_wJs, q_wJn, q_wR1, q_wRs, q_wRn, q_wI22, q_wJ22, pk_us, pk_un, pk_uLs, pk_uLn, q_usS, q_usN, q_ups, q_upn, Bool.true_eq_false, Bool.false_eq_true, q_lt, q_o2, q_o3, q_o4, q_o5, q_bi, ↓reduceIte, q_tv0, q_tv1, q_bz, q_oRl, q_oRr, q_oXl, q_oXr]⟩
      by_cases hj' : j = i
      · subst hj'
        simp (maxSteps := 2000000) (disch := first | rfl | exact q_e1 _ _ _ | exact q_sr1 _ _ | omega) only [q_sr1, q_srn, q_srw, q_srs, q_wIs, q_wIn, q_wI2, q_wJ1, q_wJs, q_wJn, q_wR1, q_wRs, q_wRn, q_wI22, q_wJ22, pk_us, pk_un, pk_uLs, pk_uLn, q_usS, q_usN, q_ups, q_upn, and_self]
      · have := h.2.2 j (by omega)
        simp (maxSteps := 2000000) (disch := first | rfl | exact q_e1 _ _ _ | exact q_sr1 _ _ | omega) only [q_sr1, q_srn, q_srw, q_srs, q_wIs, q_wIn, q_wI2, q_wJ1, q_wJs, q_wJn, q_wR1, q_wRs, q_wRn, q_wI22, q_wJ22, pk_us, pk_un, pk_uLs, pk_uLn, q_usS, q_usN, q_ups, q_upn, this, and_self]
    · intro n s h
      exact ⟨s, by simp (maxSteps := 2000000) (disch := first | rfl | exact q_e1 _ _ _ | exact q_sr1 _ _ | omega) only [f_X5_copy_195, ↓q_m1, q_l0, q_l1, q_l2, q_l3, q_l4, q_l5, q_l6, q_l7, q_l8, q_l9, q_l10, q_l11, q_l12, q_l13, q_l14, q_l15, q_l16, q_l17, q_l18, q_l19, q_l20, q_l21, q_l22, q_l23, q_l24, q_l25, q_l26, q_l27, q_l28, q_l29, q_l30, q_l31, q_l32, q_l33, q_l45, q_l46, q_l48, q_l57, q_l58, q_l59, q_l60, q_l61, q_l62, q_l63, q_l64, q_l96, q_l97, q_l99, q_l122, q_l129, q_l137, q_l255, q_l256, q_l400, q_l680, q_l700, q_l959, q_l999, q_l9999, q_l10000, q_l100000, q_ltT, q_ltF, q_leT, q_leF, q_eqF, q_eqR, q_mlt, q_mle, q_nlm, q_nLm, q_nem, q_men, q_mlm, Nat.add_zero, Nat.sub_zero, q_add0, pk_rem, nI_add, pk_mul, q_sub, q_subm, q_addm, nI_clamp, q_inT, q_inF, q_sr1, q_srn, q_srw, q_srs, q_wIs, q_wIn, q_wI2, q_wJ1, q_wJs, q_wJn, q_wR1, q_wRs, q_wRn, q_wI22, q_wJ22, pk_us, pk_un, pk_uLs, pk_uLn, q_usS, q_usN, q_ups, q_upn, Bool.true_eq_false, Bool.false_eq_true, q_lt, q_o2, q_o3, q_o4, q_o5, q_bi, ↓reduceIte, q_tv0, q_tv1, q_bz, q_oRl, q_oRr, q_oXl, q_oXr], h⟩
  obtain ⟨t1, e1, a1, b1⟩ := h1 (wI (wI (wI (wI (wI (wI (wI (wI (wI ν 0 0 (μ.1 0 0)) 0 1 (μ.1 0 1)) 0 2 (μ.1 0 2)) 0 3 (μ.1 0 3)) 0 4 (μ.1 0 4)) 0 5 (μ.1 0 5)) 0 6 (μ.1 0 6)) 0 7 (μ.1 0 7)) 0 8 (μ.1 0 8))
  obtain ⟨t2, e2, a2, b2, c2⟩ := h2 t1
  obtain ⟨t3, e3, a3, b3, c3⟩ := h3 t2
  refine ⟨t3, ?_, fun k hk => ?_, fun i hi => ?_, fun j hj => ?_, c3⟩
  · unfold f_X5_copy
    simp only [q_lt, q_l0, e1, e2, e3, q_bi]
  · rw [a3 0 (by omega), a2 0 (by omega), a1]
    rcases (by omega : k = 0 ∨ k = 1 ∨ k = 2 ∨ k = 3 ∨ k = 4 ∨ k = 5 ∨ k = 6 ∨ k = 7 ∨ k = 8) with rfl | rfl | rfl | rfl | rfl | rfl | rfl | rfl | rfl <;> simp (maxSteps := 2000000) (disch := first | rfl | exact q_e1 _ _ _ | exact q_sr1 _ _ | omega) only [q_sr1, q_srn, q_srw, q_srs, q_wIs, q_wIn, q_wI2, q_wJ1, q_wJs, q_wJn, q_wR1, q_wRs, q_wRn, q_wI22, q_wJ22, pk_us, pk_un, pk_uLs, pk_uLn, q_usS, q_usN, q_ups, q_upn]
  · rw [b3 1 (by omega), a3 2 (by omega), a3 3 (by omega), a3 4 (by omega), a3 5 (by omega), a3 6 (by omega), b2, a2 2 (by omega), a2 3 (by omega), a2 4 (by omega), a2 5 (by omega), a2 6 (by omega)]
    exact b1 i hi
  · rw [a3 7 (by omega)]; exact c2 j hj
theorem MW.copy {B : Nat} {μ ν : OM} {a : Nat → Int32} (c : CE μ ν) (h : MW B μ a) : MW B ν a := by
  obtain ⟨S, T, ⟨n1, n2, n3, n4, n5, n6, n7, n8, n9⟩, hf⟩ := h
  have hS := hf.2.1.1.1
  have hT := hf.2.1.1.2
  obtain ⟨c1, c2, c3, c4⟩ := c
  refine ⟨S, T, ⟨⟨(c1 0 (by omega)).trans n1.1, (c1 1 (by omega)).trans n1.2.1, n1.2.2⟩, fun k h1 h2 => (c1 k h2).trans (n2 k h1 h2), fun i hi => ?_, fun i k hi hk => ?_, fun t ht => ?_, fun i hi => ?_, fun t ht => ?_, fun i hi => ?_, fun k hk => ?_⟩, hf⟩
  · obtain ⟨d1, d2, d3, d4, d5, d6⟩ := c2 i (by omega)
    rw [d2, d3, d4, d6]; exact n3 i hi
  · have := (hf.2.1.2.1 i hi).1
    rw [c3 _ (by omega)]; exact n4 i k hi hk
  · rw [(c4 t (by omega)).2]; exact n5 t ht
  · rw [(c2 i (by omega)).1]; exact n6 i hi
  · rw [(c4 t (by omega)).1]; exact n7 t ht
  · obtain ⟨k, h1, h2, h3⟩ := n8 i hi
    exact ⟨k, h1, (c2 i (by omega)).2.2.2.2.1.trans h2, h3⟩
  · obtain ⟨i, h1, h2, h3⟩ := n9 k hk
    exact ⟨i, h1, (c2 i (by omega)).2.2.2.2.1.trans h2, h3⟩
theorem s_slot {σ : SM} {q x : Nat} (hq : (σ 16).1 0 1 = nI q) (h8 : q < 8) (hx : x ≤ 8) : f_X4_slotAfter (nI x) σ = some (nI ((q + x) % 8)) := by
  simp (maxSteps := 2000000) (disch := first | rfl | exact q_e1 _ _ _ | exact q_sr1 _ _ | omega) only [f_X4_slotAfter, ↓q_m1, q_l0, q_l1, q_l2, q_l3, q_l4, q_l5, q_l6, q_l7, q_l8, q_l9, q_l10, q_l11, q_l12, q_l13, q_l14, q_l15, q_l16, q_l17, q_l18, q_l19, q_l20, q_l21, q_l22, q_l23, q_l24, q_l25, q_l26, q_l27, q_l28, q_l29, q_l30, q_l31, q_l32, q_l33, q_l45, q_l46, q_l48, q_l57, q_l58, q_l59, q_l60, q_l61, q_l62, q_l63, q_l64, q_l96, q_l97, q_l99, q_l122, q_l129, q_l137, q_l255, q_l256, q_l400, q_l680, q_l700, q_l959, q_l999, q_l9999, q_l10000, q_l100000, q_ltT, q_ltF, q_leT, q_leF, q_eqF, q_eqR, q_mlt, q_mle, q_nlm, q_nLm, q_nem, q_men, q_mlm, Nat.add_zero, Nat.sub_zero, q_add0, pk_rem, nI_add, pk_mul, q_sub, q_subm, q_addm, nI_clamp, q_inT, q_inF, q_sr1, q_srn, q_srw, q_srs, q_wIs, q_wIn, q_wI2, q_wJ1, q_wJs, q_wJn, q_wR1, q_wRs, q_wRn, q_wI22, q_wJ22, pk_us, pk_un, pk_uLs, pk_uLn, q_usS, q_usN, q_ups, q_upn, Bool.true_eq_false, Bool.false_eq_true, q_lt, q_o2, q_o3, q_o4, q_o5, q_bi, ↓reduceIte, q_tv0, q_tv1, q_bz, q_oRl, q_oRr, q_oXl, q_oXr, hq]
/-- the reference remembers -/
theorem r_rem52 {c : Nat} (hc : c < 8) (ρ : OM) (h4 : ρ.1 0 4 = nI c) : ∃ ρ', f_X13_remembers_52 FU (nI 0) ρ = some ρ' ∧ (∀ k, k ≠ 0 → k ≠ 4 → ρ'.1 k = ρ.1 k) ∧ ρ'.1 0 = upd (ρ.1 0) 4 (nI (c + 1)) ∧ (∀ x, x < 137 → ρ'.1 4 (137 * c + x) = ρ.1 1 x) ∧ ∀ y, y < 137 * c → ρ'.1 4 y = ρ.1 4 y := by
  refine lp_inv (i0 := 0) (fun (i : Nat) (t : OM) => (∀ k, k ≠ 4 → t.1 k = ρ.1 k) ∧ (∀ x, x < i → t.1 4 (137 * c + x) = ρ.1 1 x) ∧ ∀ y, y < 137 * c → t.1 4 y = ρ.1 4 y) _ 137 ?_ ?_ (fu_lt (by omega)) ⟨fun _ _ => rfl, fun j hj => by omega, fun _ _ => rfl⟩
  · intro n i t hi ⟨g1, g2, g3⟩
    have g4 : t.1 0 4 = nI c := (congrFun (g1 0 (by omega)) 4).trans h4
    refine ⟨wI t 4 (137 * c + i) (t.1 1 i), ⟨fun k hk => (q_wIn hk).trans (g1 k hk), fun x hx => ?_, fun y hy => ?_⟩, by simp (maxSteps := 2000000) (disch := first | rfl | exact q_e1 _ _ _ | exact q_sr1 _ _ | omega) only [f_X13_remembers_52, ↓q_m1, q_l0, q_l1, q_l2, q_l3, q_l4, q_l5, q_l6, q_l7, q_l8, q_l9, q_l10, q_l11, q_l12, q_l13, q_l14, q_l15, q_l16, q_l17, q_l18, q_l19, q_l20, q_l21, q_l22, q_l23, q_l24, q_l25, q_l26, q_l27, q_l28, q_l29, q_l30, q_l31, q_l32, q_l33, q_l45, q_l46, q_l48, q_l57, q_l58, q_l59, q_l60, q_l61, q_l62, q_l63, q_l64, q_l96, q_l97, q_l99, q_l122, q_l129, q_l137, q_l255, q_l256, q_l400, q_l680, q_l700, q_l959, q_l999, q_l9999, q_l10000, q_l100000, q_ltT, q_ltF, q_leT, q_leF, q_eqF, q_eqR, q_mlt, q_mle, q_nlm, q_nLm, q_nem, q_men, q_mlm, Nat.add_zero, Nat.sub_zero, q_add0, pk_rem, nI_add, pk_mul, q_sub, q_subm, q_addm, nI_clamp, q_inT, q_inF, q_sr1, q_srn, q_srw, q_srs, q_wIs, q_wIn, q_wI2, q_wJ1, q_wJs, q_wJn, q_wR1, q_wRs, q_wRn, q_wI22, q_wJ22, pk_us, pk_un, pk_uLs, pk_uLn, q_usS, q_usN, q_ups, q_upn, Bool.true_eq_false, Bool.false_eq_true, q_lt, q_o2, q_o3, q_o4, q_o5, q_bi, ↓reduceIte, q_tv0, q_tv1, q_bz, q_oRl, q_oRr, q_oXl, q_oXr, g4]⟩
    · rw [q_wIs, g1 1 (by omega)]
      by_cases hx' : x = i
      · rw [hx', pk_us]
      · rw [pk_un (by omega)]; exact g2 x (by omega)
    · rw [q_wIs, pk_un (by omega)]; exact g3 y hy
  · intro n t ⟨g1, g2, g3⟩
    have g4 : t.1 0 4 = nI c := (congrFun (g1 0 (by omega)) 4).trans h4
    refine ⟨wI t 0 4 (nI (c + 1)), by simp (maxSteps := 2000000) (disch := first | rfl | exact q_e1 _ _ _ | exact q_sr1 _ _ | omega) only [f_X13_remembers_52, ↓q_m1, q_l0, q_l1, q_l2, q_l3, q_l4, q_l5, q_l6, q_l7, q_l8, q_l9, q_l10, q_l11, q_l12, q_l13, q_l14, q_l15, q_l16, q_l17, q_l18, q_l19, q_l20, q_l21, q_l22, q_l23, q_l24, q_l25, q_l26, q_l27, q_l28, q_l29, q_l30, q_l31, q_l32, q_l33, q_l45, q_l46, q_l48, q_l57, q_l58, q_l59, q_l60, q_l61, q_l62, q_l63, q_l64, q_l96, q_l97, q_l99, q_l122, q_l129, q_l137, q_l255, q_l256, q_l400, q_l680, q_l700, q_l959, q_l999, q_l9999, q_l10000, q_l100000, q_ltT, q_ltF, q_leT, q_leF, q_eqF, q_eqR, q_mlt, q_mle, q_nlm, q_nLm, q_nem, q_men, q_mlm, Nat.add_zero, Nat.sub_zero, q_add0, pk_rem, nI_add, pk_mul, q_sub, q_subm, q_addm, nI_clamp, q_inT, q_inF, q_sr1, q_srn, q_srw, q_srs, q_wIs, q_wIn, q_wI2, q_wJ1, q_wJs, q_wJn, q_wR1, q_wRs, q_wRn, q_wI22, q_wJ22, pk_us, pk_un, pk_uLs, pk_uLn, q_usS, q_usN, q_ups, q_upn, Bool.true_eq_false, Bool.false_eq_true, q_lt, q_o2, q_o3, q_o4, q_o5, q_bi, ↓reduceIte, q_tv0, q_tv1, q_bz, q_oRl, q_oRr, q_oXl, q_oXr, g4], fun k h0 hk => (q_wIn h0).trans (g1 k hk), ?_, g2, g3⟩
    rw [q_wIs, g1 0 (by omega)]
theorem r_rem11 (ρ : OM) : ∃ ρ', f_X13_remembers_11 FU (nI 0) ρ = some ρ' ∧ (∀ k, k ≠ 4 → ρ'.1 k = ρ.1 k) ∧ ∀ y, y < 959 → ρ'.1 4 y = ρ.1 4 (y + 137) := by
  refine lp_inv (i0 := 0) (fun (i : Nat) (t : OM) => (∀ k, k ≠ 4 → t.1 k = ρ.1 k) ∧ (∀ y, y < i → t.1 4 y = ρ.1 4 (y + 137)) ∧ ∀ y, i ≤ y → t.1 4 y = ρ.1 4 y) _ 959 ?_ ?_ (fu_lt (by omega)) ⟨fun _ _ => rfl, fun j hj => by omega, fun _ _ => rfl⟩
  · intro n i t hi ⟨g1, g2, g3⟩
    refine ⟨wI t 4 i (t.1 4 (i + 137)), ⟨fun k hk => (q_wIn hk).trans (g1 k hk), fun x hx => ?_, fun y hy => ?_⟩, by simp (maxSteps := 2000000) (disch := first | rfl | exact q_e1 _ _ _ | exact q_sr1 _ _ | omega) only [f_X13_remembers_11, ↓q_m1, q_l0, q_l1, q_l2, q_l3, q_l4, q_l5, q_l6, q_l7, q_l8, q_l9, q_l10, q_l11, q_l12, q_l13, q_l14, q_l15, q_l16, q_l17, q_l18, q_l19, q_l20, q_l21, q_l22, q_l23, q_l24, q_l25, q_l26, q_l27, q_l28, q_l29, q_l30, q_l31, q_l32, q_l33, q_l45, q_l46, q_l48, q_l57, q_l58, q_l59, q_l60, q_l61, q_l62, q_l63, q_l64, q_l96, q_l97, q_l99, q_l122, q_l129, q_l137, q_l255, q_l256, q_l400, q_l680, q_l700, q_l959, q_l999, q_l9999, q_l10000, q_l100000, q_ltT, q_ltF, q_leT, q_leF, q_eqF, q_eqR, q_mlt, q_mle, q_nlm, q_nLm, q_nem, q_men, q_mlm, Nat.add_zero, Nat.sub_zero, q_add0, pk_rem, nI_add, pk_mul, q_sub, q_subm, q_addm, nI_clamp, q_inT, q_inF, q_sr1, q_srn, q_srw, q_srs, q_wIs, q_wIn, q_wI2, q_wJ1, q_wJs, q_wJn, q_wR1, q_wRs, q_wRn, q_wI22, q_wJ22, pk_us, pk_un, pk_uLs, pk_uLn, q_usS, q_usN, q_ups, q_upn, Bool.true_eq_false, Bool.false_eq_true, q_lt, q_o2, q_o3, q_o4, q_o5, q_bi, ↓reduceIte, q_tv0, q_tv1, q_bz, q_oRl, q_oRr, q_oXl, q_oXr]⟩
    · rw [q_wIs]
      by_cases hx' : x = i
      · rw [hx', pk_us]; exact g3 _ (by omega)
      · rw [pk_un (by omega)]; exact g2 x (by omega)
    · rw [q_wIs, pk_un (by omega)]; exact g3 y (by omega)
  · intro n t ⟨g1, g2, g3⟩
    exact ⟨t, by simp (maxSteps := 2000000) (disch := first | rfl | exact q_e1 _ _ _ | exact q_sr1 _ _ | omega) only [f_X13_remembers_11, ↓q_m1, q_l0, q_l1, q_l2, q_l3, q_l4, q_l5, q_l6, q_l7, q_l8, q_l9, q_l10, q_l11, q_l12, q_l13, q_l14, q_l15, q_l16, q_l17, q_l18, q_l19, q_l20, q_l21, q_l22, q_l23, q_l24, q_l25, q_l26, q_l27, q_l28, q_l29, q_l30, q_l31, q_l32, q_l33, q_l45, q_l46, q_l48, q_l57, q_l58, q_l59, q_l60, q_l61, q_l62, q_l63, q_l64, q_l96, q_l97, q_l99, q_l122, q_l129, q_l137, q_l255, q_l256, q_l400, q_l680, q_l700, q_l959, q_l999, q_l9999, q_l10000, q_l100000, q_ltT, q_ltF, q_leT, q_leF, q_eqF, q_eqR, q_mlt, q_mle, q_nlm, q_nLm, q_nem, q_men, q_mlm, Nat.add_zero, Nat.sub_zero, q_add0, pk_rem, nI_add, pk_mul, q_sub, q_subm, q_addm, nI_clamp, q_inT, q_inF, q_sr1, q_srn, q_srw, q_srs, q_wIs, q_wIn, q_wI2, q_wJ1, q_wJs, q_wJn, q_wR1, q_wRs, q_wRn, q_wI22, q_wJ22, pk_us, pk_un, pk_uLs, pk_uLn, q_usS, q_usN, q_ups, q_upn, Bool.true_eq_false, Bool.false_eq_true, q_lt, q_o2, q_o3, q_o4, q_o5, q_bi, ↓reduceIte, q_tv0, q_tv1, q_bz, q_oRl, q_oRr, q_oXl, q_oXr], g1, g2⟩
/-- both sides remember the market -/
theorem both_rec {B : Nat} {σ : SM} (h : Rel B σ) : ∃ τ ρ', f_X4_record σ = some τ ∧ f_X13_remembers (wI (σ 20) 0 12 (nI 0)) = some ρ' ∧ (∀ o, o < 3 ∨ 11 ≤ o → o ≠ 16 → τ o = σ o) ∧ ρ'.1 1 = (σ 20).1 1 ∧ (∀ k, k ≠ 0 → k ≠ 4 → ρ'.1 k = (σ 20).1 k) ∧ ρ'.1 0 12 = nI 0 ∧ Rel B (us τ 20 ρ') := by
  obtain ⟨h1, h2, ⟨q, c, hq, hc, e1, e2, e3, hh⟩, h4, h5, h6, h7⟩ := h
  have fo : (wI (σ 20) 0 12 (nI 0)).1 0 4 = nI c := e3
  obtain ⟨ν, f1, f2⟩ := s_copy (σ 0) (σ (3 + (q + c) % 8))
  have hn := h1.copy f2
  by_cases hc8 : c = 8
  · subst hc8
    obtain ⟨t, t1, t2, t3⟩ := r_rem11 (wI (σ 20) 0 12 (nI 0))
    have t4 : t.1 0 4 = nI 8 := (congrFun (t2 0 (by omega)) 4).trans e3
    obtain ⟨ρ', r1, r2, r3, r4, r5⟩ := r_rem52 (c := 7) (by omega) (wI t 0 4 (nI 7)) (by simp (maxSteps := 2000000) (disch := first | rfl | exact q_e1 _ _ _ | exact q_sr1 _ _ | omega) only [q_sr1, q_srn, q_srw, q_srs, q_wIs, q_wIn, q_wI2, q_wJ1, q_wJs, q_wJn, q_wR1, q_wRs, q_wRn, q_wI22, q_wJ22, pk_us, pk_un, pk_uLs, pk_uLn, q_usS, q_usN, q_ups, q_upn])
    have r6 : ∀ f, f ≠ 4 → f ≠ 12 → ρ'.1 0 f = (σ 20).1 0 f := fun f hf hf' => by
      rw [r3, pk_un hf, q_wIs, pk_un hf, t2 0 (by omega), q_wIs, pk_un hf']
    have r7 : ∀ k, k ≠ 0 → k ≠ 4 → ρ'.1 k = (σ 20).1 k := fun k hk hk' => by
      rw [r2 k hk hk', q_wIn hk, t2 k hk', q_wIn hk]
    refine ⟨us (us σ (3 + (q + 8) % 8) ν) 16 (wI (σ 16) 0 1 (nI ((q + 1) % 8))), ρ', ?_, ?_, ?_, r7 1 (by omega) (by omega), r7, ?_, ?_⟩
    · have hs : f_X4_slotAfter (nI 1) (us σ (3 + (q + 8) % 8) ν) = some (nI ((q + 1) % 8)) := s_slot (by rw [q_usN (by omega)]; exact e1) hq (by omega)
      simp (maxSteps := 2000000) (disch := first | rfl | exact q_e1 _ _ _ | exact q_sr1 _ _ | omega) only [f_X4_record, ↓q_m1, q_l0, q_l1, q_l2, q_l3, q_l4, q_l5, q_l6, q_l7, q_l8, q_l9, q_l10, q_l11, q_l12, q_l13, q_l14, q_l15, q_l16, q_l17, q_l18, q_l19, q_l20, q_l21, q_l22, q_l23, q_l24, q_l25, q_l26, q_l27, q_l28, q_l29, q_l30, q_l31, q_l32, q_l33, q_l45, q_l46, q_l48, q_l57, q_l58, q_l59, q_l60, q_l61, q_l62, q_l63, q_l64, q_l96, q_l97, q_l99, q_l122, q_l129, q_l137, q_l255, q_l256, q_l400, q_l680, q_l700, q_l959, q_l999, q_l9999, q_l10000, q_l100000, q_ltT, q_ltF, q_leT, q_leF, q_eqF, q_eqR, q_mlt, q_mle, q_nlm, q_nLm, q_nem, q_men, q_mlm, Nat.add_zero, Nat.sub_zero, q_add0, pk_rem, nI_add, pk_mul, q_sub, q_subm, q_addm, nI_clamp, q_inT, q_inF, q_sr1, q_srn, q_srw, q_srs, q_wIs, q_wIn, q_wI2, q_wJ1, q_wJs, q_wJn, q_wR1, q_wRs, q_wRn, q_wI22, q_wJ22, pk_us, pk_un, pk_uLs, pk_uLn, q_usS, q_usN, q_ups, q_upn, Bool.true_eq_false, Bool.false_eq_true, q_lt, q_o2, q_o3, q_o4, q_o5, q_bi, ↓reduceIte, q_tv0, q_tv1, q_bz, q_oRl, q_oRr, q_oXl, q_oXr, e2, s_slot e1 hq, f1, hs]
    · simp (maxSteps := 2000000) (disch := first | rfl | exact q_e1 _ _ _ | exact q_sr1 _ _ | omega) only [f_X13_remembers, ↓q_m1, q_l0, q_l1, q_l2, q_l3, q_l4, q_l5, q_l6, q_l7, q_l8, q_l9, q_l10, q_l11, q_l12, q_l13, q_l14, q_l15, q_l16, q_l17, q_l18, q_l19, q_l20, q_l21, q_l22, q_l23, q_l24, q_l25, q_l26, q_l27, q_l28, q_l29, q_l30, q_l31, q_l32, q_l33, q_l45, q_l46, q_l48, q_l57, q_l58, q_l59, q_l60, q_l61, q_l62, q_l63, q_l64, q_l96, q_l97, q_l99, q_l122, q_l129, q_l137, q_l255, q_l256, q_l400, q_l680, q_l700, q_l959, q_l999, q_l9999, q_l10000, q_l100000, q_ltT, q_ltF, q_leT, q_leF, q_eqF, q_eqR, q_mlt, q_mle, q_nlm, q_nLm, q_nem, q_men, q_mlm, Nat.add_zero, Nat.sub_zero, q_add0, pk_rem, nI_add, pk_mul, q_sub, q_subm, q_addm, nI_clamp, q_inT, q_inF, q_sr1, q_srn, q_srw, q_srs, q_wIs, q_wIn, q_wI2, q_wJ1, q_wJs, q_wJn, q_wR1, q_wRs, q_wRn, q_wI22, q_wJ22, pk_us, pk_un, pk_uLs, pk_uLn, q_usS, q_usN, q_ups, q_upn, Bool.true_eq_false, Bool.false_eq_true, q_lt, q_o2, q_o3, q_o4, q_o5, q_bi, ↓reduceIte, q_tv0, q_tv1, q_bz, q_oRl, q_oRr, q_oXl, q_oXr, e3, t1, t4, r1]
    · intro o ho ho'
      rw [q_usN (by omega), q_usN (by omega)]
    · rw [r3, pk_un (by omega), q_wIs, pk_un (by omega), t2 0 (by omega), q_wIs, pk_us]
    · refine ⟨?_, ?_, ⟨(q + 1) % 8, 8, by omega, by omega, ?_, ?_, ?_, fun j hj => ?_⟩, ?_, ?_, ?_, ?_⟩
      · rw [q_usS, r7 1 (by omega) (by omega), q_usN (by omega), q_usN (by omega), q_usN (by omega)]; exact h1
      · rw [q_usS, r7 3 (by omega) (by omega), r6 5 (by omega) (by omega), q_usN (by omega), q_usN (by omega), q_usN (by omega), q_usN (by omega), q_usN (by omega), q_usN (by omega)]; exact h2
      · rw [q_usN (by omega), q_usS]; simp (maxSteps := 2000000) (disch := first | rfl | exact q_e1 _ _ _ | exact q_sr1 _ _ | omega) only [q_sr1, q_srn, q_srw, q_srs, q_wIs, q_wIn, q_wI2, q_wJ1, q_wJs, q_wJn, q_wR1, q_wRs, q_wRn, q_wI22, q_wJ22, pk_us, pk_un, pk_uLs, pk_uLn, q_usS, q_usN, q_ups, q_upn]
      · rw [q_usN (by omega), q_usS]; simp (maxSteps := 2000000) (disch := first | rfl | exact q_e1 _ _ _ | exact q_sr1 _ _ | omega) only [q_sr1, q_srn, q_srw, q_srs, q_wIs, q_wIn, q_wI2, q_wJ1, q_wJs, q_wJn, q_wR1, q_wRs, q_wRn, q_wI22, q_wJ22, pk_us, pk_un, pk_uLs, pk_uLn, q_usS, q_usN, q_ups, q_upn]; exact e2
      · rw [q_usS, r3, pk_us]
      · rw [q_usS]
        show MW B (us (us (us σ (3 + (q + 8) % 8) ν) 16 _) 20 ρ' (3 + ((q + 1) % 8 + j) % 8)) _
        rw [q_usN (by omega), q_usN (by omega)]
        by_cases hj' : j = 7
        · subst hj'
          rw [show 3 + ((q + 1) % 8 + 7) % 8 = 3 + (q + 8) % 8 by omega, q_usS]
          exact hn.congr (fun k hk => (r4 k hk).trans (congrFun ((q_wIn (by omega)).trans ((t2 1 (by omega)).trans (q_wIn (by omega)))) k))
        · rw [q_usN (by omega), show 3 + ((q + 1) % 8 + j) % 8 = 3 + (q + (j + 1)) % 8 by omega]
          refine (hh (j + 1) (by omega)).congr (fun k hk => ?_)
          rw [r5 _ (by omega), q_wIn (by omega), t3 _ (by omega), q_wIn (by omega), show 137 * j + k + 137 = 137 * (j + 1) + k by omega]
      · rw [q_usS, r7 5 (by omega) (by omega), r6 7 (by omega) (by omega), q_usN (by omega), q_usN (by omega), q_usN (by omega)]; exact h4
      · rw [q_usS, r7 6 (by omega) (by omega), r6 11 (by omega) (by omega), q_usN (by omega), q_usN (by omega), q_usN (by omega)]; exact h5
      · rw [q_usS, r6 8 (by omega) (by omega), q_usN (by omega), q_usN (by omega), q_usN (by omega)]; exact h6
      · rw [q_usS, r6 9 (by omega) (by omega), q_usN (by omega), q_usN (by omega), q_usN (by omega)]; exact h7
  · obtain ⟨ρ', r1, r2, r3, r4, r5⟩ := r_rem52 (c := c) (by omega) (wI (σ 20) 0 12 (nI 0)) fo
    have r6 : ∀ f, f ≠ 4 → f ≠ 12 → ρ'.1 0 f = (σ 20).1 0 f := fun f hf hf' => by
      rw [r3, pk_un hf, q_wIs, pk_un hf']
    have r7 : ∀ k, k ≠ 0 → k ≠ 4 → ρ'.1 k = (σ 20).1 k := fun k hk hk' => by
      rw [r2 k hk hk', q_wIn hk]
    refine ⟨us (us σ (3 + (q + c) % 8) ν) 16 (wI (σ 16) 0 2 (nI (c + 1))), ρ', ?_, ?_, ?_, r7 1 (by omega) (by omega), r7, ?_, ?_⟩
    · simp (maxSteps := 2000000) (disch := first | rfl | exact q_e1 _ _ _ | exact q_sr1 _ _ | omega) only [f_X4_record, ↓q_m1, q_l0, q_l1, q_l2, q_l3, q_l4, q_l5, q_l6, q_l7, q_l8, q_l9, q_l10, q_l11, q_l12, q_l13, q_l14, q_l15, q_l16, q_l17, q_l18, q_l19, q_l20, q_l21, q_l22, q_l23, q_l24, q_l25, q_l26, q_l27, q_l28, q_l29, q_l30, q_l31, q_l32, q_l33, q_l45, q_l46, q_l48, q_l57, q_l58, q_l59, q_l60, q_l61, q_l62, q_l63, q_l64, q_l96, q_l97, q_l99, q_l122, q_l129, q_l137, q_l255, q_l256, q_l400, q_l680, q_l700, q_l959, q_l999, q_l9999, q_l10000, q_l100000, q_ltT, q_ltF, q_leT, q_leF, q_eqF, q_eqR, q_mlt, q_mle, q_nlm, q_nLm, q_nem, q_men, q_mlm, Nat.add_zero, Nat.sub_zero, q_add0, pk_rem, nI_add, pk_mul, q_sub, q_subm, q_addm, nI_clamp, q_inT, q_inF, q_sr1, q_srn, q_srw, q_srs, q_wIs, q_wIn, q_wI2, q_wJ1, q_wJs, q_wJn, q_wR1, q_wRs, q_wRn, q_wI22, q_wJ22, pk_us, pk_un, pk_uLs, pk_uLn, q_usS, q_usN, q_ups, q_upn, Bool.true_eq_false, Bool.false_eq_true, q_lt, q_o2, q_o3, q_o4, q_o5, q_bi, ↓reduceIte, q_tv0, q_tv1, q_bz, q_oRl, q_oRr, q_oXl, q_oXr, e2, s_slot e1 hq, f1]
    · simp (maxSteps := 2000000) (disch := first | rfl | exact q_e1 _ _ _ | exact q_sr1 _ _ | omega) only [f_X13_remembers, ↓q_m1, q_l0, q_l1, q_l2, q_l3, q_l4, q_l5, q_l6, q_l7, q_l8, q_l9, q_l10, q_l11, q_l12, q_l13, q_l14, q_l15, q_l16, q_l17, q_l18, q_l19, q_l20, q_l21, q_l22, q_l23, q_l24, q_l25, q_l26, q_l27, q_l28, q_l29, q_l30, q_l31, q_l32, q_l33, q_l45, q_l46, q_l48, q_l57, q_l58, q_l59, q_l60, q_l61, q_l62, q_l63, q_l64, q_l96, q_l97, q_l99, q_l122, q_l129, q_l137, q_l255, q_l256, q_l400, q_l680, q_l700, q_l959, q_l999, q_l9999, q_l10000, q_l100000, q_ltT, q_ltF, q_leT, q_leF, q_eqF, q_eqR, q_mlt, q_mle, q_nlm, q_nLm, q_nem, q_men, q_mlm, Nat.add_zero, Nat.sub_zero, q_add0, pk_rem, nI_add, pk_mul, q_sub, q_subm, q_addm, nI_clamp, q_inT, q_inF, q_sr1, q_srn, q_srw, q_srs, q_wIs, q_wIn, q_wI2, q_wJ1, q_wJs, q_wJn, q_wR1, q_wRs, q_wRn, q_wI22, q_wJ22, pk_us, pk_un, pk_uLs, pk_uLn, q_usS, q_usN, q_ups, q_upn, Bool.true_eq_false, Bool.false_eq_true, q_lt, q_o2, q_o3, q_o4, q_o5, q_bi, ↓reduceIte, q_tv0, q_tv1, q_bz, q_oRl, q_oRr, q_oXl, q_oXr, e3, r1]
    · intro o ho ho'
      rw [q_usN (by omega), q_usN (by omega)]
    · rw [r3, pk_un (by omega), q_wIs, pk_us]
    · refine ⟨?_, ?_, ⟨q, c + 1, by omega, by omega, ?_, ?_, ?_, fun j hj => ?_⟩, ?_, ?_, ?_, ?_⟩
      · rw [q_usS, r7 1 (by omega) (by omega), q_usN (by omega), q_usN (by omega), q_usN (by omega)]; exact h1
      · rw [q_usS, r7 3 (by omega) (by omega), r6 5 (by omega) (by omega), q_usN (by omega), q_usN (by omega), q_usN (by omega), q_usN (by omega), q_usN (by omega), q_usN (by omega)]; exact h2
      · rw [q_usN (by omega), q_usS]; simp (maxSteps := 2000000) (disch := first | rfl | exact q_e1 _ _ _ | exact q_sr1 _ _ | omega) only [q_sr1, q_srn, q_srw, q_srs, q_wIs, q_wIn, q_wI2, q_wJ1, q_wJs, q_wJn, q_wR1, q_wRs, q_wRn, q_wI22, q_wJ22, pk_us, pk_un, pk_uLs, pk_uLn, q_usS, q_usN, q_ups, q_upn]; exact e1
      · rw [q_usN (by omega), q_usS]; simp (maxSteps := 2000000) (disch := first | rfl | exact q_e1 _ _ _ | exact q_sr1 _ _ | omega) only [q_sr1, q_srn, q_srw, q_srs, q_wIs, q_wIn, q_wI2, q_wJ1, q_wJs, q_wJn, q_wR1, q_wRs, q_wRn, q_wI22, q_wJ22, pk_us, pk_un, pk_uLs, pk_uLn, q_usS, q_usN, q_ups, q_upn]
      · rw [q_usS, r3, pk_us]
      · rw [q_usS]
        show MW B (us (us (us σ (3 + (q + c) % 8) ν) 16 _) 20 ρ' (3 + (q + j) % 8)) _
        rw [q_usN (by omega), q_usN (by omega)]
        by_cases hj' : j = c
        · subst hj'
          rw [q_usS]
          exact hn.congr (fun k hk => (r4 k hk).trans (congrFun (q_wIn (by omega)) k))
        · rw [q_usN (by omega)]
          refine (hh j (by omega)).congr (fun k hk => ?_)
          rw [r5 _ (by omega), q_wIn (by omega)]
      · rw [q_usS, r7 5 (by omega) (by omega), r6 7 (by omega) (by omega), q_usN (by omega), q_usN (by omega), q_usN (by omega)]; exact h4
      · rw [q_usS, r7 6 (by omega) (by omega), r6 11 (by omega) (by omega), q_usN (by omega), q_usN (by omega), q_usN (by omega)]; exact h5
      · rw [q_usS, r6 8 (by omega) (by omega), q_usN (by omega), q_usN (by omega), q_usN (by omega)]; exact h6
      · rw [q_usS, r6 9 (by omega) (by omega), q_usN (by omega), q_usN (by omega), q_usN (by omega)]; exact h7

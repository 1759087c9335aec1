/-! undo, save, restore -/
section FACE
variable {B : Nat} {σ : SM}
theorem r_undo26 {c : Nat} (hc : c < 8) (ρ : OM) (h4 : ρ.1 0 4 = nI c) : ∃ ρ', f_X13_undo_26 FU (nI 0) ρ = some (nI c, ρ') ∧ (∀ k, k ≠ 1 → ρ'.1 k = ρ.1 k) ∧ ∀ j, j < 137 → ρ'.1 1 j = ρ.1 4 (137 * c + j) := by
  obtain ⟨b, h1, ρ', rfl, h2⟩ := lp_inv (F := f_X13_undo_26) (i0 := 0) (fun (i : Nat) (t : OM) => (∀ k, k ≠ 1 → t.1 k = ρ.1 k) ∧ ∀ j, j < i → t.1 1 j = ρ.1 4 (137 * c + j)) (fun b => ∃ ρ', b = (nI c, ρ') ∧ (∀ k, k ≠ 1 → ρ'.1 k = ρ.1 k) ∧ ∀ j, j < 137 → ρ'.1 1 j = ρ.1 4 (137 * c + j)) 137 (fun n i t hi hh => by
      obtain ⟨g1, g2⟩ := hh
      have g4 : t.1 0 4 = nI c := (congrFun (g1 0 (by omega)) 4).trans h4
      refine ⟨wI t 1 i (t.1 4 (137 * c + i)), ⟨fun k hk => (q_wIn hk).trans (g1 k hk), fun x hx => ?_⟩, by simp (maxSteps := 2000000) (disch := first | rfl | exact q_e1 _ _ _ | exact q_sr1 _ _ | omega) only [f_X13_undo_26, ↓q_m1, q_l0, q_l1, q_l2, q_l3, q_l4, q_l5, q_l6, q_l7, q_l8, q_l9, q_l10, q_l11, q_l12, q_l13, q_l14, q_l15, q_l16, q_l17, q_l18, q_l19, q_l20, q_l21, q_l22, q_l23, q_l24, q_l25, q_l26, q_l27, q_l28, q_l29, q_l30, q_l31, q_l32, q_l33, q_l45, q_l46, q_l48, q_l57, q_l58, q_l59, q_l60, q_l61, q_l62, q_l63, q_l64, q_l96, q_l97, q_l99, q_l122, q_l129, q_l137, q_l255, q_l256, q_l400, q_l680, q_l700, q_l959, q_l999, q_l9999, q_l10000, q_l100000, q_ltT, q_ltF, q_leT, q_leF, q_eqF, q_eqR, q_mlt, q_mle, q_nlm, q_nLm, q_nem, q_men, q_mlm, Nat.add_zero, Nat.sub_zero, q_add0, pk_rem, nI_add, pk_mul, q_sub, q_subm, q_addm, nI_clamp, q_inT, q_inF, q_sr1, q_srn, q_srw, q_srs, q_wIs, q_wIn, q_wI2, q_wJ1, q_wJs, q_wJn, q_wR1, q_wRs, q_wRn, q_wI22, q_wJ22, pk_us, pk_un, pk_uLs, pk_uLn, q_usS, q_usN, q_ups, q_upn, Bool.true_eq_false, Bool.false_eq_true, q_lt, q_o2, q_o3, q_o4, q_o5, q_bi, ↓reduceIte, q_tv0, q_tv1, q_bz, q_oRl, q_oRr, q_oXl, q_oXr, g4]⟩
      rw [q_wIs, g1 4 (by omega)]
      by_cases hx' : x = i
      · rw [hx', pk_us]
      · rw [pk_un hx']; exact g2 x (by omega)) (fun n t hh => by
      obtain ⟨g1, g2⟩ := hh
      have g4 : t.1 0 4 = nI c := (congrFun (g1 0 (by omega)) 4).trans h4
      exact ⟨(nI c, t), by simp (maxSteps := 2000000) (disch := first | rfl | exact q_e1 _ _ _ | exact q_sr1 _ _ | omega) only [f_X13_undo_26, ↓q_m1, q_l0, q_l1, q_l2, q_l3, q_l4, q_l5, q_l6, q_l7, q_l8, q_l9, q_l10, q_l11, q_l12, q_l13, q_l14, q_l15, q_l16, q_l17, q_l18, q_l19, q_l20, q_l21, q_l22, q_l23, q_l24, q_l25, q_l26, q_l27, q_l28, q_l29, q_l30, q_l31, q_l32, q_l33, q_l45, q_l46, q_l48, q_l57, q_l58, q_l59, q_l60, q_l61, q_l62, q_l63, q_l64, q_l96, q_l97, q_l99, q_l122, q_l129, q_l137, q_l255, q_l256, q_l400, q_l680, q_l700, q_l959, q_l999, q_l9999, q_l10000, q_l100000, q_ltT, q_ltF, q_leT, q_leF, q_eqF, q_eqR, q_mlt, q_mle, q_nlm, q_nLm, q_nem, q_men, q_mlm, Nat.add_zero, Nat.sub_zero, q_add0, pk_rem, nI_add, pk_mul, q_sub, q_subm, q_addm, nI_clamp, q_inT, q_inF, q_sr1, q_srn, q_srw, q_srs, q_wIs, q_wIn, q_wI2, q_wJ1, q_wJs, q_wJn, q_wR1, q_wRs, q_wRn, q_wI22, q_wJ22, pk_us, pk_un, pk_uLs, pk_uLn, q_usS, q_usN, q_ups, q_upn, Bool.true_eq_false, Bool.false_eq_true, q_lt, q_o2, q_o3, q_o4, q_o5, q_bi, ↓reduceIte, q_tv0, q_tv1, q_bz, q_oRl, q_oRr, q_oXl, q_oXr, g4], t, rfl, g1, g2⟩) (fu_lt (by omega)) (s := ρ) ⟨fun _ _ => rfl, fun j hj => by omega⟩
  exact ⟨ρ', h1, h2⟩
theorem P_undo (h : Rel B σ) : FM B σ (f_X12_undo σ) (f_X13_undo (σ 20)) := by
  obtain ⟨h1, h2, ⟨q, c, hq, hc, e1, e2, e3, hh⟩, h4, h5, h6, h7⟩ := id h
  by_cases hc0 : c = 0
  · subst hc0
    refine ⟨m1, σ, wI (σ 20) 0 12 (nI 0), ?_, ?_, rfl, h.q (QE.fld (Or.inl rfl))⟩
    · simp (maxSteps := 2000000) (disch := first | rfl | exact q_e1 _ _ _ | exact q_sr1 _ _ | omega) only [f_X12_undo, f_X4_takeBack, ↓q_m1, q_l0, q_l1, q_l2, q_l3, q_l4, q_l5, q_l6, q_l7, q_l8, q_l9, q_l10, q_l11, q_l12, q_l13, q_l14, q_l15, q_l16, q_l17, q_l18, q_l19, q_l20, q_l21, q_l22, q_l23, q_l24, q_l25, q_l26, q_l27, q_l28, q_l29, q_l30, q_l31, q_l32, q_l33, q_l45, q_l46, q_l48, q_l57, q_l58, q_l59, q_l60, q_l61, q_l62, q_l63, q_l64, q_l96, q_l97, q_l99, q_l122, q_l129, q_l137, q_l255, q_l256, q_l400, q_l680, q_l700, q_l959, q_l999, q_l9999, q_l10000, q_l100000, q_ltT, q_ltF, q_leT, q_leF, q_eqF, q_eqR, q_mlt, q_mle, q_nlm, q_nLm, q_nem, q_men, q_mlm, Nat.add_zero, Nat.sub_zero, q_add0, pk_rem, nI_add, pk_mul, q_sub, q_subm, q_addm, nI_clamp, q_inT, q_inF, q_sr1, q_srn, q_srw, q_srs, q_wIs, q_wIn, q_wI2, q_wJ1, q_wJs, q_wJn, q_wR1, q_wRs, q_wRn, q_wI22, q_wJ22, pk_us, pk_un, pk_uLs, pk_uLn, q_usS, q_usN, q_ups, q_upn, Bool.true_eq_false, Bool.false_eq_true, q_lt, q_o2, q_o3, q_o4, q_o5, q_bi, ↓reduceIte, q_tv0, q_tv1, q_bz, q_oRl, q_oRr, q_oXl, q_oXr, e2]
    · simp (maxSteps := 2000000) (disch := first | rfl | exact q_e1 _ _ _ | exact q_sr1 _ _ | omega) only [f_X13_undo, ↓q_m1, q_l0, q_l1, q_l2, q_l3, q_l4, q_l5, q_l6, q_l7, q_l8, q_l9, q_l10, q_l11, q_l12, q_l13, q_l14, q_l15, q_l16, q_l17, q_l18, q_l19, q_l20, q_l21, q_l22, q_l23, q_l24, q_l25, q_l26, q_l27, q_l28, q_l29, q_l30, q_l31, q_l32, q_l33, q_l45, q_l46, q_l48, q_l57, q_l58, q_l59, q_l60, q_l61, q_l62, q_l63, q_l64, q_l96, q_l97, q_l99, q_l122, q_l129, q_l137, q_l255, q_l256, q_l400, q_l680, q_l700, q_l959, q_l999, q_l9999, q_l10000, q_l100000, q_ltT, q_ltF, q_leT, q_leF, q_eqF, q_eqR, q_mlt, q_mle, q_nlm, q_nLm, q_nem, q_men, q_mlm, Nat.add_zero, Nat.sub_zero, q_add0, pk_rem, nI_add, pk_mul, q_sub, q_subm, q_addm, nI_clamp, q_inT, q_inF, q_sr1, q_srn, q_srw, q_srs, q_wIs, q_wIn, q_wI2, q_wJ1, q_wJs, q_wJn, q_wR1, q_wRs, q_wRn, q_wI22, q_wJ22, pk_us, pk_un, pk_uLs, pk_uLn, q_usS, q_usN, q_ups, q_upn, Bool.true_eq_false, Bool.false_eq_true, q_lt, q_o2, q_o3, q_o4, q_o5, q_bi, ↓reduceIte, q_tv0, q_tv1, q_bz, q_oRl, q_oRr, q_oXl, q_oXr, e3]
  · obtain ⟨k, rfl⟩ : ∃ k, c = k + 1 := ⟨c - 1, by omega⟩
    obtain ⟨ν, f1, f2⟩ := s_copy (σ (3 + (q + k) % 8)) (σ 0)
    obtain ⟨ρ', r1, r2, r3⟩ := r_undo26 (c := k) (by omega) (wI (wI (σ 20) 0 12 (nI 0)) 0 4 (nI k)) (by simp (maxSteps := 2000000) (disch := first | rfl | exact q_e1 _ _ _ | exact q_sr1 _ _ | omega) only [q_sr1, q_srn, q_srw, q_srs, q_wIs, q_wIn, q_wI2, q_wJ1, q_wJs, q_wJn, q_wR1, q_wRs, q_wRn, q_wI22, q_wJ22, pk_us, pk_un, pk_uLs, pk_uLn, q_usS, q_usN, q_ups, q_upn])
    have r6 : ∀ f, f ≠ 4 → f ≠ 12 → ρ'.1 0 f = (σ 20).1 0 f := fun f hf hf' => by
      rw [r2 0 (by omega), q_wIs, pk_un hf, q_wIs, pk_un hf']
    have r7 : ∀ k, k ≠ 0 → k ≠ 1 → ρ'.1 k = (σ 20).1 k := fun k hk hk' => by
      rw [r2 k hk', q_wIn hk, q_wIn hk]
    refine ⟨nI k, us (us σ 16 (wI (σ 16) 0 2 (nI k))) 0 ν, ρ', ?_, ?_, ?_, ?_⟩
    · have hs : f_X4_slotAfter (nI k) (us σ 16 (wI (σ 16) 0 2 (nI k))) = some (nI ((q + k) % 8)) := s_slot (by rw [q_usS]; simp (maxSteps := 2000000) (disch := first | rfl | exact q_e1 _ _ _ | exact q_sr1 _ _ | omega) only [q_sr1, q_srn, q_srw, q_srs, q_wIs, q_wIn, q_wI2, q_wJ1, q_wJs, q_wJn, q_wR1, q_wRs, q_wRn, q_wI22, q_wJ22, pk_us, pk_un, pk_uLs, pk_uLn, q_usS, q_usN, q_ups, q_upn]; exact e1) hq (by omega)
      have hu : us σ 16 (wI (σ 16) 0 2 (nI k)) (3 + (q + k) % 8) = σ (3 + (q + k) % 8) := q_usN (by omega)
      simp (maxSteps := 2000000) (disch := first | rfl | exact q_e1 _ _ _ | exact q_sr1 _ _ | omega) only [f_X12_undo, f_X4_takeBack, ↓q_m1, q_l0, q_l1, q_l2, q_l3, q_l4, q_l5, q_l6, q_l7, q_l8, q_l9, q_l10, q_l11, q_l12, q_l13, q_l14, q_l15, q_l16, q_l17, q_l18, q_l19, q_l20, q_l21, q_l22, q_l23, q_l24, q_l25, q_l26, q_l27, q_l28, q_l29, q_l30, q_l31, q_l32, q_l33, q_l45, q_l46, q_l48, q_l57, q_l58, q_l59, q_l60, q_l61, q_l62, q_l63, q_l64, q_l96, q_l97, q_l99, q_l122, q_l129, q_l137, q_l255, q_l256, q_l400, q_l680, q_l700, q_l959, q_l999, q_l9999, q_l10000, q_l100000, q_ltT, q_ltF, q_leT, q_leF, q_eqF, q_eqR, q_mlt, q_mle, q_nlm, q_nLm, q_nem, q_men, q_mlm, Nat.add_zero, Nat.sub_zero, q_add0, pk_rem, nI_add, pk_mul, q_sub, q_subm, q_addm, nI_clamp, q_inT, q_inF, q_sr1, q_srn, q_srw, q_srs, q_wIs, q_wIn, q_wI2, q_wJ1, q_wJs, q_wJn, q_wR1, q_wRs, q_wRn, q_wI22, q_wJ22, pk_us, pk_un, pk_uLs, pk_uLn, q_usS, q_usN, q_ups, q_upn, Bool.true_eq_false, Bool.false_eq_true, q_lt, q_o2, q_o3, q_o4, q_o5, q_bi, ↓reduceIte, q_tv0, q_tv1, q_bz, q_oRl, q_oRr, q_oXl, q_oXr, e2, hs, hu, f1, Nat.add_sub_cancel]
    · simp (maxSteps := 2000000) (disch := first | rfl | exact q_e1 _ _ _ | exact q_sr1 _ _ | omega) only [f_X13_undo, ↓q_m1, q_l0, q_l1, q_l2, q_l3, q_l4, q_l5, q_l6, q_l7, q_l8, q_l9, q_l10, q_l11, q_l12, q_l13, q_l14, q_l15, q_l16, q_l17, q_l18, q_l19, q_l20, q_l21, q_l22, q_l23, q_l24, q_l25, q_l26, q_l27, q_l28, q_l29, q_l30, q_l31, q_l32, q_l33, q_l45, q_l46, q_l48, q_l57, q_l58, q_l59, q_l60, q_l61, q_l62, q_l63, q_l64, q_l96, q_l97, q_l99, q_l122, q_l129, q_l137, q_l255, q_l256, q_l400, q_l680, q_l700, q_l959, q_l999, q_l9999, q_l10000, q_l100000, q_ltT, q_ltF, q_leT, q_leF, q_eqF, q_eqR, q_mlt, q_mle, q_nlm, q_nLm, q_nem, q_men, q_mlm, Nat.add_zero, Nat.sub_zero, q_add0, pk_rem, nI_add, pk_mul, q_sub, q_subm, q_addm, nI_clamp, q_inT, q_inF, q_sr1, q_srn, q_srw, q_srs, q_wIs, q_wIn, q_wI2, q_wJ1, q_wJs, q_wJn, q_wR1, q_wRs, q_wRn, q_wI22, q_wJ22, pk_us, pk_un, pk_uLs, pk_uLn, q_usS, q_usN, q_ups, q_upn, Bool.true_eq_false, Bool.false_eq_true, q_lt, q_o2, q_o3, q_o4, q_o5, q_bi, ↓reduceIte, q_tv0, q_tv1, q_bz, q_oRl, q_oRr, q_oXl, q_oXr, e3, r1, Nat.add_sub_cancel]
    · rw [q_usN (by omega), q_usN (by omega)]
    · refine ⟨?_, ?_, ⟨q, k, hq, by omega, ?_, ?_, ?_, fun j hj => ?_⟩, ?_, ?_, ?_, ?_⟩
      · rw [q_usN (by omega), q_usS, q_usS]
        refine ((hh k (by omega)).copy f2).congr (fun j hj => ?_)
        rw [r3 j hj, q_wIn (by omega), q_wIn (by omega)]
      · rw [q_usS, r7 3 (by omega) (by omega), r6 5 (by omega) (by omega), q_usN (by omega), q_usN (by omega), q_usN (by omega), q_usN (by omega), q_usN (by omega), q_usN (by omega)]; exact h2
      · rw [q_usN (by omega), q_usN (by omega), q_usS]; simp (maxSteps := 2000000) (disch := first | rfl | exact q_e1 _ _ _ | exact q_sr1 _ _ | omega) only [q_sr1, q_srn, q_srw, q_srs, q_wIs, q_wIn, q_wI2, q_wJ1, q_wJs, q_wJn, q_wR1, q_wRs, q_wRn, q_wI22, q_wJ22, pk_us, pk_un, pk_uLs, pk_uLn, q_usS, q_usN, q_ups, q_upn]; exact e1
      · rw [q_usN (by omega), q_usN (by omega), q_usS]; simp (maxSteps := 2000000) (disch := first | rfl | exact q_e1 _ _ _ | exact q_sr1 _ _ | omega) only [q_sr1, q_srn, q_srw, q_srs, q_wIs, q_wIn, q_wI2, q_wJ1, q_wJs, q_wJn, q_wR1, q_wRs, q_wRn, q_wI22, q_wJ22, pk_us, pk_un, pk_uLs, pk_uLn, q_usS, q_usN, q_ups, q_upn]
      · rw [q_usS, r2 0 (by omega)]; simp (maxSteps := 2000000) (disch := first | rfl | exact q_e1 _ _ _ | exact q_sr1 _ _ | omega) only [q_sr1, q_srn, q_srw, q_srs, q_wIs, q_wIn, q_wI2, q_wJ1, q_wJs, q_wJn, q_wR1, q_wRs, q_wRn, q_wI22, q_wJ22, pk_us, pk_un, pk_uLs, pk_uLn, q_usS, q_usN, q_ups, q_upn]
      · rw [q_usS]
        show MW B (us (us (us σ 16 _) 0 ν) 20 ρ' (3 + (q + j) % 8)) _
        rw [q_usN (by omega), q_usN (by omega), q_usN (by omega), r7 4 (by omega) (by omega)]
        exact hh j (by omega)
      · rw [q_usS, r7 5 (by omega) (by omega), r6 7 (by omega) (by omega), q_usN (by omega), q_usN (by omega), q_usN (by omega)]; exact h4
      · rw [q_usS, r7 6 (by omega) (by omega), r6 11 (by omega) (by omega), q_usN (by omega), q_usN (by omega), q_usN (by omega)]; exact h5
      · rw [q_usS, r6 8 (by omega) (by omega), q_usN (by omega), q_usN (by omega), q_usN (by omega)]; exact h6
      · rw [q_usS, r6 9 (by omega) (by omega), q_usN (by omega), q_usN (by omega), q_usN (by omega)]; exact h7
theorem P_save (h : Rel B σ) : FM B σ (f_X12_save σ) (f_X13_save (σ 20)) := by
  obtain ⟨S, T, hm, hf⟩ := h.1
  obtain ⟨h1, h2, h3, h4, h5, h6, h7⟩ := id h
  obtain ⟨ν, f1, f2⟩ := s_copy (σ 0) (σ 2)
  obtain ⟨ρ', r1, r2, r3⟩ := r_copy1_3 (wI (σ 20) 0 12 (nI 0))
  have r6 : ∀ f, f ≠ 12 → ρ'.1 0 f = (σ 20).1 0 f := fun f hf => by
    rw [r2 0 (by omega), q_wIs, pk_un hf]
  have r7 : ∀ k, k ≠ 0 → k ≠ 3 → ρ'.1 k = (σ 20).1 k := fun k hk hk' => by
    rw [r2 k hk', q_wIn hk]
  refine ⟨(σ 20).1 1 2, us (us σ 2 ν) 19 (wI (σ 19) 0 6 (nI 1)), wI ρ' 0 5 (nI 1), ?_, ?_, ?_, ?_⟩
  · simp (maxSteps := 2000000) (disch := first | rfl | exact q_e1 _ _ _ | exact q_sr1 _ _ | omega) only [f_X12_save, ↓q_m1, q_l0, q_l1, q_l2, q_l3, q_l4, q_l5, q_l6, q_l7, q_l8, q_l9, q_l10, q_l11, q_l12, q_l13, q_l14, q_l15, q_l16, q_l17, q_l18, q_l19, q_l20, q_l21, q_l22, q_l23, q_l24, q_l25, q_l26, q_l27, q_l28, q_l29, q_l30, q_l31, q_l32, q_l33, q_l45, q_l46, q_l48, q_l57, q_l58, q_l59, q_l60, q_l61, q_l62, q_l63, q_l64, q_l96, q_l97, q_l99, q_l122, q_l129, q_l137, q_l255, q_l256, q_l400, q_l680, q_l700, q_l959, q_l999, q_l9999, q_l10000, q_l100000, q_ltT, q_ltF, q_leT, q_leF, q_eqF, q_eqR, q_mlt, q_mle, q_nlm, q_nLm, q_nem, q_men, q_mlm, Nat.add_zero, Nat.sub_zero, q_add0, pk_rem, nI_add, pk_mul, q_sub, q_subm, q_addm, nI_clamp, q_inT, q_inF, q_sr1, q_srn, q_srw, q_srs, q_wIs, q_wIn, q_wI2, q_wJ1, q_wJs, q_wJn, q_wR1, q_wRs, q_wRn, q_wI22, q_wJ22, pk_us, pk_un, pk_uLs, pk_uLn, q_usS, q_usN, q_ups, q_upn, Bool.true_eq_false, Bool.false_eq_true, q_lt, q_o2, q_o3, q_o4, q_o5, q_bi, ↓reduceIte, q_tv0, q_tv1, q_bz, q_oRl, q_oRr, q_oXl, q_oXr, f1, hm.2.1 2 (by omega) (by omega)]
  · simp (maxSteps := 2000000) (disch := first | rfl | exact q_e1 _ _ _ | exact q_sr1 _ _ | omega) only [f_X13_save, ↓q_m1, q_l0, q_l1, q_l2, q_l3, q_l4, q_l5, q_l6, q_l7, q_l8, q_l9, q_l10, q_l11, q_l12, q_l13, q_l14, q_l15, q_l16, q_l17, q_l18, q_l19, q_l20, q_l21, q_l22, q_l23, q_l24, q_l25, q_l26, q_l27, q_l28, q_l29, q_l30, q_l31, q_l32, q_l33, q_l45, q_l46, q_l48, q_l57, q_l58, q_l59, q_l60, q_l61, q_l62, q_l63, q_l64, q_l96, q_l97, q_l99, q_l122, q_l129, q_l137, q_l255, q_l256, q_l400, q_l680, q_l700, q_l959, q_l999, q_l9999, q_l10000, q_l100000, q_ltT, q_ltF, q_leT, q_leF, q_eqF, q_eqR, q_mlt, q_mle, q_nlm, q_nLm, q_nem, q_men, q_mlm, Nat.add_zero, Nat.sub_zero, q_add0, pk_rem, nI_add, pk_mul, q_sub, q_subm, q_addm, nI_clamp, q_inT, q_inF, q_sr1, q_srn, q_srw, q_srs, q_wIs, q_wIn, q_wI2, q_wJ1, q_wJs, q_wJn, q_wR1, q_wRs, q_wRn, q_wI22, q_wJ22, pk_us, pk_un, pk_uLs, pk_uLn, q_usS, q_usN, q_ups, q_upn, Bool.true_eq_false, Bool.false_eq_true, q_lt, q_o2, q_o3, q_o4, q_o5, q_bi, ↓reduceIte, q_tv0, q_tv1, q_bz, q_oRl, q_oRr, q_oXl, q_oXr, r1, r7 1]
  · rw [q_usN (by omega), q_usN (by omega)]
  · refine ⟨?_, Or.inr ⟨?_, ?_, ?_⟩, ?_, ?_, ?_, ?_, ?_⟩
    · rw [q_usN (by omega), q_usN (by omega), q_usN (by omega), q_usS, q_wIn (by omega), r7 1 (by omega) (by omega)]; exact h1
    · rw [q_usN (by omega), q_usS]; simp (maxSteps := 2000000) (disch := first | rfl | exact q_e1 _ _ _ | exact q_sr1 _ _ | omega) only [q_sr1, q_srn, q_srw, q_srs, q_wIs, q_wIn, q_wI2, q_wJ1, q_wJs, q_wJn, q_wR1, q_wRs, q_wRn, q_wI22, q_wJ22, pk_us, pk_un, pk_uLs, pk_uLn, q_usS, q_usN, q_ups, q_upn]
    · rw [q_usS]; simp (maxSteps := 2000000) (disch := first | rfl | exact q_e1 _ _ _ | exact q_sr1 _ _ | omega) only [q_sr1, q_srn, q_srw, q_srs, q_wIs, q_wIn, q_wI2, q_wJ1, q_wJs, q_wJn, q_wR1, q_wRs, q_wRn, q_wI22, q_wJ22, pk_us, pk_un, pk_uLs, pk_uLn, q_usS, q_usN, q_ups, q_upn]
    · rw [q_usN (by omega), q_usN (by omega), q_usS, q_usS, q_wIn (by omega)]
      refine (h1.copy f2).congr (fun j hj => ?_)
      rw [r3 j hj, q_wIn (by omega)]
    · obtain ⟨q, c, hq, hc, e1, e2, e3, hh⟩ := h3
      refine ⟨q, c, hq, hc, ?_, ?_, ?_, fun j hj => ?_⟩
      · rw [q_usN (by omega), q_usN (by omega), q_usN (by omega)]; exact e1
      · rw [q_usN (by omega), q_usN (by omega), q_usN (by omega)]; exact e2
      · rw [q_usS, q_wIs, pk_un (by omega), r6 4 (by omega)]; exact e3
      · rw [q_usS]
        show MW B (us (us (us σ 2 ν) 19 _) 20 _ (3 + (q + j) % 8)) _
        rw [q_usN (by omega), q_usN (by omega), q_usN (by omega), q_wIn (by omega), r7 4 (by omega) (by omega)]
        exact hh j hj
    · rw [q_usS, q_wIs, pk_un (by omega), q_wIn (by omega), r7 5 (by omega) (by omega), r6 7 (by omega), q_usN (by omega), q_usN (by omega), q_usN (by omega)]; exact h4
    · rw [q_usS, q_wIs, pk_un (by omega), q_wIn (by omega), r7 6 (by omega) (by omega), r6 11 (by omega), q_usN (by omega), q_usN (by omega), q_usN (by omega)]; exact h5
    · rw [q_usS, q_wIs, pk_un (by omega), r6 8 (by omega), q_usN (by omega), q_usN (by omega), q_usN (by omega)]; exact h6
    · rw [q_usS, q_wIs, pk_un (by omega), r6 9 (by omega), q_usN (by omega), q_usN (by omega), q_usN (by omega)]; exact h7
theorem P_restore (h : Rel B σ) : FS B B σ [0] (f_X12_restore σ) (f_X13_restore (σ 20)) := by
  obtain ⟨h1, h2, h3, h4, h5, h6, h7⟩ := id h
  rcases h2 with ⟨g1, g2⟩ | ⟨g1, g2, g3⟩
  · refine fs_t h 0 rfl ?_ (nI 0) ?_
    · simp (maxSteps := 2000000) (disch := first | rfl | exact q_e1 _ _ _ | exact q_sr1 _ _ | omega) only [f_X12_restore, g1, ↓q_m1, q_l0, q_l1, q_l2, q_l3, q_l4, q_l5, q_l6, q_l7, q_l8, q_l9, q_l10, q_l11, q_l12, q_l13, q_l14, q_l15, q_l16, q_l17, q_l18, q_l19, q_l20, q_l21, q_l22, q_l23, q_l24, q_l25, q_l26, q_l27, q_l28, q_l29, q_l30, q_l31, q_l32, q_l33, q_l45, q_l46, q_l48, q_l57, q_l58, q_l59, q_l60, q_l61, q_l62, q_l63, q_l64, q_l96, q_l97, q_l99, q_l122, q_l129, q_l137, q_l255, q_l256, q_l400, q_l680, q_l700, q_l959, q_l999, q_l9999, q_l10000, q_l100000, q_ltT, q_ltF, q_leT, q_leF, q_eqF, q_eqR, q_mlt, q_mle, q_nlm, q_nLm, q_nem, q_men, q_mlm, Nat.add_zero, Nat.sub_zero, q_add0, pk_rem, nI_add, pk_mul, q_sub, q_subm, q_addm, nI_clamp, q_inT, q_inF, q_sr1, q_srn, q_srw, q_srs, q_wIs, q_wIn, q_wI2, q_wJ1, q_wJs, q_wJn, q_wR1, q_wRs, q_wRn, q_wI22, q_wJ22, pk_us, pk_un, pk_uLs, pk_uLn, q_usS, q_usN, q_ups, q_upn, Bool.true_eq_false, Bool.false_eq_true, q_lt, q_o2, q_o3, q_o4, q_o5, q_bi, ↓reduceIte, q_tv0, q_tv1, q_bz, q_oRl, q_oRr, q_oXl, q_oXr]
    · simp (maxSteps := 2000000) (disch := first | rfl | exact q_e1 _ _ _ | exact q_sr1 _ _ | omega) only [f_X13_restore, g2, r_wants0, ↓q_m1, q_l0, q_l1, q_l2, q_l3, q_l4, q_l5, q_l6, q_l7, q_l8, q_l9, q_l10, q_l11, q_l12, q_l13, q_l14, q_l15, q_l16, q_l17, q_l18, q_l19, q_l20, q_l21, q_l22, q_l23, q_l24, q_l25, q_l26, q_l27, q_l28, q_l29, q_l30, q_l31, q_l32, q_l33, q_l45, q_l46, q_l48, q_l57, q_l58, q_l59, q_l60, q_l61, q_l62, q_l63, q_l64, q_l96, q_l97, q_l99, q_l122, q_l129, q_l137, q_l255, q_l256, q_l400, q_l680, q_l700, q_l959, q_l999, q_l9999, q_l10000, q_l100000, q_ltT, q_ltF, q_leT, q_leF, q_eqF, q_eqR, q_mlt, q_mle, q_nlm, q_nLm, q_nem, q_men, q_mlm, Nat.add_zero, Nat.sub_zero, q_add0, pk_rem, nI_add, pk_mul, q_sub, q_subm, q_addm, nI_clamp, q_inT, q_inF, q_sr1, q_srn, q_srw, q_srs, q_wIs, q_wIn, q_wI2, q_wJ1, q_wJs, q_wJn, q_wR1, q_wRs, q_wRn, q_wI22, q_wJ22, pk_us, pk_un, pk_uLs, pk_uLn, q_usS, q_usN, q_ups, q_upn, Bool.true_eq_false, Bool.false_eq_true, q_lt, q_o2, q_o3, q_o4, q_o5, q_bi, ↓reduceIte, q_tv0, q_tv1, q_bz, q_oRl, q_oRr, q_oXl, q_oXr]
  · obtain ⟨S, T, hm, hf⟩ := id g3
    obtain ⟨ν, f1, f2⟩ := s_copy (σ 2) (σ 0)
    obtain ⟨ρ', r1, r2, r3⟩ := r_copy3_1 (wI (σ 20) 0 12 (nI 0))
    have r6 : ∀ f, f ≠ 12 → ρ'.1 0 f = (σ 20).1 0 f := fun f hf => by
      rw [r2 0 (by omega), q_wIs, pk_un hf]
    have r7 : ∀ k, k ≠ 0 → k ≠ 1 → ρ'.1 k = (σ 20).1 k := fun k hk hk' => by
      rw [r2 k hk', q_wIn hk]
    refine ⟨.inr ((σ 20).1 3 2, us (us σ 0 ν) 16 (wI (wI (σ 16) 0 1 (nI 0)) 0 2 (nI 0))), (σ 20).1 3 2, wI ρ' 0 4 (nI 0), ?_, ?_, Or.inr ⟨_, rfl, ?_, ?_, ?_, Or.inr ⟨?_, ?_, ?_⟩, ?_, ?_, ?_, ?_, ?_⟩⟩
    · have e : ν.1 0 2 = (σ 20).1 3 2 := (f2.1 2 (by omega)).trans (hm.2.1 2 (by omega) (by omega))
      have es : us (us (us σ 0 ν) 16 (wI (σ 16) 0 1 (nI 0))) 16 (wI (wI (σ 16) 0 1 (nI 0)) 0 2 (nI 0)) = us (us σ 0 ν) 16 (wI (wI (σ 16) 0 1 (nI 0)) 0 2 (nI 0)) := by
        funext k
        by_cases hk : k = 16
        · subst hk; rw [q_usS, q_usS]
        · rw [q_usN hk, q_usN hk, q_usN hk]
      simp (maxSteps := 2000000) (disch := first | rfl | exact q_e1 _ _ _ | exact q_sr1 _ _ | omega) only [f_X12_restore, f_X4_clear, g1, f1, e, es, ↓q_m1, q_l0, q_l1, q_l2, q_l3, q_l4, q_l5, q_l6, q_l7, q_l8, q_l9, q_l10, q_l11, q_l12, q_l13, q_l14, q_l15, q_l16, q_l17, q_l18, q_l19, q_l20, q_l21, q_l22, q_l23, q_l24, q_l25, q_l26, q_l27, q_l28, q_l29, q_l30, q_l31, q_l32, q_l33, q_l45, q_l46, q_l48, q_l57, q_l58, q_l59, q_l60, q_l61, q_l62, q_l63, q_l64, q_l96, q_l97, q_l99, q_l122, q_l129, q_l137, q_l255, q_l256, q_l400, q_l680, q_l700, q_l959, q_l999, q_l9999, q_l10000, q_l100000, q_ltT, q_ltF, q_leT, q_leF, q_eqF, q_eqR, q_mlt, q_mle, q_nlm, q_nLm, q_nem, q_men, q_mlm, Nat.add_zero, Nat.sub_zero, q_add0, pk_rem, nI_add, pk_mul, q_sub, q_subm, q_addm, nI_clamp, q_inT, q_inF, q_sr1, q_srn, q_srw, q_srs, q_wIs, q_wIn, q_wI2, q_wJ1, q_wJs, q_wJn, q_wR1, q_wRs, q_wRn, q_wI22, q_wJ22, pk_us, pk_un, pk_uLs, pk_uLn, q_usS, q_usN, q_ups, q_upn, Bool.true_eq_false, Bool.false_eq_true, q_lt, q_o2, q_o3, q_o4, q_o5, q_bi, ↓reduceIte, q_tv0, q_tv1, q_bz, q_oRl, q_oRr, q_oXl, q_oXr]
    · have e : ρ'.1 1 2 = (σ 20).1 3 2 := (r3 2 (by omega)).trans (congrFun (q_wIn (by omega)) 2)
      simp (maxSteps := 2000000) (disch := first | rfl | exact q_e1 _ _ _ | exact q_sr1 _ _ | omega) only [f_X13_restore, g2, r_wants1, r1, e, ↓q_m1, q_l0, q_l1, q_l2, q_l3, q_l4, q_l5, q_l6, q_l7, q_l8, q_l9, q_l10, q_l11, q_l12, q_l13, q_l14, q_l15, q_l16, q_l17, q_l18, q_l19, q_l20, q_l21, q_l22, q_l23, q_l24, q_l25, q_l26, q_l27, q_l28, q_l29, q_l30, q_l31, q_l32, q_l33, q_l45, q_l46, q_l48, q_l57, q_l58, q_l59, q_l60, q_l61, q_l62, q_l63, q_l64, q_l96, q_l97, q_l99, q_l122, q_l129, q_l137, q_l255, q_l256, q_l400, q_l680, q_l700, q_l959, q_l999, q_l9999, q_l10000, q_l100000, q_ltT, q_ltF, q_leT, q_leF, q_eqF, q_eqR, q_mlt, q_mle, q_nlm, q_nLm, q_nem, q_men, q_mlm, Nat.add_zero, Nat.sub_zero, q_add0, pk_rem, nI_add, pk_mul, q_sub, q_subm, q_addm, nI_clamp, q_inT, q_inF, q_sr1, q_srn, q_srw, q_srs, q_wIs, q_wIn, q_wI2, q_wJ1, q_wJs, q_wJn, q_wR1, q_wRs, q_wRn, q_wI22, q_wJ22, pk_us, pk_un, pk_uLs, pk_uLn, q_usS, q_usN, q_ups, q_upn, Bool.true_eq_false, Bool.false_eq_true, q_lt, q_o2, q_o3, q_o4, q_o5, q_bi, ↓reduceIte, q_tv0, q_tv1, q_bz, q_oRl, q_oRr, q_oXl, q_oXr]
    · rw [q_wIs, pk_un (by omega), r2 0 (by omega)]; simp (maxSteps := 2000000) (disch := first | rfl | exact q_e1 _ _ _ | exact q_sr1 _ _ | omega) only [q_sr1, q_srn, q_srw, q_srs, q_wIs, q_wIn, q_wI2, q_wJ1, q_wJs, q_wJn, q_wR1, q_wRs, q_wRn, q_wI22, q_wJ22, pk_us, pk_un, pk_uLs, pk_uLn, q_usS, q_usN, q_ups, q_upn]
    · rw [q_usN (by omega), q_usN (by omega)]
    · rw [q_usN (by omega), q_usN (by omega), q_usS, q_usS, q_wIn (by omega)]
      refine (g3.copy f2).congr (fun j hj => ?_)
      rw [r3 j hj, q_wIn (by omega)]
    · rw [q_usN (by omega), q_usN (by omega), q_usN (by omega)]; exact g1
    · rw [q_usS, q_wIs, pk_un (by omega), r6 5 (by omega)]; exact g2
    · rw [q_usN (by omega), q_usN (by omega), q_usN (by omega), q_usS, q_wIn (by omega), r7 3 (by omega) (by omega)]; exact g3
    · refine ⟨0, 0, by omega, by omega, ?_, ?_, ?_, fun j hj => by omega⟩
      · rw [q_usN (by omega), q_usS]; simp (maxSteps := 2000000) (disch := first | rfl | exact q_e1 _ _ _ | exact q_sr1 _ _ | omega) only [q_sr1, q_srn, q_srw, q_srs, q_wIs, q_wIn, q_wI2, q_wJ1, q_wJs, q_wJn, q_wR1, q_wRs, q_wRn, q_wI22, q_wJ22, pk_us, pk_un, pk_uLs, pk_uLn, q_usS, q_usN, q_ups, q_upn]
      · rw [q_usN (by omega), q_usS]; simp (maxSteps := 2000000) (disch := first | rfl | exact q_e1 _ _ _ | exact q_sr1 _ _ | omega) only [q_sr1, q_srn, q_srw, q_srs, q_wIs, q_wIn, q_wI2, q_wJ1, q_wJs, q_wJn, q_wR1, q_wRs, q_wRn, q_wI22, q_wJ22, pk_us, pk_un, pk_uLs, pk_uLn, q_usS, q_usN, q_ups, q_upn]
      · rw [q_usS]; simp (maxSteps := 2000000) (disch := first | rfl | exact q_e1 _ _ _ | exact q_sr1 _ _ | omega) only [q_sr1, q_srn, q_srw, q_srs, q_wIs, q_wIn, q_wI2, q_wJ1, q_wJs, q_wJn, q_wR1, q_wRs, q_wRn, q_wI22, q_wJ22, pk_us, pk_un, pk_uLs, pk_uLn, q_usS, q_usN, q_ups, q_upn]
    · rw [q_usS, q_wIs, pk_un (by omega), q_wIn (by omega), r7 5 (by omega) (by omega), r6 7 (by omega), q_usN (by omega), q_usN (by omega), q_usN (by omega)]; exact h4
    · rw [q_usS, q_wIs, pk_un (by omega), q_wIn (by omega), r7 6 (by omega) (by omega), r6 11 (by omega), q_usN (by omega), q_usN (by omega), q_usN (by omega)]; exact h5
    · rw [q_usS, q_wIs, pk_un (by omega), r6 8 (by omega), q_usN (by omega), q_usN (by omega), q_usN (by omega)]; exact h6
    · rw [q_usS, q_wIs, pk_un (by omega), r6 9 (by omega), q_usN (by omega), q_usN (by omega), q_usN (by omega)]; exact h7
end FACE

/-! undo steps, and the calls of the class that both do -/
def HI (σ : SM) : Prop := ∃ q k, q < 8 ∧ k ≤ 8 ∧ (σ 16).1 0 1 = nI q ∧ (σ 16).1 0 2 = nI k
theorem HI.c {σ τ : SM} (h : HI σ) (e : τ 16 = σ 16) : HI τ := by
  unfold HI
  rw [e]
  exact h
theorem rec_ok {σ : SM} (h : HI σ) : ∃ τ, f_X4_record σ = some τ ∧ (∀ o, o < 3 ∨ 11 ≤ o → o ≠ 16 → τ o = σ o) ∧ ∃ q k, q < 8 ∧ k < 8 ∧ (τ 16).1 0 1 = nI q ∧ (τ 16).1 0 2 = nI (k + 1) ∧ CE (σ 0) (τ (3 + (q + k) % 8)) := by
  obtain ⟨q, c, hq, hc, e1, e2⟩ := h
  obtain ⟨ν, f1, f2⟩ := s_copy (σ 0) (σ (3 + (q + c) % 8))
  by_cases hc8 : c = 8
  · subst hc8
    refine ⟨us (us σ (3 + (q + 8) % 8) ν) 16 (wI (σ 16) 0 1 (nI ((q + 1) % 8))), ?_, fun o ho ho' => ?_, (q + 1) % 8, 7, by omega, by omega, ?_, ?_, ?_⟩
    · have hs : f_X4_slotAfter (nI 1) (us σ (3 + (q + 8) % 8) ν) = some (nI ((q + 1) % 8)) := s_slot (by rw [q_usN (by omega)]; exact e1) hq (by omega)
      simp (maxSteps := 2000000) (disch := first | rfl | exact q_e1 _ _ _ | exact q_sr1 _ _ | omega) only [f_X4_record, ↓q_m1, q_l0, q_l1, q_l2, q_l3, q_l4, q_l5, q_l6, q_l7, q_l8, q_l9, q_l10, q_l11, q_l12, q_l13, q_l14, q_l15, q_l16, q_l17, q_l18, q_l19, q_l20, q_l21, q_l22, q_l23, q_l24, q_l25, q_l26, q_l27, q_l28, q_l29, q_l30, q_l31, q_l32, q_l33, q_l45, q_l46, q_l48, q_l57, q_l58, q_l59, q_l60, q_l61, q_l62, q_l63, q_l64, q_l96, q_l97, q_l99, q_l122, q_l129, q_l137, q_l255, q_l256, q_l400, q_l680, q_l700, q_l959, q_l999, q_l9999, q_l10000, q_l100000, q_l36, q_l50, q_l100, q_l112, q_l200, q_ltT, q_ltF, q_leT, q_leF, q_eqF, q_eqR, q_mlt, q_mle, q_nlm, q_nLm, q_nem, q_men, q_mlm, Nat.add_zero, Nat.sub_zero, q_add0, pk_rem, nI_add, pk_mul, q_sub, q_subm, q_addm, nI_clamp, q_inT, q_inF, q_sr1, q_srn, q_srw, q_srs, q_wIs, q_wIn, q_wI2, q_wJ1, q_wJs, q_wJn, q_wR1, q_wRs, q_wRn, q_wI22, q_wJ22, pk_us, pk_un, pk_uLs, pk_uLn, q_usS, q_usN, q_ups, q_upn, Bool.true_eq_false, Bool.false_eq_true, q_lt, q_o2, q_o3, q_o4, q_o5, q_bi, ↓reduceIte, q_tv0, q_tv1, q_bz, q_oRl, q_oRr, q_oXl, q_oXr, e2, s_slot e1 hq, f1, hs]
    · rw [q_usN (by omega), q_usN (by omega)]
    · rw [q_usS]; simp (maxSteps := 2000000) (disch := first | rfl | exact q_e1 _ _ _ | exact q_sr1 _ _ | omega) only [q_sr1, q_srn, q_srw, q_srs, q_wIs, q_wIn, q_wI2, q_wJ1, q_wJs, q_wJn, q_wR1, q_wRs, q_wRn, q_wI22, q_wJ22, pk_us, pk_un, pk_uLs, pk_uLn, q_usS, q_usN, q_ups, q_upn]
    · rw [q_usS]; simp (maxSteps := 2000000) (disch := first | rfl | exact q_e1 _ _ _ | exact q_sr1 _ _ | omega) only [q_sr1, q_srn, q_srw, q_srs, q_wIs, q_wIn, q_wI2, q_wJ1, q_wJs, q_wJn, q_wR1, q_wRs, q_wRn, q_wI22, q_wJ22, pk_us, pk_un, pk_uLs, pk_uLn, q_usS, q_usN, q_ups, q_upn]; exact e2
    · rw [q_usN (by omega), show 3 + ((q + 1) % 8 + 7) % 8 = 3 + (q + 8) % 8 by omega, q_usS]; exact f2
  · refine ⟨us (us σ (3 + (q + c) % 8) ν) 16 (wI (σ 16) 0 2 (nI (c + 1))), ?_, fun o ho ho' => ?_, q, c, hq, by omega, ?_, ?_, ?_⟩
    · simp (maxSteps := 2000000) (disch := first | rfl | exact q_e1 _ _ _ | exact q_sr1 _ _ | omega) only [f_X4_record, ↓q_m1, q_l0, q_l1, q_l2, q_l3, q_l4, q_l5, q_l6, q_l7, q_l8, q_l9, q_l10, q_l11, q_l12, q_l13, q_l14, q_l15, q_l16, q_l17, q_l18, q_l19, q_l20, q_l21, q_l22, q_l23, q_l24, q_l25, q_l26, q_l27, q_l28, q_l29, q_l30, q_l31, q_l32, q_l33, q_l45, q_l46, q_l48, q_l57, q_l58, q_l59, q_l60, q_l61, q_l62, q_l63, q_l64, q_l96, q_l97, q_l99, q_l122, q_l129, q_l137, q_l255, q_l256, q_l400, q_l680, q_l700, q_l959, q_l999, q_l9999, q_l10000, q_l100000, q_l36, q_l50, q_l100, q_l112, q_l200, q_ltT, q_ltF, q_leT, q_leF, q_eqF, q_eqR, q_mlt, q_mle, q_nlm, q_nLm, q_nem, q_men, q_mlm, Nat.add_zero, Nat.sub_zero, q_add0, pk_rem, nI_add, pk_mul, q_sub, q_subm, q_addm, nI_clamp, q_inT, q_inF, q_sr1, q_srn, q_srw, q_srs, q_wIs, q_wIn, q_wI2, q_wJ1, q_wJs, q_wJn, q_wR1, q_wRs, q_wRn, q_wI22, q_wJ22, pk_us, pk_un, pk_uLs, pk_uLn, q_usS, q_usN, q_ups, q_upn, Bool.true_eq_false, Bool.false_eq_true, q_lt, q_o2, q_o3, q_o4, q_o5, q_bi, ↓reduceIte, q_tv0, q_tv1, q_bz, q_oRl, q_oRr, q_oXl, q_oXr, e2, s_slot e1 hq, f1]
    · rw [q_usN (by omega), q_usN (by omega)]
    · rw [q_usS]; simp (maxSteps := 2000000) (disch := first | rfl | exact q_e1 _ _ _ | exact q_sr1 _ _ | omega) only [q_sr1, q_srn, q_srw, q_srs, q_wIs, q_wIn, q_wI2, q_wJ1, q_wJs, q_wJn, q_wR1, q_wRs, q_wRn, q_wI22, q_wJ22, pk_us, pk_un, pk_uLs, pk_uLn, q_usS, q_usN, q_ups, q_upn]; exact e1
    · rw [q_usS]; simp (maxSteps := 2000000) (disch := first | rfl | exact q_e1 _ _ _ | exact q_sr1 _ _ | omega) only [q_sr1, q_srn, q_srw, q_srs, q_wIs, q_wIn, q_wI2, q_wJ1, q_wJs, q_wJn, q_wR1, q_wRs, q_wRn, q_wI22, q_wJ22, pk_us, pk_un, pk_uLs, pk_uLn, q_usS, q_usN, q_ups, q_upn]
    · rw [q_usN (by omega), q_usS]; exact f2
theorem rec_hi {τ : SM} {μ : OM} (h : ∃ q k, q < 8 ∧ k < 8 ∧ (τ 16).1 0 1 = nI q ∧ (τ 16).1 0 2 = nI (k + 1) ∧ CE μ (τ (3 + (q + k) % 8))) : HI τ := by
  obtain ⟨q, k, h1, h2, h3, h4, _⟩ := h
  exact ⟨q, k + 1, h1, by omega, h3, h4⟩
theorem undo_ok {σ : SM} {q k : Nat} (hq : q < 8) (hk : k < 8) (e1 : (σ 16).1 0 1 = nI q) (e2 : (σ 16).1 0 2 = nI (k + 1)) : ∃ τ, f_X12_undo σ = some (nI k, τ) ∧ CE (σ (3 + (q + k) % 8)) (τ 0) ∧ HI τ ∧ ∀ o, o ≠ 0 → o ≠ 16 → τ o = σ o := by
  obtain ⟨ν, f1, f2⟩ := s_copy (σ (3 + (q + k) % 8)) (σ 0)
  refine ⟨us (us σ 16 (wI (σ 16) 0 2 (nI k))) 0 ν, ?_, by rw [q_usS]; exact f2, ⟨q, k, hq, by omega, ?_, ?_⟩, fun o h0 h16 => by rw [q_usN h0, q_usN h16]⟩
  · have hs : f_X4_slotAfter (nI k) (us σ 16 (wI (σ 16) 0 2 (nI k))) = some (nI ((q + k) % 8)) := s_slot (by rw [q_usS]; simp (maxSteps := 2000000) (disch := first | rfl | exact q_e1 _ _ _ | exact q_sr1 _ _ | omega) only [q_sr1, q_srn, q_srw, q_srs, q_wIs, q_wIn, q_wI2, q_wJ1, q_wJs, q_wJn, q_wR1, q_wRs, q_wRn, q_wI22, q_wJ22, pk_us, pk_un, pk_uLs, pk_uLn, q_usS, q_usN, q_ups, q_upn]; exact e1) hq (by omega)
    have hu : us σ 16 (wI (σ 16) 0 2 (nI k)) (3 + (q + k) % 8) = σ (3 + (q + k) % 8) := q_usN (by omega)
    simp (maxSteps := 2000000) (disch := first | rfl | exact q_e1 _ _ _ | exact q_sr1 _ _ | omega) only [f_X12_undo, f_X4_takeBack, ↓q_m1, q_l0, q_l1, q_l2, q_l3, q_l4, q_l5, q_l6, q_l7, q_l8, q_l9, q_l10, q_l11, q_l12, q_l13, q_l14, q_l15, q_l16, q_l17, q_l18, q_l19, q_l20, q_l21, q_l22, q_l23, q_l24, q_l25, q_l26, q_l27, q_l28, q_l29, q_l30, q_l31, q_l32, q_l33, q_l45, q_l46, q_l48, q_l57, q_l58, q_l59, q_l60, q_l61, q_l62, q_l63, q_l64, q_l96, q_l97, q_l99, q_l122, q_l129, q_l137, q_l255, q_l256, q_l400, q_l680, q_l700, q_l959, q_l999, q_l9999, q_l10000, q_l100000, q_l36, q_l50, q_l100, q_l112, q_l200, q_ltT, q_ltF, q_leT, q_leF, q_eqF, q_eqR, q_mlt, q_mle, q_nlm, q_nLm, q_nem, q_men, q_mlm, Nat.add_zero, Nat.sub_zero, q_add0, pk_rem, nI_add, pk_mul, q_sub, q_subm, q_addm, nI_clamp, q_inT, q_inF, q_sr1, q_srn, q_srw, q_srs, q_wIs, q_wIn, q_wI2, q_wJ1, q_wJs, q_wJn, q_wR1, q_wRs, q_wRn, q_wI22, q_wJ22, pk_us, pk_un, pk_uLs, pk_uLn, q_usS, q_usN, q_ups, q_upn, Bool.true_eq_false, Bool.false_eq_true, q_lt, q_o2, q_o3, q_o4, q_o5, q_bi, ↓reduceIte, q_tv0, q_tv1, q_bz, q_oRl, q_oRr, q_oXl, q_oXr, e2, hs, hu, f1, Nat.add_sub_cancel]
  · rw [q_usN (by omega), q_usS]; simp (maxSteps := 2000000) (disch := first | rfl | exact q_e1 _ _ _ | exact q_sr1 _ _ | omega) only [q_sr1, q_srn, q_srw, q_srs, q_wIs, q_wIn, q_wI2, q_wJ1, q_wJs, q_wJn, q_wR1, q_wRs, q_wRn, q_wI22, q_wJ22, pk_us, pk_un, pk_uLs, pk_uLn, q_usS, q_usN, q_ups, q_upn]; exact e1
  · rw [q_usN (by omega), q_usS]; simp (maxSteps := 2000000) (disch := first | rfl | exact q_e1 _ _ _ | exact q_sr1 _ _ | omega) only [q_sr1, q_srn, q_srw, q_srs, q_wIs, q_wIn, q_wI2, q_wJ1, q_wJs, q_wJn, q_wR1, q_wRs, q_wRn, q_wI22, q_wJ22, pk_us, pk_un, pk_uLs, pk_uLn, q_usS, q_usN, q_ups, q_upn]
theorem MX.copy {B S T : Nat} {μ ν : OM} {a : Nat → Int32} (c : CE μ ν) (h : MX B S T μ a) : MX B S T ν a := by
  obtain ⟨⟨n1, n2, n3, n4, n5, n6, n7, n8, n9⟩, hf⟩ := h
  have hS := hf.2.1.1.1
  have hT := hf.2.1.1.2
  obtain ⟨c1, c2, c3, c4⟩ := c
  refine ⟨⟨⟨(c1 0 (by omega)).trans n1.1, (c1 1 (by omega)).trans n1.2.1, n1.2.2⟩, fun k h1 h2 => (c1 k h2).trans (n2 k h1 h2), fun i hi => ?_, fun i k hi hk => ?_, fun t ht => ?_, fun i hi => ?_, fun t ht => ?_, fun i hi => ?_, fun k hk => ?_⟩, hf⟩
  · obtain ⟨d1, d2, d3, d4, d5, d6⟩ := c2 i (by omega)
    rw [d2, d3, d4, d6]; exact n3 i hi
  · have := (hf.2.1.2.1 i hi).1
    rw [c3 _ (by omega)]; exact n4 i k hi hk
  · rw [(c4 t (by omega)).2]; exact n5 t ht
  · rw [(c2 i (by omega)).1]; exact n6 i hi
  · rw [(c4 t (by omega)).1]; exact n7 t ht
  · obtain ⟨k, h1, h2, h3⟩ := n8 i hi
    exact ⟨k, h1, (c2 i (by omega)).2.2.2.2.1.trans h2, h3⟩
  · obtain ⟨i, h1, h2, h3⟩ := n9 k hk
    exact ⟨i, h1, (c2 i (by omega)).2.2.2.2.1.trans h2, h3⟩
/-- a call that changes the market and records it -/
def KO (B S T : Nat) (σ : SM) (a' : Nat → Int32) (f : Option (Int32 × SM)) (r : Int32) : Prop := ∃ τ, f = some (r, τ) ∧ MX B S T (τ 0) a' ∧ HI τ ∧ τ 20 = σ 20
theorem ko_fin {B S T : Nat} {σ τ : SM} {μ' : OM} {a' : Nat → Int32} {f : Option (Int32 × SM)} {r : Int32} (d20 : τ 20 = σ 20) (hτ : HI τ) (hm : MX B S T μ' a') (h1 : f = some (r, us τ 0 μ')) : KO B S T σ a' f r :=
  ⟨us τ 0 μ', h1, by rw [q_usS]; exact hm, hτ.c (q_usN (by omega)), (q_usN (by omega)).trans d20⟩
section CALL
variable {B S T : Nat} {σ : SM} {a : Nat → Int32}
theorem occ_no {i t : Nat} (h8 : S ≤ 8) (hi : i < S) (hf : occ S a (nI t) = m1) : a (25 + 13 * i + 3) ≠ nI t := by
  have := (fd_none (show S < 2 ^ 31 by omega)).mp hf i hi
  exact of_decide_eq_false this
theorem k_assign (h : MX B S T (σ 0) a) (hH : HI σ) {i t : Nat} (hi : i < S) (ht : t < T) (hf : occ S a (nI t) = m1) (hc : ¬ a (25 + 13 * i + 1) < a (9 + 2 * t + 1)) : KO B S T σ (upd a (25 + 13 * i + 3) (nI t)) (f_X12_assign (nI i) (nI t) σ) (a (25 + 13 * i + 3)) := by
  have w := h.2.2.1; have h8 := w.1.1; have t8 := w.1.2; have hm := h.1
  obtain ⟨τ, c1, c3, c7⟩ := rec_ok hH; have d0 : τ 0 = σ 0 := c3 0 (by omega) (by omega); have d20 : τ 20 = σ 20 := c3 20 (by omega) (by omega); have hτ := rec_hi c7
  have hx := h.seat hi (u := nI t) (Or.inr ⟨t, ht, rfl⟩) (Or.inr (fun j hj _ => occ_no h8 hj hf))
  refine ko_fin d20 hτ hx ?_
  have hmv : f_X5_mayMoveInto (nI i) (nI t) (σ 0) = some (nI 1) := by
    simp (maxSteps := 2000000) (disch := first | rfl | exact q_e1 _ _ _ | exact q_sr1 _ _ | omega) only [f_X5_mayMoveInto, s_holderOf hm h8, s_priceOf hm t8 ht, s_coinsOf hm h8 hi, hf, eq_false hc, ↓q_m1, q_l0, q_l1, q_l2, q_l3, q_l4, q_l5, q_l6, q_l7, q_l8, q_l9, q_l10, q_l11, q_l12, q_l13, q_l14, q_l15, q_l16, q_l17, q_l18, q_l19, q_l20, q_l21, q_l22, q_l23, q_l24, q_l25, q_l26, q_l27, q_l28, q_l29, q_l30, q_l31, q_l32, q_l33, q_l45, q_l46, q_l48, q_l57, q_l58, q_l59, q_l60, q_l61, q_l62, q_l63, q_l64, q_l96, q_l97, q_l99, q_l122, q_l129, q_l137, q_l255, q_l256, q_l400, q_l680, q_l700, q_l959, q_l999, q_l9999, q_l10000, q_l100000, q_l36, q_l50, q_l100, q_l112, q_l200, q_ltT, q_ltF, q_leT, q_leF, q_eqF, q_eqR, q_mlt, q_mle, q_nlm, q_nLm, q_nem, q_men, q_mlm, Nat.add_zero, Nat.sub_zero, q_add0, pk_rem, nI_add, pk_mul, q_sub, q_subm, q_addm, nI_clamp, q_inT, q_inF, q_sr1, q_srn, q_srw, q_srs, q_wIs, q_wIn, q_wI2, q_wJ1, q_wJs, q_wJn, q_wR1, q_wRs, q_wRn, q_wI22, q_wJ22, pk_us, pk_un, pk_uLs, pk_uLn, q_usS, q_usN, q_ups, q_upn, Bool.true_eq_false, Bool.false_eq_true, q_lt, q_o2, q_o3, q_o4, q_o5, q_bi, ↓reduceIte, q_tv0, q_tv1, q_bz, q_oRl, q_oRr, q_oXl, q_oXr]
  simp (maxSteps := 2000000) (disch := first | rfl | exact q_e1 _ _ _ | exact q_sr1 _ _ | omega) only [f_X12_assign, s_rqT hm h8 hi, s_rqTt hm t8 ht, hmv, c1, d0, s_heldBy hm h8 hi, s_seat hm h8 hi, ↓q_m1, q_l0, q_l1, q_l2, q_l3, q_l4, q_l5, q_l6, q_l7, q_l8, q_l9, q_l10, q_l11, q_l12, q_l13, q_l14, q_l15, q_l16, q_l17, q_l18, q_l19, q_l20, q_l21, q_l22, q_l23, q_l24, q_l25, q_l26, q_l27, q_l28, q_l29, q_l30, q_l31, q_l32, q_l33, q_l45, q_l46, q_l48, q_l57, q_l58, q_l59, q_l60, q_l61, q_l62, q_l63, q_l64, q_l96, q_l97, q_l99, q_l122, q_l129, q_l137, q_l255, q_l256, q_l400, q_l680, q_l700, q_l959, q_l999, q_l9999, q_l10000, q_l100000, q_l36, q_l50, q_l100, q_l112, q_l200, q_ltT, q_ltF, q_leT, q_leF, q_eqF, q_eqR, q_mlt, q_mle, q_nlm, q_nLm, q_nem, q_men, q_mlm, Nat.add_zero, Nat.sub_zero, q_add0, pk_rem, nI_add, pk_mul, q_sub, q_subm, q_addm, nI_clamp, q_inT, q_inF, q_sr1, q_srn, q_srw, q_srs, q_wIs, q_wIn, q_wI2, q_wJ1, q_wJs, q_wJn, q_wR1, q_wRs, q_wRn, q_wI22, q_wJ22, pk_us, pk_un, pk_uLs, pk_uLn, q_usS, q_usN, q_ups, q_upn, Bool.true_eq_false, Bool.false_eq_true, q_lt, q_o2, q_o3, q_o4, q_o5, q_bi, ↓reduceIte, q_tv0, q_tv1, q_bz, q_oRl, q_oRr, q_oXl, q_oXr]
theorem k_vacate (h : MX B S T (σ 0) a) (hH : HI σ) {i : Nat} (hi : i < S) (hc : ¬ a (25 + 13 * i + 3) = m1) : KO B S T σ (upd a (25 + 13 * i + 3) m1) (f_X12_vacate (nI i) σ) (a (25 + 13 * i + 3)) := by
  have w := h.2.2.1; have h8 := w.1.1; have t8 := w.1.2; have hm := h.1
  obtain ⟨τ, c1, c3, c7⟩ := rec_ok hH; have d0 : τ 0 = σ 0 := c3 0 (by omega) (by omega); have d20 : τ 20 = σ 20 := c3 20 (by omega) (by omega); have hτ := rec_hi c7
  refine ko_fin d20 hτ (h.seat hi (u := m1) (Or.inl rfl) (Or.inl rfl)) ?_
  simp (maxSteps := 2000000) (disch := first | rfl | exact q_e1 _ _ _ | exact q_sr1 _ _ | omega) only [f_X12_vacate, s_rqT hm h8 hi, s_heldBy hm h8 hi, eq_false hc, c1, d0, s_seat hm h8 hi, ↓q_m1, q_l0, q_l1, q_l2, q_l3, q_l4, q_l5, q_l6, q_l7, q_l8, q_l9, q_l10, q_l11, q_l12, q_l13, q_l14, q_l15, q_l16, q_l17, q_l18, q_l19, q_l20, q_l21, q_l22, q_l23, q_l24, q_l25, q_l26, q_l27, q_l28, q_l29, q_l30, q_l31, q_l32, q_l33, q_l45, q_l46, q_l48, q_l57, q_l58, q_l59, q_l60, q_l61, q_l62, q_l63, q_l64, q_l96, q_l97, q_l99, q_l122, q_l129, q_l137, q_l255, q_l256, q_l400, q_l680, q_l700, q_l959, q_l999, q_l9999, q_l10000, q_l100000, q_l36, q_l50, q_l100, q_l112, q_l200, q_ltT, q_ltF, q_leT, q_leF, q_eqF, q_eqR, q_mlt, q_mle, q_nlm, q_nLm, q_nem, q_men, q_mlm, Nat.add_zero, Nat.sub_zero, q_add0, pk_rem, nI_add, pk_mul, q_sub, q_subm, q_addm, nI_clamp, q_inT, q_inF, q_sr1, q_srn, q_srw, q_srs, q_wIs, q_wIn, q_wI2, q_wJ1, q_wJs, q_wJn, q_wR1, q_wRs, q_wRn, q_wI22, q_wJ22, pk_us, pk_un, pk_uLs, pk_uLn, q_usS, q_usN, q_ups, q_upn, Bool.true_eq_false, Bool.false_eq_true, q_lt, q_o2, q_o3, q_o4, q_o5, q_bi, ↓reduceIte, q_tv0, q_tv1, q_bz, q_oRl, q_oRr, q_oXl, q_oXr]
theorem upd_comm {f : Nat → Int32} {p q : Nat} {u v : Int32} (h : p ≠ q) : upd (upd f p u) q v = upd (upd f q v) p u := by
  funext y
  simp only [upd]
  by_cases h1 : y = q
  · rw [if_pos h1, if_neg (by omega), if_pos h1]
  · rw [if_neg h1]
    by_cases h2 : y = p
    · rw [if_pos h2, if_pos h2]
    · rw [if_neg h2, if_neg h2, if_neg h1]
theorem bth_t {i j : Nat} (h : bth a i j = true) : i ≠ j ∧ a (25 + 13 * i + 3) ≠ m1 ∧ a (25 + 13 * j + 3) ≠ m1 := by
  rw [bth, Bool.and_eq_true, Bool.and_eq_true] at h
  obtain ⟨h1, h2, h3⟩ := h
  refine ⟨fun e => ?_, by simpa using h1, lng_pl h2⟩
  subst e
  rw [lng_self] at h2
  cases h2
theorem s_exch {μ : OM} (h : MR S T μ a) (h8 : S ≤ 8) {i j : Nat} (hi : i < S) (hj : j < S) : f_X5_exchange (nI i) (nI j) μ = some (wI (wI (wI μ 4 i (a (25 + 13 * j + 3))) 4 j (a (25 + 13 * i + 3))) 0 5 (a 5 + nI 1)) := by
  have e : f_X5_seat (nI j) (a (25 + 13 * i + 3)) (wI μ 4 i (a (25 + 13 * j + 3))) = some (wI (wI μ 4 i (a (25 + 13 * j + 3))) 4 j (a (25 + 13 * i + 3))) := by
    simp (maxSteps := 2000000) (disch := first | rfl | exact q_e1 _ _ _ | exact q_sr1 _ _ | omega) only [f_X5_seat, f_X5_hasSeller, ↓q_m1, q_l0, q_l1, q_l2, q_l3, q_l4, q_l5, q_l6, q_l7, q_l8, q_l9, q_l10, q_l11, q_l12, q_l13, q_l14, q_l15, q_l16, q_l17, q_l18, q_l19, q_l20, q_l21, q_l22, q_l23, q_l24, q_l25, q_l26, q_l27, q_l28, q_l29, q_l30, q_l31, q_l32, q_l33, q_l45, q_l46, q_l48, q_l57, q_l58, q_l59, q_l60, q_l61, q_l62, q_l63, q_l64, q_l96, q_l97, q_l99, q_l122, q_l129, q_l137, q_l255, q_l256, q_l400, q_l680, q_l700, q_l959, q_l999, q_l9999, q_l10000, q_l100000, q_l36, q_l50, q_l100, q_l112, q_l200, q_ltT, q_ltF, q_leT, q_leF, q_eqF, q_eqR, q_mlt, q_mle, q_nlm, q_nLm, q_nem, q_men, q_mlm, Nat.add_zero, Nat.sub_zero, q_add0, pk_rem, nI_add, pk_mul, q_sub, q_subm, q_addm, nI_clamp, q_inT, q_inF, q_sr1, q_srn, q_srw, q_srs, q_wIs, q_wIn, q_wI2, q_wJ1, q_wJs, q_wJn, q_wR1, q_wRs, q_wRn, q_wI22, q_wJ22, pk_us, pk_un, pk_uLs, pk_uLn, q_usS, q_usN, q_ups, q_upn, Bool.true_eq_false, Bool.false_eq_true, q_lt, q_o2, q_o3, q_o4, q_o5, q_bi, ↓reduceIte, q_tv0, q_tv1, q_bz, q_oRl, q_oRr, q_oXl, q_oXr, h.1.1]
  simp (maxSteps := 2000000) (disch := first | rfl | exact q_e1 _ _ _ | exact q_sr1 _ _ | omega) only [f_X5_exchange, s_heldBy h h8 hi, s_heldBy h h8 hj, s_seat h h8 hi, e, h.2.1 5 (by omega) (by omega), ↓q_m1, q_l0, q_l1, q_l2, q_l3, q_l4, q_l5, q_l6, q_l7, q_l8, q_l9, q_l10, q_l11, q_l12, q_l13, q_l14, q_l15, q_l16, q_l17, q_l18, q_l19, q_l20, q_l21, q_l22, q_l23, q_l24, q_l25, q_l26, q_l27, q_l28, q_l29, q_l30, q_l31, q_l32, q_l33, q_l45, q_l46, q_l48, q_l57, q_l58, q_l59, q_l60, q_l61, q_l62, q_l63, q_l64, q_l96, q_l97, q_l99, q_l122, q_l129, q_l137, q_l255, q_l256, q_l400, q_l680, q_l700, q_l959, q_l999, q_l9999, q_l10000, q_l100000, q_l36, q_l50, q_l100, q_l112, q_l200, q_ltT, q_ltF, q_leT, q_leF, q_eqF, q_eqR, q_mlt, q_mle, q_nlm, q_nLm, q_nem, q_men, q_mlm, Nat.add_zero, Nat.sub_zero, q_add0, pk_rem, nI_add, pk_mul, q_sub, q_subm, q_addm, nI_clamp, q_inT, q_inF, q_sr1, q_srn, q_srw, q_srs, q_wIs, q_wIn, q_wI2, q_wJ1, q_wJs, q_wJn, q_wR1, q_wRs, q_wRn, q_wI22, q_wJ22, pk_us, pk_un, pk_uLs, pk_uLn, q_usS, q_usN, q_ups, q_upn, Bool.true_eq_false, Bool.false_eq_true, q_lt, q_o2, q_o3, q_o4, q_o5, q_bi, ↓reduceIte, q_tv0, q_tv1, q_bz, q_oRl, q_oRr, q_oXl, q_oXr]
/-- two change places -/
def swA (a : Nat → Int32) (i j : Nat) : Nat → Int32 := upd (upd (upd a (25 + 13 * i + 3) (a (25 + 13 * j + 3))) (25 + 13 * j + 3) (a (25 + 13 * i + 3))) 5 (a 5 + nI 1)
theorem swap_mx {μ : OM} (h : MX B S T μ a) {i j : Nat} (hi : i < S) (hj : j < S) (hb : bth a i j = true) : MX B S T (wI (wI (wI μ 4 i (a (25 + 13 * j + 3))) 4 j (a (25 + 13 * i + 3))) 0 5 (a 5 + nI 1)) (swA a i j) := by
  have w := h.2.2.1; have h8 := w.1.1; have t8 := w.1.2; have hm := h.1
  obtain ⟨b1, b2, b3⟩ := bth_t hb
  have k1 : MX B S T (wI μ 4 j m1) (upd a (25 + 13 * j + 3) m1) := h.seat hj (Or.inl rfl) (Or.inl rfl)
  have wj := w.2.2.2 j hj
  have wi := w.2.2.2 i hi
  have hf := h.2
  have k2 := k1.seat hi (u := a (25 + 13 * j + 3)) wj (Or.inr (fun q hq hqi => by
    by_cases e : q = j
    · subst e; rw [pk_us]; exact fun e => b3 e.symm
    · rw [pk_un (by omega)]; exact fun e' => e (hf.2.2.1.2 q j hq hj e' (by rw [e']; exact b3))))
  have k3 := k2.seat hj (u := a (25 + 13 * i + 3)) wi (Or.inr (fun q hq hqj => by
    by_cases e : q = i
    · subst e; rw [pk_us]; exact fun e => b1 (hf.2.2.1.2 q j hi hj e.symm b2)
    · rw [pk_un (by omega), pk_un (by omega)]; exact fun e' => e (hf.2.2.1.2 q i hq hi e' (by rw [e']; exact b2))))
  have ea : upd (upd (upd a (25 + 13 * j + 3) m1) (25 + 13 * i + 3) (a (25 + 13 * j + 3))) (25 + 13 * j + 3) (a (25 + 13 * i + 3)) = upd (upd a (25 + 13 * i + 3) (a (25 + 13 * j + 3))) (25 + 13 * j + 3) (a (25 + 13 * i + 3)) := by
    funext y
    simp only [upd]
    by_cases h1 : y = 25 + 13 * j + 3
    · rw [if_pos h1, if_pos h1]
    · rw [if_neg h1, if_neg h1, if_neg h1]
  have em : wI (wI (wI μ 4 j m1) 4 i (a (25 + 13 * j + 3))) 4 j (a (25 + 13 * i + 3)) = wI (wI μ 4 i (a (25 + 13 * j + 3))) 4 j (a (25 + 13 * i + 3)) := by
    refine Prod.ext ?_ rfl
    funext k y
    by_cases hk : k = 4
    · subst hk
      rw [q_wIs, q_wIs, q_wIs, q_wIs, q_wIs]
      simp only [upd]
      by_cases h1 : y = j
      · rw [if_pos h1, if_pos h1]
      · rw [if_neg h1, if_neg h1, if_neg h1]
    · rw [q_wIn hk, q_wIn hk, q_wIn hk, q_wIn hk, q_wIn hk]
  rw [ea, em] at k3
  exact k3.fld (p := 5) (by omega) (by omega) (a 5 + nI 1)
theorem k_swap (h : MX B S T (σ 0) a) (hH : HI σ) {i j : Nat} (hi : i < S) (hj : j < S) (hb : bth a i j = true) : KO B S T σ (swA a i j) (f_X12_swap (nI i) (nI j) σ) (a (25 + 13 * j + 3)) := by
  have w := h.2.2.1; have h8 := w.1.1; have t8 := w.1.2; have hm := h.1
  obtain ⟨τ, c1, c3, c7⟩ := rec_ok hH; have d0 : τ 0 = σ 0 := c3 0 (by omega) (by omega); have d20 : τ 20 = σ 20 := c3 20 (by omega) (by omega); have hτ := rec_hi c7
  have k4 := swap_mx h hi hj hb
  have e3 : swA a i j (25 + 13 * i + 3) = a (25 + 13 * j + 3) := by
    have := (bth_t hb).1
    rw [swA, pk_un (by omega), pk_un (by omega), pk_us]
  refine ko_fin d20 hτ k4 ?_
  have hh := s_heldBy k4.1 h8 hi
  rw [e3] at hh
  simp (maxSteps := 2000000) (disch := first | rfl | exact q_e1 _ _ _ | exact q_sr1 _ _ | omega) only [f_X12_swap, s_rqT hm h8 hi, s_rqT hm h8 hj, s_both hm w hi hj, hb, c1, d0, s_exch hm h8 hi hj, hh, ↓q_m1, q_l0, q_l1, q_l2, q_l3, q_l4, q_l5, q_l6, q_l7, q_l8, q_l9, q_l10, q_l11, q_l12, q_l13, q_l14, q_l15, q_l16, q_l17, q_l18, q_l19, q_l20, q_l21, q_l22, q_l23, q_l24, q_l25, q_l26, q_l27, q_l28, q_l29, q_l30, q_l31, q_l32, q_l33, q_l45, q_l46, q_l48, q_l57, q_l58, q_l59, q_l60, q_l61, q_l62, q_l63, q_l64, q_l96, q_l97, q_l99, q_l122, q_l129, q_l137, q_l255, q_l256, q_l400, q_l680, q_l700, q_l959, q_l999, q_l9999, q_l10000, q_l100000, q_l36, q_l50, q_l100, q_l112, q_l200, q_ltT, q_ltF, q_leT, q_leF, q_eqF, q_eqR, q_mlt, q_mle, q_nlm, q_nLm, q_nem, q_men, q_mlm, Nat.add_zero, Nat.sub_zero, q_add0, pk_rem, nI_add, pk_mul, q_sub, q_subm, q_addm, nI_clamp, q_inT, q_inF, q_sr1, q_srn, q_srw, q_srs, q_wIs, q_wIn, q_wI2, q_wJ1, q_wJs, q_wJn, q_wR1, q_wRs, q_wRn, q_wI22, q_wJ22, pk_us, pk_un, pk_uLs, pk_uLn, q_usS, q_usN, q_ups, q_upn, Bool.true_eq_false, Bool.false_eq_true, q_lt, q_o2, q_o3, q_o4, q_o5, q_bi, ↓reduceIte, q_tv0, q_tv1, q_bz, q_oRl, q_oRr, q_oXl, q_oXr]
theorem k_rent (h : MX B S T (σ 0) a) (hH : HI σ) {t r : Nat} (ht : t < T) (hr : r ≤ 99) : KO B S T σ (upd a (9 + 2 * t + 1) (nI r)) (f_X12_setRent (nI t) (nI r) σ) (a (9 + 2 * t + 1)) := by
  have w := h.2.2.1; have h8 := w.1.1; have t8 := w.1.2; have hm := h.1
  obtain ⟨τ, c1, c3, c7⟩ := rec_ok hH; have d0 : τ 0 = σ 0 := c3 0 (by omega) (by omega); have d20 : τ 20 = σ 20 := c3 20 (by omega) (by omega); have hτ := rec_hi c7
  refine ko_fin d20 hτ (h.price ht hr) ?_
  simp (maxSteps := 2000000) (disch := first | rfl | exact q_e1 _ _ _ | exact q_sr1 _ _ | omega) only [f_X12_setRent, s_rqTt hm t8 ht, c1, d0, s_priceOf hm t8 ht, s_price hm t8 ht, ↓q_m1, q_l0, q_l1, q_l2, q_l3, q_l4, q_l5, q_l6, q_l7, q_l8, q_l9, q_l10, q_l11, q_l12, q_l13, q_l14, q_l15, q_l16, q_l17, q_l18, q_l19, q_l20, q_l21, q_l22, q_l23, q_l24, q_l25, q_l26, q_l27, q_l28, q_l29, q_l30, q_l31, q_l32, q_l33, q_l45, q_l46, q_l48, q_l57, q_l58, q_l59, q_l60, q_l61, q_l62, q_l63, q_l64, q_l96, q_l97, q_l99, q_l122, q_l129, q_l137, q_l255, q_l256, q_l400, q_l680, q_l700, q_l959, q_l999, q_l9999, q_l10000, q_l100000, q_l36, q_l50, q_l100, q_l112, q_l200, q_ltT, q_ltF, q_leT, q_leF, q_eqF, q_eqR, q_mlt, q_mle, q_nlm, q_nLm, q_nem, q_men, q_mlm, Nat.add_zero, Nat.sub_zero, q_add0, pk_rem, nI_add, pk_mul, q_sub, q_subm, q_addm, nI_clamp, q_inT, q_inF, q_sr1, q_srn, q_srw, q_srs, q_wIs, q_wIn, q_wI2, q_wJ1, q_wJs, q_wJn, q_wR1, q_wRs, q_wRn, q_wI22, q_wJ22, pk_us, pk_un, pk_uLs, pk_uLn, q_usS, q_usN, q_ups, q_upn, Bool.true_eq_false, Bool.false_eq_true, q_lt, q_o2, q_o3, q_o4, q_o5, q_bi, ↓reduceIte, q_tv0, q_tv1, q_bz, q_oRl, q_oRr, q_oXl, q_oXr]
end CALL

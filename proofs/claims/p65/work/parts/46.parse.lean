/-! the class reads Own's text -/
theorem sB_eq : sBw 7 = sBw 2 ∧ sBw 10 = sBw 4 ∧ sBw 9 = [59] ∧ sBw 6 = sBw 1 ++ [59] ∧ sBw 11 = 32 :: sBw 3 ∧ sBw 8 = [32] := by decide +kernel
theorem sB_let : ∀ w, w < 12 → (w = 1 ∨ w = 2 ∨ w = 3 ∨ w = 4) → ∀ y, y ∈ sBw w → isL y = true := by decide +kernel
theorem sB_ln : lens.getD 1 0 = 6 ∧ lens.getD 2 0 = 5 ∧ lens.getD 3 0 = 2 ∧ lens.getD 4 0 = 6 ∧ lens.getD 5 0 = 2 ∧ (sBw 1).length = 6 ∧ (sBw 2).length = 5 ∧ (sBw 3).length = 2 ∧ (sBw 4).length = 6 := by decide +kernel
theorem lN_inj : ∀ a, a < 128 → ∀ b, b < 128 → (lg_cmp (lN a) (lN b) = nI 0 ↔ a = b) := by decide +kernel
theorem lN_nz : ∀ a, a < 128 → 0 < a → ¬ lg_cmp (lN a) 0 = nI 0 := by decide +kernel
theorem nh_sp {P : Nat → Bool} {k : Nat} {Y : List Nat} (h : P 32 = false) : NH P (sp (k + 1) ++ Y) := fun y Z q => by
  have : 32 = y := (List.cons.inj q).1
  rw [← this]; exact h
theorem nh_c {P : Nat → Bool} {c : Nat} {Y : List Nat} (h : P c = false) : NH P (c :: Y) := fun y Z q => by
  have : c = y := (List.cons.inj q).1
  rw [← this]; exact h
theorem dgs_d {v : Nat} (hv : v ≤ 199) : dgs v ≠ [] ∧ (∀ y, y ∈ dgs v → isD y = true) ∧ dv 0 (dgs v) = v := by
  have hd : ∀ x, x ≤ 9 → isD (48 + x) = true := fun x hx => decide_eq_true (by omega)
  rw [dgs]
  by_cases c9 : v ≤ 9
  · rw [if_pos c9]
    refine ⟨by simp, fun y hy => ?_, by show 10 * 0 + (48 + v - 48) = v; omega⟩
    rw [List.mem_singleton.mp hy]; exact hd v c9
  · rw [if_neg c9]
    by_cases c99 : v ≤ 99
    · rw [if_pos c99]
      refine ⟨by simp, fun y hy => ?_, by show 10 * (10 * 0 + (48 + v / 10 - 48)) + (48 + v % 10 - 48) = v; omega⟩
      simp only [List.mem_cons, List.not_mem_nil, or_false] at hy
      rcases hy with e | e <;> rw [e] <;> exact hd _ (by omega)
    · rw [if_neg c99]
      refine ⟨by simp, fun y hy => ?_, by show 10 * (10 * (10 * 0 + (48 + v / 100 - 48)) + (48 + v / 10 % 10 - 48)) + (48 + v % 10 - 48) = v; omega⟩
      simp only [List.mem_cons, List.not_mem_nil, or_false] at hy
      rcases hy with e | e | e <;> rw [e] <;> exact hd _ (by omega)
section PRS
variable {β τ μ π ω : OM} {W Y : List Nat} {Q : OM → Prop}
theorem AT.byte {s k y : Nat} {Z : List Nat} (h : AT β s Z) (hk : Z[k]? = some y) : f_X2_byteAt (nI (s + k)) β = some (nI y) := by
  obtain ⟨h1, h2, h3⟩ := h
  have := (List.getElem?_eq_some_iff.mp hk).1
  have c2 : (nI (s + k) < nI (s + Z.length)) = True := eq_true (nI_lt (by omega) (by omega))
  simp (maxSteps := 2000000) (disch := first | rfl | exact q_e1 _ _ _ | exact q_sr1 _ _ | omega) only [f_X2_byteAt, ↓q_m1, q_l0, q_l1, q_l2, q_l3, q_l4, q_l5, q_l6, q_l7, q_l8, q_l9, q_l10, q_l11, q_l12, q_l13, q_l14, q_l15, q_l16, q_l17, q_l18, q_l19, q_l20, q_l21, q_l22, q_l23, q_l24, q_l25, q_l26, q_l27, q_l28, q_l29, q_l30, q_l31, q_l32, q_l33, q_l45, q_l46, q_l48, q_l57, q_l58, q_l59, q_l60, q_l61, q_l62, q_l63, q_l64, q_l96, q_l97, q_l99, q_l122, q_l129, q_l137, q_l255, q_l256, q_l400, q_l680, q_l700, q_l959, q_l999, q_l9999, q_l10000, q_l100000, q_l36, q_l50, q_l100, q_l112, q_l200, q_ltT, q_ltF, q_leT, q_leF, q_eqF, q_eqR, q_mlt, q_mle, q_nlm, q_nLm, q_nem, q_men, q_mlm, Nat.add_zero, Nat.sub_zero, q_add0, pk_rem, nI_add, pk_mul, q_sub, q_subm, q_addm, nI_clamp, q_inT, q_inF, q_sr1, q_srn, q_srw, q_srs, q_wIs, q_wIn, q_wI2, q_wJ1, q_wJs, q_wJn, q_wR1, q_wRs, q_wRn, q_wI22, q_wJ22, pk_us, pk_un, pk_uLs, pk_uLn, q_usS, q_usN, q_ups, q_upn, Bool.true_eq_false, Bool.false_eq_true, q_lt, q_o2, q_o3, q_o4, q_o5, q_bi, ↓reduceIte, q_tv0, q_tv1, q_bz, q_oRl, q_oRr, q_oXl, q_oXr, h1, (h3 k y hk).2, c2]
theorem isw_yes {w : Nat} (hw : w < 12) (h : TW β τ (sBw w) Y) : f_X10_isWord w τ β = some (nI 1) := by
  obtain ⟨s, h1, h2, h3, h4, _⟩ := h
  obtain ⟨b1, b2⟩ := s_B w hw
  have hlen := w_len w hw
  have hs : ∀ w, w < 12 → lens.getD w 0 < 2000 := by decide
  have hsw := hs w hw
  have hsl := h4.2.1
  rw [List.length_append] at hsl
  have e1 : s + (sBw w).length - s = lens.getD w 0 := by omega
  have key : f_X10_isWord_28 w τ β FU (nI 0) = some (nI 1) := lp_to (lens.getD w 0) (fun n k hk => by
    obtain ⟨c1, c2⟩ := b2 k hk
    have hb := h4.byte (k := k) (y := (sBw w).getD k 0) (by rw [List.getElem?_append_left (by omega), List.getElem?_eq_getElem (by omega), List.getD_eq_getElem?_getD, List.getElem?_eq_getElem (by omega)]; rfl)
    have hc := w_chr w hw k hk
    have c3 : (nI (lens.getD w 0) ≤ nI k) = False := eq_false (nI_ge hk (by omega))
    simp (maxSteps := 2000000) (disch := first | rfl | exact q_e1 _ _ _ | exact q_sr1 _ _ | omega) only [f_X10_isWord_28, hlen, c3, h2, hb, hc, c1, ↓q_m1, q_l0, q_l1, q_l2, q_l3, q_l4, q_l5, q_l6, q_l7, q_l8, q_l9, q_l10, q_l11, q_l12, q_l13, q_l14, q_l15, q_l16, q_l17, q_l18, q_l19, q_l20, q_l21, q_l22, q_l23, q_l24, q_l25, q_l26, q_l27, q_l28, q_l29, q_l30, q_l31, q_l32, q_l33, q_l45, q_l46, q_l48, q_l57, q_l58, q_l59, q_l60, q_l61, q_l62, q_l63, q_l64, q_l96, q_l97, q_l99, q_l122, q_l129, q_l137, q_l255, q_l256, q_l400, q_l680, q_l700, q_l959, q_l999, q_l9999, q_l10000, q_l100000, q_l36, q_l50, q_l100, q_l112, q_l200, q_ltT, q_ltF, q_leT, q_leF, q_eqF, q_eqR, q_mlt, q_mle, q_nlm, q_nLm, q_nem, q_men, q_mlm, Nat.add_zero, Nat.sub_zero, q_add0, pk_rem, nI_add, pk_mul, q_sub, q_subm, q_addm, nI_clamp, q_inT, q_inF, q_sr1, q_srn, q_srw, q_srs, q_wIs, q_wIn, q_wI2, q_wJ1, q_wJs, q_wJn, q_wR1, q_wRs, q_wRn, q_wI22, q_wJ22, pk_us, pk_un, pk_uLs, pk_uLn, q_usS, q_usN, q_ups, q_upn, Bool.true_eq_false, Bool.false_eq_true, q_lt, q_o2, q_o3, q_o4, q_o5, q_bi, ↓reduceIte, q_tv0, q_tv1, q_bz, q_oRl, q_oRr, q_oXl, q_oXr]) (fun n => by
    have c3 : (nI (lens.getD w 0) ≤ nI (lens.getD w 0)) = True := eq_true (nI_le (Nat.le_refl _) (by omega))
    simp (maxSteps := 2000000) (disch := first | rfl | exact q_e1 _ _ _ | exact q_sr1 _ _ | omega) only [f_X10_isWord_28, hlen, c3, ↓q_m1, q_l0, q_l1, q_l2, q_l3, q_l4, q_l5, q_l6, q_l7, q_l8, q_l9, q_l10, q_l11, q_l12, q_l13, q_l14, q_l15, q_l16, q_l17, q_l18, q_l19, q_l20, q_l21, q_l22, q_l23, q_l24, q_l25, q_l26, q_l27, q_l28, q_l29, q_l30, q_l31, q_l32, q_l33, q_l45, q_l46, q_l48, q_l57, q_l58, q_l59, q_l60, q_l61, q_l62, q_l63, q_l64, q_l96, q_l97, q_l99, q_l122, q_l129, q_l137, q_l255, q_l256, q_l400, q_l680, q_l700, q_l959, q_l999, q_l9999, q_l10000, q_l100000, q_l36, q_l50, q_l100, q_l112, q_l200, q_ltT, q_ltF, q_leT, q_leF, q_eqF, q_eqR, q_mlt, q_mle, q_nlm, q_nLm, q_nem, q_men, q_mlm, Nat.add_zero, Nat.sub_zero, q_add0, pk_rem, nI_add, pk_mul, q_sub, q_subm, q_addm, nI_clamp, q_inT, q_inF, q_sr1, q_srn, q_srw, q_srs, q_wIs, q_wIn, q_wI2, q_wJ1, q_wJs, q_wJn, q_wR1, q_wRs, q_wRn, q_wI22, q_wJ22, pk_us, pk_un, pk_uLs, pk_uLn, q_usS, q_usN, q_ups, q_upn, Bool.true_eq_false, Bool.false_eq_true, q_lt, q_o2, q_o3, q_o4, q_o5, q_bi, ↓reduceIte, q_tv0, q_tv1, q_bz, q_oRl, q_oRr, q_oXl, q_oXr]) (fu_lt hsw)
  simp (maxSteps := 2000000) (disch := first | rfl | exact q_e1 _ _ _ | exact q_sr1 _ _ | omega) only [f_X10_isWord, h1, h2, h3, hlen, e1, key, ↓q_m1, q_l0, q_l1, q_l2, q_l3, q_l4, q_l5, q_l6, q_l7, q_l8, q_l9, q_l10, q_l11, q_l12, q_l13, q_l14, q_l15, q_l16, q_l17, q_l18, q_l19, q_l20, q_l21, q_l22, q_l23, q_l24, q_l25, q_l26, q_l27, q_l28, q_l29, q_l30, q_l31, q_l32, q_l33, q_l45, q_l46, q_l48, q_l57, q_l58, q_l59, q_l60, q_l61, q_l62, q_l63, q_l64, q_l96, q_l97, q_l99, q_l122, q_l129, q_l137, q_l255, q_l256, q_l400, q_l680, q_l700, q_l959, q_l999, q_l9999, q_l10000, q_l100000, q_l36, q_l50, q_l100, q_l112, q_l200, q_ltT, q_ltF, q_leT, q_leF, q_eqF, q_eqR, q_mlt, q_mle, q_nlm, q_nLm, q_nem, q_men, q_mlm, Nat.add_zero, Nat.sub_zero, q_add0, pk_rem, nI_add, pk_mul, q_sub, q_subm, q_addm, nI_clamp, q_inT, q_inF, q_sr1, q_srn, q_srw, q_srs, q_wIs, q_wIn, q_wI2, q_wJ1, q_wJs, q_wJn, q_wR1, q_wRs, q_wRn, q_wI22, q_wJ22, pk_us, pk_un, pk_uLs, pk_uLn, q_usS, q_usN, q_ups, q_upn, Bool.true_eq_false, Bool.false_eq_true, q_lt, q_o2, q_o3, q_o4, q_o5, q_bi, ↓reduceIte, q_tv0, q_tv1, q_bz, q_oRl, q_oRr, q_oXl, q_oXr]
theorem isw_no {w : Nat} (hw : w < 12) (h : TW β τ W Y) (hne : W.length ≠ lens.getD w 0) : f_X10_isWord w τ β = some (nI 0) := by
  obtain ⟨s, h1, h2, h3, h4, _⟩ := h
  have hlen := w_len w hw
  have hs : ∀ w, w < 12 → lens.getD w 0 < 2000 := by decide
  have hsw := hs w hw
  have hsl := h4.2.1
  rw [List.length_append] at hsl
  have e1 : s + W.length - s = W.length := by omega
  have c : (nI W.length = nI (lens.getD w 0)) = False := eq_false (fun q => hne ((nI_eq (by omega) (by omega)).mp q))
  simp (maxSteps := 2000000) (disch := first | rfl | exact q_e1 _ _ _ | exact q_sr1 _ _ | omega) only [f_X10_isWord, h1, h2, h3, hlen, e1, c, ↓q_m1, q_l0, q_l1, q_l2, q_l3, q_l4, q_l5, q_l6, q_l7, q_l8, q_l9, q_l10, q_l11, q_l12, q_l13, q_l14, q_l15, q_l16, q_l17, q_l18, q_l19, q_l20, q_l21, q_l22, q_l23, q_l24, q_l25, q_l26, q_l27, q_l28, q_l29, q_l30, q_l31, q_l32, q_l33, q_l45, q_l46, q_l48, q_l57, q_l58, q_l59, q_l60, q_l61, q_l62, q_l63, q_l64, q_l96, q_l97, q_l99, q_l122, q_l129, q_l137, q_l255, q_l256, q_l400, q_l680, q_l700, q_l959, q_l999, q_l9999, q_l10000, q_l100000, q_l36, q_l50, q_l100, q_l112, q_l200, q_ltT, q_ltF, q_leT, q_leF, q_eqF, q_eqR, q_mlt, q_mle, q_nlm, q_nLm, q_nem, q_men, q_mlm, Nat.add_zero, Nat.sub_zero, q_add0, pk_rem, nI_add, pk_mul, q_sub, q_subm, q_addm, nI_clamp, q_inT, q_inF, q_sr1, q_srn, q_srw, q_srs, q_wIs, q_wIn, q_wI2, q_wJ1, q_wJs, q_wJn, q_wR1, q_wRs, q_wRn, q_wI22, q_wJ22, pk_us, pk_un, pk_uLs, pk_uLn, q_usS, q_usN, q_ups, q_upn, Bool.true_eq_false, Bool.false_eq_true, q_lt, q_o2, q_o3, q_o4, q_o5, q_bi, ↓reduceIte, q_tv0, q_tv1, q_bz, q_oRl, q_oRr, q_oXl, q_oXr]
theorem isw_k {w q : Nat} (h : τ.1 0 1 = nI q) (hq : q ≠ 1) (h2 : q < 2 ^ 31) : f_X10_isWord w τ β = some (nI 0) := by
  have c : (nI q = nI 1) = False := eq_false (fun e => hq ((nI_eq h2 (by omega)).mp e))
  simp (maxSteps := 2000000) (disch := first | rfl | exact q_e1 _ _ _ | exact q_sr1 _ _ | omega) only [f_X10_isWord, h, c, ↓q_m1, q_l0, q_l1, q_l2, q_l3, q_l4, q_l5, q_l6, q_l7, q_l8, q_l9, q_l10, q_l11, q_l12, q_l13, q_l14, q_l15, q_l16, q_l17, q_l18, q_l19, q_l20, q_l21, q_l22, q_l23, q_l24, q_l25, q_l26, q_l27, q_l28, q_l29, q_l30, q_l31, q_l32, q_l33, q_l45, q_l46, q_l48, q_l57, q_l58, q_l59, q_l60, q_l61, q_l62, q_l63, q_l64, q_l96, q_l97, q_l99, q_l122, q_l129, q_l137, q_l255, q_l256, q_l400, q_l680, q_l700, q_l959, q_l999, q_l9999, q_l10000, q_l100000, q_l36, q_l50, q_l100, q_l112, q_l200, q_ltT, q_ltF, q_leT, q_leF, q_eqF, q_eqR, q_mlt, q_mle, q_nlm, q_nLm, q_nem, q_men, q_mlm, Nat.add_zero, Nat.sub_zero, q_add0, pk_rem, nI_add, pk_mul, q_sub, q_subm, q_addm, nI_clamp, q_inT, q_inF, q_sr1, q_srn, q_srw, q_srs, q_wIs, q_wIn, q_wI2, q_wJ1, q_wJs, q_wJn, q_wR1, q_wRs, q_wRn, q_wI22, q_wJ22, pk_us, pk_un, pk_uLs, pk_uLn, q_usS, q_usN, q_ups, q_upn, Bool.true_eq_false, Bool.false_eq_true, q_lt, q_o2, q_o3, q_o4, q_o5, q_bi, ↓reduceIte, q_tv0, q_tv1, q_bz, q_oRl, q_oRr, q_oXl, q_oXr]
theorem TW.nx (h : TW β τ W Y) (hn : NX β Y Q) : ∃ τ', f_X10_next τ β = some τ' ∧ Q τ' := by
  obtain ⟨s, h1, h2, h3, h4, _⟩ := h
  refine hn τ _ h3 ?_
  obtain ⟨q1, q2, q3⟩ := h4
  rw [List.length_append] at q1 q2
  refine ⟨by rw [q1, show s + (W.length + Y.length) = s + W.length + Y.length by omega], by omega, fun j y hj => ?_⟩
  have := q3 (W.length + j) y (by rw [List.getElem?_append_right (by omega), show W.length + j - W.length = j by omega]; exact hj)
  rw [show s + W.length + j = s + (W.length + j) by omega]; exact this
theorem p_word {w : Nat} (hw : w < 12) (h : TW β τ (sBw w) Y) (hn : NX β Y Q) : ∃ τ', f_X7_takeWord w π τ β = some (nI 1, π, τ') ∧ Q τ' := by
  obtain ⟨τ', f1, f2⟩ := h.nx hn
  exact ⟨τ', by simp (maxSteps := 2000000) (disch := first | rfl | exact q_e1 _ _ _ | exact q_sr1 _ _ | omega) only [f_X7_takeWord, isw_yes hw h, f1, ↓q_m1, q_l0, q_l1, q_l2, q_l3, q_l4, q_l5, q_l6, q_l7, q_l8, q_l9, q_l10, q_l11, q_l12, q_l13, q_l14, q_l15, q_l16, q_l17, q_l18, q_l19, q_l20, q_l21, q_l22, q_l23, q_l24, q_l25, q_l26, q_l27, q_l28, q_l29, q_l30, q_l31, q_l32, q_l33, q_l45, q_l46, q_l48, q_l57, q_l58, q_l59, q_l60, q_l61, q_l62, q_l63, q_l64, q_l96, q_l97, q_l99, q_l122, q_l129, q_l137, q_l255, q_l256, q_l400, q_l680, q_l700, q_l959, q_l999, q_l9999, q_l10000, q_l100000, q_l36, q_l50, q_l100, q_l112, q_l200, q_ltT, q_ltF, q_leT, q_leF, q_eqF, q_eqR, q_mlt, q_mle, q_nlm, q_nLm, q_nem, q_men, q_mlm, Nat.add_zero, Nat.sub_zero, q_add0, pk_rem, nI_add, pk_mul, q_sub, q_subm, q_addm, nI_clamp, q_inT, q_inF, q_sr1, q_srn, q_srw, q_srs, q_wIs, q_wIn, q_wI2, q_wJ1, q_wJs, q_wJn, q_wR1, q_wRs, q_wRn, q_wI22, q_wJ22, pk_us, pk_un, pk_uLs, pk_uLn, q_usS, q_usN, q_ups, q_upn, Bool.true_eq_false, Bool.false_eq_true, q_lt, q_o2, q_o3, q_o4, q_o5, q_bi, ↓reduceIte, q_tv0, q_tv1, q_bz, q_oRl, q_oRr, q_oXl, q_oXr], f2⟩
theorem p_semi (h : TS β τ Y) (hn : NX β Y Q) : ∃ τ', f_X7_takeSemicolon π τ β = some (nI 1, π, τ') ∧ Q τ' := by
  obtain ⟨e, h1, h2, h3⟩ := h
  obtain ⟨τ', f1, f2⟩ := hn τ e h2 h3
  exact ⟨τ', by simp (maxSteps := 2000000) (disch := first | rfl | exact q_e1 _ _ _ | exact q_sr1 _ _ | omega) only [f_X7_takeSemicolon, h1, f1, ↓q_m1, q_l0, q_l1, q_l2, q_l3, q_l4, q_l5, q_l6, q_l7, q_l8, q_l9, q_l10, q_l11, q_l12, q_l13, q_l14, q_l15, q_l16, q_l17, q_l18, q_l19, q_l20, q_l21, q_l22, q_l23, q_l24, q_l25, q_l26, q_l27, q_l28, q_l29, q_l30, q_l31, q_l32, q_l33, q_l45, q_l46, q_l48, q_l57, q_l58, q_l59, q_l60, q_l61, q_l62, q_l63, q_l64, q_l96, q_l97, q_l99, q_l122, q_l129, q_l137, q_l255, q_l256, q_l400, q_l680, q_l700, q_l959, q_l999, q_l9999, q_l10000, q_l100000, q_l36, q_l50, q_l100, q_l112, q_l200, q_ltT, q_ltF, q_leT, q_leF, q_eqF, q_eqR, q_mlt, q_mle, q_nlm, q_nLm, q_nem, q_men, q_mlm, Nat.add_zero, Nat.sub_zero, q_add0, pk_rem, nI_add, pk_mul, q_sub, q_subm, q_addm, nI_clamp, q_inT, q_inF, q_sr1, q_srn, q_srw, q_srs, q_wIs, q_wIn, q_wI2, q_wJ1, q_wJs, q_wJn, q_wR1, q_wRs, q_wRn, q_wI22, q_wJ22, pk_us, pk_un, pk_uLs, pk_uLn, q_usS, q_usN, q_ups, q_upn, Bool.true_eq_false, Bool.false_eq_true, q_lt, q_o2, q_o3, q_o4, q_o5, q_bi, ↓reduceIte, q_tv0, q_tv1, q_bz, q_oRl, q_oRr, q_oXl, q_oXr], f2⟩
theorem p_num {v hi : Nat} (h : TN β τ v Y) (hv : v ≤ hi) (hh : hi < 2 ^ 31) (hn : NX β Y Q) : ∃ τ', f_X7_takeNumber (nI 0) (nI hi) π τ β = some (nI v, π, τ') ∧ Q τ' := by
  obtain ⟨e, h1, h2, h3, h4⟩ := h
  obtain ⟨τ', f1, f2⟩ := hn τ e h3 h4
  have c1 : (nI v < nI 0) = False := eq_false (nI_nlt (Nat.zero_le _) (by omega))
  have c2 : (nI v ≤ nI hi) = True := eq_true (nI_le hv hh)
  exact ⟨τ', by simp (maxSteps := 2000000) (disch := first | rfl | exact q_e1 _ _ _ | exact q_sr1 _ _ | omega) only [f_X7_takeNumber, h1, h2, c1, c2, f1, ↓q_m1, q_l0, q_l1, q_l2, q_l3, q_l4, q_l5, q_l6, q_l7, q_l8, q_l9, q_l10, q_l11, q_l12, q_l13, q_l14, q_l15, q_l16, q_l17, q_l18, q_l19, q_l20, q_l21, q_l22, q_l23, q_l24, q_l25, q_l26, q_l27, q_l28, q_l29, q_l30, q_l31, q_l32, q_l33, q_l45, q_l46, q_l48, q_l57, q_l58, q_l59, q_l60, q_l61, q_l62, q_l63, q_l64, q_l96, q_l97, q_l99, q_l122, q_l129, q_l137, q_l255, q_l256, q_l400, q_l680, q_l700, q_l959, q_l999, q_l9999, q_l10000, q_l100000, q_l36, q_l50, q_l100, q_l112, q_l200, q_ltT, q_ltF, q_leT, q_leF, q_eqF, q_eqR, q_mlt, q_mle, q_nlm, q_nLm, q_nem, q_men, q_mlm, Nat.add_zero, Nat.sub_zero, q_add0, pk_rem, nI_add, pk_mul, q_sub, q_subm, q_addm, nI_clamp, q_inT, q_inF, q_sr1, q_srn, q_srw, q_srs, q_wIs, q_wIn, q_wI2, q_wJ1, q_wJs, q_wJn, q_wR1, q_wRs, q_wRn, q_wI22, q_wJ22, pk_us, pk_un, pk_uLs, pk_uLn, q_usS, q_usN, q_ups, q_upn, Bool.true_eq_false, Bool.false_eq_true, q_lt, q_o2, q_o3, q_o4, q_o5, q_bi, ↓reduceIte, q_tv0, q_tv1, q_bz, q_oRl, q_oRr, q_oXl, q_oXr], f2⟩
theorem p_new {c : Nat} (h : TW β τ [c] Y) (h1 : 0 < c) (hc : c < 128) (hn : NX β Y Q) : ∃ τ', f_X9_takeNewName (nI 0) π τ β = some (nI 1, π, τ') ∧ Q τ' ∧ τ.2.1 0 5 = lN c := by
  obtain ⟨τ', f1, f2⟩ := h.nx hn
  obtain ⟨s, k1, k2, k3, k4, k5⟩ := h
  have e5 := k5 c rfl
  have hz := eq_false (lN_nz c hc h1)
  exact ⟨τ', by simp (maxSteps := 2000000) (disch := first | rfl | exact q_e1 _ _ _ | exact q_sr1 _ _ | omega) only [f_X9_takeNewName, k1, e5, hz, f1, ↓q_m1, q_l0, q_l1, q_l2, q_l3, q_l4, q_l5, q_l6, q_l7, q_l8, q_l9, q_l10, q_l11, q_l12, q_l13, q_l14, q_l15, q_l16, q_l17, q_l18, q_l19, q_l20, q_l21, q_l22, q_l23, q_l24, q_l25, q_l26, q_l27, q_l28, q_l29, q_l30, q_l31, q_l32, q_l33, q_l45, q_l46, q_l48, q_l57, q_l58, q_l59, q_l60, q_l61, q_l62, q_l63, q_l64, q_l96, q_l97, q_l99, q_l122, q_l129, q_l137, q_l255, q_l256, q_l400, q_l680, q_l700, q_l959, q_l999, q_l9999, q_l10000, q_l100000, q_l36, q_l50, q_l100, q_l112, q_l200, q_ltT, q_ltF, q_leT, q_leF, q_eqF, q_eqR, q_mlt, q_mle, q_nlm, q_nLm, q_nem, q_men, q_mlm, Nat.add_zero, Nat.sub_zero, q_add0, pk_rem, nI_add, pk_mul, q_sub, q_subm, q_addm, nI_clamp, q_inT, q_inF, q_sr1, q_srn, q_srw, q_srs, q_wIs, q_wIn, q_wI2, q_wJ1, q_wJs, q_wJn, q_wR1, q_wRs, q_wRn, q_wI22, q_wJ22, pk_us, pk_un, pk_uLs, pk_uLn, q_usS, q_usN, q_ups, q_upn, Bool.true_eq_false, Bool.false_eq_true, q_lt, q_o2, q_o3, q_o4, q_o5, q_bi, ↓reduceIte, q_tv0, q_tv1, q_bz, q_oRl, q_oRr, q_oXl, q_oXr], f2, e5⟩
theorem st_called {T c : Nat} (h1 : μ.1 0 1 = nI T) (hT : T ≤ 8) (h8 : ∀ j, j < T → μ.2.1 8 j = lN (112 + j)) (hc : c < 128) : f_X5_stallCalled (lN c) μ = some (fd T (fun j => decide (112 + j = c))) := by
  refine lp_fd (F := f_X5_stallCalled_2 (lN c) μ) _ T (fun m k hk => ?_) (fun m => ?_) (fu_lt (by omega))
  · have e := lN_inj (112 + k) (by omega) c hc
    simp (maxSteps := 2000000) (disch := first | rfl | exact q_e1 _ _ _ | exact q_sr1 _ _ | omega) only [f_X5_stallCalled_2, ↓q_m1, q_l0, q_l1, q_l2, q_l3, q_l4, q_l5, q_l6, q_l7, q_l8, q_l9, q_l10, q_l11, q_l12, q_l13, q_l14, q_l15, q_l16, q_l17, q_l18, q_l19, q_l20, q_l21, q_l22, q_l23, q_l24, q_l25, q_l26, q_l27, q_l28, q_l29, q_l30, q_l31, q_l32, q_l33, q_l45, q_l46, q_l48, q_l57, q_l58, q_l59, q_l60, q_l61, q_l62, q_l63, q_l64, q_l96, q_l97, q_l99, q_l122, q_l129, q_l137, q_l255, q_l256, q_l400, q_l680, q_l700, q_l959, q_l999, q_l9999, q_l10000, q_l100000, q_l36, q_l50, q_l100, q_l112, q_l200, q_ltT, q_ltF, q_leT, q_leF, q_eqF, q_eqR, q_mlt, q_mle, q_nlm, q_nLm, q_nem, q_men, q_mlm, Nat.add_zero, Nat.sub_zero, q_add0, pk_rem, nI_add, pk_mul, q_sub, q_subm, q_addm, nI_clamp, q_inT, q_inF, q_sr1, q_srn, q_srw, q_srs, q_wIs, q_wIn, q_wI2, q_wJ1, q_wJs, q_wJn, q_wR1, q_wRs, q_wRn, q_wI22, q_wJ22, pk_us, pk_un, pk_uLs, pk_uLn, q_usS, q_usN, q_ups, q_upn, Bool.true_eq_false, Bool.false_eq_true, q_lt, q_o2, q_o3, q_o4, q_o5, q_bi, ↓reduceIte, q_tv0, q_tv1, q_bz, q_oRl, q_oRr, q_oXl, q_oXr, h1, h8 k hk, e, decide_eq_true_eq]
  · simp (maxSteps := 2000000) (disch := first | rfl | exact q_e1 _ _ _ | exact q_sr1 _ _ | omega) only [f_X5_stallCalled_2, ↓q_m1, q_l0, q_l1, q_l2, q_l3, q_l4, q_l5, q_l6, q_l7, q_l8, q_l9, q_l10, q_l11, q_l12, q_l13, q_l14, q_l15, q_l16, q_l17, q_l18, q_l19, q_l20, q_l21, q_l22, q_l23, q_l24, q_l25, q_l26, q_l27, q_l28, q_l29, q_l30, q_l31, q_l32, q_l33, q_l45, q_l46, q_l48, q_l57, q_l58, q_l59, q_l60, q_l61, q_l62, q_l63, q_l64, q_l96, q_l97, q_l99, q_l122, q_l129, q_l137, q_l255, q_l256, q_l400, q_l680, q_l700, q_l959, q_l999, q_l9999, q_l10000, q_l100000, q_l36, q_l50, q_l100, q_l112, q_l200, q_ltT, q_ltF, q_leT, q_leF, q_eqF, q_eqR, q_mlt, q_mle, q_nlm, q_nLm, q_nem, q_men, q_mlm, Nat.add_zero, Nat.sub_zero, q_add0, pk_rem, nI_add, pk_mul, q_sub, q_subm, q_addm, nI_clamp, q_inT, q_inF, q_sr1, q_srn, q_srw, q_srs, q_wIs, q_wIn, q_wI2, q_wJ1, q_wJs, q_wJn, q_wR1, q_wRs, q_wRn, q_wI22, q_wJ22, pk_us, pk_un, pk_uLs, pk_uLn, q_usS, q_usN, q_ups, q_upn, Bool.true_eq_false, Bool.false_eq_true, q_lt, q_o2, q_o3, q_o4, q_o5, q_bi, ↓reduceIte, q_tv0, q_tv1, q_bz, q_oRl, q_oRr, q_oXl, q_oXr, h1]
theorem se_called {S c : Nat} (h1 : μ.1 0 0 = nI S) (hT : S ≤ 8) (h8 : ∀ j, j < S → μ.2.1 1 j = lN (97 + j)) (hc : c < 128) : f_X5_sellerCalled (lN c) μ = some (fd S (fun j => decide (97 + j = c))) := by
  refine lp_fd (F := f_X5_sellerCalled_2 (lN c) μ) _ S (fun m k hk => ?_) (fun m => ?_) (fu_lt (by omega))
  · have e := lN_inj (97 + k) (by omega) c hc
    simp (maxSteps := 2000000) (disch := first | rfl | exact q_e1 _ _ _ | exact q_sr1 _ _ | omega) only [f_X5_sellerCalled_2, ↓q_m1, q_l0, q_l1, q_l2, q_l3, q_l4, q_l5, q_l6, q_l7, q_l8, q_l9, q_l10, q_l11, q_l12, q_l13, q_l14, q_l15, q_l16, q_l17, q_l18, q_l19, q_l20, q_l21, q_l22, q_l23, q_l24, q_l25, q_l26, q_l27, q_l28, q_l29, q_l30, q_l31, q_l32, q_l33, q_l45, q_l46, q_l48, q_l57, q_l58, q_l59, q_l60, q_l61, q_l62, q_l63, q_l64, q_l96, q_l97, q_l99, q_l122, q_l129, q_l137, q_l255, q_l256, q_l400, q_l680, q_l700, q_l959, q_l999, q_l9999, q_l10000, q_l100000, q_l36, q_l50, q_l100, q_l112, q_l200, q_ltT, q_ltF, q_leT, q_leF, q_eqF, q_eqR, q_mlt, q_mle, q_nlm, q_nLm, q_nem, q_men, q_mlm, Nat.add_zero, Nat.sub_zero, q_add0, pk_rem, nI_add, pk_mul, q_sub, q_subm, q_addm, nI_clamp, q_inT, q_inF, q_sr1, q_srn, q_srw, q_srs, q_wIs, q_wIn, q_wI2, q_wJ1, q_wJs, q_wJn, q_wR1, q_wRs, q_wRn, q_wI22, q_wJ22, pk_us, pk_un, pk_uLs, pk_uLn, q_usS, q_usN, q_ups, q_upn, Bool.true_eq_false, Bool.false_eq_true, q_lt, q_o2, q_o3, q_o4, q_o5, q_bi, ↓reduceIte, q_tv0, q_tv1, q_bz, q_oRl, q_oRr, q_oXl, q_oXr, h1, h8 k hk, e, decide_eq_true_eq]
  · simp (maxSteps := 2000000) (disch := first | rfl | exact q_e1 _ _ _ | exact q_sr1 _ _ | omega) only [f_X5_sellerCalled_2, ↓q_m1, q_l0, q_l1, q_l2, q_l3, q_l4, q_l5, q_l6, q_l7, q_l8, q_l9, q_l10, q_l11, q_l12, q_l13, q_l14, q_l15, q_l16, q_l17, q_l18, q_l19, q_l20, q_l21, q_l22, q_l23, q_l24, q_l25, q_l26, q_l27, q_l28, q_l29, q_l30, q_l31, q_l32, q_l33, q_l45, q_l46, q_l48, q_l57, q_l58, q_l59, q_l60, q_l61, q_l62, q_l63, q_l64, q_l96, q_l97, q_l99, q_l122, q_l129, q_l137, q_l255, q_l256, q_l400, q_l680, q_l700, q_l959, q_l999, q_l9999, q_l10000, q_l100000, q_l36, q_l50, q_l100, q_l112, q_l200, q_ltT, q_ltF, q_leT, q_leF, q_eqF, q_eqR, q_mlt, q_mle, q_nlm, q_nLm, q_nem, q_men, q_mlm, Nat.add_zero, Nat.sub_zero, q_add0, pk_rem, nI_add, pk_mul, q_sub, q_subm, q_addm, nI_clamp, q_inT, q_inF, q_sr1, q_srn, q_srw, q_srs, q_wIs, q_wIn, q_wI2, q_wJ1, q_wJs, q_wJn, q_wR1, q_wRs, q_wRn, q_wI22, q_wJ22, pk_us, pk_un, pk_uLs, pk_uLn, q_usS, q_usN, q_ups, q_upn, Bool.true_eq_false, Bool.false_eq_true, q_lt, q_o2, q_o3, q_o4, q_o5, q_bi, ↓reduceIte, q_tv0, q_tv1, q_bz, q_oRl, q_oRr, q_oXl, q_oXr, h1]
theorem p_see {T t : Nat} (h : TW β τ [112 + t] Y) (ht : t < T) (hT : T ≤ 8) (h1 : μ.1 0 1 = nI T) (h8 : ∀ j, j < T → μ.2.1 8 j = lN (112 + j)) : f_X7_seeStall μ π τ β = some (nI t, π) := by
  have n5 := isw_no (w := 5) (by omega) h (by rw [sB_ln.2.2.2.2.1]; show 1 ≠ 2; omega)
  obtain ⟨s, k1, k2, k3, k4, k5⟩ := h
  have e5 := k5 _ rfl
  have hsc := st_called h1 hT h8 (c := 112 + t) (by omega)
  rw [(fd_some (n := T) (P := fun j => decide (112 + j = 112 + t)) (by omega) (j := t) (by omega)).mpr ⟨ht, decide_eq_true rfl, fun k hk => decide_eq_false (by omega)⟩] at hsc
  have c : (nI t = m1) = False := q_nem (by omega)
  simp (maxSteps := 2000000) (disch := first | rfl | exact q_e1 _ _ _ | exact q_sr1 _ _ | omega) only [f_X7_seeStall, k1, n5, e5, hsc, c, ↓q_m1, q_l0, q_l1, q_l2, q_l3, q_l4, q_l5, q_l6, q_l7, q_l8, q_l9, q_l10, q_l11, q_l12, q_l13, q_l14, q_l15, q_l16, q_l17, q_l18, q_l19, q_l20, q_l21, q_l22, q_l23, q_l24, q_l25, q_l26, q_l27, q_l28, q_l29, q_l30, q_l31, q_l32, q_l33, q_l45, q_l46, q_l48, q_l57, q_l58, q_l59, q_l60, q_l61, q_l62, q_l63, q_l64, q_l96, q_l97, q_l99, q_l122, q_l129, q_l137, q_l255, q_l256, q_l400, q_l680, q_l700, q_l959, q_l999, q_l9999, q_l10000, q_l100000, q_l36, q_l50, q_l100, q_l112, q_l200, q_ltT, q_ltF, q_leT, q_leF, q_eqF, q_eqR, q_mlt, q_mle, q_nlm, q_nLm, q_nem, q_men, q_mlm, Nat.add_zero, Nat.sub_zero, q_add0, pk_rem, nI_add, pk_mul, q_sub, q_subm, q_addm, nI_clamp, q_inT, q_inF, q_sr1, q_srn, q_srw, q_srs, q_wIs, q_wIn, q_wI2, q_wJ1, q_wJs, q_wJn, q_wR1, q_wRs, q_wRn, q_wI22, q_wJ22, pk_us, pk_un, pk_uLs, pk_uLn, q_usS, q_usN, q_ups, q_upn, Bool.true_eq_false, Bool.false_eq_true, q_lt, q_o2, q_o3, q_o4, q_o5, q_bi, ↓reduceIte, q_tv0, q_tv1, q_bz, q_oRl, q_oRr, q_oXl, q_oXr]
/-! the stalls -/
def PS (ω μ : OM) (t : Nat) : Prop := (μ.1 0 0 = nI 0 ∧ μ.1 0 1 = nI t ∧ ∀ k, 2 ≤ k → k ≤ 8 → μ.1 0 k = nI 0) ∧ ∀ j, j < t → μ.1 9 j = ω.1 2 j ∧ μ.2.1 8 j = lN (112 + j)
def tlS (f : Nat → Int32) (t : Nat) (Y : List Nat) : List Nat := sp 1 ++ ([112 + t] ++ (sp 1 ++ (dgs (f t).toNatClampNeg ++ (sp 0 ++ 59 :: Y))))
theorem stall_ok {t r : Nat} (h : PS ω μ t) (ht : t < 8) (hr : r ≤ 99) (e : ω.1 2 t = nI r) (hw : TW β τ (sBw 2) (tlS (ω.1 2) t Y)) (hn : NX β Y Q) : ∃ μ' τ', f_X9_readStall μ π τ β = some (nI 1, μ', π, τ') ∧ PS ω μ' (t + 1) ∧ Q τ' := by
  rw [tlS, e, nI_clamp (by omega)] at hw
  obtain ⟨d1, d2, d3⟩ := dgs_d (v := r) (by omega)
  obtain ⟨τ1, a1, a2⟩ := p_word (π := π) (by omega) hw (nx_w (by simp) (fun y hy => by rw [List.mem_singleton.mp hy]; exact decide_eq_true (by omega)) (nh_sp (by decide)) (by show 1 < 700; omega))
  have n3 := isw_no (w := 3) (by omega) a2 (by rw [sB_ln.2.2.1]; show 1 ≠ 2; omega)
  obtain ⟨τ2, a3, a4, a5⟩ := p_new (π := π) a2 (by omega) (by omega) (nx_n d1 d2 (nh_c (by decide)) (dgs_len r).2)
  rw [d3] at a4
  obtain ⟨τ3, a6, a7⟩ := p_num (π := π) a4 hr (by omega) nx_s
  obtain ⟨τ4, a8, a9⟩ := p_semi (π := π) a7 hn
  obtain ⟨⟨h1, h2, h3⟩, h4⟩ := h
  have hsc := st_called h2 (by omega) (fun j hj => (h4 j hj).2) (c := 112 + t) (by omega)
  rw [(fd_none (n := t) (P := fun j => decide (112 + j = 112 + t)) (by omega)).mpr (fun k hk => decide_eq_false (by omega))] at hsc
  have hb : (bz (nI 1) = true) = True := eq_true (by decide)
  refine ⟨wI (wI (wJ μ 8 t (lN (112 + t))) 9 t (nI r)) 0 1 (nI (t + 1)), τ4, ?_, ⟨⟨by simp (maxSteps := 2000000) (disch := first | rfl | exact q_e1 _ _ _ | exact q_sr1 _ _ | omega) only [q_sr1, q_srn, q_srw, q_srs, q_wIs, q_wIn, q_wI2, q_wJ1, q_wJs, q_wJn, q_wR1, q_wRs, q_wRn, q_wI22, q_wJ22, pk_us, pk_un, pk_uLs, pk_uLn, q_usS, q_usN, q_ups, q_upn, h1], by simp (maxSteps := 2000000) (disch := first | rfl | exact q_e1 _ _ _ | exact q_sr1 _ _ | omega) only [q_sr1, q_srn, q_srw, q_srs, q_wIs, q_wIn, q_wI2, q_wJ1, q_wJs, q_wJn, q_wR1, q_wRs, q_wRn, q_wI22, q_wJ22, pk_us, pk_un, pk_uLs, pk_uLn, q_usS, q_usN, q_ups, q_upn], fun k k1 k2 => ?_⟩, fun j hj => ?_⟩, a9⟩
  · simp (maxSteps := 2000000) (disch := first | rfl | exact q_e1 _ _ _ | exact q_sr1 _ _ | omega) only [f_X9_readStall, a1, a5, n3, hsc, a3, a6, f_X5_addStall, h2, a8, hb, ↓q_m1, q_l0, q_l1, q_l2, q_l3, q_l4, q_l5, q_l6, q_l7, q_l8, q_l9, q_l10, q_l11, q_l12, q_l13, q_l14, q_l15, q_l16, q_l17, q_l18, q_l19, q_l20, q_l21, q_l22, q_l23, q_l24, q_l25, q_l26, q_l27, q_l28, q_l29, q_l30, q_l31, q_l32, q_l33, q_l45, q_l46, q_l48, q_l57, q_l58, q_l59, q_l60, q_l61, q_l62, q_l63, q_l64, q_l96, q_l97, q_l99, q_l122, q_l129, q_l137, q_l255, q_l256, q_l400, q_l680, q_l700, q_l959, q_l999, q_l9999, q_l10000, q_l100000, q_l36, q_l50, q_l100, q_l112, q_l200, q_ltT, q_ltF, q_leT, q_leF, q_eqF, q_eqR, q_mlt, q_mle, q_nlm, q_nLm, q_nem, q_men, q_mlm, Nat.add_zero, Nat.sub_zero, q_add0, pk_rem, nI_add, pk_mul, q_sub, q_subm, q_addm, nI_clamp, q_inT, q_inF, q_sr1, q_srn, q_srw, q_srs, q_wIs, q_wIn, q_wI2, q_wJ1, q_wJs, q_wJn, q_wR1, q_wRs, q_wRn, q_wI22, q_wJ22, pk_us, pk_un, pk_uLs, pk_uLn, q_usS, q_usN, q_ups, q_upn, Bool.true_eq_false, Bool.false_eq_true, q_lt, q_o2, q_o3, q_o4, q_o5, q_bi, ↓reduceIte, q_tv0, q_tv1, q_bz, q_oRl, q_oRr, q_oXl, q_oXr]
  · rw [q_wIs, pk_un (by omega), q_wIn (by omega), q_wJ1]; exact h3 k k1 k2
  · rw [q_wIn (by omega), q_wIs, q_wI2, q_wI2, q_wJs, q_wJ1]
    by_cases ej : j = t
    · subst ej; rw [pk_us, pk_uLs]; exact ⟨e.symm, rfl⟩
    · rw [pk_un ej, pk_uLn ej]; exact h4 j (by omega)
def remS (f : Nat → Int32) : Nat → Nat → List Nat → List Nat
  | 0, _, Z => Z
  | r + 1, t, Z => sBw 2 ++ tlS f t (remS f r (t + 1) Z)
theorem remS_eq (f : Nat → Int32) (Z : List Nat) : ∀ r t, stalls f t ++ remS f r t Z = stalls f (t + r) ++ Z
  | 0, t => rfl
  | r + 1, t => by
    have h := remS_eq f Z r (t + 1)
    rw [show t + (r + 1) = t + 1 + r by omega, ← h, remS, stalls, stT, tlS, sB_eq.1, sB_eq.2.2.1]
    simp [sp]
theorem stalls_ok {T : Nat} {Z Z' : List Nat} (hz : NX β Z (fun τ' => TW β τ' (sBw 4) Z')) (hT : T ≤ 7) (hr : ∀ j, j < T → ∃ r, r ≤ 99 ∧ ω.1 2 j = nI r) : ∀ (r t m : Nat) (μ τ : OM), t + 1 + r = T → r + 1 < m → PS ω μ t → TW β τ (sBw 2) (tlS (ω.1 2) t (remS (ω.1 2) r (t + 1) Z)) → ∃ μ' τ', f_X9_readStalls_2 β m (nI t) μ π τ = some (nI 1, μ', π, τ') ∧ PS ω μ' T ∧ TW β τ' (sBw 4) Z' := by
  have hne : (sBw 2 : List Nat) ≠ [] := fun q => by have := sB_ln.2.2.2.2.2.2.1; rw [q] at this; cases this
  have body : ∀ (t m : Nat) (μ τ μ1 τ1 : OM), t ≤ 7 → f_X9_readStall μ π τ β = some (nI 1, μ1, π, τ1) → f_X10_isWord 2 τ β = some (nI 1) → f_X9_readStalls_2 β (m + 1) (nI t) μ π τ = f_X9_readStalls_2 β m (nI (t + 1)) μ1 π τ1 := fun t m μ τ μ1 τ1 ht h1 h2 => by
    have c8 : (nI 8 ≤ nI t) = False := eq_false (nI_ge (by omega) (by omega))
    by_cases c : t = 0
    · subst c
      simp (maxSteps := 2000000) (disch := first | rfl | exact q_e1 _ _ _ | exact q_sr1 _ _ | omega) only [f_X9_readStalls_2, c8, h1, ↓q_m1, q_l0, q_l1, q_l2, q_l3, q_l4, q_l5, q_l6, q_l7, q_l8, q_l9, q_l10, q_l11, q_l12, q_l13, q_l14, q_l15, q_l16, q_l17, q_l18, q_l19, q_l20, q_l21, q_l22, q_l23, q_l24, q_l25, q_l26, q_l27, q_l28, q_l29, q_l30, q_l31, q_l32, q_l33, q_l45, q_l46, q_l48, q_l57, q_l58, q_l59, q_l60, q_l61, q_l62, q_l63, q_l64, q_l96, q_l97, q_l99, q_l122, q_l129, q_l137, q_l255, q_l256, q_l400, q_l680, q_l700, q_l959, q_l999, q_l9999, q_l10000, q_l100000, q_l36, q_l50, q_l100, q_l112, q_l200, q_ltT, q_ltF, q_leT, q_leF, q_eqF, q_eqR, q_mlt, q_mle, q_nlm, q_nLm, q_nem, q_men, q_mlm, Nat.add_zero, Nat.sub_zero, q_add0, pk_rem, nI_add, pk_mul, q_sub, q_subm, q_addm, nI_clamp, q_inT, q_inF, q_sr1, q_srn, q_srw, q_srs, q_wIs, q_wIn, q_wI2, q_wJ1, q_wJs, q_wJn, q_wR1, q_wRs, q_wRn, q_wI22, q_wJ22, pk_us, pk_un, pk_uLs, pk_uLn, q_usS, q_usN, q_ups, q_upn, Bool.true_eq_false, Bool.false_eq_true, q_lt, q_o2, q_o3, q_o4, q_o5, q_bi, ↓reduceIte, q_tv0, q_tv1, q_bz, q_oRl, q_oRr, q_oXl, q_oXr]
    · have c0 : (nI t ≤ nI 0) = False := eq_false (nI_ge (by omega) (by omega))
      simp (maxSteps := 2000000) (disch := first | rfl | exact q_e1 _ _ _ | exact q_sr1 _ _ | omega) only [f_X9_readStalls_2, c8, c0, h1, h2, ↓q_m1, q_l0, q_l1, q_l2, q_l3, q_l4, q_l5, q_l6, q_l7, q_l8, q_l9, q_l10, q_l11, q_l12, q_l13, q_l14, q_l15, q_l16, q_l17, q_l18, q_l19, q_l20, q_l21, q_l22, q_l23, q_l24, q_l25, q_l26, q_l27, q_l28, q_l29, q_l30, q_l31, q_l32, q_l33, q_l45, q_l46, q_l48, q_l57, q_l58, q_l59, q_l60, q_l61, q_l62, q_l63, q_l64, q_l96, q_l97, q_l99, q_l122, q_l129, q_l137, q_l255, q_l256, q_l400, q_l680, q_l700, q_l959, q_l999, q_l9999, q_l10000, q_l100000, q_l36, q_l50, q_l100, q_l112, q_l200, q_ltT, q_ltF, q_leT, q_leF, q_eqF, q_eqR, q_mlt, q_mle, q_nlm, q_nLm, q_nem, q_men, q_mlm, Nat.add_zero, Nat.sub_zero, q_add0, pk_rem, nI_add, pk_mul, q_sub, q_subm, q_addm, nI_clamp, q_inT, q_inF, q_sr1, q_srn, q_srw, q_srs, q_wIs, q_wIn, q_wI2, q_wJ1, q_wJs, q_wJn, q_wR1, q_wRs, q_wRn, q_wI22, q_wJ22, pk_us, pk_un, pk_uLs, pk_uLn, q_usS, q_usN, q_ups, q_upn, Bool.true_eq_false, Bool.false_eq_true, q_lt, q_o2, q_o3, q_o4, q_o5, q_bi, ↓reduceIte, q_tv0, q_tv1, q_bz, q_oRl, q_oRr, q_oXl, q_oXr]
  intro r
  induction r with
  | zero =>
    intro t m μ τ ht hm hp hw
    obtain ⟨m, rfl⟩ : ∃ q, m = q + 2 := ⟨m - 2, by omega⟩
    obtain ⟨r, hr1, hr2⟩ := hr t (by omega)
    obtain ⟨μ', τ', f1, f2, f3⟩ := stall_ok (π := π) hp (by omega) hr1 hr2 hw hz
    obtain rfl : t + 1 = T := by omega
    refine ⟨μ', τ', ?_, f2, f3⟩
    rw [body t (m + 1) μ τ μ' τ' (by omega) f1 (isw_yes (by omega) hw)]
    have n2 := isw_no (w := 2) (by omega) f3 (by rw [sB_ln.2.1, sB_ln.2.2.2.2.2.2.2.2]; omega)
    have c8 : (nI 8 ≤ nI (t + 1)) = False := eq_false (nI_ge (by omega) (by omega))
    have c0 : (nI (t + 1) ≤ nI 0) = False := eq_false (nI_ge (by omega) (by omega))
    simp (maxSteps := 2000000) (disch := first | rfl | exact q_e1 _ _ _ | exact q_sr1 _ _ | omega) only [f_X9_readStalls_2, c8, c0, n2, ↓q_m1, q_l0, q_l1, q_l2, q_l3, q_l4, q_l5, q_l6, q_l7, q_l8, q_l9, q_l10, q_l11, q_l12, q_l13, q_l14, q_l15, q_l16, q_l17, q_l18, q_l19, q_l20, q_l21, q_l22, q_l23, q_l24, q_l25, q_l26, q_l27, q_l28, q_l29, q_l30, q_l31, q_l32, q_l33, q_l45, q_l46, q_l48, q_l57, q_l58, q_l59, q_l60, q_l61, q_l62, q_l63, q_l64, q_l96, q_l97, q_l99, q_l122, q_l129, q_l137, q_l255, q_l256, q_l400, q_l680, q_l700, q_l959, q_l999, q_l9999, q_l10000, q_l100000, q_l36, q_l50, q_l100, q_l112, q_l200, q_ltT, q_ltF, q_leT, q_leF, q_eqF, q_eqR, q_mlt, q_mle, q_nlm, q_nLm, q_nem, q_men, q_mlm, Nat.add_zero, Nat.sub_zero, q_add0, pk_rem, nI_add, pk_mul, q_sub, q_subm, q_addm, nI_clamp, q_inT, q_inF, q_sr1, q_srn, q_srw, q_srs, q_wIs, q_wIn, q_wI2, q_wJ1, q_wJs, q_wJn, q_wR1, q_wRs, q_wRn, q_wI22, q_wJ22, pk_us, pk_un, pk_uLs, pk_uLn, q_usS, q_usN, q_ups, q_upn, Bool.true_eq_false, Bool.false_eq_true, q_lt, q_o2, q_o3, q_o4, q_o5, q_bi, ↓reduceIte, q_tv0, q_tv1, q_bz, q_oRl, q_oRr, q_oXl, q_oXr]
  | succ r ih =>
    intro t m μ τ ht hm hp hw
    obtain ⟨m, rfl⟩ : ∃ q, m = q + 1 := ⟨m - 1, by omega⟩
    obtain ⟨r', hr1, hr2⟩ := hr t (by omega)
    have hnx : NX β (remS (ω.1 2) (r + 1) (t + 1) Z) (fun τ' => TW β τ' (sBw 2) (tlS (ω.1 2) (t + 1) (remS (ω.1 2) r (t + 1 + 1) Z))) := nx_w (k := 0) hne (sB_let 2 (by omega) (by omega)) (nh_sp (by decide)) (by rw [sB_ln.2.2.2.2.2.2.1]; omega)
    obtain ⟨μ', τ', f1, f2, f3⟩ := stall_ok (π := π) hp (by omega) hr1 hr2 hw hnx
    obtain ⟨μ2, τ2, k1, k2⟩ := ih (t + 1) m μ' τ' (by omega) (by omega) f2 f3
    exact ⟨μ2, τ2, by rw [body t m μ τ μ' τ' (by omega) f1 (isw_yes (by omega) hw)]; exact k1, k2⟩
end PRS

/-! what changes the market -/
section CH
variable {S T B : Nat} {μ : OM} {a : Nat → Int32} {ρ : OM}
theorem s_seat (h : MR S T μ a) (h8 : S ≤ 8) {i : Nat} (hi : i < S) (v : Int32) : f_X5_seat (nI i) v μ = some (wI μ 4 i v) := by
  simp (maxSteps := 2000000) (disch := first | rfl | exact q_e1 _ _ _ | exact q_sr1 _ _ | omega) only [f_X5_seat, s_hasSeller h hi h8, ↓q_m1, q_l0, q_l1, q_l2, q_l3, q_l4, q_l5, q_l6, q_l7, q_l8, q_l9, q_l10, q_l11, q_l12, q_l13, q_l14, q_l15, q_l16, q_l17, q_l18, q_l19, q_l20, q_l21, q_l22, q_l23, q_l24, q_l25, q_l26, q_l27, q_l28, q_l29, q_l30, q_l31, q_l32, q_l33, q_l45, q_l46, q_l48, q_l57, q_l58, q_l59, q_l60, q_l61, q_l62, q_l63, q_l64, q_l96, q_l97, q_l99, q_l122, q_l129, q_l137, q_l255, q_l256, q_l400, q_l680, q_l700, q_l959, q_l999, q_l9999, q_l10000, q_l100000, q_l36, q_l50, q_l100, q_l112, q_l200, q_ltT, q_ltF, q_leT, q_leF, q_eqF, q_eqR, q_mlt, q_mle, q_nlm, q_nLm, q_nem, q_men, q_mlm, Nat.add_zero, Nat.sub_zero, q_add0, pk_rem, nI_add, pk_mul, q_sub, q_subm, q_addm, nI_clamp, q_inT, q_inF, q_sr1, q_srn, q_srw, q_srs, q_wIs, q_wIn, q_wI2, q_wJ1, q_wJs, q_wJn, q_wR1, q_wRs, q_wRn, q_wI22, q_wJ22, pk_us, pk_un, pk_uLs, pk_uLn, q_usS, q_usN, q_ups, q_upn, Bool.true_eq_false, Bool.false_eq_true, q_lt, q_o2, q_o3, q_o4, q_o5, q_bi, ↓reduceIte, q_tv0, q_tv1, q_bz, q_oRl, q_oRr, q_oXl, q_oXr]
theorem s_receive (h : MR S T μ a) (h8 : S ≤ 8) {i : Nat} (hi : i < S) (x : Int32) : f_X5_receive (nI i) x μ = some (wI (wI μ 2 i (a (25 + 13 * i + 1) + x)) 0 8 (a 8 + x)) := by
  simp (maxSteps := 2000000) (disch := first | rfl | exact q_e1 _ _ _ | exact q_sr1 _ _ | omega) only [f_X5_receive, s_hasSeller h hi h8, (h.2.2.1 i hi).1, h.2.1 8 (by omega) (by omega), ↓q_m1, q_l0, q_l1, q_l2, q_l3, q_l4, q_l5, q_l6, q_l7, q_l8, q_l9, q_l10, q_l11, q_l12, q_l13, q_l14, q_l15, q_l16, q_l17, q_l18, q_l19, q_l20, q_l21, q_l22, q_l23, q_l24, q_l25, q_l26, q_l27, q_l28, q_l29, q_l30, q_l31, q_l32, q_l33, q_l45, q_l46, q_l48, q_l57, q_l58, q_l59, q_l60, q_l61, q_l62, q_l63, q_l64, q_l96, q_l97, q_l99, q_l122, q_l129, q_l137, q_l255, q_l256, q_l400, q_l680, q_l700, q_l959, q_l999, q_l9999, q_l10000, q_l100000, q_l36, q_l50, q_l100, q_l112, q_l200, q_ltT, q_ltF, q_leT, q_leF, q_eqF, q_eqR, q_mlt, q_mle, q_nlm, q_nLm, q_nem, q_men, q_mlm, Nat.add_zero, Nat.sub_zero, q_add0, pk_rem, nI_add, pk_mul, q_sub, q_subm, q_addm, nI_clamp, q_inT, q_inF, q_sr1, q_srn, q_srw, q_srs, q_wIs, q_wIn, q_wI2, q_wJ1, q_wJs, q_wJn, q_wR1, q_wRs, q_wRn, q_wI22, q_wJ22, pk_us, pk_un, pk_uLs, pk_uLn, q_usS, q_usN, q_ups, q_upn, Bool.true_eq_false, Bool.false_eq_true, q_lt, q_o2, q_o3, q_o4, q_o5, q_bi, ↓reduceIte, q_tv0, q_tv1, q_bz, q_oRl, q_oRr, q_oXl, q_oXr]
theorem s_price (h : MR S T μ a) (t8 : T ≤ 8) {t : Nat} (ht : t < T) (v : Int32) : f_X5_price (nI t) v μ = some (wI μ 9 t v) := by
  simp (maxSteps := 2000000) (disch := first | rfl | exact q_e1 _ _ _ | exact q_sr1 _ _ | omega) only [f_X5_price, s_hasStall h ht t8, ↓q_m1, q_l0, q_l1, q_l2, q_l3, q_l4, q_l5, q_l6, q_l7, q_l8, q_l9, q_l10, q_l11, q_l12, q_l13, q_l14, q_l15, q_l16, q_l17, q_l18, q_l19, q_l20, q_l21, q_l22, q_l23, q_l24, q_l25, q_l26, q_l27, q_l28, q_l29, q_l30, q_l31, q_l32, q_l33, q_l45, q_l46, q_l48, q_l57, q_l58, q_l59, q_l60, q_l61, q_l62, q_l63, q_l64, q_l96, q_l97, q_l99, q_l122, q_l129, q_l137, q_l255, q_l256, q_l400, q_l680, q_l700, q_l959, q_l999, q_l9999, q_l10000, q_l100000, q_l36, q_l50, q_l100, q_l112, q_l200, q_ltT, q_ltF, q_leT, q_leF, q_eqF, q_eqR, q_mlt, q_mle, q_nlm, q_nLm, q_nem, q_men, q_mlm, Nat.add_zero, Nat.sub_zero, q_add0, pk_rem, nI_add, pk_mul, q_sub, q_subm, q_addm, nI_clamp, q_inT, q_inF, q_sr1, q_srn, q_srw, q_srs, q_wIs, q_wIn, q_wI2, q_wJ1, q_wJs, q_wJn, q_wR1, q_wRs, q_wRn, q_wI22, q_wJ22, pk_us, pk_un, pk_uLs, pk_uLn, q_usS, q_usN, q_ups, q_upn, Bool.true_eq_false, Bool.false_eq_true, q_lt, q_o2, q_o3, q_o4, q_o5, q_bi, ↓reduceIte, q_tv0, q_tv1, q_bz, q_oRl, q_oRr, q_oXl, q_oXr]
/-- a rent is paid, or the seller is evicted -/
def chA (a : Nat → Int32) (i : Nat) : (Nat → Int32) × Bool :=
  if a (25 + 13 * i + 3) = m1 then (a, false) else
  if a (25 + 13 * i + 1) < a (9 + 2 * (a (25 + 13 * i + 3)).toNatClampNeg + 1) then (upd (upd a (25 + 13 * i + 3) m1) 4 (a 4 + nI 1), true)
  else (upd (upd a (25 + 13 * i + 1) (a (25 + 13 * i + 1) - a (9 + 2 * (a (25 + 13 * i + 3)).toNatClampNeg + 1))) 3 (a 3 + a (9 + 2 * (a (25 + 13 * i + 3)).toNatClampNeg + 1)), false)
def chM (μ : OM) (a : Nat → Int32) (i : Nat) : OM :=
  if a (25 + 13 * i + 3) = m1 then μ else
  if a (25 + 13 * i + 1) < a (9 + 2 * (a (25 + 13 * i + 3)).toNatClampNeg + 1) then wI (wI μ 4 i m1) 0 4 (a 4 + nI 1)
  else wI (wI μ 2 i (a (25 + 13 * i + 1) - a (9 + 2 * (a (25 + 13 * i + 3)).toNatClampNeg + 1))) 0 3 (a 3 + a (9 + 2 * (a (25 + 13 * i + 3)).toNatClampNeg + 1))
theorem s_chg (h : MR S T μ a) (h8 : S ≤ 8) (t8 : T ≤ 8) {i : Nat} (hi : i < S) (hp : a (25 + 13 * i + 3) = m1 ∨ ∃ t, t < T ∧ a (25 + 13 * i + 3) = nI t) : f_X5_chargeOrEvict (nI i) μ = some (chM μ a i) := by
  rcases hp with e | ⟨t, ht, e⟩
  · simp (maxSteps := 2000000) (disch := first | rfl | exact q_e1 _ _ _ | exact q_sr1 _ _ | omega) only [f_X5_chargeOrEvict, s_heldBy h h8 hi, s_hasSeller h hi h8, e, chM, ↓q_m1, q_l0, q_l1, q_l2, q_l3, q_l4, q_l5, q_l6, q_l7, q_l8, q_l9, q_l10, q_l11, q_l12, q_l13, q_l14, q_l15, q_l16, q_l17, q_l18, q_l19, q_l20, q_l21, q_l22, q_l23, q_l24, q_l25, q_l26, q_l27, q_l28, q_l29, q_l30, q_l31, q_l32, q_l33, q_l45, q_l46, q_l48, q_l57, q_l58, q_l59, q_l60, q_l61, q_l62, q_l63, q_l64, q_l96, q_l97, q_l99, q_l122, q_l129, q_l137, q_l255, q_l256, q_l400, q_l680, q_l700, q_l959, q_l999, q_l9999, q_l10000, q_l100000, q_l36, q_l50, q_l100, q_l112, q_l200, q_ltT, q_ltF, q_leT, q_leF, q_eqF, q_eqR, q_mlt, q_mle, q_nlm, q_nLm, q_nem, q_men, q_mlm, Nat.add_zero, Nat.sub_zero, q_add0, pk_rem, nI_add, pk_mul, q_sub, q_subm, q_addm, nI_clamp, q_inT, q_inF, q_sr1, q_srn, q_srw, q_srs, q_wIs, q_wIn, q_wI2, q_wJ1, q_wJs, q_wJn, q_wR1, q_wRs, q_wRn, q_wI22, q_wJ22, pk_us, pk_un, pk_uLs, pk_uLn, q_usS, q_usN, q_ups, q_upn, Bool.true_eq_false, Bool.false_eq_true, q_lt, q_o2, q_o3, q_o4, q_o5, q_bi, ↓reduceIte, q_tv0, q_tv1, q_bz, q_oRl, q_oRr, q_oXl, q_oXr]
  · by_cases c : a (25 + 13 * i + 1) < a (9 + 2 * t + 1)
    · simp (maxSteps := 2000000) (disch := first | rfl | exact q_e1 _ _ _ | exact q_sr1 _ _ | omega) only [f_X5_chargeOrEvict, s_heldBy h h8 hi, s_hasSeller h hi h8, s_priceOf h t8 ht, (h.2.2.1 i hi).1, h.2.1 4 (by omega) (by omega), e, chM, ↓q_m1, q_l0, q_l1, q_l2, q_l3, q_l4, q_l5, q_l6, q_l7, q_l8, q_l9, q_l10, q_l11, q_l12, q_l13, q_l14, q_l15, q_l16, q_l17, q_l18, q_l19, q_l20, q_l21, q_l22, q_l23, q_l24, q_l25, q_l26, q_l27, q_l28, q_l29, q_l30, q_l31, q_l32, q_l33, q_l45, q_l46, q_l48, q_l57, q_l58, q_l59, q_l60, q_l61, q_l62, q_l63, q_l64, q_l96, q_l97, q_l99, q_l122, q_l129, q_l137, q_l255, q_l256, q_l400, q_l680, q_l700, q_l959, q_l999, q_l9999, q_l10000, q_l100000, q_l36, q_l50, q_l100, q_l112, q_l200, q_ltT, q_ltF, q_leT, q_leF, q_eqF, q_eqR, q_mlt, q_mle, q_nlm, q_nLm, q_nem, q_men, q_mlm, Nat.add_zero, Nat.sub_zero, q_add0, pk_rem, nI_add, pk_mul, q_sub, q_subm, q_addm, nI_clamp, q_inT, q_inF, q_sr1, q_srn, q_srw, q_srs, q_wIs, q_wIn, q_wI2, q_wJ1, q_wJs, q_wJn, q_wR1, q_wRs, q_wRn, q_wI22, q_wJ22, pk_us, pk_un, pk_uLs, pk_uLn, q_usS, q_usN, q_ups, q_upn, Bool.true_eq_false, Bool.false_eq_true, q_lt, q_o2, q_o3, q_o4, q_o5, q_bi, ↓reduceIte, q_tv0, q_tv1, q_bz, q_oRl, q_oRr, q_oXl, q_oXr, eq_true c]
    · simp (maxSteps := 2000000) (disch := first | rfl | exact q_e1 _ _ _ | exact q_sr1 _ _ | omega) only [f_X5_chargeOrEvict, s_heldBy h h8 hi, s_hasSeller h hi h8, s_priceOf h t8 ht, (h.2.2.1 i hi).1, h.2.1 3 (by omega) (by omega), e, chM, ↓q_m1, q_l0, q_l1, q_l2, q_l3, q_l4, q_l5, q_l6, q_l7, q_l8, q_l9, q_l10, q_l11, q_l12, q_l13, q_l14, q_l15, q_l16, q_l17, q_l18, q_l19, q_l20, q_l21, q_l22, q_l23, q_l24, q_l25, q_l26, q_l27, q_l28, q_l29, q_l30, q_l31, q_l32, q_l33, q_l45, q_l46, q_l48, q_l57, q_l58, q_l59, q_l60, q_l61, q_l62, q_l63, q_l64, q_l96, q_l97, q_l99, q_l122, q_l129, q_l137, q_l255, q_l256, q_l400, q_l680, q_l700, q_l959, q_l999, q_l9999, q_l10000, q_l100000, q_l36, q_l50, q_l100, q_l112, q_l200, q_ltT, q_ltF, q_leT, q_leF, q_eqF, q_eqR, q_mlt, q_mle, q_nlm, q_nLm, q_nem, q_men, q_mlm, Nat.add_zero, Nat.sub_zero, q_add0, pk_rem, nI_add, pk_mul, q_sub, q_subm, q_addm, nI_clamp, q_inT, q_inF, q_sr1, q_srn, q_srw, q_srs, q_wIs, q_wIn, q_wI2, q_wJ1, q_wJs, q_wJn, q_wR1, q_wRs, q_wRn, q_wI22, q_wJ22, pk_us, pk_un, pk_uLs, pk_uLn, q_usS, q_usN, q_ups, q_upn, Bool.true_eq_false, Bool.false_eq_true, q_lt, q_o2, q_o3, q_o4, q_o5, q_bi, ↓reduceIte, q_tv0, q_tv1, q_bz, q_oRl, q_oRr, q_oXl, q_oXr, eq_false c]
theorem MX.chg (h : MX B S T μ a) (hB : B < 2 ^ 31) {i : Nat} (hi : i < S) : MX B S T (chM μ a i) (chA a i).1 := by
  obtain ⟨b, hb, eb⟩ := h.2.2.2.2.2.2.2 i hi
  rcases h.2.2.1.2.2.2 i hi with e | ⟨t, ht, e⟩
  · rw [chM, chA, if_pos e, if_pos e]; exact h
  · have t8 := h.2.2.1.1.2
    have ec : (a (25 + 13 * i + 3)).toNatClampNeg = t := by rw [e]; exact nI_clamp (by omega)
    have en : ¬ a (25 + 13 * i + 3) = m1 := by rw [e]; exact fun q => (q_nem (show t < 2 ^ 31 by omega)).mp q
    obtain ⟨r, hr, er⟩ := h.2.2.2.2.2.1 t ht
    rw [chM, chA, if_neg en, if_neg en, ec]
    by_cases c : a (25 + 13 * i + 1) < a (9 + 2 * t + 1)
    · rw [if_pos c, if_pos c]
      exact (h.seat hi (Or.inl rfl) (Or.inl rfl)).fld (by omega) (by omega) _
    · rw [if_neg c, if_neg c]
      rw [eb, er] at c ⊢
      have : r ≤ b := Nat.le_of_not_lt (fun q => c (nI_lt q (by omega)))
      rw [pk_sub this]
      exact (h.coin (Nat.le_refl _) hi (by omega)).fld (by omega) (by omega) _
end CH
section DAY
variable {S T B : Nat} {μ : OM} {a : Nat → Int32} {ρ : OM}
theorem chA_2 (a : Nat → Int32) (i : Nat) : (chA a i).1 2 = a 2 := by
  rw [chA]
  split
  · rfl
  · split <;> simp (maxSteps := 2000000) (disch := first | rfl | exact q_e1 _ _ _ | exact q_sr1 _ _ | omega) only [q_sr1, q_srn, q_srw, q_srs, q_wIs, q_wIn, q_wI2, q_wJ1, q_wJs, q_wJn, q_wR1, q_wRs, q_wRn, q_wI22, q_wJ22, pk_us, pk_un, pk_uLs, pk_uLn, q_usS, q_usN, q_ups, q_upn]
theorem chA_4 (a : Nat → Int32) (i : Nat) : (chA a i).1 4 = if (chA a i).2 = true then a 4 + nI 1 else a 4 := by
  rw [chA]
  split
  · rfl
  · split <;> simp (maxSteps := 2000000) (disch := first | rfl | exact q_e1 _ _ _ | exact q_sr1 _ _ | omega) only [q_sr1, q_srn, q_srw, q_srs, q_wIs, q_wIn, q_wI2, q_wJ1, q_wJs, q_wJn, q_wR1, q_wRs, q_wRn, q_wI22, q_wJ22, pk_us, pk_un, pk_uLs, pk_uLn, q_usS, q_usN, q_ups, q_upn, ↓reduceIte, Bool.false_eq_true]
end DAY
def FMu (i : Nat) (μ ν : OM) : Prop := (∀ k, k ≠ 6 → k ≠ 7 → ν.1 k = μ.1 k) ∧ ν.2 = μ.2 ∧ (∀ j, j ≠ i → ν.1 6 j = μ.1 6 j) ∧ ∀ y, (y < i * 8 ∨ i * 8 + 8 ≤ y) → ν.1 7 y = μ.1 7 y
def FA (i : Nat) (a b : Nat → Int32) : Prop := ∀ x, (x < 25 + 13 * i + 4 ∨ 25 + 13 * i + 13 ≤ x) → b x = a x
theorem FMu.tr {i : Nat} {μ ν ξ : OM} (h : FMu i μ ν) (g : FMu i ν ξ) : FMu i μ ξ := ⟨fun k h1 h2 => (g.1 k h1 h2).trans (h.1 k h1 h2), g.2.1.trans h.2.1, fun j hj => (g.2.2.1 j hj).trans (h.2.2.1 j hj), fun y hy => (g.2.2.2 y hy).trans (h.2.2.2 y hy)⟩
theorem FA.tr {i : Nat} {a b c : Nat → Int32} (h : FA i a b) (g : FA i b c) : FA i a c := fun x hx => (g x hx).trans (h x hx)
theorem FMu.w7 {i k : Nat} (hk : k < 8) (μ : OM) (v : Int32) : FMu i μ (wI μ 7 (i * 8 + k) v) := ⟨fun k h1 h2 => q_wIn h2, rfl, fun j _ => congrFun (q_wIn (by omega)) j, fun y hy => by rw [q_wIs, pk_un (by omega)]⟩
theorem FMu.w6 (i : Nat) (μ : OM) (v : Int32) : FMu i μ (wI μ 6 i v) := ⟨fun k h1 h2 => q_wIn h1, rfl, fun j hj => by rw [q_wIs, pk_un hj], fun y hy => congrFun (q_wIn (by omega)) y⟩
theorem FA.w {i k : Nat} (h4 : 4 ≤ k) (hk : k < 13) (a : Nat → Int32) (v : Int32) : FA i a (upd a (25 + 13 * i + k) v) := fun x hx => pk_un (by omega)
theorem MR.list {S T : Nat} {μ μ' : OM} {a a' : Nat → Int32} (h : MR S T μ a) (w : WL S T a) {i : Nat} (hi : i < S) (h1 : FMu i μ μ') (h2 : FA i a a') (h3 : μ'.1 6 i = a' (25 + 13 * i + 4)) (h5 : ∀ k, k < ln a' i → μ'.1 7 (i * 8 + k) = a' (25 + 13 * i + (5 + k))) : MR S T μ' a' := by
  obtain ⟨⟨n0, n1, n2, n3⟩, n4, n5, n6, n7, n8, n9, n10, n11⟩ := h
  obtain ⟨⟨h8, t8⟩, w1, w2, w3⟩ := w
  obtain ⟨f1, f2, f3, f4⟩ := h1
  have el : ∀ j, j ≠ i → ln a' j = ln a j := fun j hj => ln_eq (h2 _ (by omega))
  refine ⟨⟨?_, ?_, (h2 0 (by omega)).trans n2, (h2 1 (by omega)).trans n3⟩, fun k g1 g2 => ?_, fun j hj => ?_, fun j k hj hk => ?_, fun t ht => ?_, fun j hj => ?_, fun t ht => ?_, fun j hj => ?_, fun k hk => ?_⟩
  · rw [f1 0 (by omega) (by omega)]; exact n0
  · rw [f1 0 (by omega) (by omega)]; exact n1
  · rw [f1 0 (by omega) (by omega), h2 k (by omega)]; exact n4 k g1 g2
  · obtain ⟨c1, c2, c3, c4⟩ := n5 j hj
    refine ⟨?_, ?_, ?_, ?_⟩
    · rw [f1 2 (by omega) (by omega), h2 _ (by omega)]; exact c1
    · rw [f1 3 (by omega) (by omega), h2 _ (by omega)]; exact c2
    · rw [f1 4 (by omega) (by omega), h2 _ (by omega)]; exact c3
    · by_cases e : j = i
      · subst e; exact h3
      · rw [f3 j e, h2 _ (by omega)]; exact c4
  · by_cases e : j = i
    · subst e; exact h5 k hk
    · rw [el j e] at hk
      have := (w1 j hj).1
      rw [f4 _ (by omega), h2 _ (by omega)]; exact n6 j k hj hk
  · rw [f1 9 (by omega) (by omega), h2 _ (by omega)]; exact n7 t ht
  · rw [f2, h2 _ (by omega)]; exact n8 j hj
  · rw [f2, h2 _ (by omega)]; exact n9 t ht
  · obtain ⟨k, g1, g2, g3⟩ := n10 j hj
    exact ⟨k, g1, by rw [f1 5 (by omega) (by omega)]; exact g2, by rw [h2 _ (by omega)]; exact g3⟩
  · obtain ⟨j, g1, g2, g3⟩ := n11 k hk
    exact ⟨j, g1, by rw [f1 5 (by omega) (by omega)]; exact g2, by rw [h2 _ (by omega)]; exact g3⟩
theorem WF.list {B S T : Nat} {a a' : Nat → Int32} (h : WF B S T a) {i : Nat} (hi : i < S) (h2 : FA i a a') (h3 : ln a' i ≤ 8) (h4 : a' (25 + 13 * i + 4) = nI (ln a' i)) (h5 : ∀ k, k < ln a' i → ∃ t, t < T ∧ a' (25 + 13 * i + (5 + k)) = nI t) (h6 : ∀ k k', k < ln a' i → k' < ln a' i → a' (25 + 13 * i + (5 + k)) = a' (25 + 13 * i + (5 + k')) → k = k') : WF B S T a' := by
  obtain ⟨s1, ⟨⟨h8, t8⟩, w1, w2, w3⟩, ⟨d1, d2⟩, ⟨⟨d, hd, e2⟩, v2, v3, v4⟩⟩ := h
  have el : ∀ j, j ≠ i → ln a' j = ln a j := fun j hj => ln_eq (h2 _ (by omega))
  refine ⟨s1, ⟨⟨h8, t8⟩, fun j hj => ?_, fun j k hj hk => ?_, fun j hj => ?_⟩, ⟨fun j k k' hj hk hk' => ?_, fun j j' hj hj' => ?_⟩, ⟨⟨d, hd, by rw [h2 _ (by omega)]; exact e2⟩, fun t ht => ?_, fun j hj => ?_, fun j hj => ?_⟩⟩
  · by_cases e : j = i
    · subst e; exact ⟨h3, h4⟩
    · rw [el j e, h2 _ (by omega)]; exact w1 j hj
  · by_cases e : j = i
    · subst e; exact h5 k hk
    · rw [el j e] at hk
      have := (w1 j hj).1
      rw [h2 _ (by omega)]; exact w2 j k hj hk
  · rw [h2 _ (by omega)]; exact w3 j hj
  · by_cases e : j = i
    · subst e; exact h6 k k' hk hk'
    · rw [el j e] at hk hk'
      have := (w1 j hj).1
      rw [h2 _ (by omega), h2 _ (by omega)]; exact d1 j k k' hj hk hk'
  · rw [h2 _ (by omega), h2 _ (by omega)]; exact d2 j j' hj hj'
  · rw [h2 _ (by omega)]; exact v2 t ht
  · rw [h2 _ (by omega)]; exact v3 j hj
  · rw [h2 _ (by omega)]; exact v4 j hj
section LST
variable {B S T : Nat} {μ : OM} {a : Nat → Int32} {ρ : OM}
/-- the list of i becomes f, of length n -/
def LB (i n : Nat) (f : Nat → Int32) (μ μ' : OM) (a a' : Nat → Int32) : Prop := FMu i μ μ' ∧ FA i a a' ∧ μ'.1 6 i = nI n ∧ a' (25 + 13 * i + 4) = nI n ∧ ∀ k, k < n → μ'.1 7 (i * 8 + k) = a' (25 + 13 * i + (5 + k)) ∧ a' (25 + 13 * i + (5 + k)) = f k
theorem cnt_pos {P : Nat → Bool} : ∀ {n t : Nat}, t < n → P t = true → 1 ≤ cnt P n
  | 0, _, h, _ => by omega
  | n + 1, t, h, hp => by
    rw [cnt]
    by_cases e : t = n
    · subst e; rw [if_pos hp]; omega
    · have := cnt_pos (n := n) (t := t) (by omega) hp
      omega
theorem cnt_all {P : Nat → Bool} : ∀ {n : Nat}, (∀ k, k < n → P k = true) → cnt P n = n
  | 0, _ => rfl
  | n + 1, h => by rw [cnt, cnt_all (fun k hk => h k (by omega)), if_pos (h n (by omega))]
/-- a list without a stall has room for it -/
theorem lst_room (w : WL S T a) (d : WD S a) {i t : Nat} (hi : i < S) (ht : t < T) (hv : rk a i (nI t) = m1) : ln a i + 1 ≤ T := by
  have t8 := w.1.2
  have hl := w.2.1 i hi
  have h1 := cnt_held (T := T) (fun k => a (25 + 13 * i + (5 + k))) (by omega) (ln a i) (by omega) (fun k hk => Or.inr (w.2.2.1 i k hi hk)) (fun k k' hk hk' e _ => d.1 i k k' hi hk hk' e)
  have h2 := cnt_all (P := fun k => !decide (a (25 + 13 * i + (5 + k)) = m1)) (n := ln a i) (fun k hk => by rw [decide_eq_false (lst_ne w hi hk)]; rfl)
  have h3 := cnt_not (fun t => !decide (fd (ln a i) (fun k => decide (a (25 + 13 * i + (5 + k)) = nI t)) = m1)) T
  have h4 := cnt_pos (P := fun k => !(!decide (fd (ln a i) (fun j => decide (a (25 + 13 * i + (5 + j)) = nI k)) = m1))) ht (by
    have : fd (ln a i) (fun j => decide (a (25 + 13 * i + (5 + j)) = nI t)) = m1 := hv
    rw [this]; rfl)
  have h1' : cnt (fun t => !decide (fd (ln a i) (fun k => decide (a (25 + 13 * i + (5 + k)) = nI t)) = m1)) T = cnt (fun k => !decide (a (25 + 13 * i + (5 + k)) = m1)) (ln a i) := h1
  have h3' : cnt (fun t => !decide (fd (ln a i) (fun k => decide (a (25 + 13 * i + (5 + k)) = nI t)) = m1)) T + cnt (fun k => !(!decide (fd (ln a i) (fun j => decide (a (25 + 13 * i + (5 + j)) = nI k)) = m1))) T = T := h3
  omega
theorem LB.mx (h : MX B S T μ a) {i n : Nat} (hi : i < S) (hn : n ≤ 8) {f : Nat → Int32} {μ' : OM} {a' : Nat → Int32} (hb : LB i n f μ μ' a a') (h5 : ∀ k, k < n → ∃ t, t < T ∧ f k = nI t) (h6 : ∀ k k', k < n → k' < n → f k = f k' → k = k') : MX B S T μ' a' := by
  obtain ⟨g1, g2, g3, g4, g5⟩ := hb
  have el : ln a' i = n := by rw [ln, g4]; exact nI_clamp (by omega)
  refine ⟨h.1.list h.2.2.1 hi g1 g2 (g3.trans g4.symm) (fun k hk => (g5 k (by omega)).1), h.2.list hi g2 (by omega) (by rw [el]; exact g4) (fun k hk => ?_) (fun k k' hk hk' e => ?_)⟩
  · rw [(g5 k (by omega)).2]; exact h5 k (by omega)
  · rw [(g5 k (by omega)).2, (g5 k' (by omega)).2] at e
    exact h6 k k' (by omega) (by omega) e
end LST
section FACE
variable {B : Nat} {σ : SM}
end FACE

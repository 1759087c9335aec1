/-! the priority order -/
def shU (b : Nat → Int32) (k p : Nat) : Nat → Int32 := fun x => if 129 + k ≤ x ∧ x < 129 + p then b (x + 1) else b x
def shD (b : Nat → Int32) (p k : Nat) : Nat → Int32 := fun x => if 129 + p < x ∧ x ≤ 129 + k then b (x - 1) else b x
section ORD
variable {B S T : Nat} {μ : OM} {a : Nat → Int32} {ρ : OM}
theorem r_mvU {q i p : Nat} (hp : p < 8) : ∀ (r k n : Nat) (b : Nat → Int32), k + r = p → r < n → f_X13_moves_21 (nI 1) (nI q) (nI i) (nI p) n (nI k) (sr ρ b) = some (nI q, sr ρ (upd (shU b k p) (129 + p) (nI i)))
  | 0, k, n, b, hk, hr => by
    obtain ⟨n, rfl⟩ : ∃ q, n = q + 1 := ⟨n - 1, by omega⟩
    have e : k = p := by omega
    subst e
    have es : shU b k k = b := by
      funext x
      rw [shU, if_neg (by omega)]
    simp (maxSteps := 2000000) (disch := first | rfl | exact q_e1 _ _ _ | exact q_sr1 _ _ | omega) only [f_X13_moves_21, ↓q_m1, q_l0, q_l1, q_l2, q_l3, q_l4, q_l5, q_l6, q_l7, q_l8, q_l9, q_l10, q_l11, q_l12, q_l13, q_l14, q_l15, q_l16, q_l17, q_l18, q_l19, q_l20, q_l21, q_l22, q_l23, q_l24, q_l25, q_l26, q_l27, q_l28, q_l29, q_l30, q_l31, q_l32, q_l33, q_l45, q_l46, q_l48, q_l57, q_l58, q_l59, q_l60, q_l61, q_l62, q_l63, q_l64, q_l96, q_l97, q_l99, q_l122, q_l129, q_l137, q_l255, q_l256, q_l400, q_l680, q_l700, q_l959, q_l999, q_l9999, q_l10000, q_l100000, q_ltT, q_ltF, q_leT, q_leF, q_eqF, q_eqR, q_mlt, q_mle, q_nlm, q_nLm, q_nem, q_men, q_mlm, Nat.add_zero, Nat.sub_zero, q_add0, pk_rem, nI_add, pk_mul, q_sub, q_subm, q_addm, nI_clamp, q_inT, q_inF, q_sr1, q_srn, q_srw, q_srs, q_wIs, q_wIn, q_wI2, q_wJ1, q_wJs, q_wJn, q_wR1, q_wRs, q_wRn, q_wI22, q_wJ22, pk_us, pk_un, pk_uLs, pk_uLn, q_usS, q_usN, q_ups, q_upn, Bool.true_eq_false, Bool.false_eq_true, q_lt, q_o2, q_o3, q_o4, q_o5, q_bi, ↓reduceIte, q_tv0, q_tv1, q_bz, q_oRl, q_oRr, q_oXl, q_oXr, es]
  | r + 1, k, n, b, hk, hr => by
    obtain ⟨n, rfl⟩ : ∃ q, n = q + 1 := ⟨n - 1, by omega⟩
    have es : shU (upd b (129 + k) (b (129 + k + 1))) (k + 1) p = shU b k p := by
      funext x
      simp only [shU, upd]
      by_cases h1 : x = 129 + k
      · subst h1
        rw [if_neg (by omega), if_pos rfl, if_pos (by omega)]
      · by_cases h2 : 129 + k ≤ x ∧ x < 129 + p
        · rw [if_pos (by omega), if_neg (by omega), if_pos h2]
        · rw [if_neg (by omega), if_neg h1, if_neg h2]
    have ih := r_mvU (q := q) (i := i) hp r (k + 1) n (upd b (129 + k) (b (129 + k + 1))) (by omega) (by omega)
    rw [es] at ih
    simp (maxSteps := 2000000) (disch := first | rfl | exact q_e1 _ _ _ | exact q_sr1 _ _ | omega) only [f_X13_moves_21, ↓q_m1, q_l0, q_l1, q_l2, q_l3, q_l4, q_l5, q_l6, q_l7, q_l8, q_l9, q_l10, q_l11, q_l12, q_l13, q_l14, q_l15, q_l16, q_l17, q_l18, q_l19, q_l20, q_l21, q_l22, q_l23, q_l24, q_l25, q_l26, q_l27, q_l28, q_l29, q_l30, q_l31, q_l32, q_l33, q_l45, q_l46, q_l48, q_l57, q_l58, q_l59, q_l60, q_l61, q_l62, q_l63, q_l64, q_l96, q_l97, q_l99, q_l122, q_l129, q_l137, q_l255, q_l256, q_l400, q_l680, q_l700, q_l959, q_l999, q_l9999, q_l10000, q_l100000, q_ltT, q_ltF, q_leT, q_leF, q_eqF, q_eqR, q_mlt, q_mle, q_nlm, q_nLm, q_nem, q_men, q_mlm, Nat.add_zero, Nat.sub_zero, q_add0, pk_rem, nI_add, pk_mul, q_sub, q_subm, q_addm, nI_clamp, q_inT, q_inF, q_sr1, q_srn, q_srw, q_srs, q_wIs, q_wIn, q_wI2, q_wJ1, q_wJs, q_wJn, q_wR1, q_wRs, q_wRn, q_wI22, q_wJ22, pk_us, pk_un, pk_uLs, pk_uLn, q_usS, q_usN, q_ups, q_upn, Bool.true_eq_false, Bool.false_eq_true, q_lt, q_o2, q_o3, q_o4, q_o5, q_bi, ↓reduceIte, q_tv0, q_tv1, q_bz, q_oRl, q_oRr, q_oXl, q_oXr, ih]
theorem r_mvD {q i p : Nat} : ∀ (r k n : Nat) (b : Nat → Int32), k < 8 → p + r = k → r < n → f_X13_moves_21 m1 (nI q) (nI i) (nI p) n (nI k) (sr ρ b) = some (nI q, sr ρ (upd (shD b p k) (129 + p) (nI i)))
  | 0, k, n, b, h8, hk, hr => by
    obtain ⟨n, rfl⟩ : ∃ q, n = q + 1 := ⟨n - 1, by omega⟩
    have e : k = p := by omega
    subst e
    have es : shD b k k = b := by
      funext x
      rw [shD, if_neg (by omega)]
    simp (maxSteps := 2000000) (disch := first | rfl | exact q_e1 _ _ _ | exact q_sr1 _ _ | omega) only [f_X13_moves_21, ↓q_m1, q_l0, q_l1, q_l2, q_l3, q_l4, q_l5, q_l6, q_l7, q_l8, q_l9, q_l10, q_l11, q_l12, q_l13, q_l14, q_l15, q_l16, q_l17, q_l18, q_l19, q_l20, q_l21, q_l22, q_l23, q_l24, q_l25, q_l26, q_l27, q_l28, q_l29, q_l30, q_l31, q_l32, q_l33, q_l45, q_l46, q_l48, q_l57, q_l58, q_l59, q_l60, q_l61, q_l62, q_l63, q_l64, q_l96, q_l97, q_l99, q_l122, q_l129, q_l137, q_l255, q_l256, q_l400, q_l680, q_l700, q_l959, q_l999, q_l9999, q_l10000, q_l100000, q_ltT, q_ltF, q_leT, q_leF, q_eqF, q_eqR, q_mlt, q_mle, q_nlm, q_nLm, q_nem, q_men, q_mlm, Nat.add_zero, Nat.sub_zero, q_add0, pk_rem, nI_add, pk_mul, q_sub, q_subm, q_addm, nI_clamp, q_inT, q_inF, q_sr1, q_srn, q_srw, q_srs, q_wIs, q_wIn, q_wI2, q_wJ1, q_wJs, q_wJn, q_wR1, q_wRs, q_wRn, q_wI22, q_wJ22, pk_us, pk_un, pk_uLs, pk_uLn, q_usS, q_usN, q_ups, q_upn, Bool.true_eq_false, Bool.false_eq_true, q_lt, q_o2, q_o3, q_o4, q_o5, q_bi, ↓reduceIte, q_tv0, q_tv1, q_bz, q_oRl, q_oRr, q_oXl, q_oXr, es]
  | r + 1, k, n, b, h8, hk, hr => by
    obtain ⟨n, rfl⟩ : ∃ q, n = q + 1 := ⟨n - 1, by omega⟩
    have es : shD (upd b (129 + k) (b (129 + k - 1))) p (k - 1) = shD b p k := by
      funext x
      simp only [shD, upd]
      by_cases h1 : x = 129 + k
      · subst h1
        rw [if_neg (by omega), if_pos rfl, if_pos (by omega)]
      · by_cases h2 : 129 + p < x ∧ x ≤ 129 + k
        · rw [if_pos (by omega), if_neg (by omega), if_pos h2]
        · rw [if_neg (by omega), if_neg h1, if_neg h2]
    have ih := r_mvD (q := q) (i := i) (p := p) r (k - 1) n (upd b (129 + k) (b (129 + k - 1))) (by omega) (by omega) (by omega)
    rw [es] at ih
    simp (maxSteps := 2000000) (disch := first | rfl | exact q_e1 _ _ _ | exact q_sr1 _ _ | omega) only [f_X13_moves_21, ↓q_m1, q_l0, q_l1, q_l2, q_l3, q_l4, q_l5, q_l6, q_l7, q_l8, q_l9, q_l10, q_l11, q_l12, q_l13, q_l14, q_l15, q_l16, q_l17, q_l18, q_l19, q_l20, q_l21, q_l22, q_l23, q_l24, q_l25, q_l26, q_l27, q_l28, q_l29, q_l30, q_l31, q_l32, q_l33, q_l45, q_l46, q_l48, q_l57, q_l58, q_l59, q_l60, q_l61, q_l62, q_l63, q_l64, q_l96, q_l97, q_l99, q_l122, q_l129, q_l137, q_l255, q_l256, q_l400, q_l680, q_l700, q_l959, q_l999, q_l9999, q_l10000, q_l100000, q_ltT, q_ltF, q_leT, q_leF, q_eqF, q_eqR, q_mlt, q_mle, q_nlm, q_nLm, q_nem, q_men, q_mlm, Nat.add_zero, Nat.sub_zero, q_add0, pk_rem, nI_add, pk_mul, q_sub, q_subm, q_addm, nI_clamp, q_inT, q_inF, q_sr1, q_srn, q_srw, q_srs, q_wIs, q_wIn, q_wI2, q_wJ1, q_wJs, q_wJn, q_wR1, q_wRs, q_wRn, q_wI22, q_wJ22, pk_us, pk_un, pk_uLs, pk_uLn, q_usS, q_usN, q_ups, q_upn, Bool.true_eq_false, Bool.false_eq_true, q_lt, q_o2, q_o3, q_o4, q_o5, q_bi, ↓reduceIte, q_tv0, q_tv1, q_bz, q_oRl, q_oRr, q_oXl, q_oXr, ih]
def mvA (a : Nat → Int32) (q p i : Nat) : Nat → Int32 := upd (if p ≤ q then shD a p q else shU a q p) (129 + p) (nI i)
theorem r_moves {q p i : Nat} (h8 : S ≤ 8) (hq : q < S) (hp : p < S) (hi : i < S) (h1 : a (129 + q) = nI i) (h2 : ∀ j, j < q → a (129 + j) ≠ nI i) : f_X13_moves (nI i) (nI p) (sr ρ a) = some (nI q, sr ρ (mvA a q p i)) := by
  have e := r_pos (ρ := sr ρ a) h8 hq (show i < 8 by omega) h1 h2 rfl
  by_cases c : p ≤ q
  · have ih := r_mvD (ρ := ρ) (q := q) (i := i) (p := p) (q - p) q FU a (by omega) (by omega) (fu_lt (show q - p < 2000 by omega))
    rw [mvA, if_pos c]
    simp (maxSteps := 2000000) (disch := first | rfl | exact q_e1 _ _ _ | exact q_sr1 _ _ | omega) only [f_X13_moves, e, ↓q_m1, q_l0, q_l1, q_l2, q_l3, q_l4, q_l5, q_l6, q_l7, q_l8, q_l9, q_l10, q_l11, q_l12, q_l13, q_l14, q_l15, q_l16, q_l17, q_l18, q_l19, q_l20, q_l21, q_l22, q_l23, q_l24, q_l25, q_l26, q_l27, q_l28, q_l29, q_l30, q_l31, q_l32, q_l33, q_l45, q_l46, q_l48, q_l57, q_l58, q_l59, q_l60, q_l61, q_l62, q_l63, q_l64, q_l96, q_l97, q_l99, q_l122, q_l129, q_l137, q_l255, q_l256, q_l400, q_l680, q_l700, q_l959, q_l999, q_l9999, q_l10000, q_l100000, q_ltT, q_ltF, q_leT, q_leF, q_eqF, q_eqR, q_mlt, q_mle, q_nlm, q_nLm, q_nem, q_men, q_mlm, Nat.add_zero, Nat.sub_zero, q_add0, pk_rem, nI_add, pk_mul, q_sub, q_subm, q_addm, nI_clamp, q_inT, q_inF, q_sr1, q_srn, q_srw, q_srs, q_wIs, q_wIn, q_wI2, q_wJ1, q_wJs, q_wJn, q_wR1, q_wRs, q_wRn, q_wI22, q_wJ22, pk_us, pk_un, pk_uLs, pk_uLn, q_usS, q_usN, q_ups, q_upn, Bool.true_eq_false, Bool.false_eq_true, q_lt, q_o2, q_o3, q_o4, q_o5, q_bi, ↓reduceIte, q_tv0, q_tv1, q_bz, q_oRl, q_oRr, q_oXl, q_oXr, ih]
  · have ih := r_mvU (ρ := ρ) (q := q) (i := i) (p := p) (by omega) (p - q) q FU a (by omega) (fu_lt (show p - q < 2000 by omega))
    rw [mvA, if_neg c]
    simp (maxSteps := 2000000) (disch := first | rfl | exact q_e1 _ _ _ | exact q_sr1 _ _ | omega) only [f_X13_moves, e, ↓q_m1, q_l0, q_l1, q_l2, q_l3, q_l4, q_l5, q_l6, q_l7, q_l8, q_l9, q_l10, q_l11, q_l12, q_l13, q_l14, q_l15, q_l16, q_l17, q_l18, q_l19, q_l20, q_l21, q_l22, q_l23, q_l24, q_l25, q_l26, q_l27, q_l28, q_l29, q_l30, q_l31, q_l32, q_l33, q_l45, q_l46, q_l48, q_l57, q_l58, q_l59, q_l60, q_l61, q_l62, q_l63, q_l64, q_l96, q_l97, q_l99, q_l122, q_l129, q_l137, q_l255, q_l256, q_l400, q_l680, q_l700, q_l959, q_l999, q_l9999, q_l10000, q_l100000, q_ltT, q_ltF, q_leT, q_leF, q_eqF, q_eqR, q_mlt, q_mle, q_nlm, q_nLm, q_nem, q_men, q_mlm, Nat.add_zero, Nat.sub_zero, q_add0, pk_rem, nI_add, pk_mul, q_sub, q_subm, q_addm, nI_clamp, q_inT, q_inF, q_sr1, q_srn, q_srw, q_srs, q_wIs, q_wIn, q_wI2, q_wJ1, q_wJs, q_wJn, q_wR1, q_wRs, q_wRn, q_wI22, q_wJ22, pk_us, pk_un, pk_uLs, pk_uLn, q_usS, q_usN, q_ups, q_upn, Bool.true_eq_false, Bool.false_eq_true, q_lt, q_o2, q_o3, q_o4, q_o5, q_bi, ↓reduceIte, q_tv0, q_tv1, q_bz, q_oRl, q_oRr, q_oXl, q_oXr, ih]
def mvT (q p x : Nat) : Nat := if q < x ∧ x ≤ p then x - 1 else if x < q ∧ p ≤ x then x + 1 else x
theorem s_mv9 {q p : Nat} (h0 : μ.1 0 0 = nI S) (h8 : S ≤ 8) (hq : q < S) (hp : p < S) {f : Nat → Nat} (hf : ∀ j, j < S → f j < S ∧ μ.1 5 j = nI (f j)) : ∃ μ', f_X5_moveTurn_9 (nI q) (nI p) FU (nI 0) μ = some μ' ∧ (∀ k, k ≠ 5 → μ'.1 k = μ.1 k) ∧ μ'.2 = μ.2 ∧ ∀ j, j < S → μ'.1 5 j = nI (mvT q p (f j)) := by
  refine lp_inv (F := f_X5_moveTurn_9 (nI q) (nI p)) (i0 := 0) (fun (j : Nat) (s : OM) => (∀ k, k ≠ 5 → s.1 k = μ.1 k) ∧ s.2 = μ.2 ∧ (∀ y, y < j → s.1 5 y = nI (mvT q p (f y))) ∧ ∀ y, j ≤ y → s.1 5 y = μ.1 5 y) _ S (fun n j s hj hh => ?_) (fun n s hh => ?_) (fu_lt (show S < 2000 by omega)) ⟨fun _ _ => rfl, rfl, fun y hy => by omega, fun _ _ => rfl⟩
  · obtain ⟨g1, g2, g3, g4⟩ := hh
    have e0 : s.1 0 0 = nI S := (congrFun (g1 0 (by omega)) 0).trans h0
    obtain ⟨fx, ex⟩ := hf j hj
    have e5 : s.1 5 j = nI (f j) := (g4 j (Nat.le_refl _)).trans ex
    by_cases c1 : q < f j ∧ f j ≤ p
    · refine ⟨wI s 5 j (nI (f j - 1)), ⟨fun k hk => (q_wIn hk).trans (g1 k hk), g2, fun y hy => ?_, fun y hy => ?_⟩, by simp (maxSteps := 2000000) (disch := first | rfl | exact q_e1 _ _ _ | exact q_sr1 _ _ | omega) only [f_X5_moveTurn_9, ↓q_m1, q_l0, q_l1, q_l2, q_l3, q_l4, q_l5, q_l6, q_l7, q_l8, q_l9, q_l10, q_l11, q_l12, q_l13, q_l14, q_l15, q_l16, q_l17, q_l18, q_l19, q_l20, q_l21, q_l22, q_l23, q_l24, q_l25, q_l26, q_l27, q_l28, q_l29, q_l30, q_l31, q_l32, q_l33, q_l45, q_l46, q_l48, q_l57, q_l58, q_l59, q_l60, q_l61, q_l62, q_l63, q_l64, q_l96, q_l97, q_l99, q_l122, q_l129, q_l137, q_l255, q_l256, q_l400, q_l680, q_l700, q_l959, q_l999, q_l9999, q_l10000, q_l100000, q_ltT, q_ltF, q_leT, q_leF, q_eqF, q_eqR, q_mlt, q_mle, q_nlm, q_nLm, q_nem, q_men, q_mlm, Nat.add_zero, Nat.sub_zero, q_add0, pk_rem, nI_add, pk_mul, q_sub, q_subm, q_addm, nI_clamp, q_inT, q_inF, q_sr1, q_srn, q_srw, q_srs, q_wIs, q_wIn, q_wI2, q_wJ1, q_wJs, q_wJn, q_wR1, q_wRs, q_wRn, q_wI22, q_wJ22, pk_us, pk_un, pk_uLs, pk_uLn, q_usS, q_usN, q_ups, q_upn, Bool.true_eq_false, Bool.false_eq_true, q_lt, q_o2, q_o3, q_o4, q_o5, q_bi, ↓reduceIte, q_tv0, q_tv1, q_bz, q_oRl, q_oRr, q_oXl, q_oXr, e0, e5]⟩
      · by_cases e : y = j
        · subst e; rw [q_wIs, pk_us, mvT, if_pos c1]
        · rw [q_wIs, pk_un e]; exact g3 y (by omega)
      · rw [q_wIs, pk_un (by omega)]; exact g4 y (by omega)
    · by_cases c2 : f j < q ∧ p ≤ f j
      · refine ⟨wI s 5 j (nI (f j + 1)), ⟨fun k hk => (q_wIn hk).trans (g1 k hk), g2, fun y hy => ?_, fun y hy => ?_⟩, by simp (maxSteps := 2000000) (disch := first | rfl | exact q_e1 _ _ _ | exact q_sr1 _ _ | omega) only [f_X5_moveTurn_9, ↓q_m1, q_l0, q_l1, q_l2, q_l3, q_l4, q_l5, q_l6, q_l7, q_l8, q_l9, q_l10, q_l11, q_l12, q_l13, q_l14, q_l15, q_l16, q_l17, q_l18, q_l19, q_l20, q_l21, q_l22, q_l23, q_l24, q_l25, q_l26, q_l27, q_l28, q_l29, q_l30, q_l31, q_l32, q_l33, q_l45, q_l46, q_l48, q_l57, q_l58, q_l59, q_l60, q_l61, q_l62, q_l63, q_l64, q_l96, q_l97, q_l99, q_l122, q_l129, q_l137, q_l255, q_l256, q_l400, q_l680, q_l700, q_l959, q_l999, q_l9999, q_l10000, q_l100000, q_ltT, q_ltF, q_leT, q_leF, q_eqF, q_eqR, q_mlt, q_mle, q_nlm, q_nLm, q_nem, q_men, q_mlm, Nat.add_zero, Nat.sub_zero, q_add0, pk_rem, nI_add, pk_mul, q_sub, q_subm, q_addm, nI_clamp, q_inT, q_inF, q_sr1, q_srn, q_srw, q_srs, q_wIs, q_wIn, q_wI2, q_wJ1, q_wJs, q_wJn, q_wR1, q_wRs, q_wRn, q_wI22, q_wJ22, pk_us, pk_un, pk_uLs, pk_uLn, q_usS, q_usN, q_ups, q_upn, Bool.true_eq_false, Bool.false_eq_true, q_lt, q_o2, q_o3, q_o4, q_o5, q_bi, ↓reduceIte, q_tv0, q_tv1, q_bz, q_oRl, q_oRr, q_oXl, q_oXr, e0, e5]⟩
        · by_cases e : y = j
          · subst e; rw [q_wIs, pk_us, mvT, if_neg c1, if_pos c2]
          · rw [q_wIs, pk_un e]; exact g3 y (by omega)
        · rw [q_wIs, pk_un (by omega)]; exact g4 y (by omega)
      · refine ⟨s, ⟨g1, g2, fun y hy => ?_, fun y hy => g4 y (by omega)⟩, ?_⟩
        · by_cases e : y = j
          · subst e; rw [e5, mvT, if_neg c1, if_neg c2]
          · exact g3 y (by omega)
        · by_cases d1 : q < f j
          · simp (maxSteps := 2000000) (disch := first | rfl | exact q_e1 _ _ _ | exact q_sr1 _ _ | omega) only [f_X5_moveTurn_9, ↓q_m1, q_l0, q_l1, q_l2, q_l3, q_l4, q_l5, q_l6, q_l7, q_l8, q_l9, q_l10, q_l11, q_l12, q_l13, q_l14, q_l15, q_l16, q_l17, q_l18, q_l19, q_l20, q_l21, q_l22, q_l23, q_l24, q_l25, q_l26, q_l27, q_l28, q_l29, q_l30, q_l31, q_l32, q_l33, q_l45, q_l46, q_l48, q_l57, q_l58, q_l59, q_l60, q_l61, q_l62, q_l63, q_l64, q_l96, q_l97, q_l99, q_l122, q_l129, q_l137, q_l255, q_l256, q_l400, q_l680, q_l700, q_l959, q_l999, q_l9999, q_l10000, q_l100000, q_ltT, q_ltF, q_leT, q_leF, q_eqF, q_eqR, q_mlt, q_mle, q_nlm, q_nLm, q_nem, q_men, q_mlm, Nat.add_zero, Nat.sub_zero, q_add0, pk_rem, nI_add, pk_mul, q_sub, q_subm, q_addm, nI_clamp, q_inT, q_inF, q_sr1, q_srn, q_srw, q_srs, q_wIs, q_wIn, q_wI2, q_wJ1, q_wJs, q_wJn, q_wR1, q_wRs, q_wRn, q_wI22, q_wJ22, pk_us, pk_un, pk_uLs, pk_uLn, q_usS, q_usN, q_ups, q_upn, Bool.true_eq_false, Bool.false_eq_true, q_lt, q_o2, q_o3, q_o4, q_o5, q_bi, ↓reduceIte, q_tv0, q_tv1, q_bz, q_oRl, q_oRr, q_oXl, q_oXr, e0, e5]
          · by_cases d2 : q = f j
            · simp (maxSteps := 2000000) (disch := first | rfl | exact q_e1 _ _ _ | exact q_sr1 _ _ | omega) only [f_X5_moveTurn_9, ↓q_m1, q_l0, q_l1, q_l2, q_l3, q_l4, q_l5, q_l6, q_l7, q_l8, q_l9, q_l10, q_l11, q_l12, q_l13, q_l14, q_l15, q_l16, q_l17, q_l18, q_l19, q_l20, q_l21, q_l22, q_l23, q_l24, q_l25, q_l26, q_l27, q_l28, q_l29, q_l30, q_l31, q_l32, q_l33, q_l45, q_l46, q_l48, q_l57, q_l58, q_l59, q_l60, q_l61, q_l62, q_l63, q_l64, q_l96, q_l97, q_l99, q_l122, q_l129, q_l137, q_l255, q_l256, q_l400, q_l680, q_l700, q_l959, q_l999, q_l9999, q_l10000, q_l100000, q_ltT, q_ltF, q_leT, q_leF, q_eqF, q_eqR, q_mlt, q_mle, q_nlm, q_nLm, q_nem, q_men, q_mlm, Nat.add_zero, Nat.sub_zero, q_add0, pk_rem, nI_add, pk_mul, q_sub, q_subm, q_addm, nI_clamp, q_inT, q_inF, q_sr1, q_srn, q_srw, q_srs, q_wIs, q_wIn, q_wI2, q_wJ1, q_wJs, q_wJn, q_wR1, q_wRs, q_wRn, q_wI22, q_wJ22, pk_us, pk_un, pk_uLs, pk_uLn, q_usS, q_usN, q_ups, q_upn, Bool.true_eq_false, Bool.false_eq_true, q_lt, q_o2, q_o3, q_o4, q_o5, q_bi, ↓reduceIte, q_tv0, q_tv1, q_bz, q_oRl, q_oRr, q_oXl, q_oXr, e0, e5]
            · simp (maxSteps := 2000000) (disch := first | rfl | exact q_e1 _ _ _ | exact q_sr1 _ _ | omega) only [f_X5_moveTurn_9, ↓q_m1, q_l0, q_l1, q_l2, q_l3, q_l4, q_l5, q_l6, q_l7, q_l8, q_l9, q_l10, q_l11, q_l12, q_l13, q_l14, q_l15, q_l16, q_l17, q_l18, q_l19, q_l20, q_l21, q_l22, q_l23, q_l24, q_l25, q_l26, q_l27, q_l28, q_l29, q_l30, q_l31, q_l32, q_l33, q_l45, q_l46, q_l48, q_l57, q_l58, q_l59, q_l60, q_l61, q_l62, q_l63, q_l64, q_l96, q_l97, q_l99, q_l122, q_l129, q_l137, q_l255, q_l256, q_l400, q_l680, q_l700, q_l959, q_l999, q_l9999, q_l10000, q_l100000, q_ltT, q_ltF, q_leT, q_leF, q_eqF, q_eqR, q_mlt, q_mle, q_nlm, q_nLm, q_nem, q_men, q_mlm, Nat.add_zero, Nat.sub_zero, q_add0, pk_rem, nI_add, pk_mul, q_sub, q_subm, q_addm, nI_clamp, q_inT, q_inF, q_sr1, q_srn, q_srw, q_srs, q_wIs, q_wIn, q_wI2, q_wJ1, q_wJs, q_wJn, q_wR1, q_wRs, q_wRn, q_wI22, q_wJ22, pk_us, pk_un, pk_uLs, pk_uLn, q_usS, q_usN, q_ups, q_upn, Bool.true_eq_false, Bool.false_eq_true, q_lt, q_o2, q_o3, q_o4, q_o5, q_bi, ↓reduceIte, q_tv0, q_tv1, q_bz, q_oRl, q_oRr, q_oXl, q_oXr, e0, e5]
  · obtain ⟨g1, g2, g3, g4⟩ := hh
    have e0 : s.1 0 0 = nI S := (congrFun (g1 0 (by omega)) 0).trans h0
    exact ⟨s, by simp (maxSteps := 2000000) (disch := first | rfl | exact q_e1 _ _ _ | exact q_sr1 _ _ | omega) only [f_X5_moveTurn_9, ↓q_m1, q_l0, q_l1, q_l2, q_l3, q_l4, q_l5, q_l6, q_l7, q_l8, q_l9, q_l10, q_l11, q_l12, q_l13, q_l14, q_l15, q_l16, q_l17, q_l18, q_l19, q_l20, q_l21, q_l22, q_l23, q_l24, q_l25, q_l26, q_l27, q_l28, q_l29, q_l30, q_l31, q_l32, q_l33, q_l45, q_l46, q_l48, q_l57, q_l58, q_l59, q_l60, q_l61, q_l62, q_l63, q_l64, q_l96, q_l97, q_l99, q_l122, q_l129, q_l137, q_l255, q_l256, q_l400, q_l680, q_l700, q_l959, q_l999, q_l9999, q_l10000, q_l100000, q_ltT, q_ltF, q_leT, q_leF, q_eqF, q_eqR, q_mlt, q_mle, q_nlm, q_nLm, q_nem, q_men, q_mlm, Nat.add_zero, Nat.sub_zero, q_add0, pk_rem, nI_add, pk_mul, q_sub, q_subm, q_addm, nI_clamp, q_inT, q_inF, q_sr1, q_srn, q_srw, q_srs, q_wIs, q_wIn, q_wI2, q_wJ1, q_wJs, q_wJn, q_wR1, q_wRs, q_wRn, q_wI22, q_wJ22, pk_us, pk_un, pk_uLs, pk_uLn, q_usS, q_usN, q_ups, q_upn, Bool.true_eq_false, Bool.false_eq_true, q_lt, q_o2, q_o3, q_o4, q_o5, q_bi, ↓reduceIte, q_tv0, q_tv1, q_bz, q_oRl, q_oRr, q_oXl, q_oXr, e0], g1, g2, g3⟩
theorem MX.ord (h : MX B S T μ a) {μ' : OM} {a' : Nat → Int32} (f1 : ∀ k, k ≠ 5 → μ'.1 k = μ.1 k) (f2 : μ'.2 = μ.2) (f3 : ∀ x, x < 129 → a' x = a x) (n10' : ∀ i, i < S → ∃ k, k < S ∧ μ'.1 5 i = nI k ∧ a' (129 + k) = nI i) (n11' : ∀ k, k < S → ∃ i, i < S ∧ μ'.1 5 i = nI k ∧ a' (129 + k) = nI i) : MX B S T μ' a' := by
  obtain ⟨⟨⟨n0, n1, n2, n3⟩, n4, n5, n6, n7, n8, n9, n10, n11⟩, s1, ⟨⟨h8, t8⟩, w1, w2, w3⟩, ⟨d1, d2⟩, ⟨⟨d, hd, e2⟩, v2, v3, v4⟩⟩ := h
  have el : ∀ j, j < S → ln a' j = ln a j := fun j hj => ln_eq (f3 _ (by omega))
  refine ⟨⟨⟨?_, ?_, (f3 0 (by omega)).trans n2, (f3 1 (by omega)).trans n3⟩, fun k g1 g2 => ?_, fun j hj => ?_, fun j k hj hk => ?_, fun t ht => ?_, fun j hj => ?_, fun t ht => ?_, n10', n11'⟩, s1, ⟨⟨h8, t8⟩, fun j hj => ?_, fun j k hj hk => ?_, fun j hj => ?_⟩, ⟨fun j k k' hj hk hk' => ?_, fun j j' hj hj' => ?_⟩, ⟨⟨d, hd, by rw [f3 _ (by omega)]; exact e2⟩, fun t ht => ?_, fun j hj => ?_, fun j hj => ?_⟩⟩
  · rw [f1 0 (by omega)]; exact n0
  · rw [f1 0 (by omega)]; exact n1
  · rw [f1 0 (by omega), f3 k (by omega)]; exact n4 k g1 g2
  · rw [f1 2 (by omega), f1 3 (by omega), f1 4 (by omega), f1 6 (by omega), f3 _ (by omega), f3 _ (by omega), f3 _ (by omega), f3 _ (by omega)]; exact n5 j hj
  · rw [el j hj] at hk
    have := (w1 j hj).1
    rw [f1 7 (by omega), f3 _ (by omega)]; exact n6 j k hj hk
  · rw [f1 9 (by omega), f3 _ (by omega)]; exact n7 t ht
  · rw [f2, f3 _ (by omega)]; exact n8 j hj
  · rw [f2, f3 _ (by omega)]; exact n9 t ht
  · rw [el j hj, f3 _ (by omega)]; exact w1 j hj
  · rw [el j hj] at hk
    have := (w1 j hj).1
    rw [f3 _ (by omega)]; exact w2 j k hj hk
  · rw [f3 _ (by omega)]; exact w3 j hj
  · rw [el j hj] at hk hk'
    have := (w1 j hj).1
    rw [f3 _ (by omega), f3 _ (by omega)]; exact d1 j k k' hj hk hk'
  · rw [f3 _ (by omega), f3 _ (by omega)]; exact d2 j j' hj hj'
  · rw [f3 _ (by omega)]; exact v2 t ht
  · rw [f3 _ (by omega)]; exact v3 j hj
  · rw [f3 _ (by omega)]; exact v4 j hj
theorem move_mx (h : MX B S T μ a) {i p : Nat} (hi : i < S) (hp : p < S) : ∃ μ' a' q, f_X5_moveTurn (nI i) (nI p) μ = some μ' ∧ f_X13_moves (nI i) (nI p) (sr ρ a) = some (nI q, sr ρ a') ∧ μ.1 5 i = nI q ∧ MX B S T μ' a' := by
  have h8 := h.2.2.1.1.1
  obtain ⟨q, hq, e1, e2⟩ := h.1.2.2.2.2.2.2.2.1 i hi
  have n10 := h.1.2.2.2.2.2.2.2.1
  have h3 : ∀ j, j < S → j ≠ q → a (129 + j) ≠ nI i := fun j hj hne e => by
    have := ((h.1.turn h8 hi hj).mpr e).symm.trans e1
    have := (nI_eq (by omega) (by omega)).mp this
    omega
  have hf : ∀ j, j < S → (μ.1 5 j).toNatClampNeg < S ∧ μ.1 5 j = nI (μ.1 5 j).toNatClampNeg := fun j hj => by
    obtain ⟨k, hk, g1, g2⟩ := n10 j hj
    rw [g1, nI_clamp (by omega)]; exact ⟨hk, rfl⟩
  obtain ⟨μ1, f1, f2, f3, f4⟩ := s_mv9 (q := q) (p := p) h.1.1.1 h8 hq hp (f := fun j => (μ.1 5 j).toNatClampNeg) hf
  have ho : ∀ x k, x < S → k < S → a (129 + x) = nI k → μ.1 5 k = nI x := fun x k hx hk e => (h.1.turn h8 hk hx).mpr e
  have hA : ∀ k, k < S → ∃ x, x < S ∧ mvA a q p i (129 + k) = (if k = p then nI i else a (129 + x)) ∧ (k ≠ p → x ≠ q ∧ mvT q p x = k) := fun k hk => by
    by_cases c0 : k = p
    · subst c0
      exact ⟨k, hk, by rw [mvA, pk_us, if_pos rfl], fun h => absurd rfl h⟩
    · rw [mvA, pk_un (by omega)]
      by_cases c : p ≤ q
      · rw [if_pos c]
        by_cases c1 : p < k ∧ k ≤ q
        · refine ⟨k - 1, by omega, ?_, fun _ => ⟨by omega, ?_⟩⟩
          · rw [shD, if_pos (by omega), if_neg c0, show 129 + k - 1 = 129 + (k - 1) by omega]
          · rw [mvT, if_neg (by omega), if_pos (by omega)]; omega
        · refine ⟨k, by omega, ?_, fun _ => ⟨by omega, ?_⟩⟩
          · rw [shD, if_neg (by omega), if_neg c0]
          · rw [mvT, if_neg (by omega), if_neg (by omega)]
      · rw [if_neg c]
        by_cases c1 : q ≤ k ∧ k < p
        · refine ⟨k + 1, by omega, ?_, fun _ => ⟨by omega, ?_⟩⟩
          · rw [shU, if_pos (by omega), if_neg c0, show 129 + k + 1 = 129 + (k + 1) by omega]
          · rw [mvT, if_pos (by omega)]; omega
        · refine ⟨k, by omega, ?_, fun _ => ⟨by omega, ?_⟩⟩
          · rw [shU, if_neg (by omega), if_neg c0]
          · rw [mvT, if_neg (by omega), if_neg (by omega)]
  have hB : ∀ x, x < S → x ≠ q → mvT q p x < S ∧ mvT q p x ≠ p := fun x hx hxq => by
    rw [mvT]
    split
    · omega
    · split
      · omega
      · omega
  have n11' : ∀ k, k < S → ∃ j, j < S ∧ (wI μ1 5 i (nI p)).1 5 j = nI k ∧ mvA a q p i (129 + k) = nI j := fun k hk => by
    obtain ⟨x, hx, g1, g2⟩ := hA k hk
    by_cases c : k = p
    · subst c
      exact ⟨i, hi, by simp (maxSteps := 2000000) (disch := first | rfl | exact q_e1 _ _ _ | exact q_sr1 _ _ | omega) only [q_sr1, q_srn, q_srw, q_srs, q_wIs, q_wIn, q_wI2, q_wJ1, q_wJs, q_wJn, q_wR1, q_wRs, q_wRn, q_wI22, q_wJ22, pk_us, pk_un, pk_uLs, pk_uLn, q_usS, q_usN, q_ups, q_upn], by rw [g1, if_pos rfl]⟩
    · obtain ⟨g3, g4⟩ := g2 c
      obtain ⟨j, hj, g5, g6⟩ := h.1.2.2.2.2.2.2.2.2 x hx
      have hji : j ≠ i := fun e => by
        subst e
        exact g3 ((nI_eq (by omega) (by omega)).mp (g5.symm.trans e1))
      refine ⟨j, hj, ?_, by rw [g1, if_neg c]; exact g6⟩
      rw [q_wIs, pk_un hji, f4 j hj, g5, nI_clamp (by omega), g4]
  have n10' : ∀ j, j < S → ∃ k, k < S ∧ (wI μ1 5 i (nI p)).1 5 j = nI k ∧ mvA a q p i (129 + k) = nI j := fun j hj => by
    by_cases c : j = i
    · subst c
      exact ⟨p, hp, by simp (maxSteps := 2000000) (disch := first | rfl | exact q_e1 _ _ _ | exact q_sr1 _ _ | omega) only [q_sr1, q_srn, q_srw, q_srs, q_wIs, q_wIn, q_wI2, q_wJ1, q_wJs, q_wJn, q_wR1, q_wRs, q_wRn, q_wI22, q_wJ22, pk_us, pk_un, pk_uLs, pk_uLn, q_usS, q_usN, q_ups, q_upn], by rw [mvA, pk_us]⟩
    · obtain ⟨x, hx, g5, g6⟩ := n10 j hj
      have hxq : x ≠ q := fun e => by
        subst e
        exact c ((nI_eq (by omega) (by omega)).mp (g6.symm.trans e2))
      obtain ⟨b1, b2⟩ := hB x hx hxq
      have ej : (wI μ1 5 i (nI p)).1 5 j = nI (mvT q p x) := by
        rw [q_wIs, pk_un c, f4 j hj, g5, nI_clamp (by omega)]
      obtain ⟨j', hj', g7, g8⟩ := n11' (mvT q p x) b1
      refine ⟨mvT q p x, b1, ej, ?_⟩
      obtain ⟨x', hx', g9, g10⟩ := hA (mvT q p x) b1
      obtain ⟨g11, g12⟩ := g10 b2
      rw [g9, if_neg b2]
      have : x' = x := by
        have hh := g12
        simp only [mvT] at hh
        split at hh <;> split at hh <;> (try split at hh) <;> (try split at hh) <;> omega
      rw [this]; exact g6
  refine ⟨wI μ1 5 i (nI p), mvA a q p i, q, ?_, r_moves h8 hq hp hi e2 (fun j hj => h3 j (by omega) (by omega)), e1, h.ord (fun k hk => (q_wIn hk).trans (f2 k hk)) f3 (fun x hx => ?_) n10' n11'⟩
  · have es : f_X5_hasSeller (nI i) μ1 = some (nI 1) := by
      have e0 : μ1.1 0 0 = nI S := (congrFun (f2 0 (by omega)) 0).trans h.1.1.1
      simp (maxSteps := 2000000) (disch := first | rfl | exact q_e1 _ _ _ | exact q_sr1 _ _ | omega) only [f_X5_hasSeller, ↓q_m1, q_l0, q_l1, q_l2, q_l3, q_l4, q_l5, q_l6, q_l7, q_l8, q_l9, q_l10, q_l11, q_l12, q_l13, q_l14, q_l15, q_l16, q_l17, q_l18, q_l19, q_l20, q_l21, q_l22, q_l23, q_l24, q_l25, q_l26, q_l27, q_l28, q_l29, q_l30, q_l31, q_l32, q_l33, q_l45, q_l46, q_l48, q_l57, q_l58, q_l59, q_l60, q_l61, q_l62, q_l63, q_l64, q_l96, q_l97, q_l99, q_l122, q_l129, q_l137, q_l255, q_l256, q_l400, q_l680, q_l700, q_l959, q_l999, q_l9999, q_l10000, q_l100000, q_ltT, q_ltF, q_leT, q_leF, q_eqF, q_eqR, q_mlt, q_mle, q_nlm, q_nLm, q_nem, q_men, q_mlm, Nat.add_zero, Nat.sub_zero, q_add0, pk_rem, nI_add, pk_mul, q_sub, q_subm, q_addm, nI_clamp, q_inT, q_inF, q_sr1, q_srn, q_srw, q_srs, q_wIs, q_wIn, q_wI2, q_wJ1, q_wJs, q_wJn, q_wR1, q_wRs, q_wRn, q_wI22, q_wJ22, pk_us, pk_un, pk_uLs, pk_uLn, q_usS, q_usN, q_ups, q_upn, Bool.true_eq_false, Bool.false_eq_true, q_lt, q_o2, q_o3, q_o4, q_o5, q_bi, ↓reduceIte, q_tv0, q_tv1, q_bz, q_oRl, q_oRr, q_oXl, q_oXr, e0]
    simp (maxSteps := 2000000) (disch := first | rfl | exact q_e1 _ _ _ | exact q_sr1 _ _ | omega) only [f_X5_moveTurn, s_turnOf h.1 h8 hi, e1, f1, es, ↓q_m1, q_l0, q_l1, q_l2, q_l3, q_l4, q_l5, q_l6, q_l7, q_l8, q_l9, q_l10, q_l11, q_l12, q_l13, q_l14, q_l15, q_l16, q_l17, q_l18, q_l19, q_l20, q_l21, q_l22, q_l23, q_l24, q_l25, q_l26, q_l27, q_l28, q_l29, q_l30, q_l31, q_l32, q_l33, q_l45, q_l46, q_l48, q_l57, q_l58, q_l59, q_l60, q_l61, q_l62, q_l63, q_l64, q_l96, q_l97, q_l99, q_l122, q_l129, q_l137, q_l255, q_l256, q_l400, q_l680, q_l700, q_l959, q_l999, q_l9999, q_l10000, q_l100000, q_ltT, q_ltF, q_leT, q_leF, q_eqF, q_eqR, q_mlt, q_mle, q_nlm, q_nLm, q_nem, q_men, q_mlm, Nat.add_zero, Nat.sub_zero, q_add0, pk_rem, nI_add, pk_mul, q_sub, q_subm, q_addm, nI_clamp, q_inT, q_inF, q_sr1, q_srn, q_srw, q_srs, q_wIs, q_wIn, q_wI2, q_wJ1, q_wJs, q_wJn, q_wR1, q_wRs, q_wRn, q_wI22, q_wJ22, pk_us, pk_un, pk_uLs, pk_uLn, q_usS, q_usN, q_ups, q_upn, Bool.true_eq_false, Bool.false_eq_true, q_lt, q_o2, q_o3, q_o4, q_o5, q_bi, ↓reduceIte, q_tv0, q_tv1, q_bz, q_oRl, q_oRr, q_oXl, q_oXr]
  · rw [mvA, pk_un (by omega)]
    split
    · rw [shD, if_neg (by omega)]
    · rw [shU, if_neg (by omega)]
end ORD
section FACE
variable {B : Nat} {σ : SM}
theorem P_setPriority (h : Rel B σ) (x0 x1 : Int32) : FS B B σ [2, 1] (f_X12_setPriority x0 x1 σ) (f_X13_setPriority x0 x1 (σ 20)) := by
  obtain ⟨S, T, hm, hf⟩ := h.1
  have w := hf.2.1; have h8 := w.1.1; have t8 := w.1.2; have hS := hm.1.2.2.1; have hT := hm.1.2.2.2
  have s1 := hf.1
  rcases or_assoc.mpr (q_ix x0 (n := S) (by omega)) with hx | ⟨i, hi, rfl⟩
  · refine fs_t h 0 rfl ?_ (nI 0) ?_
    · simp (maxSteps := 2000000) (disch := first | rfl | exact q_e1 _ _ _ | exact q_sr1 _ _ | omega) only [f_X12_setPriority, s_rqF hm hx, Bool.true_eq_false, Bool.false_eq_true, q_lt, q_o2, q_o3, q_o4, q_o5, q_bi, ↓reduceIte, q_tv0, q_tv1, q_bz, q_oRl, q_oRr, q_oXl, q_oXr]
    · simp (maxSteps := 2000000) (disch := first | rfl | exact q_e1 _ _ _ | exact q_sr1 _ _ | omega) only [f_X13_setPriority, r_selF hS h8 hx, ↓q_m1, q_l0, q_l1, q_l2, q_l3, q_l4, q_l5, q_l6, q_l7, q_l8, q_l9, q_l10, q_l11, q_l12, q_l13, q_l14, q_l15, q_l16, q_l17, q_l18, q_l19, q_l20, q_l21, q_l22, q_l23, q_l24, q_l25, q_l26, q_l27, q_l28, q_l29, q_l30, q_l31, q_l32, q_l33, q_l45, q_l46, q_l48, q_l57, q_l58, q_l59, q_l60, q_l61, q_l62, q_l63, q_l64, q_l96, q_l97, q_l99, q_l122, q_l129, q_l137, q_l255, q_l256, q_l400, q_l680, q_l700, q_l959, q_l999, q_l9999, q_l10000, q_l100000, q_ltT, q_ltF, q_leT, q_leF, q_eqF, q_eqR, q_mlt, q_mle, q_nlm, q_nLm, q_nem, q_men, q_mlm, Nat.add_zero, Nat.sub_zero, q_add0, pk_rem, nI_add, pk_mul, q_sub, q_subm, q_addm, nI_clamp, q_inT, q_inF, q_sr1, q_srn, q_srw, q_srs, q_wIs, q_wIn, q_wI2, q_wJ1, q_wJs, q_wJn, q_wR1, q_wRs, q_wRn, q_wI22, q_wJ22, pk_us, pk_un, pk_uLs, pk_uLn, q_usS, q_usN, q_ups, q_upn, Bool.true_eq_false, Bool.false_eq_true, q_lt, q_o2, q_o3, q_o4, q_o5, q_bi, ↓reduceIte, q_tv0, q_tv1, q_bz, q_oRl, q_oRr, q_oXl, q_oXr]
  · rcases or_assoc.mpr (q_ix x1 (n := S) (by omega)) with hx | ⟨p, hp, rfl⟩
    · refine fs_t h 1 rfl ?_ (nI 0) ?_
      · rcases hx with hx | ⟨h0, hx⟩
        · simp (maxSteps := 2000000) (disch := first | rfl | exact q_e1 _ _ _ | exact q_sr1 _ _ | omega) only [f_X12_setPriority, s_rqT hm h8 hi, eq_true hx, ↓q_m1, q_l0, q_l1, q_l2, q_l3, q_l4, q_l5, q_l6, q_l7, q_l8, q_l9, q_l10, q_l11, q_l12, q_l13, q_l14, q_l15, q_l16, q_l17, q_l18, q_l19, q_l20, q_l21, q_l22, q_l23, q_l24, q_l25, q_l26, q_l27, q_l28, q_l29, q_l30, q_l31, q_l32, q_l33, q_l45, q_l46, q_l48, q_l57, q_l58, q_l59, q_l60, q_l61, q_l62, q_l63, q_l64, q_l96, q_l97, q_l99, q_l122, q_l129, q_l137, q_l255, q_l256, q_l400, q_l680, q_l700, q_l959, q_l999, q_l9999, q_l10000, q_l100000, Bool.true_eq_false, Bool.false_eq_true, q_lt, q_o2, q_o3, q_o4, q_o5, q_bi, ↓reduceIte, q_tv0, q_tv1, q_bz, q_oRl, q_oRr, q_oXl, q_oXr]
        · simp (maxSteps := 2000000) (disch := first | rfl | exact q_e1 _ _ _ | exact q_sr1 _ _ | omega) only [f_X12_setPriority, s_rqT hm h8 hi, q_nlt h0, hm.1.1, eq_false (Int32.not_lt.mpr hx), ↓q_m1, q_l0, q_l1, q_l2, q_l3, q_l4, q_l5, q_l6, q_l7, q_l8, q_l9, q_l10, q_l11, q_l12, q_l13, q_l14, q_l15, q_l16, q_l17, q_l18, q_l19, q_l20, q_l21, q_l22, q_l23, q_l24, q_l25, q_l26, q_l27, q_l28, q_l29, q_l30, q_l31, q_l32, q_l33, q_l45, q_l46, q_l48, q_l57, q_l58, q_l59, q_l60, q_l61, q_l62, q_l63, q_l64, q_l96, q_l97, q_l99, q_l122, q_l129, q_l137, q_l255, q_l256, q_l400, q_l680, q_l700, q_l959, q_l999, q_l9999, q_l10000, q_l100000, Bool.true_eq_false, Bool.false_eq_true, q_lt, q_o2, q_o3, q_o4, q_o5, q_bi, ↓reduceIte, q_tv0, q_tv1, q_bz, q_oRl, q_oRr, q_oXl, q_oXr]
      · have hb : f_X13_isBetween x1 (nI 0) (nI (S - 1)) = some (nI 0) := by
          rcases hx with hx | ⟨h0, hx⟩
          · exact r_btF (Or.inl hx)
          · refine r_btF (Or.inr ⟨h0, ?_⟩)
            have := q_sub1 (show S < 2 ^ 31 by omega) h0 hx
            rw [q_sub s1] at this
            exact of_eq_true this
        simp (maxSteps := 2000000) (disch := first | rfl | exact q_e1 _ _ _ | exact q_sr1 _ _ | omega) only [f_X13_setPriority, r_selT hS h8, hS, ↓q_m1, q_l0, q_l1, q_l2, q_l3, q_l4, q_l5, q_l6, q_l7, q_l8, q_l9, q_l10, q_l11, q_l12, q_l13, q_l14, q_l15, q_l16, q_l17, q_l18, q_l19, q_l20, q_l21, q_l22, q_l23, q_l24, q_l25, q_l26, q_l27, q_l28, q_l29, q_l30, q_l31, q_l32, q_l33, q_l45, q_l46, q_l48, q_l57, q_l58, q_l59, q_l60, q_l61, q_l62, q_l63, q_l64, q_l96, q_l97, q_l99, q_l122, q_l129, q_l137, q_l255, q_l256, q_l400, q_l680, q_l700, q_l959, q_l999, q_l9999, q_l10000, q_l100000, q_ltT, q_ltF, q_leT, q_leF, q_eqF, q_eqR, q_mlt, q_mle, q_nlm, q_nLm, q_nem, q_men, q_mlm, Nat.add_zero, Nat.sub_zero, q_add0, pk_rem, nI_add, pk_mul, q_sub, q_subm, q_addm, nI_clamp, q_inT, q_inF, q_sr1, q_srn, q_srw, q_srs, q_wIs, q_wIn, q_wI2, q_wJ1, q_wJs, q_wJn, q_wR1, q_wRs, q_wRn, q_wI22, q_wJ22, pk_us, pk_un, pk_uLs, pk_uLn, q_usS, q_usN, q_ups, q_upn, Bool.true_eq_false, Bool.false_eq_true, q_lt, q_o2, q_o3, q_o4, q_o5, q_bi, ↓reduceIte, q_tv0, q_tv1, q_bz, q_oRl, q_oRr, q_oXl, q_oXr, hb]
    · obtain ⟨τ, ρ', c1, c2, c3, c4, c5, c6, c7⟩ := both_rec h; have d0 : τ 0 = σ 0 := c3 0 (by omega) (by omega); have d20 : τ 20 = σ 20 := c3 20 (by omega) (by omega); have hρ : ρ' = sr ρ' ((σ 20).1 1) := by rw [← c4]; exact (sr_self ρ').symm
      obtain ⟨μ', a', q, f1, f2, f3, f5⟩ := move_mx (ρ := ρ') ⟨hm, hf⟩ hi hp
      refine op_fin (Nat.le_refl _) d20 c7 c6 ⟨S, T, f5⟩ (r := nI q) ?_ ?_
      · simp (maxSteps := 2000000) (disch := first | rfl | exact q_e1 _ _ _ | exact q_sr1 _ _ | omega) only [f_X12_setPriority, s_rqT hm h8 hi, hm.1.1, c1, d0, s_turnOf hm h8 hi, f3, f1, ↓q_m1, q_l0, q_l1, q_l2, q_l3, q_l4, q_l5, q_l6, q_l7, q_l8, q_l9, q_l10, q_l11, q_l12, q_l13, q_l14, q_l15, q_l16, q_l17, q_l18, q_l19, q_l20, q_l21, q_l22, q_l23, q_l24, q_l25, q_l26, q_l27, q_l28, q_l29, q_l30, q_l31, q_l32, q_l33, q_l45, q_l46, q_l48, q_l57, q_l58, q_l59, q_l60, q_l61, q_l62, q_l63, q_l64, q_l96, q_l97, q_l99, q_l122, q_l129, q_l137, q_l255, q_l256, q_l400, q_l680, q_l700, q_l959, q_l999, q_l9999, q_l10000, q_l100000, q_ltT, q_ltF, q_leT, q_leF, q_eqF, q_eqR, q_mlt, q_mle, q_nlm, q_nLm, q_nem, q_men, q_mlm, Nat.add_zero, Nat.sub_zero, q_add0, pk_rem, nI_add, pk_mul, q_sub, q_subm, q_addm, nI_clamp, q_inT, q_inF, q_sr1, q_srn, q_srw, q_srs, q_wIs, q_wIn, q_wI2, q_wJ1, q_wJs, q_wJn, q_wR1, q_wRs, q_wRn, q_wI22, q_wJ22, pk_us, pk_un, pk_uLs, pk_uLn, q_usS, q_usN, q_ups, q_upn, Bool.true_eq_false, Bool.false_eq_true, q_lt, q_o2, q_o3, q_o4, q_o5, q_bi, ↓reduceIte, q_tv0, q_tv1, q_bz, q_oRl, q_oRr, q_oXl, q_oXr]
      · rw [hρ] at c2
        simp (maxSteps := 2000000) (disch := first | rfl | exact q_e1 _ _ _ | exact q_sr1 _ _ | omega) only [f_X13_setPriority, r_selT hS h8, hS, r_btT, c2, f2, ↓q_m1, q_l0, q_l1, q_l2, q_l3, q_l4, q_l5, q_l6, q_l7, q_l8, q_l9, q_l10, q_l11, q_l12, q_l13, q_l14, q_l15, q_l16, q_l17, q_l18, q_l19, q_l20, q_l21, q_l22, q_l23, q_l24, q_l25, q_l26, q_l27, q_l28, q_l29, q_l30, q_l31, q_l32, q_l33, q_l45, q_l46, q_l48, q_l57, q_l58, q_l59, q_l60, q_l61, q_l62, q_l63, q_l64, q_l96, q_l97, q_l99, q_l122, q_l129, q_l137, q_l255, q_l256, q_l400, q_l680, q_l700, q_l959, q_l999, q_l9999, q_l10000, q_l100000, q_ltT, q_ltF, q_leT, q_leF, q_eqF, q_eqR, q_mlt, q_mle, q_nlm, q_nLm, q_nem, q_men, q_mlm, Nat.add_zero, Nat.sub_zero, q_add0, pk_rem, nI_add, pk_mul, q_sub, q_subm, q_addm, nI_clamp, q_inT, q_inF, q_sr1, q_srn, q_srw, q_srs, q_wIs, q_wIn, q_wI2, q_wJ1, q_wJs, q_wJn, q_wR1, q_wRs, q_wRn, q_wI22, q_wJ22, pk_us, pk_un, pk_uLs, pk_uLn, q_usS, q_usN, q_ups, q_upn, Bool.true_eq_false, Bool.false_eq_true, q_lt, q_o2, q_o3, q_o4, q_o5, q_bi, ↓reduceIte, q_tv0, q_tv1, q_bz, q_oRl, q_oRr, q_oXl, q_oXr]
end FACE

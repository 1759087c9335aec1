/-! the priority order: the class's turns and the law's own row -/
section ORD
variable {B S T : Nat} {μ ω : OM} {a : Nat → Int32}
theorem move_c (h : MX B S T μ a) {i p : Nat} (hi : i < S) (hp : p < S) : ∃ μ' q, q < S ∧ f_X5_moveTurn (nI i) (nI p) μ = some μ' ∧ μ.1 5 i = nI q ∧ a (129 + q) = nI i ∧ (∀ j, j < S → j ≠ q → a (129 + j) ≠ nI i) ∧ MX B S T μ' (mvA a q p i) := by
  have h8 := h.2.2.1.1.1
  obtain ⟨q, hq, e1, e2⟩ := h.1.2.2.2.2.2.2.2.1 i hi
  have n10 := h.1.2.2.2.2.2.2.2.1
  have h3 : ∀ j, j < S → j ≠ q → a (129 + j) ≠ nI i := fun j hj hne e => by
    have := ((h.1.turn h8 hi hj).mpr e).symm.trans e1
    have := (nI_eq (by omega) (by omega)).mp this
    omega
  have hf : ∀ j, j < S → (μ.1 5 j).toNatClampNeg < S ∧ μ.1 5 j = nI (μ.1 5 j).toNatClampNeg := fun j hj => by
    obtain ⟨k, hk, g1, g2⟩ := n10 j hj
    rw [g1, nI_clamp (by omega)]; exact ⟨hk, rfl⟩
  obtain ⟨μ1, f1, f2, f3, f4⟩ := s_mv9 (q := q) (p := p) h.1.1.1 h8 hq hp (f := fun j => (μ.1 5 j).toNatClampNeg) hf
  have hA : ∀ k, k < S → ∃ x, x < S ∧ mvA a q p i (129 + k) = (if k = p then nI i else a (129 + x)) ∧ (k ≠ p → x ≠ q ∧ mvT q p x = k) := fun k hk => by
    by_cases c0 : k = p
    · subst c0
      exact ⟨k, hk, by rw [mvA, pk_us, if_pos rfl], fun h => absurd rfl h⟩
    · rw [mvA, pk_un (by omega)]
      by_cases c : p ≤ q
      · rw [if_pos c]
        by_cases c1 : p < k ∧ k ≤ q
        · refine ⟨k - 1, by omega, ?_, fun _ => ⟨by omega, ?_⟩⟩
          · rw [shD, if_pos (by omega), if_neg c0, show 129 + k - 1 = 129 + (k - 1) by omega]
          · rw [mvT, if_neg (by omega), if_pos (by omega)]; omega
        · refine ⟨k, by omega, ?_, fun _ => ⟨by omega, ?_⟩⟩
          · rw [shD, if_neg (by omega), if_neg c0]
          · rw [mvT, if_neg (by omega), if_neg (by omega)]
      · rw [if_neg c]
        by_cases c1 : q ≤ k ∧ k < p
        · refine ⟨k + 1, by omega, ?_, fun _ => ⟨by omega, ?_⟩⟩
          · rw [shU, if_pos (by omega), if_neg c0, show 129 + k + 1 = 129 + (k + 1) by omega]
          · rw [mvT, if_pos (by omega)]; omega
        · refine ⟨k, by omega, ?_, fun _ => ⟨by omega, ?_⟩⟩
          · rw [shU, if_neg (by omega), if_neg c0]
          · rw [mvT, if_neg (by omega), if_neg (by omega)]
  have hB : ∀ x, x < S → x ≠ q → mvT q p x < S ∧ mvT q p x ≠ p := fun x hx hxq => by
    rw [mvT]
    split
    · omega
    · split
      · omega
      · omega
  have n11' : ∀ k, k < S → ∃ j, j < S ∧ (wI μ1 5 i (nI p)).1 5 j = nI k ∧ mvA a q p i (129 + k) = nI j := fun k hk => by
    obtain ⟨x, hx, g1, g2⟩ := hA k hk
    by_cases c : k = p
    · subst c
      exact ⟨i, hi, by simp (maxSteps := 2000000) (disch := first | rfl | exact q_e1 _ _ _ | exact q_sr1 _ _ | omega) only [q_sr1, q_srn, q_srw, q_srs, q_wIs, q_wIn, q_wI2, q_wJ1, q_wJs, q_wJn, q_wR1, q_wRs, q_wRn, q_wI22, q_wJ22, pk_us, pk_un, pk_uLs, pk_uLn, q_usS, q_usN, q_ups, q_upn], by rw [g1, if_pos rfl]⟩
    · obtain ⟨g3, g4⟩ := g2 c
      obtain ⟨j, hj, g5, g6⟩ := h.1.2.2.2.2.2.2.2.2 x hx
      have hji : j ≠ i := fun e => by
        subst e
        exact g3 ((nI_eq (by omega) (by omega)).mp (g5.symm.trans e1))
      refine ⟨j, hj, ?_, by rw [g1, if_neg c]; exact g6⟩
      rw [q_wIs, pk_un hji, f4 j hj, g5, nI_clamp (by omega), g4]
  have n10' : ∀ j, j < S → ∃ k, k < S ∧ (wI μ1 5 i (nI p)).1 5 j = nI k ∧ mvA a q p i (129 + k) = nI j := fun j hj => by
    by_cases c : j = i
    · subst c
      exact ⟨p, hp, by simp (maxSteps := 2000000) (disch := first | rfl | exact q_e1 _ _ _ | exact q_sr1 _ _ | omega) only [q_sr1, q_srn, q_srw, q_srs, q_wIs, q_wIn, q_wI2, q_wJ1, q_wJs, q_wJn, q_wR1, q_wRs, q_wRn, q_wI22, q_wJ22, pk_us, pk_un, pk_uLs, pk_uLn, q_usS, q_usN, q_ups, q_upn], by rw [mvA, pk_us]⟩
    · obtain ⟨x, hx, g5, g6⟩ := n10 j hj
      have hxq : x ≠ q := fun e => by
        subst e
        exact c ((nI_eq (by omega) (by omega)).mp (g6.symm.trans e2))
      obtain ⟨b1, b2⟩ := hB x hx hxq
      have ej : (wI μ1 5 i (nI p)).1 5 j = nI (mvT q p x) := by
        rw [q_wIs, pk_un c, f4 j hj, g5, nI_clamp (by omega)]
      refine ⟨mvT q p x, b1, ej, ?_⟩
      obtain ⟨x', hx', g9, g10⟩ := hA (mvT q p x) b1
      obtain ⟨g11, g12⟩ := g10 b2
      rw [g9, if_neg b2]
      have : x' = x := by
        have hh := g12
        simp only [mvT] at hh
        split at hh <;> split at hh <;> (try split at hh) <;> (try split at hh) <;> omega
      rw [this]; exact g6
  refine ⟨wI μ1 5 i (nI p), q, hq, ?_, e1, e2, h3, h.ord (fun k hk => (q_wIn hk).trans (f2 k hk)) f3 (fun x hx => ?_) n10' n11'⟩
  · have es : f_X5_hasSeller (nI i) μ1 = some (nI 1) := by
      have e0 : μ1.1 0 0 = nI S := (congrFun (f2 0 (by omega)) 0).trans h.1.1.1
      simp (maxSteps := 2000000) (disch := first | rfl | exact q_e1 _ _ _ | exact q_sr1 _ _ | omega) only [f_X5_hasSeller, ↓q_m1, q_l0, q_l1, q_l2, q_l3, q_l4, q_l5, q_l6, q_l7, q_l8, q_l9, q_l10, q_l11, q_l12, q_l13, q_l14, q_l15, q_l16, q_l17, q_l18, q_l19, q_l20, q_l21, q_l22, q_l23, q_l24, q_l25, q_l26, q_l27, q_l28, q_l29, q_l30, q_l31, q_l32, q_l33, q_l45, q_l46, q_l48, q_l57, q_l58, q_l59, q_l60, q_l61, q_l62, q_l63, q_l64, q_l96, q_l97, q_l99, q_l122, q_l129, q_l137, q_l255, q_l256, q_l400, q_l680, q_l700, q_l959, q_l999, q_l9999, q_l10000, q_l100000, q_l36, q_l50, q_l100, q_l112, q_l200, q_ltT, q_ltF, q_leT, q_leF, q_eqF, q_eqR, q_mlt, q_mle, q_nlm, q_nLm, q_nem, q_men, q_mlm, Nat.add_zero, Nat.sub_zero, q_add0, pk_rem, nI_add, pk_mul, q_sub, q_subm, q_addm, nI_clamp, q_inT, q_inF, q_sr1, q_srn, q_srw, q_srs, q_wIs, q_wIn, q_wI2, q_wJ1, q_wJs, q_wJn, q_wR1, q_wRs, q_wRn, q_wI22, q_wJ22, pk_us, pk_un, pk_uLs, pk_uLn, q_usS, q_usN, q_ups, q_upn, Bool.true_eq_false, Bool.false_eq_true, q_lt, q_o2, q_o3, q_o4, q_o5, q_bi, ↓reduceIte, q_tv0, q_tv1, q_bz, q_oRl, q_oRr, q_oXl, q_oXr, e0]
    simp (maxSteps := 2000000) (disch := first | rfl | exact q_e1 _ _ _ | exact q_sr1 _ _ | omega) only [f_X5_moveTurn, s_turnOf h.1 h8 hi, e1, f1, es, ↓q_m1, q_l0, q_l1, q_l2, q_l3, q_l4, q_l5, q_l6, q_l7, q_l8, q_l9, q_l10, q_l11, q_l12, q_l13, q_l14, q_l15, q_l16, q_l17, q_l18, q_l19, q_l20, q_l21, q_l22, q_l23, q_l24, q_l25, q_l26, q_l27, q_l28, q_l29, q_l30, q_l31, q_l32, q_l33, q_l45, q_l46, q_l48, q_l57, q_l58, q_l59, q_l60, q_l61, q_l62, q_l63, q_l64, q_l96, q_l97, q_l99, q_l122, q_l129, q_l137, q_l255, q_l256, q_l400, q_l680, q_l700, q_l959, q_l999, q_l9999, q_l10000, q_l100000, q_l36, q_l50, q_l100, q_l112, q_l200, q_ltT, q_ltF, q_leT, q_leF, q_eqF, q_eqR, q_mlt, q_mle, q_nlm, q_nLm, q_nem, q_men, q_mlm, Nat.add_zero, Nat.sub_zero, q_add0, pk_rem, nI_add, pk_mul, q_sub, q_subm, q_addm, nI_clamp, q_inT, q_inF, q_sr1, q_srn, q_srw, q_srs, q_wIs, q_wIn, q_wI2, q_wJ1, q_wJs, q_wJn, q_wR1, q_wRs, q_wRn, q_wI22, q_wJ22, pk_us, pk_un, pk_uLs, pk_uLn, q_usS, q_usN, q_ups, q_upn, Bool.true_eq_false, Bool.false_eq_true, q_lt, q_o2, q_o3, q_o4, q_o5, q_bi, ↓reduceIte, q_tv0, q_tv1, q_bz, q_oRl, q_oRr, q_oXl, q_oXr]
  · rw [mvA, pk_un (by omega)]
    split
    · rw [shD, if_neg (by omega)]
    · rw [shU, if_neg (by omega)]
/-- the first place of the row with a value -/
theorem o_find {q i : Nat} {F : Nat → Int32 → Option Int32} (hF : ∀ n k, k < 8 → F (n + 1) (nI k) = if ω.1 7 k = nI i then some (nI k) else F n (nI (k + 1))) (hq : q < 8) (e : ω.1 7 q = nI i) (hne : ∀ j, j < q → ω.1 7 j ≠ nI i) : F FU (nI 0) = some (nI q) := by
  have key : ∀ r k m, k + r = q → r < m → F m (nI k) = some (nI q) := by
    intro r
    induction r with
    | zero =>
      intro k m hk hm
      obtain ⟨m, rfl⟩ : ∃ q, m = q + 1 := ⟨m - 1, by omega⟩
      obtain rfl : k = q := by omega
      rw [hF m k hq, if_pos e]
    | succ r ih =>
      intro k m hk hm
      obtain ⟨m, rfl⟩ : ∃ q, m = q + 1 := ⟨m - 1, by omega⟩
      rw [hF m k (by omega), if_neg (hne k (by omega))]
      exact ih (k + 1) m (by omega) (by omega)
  exact key q 0 FU (by omega) (fu_lt (by omega))
theorem OW.order (o : OW S T ω a) (w : WL S T a) {ω' : OM} {a' : Nat → Int32} (h1 : ∀ k, k ≠ 7 → ω'.1 k = ω.1 k) (h2 : ∀ x, x < 129 → a' x = a x) (h3 : ∀ k, k < S → ω'.1 7 k = a' (129 + k)) : OW S T ω' a' := by
  obtain ⟨⟨o1, o2, o3⟩, o4, o5, o6, o7⟩ := o
  have h8 := w.1.1
  have t8 := w.1.2
  have el : ∀ j, j < S → ln a' j = ln a j := fun j hj => ln_eq (h2 _ (by omega))
  refine ⟨⟨?_, ?_, ?_⟩, fun j hj => ?_, fun j k hj hk => ?_, fun t ht => ?_, h3⟩
  · rw [h1 0 (by omega)]; exact o1
  · rw [h1 0 (by omega)]; exact o2
  · rw [h1 0 (by omega), h2 2 (by omega)]; exact o3
  · rw [h1 3 (by omega), h1 4 (by omega), h1 5 (by omega), h1 6 (by omega), h2 _ (by omega), h2 _ (by omega), h2 _ (by omega), h2 _ (by omega)]; exact o4 j hj
  · rw [el j hj] at hk
    have := (w.2.1 j hj).1
    rw [h1 _ (by omega), h2 _ (by omega)]; exact o5 j k hj hk
  · rw [h1 2 (by omega), h2 _ (by omega)]; exact o6 t ht
theorem o_move (o : OW S T ω a) (w : WL S T a) {i p q : Nat} (hi : i < S) (hp : p < S) (hq : q < S) (e2 : a (129 + q) = nI i) (h3 : ∀ j, j < S → j ≠ q → a (129 + j) ≠ nI i) : ∃ ω', f_X13_first (nI i) (nI p) ω = some ω' ∧ OW S T ω' (mvA a q p i) := by
  have h8 := w.1.1
  have o7 := o.2.2.2.2
  have f2 : f_X13_first_2 (nI i) ω FU (nI 0) = some (nI q) := o_find (F := f_X13_first_2 (nI i) ω) (fun n k hk => by simp (maxSteps := 2000000) (disch := first | rfl | exact q_e1 _ _ _ | exact q_sr1 _ _ | omega) only [f_X13_first_2, ↓q_m1, q_l0, q_l1, q_l2, q_l3, q_l4, q_l5, q_l6, q_l7, q_l8, q_l9, q_l10, q_l11, q_l12, q_l13, q_l14, q_l15, q_l16, q_l17, q_l18, q_l19, q_l20, q_l21, q_l22, q_l23, q_l24, q_l25, q_l26, q_l27, q_l28, q_l29, q_l30, q_l31, q_l32, q_l33, q_l45, q_l46, q_l48, q_l57, q_l58, q_l59, q_l60, q_l61, q_l62, q_l63, q_l64, q_l96, q_l97, q_l99, q_l122, q_l129, q_l137, q_l255, q_l256, q_l400, q_l680, q_l700, q_l959, q_l999, q_l9999, q_l10000, q_l100000, q_l36, q_l50, q_l100, q_l112, q_l200, q_ltT, q_ltF, q_leT, q_leF, q_eqF, q_eqR, q_mlt, q_mle, q_nlm, q_nLm, q_nem, q_men, q_mlm, Nat.add_zero, Nat.sub_zero, q_add0, pk_rem, nI_add, pk_mul, q_sub, q_subm, q_addm, nI_clamp, q_inT, q_inF, q_sr1, q_srn, q_srw, q_srs, q_wIs, q_wIn, q_wI2, q_wJ1, q_wJs, q_wJn, q_wR1, q_wRs, q_wRn, q_wI22, q_wJ22, pk_us, pk_un, pk_uLs, pk_uLn, q_usS, q_usN, q_ups, q_upn, Bool.true_eq_false, Bool.false_eq_true, q_lt, q_o2, q_o3, q_o4, q_o5, q_bi, ↓reduceIte, q_tv0, q_tv1, q_bz, q_oRl, q_oRr, q_oXl, q_oXr]) (show q < 8 by omega) ((o7 q hq).trans e2) (fun j hj => by rw [o7 j (by omega)]; exact h3 j (by omega) (by omega))
  -- upwards
  have up : ∀ r k m (s : OM), k + r = p → r < m → q ≤ k → (∀ x, x ≠ 7 → s.1 x = ω.1 x) → (∀ j, j < S → (q ≤ j ∧ j < k → s.1 7 j = a (129 + (j + 1))) ∧ (j < q ∨ k ≤ j → s.1 7 j = a (129 + j))) → ∃ s', f_X13_first_18 (nI p) m (nI k) s = some (nI p, s') ∧ (∀ x, x ≠ 7 → s'.1 x = ω.1 x) ∧ ∀ j, j < S → (q ≤ j ∧ j < p → s'.1 7 j = a (129 + (j + 1))) ∧ (j < q ∨ p ≤ j → s'.1 7 j = a (129 + j)) := by
    intro r
    induction r with
    | zero =>
      intro k m s hk hm hqk g1 g2
      obtain ⟨m, rfl⟩ : ∃ q, m = q + 1 := ⟨m - 1, by omega⟩
      obtain rfl : k = p := by omega
      exact ⟨s, by simp (maxSteps := 2000000) (disch := first | rfl | exact q_e1 _ _ _ | exact q_sr1 _ _ | omega) only [f_X13_first_18, ↓q_m1, q_l0, q_l1, q_l2, q_l3, q_l4, q_l5, q_l6, q_l7, q_l8, q_l9, q_l10, q_l11, q_l12, q_l13, q_l14, q_l15, q_l16, q_l17, q_l18, q_l19, q_l20, q_l21, q_l22, q_l23, q_l24, q_l25, q_l26, q_l27, q_l28, q_l29, q_l30, q_l31, q_l32, q_l33, q_l45, q_l46, q_l48, q_l57, q_l58, q_l59, q_l60, q_l61, q_l62, q_l63, q_l64, q_l96, q_l97, q_l99, q_l122, q_l129, q_l137, q_l255, q_l256, q_l400, q_l680, q_l700, q_l959, q_l999, q_l9999, q_l10000, q_l100000, q_l36, q_l50, q_l100, q_l112, q_l200, q_ltT, q_ltF, q_leT, q_leF, q_eqF, q_eqR, q_mlt, q_mle, q_nlm, q_nLm, q_nem, q_men, q_mlm, Nat.add_zero, Nat.sub_zero, q_add0, pk_rem, nI_add, pk_mul, q_sub, q_subm, q_addm, nI_clamp, q_inT, q_inF, q_sr1, q_srn, q_srw, q_srs, q_wIs, q_wIn, q_wI2, q_wJ1, q_wJs, q_wJn, q_wR1, q_wRs, q_wRn, q_wI22, q_wJ22, pk_us, pk_un, pk_uLs, pk_uLn, q_usS, q_usN, q_ups, q_upn, Bool.true_eq_false, Bool.false_eq_true, q_lt, q_o2, q_o3, q_o4, q_o5, q_bi, ↓reduceIte, q_tv0, q_tv1, q_bz, q_oRl, q_oRr, q_oXl, q_oXr], g1, g2⟩
    | succ r ih =>
      intro k m s hk hm hqk g1 g2
      obtain ⟨m, rfl⟩ : ∃ q, m = q + 1 := ⟨m - 1, by omega⟩
      have q1 := (g2 (k + 1) (by omega)).2 (by omega)
      obtain ⟨s', e1, e3, e4⟩ := ih (k + 1) m (wI s 7 k (a (129 + (k + 1)))) (by omega) (by omega) (by omega) (fun x hx => (q_wIn hx).trans (g1 x hx)) (fun j hj => by
        refine ⟨fun hh => ?_, fun hh => ?_⟩
        · by_cases e : j = k
          · subst e; rw [q_wIs, pk_us]
          · rw [q_wIs, pk_un e]; exact (g2 j hj).1 (by omega)
        · rw [q_wIs, pk_un (by omega)]; exact (g2 j hj).2 (by omega))
      refine ⟨s', ?_, e3, e4⟩
      simp (maxSteps := 2000000) (disch := first | rfl | exact q_e1 _ _ _ | exact q_sr1 _ _ | omega) only [f_X13_first_18, ↓q_m1, q_l0, q_l1, q_l2, q_l3, q_l4, q_l5, q_l6, q_l7, q_l8, q_l9, q_l10, q_l11, q_l12, q_l13, q_l14, q_l15, q_l16, q_l17, q_l18, q_l19, q_l20, q_l21, q_l22, q_l23, q_l24, q_l25, q_l26, q_l27, q_l28, q_l29, q_l30, q_l31, q_l32, q_l33, q_l45, q_l46, q_l48, q_l57, q_l58, q_l59, q_l60, q_l61, q_l62, q_l63, q_l64, q_l96, q_l97, q_l99, q_l122, q_l129, q_l137, q_l255, q_l256, q_l400, q_l680, q_l700, q_l959, q_l999, q_l9999, q_l10000, q_l100000, q_l36, q_l50, q_l100, q_l112, q_l200, q_ltT, q_ltF, q_leT, q_leF, q_eqF, q_eqR, q_mlt, q_mle, q_nlm, q_nLm, q_nem, q_men, q_mlm, Nat.add_zero, Nat.sub_zero, q_add0, pk_rem, nI_add, pk_mul, q_sub, q_subm, q_addm, nI_clamp, q_inT, q_inF, q_sr1, q_srn, q_srw, q_srs, q_wIs, q_wIn, q_wI2, q_wJ1, q_wJs, q_wJn, q_wR1, q_wRs, q_wRn, q_wI22, q_wJ22, pk_us, pk_un, pk_uLs, pk_uLn, q_usS, q_usN, q_ups, q_upn, Bool.true_eq_false, Bool.false_eq_true, q_lt, q_o2, q_o3, q_o4, q_o5, q_bi, ↓reduceIte, q_tv0, q_tv1, q_bz, q_oRl, q_oRr, q_oXl, q_oXr, q1]
      exact e1
  -- downwards
  have dn : ∀ r k m (s : OM), p + r = k → r < m → k ≤ q ∨ r = 0 → k < S → (∀ x, x ≠ 7 → s.1 x = ω.1 x) → ∃ s', f_X13_first_43 (nI i) (nI p) m (nI k) s = some s' ∧ (∀ x, x ≠ 7 → s'.1 x = ω.1 x) ∧ s'.1 7 p = nI i ∧ ∀ j, j < S → j ≠ p → s'.1 7 j = if p < j ∧ j ≤ k then s.1 7 (j - 1) else s.1 7 j := by
    intro r
    induction r with
    | zero =>
      intro k m s hk hm hkq hkS g1
      obtain ⟨m, rfl⟩ : ∃ q, m = q + 1 := ⟨m - 1, by omega⟩
      obtain rfl : k = p := by omega
      refine ⟨wI s 7 k (nI i), by simp (maxSteps := 2000000) (disch := first | rfl | exact q_e1 _ _ _ | exact q_sr1 _ _ | omega) only [f_X13_first_43, ↓q_m1, q_l0, q_l1, q_l2, q_l3, q_l4, q_l5, q_l6, q_l7, q_l8, q_l9, q_l10, q_l11, q_l12, q_l13, q_l14, q_l15, q_l16, q_l17, q_l18, q_l19, q_l20, q_l21, q_l22, q_l23, q_l24, q_l25, q_l26, q_l27, q_l28, q_l29, q_l30, q_l31, q_l32, q_l33, q_l45, q_l46, q_l48, q_l57, q_l58, q_l59, q_l60, q_l61, q_l62, q_l63, q_l64, q_l96, q_l97, q_l99, q_l122, q_l129, q_l137, q_l255, q_l256, q_l400, q_l680, q_l700, q_l959, q_l999, q_l9999, q_l10000, q_l100000, q_l36, q_l50, q_l100, q_l112, q_l200, q_ltT, q_ltF, q_leT, q_leF, q_eqF, q_eqR, q_mlt, q_mle, q_nlm, q_nLm, q_nem, q_men, q_mlm, Nat.add_zero, Nat.sub_zero, q_add0, pk_rem, nI_add, pk_mul, q_sub, q_subm, q_addm, nI_clamp, q_inT, q_inF, q_sr1, q_srn, q_srw, q_srs, q_wIs, q_wIn, q_wI2, q_wJ1, q_wJs, q_wJn, q_wR1, q_wRs, q_wRn, q_wI22, q_wJ22, pk_us, pk_un, pk_uLs, pk_uLn, q_usS, q_usN, q_ups, q_upn, Bool.true_eq_false, Bool.false_eq_true, q_lt, q_o2, q_o3, q_o4, q_o5, q_bi, ↓reduceIte, q_tv0, q_tv1, q_bz, q_oRl, q_oRr, q_oXl, q_oXr], fun x hx => (q_wIn hx).trans (g1 x hx), by simp (maxSteps := 2000000) (disch := first | rfl | exact q_e1 _ _ _ | exact q_sr1 _ _ | omega) only [q_sr1, q_srn, q_srw, q_srs, q_wIs, q_wIn, q_wI2, q_wJ1, q_wJs, q_wJn, q_wR1, q_wRs, q_wRn, q_wI22, q_wJ22, pk_us, pk_un, pk_uLs, pk_uLn, q_usS, q_usN, q_ups, q_upn], fun j hj hjk => ?_⟩
      rw [q_wIs, pk_un hjk, if_neg (by omega)]
    | succ r ih =>
      intro k m s hk hm hkq hkS g1
      obtain ⟨m, rfl⟩ : ∃ q, m = q + 1 := ⟨m - 1, by omega⟩
      obtain ⟨s', e1, e3, e4, e5⟩ := ih (k - 1) m (wI s 7 k (s.1 7 (k - 1))) (by omega) (by omega) (by omega) (by omega) (fun x hx => (q_wIn hx).trans (g1 x hx))
      refine ⟨s', ?_, e3, e4, fun j hj hjp => ?_⟩
      · simp (maxSteps := 2000000) (disch := first | rfl | exact q_e1 _ _ _ | exact q_sr1 _ _ | omega) only [f_X13_first_43, ↓q_m1, q_l0, q_l1, q_l2, q_l3, q_l4, q_l5, q_l6, q_l7, q_l8, q_l9, q_l10, q_l11, q_l12, q_l13, q_l14, q_l15, q_l16, q_l17, q_l18, q_l19, q_l20, q_l21, q_l22, q_l23, q_l24, q_l25, q_l26, q_l27, q_l28, q_l29, q_l30, q_l31, q_l32, q_l33, q_l45, q_l46, q_l48, q_l57, q_l58, q_l59, q_l60, q_l61, q_l62, q_l63, q_l64, q_l96, q_l97, q_l99, q_l122, q_l129, q_l137, q_l255, q_l256, q_l400, q_l680, q_l700, q_l959, q_l999, q_l9999, q_l10000, q_l100000, q_l36, q_l50, q_l100, q_l112, q_l200, q_ltT, q_ltF, q_leT, q_leF, q_eqF, q_eqR, q_mlt, q_mle, q_nlm, q_nLm, q_nem, q_men, q_mlm, Nat.add_zero, Nat.sub_zero, q_add0, pk_rem, nI_add, pk_mul, q_sub, q_subm, q_addm, nI_clamp, q_inT, q_inF, q_sr1, q_srn, q_srw, q_srs, q_wIs, q_wIn, q_wI2, q_wJ1, q_wJs, q_wJn, q_wR1, q_wRs, q_wRn, q_wI22, q_wJ22, pk_us, pk_un, pk_uLs, pk_uLn, q_usS, q_usN, q_ups, q_upn, Bool.true_eq_false, Bool.false_eq_true, q_lt, q_o2, q_o3, q_o4, q_o5, q_bi, ↓reduceIte, q_tv0, q_tv1, q_bz, q_oRl, q_oRr, q_oXl, q_oXr]
        exact e1
      · rw [e5 j hj hjp]
        by_cases c : p < j ∧ j ≤ k - 1
        · rw [if_pos c, if_pos (by omega), q_wIs, pk_un (by omega)]
        · rw [if_neg c]
          by_cases c2 : j = k
          · subst c2; rw [if_pos (by omega), q_wIs, pk_us]
          · rw [if_neg (by omega), q_wIs, pk_un c2]
  by_cases c : p ≤ q
  · have f18 : f_X13_first_18 (nI p) FU (nI q) ω = some (nI q, ω) := by
      show f_X13_first_18 (nI p) (1999 + 1) (nI q) ω = _
      simp (maxSteps := 2000000) (disch := first | rfl | exact q_e1 _ _ _ | exact q_sr1 _ _ | omega) only [f_X13_first_18, ↓q_m1, q_l0, q_l1, q_l2, q_l3, q_l4, q_l5, q_l6, q_l7, q_l8, q_l9, q_l10, q_l11, q_l12, q_l13, q_l14, q_l15, q_l16, q_l17, q_l18, q_l19, q_l20, q_l21, q_l22, q_l23, q_l24, q_l25, q_l26, q_l27, q_l28, q_l29, q_l30, q_l31, q_l32, q_l33, q_l45, q_l46, q_l48, q_l57, q_l58, q_l59, q_l60, q_l61, q_l62, q_l63, q_l64, q_l96, q_l97, q_l99, q_l122, q_l129, q_l137, q_l255, q_l256, q_l400, q_l680, q_l700, q_l959, q_l999, q_l9999, q_l10000, q_l100000, q_l36, q_l50, q_l100, q_l112, q_l200, q_ltT, q_ltF, q_leT, q_leF, q_eqF, q_eqR, q_mlt, q_mle, q_nlm, q_nLm, q_nem, q_men, q_mlm, Nat.add_zero, Nat.sub_zero, q_add0, pk_rem, nI_add, pk_mul, q_sub, q_subm, q_addm, nI_clamp, q_inT, q_inF, q_sr1, q_srn, q_srw, q_srs, q_wIs, q_wIn, q_wI2, q_wJ1, q_wJs, q_wJn, q_wR1, q_wRs, q_wRn, q_wI22, q_wJ22, pk_us, pk_un, pk_uLs, pk_uLn, q_usS, q_usN, q_ups, q_upn, Bool.true_eq_false, Bool.false_eq_true, q_lt, q_o2, q_o3, q_o4, q_o5, q_bi, ↓reduceIte, q_tv0, q_tv1, q_bz, q_oRl, q_oRr, q_oXl, q_oXr]
    obtain ⟨s', e1, e3, e4, e5⟩ := dn (q - p) q FU ω (by omega) (fu_lt (by omega)) (Or.inl (Nat.le_refl _)) hq (fun _ _ => rfl)
    refine ⟨s', by simp (maxSteps := 2000000) (disch := first | rfl | exact q_e1 _ _ _ | exact q_sr1 _ _ | omega) only [f_X13_first, f2, f18, e1, ↓q_m1, q_l0, q_l1, q_l2, q_l3, q_l4, q_l5, q_l6, q_l7, q_l8, q_l9, q_l10, q_l11, q_l12, q_l13, q_l14, q_l15, q_l16, q_l17, q_l18, q_l19, q_l20, q_l21, q_l22, q_l23, q_l24, q_l25, q_l26, q_l27, q_l28, q_l29, q_l30, q_l31, q_l32, q_l33, q_l45, q_l46, q_l48, q_l57, q_l58, q_l59, q_l60, q_l61, q_l62, q_l63, q_l64, q_l96, q_l97, q_l99, q_l122, q_l129, q_l137, q_l255, q_l256, q_l400, q_l680, q_l700, q_l959, q_l999, q_l9999, q_l10000, q_l100000, q_l36, q_l50, q_l100, q_l112, q_l200, q_ltT, q_ltF, q_leT, q_leF, q_eqF, q_eqR, q_mlt, q_mle, q_nlm, q_nLm, q_nem, q_men, q_mlm, Nat.add_zero, Nat.sub_zero, q_add0, pk_rem, nI_add, pk_mul, q_sub, q_subm, q_addm, nI_clamp, q_inT, q_inF, q_sr1, q_srn, q_srw, q_srs, q_wIs, q_wIn, q_wI2, q_wJ1, q_wJs, q_wJn, q_wR1, q_wRs, q_wRn, q_wI22, q_wJ22, pk_us, pk_un, pk_uLs, pk_uLn, q_usS, q_usN, q_ups, q_upn, Bool.true_eq_false, Bool.false_eq_true, q_lt, q_o2, q_o3, q_o4, q_o5, q_bi, ↓reduceIte, q_tv0, q_tv1, q_bz, q_oRl, q_oRr, q_oXl, q_oXr], o.order w e3 (fun x hx => ?_) (fun k hk => ?_)⟩
    · rw [mvA, pk_un (by omega), if_pos c, shD, if_neg (by omega)]
    · by_cases ek : k = p
      · subst ek; rw [e4, mvA, pk_us]
      · rw [e5 k hk ek, mvA, pk_un (by omega), if_pos c, shD]
        by_cases c2 : p < k ∧ k ≤ q
        · rw [if_pos c2, if_pos (by omega), o7 _ (by omega), show 129 + k - 1 = 129 + (k - 1) by omega]
        · rw [if_neg c2, if_neg (by omega), o7 k hk]
  · obtain ⟨s, f18, g1, g2⟩ := up (p - q) q FU ω (by omega) (fu_lt (by omega)) (Nat.le_refl _) (fun _ _ => rfl) (fun j hj => ⟨fun hh => by omega, fun _ => o7 j hj⟩)
    obtain ⟨s', e1, e3, e4, e5⟩ := dn 0 p FU s (by omega) (fu_lt (by omega)) (Or.inr rfl) hp g1
    refine ⟨s', by simp (maxSteps := 2000000) (disch := first | rfl | exact q_e1 _ _ _ | exact q_sr1 _ _ | omega) only [f_X13_first, f2, f18, e1, ↓q_m1, q_l0, q_l1, q_l2, q_l3, q_l4, q_l5, q_l6, q_l7, q_l8, q_l9, q_l10, q_l11, q_l12, q_l13, q_l14, q_l15, q_l16, q_l17, q_l18, q_l19, q_l20, q_l21, q_l22, q_l23, q_l24, q_l25, q_l26, q_l27, q_l28, q_l29, q_l30, q_l31, q_l32, q_l33, q_l45, q_l46, q_l48, q_l57, q_l58, q_l59, q_l60, q_l61, q_l62, q_l63, q_l64, q_l96, q_l97, q_l99, q_l122, q_l129, q_l137, q_l255, q_l256, q_l400, q_l680, q_l700, q_l959, q_l999, q_l9999, q_l10000, q_l100000, q_l36, q_l50, q_l100, q_l112, q_l200, q_ltT, q_ltF, q_leT, q_leF, q_eqF, q_eqR, q_mlt, q_mle, q_nlm, q_nLm, q_nem, q_men, q_mlm, Nat.add_zero, Nat.sub_zero, q_add0, pk_rem, nI_add, pk_mul, q_sub, q_subm, q_addm, nI_clamp, q_inT, q_inF, q_sr1, q_srn, q_srw, q_srs, q_wIs, q_wIn, q_wI2, q_wJ1, q_wJs, q_wJn, q_wR1, q_wRs, q_wRn, q_wI22, q_wJ22, pk_us, pk_un, pk_uLs, pk_uLn, q_usS, q_usN, q_ups, q_upn, Bool.true_eq_false, Bool.false_eq_true, q_lt, q_o2, q_o3, q_o4, q_o5, q_bi, ↓reduceIte, q_tv0, q_tv1, q_bz, q_oRl, q_oRr, q_oXl, q_oXr], o.order w e3 (fun x hx => ?_) (fun k hk => ?_)⟩
    · rw [mvA, pk_un (by omega), if_neg c, shU, if_neg (by omega)]
    · by_cases ek : k = p
      · subst ek; rw [e4, mvA, pk_us]
      · rw [e5 k hk ek, if_neg (by omega), mvA, pk_un (by omega), if_neg c, shU]
        by_cases c2 : q ≤ k ∧ k < p
        · rw [if_pos (by omega), (g2 k hk).1 c2, show 129 + k + 1 = 129 + (k + 1) by omega]
        · rw [if_neg (by omega), (g2 k hk).2 (by omega)]
end ORD

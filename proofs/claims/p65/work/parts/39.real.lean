/-! what is given, and what reallocating leaves -/
def GA (S T : Nat) (a : Nat → Int32) (rq : Nat → Int32) : Prop :=
  (∀ i, i < S → rq i = m1 ∨ ∃ t, t < T ∧ rq i = nI t) ∧ (∀ i j t, i < S → j < S → t < T → rq i = nI t → rq j = nI t → i = j) ∧
  ∃ (fin : Nat → Bool) (tm : Nat → Nat), ∀ i, i < S → GO S T a fin rq tm i
section GAS
variable {B S T : Nat} {μ α ω : OM} {σ : SM} {a : Nat → Int32} {fin tk : Nat → Bool} {rq : Nat → Int32} {tm : Nat → Nat} {τ : Nat}
theorem Sm.ga (h : Sm S T a [] [] fin tk rq tm τ) : GA S T a rq := by
  obtain ⟨h1, h2, h3, h4, h5, h6, h7, h8, h9, h10⟩ := h
  have hf : ∀ i, i < S → fin i = true := fun i hi => by
    cases e : fin i with
    | true => rfl
    | false =>
      have := (h2 i).mpr ⟨hi, e⟩
      simp at this
  exact ⟨h4, fun i j t hi hj ht e1 e2 => h7 i j t hi hj (hf i hi) (hf j hj) ht e1 e2, fin, tm, fun i hi => h10 i hi (hf i hi)⟩
theorem mech_any (h : MR S T μ a) (w : WL S T a) (d : WD S a) (o : OW S T ω a) : ∃ (ω' : OM) (rq : Nat → Int32), f_X13_mechanism ω = some ω' ∧ KW ω ω' ∧ (∀ i, i < S → ω'.1 10 i = rq i) ∧ GA S T a rq ∧ ∀ α, ∃ α', f_X1_decide μ α = some α' ∧ ∀ i, i < S → α'.1 1 i = rq i := by
  have key : ∀ α, ∃ (α' ω' : OM) (rq : Nat → Int32), f_X1_decide μ α = some α' ∧ f_X13_mechanism ω = some ω' ∧ KW ω ω' ∧ GA S T a rq ∧ (∀ i, i < S → ω'.1 10 i = rq i) ∧ ∀ i, i < S → α'.1 1 i = rq i := fun α => by
    obtain ⟨α', ω', fin, tk, rq, tm, τ, g1, g2, g3, g4, g5⟩ := mech_two (α := α) h w d o
    have hf : ∀ i, i < S → fin i = true := fun i hi => by
      cases e : fin i with
      | true => rfl
      | false =>
        have := (g4.2.1 i).mpr ⟨hi, e⟩
        simp at this
    exact ⟨α', ω', rq, g1, g2, g5, g4.ga, fun i hi => g3.2.2.2.2.2.2.1 i hi (hf i hi), g3.2.2.2.1⟩
  obtain ⟨_, ω', rq, _, g2, g3, g4, g5, _⟩ := key μ
  refine ⟨ω', rq, g2, g3, g5, g4, fun α => ?_⟩
  obtain ⟨α', ω2, rq2, k1, k2, _, _, k5, k6⟩ := key α
  obtain rfl : ω' = ω2 := Option.some.inj (g2.symm.trans k2)
  exact ⟨α', k1, fun i hi => (k6 i hi).trans ((k5 i hi).symm.trans (g5 i hi))⟩
theorem ir_ok (w : WL S T a) (d : WD S a) (ga : GA S T a rq) {i : Nat} (hi : i < S) (h2 : rk a i (a (25 + 13 * i + 3)) ≠ m1) : bet a i (a (25 + 13 * i + 3)) (rq i) = false := by
  obtain ⟨g1, g2, fin, tm, g3⟩ := ga
  obtain ⟨_, g5⟩ := g3 i hi
  rcases fd_cases (ln a i) (fun k => decide (a (25 + 13 * i + (5 + k)) = a (25 + 13 * i + 3))) with ⟨k, k1, k2, _, _⟩ | ⟨_, q⟩
  · have k2' : lst a i k = a (25 + 13 * i + 3) := of_decide_eq_true k2
    obtain ⟨p, hp, ep⟩ := g5 k k1 k2'
    have t8 := w.2.1 i hi
    rw [bet, ep, ← k2']
    unfold lst
    rw [bad_lst w d hi k1, bad_lst w d hi (show p < ln a i by omega)]
    exact decide_eq_false (nI_nlt hp (by omega))
  · exact absurd q h2
theorem law68_ok (h : MX B S T (σ 0) a) (o : OW S T (σ 20) a) (hr : ∀ i, i < S → (σ 20).1 10 i = rq i) (ga : GA S T a rq) (hd : ∀ α, ∃ α', f_X1_decide (σ 0) α = some α' ∧ ∀ i, i < S → α'.1 1 i = rq i) : ∃ σ', f_L_law_68 FU (nI 0) σ = some σ' ∧ ∀ o, o ≠ 17 → σ' o = σ o := by
  have w := h.2.2.1
  have d := h.2.2.2.1
  have h8 := w.1.1
  have t8 := w.1.2
  obtain ⟨b, g1, g2⟩ := lp_inv (F := fun n x s => f_L_law_68 n x s) (fun (_ : Nat) (s : SM) => ∀ o, o ≠ 17 → s o = σ o) (fun s => ∀ o, o ≠ 17 → s o = σ o) S (fun n i s hi hh => by
    obtain ⟨α', a1, a2⟩ := hd (s 17)
    have e0 := hh 0 (by omega)
    have e20 := hh 20 (by omega)
    have hm : MR S T (s 0) a := by rw [e0]; exact h.1
    have hal : f_X12_allocatedStall (nI i) s = some (rq i, us s 17 α') := by
      have a1' : f_X1_decide (s 0) (s 17) = some α' := by rw [e0]; exact a1
      simp (maxSteps := 2000000) (disch := first | rfl | exact q_e1 _ _ _ | exact q_sr1 _ _ | omega) only [f_X12_allocatedStall, s_rqT hm h8 hi, a1', ↓q_m1, q_l0, q_l1, q_l2, q_l3, q_l4, q_l5, q_l6, q_l7, q_l8, q_l9, q_l10, q_l11, q_l12, q_l13, q_l14, q_l15, q_l16, q_l17, q_l18, q_l19, q_l20, q_l21, q_l22, q_l23, q_l24, q_l25, q_l26, q_l27, q_l28, q_l29, q_l30, q_l31, q_l32, q_l33, q_l45, q_l46, q_l48, q_l57, q_l58, q_l59, q_l60, q_l61, q_l62, q_l63, q_l64, q_l96, q_l97, q_l99, q_l122, q_l129, q_l137, q_l255, q_l256, q_l400, q_l680, q_l700, q_l959, q_l999, q_l9999, q_l10000, q_l100000, q_l36, q_l50, q_l100, q_l112, q_l200, q_ltT, q_ltF, q_leT, q_leF, q_eqF, q_eqR, q_mlt, q_mle, q_nlm, q_nLm, q_nem, q_men, q_mlm, Nat.add_zero, Nat.sub_zero, q_add0, pk_rem, nI_add, pk_mul, q_sub, q_subm, q_addm, nI_clamp, q_inT, q_inF, q_sr1, q_srn, q_srw, q_srs, q_wIs, q_wIn, q_wI2, q_wJ1, q_wJs, q_wJn, q_wR1, q_wRs, q_wRn, q_wI22, q_wJ22, pk_us, pk_un, pk_uLs, pk_uLn, q_usS, q_usN, q_ups, q_upn, Bool.true_eq_false, Bool.false_eq_true, q_lt, q_o2, q_o3, q_o4, q_o5, q_bi, ↓reduceIte, q_tv0, q_tv1, q_bz, q_oRl, q_oRr, q_oXl, q_oXr, s_given, a2 i hi]
    have u20 : us s 17 α' 20 = σ 20 := (q_usN (by omega)).trans e20
    have o5 : (σ 20).1 5 i = a (25 + 13 * i + 3) := (o.2.1 i hi).2.2.1
    refine ⟨us s 17 α', fun o ho => by rw [q_usN ho]; exact hh o ho, ?_⟩
    by_cases c1 : a (25 + 13 * i + 3) = m1
    · simp (maxSteps := 2000000) (disch := first | rfl | exact q_e1 _ _ _ | exact q_sr1 _ _ | omega) only [f_L_law_68, ↓q_m1, q_l0, q_l1, q_l2, q_l3, q_l4, q_l5, q_l6, q_l7, q_l8, q_l9, q_l10, q_l11, q_l12, q_l13, q_l14, q_l15, q_l16, q_l17, q_l18, q_l19, q_l20, q_l21, q_l22, q_l23, q_l24, q_l25, q_l26, q_l27, q_l28, q_l29, q_l30, q_l31, q_l32, q_l33, q_l45, q_l46, q_l48, q_l57, q_l58, q_l59, q_l60, q_l61, q_l62, q_l63, q_l64, q_l96, q_l97, q_l99, q_l122, q_l129, q_l137, q_l255, q_l256, q_l400, q_l680, q_l700, q_l959, q_l999, q_l9999, q_l10000, q_l100000, q_l36, q_l50, q_l100, q_l112, q_l200, q_ltT, q_ltF, q_leT, q_leF, q_eqF, q_eqR, q_mlt, q_mle, q_nlm, q_nLm, q_nem, q_men, q_mlm, Nat.add_zero, Nat.sub_zero, q_add0, pk_rem, nI_add, pk_mul, q_sub, q_subm, q_addm, nI_clamp, q_inT, q_inF, q_sr1, q_srn, q_srw, q_srs, q_wIs, q_wIn, q_wI2, q_wJ1, q_wJs, q_wJn, q_wR1, q_wRs, q_wRn, q_wI22, q_wJ22, pk_us, pk_un, pk_uLs, pk_uLn, q_usS, q_usN, q_ups, q_upn, Bool.true_eq_false, Bool.false_eq_true, q_lt, q_o2, q_o3, q_o4, q_o5, q_bi, ↓reduceIte, q_tv0, q_tv1, q_bz, q_oRl, q_oRr, q_oXl, q_oXr, e20, o.1.1, hal, u20, hr i hi, o5, eq_true c1]
    · by_cases c2 : rk a i (a (25 + 13 * i + 3)) = m1
      · simp (maxSteps := 2000000) (disch := first | rfl | exact q_e1 _ _ _ | exact q_sr1 _ _ | omega) only [f_L_law_68, ↓q_m1, q_l0, q_l1, q_l2, q_l3, q_l4, q_l5, q_l6, q_l7, q_l8, q_l9, q_l10, q_l11, q_l12, q_l13, q_l14, q_l15, q_l16, q_l17, q_l18, q_l19, q_l20, q_l21, q_l22, q_l23, q_l24, q_l25, q_l26, q_l27, q_l28, q_l29, q_l30, q_l31, q_l32, q_l33, q_l45, q_l46, q_l48, q_l57, q_l58, q_l59, q_l60, q_l61, q_l62, q_l63, q_l64, q_l96, q_l97, q_l99, q_l122, q_l129, q_l137, q_l255, q_l256, q_l400, q_l680, q_l700, q_l959, q_l999, q_l9999, q_l10000, q_l100000, q_l36, q_l50, q_l100, q_l112, q_l200, q_ltT, q_ltF, q_leT, q_leF, q_eqF, q_eqR, q_mlt, q_mle, q_nlm, q_nLm, q_nem, q_men, q_mlm, Nat.add_zero, Nat.sub_zero, q_add0, pk_rem, nI_add, pk_mul, q_sub, q_subm, q_addm, nI_clamp, q_inT, q_inF, q_sr1, q_srn, q_srw, q_srs, q_wIs, q_wIn, q_wI2, q_wJ1, q_wJs, q_wJn, q_wR1, q_wRs, q_wRn, q_wI22, q_wJ22, pk_us, pk_un, pk_uLs, pk_uLn, q_usS, q_usN, q_ups, q_upn, Bool.true_eq_false, Bool.false_eq_true, q_lt, q_o2, q_o3, q_o4, q_o5, q_bi, ↓reduceIte, q_tv0, q_tv1, q_bz, q_oRl, q_oRr, q_oXl, q_oXr, e20, o.1.1, hal, u20, hr i hi, o5, eq_false c1, o_rank o w hi, eq_true c2]
      · have hb := ir_ok w d ga hi c2
        simp (maxSteps := 2000000) (disch := first | rfl | exact q_e1 _ _ _ | exact q_sr1 _ _ | omega) only [f_L_law_68, ↓q_m1, q_l0, q_l1, q_l2, q_l3, q_l4, q_l5, q_l6, q_l7, q_l8, q_l9, q_l10, q_l11, q_l12, q_l13, q_l14, q_l15, q_l16, q_l17, q_l18, q_l19, q_l20, q_l21, q_l22, q_l23, q_l24, q_l25, q_l26, q_l27, q_l28, q_l29, q_l30, q_l31, q_l32, q_l33, q_l45, q_l46, q_l48, q_l57, q_l58, q_l59, q_l60, q_l61, q_l62, q_l63, q_l64, q_l96, q_l97, q_l99, q_l122, q_l129, q_l137, q_l255, q_l256, q_l400, q_l680, q_l700, q_l959, q_l999, q_l9999, q_l10000, q_l100000, q_l36, q_l50, q_l100, q_l112, q_l200, q_ltT, q_ltF, q_leT, q_leF, q_eqF, q_eqR, q_mlt, q_mle, q_nlm, q_nLm, q_nem, q_men, q_mlm, Nat.add_zero, Nat.sub_zero, q_add0, pk_rem, nI_add, pk_mul, q_sub, q_subm, q_addm, nI_clamp, q_inT, q_inF, q_sr1, q_srn, q_srw, q_srs, q_wIs, q_wIn, q_wI2, q_wJ1, q_wJs, q_wJn, q_wR1, q_wRs, q_wRn, q_wI22, q_wJ22, pk_us, pk_un, pk_uLs, pk_uLn, q_usS, q_usN, q_ups, q_upn, Bool.true_eq_false, Bool.false_eq_true, q_lt, q_o2, q_o3, q_o4, q_o5, q_bi, ↓reduceIte, q_tv0, q_tv1, q_bz, q_oRl, q_oRr, q_oXl, q_oXr, e20, o.1.1, hal, u20, hr i hi, o5, eq_false c1, o_rank o w hi, eq_false c2, o_likes o w hi, hb]) (fun n s hh => by
    have e20 := hh 20 (by omega)
    exact ⟨s, by simp (maxSteps := 2000000) (disch := first | rfl | exact q_e1 _ _ _ | exact q_sr1 _ _ | omega) only [f_L_law_68, ↓q_m1, q_l0, q_l1, q_l2, q_l3, q_l4, q_l5, q_l6, q_l7, q_l8, q_l9, q_l10, q_l11, q_l12, q_l13, q_l14, q_l15, q_l16, q_l17, q_l18, q_l19, q_l20, q_l21, q_l22, q_l23, q_l24, q_l25, q_l26, q_l27, q_l28, q_l29, q_l30, q_l31, q_l32, q_l33, q_l45, q_l46, q_l48, q_l57, q_l58, q_l59, q_l60, q_l61, q_l62, q_l63, q_l64, q_l96, q_l97, q_l99, q_l122, q_l129, q_l137, q_l255, q_l256, q_l400, q_l680, q_l700, q_l959, q_l999, q_l9999, q_l10000, q_l100000, q_l36, q_l50, q_l100, q_l112, q_l200, q_ltT, q_ltF, q_leT, q_leF, q_eqF, q_eqR, q_mlt, q_mle, q_nlm, q_nLm, q_nem, q_men, q_mlm, Nat.add_zero, Nat.sub_zero, q_add0, pk_rem, nI_add, pk_mul, q_sub, q_subm, q_addm, nI_clamp, q_inT, q_inF, q_sr1, q_srn, q_srw, q_srs, q_wIs, q_wIn, q_wI2, q_wJ1, q_wJs, q_wJn, q_wR1, q_wRs, q_wRn, q_wI22, q_wJ22, pk_us, pk_un, pk_uLs, pk_uLn, q_usS, q_usN, q_ups, q_upn, Bool.true_eq_false, Bool.false_eq_true, q_lt, q_o2, q_o3, q_o4, q_o5, q_bi, ↓reduceIte, q_tv0, q_tv1, q_bz, q_oRl, q_oRr, q_oXl, q_oXr, e20, o.1.1], hh⟩) (fu_lt (show S < 2000 by omega)) (s := σ) (i0 := 0) (fun _ _ => rfl)
  exact ⟨b, g1, g2⟩
/-- the places become what is given -/
def PLC (S : Nat) (a : Nat → Int32) (rq : Nat → Int32) (a' : Nat → Int32) : Prop := (∀ x, x ≠ 6 → (∀ j, j < S → x ≠ 25 + 13 * j + 3) → a' x = a x) ∧ ∀ j, j < S → a' (25 + 13 * j + 3) = rq j
def chg (a : Nat → Int32) (rq : Nat → Int32) (i : Nat) : Bool := !decide (rq i = a (25 + 13 * i + 3))
theorem apply_c (h : MX B S T μ a) (hg : ∀ i, i < S → α.1 1 i = rq i) (h1 : ∀ i, i < S → rq i = m1 ∨ ∃ t, t < T ∧ rq i = nI t) (hi : ∀ i j t, i < S → j < S → t < T → rq i = nI t → rq j = nI t → i = j) : ∃ μ' a', f_X1_applyTo μ α = some (nI (cnt (chg a rq) S), μ') ∧ MX B S T μ' a' ∧ PLC S a rq a' := by
  have w := h.2.2.1
  have h8 := w.1.1
  have t8 := w.1.2
  obtain ⟨z, f1, μ1, a1, rfl, x1, x2⟩ := lp_inv (F := fun n x (s : Int32 × OM) => f_X1_applyTo_4 α n x s.1 s.2) (fun (i : Nat) (s : Int32 × OM) => ∃ ν b, s = (nI (cnt (chg a rq) i), ν) ∧ MX B S T ν b ∧ ∀ x, x ≠ 6 → b x = a x) (fun s => ∃ ν b, s = (nI (cnt (chg a rq) S), ν) ∧ MX B S T ν b ∧ ∀ x, x ≠ 6 → b x = a x) S (fun n i s hi' hh => by
      obtain ⟨ν, b, rfl, g1, g2⟩ := hh
      have e10 := hg i hi'
      have eh := s_heldBy g1.1 h8 hi'
      have eb := g2 (25 + 13 * i + 3) (by omega)
      rw [eb] at eh
      have cl := cnt_le (chg a rq) i
      by_cases c : rq i = a (25 + 13 * i + 3)
      · have ec : cnt (chg a rq) (i + 1) = cnt (chg a rq) i := by rw [cnt, chg, decide_eq_true c]; rfl
        refine ⟨(nI (cnt (chg a rq) i), ν), ⟨ν, b, by rw [ec], g1, g2⟩, ?_⟩
        simp (maxSteps := 2000000) (disch := first | rfl | exact q_e1 _ _ _ | exact q_sr1 _ _ | omega) only [f_X1_applyTo_4, ↓q_m1, q_l0, q_l1, q_l2, q_l3, q_l4, q_l5, q_l6, q_l7, q_l8, q_l9, q_l10, q_l11, q_l12, q_l13, q_l14, q_l15, q_l16, q_l17, q_l18, q_l19, q_l20, q_l21, q_l22, q_l23, q_l24, q_l25, q_l26, q_l27, q_l28, q_l29, q_l30, q_l31, q_l32, q_l33, q_l45, q_l46, q_l48, q_l57, q_l58, q_l59, q_l60, q_l61, q_l62, q_l63, q_l64, q_l96, q_l97, q_l99, q_l122, q_l129, q_l137, q_l255, q_l256, q_l400, q_l680, q_l700, q_l959, q_l999, q_l9999, q_l10000, q_l100000, q_l36, q_l50, q_l100, q_l112, q_l200, q_ltT, q_ltF, q_leT, q_leF, q_eqF, q_eqR, q_mlt, q_mle, q_nlm, q_nLm, q_nem, q_men, q_mlm, Nat.add_zero, Nat.sub_zero, q_add0, pk_rem, nI_add, pk_mul, q_sub, q_subm, q_addm, nI_clamp, q_inT, q_inF, q_sr1, q_srn, q_srw, q_srs, q_wIs, q_wIn, q_wI2, q_wJ1, q_wJs, q_wJn, q_wR1, q_wRs, q_wRn, q_wI22, q_wJ22, pk_us, pk_un, pk_uLs, pk_uLn, q_usS, q_usN, q_ups, q_upn, Bool.true_eq_false, Bool.false_eq_true, q_lt, q_o2, q_o3, q_o4, q_o5, q_bi, ↓reduceIte, q_tv0, q_tv1, q_bz, q_oRl, q_oRr, q_oXl, q_oXr, g1.1.1.1, s_given, e10, eh, eq_true c]
      · have ec : cnt (chg a rq) (i + 1) = cnt (chg a rq) i + 1 := by rw [cnt, chg, decide_eq_false c]; rfl
        by_cases c2 : rq i = m1
        · have c' : ¬ m1 = a (25 + 13 * i + 3) := fun q => c (c2.trans q)
          refine ⟨(nI (cnt (chg a rq) i + 1), ν), ⟨ν, b, by rw [ec], g1, g2⟩, ?_⟩
          simp (maxSteps := 2000000) (disch := first | rfl | exact q_e1 _ _ _ | exact q_sr1 _ _ | omega) only [f_X1_applyTo_4, ↓q_m1, q_l0, q_l1, q_l2, q_l3, q_l4, q_l5, q_l6, q_l7, q_l8, q_l9, q_l10, q_l11, q_l12, q_l13, q_l14, q_l15, q_l16, q_l17, q_l18, q_l19, q_l20, q_l21, q_l22, q_l23, q_l24, q_l25, q_l26, q_l27, q_l28, q_l29, q_l30, q_l31, q_l32, q_l33, q_l45, q_l46, q_l48, q_l57, q_l58, q_l59, q_l60, q_l61, q_l62, q_l63, q_l64, q_l96, q_l97, q_l99, q_l122, q_l129, q_l137, q_l255, q_l256, q_l400, q_l680, q_l700, q_l959, q_l999, q_l9999, q_l10000, q_l100000, q_l36, q_l50, q_l100, q_l112, q_l200, q_ltT, q_ltF, q_leT, q_leF, q_eqF, q_eqR, q_mlt, q_mle, q_nlm, q_nLm, q_nem, q_men, q_mlm, Nat.add_zero, Nat.sub_zero, q_add0, pk_rem, nI_add, pk_mul, q_sub, q_subm, q_addm, nI_clamp, q_inT, q_inF, q_sr1, q_srn, q_srw, q_srs, q_wIs, q_wIn, q_wI2, q_wJ1, q_wJs, q_wJn, q_wR1, q_wRs, q_wRn, q_wI22, q_wJ22, pk_us, pk_un, pk_uLs, pk_uLn, q_usS, q_usN, q_ups, q_upn, Bool.true_eq_false, Bool.false_eq_true, q_lt, q_o2, q_o3, q_o4, q_o5, q_bi, ↓reduceIte, q_tv0, q_tv1, q_bz, q_oRl, q_oRr, q_oXl, q_oXr, g1.1.1.1, s_given, e10, eh, c2, eq_false c']
        · refine ⟨(nI (cnt (chg a rq) i + 1), wI ν 0 6 (b 6 + nI 1)), ⟨_, _, by rw [ec], g1.fld (by omega) (by omega) _, fun x hx => (pk_un hx).trans (g2 x hx)⟩, ?_⟩
          simp (maxSteps := 2000000) (disch := first | rfl | exact q_e1 _ _ _ | exact q_sr1 _ _ | omega) only [f_X1_applyTo_4, ↓q_m1, q_l0, q_l1, q_l2, q_l3, q_l4, q_l5, q_l6, q_l7, q_l8, q_l9, q_l10, q_l11, q_l12, q_l13, q_l14, q_l15, q_l16, q_l17, q_l18, q_l19, q_l20, q_l21, q_l22, q_l23, q_l24, q_l25, q_l26, q_l27, q_l28, q_l29, q_l30, q_l31, q_l32, q_l33, q_l45, q_l46, q_l48, q_l57, q_l58, q_l59, q_l60, q_l61, q_l62, q_l63, q_l64, q_l96, q_l97, q_l99, q_l122, q_l129, q_l137, q_l255, q_l256, q_l400, q_l680, q_l700, q_l959, q_l999, q_l9999, q_l10000, q_l100000, q_l36, q_l50, q_l100, q_l112, q_l200, q_ltT, q_ltF, q_leT, q_leF, q_eqF, q_eqR, q_mlt, q_mle, q_nlm, q_nLm, q_nem, q_men, q_mlm, Nat.add_zero, Nat.sub_zero, q_add0, pk_rem, nI_add, pk_mul, q_sub, q_subm, q_addm, nI_clamp, q_inT, q_inF, q_sr1, q_srn, q_srw, q_srs, q_wIs, q_wIn, q_wI2, q_wJ1, q_wJs, q_wJn, q_wR1, q_wRs, q_wRn, q_wI22, q_wJ22, pk_us, pk_un, pk_uLs, pk_uLn, q_usS, q_usN, q_ups, q_upn, Bool.true_eq_false, Bool.false_eq_true, q_lt, q_o2, q_o3, q_o4, q_o5, q_bi, ↓reduceIte, q_tv0, q_tv1, q_bz, q_oRl, q_oRr, q_oXl, q_oXr, g1.1.1.1, s_given, e10, eh, eq_false c, eq_false c2, g1.1.2.1 6 (by omega) (by omega)]) (fun n s hh => by
      obtain ⟨ν, b, rfl, g1, g2⟩ := hh
      exact ⟨(nI (cnt (chg a rq) S), ν), by simp (maxSteps := 2000000) (disch := first | rfl | exact q_e1 _ _ _ | exact q_sr1 _ _ | omega) only [f_X1_applyTo_4, ↓q_m1, q_l0, q_l1, q_l2, q_l3, q_l4, q_l5, q_l6, q_l7, q_l8, q_l9, q_l10, q_l11, q_l12, q_l13, q_l14, q_l15, q_l16, q_l17, q_l18, q_l19, q_l20, q_l21, q_l22, q_l23, q_l24, q_l25, q_l26, q_l27, q_l28, q_l29, q_l30, q_l31, q_l32, q_l33, q_l45, q_l46, q_l48, q_l57, q_l58, q_l59, q_l60, q_l61, q_l62, q_l63, q_l64, q_l96, q_l97, q_l99, q_l122, q_l129, q_l137, q_l255, q_l256, q_l400, q_l680, q_l700, q_l959, q_l999, q_l9999, q_l10000, q_l100000, q_l36, q_l50, q_l100, q_l112, q_l200, q_ltT, q_ltF, q_leT, q_leF, q_eqF, q_eqR, q_mlt, q_mle, q_nlm, q_nLm, q_nem, q_men, q_mlm, Nat.add_zero, Nat.sub_zero, q_add0, pk_rem, nI_add, pk_mul, q_sub, q_subm, q_addm, nI_clamp, q_inT, q_inF, q_sr1, q_srn, q_srw, q_srs, q_wIs, q_wIn, q_wI2, q_wJ1, q_wJs, q_wJn, q_wR1, q_wRs, q_wRn, q_wI22, q_wJ22, pk_us, pk_un, pk_uLs, pk_uLn, q_usS, q_usN, q_ups, q_upn, Bool.true_eq_false, Bool.false_eq_true, q_lt, q_o2, q_o3, q_o4, q_o5, q_bi, ↓reduceIte, q_tv0, q_tv1, q_bz, q_oRl, q_oRr, q_oXl, q_oXr, g1.1.1.1], ν, b, rfl, g1, g2⟩) (fu_lt (show S < 2000 by omega)) (s := (nI 0, μ)) (i0 := 0) ⟨_, _, rfl, h, fun _ _ => rfl⟩
  have w1 := x1.2.2.1
  obtain ⟨z, f3, μ2, a2, rfl, y1, y2, y3⟩ := lp_inv (F := f_X1_applyTo_56 (nI (cnt (chg a rq) S)) α) (fun (i : Nat) (s : OM) => ∃ b, MR S T s b ∧ (∀ x, (∀ j, j < S → x ≠ 25 + 13 * j + 3) → b x = a1 x) ∧ ∀ j, j < i → b (25 + 13 * j + 3) = rq j) (fun z => ∃ ν b, z = (nI (cnt (chg a rq) S), ν) ∧ MR S T ν b ∧ (∀ x, (∀ j, j < S → x ≠ 25 + 13 * j + 3) → b x = a1 x) ∧ ∀ j, j < S → b (25 + 13 * j + 3) = rq j) S (fun n i s hi' hh => by
      obtain ⟨b, g1, g2, g3⟩ := hh
      have e10 := hg i hi'
      refine ⟨wI s 4 i (rq i), ⟨upd b (25 + 13 * i + 3) (rq i), g1.seat h8 t8 hi' (fun j hj => by
        have : ln b j = ln a1 j := ln_eq (g2 _ (fun j' hj' => by omega))
        rw [this]; exact w1.hl j hj) _, fun x hx => (pk_un (hx i hi')).trans (g2 x hx), fun j hj => ?_⟩, ?_⟩
      · by_cases c : j = i
        · subst c; exact pk_us
        · rw [pk_un (by omega)]; exact g3 j (by omega)
      · simp (maxSteps := 2000000) (disch := first | rfl | exact q_e1 _ _ _ | exact q_sr1 _ _ | omega) only [f_X1_applyTo_56, ↓q_m1, q_l0, q_l1, q_l2, q_l3, q_l4, q_l5, q_l6, q_l7, q_l8, q_l9, q_l10, q_l11, q_l12, q_l13, q_l14, q_l15, q_l16, q_l17, q_l18, q_l19, q_l20, q_l21, q_l22, q_l23, q_l24, q_l25, q_l26, q_l27, q_l28, q_l29, q_l30, q_l31, q_l32, q_l33, q_l45, q_l46, q_l48, q_l57, q_l58, q_l59, q_l60, q_l61, q_l62, q_l63, q_l64, q_l96, q_l97, q_l99, q_l122, q_l129, q_l137, q_l255, q_l256, q_l400, q_l680, q_l700, q_l959, q_l999, q_l9999, q_l10000, q_l100000, q_l36, q_l50, q_l100, q_l112, q_l200, q_ltT, q_ltF, q_leT, q_leF, q_eqF, q_eqR, q_mlt, q_mle, q_nlm, q_nLm, q_nem, q_men, q_mlm, Nat.add_zero, Nat.sub_zero, q_add0, pk_rem, nI_add, pk_mul, q_sub, q_subm, q_addm, nI_clamp, q_inT, q_inF, q_sr1, q_srn, q_srw, q_srs, q_wIs, q_wIn, q_wI2, q_wJ1, q_wJs, q_wJn, q_wR1, q_wRs, q_wRn, q_wI22, q_wJ22, pk_us, pk_un, pk_uLs, pk_uLn, q_usS, q_usN, q_ups, q_upn, Bool.true_eq_false, Bool.false_eq_true, q_lt, q_o2, q_o3, q_o4, q_o5, q_bi, ↓reduceIte, q_tv0, q_tv1, q_bz, q_oRl, q_oRr, q_oXl, q_oXr, g1.1.1, s_given, e10, s_seat g1 h8 hi']) (fun n s hh => by
      obtain ⟨b, g1, g2, g3⟩ := hh
      exact ⟨_, by simp (maxSteps := 2000000) (disch := first | rfl | exact q_e1 _ _ _ | exact q_sr1 _ _ | omega) only [f_X1_applyTo_56, ↓q_m1, q_l0, q_l1, q_l2, q_l3, q_l4, q_l5, q_l6, q_l7, q_l8, q_l9, q_l10, q_l11, q_l12, q_l13, q_l14, q_l15, q_l16, q_l17, q_l18, q_l19, q_l20, q_l21, q_l22, q_l23, q_l24, q_l25, q_l26, q_l27, q_l28, q_l29, q_l30, q_l31, q_l32, q_l33, q_l45, q_l46, q_l48, q_l57, q_l58, q_l59, q_l60, q_l61, q_l62, q_l63, q_l64, q_l96, q_l97, q_l99, q_l122, q_l129, q_l137, q_l255, q_l256, q_l400, q_l680, q_l700, q_l959, q_l999, q_l9999, q_l10000, q_l100000, q_l36, q_l50, q_l100, q_l112, q_l200, q_ltT, q_ltF, q_leT, q_leF, q_eqF, q_eqR, q_mlt, q_mle, q_nlm, q_nLm, q_nem, q_men, q_mlm, Nat.add_zero, Nat.sub_zero, q_add0, pk_rem, nI_add, pk_mul, q_sub, q_subm, q_addm, nI_clamp, q_inT, q_inF, q_sr1, q_srn, q_srw, q_srs, q_wIs, q_wIn, q_wI2, q_wJ1, q_wJs, q_wJn, q_wR1, q_wRs, q_wRn, q_wI22, q_wJ22, pk_us, pk_un, pk_uLs, pk_uLn, q_usS, q_usN, q_ups, q_upn, Bool.true_eq_false, Bool.false_eq_true, q_lt, q_o2, q_o3, q_o4, q_o5, q_bi, ↓reduceIte, q_tv0, q_tv1, q_bz, q_oRl, q_oRr, q_oXl, q_oXr, g1.1.1], s, b, rfl, g1, g2, g3⟩) (fu_lt (show S < 2000 by omega)) (s := μ1) (i0 := 0) ⟨a1, x1.1, fun _ _ => rfl, fun j hj => by omega⟩
  have ey : ∀ x, (x < 25 ∨ 129 ≤ x ∨ ∃ j k, j < 8 ∧ x = 25 + 13 * j + k ∧ k < 13 ∧ k ≠ 3) → a2 x = a1 x := fun x hx => y2 x (fun j hj => by
    rcases hx with q | q | ⟨j', k, q1, q2, q3, q4⟩ <;> omega)
  have el : ∀ j, j < S → ln a2 j = ln a1 j := fun j hj => ln_eq (ey _ (Or.inr (Or.inr ⟨j, 4, by omega, rfl, by omega, by omega⟩)))
  refine ⟨μ2, a2, ?_, ⟨y1, x1.2.1, ⟨w1.1, fun j hj => ?_, fun j k hj hk => ?_, fun j hj => ?_⟩, ⟨fun j k k' hj hk hk' => ?_, fun j j' hj hj' q q' => ?_⟩, ⟨?_, fun t ht => ?_, fun j hj => ?_, fun j hj => ?_⟩⟩, fun x hx hx' => (y2 x hx').trans (x2 x hx), y3⟩
  · simp (maxSteps := 2000000) (disch := first | rfl | exact q_e1 _ _ _ | exact q_sr1 _ _ | omega) only [f_X1_applyTo, ↓q_m1, q_l0, q_l1, q_l2, q_l3, q_l4, q_l5, q_l6, q_l7, q_l8, q_l9, q_l10, q_l11, q_l12, q_l13, q_l14, q_l15, q_l16, q_l17, q_l18, q_l19, q_l20, q_l21, q_l22, q_l23, q_l24, q_l25, q_l26, q_l27, q_l28, q_l29, q_l30, q_l31, q_l32, q_l33, q_l45, q_l46, q_l48, q_l57, q_l58, q_l59, q_l60, q_l61, q_l62, q_l63, q_l64, q_l96, q_l97, q_l99, q_l122, q_l129, q_l137, q_l255, q_l256, q_l400, q_l680, q_l700, q_l959, q_l999, q_l9999, q_l10000, q_l100000, q_l36, q_l50, q_l100, q_l112, q_l200, q_ltT, q_ltF, q_leT, q_leF, q_eqF, q_eqR, q_mlt, q_mle, q_nlm, q_nLm, q_nem, q_men, q_mlm, Nat.add_zero, Nat.sub_zero, q_add0, pk_rem, nI_add, pk_mul, q_sub, q_subm, q_addm, nI_clamp, q_inT, q_inF, q_sr1, q_srn, q_srw, q_srs, q_wIs, q_wIn, q_wI2, q_wJ1, q_wJs, q_wJn, q_wR1, q_wRs, q_wRn, q_wI22, q_wJ22, pk_us, pk_un, pk_uLs, pk_uLn, q_usS, q_usN, q_ups, q_upn, Bool.true_eq_false, Bool.false_eq_true, q_lt, q_o2, q_o3, q_o4, q_o5, q_bi, ↓reduceIte, q_tv0, q_tv1, q_bz, q_oRl, q_oRr, q_oXl, q_oXr, f1, f3]
  · rw [el j hj, ey _ (Or.inr (Or.inr ⟨j, 4, by omega, rfl, by omega, by omega⟩))]; exact w1.2.1 j hj
  · rw [el j hj] at hk
    have := w1.hl j hj
    rw [ey _ (Or.inr (Or.inr ⟨j, 5 + k, by omega, rfl, by omega, by omega⟩))]; exact w1.2.2.1 j k hj hk
  · rw [y3 j hj]; exact h1 j hj
  · rw [el j hj] at hk hk'
    have := w1.hl j hj
    rw [ey _ (Or.inr (Or.inr ⟨j, 5 + k, by omega, rfl, by omega, by omega⟩)), ey _ (Or.inr (Or.inr ⟨j, 5 + k', by omega, rfl, by omega, by omega⟩))]; exact x1.2.2.2.1.1 j k k' hj hk hk'
  · rw [y3 j hj] at q q'
    rw [y3 j' hj'] at q
    rcases h1 j hj with q2 | ⟨t, ht, q2⟩
    · exact absurd q2 q'
    · exact hi j j' t hj hj' ht q2 (q.symm.trans q2)
  · rw [ey 2 (by omega)]; exact x1.2.2.2.2.1
  · rw [ey _ (by omega)]; exact x1.2.2.2.2.2.1 t ht
  · rw [ey _ (Or.inr (Or.inr ⟨j, 2, by omega, rfl, by omega, by omega⟩))]; exact x1.2.2.2.2.2.2.1 j hj
  · rw [ey _ (Or.inr (Or.inr ⟨j, 1, by omega, rfl, by omega, by omega⟩))]; exact x1.2.2.2.2.2.2.2 j hj
/-- then nothing can be better -/
theorem ok_all (w : WL S T a) (d : WD S a) (ga : GA S T a rq) {a' : Nat → Int32} (hp : PLC S a rq a') (w' : WL S T a') (d' : WD S a') {i : Nat} (hi : i < S) : okE S a' i = true := by
  obtain ⟨g1, g2, fin, tm, g3⟩ := ga
  obtain ⟨p1, p2⟩ := hp
  have h8 := w.1.1
  have t8 := w.1.2
  have eln : ∀ x, x < S → ln a' x = ln a x := fun x hx => ln_eq (p1 _ (by omega) (fun j hj => by omega))
  have elst : ∀ x k, x < S → k < ln a x → a' (25 + 13 * x + (5 + k)) = lst a x k := fun x k hx hk => by
    have := (w.2.1 x hx).1
    exact p1 _ (by omega) (fun j hj => by omega)
  -- better than what one has: its place was given before
  have better : ∀ x k, x < S → k < ln a x → bet a' x (lst a x k) (rq x) = true → ∃ t j, t < T ∧ lst a x k = nI t ∧ j < S ∧ rq j = nI t ∧ tm j < tm x := fun x k hx hk hb => by
    obtain ⟨⟨p, q1, q2, q3, q4⟩, _⟩ := g3 x hx
    have l8 := (w.2.1 x hx).1
    have hk' : k < ln a' x := by rw [eln x hx]; exact hk
    have b1 : bad a' x (lst a x k) = nI k := by rw [← elst x k hx hk]; exact bad_lst w' d' hx hk'
    have hkp : k < p := by
      rcases Nat.lt_or_ge p (ln a x) with z | z
      · have b2 : bad a' x (rq x) = nI p := by rw [q3 z, ← elst x p hx z]; exact bad_lst w' d' hx (by rw [eln x hx]; exact z)
        rw [bet, b1, b2] at hb
        rcases Nat.lt_or_ge k p with y | y
        · exact y
        · exact absurd (of_decide_eq_true hb) (nI_nlt y (by omega))
      · omega
    obtain ⟨t, j, k1, k2, k3, _, k5, k6⟩ := q2 k hkp
    exact ⟨t, j, k1, k2, k3, k5, k6⟩
  have long : ∀ x y, x < S → y < S → lng a' x y = true → tm y < tm x := fun x y hx hy hl => by
    rw [lng, Bool.and_eq_true, p2 x hx, p2 y hy] at hl
    obtain ⟨l1, l2⟩ := hl
    have hy1 : rq y ≠ m1 := by simpa using l1
    have l8 := (w.2.1 x hx).1
    rcases rk_cases a' x (rq y) with q | ⟨k, k1, k2⟩
    · exfalso
      have b1 : bad a' x (rq y) = nI 9 := by rw [bad, if_neg hy1, if_pos q]
      have b2 : ∃ m, m ≤ 9 ∧ bad a' x (rq x) = nI m := by
        rw [bad]
        by_cases c : rq x = m1
        · exact ⟨8, by omega, if_pos c⟩
        · rw [if_neg c]
          rcases rk_cases a' x (rq x) with q' | ⟨k, k1, k2⟩
          · exact ⟨9, by omega, by rw [if_pos q']⟩
          · have := eln x hx
            exact ⟨k, by omega, by rw [k2, if_neg (fun e => (q_nem (show k < 2 ^ 31 by omega)).mp e)]⟩
      obtain ⟨m, hm, e⟩ := b2
      rw [bet, b1, e] at l2
      exact absurd (of_decide_eq_true l2) (nI_nlt hm (by omega))
    · rw [eln x hx] at k1
      have ek : lst a x k = rq y := by
        have := ((fd_some (n := ln a' x) (by rw [eln x hx]; omega) (show k < 2 ^ 31 by omega)).mp k2).2.1
        have := of_decide_eq_true this
        rw [← elst x k hx k1]; exact this
      rw [← ek] at l2
      obtain ⟨t, j, h1, h2, h3, h5, h6⟩ := better x k hx k1 l2
      have : y = j := g2 y j t hy h3 h1 (ek.symm.trans h2) h5
      rw [this]; exact h6
  have reach : ∀ n s j, s < S → j < S → Rn S a' s n j = true → tm j + n ≤ tm s := by
    intro n
    induction n with
    | zero =>
      intro s j hs hj hr
      have := Rn_0.mp hr
      subst this; omega
    | succ n ih =>
      intro s j hs hj hr
      obtain ⟨x, hx, r1, r2⟩ := (Rn_s h8).mp hr
      have := ih s x hs hx r1
      have := long x j hx hj r2
      omega
  have hcy : cyc S a' i = m1 := by
    rw [cyc]
    refine fvr_none (fun k _ _ => ?_)
    cases e : Rn S a' i (k + 1) i with
    | false => rfl
    | true =>
      have := reach (k + 1) i i hi hi e
      omega
  have hbf : bfv S a' i = m1 := by
    rw [bfv]
    refine fvr_none (fun k _ hk => ?_)
    have hk' : k < ln a i := by rw [← eln i hi]; omega
    cases e : bfP S a' i k with
    | false => rfl
    | true =>
      exfalso
      rw [bfP, Bool.and_eq_true, elst i k hi hk', p2 i hi] at e
      obtain ⟨t, j, h1, h2, h3, h5, _⟩ := better i k hi hk' e.2
      have eo := of_decide_eq_true e.1
      have := (fd_none (show S < 2 ^ 31 by omega)).mp eo j h3
      exact of_decide_eq_false this ((p2 j h3).trans (h5.trans h2.symm))
  rw [okE, hbf, hcy, p2 i hi, Bool.and_eq_true]
  refine ⟨?_, by rw [ite_self, decide_eq_true rfl]; rfl⟩
  obtain ⟨⟨p, q1, q2, q3, q4⟩, _⟩ := g3 i hi
  rcases Nat.lt_or_ge p (ln a i) with z | z
  · have : rk a' i (rq i) = nI p := by rw [q3 z, ← elst i p hi z]; exact rk_lst w' d' hi (by rw [eln i hi]; exact z)
    have l8 := (w.2.1 i hi).1
    rw [this, Bool.or_eq_true]
    right
    rw [decide_eq_false (fun e => (q_nem (show p < 2 ^ 31 by omega)).mp e)]; rfl
  · rw [q4 (by omega), decide_eq_true rfl]; rfl
theorem eff_ok {a : Nat → Int32} (hm : MR S T (σ 0) a) (w : WL S T a) (d : WD S a) (ho : ∀ k, k < S → okE S a k = true) : f_X12_isEfficient σ = some (nI 1) := by
  have h8 := w.1.1
  have hc : f_X3_canImprove (σ 0) = some (nI 0) := by
    unfold f_X3_canImprove
    rw [q_l0]
    refine lp_to S (fun n i hiS => ?_) (fun n => by simp (maxSteps := 2000000) (disch := first | rfl | exact q_e1 _ _ _ | exact q_sr1 _ _ | omega) only [f_X3_canImprove_2, ↓q_m1, q_l0, q_l1, q_l2, q_l3, q_l4, q_l5, q_l6, q_l7, q_l8, q_l9, q_l10, q_l11, q_l12, q_l13, q_l14, q_l15, q_l16, q_l17, q_l18, q_l19, q_l20, q_l21, q_l22, q_l23, q_l24, q_l25, q_l26, q_l27, q_l28, q_l29, q_l30, q_l31, q_l32, q_l33, q_l45, q_l46, q_l48, q_l57, q_l58, q_l59, q_l60, q_l61, q_l62, q_l63, q_l64, q_l96, q_l97, q_l99, q_l122, q_l129, q_l137, q_l255, q_l256, q_l400, q_l680, q_l700, q_l959, q_l999, q_l9999, q_l10000, q_l100000, q_l36, q_l50, q_l100, q_l112, q_l200, q_ltT, q_ltF, q_leT, q_leF, q_eqF, q_eqR, q_mlt, q_mle, q_nlm, q_nLm, q_nem, q_men, q_mlm, Nat.add_zero, Nat.sub_zero, q_add0, pk_rem, nI_add, pk_mul, q_sub, q_subm, q_addm, nI_clamp, q_inT, q_inF, q_sr1, q_srn, q_srw, q_srs, q_wIs, q_wIn, q_wI2, q_wJ1, q_wJs, q_wJn, q_wR1, q_wRs, q_wRn, q_wI22, q_wJ22, pk_us, pk_un, pk_uLs, pk_uLn, q_usS, q_usN, q_ups, q_upn, Bool.true_eq_false, Bool.false_eq_true, q_lt, q_o2, q_o3, q_o4, q_o5, q_bi, ↓reduceIte, q_tv0, q_tv1, q_bz, q_oRl, q_oRr, q_oXl, q_oXr, hm.1.1]) (fu_lt (show S < 2000 by omega))
    have ho := ho i hiS
    rw [okE, Bool.and_eq_true, Bool.and_eq_true, decide_eq_true_eq, decide_eq_true_eq] at ho
    have ho3 : ((if a (25 + 13 * i + 3) = m1 then m1 else cyc S a i) = m1) = True := eq_true ho.2.2
    simp (maxSteps := 2000000) (disch := first | rfl | exact q_e1 _ _ _ | exact q_sr1 _ _ | omega) only [f_X3_canImprove_2, ↓q_m1, q_l0, q_l1, q_l2, q_l3, q_l4, q_l5, q_l6, q_l7, q_l8, q_l9, q_l10, q_l11, q_l12, q_l13, q_l14, q_l15, q_l16, q_l17, q_l18, q_l19, q_l20, q_l21, q_l22, q_l23, q_l24, q_l25, q_l26, q_l27, q_l28, q_l29, q_l30, q_l31, q_l32, q_l33, q_l45, q_l46, q_l48, q_l57, q_l58, q_l59, q_l60, q_l61, q_l62, q_l63, q_l64, q_l96, q_l97, q_l99, q_l122, q_l129, q_l137, q_l255, q_l256, q_l400, q_l680, q_l700, q_l959, q_l999, q_l9999, q_l10000, q_l100000, q_l36, q_l50, q_l100, q_l112, q_l200, q_ltT, q_ltF, q_leT, q_leF, q_eqF, q_eqR, q_mlt, q_mle, q_nlm, q_nLm, q_nem, q_men, q_mlm, Nat.add_zero, Nat.sub_zero, q_add0, pk_rem, nI_add, pk_mul, q_sub, q_subm, q_addm, nI_clamp, q_inT, q_inF, q_sr1, q_srn, q_srw, q_srs, q_wIs, q_wIn, q_wI2, q_wJ1, q_wJs, q_wJn, q_wR1, q_wRs, q_wRn, q_wI22, q_wJ22, pk_us, pk_un, pk_uLs, pk_uLn, q_usS, q_usN, q_ups, q_upn, Bool.true_eq_false, Bool.false_eq_true, q_lt, q_o2, q_o3, q_o4, q_o5, q_bi, ↓reduceIte, q_tv0, q_tv1, q_bz, q_oRl, q_oRr, q_oXl, q_oXr, hm.1.1, s_heldBy hm h8 hiS, s_ranksAbove hm w hiS, s_bf hm w d hiS, s_cyc hm w hiS, bet_u w hiS, ho.1, ho.2.1, Bool.not_true, ho3]
  simp (maxSteps := 2000000) (disch := first | rfl | exact q_e1 _ _ _ | exact q_sr1 _ _ | omega) only [f_X12_isEfficient, hc, ↓q_m1, q_l0, q_l1, q_l2, q_l3, q_l4, q_l5, q_l6, q_l7, q_l8, q_l9, q_l10, q_l11, q_l12, q_l13, q_l14, q_l15, q_l16, q_l17, q_l18, q_l19, q_l20, q_l21, q_l22, q_l23, q_l24, q_l25, q_l26, q_l27, q_l28, q_l29, q_l30, q_l31, q_l32, q_l33, q_l45, q_l46, q_l48, q_l57, q_l58, q_l59, q_l60, q_l61, q_l62, q_l63, q_l64, q_l96, q_l97, q_l99, q_l122, q_l129, q_l137, q_l255, q_l256, q_l400, q_l680, q_l700, q_l959, q_l999, q_l9999, q_l10000, q_l100000, q_l36, q_l50, q_l100, q_l112, q_l200, q_ltT, q_ltF, q_leT, q_leF, q_eqF, q_eqR, q_mlt, q_mle, q_nlm, q_nLm, q_nem, q_men, q_mlm, Nat.add_zero, Nat.sub_zero, q_add0, pk_rem, nI_add, pk_mul, q_sub, q_subm, q_addm, nI_clamp, q_inT, q_inF, q_sr1, q_srn, q_srw, q_srs, q_wIs, q_wIn, q_wI2, q_wJ1, q_wJs, q_wJn, q_wR1, q_wRs, q_wRn, q_wI22, q_wJ22, pk_us, pk_un, pk_uLs, pk_uLn, q_usS, q_usN, q_ups, q_upn, Bool.true_eq_false, Bool.false_eq_true, q_lt, q_o2, q_o3, q_o4, q_o5, q_bi, ↓reduceIte, q_tv0, q_tv1, q_bz, q_oRl, q_oRr, q_oXl, q_oXr]
end GAS

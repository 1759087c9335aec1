/-! lists: the class's and the law's own -/
def lsA (a : Nat → Int32) (i n : Nat) (f : Nat → Int32) : Nat → Int32 := fun x => if x = 25 + 13 * i + 4 then nI n else if 25 + 13 * i + 5 ≤ x ∧ x < 25 + 13 * i + 13 then f (x - (25 + 13 * i + 5)) else a x
theorem lsA_4 (a : Nat → Int32) (i n : Nat) (f : Nat → Int32) : lsA a i n f (25 + 13 * i + 4) = nI n := if_pos rfl
theorem lsA_k (a : Nat → Int32) (i n : Nat) (f : Nat → Int32) {k : Nat} (hk : k < 8) : lsA a i n f (25 + 13 * i + (5 + k)) = f k := by
  rw [lsA, if_neg (by omega), if_pos (by omega), show 25 + 13 * i + (5 + k) - (25 + 13 * i + 5) = k by omega]
theorem lsA_o (a : Nat → Int32) (i n : Nat) (f : Nat → Int32) : FA i a (lsA a i n f) := fun x hx => by
  rw [lsA, if_neg (by omega), if_neg (by omega)]
theorem lsA_n (a : Nat → Int32) (i n : Nat) (f : Nat → Int32) (hn : n ≤ 8) : ln (lsA a i n f) i = n := by
  rw [ln, lsA_4]; exact nI_clamp (by omega)
section LST
variable {B S T : Nat} {μ ω ω' : OM} {a : Nat → Int32}
theorem OW.list (h : OW S T ω a) (w : WL S T a) {i n : Nat} (hi : i < S) (hn : n ≤ 8) {f : Nat → Int32} (h1 : ∀ k, k ≠ 6 → k ≠ 12 + i → ω'.1 k = ω.1 k) (h2 : ∀ j, j ≠ i → ω'.1 6 j = ω.1 6 j) (h3 : ω'.1 6 i = nI n) (h4 : ∀ k, k < n → ω'.1 (12 + i) k = f k) : OW S T ω' (lsA a i n f) := by
  obtain ⟨⟨o1, o2, o3⟩, o4, o5, o6, o7⟩ := h
  have h8 := w.1.1
  have fo := lsA_o a i n f
  have el : ∀ j, j ≠ i → ln (lsA a i n f) j = ln a j := fun j hj => ln_eq (fo _ (by omega))
  refine ⟨⟨?_, ?_, ?_⟩, fun j hj => ⟨?_, ?_, ?_, ?_⟩, fun j k hj hk => ?_, fun t ht => ?_, fun k hk => ?_⟩
  · rw [h1 0 (by omega) (by omega)]; exact o1
  · rw [h1 0 (by omega) (by omega)]; exact o2
  · rw [h1 0 (by omega) (by omega), fo 2 (by omega)]; exact o3
  · rw [h1 3 (by omega) (by omega), fo _ (by omega)]; exact (o4 j hj).1
  · rw [h1 4 (by omega) (by omega), fo _ (by omega)]; exact (o4 j hj).2.1
  · rw [h1 5 (by omega) (by omega), fo _ (by omega)]; exact (o4 j hj).2.2.1
  · by_cases e : j = i
    · subst e; rw [lsA_4]; exact h3
    · rw [h2 j e, fo _ (by omega)]; exact (o4 j hj).2.2.2
  · by_cases e : j = i
    · subst e
      rw [lsA_n _ _ _ _ hn] at hk
      rw [lsA_k _ _ _ _ (by omega)]; exact h4 k hk
    · rw [el j e] at hk
      have := (w.2.1 j hj).1
      rw [h1 (12 + j) (by omega) (by omega), fo _ (by omega)]; exact o5 j k hj hk
  · by_cases e : 9 + 2 * t + 1 < 25
    · rw [h1 2 (by omega) (by omega), fo _ (by omega)]; exact o6 t ht
    · have := w.1.2
      omega
  · rw [h1 7 (by omega) (by omega), fo _ (by omega)]; exact o7 k hk
/-- a stall is taken off -/
def drF (a : Nat → Int32) (i r : Nat) : Nat → Int32 := fun k => if k < r then a (25 + 13 * i + (5 + k)) else a (25 + 13 * i + (5 + (k + 1)))
theorem drop_c (h : MX B S T μ a) {i r : Nat} (hi : i < S) (hr : r < ln a i) {v : Int32} (hv : rk a i v = nI r) : ∃ μ', f_X5_dropWish (nI i) v μ = some μ' ∧ LB i (ln a i - 1) (drF a i r) μ μ' a (lsA a i (ln a i - 1) (drF a i r)) ∧ MX B S T μ' (lsA a i (ln a i - 1) (drF a i r)) := by
  have w := h.2.2.1
  have h8 := w.1.1
  have hl := w.2.1 i hi
  have h6 := h.1.2.2.2.1
  obtain ⟨μ', f1, f2, f3, f4⟩ := lp_inv (F := f_X5_dropWish_34 (nI (ln a i - 1)) (nI i)) (i0 := r) (s := μ) (fun (k : Nat) (s : OM) => r ≤ k ∧ FMu i μ s ∧ ∀ j, j < ln a i → s.1 7 (i * 8 + j) = if r ≤ j ∧ j < k then a (25 + 13 * i + (5 + (j + 1))) else a (25 + 13 * i + (5 + j))) (fun s => FMu i μ s ∧ s.1 6 i = nI (ln a i - 1) ∧ ∀ k, k < ln a i - 1 → s.1 7 (i * 8 + k) = drF a i r k) (ln a i - 1) (fun n k s hk hh => by
      obtain ⟨hrk, g1, g3⟩ := hh
      have q1 := g3 (k + 1) (by omega)
      refine ⟨wI s 7 (i * 8 + k) (a (25 + 13 * i + (5 + (k + 1)))), ⟨by omega, g1.tr (FMu.w7 (by omega) _ _), fun j hj => ?_⟩, ?_⟩
      · by_cases e : j = k
        · subst e
          rw [if_pos (by omega)]
          simp (maxSteps := 2000000) (disch := first | rfl | exact q_e1 _ _ _ | exact q_sr1 _ _ | omega) only [q_sr1, q_srn, q_srw, q_srs, q_wIs, q_wIn, q_wI2, q_wJ1, q_wJs, q_wJn, q_wR1, q_wRs, q_wRn, q_wI22, q_wJ22, pk_us, pk_un, pk_uLs, pk_uLn, q_usS, q_usN, q_ups, q_upn]
        · have q := g3 j hj
          rw [q_wIs, pk_un (by omega), q]
          by_cases e' : r ≤ j ∧ j < k
          · rw [if_pos e', if_pos (by omega)]
          · rw [if_neg e', if_neg (by omega)]
      · have e : i * 8 + k + 1 = i * 8 + (k + 1) := by omega
        rw [if_neg (by omega)] at q1
        simp (maxSteps := 2000000) (disch := first | rfl | exact q_e1 _ _ _ | exact q_sr1 _ _ | omega) only [f_X5_dropWish_34, ↓q_m1, q_l0, q_l1, q_l2, q_l3, q_l4, q_l5, q_l6, q_l7, q_l8, q_l9, q_l10, q_l11, q_l12, q_l13, q_l14, q_l15, q_l16, q_l17, q_l18, q_l19, q_l20, q_l21, q_l22, q_l23, q_l24, q_l25, q_l26, q_l27, q_l28, q_l29, q_l30, q_l31, q_l32, q_l33, q_l45, q_l46, q_l48, q_l57, q_l58, q_l59, q_l60, q_l61, q_l62, q_l63, q_l64, q_l96, q_l97, q_l99, q_l122, q_l129, q_l137, q_l255, q_l256, q_l400, q_l680, q_l700, q_l959, q_l999, q_l9999, q_l10000, q_l100000, q_l36, q_l50, q_l100, q_l112, q_l200, q_ltT, q_ltF, q_leT, q_leF, q_eqF, q_eqR, q_mlt, q_mle, q_nlm, q_nLm, q_nem, q_men, q_mlm, Nat.add_zero, Nat.sub_zero, q_add0, pk_rem, nI_add, pk_mul, q_sub, q_subm, q_addm, nI_clamp, q_inT, q_inF, q_sr1, q_srn, q_srw, q_srs, q_wIs, q_wIn, q_wI2, q_wJ1, q_wJs, q_wJn, q_wR1, q_wRs, q_wRn, q_wI22, q_wJ22, pk_us, pk_un, pk_uLs, pk_uLn, q_usS, q_usN, q_ups, q_upn, Bool.true_eq_false, Bool.false_eq_true, q_lt, q_o2, q_o3, q_o4, q_o5, q_bi, ↓reduceIte, q_tv0, q_tv1, q_bz, q_oRl, q_oRr, q_oXl, q_oXr, e, q1]) (fun n s hh => by
      obtain ⟨_, g1, g3⟩ := hh
      refine ⟨wI s 6 i (nI (ln a i - 1)), ?_, g1.tr (FMu.w6 _ _ _), ?_, fun k hk => ?_⟩
      · simp (maxSteps := 2000000) (disch := first | rfl | exact q_e1 _ _ _ | exact q_sr1 _ _ | omega) only [f_X5_dropWish_34, ↓q_m1, q_l0, q_l1, q_l2, q_l3, q_l4, q_l5, q_l6, q_l7, q_l8, q_l9, q_l10, q_l11, q_l12, q_l13, q_l14, q_l15, q_l16, q_l17, q_l18, q_l19, q_l20, q_l21, q_l22, q_l23, q_l24, q_l25, q_l26, q_l27, q_l28, q_l29, q_l30, q_l31, q_l32, q_l33, q_l45, q_l46, q_l48, q_l57, q_l58, q_l59, q_l60, q_l61, q_l62, q_l63, q_l64, q_l96, q_l97, q_l99, q_l122, q_l129, q_l137, q_l255, q_l256, q_l400, q_l680, q_l700, q_l959, q_l999, q_l9999, q_l10000, q_l100000, q_l36, q_l50, q_l100, q_l112, q_l200, q_ltT, q_ltF, q_leT, q_leF, q_eqF, q_eqR, q_mlt, q_mle, q_nlm, q_nLm, q_nem, q_men, q_mlm, Nat.add_zero, Nat.sub_zero, q_add0, pk_rem, nI_add, pk_mul, q_sub, q_subm, q_addm, nI_clamp, q_inT, q_inF, q_sr1, q_srn, q_srw, q_srs, q_wIs, q_wIn, q_wI2, q_wJ1, q_wJs, q_wJn, q_wR1, q_wRs, q_wRn, q_wI22, q_wJ22, pk_us, pk_un, pk_uLs, pk_uLn, q_usS, q_usN, q_ups, q_upn, Bool.true_eq_false, Bool.false_eq_true, q_lt, q_o2, q_o3, q_o4, q_o5, q_bi, ↓reduceIte, q_tv0, q_tv1, q_bz, q_oRl, q_oRr, q_oXl, q_oXr]
      · simp (maxSteps := 2000000) (disch := first | rfl | exact q_e1 _ _ _ | exact q_sr1 _ _ | omega) only [q_sr1, q_srn, q_srw, q_srs, q_wIs, q_wIn, q_wI2, q_wJ1, q_wJs, q_wJn, q_wR1, q_wRs, q_wRn, q_wI22, q_wJ22, pk_us, pk_un, pk_uLs, pk_uLn, q_usS, q_usN, q_ups, q_upn]
      · rw [q_wIn (by omega), g3 k (by omega), drF]
        by_cases e : k < r
        · rw [if_neg (by omega), if_pos e]
        · rw [if_pos (by omega), if_neg e]) (fu_lt (show ln a i - 1 < 2000 by omega)) ⟨Nat.le_refl _, ⟨fun _ _ _ => rfl, rfl, fun _ _ => rfl, fun _ _ => rfl⟩, fun j hj => by rw [if_neg (by omega)]; exact h6 i j hi hj⟩
  have hb : LB i (ln a i - 1) (drF a i r) μ μ' a (lsA a i (ln a i - 1) (drF a i r)) := ⟨f2, lsA_o _ _ _ _, f3, lsA_4 _ _ _ _, fun k hk => by
    rw [lsA_k _ _ _ _ (by omega)]; exact ⟨f4 k hk, rfl⟩⟩
  refine ⟨μ', ?_, hb, LB.mx h hi (by omega) hb (fun k hk => ?_) (fun k k' hk hk' e => ?_)⟩
  · simp (maxSteps := 2000000) (disch := first | rfl | exact q_e1 _ _ _ | exact q_sr1 _ _ | omega) only [f_X5_dropWish, s_rankIn h.1 w hi, s_hasSeller h.1 hi h8, hv, (h.1.2.2.1 i hi).2.2.2, hl.2, ↓q_m1, q_l0, q_l1, q_l2, q_l3, q_l4, q_l5, q_l6, q_l7, q_l8, q_l9, q_l10, q_l11, q_l12, q_l13, q_l14, q_l15, q_l16, q_l17, q_l18, q_l19, q_l20, q_l21, q_l22, q_l23, q_l24, q_l25, q_l26, q_l27, q_l28, q_l29, q_l30, q_l31, q_l32, q_l33, q_l45, q_l46, q_l48, q_l57, q_l58, q_l59, q_l60, q_l61, q_l62, q_l63, q_l64, q_l96, q_l97, q_l99, q_l122, q_l129, q_l137, q_l255, q_l256, q_l400, q_l680, q_l700, q_l959, q_l999, q_l9999, q_l10000, q_l100000, q_l36, q_l50, q_l100, q_l112, q_l200, q_ltT, q_ltF, q_leT, q_leF, q_eqF, q_eqR, q_mlt, q_mle, q_nlm, q_nLm, q_nem, q_men, q_mlm, Nat.add_zero, Nat.sub_zero, q_add0, pk_rem, nI_add, pk_mul, q_sub, q_subm, q_addm, nI_clamp, q_inT, q_inF, q_sr1, q_srn, q_srw, q_srs, q_wIs, q_wIn, q_wI2, q_wJ1, q_wJs, q_wJn, q_wR1, q_wRs, q_wRn, q_wI22, q_wJ22, pk_us, pk_un, pk_uLs, pk_uLn, q_usS, q_usN, q_ups, q_upn, Bool.true_eq_false, Bool.false_eq_true, q_lt, q_o2, q_o3, q_o4, q_o5, q_bi, ↓reduceIte, q_tv0, q_tv1, q_bz, q_oRl, q_oRr, q_oXl, q_oXr]
    exact f1
  · unfold drF
    by_cases e : k < r
    · rw [if_pos e]; exact w.2.2.1 i k hi (by omega)
    · rw [if_neg e]; exact w.2.2.1 i (k + 1) hi (by omega)
  · unfold drF at e
    by_cases e1 : k < r
    · rw [if_pos e1] at e
      by_cases e2 : k' < r
      · rw [if_pos e2] at e; exact h.2.2.2.1.1 i k k' hi (by omega) (by omega) e
      · rw [if_neg e2] at e; have := h.2.2.2.1.1 i k (k' + 1) hi (by omega) (by omega) e; omega
    · rw [if_neg e1] at e
      by_cases e2 : k' < r
      · rw [if_pos e2] at e; have := h.2.2.2.1.1 i (k + 1) k' hi (by omega) (by omega) e; omega
      · rw [if_neg e2] at e; have := h.2.2.2.1.1 i (k + 1) (k' + 1) hi (by omega) (by omega) e; omega
/-- a stall is put first, p places move -/
def fsF (a : Nat → Int32) (i t p : Nat) : Nat → Int32 := fun k => if k = 0 then nI t else if k ≤ p then a (25 + 13 * i + (5 + (k - 1))) else a (25 + 13 * i + (5 + k))
theorem shift_c {b : Nat → Int32} {i L : Nat} (hL : L ≤ 7) (hi : i < 8) (h6 : ∀ k, k < L → μ.1 7 (i * 8 + k) = b k) : ∃ μ', f_X5_wishFirst_30 (nI i) FU (nI L) μ = some μ' ∧ FMu i μ μ' ∧ ∀ j, j < L → μ'.1 7 (i * 8 + (j + 1)) = b j := by
  have key : ∀ (k m : Nat) (s : OM), k ≤ L → k < m → FMu i μ s → (∀ j, j < k → s.1 7 (i * 8 + j) = b j) → (∀ j, k ≤ j → j < L → s.1 7 (i * 8 + (j + 1)) = b j) → ∃ μ', f_X5_wishFirst_30 (nI i) m (nI k) s = some μ' ∧ FMu i μ μ' ∧ ∀ j, j < L → μ'.1 7 (i * 8 + (j + 1)) = b j := by
    intro k
    induction k with
    | zero =>
      intro m s hk hm g1 g2 g3
      obtain ⟨m, rfl⟩ : ∃ q, m = q + 1 := ⟨m - 1, by omega⟩
      exact ⟨s, by simp (maxSteps := 2000000) (disch := first | rfl | exact q_e1 _ _ _ | exact q_sr1 _ _ | omega) only [f_X5_wishFirst_30, ↓q_m1, q_l0, q_l1, q_l2, q_l3, q_l4, q_l5, q_l6, q_l7, q_l8, q_l9, q_l10, q_l11, q_l12, q_l13, q_l14, q_l15, q_l16, q_l17, q_l18, q_l19, q_l20, q_l21, q_l22, q_l23, q_l24, q_l25, q_l26, q_l27, q_l28, q_l29, q_l30, q_l31, q_l32, q_l33, q_l45, q_l46, q_l48, q_l57, q_l58, q_l59, q_l60, q_l61, q_l62, q_l63, q_l64, q_l96, q_l97, q_l99, q_l122, q_l129, q_l137, q_l255, q_l256, q_l400, q_l680, q_l700, q_l959, q_l999, q_l9999, q_l10000, q_l100000, q_l36, q_l50, q_l100, q_l112, q_l200, q_ltT, q_ltF, q_leT, q_leF, q_eqF, q_eqR, q_mlt, q_mle, q_nlm, q_nLm, q_nem, q_men, q_mlm, Nat.add_zero, Nat.sub_zero, q_add0, pk_rem, nI_add, pk_mul, q_sub, q_subm, q_addm, nI_clamp, q_inT, q_inF, q_sr1, q_srn, q_srw, q_srs, q_wIs, q_wIn, q_wI2, q_wJ1, q_wJs, q_wJn, q_wR1, q_wRs, q_wRn, q_wI22, q_wJ22, pk_us, pk_un, pk_uLs, pk_uLn, q_usS, q_usN, q_ups, q_upn, Bool.true_eq_false, Bool.false_eq_true, q_lt, q_o2, q_o3, q_o4, q_o5, q_bi, ↓reduceIte, q_tv0, q_tv1, q_bz, q_oRl, q_oRr, q_oXl, q_oXr], g1, fun j hj => g3 j (by omega) hj⟩
    | succ k ih =>
      intro m s hk hm g1 g2 g3
      obtain ⟨m, rfl⟩ : ∃ q, m = q + 1 := ⟨m - 1, by omega⟩
      obtain ⟨μ', f1, f2, f3⟩ := ih m (wI s 7 (i * 8 + (k + 1)) (b k)) (by omega) (by omega) (g1.tr (FMu.w7 (by omega) _ _)) (fun j hj => by rw [q_wIs, pk_un (by omega)]; exact g2 j (by omega)) (fun j hj hj' => by
        by_cases e : j = k
        · subst e; rw [q_wIs, pk_us]
        · rw [q_wIs, pk_un (by omega)]; exact g3 j (by omega) hj')
      refine ⟨μ', ?_, f2, f3⟩
      have e1 : i * 8 + (k + 1) - 1 = i * 8 + k := by omega
      have e2 : k + 1 - 1 = k := by omega
      simp (maxSteps := 2000000) (disch := first | rfl | exact q_e1 _ _ _ | exact q_sr1 _ _ | omega) only [f_X5_wishFirst_30, ↓q_m1, q_l0, q_l1, q_l2, q_l3, q_l4, q_l5, q_l6, q_l7, q_l8, q_l9, q_l10, q_l11, q_l12, q_l13, q_l14, q_l15, q_l16, q_l17, q_l18, q_l19, q_l20, q_l21, q_l22, q_l23, q_l24, q_l25, q_l26, q_l27, q_l28, q_l29, q_l30, q_l31, q_l32, q_l33, q_l45, q_l46, q_l48, q_l57, q_l58, q_l59, q_l60, q_l61, q_l62, q_l63, q_l64, q_l96, q_l97, q_l99, q_l122, q_l129, q_l137, q_l255, q_l256, q_l400, q_l680, q_l700, q_l959, q_l999, q_l9999, q_l10000, q_l100000, q_l36, q_l50, q_l100, q_l112, q_l200, q_ltT, q_ltF, q_leT, q_leF, q_eqF, q_eqR, q_mlt, q_mle, q_nlm, q_nLm, q_nem, q_men, q_mlm, Nat.add_zero, Nat.sub_zero, q_add0, pk_rem, nI_add, pk_mul, q_sub, q_subm, q_addm, nI_clamp, q_inT, q_inF, q_sr1, q_srn, q_srw, q_srs, q_wIs, q_wIn, q_wI2, q_wJ1, q_wJs, q_wJn, q_wR1, q_wRs, q_wRn, q_wI22, q_wJ22, pk_us, pk_un, pk_uLs, pk_uLn, q_usS, q_usN, q_ups, q_upn, Bool.true_eq_false, Bool.false_eq_true, q_lt, q_o2, q_o3, q_o4, q_o5, q_bi, ↓reduceIte, q_tv0, q_tv1, q_bz, q_oRl, q_oRr, q_oXl, q_oXr, e1, e2, g2 k (by omega)]
      exact f1
  exact key L FU μ (Nat.le_refl _) (fu_lt (by omega)) ⟨fun _ _ _ => rfl, rfl, fun _ _ => rfl, fun _ _ => rfl⟩ h6 (fun j hj hj' => by omega)
/-- where a stall stands, and how long the list is then -/
theorem fst_pn (h : MX B S T μ a) {i t : Nat} (hi : i < S) (ht : t < T) : ∃ p n, n ≤ 8 ∧ 1 ≤ n ∧ p < n ∧ ((rk a i (nI t) = m1 ∧ p = ln a i ∧ n = ln a i + 1) ∨ (rk a i (nI t) = nI p ∧ p < ln a i ∧ n = ln a i)) := by
  have w := h.2.2.1
  have t8 := w.1.2
  have hl := (w.2.1 i hi).1
  rcases rk_cases a i (nI t) with hv | ⟨r, hr, hv⟩
  · have hroom := lst_room w h.2.2.2.1 hi ht hv
    exact ⟨ln a i, ln a i + 1, by omega, by omega, by omega, Or.inl ⟨hv, rfl, rfl⟩⟩
  · exact ⟨r, ln a i, by omega, by omega, hr, Or.inr ⟨hv, hr, rfl⟩⟩
theorem first_c (h : MX B S T μ a) {i t p n : Nat} (hi : i < S) (ht : t < T) (hn : n ≤ 8) (h1n : 1 ≤ n) (hp : p < n) (hc : (rk a i (nI t) = m1 ∧ p = ln a i ∧ n = ln a i + 1) ∨ (rk a i (nI t) = nI p ∧ p < ln a i ∧ n = ln a i)) : ∃ μ', f_X5_wishFirst (nI i) (nI t) μ = some μ' ∧ MX B S T μ' (lsA a i n (fsF a i t p)) := by
  have w := h.2.2.1
  have d := h.2.2.2.1
  have h8 := w.1.1
  have t8 := w.1.2
  have hl := w.2.1 i hi
  -- the end on both roads: a list of n - 1 stalls without t moves up
  have fin : ∀ ν : OM, FMu i μ ν → (∀ k, k < n - 1 → ν.1 7 (i * 8 + k) = fsF a i t p (k + 1)) → ∃ μ', f_X5_wishFirst_30 (nI i) FU (nI (n - 1)) ν = some μ' ∧ MX B S T (wI (wI μ' 7 (i * 8) (nI t)) 6 i (nI n)) (lsA a i n (fsF a i t p)) := by
    intro ν g1 g2
    obtain ⟨μ', f1, f2, f3⟩ := shift_c (μ := ν) (b := fun k => fsF a i t p (k + 1)) (i := i) (L := n - 1) (by omega) (by omega) g2
    have hb : LB i n (fsF a i t p) μ (wI (wI μ' 7 (i * 8) (nI t)) 6 i (nI n)) a (lsA a i n (fsF a i t p)) := by
      refine ⟨((g1.tr f2).tr (FMu.w7 (k := 0) (by omega) _ _)).tr (FMu.w6 _ _ _), lsA_o _ _ _ _, by simp (maxSteps := 2000000) (disch := first | rfl | exact q_e1 _ _ _ | exact q_sr1 _ _ | omega) only [q_sr1, q_srn, q_srw, q_srs, q_wIs, q_wIn, q_wI2, q_wJ1, q_wJs, q_wJn, q_wR1, q_wRs, q_wRn, q_wI22, q_wJ22, pk_us, pk_un, pk_uLs, pk_uLn, q_usS, q_usN, q_ups, q_upn], lsA_4 _ _ _ _, fun k hk => ?_⟩
      rw [lsA_k _ _ _ _ (by omega)]
      refine ⟨?_, rfl⟩
      by_cases e : k = 0
      · subst e
        rw [fsF, if_pos rfl]
        simp (maxSteps := 2000000) (disch := first | rfl | exact q_e1 _ _ _ | exact q_sr1 _ _ | omega) only [q_sr1, q_srn, q_srw, q_srs, q_wIs, q_wIn, q_wI2, q_wJ1, q_wJs, q_wJn, q_wR1, q_wRs, q_wRn, q_wI22, q_wJ22, pk_us, pk_un, pk_uLs, pk_uLn, q_usS, q_usN, q_ups, q_upn, Nat.add_zero]
      · obtain ⟨j, rfl⟩ : ∃ j, k = j + 1 := ⟨k - 1, by omega⟩
        rw [q_wIn (by omega), q_wIs, pk_un (by omega)]
        exact f3 j (by omega)
    refine ⟨μ', f1, LB.mx h hi hn hb (fun k hk => ?_) (fun k k' hk hk' e => ?_)⟩
    · unfold fsF
      by_cases e : k = 0
      · rw [if_pos e]; exact ⟨t, ht, rfl⟩
      · rw [if_neg e]
        by_cases e2 : k ≤ p
        · rw [if_pos e2]
          refine w.2.2.1 i (k - 1) hi ?_
          rcases hc with ⟨_, c2, c3⟩ | ⟨_, c2, c3⟩ <;> omega
        · rw [if_neg e2]
          refine w.2.2.1 i k hi ?_
          rcases hc with ⟨_, c2, c3⟩ | ⟨_, c2, c3⟩ <;> omega
    · have hne : ∀ q, q < ln a i → q ≠ p → a (25 + 13 * i + (5 + q)) ≠ nI t := fun q hq hqp e => by
        rcases hc with ⟨c1, _⟩ | ⟨c1, c2, _⟩
        · exact of_decide_eq_false ((fd_none (show ln a i < 2 ^ 31 by omega)).mp c1 q hq) e
        · have hrr := (fd_some (show ln a i < 2 ^ 31 by omega) (show p < 2 ^ 31 by omega)).mp c1
          have := d.1 i q p hi hq c2 (e.trans (of_decide_eq_true hrr.2.1).symm)
          omega
      have sel : ∀ q, q < n → q ≠ 0 → ∃ x, x < ln a i ∧ x ≠ p ∧ fsF a i t p q = a (25 + 13 * i + (5 + x)) ∧ (x = q - 1 ∧ q ≤ p ∨ x = q ∧ p < q) := fun q hq h0 => by
        by_cases e2 : q ≤ p
        · refine ⟨q - 1, ?_, by omega, by rw [fsF, if_neg h0, if_pos e2], Or.inl ⟨rfl, e2⟩⟩
          rcases hc with ⟨_, c2, c3⟩ | ⟨_, c2, c3⟩ <;> omega
        · refine ⟨q, ?_, by omega, by rw [fsF, if_neg h0, if_neg e2], Or.inr ⟨rfl, by omega⟩⟩
          rcases hc with ⟨_, c2, c3⟩ | ⟨_, c2, c3⟩ <;> omega
      by_cases e1 : k = 0
      · by_cases e2 : k' = 0
        · omega
        · obtain ⟨x, x1, x2, x3, _⟩ := sel k' hk' e2
          rw [x3, e1, fsF, if_pos rfl] at e
          exact absurd e.symm (hne x x1 x2)
      · obtain ⟨x, x1, x2, x3, x4⟩ := sel k hk e1
        by_cases e2 : k' = 0
        · rw [x3, e2, fsF, if_pos rfl] at e
          exact absurd e (hne x x1 x2)
        · obtain ⟨y, y1, y2, y3, y4⟩ := sel k' hk' e2
          rw [x3, y3] at e
          have := d.1 i x y hi x1 y1 e
          omega
  rcases hc with ⟨c1, c2, c3⟩ | ⟨c1, c2, c3⟩
  · obtain ⟨μ', f1, f3⟩ := fin μ ⟨fun _ _ _ => rfl, rfl, fun _ _ => rfl, fun _ _ => rfl⟩ (fun k hk => by
      rw [fsF, if_neg (by omega), if_pos (by omega), Nat.add_sub_cancel]
      exact h.1.2.2.2.1 i k hi (by omega))
    have en : n - 1 = ln a i := by omega
    rw [en] at f1
    have en1 : ln a i + 1 = n := by omega
    refine ⟨_, ?_, f3⟩
    simp (maxSteps := 2000000) (disch := first | rfl | exact q_e1 _ _ _ | exact q_sr1 _ _ | omega) only [f_X5_wishFirst, f_X5_dropWish, s_rankIn h.1 w hi, s_hasSeller h.1 hi h8, c1, s_wishesOf h.1 h8 hi, hl.2, f1, ↓q_m1, q_l0, q_l1, q_l2, q_l3, q_l4, q_l5, q_l6, q_l7, q_l8, q_l9, q_l10, q_l11, q_l12, q_l13, q_l14, q_l15, q_l16, q_l17, q_l18, q_l19, q_l20, q_l21, q_l22, q_l23, q_l24, q_l25, q_l26, q_l27, q_l28, q_l29, q_l30, q_l31, q_l32, q_l33, q_l45, q_l46, q_l48, q_l57, q_l58, q_l59, q_l60, q_l61, q_l62, q_l63, q_l64, q_l96, q_l97, q_l99, q_l122, q_l129, q_l137, q_l255, q_l256, q_l400, q_l680, q_l700, q_l959, q_l999, q_l9999, q_l10000, q_l100000, q_l36, q_l50, q_l100, q_l112, q_l200, q_ltT, q_ltF, q_leT, q_leF, q_eqF, q_eqR, q_mlt, q_mle, q_nlm, q_nLm, q_nem, q_men, q_mlm, Nat.add_zero, Nat.sub_zero, q_add0, pk_rem, nI_add, pk_mul, q_sub, q_subm, q_addm, nI_clamp, q_inT, q_inF, q_sr1, q_srn, q_srw, q_srs, q_wIs, q_wIn, q_wI2, q_wJ1, q_wJs, q_wJn, q_wR1, q_wRs, q_wRn, q_wI22, q_wJ22, pk_us, pk_un, pk_uLs, pk_uLn, q_usS, q_usN, q_ups, q_upn, Bool.true_eq_false, Bool.false_eq_true, q_lt, q_o2, q_o3, q_o4, q_o5, q_bi, ↓reduceIte, q_tv0, q_tv1, q_bz, q_oRl, q_oRr, q_oXl, q_oXr, en1]
  · obtain ⟨μ1, g1, g3, g4⟩ := drop_c h hi c2 c1
    obtain ⟨μ', f1, f3⟩ := fin μ1 g3.1 (fun k hk => by
      have e1 : fsF a i t p (k + 1) = if k + 1 ≤ p then a (25 + 13 * i + (5 + k)) else a (25 + 13 * i + (5 + (k + 1))) := by
        rw [fsF, if_neg (by omega), Nat.add_sub_cancel]
      rw [(g3.2.2.2.2 k (by omega)).1, (g3.2.2.2.2 k (by omega)).2, e1, drF]
      by_cases e : k < p
      · rw [if_pos e, if_pos (by omega)]
      · rw [if_neg e, if_neg (by omega)])
    have en : n - 1 = ln a i - 1 := by omega
    rw [en] at f1
    have en1 : ln a i - 1 + 1 = n := by omega
    have hw1 : f_X5_wishesOf (nI i) μ1 = some (nI (ln a i - 1)) := by
      rw [s_wishesOf g4.1 h8 hi, lsA_4]
    refine ⟨_, ?_, f3⟩
    simp (maxSteps := 2000000) (disch := first | rfl | exact q_e1 _ _ _ | exact q_sr1 _ _ | omega) only [f_X5_wishFirst, g1, s_hasSeller g4.1 hi h8, hw1, f1, ↓q_m1, q_l0, q_l1, q_l2, q_l3, q_l4, q_l5, q_l6, q_l7, q_l8, q_l9, q_l10, q_l11, q_l12, q_l13, q_l14, q_l15, q_l16, q_l17, q_l18, q_l19, q_l20, q_l21, q_l22, q_l23, q_l24, q_l25, q_l26, q_l27, q_l28, q_l29, q_l30, q_l31, q_l32, q_l33, q_l45, q_l46, q_l48, q_l57, q_l58, q_l59, q_l60, q_l61, q_l62, q_l63, q_l64, q_l96, q_l97, q_l99, q_l122, q_l129, q_l137, q_l255, q_l256, q_l400, q_l680, q_l700, q_l959, q_l999, q_l9999, q_l10000, q_l100000, q_l36, q_l50, q_l100, q_l112, q_l200, q_ltT, q_ltF, q_leT, q_leF, q_eqF, q_eqR, q_mlt, q_mle, q_nlm, q_nLm, q_nem, q_men, q_mlm, Nat.add_zero, Nat.sub_zero, q_add0, pk_rem, nI_add, pk_mul, q_sub, q_subm, q_addm, nI_clamp, q_inT, q_inF, q_sr1, q_srn, q_srw, q_srs, q_wIs, q_wIn, q_wI2, q_wJ1, q_wJs, q_wJn, q_wR1, q_wRs, q_wRn, q_wI22, q_wJ22, pk_us, pk_un, pk_uLs, pk_uLn, q_usS, q_usN, q_ups, q_upn, Bool.true_eq_false, Bool.false_eq_true, q_lt, q_o2, q_o3, q_o4, q_o5, q_bi, ↓reduceIte, q_tv0, q_tv1, q_bz, q_oRl, q_oRr, q_oXl, q_oXr, en1]
/-- the law's own: a stall is put first -/
theorem o_first (o : OW S T ω a) (w : WL S T a) {i t p n : Nat} (hi : i < S) (hn : n ≤ 8) (hp : p < n) (hc : (rk a i (nI t) = m1 ∧ p = ln a i ∧ n = ln a i + 1) ∨ (rk a i (nI t) = nI p ∧ p < ln a i ∧ n = ln a i)) : ∃ ω', f_X13_toFront (nI i) (nI t) ω = some ω' ∧ OW S T ω' (lsA a i n (fsF a i t p)) ∧ ω'.1 6 i = nI n := by
  have h8 := w.1.1
  have hl := w.2.1 i hi
  have key : ∀ (k m : Nat) (s : OM), k ≤ p → k < m → (∀ x, x ≠ 12 + i → s.1 x = ω.1 x ∨ (x = 6 ∧ s.1 x = upd (ω.1 6) i (nI n))) → s.1 6 i = nI n → (∀ j, j ≠ i → s.1 6 j = ω.1 6 j) → (∀ j, k < j → j < n → s.1 (12 + i) j = fsF a i t p j) → (∀ j, j < k → s.1 (12 + i) j = a (25 + 13 * i + (5 + j))) → ∃ ω', f_X13_toFront_24 (nI i) (nI t) m (nI k) s = some ω' ∧ OW S T ω' (lsA a i n (fsF a i t p)) ∧ ω'.1 6 i = nI n := by
    intro k
    induction k with
    | zero =>
      intro m s hk hm g1 g2 g3 g4 g5
      obtain ⟨m, rfl⟩ : ∃ q, m = q + 1 := ⟨m - 1, by omega⟩
      refine ⟨wI s (12 + i) 0 (nI t), by simp (maxSteps := 2000000) (disch := first | rfl | exact q_e1 _ _ _ | exact q_sr1 _ _ | omega) only [f_X13_toFront_24, ↓q_m1, q_l0, q_l1, q_l2, q_l3, q_l4, q_l5, q_l6, q_l7, q_l8, q_l9, q_l10, q_l11, q_l12, q_l13, q_l14, q_l15, q_l16, q_l17, q_l18, q_l19, q_l20, q_l21, q_l22, q_l23, q_l24, q_l25, q_l26, q_l27, q_l28, q_l29, q_l30, q_l31, q_l32, q_l33, q_l45, q_l46, q_l48, q_l57, q_l58, q_l59, q_l60, q_l61, q_l62, q_l63, q_l64, q_l96, q_l97, q_l99, q_l122, q_l129, q_l137, q_l255, q_l256, q_l400, q_l680, q_l700, q_l959, q_l999, q_l9999, q_l10000, q_l100000, q_l36, q_l50, q_l100, q_l112, q_l200, q_ltT, q_ltF, q_leT, q_leF, q_eqF, q_eqR, q_mlt, q_mle, q_nlm, q_nLm, q_nem, q_men, q_mlm, Nat.add_zero, Nat.sub_zero, q_add0, pk_rem, nI_add, pk_mul, q_sub, q_subm, q_addm, nI_clamp, q_inT, q_inF, q_sr1, q_srn, q_srw, q_srs, q_wIs, q_wIn, q_wI2, q_wJ1, q_wJs, q_wJn, q_wR1, q_wRs, q_wRn, q_wI22, q_wJ22, pk_us, pk_un, pk_uLs, pk_uLn, q_usS, q_usN, q_ups, q_upn, Bool.true_eq_false, Bool.false_eq_true, q_lt, q_o2, q_o3, q_o4, q_o5, q_bi, ↓reduceIte, q_tv0, q_tv1, q_bz, q_oRl, q_oRr, q_oXl, q_oXr], o.list w hi hn (fun x h6 h12 => ?_) (fun j hj => ?_) ?_ (fun j hj => ?_), ?_⟩
      · rw [q_wIn h12]
        rcases g1 x h12 with e | ⟨e, _⟩
        · exact e
        · omega
      · rw [q_wIn (by omega)]; exact g3 j hj
      · rw [q_wIn (by omega)]; exact g2
      · by_cases e : j = 0
        · subst e; rw [q_wIs, pk_us, fsF, if_pos rfl]
        · rw [q_wIs, pk_un e]; exact g4 j (by omega) hj
      · rw [q_wIn (by omega)]; exact g2
    | succ k ih =>
      intro m s hk hm g1 g2 g3 g4 g5
      obtain ⟨m, rfl⟩ : ∃ q, m = q + 1 := ⟨m - 1, by omega⟩
      obtain ⟨ω', f1, f2⟩ := ih m (wI s (12 + i) (k + 1) (a (25 + 13 * i + (5 + k)))) (by omega) (by omega) (fun x h12 => by rw [q_wIn h12]; exact g1 x h12) (by rw [q_wIn (by omega)]; exact g2) (fun j hj => by rw [q_wIn (by omega)]; exact g3 j hj) (fun j hj hj' => by
        by_cases e : j = k + 1
        · subst e; rw [q_wIs, pk_us, fsF, if_neg (by omega), if_pos (by omega), Nat.add_sub_cancel]
        · rw [q_wIs, pk_un e]; exact g4 j (by omega) hj') (fun j hj => by rw [q_wIs, pk_un (by omega)]; exact g5 j (by omega))
      refine ⟨ω', ?_, f2⟩
      have e2 : k + 1 - 1 = k := by omega
      simp (maxSteps := 2000000) (disch := first | rfl | exact q_e1 _ _ _ | exact q_sr1 _ _ | omega) only [f_X13_toFront_24, ↓q_m1, q_l0, q_l1, q_l2, q_l3, q_l4, q_l5, q_l6, q_l7, q_l8, q_l9, q_l10, q_l11, q_l12, q_l13, q_l14, q_l15, q_l16, q_l17, q_l18, q_l19, q_l20, q_l21, q_l22, q_l23, q_l24, q_l25, q_l26, q_l27, q_l28, q_l29, q_l30, q_l31, q_l32, q_l33, q_l45, q_l46, q_l48, q_l57, q_l58, q_l59, q_l60, q_l61, q_l62, q_l63, q_l64, q_l96, q_l97, q_l99, q_l122, q_l129, q_l137, q_l255, q_l256, q_l400, q_l680, q_l700, q_l959, q_l999, q_l9999, q_l10000, q_l100000, q_l36, q_l50, q_l100, q_l112, q_l200, q_ltT, q_ltF, q_leT, q_leF, q_eqF, q_eqR, q_mlt, q_mle, q_nlm, q_nLm, q_nem, q_men, q_mlm, Nat.add_zero, Nat.sub_zero, q_add0, pk_rem, nI_add, pk_mul, q_sub, q_subm, q_addm, nI_clamp, q_inT, q_inF, q_sr1, q_srn, q_srw, q_srs, q_wIs, q_wIn, q_wI2, q_wJ1, q_wJs, q_wJn, q_wR1, q_wRs, q_wRn, q_wI22, q_wJ22, pk_us, pk_un, pk_uLs, pk_uLn, q_usS, q_usN, q_ups, q_upn, Bool.true_eq_false, Bool.false_eq_true, q_lt, q_o2, q_o3, q_o4, q_o5, q_bi, ↓reduceIte, q_tv0, q_tv1, q_bz, q_oRl, q_oRr, q_oXl, q_oXr, e2, g5 k (by omega)]
      exact f1
  have hr := o_rank o w hi (nI t)
  rcases hc with ⟨c1, c2, c3⟩ | ⟨c1, c2, c3⟩
  · obtain ⟨ω', f1, f2⟩ := key p FU (wI ω 6 i (nI n)) (Nat.le_refl _) (fu_lt (by omega)) (fun x _ => by
      by_cases e : x = 6
      · subst e; exact Or.inr ⟨rfl, q_wIs _ _ _ _⟩
      · exact Or.inl (q_wIn e)) (by simp (maxSteps := 2000000) (disch := first | rfl | exact q_e1 _ _ _ | exact q_sr1 _ _ | omega) only [q_sr1, q_srn, q_srw, q_srs, q_wIs, q_wIn, q_wI2, q_wJ1, q_wJs, q_wJn, q_wR1, q_wRs, q_wRn, q_wI22, q_wJ22, pk_us, pk_un, pk_uLs, pk_uLn, q_usS, q_usN, q_ups, q_upn]) (fun j hj => by rw [q_wIs, pk_un hj]) (fun j hj hj' => by omega) (fun j hj => by rw [q_wIn (by omega)]; exact o.2.2.1 i j hi (by omega))
    refine ⟨ω', ?_, f2⟩
    rw [c1] at hr
    have en1 : ln a i + 1 = n := by omega
    subst c2
    simp (maxSteps := 2000000) (disch := first | rfl | exact q_e1 _ _ _ | exact q_sr1 _ _ | omega) only [f_X13_toFront, hr, (o.2.1 i hi).2.2.2, hl.2, ↓q_m1, q_l0, q_l1, q_l2, q_l3, q_l4, q_l5, q_l6, q_l7, q_l8, q_l9, q_l10, q_l11, q_l12, q_l13, q_l14, q_l15, q_l16, q_l17, q_l18, q_l19, q_l20, q_l21, q_l22, q_l23, q_l24, q_l25, q_l26, q_l27, q_l28, q_l29, q_l30, q_l31, q_l32, q_l33, q_l45, q_l46, q_l48, q_l57, q_l58, q_l59, q_l60, q_l61, q_l62, q_l63, q_l64, q_l96, q_l97, q_l99, q_l122, q_l129, q_l137, q_l255, q_l256, q_l400, q_l680, q_l700, q_l959, q_l999, q_l9999, q_l10000, q_l100000, q_l36, q_l50, q_l100, q_l112, q_l200, q_ltT, q_ltF, q_leT, q_leF, q_eqF, q_eqR, q_mlt, q_mle, q_nlm, q_nLm, q_nem, q_men, q_mlm, Nat.add_zero, Nat.sub_zero, q_add0, pk_rem, nI_add, pk_mul, q_sub, q_subm, q_addm, nI_clamp, q_inT, q_inF, q_sr1, q_srn, q_srw, q_srs, q_wIs, q_wIn, q_wI2, q_wJ1, q_wJs, q_wJn, q_wR1, q_wRs, q_wRn, q_wI22, q_wJ22, pk_us, pk_un, pk_uLs, pk_uLn, q_usS, q_usN, q_ups, q_upn, Bool.true_eq_false, Bool.false_eq_true, q_lt, q_o2, q_o3, q_o4, q_o5, q_bi, ↓reduceIte, q_tv0, q_tv1, q_bz, q_oRl, q_oRr, q_oXl, q_oXr, en1]
    exact f1
  · obtain ⟨ω', f1, f2⟩ := key p FU ω (Nat.le_refl _) (fu_lt (by omega)) (fun x _ => Or.inl rfl) (by rw [(o.2.1 i hi).2.2.2, hl.2, c3]) (fun j hj => rfl) (fun j hj hj' => by
      rw [o.2.2.1 i j hi (by omega), fsF, if_neg (by omega), if_neg (by omega)]) (fun j hj => o.2.2.1 i j hi (by omega))
    refine ⟨ω', ?_, f2⟩
    rw [c1] at hr
    simp (maxSteps := 2000000) (disch := first | rfl | exact q_e1 _ _ _ | exact q_sr1 _ _ | omega) only [f_X13_toFront, hr, ↓q_m1, q_l0, q_l1, q_l2, q_l3, q_l4, q_l5, q_l6, q_l7, q_l8, q_l9, q_l10, q_l11, q_l12, q_l13, q_l14, q_l15, q_l16, q_l17, q_l18, q_l19, q_l20, q_l21, q_l22, q_l23, q_l24, q_l25, q_l26, q_l27, q_l28, q_l29, q_l30, q_l31, q_l32, q_l33, q_l45, q_l46, q_l48, q_l57, q_l58, q_l59, q_l60, q_l61, q_l62, q_l63, q_l64, q_l96, q_l97, q_l99, q_l122, q_l129, q_l137, q_l255, q_l256, q_l400, q_l680, q_l700, q_l959, q_l999, q_l9999, q_l10000, q_l100000, q_l36, q_l50, q_l100, q_l112, q_l200, q_ltT, q_ltF, q_leT, q_leF, q_eqF, q_eqR, q_mlt, q_mle, q_nlm, q_nLm, q_nem, q_men, q_mlm, Nat.add_zero, Nat.sub_zero, q_add0, pk_rem, nI_add, pk_mul, q_sub, q_subm, q_addm, nI_clamp, q_inT, q_inF, q_sr1, q_srn, q_srw, q_srs, q_wIs, q_wIn, q_wI2, q_wJ1, q_wJs, q_wJn, q_wR1, q_wRs, q_wRn, q_wI22, q_wJ22, pk_us, pk_un, pk_uLs, pk_uLn, q_usS, q_usN, q_ups, q_upn, Bool.true_eq_false, Bool.false_eq_true, q_lt, q_o2, q_o3, q_o4, q_o5, q_bi, ↓reduceIte, q_tv0, q_tv1, q_bz, q_oRl, q_oRr, q_oXl, q_oXr]
    exact f1
end LST

/-! the reference's search for the shortest way back -/
/-- how far a seller is, as known when step n begins -/
def qFv (S : Nat) (a : Nat → Int32) (s : Nat) : Nat → Nat → Int32
  | 0, y => if y = s then nI 0 else m1
  | n + 1, y => if qFv S a s n y = m1 ∧ Rn S a s (n + 1) y = true then nI (n + 1) else qFv S a s n y
section CYC
variable {S T : Nat} {a : Nat → Int32}
theorem Fv_c {s : Nat} : ∀ {n : Nat}, n < 2 ^ 30 → ∀ y : Nat, (qFv S a s n y = m1 ∧ ∀ d, d ≤ n → Rn S a s d y = false) ∨ ∃ d, d ≤ n ∧ qFv S a s n y = nI d ∧ Rn S a s d y = true ∧ ∀ e, e < d → Rn S a s e y = false
  | 0, _, y => by
    rw [qFv]
    by_cases e : y = s
    · rw [if_pos e]; exact Or.inr ⟨0, Nat.le_refl _, rfl, Rn_0.mpr e, fun e he => by omega⟩
    · rw [if_neg e]; exact Or.inl ⟨rfl, fun d hd => by
        have : d = 0 := by omega
        subst this; rw [Rn]; exact decide_eq_false e⟩
  | n + 1, hn, y => by
    rw [qFv]
    rcases Fv_c (n := n) (by omega) y with ⟨h1, h2⟩ | ⟨d, h1, h2, h3, h4⟩
    · cases hR : Rn S a s (n + 1) y with
      | false =>
        rw [if_neg (by simp)]
        refine Or.inl ⟨h1, fun d hd => ?_⟩
        by_cases e : d = n + 1
        · subst e; exact hR
        · exact h2 d (by omega)
      | true =>
        rw [if_pos ⟨h1, rfl⟩]
        exact Or.inr ⟨n + 1, Nat.le_refl _, rfl, hR, fun e he => h2 e (by omega)⟩
    · rw [if_neg (fun hh => by rw [h2] at hh; exact (q_nem (show d < 2 ^ 31 by omega)).mp hh.1)]
      exact Or.inr ⟨d, by omega, h2, h3, h4⟩
/-- who is reached in a step is reached from one that the step before reached -/
theorem Fv_e (h8 : S ≤ 8) {s n y : Nat} (hn : n < 2 ^ 30) (hno : ∀ d, d ≤ n → (Rn S a s d y = true ↔ d = 0 ∧ y = s) ∨ Rn S a s d y = false) (h0 : ∀ d, 1 ≤ d → d ≤ n → Rn S a s d y = false) : (∃ k, k < S ∧ qFv S a s n k = nI n ∧ lng a k y = true) ↔ Rn S a s (n + 1) y = true := by
  rw [Rn_s h8]
  constructor
  · rintro ⟨k, hk, h1, h2⟩
    rcases Fv_c (S := S) (a := a) (s := s) hn k with ⟨g1, g2⟩ | ⟨d, g1, g2, g3, g4⟩
    · rw [g1] at h1; exact ((q_men (show n < 2 ^ 31 by omega)).mp h1).elim
    · have : d = n := (nI_eq (by omega) (by omega)).mp (g2.symm.trans h1)
      subst this
      exact ⟨k, hk, g3, h2⟩
  · rintro ⟨k, hk, h1, h2⟩
    rcases Fv_c (S := S) (a := a) (s := s) hn k with ⟨g1, g2⟩ | ⟨d, g1, g2, g3, g4⟩
    · rw [g2 n (Nat.le_refl _)] at h1; cases h1
    · by_cases e : d = n
      · subst e; exact ⟨k, hk, g2, h2⟩
      · have : Rn S a s (d + 1) y = true := (Rn_s h8).mpr ⟨k, hk, g3, h2⟩
        rw [h0 (d + 1) (by omega) (by omega)] at this; cases this
/-- the rows other than the one of distances stay -/
def K7 (ρ ρ' : OM) : Prop := ∀ k, k ≠ 7 → ρ'.1 k = ρ.1 k
variable {ρ : OM}
theorem lng_pl {i j : Nat} (h : lng a i j = true) : a (25 + 13 * j + 3) ≠ m1 := by
  rw [lng, Bool.and_eq_true] at h
  simpa using h.1
theorem r_spr (hS : a 0 = nI S) (w : WL S T a) {k n : Nat} (hk : k < S) (hn : n < 100) (e : ρ.1 1 = a) : ∃ ρ', f_X13_spreads (nI k) (nI n) ρ = some ρ' ∧ K7 ρ ρ' ∧ ∀ y, y < S → ρ'.1 7 y = if ρ.1 7 y = m1 ∧ lng a k y = true then nI n else ρ.1 7 y := by
  have h8 := w.1.1
  unfold f_X13_spreads
  rw [q_l0]
  obtain ⟨ρ', g1, g2, g3⟩ := lp_inv (F := f_X13_spreads_2 (nI k) (nI n)) (i0 := 0) (fun (j : Nat) (t : OM) => K7 ρ t ∧ ∀ y, y < S → t.1 7 y = if y < j ∧ ρ.1 7 y = m1 ∧ lng a k y = true then nI n else ρ.1 7 y) (fun t => K7 ρ t ∧ ∀ y, y < S → t.1 7 y = if ρ.1 7 y = m1 ∧ lng a k y = true then nI n else ρ.1 7 y) S (fun m j t hj hh => by
      obtain ⟨g1, g2⟩ := hh
      have et : t.1 1 = a := (g1 1 (by omega)).trans e
      have e7 := g2 j hj
      rw [if_neg (by omega)] at e7
      have same : ∀ (hne : ¬ (ρ.1 7 j = m1 ∧ lng a k j = true)), (K7 ρ t ∧ ∀ y, y < S → t.1 7 y = if y < j + 1 ∧ ρ.1 7 y = m1 ∧ lng a k y = true then nI n else ρ.1 7 y) := fun hne => ⟨g1, fun y hy => by
        rw [g2 y hy]
        by_cases c : y = j
        · subst c
          rw [if_neg (by omega), if_neg (fun q => hne q.2)]
        · by_cases c' : y < j ∧ ρ.1 7 y = m1 ∧ lng a k y = true
          · rw [if_pos c', if_pos ⟨by omega, c'.2⟩]
          · rw [if_neg c', if_neg (fun q => c' ⟨by omega, q.2⟩)]⟩
      have hl := r_lng (w.li hk) (show j < 8 by omega) et
      have ho := r_of a et (show j < 8 by omega) (show 3 < 13 by omega)
      by_cases c1 : ρ.1 7 j = m1
      · cases hL : lng a k j with
        | false =>
          refine ⟨t, same (fun q => by rw [hL] at q; cases q.2), ?_⟩
          rw [hL] at hl
          by_cases c2 : a (25 + 13 * j + 3) = m1
          · simp (maxSteps := 2000000) (disch := first | rfl | exact q_e1 _ _ _ | exact q_sr1 _ _ | omega) only [f_X13_spreads_2, ↓q_m1, q_l0, q_l1, q_l2, q_l3, q_l4, q_l5, q_l6, q_l7, q_l8, q_l9, q_l10, q_l11, q_l12, q_l13, q_l14, q_l15, q_l16, q_l17, q_l18, q_l19, q_l20, q_l21, q_l22, q_l23, q_l24, q_l25, q_l26, q_l27, q_l28, q_l29, q_l30, q_l31, q_l32, q_l33, q_l45, q_l46, q_l48, q_l57, q_l58, q_l59, q_l60, q_l61, q_l62, q_l63, q_l64, q_l96, q_l97, q_l99, q_l122, q_l129, q_l137, q_l255, q_l256, q_l400, q_l680, q_l700, q_l959, q_l999, q_l9999, q_l10000, q_l100000, q_ltT, q_ltF, q_leT, q_leF, q_eqF, q_eqR, q_mlt, q_mle, q_nlm, q_nLm, q_nem, q_men, q_mlm, Nat.add_zero, Nat.sub_zero, q_add0, pk_rem, nI_add, pk_mul, q_sub, q_subm, q_addm, nI_clamp, q_inT, q_inF, q_sr1, q_srn, q_srw, q_srs, q_wIs, q_wIn, q_wI2, q_wJ1, q_wJs, q_wJn, q_wR1, q_wRs, q_wRn, q_wI22, q_wJ22, pk_us, pk_un, pk_uLs, pk_uLn, q_usS, q_usN, q_ups, q_upn, Bool.true_eq_false, Bool.false_eq_true, q_lt, q_o2, q_o3, q_o4, q_o5, q_bi, ↓reduceIte, q_tv0, q_tv1, q_bz, q_oRl, q_oRr, q_oXl, q_oXr, et, hS, e7, c1, ho, c2]
          · simp (maxSteps := 2000000) (disch := first | rfl | exact q_e1 _ _ _ | exact q_sr1 _ _ | omega) only [f_X13_spreads_2, ↓q_m1, q_l0, q_l1, q_l2, q_l3, q_l4, q_l5, q_l6, q_l7, q_l8, q_l9, q_l10, q_l11, q_l12, q_l13, q_l14, q_l15, q_l16, q_l17, q_l18, q_l19, q_l20, q_l21, q_l22, q_l23, q_l24, q_l25, q_l26, q_l27, q_l28, q_l29, q_l30, q_l31, q_l32, q_l33, q_l45, q_l46, q_l48, q_l57, q_l58, q_l59, q_l60, q_l61, q_l62, q_l63, q_l64, q_l96, q_l97, q_l99, q_l122, q_l129, q_l137, q_l255, q_l256, q_l400, q_l680, q_l700, q_l959, q_l999, q_l9999, q_l10000, q_l100000, q_ltT, q_ltF, q_leT, q_leF, q_eqF, q_eqR, q_mlt, q_mle, q_nlm, q_nLm, q_nem, q_men, q_mlm, Nat.add_zero, Nat.sub_zero, q_add0, pk_rem, nI_add, pk_mul, q_sub, q_subm, q_addm, nI_clamp, q_inT, q_inF, q_sr1, q_srn, q_srw, q_srs, q_wIs, q_wIn, q_wI2, q_wJ1, q_wJs, q_wJn, q_wR1, q_wRs, q_wRn, q_wI22, q_wJ22, pk_us, pk_un, pk_uLs, pk_uLn, q_usS, q_usN, q_ups, q_upn, Bool.true_eq_false, Bool.false_eq_true, q_lt, q_o2, q_o3, q_o4, q_o5, q_bi, ↓reduceIte, q_tv0, q_tv1, q_bz, q_oRl, q_oRr, q_oXl, q_oXr, et, hS, e7, c1, ho, eq_false c2, hl]
        | true =>
          rw [hL] at hl
          refine ⟨wI t 7 j (nI n), ⟨fun x hx => (q_wIn hx).trans (g1 x hx), fun y hy => ?_⟩, by simp (maxSteps := 2000000) (disch := first | rfl | exact q_e1 _ _ _ | exact q_sr1 _ _ | omega) only [f_X13_spreads_2, ↓q_m1, q_l0, q_l1, q_l2, q_l3, q_l4, q_l5, q_l6, q_l7, q_l8, q_l9, q_l10, q_l11, q_l12, q_l13, q_l14, q_l15, q_l16, q_l17, q_l18, q_l19, q_l20, q_l21, q_l22, q_l23, q_l24, q_l25, q_l26, q_l27, q_l28, q_l29, q_l30, q_l31, q_l32, q_l33, q_l45, q_l46, q_l48, q_l57, q_l58, q_l59, q_l60, q_l61, q_l62, q_l63, q_l64, q_l96, q_l97, q_l99, q_l122, q_l129, q_l137, q_l255, q_l256, q_l400, q_l680, q_l700, q_l959, q_l999, q_l9999, q_l10000, q_l100000, q_ltT, q_ltF, q_leT, q_leF, q_eqF, q_eqR, q_mlt, q_mle, q_nlm, q_nLm, q_nem, q_men, q_mlm, Nat.add_zero, Nat.sub_zero, q_add0, pk_rem, nI_add, pk_mul, q_sub, q_subm, q_addm, nI_clamp, q_inT, q_inF, q_sr1, q_srn, q_srw, q_srs, q_wIs, q_wIn, q_wI2, q_wJ1, q_wJs, q_wJn, q_wR1, q_wRs, q_wRn, q_wI22, q_wJ22, pk_us, pk_un, pk_uLs, pk_uLn, q_usS, q_usN, q_ups, q_upn, Bool.true_eq_false, Bool.false_eq_true, q_lt, q_o2, q_o3, q_o4, q_o5, q_bi, ↓reduceIte, q_tv0, q_tv1, q_bz, q_oRl, q_oRr, q_oXl, q_oXr, et, hS, e7, c1, ho, eq_false (lng_pl hL), hl]⟩
          by_cases c : y = j
          · subst c
            rw [q_wIs, pk_us, if_pos ⟨by omega, c1, hL⟩]
          · rw [q_wIs, pk_un c, g2 y hy]
            by_cases c' : y < j ∧ ρ.1 7 y = m1 ∧ lng a k y = true
            · rw [if_pos c', if_pos ⟨by omega, c'.2⟩]
            · rw [if_neg c', if_neg (fun q => c' ⟨by omega, q.2⟩)]
      · exact ⟨t, same (fun q => c1 q.1), by simp (maxSteps := 2000000) (disch := first | rfl | exact q_e1 _ _ _ | exact q_sr1 _ _ | omega) only [f_X13_spreads_2, ↓q_m1, q_l0, q_l1, q_l2, q_l3, q_l4, q_l5, q_l6, q_l7, q_l8, q_l9, q_l10, q_l11, q_l12, q_l13, q_l14, q_l15, q_l16, q_l17, q_l18, q_l19, q_l20, q_l21, q_l22, q_l23, q_l24, q_l25, q_l26, q_l27, q_l28, q_l29, q_l30, q_l31, q_l32, q_l33, q_l45, q_l46, q_l48, q_l57, q_l58, q_l59, q_l60, q_l61, q_l62, q_l63, q_l64, q_l96, q_l97, q_l99, q_l122, q_l129, q_l137, q_l255, q_l256, q_l400, q_l680, q_l700, q_l959, q_l999, q_l9999, q_l10000, q_l100000, q_ltT, q_ltF, q_leT, q_leF, q_eqF, q_eqR, q_mlt, q_mle, q_nlm, q_nLm, q_nem, q_men, q_mlm, Nat.add_zero, Nat.sub_zero, q_add0, pk_rem, nI_add, pk_mul, q_sub, q_subm, q_addm, nI_clamp, q_inT, q_inF, q_sr1, q_srn, q_srw, q_srs, q_wIs, q_wIn, q_wI2, q_wJ1, q_wJs, q_wJn, q_wR1, q_wRs, q_wRn, q_wI22, q_wJ22, pk_us, pk_un, pk_uLs, pk_uLn, q_usS, q_usN, q_ups, q_upn, Bool.true_eq_false, Bool.false_eq_true, q_lt, q_o2, q_o3, q_o4, q_o5, q_bi, ↓reduceIte, q_tv0, q_tv1, q_bz, q_oRl, q_oRr, q_oXl, q_oXr, et, hS, e7, eq_false c1]⟩) (fun m t hh => by
      obtain ⟨g1, g2⟩ := hh
      have et : t.1 1 = a := (g1 1 (by omega)).trans e
      refine ⟨t, by simp (maxSteps := 2000000) (disch := first | rfl | exact q_e1 _ _ _ | exact q_sr1 _ _ | omega) only [f_X13_spreads_2, ↓q_m1, q_l0, q_l1, q_l2, q_l3, q_l4, q_l5, q_l6, q_l7, q_l8, q_l9, q_l10, q_l11, q_l12, q_l13, q_l14, q_l15, q_l16, q_l17, q_l18, q_l19, q_l20, q_l21, q_l22, q_l23, q_l24, q_l25, q_l26, q_l27, q_l28, q_l29, q_l30, q_l31, q_l32, q_l33, q_l45, q_l46, q_l48, q_l57, q_l58, q_l59, q_l60, q_l61, q_l62, q_l63, q_l64, q_l96, q_l97, q_l99, q_l122, q_l129, q_l137, q_l255, q_l256, q_l400, q_l680, q_l700, q_l959, q_l999, q_l9999, q_l10000, q_l100000, q_ltT, q_ltF, q_leT, q_leF, q_eqF, q_eqR, q_mlt, q_mle, q_nlm, q_nLm, q_nem, q_men, q_mlm, Nat.add_zero, Nat.sub_zero, q_add0, pk_rem, nI_add, pk_mul, q_sub, q_subm, q_addm, nI_clamp, q_inT, q_inF, q_sr1, q_srn, q_srw, q_srs, q_wIs, q_wIn, q_wI2, q_wJ1, q_wJs, q_wJn, q_wR1, q_wRs, q_wRn, q_wI22, q_wJ22, pk_us, pk_un, pk_uLs, pk_uLn, q_usS, q_usN, q_ups, q_upn, Bool.true_eq_false, Bool.false_eq_true, q_lt, q_o2, q_o3, q_o4, q_o5, q_bi, ↓reduceIte, q_tv0, q_tv1, q_bz, q_oRl, q_oRr, q_oXl, q_oXr, et, hS], g1, fun y hy => ?_⟩
      rw [g2 y hy]
      by_cases c' : ρ.1 7 y = m1 ∧ lng a k y = true
      · rw [if_pos c', if_pos ⟨hy, c'⟩]
      · rw [if_neg c', if_neg (fun q => c' q.2)]) (fu_lt (show S < 2000 by omega)) (s := ρ) ⟨fun _ _ => rfl, fun y _ => by rw [if_neg (by omega)]⟩
  exact ⟨ρ', g1, g2, g3⟩
theorem lng_self (a : Nat → Int32) (i : Nat) : lng a i i = false := by rw [lng, bet_self, Bool.and_false]
/-- one step of the search -/
theorem r_c50 (hS : a 0 = nI S) (w : WL S T a) {s n : Nat} (hs : s < S) (hn : n < 8) (e : ρ.1 1 = a) (h7 : ∀ y, y < S → ρ.1 7 y = qFv S a s n y) (hno : ∀ d, 1 ≤ d → d ≤ n → Rn S a s d s = false) : ∃ ρ', K7 ρ ρ' ∧ ((Rn S a s (n + 1) s = true ∧ f_X13_shortestCycle_50 (nI s) (nI n) FU (nI 0) ρ = some (.inl (nI (n + 1), ρ'))) ∨ (Rn S a s (n + 1) s = false ∧ f_X13_shortestCycle_50 (nI s) (nI n) FU (nI 0) ρ = some (.inr ρ') ∧ ∀ y, y < S → ρ'.1 7 y = qFv S a s (n + 1) y)) := by
  have h8 := w.1.1
  have hex : (∃ k, k < S ∧ qFv S a s n k = nI n ∧ lng a k s = true) ↔ Rn S a s (n + 1) s = true := Fv_e h8 (by omega) (fun d hd => by
    by_cases hd0 : d = 0
    · subst hd0; exact Or.inl (by rw [Rn_0]; exact ⟨fun h => ⟨rfl, h⟩, fun h => h.2⟩)
    · exact Or.inr (hno d (by omega) hd)) hno
  have key : ∀ r K m (t : OM), K + r = S → r < m → K7 ρ t → (∀ y, y < S → t.1 7 y = if qFv S a s n y = m1 ∧ ∃ k, k < K ∧ qFv S a s n k = nI n ∧ lng a k y = true then nI (n + 1) else qFv S a s n y) → (∀ k, k < K → qFv S a s n k = nI n → lng a k s = false) → ∃ ρ', K7 ρ ρ' ∧ ((Rn S a s (n + 1) s = true ∧ f_X13_shortestCycle_50 (nI s) (nI n) m (nI K) t = some (.inl (nI (n + 1), ρ'))) ∨ (Rn S a s (n + 1) s = false ∧ f_X13_shortestCycle_50 (nI s) (nI n) m (nI K) t = some (.inr ρ') ∧ ∀ y, y < S → ρ'.1 7 y = qFv S a s (n + 1) y)) := by
    intro r
    induction r with
    | zero =>
      intro K m t hK hm g1 g2 g3
      obtain ⟨m, rfl⟩ : ∃ q, m = q + 1 := ⟨m - 1, by omega⟩
      have hK : K = S := by omega
      subst hK
      have et : t.1 1 = a := (g1 1 (by omega)).trans e
      have hR : Rn K a s (n + 1) s = false := by
        cases hR : Rn K a s (n + 1) s with
        | false => rfl
        | true =>
          obtain ⟨k, hk, q1, q2⟩ := hex.mpr hR
          rw [g3 k hk q1] at q2; cases q2
      refine ⟨t, g1, Or.inr ⟨hR, by simp (maxSteps := 2000000) (disch := first | rfl | exact q_e1 _ _ _ | exact q_sr1 _ _ | omega) only [f_X13_shortestCycle_50, ↓q_m1, q_l0, q_l1, q_l2, q_l3, q_l4, q_l5, q_l6, q_l7, q_l8, q_l9, q_l10, q_l11, q_l12, q_l13, q_l14, q_l15, q_l16, q_l17, q_l18, q_l19, q_l20, q_l21, q_l22, q_l23, q_l24, q_l25, q_l26, q_l27, q_l28, q_l29, q_l30, q_l31, q_l32, q_l33, q_l45, q_l46, q_l48, q_l57, q_l58, q_l59, q_l60, q_l61, q_l62, q_l63, q_l64, q_l96, q_l97, q_l99, q_l122, q_l129, q_l137, q_l255, q_l256, q_l400, q_l680, q_l700, q_l959, q_l999, q_l9999, q_l10000, q_l100000, q_ltT, q_ltF, q_leT, q_leF, q_eqF, q_eqR, q_mlt, q_mle, q_nlm, q_nLm, q_nem, q_men, q_mlm, Nat.add_zero, Nat.sub_zero, q_add0, pk_rem, nI_add, pk_mul, q_sub, q_subm, q_addm, nI_clamp, q_inT, q_inF, q_sr1, q_srn, q_srw, q_srs, q_wIs, q_wIn, q_wI2, q_wJ1, q_wJs, q_wJn, q_wR1, q_wRs, q_wRn, q_wI22, q_wJ22, pk_us, pk_un, pk_uLs, pk_uLn, q_usS, q_usN, q_ups, q_upn, Bool.true_eq_false, Bool.false_eq_true, q_lt, q_o2, q_o3, q_o4, q_o5, q_bi, ↓reduceIte, q_tv0, q_tv1, q_bz, q_oRl, q_oRr, q_oXl, q_oXr, et, hS], fun y hy => ?_⟩⟩
      rw [g2 y hy, qFv]
      by_cases c : qFv K a s n y = m1
      · have hf : ∀ d, d ≤ n → Rn K a s d y = false := by
          rcases Fv_c (S := K) (a := a) (s := s) (n := n) (by omega) y with ⟨q1, q2⟩ | ⟨d, q1, q2, q3, q4⟩
          · exact q2
          · rw [q2] at c; exact ((q_nem (show d < 2 ^ 31 by omega)).mp c).elim
        have := Fv_e (S := K) (a := a) (s := s) (n := n) (y := y) h8 (by omega) (fun d hd => Or.inr (hf d hd)) (fun d _ hd => hf d hd)
        by_cases c2 : Rn K a s (n + 1) y = true
        · rw [if_pos ⟨c, this.mpr c2⟩, if_pos ⟨c, c2⟩]
        · rw [if_neg (fun q => c2 (this.mp q.2)), if_neg (fun q => c2 q.2)]
      · rw [if_neg (fun q => c q.1), if_neg (fun q => c q.1)]
    | succ r ih =>
      intro K m t hK hm g1 g2 g3
      obtain ⟨m, rfl⟩ : ∃ q, m = q + 1 := ⟨m - 1, by omega⟩
      have hKS : K < S := by omega
      have et : t.1 1 = a := (g1 1 (by omega)).trans e
      have e7 := g2 K hKS
      by_cases c : qFv S a s n K = nI n
      · have e7' : t.1 7 K = nI n := by
          rw [e7, if_neg (fun q => by rw [c] at q; exact (q_nem (show n < 2 ^ 31 by omega)).mp q.1)]; exact c
        obtain ⟨t', f1, f2, f3⟩ := r_spr (ρ := t) hS w hKS (show n + 1 < 100 by omega) et
        have fin : lng a K s = false → ∃ ρ', K7 ρ ρ' ∧ ((Rn S a s (n + 1) s = true ∧ f_X13_shortestCycle_50 (nI s) (nI n) m (nI (K + 1)) t' = some (.inl (nI (n + 1), ρ'))) ∨ (Rn S a s (n + 1) s = false ∧ f_X13_shortestCycle_50 (nI s) (nI n) m (nI (K + 1)) t' = some (.inr ρ') ∧ ∀ y, y < S → ρ'.1 7 y = qFv S a s (n + 1) y)) := fun hlf => by
          refine ih (K + 1) m t' (by omega) (by omega) (fun k hk => (f2 k hk).trans (g1 k hk)) (fun y hy => ?_) (fun k hk q => ?_)
          · have ht := g2 y hy
            rw [f3 y hy]
            by_cases d1 : qFv S a s n y = m1
            · by_cases d2 : ∃ k, k < K ∧ qFv S a s n k = nI n ∧ lng a k y = true
              · rw [if_pos ⟨d1, d2⟩] at ht
                rw [ht, if_neg (fun q => (q_nem (show n + 1 < 2 ^ 31 by omega)).mp q.1), if_pos]
                obtain ⟨k, q1, q2⟩ := d2
                exact ⟨d1, k, by omega, q2⟩
              · rw [if_neg (fun q => d2 q.2)] at ht
                by_cases d3 : lng a K y = true
                · rw [ht, if_pos ⟨d1, d3⟩, if_pos ⟨d1, K, by omega, c, d3⟩]
                · rw [ht, if_neg (fun q => d3 q.2), if_neg]
                  rintro ⟨_, k, q1, q2, q3⟩
                  by_cases ek : k = K
                  · subst ek; exact d3 q3
                  · exact d2 ⟨k, by omega, q2, q3⟩
            · rw [if_neg (fun q => d1 q.1)] at ht
              rw [ht, if_neg (fun q => d1 q.1), if_neg (fun q => d1 q.1)]
          · by_cases ek : k = K
            · subst ek; exact hlf
            · exact g3 k (by omega) q
        by_cases cs : K = s
        · have hlf : lng a K s = false := by rw [cs]; exact lng_self a s
          obtain ⟨ρ', q1, q2⟩ := fin hlf
          refine ⟨ρ', q1, ?_⟩
          have er : f_X13_shortestCycle_50 (nI s) (nI n) (m + 1) (nI K) t = f_X13_shortestCycle_50 (nI s) (nI n) m (nI (K + 1)) t' := by
            subst cs
            simp (maxSteps := 2000000) (disch := first | rfl | exact q_e1 _ _ _ | exact q_sr1 _ _ | omega) only [f_X13_shortestCycle_50, ↓q_m1, q_l0, q_l1, q_l2, q_l3, q_l4, q_l5, q_l6, q_l7, q_l8, q_l9, q_l10, q_l11, q_l12, q_l13, q_l14, q_l15, q_l16, q_l17, q_l18, q_l19, q_l20, q_l21, q_l22, q_l23, q_l24, q_l25, q_l26, q_l27, q_l28, q_l29, q_l30, q_l31, q_l32, q_l33, q_l45, q_l46, q_l48, q_l57, q_l58, q_l59, q_l60, q_l61, q_l62, q_l63, q_l64, q_l96, q_l97, q_l99, q_l122, q_l129, q_l137, q_l255, q_l256, q_l400, q_l680, q_l700, q_l959, q_l999, q_l9999, q_l10000, q_l100000, q_ltT, q_ltF, q_leT, q_leF, q_eqF, q_eqR, q_mlt, q_mle, q_nlm, q_nLm, q_nem, q_men, q_mlm, Nat.add_zero, Nat.sub_zero, q_add0, pk_rem, nI_add, pk_mul, q_sub, q_subm, q_addm, nI_clamp, q_inT, q_inF, q_sr1, q_srn, q_srw, q_srs, q_wIs, q_wIn, q_wI2, q_wJ1, q_wJs, q_wJn, q_wR1, q_wRs, q_wRn, q_wI22, q_wJ22, pk_us, pk_un, pk_uLs, pk_uLn, q_usS, q_usN, q_ups, q_upn, Bool.true_eq_false, Bool.false_eq_true, q_lt, q_o2, q_o3, q_o4, q_o5, q_bi, ↓reduceIte, q_tv0, q_tv1, q_bz, q_oRl, q_oRr, q_oXl, q_oXr, et, hS, e7', f1]
          rw [er]; exact q2
        · have hl := r_lng (w.li hKS) (show s < 8 by omega) et
          cases hL : lng a K s with
          | false =>
            rw [hL] at hl
            obtain ⟨ρ', q1, q2⟩ := fin hL
            refine ⟨ρ', q1, ?_⟩
            have er : f_X13_shortestCycle_50 (nI s) (nI n) (m + 1) (nI K) t = f_X13_shortestCycle_50 (nI s) (nI n) m (nI (K + 1)) t' := by
              simp (maxSteps := 2000000) (disch := first | rfl | exact q_e1 _ _ _ | exact q_sr1 _ _ | omega) only [f_X13_shortestCycle_50, ↓q_m1, q_l0, q_l1, q_l2, q_l3, q_l4, q_l5, q_l6, q_l7, q_l8, q_l9, q_l10, q_l11, q_l12, q_l13, q_l14, q_l15, q_l16, q_l17, q_l18, q_l19, q_l20, q_l21, q_l22, q_l23, q_l24, q_l25, q_l26, q_l27, q_l28, q_l29, q_l30, q_l31, q_l32, q_l33, q_l45, q_l46, q_l48, q_l57, q_l58, q_l59, q_l60, q_l61, q_l62, q_l63, q_l64, q_l96, q_l97, q_l99, q_l122, q_l129, q_l137, q_l255, q_l256, q_l400, q_l680, q_l700, q_l959, q_l999, q_l9999, q_l10000, q_l100000, q_ltT, q_ltF, q_leT, q_leF, q_eqF, q_eqR, q_mlt, q_mle, q_nlm, q_nLm, q_nem, q_men, q_mlm, Nat.add_zero, Nat.sub_zero, q_add0, pk_rem, nI_add, pk_mul, q_sub, q_subm, q_addm, nI_clamp, q_inT, q_inF, q_sr1, q_srn, q_srw, q_srs, q_wIs, q_wIn, q_wI2, q_wJ1, q_wJs, q_wJn, q_wR1, q_wRs, q_wRn, q_wI22, q_wJ22, pk_us, pk_un, pk_uLs, pk_uLn, q_usS, q_usN, q_ups, q_upn, Bool.true_eq_false, Bool.false_eq_true, q_lt, q_o2, q_o3, q_o4, q_o5, q_bi, ↓reduceIte, q_tv0, q_tv1, q_bz, q_oRl, q_oRr, q_oXl, q_oXr, et, hS, e7', hl, f1]
            rw [er]; exact q2
          | true =>
            rw [hL] at hl
            exact ⟨t, g1, Or.inl ⟨hex.mp ⟨K, hKS, c, hL⟩, by simp (maxSteps := 2000000) (disch := first | rfl | exact q_e1 _ _ _ | exact q_sr1 _ _ | omega) only [f_X13_shortestCycle_50, ↓q_m1, q_l0, q_l1, q_l2, q_l3, q_l4, q_l5, q_l6, q_l7, q_l8, q_l9, q_l10, q_l11, q_l12, q_l13, q_l14, q_l15, q_l16, q_l17, q_l18, q_l19, q_l20, q_l21, q_l22, q_l23, q_l24, q_l25, q_l26, q_l27, q_l28, q_l29, q_l30, q_l31, q_l32, q_l33, q_l45, q_l46, q_l48, q_l57, q_l58, q_l59, q_l60, q_l61, q_l62, q_l63, q_l64, q_l96, q_l97, q_l99, q_l122, q_l129, q_l137, q_l255, q_l256, q_l400, q_l680, q_l700, q_l959, q_l999, q_l9999, q_l10000, q_l100000, q_ltT, q_ltF, q_leT, q_leF, q_eqF, q_eqR, q_mlt, q_mle, q_nlm, q_nLm, q_nem, q_men, q_mlm, Nat.add_zero, Nat.sub_zero, q_add0, pk_rem, nI_add, pk_mul, q_sub, q_subm, q_addm, nI_clamp, q_inT, q_inF, q_sr1, q_srn, q_srw, q_srs, q_wIs, q_wIn, q_wI2, q_wJ1, q_wJs, q_wJn, q_wR1, q_wRs, q_wRn, q_wI22, q_wJ22, pk_us, pk_un, pk_uLs, pk_uLn, q_usS, q_usN, q_ups, q_upn, Bool.true_eq_false, Bool.false_eq_true, q_lt, q_o2, q_o3, q_o4, q_o5, q_bi, ↓reduceIte, q_tv0, q_tv1, q_bz, q_oRl, q_oRr, q_oXl, q_oXr, et, hS, e7', hl]⟩⟩
      · have e7' : ¬ t.1 7 K = nI n := by
          rw [e7]
          split
          · exact fun q => by
              have := (nI_eq (show n + 1 < 2 ^ 31 by omega) (show n < 2 ^ 31 by omega)).mp q
              omega
          · exact c
        obtain ⟨ρ', q1, q2⟩ := ih (K + 1) m t (by omega) (by omega) g1 (fun y hy => by
          rw [g2 y hy]
          by_cases d : qFv S a s n y = m1 ∧ ∃ k, k < K ∧ qFv S a s n k = nI n ∧ lng a k y = true
          · rw [if_pos d, if_pos]
            obtain ⟨d1, k, d2, d3⟩ := d
            exact ⟨d1, k, by omega, d3⟩
          · rw [if_neg d, if_neg]
            rintro ⟨d1, k, d2, d3, d4⟩
            by_cases ek : k = K
            · subst ek; exact c d3
            · exact d ⟨d1, k, by omega, d3, d4⟩) (fun k hk q => by
          by_cases ek : k = K
          · subst ek; exact absurd q c
          · exact g3 k (by omega) q)
        refine ⟨ρ', q1, ?_⟩
        have er : f_X13_shortestCycle_50 (nI s) (nI n) (m + 1) (nI K) t = f_X13_shortestCycle_50 (nI s) (nI n) m (nI (K + 1)) t := by
          simp (maxSteps := 2000000) (disch := first | rfl | exact q_e1 _ _ _ | exact q_sr1 _ _ | omega) only [f_X13_shortestCycle_50, ↓q_m1, q_l0, q_l1, q_l2, q_l3, q_l4, q_l5, q_l6, q_l7, q_l8, q_l9, q_l10, q_l11, q_l12, q_l13, q_l14, q_l15, q_l16, q_l17, q_l18, q_l19, q_l20, q_l21, q_l22, q_l23, q_l24, q_l25, q_l26, q_l27, q_l28, q_l29, q_l30, q_l31, q_l32, q_l33, q_l45, q_l46, q_l48, q_l57, q_l58, q_l59, q_l60, q_l61, q_l62, q_l63, q_l64, q_l96, q_l97, q_l99, q_l122, q_l129, q_l137, q_l255, q_l256, q_l400, q_l680, q_l700, q_l959, q_l999, q_l9999, q_l10000, q_l100000, q_ltT, q_ltF, q_leT, q_leF, q_eqF, q_eqR, q_mlt, q_mle, q_nlm, q_nLm, q_nem, q_men, q_mlm, Nat.add_zero, Nat.sub_zero, q_add0, pk_rem, nI_add, pk_mul, q_sub, q_subm, q_addm, nI_clamp, q_inT, q_inF, q_sr1, q_srn, q_srw, q_srs, q_wIs, q_wIn, q_wI2, q_wJ1, q_wJs, q_wJn, q_wR1, q_wRs, q_wRn, q_wI22, q_wJ22, pk_us, pk_un, pk_uLs, pk_uLn, q_usS, q_usN, q_ups, q_upn, Bool.true_eq_false, Bool.false_eq_true, q_lt, q_o2, q_o3, q_o4, q_o5, q_bi, ↓reduceIte, q_tv0, q_tv1, q_bz, q_oRl, q_oRr, q_oXl, q_oXr, et, hS, eq_false e7']
        rw [er]; exact q2
  exact key S 0 FU ρ (by omega) (fu_lt (by omega)) (fun _ _ => rfl) (fun y hy => by
    rw [h7 y hy, if_neg]
    rintro ⟨_, k, q, _⟩
    omega) (fun k hk => by omega)
theorem r_cyc (hS : a 0 = nI S) (w : WL S T a) {s : Nat} (hs : s < S) (e : ρ.1 1 = a) : ∃ ρ', f_X13_shortestCycle (nI s) ρ = some (if a (25 + 13 * s + 3) = m1 then m1 else cyc S a s, ρ') ∧ K7 ρ ρ' := by
  have h8 := w.1.1
  obtain ⟨ρ1, g1, g2, g3⟩ := lp_inv (F := f_X13_shortestCycle_2) (i0 := 0) (s := ρ) (fun (j : Nat) (t : OM) => K7 ρ t ∧ ∀ y, y < j → t.1 7 y = m1) (fun t => K7 ρ t ∧ ∀ y, y < 8 → t.1 7 y = m1) 8 (fun m j t hj hh => by
      obtain ⟨g1, g2⟩ := hh
      refine ⟨wI t 7 j m1, ⟨fun x hx => (q_wIn hx).trans (g1 x hx), fun y hy => ?_⟩, by simp (maxSteps := 2000000) (disch := first | rfl | exact q_e1 _ _ _ | exact q_sr1 _ _ | omega) only [f_X13_shortestCycle_2, ↓q_m1, q_l0, q_l1, q_l2, q_l3, q_l4, q_l5, q_l6, q_l7, q_l8, q_l9, q_l10, q_l11, q_l12, q_l13, q_l14, q_l15, q_l16, q_l17, q_l18, q_l19, q_l20, q_l21, q_l22, q_l23, q_l24, q_l25, q_l26, q_l27, q_l28, q_l29, q_l30, q_l31, q_l32, q_l33, q_l45, q_l46, q_l48, q_l57, q_l58, q_l59, q_l60, q_l61, q_l62, q_l63, q_l64, q_l96, q_l97, q_l99, q_l122, q_l129, q_l137, q_l255, q_l256, q_l400, q_l680, q_l700, q_l959, q_l999, q_l9999, q_l10000, q_l100000, q_ltT, q_ltF, q_leT, q_leF, q_eqF, q_eqR, q_mlt, q_mle, q_nlm, q_nLm, q_nem, q_men, q_mlm, Nat.add_zero, Nat.sub_zero, q_add0, pk_rem, nI_add, pk_mul, q_sub, q_subm, q_addm, nI_clamp, q_inT, q_inF, q_sr1, q_srn, q_srw, q_srs, q_wIs, q_wIn, q_wI2, q_wJ1, q_wJs, q_wJn, q_wR1, q_wRs, q_wRn, q_wI22, q_wJ22, pk_us, pk_un, pk_uLs, pk_uLn, q_usS, q_usN, q_ups, q_upn, Bool.true_eq_false, Bool.false_eq_true, q_lt, q_o2, q_o3, q_o4, q_o5, q_bi, ↓reduceIte, q_tv0, q_tv1, q_bz, q_oRl, q_oRr, q_oXl, q_oXr]⟩
      rw [q_wIs]
      by_cases c : y = j
      · subst c; exact pk_us
      · rw [pk_un c]; exact g2 y (by omega)) (fun m t hh => ⟨t, by simp (maxSteps := 2000000) (disch := first | rfl | exact q_e1 _ _ _ | exact q_sr1 _ _ | omega) only [f_X13_shortestCycle_2, ↓q_m1, q_l0, q_l1, q_l2, q_l3, q_l4, q_l5, q_l6, q_l7, q_l8, q_l9, q_l10, q_l11, q_l12, q_l13, q_l14, q_l15, q_l16, q_l17, q_l18, q_l19, q_l20, q_l21, q_l22, q_l23, q_l24, q_l25, q_l26, q_l27, q_l28, q_l29, q_l30, q_l31, q_l32, q_l33, q_l45, q_l46, q_l48, q_l57, q_l58, q_l59, q_l60, q_l61, q_l62, q_l63, q_l64, q_l96, q_l97, q_l99, q_l122, q_l129, q_l137, q_l255, q_l256, q_l400, q_l680, q_l700, q_l959, q_l999, q_l9999, q_l10000, q_l100000, q_ltT, q_ltF, q_leT, q_leF, q_eqF, q_eqR, q_mlt, q_mle, q_nlm, q_nLm, q_nem, q_men, q_mlm, Nat.add_zero, Nat.sub_zero, q_add0, pk_rem, nI_add, pk_mul, q_sub, q_subm, q_addm, nI_clamp, q_inT, q_inF, q_sr1, q_srn, q_srw, q_srs, q_wIs, q_wIn, q_wI2, q_wJ1, q_wJs, q_wJn, q_wR1, q_wRs, q_wRn, q_wI22, q_wJ22, pk_us, pk_un, pk_uLs, pk_uLn, q_usS, q_usN, q_ups, q_upn, Bool.true_eq_false, Bool.false_eq_true, q_lt, q_o2, q_o3, q_o4, q_o5, q_bi, ↓reduceIte, q_tv0, q_tv1, q_bz, q_oRl, q_oRr, q_oXl, q_oXr], hh⟩) (fu_lt (by omega)) ⟨fun _ _ => rfl, fun y hy => by omega⟩
  have e1 : ρ1.1 1 = a := (g2 1 (by omega)).trans e
  by_cases c : a (25 + 13 * s + 3) = m1
  · refine ⟨ρ1, ?_, g2⟩
    rw [if_pos c]
    simp (maxSteps := 2000000) (disch := first | rfl | exact q_e1 _ _ _ | exact q_sr1 _ _ | omega) only [f_X13_shortestCycle, ↓q_m1, q_l0, q_l1, q_l2, q_l3, q_l4, q_l5, q_l6, q_l7, q_l8, q_l9, q_l10, q_l11, q_l12, q_l13, q_l14, q_l15, q_l16, q_l17, q_l18, q_l19, q_l20, q_l21, q_l22, q_l23, q_l24, q_l25, q_l26, q_l27, q_l28, q_l29, q_l30, q_l31, q_l32, q_l33, q_l45, q_l46, q_l48, q_l57, q_l58, q_l59, q_l60, q_l61, q_l62, q_l63, q_l64, q_l96, q_l97, q_l99, q_l122, q_l129, q_l137, q_l255, q_l256, q_l400, q_l680, q_l700, q_l959, q_l999, q_l9999, q_l10000, q_l100000, q_ltT, q_ltF, q_leT, q_leF, q_eqF, q_eqR, q_mlt, q_mle, q_nlm, q_nLm, q_nem, q_men, q_mlm, Nat.add_zero, Nat.sub_zero, q_add0, pk_rem, nI_add, pk_mul, q_sub, q_subm, q_addm, nI_clamp, q_inT, q_inF, q_sr1, q_srn, q_srw, q_srs, q_wIs, q_wIn, q_wI2, q_wJ1, q_wJs, q_wJn, q_wR1, q_wRs, q_wRn, q_wI22, q_wJ22, pk_us, pk_un, pk_uLs, pk_uLn, q_usS, q_usN, q_ups, q_upn, Bool.true_eq_false, Bool.false_eq_true, q_lt, q_o2, q_o3, q_o4, q_o5, q_bi, ↓reduceIte, q_tv0, q_tv1, q_bz, q_oRl, q_oRr, q_oXl, q_oXr, g1, r_of a e1, c]
  · rw [if_neg c]
    have key : ∀ r n m (t : OM), n + r = 8 → r < m → K7 ρ t → (∀ y, y < S → t.1 7 y = qFv S a s n y) → (∀ d, 1 ≤ d → d ≤ n → Rn S a s d s = false) → ∃ ρ', f_X13_shortestCycle_42 (nI s) m (nI n) t = some (fvr (fun k => Rn S a s (k + 1) s) (fun k => nI (k + 1)) r n, ρ') ∧ K7 ρ ρ' := by
      intro r
      induction r with
      | zero =>
        intro n m t hn hm q1 q2 q3
        obtain ⟨m, rfl⟩ : ∃ q, m = q + 1 := ⟨m - 1, by omega⟩
        exact ⟨t, by simp (maxSteps := 2000000) (disch := first | rfl | exact q_e1 _ _ _ | exact q_sr1 _ _ | omega) only [f_X13_shortestCycle_42, ↓q_m1, q_l0, q_l1, q_l2, q_l3, q_l4, q_l5, q_l6, q_l7, q_l8, q_l9, q_l10, q_l11, q_l12, q_l13, q_l14, q_l15, q_l16, q_l17, q_l18, q_l19, q_l20, q_l21, q_l22, q_l23, q_l24, q_l25, q_l26, q_l27, q_l28, q_l29, q_l30, q_l31, q_l32, q_l33, q_l45, q_l46, q_l48, q_l57, q_l58, q_l59, q_l60, q_l61, q_l62, q_l63, q_l64, q_l96, q_l97, q_l99, q_l122, q_l129, q_l137, q_l255, q_l256, q_l400, q_l680, q_l700, q_l959, q_l999, q_l9999, q_l10000, q_l100000, q_ltT, q_ltF, q_leT, q_leF, q_eqF, q_eqR, q_mlt, q_mle, q_nlm, q_nLm, q_nem, q_men, q_mlm, Nat.add_zero, Nat.sub_zero, q_add0, pk_rem, nI_add, pk_mul, q_sub, q_subm, q_addm, nI_clamp, q_inT, q_inF, q_sr1, q_srn, q_srw, q_srs, q_wIs, q_wIn, q_wI2, q_wJ1, q_wJs, q_wJn, q_wR1, q_wRs, q_wRn, q_wI22, q_wJ22, pk_us, pk_un, pk_uLs, pk_uLn, q_usS, q_usN, q_ups, q_upn, Bool.true_eq_false, Bool.false_eq_true, q_lt, q_o2, q_o3, q_o4, q_o5, q_bi, ↓reduceIte, q_tv0, q_tv1, q_bz, q_oRl, q_oRr, q_oXl, q_oXr]; rfl, q1⟩
      | succ r ih =>
        intro n m t hn hm q1 q2 q3
        obtain ⟨m, rfl⟩ : ∃ q, m = q + 1 := ⟨m - 1, by omega⟩
        have et : t.1 1 = a := (q1 1 (by omega)).trans e
        obtain ⟨t', k1, k2⟩ := r_c50 (ρ := t) hS w hs (show n < 8 by omega) et q2 q3
        rw [fvr]
        rcases k2 with ⟨k2, k3⟩ | ⟨k2, k3, k4⟩
        · refine ⟨t', ?_, fun k hk => (k1 k hk).trans (q1 k hk)⟩
          rw [if_pos k2]
          simp (maxSteps := 2000000) (disch := first | rfl | exact q_e1 _ _ _ | exact q_sr1 _ _ | omega) only [f_X13_shortestCycle_42, ↓q_m1, q_l0, q_l1, q_l2, q_l3, q_l4, q_l5, q_l6, q_l7, q_l8, q_l9, q_l10, q_l11, q_l12, q_l13, q_l14, q_l15, q_l16, q_l17, q_l18, q_l19, q_l20, q_l21, q_l22, q_l23, q_l24, q_l25, q_l26, q_l27, q_l28, q_l29, q_l30, q_l31, q_l32, q_l33, q_l45, q_l46, q_l48, q_l57, q_l58, q_l59, q_l60, q_l61, q_l62, q_l63, q_l64, q_l96, q_l97, q_l99, q_l122, q_l129, q_l137, q_l255, q_l256, q_l400, q_l680, q_l700, q_l959, q_l999, q_l9999, q_l10000, q_l100000, q_ltT, q_ltF, q_leT, q_leF, q_eqF, q_eqR, q_mlt, q_mle, q_nlm, q_nLm, q_nem, q_men, q_mlm, Nat.add_zero, Nat.sub_zero, q_add0, pk_rem, nI_add, pk_mul, q_sub, q_subm, q_addm, nI_clamp, q_inT, q_inF, q_sr1, q_srn, q_srw, q_srs, q_wIs, q_wIn, q_wI2, q_wJ1, q_wJs, q_wJn, q_wR1, q_wRs, q_wRn, q_wI22, q_wJ22, pk_us, pk_un, pk_uLs, pk_uLn, q_usS, q_usN, q_ups, q_upn, Bool.true_eq_false, Bool.false_eq_true, q_lt, q_o2, q_o3, q_o4, q_o5, q_bi, ↓reduceIte, q_tv0, q_tv1, q_bz, q_oRl, q_oRr, q_oXl, q_oXr, k3]
        · obtain ⟨ρ', f1, f2⟩ := ih (n + 1) m t' (by omega) (by omega) (fun k hk => (k1 k hk).trans (q1 k hk)) k4 (fun d d1 d2 => by
            by_cases ed : d = n + 1
            · subst ed; exact k2
            · exact q3 d d1 (by omega))
          refine ⟨ρ', ?_, f2⟩
          rw [k2]
          simp (maxSteps := 2000000) (disch := first | rfl | exact q_e1 _ _ _ | exact q_sr1 _ _ | omega) only [f_X13_shortestCycle_42, ↓q_m1, q_l0, q_l1, q_l2, q_l3, q_l4, q_l5, q_l6, q_l7, q_l8, q_l9, q_l10, q_l11, q_l12, q_l13, q_l14, q_l15, q_l16, q_l17, q_l18, q_l19, q_l20, q_l21, q_l22, q_l23, q_l24, q_l25, q_l26, q_l27, q_l28, q_l29, q_l30, q_l31, q_l32, q_l33, q_l45, q_l46, q_l48, q_l57, q_l58, q_l59, q_l60, q_l61, q_l62, q_l63, q_l64, q_l96, q_l97, q_l99, q_l122, q_l129, q_l137, q_l255, q_l256, q_l400, q_l680, q_l700, q_l959, q_l999, q_l9999, q_l10000, q_l100000, q_ltT, q_ltF, q_leT, q_leF, q_eqF, q_eqR, q_mlt, q_mle, q_nlm, q_nLm, q_nem, q_men, q_mlm, Nat.add_zero, Nat.sub_zero, q_add0, pk_rem, nI_add, pk_mul, q_sub, q_subm, q_addm, nI_clamp, q_inT, q_inF, q_sr1, q_srn, q_srw, q_srs, q_wIs, q_wIn, q_wI2, q_wJ1, q_wJs, q_wJn, q_wR1, q_wRs, q_wRn, q_wI22, q_wJ22, pk_us, pk_un, pk_uLs, pk_uLn, q_usS, q_usN, q_ups, q_upn, Bool.true_eq_false, Bool.false_eq_true, q_lt, q_o2, q_o3, q_o4, q_o5, q_bi, ↓reduceIte, q_tv0, q_tv1, q_bz, q_oRl, q_oRr, q_oXl, q_oXr, k3, f1]
    obtain ⟨ρ', f1, f2⟩ := key 8 0 FU (wI ρ1 7 s (nI 0)) (by omega) (fu_lt (by omega)) (fun k hk => (q_wIn hk).trans (g2 k hk)) (fun y hy => by
      rw [q_wIs, qFv]
      by_cases c : y = s
      · subst c; rw [pk_us, if_pos rfl]
      · rw [pk_un c, if_neg c]; exact g3 y (by omega)) (fun d d1 d2 => by omega)
    refine ⟨ρ', ?_, f2⟩
    simp (maxSteps := 2000000) (disch := first | rfl | exact q_e1 _ _ _ | exact q_sr1 _ _ | omega) only [f_X13_shortestCycle, ↓q_m1, q_l0, q_l1, q_l2, q_l3, q_l4, q_l5, q_l6, q_l7, q_l8, q_l9, q_l10, q_l11, q_l12, q_l13, q_l14, q_l15, q_l16, q_l17, q_l18, q_l19, q_l20, q_l21, q_l22, q_l23, q_l24, q_l25, q_l26, q_l27, q_l28, q_l29, q_l30, q_l31, q_l32, q_l33, q_l45, q_l46, q_l48, q_l57, q_l58, q_l59, q_l60, q_l61, q_l62, q_l63, q_l64, q_l96, q_l97, q_l99, q_l122, q_l129, q_l137, q_l255, q_l256, q_l400, q_l680, q_l700, q_l959, q_l999, q_l9999, q_l10000, q_l100000, q_ltT, q_ltF, q_leT, q_leF, q_eqF, q_eqR, q_mlt, q_mle, q_nlm, q_nLm, q_nem, q_men, q_mlm, Nat.add_zero, Nat.sub_zero, q_add0, pk_rem, nI_add, pk_mul, q_sub, q_subm, q_addm, nI_clamp, q_inT, q_inF, q_sr1, q_srn, q_srw, q_srs, q_wIs, q_wIn, q_wI2, q_wJ1, q_wJs, q_wJn, q_wR1, q_wRs, q_wRn, q_wI22, q_wJ22, pk_us, pk_un, pk_uLs, pk_uLn, q_usS, q_usN, q_ups, q_upn, Bool.true_eq_false, Bool.false_eq_true, q_lt, q_o2, q_o3, q_o4, q_o5, q_bi, ↓reduceIte, q_tv0, q_tv1, q_bz, q_oRl, q_oRr, q_oXl, q_oXr, g1, r_of a e1, eq_false c, f1]
    rfl
theorem K7.q {ρ ρ' : OM} (h : K7 ρ ρ') : QE ρ ρ' := ⟨fun j _ => congrFun (h 1 (by omega)) j, fun k hk => h k (by omega), fun f _ => congrFun (h 0 (by omega)) f⟩
end CYC
section FACE
variable {B : Nat} {σ : SM}
theorem P_improvingCycleLength (h : Rel B σ) (x : Int32) : FX B σ [2] (f_X12_improvingCycleLength x σ) (f_X13_improvingCycleLength x (σ 20)) := by
  obtain ⟨S, T, hm, hf⟩ := h.1
  have w := hf.2.1; have h8 := w.1.1; have t8 := w.1.2; have hS := hm.1.2.2.1; have hT := hm.1.2.2.2
  rcases or_assoc.mpr (q_ix x (n := S) (by omega)) with hx | ⟨i, hi, rfl⟩
  · refine fx_t h 0 rfl ?_ (nI 0) ?_
    · simp (maxSteps := 2000000) (disch := first | rfl | exact q_e1 _ _ _ | exact q_sr1 _ _ | omega) only [f_X12_improvingCycleLength, s_rqF hm hx, Bool.true_eq_false, Bool.false_eq_true, q_lt, q_o2, q_o3, q_o4, q_o5, q_bi, ↓reduceIte, q_tv0, q_tv1, q_bz, q_oRl, q_oRr, q_oXl, q_oXr]
    · simp (maxSteps := 2000000) (disch := first | rfl | exact q_e1 _ _ _ | exact q_sr1 _ _ | omega) only [f_X13_improvingCycleLength, r_selF hS h8 hx, r_wants0, ↓q_m1, q_l0, q_l1, q_l2, q_l3, q_l4, q_l5, q_l6, q_l7, q_l8, q_l9, q_l10, q_l11, q_l12, q_l13, q_l14, q_l15, q_l16, q_l17, q_l18, q_l19, q_l20, q_l21, q_l22, q_l23, q_l24, q_l25, q_l26, q_l27, q_l28, q_l29, q_l30, q_l31, q_l32, q_l33, q_l45, q_l46, q_l48, q_l57, q_l58, q_l59, q_l60, q_l61, q_l62, q_l63, q_l64, q_l96, q_l97, q_l99, q_l122, q_l129, q_l137, q_l255, q_l256, q_l400, q_l680, q_l700, q_l959, q_l999, q_l9999, q_l10000, q_l100000, q_ltT, q_ltF, q_leT, q_leF, q_eqF, q_eqR, q_mlt, q_mle, q_nlm, q_nLm, q_nem, q_men, q_mlm, Nat.add_zero, Nat.sub_zero, q_add0, pk_rem, nI_add, pk_mul, q_sub, q_subm, q_addm, nI_clamp, q_inT, q_inF, q_sr1, q_srn, q_srw, q_srs, q_wIs, q_wIn, q_wI2, q_wJ1, q_wJs, q_wJn, q_wR1, q_wRs, q_wRn, q_wI22, q_wJ22, pk_us, pk_un, pk_uLs, pk_uLn, q_usS, q_usN, q_ups, q_upn, Bool.true_eq_false, Bool.false_eq_true, q_lt, q_o2, q_o3, q_o4, q_o5, q_bi, ↓reduceIte, q_tv0, q_tv1, q_bz, q_oRl, q_oRr, q_oXl, q_oXr]
  · obtain ⟨ρ', g1, g2⟩ := r_cyc (ρ := wI (σ 20) 0 12 (nI 0)) hS w hi (q_e1 _ _ _)
    refine ⟨.inr (if (σ 20).1 1 (25 + 13 * i + 3) = m1 then m1 else cyc S ((σ 20).1 1) i), if (σ 20).1 1 (25 + 13 * i + 3) = m1 then m1 else cyc S ((σ 20).1 1) i, ρ', ?_, ?_, h.q ((QE.fld (j := 12) (v := nI 0) (Or.inl rfl)).tr g2.q), Or.inr ⟨rfl, ?_⟩⟩
    · simp (maxSteps := 2000000) (disch := first | rfl | exact q_e1 _ _ _ | exact q_sr1 _ _ | omega) only [f_X12_improvingCycleLength, s_rqT hm h8 hi, s_cyc hm w hi, Bool.true_eq_false, Bool.false_eq_true, q_lt, q_o2, q_o3, q_o4, q_o5, q_bi, ↓reduceIte, q_tv0, q_tv1, q_bz, q_oRl, q_oRr, q_oXl, q_oXr]
    · simp (maxSteps := 2000000) (disch := first | rfl | exact q_e1 _ _ _ | exact q_sr1 _ _ | omega) only [f_X13_improvingCycleLength, r_selT hS h8, r_wants1, g1, ↓q_m1, q_l0, q_l1, q_l2, q_l3, q_l4, q_l5, q_l6, q_l7, q_l8, q_l9, q_l10, q_l11, q_l12, q_l13, q_l14, q_l15, q_l16, q_l17, q_l18, q_l19, q_l20, q_l21, q_l22, q_l23, q_l24, q_l25, q_l26, q_l27, q_l28, q_l29, q_l30, q_l31, q_l32, q_l33, q_l45, q_l46, q_l48, q_l57, q_l58, q_l59, q_l60, q_l61, q_l62, q_l63, q_l64, q_l96, q_l97, q_l99, q_l122, q_l129, q_l137, q_l255, q_l256, q_l400, q_l680, q_l700, q_l959, q_l999, q_l9999, q_l10000, q_l100000, q_ltT, q_ltF, q_leT, q_leF, q_eqF, q_eqR, q_mlt, q_mle, q_nlm, q_nLm, q_nem, q_men, q_mlm, Nat.add_zero, Nat.sub_zero, q_add0, pk_rem, nI_add, pk_mul, q_sub, q_subm, q_addm, nI_clamp, q_inT, q_inF, q_sr1, q_srn, q_srw, q_srs, q_wIs, q_wIn, q_wI2, q_wJ1, q_wJs, q_wJn, q_wR1, q_wRs, q_wRn, q_wI22, q_wJ22, pk_us, pk_un, pk_uLs, pk_uLn, q_usS, q_usN, q_ups, q_upn, Bool.true_eq_false, Bool.false_eq_true, q_lt, q_o2, q_o3, q_o4, q_o5, q_bi, ↓reduceIte, q_tv0, q_tv1, q_bz, q_oRl, q_oRr, q_oXl, q_oXr]
    · rw [g2 0 (by omega)]; simp (maxSteps := 2000000) (disch := first | rfl | exact q_e1 _ _ _ | exact q_sr1 _ _ | omega) only [q_sr1, q_srn, q_srw, q_srs, q_wIs, q_wIn, q_wI2, q_wJ1, q_wJs, q_wJn, q_wR1, q_wRs, q_wRn, q_wI22, q_wJ22, pk_us, pk_un, pk_uLs, pk_uLn, q_usS, q_usN, q_ups, q_upn]
/-- nothing that this seller could gain -/
def okE (S : Nat) (a : Nat → Int32) (i : Nat) : Bool := (decide (a (25 + 13 * i + 3) = m1) || !decide (rk a i (a (25 + 13 * i + 3)) = m1)) && (decide (bfv S a i = m1) && decide ((if a (25 + 13 * i + 3) = m1 then m1 else cyc S a i) = m1))
theorem bet_u {S T : Nat} {a : Nat → Int32} (w : WL S T a) {i : Nat} (hi : i < S) : bet a i m1 (a (25 + 13 * i + 3)) = !(decide (a (25 + 13 * i + 3) = m1) || !decide (rk a i (a (25 + 13 * i + 3)) = m1)) := by
  have hl := (w.2.1 i hi).1
  by_cases c : a (25 + 13 * i + 3) = m1
  · rw [c, bet_self, decide_eq_true rfl]; rfl
  · rw [decide_eq_false c, bet, bad, if_pos rfl, bad, if_neg c]
    rcases rk_cases a i (a (25 + 13 * i + 3)) with e | ⟨k, hk, e⟩
    · rw [e, if_pos rfl, decide_eq_true rfl]; rfl
    · rw [e, if_neg (fun q => (q_nem (show k < 2 ^ 31 by omega)).mp q), decide_eq_false (nI_nlt (show k ≤ 8 by omega) (by omega)), decide_eq_false (fun q => (q_nem (show k < 2 ^ 31 by omega)).mp q)]; rfl
theorem P_isEfficient (h : Rel B σ) : FN B σ (f_X12_isEfficient σ) (f_X13_isEfficient (σ 20)) := by
  obtain ⟨S, T, hm, hf⟩ := h.1
  have w := hf.2.1; have h8 := w.1.1; have t8 := w.1.2; have hS := hm.1.2.2.1; have hT := hm.1.2.2.2
  have hc : f_X3_canImprove (σ 0) = some (tv (!decide (fd S (fun i => !okE S ((σ 20).1 1) i) = m1))) := by
    unfold f_X3_canImprove
    rw [q_l0]
    have key : ∀ r i n, i + r = S → r < n → (∀ k, k < i → okE S ((σ 20).1 1) k = true) → f_X3_canImprove_2 (σ 0) n (nI i) = some (tv (!decide (fd S (fun i => !okE S ((σ 20).1 1) i) = m1))) := by
      intro r
      induction r with
      | zero =>
        intro i n hi hn hk
        obtain ⟨n, rfl⟩ : ∃ q, n = q + 1 := ⟨n - 1, by omega⟩
        have : fd S (fun i => !okE S ((σ 20).1 1) i) = m1 := (fd_none (by omega)).mpr (fun k hk' => by rw [hk k (by omega)]; rfl)
        rw [this]
        simp (maxSteps := 2000000) (disch := first | rfl | exact q_e1 _ _ _ | exact q_sr1 _ _ | omega) only [f_X3_canImprove_2, ↓q_m1, q_l0, q_l1, q_l2, q_l3, q_l4, q_l5, q_l6, q_l7, q_l8, q_l9, q_l10, q_l11, q_l12, q_l13, q_l14, q_l15, q_l16, q_l17, q_l18, q_l19, q_l20, q_l21, q_l22, q_l23, q_l24, q_l25, q_l26, q_l27, q_l28, q_l29, q_l30, q_l31, q_l32, q_l33, q_l45, q_l46, q_l48, q_l57, q_l58, q_l59, q_l60, q_l61, q_l62, q_l63, q_l64, q_l96, q_l97, q_l99, q_l122, q_l129, q_l137, q_l255, q_l256, q_l400, q_l680, q_l700, q_l959, q_l999, q_l9999, q_l10000, q_l100000, q_ltT, q_ltF, q_leT, q_leF, q_eqF, q_eqR, q_mlt, q_mle, q_nlm, q_nLm, q_nem, q_men, q_mlm, Nat.add_zero, Nat.sub_zero, q_add0, pk_rem, nI_add, pk_mul, q_sub, q_subm, q_addm, nI_clamp, q_inT, q_inF, q_sr1, q_srn, q_srw, q_srs, q_wIs, q_wIn, q_wI2, q_wJ1, q_wJs, q_wJn, q_wR1, q_wRs, q_wRn, q_wI22, q_wJ22, pk_us, pk_un, pk_uLs, pk_uLn, q_usS, q_usN, q_ups, q_upn, Bool.true_eq_false, Bool.false_eq_true, q_lt, q_o2, q_o3, q_o4, q_o5, q_bi, ↓reduceIte, q_tv0, q_tv1, q_bz, q_oRl, q_oRr, q_oXl, q_oXr, hm.1.1]
        rfl
      | succ r ih =>
        intro i n hi hn hk
        obtain ⟨n, rfl⟩ : ∃ q, n = q + 1 := ⟨n - 1, by omega⟩
        have hiS : i < S := by omega
        cases ho : okE S ((σ 20).1 1) i with
        | false =>
          have ht : (!decide (fd S (fun i => !okE S ((σ 20).1 1) i) = m1)) = true := (fd_b (by omega)).mpr ⟨i, hiS, by rw [ho]; rfl⟩
          rw [ht]
          simp (maxSteps := 2000000) (disch := first | rfl | exact q_e1 _ _ _ | exact q_sr1 _ _ | omega) only [f_X3_canImprove_2, ↓q_m1, q_l0, q_l1, q_l2, q_l3, q_l4, q_l5, q_l6, q_l7, q_l8, q_l9, q_l10, q_l11, q_l12, q_l13, q_l14, q_l15, q_l16, q_l17, q_l18, q_l19, q_l20, q_l21, q_l22, q_l23, q_l24, q_l25, q_l26, q_l27, q_l28, q_l29, q_l30, q_l31, q_l32, q_l33, q_l45, q_l46, q_l48, q_l57, q_l58, q_l59, q_l60, q_l61, q_l62, q_l63, q_l64, q_l96, q_l97, q_l99, q_l122, q_l129, q_l137, q_l255, q_l256, q_l400, q_l680, q_l700, q_l959, q_l999, q_l9999, q_l10000, q_l100000, q_ltT, q_ltF, q_leT, q_leF, q_eqF, q_eqR, q_mlt, q_mle, q_nlm, q_nLm, q_nem, q_men, q_mlm, Nat.add_zero, Nat.sub_zero, q_add0, pk_rem, nI_add, pk_mul, q_sub, q_subm, q_addm, nI_clamp, q_inT, q_inF, q_sr1, q_srn, q_srw, q_srs, q_wIs, q_wIn, q_wI2, q_wJ1, q_wJs, q_wJn, q_wR1, q_wRs, q_wRn, q_wI22, q_wJ22, pk_us, pk_un, pk_uLs, pk_uLn, q_usS, q_usN, q_ups, q_upn, Bool.true_eq_false, Bool.false_eq_true, q_lt, q_o2, q_o3, q_o4, q_o5, q_bi, ↓reduceIte, q_tv0, q_tv1, q_bz, q_oRl, q_oRr, q_oXl, q_oXr, hm.1.1, s_heldBy hm h8 hiS, s_ranksAbove hm w hiS, s_bf hm w hf.2.2.1 hiS, s_cyc hm w hiS, bet_u w hiS]
          rw [okE] at ho
          cases hu : (decide ((σ 20).1 1 (25 + 13 * i + 3) = m1) || !decide (rk ((σ 20).1 1) i ((σ 20).1 1 (25 + 13 * i + 3)) = m1)) with
          | false => rfl
          | true =>
            rw [hu, Bool.true_and] at ho
            by_cases c1 : bfv S ((σ 20).1 1) i = m1
            · rw [decide_eq_true c1, Bool.true_and] at ho
              have c2 := of_decide_eq_false ho
              rw [if_pos (show (!true) = false from rfl), if_pos c1, if_neg c2]; rfl
            · rw [if_pos (show (!true) = false from rfl), if_neg c1]; rfl
        | true =>
          have ih' := ih (i + 1) n (by omega) (by omega) (fun k hk' => by
            by_cases e : k = i
            · subst e; exact ho
            · exact hk k (by omega))
          rw [okE, Bool.and_eq_true, Bool.and_eq_true, decide_eq_true_eq, decide_eq_true_eq] at ho
          have ho3 : ((if (σ 20).1 1 (25 + 13 * i + 3) = m1 then m1 else cyc S ((σ 20).1 1) i) = m1) = True := eq_true ho.2.2
          rw [← ih']
          simp (maxSteps := 2000000) (disch := first | rfl | exact q_e1 _ _ _ | exact q_sr1 _ _ | omega) only [f_X3_canImprove_2, ↓q_m1, q_l0, q_l1, q_l2, q_l3, q_l4, q_l5, q_l6, q_l7, q_l8, q_l9, q_l10, q_l11, q_l12, q_l13, q_l14, q_l15, q_l16, q_l17, q_l18, q_l19, q_l20, q_l21, q_l22, q_l23, q_l24, q_l25, q_l26, q_l27, q_l28, q_l29, q_l30, q_l31, q_l32, q_l33, q_l45, q_l46, q_l48, q_l57, q_l58, q_l59, q_l60, q_l61, q_l62, q_l63, q_l64, q_l96, q_l97, q_l99, q_l122, q_l129, q_l137, q_l255, q_l256, q_l400, q_l680, q_l700, q_l959, q_l999, q_l9999, q_l10000, q_l100000, q_ltT, q_ltF, q_leT, q_leF, q_eqF, q_eqR, q_mlt, q_mle, q_nlm, q_nLm, q_nem, q_men, q_mlm, Nat.add_zero, Nat.sub_zero, q_add0, pk_rem, nI_add, pk_mul, q_sub, q_subm, q_addm, nI_clamp, q_inT, q_inF, q_sr1, q_srn, q_srw, q_srs, q_wIs, q_wIn, q_wI2, q_wJ1, q_wJs, q_wJn, q_wR1, q_wRs, q_wRn, q_wI22, q_wJ22, pk_us, pk_un, pk_uLs, pk_uLn, q_usS, q_usN, q_ups, q_upn, Bool.true_eq_false, Bool.false_eq_true, q_lt, q_o2, q_o3, q_o4, q_o5, q_bi, ↓reduceIte, q_tv0, q_tv1, q_bz, q_oRl, q_oRr, q_oXl, q_oXr, hm.1.1, s_heldBy hm h8 hiS, s_ranksAbove hm w hiS, s_bf hm w hf.2.2.1 hiS, s_cyc hm w hiS, bet_u w hiS, ho.1, ho.2.1, Bool.not_true, ho3]
    exact key S 0 FU (by omega) (fu_lt (by omega)) (fun k hk => by omega)
  obtain ⟨z, g1, ρ', rfl, g2⟩ := lp_inv (F := fun n x (s : Int32 × OM) => f_X13_isEfficient_9 n x s.1 s.2) (i0 := 0) (s := (nI 1, wI (σ 20) 0 12 (nI 0))) (fun (j : Nat) (t : Int32 × OM) => ∃ ρ', t = (tv (decide (fd j (fun i => !okE S ((σ 20).1 1) i) = m1)), ρ') ∧ K7 (wI (σ 20) 0 12 (nI 0)) ρ') (fun t => ∃ ρ', t = (tv (decide (fd S (fun i => !okE S ((σ 20).1 1) i) = m1)), ρ') ∧ K7 (wI (σ 20) 0 12 (nI 0)) ρ') S (fun n j t hj hh => by
      obtain ⟨ρ1, rfl, k1⟩ := hh
      have et : ρ1.1 1 = (σ 20).1 1 := (k1 1 (by omega)).trans (q_e1 _ _ _)
      have hstep : decide (fd (j + 1) (fun i => !okE S ((σ 20).1 1) i) = m1) = (decide (fd j (fun i => !okE S ((σ 20).1 1) i) = m1) && okE S ((σ 20).1 1) j) := by
        refine Bool.eq_iff_iff.mpr ?_
        rw [Bool.and_eq_true, decide_eq_true_eq, decide_eq_true_eq, fd_none (by omega), fd_none (by omega)]
        constructor
        · intro q
          refine ⟨fun k hk => q k (by omega), ?_⟩
          have := q j (by omega)
          simpa using this
        · rintro ⟨q1, q2⟩ k hk
          by_cases e : k = j
          · subst e; simp [q2]
          · exact q1 k (by omega)
      obtain ⟨ρ2, f1, f2⟩ := r_cyc (ρ := ρ1) hS w hj et
      have k2 : K7 (wI (σ 20) 0 12 (nI 0)) ρ2 := fun k hk => (f2 k hk).trans (k1 k hk)
      cases hd : decide (fd j (fun i => !okE S ((σ 20).1 1) i) = m1) with
      | false =>
        rw [hd, Bool.false_and] at hstep
        refine ⟨(nI 0, ρ1), ⟨ρ1, by rw [hstep]; rfl, k1⟩, ?_⟩
        simp (maxSteps := 2000000) (disch := first | rfl | exact q_e1 _ _ _ | exact q_sr1 _ _ | omega) only [f_X13_isEfficient_9, ↓q_m1, q_l0, q_l1, q_l2, q_l3, q_l4, q_l5, q_l6, q_l7, q_l8, q_l9, q_l10, q_l11, q_l12, q_l13, q_l14, q_l15, q_l16, q_l17, q_l18, q_l19, q_l20, q_l21, q_l22, q_l23, q_l24, q_l25, q_l26, q_l27, q_l28, q_l29, q_l30, q_l31, q_l32, q_l33, q_l45, q_l46, q_l48, q_l57, q_l58, q_l59, q_l60, q_l61, q_l62, q_l63, q_l64, q_l96, q_l97, q_l99, q_l122, q_l129, q_l137, q_l255, q_l256, q_l400, q_l680, q_l700, q_l959, q_l999, q_l9999, q_l10000, q_l100000, q_ltT, q_ltF, q_leT, q_leF, q_eqF, q_eqR, q_mlt, q_mle, q_nlm, q_nLm, q_nem, q_men, q_mlm, Nat.add_zero, Nat.sub_zero, q_add0, pk_rem, nI_add, pk_mul, q_sub, q_subm, q_addm, nI_clamp, q_inT, q_inF, q_sr1, q_srn, q_srw, q_srs, q_wIs, q_wIn, q_wI2, q_wJ1, q_wJs, q_wJn, q_wR1, q_wRs, q_wRn, q_wI22, q_wJ22, pk_us, pk_un, pk_uLs, pk_uLn, q_usS, q_usN, q_ups, q_upn, Bool.true_eq_false, Bool.false_eq_true, q_lt, q_o2, q_o3, q_o4, q_o5, q_bi, ↓reduceIte, q_tv0, q_tv1, q_bz, q_oRl, q_oRr, q_oXl, q_oXr, et, hS, r_of ((σ 20).1 1) et, r_rk (w.li hj) et, hd]
        repeat' split
        all_goals rfl
      | true =>
        rw [hd, Bool.true_and] at hstep
        have main : f_X13_isEfficient_9 (n + 1) (nI j) (nI 1) ρ1 = f_X13_isEfficient_9 n (nI (j + 1)) (tv (okE S ((σ 20).1 1) j)) (if (decide ((σ 20).1 1 (25 + 13 * j + 3) = m1) || !decide (rk ((σ 20).1 1) j ((σ 20).1 1 (25 + 13 * j + 3)) = m1)) && decide (bfv S ((σ 20).1 1) j = m1) then ρ2 else ρ1) := by
          rw [okE]
          simp (maxSteps := 2000000) (disch := first | rfl | exact q_e1 _ _ _ | exact q_sr1 _ _ | omega) only [f_X13_isEfficient_9, ↓q_m1, q_l0, q_l1, q_l2, q_l3, q_l4, q_l5, q_l6, q_l7, q_l8, q_l9, q_l10, q_l11, q_l12, q_l13, q_l14, q_l15, q_l16, q_l17, q_l18, q_l19, q_l20, q_l21, q_l22, q_l23, q_l24, q_l25, q_l26, q_l27, q_l28, q_l29, q_l30, q_l31, q_l32, q_l33, q_l45, q_l46, q_l48, q_l57, q_l58, q_l59, q_l60, q_l61, q_l62, q_l63, q_l64, q_l96, q_l97, q_l99, q_l122, q_l129, q_l137, q_l255, q_l256, q_l400, q_l680, q_l700, q_l959, q_l999, q_l9999, q_l10000, q_l100000, q_ltT, q_ltF, q_leT, q_leF, q_eqF, q_eqR, q_mlt, q_mle, q_nlm, q_nLm, q_nem, q_men, q_mlm, Nat.add_zero, Nat.sub_zero, q_add0, pk_rem, nI_add, pk_mul, q_sub, q_subm, q_addm, nI_clamp, q_inT, q_inF, q_sr1, q_srn, q_srw, q_srs, q_wIs, q_wIn, q_wI2, q_wJ1, q_wJs, q_wJn, q_wR1, q_wRs, q_wRn, q_wI22, q_wJ22, pk_us, pk_un, pk_uLs, pk_uLn, q_usS, q_usN, q_ups, q_upn, Bool.true_eq_false, Bool.false_eq_true, q_lt, q_o2, q_o3, q_o4, q_o5, q_bi, ↓reduceIte, q_tv0, q_tv1, q_bz, q_oRl, q_oRr, q_oXl, q_oXr, et, hS, r_of ((σ 20).1 1) et, r_rk (w.li hj) et, r_bf hS w hj et, f1]
          by_cases c1 : (σ 20).1 1 (25 + 13 * j + 3) = m1
          · rw [if_pos c1, decide_eq_true c1, Bool.true_or, Bool.true_and]
            by_cases c2 : bfv S ((σ 20).1 1) j = m1
            · rw [if_pos c2, decide_eq_true c2]
              by_cases c3 : (if (σ 20).1 1 (25 + 13 * j + 3) = m1 then m1 else cyc S ((σ 20).1 1) j) = m1
              · rw [if_pos c3, decide_eq_true c3]; rfl
              · rw [if_neg c3, decide_eq_false c3]; rfl
            · rw [if_neg c2, decide_eq_false c2]; rfl
          · rw [if_neg c1, decide_eq_false c1, Bool.false_or]
            by_cases c4 : rk ((σ 20).1 1) j ((σ 20).1 1 (25 + 13 * j + 3)) = m1
            · rw [if_pos c4, decide_eq_true c4]; rfl
            · rw [if_neg c4, decide_eq_false c4, Bool.not_false, Bool.true_and]
              by_cases c2 : bfv S ((σ 20).1 1) j = m1
              · rw [if_pos c2, decide_eq_true c2]
                by_cases c3 : (if (σ 20).1 1 (25 + 13 * j + 3) = m1 then m1 else cyc S ((σ 20).1 1) j) = m1
                · rw [if_pos c3, decide_eq_true c3]; rfl
                · rw [if_neg c3, decide_eq_false c3]; rfl
              · rw [if_neg c2, decide_eq_false c2]; rfl
        have hK : ∀ b : Bool, K7 (wI (σ 20) 0 12 (nI 0)) (if b = true then ρ2 else ρ1) := fun b => by
          cases b
          · exact k1
          · exact k2
        obtain ⟨b, main⟩ : ∃ b : Bool, f_X13_isEfficient_9 (n + 1) (nI j) (nI 1) ρ1 = f_X13_isEfficient_9 n (nI (j + 1)) (tv (okE S ((σ 20).1 1) j)) (if b = true then ρ2 else ρ1) := ⟨_, main⟩
        exact ⟨(tv (okE S ((σ 20).1 1) j), if b = true then ρ2 else ρ1), ⟨if b = true then ρ2 else ρ1, by rw [hstep], hK b⟩, main⟩) (fun n t hh => by
      obtain ⟨ρ1, rfl, k1⟩ := hh
      have et : ρ1.1 1 = (σ 20).1 1 := (k1 1 (by omega)).trans (q_e1 _ _ _)
      exact ⟨_, by simp (maxSteps := 2000000) (disch := first | rfl | exact q_e1 _ _ _ | exact q_sr1 _ _ | omega) only [f_X13_isEfficient_9, ↓q_m1, q_l0, q_l1, q_l2, q_l3, q_l4, q_l5, q_l6, q_l7, q_l8, q_l9, q_l10, q_l11, q_l12, q_l13, q_l14, q_l15, q_l16, q_l17, q_l18, q_l19, q_l20, q_l21, q_l22, q_l23, q_l24, q_l25, q_l26, q_l27, q_l28, q_l29, q_l30, q_l31, q_l32, q_l33, q_l45, q_l46, q_l48, q_l57, q_l58, q_l59, q_l60, q_l61, q_l62, q_l63, q_l64, q_l96, q_l97, q_l99, q_l122, q_l129, q_l137, q_l255, q_l256, q_l400, q_l680, q_l700, q_l959, q_l999, q_l9999, q_l10000, q_l100000, q_ltT, q_ltF, q_leT, q_leF, q_eqF, q_eqR, q_mlt, q_mle, q_nlm, q_nLm, q_nem, q_men, q_mlm, Nat.add_zero, Nat.sub_zero, q_add0, pk_rem, nI_add, pk_mul, q_sub, q_subm, q_addm, nI_clamp, q_inT, q_inF, q_sr1, q_srn, q_srw, q_srs, q_wIs, q_wIn, q_wI2, q_wJ1, q_wJs, q_wJn, q_wR1, q_wRs, q_wRn, q_wI22, q_wJ22, pk_us, pk_un, pk_uLs, pk_uLn, q_usS, q_usN, q_ups, q_upn, Bool.true_eq_false, Bool.false_eq_true, q_lt, q_o2, q_o3, q_o4, q_o5, q_bi, ↓reduceIte, q_tv0, q_tv1, q_bz, q_oRl, q_oRr, q_oXl, q_oXr, et, hS], ρ1, rfl, k1⟩) (fu_lt (show S < 2000 by omega)) ⟨_, rfl, fun _ _ => rfl⟩
  refine ⟨tv (decide (fd S (fun i => !okE S ((σ 20).1 1) i) = m1)), ρ', ?_, ?_, h.q ((QE.fld (j := 12) (v := nI 0) (Or.inl rfl)).tr g2.q)⟩
  · simp (maxSteps := 2000000) (disch := first | rfl | exact q_e1 _ _ _ | exact q_sr1 _ _ | omega) only [f_X12_isEfficient, hc, ↓q_m1, q_l0, q_l1, q_l2, q_l3, q_l4, q_l5, q_l6, q_l7, q_l8, q_l9, q_l10, q_l11, q_l12, q_l13, q_l14, q_l15, q_l16, q_l17, q_l18, q_l19, q_l20, q_l21, q_l22, q_l23, q_l24, q_l25, q_l26, q_l27, q_l28, q_l29, q_l30, q_l31, q_l32, q_l33, q_l45, q_l46, q_l48, q_l57, q_l58, q_l59, q_l60, q_l61, q_l62, q_l63, q_l64, q_l96, q_l97, q_l99, q_l122, q_l129, q_l137, q_l255, q_l256, q_l400, q_l680, q_l700, q_l959, q_l999, q_l9999, q_l10000, q_l100000, q_ltT, q_ltF, q_leT, q_leF, q_eqF, q_eqR, q_mlt, q_mle, q_nlm, q_nLm, q_nem, q_men, q_mlm, Nat.add_zero, Nat.sub_zero, q_add0, pk_rem, nI_add, pk_mul, q_sub, q_subm, q_addm, nI_clamp, q_inT, q_inF, q_sr1, q_srn, q_srw, q_srs, q_wIs, q_wIn, q_wI2, q_wJ1, q_wJs, q_wJn, q_wR1, q_wRs, q_wRn, q_wI22, q_wJ22, pk_us, pk_un, pk_uLs, pk_uLn, q_usS, q_usN, q_ups, q_upn, Bool.true_eq_false, Bool.false_eq_true, q_lt, q_o2, q_o3, q_o4, q_o5, q_bi, ↓reduceIte, q_tv0, q_tv1, q_bz, q_oRl, q_oRr, q_oXl, q_oXr]
    cases decide (fd S (fun i => !okE S ((σ 20).1 1) i) = m1) <;> rfl
  · simp (maxSteps := 2000000) (disch := first | rfl | exact q_e1 _ _ _ | exact q_sr1 _ _ | omega) only [f_X13_isEfficient, ↓q_m1, q_l0, q_l1, q_l2, q_l3, q_l4, q_l5, q_l6, q_l7, q_l8, q_l9, q_l10, q_l11, q_l12, q_l13, q_l14, q_l15, q_l16, q_l17, q_l18, q_l19, q_l20, q_l21, q_l22, q_l23, q_l24, q_l25, q_l26, q_l27, q_l28, q_l29, q_l30, q_l31, q_l32, q_l33, q_l45, q_l46, q_l48, q_l57, q_l58, q_l59, q_l60, q_l61, q_l62, q_l63, q_l64, q_l96, q_l97, q_l99, q_l122, q_l129, q_l137, q_l255, q_l256, q_l400, q_l680, q_l700, q_l959, q_l999, q_l9999, q_l10000, q_l100000, q_ltT, q_ltF, q_leT, q_leF, q_eqF, q_eqR, q_mlt, q_mle, q_nlm, q_nLm, q_nem, q_men, q_mlm, Nat.add_zero, Nat.sub_zero, q_add0, pk_rem, nI_add, pk_mul, q_sub, q_subm, q_addm, nI_clamp, q_inT, q_inF, q_sr1, q_srn, q_srw, q_srs, q_wIs, q_wIn, q_wI2, q_wJ1, q_wJs, q_wJn, q_wR1, q_wRs, q_wRn, q_wI22, q_wJ22, pk_us, pk_un, pk_uLs, pk_uLn, q_usS, q_usN, q_ups, q_upn, Bool.true_eq_false, Bool.false_eq_true, q_lt, q_o2, q_o3, q_o4, q_o5, q_bi, ↓reduceIte, q_tv0, q_tv1, q_bz, q_oRl, q_oRr, q_oXl, q_oXr, g1]
end FACE

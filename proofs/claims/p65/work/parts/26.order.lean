/-! the order, cycles -/
/-! the priority order -/
def shU (b : Nat → Int32) (k p : Nat) : Nat → Int32 := fun x => if 129 + k ≤ x ∧ x < 129 + p then b (x + 1) else b x
def shD (b : Nat → Int32) (p k : Nat) : Nat → Int32 := fun x => if 129 + p < x ∧ x ≤ 129 + k then b (x - 1) else b x
section ORD
variable {B S T : Nat} {μ : OM} {a : Nat → Int32} {ρ : OM}
def mvA (a : Nat → Int32) (q p i : Nat) : Nat → Int32 := upd (if p ≤ q then shD a p q else shU a q p) (129 + p) (nI i)
def mvT (q p x : Nat) : Nat := if q < x ∧ x ≤ p then x - 1 else if x < q ∧ p ≤ x then x + 1 else x
theorem s_mv9 {q p : Nat} (h0 : μ.1 0 0 = nI S) (h8 : S ≤ 8) (hq : q < S) (hp : p < S) {f : Nat → Nat} (hf : ∀ j, j < S → f j < S ∧ μ.1 5 j = nI (f j)) : ∃ μ', f_X5_moveTurn_9 (nI q) (nI p) FU (nI 0) μ = some μ' ∧ (∀ k, k ≠ 5 → μ'.1 k = μ.1 k) ∧ μ'.2 = μ.2 ∧ ∀ j, j < S → μ'.1 5 j = nI (mvT q p (f j)) := by
  refine lp_inv (F := f_X5_moveTurn_9 (nI q) (nI p)) (i0 := 0) (fun (j : Nat) (s : OM) => (∀ k, k ≠ 5 → s.1 k = μ.1 k) ∧ s.2 = μ.2 ∧ (∀ y, y < j → s.1 5 y = nI (mvT q p (f y))) ∧ ∀ y, j ≤ y → s.1 5 y = μ.1 5 y) _ S (fun n j s hj hh => ?_) (fun n s hh => ?_) (fu_lt (show S < 2000 by omega)) ⟨fun _ _ => rfl, rfl, fun y hy => by omega, fun _ _ => rfl⟩
  · obtain ⟨g1, g2, g3, g4⟩ := hh
    have e0 : s.1 0 0 = nI S := (congrFun (g1 0 (by omega)) 0).trans h0
    obtain ⟨fx, ex⟩ := hf j hj
    have e5 : s.1 5 j = nI (f j) := (g4 j (Nat.le_refl _)).trans ex
    by_cases c1 : q < f j ∧ f j ≤ p
    · refine ⟨wI s 5 j (nI (f j - 1)), ⟨fun k hk => (q_wIn hk).trans (g1 k hk), g2, fun y hy => ?_, fun y hy => ?_⟩, by simp (maxSteps := 2000000) (disch := first | rfl | exact q_e1 _ _ _ | exact q_sr1 _ _ | omega) only [f_X5_moveTurn_9, ↓q_m1, q_l0, q_l1, q_l2, q_l3, q_l4, q_l5, q_l6, q_l7, q_l8, q_l9, q_l10, q_l11, q_l12, q_l13, q_l14, q_l15, q_l16, q_l17, q_l18, q_l19, q_l20, q_l21, q_l22, q_l23, q_l24, q_l25, q_l26, q_l27, q_l28, q_l29, q_l30, q_l31, q_l32, q_l33, q_l45, q_l46, q_l48, q_l57, q_l58, q_l59, q_l60, q_l61, q_l62, q_l63, q_l64, q_l96, q_l97, q_l99, q_l122, q_l129, q_l137, q_l255, q_l256, q_l400, q_l680, q_l700, q_l959, q_l999, q_l9999, q_l10000, q_l100000, q_l36, q_l50, q_l100, q_l112, q_l200, q_ltT, q_ltF, q_leT, q_leF, q_eqF, q_eqR, q_mlt, q_mle, q_nlm, q_nLm, q_nem, q_men, q_mlm, Nat.add_zero, Nat.sub_zero, q_add0, pk_rem, nI_add, pk_mul, q_sub, q_subm, q_addm, nI_clamp, q_inT, q_inF, q_sr1, q_srn, q_srw, q_srs, q_wIs, q_wIn, q_wI2, q_wJ1, q_wJs, q_wJn, q_wR1, q_wRs, q_wRn, q_wI22, q_wJ22, pk_us, pk_un, pk_uLs, pk_uLn, q_usS, q_usN, q_ups, q_upn, Bool.true_eq_false, Bool.false_eq_true, q_lt, q_o2, q_o3, q_o4, q_o5, q_bi, ↓reduceIte, q_tv0, q_tv1, q_bz, q_oRl, q_oRr, q_oXl, q_oXr, e0, e5]⟩
      · by_cases e : y = j
        · subst e; rw [q_wIs, pk_us, mvT, if_pos c1]
        · rw [q_wIs, pk_un e]; exact g3 y (by omega)
      · rw [q_wIs, pk_un (by omega)]; exact g4 y (by omega)
    · by_cases c2 : f j < q ∧ p ≤ f j
      · refine ⟨wI s 5 j (nI (f j + 1)), ⟨fun k hk => (q_wIn hk).trans (g1 k hk), g2, fun y hy => ?_, fun y hy => ?_⟩, by simp (maxSteps := 2000000) (disch := first | rfl | exact q_e1 _ _ _ | exact q_sr1 _ _ | omega) only [f_X5_moveTurn_9, ↓q_m1, q_l0, q_l1, q_l2, q_l3, q_l4, q_l5, q_l6, q_l7, q_l8, q_l9, q_l10, q_l11, q_l12, q_l13, q_l14, q_l15, q_l16, q_l17, q_l18, q_l19, q_l20, q_l21, q_l22, q_l23, q_l24, q_l25, q_l26, q_l27, q_l28, q_l29, q_l30, q_l31, q_l32, q_l33, q_l45, q_l46, q_l48, q_l57, q_l58, q_l59, q_l60, q_l61, q_l62, q_l63, q_l64, q_l96, q_l97, q_l99, q_l122, q_l129, q_l137, q_l255, q_l256, q_l400, q_l680, q_l700, q_l959, q_l999, q_l9999, q_l10000, q_l100000, q_l36, q_l50, q_l100, q_l112, q_l200, q_ltT, q_ltF, q_leT, q_leF, q_eqF, q_eqR, q_mlt, q_mle, q_nlm, q_nLm, q_nem, q_men, q_mlm, Nat.add_zero, Nat.sub_zero, q_add0, pk_rem, nI_add, pk_mul, q_sub, q_subm, q_addm, nI_clamp, q_inT, q_inF, q_sr1, q_srn, q_srw, q_srs, q_wIs, q_wIn, q_wI2, q_wJ1, q_wJs, q_wJn, q_wR1, q_wRs, q_wRn, q_wI22, q_wJ22, pk_us, pk_un, pk_uLs, pk_uLn, q_usS, q_usN, q_ups, q_upn, Bool.true_eq_false, Bool.false_eq_true, q_lt, q_o2, q_o3, q_o4, q_o5, q_bi, ↓reduceIte, q_tv0, q_tv1, q_bz, q_oRl, q_oRr, q_oXl, q_oXr, e0, e5]⟩
        · by_cases e : y = j
          · subst e; rw [q_wIs, pk_us, mvT, if_neg c1, if_pos c2]
          · rw [q_wIs, pk_un e]; exact g3 y (by omega)
        · rw [q_wIs, pk_un (by omega)]; exact g4 y (by omega)
      · refine ⟨s, ⟨g1, g2, fun y hy => ?_, fun y hy => g4 y (by omega)⟩, ?_⟩
        · by_cases e : y = j
          · subst e; rw [e5, mvT, if_neg c1, if_neg c2]
          · exact g3 y (by omega)
        · by_cases d1 : q < f j
          · simp (maxSteps := 2000000) (disch := first | rfl | exact q_e1 _ _ _ | exact q_sr1 _ _ | omega) only [f_X5_moveTurn_9, ↓q_m1, q_l0, q_l1, q_l2, q_l3, q_l4, q_l5, q_l6, q_l7, q_l8, q_l9, q_l10, q_l11, q_l12, q_l13, q_l14, q_l15, q_l16, q_l17, q_l18, q_l19, q_l20, q_l21, q_l22, q_l23, q_l24, q_l25, q_l26, q_l27, q_l28, q_l29, q_l30, q_l31, q_l32, q_l33, q_l45, q_l46, q_l48, q_l57, q_l58, q_l59, q_l60, q_l61, q_l62, q_l63, q_l64, q_l96, q_l97, q_l99, q_l122, q_l129, q_l137, q_l255, q_l256, q_l400, q_l680, q_l700, q_l959, q_l999, q_l9999, q_l10000, q_l100000, q_l36, q_l50, q_l100, q_l112, q_l200, q_ltT, q_ltF, q_leT, q_leF, q_eqF, q_eqR, q_mlt, q_mle, q_nlm, q_nLm, q_nem, q_men, q_mlm, Nat.add_zero, Nat.sub_zero, q_add0, pk_rem, nI_add, pk_mul, q_sub, q_subm, q_addm, nI_clamp, q_inT, q_inF, q_sr1, q_srn, q_srw, q_srs, q_wIs, q_wIn, q_wI2, q_wJ1, q_wJs, q_wJn, q_wR1, q_wRs, q_wRn, q_wI22, q_wJ22, pk_us, pk_un, pk_uLs, pk_uLn, q_usS, q_usN, q_ups, q_upn, Bool.true_eq_false, Bool.false_eq_true, q_lt, q_o2, q_o3, q_o4, q_o5, q_bi, ↓reduceIte, q_tv0, q_tv1, q_bz, q_oRl, q_oRr, q_oXl, q_oXr, e0, e5]
          · by_cases d2 : q = f j
            · simp (maxSteps := 2000000) (disch := first | rfl | exact q_e1 _ _ _ | exact q_sr1 _ _ | omega) only [f_X5_moveTurn_9, ↓q_m1, q_l0, q_l1, q_l2, q_l3, q_l4, q_l5, q_l6, q_l7, q_l8, q_l9, q_l10, q_l11, q_l12, q_l13, q_l14, q_l15, q_l16, q_l17, q_l18, q_l19, q_l20, q_l21, q_l22, q_l23, q_l24, q_l25, q_l26, q_l27, q_l28, q_l29, q_l30, q_l31, q_l32, q_l33, q_l45, q_l46, q_l48, q_l57, q_l58, q_l59, q_l60, q_l61, q_l62, q_l63, q_l64, q_l96, q_l97, q_l99, q_l122, q_l129, q_l137, q_l255, q_l256, q_l400, q_l680, q_l700, q_l959, q_l999, q_l9999, q_l10000, q_l100000, q_l36, q_l50, q_l100, q_l112, q_l200, q_ltT, q_ltF, q_leT, q_leF, q_eqF, q_eqR, q_mlt, q_mle, q_nlm, q_nLm, q_nem, q_men, q_mlm, Nat.add_zero, Nat.sub_zero, q_add0, pk_rem, nI_add, pk_mul, q_sub, q_subm, q_addm, nI_clamp, q_inT, q_inF, q_sr1, q_srn, q_srw, q_srs, q_wIs, q_wIn, q_wI2, q_wJ1, q_wJs, q_wJn, q_wR1, q_wRs, q_wRn, q_wI22, q_wJ22, pk_us, pk_un, pk_uLs, pk_uLn, q_usS, q_usN, q_ups, q_upn, Bool.true_eq_false, Bool.false_eq_true, q_lt, q_o2, q_o3, q_o4, q_o5, q_bi, ↓reduceIte, q_tv0, q_tv1, q_bz, q_oRl, q_oRr, q_oXl, q_oXr, e0, e5]
            · simp (maxSteps := 2000000) (disch := first | rfl | exact q_e1 _ _ _ | exact q_sr1 _ _ | omega) only [f_X5_moveTurn_9, ↓q_m1, q_l0, q_l1, q_l2, q_l3, q_l4, q_l5, q_l6, q_l7, q_l8, q_l9, q_l10, q_l11, q_l12, q_l13, q_l14, q_l15, q_l16, q_l17, q_l18, q_l19, q_l20, q_l21, q_l22, q_l23, q_l24, q_l25, q_l26, q_l27, q_l28, q_l29, q_l30, q_l31, q_l32, q_l33, q_l45, q_l46, q_l48, q_l57, q_l58, q_l59, q_l60, q_l61, q_l62, q_l63, q_l64, q_l96, q_l97, q_l99, q_l122, q_l129, q_l137, q_l255, q_l256, q_l400, q_l680, q_l700, q_l959, q_l999, q_l9999, q_l10000, q_l100000, q_l36, q_l50, q_l100, q_l112, q_l200, q_ltT, q_ltF, q_leT, q_leF, q_eqF, q_eqR, q_mlt, q_mle, q_nlm, q_nLm, q_nem, q_men, q_mlm, Nat.add_zero, Nat.sub_zero, q_add0, pk_rem, nI_add, pk_mul, q_sub, q_subm, q_addm, nI_clamp, q_inT, q_inF, q_sr1, q_srn, q_srw, q_srs, q_wIs, q_wIn, q_wI2, q_wJ1, q_wJs, q_wJn, q_wR1, q_wRs, q_wRn, q_wI22, q_wJ22, pk_us, pk_un, pk_uLs, pk_uLn, q_usS, q_usN, q_ups, q_upn, Bool.true_eq_false, Bool.false_eq_true, q_lt, q_o2, q_o3, q_o4, q_o5, q_bi, ↓reduceIte, q_tv0, q_tv1, q_bz, q_oRl, q_oRr, q_oXl, q_oXr, e0, e5]
  · obtain ⟨g1, g2, g3, g4⟩ := hh
    have e0 : s.1 0 0 = nI S := (congrFun (g1 0 (by omega)) 0).trans h0
    exact ⟨s, by simp (maxSteps := 2000000) (disch := first | rfl | exact q_e1 _ _ _ | exact q_sr1 _ _ | omega) only [f_X5_moveTurn_9, ↓q_m1, q_l0, q_l1, q_l2, q_l3, q_l4, q_l5, q_l6, q_l7, q_l8, q_l9, q_l10, q_l11, q_l12, q_l13, q_l14, q_l15, q_l16, q_l17, q_l18, q_l19, q_l20, q_l21, q_l22, q_l23, q_l24, q_l25, q_l26, q_l27, q_l28, q_l29, q_l30, q_l31, q_l32, q_l33, q_l45, q_l46, q_l48, q_l57, q_l58, q_l59, q_l60, q_l61, q_l62, q_l63, q_l64, q_l96, q_l97, q_l99, q_l122, q_l129, q_l137, q_l255, q_l256, q_l400, q_l680, q_l700, q_l959, q_l999, q_l9999, q_l10000, q_l100000, q_l36, q_l50, q_l100, q_l112, q_l200, q_ltT, q_ltF, q_leT, q_leF, q_eqF, q_eqR, q_mlt, q_mle, q_nlm, q_nLm, q_nem, q_men, q_mlm, Nat.add_zero, Nat.sub_zero, q_add0, pk_rem, nI_add, pk_mul, q_sub, q_subm, q_addm, nI_clamp, q_inT, q_inF, q_sr1, q_srn, q_srw, q_srs, q_wIs, q_wIn, q_wI2, q_wJ1, q_wJs, q_wJn, q_wR1, q_wRs, q_wRn, q_wI22, q_wJ22, pk_us, pk_un, pk_uLs, pk_uLn, q_usS, q_usN, q_ups, q_upn, Bool.true_eq_false, Bool.false_eq_true, q_lt, q_o2, q_o3, q_o4, q_o5, q_bi, ↓reduceIte, q_tv0, q_tv1, q_bz, q_oRl, q_oRr, q_oXl, q_oXr, e0], g1, g2, g3⟩
theorem MX.ord (h : MX B S T μ a) {μ' : OM} {a' : Nat → Int32} (f1 : ∀ k, k ≠ 5 → μ'.1 k = μ.1 k) (f2 : μ'.2 = μ.2) (f3 : ∀ x, x < 129 → a' x = a x) (n10' : ∀ i, i < S → ∃ k, k < S ∧ μ'.1 5 i = nI k ∧ a' (129 + k) = nI i) (n11' : ∀ k, k < S → ∃ i, i < S ∧ μ'.1 5 i = nI k ∧ a' (129 + k) = nI i) : MX B S T μ' a' := by
  obtain ⟨⟨⟨n0, n1, n2, n3⟩, n4, n5, n6, n7, n8, n9, n10, n11⟩, s1, ⟨⟨h8, t8⟩, w1, w2, w3⟩, ⟨d1, d2⟩, ⟨⟨d, hd, e2⟩, v2, v3, v4⟩⟩ := h
  have el : ∀ j, j < S → ln a' j = ln a j := fun j hj => ln_eq (f3 _ (by omega))
  refine ⟨⟨⟨?_, ?_, (f3 0 (by omega)).trans n2, (f3 1 (by omega)).trans n3⟩, fun k g1 g2 => ?_, fun j hj => ?_, fun j k hj hk => ?_, fun t ht => ?_, fun j hj => ?_, fun t ht => ?_, n10', n11'⟩, s1, ⟨⟨h8, t8⟩, fun j hj => ?_, fun j k hj hk => ?_, fun j hj => ?_⟩, ⟨fun j k k' hj hk hk' => ?_, fun j j' hj hj' => ?_⟩, ⟨⟨d, hd, by rw [f3 _ (by omega)]; exact e2⟩, fun t ht => ?_, fun j hj => ?_, fun j hj => ?_⟩⟩
  · rw [f1 0 (by omega)]; exact n0
  · rw [f1 0 (by omega)]; exact n1
  · rw [f1 0 (by omega), f3 k (by omega)]; exact n4 k g1 g2
  · rw [f1 2 (by omega), f1 3 (by omega), f1 4 (by omega), f1 6 (by omega), f3 _ (by omega), f3 _ (by omega), f3 _ (by omega), f3 _ (by omega)]; exact n5 j hj
  · rw [el j hj] at hk
    have := (w1 j hj).1
    rw [f1 7 (by omega), f3 _ (by omega)]; exact n6 j k hj hk
  · rw [f1 9 (by omega), f3 _ (by omega)]; exact n7 t ht
  · rw [f2, f3 _ (by omega)]; exact n8 j hj
  · rw [f2, f3 _ (by omega)]; exact n9 t ht
  · rw [el j hj, f3 _ (by omega)]; exact w1 j hj
  · rw [el j hj] at hk
    have := (w1 j hj).1
    rw [f3 _ (by omega)]; exact w2 j k hj hk
  · rw [f3 _ (by omega)]; exact w3 j hj
  · rw [el j hj] at hk hk'
    have := (w1 j hj).1
    rw [f3 _ (by omega), f3 _ (by omega)]; exact d1 j k k' hj hk hk'
  · rw [f3 _ (by omega), f3 _ (by omega)]; exact d2 j j' hj hj'
  · rw [f3 _ (by omega)]; exact v2 t ht
  · rw [f3 _ (by omega)]; exact v3 j hj
  · rw [f3 _ (by omega)]; exact v4 j hj
end ORD
section FACE
variable {B : Nat} {σ : SM}
end FACE
/-! ways of wants -/
def Rn (S : Nat) (a : Nat → Int32) (s : Nat) : Nat → Nat → Bool
  | 0, j => decide (j = s)
  | n + 1, j => !decide (fd S (fun i => Rn S a s n i && lng a i j) = m1)
section CYC
variable {S T : Nat} {a : Nat → Int32}
theorem Rn_s (h8 : S ≤ 8) {s n j : Nat} : Rn S a s (n + 1) j = true ↔ ∃ i, i < S ∧ Rn S a s n i = true ∧ lng a i j = true := by
  rw [Rn, fd_b (by omega)]
  constructor
  · rintro ⟨k, hk, hp⟩
    rw [Bool.and_eq_true] at hp
    exact ⟨k, hk, hp.1, hp.2⟩
  · rintro ⟨k, hk, h1, h2⟩
    exact ⟨k, hk, by rw [h1, h2]; rfl⟩
theorem Rn_0 {s j : Nat} : Rn S a s 0 j = true ↔ j = s := by rw [Rn]; exact decide_eq_true_iff
theorem Rn_cat (h8 : S ≤ 8) {s x n : Nat} (h : Rn S a s n x = true) : ∀ (m j : Nat), Rn S a x m j = true → Rn S a s (n + m) j = true
  | 0, j, g => by rw [Rn_0] at g; subst g; exact h
  | m + 1, j, g => by
    obtain ⟨i, h1, h2, h3⟩ := (Rn_s h8).mp g
    exact (Rn_s h8).mpr ⟨i, h1, Rn_cat h8 h m i h2, h3⟩
theorem Rn_cut (h8 : S ≤ 8) {s n : Nat} : ∀ (m j : Nat), j < S → Rn S a s (n + m) j = true → ∃ x, x < S ∧ Rn S a s n x = true ∧ Rn S a x m j = true
  | 0, j, hj, g => ⟨j, hj, g, Rn_0.mpr rfl⟩
  | m + 1, j, hj, g => by
    obtain ⟨i, h1, h2, h3⟩ := (Rn_s h8).mp g
    obtain ⟨x, g1, g2, g3⟩ := Rn_cut h8 m i h1 h2
    exact ⟨x, g1, g2, (Rn_s h8).mpr ⟨i, h1, g3, h3⟩⟩
/-- reached by a way of less than n steps -/
def Un (S : Nat) (a : Nat → Int32) (s : Nat) : Nat → Nat → Bool
  | 0, _ => false
  | n + 1, j => Un S a s n j || Rn S a s n j
theorem Un_iff {s : Nat} : ∀ {n j : Nat}, Un S a s n j = true ↔ ∃ d, d < n ∧ Rn S a s d j = true
  | 0, j => ⟨fun h => (by cases h), fun ⟨d, h, _⟩ => by omega⟩
  | n + 1, j => by
    rw [Un, Bool.or_eq_true, Un_iff]
    constructor
    · rintro (⟨d, h1, h2⟩ | h)
      · exact ⟨d, by omega, h2⟩
      · exact ⟨n, by omega, h⟩
    · rintro ⟨d, h1, h2⟩
      by_cases e : d = n
      · subst e; exact Or.inr h2
      · exact Or.inl ⟨d, by omega, h2⟩
theorem cnt_mono {P Q : Nat → Bool} : ∀ {n : Nat}, (∀ k, k < n → P k = true → Q k = true) → cnt P n ≤ cnt Q n
  | 0, _ => Nat.le_refl _
  | n + 1, h => by
    have ih := cnt_mono (P := P) (Q := Q) (n := n) (fun k hk => h k (by omega))
    rw [cnt, cnt]
    by_cases e : P n = true
    · rw [if_pos e, if_pos (h n (by omega) e)]; omega
    · rw [if_neg e]; omega
theorem cnt_more {P Q : Nat → Bool} {x : Nat} : ∀ {n : Nat}, (∀ k, k < n → P k = true → Q k = true) → x < n → P x = false → Q x = true → cnt P n + 1 ≤ cnt Q n
  | 0, _, h, _, _ => by omega
  | n + 1, h, hx, hp, hq => by
    rw [cnt, cnt]
    by_cases e : x = n
    · subst e
      have ih := cnt_mono (P := P) (Q := Q) (n := x) (fun k hk => h k (by omega))
      rw [hp, if_pos hq]
      simp
      omega
    · have ih := cnt_more (P := P) (Q := Q) (n := n) (fun k hk => h k (by omega)) (by omega) hp hq
      by_cases e : P n = true
      · rw [if_pos e, if_pos (h n (by omega) e)]; omega
      · rw [if_neg e]; omega
/-- a shortest way back has no more steps than there are sellers -/
theorem cyc_le (h8 : S ≤ 8) {s : Nat} (hs : s < S) (hno : ∀ L, 1 ≤ L → L ≤ S → Rn S a s L s = false) : ∀ L, 1 ≤ L → Rn S a s L s = false := by
  intro L
  induction L using Nat.strongRecOn with
  | ind L ih =>
    intro h1
    cases hR : Rn S a s L s with
    | false => rfl
    | true =>
      exfalso
      have hL : S < L := Nat.lt_of_not_le (fun hh => by rw [hno L h1 hh] at hR; cases hR)
      have hc : ∀ n, n ≤ L → n ≤ cnt (Un S a s n) S := by
        intro n
        induction n with
        | zero => exact fun _ => Nat.zero_le _
        | succ n ihn =>
          intro hn
          obtain ⟨x, g1, g2, g3⟩ := Rn_cut (n := n) h8 (L - n) s hs (by rw [show n + (L - n) = L by omega]; exact hR)
          have hx : Un S a s n x = false := by
            cases hu : Un S a s n x with
            | false => rfl
            | true =>
              exfalso
              obtain ⟨d, d1, d2⟩ := Un_iff.mp hu
              have := Rn_cat h8 d2 (L - n) s g3
              rw [ih (d + (L - n)) (by omega) (by omega)] at this
              cases this
          have := cnt_more (P := Un S a s n) (Q := Un S a s (n + 1)) (x := x) (n := S) (fun k _ hk => by rw [Un, hk]; rfl) g1 hx (by rw [Un, g2, Bool.or_true])
          have := ihn (by omega)
          omega
      have := hc L (Nat.le_refl _)
      have := cnt_le (Un S a s L) S
      omega
theorem fvr_at {P : Nat → Bool} {v : Nat → Int32} {k : Nat} : ∀ {r i : Nat}, i ≤ k → k < i + r → P k = true → (∀ j, i ≤ j → j < k → P j = false) → fvr P v r i = v k
  | 0, i, h1, h2, _, _ => by omega
  | r + 1, i, h1, h2, hk, hj => by
    rw [fvr]
    by_cases e : i = k
    · subst e; rw [if_pos hk]
    · rw [hj i (Nat.le_refl _) (by omega)]
      exact fvr_at (by omega) (by omega) hk (fun j h3 h4 => hj j (by omega) h4)
/-- the shortest way back -/
def cyc (S : Nat) (a : Nat → Int32) (s : Nat) : Int32 := fvr (fun k => Rn S a s (k + 1) s) (fun k => nI (k + 1)) 8 0
theorem cyc_S (h8 : S ≤ 8) {s : Nat} (hs : s < S) : fvr (fun k => Rn S a s (k + 1) s) (fun k => nI (k + 1)) S 0 = cyc S a s := by
  rw [cyc]
  rcases fd_cases S (fun k => Rn S a s (k + 1) s) with ⟨k, h1, h2, h3, _⟩ | ⟨h1, _⟩
  · rw [fvr_at (P := fun k => Rn S a s (k + 1) s) (k := k) (r := S) (Nat.zero_le _) (by omega) h2 (fun j _ hj => h3 j hj), fvr_at (P := fun k => Rn S a s (k + 1) s) (k := k) (r := 8) (Nat.zero_le _) (by omega) h2 (fun j _ hj => h3 j hj)]
  · have hz := cyc_le h8 hs (fun L g1 g2 => by
      have := h1 (L - 1) (by omega)
      rw [show L - 1 + 1 = L by omega] at this
      exact this)
    rw [fvr_none (fun k _ hk => h1 k (by omega)), fvr_none (fun k _ _ => hz (k + 1) (by omega))]
/-! the class: sets of sellers as bits -/
def BS (m : Nat) (P : Nat → Bool) : Prop := m < 256 ∧ ∀ j, j < 8 → m.testBit j = P j
theorem b_and : ∀ m, m < 256 → ∀ i, i < 8 → (nI m &&& (nI 1 <<< (nI i &&& nI 31)) = nI 0 ↔ m.testBit i = false) := by decide +kernel
theorem b_or : ∀ m, m < 256 → ∀ i, i < 8 → nI m ||| (nI 1 <<< (nI i &&& nI 31)) = nI (m ||| 2 ^ i) := by decide +kernel
theorem b_one : ∀ i, i < 8 → nI 1 <<< (nI i &&& nI 31) = nI (2 ^ i) := by decide +kernel
theorem BS.or {m i : Nat} {P : Nat → Bool} (h : BS m P) (hi : i < 8) : BS (m ||| 2 ^ i) (fun j => P j || decide (i = j)) := by
  refine ⟨Nat.or_lt_two_pow (n := 8) h.1 (Nat.pow_lt_pow_right (by omega) hi), fun j hj => ?_⟩
  rw [Nat.testBit_or, h.2 j hj, Nat.testBit_two_pow]
theorem BS.one {i : Nat} (hi : i < 8) : BS (2 ^ i) (fun j => decide (i = j)) := ⟨(by have := Nat.pow_lt_pow_right (a := 2) (by omega) hi; exact this), fun j _ => Nat.testBit_two_pow⟩
theorem BS.congr {m : Nat} {P Q : Nat → Bool} (h : BS m P) (e : ∀ j, j < 8 → P j = Q j) : BS m Q := ⟨h.1, fun j hj => (h.2 j hj).trans (e j hj)⟩
variable {μ : OM}
theorem s_wba (h : MR S T μ a) (w : WL S T a) {m : Nat} {P : Nat → Bool} (hm : BS m P) : ∃ m', f_X3_wantedByAny (nI m) μ = some (nI m') ∧ BS m' (fun j => decide (j < S) && !decide (fd S (fun i => P i && lng a i j) = m1)) := by
  have h8 := w.1.1
  have hin : ∀ i, i < S → ∀ (m0 : Nat) (P0 : Nat → Bool), BS m0 P0 → ∃ m', f_X3_wantedByAny_15 (nI m) (nI i) μ FU (nI 0) (nI m0) = some (nI m') ∧ BS m' (fun j => P0 j || (decide (j < S) && (P i && lng a i j))) := by
    intro i hi m0 P0 h0
    obtain ⟨b, g1, m', rfl, g2⟩ := lp_inv (F := f_X3_wantedByAny_15 (nI m) (nI i) μ) (i0 := 0) (fun (k : Nat) (s : Int32) => ∃ m', s = nI m' ∧ BS m' (fun j => P0 j || (decide (j < k) && (P i && lng a i j)))) (fun s => ∃ m', s = nI m' ∧ BS m' (fun j => P0 j || (decide (j < S) && (P i && lng a i j)))) S (fun n k s hk hh => by
      obtain ⟨m1', rfl, g⟩ := hh
      have hb := b_and m hm.1 i (by omega)
      rw [hm.2 i (by omega)] at hb
      cases hp : P i with
      | false =>
        have hb : (nI m &&& (nI 1 <<< (nI i &&& nI 31)) = nI 0) = True := eq_true (hb.mpr hp)
        exact ⟨nI m1', ⟨m1', rfl, g.congr (fun j _ => by simp [hp])⟩, by simp (maxSteps := 2000000) (disch := first | rfl | exact q_e1 _ _ _ | exact q_sr1 _ _ | omega) only [f_X3_wantedByAny_15, ↓q_m1, q_l0, q_l1, q_l2, q_l3, q_l4, q_l5, q_l6, q_l7, q_l8, q_l9, q_l10, q_l11, q_l12, q_l13, q_l14, q_l15, q_l16, q_l17, q_l18, q_l19, q_l20, q_l21, q_l22, q_l23, q_l24, q_l25, q_l26, q_l27, q_l28, q_l29, q_l30, q_l31, q_l32, q_l33, q_l45, q_l46, q_l48, q_l57, q_l58, q_l59, q_l60, q_l61, q_l62, q_l63, q_l64, q_l96, q_l97, q_l99, q_l122, q_l129, q_l137, q_l255, q_l256, q_l400, q_l680, q_l700, q_l959, q_l999, q_l9999, q_l10000, q_l100000, q_l36, q_l50, q_l100, q_l112, q_l200, q_ltT, q_ltF, q_leT, q_leF, q_eqF, q_eqR, q_mlt, q_mle, q_nlm, q_nLm, q_nem, q_men, q_mlm, Bool.true_eq_false, Bool.false_eq_true, q_lt, q_o2, q_o3, q_o4, q_o5, q_bi, ↓reduceIte, q_tv0, q_tv1, q_bz, q_oRl, q_oRr, q_oXl, q_oXr, nI_add, h.1.1, hb]⟩
      | true =>
        have hb : (nI m &&& (nI 1 <<< (nI i &&& nI 31)) = nI 0) = False := eq_false (fun e => by rw [hb.mp e] at hp; cases hp)
        cases hl : lng a i k with
        | false =>
          refine ⟨nI m1', ⟨m1', rfl, g.congr (fun j _ => ?_)⟩, by simp (maxSteps := 2000000) (disch := first | rfl | exact q_e1 _ _ _ | exact q_sr1 _ _ | omega) only [f_X3_wantedByAny_15, ↓q_m1, q_l0, q_l1, q_l2, q_l3, q_l4, q_l5, q_l6, q_l7, q_l8, q_l9, q_l10, q_l11, q_l12, q_l13, q_l14, q_l15, q_l16, q_l17, q_l18, q_l19, q_l20, q_l21, q_l22, q_l23, q_l24, q_l25, q_l26, q_l27, q_l28, q_l29, q_l30, q_l31, q_l32, q_l33, q_l45, q_l46, q_l48, q_l57, q_l58, q_l59, q_l60, q_l61, q_l62, q_l63, q_l64, q_l96, q_l97, q_l99, q_l122, q_l129, q_l137, q_l255, q_l256, q_l400, q_l680, q_l700, q_l959, q_l999, q_l9999, q_l10000, q_l100000, q_l36, q_l50, q_l100, q_l112, q_l200, q_ltT, q_ltF, q_leT, q_leF, q_eqF, q_eqR, q_mlt, q_mle, q_nlm, q_nLm, q_nem, q_men, q_mlm, Bool.true_eq_false, Bool.false_eq_true, q_lt, q_o2, q_o3, q_o4, q_o5, q_bi, ↓reduceIte, q_tv0, q_tv1, q_bz, q_oRl, q_oRr, q_oXl, q_oXr, nI_add, h.1.1, hb, s_wants h w hi hk, hl]⟩
          simp only [hp, Bool.true_and]
          by_cases e : j = k
          · subst e; rw [hl]; simp
          · rw [show decide (j < k + 1) = decide (j < k) from decide_eq_decide.mpr (by omega)]
        | true =>
          refine ⟨nI (m1' ||| 2 ^ k), ⟨_, rfl, (g.or (show k < 8 by omega)).congr (fun j _ => ?_)⟩, by simp (maxSteps := 2000000) (disch := first | rfl | exact q_e1 _ _ _ | exact q_sr1 _ _ | omega) only [f_X3_wantedByAny_15, ↓q_m1, q_l0, q_l1, q_l2, q_l3, q_l4, q_l5, q_l6, q_l7, q_l8, q_l9, q_l10, q_l11, q_l12, q_l13, q_l14, q_l15, q_l16, q_l17, q_l18, q_l19, q_l20, q_l21, q_l22, q_l23, q_l24, q_l25, q_l26, q_l27, q_l28, q_l29, q_l30, q_l31, q_l32, q_l33, q_l45, q_l46, q_l48, q_l57, q_l58, q_l59, q_l60, q_l61, q_l62, q_l63, q_l64, q_l96, q_l97, q_l99, q_l122, q_l129, q_l137, q_l255, q_l256, q_l400, q_l680, q_l700, q_l959, q_l999, q_l9999, q_l10000, q_l100000, q_l36, q_l50, q_l100, q_l112, q_l200, q_ltT, q_ltF, q_leT, q_leF, q_eqF, q_eqR, q_mlt, q_mle, q_nlm, q_nLm, q_nem, q_men, q_mlm, Bool.true_eq_false, Bool.false_eq_true, q_lt, q_o2, q_o3, q_o4, q_o5, q_bi, ↓reduceIte, q_tv0, q_tv1, q_bz, q_oRl, q_oRr, q_oXl, q_oXr, nI_add, h.1.1, hb, s_wants h w hi hk, hl, b_or m1' g.1 k]⟩
          simp only [hp, Bool.true_and]
          by_cases e : j = k
          · subst e; rw [hl]; simp
          · rw [show decide (j < k + 1) = decide (j < k) from decide_eq_decide.mpr (by omega), decide_eq_false (show ¬ k = j by omega), Bool.or_false]) (fun n s hh => by
      obtain ⟨m1', rfl, g⟩ := hh
      exact ⟨nI m1', by simp (maxSteps := 2000000) (disch := first | rfl | exact q_e1 _ _ _ | exact q_sr1 _ _ | omega) only [f_X3_wantedByAny_15, ↓q_m1, q_l0, q_l1, q_l2, q_l3, q_l4, q_l5, q_l6, q_l7, q_l8, q_l9, q_l10, q_l11, q_l12, q_l13, q_l14, q_l15, q_l16, q_l17, q_l18, q_l19, q_l20, q_l21, q_l22, q_l23, q_l24, q_l25, q_l26, q_l27, q_l28, q_l29, q_l30, q_l31, q_l32, q_l33, q_l45, q_l46, q_l48, q_l57, q_l58, q_l59, q_l60, q_l61, q_l62, q_l63, q_l64, q_l96, q_l97, q_l99, q_l122, q_l129, q_l137, q_l255, q_l256, q_l400, q_l680, q_l700, q_l959, q_l999, q_l9999, q_l10000, q_l100000, q_l36, q_l50, q_l100, q_l112, q_l200, q_ltT, q_ltF, q_leT, q_leF, q_eqF, q_eqR, q_mlt, q_mle, q_nlm, q_nLm, q_nem, q_men, q_mlm, Bool.true_eq_false, Bool.false_eq_true, q_lt, q_o2, q_o3, q_o4, q_o5, q_bi, ↓reduceIte, q_tv0, q_tv1, q_bz, q_oRl, q_oRr, q_oXl, q_oXr, h.1.1], m1', rfl, g⟩) (fu_lt (show S < 2000 by omega)) (s := nI m0) ⟨m0, rfl, h0.congr (fun j _ => by simp)⟩
    exact ⟨m', g1, g2⟩
  unfold f_X3_wantedByAny
  rw [q_l0]
  obtain ⟨b, g1, m', rfl, g2⟩ := lp_inv (F := f_X3_wantedByAny_4 (nI m) μ) (i0 := 0) (fun (k : Nat) (s : Int32) => ∃ m', s = nI m' ∧ BS m' (fun j => decide (j < S) && !decide (fd k (fun i => P i && lng a i j) = m1))) (fun s => ∃ m', s = nI m' ∧ BS m' (fun j => decide (j < S) && !decide (fd S (fun i => P i && lng a i j) = m1))) S (fun n k s hk hh => by
      obtain ⟨m1', rfl, g⟩ := hh
      obtain ⟨m2, f1, f2⟩ := hin k hk m1' _ g
      refine ⟨nI m2, ⟨m2, rfl, f2.congr (fun j _ => ?_)⟩, by simp (maxSteps := 2000000) (disch := first | rfl | exact q_e1 _ _ _ | exact q_sr1 _ _ | omega) only [f_X3_wantedByAny_4, ↓q_m1, q_l0, q_l1, q_l2, q_l3, q_l4, q_l5, q_l6, q_l7, q_l8, q_l9, q_l10, q_l11, q_l12, q_l13, q_l14, q_l15, q_l16, q_l17, q_l18, q_l19, q_l20, q_l21, q_l22, q_l23, q_l24, q_l25, q_l26, q_l27, q_l28, q_l29, q_l30, q_l31, q_l32, q_l33, q_l45, q_l46, q_l48, q_l57, q_l58, q_l59, q_l60, q_l61, q_l62, q_l63, q_l64, q_l96, q_l97, q_l99, q_l122, q_l129, q_l137, q_l255, q_l256, q_l400, q_l680, q_l700, q_l959, q_l999, q_l9999, q_l10000, q_l100000, q_l36, q_l50, q_l100, q_l112, q_l200, q_ltT, q_ltF, q_leT, q_leF, q_eqF, q_eqR, q_mlt, q_mle, q_nlm, q_nLm, q_nem, q_men, q_mlm, Bool.true_eq_false, Bool.false_eq_true, q_lt, q_o2, q_o3, q_o4, q_o5, q_bi, ↓reduceIte, q_tv0, q_tv1, q_bz, q_oRl, q_oRr, q_oXl, q_oXr, nI_add, h.1.1, f1]⟩
      rw [← Bool.and_or_distrib_left]
      refine congrArg _ (Bool.eq_iff_iff.mpr ?_)
      rw [Bool.or_eq_true, fd_b (by omega), fd_b (by omega)]
      constructor
      · rintro (⟨x, hx, hp⟩ | hp)
        · exact ⟨x, by omega, hp⟩
        · exact ⟨k, by omega, hp⟩
      · rintro ⟨x, hx, hp⟩
        by_cases e : x = k
        · subst e; exact Or.inr hp
        · exact Or.inl ⟨x, by omega, hp⟩) (fun n s hh => by
      obtain ⟨m1', rfl, g⟩ := hh
      exact ⟨nI m1', by simp (maxSteps := 2000000) (disch := first | rfl | exact q_e1 _ _ _ | exact q_sr1 _ _ | omega) only [f_X3_wantedByAny_4, ↓q_m1, q_l0, q_l1, q_l2, q_l3, q_l4, q_l5, q_l6, q_l7, q_l8, q_l9, q_l10, q_l11, q_l12, q_l13, q_l14, q_l15, q_l16, q_l17, q_l18, q_l19, q_l20, q_l21, q_l22, q_l23, q_l24, q_l25, q_l26, q_l27, q_l28, q_l29, q_l30, q_l31, q_l32, q_l33, q_l45, q_l46, q_l48, q_l57, q_l58, q_l59, q_l60, q_l61, q_l62, q_l63, q_l64, q_l96, q_l97, q_l99, q_l122, q_l129, q_l137, q_l255, q_l256, q_l400, q_l680, q_l700, q_l959, q_l999, q_l9999, q_l10000, q_l100000, q_l36, q_l50, q_l100, q_l112, q_l200, q_ltT, q_ltF, q_leT, q_leF, q_eqF, q_eqR, q_mlt, q_mle, q_nlm, q_nLm, q_nem, q_men, q_mlm, Bool.true_eq_false, Bool.false_eq_true, q_lt, q_o2, q_o3, q_o4, q_o5, q_bi, ↓reduceIte, q_tv0, q_tv1, q_bz, q_oRl, q_oRr, q_oXl, q_oXr, h.1.1], m1', rfl, g⟩) (fu_lt (show S < 2000 by omega)) (s := nI 0) ⟨0, rfl, by omega, fun j _ => by
        show Nat.testBit 0 j = (decide (j < S) && !decide (fd 0 (fun i => P i && lng a i j) = m1))
        rw [show fd 0 (fun i => P i && lng a i j) = m1 from rfl]; simp⟩
  exact ⟨m', g1, g2⟩
theorem s_cyc (h : MR S T μ a) (w : WL S T a) {s : Nat} (hs : s < S) : f_X3_shortestCycle (nI s) μ = some (if a (25 + 13 * s + 3) = m1 then m1 else cyc S a s) := by
  have h8 := w.1.1
  simp (maxSteps := 2000000) (disch := first | rfl | exact q_e1 _ _ _ | exact q_sr1 _ _ | omega) only [f_X3_shortestCycle, s_heldBy h h8 hs, ↓q_m1, q_l0, q_l1, q_l2, q_l3, q_l4, q_l5, q_l6, q_l7, q_l8, q_l9, q_l10, q_l11, q_l12, q_l13, q_l14, q_l15, q_l16, q_l17, q_l18, q_l19, q_l20, q_l21, q_l22, q_l23, q_l24, q_l25, q_l26, q_l27, q_l28, q_l29, q_l30, q_l31, q_l32, q_l33, q_l45, q_l46, q_l48, q_l57, q_l58, q_l59, q_l60, q_l61, q_l62, q_l63, q_l64, q_l96, q_l97, q_l99, q_l122, q_l129, q_l137, q_l255, q_l256, q_l400, q_l680, q_l700, q_l959, q_l999, q_l9999, q_l10000, q_l100000, q_l36, q_l50, q_l100, q_l112, q_l200, q_ltT, q_ltF, q_leT, q_leF, q_eqF, q_eqR, q_mlt, q_mle, q_nlm, q_nLm, q_nem, q_men, q_mlm, Nat.add_zero, Nat.sub_zero, q_add0, pk_rem, nI_add, pk_mul, q_sub, q_subm, q_addm, nI_clamp, q_inT, q_inF, q_sr1, q_srn, q_srw, q_srs, q_wIs, q_wIn, q_wI2, q_wJ1, q_wJs, q_wJn, q_wR1, q_wRs, q_wRn, q_wI22, q_wJ22, pk_us, pk_un, pk_uLs, pk_uLn, q_usS, q_usN, q_ups, q_upn, Bool.true_eq_false, Bool.false_eq_true, q_lt, q_o2, q_o3, q_o4, q_o5, q_bi, ↓reduceIte, q_tv0, q_tv1, q_bz, q_oRl, q_oRr, q_oXl, q_oXr, b_one s]
  by_cases e : a (25 + 13 * s + 3) = m1
  · rw [if_pos e, if_pos e]
  · rw [if_neg e, if_neg e, ← cyc_S h8 hs]
    have key : ∀ r L n m, L + r = S → r < n → BS m (fun j => decide (j < S) && Rn S a s L j) → f_X3_shortestCycle_17 (nI s) μ n (nI (L + 1)) (nI m) = some (fvr (fun k => Rn S a s (k + 1) s) (fun k => nI (k + 1)) r L) := by
      intro r
      induction r with
      | zero =>
        intro L n m hL hn hm
        obtain ⟨n, rfl⟩ : ∃ q, n = q + 1 := ⟨n - 1, by omega⟩
        simp (maxSteps := 2000000) (disch := first | rfl | exact q_e1 _ _ _ | exact q_sr1 _ _ | omega) only [f_X3_shortestCycle_17, ↓q_m1, q_l0, q_l1, q_l2, q_l3, q_l4, q_l5, q_l6, q_l7, q_l8, q_l9, q_l10, q_l11, q_l12, q_l13, q_l14, q_l15, q_l16, q_l17, q_l18, q_l19, q_l20, q_l21, q_l22, q_l23, q_l24, q_l25, q_l26, q_l27, q_l28, q_l29, q_l30, q_l31, q_l32, q_l33, q_l45, q_l46, q_l48, q_l57, q_l58, q_l59, q_l60, q_l61, q_l62, q_l63, q_l64, q_l96, q_l97, q_l99, q_l122, q_l129, q_l137, q_l255, q_l256, q_l400, q_l680, q_l700, q_l959, q_l999, q_l9999, q_l10000, q_l100000, q_l36, q_l50, q_l100, q_l112, q_l200, q_ltT, q_ltF, q_leT, q_leF, q_eqF, q_eqR, q_mlt, q_mle, q_nlm, q_nLm, q_nem, q_men, q_mlm, Nat.add_zero, Nat.sub_zero, q_add0, pk_rem, nI_add, pk_mul, q_sub, q_subm, q_addm, nI_clamp, q_inT, q_inF, q_sr1, q_srn, q_srw, q_srs, q_wIs, q_wIn, q_wI2, q_wJ1, q_wJs, q_wJn, q_wR1, q_wRs, q_wRn, q_wI22, q_wJ22, pk_us, pk_un, pk_uLs, pk_uLn, q_usS, q_usN, q_ups, q_upn, Bool.true_eq_false, Bool.false_eq_true, q_lt, q_o2, q_o3, q_o4, q_o5, q_bi, ↓reduceIte, q_tv0, q_tv1, q_bz, q_oRl, q_oRr, q_oXl, q_oXr, h.1.1]
        rfl
      | succ r ih =>
        intro L n m hL hn hm
        obtain ⟨n, rfl⟩ : ∃ q, n = q + 1 := ⟨n - 1, by omega⟩
        obtain ⟨m', f1, f2⟩ := s_wba h w hm
        have f3 : BS m' (fun j => decide (j < S) && Rn S a s (L + 1) j) := f2.congr (fun j _ => by
          rw [Rn]
          refine congrArg (fun q => decide (j < S) && !decide (q = m1)) (fd_congr (fun i hi => ?_))
          rw [decide_eq_true hi, Bool.true_and])
        have hb := b_and m' f3.1 s (by omega)
        have e0 : m'.testBit s = Rn S a s (L + 1) s := by
          rw [f3.2 s (by omega)]
          show (decide (s < S) && Rn S a s (L + 1) s) = _
          rw [decide_eq_true hs, Bool.true_and]
        rw [e0] at hb
        rw [fvr]
        cases hR : Rn S a s (L + 1) s with
        | false =>
          have hb : (nI m' &&& (nI 1 <<< (nI s &&& nI 31)) = nI 0) = True := eq_true (hb.mpr hR)
          simp (maxSteps := 2000000) (disch := first | rfl | exact q_e1 _ _ _ | exact q_sr1 _ _ | omega) only [f_X3_shortestCycle_17, ↓q_m1, q_l0, q_l1, q_l2, q_l3, q_l4, q_l5, q_l6, q_l7, q_l8, q_l9, q_l10, q_l11, q_l12, q_l13, q_l14, q_l15, q_l16, q_l17, q_l18, q_l19, q_l20, q_l21, q_l22, q_l23, q_l24, q_l25, q_l26, q_l27, q_l28, q_l29, q_l30, q_l31, q_l32, q_l33, q_l45, q_l46, q_l48, q_l57, q_l58, q_l59, q_l60, q_l61, q_l62, q_l63, q_l64, q_l96, q_l97, q_l99, q_l122, q_l129, q_l137, q_l255, q_l256, q_l400, q_l680, q_l700, q_l959, q_l999, q_l9999, q_l10000, q_l100000, q_l36, q_l50, q_l100, q_l112, q_l200, q_ltT, q_ltF, q_leT, q_leF, q_eqF, q_eqR, q_mlt, q_mle, q_nlm, q_nLm, q_nem, q_men, q_mlm, Nat.add_zero, Nat.sub_zero, q_add0, pk_rem, nI_add, pk_mul, q_sub, q_subm, q_addm, nI_clamp, q_inT, q_inF, q_sr1, q_srn, q_srw, q_srs, q_wIs, q_wIn, q_wI2, q_wJ1, q_wJs, q_wJn, q_wR1, q_wRs, q_wRn, q_wI22, q_wJ22, pk_us, pk_un, pk_uLs, pk_uLn, q_usS, q_usN, q_ups, q_upn, Bool.true_eq_false, Bool.false_eq_true, q_lt, q_o2, q_o3, q_o4, q_o5, q_bi, ↓reduceIte, q_tv0, q_tv1, q_bz, q_oRl, q_oRr, q_oXl, q_oXr, h.1.1, f1, hb]
          exact ih (L + 1) n m' (by omega) (by omega) f3
        | true =>
          have hb : (nI m' &&& (nI 1 <<< (nI s &&& nI 31)) = nI 0) = False := eq_false (fun e => by rw [hb.mp e] at hR; cases hR)
          simp (maxSteps := 2000000) (disch := first | rfl | exact q_e1 _ _ _ | exact q_sr1 _ _ | omega) only [f_X3_shortestCycle_17, ↓q_m1, q_l0, q_l1, q_l2, q_l3, q_l4, q_l5, q_l6, q_l7, q_l8, q_l9, q_l10, q_l11, q_l12, q_l13, q_l14, q_l15, q_l16, q_l17, q_l18, q_l19, q_l20, q_l21, q_l22, q_l23, q_l24, q_l25, q_l26, q_l27, q_l28, q_l29, q_l30, q_l31, q_l32, q_l33, q_l45, q_l46, q_l48, q_l57, q_l58, q_l59, q_l60, q_l61, q_l62, q_l63, q_l64, q_l96, q_l97, q_l99, q_l122, q_l129, q_l137, q_l255, q_l256, q_l400, q_l680, q_l700, q_l959, q_l999, q_l9999, q_l10000, q_l100000, q_l36, q_l50, q_l100, q_l112, q_l200, q_ltT, q_ltF, q_leT, q_leF, q_eqF, q_eqR, q_mlt, q_mle, q_nlm, q_nLm, q_nem, q_men, q_mlm, Nat.add_zero, Nat.sub_zero, q_add0, pk_rem, nI_add, pk_mul, q_sub, q_subm, q_addm, nI_clamp, q_inT, q_inF, q_sr1, q_srn, q_srw, q_srs, q_wIs, q_wIn, q_wI2, q_wJ1, q_wJs, q_wJn, q_wR1, q_wRs, q_wRn, q_wI22, q_wJ22, pk_us, pk_un, pk_uLs, pk_uLn, q_usS, q_usN, q_ups, q_upn, Bool.true_eq_false, Bool.false_eq_true, q_lt, q_o2, q_o3, q_o4, q_o5, q_bi, ↓reduceIte, q_tv0, q_tv1, q_bz, q_oRl, q_oRr, q_oXl, q_oXr, h.1.1, f1, hb]
    exact key S 0 FU (2 ^ s) (by omega) (fu_lt (by omega)) ((BS.one (show s < 8 by omega)).congr (fun j _ => by
      rw [Rn]
      by_cases e : s = j
      · subst e; rw [decide_eq_true rfl, decide_eq_true hs]; rfl
      · rw [decide_eq_false e, show decide (j = s) = false from decide_eq_false (fun q => e q.symm), Bool.and_false]))
end CYC
theorem lng_pl {a : Nat → Int32} {i j : Nat} (h : lng a i j = true) : a (25 + 13 * j + 3) ≠ m1 := by
  rw [lng, Bool.and_eq_true] at h
  simpa using h.1
theorem lng_self (a : Nat → Int32) (i : Nat) : lng a i i = false := by rw [lng, bet_self, Bool.and_false]
/-- nothing that this seller could gain -/
def okE (S : Nat) (a : Nat → Int32) (i : Nat) : Bool := (decide (a (25 + 13 * i + 3) = m1) || !decide (rk a i (a (25 + 13 * i + 3)) = m1)) && (decide (bfv S a i = m1) && decide ((if a (25 + 13 * i + 3) = m1 then m1 else cyc S a i) = m1))
theorem bet_u {S T : Nat} {a : Nat → Int32} (w : WL S T a) {i : Nat} (hi : i < S) : bet a i m1 (a (25 + 13 * i + 3)) = !(decide (a (25 + 13 * i + 3) = m1) || !decide (rk a i (a (25 + 13 * i + 3)) = m1)) := by
  have hl := (w.2.1 i hi).1
  by_cases c : a (25 + 13 * i + 3) = m1
  · rw [c, bet_self, decide_eq_true rfl]; rfl
  · rw [decide_eq_false c, bet, bad, if_pos rfl, bad, if_neg c]
    rcases rk_cases a i (a (25 + 13 * i + 3)) with e | ⟨k, hk, e⟩
    · rw [e, if_pos rfl, decide_eq_true rfl]; rfl
    · rw [e, if_neg (fun q => (q_nem (show k < 2 ^ 31 by omega)).mp q), decide_eq_false (nI_nlt (show k ≤ 8 by omega) (by omega)), decide_eq_false (fun q => (q_nem (show k < 2 ^ 31 by omega)).mp q)]; rfl

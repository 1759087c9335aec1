/-! lists: a stall is taken off, or put first -/
/-- two loops in step, downwards -/
theorem lp_down {α α' β β' : Type} {F : Nat → Int32 → α → Option β} {G : Nat → Int32 → α' → Option β'} (I : Nat → α → α' → Prop) (Q : β → β' → Prop) (h1 : ∀ n n' i s t, I (i + 1) s t → ∃ s' t', I i s' t' ∧ F (n + 1) (nI (i + 1)) s = F n (nI i) s' ∧ G (n' + 1) (nI (i + 1)) t = G n' (nI i) t') (h2 : ∀ n n' s t, I 0 s t → ∃ b b', F (n + 1) (nI 0) s = some b ∧ G (n' + 1) (nI 0) t = some b' ∧ Q b b') : ∀ (N n n' : Nat) (s : α) (t : α'), N < n → N < n' → I N s t → ∃ b b', F n (nI N) s = some b ∧ G n' (nI N) t = some b' ∧ Q b b'
  | 0, n, n', s, t, hn, hn', h0 => by
    obtain ⟨n, rfl⟩ : ∃ q, n = q + 1 := ⟨n - 1, by omega⟩
    obtain ⟨n', rfl⟩ : ∃ q, n' = q + 1 := ⟨n' - 1, by omega⟩
    exact h2 n n' s t h0
  | N + 1, n, n', s, t, hn, hn', h0 => by
    obtain ⟨n, rfl⟩ : ∃ q, n = q + 1 := ⟨n - 1, by omega⟩
    obtain ⟨n', rfl⟩ : ∃ q, n' = q + 1 := ⟨n' - 1, by omega⟩
    obtain ⟨s', t', h3, h4, h5⟩ := h1 n n' N s t h0
    rw [h4, h5]
    exact lp_down I Q h1 h2 N n n' s' t' (by omega) (by omega) h3
def FMu (i : Nat) (μ ν : OM) : Prop := (∀ k, k ≠ 6 → k ≠ 7 → ν.1 k = μ.1 k) ∧ ν.2 = μ.2 ∧ (∀ j, j ≠ i → ν.1 6 j = μ.1 6 j) ∧ ∀ y, (y < i * 8 ∨ i * 8 + 8 ≤ y) → ν.1 7 y = μ.1 7 y
def FA (i : Nat) (a b : Nat → Int32) : Prop := ∀ x, (x < 25 + 13 * i + 4 ∨ 25 + 13 * i + 13 ≤ x) → b x = a x
theorem FMu.tr {i : Nat} {μ ν ξ : OM} (h : FMu i μ ν) (g : FMu i ν ξ) : FMu i μ ξ := ⟨fun k h1 h2 => (g.1 k h1 h2).trans (h.1 k h1 h2), g.2.1.trans h.2.1, fun j hj => (g.2.2.1 j hj).trans (h.2.2.1 j hj), fun y hy => (g.2.2.2 y hy).trans (h.2.2.2 y hy)⟩
theorem FA.tr {i : Nat} {a b c : Nat → Int32} (h : FA i a b) (g : FA i b c) : FA i a c := fun x hx => (g x hx).trans (h x hx)
theorem FMu.w7 {i k : Nat} (hk : k < 8) (μ : OM) (v : Int32) : FMu i μ (wI μ 7 (i * 8 + k) v) := ⟨fun k h1 h2 => q_wIn h2, rfl, fun j _ => congrFun (q_wIn (by omega)) j, fun y hy => by rw [q_wIs, pk_un (by omega)]⟩
theorem FMu.w6 (i : Nat) (μ : OM) (v : Int32) : FMu i μ (wI μ 6 i v) := ⟨fun k h1 h2 => q_wIn h1, rfl, fun j hj => by rw [q_wIs, pk_un hj], fun y hy => congrFun (q_wIn (by omega)) y⟩
theorem FA.w {i k : Nat} (h4 : 4 ≤ k) (hk : k < 13) (a : Nat → Int32) (v : Int32) : FA i a (upd a (25 + 13 * i + k) v) := fun x hx => pk_un (by omega)
theorem MR.list {S T : Nat} {μ μ' : OM} {a a' : Nat → Int32} (h : MR S T μ a) (w : WL S T a) {i : Nat} (hi : i < S) (h1 : FMu i μ μ') (h2 : FA i a a') (h3 : μ'.1 6 i = a' (25 + 13 * i + 4)) (h5 : ∀ k, k < ln a' i → μ'.1 7 (i * 8 + k) = a' (25 + 13 * i + (5 + k))) : MR S T μ' a' := by
  obtain ⟨⟨n0, n1, n2, n3⟩, n4, n5, n6, n7, n8, n9, n10, n11⟩ := h
  obtain ⟨⟨h8, t8⟩, w1, w2, w3⟩ := w
  obtain ⟨f1, f2, f3, f4⟩ := h1
  have el : ∀ j, j ≠ i → ln a' j = ln a j := fun j hj => ln_eq (h2 _ (by omega))
  refine ⟨⟨?_, ?_, (h2 0 (by omega)).trans n2, (h2 1 (by omega)).trans n3⟩, fun k g1 g2 => ?_, fun j hj => ?_, fun j k hj hk => ?_, fun t ht => ?_, fun j hj => ?_, fun t ht => ?_, fun j hj => ?_, fun k hk => ?_⟩
  · rw [f1 0 (by omega) (by omega)]; exact n0
  · rw [f1 0 (by omega) (by omega)]; exact n1
  · rw [f1 0 (by omega) (by omega), h2 k (by omega)]; exact n4 k g1 g2
  · obtain ⟨c1, c2, c3, c4⟩ := n5 j hj
    refine ⟨?_, ?_, ?_, ?_⟩
    · rw [f1 2 (by omega) (by omega), h2 _ (by omega)]; exact c1
    · rw [f1 3 (by omega) (by omega), h2 _ (by omega)]; exact c2
    · rw [f1 4 (by omega) (by omega), h2 _ (by omega)]; exact c3
    · by_cases e : j = i
      · subst e; exact h3
      · rw [f3 j e, h2 _ (by omega)]; exact c4
  · by_cases e : j = i
    · subst e; exact h5 k hk
    · rw [el j e] at hk
      have := (w1 j hj).1
      rw [f4 _ (by omega), h2 _ (by omega)]; exact n6 j k hj hk
  · rw [f1 9 (by omega) (by omega), h2 _ (by omega)]; exact n7 t ht
  · rw [f2, h2 _ (by omega)]; exact n8 j hj
  · rw [f2, h2 _ (by omega)]; exact n9 t ht
  · obtain ⟨k, g1, g2, g3⟩ := n10 j hj
    exact ⟨k, g1, by rw [f1 5 (by omega) (by omega)]; exact g2, by rw [h2 _ (by omega)]; exact g3⟩
  · obtain ⟨j, g1, g2, g3⟩ := n11 k hk
    exact ⟨j, g1, by rw [f1 5 (by omega) (by omega)]; exact g2, by rw [h2 _ (by omega)]; exact g3⟩
theorem WF.list {B S T : Nat} {a a' : Nat → Int32} (h : WF B S T a) {i : Nat} (hi : i < S) (h2 : FA i a a') (h3 : ln a' i ≤ 8) (h4 : a' (25 + 13 * i + 4) = nI (ln a' i)) (h5 : ∀ k, k < ln a' i → ∃ t, t < T ∧ a' (25 + 13 * i + (5 + k)) = nI t) (h6 : ∀ k k', k < ln a' i → k' < ln a' i → a' (25 + 13 * i + (5 + k)) = a' (25 + 13 * i + (5 + k')) → k = k') : WF B S T a' := by
  obtain ⟨s1, ⟨⟨h8, t8⟩, w1, w2, w3⟩, ⟨d1, d2⟩, ⟨⟨d, hd, e2⟩, v2, v3, v4⟩⟩ := h
  have el : ∀ j, j ≠ i → ln a' j = ln a j := fun j hj => ln_eq (h2 _ (by omega))
  refine ⟨s1, ⟨⟨h8, t8⟩, fun j hj => ?_, fun j k hj hk => ?_, fun j hj => ?_⟩, ⟨fun j k k' hj hk hk' => ?_, fun j j' hj hj' => ?_⟩, ⟨⟨d, hd, by rw [h2 _ (by omega)]; exact e2⟩, fun t ht => ?_, fun j hj => ?_, fun j hj => ?_⟩⟩
  · by_cases e : j = i
    · subst e; exact ⟨h3, h4⟩
    · rw [el j e, h2 _ (by omega)]; exact w1 j hj
  · by_cases e : j = i
    · subst e; exact h5 k hk
    · rw [el j e] at hk
      have := (w1 j hj).1
      rw [h2 _ (by omega)]; exact w2 j k hj hk
  · rw [h2 _ (by omega)]; exact w3 j hj
  · by_cases e : j = i
    · subst e; exact h6 k k' hk hk'
    · rw [el j e] at hk hk'
      have := (w1 j hj).1
      rw [h2 _ (by omega), h2 _ (by omega)]; exact d1 j k k' hj hk hk'
  · rw [h2 _ (by omega), h2 _ (by omega)]; exact d2 j j' hj hj'
  · rw [h2 _ (by omega)]; exact v2 t ht
  · rw [h2 _ (by omega)]; exact v3 j hj
  · rw [h2 _ (by omega)]; exact v4 j hj
section LST
variable {B S T : Nat} {μ : OM} {a : Nat → Int32} {ρ : OM}
/-- the list of i becomes f, of length n -/
def LB (i n : Nat) (f : Nat → Int32) (μ μ' : OM) (a a' : Nat → Int32) : Prop := FMu i μ μ' ∧ FA i a a' ∧ μ'.1 6 i = nI n ∧ a' (25 + 13 * i + 4) = nI n ∧ ∀ k, k < n → μ'.1 7 (i * 8 + k) = a' (25 + 13 * i + (5 + k)) ∧ a' (25 + 13 * i + (5 + k)) = f k
theorem drop_two (h : MR S T μ a) (w : WL S T a) {i r : Nat} (hi : i < S) (hr : r < ln a i) {v : Int32} (hv : rk a i v = nI r) : ∃ μ' a', f_X5_dropWish (nI i) v μ = some μ' ∧ f_X13_removes (nI i) v (sr ρ a) = some (nI (ln a i - 1), sr ρ a') ∧ LB i (ln a i - 1) (fun k => if k < r then a (25 + 13 * i + (5 + k)) else a (25 + 13 * i + (5 + (k + 1)))) μ μ' a a' := by
  have h8 := w.1.1
  have hl := w.2.1 i hi
  have h6 := h.2.2.2.1
  obtain ⟨μ', t, h1, h2, a', rfl, h3⟩ := lp_two (F := f_X5_dropWish_34 (nI (ln a i - 1)) (nI i)) (G := f_X13_removes_17 (nI (ln a i - 1)) (nI i)) (i0 := r) (fun (k : Nat) (s t : OM) => ∃ b, r ≤ k ∧ t = sr ρ b ∧ FMu i μ s ∧ FA i a b ∧ ∀ j, j < ln a i → s.1 7 (i * 8 + j) = b (25 + 13 * i + (5 + j)) ∧ b (25 + 13 * i + (5 + j)) = if r ≤ j ∧ j < k then a (25 + 13 * i + (5 + (j + 1))) else a (25 + 13 * i + (5 + j))) (fun s z => ∃ b, z = (nI (ln a i - 1), sr ρ b) ∧ LB i (ln a i - 1) (fun k => if k < r then a (25 + 13 * i + (5 + k)) else a (25 + 13 * i + (5 + (k + 1)))) μ s a b) (ln a i - 1) (fun n n' k s t hk hh => by
      obtain ⟨b, hrk, rfl, g1, g2, g3⟩ := hh
      have q1 := g3 (k + 1) (by omega)
      refine Or.inl ⟨wI s 7 (i * 8 + k) (b (25 + 13 * i + (5 + (k + 1)))), sr ρ (upd b (25 + 13 * i + (5 + k)) (b (25 + 13 * i + (5 + (k + 1))))), ⟨_, by omega, rfl, g1.tr (FMu.w7 (by omega) _ _), g2.tr (FA.w (by omega) (by omega) _ _), fun j hj => ?_⟩, ?_, ?_⟩
      · by_cases e : j = k
        · subst e
          refine ⟨by simp (maxSteps := 2000000) (disch := first | rfl | exact q_e1 _ _ _ | exact q_sr1 _ _ | omega) only [q_sr1, q_srn, q_srw, q_srs, q_wIs, q_wIn, q_wI2, q_wJ1, q_wJs, q_wJn, q_wR1, q_wRs, q_wRn, q_wI22, q_wJ22, pk_us, pk_un, pk_uLs, pk_uLn, q_usS, q_usN, q_ups, q_upn], ?_⟩
          rw [pk_us, q1.2]
          rw [if_neg (by omega), if_pos (by omega)]
        · have q := g3 j hj
          refine ⟨by simp (maxSteps := 2000000) (disch := first | rfl | exact q_e1 _ _ _ | exact q_sr1 _ _ | omega) only [q_sr1, q_srn, q_srw, q_srs, q_wIs, q_wIn, q_wI2, q_wJ1, q_wJs, q_wJn, q_wR1, q_wRs, q_wRn, q_wI22, q_wJ22, pk_us, pk_un, pk_uLs, pk_uLn, q_usS, q_usN, q_ups, q_upn, q.1], ?_⟩
          rw [pk_un (by omega), q.2]
          by_cases e' : r ≤ j ∧ j < k
          · rw [if_pos e', if_pos (by omega)]
          · rw [if_neg e', if_neg (by omega)]
      · have e : i * 8 + k + 1 = i * 8 + (k + 1) := by omega
        simp (maxSteps := 2000000) (disch := first | rfl | exact q_e1 _ _ _ | exact q_sr1 _ _ | omega) only [f_X5_dropWish_34, ↓q_m1, q_l0, q_l1, q_l2, q_l3, q_l4, q_l5, q_l6, q_l7, q_l8, q_l9, q_l10, q_l11, q_l12, q_l13, q_l14, q_l15, q_l16, q_l17, q_l18, q_l19, q_l20, q_l21, q_l22, q_l23, q_l24, q_l25, q_l26, q_l27, q_l28, q_l29, q_l30, q_l31, q_l32, q_l33, q_l45, q_l46, q_l48, q_l57, q_l58, q_l59, q_l60, q_l61, q_l62, q_l63, q_l64, q_l96, q_l97, q_l99, q_l122, q_l129, q_l137, q_l255, q_l256, q_l400, q_l680, q_l700, q_l959, q_l999, q_l9999, q_l10000, q_l100000, q_ltT, q_ltF, q_leT, q_leF, q_eqF, q_eqR, q_mlt, q_mle, q_nlm, q_nLm, q_nem, q_men, q_mlm, Nat.add_zero, Nat.sub_zero, q_add0, pk_rem, nI_add, pk_mul, q_sub, q_subm, q_addm, nI_clamp, q_inT, q_inF, q_sr1, q_srn, q_srw, q_srs, q_wIs, q_wIn, q_wI2, q_wJ1, q_wJs, q_wJn, q_wR1, q_wRs, q_wRn, q_wI22, q_wJ22, pk_us, pk_un, pk_uLs, pk_uLn, q_usS, q_usN, q_ups, q_upn, Bool.true_eq_false, Bool.false_eq_true, q_lt, q_o2, q_o3, q_o4, q_o5, q_bi, ↓reduceIte, q_tv0, q_tv1, q_bz, q_oRl, q_oRr, q_oXl, q_oXr, e, q1.1]
      · have e : 5 + k + 1 = 5 + (k + 1) := by omega
        simp (maxSteps := 2000000) (disch := first | rfl | exact q_e1 _ _ _ | exact q_sr1 _ _ | omega) only [f_X13_removes_17, ↓q_m1, q_l0, q_l1, q_l2, q_l3, q_l4, q_l5, q_l6, q_l7, q_l8, q_l9, q_l10, q_l11, q_l12, q_l13, q_l14, q_l15, q_l16, q_l17, q_l18, q_l19, q_l20, q_l21, q_l22, q_l23, q_l24, q_l25, q_l26, q_l27, q_l28, q_l29, q_l30, q_l31, q_l32, q_l33, q_l45, q_l46, q_l48, q_l57, q_l58, q_l59, q_l60, q_l61, q_l62, q_l63, q_l64, q_l96, q_l97, q_l99, q_l122, q_l129, q_l137, q_l255, q_l256, q_l400, q_l680, q_l700, q_l959, q_l999, q_l9999, q_l10000, q_l100000, q_ltT, q_ltF, q_leT, q_leF, q_eqF, q_eqR, q_mlt, q_mle, q_nlm, q_nLm, q_nem, q_men, q_mlm, Nat.add_zero, Nat.sub_zero, q_add0, pk_rem, nI_add, pk_mul, q_sub, q_subm, q_addm, nI_clamp, q_inT, q_inF, q_sr1, q_srn, q_srw, q_srs, q_wIs, q_wIn, q_wI2, q_wJ1, q_wJs, q_wJn, q_wR1, q_wRs, q_wRn, q_wI22, q_wJ22, pk_us, pk_un, pk_uLs, pk_uLn, q_usS, q_usN, q_ups, q_upn, Bool.true_eq_false, Bool.false_eq_true, q_lt, q_o2, q_o3, q_o4, q_o5, q_bi, ↓reduceIte, q_tv0, q_tv1, q_bz, q_oRl, q_oRr, q_oXl, q_oXr, r_of b, r_sets (show i < 8 by omega), e]) (fun n n' s t hh => by
      obtain ⟨b, _, rfl, g1, g2, g3⟩ := hh
      refine ⟨wI s 6 i (nI (ln a i - 1)), (nI (ln a i - 1), sr ρ (upd b (25 + 13 * i + 4) (nI (ln a i - 1)))), ?_, ?_, _, rfl, g1.tr (FMu.w6 _ _ _), g2.tr (FA.w (by omega) (by omega) _ _), ?_, ?_, fun k hk => ⟨?_, ?_⟩⟩
      · simp (maxSteps := 2000000) (disch := first | rfl | exact q_e1 _ _ _ | exact q_sr1 _ _ | omega) only [f_X5_dropWish_34, ↓q_m1, q_l0, q_l1, q_l2, q_l3, q_l4, q_l5, q_l6, q_l7, q_l8, q_l9, q_l10, q_l11, q_l12, q_l13, q_l14, q_l15, q_l16, q_l17, q_l18, q_l19, q_l20, q_l21, q_l22, q_l23, q_l24, q_l25, q_l26, q_l27, q_l28, q_l29, q_l30, q_l31, q_l32, q_l33, q_l45, q_l46, q_l48, q_l57, q_l58, q_l59, q_l60, q_l61, q_l62, q_l63, q_l64, q_l96, q_l97, q_l99, q_l122, q_l129, q_l137, q_l255, q_l256, q_l400, q_l680, q_l700, q_l959, q_l999, q_l9999, q_l10000, q_l100000, q_ltT, q_ltF, q_leT, q_leF, q_eqF, q_eqR, q_mlt, q_mle, q_nlm, q_nLm, q_nem, q_men, q_mlm, Nat.add_zero, Nat.sub_zero, q_add0, pk_rem, nI_add, pk_mul, q_sub, q_subm, q_addm, nI_clamp, q_inT, q_inF, q_sr1, q_srn, q_srw, q_srs, q_wIs, q_wIn, q_wI2, q_wJ1, q_wJs, q_wJn, q_wR1, q_wRs, q_wRn, q_wI22, q_wJ22, pk_us, pk_un, pk_uLs, pk_uLn, q_usS, q_usN, q_ups, q_upn, Bool.true_eq_false, Bool.false_eq_true, q_lt, q_o2, q_o3, q_o4, q_o5, q_bi, ↓reduceIte, q_tv0, q_tv1, q_bz, q_oRl, q_oRr, q_oXl, q_oXr]
      · simp (maxSteps := 2000000) (disch := first | rfl | exact q_e1 _ _ _ | exact q_sr1 _ _ | omega) only [f_X13_removes_17, ↓q_m1, q_l0, q_l1, q_l2, q_l3, q_l4, q_l5, q_l6, q_l7, q_l8, q_l9, q_l10, q_l11, q_l12, q_l13, q_l14, q_l15, q_l16, q_l17, q_l18, q_l19, q_l20, q_l21, q_l22, q_l23, q_l24, q_l25, q_l26, q_l27, q_l28, q_l29, q_l30, q_l31, q_l32, q_l33, q_l45, q_l46, q_l48, q_l57, q_l58, q_l59, q_l60, q_l61, q_l62, q_l63, q_l64, q_l96, q_l97, q_l99, q_l122, q_l129, q_l137, q_l255, q_l256, q_l400, q_l680, q_l700, q_l959, q_l999, q_l9999, q_l10000, q_l100000, q_ltT, q_ltF, q_leT, q_leF, q_eqF, q_eqR, q_mlt, q_mle, q_nlm, q_nLm, q_nem, q_men, q_mlm, Nat.add_zero, Nat.sub_zero, q_add0, pk_rem, nI_add, pk_mul, q_sub, q_subm, q_addm, nI_clamp, q_inT, q_inF, q_sr1, q_srn, q_srw, q_srs, q_wIs, q_wIn, q_wI2, q_wJ1, q_wJs, q_wJn, q_wR1, q_wRs, q_wRn, q_wI22, q_wJ22, pk_us, pk_un, pk_uLs, pk_uLn, q_usS, q_usN, q_ups, q_upn, Bool.true_eq_false, Bool.false_eq_true, q_lt, q_o2, q_o3, q_o4, q_o5, q_bi, ↓reduceIte, q_tv0, q_tv1, q_bz, q_oRl, q_oRr, q_oXl, q_oXr, r_sets (show i < 8 by omega)]
      · simp (maxSteps := 2000000) (disch := first | rfl | exact q_e1 _ _ _ | exact q_sr1 _ _ | omega) only [q_sr1, q_srn, q_srw, q_srs, q_wIs, q_wIn, q_wI2, q_wJ1, q_wJs, q_wJn, q_wR1, q_wRs, q_wRn, q_wI22, q_wJ22, pk_us, pk_un, pk_uLs, pk_uLn, q_usS, q_usN, q_ups, q_upn]
      · simp (maxSteps := 2000000) (disch := first | rfl | exact q_e1 _ _ _ | exact q_sr1 _ _ | omega) only [q_sr1, q_srn, q_srw, q_srs, q_wIs, q_wIn, q_wI2, q_wJ1, q_wJs, q_wJn, q_wR1, q_wRs, q_wRn, q_wI22, q_wJ22, pk_us, pk_un, pk_uLs, pk_uLn, q_usS, q_usN, q_ups, q_upn]
      · simp (maxSteps := 2000000) (disch := first | rfl | exact q_e1 _ _ _ | exact q_sr1 _ _ | omega) only [q_sr1, q_srn, q_srw, q_srs, q_wIs, q_wIn, q_wI2, q_wJ1, q_wJs, q_wJn, q_wR1, q_wRs, q_wRn, q_wI22, q_wJ22, pk_us, pk_un, pk_uLs, pk_uLn, q_usS, q_usN, q_ups, q_upn, (g3 k (by omega)).1]
      · rw [pk_un (by omega), (g3 k (by omega)).2]
        by_cases e : k < r
        · rw [if_neg (by omega)]; exact (if_pos e).symm
        · rw [if_pos (by omega)]; exact (if_neg e).symm) (fu_lt (show ln a i - 1 < 2000 by omega)) (fu_lt (show ln a i - 1 < 2000 by omega)) (s := μ) (t := sr ρ a) ⟨a, Nat.le_refl _, rfl, ⟨fun _ _ _ => rfl, rfl, fun _ _ => rfl, fun _ _ => rfl⟩, fun _ _ => rfl, fun j hj => ⟨h6 i j hi hj, by rw [if_neg (by omega)]⟩⟩
  refine ⟨μ', a', ?_, ?_, h3⟩
  · simp (maxSteps := 2000000) (disch := first | rfl | exact q_e1 _ _ _ | exact q_sr1 _ _ | omega) only [f_X5_dropWish, s_rankIn h w hi, s_hasSeller h hi h8, hv, (h.2.2.1 i hi).2.2.2, hl.2, ↓q_m1, q_l0, q_l1, q_l2, q_l3, q_l4, q_l5, q_l6, q_l7, q_l8, q_l9, q_l10, q_l11, q_l12, q_l13, q_l14, q_l15, q_l16, q_l17, q_l18, q_l19, q_l20, q_l21, q_l22, q_l23, q_l24, q_l25, q_l26, q_l27, q_l28, q_l29, q_l30, q_l31, q_l32, q_l33, q_l45, q_l46, q_l48, q_l57, q_l58, q_l59, q_l60, q_l61, q_l62, q_l63, q_l64, q_l96, q_l97, q_l99, q_l122, q_l129, q_l137, q_l255, q_l256, q_l400, q_l680, q_l700, q_l959, q_l999, q_l9999, q_l10000, q_l100000, q_ltT, q_ltF, q_leT, q_leF, q_eqF, q_eqR, q_mlt, q_mle, q_nlm, q_nLm, q_nem, q_men, q_mlm, Nat.add_zero, Nat.sub_zero, q_add0, pk_rem, nI_add, pk_mul, q_sub, q_subm, q_addm, nI_clamp, q_inT, q_inF, q_sr1, q_srn, q_srw, q_srs, q_wIs, q_wIn, q_wI2, q_wJ1, q_wJs, q_wJn, q_wR1, q_wRs, q_wRn, q_wI22, q_wJ22, pk_us, pk_un, pk_uLs, pk_uLn, q_usS, q_usN, q_ups, q_upn, Bool.true_eq_false, Bool.false_eq_true, q_lt, q_o2, q_o3, q_o4, q_o5, q_bi, ↓reduceIte, q_tv0, q_tv1, q_bz, q_oRl, q_oRr, q_oXl, q_oXr]
    exact h1
  · simp (maxSteps := 2000000) (disch := first | rfl | exact q_e1 _ _ _ | exact q_sr1 _ _ | omega) only [f_X13_removes, r_of a, r_rk (w.li hi), hv, hl.2, ↓q_m1, q_l0, q_l1, q_l2, q_l3, q_l4, q_l5, q_l6, q_l7, q_l8, q_l9, q_l10, q_l11, q_l12, q_l13, q_l14, q_l15, q_l16, q_l17, q_l18, q_l19, q_l20, q_l21, q_l22, q_l23, q_l24, q_l25, q_l26, q_l27, q_l28, q_l29, q_l30, q_l31, q_l32, q_l33, q_l45, q_l46, q_l48, q_l57, q_l58, q_l59, q_l60, q_l61, q_l62, q_l63, q_l64, q_l96, q_l97, q_l99, q_l122, q_l129, q_l137, q_l255, q_l256, q_l400, q_l680, q_l700, q_l959, q_l999, q_l9999, q_l10000, q_l100000, q_ltT, q_ltF, q_leT, q_leF, q_eqF, q_eqR, q_mlt, q_mle, q_nlm, q_nLm, q_nem, q_men, q_mlm, Nat.add_zero, Nat.sub_zero, q_add0, pk_rem, nI_add, pk_mul, q_sub, q_subm, q_addm, nI_clamp, q_inT, q_inF, q_sr1, q_srn, q_srw, q_srs, q_wIs, q_wIn, q_wI2, q_wJ1, q_wJs, q_wJn, q_wR1, q_wRs, q_wRn, q_wI22, q_wJ22, pk_us, pk_un, pk_uLs, pk_uLn, q_usS, q_usN, q_ups, q_upn, Bool.true_eq_false, Bool.false_eq_true, q_lt, q_o2, q_o3, q_o4, q_o5, q_bi, ↓reduceIte, q_tv0, q_tv1, q_bz, q_oRl, q_oRr, q_oXl, q_oXr]
    exact h2
theorem shift_two {i L : Nat} (hi : i < 8) (hL : L ≤ 7) (h6 : ∀ k, k < L → μ.1 7 (i * 8 + k) = a (25 + 13 * i + (5 + k))) : ∃ μ' a', f_X5_wishFirst_30 (nI i) FU (nI L) μ = some μ' ∧ f_X13_putsFirst_27 (nI i) FU (nI L) (sr ρ a) = some (sr ρ a') ∧ FMu i μ μ' ∧ FA i a a' ∧ ∀ j, j < L → μ'.1 7 (i * 8 + (j + 1)) = a' (25 + 13 * i + (5 + (j + 1))) ∧ a' (25 + 13 * i + (5 + (j + 1))) = a (25 + 13 * i + (5 + j)) := by
  obtain ⟨μ', t, h1, h2, a', rfl, h3, h4, h5⟩ := lp_down (F := f_X5_wishFirst_30 (nI i)) (G := f_X13_putsFirst_27 (nI i)) (fun (k : Nat) (s t : OM) => ∃ b, k ≤ L ∧ t = sr ρ b ∧ FMu i μ s ∧ FA i a b ∧ (∀ j, j ≤ L → (j < L ∨ k < j) → s.1 7 (i * 8 + j) = b (25 + 13 * i + (5 + j))) ∧ ∀ j, (k < j → j ≤ L → b (25 + 13 * i + (5 + j)) = a (25 + 13 * i + (5 + (j - 1)))) ∧ (j ≤ k → j < L → b (25 + 13 * i + (5 + j)) = a (25 + 13 * i + (5 + j)))) (fun s t => ∃ b, t = sr ρ b ∧ FMu i μ s ∧ FA i a b ∧ ∀ j, j < L → s.1 7 (i * 8 + (j + 1)) = b (25 + 13 * i + (5 + (j + 1))) ∧ b (25 + 13 * i + (5 + (j + 1))) = a (25 + 13 * i + (5 + j))) (fun n n' k s t hh => by
      obtain ⟨b, hk, rfl, g1, g2, g3, g4⟩ := hh
      refine ⟨wI s 7 (i * 8 + (k + 1)) (b (25 + 13 * i + (5 + k))), sr ρ (upd b (25 + 13 * i + (5 + (k + 1))) (b (25 + 13 * i + (5 + k)))), ⟨_, by omega, rfl, g1.tr (FMu.w7 (by omega) _ _), g2.tr (FA.w (by omega) (by omega) _ _), fun j hj hj' => ?_, fun j => ⟨fun hj hj' => ?_, fun hj hj' => ?_⟩⟩, ?_, ?_⟩
      · by_cases e : j = k + 1
        · subst e
          simp (maxSteps := 2000000) (disch := first | rfl | exact q_e1 _ _ _ | exact q_sr1 _ _ | omega) only [q_sr1, q_srn, q_srw, q_srs, q_wIs, q_wIn, q_wI2, q_wJ1, q_wJs, q_wJn, q_wR1, q_wRs, q_wRn, q_wI22, q_wJ22, pk_us, pk_un, pk_uLs, pk_uLn, q_usS, q_usN, q_ups, q_upn]
        · simp (maxSteps := 2000000) (disch := first | rfl | exact q_e1 _ _ _ | exact q_sr1 _ _ | omega) only [q_sr1, q_srn, q_srw, q_srs, q_wIs, q_wIn, q_wI2, q_wJ1, q_wJs, q_wJn, q_wR1, q_wRs, q_wRn, q_wI22, q_wJ22, pk_us, pk_un, pk_uLs, pk_uLn, q_usS, q_usN, q_ups, q_upn, g3 j hj (by omega)]
      · by_cases e : j = k + 1
        · subst e
          rw [pk_us, (g4 k).2 (by omega) (by omega), Nat.add_sub_cancel]
        · rw [pk_un (by omega)]; exact (g4 j).1 (by omega) hj'
      · rw [pk_un (by omega)]; exact (g4 j).2 (by omega) hj'
      · have e1 : i * 8 + (k + 1) - 1 = i * 8 + k := by omega
        have e2 : k + 1 - 1 = k := by omega
        simp (maxSteps := 2000000) (disch := first | rfl | exact q_e1 _ _ _ | exact q_sr1 _ _ | omega) only [f_X5_wishFirst_30, ↓q_m1, q_l0, q_l1, q_l2, q_l3, q_l4, q_l5, q_l6, q_l7, q_l8, q_l9, q_l10, q_l11, q_l12, q_l13, q_l14, q_l15, q_l16, q_l17, q_l18, q_l19, q_l20, q_l21, q_l22, q_l23, q_l24, q_l25, q_l26, q_l27, q_l28, q_l29, q_l30, q_l31, q_l32, q_l33, q_l45, q_l46, q_l48, q_l57, q_l58, q_l59, q_l60, q_l61, q_l62, q_l63, q_l64, q_l96, q_l97, q_l99, q_l122, q_l129, q_l137, q_l255, q_l256, q_l400, q_l680, q_l700, q_l959, q_l999, q_l9999, q_l10000, q_l100000, q_ltT, q_ltF, q_leT, q_leF, q_eqF, q_eqR, q_mlt, q_mle, q_nlm, q_nLm, q_nem, q_men, q_mlm, Nat.add_zero, Nat.sub_zero, q_add0, pk_rem, nI_add, pk_mul, q_sub, q_subm, q_addm, nI_clamp, q_inT, q_inF, q_sr1, q_srn, q_srw, q_srs, q_wIs, q_wIn, q_wI2, q_wJ1, q_wJs, q_wJn, q_wR1, q_wRs, q_wRn, q_wI22, q_wJ22, pk_us, pk_un, pk_uLs, pk_uLn, q_usS, q_usN, q_ups, q_upn, Bool.true_eq_false, Bool.false_eq_true, q_lt, q_o2, q_o3, q_o4, q_o5, q_bi, ↓reduceIte, q_tv0, q_tv1, q_bz, q_oRl, q_oRr, q_oXl, q_oXr, e1, e2, g3 k (by omega) (by omega)]
      · have e1 : 5 + (k + 1) - 1 = 5 + k := by omega
        have e2 : k + 1 - 1 = k := by omega
        simp (maxSteps := 2000000) (disch := first | rfl | exact q_e1 _ _ _ | exact q_sr1 _ _ | omega) only [f_X13_putsFirst_27, ↓q_m1, q_l0, q_l1, q_l2, q_l3, q_l4, q_l5, q_l6, q_l7, q_l8, q_l9, q_l10, q_l11, q_l12, q_l13, q_l14, q_l15, q_l16, q_l17, q_l18, q_l19, q_l20, q_l21, q_l22, q_l23, q_l24, q_l25, q_l26, q_l27, q_l28, q_l29, q_l30, q_l31, q_l32, q_l33, q_l45, q_l46, q_l48, q_l57, q_l58, q_l59, q_l60, q_l61, q_l62, q_l63, q_l64, q_l96, q_l97, q_l99, q_l122, q_l129, q_l137, q_l255, q_l256, q_l400, q_l680, q_l700, q_l959, q_l999, q_l9999, q_l10000, q_l100000, q_ltT, q_ltF, q_leT, q_leF, q_eqF, q_eqR, q_mlt, q_mle, q_nlm, q_nLm, q_nem, q_men, q_mlm, Nat.add_zero, Nat.sub_zero, q_add0, pk_rem, nI_add, pk_mul, q_sub, q_subm, q_addm, nI_clamp, q_inT, q_inF, q_sr1, q_srn, q_srw, q_srs, q_wIs, q_wIn, q_wI2, q_wJ1, q_wJs, q_wJn, q_wR1, q_wRs, q_wRn, q_wI22, q_wJ22, pk_us, pk_un, pk_uLs, pk_uLn, q_usS, q_usN, q_ups, q_upn, Bool.true_eq_false, Bool.false_eq_true, q_lt, q_o2, q_o3, q_o4, q_o5, q_bi, ↓reduceIte, q_tv0, q_tv1, q_bz, q_oRl, q_oRr, q_oXl, q_oXr, e1, e2, r_of b, r_sets hi]) (fun n n' s t hh => by
      obtain ⟨b, hk, rfl, g1, g2, g3, g4⟩ := hh
      exact ⟨s, sr ρ b, by simp (maxSteps := 2000000) (disch := first | rfl | exact q_e1 _ _ _ | exact q_sr1 _ _ | omega) only [f_X5_wishFirst_30, ↓q_m1, q_l0, q_l1, q_l2, q_l3, q_l4, q_l5, q_l6, q_l7, q_l8, q_l9, q_l10, q_l11, q_l12, q_l13, q_l14, q_l15, q_l16, q_l17, q_l18, q_l19, q_l20, q_l21, q_l22, q_l23, q_l24, q_l25, q_l26, q_l27, q_l28, q_l29, q_l30, q_l31, q_l32, q_l33, q_l45, q_l46, q_l48, q_l57, q_l58, q_l59, q_l60, q_l61, q_l62, q_l63, q_l64, q_l96, q_l97, q_l99, q_l122, q_l129, q_l137, q_l255, q_l256, q_l400, q_l680, q_l700, q_l959, q_l999, q_l9999, q_l10000, q_l100000, q_ltT, q_ltF, q_leT, q_leF, q_eqF, q_eqR, q_mlt, q_mle, q_nlm, q_nLm, q_nem, q_men, q_mlm, Nat.add_zero, Nat.sub_zero, q_add0, pk_rem, nI_add, pk_mul, q_sub, q_subm, q_addm, nI_clamp, q_inT, q_inF, q_sr1, q_srn, q_srw, q_srs, q_wIs, q_wIn, q_wI2, q_wJ1, q_wJs, q_wJn, q_wR1, q_wRs, q_wRn, q_wI22, q_wJ22, pk_us, pk_un, pk_uLs, pk_uLn, q_usS, q_usN, q_ups, q_upn, Bool.true_eq_false, Bool.false_eq_true, q_lt, q_o2, q_o3, q_o4, q_o5, q_bi, ↓reduceIte, q_tv0, q_tv1, q_bz, q_oRl, q_oRr, q_oXl, q_oXr], by simp (maxSteps := 2000000) (disch := first | rfl | exact q_e1 _ _ _ | exact q_sr1 _ _ | omega) only [f_X13_putsFirst_27, ↓q_m1, q_l0, q_l1, q_l2, q_l3, q_l4, q_l5, q_l6, q_l7, q_l8, q_l9, q_l10, q_l11, q_l12, q_l13, q_l14, q_l15, q_l16, q_l17, q_l18, q_l19, q_l20, q_l21, q_l22, q_l23, q_l24, q_l25, q_l26, q_l27, q_l28, q_l29, q_l30, q_l31, q_l32, q_l33, q_l45, q_l46, q_l48, q_l57, q_l58, q_l59, q_l60, q_l61, q_l62, q_l63, q_l64, q_l96, q_l97, q_l99, q_l122, q_l129, q_l137, q_l255, q_l256, q_l400, q_l680, q_l700, q_l959, q_l999, q_l9999, q_l10000, q_l100000, q_ltT, q_ltF, q_leT, q_leF, q_eqF, q_eqR, q_mlt, q_mle, q_nlm, q_nLm, q_nem, q_men, q_mlm, Nat.add_zero, Nat.sub_zero, q_add0, pk_rem, nI_add, pk_mul, q_sub, q_subm, q_addm, nI_clamp, q_inT, q_inF, q_sr1, q_srn, q_srw, q_srs, q_wIs, q_wIn, q_wI2, q_wJ1, q_wJs, q_wJn, q_wR1, q_wRs, q_wRn, q_wI22, q_wJ22, pk_us, pk_un, pk_uLs, pk_uLn, q_usS, q_usN, q_ups, q_upn, Bool.true_eq_false, Bool.false_eq_true, q_lt, q_o2, q_o3, q_o4, q_o5, q_bi, ↓reduceIte, q_tv0, q_tv1, q_bz, q_oRl, q_oRr, q_oXl, q_oXr], b, rfl, g1, g2, fun j hj => ⟨g3 (j + 1) (by omega) (by omega), (g4 (j + 1)).1 (by omega) (by omega)⟩⟩) L FU FU μ (sr ρ a) (fu_lt (show L < 2000 by omega)) (fu_lt (show L < 2000 by omega)) ⟨a, Nat.le_refl _, rfl, ⟨fun _ _ _ => rfl, rfl, fun _ _ => rfl, fun _ _ => rfl⟩, fun _ _ => rfl, fun j hj hj' => h6 j (by omega), fun j => ⟨fun _ _ => by omega, fun _ _ => rfl⟩⟩
  exact ⟨μ', a', h1, h2, h3, h4, h5⟩
theorem cnt_pos {P : Nat → Bool} : ∀ {n t : Nat}, t < n → P t = true → 1 ≤ cnt P n
  | 0, _, h, _ => by omega
  | n + 1, t, h, hp => by
    rw [cnt]
    by_cases e : t = n
    · subst e; rw [if_pos hp]; omega
    · have := cnt_pos (n := n) (t := t) (by omega) hp
      omega
theorem cnt_all {P : Nat → Bool} : ∀ {n : Nat}, (∀ k, k < n → P k = true) → cnt P n = n
  | 0, _ => rfl
  | n + 1, h => by rw [cnt, cnt_all (fun k hk => h k (by omega)), if_pos (h n (by omega))]
/-- a list without a stall has room for it -/
theorem lst_room (w : WL S T a) (d : WD S a) {i t : Nat} (hi : i < S) (ht : t < T) (hv : rk a i (nI t) = m1) : ln a i + 1 ≤ T := by
  have t8 := w.1.2
  have hl := w.2.1 i hi
  have h1 := cnt_held (T := T) (fun k => a (25 + 13 * i + (5 + k))) (by omega) (ln a i) (by omega) (fun k hk => Or.inr (w.2.2.1 i k hi hk)) (fun k k' hk hk' e _ => d.1 i k k' hi hk hk' e)
  have h2 := cnt_all (P := fun k => !decide (a (25 + 13 * i + (5 + k)) = m1)) (n := ln a i) (fun k hk => by rw [decide_eq_false (lst_ne w hi hk)]; rfl)
  have h3 := cnt_not (fun t => !decide (fd (ln a i) (fun k => decide (a (25 + 13 * i + (5 + k)) = nI t)) = m1)) T
  have h4 := cnt_pos (P := fun k => !(!decide (fd (ln a i) (fun j => decide (a (25 + 13 * i + (5 + j)) = nI k)) = m1))) ht (by
    have : fd (ln a i) (fun j => decide (a (25 + 13 * i + (5 + j)) = nI t)) = m1 := hv
    rw [this]; rfl)
  have h1' : cnt (fun t => !decide (fd (ln a i) (fun k => decide (a (25 + 13 * i + (5 + k)) = nI t)) = m1)) T = cnt (fun k => !decide (a (25 + 13 * i + (5 + k)) = m1)) (ln a i) := h1
  have h3' : cnt (fun t => !decide (fd (ln a i) (fun k => decide (a (25 + 13 * i + (5 + k)) = nI t)) = m1)) T + cnt (fun k => !(!decide (fd (ln a i) (fun j => decide (a (25 + 13 * i + (5 + j)) = nI k)) = m1))) T = T := h3
  omega
theorem LB.mx (h : MX B S T μ a) {i n : Nat} (hi : i < S) (hn : n ≤ 8) {f : Nat → Int32} {μ' : OM} {a' : Nat → Int32} (hb : LB i n f μ μ' a a') (h5 : ∀ k, k < n → ∃ t, t < T ∧ f k = nI t) (h6 : ∀ k k', k < n → k' < n → f k = f k' → k = k') : MX B S T μ' a' := by
  obtain ⟨g1, g2, g3, g4, g5⟩ := hb
  have el : ln a' i = n := by rw [ln, g4]; exact nI_clamp (by omega)
  refine ⟨h.1.list h.2.2.1 hi g1 g2 (g3.trans g4.symm) (fun k hk => (g5 k (by omega)).1), h.2.list hi g2 (by omega) (by rw [el]; exact g4) (fun k hk => ?_) (fun k k' hk hk' e => ?_)⟩
  · rw [(g5 k (by omega)).2]; exact h5 k (by omega)
  · rw [(g5 k (by omega)).2, (g5 k' (by omega)).2] at e
    exact h6 k k' (by omega) (by omega) e
theorem drop_mx (h : MX B S T μ a) {i r : Nat} (hi : i < S) (hr : r < ln a i) {v : Int32} (hv : rk a i v = nI r) : ∃ μ' a', f_X5_dropWish (nI i) v μ = some μ' ∧ f_X13_removes (nI i) v (sr ρ a) = some (nI (ln a i - 1), sr ρ a') ∧ LB i (ln a i - 1) (fun k => if k < r then a (25 + 13 * i + (5 + k)) else a (25 + 13 * i + (5 + (k + 1)))) μ μ' a a' ∧ MX B S T μ' a' := by
  have w := h.2.2.1
  have hl := (w.2.1 i hi).1
  obtain ⟨μ', a', h1, h2, h3⟩ := drop_two (ρ := ρ) h.1 w hi hr hv
  refine ⟨μ', a', h1, h2, h3, LB.mx h hi (by omega) h3 (fun k hk => ?_) (fun k k' hk hk' e => ?_)⟩
  · by_cases e : k < r
    · rw [if_pos e]; exact w.2.2.1 i k hi (by omega)
    · rw [if_neg e]; exact w.2.2.1 i (k + 1) hi (by omega)
  · by_cases e1 : k < r
    · rw [if_pos e1] at e
      by_cases e2 : k' < r
      · rw [if_pos e2] at e; exact h.2.2.2.1.1 i k k' hi (by omega) (by omega) e
      · rw [if_neg e2] at e; have := h.2.2.2.1.1 i k (k' + 1) hi (by omega) (by omega) e; omega
    · rw [if_neg e1] at e
      by_cases e2 : k' < r
      · rw [if_pos e2] at e; have := h.2.2.2.1.1 i (k + 1) k' hi (by omega) (by omega) e; omega
      · rw [if_neg e2] at e; have := h.2.2.2.1.1 i (k + 1) (k' + 1) hi (by omega) (by omega) e; omega
theorem first_mx (h : MX B S T μ a) {i t : Nat} (hi : i < S) (ht : t < T) : ∃ μ' a' n, f_X5_wishFirst (nI i) (nI t) μ = some μ' ∧ f_X13_putsFirst (nI i) (nI t) (sr ρ a) = some (nI n, sr ρ a') ∧ (1 ≤ n ∧ n ≤ 8) ∧ a' (25 + 13 * i + 4) = nI n ∧ MX B S T μ' a' := by
  have w := h.2.2.1
  have d := h.2.2.2.1
  have h8 := w.1.1
  have t8 := w.1.2
  have hl := w.2.1 i hi
  have fin : ∀ (ν : OM) (b : Nat → Int32) (n : Nat), MX B S T ν b → ln b i = n → n ≤ 7 → (∀ k, k < n → b (25 + 13 * i + (5 + k)) ≠ nI t) → ∃ μ' a', f_X5_wishFirst_30 (nI i) FU (nI n) ν = some μ' ∧ f_X13_putsFirst_27 (nI i) FU (nI n) (sr ρ b) = some (sr ρ a') ∧ MX B S T (wI (wI μ' 7 (i * 8) (nI t)) 6 i (nI (n + 1))) (upd (upd a' (25 + 13 * i + 5) (nI t)) (25 + 13 * i + 4) (nI (n + 1))) := by
    intro ν b n hx hn hn7 hne
    have w' := hx.2.2.1
    obtain ⟨μ', a', f1, f2, f3, f4, f5⟩ := shift_two (ρ := ρ) (μ := ν) (a := b) (i := i) (L := n) (by omega) hn7 (fun k hk => hx.1.2.2.2.1 i k hi (by omega))
    refine ⟨μ', a', f1, f2, LB.mx (i := i) (n := n + 1) (f := fun k => if k = 0 then nI t else b (25 + 13 * i + (5 + (k - 1)))) hx hi (by omega) ⟨(f3.tr (FMu.w7 (k := 0) (by omega) _ _)).tr (FMu.w6 _ _ _), (f4.tr (FA.w (k := 5) (by omega) (by omega) _ _)).tr (FA.w (by omega) (by omega) _ _), by simp (maxSteps := 2000000) (disch := first | rfl | exact q_e1 _ _ _ | exact q_sr1 _ _ | omega) only [q_sr1, q_srn, q_srw, q_srs, q_wIs, q_wIn, q_wI2, q_wJ1, q_wJs, q_wJn, q_wR1, q_wRs, q_wRn, q_wI22, q_wJ22, pk_us, pk_un, pk_uLs, pk_uLn, q_usS, q_usN, q_ups, q_upn], by simp (maxSteps := 2000000) (disch := first | rfl | exact q_e1 _ _ _ | exact q_sr1 _ _ | omega) only [q_sr1, q_srn, q_srw, q_srs, q_wIs, q_wIn, q_wI2, q_wJ1, q_wJs, q_wJn, q_wR1, q_wRs, q_wRn, q_wI22, q_wJ22, pk_us, pk_un, pk_uLs, pk_uLn, q_usS, q_usN, q_ups, q_upn], fun k hk => ?_⟩ (fun k hk => ?_) (fun k k' hk hk' e => ?_)⟩
    · by_cases e : k = 0
      · subst e
        dsimp only
        rw [if_pos rfl]
        exact ⟨by simp (maxSteps := 2000000) (disch := first | rfl | exact q_e1 _ _ _ | exact q_sr1 _ _ | omega) only [q_sr1, q_srn, q_srw, q_srs, q_wIs, q_wIn, q_wI2, q_wJ1, q_wJs, q_wJn, q_wR1, q_wRs, q_wRn, q_wI22, q_wJ22, pk_us, pk_un, pk_uLs, pk_uLn, q_usS, q_usN, q_ups, q_upn, Nat.add_zero], by simp (maxSteps := 2000000) (disch := first | rfl | exact q_e1 _ _ _ | exact q_sr1 _ _ | omega) only [q_sr1, q_srn, q_srw, q_srs, q_wIs, q_wIn, q_wI2, q_wJ1, q_wJs, q_wJn, q_wR1, q_wRs, q_wRn, q_wI22, q_wJ22, pk_us, pk_un, pk_uLs, pk_uLn, q_usS, q_usN, q_ups, q_upn, Nat.add_zero]⟩
      · obtain ⟨j, rfl⟩ : ∃ j, k = j + 1 := ⟨k - 1, by omega⟩
        obtain ⟨q1, q2⟩ := f5 j (by omega)
        dsimp only
        rw [if_neg e]
        have e2 : j + 1 - 1 = j := by omega
        exact ⟨by simp (maxSteps := 2000000) (disch := first | rfl | exact q_e1 _ _ _ | exact q_sr1 _ _ | omega) only [q_sr1, q_srn, q_srw, q_srs, q_wIs, q_wIn, q_wI2, q_wJ1, q_wJs, q_wJn, q_wR1, q_wRs, q_wRn, q_wI22, q_wJ22, pk_us, pk_un, pk_uLs, pk_uLn, q_usS, q_usN, q_ups, q_upn, q1], by simp (maxSteps := 2000000) (disch := first | rfl | exact q_e1 _ _ _ | exact q_sr1 _ _ | omega) only [q_sr1, q_srn, q_srw, q_srs, q_wIs, q_wIn, q_wI2, q_wJ1, q_wJs, q_wJn, q_wR1, q_wRs, q_wRn, q_wI22, q_wJ22, pk_us, pk_un, pk_uLs, pk_uLn, q_usS, q_usN, q_ups, q_upn, q2, e2]⟩
    · by_cases e : k = 0
      · rw [if_pos e]; exact ⟨t, ht, rfl⟩
      · rw [if_neg e]; exact w'.2.2.1 i (k - 1) hi (by omega)
    · by_cases e1 : k = 0
      · rw [if_pos e1] at e
        by_cases e2 : k' = 0
        · omega
        · rw [if_neg e2] at e; exact absurd e.symm (hne (k' - 1) (by omega))
      · rw [if_neg e1] at e
        by_cases e2 : k' = 0
        · rw [if_pos e2] at e; exact absurd e (hne (k - 1) (by omega))
        · rw [if_neg e2] at e
          have := hx.2.2.2.1.1 i (k - 1) (k' - 1) hi (by omega) (by omega) e
          omega
  rcases rk_cases a i (nI t) with hv | ⟨r, hr, hv⟩
  · have hroom := lst_room w d hi ht hv
    obtain ⟨μ', a', f1, f2, f3⟩ := fin μ a (ln a i) h rfl (by omega) (fun k hk e => by
      have := (fd_none (show ln a i < 2 ^ 31 by omega)).mp hv k hk
      exact (of_decide_eq_false this) e)
    refine ⟨_, _, ln a i + 1, ?_, ?_, by omega, ?_, f3⟩
    · simp (maxSteps := 2000000) (disch := first | rfl | exact q_e1 _ _ _ | exact q_sr1 _ _ | omega) only [f_X5_wishFirst, f_X5_dropWish, s_rankIn h.1 w hi, s_hasSeller h.1 hi h8, hv, s_wishesOf h.1 h8 hi, hl.2, f1, ↓q_m1, q_l0, q_l1, q_l2, q_l3, q_l4, q_l5, q_l6, q_l7, q_l8, q_l9, q_l10, q_l11, q_l12, q_l13, q_l14, q_l15, q_l16, q_l17, q_l18, q_l19, q_l20, q_l21, q_l22, q_l23, q_l24, q_l25, q_l26, q_l27, q_l28, q_l29, q_l30, q_l31, q_l32, q_l33, q_l45, q_l46, q_l48, q_l57, q_l58, q_l59, q_l60, q_l61, q_l62, q_l63, q_l64, q_l96, q_l97, q_l99, q_l122, q_l129, q_l137, q_l255, q_l256, q_l400, q_l680, q_l700, q_l959, q_l999, q_l9999, q_l10000, q_l100000, q_ltT, q_ltF, q_leT, q_leF, q_eqF, q_eqR, q_mlt, q_mle, q_nlm, q_nLm, q_nem, q_men, q_mlm, Nat.add_zero, Nat.sub_zero, q_add0, pk_rem, nI_add, pk_mul, q_sub, q_subm, q_addm, nI_clamp, q_inT, q_inF, q_sr1, q_srn, q_srw, q_srs, q_wIs, q_wIn, q_wI2, q_wJ1, q_wJs, q_wJn, q_wR1, q_wRs, q_wRn, q_wI22, q_wJ22, pk_us, pk_un, pk_uLs, pk_uLn, q_usS, q_usN, q_ups, q_upn, Bool.true_eq_false, Bool.false_eq_true, q_lt, q_o2, q_o3, q_o4, q_o5, q_bi, ↓reduceIte, q_tv0, q_tv1, q_bz, q_oRl, q_oRr, q_oXl, q_oXr]
    · simp (maxSteps := 2000000) (disch := first | rfl | exact q_e1 _ _ _ | exact q_sr1 _ _ | omega) only [f_X13_putsFirst, r_rk (w.li hi), r_of a, hv, hl.2, f2, r_sets (show i < 8 by omega), ↓q_m1, q_l0, q_l1, q_l2, q_l3, q_l4, q_l5, q_l6, q_l7, q_l8, q_l9, q_l10, q_l11, q_l12, q_l13, q_l14, q_l15, q_l16, q_l17, q_l18, q_l19, q_l20, q_l21, q_l22, q_l23, q_l24, q_l25, q_l26, q_l27, q_l28, q_l29, q_l30, q_l31, q_l32, q_l33, q_l45, q_l46, q_l48, q_l57, q_l58, q_l59, q_l60, q_l61, q_l62, q_l63, q_l64, q_l96, q_l97, q_l99, q_l122, q_l129, q_l137, q_l255, q_l256, q_l400, q_l680, q_l700, q_l959, q_l999, q_l9999, q_l10000, q_l100000, q_ltT, q_ltF, q_leT, q_leF, q_eqF, q_eqR, q_mlt, q_mle, q_nlm, q_nLm, q_nem, q_men, q_mlm, Nat.add_zero, Nat.sub_zero, q_add0, pk_rem, nI_add, pk_mul, q_sub, q_subm, q_addm, nI_clamp, q_inT, q_inF, q_sr1, q_srn, q_srw, q_srs, q_wIs, q_wIn, q_wI2, q_wJ1, q_wJs, q_wJn, q_wR1, q_wRs, q_wRn, q_wI22, q_wJ22, pk_us, pk_un, pk_uLs, pk_uLn, q_usS, q_usN, q_ups, q_upn, Bool.true_eq_false, Bool.false_eq_true, q_lt, q_o2, q_o3, q_o4, q_o5, q_bi, ↓reduceIte, q_tv0, q_tv1, q_bz, q_oRl, q_oRr, q_oXl, q_oXr]
    · simp (maxSteps := 2000000) (disch := first | rfl | exact q_e1 _ _ _ | exact q_sr1 _ _ | omega) only [q_sr1, q_srn, q_srw, q_srs, q_wIs, q_wIn, q_wI2, q_wJ1, q_wJs, q_wJn, q_wR1, q_wRs, q_wRn, q_wI22, q_wJ22, pk_us, pk_un, pk_uLs, pk_uLn, q_usS, q_usN, q_ups, q_upn]
  · obtain ⟨μ1, a1, g1, g2, g3, g4⟩ := drop_mx (ρ := ρ) h hi hr hv
    have el : ln a1 i = ln a i - 1 := by rw [ln, g3.2.2.2.1]; exact nI_clamp (by omega)
    obtain ⟨μ', a', f1, f2, f3⟩ := fin μ1 a1 (ln a i - 1) g4 el (by omega) (fun k hk e => by
      have hrr := (fd_some (show ln a i < 2 ^ 31 by omega) (show r < 2 ^ 31 by omega)).mp hv
      have er := of_decide_eq_true hrr.2.1
      rw [(g3.2.2.2.2 k hk).2] at e
      dsimp only at e
      by_cases e1 : k < r
      · rw [if_pos e1] at e
        have := d.1 i k r hi (by omega) hr (e.trans er.symm)
        omega
      · rw [if_neg e1] at e
        have := d.1 i (k + 1) r hi (by omega) hr (e.trans er.symm)
        omega)
    have hl1 := g4.2.2.1.2.1 i hi
    rw [el] at hl1
    refine ⟨_, _, ln a i - 1 + 1, ?_, ?_, by omega, ?_, f3⟩
    · simp (maxSteps := 2000000) (disch := first | rfl | exact q_e1 _ _ _ | exact q_sr1 _ _ | omega) only [f_X5_wishFirst, g1, s_hasSeller g4.1 hi h8, s_wishesOf g4.1 h8 hi, hl1.2, f1, ↓q_m1, q_l0, q_l1, q_l2, q_l3, q_l4, q_l5, q_l6, q_l7, q_l8, q_l9, q_l10, q_l11, q_l12, q_l13, q_l14, q_l15, q_l16, q_l17, q_l18, q_l19, q_l20, q_l21, q_l22, q_l23, q_l24, q_l25, q_l26, q_l27, q_l28, q_l29, q_l30, q_l31, q_l32, q_l33, q_l45, q_l46, q_l48, q_l57, q_l58, q_l59, q_l60, q_l61, q_l62, q_l63, q_l64, q_l96, q_l97, q_l99, q_l122, q_l129, q_l137, q_l255, q_l256, q_l400, q_l680, q_l700, q_l959, q_l999, q_l9999, q_l10000, q_l100000, q_ltT, q_ltF, q_leT, q_leF, q_eqF, q_eqR, q_mlt, q_mle, q_nlm, q_nLm, q_nem, q_men, q_mlm, Nat.add_zero, Nat.sub_zero, q_add0, pk_rem, nI_add, pk_mul, q_sub, q_subm, q_addm, nI_clamp, q_inT, q_inF, q_sr1, q_srn, q_srw, q_srs, q_wIs, q_wIn, q_wI2, q_wJ1, q_wJs, q_wJn, q_wR1, q_wRs, q_wRn, q_wI22, q_wJ22, pk_us, pk_un, pk_uLs, pk_uLn, q_usS, q_usN, q_ups, q_upn, Bool.true_eq_false, Bool.false_eq_true, q_lt, q_o2, q_o3, q_o4, q_o5, q_bi, ↓reduceIte, q_tv0, q_tv1, q_bz, q_oRl, q_oRr, q_oXl, q_oXr]
    · simp (maxSteps := 2000000) (disch := first | rfl | exact q_e1 _ _ _ | exact q_sr1 _ _ | omega) only [f_X13_putsFirst, r_rk (w.li hi), r_of a1, hv, g2, hl1.2, f2, r_sets (show i < 8 by omega), ↓q_m1, q_l0, q_l1, q_l2, q_l3, q_l4, q_l5, q_l6, q_l7, q_l8, q_l9, q_l10, q_l11, q_l12, q_l13, q_l14, q_l15, q_l16, q_l17, q_l18, q_l19, q_l20, q_l21, q_l22, q_l23, q_l24, q_l25, q_l26, q_l27, q_l28, q_l29, q_l30, q_l31, q_l32, q_l33, q_l45, q_l46, q_l48, q_l57, q_l58, q_l59, q_l60, q_l61, q_l62, q_l63, q_l64, q_l96, q_l97, q_l99, q_l122, q_l129, q_l137, q_l255, q_l256, q_l400, q_l680, q_l700, q_l959, q_l999, q_l9999, q_l10000, q_l100000, q_ltT, q_ltF, q_leT, q_leF, q_eqF, q_eqR, q_mlt, q_mle, q_nlm, q_nLm, q_nem, q_men, q_mlm, Nat.add_zero, Nat.sub_zero, q_add0, pk_rem, nI_add, pk_mul, q_sub, q_subm, q_addm, nI_clamp, q_inT, q_inF, q_sr1, q_srn, q_srw, q_srs, q_wIs, q_wIn, q_wI2, q_wJ1, q_wJs, q_wJn, q_wR1, q_wRs, q_wRn, q_wI22, q_wJ22, pk_us, pk_un, pk_uLs, pk_uLn, q_usS, q_usN, q_ups, q_upn, Bool.true_eq_false, Bool.false_eq_true, q_lt, q_o2, q_o3, q_o4, q_o5, q_bi, ↓reduceIte, q_tv0, q_tv1, q_bz, q_oRl, q_oRr, q_oXl, q_oXr]
    · simp (maxSteps := 2000000) (disch := first | rfl | exact q_e1 _ _ _ | exact q_sr1 _ _ | omega) only [q_sr1, q_srn, q_srw, q_srs, q_wIs, q_wIn, q_wI2, q_wJ1, q_wJs, q_wJn, q_wR1, q_wRs, q_wRn, q_wI22, q_wJ22, pk_us, pk_un, pk_uLs, pk_uLn, q_usS, q_usN, q_ups, q_upn]
end LST
section FACE
variable {B : Nat} {σ : SM}
theorem P_preferFirst (h : Rel B σ) (x0 x1 : Int32) : FS B B σ [2] (f_X12_preferFirst x0 x1 σ) (f_X13_preferFirst x0 x1 (σ 20)) := by
  obtain ⟨S, T, hm, hf⟩ := h.1
  have w := hf.2.1; have h8 := w.1.1; have t8 := w.1.2; have hS := hm.1.2.2.1; have hT := hm.1.2.2.2
  rcases or_assoc.mpr (q_ix x0 (n := S) (by omega)) with hx | ⟨i, hi, rfl⟩
  · refine fs_t h 0 rfl ?_ (nI 0) ?_
    · simp (maxSteps := 2000000) (disch := first | rfl | exact q_e1 _ _ _ | exact q_sr1 _ _ | omega) only [f_X12_preferFirst, s_rqF hm hx, Bool.true_eq_false, Bool.false_eq_true, q_lt, q_o2, q_o3, q_o4, q_o5, q_bi, ↓reduceIte, q_tv0, q_tv1, q_bz, q_oRl, q_oRr, q_oXl, q_oXr]
    · simp (maxSteps := 2000000) (disch := first | rfl | exact q_e1 _ _ _ | exact q_sr1 _ _ | omega) only [f_X13_preferFirst, r_selF hS h8 hx, r_wants0, ↓q_m1, q_l0, q_l1, q_l2, q_l3, q_l4, q_l5, q_l6, q_l7, q_l8, q_l9, q_l10, q_l11, q_l12, q_l13, q_l14, q_l15, q_l16, q_l17, q_l18, q_l19, q_l20, q_l21, q_l22, q_l23, q_l24, q_l25, q_l26, q_l27, q_l28, q_l29, q_l30, q_l31, q_l32, q_l33, q_l45, q_l46, q_l48, q_l57, q_l58, q_l59, q_l60, q_l61, q_l62, q_l63, q_l64, q_l96, q_l97, q_l99, q_l122, q_l129, q_l137, q_l255, q_l256, q_l400, q_l680, q_l700, q_l959, q_l999, q_l9999, q_l10000, q_l100000, q_ltT, q_ltF, q_leT, q_leF, q_eqF, q_eqR, q_mlt, q_mle, q_nlm, q_nLm, q_nem, q_men, q_mlm, Nat.add_zero, Nat.sub_zero, q_add0, pk_rem, nI_add, pk_mul, q_sub, q_subm, q_addm, nI_clamp, q_inT, q_inF, q_sr1, q_srn, q_srw, q_srs, q_wIs, q_wIn, q_wI2, q_wJ1, q_wJs, q_wJn, q_wR1, q_wRs, q_wRn, q_wI22, q_wJ22, pk_us, pk_un, pk_uLs, pk_uLn, q_usS, q_usN, q_ups, q_upn, Bool.true_eq_false, Bool.false_eq_true, q_lt, q_o2, q_o3, q_o4, q_o5, q_bi, ↓reduceIte, q_tv0, q_tv1, q_bz, q_oRl, q_oRr, q_oXl, q_oXr]
  · rcases or_assoc.mpr (q_ix x1 (n := T) (by omega)) with hx | ⟨t, ht, rfl⟩
    · refine fs_t h 0 rfl ?_ (nI 0) ?_
      · simp (maxSteps := 2000000) (disch := first | rfl | exact q_e1 _ _ _ | exact q_sr1 _ _ | omega) only [f_X12_preferFirst, s_rqT hm h8 hi, s_rqFt hm hx, Bool.true_eq_false, Bool.false_eq_true, q_lt, q_o2, q_o3, q_o4, q_o5, q_bi, ↓reduceIte, q_tv0, q_tv1, q_bz, q_oRl, q_oRr, q_oXl, q_oXr]
      · simp (maxSteps := 2000000) (disch := first | rfl | exact q_e1 _ _ _ | exact q_sr1 _ _ | omega) only [f_X13_preferFirst, r_selT hS h8, r_stlF hT t8 hx, r_wants0, ↓q_m1, q_l0, q_l1, q_l2, q_l3, q_l4, q_l5, q_l6, q_l7, q_l8, q_l9, q_l10, q_l11, q_l12, q_l13, q_l14, q_l15, q_l16, q_l17, q_l18, q_l19, q_l20, q_l21, q_l22, q_l23, q_l24, q_l25, q_l26, q_l27, q_l28, q_l29, q_l30, q_l31, q_l32, q_l33, q_l45, q_l46, q_l48, q_l57, q_l58, q_l59, q_l60, q_l61, q_l62, q_l63, q_l64, q_l96, q_l97, q_l99, q_l122, q_l129, q_l137, q_l255, q_l256, q_l400, q_l680, q_l700, q_l959, q_l999, q_l9999, q_l10000, q_l100000, q_ltT, q_ltF, q_leT, q_leF, q_eqF, q_eqR, q_mlt, q_mle, q_nlm, q_nLm, q_nem, q_men, q_mlm, Nat.add_zero, Nat.sub_zero, q_add0, pk_rem, nI_add, pk_mul, q_sub, q_subm, q_addm, nI_clamp, q_inT, q_inF, q_sr1, q_srn, q_srw, q_srs, q_wIs, q_wIn, q_wI2, q_wJ1, q_wJs, q_wJn, q_wR1, q_wRs, q_wRn, q_wI22, q_wJ22, pk_us, pk_un, pk_uLs, pk_uLn, q_usS, q_usN, q_ups, q_upn, Bool.true_eq_false, Bool.false_eq_true, q_lt, q_o2, q_o3, q_o4, q_o5, q_bi, ↓reduceIte, q_tv0, q_tv1, q_bz, q_oRl, q_oRr, q_oXl, q_oXr]
    · obtain ⟨τ, ρ', c1, c2, c3, c4, c5, c6, c7⟩ := both_rec h; have d0 : τ 0 = σ 0 := c3 0 (by omega) (by omega); have d20 : τ 20 = σ 20 := c3 20 (by omega) (by omega); have hρ : ρ' = sr ρ' ((σ 20).1 1) := by rw [← c4]; exact (sr_self ρ').symm
      obtain ⟨μ', a', n, f1, f2, f3, f4, f5⟩ := first_mx (ρ := ρ') ⟨hm, hf⟩ hi ht
      refine op_fin (Nat.le_refl _) d20 c7 c6 ⟨S, T, f5⟩ (r := nI n) ?_ ?_
      · simp (maxSteps := 2000000) (disch := first | rfl | exact q_e1 _ _ _ | exact q_sr1 _ _ | omega) only [f_X12_preferFirst, s_rqT hm h8 hi, s_rqTt hm t8 ht, c1, d0, f1, s_wishesOf f5.1 h8 hi, f4, ↓q_m1, q_l0, q_l1, q_l2, q_l3, q_l4, q_l5, q_l6, q_l7, q_l8, q_l9, q_l10, q_l11, q_l12, q_l13, q_l14, q_l15, q_l16, q_l17, q_l18, q_l19, q_l20, q_l21, q_l22, q_l23, q_l24, q_l25, q_l26, q_l27, q_l28, q_l29, q_l30, q_l31, q_l32, q_l33, q_l45, q_l46, q_l48, q_l57, q_l58, q_l59, q_l60, q_l61, q_l62, q_l63, q_l64, q_l96, q_l97, q_l99, q_l122, q_l129, q_l137, q_l255, q_l256, q_l400, q_l680, q_l700, q_l959, q_l999, q_l9999, q_l10000, q_l100000, q_ltT, q_ltF, q_leT, q_leF, q_eqF, q_eqR, q_mlt, q_mle, q_nlm, q_nLm, q_nem, q_men, q_mlm, Nat.add_zero, Nat.sub_zero, q_add0, pk_rem, nI_add, pk_mul, q_sub, q_subm, q_addm, nI_clamp, q_inT, q_inF, q_sr1, q_srn, q_srw, q_srs, q_wIs, q_wIn, q_wI2, q_wJ1, q_wJs, q_wJn, q_wR1, q_wRs, q_wRn, q_wI22, q_wJ22, pk_us, pk_un, pk_uLs, pk_uLn, q_usS, q_usN, q_ups, q_upn, Bool.true_eq_false, Bool.false_eq_true, q_lt, q_o2, q_o3, q_o4, q_o5, q_bi, ↓reduceIte, q_tv0, q_tv1, q_bz, q_oRl, q_oRr, q_oXl, q_oXr]
      · rw [hρ] at c2
        simp (maxSteps := 2000000) (disch := first | rfl | exact q_e1 _ _ _ | exact q_sr1 _ _ | omega) only [f_X13_preferFirst, r_selT hS h8, r_stlT hT t8, r_wants1, c2, f2, ↓q_m1, q_l0, q_l1, q_l2, q_l3, q_l4, q_l5, q_l6, q_l7, q_l8, q_l9, q_l10, q_l11, q_l12, q_l13, q_l14, q_l15, q_l16, q_l17, q_l18, q_l19, q_l20, q_l21, q_l22, q_l23, q_l24, q_l25, q_l26, q_l27, q_l28, q_l29, q_l30, q_l31, q_l32, q_l33, q_l45, q_l46, q_l48, q_l57, q_l58, q_l59, q_l60, q_l61, q_l62, q_l63, q_l64, q_l96, q_l97, q_l99, q_l122, q_l129, q_l137, q_l255, q_l256, q_l400, q_l680, q_l700, q_l959, q_l999, q_l9999, q_l10000, q_l100000, q_ltT, q_ltF, q_leT, q_leF, q_eqF, q_eqR, q_mlt, q_mle, q_nlm, q_nLm, q_nem, q_men, q_mlm, Nat.add_zero, Nat.sub_zero, q_add0, pk_rem, nI_add, pk_mul, q_sub, q_subm, q_addm, nI_clamp, q_inT, q_inF, q_sr1, q_srn, q_srw, q_srs, q_wIs, q_wIn, q_wI2, q_wJ1, q_wJs, q_wJn, q_wR1, q_wRs, q_wRn, q_wI22, q_wJ22, pk_us, pk_un, pk_uLs, pk_uLn, q_usS, q_usN, q_ups, q_upn, Bool.true_eq_false, Bool.false_eq_true, q_lt, q_o2, q_o3, q_o4, q_o5, q_bi, ↓reduceIte, q_tv0, q_tv1, q_bz, q_oRl, q_oRr, q_oXl, q_oXr]
theorem P_removePreference (h : Rel B σ) (x0 x1 : Int32) : FS B B σ [2, 0] (f_X12_removePreference x0 x1 σ) (f_X13_removePreference x0 x1 (σ 20)) := by
  obtain ⟨S, T, hm, hf⟩ := h.1
  have w := hf.2.1; have h8 := w.1.1; have t8 := w.1.2; have hS := hm.1.2.2.1; have hT := hm.1.2.2.2
  rcases or_assoc.mpr (q_ix x0 (n := S) (by omega)) with hx | ⟨i, hi, rfl⟩
  · refine fs_t h 0 rfl ?_ (nI 0) ?_
    · simp (maxSteps := 2000000) (disch := first | rfl | exact q_e1 _ _ _ | exact q_sr1 _ _ | omega) only [f_X12_removePreference, s_rqF hm hx, Bool.true_eq_false, Bool.false_eq_true, q_lt, q_o2, q_o3, q_o4, q_o5, q_bi, ↓reduceIte, q_tv0, q_tv1, q_bz, q_oRl, q_oRr, q_oXl, q_oXr]
    · simp (maxSteps := 2000000) (disch := first | rfl | exact q_e1 _ _ _ | exact q_sr1 _ _ | omega) only [f_X13_removePreference, r_selF hS h8 hx, ↓q_m1, q_l0, q_l1, q_l2, q_l3, q_l4, q_l5, q_l6, q_l7, q_l8, q_l9, q_l10, q_l11, q_l12, q_l13, q_l14, q_l15, q_l16, q_l17, q_l18, q_l19, q_l20, q_l21, q_l22, q_l23, q_l24, q_l25, q_l26, q_l27, q_l28, q_l29, q_l30, q_l31, q_l32, q_l33, q_l45, q_l46, q_l48, q_l57, q_l58, q_l59, q_l60, q_l61, q_l62, q_l63, q_l64, q_l96, q_l97, q_l99, q_l122, q_l129, q_l137, q_l255, q_l256, q_l400, q_l680, q_l700, q_l959, q_l999, q_l9999, q_l10000, q_l100000, q_ltT, q_ltF, q_leT, q_leF, q_eqF, q_eqR, q_mlt, q_mle, q_nlm, q_nLm, q_nem, q_men, q_mlm, Nat.add_zero, Nat.sub_zero, q_add0, pk_rem, nI_add, pk_mul, q_sub, q_subm, q_addm, nI_clamp, q_inT, q_inF, q_sr1, q_srn, q_srw, q_srs, q_wIs, q_wIn, q_wI2, q_wJ1, q_wJs, q_wJn, q_wR1, q_wRs, q_wRn, q_wI22, q_wJ22, pk_us, pk_un, pk_uLs, pk_uLn, q_usS, q_usN, q_ups, q_upn, Bool.true_eq_false, Bool.false_eq_true, q_lt, q_o2, q_o3, q_o4, q_o5, q_bi, ↓reduceIte, q_tv0, q_tv1, q_bz, q_oRl, q_oRr, q_oXl, q_oXr]
  · rcases or_assoc.mpr (q_ix x1 (n := T) (by omega)) with hx | ⟨t, ht, rfl⟩
    · refine fs_t h 0 rfl ?_ (nI 0) ?_
      · simp (maxSteps := 2000000) (disch := first | rfl | exact q_e1 _ _ _ | exact q_sr1 _ _ | omega) only [f_X12_removePreference, s_rqT hm h8 hi, s_rqFt hm hx, Bool.true_eq_false, Bool.false_eq_true, q_lt, q_o2, q_o3, q_o4, q_o5, q_bi, ↓reduceIte, q_tv0, q_tv1, q_bz, q_oRl, q_oRr, q_oXl, q_oXr]
      · simp (maxSteps := 2000000) (disch := first | rfl | exact q_e1 _ _ _ | exact q_sr1 _ _ | omega) only [f_X13_removePreference, r_selT hS h8, r_stlF hT t8 hx, ↓q_m1, q_l0, q_l1, q_l2, q_l3, q_l4, q_l5, q_l6, q_l7, q_l8, q_l9, q_l10, q_l11, q_l12, q_l13, q_l14, q_l15, q_l16, q_l17, q_l18, q_l19, q_l20, q_l21, q_l22, q_l23, q_l24, q_l25, q_l26, q_l27, q_l28, q_l29, q_l30, q_l31, q_l32, q_l33, q_l45, q_l46, q_l48, q_l57, q_l58, q_l59, q_l60, q_l61, q_l62, q_l63, q_l64, q_l96, q_l97, q_l99, q_l122, q_l129, q_l137, q_l255, q_l256, q_l400, q_l680, q_l700, q_l959, q_l999, q_l9999, q_l10000, q_l100000, q_ltT, q_ltF, q_leT, q_leF, q_eqF, q_eqR, q_mlt, q_mle, q_nlm, q_nLm, q_nem, q_men, q_mlm, Nat.add_zero, Nat.sub_zero, q_add0, pk_rem, nI_add, pk_mul, q_sub, q_subm, q_addm, nI_clamp, q_inT, q_inF, q_sr1, q_srn, q_srw, q_srs, q_wIs, q_wIn, q_wI2, q_wJ1, q_wJs, q_wJn, q_wR1, q_wRs, q_wRn, q_wI22, q_wJ22, pk_us, pk_un, pk_uLs, pk_uLn, q_usS, q_usN, q_ups, q_upn, Bool.true_eq_false, Bool.false_eq_true, q_lt, q_o2, q_o3, q_o4, q_o5, q_bi, ↓reduceIte, q_tv0, q_tv1, q_bz, q_oRl, q_oRr, q_oXl, q_oXr]
    · rcases rk_cases ((σ 20).1 1) i (nI t) with hv | ⟨r, hr, hv⟩
      · refine fs_t h 1 rfl ?_ (nI 0) ?_
        · simp (maxSteps := 2000000) (disch := first | rfl | exact q_e1 _ _ _ | exact q_sr1 _ _ | omega) only [f_X12_removePreference, s_rqT hm h8 hi, s_rqTt hm t8 ht, s_rankIn hm w hi, hv, ↓q_m1, q_l0, q_l1, q_l2, q_l3, q_l4, q_l5, q_l6, q_l7, q_l8, q_l9, q_l10, q_l11, q_l12, q_l13, q_l14, q_l15, q_l16, q_l17, q_l18, q_l19, q_l20, q_l21, q_l22, q_l23, q_l24, q_l25, q_l26, q_l27, q_l28, q_l29, q_l30, q_l31, q_l32, q_l33, q_l45, q_l46, q_l48, q_l57, q_l58, q_l59, q_l60, q_l61, q_l62, q_l63, q_l64, q_l96, q_l97, q_l99, q_l122, q_l129, q_l137, q_l255, q_l256, q_l400, q_l680, q_l700, q_l959, q_l999, q_l9999, q_l10000, q_l100000, q_ltT, q_ltF, q_leT, q_leF, q_eqF, q_eqR, q_mlt, q_mle, q_nlm, q_nLm, q_nem, q_men, q_mlm, Nat.add_zero, Nat.sub_zero, q_add0, pk_rem, nI_add, pk_mul, q_sub, q_subm, q_addm, nI_clamp, q_inT, q_inF, q_sr1, q_srn, q_srw, q_srs, q_wIs, q_wIn, q_wI2, q_wJ1, q_wJs, q_wJn, q_wR1, q_wRs, q_wRn, q_wI22, q_wJ22, pk_us, pk_un, pk_uLs, pk_uLn, q_usS, q_usN, q_ups, q_upn, Bool.true_eq_false, Bool.false_eq_true, q_lt, q_o2, q_o3, q_o4, q_o5, q_bi, ↓reduceIte, q_tv0, q_tv1, q_bz, q_oRl, q_oRr, q_oXl, q_oXr]
        · simp (maxSteps := 2000000) (disch := first | rfl | exact q_e1 _ _ _ | exact q_sr1 _ _ | omega) only [f_X13_removePreference, r_selT hS h8, r_stlT hT t8, r_rk (w.li hi), hv, ↓q_m1, q_l0, q_l1, q_l2, q_l3, q_l4, q_l5, q_l6, q_l7, q_l8, q_l9, q_l10, q_l11, q_l12, q_l13, q_l14, q_l15, q_l16, q_l17, q_l18, q_l19, q_l20, q_l21, q_l22, q_l23, q_l24, q_l25, q_l26, q_l27, q_l28, q_l29, q_l30, q_l31, q_l32, q_l33, q_l45, q_l46, q_l48, q_l57, q_l58, q_l59, q_l60, q_l61, q_l62, q_l63, q_l64, q_l96, q_l97, q_l99, q_l122, q_l129, q_l137, q_l255, q_l256, q_l400, q_l680, q_l700, q_l959, q_l999, q_l9999, q_l10000, q_l100000, q_ltT, q_ltF, q_leT, q_leF, q_eqF, q_eqR, q_mlt, q_mle, q_nlm, q_nLm, q_nem, q_men, q_mlm, Nat.add_zero, Nat.sub_zero, q_add0, pk_rem, nI_add, pk_mul, q_sub, q_subm, q_addm, nI_clamp, q_inT, q_inF, q_sr1, q_srn, q_srw, q_srs, q_wIs, q_wIn, q_wI2, q_wJ1, q_wJs, q_wJn, q_wR1, q_wRs, q_wRn, q_wI22, q_wJ22, pk_us, pk_un, pk_uLs, pk_uLn, q_usS, q_usN, q_ups, q_upn, Bool.true_eq_false, Bool.false_eq_true, q_lt, q_o2, q_o3, q_o4, q_o5, q_bi, ↓reduceIte, q_tv0, q_tv1, q_bz, q_oRl, q_oRr, q_oXl, q_oXr]
      · have hl := (w.2.1 i hi).1
        obtain ⟨τ, ρ', c1, c2, c3, c4, c5, c6, c7⟩ := both_rec h; have d0 : τ 0 = σ 0 := c3 0 (by omega) (by omega); have d20 : τ 20 = σ 20 := c3 20 (by omega) (by omega); have hρ : ρ' = sr ρ' ((σ 20).1 1) := by rw [← c4]; exact (sr_self ρ').symm
        obtain ⟨μ', a', f1, f2, f3, f5⟩ := drop_mx (ρ := ρ') ⟨hm, hf⟩ hi hr hv
        refine op_fin (Nat.le_refl _) d20 c7 c6 ⟨S, T, f5⟩ (r := nI (ln ((σ 20).1 1) i - 1)) ?_ ?_
        · simp (maxSteps := 2000000) (disch := first | rfl | exact q_e1 _ _ _ | exact q_sr1 _ _ | omega) only [f_X12_removePreference, s_rqT hm h8 hi, s_rqTt hm t8 ht, s_rankIn hm w hi, hv, c1, d0, f1, s_wishesOf f5.1 h8 hi, f3.2.2.2.1, ↓q_m1, q_l0, q_l1, q_l2, q_l3, q_l4, q_l5, q_l6, q_l7, q_l8, q_l9, q_l10, q_l11, q_l12, q_l13, q_l14, q_l15, q_l16, q_l17, q_l18, q_l19, q_l20, q_l21, q_l22, q_l23, q_l24, q_l25, q_l26, q_l27, q_l28, q_l29, q_l30, q_l31, q_l32, q_l33, q_l45, q_l46, q_l48, q_l57, q_l58, q_l59, q_l60, q_l61, q_l62, q_l63, q_l64, q_l96, q_l97, q_l99, q_l122, q_l129, q_l137, q_l255, q_l256, q_l400, q_l680, q_l700, q_l959, q_l999, q_l9999, q_l10000, q_l100000, q_ltT, q_ltF, q_leT, q_leF, q_eqF, q_eqR, q_mlt, q_mle, q_nlm, q_nLm, q_nem, q_men, q_mlm, Nat.add_zero, Nat.sub_zero, q_add0, pk_rem, nI_add, pk_mul, q_sub, q_subm, q_addm, nI_clamp, q_inT, q_inF, q_sr1, q_srn, q_srw, q_srs, q_wIs, q_wIn, q_wI2, q_wJ1, q_wJs, q_wJn, q_wR1, q_wRs, q_wRn, q_wI22, q_wJ22, pk_us, pk_un, pk_uLs, pk_uLn, q_usS, q_usN, q_ups, q_upn, Bool.true_eq_false, Bool.false_eq_true, q_lt, q_o2, q_o3, q_o4, q_o5, q_bi, ↓reduceIte, q_tv0, q_tv1, q_bz, q_oRl, q_oRr, q_oXl, q_oXr]
        · rw [hρ] at c2
          simp (maxSteps := 2000000) (disch := first | rfl | exact q_e1 _ _ _ | exact q_sr1 _ _ | omega) only [f_X13_removePreference, r_selT hS h8, r_stlT hT t8, r_rk (w.li hi), hv, c2, f2, ↓q_m1, q_l0, q_l1, q_l2, q_l3, q_l4, q_l5, q_l6, q_l7, q_l8, q_l9, q_l10, q_l11, q_l12, q_l13, q_l14, q_l15, q_l16, q_l17, q_l18, q_l19, q_l20, q_l21, q_l22, q_l23, q_l24, q_l25, q_l26, q_l27, q_l28, q_l29, q_l30, q_l31, q_l32, q_l33, q_l45, q_l46, q_l48, q_l57, q_l58, q_l59, q_l60, q_l61, q_l62, q_l63, q_l64, q_l96, q_l97, q_l99, q_l122, q_l129, q_l137, q_l255, q_l256, q_l400, q_l680, q_l700, q_l959, q_l999, q_l9999, q_l10000, q_l100000, q_ltT, q_ltF, q_leT, q_leF, q_eqF, q_eqR, q_mlt, q_mle, q_nlm, q_nLm, q_nem, q_men, q_mlm, Nat.add_zero, Nat.sub_zero, q_add0, pk_rem, nI_add, pk_mul, q_sub, q_subm, q_addm, nI_clamp, q_inT, q_inF, q_sr1, q_srn, q_srw, q_srs, q_wIs, q_wIn, q_wI2, q_wJ1, q_wJs, q_wJn, q_wR1, q_wRs, q_wRn, q_wI22, q_wJ22, pk_us, pk_un, pk_uLs, pk_uLn, q_usS, q_usN, q_ups, q_upn, Bool.true_eq_false, Bool.false_eq_true, q_lt, q_o2, q_o3, q_o4, q_o5, q_bi, ↓reduceIte, q_tv0, q_tv1, q_bz, q_oRl, q_oRr, q_oXl, q_oXr]
end FACE

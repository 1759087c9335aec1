/-! lists and places read -/
section LPL
variable {B S T n : Nat} {g : Nat → Nat} {μ β τ π ρ : OM} {a av : Nat → Int32}
theorem AG.wup (h : AG a av) (p : Nat) (v : Int32) : AG (upd a p v) (upd av p v) := by
  refine ⟨?_, fun x h1 h2 => ?_⟩
  · simp only [upd]; split
    · rfl
    · exact h.1
  · simp only [upd]; split
    · rfl
    · exact h.2 x h1 h2
theorem list_two {i : Nat} (hi : i < S) : ∀ (r m m' : Nat) (μ τ π ρ : OM) (a av : Nat → Int32), ln av i + r = 8 → r < m → r + 1 < m' → MX B S T μ av → AG a av → ρ.1 1 = a → OKS n g β τ π ρ →
    ∃ z μ' π' τ' ρ' av', f_X9_readWishes_2 (nI i) β m (nI (ln av i)) μ π τ = some (z, μ', π', τ') ∧ f_X13_readsList_0 (nI i) m' ρ = some ρ' ∧ KQ ρ ρ' ∧ (∀ x, (x < 25 + 13 * i + 4 ∨ 25 + 13 * i + 13 ≤ x) → ρ'.1 1 x = a x ∧ av' x = av x) ∧ ((z = nI 1 ∧ OKS n g β τ' π' ρ' ∧ AG (ρ'.1 1) av' ∧ MX B S T μ' av') ∨ (z = nI 0 ∧ FL π' ρ')) := by
  intro r
  induction r with
  | zero =>
    intro m m' μ τ π ρ a av hr hm hm' h hg e o
    obtain ⟨m, rfl⟩ : ∃ x, m = x + 1 := ⟨m - 1, by omega⟩
    obtain ⟨m', rfl⟩ : ∃ x, m' = x + 2 := ⟨m' - 2, by omega⟩
    rcases list_step h hg e o hi m m' with ⟨s1, s2⟩ | ⟨π', ρ', s1, s2, s3, s4⟩ | ⟨t, τ', ρ2, ht, hv, _⟩
    · exact ⟨_, _, _, _, _, av, s1, s2, KQ.rf ρ, fun x _ => ⟨congrFun e x, rfl⟩, Or.inl ⟨rfl, o, by rw [e]; exact hg, h⟩⟩
    · exact ⟨_, _, _, _, _, av, s1, s2, s3.kq, fun x _ => ⟨by rw [s3.1 1 (by omega), e], rfl⟩, Or.inr ⟨rfl, s4⟩⟩
    · have := (append_mx h hi ht hv).2.1
      omega
  | succ r ih =>
    intro m m' μ τ π ρ a av hr hm hm' h hg e o
    obtain ⟨m, rfl⟩ : ∃ x, m = x + 1 := ⟨m - 1, by omega⟩
    obtain ⟨m', rfl⟩ : ∃ x, m' = x + 2 := ⟨m' - 2, by omega⟩
    rcases list_step h hg e o hi m m' with ⟨s1, s2⟩ | ⟨π', ρ', s1, s2, s3, s4⟩ | ⟨t, τ', ρ2, ht, hv, s1, s2, s3, s4⟩
    · exact ⟨_, _, _, _, _, av, s1, s2, KQ.rf ρ, fun x _ => ⟨congrFun e x, rfl⟩, Or.inl ⟨rfl, o, by rw [e]; exact hg, h⟩⟩
    · exact ⟨_, _, _, _, _, av, s1, s2, s3.kq, fun x _ => ⟨by rw [s3.1 1 (by omega), e], rfl⟩, Or.inr ⟨rfl, s4⟩⟩
    · obtain ⟨x1, x2, x3⟩ := append_mx h hi ht hv
      have e2 : ρ2.1 1 = a := (s1.1 1 (by omega)).trans e
      have el : ln (upd (upd av (25 + 13 * i + (5 + ln av i)) (nI t)) (25 + 13 * i + 4) (nI (ln av i + 1))) i = ln av i + 1 := by
        rw [ln, pk_us]; exact nI_clamp (by omega)
      have e3 : (wI (wI ρ2 1 (25 + 13 * i + (5 + ln av i)) (nI t)) 1 (25 + 13 * i + 4) (nI (ln av i + 1))).1 1 = upd (upd a (25 + 13 * i + (5 + ln av i)) (nI t)) (25 + 13 * i + 4) (nI (ln av i + 1)) := by
        rw [q_wIs, q_wIs, e2]
      obtain ⟨z, μ', π', τ'', ρ', av', i1, i2, i3, i4, i5⟩ := ih m (m' + 1) _ τ' π _ _ _ (by rw [el]; omega) (by omega) (by omega) x3 ((hg.wup _ _).wup _ _) e3 ((s2.w1 _ _).w1 _ _)
      rw [el] at i1
      refine ⟨z, μ', π', τ'', ρ', av', s3.trans i1, s4.trans i2, ((s1.kq.tr (KQ.w1 _ _ _)).tr (KQ.w1 _ _ _)).tr i3, fun x hx => ?_, i5⟩
      obtain ⟨j1, j2⟩ := i4 x hx
      rw [pk_un (by omega), pk_un (by omega)] at j1 j2
      exact ⟨j1, j2⟩
theorem occ_ag (hg : AG a av) {i : Nat} (hi : i < 8) (hs : av (25 + 13 * i + 3) = m1) {t : Nat} (ht : t < 8) : occ (i + 1) av (nI t) = occ i a (nI t) := by
  have ne : ¬ av (25 + 13 * i + 3) = nI t := by
    rw [hs]; exact fun e => of_eq_false (q_nem (n := t) (by omega)) e.symm
  have ec : fd i (fun k => decide (a (25 + 13 * k + 3) = nI t)) = fd i (fun k => decide (av (25 + 13 * k + 3) = nI t)) := fd_congr (fun k hk => by rw [hg.2 (25 + 13 * k + 3) (by omega) (by omega)])
  unfold occ
  rw [ec]
  rcases fd_cases i (fun k => decide (av (25 + 13 * k + 3) = nI t)) with ⟨j, h1, h2, h3, h4⟩ | ⟨h1, h2⟩
  · rw [h4]
    exact (fd_some (by omega) (by omega)).mpr ⟨by omega, h2, h3⟩
  · rw [h2]
    refine (fd_none (by omega)).mpr (fun k hk => ?_)
    by_cases ek : k = i
    · subst ek; exact decide_eq_false ne
    · exact h1 k (by omega)
theorem r_set3 {i : Nat} (hi : i < 8) (v : Int32) : f_X13_sets (nI i) (nI 3) v ρ = some (wI ρ 1 (25 + 13 * i + 3) v) := by
  simp (maxSteps := 2000000) (disch := first | rfl | exact q_e1 _ _ _ | exact q_sr1 _ _ | omega) only [f_X13_sets, ↓q_m1, q_l0, q_l1, q_l2, q_l3, q_l4, q_l5, q_l6, q_l7, q_l8, q_l9, q_l10, q_l11, q_l12, q_l13, q_l14, q_l15, q_l16, q_l17, q_l18, q_l19, q_l20, q_l21, q_l22, q_l23, q_l24, q_l25, q_l26, q_l27, q_l28, q_l29, q_l30, q_l31, q_l32, q_l33, q_l45, q_l46, q_l48, q_l57, q_l58, q_l59, q_l60, q_l61, q_l62, q_l63, q_l64, q_l96, q_l97, q_l99, q_l122, q_l129, q_l137, q_l255, q_l256, q_l400, q_l680, q_l700, q_l959, q_l999, q_l9999, q_l10000, q_l100000, q_ltT, q_ltF, q_leT, q_leF, q_eqF, q_eqR, q_mlt, q_mle, q_nlm, q_nLm, q_nem, q_men, q_mlm, Nat.add_zero, Nat.sub_zero, q_add0, pk_rem, nI_add, pk_mul, q_sub, q_subm, q_addm, nI_clamp, q_inT, q_inF, q_sr1, q_srn, q_srw, q_srs, q_wIs, q_wIn, q_wI2, q_wJ1, q_wJs, q_wJn, q_wR1, q_wRs, q_wRn, q_wI22, q_wJ22, pk_us, pk_un, pk_uLs, pk_uLn, q_usS, q_usN, q_ups, q_upn, Bool.true_eq_false, Bool.false_eq_true, q_lt, q_o2, q_o3, q_o4, q_o5, q_bi, ↓reduceIte, q_tv0, q_tv1, q_bz, q_oRl, q_oRr, q_oXl, q_oXr]
theorem place_two {i : Nat} (h : MX B (i + 1) T μ av) (hg : AG a av) (h0 : a 0 = nI i) (hs : av (25 + 13 * i + 3) = m1) (e : ρ.1 1 = a) (o : OKS n g β τ π ρ) :
    ∃ z μ' π' τ' ρ' av', f_X9_readPlace (nI i) μ π τ β = some (z, μ', π', τ') ∧ f_X13_readsPlace (nI i) ρ = some ρ' ∧ KQ ρ ρ' ∧ (∀ x, x ≠ 25 + 13 * i + 3 → ρ'.1 1 x = a x ∧ av' x = av x) ∧ ((z = nI 1 ∧ OKS n g β τ' π' ρ' ∧ AG (ρ'.1 1) av' ∧ MX B (i + 1) T μ' av') ∨ (z = nI 0 ∧ FL π' ρ')) := by
  have w := h.2.2.1
  have h8 := w.1.1
  have t8 := w.1.2
  have hi : i < 8 := by omega
  have hN := hg.nms h
  have hT : a 1 = nI T := hg.1.symm.trans h.1.1.2.2.2
  have h3 := o.2.2.1
  obtain ⟨b, w1, w2, _, _⟩ := word_two o (w := 3) (w' := 26) (by omega) (by omega) rfl rfl
  cases b with
  | false =>
    exact ⟨nI 1, μ, π, τ, ρ, av, by simp (maxSteps := 2000000) (disch := first | rfl | exact q_e1 _ _ _ | exact q_sr1 _ _ | omega) only [f_X9_readPlace, ↓q_m1, q_l0, q_l1, q_l2, q_l3, q_l4, q_l5, q_l6, q_l7, q_l8, q_l9, q_l10, q_l11, q_l12, q_l13, q_l14, q_l15, q_l16, q_l17, q_l18, q_l19, q_l20, q_l21, q_l22, q_l23, q_l24, q_l25, q_l26, q_l27, q_l28, q_l29, q_l30, q_l31, q_l32, q_l33, q_l45, q_l46, q_l48, q_l57, q_l58, q_l59, q_l60, q_l61, q_l62, q_l63, q_l64, q_l96, q_l97, q_l99, q_l122, q_l129, q_l137, q_l255, q_l256, q_l400, q_l680, q_l700, q_l959, q_l999, q_l9999, q_l10000, q_l100000, q_ltT, q_ltF, q_leT, q_leF, q_eqF, q_eqR, q_mlt, q_mle, q_nlm, q_nLm, q_nem, q_men, q_mlm, Nat.add_zero, Nat.sub_zero, q_add0, pk_rem, nI_add, pk_mul, q_sub, q_subm, q_addm, nI_clamp, q_inT, q_inF, q_sr1, q_srn, q_srw, q_srs, q_wIs, q_wIn, q_wI2, q_wJ1, q_wJs, q_wJn, q_wR1, q_wRs, q_wRn, q_wI22, q_wJ22, pk_us, pk_un, pk_uLs, pk_uLn, q_usS, q_usN, q_ups, q_upn, Bool.true_eq_false, Bool.false_eq_true, q_lt, q_o2, q_o3, q_o4, q_o5, q_bi, ↓reduceIte, q_tv0, q_tv1, q_bz, q_oRl, q_oRr, q_oXl, q_oXr, w1], by simp (maxSteps := 2000000) (disch := first | rfl | exact q_e1 _ _ _ | exact q_sr1 _ _ | omega) only [f_X13_readsPlace, ↓q_m1, q_l0, q_l1, q_l2, q_l3, q_l4, q_l5, q_l6, q_l7, q_l8, q_l9, q_l10, q_l11, q_l12, q_l13, q_l14, q_l15, q_l16, q_l17, q_l18, q_l19, q_l20, q_l21, q_l22, q_l23, q_l24, q_l25, q_l26, q_l27, q_l28, q_l29, q_l30, q_l31, q_l32, q_l33, q_l45, q_l46, q_l48, q_l57, q_l58, q_l59, q_l60, q_l61, q_l62, q_l63, q_l64, q_l96, q_l97, q_l99, q_l122, q_l129, q_l137, q_l255, q_l256, q_l400, q_l680, q_l700, q_l959, q_l999, q_l9999, q_l10000, q_l100000, q_ltT, q_ltF, q_leT, q_leF, q_eqF, q_eqR, q_mlt, q_mle, q_nlm, q_nLm, q_nem, q_men, q_mlm, Nat.add_zero, Nat.sub_zero, q_add0, pk_rem, nI_add, pk_mul, q_sub, q_subm, q_addm, nI_clamp, q_inT, q_inF, q_sr1, q_srn, q_srw, q_srs, q_wIs, q_wIn, q_wI2, q_wJ1, q_wJs, q_wJn, q_wR1, q_wRs, q_wRn, q_wI22, q_wJ22, pk_us, pk_un, pk_uLs, pk_uLn, q_usS, q_usN, q_ups, q_upn, Bool.true_eq_false, Bool.false_eq_true, q_lt, q_o2, q_o3, q_o4, q_o5, q_bi, ↓reduceIte, q_tv0, q_tv1, q_bz, q_oRl, q_oRr, q_oXl, q_oXr, w2], KQ.rf ρ, fun x _ => ⟨congrFun e x, rfl⟩, Or.inl ⟨rfl, o, by rw [e]; exact hg, h⟩⟩
  | true =>
    obtain ⟨τ1, ρ1, g1, g2, g3, g4⟩ := o.next
    have e1 : ρ1.1 1 = a := (g4.1 1 (by omega)).trans e
    obtain ⟨v, ρ2, f1, f2, f3⟩ := see_two g3 hN hT e1
    have bad : ∀ (ρ' : OM) (π' : OM) (τ' : OM), KP ρ ρ' → FL π' ρ' → f_X9_readPlace (nI i) μ π τ β = some (nI 0, μ, π', τ') → f_X13_readsPlace (nI i) ρ = some (wI ρ' 1 (25 + 13 * i + 3) m1) → ∃ z μ' π' τ' ρ' av', f_X9_readPlace (nI i) μ π τ β = some (z, μ', π', τ') ∧ f_X13_readsPlace (nI i) ρ = some ρ' ∧ KQ ρ ρ' ∧ (∀ x, x ≠ 25 + 13 * i + 3 → ρ'.1 1 x = a x ∧ av' x = av x) ∧ ((z = nI 1 ∧ OKS n g β τ' π' ρ' ∧ AG (ρ'.1 1) av' ∧ MX B (i + 1) T μ' av') ∨ (z = nI 0 ∧ FL π' ρ')) :=
      fun ρ' π' τ' y1 y2 y3 y4 => ⟨nI 0, μ, π', τ', wI ρ' 1 (25 + 13 * i + 3) m1, av, y3, y4, y1.kq.tr (KQ.w1 _ _ _), fun x hx => ⟨by rw [q_wIs, pk_un hx, y1.1 1 (by omega), e], rfl⟩, Or.inr ⟨rfl, y2.w1 _ _⟩⟩
    rcases f3 with ⟨t, ht, rfl, f4, rfl⟩ | ⟨π', f4, f5⟩
    · have ro := r_occ (a := a) h0 (by omega) e1 (nI t)
      have so := s_holderOf h.1 h8 (nI t)
      rw [occ_ag hg hi hs (show t < 8 by omega), if_neg (of_eq_false (q_nem (by omega)))] at so
      rcases fd_cases i (fun k => decide (a (25 + 13 * k + 3) = nI t)) with ⟨j, j1, _, _, j4⟩ | ⟨j1, j2⟩
      · have ho : occ i a (nI t) = nI j := j4
        rw [ho] at ro so
        refine bad (wrf 4 ρ2) (flf 4 π τ1) τ1 (g4.p.tr (wrf_k 4 ρ2)) (wr_fl g3.2.1 4) ?_ ?_
        · simp (maxSteps := 2000000) (disch := first | rfl | exact q_e1 _ _ _ | exact q_sr1 _ _ | omega) only [f_X9_readPlace, ↓q_m1, q_l0, q_l1, q_l2, q_l3, q_l4, q_l5, q_l6, q_l7, q_l8, q_l9, q_l10, q_l11, q_l12, q_l13, q_l14, q_l15, q_l16, q_l17, q_l18, q_l19, q_l20, q_l21, q_l22, q_l23, q_l24, q_l25, q_l26, q_l27, q_l28, q_l29, q_l30, q_l31, q_l32, q_l33, q_l45, q_l46, q_l48, q_l57, q_l58, q_l59, q_l60, q_l61, q_l62, q_l63, q_l64, q_l96, q_l97, q_l99, q_l122, q_l129, q_l137, q_l255, q_l256, q_l400, q_l680, q_l700, q_l959, q_l999, q_l9999, q_l10000, q_l100000, q_ltT, q_ltF, q_leT, q_leF, q_eqF, q_eqR, q_mlt, q_mle, q_nlm, q_nLm, q_nem, q_men, q_mlm, Nat.add_zero, Nat.sub_zero, q_add0, pk_rem, nI_add, pk_mul, q_sub, q_subm, q_addm, nI_clamp, q_inT, q_inF, q_sr1, q_srn, q_srw, q_srs, q_wIs, q_wIn, q_wI2, q_wJ1, q_wJs, q_wJn, q_wR1, q_wRs, q_wRn, q_wI22, q_wJ22, pk_us, pk_un, pk_uLs, pk_uLn, q_usS, q_usN, q_ups, q_upn, Bool.true_eq_false, Bool.false_eq_true, q_lt, q_o2, q_o3, q_o4, q_o5, q_bi, ↓reduceIte, q_tv0, q_tv1, q_bz, q_oRl, q_oRr, q_oXl, q_oXr, w1, g1, f4, so, s_fail, q_bz0]
        · simp (maxSteps := 2000000) (disch := first | rfl | exact q_e1 _ _ _ | exact q_sr1 _ _ | omega) only [f_X13_readsPlace, ↓q_m1, q_l0, q_l1, q_l2, q_l3, q_l4, q_l5, q_l6, q_l7, q_l8, q_l9, q_l10, q_l11, q_l12, q_l13, q_l14, q_l15, q_l16, q_l17, q_l18, q_l19, q_l20, q_l21, q_l22, q_l23, q_l24, q_l25, q_l26, q_l27, q_l28, q_l29, q_l30, q_l31, q_l32, q_l33, q_l45, q_l46, q_l48, q_l57, q_l58, q_l59, q_l60, q_l61, q_l62, q_l63, q_l64, q_l96, q_l97, q_l99, q_l122, q_l129, q_l137, q_l255, q_l256, q_l400, q_l680, q_l700, q_l959, q_l999, q_l9999, q_l10000, q_l100000, q_ltT, q_ltF, q_leT, q_leF, q_eqF, q_eqR, q_mlt, q_mle, q_nlm, q_nLm, q_nem, q_men, q_mlm, Nat.add_zero, Nat.sub_zero, q_add0, pk_rem, nI_add, pk_mul, q_sub, q_subm, q_addm, nI_clamp, q_inT, q_inF, q_sr1, q_srn, q_srw, q_srs, q_wIs, q_wIn, q_wI2, q_wJ1, q_wJs, q_wJn, q_wR1, q_wRs, q_wRn, q_wI22, q_wJ22, pk_us, pk_un, pk_uLs, pk_uLn, q_usS, q_usN, q_ups, q_upn, Bool.true_eq_false, Bool.false_eq_true, q_lt, q_o2, q_o3, q_o4, q_o5, q_bi, ↓reduceIte, q_tv0, q_tv1, q_bz, q_oRl, q_oRr, q_oXl, q_oXr, w2, g2, f1, g3.2.2.1, ro, r_wrong g3.2.2.1, r_goesF (wrf_24 4 ρ2), wrf_24, r_set3 hi]
      · have ho : occ i a (nI t) = m1 := j2
        rw [ho] at ro so
        obtain ⟨τ2, ρ3, n1, n2, n3, n4⟩ := g3.next
        have e3 : ρ3.1 1 = a := (n4.1 1 (by omega)).trans e1
        have hx : MX B (i + 1) T (wI μ 4 i (nI t)) (upd av (25 + 13 * i + 3) (nI t)) := MX.seat h (by omega) (Or.inr ⟨t, ht, rfl⟩) (Or.inr (fun j hj hji ej => by
          have hj1 := of_decide_eq_false (j1 j (by omega))
          exact hj1 (by rw [← hg.2 (25 + 13 * j + 3) (by omega) (by omega)]; exact ej)))
        refine ⟨nI 1, wI μ 4 i (nI t), π, τ2, wI ρ3 1 (25 + 13 * i + 3) (nI t), upd av (25 + 13 * i + 3) (nI t), ?_, ?_, (g4.p.tr n4.p).kq.tr (KQ.w1 _ _ _), fun x hx => ⟨by rw [q_wIs, pk_un hx, e3], pk_un hx⟩, Or.inl ⟨rfl, n3.w1 _ _, ?_, hx⟩⟩
        · simp (maxSteps := 2000000) (disch := first | rfl | exact q_e1 _ _ _ | exact q_sr1 _ _ | omega) only [f_X9_readPlace, ↓q_m1, q_l0, q_l1, q_l2, q_l3, q_l4, q_l5, q_l6, q_l7, q_l8, q_l9, q_l10, q_l11, q_l12, q_l13, q_l14, q_l15, q_l16, q_l17, q_l18, q_l19, q_l20, q_l21, q_l22, q_l23, q_l24, q_l25, q_l26, q_l27, q_l28, q_l29, q_l30, q_l31, q_l32, q_l33, q_l45, q_l46, q_l48, q_l57, q_l58, q_l59, q_l60, q_l61, q_l62, q_l63, q_l64, q_l96, q_l97, q_l99, q_l122, q_l129, q_l137, q_l255, q_l256, q_l400, q_l680, q_l700, q_l959, q_l999, q_l9999, q_l10000, q_l100000, q_ltT, q_ltF, q_leT, q_leF, q_eqF, q_eqR, q_mlt, q_mle, q_nlm, q_nLm, q_nem, q_men, q_mlm, Nat.add_zero, Nat.sub_zero, q_add0, pk_rem, nI_add, pk_mul, q_sub, q_subm, q_addm, nI_clamp, q_inT, q_inF, q_sr1, q_srn, q_srw, q_srs, q_wIs, q_wIn, q_wI2, q_wJ1, q_wJs, q_wJn, q_wR1, q_wRs, q_wRn, q_wI22, q_wJ22, pk_us, pk_un, pk_uLs, pk_uLn, q_usS, q_usN, q_ups, q_upn, Bool.true_eq_false, Bool.false_eq_true, q_lt, q_o2, q_o3, q_o4, q_o5, q_bi, ↓reduceIte, q_tv0, q_tv1, q_bz, q_oRl, q_oRr, q_oXl, q_oXr, w1, g1, f4, so, s_seat h.1 h8 (show i < i + 1 by omega), n1]
        · simp (maxSteps := 2000000) (disch := first | rfl | exact q_e1 _ _ _ | exact q_sr1 _ _ | omega) only [f_X13_readsPlace, ↓q_m1, q_l0, q_l1, q_l2, q_l3, q_l4, q_l5, q_l6, q_l7, q_l8, q_l9, q_l10, q_l11, q_l12, q_l13, q_l14, q_l15, q_l16, q_l17, q_l18, q_l19, q_l20, q_l21, q_l22, q_l23, q_l24, q_l25, q_l26, q_l27, q_l28, q_l29, q_l30, q_l31, q_l32, q_l33, q_l45, q_l46, q_l48, q_l57, q_l58, q_l59, q_l60, q_l61, q_l62, q_l63, q_l64, q_l96, q_l97, q_l99, q_l122, q_l129, q_l137, q_l255, q_l256, q_l400, q_l680, q_l700, q_l959, q_l999, q_l9999, q_l10000, q_l100000, q_ltT, q_ltF, q_leT, q_leF, q_eqF, q_eqR, q_mlt, q_mle, q_nlm, q_nLm, q_nem, q_men, q_mlm, Nat.add_zero, Nat.sub_zero, q_add0, pk_rem, nI_add, pk_mul, q_sub, q_subm, q_addm, nI_clamp, q_inT, q_inF, q_sr1, q_srn, q_srw, q_srs, q_wIs, q_wIn, q_wI2, q_wJ1, q_wJs, q_wJn, q_wR1, q_wRs, q_wRn, q_wI22, q_wJ22, pk_us, pk_un, pk_uLs, pk_uLn, q_usS, q_usN, q_ups, q_upn, Bool.true_eq_false, Bool.false_eq_true, q_lt, q_o2, q_o3, q_o4, q_o5, q_bi, ↓reduceIte, q_tv0, q_tv1, q_bz, q_oRl, q_oRr, q_oXl, q_oXr, w2, g2, f1, g3.2.2.1, ro, r_goes g3.2.2.1 n2, n3.2.2.1, r_set3 hi]
        · rw [q_wIs, e3]; exact hg.wup _ _
    · refine bad ρ2 π' τ1 (g4.p.tr f2) f5 ?_ ?_
      · simp (maxSteps := 2000000) (disch := first | rfl | exact q_e1 _ _ _ | exact q_sr1 _ _ | omega) only [f_X9_readPlace, ↓q_m1, q_l0, q_l1, q_l2, q_l3, q_l4, q_l5, q_l6, q_l7, q_l8, q_l9, q_l10, q_l11, q_l12, q_l13, q_l14, q_l15, q_l16, q_l17, q_l18, q_l19, q_l20, q_l21, q_l22, q_l23, q_l24, q_l25, q_l26, q_l27, q_l28, q_l29, q_l30, q_l31, q_l32, q_l33, q_l45, q_l46, q_l48, q_l57, q_l58, q_l59, q_l60, q_l61, q_l62, q_l63, q_l64, q_l96, q_l97, q_l99, q_l122, q_l129, q_l137, q_l255, q_l256, q_l400, q_l680, q_l700, q_l959, q_l999, q_l9999, q_l10000, q_l100000, q_ltT, q_ltF, q_leT, q_leF, q_eqF, q_eqR, q_mlt, q_mle, q_nlm, q_nLm, q_nem, q_men, q_mlm, Nat.add_zero, Nat.sub_zero, q_add0, pk_rem, nI_add, pk_mul, q_sub, q_subm, q_addm, nI_clamp, q_inT, q_inF, q_sr1, q_srn, q_srw, q_srs, q_wIs, q_wIn, q_wI2, q_wJ1, q_wJs, q_wJn, q_wR1, q_wRs, q_wRn, q_wI22, q_wJ22, pk_us, pk_un, pk_uLs, pk_uLn, q_usS, q_usN, q_ups, q_upn, Bool.true_eq_false, Bool.false_eq_true, q_lt, q_o2, q_o3, q_o4, q_o5, q_bi, ↓reduceIte, q_tv0, q_tv1, q_bz, q_oRl, q_oRr, q_oXl, q_oXr, w1, g1, f4]
      · simp (maxSteps := 2000000) (disch := first | rfl | exact q_e1 _ _ _ | exact q_sr1 _ _ | omega) only [f_X13_readsPlace, ↓q_m1, q_l0, q_l1, q_l2, q_l3, q_l4, q_l5, q_l6, q_l7, q_l8, q_l9, q_l10, q_l11, q_l12, q_l13, q_l14, q_l15, q_l16, q_l17, q_l18, q_l19, q_l20, q_l21, q_l22, q_l23, q_l24, q_l25, q_l26, q_l27, q_l28, q_l29, q_l30, q_l31, q_l32, q_l33, q_l45, q_l46, q_l48, q_l57, q_l58, q_l59, q_l60, q_l61, q_l62, q_l63, q_l64, q_l96, q_l97, q_l99, q_l122, q_l129, q_l137, q_l255, q_l256, q_l400, q_l680, q_l700, q_l959, q_l999, q_l9999, q_l10000, q_l100000, q_ltT, q_ltF, q_leT, q_leF, q_eqF, q_eqR, q_mlt, q_mle, q_nlm, q_nLm, q_nem, q_men, q_mlm, Nat.add_zero, Nat.sub_zero, q_add0, pk_rem, nI_add, pk_mul, q_sub, q_subm, q_addm, nI_clamp, q_inT, q_inF, q_sr1, q_srn, q_srw, q_srs, q_wIs, q_wIn, q_wI2, q_wJ1, q_wJs, q_wJn, q_wR1, q_wRs, q_wRn, q_wI22, q_wJ22, pk_us, pk_un, pk_uLs, pk_uLn, q_usS, q_usN, q_ups, q_upn, Bool.true_eq_false, Bool.false_eq_true, q_lt, q_o2, q_o3, q_o4, q_o5, q_bi, ↓reduceIte, q_tv0, q_tv1, q_bz, q_oRl, q_oRr, q_oXl, q_oXr, w2, g2, f1, f5.1, r_goesF f5.1, r_set3 hi]
end LPL

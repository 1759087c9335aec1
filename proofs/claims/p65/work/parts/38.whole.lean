/-! the whole mechanism on both sides -/
section WHO
variable {S T : Nat} {μ α ω : OM} {a : Nat → Int32} {fin tk : Nat → Bool} {rq : Nat → Int32} {tm : Nat → Nat} {τ : Nat}
def pos (μ : OM) (x : Nat) : Nat := (μ.1 5 x).toNatClampNeg
theorem ordl_pw (h : MR S T μ a) (h8 : S ≤ 8) : (ordl S a).Pairwise (fun x y => pos μ x < pos μ y) := by
  unfold ordl
  rw [List.pairwise_map]
  refine List.Pairwise.imp_of_mem (fun {u v} hu hv huv => ?_) (List.pairwise_lt_range (n := S))
  have hu' := List.mem_range.mp hu
  have hv' := List.mem_range.mp hv
  unfold pos
  rw [(h.ordk h8 hu').2.2, (h.ordk h8 hv').2.2, nI_clamp (by omega), nI_clamp (by omega)]
  exact huv
theorem ordl_nd (h : MR S T μ a) (h8 : S ≤ 8) : (ordl S a).Nodup :=
  (ordl_pw h h8).imp (fun {x y} hxy (e : x = y) => by subst e; omega)
theorem ordl_mem (h : MR S T μ a) (h8 : S ≤ 8) {i : Nat} : i ∈ ordl S a ↔ i < S := by
  unfold ordl
  rw [List.mem_map]
  constructor
  · rintro ⟨k, hk, rfl⟩
    exact (h.ordk h8 (List.mem_range.mp hk)).1
  · intro hi
    obtain ⟨k, k1, k2, k3⟩ := h.2.2.2.2.2.2.2.1 i hi
    exact ⟨k, List.mem_range.mpr k1, by rw [oi, k3]; exact nI_clamp (by omega)⟩
theorem nxt_first (h : MR S T μ a) (h8 : S ≤ 8) {x : Nat} {R : List Nat} (hs : Sm S T a [] (x :: R) fin tk rq tm τ) : nxt S a fin = nI x := by
  obtain ⟨s1, s2, s3, _⟩ := hs
  have hx := (s2 x).mp (by simp)
  obtain ⟨k, hk, e⟩ := List.mem_map.mp (s3.subset (List.mem_cons_self ..))
  have hkS := List.mem_range.mp hk
  have hpw := List.pairwise_cons.mp ((ordl_pw h h8).sublist s3)
  rw [nxt, fvr_at (k := k) (Nat.zero_le _) (by omega) (by rw [e, hx.2]; rfl) (fun j _ hj => ?_), e]
  cases hf : fin (oi a j) with
  | true => rfl
  | false =>
    exfalso
    obtain ⟨j1, j2, j3⟩ := h.ordk h8 (show j < S by omega)
    have k3 := (h.ordk h8 hkS).2.2
    have hm : oi a j ∈ x :: R := by simpa using (s2 (oi a j)).mpr ⟨j1, hf⟩
    have : pos μ x < pos μ (oi a j) ∨ oi a j = x := by
      rcases List.mem_cons.mp hm with q | q
      · exact Or.inr q
      · exact Or.inl (hpw.1 _ q)
    have e1 : pos μ (oi a j) = j := by unfold pos; rw [j3]; exact nI_clamp (by omega)
    have e2 : pos μ x = k := by unfold pos; rw [← e, k3]; exact nI_clamp (by omega)
    rcases this with q | q
    · omega
    · rw [q] at e1; omega
theorem run_two (h : MR S T μ a) (w : WL S T a) (d : WD S a) : ∀ (r x m n : Nat) (C R : List Nat) (α ω : OM) (fin tk : Nat → Bool) (rq : Nat → Int32) (tm : Nat → Nat) (τ : Nat), x + r = 16 → r < m → r < n → C.length + 2 * R.length ≤ r → Mm S T a α ω C R fin tk rq → Sm S T a C R fin tk rq tm τ → ∃ (α' ω' : OM) (fin' tk' : Nat → Bool) (rq' : Nat → Int32) (tm' : Nat → Nat) (τ' : Nat), f_X1_decide_56 μ m (nI x) α = some α' ∧ f_X13_mechanism_73 n ω = some ω' ∧ Mm S T a α' ω' [] [] fin' tk' rq' ∧ Sm S T a [] [] fin' tk' rq' tm' τ' ∧ KW ω ω' := by
  intro r
  have h8 := w.1.1
  induction r with
  | zero =>
    intro x m n C R α ω fin tk rq tm τ hx hm hn hl Hm Hs
    have eC : C = [] := List.eq_nil_of_length_eq_zero (by omega)
    have eR : R = [] := List.eq_nil_of_length_eq_zero (by omega)
    subst eC; subst eR
    obtain ⟨m, rfl⟩ : ∃ q, m = q + 1 := ⟨m - 1, by omega⟩
    obtain ⟨n, rfl⟩ : ∃ q, n = q + 1 := ⟨n - 1, by omega⟩
    obtain rfl : x = 16 := by omega
    have e17 := Hm.2.2.2.2.1.1
    refine ⟨α, ω, fin, tk, rq, tm, τ, ?_, ?_, Hm, Hs, KW.rf ω⟩
    · simp (maxSteps := 2000000) (disch := first | rfl | exact q_e1 _ _ _ | exact q_sr1 _ _ | omega) only [f_X1_decide_56, ↓q_m1, q_l0, q_l1, q_l2, q_l3, q_l4, q_l5, q_l6, q_l7, q_l8, q_l9, q_l10, q_l11, q_l12, q_l13, q_l14, q_l15, q_l16, q_l17, q_l18, q_l19, q_l20, q_l21, q_l22, q_l23, q_l24, q_l25, q_l26, q_l27, q_l28, q_l29, q_l30, q_l31, q_l32, q_l33, q_l45, q_l46, q_l48, q_l57, q_l58, q_l59, q_l60, q_l61, q_l62, q_l63, q_l64, q_l96, q_l97, q_l99, q_l122, q_l129, q_l137, q_l255, q_l256, q_l400, q_l680, q_l700, q_l959, q_l999, q_l9999, q_l10000, q_l100000, q_l36, q_l50, q_l100, q_l112, q_l200, q_ltT, q_ltF, q_leT, q_leF, q_eqF, q_eqR, q_mlt, q_mle, q_nlm, q_nLm, q_nem, q_men, q_mlm, Nat.add_zero, Nat.sub_zero, q_add0, pk_rem, nI_add, pk_mul, q_sub, q_subm, q_addm, nI_clamp, q_inT, q_inF, q_sr1, q_srn, q_srw, q_srs, q_wIs, q_wIn, q_wI2, q_wJ1, q_wJs, q_wJn, q_wR1, q_wRs, q_wRn, q_wI22, q_wJ22, pk_us, pk_un, pk_uLs, pk_uLn, q_usS, q_usN, q_ups, q_upn, Bool.true_eq_false, Bool.false_eq_true, q_lt, q_o2, q_o3, q_o4, q_o5, q_bi, ↓reduceIte, q_tv0, q_tv1, q_bz, q_oRl, q_oRr, q_oXl, q_oXr]
    · have e17' : ω.1 0 17 = nI 0 := e17
      simp (maxSteps := 2000000) (disch := first | rfl | exact q_e1 _ _ _ | exact q_sr1 _ _ | omega) only [f_X13_mechanism_73, ↓q_m1, q_l0, q_l1, q_l2, q_l3, q_l4, q_l5, q_l6, q_l7, q_l8, q_l9, q_l10, q_l11, q_l12, q_l13, q_l14, q_l15, q_l16, q_l17, q_l18, q_l19, q_l20, q_l21, q_l22, q_l23, q_l24, q_l25, q_l26, q_l27, q_l28, q_l29, q_l30, q_l31, q_l32, q_l33, q_l45, q_l46, q_l48, q_l57, q_l58, q_l59, q_l60, q_l61, q_l62, q_l63, q_l64, q_l96, q_l97, q_l99, q_l122, q_l129, q_l137, q_l255, q_l256, q_l400, q_l680, q_l700, q_l959, q_l999, q_l9999, q_l10000, q_l100000, q_l36, q_l50, q_l100, q_l112, q_l200, q_ltT, q_ltF, q_leT, q_leF, q_eqF, q_eqR, q_mlt, q_mle, q_nlm, q_nLm, q_nem, q_men, q_mlm, Nat.add_zero, Nat.sub_zero, q_add0, pk_rem, nI_add, pk_mul, q_sub, q_subm, q_addm, nI_clamp, q_inT, q_inF, q_sr1, q_srn, q_srw, q_srs, q_wIs, q_wIn, q_wI2, q_wJ1, q_wJs, q_wJn, q_wR1, q_wRs, q_wRn, q_wI22, q_wJ22, pk_us, pk_un, pk_uLs, pk_uLn, q_usS, q_usN, q_ups, q_upn, Bool.true_eq_false, Bool.false_eq_true, q_lt, q_o2, q_o3, q_o4, q_o5, q_bi, ↓reduceIte, q_tv0, q_tv1, q_bz, q_oRl, q_oRr, q_oXl, q_oXr, e17']
  | succ r ih =>
    intro x m n C R α ω fin tk rq tm τ hx hm hn hl Hm Hs
    obtain ⟨m, rfl⟩ : ∃ q, m = q + 1 := ⟨m - 1, by omega⟩
    obtain ⟨n, rfl⟩ : ∃ q, n = q + 1 := ⟨n - 1, by omega⟩
    rcases List.eq_nil_or_concat C with rfl | ⟨P, y, rfl⟩
    · rcases R with _ | ⟨y, R⟩
      · have e17 : ω.1 0 17 = nI 0 := Hm.2.2.2.2.1.1
        have e04 : α.1 0 4 = nI 0 := Hm.1.1
        have hnx : f_X1_nextInTurn μ α = some m1 := by
          rw [s_next h h8 Hm.2.1]
          rcases nxt_c h h8 fin with ⟨q, _⟩ | ⟨i, q1, _, q3⟩
          · rw [q]
          · have := (Hs.2.1 i).mpr ⟨q1, q3⟩
            simp at this
        refine ⟨α, ω, fin, tk, rq, tm, τ, idle hnx e04 (r + 1) x (m + 1) (by omega) (by omega), ?_, Hm, Hs, KW.rf ω⟩
        simp (maxSteps := 2000000) (disch := first | rfl | exact q_e1 _ _ _ | exact q_sr1 _ _ | omega) only [f_X13_mechanism_73, ↓q_m1, q_l0, q_l1, q_l2, q_l3, q_l4, q_l5, q_l6, q_l7, q_l8, q_l9, q_l10, q_l11, q_l12, q_l13, q_l14, q_l15, q_l16, q_l17, q_l18, q_l19, q_l20, q_l21, q_l22, q_l23, q_l24, q_l25, q_l26, q_l27, q_l28, q_l29, q_l30, q_l31, q_l32, q_l33, q_l45, q_l46, q_l48, q_l57, q_l58, q_l59, q_l60, q_l61, q_l62, q_l63, q_l64, q_l96, q_l97, q_l99, q_l122, q_l129, q_l137, q_l255, q_l256, q_l400, q_l680, q_l700, q_l959, q_l999, q_l9999, q_l10000, q_l100000, q_l36, q_l50, q_l100, q_l112, q_l200, q_ltT, q_ltF, q_leT, q_leF, q_eqF, q_eqR, q_mlt, q_mle, q_nlm, q_nLm, q_nem, q_men, q_mlm, Nat.add_zero, Nat.sub_zero, q_add0, pk_rem, nI_add, pk_mul, q_sub, q_subm, q_addm, nI_clamp, q_inT, q_inF, q_sr1, q_srn, q_srw, q_srs, q_wIs, q_wIn, q_wI2, q_wJ1, q_wJs, q_wJn, q_wR1, q_wRs, q_wRn, q_wI22, q_wJ22, pk_us, pk_un, pk_uLs, pk_uLn, q_usS, q_usN, q_ups, q_upn, Bool.true_eq_false, Bool.false_eq_true, q_lt, q_o2, q_o3, q_o4, q_o5, q_bi, ↓reduceIte, q_tv0, q_tv1, q_bz, q_oRl, q_oRr, q_oXl, q_oXr, e17]
      · have e04 : α.1 0 4 = nI 0 := Hm.1.1
        have hnx : f_X1_nextInTurn μ α = some (nI y) := by rw [s_next h h8 Hm.2.1, nxt_first h h8 Hs]
        have hy := (Hs.2.1 y).mp (by simp)
        have Hm1 : Mm S T a (wI (wI α 4 0 (nI y)) 0 4 (nI 1)) ω ([] ++ [y]) R fin tk rq := by
          obtain ⟨⟨m1', m2⟩, m3, m4, m5, m6, m7, m8, m9, m10, m11⟩ := Hm
          refine ⟨⟨by rw [q_wIs, pk_us]; rfl, fun k z hk => ?_⟩, fun i hi => ?_, fun t ht => ?_, fun i hi => ?_, m6, m7, m8, fun i hi => m9 i (List.mem_cons_of_mem _ hi), fun k u z hu hz => ?_, m11⟩
          · have hk1 : k < 1 := (List.getElem?_eq_some_iff.mp hk).1
            obtain rfl : k = 0 := by omega
            obtain rfl : y = z := Option.some.inj hk
            rw [q_wIn (by omega), q_wIs, pk_us]
          · rw [q_wIn (by omega), q_wIn (by omega)]; exact m3 i hi
          · rw [q_wIn (by omega), q_wIn (by omega)]; exact m4 t ht
          · rw [q_wIn (by omega), q_wIn (by omega)]; exact m5 i hi
          · have : k + 1 < 1 := (List.getElem?_eq_some_iff.mp hz).1
            omega
        have Hs1 : Sm S T a ([] ++ [y]) R fin tk rq tm τ := Hs.start
        obtain ⟨α', ω', C', R', fin', tk', rq', tm', g1, g2, g3, g4, g5, g6⟩ := step_two h w d Hm1 Hs1
        simp only [List.length_append, List.length_cons, List.length_nil] at g6 hl
        obtain ⟨α2, ω2, fin2, tk2, rq2, tm2, τ2, k1, k2, k3, k4, k5⟩ := ih (x + 1) m n C' R' α' ω' fin' tk' rq' tm' (τ + 1) (by omega) (by omega) (by omega) (by omega) g3 g4
        refine ⟨α2, ω2, fin2, tk2, rq2, tm2, τ2, ?_, by rw [g2, k2], k3, k4, g5.tr k5⟩
        simp (maxSteps := 2000000) (disch := first | rfl | exact q_e1 _ _ _ | exact q_sr1 _ _ | omega) only [f_X1_decide_56, f_X1_append, ↓q_m1, q_l0, q_l1, q_l2, q_l3, q_l4, q_l5, q_l6, q_l7, q_l8, q_l9, q_l10, q_l11, q_l12, q_l13, q_l14, q_l15, q_l16, q_l17, q_l18, q_l19, q_l20, q_l21, q_l22, q_l23, q_l24, q_l25, q_l26, q_l27, q_l28, q_l29, q_l30, q_l31, q_l32, q_l33, q_l45, q_l46, q_l48, q_l57, q_l58, q_l59, q_l60, q_l61, q_l62, q_l63, q_l64, q_l96, q_l97, q_l99, q_l122, q_l129, q_l137, q_l255, q_l256, q_l400, q_l680, q_l700, q_l959, q_l999, q_l9999, q_l10000, q_l100000, q_l36, q_l50, q_l100, q_l112, q_l200, q_ltT, q_ltF, q_leT, q_leF, q_eqF, q_eqR, q_mlt, q_mle, q_nlm, q_nLm, q_nem, q_men, q_mlm, Nat.add_zero, Nat.sub_zero, q_add0, pk_rem, nI_add, pk_mul, q_sub, q_subm, q_addm, nI_clamp, q_inT, q_inF, q_sr1, q_srn, q_srw, q_srs, q_wIs, q_wIn, q_wI2, q_wJ1, q_wJs, q_wJn, q_wR1, q_wRs, q_wRn, q_wI22, q_wJ22, pk_us, pk_un, pk_uLs, pk_uLn, q_usS, q_usN, q_ups, q_upn, Bool.true_eq_false, Bool.false_eq_true, q_lt, q_o2, q_o3, q_o4, q_o5, q_bi, ↓reduceIte, q_tv0, q_tv1, q_bz, q_oRl, q_oRr, q_oXl, q_oXr, e04, hnx, g1, k1]
    · have eP : P.concat y = P ++ [y] := List.concat_eq_append
      rw [eP] at Hm Hs hl
      obtain ⟨α', ω', C', R', fin', tk', rq', tm', g1, g2, g3, g4, g5, g6⟩ := step_two h w d Hm Hs
      have hlen : (P ++ [y]).length = P.length + 1 := by simp
      obtain ⟨α2, ω2, fin2, tk2, rq2, tm2, τ2, k1, k2, k3, k4, k5⟩ := ih (x + 1) m n C' R' α' ω' fin' tk' rq' tm' (τ + 1) (by omega) (by omega) (by omega) (by omega) g3 g4
      have e04 : α.1 0 4 = nI (P.length + 1) := Hm.1.1.trans (by rw [hlen])
      have e4 : α.1 4 P.length = nI y := Hm.1.2 P.length y (by rw [List.getElem?_append_right (Nat.le_refl _), Nat.sub_self]; rfl)
      have hl8 := Hm.2.2.2.2.1.2.1
      rw [List.length_append, List.length_reverse, hlen] at hl8
      refine ⟨α2, ω2, fin2, tk2, rq2, tm2, τ2, ?_, by rw [g2, k2], k3, k4, g5.tr k5⟩
      simp (maxSteps := 2000000) (disch := first | rfl | exact q_e1 _ _ _ | exact q_sr1 _ _ | omega) only [f_X1_decide_56, ↓q_m1, q_l0, q_l1, q_l2, q_l3, q_l4, q_l5, q_l6, q_l7, q_l8, q_l9, q_l10, q_l11, q_l12, q_l13, q_l14, q_l15, q_l16, q_l17, q_l18, q_l19, q_l20, q_l21, q_l22, q_l23, q_l24, q_l25, q_l26, q_l27, q_l28, q_l29, q_l30, q_l31, q_l32, q_l33, q_l45, q_l46, q_l48, q_l57, q_l58, q_l59, q_l60, q_l61, q_l62, q_l63, q_l64, q_l96, q_l97, q_l99, q_l122, q_l129, q_l137, q_l255, q_l256, q_l400, q_l680, q_l700, q_l959, q_l999, q_l9999, q_l10000, q_l100000, q_l36, q_l50, q_l100, q_l112, q_l200, q_ltT, q_ltF, q_leT, q_leF, q_eqF, q_eqR, q_mlt, q_mle, q_nlm, q_nLm, q_nem, q_men, q_mlm, Nat.add_zero, Nat.sub_zero, q_add0, pk_rem, nI_add, pk_mul, q_sub, q_subm, q_addm, nI_clamp, q_inT, q_inF, q_sr1, q_srn, q_srw, q_srs, q_wIs, q_wIn, q_wI2, q_wJ1, q_wJs, q_wJn, q_wR1, q_wRs, q_wRn, q_wI22, q_wJ22, pk_us, pk_un, pk_uLs, pk_uLn, q_usS, q_usN, q_ups, q_upn, Bool.true_eq_false, Bool.false_eq_true, q_lt, q_o2, q_o3, q_o4, q_o5, q_bi, ↓reduceIte, q_tv0, q_tv1, q_bz, q_oRl, q_oRr, q_oXl, q_oXr, e04, Nat.add_sub_cancel, e4, g1, k1]
theorem d7 (α : OM) : ∃ α', f_X1_decide_7 FU (nI 0) α = some α' ∧ (∀ k, k ≠ 1 → k ≠ 2 → α'.1 k = α.1 k) ∧ ∀ i, i < 8 → α'.1 1 i = m1 ∧ α'.1 2 i = nI 0 := by
  obtain ⟨b, h1, h2⟩ := lp_inv (F := fun n x α => f_X1_decide_7 n x α) (fun i s => (∀ k, k ≠ 1 → k ≠ 2 → s.1 k = α.1 k) ∧ ∀ j, j < i → s.1 1 j = m1 ∧ s.1 2 j = nI 0) (fun s => (∀ k, k ≠ 1 → k ≠ 2 → s.1 k = α.1 k) ∧ ∀ j, j < 8 → s.1 1 j = m1 ∧ s.1 2 j = nI 0) 8 (fun n i s hi hh => by
    refine ⟨wI (wI s 1 i m1) 2 i (nI 0), ⟨fun k h1 h2 => by rw [q_wIn h2, q_wIn h1]; exact hh.1 k h1 h2, fun j hj => ?_⟩, by simp (maxSteps := 2000000) (disch := first | rfl | exact q_e1 _ _ _ | exact q_sr1 _ _ | omega) only [f_X1_decide_7, ↓q_m1, q_l0, q_l1, q_l2, q_l3, q_l4, q_l5, q_l6, q_l7, q_l8, q_l9, q_l10, q_l11, q_l12, q_l13, q_l14, q_l15, q_l16, q_l17, q_l18, q_l19, q_l20, q_l21, q_l22, q_l23, q_l24, q_l25, q_l26, q_l27, q_l28, q_l29, q_l30, q_l31, q_l32, q_l33, q_l45, q_l46, q_l48, q_l57, q_l58, q_l59, q_l60, q_l61, q_l62, q_l63, q_l64, q_l96, q_l97, q_l99, q_l122, q_l129, q_l137, q_l255, q_l256, q_l400, q_l680, q_l700, q_l959, q_l999, q_l9999, q_l10000, q_l100000, q_l36, q_l50, q_l100, q_l112, q_l200, q_ltT, q_ltF, q_leT, q_leF, q_eqF, q_eqR, q_mlt, q_mle, q_nlm, q_nLm, q_nem, q_men, q_mlm, Nat.add_zero, Nat.sub_zero, q_add0, pk_rem, nI_add, pk_mul, q_sub, q_subm, q_addm, nI_clamp, q_inT, q_inF, q_sr1, q_srn, q_srw, q_srs, q_wIs, q_wIn, q_wI2, q_wJ1, q_wJs, q_wJn, q_wR1, q_wRs, q_wRn, q_wI22, q_wJ22, pk_us, pk_un, pk_uLs, pk_uLn, q_usS, q_usN, q_ups, q_upn, Bool.true_eq_false, Bool.false_eq_true, q_lt, q_o2, q_o3, q_o4, q_o5, q_bi, ↓reduceIte, q_tv0, q_tv1, q_bz, q_oRl, q_oRr, q_oXl, q_oXr]⟩
    rw [q_wIn (show 1 ≠ 2 by omega), q_wIs, q_wIs]
    by_cases e : j = i
    · subst e; exact ⟨pk_us, pk_us⟩
    · rw [pk_un e, pk_un e, q_wIn (by omega)]; exact hh.2 j (by omega)) (fun n s hh => ⟨s, by simp (maxSteps := 2000000) (disch := first | rfl | exact q_e1 _ _ _ | exact q_sr1 _ _ | omega) only [f_X1_decide_7, ↓q_m1, q_l0, q_l1, q_l2, q_l3, q_l4, q_l5, q_l6, q_l7, q_l8, q_l9, q_l10, q_l11, q_l12, q_l13, q_l14, q_l15, q_l16, q_l17, q_l18, q_l19, q_l20, q_l21, q_l22, q_l23, q_l24, q_l25, q_l26, q_l27, q_l28, q_l29, q_l30, q_l31, q_l32, q_l33, q_l45, q_l46, q_l48, q_l57, q_l58, q_l59, q_l60, q_l61, q_l62, q_l63, q_l64, q_l96, q_l97, q_l99, q_l122, q_l129, q_l137, q_l255, q_l256, q_l400, q_l680, q_l700, q_l959, q_l999, q_l9999, q_l10000, q_l100000, q_l36, q_l50, q_l100, q_l112, q_l200, q_ltT, q_ltF, q_leT, q_leF, q_eqF, q_eqR, q_mlt, q_mle, q_nlm, q_nLm, q_nem, q_men, q_mlm, Nat.add_zero, Nat.sub_zero, q_add0, pk_rem, nI_add, pk_mul, q_sub, q_subm, q_addm, nI_clamp, q_inT, q_inF, q_sr1, q_srn, q_srw, q_srs, q_wIs, q_wIn, q_wI2, q_wJ1, q_wJs, q_wJn, q_wR1, q_wRs, q_wRn, q_wI22, q_wJ22, pk_us, pk_un, pk_uLs, pk_uLn, q_usS, q_usN, q_ups, q_upn, Bool.true_eq_false, Bool.false_eq_true, q_lt, q_o2, q_o3, q_o4, q_o5, q_bi, ↓reduceIte, q_tv0, q_tv1, q_bz, q_oRl, q_oRr, q_oXl, q_oXr], hh⟩) (fu_lt (show 8 < 2000 by omega)) (s := α) (i0 := 0) ⟨fun _ _ _ => rfl, fun j hj => by omega⟩
  exact ⟨b, h1, h2⟩
theorem d35 (α : OM) : ∃ α', f_X1_decide_35 FU (nI 0) α = some α' ∧ (∀ k, k ≠ 3 → α'.1 k = α.1 k) ∧ ∀ i, i < 8 → α'.1 3 i = nI 0 := by
  obtain ⟨b, h1, h2⟩ := lp_inv (F := fun n x α => f_X1_decide_35 n x α) (fun i s => (∀ k, k ≠ 3 → s.1 k = α.1 k) ∧ ∀ j, j < i → s.1 3 j = nI 0) (fun s => (∀ k, k ≠ 3 → s.1 k = α.1 k) ∧ ∀ j, j < 8 → s.1 3 j = nI 0) 8 (fun n i s hi hh => by
    refine ⟨wI s 3 i (nI 0), ⟨fun k h1 => by rw [q_wIn h1]; exact hh.1 k h1, fun j hj => ?_⟩, by simp (maxSteps := 2000000) (disch := first | rfl | exact q_e1 _ _ _ | exact q_sr1 _ _ | omega) only [f_X1_decide_35, ↓q_m1, q_l0, q_l1, q_l2, q_l3, q_l4, q_l5, q_l6, q_l7, q_l8, q_l9, q_l10, q_l11, q_l12, q_l13, q_l14, q_l15, q_l16, q_l17, q_l18, q_l19, q_l20, q_l21, q_l22, q_l23, q_l24, q_l25, q_l26, q_l27, q_l28, q_l29, q_l30, q_l31, q_l32, q_l33, q_l45, q_l46, q_l48, q_l57, q_l58, q_l59, q_l60, q_l61, q_l62, q_l63, q_l64, q_l96, q_l97, q_l99, q_l122, q_l129, q_l137, q_l255, q_l256, q_l400, q_l680, q_l700, q_l959, q_l999, q_l9999, q_l10000, q_l100000, q_l36, q_l50, q_l100, q_l112, q_l200, q_ltT, q_ltF, q_leT, q_leF, q_eqF, q_eqR, q_mlt, q_mle, q_nlm, q_nLm, q_nem, q_men, q_mlm, Nat.add_zero, Nat.sub_zero, q_add0, pk_rem, nI_add, pk_mul, q_sub, q_subm, q_addm, nI_clamp, q_inT, q_inF, q_sr1, q_srn, q_srw, q_srs, q_wIs, q_wIn, q_wI2, q_wJ1, q_wJs, q_wJn, q_wR1, q_wRs, q_wRn, q_wI22, q_wJ22, pk_us, pk_un, pk_uLs, pk_uLn, q_usS, q_usN, q_ups, q_upn, Bool.true_eq_false, Bool.false_eq_true, q_lt, q_o2, q_o3, q_o4, q_o5, q_bi, ↓reduceIte, q_tv0, q_tv1, q_bz, q_oRl, q_oRr, q_oXl, q_oXr]⟩
    rw [q_wIs]
    by_cases e : j = i
    · subst e; exact pk_us
    · rw [pk_un e]; exact hh.2 j (by omega)) (fun n s hh => ⟨s, by simp (maxSteps := 2000000) (disch := first | rfl | exact q_e1 _ _ _ | exact q_sr1 _ _ | omega) only [f_X1_decide_35, ↓q_m1, q_l0, q_l1, q_l2, q_l3, q_l4, q_l5, q_l6, q_l7, q_l8, q_l9, q_l10, q_l11, q_l12, q_l13, q_l14, q_l15, q_l16, q_l17, q_l18, q_l19, q_l20, q_l21, q_l22, q_l23, q_l24, q_l25, q_l26, q_l27, q_l28, q_l29, q_l30, q_l31, q_l32, q_l33, q_l45, q_l46, q_l48, q_l57, q_l58, q_l59, q_l60, q_l61, q_l62, q_l63, q_l64, q_l96, q_l97, q_l99, q_l122, q_l129, q_l137, q_l255, q_l256, q_l400, q_l680, q_l700, q_l959, q_l999, q_l9999, q_l10000, q_l100000, q_l36, q_l50, q_l100, q_l112, q_l200, q_ltT, q_ltF, q_leT, q_leF, q_eqF, q_eqR, q_mlt, q_mle, q_nlm, q_nLm, q_nem, q_men, q_mlm, Nat.add_zero, Nat.sub_zero, q_add0, pk_rem, nI_add, pk_mul, q_sub, q_subm, q_addm, nI_clamp, q_inT, q_inF, q_sr1, q_srn, q_srw, q_srs, q_wIs, q_wIn, q_wI2, q_wJ1, q_wJs, q_wJn, q_wR1, q_wRs, q_wRn, q_wI22, q_wJ22, pk_us, pk_un, pk_uLs, pk_uLn, q_usS, q_usN, q_ups, q_upn, Bool.true_eq_false, Bool.false_eq_true, q_lt, q_o2, q_o3, q_o4, q_o5, q_bi, ↓reduceIte, q_tv0, q_tv1, q_bz, q_oRl, q_oRr, q_oXl, q_oXr], hh⟩) (fu_lt (show 8 < 2000 by omega)) (s := α) (i0 := 0) ⟨fun _ _ => rfl, fun j hj => by omega⟩
  exact ⟨b, h1, h2⟩
theorem m10l (h8 : S ≤ 8) (ω : OM) (e15 : ω.1 0 15 = nI S) : ∃ ω', f_X13_mechanism_10 FU (nI 0) ω = some ω' ∧ (∀ k, k ≠ 8 → k ≠ 9 → k ≠ 10 → ω'.1 k = ω.1 k) ∧ ∀ i, i < S → ω'.1 8 i = ω.1 7 i ∧ ω'.1 9 i = m1 ∧ ω'.1 10 i = m1 := by
  obtain ⟨b, h1, h2⟩ := lp_inv (F := fun n x α => f_X13_mechanism_10 n x α) (fun i s => (∀ k, k ≠ 8 → k ≠ 9 → k ≠ 10 → s.1 k = ω.1 k) ∧ ∀ j, j < i → s.1 8 j = ω.1 7 j ∧ s.1 9 j = m1 ∧ s.1 10 j = m1) (fun s => (∀ k, k ≠ 8 → k ≠ 9 → k ≠ 10 → s.1 k = ω.1 k) ∧ ∀ j, j < S → s.1 8 j = ω.1 7 j ∧ s.1 9 j = m1 ∧ s.1 10 j = m1) S (fun n i s hi hh => by
    have e := congrFun (hh.1 0 (by omega) (by omega) (by omega)) 15
    rw [e15] at e
    refine ⟨wI (wI (wI s 8 i (s.1 7 i)) 9 i m1) 10 i m1, ⟨fun k h1 h2 h3 => by rw [q_wIn h3, q_wIn h2, q_wIn h1]; exact hh.1 k h1 h2 h3, fun j hj => ?_⟩, by simp (maxSteps := 2000000) (disch := first | rfl | exact q_e1 _ _ _ | exact q_sr1 _ _ | omega) only [f_X13_mechanism_10, ↓q_m1, q_l0, q_l1, q_l2, q_l3, q_l4, q_l5, q_l6, q_l7, q_l8, q_l9, q_l10, q_l11, q_l12, q_l13, q_l14, q_l15, q_l16, q_l17, q_l18, q_l19, q_l20, q_l21, q_l22, q_l23, q_l24, q_l25, q_l26, q_l27, q_l28, q_l29, q_l30, q_l31, q_l32, q_l33, q_l45, q_l46, q_l48, q_l57, q_l58, q_l59, q_l60, q_l61, q_l62, q_l63, q_l64, q_l96, q_l97, q_l99, q_l122, q_l129, q_l137, q_l255, q_l256, q_l400, q_l680, q_l700, q_l959, q_l999, q_l9999, q_l10000, q_l100000, q_l36, q_l50, q_l100, q_l112, q_l200, q_ltT, q_ltF, q_leT, q_leF, q_eqF, q_eqR, q_mlt, q_mle, q_nlm, q_nLm, q_nem, q_men, q_mlm, Nat.add_zero, Nat.sub_zero, q_add0, pk_rem, nI_add, pk_mul, q_sub, q_subm, q_addm, nI_clamp, q_inT, q_inF, q_sr1, q_srn, q_srw, q_srs, q_wIs, q_wIn, q_wI2, q_wJ1, q_wJs, q_wJn, q_wR1, q_wRs, q_wRn, q_wI22, q_wJ22, pk_us, pk_un, pk_uLs, pk_uLn, q_usS, q_usN, q_ups, q_upn, Bool.true_eq_false, Bool.false_eq_true, q_lt, q_o2, q_o3, q_o4, q_o5, q_bi, ↓reduceIte, q_tv0, q_tv1, q_bz, q_oRl, q_oRr, q_oXl, q_oXr, e]⟩
    rw [q_wIn (show 8 ≠ 10 by omega), q_wIn (show 8 ≠ 9 by omega), q_wIn (show 9 ≠ 10 by omega), q_wIs, q_wIs, q_wIs]
    by_cases e : j = i
    · subst e; rw [pk_us, pk_us, pk_us]; exact ⟨congrFun (hh.1 7 (by omega) (by omega) (by omega)) j, rfl, rfl⟩
    · rw [pk_un e, pk_un e, pk_un e, q_wIn (by omega), q_wIn (by omega), q_wIn (by omega)]; exact hh.2 j (by omega)) (fun n s hh => by
    have e := congrFun (hh.1 0 (by omega) (by omega) (by omega)) 15
    rw [e15] at e
    exact ⟨s, by simp (maxSteps := 2000000) (disch := first | rfl | exact q_e1 _ _ _ | exact q_sr1 _ _ | omega) only [f_X13_mechanism_10, ↓q_m1, q_l0, q_l1, q_l2, q_l3, q_l4, q_l5, q_l6, q_l7, q_l8, q_l9, q_l10, q_l11, q_l12, q_l13, q_l14, q_l15, q_l16, q_l17, q_l18, q_l19, q_l20, q_l21, q_l22, q_l23, q_l24, q_l25, q_l26, q_l27, q_l28, q_l29, q_l30, q_l31, q_l32, q_l33, q_l45, q_l46, q_l48, q_l57, q_l58, q_l59, q_l60, q_l61, q_l62, q_l63, q_l64, q_l96, q_l97, q_l99, q_l122, q_l129, q_l137, q_l255, q_l256, q_l400, q_l680, q_l700, q_l959, q_l999, q_l9999, q_l10000, q_l100000, q_l36, q_l50, q_l100, q_l112, q_l200, q_ltT, q_ltF, q_leT, q_leF, q_eqF, q_eqR, q_mlt, q_mle, q_nlm, q_nLm, q_nem, q_men, q_mlm, Nat.add_zero, Nat.sub_zero, q_add0, pk_rem, nI_add, pk_mul, q_sub, q_subm, q_addm, nI_clamp, q_inT, q_inF, q_sr1, q_srn, q_srw, q_srs, q_wIs, q_wIn, q_wI2, q_wJ1, q_wJs, q_wJn, q_wR1, q_wRs, q_wRn, q_wI22, q_wJ22, pk_us, pk_un, pk_uLs, pk_uLn, q_usS, q_usN, q_ups, q_upn, Bool.true_eq_false, Bool.false_eq_true, q_lt, q_o2, q_o3, q_o4, q_o5, q_bi, ↓reduceIte, q_tv0, q_tv1, q_bz, q_oRl, q_oRr, q_oXl, q_oXr, e], hh⟩) (fu_lt (show S < 2000 by omega)) (s := ω) (i0 := 0) ⟨fun _ _ _ _ => rfl, fun j hj => by omega⟩
  exact ⟨b, h1, h2⟩
theorem m52l (t8 : T ≤ 8) (ω : OM) (e14 : ω.1 0 14 = nI T) : ∃ ω', f_X13_mechanism_52 FU (nI 0) ω = some ω' ∧ (∀ k, k ≠ 20 → ω'.1 k = ω.1 k) ∧ ∀ i, i < T → ω'.1 20 i = nI 0 := by
  obtain ⟨b, h1, h2⟩ := lp_inv (F := fun n x α => f_X13_mechanism_52 n x α) (fun i s => (∀ k, k ≠ 20 → s.1 k = ω.1 k) ∧ ∀ j, j < i → s.1 20 j = nI 0) (fun s => (∀ k, k ≠ 20 → s.1 k = ω.1 k) ∧ ∀ j, j < T → s.1 20 j = nI 0) T (fun n i s hi hh => by
    have e := congrFun (hh.1 0 (by omega)) 14
    rw [e14] at e
    refine ⟨wI s 20 i (nI 0), ⟨fun k h1 => by rw [q_wIn h1]; exact hh.1 k h1, fun j hj => ?_⟩, by simp (maxSteps := 2000000) (disch := first | rfl | exact q_e1 _ _ _ | exact q_sr1 _ _ | omega) only [f_X13_mechanism_52, ↓q_m1, q_l0, q_l1, q_l2, q_l3, q_l4, q_l5, q_l6, q_l7, q_l8, q_l9, q_l10, q_l11, q_l12, q_l13, q_l14, q_l15, q_l16, q_l17, q_l18, q_l19, q_l20, q_l21, q_l22, q_l23, q_l24, q_l25, q_l26, q_l27, q_l28, q_l29, q_l30, q_l31, q_l32, q_l33, q_l45, q_l46, q_l48, q_l57, q_l58, q_l59, q_l60, q_l61, q_l62, q_l63, q_l64, q_l96, q_l97, q_l99, q_l122, q_l129, q_l137, q_l255, q_l256, q_l400, q_l680, q_l700, q_l959, q_l999, q_l9999, q_l10000, q_l100000, q_l36, q_l50, q_l100, q_l112, q_l200, q_ltT, q_ltF, q_leT, q_leF, q_eqF, q_eqR, q_mlt, q_mle, q_nlm, q_nLm, q_nem, q_men, q_mlm, Nat.add_zero, Nat.sub_zero, q_add0, pk_rem, nI_add, pk_mul, q_sub, q_subm, q_addm, nI_clamp, q_inT, q_inF, q_sr1, q_srn, q_srw, q_srs, q_wIs, q_wIn, q_wI2, q_wJ1, q_wJs, q_wJn, q_wR1, q_wRs, q_wRn, q_wI22, q_wJ22, pk_us, pk_un, pk_uLs, pk_uLn, q_usS, q_usN, q_ups, q_upn, Bool.true_eq_false, Bool.false_eq_true, q_lt, q_o2, q_o3, q_o4, q_o5, q_bi, ↓reduceIte, q_tv0, q_tv1, q_bz, q_oRl, q_oRr, q_oXl, q_oXr, e]⟩
    rw [q_wIs]
    by_cases e : j = i
    · subst e; exact pk_us
    · rw [pk_un e]; exact hh.2 j (by omega)) (fun n s hh => by
    have e := congrFun (hh.1 0 (by omega)) 14
    rw [e14] at e
    exact ⟨s, by simp (maxSteps := 2000000) (disch := first | rfl | exact q_e1 _ _ _ | exact q_sr1 _ _ | omega) only [f_X13_mechanism_52, ↓q_m1, q_l0, q_l1, q_l2, q_l3, q_l4, q_l5, q_l6, q_l7, q_l8, q_l9, q_l10, q_l11, q_l12, q_l13, q_l14, q_l15, q_l16, q_l17, q_l18, q_l19, q_l20, q_l21, q_l22, q_l23, q_l24, q_l25, q_l26, q_l27, q_l28, q_l29, q_l30, q_l31, q_l32, q_l33, q_l45, q_l46, q_l48, q_l57, q_l58, q_l59, q_l60, q_l61, q_l62, q_l63, q_l64, q_l96, q_l97, q_l99, q_l122, q_l129, q_l137, q_l255, q_l256, q_l400, q_l680, q_l700, q_l959, q_l999, q_l9999, q_l10000, q_l100000, q_l36, q_l50, q_l100, q_l112, q_l200, q_ltT, q_ltF, q_leT, q_leF, q_eqF, q_eqR, q_mlt, q_mle, q_nlm, q_nLm, q_nem, q_men, q_mlm, Nat.add_zero, Nat.sub_zero, q_add0, pk_rem, nI_add, pk_mul, q_sub, q_subm, q_addm, nI_clamp, q_inT, q_inF, q_sr1, q_srn, q_srw, q_srs, q_wIs, q_wIn, q_wI2, q_wJ1, q_wJs, q_wJn, q_wR1, q_wRs, q_wRn, q_wI22, q_wJ22, pk_us, pk_un, pk_uLs, pk_uLn, q_usS, q_usN, q_ups, q_upn, Bool.true_eq_false, Bool.false_eq_true, q_lt, q_o2, q_o3, q_o4, q_o5, q_bi, ↓reduceIte, q_tv0, q_tv1, q_bz, q_oRl, q_oRr, q_oXl, q_oXr, e], hh⟩) (fu_lt (show T < 2000 by omega)) (s := ω) (i0 := 0) ⟨fun _ _ => rfl, fun j hj => by omega⟩
  exact ⟨b, h1, h2⟩
theorem mech_two (h : MR S T μ a) (w : WL S T a) (d : WD S a) (o : OW S T ω a) : ∃ (α' ω' : OM) (fin' tk' : Nat → Bool) (rq' : Nat → Int32) (tm' : Nat → Nat) (τ' : Nat), f_X1_decide μ α = some α' ∧ f_X13_mechanism ω = some ω' ∧ Mm S T a α' ω' [] [] fin' tk' rq' ∧ Sm S T a [] [] fin' tk' rq' tm' τ' ∧ KW ω ω' := by
  have h8 := w.1.1
  have t8 := w.1.2
  obtain ⟨α1, a1, a2, a3⟩ := d7 (wI α 0 4 (nI 0))
  obtain ⟨α2, a4, a5, a6⟩ := d35 α1
  have e15 : (wI ω 0 17 (nI S)).1 0 15 = nI S := by rw [q_wIs, pk_un (by omega)]; exact o.1.1
  obtain ⟨ω1, b1, b2, b3⟩ := m10l h8 (wI ω 0 17 (nI S)) e15
  have e14 : ω1.1 0 14 = nI T := by rw [b2 0 (by omega) (by omega) (by omega), q_wIs, pk_un (by omega)]; exact o.1.2.1
  obtain ⟨ω2, b4, b5, b6⟩ := m52l t8 ω1 e14
  have kw : KW ω ω2 := ⟨fun k h0 h8 h9 h10 h20 => by rw [b5 k h20, b2 k h8 h9 h10, q_wIn h0], fun j hj => by rw [b5 0 (by omega), b2 0 (by omega) (by omega) (by omega), q_wIs, pk_un hj]⟩
  have ol : (ordl S a).length = S := by rw [ordl, List.length_map, List.length_range]
  have Hm : Mm S T a α2 ω2 [] (ordl S a) (fun _ => false) (fun _ => false) (fun _ => m1) := by
    refine ⟨⟨?_, fun k x hk => (by simp at hk)⟩, fun i hi => ?_, fun t ht => a6 t (by omega), fun i hi => ?_, ⟨?_, ?_, fun k x hk => ?_⟩, fun t ht => b6 t ht, fun i hi hf => (by cases hf), fun i hi => ?_, fun k x y hk => (by simp at hk), o.kw kw h8⟩
    · rw [a5 0 (by omega), a2 0 (by omega) (by omega), q_wIs, pk_us]; rfl
    · rw [a5 2 (by omega)]; exact (a3 i (by omega)).2
    · rw [a5 1 (by omega)]; exact (a3 i (by omega)).1
    · rw [b5 0 (by omega), b2 0 (by omega) (by omega) (by omega), q_wIs, pk_us]
      show nI S = nI (ordl S a).length
      rw [ol]
    · show (ordl S a).length ≤ 8
      rw [ol]; exact h8
    · have hk' : (ordl S a)[k]? = some x := hk
      have hkS : k < S := by have := (List.getElem?_eq_some_iff.mp hk').1; omega
      rw [ordl, List.getElem?_map, List.getElem?_range hkS] at hk'
      obtain rfl : oi a k = x := Option.some.inj hk'
      obtain ⟨q1, q2, _⟩ := h.ordk h8 hkS
      refine ⟨by omega, ?_⟩
      rw [b5 8 (by omega), (b3 k hkS).1, q_wIn (by omega), o.2.2.2.2 k hkS, q2]
    · rw [b5 9 (by omega)]; exact (b3 i ((ordl_mem h h8).mp hi)).2.1
  have Hs : Sm S T a [] (ordl S a) (fun _ => false) (fun _ => false) (fun _ => m1) (fun _ => 0) 0 := by
    refine ⟨ordl_nd h h8, fun i => ⟨fun q => ⟨(ordl_mem h h8).mp q, rfl⟩, fun q => (ordl_mem h h8).mpr q.1⟩, List.Sublist.refl _, fun i _ => Or.inl rfl, fun t ht => ⟨fun q => (by cases q), ?_⟩, fun i _ q => (by cases q), fun i j t _ _ q => (by cases q), fun t i _ q => (by cases q), fun k x y hk => (by simp at hk), fun i _ q => (by cases q)⟩
    rintro ⟨i, _, q, _⟩
    cases q
  obtain ⟨α3, ω3, fin, tk, rq, tm, τ, k1, k2, k3, k4, k5⟩ := run_two h w d 16 0 FU FU [] (ordl S a) α2 ω2 _ _ _ _ 0 (by omega) (fu_lt (by omega)) (fu_lt (by omega)) (by rw [ol, List.length_nil]; omega) Hm Hs
  refine ⟨α3, ω3, fin, tk, rq, tm, τ, ?_, ?_, k3, k4, kw.tr k5⟩
  · rw [f_X1_decide, q_lt, q_l0, a1, q_bi, a4, q_bi]
    exact k1
  · rw [f_X13_mechanism, q_lt, o.1.1, q_l0, b1, q_bi, b4, q_bi]
    exact k2
end WHO

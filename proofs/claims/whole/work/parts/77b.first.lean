/-! the first state: the class's own reading of its text, and the reference's -/
theorem pu_two {w a : Nat} (hw : w < 46) {ρ : OM} (h7 : ρ.1 0 7 = nI a) (ha : a + lens.getD w 0 ≤ 700) : ∃ ρ', f_X13_puts w ρ = some ρ' ∧ KI ρ ρ' ∧ ρ'.1 0 7 = nI (a + lens.getD w 0) ∧ (∀ j, j < lens.getD w 0 → ρ'.1 5 (a + j) = wB w j) ∧ ∀ j, j < a → ρ'.1 5 j = ρ.1 5 j := by
  have h8 := w_700 w hw
  refine lp_inv (F := f_X13_puts_2 w) (i0 := 0) (fun (i : Nat) (t : OM) => KI ρ t ∧ t.1 0 7 = nI (a + i) ∧ (∀ j, j < i → t.1 5 (a + j) = wB w j) ∧ ∀ j, j < a → t.1 5 j = ρ.1 5 j) _ (lens.getD w 0) ?_ ?_ (fu_lt (by omega)) ⟨KI.rf _, h7, fun j hj => by omega, fun _ _ => rfl⟩
  · intro n i t hi ⟨g1, g2, g3, g4⟩
    have hc := w_chr w hw i hi
    refine ⟨wI (wI t 5 (a + i) (wB w i)) 0 7 (nI (a + i + 1)), ⟨⟨fun k h0 h5 => by rw [q_wIn h0, q_wIn h5]; exact g1.1 k h0 h5, fun f hf => by rw [q_wIs, pk_un hf, q_wIn (by omega)]; exact g1.2 f hf⟩, by rw [q_wIs, pk_us]; rfl, fun j hj => ?_, fun j hj => ?_⟩, by simp (maxSteps := 2000000) (disch := first | rfl | exact q_e1 _ _ _ | exact q_sr1 _ _ | omega) only [f_X13_puts_2, w_len w hw, hc, g2, ↓q_m1, q_l0, q_l1, q_l2, q_l3, q_l4, q_l5, q_l6, q_l7, q_l8, q_l9, q_l10, q_l11, q_l12, q_l13, q_l14, q_l15, q_l16, q_l17, q_l18, q_l19, q_l20, q_l21, q_l22, q_l23, q_l24, q_l25, q_l26, q_l27, q_l28, q_l29, q_l30, q_l31, q_l32, q_l33, q_l45, q_l46, q_l48, q_l57, q_l58, q_l59, q_l60, q_l61, q_l62, q_l63, q_l64, q_l96, q_l97, q_l99, q_l122, q_l129, q_l137, q_l255, q_l256, q_l400, q_l680, q_l700, q_l959, q_l999, q_l9999, q_l10000, q_l100000, q_ltT, q_ltF, q_leT, q_leF, q_eqF, q_eqR, q_mlt, q_mle, q_nlm, q_nLm, q_nem, q_men, q_mlm, Nat.add_zero, Nat.sub_zero, q_add0, pk_rem, nI_add, pk_mul, q_sub, q_subm, q_addm, nI_clamp, q_inT, q_inF, q_sr1, q_srn, q_srw, q_srs, q_wIs, q_wIn, q_wI2, q_wJ1, q_wJs, q_wJn, q_wR1, q_wRs, q_wRn, q_wI22, q_wJ22, pk_us, pk_un, pk_uLs, pk_uLn, q_usS, q_usN, q_ups, q_upn, Bool.true_eq_false, Bool.false_eq_true, q_lt, q_o2, q_o3, q_o4, q_o5, q_bi, ↓reduceIte, q_tv0, q_tv1, q_bz, q_oRl, q_oRr, q_oXl, q_oXr]⟩
    · rw [q_wIn (by omega), q_wIs]
      by_cases e : j = i
      · rw [e, pk_us]
      · rw [pk_un (by omega)]; exact g3 j (by omega)
    · rw [q_wIn (by omega), q_wIs, pk_un (by omega)]; exact g4 j hj
  · intro n t ⟨g1, g2, g3, g4⟩
    exact ⟨t, by simp (maxSteps := 2000000) (disch := first | rfl | exact q_e1 _ _ _ | exact q_sr1 _ _ | omega) only [f_X13_puts_2, w_len w hw, g2, ↓q_m1, q_l0, q_l1, q_l2, q_l3, q_l4, q_l5, q_l6, q_l7, q_l8, q_l9, q_l10, q_l11, q_l12, q_l13, q_l14, q_l15, q_l16, q_l17, q_l18, q_l19, q_l20, q_l21, q_l22, q_l23, q_l24, q_l25, q_l26, q_l27, q_l28, q_l29, q_l30, q_l31, q_l32, q_l33, q_l45, q_l46, q_l48, q_l57, q_l58, q_l59, q_l60, q_l61, q_l62, q_l63, q_l64, q_l96, q_l97, q_l99, q_l122, q_l129, q_l137, q_l255, q_l256, q_l400, q_l680, q_l700, q_l959, q_l999, q_l9999, q_l10000, q_l100000, q_ltT, q_ltF, q_leT, q_leF, q_eqF, q_eqR, q_mlt, q_mle, q_nlm, q_nLm, q_nem, q_men, q_mlm, Nat.add_zero, Nat.sub_zero, q_add0, pk_rem, nI_add, pk_mul, q_sub, q_subm, q_addm, nI_clamp, q_inT, q_inF, q_sr1, q_srn, q_srw, q_srs, q_wIs, q_wIn, q_wI2, q_wJ1, q_wJs, q_wJn, q_wR1, q_wRs, q_wRn, q_wI22, q_wJ22, pk_us, pk_un, pk_uLs, pk_uLn, q_usS, q_usN, q_ups, q_upn, Bool.true_eq_false, Bool.false_eq_true, q_lt, q_o2, q_o3, q_o4, q_o5, q_bi, ↓reduceIte, q_tv0, q_tv1, q_bz, q_oRl, q_oRr, q_oXl, q_oXr], g1, g2, g3, g4⟩
theorem fi_g : ∀ j, j < 188 → (wB 0 j).toNatClampNeg < 256 ∧ wB 0 j = nI (wB 0 j).toNatClampNeg := by decide +kernel
theorem fi_a : ∀ j, j < 96 → wB 22 j = wB 0 j := by decide +kernel
theorem fi_b : ∀ j, j < 92 → wB 23 j = wB 0 (96 + j) := by decide +kernel
set_option maxRecDepth 1000000 in
/-- the first text is a setup without a fault -/
theorem fi_ok : (f_X9_read ZM (wI ZM 0 2 (-1)) ZM (bt 0 188)).map (fun r => r.1) = some 1 := by decide +kernel
theorem first_two : ∃ (rv : Int32) (μ1 π1 τ1 ρ1 ρ2 ρ3 ρ4 : OM), f_X9_read ZM (wI ZM 0 2 (-1)) ZM (bt 0 188) = some (rv, μ1, π1, τ1) ∧ f_X13_puts 22 (wI ZM 0 9 (-1)) = some ρ1 ∧ f_X13_puts 23 ρ1 = some ρ2 ∧ f_X13_starts ρ2 = some ρ3 ∧ f_X13_readsSetup ρ3 = some ρ4 ∧ Rel 9999 (us (us (σ1 μ1 π1 τ1) 20 (wI ρ4 0 7 0)) 21 ZM) := by
  obtain ⟨ρ1, a1, a2, a3, a4, _⟩ := pu_two (w := 22) (a := 0) (by decide) (ρ := wI ZM 0 9 (-1)) rfl (by decide)
  obtain ⟨ρ2, c1, c2, c3, c4, c5⟩ := pu_two (w := 23) (a := 96) (by decide) (ρ := ρ1) a3 (by decide)
  have htx : TXT 188 (fun j => (wB 0 j).toNatClampNeg) (bt 0 188) ρ2 := by
    refine ⟨by omega, rfl, c3, fun j hj => ⟨(fi_g j hj).1, ?_, ?_⟩⟩
    · show (if j < 188 then wB 0 j else 0) = _
      rw [if_pos hj]
      exact (fi_g j hj).2
    · by_cases h : j < 96
      · rw [c5 j h]
        have := a4 j h
        rw [Nat.zero_add] at this
        rw [this, fi_a j h]
        exact (fi_g j hj).2
      · obtain ⟨i, rfl⟩ : ∃ i, j = 96 + i := ⟨j - 96, by omega⟩
        rw [c4 i (show i < 92 by omega), fi_b i (by omega)]
        exact (fi_g _ hj).2
  obtain ⟨π1, τ1, ρ3, b1, b2, b3, b4⟩ := start_two htx ZM (wI ZM 0 2 (-1))
  obtain ⟨z, μ', π', τ', ρ4, s1, s2, s3, s4⟩ := setup_two ZM b1 b3
  have kk : KQ ρ2 ρ4 := b4.kq.tr s3
  have kf : ∀ f, f = 4 ∨ f = 5 ∨ f = 11 → ρ4.1 0 f = 0 := fun f hf => by
    rw [kk.2 f (by omega), c2.2 f (by omega), a2.2 f (by omega), q_wIs, pk_un (by omega)]
    rfl
  rcases s4 with ⟨rfl, d0, d1, d2, d3⟩ | ⟨rfl, d1⟩
  · refine ⟨nI 1, μ', π', τ', ρ1, ρ2, ρ3, ρ4, s1, a1, c1, b2, s2, Rel.o21 ?_ ZM⟩
    have w5 : ∀ f, f ≠ 7 → (wI ρ4 0 7 0).1 0 f = ρ4.1 0 f := fun f hf => by rw [q_wIs, pk_un hf]
    have w7 : (wI ρ4 0 7 0).1 0 7 = 0 := by rw [q_wIs, pk_us]
    have w1 : (wI ρ4 0 7 0).1 1 = ρ4.1 1 := q_wIn (by omega)
    refine ⟨?_, Or.inl ⟨rfl, ?_⟩, ⟨0, 0, by omega, by omega, rfl, rfl, ?_, fun j hj => by omega⟩, ⟨0, by omega, rfl, ?_, fun j hj => by omega⟩, ⟨0, by omega, rfl, ?_, fun j hj => by omega⟩, ?_, ?_⟩
    · show MW 9999 μ' ((wI ρ4 0 7 0).1 1)
      rw [w1]
      exact d3
    · show (wI ρ4 0 7 0).1 0 5 = nI 0
      rw [w5 5 (by omega), kf 5 (by omega)]
      rfl
    · show (wI ρ4 0 7 0).1 0 4 = nI 0
      rw [w5 4 (by omega), kf 4 (by omega)]
      rfl
    · exact w7
    · show (wI ρ4 0 7 0).1 0 11 = nI 0
      rw [w5 11 (by omega), kf 11 (by omega)]
      rfl
    · show π'.1 0 1 = (wI ρ4 0 7 0).1 0 8
      rw [w5 8 (by omega)]
      exact d1
    · show π'.1 0 2 = (wI ρ4 0 7 0).1 0 9
      rw [w5 9 (by omega)]
      exact d2
  · exfalso
    have := fi_ok
    rw [s1] at this
    exact absurd (show some (nI 0) = some (1 : Int32) from this) (by decide)

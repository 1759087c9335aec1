/-! a setup read whole: the pieces -/
def rq3 (ρ43 : OM) : Option OM := ((f_X13_readsSetup_76  FU ρ43).bind fun ρ44 => (if (ρ44.1 0 20) = 0 then ((f_X13_balances ρ44).bind fun r46 => (if inb 7 137 = true then (lt (wI ρ44 1 (Int32.toNatClampNeg 7) r46) fun ρ47 => (some ρ47)) else none)) else ((f_X13_wrong 1 ρ44).bind fun ρ48 => ((f_X13_balances ρ48).bind fun r49 => (if inb 7 137 = true then (lt (wI ρ48 1 (Int32.toNatClampNeg 7) r49) fun ρ50 => (some ρ50)) else none)))))
def rq2 (ρ32 : OM) : Option OM := ((f_X13_readsSetup_46  FU ρ32).bind fun ρ33 => ((f_X13_isWord 27 ρ33).bind fun r34 => (if r34 = 0 then ((f_X13_wrong 1 ρ33).bind fun ρ43 => (rq3 ρ43)) else (rq3 ρ33))))
theorem rq_eq (ρ : OM) : f_X13_readsSetup ρ = ((f_X13_readsSetup_2  FU 0 ρ).bind fun ρ3 => ((f_X13_wantsWord 24 ρ3).bind fun ρ4 => ((f_X13_wantsSemicolon ρ4).bind fun ρ5 => ((f_X13_isWord 25 ρ5).bind fun r6 => (if r6 = 0 then ((f_X13_wrong 1 ρ5).bind fun ρ32 => (rq2 ρ32)) else (rq2 ρ5)))))) := id rfl
section STP
variable {S T n : Nat} {g : Nat → Nat} {μ β τ π ρ : OM} {a : Nat → Int32}
theorem ST.sl (h : ST T μ a) : SL 0 T μ a := by
  obtain ⟨⟨p1, p2, p3, p4⟩, p5, p6, p7, p8⟩ := h
  have s7 := (p6 7 (by omega) (by omega)).1
  refine ⟨⟨⟨⟨p1, p2, by rw [pk_un (by omega)]; exact p3, by rw [pk_un (by omega)]; exact p4⟩, fun k k1 k2 => ?_, fun i hi => by omega, fun i k hi => by omega, fun t ht => ?_, fun i hi => by omega, fun t ht => ?_, fun i hi => by omega, fun k hk => by omega⟩, ⟨⟨by omega, p5⟩, fun i hi => by omega, fun i k hi => by omega, fun i hi => by omega⟩, ⟨fun i k k' hi => by omega, fun i j hi => by omega⟩, ⟨?_, fun t ht => ?_, fun i hi => by omega, fun i hi => by omega⟩⟩, fun i _ hi => p8 _ (by omega) (by omega), s7⟩
  · by_cases k7 : k = 7
    · subst k7; rw [pk_us]
    · rw [pk_un k7, (p6 k k1 k2).1, (p6 k k1 k2).2]
  · obtain ⟨_, r, _, r2, r3⟩ := p7 t ht
    rw [pk_un (by omega), r2, r3]
  · rw [pk_un (by omega)]; exact (p7 t ht).1
  · exact ⟨0, by omega, by rw [pk_un (by omega)]; exact (p6 2 (by omega) (by omega)).2⟩
  · obtain ⟨_, r, r1, r2, r3⟩ := p7 t ht
    exact ⟨r, r1, by rw [pk_un (by omega)]; exact r3⟩
theorem r_bal (hS : S ≤ 8) (h0 : ρ.1 1 0 = nI S) : f_X13_balances ρ = some (bs (ρ.1 1) S) := by
  have key : ∀ r x m, x + r = S → r < m → f_X13_balances_4 ρ m (nI x) (bs (ρ.1 1) x) = some (bs (ρ.1 1) S) := by
    intro r
    induction r with
    | zero =>
      intro x m h1 h2
      obtain ⟨m, rfl⟩ : ∃ q, m = q + 1 := ⟨m - 1, by omega⟩
      have hx : x = S := by omega
      subst hx
      rw [f_X13_balances_4]
      simp (maxSteps := 2000000) (disch := first | rfl | exact q_e1 _ _ _ | exact q_sr1 _ _ | omega) only [↓q_m1, q_l0, q_l1, q_l2, q_l3, q_l4, q_l5, q_l6, q_l7, q_l8, q_l9, q_l10, q_l11, q_l12, q_l13, q_l14, q_l15, q_l16, q_l17, q_l18, q_l19, q_l20, q_l21, q_l22, q_l23, q_l24, q_l25, q_l26, q_l27, q_l28, q_l29, q_l30, q_l31, q_l32, q_l33, q_l45, q_l46, q_l48, q_l57, q_l58, q_l59, q_l60, q_l61, q_l62, q_l63, q_l64, q_l96, q_l97, q_l99, q_l122, q_l129, q_l137, q_l255, q_l256, q_l400, q_l680, q_l700, q_l959, q_l999, q_l9999, q_l10000, q_l100000, q_ltT, q_ltF, q_leT, q_leF, q_eqF, q_eqR, q_mlt, q_mle, q_nlm, q_nLm, q_nem, q_men, q_mlm, Nat.add_zero, Nat.sub_zero, q_add0, pk_rem, nI_add, pk_mul, q_sub, q_subm, q_addm, nI_clamp, q_inT, q_inF, q_sr1, q_srn, q_srw, q_srs, q_wIs, q_wIn, q_wI2, q_wJ1, q_wJs, q_wJn, q_wR1, q_wRs, q_wRn, q_wI22, q_wJ22, pk_us, pk_un, pk_uLs, pk_uLn, q_usS, q_usN, q_ups, q_upn, Bool.true_eq_false, Bool.false_eq_true, q_lt, q_o2, q_o3, q_o4, q_o5, q_bi, ↓reduceIte, q_tv0, q_tv1, q_bz, q_oRl, q_oRr, q_oXl, q_oXr, h0]
    | succ r ih =>
      intro x m h1 h2
      obtain ⟨m, rfl⟩ : ∃ q, m = q + 1 := ⟨m - 1, by omega⟩
      have e := ih (x + 1) m (by omega) (by omega)
      rw [bs] at e
      rw [f_X13_balances_4]
      simp (maxSteps := 2000000) (disch := first | rfl | exact q_e1 _ _ _ | exact q_sr1 _ _ | omega) only [f_X13_of, ↓q_m1, q_l0, q_l1, q_l2, q_l3, q_l4, q_l5, q_l6, q_l7, q_l8, q_l9, q_l10, q_l11, q_l12, q_l13, q_l14, q_l15, q_l16, q_l17, q_l18, q_l19, q_l20, q_l21, q_l22, q_l23, q_l24, q_l25, q_l26, q_l27, q_l28, q_l29, q_l30, q_l31, q_l32, q_l33, q_l45, q_l46, q_l48, q_l57, q_l58, q_l59, q_l60, q_l61, q_l62, q_l63, q_l64, q_l96, q_l97, q_l99, q_l122, q_l129, q_l137, q_l255, q_l256, q_l400, q_l680, q_l700, q_l959, q_l999, q_l9999, q_l10000, q_l100000, q_ltT, q_ltF, q_leT, q_leF, q_eqF, q_eqR, q_mlt, q_mle, q_nlm, q_nLm, q_nem, q_men, q_mlm, Nat.add_zero, Nat.sub_zero, q_add0, pk_rem, nI_add, pk_mul, q_sub, q_subm, q_addm, nI_clamp, q_inT, q_inF, q_sr1, q_srn, q_srw, q_srs, q_wIs, q_wIn, q_wI2, q_wJ1, q_wJs, q_wJn, q_wR1, q_wRs, q_wRn, q_wI22, q_wJ22, pk_us, pk_un, pk_uLs, pk_uLn, q_usS, q_usN, q_ups, q_upn, Bool.true_eq_false, Bool.false_eq_true, q_lt, q_o2, q_o3, q_o4, q_o5, q_bi, ↓reduceIte, q_tv0, q_tv1, q_bz, q_oRl, q_oRr, q_oXl, q_oXr, h0, e]
  exact key S 0 FU (by omega) (fu_lt (by omega))
theorem rq3_v {ρ1 ρ' : OM} (h1 : f_X13_readsSetup_76 FU ρ = some ρ1) (hf : FIN ρ1 ρ') (hS : S ≤ 8) (h0 : ρ'.1 1 0 = nI S) : rq3 ρ = some (wI ρ' 1 7 (bs (ρ'.1 1) S)) := by
  have hb := r_bal hS h0
  rcases hf with ⟨u, rfl⟩ | ⟨u, hw⟩
  · simp (maxSteps := 2000000) (disch := first | rfl | exact q_e1 _ _ _ | exact q_sr1 _ _ | omega) only [rq3, ↓q_m1, q_l0, q_l1, q_l2, q_l3, q_l4, q_l5, q_l6, q_l7, q_l8, q_l9, q_l10, q_l11, q_l12, q_l13, q_l14, q_l15, q_l16, q_l17, q_l18, q_l19, q_l20, q_l21, q_l22, q_l23, q_l24, q_l25, q_l26, q_l27, q_l28, q_l29, q_l30, q_l31, q_l32, q_l33, q_l45, q_l46, q_l48, q_l57, q_l58, q_l59, q_l60, q_l61, q_l62, q_l63, q_l64, q_l96, q_l97, q_l99, q_l122, q_l129, q_l137, q_l255, q_l256, q_l400, q_l680, q_l700, q_l959, q_l999, q_l9999, q_l10000, q_l100000, q_ltT, q_ltF, q_leT, q_leF, q_eqF, q_eqR, q_mlt, q_mle, q_nlm, q_nLm, q_nem, q_men, q_mlm, Nat.add_zero, Nat.sub_zero, q_add0, pk_rem, nI_add, pk_mul, q_sub, q_subm, q_addm, nI_clamp, q_inT, q_inF, q_sr1, q_srn, q_srw, q_srs, q_wIs, q_wIn, q_wI2, q_wJ1, q_wJs, q_wJn, q_wR1, q_wRs, q_wRn, q_wI22, q_wJ22, pk_us, pk_un, pk_uLs, pk_uLn, q_usS, q_usN, q_ups, q_upn, Bool.true_eq_false, Bool.false_eq_true, q_lt, q_o2, q_o3, q_o4, q_o5, q_bi, ↓reduceIte, q_tv0, q_tv1, q_bz, q_oRl, q_oRr, q_oXl, q_oXr, h1, u, hb]
  · simp (maxSteps := 2000000) (disch := first | rfl | exact q_e1 _ _ _ | exact q_sr1 _ _ | omega) only [rq3, ↓q_m1, q_l0, q_l1, q_l2, q_l3, q_l4, q_l5, q_l6, q_l7, q_l8, q_l9, q_l10, q_l11, q_l12, q_l13, q_l14, q_l15, q_l16, q_l17, q_l18, q_l19, q_l20, q_l21, q_l22, q_l23, q_l24, q_l25, q_l26, q_l27, q_l28, q_l29, q_l30, q_l31, q_l32, q_l33, q_l45, q_l46, q_l48, q_l57, q_l58, q_l59, q_l60, q_l61, q_l62, q_l63, q_l64, q_l96, q_l97, q_l99, q_l122, q_l129, q_l137, q_l255, q_l256, q_l400, q_l680, q_l700, q_l959, q_l999, q_l9999, q_l10000, q_l100000, q_ltT, q_ltF, q_leT, q_leF, q_eqF, q_eqR, q_mlt, q_mle, q_nlm, q_nLm, q_nem, q_men, q_mlm, Nat.add_zero, Nat.sub_zero, q_add0, pk_rem, nI_add, pk_mul, q_sub, q_subm, q_addm, nI_clamp, q_inT, q_inF, q_sr1, q_srn, q_srw, q_srs, q_wIs, q_wIn, q_wI2, q_wJ1, q_wJs, q_wJn, q_wR1, q_wRs, q_wRn, q_wI22, q_wJ22, pk_us, pk_un, pk_uLs, pk_uLn, q_usS, q_usN, q_ups, q_upn, Bool.true_eq_false, Bool.false_eq_true, q_lt, q_o2, q_o3, q_o4, q_o5, q_bi, ↓reduceIte, q_tv0, q_tv1, q_bz, q_oRl, q_oRr, q_oXl, q_oXr, h1, eq_false u, hw, hb]
end STP

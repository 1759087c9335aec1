/-! a script read whole -/
/-- a step of a script's reading keeps all but the commands -/
def KC (ρ ρ' : OM) : Prop := (∀ k, k ≠ 0 → k ≠ 13 → ρ'.1 k = ρ.1 k) ∧ ∀ f, (f < 8 ∨ (9 < f ∧ f < 20) ∨ f = 25 ∨ 26 < f) → ρ'.1 0 f = ρ.1 0 f
theorem KC.rf (ρ : OM) : KC ρ ρ := ⟨fun _ _ _ => rfl, fun _ _ => rfl⟩
theorem KC.tr {ρ ρ' ρ'' : OM} (h : KC ρ ρ') (g : KC ρ' ρ'') : KC ρ ρ'' := ⟨fun k h0 h1 => (g.1 k h0 h1).trans (h.1 k h0 h1), fun f hf => (g.2 f hf).trans (h.2 f hf)⟩
theorem KP.kc {ρ ρ' : OM} (h : KP ρ ρ') : KC ρ ρ' := ⟨fun k h0 _ => h.1 k h0, fun f hf => h.2 f (by omega)⟩
theorem KC.w13 (ρ : OM) (j : Nat) (v : Int32) : KC ρ (wI ρ 13 j v) := ⟨fun k _ h1 => q_wIn h1, fun f _ => congrFun (q_wIn (by omega)) f⟩
theorem KC.w26 (ρ : OM) (v : Int32) : KC ρ (wI ρ 0 26 v) := ⟨fun k h0 _ => q_wIn h0, fun f hf => by rw [q_wIs, pk_un (by omega)]⟩
/-- a command stored on both sides -/
def CM (S T : Nat) (ς ρ : OM) (k : Nat) : Prop := ∃ b x y, b < 9 ∧ ς.2.2 1 k = some b ∧ ς.1 2 k = x ∧ ς.1 3 k = y ∧ ρ.1 13 (3 * k) = nI b ∧ ρ.1 13 (3 * k + 1) = x ∧ (¬ (b = 3 ∨ b = 8) → ρ.1 13 (3 * k + 2) = y) ∧ OPK S T (fk b) x ∧ OPK S T (sk b) y
theorem CM.k {S T : Nat} {ς ς' ρ ρ' : OM} {k : Nat} (h : CM S T ς ρ k) (e1 : ς'.2.2 1 k = ς.2.2 1 k) (e2 : ς'.1 2 k = ς.1 2 k) (e3 : ς'.1 3 k = ς.1 3 k) (e4 : ∀ j, 3 * k ≤ j → j ≤ 3 * k + 2 → ρ'.1 13 j = ρ.1 13 j) : CM S T ς' ρ' k := by
  obtain ⟨b, x, y, h1, h2, h3, h4, h5, h6, h7, h8, h9⟩ := h
  refine ⟨b, x, y, h1, e1.trans h2, e2.trans h3, e3.trans h4, (e4 _ (by omega) (by omega)).trans h5, (e4 _ (by omega) (by omega)).trans h6, fun hb => (e4 _ (by omega) (by omega)).trans (h7 hb), h8, h9⟩
theorem q_oeN {α : Type} (x : Option α) (f : Nat → Option α) : oe none x f = x := id rfl
theorem q_oeS {α : Type} (b : Nat) (x : Option α) (f : Nat → Option α) : oe (some b) x f = f b := id rfl
theorem q_bz0 : (bz (nI 0) = true) = True := eq_true (by decide)
theorem q_bz1 : (bz (nI 1) = true) = True := eq_true (by decide)
section READ
variable {S T n : Nat} {g : Nat → Nat} {μ β τ π ρ ς : OM} {a : Nat → Int32}
theorem TXT.w13 (h : TXT n g β ρ) (j : Nat) (v : Int32) : TXT n g β (wI ρ 13 j v) := ⟨h.1, h.2.1, (congrFun (q_wIn (by omega)) 7).trans h.2.2.1, fun i hi => by rw [q_wIn (by omega)]; exact h.2.2.2 i hi⟩
theorem TXT.w26 (h : TXT n g β ρ) (v : Int32) : TXT n g β (wI ρ 0 26 v) := ⟨h.1, h.2.1, by rw [q_wIs, pk_un (by omega)]; exact h.2.2.1, fun i hi => by rw [q_wIn (by omega)]; exact h.2.2.2 i hi⟩
theorem TK.cg {ρ' : OM} (h : TK n g τ ρ) (e : ∀ f, 20 ≤ f → f ≤ 23 → ρ'.1 0 f = ρ.1 0 f) : TK n g τ ρ' := by
  unfold TK
  rw [e 20 (by omega) (by omega), e 21 (by omega) (by omega), e 22 (by omega) (by omega), e 23 (by omega) (by omega)]
  exact h
theorem OKS.w13 (o : OKS n g β τ π ρ) (j : Nat) (v : Int32) : OKS n g β τ π (wI ρ 13 j v) := ⟨o.1.w13 j v, o.2.1.cg (fun f _ _ => congrFun (q_wIn (by omega)) f), (congrFun (q_wIn (by omega)) 24).trans o.2.2.1, o.2.2.2.1.trans (congrFun (q_wIn (by omega)) 8).symm, o.2.2.2.2.trans (congrFun (q_wIn (by omega)) 9).symm⟩
theorem OKS.w26 (o : OKS n g β τ π ρ) (v : Int32) : OKS n g β τ π (wI ρ 0 26 v) := ⟨o.1.w26 v, o.2.1.cg (fun f _ _ => by rw [q_wIs, pk_un (by omega)]), by rw [q_wIs, pk_un (by omega)]; exact o.2.2.1, by rw [q_wIs, pk_un (by omega)]; exact o.2.2.2.1, by rw [q_wIs, pk_un (by omega)]; exact o.2.2.2.2⟩
theorem FL.w13 (h : FL π ρ) (j : Nat) (v : Int32) : FL π (wI ρ 13 j v) := ⟨(congrFun (q_wIn (by omega)) 24).trans h.1, h.2.1.trans (congrFun (q_wIn (by omega)) 8).symm, h.2.2.trans (congrFun (q_wIn (by omega)) 9).symm⟩
theorem FL.w26 (h : FL π ρ) (v : Int32) : FL π (wI ρ 0 26 v) := ⟨by rw [q_wIs, pk_un (by omega)]; exact h.1, by rw [q_wIs, pk_un (by omega)]; exact h.2.1, by rw [q_wIs, pk_un (by omega)]; exact h.2.2⟩
theorem st2_kc (b j : Nat) (v : Int32) (ρ : OM) : KC ρ (st2 b j v ρ) := by
  unfold st2
  by_cases h : b = 3 ∨ b = 8
  · rw [if_pos h]; exact KC.rf ρ
  · rw [if_neg h]; exact KC.w13 ρ _ v
theorem OKS.wst (o : OKS n g β τ π ρ) (b j : Nat) (v : Int32) : OKS n g β τ π (st2 b j v ρ) := by
  unfold st2
  by_cases h : b = 3 ∨ b = 8
  · rw [if_pos h]; exact o
  · rw [if_neg h]; exact o.w13 _ v
theorem FL.wst (o : FL π ρ) (b j : Nat) (v : Int32) : FL π (st2 b j v ρ) := by
  unfold st2
  by_cases h : b = 3 ∨ b = 8
  · rw [if_pos h]; exact o
  · rw [if_neg h]; exact o.w13 _ v
theorem st2_26 (b j : Nat) (v : Int32) (ρ : OM) : (st2 b j v ρ).1 0 26 = ρ.1 0 26 := by
  unfold st2
  by_cases h : b = 3 ∨ b = 8
  · rw [if_pos h]
  · rw [if_neg h]; exact congrFun (q_wIn (by omega)) 26
theorem st2_13 (b j : Nat) (v : Int32) (ρ : OM) : (∀ i, ¬ i = j + 2 → (st2 b j v ρ).1 13 i = ρ.1 13 i) ∧ (¬ (b = 3 ∨ b = 8) → (st2 b j v ρ).1 13 (j + 2) = v) := by
  unfold st2
  by_cases h : b = 3 ∨ b = 8
  · rw [if_pos h]; exact ⟨fun _ _ => rfl, fun q => absurd h q⟩
  · rw [if_neg h]
    exact ⟨fun i hi => by rw [q_wIs, pk_un (by omega)], fun _ => by rw [q_wIs, pk_us]⟩
/-- the words after a verb: the reference's numbers -/
theorem nums_two (o : OKS n g β τ π ρ) (h : NMS S T μ a) (hS : a 0 = nI S) (hT : a 1 = nI T) (e : ρ.1 1 = a) {b k : Nat} (hb : b < 9) (hk : k < 20) : ∃ v1 v2 ρ', f_X13_readsNumbers (nI (3 * k)) (nI b) ρ = some ρ' ∧ KC ρ ρ' ∧ ρ'.1 0 26 = ρ.1 0 26 ∧ (∀ i, i < 3 * k + 1 → ρ'.1 13 i = ρ.1 13 i) ∧ ρ'.1 13 (3 * k + 1) = v1 ∧ (¬ (b = 3 ∨ b = 8) → ρ'.1 13 (3 * k + 2) = v2) ∧
    ((∃ τ1 τ2, f_X8_takeOperand (nI (fk b)) μ π τ β = some (v1, π, τ1) ∧ f_X8_takeOperand (nI (sk b)) μ π τ1 β = some (v2, π, τ2) ∧ ¬ v1 = m1 ∧ ¬ v2 = m1 ∧ OPK S T (fk b) v1 ∧ OPK S T (sk b) v2 ∧ OKS n g β τ2 π ρ') ∨
     (∃ π', f_X8_takeOperand (nI (fk b)) μ π τ β = some (m1, π', τ) ∧ FL π' ρ') ∨
     ∃ τ1 π', f_X8_takeOperand (nI (fk b)) μ π τ β = some (v1, π, τ1) ∧ ¬ v1 = m1 ∧ f_X8_takeOperand (nI (sk b)) μ π τ1 β = some (m1, π', τ1) ∧ FL π' ρ') := by
  have s8 := h.2.2.1
  have t8 := h.2.2.2.1
  obtain ⟨_, f5, _, g5⟩ := fk_eq b hb
  obtain ⟨v1, ρ1, r1, k1, c1⟩ := opd_two o h hS hT e f5
  have e1 : (wI ρ1 13 (3 * k + 1) v1).1 1 = a := by rw [q_wIn (by omega), k1.1 1 (by omega), e]
  have fin : ∀ v2 ρ2, rW (sk b) (wI ρ1 13 (3 * k + 1) v1) = some (v2, ρ2) → KP (wI ρ1 13 (3 * k + 1) v1) ρ2 → f_X13_readsNumbers (nI (3 * k)) (nI b) ρ = some (st2 b (3 * k) v2 ρ2) ∧ KC ρ (st2 b (3 * k) v2 ρ2) ∧ (st2 b (3 * k) v2 ρ2).1 0 26 = ρ.1 0 26 ∧ (∀ i, i < 3 * k + 1 → (st2 b (3 * k) v2 ρ2).1 13 i = ρ.1 13 i) ∧ (st2 b (3 * k) v2 ρ2).1 13 (3 * k + 1) = v1 ∧ (¬ (b = 3 ∨ b = 8) → (st2 b (3 * k) v2 ρ2).1 13 (3 * k + 2) = v2) := by
    intro v2 ρ2 r2 k2
    obtain ⟨s1, s2⟩ := st2_13 b (3 * k) v2 ρ2
    have q13 : ρ2.1 13 = upd (ρ1.1 13) (3 * k + 1) v1 := by rw [k2.1 13 (by omega), q_wIs]
    refine ⟨rn_eq hb hk r1 r2, ((k1.kc.tr (KC.w13 ρ1 _ v1)).tr k2.kc).tr (st2_kc b _ v2 ρ2), ?_, fun i hi => ?_, ?_, s2⟩
    · rw [st2_26, k2.2 26 (by omega), q_wIn (by omega), k1.2 26 (by omega)]
    · rw [s1 i (by omega), q13, pk_un (by omega), k1.1 13 (by omega)]
    · rw [s1 _ (by omega), q13, pk_us]
  rcases c1 with ⟨τ1, c2, c3, c4, c5⟩ | ⟨π', c2, c3⟩
  · obtain ⟨v2, ρ2, r2, k2, d1⟩ := opd_two (c5.w13 (3 * k + 1) v1) h hS hT e1 g5
    obtain ⟨q1, q2, q3, q4, q5, q6⟩ := fin v2 ρ2 r2 k2
    refine ⟨v1, v2, _, q1, q2, q3, q4, q5, q6, ?_⟩
    rcases d1 with ⟨τ2, d2, d3, d4, d5⟩ | ⟨π', d2, d3⟩
    · exact Or.inl ⟨τ1, τ2, c4, d4, c3, d3, c2, d2, d5.wst b _ v2⟩
    · exact Or.inr (Or.inr ⟨τ1, π', c4, c3, d2, d3.wst b _ v2⟩)
  · obtain ⟨v2, r2⟩ := opd_F (c3.w13 (3 * k + 1) v1).1 hS hT s8 t8 e1 g5
    obtain ⟨q1, q2, q3, q4, q5, q6⟩ := fin v2 _ r2 (KP.rf _)
    exact ⟨v1, v2, _, q1, q2, q3, q4, q5, q6, Or.inr (Or.inl ⟨π', c2, (c3.w13 _ v1).wst b _ v2⟩)⟩
theorem cmd_two (o : OKS n g β τ π ρ) (h : NMS S T μ a) (hS : a 0 = nI S) (hT : a 1 = nI T) (e : ρ.1 1 = a) {k : Nat} (hk : k < 20) (e1 : ς.1 0 3 = nI k) (e2 : ρ.1 0 26 = nI k) (hc : ∀ j, j < k → CM S T ς ρ j) :
    ∃ r π' τ' ς' ρ', f_X8_readCommand μ π τ β ς = some (r, π', τ', ς') ∧ f_X13_readsCommand ρ = some ρ' ∧ KC ρ ρ' ∧ ((r = nI 1 ∧ ς'.1 0 3 = nI k ∧ ρ'.1 0 26 = nI (k + 1) ∧ OKS n g β τ' π' ρ' ∧ ∀ j, j < k + 1 → CM S T ς' ρ' j) ∨ (r = nI 0 ∧ FL π' ρ')) := by
  have h3 := o.2.2.1
  obtain ⟨r, v1, v2, v3⟩ := verb_two o
  cases r with
  | none =>
    replace v2 : f_X13_kindOfWord ρ = some m1 := v2
    exact ⟨nI 0, flf 1 π τ, τ, ς, wrf 1 ρ, by simp (maxSteps := 2000000) (disch := first | rfl | exact q_e1 _ _ _ | exact q_sr1 _ _ | omega) only [f_X8_readCommand, ↓q_m1, q_l0, q_l1, q_l2, q_l3, q_l4, q_l5, q_l6, q_l7, q_l8, q_l9, q_l10, q_l11, q_l12, q_l13, q_l14, q_l15, q_l16, q_l17, q_l18, q_l19, q_l20, q_l21, q_l22, q_l23, q_l24, q_l25, q_l26, q_l27, q_l28, q_l29, q_l30, q_l31, q_l32, q_l33, q_l45, q_l46, q_l48, q_l57, q_l58, q_l59, q_l60, q_l61, q_l62, q_l63, q_l64, q_l96, q_l97, q_l99, q_l122, q_l129, q_l137, q_l255, q_l256, q_l400, q_l680, q_l700, q_l959, q_l999, q_l9999, q_l10000, q_l100000, q_ltT, q_ltF, q_leT, q_leF, q_eqF, q_eqR, q_mlt, q_mle, q_nlm, q_nLm, q_nem, q_men, q_mlm, Nat.add_zero, Nat.sub_zero, q_add0, pk_rem, nI_add, pk_mul, q_sub, q_subm, q_addm, nI_clamp, q_inT, q_inF, q_sr1, q_srn, q_srw, q_srs, q_wIs, q_wIn, q_wI2, q_wJ1, q_wJs, q_wJn, q_wR1, q_wRs, q_wRn, q_wI22, q_wJ22, pk_us, pk_un, pk_uLs, pk_uLn, q_usS, q_usN, q_ups, q_upn, Bool.true_eq_false, Bool.false_eq_true, q_lt, q_o2, q_o3, q_o4, q_o5, q_bi, ↓reduceIte, q_tv0, q_tv1, q_bz, q_oRl, q_oRr, q_oXl, q_oXr, q_bz0, q_bz1, q_oeN, q_oeS, v1, s_fail], by simp (maxSteps := 2000000) (disch := first | rfl | exact q_e1 _ _ _ | exact q_sr1 _ _ | omega) only [f_X13_readsCommand, ↓q_m1, q_l0, q_l1, q_l2, q_l3, q_l4, q_l5, q_l6, q_l7, q_l8, q_l9, q_l10, q_l11, q_l12, q_l13, q_l14, q_l15, q_l16, q_l17, q_l18, q_l19, q_l20, q_l21, q_l22, q_l23, q_l24, q_l25, q_l26, q_l27, q_l28, q_l29, q_l30, q_l31, q_l32, q_l33, q_l45, q_l46, q_l48, q_l57, q_l58, q_l59, q_l60, q_l61, q_l62, q_l63, q_l64, q_l96, q_l97, q_l99, q_l122, q_l129, q_l137, q_l255, q_l256, q_l400, q_l680, q_l700, q_l959, q_l999, q_l9999, q_l10000, q_l100000, q_ltT, q_ltF, q_leT, q_leF, q_eqF, q_eqR, q_mlt, q_mle, q_nlm, q_nLm, q_nem, q_men, q_mlm, Nat.add_zero, Nat.sub_zero, q_add0, pk_rem, nI_add, pk_mul, q_sub, q_subm, q_addm, nI_clamp, q_inT, q_inF, q_sr1, q_srn, q_srw, q_srs, q_wIs, q_wIn, q_wI2, q_wJ1, q_wJs, q_wJn, q_wR1, q_wRs, q_wRn, q_wI22, q_wJ22, pk_us, pk_un, pk_uLs, pk_uLn, q_usS, q_usN, q_ups, q_upn, Bool.true_eq_false, Bool.false_eq_true, q_lt, q_o2, q_o3, q_o4, q_o5, q_bi, ↓reduceIte, q_tv0, q_tv1, q_bz, q_oRl, q_oRr, q_oXl, q_oXr, v2, r_wrong h3], (wrf_k 1 ρ).kc, Or.inr ⟨rfl, wr_fl o.2.1 1⟩⟩
  | some b =>
    have hb := v3 b rfl
    replace v2 : f_X13_kindOfWord ρ = some (nI b) := v2
    obtain ⟨fe, _, ge, _⟩ := fk_eq b hb
    obtain ⟨τ1, ρ1, n1, n2, n3, n4⟩ := o.next
    have q1 : (wI ρ1 13 (3 * k) (nI b)).1 1 = a := by rw [q_wIn (by omega), n4.1 1 (by omega), e]
    have q26 : ρ1.1 0 26 = nI k := (n4.2 26 (by omega)).trans e2
    obtain ⟨x, y, ρ2, m1', m2, m3, m4, m5, m6, m7⟩ := nums_two (n3.w13 (3 * k) (nI b)) h hS hT q1 hb hk
    have k2 : KC ρ ρ2 := (n4.p.kc.tr (KC.w13 ρ1 _ _)).tr m2
    have p26 : ρ2.1 0 26 = nI k := by rw [m3, q_wIn (by omega), q26]
    have rd : ∀ ρ3, f_X13_wantsSemicolon ρ2 = some ρ3 → KP ρ2 ρ3 → f_X13_readsCommand ρ = some (wI ρ3 0 26 (nI (k + 1))) := by
      intro ρ3 hs h4
      have p3 : ρ3.1 0 26 = nI k := (h4.2 26 (by omega)).trans p26
      simp (maxSteps := 2000000) (disch := first | rfl | exact q_e1 _ _ _ | exact q_sr1 _ _ | omega) only [f_X13_readsCommand, ↓q_m1, q_l0, q_l1, q_l2, q_l3, q_l4, q_l5, q_l6, q_l7, q_l8, q_l9, q_l10, q_l11, q_l12, q_l13, q_l14, q_l15, q_l16, q_l17, q_l18, q_l19, q_l20, q_l21, q_l22, q_l23, q_l24, q_l25, q_l26, q_l27, q_l28, q_l29, q_l30, q_l31, q_l32, q_l33, q_l45, q_l46, q_l48, q_l57, q_l58, q_l59, q_l60, q_l61, q_l62, q_l63, q_l64, q_l96, q_l97, q_l99, q_l122, q_l129, q_l137, q_l255, q_l256, q_l400, q_l680, q_l700, q_l959, q_l999, q_l9999, q_l10000, q_l100000, q_ltT, q_ltF, q_leT, q_leF, q_eqF, q_eqR, q_mlt, q_mle, q_nlm, q_nLm, q_nem, q_men, q_mlm, Nat.add_zero, Nat.sub_zero, q_add0, pk_rem, nI_add, pk_mul, q_sub, q_subm, q_addm, nI_clamp, q_inT, q_inF, q_sr1, q_srn, q_srw, q_srs, q_wIs, q_wIn, q_wI2, q_wJ1, q_wJs, q_wJn, q_wR1, q_wRs, q_wRn, q_wI22, q_wJ22, pk_us, pk_un, pk_uLs, pk_uLn, q_usS, q_usN, q_ups, q_upn, Bool.true_eq_false, Bool.false_eq_true, q_lt, q_o2, q_o3, q_o4, q_o5, q_bi, ↓reduceIte, q_tv0, q_tv1, q_bz, q_oRl, q_oRr, q_oXl, q_oXr, v2, e2, n2, q26, m1', hs, p3]
    rcases m7 with ⟨τ2, τ3, d1, d2, d3, d4, d5, d6, d7⟩ | ⟨π', d1, d2⟩ | ⟨τ2, π', d1, d2, d3, d4⟩
    · obtain ⟨ρ3, s1, s2, s3⟩ := sem_two d7
      have kk := (k2.tr s2.kc).tr (KC.w26 ρ3 (nI (k + 1)))
      have q13 : ∀ i, ρ3.1 13 i = ρ2.1 13 i := fun i => congrFun (s2.1 13 (by omega)) i
      rcases s3 with ⟨τ4, t1, t2⟩ | ⟨π', t1, t2⟩
      · refine ⟨nI 1, π, τ4, wI (wI (wR ς 1 k (some b)) 2 k x) 3 k y, wI ρ3 0 26 (nI (k + 1)), ?_, rd ρ3 s1 s2, kk, Or.inl ⟨rfl, ?_, by simp (maxSteps := 2000000) (disch := first | rfl | exact q_e1 _ _ _ | exact q_sr1 _ _ | omega) only [q_sr1, q_srn, q_srw, q_srs, q_wIs, q_wIn, q_wI2, q_wJ1, q_wJs, q_wJn, q_wR1, q_wRs, q_wRn, q_wI22, q_wJ22, pk_us, pk_un, pk_uLs, pk_uLn, q_usS, q_usN, q_ups, q_upn], t2.w26 _, fun j hj => ?_⟩⟩
        · simp (maxSteps := 2000000) (disch := first | rfl | exact q_e1 _ _ _ | exact q_sr1 _ _ | omega) only [f_X8_readCommand, ↓q_m1, q_l0, q_l1, q_l2, q_l3, q_l4, q_l5, q_l6, q_l7, q_l8, q_l9, q_l10, q_l11, q_l12, q_l13, q_l14, q_l15, q_l16, q_l17, q_l18, q_l19, q_l20, q_l21, q_l22, q_l23, q_l24, q_l25, q_l26, q_l27, q_l28, q_l29, q_l30, q_l31, q_l32, q_l33, q_l45, q_l46, q_l48, q_l57, q_l58, q_l59, q_l60, q_l61, q_l62, q_l63, q_l64, q_l96, q_l97, q_l99, q_l122, q_l129, q_l137, q_l255, q_l256, q_l400, q_l680, q_l700, q_l959, q_l999, q_l9999, q_l10000, q_l100000, q_ltT, q_ltF, q_leT, q_leF, q_eqF, q_eqR, q_mlt, q_mle, q_nlm, q_nLm, q_nem, q_men, q_mlm, Nat.add_zero, Nat.sub_zero, q_add0, pk_rem, nI_add, pk_mul, q_sub, q_subm, q_addm, nI_clamp, q_inT, q_inF, q_sr1, q_srn, q_srw, q_srs, q_wIs, q_wIn, q_wI2, q_wJ1, q_wJs, q_wJn, q_wR1, q_wRs, q_wRn, q_wI22, q_wJ22, pk_us, pk_un, pk_uLs, pk_uLn, q_usS, q_usN, q_ups, q_upn, Bool.true_eq_false, Bool.false_eq_true, q_lt, q_o2, q_o3, q_o4, q_o5, q_bi, ↓reduceIte, q_tv0, q_tv1, q_bz, q_oRl, q_oRr, q_oXl, q_oXr, q_bz0, q_bz1, q_oeN, q_oeS, v1, e1, n1, eq_true hb, fe, ge, d1, d2, d3, d4, t1]
        · simp (maxSteps := 2000000) (disch := first | rfl | exact q_e1 _ _ _ | exact q_sr1 _ _ | omega) only [q_sr1, q_srn, q_srw, q_srs, q_wIs, q_wIn, q_wI2, q_wJ1, q_wJs, q_wJn, q_wR1, q_wRs, q_wRn, q_wI22, q_wJ22, pk_us, pk_un, pk_uLs, pk_uLn, q_usS, q_usN, q_ups, q_upn, e1]
        · by_cases hjk : j = k
          · subst hjk
            refine ⟨b, x, y, hb, ?_, ?_, ?_, ?_, ?_, fun hbb => ?_, d5, d6⟩
            · simp (maxSteps := 2000000) (disch := first | rfl | exact q_e1 _ _ _ | exact q_sr1 _ _ | omega) only [q_sr1, q_srn, q_srw, q_srs, q_wIs, q_wIn, q_wI2, q_wJ1, q_wJs, q_wJn, q_wR1, q_wRs, q_wRn, q_wI22, q_wJ22, pk_us, pk_un, pk_uLs, pk_uLn, q_usS, q_usN, q_ups, q_upn]
            · simp (maxSteps := 2000000) (disch := first | rfl | exact q_e1 _ _ _ | exact q_sr1 _ _ | omega) only [q_sr1, q_srn, q_srw, q_srs, q_wIs, q_wIn, q_wI2, q_wJ1, q_wJs, q_wJn, q_wR1, q_wRs, q_wRn, q_wI22, q_wJ22, pk_us, pk_un, pk_uLs, pk_uLn, q_usS, q_usN, q_ups, q_upn]
            · simp (maxSteps := 2000000) (disch := first | rfl | exact q_e1 _ _ _ | exact q_sr1 _ _ | omega) only [q_sr1, q_srn, q_srw, q_srs, q_wIs, q_wIn, q_wI2, q_wJ1, q_wJs, q_wJn, q_wR1, q_wRs, q_wRn, q_wI22, q_wJ22, pk_us, pk_un, pk_uLs, pk_uLn, q_usS, q_usN, q_ups, q_upn]
            · rw [q_wIn (by omega), q13, m4 _ (by omega), q_wIs, pk_us]
            · rw [q_wIn (by omega), q13, m5]
            · rw [q_wIn (by omega), q13, m6 hbb]
          · have hj' : j < k := by omega
            refine (hc j hj').k ?_ ?_ ?_ (fun i i1 i2 => ?_)
            · simp (maxSteps := 2000000) (disch := first | rfl | exact q_e1 _ _ _ | exact q_sr1 _ _ | omega) only [q_sr1, q_srn, q_srw, q_srs, q_wIs, q_wIn, q_wI2, q_wJ1, q_wJs, q_wJn, q_wR1, q_wRs, q_wRn, q_wI22, q_wJ22, pk_us, pk_un, pk_uLs, pk_uLn, q_usS, q_usN, q_ups, q_upn, hjk]
            · simp (maxSteps := 2000000) (disch := first | rfl | exact q_e1 _ _ _ | exact q_sr1 _ _ | omega) only [q_sr1, q_srn, q_srw, q_srs, q_wIs, q_wIn, q_wI2, q_wJ1, q_wJs, q_wJn, q_wR1, q_wRs, q_wRn, q_wI22, q_wJ22, pk_us, pk_un, pk_uLs, pk_uLn, q_usS, q_usN, q_ups, q_upn, hjk]
            · simp (maxSteps := 2000000) (disch := first | rfl | exact q_e1 _ _ _ | exact q_sr1 _ _ | omega) only [q_sr1, q_srn, q_srw, q_srs, q_wIs, q_wIn, q_wI2, q_wJ1, q_wJs, q_wJn, q_wR1, q_wRs, q_wRn, q_wI22, q_wJ22, pk_us, pk_un, pk_uLs, pk_uLn, q_usS, q_usN, q_ups, q_upn, hjk]
            · rw [q_wIn (by omega), q13, m4 _ (by omega), q_wIs, pk_un (by omega), n4.1 13 (by omega)]
      · refine ⟨nI 0, π', τ3, wI (wI (wR ς 1 k (some b)) 2 k x) 3 k y, wI ρ3 0 26 (nI (k + 1)), ?_, rd ρ3 s1 s2, kk, Or.inr ⟨rfl, t2.w26 _⟩⟩
        simp (maxSteps := 2000000) (disch := first | rfl | exact q_e1 _ _ _ | exact q_sr1 _ _ | omega) only [f_X8_readCommand, ↓q_m1, q_l0, q_l1, q_l2, q_l3, q_l4, q_l5, q_l6, q_l7, q_l8, q_l9, q_l10, q_l11, q_l12, q_l13, q_l14, q_l15, q_l16, q_l17, q_l18, q_l19, q_l20, q_l21, q_l22, q_l23, q_l24, q_l25, q_l26, q_l27, q_l28, q_l29, q_l30, q_l31, q_l32, q_l33, q_l45, q_l46, q_l48, q_l57, q_l58, q_l59, q_l60, q_l61, q_l62, q_l63, q_l64, q_l96, q_l97, q_l99, q_l122, q_l129, q_l137, q_l255, q_l256, q_l400, q_l680, q_l700, q_l959, q_l999, q_l9999, q_l10000, q_l100000, q_ltT, q_ltF, q_leT, q_leF, q_eqF, q_eqR, q_mlt, q_mle, q_nlm, q_nLm, q_nem, q_men, q_mlm, Nat.add_zero, Nat.sub_zero, q_add0, pk_rem, nI_add, pk_mul, q_sub, q_subm, q_addm, nI_clamp, q_inT, q_inF, q_sr1, q_srn, q_srw, q_srs, q_wIs, q_wIn, q_wI2, q_wJ1, q_wJs, q_wJn, q_wR1, q_wRs, q_wRn, q_wI22, q_wJ22, pk_us, pk_un, pk_uLs, pk_uLn, q_usS, q_usN, q_ups, q_upn, Bool.true_eq_false, Bool.false_eq_true, q_lt, q_o2, q_o3, q_o4, q_o5, q_bi, ↓reduceIte, q_tv0, q_tv1, q_bz, q_oRl, q_oRr, q_oXl, q_oXr, q_bz0, q_bz1, q_oeN, q_oeS, v1, e1, n1, eq_true hb, fe, ge, d1, d2, d3, d4, t1]
    · refine ⟨nI 0, π', τ1, ς, wI ρ2 0 26 (nI (k + 1)), ?_, rd ρ2 (r_semF d2.1) (KP.rf ρ2), k2.tr (KC.w26 ρ2 _), Or.inr ⟨rfl, d2.w26 _⟩⟩
      simp (maxSteps := 2000000) (disch := first | rfl | exact q_e1 _ _ _ | exact q_sr1 _ _ | omega) only [f_X8_readCommand, ↓q_m1, q_l0, q_l1, q_l2, q_l3, q_l4, q_l5, q_l6, q_l7, q_l8, q_l9, q_l10, q_l11, q_l12, q_l13, q_l14, q_l15, q_l16, q_l17, q_l18, q_l19, q_l20, q_l21, q_l22, q_l23, q_l24, q_l25, q_l26, q_l27, q_l28, q_l29, q_l30, q_l31, q_l32, q_l33, q_l45, q_l46, q_l48, q_l57, q_l58, q_l59, q_l60, q_l61, q_l62, q_l63, q_l64, q_l96, q_l97, q_l99, q_l122, q_l129, q_l137, q_l255, q_l256, q_l400, q_l680, q_l700, q_l959, q_l999, q_l9999, q_l10000, q_l100000, q_ltT, q_ltF, q_leT, q_leF, q_eqF, q_eqR, q_mlt, q_mle, q_nlm, q_nLm, q_nem, q_men, q_mlm, Nat.add_zero, Nat.sub_zero, q_add0, pk_rem, nI_add, pk_mul, q_sub, q_subm, q_addm, nI_clamp, q_inT, q_inF, q_sr1, q_srn, q_srw, q_srs, q_wIs, q_wIn, q_wI2, q_wJ1, q_wJs, q_wJn, q_wR1, q_wRs, q_wRn, q_wI22, q_wJ22, pk_us, pk_un, pk_uLs, pk_uLn, q_usS, q_usN, q_ups, q_upn, Bool.true_eq_false, Bool.false_eq_true, q_lt, q_o2, q_o3, q_o4, q_o5, q_bi, ↓reduceIte, q_tv0, q_tv1, q_bz, q_oRl, q_oRr, q_oXl, q_oXr, q_bz0, q_bz1, q_oeN, q_oeS, v1, e1, n1, eq_true hb, fe, d1]
    · refine ⟨nI 0, π', τ2, ς, wI ρ2 0 26 (nI (k + 1)), ?_, rd ρ2 (r_semF d4.1) (KP.rf ρ2), k2.tr (KC.w26 ρ2 _), Or.inr ⟨rfl, d4.w26 _⟩⟩
      simp (maxSteps := 2000000) (disch := first | rfl | exact q_e1 _ _ _ | exact q_sr1 _ _ | omega) only [f_X8_readCommand, ↓q_m1, q_l0, q_l1, q_l2, q_l3, q_l4, q_l5, q_l6, q_l7, q_l8, q_l9, q_l10, q_l11, q_l12, q_l13, q_l14, q_l15, q_l16, q_l17, q_l18, q_l19, q_l20, q_l21, q_l22, q_l23, q_l24, q_l25, q_l26, q_l27, q_l28, q_l29, q_l30, q_l31, q_l32, q_l33, q_l45, q_l46, q_l48, q_l57, q_l58, q_l59, q_l60, q_l61, q_l62, q_l63, q_l64, q_l96, q_l97, q_l99, q_l122, q_l129, q_l137, q_l255, q_l256, q_l400, q_l680, q_l700, q_l959, q_l999, q_l9999, q_l10000, q_l100000, q_ltT, q_ltF, q_leT, q_leF, q_eqF, q_eqR, q_mlt, q_mle, q_nlm, q_nLm, q_nem, q_men, q_mlm, Nat.add_zero, Nat.sub_zero, q_add0, pk_rem, nI_add, pk_mul, q_sub, q_subm, q_addm, nI_clamp, q_inT, q_inF, q_sr1, q_srn, q_srw, q_srs, q_wIs, q_wIn, q_wI2, q_wJ1, q_wJs, q_wJn, q_wR1, q_wRs, q_wRn, q_wI22, q_wJ22, pk_us, pk_un, pk_uLs, pk_uLn, q_usS, q_usN, q_ups, q_upn, Bool.true_eq_false, Bool.false_eq_true, q_lt, q_o2, q_o3, q_o4, q_o5, q_bi, ↓reduceIte, q_tv0, q_tv1, q_bz, q_oRl, q_oRr, q_oXl, q_oXr, q_bz0, q_bz1, q_oeN, q_oeS, v1, e1, n1, eq_true hb, fe, ge, d1, d2, d3]
end READ

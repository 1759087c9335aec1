/-! the input text -/
def TN (c : Nat) (β ρ : OM) : Prop := β.1 0 1 = nI c ∧ ρ.1 0 7 = nI c ∧ ∀ j, j < c → ∃ b, b < 256 ∧ β.1 1 j = nI b ∧ ρ.1 5 j = nI b
def KI (ρ ρ' : OM) : Prop := (∀ k, k ≠ 0 → k ≠ 5 → ρ'.1 k = ρ.1 k) ∧ ∀ f, f ≠ 7 → ρ'.1 0 f = ρ.1 0 f
theorem KI.rf (ρ : OM) : KI ρ ρ := ⟨fun _ _ _ => rfl, fun _ _ => rfl⟩
theorem KI.tr {ρ ρ' ρ'' : OM} (h : KI ρ ρ') (g : KI ρ' ρ'') : KI ρ ρ'' := ⟨fun k h0 h1 => (g.1 k h0 h1).trans (h.1 k h0 h1), fun f hf => (g.2 f hf).trans (h.2 f hf)⟩
theorem x_toInt (x : Int32) : x.toInt = if x.toBitVec.toNat < 2 ^ 31 then (x.toBitVec.toNat : Int) else (x.toBitVec.toNat : Int) - 2 ^ 32 := by
  show x.toBitVec.toInt = _
  rw [BitVec.toInt_eq_toNat_cond]
  by_cases h : x.toBitVec.toNat < 2 ^ 31
  · rw [if_pos h, if_pos (by omega)]
  · rw [if_neg h, if_neg (by omega)]
    rfl
theorem x_mod {y : Int32} {z : Int} (h : y.toInt = z) : ((y.toBitVec.toNat % 256 : Nat) : Int) = z % 256 := by
  have := x_toInt y
  rw [h] at this
  have hb := y.toBitVec.isLt
  split at this <;> omega
theorem byt24 (x : Int32) : ∃ b, b < 256 ∧ (x.toUInt32 >>> (Int32.toUInt32 (nI 24) &&& Int32.toUInt32 (nI 31))).toInt32 &&& nI 255 = nI b ∧ (x >>> (nI 24 &&& nI 31)) &&& nI 255 = nI b := by
  have h1 := pk_ushr x (nI 24) 24 (by decide)
  have h2 := pk_shr x (nI 24 &&& nI 31) 24 (by decide)
  rw [Int.shiftRight_eq_div_pow] at h2
  refine ⟨x.toBitVec.toNat / 2 ^ 24 % 256, by omega, ?_, ?_⟩
  · show ((x.toUInt32 >>> ((nI 24).toUInt32 &&& Int32.toUInt32 31)).toInt32) &&& nI 255 = _
    rw [pk_and _ 8 (by decide), h1]
  · rw [pk_and _ 8 (by decide)]
    congr 1
    have h3 := x_mod h2
    have h4 := x_toInt x
    have hb := x.toBitVec.isLt
    have h5 : (((x >>> (nI 24 &&& nI 31)).toBitVec.toNat % 2 ^ 8 : Nat) : Int) = ((x.toBitVec.toNat / 2 ^ 24 % 256 : Nat) : Int) := by
      rw [show (2 : Nat) ^ 8 = 256 by decide, h3, h4]
      split <;> omega
    exact Int.ofNat.inj h5
theorem byt16 (x : Int32) : ∃ b, b < 256 ∧ (x.toUInt32 >>> (Int32.toUInt32 (nI 16) &&& Int32.toUInt32 (nI 31))).toInt32 &&& nI 255 = nI b ∧ (x >>> (nI 16 &&& nI 31)) &&& nI 255 = nI b := by
  have h1 := pk_ushr x (nI 16) 16 (by decide)
  have h2 := pk_shr x (nI 16 &&& nI 31) 16 (by decide)
  rw [Int.shiftRight_eq_div_pow] at h2
  refine ⟨x.toBitVec.toNat / 2 ^ 16 % 256, by omega, ?_, ?_⟩
  · show ((x.toUInt32 >>> ((nI 16).toUInt32 &&& Int32.toUInt32 31)).toInt32) &&& nI 255 = _
    rw [pk_and _ 8 (by decide), h1]
  · rw [pk_and _ 8 (by decide)]
    congr 1
    have h3 := x_mod h2
    have h4 := x_toInt x
    have hb := x.toBitVec.isLt
    have h5 : (((x >>> (nI 16 &&& nI 31)).toBitVec.toNat % 2 ^ 8 : Nat) : Int) = ((x.toBitVec.toNat / 2 ^ 16 % 256 : Nat) : Int) := by
      rw [show (2 : Nat) ^ 8 = 256 by decide, h3, h4]
      split <;> omega
    exact Int.ofNat.inj h5
theorem byt8 (x : Int32) : ∃ b, b < 256 ∧ (x.toUInt32 >>> (Int32.toUInt32 (nI 8) &&& Int32.toUInt32 (nI 31))).toInt32 &&& nI 255 = nI b ∧ (x >>> (nI 8 &&& nI 31)) &&& nI 255 = nI b := by
  have h1 := pk_ushr x (nI 8) 8 (by decide)
  have h2 := pk_shr x (nI 8 &&& nI 31) 8 (by decide)
  rw [Int.shiftRight_eq_div_pow] at h2
  refine ⟨x.toBitVec.toNat / 2 ^ 8 % 256, by omega, ?_, ?_⟩
  · show ((x.toUInt32 >>> ((nI 8).toUInt32 &&& Int32.toUInt32 31)).toInt32) &&& nI 255 = _
    rw [pk_and _ 8 (by decide), h1]
  · rw [pk_and _ 8 (by decide)]
    congr 1
    have h3 := x_mod h2
    have h4 := x_toInt x
    have hb := x.toBitVec.isLt
    have h5 : (((x >>> (nI 8 &&& nI 31)).toBitVec.toNat % 2 ^ 8 : Nat) : Int) = ((x.toBitVec.toNat / 2 ^ 8 % 256 : Nat) : Int) := by
      rw [show (2 : Nat) ^ 8 = 256 by decide, h3, h4]
      split <;> omega
    exact Int.ofNat.inj h5
theorem byt0 (x : Int32) : ∃ b, b < 256 ∧ (x.toUInt32 >>> (Int32.toUInt32 (nI 0) &&& Int32.toUInt32 (nI 31))).toInt32 &&& nI 255 = nI b ∧ (x >>> (nI 0 &&& nI 31)) &&& nI 255 = nI b := by
  have h1 := pk_ushr x (nI 0) 0 (by decide)
  have h2 := pk_shr x (nI 0 &&& nI 31) 0 (by decide)
  rw [Int.shiftRight_eq_div_pow] at h2
  refine ⟨x.toBitVec.toNat / 2 ^ 0 % 256, by omega, ?_, ?_⟩
  · show ((x.toUInt32 >>> ((nI 0).toUInt32 &&& Int32.toUInt32 31)).toInt32) &&& nI 255 = _
    rw [pk_and _ 8 (by decide), h1]
  · rw [pk_and _ 8 (by decide)]
    congr 1
    have h3 := x_mod h2
    have h4 := x_toInt x
    have hb := x.toBitVec.isLt
    have h5 : (((x >>> (nI 0 &&& nI 31)).toBitVec.toNat % 2 ^ 8 : Nat) : Int) = ((x.toBitVec.toNat / 2 ^ 0 % 256 : Nat) : Int) := by
      rw [show (2 : Nat) ^ 8 = 256 by decide, h3, h4]
      split <;> omega
    exact Int.ofNat.inj h5
theorem q_p8 {a : Nat} (h : 8 ≤ a) : nI a + -nI 8 = nI (a - 8) := by
  obtain ⟨b, rfl⟩ : ∃ b, a = b + 8 := ⟨a - 8, by omega⟩
  rw [Nat.add_sub_cancel]
  exact q_m8 b
theorem q_z8 : (nI 0 + -nI 8 < nI 0) = True := by decide
section INP
variable {c : Nat} {β ρ : OM}
theorem ad_two (h : TN c β ρ) (hc : c < 700) {b : Nat} (hb : b < 256) : f_X2_add (nI b) β = some (wI (wI β 1 c (nI b)) 0 1 (nI (c + 1))) ∧ TN (c + 1) (wI (wI β 1 c (nI b)) 0 1 (nI (c + 1))) (wI (wI ρ 5 c (nI b)) 0 7 (nI (c + 1))) ∧ KI ρ (wI (wI ρ 5 c (nI b)) 0 7 (nI (c + 1))) := by
  obtain ⟨h1, h2, h3⟩ := h
  refine ⟨by simp (maxSteps := 2000000) (disch := first | rfl | exact q_e1 _ _ _ | exact q_sr1 _ _ | omega) only [f_X2_add, ↓q_m1, q_l0, q_l1, q_l2, q_l3, q_l4, q_l5, q_l6, q_l7, q_l8, q_l9, q_l10, q_l11, q_l12, q_l13, q_l14, q_l15, q_l16, q_l17, q_l18, q_l19, q_l20, q_l21, q_l22, q_l23, q_l24, q_l25, q_l26, q_l27, q_l28, q_l29, q_l30, q_l31, q_l32, q_l33, q_l45, q_l46, q_l48, q_l57, q_l58, q_l59, q_l60, q_l61, q_l62, q_l63, q_l64, q_l96, q_l97, q_l99, q_l122, q_l129, q_l137, q_l255, q_l256, q_l400, q_l680, q_l700, q_l959, q_l999, q_l9999, q_l10000, q_l100000, q_ltT, q_ltF, q_leT, q_leF, q_eqF, q_eqR, q_mlt, q_mle, q_nlm, q_nLm, q_nem, q_men, q_mlm, Nat.add_zero, Nat.sub_zero, q_add0, pk_rem, nI_add, pk_mul, q_sub, q_subm, q_addm, nI_clamp, q_inT, q_inF, q_sr1, q_srn, q_srw, q_srs, q_wIs, q_wIn, q_wI2, q_wJ1, q_wJs, q_wJn, q_wR1, q_wRs, q_wRn, q_wI22, q_wJ22, pk_us, pk_un, pk_uLs, pk_uLn, q_usS, q_usN, q_ups, q_upn, Bool.true_eq_false, Bool.false_eq_true, q_lt, q_o2, q_o3, q_o4, q_o5, q_bi, ↓reduceIte, q_tv0, q_tv1, q_bz, q_oRl, q_oRr, q_oXl, q_oXr, h1], ⟨by simp (maxSteps := 2000000) (disch := first | rfl | exact q_e1 _ _ _ | exact q_sr1 _ _ | omega) only [q_sr1, q_srn, q_srw, q_srs, q_wIs, q_wIn, q_wI2, q_wJ1, q_wJs, q_wJn, q_wR1, q_wRs, q_wRn, q_wI22, q_wJ22, pk_us, pk_un, pk_uLs, pk_uLn, q_usS, q_usN, q_ups, q_upn], by simp (maxSteps := 2000000) (disch := first | rfl | exact q_e1 _ _ _ | exact q_sr1 _ _ | omega) only [q_sr1, q_srn, q_srw, q_srs, q_wIs, q_wIn, q_wI2, q_wJ1, q_wJs, q_wJn, q_wR1, q_wRs, q_wRn, q_wI22, q_wJ22, pk_us, pk_un, pk_uLs, pk_uLn, q_usS, q_usN, q_ups, q_upn], fun j hj => ?_⟩, fun k h0 h6 => (q_wIn h0).trans (q_wIn h6), fun f hf => by rw [q_wIs, pk_un hf, q_wIn (by omega)]⟩
  rw [q_wIn (show (1 : Nat) ≠ 0 by omega), q_wIs, q_wIn (show (5 : Nat) ≠ 0 by omega), q_wIs]
  by_cases e : j = c
  · subst e; rw [pk_us, pk_us]; exact ⟨b, hb, rfl, rfl⟩
  · rw [pk_un e, pk_un e]; exact h3 j (by omega)
theorem four_two (h : TN c β ρ) (hc : c + 4 ≤ 700) (x : Int32) : ∃ β' ρ', f_X2_addWord x β = some β' ∧ f_X13_four x ρ = some ρ' ∧ TN (c + 4) β' ρ' ∧ KI ρ ρ' := by
  obtain ⟨b1, k1, e1, d1⟩ := byt24 x
  obtain ⟨b2, k2, e2, d2⟩ := byt16 x
  obtain ⟨b3, k3, e3, d3⟩ := byt8 x
  obtain ⟨b4, k4, e4, d4⟩ := byt0 x
  obtain ⟨f1, g1, p1⟩ := ad_two h (by omega) k1
  obtain ⟨f2, g2, p2⟩ := ad_two g1 (by omega) k2
  obtain ⟨f3, g3, p3⟩ := ad_two g2 (by omega) k3
  obtain ⟨f4, g4, p4⟩ := ad_two g3 (by omega) k4
  refine ⟨_, _, ?_, ?_, g4, p1.tr (p2.tr (p3.tr p4))⟩
  · unfold f_X2_addWord
    rw [show FU = 1995 + 1 + 1 + 1 + 1 + 1 from rfl]
    simp (maxSteps := 2000000) (disch := first | rfl | exact q_e1 _ _ _ | exact q_sr1 _ _ | omega) only [f_X2_addWord_3, ↓q_m1, q_l0, q_l1, q_l2, q_l3, q_l4, q_l5, q_l6, q_l7, q_l8, q_l9, q_l10, q_l11, q_l12, q_l13, q_l14, q_l15, q_l16, q_l17, q_l18, q_l19, q_l20, q_l21, q_l22, q_l23, q_l24, q_l25, q_l26, q_l27, q_l28, q_l29, q_l30, q_l31, q_l32, q_l33, q_l45, q_l46, q_l48, q_l57, q_l58, q_l59, q_l60, q_l61, q_l62, q_l63, q_l64, q_l96, q_l97, q_l99, q_l122, q_l129, q_l137, q_l255, q_l256, q_l400, q_l680, q_l700, q_l959, q_l999, q_l9999, q_l10000, q_l100000, q_ltT, q_ltF, q_leT, q_leF, q_eqF, q_eqR, q_mlt, q_mle, q_nlm, q_nLm, q_nem, q_men, q_mlm, Bool.true_eq_false, Bool.false_eq_true, q_lt, q_o2, q_o3, q_o4, q_o5, q_bi, ↓reduceIte, q_tv0, q_tv1, q_bz, q_oRl, q_oRr, q_oXl, q_oXr, q_p8, q_z8, e1, e2, e3, e4, f1, f2, f3, f4, Nat.reduceSub]
  · unfold f_X13_four
    rw [show FU = 1995 + 1 + 1 + 1 + 1 + 1 from rfl]
    simp (maxSteps := 2000000) (disch := first | rfl | exact q_e1 _ _ _ | exact q_sr1 _ _ | omega) only [f_X13_four_3, ↓q_m1, q_l0, q_l1, q_l2, q_l3, q_l4, q_l5, q_l6, q_l7, q_l8, q_l9, q_l10, q_l11, q_l12, q_l13, q_l14, q_l15, q_l16, q_l17, q_l18, q_l19, q_l20, q_l21, q_l22, q_l23, q_l24, q_l25, q_l26, q_l27, q_l28, q_l29, q_l30, q_l31, q_l32, q_l33, q_l45, q_l46, q_l48, q_l57, q_l58, q_l59, q_l60, q_l61, q_l62, q_l63, q_l64, q_l96, q_l97, q_l99, q_l122, q_l129, q_l137, q_l255, q_l256, q_l400, q_l680, q_l700, q_l959, q_l999, q_l9999, q_l10000, q_l100000, q_ltT, q_ltF, q_leT, q_leF, q_eqF, q_eqR, q_mlt, q_mle, q_nlm, q_nLm, q_nem, q_men, q_mlm, Nat.add_zero, Nat.sub_zero, q_add0, pk_rem, nI_add, pk_mul, q_sub, q_subm, q_addm, nI_clamp, q_inT, q_inF, q_sr1, q_srn, q_srw, q_srs, q_wIs, q_wIn, q_wI2, q_wJ1, q_wJs, q_wJn, q_wR1, q_wRs, q_wRn, q_wI22, q_wJ22, pk_us, pk_un, pk_uLs, pk_uLn, q_usS, q_usN, q_ups, q_upn, Bool.true_eq_false, Bool.false_eq_true, q_lt, q_o2, q_o3, q_o4, q_o5, q_bi, ↓reduceIte, q_tv0, q_tv1, q_bz, q_oRl, q_oRr, q_oXl, q_oXr, q_p8, q_z8, d1, d2, d3, d4, h.2.1, Nat.reduceSub]
end INP
section FACE
variable {B : Nat} {σ : SM}
theorem Rel.inp (h : Rel B σ) {β' ρ' : OM} {c : Nat} (hc : c ≤ 700) (ht : TN c β' ρ') (k1 : ∀ k, k = 1 ∨ k = 3 ∨ k = 4 ∨ k = 6 → ρ'.1 k = (σ 20).1 k) (k2 : ∀ f, f = 4 ∨ f = 5 ∨ f = 11 ∨ f = 8 ∨ f = 9 → ρ'.1 0 f = (σ 20).1 0 f) : Rel B (us (us σ 13 β') 20 ρ') := by
  obtain ⟨h1, h2, h3, h4, h5, h6, h7⟩ := h
  refine ⟨?_, ?_, ?_, ?_, ?_, ?_, ?_⟩
  · rw [q_usS, k1 1 (by omega), q_usN (by omega), q_usN (by omega)]; exact h1
  · rw [q_usS, k1 3 (by omega), k2 5 (by omega), q_usN (by omega), q_usN (by omega), q_usN (by omega), q_usN (by omega)]; exact h2
  · obtain ⟨q, k, g1, g2, g3, g4, g5, g6⟩ := h3
    refine ⟨q, k, g1, g2, ?_, ?_, ?_, fun j hj => ?_⟩
    · rw [q_usN (by omega), q_usN (by omega)]; exact g3
    · rw [q_usN (by omega), q_usN (by omega)]; exact g4
    · rw [q_usS, k2 4 (by omega)]; exact g5
    · rw [q_usS, k1 4 (by omega)]
      show MW B (us (us σ 13 β') 20 ρ' (3 + (q + j) % 8)) _
      rw [q_usN (by omega), q_usN (by omega)]; exact g6 j hj
  · rw [q_usS, q_usN (by omega), q_usS]
    exact ⟨c, hc, ht.1, ht.2.1, ht.2.2⟩
  · rw [q_usS, k1 6 (by omega), k2 11 (by omega), q_usN (by omega), q_usN (by omega)]; exact h5
  · rw [q_usS, k2 8 (by omega), q_usN (by omega), q_usN (by omega)]; exact h6
  · rw [q_usS, k2 9 (by omega), q_usN (by omega), q_usN (by omega)]; exact h7
theorem P_appendInput (h : Rel B σ) (x0 x1 x2 x3 x4 : Int32) : FS B B σ [0] (f_X12_appendInput x0 x1 x2 x3 x4 σ) (f_X13_appendInput x0 x1 x2 x3 x4 (σ 20)) := by
  obtain ⟨c, hc, i1, i2, i3⟩ := h.2.2.2.1
  by_cases hcc : c ≤ 680
  · have t0 : TN c (σ 13) (wI (σ 20) 0 12 (nI 0)) := ⟨i1, by simp (maxSteps := 2000000) (disch := first | rfl | exact q_e1 _ _ _ | exact q_sr1 _ _ | omega) only [q_sr1, q_srn, q_srw, q_srs, q_wIs, q_wIn, q_wI2, q_wJ1, q_wJs, q_wJn, q_wR1, q_wRs, q_wRn, q_wI22, q_wJ22, pk_us, pk_un, pk_uLs, pk_uLn, q_usS, q_usN, q_ups, q_upn, i2], i3⟩
    obtain ⟨β1, ρ1, a1, b1, t1, k1⟩ := four_two t0 (by omega) x0
    obtain ⟨β2, ρ2, a2, b2, t2, k2⟩ := four_two t1 (by omega) x1
    obtain ⟨β3, ρ3, a3, b3, t3, k3⟩ := four_two t2 (by omega) x2
    obtain ⟨β4, ρ4, a4, b4, t4, k4⟩ := four_two t3 (by omega) x3
    obtain ⟨β5, ρ5, a5, b5, t5, k5⟩ := four_two t4 (by omega) x4
    have k := k1.tr (k2.tr (k3.tr (k4.tr k5)))
    refine ⟨_, nI (c + 4 + 4 + 4 + 4 + 4), ρ5, ?_, ?_, Or.inr ⟨us σ 13 β5, rfl, ?_, q_usN (by omega), h.inp (by omega) t5 (fun k' hk => ?_) (fun f hf => ?_)⟩⟩
    · simp (maxSteps := 2000000) (disch := first | rfl | exact q_e1 _ _ _ | exact q_sr1 _ _ | omega) only [f_X12_appendInput, ↓q_m1, q_l0, q_l1, q_l2, q_l3, q_l4, q_l5, q_l6, q_l7, q_l8, q_l9, q_l10, q_l11, q_l12, q_l13, q_l14, q_l15, q_l16, q_l17, q_l18, q_l19, q_l20, q_l21, q_l22, q_l23, q_l24, q_l25, q_l26, q_l27, q_l28, q_l29, q_l30, q_l31, q_l32, q_l33, q_l45, q_l46, q_l48, q_l57, q_l58, q_l59, q_l60, q_l61, q_l62, q_l63, q_l64, q_l96, q_l97, q_l99, q_l122, q_l129, q_l137, q_l255, q_l256, q_l400, q_l680, q_l700, q_l959, q_l999, q_l9999, q_l10000, q_l100000, q_ltT, q_ltF, q_leT, q_leF, q_eqF, q_eqR, q_mlt, q_mle, q_nlm, q_nLm, q_nem, q_men, q_mlm, Nat.add_zero, Nat.sub_zero, q_add0, pk_rem, nI_add, pk_mul, q_sub, q_subm, q_addm, nI_clamp, q_inT, q_inF, q_sr1, q_srn, q_srw, q_srs, q_wIs, q_wIn, q_wI2, q_wJ1, q_wJs, q_wJn, q_wR1, q_wRs, q_wRn, q_wI22, q_wJ22, pk_us, pk_un, pk_uLs, pk_uLn, q_usS, q_usN, q_ups, q_upn, Bool.true_eq_false, Bool.false_eq_true, q_lt, q_o2, q_o3, q_o4, q_o5, q_bi, ↓reduceIte, q_tv0, q_tv1, q_bz, q_oRl, q_oRr, q_oXl, q_oXr, i1, us_us, a1, a2, a3, a4, a5, t5.1]
    · simp (maxSteps := 2000000) (disch := first | rfl | exact q_e1 _ _ _ | exact q_sr1 _ _ | omega) only [f_X13_appendInput, ↓q_m1, q_l0, q_l1, q_l2, q_l3, q_l4, q_l5, q_l6, q_l7, q_l8, q_l9, q_l10, q_l11, q_l12, q_l13, q_l14, q_l15, q_l16, q_l17, q_l18, q_l19, q_l20, q_l21, q_l22, q_l23, q_l24, q_l25, q_l26, q_l27, q_l28, q_l29, q_l30, q_l31, q_l32, q_l33, q_l45, q_l46, q_l48, q_l57, q_l58, q_l59, q_l60, q_l61, q_l62, q_l63, q_l64, q_l96, q_l97, q_l99, q_l122, q_l129, q_l137, q_l255, q_l256, q_l400, q_l680, q_l700, q_l959, q_l999, q_l9999, q_l10000, q_l100000, q_ltT, q_ltF, q_leT, q_leF, q_eqF, q_eqR, q_mlt, q_mle, q_nlm, q_nLm, q_nem, q_men, q_mlm, Nat.add_zero, Nat.sub_zero, q_add0, pk_rem, nI_add, pk_mul, q_sub, q_subm, q_addm, nI_clamp, q_inT, q_inF, q_sr1, q_srn, q_srw, q_srs, q_wIs, q_wIn, q_wI2, q_wJ1, q_wJs, q_wJn, q_wR1, q_wRs, q_wRn, q_wI22, q_wJ22, pk_us, pk_un, pk_uLs, pk_uLn, q_usS, q_usN, q_ups, q_upn, Bool.true_eq_false, Bool.false_eq_true, q_lt, q_o2, q_o3, q_o4, q_o5, q_bi, ↓reduceIte, q_tv0, q_tv1, q_bz, q_oRl, q_oRr, q_oXl, q_oXr, i2, b1, b2, b3, b4, b5, t5.2.1]
    · rw [k.2 12 (by omega)]; simp (maxSteps := 2000000) (disch := first | rfl | exact q_e1 _ _ _ | exact q_sr1 _ _ | omega) only [q_sr1, q_srn, q_srw, q_srs, q_wIs, q_wIn, q_wI2, q_wJ1, q_wJs, q_wJn, q_wR1, q_wRs, q_wRn, q_wI22, q_wJ22, pk_us, pk_un, pk_uLs, pk_uLn, q_usS, q_usN, q_ups, q_upn]
    · rw [k.1 k' (by omega) (by omega), q_wIn (by omega)]
    · rw [k.2 f (by omega), q_wIs, pk_un (by omega)]
  · refine fs_t h 0 rfl ?_ (nI 0) ?_
    · simp (maxSteps := 2000000) (disch := first | rfl | exact q_e1 _ _ _ | exact q_sr1 _ _ | omega) only [f_X12_appendInput, ↓q_m1, q_l0, q_l1, q_l2, q_l3, q_l4, q_l5, q_l6, q_l7, q_l8, q_l9, q_l10, q_l11, q_l12, q_l13, q_l14, q_l15, q_l16, q_l17, q_l18, q_l19, q_l20, q_l21, q_l22, q_l23, q_l24, q_l25, q_l26, q_l27, q_l28, q_l29, q_l30, q_l31, q_l32, q_l33, q_l45, q_l46, q_l48, q_l57, q_l58, q_l59, q_l60, q_l61, q_l62, q_l63, q_l64, q_l96, q_l97, q_l99, q_l122, q_l129, q_l137, q_l255, q_l256, q_l400, q_l680, q_l700, q_l959, q_l999, q_l9999, q_l10000, q_l100000, q_ltT, q_ltF, q_leT, q_leF, q_eqF, q_eqR, q_mlt, q_mle, q_nlm, q_nLm, q_nem, q_men, q_mlm, Nat.add_zero, Nat.sub_zero, q_add0, pk_rem, nI_add, pk_mul, q_sub, q_subm, q_addm, nI_clamp, q_inT, q_inF, q_sr1, q_srn, q_srw, q_srs, q_wIs, q_wIn, q_wI2, q_wJ1, q_wJs, q_wJn, q_wR1, q_wRs, q_wRn, q_wI22, q_wJ22, pk_us, pk_un, pk_uLs, pk_uLn, q_usS, q_usN, q_ups, q_upn, Bool.true_eq_false, Bool.false_eq_true, q_lt, q_o2, q_o3, q_o4, q_o5, q_bi, ↓reduceIte, q_tv0, q_tv1, q_bz, q_oRl, q_oRr, q_oXl, q_oXr, i1]
    · simp (maxSteps := 2000000) (disch := first | rfl | exact q_e1 _ _ _ | exact q_sr1 _ _ | omega) only [f_X13_appendInput, ↓q_m1, q_l0, q_l1, q_l2, q_l3, q_l4, q_l5, q_l6, q_l7, q_l8, q_l9, q_l10, q_l11, q_l12, q_l13, q_l14, q_l15, q_l16, q_l17, q_l18, q_l19, q_l20, q_l21, q_l22, q_l23, q_l24, q_l25, q_l26, q_l27, q_l28, q_l29, q_l30, q_l31, q_l32, q_l33, q_l45, q_l46, q_l48, q_l57, q_l58, q_l59, q_l60, q_l61, q_l62, q_l63, q_l64, q_l96, q_l97, q_l99, q_l122, q_l129, q_l137, q_l255, q_l256, q_l400, q_l680, q_l700, q_l959, q_l999, q_l9999, q_l10000, q_l100000, q_ltT, q_ltF, q_leT, q_leF, q_eqF, q_eqR, q_mlt, q_mle, q_nlm, q_nLm, q_nem, q_men, q_mlm, Nat.add_zero, Nat.sub_zero, q_add0, pk_rem, nI_add, pk_mul, q_sub, q_subm, q_addm, nI_clamp, q_inT, q_inF, q_sr1, q_srn, q_srw, q_srs, q_wIs, q_wIn, q_wI2, q_wJ1, q_wJs, q_wJn, q_wR1, q_wRs, q_wRn, q_wI22, q_wJ22, pk_us, pk_un, pk_uLs, pk_uLn, q_usS, q_usN, q_ups, q_upn, Bool.true_eq_false, Bool.false_eq_true, q_lt, q_o2, q_o3, q_o4, q_o5, q_bi, ↓reduceIte, q_tv0, q_tv1, q_bz, q_oRl, q_oRr, q_oXl, q_oXr, i2]
theorem P_truncateInput (h : Rel B σ) (x : Int32) : FS B B σ [1] (f_X12_truncateInput x σ) (f_X13_truncateInput x (σ 20)) := by
  obtain ⟨c, hc, i1, i2, i3⟩ := h.2.2.2.1
  rcases q_bt x (l := 0) (u := c) (by omega) (by omega) with hx | ⟨k, _, hk, rfl⟩
  · refine fs_t h 0 rfl ?_ (nI 0) ?_
    · rcases hx with hx | ⟨h0, hx⟩
      · simp (maxSteps := 2000000) (disch := first | rfl | exact q_e1 _ _ _ | exact q_sr1 _ _ | omega) only [f_X12_truncateInput, eq_true hx, ↓q_m1, q_l0, q_l1, q_l2, q_l3, q_l4, q_l5, q_l6, q_l7, q_l8, q_l9, q_l10, q_l11, q_l12, q_l13, q_l14, q_l15, q_l16, q_l17, q_l18, q_l19, q_l20, q_l21, q_l22, q_l23, q_l24, q_l25, q_l26, q_l27, q_l28, q_l29, q_l30, q_l31, q_l32, q_l33, q_l45, q_l46, q_l48, q_l57, q_l58, q_l59, q_l60, q_l61, q_l62, q_l63, q_l64, q_l96, q_l97, q_l99, q_l122, q_l129, q_l137, q_l255, q_l256, q_l400, q_l680, q_l700, q_l959, q_l999, q_l9999, q_l10000, q_l100000, Bool.true_eq_false, Bool.false_eq_true, q_lt, q_o2, q_o3, q_o4, q_o5, q_bi, ↓reduceIte, q_tv0, q_tv1, q_bz, q_oRl, q_oRr, q_oXl, q_oXr]
      · simp (maxSteps := 2000000) (disch := first | rfl | exact q_e1 _ _ _ | exact q_sr1 _ _ | omega) only [f_X12_truncateInput, q_nlt h0, i1, eq_false (Int32.not_le.mpr hx), ↓q_m1, q_l0, q_l1, q_l2, q_l3, q_l4, q_l5, q_l6, q_l7, q_l8, q_l9, q_l10, q_l11, q_l12, q_l13, q_l14, q_l15, q_l16, q_l17, q_l18, q_l19, q_l20, q_l21, q_l22, q_l23, q_l24, q_l25, q_l26, q_l27, q_l28, q_l29, q_l30, q_l31, q_l32, q_l33, q_l45, q_l46, q_l48, q_l57, q_l58, q_l59, q_l60, q_l61, q_l62, q_l63, q_l64, q_l96, q_l97, q_l99, q_l122, q_l129, q_l137, q_l255, q_l256, q_l400, q_l680, q_l700, q_l959, q_l999, q_l9999, q_l10000, q_l100000, Bool.true_eq_false, Bool.false_eq_true, q_lt, q_o2, q_o3, q_o4, q_o5, q_bi, ↓reduceIte, q_tv0, q_tv1, q_bz, q_oRl, q_oRr, q_oXl, q_oXr]
    · simp (maxSteps := 2000000) (disch := first | rfl | exact q_e1 _ _ _ | exact q_sr1 _ _ | omega) only [f_X13_truncateInput, i2, r_btF hx, r_wants0, ↓q_m1, q_l0, q_l1, q_l2, q_l3, q_l4, q_l5, q_l6, q_l7, q_l8, q_l9, q_l10, q_l11, q_l12, q_l13, q_l14, q_l15, q_l16, q_l17, q_l18, q_l19, q_l20, q_l21, q_l22, q_l23, q_l24, q_l25, q_l26, q_l27, q_l28, q_l29, q_l30, q_l31, q_l32, q_l33, q_l45, q_l46, q_l48, q_l57, q_l58, q_l59, q_l60, q_l61, q_l62, q_l63, q_l64, q_l96, q_l97, q_l99, q_l122, q_l129, q_l137, q_l255, q_l256, q_l400, q_l680, q_l700, q_l959, q_l999, q_l9999, q_l10000, q_l100000, q_ltT, q_ltF, q_leT, q_leF, q_eqF, q_eqR, q_mlt, q_mle, q_nlm, q_nLm, q_nem, q_men, q_mlm, Nat.add_zero, Nat.sub_zero, q_add0, pk_rem, nI_add, pk_mul, q_sub, q_subm, q_addm, nI_clamp, q_inT, q_inF, q_sr1, q_srn, q_srw, q_srs, q_wIs, q_wIn, q_wI2, q_wJ1, q_wJs, q_wJn, q_wR1, q_wRs, q_wRn, q_wI22, q_wJ22, pk_us, pk_un, pk_uLs, pk_uLn, q_usS, q_usN, q_ups, q_upn, Bool.true_eq_false, Bool.false_eq_true, q_lt, q_o2, q_o3, q_o4, q_o5, q_bi, ↓reduceIte, q_tv0, q_tv1, q_bz, q_oRl, q_oRr, q_oXl, q_oXr]
  · have hcut : ∃ β', f_X2_cut (nI k) (σ 13) = some β' ∧ β'.1 0 1 = nI k ∧ β'.1 1 = (σ 13).1 1 := by
      by_cases e : k = c
      · subst e
        exact ⟨σ 13, by simp (maxSteps := 2000000) (disch := first | rfl | exact q_e1 _ _ _ | exact q_sr1 _ _ | omega) only [f_X2_cut, ↓q_m1, q_l0, q_l1, q_l2, q_l3, q_l4, q_l5, q_l6, q_l7, q_l8, q_l9, q_l10, q_l11, q_l12, q_l13, q_l14, q_l15, q_l16, q_l17, q_l18, q_l19, q_l20, q_l21, q_l22, q_l23, q_l24, q_l25, q_l26, q_l27, q_l28, q_l29, q_l30, q_l31, q_l32, q_l33, q_l45, q_l46, q_l48, q_l57, q_l58, q_l59, q_l60, q_l61, q_l62, q_l63, q_l64, q_l96, q_l97, q_l99, q_l122, q_l129, q_l137, q_l255, q_l256, q_l400, q_l680, q_l700, q_l959, q_l999, q_l9999, q_l10000, q_l100000, q_ltT, q_ltF, q_leT, q_leF, q_eqF, q_eqR, q_mlt, q_mle, q_nlm, q_nLm, q_nem, q_men, q_mlm, Nat.add_zero, Nat.sub_zero, q_add0, pk_rem, nI_add, pk_mul, q_sub, q_subm, q_addm, nI_clamp, q_inT, q_inF, q_sr1, q_srn, q_srw, q_srs, q_wIs, q_wIn, q_wI2, q_wJ1, q_wJs, q_wJn, q_wR1, q_wRs, q_wRn, q_wI22, q_wJ22, pk_us, pk_un, pk_uLs, pk_uLn, q_usS, q_usN, q_ups, q_upn, Bool.true_eq_false, Bool.false_eq_true, q_lt, q_o2, q_o3, q_o4, q_o5, q_bi, ↓reduceIte, q_tv0, q_tv1, q_bz, q_oRl, q_oRr, q_oXl, q_oXr, i1], i1, rfl⟩
      · exact ⟨wI (σ 13) 0 1 (nI k), by simp (maxSteps := 2000000) (disch := first | rfl | exact q_e1 _ _ _ | exact q_sr1 _ _ | omega) only [f_X2_cut, ↓q_m1, q_l0, q_l1, q_l2, q_l3, q_l4, q_l5, q_l6, q_l7, q_l8, q_l9, q_l10, q_l11, q_l12, q_l13, q_l14, q_l15, q_l16, q_l17, q_l18, q_l19, q_l20, q_l21, q_l22, q_l23, q_l24, q_l25, q_l26, q_l27, q_l28, q_l29, q_l30, q_l31, q_l32, q_l33, q_l45, q_l46, q_l48, q_l57, q_l58, q_l59, q_l60, q_l61, q_l62, q_l63, q_l64, q_l96, q_l97, q_l99, q_l122, q_l129, q_l137, q_l255, q_l256, q_l400, q_l680, q_l700, q_l959, q_l999, q_l9999, q_l10000, q_l100000, q_ltT, q_ltF, q_leT, q_leF, q_eqF, q_eqR, q_mlt, q_mle, q_nlm, q_nLm, q_nem, q_men, q_mlm, Nat.add_zero, Nat.sub_zero, q_add0, pk_rem, nI_add, pk_mul, q_sub, q_subm, q_addm, nI_clamp, q_inT, q_inF, q_sr1, q_srn, q_srw, q_srs, q_wIs, q_wIn, q_wI2, q_wJ1, q_wJs, q_wJn, q_wR1, q_wRs, q_wRn, q_wI22, q_wJ22, pk_us, pk_un, pk_uLs, pk_uLn, q_usS, q_usN, q_ups, q_upn, Bool.true_eq_false, Bool.false_eq_true, q_lt, q_o2, q_o3, q_o4, q_o5, q_bi, ↓reduceIte, q_tv0, q_tv1, q_bz, q_oRl, q_oRr, q_oXl, q_oXr, i1], by simp (maxSteps := 2000000) (disch := first | rfl | exact q_e1 _ _ _ | exact q_sr1 _ _ | omega) only [q_sr1, q_srn, q_srw, q_srs, q_wIs, q_wIn, q_wI2, q_wJ1, q_wJs, q_wJn, q_wR1, q_wRs, q_wRn, q_wI22, q_wJ22, pk_us, pk_un, pk_uLs, pk_uLn, q_usS, q_usN, q_ups, q_upn], rfl⟩
    obtain ⟨β', v1, v2, v3⟩ := hcut
    refine ⟨_, nI k, wI (wI (σ 20) 0 12 (nI 0)) 0 7 (nI k), ?_, ?_, Or.inr ⟨us σ 13 β', rfl, by simp (maxSteps := 2000000) (disch := first | rfl | exact q_e1 _ _ _ | exact q_sr1 _ _ | omega) only [q_sr1, q_srn, q_srw, q_srs, q_wIs, q_wIn, q_wI2, q_wJ1, q_wJs, q_wJn, q_wR1, q_wRs, q_wRn, q_wI22, q_wJ22, pk_us, pk_un, pk_uLs, pk_uLn, q_usS, q_usN, q_ups, q_upn], q_usN (by omega), h.inp (c := k) (by omega) ⟨v2, by simp (maxSteps := 2000000) (disch := first | rfl | exact q_e1 _ _ _ | exact q_sr1 _ _ | omega) only [q_sr1, q_srn, q_srw, q_srs, q_wIs, q_wIn, q_wI2, q_wJ1, q_wJs, q_wJn, q_wR1, q_wRs, q_wRn, q_wI22, q_wJ22, pk_us, pk_un, pk_uLs, pk_uLn, q_usS, q_usN, q_ups, q_upn], fun j hj => ?_⟩ (fun k' hk => (q_wIn (by omega)).trans (q_wIn (by omega))) (fun f hf => by rw [q_wIs, pk_un (by omega), q_wIs, pk_un (by omega)])⟩⟩
    · simp (maxSteps := 2000000) (disch := first | rfl | exact q_e1 _ _ _ | exact q_sr1 _ _ | omega) only [f_X12_truncateInput, i1, v1, v2, ↓q_m1, q_l0, q_l1, q_l2, q_l3, q_l4, q_l5, q_l6, q_l7, q_l8, q_l9, q_l10, q_l11, q_l12, q_l13, q_l14, q_l15, q_l16, q_l17, q_l18, q_l19, q_l20, q_l21, q_l22, q_l23, q_l24, q_l25, q_l26, q_l27, q_l28, q_l29, q_l30, q_l31, q_l32, q_l33, q_l45, q_l46, q_l48, q_l57, q_l58, q_l59, q_l60, q_l61, q_l62, q_l63, q_l64, q_l96, q_l97, q_l99, q_l122, q_l129, q_l137, q_l255, q_l256, q_l400, q_l680, q_l700, q_l959, q_l999, q_l9999, q_l10000, q_l100000, q_ltT, q_ltF, q_leT, q_leF, q_eqF, q_eqR, q_mlt, q_mle, q_nlm, q_nLm, q_nem, q_men, q_mlm, Nat.add_zero, Nat.sub_zero, q_add0, pk_rem, nI_add, pk_mul, q_sub, q_subm, q_addm, nI_clamp, q_inT, q_inF, q_sr1, q_srn, q_srw, q_srs, q_wIs, q_wIn, q_wI2, q_wJ1, q_wJs, q_wJn, q_wR1, q_wRs, q_wRn, q_wI22, q_wJ22, pk_us, pk_un, pk_uLs, pk_uLn, q_usS, q_usN, q_ups, q_upn, Bool.true_eq_false, Bool.false_eq_true, q_lt, q_o2, q_o3, q_o4, q_o5, q_bi, ↓reduceIte, q_tv0, q_tv1, q_bz, q_oRl, q_oRr, q_oXl, q_oXr]
    · simp (maxSteps := 2000000) (disch := first | rfl | exact q_e1 _ _ _ | exact q_sr1 _ _ | omega) only [f_X13_truncateInput, i2, r_btT, r_wants1, ↓q_m1, q_l0, q_l1, q_l2, q_l3, q_l4, q_l5, q_l6, q_l7, q_l8, q_l9, q_l10, q_l11, q_l12, q_l13, q_l14, q_l15, q_l16, q_l17, q_l18, q_l19, q_l20, q_l21, q_l22, q_l23, q_l24, q_l25, q_l26, q_l27, q_l28, q_l29, q_l30, q_l31, q_l32, q_l33, q_l45, q_l46, q_l48, q_l57, q_l58, q_l59, q_l60, q_l61, q_l62, q_l63, q_l64, q_l96, q_l97, q_l99, q_l122, q_l129, q_l137, q_l255, q_l256, q_l400, q_l680, q_l700, q_l959, q_l999, q_l9999, q_l10000, q_l100000, q_ltT, q_ltF, q_leT, q_leF, q_eqF, q_eqR, q_mlt, q_mle, q_nlm, q_nLm, q_nem, q_men, q_mlm, Nat.add_zero, Nat.sub_zero, q_add0, pk_rem, nI_add, pk_mul, q_sub, q_subm, q_addm, nI_clamp, q_inT, q_inF, q_sr1, q_srn, q_srw, q_srs, q_wIs, q_wIn, q_wI2, q_wJ1, q_wJs, q_wJn, q_wR1, q_wRs, q_wRn, q_wI22, q_wJ22, pk_us, pk_un, pk_uLs, pk_uLn, q_usS, q_usN, q_ups, q_upn, Bool.true_eq_false, Bool.false_eq_true, q_lt, q_o2, q_o3, q_o4, q_o5, q_bi, ↓reduceIte, q_tv0, q_tv1, q_bz, q_oRl, q_oRr, q_oXl, q_oXr]
    · rw [v3]; exact i3 j (by omega)
end FACE

/-! a seller entered -/
def ML (B S T : Nat) (μ : OM) (a : Nat → Int32) : Prop := MR S T μ a ∧ WL S T a ∧ WD S a ∧ WN B S T a
def bs (a : Nat → Int32) : Nat → Int32
  | 0 => nI 0
  | s + 1 => bs a s + a (25 + 13 * s + 1)
def SL (S T : Nat) (μ : OM) (a : Nat → Int32) : Prop := ML 9999 S T μ (upd a 7 (μ.1 0 7)) ∧ (∀ i, S ≤ i → i < 8 → a (25 + 13 * i + 4) = nI 0) ∧ μ.1 0 7 = bs a S
def adM (S : Nat) (w : Int64) (b g : Nat) (μ : OM) : OM := wI (wI (wI (wI (wI (wI (wI (wJ μ 1 S w) 2 S (nI b)) 3 S (nI g)) 4 S m1) 5 S (nI S)) 6 S (nI 0)) 0 7 (μ.1 0 7 + nI b)) 0 0 (nI (S + 1))
def adA (S : Nat) (v : Int32) (b g : Nat) (a : Nat → Int32) : Nat → Int32 := upd (upd (upd (upd a (25 + 13 * S) v) (25 + 13 * S + 1) (nI b)) (25 + 13 * S + 2) (nI g)) (25 + 13 * S + 3) m1
def adV (S : Nat) (s : Int32) (a : Nat → Int32) : Nat → Int32 := upd (upd (upd a 7 s) (129 + S) (nI S)) 0 (nI (S + 1))
section ADD
variable {S T : Nat} {μ : OM} {a : Nat → Int32}
theorem s_add (h : SL S T μ a) (hS : S < 8) (w : Int64) (b g : Nat) : f_X5_addSeller w (nI b) (nI g) μ = some (adM S w b g μ) := by
  have e := h.1.1.1.1
  simp (maxSteps := 2000000) (disch := first | rfl | exact q_e1 _ _ _ | exact q_sr1 _ _ | omega) only [f_X5_addSeller, adM, ↓q_m1, q_l0, q_l1, q_l2, q_l3, q_l4, q_l5, q_l6, q_l7, q_l8, q_l9, q_l10, q_l11, q_l12, q_l13, q_l14, q_l15, q_l16, q_l17, q_l18, q_l19, q_l20, q_l21, q_l22, q_l23, q_l24, q_l25, q_l26, q_l27, q_l28, q_l29, q_l30, q_l31, q_l32, q_l33, q_l45, q_l46, q_l48, q_l57, q_l58, q_l59, q_l60, q_l61, q_l62, q_l63, q_l64, q_l96, q_l97, q_l99, q_l122, q_l129, q_l137, q_l255, q_l256, q_l400, q_l680, q_l700, q_l959, q_l999, q_l9999, q_l10000, q_l100000, q_ltT, q_ltF, q_leT, q_leF, q_eqF, q_eqR, q_mlt, q_mle, q_nlm, q_nLm, q_nem, q_men, q_mlm, Nat.add_zero, Nat.sub_zero, q_add0, pk_rem, nI_add, pk_mul, q_sub, q_subm, q_addm, nI_clamp, q_inT, q_inF, q_sr1, q_srn, q_srw, q_srs, q_wIs, q_wIn, q_wI2, q_wJ1, q_wJs, q_wJn, q_wR1, q_wRs, q_wRn, q_wI22, q_wJ22, pk_us, pk_un, pk_uLs, pk_uLn, q_usS, q_usN, q_ups, q_upn, Bool.true_eq_false, Bool.false_eq_true, q_lt, q_o2, q_o3, q_o4, q_o5, q_bi, ↓reduceIte, q_tv0, q_tv1, q_bz, q_oRl, q_oRr, q_oXl, q_oXr, e]
theorem adV_ag (S : Nat) (hS : S < 8) (s : Int32) (a : Nat → Int32) : AG a (adV S s a) := by
  refine ⟨?_, fun x h1 h2 => ?_⟩
  · rw [adV, pk_un (by omega), pk_un (by omega), pk_un (by omega)]
  · rw [adV, pk_un (by omega), pk_un (by omega), pk_un (by omega)]
theorem add_mx (h : SL S T μ a) (hS : S < 8) {w : Int64} {v : Int32} (hv : NR w v) {b g : Nat} (hb : b ≤ 9999) (hg : g ≤ 99) : MX 9999 (S + 1) T (adM S w b g μ) (adV S (μ.1 0 7 + nI b) (adA S v b g a)) := by
  obtain ⟨⟨⟨m1', m2, m3, m4, m5, m6, m7, m8, m9⟩, ⟨w1, w2, w3, w4⟩, ⟨d1, d2⟩, ⟨v1, v2, v3, v4⟩⟩, z1, z2⟩ := h
  have t8 := w1.2
  -- the new row, cell by cell
  have q0 : ∀ x, 1 ≤ x → x ≠ 7 → x < 25 + 13 * S → (adV S (μ.1 0 7 + nI b) (adA S v b g a)) x = a x := fun x h1 h2 h3 => by
    rw [adV, pk_un (by omega), pk_un (by omega), pk_un (by omega), adA, pk_un (by omega), pk_un (by omega), pk_un (by omega), pk_un (by omega)]
  have q1 : ∀ k, k < S → (adV S (μ.1 0 7 + nI b) (adA S v b g a)) (129 + k) = a (129 + k) := fun k hk => by
    rw [adV, pk_un (by omega), pk_un (by omega), pk_un (by omega), adA, pk_un (by omega), pk_un (by omega), pk_un (by omega), pk_un (by omega)]
  have q2 : (adV S (μ.1 0 7 + nI b) (adA S v b g a)) (129 + S) = nI S := by
    rw [adV, pk_un (by omega), pk_us]
  have q3 : (adV S (μ.1 0 7 + nI b) (adA S v b g a)) (25 + 13 * S) = v := by
    rw [adV, pk_un (by omega), pk_un (by omega), pk_un (by omega), adA, pk_un (by omega), pk_un (by omega), pk_un (by omega), pk_us]
  have q4 : (adV S (μ.1 0 7 + nI b) (adA S v b g a)) (25 + 13 * S + 1) = nI b := by
    rw [adV, pk_un (by omega), pk_un (by omega), pk_un (by omega), adA, pk_un (by omega), pk_un (by omega), pk_us]
  have q5 : (adV S (μ.1 0 7 + nI b) (adA S v b g a)) (25 + 13 * S + 2) = nI g := by
    rw [adV, pk_un (by omega), pk_un (by omega), pk_un (by omega), adA, pk_un (by omega), pk_us]
  have q6 : (adV S (μ.1 0 7 + nI b) (adA S v b g a)) (25 + 13 * S + 3) = m1 := by
    rw [adV, pk_un (by omega), pk_un (by omega), pk_un (by omega), adA, pk_us]
  have q7 : (adV S (μ.1 0 7 + nI b) (adA S v b g a)) (25 + 13 * S + 4) = nI 0 := by
    rw [adV, pk_un (by omega), pk_un (by omega), pk_un (by omega), adA, pk_un (by omega), pk_un (by omega), pk_un (by omega), pk_un (by omega)]
    exact z1 S (Nat.le_refl _) hS
  have q8 : (adV S (μ.1 0 7 + nI b) (adA S v b g a)) 7 = μ.1 0 7 + nI b := by
    rw [adV, pk_un (by omega), pk_un (by omega), pk_us]
  have q9 : (adV S (μ.1 0 7 + nI b) (adA S v b g a)) 0 = nI (S + 1) := by
    rw [adV, pk_us]
  generalize adV S (μ.1 0 7 + nI b) (adA S v b g a) = c at *
  have p7 : ∀ x, x ≠ 7 → (upd a 7 (μ.1 0 7)) x = a x := fun x hx => pk_un hx
  have el : ∀ i, i < S → ln c i = ln a i := fun i hi => by rw [ln, ln, q0 _ (by omega) (by omega) (by omega)]
  have el7 : ∀ i, ln (upd a 7 (μ.1 0 7)) i = ln a i := fun i => by rw [ln, ln, p7 _ (by omega)]
  have elS : ln c S = 0 := by rw [ln, q7]; exact nI_clamp (by omega)
  have cs : ∀ i, i < S + 1 → i = S ∨ i < S := fun i hi => by omega
  refine ⟨⟨⟨by simp (maxSteps := 2000000) (disch := first | rfl | exact q_e1 _ _ _ | exact q_sr1 _ _ | omega) only [adM, q_sr1, q_srn, q_srw, q_srs, q_wIs, q_wIn, q_wI2, q_wJ1, q_wJs, q_wJn, q_wR1, q_wRs, q_wRn, q_wI22, q_wJ22, pk_us, pk_un, pk_uLs, pk_uLn, q_usS, q_usN, q_ups, q_upn], by simp (maxSteps := 2000000) (disch := first | rfl | exact q_e1 _ _ _ | exact q_sr1 _ _ | omega) only [adM, q_sr1, q_srn, q_srw, q_srs, q_wIs, q_wIn, q_wI2, q_wJ1, q_wJs, q_wJn, q_wR1, q_wRs, q_wRn, q_wI22, q_wJ22, pk_us, pk_un, pk_uLs, pk_uLn, q_usS, q_usN, q_ups, q_upn, m1'.2.1], q9, ?_⟩, fun k k1 k2 => ?_, fun i hi => ?_, fun i k hi hk => ?_, fun t ht => ?_, fun i hi => ?_, fun t ht => ?_, fun i hi => ?_, fun k hk => ?_⟩, by omega, ⟨⟨by omega, t8⟩, fun i hi => ?_, fun i k hi hk => ?_, fun i hi => ?_⟩, ⟨fun i k k' hi hk hk' => ?_, fun i j hi hj => ?_⟩, ⟨?_, fun t ht => ?_, fun i hi => ?_, fun i hi => ?_⟩⟩
  · rw [q0 1 (by omega) (by omega) (by omega), ← p7 1 (by omega)]; exact m1'.2.2.2
  · by_cases k7 : k = 7
    · subst k7
      rw [q8]; simp (maxSteps := 2000000) (disch := first | rfl | exact q_e1 _ _ _ | exact q_sr1 _ _ | omega) only [adM, q_sr1, q_srn, q_srw, q_srs, q_wIs, q_wIn, q_wI2, q_wJ1, q_wJs, q_wJn, q_wR1, q_wRs, q_wRn, q_wI22, q_wJ22, pk_us, pk_un, pk_uLs, pk_uLn, q_usS, q_usN, q_ups, q_upn]
    · rw [q0 k (by omega) k7 (by omega), ← p7 k k7, ← m2 k k1 k2]
      simp (maxSteps := 2000000) (disch := first | rfl | exact q_e1 _ _ _ | exact q_sr1 _ _ | omega) only [adM, q_sr1, q_srn, q_srw, q_srs, q_wIs, q_wIn, q_wI2, q_wJ1, q_wJs, q_wJn, q_wR1, q_wRs, q_wRn, q_wI22, q_wJ22, pk_us, pk_un, pk_uLs, pk_uLn, q_usS, q_usN, q_ups, q_upn]
  · rcases cs i hi with rfl | hi
    · rw [q4, q5, q6, q7]
      exact ⟨by simp (maxSteps := 2000000) (disch := first | rfl | exact q_e1 _ _ _ | exact q_sr1 _ _ | omega) only [adM, q_sr1, q_srn, q_srw, q_srs, q_wIs, q_wIn, q_wI2, q_wJ1, q_wJs, q_wJn, q_wR1, q_wRs, q_wRn, q_wI22, q_wJ22, pk_us, pk_un, pk_uLs, pk_uLn, q_usS, q_usN, q_ups, q_upn], by simp (maxSteps := 2000000) (disch := first | rfl | exact q_e1 _ _ _ | exact q_sr1 _ _ | omega) only [adM, q_sr1, q_srn, q_srw, q_srs, q_wIs, q_wIn, q_wI2, q_wJ1, q_wJs, q_wJn, q_wR1, q_wRs, q_wRn, q_wI22, q_wJ22, pk_us, pk_un, pk_uLs, pk_uLn, q_usS, q_usN, q_ups, q_upn], by simp (maxSteps := 2000000) (disch := first | rfl | exact q_e1 _ _ _ | exact q_sr1 _ _ | omega) only [adM, q_sr1, q_srn, q_srw, q_srs, q_wIs, q_wIn, q_wI2, q_wJ1, q_wJs, q_wJn, q_wR1, q_wRs, q_wRn, q_wI22, q_wJ22, pk_us, pk_un, pk_uLs, pk_uLn, q_usS, q_usN, q_ups, q_upn], by simp (maxSteps := 2000000) (disch := first | rfl | exact q_e1 _ _ _ | exact q_sr1 _ _ | omega) only [adM, q_sr1, q_srn, q_srw, q_srs, q_wIs, q_wIn, q_wI2, q_wJ1, q_wJs, q_wJn, q_wR1, q_wRs, q_wRn, q_wI22, q_wJ22, pk_us, pk_un, pk_uLs, pk_uLn, q_usS, q_usN, q_ups, q_upn]⟩
    · obtain ⟨y1, y2, y3, y4⟩ := m3 i hi
      rw [p7 _ (by omega)] at y1 y2 y3 y4
      rw [q0 _ (by omega) (by omega) (by omega), q0 _ (by omega) (by omega) (by omega), q0 _ (by omega) (by omega) (by omega), q0 _ (by omega) (by omega) (by omega)]
      exact ⟨by simp (maxSteps := 2000000) (disch := first | rfl | exact q_e1 _ _ _ | exact q_sr1 _ _ | omega) only [adM, q_sr1, q_srn, q_srw, q_srs, q_wIs, q_wIn, q_wI2, q_wJ1, q_wJs, q_wJn, q_wR1, q_wRs, q_wRn, q_wI22, q_wJ22, pk_us, pk_un, pk_uLs, pk_uLn, q_usS, q_usN, q_ups, q_upn, y1], by simp (maxSteps := 2000000) (disch := first | rfl | exact q_e1 _ _ _ | exact q_sr1 _ _ | omega) only [adM, q_sr1, q_srn, q_srw, q_srs, q_wIs, q_wIn, q_wI2, q_wJ1, q_wJs, q_wJn, q_wR1, q_wRs, q_wRn, q_wI22, q_wJ22, pk_us, pk_un, pk_uLs, pk_uLn, q_usS, q_usN, q_ups, q_upn, y2], by simp (maxSteps := 2000000) (disch := first | rfl | exact q_e1 _ _ _ | exact q_sr1 _ _ | omega) only [adM, q_sr1, q_srn, q_srw, q_srs, q_wIs, q_wIn, q_wI2, q_wJ1, q_wJs, q_wJn, q_wR1, q_wRs, q_wRn, q_wI22, q_wJ22, pk_us, pk_un, pk_uLs, pk_uLn, q_usS, q_usN, q_ups, q_upn, y3], by simp (maxSteps := 2000000) (disch := first | rfl | exact q_e1 _ _ _ | exact q_sr1 _ _ | omega) only [adM, q_sr1, q_srn, q_srw, q_srs, q_wIs, q_wIn, q_wI2, q_wJ1, q_wJs, q_wJn, q_wR1, q_wRs, q_wRn, q_wI22, q_wJ22, pk_us, pk_un, pk_uLs, pk_uLn, q_usS, q_usN, q_ups, q_upn, y4]⟩
  · rcases cs i hi with rfl | hi
    · rw [elS] at hk; omega
    · rw [el i hi] at hk
      have hl := (w2 i hi).1
      rw [el7] at hl
      have y := m4 i k hi (by rw [el7]; exact hk)
      rw [p7 _ (by omega)] at y
      rw [q0 _ (by omega) (by omega) (by omega)]
      simp (maxSteps := 2000000) (disch := first | rfl | exact q_e1 _ _ _ | exact q_sr1 _ _ | omega) only [adM, q_sr1, q_srn, q_srw, q_srs, q_wIs, q_wIn, q_wI2, q_wJ1, q_wJs, q_wJn, q_wR1, q_wRs, q_wRn, q_wI22, q_wJ22, pk_us, pk_un, pk_uLs, pk_uLn, q_usS, q_usN, q_ups, q_upn, y]
  · have y := m5 t ht
    rw [p7 _ (by omega)] at y
    rw [q0 _ (by omega) (by omega) (by omega)]
    simp (maxSteps := 2000000) (disch := first | rfl | exact q_e1 _ _ _ | exact q_sr1 _ _ | omega) only [adM, q_sr1, q_srn, q_srw, q_srs, q_wIs, q_wIn, q_wI2, q_wJ1, q_wJs, q_wJn, q_wR1, q_wRs, q_wRn, q_wI22, q_wJ22, pk_us, pk_un, pk_uLs, pk_uLn, q_usS, q_usN, q_ups, q_upn, y]
  · rcases cs i hi with rfl | hi
    · rw [q3]
      have : (adM i w b g μ).2.1 1 i = w := by simp (maxSteps := 2000000) (disch := first | rfl | exact q_e1 _ _ _ | exact q_sr1 _ _ | omega) only [adM, q_sr1, q_srn, q_srw, q_srs, q_wIs, q_wIn, q_wI2, q_wJ1, q_wJs, q_wJn, q_wR1, q_wRs, q_wRn, q_wI22, q_wJ22, pk_us, pk_un, pk_uLs, pk_uLn, q_usS, q_usN, q_ups, q_upn]
      rw [this]; exact hv
    · have y := m6 i hi
      rw [p7 _ (by omega)] at y
      rw [q0 _ (by omega) (by omega) (by omega)]
      have : (adM S w b g μ).2.1 1 i = μ.2.1 1 i := by simp (maxSteps := 2000000) (disch := first | rfl | exact q_e1 _ _ _ | exact q_sr1 _ _ | omega) only [adM, q_sr1, q_srn, q_srw, q_srs, q_wIs, q_wIn, q_wI2, q_wJ1, q_wJs, q_wJn, q_wR1, q_wRs, q_wRn, q_wI22, q_wJ22, pk_us, pk_un, pk_uLs, pk_uLn, q_usS, q_usN, q_ups, q_upn]
      rw [this]; exact y
  · have y := m7 t ht
    rw [p7 _ (by omega)] at y
    rw [q0 _ (by omega) (by omega) (by omega)]
    have : (adM S w b g μ).2.1 8 t = μ.2.1 8 t := by simp (maxSteps := 2000000) (disch := first | rfl | exact q_e1 _ _ _ | exact q_sr1 _ _ | omega) only [adM, q_sr1, q_srn, q_srw, q_srs, q_wIs, q_wIn, q_wI2, q_wJ1, q_wJs, q_wJn, q_wR1, q_wRs, q_wRn, q_wI22, q_wJ22, pk_us, pk_un, pk_uLs, pk_uLn, q_usS, q_usN, q_ups, q_upn]
    rw [this]; exact y
  · rcases cs i hi with rfl | hi
    · exact ⟨i, by omega, by simp (maxSteps := 2000000) (disch := first | rfl | exact q_e1 _ _ _ | exact q_sr1 _ _ | omega) only [adM, q_sr1, q_srn, q_srw, q_srs, q_wIs, q_wIn, q_wI2, q_wJ1, q_wJs, q_wJn, q_wR1, q_wRs, q_wRn, q_wI22, q_wJ22, pk_us, pk_un, pk_uLs, pk_uLn, q_usS, q_usN, q_ups, q_upn], q2⟩
    · obtain ⟨k, y1, y2, y3⟩ := m8 i hi
      rw [p7 _ (by omega)] at y3
      exact ⟨k, by omega, by simp (maxSteps := 2000000) (disch := first | rfl | exact q_e1 _ _ _ | exact q_sr1 _ _ | omega) only [adM, q_sr1, q_srn, q_srw, q_srs, q_wIs, q_wIn, q_wI2, q_wJ1, q_wJs, q_wJn, q_wR1, q_wRs, q_wRn, q_wI22, q_wJ22, pk_us, pk_un, pk_uLs, pk_uLn, q_usS, q_usN, q_ups, q_upn, y2], (q1 k y1).trans y3⟩
  · rcases cs k hk with rfl | hk
    · exact ⟨k, by omega, by simp (maxSteps := 2000000) (disch := first | rfl | exact q_e1 _ _ _ | exact q_sr1 _ _ | omega) only [adM, q_sr1, q_srn, q_srw, q_srs, q_wIs, q_wIn, q_wI2, q_wJ1, q_wJs, q_wJn, q_wR1, q_wRs, q_wRn, q_wI22, q_wJ22, pk_us, pk_un, pk_uLs, pk_uLn, q_usS, q_usN, q_ups, q_upn], q2⟩
    · obtain ⟨i, y1, y2, y3⟩ := m9 k hk
      rw [p7 _ (by omega)] at y3
      exact ⟨i, by omega, by simp (maxSteps := 2000000) (disch := first | rfl | exact q_e1 _ _ _ | exact q_sr1 _ _ | omega) only [adM, q_sr1, q_srn, q_srw, q_srs, q_wIs, q_wIn, q_wI2, q_wJ1, q_wJs, q_wJn, q_wR1, q_wRs, q_wRn, q_wI22, q_wJ22, pk_us, pk_un, pk_uLs, pk_uLn, q_usS, q_usN, q_ups, q_upn, y2], (q1 k hk).trans y3⟩
  · rcases cs i hi with rfl | hi
    · rw [elS]; exact ⟨by omega, q7⟩
    · have y := w2 i hi
      rw [el7, p7 _ (by omega)] at y
      rw [el i hi, q0 _ (by omega) (by omega) (by omega)]; exact y
  · rcases cs i hi with rfl | hi
    · rw [elS] at hk; omega
    · rw [el i hi] at hk
      have hl := (w2 i hi).1
      rw [el7] at hl
      have y := w3 i k hi (by rw [el7]; exact hk)
      rw [p7 _ (by omega)] at y
      rw [q0 _ (by omega) (by omega) (by omega)]; exact y
  · rcases cs i hi with rfl | hi
    · exact Or.inl q6
    · have y := w4 i hi
      rw [p7 _ (by omega)] at y
      rw [q0 _ (by omega) (by omega) (by omega)]; exact y
  · rcases cs i hi with rfl | hi
    · rw [elS] at hk; omega
    · rw [el i hi] at hk hk'
      have hl := (w2 i hi).1
      rw [el7] at hl
      have y := d1 i k k' hi (by rw [el7]; exact hk) (by rw [el7]; exact hk')
      rw [p7 _ (by omega), p7 _ (by omega)] at y
      rw [q0 _ (by omega) (by omega) (by omega), q0 _ (by omega) (by omega) (by omega)]; exact y
  · rcases cs i hi with rfl | hi
    · rw [q6]; exact fun _ e => absurd rfl e
    · rcases cs j hj with rfl | hj
      · rw [q6]; exact fun e1 e2 => absurd e1 e2
      · have y := d2 i j hi hj
        rw [p7 _ (by omega), p7 _ (by omega)] at y
        rw [q0 _ (by omega) (by omega) (by omega), q0 _ (by omega) (by omega) (by omega)]; exact y
  · rw [q0 2 (by omega) (by omega) (by omega), ← p7 2 (by omega)]; exact v1
  · have y := v2 t ht
    rw [p7 _ (by omega)] at y
    rw [q0 _ (by omega) (by omega) (by omega)]; exact y
  · rcases cs i hi with rfl | hi
    · exact ⟨g, hg, q5⟩
    · have y := v3 i hi
      rw [p7 _ (by omega)] at y
      rw [q0 _ (by omega) (by omega) (by omega)]; exact y
  · rcases cs i hi with rfl | hi
    · exact ⟨b, hb, q4⟩
    · have y := v4 i hi
      rw [p7 _ (by omega)] at y
      rw [q0 _ (by omega) (by omega) (by omega)]; exact y
end ADD

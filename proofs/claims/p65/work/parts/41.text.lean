/-! the text that Own writes -/
def sBw (w : Nat) : List Nat := (byts.getD w []).map (fun x => x.toNatClampNeg)
theorem s_B : ∀ w, w < 12 → (sBw w).length = lens.getD w 0 ∧ ∀ k, k < lens.getD w 0 → wB w k = nI ((sBw w).getD k 0) ∧ (sBw w).getD k 0 < 128 := by decide +kernel
theorem i8c : ∀ x, x < 128 → Int8.toInt32 (Int32.toInt8 (nI x)) = nI x := by decide +kernel
def dgs (v : Nat) : List Nat := if v ≤ 9 then [48 + v] else if v ≤ 99 then [48 + v / 10, 48 + v % 10] else [48 + v / 100, 48 + v / 10 % 10, 48 + v % 10]
def TX (ω : OM) (L : List Nat) : Prop := ω.1 0 13 = nI L.length ∧ L.length ≤ 700 ∧ ∀ k x, L[k]? = some x → x < 128 ∧ ω.1 1 k = nI x
def KX (ω ω' : OM) : Prop := (∀ k, k ≠ 0 → k ≠ 1 → ω'.1 k = ω.1 k) ∧ ∀ j, j ≠ 12 → j ≠ 13 → ω'.1 0 j = ω.1 0 j
theorem KX.rf (ω : OM) : KX ω ω := ⟨fun _ _ _ => rfl, fun _ _ _ => rfl⟩
theorem KX.tr {ω ω' ω'' : OM} (h : KX ω ω') (g : KX ω' ω'') : KX ω ω'' := ⟨fun k a b => (g.1 k a b).trans (h.1 k a b), fun j a b => (g.2 j a b).trans (h.2 j a b)⟩
theorem KX.d (ω : OM) (v : Int32) : KX ω (wI ω 0 12 v) := ⟨fun k a _ => q_wIn a, fun j a _ => by rw [q_wIs, pk_un a]⟩
section TXT
variable {ω : OM} {L : List Nat}
theorem TX.row (h : TX ω L) {ω' : OM} (h1 : ω'.1 1 = ω.1 1) (h13 : ω'.1 0 13 = ω.1 0 13) : TX ω' L := ⟨h13.trans h.1, h.2.1, fun k x hk => by rw [h1]; exact h.2.2 k x hk⟩
theorem TX.d (h : TX ω L) (v : Int32) : TX (wI ω 0 12 v) L := h.row (q_wIn (by omega)) (by rw [q_wIs, pk_un (by omega)])
theorem TX.c (h : TX ω L) (hl : L.length < 700) {c : Nat} (hc : c < 128) : TX (wI (wI ω 0 13 (nI (L.length + 1))) 1 L.length (nI c)) (L ++ [c]) := by
  have e : (L ++ [c]).length = L.length + 1 := by simp
  refine ⟨by rw [e, q_wIn (by omega), q_wIs, pk_us], by omega, fun k x hk => ?_⟩
  by_cases ek : k = L.length
  · subst ek
    rw [List.getElem?_append_right (Nat.le_refl _), Nat.sub_self] at hk
    obtain rfl : c = x := Option.some.inj hk
    exact ⟨hc, by rw [q_wIs, pk_us]⟩
  · have := (List.getElem?_eq_some_iff.mp hk).1
    rw [List.getElem?_append_left (by omega)] at hk
    rw [q_wIs, pk_un ek, q_wIn (by omega)]
    exact h.2.2 k x hk
theorem KX.c (ω : OM) (u v : Int32) (p : Nat) : KX ω (wI (wI ω 0 13 u) 1 p v) := ⟨fun k a b => (q_wIn b).trans (q_wIn a), fun j _ b => by rw [q_wIn (by omega), q_wIs, pk_un b]⟩
theorem put_ok {w : Nat} (hw : w < 12) : ∀ (r k m : Nat) (ω : OM), k + r = lens.getD w 0 → r < m → TX ω (L ++ (sBw w).take k) → L.length + lens.getD w 0 ≤ 700 → ∃ ω', f_X13_put_2 w m (nI k) ω = some ω' ∧ TX ω' (L ++ sBw w) ∧ KX ω ω' := by
  intro r
  obtain ⟨b1, b2⟩ := s_B w hw
  have hlen := w_len w hw
  induction r with
  | zero =>
    intro k m ω hk hm h hl
    obtain ⟨m, rfl⟩ : ∃ q, m = q + 1 := ⟨m - 1, by omega⟩
    rw [List.take_of_length_le (by omega)] at h
    refine ⟨ω, ?_, h, KX.rf ω⟩
    simp (maxSteps := 2000000) (disch := first | rfl | exact q_e1 _ _ _ | exact q_sr1 _ _ | omega) only [f_X13_put_2, hlen, ↓q_m1, q_l0, q_l1, q_l2, q_l3, q_l4, q_l5, q_l6, q_l7, q_l8, q_l9, q_l10, q_l11, q_l12, q_l13, q_l14, q_l15, q_l16, q_l17, q_l18, q_l19, q_l20, q_l21, q_l22, q_l23, q_l24, q_l25, q_l26, q_l27, q_l28, q_l29, q_l30, q_l31, q_l32, q_l33, q_l45, q_l46, q_l48, q_l57, q_l58, q_l59, q_l60, q_l61, q_l62, q_l63, q_l64, q_l96, q_l97, q_l99, q_l122, q_l129, q_l137, q_l255, q_l256, q_l400, q_l680, q_l700, q_l959, q_l999, q_l9999, q_l10000, q_l100000, q_l36, q_l50, q_l100, q_l112, q_l200, q_ltT, q_ltF, q_leT, q_leF, q_eqF, q_eqR, q_mlt, q_mle, q_nlm, q_nLm, q_nem, q_men, q_mlm, Nat.add_zero, Nat.sub_zero, q_add0, pk_rem, nI_add, pk_mul, q_sub, q_subm, q_addm, nI_clamp, q_inT, q_inF, q_sr1, q_srn, q_srw, q_srs, q_wIs, q_wIn, q_wI2, q_wJ1, q_wJs, q_wJn, q_wR1, q_wRs, q_wRn, q_wI22, q_wJ22, pk_us, pk_un, pk_uLs, pk_uLn, q_usS, q_usN, q_ups, q_upn, Bool.true_eq_false, Bool.false_eq_true, q_lt, q_o2, q_o3, q_o4, q_o5, q_bi, ↓reduceIte, q_tv0, q_tv1, q_bz, q_oRl, q_oRr, q_oXl, q_oXr]
  | succ r ih =>
    intro k m ω hk hm h hl
    obtain ⟨m, rfl⟩ : ∃ q, m = q + 1 := ⟨m - 1, by omega⟩
    obtain ⟨c1, c2⟩ := b2 k (by omega)
    have hchr := w_chr w hw k (by omega)
    have e1 : (L ++ (sBw w).take k).length = L.length + k := by rw [List.length_append, List.length_take]; omega
    have e13 := h.1
    have hc := h.c (by omega) c2
    rw [e1] at e13 hc
    have et : L ++ (sBw w).take k ++ [(sBw w).getD k 0] = L ++ (sBw w).take (k + 1) := by
      rw [List.append_assoc, List.take_add_one, List.getElem?_eq_getElem (by omega), List.getD_eq_getElem?_getD, List.getElem?_eq_getElem (by omega)]; rfl
    rw [et] at hc
    obtain ⟨ω', f1, f2, f3⟩ := ih (k + 1) m _ (by omega) (by omega) hc hl
    refine ⟨ω', ?_, f2, (KX.c ω _ _ _).tr f3⟩
    simp (maxSteps := 2000000) (disch := first | rfl | exact q_e1 _ _ _ | exact q_sr1 _ _ | omega) only [f_X13_put_2, hlen, hchr, c1, i8c _ c2, e13, ↓q_m1, q_l0, q_l1, q_l2, q_l3, q_l4, q_l5, q_l6, q_l7, q_l8, q_l9, q_l10, q_l11, q_l12, q_l13, q_l14, q_l15, q_l16, q_l17, q_l18, q_l19, q_l20, q_l21, q_l22, q_l23, q_l24, q_l25, q_l26, q_l27, q_l28, q_l29, q_l30, q_l31, q_l32, q_l33, q_l45, q_l46, q_l48, q_l57, q_l58, q_l59, q_l60, q_l61, q_l62, q_l63, q_l64, q_l96, q_l97, q_l99, q_l122, q_l129, q_l137, q_l255, q_l256, q_l400, q_l680, q_l700, q_l959, q_l999, q_l9999, q_l10000, q_l100000, q_l36, q_l50, q_l100, q_l112, q_l200, q_ltT, q_ltF, q_leT, q_leF, q_eqF, q_eqR, q_mlt, q_mle, q_nlm, q_nLm, q_nem, q_men, q_mlm, Nat.add_zero, Nat.sub_zero, q_add0, pk_rem, nI_add, pk_mul, q_sub, q_subm, q_addm, nI_clamp, q_inT, q_inF, q_sr1, q_srn, q_srw, q_srs, q_wIs, q_wIn, q_wI2, q_wJ1, q_wJs, q_wJn, q_wR1, q_wRs, q_wRn, q_wI22, q_wJ22, pk_us, pk_un, pk_uLs, pk_uLn, q_usS, q_usN, q_ups, q_upn, Bool.true_eq_false, Bool.false_eq_true, q_lt, q_o2, q_o3, q_o4, q_o5, q_bi, ↓reduceIte, q_tv0, q_tv1, q_bz, q_oRl, q_oRr, q_oXl, q_oXr]
    exact f1
theorem put1 (h : TX ω L) {w : Nat} (hw : w < 12) (hl : L.length + (sBw w).length ≤ 700) : ∃ ω', f_X13_put w ω = some ω' ∧ TX ω' (L ++ sBw w) ∧ KX ω ω' := by
  have b1 := (s_B w hw).1
  have hs : ∀ w, w < 12 → lens.getD w 0 < 2000 := by decide
  exact put_ok hw (lens.getD w 0) 0 FU ω (by omega) (fu_lt (hs w hw)) (by rw [List.take_zero, List.append_nil]; exact h) (by omega)
theorem sB8 : sBw 8 = [32] := by decide +kernel
theorem letter1 (h : TX ω L) {p t : Nat} (hp : p + t < 128) (hl : L.length + 2 ≤ 700) : ∃ ω', f_X13_letter (nI p) (nI t) ω = some ω' ∧ TX ω' (L ++ [32, p + t]) ∧ KX ω ω' := by
  obtain ⟨ω1, f1, f2, f3⟩ := put1 h (w := 8) (by omega) (by rw [sB8]; show L.length + 1 ≤ 700; omega)
  rw [sB8] at f2
  have e1 : (L ++ [32]).length = L.length + 1 := by simp
  have e13 := f2.1
  have hc := f2.c (c := p + t) (by omega) hp
  rw [e1] at e13 hc
  rw [List.append_assoc] at hc
  refine ⟨_, ?_, hc, f3.tr (KX.c ω1 _ _ _)⟩
  have ic := i8c (p + t) hp
  simp (maxSteps := 2000000) (disch := first | rfl | exact q_e1 _ _ _ | exact q_sr1 _ _ | omega) only [f_X13_letter, f1, e13, ↓q_m1, q_l0, q_l1, q_l2, q_l3, q_l4, q_l5, q_l6, q_l7, q_l8, q_l9, q_l10, q_l11, q_l12, q_l13, q_l14, q_l15, q_l16, q_l17, q_l18, q_l19, q_l20, q_l21, q_l22, q_l23, q_l24, q_l25, q_l26, q_l27, q_l28, q_l29, q_l30, q_l31, q_l32, q_l33, q_l45, q_l46, q_l48, q_l57, q_l58, q_l59, q_l60, q_l61, q_l62, q_l63, q_l64, q_l96, q_l97, q_l99, q_l122, q_l129, q_l137, q_l255, q_l256, q_l400, q_l680, q_l700, q_l959, q_l999, q_l9999, q_l10000, q_l100000, q_l36, q_l50, q_l100, q_l112, q_l200, q_ltT, q_ltF, q_leT, q_leF, q_eqF, q_eqR, q_mlt, q_mle, q_nlm, q_nLm, q_nem, q_men, q_mlm, Nat.add_zero, Nat.sub_zero, q_add0, pk_rem, nI_add, pk_mul, q_sub, q_subm, q_addm, nI_clamp, q_inT, q_inF, q_sr1, q_srn, q_srw, q_srs, q_wIs, q_wIn, q_wI2, q_wJ1, q_wJs, q_wJn, q_wR1, q_wRs, q_wRn, q_wI22, q_wJ22, pk_us, pk_un, pk_uLs, pk_uLn, q_usS, q_usN, q_ups, q_upn, Bool.true_eq_false, Bool.false_eq_true, q_lt, q_o2, q_o3, q_o4, q_o5, q_bi, ↓reduceIte, q_tv0, q_tv1, q_bz, q_oRl, q_oRr, q_oXl, q_oXr, ic]
theorem q_div {a d : Nat} (ha : a < 2 ^ 31) (h0 : 0 < d) (hd : d < 2 ^ 31) : nI a / nI d = nI (a / d) := pk_div ha h0 hd
theorem num1 (h : TX ω L) {v : Nat} (hv : v ≤ 199) (hl : L.length + 4 ≤ 700) : ∃ ω', f_X13_put_ (nI v) ω = some ω' ∧ TX ω' (L ++ (32 :: dgs v)) ∧ KX ω ω' := by
  obtain ⟨ω1, f1, f2, f3⟩ := put1 h (w := 8) (by omega) (by rw [sB8]; show L.length + 1 ≤ 700; omega)
  rw [sB8] at f2
  have e1 : (L ++ [32]).length = L.length + 1 := by simp
  have e13 := f2.1
  have d2 := q_div (show v < 2 ^ 31 by omega) (show 0 < 10 by omega) (by omega)
  have d3 := q_div (show v / 10 < 2 ^ 31 by omega) (show 0 < 10 by omega) (by omega)
  have d4 := q_div (show v / 10 / 10 < 2 ^ 31 by omega) (show 0 < 10 by omega) (by omega)
  rw [e1] at e13
  have ec : ∀ x, x ≤ 9 → 48 + x < 128 := fun x hx => by omega
  by_cases c9 : v ≤ 9
  · have hc := f2.c (c := 48 + v) (by omega) (by omega)
    rw [e1, List.append_assoc] at hc
    rw [show L ++ ([32] ++ [48 + v]) = L ++ 32 :: dgs v by rw [dgs, if_pos c9]; rfl] at hc
    refine ⟨_, ?_, hc, f3.tr (KX.c ω1 _ _ _)⟩
    · have n2 : v - v / 10 * 10 = v := by omega
      have ic := i8c (48 + v) (by omega)
      simp (maxSteps := 2000000) (disch := first | rfl | exact q_e1 _ _ _ | exact q_sr1 _ _ | omega) only [f_X13_put_, f_X13_digits_3, f1, e13, d2, n2, ↓q_m1, q_l0, q_l1, q_l2, q_l3, q_l4, q_l5, q_l6, q_l7, q_l8, q_l9, q_l10, q_l11, q_l12, q_l13, q_l14, q_l15, q_l16, q_l17, q_l18, q_l19, q_l20, q_l21, q_l22, q_l23, q_l24, q_l25, q_l26, q_l27, q_l28, q_l29, q_l30, q_l31, q_l32, q_l33, q_l45, q_l46, q_l48, q_l57, q_l58, q_l59, q_l60, q_l61, q_l62, q_l63, q_l64, q_l96, q_l97, q_l99, q_l122, q_l129, q_l137, q_l255, q_l256, q_l400, q_l680, q_l700, q_l959, q_l999, q_l9999, q_l10000, q_l100000, q_l36, q_l50, q_l100, q_l112, q_l200, q_ltT, q_ltF, q_leT, q_leF, q_eqF, q_eqR, q_mlt, q_mle, q_nlm, q_nLm, q_nem, q_men, q_mlm, Nat.add_zero, Nat.sub_zero, q_add0, pk_rem, nI_add, pk_mul, q_sub, q_subm, q_addm, nI_clamp, q_inT, q_inF, q_sr1, q_srn, q_srw, q_srs, q_wIs, q_wIn, q_wI2, q_wJ1, q_wJs, q_wJn, q_wR1, q_wRs, q_wRn, q_wI22, q_wJ22, pk_us, pk_un, pk_uLs, pk_uLn, q_usS, q_usN, q_ups, q_upn, Bool.true_eq_false, Bool.false_eq_true, q_lt, q_o2, q_o3, q_o4, q_o5, q_bi, ↓reduceIte, q_tv0, q_tv1, q_bz, q_oRl, q_oRr, q_oXl, q_oXr, ic]
  · by_cases c99 : v ≤ 99
    · have hc := f2.c (c := 48 + v / 10) (by omega) (by omega)
      rw [e1] at hc
      have e2 : (L ++ [32] ++ [48 + v / 10]).length = L.length + 2 := by simp
      have hc2 := hc.c (c := 48 + v % 10) (by omega) (by omega)
      rw [e2] at hc2
      rw [show L ++ [32] ++ [48 + v / 10] ++ [48 + v % 10] = L ++ 32 :: dgs v by rw [dgs, if_neg c9, if_pos c99]; simp] at hc2
      refine ⟨_, ?_, hc2, (f3.tr (KX.c ω1 _ _ _)).tr (KX.c _ _ _ _)⟩
      · have ic := i8c (48 + v / 10) (by omega)
        have ic2 := i8c (48 + v % 10) (by omega)
        have n2 : v - v / 10 * 10 = v % 10 := by omega
        have n3 : v / 10 - v / 10 / 10 * 10 = v / 10 := by omega
        simp (maxSteps := 2000000) (disch := first | rfl | exact q_e1 _ _ _ | exact q_sr1 _ _ | omega) only [f_X13_put_, f_X13_digits_3, f_X13_digits_2, f1, e13, d2, d3, n2, n3, ↓q_m1, q_l0, q_l1, q_l2, q_l3, q_l4, q_l5, q_l6, q_l7, q_l8, q_l9, q_l10, q_l11, q_l12, q_l13, q_l14, q_l15, q_l16, q_l17, q_l18, q_l19, q_l20, q_l21, q_l22, q_l23, q_l24, q_l25, q_l26, q_l27, q_l28, q_l29, q_l30, q_l31, q_l32, q_l33, q_l45, q_l46, q_l48, q_l57, q_l58, q_l59, q_l60, q_l61, q_l62, q_l63, q_l64, q_l96, q_l97, q_l99, q_l122, q_l129, q_l137, q_l255, q_l256, q_l400, q_l680, q_l700, q_l959, q_l999, q_l9999, q_l10000, q_l100000, q_l36, q_l50, q_l100, q_l112, q_l200, q_ltT, q_ltF, q_leT, q_leF, q_eqF, q_eqR, q_mlt, q_mle, q_nlm, q_nLm, q_nem, q_men, q_mlm, Nat.add_zero, Nat.sub_zero, q_add0, pk_rem, nI_add, pk_mul, q_sub, q_subm, q_addm, nI_clamp, q_inT, q_inF, q_sr1, q_srn, q_srw, q_srs, q_wIs, q_wIn, q_wI2, q_wJ1, q_wJs, q_wJn, q_wR1, q_wRs, q_wRn, q_wI22, q_wJ22, pk_us, pk_un, pk_uLs, pk_uLn, q_usS, q_usN, q_ups, q_upn, Bool.true_eq_false, Bool.false_eq_true, q_lt, q_o2, q_o3, q_o4, q_o5, q_bi, ↓reduceIte, q_tv0, q_tv1, q_bz, q_oRl, q_oRr, q_oXl, q_oXr, ic, ic2]
    · have hc := f2.c (c := 48 + v / 100) (by omega) (by omega)
      rw [e1] at hc
      have e2 : (L ++ [32] ++ [48 + v / 100]).length = L.length + 2 := by simp
      have hc2 := hc.c (c := 48 + v / 10 % 10) (by omega) (by omega)
      rw [e2] at hc2
      have e3 : (L ++ [32] ++ [48 + v / 100] ++ [48 + v / 10 % 10]).length = L.length + 3 := by simp
      have hc3 := hc2.c (c := 48 + v % 10) (by omega) (by omega)
      rw [e3] at hc3
      rw [show L ++ [32] ++ [48 + v / 100] ++ [48 + v / 10 % 10] ++ [48 + v % 10] = L ++ 32 :: dgs v by rw [dgs, if_neg c9, if_neg c99]; simp] at hc3
      refine ⟨_, ?_, hc3, ((f3.tr (KX.c ω1 _ _ _)).tr (KX.c _ _ _ _)).tr (KX.c _ _ _ _)⟩
      · have ic := i8c (48 + v / 100) (by omega)
        have ic2 := i8c (48 + v / 10 % 10) (by omega)
        have ic3 := i8c (48 + v % 10) (by omega)
        have n2 : v - v / 10 * 10 = v % 10 := by omega
        have n3 : v / 10 - v / 10 / 10 * 10 = v / 10 % 10 := by omega
        have n4 : v / 10 / 10 - v / 10 / 10 / 10 * 10 = v / 100 := by omega
        simp (maxSteps := 2000000) (disch := first | rfl | exact q_e1 _ _ _ | exact q_sr1 _ _ | omega) only [f_X13_put_, f_X13_digits_3, f_X13_digits_2, f_X13_digits_1, f1, e13, d2, d3, d4, n2, n3, n4, ↓q_m1, q_l0, q_l1, q_l2, q_l3, q_l4, q_l5, q_l6, q_l7, q_l8, q_l9, q_l10, q_l11, q_l12, q_l13, q_l14, q_l15, q_l16, q_l17, q_l18, q_l19, q_l20, q_l21, q_l22, q_l23, q_l24, q_l25, q_l26, q_l27, q_l28, q_l29, q_l30, q_l31, q_l32, q_l33, q_l45, q_l46, q_l48, q_l57, q_l58, q_l59, q_l60, q_l61, q_l62, q_l63, q_l64, q_l96, q_l97, q_l99, q_l122, q_l129, q_l137, q_l255, q_l256, q_l400, q_l680, q_l700, q_l959, q_l999, q_l9999, q_l10000, q_l100000, q_l36, q_l50, q_l100, q_l112, q_l200, q_ltT, q_ltF, q_leT, q_leF, q_eqF, q_eqR, q_mlt, q_mle, q_nlm, q_nLm, q_nem, q_men, q_mlm, Nat.add_zero, Nat.sub_zero, q_add0, pk_rem, nI_add, pk_mul, q_sub, q_subm, q_addm, nI_clamp, q_inT, q_inF, q_sr1, q_srn, q_srw, q_srs, q_wIs, q_wIn, q_wI2, q_wJ1, q_wJs, q_wJn, q_wR1, q_wRs, q_wRn, q_wI22, q_wJ22, pk_us, pk_un, pk_uLs, pk_uLn, q_usS, q_usN, q_ups, q_upn, Bool.true_eq_false, Bool.false_eq_true, q_lt, q_o2, q_o3, q_o4, q_o5, q_bi, ↓reduceIte, q_tv0, q_tv1, q_bz, q_oRl, q_oRr, q_oXl, q_oXr, ic, ic2, ic3]
theorem dgs_len (v : Nat) : 1 ≤ (dgs v).length ∧ (dgs v).length ≤ 3 := by
  rw [dgs]
  by_cases c9 : v ≤ 9
  · rw [if_pos c9]; exact ⟨Nat.le_refl _, by show 1 ≤ 3; omega⟩
  · rw [if_neg c9]
    by_cases c99 : v ≤ 99
    · rw [if_pos c99]; exact ⟨by show 1 ≤ 2; omega, by show 2 ≤ 3; omega⟩
    · rw [if_neg c99]; exact ⟨by show 1 ≤ 3; omega, Nat.le_refl _⟩
end TXT

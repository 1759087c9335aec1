/-! days, and the ledger -/
def lsum (a : Nat → Int32) : Nat → Int32
  | 0 => nI 0
  | n + 1 => lsum a n + a (25 + 13 * n + 1)
def LG (S : Nat) (a : Nat → Int32) : Prop := lsum a S - a 7 - a 8 + a 3 = nI 0
theorem lsum_congr {a b : Nat → Int32} : ∀ {n : Nat}, (∀ i, i < n → b (25 + 13 * i + 1) = a (25 + 13 * i + 1)) → lsum b n = lsum a n
  | 0, _ => rfl
  | n + 1, h => by rw [lsum, lsum, lsum_congr (fun i hi => h i (by omega)), h n (by omega)]
theorem LG.same {S : Nat} {a b : Nat → Int32} (h : LG S a) (e : ∀ i, i < S → b (25 + 13 * i + 1) = a (25 + 13 * i + 1)) (e7 : b 7 = a 7) (e8 : b 8 = a 8) (e3 : b 3 = a 3) : LG S b := by
  unfold LG
  rw [lsum_congr e, e7, e8, e3]
  exact h
theorem i_ac1 (s v x : Int32) : s + x + v = s + v + x := by rw [Int32.add_assoc, Int32.add_comm x v, ← Int32.add_assoc]
theorem lsum_upd {a : Nat → Int32} {i : Nat} (x : Int32) : ∀ {n : Nat}, i < n → lsum (upd a (25 + 13 * i + 1) (a (25 + 13 * i + 1) + x)) n = lsum a n + x
  | 0, h => by omega
  | n + 1, h => by
    rw [lsum, lsum]
    by_cases e : i = n
    · subst e
      rw [pk_us, lsum_congr (fun j hj => pk_un (by omega)), Int32.add_assoc]
    · rw [lsum_upd x (by omega), pk_un (by omega), i_ac1]
theorem i_rg1 (s o r p x : Int32) : s + x - o - (r + x) + p = s - o - r + p := by
  simp only [Int32.sub_eq_add_neg, Int32.neg_add]
  rw [Int32.add_assoc s x (-o), Int32.add_comm x (-o), ← Int32.add_assoc s (-o) x, Int32.add_assoc (s + -o) x (-r + -x), Int32.add_comm (-r) (-x), ← Int32.add_assoc x (-x) (-r), Int32.add_right_neg, Int32.zero_add]
theorem i_rg2 (s o r p x : Int32) : s + -x - o - r + (p + x) = s - o - r + p := by
  simp only [Int32.sub_eq_add_neg]
  rw [Int32.add_assoc s (-x) (-o), Int32.add_comm (-x) (-o), ← Int32.add_assoc s (-o) (-x), Int32.add_assoc (s + -o) (-x) (-r), Int32.add_comm (-x) (-r), ← Int32.add_assoc (s + -o) (-r) (-x), Int32.add_assoc (s + -o + -r) (-x) (p + x), Int32.add_comm p x, ← Int32.add_assoc (-x) x p, Int32.add_left_neg, Int32.zero_add]
theorem us_us (σ : SM) (o : Nat) (μ ν : OM) : us (us σ o μ) o ν = us σ o ν := by
  funext k
  by_cases hk : k = o
  · rw [hk, us_s, us_s]
  · rw [us_n hk, us_n hk, us_n hk]
def dcoin (a : Nat → Int32) (i : Nat) : Int32 := a (25 + 13 * i + 1) + a (25 + 13 * i + 2)
def rnt (a : Nat → Int32) (i : Nat) : Int32 := a (9 + 2 * (a (25 + 13 * i + 3)).toNatClampNeg + 1)
def evA (a : Nat → Int32) (i : Nat) : Bool := !decide (a (25 + 13 * i + 3) = m1) && decide (dcoin a i < rnt a i)
def ncA (a : Nat → Int32) (i : Nat) : Int32 := if a (25 + 13 * i + 3) = m1 then dcoin a i else if evA a i = true then dcoin a i else dcoin a i - rnt a i
def npA (a : Nat → Int32) (i : Nat) : Int32 := if evA a i = true then m1 else a (25 + 13 * i + 3)
def DYR (S : Nat) (a a' : Nat → Int32) : Prop := (∀ i, i < S → a' (25 + 13 * i + 1) = ncA a i ∧ a' (25 + 13 * i + 3) = npA a i) ∧ a' 2 = a 2 + nI 1 ∧ a' 4 = a 4 + nI (cnt (evA a) S) ∧ ∀ x, 8 < x → (∀ j, j < S → x ≠ 25 + 13 * j + 1 ∧ x ≠ 25 + 13 * j + 3) → a' x = a x
section DAY
variable {B S T : Nat} {μ ω : OM} {a : Nat → Int32} {σ : SM}
theorem m_ledger (h : MR S T (σ 0) a) (h8 : S ≤ 8) (l : LG S a) : f_X12_ledgerDifference σ = some (nI 0) := by
  have key : ∀ r k m, k + r = S → r < m → f_X12_ledgerDifference_4 σ m (nI k) (lsum a k) = some (lsum a S) := by
    intro r
    induction r with
    | zero =>
      intro k m hk hm
      obtain ⟨m, rfl⟩ : ∃ q, m = q + 1 := ⟨m - 1, by omega⟩
      obtain rfl : k = S := by omega
      simp (maxSteps := 2000000) (disch := first | rfl | exact q_e1 _ _ _ | exact q_sr1 _ _ | omega) only [f_X12_ledgerDifference_4, ↓q_m1, q_l0, q_l1, q_l2, q_l3, q_l4, q_l5, q_l6, q_l7, q_l8, q_l9, q_l10, q_l11, q_l12, q_l13, q_l14, q_l15, q_l16, q_l17, q_l18, q_l19, q_l20, q_l21, q_l22, q_l23, q_l24, q_l25, q_l26, q_l27, q_l28, q_l29, q_l30, q_l31, q_l32, q_l33, q_l45, q_l46, q_l48, q_l57, q_l58, q_l59, q_l60, q_l61, q_l62, q_l63, q_l64, q_l96, q_l97, q_l99, q_l122, q_l129, q_l137, q_l255, q_l256, q_l400, q_l680, q_l700, q_l959, q_l999, q_l9999, q_l10000, q_l100000, q_l36, q_l50, q_l100, q_l112, q_l200, q_ltT, q_ltF, q_leT, q_leF, q_eqF, q_eqR, q_mlt, q_mle, q_nlm, q_nLm, q_nem, q_men, q_mlm, Nat.add_zero, Nat.sub_zero, q_add0, pk_rem, nI_add, pk_mul, q_sub, q_subm, q_addm, nI_clamp, q_inT, q_inF, q_sr1, q_srn, q_srw, q_srs, q_wIs, q_wIn, q_wI2, q_wJ1, q_wJs, q_wJn, q_wR1, q_wRs, q_wRn, q_wI22, q_wJ22, pk_us, pk_un, pk_uLs, pk_uLn, q_usS, q_usN, q_ups, q_upn, Bool.true_eq_false, Bool.false_eq_true, q_lt, q_o2, q_o3, q_o4, q_o5, q_bi, ↓reduceIte, q_tv0, q_tv1, q_bz, q_oRl, q_oRr, q_oXl, q_oXr, h.1.1]
    | succ r ih =>
      intro k m hk hm
      obtain ⟨m, rfl⟩ : ∃ q, m = q + 1 := ⟨m - 1, by omega⟩
      have e := ih (k + 1) m (by omega) (by omega)
      rw [lsum] at e
      simp (maxSteps := 2000000) (disch := first | rfl | exact q_e1 _ _ _ | exact q_sr1 _ _ | omega) only [f_X12_ledgerDifference_4, ↓q_m1, q_l0, q_l1, q_l2, q_l3, q_l4, q_l5, q_l6, q_l7, q_l8, q_l9, q_l10, q_l11, q_l12, q_l13, q_l14, q_l15, q_l16, q_l17, q_l18, q_l19, q_l20, q_l21, q_l22, q_l23, q_l24, q_l25, q_l26, q_l27, q_l28, q_l29, q_l30, q_l31, q_l32, q_l33, q_l45, q_l46, q_l48, q_l57, q_l58, q_l59, q_l60, q_l61, q_l62, q_l63, q_l64, q_l96, q_l97, q_l99, q_l122, q_l129, q_l137, q_l255, q_l256, q_l400, q_l680, q_l700, q_l959, q_l999, q_l9999, q_l10000, q_l100000, q_l36, q_l50, q_l100, q_l112, q_l200, q_ltT, q_ltF, q_leT, q_leF, q_eqF, q_eqR, q_mlt, q_mle, q_nlm, q_nLm, q_nem, q_men, q_mlm, Nat.add_zero, Nat.sub_zero, q_add0, pk_rem, nI_add, pk_mul, q_sub, q_subm, q_addm, nI_clamp, q_inT, q_inF, q_sr1, q_srn, q_srw, q_srs, q_wIs, q_wIn, q_wI2, q_wJ1, q_wJs, q_wJn, q_wR1, q_wRs, q_wRn, q_wI22, q_wJ22, pk_us, pk_un, pk_uLs, pk_uLn, q_usS, q_usN, q_ups, q_upn, Bool.true_eq_false, Bool.false_eq_true, q_lt, q_o2, q_o3, q_o4, q_o5, q_bi, ↓reduceIte, q_tv0, q_tv1, q_bz, q_oRl, q_oRr, q_oXl, q_oXr, h.1.1, s_coinsOf h h8 (show k < S by omega)]
      exact e
  have e := key S 0 FU (by omega) (fu_lt (by omega))
  rw [lsum] at e
  have l2 : lsum a S - a 7 - a 8 + a 3 = nI 0 := l
  simp (maxSteps := 2000000) (disch := first | rfl | exact q_e1 _ _ _ | exact q_sr1 _ _ | omega) only [f_X12_ledgerDifference, ↓q_m1, q_l0, q_l1, q_l2, q_l3, q_l4, q_l5, q_l6, q_l7, q_l8, q_l9, q_l10, q_l11, q_l12, q_l13, q_l14, q_l15, q_l16, q_l17, q_l18, q_l19, q_l20, q_l21, q_l22, q_l23, q_l24, q_l25, q_l26, q_l27, q_l28, q_l29, q_l30, q_l31, q_l32, q_l33, q_l45, q_l46, q_l48, q_l57, q_l58, q_l59, q_l60, q_l61, q_l62, q_l63, q_l64, q_l96, q_l97, q_l99, q_l122, q_l129, q_l137, q_l255, q_l256, q_l400, q_l680, q_l700, q_l959, q_l999, q_l9999, q_l10000, q_l100000, q_l36, q_l50, q_l100, q_l112, q_l200, q_ltT, q_ltF, q_leT, q_leF, q_eqF, q_eqR, q_mlt, q_mle, q_nlm, q_nLm, q_nem, q_men, q_mlm, Nat.add_zero, Nat.sub_zero, q_add0, pk_rem, nI_add, pk_mul, q_sub, q_subm, q_addm, nI_clamp, q_inT, q_inF, q_sr1, q_srn, q_srw, q_srs, q_wIs, q_wIn, q_wI2, q_wJ1, q_wJs, q_wJn, q_wR1, q_wRs, q_wRn, q_wI22, q_wJ22, pk_us, pk_un, pk_uLs, pk_uLn, q_usS, q_usN, q_ups, q_upn, Bool.true_eq_false, Bool.false_eq_true, q_lt, q_o2, q_o3, q_o4, q_o5, q_bi, ↓reduceIte, q_tv0, q_tv1, q_bz, q_oRl, q_oRr, q_oXl, q_oXr, e, h.2.1 7 (by omega) (by omega), h.2.1 8 (by omega) (by omega), h.2.1 3 (by omega) (by omega), l2]
theorem MX.mono {B' : Nat} (hB : B ≤ B') (h : MX B S T μ a) : MX B' S T μ a := by
  obtain ⟨hm, w1, w2, w3, ⟨w8, w9, w10, w11⟩⟩ := h
  refine ⟨hm, w1, w2, w3, ⟨w8, w9, w10, fun i hi => ?_⟩⟩
  obtain ⟨b, h1, h2⟩ := w11 i hi
  exact ⟨b, by omega, h2⟩
/-- all receive -/
theorem dep_c (h : MX B S T μ a) (hB : B + 99 < 2 ^ 31) (l : LG S a) : ∃ μ' a', f_X5_pass_19 FU (nI 0) μ = some μ' ∧ MX (B + 99) S T μ' a' ∧ LG S a' ∧ (∀ i, i < S → a' (25 + 13 * i + 1) = dcoin a i) ∧ ∀ x, x ≠ 8 → (∀ j, j < S → x ≠ 25 + 13 * j + 1) → a' x = a x := by
  have w := h.2.2.1
  have h8 := w.1.1
  have t8 := w.1.2
  obtain ⟨μ', f1, a', f2⟩ := lp_inv (F := f_X5_pass_19) (i0 := 0) (s := μ) (fun (i : Nat) (s : OM) => ∃ b, MX (B + 99) S T s b ∧ LG S b ∧ (∀ j, j < S → b (25 + 13 * j + 1) = if j < i then dcoin a j else a (25 + 13 * j + 1)) ∧ ∀ x, x ≠ 8 → (∀ j, j < S → x ≠ 25 + 13 * j + 1) → b x = a x) (fun s => ∃ b, MX (B + 99) S T s b ∧ LG S b ∧ (∀ j, j < S → b (25 + 13 * j + 1) = dcoin a j) ∧ ∀ x, x ≠ 8 → (∀ j, j < S → x ≠ 25 + 13 * j + 1) → b x = a x) S (fun n i s hi hh => by
      obtain ⟨b, g1, g2, g3, g4⟩ := hh
      obtain ⟨c, hc, ec⟩ := h.2.2.2.2.2.2.2 i hi
      obtain ⟨u, hu, eu⟩ := h.2.2.2.2.2.2.1 i hi
      have ei := g3 i hi
      rw [if_neg (by omega)] at ei
      have e2 : b (25 + 13 * i + 2) = nI u := (g4 _ (by omega) (fun j hj => by omega)).trans eu
      have es : b (25 + 13 * i + 1) + nI u = nI (c + u) := by rw [ei, ec, nI_add]
      have k1 := (g1.coin (B' := B + 99) (b := c + u) (Nat.le_refl _) hi (by omega)).fld (p := 8) (by omega) (by omega) (b 8 + nI u)
      refine ⟨wI (wI s 2 i (nI (c + u))) 0 8 (b 8 + nI u), ⟨_, k1, ?_, fun j hj => ?_, fun x hx hx' => ?_⟩, ?_⟩
      · rw [← es]
        unfold LG
        have hl := lsum_upd (a := b) (i := i) (nI u) hi
        rw [lsum_congr (a := upd b (25 + 13 * i + 1) (b (25 + 13 * i + 1) + nI u)) (fun j hj => pk_un (by omega)), hl, pk_un (by omega), pk_un (by omega), pk_us, pk_un (by omega), pk_un (by omega), i_rg1]
        exact g2
      · rw [pk_un (by omega)]
        by_cases e : j = i
        · subst e
          rw [pk_us, if_pos (by omega), dcoin, ec, eu, nI_add]
        · rw [pk_un (by omega), g3 j hj]
          by_cases e' : j < i
          · rw [if_pos e', if_pos (by omega)]
          · rw [if_neg e', if_neg (by omega)]
      · rw [pk_un hx, pk_un (hx' i hi)]; exact g4 x hx hx'
      · have hr := s_receive g1.1 h8 hi (nI u)
        rw [es] at hr
        have e3 : s.1 3 i = nI u := (g1.1.2.2.1 i hi).2.1.trans e2
        simp (maxSteps := 2000000) (disch := first | rfl | exact q_e1 _ _ _ | exact q_sr1 _ _ | omega) only [f_X5_pass_19, ↓q_m1, q_l0, q_l1, q_l2, q_l3, q_l4, q_l5, q_l6, q_l7, q_l8, q_l9, q_l10, q_l11, q_l12, q_l13, q_l14, q_l15, q_l16, q_l17, q_l18, q_l19, q_l20, q_l21, q_l22, q_l23, q_l24, q_l25, q_l26, q_l27, q_l28, q_l29, q_l30, q_l31, q_l32, q_l33, q_l45, q_l46, q_l48, q_l57, q_l58, q_l59, q_l60, q_l61, q_l62, q_l63, q_l64, q_l96, q_l97, q_l99, q_l122, q_l129, q_l137, q_l255, q_l256, q_l400, q_l680, q_l700, q_l959, q_l999, q_l9999, q_l10000, q_l100000, q_l36, q_l50, q_l100, q_l112, q_l200, q_ltT, q_ltF, q_leT, q_leF, q_eqF, q_eqR, q_mlt, q_mle, q_nlm, q_nLm, q_nem, q_men, q_mlm, Nat.add_zero, Nat.sub_zero, q_add0, pk_rem, nI_add, pk_mul, q_sub, q_subm, q_addm, nI_clamp, q_inT, q_inF, q_sr1, q_srn, q_srw, q_srs, q_wIs, q_wIn, q_wI2, q_wJ1, q_wJs, q_wJn, q_wR1, q_wRs, q_wRn, q_wI22, q_wJ22, pk_us, pk_un, pk_uLs, pk_uLn, q_usS, q_usN, q_ups, q_upn, Bool.true_eq_false, Bool.false_eq_true, q_lt, q_o2, q_o3, q_o4, q_o5, q_bi, ↓reduceIte, q_tv0, q_tv1, q_bz, q_oRl, q_oRr, q_oXl, q_oXr, g1.1.1.1, e3, hr]) (fun n s hh => by
      obtain ⟨b, g1, g2, g3, g4⟩ := hh
      exact ⟨s, by simp (maxSteps := 2000000) (disch := first | rfl | exact q_e1 _ _ _ | exact q_sr1 _ _ | omega) only [f_X5_pass_19, ↓q_m1, q_l0, q_l1, q_l2, q_l3, q_l4, q_l5, q_l6, q_l7, q_l8, q_l9, q_l10, q_l11, q_l12, q_l13, q_l14, q_l15, q_l16, q_l17, q_l18, q_l19, q_l20, q_l21, q_l22, q_l23, q_l24, q_l25, q_l26, q_l27, q_l28, q_l29, q_l30, q_l31, q_l32, q_l33, q_l45, q_l46, q_l48, q_l57, q_l58, q_l59, q_l60, q_l61, q_l62, q_l63, q_l64, q_l96, q_l97, q_l99, q_l122, q_l129, q_l137, q_l255, q_l256, q_l400, q_l680, q_l700, q_l959, q_l999, q_l9999, q_l10000, q_l100000, q_l36, q_l50, q_l100, q_l112, q_l200, q_ltT, q_ltF, q_leT, q_leF, q_eqF, q_eqR, q_mlt, q_mle, q_nlm, q_nLm, q_nem, q_men, q_mlm, Nat.add_zero, Nat.sub_zero, q_add0, pk_rem, nI_add, pk_mul, q_sub, q_subm, q_addm, nI_clamp, q_inT, q_inF, q_sr1, q_srn, q_srw, q_srs, q_wIs, q_wIn, q_wI2, q_wJ1, q_wJs, q_wJn, q_wR1, q_wRs, q_wRn, q_wI22, q_wJ22, pk_us, pk_un, pk_uLs, pk_uLn, q_usS, q_usN, q_ups, q_upn, Bool.true_eq_false, Bool.false_eq_true, q_lt, q_o2, q_o3, q_o4, q_o5, q_bi, ↓reduceIte, q_tv0, q_tv1, q_bz, q_oRl, q_oRr, q_oXl, q_oXr, g1.1.1.1], b, g1, g2, fun j hj => by rw [g3 j hj, if_pos hj], g4⟩) (fu_lt (show S < 2000 by omega)) ⟨a, h.mono (by omega), l, fun j hj => by rw [if_neg (by omega)], fun _ _ _ => rfl⟩
  exact ⟨μ', a', f1, f2⟩
/-- all pay, or leave -/
def pyE (b : Nat → Int32) (i : Nat) : Bool := !decide (b (25 + 13 * i + 3) = m1) && decide (b (25 + 13 * i + 1) < rnt b i)
def pyC (b : Nat → Int32) (i : Nat) : Int32 := if b (25 + 13 * i + 3) = m1 then b (25 + 13 * i + 1) else if pyE b i = true then b (25 + 13 * i + 1) else b (25 + 13 * i + 1) - rnt b i
def pyP (b : Nat → Int32) (i : Nat) : Int32 := if pyE b i = true then m1 else b (25 + 13 * i + 3)
theorem chA_i (w : WL S T a) {i : Nat} (hi : i < S) (l : LG S a) : LG S (chA a i).1 ∧ (chA a i).1 (25 + 13 * i + 1) = pyC a i ∧ (chA a i).1 (25 + 13 * i + 3) = pyP a i ∧ (chA a i).1 4 = (if pyE a i = true then a 4 + nI 1 else a 4) ∧ ∀ x, x ≠ 3 → x ≠ 4 → x ≠ 25 + 13 * i + 1 → x ≠ 25 + 13 * i + 3 → (chA a i).1 x = a x := by
  have h8 := w.1.1
  have t8 := w.1.2
  unfold chA pyC pyP pyE rnt
  by_cases e : a (25 + 13 * i + 3) = m1
  · rw [if_pos e, if_pos e, decide_eq_true e]
    exact ⟨l, rfl, rfl, rfl, fun _ _ _ _ _ => rfl⟩
  · rw [if_neg e, if_neg e, decide_eq_false e]
    by_cases c : a (25 + 13 * i + 1) < a (9 + 2 * (a (25 + 13 * i + 3)).toNatClampNeg + 1)
    · rw [if_pos c, decide_eq_true c]
      refine ⟨l.same (fun j hj => ?_) ?_ ?_ ?_, ?_, ?_, ?_, fun x h3 h4 h5 h6 => ?_⟩
      · show upd (upd a (25 + 13 * i + 3) m1) 4 (a 4 + nI 1) (25 + 13 * j + 1) = _
        rw [pk_un (by omega), pk_un (by omega)]
      · show upd (upd a (25 + 13 * i + 3) m1) 4 (a 4 + nI 1) 7 = _
        rw [pk_un (by omega), pk_un (by omega)]
      · show upd (upd a (25 + 13 * i + 3) m1) 4 (a 4 + nI 1) 8 = _
        rw [pk_un (by omega), pk_un (by omega)]
      · show upd (upd a (25 + 13 * i + 3) m1) 4 (a 4 + nI 1) 3 = _
        rw [pk_un (by omega), pk_un (by omega)]
      · show upd (upd a (25 + 13 * i + 3) m1) 4 (a 4 + nI 1) (25 + 13 * i + 1) = _
        rw [pk_un (by omega), pk_un (by omega)]; rfl
      · show upd (upd a (25 + 13 * i + 3) m1) 4 (a 4 + nI 1) (25 + 13 * i + 3) = _
        rw [pk_un (by omega), pk_us]; rfl
      · show upd (upd a (25 + 13 * i + 3) m1) 4 (a 4 + nI 1) 4 = _
        rw [pk_us]; rfl
      · show upd (upd a (25 + 13 * i + 3) m1) 4 (a 4 + nI 1) x = _
        rw [pk_un h4, pk_un h6]
    · rw [if_neg c, decide_eq_false c]
      generalize er : a (9 + 2 * (a (25 + 13 * i + 3)).toNatClampNeg + 1) = r
      refine ⟨?_, ?_, ?_, ?_, fun x h3 h4 h5 h6 => ?_⟩
      · unfold LG
        show lsum (upd (upd a (25 + 13 * i + 1) (a (25 + 13 * i + 1) - r)) 3 (a 3 + r)) S - upd (upd a (25 + 13 * i + 1) (a (25 + 13 * i + 1) - r)) 3 (a 3 + r) 7 - upd (upd a (25 + 13 * i + 1) (a (25 + 13 * i + 1) - r)) 3 (a 3 + r) 8 + upd (upd a (25 + 13 * i + 1) (a (25 + 13 * i + 1) - r)) 3 (a 3 + r) 3 = nI 0
        have es : a (25 + 13 * i + 1) - r = a (25 + 13 * i + 1) + -r := Int32.sub_eq_add_neg _ _
        rw [es]
        have hl := lsum_upd (a := a) (i := i) (-r) hi
        rw [lsum_congr (a := upd a (25 + 13 * i + 1) (a (25 + 13 * i + 1) + -r)) (fun j hj => pk_un (by omega)), hl, pk_un (by omega), pk_un (by omega), pk_un (by omega), pk_un (by omega), pk_us, i_rg2]
        exact l
      · show upd (upd a (25 + 13 * i + 1) (a (25 + 13 * i + 1) - r)) 3 (a 3 + r) (25 + 13 * i + 1) = _
        rw [pk_un (by omega), pk_us]; rfl
      · show upd (upd a (25 + 13 * i + 1) (a (25 + 13 * i + 1) - r)) 3 (a 3 + r) (25 + 13 * i + 3) = _
        rw [pk_un (by omega), pk_un (by omega)]; rfl
      · show upd (upd a (25 + 13 * i + 1) (a (25 + 13 * i + 1) - r)) 3 (a 3 + r) 4 = _
        rw [pk_un (by omega), pk_un (by omega)]; rfl
      · show upd (upd a (25 + 13 * i + 1) (a (25 + 13 * i + 1) - r)) 3 (a 3 + r) x = _
        rw [pk_un h3, pk_un h5]
theorem pay_c (h : MX B S T μ a) (hB : B < 2 ^ 31) (l : LG S a) : ∃ μ' a', f_X5_pass_46 FU (nI 0) μ = some μ' ∧ MX B S T μ' a' ∧ LG S a' ∧ (∀ i, i < S → a' (25 + 13 * i + 1) = pyC a i ∧ a' (25 + 13 * i + 3) = pyP a i) ∧ a' 4 = a 4 + nI (cnt (pyE a) S) ∧ ∀ x, x ≠ 3 → x ≠ 4 → (∀ j, j < S → x ≠ 25 + 13 * j + 1 ∧ x ≠ 25 + 13 * j + 3) → a' x = a x := by
  have w := h.2.2.1
  have h8 := w.1.1
  have t8 := w.1.2
  obtain ⟨μ', f1, a', f2⟩ := lp_inv (F := f_X5_pass_46) (i0 := 0) (s := μ) (fun (i : Nat) (s : OM) => ∃ b, MX B S T s b ∧ LG S b ∧ (∀ j, j < S → b (25 + 13 * j + 1) = (if j < i then pyC a j else a (25 + 13 * j + 1)) ∧ b (25 + 13 * j + 3) = if j < i then pyP a j else a (25 + 13 * j + 3)) ∧ b 4 = a 4 + nI (cnt (pyE a) i) ∧ ∀ x, x ≠ 3 → x ≠ 4 → (∀ j, j < S → x ≠ 25 + 13 * j + 1 ∧ x ≠ 25 + 13 * j + 3) → b x = a x) (fun s => ∃ b, MX B S T s b ∧ LG S b ∧ (∀ j, j < S → b (25 + 13 * j + 1) = pyC a j ∧ b (25 + 13 * j + 3) = pyP a j) ∧ b 4 = a 4 + nI (cnt (pyE a) S) ∧ ∀ x, x ≠ 3 → x ≠ 4 → (∀ j, j < S → x ≠ 25 + 13 * j + 1 ∧ x ≠ 25 + 13 * j + 3) → b x = a x) S (fun n i s hi hh => by
      obtain ⟨b, g1, g2, g3, g5, g4⟩ := hh
      have wb := g1.2.2.1
      obtain ⟨q1, q2⟩ := g3 i hi
      rw [if_neg (by omega)] at q1 q2
      have er : rnt b i = rnt a i := by
        unfold rnt
        rw [q2]
        rcases w.2.2.2 i hi with e | ⟨t, ht, e⟩
        · rw [e]; exact g4 _ (by show 9 + 2 * (Int32.toNatClampNeg m1) + 1 ≠ 3; decide) (by decide) (fun j hj => by
            have : Int32.toNatClampNeg m1 = 0 := by decide
            omega)
        · rw [e, nI_clamp (by omega)]; exact g4 _ (by omega) (by omega) (fun j hj => by omega)
      have eE : pyE b i = pyE a i := by unfold pyE; rw [er, q1, q2]
      obtain ⟨c0, c1, c2, c4, c3⟩ := chA_i wb hi g2
      refine ⟨chM s b i, ⟨(chA b i).1, g1.chg hB hi, c0, fun j hj => ?_, ?_, fun x hx hx4 hx' => ?_⟩, ?_⟩
      · by_cases e : j = i
        · subst e
          rw [if_pos (by omega), if_pos (by omega), c1, c2]
          refine ⟨?_, ?_⟩
          · unfold pyC; rw [eE, er, q1, q2]
          · unfold pyP; rw [eE, q2]
        · rw [c3 _ (by omega) (by omega) (by omega) (by omega), c3 _ (by omega) (by omega) (by omega) (by omega)]
          obtain ⟨z1, z2⟩ := g3 j hj
          rw [z1, z2]
          by_cases e' : j < i
          · rw [if_pos e', if_pos e', if_pos (by omega), if_pos (by omega)]; exact ⟨rfl, rfl⟩
          · rw [if_neg e', if_neg e', if_neg (by omega), if_neg (by omega)]; exact ⟨rfl, rfl⟩
      · rw [c4, eE, g5, cnt]
        cases pyE a i with
        | true => rw [if_pos rfl, if_pos rfl, Int32.add_assoc, nI_add]
        | false => rw [if_neg (by decide), if_neg (by decide), Nat.add_zero]
      · rw [c3 x hx hx4 (hx' i hi).1 (hx' i hi).2]; exact g4 x hx hx4 hx'
      · have hs := s_chg g1.1 h8 t8 hi (wb.2.2.2 i hi)
        simp (maxSteps := 2000000) (disch := first | rfl | exact q_e1 _ _ _ | exact q_sr1 _ _ | omega) only [f_X5_pass_46, ↓q_m1, q_l0, q_l1, q_l2, q_l3, q_l4, q_l5, q_l6, q_l7, q_l8, q_l9, q_l10, q_l11, q_l12, q_l13, q_l14, q_l15, q_l16, q_l17, q_l18, q_l19, q_l20, q_l21, q_l22, q_l23, q_l24, q_l25, q_l26, q_l27, q_l28, q_l29, q_l30, q_l31, q_l32, q_l33, q_l45, q_l46, q_l48, q_l57, q_l58, q_l59, q_l60, q_l61, q_l62, q_l63, q_l64, q_l96, q_l97, q_l99, q_l122, q_l129, q_l137, q_l255, q_l256, q_l400, q_l680, q_l700, q_l959, q_l999, q_l9999, q_l10000, q_l100000, q_l36, q_l50, q_l100, q_l112, q_l200, q_ltT, q_ltF, q_leT, q_leF, q_eqF, q_eqR, q_mlt, q_mle, q_nlm, q_nLm, q_nem, q_men, q_mlm, Nat.add_zero, Nat.sub_zero, q_add0, pk_rem, nI_add, pk_mul, q_sub, q_subm, q_addm, nI_clamp, q_inT, q_inF, q_sr1, q_srn, q_srw, q_srs, q_wIs, q_wIn, q_wI2, q_wJ1, q_wJs, q_wJn, q_wR1, q_wRs, q_wRn, q_wI22, q_wJ22, pk_us, pk_un, pk_uLs, pk_uLn, q_usS, q_usN, q_ups, q_upn, Bool.true_eq_false, Bool.false_eq_true, q_lt, q_o2, q_o3, q_o4, q_o5, q_bi, ↓reduceIte, q_tv0, q_tv1, q_bz, q_oRl, q_oRr, q_oXl, q_oXr, g1.1.1.1, hs]) (fun n s hh => by
      obtain ⟨b, g1, g2, g3, g5, g4⟩ := hh
      exact ⟨s, by simp (maxSteps := 2000000) (disch := first | rfl | exact q_e1 _ _ _ | exact q_sr1 _ _ | omega) only [f_X5_pass_46, ↓q_m1, q_l0, q_l1, q_l2, q_l3, q_l4, q_l5, q_l6, q_l7, q_l8, q_l9, q_l10, q_l11, q_l12, q_l13, q_l14, q_l15, q_l16, q_l17, q_l18, q_l19, q_l20, q_l21, q_l22, q_l23, q_l24, q_l25, q_l26, q_l27, q_l28, q_l29, q_l30, q_l31, q_l32, q_l33, q_l45, q_l46, q_l48, q_l57, q_l58, q_l59, q_l60, q_l61, q_l62, q_l63, q_l64, q_l96, q_l97, q_l99, q_l122, q_l129, q_l137, q_l255, q_l256, q_l400, q_l680, q_l700, q_l959, q_l999, q_l9999, q_l10000, q_l100000, q_l36, q_l50, q_l100, q_l112, q_l200, q_ltT, q_ltF, q_leT, q_leF, q_eqF, q_eqR, q_mlt, q_mle, q_nlm, q_nLm, q_nem, q_men, q_mlm, Nat.add_zero, Nat.sub_zero, q_add0, pk_rem, nI_add, pk_mul, q_sub, q_subm, q_addm, nI_clamp, q_inT, q_inF, q_sr1, q_srn, q_srw, q_srs, q_wIs, q_wIn, q_wI2, q_wJ1, q_wJs, q_wJn, q_wR1, q_wRs, q_wRn, q_wI22, q_wJ22, pk_us, pk_un, pk_uLs, pk_uLn, q_usS, q_usN, q_ups, q_upn, Bool.true_eq_false, Bool.false_eq_true, q_lt, q_o2, q_o3, q_o4, q_o5, q_bi, ↓reduceIte, q_tv0, q_tv1, q_bz, q_oRl, q_oRr, q_oXl, q_oXr, g1.1.1.1], b, g1, g2, fun j hj => by
        obtain ⟨z1, z2⟩ := g3 j hj
        rw [z1, z2, if_pos hj, if_pos hj]; exact ⟨rfl, rfl⟩, g5, g4⟩) (fu_lt (show S < 2000 by omega)) ⟨a, h, l, fun j hj => by rw [if_neg (by omega), if_neg (by omega)]; exact ⟨rfl, rfl⟩, (Int32.add_zero _).symm, fun _ _ _ _ => rfl⟩
  exact ⟨μ', a', f1, f2⟩
/-- a day of the class -/
theorem day_c (h : MX B S T μ a) (hB : B + 99 < 2 ^ 31) (l : LG S a) {d : Nat} (e2 : a 2 = nI d) (hd : d + 1 ≤ 9999) : ∃ μ5 μ8 a', f_X5_pass_19 FU (nI 0) (wI μ 0 2 (nI (d + 1))) = some μ5 ∧ f_X5_pass_46 FU (nI 0) μ5 = some μ8 ∧ MX (B + 99) S T μ8 a' ∧ LG S a' ∧ DYR S a a' := by
  have w := h.2.2.1
  have h8 := w.1.1
  have t8 := w.1.2
  have h1 := h.day (d := d + 1) (by omega)
  have l1 : LG S (upd a 2 (nI (d + 1))) := l.same (fun j hj => pk_un (by omega)) (pk_un (by omega)) (pk_un (by omega)) (pk_un (by omega))
  obtain ⟨μ5, b, f1, f2, f3, f4, f5⟩ := dep_c h1 hB l1
  obtain ⟨μ8, a', g1, g2, g3, g4, g5, g6⟩ := pay_c f2 hB f3
  have hb : ∀ x, x ≠ 2 → x ≠ 8 → (∀ j, j < S → x ≠ 25 + 13 * j + 1) → b x = a x := fun x h2 h8 hx => (f5 x h8 hx).trans (pk_un h2)
  have hc : ∀ i, i < S → b (25 + 13 * i + 1) = dcoin a i := fun i hi => by
    rw [f4 i hi, dcoin, dcoin, pk_un (by omega), pk_un (by omega)]
  have hp : ∀ i, i < S → b (25 + 13 * i + 3) = a (25 + 13 * i + 3) := fun i hi => hb _ (by omega) (by omega) (fun j hj => by omega)
  have hr : ∀ i, i < S → rnt b i = rnt a i := fun i hi => by
    unfold rnt
    rw [hp i hi]
    rcases w.2.2.2 i hi with e | ⟨t, ht, e⟩
    · rw [e]
      have : Int32.toNatClampNeg m1 = 0 := by decide
      rw [this]
      exact hb _ (by omega) (by omega) (fun j hj => by omega)
    · rw [e, nI_clamp (by omega)]; exact hb _ (by omega) (by omega) (fun j hj => by omega)
  have hE : ∀ i, i < S → pyE b i = evA a i := fun i hi => by unfold pyE evA; rw [hc i hi, hp i hi, hr i hi]
  refine ⟨μ5, μ8, a', f1, g1, g2, g3, fun i hi => ?_, ?_, ?_, fun x hx hx' => ?_⟩
  · rw [(g4 i hi).1, (g4 i hi).2]
    unfold pyC pyP ncA npA
    rw [hE i hi, hc i hi, hp i hi, hr i hi]
    exact ⟨rfl, rfl⟩
  · rw [g6 2 (by omega) (by omega) (fun j hj => by omega), f5 2 (by omega) (fun j hj => by omega), pk_us, e2, nI_add]
  · rw [g5, cnt_congr hE, hb 4 (by omega) (by omega) (fun j hj => by omega)]
  · rw [g6 x (by omega) (by omega) hx', hb x (by omega) (by omega) (fun j hj => (hx' j hj).1)]
/-- a day of the law's own -/
theorem day_o (o : OW S T ω a) (w : WL S T a) : ∃ ω', f_X13_pass ω = some (nI (cnt (evA a) S), ω') ∧ ∀ a', DYR S a a' → OW S T ω' a' := by
  have h8 := w.1.1
  have t8 := w.1.2
  obtain ⟨⟨o1, o2, o3⟩, o4, o5, o6, o7⟩ := o
  obtain ⟨z, f1, ω', rfl, g1, g2, g3, g4⟩ := lp_inv (F := fun n x (s : Int32 × OM) => f_X13_pass_14 n x s.1 s.2) (i0 := 0) (s := (nI 0, wI ω 0 16 (a 2 + nI 1))) (fun (i : Nat) (s : Int32 × OM) => s.1 = nI (cnt (evA a) i) ∧ (∀ x, x ≠ 0 → x ≠ 3 → x ≠ 5 → s.2.1 x = ω.1 x) ∧ (∀ j, j ≠ 16 → s.2.1 0 j = ω.1 0 j) ∧ s.2.1 0 16 = a 2 + nI 1 ∧ ∀ j, j < S → s.2.1 3 j = (if j < i then ncA a j else a (25 + 13 * j + 1)) ∧ s.2.1 5 j = if j < i then npA a j else a (25 + 13 * j + 3)) (fun z => ∃ ω', z = (nI (cnt (evA a) S), ω') ∧ (∀ x, x ≠ 0 → x ≠ 3 → x ≠ 5 → ω'.1 x = ω.1 x) ∧ (∀ j, j ≠ 16 → ω'.1 0 j = ω.1 0 j) ∧ ω'.1 0 16 = a 2 + nI 1 ∧ ∀ j, j < S → ω'.1 3 j = ncA a j ∧ ω'.1 5 j = npA a j) S (fun n i s hi hh => by
      obtain ⟨c, s⟩ := s
      obtain ⟨rfl, g1, g2, g3, g4⟩ := hh
      dsimp only at g1 g2 g3 g4
      obtain ⟨q1, q2⟩ := g4 i hi
      rw [if_neg (by omega)] at q1 q2
      have e15 : s.1 0 15 = nI S := (g2 15 (by omega)).trans o1
      have e4 : s.1 4 i = a (25 + 13 * i + 2) := (congrFun (g1 4 (by omega) (by omega) (by omega)) i).trans (o4 i hi).2.1
      have rest : ∀ (s' : OM) (u v : Int32), s'.1 3 = upd (s.1 3) i u → s'.1 5 = upd (s.1 5) i v → u = ncA a i → v = npA a i → ∀ j, j < S → s'.1 3 j = (if j < i + 1 then ncA a j else a (25 + 13 * j + 1)) ∧ s'.1 5 j = if j < i + 1 then npA a j else a (25 + 13 * j + 3) := fun s' u v h3 h5 hu hv j hj => by
        rw [h3, h5]
        by_cases e : j = i
        · subst e
          rw [pk_us, pk_us, if_pos (by omega), if_pos (by omega)]; exact ⟨hu, hv⟩
        · rw [pk_un e, pk_un e, (g4 j hj).1, (g4 j hj).2]
          by_cases e' : j < i
          · rw [if_pos e', if_pos e', if_pos (by omega), if_pos (by omega)]; exact ⟨rfl, rfl⟩
          · rw [if_neg e', if_neg e', if_neg (by omega), if_neg (by omega)]; exact ⟨rfl, rfl⟩
      have upd_id : ∀ (f : Nat → Int32) (k : Nat), f = upd f k (f k) := fun f k => by
        funext y
        by_cases e : y = k
        · subst e; rw [pk_us]
        · rw [pk_un e]
      rcases w.2.2.2 i hi with e | ⟨t, ht, e⟩
      · have ev : evA a i = false := by unfold evA; rw [decide_eq_true e]; rfl
        refine ⟨(nI (cnt (evA a) i), wI s 3 i (dcoin a i)), ⟨by rw [cnt, ev]; rfl, fun x h0 h3 h5 => (q_wIn h3).trans (g1 x h0 h3 h5), fun j hj => (congrFun (q_wIn (by omega)) j).trans (g2 j hj), (congrFun (q_wIn (by omega)) 16).trans g3, rest _ (dcoin a i) (npA a i) (q_wIs _ _ _ _) ?_ (by unfold ncA; rw [if_pos e]) rfl⟩, ?_⟩
        · rw [q_wIn (by omega)]
          have : s.1 5 i = npA a i := by rw [q2]; unfold npA; rw [ev, if_neg (by decide)]
          rw [← this]; exact upd_id _ _
        · simp (maxSteps := 2000000) (disch := first | rfl | exact q_e1 _ _ _ | exact q_sr1 _ _ | omega) only [f_X13_pass_14, ↓q_m1, q_l0, q_l1, q_l2, q_l3, q_l4, q_l5, q_l6, q_l7, q_l8, q_l9, q_l10, q_l11, q_l12, q_l13, q_l14, q_l15, q_l16, q_l17, q_l18, q_l19, q_l20, q_l21, q_l22, q_l23, q_l24, q_l25, q_l26, q_l27, q_l28, q_l29, q_l30, q_l31, q_l32, q_l33, q_l45, q_l46, q_l48, q_l57, q_l58, q_l59, q_l60, q_l61, q_l62, q_l63, q_l64, q_l96, q_l97, q_l99, q_l122, q_l129, q_l137, q_l255, q_l256, q_l400, q_l680, q_l700, q_l959, q_l999, q_l9999, q_l10000, q_l100000, q_l36, q_l50, q_l100, q_l112, q_l200, q_ltT, q_ltF, q_leT, q_leF, q_eqF, q_eqR, q_mlt, q_mle, q_nlm, q_nLm, q_nem, q_men, q_mlm, Nat.add_zero, Nat.sub_zero, q_add0, pk_rem, nI_add, pk_mul, q_sub, q_subm, q_addm, nI_clamp, q_inT, q_inF, q_sr1, q_srn, q_srw, q_srs, q_wIs, q_wIn, q_wI2, q_wJ1, q_wJs, q_wJn, q_wR1, q_wRs, q_wRn, q_wI22, q_wJ22, pk_us, pk_un, pk_uLs, pk_uLn, q_usS, q_usN, q_ups, q_upn, Bool.true_eq_false, Bool.false_eq_true, q_lt, q_o2, q_o3, q_o4, q_o5, q_bi, ↓reduceIte, q_tv0, q_tv1, q_bz, q_oRl, q_oRr, q_oXl, q_oXr, e15, q1, q2, e4, e]
          rfl
      · have ne : ¬ a (25 + 13 * i + 3) = m1 := by rw [e, q_nem (by omega)]; exact id
        have er : rnt a i = a (9 + 2 * t + 1) := by unfold rnt; rw [e, nI_clamp (by omega)]
        have e2t : s.1 2 t = rnt a i := by rw [er]; exact (congrFun (g1 2 (by omega) (by omega) (by omega)) t).trans (o6 t ht)
        by_cases c : dcoin a i < rnt a i
        · have ev : evA a i = true := by unfold evA; rw [decide_eq_false ne, decide_eq_true c]; rfl
          refine ⟨(nI (cnt (evA a) i + 1), wI (wI s 3 i (dcoin a i)) 5 i m1), ⟨by rw [cnt, ev]; rfl, fun x h0 h3 h5 => (q_wIn h5).trans ((q_wIn h3).trans (g1 x h0 h3 h5)), fun j hj => (congrFun (q_wIn (by omega)) j).trans ((congrFun (q_wIn (by omega)) j).trans (g2 j hj)), (congrFun (q_wIn (by omega)) 16).trans ((congrFun (q_wIn (by omega)) 16).trans g3), rest _ (dcoin a i) m1 ((q_wIn (by omega)).trans (q_wIs _ _ _ _)) ((q_wIs _ _ _ _).trans (by rw [q_wIn (by omega)])) (by unfold ncA; rw [if_neg ne, if_pos ev]) (by unfold npA; rw [if_pos ev])⟩, ?_⟩
          have c' : ¬ rnt a i ≤ a (25 + 13 * i + 1) + a (25 + 13 * i + 2) := Int32.not_le.mpr c
          simp (maxSteps := 2000000) (disch := first | rfl | exact q_e1 _ _ _ | exact q_sr1 _ _ | omega) only [f_X13_pass_14, ↓q_m1, q_l0, q_l1, q_l2, q_l3, q_l4, q_l5, q_l6, q_l7, q_l8, q_l9, q_l10, q_l11, q_l12, q_l13, q_l14, q_l15, q_l16, q_l17, q_l18, q_l19, q_l20, q_l21, q_l22, q_l23, q_l24, q_l25, q_l26, q_l27, q_l28, q_l29, q_l30, q_l31, q_l32, q_l33, q_l45, q_l46, q_l48, q_l57, q_l58, q_l59, q_l60, q_l61, q_l62, q_l63, q_l64, q_l96, q_l97, q_l99, q_l122, q_l129, q_l137, q_l255, q_l256, q_l400, q_l680, q_l700, q_l959, q_l999, q_l9999, q_l10000, q_l100000, q_l36, q_l50, q_l100, q_l112, q_l200, q_ltT, q_ltF, q_leT, q_leF, q_eqF, q_eqR, q_mlt, q_mle, q_nlm, q_nLm, q_nem, q_men, q_mlm, Nat.add_zero, Nat.sub_zero, q_add0, pk_rem, nI_add, pk_mul, q_sub, q_subm, q_addm, nI_clamp, q_inT, q_inF, q_sr1, q_srn, q_srw, q_srs, q_wIs, q_wIn, q_wI2, q_wJ1, q_wJs, q_wJn, q_wR1, q_wRs, q_wRn, q_wI22, q_wJ22, pk_us, pk_un, pk_uLs, pk_uLn, q_usS, q_usN, q_ups, q_upn, Bool.true_eq_false, Bool.false_eq_true, q_lt, q_o2, q_o3, q_o4, q_o5, q_bi, ↓reduceIte, q_tv0, q_tv1, q_bz, q_oRl, q_oRr, q_oXl, q_oXr, e15, q1, q2, e4, e, e2t, eq_false c']
          rfl
        · have ev : evA a i = false := by unfold evA; rw [decide_eq_false ne, decide_eq_false c]; rfl
          refine ⟨(nI (cnt (evA a) i), wI (wI s 3 i (dcoin a i)) 3 i (dcoin a i - rnt a i)), ⟨by rw [cnt, ev]; rfl, fun x h0 h3 h5 => (q_wIn h3).trans ((q_wIn h3).trans (g1 x h0 h3 h5)), fun j hj => (congrFun (q_wIn (by omega)) j).trans ((congrFun (q_wIn (by omega)) j).trans (g2 j hj)), (congrFun (q_wIn (by omega)) 16).trans ((congrFun (q_wIn (by omega)) 16).trans g3), rest _ (dcoin a i - rnt a i) (npA a i) ?_ ?_ (by unfold ncA; rw [if_neg ne, if_neg (by rw [ev]; decide)]) rfl⟩, ?_⟩
          · rw [q_wIs, q_wIs]
            funext y
            by_cases ey : y = i
            · subst ey; rw [pk_us, pk_us]
            · rw [pk_un ey, pk_un ey, pk_un ey]
          · rw [q_wIn (by omega), q_wIn (by omega)]
            have : s.1 5 i = npA a i := by rw [q2]; unfold npA; rw [ev, if_neg (by decide)]
            rw [← this]; exact upd_id _ _
          · have c' : rnt a i ≤ a (25 + 13 * i + 1) + a (25 + 13 * i + 2) := Int32.not_lt.mp c
            simp (maxSteps := 2000000) (disch := first | rfl | exact q_e1 _ _ _ | exact q_sr1 _ _ | omega) only [f_X13_pass_14, ↓q_m1, q_l0, q_l1, q_l2, q_l3, q_l4, q_l5, q_l6, q_l7, q_l8, q_l9, q_l10, q_l11, q_l12, q_l13, q_l14, q_l15, q_l16, q_l17, q_l18, q_l19, q_l20, q_l21, q_l22, q_l23, q_l24, q_l25, q_l26, q_l27, q_l28, q_l29, q_l30, q_l31, q_l32, q_l33, q_l45, q_l46, q_l48, q_l57, q_l58, q_l59, q_l60, q_l61, q_l62, q_l63, q_l64, q_l96, q_l97, q_l99, q_l122, q_l129, q_l137, q_l255, q_l256, q_l400, q_l680, q_l700, q_l959, q_l999, q_l9999, q_l10000, q_l100000, q_l36, q_l50, q_l100, q_l112, q_l200, q_ltT, q_ltF, q_leT, q_leF, q_eqF, q_eqR, q_mlt, q_mle, q_nlm, q_nLm, q_nem, q_men, q_mlm, Nat.add_zero, Nat.sub_zero, q_add0, pk_rem, nI_add, pk_mul, q_sub, q_subm, q_addm, nI_clamp, q_inT, q_inF, q_sr1, q_srn, q_srw, q_srs, q_wIs, q_wIn, q_wI2, q_wJ1, q_wJs, q_wJn, q_wR1, q_wRs, q_wRn, q_wI22, q_wJ22, pk_us, pk_un, pk_uLs, pk_uLn, q_usS, q_usN, q_ups, q_upn, Bool.true_eq_false, Bool.false_eq_true, q_lt, q_o2, q_o3, q_o4, q_o5, q_bi, ↓reduceIte, q_tv0, q_tv1, q_bz, q_oRl, q_oRr, q_oXl, q_oXr, e15, q1, q2, e4, e, e2t, eq_true c']
            rfl) (fun n s hh => by
      obtain ⟨c, s⟩ := s
      obtain ⟨rfl, g1, g2, g3, g4⟩ := hh
      dsimp only at g1 g2 g3 g4
      have e15 : s.1 0 15 = nI S := (g2 15 (by omega)).trans o1
      exact ⟨_, by simp (maxSteps := 2000000) (disch := first | rfl | exact q_e1 _ _ _ | exact q_sr1 _ _ | omega) only [f_X13_pass_14, ↓q_m1, q_l0, q_l1, q_l2, q_l3, q_l4, q_l5, q_l6, q_l7, q_l8, q_l9, q_l10, q_l11, q_l12, q_l13, q_l14, q_l15, q_l16, q_l17, q_l18, q_l19, q_l20, q_l21, q_l22, q_l23, q_l24, q_l25, q_l26, q_l27, q_l28, q_l29, q_l30, q_l31, q_l32, q_l33, q_l45, q_l46, q_l48, q_l57, q_l58, q_l59, q_l60, q_l61, q_l62, q_l63, q_l64, q_l96, q_l97, q_l99, q_l122, q_l129, q_l137, q_l255, q_l256, q_l400, q_l680, q_l700, q_l959, q_l999, q_l9999, q_l10000, q_l100000, q_l36, q_l50, q_l100, q_l112, q_l200, q_ltT, q_ltF, q_leT, q_leF, q_eqF, q_eqR, q_mlt, q_mle, q_nlm, q_nLm, q_nem, q_men, q_mlm, Nat.add_zero, Nat.sub_zero, q_add0, pk_rem, nI_add, pk_mul, q_sub, q_subm, q_addm, nI_clamp, q_inT, q_inF, q_sr1, q_srn, q_srw, q_srs, q_wIs, q_wIn, q_wI2, q_wJ1, q_wJs, q_wJn, q_wR1, q_wRs, q_wRn, q_wI22, q_wJ22, pk_us, pk_un, pk_uLs, pk_uLn, q_usS, q_usN, q_ups, q_upn, Bool.true_eq_false, Bool.false_eq_true, q_lt, q_o2, q_o3, q_o4, q_o5, q_bi, ↓reduceIte, q_tv0, q_tv1, q_bz, q_oRl, q_oRr, q_oXl, q_oXr, e15], s, rfl, g1, g2, g3, fun j hj => by
        rw [(g4 j hj).1, (g4 j hj).2, if_pos hj, if_pos hj]; exact ⟨rfl, rfl⟩⟩) (fu_lt (show S < 2000 by omega)) ⟨rfl, fun x h0 _ _ => q_wIn h0, fun j hj => by rw [q_wIs, pk_un hj], by rw [q_wIs, pk_us], fun j hj => by
      rw [if_neg (by omega), if_neg (by omega), q_wIn (by omega), q_wIn (by omega)]; exact ⟨(o4 j hj).1, (o4 j hj).2.2.1⟩⟩
  refine ⟨ω', ?_, fun a' hd => ?_⟩
  · simp (maxSteps := 2000000) (disch := first | rfl | exact q_e1 _ _ _ | exact q_sr1 _ _ | omega) only [f_X13_pass, ↓q_m1, q_l0, q_l1, q_l2, q_l3, q_l4, q_l5, q_l6, q_l7, q_l8, q_l9, q_l10, q_l11, q_l12, q_l13, q_l14, q_l15, q_l16, q_l17, q_l18, q_l19, q_l20, q_l21, q_l22, q_l23, q_l24, q_l25, q_l26, q_l27, q_l28, q_l29, q_l30, q_l31, q_l32, q_l33, q_l45, q_l46, q_l48, q_l57, q_l58, q_l59, q_l60, q_l61, q_l62, q_l63, q_l64, q_l96, q_l97, q_l99, q_l122, q_l129, q_l137, q_l255, q_l256, q_l400, q_l680, q_l700, q_l959, q_l999, q_l9999, q_l10000, q_l100000, q_l36, q_l50, q_l100, q_l112, q_l200, q_ltT, q_ltF, q_leT, q_leF, q_eqF, q_eqR, q_mlt, q_mle, q_nlm, q_nLm, q_nem, q_men, q_mlm, Nat.add_zero, Nat.sub_zero, q_add0, pk_rem, nI_add, pk_mul, q_sub, q_subm, q_addm, nI_clamp, q_inT, q_inF, q_sr1, q_srn, q_srw, q_srs, q_wIs, q_wIn, q_wI2, q_wJ1, q_wJs, q_wJn, q_wR1, q_wRs, q_wRn, q_wI22, q_wJ22, pk_us, pk_un, pk_uLs, pk_uLn, q_usS, q_usN, q_ups, q_upn, Bool.true_eq_false, Bool.false_eq_true, q_lt, q_o2, q_o3, q_o4, q_o5, q_bi, ↓reduceIte, q_tv0, q_tv1, q_bz, q_oRl, q_oRr, q_oXl, q_oXr, o3]
    exact f1
  · obtain ⟨d1, d2, d3, d4⟩ := hd
    have el : ∀ j, j < S → ln a' j = ln a j := fun j hj => ln_eq (d4 _ (by omega) (fun q hq => by omega))
    refine ⟨⟨(g2 15 (by omega)).trans o1, (g2 14 (by omega)).trans o2, by rw [g3, d2]⟩, fun i hi => ⟨?_, ?_, ?_, ?_⟩, fun i k hi hk => ?_, fun t ht => ?_, fun k hk => ?_⟩
    · rw [(g4 i hi).1, (d1 i hi).1]
    · rw [g1 4 (by omega) (by omega) (by omega), d4 _ (by omega) (fun q hq => by omega)]; exact (o4 i hi).2.1
    · rw [(g4 i hi).2, (d1 i hi).2]
    · rw [g1 6 (by omega) (by omega) (by omega), d4 _ (by omega) (fun q hq => by omega)]; exact (o4 i hi).2.2.2
    · rw [el i hi] at hk
      have := (w.2.1 i hi).1
      rw [g1 _ (by omega) (by omega) (by omega), d4 _ (by omega) (fun q hq => by omega)]; exact o5 i k hi hk
    · rw [g1 2 (by omega) (by omega) (by omega), d4 _ (by omega) (fun q hq => by omega)]; exact o6 t ht
    · rw [g1 7 (by omega) (by omega) (by omega), d4 _ (by omega) (fun q hq => by omega)]; exact o7 k hk
/-- days on both sides -/
theorem days_two {D : Nat} (hD : D < 100) : ∀ (r k m m' c B d : Nat) (μ : OM) (σ : SM) (a : Nat → Int32), k + r = D → r < m → r < m' → MX B S T μ a → OW S T (σ 20) a → LG S a → a 2 = nI d → d + r ≤ 9999 → B + 99 * r < 2 ^ 31 → ∃ μ' ω' a' n, f_X5_pass_2 (nI D) m (nI k) μ = some μ' ∧ f_X13_act_520 (nI D) m' (nI k) (nI c) σ = some (nI (c + n), us σ 20 ω') ∧ MX (B + 99 * r) S T μ' a' ∧ OW S T ω' a' ∧ LG S a' ∧ a' 2 = nI (d + r) ∧ a' 4 = a 4 + nI n := by
  intro r
  induction r with
  | zero =>
    intro k m m' c B d μ σ a hk hm hm' h o l e2 hd hB
    obtain ⟨m, rfl⟩ : ∃ q, m = q + 1 := ⟨m - 1, by omega⟩
    obtain ⟨m', rfl⟩ : ∃ q, m' = q + 1 := ⟨m' - 1, by omega⟩
    obtain rfl : k = D := by omega
    refine ⟨μ, σ 20, a, 0, by simp (maxSteps := 2000000) (disch := first | rfl | exact q_e1 _ _ _ | exact q_sr1 _ _ | omega) only [f_X5_pass_2, ↓q_m1, q_l0, q_l1, q_l2, q_l3, q_l4, q_l5, q_l6, q_l7, q_l8, q_l9, q_l10, q_l11, q_l12, q_l13, q_l14, q_l15, q_l16, q_l17, q_l18, q_l19, q_l20, q_l21, q_l22, q_l23, q_l24, q_l25, q_l26, q_l27, q_l28, q_l29, q_l30, q_l31, q_l32, q_l33, q_l45, q_l46, q_l48, q_l57, q_l58, q_l59, q_l60, q_l61, q_l62, q_l63, q_l64, q_l96, q_l97, q_l99, q_l122, q_l129, q_l137, q_l255, q_l256, q_l400, q_l680, q_l700, q_l959, q_l999, q_l9999, q_l10000, q_l100000, q_l36, q_l50, q_l100, q_l112, q_l200, q_ltT, q_ltF, q_leT, q_leF, q_eqF, q_eqR, q_mlt, q_mle, q_nlm, q_nLm, q_nem, q_men, q_mlm, Nat.add_zero, Nat.sub_zero, q_add0, pk_rem, nI_add, pk_mul, q_sub, q_subm, q_addm, nI_clamp, q_inT, q_inF, q_sr1, q_srn, q_srw, q_srs, q_wIs, q_wIn, q_wI2, q_wJ1, q_wJs, q_wJn, q_wR1, q_wRs, q_wRn, q_wI22, q_wJ22, pk_us, pk_un, pk_uLs, pk_uLn, q_usS, q_usN, q_ups, q_upn, Bool.true_eq_false, Bool.false_eq_true, q_lt, q_o2, q_o3, q_o4, q_o5, q_bi, ↓reduceIte, q_tv0, q_tv1, q_bz, q_oRl, q_oRr, q_oXl, q_oXr], ?_, by rw [Nat.mul_zero, Nat.add_zero]; exact h, o, l, e2, (Int32.add_zero _).symm⟩
    have eu : us σ 20 (σ 20) = σ := by
      funext q
      by_cases hq : q = 20
      · rw [hq, us_s]
      · rw [us_n hq]
    rw [eu]
    simp (maxSteps := 2000000) (disch := first | rfl | exact q_e1 _ _ _ | exact q_sr1 _ _ | omega) only [f_X13_act_520, ↓q_m1, q_l0, q_l1, q_l2, q_l3, q_l4, q_l5, q_l6, q_l7, q_l8, q_l9, q_l10, q_l11, q_l12, q_l13, q_l14, q_l15, q_l16, q_l17, q_l18, q_l19, q_l20, q_l21, q_l22, q_l23, q_l24, q_l25, q_l26, q_l27, q_l28, q_l29, q_l30, q_l31, q_l32, q_l33, q_l45, q_l46, q_l48, q_l57, q_l58, q_l59, q_l60, q_l61, q_l62, q_l63, q_l64, q_l96, q_l97, q_l99, q_l122, q_l129, q_l137, q_l255, q_l256, q_l400, q_l680, q_l700, q_l959, q_l999, q_l9999, q_l10000, q_l100000, q_l36, q_l50, q_l100, q_l112, q_l200, q_ltT, q_ltF, q_leT, q_leF, q_eqF, q_eqR, q_mlt, q_mle, q_nlm, q_nLm, q_nem, q_men, q_mlm, Nat.add_zero, Nat.sub_zero, q_add0, pk_rem, nI_add, pk_mul, q_sub, q_subm, q_addm, nI_clamp, q_inT, q_inF, q_sr1, q_srn, q_srw, q_srs, q_wIs, q_wIn, q_wI2, q_wJ1, q_wJs, q_wJn, q_wR1, q_wRs, q_wRn, q_wI22, q_wJ22, pk_us, pk_un, pk_uLs, pk_uLn, q_usS, q_usN, q_ups, q_upn, Bool.true_eq_false, Bool.false_eq_true, q_lt, q_o2, q_o3, q_o4, q_o5, q_bi, ↓reduceIte, q_tv0, q_tv1, q_bz, q_oRl, q_oRr, q_oXl, q_oXr]
  | succ r ih =>
    intro k m m' c B d μ σ a hk hm hm' h o l e2 hd hB
    obtain ⟨m, rfl⟩ : ∃ q, m = q + 1 := ⟨m - 1, by omega⟩
    obtain ⟨m', rfl⟩ : ∃ q, m' = q + 1 := ⟨m' - 1, by omega⟩
    obtain ⟨μ5, μ8, a1, f1, f2, f3, f4, f5⟩ := day_c h (by omega) l e2 (by omega)
    obtain ⟨ω1, g1, g2⟩ := day_o o h.2.2.1
    have e21 : a1 2 = nI (d + 1) := by rw [f5.2.1, e2, nI_add]
    obtain ⟨μ', ω', a', n, i1, i2, i3, i4, i5, i6, i7⟩ := ih (k + 1) m m' (c + cnt (evA a) S) (B + 99) (d + 1) μ8 (us σ 20 ω1) a1 (by omega) (by omega) (by omega) f3 (by rw [us_s]; exact g2 a1 f5) f4 e21 (by omega) (by omega)
    rw [us_us] at i2
    refine ⟨μ', ω', a', cnt (evA a) S + n, ?_, ?_, by rw [show B + 99 * (r + 1) = B + 99 + 99 * r by omega]; exact i3, i4, i5, by rw [i6, show d + 1 + r = d + (r + 1) by omega], by rw [i7, f5.2.2.1, Int32.add_assoc, nI_add]⟩
    · have e02 : μ.1 0 2 = nI d := (h.1.2.1 2 (by omega) (by omega)).trans e2
      simp (maxSteps := 2000000) (disch := first | rfl | exact q_e1 _ _ _ | exact q_sr1 _ _ | omega) only [f_X5_pass_2, ↓q_m1, q_l0, q_l1, q_l2, q_l3, q_l4, q_l5, q_l6, q_l7, q_l8, q_l9, q_l10, q_l11, q_l12, q_l13, q_l14, q_l15, q_l16, q_l17, q_l18, q_l19, q_l20, q_l21, q_l22, q_l23, q_l24, q_l25, q_l26, q_l27, q_l28, q_l29, q_l30, q_l31, q_l32, q_l33, q_l45, q_l46, q_l48, q_l57, q_l58, q_l59, q_l60, q_l61, q_l62, q_l63, q_l64, q_l96, q_l97, q_l99, q_l122, q_l129, q_l137, q_l255, q_l256, q_l400, q_l680, q_l700, q_l959, q_l999, q_l9999, q_l10000, q_l100000, q_l36, q_l50, q_l100, q_l112, q_l200, q_ltT, q_ltF, q_leT, q_leF, q_eqF, q_eqR, q_mlt, q_mle, q_nlm, q_nLm, q_nem, q_men, q_mlm, Nat.add_zero, Nat.sub_zero, q_add0, pk_rem, nI_add, pk_mul, q_sub, q_subm, q_addm, nI_clamp, q_inT, q_inF, q_sr1, q_srn, q_srw, q_srs, q_wIs, q_wIn, q_wI2, q_wJ1, q_wJs, q_wJn, q_wR1, q_wRs, q_wRn, q_wI22, q_wJ22, pk_us, pk_un, pk_uLs, pk_uLn, q_usS, q_usN, q_ups, q_upn, Bool.true_eq_false, Bool.false_eq_true, q_lt, q_o2, q_o3, q_o4, q_o5, q_bi, ↓reduceIte, q_tv0, q_tv1, q_bz, q_oRl, q_oRr, q_oXl, q_oXr, e02, f1, f2]
      exact i1
    · rw [← Nat.add_assoc]
      simp (maxSteps := 2000000) (disch := first | rfl | exact q_e1 _ _ _ | exact q_sr1 _ _ | omega) only [f_X13_act_520, ↓q_m1, q_l0, q_l1, q_l2, q_l3, q_l4, q_l5, q_l6, q_l7, q_l8, q_l9, q_l10, q_l11, q_l12, q_l13, q_l14, q_l15, q_l16, q_l17, q_l18, q_l19, q_l20, q_l21, q_l22, q_l23, q_l24, q_l25, q_l26, q_l27, q_l28, q_l29, q_l30, q_l31, q_l32, q_l33, q_l45, q_l46, q_l48, q_l57, q_l58, q_l59, q_l60, q_l61, q_l62, q_l63, q_l64, q_l96, q_l97, q_l99, q_l122, q_l129, q_l137, q_l255, q_l256, q_l400, q_l680, q_l700, q_l959, q_l999, q_l9999, q_l10000, q_l100000, q_l36, q_l50, q_l100, q_l112, q_l200, q_ltT, q_ltF, q_leT, q_leF, q_eqF, q_eqR, q_mlt, q_mle, q_nlm, q_nLm, q_nem, q_men, q_mlm, Nat.add_zero, Nat.sub_zero, q_add0, pk_rem, nI_add, pk_mul, q_sub, q_subm, q_addm, nI_clamp, q_inT, q_inF, q_sr1, q_srn, q_srw, q_srs, q_wIs, q_wIn, q_wI2, q_wJ1, q_wJs, q_wJn, q_wR1, q_wRs, q_wRn, q_wI22, q_wJ22, pk_us, pk_un, pk_uLs, pk_uLn, q_usS, q_usN, q_ups, q_upn, Bool.true_eq_false, Bool.false_eq_true, q_lt, q_o2, q_o3, q_o4, q_o5, q_bi, ↓reduceIte, q_tv0, q_tv1, q_bz, q_oRl, q_oRr, q_oXl, q_oXr, g1]
      exact i2
theorem k_days (h : MX B S T (σ 0) a) (hH : HI σ) {D d : Nat} (h1 : 1 ≤ D) (h99 : D ≤ 99) (e2 : a 2 = nI d) (hd : d + D ≤ 9999) {μ' : OM} {a' : Nat → Int32} {n B' : Nat} (f1 : f_X5_pass_2 (nI D) FU (nI 0) (σ 0) = some μ') (hm : MX B' S T μ' a') (e4 : a' 4 = a 4 + nI n) : KO B' S T σ a' (f_X12_advanceDays (nI D) σ) (nI n) := by
  obtain ⟨τ, c1, c3, c7⟩ := rec_ok hH
  have d0 : τ 0 = σ 0 := c3 0 (by omega) (by omega)
  have d20 : τ 20 = σ 20 := c3 20 (by omega) (by omega)
  have hτ := rec_hi c7
  refine ko_fin d20 hτ hm ?_
  have e02 : (σ 0).1 0 2 = nI d := (h.1.2.1 2 (by omega) (by omega)).trans e2
  have hmp : f_X5_mayPass (nI D) (σ 0) = some (nI 1) := by
    simp (maxSteps := 2000000) (disch := first | rfl | exact q_e1 _ _ _ | exact q_sr1 _ _ | omega) only [f_X5_mayPass, ↓q_m1, q_l0, q_l1, q_l2, q_l3, q_l4, q_l5, q_l6, q_l7, q_l8, q_l9, q_l10, q_l11, q_l12, q_l13, q_l14, q_l15, q_l16, q_l17, q_l18, q_l19, q_l20, q_l21, q_l22, q_l23, q_l24, q_l25, q_l26, q_l27, q_l28, q_l29, q_l30, q_l31, q_l32, q_l33, q_l45, q_l46, q_l48, q_l57, q_l58, q_l59, q_l60, q_l61, q_l62, q_l63, q_l64, q_l96, q_l97, q_l99, q_l122, q_l129, q_l137, q_l255, q_l256, q_l400, q_l680, q_l700, q_l959, q_l999, q_l9999, q_l10000, q_l100000, q_l36, q_l50, q_l100, q_l112, q_l200, q_ltT, q_ltF, q_leT, q_leF, q_eqF, q_eqR, q_mlt, q_mle, q_nlm, q_nLm, q_nem, q_men, q_mlm, Nat.add_zero, Nat.sub_zero, q_add0, pk_rem, nI_add, pk_mul, q_sub, q_subm, q_addm, nI_clamp, q_inT, q_inF, q_sr1, q_srn, q_srw, q_srs, q_wIs, q_wIn, q_wI2, q_wJ1, q_wJs, q_wJn, q_wR1, q_wRs, q_wRn, q_wI22, q_wJ22, pk_us, pk_un, pk_uLs, pk_uLn, q_usS, q_usN, q_ups, q_upn, Bool.true_eq_false, Bool.false_eq_true, q_lt, q_o2, q_o3, q_o4, q_o5, q_bi, ↓reduceIte, q_tv0, q_tv1, q_bz, q_oRl, q_oRr, q_oXl, q_oXr, e02]
  have hp : f_X5_pass (nI D) (σ 0) = some μ' := f1
  have er : μ'.1 0 4 - (σ 0).1 0 4 = nI n := by
    rw [hm.1.2.1 4 (by omega) (by omega), h.1.2.1 4 (by omega) (by omega), e4, Int32.add_comm, Int32.add_sub_cancel]
  simp (maxSteps := 2000000) (disch := first | rfl | exact q_e1 _ _ _ | exact q_sr1 _ _ | omega) only [f_X12_advanceDays, ↓q_m1, q_l0, q_l1, q_l2, q_l3, q_l4, q_l5, q_l6, q_l7, q_l8, q_l9, q_l10, q_l11, q_l12, q_l13, q_l14, q_l15, q_l16, q_l17, q_l18, q_l19, q_l20, q_l21, q_l22, q_l23, q_l24, q_l25, q_l26, q_l27, q_l28, q_l29, q_l30, q_l31, q_l32, q_l33, q_l45, q_l46, q_l48, q_l57, q_l58, q_l59, q_l60, q_l61, q_l62, q_l63, q_l64, q_l96, q_l97, q_l99, q_l122, q_l129, q_l137, q_l255, q_l256, q_l400, q_l680, q_l700, q_l959, q_l999, q_l9999, q_l10000, q_l100000, q_l36, q_l50, q_l100, q_l112, q_l200, q_ltT, q_ltF, q_leT, q_leF, q_eqF, q_eqR, q_mlt, q_mle, q_nlm, q_nLm, q_nem, q_men, q_mlm, Nat.add_zero, Nat.sub_zero, q_add0, pk_rem, nI_add, pk_mul, q_sub, q_subm, q_addm, nI_clamp, q_inT, q_inF, q_sr1, q_srn, q_srw, q_srs, q_wIs, q_wIn, q_wI2, q_wJ1, q_wJs, q_wJn, q_wR1, q_wRs, q_wRn, q_wI22, q_wJ22, pk_us, pk_un, pk_uLs, pk_uLn, q_usS, q_usN, q_ups, q_upn, Bool.true_eq_false, Bool.false_eq_true, q_lt, q_o2, q_o3, q_o4, q_o5, q_bi, ↓reduceIte, q_tv0, q_tv1, q_bz, q_oRl, q_oRr, q_oXl, q_oXr, hmp, c1, d0, hp, er]
end DAY

/-! the text is handed over -/
theorem or_nI {a b : Nat} (hb : b < 256) (h : 256 * a + b < 2 ^ 31) : (nI a <<< (nI 8 &&& nI 31)) ||| nI b = nI (256 * a + b) := by
  apply Int32.toBitVec_inj.mp
  apply BitVec.eq_of_toNat_eq
  rw [Int32.toBitVec_or, BitVec.toNat_or, pk_shl (nI a) (nI 8 &&& nI 31) 8 (by decide), pk_tn (by omega), pk_tn (by omega), pk_tn (by omega), Nat.mod_eq_of_lt (by omega), show a * 2 ^ 8 = 2 ^ 8 * a by omega, ← Nat.two_pow_add_eq_or_of_lt (i := 8) (by omega)]
theorem ub24 {v : Nat} (hv : v < 2 ^ 31) : ((nI v).toUInt32 >>> (Int32.toUInt32 (nI 24) &&& Int32.toUInt32 (nI 31))).toInt32 &&& nI 255 = nI (v / 16777216 % 256) := by
  show ((nI v).toUInt32 >>> ((nI 24).toUInt32 &&& Int32.toUInt32 31)).toInt32 &&& nI 255 = _
  rw [pk_ushrN (by omega) (nI 24) 24 (by decide), pk_andN (by omega) 8 (by decide)]
theorem ub16 {v : Nat} (hv : v < 2 ^ 31) : ((nI v).toUInt32 >>> (Int32.toUInt32 (nI 16) &&& Int32.toUInt32 (nI 31))).toInt32 &&& nI 255 = nI (v / 65536 % 256) := by
  show ((nI v).toUInt32 >>> ((nI 16).toUInt32 &&& Int32.toUInt32 31)).toInt32 &&& nI 255 = _
  rw [pk_ushrN (by omega) (nI 16) 16 (by decide), pk_andN (by omega) 8 (by decide)]
theorem ub8 {v : Nat} (hv : v < 2 ^ 31) : ((nI v).toUInt32 >>> (Int32.toUInt32 (nI 8) &&& Int32.toUInt32 (nI 31))).toInt32 &&& nI 255 = nI (v / 256 % 256) := by
  show ((nI v).toUInt32 >>> ((nI 8).toUInt32 &&& Int32.toUInt32 31)).toInt32 &&& nI 255 = _
  rw [pk_ushrN (by omega) (nI 8) 8 (by decide), pk_andN (by omega) 8 (by decide)]
theorem ub0 {v : Nat} (hv : v < 2 ^ 31) : ((nI v).toUInt32 >>> (Int32.toUInt32 (nI 0) &&& Int32.toUInt32 (nI 31))).toInt32 &&& nI 255 = nI (v % 256) := by
  show ((nI v).toUInt32 >>> ((nI 0).toUInt32 &&& Int32.toUInt32 31)).toInt32 &&& nI 255 = _
  rw [pk_ushrN (by omega) (nI 0) 0 (by decide), pk_andN (by omega) 8 (by decide), Nat.pow_zero, Nat.div_one]
def pk4 (g : Nat → Nat) (p : Nat) : Nat := 256 * (256 * (256 * g p + g (p + 1)) + g (p + 2)) + g (p + 3)
def BT (β : OM) (n : Nat) (g : Nat → Nat) : Prop := β.1 0 1 = nI n ∧ n ≤ 700 ∧ ∀ k, k < n → β.1 1 k = nI (g k)
section SND
variable {ω β : OM} {σ : SM} {L : List Nat} {g : Nat → Nat}
theorem add1 {g_n : Nat} (h : BT β g_n g) (hn : g_n < 700) : ∃ β', f_X2_add (nI (g g_n)) β = some β' ∧ BT β' (g_n + 1) g := by
  refine ⟨wI (wI β 1 g_n (nI (g g_n))) 0 1 (nI (g_n + 1)), by simp (maxSteps := 2000000) (disch := first | rfl | exact q_e1 _ _ _ | exact q_sr1 _ _ | omega) only [f_X2_add, ↓q_m1, q_l0, q_l1, q_l2, q_l3, q_l4, q_l5, q_l6, q_l7, q_l8, q_l9, q_l10, q_l11, q_l12, q_l13, q_l14, q_l15, q_l16, q_l17, q_l18, q_l19, q_l20, q_l21, q_l22, q_l23, q_l24, q_l25, q_l26, q_l27, q_l28, q_l29, q_l30, q_l31, q_l32, q_l33, q_l45, q_l46, q_l48, q_l57, q_l58, q_l59, q_l60, q_l61, q_l62, q_l63, q_l64, q_l96, q_l97, q_l99, q_l122, q_l129, q_l137, q_l255, q_l256, q_l400, q_l680, q_l700, q_l959, q_l999, q_l9999, q_l10000, q_l100000, q_l36, q_l50, q_l100, q_l112, q_l200, q_ltT, q_ltF, q_leT, q_leF, q_eqF, q_eqR, q_mlt, q_mle, q_nlm, q_nLm, q_nem, q_men, q_mlm, Nat.add_zero, Nat.sub_zero, q_add0, pk_rem, nI_add, pk_mul, q_sub, q_subm, q_addm, nI_clamp, q_inT, q_inF, q_sr1, q_srn, q_srw, q_srs, q_wIs, q_wIn, q_wI2, q_wJ1, q_wJs, q_wJn, q_wR1, q_wRs, q_wRn, q_wI22, q_wJ22, pk_us, pk_un, pk_uLs, pk_uLn, q_usS, q_usN, q_ups, q_upn, Bool.true_eq_false, Bool.false_eq_true, q_lt, q_o2, q_o3, q_o4, q_o5, q_bi, ↓reduceIte, q_tv0, q_tv1, q_bz, q_oRl, q_oRr, q_oXl, q_oXr, h.1], by rw [q_wIs, pk_us], by omega, fun k hk => ?_⟩
  rw [q_wIn (by omega), q_wIs]
  by_cases e : k = g_n
  · subst e; rw [pk_us]
  · rw [pk_un e]; exact h.2.2 k (by omega)
theorem addw {n : Nat} (h : BT β n g) (hn : n + 4 ≤ 700) (hg : ∀ k, g k < 128) : ∃ β', f_X2_addWord (nI (pk4 g n)) β = some β' ∧ BT β' (n + 4) g := by
  have g0 := hg n
  have g1 := hg (n + 1)
  have g2 := hg (n + 2)
  have g3 := hg (n + 3)
  have hv : pk4 g n < 2 ^ 31 := by unfold pk4; omega
  have b24 := ub24 hv
  have b16 := ub16 hv
  have b8 := ub8 hv
  have b0 := ub0 hv
  rw [show pk4 g n / 16777216 % 256 = g n by unfold pk4; omega] at b24
  rw [show pk4 g n / 65536 % 256 = g (n + 1) by unfold pk4; omega] at b16
  rw [show pk4 g n / 256 % 256 = g (n + 2) by unfold pk4; omega] at b8
  rw [show pk4 g n % 256 = g (n + 3) by unfold pk4; omega] at b0
  obtain ⟨β1, a1, a2⟩ := add1 h (by omega)
  obtain ⟨β2, a3, a4⟩ := add1 a2 (by omega)
  obtain ⟨β3, a5, a6⟩ := add1 a4 (by omega)
  obtain ⟨β4, a7, a8⟩ := add1 a6 (by omega)
  refine ⟨β4, ?_, a8⟩
  show f_X2_addWord_3 (nI (pk4 g n)) (1995 + 1 + 1 + 1 + 1 + 1) (nI 24) β = some β4
  have m24 : nI 24 + (-8) = nI 16 := by decide
  have m16 : nI 16 + (-8) = nI 8 := by decide
  have m8 : nI 8 + (-8) = nI 0 := by decide
  have m0 : nI 0 + (-8) < (0 : Int32) := by decide
  rw [f_X2_addWord_3, if_neg (by decide), show (255 : Int32) = nI 255 from rfl, show Int32.toUInt32 31 = Int32.toUInt32 (nI 31) from rfl, b24, a1, q_bi, m24, f_X2_addWord_3, if_neg (by decide), show (255 : Int32) = nI 255 from rfl, show Int32.toUInt32 31 = Int32.toUInt32 (nI 31) from rfl, b16, a3, q_bi, m16, f_X2_addWord_3, if_neg (by decide), show (255 : Int32) = nI 255 from rfl, show Int32.toUInt32 31 = Int32.toUInt32 (nI 31) from rfl, b8, a5, q_bi, m8, f_X2_addWord_3, if_neg (by decide), show (255 : Int32) = nI 255 from rfl, show Int32.toUInt32 31 = Int32.toUInt32 (nI 31) from rfl, b0, a7, q_bi, f_X2_addWord_3, if_pos m0]
theorem four_ok (h : TX ω L) (p : Nat) (hp : p ≤ 700) : f_X13_four (nI p) ω = some (nI (pk4 (fun k => L.getD k 32) p)) := by
  have hl := h.2.1
  have step : ∀ j m v, j < 4 → 256 * v + 255 < 2 ^ 31 → f_X13_four_4 (nI p) ω (m + 1) (nI (p + j)) (nI v) = f_X13_four_4 (nI p) ω m (nI (p + (j + 1))) (nI (256 * v + L.getD (p + j) 32)) := fun j m v hj hv => by
    have c1 : (nI (p + 4) ≤ nI (p + j)) = False := eq_false (nI_ge (by omega) (by omega))
    by_cases c : L.length ≤ p + j
    · have eg : L.getD (p + j) 32 = 32 := by rw [List.getD_eq_getElem?_getD, List.getElem?_eq_none c]; rfl
      have c2 : (nI L.length ≤ nI (p + j)) = True := eq_true (nI_le c (by omega))
      have ho := or_nI (a := v) (b := 32) (by omega) (by omega)
      rw [eg]
      simp (maxSteps := 2000000) (disch := first | rfl | exact q_e1 _ _ _ | exact q_sr1 _ _ | omega) only [f_X13_four_4, ↓q_m1, q_l0, q_l1, q_l2, q_l3, q_l4, q_l5, q_l6, q_l7, q_l8, q_l9, q_l10, q_l11, q_l12, q_l13, q_l14, q_l15, q_l16, q_l17, q_l18, q_l19, q_l20, q_l21, q_l22, q_l23, q_l24, q_l25, q_l26, q_l27, q_l28, q_l29, q_l30, q_l31, q_l32, q_l33, q_l45, q_l46, q_l48, q_l57, q_l58, q_l59, q_l60, q_l61, q_l62, q_l63, q_l64, q_l96, q_l97, q_l99, q_l122, q_l129, q_l137, q_l255, q_l256, q_l400, q_l680, q_l700, q_l959, q_l999, q_l9999, q_l10000, q_l100000, q_l36, q_l50, q_l100, q_l112, q_l200, q_ltT, q_ltF, q_leT, q_leF, q_eqF, q_eqR, q_mlt, q_mle, q_nlm, q_nLm, q_nem, q_men, q_mlm, Nat.add_zero, Nat.sub_zero, q_add0, pk_rem, nI_add, pk_mul, q_sub, q_subm, q_addm, nI_clamp, q_inT, q_inF, q_sr1, q_srn, q_srw, q_srs, q_wIs, q_wIn, q_wI2, q_wJ1, q_wJs, q_wJn, q_wR1, q_wRs, q_wRn, q_wI22, q_wJ22, pk_us, pk_un, pk_uLs, pk_uLn, q_usS, q_usN, q_ups, q_upn, Bool.true_eq_false, Bool.false_eq_true, q_lt, q_o2, q_o3, q_o4, q_o5, q_bi, ↓reduceIte, q_tv0, q_tv1, q_bz, q_oRl, q_oRr, q_oXl, q_oXr, h.1, ho, c1, c2, Nat.add_assoc]
    · obtain ⟨x, hx⟩ : ∃ x, L[p + j]? = some x := ⟨_, List.getElem?_eq_getElem (by omega)⟩
      obtain ⟨x1, x2⟩ := h.2.2 _ _ hx
      have eg : L.getD (p + j) 32 = x := by rw [List.getD_eq_getElem?_getD, hx]; rfl
      have c2 : (nI L.length ≤ nI (p + j)) = False := eq_false (nI_ge (by omega) (by omega))
      have ho := or_nI (a := v) (b := x) (by omega) (by omega)
      rw [eg]
      simp (maxSteps := 2000000) (disch := first | rfl | exact q_e1 _ _ _ | exact q_sr1 _ _ | omega) only [f_X13_four_4, ↓q_m1, q_l0, q_l1, q_l2, q_l3, q_l4, q_l5, q_l6, q_l7, q_l8, q_l9, q_l10, q_l11, q_l12, q_l13, q_l14, q_l15, q_l16, q_l17, q_l18, q_l19, q_l20, q_l21, q_l22, q_l23, q_l24, q_l25, q_l26, q_l27, q_l28, q_l29, q_l30, q_l31, q_l32, q_l33, q_l45, q_l46, q_l48, q_l57, q_l58, q_l59, q_l60, q_l61, q_l62, q_l63, q_l64, q_l96, q_l97, q_l99, q_l122, q_l129, q_l137, q_l255, q_l256, q_l400, q_l680, q_l700, q_l959, q_l999, q_l9999, q_l10000, q_l100000, q_l36, q_l50, q_l100, q_l112, q_l200, q_ltT, q_ltF, q_leT, q_leF, q_eqF, q_eqR, q_mlt, q_mle, q_nlm, q_nLm, q_nem, q_men, q_mlm, Nat.add_zero, Nat.sub_zero, q_add0, pk_rem, nI_add, pk_mul, q_sub, q_subm, q_addm, nI_clamp, q_inT, q_inF, q_sr1, q_srn, q_srw, q_srs, q_wIs, q_wIn, q_wI2, q_wJ1, q_wJs, q_wJn, q_wR1, q_wRs, q_wRn, q_wI22, q_wJ22, pk_us, pk_un, pk_uLs, pk_uLn, q_usS, q_usN, q_ups, q_upn, Bool.true_eq_false, Bool.false_eq_true, q_lt, q_o2, q_o3, q_o4, q_o5, q_bi, ↓reduceIte, q_tv0, q_tv1, q_bz, q_oRl, q_oRr, q_oXl, q_oXr, h.1, x2, ho, c1, c2, Nat.add_assoc]
  have gl : ∀ k, L.getD k 32 < 128 := fun k => by
    rcases Nat.lt_or_ge k L.length with c | c
    · have hx : L[k]? = some L[k] := List.getElem?_eq_getElem c
      rw [List.getD_eq_getElem?_getD, hx]; exact (h.2.2 _ _ hx).1
    · rw [List.getD_eq_getElem?_getD, List.getElem?_eq_none c]; decide
  have g0 := gl (p + 0)
  have g1 := gl (p + 1)
  have g2 := gl (p + 2)
  show f_X13_four_4 (nI p) ω (1995 + 1 + 1 + 1 + 1 + 1) (nI (p + 0)) (nI 0) = _
  rw [step 0 _ _ (by omega) (by omega), step 1 _ _ (by omega) (by omega), step 2 _ _ (by omega) (by omega), step 3 _ _ (by omega) (by omega)]
  have c1 : (nI (p + 4) ≤ nI (p + (3 + 1))) = True := eq_true (nI_le (by omega) (by omega))
  simp (maxSteps := 2000000) (disch := first | rfl | exact q_e1 _ _ _ | exact q_sr1 _ _ | omega) only [f_X13_four_4, ↓q_m1, q_l0, q_l1, q_l2, q_l3, q_l4, q_l5, q_l6, q_l7, q_l8, q_l9, q_l10, q_l11, q_l12, q_l13, q_l14, q_l15, q_l16, q_l17, q_l18, q_l19, q_l20, q_l21, q_l22, q_l23, q_l24, q_l25, q_l26, q_l27, q_l28, q_l29, q_l30, q_l31, q_l32, q_l33, q_l45, q_l46, q_l48, q_l57, q_l58, q_l59, q_l60, q_l61, q_l62, q_l63, q_l64, q_l96, q_l97, q_l99, q_l122, q_l129, q_l137, q_l255, q_l256, q_l400, q_l680, q_l700, q_l959, q_l999, q_l9999, q_l10000, q_l100000, q_l36, q_l50, q_l100, q_l112, q_l200, q_ltT, q_ltF, q_leT, q_leF, q_eqF, q_eqR, q_mlt, q_mle, q_nlm, q_nLm, q_nem, q_men, q_mlm, Nat.add_zero, Nat.sub_zero, q_add0, pk_rem, nI_add, pk_mul, q_sub, q_subm, q_addm, nI_clamp, q_inT, q_inF, q_sr1, q_srn, q_srw, q_srs, q_wIs, q_wIn, q_wI2, q_wJ1, q_wJs, q_wJn, q_wR1, q_wRs, q_wRn, q_wI22, q_wJ22, pk_us, pk_un, pk_uLs, pk_uLn, q_usS, q_usN, q_ups, q_upn, Bool.true_eq_false, Bool.false_eq_true, q_lt, q_o2, q_o3, q_o4, q_o5, q_bi, ↓reduceIte, q_tv0, q_tv1, q_bz, q_oRl, q_oRr, q_oXl, q_oXr]
  rw [pk4]
  simp only [Nat.mul_zero, Nat.zero_add, Nat.add_zero]
theorem send_ok (h : TX (σ 20) L) (hl : L.length ≤ 600) (h13 : (σ 13).1 0 1 = nI 0) : ∃ σ' n, f_X13_send σ = some (nI 1, σ') ∧ (∀ o, o ≠ 13 → o ≠ 20 → σ' o = σ o) ∧ σ' 20 = wI (σ 20) 0 13 (nI 0) ∧ BT (σ' 13) n (fun k => L.getD k 32) ∧ L.length ≤ n ∧ ∀ k, L.getD k 32 < 128 := by
  have gl : ∀ k, L.getD k 32 < 128 := fun k => by
    rcases Nat.lt_or_ge k L.length with c | c
    · have hx : L[k]? = some L[k] := List.getElem?_eq_getElem c
      rw [List.getD_eq_getElem?_getD, hx]; exact (h.2.2 _ _ hx).1
    · rw [List.getD_eq_getElem?_getD, List.getElem?_eq_none c]; decide
  have key : ∀ (r x m : Nat) (s : SM), L.length ≤ x + 20 * r → x ≤ 640 → r < m → (∀ o, o ≠ 13 → s o = σ o) → BT (s 13) x (fun k => L.getD k 32) → ∃ σ' n, f_X13_send_2 m (nI x) s = some (nI 1, σ') ∧ (∀ o, o ≠ 13 → o ≠ 20 → σ' o = σ o) ∧ σ' 20 = wI (σ 20) 0 13 (nI 0) ∧ BT (σ' 13) n (fun k => L.getD k 32) ∧ L.length ≤ n := by
    intro r
    induction r with
    | zero =>
      intro x m s h1 h2 h3 h4 h5
      obtain ⟨m, rfl⟩ : ∃ q, m = q + 1 := ⟨m - 1, by omega⟩
      have e20 := h4 20 (by omega)
      have c2 : (nI L.length ≤ nI x) = True := eq_true (nI_le (by omega) (by omega))
      refine ⟨us s 20 (wI (σ 20) 0 13 (nI 0)), x, by simp (maxSteps := 2000000) (disch := first | rfl | exact q_e1 _ _ _ | exact q_sr1 _ _ | omega) only [f_X13_send_2, ↓q_m1, q_l0, q_l1, q_l2, q_l3, q_l4, q_l5, q_l6, q_l7, q_l8, q_l9, q_l10, q_l11, q_l12, q_l13, q_l14, q_l15, q_l16, q_l17, q_l18, q_l19, q_l20, q_l21, q_l22, q_l23, q_l24, q_l25, q_l26, q_l27, q_l28, q_l29, q_l30, q_l31, q_l32, q_l33, q_l45, q_l46, q_l48, q_l57, q_l58, q_l59, q_l60, q_l61, q_l62, q_l63, q_l64, q_l96, q_l97, q_l99, q_l122, q_l129, q_l137, q_l255, q_l256, q_l400, q_l680, q_l700, q_l959, q_l999, q_l9999, q_l10000, q_l100000, q_l36, q_l50, q_l100, q_l112, q_l200, q_ltT, q_ltF, q_leT, q_leF, q_eqF, q_eqR, q_mlt, q_mle, q_nlm, q_nLm, q_nem, q_men, q_mlm, Nat.add_zero, Nat.sub_zero, q_add0, pk_rem, nI_add, pk_mul, q_sub, q_subm, q_addm, nI_clamp, q_inT, q_inF, q_sr1, q_srn, q_srw, q_srs, q_wIs, q_wIn, q_wI2, q_wJ1, q_wJs, q_wJn, q_wR1, q_wRs, q_wRn, q_wI22, q_wJ22, pk_us, pk_un, pk_uLs, pk_uLn, q_usS, q_usN, q_ups, q_upn, Bool.true_eq_false, Bool.false_eq_true, q_lt, q_o2, q_o3, q_o4, q_o5, q_bi, ↓reduceIte, q_tv0, q_tv1, q_bz, q_oRl, q_oRr, q_oXl, q_oXr, e20, h.1, c2], fun o o1 o2 => (q_usN o2).trans (h4 o o1), q_usS _ _ _, by rw [q_usN (by omega)]; exact h5, by omega⟩
    | succ r ih =>
      intro x m s h1 h2 h3 h4 h5
      obtain ⟨m, rfl⟩ : ∃ q, m = q + 1 := ⟨m - 1, by omega⟩
      have e20 := h4 20 (by omega)
      by_cases c : L.length ≤ x
      · have c2 : (nI L.length ≤ nI x) = True := eq_true (nI_le (by omega) (by omega))
        refine ⟨us s 20 (wI (σ 20) 0 13 (nI 0)), x, by simp (maxSteps := 2000000) (disch := first | rfl | exact q_e1 _ _ _ | exact q_sr1 _ _ | omega) only [f_X13_send_2, ↓q_m1, q_l0, q_l1, q_l2, q_l3, q_l4, q_l5, q_l6, q_l7, q_l8, q_l9, q_l10, q_l11, q_l12, q_l13, q_l14, q_l15, q_l16, q_l17, q_l18, q_l19, q_l20, q_l21, q_l22, q_l23, q_l24, q_l25, q_l26, q_l27, q_l28, q_l29, q_l30, q_l31, q_l32, q_l33, q_l45, q_l46, q_l48, q_l57, q_l58, q_l59, q_l60, q_l61, q_l62, q_l63, q_l64, q_l96, q_l97, q_l99, q_l122, q_l129, q_l137, q_l255, q_l256, q_l400, q_l680, q_l700, q_l959, q_l999, q_l9999, q_l10000, q_l100000, q_l36, q_l50, q_l100, q_l112, q_l200, q_ltT, q_ltF, q_leT, q_leF, q_eqF, q_eqR, q_mlt, q_mle, q_nlm, q_nLm, q_nem, q_men, q_mlm, Nat.add_zero, Nat.sub_zero, q_add0, pk_rem, nI_add, pk_mul, q_sub, q_subm, q_addm, nI_clamp, q_inT, q_inF, q_sr1, q_srn, q_srw, q_srs, q_wIs, q_wIn, q_wI2, q_wJ1, q_wJs, q_wJn, q_wR1, q_wRs, q_wRn, q_wI22, q_wJ22, pk_us, pk_un, pk_uLs, pk_uLn, q_usS, q_usN, q_ups, q_upn, Bool.true_eq_false, Bool.false_eq_true, q_lt, q_o2, q_o3, q_o4, q_o5, q_bi, ↓reduceIte, q_tv0, q_tv1, q_bz, q_oRl, q_oRr, q_oXl, q_oXr, e20, h.1, c2], fun o o1 o2 => (q_usN o2).trans (h4 o o1), q_usS _ _ _, by rw [q_usN (by omega)]; exact h5, by omega⟩
      · have c2 : (nI L.length ≤ nI x) = False := eq_false (nI_ge (by omega) (by omega))
        have f0 := four_ok h x (by omega)
        have f1 := four_ok h (x + 4) (by omega)
        have f2 := four_ok h (x + 8) (by omega)
        have f3 := four_ok h (x + 12) (by omega)
        have f4 := four_ok h (x + 16) (by omega)
        obtain ⟨β1, a1, b1⟩ := addw h5 (by omega) gl
        obtain ⟨β2, a2, b2⟩ := addw b1 (by omega) gl
        obtain ⟨β3, a3, b3⟩ := addw b2 (by omega) gl
        obtain ⟨β4, a4, b4⟩ := addw b3 (by omega) gl
        obtain ⟨β5, a5, b5⟩ := addw b4 (by omega) gl
        obtain ⟨σ', n, k1, k2⟩ := ih (x + 20) m (us s 13 β5) (by omega) (by omega) (by omega) (fun o ho => (q_usN ho).trans (h4 o ho)) (by rw [q_usS]; exact b5)
        refine ⟨σ', n, ?_, k2⟩
        have e5 : β5.1 0 1 = nI (x + 20) := b5.1
        simp (maxSteps := 2000000) (disch := first | rfl | exact q_e1 _ _ _ | exact q_sr1 _ _ | omega) only [f_X13_send_2, f_X12_appendInput, ↓q_m1, q_l0, q_l1, q_l2, q_l3, q_l4, q_l5, q_l6, q_l7, q_l8, q_l9, q_l10, q_l11, q_l12, q_l13, q_l14, q_l15, q_l16, q_l17, q_l18, q_l19, q_l20, q_l21, q_l22, q_l23, q_l24, q_l25, q_l26, q_l27, q_l28, q_l29, q_l30, q_l31, q_l32, q_l33, q_l45, q_l46, q_l48, q_l57, q_l58, q_l59, q_l60, q_l61, q_l62, q_l63, q_l64, q_l96, q_l97, q_l99, q_l122, q_l129, q_l137, q_l255, q_l256, q_l400, q_l680, q_l700, q_l959, q_l999, q_l9999, q_l10000, q_l100000, q_l36, q_l50, q_l100, q_l112, q_l200, q_ltT, q_ltF, q_leT, q_leF, q_eqF, q_eqR, q_mlt, q_mle, q_nlm, q_nLm, q_nem, q_men, q_mlm, Nat.add_zero, Nat.sub_zero, q_add0, pk_rem, nI_add, pk_mul, q_sub, q_subm, q_addm, nI_clamp, q_inT, q_inF, q_sr1, q_srn, q_srw, q_srs, q_wIs, q_wIn, q_wI2, q_wJ1, q_wJs, q_wJn, q_wR1, q_wRs, q_wRn, q_wI22, q_wJ22, pk_us, pk_un, pk_uLs, pk_uLn, q_usS, q_usN, q_ups, q_upn, Bool.true_eq_false, Bool.false_eq_true, q_lt, q_o2, q_o3, q_o4, q_o5, q_bi, ↓reduceIte, q_tv0, q_tv1, q_bz, q_oRl, q_oRr, q_oXl, q_oXr, e20, h.1, c2, f0, f1, f2, f3, f4, h5.1, a1, a2, a3, a4, a5, us_us, Nat.add_assoc, e5]
        exact k1
  obtain ⟨σ', n, k1, k2, k3, k4, k5⟩ := key 30 0 FU σ (by omega) (by omega) (fu_lt (by omega)) (fun _ _ => rfl) ⟨h13, by omega, fun k hk => by omega⟩
  exact ⟨σ', n, k1, k2, k3, k4, k5, gl⟩
end SND

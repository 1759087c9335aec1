/-! names: wb_tb .. wb_shr begin as the kit's laws/BITS.to-paste -/
theorem wb_tb (n : Nat) : (lN n).toBitVec = BitVec.ofNat 64 n := rfl
theorem wb_inj {a b : Int64} (h : a.toBitVec = b.toBitVec) : a = b := Int64.toBitVec_inj.mp h
theorem wb_tn {n : Nat} (h : n < 2 ^ 64) : (lN n).toBitVec.toNat = n := by rw [wb_tb, BitVec.toNat_ofNat, Nat.mod_eq_of_lt h]
theorem wb_cu : ∀ k, k < 64 → ((nI k).toInt64.toUInt64 &&& Int64.toUInt64 63) = UInt64.ofNat k := by decide +kernel
theorem wb_shr {n k : Nat} (hn : n < 2 ^ 64) (hk : k < 64) : ((lN n).toUInt64 >>> ((nI k).toInt64.toUInt64 &&& Int64.toUInt64 63)).toInt64 = lN (n / 2 ^ k) := by
  rw [wb_cu k hk]
  apply wb_inj
  apply BitVec.eq_of_toNat_eq
  show ((lN n).toUInt64 >>> UInt64.ofNat k).toNat = (BitVec.ofNat 64 _).toNat
  have h1 : (UInt64.ofNat k).toNat = k := by
    show (BitVec.ofNat 64 k).toNat = k
    rw [BitVec.toNat_ofNat, Nat.mod_eq_of_lt (by omega)]
  have h2 : (lN n).toUInt64.toNat = n := wb_tn hn
  rw [UInt64.toNat_shiftRight, h1, h2, Nat.mod_eq_of_lt hk, Nat.shiftRight_eq_div_pow, BitVec.toNat_ofNat, Nat.mod_eq_of_lt (Nat.lt_of_le_of_lt (Nat.div_le_self _ _) hn)]
theorem cF_lt {B o : Nat} {f : Nat → Nat} : ∀ {n : Nat}, (∀ k, k < n → o + f k < B) → cF B o f n < B ^ n
  | 0, _ => by rw [cF, Nat.pow_zero]; exact Nat.lt_add_one 0
  | n + 1, h => by
    have ih := cF_lt (n := n) (fun k hk => h k (by omega))
    have hn := h n (by omega)
    rw [cF, Nat.pow_succ]
    have : B * (cF B o f n + 1) ≤ B * B ^ n := Nat.mul_le_mul_left B ih
    rw [Nat.mul_add] at this
    rw [Nat.mul_comm (B ^ n) B]
    omega
theorem cF_d1 {B o : Nat} {f : Nat → Nat} {n : Nat} (h : o + f n < B) : cF B o f (n + 1) / B = cF B o f n := by
  rw [cF, Nat.mul_add_div (by omega), Nat.div_eq_of_lt h, Nat.add_zero]
theorem cF_m1 {B o : Nat} {f : Nat → Nat} {n : Nat} (h : o + f n < B) : cF B o f (n + 1) % B = o + f n := by
  rw [cF, Nat.mul_add_mod, Nat.mod_eq_of_lt h]
theorem cF_div {B o : Nat} {f : Nat → Nat} {n : Nat} (h : ∀ k, k < n → o + f k < B) : ∀ {k : Nat}, k ≤ n → cF B o f n / B ^ k = cF B o f (n - k)
  | 0, _ => by rw [Nat.pow_zero, Nat.div_one, Nat.sub_zero]
  | k + 1, hk => by
    rw [Nat.pow_succ, ← Nat.div_div_eq_div_mul, cF_div h (by omega), show n - k = (n - (k + 1)) + 1 by omega]
    exact cF_d1 (h _ (by omega))
theorem cF_pos {B o : Nat} {f : Nat → Nat} {n : Nat} (h : 1 ≤ o + f n) : 0 < cF B o f (n + 1) := by
  rw [cF]; omega
theorem cF_inj {B o : Nat} {f g : Nat → Nat} : ∀ {n m : Nat}, (∀ k, k < n → 1 ≤ o + f k ∧ o + f k < B) → (∀ k, k < m → 1 ≤ o + g k ∧ o + g k < B) → cF B o f n = cF B o g m → n = m ∧ ∀ k, k < n → f k = g k
  | 0, 0, _, _, _ => ⟨rfl, fun k hk => by omega⟩
  | 0, m + 1, _, h2, e => by
    have := cF_pos (B := B) (h2 m (by omega)).1
    rw [cF] at e
    omega
  | n + 1, 0, h1, _, e => by
    have := cF_pos (B := B) (h1 n (by omega)).1
    rw [e, cF] at this
    omega
  | n + 1, m + 1, h1, h2, e => by
    have e1 : cF B o f n = cF B o g m := by rw [← cF_d1 (h1 n (by omega)).2, e, cF_d1 (h2 m (by omega)).2]
    have e2 : o + f n = o + g m := by rw [← cF_m1 (h1 n (by omega)).2, e, cF_m1 (h2 m (by omega)).2]
    obtain ⟨q1, q2⟩ := cF_inj (fun k hk => h1 k (by omega)) (fun k hk => h2 k (by omega)) e1
    subst q1
    refine ⟨rfl, fun k hk => ?_⟩
    by_cases c : k = n
    · subst c; omega
    · exact q2 k (by omega)
theorem NL.b27 {n : Nat} {f : Nat → Nat} (h : NL n f) : cF 27 0 f n < 2 ^ 30 := by
  have h1 := cF_lt (B := 27) (o := 0) (f := f) (n := n) (fun k hk => by have := h.2.2 k hk; omega)
  have h2 : 27 ^ n ≤ 27 ^ 6 := Nat.pow_le_pow_right (by omega) h.2.1
  have h3 : 27 ^ 6 < 2 ^ 30 := by decide
  omega
theorem NL.b256 {n : Nat} {f : Nat → Nat} (h : NL n f) : cF 256 96 f n < 2 ^ 48 := by
  have h1 := cF_lt (B := 256) (o := 96) (f := f) (n := n) (fun k hk => by have := h.2.2 k hk; omega)
  have h2 : 256 ^ n ≤ 256 ^ 6 := Nat.pow_le_pow_right (by omega) h.2.1
  have h3 : 256 ^ 6 = 2 ^ 48 := by decide
  omega
/-- equal names are equal on both sides -/
theorem NR.eq {w w' : Int64} {v v' : Int32} (h : NR w v) (h' : NR w' v') : w = w' ↔ v = v' := by
  obtain ⟨n, f, hn, rfl, rfl⟩ := h
  obtain ⟨m, g, hm, rfl, rfl⟩ := h'
  have a1 := hn.b27
  have a2 := hm.b27
  have b1 := hn.b256
  have b2 := hm.b256
  rw [pk_lEQ (by omega) (by omega), nI_eq (by omega) (by omega)]
  have go : ∀ {B o B' o' : Nat}, (∀ k, k < n → 1 ≤ o + f k ∧ o + f k < B) → (∀ k, k < m → 1 ≤ o + g k ∧ o + g k < B) → cF B o f n = cF B o g m → cF B' o' f n = cF B' o' g m := fun h1 h2 e => by
    obtain ⟨q1, q2⟩ := cF_inj h1 h2 e
    subst q1
    have : ∀ {B' o' : Nat} (j : Nat), j ≤ n → cF B' o' f j = cF B' o' g j := fun j => by
      induction j with
      | zero => exact fun _ => rfl
      | succ j ih => exact fun hj => by rw [cF, cF, ih (by omega), q2 j (by omega)]
    exact this n (Nat.le_refl _)
  constructor
  · exact go (fun k hk => by have := hn.2.2 k hk; omega) (fun k hk => by have := hm.2.2 k hk; omega)
  · exact go (fun k hk => by have := hn.2.2 k hk; omega) (fun k hk => by have := hm.2.2 k hk; omega)
theorem NR.cmp {w w' : Int64} {v v' : Int32} (h : NR w v) (h' : NR w' v') : (lg_cmp w w' = nI 0) = (v = v') := propext ((lg_cmp_eq w w').trans (h.eq h'))
theorem NR.z {w : Int64} {v : Int32} (h : NR w v) : w ≠ 0 ∧ v ≠ nI 0 := by
  obtain ⟨n, f, hn, rfl, rfl⟩ := h
  have b1 := hn.b256
  have a1 := hn.b27
  obtain ⟨k, rfl⟩ : ∃ k, n = k + 1 := ⟨n - 1, by have := hn.1; omega⟩
  have p1 := cF_pos (B := 256) (o := 96) (f := f) (n := k) (by omega)
  have p2 := cF_pos (B := 27) (o := 0) (f := f) (n := k) (by have := hn.2.2 k (by omega); omega)
  exact ⟨fun q => by
    have := (pk_lEQ (a := cF 256 96 f (k + 1)) (b := 0) (by omega) (by omega)).mp q
    omega, fun q => by
    have := (nI_eq (by omega) (by omega)).mp q
    omega⟩
/-! letters -/
section LET
variable {n : Nat} {f : Nat → Nat}
theorem w_div (hn : NL n f) {k : Nat} (hk : k ≤ n) : ((lN (cF 256 96 f n)).toUInt64 >>> ((nI (8 * k)).toInt64.toUInt64 &&& Int64.toUInt64 63)).toInt64 = lN (cF 256 96 f (n - k)) := by
  have b := hn.b256
  have := hn.2.1
  rw [wb_shr (by omega) (by omega), Nat.pow_mul, show (2 : Nat) ^ 8 = 256 by decide, cF_div (fun k hk => by have := hn.2.2 k hk; omega) hk]
theorem s_letters (hn : NL n f) : f_X12_lettersIn (lN (cF 256 96 f n)) = some (nI n) := by
  have h6 := hn.2.1
  unfold f_X12_lettersIn
  rw [q_l0]
  refine lp_to (F := f_X12_lettersIn_2 (lN (cF 256 96 f n))) n (fun m k hk => ?_) (fun m => ?_) (fu_lt (show n < 2000 by omega))
  · have e := w_div hn (show k ≤ n by omega)
    have hp : ¬ (lg_cmp (lN (cF 256 96 f (n - k))) 0 = nI 0) := fun q => by
      have q := (lg_cmp_eq _ _).mp q
      have b := (show NL (n - k) f from ⟨by omega, by omega, fun j hj => hn.2.2 j (by omega)⟩).b256
      have := (pk_lEQ (a := cF 256 96 f (n - k)) (b := 0) (by omega) (by omega)).mp q
      rw [show n - k = (n - k - 1) + 1 by omega] at this
      have p := cF_pos (B := 256) (o := 96) (f := f) (n := n - k - 1) (by omega)
      omega
    simp (maxSteps := 2000000) (disch := first | rfl | exact q_e1 _ _ _ | exact q_sr1 _ _ | omega) only [f_X12_lettersIn_2, ↓q_m1, q_l0, q_l1, q_l2, q_l3, q_l4, q_l5, q_l6, q_l7, q_l8, q_l9, q_l10, q_l11, q_l12, q_l13, q_l14, q_l15, q_l16, q_l17, q_l18, q_l19, q_l20, q_l21, q_l22, q_l23, q_l24, q_l25, q_l26, q_l27, q_l28, q_l29, q_l30, q_l31, q_l32, q_l33, q_l45, q_l46, q_l48, q_l57, q_l58, q_l59, q_l60, q_l61, q_l62, q_l63, q_l64, q_l96, q_l97, q_l99, q_l122, q_l129, q_l137, q_l255, q_l256, q_l400, q_l680, q_l700, q_l959, q_l999, q_l9999, q_l10000, q_l100000, q_ltT, q_ltF, q_leT, q_leF, q_eqF, q_eqR, q_mlt, q_mle, q_nlm, q_nLm, q_nem, q_men, q_mlm, Nat.add_zero, Nat.sub_zero, q_add0, pk_rem, nI_add, pk_mul, q_sub, q_subm, q_addm, nI_clamp, q_inT, q_inF, q_sr1, q_srn, q_srw, q_srs, q_wIs, q_wIn, q_wI2, q_wJ1, q_wJs, q_wJn, q_wR1, q_wRs, q_wRn, q_wI22, q_wJ22, pk_us, pk_un, pk_uLs, pk_uLn, q_usS, q_usN, q_ups, q_upn, Bool.true_eq_false, Bool.false_eq_true, q_lt, q_o2, q_o3, q_o4, q_o5, q_bi, ↓reduceIte, q_tv0, q_tv1, q_bz, q_oRl, q_oRr, q_oXl, q_oXr, e, eq_false hp]
  · by_cases c : n = 6
    · subst c
      simp (maxSteps := 2000000) (disch := first | rfl | exact q_e1 _ _ _ | exact q_sr1 _ _ | omega) only [f_X12_lettersIn_2, ↓q_m1, q_l0, q_l1, q_l2, q_l3, q_l4, q_l5, q_l6, q_l7, q_l8, q_l9, q_l10, q_l11, q_l12, q_l13, q_l14, q_l15, q_l16, q_l17, q_l18, q_l19, q_l20, q_l21, q_l22, q_l23, q_l24, q_l25, q_l26, q_l27, q_l28, q_l29, q_l30, q_l31, q_l32, q_l33, q_l45, q_l46, q_l48, q_l57, q_l58, q_l59, q_l60, q_l61, q_l62, q_l63, q_l64, q_l96, q_l97, q_l99, q_l122, q_l129, q_l137, q_l255, q_l256, q_l400, q_l680, q_l700, q_l959, q_l999, q_l9999, q_l10000, q_l100000, q_ltT, q_ltF, q_leT, q_leF, q_eqF, q_eqR, q_mlt, q_mle, q_nlm, q_nLm, q_nem, q_men, q_mlm, Nat.add_zero, Nat.sub_zero, q_add0, pk_rem, nI_add, pk_mul, q_sub, q_subm, q_addm, nI_clamp, q_inT, q_inF, q_sr1, q_srn, q_srw, q_srs, q_wIs, q_wIn, q_wI2, q_wJ1, q_wJs, q_wJn, q_wR1, q_wRs, q_wRn, q_wI22, q_wJ22, pk_us, pk_un, pk_uLs, pk_uLn, q_usS, q_usN, q_ups, q_upn, Bool.true_eq_false, Bool.false_eq_true, q_lt, q_o2, q_o3, q_o4, q_o5, q_bi, ↓reduceIte, q_tv0, q_tv1, q_bz, q_oRl, q_oRr, q_oXl, q_oXr]
    · have e := w_div hn (Nat.le_refl n)
      rw [Nat.sub_self, cF] at e
      have hz : lg_cmp (lN 0) 0 = nI 0 := by decide
      simp (maxSteps := 2000000) (disch := first | rfl | exact q_e1 _ _ _ | exact q_sr1 _ _ | omega) only [f_X12_lettersIn_2, ↓q_m1, q_l0, q_l1, q_l2, q_l3, q_l4, q_l5, q_l6, q_l7, q_l8, q_l9, q_l10, q_l11, q_l12, q_l13, q_l14, q_l15, q_l16, q_l17, q_l18, q_l19, q_l20, q_l21, q_l22, q_l23, q_l24, q_l25, q_l26, q_l27, q_l28, q_l29, q_l30, q_l31, q_l32, q_l33, q_l45, q_l46, q_l48, q_l57, q_l58, q_l59, q_l60, q_l61, q_l62, q_l63, q_l64, q_l96, q_l97, q_l99, q_l122, q_l129, q_l137, q_l255, q_l256, q_l400, q_l680, q_l700, q_l959, q_l999, q_l9999, q_l10000, q_l100000, q_ltT, q_ltF, q_leT, q_leF, q_eqF, q_eqR, q_mlt, q_mle, q_nlm, q_nLm, q_nem, q_men, q_mlm, Nat.add_zero, Nat.sub_zero, q_add0, pk_rem, nI_add, pk_mul, q_sub, q_subm, q_addm, nI_clamp, q_inT, q_inF, q_sr1, q_srn, q_srw, q_srs, q_wIs, q_wIn, q_wI2, q_wJ1, q_wJs, q_wJn, q_wR1, q_wRs, q_wRn, q_wI22, q_wJ22, pk_us, pk_un, pk_uLs, pk_uLn, q_usS, q_usN, q_ups, q_upn, Bool.true_eq_false, Bool.false_eq_true, q_lt, q_o2, q_o3, q_o4, q_o5, q_bi, ↓reduceIte, q_tv0, q_tv1, q_bz, q_oRl, q_oRr, q_oXl, q_oXr, e, hz]
theorem i32_and {y : Nat} : Int64.toInt32 (lN y) &&& nI 255 = nI (y % 256) := by
  have e : Int64.toInt32 (lN y) = nI y := by
    apply Int32.toBitVec_inj.mp
    show (BitVec.ofNat 64 y).signExtend 32 = BitVec.ofNat 32 y
    apply BitVec.eq_of_toNat_eq
    rw [BitVec.signExtend_eq_setWidth_of_le _ (by omega), BitVec.toNat_setWidth, BitVec.toNat_ofNat, BitVec.toNat_ofNat]
    omega
  rw [e, pk_and (nI y) 8 (by decide)]
  show nI ((BitVec.ofNat 32 y).toNat % 2 ^ 8) = _
  rw [BitVec.toNat_ofNat]
  congr 1
  omega
theorem s_letT (hn : NL n f) {j : Nat} (hj : j < n) : f_X12_letterAt (lN (cF 256 96 f n)) (nI j) = some (nI (96 + f j)) := by
  have h6 := hn.2.1
  have e := w_div hn (show n - 1 - j ≤ n by omega)
  have hb := hn.2.2 j hj
  have e2 : cF 256 96 f (n - (n - 1 - j)) % 256 = 96 + f j := by
    rw [show n - (n - 1 - j) = j + 1 by omega]; exact cF_m1 (by omega)
  simp (maxSteps := 2000000) (disch := first | rfl | exact q_e1 _ _ _ | exact q_sr1 _ _ | omega) only [f_X12_letterAt, s_letters hn, ↓q_m1, q_l0, q_l1, q_l2, q_l3, q_l4, q_l5, q_l6, q_l7, q_l8, q_l9, q_l10, q_l11, q_l12, q_l13, q_l14, q_l15, q_l16, q_l17, q_l18, q_l19, q_l20, q_l21, q_l22, q_l23, q_l24, q_l25, q_l26, q_l27, q_l28, q_l29, q_l30, q_l31, q_l32, q_l33, q_l45, q_l46, q_l48, q_l57, q_l58, q_l59, q_l60, q_l61, q_l62, q_l63, q_l64, q_l96, q_l97, q_l99, q_l122, q_l129, q_l137, q_l255, q_l256, q_l400, q_l680, q_l700, q_l959, q_l999, q_l9999, q_l10000, q_l100000, q_ltT, q_ltF, q_leT, q_leF, q_eqF, q_eqR, q_mlt, q_mle, q_nlm, q_nLm, q_nem, q_men, q_mlm, Nat.add_zero, Nat.sub_zero, q_add0, pk_rem, nI_add, pk_mul, q_sub, q_subm, q_addm, nI_clamp, q_inT, q_inF, q_sr1, q_srn, q_srw, q_srs, q_wIs, q_wIn, q_wI2, q_wJ1, q_wJs, q_wJn, q_wR1, q_wRs, q_wRn, q_wI22, q_wJ22, pk_us, pk_un, pk_uLs, pk_uLn, q_usS, q_usN, q_ups, q_upn, Bool.true_eq_false, Bool.false_eq_true, q_lt, q_o2, q_o3, q_o4, q_o5, q_bi, ↓reduceIte, q_tv0, q_tv1, q_bz, q_oRl, q_oRr, q_oXl, q_oXr, e, i32_and, e2]
theorem s_letF (hn : NL n f) {x : Int32} (hx : x < nI 0 ∨ (nI 0 ≤ x ∧ nI n ≤ x)) : f_X12_letterAt (lN (cF 256 96 f n)) x = some m1 := by
  rcases hx with hx | ⟨h0, hx⟩
  · simp (maxSteps := 2000000) (disch := first | rfl | exact q_e1 _ _ _ | exact q_sr1 _ _ | omega) only [f_X12_letterAt, s_letters hn, ↓q_m1, q_l0, q_l1, q_l2, q_l3, q_l4, q_l5, q_l6, q_l7, q_l8, q_l9, q_l10, q_l11, q_l12, q_l13, q_l14, q_l15, q_l16, q_l17, q_l18, q_l19, q_l20, q_l21, q_l22, q_l23, q_l24, q_l25, q_l26, q_l27, q_l28, q_l29, q_l30, q_l31, q_l32, q_l33, q_l45, q_l46, q_l48, q_l57, q_l58, q_l59, q_l60, q_l61, q_l62, q_l63, q_l64, q_l96, q_l97, q_l99, q_l122, q_l129, q_l137, q_l255, q_l256, q_l400, q_l680, q_l700, q_l959, q_l999, q_l9999, q_l10000, q_l100000, Bool.true_eq_false, Bool.false_eq_true, q_lt, q_o2, q_o3, q_o4, q_o5, q_bi, ↓reduceIte, q_tv0, q_tv1, q_bz, q_oRl, q_oRr, q_oXl, q_oXr, eq_true hx]
  · simp (maxSteps := 2000000) (disch := first | rfl | exact q_e1 _ _ _ | exact q_sr1 _ _ | omega) only [f_X12_letterAt, s_letters hn, ↓q_m1, q_l0, q_l1, q_l2, q_l3, q_l4, q_l5, q_l6, q_l7, q_l8, q_l9, q_l10, q_l11, q_l12, q_l13, q_l14, q_l15, q_l16, q_l17, q_l18, q_l19, q_l20, q_l21, q_l22, q_l23, q_l24, q_l25, q_l26, q_l27, q_l28, q_l29, q_l30, q_l31, q_l32, q_l33, q_l45, q_l46, q_l48, q_l57, q_l58, q_l59, q_l60, q_l61, q_l62, q_l63, q_l64, q_l96, q_l97, q_l99, q_l122, q_l129, q_l137, q_l255, q_l256, q_l400, q_l680, q_l700, q_l959, q_l999, q_l9999, q_l10000, q_l100000, Bool.true_eq_false, Bool.false_eq_true, q_lt, q_o2, q_o3, q_o4, q_o5, q_bi, ↓reduceIte, q_tv0, q_tv1, q_bz, q_oRl, q_oRr, q_oXl, q_oXr, q_nlt h0, eq_false (Int32.not_lt.mpr hx)]
theorem r_letters (hn : NL n f) : f_X13_letters (nI (cF 27 0 f n)) = some (nI n) := by
  have h6 := hn.2.1
  unfold f_X13_letters
  rw [q_l0]
  have key : ∀ (k m : Nat), k ≤ n → k < m → f_X13_letters_4 m (nI (cF 27 0 f k)) (nI (n - k)) = some (nI n) := by
    intro k
    induction k with
    | zero =>
      intro m hk hm
      obtain ⟨m, rfl⟩ : ∃ q, m = q + 1 := ⟨m - 1, by omega⟩
      rw [cF]
      simp (maxSteps := 2000000) (disch := first | rfl | exact q_e1 _ _ _ | exact q_sr1 _ _ | omega) only [f_X13_letters_4, ↓q_m1, q_l0, q_l1, q_l2, q_l3, q_l4, q_l5, q_l6, q_l7, q_l8, q_l9, q_l10, q_l11, q_l12, q_l13, q_l14, q_l15, q_l16, q_l17, q_l18, q_l19, q_l20, q_l21, q_l22, q_l23, q_l24, q_l25, q_l26, q_l27, q_l28, q_l29, q_l30, q_l31, q_l32, q_l33, q_l45, q_l46, q_l48, q_l57, q_l58, q_l59, q_l60, q_l61, q_l62, q_l63, q_l64, q_l96, q_l97, q_l99, q_l122, q_l129, q_l137, q_l255, q_l256, q_l400, q_l680, q_l700, q_l959, q_l999, q_l9999, q_l10000, q_l100000, q_ltT, q_ltF, q_leT, q_leF, q_eqF, q_eqR, q_mlt, q_mle, q_nlm, q_nLm, q_nem, q_men, q_mlm, Nat.add_zero, Nat.sub_zero, q_add0, pk_rem, nI_add, pk_mul, q_sub, q_subm, q_addm, nI_clamp, q_inT, q_inF, q_sr1, q_srn, q_srw, q_srs, q_wIs, q_wIn, q_wI2, q_wJ1, q_wJs, q_wJn, q_wR1, q_wRs, q_wRn, q_wI22, q_wJ22, pk_us, pk_un, pk_uLs, pk_uLn, q_usS, q_usN, q_ups, q_upn, Bool.true_eq_false, Bool.false_eq_true, q_lt, q_o2, q_o3, q_o4, q_o5, q_bi, ↓reduceIte, q_tv0, q_tv1, q_bz, q_oRl, q_oRr, q_oXl, q_oXr]
    | succ k ih =>
      intro m hk hm
      obtain ⟨m, rfl⟩ : ∃ q, m = q + 1 := ⟨m - 1, by omega⟩
      have hb := hn.2.2 k (by omega)
      have b := (show NL (k + 1) f from ⟨by omega, by omega, fun j hj => hn.2.2 j (by omega)⟩).b27
      have p := cF_pos (B := 27) (o := 0) (f := f) (n := k) (by omega)
      have e : nI (cF 27 0 f (k + 1)) / nI 27 = nI (cF 27 0 f k) := by
        rw [pk_div (by omega) (by omega) (by omega), cF_d1 (by omega)]
      have ih := ih m (by omega) (by omega)
      rw [show n - k = n - (k + 1) + 1 by omega] at ih
      simp (maxSteps := 2000000) (disch := first | rfl | exact q_e1 _ _ _ | exact q_sr1 _ _ | omega) only [f_X13_letters_4, ↓q_m1, q_l0, q_l1, q_l2, q_l3, q_l4, q_l5, q_l6, q_l7, q_l8, q_l9, q_l10, q_l11, q_l12, q_l13, q_l14, q_l15, q_l16, q_l17, q_l18, q_l19, q_l20, q_l21, q_l22, q_l23, q_l24, q_l25, q_l26, q_l27, q_l28, q_l29, q_l30, q_l31, q_l32, q_l33, q_l45, q_l46, q_l48, q_l57, q_l58, q_l59, q_l60, q_l61, q_l62, q_l63, q_l64, q_l96, q_l97, q_l99, q_l122, q_l129, q_l137, q_l255, q_l256, q_l400, q_l680, q_l700, q_l959, q_l999, q_l9999, q_l10000, q_l100000, q_ltT, q_ltF, q_leT, q_leF, q_eqF, q_eqR, q_mlt, q_mle, q_nlm, q_nLm, q_nem, q_men, q_mlm, Nat.add_zero, Nat.sub_zero, q_add0, pk_rem, nI_add, pk_mul, q_sub, q_subm, q_addm, nI_clamp, q_inT, q_inF, q_sr1, q_srn, q_srw, q_srs, q_wIs, q_wIn, q_wI2, q_wJ1, q_wJs, q_wJn, q_wR1, q_wRs, q_wRn, q_wI22, q_wJ22, pk_us, pk_un, pk_uLs, pk_uLn, q_usS, q_usN, q_ups, q_upn, Bool.true_eq_false, Bool.false_eq_true, q_lt, q_o2, q_o3, q_o4, q_o5, q_bi, ↓reduceIte, q_tv0, q_tv1, q_bz, q_oRl, q_oRr, q_oXl, q_oXr, e, ih]
  have := key n FU (Nat.le_refl _) (fu_lt (show n < 2000 by omega))
  rw [Nat.sub_self] at this
  exact this
theorem r_letT (hn : NL n f) {j : Nat} (hj : j < n) : f_X13_letterOf (nI (cF 27 0 f n)) (nI j) = some (nI (96 + f j)) := by
  have h6 := hn.2.1
  have key : ∀ (r m : Nat), j + 1 + r ≤ n → r < m → f_X13_letterOf_25 (nI j) m (nI (j + r)) (nI (cF 27 0 f (j + 1 + r))) = some (nI (96 + f j)) := by
    intro r
    induction r with
    | zero =>
      intro m hk hm
      obtain ⟨m, rfl⟩ : ∃ q, m = q + 1 := ⟨m - 1, by omega⟩
      have hb := hn.2.2 j hj
      have b := (show NL (j + 1) f from ⟨by omega, by omega, fun i hi => hn.2.2 i (by omega)⟩).b27
      have e : nI (cF 27 0 f (j + 1)) - nI (cF 27 0 f (j + 1)) / nI 27 * nI 27 = nI (f j) := by
        rw [pk_rem (by omega) (by omega) (by omega), cF_m1 (by omega), Nat.zero_add]
      rw [Nat.add_zero, Nat.add_zero]
      simp (maxSteps := 2000000) (disch := first | rfl | exact q_e1 _ _ _ | exact q_sr1 _ _ | omega) only [f_X13_letterOf_25, ↓q_m1, q_l0, q_l1, q_l2, q_l3, q_l4, q_l5, q_l6, q_l7, q_l8, q_l9, q_l10, q_l11, q_l12, q_l13, q_l14, q_l15, q_l16, q_l17, q_l18, q_l19, q_l20, q_l21, q_l22, q_l23, q_l24, q_l25, q_l26, q_l27, q_l28, q_l29, q_l30, q_l31, q_l32, q_l33, q_l45, q_l46, q_l48, q_l57, q_l58, q_l59, q_l60, q_l61, q_l62, q_l63, q_l64, q_l96, q_l97, q_l99, q_l122, q_l129, q_l137, q_l255, q_l256, q_l400, q_l680, q_l700, q_l959, q_l999, q_l9999, q_l10000, q_l100000, q_ltT, q_ltF, q_leT, q_leF, q_eqF, q_eqR, q_mlt, q_mle, q_nlm, q_nLm, q_nem, q_men, q_mlm, Bool.true_eq_false, Bool.false_eq_true, q_lt, q_o2, q_o3, q_o4, q_o5, q_bi, ↓reduceIte, q_tv0, q_tv1, q_bz, q_oRl, q_oRr, q_oXl, q_oXr, e, nI_add]
      rw [Nat.add_comm]
    | succ r ih =>
      intro m hk hm
      obtain ⟨m, rfl⟩ : ∃ q, m = q + 1 := ⟨m - 1, by omega⟩
      have hb := hn.2.2 (j + 1 + r) (by omega)
      have b := (show NL (j + 1 + r + 1) f from ⟨by omega, by omega, fun i hi => hn.2.2 i (by omega)⟩).b27
      have e : nI (cF 27 0 f (j + 1 + r + 1)) / nI 27 = nI (cF 27 0 f (j + 1 + r)) := by
        rw [pk_div (by omega) (by omega) (by omega), cF_d1 (by omega)]
      have ih := ih m (by omega) (by omega)
      rw [show j + 1 + (r + 1) = j + 1 + r + 1 by omega]
      have ee : j + (r + 1) - 1 = j + r := by omega
      simp (maxSteps := 2000000) (disch := first | rfl | exact q_e1 _ _ _ | exact q_sr1 _ _ | omega) only [f_X13_letterOf_25, ↓q_m1, q_l0, q_l1, q_l2, q_l3, q_l4, q_l5, q_l6, q_l7, q_l8, q_l9, q_l10, q_l11, q_l12, q_l13, q_l14, q_l15, q_l16, q_l17, q_l18, q_l19, q_l20, q_l21, q_l22, q_l23, q_l24, q_l25, q_l26, q_l27, q_l28, q_l29, q_l30, q_l31, q_l32, q_l33, q_l45, q_l46, q_l48, q_l57, q_l58, q_l59, q_l60, q_l61, q_l62, q_l63, q_l64, q_l96, q_l97, q_l99, q_l122, q_l129, q_l137, q_l255, q_l256, q_l400, q_l680, q_l700, q_l959, q_l999, q_l9999, q_l10000, q_l100000, q_ltT, q_ltF, q_leT, q_leF, q_eqF, q_eqR, q_mlt, q_mle, q_nlm, q_nLm, q_nem, q_men, q_mlm, Bool.true_eq_false, Bool.false_eq_true, q_lt, q_o2, q_o3, q_o4, q_o5, q_bi, ↓reduceIte, q_tv0, q_tv1, q_bz, q_oRl, q_oRr, q_oXl, q_oXr, e, q_addm, ee, ih]
  have := key (n - 1 - j) FU (by omega) (fu_lt (show n - 1 - j < 2000 by omega))
  rw [show j + (n - 1 - j) = n - 1 by omega, show j + 1 + (n - 1 - j) = n by omega] at this
  simp (maxSteps := 2000000) (disch := first | rfl | exact q_e1 _ _ _ | exact q_sr1 _ _ | omega) only [f_X13_letterOf, r_letters hn, f_X13_isBetween, ↓q_m1, q_l0, q_l1, q_l2, q_l3, q_l4, q_l5, q_l6, q_l7, q_l8, q_l9, q_l10, q_l11, q_l12, q_l13, q_l14, q_l15, q_l16, q_l17, q_l18, q_l19, q_l20, q_l21, q_l22, q_l23, q_l24, q_l25, q_l26, q_l27, q_l28, q_l29, q_l30, q_l31, q_l32, q_l33, q_l45, q_l46, q_l48, q_l57, q_l58, q_l59, q_l60, q_l61, q_l62, q_l63, q_l64, q_l96, q_l97, q_l99, q_l122, q_l129, q_l137, q_l255, q_l256, q_l400, q_l680, q_l700, q_l959, q_l999, q_l9999, q_l10000, q_l100000, q_ltT, q_ltF, q_leT, q_leF, q_eqF, q_eqR, q_mlt, q_mle, q_nlm, q_nLm, q_nem, q_men, q_mlm, Nat.add_zero, Nat.sub_zero, q_add0, pk_rem, nI_add, pk_mul, q_sub, q_subm, q_addm, nI_clamp, q_inT, q_inF, q_sr1, q_srn, q_srw, q_srs, q_wIs, q_wIn, q_wI2, q_wJ1, q_wJs, q_wJn, q_wR1, q_wRs, q_wRn, q_wI22, q_wJ22, pk_us, pk_un, pk_uLs, pk_uLn, q_usS, q_usN, q_ups, q_upn, Bool.true_eq_false, Bool.false_eq_true, q_lt, q_o2, q_o3, q_o4, q_o5, q_bi, ↓reduceIte, q_tv0, q_tv1, q_bz, q_oRl, q_oRr, q_oXl, q_oXr, this]
theorem r_letF (hn : NL n f) {x : Int32} (hx : x < nI 0 ∨ (nI 0 ≤ x ∧ nI n ≤ x)) : f_X13_letterOf (nI (cF 27 0 f n)) x = some m1 := by
  rcases hx with hx | ⟨h0, hx⟩
  · simp (maxSteps := 2000000) (disch := first | rfl | exact q_e1 _ _ _ | exact q_sr1 _ _ | omega) only [f_X13_letterOf, r_letters hn, f_X13_isBetween, ↓q_m1, q_l0, q_l1, q_l2, q_l3, q_l4, q_l5, q_l6, q_l7, q_l8, q_l9, q_l10, q_l11, q_l12, q_l13, q_l14, q_l15, q_l16, q_l17, q_l18, q_l19, q_l20, q_l21, q_l22, q_l23, q_l24, q_l25, q_l26, q_l27, q_l28, q_l29, q_l30, q_l31, q_l32, q_l33, q_l45, q_l46, q_l48, q_l57, q_l58, q_l59, q_l60, q_l61, q_l62, q_l63, q_l64, q_l96, q_l97, q_l99, q_l122, q_l129, q_l137, q_l255, q_l256, q_l400, q_l680, q_l700, q_l959, q_l999, q_l9999, q_l10000, q_l100000, Bool.true_eq_false, Bool.false_eq_true, q_lt, q_o2, q_o3, q_o4, q_o5, q_bi, ↓reduceIte, q_tv0, q_tv1, q_bz, q_oRl, q_oRr, q_oXl, q_oXr, eq_true hx]
  · have h6 := hn.2.1
    simp (maxSteps := 2000000) (disch := first | rfl | exact q_e1 _ _ _ | exact q_sr1 _ _ | omega) only [f_X13_letterOf, r_letters hn, f_X13_isBetween, ↓q_m1, q_l0, q_l1, q_l2, q_l3, q_l4, q_l5, q_l6, q_l7, q_l8, q_l9, q_l10, q_l11, q_l12, q_l13, q_l14, q_l15, q_l16, q_l17, q_l18, q_l19, q_l20, q_l21, q_l22, q_l23, q_l24, q_l25, q_l26, q_l27, q_l28, q_l29, q_l30, q_l31, q_l32, q_l33, q_l45, q_l46, q_l48, q_l57, q_l58, q_l59, q_l60, q_l61, q_l62, q_l63, q_l64, q_l96, q_l97, q_l99, q_l122, q_l129, q_l137, q_l255, q_l256, q_l400, q_l680, q_l700, q_l959, q_l999, q_l9999, q_l10000, q_l100000, Bool.true_eq_false, Bool.false_eq_true, q_lt, q_o2, q_o3, q_o4, q_o5, q_bi, ↓reduceIte, q_tv0, q_tv1, q_bz, q_oRl, q_oRr, q_oXl, q_oXr, q_nlt h0, q_sub1 (show n < 2 ^ 31 by omega) h0 hx]
/-- a letter on both sides -/
theorem let_two {w : Int64} {v : Int32} (h : NR w v) (x : Int32) : ∃ r, f_X12_letterAt w x = some r ∧ f_X13_letterOf v x = some r := by
  obtain ⟨n, f, hn, rfl, rfl⟩ := h
  rcases or_assoc.mpr (q_ix x (n := n) (by have := hn.2.1; omega)) with hx | ⟨j, hj, rfl⟩
  · exact ⟨m1, s_letF hn hx, r_letF hn hx⟩
  · exact ⟨_, s_letT hn hj, r_letT hn hj⟩
end LET
section FACE
variable {B : Nat} {σ : SM}
theorem P_sellerNameByte (h : Rel B σ) (x0 x1 : Int32) : FX B σ [2] (f_X12_sellerNameByte x0 x1 σ) (f_X13_sellerNameByte x0 x1 (σ 20)) := by
  obtain ⟨S, T, hm, hf⟩ := h.1
  have w := hf.2.1; have h8 := w.1.1; have t8 := w.1.2; have hS := hm.1.2.2.1; have hT := hm.1.2.2.2
  rcases or_assoc.mpr (q_ix x0 (n := S) (by omega)) with hx | ⟨i, hi, rfl⟩
  · refine fx_t h 0 rfl ?_ (nI 0) ?_
    · simp (maxSteps := 2000000) (disch := first | rfl | exact q_e1 _ _ _ | exact q_sr1 _ _ | omega) only [f_X12_sellerNameByte, s_rqF hm hx, Bool.true_eq_false, Bool.false_eq_true, q_lt, q_o2, q_o3, q_o4, q_o5, q_bi, ↓reduceIte, q_tv0, q_tv1, q_bz, q_oRl, q_oRr, q_oXl, q_oXr]
    · simp (maxSteps := 2000000) (disch := first | rfl | exact q_e1 _ _ _ | exact q_sr1 _ _ | omega) only [f_X13_sellerNameByte, r_selF hS h8 hx, r_wants0, ↓q_m1, q_l0, q_l1, q_l2, q_l3, q_l4, q_l5, q_l6, q_l7, q_l8, q_l9, q_l10, q_l11, q_l12, q_l13, q_l14, q_l15, q_l16, q_l17, q_l18, q_l19, q_l20, q_l21, q_l22, q_l23, q_l24, q_l25, q_l26, q_l27, q_l28, q_l29, q_l30, q_l31, q_l32, q_l33, q_l45, q_l46, q_l48, q_l57, q_l58, q_l59, q_l60, q_l61, q_l62, q_l63, q_l64, q_l96, q_l97, q_l99, q_l122, q_l129, q_l137, q_l255, q_l256, q_l400, q_l680, q_l700, q_l959, q_l999, q_l9999, q_l10000, q_l100000, q_ltT, q_ltF, q_leT, q_leF, q_eqF, q_eqR, q_mlt, q_mle, q_nlm, q_nLm, q_nem, q_men, q_mlm, Nat.add_zero, Nat.sub_zero, q_add0, pk_rem, nI_add, pk_mul, q_sub, q_subm, q_addm, nI_clamp, q_inT, q_inF, q_sr1, q_srn, q_srw, q_srs, q_wIs, q_wIn, q_wI2, q_wJ1, q_wJs, q_wJn, q_wR1, q_wRs, q_wRn, q_wI22, q_wJ22, pk_us, pk_un, pk_uLs, pk_uLn, q_usS, q_usN, q_ups, q_upn, Bool.true_eq_false, Bool.false_eq_true, q_lt, q_o2, q_o3, q_o4, q_o5, q_bi, ↓reduceIte, q_tv0, q_tv1, q_bz, q_oRl, q_oRr, q_oXl, q_oXr]
  · obtain ⟨r, g1, g2⟩ := let_two (hm.2.2.2.2.2.1 i hi) x1
    refine fx_r (r := r) h ?_ ?_
    · simp (maxSteps := 2000000) (disch := first | rfl | exact q_e1 _ _ _ | exact q_sr1 _ _ | omega) only [f_X12_sellerNameByte, s_rqT hm h8 hi, s_nameOfSeller hm h8 hi, g1, Bool.true_eq_false, Bool.false_eq_true, q_lt, q_o2, q_o3, q_o4, q_o5, q_bi, ↓reduceIte, q_tv0, q_tv1, q_bz, q_oRl, q_oRr, q_oXl, q_oXr]
    · simp (maxSteps := 2000000) (disch := first | rfl | exact q_e1 _ _ _ | exact q_sr1 _ _ | omega) only [f_X13_sellerNameByte, r_selT hS h8, r_wants1, r_of ((σ 20).1 1), g2, ↓q_m1, q_l0, q_l1, q_l2, q_l3, q_l4, q_l5, q_l6, q_l7, q_l8, q_l9, q_l10, q_l11, q_l12, q_l13, q_l14, q_l15, q_l16, q_l17, q_l18, q_l19, q_l20, q_l21, q_l22, q_l23, q_l24, q_l25, q_l26, q_l27, q_l28, q_l29, q_l30, q_l31, q_l32, q_l33, q_l45, q_l46, q_l48, q_l57, q_l58, q_l59, q_l60, q_l61, q_l62, q_l63, q_l64, q_l96, q_l97, q_l99, q_l122, q_l129, q_l137, q_l255, q_l256, q_l400, q_l680, q_l700, q_l959, q_l999, q_l9999, q_l10000, q_l100000, q_ltT, q_ltF, q_leT, q_leF, q_eqF, q_eqR, q_mlt, q_mle, q_nlm, q_nLm, q_nem, q_men, q_mlm, Nat.add_zero, Nat.sub_zero, q_add0, pk_rem, nI_add, pk_mul, q_sub, q_subm, q_addm, nI_clamp, q_inT, q_inF, q_sr1, q_srn, q_srw, q_srs, q_wIs, q_wIn, q_wI2, q_wJ1, q_wJs, q_wJn, q_wR1, q_wRs, q_wRn, q_wI22, q_wJ22, pk_us, pk_un, pk_uLs, pk_uLn, q_usS, q_usN, q_ups, q_upn, Bool.true_eq_false, Bool.false_eq_true, q_lt, q_o2, q_o3, q_o4, q_o5, q_bi, ↓reduceIte, q_tv0, q_tv1, q_bz, q_oRl, q_oRr, q_oXl, q_oXr]
theorem P_stallNameByte (h : Rel B σ) (x0 x1 : Int32) : FX B σ [2] (f_X12_stallNameByte x0 x1 σ) (f_X13_stallNameByte x0 x1 (σ 20)) := by
  obtain ⟨S, T, hm, hf⟩ := h.1
  have w := hf.2.1; have h8 := w.1.1; have t8 := w.1.2; have hS := hm.1.2.2.1; have hT := hm.1.2.2.2
  rcases or_assoc.mpr (q_ix x0 (n := T) (by omega)) with hx | ⟨i, hi, rfl⟩
  · refine fx_t h 0 rfl ?_ (nI 0) ?_
    · simp (maxSteps := 2000000) (disch := first | rfl | exact q_e1 _ _ _ | exact q_sr1 _ _ | omega) only [f_X12_stallNameByte, s_rqFt hm hx, Bool.true_eq_false, Bool.false_eq_true, q_lt, q_o2, q_o3, q_o4, q_o5, q_bi, ↓reduceIte, q_tv0, q_tv1, q_bz, q_oRl, q_oRr, q_oXl, q_oXr]
    · simp (maxSteps := 2000000) (disch := first | rfl | exact q_e1 _ _ _ | exact q_sr1 _ _ | omega) only [f_X13_stallNameByte, r_stlF hT t8 hx, r_wants0, ↓q_m1, q_l0, q_l1, q_l2, q_l3, q_l4, q_l5, q_l6, q_l7, q_l8, q_l9, q_l10, q_l11, q_l12, q_l13, q_l14, q_l15, q_l16, q_l17, q_l18, q_l19, q_l20, q_l21, q_l22, q_l23, q_l24, q_l25, q_l26, q_l27, q_l28, q_l29, q_l30, q_l31, q_l32, q_l33, q_l45, q_l46, q_l48, q_l57, q_l58, q_l59, q_l60, q_l61, q_l62, q_l63, q_l64, q_l96, q_l97, q_l99, q_l122, q_l129, q_l137, q_l255, q_l256, q_l400, q_l680, q_l700, q_l959, q_l999, q_l9999, q_l10000, q_l100000, q_ltT, q_ltF, q_leT, q_leF, q_eqF, q_eqR, q_mlt, q_mle, q_nlm, q_nLm, q_nem, q_men, q_mlm, Nat.add_zero, Nat.sub_zero, q_add0, pk_rem, nI_add, pk_mul, q_sub, q_subm, q_addm, nI_clamp, q_inT, q_inF, q_sr1, q_srn, q_srw, q_srs, q_wIs, q_wIn, q_wI2, q_wJ1, q_wJs, q_wJn, q_wR1, q_wRs, q_wRn, q_wI22, q_wJ22, pk_us, pk_un, pk_uLs, pk_uLn, q_usS, q_usN, q_ups, q_upn, Bool.true_eq_false, Bool.false_eq_true, q_lt, q_o2, q_o3, q_o4, q_o5, q_bi, ↓reduceIte, q_tv0, q_tv1, q_bz, q_oRl, q_oRr, q_oXl, q_oXr]
  · obtain ⟨r, g1, g2⟩ := let_two (hm.2.2.2.2.2.2.1 i hi) x1
    refine fx_r (r := r) h ?_ ?_
    · simp (maxSteps := 2000000) (disch := first | rfl | exact q_e1 _ _ _ | exact q_sr1 _ _ | omega) only [f_X12_stallNameByte, s_rqTt hm t8 hi, s_nameOfStall hm t8 hi, g1, Bool.true_eq_false, Bool.false_eq_true, q_lt, q_o2, q_o3, q_o4, q_o5, q_bi, ↓reduceIte, q_tv0, q_tv1, q_bz, q_oRl, q_oRr, q_oXl, q_oXr]
    · simp (maxSteps := 2000000) (disch := first | rfl | exact q_e1 _ _ _ | exact q_sr1 _ _ | omega) only [f_X13_stallNameByte, r_stlT hT t8, r_wants1, g2, ↓q_m1, q_l0, q_l1, q_l2, q_l3, q_l4, q_l5, q_l6, q_l7, q_l8, q_l9, q_l10, q_l11, q_l12, q_l13, q_l14, q_l15, q_l16, q_l17, q_l18, q_l19, q_l20, q_l21, q_l22, q_l23, q_l24, q_l25, q_l26, q_l27, q_l28, q_l29, q_l30, q_l31, q_l32, q_l33, q_l45, q_l46, q_l48, q_l57, q_l58, q_l59, q_l60, q_l61, q_l62, q_l63, q_l64, q_l96, q_l97, q_l99, q_l122, q_l129, q_l137, q_l255, q_l256, q_l400, q_l680, q_l700, q_l959, q_l999, q_l9999, q_l10000, q_l100000, q_ltT, q_ltF, q_leT, q_leF, q_eqF, q_eqR, q_mlt, q_mle, q_nlm, q_nLm, q_nem, q_men, q_mlm, Nat.add_zero, Nat.sub_zero, q_add0, pk_rem, nI_add, pk_mul, q_sub, q_subm, q_addm, nI_clamp, q_inT, q_inF, q_sr1, q_srn, q_srw, q_srs, q_wIs, q_wIn, q_wI2, q_wJ1, q_wJs, q_wJn, q_wR1, q_wRs, q_wRn, q_wI22, q_wJ22, pk_us, pk_un, pk_uLs, pk_uLn, q_usS, q_usN, q_ups, q_upn, Bool.true_eq_false, Bool.false_eq_true, q_lt, q_o2, q_o3, q_o4, q_o5, q_bi, ↓reduceIte, q_tv0, q_tv1, q_bz, q_oRl, q_oRr, q_oXl, q_oXr]
end FACE

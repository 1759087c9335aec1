/-! counts, free stalls, copies -/
/-! counts and sums -/
def cnt (P : Nat → Bool) : Nat → Nat
  | 0 => 0
  | n + 1 => cnt P n + (if P n = true then 1 else 0)
theorem cnt_le (P : Nat → Bool) : ∀ n, cnt P n ≤ n
  | 0 => Nat.le_refl _
  | n + 1 => by
    have := cnt_le P n
    rw [cnt]
    split <;> omega
theorem cnt_congr {P Q : Nat → Bool} : ∀ {n : Nat}, (∀ k, k < n → P k = Q k) → cnt P n = cnt Q n
  | 0, _ => rfl
  | n + 1, h => by rw [cnt, cnt, h n (Nat.lt_succ_self n), cnt_congr (fun k hk => h k (by omega))]
theorem cnt_one {P : Nat → Bool} {t : Nat} : ∀ {n : Nat}, t < n → P t = false → cnt (fun k => P k || decide (k = t)) n = cnt P n + 1
  | 0, h, _ => by omega
  | n + 1, h, hp => by
    rw [cnt, cnt]
    by_cases ht : t = n
    · subst ht
      rw [cnt_congr (P := fun k => P k || decide (k = t)) (Q := P) (fun k hk => by
        have hk : decide (k = t) = false := decide_eq_false (by omega)
        simp only [hk, Bool.or_false])]
      simp [hp]
    · rw [cnt_one (by omega) hp]
      have hk : decide (n = t) = false := decide_eq_false (by omega)
      simp only [hk, Bool.or_false]
      omega
theorem cnt_not (P : Nat → Bool) : ∀ n, cnt P n + cnt (fun k => !P k) n = n
  | 0 => rfl
  | n + 1 => by
    have := cnt_not P n
    rw [cnt, cnt]
    cases h : P n <;> simp [h] <;> omega
theorem cnt_zero {P : Nat → Bool} : ∀ {n : Nat}, (∀ k, k < n → P k = false) → cnt P n = 0
  | 0, _ => rfl
  | n + 1, h => by rw [cnt, cnt_zero (fun k hk => h k (by omega)), h n (by omega)]; rfl
theorem fd_b {n : Nat} {P : Nat → Bool} (hn : n < 2 ^ 31) : (!decide (fd n P = m1)) = true ↔ ∃ k, k < n ∧ P k = true := by
  rcases fd_cases n P with ⟨j, h1, h2, h3, h4⟩ | ⟨h1, h2⟩
  · rw [h4, decide_eq_false (fun e => (q_nem (show j < 2 ^ 31 by omega)).mp e)]
    exact ⟨fun _ => ⟨j, h1, h2⟩, fun _ => rfl⟩
  · rw [h2, decide_eq_true rfl]
    exact ⟨fun h => (by cases h), fun ⟨k, hk, hp⟩ => by rw [h1 k hk] at hp; cases hp⟩
/-- stalls that are held, and sellers that hold one -/
theorem cnt_held {T : Nat} (f : Nat → Int32) (hT : T < 2 ^ 31) : ∀ S : Nat, S < 2 ^ 30 → (∀ i, i < S → f i = m1 ∨ ∃ t, t < T ∧ f i = nI t) → (∀ i j, i < S → j < S → f i = f j → f i ≠ m1 → i = j) → cnt (fun t => !decide (fd S (fun i => decide (f i = nI t)) = m1)) T = cnt (fun i => !decide (f i = m1)) S
  | 0, _, _, _ => cnt_zero (fun k _ => by rw [show fd 0 (fun i => decide (f i = nI k)) = m1 from rfl]; rfl)
  | S + 1, hS, h, hj => by
    have ih := cnt_held f hT S (by omega) (fun i hi => h i (by omega)) (fun i j hi hj' => hj i j (by omega) (by omega))
    have key : ∀ t : Nat, (!decide (fd (S + 1) (fun i => decide (f i = nI t)) = m1)) = ((!decide (fd S (fun i => decide (f i = nI t)) = m1)) || decide (f S = nI t)) := by
      intro t
      refine Bool.eq_iff_iff.mpr ?_
      rw [Bool.or_eq_true, fd_b (by omega), fd_b (by omega), decide_eq_true_eq]
      constructor
      · rintro ⟨k, hk, hp⟩
        by_cases e : k = S
        · subst e; exact Or.inr (decide_eq_true_eq.mp hp)
        · exact Or.inl ⟨k, by omega, hp⟩
      · rintro (⟨k, hk, hp⟩ | hp)
        · exact ⟨k, by omega, hp⟩
        · exact ⟨S, by omega, decide_eq_true hp⟩
    rw [cnt_congr (fun k _ => key k), cnt, ← ih]
    rcases h S (by omega) with h0 | ⟨t0, ht0, h0⟩
    · rw [h0, cnt_congr (Q := fun t => !decide (fd S (fun i => decide (f i = nI t)) = m1)) (fun k hk => by rw [decide_eq_false (fun e => (q_men (show k < 2 ^ 31 by omega)).mp e), Bool.or_false])]
      simp
    · have e1 : ∀ k, k < T → ((!decide (fd S (fun i => decide (f i = nI k)) = m1)) || decide (f S = nI k)) = ((!decide (fd S (fun i => decide (f i = nI k)) = m1)) || decide (k = t0)) := fun k hk => by
        rw [h0]
        by_cases e : k = t0
        · subst e; rw [decide_eq_true rfl, decide_eq_true rfl]
        · rw [decide_eq_false (fun q => e ((nI_eq (by omega) (by omega)).mp q).symm), decide_eq_false e]
      rw [cnt_congr e1, cnt_one ht0]
      · rw [h0, decide_eq_false (fun e => (q_nem (show t0 < 2 ^ 31 by omega)).mp e)]
        rfl
      · cases hq : !decide (fd S (fun i => decide (f i = nI t0)) = m1)
        · rfl
        · obtain ⟨i, hi, hp⟩ := (fd_b (by omega)).mp hq
          have hp := decide_eq_true_eq.mp hp
          have := hj i S (by omega) (by omega) (hp.trans h0.symm) (by rw [hp]; exact fun e => (q_nem (show t0 < 2 ^ 31 by omega)).mp e)
          omega
theorem rk_cases (a : Nat → Int32) (i : Nat) (v : Int32) : rk a i v = m1 ∨ ∃ k, k < ln a i ∧ rk a i v = nI k := by
  rcases fd_cases (ln a i) (fun k => decide (a (25 + 13 * i + (5 + k)) = v)) with ⟨j, h1, -, -, h4⟩ | ⟨-, h2⟩
  · exact Or.inr ⟨j, h1, h4⟩
  · exact Or.inl h2
theorem rk_m1 {S T : Nat} {a : Nat → Int32} (w : WL S T a) {i : Nat} (hi : i < S) : rk a i m1 = m1 := by
  have := w.2.1 i hi
  have t8 := w.1.2
  refine (fd_none (by omega)).mpr (fun k hk => ?_)
  obtain ⟨t, ht, e⟩ := w.2.2.1 i k hi hk
  rw [e]
  exact decide_eq_false (fun e => (q_nem (show t < 2 ^ 31 by omega)).mp e)
theorem MR.turn {S T : Nat} {μ : OM} {a : Nat → Int32} (h : MR S T μ a) (h8 : S ≤ 8) {i k : Nat} (hi : i < S) (hk : k < S) : μ.1 5 i = nI k ↔ a (129 + k) = nI i := by
  obtain ⟨-, -, -, -, -, -, -, n8, n9⟩ := h
  constructor
  · intro e
    obtain ⟨k', h1, h2, h3⟩ := n8 i hi
    have : k = k' := (nI_eq (by omega) (by omega)).mp (e.symm.trans h2)
    rw [this]; exact h3
  · intro e
    obtain ⟨i', h1, h2, h3⟩ := n9 k hk
    have : i = i' := (nI_eq (by omega) (by omega)).mp (e.symm.trans h3)
    rw [this]; exact h2
theorem s_turnOf {S T : Nat} {μ : OM} {a : Nat → Int32} (h : MR S T μ a) (h8 : S ≤ 8) {i : Nat} (hi : i < S) : f_X5_turnOf (nI i) μ = some (μ.1 5 i) := by
  simp (maxSteps := 2000000) (disch := first | rfl | exact q_e1 _ _ _ | exact q_sr1 _ _ | omega) only [f_X5_turnOf, s_hasSeller h hi h8, ↓q_m1, q_l0, q_l1, q_l2, q_l3, q_l4, q_l5, q_l6, q_l7, q_l8, q_l9, q_l10, q_l11, q_l12, q_l13, q_l14, q_l15, q_l16, q_l17, q_l18, q_l19, q_l20, q_l21, q_l22, q_l23, q_l24, q_l25, q_l26, q_l27, q_l28, q_l29, q_l30, q_l31, q_l32, q_l33, q_l45, q_l46, q_l48, q_l57, q_l58, q_l59, q_l60, q_l61, q_l62, q_l63, q_l64, q_l96, q_l97, q_l99, q_l122, q_l129, q_l137, q_l255, q_l256, q_l400, q_l680, q_l700, q_l959, q_l999, q_l9999, q_l10000, q_l100000, q_l36, q_l50, q_l100, q_l112, q_l200, q_ltT, q_ltF, q_leT, q_leF, q_eqF, q_eqR, q_mlt, q_mle, q_nlm, q_nLm, q_nem, q_men, q_mlm, Nat.add_zero, Nat.sub_zero, q_add0, pk_rem, nI_add, pk_mul, q_sub, q_subm, q_addm, nI_clamp, q_inT, q_inF, q_sr1, q_srn, q_srw, q_srs, q_wIs, q_wIn, q_wI2, q_wJ1, q_wJs, q_wJn, q_wR1, q_wRs, q_wRn, q_wI22, q_wJ22, pk_us, pk_un, pk_uLs, pk_uLn, q_usS, q_usN, q_ups, q_upn, Bool.true_eq_false, Bool.false_eq_true, q_lt, q_o2, q_o3, q_o4, q_o5, q_bi, ↓reduceIte, q_tv0, q_tv1, q_bz, q_oRl, q_oRr, q_oXl, q_oXr]
theorem s_wish {S T : Nat} {μ : OM} {a : Nat → Int32} (h : MR S T μ a) (w : WL S T a) {i k : Nat} (hi : i < S) (hk : k < ln a i) : f_X5_wish (nI i) (nI k) μ = some (a (25 + 13 * i + (5 + k))) := by
  have h8 := w.1.1
  have hl := w.2.1 i hi
  simp (maxSteps := 2000000) (disch := first | rfl | exact q_e1 _ _ _ | exact q_sr1 _ _ | omega) only [f_X5_wish, s_hasSeller h hi h8, (h.2.2.1 i hi).2.2.2, hl.2, h.2.2.2.1 i k hi hk, ↓q_m1, q_l0, q_l1, q_l2, q_l3, q_l4, q_l5, q_l6, q_l7, q_l8, q_l9, q_l10, q_l11, q_l12, q_l13, q_l14, q_l15, q_l16, q_l17, q_l18, q_l19, q_l20, q_l21, q_l22, q_l23, q_l24, q_l25, q_l26, q_l27, q_l28, q_l29, q_l30, q_l31, q_l32, q_l33, q_l45, q_l46, q_l48, q_l57, q_l58, q_l59, q_l60, q_l61, q_l62, q_l63, q_l64, q_l96, q_l97, q_l99, q_l122, q_l129, q_l137, q_l255, q_l256, q_l400, q_l680, q_l700, q_l959, q_l999, q_l9999, q_l10000, q_l100000, q_l36, q_l50, q_l100, q_l112, q_l200, q_ltT, q_ltF, q_leT, q_leF, q_eqF, q_eqR, q_mlt, q_mle, q_nlm, q_nLm, q_nem, q_men, q_mlm, Nat.add_zero, Nat.sub_zero, q_add0, pk_rem, nI_add, pk_mul, q_sub, q_subm, q_addm, nI_clamp, q_inT, q_inF, q_sr1, q_srn, q_srw, q_srs, q_wIs, q_wIn, q_wI2, q_wJ1, q_wJs, q_wJn, q_wR1, q_wRs, q_wRn, q_wI22, q_wJ22, pk_us, pk_un, pk_uLs, pk_uLn, q_usS, q_usN, q_ups, q_upn, Bool.true_eq_false, Bool.false_eq_true, q_lt, q_o2, q_o3, q_o4, q_o5, q_bi, ↓reduceIte, q_tv0, q_tv1, q_bz, q_oRl, q_oRr, q_oXl, q_oXr]
/-! a better free stall; forecasts -/
def fvr (P : Nat → Bool) (v : Nat → Int32) : Nat → Nat → Int32
  | 0, _ => m1
  | r + 1, i => if P i = true then v i else fvr P v r (i + 1)
theorem fvr_none {P : Nat → Bool} {v : Nat → Int32} : ∀ {r i : Nat}, (∀ k, i ≤ k → k < i + r → P k = false) → fvr P v r i = m1
  | 0, _, _ => rfl
  | r + 1, i, h => by
    rw [fvr, h i (Nat.le_refl _) (by omega)]
    exact fvr_none (fun k h1 h2 => h k (by omega) (by omega))
theorem lp_fv {F : Nat → Int32 → Option Int32} (P : Nat → Bool) (v : Nat → Int32) (N : Nat) (h1 : ∀ n i, i < N → F (n + 1) (nI i) = if P i = true then some (v i) else F n (nI (i + 1))) (h2 : ∀ n, F (n + 1) (nI N) = some m1) {n : Nat} (hn : N < n) : F n (nI 0) = some (fvr P v N 0) := by
  have : ∀ r i n, i + r = N → r < n → F n (nI i) = some (fvr P v r i) := by
    intro r
    induction r with
    | zero =>
      intro i n hi hr
      obtain ⟨n, rfl⟩ : ∃ q, n = q + 1 := ⟨n - 1, by omega⟩
      have hi : i = N := by omega
      rw [hi]; exact h2 n
    | succ r ih =>
      intro i n hi hr
      obtain ⟨n, rfl⟩ : ∃ q, n = q + 1 := ⟨n - 1, by omega⟩
      rw [h1 n i (by omega), fvr]
      by_cases h : P i = true
      · rw [if_pos h, if_pos h]
      · rw [if_neg h, if_neg h]; exact ih (i + 1) n (by omega) (by omega)
  exact this N 0 n (by omega) (by omega)
/-- a stall on a list has its position as its rank -/
theorem rk_lst {S T : Nat} {a : Nat → Int32} (w : WL S T a) (d : WD S a) {i k : Nat} (hi : i < S) (hk : k < ln a i) : rk a i (a (25 + 13 * i + (5 + k))) = nI k := by
  have := (w.2.1 i hi).1
  refine (fd_some (by omega) (by omega)).mpr ⟨hk, decide_eq_true rfl, fun j hj => decide_eq_false (fun e => ?_)⟩
  have := d.1 i j k hi (by omega) hk e
  omega
theorem lst_ne {S T : Nat} {a : Nat → Int32} (w : WL S T a) {i k : Nat} (hi : i < S) (hk : k < ln a i) : a (25 + 13 * i + (5 + k)) ≠ m1 := by
  obtain ⟨t, ht, e⟩ := w.2.2.1 i k hi hk
  have := w.1.2
  rw [e]; exact fun q => (q_nem (show t < 2 ^ 31 by omega)).mp q
theorem bad_lst {S T : Nat} {a : Nat → Int32} (w : WL S T a) (d : WD S a) {i k : Nat} (hi : i < S) (hk : k < ln a i) : bad a i (a (25 + 13 * i + (5 + k))) = nI k := by
  have := (w.2.1 i hi).1
  rw [bad, if_neg (lst_ne w hi hk), rk_lst w d hi hk, if_neg (fun q => (q_nem (show k < 2 ^ 31 by omega)).mp q)]
def bfP (S : Nat) (a : Nat → Int32) (i k : Nat) : Bool := decide (occ S a (a (25 + 13 * i + (5 + k))) = m1) && bet a i (a (25 + 13 * i + (5 + k))) (a (25 + 13 * i + 3))
def bfv (S : Nat) (a : Nat → Int32) (i : Nat) : Int32 := fvr (bfP S a i) (fun k => a (25 + 13 * i + (5 + k))) (ln a i) 0
theorem s_bf {S T : Nat} {μ : OM} {a : Nat → Int32} (h : MR S T μ a) (w : WL S T a) (d : WD S a) {i : Nat} (hi : i < S) : f_X3_bestFreeStall (nI i) μ = some (bfv S a i) := by
  have h8 := w.1.1
  have hl := w.2.1 i hi
  have hp := w.2.2.2 i hi
  have t8 := w.1.2
  simp (maxSteps := 2000000) (disch := first | rfl | exact q_e1 _ _ _ | exact q_sr1 _ _ | omega) only [f_X3_bestFreeStall, s_heldBy h h8 hi, ↓q_m1, q_l0, q_l1, q_l2, q_l3, q_l4, q_l5, q_l6, q_l7, q_l8, q_l9, q_l10, q_l11, q_l12, q_l13, q_l14, q_l15, q_l16, q_l17, q_l18, q_l19, q_l20, q_l21, q_l22, q_l23, q_l24, q_l25, q_l26, q_l27, q_l28, q_l29, q_l30, q_l31, q_l32, q_l33, q_l45, q_l46, q_l48, q_l57, q_l58, q_l59, q_l60, q_l61, q_l62, q_l63, q_l64, q_l96, q_l97, q_l99, q_l122, q_l129, q_l137, q_l255, q_l256, q_l400, q_l680, q_l700, q_l959, q_l999, q_l9999, q_l10000, q_l100000, q_l36, q_l50, q_l100, q_l112, q_l200, q_ltT, q_ltF, q_leT, q_leF, q_eqF, q_eqR, q_mlt, q_mle, q_nlm, q_nLm, q_nem, q_men, q_mlm, Nat.add_zero, Nat.sub_zero, q_add0, pk_rem, nI_add, pk_mul, q_sub, q_subm, q_addm, nI_clamp, q_inT, q_inF, q_sr1, q_srn, q_srw, q_srs, q_wIs, q_wIn, q_wI2, q_wJ1, q_wJs, q_wJn, q_wR1, q_wRs, q_wRn, q_wI22, q_wJ22, pk_us, pk_un, pk_uLs, pk_uLn, q_usS, q_usN, q_ups, q_upn, Bool.true_eq_false, Bool.false_eq_true, q_lt, q_o2, q_o3, q_o4, q_o5, q_bi, ↓reduceIte, q_tv0, q_tv1, q_bz, q_oRl, q_oRr, q_oXl, q_oXr]
  have key : ∀ r k n, k + r = ln a i → r < n → (∀ j, j < k → a (25 + 13 * i + (5 + j)) ≠ a (25 + 13 * i + 3)) → f_X3_bestFreeStall_8 (a (25 + 13 * i + 3)) (nI i) μ n (nI k) = some (fvr (bfP S a i) (fun k => a (25 + 13 * i + (5 + k))) r k) := by
    intro r
    induction r with
    | zero =>
      intro k n hk hr _
      obtain ⟨n, rfl⟩ : ∃ q, n = q + 1 := ⟨n - 1, by omega⟩
      simp (maxSteps := 2000000) (disch := first | rfl | exact q_e1 _ _ _ | exact q_sr1 _ _ | omega) only [f_X3_bestFreeStall_8, s_wishesOf h h8 hi, hl.2, ↓q_m1, q_l0, q_l1, q_l2, q_l3, q_l4, q_l5, q_l6, q_l7, q_l8, q_l9, q_l10, q_l11, q_l12, q_l13, q_l14, q_l15, q_l16, q_l17, q_l18, q_l19, q_l20, q_l21, q_l22, q_l23, q_l24, q_l25, q_l26, q_l27, q_l28, q_l29, q_l30, q_l31, q_l32, q_l33, q_l45, q_l46, q_l48, q_l57, q_l58, q_l59, q_l60, q_l61, q_l62, q_l63, q_l64, q_l96, q_l97, q_l99, q_l122, q_l129, q_l137, q_l255, q_l256, q_l400, q_l680, q_l700, q_l959, q_l999, q_l9999, q_l10000, q_l100000, q_l36, q_l50, q_l100, q_l112, q_l200, q_ltT, q_ltF, q_leT, q_leF, q_eqF, q_eqR, q_mlt, q_mle, q_nlm, q_nLm, q_nem, q_men, q_mlm, Nat.add_zero, Nat.sub_zero, q_add0, pk_rem, nI_add, pk_mul, q_sub, q_subm, q_addm, nI_clamp, q_inT, q_inF, q_sr1, q_srn, q_srw, q_srs, q_wIs, q_wIn, q_wI2, q_wJ1, q_wJs, q_wJn, q_wR1, q_wRs, q_wRn, q_wI22, q_wJ22, pk_us, pk_un, pk_uLs, pk_uLn, q_usS, q_usN, q_ups, q_upn, Bool.true_eq_false, Bool.false_eq_true, q_lt, q_o2, q_o3, q_o4, q_o5, q_bi, ↓reduceIte, q_tv0, q_tv1, q_bz, q_oRl, q_oRr, q_oXl, q_oXr]
      rfl
    | succ r ih =>
      intro k n hk hr hj
      obtain ⟨n, rfl⟩ : ∃ q, n = q + 1 := ⟨n - 1, by omega⟩
      have hkl : k < ln a i := by omega
      simp (maxSteps := 2000000) (disch := first | rfl | exact q_e1 _ _ _ | exact q_sr1 _ _ | omega) only [f_X3_bestFreeStall_8, s_wishesOf h h8 hi, hl.2, s_wish h w hi hkl, s_holderOf h h8, ↓q_m1, q_l0, q_l1, q_l2, q_l3, q_l4, q_l5, q_l6, q_l7, q_l8, q_l9, q_l10, q_l11, q_l12, q_l13, q_l14, q_l15, q_l16, q_l17, q_l18, q_l19, q_l20, q_l21, q_l22, q_l23, q_l24, q_l25, q_l26, q_l27, q_l28, q_l29, q_l30, q_l31, q_l32, q_l33, q_l45, q_l46, q_l48, q_l57, q_l58, q_l59, q_l60, q_l61, q_l62, q_l63, q_l64, q_l96, q_l97, q_l99, q_l122, q_l129, q_l137, q_l255, q_l256, q_l400, q_l680, q_l700, q_l959, q_l999, q_l9999, q_l10000, q_l100000, q_l36, q_l50, q_l100, q_l112, q_l200, q_ltT, q_ltF, q_leT, q_leF, q_eqF, q_eqR, q_mlt, q_mle, q_nlm, q_nLm, q_nem, q_men, q_mlm, Nat.add_zero, Nat.sub_zero, q_add0, pk_rem, nI_add, pk_mul, q_sub, q_subm, q_addm, nI_clamp, q_inT, q_inF, q_sr1, q_srn, q_srw, q_srs, q_wIs, q_wIn, q_wI2, q_wJ1, q_wJs, q_wJn, q_wR1, q_wRs, q_wRn, q_wI22, q_wJ22, pk_us, pk_un, pk_uLs, pk_uLn, q_usS, q_usN, q_ups, q_upn, Bool.true_eq_false, Bool.false_eq_true, q_lt, q_o2, q_o3, q_o4, q_o5, q_bi, ↓reduceIte, q_tv0, q_tv1, q_bz, q_oRl, q_oRr, q_oXl, q_oXr]
      rw [if_neg (lst_ne w hi hkl)]
      by_cases e1 : a (25 + 13 * i + (5 + k)) = a (25 + 13 * i + 3)
      · rw [if_pos e1]
        refine congrArg some (fvr_none (fun k' h1 h2 => ?_)).symm
        rw [bfP, bet, bad_lst w d hi (show k' < ln a i by omega), ← e1, bad_lst w d hi hkl, decide_eq_false (nI_nlt h1 (by omega)), Bool.and_false]
      · rw [if_neg e1, fvr, bfP]
        by_cases h1 : occ S a (a (25 + 13 * i + (5 + k))) = m1
        · rw [if_pos h1, decide_eq_true h1, Bool.true_and, bet, bad_lst w d hi hkl]
          rw [if_pos (decide_eq_true (p := nI k < bad a i (a (25 + 13 * i + 3))) ?_)]
          rcases hp with e | ⟨t, ht, e⟩
          · rw [bad, if_pos e]; exact nI_lt (by omega) (by omega)
          · rw [bad, if_neg (by rw [e]; exact fun q => (q_nem (show t < 2 ^ 31 by omega)).mp q)]
            rcases fd_cases (ln a i) (fun k => decide (a (25 + 13 * i + (5 + k)) = a (25 + 13 * i + 3))) with ⟨j, g1, g2, g3, g4⟩ | ⟨g1, g2⟩
            · have g4 : rk a i (a (25 + 13 * i + 3)) = nI j := g4
              have g2 := of_decide_eq_true g2
              rw [g4, if_neg (fun q => (q_nem (show j < 2 ^ 31 by omega)).mp q)]
              refine nI_lt (Nat.lt_of_not_le (fun hh => ?_)) (by omega)
              rcases Nat.lt_or_eq_of_le hh with hh | hh
              · exact hj j hh g2
              · subst hh; exact e1 g2
            · have g2 : rk a i (a (25 + 13 * i + 3)) = m1 := g2
              rw [g2, if_pos rfl]; exact nI_lt (by omega) (by omega)
        · rw [if_neg h1, decide_eq_false h1, Bool.false_and, if_neg (by decide)]
          refine ih (k + 1) n (by omega) (by omega) (fun j hjk => ?_)
          by_cases e : j = k
          · subst e; exact e1
          · exact hj j (by omega)
  exact key (ln a i) 0 FU (by omega) (fu_lt (by omega)) (fun j hj => by omega)
/-- a market's copy -/
def CE (μ ν : OM) : Prop := (∀ k, k ≤ 8 → ν.1 0 k = μ.1 0 k) ∧ (∀ i, i < 8 → ν.2.1 1 i = μ.2.1 1 i ∧ ν.1 2 i = μ.1 2 i ∧ ν.1 3 i = μ.1 3 i ∧ ν.1 4 i = μ.1 4 i ∧ ν.1 5 i = μ.1 5 i ∧ ν.1 6 i = μ.1 6 i) ∧
  (∀ j, j < 64 → ν.1 7 j = μ.1 7 j) ∧ ∀ t, t < 8 → ν.2.1 8 t = μ.2.1 8 t ∧ ν.1 9 t = μ.1 9 t
theorem s_copy (μ ν : OM) : ∃ ν', f_X5_copy μ ν = some ν' ∧ CE μ ν' := by
  have h1 : ∀ t : OM, ∃ t', f_X5_copy_83 μ FU (nI 0) t = some t' ∧ (t'.1 0 = t.1 0 ∧ ∀ i, i < 8 → t'.2.1 1 i = μ.2.1 1 i ∧ t'.1 2 i = μ.1 2 i ∧ t'.1 3 i = μ.1 3 i ∧ t'.1 4 i = μ.1 4 i ∧ t'.1 5 i = μ.1 5 i ∧ t'.1 6 i = μ.1 6 i) := fun t => by
    refine lp_inv (i0 := 0) (fun (n : Nat) (t' : OM) => t'.1 0 = t.1 0 ∧ ∀ i, i < n → t'.2.1 1 i = μ.2.1 1 i ∧ t'.1 2 i = μ.1 2 i ∧ t'.1 3 i = μ.1 3 i ∧ t'.1 4 i = μ.1 4 i ∧ t'.1 5 i = μ.1 5 i ∧ t'.1 6 i = μ.1 6 i) _ 8 ?_ ?_ (fu_lt (by omega)) ⟨rfl, fun j hj => by omega⟩
    · intro n i s hi h
      refine ⟨wI (wI (wI (wI (wI (wJ s 1 i (μ.2.1 1 i)) 2 i (μ.1 2 i)) 3 i (μ.1 3 i)) 4 i (μ.1 4 i)) 5 i (μ.1 5 i)) 6 i (μ.1 6 i), ⟨h.1, fun j hj => ?_⟩, by simp (maxSteps := 2000000) (disch := first | rfl | exact q_e1 _ _ _ | exact q_sr1 _ _ | omega) only [f_X5_copy_83, ↓q_m1, q_l0, q_l1, q_l2, q_l3, q_l4, q_l5, q_l6, q_l7, q_l8, q_l9, q_l10, q_l11, q_l12, q_l13, q_l14, q_l15, q_l16, q_l17, q_l18, q_l19, q_l20, q_l21, q_l22, q_l23, q_l24, q_l25, q_l26, q_l27, q_l28, q_l29, q_l30, q_l31, q_l32, q_l33, q_l45, q_l46, q_l48, q_l57, q_l58, q_l59, q_l60, q_l61, q_l62, q_l63, q_l64, q_l96, q_l97, q_l99, q_l122, q_l129, q_l137, q_l255, q_l256, q_l400, q_l680, q_l700, q_l959, q_l999, q_l9999, q_l10000, q_l100000, q_l36, q_l50, q_l100, q_l112, q_l200, q_ltT, q_ltF, q_leT, q_leF, q_eqF, q_eqR, q_mlt, q_mle, q_nlm, q_nLm, q_nem, q_men, q_mlm, Nat.add_zero, Nat.sub_zero, q_add0, pk_rem, nI_add, pk_mul, q_sub, q_subm, q_addm, nI_clamp, q_inT, q_inF, q_sr1, q_srn, q_srw, q_srs, q_wIs, q_wIn, q_wI2, q_wJ1, q_wJs, q_wJn, q_wR1, q_wRs, q_wRn, q_wI22, q_wJ22, pk_us, pk_un, pk_uLs, pk_uLn, q_usS, q_usN, q_ups, q_upn, Bool.true_eq_false, Bool.false_eq_true, q_lt, q_o2, q_o3, q_o4, q_o5, q_bi, ↓reduceIte, q_tv0, q_tv1, q_bz, q_oRl, q_oRr, q_oXl, q_oXr]⟩
      by_cases hj' : j = i
      · subst hj'
        simp (maxSteps := 2000000) (disch := first | rfl | exact q_e1 _ _ _ | exact q_sr1 _ _ | omega) only [q_sr1, q_srn, q_srw, q_srs, q_wIs, q_wIn, q_wI2, q_wJ1, q_wJs, q_wJn, q_wR1, q_wRs, q_wRn, q_wI22, q_wJ22, pk_us, pk_un, pk_uLs, pk_uLn, q_usS, q_usN, q_ups, q_upn, and_self]
      · have := h.2 j (by omega)
        simp (maxSteps := 2000000) (disch := first | rfl | exact q_e1 _ _ _ | exact q_sr1 _ _ | omega) only [q_sr1, q_srn, q_srw, q_srs, q_wIs, q_wIn, q_wI2, q_wJ1, q_wJs, q_wJn, q_wR1, q_wRs, q_wRn, q_wI22, q_wJ22, pk_us, pk_un, pk_uLs, pk_uLn, q_usS, q_usN, q_ups, q_upn, this, and_self]
    · intro n s h
      exact ⟨s, by simp (maxSteps := 2000000) (disch := first | rfl | exact q_e1 _ _ _ | exact q_sr1 _ _ | omega) only [f_X5_copy_83, ↓q_m1, q_l0, q_l1, q_l2, q_l3, q_l4, q_l5, q_l6, q_l7, q_l8, q_l9, q_l10, q_l11, q_l12, q_l13, q_l14, q_l15, q_l16, q_l17, q_l18, q_l19, q_l20, q_l21, q_l22, q_l23, q_l24, q_l25, q_l26, q_l27, q_l28, q_l29, q_l30, q_l31, q_l32, q_l33, q_l45, q_l46, q_l48, q_l57, q_l58, q_l59, q_l60, q_l61, q_l62, q_l63, q_l64, q_l96, q_l97, q_l99, q_l122, q_l129, q_l137, q_l255, q_l256, q_l400, q_l680, q_l700, q_l959, q_l999, q_l9999, q_l10000, q_l100000, q_l36, q_l50, q_l100, q_l112, q_l200, q_ltT, q_ltF, q_leT, q_leF, q_eqF, q_eqR, q_mlt, q_mle, q_nlm, q_nLm, q_nem, q_men, q_mlm, Nat.add_zero, Nat.sub_zero, q_add0, pk_rem, nI_add, pk_mul, q_sub, q_subm, q_addm, nI_clamp, q_inT, q_inF, q_sr1, q_srn, q_srw, q_srs, q_wIs, q_wIn, q_wI2, q_wJ1, q_wJs, q_wJn, q_wR1, q_wRs, q_wRn, q_wI22, q_wJ22, pk_us, pk_un, pk_uLs, pk_uLn, q_usS, q_usN, q_ups, q_upn, Bool.true_eq_false, Bool.false_eq_true, q_lt, q_o2, q_o3, q_o4, q_o5, q_bi, ↓reduceIte, q_tv0, q_tv1, q_bz, q_oRl, q_oRr, q_oXl, q_oXr], h⟩
  have h2 : ∀ t : OM, ∃ t', f_X5_copy_169 μ FU (nI 0) t = some t' ∧ ((∀ k, k ≠ 7 → t'.1 k = t.1 k) ∧ t'.2 = t.2 ∧ ∀ i, i < 64 → t'.1 7 i = μ.1 7 i) := fun t => by
    refine lp_inv (i0 := 0) (fun (n : Nat) (t' : OM) => (∀ k, k ≠ 7 → t'.1 k = t.1 k) ∧ t'.2 = t.2 ∧ ∀ i, i < n → t'.1 7 i = μ.1 7 i) _ 64 ?_ ?_ (fu_lt (by omega)) ⟨fun _ _ => rfl, rfl, fun j hj => by omega⟩
    · intro n i s hi h
      refine ⟨wI s 7 i (μ.1 7 i), ⟨fun k hk => (q_wIn hk).trans (h.1 k hk), h.2.1, fun j hj => ?_⟩, by simp (maxSteps := 2000000) (disch := first | rfl | exact q_e1 _ _ _ | exact q_sr1 _ _ | omega) only [f_X5_copy_169, ↓q_m1, q_l0, q_l1, q_l2, q_l3, q_l4, q_l5, q_l6, q_l7, q_l8, q_l9, q_l10, q_l11, q_l12, q_l13, q_l14, q_l15, q_l16, q_l17, q_l18, q_l19, q_l20, q_l21, q_l22, q_l23, q_l24, q_l25, q_l26, q_l27, q_l28, q_l29, q_l30, q_l31, q_l32, q_l33, q_l45, q_l46, q_l48, q_l57, q_l58, q_l59, q_l60, q_l61, q_l62, q_l63, q_l64, q_l96, q_l97, q_l99, q_l122, q_l129, q_l137, q_l255, q_l256, q_l400, q_l680, q_l700, q_l959, q_l999, q_l9999, q_l10000, q_l100000, q_l36, q_l50, q_l100, q_l112, q_l200, q_ltT, q_ltF, q_leT, q_leF, q_eqF, q_eqR, q_mlt, q_mle, q_nlm, q_nLm, q_nem, q_men, q_mlm, Nat.add_zero, Nat.sub_zero, q_add0, pk_rem, nI_add, pk_mul, q_sub, q_subm, q_addm, nI_clamp, q_inT, q_inF, q_sr1, q_srn, q_srw, q_srs, q_wIs, q_wIn, q_wI2, q_wJ1, q_wJs, q_wJn, q_wR1, q_wRs, q_wRn, q_wI22, q_wJ22, pk_us, pk_un, pk_uLs, pk_uLn, q_usS, q_usN, q_ups, q_upn, Bool.true_eq_false, Bool.false_eq_true, q_lt, q_o2, q_o3, q_o4, q_o5, q_bi, ↓reduceIte, q_tv0, q_tv1, q_bz, q_oRl, q_oRr, q_oXl, q_oXr]⟩
      by_cases hj' : j = i
      · subst hj'
        simp (maxSteps := 2000000) (disch := first | rfl | exact q_e1 _ _ _ | exact q_sr1 _ _ | omega) only [q_sr1, q_srn, q_srw, q_srs, q_wIs, q_wIn, q_wI2, q_wJ1, q_wJs, q_wJn, q_wR1, q_wRs, q_wRn, q_wI22, q_wJ22, pk_us, pk_un, pk_uLs, pk_uLn, q_usS, q_usN, q_ups, q_upn]
      · have := h.2.2 j (by omega)
        simp (maxSteps := 2000000) (disch := first | rfl | exact q_e1 _ _ _ | exact q_sr1 _ _ | omega) only [q_sr1, q_srn, q_srw, q_srs, q_wIs, q_wIn, q_wI2, q_wJ1, q_wJs, q_wJn, q_wR1, q_wRs, q_wRn, q_wI22, q_wJ22, pk_us, pk_un, pk_uLs, pk_uLn, q_usS, q_usN, q_ups, q_upn, this]
    · intro n s h
      exact ⟨s, by simp (maxSteps := 2000000) (disch := first | rfl | exact q_e1 _ _ _ | exact q_sr1 _ _ | omega) only [f_X5_copy_169, ↓q_m1, q_l0, q_l1, q_l2, q_l3, q_l4, q_l5, q_l6, q_l7, q_l8, q_l9, q_l10, q_l11, q_l12, q_l13, q_l14, q_l15, q_l16, q_l17, q_l18, q_l19, q_l20, q_l21, q_l22, q_l23, q_l24, q_l25, q_l26, q_l27, q_l28, q_l29, q_l30, q_l31, q_l32, q_l33, q_l45, q_l46, q_l48, q_l57, q_l58, q_l59, q_l60, q_l61, q_l62, q_l63, q_l64, q_l96, q_l97, q_l99, q_l122, q_l129, q_l137, q_l255, q_l256, q_l400, q_l680, q_l700, q_l959, q_l999, q_l9999, q_l10000, q_l100000, q_l36, q_l50, q_l100, q_l112, q_l200, q_ltT, q_ltF, q_leT, q_leF, q_eqF, q_eqR, q_mlt, q_mle, q_nlm, q_nLm, q_nem, q_men, q_mlm, Nat.add_zero, Nat.sub_zero, q_add0, pk_rem, nI_add, pk_mul, q_sub, q_subm, q_addm, nI_clamp, q_inT, q_inF, q_sr1, q_srn, q_srw, q_srs, q_wIs, q_wIn, q_wI2, q_wJ1, q_wJs, q_wJn, q_wR1, q_wRs, q_wRn, q_wI22, q_wJ22, pk_us, pk_un, pk_uLs, pk_uLn, q_usS, q_usN, q_ups, q_upn, Bool.true_eq_false, Bool.false_eq_true, q_lt, q_o2, q_o3, q_o4, q_o5, q_bi, ↓reduceIte, q_tv0, q_tv1, q_bz, q_oRl, q_oRr, q_oXl, q_oXr], h⟩
  have h3 : ∀ t : OM, ∃ t', f_X5_copy_195 μ FU (nI 0) t = some t' ∧ ((∀ k, k ≠ 9 → t'.1 k = t.1 k) ∧ (∀ k, k ≠ 8 → t'.2.1 k = t.2.1 k) ∧ ∀ i, i < 8 → t'.2.1 8 i = μ.2.1 8 i ∧ t'.1 9 i = μ.1 9 i) := fun t => by
    refine lp_inv (i0 := 0) (fun (n : Nat) (t' : OM) => (∀ k, k ≠ 9 → t'.1 k = t.1 k) ∧ (∀ k, k ≠ 8 → t'.2.1 k = t.2.1 k) ∧ ∀ i, i < n → t'.2.1 8 i = μ.2.1 8 i ∧ t'.1 9 i = μ.1 9 i) _ 8 ?_ ?_ (fu_lt (by omega)) ⟨fun _ _ => rfl, fun _ _ => rfl, fun j hj => by omega⟩
    · intro n i s hi h
      refine ⟨wI (wJ s 8 i (μ.2.1 8 i)) 9 i (μ.1 9 i), ⟨fun k hk => (q_wIn hk).trans (h.1 k hk), fun k hk => (q_wJn hk).trans (h.2.1 k hk), fun j hj => ?_⟩, by simp (maxSteps := 2000000) (disch := first | rfl | exact q_e1 _ _ _ | exact q_sr1 _ _ | omega) only [f_X5_copy_195, ↓q_m1, q_l0, q_l1, q_l2, q_l3, q_l4, q_l5, q_l6, q_l7, q_l8, q_l9, q_l10, q_l11, q_l12, q_l13, q_l14, q_l15, q_l16, q_l17, q_l18, q_l19, q_l20, q_l21, q_l22, q_l23, q_l24, q_l25, q_l26, q_l27, q_l28, q_l29, q_l30, q_l31, q_l32, q_l33, q_l45, q_l46, q_l48, q_l57, q_l58, q_l59, q_l60, q_l61, q_l62, q_l63, q_l64, q_l96, q_l97, q_l99, q_l122, q_l129, q_l137, q_l255, q_l256, q_l400, q_l680, q_l700, q_l959, q_l999, q_l9999, q_l10000, q_l100000, q_l36, q_l50, q_l100, q_l112, q_l200, q_ltT, q_ltF, q_leT, q_leF, q_eqF, q_eqR, q_mlt, q_mle, q_nlm, q_nLm, q_nem, q_men, q_mlm, Nat.add_zero, Nat.sub_zero, q_add0, pk_rem, nI_add, pk_mul, q_sub, q_subm, q_addm, nI_clamp, q_inT, q_inF, q_sr1, q_srn, q_srw, q_srs, q_wIs, q_wIn, q_wI2, q_wJ1, q_wJs, q_wJn, q_wR1, q_wRs, q_wRn, q_wI22, q_wJ22, pk_us, pk_un, pk_uLs, pk_uLn, q_usS, q_usN, q_ups, q_upn, Bool.true_eq_false, Bool.false_eq_true, q_lt, q_o2, q_o3, q_o4, q_o5, q_bi, ↓reduceIte, q_tv0, q_tv1, q_bz, q_oRl, q_oRr, q_oXl, q_oXr]⟩
      by_cases hj' : j = i
      · subst hj'
        simp (maxSteps := 2000000) (disch := first | rfl | exact q_e1 _ _ _ | exact q_sr1 _ _ | omega) only [q_sr1, q_srn, q_srw, q_srs, q_wIs, q_wIn, q_wI2, q_wJ1, q_wJs, q_wJn, q_wR1, q_wRs, q_wRn, q_wI22, q_wJ22, pk_us, pk_un, pk_uLs, pk_uLn, q_usS, q_usN, q_ups, q_upn, and_self]
      · have := h.2.2 j (by omega)
        simp (maxSteps := 2000000) (disch := first | rfl | exact q_e1 _ _ _ | exact q_sr1 _ _ | omega) only [q_sr1, q_srn, q_srw, q_srs, q_wIs, q_wIn, q_wI2, q_wJ1, q_wJs, q_wJn, q_wR1, q_wRs, q_wRn, q_wI22, q_wJ22, pk_us, pk_un, pk_uLs, pk_uLn, q_usS, q_usN, q_ups, q_upn, this, and_self]
    · intro n s h
      exact ⟨s, by simp (maxSteps := 2000000) (disch := first | rfl | exact q_e1 _ _ _ | exact q_sr1 _ _ | omega) only [f_X5_copy_195, ↓q_m1, q_l0, q_l1, q_l2, q_l3, q_l4, q_l5, q_l6, q_l7, q_l8, q_l9, q_l10, q_l11, q_l12, q_l13, q_l14, q_l15, q_l16, q_l17, q_l18, q_l19, q_l20, q_l21, q_l22, q_l23, q_l24, q_l25, q_l26, q_l27, q_l28, q_l29, q_l30, q_l31, q_l32, q_l33, q_l45, q_l46, q_l48, q_l57, q_l58, q_l59, q_l60, q_l61, q_l62, q_l63, q_l64, q_l96, q_l97, q_l99, q_l122, q_l129, q_l137, q_l255, q_l256, q_l400, q_l680, q_l700, q_l959, q_l999, q_l9999, q_l10000, q_l100000, q_l36, q_l50, q_l100, q_l112, q_l200, q_ltT, q_ltF, q_leT, q_leF, q_eqF, q_eqR, q_mlt, q_mle, q_nlm, q_nLm, q_nem, q_men, q_mlm, Nat.add_zero, Nat.sub_zero, q_add0, pk_rem, nI_add, pk_mul, q_sub, q_subm, q_addm, nI_clamp, q_inT, q_inF, q_sr1, q_srn, q_srw, q_srs, q_wIs, q_wIn, q_wI2, q_wJ1, q_wJs, q_wJn, q_wR1, q_wRs, q_wRn, q_wI22, q_wJ22, pk_us, pk_un, pk_uLs, pk_uLn, q_usS, q_usN, q_ups, q_upn, Bool.true_eq_false, Bool.false_eq_true, q_lt, q_o2, q_o3, q_o4, q_o5, q_bi, ↓reduceIte, q_tv0, q_tv1, q_bz, q_oRl, q_oRr, q_oXl, q_oXr], h⟩
  obtain ⟨t1, e1, a1, b1⟩ := h1 (wI (wI (wI (wI (wI (wI (wI (wI (wI ν 0 0 (μ.1 0 0)) 0 1 (μ.1 0 1)) 0 2 (μ.1 0 2)) 0 3 (μ.1 0 3)) 0 4 (μ.1 0 4)) 0 5 (μ.1 0 5)) 0 6 (μ.1 0 6)) 0 7 (μ.1 0 7)) 0 8 (μ.1 0 8))
  obtain ⟨t2, e2, a2, b2, c2⟩ := h2 t1
  obtain ⟨t3, e3, a3, b3, c3⟩ := h3 t2
  refine ⟨t3, ?_, fun k hk => ?_, fun i hi => ?_, fun j hj => ?_, c3⟩
  · unfold f_X5_copy
    simp only [q_lt, q_l0, e1, e2, e3, q_bi]
  · rw [a3 0 (by omega), a2 0 (by omega), a1]
    rcases (by omega : k = 0 ∨ k = 1 ∨ k = 2 ∨ k = 3 ∨ k = 4 ∨ k = 5 ∨ k = 6 ∨ k = 7 ∨ k = 8) with rfl | rfl | rfl | rfl | rfl | rfl | rfl | rfl | rfl <;> simp (maxSteps := 2000000) (disch := first | rfl | exact q_e1 _ _ _ | exact q_sr1 _ _ | omega) only [q_sr1, q_srn, q_srw, q_srs, q_wIs, q_wIn, q_wI2, q_wJ1, q_wJs, q_wJn, q_wR1, q_wRs, q_wRn, q_wI22, q_wJ22, pk_us, pk_un, pk_uLs, pk_uLn, q_usS, q_usN, q_ups, q_upn]
  · rw [b3 1 (by omega), a3 2 (by omega), a3 3 (by omega), a3 4 (by omega), a3 5 (by omega), a3 6 (by omega), b2, a2 2 (by omega), a2 3 (by omega), a2 4 (by omega), a2 5 (by omega), a2 6 (by omega)]
    exact b1 i hi
  · rw [a3 7 (by omega)]; exact c2 j hj
theorem MW.copy {B : Nat} {μ ν : OM} {a : Nat → Int32} (c : CE μ ν) (h : MW B μ a) : MW B ν a := by
  obtain ⟨S, T, ⟨n1, n2, n3, n4, n5, n6, n7, n8, n9⟩, hf⟩ := h
  have hS := hf.2.1.1.1
  have hT := hf.2.1.1.2
  obtain ⟨c1, c2, c3, c4⟩ := c
  refine ⟨S, T, ⟨⟨(c1 0 (by omega)).trans n1.1, (c1 1 (by omega)).trans n1.2.1, n1.2.2⟩, fun k h1 h2 => (c1 k h2).trans (n2 k h1 h2), fun i hi => ?_, fun i k hi hk => ?_, fun t ht => ?_, fun i hi => ?_, fun t ht => ?_, fun i hi => ?_, fun k hk => ?_⟩, hf⟩
  · obtain ⟨d1, d2, d3, d4, d5, d6⟩ := c2 i (by omega)
    rw [d2, d3, d4, d6]; exact n3 i hi
  · have := (hf.2.1.2.1 i hi).1
    rw [c3 _ (by omega)]; exact n4 i k hi hk
  · rw [(c4 t (by omega)).2]; exact n5 t ht
  · rw [(c2 i (by omega)).1]; exact n6 i hi
  · rw [(c4 t (by omega)).1]; exact n7 t ht
  · obtain ⟨k, h1, h2, h3⟩ := n8 i hi
    exact ⟨k, h1, (c2 i (by omega)).2.2.2.2.1.trans h2, h3⟩
  · obtain ⟨i, h1, h2, h3⟩ := n9 k hk
    exact ⟨i, h1, (c2 i (by omega)).2.2.2.2.1.trans h2, h3⟩
theorem s_slot {σ : SM} {q x : Nat} (hq : (σ 16).1 0 1 = nI q) (h8 : q < 8) (hx : x ≤ 8) : f_X4_slotAfter (nI x) σ = some (nI ((q + x) % 8)) := by
  simp (maxSteps := 2000000) (disch := first | rfl | exact q_e1 _ _ _ | exact q_sr1 _ _ | omega) only [f_X4_slotAfter, ↓q_m1, q_l0, q_l1, q_l2, q_l3, q_l4, q_l5, q_l6, q_l7, q_l8, q_l9, q_l10, q_l11, q_l12, q_l13, q_l14, q_l15, q_l16, q_l17, q_l18, q_l19, q_l20, q_l21, q_l22, q_l23, q_l24, q_l25, q_l26, q_l27, q_l28, q_l29, q_l30, q_l31, q_l32, q_l33, q_l45, q_l46, q_l48, q_l57, q_l58, q_l59, q_l60, q_l61, q_l62, q_l63, q_l64, q_l96, q_l97, q_l99, q_l122, q_l129, q_l137, q_l255, q_l256, q_l400, q_l680, q_l700, q_l959, q_l999, q_l9999, q_l10000, q_l100000, q_l36, q_l50, q_l100, q_l112, q_l200, q_ltT, q_ltF, q_leT, q_leF, q_eqF, q_eqR, q_mlt, q_mle, q_nlm, q_nLm, q_nem, q_men, q_mlm, Nat.add_zero, Nat.sub_zero, q_add0, pk_rem, nI_add, pk_mul, q_sub, q_subm, q_addm, nI_clamp, q_inT, q_inF, q_sr1, q_srn, q_srw, q_srs, q_wIs, q_wIn, q_wI2, q_wJ1, q_wJs, q_wJn, q_wR1, q_wRs, q_wRn, q_wI22, q_wJ22, pk_us, pk_un, pk_uLs, pk_uLn, q_usS, q_usN, q_ups, q_upn, Bool.true_eq_false, Bool.false_eq_true, q_lt, q_o2, q_o3, q_o4, q_o5, q_bi, ↓reduceIte, q_tv0, q_tv1, q_bz, q_oRl, q_oRr, q_oXl, q_oXr, hq]

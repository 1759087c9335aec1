/-! the mechanism's pieces -/
/-! the mechanism -/
def oi (a : Nat → Int32) (k : Nat) : Nat := (a (129 + k)).toNatClampNeg
def rqv (tk : Nat → Bool) (a : Nat → Int32) (i : Nat) : Int32 := fvr (fun k => !tk (a (25 + 13 * i + (5 + k))).toNatClampNeg) (fun k => a (25 + 13 * i + (5 + k))) (ln a i) 0
def finN (fin : Nat → Bool) (ch : Nat → Nat) (p : Nat) : Nat → Nat → Bool
  | 0, i => fin i
  | n + 1, i => finN fin ch p n i || decide (ch (p + n) = i)
def tkN (tk : Nat → Bool) (rq : Nat → Int32) (p : Nat) : Nat → Nat → Bool
  | 0, t => tk t
  | n + 1, t => tkN tk rq p n t || decide (rq (p + n) = nI t)
def inC (ch : Nat → Nat) (c i : Nat) : Bool := !decide (fd c (fun k => decide (ch k = i)) = m1)
theorem finN_iff {fin : Nat → Bool} {ch : Nat → Nat} {p : Nat} : ∀ {n i : Nat}, finN fin ch p n i = true ↔ fin i = true ∨ ∃ j, j < n ∧ ch (p + j) = i
  | 0, i => ⟨fun h => Or.inl h, fun h => by
    rcases h with h | ⟨j, hj, _⟩
    · exact h
    · omega⟩
  | n + 1, i => by
    rw [finN, Bool.or_eq_true, finN_iff, decide_eq_true_eq]
    constructor
    · rintro ((h | ⟨j, hj, e⟩) | h)
      · exact Or.inl h
      · exact Or.inr ⟨j, by omega, e⟩
      · exact Or.inr ⟨n, by omega, h⟩
    · rintro (h | ⟨j, hj, e⟩)
      · exact Or.inl (Or.inl h)
      · by_cases q : j = n
        · subst q; exact Or.inr e
        · exact Or.inl (Or.inr ⟨j, by omega, e⟩)
theorem tkN_iff {tk : Nat → Bool} {rq : Nat → Int32} {p : Nat} : ∀ {n t : Nat}, tkN tk rq p n t = true ↔ tk t = true ∨ ∃ j, j < n ∧ rq (p + j) = nI t
  | 0, i => ⟨fun h => Or.inl h, fun h => by
    rcases h with h | ⟨j, hj, _⟩
    · exact h
    · omega⟩
  | n + 1, i => by
    rw [tkN, Bool.or_eq_true, tkN_iff, decide_eq_true_eq]
    constructor
    · rintro ((h | ⟨j, hj, e⟩) | h)
      · exact Or.inl h
      · exact Or.inr ⟨j, by omega, e⟩
      · exact Or.inr ⟨n, by omega, h⟩
    · rintro (h | ⟨j, hj, e⟩)
      · exact Or.inl (Or.inl h)
      · by_cases q : j = n
        · subst q; exact Or.inr e
        · exact Or.inl (Or.inr ⟨j, by omega, e⟩)
theorem inC_iff {ch : Nat → Nat} {c i : Nat} (hc : c < 2 ^ 31) : inC ch c i = true ↔ ∃ k, k < c ∧ ch k = i := by
  rw [inC, fd_b hc]
  exact ⟨fun ⟨k, h1, h2⟩ => ⟨k, h1, of_decide_eq_true h2⟩, fun ⟨k, h1, h2⟩ => ⟨k, h1, decide_eq_true h2⟩⟩
theorem tv_t : nI 1 = tv true := rfl
/-- one more in a place without room -/
theorem php1 {n N t : Nat} (hn : n < 2 ^ 30) (hN : N < 2 ^ 31) (f : Nat → Nat) (h1 : ∀ k, k < n → f k < N) (h2 : ∀ k k', k < n → k' < n → f k = f k' → k = k') (ht : t < N) (h3 : ∀ k, k < n → f k ≠ t) : n + 1 ≤ N := by
  have hm : ∀ k, k < n → nI (f k) ≠ m1 := fun k hk q => by
    have := h1 k hk
    exact (q_nem (show f k < 2 ^ 31 by omega)).mp q
  have c1 : cnt (fun t => !decide (fd n (fun k => decide (nI (f k) = nI t)) = m1)) N = cnt (fun k => !decide (nI (f k) = m1)) n := cnt_held (T := N) (fun k => nI (f k)) hN n hn (fun k hk => Or.inr ⟨f k, h1 k hk, rfl⟩) (fun k k' hk hk' e _ => by
    have g1 := h1 k hk
    have g2 := h1 k' hk'
    exact h2 k k' hk hk' ((nI_eq (by omega) (by omega)).mp e))
  have c2 := cnt_all (P := fun k => !decide (nI (f k) = m1)) (n := n) (fun k hk => by rw [decide_eq_false (hm k hk)]; rfl)
  have c3 : cnt (fun t => !decide (fd n (fun k => decide (nI (f k) = nI t)) = m1)) N + cnt (fun t => !(!decide (fd n (fun k => decide (nI (f k) = nI t)) = m1))) N = N := cnt_not (fun t => !decide (fd n (fun k => decide (nI (f k) = nI t)) = m1)) N
  have c4 := cnt_pos (P := fun t => !(!decide (fd n (fun k => decide (nI (f k) = nI t)) = m1))) ht (by
    have : fd n (fun k => decide (nI (f k) = nI t)) = m1 := (fd_none (by omega)).mpr (fun k hk => decide_eq_false (fun q => by
      have g1 := h1 k hk
      exact h3 k hk ((nI_eq (by omega) (by omega)).mp q)))
    rw [this]; rfl)
  omega
section ALC
variable {S T : Nat} {μ α ρ : OM} {a : Nat → Int32}
theorem rqv_c (w : WL S T a) {i : Nat} (hi : i < S) (tk : Nat → Bool) : rqv tk a i = m1 ∨ ∃ t, t < T ∧ rqv tk a i = nI t ∧ tk t = false := by
  rcases fd_cases (ln a i) (fun k => !tk (a (25 + 13 * i + (5 + k))).toNatClampNeg) with ⟨k, h1, h2, h3, _⟩ | ⟨h1, _⟩
  · right
    obtain ⟨t, ht, e⟩ := w.2.2.1 i k hi h1
    have t8 := w.1.2
    rw [rqv, fvr_at (k := k) (Nat.zero_le _) (by omega) h2 (fun j _ hj => h3 j hj)]
    refine ⟨t, ht, e, ?_⟩
    rw [e, nI_clamp (by omega)] at h2
    simpa using h2
  · left
    rw [rqv, fvr_none (fun k _ hk => h1 k (by omega))]
theorem s_avail (h : MR S T μ a) (w : WL S T a) {i : Nat} (hi : i < S) {tk : Nat → Bool} (ht : ∀ t, t < T → α.1 3 t = tv (tk t)) : f_X1_firstAvailable (nI i) μ α = some (rqv tk a i) := by
  have h8 := w.1.1
  have t8 := w.1.2
  have hl := w.2.1 i hi
  unfold f_X1_firstAvailable
  rw [q_l0]
  refine lp_fv (F := f_X1_firstAvailable_2 (nI i) μ α) (fun k => !tk (a (25 + 13 * i + (5 + k))).toNatClampNeg) (fun k => a (25 + 13 * i + (5 + k))) (ln a i) (fun n k hk => ?_) (fun n => ?_) (fu_lt (show ln a i < 2000 by omega))
  · obtain ⟨t, htT, e⟩ := w.2.2.1 i k hi hk
    have hw := s_wish h w hi hk
    rw [e] at hw
    rw [e, nI_clamp (by omega)]
    simp (maxSteps := 2000000) (disch := first | rfl | exact q_e1 _ _ _ | exact q_sr1 _ _ | omega) only [f_X1_firstAvailable_2, s_wishesOf h h8 hi, hl.2, hw, ht t htT, ↓q_m1, q_l0, q_l1, q_l2, q_l3, q_l4, q_l5, q_l6, q_l7, q_l8, q_l9, q_l10, q_l11, q_l12, q_l13, q_l14, q_l15, q_l16, q_l17, q_l18, q_l19, q_l20, q_l21, q_l22, q_l23, q_l24, q_l25, q_l26, q_l27, q_l28, q_l29, q_l30, q_l31, q_l32, q_l33, q_l45, q_l46, q_l48, q_l57, q_l58, q_l59, q_l60, q_l61, q_l62, q_l63, q_l64, q_l96, q_l97, q_l99, q_l122, q_l129, q_l137, q_l255, q_l256, q_l400, q_l680, q_l700, q_l959, q_l999, q_l9999, q_l10000, q_l100000, q_l36, q_l50, q_l100, q_l112, q_l200, q_ltT, q_ltF, q_leT, q_leF, q_eqF, q_eqR, q_mlt, q_mle, q_nlm, q_nLm, q_nem, q_men, q_mlm, Nat.add_zero, Nat.sub_zero, q_add0, pk_rem, nI_add, pk_mul, q_sub, q_subm, q_addm, nI_clamp, q_inT, q_inF, q_sr1, q_srn, q_srw, q_srs, q_wIs, q_wIn, q_wI2, q_wJ1, q_wJs, q_wJn, q_wR1, q_wRs, q_wRn, q_wI22, q_wJ22, pk_us, pk_un, pk_uLs, pk_uLn, q_usS, q_usN, q_ups, q_upn, Bool.true_eq_false, Bool.false_eq_true, q_lt, q_o2, q_o3, q_o4, q_o5, q_bi, ↓reduceIte, q_tv0, q_tv1, q_bz, q_oRl, q_oRr, q_oXl, q_oXr]
    cases tk t <;> rfl
  · simp (maxSteps := 2000000) (disch := first | rfl | exact q_e1 _ _ _ | exact q_sr1 _ _ | omega) only [f_X1_firstAvailable_2, s_wishesOf h h8 hi, hl.2, ↓q_m1, q_l0, q_l1, q_l2, q_l3, q_l4, q_l5, q_l6, q_l7, q_l8, q_l9, q_l10, q_l11, q_l12, q_l13, q_l14, q_l15, q_l16, q_l17, q_l18, q_l19, q_l20, q_l21, q_l22, q_l23, q_l24, q_l25, q_l26, q_l27, q_l28, q_l29, q_l30, q_l31, q_l32, q_l33, q_l45, q_l46, q_l48, q_l57, q_l58, q_l59, q_l60, q_l61, q_l62, q_l63, q_l64, q_l96, q_l97, q_l99, q_l122, q_l129, q_l137, q_l255, q_l256, q_l400, q_l680, q_l700, q_l959, q_l999, q_l9999, q_l10000, q_l100000, q_l36, q_l50, q_l100, q_l112, q_l200, q_ltT, q_ltF, q_leT, q_leF, q_eqF, q_eqR, q_mlt, q_mle, q_nlm, q_nLm, q_nem, q_men, q_mlm, Nat.add_zero, Nat.sub_zero, q_add0, pk_rem, nI_add, pk_mul, q_sub, q_subm, q_addm, nI_clamp, q_inT, q_inF, q_sr1, q_srn, q_srw, q_srs, q_wIs, q_wIn, q_wI2, q_wJ1, q_wJs, q_wJn, q_wR1, q_wRs, q_wRn, q_wI22, q_wJ22, pk_us, pk_un, pk_uLs, pk_uLn, q_usS, q_usN, q_ups, q_upn, Bool.true_eq_false, Bool.false_eq_true, q_lt, q_o2, q_o3, q_o4, q_o5, q_bi, ↓reduceIte, q_tv0, q_tv1, q_bz, q_oRl, q_oRr, q_oXl, q_oXr]
/-- the class finishes the chain from a place on -/
theorem s_fin (h8 : S ≤ 8) (t8 : T ≤ 8) {fin tk : Nat → Bool} {ch : Nat → Nat} {p c : Nat} (hp : p ≤ c) (hc : c ≤ 8) (hn : α.1 0 4 = nI c) (hch : ∀ k, k < c → ch k < S ∧ α.1 4 k = nI (ch k)) (hr : ∀ k, k < c → α.1 1 (ch k) = m1 ∨ ∃ t, t < T ∧ α.1 1 (ch k) = nI t) (hf : ∀ i, i < S → α.1 2 i = tv (fin i)) (ht : ∀ t, t < T → α.1 3 t = tv (tk t)) : ∃ α', f_X1_finishFrom (nI p) α = some α' ∧ α'.1 0 4 = nI p ∧ (∀ k, k ≠ 0 → k ≠ 2 → k ≠ 3 → α'.1 k = α.1 k) ∧ (∀ i, i < S → α'.1 2 i = tv (finN fin ch p (c - p) i)) ∧ ∀ t, t < T → α'.1 3 t = tv (tkN tk (fun k => α.1 1 (ch k)) p (c - p) t) := by
  unfold f_X1_finishFrom
  refine lp_inv (F := f_X1_finishFrom_2 (nI p)) (i0 := p) (s := α) (fun (x : Nat) (s : OM) => p ≤ x ∧ (∀ k, k ≠ 2 → k ≠ 3 → s.1 k = α.1 k) ∧ (∀ i, i < S → s.1 2 i = tv (finN fin ch p (x - p) i)) ∧ ∀ t, t < T → s.1 3 t = tv (tkN tk (fun k => α.1 1 (ch k)) p (x - p) t)) _ c (fun n x s hx hh => ?_) (fun n s hh => ?_) (fu_lt (show c < 2000 by omega)) ⟨Nat.le_refl _, fun _ _ _ => rfl, fun i hi => by rw [Nat.sub_self, finN]; exact hf i hi, fun t htt => by rw [Nat.sub_self, tkN]; exact ht t htt⟩
  · obtain ⟨g0, g1, g2, g3⟩ := hh
    obtain ⟨k1, k2⟩ := hch x hx
    have e04 : s.1 0 4 = nI c := (congrFun (g1 0 (by omega) (by omega)) 4).trans hn
    have e4 : s.1 4 x = nI (ch x) := (congrFun (g1 4 (by omega) (by omega)) x).trans k2
    have e1 : s.1 1 (ch x) = α.1 1 (ch x) := congrFun (g1 1 (by omega) (by omega)) _
    have ex : x + 1 - p = (x - p) + 1 := by omega
    have ex2 : p + (x - p) = x := by omega
    have hfin : ∀ s' : OM, s'.1 2 = upd (s.1 2) (ch x) (nI 1) → ∀ i, i < S → s'.1 2 i = tv (finN fin ch p (x + 1 - p) i) := fun s' es i hi => by
      rw [es, ex, finN, ex2]
      by_cases e : i = ch x
      · subst e; rw [pk_us, decide_eq_true rfl, Bool.or_true]; rfl
      · rw [pk_un e, g2 i hi, decide_eq_false (fun q => e q.symm), Bool.or_false]
    rcases hr x hx with e | ⟨t0, ht0, e⟩
    · refine ⟨wI s 2 (ch x) (nI 1), ⟨by omega, fun k h1 h2 => (q_wIn h1).trans (g1 k h1 h2), hfin _ (q_wIs _ _ _ _), fun t htt => ?_⟩, by simp (maxSteps := 2000000) (disch := first | rfl | exact q_e1 _ _ _ | exact q_sr1 _ _ | omega) only [f_X1_finishFrom_2, ↓q_m1, q_l0, q_l1, q_l2, q_l3, q_l4, q_l5, q_l6, q_l7, q_l8, q_l9, q_l10, q_l11, q_l12, q_l13, q_l14, q_l15, q_l16, q_l17, q_l18, q_l19, q_l20, q_l21, q_l22, q_l23, q_l24, q_l25, q_l26, q_l27, q_l28, q_l29, q_l30, q_l31, q_l32, q_l33, q_l45, q_l46, q_l48, q_l57, q_l58, q_l59, q_l60, q_l61, q_l62, q_l63, q_l64, q_l96, q_l97, q_l99, q_l122, q_l129, q_l137, q_l255, q_l256, q_l400, q_l680, q_l700, q_l959, q_l999, q_l9999, q_l10000, q_l100000, q_l36, q_l50, q_l100, q_l112, q_l200, q_ltT, q_ltF, q_leT, q_leF, q_eqF, q_eqR, q_mlt, q_mle, q_nlm, q_nLm, q_nem, q_men, q_mlm, Nat.add_zero, Nat.sub_zero, q_add0, pk_rem, nI_add, pk_mul, q_sub, q_subm, q_addm, nI_clamp, q_inT, q_inF, q_sr1, q_srn, q_srw, q_srs, q_wIs, q_wIn, q_wI2, q_wJ1, q_wJs, q_wJn, q_wR1, q_wRs, q_wRn, q_wI22, q_wJ22, pk_us, pk_un, pk_uLs, pk_uLn, q_usS, q_usN, q_ups, q_upn, Bool.true_eq_false, Bool.false_eq_true, q_lt, q_o2, q_o3, q_o4, q_o5, q_bi, ↓reduceIte, q_tv0, q_tv1, q_bz, q_oRl, q_oRr, q_oXl, q_oXr, e04, e4, e1, e]⟩
      rw [q_wIn (by omega), g3 t htt, ex, tkN, ex2]
      rw [e, decide_eq_false (fun q => (q_men (show t < 2 ^ 31 by omega)).mp q), Bool.or_false]
    · refine ⟨wI (wI s 2 (ch x) (nI 1)) 3 t0 (nI 1), ⟨by omega, fun k h1 h2 => (q_wIn h2).trans ((q_wIn h1).trans (g1 k h1 h2)), hfin _ ((q_wIn (by omega)).trans (q_wIs _ _ _ _)), fun t htt => ?_⟩, by simp (maxSteps := 2000000) (disch := first | rfl | exact q_e1 _ _ _ | exact q_sr1 _ _ | omega) only [f_X1_finishFrom_2, ↓q_m1, q_l0, q_l1, q_l2, q_l3, q_l4, q_l5, q_l6, q_l7, q_l8, q_l9, q_l10, q_l11, q_l12, q_l13, q_l14, q_l15, q_l16, q_l17, q_l18, q_l19, q_l20, q_l21, q_l22, q_l23, q_l24, q_l25, q_l26, q_l27, q_l28, q_l29, q_l30, q_l31, q_l32, q_l33, q_l45, q_l46, q_l48, q_l57, q_l58, q_l59, q_l60, q_l61, q_l62, q_l63, q_l64, q_l96, q_l97, q_l99, q_l122, q_l129, q_l137, q_l255, q_l256, q_l400, q_l680, q_l700, q_l959, q_l999, q_l9999, q_l10000, q_l100000, q_l36, q_l50, q_l100, q_l112, q_l200, q_ltT, q_ltF, q_leT, q_leF, q_eqF, q_eqR, q_mlt, q_mle, q_nlm, q_nLm, q_nem, q_men, q_mlm, Nat.add_zero, Nat.sub_zero, q_add0, pk_rem, nI_add, pk_mul, q_sub, q_subm, q_addm, nI_clamp, q_inT, q_inF, q_sr1, q_srn, q_srw, q_srs, q_wIs, q_wIn, q_wI2, q_wJ1, q_wJs, q_wJn, q_wR1, q_wRs, q_wRn, q_wI22, q_wJ22, pk_us, pk_un, pk_uLs, pk_uLn, q_usS, q_usN, q_ups, q_upn, Bool.true_eq_false, Bool.false_eq_true, q_lt, q_o2, q_o3, q_o4, q_o5, q_bi, ↓reduceIte, q_tv0, q_tv1, q_bz, q_oRl, q_oRr, q_oXl, q_oXr, e04, e4, e1, e]⟩
      rw [q_wIs, q_wIn (by omega), ex, tkN, ex2]
      rw [e]
      by_cases et : t = t0
      · subst et; rw [pk_us, decide_eq_true rfl, Bool.or_true]; rfl
      · rw [pk_un et, g3 t htt, decide_eq_false (fun q => et ((nI_eq (by omega) (by omega)).mp q).symm), Bool.or_false]
  · obtain ⟨g0, g1, g2, g3⟩ := hh
    have e04 : s.1 0 4 = nI c := (congrFun (g1 0 (by omega) (by omega)) 4).trans hn
    refine ⟨wI s 0 4 (nI p), by simp (maxSteps := 2000000) (disch := first | rfl | exact q_e1 _ _ _ | exact q_sr1 _ _ | omega) only [f_X1_finishFrom_2, ↓q_m1, q_l0, q_l1, q_l2, q_l3, q_l4, q_l5, q_l6, q_l7, q_l8, q_l9, q_l10, q_l11, q_l12, q_l13, q_l14, q_l15, q_l16, q_l17, q_l18, q_l19, q_l20, q_l21, q_l22, q_l23, q_l24, q_l25, q_l26, q_l27, q_l28, q_l29, q_l30, q_l31, q_l32, q_l33, q_l45, q_l46, q_l48, q_l57, q_l58, q_l59, q_l60, q_l61, q_l62, q_l63, q_l64, q_l96, q_l97, q_l99, q_l122, q_l129, q_l137, q_l255, q_l256, q_l400, q_l680, q_l700, q_l959, q_l999, q_l9999, q_l10000, q_l100000, q_l36, q_l50, q_l100, q_l112, q_l200, q_ltT, q_ltF, q_leT, q_leF, q_eqF, q_eqR, q_mlt, q_mle, q_nlm, q_nLm, q_nem, q_men, q_mlm, Nat.add_zero, Nat.sub_zero, q_add0, pk_rem, nI_add, pk_mul, q_sub, q_subm, q_addm, nI_clamp, q_inT, q_inF, q_sr1, q_srn, q_srw, q_srs, q_wIs, q_wIn, q_wI2, q_wJ1, q_wJs, q_wJn, q_wR1, q_wRs, q_wRn, q_wI22, q_wJ22, pk_us, pk_un, pk_uLs, pk_uLn, q_usS, q_usN, q_ups, q_upn, Bool.true_eq_false, Bool.false_eq_true, q_lt, q_o2, q_o3, q_o4, q_o5, q_bi, ↓reduceIte, q_tv0, q_tv1, q_bz, q_oRl, q_oRr, q_oXl, q_oXr, e04], by simp (maxSteps := 2000000) (disch := first | rfl | exact q_e1 _ _ _ | exact q_sr1 _ _ | omega) only [q_sr1, q_srn, q_srw, q_srs, q_wIs, q_wIn, q_wI2, q_wJ1, q_wJs, q_wJn, q_wR1, q_wRs, q_wRn, q_wI22, q_wJ22, pk_us, pk_un, pk_uLs, pk_uLn, q_usS, q_usN, q_ups, q_upn], fun k h0 h1 h2 => (q_wIn h0).trans (g1 k h1 h2), fun i hi => ?_, fun t htt => ?_⟩
    · rw [q_wIn (by omega)]; exact g2 i hi
    · rw [q_wIn (by omega)]; exact g3 t htt
end ALC
theorem occ_c (S : Nat) (a : Nat → Int32) (v : Int32) : occ S a v = m1 ∨ ∃ i, i < S ∧ occ S a v = nI i ∧ a (25 + 13 * i + 3) = v := by
  rcases fd_cases S (fun i => decide (a (25 + 13 * i + 3) = v)) with ⟨j, h1, h2, -, h4⟩ | ⟨-, h2⟩
  · exact Or.inr ⟨j, h1, h4, of_decide_eq_true h2⟩
  · exact Or.inl h2
/-! the mechanism as a whole, and what calls it -/
def nxt (S : Nat) (a : Nat → Int32) (fin : Nat → Bool) : Int32 := fvr (fun k => !fin (oi a k)) (fun k => nI (oi a k)) S 0
section ALC
variable {B S T : Nat} {μ α ρ : OM} {a : Nat → Int32}
theorem MR.ordk (h : MR S T μ a) (h8 : S ≤ 8) {k : Nat} (hk : k < S) : oi a k < S ∧ a (129 + k) = nI (oi a k) ∧ μ.1 5 (oi a k) = nI k := by
  obtain ⟨i, h1, h2, h3⟩ := h.2.2.2.2.2.2.2.2 k hk
  have e : oi a k = i := by rw [oi, h3]; exact nI_clamp (by omega)
  rw [e]; exact ⟨h1, h3, h2⟩
theorem nxt_c (h : MR S T μ a) (h8 : S ≤ 8) (fin : Nat → Bool) : (nxt S a fin = m1 ∧ ∀ i, i < S → fin i = true) ∨ ∃ i, i < S ∧ nxt S a fin = nI i ∧ fin i = false := by
  rcases fd_cases S (fun k => !fin (oi a k)) with ⟨k, h1, h2, h3, _⟩ | ⟨h1, _⟩
  · right
    rw [nxt, fvr_at (k := k) (Nat.zero_le _) (by omega) h2 (fun j _ hj => h3 j hj)]
    exact ⟨oi a k, (h.ordk h8 h1).1, rfl, by simpa using h2⟩
  · left
    rw [nxt, fvr_none (fun k _ hk => h1 k (by omega))]
    refine ⟨rfl, fun i hi => ?_⟩
    obtain ⟨k, k1, k2, k3⟩ := h.2.2.2.2.2.2.2.1 i hi
    have e : oi a k = i := by rw [oi, k3]; exact nI_clamp (by omega)
    have := h1 k k1
    rw [e] at this
    simpa using this
theorem s_next (h : MR S T μ a) (h8 : S ≤ 8) {fin : Nat → Bool} (hf : ∀ i, i < S → α.1 2 i = tv (fin i)) : f_X1_nextInTurn μ α = some (nxt S a fin) := by
  have hS := h.1.2.2.1
  have htn : ∀ i, i < S → ∃ k, k < S ∧ μ.1 5 i = nI k ∧ oi a k = i := fun i hi => by
    obtain ⟨k, k1, k2, k3⟩ := h.2.2.2.2.2.2.2.1 i hi
    exact ⟨k, k1, k2, by rw [oi, k3]; exact nI_clamp (by omega)⟩
  unfold f_X1_nextInTurn
  rw [q_l0, q_m1]
  obtain ⟨b, g1, rfl⟩ := lp_inv (F := f_X1_nextInTurn_4 μ α) (i0 := 0) (s := m1) (fun (j : Nat) (s : Int32) => (s = m1 ∧ ∀ i, i < j → fin i = true) ∨ ∃ k, k < S ∧ s = nI (oi a k) ∧ oi a k < j ∧ fin (oi a k) = false ∧ ∀ i, i < j → fin i = false → ∃ k', k' < S ∧ oi a k' = i ∧ k ≤ k') (fun s => s = nxt S a fin) S (fun n j s hj hh => by
      have hfj := hf j hj
      obtain ⟨kj, q1, q2, q3⟩ := htn j hj
      cases hc : fin j with
      | true =>
        rw [hc] at hfj
        refine ⟨s, ?_, by simp (maxSteps := 2000000) (disch := first | rfl | exact q_e1 _ _ _ | exact q_sr1 _ _ | omega) only [f_X1_nextInTurn_4, ↓q_m1, q_l0, q_l1, q_l2, q_l3, q_l4, q_l5, q_l6, q_l7, q_l8, q_l9, q_l10, q_l11, q_l12, q_l13, q_l14, q_l15, q_l16, q_l17, q_l18, q_l19, q_l20, q_l21, q_l22, q_l23, q_l24, q_l25, q_l26, q_l27, q_l28, q_l29, q_l30, q_l31, q_l32, q_l33, q_l45, q_l46, q_l48, q_l57, q_l58, q_l59, q_l60, q_l61, q_l62, q_l63, q_l64, q_l96, q_l97, q_l99, q_l122, q_l129, q_l137, q_l255, q_l256, q_l400, q_l680, q_l700, q_l959, q_l999, q_l9999, q_l10000, q_l100000, q_l36, q_l50, q_l100, q_l112, q_l200, q_ltT, q_ltF, q_leT, q_leF, q_eqF, q_eqR, q_mlt, q_mle, q_nlm, q_nLm, q_nem, q_men, q_mlm, Nat.add_zero, Nat.sub_zero, q_add0, pk_rem, nI_add, pk_mul, q_sub, q_subm, q_addm, nI_clamp, q_inT, q_inF, q_sr1, q_srn, q_srw, q_srs, q_wIs, q_wIn, q_wI2, q_wJ1, q_wJs, q_wJn, q_wR1, q_wRs, q_wRn, q_wI22, q_wJ22, pk_us, pk_un, pk_uLs, pk_uLn, q_usS, q_usN, q_ups, q_upn, Bool.true_eq_false, Bool.false_eq_true, q_lt, q_o2, q_o3, q_o4, q_o5, q_bi, ↓reduceIte, q_tv0, q_tv1, q_bz, q_oRl, q_oRr, q_oXl, q_oXr, h.1.1, hfj]⟩
        rcases hh with ⟨h1, h2⟩ | ⟨k, h1, h2, h3, h4, h5⟩
        · exact Or.inl ⟨h1, fun i hi => by
            by_cases e : i = j
            · subst e; exact hc
            · exact h2 i (by omega)⟩
        · exact Or.inr ⟨k, h1, h2, by omega, h4, fun i hi hfi => by
            by_cases e : i = j
            · subst e; rw [hc] at hfi; cases hfi
            · exact h5 i (by omega) hfi⟩
      | false =>
        rw [hc] at hfj
        rcases hh with ⟨rfl, h2⟩ | ⟨k, h1, rfl, h3, h4, h5⟩
        · refine ⟨nI j, Or.inr ⟨kj, q1, by rw [q3], by omega, by rw [q3]; exact hc, fun i hi hfi => ?_⟩, by simp (maxSteps := 2000000) (disch := first | rfl | exact q_e1 _ _ _ | exact q_sr1 _ _ | omega) only [f_X1_nextInTurn_4, ↓q_m1, q_l0, q_l1, q_l2, q_l3, q_l4, q_l5, q_l6, q_l7, q_l8, q_l9, q_l10, q_l11, q_l12, q_l13, q_l14, q_l15, q_l16, q_l17, q_l18, q_l19, q_l20, q_l21, q_l22, q_l23, q_l24, q_l25, q_l26, q_l27, q_l28, q_l29, q_l30, q_l31, q_l32, q_l33, q_l45, q_l46, q_l48, q_l57, q_l58, q_l59, q_l60, q_l61, q_l62, q_l63, q_l64, q_l96, q_l97, q_l99, q_l122, q_l129, q_l137, q_l255, q_l256, q_l400, q_l680, q_l700, q_l959, q_l999, q_l9999, q_l10000, q_l100000, q_l36, q_l50, q_l100, q_l112, q_l200, q_ltT, q_ltF, q_leT, q_leF, q_eqF, q_eqR, q_mlt, q_mle, q_nlm, q_nLm, q_nem, q_men, q_mlm, Nat.add_zero, Nat.sub_zero, q_add0, pk_rem, nI_add, pk_mul, q_sub, q_subm, q_addm, nI_clamp, q_inT, q_inF, q_sr1, q_srn, q_srw, q_srs, q_wIs, q_wIn, q_wI2, q_wJ1, q_wJs, q_wJn, q_wR1, q_wRs, q_wRn, q_wI22, q_wJ22, pk_us, pk_un, pk_uLs, pk_uLn, q_usS, q_usN, q_ups, q_upn, Bool.true_eq_false, Bool.false_eq_true, q_lt, q_o2, q_o3, q_o4, q_o5, q_bi, ↓reduceIte, q_tv0, q_tv1, q_bz, q_oRl, q_oRr, q_oXl, q_oXr, h.1.1, hfj]⟩
          by_cases e : i = j
          · subst e; exact ⟨kj, q1, q3, Nat.le_refl _⟩
          · rw [h2 i (by omega)] at hfi; cases hfi
        · obtain ⟨k1, k2, k3⟩ := h.ordk h8 h1
          have t1 := s_turnOf h h8 hj
          have t2 := s_turnOf h h8 k1
          rw [q2] at t1
          rw [k3] at t2
          by_cases c : k ≤ kj
          · refine ⟨nI (oi a k), Or.inr ⟨k, h1, rfl, by omega, h4, fun i hi hfi => ?_⟩, by simp (maxSteps := 2000000) (disch := first | rfl | exact q_e1 _ _ _ | exact q_sr1 _ _ | omega) only [f_X1_nextInTurn_4, ↓q_m1, q_l0, q_l1, q_l2, q_l3, q_l4, q_l5, q_l6, q_l7, q_l8, q_l9, q_l10, q_l11, q_l12, q_l13, q_l14, q_l15, q_l16, q_l17, q_l18, q_l19, q_l20, q_l21, q_l22, q_l23, q_l24, q_l25, q_l26, q_l27, q_l28, q_l29, q_l30, q_l31, q_l32, q_l33, q_l45, q_l46, q_l48, q_l57, q_l58, q_l59, q_l60, q_l61, q_l62, q_l63, q_l64, q_l96, q_l97, q_l99, q_l122, q_l129, q_l137, q_l255, q_l256, q_l400, q_l680, q_l700, q_l959, q_l999, q_l9999, q_l10000, q_l100000, q_l36, q_l50, q_l100, q_l112, q_l200, q_ltT, q_ltF, q_leT, q_leF, q_eqF, q_eqR, q_mlt, q_mle, q_nlm, q_nLm, q_nem, q_men, q_mlm, Nat.add_zero, Nat.sub_zero, q_add0, pk_rem, nI_add, pk_mul, q_sub, q_subm, q_addm, nI_clamp, q_inT, q_inF, q_sr1, q_srn, q_srw, q_srs, q_wIs, q_wIn, q_wI2, q_wJ1, q_wJs, q_wJn, q_wR1, q_wRs, q_wRn, q_wI22, q_wJ22, pk_us, pk_un, pk_uLs, pk_uLn, q_usS, q_usN, q_ups, q_upn, Bool.true_eq_false, Bool.false_eq_true, q_lt, q_o2, q_o3, q_o4, q_o5, q_bi, ↓reduceIte, q_tv0, q_tv1, q_bz, q_oRl, q_oRr, q_oXl, q_oXr, h.1.1, hfj, t1, t2]⟩
            by_cases e : i = j
            · subst e; exact ⟨kj, q1, q3, c⟩
            · exact h5 i (by omega) hfi
          · refine ⟨nI j, Or.inr ⟨kj, q1, by rw [q3], by omega, by rw [q3]; exact hc, fun i hi hfi => ?_⟩, by simp (maxSteps := 2000000) (disch := first | rfl | exact q_e1 _ _ _ | exact q_sr1 _ _ | omega) only [f_X1_nextInTurn_4, ↓q_m1, q_l0, q_l1, q_l2, q_l3, q_l4, q_l5, q_l6, q_l7, q_l8, q_l9, q_l10, q_l11, q_l12, q_l13, q_l14, q_l15, q_l16, q_l17, q_l18, q_l19, q_l20, q_l21, q_l22, q_l23, q_l24, q_l25, q_l26, q_l27, q_l28, q_l29, q_l30, q_l31, q_l32, q_l33, q_l45, q_l46, q_l48, q_l57, q_l58, q_l59, q_l60, q_l61, q_l62, q_l63, q_l64, q_l96, q_l97, q_l99, q_l122, q_l129, q_l137, q_l255, q_l256, q_l400, q_l680, q_l700, q_l959, q_l999, q_l9999, q_l10000, q_l100000, q_l36, q_l50, q_l100, q_l112, q_l200, q_ltT, q_ltF, q_leT, q_leF, q_eqF, q_eqR, q_mlt, q_mle, q_nlm, q_nLm, q_nem, q_men, q_mlm, Nat.add_zero, Nat.sub_zero, q_add0, pk_rem, nI_add, pk_mul, q_sub, q_subm, q_addm, nI_clamp, q_inT, q_inF, q_sr1, q_srn, q_srw, q_srs, q_wIs, q_wIn, q_wI2, q_wJ1, q_wJs, q_wJn, q_wR1, q_wRs, q_wRn, q_wI22, q_wJ22, pk_us, pk_un, pk_uLs, pk_uLn, q_usS, q_usN, q_ups, q_upn, Bool.true_eq_false, Bool.false_eq_true, q_lt, q_o2, q_o3, q_o4, q_o5, q_bi, ↓reduceIte, q_tv0, q_tv1, q_bz, q_oRl, q_oRr, q_oXl, q_oXr, h.1.1, hfj, t1, t2]⟩
            by_cases e : i = j
            · subst e; exact ⟨kj, q1, q3, Nat.le_refl _⟩
            · obtain ⟨k', e1, e2, e3⟩ := h5 i (by omega) hfi
              exact ⟨k', e1, e2, by omega⟩) (fun n s hh => by
      refine ⟨s, by simp (maxSteps := 2000000) (disch := first | rfl | exact q_e1 _ _ _ | exact q_sr1 _ _ | omega) only [f_X1_nextInTurn_4, ↓q_m1, q_l0, q_l1, q_l2, q_l3, q_l4, q_l5, q_l6, q_l7, q_l8, q_l9, q_l10, q_l11, q_l12, q_l13, q_l14, q_l15, q_l16, q_l17, q_l18, q_l19, q_l20, q_l21, q_l22, q_l23, q_l24, q_l25, q_l26, q_l27, q_l28, q_l29, q_l30, q_l31, q_l32, q_l33, q_l45, q_l46, q_l48, q_l57, q_l58, q_l59, q_l60, q_l61, q_l62, q_l63, q_l64, q_l96, q_l97, q_l99, q_l122, q_l129, q_l137, q_l255, q_l256, q_l400, q_l680, q_l700, q_l959, q_l999, q_l9999, q_l10000, q_l100000, q_l36, q_l50, q_l100, q_l112, q_l200, q_ltT, q_ltF, q_leT, q_leF, q_eqF, q_eqR, q_mlt, q_mle, q_nlm, q_nLm, q_nem, q_men, q_mlm, Nat.add_zero, Nat.sub_zero, q_add0, pk_rem, nI_add, pk_mul, q_sub, q_subm, q_addm, nI_clamp, q_inT, q_inF, q_sr1, q_srn, q_srw, q_srs, q_wIs, q_wIn, q_wI2, q_wJ1, q_wJs, q_wJn, q_wR1, q_wRs, q_wRn, q_wI22, q_wJ22, pk_us, pk_un, pk_uLs, pk_uLn, q_usS, q_usN, q_ups, q_upn, Bool.true_eq_false, Bool.false_eq_true, q_lt, q_o2, q_o3, q_o4, q_o5, q_bi, ↓reduceIte, q_tv0, q_tv1, q_bz, q_oRl, q_oRr, q_oXl, q_oXr, h.1.1], ?_⟩
      rcases hh with ⟨rfl, h2⟩ | ⟨k, h1, rfl, h3, h4, h5⟩
      · rw [nxt, fvr_none (fun k _ hk => by rw [h2 _ (h.ordk h8 (show k < S by omega)).1]; rfl)]
      · rw [nxt, fvr_at (k := k) (Nat.zero_le _) (by omega) (by rw [h4]; rfl) (fun j _ hj => ?_)]
        cases hfj : fin (oi a j) with
        | true => rfl
        | false =>
          exfalso
          obtain ⟨j1, j2, j3⟩ := h.ordk h8 (show j < S by omega)
          obtain ⟨k', e1, e2, e3⟩ := h5 _ j1 hfj
          have := (h.ordk h8 e1).2.2
          rw [e2, j3] at this
          have := (nI_eq (by omega) (by omega)).mp this
          omega) (fu_lt (show S < 2000 by omega)) (Or.inl ⟨rfl, fun i hi => by omega⟩)
  exact g1
theorem idle (hx : f_X1_nextInTurn μ α = some m1) (h0 : α.1 0 4 = nI 0) : ∀ (r x m : Nat), x + r = 16 → r < m → f_X1_decide_56 μ m (nI x) α = some α
  | 0, x, m, h1, h2 => by
    obtain ⟨m, rfl⟩ : ∃ q, m = q + 1 := ⟨m - 1, by omega⟩
    simp (maxSteps := 2000000) (disch := first | rfl | exact q_e1 _ _ _ | exact q_sr1 _ _ | omega) only [f_X1_decide_56, ↓q_m1, q_l0, q_l1, q_l2, q_l3, q_l4, q_l5, q_l6, q_l7, q_l8, q_l9, q_l10, q_l11, q_l12, q_l13, q_l14, q_l15, q_l16, q_l17, q_l18, q_l19, q_l20, q_l21, q_l22, q_l23, q_l24, q_l25, q_l26, q_l27, q_l28, q_l29, q_l30, q_l31, q_l32, q_l33, q_l45, q_l46, q_l48, q_l57, q_l58, q_l59, q_l60, q_l61, q_l62, q_l63, q_l64, q_l96, q_l97, q_l99, q_l122, q_l129, q_l137, q_l255, q_l256, q_l400, q_l680, q_l700, q_l959, q_l999, q_l9999, q_l10000, q_l100000, q_l36, q_l50, q_l100, q_l112, q_l200, q_ltT, q_ltF, q_leT, q_leF, q_eqF, q_eqR, q_mlt, q_mle, q_nlm, q_nLm, q_nem, q_men, q_mlm, Nat.add_zero, Nat.sub_zero, q_add0, pk_rem, nI_add, pk_mul, q_sub, q_subm, q_addm, nI_clamp, q_inT, q_inF, q_sr1, q_srn, q_srw, q_srs, q_wIs, q_wIn, q_wI2, q_wJ1, q_wJs, q_wJn, q_wR1, q_wRs, q_wRn, q_wI22, q_wJ22, pk_us, pk_un, pk_uLs, pk_uLn, q_usS, q_usN, q_ups, q_upn, Bool.true_eq_false, Bool.false_eq_true, q_lt, q_o2, q_o3, q_o4, q_o5, q_bi, ↓reduceIte, q_tv0, q_tv1, q_bz, q_oRl, q_oRr, q_oXl, q_oXr]
  | r + 1, x, m, h1, h2 => by
    obtain ⟨m, rfl⟩ : ∃ q, m = q + 1 := ⟨m - 1, by omega⟩
    have ih := idle hx h0 r (x + 1) m (by omega) (by omega)
    simp (maxSteps := 2000000) (disch := first | rfl | exact q_e1 _ _ _ | exact q_sr1 _ _ | omega) only [f_X1_decide_56, f_X1_append, ↓q_m1, q_l0, q_l1, q_l2, q_l3, q_l4, q_l5, q_l6, q_l7, q_l8, q_l9, q_l10, q_l11, q_l12, q_l13, q_l14, q_l15, q_l16, q_l17, q_l18, q_l19, q_l20, q_l21, q_l22, q_l23, q_l24, q_l25, q_l26, q_l27, q_l28, q_l29, q_l30, q_l31, q_l32, q_l33, q_l45, q_l46, q_l48, q_l57, q_l58, q_l59, q_l60, q_l61, q_l62, q_l63, q_l64, q_l96, q_l97, q_l99, q_l122, q_l129, q_l137, q_l255, q_l256, q_l400, q_l680, q_l700, q_l959, q_l999, q_l9999, q_l10000, q_l100000, q_l36, q_l50, q_l100, q_l112, q_l200, q_ltT, q_ltF, q_leT, q_leF, q_eqF, q_eqR, q_mlt, q_mle, q_nlm, q_nLm, q_nem, q_men, q_mlm, Nat.add_zero, Nat.sub_zero, q_add0, pk_rem, nI_add, pk_mul, q_sub, q_subm, q_addm, nI_clamp, q_inT, q_inF, q_sr1, q_srn, q_srw, q_srs, q_wIs, q_wIn, q_wI2, q_wJ1, q_wJs, q_wJn, q_wR1, q_wRs, q_wRn, q_wI22, q_wJ22, pk_us, pk_un, pk_uLs, pk_uLn, q_usS, q_usN, q_ups, q_upn, Bool.true_eq_false, Bool.false_eq_true, q_lt, q_o2, q_o3, q_o4, q_o5, q_bi, ↓reduceIte, q_tv0, q_tv1, q_bz, q_oRl, q_oRr, q_oXl, q_oXr, h0, hx, ih]
theorem s_given {i : Nat} (hi : i < 8) : f_X1_givenTo (nI i) α = some (α.1 1 i) := by
  simp (maxSteps := 2000000) (disch := first | rfl | exact q_e1 _ _ _ | exact q_sr1 _ _ | omega) only [f_X1_givenTo, ↓q_m1, q_l0, q_l1, q_l2, q_l3, q_l4, q_l5, q_l6, q_l7, q_l8, q_l9, q_l10, q_l11, q_l12, q_l13, q_l14, q_l15, q_l16, q_l17, q_l18, q_l19, q_l20, q_l21, q_l22, q_l23, q_l24, q_l25, q_l26, q_l27, q_l28, q_l29, q_l30, q_l31, q_l32, q_l33, q_l45, q_l46, q_l48, q_l57, q_l58, q_l59, q_l60, q_l61, q_l62, q_l63, q_l64, q_l96, q_l97, q_l99, q_l122, q_l129, q_l137, q_l255, q_l256, q_l400, q_l680, q_l700, q_l959, q_l999, q_l9999, q_l10000, q_l100000, q_l36, q_l50, q_l100, q_l112, q_l200, q_ltT, q_ltF, q_leT, q_leF, q_eqF, q_eqR, q_mlt, q_mle, q_nlm, q_nLm, q_nem, q_men, q_mlm, Nat.add_zero, Nat.sub_zero, q_add0, pk_rem, nI_add, pk_mul, q_sub, q_subm, q_addm, nI_clamp, q_inT, q_inF, q_sr1, q_srn, q_srw, q_srs, q_wIs, q_wIn, q_wI2, q_wJ1, q_wJs, q_wJn, q_wR1, q_wRs, q_wRn, q_wI22, q_wJ22, pk_us, pk_un, pk_uLs, pk_uLn, q_usS, q_usN, q_ups, q_upn, Bool.true_eq_false, Bool.false_eq_true, q_lt, q_o2, q_o3, q_o4, q_o5, q_bi, ↓reduceIte, q_tv0, q_tv1, q_bz, q_oRl, q_oRr, q_oXl, q_oXr]
end ALC
section FACE
variable {B : Nat} {σ : SM}
theorem upd_self (f : Nat → Int32) (k : Nat) : upd f k (f k) = f := by
  funext j
  by_cases e : j = k
  · subst e; exact pk_us
  · exact pk_un e
end FACE

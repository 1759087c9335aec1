/-! the mechanism -/
def oi (a : Nat → Int32) (k : Nat) : Nat := (a (129 + k)).toNatClampNeg
def rqv (tk : Nat → Bool) (a : Nat → Int32) (i : Nat) : Int32 := fvr (fun k => !tk (a (25 + 13 * i + (5 + k))).toNatClampNeg) (fun k => a (25 + 13 * i + (5 + k))) (ln a i) 0
def finN (fin : Nat → Bool) (ch : Nat → Nat) (p : Nat) : Nat → Nat → Bool
  | 0, i => fin i
  | n + 1, i => finN fin ch p n i || decide (ch (p + n) = i)
def tkN (tk : Nat → Bool) (rq : Nat → Int32) (p : Nat) : Nat → Nat → Bool
  | 0, t => tk t
  | n + 1, t => tkN tk rq p n t || decide (rq (p + n) = nI t)
def inC (ch : Nat → Nat) (c i : Nat) : Bool := !decide (fd c (fun k => decide (ch k = i)) = m1)
theorem finN_iff {fin : Nat → Bool} {ch : Nat → Nat} {p : Nat} : ∀ {n i : Nat}, finN fin ch p n i = true ↔ fin i = true ∨ ∃ j, j < n ∧ ch (p + j) = i
  | 0, i => ⟨fun h => Or.inl h, fun h => by
    rcases h with h | ⟨j, hj, _⟩
    · exact h
    · omega⟩
  | n + 1, i => by
    rw [finN, Bool.or_eq_true, finN_iff, decide_eq_true_eq]
    constructor
    · rintro ((h | ⟨j, hj, e⟩) | h)
      · exact Or.inl h
      · exact Or.inr ⟨j, by omega, e⟩
      · exact Or.inr ⟨n, by omega, h⟩
    · rintro (h | ⟨j, hj, e⟩)
      · exact Or.inl (Or.inl h)
      · by_cases q : j = n
        · subst q; exact Or.inr e
        · exact Or.inl (Or.inr ⟨j, by omega, e⟩)
theorem tkN_iff {tk : Nat → Bool} {rq : Nat → Int32} {p : Nat} : ∀ {n t : Nat}, tkN tk rq p n t = true ↔ tk t = true ∨ ∃ j, j < n ∧ rq (p + j) = nI t
  | 0, i => ⟨fun h => Or.inl h, fun h => by
    rcases h with h | ⟨j, hj, _⟩
    · exact h
    · omega⟩
  | n + 1, i => by
    rw [tkN, Bool.or_eq_true, tkN_iff, decide_eq_true_eq]
    constructor
    · rintro ((h | ⟨j, hj, e⟩) | h)
      · exact Or.inl h
      · exact Or.inr ⟨j, by omega, e⟩
      · exact Or.inr ⟨n, by omega, h⟩
    · rintro (h | ⟨j, hj, e⟩)
      · exact Or.inl (Or.inl h)
      · by_cases q : j = n
        · subst q; exact Or.inr e
        · exact Or.inl (Or.inr ⟨j, by omega, e⟩)
theorem inC_iff {ch : Nat → Nat} {c i : Nat} (hc : c < 2 ^ 31) : inC ch c i = true ↔ ∃ k, k < c ∧ ch k = i := by
  rw [inC, fd_b hc]
  exact ⟨fun ⟨k, h1, h2⟩ => ⟨k, h1, of_decide_eq_true h2⟩, fun ⟨k, h1, h2⟩ => ⟨k, h1, decide_eq_true h2⟩⟩
theorem tv_t : nI 1 = tv true := rfl
/-- one more in a place without room -/
theorem php1 {n N t : Nat} (hn : n < 2 ^ 30) (hN : N < 2 ^ 31) (f : Nat → Nat) (h1 : ∀ k, k < n → f k < N) (h2 : ∀ k k', k < n → k' < n → f k = f k' → k = k') (ht : t < N) (h3 : ∀ k, k < n → f k ≠ t) : n + 1 ≤ N := by
  have hm : ∀ k, k < n → nI (f k) ≠ m1 := fun k hk q => by
    have := h1 k hk
    exact (q_nem (show f k < 2 ^ 31 by omega)).mp q
  have c1 : cnt (fun t => !decide (fd n (fun k => decide (nI (f k) = nI t)) = m1)) N = cnt (fun k => !decide (nI (f k) = m1)) n := cnt_held (T := N) (fun k => nI (f k)) hN n hn (fun k hk => Or.inr ⟨f k, h1 k hk, rfl⟩) (fun k k' hk hk' e _ => by
    have g1 := h1 k hk
    have g2 := h1 k' hk'
    exact h2 k k' hk hk' ((nI_eq (by omega) (by omega)).mp e))
  have c2 := cnt_all (P := fun k => !decide (nI (f k) = m1)) (n := n) (fun k hk => by rw [decide_eq_false (hm k hk)]; rfl)
  have c3 : cnt (fun t => !decide (fd n (fun k => decide (nI (f k) = nI t)) = m1)) N + cnt (fun t => !(!decide (fd n (fun k => decide (nI (f k) = nI t)) = m1))) N = N := cnt_not (fun t => !decide (fd n (fun k => decide (nI (f k) = nI t)) = m1)) N
  have c4 := cnt_pos (P := fun t => !(!decide (fd n (fun k => decide (nI (f k) = nI t)) = m1))) ht (by
    have : fd n (fun k => decide (nI (f k) = nI t)) = m1 := (fd_none (by omega)).mpr (fun k hk => decide_eq_false (fun q => by
      have g1 := h1 k hk
      exact h3 k hk ((nI_eq (by omega) (by omega)).mp q)))
    rw [this]; rfl)
  omega
section ALC
variable {S T : Nat} {μ α ρ : OM} {a : Nat → Int32}
theorem rqv_c (w : WL S T a) {i : Nat} (hi : i < S) (tk : Nat → Bool) : rqv tk a i = m1 ∨ ∃ t, t < T ∧ rqv tk a i = nI t ∧ tk t = false := by
  rcases fd_cases (ln a i) (fun k => !tk (a (25 + 13 * i + (5 + k))).toNatClampNeg) with ⟨k, h1, h2, h3, _⟩ | ⟨h1, _⟩
  · right
    obtain ⟨t, ht, e⟩ := w.2.2.1 i k hi h1
    have t8 := w.1.2
    rw [rqv, fvr_at (k := k) (Nat.zero_le _) (by omega) h2 (fun j _ hj => h3 j hj)]
    refine ⟨t, ht, e, ?_⟩
    rw [e, nI_clamp (by omega)] at h2
    simpa using h2
  · left
    rw [rqv, fvr_none (fun k _ hk => h1 k (by omega))]
theorem s_avail (h : MR S T μ a) (w : WL S T a) {i : Nat} (hi : i < S) {tk : Nat → Bool} (ht : ∀ t, t < T → α.1 3 t = tv (tk t)) : f_X1_firstAvailable (nI i) μ α = some (rqv tk a i) := by
  have h8 := w.1.1
  have t8 := w.1.2
  have hl := w.2.1 i hi
  unfold f_X1_firstAvailable
  rw [q_l0]
  refine lp_fv (F := f_X1_firstAvailable_2 (nI i) μ α) (fun k => !tk (a (25 + 13 * i + (5 + k))).toNatClampNeg) (fun k => a (25 + 13 * i + (5 + k))) (ln a i) (fun n k hk => ?_) (fun n => ?_) (fu_lt (show ln a i < 2000 by omega))
  · obtain ⟨t, htT, e⟩ := w.2.2.1 i k hi hk
    have hw := s_wish h w hi hk
    rw [e] at hw
    rw [e, nI_clamp (by omega)]
    simp (maxSteps := 2000000) (disch := first | rfl | exact q_e1 _ _ _ | exact q_sr1 _ _ | omega) only [f_X1_firstAvailable_2, s_wishesOf h h8 hi, hl.2, hw, ht t htT, ↓q_m1, q_l0, q_l1, q_l2, q_l3, q_l4, q_l5, q_l6, q_l7, q_l8, q_l9, q_l10, q_l11, q_l12, q_l13, q_l14, q_l15, q_l16, q_l17, q_l18, q_l19, q_l20, q_l21, q_l22, q_l23, q_l24, q_l25, q_l26, q_l27, q_l28, q_l29, q_l30, q_l31, q_l32, q_l33, q_l45, q_l46, q_l48, q_l57, q_l58, q_l59, q_l60, q_l61, q_l62, q_l63, q_l64, q_l96, q_l97, q_l99, q_l122, q_l129, q_l137, q_l255, q_l256, q_l400, q_l680, q_l700, q_l959, q_l999, q_l9999, q_l10000, q_l100000, q_ltT, q_ltF, q_leT, q_leF, q_eqF, q_eqR, q_mlt, q_mle, q_nlm, q_nLm, q_nem, q_men, q_mlm, Nat.add_zero, Nat.sub_zero, q_add0, pk_rem, nI_add, pk_mul, q_sub, q_subm, q_addm, nI_clamp, q_inT, q_inF, q_sr1, q_srn, q_srw, q_srs, q_wIs, q_wIn, q_wI2, q_wJ1, q_wJs, q_wJn, q_wR1, q_wRs, q_wRn, q_wI22, q_wJ22, pk_us, pk_un, pk_uLs, pk_uLn, q_usS, q_usN, q_ups, q_upn, Bool.true_eq_false, Bool.false_eq_true, q_lt, q_o2, q_o3, q_o4, q_o5, q_bi, ↓reduceIte, q_tv0, q_tv1, q_bz, q_oRl, q_oRr, q_oXl, q_oXr]
    cases tk t <;> rfl
  · simp (maxSteps := 2000000) (disch := first | rfl | exact q_e1 _ _ _ | exact q_sr1 _ _ | omega) only [f_X1_firstAvailable_2, s_wishesOf h h8 hi, hl.2, ↓q_m1, q_l0, q_l1, q_l2, q_l3, q_l4, q_l5, q_l6, q_l7, q_l8, q_l9, q_l10, q_l11, q_l12, q_l13, q_l14, q_l15, q_l16, q_l17, q_l18, q_l19, q_l20, q_l21, q_l22, q_l23, q_l24, q_l25, q_l26, q_l27, q_l28, q_l29, q_l30, q_l31, q_l32, q_l33, q_l45, q_l46, q_l48, q_l57, q_l58, q_l59, q_l60, q_l61, q_l62, q_l63, q_l64, q_l96, q_l97, q_l99, q_l122, q_l129, q_l137, q_l255, q_l256, q_l400, q_l680, q_l700, q_l959, q_l999, q_l9999, q_l10000, q_l100000, q_ltT, q_ltF, q_leT, q_leF, q_eqF, q_eqR, q_mlt, q_mle, q_nlm, q_nLm, q_nem, q_men, q_mlm, Nat.add_zero, Nat.sub_zero, q_add0, pk_rem, nI_add, pk_mul, q_sub, q_subm, q_addm, nI_clamp, q_inT, q_inF, q_sr1, q_srn, q_srw, q_srs, q_wIs, q_wIn, q_wI2, q_wJ1, q_wJs, q_wJn, q_wR1, q_wRs, q_wRn, q_wI22, q_wJ22, pk_us, pk_un, pk_uLs, pk_uLn, q_usS, q_usN, q_ups, q_upn, Bool.true_eq_false, Bool.false_eq_true, q_lt, q_o2, q_o3, q_o4, q_o5, q_bi, ↓reduceIte, q_tv0, q_tv1, q_bz, q_oRl, q_oRr, q_oXl, q_oXr]
theorem r_req (w : WL S T a) {i : Nat} (hi : i < S) {tk : Nat → Bool} (ht : ∀ t, t < T → ρ.1 12 t = tv (tk t)) (e1 : ρ.1 1 = a) : f_X13_request (nI i) ρ = some (rqv tk a i) := by
  have h8 := w.1.1
  have t8 := w.1.2
  have hl := w.2.1 i hi
  unfold f_X13_request
  rw [q_l0]
  have hoL := r_of a e1 (show i < 8 by omega) (show 4 < 13 by omega)
  rw [hl.2] at hoL
  refine lp_fv (F := f_X13_request_2 (nI i) ρ) (fun k => !tk (a (25 + 13 * i + (5 + k))).toNatClampNeg) (fun k => a (25 + 13 * i + (5 + k))) (ln a i) (fun n k hk => ?_) (fun n => ?_) (fu_lt (show ln a i < 2000 by omega))
  · obtain ⟨t, htT, e⟩ := w.2.2.1 i k hi hk
    have hoK := r_of a e1 (show i < 8 by omega) (show 5 + k < 13 by omega)
    rw [e] at hoK
    rw [e, nI_clamp (by omega)]
    simp (maxSteps := 2000000) (disch := first | rfl | exact q_e1 _ _ _ | exact q_sr1 _ _ | omega) only [f_X13_request_2, hoL, hoK, ht t htT, ↓q_m1, q_l0, q_l1, q_l2, q_l3, q_l4, q_l5, q_l6, q_l7, q_l8, q_l9, q_l10, q_l11, q_l12, q_l13, q_l14, q_l15, q_l16, q_l17, q_l18, q_l19, q_l20, q_l21, q_l22, q_l23, q_l24, q_l25, q_l26, q_l27, q_l28, q_l29, q_l30, q_l31, q_l32, q_l33, q_l45, q_l46, q_l48, q_l57, q_l58, q_l59, q_l60, q_l61, q_l62, q_l63, q_l64, q_l96, q_l97, q_l99, q_l122, q_l129, q_l137, q_l255, q_l256, q_l400, q_l680, q_l700, q_l959, q_l999, q_l9999, q_l10000, q_l100000, q_ltT, q_ltF, q_leT, q_leF, q_eqF, q_eqR, q_mlt, q_mle, q_nlm, q_nLm, q_nem, q_men, q_mlm, Nat.add_zero, Nat.sub_zero, q_add0, pk_rem, nI_add, pk_mul, q_sub, q_subm, q_addm, nI_clamp, q_inT, q_inF, q_sr1, q_srn, q_srw, q_srs, q_wIs, q_wIn, q_wI2, q_wJ1, q_wJs, q_wJn, q_wR1, q_wRs, q_wRn, q_wI22, q_wJ22, pk_us, pk_un, pk_uLs, pk_uLn, q_usS, q_usN, q_ups, q_upn, Bool.true_eq_false, Bool.false_eq_true, q_lt, q_o2, q_o3, q_o4, q_o5, q_bi, ↓reduceIte, q_tv0, q_tv1, q_bz, q_oRl, q_oRr, q_oXl, q_oXr]
    cases tk t <;> rfl
  · simp (maxSteps := 2000000) (disch := first | rfl | exact q_e1 _ _ _ | exact q_sr1 _ _ | omega) only [f_X13_request_2, hoL, ↓q_m1, q_l0, q_l1, q_l2, q_l3, q_l4, q_l5, q_l6, q_l7, q_l8, q_l9, q_l10, q_l11, q_l12, q_l13, q_l14, q_l15, q_l16, q_l17, q_l18, q_l19, q_l20, q_l21, q_l22, q_l23, q_l24, q_l25, q_l26, q_l27, q_l28, q_l29, q_l30, q_l31, q_l32, q_l33, q_l45, q_l46, q_l48, q_l57, q_l58, q_l59, q_l60, q_l61, q_l62, q_l63, q_l64, q_l96, q_l97, q_l99, q_l122, q_l129, q_l137, q_l255, q_l256, q_l400, q_l680, q_l700, q_l959, q_l999, q_l9999, q_l10000, q_l100000, q_ltT, q_ltF, q_leT, q_leF, q_eqF, q_eqR, q_mlt, q_mle, q_nlm, q_nLm, q_nem, q_men, q_mlm, Nat.add_zero, Nat.sub_zero, q_add0, pk_rem, nI_add, pk_mul, q_sub, q_subm, q_addm, nI_clamp, q_inT, q_inF, q_sr1, q_srn, q_srw, q_srs, q_wIs, q_wIn, q_wI2, q_wJ1, q_wJs, q_wJn, q_wR1, q_wRs, q_wRn, q_wI22, q_wJ22, pk_us, pk_un, pk_uLs, pk_uLn, q_usS, q_usN, q_ups, q_upn, Bool.true_eq_false, Bool.false_eq_true, q_lt, q_o2, q_o3, q_o4, q_o5, q_bi, ↓reduceIte, q_tv0, q_tv1, q_bz, q_oRl, q_oRr, q_oXl, q_oXr]
/-- the class finishes the chain from a place on -/
theorem s_fin (h8 : S ≤ 8) (t8 : T ≤ 8) {fin tk : Nat → Bool} {ch : Nat → Nat} {p c : Nat} (hp : p ≤ c) (hc : c ≤ 8) (hn : α.1 0 4 = nI c) (hch : ∀ k, k < c → ch k < S ∧ α.1 4 k = nI (ch k)) (hr : ∀ k, k < c → α.1 1 (ch k) = m1 ∨ ∃ t, t < T ∧ α.1 1 (ch k) = nI t) (hf : ∀ i, i < S → α.1 2 i = tv (fin i)) (ht : ∀ t, t < T → α.1 3 t = tv (tk t)) : ∃ α', f_X1_finishFrom (nI p) α = some α' ∧ α'.1 0 4 = nI p ∧ (∀ k, k ≠ 0 → k ≠ 2 → k ≠ 3 → α'.1 k = α.1 k) ∧ (∀ i, i < S → α'.1 2 i = tv (finN fin ch p (c - p) i)) ∧ ∀ t, t < T → α'.1 3 t = tv (tkN tk (fun k => α.1 1 (ch k)) p (c - p) t) := by
  unfold f_X1_finishFrom
  refine lp_inv (F := f_X1_finishFrom_2 (nI p)) (i0 := p) (s := α) (fun (x : Nat) (s : OM) => p ≤ x ∧ (∀ k, k ≠ 2 → k ≠ 3 → s.1 k = α.1 k) ∧ (∀ i, i < S → s.1 2 i = tv (finN fin ch p (x - p) i)) ∧ ∀ t, t < T → s.1 3 t = tv (tkN tk (fun k => α.1 1 (ch k)) p (x - p) t)) _ c (fun n x s hx hh => ?_) (fun n s hh => ?_) (fu_lt (show c < 2000 by omega)) ⟨Nat.le_refl _, fun _ _ _ => rfl, fun i hi => by rw [Nat.sub_self, finN]; exact hf i hi, fun t htt => by rw [Nat.sub_self, tkN]; exact ht t htt⟩
  · obtain ⟨g0, g1, g2, g3⟩ := hh
    obtain ⟨k1, k2⟩ := hch x hx
    have e04 : s.1 0 4 = nI c := (congrFun (g1 0 (by omega) (by omega)) 4).trans hn
    have e4 : s.1 4 x = nI (ch x) := (congrFun (g1 4 (by omega) (by omega)) x).trans k2
    have e1 : s.1 1 (ch x) = α.1 1 (ch x) := congrFun (g1 1 (by omega) (by omega)) _
    have ex : x + 1 - p = (x - p) + 1 := by omega
    have ex2 : p + (x - p) = x := by omega
    have hfin : ∀ s' : OM, s'.1 2 = upd (s.1 2) (ch x) (nI 1) → ∀ i, i < S → s'.1 2 i = tv (finN fin ch p (x + 1 - p) i) := fun s' es i hi => by
      rw [es, ex, finN, ex2]
      by_cases e : i = ch x
      · subst e; rw [pk_us, decide_eq_true rfl, Bool.or_true]; rfl
      · rw [pk_un e, g2 i hi, decide_eq_false (fun q => e q.symm), Bool.or_false]
    rcases hr x hx with e | ⟨t0, ht0, e⟩
    · refine ⟨wI s 2 (ch x) (nI 1), ⟨by omega, fun k h1 h2 => (q_wIn h1).trans (g1 k h1 h2), hfin _ (q_wIs _ _ _ _), fun t htt => ?_⟩, by simp (maxSteps := 2000000) (disch := first | rfl | exact q_e1 _ _ _ | exact q_sr1 _ _ | omega) only [f_X1_finishFrom_2, ↓q_m1, q_l0, q_l1, q_l2, q_l3, q_l4, q_l5, q_l6, q_l7, q_l8, q_l9, q_l10, q_l11, q_l12, q_l13, q_l14, q_l15, q_l16, q_l17, q_l18, q_l19, q_l20, q_l21, q_l22, q_l23, q_l24, q_l25, q_l26, q_l27, q_l28, q_l29, q_l30, q_l31, q_l32, q_l33, q_l45, q_l46, q_l48, q_l57, q_l58, q_l59, q_l60, q_l61, q_l62, q_l63, q_l64, q_l96, q_l97, q_l99, q_l122, q_l129, q_l137, q_l255, q_l256, q_l400, q_l680, q_l700, q_l959, q_l999, q_l9999, q_l10000, q_l100000, q_ltT, q_ltF, q_leT, q_leF, q_eqF, q_eqR, q_mlt, q_mle, q_nlm, q_nLm, q_nem, q_men, q_mlm, Nat.add_zero, Nat.sub_zero, q_add0, pk_rem, nI_add, pk_mul, q_sub, q_subm, q_addm, nI_clamp, q_inT, q_inF, q_sr1, q_srn, q_srw, q_srs, q_wIs, q_wIn, q_wI2, q_wJ1, q_wJs, q_wJn, q_wR1, q_wRs, q_wRn, q_wI22, q_wJ22, pk_us, pk_un, pk_uLs, pk_uLn, q_usS, q_usN, q_ups, q_upn, Bool.true_eq_false, Bool.false_eq_true, q_lt, q_o2, q_o3, q_o4, q_o5, q_bi, ↓reduceIte, q_tv0, q_tv1, q_bz, q_oRl, q_oRr, q_oXl, q_oXr, e04, e4, e1, e]⟩
      rw [q_wIn (by omega), g3 t htt, ex, tkN, ex2]
      rw [e, decide_eq_false (fun q => (q_men (show t < 2 ^ 31 by omega)).mp q), Bool.or_false]
    · refine ⟨wI (wI s 2 (ch x) (nI 1)) 3 t0 (nI 1), ⟨by omega, fun k h1 h2 => (q_wIn h2).trans ((q_wIn h1).trans (g1 k h1 h2)), hfin _ ((q_wIn (by omega)).trans (q_wIs _ _ _ _)), fun t htt => ?_⟩, by simp (maxSteps := 2000000) (disch := first | rfl | exact q_e1 _ _ _ | exact q_sr1 _ _ | omega) only [f_X1_finishFrom_2, ↓q_m1, q_l0, q_l1, q_l2, q_l3, q_l4, q_l5, q_l6, q_l7, q_l8, q_l9, q_l10, q_l11, q_l12, q_l13, q_l14, q_l15, q_l16, q_l17, q_l18, q_l19, q_l20, q_l21, q_l22, q_l23, q_l24, q_l25, q_l26, q_l27, q_l28, q_l29, q_l30, q_l31, q_l32, q_l33, q_l45, q_l46, q_l48, q_l57, q_l58, q_l59, q_l60, q_l61, q_l62, q_l63, q_l64, q_l96, q_l97, q_l99, q_l122, q_l129, q_l137, q_l255, q_l256, q_l400, q_l680, q_l700, q_l959, q_l999, q_l9999, q_l10000, q_l100000, q_ltT, q_ltF, q_leT, q_leF, q_eqF, q_eqR, q_mlt, q_mle, q_nlm, q_nLm, q_nem, q_men, q_mlm, Nat.add_zero, Nat.sub_zero, q_add0, pk_rem, nI_add, pk_mul, q_sub, q_subm, q_addm, nI_clamp, q_inT, q_inF, q_sr1, q_srn, q_srw, q_srs, q_wIs, q_wIn, q_wI2, q_wJ1, q_wJs, q_wJn, q_wR1, q_wRs, q_wRn, q_wI22, q_wJ22, pk_us, pk_un, pk_uLs, pk_uLn, q_usS, q_usN, q_ups, q_upn, Bool.true_eq_false, Bool.false_eq_true, q_lt, q_o2, q_o3, q_o4, q_o5, q_bi, ↓reduceIte, q_tv0, q_tv1, q_bz, q_oRl, q_oRr, q_oXl, q_oXr, e04, e4, e1, e]⟩
      rw [q_wIs, q_wIn (by omega), ex, tkN, ex2]
      rw [e]
      by_cases et : t = t0
      · subst et; rw [pk_us, decide_eq_true rfl, Bool.or_true]; rfl
      · rw [pk_un et, g3 t htt, decide_eq_false (fun q => et ((nI_eq (by omega) (by omega)).mp q).symm), Bool.or_false]
  · obtain ⟨g0, g1, g2, g3⟩ := hh
    have e04 : s.1 0 4 = nI c := (congrFun (g1 0 (by omega) (by omega)) 4).trans hn
    refine ⟨wI s 0 4 (nI p), by simp (maxSteps := 2000000) (disch := first | rfl | exact q_e1 _ _ _ | exact q_sr1 _ _ | omega) only [f_X1_finishFrom_2, ↓q_m1, q_l0, q_l1, q_l2, q_l3, q_l4, q_l5, q_l6, q_l7, q_l8, q_l9, q_l10, q_l11, q_l12, q_l13, q_l14, q_l15, q_l16, q_l17, q_l18, q_l19, q_l20, q_l21, q_l22, q_l23, q_l24, q_l25, q_l26, q_l27, q_l28, q_l29, q_l30, q_l31, q_l32, q_l33, q_l45, q_l46, q_l48, q_l57, q_l58, q_l59, q_l60, q_l61, q_l62, q_l63, q_l64, q_l96, q_l97, q_l99, q_l122, q_l129, q_l137, q_l255, q_l256, q_l400, q_l680, q_l700, q_l959, q_l999, q_l9999, q_l10000, q_l100000, q_ltT, q_ltF, q_leT, q_leF, q_eqF, q_eqR, q_mlt, q_mle, q_nlm, q_nLm, q_nem, q_men, q_mlm, Nat.add_zero, Nat.sub_zero, q_add0, pk_rem, nI_add, pk_mul, q_sub, q_subm, q_addm, nI_clamp, q_inT, q_inF, q_sr1, q_srn, q_srw, q_srs, q_wIs, q_wIn, q_wI2, q_wJ1, q_wJs, q_wJn, q_wR1, q_wRs, q_wRn, q_wI22, q_wJ22, pk_us, pk_un, pk_uLs, pk_uLn, q_usS, q_usN, q_ups, q_upn, Bool.true_eq_false, Bool.false_eq_true, q_lt, q_o2, q_o3, q_o4, q_o5, q_bi, ↓reduceIte, q_tv0, q_tv1, q_bz, q_oRl, q_oRr, q_oXl, q_oXr, e04], by simp (maxSteps := 2000000) (disch := first | rfl | exact q_e1 _ _ _ | exact q_sr1 _ _ | omega) only [q_sr1, q_srn, q_srw, q_srs, q_wIs, q_wIn, q_wI2, q_wJ1, q_wJs, q_wJn, q_wR1, q_wRs, q_wRn, q_wI22, q_wJ22, pk_us, pk_un, pk_uLs, pk_uLn, q_usS, q_usN, q_ups, q_upn], fun k h0 h1 h2 => (q_wIn h0).trans (g1 k h1 h2), fun i hi => ?_, fun t htt => ?_⟩
    · rw [q_wIn (by omega)]; exact g2 i hi
    · rw [q_wIn (by omega)]; exact g3 t htt
theorem r_fin1 {i : Nat} (hi : i < 8) {v : Int32} (hv : v = m1 ∨ ∃ t, t < 8 ∧ v = nI t) : f_X13_finishes (nI i) v ρ = some (if v = m1 then wI (wI ρ 10 i v) 11 i (nI 1) else wI (wI (wI ρ 10 i v) 11 i (nI 1)) 12 v.toNatClampNeg (nI 1)) := by
  rcases hv with rfl | ⟨t, ht, rfl⟩
  · rw [if_pos rfl]
    simp (maxSteps := 2000000) (disch := first | rfl | exact q_e1 _ _ _ | exact q_sr1 _ _ | omega) only [f_X13_finishes, ↓q_m1, q_l0, q_l1, q_l2, q_l3, q_l4, q_l5, q_l6, q_l7, q_l8, q_l9, q_l10, q_l11, q_l12, q_l13, q_l14, q_l15, q_l16, q_l17, q_l18, q_l19, q_l20, q_l21, q_l22, q_l23, q_l24, q_l25, q_l26, q_l27, q_l28, q_l29, q_l30, q_l31, q_l32, q_l33, q_l45, q_l46, q_l48, q_l57, q_l58, q_l59, q_l60, q_l61, q_l62, q_l63, q_l64, q_l96, q_l97, q_l99, q_l122, q_l129, q_l137, q_l255, q_l256, q_l400, q_l680, q_l700, q_l959, q_l999, q_l9999, q_l10000, q_l100000, q_ltT, q_ltF, q_leT, q_leF, q_eqF, q_eqR, q_mlt, q_mle, q_nlm, q_nLm, q_nem, q_men, q_mlm, Nat.add_zero, Nat.sub_zero, q_add0, pk_rem, nI_add, pk_mul, q_sub, q_subm, q_addm, nI_clamp, q_inT, q_inF, q_sr1, q_srn, q_srw, q_srs, q_wIs, q_wIn, q_wI2, q_wJ1, q_wJs, q_wJn, q_wR1, q_wRs, q_wRn, q_wI22, q_wJ22, pk_us, pk_un, pk_uLs, pk_uLn, q_usS, q_usN, q_ups, q_upn, Bool.true_eq_false, Bool.false_eq_true, q_lt, q_o2, q_o3, q_o4, q_o5, q_bi, ↓reduceIte, q_tv0, q_tv1, q_bz, q_oRl, q_oRr, q_oXl, q_oXr]
  · rw [if_neg (fun q => (q_nem (show t < 2 ^ 31 by omega)).mp q)]
    simp (maxSteps := 2000000) (disch := first | rfl | exact q_e1 _ _ _ | exact q_sr1 _ _ | omega) only [f_X13_finishes, ↓q_m1, q_l0, q_l1, q_l2, q_l3, q_l4, q_l5, q_l6, q_l7, q_l8, q_l9, q_l10, q_l11, q_l12, q_l13, q_l14, q_l15, q_l16, q_l17, q_l18, q_l19, q_l20, q_l21, q_l22, q_l23, q_l24, q_l25, q_l26, q_l27, q_l28, q_l29, q_l30, q_l31, q_l32, q_l33, q_l45, q_l46, q_l48, q_l57, q_l58, q_l59, q_l60, q_l61, q_l62, q_l63, q_l64, q_l96, q_l97, q_l99, q_l122, q_l129, q_l137, q_l255, q_l256, q_l400, q_l680, q_l700, q_l959, q_l999, q_l9999, q_l10000, q_l100000, q_ltT, q_ltF, q_leT, q_leF, q_eqF, q_eqR, q_mlt, q_mle, q_nlm, q_nLm, q_nem, q_men, q_mlm, Nat.add_zero, Nat.sub_zero, q_add0, pk_rem, nI_add, pk_mul, q_sub, q_subm, q_addm, nI_clamp, q_inT, q_inF, q_sr1, q_srn, q_srw, q_srs, q_wIs, q_wIn, q_wI2, q_wJ1, q_wJs, q_wJn, q_wR1, q_wRs, q_wRn, q_wI22, q_wJ22, pk_us, pk_un, pk_uLs, pk_uLn, q_usS, q_usN, q_ups, q_upn, Bool.true_eq_false, Bool.false_eq_true, q_lt, q_o2, q_o3, q_o4, q_o5, q_bi, ↓reduceIte, q_tv0, q_tv1, q_bz, q_oRl, q_oRr, q_oXl, q_oXr]
/-- what finishing leaves in the reference -/
def RF (S T : Nat) (ρ ρ' : OM) (fin tk : Nat → Bool) (ch : Nat → Nat) (rq : Nat → Int32) (p n : Nat) : Prop :=
  (∀ k, k ≠ 0 → k ≠ 10 → k ≠ 11 → k ≠ 12 → ρ'.1 k = ρ.1 k) ∧ (∀ i, i < S → ρ'.1 11 i = tv (finN fin ch p n i)) ∧ (∀ t, t < T → ρ'.1 12 t = tv (tkN tk rq p n t)) ∧
  (∀ j, j < n → ρ'.1 10 (ch (p + j)) = rq (p + j)) ∧ ∀ i, (∀ j, j < n → ch (p + j) ≠ i) → ρ'.1 10 i = ρ.1 10 i
theorem RF.step (h8 : S ≤ 8) (t8 : T ≤ 8) {ρ s : OM} {fin tk : Nat → Bool} {ch : Nat → Nat} {rq : Nat → Int32} {p n : Nat} (h : RF S T ρ s fin tk ch rq p n) (h0 : s.1 0 = ρ.1 0) (hd : ∀ j, j < n → ch (p + j) ≠ ch (p + n)) (hc : ch (p + n) < S) (hv : rq (p + n) = m1 ∨ ∃ t, t < T ∧ rq (p + n) = nI t) : ∃ s', f_X13_finishes (nI (ch (p + n))) (rq (p + n)) s = some s' ∧ RF S T ρ s' fin tk ch rq p (n + 1) ∧ s'.1 0 = ρ.1 0 := by
  obtain ⟨g1, g2, g3, g4, g5⟩ := h
  have hfin : ∀ s' : OM, s'.1 11 = upd (s.1 11) (ch (p + n)) (nI 1) → ∀ i, i < S → s'.1 11 i = tv (finN fin ch p (n + 1) i) := fun s' es i hi => by
    rw [es, finN]
    by_cases e : i = ch (p + n)
    · subst e; rw [pk_us, decide_eq_true rfl, Bool.or_true]; rfl
    · rw [pk_un e, g2 i hi, decide_eq_false (fun q => e q.symm), Bool.or_false]
  have h4 : ∀ s' : OM, s'.1 10 = upd (s.1 10) (ch (p + n)) (rq (p + n)) → (∀ j, j < n + 1 → s'.1 10 (ch (p + j)) = rq (p + j)) ∧ ∀ i, (∀ j, j < n + 1 → ch (p + j) ≠ i) → s'.1 10 i = ρ.1 10 i := fun s' es => by
    refine ⟨fun j hj => ?_, fun i hi => ?_⟩
    · rw [es]
      by_cases e : j = n
      · subst e; exact pk_us
      · rw [pk_un (hd j (by omega))]; exact g4 j (by omega)
    · rw [es, pk_un (fun q => hi n (by omega) q.symm)]; exact g5 i (fun j hj => hi j (by omega))
  rcases hv with e | ⟨t0, ht0, e⟩
  · refine ⟨_, r_fin1 (by omega) (Or.inl e), ?_⟩
    rw [if_pos e]
    refine ⟨⟨fun k k0 k10 k11 k12 => (q_wIn k11).trans ((q_wIn k10).trans (g1 k k0 k10 k11 k12)), hfin _ (by rw [q_wIs, q_wIn (by omega)]), fun t htt => ?_, h4 _ (by rw [q_wIn (by omega), q_wIs])⟩, by rw [q_wIn (by omega), q_wIn (by omega)]; exact h0⟩
    rw [q_wIn (by omega), q_wIn (by omega), g3 t htt, tkN, e, decide_eq_false (fun q => (q_men (show t < 2 ^ 31 by omega)).mp q), Bool.or_false]
  · refine ⟨_, r_fin1 (by omega) (Or.inr ⟨t0, by omega, e⟩), ?_⟩
    rw [e, if_neg (fun q => (q_nem (show t0 < 2 ^ 31 by omega)).mp q), nI_clamp (by omega), ← e]
    refine ⟨⟨fun k k0 k10 k11 k12 => (q_wIn k12).trans ((q_wIn k11).trans ((q_wIn k10).trans (g1 k k0 k10 k11 k12))), hfin _ (by rw [q_wIn (by omega), q_wIs, q_wIn (by omega)]), fun t htt => ?_, h4 _ (by rw [q_wIn (by omega), q_wIn (by omega), q_wIs])⟩, by rw [q_wIn (by omega), q_wIn (by omega), q_wIn (by omega)]; exact h0⟩
    rw [q_wIs, q_wIn (by omega), q_wIn (by omega), tkN, e]
    by_cases et : t = t0
    · subst et; rw [pk_us, decide_eq_true rfl, Bool.or_true]; rfl
    · rw [pk_un et, g3 t htt, decide_eq_false (fun q => et ((nI_eq (by omega) (by omega)).mp q).symm), Bool.or_false]
theorem r_fin (h8 : S ≤ 8) (t8 : T ≤ 8) {fin tk : Nat → Bool} {ch : Nat → Nat} {rq : Nat → Int32} {p c : Nat} (hp : p ≤ c) (hc : c ≤ 8) (hn : ρ.1 0 19 = nI c) (hch : ∀ k, k < c → ch k < S ∧ ρ.1 8 k = nI (ch k)) (hd : ∀ k k', k < c → k' < c → ch k = ch k' → k = k') (hq : ∀ k, p ≤ k → k < c → ρ.1 9 (ch k) = rq k) (hr : ∀ k, k < c → rq k = m1 ∨ ∃ t, t < T ∧ rq k = nI t) (hf : ∀ i, i < S → ρ.1 11 i = tv (fin i)) (ht : ∀ t, t < T → ρ.1 12 t = tv (tk t)) : ∃ ρ', f_X13_steps_99 (nI p) FU (nI p) ρ = some ρ' ∧ RF S T ρ ρ' fin tk ch rq p (c - p) ∧ ρ'.1 0 = upd (ρ.1 0) 19 (nI p) := by
  refine lp_inv (F := f_X13_steps_99 (nI p)) (i0 := p) (s := ρ) (fun (x : Nat) (s : OM) => p ≤ x ∧ RF S T ρ s fin tk ch rq p (x - p) ∧ s.1 0 = ρ.1 0) _ c (fun n x s hx hh => ?_) (fun n s hh => ?_) (fu_lt (show c < 2000 by omega)) ⟨Nat.le_refl _, ⟨fun _ _ _ _ _ => rfl, fun i hi => by rw [Nat.sub_self, finN]; exact hf i hi, fun t htt => by rw [Nat.sub_self, tkN]; exact ht t htt, fun j hj => by omega, fun _ _ => rfl⟩, rfl⟩
  · obtain ⟨g0, g1, g2⟩ := hh
    obtain ⟨k1, k2⟩ := hch x hx
    have ex : x + 1 - p = (x - p) + 1 := by omega
    have ex2 : p + (x - p) = x := by omega
    have e8 : s.1 8 x = nI (ch x) := (congrFun (g1.1 8 (by omega) (by omega) (by omega) (by omega)) x).trans k2
    have e9 : s.1 9 (ch x) = rq x := (congrFun (g1.1 9 (by omega) (by omega) (by omega) (by omega)) _).trans (hq x g0 hx)
    have e19 : s.1 0 19 = nI c := by rw [g2]; exact hn
    obtain ⟨s', f1, f2, f3⟩ := g1.step h8 t8 g2 (fun j hj q => by
      have := hd (p + j) (p + (x - p)) (by omega) (by omega) q
      omega) (by rw [ex2]; exact k1) (by rw [ex2]; exact hr x hx)
    rw [ex2] at f1
    refine ⟨s', ⟨by omega, by rw [ex]; exact f2, f3⟩, by simp (maxSteps := 2000000) (disch := first | rfl | exact q_e1 _ _ _ | exact q_sr1 _ _ | omega) only [f_X13_steps_99, ↓q_m1, q_l0, q_l1, q_l2, q_l3, q_l4, q_l5, q_l6, q_l7, q_l8, q_l9, q_l10, q_l11, q_l12, q_l13, q_l14, q_l15, q_l16, q_l17, q_l18, q_l19, q_l20, q_l21, q_l22, q_l23, q_l24, q_l25, q_l26, q_l27, q_l28, q_l29, q_l30, q_l31, q_l32, q_l33, q_l45, q_l46, q_l48, q_l57, q_l58, q_l59, q_l60, q_l61, q_l62, q_l63, q_l64, q_l96, q_l97, q_l99, q_l122, q_l129, q_l137, q_l255, q_l256, q_l400, q_l680, q_l700, q_l959, q_l999, q_l9999, q_l10000, q_l100000, q_ltT, q_ltF, q_leT, q_leF, q_eqF, q_eqR, q_mlt, q_mle, q_nlm, q_nLm, q_nem, q_men, q_mlm, Nat.add_zero, Nat.sub_zero, q_add0, pk_rem, nI_add, pk_mul, q_sub, q_subm, q_addm, nI_clamp, q_inT, q_inF, q_sr1, q_srn, q_srw, q_srs, q_wIs, q_wIn, q_wI2, q_wJ1, q_wJs, q_wJn, q_wR1, q_wRs, q_wRn, q_wI22, q_wJ22, pk_us, pk_un, pk_uLs, pk_uLn, q_usS, q_usN, q_ups, q_upn, Bool.true_eq_false, Bool.false_eq_true, q_lt, q_o2, q_o3, q_o4, q_o5, q_bi, ↓reduceIte, q_tv0, q_tv1, q_bz, q_oRl, q_oRr, q_oXl, q_oXr, e19, e8, e9, f1]⟩
  · obtain ⟨g0, g1, g2⟩ := hh
    have e19 : s.1 0 19 = nI c := by rw [g2]; exact hn
    obtain ⟨q1, q2, q3, q4, q5⟩ := g1
    exact ⟨wI s 0 19 (nI p), by simp (maxSteps := 2000000) (disch := first | rfl | exact q_e1 _ _ _ | exact q_sr1 _ _ | omega) only [f_X13_steps_99, ↓q_m1, q_l0, q_l1, q_l2, q_l3, q_l4, q_l5, q_l6, q_l7, q_l8, q_l9, q_l10, q_l11, q_l12, q_l13, q_l14, q_l15, q_l16, q_l17, q_l18, q_l19, q_l20, q_l21, q_l22, q_l23, q_l24, q_l25, q_l26, q_l27, q_l28, q_l29, q_l30, q_l31, q_l32, q_l33, q_l45, q_l46, q_l48, q_l57, q_l58, q_l59, q_l60, q_l61, q_l62, q_l63, q_l64, q_l96, q_l97, q_l99, q_l122, q_l129, q_l137, q_l255, q_l256, q_l400, q_l680, q_l700, q_l959, q_l999, q_l9999, q_l10000, q_l100000, q_ltT, q_ltF, q_leT, q_leF, q_eqF, q_eqR, q_mlt, q_mle, q_nlm, q_nLm, q_nem, q_men, q_mlm, Nat.add_zero, Nat.sub_zero, q_add0, pk_rem, nI_add, pk_mul, q_sub, q_subm, q_addm, nI_clamp, q_inT, q_inF, q_sr1, q_srn, q_srw, q_srs, q_wIs, q_wIn, q_wI2, q_wJ1, q_wJs, q_wJn, q_wR1, q_wRs, q_wRn, q_wI22, q_wJ22, pk_us, pk_un, pk_uLs, pk_uLn, q_usS, q_usN, q_ups, q_upn, Bool.true_eq_false, Bool.false_eq_true, q_lt, q_o2, q_o3, q_o4, q_o5, q_bi, ↓reduceIte, q_tv0, q_tv1, q_bz, q_oRl, q_oRr, q_oXl, q_oXr, e19], ⟨fun k k0 k10 k11 k12 => (q_wIn k0).trans (q1 k k0 k10 k11 k12), fun i hi => (congrFun (q_wIn (by omega)) i).trans (q2 i hi), fun t htt => (congrFun (q_wIn (by omega)) t).trans (q3 t htt), fun j hj => (congrFun (q_wIn (by omega)) _).trans (q4 j hj), fun i hi => (congrFun (q_wIn (by omega)) i).trans (q5 i hi)⟩, by rw [q_wIs, g2]⟩
end ALC

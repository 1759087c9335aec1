/-! what Own does, and what the class answers -/
theorem draw_ok {m : Nat} (hm : 1 ≤ m) (hm' : m < 2 ^ 31) (ρ : OM) : ∃ r v, r < m ∧ f_X13_draw (nI m) ρ = some (nI r, wI ρ 0 12 v) := by
  have hz : ∀ x : Int32, ∃ k, k < 2 ^ 16 ∧ (x.toUInt32 >>> (Int32.toUInt32 16 &&& Int32.toUInt32 31)).toInt32 = nI k := fun x => by
    have h1 := pk_ushr x 16 16 (by decide)
    have hb := x.toBitVec.isLt
    refine ⟨x.toBitVec.toNat / 2 ^ 16, by omega, ?_⟩
    apply Int32.toBitVec_inj.mp
    apply BitVec.eq_of_toNat_eq
    rw [h1, pk_tn (by omega)]
  obtain ⟨k, hk, ek⟩ := hz ((wI ρ 0 12 (((ρ.1 0 12) * 1103515245) + 12345)).1 0 12)
  refine ⟨k % m, (((ρ.1 0 12) * 1103515245) + 12345), Nat.mod_lt _ (by omega), ?_⟩
  have h0 : ¬ nI m = nI 0 := fun e => by have := (nI_eq (by omega) (by omega)).mp e; omega
  rw [f_X13_draw, q_lt, q_l0, if_neg h0, ek, pk_rem (by omega) (by omega) hm']
def J (B S T d : Nat) (σ : SM) (a : Nat → Int32) : Prop := MX B S T (σ 0) a ∧ OW S T (σ 20) a ∧ HI σ ∧ LG S a ∧ a 2 = nI d ∧ 1 ≤ T
def AC (B S T d : Nat) (f : Option (Int32 × SM)) : Prop := ∃ τ a' d', f = some (nI 1, τ) ∧ J (B + 297) S T d' τ a' ∧ d' ≤ d + 3
section ACT
variable {B S T d : Nat} {ω : OM} {σ : SM} {a : Nat → Int32} {rq : Nat → Int32}
theorem OW.x12 (o : OW S T ω a) (v : Int32) : OW S T (wI ω 0 12 v) a := by
  obtain ⟨⟨o1, o2, o3⟩, o4, o5, o6, o7⟩ := o
  refine ⟨⟨?_, ?_, ?_⟩, fun i hi => ?_, fun i q hi hq => ?_, fun t ht => ?_, fun q hq => ?_⟩
  · rw [q_wIs, pk_un (by omega)]; exact o1
  · rw [q_wIs, pk_un (by omega)]; exact o2
  · rw [q_wIs, pk_un (by omega)]; exact o3
  · rw [q_wIn (by omega), q_wIn (by omega), q_wIn (by omega), q_wIn (by omega)]; exact o4 i hi
  · rw [q_wIn (by omega)]; exact o5 i q hi hq
  · rw [q_wIn (by omega)]; exact o6 t ht
  · rw [q_wIn (by omega)]; exact o7 q hq
/-- Own's places -/
theorem OW.plc (o : OW S T ω a) (w : WL S T a) {ω' : OM} {a' : Nat → Int32} (h1 : ∀ k, k ≠ 5 → ω'.1 k = ω.1 k) (h2 : ∀ x, x = 2 ∨ 8 < x → (∀ j, j < S → x ≠ 25 + 13 * j + 3) → a' x = a x) (h3 : ∀ j, j < S → ω'.1 5 j = a' (25 + 13 * j + 3)) : OW S T ω' a' := by
  obtain ⟨⟨o1, o2, o3⟩, o4, o5, o6, o7⟩ := o
  have h8 := w.1.1
  have t8 := w.1.2
  have el : ∀ j, j < S → ln a' j = ln a j := fun j hj => ln_eq (h2 _ (by omega) (fun i hi => by omega))
  refine ⟨⟨?_, ?_, ?_⟩, fun i hi => ?_, fun i q hi hq => ?_, fun t ht => ?_, fun q hq => ?_⟩
  · rw [h1 0 (by omega)]; exact o1
  · rw [h1 0 (by omega)]; exact o2
  · rw [h1 0 (by omega), h2 2 (by omega) (fun i hi => by omega)]; exact o3
  · rw [h1 3 (by omega), h1 4 (by omega), h1 6 (by omega), h2 (25 + 13 * i + 1) (by omega) (fun i hi => by omega), h2 (25 + 13 * i + 2) (by omega) (fun i hi => by omega), h2 (25 + 13 * i + 4) (by omega) (fun i hi => by omega)]
    obtain ⟨k1, k2, k3, k4⟩ := o4 i hi
    exact ⟨k1, k2, h3 i hi, k4⟩
  · rw [el i hi] at hq
    have := (w.2.1 i hi).1
    rw [h1 _ (by omega), h2 _ (by omega) (fun i hi => by omega)]; exact o5 i q hi hq
  · rw [h1 _ (by omega), h2 _ (by omega) (fun i hi => by omega)]; exact o6 t ht
  · rw [h1 _ (by omega), h2 _ (by omega) (fun i hi => by omega)]; exact o7 q hq
theorem OW.seat (o : OW S T ω a) (w : WL S T a) {i : Nat} (hi : i < S) (u : Int32) : OW S T (wI ω 5 i u) (upd a (25 + 13 * i + 3) u) :=
  o.plc w (fun k hk => q_wIn hk) (fun x _ hx => pk_un (hx i hi)) (fun j hj => by
    rw [q_wIs]
    by_cases e : j = i
    · subst e; rw [pk_us, pk_us]
    · rw [pk_un e, pk_un (by omega)]; exact (o.2.1 j hj).2.2.1)
theorem OW.price (o : OW S T ω a) (w : WL S T a) {t : Nat} (ht : t < T) (u : Int32) : OW S T (wI ω 2 t u) (upd a (9 + 2 * t + 1) u) := by
  obtain ⟨⟨o1, o2, o3⟩, o4, o5, o6, o7⟩ := o
  have h8 := w.1.1
  have t8 := w.1.2
  have el : ∀ j, j < S → ln (upd a (9 + 2 * t + 1) u) j = ln a j := fun j hj => ln_eq (pk_un (by omega))
  refine ⟨⟨?_, ?_, ?_⟩, fun i hi => ?_, fun i q hi hq => ?_, fun t' ht' => ?_, fun q hq => ?_⟩
  · rw [q_wIn (by omega)]; exact o1
  · rw [q_wIn (by omega)]; exact o2
  · rw [q_wIn (by omega), pk_un (by omega)]; exact o3
  · rw [q_wIn (by omega), q_wIn (by omega), q_wIn (by omega), q_wIn (by omega), pk_un (by omega), pk_un (by omega), pk_un (by omega), pk_un (by omega)]; exact o4 i hi
  · rw [el i hi] at hq
    have := (w.2.1 i hi).1
    rw [q_wIn (by omega), pk_un (by omega)]; exact o5 i q hi hq
  · rw [q_wIs]
    by_cases e : t' = t
    · subst e; rw [pk_us, pk_us]
    · rw [pk_un e, pk_un (by omega)]; exact o6 t' ht'
  · rw [q_wIn (by omega), pk_un (by omega)]; exact o7 q hq
theorem J.own (j : J B S T d σ a) {ω' : OM} (o : OW S T ω' a) : J B S T d (us σ 20 ω') a :=
  ⟨by rw [q_usN (by omega)]; exact j.1, by rw [q_usS]; exact o, j.2.2.1.c (q_usN (by omega)), j.2.2.2.1, j.2.2.2.2.1, j.2.2.2.2.2⟩
/-- a call of the class after Own's change -/
theorem jfin {d' B' : Nat} {a' : Nat → Int32} {f : Option (Int32 × SM)} {r : Int32} (k : KO B' S T σ a' f r) (hB : B' ≤ B + 297) (o : OW S T (σ 20) a') (l : LG S a') (e2 : a' 2 = nI d') (ht : 1 ≤ T) : ∃ τ, f = some (r, τ) ∧ J (B + 297) S T d' τ a' ∧ τ 20 = σ 20 := by
  obtain ⟨τ, h1, h2, h3, h4⟩ := k
  exact ⟨τ, h1, ⟨h2.mono hB, by rw [h4]; exact o, h3, l, e2, ht⟩, h4⟩
theorem k_prio (h : MX B S T (σ 0) a) (hH : HI σ) {i p : Nat} (hi : i < S) (hp : p < S) : ∃ q, q < S ∧ a (129 + q) = nI i ∧ (∀ j, j < S → j ≠ q → a (129 + j) ≠ nI i) ∧ KO B S T σ (mvA a q p i) (f_X12_setPriority (nI i) (nI p) σ) (nI q) := by
  have w := h.2.2.1; have h8 := w.1.1; have t8 := w.1.2; have hm := h.1
  obtain ⟨τ, c1, c3, c7⟩ := rec_ok hH; have d0 : τ 0 = σ 0 := c3 0 (by omega) (by omega); have d20 : τ 20 = σ 20 := c3 20 (by omega) (by omega); have hτ := rec_hi c7
  obtain ⟨μ', q, h1, h2, h3, h4, h5, h6⟩ := move_c h hi hp
  refine ⟨q, h1, h4, h5, ko_fin d20 hτ h6 ?_⟩
  simp (maxSteps := 2000000) (disch := first | rfl | exact q_e1 _ _ _ | exact q_sr1 _ _ | omega) only [f_X12_setPriority, s_rqT hm h8 hi, hm.1.1, c1, d0, s_turnOf hm h8 hi, h3, h2, ↓q_m1, q_l0, q_l1, q_l2, q_l3, q_l4, q_l5, q_l6, q_l7, q_l8, q_l9, q_l10, q_l11, q_l12, q_l13, q_l14, q_l15, q_l16, q_l17, q_l18, q_l19, q_l20, q_l21, q_l22, q_l23, q_l24, q_l25, q_l26, q_l27, q_l28, q_l29, q_l30, q_l31, q_l32, q_l33, q_l45, q_l46, q_l48, q_l57, q_l58, q_l59, q_l60, q_l61, q_l62, q_l63, q_l64, q_l96, q_l97, q_l99, q_l122, q_l129, q_l137, q_l255, q_l256, q_l400, q_l680, q_l700, q_l959, q_l999, q_l9999, q_l10000, q_l100000, q_l36, q_l50, q_l100, q_l112, q_l200, q_ltT, q_ltF, q_leT, q_leF, q_eqF, q_eqR, q_mlt, q_mle, q_nlm, q_nLm, q_nem, q_men, q_mlm, Nat.add_zero, Nat.sub_zero, q_add0, pk_rem, nI_add, pk_mul, q_sub, q_subm, q_addm, nI_clamp, q_inT, q_inF, q_sr1, q_srn, q_srw, q_srs, q_wIs, q_wIn, q_wI2, q_wJ1, q_wJs, q_wJn, q_wR1, q_wRs, q_wRn, q_wI22, q_wJ22, pk_us, pk_un, pk_uLs, pk_uLn, q_usS, q_usN, q_ups, q_upn, Bool.true_eq_false, Bool.false_eq_true, q_lt, q_o2, q_o3, q_o4, q_o5, q_bi, ↓reduceIte, q_tv0, q_tv1, q_bz, q_oRl, q_oRr, q_oXl, q_oXr]
theorem k_first (h : MX B S T (σ 0) a) (hH : HI σ) {i t p n : Nat} (hi : i < S) (ht : t < T) (hn : n ≤ 8) (h1n : 1 ≤ n) (hp : p < n) (hc : (rk a i (nI t) = m1 ∧ p = ln a i ∧ n = ln a i + 1) ∨ (rk a i (nI t) = nI p ∧ p < ln a i ∧ n = ln a i)) : KO B S T σ (lsA a i n (fsF a i t p)) (f_X12_preferFirst (nI i) (nI t) σ) (nI n) := by
  have w := h.2.2.1; have h8 := w.1.1; have t8 := w.1.2; have hm := h.1
  obtain ⟨τ, c1, c3, c7⟩ := rec_ok hH; have d0 : τ 0 = σ 0 := c3 0 (by omega) (by omega); have d20 : τ 20 = σ 20 := c3 20 (by omega) (by omega); have hτ := rec_hi c7
  obtain ⟨μ', h1, h2⟩ := first_c h hi ht hn h1n hp hc
  refine ko_fin d20 hτ h2 ?_
  have hw := s_wishesOf h2.1 h8 hi
  rw [lsA_4] at hw
  simp (maxSteps := 2000000) (disch := first | rfl | exact q_e1 _ _ _ | exact q_sr1 _ _ | omega) only [f_X12_preferFirst, s_rqT hm h8 hi, s_rqTt hm t8 ht, c1, d0, h1, hw, ↓q_m1, q_l0, q_l1, q_l2, q_l3, q_l4, q_l5, q_l6, q_l7, q_l8, q_l9, q_l10, q_l11, q_l12, q_l13, q_l14, q_l15, q_l16, q_l17, q_l18, q_l19, q_l20, q_l21, q_l22, q_l23, q_l24, q_l25, q_l26, q_l27, q_l28, q_l29, q_l30, q_l31, q_l32, q_l33, q_l45, q_l46, q_l48, q_l57, q_l58, q_l59, q_l60, q_l61, q_l62, q_l63, q_l64, q_l96, q_l97, q_l99, q_l122, q_l129, q_l137, q_l255, q_l256, q_l400, q_l680, q_l700, q_l959, q_l999, q_l9999, q_l10000, q_l100000, q_l36, q_l50, q_l100, q_l112, q_l200, q_ltT, q_ltF, q_leT, q_leF, q_eqF, q_eqR, q_mlt, q_mle, q_nlm, q_nLm, q_nem, q_men, q_mlm, Nat.add_zero, Nat.sub_zero, q_add0, pk_rem, nI_add, pk_mul, q_sub, q_subm, q_addm, nI_clamp, q_inT, q_inF, q_sr1, q_srn, q_srw, q_srs, q_wIs, q_wIn, q_wI2, q_wJ1, q_wJs, q_wJn, q_wR1, q_wRs, q_wRn, q_wI22, q_wJ22, pk_us, pk_un, pk_uLs, pk_uLn, q_usS, q_usN, q_ups, q_upn, Bool.true_eq_false, Bool.false_eq_true, q_lt, q_o2, q_o3, q_o4, q_o5, q_bi, ↓reduceIte, q_tv0, q_tv1, q_bz, q_oRl, q_oRr, q_oXl, q_oXr]
theorem k_drop (h : MX B S T (σ 0) a) (hH : HI σ) {i t r : Nat} (hi : i < S) (ht : t < T) (hr : r < ln a i) (hv : rk a i (nI t) = nI r) : KO B S T σ (lsA a i (ln a i - 1) (drF a i r)) (f_X12_removePreference (nI i) (nI t) σ) (nI (ln a i - 1)) := by
  have w := h.2.2.1; have h8 := w.1.1; have t8 := w.1.2; have hm := h.1
  obtain ⟨τ, c1, c3, c7⟩ := rec_ok hH; have d0 : τ 0 = σ 0 := c3 0 (by omega) (by omega); have d20 : τ 20 = σ 20 := c3 20 (by omega) (by omega); have hτ := rec_hi c7
  obtain ⟨μ', h1, _, h2⟩ := drop_c h hi hr hv
  refine ko_fin d20 hτ h2 ?_
  have hl := (w.2.1 i hi).1
  have hw := s_wishesOf h2.1 h8 hi
  rw [lsA_4] at hw
  simp (maxSteps := 2000000) (disch := first | rfl | exact q_e1 _ _ _ | exact q_sr1 _ _ | omega) only [f_X12_removePreference, s_rqT hm h8 hi, s_rqTt hm t8 ht, s_rankIn hm w hi, hv, c1, d0, h1, hw, ↓q_m1, q_l0, q_l1, q_l2, q_l3, q_l4, q_l5, q_l6, q_l7, q_l8, q_l9, q_l10, q_l11, q_l12, q_l13, q_l14, q_l15, q_l16, q_l17, q_l18, q_l19, q_l20, q_l21, q_l22, q_l23, q_l24, q_l25, q_l26, q_l27, q_l28, q_l29, q_l30, q_l31, q_l32, q_l33, q_l45, q_l46, q_l48, q_l57, q_l58, q_l59, q_l60, q_l61, q_l62, q_l63, q_l64, q_l96, q_l97, q_l99, q_l122, q_l129, q_l137, q_l255, q_l256, q_l400, q_l680, q_l700, q_l959, q_l999, q_l9999, q_l10000, q_l100000, q_l36, q_l50, q_l100, q_l112, q_l200, q_ltT, q_ltF, q_leT, q_leF, q_eqF, q_eqR, q_mlt, q_mle, q_nlm, q_nLm, q_nem, q_men, q_mlm, Nat.add_zero, Nat.sub_zero, q_add0, pk_rem, nI_add, pk_mul, q_sub, q_subm, q_addm, nI_clamp, q_inT, q_inF, q_sr1, q_srn, q_srw, q_srs, q_wIs, q_wIn, q_wI2, q_wJ1, q_wJs, q_wJn, q_wR1, q_wRs, q_wRn, q_wI22, q_wJ22, pk_us, pk_un, pk_uLs, pk_uLn, q_usS, q_usN, q_ups, q_upn, Bool.true_eq_false, Bool.false_eq_true, q_lt, q_o2, q_o3, q_o4, q_o5, q_bi, ↓reduceIte, q_tv0, q_tv1, q_bz, q_oRl, q_oRr, q_oXl, q_oXr]
/-- Own takes one off a list -/
theorem o_drop (o : OW S T (σ 20) a) (w : WL S T a) {i t r : Nat} (hi : i < S) (hr : r < ln a i) (hv : rk a i (nI t) = nI r) : f_X13_rankAll (nI i) (nI t) (wI (σ 20) 6 i (nI (ln a i - 1))) = some (nI r) ∧ ∃ σ', f_X13_act_343 (nI i) FU (nI r) (us σ 20 (wI (σ 20) 6 i (nI (ln a i - 1)))) = some σ' ∧ (∀ o, o ≠ 20 → σ' o = σ o) ∧ OW S T (σ' 20) (lsA a i (ln a i - 1) (drF a i r)) ∧ (σ' 20).1 6 i = nI (ln a i - 1) := by
  have h8 := w.1.1
  have hl := (w.2.1 i hi).1
  obtain ⟨_, f2, f3⟩ := (fd_some (show ln a i < 2 ^ 31 by omega) (show r < 2 ^ 31 by omega)).mp hv
  have f2' : a (25 + 13 * i + (5 + r)) = nI t := of_decide_eq_true f2
  have row : ∀ k, k < ln a i → (σ 20).1 (12 + i) k = a (25 + 13 * i + (5 + k)) := fun k hk => o.2.2.1 i k hi hk
  refine ⟨?_, ?_⟩
  · unfold f_X13_rankAll
    rw [q_l0]
    refine lp_to r (fun n k hk => ?_) (fun n => ?_) (fu_lt (by omega))
    · have ek : ¬ a (25 + 13 * i + (5 + k)) = nI t := of_decide_eq_false (f3 k hk)
      simp (maxSteps := 2000000) (disch := first | rfl | exact q_e1 _ _ _ | exact q_sr1 _ _ | omega) only [f_X13_rankAll_2, ↓q_m1, q_l0, q_l1, q_l2, q_l3, q_l4, q_l5, q_l6, q_l7, q_l8, q_l9, q_l10, q_l11, q_l12, q_l13, q_l14, q_l15, q_l16, q_l17, q_l18, q_l19, q_l20, q_l21, q_l22, q_l23, q_l24, q_l25, q_l26, q_l27, q_l28, q_l29, q_l30, q_l31, q_l32, q_l33, q_l45, q_l46, q_l48, q_l57, q_l58, q_l59, q_l60, q_l61, q_l62, q_l63, q_l64, q_l96, q_l97, q_l99, q_l122, q_l129, q_l137, q_l255, q_l256, q_l400, q_l680, q_l700, q_l959, q_l999, q_l9999, q_l10000, q_l100000, q_l36, q_l50, q_l100, q_l112, q_l200, q_ltT, q_ltF, q_leT, q_leF, q_eqF, q_eqR, q_mlt, q_mle, q_nlm, q_nLm, q_nem, q_men, q_mlm, Nat.add_zero, Nat.sub_zero, q_add0, pk_rem, nI_add, pk_mul, q_sub, q_subm, q_addm, nI_clamp, q_inT, q_inF, q_sr1, q_srn, q_srw, q_srs, q_wIs, q_wIn, q_wI2, q_wJ1, q_wJs, q_wJn, q_wR1, q_wRs, q_wRn, q_wI22, q_wJ22, pk_us, pk_un, pk_uLs, pk_uLn, q_usS, q_usN, q_ups, q_upn, Bool.true_eq_false, Bool.false_eq_true, q_lt, q_o2, q_o3, q_o4, q_o5, q_bi, ↓reduceIte, q_tv0, q_tv1, q_bz, q_oRl, q_oRr, q_oXl, q_oXr, row k (by omega), eq_false ek]
    · simp (maxSteps := 2000000) (disch := first | rfl | exact q_e1 _ _ _ | exact q_sr1 _ _ | omega) only [f_X13_rankAll_2, ↓q_m1, q_l0, q_l1, q_l2, q_l3, q_l4, q_l5, q_l6, q_l7, q_l8, q_l9, q_l10, q_l11, q_l12, q_l13, q_l14, q_l15, q_l16, q_l17, q_l18, q_l19, q_l20, q_l21, q_l22, q_l23, q_l24, q_l25, q_l26, q_l27, q_l28, q_l29, q_l30, q_l31, q_l32, q_l33, q_l45, q_l46, q_l48, q_l57, q_l58, q_l59, q_l60, q_l61, q_l62, q_l63, q_l64, q_l96, q_l97, q_l99, q_l122, q_l129, q_l137, q_l255, q_l256, q_l400, q_l680, q_l700, q_l959, q_l999, q_l9999, q_l10000, q_l100000, q_l36, q_l50, q_l100, q_l112, q_l200, q_ltT, q_ltF, q_leT, q_leF, q_eqF, q_eqR, q_mlt, q_mle, q_nlm, q_nLm, q_nem, q_men, q_mlm, Nat.add_zero, Nat.sub_zero, q_add0, pk_rem, nI_add, pk_mul, q_sub, q_subm, q_addm, nI_clamp, q_inT, q_inF, q_sr1, q_srn, q_srw, q_srs, q_wIs, q_wIn, q_wI2, q_wJ1, q_wJs, q_wJn, q_wR1, q_wRs, q_wRn, q_wI22, q_wJ22, pk_us, pk_un, pk_uLs, pk_uLn, q_usS, q_usN, q_ups, q_upn, Bool.true_eq_false, Bool.false_eq_true, q_lt, q_o2, q_o3, q_o4, q_o5, q_bi, ↓reduceIte, q_tv0, q_tv1, q_bz, q_oRl, q_oRr, q_oXl, q_oXr, row r hr, f2']
  · obtain ⟨b, g1, g2, g3, g4, g5⟩ := lp_inv (F := fun n x (s : SM) => f_X13_act_343 (nI i) n x s) (fun (k : Nat) (s : SM) => (∀ o, o ≠ 20 → s o = σ o) ∧ (∀ x, x ≠ 12 + i → (s 20).1 x = (wI (σ 20) 6 i (nI (ln a i - 1))).1 x) ∧ r ≤ k ∧ ∀ j, j < ln a i → (s 20).1 (12 + i) j = if r ≤ j ∧ j < k then a (25 + 13 * i + (5 + (j + 1))) else a (25 + 13 * i + (5 + j))) (fun s => (∀ o, o ≠ 20 → s o = σ o) ∧ (∀ x, x ≠ 12 + i → (s 20).1 x = (wI (σ 20) 6 i (nI (ln a i - 1))).1 x) ∧ r ≤ ln a i - 1 ∧ ∀ j, j < ln a i → (s 20).1 (12 + i) j = if r ≤ j ∧ j < ln a i - 1 then a (25 + 13 * i + (5 + (j + 1))) else a (25 + 13 * i + (5 + j))) (ln a i - 1) (fun n k s hk hh => by
      obtain ⟨h1, h2, h3, h4⟩ := hh
      have e6 : (s 20).1 6 i = nI (ln a i - 1) := by rw [h2 6 (by omega), q_wIs, pk_us]
      have e7 : (s 20).1 (12 + i) (k + 1) = a (25 + 13 * i + (5 + (k + 1))) := by rw [h4 (k + 1) (by omega), if_neg (by omega)]
      refine ⟨us s 20 (wI (s 20) (12 + i) k (a (25 + 13 * i + (5 + (k + 1))))), ⟨fun o ho => by rw [q_usN ho]; exact h1 o ho, fun x hx => by rw [q_usS, q_wIn hx]; exact h2 x hx, by omega, fun j hj => ?_⟩, ?_⟩
      · rw [q_usS, q_wIs]
        by_cases e : j = k
        · subst e; rw [pk_us, if_pos (by omega)]
        · rw [pk_un e, h4 j hj]
          by_cases c : r ≤ j ∧ j < k
          · rw [if_pos c, if_pos (by omega)]
          · rw [if_neg c, if_neg (by omega)]
      · simp (maxSteps := 2000000) (disch := first | rfl | exact q_e1 _ _ _ | exact q_sr1 _ _ | omega) only [f_X13_act_343, ↓q_m1, q_l0, q_l1, q_l2, q_l3, q_l4, q_l5, q_l6, q_l7, q_l8, q_l9, q_l10, q_l11, q_l12, q_l13, q_l14, q_l15, q_l16, q_l17, q_l18, q_l19, q_l20, q_l21, q_l22, q_l23, q_l24, q_l25, q_l26, q_l27, q_l28, q_l29, q_l30, q_l31, q_l32, q_l33, q_l45, q_l46, q_l48, q_l57, q_l58, q_l59, q_l60, q_l61, q_l62, q_l63, q_l64, q_l96, q_l97, q_l99, q_l122, q_l129, q_l137, q_l255, q_l256, q_l400, q_l680, q_l700, q_l959, q_l999, q_l9999, q_l10000, q_l100000, q_l36, q_l50, q_l100, q_l112, q_l200, q_ltT, q_ltF, q_leT, q_leF, q_eqF, q_eqR, q_mlt, q_mle, q_nlm, q_nLm, q_nem, q_men, q_mlm, Nat.add_zero, Nat.sub_zero, q_add0, pk_rem, nI_add, pk_mul, q_sub, q_subm, q_addm, nI_clamp, q_inT, q_inF, q_sr1, q_srn, q_srw, q_srs, q_wIs, q_wIn, q_wI2, q_wJ1, q_wJs, q_wJn, q_wR1, q_wRs, q_wRn, q_wI22, q_wJ22, pk_us, pk_un, pk_uLs, pk_uLn, q_usS, q_usN, q_ups, q_upn, Bool.true_eq_false, Bool.false_eq_true, q_lt, q_o2, q_o3, q_o4, q_o5, q_bi, ↓reduceIte, q_tv0, q_tv1, q_bz, q_oRl, q_oRr, q_oXl, q_oXr, e6, e7]) (fun n s hh => by
      obtain ⟨h1, h2, h3, h4⟩ := hh
      have e6 : (s 20).1 6 i = nI (ln a i - 1) := by rw [h2 6 (by omega), q_wIs, pk_us]
      exact ⟨s, by simp (maxSteps := 2000000) (disch := first | rfl | exact q_e1 _ _ _ | exact q_sr1 _ _ | omega) only [f_X13_act_343, ↓q_m1, q_l0, q_l1, q_l2, q_l3, q_l4, q_l5, q_l6, q_l7, q_l8, q_l9, q_l10, q_l11, q_l12, q_l13, q_l14, q_l15, q_l16, q_l17, q_l18, q_l19, q_l20, q_l21, q_l22, q_l23, q_l24, q_l25, q_l26, q_l27, q_l28, q_l29, q_l30, q_l31, q_l32, q_l33, q_l45, q_l46, q_l48, q_l57, q_l58, q_l59, q_l60, q_l61, q_l62, q_l63, q_l64, q_l96, q_l97, q_l99, q_l122, q_l129, q_l137, q_l255, q_l256, q_l400, q_l680, q_l700, q_l959, q_l999, q_l9999, q_l10000, q_l100000, q_l36, q_l50, q_l100, q_l112, q_l200, q_ltT, q_ltF, q_leT, q_leF, q_eqF, q_eqR, q_mlt, q_mle, q_nlm, q_nLm, q_nem, q_men, q_mlm, Nat.add_zero, Nat.sub_zero, q_add0, pk_rem, nI_add, pk_mul, q_sub, q_subm, q_addm, nI_clamp, q_inT, q_inF, q_sr1, q_srn, q_srw, q_srs, q_wIs, q_wIn, q_wI2, q_wJ1, q_wJs, q_wJn, q_wR1, q_wRs, q_wRn, q_wI22, q_wJ22, pk_us, pk_un, pk_uLs, pk_uLn, q_usS, q_usN, q_ups, q_upn, Bool.true_eq_false, Bool.false_eq_true, q_lt, q_o2, q_o3, q_o4, q_o5, q_bi, ↓reduceIte, q_tv0, q_tv1, q_bz, q_oRl, q_oRr, q_oXl, q_oXr, e6], h1, h2, h3, h4⟩) (n := FU) (fu_lt (by omega)) (s := us σ 20 (wI (σ 20) 6 i (nI (ln a i - 1)))) (i0 := r) ⟨fun o ho => q_usN ho, fun x _ => by rw [q_usS], Nat.le_refl _, fun j hj => by rw [q_usS, q_wIn (by omega), if_neg (by omega)]; exact row j hj⟩
    have e6 : (b 20).1 6 i = nI (ln a i - 1) := by rw [g3 6 (by omega), q_wIs, pk_us]
    refine ⟨b, g1, g2, o.list w hi (by omega) (fun k h6 h12 => by rw [g3 k h12, q_wIn h6]) (fun j hj => by rw [g3 6 (by omega), q_wIs, pk_un hj]) e6 (fun k hk => ?_), e6⟩
    rw [g5 k (by omega), drF]
    by_cases c : k < r
    · rw [if_neg (by omega), if_pos c]
    · rw [if_pos (by omega), if_neg c]
/-- a reallocation, with what is recorded -/
theorem real_full (h : MX B S T (σ 0) a) (hH : HI σ) (ga : GA S T a rq) (hd : ∀ α, ∃ α', f_X1_decide (σ 0) α = some α' ∧ ∀ i, i < S → α'.1 1 i = rq i) : ∃ a' τ, PLC S a rq a' ∧ f_X12_reallocate σ = some (nI (cnt (chg a rq) S), τ) ∧ MX B S T (τ 0) a' ∧ τ 20 = σ 20 ∧ ∃ q k, q < 8 ∧ k < 8 ∧ (τ 16).1 0 1 = nI q ∧ (τ 16).1 0 2 = nI (k + 1) ∧ CE (σ 0) (τ (3 + (q + k) % 8)) := by
  have w := h.2.2.1; have h8 := w.1.1; have t8 := w.1.2; have hm := h.1
  obtain ⟨τ, c1, c3, c7⟩ := rec_ok hH; have d0 : τ 0 = σ 0 := c3 0 (by omega) (by omega); have d20 : τ 20 = σ 20 := c3 20 (by omega) (by omega); have hτ := rec_hi c7
  obtain ⟨α', f1, f2⟩ := hd (τ 17)
  obtain ⟨μ', a', g1, g2, g3⟩ := apply_c (α := α') h f2 ga.1 ga.2.1
  refine ⟨a', us (us τ 17 α') 0 μ', g3, ?_, by rw [q_usS]; exact g2, by rw [q_usN (by omega), q_usN (by omega)]; exact d20, ?_⟩
  · simp (maxSteps := 2000000) (disch := first | rfl | exact q_e1 _ _ _ | exact q_sr1 _ _ | omega) only [f_X12_reallocate, c1, d0, f1, g1, ↓q_m1, q_l0, q_l1, q_l2, q_l3, q_l4, q_l5, q_l6, q_l7, q_l8, q_l9, q_l10, q_l11, q_l12, q_l13, q_l14, q_l15, q_l16, q_l17, q_l18, q_l19, q_l20, q_l21, q_l22, q_l23, q_l24, q_l25, q_l26, q_l27, q_l28, q_l29, q_l30, q_l31, q_l32, q_l33, q_l45, q_l46, q_l48, q_l57, q_l58, q_l59, q_l60, q_l61, q_l62, q_l63, q_l64, q_l96, q_l97, q_l99, q_l122, q_l129, q_l137, q_l255, q_l256, q_l400, q_l680, q_l700, q_l959, q_l999, q_l9999, q_l10000, q_l100000, q_l36, q_l50, q_l100, q_l112, q_l200, q_ltT, q_ltF, q_leT, q_leF, q_eqF, q_eqR, q_mlt, q_mle, q_nlm, q_nLm, q_nem, q_men, q_mlm, Nat.add_zero, Nat.sub_zero, q_add0, pk_rem, nI_add, pk_mul, q_sub, q_subm, q_addm, nI_clamp, q_inT, q_inF, q_sr1, q_srn, q_srw, q_srs, q_wIs, q_wIn, q_wI2, q_wJ1, q_wJs, q_wJn, q_wR1, q_wRs, q_wRn, q_wI22, q_wJ22, pk_us, pk_un, pk_uLs, pk_uLn, q_usS, q_usN, q_ups, q_upn, Bool.true_eq_false, Bool.false_eq_true, q_lt, q_o2, q_o3, q_o4, q_o5, q_bi, ↓reduceIte, q_tv0, q_tv1, q_bz, q_oRl, q_oRr, q_oXl, q_oXr]
  · obtain ⟨q, k, h1, h2, h3, h4, h5⟩ := c7
    refine ⟨q, k, h1, h2, by rw [q_usN (by omega), q_usN (by omega)]; exact h3, by rw [q_usN (by omega), q_usN (by omega)]; exact h4, by rw [q_usN (by omega), q_usN (by omega)]; exact h5⟩
theorem k_real (h : MX B S T (σ 0) a) (hH : HI σ) (ga : GA S T a rq) (hd : ∀ α, ∃ α', f_X1_decide (σ 0) α = some α' ∧ ∀ i, i < S → α'.1 1 i = rq i) : ∃ a', PLC S a rq a' ∧ KO B S T σ a' (f_X12_reallocate σ) (nI (cnt (chg a rq) S)) := by
  obtain ⟨a', τ, h1, h2, h3, h4, h5⟩ := real_full h hH ga hd
  exact ⟨a', h1, τ, h2, h3, rec_hi h5, h4⟩
theorem LG.plc (l : LG S a) (h8 : S ≤ 8) {a' : Nat → Int32} (h : ∀ x, x ≠ 5 → x ≠ 6 → (∀ j, j < S → x ≠ 25 + 13 * j + 3) → a' x = a x) : LG S a' :=
  l.same (fun i hi => h _ (by omega) (by omega) (fun j hj => by omega)) (h 7 (by omega) (by omega) (fun j hj => by omega)) (h 8 (by omega) (by omega) (fun j hj => by omega)) (h 3 (by omega) (by omega) (fun j hj => by omega))
theorem ac_209 (j : J B S T d σ a) (ga : GA S T a rq) (hr : ∀ i, i < S → (σ 20).1 10 i = rq i) (hd : ∀ α, ∃ α', f_X1_decide (σ 0) α = some α' ∧ ∀ i, i < S → α'.1 1 i = rq i) : AC B S T d (f_X13_act_209 FU (nI 0) (nI 0) σ) := by
  obtain ⟨h, o, hH, l, e2, ht⟩ := j
  have w := h.2.2.1
  have h8 := w.1.1
  have t8 := w.1.2
  obtain ⟨b, g1, g2⟩ := lp_inv (F := fun n x (s : Int32 × SM) => f_X13_act_209 n x s.1 s.2) (fun (i : Nat) (s : Int32 × SM) => s.1 = nI (cnt (chg a rq) i) ∧ (∀ o, o ≠ 20 → s.2 o = σ o) ∧ (∀ k, k ≠ 5 → (s.2 20).1 k = (σ 20).1 k) ∧ ∀ j, j < S → (s.2 20).1 5 j = if j < i then rq j else a (25 + 13 * j + 3)) (fun b => AC B S T d (some b)) S (fun n i s hi hh => by
    obtain ⟨x, s⟩ := s
    obtain ⟨h1, h2, h3, h4⟩ := hh
    have h1 : x = nI (cnt (chg a rq) i) := h1
    subst h1
    have h4 : ∀ j, j < S → (s 20).1 5 j = if j < i then rq j else a (25 + 13 * j + 3) := h4
    have h3 : ∀ k, k ≠ 5 → (s 20).1 k = (σ 20).1 k := h3
    have h2 : ∀ o, o ≠ 20 → s o = σ o := h2
    have e5 := h4 i hi
    rw [if_neg (by omega)] at e5
    have cl := cnt_le (chg a rq) i
    refine ⟨(nI (cnt (chg a rq) (i + 1)), us s 20 (wI (s 20) 5 i (rq i))), ⟨rfl, fun o ho => (q_usN ho).trans (h2 o ho), fun k hk => ?_, fun j hj => ?_⟩, ?_⟩
    · show (us s 20 (wI (s 20) 5 i (rq i)) 20).1 k = _
      rw [q_usS, q_wIn hk]; exact h3 k hk
    · show (us s 20 (wI (s 20) 5 i (rq i)) 20).1 5 j = _
      rw [q_usS, q_wIs]
      by_cases e : j = i
      · subst e; rw [pk_us, if_pos (by omega)]
      · rw [pk_un e, h4 j hj]
        by_cases c : j < i
        · rw [if_pos c, if_pos (by omega)]
        · rw [if_neg c, if_neg (by omega)]
    · by_cases c : rq i = a (25 + 13 * i + 3)
      · have ec : cnt (chg a rq) (i + 1) = cnt (chg a rq) i := by rw [cnt, chg, decide_eq_true c]; rfl
        rw [ec]
        simp (maxSteps := 2000000) (disch := first | rfl | exact q_e1 _ _ _ | exact q_sr1 _ _ | omega) only [f_X13_act_209, ↓q_m1, q_l0, q_l1, q_l2, q_l3, q_l4, q_l5, q_l6, q_l7, q_l8, q_l9, q_l10, q_l11, q_l12, q_l13, q_l14, q_l15, q_l16, q_l17, q_l18, q_l19, q_l20, q_l21, q_l22, q_l23, q_l24, q_l25, q_l26, q_l27, q_l28, q_l29, q_l30, q_l31, q_l32, q_l33, q_l45, q_l46, q_l48, q_l57, q_l58, q_l59, q_l60, q_l61, q_l62, q_l63, q_l64, q_l96, q_l97, q_l99, q_l122, q_l129, q_l137, q_l255, q_l256, q_l400, q_l680, q_l700, q_l959, q_l999, q_l9999, q_l10000, q_l100000, q_l36, q_l50, q_l100, q_l112, q_l200, q_ltT, q_ltF, q_leT, q_leF, q_eqF, q_eqR, q_mlt, q_mle, q_nlm, q_nLm, q_nem, q_men, q_mlm, Nat.add_zero, Nat.sub_zero, q_add0, pk_rem, nI_add, pk_mul, q_sub, q_subm, q_addm, nI_clamp, q_inT, q_inF, q_sr1, q_srn, q_srw, q_srs, q_wIs, q_wIn, q_wI2, q_wJ1, q_wJs, q_wJn, q_wR1, q_wRs, q_wRn, q_wI22, q_wJ22, pk_us, pk_un, pk_uLs, pk_uLn, q_usS, q_usN, q_ups, q_upn, Bool.true_eq_false, Bool.false_eq_true, q_lt, q_o2, q_o3, q_o4, q_o5, q_bi, ↓reduceIte, q_tv0, q_tv1, q_bz, q_oRl, q_oRr, q_oXl, q_oXr, h3 0 (by omega), h3 10 (by omega), o.1.1, hr i hi, e5, eq_true c]
      · have ec : cnt (chg a rq) (i + 1) = cnt (chg a rq) i + 1 := by rw [cnt, chg, decide_eq_false c]; rfl
        rw [ec]
        simp (maxSteps := 2000000) (disch := first | rfl | exact q_e1 _ _ _ | exact q_sr1 _ _ | omega) only [f_X13_act_209, ↓q_m1, q_l0, q_l1, q_l2, q_l3, q_l4, q_l5, q_l6, q_l7, q_l8, q_l9, q_l10, q_l11, q_l12, q_l13, q_l14, q_l15, q_l16, q_l17, q_l18, q_l19, q_l20, q_l21, q_l22, q_l23, q_l24, q_l25, q_l26, q_l27, q_l28, q_l29, q_l30, q_l31, q_l32, q_l33, q_l45, q_l46, q_l48, q_l57, q_l58, q_l59, q_l60, q_l61, q_l62, q_l63, q_l64, q_l96, q_l97, q_l99, q_l122, q_l129, q_l137, q_l255, q_l256, q_l400, q_l680, q_l700, q_l959, q_l999, q_l9999, q_l10000, q_l100000, q_l36, q_l50, q_l100, q_l112, q_l200, q_ltT, q_ltF, q_leT, q_leF, q_eqF, q_eqR, q_mlt, q_mle, q_nlm, q_nLm, q_nem, q_men, q_mlm, Nat.add_zero, Nat.sub_zero, q_add0, pk_rem, nI_add, pk_mul, q_sub, q_subm, q_addm, nI_clamp, q_inT, q_inF, q_sr1, q_srn, q_srw, q_srs, q_wIs, q_wIn, q_wI2, q_wJ1, q_wJs, q_wJn, q_wR1, q_wRs, q_wRn, q_wI22, q_wJ22, pk_us, pk_un, pk_uLs, pk_uLn, q_usS, q_usN, q_ups, q_upn, Bool.true_eq_false, Bool.false_eq_true, q_lt, q_o2, q_o3, q_o4, q_o5, q_bi, ↓reduceIte, q_tv0, q_tv1, q_bz, q_oRl, q_oRr, q_oXl, q_oXr, h3 0 (by omega), h3 10 (by omega), o.1.1, hr i hi, e5, eq_false c]) (fun n s hh => by
    obtain ⟨x, s⟩ := s
    obtain ⟨h1, h2, h3, h4⟩ := hh
    have h1 : x = nI (cnt (chg a rq) S) := h1
    subst h1
    have h4 : ∀ j, j < S → (s 20).1 5 j = if j < S then rq j else a (25 + 13 * j + 3) := h4
    have h3 : ∀ k, k ≠ 5 → (s 20).1 k = (σ 20).1 k := h3
    have h2 : ∀ o, o ≠ 20 → s o = σ o := h2
    obtain ⟨a', p, k⟩ := k_real (σ := s) (a := a) (rq := rq) (by rw [h2 0 (by omega)]; exact h) (hH.c (h2 16 (by omega))) ga (by rw [h2 0 (by omega)]; exact hd)
    have hp := p
    obtain ⟨p1, p2⟩ := p
    obtain ⟨τ, k1, k2, _⟩ := jfin (B := B) (d' := d) k (by omega) (o.plc w h3 (fun x hx hx' => p1 x (by omega) hx') (fun j hj => by rw [h4 j hj, if_pos hj]; exact (p2 j hj).symm)) (l.plc h8 (fun x _ h6 hx => p1 x h6 hx)) (by rw [p1 2 (by omega) (fun j hj => by omega)]; exact e2) ht
    refine ⟨(nI 1, τ), ?_, τ, a', d, rfl, k2, by omega⟩
    simp (maxSteps := 2000000) (disch := first | rfl | exact q_e1 _ _ _ | exact q_sr1 _ _ | omega) only [f_X13_act_209, ↓q_m1, q_l0, q_l1, q_l2, q_l3, q_l4, q_l5, q_l6, q_l7, q_l8, q_l9, q_l10, q_l11, q_l12, q_l13, q_l14, q_l15, q_l16, q_l17, q_l18, q_l19, q_l20, q_l21, q_l22, q_l23, q_l24, q_l25, q_l26, q_l27, q_l28, q_l29, q_l30, q_l31, q_l32, q_l33, q_l45, q_l46, q_l48, q_l57, q_l58, q_l59, q_l60, q_l61, q_l62, q_l63, q_l64, q_l96, q_l97, q_l99, q_l122, q_l129, q_l137, q_l255, q_l256, q_l400, q_l680, q_l700, q_l959, q_l999, q_l9999, q_l10000, q_l100000, q_l36, q_l50, q_l100, q_l112, q_l200, q_ltT, q_ltF, q_leT, q_leF, q_eqF, q_eqR, q_mlt, q_mle, q_nlm, q_nLm, q_nem, q_men, q_mlm, Nat.add_zero, Nat.sub_zero, q_add0, pk_rem, nI_add, pk_mul, q_sub, q_subm, q_addm, nI_clamp, q_inT, q_inF, q_sr1, q_srn, q_srw, q_srs, q_wIs, q_wIn, q_wI2, q_wJ1, q_wJs, q_wJn, q_wR1, q_wRs, q_wRn, q_wI22, q_wJ22, pk_us, pk_un, pk_uLs, pk_uLn, q_usS, q_usN, q_ups, q_upn, Bool.true_eq_false, Bool.false_eq_true, q_lt, q_o2, q_o3, q_o4, q_o5, q_bi, ↓reduceIte, q_tv0, q_tv1, q_bz, q_oRl, q_oRr, q_oXl, q_oXr, h3 0 (by omega), o.1.1, k1]) (n := FU) (fu_lt (show S < 2000 by omega)) (s := (nI 0, σ)) (i0 := 0) ⟨rfl, fun _ _ => rfl, fun _ _ => rfl, fun j hj => by rw [if_neg (by omega)]; exact (o.2.1 j hj).2.2.1⟩
  rw [show f_X13_act_209 FU (nI 0) (nI 0) σ = some b from g1]
  exact g2
theorem ac_402 (x2 : Int32) (jj : J B S T d σ a) (hB : B + 297 < 2 ^ 31) (hd : d + 3 ≤ 9999) {i p t : Nat} (hi : i < S) (hp : p < S) (ht : t < T) : AC B S T d (f_X13_act_402 x2 (nI i) (nI p) (nI t) FU σ) := by
  obtain ⟨h, o, hH, l, e2, hT⟩ := id jj
  have w := h.2.2.1
  have h8 := w.1.1
  have t8 := w.1.2
  by_cases c7 : x2 = nI 7
  · subst c7
    obtain ⟨q, q1, q2, q3, _⟩ := k_prio h hH hi hp
    obtain ⟨ω', f1, f2⟩ := o_move o w hi hp q1 q2 q3
    obtain ⟨q', z1, z2, _, k⟩ := k_prio (σ := us σ 20 ω') (a := a) (by rw [q_usN (by omega)]; exact h) (hH.c (q_usN (by omega))) hi hp
    obtain rfl : q' = q := by
      by_cases e : q' = q
      · exact e
      · exact absurd z2 (q3 q' z1 e)
    have f411 : f_X13_act_411 (nI i) σ FU (nI 0) = some (nI q') := o_find (ω := σ 20) (F := f_X13_act_411 (nI i) σ) (fun n k hk => by simp (maxSteps := 2000000) (disch := first | rfl | exact q_e1 _ _ _ | exact q_sr1 _ _ | omega) only [f_X13_act_411, ↓q_m1, q_l0, q_l1, q_l2, q_l3, q_l4, q_l5, q_l6, q_l7, q_l8, q_l9, q_l10, q_l11, q_l12, q_l13, q_l14, q_l15, q_l16, q_l17, q_l18, q_l19, q_l20, q_l21, q_l22, q_l23, q_l24, q_l25, q_l26, q_l27, q_l28, q_l29, q_l30, q_l31, q_l32, q_l33, q_l45, q_l46, q_l48, q_l57, q_l58, q_l59, q_l60, q_l61, q_l62, q_l63, q_l64, q_l96, q_l97, q_l99, q_l122, q_l129, q_l137, q_l255, q_l256, q_l400, q_l680, q_l700, q_l959, q_l999, q_l9999, q_l10000, q_l100000, q_l36, q_l50, q_l100, q_l112, q_l200, q_ltT, q_ltF, q_leT, q_leF, q_eqF, q_eqR, q_mlt, q_mle, q_nlm, q_nLm, q_nem, q_men, q_mlm, Nat.add_zero, Nat.sub_zero, q_add0, pk_rem, nI_add, pk_mul, q_sub, q_subm, q_addm, nI_clamp, q_inT, q_inF, q_sr1, q_srn, q_srw, q_srs, q_wIs, q_wIn, q_wI2, q_wJ1, q_wJs, q_wJn, q_wR1, q_wRs, q_wRn, q_wI22, q_wJ22, pk_us, pk_un, pk_uLs, pk_uLn, q_usS, q_usN, q_ups, q_upn, Bool.true_eq_false, Bool.false_eq_true, q_lt, q_o2, q_o3, q_o4, q_o5, q_bi, ↓reduceIte, q_tv0, q_tv1, q_bz, q_oRl, q_oRr, q_oXl, q_oXr]) (show q' < 8 by omega) ((o.2.2.2.2 q' q1).trans q2) (fun j hj => by rw [o.2.2.2.2 j (by omega)]; exact q3 j (by omega) (by omega))
    have mv : ∀ x, x < 129 → mvA a q' p i x = a x := fun x hx => by
      rw [mvA, pk_un (by omega)]
      by_cases c : p ≤ q'
      · rw [if_pos c, shD, if_neg (by omega)]
      · rw [if_neg c, shU, if_neg (by omega)]
    obtain ⟨τ, k1, k2, _⟩ := jfin (B := B) (d' := d) k (by omega) (by rw [q_usS]; exact f2) (l.same (fun i hi => mv _ (by omega)) (mv _ (by omega)) (mv _ (by omega)) (mv _ (by omega))) (by rw [mv _ (by omega)]; exact e2) hT
    refine ⟨τ, _, d, ?_, k2, by omega⟩
    show f_X13_act_402 (nI 7) (nI i) (nI p) (nI t) (1999 + 1) σ = _
    simp (maxSteps := 2000000) (disch := first | rfl | exact q_e1 _ _ _ | exact q_sr1 _ _ | omega) only [f_X13_act_402, ↓q_m1, q_l0, q_l1, q_l2, q_l3, q_l4, q_l5, q_l6, q_l7, q_l8, q_l9, q_l10, q_l11, q_l12, q_l13, q_l14, q_l15, q_l16, q_l17, q_l18, q_l19, q_l20, q_l21, q_l22, q_l23, q_l24, q_l25, q_l26, q_l27, q_l28, q_l29, q_l30, q_l31, q_l32, q_l33, q_l45, q_l46, q_l48, q_l57, q_l58, q_l59, q_l60, q_l61, q_l62, q_l63, q_l64, q_l96, q_l97, q_l99, q_l122, q_l129, q_l137, q_l255, q_l256, q_l400, q_l680, q_l700, q_l959, q_l999, q_l9999, q_l10000, q_l100000, q_l36, q_l50, q_l100, q_l112, q_l200, q_ltT, q_ltF, q_leT, q_leF, q_eqF, q_eqR, q_mlt, q_mle, q_nlm, q_nLm, q_nem, q_men, q_mlm, Nat.add_zero, Nat.sub_zero, q_add0, pk_rem, nI_add, pk_mul, q_sub, q_subm, q_addm, nI_clamp, q_inT, q_inF, q_sr1, q_srn, q_srw, q_srs, q_wIs, q_wIn, q_wI2, q_wJ1, q_wJs, q_wJn, q_wR1, q_wRs, q_wRn, q_wI22, q_wJ22, pk_us, pk_un, pk_uLs, pk_uLn, q_usS, q_usN, q_ups, q_upn, Bool.true_eq_false, Bool.false_eq_true, q_lt, q_o2, q_o3, q_o4, q_o5, q_bi, ↓reduceIte, q_tv0, q_tv1, q_bz, q_oRl, q_oRr, q_oXl, q_oXr, f411, f1, k1]
  · by_cases c8 : x2 = nI 8
    · subst c8
      obtain ⟨r, v, hr, er⟩ := draw_ok (m := 100) (by omega) (by omega) (σ 20)
      have o1 := (o.x12 v).price w ht (nI r)
      obtain ⟨τ, k1, k2, _⟩ := jfin (B := B) (d' := d) (k_rent (σ := us σ 20 (wI (wI (σ 20) 0 12 v) 2 t (nI r))) (a := a) (by rw [q_usN (by omega)]; exact h) (hH.c (q_usN (by omega))) ht (show r ≤ 99 by omega)) (by omega) (by rw [q_usS]; exact o1) (l.same (fun i hi => pk_un (by omega)) (pk_un (by omega)) (pk_un (by omega)) (pk_un (by omega))) (by rw [pk_un (by omega)]; exact e2) hT
      refine ⟨τ, _, d, ?_, k2, by omega⟩
      show f_X13_act_402 (nI 8) (nI i) (nI p) (nI t) (1999 + 1) σ = _
      simp (maxSteps := 2000000) (disch := first | rfl | exact q_e1 _ _ _ | exact q_sr1 _ _ | omega) only [f_X13_act_402, ↓q_m1, q_l0, q_l1, q_l2, q_l3, q_l4, q_l5, q_l6, q_l7, q_l8, q_l9, q_l10, q_l11, q_l12, q_l13, q_l14, q_l15, q_l16, q_l17, q_l18, q_l19, q_l20, q_l21, q_l22, q_l23, q_l24, q_l25, q_l26, q_l27, q_l28, q_l29, q_l30, q_l31, q_l32, q_l33, q_l45, q_l46, q_l48, q_l57, q_l58, q_l59, q_l60, q_l61, q_l62, q_l63, q_l64, q_l96, q_l97, q_l99, q_l122, q_l129, q_l137, q_l255, q_l256, q_l400, q_l680, q_l700, q_l959, q_l999, q_l9999, q_l10000, q_l100000, q_l36, q_l50, q_l100, q_l112, q_l200, q_ltT, q_ltF, q_leT, q_leF, q_eqF, q_eqR, q_mlt, q_mle, q_nlm, q_nLm, q_nem, q_men, q_mlm, Nat.add_zero, Nat.sub_zero, q_add0, pk_rem, nI_add, pk_mul, q_sub, q_subm, q_addm, nI_clamp, q_inT, q_inF, q_sr1, q_srn, q_srw, q_srs, q_wIs, q_wIn, q_wI2, q_wJ1, q_wJs, q_wJn, q_wR1, q_wRs, q_wRn, q_wI22, q_wJ22, pk_us, pk_un, pk_uLs, pk_uLn, q_usS, q_usN, q_ups, q_upn, Bool.true_eq_false, Bool.false_eq_true, q_lt, q_o2, q_o3, q_o4, q_o5, q_bi, ↓reduceIte, q_tv0, q_tv1, q_bz, q_oRl, q_oRr, q_oXl, q_oXr, er, us_us, k1, o.2.2.2.1 t ht]
    · obtain ⟨r, v, hr, er⟩ := draw_ok (m := 3) (by omega) (by omega) (σ 20)
      obtain ⟨μ', ω', a', n, i1, i2, i3, i4, i5, i6, i7⟩ := days_two (D := 1 + r) (by omega) (1 + r) 0 FU FU 0 B d (σ 0) (us σ 20 (wI (σ 20) 0 12 v)) a (by omega) (fu_lt (by omega)) (fu_lt (by omega)) h (by rw [q_usS]; exact o.x12 v) l e2 (by omega) (by omega)
      rw [us_us, Nat.zero_add] at i2
      obtain ⟨τ, k1, k2, _⟩ := jfin (B := B) (d' := d + (1 + r)) (k_days (σ := us σ 20 ω') (a := a) (d := d) (D := 1 + r) (by rw [q_usN (by omega)]; exact h) (hH.c (q_usN (by omega))) (by omega) (by omega) e2 (by omega) (by rw [q_usN (by omega)]; exact i1) i3 i7) (by omega) (by rw [q_usS]; exact i4) i5 i6 hT
      refine ⟨τ, _, d + (1 + r), ?_, k2, by omega⟩
      show f_X13_act_402 x2 (nI i) (nI p) (nI t) (1999 + 1) σ = _
      simp (maxSteps := 2000000) (disch := first | rfl | exact q_e1 _ _ _ | exact q_sr1 _ _ | omega) only [f_X13_act_402, ↓q_m1, q_l0, q_l1, q_l2, q_l3, q_l4, q_l5, q_l6, q_l7, q_l8, q_l9, q_l10, q_l11, q_l12, q_l13, q_l14, q_l15, q_l16, q_l17, q_l18, q_l19, q_l20, q_l21, q_l22, q_l23, q_l24, q_l25, q_l26, q_l27, q_l28, q_l29, q_l30, q_l31, q_l32, q_l33, q_l45, q_l46, q_l48, q_l57, q_l58, q_l59, q_l60, q_l61, q_l62, q_l63, q_l64, q_l96, q_l97, q_l99, q_l122, q_l129, q_l137, q_l255, q_l256, q_l400, q_l680, q_l700, q_l959, q_l999, q_l9999, q_l10000, q_l100000, q_l36, q_l50, q_l100, q_l112, q_l200, q_ltT, q_ltF, q_leT, q_leF, q_eqF, q_eqR, q_mlt, q_mle, q_nlm, q_nLm, q_nem, q_men, q_mlm, Nat.add_zero, Nat.sub_zero, q_add0, pk_rem, nI_add, pk_mul, q_sub, q_subm, q_addm, nI_clamp, q_inT, q_inF, q_sr1, q_srn, q_srw, q_srs, q_wIs, q_wIn, q_wI2, q_wJ1, q_wJs, q_wJn, q_wR1, q_wRs, q_wRn, q_wI22, q_wJ22, pk_us, pk_un, pk_uLs, pk_uLn, q_usS, q_usN, q_ups, q_upn, Bool.true_eq_false, Bool.false_eq_true, q_lt, q_o2, q_o3, q_o4, q_o5, q_bi, ↓reduceIte, q_tv0, q_tv1, q_bz, q_oRl, q_oRr, q_oXl, q_oXr, eq_false c7, eq_false c8, er, i2, k1]
theorem ac_194 (x2 : Int32) (jj : J B S T d σ a) (hB : B + 297 < 2 ^ 31) (hd : d + 3 ≤ 9999) {i p t : Nat} (hi : i < S) (hp : p < S) (ht : t < T) : AC B S T d (f_X13_act_194 x2 (nI i) (nI p) (nI t) FU σ) := by
  obtain ⟨h, o, hH, l, e2, hT⟩ := id jj
  have w := h.2.2.1
  have h8 := w.1.1
  have t8 := w.1.2
  have a402 := ac_402 x2 jj hB hd hi hp ht
  by_cases c4 : x2 = nI 4
  · subst c4
    obtain ⟨ω', rq, f1, f2, f3, f4, f5⟩ := mech_any h.1 w h.2.2.2.1 o
    have := ac_209 (σ := us σ 20 ω') (jj.own (o.kw f2 h8)) f4 (by rw [q_usS]; exact f3) (by rw [q_usN (by omega)]; exact f5)
    have e : f_X13_act_194 (nI 4) (nI i) (nI p) (nI t) (1999 + 1) σ = f_X13_act_209 FU (nI 0) (nI 0) (us σ 20 ω') := by
      simp (maxSteps := 2000000) (disch := first | rfl | exact q_e1 _ _ _ | exact q_sr1 _ _ | omega) only [f_X13_act_194, ↓q_m1, q_l0, q_l1, q_l2, q_l3, q_l4, q_l5, q_l6, q_l7, q_l8, q_l9, q_l10, q_l11, q_l12, q_l13, q_l14, q_l15, q_l16, q_l17, q_l18, q_l19, q_l20, q_l21, q_l22, q_l23, q_l24, q_l25, q_l26, q_l27, q_l28, q_l29, q_l30, q_l31, q_l32, q_l33, q_l45, q_l46, q_l48, q_l57, q_l58, q_l59, q_l60, q_l61, q_l62, q_l63, q_l64, q_l96, q_l97, q_l99, q_l122, q_l129, q_l137, q_l255, q_l256, q_l400, q_l680, q_l700, q_l959, q_l999, q_l9999, q_l10000, q_l100000, q_l36, q_l50, q_l100, q_l112, q_l200, q_ltT, q_ltF, q_leT, q_leF, q_eqF, q_eqR, q_mlt, q_mle, q_nlm, q_nLm, q_nem, q_men, q_mlm, Nat.add_zero, Nat.sub_zero, q_add0, pk_rem, nI_add, pk_mul, q_sub, q_subm, q_addm, nI_clamp, q_inT, q_inF, q_sr1, q_srn, q_srw, q_srs, q_wIs, q_wIn, q_wI2, q_wJ1, q_wJs, q_wJn, q_wR1, q_wRs, q_wRn, q_wI22, q_wJ22, pk_us, pk_un, pk_uLs, pk_uLn, q_usS, q_usN, q_ups, q_upn, Bool.true_eq_false, Bool.false_eq_true, q_lt, q_o2, q_o3, q_o4, q_o5, q_bi, ↓reduceIte, q_tv0, q_tv1, q_bz, q_oRl, q_oRr, q_oXl, q_oXr, f1]
    rw [show f_X13_act_194 (nI 4) (nI i) (nI p) (nI t) FU σ = _ from e]
    exact this
  · by_cases c5 : x2 = nI 5
    · subst c5
      obtain ⟨q, n, n1, n2, n3, n4⟩ := fst_pn h hi ht
      obtain ⟨ω', f1, f2, f3⟩ := o_first o w hi n1 n3 n4
      have el : ∀ x, x < 25 → lsA a i n (fsF a i t q) x = a x := fun x hx => lsA_o a i n _ x (by omega)
      obtain ⟨τ, k1, k2, k3⟩ := jfin (B := B) (d' := d) (k_first (σ := us σ 20 ω') (a := a) (by rw [q_usN (by omega)]; exact h) (hH.c (q_usN (by omega))) hi ht n1 n2 n3 n4) (by omega) (by rw [q_usS]; exact f2) (l.same (fun j hj => lsA_o a i n _ _ (by omega)) (el _ (by omega)) (el _ (by omega)) (el _ (by omega))) (by rw [el _ (by omega)]; exact e2) hT
      rw [q_usS] at k3
      refine ⟨τ, _, d, ?_, k2, by omega⟩
      show f_X13_act_194 (nI 5) (nI i) (nI p) (nI t) (1999 + 1) σ = _
      simp (maxSteps := 2000000) (disch := first | rfl | exact q_e1 _ _ _ | exact q_sr1 _ _ | omega) only [f_X13_act_194, ↓q_m1, q_l0, q_l1, q_l2, q_l3, q_l4, q_l5, q_l6, q_l7, q_l8, q_l9, q_l10, q_l11, q_l12, q_l13, q_l14, q_l15, q_l16, q_l17, q_l18, q_l19, q_l20, q_l21, q_l22, q_l23, q_l24, q_l25, q_l26, q_l27, q_l28, q_l29, q_l30, q_l31, q_l32, q_l33, q_l45, q_l46, q_l48, q_l57, q_l58, q_l59, q_l60, q_l61, q_l62, q_l63, q_l64, q_l96, q_l97, q_l99, q_l122, q_l129, q_l137, q_l255, q_l256, q_l400, q_l680, q_l700, q_l959, q_l999, q_l9999, q_l10000, q_l100000, q_l36, q_l50, q_l100, q_l112, q_l200, q_ltT, q_ltF, q_leT, q_leF, q_eqF, q_eqR, q_mlt, q_mle, q_nlm, q_nLm, q_nem, q_men, q_mlm, Nat.add_zero, Nat.sub_zero, q_add0, pk_rem, nI_add, pk_mul, q_sub, q_subm, q_addm, nI_clamp, q_inT, q_inF, q_sr1, q_srn, q_srw, q_srs, q_wIs, q_wIn, q_wI2, q_wJ1, q_wJs, q_wJn, q_wR1, q_wRs, q_wRn, q_wI22, q_wJ22, pk_us, pk_un, pk_uLs, pk_uLn, q_usS, q_usN, q_ups, q_upn, Bool.true_eq_false, Bool.false_eq_true, q_lt, q_o2, q_o3, q_o4, q_o5, q_bi, ↓reduceIte, q_tv0, q_tv1, q_bz, q_oRl, q_oRr, q_oXl, q_oXr, f1, k1, k3, f3]
    · by_cases c6 : x2 = nI 6
      · subst c6
        rcases rk_cases a i (nI t) with c | ⟨r, hr, hv⟩
        · have e : f_X13_act_194 (nI 6) (nI i) (nI p) (nI t) (1999 + 1) σ = f_X13_act_402 (nI 6) (nI i) (nI p) (nI t) FU σ := by
            simp (maxSteps := 2000000) (disch := first | rfl | exact q_e1 _ _ _ | exact q_sr1 _ _ | omega) only [f_X13_act_194, ↓q_m1, q_l0, q_l1, q_l2, q_l3, q_l4, q_l5, q_l6, q_l7, q_l8, q_l9, q_l10, q_l11, q_l12, q_l13, q_l14, q_l15, q_l16, q_l17, q_l18, q_l19, q_l20, q_l21, q_l22, q_l23, q_l24, q_l25, q_l26, q_l27, q_l28, q_l29, q_l30, q_l31, q_l32, q_l33, q_l45, q_l46, q_l48, q_l57, q_l58, q_l59, q_l60, q_l61, q_l62, q_l63, q_l64, q_l96, q_l97, q_l99, q_l122, q_l129, q_l137, q_l255, q_l256, q_l400, q_l680, q_l700, q_l959, q_l999, q_l9999, q_l10000, q_l100000, q_l36, q_l50, q_l100, q_l112, q_l200, q_ltT, q_ltF, q_leT, q_leF, q_eqF, q_eqR, q_mlt, q_mle, q_nlm, q_nLm, q_nem, q_men, q_mlm, Nat.add_zero, Nat.sub_zero, q_add0, pk_rem, nI_add, pk_mul, q_sub, q_subm, q_addm, nI_clamp, q_inT, q_inF, q_sr1, q_srn, q_srw, q_srs, q_wIs, q_wIn, q_wI2, q_wJ1, q_wJs, q_wJn, q_wR1, q_wRs, q_wRn, q_wI22, q_wJ22, pk_us, pk_un, pk_uLs, pk_uLn, q_usS, q_usN, q_ups, q_upn, Bool.true_eq_false, Bool.false_eq_true, q_lt, q_o2, q_o3, q_o4, q_o5, q_bi, ↓reduceIte, q_tv0, q_tv1, q_bz, q_oRl, q_oRr, q_oXl, q_oXr, o_rank o w hi, c]
          rw [show f_X13_act_194 (nI 6) (nI i) (nI p) (nI t) FU σ = _ from e]
          exact a402
        · obtain ⟨f1, σ', f2, f3, f4, f5⟩ := o_drop o w hi hr hv
          have hl := w.2.1 i hi
          have el : ∀ x, x < 25 → lsA a i (ln a i - 1) (drF a i r) x = a x := fun x hx => lsA_o a i _ _ x (by omega)
          obtain ⟨τ, k1, k2, k3⟩ := jfin (B := B) (d' := d) (k_drop (σ := σ') (a := a) (by rw [f3 0 (by omega)]; exact h) (hH.c (f3 16 (by omega))) hi ht hr hv) (by omega) f4 (l.same (fun j hj => lsA_o a i _ _ _ (by omega)) (el _ (by omega)) (el _ (by omega)) (el _ (by omega))) (by rw [el _ (by omega)]; exact e2) hT
          refine ⟨τ, _, d, ?_, k2, by omega⟩
          show f_X13_act_194 (nI 6) (nI i) (nI p) (nI t) (1999 + 1) σ = _
          have e6 : (σ 20).1 6 i = nI (ln a i) := (o.2.1 i hi).2.2.2.trans hl.2
          simp (maxSteps := 2000000) (disch := first | rfl | exact q_e1 _ _ _ | exact q_sr1 _ _ | omega) only [f_X13_act_194, ↓q_m1, q_l0, q_l1, q_l2, q_l3, q_l4, q_l5, q_l6, q_l7, q_l8, q_l9, q_l10, q_l11, q_l12, q_l13, q_l14, q_l15, q_l16, q_l17, q_l18, q_l19, q_l20, q_l21, q_l22, q_l23, q_l24, q_l25, q_l26, q_l27, q_l28, q_l29, q_l30, q_l31, q_l32, q_l33, q_l45, q_l46, q_l48, q_l57, q_l58, q_l59, q_l60, q_l61, q_l62, q_l63, q_l64, q_l96, q_l97, q_l99, q_l122, q_l129, q_l137, q_l255, q_l256, q_l400, q_l680, q_l700, q_l959, q_l999, q_l9999, q_l10000, q_l100000, q_l36, q_l50, q_l100, q_l112, q_l200, q_ltT, q_ltF, q_leT, q_leF, q_eqF, q_eqR, q_mlt, q_mle, q_nlm, q_nLm, q_nem, q_men, q_mlm, Nat.add_zero, Nat.sub_zero, q_add0, pk_rem, nI_add, pk_mul, q_sub, q_subm, q_addm, nI_clamp, q_inT, q_inF, q_sr1, q_srn, q_srw, q_srs, q_wIs, q_wIn, q_wI2, q_wJ1, q_wJs, q_wJn, q_wR1, q_wRs, q_wRn, q_wI22, q_wJ22, pk_us, pk_un, pk_uLs, pk_uLn, q_usS, q_usN, q_ups, q_upn, Bool.true_eq_false, Bool.false_eq_true, q_lt, q_o2, q_o3, q_o4, q_o5, q_bi, ↓reduceIte, q_tv0, q_tv1, q_bz, q_oRl, q_oRr, q_oXl, q_oXr, o_rank o w hi, hv, e6, f1, f2, k1, k3, f5]
      · have e : f_X13_act_194 x2 (nI i) (nI p) (nI t) (1999 + 1) σ = f_X13_act_402 x2 (nI i) (nI p) (nI t) FU σ := by
          simp (maxSteps := 2000000) (disch := first | rfl | exact q_e1 _ _ _ | exact q_sr1 _ _ | omega) only [f_X13_act_194, ↓q_m1, q_l0, q_l1, q_l2, q_l3, q_l4, q_l5, q_l6, q_l7, q_l8, q_l9, q_l10, q_l11, q_l12, q_l13, q_l14, q_l15, q_l16, q_l17, q_l18, q_l19, q_l20, q_l21, q_l22, q_l23, q_l24, q_l25, q_l26, q_l27, q_l28, q_l29, q_l30, q_l31, q_l32, q_l33, q_l45, q_l46, q_l48, q_l57, q_l58, q_l59, q_l60, q_l61, q_l62, q_l63, q_l64, q_l96, q_l97, q_l99, q_l122, q_l129, q_l137, q_l255, q_l256, q_l400, q_l680, q_l700, q_l959, q_l999, q_l9999, q_l10000, q_l100000, q_l36, q_l50, q_l100, q_l112, q_l200, q_ltT, q_ltF, q_leT, q_leF, q_eqF, q_eqR, q_mlt, q_mle, q_nlm, q_nLm, q_nem, q_men, q_mlm, Nat.add_zero, Nat.sub_zero, q_add0, pk_rem, nI_add, pk_mul, q_sub, q_subm, q_addm, nI_clamp, q_inT, q_inF, q_sr1, q_srn, q_srw, q_srs, q_wIs, q_wIn, q_wI2, q_wJ1, q_wJs, q_wJn, q_wR1, q_wRs, q_wRn, q_wI22, q_wJ22, pk_us, pk_un, pk_uLs, pk_uLn, q_usS, q_usN, q_ups, q_upn, Bool.true_eq_false, Bool.false_eq_true, q_lt, q_o2, q_o3, q_o4, q_o5, q_bi, ↓reduceIte, q_tv0, q_tv1, q_bz, q_oRl, q_oRr, q_oXl, q_oXr, eq_false c4, eq_false c5, eq_false c6]
        rw [show f_X13_act_194 x2 (nI i) (nI p) (nI t) FU σ = _ from e]
        exact a402
theorem ac_135 (x2 : Int32) (jj : J B S T d σ a) (hB : B + 297 < 2 ^ 31) (hd : d + 3 ≤ 9999) {i p t : Nat} (hi : i < S) (hp : p < S) (ht : t < T) : AC B S T d (f_X13_act_135 x2 (nI i) (nI p) (nI t) (a (25 + 13 * i + 3)) FU σ) := by
  obtain ⟨h, o, hH, l, e2, hT⟩ := id jj
  have w := h.2.2.1
  have h8 := w.1.1
  have t8 := w.1.2
  have a194 := ac_194 x2 jj hB hd hi hp ht
  by_cases c3 : x2 = nI 3
  · subst c3
    cases hb : bth a i p with
    | false =>
      have e : f_X13_act_135 (nI 3) (nI i) (nI p) (nI t) (a (25 + 13 * i + 3)) (1999 + 1) σ = f_X13_act_194 (nI 3) (nI i) (nI p) (nI t) FU σ := by
        simp (maxSteps := 2000000) (disch := first | rfl | exact q_e1 _ _ _ | exact q_sr1 _ _ | omega) only [f_X13_act_135, ↓q_m1, q_l0, q_l1, q_l2, q_l3, q_l4, q_l5, q_l6, q_l7, q_l8, q_l9, q_l10, q_l11, q_l12, q_l13, q_l14, q_l15, q_l16, q_l17, q_l18, q_l19, q_l20, q_l21, q_l22, q_l23, q_l24, q_l25, q_l26, q_l27, q_l28, q_l29, q_l30, q_l31, q_l32, q_l33, q_l45, q_l46, q_l48, q_l57, q_l58, q_l59, q_l60, q_l61, q_l62, q_l63, q_l64, q_l96, q_l97, q_l99, q_l122, q_l129, q_l137, q_l255, q_l256, q_l400, q_l680, q_l700, q_l959, q_l999, q_l9999, q_l10000, q_l100000, q_l36, q_l50, q_l100, q_l112, q_l200, q_ltT, q_ltF, q_leT, q_leF, q_eqF, q_eqR, q_mlt, q_mle, q_nlm, q_nLm, q_nem, q_men, q_mlm, Nat.add_zero, Nat.sub_zero, q_add0, pk_rem, nI_add, pk_mul, q_sub, q_subm, q_addm, nI_clamp, q_inT, q_inF, q_sr1, q_srn, q_srw, q_srs, q_wIs, q_wIn, q_wI2, q_wJ1, q_wJs, q_wJn, q_wR1, q_wRs, q_wRn, q_wI22, q_wJ22, pk_us, pk_un, pk_uLs, pk_uLn, q_usS, q_usN, q_ups, q_upn, Bool.true_eq_false, Bool.false_eq_true, q_lt, q_o2, q_o3, q_o4, q_o5, q_bi, ↓reduceIte, q_tv0, q_tv1, q_bz, q_oRl, q_oRr, q_oXl, q_oXr, o_both o w hi hp, hb]
      rw [show f_X13_act_135 (nI 3) (nI i) (nI p) (nI t) (a (25 + 13 * i + 3)) FU σ = _ from e]
      exact a194
    | true =>
      have hne := (bth_t hb).1
      have o1 := (o.seat w hi (a (25 + 13 * p + 3)))
      have w1 : WL S T (upd a (25 + 13 * i + 3) (a (25 + 13 * p + 3))) := by
        obtain ⟨w1, w2, w3, w4⟩ := w
        have el : ∀ j, j < S → ln (upd a (25 + 13 * i + 3) (a (25 + 13 * p + 3))) j = ln a j := fun j hj => ln_eq (pk_un (by omega))
        refine ⟨w1, fun j hj => ?_, fun j k hj hk => ?_, fun j hj => ?_⟩
        · rw [el j hj, pk_un (by omega)]; exact w2 j hj
        · rw [el j hj] at hk
          have := (w2 j hj).1
          rw [pk_un (by omega)]; exact w3 j k hj hk
        · by_cases e : j = i
          · subst e; rw [pk_us]; exact w4 p hp
          · rw [pk_un (by omega)]; exact w4 j hj
      have o2 := (o1.seat w1 hp (a (25 + 13 * i + 3)))
      have o3 : OW S T (wI (wI (σ 20) 5 i (a (25 + 13 * p + 3))) 5 p (a (25 + 13 * i + 3))) (swA a i p) := o2
        |>.plc (by
          obtain ⟨w1, w2, w3, w4⟩ := w1
          have el : ∀ j, j < S → ln (upd (upd a (25 + 13 * i + 3) (a (25 + 13 * p + 3))) (25 + 13 * p + 3) (a (25 + 13 * i + 3))) j = ln (upd a (25 + 13 * i + 3) (a (25 + 13 * p + 3))) j := fun j hj => ln_eq (pk_un (by omega))
          refine ⟨w1, fun j hj => ?_, fun j k hj hk => ?_, fun j hj => ?_⟩
          · rw [el j hj, pk_un (by omega)]; exact w2 j hj
          · rw [el j hj] at hk
            have := (w2 j hj).1
            rw [pk_un (by omega)]; exact w3 j k hj hk
          · by_cases e : j = p
            · subst e; rw [pk_us]; exact w.2.2.2 i hi
            · rw [pk_un (by omega)]; exact w4 j hj) (fun _ _ => rfl) (fun x hx _ => by rw [swA, pk_un (by omega)]) (fun j hj => by rw [swA, pk_un (by omega)]; exact (o2.2.1 j hj).2.2.1)
      have sw : ∀ x, x ≠ 5 → x ≠ 6 → (∀ j, j < S → x ≠ 25 + 13 * j + 3) → swA a i p x = a x := fun x h5 _ hx => by rw [swA, pk_un h5, pk_un (hx p hp), pk_un (hx i hi)]
      obtain ⟨τ, k1, k2, k3⟩ := jfin (B := B) (d' := d) (k_swap (σ := us σ 20 (wI (wI (σ 20) 5 i (a (25 + 13 * p + 3))) 5 p (a (25 + 13 * i + 3)))) (a := a) (by rw [q_usN (by omega)]; exact h) (hH.c (q_usN (by omega))) hi hp hb) (by omega) (by rw [q_usS]; exact o3) (l.plc h8 sw) (by rw [sw 2 (by omega) (by omega) (fun j hj => by omega)]; exact e2) hT
      rw [q_usS] at k3
      refine ⟨τ, _, d, ?_, k2, by omega⟩
      show f_X13_act_135 (nI 3) (nI i) (nI p) (nI t) (a (25 + 13 * i + 3)) (1999 + 1) σ = _
      simp (maxSteps := 2000000) (disch := first | rfl | exact q_e1 _ _ _ | exact q_sr1 _ _ | omega) only [f_X13_act_135, ↓q_m1, q_l0, q_l1, q_l2, q_l3, q_l4, q_l5, q_l6, q_l7, q_l8, q_l9, q_l10, q_l11, q_l12, q_l13, q_l14, q_l15, q_l16, q_l17, q_l18, q_l19, q_l20, q_l21, q_l22, q_l23, q_l24, q_l25, q_l26, q_l27, q_l28, q_l29, q_l30, q_l31, q_l32, q_l33, q_l45, q_l46, q_l48, q_l57, q_l58, q_l59, q_l60, q_l61, q_l62, q_l63, q_l64, q_l96, q_l97, q_l99, q_l122, q_l129, q_l137, q_l255, q_l256, q_l400, q_l680, q_l700, q_l959, q_l999, q_l9999, q_l10000, q_l100000, q_l36, q_l50, q_l100, q_l112, q_l200, q_ltT, q_ltF, q_leT, q_leF, q_eqF, q_eqR, q_mlt, q_mle, q_nlm, q_nLm, q_nem, q_men, q_mlm, Nat.add_zero, Nat.sub_zero, q_add0, pk_rem, nI_add, pk_mul, q_sub, q_subm, q_addm, nI_clamp, q_inT, q_inF, q_sr1, q_srn, q_srw, q_srs, q_wIs, q_wIn, q_wI2, q_wJ1, q_wJs, q_wJn, q_wR1, q_wRs, q_wRn, q_wI22, q_wJ22, pk_us, pk_un, pk_uLs, pk_uLn, q_usS, q_usN, q_ups, q_upn, Bool.true_eq_false, Bool.false_eq_true, q_lt, q_o2, q_o3, q_o4, q_o5, q_bi, ↓reduceIte, q_tv0, q_tv1, q_bz, q_oRl, q_oRr, q_oXl, q_oXr, o_both o w hi hp, hb, (o.2.1 p hp).2.2.1, us_us, k1, k3]
  · have e : f_X13_act_135 x2 (nI i) (nI p) (nI t) (a (25 + 13 * i + 3)) (1999 + 1) σ = f_X13_act_194 x2 (nI i) (nI p) (nI t) FU σ := by
      simp (maxSteps := 2000000) (disch := first | rfl | exact q_e1 _ _ _ | exact q_sr1 _ _ | omega) only [f_X13_act_135, ↓q_m1, q_l0, q_l1, q_l2, q_l3, q_l4, q_l5, q_l6, q_l7, q_l8, q_l9, q_l10, q_l11, q_l12, q_l13, q_l14, q_l15, q_l16, q_l17, q_l18, q_l19, q_l20, q_l21, q_l22, q_l23, q_l24, q_l25, q_l26, q_l27, q_l28, q_l29, q_l30, q_l31, q_l32, q_l33, q_l45, q_l46, q_l48, q_l57, q_l58, q_l59, q_l60, q_l61, q_l62, q_l63, q_l64, q_l96, q_l97, q_l99, q_l122, q_l129, q_l137, q_l255, q_l256, q_l400, q_l680, q_l700, q_l959, q_l999, q_l9999, q_l10000, q_l100000, q_l36, q_l50, q_l100, q_l112, q_l200, q_ltT, q_ltF, q_leT, q_leF, q_eqF, q_eqR, q_mlt, q_mle, q_nlm, q_nLm, q_nem, q_men, q_mlm, Nat.add_zero, Nat.sub_zero, q_add0, pk_rem, nI_add, pk_mul, q_sub, q_subm, q_addm, nI_clamp, q_inT, q_inF, q_sr1, q_srn, q_srw, q_srs, q_wIs, q_wIn, q_wI2, q_wJ1, q_wJs, q_wJn, q_wR1, q_wRs, q_wRn, q_wI22, q_wJ22, pk_us, pk_un, pk_uLs, pk_uLn, q_usS, q_usN, q_ups, q_upn, Bool.true_eq_false, Bool.false_eq_true, q_lt, q_o2, q_o3, q_o4, q_o5, q_bi, ↓reduceIte, q_tv0, q_tv1, q_bz, q_oRl, q_oRr, q_oXl, q_oXr, eq_false c3]
    rw [show f_X13_act_135 x2 (nI i) (nI p) (nI t) (a (25 + 13 * i + 3)) FU σ = _ from e]
    exact a194
theorem ac_101 (x2 : Int32) (jj : J B S T d σ a) (hB : B + 297 < 2 ^ 31) (hd : d + 3 ≤ 9999) {i p t : Nat} (hi : i < S) (hp : p < S) (ht : t < T) : AC B S T d (f_X13_act_101 (a (25 + 13 * i + 3)) (nI t) (nI p) (nI i) x2 FU σ) := by
  obtain ⟨h, o, hH, l, e2, hT⟩ := id jj
  have w := h.2.2.1
  have h8 := w.1.1
  have t8 := w.1.2
  have a135 := ac_135 x2 jj hB hd hi hp ht
  by_cases c2 : x2 = nI 2
  · subst c2
    by_cases c : a (25 + 13 * i + 3) = m1
    · have e : f_X13_act_101 (a (25 + 13 * i + 3)) (nI t) (nI p) (nI i) (nI 2) (1999 + 1) σ = f_X13_act_135 (nI 2) (nI i) (nI p) (nI t) (a (25 + 13 * i + 3)) FU σ := by
        simp (maxSteps := 2000000) (disch := first | rfl | exact q_e1 _ _ _ | exact q_sr1 _ _ | omega) only [f_X13_act_101, ↓q_m1, q_l0, q_l1, q_l2, q_l3, q_l4, q_l5, q_l6, q_l7, q_l8, q_l9, q_l10, q_l11, q_l12, q_l13, q_l14, q_l15, q_l16, q_l17, q_l18, q_l19, q_l20, q_l21, q_l22, q_l23, q_l24, q_l25, q_l26, q_l27, q_l28, q_l29, q_l30, q_l31, q_l32, q_l33, q_l45, q_l46, q_l48, q_l57, q_l58, q_l59, q_l60, q_l61, q_l62, q_l63, q_l64, q_l96, q_l97, q_l99, q_l122, q_l129, q_l137, q_l255, q_l256, q_l400, q_l680, q_l700, q_l959, q_l999, q_l9999, q_l10000, q_l100000, q_l36, q_l50, q_l100, q_l112, q_l200, q_ltT, q_ltF, q_leT, q_leF, q_eqF, q_eqR, q_mlt, q_mle, q_nlm, q_nLm, q_nem, q_men, q_mlm, Nat.add_zero, Nat.sub_zero, q_add0, pk_rem, nI_add, pk_mul, q_sub, q_subm, q_addm, nI_clamp, q_inT, q_inF, q_sr1, q_srn, q_srw, q_srs, q_wIs, q_wIn, q_wI2, q_wJ1, q_wJs, q_wJn, q_wR1, q_wRs, q_wRn, q_wI22, q_wJ22, pk_us, pk_un, pk_uLs, pk_uLn, q_usS, q_usN, q_ups, q_upn, Bool.true_eq_false, Bool.false_eq_true, q_lt, q_o2, q_o3, q_o4, q_o5, q_bi, ↓reduceIte, q_tv0, q_tv1, q_bz, q_oRl, q_oRr, q_oXl, q_oXr, eq_true c]
      rw [show f_X13_act_101 (a (25 + 13 * i + 3)) (nI t) (nI p) (nI i) (nI 2) FU σ = _ from e]
      exact a135
    · obtain ⟨τ, k1, k2, _⟩ := jfin (B := B) (d' := d) (k_vacate (σ := us σ 20 (wI (σ 20) 5 i m1)) (a := a) (by rw [q_usN (by omega)]; exact h) (hH.c (q_usN (by omega))) hi c) (by omega) (by rw [q_usS]; exact o.seat w hi m1) (l.plc h8 (fun x _ _ hx => pk_un (hx i hi))) (by rw [pk_un (by omega)]; exact e2) hT
      refine ⟨τ, _, d, ?_, k2, by omega⟩
      show f_X13_act_101 (a (25 + 13 * i + 3)) (nI t) (nI p) (nI i) (nI 2) (1999 + 1) σ = _
      simp (maxSteps := 2000000) (disch := first | rfl | exact q_e1 _ _ _ | exact q_sr1 _ _ | omega) only [f_X13_act_101, ↓q_m1, q_l0, q_l1, q_l2, q_l3, q_l4, q_l5, q_l6, q_l7, q_l8, q_l9, q_l10, q_l11, q_l12, q_l13, q_l14, q_l15, q_l16, q_l17, q_l18, q_l19, q_l20, q_l21, q_l22, q_l23, q_l24, q_l25, q_l26, q_l27, q_l28, q_l29, q_l30, q_l31, q_l32, q_l33, q_l45, q_l46, q_l48, q_l57, q_l58, q_l59, q_l60, q_l61, q_l62, q_l63, q_l64, q_l96, q_l97, q_l99, q_l122, q_l129, q_l137, q_l255, q_l256, q_l400, q_l680, q_l700, q_l959, q_l999, q_l9999, q_l10000, q_l100000, q_l36, q_l50, q_l100, q_l112, q_l200, q_ltT, q_ltF, q_leT, q_leF, q_eqF, q_eqR, q_mlt, q_mle, q_nlm, q_nLm, q_nem, q_men, q_mlm, Nat.add_zero, Nat.sub_zero, q_add0, pk_rem, nI_add, pk_mul, q_sub, q_subm, q_addm, nI_clamp, q_inT, q_inF, q_sr1, q_srn, q_srw, q_srs, q_wIs, q_wIn, q_wI2, q_wJ1, q_wJs, q_wJn, q_wR1, q_wRs, q_wRn, q_wI22, q_wJ22, pk_us, pk_un, pk_uLs, pk_uLn, q_usS, q_usN, q_ups, q_upn, Bool.true_eq_false, Bool.false_eq_true, q_lt, q_o2, q_o3, q_o4, q_o5, q_bi, ↓reduceIte, q_tv0, q_tv1, q_bz, q_oRl, q_oRr, q_oXl, q_oXr, eq_false c, k1]
  · have e : f_X13_act_101 (a (25 + 13 * i + 3)) (nI t) (nI p) (nI i) x2 (1999 + 1) σ = f_X13_act_135 x2 (nI i) (nI p) (nI t) (a (25 + 13 * i + 3)) FU σ := by
      simp (maxSteps := 2000000) (disch := first | rfl | exact q_e1 _ _ _ | exact q_sr1 _ _ | omega) only [f_X13_act_101, ↓q_m1, q_l0, q_l1, q_l2, q_l3, q_l4, q_l5, q_l6, q_l7, q_l8, q_l9, q_l10, q_l11, q_l12, q_l13, q_l14, q_l15, q_l16, q_l17, q_l18, q_l19, q_l20, q_l21, q_l22, q_l23, q_l24, q_l25, q_l26, q_l27, q_l28, q_l29, q_l30, q_l31, q_l32, q_l33, q_l45, q_l46, q_l48, q_l57, q_l58, q_l59, q_l60, q_l61, q_l62, q_l63, q_l64, q_l96, q_l97, q_l99, q_l122, q_l129, q_l137, q_l255, q_l256, q_l400, q_l680, q_l700, q_l959, q_l999, q_l9999, q_l10000, q_l100000, q_l36, q_l50, q_l100, q_l112, q_l200, q_ltT, q_ltF, q_leT, q_leF, q_eqF, q_eqR, q_mlt, q_mle, q_nlm, q_nLm, q_nem, q_men, q_mlm, Nat.add_zero, Nat.sub_zero, q_add0, pk_rem, nI_add, pk_mul, q_sub, q_subm, q_addm, nI_clamp, q_inT, q_inF, q_sr1, q_srn, q_srw, q_srs, q_wIs, q_wIn, q_wI2, q_wJ1, q_wJs, q_wJn, q_wR1, q_wRs, q_wRn, q_wI22, q_wJ22, pk_us, pk_un, pk_uLs, pk_uLn, q_usS, q_usN, q_ups, q_upn, Bool.true_eq_false, Bool.false_eq_true, q_lt, q_o2, q_o3, q_o4, q_o5, q_bi, ↓reduceIte, q_tv0, q_tv1, q_bz, q_oRl, q_oRr, q_oXl, q_oXr, eq_false c2]
    rw [show f_X13_act_101 (a (25 + 13 * i + 3)) (nI t) (nI p) (nI i) x2 FU σ = _ from e]
    exact a135
theorem act_k (k : Nat) (hk : k < 10) (jj : J B S T d σ a) (hB : B + 297 < 2 ^ 31) (hd : d + 3 ≤ 9999) {i p t : Nat} (hi : i < S) (hp : p < S) (ht : t < T) : AC B S T d ((if inb (nI i) 8 = true then (lt (((σ 20).1 5 (Int32.toNatClampNeg (nI i)))) fun i13 => (if 2 ≤ (nI k) then (f_X13_act_101 i13 (nI t) (nI p) (nI i) (nI k) FU σ) else ((f_X13_tenant (nI t) (σ 20)).bind fun r89 => (if r89 = (-1) then (if inb (nI t) 8 = true then (if inb (nI i) 8 = true then (if ((σ 20).1 3 (Int32.toNatClampNeg (nI i))) < ((σ 20).1 2 (Int32.toNatClampNeg (nI t))) then (f_X13_act_101 i13 (nI t) (nI p) (nI i) (nI k) FU σ) else (if inb (nI i) 8 = true then (lt (us σ 20 (wI (σ 20) 5 (Int32.toNatClampNeg (nI i)) (nI t))) fun σ92 => (o2 (f_X12_assign (nI i) (nI t) σ92) fun r93 σ94 => (if r93 = i13 then (some (1, σ94)) else none))) else none)) else none) else none) else (f_X13_act_101 i13 (nI t) (nI p) (nI i) (nI k) FU σ))))) else none)) := by
  obtain ⟨h, o, hH, l, e2, hT⟩ := id jj
  have w := h.2.2.1
  have h8 := w.1.1
  have t8 := w.1.2
  have a101 := ac_101 (nI k) jj hB hd hi hp ht
  have e5 : (σ 20).1 5 i = a (25 + 13 * i + 3) := (o.2.1 i hi).2.2.1
  by_cases c : 2 ≤ k
  · simp (maxSteps := 2000000) (disch := first | rfl | exact q_e1 _ _ _ | exact q_sr1 _ _ | omega) only [↓q_m1, q_l0, q_l1, q_l2, q_l3, q_l4, q_l5, q_l6, q_l7, q_l8, q_l9, q_l10, q_l11, q_l12, q_l13, q_l14, q_l15, q_l16, q_l17, q_l18, q_l19, q_l20, q_l21, q_l22, q_l23, q_l24, q_l25, q_l26, q_l27, q_l28, q_l29, q_l30, q_l31, q_l32, q_l33, q_l45, q_l46, q_l48, q_l57, q_l58, q_l59, q_l60, q_l61, q_l62, q_l63, q_l64, q_l96, q_l97, q_l99, q_l122, q_l129, q_l137, q_l255, q_l256, q_l400, q_l680, q_l700, q_l959, q_l999, q_l9999, q_l10000, q_l100000, q_l36, q_l50, q_l100, q_l112, q_l200, q_ltT, q_ltF, q_leT, q_leF, q_eqF, q_eqR, q_mlt, q_mle, q_nlm, q_nLm, q_nem, q_men, q_mlm, Nat.add_zero, Nat.sub_zero, q_add0, pk_rem, nI_add, pk_mul, q_sub, q_subm, q_addm, nI_clamp, q_inT, q_inF, q_sr1, q_srn, q_srw, q_srs, q_wIs, q_wIn, q_wI2, q_wJ1, q_wJs, q_wJn, q_wR1, q_wRs, q_wRn, q_wI22, q_wJ22, pk_us, pk_un, pk_uLs, pk_uLn, q_usS, q_usN, q_ups, q_upn, Bool.true_eq_false, Bool.false_eq_true, q_lt, q_o2, q_o3, q_o4, q_o5, q_bi, ↓reduceIte, q_tv0, q_tv1, q_bz, q_oRl, q_oRr, q_oXl, q_oXr, e5]
    exact a101
  · by_cases c1 : occ S a (nI t) = m1
    · by_cases c2 : a (25 + 13 * i + 1) < a (9 + 2 * t + 1)
      · simp (maxSteps := 2000000) (disch := first | rfl | exact q_e1 _ _ _ | exact q_sr1 _ _ | omega) only [↓q_m1, q_l0, q_l1, q_l2, q_l3, q_l4, q_l5, q_l6, q_l7, q_l8, q_l9, q_l10, q_l11, q_l12, q_l13, q_l14, q_l15, q_l16, q_l17, q_l18, q_l19, q_l20, q_l21, q_l22, q_l23, q_l24, q_l25, q_l26, q_l27, q_l28, q_l29, q_l30, q_l31, q_l32, q_l33, q_l45, q_l46, q_l48, q_l57, q_l58, q_l59, q_l60, q_l61, q_l62, q_l63, q_l64, q_l96, q_l97, q_l99, q_l122, q_l129, q_l137, q_l255, q_l256, q_l400, q_l680, q_l700, q_l959, q_l999, q_l9999, q_l10000, q_l100000, q_l36, q_l50, q_l100, q_l112, q_l200, q_ltT, q_ltF, q_leT, q_leF, q_eqF, q_eqR, q_mlt, q_mle, q_nlm, q_nLm, q_nem, q_men, q_mlm, Nat.add_zero, Nat.sub_zero, q_add0, pk_rem, nI_add, pk_mul, q_sub, q_subm, q_addm, nI_clamp, q_inT, q_inF, q_sr1, q_srn, q_srw, q_srs, q_wIs, q_wIn, q_wI2, q_wJ1, q_wJs, q_wJn, q_wR1, q_wRs, q_wRn, q_wI22, q_wJ22, pk_us, pk_un, pk_uLs, pk_uLn, q_usS, q_usN, q_ups, q_upn, Bool.true_eq_false, Bool.false_eq_true, q_lt, q_o2, q_o3, q_o4, q_o5, q_bi, ↓reduceIte, q_tv0, q_tv1, q_bz, q_oRl, q_oRr, q_oXl, q_oXr, e5, o_tenant o h8, eq_true c1, (o.2.1 i hi).1, o.2.2.2.1 t ht, eq_true c2]
        exact a101
      · obtain ⟨τ, k1, k2, _⟩ := jfin (B := B) (d' := d) (k_assign (σ := us σ 20 (wI (σ 20) 5 i (nI t))) (a := a) (by rw [q_usN (by omega)]; exact h) (hH.c (q_usN (by omega))) hi ht c1 c2) (by omega) (by rw [q_usS]; exact o.seat w hi (nI t)) (l.plc h8 (fun x _ _ hx => pk_un (hx i hi))) (by rw [pk_un (by omega)]; exact e2) hT
        refine ⟨τ, _, d, ?_, k2, by omega⟩
        simp (maxSteps := 2000000) (disch := first | rfl | exact q_e1 _ _ _ | exact q_sr1 _ _ | omega) only [↓q_m1, q_l0, q_l1, q_l2, q_l3, q_l4, q_l5, q_l6, q_l7, q_l8, q_l9, q_l10, q_l11, q_l12, q_l13, q_l14, q_l15, q_l16, q_l17, q_l18, q_l19, q_l20, q_l21, q_l22, q_l23, q_l24, q_l25, q_l26, q_l27, q_l28, q_l29, q_l30, q_l31, q_l32, q_l33, q_l45, q_l46, q_l48, q_l57, q_l58, q_l59, q_l60, q_l61, q_l62, q_l63, q_l64, q_l96, q_l97, q_l99, q_l122, q_l129, q_l137, q_l255, q_l256, q_l400, q_l680, q_l700, q_l959, q_l999, q_l9999, q_l10000, q_l100000, q_l36, q_l50, q_l100, q_l112, q_l200, q_ltT, q_ltF, q_leT, q_leF, q_eqF, q_eqR, q_mlt, q_mle, q_nlm, q_nLm, q_nem, q_men, q_mlm, Nat.add_zero, Nat.sub_zero, q_add0, pk_rem, nI_add, pk_mul, q_sub, q_subm, q_addm, nI_clamp, q_inT, q_inF, q_sr1, q_srn, q_srw, q_srs, q_wIs, q_wIn, q_wI2, q_wJ1, q_wJs, q_wJn, q_wR1, q_wRs, q_wRn, q_wI22, q_wJ22, pk_us, pk_un, pk_uLs, pk_uLn, q_usS, q_usN, q_ups, q_upn, Bool.true_eq_false, Bool.false_eq_true, q_lt, q_o2, q_o3, q_o4, q_o5, q_bi, ↓reduceIte, q_tv0, q_tv1, q_bz, q_oRl, q_oRr, q_oXl, q_oXr, e5, o_tenant o h8, eq_true c1, (o.2.1 i hi).1, o.2.2.2.1 t ht, eq_false c2, k1]
    · simp (maxSteps := 2000000) (disch := first | rfl | exact q_e1 _ _ _ | exact q_sr1 _ _ | omega) only [↓q_m1, q_l0, q_l1, q_l2, q_l3, q_l4, q_l5, q_l6, q_l7, q_l8, q_l9, q_l10, q_l11, q_l12, q_l13, q_l14, q_l15, q_l16, q_l17, q_l18, q_l19, q_l20, q_l21, q_l22, q_l23, q_l24, q_l25, q_l26, q_l27, q_l28, q_l29, q_l30, q_l31, q_l32, q_l33, q_l45, q_l46, q_l48, q_l57, q_l58, q_l59, q_l60, q_l61, q_l62, q_l63, q_l64, q_l96, q_l97, q_l99, q_l122, q_l129, q_l137, q_l255, q_l256, q_l400, q_l680, q_l700, q_l959, q_l999, q_l9999, q_l10000, q_l100000, q_l36, q_l50, q_l100, q_l112, q_l200, q_ltT, q_ltF, q_leT, q_leF, q_eqF, q_eqR, q_mlt, q_mle, q_nlm, q_nLm, q_nem, q_men, q_mlm, Nat.add_zero, Nat.sub_zero, q_add0, pk_rem, nI_add, pk_mul, q_sub, q_subm, q_addm, nI_clamp, q_inT, q_inF, q_sr1, q_srn, q_srw, q_srs, q_wIs, q_wIn, q_wI2, q_wJ1, q_wJs, q_wJn, q_wR1, q_wRs, q_wRn, q_wI22, q_wJ22, pk_us, pk_un, pk_uLs, pk_uLn, q_usS, q_usN, q_ups, q_upn, Bool.true_eq_false, Bool.false_eq_true, q_lt, q_o2, q_o3, q_o4, q_o5, q_bi, ↓reduceIte, q_tv0, q_tv1, q_bz, q_oRl, q_oRr, q_oXl, q_oXr, e5, o_tenant o h8, eq_false c1]
      exact a101
theorem act_ok (jj : J B S T d σ a) (hB : B + 297 < 2 ^ 31) (hd : d + 3 ≤ 9999) : AC B S T d (f_X13_act σ) := by
  have hS := jj.1.2.1
  have hT := jj.2.2.2.2.2
  have h8 := jj.1.2.2.1.1.1
  have t8 := jj.1.2.2.1.1.2
  obtain ⟨r1, v1, h1, e1⟩ := draw_ok (m := 10) (by omega) (by omega) (σ 20)
  have j1 := jj.own (jj.2.1.x12 v1)
  obtain ⟨r2, v2, h2, e2⟩ := draw_ok (m := S) (by omega) (by omega) (us σ 20 (wI (σ 20) 0 12 v1) 20)
  have j2 := j1.own (j1.2.1.x12 v2)
  obtain ⟨r3, v3, h3, e3⟩ := draw_ok (m := S) (by omega) (by omega) (us (us σ 20 (wI (σ 20) 0 12 v1)) 20 (wI (us σ 20 (wI (σ 20) 0 12 v1) 20) 0 12 v2) 20)
  have j3 := j2.own (j2.2.1.x12 v3)
  obtain ⟨r4, v4, h4, e4⟩ := draw_ok (m := T) (by omega) (by omega) (us (us (us σ 20 (wI (σ 20) 0 12 v1)) 20 (wI (us σ 20 (wI (σ 20) 0 12 v1) 20) 0 12 v2)) 20 (wI (us (us σ 20 (wI (σ 20) 0 12 v1)) 20 (wI (us σ 20 (wI (σ 20) 0 12 v1) 20) 0 12 v2) 20) 0 12 v3) 20)
  have j4 := j3.own (j3.2.1.x12 v4)
  have := act_k r1 h1 j4 hB hd h2 h3 h4
  rw [f_X13_act, show (10 : Int32) = nI 10 from rfl, e1, q_o2, q_lt, j1.2.1.1.1, e2, q_o2, q_lt, j2.2.1.1.1, e3, q_o2, q_lt, j3.2.1.1.2.1, e4, q_o2, q_lt]
  exact this
end ACT

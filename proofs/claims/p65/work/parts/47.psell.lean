/-! the class reads the sellers -/
def csum (ω : OM) : Nat → Int32
  | 0 => nI 0
  | i + 1 => csum ω i + ω.1 3 i
/-- the market so far: i sellers, and the one being read with k wishes -/
def PD (T : Nat) (ω μ : OM) (i : Nat) : Prop := (μ.1 0 1 = nI T ∧ ∀ k, 2 ≤ k → k ≤ 8 → k ≠ 7 → μ.1 0 k = nI 0) ∧ (∀ j, j < T → μ.1 9 j = ω.1 2 j ∧ μ.2.1 8 j = lN (112 + j)) ∧
  ∀ j, j < i → μ.2.1 1 j = lN (97 + j) ∧ μ.1 2 j = ω.1 3 j ∧ μ.1 3 j = ω.1 4 j ∧ μ.1 4 j = ω.1 5 j ∧ μ.1 5 j = nI j ∧ μ.1 6 j = ω.1 6 j ∧ ∀ k, k < (ω.1 6 j).toNatClampNeg → μ.1 7 (j * 8 + k) = ω.1 (12 + j) k
def PL (T : Nat) (ω μ : OM) (i : Nat) : Prop := PD T ω μ i ∧ μ.1 0 0 = nI i ∧ μ.1 0 7 = csum ω i
def PW (T : Nat) (ω μ : OM) (i k : Nat) : Prop := PD T ω μ i ∧ μ.1 0 0 = nI (i + 1) ∧ μ.1 0 7 = csum ω (i + 1) ∧ μ.2.1 1 i = lN (97 + i) ∧ μ.1 2 i = ω.1 3 i ∧ μ.1 3 i = ω.1 4 i ∧ μ.1 4 i = m1 ∧ μ.1 5 i = nI i ∧ μ.1 6 i = nI k ∧ ∀ q, q < k → μ.1 7 (i * 8 + q) = ω.1 (12 + i) q
def remW (f : Nat → Int32) : Nat → Nat → List Nat → List Nat
  | 0, _, Z => Z
  | r + 1, k, Z => sp 1 ++ ([112 + (f k).toNatClampNeg] ++ remW f r (k + 1) Z)
def plZ (v : Int32) (Y : List Nat) : List Nat := if v = m1 then sp 0 ++ 59 :: Y else sp 1 ++ (sBw 3 ++ (sp 1 ++ ([112 + v.toNatClampNeg] ++ (sp 0 ++ 59 :: Y))))
theorem remW_eq (f : Nat → Int32) (Z : List Nat) : ∀ r k, wis f k ++ remW f r k Z = wis f (k + r) ++ Z
  | 0, t => rfl
  | r + 1, t => by
    have h := remW_eq f Z r (t + 1)
    rw [show t + (r + 1) = t + 1 + r by omega, ← h, remW, wis]
    simp [sp]
/-- the token after the numbers, at the wish k of n -/
def PQ (β : OM) (v : Int32) (Y : List Nat) (τ : OM) : Prop := if v = m1 then TS β τ Y else TW β τ (sBw 3) (sp 1 ++ ([112 + v.toNatClampNeg] ++ (sp 0 ++ 59 :: Y)))
def WQ (β : OM) (f : Nat → Int32) (r k : Nat) (v : Int32) (Y : List Nat) (τ : OM) : Prop := match r with
  | 0 => PQ β v Y τ
  | r + 1 => TW β τ [112 + (f k).toNatClampNeg] (remW f r (k + 1) (plZ v Y))
section PSL
variable {T : Nat} {β τ μ π ω : OM} {W Y : List Nat} {Q : OM → Prop}
theorem sB3_ne : (sBw 3 : List Nat) ≠ [] := fun q => by have := sB_ln.2.2.2.2.2.2.2.1; rw [q] at this; cases this
theorem nx_pq {v : Int32} (hv : v = m1 ∨ ∃ t, t < 8 ∧ v = nI t) : NX β (plZ v Y) (PQ β v Y) := by
  rcases hv with rfl | ⟨t, ht, rfl⟩
  · have e : plZ m1 Y = sp 0 ++ 59 :: Y := if_pos rfl
    have e2 : PQ β m1 Y = fun τ => TS β τ Y := by funext τ; exact if_pos rfl
    rw [e, e2]; exact nx_s
  · have c : ¬ nI t = m1 := fun q => (q_nem (show t < 2 ^ 31 by omega)).mp q
    have e : plZ (nI t) Y = sp 1 ++ (sBw 3 ++ (sp 1 ++ ([112 + (nI t).toNatClampNeg] ++ (sp 0 ++ 59 :: Y)))) := if_neg c
    have e2 : PQ β (nI t) Y = fun τ => TW β τ (sBw 3) (sp 1 ++ ([112 + (nI t).toNatClampNeg] ++ (sp 0 ++ 59 :: Y))) := by funext τ; exact if_neg c
    rw [e, e2]
    exact nx_w sB3_ne (sB_let 3 (by omega) (by omega)) (nh_sp (by decide)) (by rw [sB_ln.2.2.2.2.2.2.2.1]; omega)
theorem nh_rem {P : Nat → Bool} {f : Nat → Int32} {v : Int32} (h32 : P 32 = false) (h59 : P 59 = false) : ∀ r k, NH P (remW f r k (plZ v Y))
  | 0, k => by
    show NH P (plZ v Y)
    by_cases c : v = m1
    · rw [show plZ v Y = 59 :: Y from if_pos c]; exact nh_c h59
    · rw [show plZ v Y = sp 1 ++ (sBw 3 ++ (sp 1 ++ ([112 + v.toNatClampNeg] ++ (sp 0 ++ 59 :: Y)))) from if_neg c]; exact nh_sp h32
  | r + 1, k => nh_sp h32
theorem nx_wq {f : Nat → Int32} {v : Int32} (hv : v = m1 ∨ ∃ t, t < 8 ∧ v = nI t) (r k : Nat) (hf : ∀ q, q < k + r → ∃ t, t < 8 ∧ f q = nI t) : NX β (remW f r k (plZ v Y)) (WQ β f r k v Y) := by
  cases r with
  | zero => exact nx_pq hv
  | succ r =>
    obtain ⟨t, ht, e⟩ := hf k (by omega)
    refine nx_w (by simp) (fun y hy => ?_) (nh_rem (by decide) (by decide) r (k + 1)) (by show 1 < 700; omega)
    rw [List.mem_singleton.mp hy, e, nI_clamp (by omega)]
    exact decide_eq_true (by omega)
theorem wishes_ok {i n : Nat} (hi : i < 8) (hT : T ≤ 7) (hl : LT T i n ω) (hlen : ∀ j, j < i → (ω.1 6 j).toNatClampNeg ≤ 8) (hv : ω.1 5 i = m1 ∨ ∃ t, t < T ∧ ω.1 5 i = nI t) : ∀ (r k m : Nat) (μ τ : OM), k + r = n → r < m → PW T ω μ i k → WQ β (ω.1 (12 + i)) r k (ω.1 5 i) Y τ → ∃ μ' τ', f_X9_readWishes_2 (nI i) β m (nI k) μ π τ = some (nI 1, μ', π, τ') ∧ PW T ω μ' i n ∧ PQ β (ω.1 5 i) Y τ' := by
  obtain ⟨l1, l2, l3, l4⟩ := hl
  have hv8 : ω.1 5 i = m1 ∨ ∃ t, t < 8 ∧ ω.1 5 i = nI t := by
    rcases hv with q | ⟨t, ht, q⟩
    · exact Or.inl q
    · exact Or.inr ⟨t, by omega, q⟩
  intro r
  induction r with
  | zero =>
    intro k m μ τ hk hm hp hw
    obtain ⟨m, rfl⟩ : ∃ q, m = q + 1 := ⟨m - 1, by omega⟩
    obtain rfl : k = n := by omega
    have hw : PQ β (ω.1 5 i) Y τ := hw
    refine ⟨μ, τ, ?_, hp, hw⟩
    have c8 : (nI 8 < nI k) = False := eq_false (nI_nlt (by omega) (by omega))
    by_cases c : ω.1 5 i = m1
    · have : TS β τ Y := by rw [PQ, if_pos c] at hw; exact hw
      obtain ⟨_, h1, _⟩ := this
      simp (maxSteps := 2000000) (disch := first | rfl | exact q_e1 _ _ _ | exact q_sr1 _ _ | omega) only [f_X9_readWishes_2, c8, h1, ↓q_m1, q_l0, q_l1, q_l2, q_l3, q_l4, q_l5, q_l6, q_l7, q_l8, q_l9, q_l10, q_l11, q_l12, q_l13, q_l14, q_l15, q_l16, q_l17, q_l18, q_l19, q_l20, q_l21, q_l22, q_l23, q_l24, q_l25, q_l26, q_l27, q_l28, q_l29, q_l30, q_l31, q_l32, q_l33, q_l45, q_l46, q_l48, q_l57, q_l58, q_l59, q_l60, q_l61, q_l62, q_l63, q_l64, q_l96, q_l97, q_l99, q_l122, q_l129, q_l137, q_l255, q_l256, q_l400, q_l680, q_l700, q_l959, q_l999, q_l9999, q_l10000, q_l100000, q_l36, q_l50, q_l100, q_l112, q_l200, q_ltT, q_ltF, q_leT, q_leF, q_eqF, q_eqR, q_mlt, q_mle, q_nlm, q_nLm, q_nem, q_men, q_mlm, Nat.add_zero, Nat.sub_zero, q_add0, pk_rem, nI_add, pk_mul, q_sub, q_subm, q_addm, nI_clamp, q_inT, q_inF, q_sr1, q_srn, q_srw, q_srs, q_wIs, q_wIn, q_wI2, q_wJ1, q_wJs, q_wJn, q_wR1, q_wRs, q_wRn, q_wI22, q_wJ22, pk_us, pk_un, pk_uLs, pk_uLn, q_usS, q_usN, q_ups, q_upn, Bool.true_eq_false, Bool.false_eq_true, q_lt, q_o2, q_o3, q_o4, q_o5, q_bi, ↓reduceIte, q_tv0, q_tv1, q_bz, q_oRl, q_oRr, q_oXl, q_oXr]
    · have h3 : TW β τ (sBw 3) (sp 1 ++ ([112 + (ω.1 5 i).toNatClampNeg] ++ (sp 0 ++ 59 :: Y))) := by rw [PQ, if_neg c] at hw; exact hw
      have hy := isw_yes (by omega) h3
      obtain ⟨_, h1, _⟩ := h3
      simp (maxSteps := 2000000) (disch := first | rfl | exact q_e1 _ _ _ | exact q_sr1 _ _ | omega) only [f_X9_readWishes_2, c8, h1, hy, ↓q_m1, q_l0, q_l1, q_l2, q_l3, q_l4, q_l5, q_l6, q_l7, q_l8, q_l9, q_l10, q_l11, q_l12, q_l13, q_l14, q_l15, q_l16, q_l17, q_l18, q_l19, q_l20, q_l21, q_l22, q_l23, q_l24, q_l25, q_l26, q_l27, q_l28, q_l29, q_l30, q_l31, q_l32, q_l33, q_l45, q_l46, q_l48, q_l57, q_l58, q_l59, q_l60, q_l61, q_l62, q_l63, q_l64, q_l96, q_l97, q_l99, q_l122, q_l129, q_l137, q_l255, q_l256, q_l400, q_l680, q_l700, q_l959, q_l999, q_l9999, q_l10000, q_l100000, q_l36, q_l50, q_l100, q_l112, q_l200, q_ltT, q_ltF, q_leT, q_leF, q_eqF, q_eqR, q_mlt, q_mle, q_nlm, q_nLm, q_nem, q_men, q_mlm, Nat.add_zero, Nat.sub_zero, q_add0, pk_rem, nI_add, pk_mul, q_sub, q_subm, q_addm, nI_clamp, q_inT, q_inF, q_sr1, q_srn, q_srw, q_srs, q_wIs, q_wIn, q_wI2, q_wJ1, q_wJs, q_wJn, q_wR1, q_wRs, q_wRn, q_wI22, q_wJ22, pk_us, pk_un, pk_uLs, pk_uLn, q_usS, q_usN, q_ups, q_upn, Bool.true_eq_false, Bool.false_eq_true, q_lt, q_o2, q_o3, q_o4, q_o5, q_bi, ↓reduceIte, q_tv0, q_tv1, q_bz, q_oRl, q_oRr, q_oXl, q_oXr]
  | succ r ih =>
    intro k m μ τ hk hm hp hw
    obtain ⟨m, rfl⟩ : ∃ q, m = q + 1 := ⟨m - 1, by omega⟩
    obtain ⟨t, ht, e⟩ := l3 k (by omega)
    have hw : TW β τ [112 + (ω.1 (12 + i) k).toNatClampNeg] (remW (ω.1 (12 + i)) r (k + 1) (plZ (ω.1 5 i) Y)) := hw
    rw [e, nI_clamp (by omega)] at hw
    obtain ⟨⟨⟨p1, p2⟩, p3, p4⟩, p5, p6, p7, p8, p9, p10, p11, p12, p13⟩ := id hp
    have hsee := p_see (π := π) hw ht (by omega) p1 (fun j hj => (p3 j hj).2)
    have n3 := isw_no (w := 3) (by omega) hw (by rw [sB_ln.2.2.1]; show 1 ≠ 2; omega)
    obtain ⟨τ', f1, f2⟩ := hw.nx (nx_wq hv8 r (k + 1) (fun q hq => by
      obtain ⟨t, ht, e⟩ := l3 q (by omega)
      exact ⟨t, by omega, e⟩))
    have hrk : f_X5_rankIn (nI i) (nI t) μ = some m1 := by
      have h16 : f_X5_rankIn_16 (nI i) (nI t) μ FU (nI 0) = some m1 := lp_to k (fun n' q hq => by
        have hne : (ω.1 (12 + i) q = nI t) = False := eq_false (fun e' => by
          have := l4 q k (by omega) (by omega) (e'.trans e.symm)
          omega)
        simp (maxSteps := 2000000) (disch := first | rfl | exact q_e1 _ _ _ | exact q_sr1 _ _ | omega) only [f_X5_rankIn_16, p12, p13 q hq, hne, ↓q_m1, q_l0, q_l1, q_l2, q_l3, q_l4, q_l5, q_l6, q_l7, q_l8, q_l9, q_l10, q_l11, q_l12, q_l13, q_l14, q_l15, q_l16, q_l17, q_l18, q_l19, q_l20, q_l21, q_l22, q_l23, q_l24, q_l25, q_l26, q_l27, q_l28, q_l29, q_l30, q_l31, q_l32, q_l33, q_l45, q_l46, q_l48, q_l57, q_l58, q_l59, q_l60, q_l61, q_l62, q_l63, q_l64, q_l96, q_l97, q_l99, q_l122, q_l129, q_l137, q_l255, q_l256, q_l400, q_l680, q_l700, q_l959, q_l999, q_l9999, q_l10000, q_l100000, q_l36, q_l50, q_l100, q_l112, q_l200, q_ltT, q_ltF, q_leT, q_leF, q_eqF, q_eqR, q_mlt, q_mle, q_nlm, q_nLm, q_nem, q_men, q_mlm, Nat.add_zero, Nat.sub_zero, q_add0, pk_rem, nI_add, pk_mul, q_sub, q_subm, q_addm, nI_clamp, q_inT, q_inF, q_sr1, q_srn, q_srw, q_srs, q_wIs, q_wIn, q_wI2, q_wJ1, q_wJs, q_wJn, q_wR1, q_wRs, q_wRn, q_wI22, q_wJ22, pk_us, pk_un, pk_uLs, pk_uLn, q_usS, q_usN, q_ups, q_upn, Bool.true_eq_false, Bool.false_eq_true, q_lt, q_o2, q_o3, q_o4, q_o5, q_bi, ↓reduceIte, q_tv0, q_tv1, q_bz, q_oRl, q_oRr, q_oXl, q_oXr]) (fun n' => by
        simp (maxSteps := 2000000) (disch := first | rfl | exact q_e1 _ _ _ | exact q_sr1 _ _ | omega) only [f_X5_rankIn_16, p12, ↓q_m1, q_l0, q_l1, q_l2, q_l3, q_l4, q_l5, q_l6, q_l7, q_l8, q_l9, q_l10, q_l11, q_l12, q_l13, q_l14, q_l15, q_l16, q_l17, q_l18, q_l19, q_l20, q_l21, q_l22, q_l23, q_l24, q_l25, q_l26, q_l27, q_l28, q_l29, q_l30, q_l31, q_l32, q_l33, q_l45, q_l46, q_l48, q_l57, q_l58, q_l59, q_l60, q_l61, q_l62, q_l63, q_l64, q_l96, q_l97, q_l99, q_l122, q_l129, q_l137, q_l255, q_l256, q_l400, q_l680, q_l700, q_l959, q_l999, q_l9999, q_l10000, q_l100000, q_l36, q_l50, q_l100, q_l112, q_l200, q_ltT, q_ltF, q_leT, q_leF, q_eqF, q_eqR, q_mlt, q_mle, q_nlm, q_nLm, q_nem, q_men, q_mlm, Nat.add_zero, Nat.sub_zero, q_add0, pk_rem, nI_add, pk_mul, q_sub, q_subm, q_addm, nI_clamp, q_inT, q_inF, q_sr1, q_srn, q_srw, q_srs, q_wIs, q_wIn, q_wI2, q_wJ1, q_wJs, q_wJn, q_wR1, q_wRs, q_wRn, q_wI22, q_wJ22, pk_us, pk_un, pk_uLs, pk_uLn, q_usS, q_usN, q_ups, q_upn, Bool.true_eq_false, Bool.false_eq_true, q_lt, q_o2, q_o3, q_o4, q_o5, q_bi, ↓reduceIte, q_tv0, q_tv1, q_bz, q_oRl, q_oRr, q_oXl, q_oXr]) (fu_lt (by omega))
      simp (maxSteps := 2000000) (disch := first | rfl | exact q_e1 _ _ _ | exact q_sr1 _ _ | omega) only [f_X5_rankIn, p5, h16, ↓q_m1, q_l0, q_l1, q_l2, q_l3, q_l4, q_l5, q_l6, q_l7, q_l8, q_l9, q_l10, q_l11, q_l12, q_l13, q_l14, q_l15, q_l16, q_l17, q_l18, q_l19, q_l20, q_l21, q_l22, q_l23, q_l24, q_l25, q_l26, q_l27, q_l28, q_l29, q_l30, q_l31, q_l32, q_l33, q_l45, q_l46, q_l48, q_l57, q_l58, q_l59, q_l60, q_l61, q_l62, q_l63, q_l64, q_l96, q_l97, q_l99, q_l122, q_l129, q_l137, q_l255, q_l256, q_l400, q_l680, q_l700, q_l959, q_l999, q_l9999, q_l10000, q_l100000, q_l36, q_l50, q_l100, q_l112, q_l200, q_ltT, q_ltF, q_leT, q_leF, q_eqF, q_eqR, q_mlt, q_mle, q_nlm, q_nLm, q_nem, q_men, q_mlm, Nat.add_zero, Nat.sub_zero, q_add0, pk_rem, nI_add, pk_mul, q_sub, q_subm, q_addm, nI_clamp, q_inT, q_inF, q_sr1, q_srn, q_srw, q_srs, q_wIs, q_wIn, q_wI2, q_wJ1, q_wJs, q_wJn, q_wR1, q_wRs, q_wRn, q_wI22, q_wJ22, pk_us, pk_un, pk_uLs, pk_uLn, q_usS, q_usN, q_ups, q_upn, Bool.true_eq_false, Bool.false_eq_true, q_lt, q_o2, q_o3, q_o4, q_o5, q_bi, ↓reduceIte, q_tv0, q_tv1, q_bz, q_oRl, q_oRr, q_oXl, q_oXr]
    have hwl : f_X5_wishLast (nI i) (nI t) μ = some (wI (wI μ 7 (i * 8 + k) (nI t)) 6 i (nI (k + 1))) := by
      simp (maxSteps := 2000000) (disch := first | rfl | exact q_e1 _ _ _ | exact q_sr1 _ _ | omega) only [f_X5_wishLast, f_X5_wishesOf, f_X5_hasSeller, p5, p12, ↓q_m1, q_l0, q_l1, q_l2, q_l3, q_l4, q_l5, q_l6, q_l7, q_l8, q_l9, q_l10, q_l11, q_l12, q_l13, q_l14, q_l15, q_l16, q_l17, q_l18, q_l19, q_l20, q_l21, q_l22, q_l23, q_l24, q_l25, q_l26, q_l27, q_l28, q_l29, q_l30, q_l31, q_l32, q_l33, q_l45, q_l46, q_l48, q_l57, q_l58, q_l59, q_l60, q_l61, q_l62, q_l63, q_l64, q_l96, q_l97, q_l99, q_l122, q_l129, q_l137, q_l255, q_l256, q_l400, q_l680, q_l700, q_l959, q_l999, q_l9999, q_l10000, q_l100000, q_l36, q_l50, q_l100, q_l112, q_l200, q_ltT, q_ltF, q_leT, q_leF, q_eqF, q_eqR, q_mlt, q_mle, q_nlm, q_nLm, q_nem, q_men, q_mlm, Nat.add_zero, Nat.sub_zero, q_add0, pk_rem, nI_add, pk_mul, q_sub, q_subm, q_addm, nI_clamp, q_inT, q_inF, q_sr1, q_srn, q_srw, q_srs, q_wIs, q_wIn, q_wI2, q_wJ1, q_wJs, q_wJn, q_wR1, q_wRs, q_wRn, q_wI22, q_wJ22, pk_us, pk_un, pk_uLs, pk_uLn, q_usS, q_usN, q_ups, q_upn, Bool.true_eq_false, Bool.false_eq_true, q_lt, q_o2, q_o3, q_o4, q_o5, q_bi, ↓reduceIte, q_tv0, q_tv1, q_bz, q_oRl, q_oRr, q_oXl, q_oXr]
    obtain ⟨_, k1, _⟩ := hw
    have c8 : (nI 8 < nI k) = False := eq_false (nI_nlt (by omega) (by omega))
    have ct : (nI t = m1) = False := q_nem (by omega)
    obtain ⟨μ2, τ2, g1, g2⟩ := ih (k + 1) m (wI (wI μ 7 (i * 8 + k) (nI t)) 6 i (nI (k + 1))) τ' (by omega) (by omega) ⟨⟨⟨by simp (maxSteps := 2000000) (disch := first | rfl | exact q_e1 _ _ _ | exact q_sr1 _ _ | omega) only [q_sr1, q_srn, q_srw, q_srs, q_wIs, q_wIn, q_wI2, q_wJ1, q_wJs, q_wJn, q_wR1, q_wRs, q_wRn, q_wI22, q_wJ22, pk_us, pk_un, pk_uLs, pk_uLn, q_usS, q_usN, q_ups, q_upn, p1], fun q a b c => by simp (maxSteps := 2000000) (disch := first | rfl | exact q_e1 _ _ _ | exact q_sr1 _ _ | omega) only [q_sr1, q_srn, q_srw, q_srs, q_wIs, q_wIn, q_wI2, q_wJ1, q_wJs, q_wJn, q_wR1, q_wRs, q_wRn, q_wI22, q_wJ22, pk_us, pk_un, pk_uLs, pk_uLn, q_usS, q_usN, q_ups, q_upn, p2 q a b c]⟩, fun j hj => by simp (maxSteps := 2000000) (disch := first | rfl | exact q_e1 _ _ _ | exact q_sr1 _ _ | omega) only [q_sr1, q_srn, q_srw, q_srs, q_wIs, q_wIn, q_wI2, q_wJ1, q_wJs, q_wJn, q_wR1, q_wRs, q_wRn, q_wI22, q_wJ22, pk_us, pk_un, pk_uLs, pk_uLn, q_usS, q_usN, q_ups, q_upn]; exact p3 j hj, fun j hj => by
      obtain ⟨q1, q2, q3, q4, q5, q6, q7⟩ := p4 j hj
      refine ⟨by simp (maxSteps := 2000000) (disch := first | rfl | exact q_e1 _ _ _ | exact q_sr1 _ _ | omega) only [q_sr1, q_srn, q_srw, q_srs, q_wIs, q_wIn, q_wI2, q_wJ1, q_wJs, q_wJn, q_wR1, q_wRs, q_wRn, q_wI22, q_wJ22, pk_us, pk_un, pk_uLs, pk_uLn, q_usS, q_usN, q_ups, q_upn, q1], by simp (maxSteps := 2000000) (disch := first | rfl | exact q_e1 _ _ _ | exact q_sr1 _ _ | omega) only [q_sr1, q_srn, q_srw, q_srs, q_wIs, q_wIn, q_wI2, q_wJ1, q_wJs, q_wJn, q_wR1, q_wRs, q_wRn, q_wI22, q_wJ22, pk_us, pk_un, pk_uLs, pk_uLn, q_usS, q_usN, q_ups, q_upn, q2], by simp (maxSteps := 2000000) (disch := first | rfl | exact q_e1 _ _ _ | exact q_sr1 _ _ | omega) only [q_sr1, q_srn, q_srw, q_srs, q_wIs, q_wIn, q_wI2, q_wJ1, q_wJs, q_wJn, q_wR1, q_wRs, q_wRn, q_wI22, q_wJ22, pk_us, pk_un, pk_uLs, pk_uLn, q_usS, q_usN, q_ups, q_upn, q3], by simp (maxSteps := 2000000) (disch := first | rfl | exact q_e1 _ _ _ | exact q_sr1 _ _ | omega) only [q_sr1, q_srn, q_srw, q_srs, q_wIs, q_wIn, q_wI2, q_wJ1, q_wJs, q_wJn, q_wR1, q_wRs, q_wRn, q_wI22, q_wJ22, pk_us, pk_un, pk_uLs, pk_uLn, q_usS, q_usN, q_ups, q_upn, q4], by simp (maxSteps := 2000000) (disch := first | rfl | exact q_e1 _ _ _ | exact q_sr1 _ _ | omega) only [q_sr1, q_srn, q_srw, q_srs, q_wIs, q_wIn, q_wI2, q_wJ1, q_wJs, q_wJn, q_wR1, q_wRs, q_wRn, q_wI22, q_wJ22, pk_us, pk_un, pk_uLs, pk_uLn, q_usS, q_usN, q_ups, q_upn, q5], by simp (maxSteps := 2000000) (disch := first | rfl | exact q_e1 _ _ _ | exact q_sr1 _ _ | omega) only [q_sr1, q_srn, q_srw, q_srs, q_wIs, q_wIn, q_wI2, q_wJ1, q_wJs, q_wJn, q_wR1, q_wRs, q_wRn, q_wI22, q_wJ22, pk_us, pk_un, pk_uLs, pk_uLn, q_usS, q_usN, q_ups, q_upn, q6], fun q hq => ?_⟩
      rw [q_wIn (by omega), q_wIs]
      by_cases e2 : j * 8 + q = i * 8 + k
      · have := q7 q hq
        exfalso
        exact absurd hq (by have := hlen j hj; omega)
      · rw [pk_un e2]; exact q7 q hq⟩, by simp (maxSteps := 2000000) (disch := first | rfl | exact q_e1 _ _ _ | exact q_sr1 _ _ | omega) only [q_sr1, q_srn, q_srw, q_srs, q_wIs, q_wIn, q_wI2, q_wJ1, q_wJs, q_wJn, q_wR1, q_wRs, q_wRn, q_wI22, q_wJ22, pk_us, pk_un, pk_uLs, pk_uLn, q_usS, q_usN, q_ups, q_upn, p5], by simp (maxSteps := 2000000) (disch := first | rfl | exact q_e1 _ _ _ | exact q_sr1 _ _ | omega) only [q_sr1, q_srn, q_srw, q_srs, q_wIs, q_wIn, q_wI2, q_wJ1, q_wJs, q_wJn, q_wR1, q_wRs, q_wRn, q_wI22, q_wJ22, pk_us, pk_un, pk_uLs, pk_uLn, q_usS, q_usN, q_ups, q_upn, p6], by simp (maxSteps := 2000000) (disch := first | rfl | exact q_e1 _ _ _ | exact q_sr1 _ _ | omega) only [q_sr1, q_srn, q_srw, q_srs, q_wIs, q_wIn, q_wI2, q_wJ1, q_wJs, q_wJn, q_wR1, q_wRs, q_wRn, q_wI22, q_wJ22, pk_us, pk_un, pk_uLs, pk_uLn, q_usS, q_usN, q_ups, q_upn, p7], by simp (maxSteps := 2000000) (disch := first | rfl | exact q_e1 _ _ _ | exact q_sr1 _ _ | omega) only [q_sr1, q_srn, q_srw, q_srs, q_wIs, q_wIn, q_wI2, q_wJ1, q_wJs, q_wJn, q_wR1, q_wRs, q_wRn, q_wI22, q_wJ22, pk_us, pk_un, pk_uLs, pk_uLn, q_usS, q_usN, q_ups, q_upn, p8], by simp (maxSteps := 2000000) (disch := first | rfl | exact q_e1 _ _ _ | exact q_sr1 _ _ | omega) only [q_sr1, q_srn, q_srw, q_srs, q_wIs, q_wIn, q_wI2, q_wJ1, q_wJs, q_wJn, q_wR1, q_wRs, q_wRn, q_wI22, q_wJ22, pk_us, pk_un, pk_uLs, pk_uLn, q_usS, q_usN, q_ups, q_upn, p9], by simp (maxSteps := 2000000) (disch := first | rfl | exact q_e1 _ _ _ | exact q_sr1 _ _ | omega) only [q_sr1, q_srn, q_srw, q_srs, q_wIs, q_wIn, q_wI2, q_wJ1, q_wJs, q_wJn, q_wR1, q_wRs, q_wRn, q_wI22, q_wJ22, pk_us, pk_un, pk_uLs, pk_uLn, q_usS, q_usN, q_ups, q_upn, p10], by simp (maxSteps := 2000000) (disch := first | rfl | exact q_e1 _ _ _ | exact q_sr1 _ _ | omega) only [q_sr1, q_srn, q_srw, q_srs, q_wIs, q_wIn, q_wI2, q_wJ1, q_wJs, q_wJn, q_wR1, q_wRs, q_wRn, q_wI22, q_wJ22, pk_us, pk_un, pk_uLs, pk_uLn, q_usS, q_usN, q_ups, q_upn, p11], by simp (maxSteps := 2000000) (disch := first | rfl | exact q_e1 _ _ _ | exact q_sr1 _ _ | omega) only [q_sr1, q_srn, q_srw, q_srs, q_wIs, q_wIn, q_wI2, q_wJ1, q_wJs, q_wJn, q_wR1, q_wRs, q_wRn, q_wI22, q_wJ22, pk_us, pk_un, pk_uLs, pk_uLn, q_usS, q_usN, q_ups, q_upn], fun q hq => by
      rw [q_wIn (by omega), q_wIs]
      by_cases e2 : q = k
      · subst e2; rw [pk_us, e]
      · rw [pk_un (by omega)]; exact p13 q (by omega)⟩ f2
    refine ⟨μ2, τ2, ?_, g2⟩
    simp (maxSteps := 2000000) (disch := first | rfl | exact q_e1 _ _ _ | exact q_sr1 _ _ | omega) only [f_X9_readWishes_2, c8, k1, n3, hsee, ct, hrk, hwl, f1, ↓q_m1, q_l0, q_l1, q_l2, q_l3, q_l4, q_l5, q_l6, q_l7, q_l8, q_l9, q_l10, q_l11, q_l12, q_l13, q_l14, q_l15, q_l16, q_l17, q_l18, q_l19, q_l20, q_l21, q_l22, q_l23, q_l24, q_l25, q_l26, q_l27, q_l28, q_l29, q_l30, q_l31, q_l32, q_l33, q_l45, q_l46, q_l48, q_l57, q_l58, q_l59, q_l60, q_l61, q_l62, q_l63, q_l64, q_l96, q_l97, q_l99, q_l122, q_l129, q_l137, q_l255, q_l256, q_l400, q_l680, q_l700, q_l959, q_l999, q_l9999, q_l10000, q_l100000, q_l36, q_l50, q_l100, q_l112, q_l200, q_ltT, q_ltF, q_leT, q_leF, q_eqF, q_eqR, q_mlt, q_mle, q_nlm, q_nLm, q_nem, q_men, q_mlm, Nat.add_zero, Nat.sub_zero, q_add0, pk_rem, nI_add, pk_mul, q_sub, q_subm, q_addm, nI_clamp, q_inT, q_inF, q_sr1, q_srn, q_srw, q_srs, q_wIs, q_wIn, q_wI2, q_wJ1, q_wJs, q_wJn, q_wR1, q_wRs, q_wRn, q_wI22, q_wJ22, pk_us, pk_un, pk_uLs, pk_uLn, q_usS, q_usN, q_ups, q_upn, Bool.true_eq_false, Bool.false_eq_true, q_lt, q_o2, q_o3, q_o4, q_o5, q_bi, ↓reduceIte, q_tv0, q_tv1, q_bz, q_oRl, q_oRr, q_oXl, q_oXr]
    exact g1
theorem place_ok {i n : Nat} (hi : i < 8) (hT : T ≤ 7) (hl : ω.1 6 i = nI n) (hn : n < 2 ^ 31) (hv : ω.1 5 i = m1 ∨ ∃ t, t < T ∧ ω.1 5 i = nI t ∧ ∀ j, j < i → ω.1 5 j ≠ nI t) (hp : PW T ω μ i n) (hw : PQ β (ω.1 5 i) Y τ) : ∃ μ' τ', f_X9_readPlace (nI i) μ π τ β = some (nI 1, μ', π, τ') ∧ PL T ω μ' (i + 1) ∧ TS β τ' Y := by
  obtain ⟨⟨⟨p1, p2⟩, p3, p4⟩, p5, p6, p7, p8, p9, p10, p11, p12, p13⟩ := id hp
  rcases hv with c | ⟨t, ht, c, hne⟩
  · have h3 : TS β τ Y := by rw [PQ, if_pos c] at hw; exact hw
    obtain ⟨_, h1, _⟩ := id h3
    have n3 := isw_k (β := β) (w := 3) h1 (by omega) (by omega)
    refine ⟨μ, τ, by simp (maxSteps := 2000000) (disch := first | rfl | exact q_e1 _ _ _ | exact q_sr1 _ _ | omega) only [f_X9_readPlace, n3, ↓q_m1, q_l0, q_l1, q_l2, q_l3, q_l4, q_l5, q_l6, q_l7, q_l8, q_l9, q_l10, q_l11, q_l12, q_l13, q_l14, q_l15, q_l16, q_l17, q_l18, q_l19, q_l20, q_l21, q_l22, q_l23, q_l24, q_l25, q_l26, q_l27, q_l28, q_l29, q_l30, q_l31, q_l32, q_l33, q_l45, q_l46, q_l48, q_l57, q_l58, q_l59, q_l60, q_l61, q_l62, q_l63, q_l64, q_l96, q_l97, q_l99, q_l122, q_l129, q_l137, q_l255, q_l256, q_l400, q_l680, q_l700, q_l959, q_l999, q_l9999, q_l10000, q_l100000, q_l36, q_l50, q_l100, q_l112, q_l200, q_ltT, q_ltF, q_leT, q_leF, q_eqF, q_eqR, q_mlt, q_mle, q_nlm, q_nLm, q_nem, q_men, q_mlm, Nat.add_zero, Nat.sub_zero, q_add0, pk_rem, nI_add, pk_mul, q_sub, q_subm, q_addm, nI_clamp, q_inT, q_inF, q_sr1, q_srn, q_srw, q_srs, q_wIs, q_wIn, q_wI2, q_wJ1, q_wJs, q_wJn, q_wR1, q_wRs, q_wRn, q_wI22, q_wJ22, pk_us, pk_un, pk_uLs, pk_uLn, q_usS, q_usN, q_ups, q_upn, Bool.true_eq_false, Bool.false_eq_true, q_lt, q_o2, q_o3, q_o4, q_o5, q_bi, ↓reduceIte, q_tv0, q_tv1, q_bz, q_oRl, q_oRr, q_oXl, q_oXr], ⟨⟨⟨p1, p2⟩, p3, fun j hj => ?_⟩, p5, p6⟩, h3⟩
    by_cases e : j = i
    · subst e
      refine ⟨p7, p8, p9, p10.trans c.symm, p11, p12.trans hl.symm, fun k hk => ?_⟩
      rw [hl, nI_clamp hn] at hk
      exact p13 k hk
    · exact p4 j (by omega)
  · have cm : ¬ nI t = m1 := fun q => (q_nem (show t < 2 ^ 31 by omega)).mp q
    have h3 : TW β τ (sBw 3) (sp 1 ++ ([112 + t] ++ (sp 0 ++ 59 :: Y))) := by
      rw [c, PQ, if_neg cm, nI_clamp (by omega)] at hw; exact hw
    have hy := isw_yes (by omega) h3
    obtain ⟨τ1, f1, f2⟩ := h3.nx (nx_w (by simp) (fun y hy => by rw [List.mem_singleton.mp hy]; exact decide_eq_true (by omega)) (nh_c (by decide)) (by show 1 < 700; omega))
    have hsee := p_see (π := π) f2 ht (by omega) p1 (fun j hj => (p3 j hj).2)
    obtain ⟨τ2, f3, f4⟩ := f2.nx nx_s
    have hh : f_X5_holderOf (nI t) μ = some m1 := by
      have h9 : f_X5_holderOf_9 (nI t) μ FU (nI 0) = some m1 := lp_to (i + 1) (fun n' q hq => by
        have hx : μ.1 4 q ≠ nI t := by
          by_cases e : q = i
          · rw [e, p10]; exact fun e => (q_men (show t < 2 ^ 31 by omega)).mp e
          · rw [(p4 q (by omega)).2.2.2.1]; exact hne q (by omega)
        have hx' := eq_false hx
        simp (maxSteps := 2000000) (disch := first | rfl | exact q_e1 _ _ _ | exact q_sr1 _ _ | omega) only [f_X5_holderOf_9, p5, hx', ↓q_m1, q_l0, q_l1, q_l2, q_l3, q_l4, q_l5, q_l6, q_l7, q_l8, q_l9, q_l10, q_l11, q_l12, q_l13, q_l14, q_l15, q_l16, q_l17, q_l18, q_l19, q_l20, q_l21, q_l22, q_l23, q_l24, q_l25, q_l26, q_l27, q_l28, q_l29, q_l30, q_l31, q_l32, q_l33, q_l45, q_l46, q_l48, q_l57, q_l58, q_l59, q_l60, q_l61, q_l62, q_l63, q_l64, q_l96, q_l97, q_l99, q_l122, q_l129, q_l137, q_l255, q_l256, q_l400, q_l680, q_l700, q_l959, q_l999, q_l9999, q_l10000, q_l100000, q_l36, q_l50, q_l100, q_l112, q_l200, q_ltT, q_ltF, q_leT, q_leF, q_eqF, q_eqR, q_mlt, q_mle, q_nlm, q_nLm, q_nem, q_men, q_mlm, Nat.add_zero, Nat.sub_zero, q_add0, pk_rem, nI_add, pk_mul, q_sub, q_subm, q_addm, nI_clamp, q_inT, q_inF, q_sr1, q_srn, q_srw, q_srs, q_wIs, q_wIn, q_wI2, q_wJ1, q_wJs, q_wJn, q_wR1, q_wRs, q_wRn, q_wI22, q_wJ22, pk_us, pk_un, pk_uLs, pk_uLn, q_usS, q_usN, q_ups, q_upn, Bool.true_eq_false, Bool.false_eq_true, q_lt, q_o2, q_o3, q_o4, q_o5, q_bi, ↓reduceIte, q_tv0, q_tv1, q_bz, q_oRl, q_oRr, q_oXl, q_oXr]) (fun n' => by
        simp (maxSteps := 2000000) (disch := first | rfl | exact q_e1 _ _ _ | exact q_sr1 _ _ | omega) only [f_X5_holderOf_9, p5, ↓q_m1, q_l0, q_l1, q_l2, q_l3, q_l4, q_l5, q_l6, q_l7, q_l8, q_l9, q_l10, q_l11, q_l12, q_l13, q_l14, q_l15, q_l16, q_l17, q_l18, q_l19, q_l20, q_l21, q_l22, q_l23, q_l24, q_l25, q_l26, q_l27, q_l28, q_l29, q_l30, q_l31, q_l32, q_l33, q_l45, q_l46, q_l48, q_l57, q_l58, q_l59, q_l60, q_l61, q_l62, q_l63, q_l64, q_l96, q_l97, q_l99, q_l122, q_l129, q_l137, q_l255, q_l256, q_l400, q_l680, q_l700, q_l959, q_l999, q_l9999, q_l10000, q_l100000, q_l36, q_l50, q_l100, q_l112, q_l200, q_ltT, q_ltF, q_leT, q_leF, q_eqF, q_eqR, q_mlt, q_mle, q_nlm, q_nLm, q_nem, q_men, q_mlm, Nat.add_zero, Nat.sub_zero, q_add0, pk_rem, nI_add, pk_mul, q_sub, q_subm, q_addm, nI_clamp, q_inT, q_inF, q_sr1, q_srn, q_srw, q_srs, q_wIs, q_wIn, q_wI2, q_wJ1, q_wJs, q_wJn, q_wR1, q_wRs, q_wRn, q_wI22, q_wJ22, pk_us, pk_un, pk_uLs, pk_uLn, q_usS, q_usN, q_ups, q_upn, Bool.true_eq_false, Bool.false_eq_true, q_lt, q_o2, q_o3, q_o4, q_o5, q_bi, ↓reduceIte, q_tv0, q_tv1, q_bz, q_oRl, q_oRr, q_oXl, q_oXr]) (fu_lt (by omega))
      have cm' := eq_false cm
      simp (maxSteps := 2000000) (disch := first | rfl | exact q_e1 _ _ _ | exact q_sr1 _ _ | omega) only [f_X5_holderOf, cm', h9, ↓q_m1, q_l0, q_l1, q_l2, q_l3, q_l4, q_l5, q_l6, q_l7, q_l8, q_l9, q_l10, q_l11, q_l12, q_l13, q_l14, q_l15, q_l16, q_l17, q_l18, q_l19, q_l20, q_l21, q_l22, q_l23, q_l24, q_l25, q_l26, q_l27, q_l28, q_l29, q_l30, q_l31, q_l32, q_l33, q_l45, q_l46, q_l48, q_l57, q_l58, q_l59, q_l60, q_l61, q_l62, q_l63, q_l64, q_l96, q_l97, q_l99, q_l122, q_l129, q_l137, q_l255, q_l256, q_l400, q_l680, q_l700, q_l959, q_l999, q_l9999, q_l10000, q_l100000, q_l36, q_l50, q_l100, q_l112, q_l200, q_ltT, q_ltF, q_leT, q_leF, q_eqF, q_eqR, q_mlt, q_mle, q_nlm, q_nLm, q_nem, q_men, q_mlm, Nat.add_zero, Nat.sub_zero, q_add0, pk_rem, nI_add, pk_mul, q_sub, q_subm, q_addm, nI_clamp, q_inT, q_inF, q_sr1, q_srn, q_srw, q_srs, q_wIs, q_wIn, q_wI2, q_wJ1, q_wJs, q_wJn, q_wR1, q_wRs, q_wRn, q_wI22, q_wJ22, pk_us, pk_un, pk_uLs, pk_uLn, q_usS, q_usN, q_ups, q_upn, Bool.true_eq_false, Bool.false_eq_true, q_lt, q_o2, q_o3, q_o4, q_o5, q_bi, ↓reduceIte, q_tv0, q_tv1, q_bz, q_oRl, q_oRr, q_oXl, q_oXr]
    have hs : f_X5_seat (nI i) (nI t) μ = some (wI μ 4 i (nI t)) := by
      simp (maxSteps := 2000000) (disch := first | rfl | exact q_e1 _ _ _ | exact q_sr1 _ _ | omega) only [f_X5_seat, f_X5_hasSeller, p5, ↓q_m1, q_l0, q_l1, q_l2, q_l3, q_l4, q_l5, q_l6, q_l7, q_l8, q_l9, q_l10, q_l11, q_l12, q_l13, q_l14, q_l15, q_l16, q_l17, q_l18, q_l19, q_l20, q_l21, q_l22, q_l23, q_l24, q_l25, q_l26, q_l27, q_l28, q_l29, q_l30, q_l31, q_l32, q_l33, q_l45, q_l46, q_l48, q_l57, q_l58, q_l59, q_l60, q_l61, q_l62, q_l63, q_l64, q_l96, q_l97, q_l99, q_l122, q_l129, q_l137, q_l255, q_l256, q_l400, q_l680, q_l700, q_l959, q_l999, q_l9999, q_l10000, q_l100000, q_l36, q_l50, q_l100, q_l112, q_l200, q_ltT, q_ltF, q_leT, q_leF, q_eqF, q_eqR, q_mlt, q_mle, q_nlm, q_nLm, q_nem, q_men, q_mlm, Nat.add_zero, Nat.sub_zero, q_add0, pk_rem, nI_add, pk_mul, q_sub, q_subm, q_addm, nI_clamp, q_inT, q_inF, q_sr1, q_srn, q_srw, q_srs, q_wIs, q_wIn, q_wI2, q_wJ1, q_wJs, q_wJn, q_wR1, q_wRs, q_wRn, q_wI22, q_wJ22, pk_us, pk_un, pk_uLs, pk_uLn, q_usS, q_usN, q_ups, q_upn, Bool.true_eq_false, Bool.false_eq_true, q_lt, q_o2, q_o3, q_o4, q_o5, q_bi, ↓reduceIte, q_tv0, q_tv1, q_bz, q_oRl, q_oRr, q_oXl, q_oXr]
    have cm' := eq_false cm
    refine ⟨wI μ 4 i (nI t), τ2, by simp (maxSteps := 2000000) (disch := first | rfl | exact q_e1 _ _ _ | exact q_sr1 _ _ | omega) only [f_X9_readPlace, hy, f1, hsee, cm', hh, hs, f3, ↓q_m1, q_l0, q_l1, q_l2, q_l3, q_l4, q_l5, q_l6, q_l7, q_l8, q_l9, q_l10, q_l11, q_l12, q_l13, q_l14, q_l15, q_l16, q_l17, q_l18, q_l19, q_l20, q_l21, q_l22, q_l23, q_l24, q_l25, q_l26, q_l27, q_l28, q_l29, q_l30, q_l31, q_l32, q_l33, q_l45, q_l46, q_l48, q_l57, q_l58, q_l59, q_l60, q_l61, q_l62, q_l63, q_l64, q_l96, q_l97, q_l99, q_l122, q_l129, q_l137, q_l255, q_l256, q_l400, q_l680, q_l700, q_l959, q_l999, q_l9999, q_l10000, q_l100000, q_l36, q_l50, q_l100, q_l112, q_l200, q_ltT, q_ltF, q_leT, q_leF, q_eqF, q_eqR, q_mlt, q_mle, q_nlm, q_nLm, q_nem, q_men, q_mlm, Nat.add_zero, Nat.sub_zero, q_add0, pk_rem, nI_add, pk_mul, q_sub, q_subm, q_addm, nI_clamp, q_inT, q_inF, q_sr1, q_srn, q_srw, q_srs, q_wIs, q_wIn, q_wI2, q_wJ1, q_wJs, q_wJn, q_wR1, q_wRs, q_wRn, q_wI22, q_wJ22, pk_us, pk_un, pk_uLs, pk_uLn, q_usS, q_usN, q_ups, q_upn, Bool.true_eq_false, Bool.false_eq_true, q_lt, q_o2, q_o3, q_o4, q_o5, q_bi, ↓reduceIte, q_tv0, q_tv1, q_bz, q_oRl, q_oRr, q_oXl, q_oXr], ⟨⟨⟨by simp (maxSteps := 2000000) (disch := first | rfl | exact q_e1 _ _ _ | exact q_sr1 _ _ | omega) only [q_sr1, q_srn, q_srw, q_srs, q_wIs, q_wIn, q_wI2, q_wJ1, q_wJs, q_wJn, q_wR1, q_wRs, q_wRn, q_wI22, q_wJ22, pk_us, pk_un, pk_uLs, pk_uLn, q_usS, q_usN, q_ups, q_upn, p1], fun q a b c => by simp (maxSteps := 2000000) (disch := first | rfl | exact q_e1 _ _ _ | exact q_sr1 _ _ | omega) only [q_sr1, q_srn, q_srw, q_srs, q_wIs, q_wIn, q_wI2, q_wJ1, q_wJs, q_wJn, q_wR1, q_wRs, q_wRn, q_wI22, q_wJ22, pk_us, pk_un, pk_uLs, pk_uLn, q_usS, q_usN, q_ups, q_upn, p2 q a b c]⟩, fun j hj => by simp (maxSteps := 2000000) (disch := first | rfl | exact q_e1 _ _ _ | exact q_sr1 _ _ | omega) only [q_sr1, q_srn, q_srw, q_srs, q_wIs, q_wIn, q_wI2, q_wJ1, q_wJs, q_wJn, q_wR1, q_wRs, q_wRn, q_wI22, q_wJ22, pk_us, pk_un, pk_uLs, pk_uLn, q_usS, q_usN, q_ups, q_upn]; exact p3 j hj, fun j hj => ?_⟩, by simp (maxSteps := 2000000) (disch := first | rfl | exact q_e1 _ _ _ | exact q_sr1 _ _ | omega) only [q_sr1, q_srn, q_srw, q_srs, q_wIs, q_wIn, q_wI2, q_wJ1, q_wJs, q_wJn, q_wR1, q_wRs, q_wRn, q_wI22, q_wJ22, pk_us, pk_un, pk_uLs, pk_uLn, q_usS, q_usN, q_ups, q_upn, p5], by simp (maxSteps := 2000000) (disch := first | rfl | exact q_e1 _ _ _ | exact q_sr1 _ _ | omega) only [q_sr1, q_srn, q_srw, q_srs, q_wIs, q_wIn, q_wI2, q_wJ1, q_wJs, q_wJn, q_wR1, q_wRs, q_wRn, q_wI22, q_wJ22, pk_us, pk_un, pk_uLs, pk_uLn, q_usS, q_usN, q_ups, q_upn, p6]⟩, f4⟩
    by_cases e : j = i
    · subst e
      refine ⟨by simp (maxSteps := 2000000) (disch := first | rfl | exact q_e1 _ _ _ | exact q_sr1 _ _ | omega) only [q_sr1, q_srn, q_srw, q_srs, q_wIs, q_wIn, q_wI2, q_wJ1, q_wJs, q_wJn, q_wR1, q_wRs, q_wRn, q_wI22, q_wJ22, pk_us, pk_un, pk_uLs, pk_uLn, q_usS, q_usN, q_ups, q_upn, p7], by simp (maxSteps := 2000000) (disch := first | rfl | exact q_e1 _ _ _ | exact q_sr1 _ _ | omega) only [q_sr1, q_srn, q_srw, q_srs, q_wIs, q_wIn, q_wI2, q_wJ1, q_wJs, q_wJn, q_wR1, q_wRs, q_wRn, q_wI22, q_wJ22, pk_us, pk_un, pk_uLs, pk_uLn, q_usS, q_usN, q_ups, q_upn, p8], by simp (maxSteps := 2000000) (disch := first | rfl | exact q_e1 _ _ _ | exact q_sr1 _ _ | omega) only [q_sr1, q_srn, q_srw, q_srs, q_wIs, q_wIn, q_wI2, q_wJ1, q_wJs, q_wJn, q_wR1, q_wRs, q_wRn, q_wI22, q_wJ22, pk_us, pk_un, pk_uLs, pk_uLn, q_usS, q_usN, q_ups, q_upn, p9], by rw [q_wIs, pk_us, c], by simp (maxSteps := 2000000) (disch := first | rfl | exact q_e1 _ _ _ | exact q_sr1 _ _ | omega) only [q_sr1, q_srn, q_srw, q_srs, q_wIs, q_wIn, q_wI2, q_wJ1, q_wJs, q_wJn, q_wR1, q_wRs, q_wRn, q_wI22, q_wJ22, pk_us, pk_un, pk_uLs, pk_uLn, q_usS, q_usN, q_ups, q_upn, p11], by simp (maxSteps := 2000000) (disch := first | rfl | exact q_e1 _ _ _ | exact q_sr1 _ _ | omega) only [q_sr1, q_srn, q_srw, q_srs, q_wIs, q_wIn, q_wI2, q_wJ1, q_wJs, q_wJn, q_wR1, q_wRs, q_wRn, q_wI22, q_wJ22, pk_us, pk_un, pk_uLs, pk_uLn, q_usS, q_usN, q_ups, q_upn, p12, hl], fun k hk => ?_⟩
      rw [hl, nI_clamp hn] at hk
      rw [q_wIn (by omega)]; exact p13 k hk
    · obtain ⟨q1, q2, q3, q4, q5, q6, q7⟩ := p4 j (by omega)
      refine ⟨by simp (maxSteps := 2000000) (disch := first | rfl | exact q_e1 _ _ _ | exact q_sr1 _ _ | omega) only [q_sr1, q_srn, q_srw, q_srs, q_wIs, q_wIn, q_wI2, q_wJ1, q_wJs, q_wJn, q_wR1, q_wRs, q_wRn, q_wI22, q_wJ22, pk_us, pk_un, pk_uLs, pk_uLn, q_usS, q_usN, q_ups, q_upn, q1], by simp (maxSteps := 2000000) (disch := first | rfl | exact q_e1 _ _ _ | exact q_sr1 _ _ | omega) only [q_sr1, q_srn, q_srw, q_srs, q_wIs, q_wIn, q_wI2, q_wJ1, q_wJs, q_wJn, q_wR1, q_wRs, q_wRn, q_wI22, q_wJ22, pk_us, pk_un, pk_uLs, pk_uLn, q_usS, q_usN, q_ups, q_upn, q2], by simp (maxSteps := 2000000) (disch := first | rfl | exact q_e1 _ _ _ | exact q_sr1 _ _ | omega) only [q_sr1, q_srn, q_srw, q_srs, q_wIs, q_wIn, q_wI2, q_wJ1, q_wJs, q_wJn, q_wR1, q_wRs, q_wRn, q_wI22, q_wJ22, pk_us, pk_un, pk_uLs, pk_uLn, q_usS, q_usN, q_ups, q_upn, q3], by rw [q_wIs, pk_un e]; exact q4, by simp (maxSteps := 2000000) (disch := first | rfl | exact q_e1 _ _ _ | exact q_sr1 _ _ | omega) only [q_sr1, q_srn, q_srw, q_srs, q_wIs, q_wIn, q_wI2, q_wJ1, q_wJs, q_wJn, q_wR1, q_wRs, q_wRn, q_wI22, q_wJ22, pk_us, pk_un, pk_uLs, pk_uLn, q_usS, q_usN, q_ups, q_upn, q5], by simp (maxSteps := 2000000) (disch := first | rfl | exact q_e1 _ _ _ | exact q_sr1 _ _ | omega) only [q_sr1, q_srn, q_srw, q_srs, q_wIs, q_wIn, q_wI2, q_wJ1, q_wJs, q_wJn, q_wR1, q_wRs, q_wRn, q_wI22, q_wJ22, pk_us, pk_un, pk_uLs, pk_uLn, q_usS, q_usN, q_ups, q_upn, q6], fun k hk => ?_⟩
      rw [q_wIn (by omega)]; exact q7 k hk
def tlE (ω : OM) (i : Nat) (Y : List Nat) : List Nat := sp 1 ++ ([97 + i] ++ (sp 1 ++ (dgs (ω.1 3 i).toNatClampNeg ++ (sp 1 ++ (dgs (ω.1 4 i).toNatClampNeg ++ remW (ω.1 (12 + i)) (ω.1 6 i).toNatClampNeg 0 (plZ (ω.1 5 i) Y))))))
theorem seller_ok {i : Nat} (hi : i < 8) (hT : T ≤ 7) (hp : PL T ω μ i) (hd : SLR T ω i) (hlen : ∀ j, j < i → (ω.1 6 j).toNatClampNeg ≤ 8) (hne : ∀ j, j < i → ω.1 5 j = ω.1 5 i → ω.1 5 j = m1) (hw : TW β τ (sBw 4) (tlE ω i Y)) (hn : NX β Y Q) : ∃ μ' τ', f_X9_readSeller μ π τ β = some (nI 1, μ', π, τ') ∧ PL T ω μ' (i + 1) ∧ Q τ' := by
  obtain ⟨⟨c1, h1, e1⟩, ⟨c2, h2, e2⟩, hpl, ⟨n, hl⟩, _⟩ := hd
  have hn7 := hl.2.1
  rw [tlE, e1, e2, hl.1, nI_clamp (by omega), nI_clamp (by omega), nI_clamp (by omega)] at hw
  obtain ⟨d1, d2, d3⟩ := dgs_d (v := c1) (by omega)
  obtain ⟨d4, d5, d6⟩ := dgs_d (v := c2) (by omega)
  have hv8 : ω.1 5 i = m1 ∨ ∃ t, t < 8 ∧ ω.1 5 i = nI t := by
    rcases hpl with q | ⟨t, ht, q⟩
    · exact Or.inl q
    · exact Or.inr ⟨t, by omega, q⟩
  obtain ⟨τ1, a1, a2⟩ := p_word (π := π) (by omega) hw (nx_w (by simp) (fun y hy => by rw [List.mem_singleton.mp hy]; exact decide_eq_true (by omega)) (nh_sp (by decide)) (by show 1 < 700; omega))
  obtain ⟨τ2, a3, a4, a5⟩ := p_new (π := π) a2 (by omega) (by omega) (nx_n d1 d2 (nh_sp (by decide)) (dgs_len c1).2)
  rw [d3] at a4
  obtain ⟨τ3, a6, a7⟩ := p_num (π := π) (hi := 9999) a4 (by omega) (by omega) (nx_n d4 d5 (nh_rem (by decide) (by decide) n 0) (dgs_len c2).2)
  rw [d6] at a7
  obtain ⟨τ4, a8, a9⟩ := p_num (π := π) (hi := 99) a7 (by omega) (by omega) (nx_wq hv8 n 0 (fun q hq => by
    obtain ⟨t, ht, e⟩ := hl.2.2.1 q (by omega)
    exact ⟨t, by omega, e⟩))
  obtain ⟨⟨⟨p1, p2⟩, p3, p4⟩, p5, p6⟩ := hp
  have hsc := se_called p5 (by omega) (fun j hj => (p4 j hj).1) (c := 97 + i) (by omega)
  rw [(fd_none (n := i) (P := fun j => decide (97 + j = 97 + i)) (by omega)).mpr (fun k hk => decide_eq_false (by omega))] at hsc
  have had : f_X5_addSeller (lN (97 + i)) (nI c1) (nI c2) μ = some (wI (wI (wI (wI (wI (wI (wI (wJ μ 1 i (lN (97 + i))) 2 i (nI c1)) 3 i (nI c2)) 4 i m1) 5 i (nI i)) 6 i (nI 0)) 0 7 (csum ω i + nI c1)) 0 0 (nI (i + 1))) := by
    simp (maxSteps := 2000000) (disch := first | rfl | exact q_e1 _ _ _ | exact q_sr1 _ _ | omega) only [f_X5_addSeller, p5, p6, ↓q_m1, q_l0, q_l1, q_l2, q_l3, q_l4, q_l5, q_l6, q_l7, q_l8, q_l9, q_l10, q_l11, q_l12, q_l13, q_l14, q_l15, q_l16, q_l17, q_l18, q_l19, q_l20, q_l21, q_l22, q_l23, q_l24, q_l25, q_l26, q_l27, q_l28, q_l29, q_l30, q_l31, q_l32, q_l33, q_l45, q_l46, q_l48, q_l57, q_l58, q_l59, q_l60, q_l61, q_l62, q_l63, q_l64, q_l96, q_l97, q_l99, q_l122, q_l129, q_l137, q_l255, q_l256, q_l400, q_l680, q_l700, q_l959, q_l999, q_l9999, q_l10000, q_l100000, q_l36, q_l50, q_l100, q_l112, q_l200, q_ltT, q_ltF, q_leT, q_leF, q_eqF, q_eqR, q_mlt, q_mle, q_nlm, q_nLm, q_nem, q_men, q_mlm, Nat.add_zero, Nat.sub_zero, q_add0, pk_rem, nI_add, pk_mul, q_sub, q_subm, q_addm, nI_clamp, q_inT, q_inF, q_sr1, q_srn, q_srw, q_srs, q_wIs, q_wIn, q_wI2, q_wJ1, q_wJs, q_wJn, q_wR1, q_wRs, q_wRn, q_wI22, q_wJ22, pk_us, pk_un, pk_uLs, pk_uLn, q_usS, q_usN, q_ups, q_upn, Bool.true_eq_false, Bool.false_eq_true, q_lt, q_o2, q_o3, q_o4, q_o5, q_bi, ↓reduceIte, q_tv0, q_tv1, q_bz, q_oRl, q_oRr, q_oXl, q_oXr]
  have hpw : PW T ω (wI (wI (wI (wI (wI (wI (wI (wJ μ 1 i (lN (97 + i))) 2 i (nI c1)) 3 i (nI c2)) 4 i m1) 5 i (nI i)) 6 i (nI 0)) 0 7 (csum ω i + nI c1)) 0 0 (nI (i + 1))) i 0 := by
    refine ⟨⟨⟨by simp (maxSteps := 2000000) (disch := first | rfl | exact q_e1 _ _ _ | exact q_sr1 _ _ | omega) only [q_sr1, q_srn, q_srw, q_srs, q_wIs, q_wIn, q_wI2, q_wJ1, q_wJs, q_wJn, q_wR1, q_wRs, q_wRn, q_wI22, q_wJ22, pk_us, pk_un, pk_uLs, pk_uLn, q_usS, q_usN, q_ups, q_upn, p1], fun q a b c => by simp (maxSteps := 2000000) (disch := first | rfl | exact q_e1 _ _ _ | exact q_sr1 _ _ | omega) only [q_sr1, q_srn, q_srw, q_srs, q_wIs, q_wIn, q_wI2, q_wJ1, q_wJs, q_wJn, q_wR1, q_wRs, q_wRn, q_wI22, q_wJ22, pk_us, pk_un, pk_uLs, pk_uLn, q_usS, q_usN, q_ups, q_upn, p2 q a b c]⟩, fun j hj => by simp (maxSteps := 2000000) (disch := first | rfl | exact q_e1 _ _ _ | exact q_sr1 _ _ | omega) only [q_sr1, q_srn, q_srw, q_srs, q_wIs, q_wIn, q_wI2, q_wJ1, q_wJs, q_wJn, q_wR1, q_wRs, q_wRn, q_wI22, q_wJ22, pk_us, pk_un, pk_uLs, pk_uLn, q_usS, q_usN, q_ups, q_upn]; exact p3 j hj, fun j hj => ?_⟩, by simp (maxSteps := 2000000) (disch := first | rfl | exact q_e1 _ _ _ | exact q_sr1 _ _ | omega) only [q_sr1, q_srn, q_srw, q_srs, q_wIs, q_wIn, q_wI2, q_wJ1, q_wJs, q_wJn, q_wR1, q_wRs, q_wRn, q_wI22, q_wJ22, pk_us, pk_un, pk_uLs, pk_uLn, q_usS, q_usN, q_ups, q_upn], by simp (maxSteps := 2000000) (disch := first | rfl | exact q_e1 _ _ _ | exact q_sr1 _ _ | omega) only [q_sr1, q_srn, q_srw, q_srs, q_wIs, q_wIn, q_wI2, q_wJ1, q_wJs, q_wJn, q_wR1, q_wRs, q_wRn, q_wI22, q_wJ22, pk_us, pk_un, pk_uLs, pk_uLn, q_usS, q_usN, q_ups, q_upn]; rw [csum, e1], by simp (maxSteps := 2000000) (disch := first | rfl | exact q_e1 _ _ _ | exact q_sr1 _ _ | omega) only [q_sr1, q_srn, q_srw, q_srs, q_wIs, q_wIn, q_wI2, q_wJ1, q_wJs, q_wJn, q_wR1, q_wRs, q_wRn, q_wI22, q_wJ22, pk_us, pk_un, pk_uLs, pk_uLn, q_usS, q_usN, q_ups, q_upn], by simp (maxSteps := 2000000) (disch := first | rfl | exact q_e1 _ _ _ | exact q_sr1 _ _ | omega) only [q_sr1, q_srn, q_srw, q_srs, q_wIs, q_wIn, q_wI2, q_wJ1, q_wJs, q_wJn, q_wR1, q_wRs, q_wRn, q_wI22, q_wJ22, pk_us, pk_un, pk_uLs, pk_uLn, q_usS, q_usN, q_ups, q_upn]; exact e1.symm, by simp (maxSteps := 2000000) (disch := first | rfl | exact q_e1 _ _ _ | exact q_sr1 _ _ | omega) only [q_sr1, q_srn, q_srw, q_srs, q_wIs, q_wIn, q_wI2, q_wJ1, q_wJs, q_wJn, q_wR1, q_wRs, q_wRn, q_wI22, q_wJ22, pk_us, pk_un, pk_uLs, pk_uLn, q_usS, q_usN, q_ups, q_upn]; exact e2.symm, by simp (maxSteps := 2000000) (disch := first | rfl | exact q_e1 _ _ _ | exact q_sr1 _ _ | omega) only [q_sr1, q_srn, q_srw, q_srs, q_wIs, q_wIn, q_wI2, q_wJ1, q_wJs, q_wJn, q_wR1, q_wRs, q_wRn, q_wI22, q_wJ22, pk_us, pk_un, pk_uLs, pk_uLn, q_usS, q_usN, q_ups, q_upn], by simp (maxSteps := 2000000) (disch := first | rfl | exact q_e1 _ _ _ | exact q_sr1 _ _ | omega) only [q_sr1, q_srn, q_srw, q_srs, q_wIs, q_wIn, q_wI2, q_wJ1, q_wJs, q_wJn, q_wR1, q_wRs, q_wRn, q_wI22, q_wJ22, pk_us, pk_un, pk_uLs, pk_uLn, q_usS, q_usN, q_ups, q_upn], by simp (maxSteps := 2000000) (disch := first | rfl | exact q_e1 _ _ _ | exact q_sr1 _ _ | omega) only [q_sr1, q_srn, q_srw, q_srs, q_wIs, q_wIn, q_wI2, q_wJ1, q_wJs, q_wJn, q_wR1, q_wRs, q_wRn, q_wI22, q_wJ22, pk_us, pk_un, pk_uLs, pk_uLn, q_usS, q_usN, q_ups, q_upn], fun q hq => by omega⟩
    obtain ⟨q1, q2, q3, q4, q5, q6, q7⟩ := p4 j hj
    have hji : j ≠ i := by omega
    refine ⟨by simp (maxSteps := 2000000) (disch := first | rfl | exact q_e1 _ _ _ | exact q_sr1 _ _ | omega) only [q_sr1, q_srn, q_srw, q_srs, q_wIs, q_wIn, q_wI2, q_wJ1, q_wJs, q_wJn, q_wR1, q_wRs, q_wRn, q_wI22, q_wJ22, pk_us, pk_un, pk_uLs, pk_uLn, q_usS, q_usN, q_ups, q_upn, q1], by simp (maxSteps := 2000000) (disch := first | rfl | exact q_e1 _ _ _ | exact q_sr1 _ _ | omega) only [q_sr1, q_srn, q_srw, q_srs, q_wIs, q_wIn, q_wI2, q_wJ1, q_wJs, q_wJn, q_wR1, q_wRs, q_wRn, q_wI22, q_wJ22, pk_us, pk_un, pk_uLs, pk_uLn, q_usS, q_usN, q_ups, q_upn, q2], by simp (maxSteps := 2000000) (disch := first | rfl | exact q_e1 _ _ _ | exact q_sr1 _ _ | omega) only [q_sr1, q_srn, q_srw, q_srs, q_wIs, q_wIn, q_wI2, q_wJ1, q_wJs, q_wJn, q_wR1, q_wRs, q_wRn, q_wI22, q_wJ22, pk_us, pk_un, pk_uLs, pk_uLn, q_usS, q_usN, q_ups, q_upn, q3], by simp (maxSteps := 2000000) (disch := first | rfl | exact q_e1 _ _ _ | exact q_sr1 _ _ | omega) only [q_sr1, q_srn, q_srw, q_srs, q_wIs, q_wIn, q_wI2, q_wJ1, q_wJs, q_wJn, q_wR1, q_wRs, q_wRn, q_wI22, q_wJ22, pk_us, pk_un, pk_uLs, pk_uLn, q_usS, q_usN, q_ups, q_upn, q4], by simp (maxSteps := 2000000) (disch := first | rfl | exact q_e1 _ _ _ | exact q_sr1 _ _ | omega) only [q_sr1, q_srn, q_srw, q_srs, q_wIs, q_wIn, q_wI2, q_wJ1, q_wJs, q_wJn, q_wR1, q_wRs, q_wRn, q_wI22, q_wJ22, pk_us, pk_un, pk_uLs, pk_uLn, q_usS, q_usN, q_ups, q_upn, q5], by simp (maxSteps := 2000000) (disch := first | rfl | exact q_e1 _ _ _ | exact q_sr1 _ _ | omega) only [q_sr1, q_srn, q_srw, q_srs, q_wIs, q_wIn, q_wI2, q_wJ1, q_wJs, q_wJn, q_wR1, q_wRs, q_wRn, q_wI22, q_wJ22, pk_us, pk_un, pk_uLs, pk_uLn, q_usS, q_usN, q_ups, q_upn, q6], fun k hk => by simp (maxSteps := 2000000) (disch := first | rfl | exact q_e1 _ _ _ | exact q_sr1 _ _ | omega) only [q_sr1, q_srn, q_srw, q_srs, q_wIs, q_wIn, q_wI2, q_wJ1, q_wJs, q_wJn, q_wR1, q_wRs, q_wRn, q_wI22, q_wJ22, pk_us, pk_un, pk_uLs, pk_uLn, q_usS, q_usN, q_ups, q_upn, q7 k hk]⟩
  obtain ⟨μ2, τ5, b1, b2, b3⟩ := wishes_ok (β := β) (π := π) (Y := Y) hi hT hl hlen hpl n 0 FU _ τ4 (by omega) (fu_lt (by omega)) hpw a9
  obtain ⟨μ3, τ6, b4, b5, b6⟩ := place_ok (π := π) hi hT hl.1 (by omega) (by
    rcases hpl with q | ⟨t, ht, q⟩
    · exact Or.inl q
    · refine Or.inr ⟨t, ht, q, fun j hj e => ?_⟩
      have := hne j hj (e.trans q.symm)
      rw [e] at this
      exact (q_nem (show t < 2 ^ 31 by omega)).mp this) b2 b3
  obtain ⟨τ7, b7, b8⟩ := p_semi (π := π) b6 hn
  have hrw : f_X9_readWishes (nI i) (wI (wI (wI (wI (wI (wI (wI (wJ μ 1 i (lN (97 + i))) 2 i (nI c1)) 3 i (nI c2)) 4 i m1) 5 i (nI i)) 6 i (nI 0)) 0 7 (csum ω i + nI c1)) 0 0 (nI (i + 1))) π τ4 β = some (nI 1, μ2, π, τ5) := b1
  refine ⟨μ3, τ7, ?_, b5, b8⟩
  have c1m : (nI c1 = m1) = False := q_nem (by omega)
  have c2m : (nI c2 = m1) = False := q_nem (by omega)
  simp (maxSteps := 2000000) (disch := first | rfl | exact q_e1 _ _ _ | exact q_sr1 _ _ | omega) only [f_X9_readSeller, a1, a5, hsc, a3, a6, c1m, a8, c2m, p5, had, hrw, b4, b7, ↓q_m1, q_l0, q_l1, q_l2, q_l3, q_l4, q_l5, q_l6, q_l7, q_l8, q_l9, q_l10, q_l11, q_l12, q_l13, q_l14, q_l15, q_l16, q_l17, q_l18, q_l19, q_l20, q_l21, q_l22, q_l23, q_l24, q_l25, q_l26, q_l27, q_l28, q_l29, q_l30, q_l31, q_l32, q_l33, q_l45, q_l46, q_l48, q_l57, q_l58, q_l59, q_l60, q_l61, q_l62, q_l63, q_l64, q_l96, q_l97, q_l99, q_l122, q_l129, q_l137, q_l255, q_l256, q_l400, q_l680, q_l700, q_l959, q_l999, q_l9999, q_l10000, q_l100000, q_l36, q_l50, q_l100, q_l112, q_l200, q_ltT, q_ltF, q_leT, q_leF, q_eqF, q_eqR, q_mlt, q_mle, q_nlm, q_nLm, q_nem, q_men, q_mlm, Nat.add_zero, Nat.sub_zero, q_add0, pk_rem, nI_add, pk_mul, q_sub, q_subm, q_addm, nI_clamp, q_inT, q_inF, q_sr1, q_srn, q_srw, q_srs, q_wIs, q_wIn, q_wI2, q_wJ1, q_wJs, q_wJn, q_wR1, q_wRs, q_wRn, q_wI22, q_wJ22, pk_us, pk_un, pk_uLs, pk_uLn, q_usS, q_usN, q_ups, q_upn, Bool.true_eq_false, Bool.false_eq_true, q_lt, q_o2, q_o3, q_o4, q_o5, q_bi, ↓reduceIte, q_tv0, q_tv1, q_bz, q_oRl, q_oRr, q_oXl, q_oXr]
def remE (ω : OM) : Nat → Nat → List Nat → List Nat
  | 0, _, Z => Z
  | r + 1, i, Z => sBw 4 ++ tlE ω i (remE ω r (i + 1) Z)
theorem seT_eq (ω : OM) (i : Nat) (Y : List Nat) : seT ω i ++ Y = sBw 4 ++ tlE ω i Y := by
  have hw : ∀ Z, wis (ω.1 (12 + i)) (ω.1 6 i).toNatClampNeg ++ Z = remW (ω.1 (12 + i)) (ω.1 6 i).toNatClampNeg 0 Z := fun Z => by
    have := remW_eq (ω.1 (12 + i)) Z (ω.1 6 i).toNatClampNeg 0
    rw [Nat.zero_add] at this
    rw [← this]; rfl
  have hz : plT (ω.1 5 i) ++ (sBw 9 ++ Y) = plZ (ω.1 5 i) Y := by
    by_cases c : ω.1 5 i = m1
    · rw [plT, if_pos c, plZ, if_pos c, sB_eq.2.2.1]; rfl
    · rw [plT, if_neg c, plZ, if_neg c, sB_eq.2.2.1, sB_eq.2.2.2.2.1]; simp [sp]
  rw [seT, tlE, ← hw, ← hz, sB_eq.2.1]
  simp [sp]
theorem remE_eq (ω : OM) (Z : List Nat) : ∀ r i, sellers ω i ++ remE ω r i Z = sellers ω (i + r) ++ Z
  | 0, i => rfl
  | r + 1, i => by
    have h := remE_eq ω Z r (i + 1)
    rw [show i + (r + 1) = i + 1 + r by omega, ← h, remE, sellers, List.append_assoc, seT_eq]
theorem sellers_ok {S : Nat} {Z : List Nat} (hz : NX β Z (fun τ' => τ'.1 0 1 = nI 0)) (hT : T ≤ 7) (hS : S ≤ 7) (hd : ∀ j, j < S → SLR T ω j) (hne : ∀ j j', j < S → j' < S → ω.1 5 j = ω.1 5 j' → ω.1 5 j ≠ m1 → j = j') : ∀ (r i m : Nat) (μ τ : OM), i + 1 + r = S → r + 1 < m → PL T ω μ i → TW β τ (sBw 4) (tlE ω i (remE ω r (i + 1) Z)) → ∃ μ' τ', f_X9_readSellers_2 β m (nI i) μ π τ = some (nI 1, μ', π, τ') ∧ PL T ω μ' S := by
  have hne4 : (sBw 4 : List Nat) ≠ [] := fun q => by have := sB_ln.2.2.2.2.2.2.2.2; rw [q] at this; cases this
  have hlen : ∀ j, j < S → (ω.1 6 j).toNatClampNeg ≤ 8 := fun j hj => by
    obtain ⟨_, _, _, ⟨n, q1, q2, _⟩, _⟩ := hd j hj
    rw [q1, nI_clamp (by omega)]; omega
  have hp1 : ∀ i, i < S → ∀ j, j < i → ω.1 5 j = ω.1 5 i → ω.1 5 j = m1 := fun i hi j hj e => by
    by_cases c : ω.1 5 j = m1
    · exact c
    · have := hne j i (by omega) hi e c
      omega
  have body : ∀ (t m : Nat) (μ τ μ1 τ1 : OM), t ≤ 7 → f_X9_readSeller μ π τ β = some (nI 1, μ1, π, τ1) → τ.1 0 1 = nI 1 → f_X9_readSellers_2 β (m + 1) (nI t) μ π τ = f_X9_readSellers_2 β m (nI (t + 1)) μ1 π τ1 := fun t m μ τ μ1 τ1 ht h1 h2 => by
    have c8 : (nI 8 ≤ nI t) = False := eq_false (nI_ge (by omega) (by omega))
    by_cases c : t = 0
    · subst c
      simp (maxSteps := 2000000) (disch := first | rfl | exact q_e1 _ _ _ | exact q_sr1 _ _ | omega) only [f_X9_readSellers_2, c8, h1, ↓q_m1, q_l0, q_l1, q_l2, q_l3, q_l4, q_l5, q_l6, q_l7, q_l8, q_l9, q_l10, q_l11, q_l12, q_l13, q_l14, q_l15, q_l16, q_l17, q_l18, q_l19, q_l20, q_l21, q_l22, q_l23, q_l24, q_l25, q_l26, q_l27, q_l28, q_l29, q_l30, q_l31, q_l32, q_l33, q_l45, q_l46, q_l48, q_l57, q_l58, q_l59, q_l60, q_l61, q_l62, q_l63, q_l64, q_l96, q_l97, q_l99, q_l122, q_l129, q_l137, q_l255, q_l256, q_l400, q_l680, q_l700, q_l959, q_l999, q_l9999, q_l10000, q_l100000, q_l36, q_l50, q_l100, q_l112, q_l200, q_ltT, q_ltF, q_leT, q_leF, q_eqF, q_eqR, q_mlt, q_mle, q_nlm, q_nLm, q_nem, q_men, q_mlm, Nat.add_zero, Nat.sub_zero, q_add0, pk_rem, nI_add, pk_mul, q_sub, q_subm, q_addm, nI_clamp, q_inT, q_inF, q_sr1, q_srn, q_srw, q_srs, q_wIs, q_wIn, q_wI2, q_wJ1, q_wJs, q_wJn, q_wR1, q_wRs, q_wRn, q_wI22, q_wJ22, pk_us, pk_un, pk_uLs, pk_uLn, q_usS, q_usN, q_ups, q_upn, Bool.true_eq_false, Bool.false_eq_true, q_lt, q_o2, q_o3, q_o4, q_o5, q_bi, ↓reduceIte, q_tv0, q_tv1, q_bz, q_oRl, q_oRr, q_oXl, q_oXr]
    · have c0 : (nI t ≤ nI 0) = False := eq_false (nI_ge (by omega) (by omega))
      simp (maxSteps := 2000000) (disch := first | rfl | exact q_e1 _ _ _ | exact q_sr1 _ _ | omega) only [f_X9_readSellers_2, c8, c0, h1, h2, ↓q_m1, q_l0, q_l1, q_l2, q_l3, q_l4, q_l5, q_l6, q_l7, q_l8, q_l9, q_l10, q_l11, q_l12, q_l13, q_l14, q_l15, q_l16, q_l17, q_l18, q_l19, q_l20, q_l21, q_l22, q_l23, q_l24, q_l25, q_l26, q_l27, q_l28, q_l29, q_l30, q_l31, q_l32, q_l33, q_l45, q_l46, q_l48, q_l57, q_l58, q_l59, q_l60, q_l61, q_l62, q_l63, q_l64, q_l96, q_l97, q_l99, q_l122, q_l129, q_l137, q_l255, q_l256, q_l400, q_l680, q_l700, q_l959, q_l999, q_l9999, q_l10000, q_l100000, q_l36, q_l50, q_l100, q_l112, q_l200, q_ltT, q_ltF, q_leT, q_leF, q_eqF, q_eqR, q_mlt, q_mle, q_nlm, q_nLm, q_nem, q_men, q_mlm, Nat.add_zero, Nat.sub_zero, q_add0, pk_rem, nI_add, pk_mul, q_sub, q_subm, q_addm, nI_clamp, q_inT, q_inF, q_sr1, q_srn, q_srw, q_srs, q_wIs, q_wIn, q_wI2, q_wJ1, q_wJs, q_wJn, q_wR1, q_wRs, q_wRn, q_wI22, q_wJ22, pk_us, pk_un, pk_uLs, pk_uLn, q_usS, q_usN, q_ups, q_upn, Bool.true_eq_false, Bool.false_eq_true, q_lt, q_o2, q_o3, q_o4, q_o5, q_bi, ↓reduceIte, q_tv0, q_tv1, q_bz, q_oRl, q_oRr, q_oXl, q_oXr]
  intro r
  induction r with
  | zero =>
    intro i m μ τ ht hm hp hw
    obtain ⟨m, rfl⟩ : ∃ q, m = q + 2 := ⟨m - 2, by omega⟩
    obtain ⟨μ', τ', f1, f2, f3⟩ := seller_ok (π := π) (by omega) hT hp (hd i (by omega)) (fun j hj => hlen j (by omega)) (hp1 i (by omega)) hw hz
    obtain rfl : i + 1 = S := by omega
    refine ⟨μ', τ', ?_, f2⟩
    obtain ⟨_, k1, _⟩ := hw
    rw [body i (m + 1) μ τ μ' τ' (by omega) f1 k1]
    have c8 : (nI 8 ≤ nI (i + 1)) = False := eq_false (nI_ge (by omega) (by omega))
    have c0 : (nI (i + 1) ≤ nI 0) = False := eq_false (nI_ge (by omega) (by omega))
    simp (maxSteps := 2000000) (disch := first | rfl | exact q_e1 _ _ _ | exact q_sr1 _ _ | omega) only [f_X9_readSellers_2, c8, c0, f3, ↓q_m1, q_l0, q_l1, q_l2, q_l3, q_l4, q_l5, q_l6, q_l7, q_l8, q_l9, q_l10, q_l11, q_l12, q_l13, q_l14, q_l15, q_l16, q_l17, q_l18, q_l19, q_l20, q_l21, q_l22, q_l23, q_l24, q_l25, q_l26, q_l27, q_l28, q_l29, q_l30, q_l31, q_l32, q_l33, q_l45, q_l46, q_l48, q_l57, q_l58, q_l59, q_l60, q_l61, q_l62, q_l63, q_l64, q_l96, q_l97, q_l99, q_l122, q_l129, q_l137, q_l255, q_l256, q_l400, q_l680, q_l700, q_l959, q_l999, q_l9999, q_l10000, q_l100000, q_l36, q_l50, q_l100, q_l112, q_l200, q_ltT, q_ltF, q_leT, q_leF, q_eqF, q_eqR, q_mlt, q_mle, q_nlm, q_nLm, q_nem, q_men, q_mlm, Nat.add_zero, Nat.sub_zero, q_add0, pk_rem, nI_add, pk_mul, q_sub, q_subm, q_addm, nI_clamp, q_inT, q_inF, q_sr1, q_srn, q_srw, q_srs, q_wIs, q_wIn, q_wI2, q_wJ1, q_wJs, q_wJn, q_wR1, q_wRs, q_wRn, q_wI22, q_wJ22, pk_us, pk_un, pk_uLs, pk_uLn, q_usS, q_usN, q_ups, q_upn, Bool.true_eq_false, Bool.false_eq_true, q_lt, q_o2, q_o3, q_o4, q_o5, q_bi, ↓reduceIte, q_tv0, q_tv1, q_bz, q_oRl, q_oRr, q_oXl, q_oXr]
  | succ r ih =>
    intro i m μ τ ht hm hp hw
    obtain ⟨m, rfl⟩ : ∃ q, m = q + 1 := ⟨m - 1, by omega⟩
    have hnx : NX β (remE ω (r + 1) (i + 1) Z) (fun τ' => TW β τ' (sBw 4) (tlE ω (i + 1) (remE ω r (i + 1 + 1) Z))) := nx_w (k := 0) hne4 (sB_let 4 (by omega) (by omega)) (nh_sp (by decide)) (by rw [sB_ln.2.2.2.2.2.2.2.2]; omega)
    obtain ⟨μ', τ', f1, f2, f3⟩ := seller_ok (π := π) (by omega) hT hp (hd i (by omega)) (fun j hj => hlen j (by omega)) (hp1 i (by omega)) hw hnx
    obtain ⟨μ2, τ2, k1, k2⟩ := ih (i + 1) m μ' τ' (by omega) (by omega) f2 f3
    obtain ⟨_, kk, _⟩ := hw
    exact ⟨μ2, τ2, by rw [body i m μ τ μ' τ' (by omega) f1 kk]; exact k1, k2⟩
end PSL

/-! Own's start -/
def stT (f : Nat → Int32) (t : Nat) : List Nat := sBw 7 ++ ([32, 112 + t] ++ ((32 :: dgs (f t).toNatClampNeg) ++ sBw 9))
def stalls (f : Nat → Int32) : Nat → List Nat
  | 0 => []
  | t + 1 => stalls f t ++ stT f t
def wis (f : Nat → Int32) : Nat → List Nat
  | 0 => []
  | k + 1 => wis f k ++ [32, 112 + (f k).toNatClampNeg]
def plT (v : Int32) : List Nat := if v = m1 then [] else sBw 11 ++ [32, 112 + v.toNatClampNeg]
def seT (ω : OM) (i : Nat) : List Nat := sBw 10 ++ ([32, 97 + i] ++ ((32 :: dgs (ω.1 3 i).toNatClampNeg) ++ ((32 :: dgs (ω.1 4 i).toNatClampNeg) ++ (wis (ω.1 (12 + i)) (ω.1 6 i).toNatClampNeg ++ (plT (ω.1 5 i) ++ sBw 9)))))
def sellers (ω : OM) : Nat → List Nat
  | 0 => []
  | i + 1 => sellers ω i ++ seT ω i
theorem sB_len : (sBw 6).length = 7 ∧ (sBw 7).length = 5 ∧ (sBw 9).length = 1 ∧ (sBw 10).length = 6 ∧ (sBw 11).length = 3 := by decide +kernel
theorem stalls_congr {f g : Nat → Int32} : ∀ {n : Nat}, (∀ k, k < n → f k = g k) → stalls f n = stalls g n
  | 0, _ => rfl
  | n + 1, h => by rw [stalls, stalls, stalls_congr (n := n) (fun k hk => h k (by omega)), stT, stT, h n (by omega)]
theorem wis_congr {f g : Nat → Int32} : ∀ {n : Nat}, (∀ k, k < n → f k = g k) → wis f n = wis g n
  | 0, _ => rfl
  | n + 1, h => by rw [wis, wis, wis_congr (n := n) (fun k hk => h k (by omega)), h n (by omega)]
theorem stalls_len {f : Nat → Int32} : ∀ n : Nat, (stalls f n).length ≤ 12 * n
  | 0 => Nat.le_refl _
  | n + 1 => by
    have h := stalls_len (f := f) n
    obtain ⟨_, l7, l9, _⟩ := sB_len
    have hd := (dgs_len (f n).toNatClampNeg).2
    rw [stalls, stT]
    simp only [List.length_append, List.length_cons, List.length_nil]
    omega
theorem wis_len {f : Nat → Int32} : ∀ n : Nat, (wis f n).length = 2 * n
  | 0 => rfl
  | n + 1 => by rw [wis, List.length_append, wis_len n]; show 2 * n + 2 = _; omega
theorem plT_len (v : Int32) : (plT v).length ≤ 5 := by
  rw [plT]
  by_cases c : v = m1
  · rw [if_pos c]; exact Nat.zero_le _
  · rw [if_neg c, List.length_append, sB_len.2.2.2.2]; exact Nat.le_refl _
theorem sellers_len {ω : OM} : ∀ n : Nat, (∀ j, j < n → (ω.1 6 j).toNatClampNeg ≤ 7) → (sellers ω n).length ≤ 36 * n
  | 0, _ => Nat.le_refl _
  | n + 1, h => by
    have h1 := sellers_len (ω := ω) n (fun j hj => h j (by omega))
    obtain ⟨_, _, l9, l10, _⟩ := sB_len
    have d1 := (dgs_len (ω.1 3 n).toNatClampNeg).2
    have d2 := (dgs_len (ω.1 4 n).toNatClampNeg).2
    have d3 := wis_len (f := ω.1 (12 + n)) (ω.1 6 n).toNatClampNeg
    have d4 := plT_len (ω.1 5 n)
    have d5 := h n (by omega)
    rw [sellers, seT]
    simp only [List.length_append, List.length_cons, List.length_nil]
    omega
theorem sellers_congr {ω ω' : OM} : ∀ {n : Nat}, (∀ j, j < n → ω'.1 3 j = ω.1 3 j ∧ ω'.1 4 j = ω.1 4 j ∧ ω'.1 5 j = ω.1 5 j ∧ ω'.1 6 j = ω.1 6 j ∧ ω'.1 (12 + j) = ω.1 (12 + j)) → sellers ω' n = sellers ω n
  | 0, _ => rfl
  | n + 1, h => by
    obtain ⟨h1, h2, h3, h4, h5⟩ := h n (by omega)
    rw [sellers, sellers, sellers_congr (n := n) (fun k hk => h k (by omega)), seT, seT, h1, h2, h3, h4, h5]
section BEG
variable {S T : Nat} {ω : OM} {σ : SM} {L : List Nat}
theorem rank_d {i n : Nat} (hi : i < 8) (e : ω.1 6 i = nI n) (hn : n ≤ 8) (v : Int32) : f_X13_rank (nI i) v ω = some (fd n (fun k => decide (ω.1 (12 + i) k = v))) := by
  refine lp_fd (F := f_X13_rank_2 (nI i) v ω) _ n (fun m k hk => ?_) (fun m => ?_) (fu_lt (by omega))
  · simp (maxSteps := 2000000) (disch := first | rfl | exact q_e1 _ _ _ | exact q_sr1 _ _ | omega) only [f_X13_rank_2, ↓q_m1, q_l0, q_l1, q_l2, q_l3, q_l4, q_l5, q_l6, q_l7, q_l8, q_l9, q_l10, q_l11, q_l12, q_l13, q_l14, q_l15, q_l16, q_l17, q_l18, q_l19, q_l20, q_l21, q_l22, q_l23, q_l24, q_l25, q_l26, q_l27, q_l28, q_l29, q_l30, q_l31, q_l32, q_l33, q_l45, q_l46, q_l48, q_l57, q_l58, q_l59, q_l60, q_l61, q_l62, q_l63, q_l64, q_l96, q_l97, q_l99, q_l122, q_l129, q_l137, q_l255, q_l256, q_l400, q_l680, q_l700, q_l959, q_l999, q_l9999, q_l10000, q_l100000, q_l36, q_l50, q_l100, q_l112, q_l200, q_ltT, q_ltF, q_leT, q_leF, q_eqF, q_eqR, q_mlt, q_mle, q_nlm, q_nLm, q_nem, q_men, q_mlm, Nat.add_zero, Nat.sub_zero, q_add0, pk_rem, nI_add, pk_mul, q_sub, q_subm, q_addm, nI_clamp, q_inT, q_inF, q_sr1, q_srn, q_srw, q_srs, q_wIs, q_wIn, q_wI2, q_wJ1, q_wJs, q_wJn, q_wR1, q_wRs, q_wRn, q_wI22, q_wJ22, pk_us, pk_un, pk_uLs, pk_uLn, q_usS, q_usN, q_ups, q_upn, Bool.true_eq_false, Bool.false_eq_true, q_lt, q_o2, q_o3, q_o4, q_o5, q_bi, ↓reduceIte, q_tv0, q_tv1, q_bz, q_oRl, q_oRr, q_oXl, q_oXr, e]
    by_cases c : ω.1 (12 + i) k = v
    · rw [if_pos c, if_pos (decide_eq_true c)]
    · rw [if_neg c, if_neg (by simp [c])]
  · simp (maxSteps := 2000000) (disch := first | rfl | exact q_e1 _ _ _ | exact q_sr1 _ _ | omega) only [f_X13_rank_2, ↓q_m1, q_l0, q_l1, q_l2, q_l3, q_l4, q_l5, q_l6, q_l7, q_l8, q_l9, q_l10, q_l11, q_l12, q_l13, q_l14, q_l15, q_l16, q_l17, q_l18, q_l19, q_l20, q_l21, q_l22, q_l23, q_l24, q_l25, q_l26, q_l27, q_l28, q_l29, q_l30, q_l31, q_l32, q_l33, q_l45, q_l46, q_l48, q_l57, q_l58, q_l59, q_l60, q_l61, q_l62, q_l63, q_l64, q_l96, q_l97, q_l99, q_l122, q_l129, q_l137, q_l255, q_l256, q_l400, q_l680, q_l700, q_l959, q_l999, q_l9999, q_l10000, q_l100000, q_l36, q_l50, q_l100, q_l112, q_l200, q_ltT, q_ltF, q_leT, q_leF, q_eqF, q_eqR, q_mlt, q_mle, q_nlm, q_nLm, q_nem, q_men, q_mlm, Nat.add_zero, Nat.sub_zero, q_add0, pk_rem, nI_add, pk_mul, q_sub, q_subm, q_addm, nI_clamp, q_inT, q_inF, q_sr1, q_srn, q_srw, q_srs, q_wIs, q_wIn, q_wI2, q_wJ1, q_wJs, q_wJn, q_wR1, q_wRs, q_wRn, q_wI22, q_wJ22, pk_us, pk_un, pk_uLs, pk_uLn, q_usS, q_usN, q_ups, q_upn, Bool.true_eq_false, Bool.false_eq_true, q_lt, q_o2, q_o3, q_o4, q_o5, q_bi, ↓reduceIte, q_tv0, q_tv1, q_bz, q_oRl, q_oRr, q_oXl, q_oXr, e]
theorem tenant_d {n : Nat} (e : ω.1 0 15 = nI n) (hn : n ≤ 8) (v : Int32) : f_X13_tenant v ω = some (fd n (fun k => decide (ω.1 5 k = v))) := by
  refine lp_fd (F := f_X13_tenant_2 v ω) _ n (fun m k hk => ?_) (fun m => ?_) (fu_lt (by omega))
  · simp (maxSteps := 2000000) (disch := first | rfl | exact q_e1 _ _ _ | exact q_sr1 _ _ | omega) only [f_X13_tenant_2, ↓q_m1, q_l0, q_l1, q_l2, q_l3, q_l4, q_l5, q_l6, q_l7, q_l8, q_l9, q_l10, q_l11, q_l12, q_l13, q_l14, q_l15, q_l16, q_l17, q_l18, q_l19, q_l20, q_l21, q_l22, q_l23, q_l24, q_l25, q_l26, q_l27, q_l28, q_l29, q_l30, q_l31, q_l32, q_l33, q_l45, q_l46, q_l48, q_l57, q_l58, q_l59, q_l60, q_l61, q_l62, q_l63, q_l64, q_l96, q_l97, q_l99, q_l122, q_l129, q_l137, q_l255, q_l256, q_l400, q_l680, q_l700, q_l959, q_l999, q_l9999, q_l10000, q_l100000, q_l36, q_l50, q_l100, q_l112, q_l200, q_ltT, q_ltF, q_leT, q_leF, q_eqF, q_eqR, q_mlt, q_mle, q_nlm, q_nLm, q_nem, q_men, q_mlm, Nat.add_zero, Nat.sub_zero, q_add0, pk_rem, nI_add, pk_mul, q_sub, q_subm, q_addm, nI_clamp, q_inT, q_inF, q_sr1, q_srn, q_srw, q_srs, q_wIs, q_wIn, q_wI2, q_wJ1, q_wJs, q_wJn, q_wR1, q_wRs, q_wRn, q_wI22, q_wJ22, pk_us, pk_un, pk_uLs, pk_uLn, q_usS, q_usN, q_ups, q_upn, Bool.true_eq_false, Bool.false_eq_true, q_lt, q_o2, q_o3, q_o4, q_o5, q_bi, ↓reduceIte, q_tv0, q_tv1, q_bz, q_oRl, q_oRr, q_oXl, q_oXr, e]
    by_cases c : ω.1 5 k = v
    · rw [if_pos c, if_pos (decide_eq_true c)]
    · rw [if_neg c, if_neg (by simp [c])]
  · simp (maxSteps := 2000000) (disch := first | rfl | exact q_e1 _ _ _ | exact q_sr1 _ _ | omega) only [f_X13_tenant_2, ↓q_m1, q_l0, q_l1, q_l2, q_l3, q_l4, q_l5, q_l6, q_l7, q_l8, q_l9, q_l10, q_l11, q_l12, q_l13, q_l14, q_l15, q_l16, q_l17, q_l18, q_l19, q_l20, q_l21, q_l22, q_l23, q_l24, q_l25, q_l26, q_l27, q_l28, q_l29, q_l30, q_l31, q_l32, q_l33, q_l45, q_l46, q_l48, q_l57, q_l58, q_l59, q_l60, q_l61, q_l62, q_l63, q_l64, q_l96, q_l97, q_l99, q_l122, q_l129, q_l137, q_l255, q_l256, q_l400, q_l680, q_l700, q_l959, q_l999, q_l9999, q_l10000, q_l100000, q_l36, q_l50, q_l100, q_l112, q_l200, q_ltT, q_ltF, q_leT, q_leF, q_eqF, q_eqR, q_mlt, q_mle, q_nlm, q_nLm, q_nem, q_men, q_mlm, Nat.add_zero, Nat.sub_zero, q_add0, pk_rem, nI_add, pk_mul, q_sub, q_subm, q_addm, nI_clamp, q_inT, q_inF, q_sr1, q_srn, q_srw, q_srs, q_wIs, q_wIn, q_wI2, q_wJ1, q_wJs, q_wJn, q_wR1, q_wRs, q_wRn, q_wI22, q_wJ22, pk_us, pk_un, pk_uLs, pk_uLn, q_usS, q_usN, q_ups, q_upn, Bool.true_eq_false, Bool.false_eq_true, q_lt, q_o2, q_o3, q_o4, q_o5, q_bi, ↓reduceIte, q_tv0, q_tv1, q_bz, q_oRl, q_oRr, q_oXl, q_oXr, e]
theorem stall_put (h : TX ω L) {t r : Nat} (ht : t < 8) (hr : r ≤ 99) (hl : L.length + 12 ≤ 700) : ∃ m1' m2 m3 m4, f_X13_put 7 (wI ω 2 t (nI r)) = some m1' ∧ f_X13_letter (nI 112) (nI t) m1' = some m2 ∧ m2.1 2 t = nI r ∧ f_X13_put_ (nI r) m2 = some m3 ∧ f_X13_put 9 m3 = some m4 ∧ TX m4 (L ++ (sBw 7 ++ ([32, 112 + t] ++ ((32 :: dgs r) ++ sBw 9)))) ∧ KX (wI ω 2 t (nI r)) m4 := by
  obtain ⟨_, l7, l9, _⟩ := sB_len
  have h0 : TX (wI ω 2 t (nI r)) L := h.row (q_wIn (by omega)) (congrFun (q_wIn (by omega)) 13)
  obtain ⟨ω1, a1, a2, a3⟩ := put1 h0 (w := 7) (by omega) (by omega)
  obtain ⟨ω2, b1, b2, b3⟩ := letter1 a2 (p := 112) (t := t) (by omega) (by rw [List.length_append]; omega)
  have e2 : ω2.1 2 t = nI r := by rw [(a3.tr b3).1 2 (by omega) (by omega), q_wIs, pk_us]
  obtain ⟨ω3, c1, c2, c3⟩ := num1 b2 (v := r) (by omega) (by simp only [List.length_append, List.length_cons, List.length_nil]; omega)
  have hd := (dgs_len r).2
  obtain ⟨ω4, d1, d2, d3⟩ := put1 c2 (w := 9) (by omega) (by simp only [List.length_append, List.length_cons, List.length_nil]; omega)
  refine ⟨ω1, ω2, ω3, ω4, a1, b1, e2, c1, d1, ?_, ((a3.tr b3).tr c3).tr d3⟩
  simpa only [List.append_assoc] using d2
def BA (S T t : Nat) (ω : OM) : Prop := (ω.1 0 15 = nI S ∧ ω.1 0 14 = nI T ∧ ω.1 0 16 = nI 0) ∧ (∀ j, j < 8 → ω.1 5 j = m1) ∧ (∀ j, j < t → ∃ r, r ≤ 99 ∧ ω.1 2 j = nI r) ∧ TX ω (sBw 6 ++ stalls (ω.1 2) t)
theorem ba_step {t r : Nat} (h : BA S T t ω) (hr : r ≤ 99) (ht : t < 8) (v v' : Int32) : ∃ m1' m2 m3 m4, f_X13_put 7 (wI (wI (wI ω 0 12 v) 0 12 v') 2 t (nI r)) = some m1' ∧ f_X13_letter (nI 112) (nI t) m1' = some m2 ∧ m2.1 2 t = nI r ∧ f_X13_put_ (nI r) m2 = some m3 ∧ f_X13_put 9 m3 = some m4 ∧ BA S T (t + 1) m4 := by
  obtain ⟨⟨h1, h2, h3⟩, h4, h5, h6⟩ := h
  have hl : (sBw 6 ++ stalls (ω.1 2) t).length ≤ 7 + 12 * t := by
    rw [List.length_append, sB_len.1]
    have := stalls_len (f := ω.1 2) t
    omega
  obtain ⟨x1, x2, x3, x4, a1, a2, a3, a4, a5, a6, a7⟩ := stall_put ((h6.d v).d v') ht hr (by omega)
  have row : ∀ k, k ≠ 0 → k ≠ 1 → k ≠ 2 → x4.1 k = ω.1 k := fun k k0 k1 k2 => by rw [a7.1 k k0 k1, q_wIn k2, q_wIn k0, q_wIn k0]
  have fld : ∀ j, j ≠ 12 → j ≠ 13 → x4.1 0 j = ω.1 0 j := fun j j1 j2 => by rw [a7.2 j j1 j2, q_wIn (by omega), q_wIs, pk_un j1, q_wIs, pk_un j1]
  have r2 : x4.1 2 = upd (ω.1 2) t (nI r) := by rw [a7.1 2 (by omega) (by omega), q_wIs, q_wIn (by omega), q_wIn (by omega)]
  refine ⟨x1, x2, x3, x4, a1, a2, a3, a4, a5, ⟨(fld 15 (by omega) (by omega)).trans h1, (fld 14 (by omega) (by omega)).trans h2, (fld 16 (by omega) (by omega)).trans h3⟩, fun j hj => by rw [row 5 (by omega) (by omega) (by omega)]; exact h4 j hj, fun j hj => ?_, ?_⟩
  · rw [r2]
    by_cases e : j = t
    · subst e; exact ⟨r, hr, pk_us⟩
    · rw [pk_un e]; exact h5 j (by omega)
  · rw [stalls, stT, r2, pk_us, nI_clamp (by omega), stalls_congr (f := upd (ω.1 2) t (nI r)) (g := ω.1 2) (fun k hk => pk_un (by omega)), ← List.append_assoc]
    exact a6
theorem begin_63 (h : BA S T 0 (σ 20)) (t8 : T ≤ 8) : ∃ σ', f_X13_begin_63 FU (nI 0) σ = some σ' ∧ (∀ o, o ≠ 20 → σ' o = σ o) ∧ BA S T T (σ' 20) := by
  obtain ⟨b, g1, g2⟩ := lp_inv (F := fun n x s => f_X13_begin_63 n x s) (fun (t : Nat) (s : SM) => (∀ o, o ≠ 20 → s o = σ o) ∧ BA S T t (s 20)) (fun s => (∀ o, o ≠ 20 → s o = σ o) ∧ BA S T T (s 20)) T (fun n t s ht hh => by
    obtain ⟨h1, h2⟩ := hh
    have h14 := h2.1.2.1
    obtain ⟨r, v, hr, er⟩ := draw_ok (m := 2) (by omega) (by omega) (s 20)
    by_cases c : r = 0
    · subst c
      obtain ⟨r', v', hr', er'⟩ := draw_ok (m := 100) (by omega) (by omega) (wI (s 20) 0 12 v)
      obtain ⟨x1, x2, x3, x4, a1, a2, a3, a4, a5, a6⟩ := ba_step h2 (show r' ≤ 99 by omega) (by omega) v v'
      refine ⟨us s 20 x4, ⟨fun o ho => (q_usN ho).trans (h1 o ho), by rw [q_usS]; exact a6⟩, ?_⟩
      simp (maxSteps := 2000000) (disch := first | rfl | exact q_e1 _ _ _ | exact q_sr1 _ _ | omega) only [f_X13_begin_63, ↓q_m1, q_l0, q_l1, q_l2, q_l3, q_l4, q_l5, q_l6, q_l7, q_l8, q_l9, q_l10, q_l11, q_l12, q_l13, q_l14, q_l15, q_l16, q_l17, q_l18, q_l19, q_l20, q_l21, q_l22, q_l23, q_l24, q_l25, q_l26, q_l27, q_l28, q_l29, q_l30, q_l31, q_l32, q_l33, q_l45, q_l46, q_l48, q_l57, q_l58, q_l59, q_l60, q_l61, q_l62, q_l63, q_l64, q_l96, q_l97, q_l99, q_l122, q_l129, q_l137, q_l255, q_l256, q_l400, q_l680, q_l700, q_l959, q_l999, q_l9999, q_l10000, q_l100000, q_l36, q_l50, q_l100, q_l112, q_l200, q_ltT, q_ltF, q_leT, q_leF, q_eqF, q_eqR, q_mlt, q_mle, q_nlm, q_nLm, q_nem, q_men, q_mlm, Nat.add_zero, Nat.sub_zero, q_add0, pk_rem, nI_add, pk_mul, q_sub, q_subm, q_addm, nI_clamp, q_inT, q_inF, q_sr1, q_srn, q_srw, q_srs, q_wIs, q_wIn, q_wI2, q_wJ1, q_wJs, q_wJn, q_wR1, q_wRs, q_wRn, q_wI22, q_wJ22, pk_us, pk_un, pk_uLs, pk_uLn, q_usS, q_usN, q_ups, q_upn, Bool.true_eq_false, Bool.false_eq_true, q_lt, q_o2, q_o3, q_o4, q_o5, q_bi, ↓reduceIte, q_tv0, q_tv1, q_bz, q_oRl, q_oRr, q_oXl, q_oXr, h14, er, er', us_us, a1, a2, a3, a4, a5]
    · obtain ⟨r', v', hr', er'⟩ := draw_ok (m := 20) (by omega) (by omega) (wI (s 20) 0 12 v)
      obtain ⟨x1, x2, x3, x4, a1, a2, a3, a4, a5, a6⟩ := ba_step h2 (show r' ≤ 99 by omega) (by omega) v v'
      refine ⟨us s 20 x4, ⟨fun o ho => (q_usN ho).trans (h1 o ho), by rw [q_usS]; exact a6⟩, ?_⟩
      simp (maxSteps := 2000000) (disch := first | rfl | exact q_e1 _ _ _ | exact q_sr1 _ _ | omega) only [f_X13_begin_63, ↓q_m1, q_l0, q_l1, q_l2, q_l3, q_l4, q_l5, q_l6, q_l7, q_l8, q_l9, q_l10, q_l11, q_l12, q_l13, q_l14, q_l15, q_l16, q_l17, q_l18, q_l19, q_l20, q_l21, q_l22, q_l23, q_l24, q_l25, q_l26, q_l27, q_l28, q_l29, q_l30, q_l31, q_l32, q_l33, q_l45, q_l46, q_l48, q_l57, q_l58, q_l59, q_l60, q_l61, q_l62, q_l63, q_l64, q_l96, q_l97, q_l99, q_l122, q_l129, q_l137, q_l255, q_l256, q_l400, q_l680, q_l700, q_l959, q_l999, q_l9999, q_l10000, q_l100000, q_l36, q_l50, q_l100, q_l112, q_l200, q_ltT, q_ltF, q_leT, q_leF, q_eqF, q_eqR, q_mlt, q_mle, q_nlm, q_nLm, q_nem, q_men, q_mlm, Nat.add_zero, Nat.sub_zero, q_add0, pk_rem, nI_add, pk_mul, q_sub, q_subm, q_addm, nI_clamp, q_inT, q_inF, q_sr1, q_srn, q_srw, q_srs, q_wIs, q_wIn, q_wI2, q_wJ1, q_wJs, q_wJn, q_wR1, q_wRs, q_wRn, q_wI22, q_wJ22, pk_us, pk_un, pk_uLs, pk_uLn, q_usS, q_usN, q_ups, q_upn, Bool.true_eq_false, Bool.false_eq_true, q_lt, q_o2, q_o3, q_o4, q_o5, q_bi, ↓reduceIte, q_tv0, q_tv1, q_bz, q_oRl, q_oRr, q_oXl, q_oXr, h14, er, er', us_us, a1, a2, a3, a4, a5]) (fun n s hh => by
    obtain ⟨h1, h2⟩ := hh
    have h14 := h2.1.2.1
    exact ⟨s, by simp (maxSteps := 2000000) (disch := first | rfl | exact q_e1 _ _ _ | exact q_sr1 _ _ | omega) only [f_X13_begin_63, ↓q_m1, q_l0, q_l1, q_l2, q_l3, q_l4, q_l5, q_l6, q_l7, q_l8, q_l9, q_l10, q_l11, q_l12, q_l13, q_l14, q_l15, q_l16, q_l17, q_l18, q_l19, q_l20, q_l21, q_l22, q_l23, q_l24, q_l25, q_l26, q_l27, q_l28, q_l29, q_l30, q_l31, q_l32, q_l33, q_l45, q_l46, q_l48, q_l57, q_l58, q_l59, q_l60, q_l61, q_l62, q_l63, q_l64, q_l96, q_l97, q_l99, q_l122, q_l129, q_l137, q_l255, q_l256, q_l400, q_l680, q_l700, q_l959, q_l999, q_l9999, q_l10000, q_l100000, q_l36, q_l50, q_l100, q_l112, q_l200, q_ltT, q_ltF, q_leT, q_leF, q_eqF, q_eqR, q_mlt, q_mle, q_nlm, q_nLm, q_nem, q_men, q_mlm, Nat.add_zero, Nat.sub_zero, q_add0, pk_rem, nI_add, pk_mul, q_sub, q_subm, q_addm, nI_clamp, q_inT, q_inF, q_sr1, q_srn, q_srw, q_srs, q_wIs, q_wIn, q_wI2, q_wJ1, q_wJs, q_wJn, q_wR1, q_wRs, q_wRn, q_wI22, q_wJ22, pk_us, pk_un, pk_uLs, pk_uLn, q_usS, q_usN, q_ups, q_upn, Bool.true_eq_false, Bool.false_eq_true, q_lt, q_o2, q_o3, q_o4, q_o5, q_bi, ↓reduceIte, q_tv0, q_tv1, q_bz, q_oRl, q_oRr, q_oXl, q_oXr, h14], h1, h2⟩) (fu_lt (show T < 2000 by omega)) (s := σ) (i0 := 0) ⟨fun _ _ => rfl, h⟩
  exact ⟨b, g1, g2⟩
/-- what a seller's start may change -/
def KS (i : Nat) (ω ω' : OM) : Prop := ∀ k j, k ≠ 1 → (k = 0 → j ≠ 12 ∧ j ≠ 13) → (3 ≤ k → k ≤ 7 → j ≠ i) → k ≠ 12 + i → ω'.1 k j = ω.1 k j
theorem KS.rf (i : Nat) (ω : OM) : KS i ω ω := fun _ _ _ _ _ _ => rfl
theorem KS.tr {i : Nat} {ω ω' ω'' : OM} (h : KS i ω ω') (g : KS i ω' ω'') : KS i ω ω'' := fun k j a b c d => (g k j a b c d).trans (h k j a b c d)
theorem KX.ks {ω ω' : OM} (h : KX ω ω') (i : Nat) : KS i ω ω' := fun k j a b c d => by
  by_cases e : k = 0
  · subst e; exact h.2 j (b rfl).1 (b rfl).2
  · rw [h.1 k e a]
theorem KS.w {i k j : Nat} (ω : OM) (v : Int32) (h : k = 1 ∨ (k = 0 ∧ (j = 12 ∨ j = 13)) ∨ (3 ≤ k ∧ k ≤ 7 ∧ j = i) ∨ k = 12 + i) : KS i ω (wI ω k j v) := fun k' j' a b c d => by
  by_cases e : k' = k
  · subst e
    rw [q_wIs]
    refine pk_un ?_
    intro e2
    subst e2
    rcases h with h | h | h | h
    · exact a h
    · have := b h.1; omega
    · exact c h.1 h.2.1 h.2.2
    · exact d h
  · rw [q_wIn e]
def LT (T i n : Nat) (ω : OM) : Prop := ω.1 6 i = nI n ∧ n ≤ 7 ∧ (∀ k, k < n → ∃ t, t < T ∧ ω.1 (12 + i) k = nI t) ∧ ∀ k k', k < n → k' < n → ω.1 (12 + i) k = ω.1 (12 + i) k' → k = k'
theorem begin_232 {i : Nat} (hi : i < 8) (hT1 : 1 ≤ T) (hT : T ≤ 7) (L : List Nat) (hL : L.length + 14 ≤ 700) : ∀ (x n m : Nat) (σ : SM), x < m → n + x ≤ T → (σ 20).1 0 14 = nI T → LT T i n (σ 20) → TX (σ 20) (L ++ wis ((σ 20).1 (12 + i)) n) → ∃ σ' n', f_X13_begin_232 (nI i) m (nI x) σ = some σ' ∧ (∀ o, o ≠ 20 → σ' o = σ o) ∧ KS i (σ 20) (σ' 20) ∧ (∀ k, 3 ≤ k → k ≤ 7 → k ≠ 6 → (σ' 20).1 k = (σ 20).1 k) ∧ LT T i n' (σ' 20) ∧ TX (σ' 20) (L ++ wis ((σ' 20).1 (12 + i)) n') := by
  intro x
  induction x with
  | zero =>
    intro n m σ hm hn e14 hl ht
    obtain ⟨m, rfl⟩ : ∃ q, m = q + 1 := ⟨m - 1, by omega⟩
    exact ⟨σ, n, by simp (maxSteps := 2000000) (disch := first | rfl | exact q_e1 _ _ _ | exact q_sr1 _ _ | omega) only [f_X13_begin_232, ↓q_m1, q_l0, q_l1, q_l2, q_l3, q_l4, q_l5, q_l6, q_l7, q_l8, q_l9, q_l10, q_l11, q_l12, q_l13, q_l14, q_l15, q_l16, q_l17, q_l18, q_l19, q_l20, q_l21, q_l22, q_l23, q_l24, q_l25, q_l26, q_l27, q_l28, q_l29, q_l30, q_l31, q_l32, q_l33, q_l45, q_l46, q_l48, q_l57, q_l58, q_l59, q_l60, q_l61, q_l62, q_l63, q_l64, q_l96, q_l97, q_l99, q_l122, q_l129, q_l137, q_l255, q_l256, q_l400, q_l680, q_l700, q_l959, q_l999, q_l9999, q_l10000, q_l100000, q_l36, q_l50, q_l100, q_l112, q_l200, q_ltT, q_ltF, q_leT, q_leF, q_eqF, q_eqR, q_mlt, q_mle, q_nlm, q_nLm, q_nem, q_men, q_mlm, Nat.add_zero, Nat.sub_zero, q_add0, pk_rem, nI_add, pk_mul, q_sub, q_subm, q_addm, nI_clamp, q_inT, q_inF, q_sr1, q_srn, q_srw, q_srs, q_wIs, q_wIn, q_wI2, q_wJ1, q_wJs, q_wJn, q_wR1, q_wRs, q_wRn, q_wI22, q_wJ22, pk_us, pk_un, pk_uLs, pk_uLn, q_usS, q_usN, q_ups, q_upn, Bool.true_eq_false, Bool.false_eq_true, q_lt, q_o2, q_o3, q_o4, q_o5, q_bi, ↓reduceIte, q_tv0, q_tv1, q_bz, q_oRl, q_oRr, q_oXl, q_oXr], fun _ _ => rfl, KS.rf i _, fun _ _ _ _ => rfl, hl, ht⟩
  | succ x ih =>
    intro n m σ hm hn e14 hl ht
    obtain ⟨m, rfl⟩ : ∃ q, m = q + 1 := ⟨m - 1, by omega⟩
    obtain ⟨r, v, hr, er⟩ := draw_ok (m := T) hT1 (by omega) (σ 20)
    obtain ⟨l1, l2, l3, l4⟩ := id hl
    have e6 : (wI (σ 20) 0 12 v).1 6 i = nI n := by rw [q_wIn (by omega)]; exact l1
    have e12 : (wI (σ 20) 0 12 v).1 (12 + i) = (σ 20).1 (12 + i) := q_wIn (by omega)
    have hk := rank_d hi e6 (by omega) (nI r)
    rw [e12] at hk
    rcases fd_cases n (fun k => decide ((σ 20).1 (12 + i) k = nI r)) with ⟨k, k1, k2, _, k4⟩ | ⟨k1, k2⟩
    · rw [k4] at hk
      obtain ⟨σ', n', f1, f2, f3, f4, f5, f6⟩ := ih n m (us σ 20 (wI (σ 20) 0 12 v)) (by omega) (by omega) (by rw [q_usS, q_wIs, pk_un (by omega)]; exact e14) (by rw [q_usS]; unfold LT; rw [e6, e12]; exact ⟨rfl, l2, l3, l4⟩) (by rw [q_usS, e12]; exact ht.d v)
      rw [q_usS] at f3 f4
      refine ⟨σ', n', ?_, fun o ho => (f2 o ho).trans (q_usN ho), (KX.ks (KX.d _ v) i).tr f3, fun k a b c => (f4 k a b c).trans (q_wIn (by omega)), f5, f6⟩
      simp (maxSteps := 2000000) (disch := first | rfl | exact q_e1 _ _ _ | exact q_sr1 _ _ | omega) only [f_X13_begin_232, ↓q_m1, q_l0, q_l1, q_l2, q_l3, q_l4, q_l5, q_l6, q_l7, q_l8, q_l9, q_l10, q_l11, q_l12, q_l13, q_l14, q_l15, q_l16, q_l17, q_l18, q_l19, q_l20, q_l21, q_l22, q_l23, q_l24, q_l25, q_l26, q_l27, q_l28, q_l29, q_l30, q_l31, q_l32, q_l33, q_l45, q_l46, q_l48, q_l57, q_l58, q_l59, q_l60, q_l61, q_l62, q_l63, q_l64, q_l96, q_l97, q_l99, q_l122, q_l129, q_l137, q_l255, q_l256, q_l400, q_l680, q_l700, q_l959, q_l999, q_l9999, q_l10000, q_l100000, q_l36, q_l50, q_l100, q_l112, q_l200, q_ltT, q_ltF, q_leT, q_leF, q_eqF, q_eqR, q_mlt, q_mle, q_nlm, q_nLm, q_nem, q_men, q_mlm, Nat.add_zero, Nat.sub_zero, q_add0, pk_rem, nI_add, pk_mul, q_sub, q_subm, q_addm, nI_clamp, q_inT, q_inF, q_sr1, q_srn, q_srw, q_srs, q_wIs, q_wIn, q_wI2, q_wJ1, q_wJs, q_wJn, q_wR1, q_wRs, q_wRn, q_wI22, q_wJ22, pk_us, pk_un, pk_uLs, pk_uLn, q_usS, q_usN, q_ups, q_upn, Bool.true_eq_false, Bool.false_eq_true, q_lt, q_o2, q_o3, q_o4, q_o5, q_bi, ↓reduceIte, q_tv0, q_tv1, q_bz, q_oRl, q_oRr, q_oXl, q_oXr, e14, er, hk]
      exact f1
    · rw [k2] at hk
      have hw : wis (upd ((σ 20).1 (12 + i)) n (nI r)) n = wis ((σ 20).1 (12 + i)) n := wis_congr (fun k hk => pk_un (by omega))
      have ht2 : TX (wI (wI (wI (σ 20) 0 12 v) 6 i (nI (n + 1))) (12 + i) n (nI r)) (L ++ wis ((σ 20).1 (12 + i)) n) := (ht.d v).row (by rw [q_wIn (by omega), q_wIn (by omega)]) (by rw [q_wIn (by omega), q_wIn (by omega)])
      have wl := wis_len (f := (σ 20).1 (12 + i)) n
      obtain ⟨y, b1, b2, b3⟩ := letter1 ht2 (p := 112) (t := r) (by omega) (by rw [List.length_append]; omega)
      have y12 : y.1 (12 + i) = upd ((σ 20).1 (12 + i)) n (nI r) := by rw [b3.1 _ (by omega) (by omega), q_wIs, q_wIn (by omega), e12]
      have y6 : y.1 6 = upd ((σ 20).1 6) i (nI (n + 1)) := by rw [b3.1 _ (by omega) (by omega), q_wIn (by omega), q_wIs, q_wIn (by omega)]
      have hks : KS i (σ 20) y := (((KX.ks (KX.d _ v) i).tr (KS.w _ _ (Or.inr (Or.inr (Or.inl ⟨by omega, by omega, rfl⟩))))).tr (KS.w _ _ (Or.inr (Or.inr (Or.inr rfl))))).tr (b3.ks i)
      obtain ⟨σ', n', f1, f2, f3, f4, f5, f6⟩ := ih (n + 1) m (us σ 20 y) (by omega) (by omega) (by rw [q_usS, hks 0 14 (by omega) (fun _ => by omega) (by omega) (by omega)]; exact e14) (by
        rw [q_usS]; unfold LT; rw [y6, y12, pk_us]
        refine ⟨rfl, by omega, fun k hk => ?_, fun k k' hk hk' e => ?_⟩
        · by_cases e : k = n
          · subst e; exact ⟨r, hr, pk_us⟩
          · rw [pk_un e]; exact l3 k (by omega)
        · by_cases e1 : k = n
          · by_cases e2 : k' = n
            · omega
            · subst e1
              rw [pk_us, pk_un e2] at e
              exact absurd e.symm (of_decide_eq_false (k1 k' (by omega)))
          · by_cases e2 : k' = n
            · subst e2
              rw [pk_us, pk_un e1] at e
              exact absurd e (of_decide_eq_false (k1 k (by omega)))
            · rw [pk_un e1, pk_un e2] at e
              exact l4 k k' (by omega) (by omega) e) (by
        rw [q_usS, y12, wis, hw, pk_us, nI_clamp (by omega), ← List.append_assoc]
        exact b2)
      rw [q_usS] at f3 f4
      refine ⟨σ', n', ?_, fun o ho => (f2 o ho).trans (q_usN ho), hks.tr f3, fun k a b c => by rw [f4 k a b c, b3.1 k (by omega) (by omega), q_wIn (by omega), q_wIn (by omega), q_wIn (by omega)], f5, f6⟩
      simp (maxSteps := 2000000) (disch := first | rfl | exact q_e1 _ _ _ | exact q_sr1 _ _ | omega) only [f_X13_begin_232, ↓q_m1, q_l0, q_l1, q_l2, q_l3, q_l4, q_l5, q_l6, q_l7, q_l8, q_l9, q_l10, q_l11, q_l12, q_l13, q_l14, q_l15, q_l16, q_l17, q_l18, q_l19, q_l20, q_l21, q_l22, q_l23, q_l24, q_l25, q_l26, q_l27, q_l28, q_l29, q_l30, q_l31, q_l32, q_l33, q_l45, q_l46, q_l48, q_l57, q_l58, q_l59, q_l60, q_l61, q_l62, q_l63, q_l64, q_l96, q_l97, q_l99, q_l122, q_l129, q_l137, q_l255, q_l256, q_l400, q_l680, q_l700, q_l959, q_l999, q_l9999, q_l10000, q_l100000, q_l36, q_l50, q_l100, q_l112, q_l200, q_ltT, q_ltF, q_leT, q_leF, q_eqF, q_eqR, q_mlt, q_mle, q_nlm, q_nLm, q_nem, q_men, q_mlm, Nat.add_zero, Nat.sub_zero, q_add0, pk_rem, nI_add, pk_mul, q_sub, q_subm, q_addm, nI_clamp, q_inT, q_inF, q_sr1, q_srn, q_srw, q_srs, q_wIs, q_wIn, q_wI2, q_wJ1, q_wJs, q_wJn, q_wR1, q_wRs, q_wRn, q_wI22, q_wJ22, pk_us, pk_un, pk_uLs, pk_uLn, q_usS, q_usN, q_ups, q_upn, Bool.true_eq_false, Bool.false_eq_true, q_lt, q_o2, q_o3, q_o4, q_o5, q_bi, ↓reduceIte, q_tv0, q_tv1, q_bz, q_oRl, q_oRr, q_oXl, q_oXr, e14, er, hk, us_us, l1, b1]
      exact f1
end BEG

/-! the balance after some days -/
def pr (a : Nat → Int32) (i : Nat) : Int32 := if a (25 + 13 * i + 3) = m1 then nI 0 else a (9 + 2 * (a (25 + 13 * i + 3)).toNatClampNeg + 1)
def stE (s : Int32 × Int32) : Int32 × Int32 := if s.2 ≤ s.1 then (s.1 - s.2, s.2) else (s.1, nI 0)
def itr (w : Int32) (s : Int32 × Int32) : Nat → Int32 × Int32
  | 0 => s
  | k + 1 => stE ((itr w s k).1 + w, (itr w s k).2)
/-- what a run of days leaves -/
def JD (S T : Nat) (a b : Nat → Int32) : Prop := b 0 = a 0 ∧ (∀ t, t < 8 → b (9 + 2 * t + 1) = a (9 + 2 * t + 1)) ∧ (∀ j, j < 8 → b (25 + 13 * j + 2) = a (25 + 13 * j + 2)) ∧ ∀ j, j < S → b (25 + 13 * j + 3) = m1 ∨ ∃ t, t < T ∧ b (25 + 13 * j + 3) = nI t
theorem q_add0' (x : Int32) : x - nI 0 = x := Int32.sub_zero x
section DAY
variable {S T : Nat} {a : Nat → Int32} {ρ : OM}
theorem dep_one (hS : a 0 = nI S) (h8 : S ≤ 8) (t8 : T ≤ 8) {b : Nat → Int32} (hb : JD S T a b) {i : Nat} (hi : i < S) : ∃ c, f_X13_passesDay_14 FU (nI 0) (sr ρ b) = some (sr ρ c) ∧ JD S T a c ∧ c (25 + 13 * i + 1) = b (25 + 13 * i + 1) + a (25 + 13 * i + 2) ∧ pr c i = pr b i := by
  obtain ⟨t, h1, c, rfl, h2, h3, h4⟩ := lp_inv (F := f_X13_passesDay_14) (i0 := 0) (fun (j : Nat) (t : OM) => ∃ c, t = sr ρ c ∧ JD S T a c ∧ (c (25 + 13 * i + 1) = if i < j then b (25 + 13 * i + 1) + a (25 + 13 * i + 2) else b (25 + 13 * i + 1)) ∧ c (25 + 13 * i + 3) = b (25 + 13 * i + 3)) (fun t => ∃ c, t = sr ρ c ∧ JD S T a c ∧ c (25 + 13 * i + 1) = b (25 + 13 * i + 1) + a (25 + 13 * i + 2) ∧ c (25 + 13 * i + 3) = b (25 + 13 * i + 3)) S (fun n j t hj hh => by
      obtain ⟨c, rfl, ⟨k1, k2, k3, k4⟩, g2, g3⟩ := hh
      refine ⟨_, ⟨upd (upd c (25 + 13 * j + 1) (c (25 + 13 * j + 1) + c (25 + 13 * j + 2))) 8 (c 8 + c (25 + 13 * j + 2)), rfl, ⟨?_, fun t ht => ?_, fun y hy => ?_, fun y hy => ?_⟩, ?_, ?_⟩, ?_⟩
      · simp (maxSteps := 2000000) (disch := first | rfl | exact q_e1 _ _ _ | exact q_sr1 _ _ | omega) only [q_sr1, q_srn, q_srw, q_srs, q_wIs, q_wIn, q_wI2, q_wJ1, q_wJs, q_wJn, q_wR1, q_wRs, q_wRn, q_wI22, q_wJ22, pk_us, pk_un, pk_uLs, pk_uLn, q_usS, q_usN, q_ups, q_upn, k1]
      · simp (maxSteps := 2000000) (disch := first | rfl | exact q_e1 _ _ _ | exact q_sr1 _ _ | omega) only [q_sr1, q_srn, q_srw, q_srs, q_wIs, q_wIn, q_wI2, q_wJ1, q_wJs, q_wJn, q_wR1, q_wRs, q_wRn, q_wI22, q_wJ22, pk_us, pk_un, pk_uLs, pk_uLn, q_usS, q_usN, q_ups, q_upn, k2 t ht]
      · simp (maxSteps := 2000000) (disch := first | rfl | exact q_e1 _ _ _ | exact q_sr1 _ _ | omega) only [q_sr1, q_srn, q_srw, q_srs, q_wIs, q_wIn, q_wI2, q_wJ1, q_wJs, q_wJn, q_wR1, q_wRs, q_wRn, q_wI22, q_wJ22, pk_us, pk_un, pk_uLs, pk_uLn, q_usS, q_usN, q_ups, q_upn, k3 y hy]
      · simp (maxSteps := 2000000) (disch := first | rfl | exact q_e1 _ _ _ | exact q_sr1 _ _ | omega) only [q_sr1, q_srn, q_srw, q_srs, q_wIs, q_wIn, q_wI2, q_wJ1, q_wJs, q_wJn, q_wR1, q_wRs, q_wRn, q_wI22, q_wJ22, pk_us, pk_un, pk_uLs, pk_uLn, q_usS, q_usN, q_ups, q_upn]; exact k4 y hy
      · by_cases e : i = j
        · subst e
          rw [if_pos (by omega)]
          rw [if_neg (by omega)] at g2
          simp (maxSteps := 2000000) (disch := first | rfl | exact q_e1 _ _ _ | exact q_sr1 _ _ | omega) only [q_sr1, q_srn, q_srw, q_srs, q_wIs, q_wIn, q_wI2, q_wJ1, q_wJs, q_wJn, q_wR1, q_wRs, q_wRn, q_wI22, q_wJ22, pk_us, pk_un, pk_uLs, pk_uLn, q_usS, q_usN, q_ups, q_upn, g2, k3 i (show i < 8 by omega)]
        · by_cases e' : i < j
          · rw [if_pos (by omega)]
            rw [if_pos e'] at g2
            simp (maxSteps := 2000000) (disch := first | rfl | exact q_e1 _ _ _ | exact q_sr1 _ _ | omega) only [q_sr1, q_srn, q_srw, q_srs, q_wIs, q_wIn, q_wI2, q_wJ1, q_wJs, q_wJn, q_wR1, q_wRs, q_wRn, q_wI22, q_wJ22, pk_us, pk_un, pk_uLs, pk_uLn, q_usS, q_usN, q_ups, q_upn, g2]
          · rw [if_neg (by omega)]
            rw [if_neg e'] at g2
            simp (maxSteps := 2000000) (disch := first | rfl | exact q_e1 _ _ _ | exact q_sr1 _ _ | omega) only [q_sr1, q_srn, q_srw, q_srs, q_wIs, q_wIn, q_wI2, q_wJ1, q_wJs, q_wJn, q_wR1, q_wRs, q_wRn, q_wI22, q_wJ22, pk_us, pk_un, pk_uLs, pk_uLn, q_usS, q_usN, q_ups, q_upn, g2]
      · simp (maxSteps := 2000000) (disch := first | rfl | exact q_e1 _ _ _ | exact q_sr1 _ _ | omega) only [q_sr1, q_srn, q_srw, q_srs, q_wIs, q_wIn, q_wI2, q_wJ1, q_wJs, q_wJn, q_wR1, q_wRs, q_wRn, q_wI22, q_wJ22, pk_us, pk_un, pk_uLs, pk_uLn, q_usS, q_usN, q_ups, q_upn, g3]
      · simp (maxSteps := 2000000) (disch := first | rfl | exact q_e1 _ _ _ | exact q_sr1 _ _ | omega) only [f_X13_passesDay_14, ↓q_m1, q_l0, q_l1, q_l2, q_l3, q_l4, q_l5, q_l6, q_l7, q_l8, q_l9, q_l10, q_l11, q_l12, q_l13, q_l14, q_l15, q_l16, q_l17, q_l18, q_l19, q_l20, q_l21, q_l22, q_l23, q_l24, q_l25, q_l26, q_l27, q_l28, q_l29, q_l30, q_l31, q_l32, q_l33, q_l45, q_l46, q_l48, q_l57, q_l58, q_l59, q_l60, q_l61, q_l62, q_l63, q_l64, q_l96, q_l97, q_l99, q_l122, q_l129, q_l137, q_l255, q_l256, q_l400, q_l680, q_l700, q_l959, q_l999, q_l9999, q_l10000, q_l100000, q_ltT, q_ltF, q_leT, q_leF, q_eqF, q_eqR, q_mlt, q_mle, q_nlm, q_nLm, q_nem, q_men, q_mlm, Nat.add_zero, Nat.sub_zero, q_add0, pk_rem, nI_add, pk_mul, q_sub, q_subm, q_addm, nI_clamp, q_inT, q_inF, q_sr1, q_srn, q_srw, q_srs, q_wIs, q_wIn, q_wI2, q_wJ1, q_wJs, q_wJn, q_wR1, q_wRs, q_wRn, q_wI22, q_wJ22, pk_us, pk_un, pk_uLs, pk_uLn, q_usS, q_usN, q_ups, q_upn, Bool.true_eq_false, Bool.false_eq_true, q_lt, q_o2, q_o3, q_o4, q_o5, q_bi, ↓reduceIte, q_tv0, q_tv1, q_bz, q_oRl, q_oRr, q_oXl, q_oXr, k1, hS, r_of c, r_dep (show j < 8 by omega)]) (fun n t hh => by
      obtain ⟨c, rfl, k, g2, g3⟩ := hh
      rw [if_pos hi] at g2
      exact ⟨sr ρ c, by simp (maxSteps := 2000000) (disch := first | rfl | exact q_e1 _ _ _ | exact q_sr1 _ _ | omega) only [f_X13_passesDay_14, ↓q_m1, q_l0, q_l1, q_l2, q_l3, q_l4, q_l5, q_l6, q_l7, q_l8, q_l9, q_l10, q_l11, q_l12, q_l13, q_l14, q_l15, q_l16, q_l17, q_l18, q_l19, q_l20, q_l21, q_l22, q_l23, q_l24, q_l25, q_l26, q_l27, q_l28, q_l29, q_l30, q_l31, q_l32, q_l33, q_l45, q_l46, q_l48, q_l57, q_l58, q_l59, q_l60, q_l61, q_l62, q_l63, q_l64, q_l96, q_l97, q_l99, q_l122, q_l129, q_l137, q_l255, q_l256, q_l400, q_l680, q_l700, q_l959, q_l999, q_l9999, q_l10000, q_l100000, q_ltT, q_ltF, q_leT, q_leF, q_eqF, q_eqR, q_mlt, q_mle, q_nlm, q_nLm, q_nem, q_men, q_mlm, Nat.add_zero, Nat.sub_zero, q_add0, pk_rem, nI_add, pk_mul, q_sub, q_subm, q_addm, nI_clamp, q_inT, q_inF, q_sr1, q_srn, q_srw, q_srs, q_wIs, q_wIn, q_wI2, q_wJ1, q_wJs, q_wJn, q_wR1, q_wRs, q_wRn, q_wI22, q_wJ22, pk_us, pk_un, pk_uLs, pk_uLn, q_usS, q_usN, q_ups, q_upn, Bool.true_eq_false, Bool.false_eq_true, q_lt, q_o2, q_o3, q_o4, q_o5, q_bi, ↓reduceIte, q_tv0, q_tv1, q_bz, q_oRl, q_oRr, q_oXl, q_oXr, k.1, hS], c, rfl, k, g2, g3⟩) (fu_lt (show S < 2000 by omega)) (s := sr ρ b) ⟨b, rfl, hb, by rw [if_neg (by omega)], rfl⟩
  refine ⟨c, h1, h2, h3, ?_⟩
  rw [pr, pr, h4]
  by_cases e : b (25 + 13 * i + 3) = m1
  · rw [if_pos e, if_pos e]
  · rw [if_neg e, if_neg e]
    rcases hb.2.2.2 i hi with q | ⟨t, ht, q⟩
    · exact absurd q e
    · rw [q, nI_clamp (by omega), h2.2.1 t (by omega), hb.2.1 t (by omega)]
theorem ch_i {b : Nat → Int32} (t8 : T ≤ 8) {i : Nat} (hi : i < 8) (hp : b (25 + 13 * i + 3) = m1 ∨ ∃ t, t < T ∧ b (25 + 13 * i + 3) = nI t) : ((chA b i).1 (25 + 13 * i + 1), pr (chA b i).1 i) = stE (b (25 + 13 * i + 1), pr b i) := by
  rcases hp with e | ⟨t, ht, e⟩
  · have h1 : chA b i = (b, false) := by rw [chA, if_pos e]
    have h2 : pr b i = nI 0 := by rw [pr, if_pos e]
    rw [h1, h2, stE]
    split
    · exact Prod.ext (q_add0' _).symm rfl
    · rfl
  · have en : ¬ b (25 + 13 * i + 3) = m1 := by rw [e]; exact fun q => (q_nem (show t < 2 ^ 31 by omega)).mp q
    have ec : (b (25 + 13 * i + 3)).toNatClampNeg = t := by rw [e]; exact nI_clamp (by omega)
    have h2 : pr b i = b (9 + 2 * t + 1) := by rw [pr, if_neg en, ec]
    rw [h2, chA, if_neg en, ec, stE]
    by_cases c : b (25 + 13 * i + 1) < b (9 + 2 * t + 1)
    · rw [if_pos c, if_neg (Int32.not_le.mpr c)]
      refine Prod.ext ?_ ?_
      · simp (maxSteps := 2000000) (disch := first | rfl | exact q_e1 _ _ _ | exact q_sr1 _ _ | omega) only [q_sr1, q_srn, q_srw, q_srs, q_wIs, q_wIn, q_wI2, q_wJ1, q_wJs, q_wJn, q_wR1, q_wRs, q_wRn, q_wI22, q_wJ22, pk_us, pk_un, pk_uLs, pk_uLn, q_usS, q_usN, q_ups, q_upn]
      · show pr _ i = nI 0
        rw [pr]
        simp (maxSteps := 2000000) (disch := first | rfl | exact q_e1 _ _ _ | exact q_sr1 _ _ | omega) only [q_sr1, q_srn, q_srw, q_srs, q_wIs, q_wIn, q_wI2, q_wJ1, q_wJs, q_wJn, q_wR1, q_wRs, q_wRn, q_wI22, q_wJ22, pk_us, pk_un, pk_uLs, pk_uLn, q_usS, q_usN, q_ups, q_upn, ↓reduceIte]
    · rw [if_neg c, if_pos (Int32.not_lt.mp c)]
      refine Prod.ext ?_ ?_
      · simp (maxSteps := 2000000) (disch := first | rfl | exact q_e1 _ _ _ | exact q_sr1 _ _ | omega) only [q_sr1, q_srn, q_srw, q_srs, q_wIs, q_wIn, q_wI2, q_wJ1, q_wJs, q_wJn, q_wR1, q_wRs, q_wRn, q_wI22, q_wJ22, pk_us, pk_un, pk_uLs, pk_uLn, q_usS, q_usN, q_ups, q_upn]
      · show pr _ i = b (9 + 2 * t + 1)
        rw [pr]
        simp (maxSteps := 2000000) (disch := first | rfl | exact q_e1 _ _ _ | exact q_sr1 _ _ | omega) only [q_sr1, q_srn, q_srw, q_srs, q_wIs, q_wIn, q_wI2, q_wJ1, q_wJs, q_wJn, q_wR1, q_wRs, q_wRn, q_wI22, q_wJ22, pk_us, pk_un, pk_uLs, pk_uLn, q_usS, q_usN, q_ups, q_upn, e, q_nem, nI_clamp, ↓reduceIte]
theorem ch_j {b : Nat → Int32} (t8 : T ≤ 8) {i j : Nat} (hi : i < 8) (hj : j < 8) (hij : j ≠ i) (hp : b (25 + 13 * i + 3) = m1 ∨ ∃ t, t < T ∧ b (25 + 13 * i + 3) = nI t) : (chA b j).1 (25 + 13 * i + 1) = b (25 + 13 * i + 1) ∧ pr (chA b j).1 i = pr b i := by
  have h3 : (chA b j).1 (25 + 13 * i + 3) = b (25 + 13 * i + 3) := by
    rw [chA]
    split
    · rfl
    · split <;> simp (maxSteps := 2000000) (disch := first | rfl | exact q_e1 _ _ _ | exact q_sr1 _ _ | omega) only [q_sr1, q_srn, q_srw, q_srs, q_wIs, q_wIn, q_wI2, q_wJ1, q_wJs, q_wJn, q_wR1, q_wRs, q_wRn, q_wI22, q_wJ22, pk_us, pk_un, pk_uLs, pk_uLn, q_usS, q_usN, q_ups, q_upn]
  refine ⟨?_, ?_⟩
  · rw [chA]
    split
    · rfl
    · split <;> simp (maxSteps := 2000000) (disch := first | rfl | exact q_e1 _ _ _ | exact q_sr1 _ _ | omega) only [q_sr1, q_srn, q_srw, q_srs, q_wIs, q_wIn, q_wI2, q_wJ1, q_wJs, q_wJn, q_wR1, q_wRs, q_wRn, q_wI22, q_wJ22, pk_us, pk_un, pk_uLs, pk_uLn, q_usS, q_usN, q_ups, q_upn]
  · rw [pr, pr, h3]
    rcases hp with e | ⟨t, ht, e⟩
    · rw [if_pos e, if_pos e]
    · have en : ¬ b (25 + 13 * i + 3) = m1 := by rw [e]; exact fun q => (q_nem (show t < 2 ^ 31 by omega)).mp q
      have ec : (b (25 + 13 * i + 3)).toNatClampNeg = t := by rw [e]; exact nI_clamp (by omega)
      rw [if_neg en, if_neg en, ec, chA]
      split
      · rfl
      · split <;> simp (maxSteps := 2000000) (disch := first | rfl | exact q_e1 _ _ _ | exact q_sr1 _ _ | omega) only [q_sr1, q_srn, q_srw, q_srs, q_wIs, q_wIn, q_wI2, q_wJ1, q_wJs, q_wJn, q_wR1, q_wRs, q_wRn, q_wI22, q_wJ22, pk_us, pk_un, pk_uLs, pk_uLn, q_usS, q_usN, q_ups, q_upn]
theorem ch_JD {b : Nat → Int32} (t8 : T ≤ 8) (h8 : S ≤ 8) (hb : JD S T a b) {j : Nat} (hj : j < S) : JD S T a (chA b j).1 := by
  obtain ⟨k1, k2, k3, k4⟩ := hb
  have hd : ∀ x, x ≠ 3 → x ≠ 4 → x ≠ 25 + 13 * j + 1 → x ≠ 25 + 13 * j + 3 → (chA b j).1 x = b x := fun x h1 h2 h3 h4 => by
    rw [chA]
    split
    · rfl
    · split <;> simp (maxSteps := 2000000) (disch := first | rfl | exact q_e1 _ _ _ | exact q_sr1 _ _ | omega) only [q_sr1, q_srn, q_srw, q_srs, q_wIs, q_wIn, q_wI2, q_wJ1, q_wJs, q_wJn, q_wR1, q_wRs, q_wRn, q_wI22, q_wJ22, pk_us, pk_un, pk_uLs, pk_uLn, q_usS, q_usN, q_ups, q_upn]
  refine ⟨(hd 0 (by omega) (by omega) (by omega) (by omega)).trans k1, fun t ht => (hd _ (by omega) (by omega) (by omega) (by omega)).trans (k2 t ht), fun y hy => (hd _ (by omega) (by omega) (by omega) (by omega)).trans (k3 y hy), fun y hy => ?_⟩
  by_cases e : y = j
  · subst e
    rw [chA]
    split
    · exact k4 y hy
    · split
      · left; simp (maxSteps := 2000000) (disch := first | rfl | exact q_e1 _ _ _ | exact q_sr1 _ _ | omega) only [q_sr1, q_srn, q_srw, q_srs, q_wIs, q_wIn, q_wI2, q_wJ1, q_wJs, q_wJn, q_wR1, q_wRs, q_wRn, q_wI22, q_wJ22, pk_us, pk_un, pk_uLs, pk_uLn, q_usS, q_usN, q_ups, q_upn]
      · simp (maxSteps := 2000000) (disch := first | rfl | exact q_e1 _ _ _ | exact q_sr1 _ _ | omega) only [q_sr1, q_srn, q_srw, q_srs, q_wIs, q_wIn, q_wI2, q_wJ1, q_wJs, q_wJn, q_wR1, q_wRs, q_wRn, q_wI22, q_wJ22, pk_us, pk_un, pk_uLs, pk_uLn, q_usS, q_usN, q_ups, q_upn]; exact k4 y hy
  · rw [hd _ (by omega) (by omega) (by omega) (by omega)]; exact k4 y hy
theorem evi_one (hS : a 0 = nI S) (h8 : S ≤ 8) (t8 : T ≤ 8) {b : Nat → Int32} (hb : JD S T a b) {i : Nat} (hi : i < S) : ∃ n c, f_X13_passesDay_44 FU (nI 0) (nI 0) (sr ρ b) = some (n, sr ρ c) ∧ JD S T a c ∧ (c (25 + 13 * i + 1), pr c i) = stE (b (25 + 13 * i + 1), pr b i) := by
  obtain ⟨t, h1, n, c, rfl, h2, h3⟩ := lp_inv (F := fun n x (s : Int32 × OM) => f_X13_passesDay_44 n x s.1 s.2) (i0 := 0) (fun (j : Nat) (t : Int32 × OM) => ∃ n c, t = (n, sr ρ c) ∧ JD S T a c ∧ (c (25 + 13 * i + 1), pr c i) = if i < j then stE (b (25 + 13 * i + 1), pr b i) else (b (25 + 13 * i + 1), pr b i)) (fun t => ∃ n c, t = (n, sr ρ c) ∧ JD S T a c ∧ (c (25 + 13 * i + 1), pr c i) = stE (b (25 + 13 * i + 1), pr b i)) S (fun n j t hj hh => by
      obtain ⟨m, c, rfl, k, g2⟩ := hh
      refine ⟨(if (chA c j).2 = true then m + nI 1 else m, sr ρ (chA c j).1), ⟨_, _, rfl, ch_JD t8 h8 k hj, ?_⟩, ?_⟩
      · by_cases e : j = i
        · subst e
          rw [if_neg (by omega)] at g2
          rw [if_pos (by omega), ch_i t8 (by omega) (k.2.2.2 j hj), g2]
        · obtain ⟨f1, f2⟩ := ch_j t8 (show i < 8 by omega) (show j < 8 by omega) e (k.2.2.2 i hi)
          rw [f1, f2, g2]
          by_cases e' : i < j
          · rw [if_pos e', if_pos (by omega)]
          · rw [if_neg e', if_neg (by omega)]
      · simp (maxSteps := 2000000) (disch := first | rfl | exact q_e1 _ _ _ | exact q_sr1 _ _ | omega) only [f_X13_passesDay_44, ↓q_m1, q_l0, q_l1, q_l2, q_l3, q_l4, q_l5, q_l6, q_l7, q_l8, q_l9, q_l10, q_l11, q_l12, q_l13, q_l14, q_l15, q_l16, q_l17, q_l18, q_l19, q_l20, q_l21, q_l22, q_l23, q_l24, q_l25, q_l26, q_l27, q_l28, q_l29, q_l30, q_l31, q_l32, q_l33, q_l45, q_l46, q_l48, q_l57, q_l58, q_l59, q_l60, q_l61, q_l62, q_l63, q_l64, q_l96, q_l97, q_l99, q_l122, q_l129, q_l137, q_l255, q_l256, q_l400, q_l680, q_l700, q_l959, q_l999, q_l9999, q_l10000, q_l100000, q_ltT, q_ltF, q_leT, q_leF, q_eqF, q_eqR, q_mlt, q_mle, q_nlm, q_nLm, q_nem, q_men, q_mlm, Nat.add_zero, Nat.sub_zero, q_add0, pk_rem, nI_add, pk_mul, q_sub, q_subm, q_addm, nI_clamp, q_inT, q_inF, q_sr1, q_srn, q_srw, q_srs, q_wIs, q_wIn, q_wI2, q_wJ1, q_wJs, q_wJn, q_wR1, q_wRs, q_wRn, q_wI22, q_wJ22, pk_us, pk_un, pk_uLs, pk_uLn, q_usS, q_usN, q_ups, q_upn, Bool.true_eq_false, Bool.false_eq_true, q_lt, q_o2, q_o3, q_o4, q_o5, q_bi, ↓reduceIte, q_tv0, q_tv1, q_bz, q_oRl, q_oRr, q_oXl, q_oXr, k.1, hS, r_evi (show j < 8 by omega) t8 (k.2.2.2 j hj)]
        by_cases c' : (chA c j).2 = true
        · rw [if_neg (by rw [c']; simp), if_pos c']
        · rw [if_pos (by simpa using c'), if_neg c']) (fun n t hh => by
      obtain ⟨m, c, rfl, k, g2⟩ := hh
      rw [if_pos hi] at g2
      exact ⟨(m, sr ρ c), by simp (maxSteps := 2000000) (disch := first | rfl | exact q_e1 _ _ _ | exact q_sr1 _ _ | omega) only [f_X13_passesDay_44, ↓q_m1, q_l0, q_l1, q_l2, q_l3, q_l4, q_l5, q_l6, q_l7, q_l8, q_l9, q_l10, q_l11, q_l12, q_l13, q_l14, q_l15, q_l16, q_l17, q_l18, q_l19, q_l20, q_l21, q_l22, q_l23, q_l24, q_l25, q_l26, q_l27, q_l28, q_l29, q_l30, q_l31, q_l32, q_l33, q_l45, q_l46, q_l48, q_l57, q_l58, q_l59, q_l60, q_l61, q_l62, q_l63, q_l64, q_l96, q_l97, q_l99, q_l122, q_l129, q_l137, q_l255, q_l256, q_l400, q_l680, q_l700, q_l959, q_l999, q_l9999, q_l10000, q_l100000, q_ltT, q_ltF, q_leT, q_leF, q_eqF, q_eqR, q_mlt, q_mle, q_nlm, q_nLm, q_nem, q_men, q_mlm, Nat.add_zero, Nat.sub_zero, q_add0, pk_rem, nI_add, pk_mul, q_sub, q_subm, q_addm, nI_clamp, q_inT, q_inF, q_sr1, q_srn, q_srw, q_srs, q_wIs, q_wIn, q_wI2, q_wJ1, q_wJs, q_wJn, q_wR1, q_wRs, q_wRn, q_wI22, q_wJ22, pk_us, pk_un, pk_uLs, pk_uLn, q_usS, q_usN, q_ups, q_upn, Bool.true_eq_false, Bool.false_eq_true, q_lt, q_o2, q_o3, q_o4, q_o5, q_bi, ↓reduceIte, q_tv0, q_tv1, q_bz, q_oRl, q_oRr, q_oXl, q_oXr, k.1, hS], m, c, rfl, k, g2⟩) (fu_lt (show S < 2000 by omega)) (s := (nI 0, sr ρ b)) ⟨nI 0, b, rfl, hb, by rw [if_neg (by omega)]⟩
  exact ⟨n, c, h1, h2, h3⟩
theorem pass_one (hS : a 0 = nI S) (h8 : S ≤ 8) (t8 : T ≤ 8) (hp : ∀ j, j < S → a (25 + 13 * j + 3) = m1 ∨ ∃ t, t < T ∧ a (25 + 13 * j + 3) = nI t) {i D : Nat} (hi : i < S) (hD : D ≤ 400) : ∃ n c, f_X13_passes (nI D) (sr ρ a) = some (n, sr ρ c) ∧ c (25 + 13 * i + 1) = (itr (a (25 + 13 * i + 2)) (a (25 + 13 * i + 1), pr a i) D).1 := by
  obtain ⟨t, h1, n, c, rfl, h2⟩ := lp_inv (F := fun n x (s : Int32 × OM) => f_X13_passes_4 (nI D) n x s.1 s.2) (i0 := 0) (fun (k : Nat) (t : Int32 × OM) => ∃ n c, t = (n, sr ρ c) ∧ JD S T a c ∧ (c (25 + 13 * i + 1), pr c i) = itr (a (25 + 13 * i + 2)) (a (25 + 13 * i + 1), pr a i) k) (fun t => ∃ n c, t = (n, sr ρ c) ∧ c (25 + 13 * i + 1) = (itr (a (25 + 13 * i + 2)) (a (25 + 13 * i + 1), pr a i) D).1) D (fun n k t hk hh => by
      obtain ⟨m, c, rfl, ⟨k1, k2, k3, k4⟩, g⟩ := hh
      have kb : JD S T a (upd c 2 (c 2 + nI 1)) := ⟨by simp (maxSteps := 2000000) (disch := first | rfl | exact q_e1 _ _ _ | exact q_sr1 _ _ | omega) only [q_sr1, q_srn, q_srw, q_srs, q_wIs, q_wIn, q_wI2, q_wJ1, q_wJs, q_wJn, q_wR1, q_wRs, q_wRn, q_wI22, q_wJ22, pk_us, pk_un, pk_uLs, pk_uLn, q_usS, q_usN, q_ups, q_upn, k1], fun t ht => by simp (maxSteps := 2000000) (disch := first | rfl | exact q_e1 _ _ _ | exact q_sr1 _ _ | omega) only [q_sr1, q_srn, q_srw, q_srs, q_wIs, q_wIn, q_wI2, q_wJ1, q_wJs, q_wJn, q_wR1, q_wRs, q_wRn, q_wI22, q_wJ22, pk_us, pk_un, pk_uLs, pk_uLn, q_usS, q_usN, q_ups, q_upn, k2 t ht], fun y hy => by simp (maxSteps := 2000000) (disch := first | rfl | exact q_e1 _ _ _ | exact q_sr1 _ _ | omega) only [q_sr1, q_srn, q_srw, q_srs, q_wIs, q_wIn, q_wI2, q_wJ1, q_wJs, q_wJn, q_wR1, q_wRs, q_wRn, q_wI22, q_wJ22, pk_us, pk_un, pk_uLs, pk_uLn, q_usS, q_usN, q_ups, q_upn, k3 y hy], fun y hy => by simp (maxSteps := 2000000) (disch := first | rfl | exact q_e1 _ _ _ | exact q_sr1 _ _ | omega) only [q_sr1, q_srn, q_srw, q_srs, q_wIs, q_wIn, q_wI2, q_wJ1, q_wJs, q_wJn, q_wR1, q_wRs, q_wRn, q_wI22, q_wJ22, pk_us, pk_un, pk_uLs, pk_uLn, q_usS, q_usN, q_ups, q_upn]; exact k4 y hy⟩
      obtain ⟨b1, f1, f2, f3, f4⟩ := dep_one (ρ := ρ) hS h8 t8 kb hi
      obtain ⟨x, b2, f5, f6, f7⟩ := evi_one (ρ := ρ) hS h8 t8 f2 hi
      refine ⟨(m + x, sr ρ b2), ⟨_, _, rfl, f6, ?_⟩, ?_⟩
      · have e1 : pr (upd c 2 (c 2 + nI 1)) i = pr c i := by
          rw [pr, pr, pk_un (by omega)]
          rcases k4 i hi with e | ⟨t, ht, e⟩
          · rw [if_pos e, if_pos e]
          · rw [e, nI_clamp (by omega), pk_un (by omega)]
        rw [f7, f3, f4, pk_un (by omega), e1, itr, ← g]
      · simp (maxSteps := 2000000) (disch := first | rfl | exact q_e1 _ _ _ | exact q_sr1 _ _ | omega) only [f_X13_passes_4, f_X13_passesDay, ↓q_m1, q_l0, q_l1, q_l2, q_l3, q_l4, q_l5, q_l6, q_l7, q_l8, q_l9, q_l10, q_l11, q_l12, q_l13, q_l14, q_l15, q_l16, q_l17, q_l18, q_l19, q_l20, q_l21, q_l22, q_l23, q_l24, q_l25, q_l26, q_l27, q_l28, q_l29, q_l30, q_l31, q_l32, q_l33, q_l45, q_l46, q_l48, q_l57, q_l58, q_l59, q_l60, q_l61, q_l62, q_l63, q_l64, q_l96, q_l97, q_l99, q_l122, q_l129, q_l137, q_l255, q_l256, q_l400, q_l680, q_l700, q_l959, q_l999, q_l9999, q_l10000, q_l100000, q_ltT, q_ltF, q_leT, q_leF, q_eqF, q_eqR, q_mlt, q_mle, q_nlm, q_nLm, q_nem, q_men, q_mlm, Nat.add_zero, Nat.sub_zero, q_add0, pk_rem, nI_add, pk_mul, q_sub, q_subm, q_addm, nI_clamp, q_inT, q_inF, q_sr1, q_srn, q_srw, q_srs, q_wIs, q_wIn, q_wI2, q_wJ1, q_wJs, q_wJn, q_wR1, q_wRs, q_wRn, q_wI22, q_wJ22, pk_us, pk_un, pk_uLs, pk_uLn, q_usS, q_usN, q_ups, q_upn, Bool.true_eq_false, Bool.false_eq_true, q_lt, q_o2, q_o3, q_o4, q_o5, q_bi, ↓reduceIte, q_tv0, q_tv1, q_bz, q_oRl, q_oRr, q_oXl, q_oXr, f1, f5]) (fun n t hh => by
      obtain ⟨m, c, rfl, k, g⟩ := hh
      exact ⟨(m, sr ρ c), by simp (maxSteps := 2000000) (disch := first | rfl | exact q_e1 _ _ _ | exact q_sr1 _ _ | omega) only [f_X13_passes_4, ↓q_m1, q_l0, q_l1, q_l2, q_l3, q_l4, q_l5, q_l6, q_l7, q_l8, q_l9, q_l10, q_l11, q_l12, q_l13, q_l14, q_l15, q_l16, q_l17, q_l18, q_l19, q_l20, q_l21, q_l22, q_l23, q_l24, q_l25, q_l26, q_l27, q_l28, q_l29, q_l30, q_l31, q_l32, q_l33, q_l45, q_l46, q_l48, q_l57, q_l58, q_l59, q_l60, q_l61, q_l62, q_l63, q_l64, q_l96, q_l97, q_l99, q_l122, q_l129, q_l137, q_l255, q_l256, q_l400, q_l680, q_l700, q_l959, q_l999, q_l9999, q_l10000, q_l100000, q_ltT, q_ltF, q_leT, q_leF, q_eqF, q_eqR, q_mlt, q_mle, q_nlm, q_nLm, q_nem, q_men, q_mlm, Nat.add_zero, Nat.sub_zero, q_add0, pk_rem, nI_add, pk_mul, q_sub, q_subm, q_addm, nI_clamp, q_inT, q_inF, q_sr1, q_srn, q_srw, q_srs, q_wIs, q_wIn, q_wI2, q_wJ1, q_wJs, q_wJn, q_wR1, q_wRs, q_wRn, q_wI22, q_wJ22, pk_us, pk_un, pk_uLs, pk_uLn, q_usS, q_usN, q_ups, q_upn, Bool.true_eq_false, Bool.false_eq_true, q_lt, q_o2, q_o3, q_o4, q_o5, q_bi, ↓reduceIte, q_tv0, q_tv1, q_bz, q_oRl, q_oRr, q_oXl, q_oXr], m, c, rfl, by rw [← g]⟩) (fu_lt (show D < 2000 by omega)) (s := (nI 0, sr ρ a)) ⟨nI 0, a, rfl, ⟨rfl, fun _ _ => rfl, fun _ _ => rfl, hp⟩, rfl⟩
  exact ⟨n, c, by unfold f_X13_passes; rw [q_l0]; exact h1, h2⟩
end DAY
section FACE
variable {B : Nat} {σ : SM}
theorem P_balanceAfter (h : Rel B σ) (x0 x1 : Int32) : FX B σ [2, 1] (f_X12_balanceAfter x0 x1 σ) (f_X13_balanceAfter x0 x1 (σ 20)) := by
  obtain ⟨S, T, hm, hf⟩ := h.1
  have w := hf.2.1; have h8 := w.1.1; have t8 := w.1.2; have hS := hm.1.2.2.1; have hT := hm.1.2.2.2
  rcases or_assoc.mpr (q_ix x0 (n := S) (by omega)) with hx | ⟨i, hi, rfl⟩
  · refine fx_t h 0 rfl ?_ (nI 0) ?_
    · simp (maxSteps := 2000000) (disch := first | rfl | exact q_e1 _ _ _ | exact q_sr1 _ _ | omega) only [f_X12_balanceAfter, s_rqF hm hx, Bool.true_eq_false, Bool.false_eq_true, q_lt, q_o2, q_o3, q_o4, q_o5, q_bi, ↓reduceIte, q_tv0, q_tv1, q_bz, q_oRl, q_oRr, q_oXl, q_oXr]
    · simp (maxSteps := 2000000) (disch := first | rfl | exact q_e1 _ _ _ | exact q_sr1 _ _ | omega) only [f_X13_balanceAfter, r_selF hS h8 hx, ↓q_m1, q_l0, q_l1, q_l2, q_l3, q_l4, q_l5, q_l6, q_l7, q_l8, q_l9, q_l10, q_l11, q_l12, q_l13, q_l14, q_l15, q_l16, q_l17, q_l18, q_l19, q_l20, q_l21, q_l22, q_l23, q_l24, q_l25, q_l26, q_l27, q_l28, q_l29, q_l30, q_l31, q_l32, q_l33, q_l45, q_l46, q_l48, q_l57, q_l58, q_l59, q_l60, q_l61, q_l62, q_l63, q_l64, q_l96, q_l97, q_l99, q_l122, q_l129, q_l137, q_l255, q_l256, q_l400, q_l680, q_l700, q_l959, q_l999, q_l9999, q_l10000, q_l100000, q_ltT, q_ltF, q_leT, q_leF, q_eqF, q_eqR, q_mlt, q_mle, q_nlm, q_nLm, q_nem, q_men, q_mlm, Nat.add_zero, Nat.sub_zero, q_add0, pk_rem, nI_add, pk_mul, q_sub, q_subm, q_addm, nI_clamp, q_inT, q_inF, q_sr1, q_srn, q_srw, q_srs, q_wIs, q_wIn, q_wI2, q_wJ1, q_wJs, q_wJn, q_wR1, q_wRs, q_wRn, q_wI22, q_wJ22, pk_us, pk_un, pk_uLs, pk_uLn, q_usS, q_usN, q_ups, q_upn, Bool.true_eq_false, Bool.false_eq_true, q_lt, q_o2, q_o3, q_o4, q_o5, q_bi, ↓reduceIte, q_tv0, q_tv1, q_bz, q_oRl, q_oRr, q_oXl, q_oXr]
  · rcases q_bt x1 (l := 0) (u := 400) (by omega) (by omega) with hx | ⟨D, _, hD, rfl⟩
    · refine fx_t h 1 rfl ?_ (nI 0) ?_
      · rcases hx with hx | ⟨h0, hx⟩
        · simp (maxSteps := 2000000) (disch := first | rfl | exact q_e1 _ _ _ | exact q_sr1 _ _ | omega) only [f_X12_balanceAfter, s_rqT hm h8 hi, eq_true hx, ↓q_m1, q_l0, q_l1, q_l2, q_l3, q_l4, q_l5, q_l6, q_l7, q_l8, q_l9, q_l10, q_l11, q_l12, q_l13, q_l14, q_l15, q_l16, q_l17, q_l18, q_l19, q_l20, q_l21, q_l22, q_l23, q_l24, q_l25, q_l26, q_l27, q_l28, q_l29, q_l30, q_l31, q_l32, q_l33, q_l45, q_l46, q_l48, q_l57, q_l58, q_l59, q_l60, q_l61, q_l62, q_l63, q_l64, q_l96, q_l97, q_l99, q_l122, q_l129, q_l137, q_l255, q_l256, q_l400, q_l680, q_l700, q_l959, q_l999, q_l9999, q_l10000, q_l100000, Bool.true_eq_false, Bool.false_eq_true, q_lt, q_o2, q_o3, q_o4, q_o5, q_bi, ↓reduceIte, q_tv0, q_tv1, q_bz, q_oRl, q_oRr, q_oXl, q_oXr]
        · simp (maxSteps := 2000000) (disch := first | rfl | exact q_e1 _ _ _ | exact q_sr1 _ _ | omega) only [f_X12_balanceAfter, s_rqT hm h8 hi, q_nlt h0, eq_false (Int32.not_le.mpr hx), ↓q_m1, q_l0, q_l1, q_l2, q_l3, q_l4, q_l5, q_l6, q_l7, q_l8, q_l9, q_l10, q_l11, q_l12, q_l13, q_l14, q_l15, q_l16, q_l17, q_l18, q_l19, q_l20, q_l21, q_l22, q_l23, q_l24, q_l25, q_l26, q_l27, q_l28, q_l29, q_l30, q_l31, q_l32, q_l33, q_l45, q_l46, q_l48, q_l57, q_l58, q_l59, q_l60, q_l61, q_l62, q_l63, q_l64, q_l96, q_l97, q_l99, q_l122, q_l129, q_l137, q_l255, q_l256, q_l400, q_l680, q_l700, q_l959, q_l999, q_l9999, q_l10000, q_l100000, Bool.true_eq_false, Bool.false_eq_true, q_lt, q_o2, q_o3, q_o4, q_o5, q_bi, ↓reduceIte, q_tv0, q_tv1, q_bz, q_oRl, q_oRr, q_oXl, q_oXr]
      · simp (maxSteps := 2000000) (disch := first | rfl | exact q_e1 _ _ _ | exact q_sr1 _ _ | omega) only [f_X13_balanceAfter, r_selT hS h8, r_btF hx, ↓q_m1, q_l0, q_l1, q_l2, q_l3, q_l4, q_l5, q_l6, q_l7, q_l8, q_l9, q_l10, q_l11, q_l12, q_l13, q_l14, q_l15, q_l16, q_l17, q_l18, q_l19, q_l20, q_l21, q_l22, q_l23, q_l24, q_l25, q_l26, q_l27, q_l28, q_l29, q_l30, q_l31, q_l32, q_l33, q_l45, q_l46, q_l48, q_l57, q_l58, q_l59, q_l60, q_l61, q_l62, q_l63, q_l64, q_l96, q_l97, q_l99, q_l122, q_l129, q_l137, q_l255, q_l256, q_l400, q_l680, q_l700, q_l959, q_l999, q_l9999, q_l10000, q_l100000, q_ltT, q_ltF, q_leT, q_leF, q_eqF, q_eqR, q_mlt, q_mle, q_nlm, q_nLm, q_nem, q_men, q_mlm, Nat.add_zero, Nat.sub_zero, q_add0, pk_rem, nI_add, pk_mul, q_sub, q_subm, q_addm, nI_clamp, q_inT, q_inF, q_sr1, q_srn, q_srw, q_srs, q_wIs, q_wIn, q_wI2, q_wJ1, q_wJs, q_wJn, q_wR1, q_wRs, q_wRn, q_wI22, q_wJ22, pk_us, pk_un, pk_uLs, pk_uLn, q_usS, q_usN, q_ups, q_upn, Bool.true_eq_false, Bool.false_eq_true, q_lt, q_o2, q_o3, q_o4, q_o5, q_bi, ↓reduceIte, q_tv0, q_tv1, q_bz, q_oRl, q_oRr, q_oXl, q_oXr]
    · have hpr : f_X5_priceOf ((σ 20).1 1 (25 + 13 * i + 3)) (σ 0) = some (pr ((σ 20).1 1) i) := by
        rcases w.2.2.2 i hi with e | ⟨t, ht, e⟩
        · rw [pr, if_pos e, e]; exact s_priceOf0 hm
        · rw [pr, if_neg (by rw [e]; exact fun q => (q_nem (show t < 2 ^ 31 by omega)).mp q), e, nI_clamp (by omega)]; exact s_priceOf hm t8 ht
      obtain ⟨z, g1, rfl⟩ := lp_inv (F := fun n x (s : Int32 × Int32) => f_X12_balanceAfter_56 (nI i) (nI D) σ n x s.1 s.2) (i0 := 1) (fun (d : Nat) (s : Int32 × Int32) => 1 ≤ d ∧ s = itr ((σ 20).1 1 (25 + 13 * i + 2)) ((σ 20).1 1 (25 + 13 * i + 1), pr ((σ 20).1 1) i) (d - 1)) (fun z => z = .inr (itr ((σ 20).1 1 (25 + 13 * i + 2)) ((σ 20).1 1 (25 + 13 * i + 1), pr ((σ 20).1 1) i) D).1) (D + 1) (fun n d s hd hh => by
          obtain ⟨k, rfl⟩ : ∃ k, d = k + 1 := ⟨d - 1, by omega⟩
          have hh := hh.2
          simp only [Nat.add_sub_cancel] at hh
          subst hh
          refine ⟨_, ⟨by omega, rfl⟩, ?_⟩
          simp only [Nat.add_sub_cancel]
          rw [itr]
          generalize itr ((σ 20).1 1 (25 + 13 * i + 2)) ((σ 20).1 1 (25 + 13 * i + 1), pr ((σ 20).1 1) i) k = s
          simp (maxSteps := 2000000) (disch := first | rfl | exact q_e1 _ _ _ | exact q_sr1 _ _ | omega) only [f_X12_balanceAfter_56, s_wageOf hm h8 hi, ↓q_m1, q_l0, q_l1, q_l2, q_l3, q_l4, q_l5, q_l6, q_l7, q_l8, q_l9, q_l10, q_l11, q_l12, q_l13, q_l14, q_l15, q_l16, q_l17, q_l18, q_l19, q_l20, q_l21, q_l22, q_l23, q_l24, q_l25, q_l26, q_l27, q_l28, q_l29, q_l30, q_l31, q_l32, q_l33, q_l45, q_l46, q_l48, q_l57, q_l58, q_l59, q_l60, q_l61, q_l62, q_l63, q_l64, q_l96, q_l97, q_l99, q_l122, q_l129, q_l137, q_l255, q_l256, q_l400, q_l680, q_l700, q_l959, q_l999, q_l9999, q_l10000, q_l100000, q_ltT, q_ltF, q_leT, q_leF, q_eqF, q_eqR, q_mlt, q_mle, q_nlm, q_nLm, q_nem, q_men, q_mlm, Nat.add_zero, Nat.sub_zero, q_add0, pk_rem, nI_add, pk_mul, q_sub, q_subm, q_addm, nI_clamp, q_inT, q_inF, q_sr1, q_srn, q_srw, q_srs, q_wIs, q_wIn, q_wI2, q_wJ1, q_wJs, q_wJn, q_wR1, q_wRs, q_wRn, q_wI22, q_wJ22, pk_us, pk_un, pk_uLs, pk_uLn, q_usS, q_usN, q_ups, q_upn, Bool.true_eq_false, Bool.false_eq_true, q_lt, q_o2, q_o3, q_o4, q_o5, q_bi, ↓reduceIte, q_tv0, q_tv1, q_bz, q_oRl, q_oRr, q_oXl, q_oXr, stE]
          by_cases c : s.2 ≤ s.1 + (σ 20).1 1 (25 + 13 * i + 2)
          · rw [if_pos c, if_pos c]
          · rw [if_neg c, if_neg c, q_add0']) (fun n s hh => by
          have hh := hh.2
          subst hh
          exact ⟨_, by simp (maxSteps := 2000000) (disch := first | rfl | exact q_e1 _ _ _ | exact q_sr1 _ _ | omega) only [f_X12_balanceAfter_56, ↓q_m1, q_l0, q_l1, q_l2, q_l3, q_l4, q_l5, q_l6, q_l7, q_l8, q_l9, q_l10, q_l11, q_l12, q_l13, q_l14, q_l15, q_l16, q_l17, q_l18, q_l19, q_l20, q_l21, q_l22, q_l23, q_l24, q_l25, q_l26, q_l27, q_l28, q_l29, q_l30, q_l31, q_l32, q_l33, q_l45, q_l46, q_l48, q_l57, q_l58, q_l59, q_l60, q_l61, q_l62, q_l63, q_l64, q_l96, q_l97, q_l99, q_l122, q_l129, q_l137, q_l255, q_l256, q_l400, q_l680, q_l700, q_l959, q_l999, q_l9999, q_l10000, q_l100000, q_ltT, q_ltF, q_leT, q_leF, q_eqF, q_eqR, q_mlt, q_mle, q_nlm, q_nLm, q_nem, q_men, q_mlm, Nat.add_zero, Nat.sub_zero, q_add0, pk_rem, nI_add, pk_mul, q_sub, q_subm, q_addm, nI_clamp, q_inT, q_inF, q_sr1, q_srn, q_srw, q_srs, q_wIs, q_wIn, q_wI2, q_wJ1, q_wJs, q_wJn, q_wR1, q_wRs, q_wRn, q_wI22, q_wJ22, pk_us, pk_un, pk_uLs, pk_uLn, q_usS, q_usN, q_ups, q_upn, Bool.true_eq_false, Bool.false_eq_true, q_lt, q_o2, q_o3, q_o4, q_o5, q_bi, ↓reduceIte, q_tv0, q_tv1, q_bz, q_oRl, q_oRr, q_oXl, q_oXr]; rfl, by simp only [Nat.add_sub_cancel]⟩) (fu_lt (show D + 1 < 2000 by omega)) (s := ((σ 20).1 1 (25 + 13 * i + 1), pr ((σ 20).1 1) i)) ⟨by omega, rfl⟩
      obtain ⟨ρ1, c1, c2, c3⟩ := r_copy1_2 (wI (σ 20) 0 12 (nI 0))
      have hρ : ρ1 = sr ρ1 ((σ 20).1 1) := by
        have e : ρ1.1 1 = (σ 20).1 1 := (c2 1 (by omega)).trans (q_wIn (by omega))
        rw [← e]; exact (sr_self ρ1).symm
      obtain ⟨n, b, d1, d2⟩ := pass_one (ρ := ρ1) hS h8 t8 w.2.2.2 hi hD
      obtain ⟨ρ2, e1, e2, e3⟩ := r_copy2_1 (sr ρ1 b)
      rw [hρ] at c1
      refine ⟨_, (itr ((σ 20).1 1 (25 + 13 * i + 2)) ((σ 20).1 1 (25 + 13 * i + 1), pr ((σ 20).1 1) i) D).1, ρ2, ?_, ?_, h.q ⟨fun j hj => ?_, fun k hk => ?_, fun f hf => ?_⟩, Or.inr ⟨rfl, ?_⟩⟩
      · simp (maxSteps := 2000000) (disch := first | rfl | exact q_e1 _ _ _ | exact q_sr1 _ _ | omega) only [f_X12_balanceAfter, s_rqT hm h8 hi, s_heldBy hm h8 hi, hpr, s_coinsOf hm h8 hi, g1, ↓q_m1, q_l0, q_l1, q_l2, q_l3, q_l4, q_l5, q_l6, q_l7, q_l8, q_l9, q_l10, q_l11, q_l12, q_l13, q_l14, q_l15, q_l16, q_l17, q_l18, q_l19, q_l20, q_l21, q_l22, q_l23, q_l24, q_l25, q_l26, q_l27, q_l28, q_l29, q_l30, q_l31, q_l32, q_l33, q_l45, q_l46, q_l48, q_l57, q_l58, q_l59, q_l60, q_l61, q_l62, q_l63, q_l64, q_l96, q_l97, q_l99, q_l122, q_l129, q_l137, q_l255, q_l256, q_l400, q_l680, q_l700, q_l959, q_l999, q_l9999, q_l10000, q_l100000, q_ltT, q_ltF, q_leT, q_leF, q_eqF, q_eqR, q_mlt, q_mle, q_nlm, q_nLm, q_nem, q_men, q_mlm, Nat.add_zero, Nat.sub_zero, q_add0, pk_rem, nI_add, pk_mul, q_sub, q_subm, q_addm, nI_clamp, q_inT, q_inF, q_sr1, q_srn, q_srw, q_srs, q_wIs, q_wIn, q_wI2, q_wJ1, q_wJs, q_wJn, q_wR1, q_wRs, q_wRn, q_wI22, q_wJ22, pk_us, pk_un, pk_uLs, pk_uLn, q_usS, q_usN, q_ups, q_upn, Bool.true_eq_false, Bool.false_eq_true, q_lt, q_o2, q_o3, q_o4, q_o5, q_bi, ↓reduceIte, q_tv0, q_tv1, q_bz, q_oRl, q_oRr, q_oXl, q_oXr]
      · simp (maxSteps := 2000000) (disch := first | rfl | exact q_e1 _ _ _ | exact q_sr1 _ _ | omega) only [f_X13_balanceAfter, r_selT hS h8, r_btT, c1, d1, r_of b, d2, e1, ↓q_m1, q_l0, q_l1, q_l2, q_l3, q_l4, q_l5, q_l6, q_l7, q_l8, q_l9, q_l10, q_l11, q_l12, q_l13, q_l14, q_l15, q_l16, q_l17, q_l18, q_l19, q_l20, q_l21, q_l22, q_l23, q_l24, q_l25, q_l26, q_l27, q_l28, q_l29, q_l30, q_l31, q_l32, q_l33, q_l45, q_l46, q_l48, q_l57, q_l58, q_l59, q_l60, q_l61, q_l62, q_l63, q_l64, q_l96, q_l97, q_l99, q_l122, q_l129, q_l137, q_l255, q_l256, q_l400, q_l680, q_l700, q_l959, q_l999, q_l9999, q_l10000, q_l100000, q_ltT, q_ltF, q_leT, q_leF, q_eqF, q_eqR, q_mlt, q_mle, q_nlm, q_nLm, q_nem, q_men, q_mlm, Nat.add_zero, Nat.sub_zero, q_add0, pk_rem, nI_add, pk_mul, q_sub, q_subm, q_addm, nI_clamp, q_inT, q_inF, q_sr1, q_srn, q_srw, q_srs, q_wIs, q_wIn, q_wI2, q_wJ1, q_wJs, q_wJn, q_wR1, q_wRs, q_wRn, q_wI22, q_wJ22, pk_us, pk_un, pk_uLs, pk_uLn, q_usS, q_usN, q_ups, q_upn, Bool.true_eq_false, Bool.false_eq_true, q_lt, q_o2, q_o3, q_o4, q_o5, q_bi, ↓reduceIte, q_tv0, q_tv1, q_bz, q_oRl, q_oRr, q_oXl, q_oXr]
      · rw [e3 j hj, q_srn (by omega), c3 j hj]; exact congrFun (q_wIn (by omega)) j
      · rw [e2 k (by omega), q_srn (by omega), c2 k (by omega), q_wIn (by omega)]
      · rw [e2 0 (by omega), q_srn (by omega), c2 0 (by omega), q_wIs, pk_un (by omega)]
      · rw [e2 0 (by omega), q_srn (by omega), c2 0 (by omega), q_wIs, pk_us]
end FACE

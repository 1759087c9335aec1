/-! the whole relation between the class's objects and the reference -/
def WD (S : Nat) (a : Nat → Int32) : Prop :=
  (∀ i k k', i < S → k < ln a i → k' < ln a i → a (25 + 13 * i + (5 + k)) = a (25 + 13 * i + (5 + k')) → k = k') ∧
  (∀ i j, i < S → j < S → a (25 + 13 * i + 3) = a (25 + 13 * j + 3) → a (25 + 13 * i + 3) ≠ m1 → i = j)
def WN (B S T : Nat) (a : Nat → Int32) : Prop :=
  (∃ d, d ≤ 9999 ∧ a 2 = nI d) ∧ (∀ t, t < T → ∃ r, r ≤ 99 ∧ a (9 + 2 * t + 1) = nI r) ∧
  (∀ i, i < S → ∃ w, w ≤ 99 ∧ a (25 + 13 * i + 2) = nI w) ∧ (∀ i, i < S → ∃ b, b ≤ B ∧ a (25 + 13 * i + 1) = nI b)
def WF (B S T : Nat) (a : Nat → Int32) : Prop := 1 ≤ S ∧ WL S T a ∧ WD S a ∧ WN B S T a
def MW (B : Nat) (μ : OM) (a : Nat → Int32) : Prop := ∃ S T, MR S T μ a ∧ WF B S T a
/-- two texts: the class's bytes, the reference's row -/
def TX (m : Nat) (β : OM) (n : Int32) (f : Nat → Int32) : Prop := ∃ c, c ≤ m ∧ β.1 0 1 = nI c ∧ n = nI c ∧ ∀ j, j < c → ∃ b, b < 256 ∧ β.1 1 j = nI b ∧ f j = nI b
def HS (B : Nat) (sl : Nat → OM) (o c n : Int32) (f : Nat → Int32) : Prop := ∃ q k, q < 8 ∧ k ≤ 8 ∧ o = nI q ∧ c = nI k ∧ n = nI k ∧ ∀ j, j < k → MW B (sl ((q + j) % 8)) (fun x => f (137 * j + x))
def SV (B : Nat) (μ : OM) (x y : Int32) (f : Nat → Int32) : Prop := (x = nI 0 ∧ y = nI 0) ∨ (x = nI 1 ∧ y = nI 1 ∧ MW B μ f)
def Rel (B : Nat) (σ : SM) : Prop :=
  MW B (σ 0) ((σ 20).1 1) ∧ SV B (σ 2) ((σ 19).1 0 6) ((σ 20).1 0 5) ((σ 20).1 3) ∧
  HS B (fun k => σ (3 + k)) ((σ 16).1 0 1) ((σ 16).1 0 2) ((σ 20).1 0 4) ((σ 20).1 4) ∧
  TX 700 (σ 13) ((σ 20).1 0 7) ((σ 20).1 5) ∧ TX 160 (σ 14) ((σ 20).1 0 11) ((σ 20).1 6) ∧
  (σ 11).1 0 1 = (σ 20).1 0 8 ∧ (σ 11).1 0 2 = (σ 20).1 0 9
/-- the reference's rows that count -/
def QE (ρ ρ' : OM) : Prop := (∀ j, j < 137 → ρ'.1 1 j = ρ.1 1 j) ∧ (∀ k, k = 3 ∨ k = 4 ∨ k = 5 ∨ k = 6 → ρ'.1 k = ρ.1 k) ∧ ∀ f, f = 4 ∨ f = 5 ∨ f = 7 ∨ f = 8 ∨ f = 9 ∨ f = 11 → ρ'.1 0 f = ρ.1 0 f
theorem QE.rf (ρ : OM) : QE ρ ρ := ⟨fun _ _ => rfl, fun _ _ => rfl, fun _ _ => rfl⟩
theorem QE.tr {ρ ρ' ρ'' : OM} (h : QE ρ ρ') (g : QE ρ' ρ'') : QE ρ ρ'' := ⟨fun j hj => (g.1 j hj).trans (h.1 j hj), fun k hk => (g.2.1 k hk).trans (h.2.1 k hk), fun f hf => (g.2.2 f hf).trans (h.2.2 f hf)⟩
theorem QE.fld {ρ : OM} {j : Nat} {v : Int32} (hj : j = 12 ∨ 19 ≤ j) : QE ρ (wI ρ 0 j v) := ⟨fun _ _ => rfl, fun k hk => q_wIn (by omega), fun f hf => (congrFun (q_wIs ρ 0 j v) f).trans (pk_un (by omega))⟩
theorem QE.row {ρ : OM} {k j : Nat} {v : Int32} (hk : k = 2 ∨ 7 ≤ k) : QE ρ (wI ρ k j v) := ⟨fun j' _ => congrFun (q_wIn (by omega)) j', fun k' hk' => q_wIn (by omega), fun f hf => congrFun (q_wIn (by omega)) f⟩
/-- only the row's first 137 ints count -/
theorem MW.congr {B : Nat} {μ : OM} {f g : Nat → Int32} (e : ∀ k, k < 137 → g k = f k) (h : MW B μ f) : MW B μ g := by
  obtain ⟨S, T, ⟨m1, m2, m3, m4, m5, m6, m7, m8, m9⟩, w1, ⟨w2, w3, w4, w5⟩, ⟨w6, w7⟩, ⟨w8, w9, w10, w11⟩⟩ := h
  obtain ⟨hS, hT⟩ := w2
  have el : ∀ i, i < S → ln g i = ln f i := fun i hi => by rw [ln, ln, e _ (by omega)]
  refine ⟨S, T, ⟨⟨m1.1, m1.2.1, (e 0 (by omega)).trans m1.2.2.1, (e 1 (by omega)).trans m1.2.2.2⟩, fun k h1 h2 => (m2 k h1 h2).trans (e k (by omega)).symm, fun i hi => ?_, fun i k hi hk => ?_, fun t ht => ?_, fun i hi => ?_, fun t ht => ?_, fun i hi => ?_, fun k hk => ?_⟩, w1, ⟨⟨hS, hT⟩, fun i hi => ?_, fun i k hi hk => ?_, fun i hi => ?_⟩, ⟨fun i k k' hi hk hk' => ?_, fun i j hi hj => ?_⟩, ⟨?_, fun t ht => ?_, fun i hi => ?_, fun i hi => ?_⟩⟩
  · rw [e _ (by omega), e _ (by omega), e _ (by omega), e _ (by omega)]; exact m3 i hi
  · rw [el i hi] at hk
    have := (w3 i hi).1
    rw [e _ (by omega)]; exact m4 i k hi hk
  · rw [e _ (by omega)]; exact m5 t ht
  · rw [e _ (by omega)]; exact m6 i hi
  · rw [e _ (by omega)]; exact m7 t ht
  · obtain ⟨k, h1, h2, h3⟩ := m8 i hi
    exact ⟨k, h1, h2, (e _ (by omega)).trans h3⟩
  · obtain ⟨i, h1, h2, h3⟩ := m9 k hk
    exact ⟨i, h1, h2, (e _ (by omega)).trans h3⟩
  · rw [el i hi, e _ (by omega)]; exact w3 i hi
  · rw [el i hi] at hk
    have := (w3 i hi).1
    rw [e _ (by omega)]; exact w4 i k hi hk
  · rw [e _ (by omega)]; exact w5 i hi
  · rw [el i hi] at hk hk'
    have := (w3 i hi).1
    rw [e _ (by omega), e _ (by omega)]; exact w6 i k k' hi hk hk'
  · rw [e _ (by omega), e _ (by omega)]; exact w7 i j hi hj
  · rw [e _ (by omega)]; exact w8
  · rw [e _ (by omega)]; exact w9 t ht
  · rw [e _ (by omega)]; exact w10 i hi
  · rw [e _ (by omega)]; exact w11 i hi
theorem MW.mono {B B' : Nat} {μ : OM} {f : Nat → Int32} (hB : B ≤ B') (h : MW B μ f) : MW B' μ f := by
  obtain ⟨S, T, hm, w1, w2, w3, ⟨w8, w9, w10, w11⟩⟩ := h
  refine ⟨S, T, hm, w1, w2, w3, ⟨w8, w9, w10, fun i hi => ?_⟩⟩
  obtain ⟨b, h1, h2⟩ := w11 i hi
  exact ⟨b, by omega, h2⟩
theorem Rel.q {B : Nat} {σ : SM} {ρ' : OM} (h : Rel B σ) (q : QE (σ 20) ρ') : Rel B (us σ 20 ρ') := by
  obtain ⟨q0, q1, q2⟩ := q
  have e3 := q1 3 (by omega)
  have e4 := q1 4 (by omega)
  have e5 := q1 5 (by omega)
  have e6 := q1 6 (by omega)
  have f4 := q2 4 (by omega)
  have f5 := q2 5 (by omega)
  have f7 := q2 7 (by omega)
  have f8 := q2 8 (by omega)
  have f9 := q2 9 (by omega)
  have f11 := q2 11 (by omega)
  obtain ⟨h1, h2, h3, h4, h5, h6, h7⟩ := h
  refine ⟨?_, ?_, ?_, ?_, ?_, ?_, ?_⟩
  · show MW B (σ 0) (ρ'.1 1)
    exact h1.congr q0
  · show SV B (σ 2) ((σ 19).1 0 6) (ρ'.1 0 5) (ρ'.1 3)
    rw [e3, f5]; exact h2
  · obtain ⟨a, k, g1, g2, g3, g4, g5, g6⟩ := h3
    refine ⟨a, k, g1, g2, g3, g4, f4.trans g5, fun j hj => ?_⟩
    show MW B (us σ 20 ρ' (3 + (a + j) % 8)) (fun x => ρ'.1 4 (137 * j + x))
    rw [e4, q_usN (by omega)]
    exact g6 j hj
  · show TX 700 (σ 13) (ρ'.1 0 7) (ρ'.1 5)
    rw [e5, f7]; exact h4
  · show TX 160 (σ 14) (ρ'.1 0 11) (ρ'.1 6)
    rw [e6, f11]; exact h5
  · exact h6.trans f8.symm
  · exact h7.trans f9.symm
/-- the class's objects that count -/
theorem Rel.c {B : Nat} {σ τ : SM} (h : Rel B σ) (q : ∀ o, o = 0 ∨ (2 ≤ o ∧ o ≤ 10) ∨ o = 13 ∨ o = 14 ∨ o = 16 ∨ o = 19 ∨ o = 20 → τ o = σ o) (q1 : (τ 11).1 0 1 = (σ 11).1 0 1) (q2 : (τ 11).1 0 2 = (σ 11).1 0 2) : Rel B τ := by
  obtain ⟨h1, h2, h3, h4, h5, h6, h7⟩ := h
  have e0 := q 0 (by omega)
  have e2 := q 2 (by omega)
  have e13 := q 13 (by omega)
  have e14 := q 14 (by omega)
  have e16 := q 16 (by omega)
  have e19 := q 19 (by omega)
  have e20 := q 20 (by omega)
  refine ⟨?_, ?_, ?_, ?_, ?_, ?_, ?_⟩
  · rw [e0, e20]; exact h1
  · rw [e2, e19, e20]; exact h2
  · rw [e16, e20]
    obtain ⟨a, k, g1, g2, g3, g4, g5, g6⟩ := h3
    refine ⟨a, k, g1, g2, g3, g4, g5, fun j hj => ?_⟩
    have := g6 j hj
    show MW B (τ (3 + (a + j) % 8)) _
    rw [q (3 + (a + j) % 8) (by omega)]
    exact this
  · rw [e13, e20]; exact h4
  · rw [e14, e20]; exact h5
  · rw [q1, e20]; exact h6
  · rw [q2, e20]; exact h7
theorem Rel.mono {B B' : Nat} {σ : SM} (hB : B ≤ B') (h : Rel B σ) : Rel B' σ := by
  obtain ⟨h1, h2, h3, h4⟩ := h
  refine ⟨h1.mono hB, ?_, ?_, h4⟩
  · rcases h2 with h | ⟨a, b, c⟩
    · exact Or.inl h
    · exact Or.inr ⟨a, b, c.mono hB⟩
  · obtain ⟨a, k, g1, g2, g3, g4, g5, g6⟩ := h3
    exact ⟨a, k, g1, g2, g3, g4, g5, fun j hj => (g6 j hj).mono hB⟩
/-- answers of a method that may throw, the exceptions in the order of its list -/
def FX (B : Nat) (σ : SM) (L : List Nat) (f : Option (Nat ⊕ Int32)) (g : Option (Int32 × OM)) : Prop := ∃ z r ρ', f = some z ∧ g = some (r, ρ') ∧ Rel B (us σ 20 ρ') ∧ ((∃ j k, L[j]? = some k ∧ z = .inl k ∧ ρ'.1 0 12 = nI (j + 1)) ∨ (z = .inr r ∧ ρ'.1 0 12 = nI 0))
def FS (B B' : Nat) (σ : SM) (L : List Nat) (f : Option (Nat ⊕ (Int32 × SM))) (g : Option (Int32 × OM)) : Prop := ∃ z r ρ', f = some z ∧ g = some (r, ρ') ∧ ((∃ j k, L[j]? = some k ∧ z = .inl k ∧ ρ'.1 0 12 = nI (j + 1) ∧ Rel B (us σ 20 ρ')) ∨ ∃ τ, z = .inr (r, τ) ∧ ρ'.1 0 12 = nI 0 ∧ τ 20 = σ 20 ∧ Rel B' (us τ 20 ρ'))
def FN {α : Type} (B : Nat) (σ : SM) (f : Option α) (g : Option (α × OM)) : Prop := ∃ r ρ', f = some r ∧ g = some (r, ρ') ∧ Rel B (us σ 20 ρ')
def FM (B' : Nat) (σ : SM) (f : Option (Int32 × SM)) (g : Option (Int32 × OM)) : Prop := ∃ r τ ρ', f = some (r, τ) ∧ g = some (r, ρ') ∧ τ 20 = σ 20 ∧ Rel B' (us τ 20 ρ')
/-- what the reference thinks of an index -/
theorem q_nlt {x : Int32} (h : nI 0 ≤ x) : (x < nI 0) = False := eq_false (Int32.not_lt.mpr h)
theorem q_sub1 {x : Int32} {S : Nat} (hS : S < 2 ^ 31) (h0 : nI 0 ≤ x) (h : nI S ≤ x) : (nI S - nI 1 < x) = True := by
  refine eq_true ?_
  by_cases hs : S = 0
  · subst hs
    rw [q_subm rfl]
    rw [Int32.lt_iff_toInt_lt, q_m1i]
    rw [Int32.le_iff_toInt_le, q_toInt (by omega)] at h0
    omega
  · rw [q_sub (by omega), Int32.lt_iff_toInt_lt, q_toInt (by omega)]
    rw [Int32.le_iff_toInt_le, q_toInt hS] at h
    omega
section IDX
variable {S : Nat} {a : Nat → Int32} {ρ : OM}
theorem r_selT (hS : a 0 = nI S) (h8 : S ≤ 8) (e : ρ.1 1 = a) {i : Nat} (hi : i < S) : f_X13_isSeller (nI i) ρ = some (nI 1) := by
  subst e
  simp (maxSteps := 2000000) (disch := first | rfl | exact q_e1 _ _ _ | exact q_sr1 _ _ | omega) only [f_X13_isSeller, f_X13_isBetween, ↓q_m1, q_l0, q_l1, q_l2, q_l3, q_l4, q_l5, q_l6, q_l7, q_l8, q_l9, q_l10, q_l11, q_l12, q_l13, q_l14, q_l15, q_l16, q_l17, q_l18, q_l19, q_l20, q_l21, q_l22, q_l23, q_l24, q_l25, q_l26, q_l27, q_l28, q_l29, q_l30, q_l31, q_l32, q_l33, q_l45, q_l46, q_l48, q_l57, q_l58, q_l59, q_l60, q_l61, q_l62, q_l63, q_l64, q_l96, q_l97, q_l99, q_l122, q_l129, q_l137, q_l255, q_l256, q_l400, q_l680, q_l700, q_l959, q_l999, q_l9999, q_l10000, q_l100000, q_ltT, q_ltF, q_leT, q_leF, q_eqF, q_eqR, q_mlt, q_mle, q_nlm, q_nLm, q_nem, q_men, q_mlm, Nat.add_zero, Nat.sub_zero, q_add0, pk_rem, nI_add, pk_mul, q_sub, q_subm, q_addm, nI_clamp, q_inT, q_inF, q_sr1, q_srn, q_srw, q_srs, q_wIs, q_wIn, q_wI2, q_wJ1, q_wJs, q_wJn, q_wR1, q_wRs, q_wRn, q_wI22, q_wJ22, pk_us, pk_un, pk_uLs, pk_uLn, q_usS, q_usN, q_ups, q_upn, Bool.true_eq_false, Bool.false_eq_true, q_lt, q_o2, q_o3, q_o4, q_o5, q_bi, ↓reduceIte, q_tv0, q_tv1, q_bz, q_oRl, q_oRr, q_oXl, q_oXr, hS, bz]
  rfl
theorem r_selF (hS : a 0 = nI S) (h8 : S ≤ 8) {x : Int32} (hx : x < nI 0 ∨ (nI 0 ≤ x ∧ nI S ≤ x)) (e : ρ.1 1 = a) : f_X13_isSeller x ρ = some (nI 0) := by
  subst e
  rcases hx with hx | ⟨h0, hx⟩
  · simp (maxSteps := 2000000) (disch := first | rfl | exact q_e1 _ _ _ | exact q_sr1 _ _ | omega) only [f_X13_isSeller, f_X13_isBetween, ↓q_m1, q_l0, q_l1, q_l2, q_l3, q_l4, q_l5, q_l6, q_l7, q_l8, q_l9, q_l10, q_l11, q_l12, q_l13, q_l14, q_l15, q_l16, q_l17, q_l18, q_l19, q_l20, q_l21, q_l22, q_l23, q_l24, q_l25, q_l26, q_l27, q_l28, q_l29, q_l30, q_l31, q_l32, q_l33, q_l45, q_l46, q_l48, q_l57, q_l58, q_l59, q_l60, q_l61, q_l62, q_l63, q_l64, q_l96, q_l97, q_l99, q_l122, q_l129, q_l137, q_l255, q_l256, q_l400, q_l680, q_l700, q_l959, q_l999, q_l9999, q_l10000, q_l100000, Bool.true_eq_false, Bool.false_eq_true, q_lt, q_o2, q_o3, q_o4, q_o5, q_bi, ↓reduceIte, q_tv0, q_tv1, q_bz, q_oRl, q_oRr, q_oXl, q_oXr, nI_clamp, q_inT, hS, eq_true hx, bz]
    rfl
  · simp (maxSteps := 2000000) (disch := first | rfl | exact q_e1 _ _ _ | exact q_sr1 _ _ | omega) only [f_X13_isSeller, f_X13_isBetween, ↓q_m1, q_l0, q_l1, q_l2, q_l3, q_l4, q_l5, q_l6, q_l7, q_l8, q_l9, q_l10, q_l11, q_l12, q_l13, q_l14, q_l15, q_l16, q_l17, q_l18, q_l19, q_l20, q_l21, q_l22, q_l23, q_l24, q_l25, q_l26, q_l27, q_l28, q_l29, q_l30, q_l31, q_l32, q_l33, q_l45, q_l46, q_l48, q_l57, q_l58, q_l59, q_l60, q_l61, q_l62, q_l63, q_l64, q_l96, q_l97, q_l99, q_l122, q_l129, q_l137, q_l255, q_l256, q_l400, q_l680, q_l700, q_l959, q_l999, q_l9999, q_l10000, q_l100000, Bool.true_eq_false, Bool.false_eq_true, q_lt, q_o2, q_o3, q_o4, q_o5, q_bi, ↓reduceIte, q_tv0, q_tv1, q_bz, q_oRl, q_oRr, q_oXl, q_oXr, nI_clamp, q_inT, hS, q_nlt h0, q_sub1 (show S < 2 ^ 31 by omega) h0 hx, bz]
    rfl
theorem r_stlT (hS : a 1 = nI S) (h8 : S ≤ 8) (e : ρ.1 1 = a) {i : Nat} (hi : i < S) : f_X13_isStall (nI i) ρ = some (nI 1) := by
  subst e
  simp (maxSteps := 2000000) (disch := first | rfl | exact q_e1 _ _ _ | exact q_sr1 _ _ | omega) only [f_X13_isStall, f_X13_isBetween, ↓q_m1, q_l0, q_l1, q_l2, q_l3, q_l4, q_l5, q_l6, q_l7, q_l8, q_l9, q_l10, q_l11, q_l12, q_l13, q_l14, q_l15, q_l16, q_l17, q_l18, q_l19, q_l20, q_l21, q_l22, q_l23, q_l24, q_l25, q_l26, q_l27, q_l28, q_l29, q_l30, q_l31, q_l32, q_l33, q_l45, q_l46, q_l48, q_l57, q_l58, q_l59, q_l60, q_l61, q_l62, q_l63, q_l64, q_l96, q_l97, q_l99, q_l122, q_l129, q_l137, q_l255, q_l256, q_l400, q_l680, q_l700, q_l959, q_l999, q_l9999, q_l10000, q_l100000, q_ltT, q_ltF, q_leT, q_leF, q_eqF, q_eqR, q_mlt, q_mle, q_nlm, q_nLm, q_nem, q_men, q_mlm, Nat.add_zero, Nat.sub_zero, q_add0, pk_rem, nI_add, pk_mul, q_sub, q_subm, q_addm, nI_clamp, q_inT, q_inF, q_sr1, q_srn, q_srw, q_srs, q_wIs, q_wIn, q_wI2, q_wJ1, q_wJs, q_wJn, q_wR1, q_wRs, q_wRn, q_wI22, q_wJ22, pk_us, pk_un, pk_uLs, pk_uLn, q_usS, q_usN, q_ups, q_upn, Bool.true_eq_false, Bool.false_eq_true, q_lt, q_o2, q_o3, q_o4, q_o5, q_bi, ↓reduceIte, q_tv0, q_tv1, q_bz, q_oRl, q_oRr, q_oXl, q_oXr, hS, bz]
  rfl
theorem r_stlF (hS : a 1 = nI S) (h8 : S ≤ 8) {x : Int32} (hx : x < nI 0 ∨ (nI 0 ≤ x ∧ nI S ≤ x)) (e : ρ.1 1 = a) : f_X13_isStall x ρ = some (nI 0) := by
  subst e
  rcases hx with hx | ⟨h0, hx⟩
  · simp (maxSteps := 2000000) (disch := first | rfl | exact q_e1 _ _ _ | exact q_sr1 _ _ | omega) only [f_X13_isStall, f_X13_isBetween, ↓q_m1, q_l0, q_l1, q_l2, q_l3, q_l4, q_l5, q_l6, q_l7, q_l8, q_l9, q_l10, q_l11, q_l12, q_l13, q_l14, q_l15, q_l16, q_l17, q_l18, q_l19, q_l20, q_l21, q_l22, q_l23, q_l24, q_l25, q_l26, q_l27, q_l28, q_l29, q_l30, q_l31, q_l32, q_l33, q_l45, q_l46, q_l48, q_l57, q_l58, q_l59, q_l60, q_l61, q_l62, q_l63, q_l64, q_l96, q_l97, q_l99, q_l122, q_l129, q_l137, q_l255, q_l256, q_l400, q_l680, q_l700, q_l959, q_l999, q_l9999, q_l10000, q_l100000, Bool.true_eq_false, Bool.false_eq_true, q_lt, q_o2, q_o3, q_o4, q_o5, q_bi, ↓reduceIte, q_tv0, q_tv1, q_bz, q_oRl, q_oRr, q_oXl, q_oXr, nI_clamp, q_inT, hS, eq_true hx, bz]
    rfl
  · simp (maxSteps := 2000000) (disch := first | rfl | exact q_e1 _ _ _ | exact q_sr1 _ _ | omega) only [f_X13_isStall, f_X13_isBetween, ↓q_m1, q_l0, q_l1, q_l2, q_l3, q_l4, q_l5, q_l6, q_l7, q_l8, q_l9, q_l10, q_l11, q_l12, q_l13, q_l14, q_l15, q_l16, q_l17, q_l18, q_l19, q_l20, q_l21, q_l22, q_l23, q_l24, q_l25, q_l26, q_l27, q_l28, q_l29, q_l30, q_l31, q_l32, q_l33, q_l45, q_l46, q_l48, q_l57, q_l58, q_l59, q_l60, q_l61, q_l62, q_l63, q_l64, q_l96, q_l97, q_l99, q_l122, q_l129, q_l137, q_l255, q_l256, q_l400, q_l680, q_l700, q_l959, q_l999, q_l9999, q_l10000, q_l100000, Bool.true_eq_false, Bool.false_eq_true, q_lt, q_o2, q_o3, q_o4, q_o5, q_bi, ↓reduceIte, q_tv0, q_tv1, q_bz, q_oRl, q_oRr, q_oXl, q_oXr, nI_clamp, q_inT, hS, q_nlt h0, q_sub1 (show S < 2 ^ 31 by omega) h0 hx, bz]
    rfl
theorem r_wants1 (ρ : OM) : f_X13_wants (nI 1) ρ = some (nI 1, wI ρ 0 12 (nI 0)) := rfl
theorem r_wants0 (ρ : OM) : f_X13_wants (nI 0) ρ = some (nI 0, wI ρ 0 12 (nI 1)) := rfl
end IDX
section REQ
variable {S T : Nat} {σ : SM} {a : Nat → Int32}
theorem s_rqT (h : MR S T (σ 0) a) (h8 : S ≤ 8) {i : Nat} (hi : i < S) : f_X12_requireSeller (nI i) σ = some (.inr ()) := by
  simp (maxSteps := 2000000) (disch := first | rfl | exact q_e1 _ _ _ | exact q_sr1 _ _ | omega) only [f_X12_requireSeller, ↓q_m1, q_l0, q_l1, q_l2, q_l3, q_l4, q_l5, q_l6, q_l7, q_l8, q_l9, q_l10, q_l11, q_l12, q_l13, q_l14, q_l15, q_l16, q_l17, q_l18, q_l19, q_l20, q_l21, q_l22, q_l23, q_l24, q_l25, q_l26, q_l27, q_l28, q_l29, q_l30, q_l31, q_l32, q_l33, q_l45, q_l46, q_l48, q_l57, q_l58, q_l59, q_l60, q_l61, q_l62, q_l63, q_l64, q_l96, q_l97, q_l99, q_l122, q_l129, q_l137, q_l255, q_l256, q_l400, q_l680, q_l700, q_l959, q_l999, q_l9999, q_l10000, q_l100000, q_ltT, q_ltF, q_leT, q_leF, q_eqF, q_eqR, q_mlt, q_mle, q_nlm, q_nLm, q_nem, q_men, q_mlm, Nat.add_zero, Nat.sub_zero, q_add0, pk_rem, nI_add, pk_mul, q_sub, q_subm, q_addm, nI_clamp, q_inT, q_inF, q_sr1, q_srn, q_srw, q_srs, q_wIs, q_wIn, q_wI2, q_wJ1, q_wJs, q_wJn, q_wR1, q_wRs, q_wRn, q_wI22, q_wJ22, pk_us, pk_un, pk_uLs, pk_uLn, q_usS, q_usN, q_ups, q_upn, Bool.true_eq_false, Bool.false_eq_true, q_lt, q_o2, q_o3, q_o4, q_o5, q_bi, ↓reduceIte, q_tv0, q_tv1, q_bz, q_oRl, q_oRr, q_oXl, q_oXr, h.1.1]
theorem s_rqF (h : MR S T (σ 0) a) {x : Int32} (hx : x < nI 0 ∨ (nI 0 ≤ x ∧ nI S ≤ x)) : f_X12_requireSeller x σ = some (.inl 2) := by
  rcases hx with hx | ⟨h0, hx⟩
  · simp (maxSteps := 2000000) (disch := first | rfl | exact q_e1 _ _ _ | exact q_sr1 _ _ | omega) only [f_X12_requireSeller, ↓q_m1, q_l0, q_l1, q_l2, q_l3, q_l4, q_l5, q_l6, q_l7, q_l8, q_l9, q_l10, q_l11, q_l12, q_l13, q_l14, q_l15, q_l16, q_l17, q_l18, q_l19, q_l20, q_l21, q_l22, q_l23, q_l24, q_l25, q_l26, q_l27, q_l28, q_l29, q_l30, q_l31, q_l32, q_l33, q_l45, q_l46, q_l48, q_l57, q_l58, q_l59, q_l60, q_l61, q_l62, q_l63, q_l64, q_l96, q_l97, q_l99, q_l122, q_l129, q_l137, q_l255, q_l256, q_l400, q_l680, q_l700, q_l959, q_l999, q_l9999, q_l10000, q_l100000, Bool.true_eq_false, Bool.false_eq_true, q_lt, q_o2, q_o3, q_o4, q_o5, q_bi, ↓reduceIte, q_tv0, q_tv1, q_bz, q_oRl, q_oRr, q_oXl, q_oXr, eq_true hx]
  · simp (maxSteps := 2000000) (disch := first | rfl | exact q_e1 _ _ _ | exact q_sr1 _ _ | omega) only [f_X12_requireSeller, ↓q_m1, q_l0, q_l1, q_l2, q_l3, q_l4, q_l5, q_l6, q_l7, q_l8, q_l9, q_l10, q_l11, q_l12, q_l13, q_l14, q_l15, q_l16, q_l17, q_l18, q_l19, q_l20, q_l21, q_l22, q_l23, q_l24, q_l25, q_l26, q_l27, q_l28, q_l29, q_l30, q_l31, q_l32, q_l33, q_l45, q_l46, q_l48, q_l57, q_l58, q_l59, q_l60, q_l61, q_l62, q_l63, q_l64, q_l96, q_l97, q_l99, q_l122, q_l129, q_l137, q_l255, q_l256, q_l400, q_l680, q_l700, q_l959, q_l999, q_l9999, q_l10000, q_l100000, Bool.true_eq_false, Bool.false_eq_true, q_lt, q_o2, q_o3, q_o4, q_o5, q_bi, ↓reduceIte, q_tv0, q_tv1, q_bz, q_oRl, q_oRr, q_oXl, q_oXr, q_nlt h0, h.1.1, eq_false (Int32.not_lt.mpr hx)]
theorem s_rqTt (h : MR S T (σ 0) a) (h8 : T ≤ 8) {i : Nat} (hi : i < T) : f_X12_requireStall (nI i) σ = some (.inr ()) := by
  simp (maxSteps := 2000000) (disch := first | rfl | exact q_e1 _ _ _ | exact q_sr1 _ _ | omega) only [f_X12_requireStall, ↓q_m1, q_l0, q_l1, q_l2, q_l3, q_l4, q_l5, q_l6, q_l7, q_l8, q_l9, q_l10, q_l11, q_l12, q_l13, q_l14, q_l15, q_l16, q_l17, q_l18, q_l19, q_l20, q_l21, q_l22, q_l23, q_l24, q_l25, q_l26, q_l27, q_l28, q_l29, q_l30, q_l31, q_l32, q_l33, q_l45, q_l46, q_l48, q_l57, q_l58, q_l59, q_l60, q_l61, q_l62, q_l63, q_l64, q_l96, q_l97, q_l99, q_l122, q_l129, q_l137, q_l255, q_l256, q_l400, q_l680, q_l700, q_l959, q_l999, q_l9999, q_l10000, q_l100000, q_ltT, q_ltF, q_leT, q_leF, q_eqF, q_eqR, q_mlt, q_mle, q_nlm, q_nLm, q_nem, q_men, q_mlm, Nat.add_zero, Nat.sub_zero, q_add0, pk_rem, nI_add, pk_mul, q_sub, q_subm, q_addm, nI_clamp, q_inT, q_inF, q_sr1, q_srn, q_srw, q_srs, q_wIs, q_wIn, q_wI2, q_wJ1, q_wJs, q_wJn, q_wR1, q_wRs, q_wRn, q_wI22, q_wJ22, pk_us, pk_un, pk_uLs, pk_uLn, q_usS, q_usN, q_ups, q_upn, Bool.true_eq_false, Bool.false_eq_true, q_lt, q_o2, q_o3, q_o4, q_o5, q_bi, ↓reduceIte, q_tv0, q_tv1, q_bz, q_oRl, q_oRr, q_oXl, q_oXr, h.1.2.1]
theorem s_rqFt (h : MR S T (σ 0) a) {x : Int32} (hx : x < nI 0 ∨ (nI 0 ≤ x ∧ nI T ≤ x)) : f_X12_requireStall x σ = some (.inl 2) := by
  rcases hx with hx | ⟨h0, hx⟩
  · simp (maxSteps := 2000000) (disch := first | rfl | exact q_e1 _ _ _ | exact q_sr1 _ _ | omega) only [f_X12_requireStall, ↓q_m1, q_l0, q_l1, q_l2, q_l3, q_l4, q_l5, q_l6, q_l7, q_l8, q_l9, q_l10, q_l11, q_l12, q_l13, q_l14, q_l15, q_l16, q_l17, q_l18, q_l19, q_l20, q_l21, q_l22, q_l23, q_l24, q_l25, q_l26, q_l27, q_l28, q_l29, q_l30, q_l31, q_l32, q_l33, q_l45, q_l46, q_l48, q_l57, q_l58, q_l59, q_l60, q_l61, q_l62, q_l63, q_l64, q_l96, q_l97, q_l99, q_l122, q_l129, q_l137, q_l255, q_l256, q_l400, q_l680, q_l700, q_l959, q_l999, q_l9999, q_l10000, q_l100000, Bool.true_eq_false, Bool.false_eq_true, q_lt, q_o2, q_o3, q_o4, q_o5, q_bi, ↓reduceIte, q_tv0, q_tv1, q_bz, q_oRl, q_oRr, q_oXl, q_oXr, eq_true hx]
  · simp (maxSteps := 2000000) (disch := first | rfl | exact q_e1 _ _ _ | exact q_sr1 _ _ | omega) only [f_X12_requireStall, ↓q_m1, q_l0, q_l1, q_l2, q_l3, q_l4, q_l5, q_l6, q_l7, q_l8, q_l9, q_l10, q_l11, q_l12, q_l13, q_l14, q_l15, q_l16, q_l17, q_l18, q_l19, q_l20, q_l21, q_l22, q_l23, q_l24, q_l25, q_l26, q_l27, q_l28, q_l29, q_l30, q_l31, q_l32, q_l33, q_l45, q_l46, q_l48, q_l57, q_l58, q_l59, q_l60, q_l61, q_l62, q_l63, q_l64, q_l96, q_l97, q_l99, q_l122, q_l129, q_l137, q_l255, q_l256, q_l400, q_l680, q_l700, q_l959, q_l999, q_l9999, q_l10000, q_l100000, Bool.true_eq_false, Bool.false_eq_true, q_lt, q_o2, q_o3, q_o4, q_o5, q_bi, ↓reduceIte, q_tv0, q_tv1, q_bz, q_oRl, q_oRr, q_oXl, q_oXr, q_nlt h0, h.1.2.1, eq_false (Int32.not_lt.mpr hx)]
end REQ
theorem WL.li {S T : Nat} {a : Nat → Int32} (w : WL S T a) {i : Nat} (hi : i < S) : LI a i := ⟨by have := w.1.1; omega, (w.2.1 i hi).2, (w.2.1 i hi).1⟩
section FACE
variable {B : Nat} {σ : SM}
theorem P_errorCode (h : Rel B σ) : FN B σ (f_X12_errorCode σ) (f_X13_errorCode (σ 20)) := ⟨_, _, rfl, by rw [h.2.2.2.2.2.1]; rfl, h.q (QE.fld (Or.inl rfl))⟩
theorem P_errorPosition (h : Rel B σ) : FN B σ (f_X12_errorPosition σ) (f_X13_errorPosition (σ 20)) := ⟨_, _, rfl, by rw [h.2.2.2.2.2.2]; rfl, h.q (QE.fld (Or.inl rfl))⟩
theorem P_sellerCount (h : Rel B σ) : FN B σ (f_X12_sellerCount σ) (f_X13_sellerCount (σ 20)) := by
  obtain ⟨S, T, hm, hf⟩ := h.1
  refine ⟨_, _, rfl, ?_, h.q (QE.fld (j := 12) (v := nI 0) (Or.inl rfl))⟩
  simp (maxSteps := 2000000) (disch := first | rfl | exact q_e1 _ _ _ | exact q_sr1 _ _ | omega) only [f_X13_sellerCount, ↓q_m1, q_l0, q_l1, q_l2, q_l3, q_l4, q_l5, q_l6, q_l7, q_l8, q_l9, q_l10, q_l11, q_l12, q_l13, q_l14, q_l15, q_l16, q_l17, q_l18, q_l19, q_l20, q_l21, q_l22, q_l23, q_l24, q_l25, q_l26, q_l27, q_l28, q_l29, q_l30, q_l31, q_l32, q_l33, q_l45, q_l46, q_l48, q_l57, q_l58, q_l59, q_l60, q_l61, q_l62, q_l63, q_l64, q_l96, q_l97, q_l99, q_l122, q_l129, q_l137, q_l255, q_l256, q_l400, q_l680, q_l700, q_l959, q_l999, q_l9999, q_l10000, q_l100000, q_ltT, q_ltF, q_leT, q_leF, q_eqF, q_eqR, q_mlt, q_mle, q_nlm, q_nLm, q_nem, q_men, q_mlm, Nat.add_zero, Nat.sub_zero, q_add0, pk_rem, nI_add, pk_mul, q_sub, q_subm, q_addm, nI_clamp, q_inT, q_inF, q_sr1, q_srn, q_srw, q_srs, q_wIs, q_wIn, q_wI2, q_wJ1, q_wJs, q_wJn, q_wR1, q_wRs, q_wRn, q_wI22, q_wJ22, pk_us, pk_un, pk_uLs, pk_uLn, q_usS, q_usN, q_ups, q_upn, Bool.true_eq_false, Bool.false_eq_true, q_lt, q_o2, q_o3, q_o4, q_o5, q_bi, ↓reduceIte, q_tv0, q_tv1, q_bz, q_oRl, q_oRr, q_oXl, q_oXr, hm.1.1, hm.1.2.2.1]
theorem P_stallCount (h : Rel B σ) : FN B σ (f_X12_stallCount σ) (f_X13_stallCount (σ 20)) := by
  obtain ⟨S, T, hm, hf⟩ := h.1
  refine ⟨_, _, rfl, ?_, h.q (QE.fld (j := 12) (v := nI 0) (Or.inl rfl))⟩
  simp (maxSteps := 2000000) (disch := first | rfl | exact q_e1 _ _ _ | exact q_sr1 _ _ | omega) only [f_X13_stallCount, ↓q_m1, q_l0, q_l1, q_l2, q_l3, q_l4, q_l5, q_l6, q_l7, q_l8, q_l9, q_l10, q_l11, q_l12, q_l13, q_l14, q_l15, q_l16, q_l17, q_l18, q_l19, q_l20, q_l21, q_l22, q_l23, q_l24, q_l25, q_l26, q_l27, q_l28, q_l29, q_l30, q_l31, q_l32, q_l33, q_l45, q_l46, q_l48, q_l57, q_l58, q_l59, q_l60, q_l61, q_l62, q_l63, q_l64, q_l96, q_l97, q_l99, q_l122, q_l129, q_l137, q_l255, q_l256, q_l400, q_l680, q_l700, q_l959, q_l999, q_l9999, q_l10000, q_l100000, q_ltT, q_ltF, q_leT, q_leF, q_eqF, q_eqR, q_mlt, q_mle, q_nlm, q_nLm, q_nem, q_men, q_mlm, Nat.add_zero, Nat.sub_zero, q_add0, pk_rem, nI_add, pk_mul, q_sub, q_subm, q_addm, nI_clamp, q_inT, q_inF, q_sr1, q_srn, q_srw, q_srs, q_wIs, q_wIn, q_wI2, q_wJ1, q_wJs, q_wJn, q_wR1, q_wRs, q_wRn, q_wI22, q_wJ22, pk_us, pk_un, pk_uLs, pk_uLn, q_usS, q_usN, q_ups, q_upn, Bool.true_eq_false, Bool.false_eq_true, q_lt, q_o2, q_o3, q_o4, q_o5, q_bi, ↓reduceIte, q_tv0, q_tv1, q_bz, q_oRl, q_oRr, q_oXl, q_oXr, hm.1.2.1, hm.1.2.2.2]
theorem P_day (h : Rel B σ) : FN B σ (f_X12_day σ) (f_X13_day (σ 20)) := by
  obtain ⟨S, T, hm, hf⟩ := h.1
  refine ⟨_, _, rfl, ?_, h.q (QE.fld (j := 12) (v := nI 0) (Or.inl rfl))⟩
  simp (maxSteps := 2000000) (disch := first | rfl | exact q_e1 _ _ _ | exact q_sr1 _ _ | omega) only [f_X13_day, ↓q_m1, q_l0, q_l1, q_l2, q_l3, q_l4, q_l5, q_l6, q_l7, q_l8, q_l9, q_l10, q_l11, q_l12, q_l13, q_l14, q_l15, q_l16, q_l17, q_l18, q_l19, q_l20, q_l21, q_l22, q_l23, q_l24, q_l25, q_l26, q_l27, q_l28, q_l29, q_l30, q_l31, q_l32, q_l33, q_l45, q_l46, q_l48, q_l57, q_l58, q_l59, q_l60, q_l61, q_l62, q_l63, q_l64, q_l96, q_l97, q_l99, q_l122, q_l129, q_l137, q_l255, q_l256, q_l400, q_l680, q_l700, q_l959, q_l999, q_l9999, q_l10000, q_l100000, q_ltT, q_ltF, q_leT, q_leF, q_eqF, q_eqR, q_mlt, q_mle, q_nlm, q_nLm, q_nem, q_men, q_mlm, Nat.add_zero, Nat.sub_zero, q_add0, pk_rem, nI_add, pk_mul, q_sub, q_subm, q_addm, nI_clamp, q_inT, q_inF, q_sr1, q_srn, q_srw, q_srs, q_wIs, q_wIn, q_wI2, q_wJ1, q_wJs, q_wJn, q_wR1, q_wRs, q_wRn, q_wI22, q_wJ22, pk_us, pk_un, pk_uLs, pk_uLn, q_usS, q_usN, q_ups, q_upn, Bool.true_eq_false, Bool.false_eq_true, q_lt, q_o2, q_o3, q_o4, q_o5, q_bi, ↓reduceIte, q_tv0, q_tv1, q_bz, q_oRl, q_oRr, q_oXl, q_oXr, hm.2.1 2 (by omega) (by omega)]
theorem P_rentPaid (h : Rel B σ) : FN B σ (f_X12_rentPaid σ) (f_X13_rentPaid (σ 20)) := by
  obtain ⟨S, T, hm, hf⟩ := h.1
  refine ⟨_, _, rfl, ?_, h.q (QE.fld (j := 12) (v := nI 0) (Or.inl rfl))⟩
  simp (maxSteps := 2000000) (disch := first | rfl | exact q_e1 _ _ _ | exact q_sr1 _ _ | omega) only [f_X13_rentPaid, ↓q_m1, q_l0, q_l1, q_l2, q_l3, q_l4, q_l5, q_l6, q_l7, q_l8, q_l9, q_l10, q_l11, q_l12, q_l13, q_l14, q_l15, q_l16, q_l17, q_l18, q_l19, q_l20, q_l21, q_l22, q_l23, q_l24, q_l25, q_l26, q_l27, q_l28, q_l29, q_l30, q_l31, q_l32, q_l33, q_l45, q_l46, q_l48, q_l57, q_l58, q_l59, q_l60, q_l61, q_l62, q_l63, q_l64, q_l96, q_l97, q_l99, q_l122, q_l129, q_l137, q_l255, q_l256, q_l400, q_l680, q_l700, q_l959, q_l999, q_l9999, q_l10000, q_l100000, q_ltT, q_ltF, q_leT, q_leF, q_eqF, q_eqR, q_mlt, q_mle, q_nlm, q_nLm, q_nem, q_men, q_mlm, Nat.add_zero, Nat.sub_zero, q_add0, pk_rem, nI_add, pk_mul, q_sub, q_subm, q_addm, nI_clamp, q_inT, q_inF, q_sr1, q_srn, q_srw, q_srs, q_wIs, q_wIn, q_wI2, q_wJ1, q_wJs, q_wJn, q_wR1, q_wRs, q_wRn, q_wI22, q_wJ22, pk_us, pk_un, pk_uLs, pk_uLn, q_usS, q_usN, q_ups, q_upn, Bool.true_eq_false, Bool.false_eq_true, q_lt, q_o2, q_o3, q_o4, q_o5, q_bi, ↓reduceIte, q_tv0, q_tv1, q_bz, q_oRl, q_oRr, q_oXl, q_oXr, hm.2.1 3 (by omega) (by omega)]
theorem P_evictionCount (h : Rel B σ) : FN B σ (f_X12_evictionCount σ) (f_X13_evictionCount (σ 20)) := by
  obtain ⟨S, T, hm, hf⟩ := h.1
  refine ⟨_, _, rfl, ?_, h.q (QE.fld (j := 12) (v := nI 0) (Or.inl rfl))⟩
  simp (maxSteps := 2000000) (disch := first | rfl | exact q_e1 _ _ _ | exact q_sr1 _ _ | omega) only [f_X13_evictionCount, ↓q_m1, q_l0, q_l1, q_l2, q_l3, q_l4, q_l5, q_l6, q_l7, q_l8, q_l9, q_l10, q_l11, q_l12, q_l13, q_l14, q_l15, q_l16, q_l17, q_l18, q_l19, q_l20, q_l21, q_l22, q_l23, q_l24, q_l25, q_l26, q_l27, q_l28, q_l29, q_l30, q_l31, q_l32, q_l33, q_l45, q_l46, q_l48, q_l57, q_l58, q_l59, q_l60, q_l61, q_l62, q_l63, q_l64, q_l96, q_l97, q_l99, q_l122, q_l129, q_l137, q_l255, q_l256, q_l400, q_l680, q_l700, q_l959, q_l999, q_l9999, q_l10000, q_l100000, q_ltT, q_ltF, q_leT, q_leF, q_eqF, q_eqR, q_mlt, q_mle, q_nlm, q_nLm, q_nem, q_men, q_mlm, Nat.add_zero, Nat.sub_zero, q_add0, pk_rem, nI_add, pk_mul, q_sub, q_subm, q_addm, nI_clamp, q_inT, q_inF, q_sr1, q_srn, q_srw, q_srs, q_wIs, q_wIn, q_wI2, q_wJ1, q_wJs, q_wJn, q_wR1, q_wRs, q_wRn, q_wI22, q_wJ22, pk_us, pk_un, pk_uLs, pk_uLn, q_usS, q_usN, q_ups, q_upn, Bool.true_eq_false, Bool.false_eq_true, q_lt, q_o2, q_o3, q_o4, q_o5, q_bi, ↓reduceIte, q_tv0, q_tv1, q_bz, q_oRl, q_oRr, q_oXl, q_oXr, hm.2.1 4 (by omega) (by omega)]
theorem P_swapCount (h : Rel B σ) : FN B σ (f_X12_swapCount σ) (f_X13_swapCount (σ 20)) := by
  obtain ⟨S, T, hm, hf⟩ := h.1
  refine ⟨_, _, rfl, ?_, h.q (QE.fld (j := 12) (v := nI 0) (Or.inl rfl))⟩
  simp (maxSteps := 2000000) (disch := first | rfl | exact q_e1 _ _ _ | exact q_sr1 _ _ | omega) only [f_X13_swapCount, ↓q_m1, q_l0, q_l1, q_l2, q_l3, q_l4, q_l5, q_l6, q_l7, q_l8, q_l9, q_l10, q_l11, q_l12, q_l13, q_l14, q_l15, q_l16, q_l17, q_l18, q_l19, q_l20, q_l21, q_l22, q_l23, q_l24, q_l25, q_l26, q_l27, q_l28, q_l29, q_l30, q_l31, q_l32, q_l33, q_l45, q_l46, q_l48, q_l57, q_l58, q_l59, q_l60, q_l61, q_l62, q_l63, q_l64, q_l96, q_l97, q_l99, q_l122, q_l129, q_l137, q_l255, q_l256, q_l400, q_l680, q_l700, q_l959, q_l999, q_l9999, q_l10000, q_l100000, q_ltT, q_ltF, q_leT, q_leF, q_eqF, q_eqR, q_mlt, q_mle, q_nlm, q_nLm, q_nem, q_men, q_mlm, Nat.add_zero, Nat.sub_zero, q_add0, pk_rem, nI_add, pk_mul, q_sub, q_subm, q_addm, nI_clamp, q_inT, q_inF, q_sr1, q_srn, q_srw, q_srs, q_wIs, q_wIn, q_wI2, q_wJ1, q_wJs, q_wJn, q_wR1, q_wRs, q_wRn, q_wI22, q_wJ22, pk_us, pk_un, pk_uLs, pk_uLn, q_usS, q_usN, q_ups, q_upn, Bool.true_eq_false, Bool.false_eq_true, q_lt, q_o2, q_o3, q_o4, q_o5, q_bi, ↓reduceIte, q_tv0, q_tv1, q_bz, q_oRl, q_oRr, q_oXl, q_oXr, hm.2.1 5 (by omega) (by omega)]
theorem P_relocationCount (h : Rel B σ) : FN B σ (f_X12_relocationCount σ) (f_X13_relocationCount (σ 20)) := by
  obtain ⟨S, T, hm, hf⟩ := h.1
  refine ⟨_, _, rfl, ?_, h.q (QE.fld (j := 12) (v := nI 0) (Or.inl rfl))⟩
  simp (maxSteps := 2000000) (disch := first | rfl | exact q_e1 _ _ _ | exact q_sr1 _ _ | omega) only [f_X13_relocationCount, ↓q_m1, q_l0, q_l1, q_l2, q_l3, q_l4, q_l5, q_l6, q_l7, q_l8, q_l9, q_l10, q_l11, q_l12, q_l13, q_l14, q_l15, q_l16, q_l17, q_l18, q_l19, q_l20, q_l21, q_l22, q_l23, q_l24, q_l25, q_l26, q_l27, q_l28, q_l29, q_l30, q_l31, q_l32, q_l33, q_l45, q_l46, q_l48, q_l57, q_l58, q_l59, q_l60, q_l61, q_l62, q_l63, q_l64, q_l96, q_l97, q_l99, q_l122, q_l129, q_l137, q_l255, q_l256, q_l400, q_l680, q_l700, q_l959, q_l999, q_l9999, q_l10000, q_l100000, q_ltT, q_ltF, q_leT, q_leF, q_eqF, q_eqR, q_mlt, q_mle, q_nlm, q_nLm, q_nem, q_men, q_mlm, Nat.add_zero, Nat.sub_zero, q_add0, pk_rem, nI_add, pk_mul, q_sub, q_subm, q_addm, nI_clamp, q_inT, q_inF, q_sr1, q_srn, q_srw, q_srs, q_wIs, q_wIn, q_wI2, q_wJ1, q_wJs, q_wJn, q_wR1, q_wRs, q_wRn, q_wI22, q_wJ22, pk_us, pk_un, pk_uLs, pk_uLn, q_usS, q_usN, q_ups, q_upn, Bool.true_eq_false, Bool.false_eq_true, q_lt, q_o2, q_o3, q_o4, q_o5, q_bi, ↓reduceIte, q_tv0, q_tv1, q_bz, q_oRl, q_oRr, q_oXl, q_oXr, hm.2.1 6 (by omega) (by omega)]
theorem P_undoCount (h : Rel B σ) : FN B σ (f_X12_undoCount σ) (f_X13_undoCount (σ 20)) := by
  obtain ⟨q, k, h1, h2, h3, h4, h5, -⟩ := h.2.2.1
  refine ⟨_, _, rfl, ?_, h.q (QE.fld (j := 12) (v := nI 0) (Or.inl rfl))⟩
  simp (maxSteps := 2000000) (disch := first | rfl | exact q_e1 _ _ _ | exact q_sr1 _ _ | omega) only [f_X13_undoCount, ↓q_m1, q_l0, q_l1, q_l2, q_l3, q_l4, q_l5, q_l6, q_l7, q_l8, q_l9, q_l10, q_l11, q_l12, q_l13, q_l14, q_l15, q_l16, q_l17, q_l18, q_l19, q_l20, q_l21, q_l22, q_l23, q_l24, q_l25, q_l26, q_l27, q_l28, q_l29, q_l30, q_l31, q_l32, q_l33, q_l45, q_l46, q_l48, q_l57, q_l58, q_l59, q_l60, q_l61, q_l62, q_l63, q_l64, q_l96, q_l97, q_l99, q_l122, q_l129, q_l137, q_l255, q_l256, q_l400, q_l680, q_l700, q_l959, q_l999, q_l9999, q_l10000, q_l100000, q_ltT, q_ltF, q_leT, q_leF, q_eqF, q_eqR, q_mlt, q_mle, q_nlm, q_nLm, q_nem, q_men, q_mlm, Nat.add_zero, Nat.sub_zero, q_add0, pk_rem, nI_add, pk_mul, q_sub, q_subm, q_addm, nI_clamp, q_inT, q_inF, q_sr1, q_srn, q_srw, q_srs, q_wIs, q_wIn, q_wI2, q_wJ1, q_wJs, q_wJn, q_wR1, q_wRs, q_wRn, q_wI22, q_wJ22, pk_us, pk_un, pk_uLs, pk_uLn, q_usS, q_usN, q_ups, q_upn, Bool.true_eq_false, Bool.false_eq_true, q_lt, q_o2, q_o3, q_o4, q_o5, q_bi, ↓reduceIte, q_tv0, q_tv1, q_bz, q_oRl, q_oRr, q_oXl, q_oXr, h4, h5]
/-- the throw for an index -/
theorem fx_t {L : List Nat} {k : Nat} {f : Option (Nat ⊕ Int32)} {g : Option (Int32 × OM)} (h : Rel B σ) (j : Nat) (hL : L[j]? = some k) (h1 : f = some (.inl k)) (r : Int32) (h2 : g = some (r, wI (σ 20) 0 12 (nI (j + 1)))) : FX B σ L f g :=
  ⟨_, _, _, h1, h2, h.q (QE.fld (Or.inl rfl)), Or.inl ⟨j, k, hL, rfl, by simp (maxSteps := 2000000) (disch := first | rfl | exact q_e1 _ _ _ | exact q_sr1 _ _ | omega) only [q_sr1, q_srn, q_srw, q_srs, q_wIs, q_wIn, q_wI2, q_wJ1, q_wJs, q_wJn, q_wR1, q_wRs, q_wRn, q_wI22, q_wJ22, pk_us, pk_un, pk_uLs, pk_uLn, q_usS, q_usN, q_ups, q_upn]⟩⟩
theorem fx_r {L : List Nat} {f : Option (Nat ⊕ Int32)} {g : Option (Int32 × OM)} {r : Int32} (h : Rel B σ) (h1 : f = some (.inr r)) (h2 : g = some (r, wI (σ 20) 0 12 (nI 0))) : FX B σ L f g :=
  ⟨_, _, _, h1, h2, h.q (QE.fld (Or.inl rfl)), Or.inr ⟨rfl, by simp (maxSteps := 2000000) (disch := first | rfl | exact q_e1 _ _ _ | exact q_sr1 _ _ | omega) only [q_sr1, q_srn, q_srw, q_srs, q_wIs, q_wIn, q_wI2, q_wJ1, q_wJs, q_wJn, q_wR1, q_wRs, q_wRn, q_wI22, q_wJ22, pk_us, pk_un, pk_uLs, pk_uLn, q_usS, q_usN, q_ups, q_upn]⟩⟩
end FACE

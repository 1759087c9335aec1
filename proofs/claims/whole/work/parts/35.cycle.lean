/-! ways of wants -/
def Rn (S : Nat) (a : Nat → Int32) (s : Nat) : Nat → Nat → Bool
  | 0, j => decide (j = s)
  | n + 1, j => !decide (fd S (fun i => Rn S a s n i && lng a i j) = m1)
section CYC
variable {S T : Nat} {a : Nat → Int32}
theorem Rn_s (h8 : S ≤ 8) {s n j : Nat} : Rn S a s (n + 1) j = true ↔ ∃ i, i < S ∧ Rn S a s n i = true ∧ lng a i j = true := by
  rw [Rn, fd_b (by omega)]
  constructor
  · rintro ⟨k, hk, hp⟩
    rw [Bool.and_eq_true] at hp
    exact ⟨k, hk, hp.1, hp.2⟩
  · rintro ⟨k, hk, h1, h2⟩
    exact ⟨k, hk, by rw [h1, h2]; rfl⟩
theorem Rn_0 {s j : Nat} : Rn S a s 0 j = true ↔ j = s := by rw [Rn]; exact decide_eq_true_iff
theorem Rn_cat (h8 : S ≤ 8) {s x n : Nat} (h : Rn S a s n x = true) : ∀ (m j : Nat), Rn S a x m j = true → Rn S a s (n + m) j = true
  | 0, j, g => by rw [Rn_0] at g; subst g; exact h
  | m + 1, j, g => by
    obtain ⟨i, h1, h2, h3⟩ := (Rn_s h8).mp g
    exact (Rn_s h8).mpr ⟨i, h1, Rn_cat h8 h m i h2, h3⟩
theorem Rn_cut (h8 : S ≤ 8) {s n : Nat} : ∀ (m j : Nat), j < S → Rn S a s (n + m) j = true → ∃ x, x < S ∧ Rn S a s n x = true ∧ Rn S a x m j = true
  | 0, j, hj, g => ⟨j, hj, g, Rn_0.mpr rfl⟩
  | m + 1, j, hj, g => by
    obtain ⟨i, h1, h2, h3⟩ := (Rn_s h8).mp g
    obtain ⟨x, g1, g2, g3⟩ := Rn_cut h8 m i h1 h2
    exact ⟨x, g1, g2, (Rn_s h8).mpr ⟨i, h1, g3, h3⟩⟩
/-- reached by a way of less than n steps -/
def Un (S : Nat) (a : Nat → Int32) (s : Nat) : Nat → Nat → Bool
  | 0, _ => false
  | n + 1, j => Un S a s n j || Rn S a s n j
theorem Un_iff {s : Nat} : ∀ {n j : Nat}, Un S a s n j = true ↔ ∃ d, d < n ∧ Rn S a s d j = true
  | 0, j => ⟨fun h => (by cases h), fun ⟨d, h, _⟩ => by omega⟩
  | n + 1, j => by
    rw [Un, Bool.or_eq_true, Un_iff]
    constructor
    · rintro (⟨d, h1, h2⟩ | h)
      · exact ⟨d, by omega, h2⟩
      · exact ⟨n, by omega, h⟩
    · rintro ⟨d, h1, h2⟩
      by_cases e : d = n
      · subst e; exact Or.inr h2
      · exact Or.inl ⟨d, by omega, h2⟩
theorem cnt_mono {P Q : Nat → Bool} : ∀ {n : Nat}, (∀ k, k < n → P k = true → Q k = true) → cnt P n ≤ cnt Q n
  | 0, _ => Nat.le_refl _
  | n + 1, h => by
    have ih := cnt_mono (P := P) (Q := Q) (n := n) (fun k hk => h k (by omega))
    rw [cnt, cnt]
    by_cases e : P n = true
    · rw [if_pos e, if_pos (h n (by omega) e)]; omega
    · rw [if_neg e]; omega
theorem cnt_more {P Q : Nat → Bool} {x : Nat} : ∀ {n : Nat}, (∀ k, k < n → P k = true → Q k = true) → x < n → P x = false → Q x = true → cnt P n + 1 ≤ cnt Q n
  | 0, _, h, _, _ => by omega
  | n + 1, h, hx, hp, hq => by
    rw [cnt, cnt]
    by_cases e : x = n
    · subst e
      have ih := cnt_mono (P := P) (Q := Q) (n := x) (fun k hk => h k (by omega))
      rw [hp, if_pos hq]
      simp
      omega
    · have ih := cnt_more (P := P) (Q := Q) (n := n) (fun k hk => h k (by omega)) (by omega) hp hq
      by_cases e : P n = true
      · rw [if_pos e, if_pos (h n (by omega) e)]; omega
      · rw [if_neg e]; omega
/-- a shortest way back has no more steps than there are sellers -/
theorem cyc_le (h8 : S ≤ 8) {s : Nat} (hs : s < S) (hno : ∀ L, 1 ≤ L → L ≤ S → Rn S a s L s = false) : ∀ L, 1 ≤ L → Rn S a s L s = false := by
  intro L
  induction L using Nat.strongRecOn with
  | ind L ih =>
    intro h1
    cases hR : Rn S a s L s with
    | false => rfl
    | true =>
      exfalso
      have hL : S < L := Nat.lt_of_not_le (fun hh => by rw [hno L h1 hh] at hR; cases hR)
      have hc : ∀ n, n ≤ L → n ≤ cnt (Un S a s n) S := by
        intro n
        induction n with
        | zero => exact fun _ => Nat.zero_le _
        | succ n ihn =>
          intro hn
          obtain ⟨x, g1, g2, g3⟩ := Rn_cut (n := n) h8 (L - n) s hs (by rw [show n + (L - n) = L by omega]; exact hR)
          have hx : Un S a s n x = false := by
            cases hu : Un S a s n x with
            | false => rfl
            | true =>
              exfalso
              obtain ⟨d, d1, d2⟩ := Un_iff.mp hu
              have := Rn_cat h8 d2 (L - n) s g3
              rw [ih (d + (L - n)) (by omega) (by omega)] at this
              cases this
          have := cnt_more (P := Un S a s n) (Q := Un S a s (n + 1)) (x := x) (n := S) (fun k _ hk => by rw [Un, hk]; rfl) g1 hx (by rw [Un, g2, Bool.or_true])
          have := ihn (by omega)
          omega
      have := hc L (Nat.le_refl _)
      have := cnt_le (Un S a s L) S
      omega
theorem fvr_at {P : Nat → Bool} {v : Nat → Int32} {k : Nat} : ∀ {r i : Nat}, i ≤ k → k < i + r → P k = true → (∀ j, i ≤ j → j < k → P j = false) → fvr P v r i = v k
  | 0, i, h1, h2, _, _ => by omega
  | r + 1, i, h1, h2, hk, hj => by
    rw [fvr]
    by_cases e : i = k
    · subst e; rw [if_pos hk]
    · rw [hj i (Nat.le_refl _) (by omega)]
      exact fvr_at (by omega) (by omega) hk (fun j h3 h4 => hj j (by omega) h4)
/-- the shortest way back -/
def cyc (S : Nat) (a : Nat → Int32) (s : Nat) : Int32 := fvr (fun k => Rn S a s (k + 1) s) (fun k => nI (k + 1)) 8 0
theorem cyc_S (h8 : S ≤ 8) {s : Nat} (hs : s < S) : fvr (fun k => Rn S a s (k + 1) s) (fun k => nI (k + 1)) S 0 = cyc S a s := by
  rw [cyc]
  rcases fd_cases S (fun k => Rn S a s (k + 1) s) with ⟨k, h1, h2, h3, _⟩ | ⟨h1, _⟩
  · rw [fvr_at (P := fun k => Rn S a s (k + 1) s) (k := k) (r := S) (Nat.zero_le _) (by omega) h2 (fun j _ hj => h3 j hj), fvr_at (P := fun k => Rn S a s (k + 1) s) (k := k) (r := 8) (Nat.zero_le _) (by omega) h2 (fun j _ hj => h3 j hj)]
  · have hz := cyc_le h8 hs (fun L g1 g2 => by
      have := h1 (L - 1) (by omega)
      rw [show L - 1 + 1 = L by omega] at this
      exact this)
    rw [fvr_none (fun k _ hk => h1 k (by omega)), fvr_none (fun k _ _ => hz (k + 1) (by omega))]
/-! the class: sets of sellers as bits -/
def BS (m : Nat) (P : Nat → Bool) : Prop := m < 256 ∧ ∀ j, j < 8 → m.testBit j = P j
theorem b_and : ∀ m, m < 256 → ∀ i, i < 8 → (nI m &&& (nI 1 <<< (nI i &&& nI 31)) = nI 0 ↔ m.testBit i = false) := by decide +kernel
theorem b_or : ∀ m, m < 256 → ∀ i, i < 8 → nI m ||| (nI 1 <<< (nI i &&& nI 31)) = nI (m ||| 2 ^ i) := by decide +kernel
theorem b_one : ∀ i, i < 8 → nI 1 <<< (nI i &&& nI 31) = nI (2 ^ i) := by decide +kernel
theorem BS.or {m i : Nat} {P : Nat → Bool} (h : BS m P) (hi : i < 8) : BS (m ||| 2 ^ i) (fun j => P j || decide (i = j)) := by
  refine ⟨Nat.or_lt_two_pow (n := 8) h.1 (Nat.pow_lt_pow_right (by omega) hi), fun j hj => ?_⟩
  rw [Nat.testBit_or, h.2 j hj, Nat.testBit_two_pow]
theorem BS.one {i : Nat} (hi : i < 8) : BS (2 ^ i) (fun j => decide (i = j)) := ⟨(by have := Nat.pow_lt_pow_right (a := 2) (by omega) hi; exact this), fun j _ => Nat.testBit_two_pow⟩
theorem BS.congr {m : Nat} {P Q : Nat → Bool} (h : BS m P) (e : ∀ j, j < 8 → P j = Q j) : BS m Q := ⟨h.1, fun j hj => (h.2 j hj).trans (e j hj)⟩
variable {μ : OM}
theorem s_wba (h : MR S T μ a) (w : WL S T a) {m : Nat} {P : Nat → Bool} (hm : BS m P) : ∃ m', f_X3_wantedByAny (nI m) μ = some (nI m') ∧ BS m' (fun j => decide (j < S) && !decide (fd S (fun i => P i && lng a i j) = m1)) := by
  have h8 := w.1.1
  have hin : ∀ i, i < S → ∀ (m0 : Nat) (P0 : Nat → Bool), BS m0 P0 → ∃ m', f_X3_wantedByAny_15 (nI m) (nI i) μ FU (nI 0) (nI m0) = some (nI m') ∧ BS m' (fun j => P0 j || (decide (j < S) && (P i && lng a i j))) := by
    intro i hi m0 P0 h0
    obtain ⟨b, g1, m', rfl, g2⟩ := lp_inv (F := f_X3_wantedByAny_15 (nI m) (nI i) μ) (i0 := 0) (fun (k : Nat) (s : Int32) => ∃ m', s = nI m' ∧ BS m' (fun j => P0 j || (decide (j < k) && (P i && lng a i j)))) (fun s => ∃ m', s = nI m' ∧ BS m' (fun j => P0 j || (decide (j < S) && (P i && lng a i j)))) S (fun n k s hk hh => by
      obtain ⟨m1', rfl, g⟩ := hh
      have hb := b_and m hm.1 i (by omega)
      rw [hm.2 i (by omega)] at hb
      cases hp : P i with
      | false =>
        have hb : (nI m &&& (nI 1 <<< (nI i &&& nI 31)) = nI 0) = True := eq_true (hb.mpr hp)
        exact ⟨nI m1', ⟨m1', rfl, g.congr (fun j _ => by simp [hp])⟩, by simp (maxSteps := 2000000) (disch := first | rfl | exact q_e1 _ _ _ | exact q_sr1 _ _ | omega) only [f_X3_wantedByAny_15, ↓q_m1, q_l0, q_l1, q_l2, q_l3, q_l4, q_l5, q_l6, q_l7, q_l8, q_l9, q_l10, q_l11, q_l12, q_l13, q_l14, q_l15, q_l16, q_l17, q_l18, q_l19, q_l20, q_l21, q_l22, q_l23, q_l24, q_l25, q_l26, q_l27, q_l28, q_l29, q_l30, q_l31, q_l32, q_l33, q_l45, q_l46, q_l48, q_l57, q_l58, q_l59, q_l60, q_l61, q_l62, q_l63, q_l64, q_l96, q_l97, q_l99, q_l122, q_l129, q_l137, q_l255, q_l256, q_l400, q_l680, q_l700, q_l959, q_l999, q_l9999, q_l10000, q_l100000, q_ltT, q_ltF, q_leT, q_leF, q_eqF, q_eqR, q_mlt, q_mle, q_nlm, q_nLm, q_nem, q_men, q_mlm, Bool.true_eq_false, Bool.false_eq_true, q_lt, q_o2, q_o3, q_o4, q_o5, q_bi, ↓reduceIte, q_tv0, q_tv1, q_bz, q_oRl, q_oRr, q_oXl, q_oXr, nI_add, h.1.1, hb]⟩
      | true =>
        have hb : (nI m &&& (nI 1 <<< (nI i &&& nI 31)) = nI 0) = False := eq_false (fun e => by rw [hb.mp e] at hp; cases hp)
        cases hl : lng a i k with
        | false =>
          refine ⟨nI m1', ⟨m1', rfl, g.congr (fun j _ => ?_)⟩, by simp (maxSteps := 2000000) (disch := first | rfl | exact q_e1 _ _ _ | exact q_sr1 _ _ | omega) only [f_X3_wantedByAny_15, ↓q_m1, q_l0, q_l1, q_l2, q_l3, q_l4, q_l5, q_l6, q_l7, q_l8, q_l9, q_l10, q_l11, q_l12, q_l13, q_l14, q_l15, q_l16, q_l17, q_l18, q_l19, q_l20, q_l21, q_l22, q_l23, q_l24, q_l25, q_l26, q_l27, q_l28, q_l29, q_l30, q_l31, q_l32, q_l33, q_l45, q_l46, q_l48, q_l57, q_l58, q_l59, q_l60, q_l61, q_l62, q_l63, q_l64, q_l96, q_l97, q_l99, q_l122, q_l129, q_l137, q_l255, q_l256, q_l400, q_l680, q_l700, q_l959, q_l999, q_l9999, q_l10000, q_l100000, q_ltT, q_ltF, q_leT, q_leF, q_eqF, q_eqR, q_mlt, q_mle, q_nlm, q_nLm, q_nem, q_men, q_mlm, Bool.true_eq_false, Bool.false_eq_true, q_lt, q_o2, q_o3, q_o4, q_o5, q_bi, ↓reduceIte, q_tv0, q_tv1, q_bz, q_oRl, q_oRr, q_oXl, q_oXr, nI_add, h.1.1, hb, s_wants h w hi hk, hl]⟩
          simp only [hp, Bool.true_and]
          by_cases e : j = k
          · subst e; rw [hl]; simp
          · rw [show decide (j < k + 1) = decide (j < k) from decide_eq_decide.mpr (by omega)]
        | true =>
          refine ⟨nI (m1' ||| 2 ^ k), ⟨_, rfl, (g.or (show k < 8 by omega)).congr (fun j _ => ?_)⟩, by simp (maxSteps := 2000000) (disch := first | rfl | exact q_e1 _ _ _ | exact q_sr1 _ _ | omega) only [f_X3_wantedByAny_15, ↓q_m1, q_l0, q_l1, q_l2, q_l3, q_l4, q_l5, q_l6, q_l7, q_l8, q_l9, q_l10, q_l11, q_l12, q_l13, q_l14, q_l15, q_l16, q_l17, q_l18, q_l19, q_l20, q_l21, q_l22, q_l23, q_l24, q_l25, q_l26, q_l27, q_l28, q_l29, q_l30, q_l31, q_l32, q_l33, q_l45, q_l46, q_l48, q_l57, q_l58, q_l59, q_l60, q_l61, q_l62, q_l63, q_l64, q_l96, q_l97, q_l99, q_l122, q_l129, q_l137, q_l255, q_l256, q_l400, q_l680, q_l700, q_l959, q_l999, q_l9999, q_l10000, q_l100000, q_ltT, q_ltF, q_leT, q_leF, q_eqF, q_eqR, q_mlt, q_mle, q_nlm, q_nLm, q_nem, q_men, q_mlm, Bool.true_eq_false, Bool.false_eq_true, q_lt, q_o2, q_o3, q_o4, q_o5, q_bi, ↓reduceIte, q_tv0, q_tv1, q_bz, q_oRl, q_oRr, q_oXl, q_oXr, nI_add, h.1.1, hb, s_wants h w hi hk, hl, b_or m1' g.1 k]⟩
          simp only [hp, Bool.true_and]
          by_cases e : j = k
          · subst e; rw [hl]; simp
          · rw [show decide (j < k + 1) = decide (j < k) from decide_eq_decide.mpr (by omega), decide_eq_false (show ¬ k = j by omega), Bool.or_false]) (fun n s hh => by
      obtain ⟨m1', rfl, g⟩ := hh
      exact ⟨nI m1', by simp (maxSteps := 2000000) (disch := first | rfl | exact q_e1 _ _ _ | exact q_sr1 _ _ | omega) only [f_X3_wantedByAny_15, ↓q_m1, q_l0, q_l1, q_l2, q_l3, q_l4, q_l5, q_l6, q_l7, q_l8, q_l9, q_l10, q_l11, q_l12, q_l13, q_l14, q_l15, q_l16, q_l17, q_l18, q_l19, q_l20, q_l21, q_l22, q_l23, q_l24, q_l25, q_l26, q_l27, q_l28, q_l29, q_l30, q_l31, q_l32, q_l33, q_l45, q_l46, q_l48, q_l57, q_l58, q_l59, q_l60, q_l61, q_l62, q_l63, q_l64, q_l96, q_l97, q_l99, q_l122, q_l129, q_l137, q_l255, q_l256, q_l400, q_l680, q_l700, q_l959, q_l999, q_l9999, q_l10000, q_l100000, q_ltT, q_ltF, q_leT, q_leF, q_eqF, q_eqR, q_mlt, q_mle, q_nlm, q_nLm, q_nem, q_men, q_mlm, Bool.true_eq_false, Bool.false_eq_true, q_lt, q_o2, q_o3, q_o4, q_o5, q_bi, ↓reduceIte, q_tv0, q_tv1, q_bz, q_oRl, q_oRr, q_oXl, q_oXr, h.1.1], m1', rfl, g⟩) (fu_lt (show S < 2000 by omega)) (s := nI m0) ⟨m0, rfl, h0.congr (fun j _ => by simp)⟩
    exact ⟨m', g1, g2⟩
  unfold f_X3_wantedByAny
  rw [q_l0]
  obtain ⟨b, g1, m', rfl, g2⟩ := lp_inv (F := f_X3_wantedByAny_4 (nI m) μ) (i0 := 0) (fun (k : Nat) (s : Int32) => ∃ m', s = nI m' ∧ BS m' (fun j => decide (j < S) && !decide (fd k (fun i => P i && lng a i j) = m1))) (fun s => ∃ m', s = nI m' ∧ BS m' (fun j => decide (j < S) && !decide (fd S (fun i => P i && lng a i j) = m1))) S (fun n k s hk hh => by
      obtain ⟨m1', rfl, g⟩ := hh
      obtain ⟨m2, f1, f2⟩ := hin k hk m1' _ g
      refine ⟨nI m2, ⟨m2, rfl, f2.congr (fun j _ => ?_)⟩, by simp (maxSteps := 2000000) (disch := first | rfl | exact q_e1 _ _ _ | exact q_sr1 _ _ | omega) only [f_X3_wantedByAny_4, ↓q_m1, q_l0, q_l1, q_l2, q_l3, q_l4, q_l5, q_l6, q_l7, q_l8, q_l9, q_l10, q_l11, q_l12, q_l13, q_l14, q_l15, q_l16, q_l17, q_l18, q_l19, q_l20, q_l21, q_l22, q_l23, q_l24, q_l25, q_l26, q_l27, q_l28, q_l29, q_l30, q_l31, q_l32, q_l33, q_l45, q_l46, q_l48, q_l57, q_l58, q_l59, q_l60, q_l61, q_l62, q_l63, q_l64, q_l96, q_l97, q_l99, q_l122, q_l129, q_l137, q_l255, q_l256, q_l400, q_l680, q_l700, q_l959, q_l999, q_l9999, q_l10000, q_l100000, q_ltT, q_ltF, q_leT, q_leF, q_eqF, q_eqR, q_mlt, q_mle, q_nlm, q_nLm, q_nem, q_men, q_mlm, Bool.true_eq_false, Bool.false_eq_true, q_lt, q_o2, q_o3, q_o4, q_o5, q_bi, ↓reduceIte, q_tv0, q_tv1, q_bz, q_oRl, q_oRr, q_oXl, q_oXr, nI_add, h.1.1, f1]⟩
      rw [← Bool.and_or_distrib_left]
      refine congrArg _ (Bool.eq_iff_iff.mpr ?_)
      rw [Bool.or_eq_true, fd_b (by omega), fd_b (by omega)]
      constructor
      · rintro (⟨x, hx, hp⟩ | hp)
        · exact ⟨x, by omega, hp⟩
        · exact ⟨k, by omega, hp⟩
      · rintro ⟨x, hx, hp⟩
        by_cases e : x = k
        · subst e; exact Or.inr hp
        · exact Or.inl ⟨x, by omega, hp⟩) (fun n s hh => by
      obtain ⟨m1', rfl, g⟩ := hh
      exact ⟨nI m1', by simp (maxSteps := 2000000) (disch := first | rfl | exact q_e1 _ _ _ | exact q_sr1 _ _ | omega) only [f_X3_wantedByAny_4, ↓q_m1, q_l0, q_l1, q_l2, q_l3, q_l4, q_l5, q_l6, q_l7, q_l8, q_l9, q_l10, q_l11, q_l12, q_l13, q_l14, q_l15, q_l16, q_l17, q_l18, q_l19, q_l20, q_l21, q_l22, q_l23, q_l24, q_l25, q_l26, q_l27, q_l28, q_l29, q_l30, q_l31, q_l32, q_l33, q_l45, q_l46, q_l48, q_l57, q_l58, q_l59, q_l60, q_l61, q_l62, q_l63, q_l64, q_l96, q_l97, q_l99, q_l122, q_l129, q_l137, q_l255, q_l256, q_l400, q_l680, q_l700, q_l959, q_l999, q_l9999, q_l10000, q_l100000, q_ltT, q_ltF, q_leT, q_leF, q_eqF, q_eqR, q_mlt, q_mle, q_nlm, q_nLm, q_nem, q_men, q_mlm, Bool.true_eq_false, Bool.false_eq_true, q_lt, q_o2, q_o3, q_o4, q_o5, q_bi, ↓reduceIte, q_tv0, q_tv1, q_bz, q_oRl, q_oRr, q_oXl, q_oXr, h.1.1], m1', rfl, g⟩) (fu_lt (show S < 2000 by omega)) (s := nI 0) ⟨0, rfl, by omega, fun j _ => by
        show Nat.testBit 0 j = (decide (j < S) && !decide (fd 0 (fun i => P i && lng a i j) = m1))
        rw [show fd 0 (fun i => P i && lng a i j) = m1 from rfl]; simp⟩
  exact ⟨m', g1, g2⟩
theorem s_cyc (h : MR S T μ a) (w : WL S T a) {s : Nat} (hs : s < S) : f_X3_shortestCycle (nI s) μ = some (if a (25 + 13 * s + 3) = m1 then m1 else cyc S a s) := by
  have h8 := w.1.1
  simp (maxSteps := 2000000) (disch := first | rfl | exact q_e1 _ _ _ | exact q_sr1 _ _ | omega) only [f_X3_shortestCycle, s_heldBy h h8 hs, ↓q_m1, q_l0, q_l1, q_l2, q_l3, q_l4, q_l5, q_l6, q_l7, q_l8, q_l9, q_l10, q_l11, q_l12, q_l13, q_l14, q_l15, q_l16, q_l17, q_l18, q_l19, q_l20, q_l21, q_l22, q_l23, q_l24, q_l25, q_l26, q_l27, q_l28, q_l29, q_l30, q_l31, q_l32, q_l33, q_l45, q_l46, q_l48, q_l57, q_l58, q_l59, q_l60, q_l61, q_l62, q_l63, q_l64, q_l96, q_l97, q_l99, q_l122, q_l129, q_l137, q_l255, q_l256, q_l400, q_l680, q_l700, q_l959, q_l999, q_l9999, q_l10000, q_l100000, q_ltT, q_ltF, q_leT, q_leF, q_eqF, q_eqR, q_mlt, q_mle, q_nlm, q_nLm, q_nem, q_men, q_mlm, Nat.add_zero, Nat.sub_zero, q_add0, pk_rem, nI_add, pk_mul, q_sub, q_subm, q_addm, nI_clamp, q_inT, q_inF, q_sr1, q_srn, q_srw, q_srs, q_wIs, q_wIn, q_wI2, q_wJ1, q_wJs, q_wJn, q_wR1, q_wRs, q_wRn, q_wI22, q_wJ22, pk_us, pk_un, pk_uLs, pk_uLn, q_usS, q_usN, q_ups, q_upn, Bool.true_eq_false, Bool.false_eq_true, q_lt, q_o2, q_o3, q_o4, q_o5, q_bi, ↓reduceIte, q_tv0, q_tv1, q_bz, q_oRl, q_oRr, q_oXl, q_oXr, b_one s]
  by_cases e : a (25 + 13 * s + 3) = m1
  · rw [if_pos e, if_pos e]
  · rw [if_neg e, if_neg e, ← cyc_S h8 hs]
    have key : ∀ r L n m, L + r = S → r < n → BS m (fun j => decide (j < S) && Rn S a s L j) → f_X3_shortestCycle_17 (nI s) μ n (nI (L + 1)) (nI m) = some (fvr (fun k => Rn S a s (k + 1) s) (fun k => nI (k + 1)) r L) := by
      intro r
      induction r with
      | zero =>
        intro L n m hL hn hm
        obtain ⟨n, rfl⟩ : ∃ q, n = q + 1 := ⟨n - 1, by omega⟩
        simp (maxSteps := 2000000) (disch := first | rfl | exact q_e1 _ _ _ | exact q_sr1 _ _ | omega) only [f_X3_shortestCycle_17, ↓q_m1, q_l0, q_l1, q_l2, q_l3, q_l4, q_l5, q_l6, q_l7, q_l8, q_l9, q_l10, q_l11, q_l12, q_l13, q_l14, q_l15, q_l16, q_l17, q_l18, q_l19, q_l20, q_l21, q_l22, q_l23, q_l24, q_l25, q_l26, q_l27, q_l28, q_l29, q_l30, q_l31, q_l32, q_l33, q_l45, q_l46, q_l48, q_l57, q_l58, q_l59, q_l60, q_l61, q_l62, q_l63, q_l64, q_l96, q_l97, q_l99, q_l122, q_l129, q_l137, q_l255, q_l256, q_l400, q_l680, q_l700, q_l959, q_l999, q_l9999, q_l10000, q_l100000, q_ltT, q_ltF, q_leT, q_leF, q_eqF, q_eqR, q_mlt, q_mle, q_nlm, q_nLm, q_nem, q_men, q_mlm, Nat.add_zero, Nat.sub_zero, q_add0, pk_rem, nI_add, pk_mul, q_sub, q_subm, q_addm, nI_clamp, q_inT, q_inF, q_sr1, q_srn, q_srw, q_srs, q_wIs, q_wIn, q_wI2, q_wJ1, q_wJs, q_wJn, q_wR1, q_wRs, q_wRn, q_wI22, q_wJ22, pk_us, pk_un, pk_uLs, pk_uLn, q_usS, q_usN, q_ups, q_upn, Bool.true_eq_false, Bool.false_eq_true, q_lt, q_o2, q_o3, q_o4, q_o5, q_bi, ↓reduceIte, q_tv0, q_tv1, q_bz, q_oRl, q_oRr, q_oXl, q_oXr, h.1.1]
        rfl
      | succ r ih =>
        intro L n m hL hn hm
        obtain ⟨n, rfl⟩ : ∃ q, n = q + 1 := ⟨n - 1, by omega⟩
        obtain ⟨m', f1, f2⟩ := s_wba h w hm
        have f3 : BS m' (fun j => decide (j < S) && Rn S a s (L + 1) j) := f2.congr (fun j _ => by
          rw [Rn]
          refine congrArg (fun q => decide (j < S) && !decide (q = m1)) (fd_congr (fun i hi => ?_))
          rw [decide_eq_true hi, Bool.true_and])
        have hb := b_and m' f3.1 s (by omega)
        have e0 : m'.testBit s = Rn S a s (L + 1) s := by
          rw [f3.2 s (by omega)]
          show (decide (s < S) && Rn S a s (L + 1) s) = _
          rw [decide_eq_true hs, Bool.true_and]
        rw [e0] at hb
        rw [fvr]
        cases hR : Rn S a s (L + 1) s with
        | false =>
          have hb : (nI m' &&& (nI 1 <<< (nI s &&& nI 31)) = nI 0) = True := eq_true (hb.mpr hR)
          simp (maxSteps := 2000000) (disch := first | rfl | exact q_e1 _ _ _ | exact q_sr1 _ _ | omega) only [f_X3_shortestCycle_17, ↓q_m1, q_l0, q_l1, q_l2, q_l3, q_l4, q_l5, q_l6, q_l7, q_l8, q_l9, q_l10, q_l11, q_l12, q_l13, q_l14, q_l15, q_l16, q_l17, q_l18, q_l19, q_l20, q_l21, q_l22, q_l23, q_l24, q_l25, q_l26, q_l27, q_l28, q_l29, q_l30, q_l31, q_l32, q_l33, q_l45, q_l46, q_l48, q_l57, q_l58, q_l59, q_l60, q_l61, q_l62, q_l63, q_l64, q_l96, q_l97, q_l99, q_l122, q_l129, q_l137, q_l255, q_l256, q_l400, q_l680, q_l700, q_l959, q_l999, q_l9999, q_l10000, q_l100000, q_ltT, q_ltF, q_leT, q_leF, q_eqF, q_eqR, q_mlt, q_mle, q_nlm, q_nLm, q_nem, q_men, q_mlm, Nat.add_zero, Nat.sub_zero, q_add0, pk_rem, nI_add, pk_mul, q_sub, q_subm, q_addm, nI_clamp, q_inT, q_inF, q_sr1, q_srn, q_srw, q_srs, q_wIs, q_wIn, q_wI2, q_wJ1, q_wJs, q_wJn, q_wR1, q_wRs, q_wRn, q_wI22, q_wJ22, pk_us, pk_un, pk_uLs, pk_uLn, q_usS, q_usN, q_ups, q_upn, Bool.true_eq_false, Bool.false_eq_true, q_lt, q_o2, q_o3, q_o4, q_o5, q_bi, ↓reduceIte, q_tv0, q_tv1, q_bz, q_oRl, q_oRr, q_oXl, q_oXr, h.1.1, f1, hb]
          exact ih (L + 1) n m' (by omega) (by omega) f3
        | true =>
          have hb : (nI m' &&& (nI 1 <<< (nI s &&& nI 31)) = nI 0) = False := eq_false (fun e => by rw [hb.mp e] at hR; cases hR)
          simp (maxSteps := 2000000) (disch := first | rfl | exact q_e1 _ _ _ | exact q_sr1 _ _ | omega) only [f_X3_shortestCycle_17, ↓q_m1, q_l0, q_l1, q_l2, q_l3, q_l4, q_l5, q_l6, q_l7, q_l8, q_l9, q_l10, q_l11, q_l12, q_l13, q_l14, q_l15, q_l16, q_l17, q_l18, q_l19, q_l20, q_l21, q_l22, q_l23, q_l24, q_l25, q_l26, q_l27, q_l28, q_l29, q_l30, q_l31, q_l32, q_l33, q_l45, q_l46, q_l48, q_l57, q_l58, q_l59, q_l60, q_l61, q_l62, q_l63, q_l64, q_l96, q_l97, q_l99, q_l122, q_l129, q_l137, q_l255, q_l256, q_l400, q_l680, q_l700, q_l959, q_l999, q_l9999, q_l10000, q_l100000, q_ltT, q_ltF, q_leT, q_leF, q_eqF, q_eqR, q_mlt, q_mle, q_nlm, q_nLm, q_nem, q_men, q_mlm, Nat.add_zero, Nat.sub_zero, q_add0, pk_rem, nI_add, pk_mul, q_sub, q_subm, q_addm, nI_clamp, q_inT, q_inF, q_sr1, q_srn, q_srw, q_srs, q_wIs, q_wIn, q_wI2, q_wJ1, q_wJs, q_wJn, q_wR1, q_wRs, q_wRn, q_wI22, q_wJ22, pk_us, pk_un, pk_uLs, pk_uLn, q_usS, q_usN, q_ups, q_upn, Bool.true_eq_false, Bool.false_eq_true, q_lt, q_o2, q_o3, q_o4, q_o5, q_bi, ↓reduceIte, q_tv0, q_tv1, q_bz, q_oRl, q_oRr, q_oXl, q_oXr, h.1.1, f1, hb]
    exact key S 0 FU (2 ^ s) (by omega) (fu_lt (by omega)) ((BS.one (show s < 8 by omega)).congr (fun j _ => by
      rw [Rn]
      by_cases e : s = j
      · subst e; rw [decide_eq_true rfl, decide_eq_true hs]; rfl
      · rw [decide_eq_false e, show decide (j = s) = false from decide_eq_false (fun q => e q.symm), Bool.and_false]))
end CYC

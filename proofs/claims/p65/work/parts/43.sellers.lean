/-! Own's start: the sellers -/
def SLR (T : Nat) (ω : OM) (j : Nat) : Prop := (∃ c, c ≤ 199 ∧ ω.1 3 j = nI c) ∧ (∃ c, c ≤ 99 ∧ ω.1 4 j = nI c) ∧ (ω.1 5 j = m1 ∨ ∃ t, t < T ∧ ω.1 5 j = nI t) ∧ (∃ n, LT T j n ω) ∧ ω.1 7 j = nI j
def BQ (S T i : Nat) (ω : OM) : Prop := (ω.1 0 15 = nI S ∧ ω.1 0 14 = nI T ∧ ω.1 0 16 = nI 0) ∧ (∀ j, i ≤ j → j < 8 → ω.1 5 j = m1) ∧ (∀ j, j < T → ∃ r, r ≤ 99 ∧ ω.1 2 j = nI r) ∧ (∀ j, j < i → SLR T ω j) ∧ (∀ j j', j < i → j' < i → ω.1 5 j = ω.1 5 j' → ω.1 5 j ≠ m1 → j = j') ∧ TX ω (sBw 6 ++ stalls (ω.1 2) T ++ sellers ω i)
section SEL
variable {S T : Nat} {ω : OM} {σ : SM} {L : List Nat}
theorem sell_head (h : TX ω L) {i c1 c2 : Nat} (hi : i < 8) (h1 : c1 ≤ 199) (h2 : c2 ≤ 99) (hl : L.length + 20 ≤ 700) (v1 v2 : Int32) : ∃ x1 x2 x3 x4, f_X13_put 10 (wI (wI (wI (wI (wI (wI (wI ω 0 12 v1) 3 i (nI c1)) 0 12 v2) 4 i (nI c2)) 5 i m1) 6 i (nI 0)) 7 i (nI i)) = some x1 ∧ f_X13_letter (nI 97) (nI i) x1 = some x2 ∧ x2.1 3 i = nI c1 ∧ f_X13_put_ (nI c1) x2 = some x3 ∧ x3.1 4 i = nI c2 ∧ f_X13_put_ (nI c2) x3 = some x4 ∧ TX x4 (L ++ (sBw 10 ++ ([32, 97 + i] ++ ((32 :: dgs c1) ++ (32 :: dgs c2))))) ∧ KS i ω x4 ∧ x4.1 3 i = nI c1 ∧ x4.1 4 i = nI c2 ∧ x4.1 5 i = m1 ∧ x4.1 6 i = nI 0 ∧ x4.1 7 i = nI i := by
  obtain ⟨_, _, _, l10, _⟩ := sB_len
  have h0 : TX (wI (wI (wI (wI (wI (wI (wI ω 0 12 v1) 3 i (nI c1)) 0 12 v2) 4 i (nI c2)) 5 i m1) 6 i (nI 0)) 7 i (nI i)) L := h.row (by simp (maxSteps := 2000000) (disch := first | rfl | exact q_e1 _ _ _ | exact q_sr1 _ _ | omega) only [q_sr1, q_srn, q_srw, q_srs, q_wIs, q_wIn, q_wI2, q_wJ1, q_wJs, q_wJn, q_wR1, q_wRs, q_wRn, q_wI22, q_wJ22, pk_us, pk_un, pk_uLs, pk_uLn, q_usS, q_usN, q_ups, q_upn]) (by simp (maxSteps := 2000000) (disch := first | rfl | exact q_e1 _ _ _ | exact q_sr1 _ _ | omega) only [q_sr1, q_srn, q_srw, q_srs, q_wIs, q_wIn, q_wI2, q_wJ1, q_wJs, q_wJn, q_wR1, q_wRs, q_wRn, q_wI22, q_wJ22, pk_us, pk_un, pk_uLs, pk_uLn, q_usS, q_usN, q_ups, q_upn])
  have hK : KS i ω (wI (wI (wI (wI (wI (wI (wI ω 0 12 v1) 3 i (nI c1)) 0 12 v2) 4 i (nI c2)) 5 i m1) 6 i (nI 0)) 7 i (nI i)) := ((((((KS.w _ _ (Or.inr (Or.inl ⟨rfl, Or.inl rfl⟩))).tr (KS.w _ _ (Or.inr (Or.inr (Or.inl ⟨by omega, by omega, rfl⟩))))).tr (KS.w _ _ (Or.inr (Or.inl ⟨rfl, Or.inl rfl⟩)))).tr (KS.w _ _ (Or.inr (Or.inr (Or.inl ⟨by omega, by omega, rfl⟩))))).tr (KS.w _ _ (Or.inr (Or.inr (Or.inl ⟨by omega, by omega, rfl⟩))))).tr (KS.w _ _ (Or.inr (Or.inr (Or.inl ⟨by omega, by omega, rfl⟩))))).tr (KS.w _ _ (Or.inr (Or.inr (Or.inl ⟨by omega, by omega, rfl⟩))))
  have e3 : (wI (wI (wI (wI (wI (wI (wI ω 0 12 v1) 3 i (nI c1)) 0 12 v2) 4 i (nI c2)) 5 i m1) 6 i (nI 0)) 7 i (nI i)).1 3 i = nI c1 := by simp (maxSteps := 2000000) (disch := first | rfl | exact q_e1 _ _ _ | exact q_sr1 _ _ | omega) only [q_sr1, q_srn, q_srw, q_srs, q_wIs, q_wIn, q_wI2, q_wJ1, q_wJs, q_wJn, q_wR1, q_wRs, q_wRn, q_wI22, q_wJ22, pk_us, pk_un, pk_uLs, pk_uLn, q_usS, q_usN, q_ups, q_upn]
  have e4 : (wI (wI (wI (wI (wI (wI (wI ω 0 12 v1) 3 i (nI c1)) 0 12 v2) 4 i (nI c2)) 5 i m1) 6 i (nI 0)) 7 i (nI i)).1 4 i = nI c2 := by simp (maxSteps := 2000000) (disch := first | rfl | exact q_e1 _ _ _ | exact q_sr1 _ _ | omega) only [q_sr1, q_srn, q_srw, q_srs, q_wIs, q_wIn, q_wI2, q_wJ1, q_wJs, q_wJn, q_wR1, q_wRs, q_wRn, q_wI22, q_wJ22, pk_us, pk_un, pk_uLs, pk_uLn, q_usS, q_usN, q_ups, q_upn]
  have e5 : (wI (wI (wI (wI (wI (wI (wI ω 0 12 v1) 3 i (nI c1)) 0 12 v2) 4 i (nI c2)) 5 i m1) 6 i (nI 0)) 7 i (nI i)).1 5 i = m1 := by simp (maxSteps := 2000000) (disch := first | rfl | exact q_e1 _ _ _ | exact q_sr1 _ _ | omega) only [q_sr1, q_srn, q_srw, q_srs, q_wIs, q_wIn, q_wI2, q_wJ1, q_wJs, q_wJn, q_wR1, q_wRs, q_wRn, q_wI22, q_wJ22, pk_us, pk_un, pk_uLs, pk_uLn, q_usS, q_usN, q_ups, q_upn]
  have e6 : (wI (wI (wI (wI (wI (wI (wI ω 0 12 v1) 3 i (nI c1)) 0 12 v2) 4 i (nI c2)) 5 i m1) 6 i (nI 0)) 7 i (nI i)).1 6 i = nI 0 := by simp (maxSteps := 2000000) (disch := first | rfl | exact q_e1 _ _ _ | exact q_sr1 _ _ | omega) only [q_sr1, q_srn, q_srw, q_srs, q_wIs, q_wIn, q_wI2, q_wJ1, q_wJs, q_wJn, q_wR1, q_wRs, q_wRn, q_wI22, q_wJ22, pk_us, pk_un, pk_uLs, pk_uLn, q_usS, q_usN, q_ups, q_upn]
  have e7 : (wI (wI (wI (wI (wI (wI (wI ω 0 12 v1) 3 i (nI c1)) 0 12 v2) 4 i (nI c2)) 5 i m1) 6 i (nI 0)) 7 i (nI i)).1 7 i = nI i := by simp (maxSteps := 2000000) (disch := first | rfl | exact q_e1 _ _ _ | exact q_sr1 _ _ | omega) only [q_sr1, q_srn, q_srw, q_srs, q_wIs, q_wIn, q_wI2, q_wJ1, q_wJs, q_wJn, q_wR1, q_wRs, q_wRn, q_wI22, q_wJ22, pk_us, pk_un, pk_uLs, pk_uLn, q_usS, q_usN, q_ups, q_upn]
  generalize wI (wI (wI (wI (wI (wI (wI ω 0 12 v1) 3 i (nI c1)) 0 12 v2) 4 i (nI c2)) 5 i m1) 6 i (nI 0)) 7 i (nI i) = ωA at *
  obtain ⟨ω1, a1, a2, a3⟩ := put1 h0 (w := 10) (by omega) (by omega)
  obtain ⟨ω2, b1, b2, b3⟩ := letter1 a2 (p := 97) (t := i) (by omega) (by rw [List.length_append]; omega)
  obtain ⟨ω3, c1', c2', c3'⟩ := num1 b2 (v := c1) (by omega) (by simp only [List.length_append, List.length_cons, List.length_nil]; omega)
  have hd := (dgs_len c1).2
  obtain ⟨ω4, d1, d2, d3⟩ := num1 c2' (v := c2) (by omega) (by simp only [List.length_append, List.length_cons, List.length_nil]; omega)
  have k2 := a3.tr b3
  have k3 := k2.tr c3'
  have k4 := k3.tr d3
  refine ⟨ω1, ω2, ω3, ω4, a1, b1, by rw [k2.1 3 (by omega) (by omega)]; exact e3, c1', by rw [k3.1 4 (by omega) (by omega)]; exact e4, d1, ?_, hK.tr (k4.ks i), by rw [k4.1 3 (by omega) (by omega)]; exact e3, by rw [k4.1 4 (by omega) (by omega)]; exact e4, by rw [k4.1 5 (by omega) (by omega)]; exact e5, by rw [k4.1 6 (by omega) (by omega)]; exact e6, by rw [k4.1 7 (by omega) (by omega)]; exact e7⟩
  simpa only [List.append_assoc] using d2
/-- one more seller -/
theorem bq_next {i n c1 c2 : Nat} (h : BQ S T i ω) (hi : i < S) (h8 : S ≤ 7) (t7 : T ≤ 7) {x : OM} (k : KS i ω x) (h1 : c1 ≤ 199) (h2 : c2 ≤ 99) (e3 : x.1 3 i = nI c1) (e4 : x.1 4 i = nI c2) (e5 : x.1 5 i = m1 ∨ ∃ t, t < T ∧ x.1 5 i = nI t ∧ ∀ j, j < i → ω.1 5 j ≠ nI t) (hl : LT T i n x) (e7 : x.1 7 i = nI i) (ht : TX x (sBw 6 ++ stalls (ω.1 2) T ++ sellers ω i ++ (sBw 10 ++ ([32, 97 + i] ++ ((32 :: dgs c1) ++ (32 :: dgs c2)))) ++ wis (x.1 (12 + i)) n ++ (plT (x.1 5 i) ++ sBw 9))) : BQ S T (i + 1) x := by
  obtain ⟨⟨f1, f2, f3⟩, g1, g2, g3, g4, g5⟩ := h
  have hk : ∀ k' j, 2 ≤ k' → k' ≤ 11 → j ≠ i → x.1 k' j = ω.1 k' j := fun k' j a b c => k k' j (by omega) (by omega) (fun _ _ => c) (by omega)
  have hr : ∀ j, j < i → x.1 (12 + j) = ω.1 (12 + j) := fun j hj => by
    funext q
    exact k (12 + j) q (by omega) (by omega) (by omega) (by omega)
  have h2' : x.1 2 = ω.1 2 := by
    funext q
    exact k 2 q (by omega) (by omega) (by omega) (by omega)
  have hse : sellers x i = sellers ω i := sellers_congr (fun j hj => ⟨hk 3 j (by omega) (by omega) (by omega), hk 4 j (by omega) (by omega) (by omega), hk 5 j (by omega) (by omega) (by omega), hk 6 j (by omega) (by omega) (by omega), hr j hj⟩)
  refine ⟨⟨(k 0 15 (by omega) (by omega) (by omega) (by omega)).trans f1, (k 0 14 (by omega) (by omega) (by omega) (by omega)).trans f2, (k 0 16 (by omega) (by omega) (by omega) (by omega)).trans f3⟩, fun j hj hj8 => by rw [hk 5 j (by omega) (by omega) (by omega)]; exact g1 j (by omega) hj8, fun j hj => by rw [h2']; exact g2 j hj, fun j hj => ?_, fun j j' hj hj' e ne => ?_, ?_⟩
  · by_cases e : j = i
    · subst e
      refine ⟨⟨c1, h1, e3⟩, ⟨c2, h2, e4⟩, ?_, ⟨n, hl⟩, e7⟩
      rcases e5 with e5 | ⟨t, ht, e5, _⟩
      · exact Or.inl e5
      · exact Or.inr ⟨t, ht, e5⟩
    · obtain ⟨q1, q2, q3, ⟨n', q4⟩, q5⟩ := g3 j (by omega)
      unfold SLR
      rw [hk 3 j (by omega) (by omega) e, hk 4 j (by omega) (by omega) e, hk 5 j (by omega) (by omega) e, hk 7 j (by omega) (by omega) e]
      refine ⟨q1, q2, q3, ⟨n', ?_⟩, q5⟩
      unfold LT
      rw [hk 6 j (by omega) (by omega) e, hr j (by omega)]
      exact q4
  · by_cases ej : j = i
    · by_cases ej' : j' = i
      · omega
      · exfalso
        subst ej
        rcases e5 with e5 | ⟨t, ht, e5, e6⟩
        · exact ne e5
        · rw [e5, hk 5 j' (by omega) (by omega) ej'] at e
          exact e6 j' (by omega) e.symm
    · by_cases ej' : j' = i
      · exfalso
        subst ej'
        rcases e5 with e5 | ⟨t, ht, e5, e6⟩
        · exact ne (e.trans e5)
        · rw [e5, hk 5 j (by omega) (by omega) ej] at e
          exact e6 j (by omega) e
      · rw [hk 5 j (by omega) (by omega) ej] at ne
        rw [hk 5 j (by omega) (by omega) ej, hk 5 j' (by omega) (by omega) ej'] at e
        exact g4 j j' (by omega) (by omega) e ne
  · rw [sellers, seT, hse, h2', e3, e4, hl.1, nI_clamp (by omega), nI_clamp (by omega), nI_clamp (show n < 2 ^ 31 by have := hl.2.1; omega)]
    simpa only [List.append_assoc] using ht
theorem bq_len {i : Nat} (h : BQ S T i ω) (hi : i ≤ 7) (t7 : T ≤ 7) : (sBw 6 ++ stalls (ω.1 2) T ++ sellers ω i).length ≤ 7 + 12 * T + 36 * i := by
  rw [List.length_append, List.length_append, sB_len.1]
  have h1 := stalls_len (f := ω.1 2) T
  have h2 := sellers_len (ω := ω) i (fun j hj => by
    obtain ⟨_, _, _, ⟨n, q4⟩, _⟩ := h.2.2.2.1 j hj
    rw [q4.1, nI_clamp (by have := q4.2.1; omega)]; exact q4.2.1)
  omega
theorem begin_133 (h : BQ S T 0 (σ 20)) (h8 : S ≤ 7) (t1 : 1 ≤ T) (t7 : T ≤ 7) : ∃ σ', f_X13_begin_133 FU (nI 0) σ = some σ' ∧ (∀ o, o ≠ 20 → σ' o = σ o) ∧ BQ S T S (σ' 20) := by
  obtain ⟨b, g1, g2⟩ := lp_inv (F := fun n x s => f_X13_begin_133 n x s) (fun (i : Nat) (s : SM) => (∀ o, o ≠ 20 → s o = σ o) ∧ BQ S T i (s 20)) (fun s => (∀ o, o ≠ 20 → s o = σ o) ∧ BQ S T S (s 20)) S (fun m i s hi hh => by
    obtain ⟨h1, h2⟩ := hh
    have f15 := h2.1.1
    have f14 := h2.1.2.1
    have hlen := bq_len h2 (by omega) t7
    obtain ⟨c1, v1, hc1, er1⟩ := draw_ok (m := 200) (by omega) (by omega) (s 20)
    obtain ⟨c2, v2, hc2, er2⟩ := draw_ok (m := 60) (by omega) (by omega) (wI (wI (s 20) 0 12 v1) 3 i (nI c1))
    obtain ⟨x1, x2, x3, x4, a1, a2, a3, a4, a5, a6, a7, a8, a9, a10, a11, a12, a13⟩ := sell_head h2.2.2.2.2.2 (show i < 8 by omega) (show c1 ≤ 199 by omega) (show c2 ≤ 99 by omega) (by omega) v1 v2
    have x14 : x4.1 0 14 = nI T := (a8 0 14 (by omega) (by omega) (by omega) (by omega)).trans f14
    obtain ⟨r66, v3, hr66, er3⟩ := draw_ok (m := T + 1) (by omega) (by omega) x4
    have hhd : (sBw 6 ++ stalls ((s 20).1 2) T ++ sellers (s 20) i ++ (sBw 10 ++ ([32, 97 + i] ++ ((32 :: dgs c1) ++ (32 :: dgs c2))))).length ≤ 7 + 12 * T + 36 * i + 16 := by
      obtain ⟨_, _, _, l10, _⟩ := sB_len
      have d1 := (dgs_len c1).2
      have d2 := (dgs_len c2).2
      rw [List.length_append]
      simp only [List.length_append, List.length_cons, List.length_nil] at hlen ⊢
      omega
    obtain ⟨σ80, n, b1, b2, b3, b4, b5, b6⟩ := begin_232 (T := T) (i := i) (by omega) t1 t7 (sBw 6 ++ stalls ((s 20).1 2) T ++ sellers (s 20) i ++ (sBw 10 ++ ([32, 97 + i] ++ ((32 :: dgs c1) ++ (32 :: dgs c2))))) (by omega) r66 0 FU (us s 20 (wI x4 0 12 v3)) (fu_lt (by omega)) (by omega) (by rw [q_usS, q_wIs, pk_un (by omega)]; exact x14) (by
      rw [q_usS]
      refine ⟨by rw [q_wIn (by omega)]; exact a12, by omega, fun k hk => by omega, fun k k' hk => by omega⟩) (by rw [q_usS, wis, List.append_nil]; exact a7.d v3)
    rw [q_usS] at b3 b4
    have kk : KS i (s 20) (σ80 20) := (a8.tr ((KX.d x4 v3).ks i)).tr b3
    have y14 : (σ80 20).1 0 14 = nI T := (kk 0 14 (by omega) (by omega) (by omega) (by omega)).trans f14
    have y15 : (σ80 20).1 0 15 = nI S := (kk 0 15 (by omega) (by omega) (by omega) (by omega)).trans f15
    have y3 : (σ80 20).1 3 i = nI c1 := by rw [b4 3 (by omega) (by omega) (by omega), q_wIn (by omega)]; exact a9
    have y4 : (σ80 20).1 4 i = nI c2 := by rw [b4 4 (by omega) (by omega) (by omega), q_wIn (by omega)]; exact a10
    have y5 : (σ80 20).1 5 i = m1 := by rw [b4 5 (by omega) (by omega) (by omega), q_wIn (by omega)]; exact a11
    have y7 : (σ80 20).1 7 i = nI i := by rw [b4 7 (by omega) (by omega) (by omega), q_wIn (by omega)]; exact a13
    have y5o : ∀ j, j ≠ i → (σ80 20).1 5 j = (s 20).1 5 j := fun j hj => kk 5 j (by omega) (by omega) (fun _ _ => hj) (by omega)
    have hn7 := b5.2.1
    have wl := wis_len (f := (σ80 20).1 (12 + i)) n
    obtain ⟨r81, v4, hr81, er4⟩ := draw_ok (m := T) t1 (by omega) (σ80 20)
    obtain ⟨r84, v5, hr84, er5⟩ := draw_ok (m := 3) (by omega) (by omega) (wI (σ80 20) 0 12 v4)
    have hd2 : TX (wI (wI (σ80 20) 0 12 v4) 0 12 v5) _ := (b6.d v4).d v5
    have z15 : (wI (wI (σ80 20) 0 12 v4) 0 12 v5).1 0 15 = nI S := by rw [q_wIs, pk_un (by omega), q_wIs, pk_un (by omega)]; exact y15
    have hten := tenant_d z15 (by omega) (nI r81)
    have z5 : (wI (wI (σ80 20) 0 12 v4) 0 12 v5).1 5 = (σ80 20).1 5 := by rw [q_wIn (by omega), q_wIn (by omega)]
    rw [z5] at hten
    have hK2 : KS i (s 20) (wI (wI (σ80 20) 0 12 v4) 0 12 v5) := kk.tr (((KX.d _ v4).tr (KX.d _ v5)).ks i)
    -- without a place
    have plain : ∃ m88, f_X13_put 9 (wI (wI (σ80 20) 0 12 v4) 0 12 v5) = some m88 ∧ BQ S T (i + 1) m88 := by
      obtain ⟨y, p1, p2, p3⟩ := put1 hd2 (w := 9) (by omega) (by rw [List.length_append, wl, sB_len.2.2.1]; omega)
      have row : ∀ k, k ≠ 0 → k ≠ 1 → y.1 k = (σ80 20).1 k := fun k k0 k1 => by rw [p3.1 k k0 k1, q_wIn k0, q_wIn k0]
      refine ⟨y, p1, bq_next h2 hi h8 t7 (hK2.tr (p3.ks i)) (show c1 ≤ 199 by omega) (show c2 ≤ 99 by omega) (by rw [row 3 (by omega) (by omega)]; exact y3) (by rw [row 4 (by omega) (by omega)]; exact y4) (Or.inl (by rw [row 5 (by omega) (by omega)]; exact y5)) (n := n) (by unfold LT; rw [row 6 (by omega) (by omega), row (12 + i) (by omega) (by omega)]; exact b5) (by rw [row 7 (by omega) (by omega)]; exact y7) ?_⟩
      rw [row (12 + i) (by omega) (by omega), row 5 (by omega) (by omega), y5, plT, if_pos rfl, List.nil_append]
      exact p2
    by_cases c84 : r84 ≤ 0
    · obtain ⟨m88, p1, p2⟩ := plain
      refine ⟨us σ80 20 m88, ⟨fun o ho => (q_usN ho).trans ((b2 o ho).trans ((q_usN ho).trans (h1 o ho))), by rw [q_usS]; exact p2⟩, ?_⟩
      have hle := eq_true (nI_le c84 (by omega))
      simp (maxSteps := 2000000) (disch := first | rfl | exact q_e1 _ _ _ | exact q_sr1 _ _ | omega) only [f_X13_begin_133, ↓q_m1, q_l0, q_l1, q_l2, q_l3, q_l4, q_l5, q_l6, q_l7, q_l8, q_l9, q_l10, q_l11, q_l12, q_l13, q_l14, q_l15, q_l16, q_l17, q_l18, q_l19, q_l20, q_l21, q_l22, q_l23, q_l24, q_l25, q_l26, q_l27, q_l28, q_l29, q_l30, q_l31, q_l32, q_l33, q_l45, q_l46, q_l48, q_l57, q_l58, q_l59, q_l60, q_l61, q_l62, q_l63, q_l64, q_l96, q_l97, q_l99, q_l122, q_l129, q_l137, q_l255, q_l256, q_l400, q_l680, q_l700, q_l959, q_l999, q_l9999, q_l10000, q_l100000, q_l36, q_l50, q_l100, q_l112, q_l200, q_ltT, q_ltF, q_leT, q_leF, q_eqF, q_eqR, q_mlt, q_mle, q_nlm, q_nLm, q_nem, q_men, q_mlm, Nat.add_zero, Nat.sub_zero, q_add0, pk_rem, nI_add, pk_mul, q_sub, q_subm, q_addm, nI_clamp, q_inT, q_inF, q_sr1, q_srn, q_srw, q_srs, q_wIs, q_wIn, q_wI2, q_wJ1, q_wJs, q_wJn, q_wR1, q_wRs, q_wRn, q_wI22, q_wJ22, pk_us, pk_un, pk_uLs, pk_uLn, q_usS, q_usN, q_ups, q_upn, Bool.true_eq_false, Bool.false_eq_true, q_lt, q_o2, q_o3, q_o4, q_o5, q_bi, ↓reduceIte, q_tv0, q_tv1, q_bz, q_oRl, q_oRr, q_oXl, q_oXr, f15, er1, er2, us_us, a1, a2, a3, a4, a5, a6, x14, er3, b1, y14, er4, er5, hle, p1]
    · have hle : (nI r84 ≤ nI 0) = False := eq_false (nI_ge (by omega) (by omega))
      rcases fd_cases S (fun k => decide ((σ80 20).1 5 k = nI r81)) with ⟨q, _, _, _, q4⟩ | ⟨q1, q2⟩
      · rw [q4] at hten
        obtain ⟨m88, p1, p2⟩ := plain
        refine ⟨us σ80 20 m88, ⟨fun o ho => (q_usN ho).trans ((b2 o ho).trans ((q_usN ho).trans (h1 o ho))), by rw [q_usS]; exact p2⟩, ?_⟩
        have hqm : (nI q = m1) = False := q_nem (by omega)
        simp (maxSteps := 2000000) (disch := first | rfl | exact q_e1 _ _ _ | exact q_sr1 _ _ | omega) only [f_X13_begin_133, ↓q_m1, q_l0, q_l1, q_l2, q_l3, q_l4, q_l5, q_l6, q_l7, q_l8, q_l9, q_l10, q_l11, q_l12, q_l13, q_l14, q_l15, q_l16, q_l17, q_l18, q_l19, q_l20, q_l21, q_l22, q_l23, q_l24, q_l25, q_l26, q_l27, q_l28, q_l29, q_l30, q_l31, q_l32, q_l33, q_l45, q_l46, q_l48, q_l57, q_l58, q_l59, q_l60, q_l61, q_l62, q_l63, q_l64, q_l96, q_l97, q_l99, q_l122, q_l129, q_l137, q_l255, q_l256, q_l400, q_l680, q_l700, q_l959, q_l999, q_l9999, q_l10000, q_l100000, q_l36, q_l50, q_l100, q_l112, q_l200, q_ltT, q_ltF, q_leT, q_leF, q_eqF, q_eqR, q_mlt, q_mle, q_nlm, q_nLm, q_nem, q_men, q_mlm, Nat.add_zero, Nat.sub_zero, q_add0, pk_rem, nI_add, pk_mul, q_sub, q_subm, q_addm, nI_clamp, q_inT, q_inF, q_sr1, q_srn, q_srw, q_srs, q_wIs, q_wIn, q_wI2, q_wJ1, q_wJs, q_wJn, q_wR1, q_wRs, q_wRn, q_wI22, q_wJ22, pk_us, pk_un, pk_uLs, pk_uLn, q_usS, q_usN, q_ups, q_upn, Bool.true_eq_false, Bool.false_eq_true, q_lt, q_o2, q_o3, q_o4, q_o5, q_bi, ↓reduceIte, q_tv0, q_tv1, q_bz, q_oRl, q_oRr, q_oXl, q_oXr, f15, er1, er2, us_us, a1, a2, a3, a4, a5, a6, x14, er3, b1, y14, er4, er5, hle, hten, hqm, p1]
      · rw [q2] at hten
        have hd3 : TX (wI (wI (wI (σ80 20) 0 12 v4) 0 12 v5) 5 i (nI r81)) _ := hd2.row (q_wIn (by omega)) (congrFun (q_wIn (by omega)) 13)
        obtain ⟨u1, p1, p2, p3⟩ := put1 hd3 (w := 11) (by omega) (by rw [List.length_append, wl, sB_len.2.2.2.2]; omega)
        obtain ⟨u2, p4, p5, p6⟩ := letter1 p2 (p := 112) (t := r81) (by omega) (by rw [List.length_append, List.length_append, wl, sB_len.2.2.2.2]; omega)
        obtain ⟨u3, p7, p8, p9⟩ := put1 p5 (w := 9) (by omega) (by rw [List.length_append, List.length_append, List.length_append, wl, sB_len.2.2.2.2, sB_len.2.2.1]; simp only [List.length_cons, List.length_nil]; omega)
        have kx := (p3.tr p6).tr p9
        have row : ∀ k, k ≠ 0 → k ≠ 1 → k ≠ 5 → u3.1 k = (σ80 20).1 k := fun k k0 k1 k5 => by rw [kx.1 k k0 k1, q_wIn k5, q_wIn k0, q_wIn k0]
        have r5 : u3.1 5 i = nI r81 := by rw [kx.1 5 (by omega) (by omega), q_wIs, pk_us]
        have bq : BQ S T (i + 1) u3 := by
          refine bq_next h2 hi h8 t7 ((hK2.tr (KS.w _ _ (Or.inr (Or.inr (Or.inl ⟨by omega, by omega, rfl⟩))))).tr (kx.ks i)) (show c1 ≤ 199 by omega) (show c2 ≤ 99 by omega) (by rw [row 3 (by omega) (by omega) (by omega)]; exact y3) (by rw [row 4 (by omega) (by omega) (by omega)]; exact y4) (Or.inr ⟨r81, hr81, r5, fun j hj => ?_⟩) (n := n) (by unfold LT; rw [row 6 (by omega) (by omega) (by omega), row (12 + i) (by omega) (by omega) (by omega)]; exact b5) (by rw [row 7 (by omega) (by omega) (by omega)]; exact y7) ?_
          · have := of_decide_eq_false (q1 j (by omega))
            rw [y5o j (by omega)] at this
            exact this
          · rw [row (12 + i) (by omega) (by omega) (by omega), r5, plT, if_neg (fun e => (q_nem (show r81 < 2 ^ 31 by omega)).mp e), nI_clamp (by omega)]
            simpa only [List.append_assoc] using p8
        refine ⟨us σ80 20 u3, ⟨fun o ho => (q_usN ho).trans ((b2 o ho).trans ((q_usN ho).trans (h1 o ho))), by rw [q_usS]; exact bq⟩, ?_⟩
        simp (maxSteps := 2000000) (disch := first | rfl | exact q_e1 _ _ _ | exact q_sr1 _ _ | omega) only [f_X13_begin_133, ↓q_m1, q_l0, q_l1, q_l2, q_l3, q_l4, q_l5, q_l6, q_l7, q_l8, q_l9, q_l10, q_l11, q_l12, q_l13, q_l14, q_l15, q_l16, q_l17, q_l18, q_l19, q_l20, q_l21, q_l22, q_l23, q_l24, q_l25, q_l26, q_l27, q_l28, q_l29, q_l30, q_l31, q_l32, q_l33, q_l45, q_l46, q_l48, q_l57, q_l58, q_l59, q_l60, q_l61, q_l62, q_l63, q_l64, q_l96, q_l97, q_l99, q_l122, q_l129, q_l137, q_l255, q_l256, q_l400, q_l680, q_l700, q_l959, q_l999, q_l9999, q_l10000, q_l100000, q_l36, q_l50, q_l100, q_l112, q_l200, q_ltT, q_ltF, q_leT, q_leF, q_eqF, q_eqR, q_mlt, q_mle, q_nlm, q_nLm, q_nem, q_men, q_mlm, Nat.add_zero, Nat.sub_zero, q_add0, pk_rem, nI_add, pk_mul, q_sub, q_subm, q_addm, nI_clamp, q_inT, q_inF, q_sr1, q_srn, q_srw, q_srs, q_wIs, q_wIn, q_wI2, q_wJ1, q_wJs, q_wJn, q_wR1, q_wRs, q_wRn, q_wI22, q_wJ22, pk_us, pk_un, pk_uLs, pk_uLn, q_usS, q_usN, q_ups, q_upn, Bool.true_eq_false, Bool.false_eq_true, q_lt, q_o2, q_o3, q_o4, q_o5, q_bi, ↓reduceIte, q_tv0, q_tv1, q_bz, q_oRl, q_oRr, q_oXl, q_oXr, f15, er1, er2, us_us, a1, a2, a3, a4, a5, a6, x14, er3, b1, y14, er4, er5, hle, hten, p1, p4, p7]) (fun m s hh => by
    obtain ⟨h1, h2⟩ := hh
    have f15 := h2.1.1
    exact ⟨s, by simp (maxSteps := 2000000) (disch := first | rfl | exact q_e1 _ _ _ | exact q_sr1 _ _ | omega) only [f_X13_begin_133, ↓q_m1, q_l0, q_l1, q_l2, q_l3, q_l4, q_l5, q_l6, q_l7, q_l8, q_l9, q_l10, q_l11, q_l12, q_l13, q_l14, q_l15, q_l16, q_l17, q_l18, q_l19, q_l20, q_l21, q_l22, q_l23, q_l24, q_l25, q_l26, q_l27, q_l28, q_l29, q_l30, q_l31, q_l32, q_l33, q_l45, q_l46, q_l48, q_l57, q_l58, q_l59, q_l60, q_l61, q_l62, q_l63, q_l64, q_l96, q_l97, q_l99, q_l122, q_l129, q_l137, q_l255, q_l256, q_l400, q_l680, q_l700, q_l959, q_l999, q_l9999, q_l10000, q_l100000, q_l36, q_l50, q_l100, q_l112, q_l200, q_ltT, q_ltF, q_leT, q_leF, q_eqF, q_eqR, q_mlt, q_mle, q_nlm, q_nLm, q_nem, q_men, q_mlm, Nat.add_zero, Nat.sub_zero, q_add0, pk_rem, nI_add, pk_mul, q_sub, q_subm, q_addm, nI_clamp, q_inT, q_inF, q_sr1, q_srn, q_srw, q_srs, q_wIs, q_wIn, q_wI2, q_wJ1, q_wJs, q_wJn, q_wR1, q_wRs, q_wRn, q_wI22, q_wJ22, pk_us, pk_un, pk_uLs, pk_uLn, q_usS, q_usN, q_ups, q_upn, Bool.true_eq_false, Bool.false_eq_true, q_lt, q_o2, q_o3, q_o4, q_o5, q_bi, ↓reduceIte, q_tv0, q_tv1, q_bz, q_oRl, q_oRr, q_oXl, q_oXr, f15], h1, h2⟩) (fu_lt (show S < 2000 by omega)) (s := σ) (i0 := 0) ⟨fun _ _ => rfl, h⟩
  exact ⟨b, g1, g2⟩
theorem begin_36 (e15 : (σ 20).1 0 15 = nI S) (e14 : (σ 20).1 0 14 = nI T) (e16 : (σ 20).1 0 16 = nI 0) (h : TX (σ 20) []) : ∃ σ' m14, f_X13_begin_36 FU (nI 0) σ = some σ' ∧ (∀ o, o ≠ 20 → σ' o = σ o) ∧ f_X13_put 6 (σ' 20) = some m14 ∧ BA S T 0 m14 := by
  obtain ⟨b, g1, g2, g3, g4⟩ := lp_inv (F := fun n x s => f_X13_begin_36 n x s) (fun (i : Nat) (s : SM) => (∀ o, o ≠ 20 → s o = σ o) ∧ (∀ k, k ≠ 5 → (s 20).1 k = (σ 20).1 k) ∧ ∀ j, j < i → (s 20).1 5 j = m1) (fun s => (∀ o, o ≠ 20 → s o = σ o) ∧ (∀ k, k ≠ 5 → (s 20).1 k = (σ 20).1 k) ∧ ∀ j, j < 8 → (s 20).1 5 j = m1) 8 (fun n i s hi hh => by
    obtain ⟨h1, h2, h3⟩ := hh
    refine ⟨us s 20 (wI (s 20) 5 i m1), ⟨fun o ho => (q_usN ho).trans (h1 o ho), fun k hk => by rw [q_usS, q_wIn hk]; exact h2 k hk, fun j hj => ?_⟩, by simp (maxSteps := 2000000) (disch := first | rfl | exact q_e1 _ _ _ | exact q_sr1 _ _ | omega) only [f_X13_begin_36, ↓q_m1, q_l0, q_l1, q_l2, q_l3, q_l4, q_l5, q_l6, q_l7, q_l8, q_l9, q_l10, q_l11, q_l12, q_l13, q_l14, q_l15, q_l16, q_l17, q_l18, q_l19, q_l20, q_l21, q_l22, q_l23, q_l24, q_l25, q_l26, q_l27, q_l28, q_l29, q_l30, q_l31, q_l32, q_l33, q_l45, q_l46, q_l48, q_l57, q_l58, q_l59, q_l60, q_l61, q_l62, q_l63, q_l64, q_l96, q_l97, q_l99, q_l122, q_l129, q_l137, q_l255, q_l256, q_l400, q_l680, q_l700, q_l959, q_l999, q_l9999, q_l10000, q_l100000, q_l36, q_l50, q_l100, q_l112, q_l200, q_ltT, q_ltF, q_leT, q_leF, q_eqF, q_eqR, q_mlt, q_mle, q_nlm, q_nLm, q_nem, q_men, q_mlm, Nat.add_zero, Nat.sub_zero, q_add0, pk_rem, nI_add, pk_mul, q_sub, q_subm, q_addm, nI_clamp, q_inT, q_inF, q_sr1, q_srn, q_srw, q_srs, q_wIs, q_wIn, q_wI2, q_wJ1, q_wJs, q_wJn, q_wR1, q_wRs, q_wRn, q_wI22, q_wJ22, pk_us, pk_un, pk_uLs, pk_uLn, q_usS, q_usN, q_ups, q_upn, Bool.true_eq_false, Bool.false_eq_true, q_lt, q_o2, q_o3, q_o4, q_o5, q_bi, ↓reduceIte, q_tv0, q_tv1, q_bz, q_oRl, q_oRr, q_oXl, q_oXr]⟩
    rw [q_usS, q_wIs]
    by_cases e : j = i
    · subst e; exact pk_us
    · rw [pk_un e]; exact h3 j (by omega)) (fun n s hh => ⟨s, by simp (maxSteps := 2000000) (disch := first | rfl | exact q_e1 _ _ _ | exact q_sr1 _ _ | omega) only [f_X13_begin_36, ↓q_m1, q_l0, q_l1, q_l2, q_l3, q_l4, q_l5, q_l6, q_l7, q_l8, q_l9, q_l10, q_l11, q_l12, q_l13, q_l14, q_l15, q_l16, q_l17, q_l18, q_l19, q_l20, q_l21, q_l22, q_l23, q_l24, q_l25, q_l26, q_l27, q_l28, q_l29, q_l30, q_l31, q_l32, q_l33, q_l45, q_l46, q_l48, q_l57, q_l58, q_l59, q_l60, q_l61, q_l62, q_l63, q_l64, q_l96, q_l97, q_l99, q_l122, q_l129, q_l137, q_l255, q_l256, q_l400, q_l680, q_l700, q_l959, q_l999, q_l9999, q_l10000, q_l100000, q_l36, q_l50, q_l100, q_l112, q_l200, q_ltT, q_ltF, q_leT, q_leF, q_eqF, q_eqR, q_mlt, q_mle, q_nlm, q_nLm, q_nem, q_men, q_mlm, Nat.add_zero, Nat.sub_zero, q_add0, pk_rem, nI_add, pk_mul, q_sub, q_subm, q_addm, nI_clamp, q_inT, q_inF, q_sr1, q_srn, q_srw, q_srs, q_wIs, q_wIn, q_wI2, q_wJ1, q_wJs, q_wJn, q_wR1, q_wRs, q_wRn, q_wI22, q_wJ22, pk_us, pk_un, pk_uLs, pk_uLn, q_usS, q_usN, q_ups, q_upn, Bool.true_eq_false, Bool.false_eq_true, q_lt, q_o2, q_o3, q_o4, q_o5, q_bi, ↓reduceIte, q_tv0, q_tv1, q_bz, q_oRl, q_oRr, q_oXl, q_oXr], hh⟩) (fu_lt (show 8 < 2000 by omega)) (s := σ) (i0 := 0) ⟨fun _ _ => rfl, fun _ _ => rfl, fun j hj => by omega⟩
  have ht : TX (b 20) [] := h.row (g3 1 (by omega)) (congrFun (g3 0 (by omega)) 13)
  obtain ⟨m, p1, p2, p3⟩ := put1 ht (w := 6) (by omega) (by rw [sB_len.1]; show 0 + 7 ≤ 700; omega)
  have fld : ∀ j, j ≠ 12 → j ≠ 13 → m.1 0 j = (σ 20).1 0 j := fun j j1 j2 => by rw [p3.2 j j1 j2, g3 0 (by omega)]
  refine ⟨b, m, g1, g2, p1, ⟨(fld 15 (by omega) (by omega)).trans e15, (fld 14 (by omega) (by omega)).trans e14, (fld 16 (by omega) (by omega)).trans e16⟩, fun j hj => by rw [p3.1 5 (by omega) (by omega)]; exact g4 j hj, fun j hj => by omega, ?_⟩
  rw [stalls, List.append_nil]
  exact p2
end SEL

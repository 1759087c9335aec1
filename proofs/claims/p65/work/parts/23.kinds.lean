/-! writes of a market -/
/-! single writes into the market, on both sides -/
theorem ln_un {a : Nat → Int32} {p i : Nat} {v : Int32} (h : 25 + 13 * i + 4 ≠ p) : ln (upd a p v) i = ln a i := by rw [ln, ln, pk_un h]
theorem ln_eq {a b : Nat → Int32} {i : Nat} (h : b (25 + 13 * i + 4) = a (25 + 13 * i + 4)) : ln b i = ln a i := by rw [ln, ln, h]
theorem MR.coin {S T : Nat} {μ : OM} {a : Nat → Int32} (h : MR S T μ a) (h8 : S ≤ 8) (t8 : T ≤ 8) {i : Nat} (hi : i < S) (hl : ∀ j, j < S → ln a j ≤ 8) (u : Int32) : MR S T (wI μ 2 i u) (upd a (25 + 13 * i + 1) u) := by
  obtain ⟨⟨n0, n1, n2, n3⟩, n4, n5, n6, n7, n8, n9, n10, n11⟩ := h
  refine ⟨⟨by simp (maxSteps := 2000000) (disch := first | rfl | exact q_e1 _ _ _ | exact q_sr1 _ _ | omega) only [q_sr1, q_srn, q_srw, q_srs, q_wIs, q_wIn, q_wI2, q_wJ1, q_wJs, q_wJn, q_wR1, q_wRs, q_wRn, q_wI22, q_wJ22, pk_us, pk_un, pk_uLs, pk_uLn, q_usS, q_usN, q_ups, q_upn, n0], by simp (maxSteps := 2000000) (disch := first | rfl | exact q_e1 _ _ _ | exact q_sr1 _ _ | omega) only [q_sr1, q_srn, q_srw, q_srs, q_wIs, q_wIn, q_wI2, q_wJ1, q_wJs, q_wJn, q_wR1, q_wRs, q_wRn, q_wI22, q_wJ22, pk_us, pk_un, pk_uLs, pk_uLn, q_usS, q_usN, q_ups, q_upn, n1], by simp (maxSteps := 2000000) (disch := first | rfl | exact q_e1 _ _ _ | exact q_sr1 _ _ | omega) only [q_sr1, q_srn, q_srw, q_srs, q_wIs, q_wIn, q_wI2, q_wJ1, q_wJs, q_wJn, q_wR1, q_wRs, q_wRn, q_wI22, q_wJ22, pk_us, pk_un, pk_uLs, pk_uLn, q_usS, q_usN, q_ups, q_upn, n2], by simp (maxSteps := 2000000) (disch := first | rfl | exact q_e1 _ _ _ | exact q_sr1 _ _ | omega) only [q_sr1, q_srn, q_srw, q_srs, q_wIs, q_wIn, q_wI2, q_wJ1, q_wJs, q_wJn, q_wR1, q_wRs, q_wRn, q_wI22, q_wJ22, pk_us, pk_un, pk_uLs, pk_uLn, q_usS, q_usN, q_ups, q_upn, n3]⟩, fun k h1 h2 => ?_, fun j hj => ?_, fun j k hj hk => ?_, fun t ht => ?_, fun j hj => ?_, fun t ht => ?_, fun j hj => ?_, fun k hk => ?_⟩
  · simp (maxSteps := 2000000) (disch := first | rfl | exact q_e1 _ _ _ | exact q_sr1 _ _ | omega) only [q_sr1, q_srn, q_srw, q_srs, q_wIs, q_wIn, q_wI2, q_wJ1, q_wJs, q_wJn, q_wR1, q_wRs, q_wRn, q_wI22, q_wJ22, pk_us, pk_un, pk_uLs, pk_uLn, q_usS, q_usN, q_ups, q_upn, n4 k h1 h2]
  · obtain ⟨c1, c2, c3, c4⟩ := n5 j hj
    by_cases e : j = i
    · subst e
      simp (maxSteps := 2000000) (disch := first | rfl | exact q_e1 _ _ _ | exact q_sr1 _ _ | omega) only [q_sr1, q_srn, q_srw, q_srs, q_wIs, q_wIn, q_wI2, q_wJ1, q_wJs, q_wJn, q_wR1, q_wRs, q_wRn, q_wI22, q_wJ22, pk_us, pk_un, pk_uLs, pk_uLn, q_usS, q_usN, q_ups, q_upn, c1, c2, c3, c4, and_self]
    · simp (maxSteps := 2000000) (disch := first | rfl | exact q_e1 _ _ _ | exact q_sr1 _ _ | omega) only [q_sr1, q_srn, q_srw, q_srs, q_wIs, q_wIn, q_wI2, q_wJ1, q_wJs, q_wJn, q_wR1, q_wRs, q_wRn, q_wI22, q_wJ22, pk_us, pk_un, pk_uLs, pk_uLn, q_usS, q_usN, q_ups, q_upn, c1, c2, c3, c4, and_self]
  · rw [ln_un (by omega)] at hk
    have hk8 := hl j hj
    simp (maxSteps := 2000000) (disch := first | rfl | exact q_e1 _ _ _ | exact q_sr1 _ _ | omega) only [q_sr1, q_srn, q_srw, q_srs, q_wIs, q_wIn, q_wI2, q_wJ1, q_wJs, q_wJn, q_wR1, q_wRs, q_wRn, q_wI22, q_wJ22, pk_us, pk_un, pk_uLs, pk_uLn, q_usS, q_usN, q_ups, q_upn, n6 j k hj hk]
  · simp (maxSteps := 2000000) (disch := first | rfl | exact q_e1 _ _ _ | exact q_sr1 _ _ | omega) only [q_sr1, q_srn, q_srw, q_srs, q_wIs, q_wIn, q_wI2, q_wJ1, q_wJs, q_wJn, q_wR1, q_wRs, q_wRn, q_wI22, q_wJ22, pk_us, pk_un, pk_uLs, pk_uLn, q_usS, q_usN, q_ups, q_upn, n7 t ht]
  · have := n8 j hj
    simp (maxSteps := 2000000) (disch := first | rfl | exact q_e1 _ _ _ | exact q_sr1 _ _ | omega) only [q_sr1, q_srn, q_srw, q_srs, q_wIs, q_wIn, q_wI2, q_wJ1, q_wJs, q_wJn, q_wR1, q_wRs, q_wRn, q_wI22, q_wJ22, pk_us, pk_un, pk_uLs, pk_uLn, q_usS, q_usN, q_ups, q_upn]
    exact this
  · have := n9 t ht
    simp (maxSteps := 2000000) (disch := first | rfl | exact q_e1 _ _ _ | exact q_sr1 _ _ | omega) only [q_sr1, q_srn, q_srw, q_srs, q_wIs, q_wIn, q_wI2, q_wJ1, q_wJs, q_wJn, q_wR1, q_wRs, q_wRn, q_wI22, q_wJ22, pk_us, pk_un, pk_uLs, pk_uLn, q_usS, q_usN, q_ups, q_upn]
    exact this
  · obtain ⟨k, g1, g2, g3⟩ := n10 j hj
    refine ⟨k, g1, ?_, ?_⟩
    · simp (maxSteps := 2000000) (disch := first | rfl | exact q_e1 _ _ _ | exact q_sr1 _ _ | omega) only [q_sr1, q_srn, q_srw, q_srs, q_wIs, q_wIn, q_wI2, q_wJ1, q_wJs, q_wJn, q_wR1, q_wRs, q_wRn, q_wI22, q_wJ22, pk_us, pk_un, pk_uLs, pk_uLn, q_usS, q_usN, q_ups, q_upn, g2]
    · simp (maxSteps := 2000000) (disch := first | rfl | exact q_e1 _ _ _ | exact q_sr1 _ _ | omega) only [q_sr1, q_srn, q_srw, q_srs, q_wIs, q_wIn, q_wI2, q_wJ1, q_wJs, q_wJn, q_wR1, q_wRs, q_wRn, q_wI22, q_wJ22, pk_us, pk_un, pk_uLs, pk_uLn, q_usS, q_usN, q_ups, q_upn, g3]
  · obtain ⟨j, g1, g2, g3⟩ := n11 k hk
    refine ⟨j, g1, ?_, ?_⟩
    · simp (maxSteps := 2000000) (disch := first | rfl | exact q_e1 _ _ _ | exact q_sr1 _ _ | omega) only [q_sr1, q_srn, q_srw, q_srs, q_wIs, q_wIn, q_wI2, q_wJ1, q_wJs, q_wJn, q_wR1, q_wRs, q_wRn, q_wI22, q_wJ22, pk_us, pk_un, pk_uLs, pk_uLn, q_usS, q_usN, q_ups, q_upn, g2]
    · simp (maxSteps := 2000000) (disch := first | rfl | exact q_e1 _ _ _ | exact q_sr1 _ _ | omega) only [q_sr1, q_srn, q_srw, q_srs, q_wIs, q_wIn, q_wI2, q_wJ1, q_wJs, q_wJn, q_wR1, q_wRs, q_wRn, q_wI22, q_wJ22, pk_us, pk_un, pk_uLs, pk_uLn, q_usS, q_usN, q_ups, q_upn, g3]
theorem MR.seat {S T : Nat} {μ : OM} {a : Nat → Int32} (h : MR S T μ a) (h8 : S ≤ 8) (t8 : T ≤ 8) {i : Nat} (hi : i < S) (hl : ∀ j, j < S → ln a j ≤ 8) (u : Int32) : MR S T (wI μ 4 i u) (upd a (25 + 13 * i + 3) u) := by
  obtain ⟨⟨n0, n1, n2, n3⟩, n4, n5, n6, n7, n8, n9, n10, n11⟩ := h
  refine ⟨⟨by simp (maxSteps := 2000000) (disch := first | rfl | exact q_e1 _ _ _ | exact q_sr1 _ _ | omega) only [q_sr1, q_srn, q_srw, q_srs, q_wIs, q_wIn, q_wI2, q_wJ1, q_wJs, q_wJn, q_wR1, q_wRs, q_wRn, q_wI22, q_wJ22, pk_us, pk_un, pk_uLs, pk_uLn, q_usS, q_usN, q_ups, q_upn, n0], by simp (maxSteps := 2000000) (disch := first | rfl | exact q_e1 _ _ _ | exact q_sr1 _ _ | omega) only [q_sr1, q_srn, q_srw, q_srs, q_wIs, q_wIn, q_wI2, q_wJ1, q_wJs, q_wJn, q_wR1, q_wRs, q_wRn, q_wI22, q_wJ22, pk_us, pk_un, pk_uLs, pk_uLn, q_usS, q_usN, q_ups, q_upn, n1], by simp (maxSteps := 2000000) (disch := first | rfl | exact q_e1 _ _ _ | exact q_sr1 _ _ | omega) only [q_sr1, q_srn, q_srw, q_srs, q_wIs, q_wIn, q_wI2, q_wJ1, q_wJs, q_wJn, q_wR1, q_wRs, q_wRn, q_wI22, q_wJ22, pk_us, pk_un, pk_uLs, pk_uLn, q_usS, q_usN, q_ups, q_upn, n2], by simp (maxSteps := 2000000) (disch := first | rfl | exact q_e1 _ _ _ | exact q_sr1 _ _ | omega) only [q_sr1, q_srn, q_srw, q_srs, q_wIs, q_wIn, q_wI2, q_wJ1, q_wJs, q_wJn, q_wR1, q_wRs, q_wRn, q_wI22, q_wJ22, pk_us, pk_un, pk_uLs, pk_uLn, q_usS, q_usN, q_ups, q_upn, n3]⟩, fun k h1 h2 => ?_, fun j hj => ?_, fun j k hj hk => ?_, fun t ht => ?_, fun j hj => ?_, fun t ht => ?_, fun j hj => ?_, fun k hk => ?_⟩
  · simp (maxSteps := 2000000) (disch := first | rfl | exact q_e1 _ _ _ | exact q_sr1 _ _ | omega) only [q_sr1, q_srn, q_srw, q_srs, q_wIs, q_wIn, q_wI2, q_wJ1, q_wJs, q_wJn, q_wR1, q_wRs, q_wRn, q_wI22, q_wJ22, pk_us, pk_un, pk_uLs, pk_uLn, q_usS, q_usN, q_ups, q_upn, n4 k h1 h2]
  · obtain ⟨c1, c2, c3, c4⟩ := n5 j hj
    by_cases e : j = i
    · subst e
      simp (maxSteps := 2000000) (disch := first | rfl | exact q_e1 _ _ _ | exact q_sr1 _ _ | omega) only [q_sr1, q_srn, q_srw, q_srs, q_wIs, q_wIn, q_wI2, q_wJ1, q_wJs, q_wJn, q_wR1, q_wRs, q_wRn, q_wI22, q_wJ22, pk_us, pk_un, pk_uLs, pk_uLn, q_usS, q_usN, q_ups, q_upn, c1, c2, c3, c4, and_self]
    · simp (maxSteps := 2000000) (disch := first | rfl | exact q_e1 _ _ _ | exact q_sr1 _ _ | omega) only [q_sr1, q_srn, q_srw, q_srs, q_wIs, q_wIn, q_wI2, q_wJ1, q_wJs, q_wJn, q_wR1, q_wRs, q_wRn, q_wI22, q_wJ22, pk_us, pk_un, pk_uLs, pk_uLn, q_usS, q_usN, q_ups, q_upn, c1, c2, c3, c4, and_self]
  · rw [ln_un (by omega)] at hk
    have hk8 := hl j hj
    simp (maxSteps := 2000000) (disch := first | rfl | exact q_e1 _ _ _ | exact q_sr1 _ _ | omega) only [q_sr1, q_srn, q_srw, q_srs, q_wIs, q_wIn, q_wI2, q_wJ1, q_wJs, q_wJn, q_wR1, q_wRs, q_wRn, q_wI22, q_wJ22, pk_us, pk_un, pk_uLs, pk_uLn, q_usS, q_usN, q_ups, q_upn, n6 j k hj hk]
  · simp (maxSteps := 2000000) (disch := first | rfl | exact q_e1 _ _ _ | exact q_sr1 _ _ | omega) only [q_sr1, q_srn, q_srw, q_srs, q_wIs, q_wIn, q_wI2, q_wJ1, q_wJs, q_wJn, q_wR1, q_wRs, q_wRn, q_wI22, q_wJ22, pk_us, pk_un, pk_uLs, pk_uLn, q_usS, q_usN, q_ups, q_upn, n7 t ht]
  · have := n8 j hj
    simp (maxSteps := 2000000) (disch := first | rfl | exact q_e1 _ _ _ | exact q_sr1 _ _ | omega) only [q_sr1, q_srn, q_srw, q_srs, q_wIs, q_wIn, q_wI2, q_wJ1, q_wJs, q_wJn, q_wR1, q_wRs, q_wRn, q_wI22, q_wJ22, pk_us, pk_un, pk_uLs, pk_uLn, q_usS, q_usN, q_ups, q_upn]
    exact this
  · have := n9 t ht
    simp (maxSteps := 2000000) (disch := first | rfl | exact q_e1 _ _ _ | exact q_sr1 _ _ | omega) only [q_sr1, q_srn, q_srw, q_srs, q_wIs, q_wIn, q_wI2, q_wJ1, q_wJs, q_wJn, q_wR1, q_wRs, q_wRn, q_wI22, q_wJ22, pk_us, pk_un, pk_uLs, pk_uLn, q_usS, q_usN, q_ups, q_upn]
    exact this
  · obtain ⟨k, g1, g2, g3⟩ := n10 j hj
    refine ⟨k, g1, ?_, ?_⟩
    · simp (maxSteps := 2000000) (disch := first | rfl | exact q_e1 _ _ _ | exact q_sr1 _ _ | omega) only [q_sr1, q_srn, q_srw, q_srs, q_wIs, q_wIn, q_wI2, q_wJ1, q_wJs, q_wJn, q_wR1, q_wRs, q_wRn, q_wI22, q_wJ22, pk_us, pk_un, pk_uLs, pk_uLn, q_usS, q_usN, q_ups, q_upn, g2]
    · simp (maxSteps := 2000000) (disch := first | rfl | exact q_e1 _ _ _ | exact q_sr1 _ _ | omega) only [q_sr1, q_srn, q_srw, q_srs, q_wIs, q_wIn, q_wI2, q_wJ1, q_wJs, q_wJn, q_wR1, q_wRs, q_wRn, q_wI22, q_wJ22, pk_us, pk_un, pk_uLs, pk_uLn, q_usS, q_usN, q_ups, q_upn, g3]
  · obtain ⟨j, g1, g2, g3⟩ := n11 k hk
    refine ⟨j, g1, ?_, ?_⟩
    · simp (maxSteps := 2000000) (disch := first | rfl | exact q_e1 _ _ _ | exact q_sr1 _ _ | omega) only [q_sr1, q_srn, q_srw, q_srs, q_wIs, q_wIn, q_wI2, q_wJ1, q_wJs, q_wJn, q_wR1, q_wRs, q_wRn, q_wI22, q_wJ22, pk_us, pk_un, pk_uLs, pk_uLn, q_usS, q_usN, q_ups, q_upn, g2]
    · simp (maxSteps := 2000000) (disch := first | rfl | exact q_e1 _ _ _ | exact q_sr1 _ _ | omega) only [q_sr1, q_srn, q_srw, q_srs, q_wIs, q_wIn, q_wI2, q_wJ1, q_wJs, q_wJn, q_wR1, q_wRs, q_wRn, q_wI22, q_wJ22, pk_us, pk_un, pk_uLs, pk_uLn, q_usS, q_usN, q_ups, q_upn, g3]
theorem MR.fld {S T : Nat} {μ : OM} {a : Nat → Int32} (h : MR S T μ a) (h8 : S ≤ 8) (t8 : T ≤ 8) {p : Nat} (p2 : 2 ≤ p) (p8 : p ≤ 8) (u : Int32) : MR S T (wI μ 0 p u) (upd a p u) := by
  obtain ⟨⟨n0, n1, n2, n3⟩, n4, n5, n6, n7, n8, n9, n10, n11⟩ := h
  refine ⟨⟨by simp (maxSteps := 2000000) (disch := first | rfl | exact q_e1 _ _ _ | exact q_sr1 _ _ | omega) only [q_sr1, q_srn, q_srw, q_srs, q_wIs, q_wIn, q_wI2, q_wJ1, q_wJs, q_wJn, q_wR1, q_wRs, q_wRn, q_wI22, q_wJ22, pk_us, pk_un, pk_uLs, pk_uLn, q_usS, q_usN, q_ups, q_upn, n0], by simp (maxSteps := 2000000) (disch := first | rfl | exact q_e1 _ _ _ | exact q_sr1 _ _ | omega) only [q_sr1, q_srn, q_srw, q_srs, q_wIs, q_wIn, q_wI2, q_wJ1, q_wJs, q_wJn, q_wR1, q_wRs, q_wRn, q_wI22, q_wJ22, pk_us, pk_un, pk_uLs, pk_uLn, q_usS, q_usN, q_ups, q_upn, n1], by simp (maxSteps := 2000000) (disch := first | rfl | exact q_e1 _ _ _ | exact q_sr1 _ _ | omega) only [q_sr1, q_srn, q_srw, q_srs, q_wIs, q_wIn, q_wI2, q_wJ1, q_wJs, q_wJn, q_wR1, q_wRs, q_wRn, q_wI22, q_wJ22, pk_us, pk_un, pk_uLs, pk_uLn, q_usS, q_usN, q_ups, q_upn, n2], by simp (maxSteps := 2000000) (disch := first | rfl | exact q_e1 _ _ _ | exact q_sr1 _ _ | omega) only [q_sr1, q_srn, q_srw, q_srs, q_wIs, q_wIn, q_wI2, q_wJ1, q_wJs, q_wJn, q_wR1, q_wRs, q_wRn, q_wI22, q_wJ22, pk_us, pk_un, pk_uLs, pk_uLn, q_usS, q_usN, q_ups, q_upn, n3]⟩, fun k h1 h2 => ?_, fun j hj => ?_, fun j k hj hk => ?_, fun t ht => ?_, fun j hj => ?_, fun t ht => ?_, fun j hj => ?_, fun k hk => ?_⟩
  · by_cases e : k = p
    · subst e
      simp (maxSteps := 2000000) (disch := first | rfl | exact q_e1 _ _ _ | exact q_sr1 _ _ | omega) only [q_sr1, q_srn, q_srw, q_srs, q_wIs, q_wIn, q_wI2, q_wJ1, q_wJs, q_wJn, q_wR1, q_wRs, q_wRn, q_wI22, q_wJ22, pk_us, pk_un, pk_uLs, pk_uLn, q_usS, q_usN, q_ups, q_upn]
    · simp (maxSteps := 2000000) (disch := first | rfl | exact q_e1 _ _ _ | exact q_sr1 _ _ | omega) only [q_sr1, q_srn, q_srw, q_srs, q_wIs, q_wIn, q_wI2, q_wJ1, q_wJs, q_wJn, q_wR1, q_wRs, q_wRn, q_wI22, q_wJ22, pk_us, pk_un, pk_uLs, pk_uLn, q_usS, q_usN, q_ups, q_upn, n4 k h1 h2]
  · obtain ⟨c1, c2, c3, c4⟩ := n5 j hj
    simp (maxSteps := 2000000) (disch := first | rfl | exact q_e1 _ _ _ | exact q_sr1 _ _ | omega) only [q_sr1, q_srn, q_srw, q_srs, q_wIs, q_wIn, q_wI2, q_wJ1, q_wJs, q_wJn, q_wR1, q_wRs, q_wRn, q_wI22, q_wJ22, pk_us, pk_un, pk_uLs, pk_uLn, q_usS, q_usN, q_ups, q_upn, c1, c2, c3, c4, and_self]
  · rw [ln_un (by omega)] at hk
    simp (maxSteps := 2000000) (disch := first | rfl | exact q_e1 _ _ _ | exact q_sr1 _ _ | omega) only [q_sr1, q_srn, q_srw, q_srs, q_wIs, q_wIn, q_wI2, q_wJ1, q_wJs, q_wJn, q_wR1, q_wRs, q_wRn, q_wI22, q_wJ22, pk_us, pk_un, pk_uLs, pk_uLn, q_usS, q_usN, q_ups, q_upn, n6 j k hj hk]
  · simp (maxSteps := 2000000) (disch := first | rfl | exact q_e1 _ _ _ | exact q_sr1 _ _ | omega) only [q_sr1, q_srn, q_srw, q_srs, q_wIs, q_wIn, q_wI2, q_wJ1, q_wJs, q_wJn, q_wR1, q_wRs, q_wRn, q_wI22, q_wJ22, pk_us, pk_un, pk_uLs, pk_uLn, q_usS, q_usN, q_ups, q_upn, n7 t ht]
  · have := n8 j hj
    simp (maxSteps := 2000000) (disch := first | rfl | exact q_e1 _ _ _ | exact q_sr1 _ _ | omega) only [q_sr1, q_srn, q_srw, q_srs, q_wIs, q_wIn, q_wI2, q_wJ1, q_wJs, q_wJn, q_wR1, q_wRs, q_wRn, q_wI22, q_wJ22, pk_us, pk_un, pk_uLs, pk_uLn, q_usS, q_usN, q_ups, q_upn]
    exact this
  · have := n9 t ht
    simp (maxSteps := 2000000) (disch := first | rfl | exact q_e1 _ _ _ | exact q_sr1 _ _ | omega) only [q_sr1, q_srn, q_srw, q_srs, q_wIs, q_wIn, q_wI2, q_wJ1, q_wJs, q_wJn, q_wR1, q_wRs, q_wRn, q_wI22, q_wJ22, pk_us, pk_un, pk_uLs, pk_uLn, q_usS, q_usN, q_ups, q_upn]
    exact this
  · obtain ⟨k, g1, g2, g3⟩ := n10 j hj
    refine ⟨k, g1, ?_, ?_⟩
    · simp (maxSteps := 2000000) (disch := first | rfl | exact q_e1 _ _ _ | exact q_sr1 _ _ | omega) only [q_sr1, q_srn, q_srw, q_srs, q_wIs, q_wIn, q_wI2, q_wJ1, q_wJs, q_wJn, q_wR1, q_wRs, q_wRn, q_wI22, q_wJ22, pk_us, pk_un, pk_uLs, pk_uLn, q_usS, q_usN, q_ups, q_upn, g2]
    · simp (maxSteps := 2000000) (disch := first | rfl | exact q_e1 _ _ _ | exact q_sr1 _ _ | omega) only [q_sr1, q_srn, q_srw, q_srs, q_wIs, q_wIn, q_wI2, q_wJ1, q_wJs, q_wJn, q_wR1, q_wRs, q_wRn, q_wI22, q_wJ22, pk_us, pk_un, pk_uLs, pk_uLn, q_usS, q_usN, q_ups, q_upn, g3]
  · obtain ⟨j, g1, g2, g3⟩ := n11 k hk
    refine ⟨j, g1, ?_, ?_⟩
    · simp (maxSteps := 2000000) (disch := first | rfl | exact q_e1 _ _ _ | exact q_sr1 _ _ | omega) only [q_sr1, q_srn, q_srw, q_srs, q_wIs, q_wIn, q_wI2, q_wJ1, q_wJs, q_wJn, q_wR1, q_wRs, q_wRn, q_wI22, q_wJ22, pk_us, pk_un, pk_uLs, pk_uLn, q_usS, q_usN, q_ups, q_upn, g2]
    · simp (maxSteps := 2000000) (disch := first | rfl | exact q_e1 _ _ _ | exact q_sr1 _ _ | omega) only [q_sr1, q_srn, q_srw, q_srs, q_wIs, q_wIn, q_wI2, q_wJ1, q_wJs, q_wJn, q_wR1, q_wRs, q_wRn, q_wI22, q_wJ22, pk_us, pk_un, pk_uLs, pk_uLn, q_usS, q_usN, q_ups, q_upn, g3]
theorem MR.price {S T : Nat} {μ : OM} {a : Nat → Int32} (h : MR S T μ a) (h8 : S ≤ 8) (t8 : T ≤ 8) {q : Nat} (hq : q < T) (u : Int32) : MR S T (wI μ 9 q u) (upd a (9 + 2 * q + 1) u) := by
  obtain ⟨⟨n0, n1, n2, n3⟩, n4, n5, n6, n7, n8, n9, n10, n11⟩ := h
  refine ⟨⟨by simp (maxSteps := 2000000) (disch := first | rfl | exact q_e1 _ _ _ | exact q_sr1 _ _ | omega) only [q_sr1, q_srn, q_srw, q_srs, q_wIs, q_wIn, q_wI2, q_wJ1, q_wJs, q_wJn, q_wR1, q_wRs, q_wRn, q_wI22, q_wJ22, pk_us, pk_un, pk_uLs, pk_uLn, q_usS, q_usN, q_ups, q_upn, n0], by simp (maxSteps := 2000000) (disch := first | rfl | exact q_e1 _ _ _ | exact q_sr1 _ _ | omega) only [q_sr1, q_srn, q_srw, q_srs, q_wIs, q_wIn, q_wI2, q_wJ1, q_wJs, q_wJn, q_wR1, q_wRs, q_wRn, q_wI22, q_wJ22, pk_us, pk_un, pk_uLs, pk_uLn, q_usS, q_usN, q_ups, q_upn, n1], by simp (maxSteps := 2000000) (disch := first | rfl | exact q_e1 _ _ _ | exact q_sr1 _ _ | omega) only [q_sr1, q_srn, q_srw, q_srs, q_wIs, q_wIn, q_wI2, q_wJ1, q_wJs, q_wJn, q_wR1, q_wRs, q_wRn, q_wI22, q_wJ22, pk_us, pk_un, pk_uLs, pk_uLn, q_usS, q_usN, q_ups, q_upn, n2], by simp (maxSteps := 2000000) (disch := first | rfl | exact q_e1 _ _ _ | exact q_sr1 _ _ | omega) only [q_sr1, q_srn, q_srw, q_srs, q_wIs, q_wIn, q_wI2, q_wJ1, q_wJs, q_wJn, q_wR1, q_wRs, q_wRn, q_wI22, q_wJ22, pk_us, pk_un, pk_uLs, pk_uLn, q_usS, q_usN, q_ups, q_upn, n3]⟩, fun k h1 h2 => ?_, fun j hj => ?_, fun j k hj hk => ?_, fun t ht => ?_, fun j hj => ?_, fun t ht => ?_, fun j hj => ?_, fun k hk => ?_⟩
  · simp (maxSteps := 2000000) (disch := first | rfl | exact q_e1 _ _ _ | exact q_sr1 _ _ | omega) only [q_sr1, q_srn, q_srw, q_srs, q_wIs, q_wIn, q_wI2, q_wJ1, q_wJs, q_wJn, q_wR1, q_wRs, q_wRn, q_wI22, q_wJ22, pk_us, pk_un, pk_uLs, pk_uLn, q_usS, q_usN, q_ups, q_upn, n4 k h1 h2]
  · obtain ⟨c1, c2, c3, c4⟩ := n5 j hj
    simp (maxSteps := 2000000) (disch := first | rfl | exact q_e1 _ _ _ | exact q_sr1 _ _ | omega) only [q_sr1, q_srn, q_srw, q_srs, q_wIs, q_wIn, q_wI2, q_wJ1, q_wJs, q_wJn, q_wR1, q_wRs, q_wRn, q_wI22, q_wJ22, pk_us, pk_un, pk_uLs, pk_uLn, q_usS, q_usN, q_ups, q_upn, c1, c2, c3, c4, and_self]
  · rw [ln_un (by omega)] at hk
    simp (maxSteps := 2000000) (disch := first | rfl | exact q_e1 _ _ _ | exact q_sr1 _ _ | omega) only [q_sr1, q_srn, q_srw, q_srs, q_wIs, q_wIn, q_wI2, q_wJ1, q_wJs, q_wJn, q_wR1, q_wRs, q_wRn, q_wI22, q_wJ22, pk_us, pk_un, pk_uLs, pk_uLn, q_usS, q_usN, q_ups, q_upn, n6 j k hj hk]
  · by_cases e : t = q
    · subst e
      simp (maxSteps := 2000000) (disch := first | rfl | exact q_e1 _ _ _ | exact q_sr1 _ _ | omega) only [q_sr1, q_srn, q_srw, q_srs, q_wIs, q_wIn, q_wI2, q_wJ1, q_wJs, q_wJn, q_wR1, q_wRs, q_wRn, q_wI22, q_wJ22, pk_us, pk_un, pk_uLs, pk_uLn, q_usS, q_usN, q_ups, q_upn]
    · simp (maxSteps := 2000000) (disch := first | rfl | exact q_e1 _ _ _ | exact q_sr1 _ _ | omega) only [q_sr1, q_srn, q_srw, q_srs, q_wIs, q_wIn, q_wI2, q_wJ1, q_wJs, q_wJn, q_wR1, q_wRs, q_wRn, q_wI22, q_wJ22, pk_us, pk_un, pk_uLs, pk_uLn, q_usS, q_usN, q_ups, q_upn, n7 t ht]
  · have := n8 j hj
    simp (maxSteps := 2000000) (disch := first | rfl | exact q_e1 _ _ _ | exact q_sr1 _ _ | omega) only [q_sr1, q_srn, q_srw, q_srs, q_wIs, q_wIn, q_wI2, q_wJ1, q_wJs, q_wJn, q_wR1, q_wRs, q_wRn, q_wI22, q_wJ22, pk_us, pk_un, pk_uLs, pk_uLn, q_usS, q_usN, q_ups, q_upn]
    exact this
  · have := n9 t ht
    simp (maxSteps := 2000000) (disch := first | rfl | exact q_e1 _ _ _ | exact q_sr1 _ _ | omega) only [q_sr1, q_srn, q_srw, q_srs, q_wIs, q_wIn, q_wI2, q_wJ1, q_wJs, q_wJn, q_wR1, q_wRs, q_wRn, q_wI22, q_wJ22, pk_us, pk_un, pk_uLs, pk_uLn, q_usS, q_usN, q_ups, q_upn]
    exact this
  · obtain ⟨k, g1, g2, g3⟩ := n10 j hj
    refine ⟨k, g1, ?_, ?_⟩
    · simp (maxSteps := 2000000) (disch := first | rfl | exact q_e1 _ _ _ | exact q_sr1 _ _ | omega) only [q_sr1, q_srn, q_srw, q_srs, q_wIs, q_wIn, q_wI2, q_wJ1, q_wJs, q_wJn, q_wR1, q_wRs, q_wRn, q_wI22, q_wJ22, pk_us, pk_un, pk_uLs, pk_uLn, q_usS, q_usN, q_ups, q_upn, g2]
    · simp (maxSteps := 2000000) (disch := first | rfl | exact q_e1 _ _ _ | exact q_sr1 _ _ | omega) only [q_sr1, q_srn, q_srw, q_srs, q_wIs, q_wIn, q_wI2, q_wJ1, q_wJs, q_wJn, q_wR1, q_wRs, q_wRn, q_wI22, q_wJ22, pk_us, pk_un, pk_uLs, pk_uLn, q_usS, q_usN, q_ups, q_upn, g3]
  · obtain ⟨j, g1, g2, g3⟩ := n11 k hk
    refine ⟨j, g1, ?_, ?_⟩
    · simp (maxSteps := 2000000) (disch := first | rfl | exact q_e1 _ _ _ | exact q_sr1 _ _ | omega) only [q_sr1, q_srn, q_srw, q_srs, q_wIs, q_wIn, q_wI2, q_wJ1, q_wJs, q_wJn, q_wR1, q_wRs, q_wRn, q_wI22, q_wJ22, pk_us, pk_un, pk_uLs, pk_uLn, q_usS, q_usN, q_ups, q_upn, g2]
    · simp (maxSteps := 2000000) (disch := first | rfl | exact q_e1 _ _ _ | exact q_sr1 _ _ | omega) only [q_sr1, q_srn, q_srw, q_srs, q_wIs, q_wIn, q_wI2, q_wJ1, q_wJs, q_wJn, q_wR1, q_wRs, q_wRn, q_wI22, q_wJ22, pk_us, pk_un, pk_uLs, pk_uLn, q_usS, q_usN, q_ups, q_upn, g3]
section WROWS
variable {S T B : Nat} {a : Nat → Int32}
theorem WL.hl (w : WL S T a) : ∀ j, j < S → ln a j ≤ 8 := fun j hj => (w.2.1 j hj).1
/-- a cell that lists and places don't see -/
theorem WL.oth (w : WL S T a) {p : Nat} {u : Int32} (hp : p < 25 ∨ (∃ i, i < 8 ∧ (p = 25 + 13 * i + 1 ∨ p = 25 + 13 * i + 2 ∨ p = 25 + 13 * i)) ∨ 129 ≤ p) : WL S T (upd a p u) := by
  obtain ⟨⟨h8, t8⟩, w1, w2, w3⟩ := w
  have hd : ∀ i k, i < S → 3 ≤ k → k < 13 → 25 + 13 * i + k ≠ p := fun i k hi h3 h13 => by
    rcases hp with h | ⟨j, hj, h⟩ | h <;> omega
  refine ⟨⟨h8, t8⟩, fun i hi => ?_, fun i k hi hk => ?_, fun i hi => ?_⟩
  · rw [ln_un (hd i 4 hi (by omega) (by omega)), pk_un (hd i 4 hi (by omega) (by omega))]; exact w1 i hi
  · rw [ln_un (hd i 4 hi (by omega) (by omega))] at hk
    have := (w1 i hi).1
    rw [pk_un (hd i (5 + k) hi (by omega) (by omega))]; exact w2 i k hi hk
  · rw [pk_un (hd i 3 hi (by omega) (by omega))]; exact w3 i hi
theorem WD.oth (w : WL S T a) (d : WD S a) {p : Nat} {u : Int32} (hp : p < 25 ∨ (∃ i, i < 8 ∧ (p = 25 + 13 * i + 1 ∨ p = 25 + 13 * i + 2 ∨ p = 25 + 13 * i)) ∨ 129 ≤ p) : WD S (upd a p u) := by
  obtain ⟨⟨h8, t8⟩, w1, w2, w3⟩ := w
  have hd : ∀ i k, i < S → 3 ≤ k → k < 13 → 25 + 13 * i + k ≠ p := fun i k hi h3 h13 => by
    rcases hp with h | ⟨j, hj, h⟩ | h <;> omega
  refine ⟨fun i k k' hi hk hk' => ?_, fun i j hi hj => ?_⟩
  · rw [ln_un (hd i 4 hi (by omega) (by omega))] at hk hk'
    have := (w1 i hi).1
    rw [pk_un (hd i (5 + k) hi (by omega) (by omega)), pk_un (hd i (5 + k') hi (by omega) (by omega))]; exact d.1 i k k' hi hk hk'
  · rw [pk_un (hd i 3 hi (by omega) (by omega)), pk_un (hd j 3 hj (by omega) (by omega))]; exact d.2 i j hi hj
theorem WL.seat (w : WL S T a) {i : Nat} (hi : i < S) {u : Int32} (hu : u = m1 ∨ ∃ t, t < T ∧ u = nI t) : WL S T (upd a (25 + 13 * i + 3) u) := by
  obtain ⟨⟨h8, t8⟩, w1, w2, w3⟩ := w
  refine ⟨⟨h8, t8⟩, fun j hj => ?_, fun j k hj hk => ?_, fun j hj => ?_⟩
  · rw [ln_un (by omega), pk_un (by omega)]; exact w1 j hj
  · rw [ln_un (by omega)] at hk
    have := (w1 j hj).1
    rw [pk_un (by omega)]; exact w2 j k hj hk
  · by_cases e : j = i
    · subst e
      rw [pk_us]; exact hu
    · rw [pk_un (by omega)]; exact w3 j hj
theorem WD.seat (w : WL S T a) (d : WD S a) {i : Nat} (hi : i < S) {u : Int32} (hu : u = m1 ∨ ∀ j, j < S → j ≠ i → a (25 + 13 * j + 3) ≠ u) : WD S (upd a (25 + 13 * i + 3) u) := by
  obtain ⟨⟨h8, t8⟩, w1, w2, w3⟩ := w
  refine ⟨fun j k k' hj hk hk' => ?_, fun j j' hj hj' => ?_⟩
  · rw [ln_un (by omega)] at hk hk'
    have := (w1 j hj).1
    rw [pk_un (by omega), pk_un (by omega)]; exact d.1 j k k' hj hk hk'
  · by_cases e : j = i
    · by_cases e' : j' = i
      · intro _ _; omega
      · subst e
        rw [pk_us, pk_un (by omega)]
        intro h1 h2
        rcases hu with h | h
        · exact absurd h h2
        · exact absurd h1.symm (h j' hj' e')
    · by_cases e' : j' = i
      · subst e'
        rw [pk_us, pk_un (by omega)]
        intro h1 h2
        rcases hu with h | h
        · exact absurd (h1.trans h) h2
        · exact absurd h1 (h j hj e)
      · rw [pk_un (by omega), pk_un (by omega)]; exact d.2 j j' hj hj'
theorem WN.oth (n : WN B S T a) {p : Nat} {u : Int32} (hp : (3 ≤ p ∧ p ≤ 8) ∨ (∃ i w, (p = 25 + 13 * i + w) ∧ 3 ≤ w ∧ w < 13) ∨ 129 ≤ p) (h8 : S ≤ 8) (t8 : T ≤ 8) : WN B S T (upd a p u) := by
  obtain ⟨n1, n2, n3, n4⟩ := n
  have hd : ∀ i k, i < S → 1 ≤ k → k < 3 → 25 + 13 * i + k ≠ p := fun i k hi h3 h13 => by
    rcases hp with h | ⟨j, x, hj, h⟩ | h <;> omega
  have ht : ∀ t, t < T → 9 + 2 * t + 1 ≠ p := fun t ht => by
    rcases hp with h | ⟨j, x, hj, h⟩ | h <;> omega
  have h2 : 2 ≠ p := by
    rcases hp with h | ⟨j, x, hj, h⟩ | h <;> omega
  refine ⟨?_, fun t h => ?_, fun i hi => ?_, fun i hi => ?_⟩
  · rw [pk_un h2]; exact n1
  · rw [pk_un (ht t h)]; exact n2 t h
  · rw [pk_un (hd i 2 hi (by omega) (by omega))]; exact n3 i hi
  · rw [pk_un (hd i 1 hi (by omega) (by omega))]; exact n4 i hi
theorem WN.coin (n : WN B S T a) {B' : Nat} (hB : B ≤ B') {i b : Nat} (hi : i < S) (hb : b ≤ B') (h8 : S ≤ 8) (t8 : T ≤ 8) : WN B' S T (upd a (25 + 13 * i + 1) (nI b)) := by
  obtain ⟨n1, n2, n3, n4⟩ := n
  refine ⟨?_, fun t h => ?_, fun j hj => ?_, fun j hj => ?_⟩
  · rw [pk_un (by omega)]; exact n1
  · rw [pk_un (by omega)]; exact n2 t h
  · rw [pk_un (by omega)]; exact n3 j hj
  · by_cases e : j = i
    · subst e
      exact ⟨b, hb, pk_us⟩
    · rw [pk_un (by omega)]
      obtain ⟨x, h1, h2⟩ := n4 j hj
      exact ⟨x, by omega, h2⟩
theorem WN.price (n : WN B S T a) {t r : Nat} (ht : t < T) (hr : r ≤ 99) (h8 : S ≤ 8) (t8 : T ≤ 8) : WN B S T (upd a (9 + 2 * t + 1) (nI r)) := by
  obtain ⟨n1, n2, n3, n4⟩ := n
  refine ⟨?_, fun j h => ?_, fun j hj => ?_, fun j hj => ?_⟩
  · rw [pk_un (by omega)]; exact n1
  · by_cases e : j = t
    · subst e
      exact ⟨r, hr, pk_us⟩
    · rw [pk_un (by omega)]; exact n2 j h
  · rw [pk_un (by omega)]; exact n3 j hj
  · rw [pk_un (by omega)]; exact n4 j hj
theorem WN.day (n : WN B S T a) {d : Nat} (hd : d ≤ 9999) (h8 : S ≤ 8) (t8 : T ≤ 8) : WN B S T (upd a 2 (nI d)) := by
  obtain ⟨n1, n2, n3, n4⟩ := n
  refine ⟨⟨d, hd, pk_us⟩, fun t h => ?_, fun j hj => ?_, fun j hj => ?_⟩
  · rw [pk_un (by omega)]; exact n2 t h
  · rw [pk_un (by omega)]; exact n3 j hj
  · rw [pk_un (by omega)]; exact n4 j hj
end WROWS
section MWR
variable {B : Nat} {μ : OM} {a : Nat → Int32}
/-- both sides' market with its sizes -/
def MX (B S T : Nat) (μ : OM) (a : Nat → Int32) : Prop := MR S T μ a ∧ WF B S T a
theorem MX.fld {S T : Nat} (h : MX B S T μ a) {p : Nat} (h3 : 3 ≤ p) (h8 : p ≤ 8) (u : Int32) : MX B S T (wI μ 0 p u) (upd a p u) :=
  have s8 := h.2.2.1.1.1
  have t8 := h.2.2.1.1.2
  ⟨h.1.fld s8 t8 (by omega) h8 u, h.2.1, h.2.2.1.oth (Or.inl (by omega)), WD.oth h.2.2.1 h.2.2.2.1 (Or.inl (by omega)), h.2.2.2.2.oth (Or.inl ⟨h3, h8⟩) s8 t8⟩
theorem MX.day {S T : Nat} (h : MX B S T μ a) {d : Nat} (hd : d ≤ 9999) : MX B S T (wI μ 0 2 (nI d)) (upd a 2 (nI d)) :=
  have s8 := h.2.2.1.1.1
  have t8 := h.2.2.1.1.2
  ⟨h.1.fld s8 t8 (by omega) (by omega) _, h.2.1, h.2.2.1.oth (Or.inl (by omega)), WD.oth h.2.2.1 h.2.2.2.1 (Or.inl (by omega)), h.2.2.2.2.day hd s8 t8⟩
theorem MX.coin {S T : Nat} (h : MX B S T μ a) {B' i b : Nat} (hB : B ≤ B') (hi : i < S) (hb : b ≤ B') : MX B' S T (wI μ 2 i (nI b)) (upd a (25 + 13 * i + 1) (nI b)) :=
  have s8 := h.2.2.1.1.1
  have t8 := h.2.2.1.1.2
  ⟨h.1.coin s8 t8 hi h.2.2.1.hl _, h.2.1, h.2.2.1.oth (Or.inr (Or.inl ⟨i, by omega, Or.inl rfl⟩)), WD.oth h.2.2.1 h.2.2.2.1 (Or.inr (Or.inl ⟨i, by omega, Or.inl rfl⟩)), h.2.2.2.2.coin hB hi hb s8 t8⟩
theorem MX.price {S T : Nat} (h : MX B S T μ a) {t r : Nat} (ht : t < T) (hr : r ≤ 99) : MX B S T (wI μ 9 t (nI r)) (upd a (9 + 2 * t + 1) (nI r)) :=
  have s8 := h.2.2.1.1.1
  have t8 := h.2.2.1.1.2
  ⟨h.1.price s8 t8 ht _, h.2.1, h.2.2.1.oth (Or.inl (by omega)), WD.oth h.2.2.1 h.2.2.2.1 (Or.inl (by omega)), h.2.2.2.2.price ht hr s8 t8⟩
theorem MX.seat {S T : Nat} (h : MX B S T μ a) {i : Nat} (hi : i < S) {u : Int32} (hu : u = m1 ∨ ∃ t, t < T ∧ u = nI t) (hv : u = m1 ∨ ∀ j, j < S → j ≠ i → a (25 + 13 * j + 3) ≠ u) : MX B S T (wI μ 4 i u) (upd a (25 + 13 * i + 3) u) :=
  have s8 := h.2.2.1.1.1
  have t8 := h.2.2.1.1.2
  ⟨h.1.seat s8 t8 hi h.2.2.1.hl _, h.2.1, h.2.2.1.seat hi hu, WD.seat h.2.2.1 h.2.2.2.1 hi hv, h.2.2.2.2.oth (Or.inr (Or.inl ⟨i, 3, rfl, by omega, by omega⟩)) s8 t8⟩
end MWR

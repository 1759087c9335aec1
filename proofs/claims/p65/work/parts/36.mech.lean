/-! the mechanism on both sides, a step at a time -/
def KW (ω ω' : OM) : Prop := (∀ k, k ≠ 0 → k ≠ 8 → k ≠ 9 → k ≠ 10 → k ≠ 20 → ω'.1 k = ω.1 k) ∧ ∀ j, j ≠ 17 → ω'.1 0 j = ω.1 0 j
theorem KW.rf (ω : OM) : KW ω ω := ⟨fun _ _ _ _ _ _ => rfl, fun _ _ => rfl⟩
theorem KW.tr {ω ω' ω'' : OM} (h : KW ω ω') (g : KW ω' ω'') : KW ω ω'' := ⟨fun k a b c d e => (g.1 k a b c d e).trans (h.1 k a b c d e), fun j hj => (g.2 j hj).trans (h.2 j hj)⟩
theorem OW.kw {S T : Nat} {ω ω' : OM} {a : Nat → Int32} (o : OW S T ω a) (k : KW ω ω') (S8 : S ≤ 8) : OW S T ω' a := by
  obtain ⟨⟨o1, o2, o3⟩, o4, o5, o6, o7⟩ := o
  obtain ⟨k1, k2⟩ := k
  refine ⟨⟨(k2 15 (by omega)).trans o1, (k2 14 (by omega)).trans o2, (k2 16 (by omega)).trans o3⟩, fun i hi => ?_, fun i q hi hq => ?_, fun t ht => ?_, fun q hq => ?_⟩
  · rw [k1 3 (by omega) (by omega) (by omega) (by omega) (by omega), k1 4 (by omega) (by omega) (by omega) (by omega) (by omega), k1 5 (by omega) (by omega) (by omega) (by omega) (by omega), k1 6 (by omega) (by omega) (by omega) (by omega) (by omega)]; exact o4 i hi
  · rw [k1 (12 + i) (by omega) (by omega) (by omega) (by omega) (by omega)]; exact o5 i q hi hq
  · rw [k1 2 (by omega) (by omega) (by omega) (by omega) (by omega)]; exact o6 t ht
  · rw [k1 7 (by omega) (by omega) (by omega) (by omega) (by omega)]; exact o7 q hq
def Mm (S T : Nat) (a : Nat → Int32) (α ω : OM) (C R : List Nat) (fin tk : Nat → Bool) (rq : Nat → Int32) : Prop :=
  (α.1 0 4 = nI C.length ∧ ∀ k x, C[k]? = some x → α.1 4 k = nI x) ∧
  (∀ i, i < S → α.1 2 i = tv (fin i)) ∧ (∀ t, t < T → α.1 3 t = tv (tk t)) ∧ (∀ i, i < S → α.1 1 i = rq i) ∧
  LN ω (C.reverse ++ R) ∧ (∀ t, t < T → ω.1 20 t = tv (tk t)) ∧ (∀ i, i < S → fin i = true → ω.1 10 i = rq i) ∧ (∀ i, i ∈ R → ω.1 9 i = m1) ∧
  (∀ k x y, C[k]? = some x → C[k + 1]? = some y → ω.1 9 x = rq x) ∧ OW S T ω a
section MECH
variable {S T : Nat} {μ α ω : OM} {a : Nat → Int32} {fin tk : Nat → Bool} {rq : Nat → Int32} {tm : Nat → Nat} {τ : Nat}
theorem getD_at {C : List Nat} {k x : Nat} (h : C[k]? = some x) : C.getD k 0 = x := by rw [List.getD_eq_getElem?_getD, h]; rfl
theorem seg_mem {P D : List Nat} {i : Nat} : (∃ j, j < (P ++ D).length - P.length ∧ (P ++ D).getD (P.length + j) 0 = i) ↔ i ∈ D := by
  have e : ∀ j, (P ++ D)[P.length + j]? = D[j]? := fun j => by rw [List.getElem?_append_right (by omega), show P.length + j - P.length = j by omega]
  have el : (P ++ D).length - P.length = D.length := by rw [List.length_append]; omega
  rw [el]
  constructor
  · rintro ⟨j, hj, q⟩
    have hd : D[j]? = some D[j] := List.getElem?_eq_getElem hj
    have := getD_at ((e j).trans hd)
    rw [q] at this
    rw [this]; exact List.getElem_mem hj
  · intro h
    obtain ⟨j, hj⟩ := List.getElem?_of_mem h
    exact ⟨j, (List.getElem?_eq_some_iff.mp hj).1, getD_at ((e j).trans hj)⟩
/-- the class finishes the chain's end -/
theorem fin_class (S8 : S ≤ 8) (t8 : T ≤ 8) {P D0 : List Nat} {x : Nat} {v : Int32} (hn : α.1 0 4 = nI (P ++ (D0 ++ [x])).length) (h4 : ∀ k y, (P ++ (D0 ++ [x]))[k]? = some y → α.1 4 k = nI y) (hc8 : (P ++ (D0 ++ [x])).length ≤ 8) (hin : ∀ y, y ∈ P ++ (D0 ++ [x]) → y < S) (h2 : ∀ i, i < S → α.1 2 i = tv (fin i)) (h3 : ∀ t, t < T → α.1 3 t = tv (tk t)) (h1 : ∀ i, i < S → α.1 1 i = rq i) (hr : ∀ i, i < S → upd rq x v i = m1 ∨ ∃ t, t < T ∧ upd rq x v i = nI t) : ∃ (α' : OM) (fin' tk' : Nat → Bool), f_X1_finishFrom (nI P.length) (wI α 1 x v) = some α' ∧ α'.1 0 4 = nI P.length ∧ (∀ k, k ≠ 0 → k ≠ 2 → k ≠ 3 → α'.1 k = (wI α 1 x v).1 k) ∧ (∀ i, i < S → α'.1 2 i = tv (fin' i)) ∧ (∀ t, t < T → α'.1 3 t = tv (tk' t)) ∧ (∀ i, i < S → (fin' i = true ↔ fin i = true ∨ i ∈ D0 ++ [x])) ∧ ∀ t, t < T → (tk' t = true ↔ tk t = true ∨ ∃ i, i ∈ D0 ++ [x] ∧ upd rq x v i = nI t) := by
  have e1 : ∀ i, i < S → (wI α 1 x v).1 1 i = upd rq x v i := fun i hi => by
    rw [q_wIs]
    by_cases e : i = x
    · subst e; rw [pk_us, pk_us]
    · rw [pk_un e, pk_un e]; exact h1 i hi
  have hat : ∀ k, k < (P ++ (D0 ++ [x])).length → (P ++ (D0 ++ [x]))[k]? = some ((P ++ (D0 ++ [x])).getD k 0) := fun k hk => by
    rw [List.getElem?_eq_getElem hk, List.getD_eq_getElem?_getD, List.getElem?_eq_getElem hk]; rfl
  have hch : ∀ k, k < (P ++ (D0 ++ [x])).length → (P ++ (D0 ++ [x])).getD k 0 < S ∧ (wI α 1 x v).1 4 k = nI ((P ++ (D0 ++ [x])).getD k 0) := fun k hk => ⟨hin _ (mem_at (hat k hk)), by rw [q_wIn (by omega)]; exact h4 k _ (hat k hk)⟩
  obtain ⟨α', f1, f2, f3, f4, f5⟩ := s_fin (α := wI α 1 x v) (fin := fin) (tk := tk) (ch := fun k => (P ++ (D0 ++ [x])).getD k 0) (p := P.length) (c := (P ++ (D0 ++ [x])).length) S8 t8 (by rw [List.length_append]; omega) hc8 (by rw [q_wIn (by omega)]; exact hn) hch (fun k hk => by
    rw [e1 _ (hch k hk).1]; exact hr _ (hch k hk).1) (fun i hi => by rw [q_wIn (by omega)]; exact h2 i hi) (fun t ht => by rw [q_wIn (by omega)]; exact h3 t ht)
  refine ⟨α', _, _, f1, f2, f3, f4, f5, fun i hi => ?_, fun t ht => ?_⟩
  · rw [finN_iff, seg_mem]
  · rw [tkN_iff]
    refine or_congr Iff.rfl ?_
    constructor
    · rintro ⟨j, hj, q⟩
      have hjl : P.length + j < (P ++ (D0 ++ [x])).length := by omega
      refine ⟨_, seg_mem.mp ⟨j, hj, rfl⟩, ?_⟩
      rw [← e1 _ (hch _ hjl).1]; exact q
    · rintro ⟨i, hi, q⟩
      obtain ⟨j, hj, ej⟩ := seg_mem (P := P) |>.mpr hi
      refine ⟨j, hj, ?_⟩
      rw [ej, e1 i (hin i (List.mem_append_right _ hi))]; exact q
/-- what finishing leaves on both sides -/
theorem fin_mm {P D0 R : List Nat} {x : Nat} {v : Int32} (hm : Mm S T a α ω (P ++ (D0 ++ [x])) R fin tk rq) (hs : Sm S T a (P ++ (D0 ++ [x])) R fin tk rq tm τ) (S8 : S ≤ 8) (t8 : T ≤ 8) {α' ω' : OM} {fin' tk' : Nat → Bool} (f2 : α'.1 0 4 = nI P.length) (f3 : ∀ k, k ≠ 0 → k ≠ 2 → k ≠ 3 → α'.1 k = (wI α 1 x v).1 k) (f4 : ∀ i, i < S → α'.1 2 i = tv (fin' i)) (f5 : ∀ t, t < T → α'.1 3 t = tv (tk' t)) (hfin : ∀ i, i < S → (fin' i = true ↔ fin i = true ∨ i ∈ D0 ++ [x])) (htk : ∀ t, t < T → (tk' t = true ↔ tk t = true ∨ ∃ i, i ∈ D0 ++ [x] ∧ upd rq x v i = nI t))
    (g2 : LN ω' (P.reverse ++ R)) (g3 : ∀ k, k ≠ 0 → k ≠ 8 → k ≠ 10 → k ≠ 20 → ω'.1 k = (wI ω 9 x v).1 k) (g4 : ∀ j, j ≠ 17 → ω'.1 0 j = ω.1 0 j) (g5 : ∀ i, ω'.1 10 i = if i ∈ D0 ++ [x] then upd rq x v i else ω.1 10 i) (g6 : ∀ t, t < 8 → ω'.1 20 t = if (∃ i, i ∈ D0 ++ [x] ∧ upd rq x v i = nI t) then nI 1 else ω.1 20 t) : Mm S T a α' ω' P R fin' tk' (upd rq x v) ∧ KW ω ω' := by
  obtain ⟨⟨m1', m2⟩, m3, m4, m5, m6, m7, m8, m9, m10, m11⟩ := hm
  have kw : KW ω ω' := ⟨fun k h0 h8 h9 h10 h20 => (g3 k h0 h8 h10 h20).trans (q_wIn h9), g4⟩
  have inC : ∀ i, i ∈ D0 ++ [x] → i < S ∧ fin i = false := fun i hi => (hs.2.1 i).mp (List.mem_append_left _ (List.mem_append_right _ hi))
  have nd1 := List.nodup_append.mp hs.1
  have ndC := List.nodup_append.mp nd1.1
  have hxf := (inC x (by simp)).2
  have eb : ∀ t, t < T → (¬ ∃ i, i ∈ D0 ++ [x] ∧ upd rq x v i = nI t) → tk' t = tk t := fun t ht hno => by
    cases h : tk t with
    | true => exact (htk t ht).mpr (Or.inl h)
    | false =>
      cases h' : tk' t with
      | false => rfl
      | true =>
        rcases (htk t ht).mp h' with q | q
        · rw [h] at q; cases q
        · exact absurd q hno
  have row9 : ∀ i, i ≠ x → ω'.1 9 i = ω.1 9 i := fun i hi => by rw [g3 9 (by omega) (by omega) (by omega) (by omega), q_wIs, pk_un hi]
  refine ⟨⟨⟨f2, fun k y hk => ?_⟩, f4, f5, fun i hi => ?_, g2, fun t ht => ?_, fun i hi fi => ?_, fun i hi => ?_, fun k y z hy hz => ?_, m11.kw kw S8⟩, kw⟩
  · rw [f3 4 (by omega) (by omega) (by omega), q_wIn (by omega)]
    exact m2 k y (by rw [List.getElem?_append_left (List.getElem?_eq_some_iff.mp hk).1]; exact hk)
  · rw [f3 1 (by omega) (by omega) (by omega), q_wIs]
    by_cases e : i = x
    · subst e; rw [pk_us, pk_us]
    · rw [pk_un e, pk_un e]; exact m5 i hi
  · rw [g6 t (by omega)]
    by_cases e : ∃ i, i ∈ D0 ++ [x] ∧ upd rq x v i = nI t
    · rw [if_pos e, (htk t ht).mpr (Or.inr e)]; rfl
    · rw [if_neg e, eb t ht e]; exact m7 t ht
  · rw [g5 i]
    by_cases e : i ∈ D0 ++ [x]
    · rw [if_pos e]
    · rw [if_neg e]
      rcases (hfin i hi).mp fi with q | q
      · rw [pk_un (fun z => by rw [z, hxf] at q; cases q)]; exact m8 i hi q
      · exact absurd q e
  · have hix : i ≠ x := fun e => nd1.2.2 x (List.mem_append_right _ (by simp)) i hi e.symm
    rw [row9 i hix]; exact m9 i hi
  · have hyx : y ≠ x := fun e => ndC.2.2 y (mem_at hy) x (by simp) e
    rw [row9 y hyx, pk_un hyx]
    exact m10 k y z (by rw [List.getElem?_append_left (List.getElem?_eq_some_iff.mp hy).1]; exact hy) (by rw [List.getElem?_append_left (List.getElem?_eq_some_iff.mp hz).1]; exact hz)
theorem place_in (S8 : S ≤ 8) {P1 D : List Nat} {y : Nat} (hn : α.1 0 4 = nI (P1 ++ y :: D).length) (h4 : ∀ k z, (P1 ++ y :: D)[k]? = some z → α.1 4 k = nI z) (hc8 : (P1 ++ y :: D).length ≤ 8) (hin : ∀ z, z ∈ P1 ++ y :: D → z < S) (hy : y ∉ P1) : f_X1_placeInChain (nI y) α = some (nI P1.length) := by
  have el : (P1 ++ y :: D).length = P1.length + 1 + D.length := by simp; omega
  rw [el] at hn hc8
  have hyS := hin y (by simp)
  have key : ∀ r k m, k + r = P1.length → r < m → f_X1_placeInChain_2 (nI y) α m (nI k) = some (nI P1.length) := by
    intro r
    induction r with
    | zero =>
      intro k m hk hm
      obtain ⟨m, rfl⟩ : ∃ q, m = q + 1 := ⟨m - 1, by omega⟩
      obtain rfl : k = P1.length := by omega
      have e := h4 P1.length y (by rw [List.getElem?_append_right (Nat.le_refl _), Nat.sub_self]; rfl)
      simp (maxSteps := 2000000) (disch := first | rfl | exact q_e1 _ _ _ | exact q_sr1 _ _ | omega) only [f_X1_placeInChain_2, ↓q_m1, q_l0, q_l1, q_l2, q_l3, q_l4, q_l5, q_l6, q_l7, q_l8, q_l9, q_l10, q_l11, q_l12, q_l13, q_l14, q_l15, q_l16, q_l17, q_l18, q_l19, q_l20, q_l21, q_l22, q_l23, q_l24, q_l25, q_l26, q_l27, q_l28, q_l29, q_l30, q_l31, q_l32, q_l33, q_l45, q_l46, q_l48, q_l57, q_l58, q_l59, q_l60, q_l61, q_l62, q_l63, q_l64, q_l96, q_l97, q_l99, q_l122, q_l129, q_l137, q_l255, q_l256, q_l400, q_l680, q_l700, q_l959, q_l999, q_l9999, q_l10000, q_l100000, q_l36, q_l50, q_l100, q_l112, q_l200, q_ltT, q_ltF, q_leT, q_leF, q_eqF, q_eqR, q_mlt, q_mle, q_nlm, q_nLm, q_nem, q_men, q_mlm, Nat.add_zero, Nat.sub_zero, q_add0, pk_rem, nI_add, pk_mul, q_sub, q_subm, q_addm, nI_clamp, q_inT, q_inF, q_sr1, q_srn, q_srw, q_srs, q_wIs, q_wIn, q_wI2, q_wJ1, q_wJs, q_wJn, q_wR1, q_wRs, q_wRn, q_wI22, q_wJ22, pk_us, pk_un, pk_uLs, pk_uLn, q_usS, q_usN, q_ups, q_upn, Bool.true_eq_false, Bool.false_eq_true, q_lt, q_o2, q_o3, q_o4, q_o5, q_bi, ↓reduceIte, q_tv0, q_tv1, q_bz, q_oRl, q_oRr, q_oXl, q_oXr, hn, e]
    | succ r ih =>
      intro k m hk hm
      obtain ⟨m, rfl⟩ : ∃ q, m = q + 1 := ⟨m - 1, by omega⟩
      have hkl : k < P1.length := by omega
      have hx : P1[k]? = some P1[k] := List.getElem?_eq_getElem hkl
      have e := h4 k P1[k] (by rw [List.getElem?_append_left hkl]; exact hx)
      have z1 := hin P1[k] (List.mem_append_left _ (List.getElem_mem hkl))
      have z2 : P1[k] ≠ y := fun e => hy (e ▸ List.getElem_mem hkl)
      generalize P1[k] = z at e z1 z2
      simp (maxSteps := 2000000) (disch := first | rfl | exact q_e1 _ _ _ | exact q_sr1 _ _ | omega) only [f_X1_placeInChain_2, ↓q_m1, q_l0, q_l1, q_l2, q_l3, q_l4, q_l5, q_l6, q_l7, q_l8, q_l9, q_l10, q_l11, q_l12, q_l13, q_l14, q_l15, q_l16, q_l17, q_l18, q_l19, q_l20, q_l21, q_l22, q_l23, q_l24, q_l25, q_l26, q_l27, q_l28, q_l29, q_l30, q_l31, q_l32, q_l33, q_l45, q_l46, q_l48, q_l57, q_l58, q_l59, q_l60, q_l61, q_l62, q_l63, q_l64, q_l96, q_l97, q_l99, q_l122, q_l129, q_l137, q_l255, q_l256, q_l400, q_l680, q_l700, q_l959, q_l999, q_l9999, q_l10000, q_l100000, q_l36, q_l50, q_l100, q_l112, q_l200, q_ltT, q_ltF, q_leT, q_leF, q_eqF, q_eqR, q_mlt, q_mle, q_nlm, q_nLm, q_nem, q_men, q_mlm, Nat.add_zero, Nat.sub_zero, q_add0, pk_rem, nI_add, pk_mul, q_sub, q_subm, q_addm, nI_clamp, q_inT, q_inF, q_sr1, q_srn, q_srw, q_srs, q_wIs, q_wIn, q_wI2, q_wJ1, q_wJs, q_wJn, q_wR1, q_wRs, q_wRn, q_wI22, q_wJ22, pk_us, pk_un, pk_uLs, pk_uLn, q_usS, q_usN, q_ups, q_upn, Bool.true_eq_false, Bool.false_eq_true, q_lt, q_o2, q_o3, q_o4, q_o5, q_bi, ↓reduceIte, q_tv0, q_tv1, q_bz, q_oRl, q_oRr, q_oXl, q_oXr, hn, e]
      exact ih (k + 1) m (by omega) (by omega)
  exact key P1.length 0 FU (by omega) (fu_lt (by omega))
theorem place_no (S8 : S ≤ 8) {C : List Nat} {y : Nat} (hn : α.1 0 4 = nI C.length) (h4 : ∀ k z, C[k]? = some z → α.1 4 k = nI z) (hc8 : C.length ≤ 8) (hin : ∀ z, z ∈ C → z < S) (y8 : y < 8) (hy : y ∉ C) : f_X1_placeInChain (nI y) α = some m1 := by
  have key : ∀ r k m, k + r = C.length → r < m → f_X1_placeInChain_2 (nI y) α m (nI k) = some m1 := by
    intro r
    induction r with
    | zero =>
      intro k m hk hm
      obtain ⟨m, rfl⟩ : ∃ q, m = q + 1 := ⟨m - 1, by omega⟩
      obtain rfl : k = C.length := by omega
      simp (maxSteps := 2000000) (disch := first | rfl | exact q_e1 _ _ _ | exact q_sr1 _ _ | omega) only [f_X1_placeInChain_2, ↓q_m1, q_l0, q_l1, q_l2, q_l3, q_l4, q_l5, q_l6, q_l7, q_l8, q_l9, q_l10, q_l11, q_l12, q_l13, q_l14, q_l15, q_l16, q_l17, q_l18, q_l19, q_l20, q_l21, q_l22, q_l23, q_l24, q_l25, q_l26, q_l27, q_l28, q_l29, q_l30, q_l31, q_l32, q_l33, q_l45, q_l46, q_l48, q_l57, q_l58, q_l59, q_l60, q_l61, q_l62, q_l63, q_l64, q_l96, q_l97, q_l99, q_l122, q_l129, q_l137, q_l255, q_l256, q_l400, q_l680, q_l700, q_l959, q_l999, q_l9999, q_l10000, q_l100000, q_l36, q_l50, q_l100, q_l112, q_l200, q_ltT, q_ltF, q_leT, q_leF, q_eqF, q_eqR, q_mlt, q_mle, q_nlm, q_nLm, q_nem, q_men, q_mlm, Nat.add_zero, Nat.sub_zero, q_add0, pk_rem, nI_add, pk_mul, q_sub, q_subm, q_addm, nI_clamp, q_inT, q_inF, q_sr1, q_srn, q_srw, q_srs, q_wIs, q_wIn, q_wI2, q_wJ1, q_wJs, q_wJn, q_wR1, q_wRs, q_wRn, q_wI22, q_wJ22, pk_us, pk_un, pk_uLs, pk_uLn, q_usS, q_usN, q_ups, q_upn, Bool.true_eq_false, Bool.false_eq_true, q_lt, q_o2, q_o3, q_o4, q_o5, q_bi, ↓reduceIte, q_tv0, q_tv1, q_bz, q_oRl, q_oRr, q_oXl, q_oXr, hn]
    | succ r ih =>
      intro k m hk hm
      obtain ⟨m, rfl⟩ : ∃ q, m = q + 1 := ⟨m - 1, by omega⟩
      have hkl : k < C.length := by omega
      have e := h4 k C[k] (List.getElem?_eq_getElem hkl)
      have z1 := hin C[k] (List.getElem_mem hkl)
      have z2 : C[k] ≠ y := fun e => hy (e ▸ List.getElem_mem hkl)
      generalize C[k] = z at e z1 z2
      simp (maxSteps := 2000000) (disch := first | rfl | exact q_e1 _ _ _ | exact q_sr1 _ _ | omega) only [f_X1_placeInChain_2, ↓q_m1, q_l0, q_l1, q_l2, q_l3, q_l4, q_l5, q_l6, q_l7, q_l8, q_l9, q_l10, q_l11, q_l12, q_l13, q_l14, q_l15, q_l16, q_l17, q_l18, q_l19, q_l20, q_l21, q_l22, q_l23, q_l24, q_l25, q_l26, q_l27, q_l28, q_l29, q_l30, q_l31, q_l32, q_l33, q_l45, q_l46, q_l48, q_l57, q_l58, q_l59, q_l60, q_l61, q_l62, q_l63, q_l64, q_l96, q_l97, q_l99, q_l122, q_l129, q_l137, q_l255, q_l256, q_l400, q_l680, q_l700, q_l959, q_l999, q_l9999, q_l10000, q_l100000, q_l36, q_l50, q_l100, q_l112, q_l200, q_ltT, q_ltF, q_leT, q_leF, q_eqF, q_eqR, q_mlt, q_mle, q_nlm, q_nLm, q_nem, q_men, q_mlm, Nat.add_zero, Nat.sub_zero, q_add0, pk_rem, nI_add, pk_mul, q_sub, q_subm, q_addm, nI_clamp, q_inT, q_inF, q_sr1, q_srn, q_srw, q_srs, q_wIs, q_wIn, q_wI2, q_wJ1, q_wJs, q_wJn, q_wR1, q_wRs, q_wRn, q_wI22, q_wJ22, pk_us, pk_un, pk_uLs, pk_uLn, q_usS, q_usN, q_ups, q_upn, Bool.true_eq_false, Bool.false_eq_true, q_lt, q_o2, q_o3, q_o4, q_o5, q_bi, ↓reduceIte, q_tv0, q_tv1, q_bz, q_oRl, q_oRr, q_oXl, q_oXr, hn, e]
      exact ih (k + 1) m (by omega) (by omega)
  exact key C.length 0 FU (by omega) (fu_lt (by omega))
end MECH

/-! a step, and all of them -/
theorem split_mem {L : List Nat} {y : Nat} (h : y ∈ L) (hn : L.Nodup) : ∃ s t, L = s ++ y :: t ∧ y ∉ s := by
  obtain ⟨s, t, e⟩ := List.append_of_mem h
  rw [e] at hn
  exact ⟨s, t, e, fun q => (List.nodup_append.mp hn).2.2 y q y (by simp) rfl⟩
section STEP
variable {S T : Nat} {μ α ω : OM} {a : Nat → Int32} {fin tk : Nat → Bool} {rq : Nat → Int32} {tm : Nat → Nat} {τ : Nat}
/-- the chain's last is served, the line's first is looked at -/
theorem step_two (h : MR S T μ a) (w : WL S T a) (d : WD S a) {P R : List Nat} {x : Nat} (hm : Mm S T a α ω (P ++ [x]) R fin tk rq) (hs : Sm S T a (P ++ [x]) R fin tk rq tm τ) : ∃ (α' ω' : OM) (C' R' : List Nat) (fin' tk' : Nat → Bool) (rq' : Nat → Int32) (tm' : Nat → Nat), f_X1_serve (nI x) μ α = some α' ∧ (∀ n, f_X13_mechanism_73 (n + 1) ω = f_X13_mechanism_73 n ω') ∧ Mm S T a α' ω' C' R' fin' tk' rq' ∧ Sm S T a C' R' fin' tk' rq' tm' (τ + 1) ∧ KW ω ω' ∧ C'.length + 2 * R'.length + 1 ≤ (P ++ [x]).length + 2 * R.length := by
  have S8 := w.1.1
  have t8 := w.1.2
  obtain ⟨⟨m1', m2⟩, m3, m4, m5, m6, m7, m8, m9, m10, m11⟩ := id hm
  obtain ⟨s1, s2, s3, s4, s5, s6, s7, s8, s9, s10⟩ := id hs
  have inC : ∀ i, i ∈ P ++ [x] → i < S ∧ fin i = false := fun i hi => (s2 i).mp (List.mem_append_left _ hi)
  obtain ⟨hxS, hxf⟩ := inC x (by simp)
  have fav := fav_rqv w hxS tk
  have hv := rqv_c w hxS tk
  have hlen : (P ++ [x]).length = P.length + 1 := by simp
  have hl8 : (P ++ [x]).length + R.length ≤ 8 := by
    have := m6.2.1
    rw [List.length_append, List.length_reverse] at this
    exact this
  have hln : (P ++ [x]).reverse ++ R = x :: (P.reverse ++ R) := by
    rw [List.reverse_append]; rfl
  have hline := m6
  rw [hln] at hline
  have e80 := (hline.2.2 0 x rfl).2
  have e17 := hline.1
  have hl17 : (x :: (P.reverse ++ R)).length ≤ 8 := hline.2.1
  have hav := s_avail h w hxS (α := α) m4
  have hoa := o_avail m11 w hxS (ω := ω) m7
  have hll := (w.2.1 x hxS)
  have e6 : ω.1 6 x = nI (ln a x) := (m11.2.1 x hxS).2.2.2.trans hll.2
  have hr4 : ∀ i, i < S → upd rq x (rqv tk a x) i = m1 ∨ ∃ t, t < T ∧ upd rq x (rqv tk a x) i = nI t := fun i hi => by
    by_cases e : i = x
    · subst e
      rw [pk_us]
      rcases hv with q | ⟨t, ht, q, _⟩
      · exact Or.inl q
      · exact Or.inr ⟨t, ht, q⟩
    · rw [pk_un e]; exact s4 i hi
  have hrT : ∀ t, t < T → (wI ω 9 x (rqv tk a x)).1 20 t = tv (tk t) := fun t ht => (congrFun (q_wIn (by omega)) t).trans (m7 t ht)
  have o19 : OW S T (wI ω 9 x (rqv tk a x)) a := m11.kw ⟨fun k _ _ h9 _ _ => q_wIn h9, fun j _ => congrFun (q_wIn (by omega)) j⟩ S8
  have ln19 : LN (wI ω 9 x (rqv tk a x)) (x :: (P.reverse ++ R)) := ⟨(congrFun (q_wIn (by omega)) 17).trans hline.1, hline.2.1, fun k z hz => ⟨(hline.2.2 k z hz).1, (congrFun (q_wIn (by omega)) k).trans (hline.2.2 k z hz).2⟩⟩
  have hst : f_X1_serve (nI x) μ α = (f_X5_holderOf (rqv tk a x) μ).bind fun r3 => (if r3 = m1 then f_X1_finishFrom (nI P.length) (wI α 1 x (rqv tk a x)) else if r3 = nI x then f_X1_finishFrom (nI P.length) (wI α 1 x (rqv tk a x)) else if inb r3 8 = true then (if α.1 2 r3.toNatClampNeg = nI 0 then (f_X1_placeInChain r3 (wI α 1 x (rqv tk a x))).bind fun r9 => (if r9 = m1 then f_X1_append r3 (wI α 1 x (rqv tk a x)) else f_X1_finishFrom r9 (wI α 1 x (rqv tk a x))) else f_X1_finishFrom (nI P.length) (wI α 1 x (rqv tk a x))) else none) := by
    have e4 : (wI α 1 x (rqv tk a x)).1 0 4 = nI (P.length + 1) := (congrFun (q_wIn (by omega)) 4).trans (by rw [m1', hlen])
    have b1 : ∀ z : Option OM, (z.bind fun α5 => some α5) = z := fun z => by cases z <;> rfl
    have e2 : (wI α 1 x (rqv tk a x)).1 2 = α.1 2 := q_wIn (by omega)
    unfold f_X1_serve
    rw [hav, q_bi]
    simp only [b1, ↓q_m1, q_l0, q_l1, q_lt, e4, e2, q_sub (show 1 ≤ P.length + 1 by omega), Nat.add_sub_cancel, nI_clamp (show x < 2 ^ 31 by omega), q_inT (show x < 8 by omega) (show x < 2 ^ 31 by omega), ↓reduceIte]
  -- one alone
  have alone : (∀ t, t < T → rqv tk a x = nI t → ∀ y, y < S → occ S a (nI t) = nI y → y = x ∨ fin y = true) → f_X1_serve (nI x) μ α = f_X1_finishFrom (nI P.length) (wI α 1 x (rqv tk a x)) → (∀ n, f_X13_mechanism_73 (n + 1) ω = (f_X13_give (nI x) (rqv tk a x) (wI ω 9 x (rqv tk a x))).bind fun z => f_X13_mechanism_73 n z) → ∃ (α' ω' : OM) (C' R' : List Nat) (fin' tk' : Nat → Bool) (rq' : Nat → Int32) (tm' : Nat → Nat), f_X1_serve (nI x) μ α = some α' ∧ (∀ n, f_X13_mechanism_73 (n + 1) ω = f_X13_mechanism_73 n ω') ∧ Mm S T a α' ω' C' R' fin' tk' rq' ∧ Sm S T a C' R' fin' tk' rq' tm' (τ + 1) ∧ KW ω ω' ∧ C'.length + 2 * R'.length + 1 ≤ (P ++ [x]).length + 2 * R.length := by
    intro hc hcl how
    have hm0 : Mm S T a α ω (P ++ ([] ++ [x])) R fin tk rq := hm
    have hs0 : Sm S T a (P ++ ([] ++ [x])) R fin tk rq tm τ := hs
    obtain ⟨α', fin', tk', f1, f2, f3, f4, f5, f6, f7⟩ := fin_class (D0 := []) (v := rqv tk a x) S8 t8 m1' m2 (by show (P ++ [x]).length ≤ 8; omega) (fun y hy => (inC y hy).1) m3 m4 m5 hr4
    obtain ⟨ω', g1, g2, g3, g4, g5, g6⟩ := o_give (X := []) (Y := P.reverse ++ R) (y := x) ln19 (by simp) (v := rqv tk a x) (by
      rcases hv with q | ⟨t, ht, q, _⟩
      · exact Or.inl q
      · exact Or.inr ⟨t, by omega, q⟩)
    have em : ∀ i, i ∈ ([] : List Nat) ++ [x] ↔ i = x := fun i => by simp
    obtain ⟨k1, k2⟩ := fin_mm (v := rqv tk a x) hm0 hs0 S8 t8 f2 f3 f4 f5 f6 f7 g2 g3 (fun j hj => (g4 j hj).trans (congrFun (q_wIn (by omega)) j)) (fun i => by
      rw [g5, q_wIn (by omega)]
      by_cases e : i = x
      · subst e; rw [pk_us, if_pos ((em i).mpr rfl), pk_us]
      · rw [pk_un e, if_neg (fun q => e ((em i).mp q))]) (fun t ht => by
      rw [g6 t ht, q_wIn (by omega)]
      by_cases e : rqv tk a x = nI t
      · rw [if_pos e, if_pos ⟨x, (em x).mpr rfl, by rw [pk_us]; exact e⟩]
      · rw [if_neg e, if_neg (fun ⟨i, q1, q2⟩ => e (by rw [(em i).mp q1, pk_us] at q2; exact q2))])
    refine ⟨α', ω', P, R, fin', tk', _, fun i => if i ∈ [] ++ [x] then τ else tm i, hcl.trans f1, fun n => by rw [how n, g1]; rfl, k1, hs0.done w d fav (fun _ => rfl) (fun t ht e => Or.inl ⟨rfl, hc t ht e⟩) f6 f7 (fun _ => rfl), k2, by rw [hlen]; omega⟩
  have step73 : ∀ n, f_X13_mechanism_73 (n + 1) ω = (if rqv tk a x = m1 then (f_X13_give (nI x) (rqv tk a x) (wI ω 9 x (rqv tk a x))).bind fun z => f_X13_mechanism_73 n z else if occ S a (rqv tk a x) = m1 then (f_X13_give (nI x) (rqv tk a x) (wI ω 9 x (rqv tk a x))).bind fun z => f_X13_mechanism_73 n z else if occ S a (rqv tk a x) = nI x then (f_X13_give (nI x) (rqv tk a x) (wI ω 9 x (rqv tk a x))).bind fun z => f_X13_mechanism_73 n z else (f_X13_where (occ S a (rqv tk a x)) (wI ω 9 x (rqv tk a x))).bind fun r26 => (if r26 = m1 then (f_X13_give (nI x) (rqv tk a x) (wI ω 9 x (rqv tk a x))).bind fun z => f_X13_mechanism_73 n z else if inb (occ S a (rqv tk a x)) 8 = true then (if (wI ω 9 x (rqv tk a x)).1 9 (occ S a (rqv tk a x)).toNatClampNeg = m1 then (f_X13_front (occ S a (rqv tk a x)) (wI ω 9 x (rqv tk a x))).bind fun z => f_X13_mechanism_73 n z else (f_X13_mechanism_204 (nI x) FU (occ S a (rqv tk a x)) (wI ω 9 x (rqv tk a x))).bind fun z => f_X13_mechanism_73 n z) else none)) := by
    intro n
    have e17' : ω.1 0 17 = nI ((P.reverse ++ R).length + 1) := e17
    have hten := o_tenant o19 S8 (rqv tk a x)
    rw [f_X13_mechanism_73]
    have n0 : ¬ nI ((P.reverse ++ R).length + 1) ≤ nI 0 := by
      rw [List.length_cons] at hl17
      exact nI_ge (by omega) (by omega)
    rw [e17', q_l0, if_neg n0]
    simp only [↓q_m1, q_l0, q_l1, q_lt, e80, e6, hoa, hten, q_bi, nI_clamp (show (0 : Nat) < 2 ^ 31 by omega), nI_clamp (show x < 2 ^ 31 by omega), q_inT (show 0 < 8 by omega) (show (0 : Nat) < 2 ^ 31 by omega), q_inT (show x < 8 by omega) (show x < 2 ^ 31 by omega), ↓reduceIte]
  have hho := s_holderOf h S8 (rqv tk a x)
  rcases hv with hv1 | ⟨t, htT, hvt, hvf⟩
  · -- nothing is left
    refine alone (fun t ht e => by rw [hv1] at e; exact ((q_men (show t < 2 ^ 31 by omega)).mp e).elim) ?_ (fun n => by rw [step73 n, if_pos hv1])
    rw [hst, hho, if_pos hv1, q_bi, if_pos rfl]
  · have hvn : ¬ rqv tk a x = m1 := by rw [hvt]; exact fun q => (q_nem (show t < 2 ^ 31 by omega)).mp q
    rw [if_neg hvn] at hho
    rcases occ_c S a (rqv tk a x) with ho | ⟨y, hyS, ho, hpl⟩
    · refine alone (fun t' ht' e y hy e2 => ?_) ?_ (fun n => by rw [step73 n, if_neg hvn, if_pos ho])
      · rw [← e, ho] at e2
        exact ((q_men (show y < 2 ^ 31 by omega)).mp e2).elim
      · rw [hst, hho, ho, q_bi, if_pos rfl]
    · have y8 : y < 8 := by omega
      have hyn : ¬ nI y = m1 := fun q => (q_nem (show y < 2 ^ 31 by omega)).mp q
      by_cases hyx : y = x
      · refine alone (fun t' ht' e z hz e2 => Or.inl ?_) ?_ (fun n => by rw [step73 n, if_neg hvn, ho, if_neg hyn, hyx, if_pos rfl])
        · rw [← e, ho] at e2
          rw [← hyx]; exact ((nI_eq (by omega) (by omega)).mp e2).symm
        · rw [hst, hho, ho, q_bi, if_neg hyn, hyx, if_pos rfl]
      · have hynx : ¬ nI y = nI x := fun q => hyx ((nI_eq (by omega) (by omega)).mp q)
        cases hfy : fin y with
        | true =>
          have hnl : y ∉ x :: (P.reverse ++ R) := fun q => by
            have : y ∈ P ++ [x] ++ R := by
              rcases List.mem_cons.mp q with q | q
              · exact absurd q hyx
              · rcases List.mem_append.mp q with q | q
                · exact List.mem_append_left _ (List.mem_append_left _ (List.mem_reverse.mp q))
                · exact List.mem_append_right _ q
            have := ((s2 y).mp this).2
            rw [hfy] at this; cases this
          have hwh := o_where_no ln19 y8 hnl
          refine alone (fun t' ht' e z hz e2 => Or.inr ?_) ?_ (fun n => by rw [step73 n, if_neg hvn, ho, if_neg hyn, if_neg hynx, hwh, q_bi, if_pos rfl])
          · rw [← e, ho] at e2
            have : y = z := (nI_eq (by omega) (by omega)).mp e2
            rw [← this]; exact hfy
          · have e2y := m3 y hyS
            rw [hfy] at e2y
            rw [hst, hho, ho, q_bi, if_neg hyn, if_neg hynx, if_pos (of_eq_true (q_inT y8 (by omega))), nI_clamp (by omega), e2y, if_neg (by decide)]
        | false =>
          have e2y := m3 y hyS
          rw [hfy] at e2y
          have e2z : α.1 2 y = nI 0 := e2y
          have hcl : f_X1_serve (nI x) μ α = (f_X1_placeInChain (nI y) (wI α 1 x (rqv tk a x))).bind fun r9 => (if r9 = m1 then f_X1_append (nI y) (wI α 1 x (rqv tk a x)) else f_X1_finishFrom r9 (wI α 1 x (rqv tk a x))) := by
            rw [hst, hho, ho, q_bi, if_neg hyn, if_neg hynx, if_pos (of_eq_true (q_inT y8 (by omega))), nI_clamp (by omega), e2z, if_pos rfl]
          have h4' : ∀ k z, (P ++ [x])[k]? = some z → (wI α 1 x (rqv tk a x)).1 4 k = nI z := fun k z hk => (congrFun (q_wIn (by omega)) k).trans (m2 k z hk)
          have hn' : (wI α 1 x (rqv tk a x)).1 0 4 = nI (P ++ [x]).length := (congrFun (q_wIn (by omega)) 4).trans m1'
          have hoT : occ S a (nI t) = nI y := by rw [← hvt]; exact ho
          have hym : y ∈ P ∨ y ∈ R := by
            rcases List.mem_append.mp ((s2 y).mpr ⟨hyS, hfy⟩) with q | q
            · rcases List.mem_append.mp q with q | q
              · exact Or.inl q
              · exact absurd (List.mem_singleton.mp q) hyx
            · exact Or.inr q
          have nd1 := List.nodup_append.mp s1
          rcases hym with hyP | hyR
          · -- a cycle
            obtain ⟨P1, P2, rfl, hyP1⟩ := split_mem hyP (List.nodup_append.mp nd1.1).1
            have eC : P1 ++ y :: P2 ++ [x] = P1 ++ (y :: P2 ++ [x]) := by rw [List.append_assoc]
            rw [eC] at hm hs hln hlen hl8 m1' m2 hn' h4' s1 s2 s9 m10 nd1 inC
            have pl : P1.length + P2.length + 2 + R.length ≤ 8 := by simp at hl8; omega
            have hpl' := place_in S8 (P1 := P1) (D := P2 ++ [x]) (y := y) hn' h4' (by show (P1 ++ (y :: P2 ++ [x])).length ≤ 8; omega) (fun z hz => (inC z hz).1) hyP1
            obtain ⟨α', fin', tk', f1, f2, f3, f4, f5, f6, f7⟩ := fin_class (D0 := y :: P2) (v := rqv tk a x) S8 t8 m1' m2 (by omega) (fun z hz => (inC z hz).1) m3 m4 m5 hr4
            have ndC := List.nodup_append.mp nd1.1
            have ndD : (y :: (P2 ++ [x])).Nodup := ndC.2.1
            have eL : (y :: (P2 ++ [x])).reverse ++ (P1.reverse ++ R) = x :: ((P1 ++ y :: P2).reverse ++ R) := by simp
            have hxn : ∀ i, i ∈ y :: P2 → i ≠ x := fun i hi e => by
              have : (y :: P2 ++ [x]).Nodup := ndD
              exact (List.nodup_append.mp this).2.2 i hi x (by simp) e
            have inD : ∀ i, i ∈ y :: (P2 ++ [x]) → i < S ∧ fin i = false := fun i hi => inC i (List.mem_append_right _ hi)
            have lenD : (y :: (P2 ++ [x])).length = P2.length + 2 := by simp
            have link : ∀ k u z, (y :: (P2 ++ [x]))[k]? = some u → (y :: (P2 ++ [x]))[k + 1]? = some z → u ≠ x ∧ ω.1 9 u = rq u ∧ LK S T a tk rq u z := fun k u z hu hz => by
              have hz2 : k + 1 < P2.length + 2 := by
                have := (List.getElem?_eq_some_iff.mp hz).1
                rw [lenD] at this; exact this
              have eu : (P1 ++ (y :: P2 ++ [x]))[P1.length + k]? = some u := by rw [List.getElem?_append_right (by omega), show P1.length + k - P1.length = k by omega]; exact hu
              have ez : (P1 ++ (y :: P2 ++ [x]))[P1.length + k + 1]? = some z := by rw [List.getElem?_append_right (by omega), show P1.length + k + 1 - P1.length = k + 1 by omega]; exact hz
              refine ⟨hxn u ?_, m10 _ u z eu ez, s9 _ u z eu ez⟩
              have hu2 : (y :: P2 ++ [x])[k]? = some u := hu
              rw [List.getElem?_append_left (by rw [List.length_cons]; omega)] at hu2
              exact mem_at hu2
            have lastx : ∀ u, u ∈ y :: (P2 ++ [x]) → u = x ∨ ∃ k z, (y :: (P2 ++ [x]))[k]? = some u ∧ (y :: (P2 ++ [x]))[k + 1]? = some z := fun u hu => by
              obtain ⟨k, hk⟩ := List.getElem?_of_mem hu
              have hkl := (List.getElem?_eq_some_iff.mp hk).1
              rw [lenD] at hkl
              by_cases e : k = P2.length + 1
              · left
                have : (y :: P2 ++ [x])[k]? = some u := hk
                rw [List.getElem?_append_right (by rw [List.length_cons]; omega), e, List.length_cons, Nat.sub_self] at this
                exact (Option.some.inj this).symm
              · exact Or.inr ⟨k, (y :: (P2 ++ [x]))[k + 1]'(by rw [lenD]; omega), hk, List.getElem?_eq_getElem (by rw [lenD]; omega)⟩
            obtain ⟨ω', g1, g2, g3, g4, g5, g6⟩ := o_cycle (a := a) (P5 := fun _ => 0) (x := x) (rq := upd rq x (rqv tk a x)) S8 (by omega) (P2 ++ [x]) y (1999) (wI ω 9 x (rqv tk a x)) (P1.reverse ++ R) (by rw [List.length_append, List.length_singleton]; omega) ((congrFun (q_wIn (by omega)) 15).trans m11.1.1) (fun i hi => (congrFun (q_wIn (by omega)) i).trans (m11.2.1 i hi).2.2.1) (by rw [eL]; exact ln19) ndD (by rw [← List.cons_append, List.getLast?_append]; rfl) (fun i hi => ⟨(inD i hi).1, by
                rw [q_wIs]
                rcases lastx i hi with e | ⟨k, z, hk, hz⟩
                · rw [e, pk_us, pk_us]
                · obtain ⟨q1, q2, _⟩ := link k i z hk hz
                  rw [pk_un q1, pk_un q1, q2]⟩) (fun i hi => by
                rcases hr4 i (inD i hi).1 with q | ⟨t', q1, q2⟩
                · exact Or.inl q
                · exact Or.inr ⟨t', by omega, q2⟩) (fun k u z hu hz => by
                obtain ⟨q1, _, t', p', k1, k2, k3, _⟩ := link k u z hu hz
                rw [pk_un q1, k2]; exact k3)
            have hy9 : (wI ω 9 x (rqv tk a x)).1 9 y = rq y ∧ ¬ rq y = m1 := by
              rcases lastx y (by simp) with e | ⟨k, z, hk, hz⟩
              · exact absurd e hyx
              · obtain ⟨q1, q2, t', p', k1, k2, _⟩ := link k y z hk hz
                refine ⟨by rw [q_wIs, pk_un q1, q2], by rw [k2]; exact fun q => (q_nem (show t' < 2 ^ 31 by omega)).mp q⟩
            have hwh : f_X13_where (nI y) (wI ω 9 x (rqv tk a x)) = some (nI (P2 ++ [x]).reverse.length) := by
              refine o_where_in (X := (P2 ++ [x]).reverse) (Y := P1.reverse ++ R) (y := y) ?_ (fun q => (List.nodup_cons.mp ndD).1 (List.mem_reverse.mp q))
              have : (P2 ++ [x]).reverse ++ y :: (P1.reverse ++ R) = x :: ((P1 ++ y :: P2).reverse ++ R) := by simp
              rw [this]; exact ln19
            have hwl : (P2 ++ [x]).reverse.length < 2 ^ 31 := by rw [List.length_reverse, List.length_append, List.length_singleton]; omega
            obtain ⟨k1, k2⟩ := fin_mm (v := rqv tk a x) hm hs S8 t8 f2 f3 f4 f5 f6 f7 g2 g3 (fun j hj => (g4 j hj).trans (congrFun (q_wIn (by omega)) j)) (fun i => by rw [g5 i, q_wIn (by omega)]; rfl) (fun t' ht' => by rw [g6 t' ht', q_wIn (by omega)]; rfl)
            refine ⟨α', ω', P1, R, fin', tk', _, fun i => if i ∈ y :: P2 ++ [x] then τ else tm i, ?_, fun n => ?_, k1, hs.done w d fav (fun q => absurd q hvn) (fun t' ht' e => Or.inr ⟨y, rfl, ?_⟩) f6 f7 (fun _ => rfl), k2, ?_⟩
            · rw [hcl, hpl', q_bi, if_neg (fun q => (q_nem (show P1.length < 2 ^ 31 by omega)).mp q)]
              exact f1
            · rw [step73 n, if_neg hvn, ho, if_neg hyn, if_neg hynx, hwh, q_bi, if_neg (fun q => (q_nem hwl).mp q), if_pos (of_eq_true (q_inT y8 (by omega))), nI_clamp (by omega), hy9.1, if_neg hy9.2]
              rw [show FU = 1999 + 1 from rfl, g1]
              rfl
            · rw [← e]; exact ho
            · rw [List.length_append]
              simp
              omega
          · -- one is called
            obtain ⟨R1, R2, rfl, hyR1⟩ := split_mem hyR nd1.2.1
            have hyC : y ∉ P ++ [x] := fun q => nd1.2.2 y q y hyR rfl
            have hpl' := place_no S8 hn' h4' (by omega) (fun z hz => (inC z hz).1) y8 hyC
            have eL : x :: (P.reverse ++ (R1 ++ y :: R2)) = (x :: (P.reverse ++ R1)) ++ y :: R2 := by simp
            have hyX : y ∉ x :: (P.reverse ++ R1) := fun q => by
              rcases List.mem_cons.mp q with q | q
              · exact hyx q
              · rcases List.mem_append.mp q with q | q
                · exact hyC (List.mem_append_left _ (List.mem_reverse.mp q))
                · exact hyR1 q
            have ln19' := ln19
            rw [eL] at ln19'
            have hwh := o_where_in ln19' hyX
            obtain ⟨ω', g1, g2, g3⟩ := o_front ln19' hyX
            have hwl : (x :: (P.reverse ++ R1)).length < 2 ^ 31 := by
              simp at hl8 ⊢
              omega
            have hy9 : (wI ω 9 x (rqv tk a x)).1 9 y = m1 := by rw [q_wIs, pk_un hyx]; exact m9 y hyR
            have cl8 : (P ++ [x]).length < 8 := by simp at hl8 ⊢; omega
            have happ : f_X1_append (nI y) (wI α 1 x (rqv tk a x)) = some (wI (wI (wI α 1 x (rqv tk a x)) 4 (P ++ [x]).length (nI y)) 0 4 (nI ((P ++ [x]).length + 1))) := by
              simp (maxSteps := 2000000) (disch := first | rfl | exact q_e1 _ _ _ | exact q_sr1 _ _ | omega) only [f_X1_append, ↓q_m1, q_l0, q_l1, q_l2, q_l3, q_l4, q_l5, q_l6, q_l7, q_l8, q_l9, q_l10, q_l11, q_l12, q_l13, q_l14, q_l15, q_l16, q_l17, q_l18, q_l19, q_l20, q_l21, q_l22, q_l23, q_l24, q_l25, q_l26, q_l27, q_l28, q_l29, q_l30, q_l31, q_l32, q_l33, q_l45, q_l46, q_l48, q_l57, q_l58, q_l59, q_l60, q_l61, q_l62, q_l63, q_l64, q_l96, q_l97, q_l99, q_l122, q_l129, q_l137, q_l255, q_l256, q_l400, q_l680, q_l700, q_l959, q_l999, q_l9999, q_l10000, q_l100000, q_l36, q_l50, q_l100, q_l112, q_l200, q_ltT, q_ltF, q_leT, q_leF, q_eqF, q_eqR, q_mlt, q_mle, q_nlm, q_nLm, q_nem, q_men, q_mlm, Nat.add_zero, Nat.sub_zero, q_add0, pk_rem, nI_add, pk_mul, q_sub, q_subm, q_addm, nI_clamp, q_inT, q_inF, q_sr1, q_srn, q_srw, q_srs, q_wIs, q_wIn, q_wI2, q_wJ1, q_wJs, q_wJn, q_wR1, q_wRs, q_wRn, q_wI22, q_wJ22, pk_us, pk_un, pk_uLs, pk_uLn, q_usS, q_usN, q_ups, q_upn, Bool.true_eq_false, Bool.false_eq_true, q_lt, q_o2, q_o3, q_o4, q_o5, q_bi, ↓reduceIte, q_tv0, q_tv1, q_bz, q_oRl, q_oRr, q_oXl, q_oXr, hn', m1']
            have eLN : LN ω' ((P ++ [x] ++ [y]).reverse ++ (R1 ++ R2)) := by
              have : (P ++ [x] ++ [y]).reverse ++ (R1 ++ R2) = y :: (x :: (P.reverse ++ R1) ++ R2) := by simp
              rw [this]; exact g2
            have kw : KW ω ω' := ⟨fun k _ h8 h9 _ _ => (g3 k h8).trans (q_wIn h9), fun j _ => (congrFun (g3 0 (by omega)) j).trans (congrFun (q_wIn (by omega)) j)⟩
            refine ⟨_, ω', P ++ [x] ++ [y], R1 ++ R2, fin, tk, upd rq x (rqv tk a x), tm, by rw [hcl, hpl', q_bi, if_pos rfl]; exact happ, fun n => ?_, ⟨⟨?_, fun k z hz => ?_⟩, fun i hi => ?_, fun t' ht' => ?_, fun i hi => ?_, eLN, fun t' ht' => ?_, fun i hi fi => ?_, fun i hi => ?_, fun k u z hu hz => ?_, m11.kw kw S8⟩, ?_, kw, ?_⟩
            · rw [step73 n, if_neg hvn, ho, if_neg hyn, if_neg hynx, hwh, q_bi, if_neg (fun q => (q_nem hwl).mp q), if_pos (of_eq_true (q_inT y8 (by omega))), nI_clamp (by omega), hy9, if_pos rfl, g1]
              rfl
            · rw [q_wIs, pk_us, List.length_append (bs := [y])]; rfl
            · rw [q_wIn (by omega), q_wIs]
              by_cases e : k = (P ++ [x]).length
              · subst e
                rw [List.getElem?_append_right (Nat.le_refl _), Nat.sub_self] at hz
                obtain rfl : y = z := Option.some.inj hz
                rw [pk_us]
              · rw [pk_un e, q_wIn (by omega)]
                have hkl := (List.getElem?_eq_some_iff.mp hz).1
                rw [List.length_append, List.length_singleton] at hkl
                exact m2 k z (by rw [← hz, List.getElem?_append_left (l₂ := [y]) (by omega)])
            · rw [q_wIn (by omega), q_wIn (by omega), q_wIn (by omega)]; exact m3 i hi
            · rw [q_wIn (by omega), q_wIn (by omega), q_wIn (by omega)]; exact m4 t' ht'
            · rw [q_wIn (by omega), q_wIn (by omega), q_wIs]
              by_cases e : i = x
              · subst e; rw [pk_us, pk_us]
              · rw [pk_un e, pk_un e]; exact m5 i hi
            · rw [g3 20 (by omega)]; exact hrT t' ht'
            · rw [g3 10 (by omega), q_wIn (by omega), pk_un (fun e => by rw [e, hxf] at fi; cases fi)]; exact m8 i hi fi
            · have hiR : i ∈ R1 ++ y :: R2 := by
                rcases List.mem_append.mp hi with q | q
                · exact List.mem_append_left _ q
                · exact List.mem_append_right _ (List.mem_cons_of_mem _ q)
              have hix : i ≠ x := fun e => nd1.2.2 x (by simp) i hiR e.symm
              rw [g3 9 (by omega), q_wIs, pk_un hix]; exact m9 i hiR
            · have hkl := (List.getElem?_eq_some_iff.mp hz).1
              rw [List.length_append, List.length_singleton, hlen] at hkl
              rw [g3 9 (by omega), q_wIs]
              by_cases e : u = x
              · subst e; rw [pk_us, pk_us]
              · rw [pk_un e, pk_un e]
                have hu2 : (P ++ [x])[k]? = some u := by rw [← hu, List.getElem?_append_left (l₂ := [y]) (by omega)]
                by_cases e2 : k + 1 = P.length + 1
                · exfalso
                  have hk2 : k = P.length := by omega
                  rw [hk2, List.getElem?_append_right (Nat.le_refl _), Nat.sub_self] at hu2
                  exact e (Option.some.inj hu2).symm
                · exact m10 k u z hu2 (by rw [← hz, List.getElem?_append_left (l₂ := [y]) (by omega)])
            · have := hs.app w fav htT hvt hoT
              obtain ⟨q1, q2, q3, q4, q5, q6, q7⟩ := this
              exact ⟨q1, q2, q3, q4, q5, fun i hi fi => Nat.lt_succ_of_lt (q6 i hi fi), q7⟩
            · simp
              omega
end STEP

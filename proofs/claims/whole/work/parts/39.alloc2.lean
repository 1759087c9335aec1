/-! the mechanism, step by step on both sides -/
def JA (S T : Nat) (a : Nat → Int32) (α ρ : OM) (fin tk : Nat → Bool) (ch : Nat → Nat) (c : Nat) : Prop :=
  (α.1 0 4 = nI c ∧ ρ.1 0 19 = nI c ∧ c ≤ S) ∧
  (∀ k, k < c → ch k < S ∧ fin (ch k) = false ∧ α.1 4 k = nI (ch k) ∧ ρ.1 8 k = nI (ch k)) ∧
  (∀ k k', k < c → k' < c → ch k = ch k' → k = k') ∧
  (∀ i, i < S → α.1 2 i = tv (fin i) ∧ ρ.1 11 i = tv (fin i)) ∧
  (∀ t, t < T → α.1 3 t = tv (tk t) ∧ ρ.1 12 t = tv (tk t)) ∧
  (∀ i, i < S → α.1 1 i = m1 ∨ ∃ t, t < T ∧ α.1 1 i = nI t) ∧
  (∀ i, i < S → fin i = true → α.1 1 i = ρ.1 10 i ∧ ∀ t, t < T → α.1 1 i = nI t → tk t = true) ∧
  (∀ k, k + 1 < c → α.1 1 (ch k) = ρ.1 9 (ch k) ∧ ∃ t, t < T ∧ α.1 1 (ch k) = nI t ∧ occ S a (nI t) = nI (ch (k + 1))) ∧
  (∀ t, t < T → tk t = true → occ S a (nI t) = m1 ∨ ∃ i, i < S ∧ occ S a (nI t) = nI i ∧ fin i = true) ∧
  (∀ i j, i < S → j < S → fin i = true → fin j = true → ∀ t, t < T → α.1 1 i = nI t → α.1 1 j = nI t → i = j)
def KA (ρ ρ' : OM) : Prop := (∀ k, k ≠ 0 → (k < 8 ∨ 12 < k) → ρ'.1 k = ρ.1 k) ∧ ∀ f, f ≠ 19 → ρ'.1 0 f = ρ.1 0 f
theorem KA.rf (ρ : OM) : KA ρ ρ := ⟨fun _ _ _ => rfl, fun _ _ => rfl⟩
theorem KA.tr {ρ ρ' ρ'' : OM} (h : KA ρ ρ') (g : KA ρ' ρ'') : KA ρ ρ'' := ⟨fun k h0 h1 => (g.1 k h0 h1).trans (h.1 k h0 h1), fun f hf => (g.2 f hf).trans (h.2 f hf)⟩
theorem KA.q {ρ ρ' : OM} (h : KA ρ ρ') : QE ρ ρ' := ⟨fun j _ => congrFun (h.1 1 (by omega) (by omega)) j, fun k hk => h.1 k (by omega) (by omega), fun f hf => h.2 f (by omega)⟩
def me (S : Nat) (fin : Nat → Bool) (ch : Nat → Nat) (c : Nat) : Nat := cnt (fun i => !fin i) S + cnt (fun i => !fin i && !inC ch c i) S
section ALC
variable {S T : Nat} {μ α ρ : OM} {a : Nat → Int32} {fin tk : Nat → Bool} {ch : Nat → Nat} {c : Nat}
theorem occ_c (S : Nat) (a : Nat → Int32) (v : Int32) : occ S a v = m1 ∨ ∃ i, i < S ∧ occ S a v = nI i ∧ a (25 + 13 * i + 3) = v := by
  rcases fd_cases S (fun i => decide (a (25 + 13 * i + 3) = v)) with ⟨j, h1, h2, -, h4⟩ | ⟨-, h2⟩
  · exact Or.inr ⟨j, h1, h4, of_decide_eq_true h2⟩
  · exact Or.inl h2
/-- finishing from a place p on, where the last one's request is set -/
theorem JA.done (w : WL S T a) (h : JA S T a α ρ fin tk ch c) {p : Nat} (hp : p < c) {v : Int32} (hv : v = m1 ∨ ∃ t, t < T ∧ v = nI t ∧ tk t = false ∧ ((p + 1 = c ∧ (occ S a (nI t) = m1 ∨ ∃ i, i < S ∧ occ S a (nI t) = nI i ∧ (i = ch (c - 1) ∨ fin i = true))) ∨ occ S a (nI t) = nI (ch p)))
    (hvp : v = m1 → p + 1 = c) {α' ρ' : OM} (f1 : α'.1 0 4 = nI p) (f2 : ∀ k, k ≠ 0 → k ≠ 2 → k ≠ 3 → α'.1 k = (wI α 1 (ch (c - 1)) v).1 k) (f3 : ∀ i, i < S → α'.1 2 i = tv (finN fin ch p (c - p) i)) (f4 : ∀ t, t < T → α'.1 3 t = tv (tkN tk (fun k => (wI α 1 (ch (c - 1)) v).1 1 (ch k)) p (c - p) t))
    (r1 : RF S T (wI ρ 9 (ch (c - 1)) v) ρ' fin tk ch (fun k => (wI α 1 (ch (c - 1)) v).1 1 (ch k)) p (c - p)) (r2 : ρ'.1 0 = upd (ρ.1 0) 19 (nI p)) : ∃ fin' tk', JA S T a α' ρ' fin' tk' ch p ∧ KA ρ ρ' ∧ me S fin' ch p + 1 ≤ me S fin ch c := by
  obtain ⟨⟨j1, j2, j3⟩, j4, j5, j6, j7, j8, j9, j10, j11, j12⟩ := h
  have h8 := w.1.1
  have t8 := w.1.2
  have hlast := j4 (c - 1) (by omega)
  have e1 : ∀ i, α'.1 1 i = (wI α 1 (ch (c - 1)) v).1 1 i := fun i => congrFun (f2 1 (by omega) (by omega) (by omega)) i
  have el : α'.1 1 (ch (c - 1)) = v := by rw [e1, q_wIs, pk_us]
  have eo : ∀ i, i ≠ ch (c - 1) → α'.1 1 i = α.1 1 i := fun i hi => by rw [e1, q_wIs, pk_un hi]
  have hfi : ∀ i, finN fin ch p (c - p) i = true ↔ fin i = true ∨ ∃ k, p ≤ k ∧ k < c ∧ ch k = i := fun i => by
    rw [finN_iff]
    constructor
    · rintro (q | ⟨j, q1, q2⟩)
      · exact Or.inl q
      · exact Or.inr ⟨p + j, by omega, by omega, q2⟩
    · rintro (q | ⟨k, q1, q2, q3⟩)
      · exact Or.inl q
      · exact Or.inr ⟨k - p, by omega, by rw [show p + (k - p) = k by omega]; exact q3⟩
  -- what a member of the segment gets
  have hseg : ∀ k, p ≤ k → k < c → ∀ t, t < T → α'.1 1 (ch k) = nI t → tk t = false ∧ ((k + 1 < c ∧ occ S a (nI t) = nI (ch (k + 1))) ∨ (k + 1 = c ∧ ((p + 1 = c ∧ (occ S a (nI t) = m1 ∨ ∃ i, i < S ∧ occ S a (nI t) = nI i ∧ (i = ch (c - 1) ∨ fin i = true))) ∨ occ S a (nI t) = nI (ch p)))) := by
    intro k hk hkc t ht et
    by_cases hkl : k + 1 < c
    · have hne : ch k ≠ ch (c - 1) := fun q => by
        have := j5 k (c - 1) hkc (by omega) q
        omega
      rw [eo _ hne] at et
      obtain ⟨_, t', ht', q1, q2⟩ := j10 k hkl
      have : t = t' := (nI_eq (by omega) (by omega)).mp (et.symm.trans q1)
      subst this
      refine ⟨?_, Or.inl ⟨hkl, q2⟩⟩
      cases htk : tk t with
      | false => rfl
      | true =>
        exfalso
        have hn := (j4 (k + 1) hkl).2.1
        have hnS := (j4 (k + 1) hkl).1
        rcases j11 t ht htk with q | ⟨i, hi, q, q'⟩
        · rw [q2] at q; exact (q_nem (show ch (k + 1) < 2 ^ 31 by omega)).mp q
        · have : i = ch (k + 1) := (nI_eq (by omega) (by omega)).mp (q.symm.trans q2)
          rw [this, hn] at q'; cases q'
    · have hkc' : k = c - 1 := by omega
      subst hkc'
      rw [el] at et
      rcases hv with q | ⟨t', ht', q1, q2, q3⟩
      · rw [q] at et; exact ((q_men (show t < 2 ^ 31 by omega)).mp et).elim
      · have : t = t' := (nI_eq (by omega) (by omega)).mp (et.symm.trans q1)
        subst this
        exact ⟨q2, Or.inr ⟨by omega, q3⟩⟩
  have htk : ∀ t, t < T → (tkN tk (fun k => (wI α 1 (ch (c - 1)) v).1 1 (ch k)) p (c - p) t = true ↔ tk t = true ∨ ∃ k, p ≤ k ∧ k < c ∧ α'.1 1 (ch k) = nI t) := fun t _ => by
    rw [tkN_iff]
    constructor
    · rintro (q | ⟨j, q1, q2⟩)
      · exact Or.inl q
      · exact Or.inr ⟨p + j, by omega, by omega, (e1 _).trans q2⟩
    · rintro (q | ⟨k, q1, q2, q3⟩)
      · exact Or.inl q
      · refine Or.inr ⟨k - p, by omega, ?_⟩
        rw [show p + (k - p) = k by omega, ← e1]; exact q3
  have r10 : ∀ k, p ≤ k → k < c → ρ'.1 10 (ch k) = α'.1 1 (ch k) := fun k q1 q2 => by
    have := r1.2.2.2.1 (k - p) (by omega)
    dsimp only at this
    rw [show p + (k - p) = k by omega] at this
    rw [this, e1]
  refine ⟨finN fin ch p (c - p), tkN tk (fun k => (wI α 1 (ch (c - 1)) v).1 1 (ch k)) p (c - p), ⟨⟨f1, by rw [r2, pk_us], by omega⟩, fun k hk => ?_, fun k k' hk hk' => j5 k k' (by omega) (by omega), fun i hi => ⟨f3 i hi, r1.2.1 i hi⟩, fun t ht => ⟨f4 t ht, r1.2.2.1 t ht⟩, fun i hi => ?_, fun i hi hf => ⟨?_, fun t ht et => ?_⟩, fun k hk => ?_, fun t ht hq => ?_, fun i j hi hj hfi' hfj t ht eti etj => ?_⟩, ⟨fun k h0 hk => ?_, fun f hf => ?_⟩, ?_⟩
  · obtain ⟨q1, q2, q3, q4⟩ := j4 k (by omega)
    refine ⟨q1, ?_, ?_, ?_⟩
    · cases hx : finN fin ch p (c - p) (ch k) with
      | false => rfl
      | true =>
        rcases (hfi _).mp hx with q | ⟨k', g1, g2, g3⟩
        · rw [q2] at q; cases q
        · have := j5 k' k g2 (by omega) g3
          omega
    · rw [f2 4 (by omega) (by omega) (by omega), q_wIn (by omega)]; exact q3
    · rw [r1.1 8 (by omega) (by omega) (by omega) (by omega), q_wIn (by omega)]; exact q4
  · by_cases e : i = ch (c - 1)
    · subst e
      rw [el]
      rcases hv with q | ⟨t, ht, q, _⟩
      · exact Or.inl q
      · exact Or.inr ⟨t, ht, q⟩
    · rw [eo i e]; exact j8 i hi
  · rcases (hfi i).mp hf with q | ⟨k, g1, g2, g3⟩
    · have hne : ∀ k, k < c → ch k ≠ i := fun k hk e => by
        have := (j4 k hk).2.1
        rw [e, q] at this; cases this
      rw [eo i (fun e => hne (c - 1) (by omega) e.symm), r1.2.2.2.2 i (fun j hj => hne _ (by omega)), q_wIn (by omega)]
      exact (j9 i hi q).1
    · subst g3; exact (r10 k g1 g2).symm
  · rw [htk t ht]
    rcases (hfi i).mp hf with q | ⟨k, g1, g2, g3⟩
    · have hne : i ≠ ch (c - 1) := fun e => by
        have := hlast.2.1
        rw [← e, q] at this; cases this
      rw [eo i hne] at et
      exact Or.inl ((j9 i hi q).2 t ht et)
    · subst g3; exact Or.inr ⟨k, g1, g2, et⟩
  · have hne : ch k ≠ ch (c - 1) := fun q => by
      have := j5 k (c - 1) (by omega) (by omega) q
      omega
    rw [eo _ hne, r1.1 9 (by omega) (by omega) (by omega) (by omega), q_wIs, pk_un hne]
    exact j10 k (by omega)
  · rcases (htk t ht).mp hq with q | ⟨k, g1, g2, g3⟩
    · rcases j11 t ht q with q' | ⟨i, hi, q', q''⟩
      · exact Or.inl q'
      · exact Or.inr ⟨i, hi, q', (hfi i).mpr (Or.inl q'')⟩
    · obtain ⟨_, q⟩ := hseg k g1 g2 t ht g3
      rcases q with ⟨q1, q2⟩ | ⟨q1, q2⟩
      · exact Or.inr ⟨ch (k + 1), (j4 (k + 1) q1).1, q2, (hfi _).mpr (Or.inr ⟨k + 1, by omega, q1, rfl⟩)⟩
      · rcases q2 with ⟨q3, q4⟩ | q4
        · rcases q4 with q5 | ⟨i, hi, q5, q6⟩
          · exact Or.inl q5
          · refine Or.inr ⟨i, hi, q5, (hfi i).mpr ?_⟩
            rcases q6 with q6 | q6
            · exact Or.inr ⟨c - 1, by omega, by omega, q6.symm⟩
            · exact Or.inl q6
        · exact Or.inr ⟨ch p, (j4 p hp).1, q4, (hfi _).mpr (Or.inr ⟨p, Nat.le_refl _, hp, rfl⟩)⟩
  · -- no stall twice
    have old : ∀ i, fin i = true → i < S → α'.1 1 i = α.1 1 i := fun i q _ => eo i (fun e => by
      have := hlast.2.1
      rw [← e, q] at this; cases this)
    have mix : ∀ i k, i < S → fin i = true → p ≤ k → k < c → α'.1 1 i = nI t → α'.1 1 (ch k) = nI t → False := fun i k hi q g1 g2 q1 q2 => by
      rw [old i q hi] at q1
      have := (j9 i hi q).2 t ht q1
      rw [(hseg k g1 g2 t ht q2).1] at this; cases this
    rcases (hfi i).mp hfi' with q | ⟨k, g1, g2, g3⟩
    · rcases (hfi j).mp hfj with q' | ⟨k', g1', g2', g3'⟩
      · rw [old i q hi] at eti
        rw [old j q' hj] at etj
        exact j12 i j hi hj q q' t ht eti etj
      · subst g3'; exact (mix i k' hi q g1' g2' eti etj).elim
    · rcases (hfi j).mp hfj with q' | ⟨k', g1', g2', g3'⟩
      · subst g3; exact (mix j k hj q' g1 g2 etj eti).elim
      · subst g3; subst g3'
        have a1 := (hseg k g1 g2 t ht eti).2
        have a2 := (hseg k' g1' g2' t ht etj).2
        have inj : ∀ x y, x < c → y < c → nI (ch x) = nI (ch y) → x = y := fun x y hx hy q => by
          have b1 := (j4 x hx).1
          have b2 := (j4 y hy).1
          exact j5 x y hx hy ((nI_eq (by omega) (by omega)).mp q)
        rcases a1 with ⟨b1, b2⟩ | ⟨b1, b2⟩
        · rcases a2 with ⟨d1, d2⟩ | ⟨d1, d2⟩
          · have := inj (k + 1) (k' + 1) b1 d1 (b2.symm.trans d2)
            rw [show k = k' by omega]
          · rcases d2 with ⟨d3, _⟩ | d3
            · omega
            · have := inj (k + 1) p b1 hp (b2.symm.trans d3)
              omega
        · rcases a2 with ⟨d1, d2⟩ | ⟨d1, d2⟩
          · rcases b2 with ⟨b3, _⟩ | b3
            · omega
            · have := inj (k' + 1) p d1 hp (d2.symm.trans b3)
              omega
          · rw [show k = k' by omega]
  · by_cases hk0 : k = 9
    · omega
    · rw [r1.1 k h0 (by omega) (by omega) (by omega), q_wIn hk0]
  · rw [r2, pk_un hf]
  · have u1 : cnt (fun i => !finN fin ch p (c - p) i) S + 1 ≤ cnt (fun i => !fin i) S := cnt_more (x := ch (c - 1)) (fun k _ q => by
      have q : finN fin ch p (c - p) k = false := by simpa using q
      cases hx : fin k with
      | false => rfl
      | true => rw [(hfi k).mpr (Or.inl hx)] at q; cases q) hlast.1 (by
        have := (hfi (ch (c - 1))).mpr (Or.inr ⟨c - 1, by omega, by omega, rfl⟩)
        simp [this]) (by simp [hlast.2.1])
    have u2 : cnt (fun i => !finN fin ch p (c - p) i && !inC ch p i) S ≤ cnt (fun i => !fin i && !inC ch c i) S := cnt_mono (fun k _ q => by
      rw [Bool.and_eq_true] at q ⊢
      obtain ⟨q1, q2⟩ := q
      have q1 : finN fin ch p (c - p) k = false := by simpa using q1
      have q2 : inC ch p k = false := by simpa using q2
      have q3 : fin k = false := by
        cases hx : fin k with
        | false => rfl
        | true => rw [(hfi k).mpr (Or.inl hx)] at q1; cases q1
      have q4 : inC ch c k = false := by
        cases hx : inC ch c k with
        | false => rfl
        | true =>
          exfalso
          obtain ⟨x, hx1, hx2⟩ := (inC_iff (by omega)).mp hx
          by_cases hxp : x < p
          · rw [(inC_iff (show p < 2 ^ 31 by omega)).mpr ⟨x, hxp, hx2⟩] at q2; cases q2
          · rw [(hfi k).mpr (Or.inr ⟨x, by omega, hx1, hx2⟩)] at q1; cases q1
      simp [q3, q4])
    simp only [me]
    omega
/-- another one joins the chain -/
theorem JA.app (w : WL S T a) (h : JA S T a α ρ fin tk ch c) {i : Nat} (hi : i < S) (hf : fin i = false) (hc : ∀ k, k < c → ch k ≠ i) {α' ρ' : OM} (f1 : α'.1 0 4 = nI (c + 1)) (f2 : ∀ k, k ≠ 0 → k ≠ 4 → α'.1 k = α.1 k) (f3 : α'.1 4 = upd (α.1 4) c (nI i)) (r1 : ∀ k, k ≠ 0 → k ≠ 8 → ρ'.1 k = ρ.1 k) (r2 : ρ'.1 8 = upd (ρ.1 8) c (nI i)) (r3 : ρ'.1 0 = upd (ρ.1 0) 19 (nI (c + 1)))
    (hj : ∀ k, k + 1 = c → α.1 1 (ch k) = ρ.1 9 (ch k) ∧ ∃ t, t < T ∧ α.1 1 (ch k) = nI t ∧ occ S a (nI t) = nI i) : c + 1 ≤ S ∧ JA S T a α' ρ' fin tk (fun k => if k = c then i else ch k) (c + 1) ∧ KA ρ ρ' ∧ me S fin (fun k => if k = c then i else ch k) (c + 1) + 1 ≤ me S fin ch c := by
  obtain ⟨⟨j1, j2, j3⟩, j4, j5, j6, j7, j8, j9, j10, j11, j12⟩ := h
  have h8 := w.1.1
  have hroom : c + 1 ≤ S := php1 (by omega) (by omega) ch (fun k hk => (j4 k hk).1) j5 hi hc
  have e1 : α'.1 1 = α.1 1 := f2 1 (by omega) (by omega)
  have ec : ∀ k, k < c → (if k = c then i else ch k) = ch k := fun k hk => if_neg (by omega)
  refine ⟨hroom, ⟨⟨f1, by rw [r3, pk_us], hroom⟩, fun k hk => ?_, fun k k' hk hk' e => ?_, fun y hy => ?_, fun t ht => ?_, fun y hy => ?_, fun y hy q => ?_, fun k hk => ?_, j11, ?_⟩, ⟨fun k k0 hk => r1 k k0 (by omega), fun f hf => by rw [r3, pk_un hf]⟩, ?_⟩
  · dsimp only
    rw [f3, r2]
    by_cases e : k = c
    · subst e
      rw [if_pos rfl, pk_us, pk_us]; exact ⟨hi, hf, rfl, rfl⟩
    · rw [if_neg e, pk_un e, pk_un e]; exact j4 k (by omega)
  · dsimp only at e
    by_cases q : k = c
    · by_cases q' : k' = c
      · omega
      · rw [if_pos q, if_neg q'] at e; exact (hc k' (by omega) e.symm).elim
    · by_cases q' : k' = c
      · rw [if_neg q, if_pos q'] at e; exact (hc k (by omega) e).elim
      · rw [if_neg q, if_neg q'] at e; exact j5 k k' (by omega) (by omega) e
  · rw [f2 2 (by omega) (by omega), r1 11 (by omega) (by omega)]; exact j6 y hy
  · rw [f2 3 (by omega) (by omega), r1 12 (by omega) (by omega)]; exact j7 t ht
  · rw [e1]; exact j8 y hy
  · rw [e1, r1 10 (by omega) (by omega)]; exact j9 y hy q
  · dsimp only
    rw [e1, r1 9 (by omega) (by omega), ec k (by omega)]
    by_cases e : k + 1 = c
    · rw [if_pos e]; exact hj k e
    · rw [ec (k + 1) (by omega)]; exact j10 k (by omega)
  · rw [e1]; exact j12
  · have u2 : cnt (fun y => !fin y && !inC (fun k => if k = c then i else ch k) (c + 1) y) S + 1 ≤ cnt (fun y => !fin y && !inC ch c y) S := cnt_more (x := i) (fun y _ q => by
      rw [Bool.and_eq_true] at q ⊢
      refine ⟨q.1, ?_⟩
      have q2 : inC (fun k => if k = c then i else ch k) (c + 1) y = false := by simpa using q.2
      cases hx : inC ch c y with
      | false => rfl
      | true =>
        obtain ⟨k, k1, k2⟩ := (inC_iff (by omega)).mp hx
        rw [(inC_iff (show c + 1 < 2 ^ 31 by omega)).mpr ⟨k, by omega, by rw [ec k k1]; exact k2⟩] at q2; cases q2) hi (by
        have : inC (fun k => if k = c then i else ch k) (c + 1) i = true := (inC_iff (by omega)).mpr ⟨c, by omega, if_pos rfl⟩
        simp [this]) (by
        have : inC ch c i = false := by
          cases hx : inC ch c i with
          | false => rfl
          | true =>
            obtain ⟨k, k1, k2⟩ := (inC_iff (show c < 2 ^ 31 by omega)).mp hx
            exact (hc k k1 k2).elim
        simp [hf, this])
    simp only [me]
    omega
/-- serving the last of the chain -/
theorem serve_two (h : MR S T μ a) (w : WL S T a) (e1 : ρ.1 1 = a) (hj : JA S T a α ρ fin tk ch c) (hc : 1 ≤ c) : ∃ α' ρ' fin' tk' ch' c', f_X1_serve (nI (ch (c - 1))) μ α = some α' ∧ f_X13_steps ρ = some ρ' ∧ JA S T a α' ρ' fin' tk' ch' c' ∧ KA ρ ρ' ∧ me S fin' ch' c' + 1 ≤ me S fin ch c := by
  obtain ⟨⟨j1, j2, j3⟩, j4, j5, j6, j7, j8, j9, j10, j11, j12⟩ := id hj
  have h8 := w.1.1
  have t8 := w.1.2
  obtain ⟨l1, l2, l3, l4⟩ := j4 (c - 1) (by omega)
  have hq1 := s_avail h w l1 (fun t ht => (j7 t ht).1)
  have hq2 := r_req w l1 (fun t ht => (j7 t ht).2) e1
  have e3 : (wI ρ 9 (ch (c - 1)) (rqv tk a (ch (c - 1)))).1 1 = a := (q_wIn (by omega)).trans e1
  have hso := s_holderOf h h8 (rqv tk a (ch (c - 1)))
  have hro := r_occ h.1.2.2.1 h8 e3 (rqv tk a (ch (c - 1)))
  -- the three ways to finish
  have fins : ∀ p, p < c → ((rqv tk a (ch (c - 1)) = m1 ∧ p + 1 = c) ∨ ∃ t, t < T ∧ rqv tk a (ch (c - 1)) = nI t ∧ tk t = false ∧ ((p + 1 = c ∧ (occ S a (nI t) = m1 ∨ ∃ i, i < S ∧ occ S a (nI t) = nI i ∧ (i = ch (c - 1) ∨ fin i = true))) ∨ occ S a (nI t) = nI (ch p))) → ∃ α', f_X1_finishFrom (nI p) (wI α 1 (ch (c - 1)) (rqv tk a (ch (c - 1)))) = some α' ∧ ∀ ρ', RF S T (wI ρ 9 (ch (c - 1)) (rqv tk a (ch (c - 1)))) ρ' fin tk ch (fun k => (wI α 1 (ch (c - 1)) (rqv tk a (ch (c - 1)))).1 1 (ch k)) p (c - p) → ρ'.1 0 = upd (ρ.1 0) 19 (nI p) → ∃ fin' tk' ch' c', JA S T a α' ρ' fin' tk' ch' c' ∧ KA ρ ρ' ∧ me S fin' ch' c' + 1 ≤ me S fin ch c := by
    intro p hp hv
    obtain ⟨α', f1, f2, f3, f4, f5⟩ := s_fin (α := wI α 1 (ch (c - 1)) (rqv tk a (ch (c - 1)))) (S := S) (T := T) (fin := fin) (tk := tk) (ch := ch) (p := p) (c := c) h8 t8 (by omega) (by omega) ((congrFun (q_wIn (by omega)) 4).trans j1) (fun k hk => ⟨(j4 k hk).1, (congrFun (q_wIn (by omega)) k).trans (j4 k hk).2.2.1⟩) (fun k hk => by
      rw [q_wIs]
      by_cases e : ch k = ch (c - 1)
      · rw [e, pk_us]
        rcases rqv_c w l1 tk with q | ⟨t, ht, q, _⟩
        · exact Or.inl q
        · exact Or.inr ⟨t, ht, q⟩
      · rw [pk_un e]; exact j8 _ (j4 k hk).1) (fun i hi => (congrFun (q_wIn (by omega)) i).trans (j6 i hi).1) (fun t ht => (congrFun (q_wIn (by omega)) t).trans (j7 t ht).1)
    refine ⟨α', f1, fun ρ' r1 r2 => ?_⟩
    obtain ⟨fin', tk', g1, g2, g3⟩ := hj.done w hp (v := rqv tk a (ch (c - 1))) (by
      rcases hv with ⟨q, _⟩ | q
      · exact Or.inl q
      · exact Or.inr q) (fun q => by
      rcases hv with ⟨_, q'⟩ | ⟨t, ht, q', _⟩
      · exact q'
      · rw [q] at q'; exact ((q_men (show t < 2 ^ 31 by omega)).mp q').elim) f2 f3 f4 f5 r1 r2
    exact ⟨fin', tk', ch, p, g1, g2, g3⟩
  have rdir : ∃ ρ', f_X13_finishes (nI (ch (c - 1))) (rqv tk a (ch (c - 1))) (wI ρ 9 (ch (c - 1)) (rqv tk a (ch (c - 1)))) = some ρ' ∧ RF S T (wI ρ 9 (ch (c - 1)) (rqv tk a (ch (c - 1)))) ρ' fin tk ch (fun k => (wI α 1 (ch (c - 1)) (rqv tk a (ch (c - 1)))).1 1 (ch k)) (c - 1) 1 ∧ ρ'.1 0 = ρ.1 0 := by
    have r0 : RF S T (wI ρ 9 (ch (c - 1)) (rqv tk a (ch (c - 1)))) (wI ρ 9 (ch (c - 1)) (rqv tk a (ch (c - 1)))) fin tk ch (fun k => (wI α 1 (ch (c - 1)) (rqv tk a (ch (c - 1)))).1 1 (ch k)) (c - 1) 0 := ⟨fun _ _ _ _ _ => rfl, fun i hi => (congrFun (q_wIn (by omega)) i).trans (j6 i hi).2, fun t ht => (congrFun (q_wIn (by omega)) t).trans (j7 t ht).2, fun j hj => by omega, fun _ _ => rfl⟩
    have erq : (wI α 1 (ch (c - 1)) (rqv tk a (ch (c - 1)))).1 1 (ch (c - 1 + 0)) = rqv tk a (ch (c - 1)) := by
      rw [Nat.add_zero, q_wIs, pk_us]
    obtain ⟨ρ', g1, g2, g3⟩ := r0.step h8 t8 rfl (fun j hj => by omega) (by rw [Nat.add_zero]; exact l1) (by
      rw [erq]
      rcases rqv_c w l1 tk with q | ⟨t, ht, q, _⟩
      · exact Or.inl q
      · exact Or.inr ⟨t, ht, q⟩)
    rw [erq, Nat.add_zero] at g1
    exact ⟨ρ', g1, g2, g3.trans (q_wIn (by omega))⟩
  obtain ⟨ρd, d1, d2, d3⟩ := rdir
  have ed19 : ρd.1 0 19 = nI c := by rw [d3]; exact j2
  have dfin : RF S T (wI ρ 9 (ch (c - 1)) (rqv tk a (ch (c - 1)))) (wI ρd 0 19 (nI (c - 1))) fin tk ch (fun k => (wI α 1 (ch (c - 1)) (rqv tk a (ch (c - 1)))).1 1 (ch k)) (c - 1) (c - (c - 1)) := by
    rw [show c - (c - 1) = 1 by omega]
    obtain ⟨q1, q2, q3, q4, q5⟩ := d2
    exact ⟨fun k k0 k10 k11 k12 => (q_wIn k0).trans (q1 k k0 k10 k11 k12), fun i hi => (congrFun (q_wIn (by omega)) i).trans (q2 i hi), fun t htt => (congrFun (q_wIn (by omega)) t).trans (q3 t htt), fun j hj => (congrFun (q_wIn (by omega)) _).trans (q4 j hj), fun i hi => (congrFun (q_wIn (by omega)) i).trans (q5 i hi)⟩
  have d0 : (wI ρd 0 19 (nI (c - 1))).1 0 = upd (ρ.1 0) 19 (nI (c - 1)) := by rw [q_wIs, d3]
  have ec1 : c - 1 < 8 := by omega
  have e10 : (wI α 1 (ch (c - 1)) (rqv tk a (ch (c - 1)))).1 0 4 = nI c := (congrFun (q_wIn (by omega)) 4).trans j1
  rcases rqv_c w l1 tk with hv | ⟨t, ht, hv, htk⟩
  · -- no stall is asked for
    obtain ⟨α', f1, f2⟩ := fins (c - 1) (by omega) (Or.inl ⟨hv, by omega⟩)
    obtain ⟨fin', tk', ch', c', g1, g2, g3⟩ := f2 _ dfin d0
    refine ⟨α', _, fin', tk', ch', c', ?_, ?_, g1, g2, g3⟩
    · rw [hv] at hso hq1 f1
      rw [hv] at e10
      simp (maxSteps := 2000000) (disch := first | rfl | exact q_e1 _ _ _ | exact q_sr1 _ _ | omega) only [f_X1_serve, hq1, hso, ↓q_m1, q_l0, q_l1, q_l2, q_l3, q_l4, q_l5, q_l6, q_l7, q_l8, q_l9, q_l10, q_l11, q_l12, q_l13, q_l14, q_l15, q_l16, q_l17, q_l18, q_l19, q_l20, q_l21, q_l22, q_l23, q_l24, q_l25, q_l26, q_l27, q_l28, q_l29, q_l30, q_l31, q_l32, q_l33, q_l45, q_l46, q_l48, q_l57, q_l58, q_l59, q_l60, q_l61, q_l62, q_l63, q_l64, q_l96, q_l97, q_l99, q_l122, q_l129, q_l137, q_l255, q_l256, q_l400, q_l680, q_l700, q_l959, q_l999, q_l9999, q_l10000, q_l100000, q_ltT, q_ltF, q_leT, q_leF, q_eqF, q_eqR, q_mlt, q_mle, q_nlm, q_nLm, q_nem, q_men, q_mlm, Nat.add_zero, Nat.sub_zero, q_add0, pk_rem, nI_add, pk_mul, q_sub, q_subm, q_addm, nI_clamp, q_inT, q_inF, q_sr1, q_srn, q_srw, q_srs, q_wIs, q_wIn, q_wI2, q_wJ1, q_wJs, q_wJn, q_wR1, q_wRs, q_wRn, q_wI22, q_wJ22, pk_us, pk_un, pk_uLs, pk_uLn, q_usS, q_usN, q_ups, q_upn, Bool.true_eq_false, Bool.false_eq_true, q_lt, q_o2, q_o3, q_o4, q_o5, q_bi, ↓reduceIte, q_tv0, q_tv1, q_bz, q_oRl, q_oRr, q_oXl, q_oXr, e10, j1, f1]
    · rw [hv] at hq2 d1
      simp (maxSteps := 2000000) (disch := first | rfl | exact q_e1 _ _ _ | exact q_sr1 _ _ | omega) only [f_X13_steps, ↓q_m1, q_l0, q_l1, q_l2, q_l3, q_l4, q_l5, q_l6, q_l7, q_l8, q_l9, q_l10, q_l11, q_l12, q_l13, q_l14, q_l15, q_l16, q_l17, q_l18, q_l19, q_l20, q_l21, q_l22, q_l23, q_l24, q_l25, q_l26, q_l27, q_l28, q_l29, q_l30, q_l31, q_l32, q_l33, q_l45, q_l46, q_l48, q_l57, q_l58, q_l59, q_l60, q_l61, q_l62, q_l63, q_l64, q_l96, q_l97, q_l99, q_l122, q_l129, q_l137, q_l255, q_l256, q_l400, q_l680, q_l700, q_l959, q_l999, q_l9999, q_l10000, q_l100000, q_ltT, q_ltF, q_leT, q_leF, q_eqF, q_eqR, q_mlt, q_mle, q_nlm, q_nLm, q_nem, q_men, q_mlm, Nat.add_zero, Nat.sub_zero, q_add0, pk_rem, nI_add, pk_mul, q_sub, q_subm, q_addm, nI_clamp, q_inT, q_inF, q_sr1, q_srn, q_srw, q_srs, q_wIs, q_wIn, q_wI2, q_wJ1, q_wJs, q_wJn, q_wR1, q_wRs, q_wRn, q_wI22, q_wJ22, pk_us, pk_un, pk_uLs, pk_uLn, q_usS, q_usN, q_ups, q_upn, Bool.true_eq_false, Bool.false_eq_true, q_lt, q_o2, q_o3, q_o4, q_o5, q_bi, ↓reduceIte, q_tv0, q_tv1, q_bz, q_oRl, q_oRr, q_oXl, q_oXr, j2, l4, hq2, d1, ed19]
  · have hvn : ¬ (nI t = m1) := fun q => (q_nem (show t < 2 ^ 31 by omega)).mp q
    rcases occ_c S a (nI t) with ho | ⟨b, hb, ho, _⟩
    · obtain ⟨α', f1, f2⟩ := fins (c - 1) (by omega) (Or.inr ⟨t, ht, hv, htk, Or.inl ⟨by omega, Or.inl ho⟩⟩)
      obtain ⟨fin', tk', ch', c', g1, g2, g3⟩ := f2 _ dfin d0
      refine ⟨α', _, fin', tk', ch', c', ?_, ?_, g1, g2, g3⟩
      · rw [hv] at hso hq1 f1
        rw [hv] at e10
        rw [ho, if_neg hvn] at hso
        simp (maxSteps := 2000000) (disch := first | rfl | exact q_e1 _ _ _ | exact q_sr1 _ _ | omega) only [f_X1_serve, hq1, hso, ↓q_m1, q_l0, q_l1, q_l2, q_l3, q_l4, q_l5, q_l6, q_l7, q_l8, q_l9, q_l10, q_l11, q_l12, q_l13, q_l14, q_l15, q_l16, q_l17, q_l18, q_l19, q_l20, q_l21, q_l22, q_l23, q_l24, q_l25, q_l26, q_l27, q_l28, q_l29, q_l30, q_l31, q_l32, q_l33, q_l45, q_l46, q_l48, q_l57, q_l58, q_l59, q_l60, q_l61, q_l62, q_l63, q_l64, q_l96, q_l97, q_l99, q_l122, q_l129, q_l137, q_l255, q_l256, q_l400, q_l680, q_l700, q_l959, q_l999, q_l9999, q_l10000, q_l100000, q_ltT, q_ltF, q_leT, q_leF, q_eqF, q_eqR, q_mlt, q_mle, q_nlm, q_nLm, q_nem, q_men, q_mlm, Nat.add_zero, Nat.sub_zero, q_add0, pk_rem, nI_add, pk_mul, q_sub, q_subm, q_addm, nI_clamp, q_inT, q_inF, q_sr1, q_srn, q_srw, q_srs, q_wIs, q_wIn, q_wI2, q_wJ1, q_wJs, q_wJn, q_wR1, q_wRs, q_wRn, q_wI22, q_wJ22, pk_us, pk_un, pk_uLs, pk_uLn, q_usS, q_usN, q_ups, q_upn, Bool.true_eq_false, Bool.false_eq_true, q_lt, q_o2, q_o3, q_o4, q_o5, q_bi, ↓reduceIte, q_tv0, q_tv1, q_bz, q_oRl, q_oRr, q_oXl, q_oXr, e10, j1, f1]
      · rw [hv] at hq2 d1 hro
        rw [ho] at hro
        simp (maxSteps := 2000000) (disch := first | rfl | exact q_e1 _ _ _ | exact q_sr1 _ _ | omega) only [f_X13_steps, ↓q_m1, q_l0, q_l1, q_l2, q_l3, q_l4, q_l5, q_l6, q_l7, q_l8, q_l9, q_l10, q_l11, q_l12, q_l13, q_l14, q_l15, q_l16, q_l17, q_l18, q_l19, q_l20, q_l21, q_l22, q_l23, q_l24, q_l25, q_l26, q_l27, q_l28, q_l29, q_l30, q_l31, q_l32, q_l33, q_l45, q_l46, q_l48, q_l57, q_l58, q_l59, q_l60, q_l61, q_l62, q_l63, q_l64, q_l96, q_l97, q_l99, q_l122, q_l129, q_l137, q_l255, q_l256, q_l400, q_l680, q_l700, q_l959, q_l999, q_l9999, q_l10000, q_l100000, q_ltT, q_ltF, q_leT, q_leF, q_eqF, q_eqR, q_mlt, q_mle, q_nlm, q_nLm, q_nem, q_men, q_mlm, Nat.add_zero, Nat.sub_zero, q_add0, pk_rem, nI_add, pk_mul, q_sub, q_subm, q_addm, nI_clamp, q_inT, q_inF, q_sr1, q_srn, q_srw, q_srs, q_wIs, q_wIn, q_wI2, q_wJ1, q_wJs, q_wJn, q_wR1, q_wRs, q_wRn, q_wI22, q_wJ22, pk_us, pk_un, pk_uLs, pk_uLn, q_usS, q_usN, q_ups, q_upn, Bool.true_eq_false, Bool.false_eq_true, q_lt, q_o2, q_o3, q_o4, q_o5, q_bi, ↓reduceIte, q_tv0, q_tv1, q_bz, q_oRl, q_oRr, q_oXl, q_oXr, j2, l4, hq2, hro, d1, ed19]
    · by_cases hbl : b = ch (c - 1)
      · subst hbl
        obtain ⟨α', f1, f2⟩ := fins (c - 1) (by omega) (Or.inr ⟨t, ht, hv, htk, Or.inl ⟨by omega, Or.inr ⟨_, hb, ho, Or.inl rfl⟩⟩⟩)
        obtain ⟨fin', tk', ch', c', g1, g2, g3⟩ := f2 _ dfin d0
        refine ⟨α', _, fin', tk', ch', c', ?_, ?_, g1, g2, g3⟩
        · rw [hv] at hso hq1 f1
          rw [hv] at e10
          rw [ho, if_neg hvn] at hso
          simp (maxSteps := 2000000) (disch := first | rfl | exact q_e1 _ _ _ | exact q_sr1 _ _ | omega) only [f_X1_serve, hq1, hso, ↓q_m1, q_l0, q_l1, q_l2, q_l3, q_l4, q_l5, q_l6, q_l7, q_l8, q_l9, q_l10, q_l11, q_l12, q_l13, q_l14, q_l15, q_l16, q_l17, q_l18, q_l19, q_l20, q_l21, q_l22, q_l23, q_l24, q_l25, q_l26, q_l27, q_l28, q_l29, q_l30, q_l31, q_l32, q_l33, q_l45, q_l46, q_l48, q_l57, q_l58, q_l59, q_l60, q_l61, q_l62, q_l63, q_l64, q_l96, q_l97, q_l99, q_l122, q_l129, q_l137, q_l255, q_l256, q_l400, q_l680, q_l700, q_l959, q_l999, q_l9999, q_l10000, q_l100000, q_ltT, q_ltF, q_leT, q_leF, q_eqF, q_eqR, q_mlt, q_mle, q_nlm, q_nLm, q_nem, q_men, q_mlm, Nat.add_zero, Nat.sub_zero, q_add0, pk_rem, nI_add, pk_mul, q_sub, q_subm, q_addm, nI_clamp, q_inT, q_inF, q_sr1, q_srn, q_srw, q_srs, q_wIs, q_wIn, q_wI2, q_wJ1, q_wJs, q_wJn, q_wR1, q_wRs, q_wRn, q_wI22, q_wJ22, pk_us, pk_un, pk_uLs, pk_uLn, q_usS, q_usN, q_ups, q_upn, Bool.true_eq_false, Bool.false_eq_true, q_lt, q_o2, q_o3, q_o4, q_o5, q_bi, ↓reduceIte, q_tv0, q_tv1, q_bz, q_oRl, q_oRr, q_oXl, q_oXr, e10, j1, f1]
        · rw [hv] at hq2 d1 hro
          rw [ho] at hro
          simp (maxSteps := 2000000) (disch := first | rfl | exact q_e1 _ _ _ | exact q_sr1 _ _ | omega) only [f_X13_steps, ↓q_m1, q_l0, q_l1, q_l2, q_l3, q_l4, q_l5, q_l6, q_l7, q_l8, q_l9, q_l10, q_l11, q_l12, q_l13, q_l14, q_l15, q_l16, q_l17, q_l18, q_l19, q_l20, q_l21, q_l22, q_l23, q_l24, q_l25, q_l26, q_l27, q_l28, q_l29, q_l30, q_l31, q_l32, q_l33, q_l45, q_l46, q_l48, q_l57, q_l58, q_l59, q_l60, q_l61, q_l62, q_l63, q_l64, q_l96, q_l97, q_l99, q_l122, q_l129, q_l137, q_l255, q_l256, q_l400, q_l680, q_l700, q_l959, q_l999, q_l9999, q_l10000, q_l100000, q_ltT, q_ltF, q_leT, q_leF, q_eqF, q_eqR, q_mlt, q_mle, q_nlm, q_nLm, q_nem, q_men, q_mlm, Nat.add_zero, Nat.sub_zero, q_add0, pk_rem, nI_add, pk_mul, q_sub, q_subm, q_addm, nI_clamp, q_inT, q_inF, q_sr1, q_srn, q_srw, q_srs, q_wIs, q_wIn, q_wI2, q_wJ1, q_wJs, q_wJn, q_wR1, q_wRs, q_wRn, q_wI22, q_wJ22, pk_us, pk_un, pk_uLs, pk_uLn, q_usS, q_usN, q_ups, q_upn, Bool.true_eq_false, Bool.false_eq_true, q_lt, q_o2, q_o3, q_o4, q_o5, q_bi, ↓reduceIte, q_tv0, q_tv1, q_bz, q_oRl, q_oRr, q_oXl, q_oXr, j2, l4, hq2, hro, d1, ed19]
      · have hnb : ¬ (nI b = nI (ch (c - 1))) := fun q => hbl ((nI_eq (by omega) (by omega)).mp q)
        have e2b := (j6 b hb).1
        have e11b := (j6 b hb).2
        cases hfb : fin b with
        | true =>
          rw [hfb] at e2b e11b
          obtain ⟨α', f1, f2⟩ := fins (c - 1) (by omega) (Or.inr ⟨t, ht, hv, htk, Or.inl ⟨by omega, Or.inr ⟨b, hb, ho, Or.inr hfb⟩⟩⟩)
          obtain ⟨fin', tk', ch', c', g1, g2, g3⟩ := f2 _ dfin d0
          refine ⟨α', _, fin', tk', ch', c', ?_, ?_, g1, g2, g3⟩
          · rw [hv] at hso hq1 f1
            rw [hv] at e10
            rw [ho, if_neg hvn] at hso
            simp (maxSteps := 2000000) (disch := first | rfl | exact q_e1 _ _ _ | exact q_sr1 _ _ | omega) only [f_X1_serve, hq1, hso, ↓q_m1, q_l0, q_l1, q_l2, q_l3, q_l4, q_l5, q_l6, q_l7, q_l8, q_l9, q_l10, q_l11, q_l12, q_l13, q_l14, q_l15, q_l16, q_l17, q_l18, q_l19, q_l20, q_l21, q_l22, q_l23, q_l24, q_l25, q_l26, q_l27, q_l28, q_l29, q_l30, q_l31, q_l32, q_l33, q_l45, q_l46, q_l48, q_l57, q_l58, q_l59, q_l60, q_l61, q_l62, q_l63, q_l64, q_l96, q_l97, q_l99, q_l122, q_l129, q_l137, q_l255, q_l256, q_l400, q_l680, q_l700, q_l959, q_l999, q_l9999, q_l10000, q_l100000, q_ltT, q_ltF, q_leT, q_leF, q_eqF, q_eqR, q_mlt, q_mle, q_nlm, q_nLm, q_nem, q_men, q_mlm, Nat.add_zero, Nat.sub_zero, q_add0, pk_rem, nI_add, pk_mul, q_sub, q_subm, q_addm, nI_clamp, q_inT, q_inF, q_sr1, q_srn, q_srw, q_srs, q_wIs, q_wIn, q_wI2, q_wJ1, q_wJs, q_wJn, q_wR1, q_wRs, q_wRn, q_wI22, q_wJ22, pk_us, pk_un, pk_uLs, pk_uLn, q_usS, q_usN, q_ups, q_upn, Bool.true_eq_false, Bool.false_eq_true, q_lt, q_o2, q_o3, q_o4, q_o5, q_bi, ↓reduceIte, q_tv0, q_tv1, q_bz, q_oRl, q_oRr, q_oXl, q_oXr, e10, j1, f1, eq_false hnb, e2b]
          · rw [hv] at hq2 d1 hro
            rw [ho] at hro
            simp (maxSteps := 2000000) (disch := first | rfl | exact q_e1 _ _ _ | exact q_sr1 _ _ | omega) only [f_X13_steps, ↓q_m1, q_l0, q_l1, q_l2, q_l3, q_l4, q_l5, q_l6, q_l7, q_l8, q_l9, q_l10, q_l11, q_l12, q_l13, q_l14, q_l15, q_l16, q_l17, q_l18, q_l19, q_l20, q_l21, q_l22, q_l23, q_l24, q_l25, q_l26, q_l27, q_l28, q_l29, q_l30, q_l31, q_l32, q_l33, q_l45, q_l46, q_l48, q_l57, q_l58, q_l59, q_l60, q_l61, q_l62, q_l63, q_l64, q_l96, q_l97, q_l99, q_l122, q_l129, q_l137, q_l255, q_l256, q_l400, q_l680, q_l700, q_l959, q_l999, q_l9999, q_l10000, q_l100000, q_ltT, q_ltF, q_leT, q_leF, q_eqF, q_eqR, q_mlt, q_mle, q_nlm, q_nLm, q_nem, q_men, q_mlm, Nat.add_zero, Nat.sub_zero, q_add0, pk_rem, nI_add, pk_mul, q_sub, q_subm, q_addm, nI_clamp, q_inT, q_inF, q_sr1, q_srn, q_srw, q_srs, q_wIs, q_wIn, q_wI2, q_wJ1, q_wJs, q_wJn, q_wR1, q_wRs, q_wRn, q_wI22, q_wJ22, pk_us, pk_un, pk_uLs, pk_uLn, q_usS, q_usN, q_ups, q_upn, Bool.true_eq_false, Bool.false_eq_true, q_lt, q_o2, q_o3, q_o4, q_o5, q_bi, ↓reduceIte, q_tv0, q_tv1, q_bz, q_oRl, q_oRr, q_oXl, q_oXr, j2, l4, hq2, hro, d1, ed19, eq_false hnb, e11b]
        | false =>
          rw [hfb] at e2b e11b
          have hpl : f_X1_placeInChain (nI b) (wI α 1 (ch (c - 1)) (rqv tk a (ch (c - 1)))) = some (fd c (fun k => decide (ch k = b))) := by
            unfold f_X1_placeInChain
            rw [q_l0]
            refine lp_fd (F := f_X1_placeInChain_2 (nI b) (wI α 1 (ch (c - 1)) (rqv tk a (ch (c - 1))))) (fun k => decide (ch k = b)) c (fun n k hk => ?_) (fun n => ?_) (fu_lt (show c < 2000 by omega))
            · obtain ⟨q1, q2, q3, q4⟩ := j4 k hk
              by_cases q : ch k = b
              · rw [decide_eq_true q]
                simp (maxSteps := 2000000) (disch := first | rfl | exact q_e1 _ _ _ | exact q_sr1 _ _ | omega) only [f_X1_placeInChain_2, ↓q_m1, q_l0, q_l1, q_l2, q_l3, q_l4, q_l5, q_l6, q_l7, q_l8, q_l9, q_l10, q_l11, q_l12, q_l13, q_l14, q_l15, q_l16, q_l17, q_l18, q_l19, q_l20, q_l21, q_l22, q_l23, q_l24, q_l25, q_l26, q_l27, q_l28, q_l29, q_l30, q_l31, q_l32, q_l33, q_l45, q_l46, q_l48, q_l57, q_l58, q_l59, q_l60, q_l61, q_l62, q_l63, q_l64, q_l96, q_l97, q_l99, q_l122, q_l129, q_l137, q_l255, q_l256, q_l400, q_l680, q_l700, q_l959, q_l999, q_l9999, q_l10000, q_l100000, q_ltT, q_ltF, q_leT, q_leF, q_eqF, q_eqR, q_mlt, q_mle, q_nlm, q_nLm, q_nem, q_men, q_mlm, Nat.add_zero, Nat.sub_zero, q_add0, pk_rem, nI_add, pk_mul, q_sub, q_subm, q_addm, nI_clamp, q_inT, q_inF, q_sr1, q_srn, q_srw, q_srs, q_wIs, q_wIn, q_wI2, q_wJ1, q_wJs, q_wJn, q_wR1, q_wRs, q_wRn, q_wI22, q_wJ22, pk_us, pk_un, pk_uLs, pk_uLn, q_usS, q_usN, q_ups, q_upn, Bool.true_eq_false, Bool.false_eq_true, q_lt, q_o2, q_o3, q_o4, q_o5, q_bi, ↓reduceIte, q_tv0, q_tv1, q_bz, q_oRl, q_oRr, q_oXl, q_oXr, e10, j1, q3, q]
              · have : (nI (ch k) = nI b) = False := eq_false (fun q' => q ((nI_eq (by omega) (by omega)).mp q'))
                rw [decide_eq_false q]
                simp (maxSteps := 2000000) (disch := first | rfl | exact q_e1 _ _ _ | exact q_sr1 _ _ | omega) only [f_X1_placeInChain_2, ↓q_m1, q_l0, q_l1, q_l2, q_l3, q_l4, q_l5, q_l6, q_l7, q_l8, q_l9, q_l10, q_l11, q_l12, q_l13, q_l14, q_l15, q_l16, q_l17, q_l18, q_l19, q_l20, q_l21, q_l22, q_l23, q_l24, q_l25, q_l26, q_l27, q_l28, q_l29, q_l30, q_l31, q_l32, q_l33, q_l45, q_l46, q_l48, q_l57, q_l58, q_l59, q_l60, q_l61, q_l62, q_l63, q_l64, q_l96, q_l97, q_l99, q_l122, q_l129, q_l137, q_l255, q_l256, q_l400, q_l680, q_l700, q_l959, q_l999, q_l9999, q_l10000, q_l100000, q_ltT, q_ltF, q_leT, q_leF, q_eqF, q_eqR, q_mlt, q_mle, q_nlm, q_nLm, q_nem, q_men, q_mlm, Nat.add_zero, Nat.sub_zero, q_add0, pk_rem, nI_add, pk_mul, q_sub, q_subm, q_addm, nI_clamp, q_inT, q_inF, q_sr1, q_srn, q_srw, q_srs, q_wIs, q_wIn, q_wI2, q_wJ1, q_wJs, q_wJn, q_wR1, q_wRs, q_wRn, q_wI22, q_wJ22, pk_us, pk_un, pk_uLs, pk_uLn, q_usS, q_usN, q_ups, q_upn, Bool.true_eq_false, Bool.false_eq_true, q_lt, q_o2, q_o3, q_o4, q_o5, q_bi, ↓reduceIte, q_tv0, q_tv1, q_bz, q_oRl, q_oRr, q_oXl, q_oXr, e10, j1, q3, this]
            · simp (maxSteps := 2000000) (disch := first | rfl | exact q_e1 _ _ _ | exact q_sr1 _ _ | omega) only [f_X1_placeInChain_2, ↓q_m1, q_l0, q_l1, q_l2, q_l3, q_l4, q_l5, q_l6, q_l7, q_l8, q_l9, q_l10, q_l11, q_l12, q_l13, q_l14, q_l15, q_l16, q_l17, q_l18, q_l19, q_l20, q_l21, q_l22, q_l23, q_l24, q_l25, q_l26, q_l27, q_l28, q_l29, q_l30, q_l31, q_l32, q_l33, q_l45, q_l46, q_l48, q_l57, q_l58, q_l59, q_l60, q_l61, q_l62, q_l63, q_l64, q_l96, q_l97, q_l99, q_l122, q_l129, q_l137, q_l255, q_l256, q_l400, q_l680, q_l700, q_l959, q_l999, q_l9999, q_l10000, q_l100000, q_ltT, q_ltF, q_leT, q_leF, q_eqF, q_eqR, q_mlt, q_mle, q_nlm, q_nLm, q_nem, q_men, q_mlm, Nat.add_zero, Nat.sub_zero, q_add0, pk_rem, nI_add, pk_mul, q_sub, q_subm, q_addm, nI_clamp, q_inT, q_inF, q_sr1, q_srn, q_srw, q_srs, q_wIs, q_wIn, q_wI2, q_wJ1, q_wJs, q_wJn, q_wR1, q_wRs, q_wRn, q_wI22, q_wJ22, pk_us, pk_un, pk_uLs, pk_uLn, q_usS, q_usN, q_ups, q_upn, Bool.true_eq_false, Bool.false_eq_true, q_lt, q_o2, q_o3, q_o4, q_o5, q_bi, ↓reduceIte, q_tv0, q_tv1, q_bz, q_oRl, q_oRr, q_oXl, q_oXr, e10, j1]
          have e319 : (wI ρ 9 (ch (c - 1)) (rqv tk a (ch (c - 1)))).1 0 19 = nI c := (congrFun (q_wIn (by omega)) 19).trans j2
          have hin : f_X13_inChain (nI b) (wI ρ 9 (ch (c - 1)) (rqv tk a (ch (c - 1)))) = some (fd c (fun k => decide (ch k = b))) := by
            unfold f_X13_inChain
            rw [q_l0]
            refine lp_fd (F := f_X13_inChain_2 (nI b) (wI ρ 9 (ch (c - 1)) (rqv tk a (ch (c - 1))))) (fun k => decide (ch k = b)) c (fun n k hk => ?_) (fun n => ?_) (fu_lt (show c < 2000 by omega))
            · obtain ⟨q1, q2, q3, q4⟩ := j4 k hk
              by_cases q : ch k = b
              · rw [decide_eq_true q]
                simp (maxSteps := 2000000) (disch := first | rfl | exact q_e1 _ _ _ | exact q_sr1 _ _ | omega) only [f_X13_inChain_2, ↓q_m1, q_l0, q_l1, q_l2, q_l3, q_l4, q_l5, q_l6, q_l7, q_l8, q_l9, q_l10, q_l11, q_l12, q_l13, q_l14, q_l15, q_l16, q_l17, q_l18, q_l19, q_l20, q_l21, q_l22, q_l23, q_l24, q_l25, q_l26, q_l27, q_l28, q_l29, q_l30, q_l31, q_l32, q_l33, q_l45, q_l46, q_l48, q_l57, q_l58, q_l59, q_l60, q_l61, q_l62, q_l63, q_l64, q_l96, q_l97, q_l99, q_l122, q_l129, q_l137, q_l255, q_l256, q_l400, q_l680, q_l700, q_l959, q_l999, q_l9999, q_l10000, q_l100000, q_ltT, q_ltF, q_leT, q_leF, q_eqF, q_eqR, q_mlt, q_mle, q_nlm, q_nLm, q_nem, q_men, q_mlm, Nat.add_zero, Nat.sub_zero, q_add0, pk_rem, nI_add, pk_mul, q_sub, q_subm, q_addm, nI_clamp, q_inT, q_inF, q_sr1, q_srn, q_srw, q_srs, q_wIs, q_wIn, q_wI2, q_wJ1, q_wJs, q_wJn, q_wR1, q_wRs, q_wRn, q_wI22, q_wJ22, pk_us, pk_un, pk_uLs, pk_uLn, q_usS, q_usN, q_ups, q_upn, Bool.true_eq_false, Bool.false_eq_true, q_lt, q_o2, q_o3, q_o4, q_o5, q_bi, ↓reduceIte, q_tv0, q_tv1, q_bz, q_oRl, q_oRr, q_oXl, q_oXr, j2, q4, q]
              · have : (nI (ch k) = nI b) = False := eq_false (fun q' => q ((nI_eq (by omega) (by omega)).mp q'))
                rw [decide_eq_false q]
                simp (maxSteps := 2000000) (disch := first | rfl | exact q_e1 _ _ _ | exact q_sr1 _ _ | omega) only [f_X13_inChain_2, ↓q_m1, q_l0, q_l1, q_l2, q_l3, q_l4, q_l5, q_l6, q_l7, q_l8, q_l9, q_l10, q_l11, q_l12, q_l13, q_l14, q_l15, q_l16, q_l17, q_l18, q_l19, q_l20, q_l21, q_l22, q_l23, q_l24, q_l25, q_l26, q_l27, q_l28, q_l29, q_l30, q_l31, q_l32, q_l33, q_l45, q_l46, q_l48, q_l57, q_l58, q_l59, q_l60, q_l61, q_l62, q_l63, q_l64, q_l96, q_l97, q_l99, q_l122, q_l129, q_l137, q_l255, q_l256, q_l400, q_l680, q_l700, q_l959, q_l999, q_l9999, q_l10000, q_l100000, q_ltT, q_ltF, q_leT, q_leF, q_eqF, q_eqR, q_mlt, q_mle, q_nlm, q_nLm, q_nem, q_men, q_mlm, Nat.add_zero, Nat.sub_zero, q_add0, pk_rem, nI_add, pk_mul, q_sub, q_subm, q_addm, nI_clamp, q_inT, q_inF, q_sr1, q_srn, q_srw, q_srs, q_wIs, q_wIn, q_wI2, q_wJ1, q_wJs, q_wJn, q_wR1, q_wRs, q_wRn, q_wI22, q_wJ22, pk_us, pk_un, pk_uLs, pk_uLn, q_usS, q_usN, q_ups, q_upn, Bool.true_eq_false, Bool.false_eq_true, q_lt, q_o2, q_o3, q_o4, q_o5, q_bi, ↓reduceIte, q_tv0, q_tv1, q_bz, q_oRl, q_oRr, q_oXl, q_oXr, j2, q4, this]
            · simp (maxSteps := 2000000) (disch := first | rfl | exact q_e1 _ _ _ | exact q_sr1 _ _ | omega) only [f_X13_inChain_2, ↓q_m1, q_l0, q_l1, q_l2, q_l3, q_l4, q_l5, q_l6, q_l7, q_l8, q_l9, q_l10, q_l11, q_l12, q_l13, q_l14, q_l15, q_l16, q_l17, q_l18, q_l19, q_l20, q_l21, q_l22, q_l23, q_l24, q_l25, q_l26, q_l27, q_l28, q_l29, q_l30, q_l31, q_l32, q_l33, q_l45, q_l46, q_l48, q_l57, q_l58, q_l59, q_l60, q_l61, q_l62, q_l63, q_l64, q_l96, q_l97, q_l99, q_l122, q_l129, q_l137, q_l255, q_l256, q_l400, q_l680, q_l700, q_l959, q_l999, q_l9999, q_l10000, q_l100000, q_ltT, q_ltF, q_leT, q_leF, q_eqF, q_eqR, q_mlt, q_mle, q_nlm, q_nLm, q_nem, q_men, q_mlm, Nat.add_zero, Nat.sub_zero, q_add0, pk_rem, nI_add, pk_mul, q_sub, q_subm, q_addm, nI_clamp, q_inT, q_inF, q_sr1, q_srn, q_srw, q_srs, q_wIs, q_wIn, q_wI2, q_wJ1, q_wJs, q_wJn, q_wR1, q_wRs, q_wRn, q_wI22, q_wJ22, pk_us, pk_un, pk_uLs, pk_uLn, q_usS, q_usN, q_ups, q_upn, Bool.true_eq_false, Bool.false_eq_true, q_lt, q_o2, q_o3, q_o4, q_o5, q_bi, ↓reduceIte, q_tv0, q_tv1, q_bz, q_oRl, q_oRr, q_oXl, q_oXr, j2]
          rcases fd_cases c (fun k => decide (ch k = b)) with ⟨p, p1, p2, _, p4⟩ | ⟨p1, p4⟩
          · have p2 := of_decide_eq_true p2
            rw [p4] at hpl hin
            obtain ⟨α', f1, f2⟩ := fins p p1 (Or.inr ⟨t, ht, hv, htk, Or.inr (by rw [p2]; exact ho)⟩)
            obtain ⟨ρ', r1, r2, r3⟩ := r_fin (ρ := wI ρ 9 (ch (c - 1)) (rqv tk a (ch (c - 1)))) (S := S) (T := T) (fin := fin) (tk := tk) (ch := ch) (rq := fun k => (wI α 1 (ch (c - 1)) (rqv tk a (ch (c - 1)))).1 1 (ch k)) (p := p) (c := c) h8 t8 (by omega) (by omega) e319 (fun k hk => ⟨(j4 k hk).1, (congrFun (q_wIn (by omega)) k).trans (j4 k hk).2.2.2⟩) j5 (fun k k1 k2 => by
              rw [q_wIs, q_wIs]
              by_cases e : ch k = ch (c - 1)
              · rw [e, pk_us, pk_us]
              · rw [pk_un e, pk_un e]
                have : k ≠ c - 1 := fun q => e (by rw [q])
                exact (j10 k (by omega)).1.symm) (fun k hk => by
              rw [q_wIs]
              by_cases e : ch k = ch (c - 1)
              · rw [e, pk_us]; exact Or.inr ⟨t, ht, hv⟩
              · rw [pk_un e]; exact j8 _ (j4 k hk).1) (fun i hi => (congrFun (q_wIn (by omega)) i).trans (j6 i hi).2) (fun t ht => (congrFun (q_wIn (by omega)) t).trans (j7 t ht).2)
            have r3 : ρ'.1 0 = upd (ρ.1 0) 19 (nI p) := by rw [r3, q_wIn (by omega)]
            obtain ⟨fin', tk', ch', c', g1, g2, g3⟩ := f2 _ r2 r3
            refine ⟨α', ρ', fin', tk', ch', c', ?_, ?_, g1, g2, g3⟩
            · rw [hv] at hso hq1 f1 hpl
              rw [hv] at e10
              rw [ho, if_neg hvn] at hso
              simp (maxSteps := 2000000) (disch := first | rfl | exact q_e1 _ _ _ | exact q_sr1 _ _ | omega) only [f_X1_serve, hq1, hso, ↓q_m1, q_l0, q_l1, q_l2, q_l3, q_l4, q_l5, q_l6, q_l7, q_l8, q_l9, q_l10, q_l11, q_l12, q_l13, q_l14, q_l15, q_l16, q_l17, q_l18, q_l19, q_l20, q_l21, q_l22, q_l23, q_l24, q_l25, q_l26, q_l27, q_l28, q_l29, q_l30, q_l31, q_l32, q_l33, q_l45, q_l46, q_l48, q_l57, q_l58, q_l59, q_l60, q_l61, q_l62, q_l63, q_l64, q_l96, q_l97, q_l99, q_l122, q_l129, q_l137, q_l255, q_l256, q_l400, q_l680, q_l700, q_l959, q_l999, q_l9999, q_l10000, q_l100000, q_ltT, q_ltF, q_leT, q_leF, q_eqF, q_eqR, q_mlt, q_mle, q_nlm, q_nLm, q_nem, q_men, q_mlm, Nat.add_zero, Nat.sub_zero, q_add0, pk_rem, nI_add, pk_mul, q_sub, q_subm, q_addm, nI_clamp, q_inT, q_inF, q_sr1, q_srn, q_srw, q_srs, q_wIs, q_wIn, q_wI2, q_wJ1, q_wJs, q_wJn, q_wR1, q_wRs, q_wRn, q_wI22, q_wJ22, pk_us, pk_un, pk_uLs, pk_uLn, q_usS, q_usN, q_ups, q_upn, Bool.true_eq_false, Bool.false_eq_true, q_lt, q_o2, q_o3, q_o4, q_o5, q_bi, ↓reduceIte, q_tv0, q_tv1, q_bz, q_oRl, q_oRr, q_oXl, q_oXr, e10, j1, f1, eq_false hnb, e2b, hpl]
            · rw [hv] at hq2 hro hin r1
              rw [ho] at hro
              simp (maxSteps := 2000000) (disch := first | rfl | exact q_e1 _ _ _ | exact q_sr1 _ _ | omega) only [f_X13_steps, ↓q_m1, q_l0, q_l1, q_l2, q_l3, q_l4, q_l5, q_l6, q_l7, q_l8, q_l9, q_l10, q_l11, q_l12, q_l13, q_l14, q_l15, q_l16, q_l17, q_l18, q_l19, q_l20, q_l21, q_l22, q_l23, q_l24, q_l25, q_l26, q_l27, q_l28, q_l29, q_l30, q_l31, q_l32, q_l33, q_l45, q_l46, q_l48, q_l57, q_l58, q_l59, q_l60, q_l61, q_l62, q_l63, q_l64, q_l96, q_l97, q_l99, q_l122, q_l129, q_l137, q_l255, q_l256, q_l400, q_l680, q_l700, q_l959, q_l999, q_l9999, q_l10000, q_l100000, q_ltT, q_ltF, q_leT, q_leF, q_eqF, q_eqR, q_mlt, q_mle, q_nlm, q_nLm, q_nem, q_men, q_mlm, Nat.add_zero, Nat.sub_zero, q_add0, pk_rem, nI_add, pk_mul, q_sub, q_subm, q_addm, nI_clamp, q_inT, q_inF, q_sr1, q_srn, q_srw, q_srs, q_wIs, q_wIn, q_wI2, q_wJ1, q_wJs, q_wJn, q_wR1, q_wRs, q_wRn, q_wI22, q_wJ22, pk_us, pk_un, pk_uLs, pk_uLn, q_usS, q_usN, q_ups, q_upn, Bool.true_eq_false, Bool.false_eq_true, q_lt, q_o2, q_o3, q_o4, q_o5, q_bi, ↓reduceIte, q_tv0, q_tv1, q_bz, q_oRl, q_oRr, q_oXl, q_oXr, j2, l4, hq2, hro, eq_false hnb, e11b, hin, r1]
          · rw [p4] at hpl hin
            have hnc : ∀ k, k < c → ch k ≠ b := fun k hk => of_decide_eq_false (p1 k hk)
            -- the request is set, then the holder joins
            have hj2 : JA S T a (wI α 1 (ch (c - 1)) (rqv tk a (ch (c - 1)))) (wI ρ 9 (ch (c - 1)) (rqv tk a (ch (c - 1)))) fin tk ch c := by
              refine ⟨⟨e10, e319, j3⟩, fun k hk => ?_, j5, fun i hi => ?_, fun t ht => ?_, fun i hi => ?_, fun i hi hf => ?_, fun k hk => ?_, j11, fun i j hi hj hf hg t ht => ?_⟩
              · rw [q_wIn (show (4 : Nat) ≠ 1 by omega), q_wIn (show (8 : Nat) ≠ 9 by omega)]; exact j4 k hk
              · rw [q_wIn (show (2 : Nat) ≠ 1 by omega), q_wIn (show (11 : Nat) ≠ 9 by omega)]; exact j6 i hi
              · rw [q_wIn (show (3 : Nat) ≠ 1 by omega), q_wIn (show (12 : Nat) ≠ 9 by omega)]; exact j7 t ht
              · rw [q_wIs]
                by_cases e : i = ch (c - 1)
                · subst e; rw [pk_us]; exact Or.inr ⟨t, ht, hv⟩
                · rw [pk_un e]; exact j8 i hi
              · have hne : i ≠ ch (c - 1) := fun e => by rw [← e, hf] at l2; cases l2
                rw [q_wIs, pk_un hne, q_wIn (show (10 : Nat) ≠ 9 by omega)]; exact j9 i hi hf
              · have hne : ch k ≠ ch (c - 1) := fun q => by
                  have := j5 k (c - 1) (by omega) (by omega) q
                  omega
                rw [q_wIs, pk_un hne, q_wIs, pk_un hne]; exact j10 k hk
              · have hne : i ≠ ch (c - 1) := fun e => by rw [← e, hf] at l2; cases l2
                have hne' : j ≠ ch (c - 1) := fun e => by rw [← e, hg] at l2; cases l2
                rw [q_wIs, pk_un hne, pk_un hne']; exact j12 i j hi hj hf hg t ht
            have hroom : c + 1 ≤ S := php1 (by omega) (by omega) ch (fun k hk => (j4 k hk).1) j5 hb hnc
            obtain ⟨_, g1, g2, g3⟩ := hj2.app w hb hfb hnc (α' := wI (wI (wI α 1 (ch (c - 1)) (rqv tk a (ch (c - 1)))) 4 c (nI b)) 0 4 (nI (c + 1))) (ρ' := wI (wI (wI ρ 9 (ch (c - 1)) (rqv tk a (ch (c - 1)))) 8 c (nI b)) 0 19 (nI (c + 1))) (by simp (maxSteps := 2000000) (disch := first | rfl | exact q_e1 _ _ _ | exact q_sr1 _ _ | omega) only [q_sr1, q_srn, q_srw, q_srs, q_wIs, q_wIn, q_wI2, q_wJ1, q_wJs, q_wJn, q_wR1, q_wRs, q_wRn, q_wI22, q_wJ22, pk_us, pk_un, pk_uLs, pk_uLn, q_usS, q_usN, q_ups, q_upn]) (fun k h0 h4 => (q_wIn h0).trans (q_wIn h4)) (by rw [q_wIn (by omega), q_wIs]) (fun k h0 h4 => (q_wIn h0).trans (q_wIn h4)) (by rw [q_wIn (by omega), q_wIs]) (by rw [q_wIs, q_wIn (by omega)]) (fun k hk => by
              have : k = c - 1 := by omega
              subst this
              rw [q_wIs, pk_us, q_wIs, pk_us]
              exact ⟨rfl, t, ht, hv, ho⟩)
            refine ⟨_, _, fin, tk, _, c + 1, ?_, ?_, g1, KA.tr ⟨fun k h0 hk => q_wIn (by omega), fun f _ => congrFun (q_wIn (by omega)) f⟩ g2, g3⟩
            · rw [hv] at hso hq1 hpl
              rw [hv] at e10
              rw [ho, if_neg hvn] at hso
              simp (maxSteps := 2000000) (disch := first | rfl | exact q_e1 _ _ _ | exact q_sr1 _ _ | omega) only [f_X1_serve, f_X1_append, hq1, hso, ↓q_m1, q_l0, q_l1, q_l2, q_l3, q_l4, q_l5, q_l6, q_l7, q_l8, q_l9, q_l10, q_l11, q_l12, q_l13, q_l14, q_l15, q_l16, q_l17, q_l18, q_l19, q_l20, q_l21, q_l22, q_l23, q_l24, q_l25, q_l26, q_l27, q_l28, q_l29, q_l30, q_l31, q_l32, q_l33, q_l45, q_l46, q_l48, q_l57, q_l58, q_l59, q_l60, q_l61, q_l62, q_l63, q_l64, q_l96, q_l97, q_l99, q_l122, q_l129, q_l137, q_l255, q_l256, q_l400, q_l680, q_l700, q_l959, q_l999, q_l9999, q_l10000, q_l100000, q_ltT, q_ltF, q_leT, q_leF, q_eqF, q_eqR, q_mlt, q_mle, q_nlm, q_nLm, q_nem, q_men, q_mlm, Nat.add_zero, Nat.sub_zero, q_add0, pk_rem, nI_add, pk_mul, q_sub, q_subm, q_addm, nI_clamp, q_inT, q_inF, q_sr1, q_srn, q_srw, q_srs, q_wIs, q_wIn, q_wI2, q_wJ1, q_wJs, q_wJn, q_wR1, q_wRs, q_wRn, q_wI22, q_wJ22, pk_us, pk_un, pk_uLs, pk_uLn, q_usS, q_usN, q_ups, q_upn, Bool.true_eq_false, Bool.false_eq_true, q_lt, q_o2, q_o3, q_o4, q_o5, q_bi, ↓reduceIte, q_tv0, q_tv1, q_bz, q_oRl, q_oRr, q_oXl, q_oXr, e10, j1, eq_false hnb, e2b, hpl, hv]
            · rw [hv] at hq2 hro hin
              rw [ho] at hro
              simp (maxSteps := 2000000) (disch := first | rfl | exact q_e1 _ _ _ | exact q_sr1 _ _ | omega) only [f_X13_steps, f_X13_appends, ↓q_m1, q_l0, q_l1, q_l2, q_l3, q_l4, q_l5, q_l6, q_l7, q_l8, q_l9, q_l10, q_l11, q_l12, q_l13, q_l14, q_l15, q_l16, q_l17, q_l18, q_l19, q_l20, q_l21, q_l22, q_l23, q_l24, q_l25, q_l26, q_l27, q_l28, q_l29, q_l30, q_l31, q_l32, q_l33, q_l45, q_l46, q_l48, q_l57, q_l58, q_l59, q_l60, q_l61, q_l62, q_l63, q_l64, q_l96, q_l97, q_l99, q_l122, q_l129, q_l137, q_l255, q_l256, q_l400, q_l680, q_l700, q_l959, q_l999, q_l9999, q_l10000, q_l100000, q_ltT, q_ltF, q_leT, q_leF, q_eqF, q_eqR, q_mlt, q_mle, q_nlm, q_nLm, q_nem, q_men, q_mlm, Nat.add_zero, Nat.sub_zero, q_add0, pk_rem, nI_add, pk_mul, q_sub, q_subm, q_addm, nI_clamp, q_inT, q_inF, q_sr1, q_srn, q_srw, q_srs, q_wIs, q_wIn, q_wI2, q_wJ1, q_wJs, q_wJn, q_wR1, q_wRs, q_wRn, q_wI22, q_wJ22, pk_us, pk_un, pk_uLs, pk_uLn, q_usS, q_usN, q_ups, q_upn, Bool.true_eq_false, Bool.false_eq_true, q_lt, q_o2, q_o3, q_o4, q_o5, q_bi, ↓reduceIte, q_tv0, q_tv1, q_bz, q_oRl, q_oRr, q_oXl, q_oXr, j2, l4, hq2, hro, eq_false hnb, e11b, hin, hv]
end ALC

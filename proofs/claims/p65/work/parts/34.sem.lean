/-! the mechanism, as what holds of the chain, the rest of the line, the finished and the given -/
def lst (a : Nat → Int32) (i q : Nat) : Int32 := a (25 + 13 * i + (5 + q))
def ordl (S : Nat) (a : Nat → Int32) : List Nat := (List.range S).map (oi a)
/-- what stands on a place of a list went to somebody before the time n -/
def TKb (S T : Nat) (a : Nat → Int32) (fin : Nat → Bool) (rq : Nat → Int32) (tm : Nat → Nat) (i n q : Nat) : Prop := ∃ t j, t < T ∧ lst a i q = nI t ∧ j < S ∧ fin j = true ∧ rq j = nI t ∧ tm j < n
/-- what a finished seller got is the best that was left -/
def GO (S T : Nat) (a : Nat → Int32) (fin : Nat → Bool) (rq : Nat → Int32) (tm : Nat → Nat) (i : Nat) : Prop :=
  (∃ p, p ≤ ln a i ∧ (∀ q, q < p → TKb S T a fin rq tm i (tm i) q) ∧ (p < ln a i → rq i = lst a i p) ∧ (p = ln a i → rq i = m1)) ∧
  ∀ q, q < ln a i → lst a i q = a (25 + 13 * i + 3) → ∃ p, p ≤ q ∧ rq i = lst a i p
/-- one of the chain asks for the stall of the next -/
def LK (S T : Nat) (a : Nat → Int32) (tk : Nat → Bool) (rq : Nat → Int32) (x y : Nat) : Prop := ∃ t p, t < T ∧ rq x = nI t ∧ occ S a (nI t) = nI y ∧ p < ln a x ∧ lst a x p = nI t ∧ ∀ q, q < p → ∃ t', t' < T ∧ lst a x q = nI t' ∧ tk t' = true
def Sm (S T : Nat) (a : Nat → Int32) (C R : List Nat) (fin tk : Nat → Bool) (rq : Nat → Int32) (tm : Nat → Nat) (τ : Nat) : Prop :=
  (C ++ R).Nodup ∧ (∀ i, i ∈ C ++ R ↔ i < S ∧ fin i = false) ∧ R.Sublist (ordl S a) ∧
  (∀ i, i < S → rq i = m1 ∨ ∃ t, t < T ∧ rq i = nI t) ∧
  (∀ t, t < T → (tk t = true ↔ ∃ i, i < S ∧ fin i = true ∧ rq i = nI t)) ∧
  (∀ i, i < S → fin i = true → tm i < τ) ∧
  (∀ i j t, i < S → j < S → fin i = true → fin j = true → t < T → rq i = nI t → rq j = nI t → i = j) ∧
  (∀ t i, t < T → tk t = true → i < S → occ S a (nI t) = nI i → fin i = true) ∧
  (∀ k x y, C[k]? = some x → C[k + 1]? = some y → LK S T a tk rq x y) ∧
  (∀ i, i < S → fin i = true → GO S T a fin rq tm i)
/-- the first stall of a list that is left -/
def FAv (T : Nat) (a : Nat → Int32) (tk : Nat → Bool) (x : Nat) (v : Int32) : Prop := ∃ p, p ≤ ln a x ∧ (∀ q, q < p → ∃ t', t' < T ∧ lst a x q = nI t' ∧ tk t' = true) ∧ (p < ln a x → v = lst a x p ∧ ∃ t, t < T ∧ v = nI t ∧ tk t = false) ∧ (p = ln a x → v = m1)
section SEM
variable {S T : Nat} {a : Nat → Int32} {fin tk : Nat → Bool} {rq : Nat → Int32} {tm : Nat → Nat} {τ : Nat}
theorem fav_rqv (w : WL S T a) {x : Nat} (hx : x < S) (tk : Nat → Bool) : FAv T a tk x (rqv tk a x) := by
  have t8 := w.1.2
  rcases fd_cases (ln a x) (fun k => !tk (a (25 + 13 * x + (5 + k))).toNatClampNeg) with ⟨k, h1, h2, h3, _⟩ | ⟨h1, _⟩
  · have er : rqv tk a x = lst a x k := by rw [rqv, fvr_at (k := k) (Nat.zero_le _) (by omega) h2 (fun j _ hj => h3 j hj)]; rfl
    refine ⟨k, by omega, fun q hq => ?_, fun _ => ⟨er, ?_⟩, fun e => by omega⟩
    · obtain ⟨t, ht, e⟩ := w.2.2.1 x q hx (by omega)
      have := h3 q hq
      rw [e, nI_clamp (by omega)] at this
      exact ⟨t, ht, e, by simpa using this⟩
    · obtain ⟨t, ht, e⟩ := w.2.2.1 x k hx h1
      rw [e, nI_clamp (by omega)] at h2
      exact ⟨t, ht, er.trans e, by simpa using h2⟩
  · have er : rqv tk a x = m1 := by rw [rqv, fvr_none (fun k _ hk => h1 k (by omega))]
    refine ⟨ln a x, Nat.le_refl _, fun q hq => ?_, fun e => by omega, fun _ => er⟩
    obtain ⟨t, ht, e⟩ := w.2.2.1 x q hx hq
    have := h1 q hq
    rw [e, nI_clamp (by omega)] at this
    exact ⟨t, ht, e, by simpa using this⟩
theorem occ_self (w : WL S T a) (d : WD S a) {i s : Nat} (hi : i < S) (e : a (25 + 13 * i + 3) = nI s) (hs : s < 2 ^ 31) : occ S a (nI s) = nI i := by
  have h8 := w.1.1
  rcases occ_c S a (nI s) with q | ⟨j, hj, q1, q2⟩
  · exact absurd e (of_decide_eq_false ((fd_none (show S < 2 ^ 31 by omega)).mp q i hi))
  · have : i = j := d.2 i j hi hj (e.trans q2.symm) (by rw [e]; exact fun z => (q_nem hs).mp z)
    rw [q1, this]
theorem TKb.up {fin fin' : Nat → Bool} {rq rq' : Nat → Int32} {tm tm' : Nat → Nat} {i n n' q : Nat} (h : TKb S T a fin rq tm i n q) (hf : ∀ j, j < S → fin j = true → fin' j = true ∧ rq' j = rq j ∧ tm' j = tm j) (hn : n ≤ n') : TKb S T a fin' rq' tm' i n' q := by
  obtain ⟨t, j, h1, h2, h3, h4, h5, h6⟩ := h
  obtain ⟨g1, g2, g3⟩ := hf j h3 h4
  exact ⟨t, j, h1, h2, h3, g1, g2.trans h5, by omega⟩
theorem LK.up {tk tk' : Nat → Bool} {rq rq' : Nat → Int32} {x y : Nat} (h : LK S T a tk rq x y) (ht : ∀ t, t < T → tk t = true → tk' t = true) (hr : rq' x = rq x) : LK S T a tk' rq' x y := by
  obtain ⟨t, p, h1, h2, h3, h4, h5, h6⟩ := h
  exact ⟨t, p, h1, hr.trans h2, h3, h4, h5, fun q hq => by
    obtain ⟨t', g1, g2, g3⟩ := h6 q hq
    exact ⟨t', g1, g2, ht t' g1 g3⟩⟩
theorem Sm.start {x : Nat} {R : List Nat} (h : Sm S T a [] (x :: R) fin tk rq tm τ) : Sm S T a [x] R fin tk rq tm τ := by
  obtain ⟨h1, h2, h3, h4, h5, h6, h7, h8, h9, h10⟩ := h
  refine ⟨h1, h2, (List.sublist_cons_self x R).trans h3, h4, h5, h6, h7, h8, fun k x' y hx hy => ?_, h10⟩
  have : k + 1 < 1 := (List.getElem?_eq_some_iff.mp hy).1
  omega
theorem mem_at {C : List Nat} {k x : Nat} (h : C[k]? = some x) : x ∈ C := List.mem_of_getElem? h
/-- a seller is called into the chain -/
theorem Sm.app (w : WL S T a) {P R1 R2 : List Nat} {x y : Nat} {v : Int32} (h : Sm S T a (P ++ [x]) (R1 ++ y :: R2) fin tk rq tm τ) (hf : FAv T a tk x v) {t : Nat} (ht : t < T) (hv : v = nI t) (ho : occ S a (nI t) = nI y) : Sm S T a (P ++ [x] ++ [y]) (R1 ++ R2) fin tk (upd rq x v) tm τ := by
  obtain ⟨h1, h2, h3, h4, h5, h6, h7, h8, h9, h10⟩ := h
  have t8 := w.1.2
  have hx := (h2 x).mp (by simp)
  have hne : ∀ i, fin i = true → i ≠ x := fun i hi e => by rw [e, hx.2] at hi; cases hi
  have hpm : (P ++ [x] ++ [y] ++ (R1 ++ R2)).Perm (P ++ [x] ++ (R1 ++ y :: R2)) := by
    rw [List.append_assoc (P ++ [x]) [y]]
    refine List.Perm.append_left _ ?_
    show (y :: (R1 ++ R2)).Perm (R1 ++ y :: R2)
    exact List.perm_middle.symm
  refine ⟨hpm.nodup_iff.mpr h1, fun i => (hpm.mem_iff).trans (h2 i), ?_, fun i hi => ?_, fun t' ht' => ?_, h6, fun i j t' hi hj fi fj ht' ei ej => ?_, h8, fun k x' y' hx' hy' => ?_, fun i hi fi => ?_⟩
  · exact (List.Sublist.append (List.Sublist.refl R1) (List.sublist_cons_self y R2)).trans h3
  · by_cases e : i = x
    · subst e; rw [pk_us]; exact Or.inr ⟨t, ht, hv⟩
    · rw [pk_un e]; exact h4 i hi
  · rw [h5 t' ht']
    constructor
    · rintro ⟨i, q1, q2, q3⟩
      exact ⟨i, q1, q2, by rw [pk_un (hne i q2)]; exact q3⟩
    · rintro ⟨i, q1, q2, q3⟩
      rw [pk_un (hne i q2)] at q3
      exact ⟨i, q1, q2, q3⟩
  · rw [pk_un (hne i fi)] at ei
    rw [pk_un (hne j fj)] at ej
    exact h7 i j t' hi hj fi fj ht' ei ej
  · have hl : (P ++ [x]).length = P.length + 1 := by simp
    have hk : k + 1 < P.length + 2 := by
      have := (List.getElem?_eq_some_iff.mp hy').1
      simp at this
      omega
    by_cases e : k + 1 = P.length + 1
    · have ex : x' = x := by
        have hk2 : k = P.length := by omega
        rw [hk2, List.getElem?_append_left (by omega), List.getElem?_append_right (Nat.le_refl _), Nat.sub_self] at hx'
        exact (Option.some.inj hx').symm
      have ey : y' = y := by
        rw [e, List.getElem?_append_right (by omega), hl, Nat.sub_self] at hy'
        exact (Option.some.inj hy').symm
      subst ex
      subst ey
      obtain ⟨p, q1, q2, q3, q4⟩ := hf
      have hp : p < ln a x' := by
        rcases Nat.lt_or_ge p (ln a x') with z | z
        · exact z
        · have := q4 (by omega)
          rw [hv] at this
          exact ((q_nem (show t < 2 ^ 31 by omega)).mp this).elim
      exact ⟨t, p, ht, by rw [pk_us]; exact hv, ho, hp, (q3 hp).1.symm.trans hv, q2⟩
    · have hy2 : (P ++ [x])[k + 1]? = some y' := (List.getElem?_append_left (l₂ := [y]) (by rw [hl]; omega)).symm.trans hy'
      have hx2 : (P ++ [x])[k]? = some x' := (List.getElem?_append_left (l₂ := [y]) (by rw [hl]; omega)).symm.trans hx'
      refine (h9 k x' y' hx2 hy2).up (fun _ _ q => q) (pk_un ?_)
      intro e2
      subst e2
      have hx3 : P[k]? = some x' := (List.getElem?_append_left (l₂ := [x']) (by omega)).symm.trans hx2
      have hnd : (P ++ [x']).Nodup := (List.nodup_append.mp h1).1
      exact (List.nodup_append.mp hnd).2.2 x' (mem_at hx3) x' (by simp) rfl
  · obtain ⟨⟨p, q1, q2, q3, q4⟩, q5⟩ := h10 i hi fi
    refine ⟨⟨p, q1, fun q hq => (q2 q hq).up (fun j hj fj => ⟨fj, pk_un (hne j fj), rfl⟩) (Nat.le_refl _), fun hp => ?_, fun hp => ?_⟩, fun q hq e => ?_⟩
    · rw [pk_un (hne i fi)]; exact q3 hp
    · rw [pk_un (hne i fi)]; exact q4 hp
    · rw [pk_un (hne i fi)]; exact q5 q hq e
/-- the end of the chain finishes -/
theorem Sm.done (w : WL S T a) (d : WD S a) {P D0 R : List Nat} {x : Nat} {v : Int32} (h : Sm S T a (P ++ (D0 ++ [x])) R fin tk rq tm τ) (hf : FAv T a tk x v)
    (hm : v = m1 → D0 = []) (hc : ∀ t, t < T → v = nI t → (D0 = [] ∧ ∀ y, y < S → occ S a (nI t) = nI y → y = x ∨ fin y = true) ∨ ∃ b, (D0 ++ [x])[0]? = some b ∧ occ S a (nI t) = nI b)
    {fin' tk' : Nat → Bool} {tm' : Nat → Nat} (hfin : ∀ i, i < S → (fin' i = true ↔ fin i = true ∨ i ∈ D0 ++ [x])) (htk : ∀ t, t < T → (tk' t = true ↔ tk t = true ∨ ∃ i, i ∈ D0 ++ [x] ∧ upd rq x v i = nI t)) (htm : ∀ i, tm' i = if i ∈ D0 ++ [x] then τ else tm i) : Sm S T a P R fin' tk' (upd rq x v) tm' (τ + 1) := by
  obtain ⟨h1, h2, h3, h4, h5, h6, h7, h8, h9, h10⟩ := h
  have s8 := w.1.1
  have t8 := w.1.2
  have inC : ∀ i, i ∈ D0 ++ [x] → i < S ∧ fin i = false := fun i hi => (h2 i).mp (List.mem_append_left _ (List.mem_append_right _ hi))
  have hx := inC x (by simp)
  have hne : ∀ i, fin i = true → i ≠ x := fun i hi e => by rw [e, hx.2] at hi; cases hi
  have hnD : ∀ i, fin i = true → i ∉ D0 ++ [x] := fun i hi q => by rw [(inC i q).2] at hi; cases hi
  have nd1 := List.nodup_append.mp h1
  have ndC := List.nodup_append.mp nd1.1
  have ndD : (D0 ++ [x]).Nodup := ndC.2.1
  have hD0 : ∀ i, i ∈ D0 → i ≠ x := fun i hi e => (List.nodup_append.mp ndD).2.2 i hi x (by simp) e
  have hr4 : ∀ i, i < S → upd rq x v i = m1 ∨ ∃ t, t < T ∧ upd rq x v i = nI t := fun i hi => by
    by_cases e : i = x
    · subst e
      rw [pk_us]
      obtain ⟨p, q1, q2, q3, q4⟩ := hf
      rcases Nat.lt_or_ge p (ln a i) with z | z
      · obtain ⟨_, t, ht, et, _⟩ := q3 z
        exact Or.inr ⟨t, ht, et⟩
      · exact Or.inl (q4 (by omega))
    · rw [pk_un e]; exact h4 i hi
  -- the members that are not the last
  have link : ∀ k y z, (D0 ++ [x])[k]? = some y → (D0 ++ [x])[k + 1]? = some z → LK S T a tk rq y z := fun k y z hy hz => by
    refine h9 (P.length + k) y z ?_ ?_
    · rw [List.getElem?_append_right (by omega), show P.length + k - P.length = k by omega]; exact hy
    · rw [List.getElem?_append_right (by omega), show P.length + k + 1 - P.length = k + 1 by omega]; exact hz
  have lenD : (D0 ++ [x]).length = D0.length + 1 := by simp
  have atx : (D0 ++ [x])[D0.length]? = some x := by rw [List.getElem?_append_right (Nat.le_refl _), Nat.sub_self]; rfl
  -- of a member: its place, and whose stall it asks for
  have mem : ∀ y, y ∈ D0 ++ [x] → ∃ k, k ≤ D0.length ∧ (D0 ++ [x])[k]? = some y := fun y hy => by
    obtain ⟨k, hk⟩ := List.getElem?_of_mem hy
    exact ⟨k, by have := (List.getElem?_eq_some_iff.mp hk).1; omega, hk⟩
  have lastx : ∀ k y, k ≤ D0.length → (D0 ++ [x])[k]? = some y → (k = D0.length ∧ y = x) ∨ (k < D0.length ∧ y ≠ x ∧ ∃ z, (D0 ++ [x])[k + 1]? = some z ∧ LK S T a tk rq y z) := fun k y hk hy => by
    by_cases e : k = D0.length
    · refine Or.inl ⟨e, ?_⟩
      rw [e, atx] at hy
      exact (Option.some.inj hy).symm
    · have hk2 : k < D0.length := by omega
      obtain ⟨z, hz⟩ : ∃ z, (D0 ++ [x])[k + 1]? = some z := ⟨_, List.getElem?_eq_getElem (by omega)⟩
      have hy2 : D0[k]? = some y := by rw [← hy, List.getElem?_append_left hk2]
      exact Or.inr ⟨hk2, hD0 y (mem_at hy2), z, hz, link k y z hy hz⟩
  have uniq : ∀ k l y, k ≤ D0.length → l ≤ D0.length → (D0 ++ [x])[k]? = some y → (D0 ++ [x])[l]? = some y → k = l := fun k l y hk hl e1 e2 => by
    exact (List.getElem?_inj (by omega) ndD).mp (e1.trans e2.symm)
  -- nothing that they ask for has gone
  have fresh : ∀ y t, y ∈ D0 ++ [x] → t < T → upd rq x v y = nI t → tk t = false := fun y t hy ht e => by
    obtain ⟨k, hk, ey⟩ := mem y hy
    rcases lastx k y hk ey with ⟨_, rfl⟩ | ⟨_, hyx, z, ez, t', p, g1, g2, g3, g4, g5, g6⟩
    · rw [pk_us] at e
      obtain ⟨p, q1, q2, q3, q4⟩ := hf
      rcases Nat.lt_or_ge p (ln a y) with z | z
      · obtain ⟨_, t', ht', et, ef⟩ := q3 z
        have : t = t' := (nI_eq (by omega) (by omega)).mp (e.symm.trans et)
        rw [this]; exact ef
      · have := q4 (by omega)
        rw [e] at this
        exact ((q_nem (show t < 2 ^ 31 by omega)).mp this).elim
    · rw [pk_un hyx] at e
      have : t = t' := (nI_eq (by omega) (by omega)).mp (e.symm.trans g2)
      subst this
      cases htk0 : tk t with
      | false => rfl
      | true =>
        have hz := inC z (mem_at ez)
        have := h8 t z ht htk0 hz.1 g3
        rw [hz.2] at this; cases this
  refine ⟨?_, fun i => ?_, h3, hr4, fun t ht => ?_, fun i hi fi => ?_, fun i j t hi hj fi fj ht ei ej => ?_, fun t i ht ft hi ho => ?_, fun k x' y' hx' hy' => ?_, fun i hi fi => ?_⟩
  · refine List.nodup_append.mpr ⟨ndC.1, nd1.2.1, fun y hy z hz => nd1.2.2 y (List.mem_append_left _ hy) z hz⟩
  · constructor
    · intro hi
      have hi2 : i ∈ P ++ (D0 ++ [x]) ++ R := by
        rcases List.mem_append.mp hi with q | q
        · exact List.mem_append_left _ (List.mem_append_left _ q)
        · exact List.mem_append_right _ q
      obtain ⟨hS, hfi⟩ := (h2 i).mp hi2
      refine ⟨hS, ?_⟩
      cases hx' : fin' i with
      | false => rfl
      | true =>
        rcases (hfin i hS).mp hx' with q | q
        · rw [hfi] at q; cases q
        · rcases List.mem_append.mp hi with q2 | q2
          · exact absurd rfl (ndC.2.2 i q2 i q)
          · exact absurd rfl (nd1.2.2 i (List.mem_append_right _ q) i q2)
    · rintro ⟨hS, hf'⟩
      have h0 : ¬ (fin i = true ∨ i ∈ D0 ++ [x]) := fun q => by rw [(hfin i hS).mpr q] at hf'; cases hf'
      have hfi : fin i = false := by
        cases hq : fin i with
        | false => rfl
        | true => exact absurd (Or.inl hq) h0
      rcases List.mem_append.mp ((h2 i).mpr ⟨hS, hfi⟩) with q | q
      · rcases List.mem_append.mp q with q | q
        · exact List.mem_append_left _ q
        · exact absurd (Or.inr q) h0
      · exact List.mem_append_right _ q
  · rw [htk t ht, h5 t ht]
    constructor
    · rintro (⟨i, q1, q2, q3⟩ | ⟨i, q1, q2⟩)
      · exact ⟨i, q1, (hfin i q1).mpr (Or.inl q2), by rw [pk_un (hne i q2)]; exact q3⟩
      · exact ⟨i, (inC i q1).1, (hfin i (inC i q1).1).mpr (Or.inr q1), q2⟩
    · rintro ⟨i, q1, q2, q3⟩
      rcases (hfin i q1).mp q2 with q | q
      · rw [pk_un (hne i q)] at q3
        exact Or.inl ⟨i, q1, q, q3⟩
      · exact Or.inr ⟨i, q, q3⟩
  · rw [htm]
    rcases (hfin i hi).mp fi with q | q
    · rw [if_neg (hnD i q)]
      have := h6 i hi q
      omega
    · rw [if_pos q]; omega
  · -- no stall twice
    have mix : ∀ i j, i < S → fin i = true → j ∈ D0 ++ [x] → upd rq x v i = nI t → upd rq x v j = nI t → False := fun i j hi q g e1 e2 => by
      rw [pk_un (hne i q)] at e1
      have := (h5 t ht).mpr ⟨i, hi, q, e1⟩
      rw [fresh j t g ht e2] at this; cases this
    rcases (hfin i hi).mp fi with qi | qi <;> rcases (hfin j hj).mp fj with qj | qj
    · rw [pk_un (hne i qi)] at ei
      rw [pk_un (hne j qj)] at ej
      exact h7 i j t hi hj qi qj ht ei ej
    · exact (mix i j hi qi qj ei ej).elim
    · exact (mix j i hj qj qi ej ei).elim
    · obtain ⟨k, hk, ek⟩ := mem i qi
      obtain ⟨l, hl, el⟩ := mem j qj
      rcases lastx k i hk ek with ⟨c1, c2⟩ | ⟨c1, c2, z, ez, t1, p1, g1, g2, g3, _⟩ <;> rcases lastx l j hl el with ⟨d1, d2⟩ | ⟨d1, d2, z', ez', t2, p2, k1, k2, k3, _⟩
      · rw [c2, d2]
      · exfalso
        rw [c2, pk_us] at ei
        rw [pk_un d2] at ej
        have et : t = t2 := (nI_eq (by omega) (by omega)).mp (ej.symm.trans k2)
        subst et
        rcases hc t ht ei with ⟨q, _⟩ | ⟨b, eb, ob⟩
        · rw [q] at d1; exact absurd d1 (Nat.not_lt_zero _)
        · have hb := (inC b (mem_at eb)).1
          have hz := (inC z' (mem_at ez')).1
          have e2 : b = z' := (nI_eq (by omega) (by omega)).mp (ob.symm.trans k3)
          subst e2
          have := uniq 0 (l + 1) b (by omega) (by omega) eb ez'
          omega
      · exfalso
        rw [d2, pk_us] at ej
        rw [pk_un c2] at ei
        have et : t = t1 := (nI_eq (by omega) (by omega)).mp (ei.symm.trans g2)
        subst et
        rcases hc t ht ej with ⟨q, _⟩ | ⟨b, eb, ob⟩
        · rw [q] at c1; exact absurd c1 (Nat.not_lt_zero _)
        · have hb := (inC b (mem_at eb)).1
          have hz := (inC z (mem_at ez)).1
          have e2 : b = z := (nI_eq (by omega) (by omega)).mp (ob.symm.trans g3)
          subst e2
          have := uniq 0 (k + 1) b (by omega) (by omega) eb ez
          omega
      · rw [pk_un c2] at ei
        rw [pk_un d2] at ej
        have et1 : t = t1 := (nI_eq (by omega) (by omega)).mp (ei.symm.trans g2)
        have et2 : t = t2 := (nI_eq (by omega) (by omega)).mp (ej.symm.trans k2)
        rw [← et1] at g3
        rw [← et2] at k3
        have hz := (inC z (mem_at ez)).1
        have hz' := (inC z' (mem_at ez')).1
        have e2 : z = z' := (nI_eq (by omega) (by omega)).mp (g3.symm.trans k3)
        subst e2
        have := uniq (k + 1) (l + 1) z (by omega) (by omega) ez ez'
        obtain rfl : k = l := by omega
        exact Option.some.inj (ek.symm.trans el)
  · refine (hfin i hi).mpr ?_
    rcases (htk t ht).mp ft with q | ⟨j, qj, ej⟩
    · exact Or.inl (h8 t i ht q hi ho)
    · obtain ⟨k, hk, ek⟩ := mem j qj
      rcases lastx k j hk ek with ⟨_, c2⟩ | ⟨c1, c2, z, ez, t1, p1, g1, g2, g3, _⟩
      · rw [c2, pk_us] at ej
        rcases hc t ht ej with ⟨_, q⟩ | ⟨b, eb, ob⟩
        · rcases q i hi ho with q | q
          · right; rw [q]; simp
          · exact Or.inl q
        · have hb := (inC b (mem_at eb)).1
          have : i = b := (nI_eq (by omega) (by omega)).mp (ho.symm.trans ob)
          rw [this]; exact Or.inr (mem_at eb)
      · rw [pk_un c2] at ej
        have et1 : t = t1 := (nI_eq (by omega) (by omega)).mp (ej.symm.trans g2)
        rw [← et1] at g3
        have hz := (inC z (mem_at ez)).1
        have : i = z := (nI_eq (by omega) (by omega)).mp (ho.symm.trans g3)
        rw [this]; exact Or.inr (mem_at ez)
  · have hx2 : (P ++ (D0 ++ [x]))[k]? = some x' := by rw [List.getElem?_append_left (List.getElem?_eq_some_iff.mp hx').1]; exact hx'
    have hy2 : (P ++ (D0 ++ [x]))[k + 1]? = some y' := by rw [List.getElem?_append_left (List.getElem?_eq_some_iff.mp hy').1]; exact hy'
    refine (h9 k x' y' hx2 hy2).up (fun t ht q => (htk t ht).mpr (Or.inl q)) (pk_un ?_)
    intro e
    exact ndC.2.2 x' (mem_at hx') x (by simp) e
  · have old : ∀ j, j < S → fin j = true → fin' j = true ∧ upd rq x v j = rq j ∧ tm' j = tm j := fun j hj fj => ⟨(hfin j hj).mpr (Or.inl fj), pk_un (hne j fj), by rw [htm, if_neg (hnD j fj)]⟩
    rcases (hfin i hi).mp fi with q | q
    · obtain ⟨⟨p, q1, q2, q3, q4⟩, q5⟩ := h10 i hi q
      obtain ⟨_, e2, e3⟩ := old i hi q
      refine ⟨⟨p, q1, fun z hz => (q2 z hz).up old (by omega), fun hp => e2.trans (q3 hp), fun hp => e2.trans (q4 hp)⟩, fun z hz e => ?_⟩
      obtain ⟨p', g1, g2⟩ := q5 z hz e
      exact ⟨p', g1, e2.trans g2⟩
    · -- a member: the place of what it asks for
      have em : tm' i = τ := by rw [htm, if_pos q]
      have key : ∃ p, p ≤ ln a i ∧ (∀ z, z < p → ∃ t', t' < T ∧ lst a i z = nI t' ∧ tk t' = true) ∧ (p < ln a i → upd rq x v i = lst a i p) ∧ (p = ln a i → upd rq x v i = m1) := by
        obtain ⟨k, hk, ek⟩ := mem i q
        rcases lastx k i hk ek with ⟨_, c2⟩ | ⟨c1, c2, z, ez, t1, p1, g1, g2, g3, g4, g5, g6⟩
        · subst c2
          obtain ⟨p, q1, q2, q3, q4⟩ := hf
          exact ⟨p, q1, q2, fun hp => by rw [pk_us]; exact (q3 hp).1, fun hp => by rw [pk_us]; exact q4 hp⟩
        · exact ⟨p1, Nat.le_of_lt g4, g6, fun _ => by rw [pk_un c2]; exact g2.trans g5.symm, fun e => by omega⟩
      obtain ⟨p, q1, q2, q3, q4⟩ := key
      refine ⟨⟨p, q1, fun z hz => ?_, q3, q4⟩, fun z hz e => ?_⟩
      · obtain ⟨t', g1, g2, g3⟩ := q2 z hz
        obtain ⟨j, k1, k2, k3⟩ := (h5 t' g1).mp g3
        obtain ⟨o1, o2, o3⟩ := old j k1 k2
        have := h6 j k1 k2
        exact ⟨t', j, g1, g2, k1, o1, o2.trans k3, by omega⟩
      · obtain ⟨s, hs, es⟩ := w.2.2.1 i z hi hz
        have es2 : lst a i z = nI s := es
        have ho := occ_self w d hi (e.symm.trans es2) (by omega)
        have hle : p ≤ z := by
          rcases Nat.lt_or_ge z p with c | c
          · obtain ⟨t', g1, g2, g3⟩ := q2 z c
            have : s = t' := (nI_eq (by omega) (by omega)).mp (es2.symm.trans g2)
            rw [← this] at g3
            have := h8 s i hs g3 hi ho
            rw [(inC i q).2] at this; cases this
          · exact c
        exact ⟨p, hle, q3 (by omega)⟩
end SEM

/-! the answers, worked out: numbers -/
def m1 : Int32 := -1
theorem q_m1 : (-1 : Int32) = m1 := id rfl
theorem q_m8 (n : Nat) : nI (n + 8) + (-8) = nI n := by
  rw [← nI_add]
  exact (Int32.add_assoc _ _ _).trans (Int32.add_zero _)
theorem q_l0 : (0 : Int32) = nI 0 := id rfl
theorem q_l1 : (1 : Int32) = nI 1 := id rfl
theorem q_l2 : (2 : Int32) = nI 2 := id rfl
theorem q_l3 : (3 : Int32) = nI 3 := id rfl
theorem q_l4 : (4 : Int32) = nI 4 := id rfl
theorem q_l5 : (5 : Int32) = nI 5 := id rfl
theorem q_l6 : (6 : Int32) = nI 6 := id rfl
theorem q_l7 : (7 : Int32) = nI 7 := id rfl
theorem q_l8 : (8 : Int32) = nI 8 := id rfl
theorem q_l9 : (9 : Int32) = nI 9 := id rfl
theorem q_l10 : (10 : Int32) = nI 10 := id rfl
theorem q_l13 : (13 : Int32) = nI 13 := id rfl
theorem q_l16 : (16 : Int32) = nI 16 := id rfl
theorem q_l20 : (20 : Int32) = nI 20 := id rfl
theorem q_l24 : (24 : Int32) = nI 24 := id rfl
theorem q_l25 : (25 : Int32) = nI 25 := id rfl
theorem q_l26 : (26 : Int32) = nI 26 := id rfl
theorem q_l27 : (27 : Int32) = nI 27 := id rfl
theorem q_l31 : (31 : Int32) = nI 31 := id rfl
theorem q_l32 : (32 : Int32) = nI 32 := id rfl
theorem q_l48 : (48 : Int32) = nI 48 := id rfl
theorem q_l57 : (57 : Int32) = nI 57 := id rfl
theorem q_l59 : (59 : Int32) = nI 59 := id rfl
theorem q_l60 : (60 : Int32) = nI 60 := id rfl
theorem q_l11 : (11 : Int32) = nI 11 := id rfl
theorem q_l12 : (12 : Int32) = nI 12 := id rfl
theorem q_l14 : (14 : Int32) = nI 14 := id rfl
theorem q_l15 : (15 : Int32) = nI 15 := id rfl
theorem q_l17 : (17 : Int32) = nI 17 := id rfl
theorem q_l18 : (18 : Int32) = nI 18 := id rfl
theorem q_l19 : (19 : Int32) = nI 19 := id rfl
theorem q_l21 : (21 : Int32) = nI 21 := id rfl
theorem q_l22 : (22 : Int32) = nI 22 := id rfl
theorem q_l23 : (23 : Int32) = nI 23 := id rfl
theorem q_l28 : (28 : Int32) = nI 28 := id rfl
theorem q_l29 : (29 : Int32) = nI 29 := id rfl
theorem q_l30 : (30 : Int32) = nI 30 := id rfl
theorem q_l33 : (33 : Int32) = nI 33 := id rfl
theorem q_l45 : (45 : Int32) = nI 45 := id rfl
theorem q_l46 : (46 : Int32) = nI 46 := id rfl
theorem q_l58 : (58 : Int32) = nI 58 := id rfl
theorem q_l61 : (61 : Int32) = nI 61 := id rfl
theorem q_l62 : (62 : Int32) = nI 62 := id rfl
theorem q_l63 : (63 : Int32) = nI 63 := id rfl
theorem q_l680 : (680 : Int32) = nI 680 := id rfl
theorem q_l64 : (64 : Int32) = nI 64 := id rfl
theorem q_l96 : (96 : Int32) = nI 96 := id rfl
theorem q_l97 : (97 : Int32) = nI 97 := id rfl
theorem q_l99 : (99 : Int32) = nI 99 := id rfl
theorem q_l122 : (122 : Int32) = nI 122 := id rfl
theorem q_l129 : (129 : Int32) = nI 129 := id rfl
theorem q_l137 : (137 : Int32) = nI 137 := id rfl
theorem q_l255 : (255 : Int32) = nI 255 := id rfl
theorem q_l256 : (256 : Int32) = nI 256 := id rfl
theorem q_l400 : (400 : Int32) = nI 400 := id rfl
theorem q_l700 : (700 : Int32) = nI 700 := id rfl
theorem q_l959 : (959 : Int32) = nI 959 := id rfl
theorem q_l999 : (999 : Int32) = nI 999 := id rfl
theorem q_l9999 : (9999 : Int32) = nI 9999 := id rfl
theorem q_l10000 : (10000 : Int32) = nI 10000 := id rfl
theorem q_l100000 : (100000 : Int32) = nI 100000 := id rfl
theorem q_ltT {a b : Nat} (h : a < b) (hb : b < 2 ^ 31) : (nI a < nI b) = True := eq_true (nI_lt h hb)
theorem q_ltF {a b : Nat} (h : b ≤ a) (ha : a < 2 ^ 31) : (nI a < nI b) = False := eq_false (nI_nlt h ha)
theorem q_leT {a b : Nat} (h : a ≤ b) (hb : b < 2 ^ 31) : (nI a ≤ nI b) = True := eq_true (nI_le h hb)
theorem q_leF {a b : Nat} (h : b < a) (ha : a < 2 ^ 31) : (nI a ≤ nI b) = False := eq_false (nI_ge h ha)
theorem q_eqF {a b : Nat} (h : a < b ∨ b < a) (ha : a < 2 ^ 31) (hb : b < 2 ^ 31) : (nI a = nI b) = False := eq_false (fun e => by
  have := (nI_eq ha hb).mp e
  omega)
theorem q_eqR (x : Int32) : (x = x) = True := eq_self x
theorem q_toInt {n : Nat} (h : n < 2 ^ 31) : (nI n).toInt = (n : Int) := nI_toInt h
theorem q_m1i : m1.toInt = -1 := by decide
theorem q_mlt {n : Nat} (h : n < 2 ^ 31) : (m1 < nI n) = True := eq_true (by rw [Int32.lt_iff_toInt_lt, q_toInt h, q_m1i]; omega)
theorem q_mle {n : Nat} (h : n < 2 ^ 31) : (m1 ≤ nI n) = True := eq_true (by rw [Int32.le_iff_toInt_le, q_toInt h, q_m1i]; omega)
theorem q_nlm {n : Nat} (h : n < 2 ^ 31) : (nI n ≤ m1) = False := eq_false (by rw [Int32.le_iff_toInt_le, q_toInt h, q_m1i]; omega)
theorem q_nLm {n : Nat} (h : n < 2 ^ 31) : (nI n < m1) = False := eq_false (by rw [Int32.lt_iff_toInt_lt, q_toInt h, q_m1i]; omega)
theorem q_nem {n : Nat} (h : n < 2 ^ 31) : (nI n = m1) = False := eq_false (fun e => by
  have := congrArg Int32.toInt e
  rw [q_toInt h, q_m1i] at this
  omega)
theorem q_men {n : Nat} (h : n < 2 ^ 31) : (m1 = nI n) = False := eq_false (fun e => by
  have := congrArg Int32.toInt e
  rw [q_toInt h, q_m1i] at this
  omega)
theorem q_mlm : (m1 < nI 0) = True := by decide
theorem q_sub {a b : Nat} (h : b ≤ a) : nI a - nI b = nI (a - b) := pk_sub h
theorem q_subm {a b : Nat} (h : a + 1 = b) : nI a - nI b = m1 := by
  subst h
  rw [nI_succ, ← Int32.sub_sub, Int32.sub_self]
  decide
theorem q_addm {a : Nat} (h : 0 < a) : nI a + m1 = nI (a - 1) := by
  obtain ⟨b, rfl⟩ : ∃ b, a = b + 1 := ⟨a - 1, by omega⟩
  exact pk_m1 b
theorem q_add0 (x : Int32) : x + nI 0 = x := Int32.add_zero x
theorem q_inT {i n : Nat} (h : i < n) (hi : i < 2 ^ 31) : (inb (nI i) n = true) = True := eq_true (by
  simp only [inb, nI_clamp hi, Bool.not_eq_true', Bool.or_eq_false_iff, decide_eq_false_iff_not]
  exact ⟨nI_pos hi, by omega⟩)
theorem q_inF {i n : Nat} (h : n ≤ i) (hi : i < 2 ^ 31) : (inb (nI i) n = true) = False := eq_false (by
  simp only [inb, nI_clamp hi, Bool.not_eq_true', Bool.or_eq_false_iff, decide_eq_false_iff_not]
  omega)
/-! memories -/
theorem q_wIs (μ : OM) (k j : Nat) (v : Int32) : (wI μ k j v).1 k = upd (μ.1 k) j v := if_pos rfl
theorem q_wIn {μ : OM} {k k' j : Nat} {v : Int32} (h : k' ≠ k) : (wI μ k j v).1 k' = μ.1 k' := if_neg h
theorem q_wI2 (μ : OM) (k j : Nat) (v : Int32) : (wI μ k j v).2.1 = μ.2.1 := id rfl
theorem q_wI22 (μ : OM) (k j : Nat) (v : Int32) : (wI μ k j v).2.2 = μ.2.2 := id rfl
theorem q_wJ1 (μ : OM) (k j : Nat) (v : Int64) : (wJ μ k j v).1 = μ.1 := id rfl
theorem q_wJ22 (μ : OM) (k j : Nat) (v : Int64) : (wJ μ k j v).2.2 = μ.2.2 := id rfl
theorem q_wJs (μ : OM) (k j : Nat) (v : Int64) : (wJ μ k j v).2.1 k = vp_updL (μ.2.1 k) j v := if_pos rfl
theorem q_wJn {μ : OM} {k k' j : Nat} {v : Int64} (h : k' ≠ k) : (wJ μ k j v).2.1 k' = μ.2.1 k' := if_neg h
theorem q_wR1 (μ : OM) (k j : Nat) (v : Option Nat) : (wR μ k j v).1 = μ.1 := id rfl
theorem q_wRs (μ : OM) (k j : Nat) (v : Option Nat) : (wR μ k j v).2.2 k = va_up (μ.2.2 k) j v := if_pos rfl
theorem q_wRn {μ : OM} {k k' j : Nat} {v : Option Nat} (h : k' ≠ k) : (wR μ k j v).2.2 k' = μ.2.2 k' := if_neg h
theorem q_ups {α : Type} (f : Nat → α) (k : Nat) (v : α) : va_up f k v k = v := if_pos rfl
theorem q_upn {α : Type} {f : Nat → α} {k j : Nat} {v : α} (h : j ≠ k) : va_up f k v j = f j := if_neg h
theorem q_usS (σ : SM) (o : Nat) (μ : OM) : us σ o μ o = μ := if_pos rfl
theorem q_usN {σ : SM} {o q : Nat} {μ : OM} (h : q ≠ o) : us σ o μ q = σ q := if_neg h
/-- the reference's first row, written anew -/
def sr (ρ : OM) (f : Nat → Int32) : OM := (fun k => if k = 1 then f else ρ.1 k, ρ.2)
theorem q_sr1 (ρ : OM) (f : Nat → Int32) : (sr ρ f).1 1 = f := id rfl
theorem q_srn {ρ : OM} {f : Nat → Int32} {k : Nat} (h : k ≠ 1) : (sr ρ f).1 k = ρ.1 k := if_neg h
theorem q_srw (ρ : OM) (f : Nat → Int32) (p : Nat) (u : Int32) : wI (sr ρ f) 1 p u = sr ρ (upd f p u) := by
  refine Prod.ext ?_ rfl
  funext k
  by_cases h : k = 1
  · subst h; rfl
  · rw [q_wIn h, q_srn h, q_srn h]
theorem q_srs (ρ : OM) (f g : Nat → Int32) : sr (sr ρ f) g = sr ρ g := by
  refine Prod.ext ?_ rfl
  funext k
  by_cases h : k = 1
  · subst h; rfl
  · rw [q_srn h, q_srn h, q_srn h]
theorem sr_self (ρ : OM) : sr ρ (ρ.1 1) = ρ := by
  refine Prod.ext ?_ rfl
  funext k
  by_cases h : k = 1
  · subst h; rfl
  · rw [q_srn h]
theorem q_e1 (ρ : OM) (j : Nat) (v : Int32) : (wI ρ 0 j v).1 1 = ρ.1 1 := q_wIn (by omega)
/-! roads -/
theorem q_lt {α β : Type} (x : α) (f : α → β) : lt x f = f x := id rfl
theorem q_o2 {α β γ : Type} (a : α) (b : β) (f : α → β → Option γ) : o2 (some (a, b)) f = f a b := id rfl
theorem q_o3 {α β γ δ : Type} (a : α) (b : β) (c : γ) (f : α → β → γ → Option δ) : o3 (some (a, b, c)) f = f a b c := id rfl
theorem q_o4 {α β γ δ ε : Type} (a : α) (b : β) (c : γ) (d : δ) (f : α → β → γ → δ → Option ε) : o4 (some (a, b, c, d)) f = f a b c d := id rfl
theorem q_o5 {α β γ δ ε ζ : Type} (a : α) (b : β) (c : γ) (d : δ) (e : ε) (f : α → β → γ → δ → ε → Option ζ) : o5 (some (a, b, c, d, e)) f = f a b c d e := id rfl
theorem q_bi {α β : Type} (x : α) (f : α → Option β) : (some x).bind f = f x := id rfl
theorem q_oRl {α β : Type} (a : α) (f : β → Option α) : oR (some (.inl a)) f = some a := id rfl
theorem q_oRr {α β : Type} (b : β) (f : β → Option α) : oR (some (.inr b)) f = f b := id rfl
theorem q_oXl {α β : Type} (k : Nat) (f : α → Option (Nat ⊕ β)) : oX (some (.inl k)) f = some (.inl k) := id rfl
theorem q_oXr {α β : Type} (b : α) (f : α → Option (Nat ⊕ β)) : oX (some (.inr b)) f = f b := id rfl
/-- a truth value as an int -/
def tv (b : Bool) : Int32 := if b = true then nI 1 else nI 0
theorem q_tv0 (b : Bool) : (tv b = nI 0) = (b = false) := by
  cases b
  · exact propext ⟨fun _ => rfl, fun _ => rfl⟩
  · exact propext ⟨fun h => absurd h (by decide), fun h => absurd h (by decide)⟩
theorem q_tv1 (b : Bool) : (tv b = nI 1) = (b = true) := by
  cases b
  · exact propext ⟨fun h => absurd h (by decide), fun h => absurd h (by decide)⟩
  · exact propext ⟨fun _ => rfl, fun _ => rfl⟩
theorem q_bz (b : Bool) : (bz (tv b) = true) = True := eq_true (by cases b <;> decide)
theorem q_tvi (b : Bool) : (if b = true then some (nI 1) else some (nI 0)) = some (tv b) := by cases b <;> rfl
theorem q_tvp {α : Type} (b : Bool) (z : α) : (if b = false then some (nI 0, z) else some (nI 1, z)) = some (tv b, z) := by cases b <;> rfl
/-! loops: the first index that has a property -/
def fdr (P : Nat → Bool) : Nat → Nat → Int32
  | 0, _ => m1
  | r + 1, i => if P i = true then nI i else fdr P r (i + 1)
def fd (n : Nat) (P : Nat → Bool) : Int32 := fdr P n 0
theorem fdr_cases (P : Nat → Bool) : ∀ r i : Nat, (∃ j, i ≤ j ∧ j < i + r ∧ P j = true ∧ (∀ k, i ≤ k → k < j → P k = false) ∧ fdr P r i = nI j) ∨ ((∀ k, i ≤ k → k < i + r → P k = false) ∧ fdr P r i = m1)
  | 0, i => Or.inr ⟨fun k h1 h2 => by omega, rfl⟩
  | r + 1, i => by
    by_cases h : P i = true
    · exact Or.inl ⟨i, Nat.le_refl _, by omega, h, fun k h1 h2 => by omega, if_pos h⟩
    · have hf : P i = false := by simpa using h
      rcases fdr_cases P r (i + 1) with ⟨j, h1, h2, h3, h4, h5⟩ | ⟨h1, h2⟩
      · refine Or.inl ⟨j, by omega, by omega, h3, fun k a b => ?_, (if_neg h).trans h5⟩
        by_cases hk : k = i
        · rw [hk]; exact hf
        · exact h4 k (by omega) b
      · refine Or.inr ⟨fun k a b => ?_, (if_neg h).trans h2⟩
        by_cases hk : k = i
        · rw [hk]; exact hf
        · exact h1 k (by omega) (by omega)
theorem fd_cases (n : Nat) (P : Nat → Bool) : (∃ j, j < n ∧ P j = true ∧ (∀ k, k < j → P k = false) ∧ fd n P = nI j) ∨ ((∀ k, k < n → P k = false) ∧ fd n P = m1) := by
  rcases fdr_cases P n 0 with ⟨j, _, h2, h3, h4, h5⟩ | ⟨h1, h2⟩
  · exact Or.inl ⟨j, by omega, h3, fun k hk => h4 k (Nat.zero_le _) hk, h5⟩
  · exact Or.inr ⟨fun k hk => h1 k (Nat.zero_le _) (by omega), h2⟩
theorem fd_none {n : Nat} {P : Nat → Bool} (hn : n < 2 ^ 31) : fd n P = m1 ↔ ∀ k, k < n → P k = false := by
  rcases fd_cases n P with ⟨j, h1, h2, h3, h4⟩ | ⟨h1, h2⟩
  · rw [h4, q_nem (by omega)]
    exact ⟨fun h => h.elim, fun h => by rw [h j h1] at h2; cases h2⟩
  · exact ⟨fun _ => h1, fun _ => h2⟩
theorem fd_some {n : Nat} {P : Nat → Bool} (hn : n < 2 ^ 31) {j : Nat} (hj : j < 2 ^ 31) : fd n P = nI j ↔ j < n ∧ P j = true ∧ ∀ k, k < j → P k = false := by
  rcases fd_cases n P with ⟨i, h1, h2, h3, h4⟩ | ⟨h1, h2⟩
  · rw [h4, nI_eq (by omega) hj]
    refine ⟨fun h => h ▸ ⟨h1, h2, h3⟩, fun ⟨a, b, c⟩ => ?_⟩
    rcases Nat.lt_trichotomy i j with h | h | h
    · rw [c i h] at h2; cases h2
    · exact h
    · rw [h3 j h] at b; cases b
  · rw [h2, q_men hj]
    exact ⟨fun h => h.elim, fun ⟨a, b, _⟩ => by rw [h1 j a] at b; cases b⟩
theorem fd_congr {n : Nat} {P Q : Nat → Bool} (h : ∀ k, k < n → P k = Q k) : fd n P = fd n Q := by
  have : ∀ r i, (∀ k, i ≤ k → k < i + r → P k = Q k) → fdr P r i = fdr Q r i := by
    intro r
    induction r with
    | zero => exact fun _ _ => rfl
    | succ r ih =>
      intro i hi
      show (if P i = true then nI i else fdr P r (i + 1)) = (if Q i = true then nI i else fdr Q r (i + 1))
      rw [hi i (Nat.le_refl _) (by omega), ih (i + 1) (fun k a b => hi k (by omega) (by omega))]
  exact this n 0 (fun k _ hk => h k (by omega))
theorem lp_fd {F : Nat → Int32 → Option Int32} (P : Nat → Bool) (N : Nat) (h1 : ∀ n i, i < N → F (n + 1) (nI i) = if P i = true then some (nI i) else F n (nI (i + 1))) (h2 : ∀ n, F (n + 1) (nI N) = some m1) {n : Nat} (hn : N < n) : F n (nI 0) = some (fd N P) := by
  have : ∀ r i n, i + r = N → r < n → F n (nI i) = some (fdr P r i) := by
    intro r
    induction r with
    | zero =>
      intro i n hi hr
      obtain ⟨n, rfl⟩ : ∃ q, n = q + 1 := ⟨n - 1, by omega⟩
      have hi : i = N := by omega
      rw [hi]; exact h2 n
    | succ r ih =>
      intro i n hi hr
      obtain ⟨n, rfl⟩ : ∃ q, n = q + 1 := ⟨n - 1, by omega⟩
      rw [h1 n i (by omega)]
      show _ = some (if P i = true then nI i else fdr P r (i + 1))
      by_cases h : P i = true
      · rw [if_pos h, if_pos h]
      · rw [if_neg h, if_neg h]; exact ih (i + 1) n (by omega) (by omega)
  exact this N 0 n (by omega) (by omega)
/-- a loop that keeps a picture of its state -/
theorem lp_inv {α β : Type} {F : Nat → Int32 → α → Option β} (I : Nat → α → Prop) (Q : β → Prop) (N : Nat) (h1 : ∀ n i s, i < N → I i s → ∃ s', I (i + 1) s' ∧ F (n + 1) (nI i) s = F n (nI (i + 1)) s') (h2 : ∀ n s, I N s → ∃ b, F (n + 1) (nI N) s = some b ∧ Q b) {n : Nat} (hn : N < n) {s : α} {i0 : Nat} (h0 : I i0 s) (hi0 : i0 ≤ N := by omega) : ∃ b, F n (nI i0) s = some b ∧ Q b := by
  have : ∀ r i n s, i + r = N → r < n → I i s → ∃ b, F n (nI i) s = some b ∧ Q b := by
    intro r
    induction r with
    | zero =>
      intro i n s hi hr hs
      obtain ⟨n, rfl⟩ : ∃ q, n = q + 1 := ⟨n - 1, by omega⟩
      have hi : i = N := by omega
      subst hi; exact h2 n s hs
    | succ r ih =>
      intro i n s hi hr hs
      obtain ⟨n, rfl⟩ : ∃ q, n = q + 1 := ⟨n - 1, by omega⟩
      obtain ⟨s', h3, h4⟩ := h1 n i s (by omega) hs
      rw [h4]; exact ih (i + 1) n s' (by omega) (by omega) h3
  exact this (N - i0) i0 n s (by omega) (by omega) h0
/-- two loops in step -/
theorem lp_two {α α' β β' : Type} {F : Nat → Int32 → α → Option β} {G : Nat → Int32 → α' → Option β'} (I : Nat → α → α' → Prop) (Q : β → β' → Prop) (N : Nat) (h1 : ∀ n n' i s t, i < N → I i s t → (∃ s' t', I (i + 1) s' t' ∧ F (n + 1) (nI i) s = F n (nI (i + 1)) s' ∧ G (n' + 1) (nI i) t = G n' (nI (i + 1)) t') ∨ ∃ b b', F (n + 1) (nI i) s = some b ∧ G (n' + 1) (nI i) t = some b' ∧ Q b b') (h2 : ∀ n n' s t, I N s t → ∃ b b', F (n + 1) (nI N) s = some b ∧ G (n' + 1) (nI N) t = some b' ∧ Q b b') {n n' : Nat} (hn : N < n) (hn' : N < n') {s : α} {t : α'} {i0 : Nat} (h0 : I i0 s t) (hi0 : i0 ≤ N := by omega) : ∃ b b', F n (nI i0) s = some b ∧ G n' (nI i0) t = some b' ∧ Q b b' := by
  have : ∀ r i n n' s t, i + r = N → r < n → r < n' → I i s t → ∃ b b', F n (nI i) s = some b ∧ G n' (nI i) t = some b' ∧ Q b b' := by
    intro r
    induction r with
    | zero =>
      intro i n n' s t hi hr hr' hs
      obtain ⟨n, rfl⟩ : ∃ q, n = q + 1 := ⟨n - 1, by omega⟩
      obtain ⟨n', rfl⟩ : ∃ q, n' = q + 1 := ⟨n' - 1, by omega⟩
      have hi : i = N := by omega
      subst hi; exact h2 n n' s t hs
    | succ r ih =>
      intro i n n' s t hi hr hr' hs
      obtain ⟨n, rfl⟩ : ∃ q, n = q + 1 := ⟨n - 1, by omega⟩
      obtain ⟨n', rfl⟩ : ∃ q, n' = q + 1 := ⟨n' - 1, by omega⟩
      rcases h1 n n' i s t (by omega) hs with ⟨s', t', h3, h4, h5⟩ | h
      · rw [h4, h5]; exact ih (i + 1) n n' s' t' (by omega) (by omega) (by omega) h3
      · exact h
  exact this (N - i0) i0 n n' s t (by omega) (by omega) (by omega) h0
theorem lp_to {β : Type} {F : Nat → Int32 → Option β} (N : Nat) {b : β} (h1 : ∀ n i, i < N → F (n + 1) (nI i) = F n (nI (i + 1))) (h2 : ∀ n, F (n + 1) (nI N) = some b) {n : Nat} (hn : N < n) : F n (nI 0) = some b := by
  have : ∀ r i n, i + r = N → r < n → F n (nI i) = some b := by
    intro r
    induction r with
    | zero =>
      intro i n hi hr
      obtain ⟨n, rfl⟩ : ∃ q, n = q + 1 := ⟨n - 1, by omega⟩
      have hi : i = N := by omega
      rw [hi]; exact h2 n
    | succ r ih =>
      intro i n hi hr
      obtain ⟨n, rfl⟩ : ∃ q, n = q + 1 := ⟨n - 1, by omega⟩
      rw [h1 n i (by omega)]
      exact ih (i + 1) n (by omega) (by omega)
  exact this N 0 n (by omega) (by omega)
theorem fu_lt {n : Nat} (h : n < 2000) : n < FU := h
/-- an int is no index below n, or one -/
theorem q_ix (x : Int32) {n : Nat} (hn : n < 2 ^ 31) : x < nI 0 ∨ (nI 0 ≤ x ∧ nI n ≤ x) ∨ ∃ j : Nat, j < n ∧ x = nI j := by
  rcases pk_ix x hn with h | h | h
  · exact Or.inl h
  · exact Or.inr (Or.inl ⟨Int32.le_trans (nI_le (Nat.zero_le _) hn) h, h⟩)
  · exact Or.inr (Or.inr h)
theorem q_l36 : (36 : Int32) = nI 36 := id rfl
theorem q_l50 : (50 : Int32) = nI 50 := id rfl
theorem q_l100 : (100 : Int32) = nI 100 := id rfl
theorem q_l112 : (112 : Int32) = nI 112 := id rfl
theorem q_l200 : (200 : Int32) = nI 200 := id rfl

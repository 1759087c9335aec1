/-! the memories of the objects: rows of ints, longs and references, by the cell's number inside its object; the whole state by the object's number -/
abbrev OM : Type := (Nat → Nat → Int32) × (Nat → Nat → Int64) × (Nat → Nat → Option Nat)
abbrev SM : Type := Nat → OM
def us (σ : SM) (o : Nat) (μ : OM) : SM := fun q => if q = o then μ else σ q
theorem us_s (σ : SM) (o : Nat) (μ : OM) : us σ o μ o = μ := if_pos rfl
theorem us_n {σ : SM} {o q : Nat} {μ : OM} (h : q ≠ o) : us σ o μ q = σ q := if_neg h
theorem us_x {σ u : SM} {o : Nat} {μ : OM} (h1 : u o = μ) (h2 : ∀ q, q ≠ o → u q = σ q) : u = us σ o μ := by
  funext q
  by_cases h : q = o
  · rw [h, h1, us_s]
  · rw [h2 q h, us_n h]
def wI (μ : OM) (k j : Nat) (v : Int32) : OM := (fun k' => if k' = k then upd (μ.1 k) j v else μ.1 k', μ.2)
def wJ (μ : OM) (k j : Nat) (v : Int64) : OM := (μ.1, fun k' => if k' = k then vp_updL (μ.2.1 k) j v else μ.2.1 k', μ.2.2)
def wR (μ : OM) (k j : Nat) (v : Option Nat) : OM := (μ.1, μ.2.1, fun k' => if k' = k then va_up (μ.2.2 k) j v else μ.2.2 k')
theorem wI_o (μ : OM) (k j : Nat) (v : Int32) : ∀ k', k' ≠ k → (wI μ k j v).1 k' = μ.1 k' ∧ (wI μ k j v).2.1 k' = μ.2.1 k' ∧ (wI μ k j v).2.2 k' = μ.2.2 k' := fun _ h => ⟨if_neg h, rfl, rfl⟩
theorem wJ_o (μ : OM) (k j : Nat) (v : Int64) : ∀ k', k' ≠ k → (wJ μ k j v).1 k' = μ.1 k' ∧ (wJ μ k j v).2.1 k' = μ.2.1 k' ∧ (wJ μ k j v).2.2 k' = μ.2.2 k' := fun _ h => ⟨rfl, if_neg h, rfl⟩
theorem wR_o (μ : OM) (k j : Nat) (v : Option Nat) : ∀ k', k' ≠ k → (wR μ k j v).1 k' = μ.1 k' ∧ (wR μ k j v).2.1 k' = μ.2.1 k' ∧ (wR μ k j v).2.2 k' = μ.2.2 k' := fun _ h => ⟨rfl, rfl, if_neg h⟩
def byts : List (List Int32) := [[109, 97, 114, 107, 101, 116, 59, 115, 116, 97, 108, 108, 32, 101, 97, 115, 116, 32, 53, 59, 115, 116, 97, 108, 108, 32, 119, 101, 115, 116, 32, 56, 59, 115, 116, 97, 108, 108, 32, 110, 111, 114, 116, 104, 32, 48, 59, 115, 116, 97, 108, 108, 32, 115, 111, 117, 116, 104, 32, 49, 50, 59, 115, 101, 108, 108, 101, 114, 32, 97, 110, 110, 32, 50, 48, 32, 52, 32, 119, 101, 115, 116, 32, 101, 97, 115, 116, 32, 97, 116, 32, 101, 97, 115, 116, 59, 115, 101, 108, 108, 101, 114, 32, 98, 111, 98, 32, 51, 32, 54, 32, 101, 97, 115, 116, 32, 115, 111, 117, 116, 104, 32, 97, 116, 32, 119, 101, 115, 116, 59, 115, 101, 108, 108, 101, 114, 32, 99, 105, 100, 32, 53, 48, 32, 48, 32, 110, 111, 114, 116, 104, 32, 119, 101, 115, 116, 59, 115, 101, 108, 108, 101, 114, 32, 100, 111, 116, 32, 57, 32, 57, 32, 115, 111, 117, 116, 104, 32, 101, 97, 115, 116, 32, 119, 101, 115, 116, 59],
  [109, 97, 114, 107, 101, 116],
  [115, 116, 97, 108, 108],
  [97, 116],
  [115, 101, 108, 108, 101, 114],
  [97, 116],
  [109, 97, 114, 107, 101, 116, 59],
  [115, 116, 97, 108, 108],
  [32],
  [59],
  [115, 101, 108, 108, 101, 114],
  [32, 97, 116]]
def lens : List Nat := [188, 6, 5, 2, 6, 2, 7, 5, 1, 1, 6, 3]
def inb (i : Int32) (n : Nat) : Bool := !(decide (i < 0) || decide (n ≤ i.toNatClampNeg))
theorem inb_vp {i : Int32} {n : Nat} (h : inb i n = true) : vp_in i n := by
  intro q
  simp only [inb, Bool.not_eq_true', Bool.or_eq_false_iff, decide_eq_false_iff_not] at h
  exact q.elim h.1 h.2
/-! residues of a function: what is left of it along a path -/
theorem fp {α : Type} {c : Prop} [Decidable c] {a b : α} {r : α} (h : (if c then a else b) = r) (hc : c) : a = r := (if_pos hc).symm.trans h
theorem fn {α : Type} {c : Prop} [Decidable c] {a b : α} {r : α} (h : (if c then a else b) = r) (hc : ¬ c) : b = r := (if_neg hc).symm.trans h
/-- a guard -/
theorem fg {α : Type} {c : Prop} [Decidable c] {a : Option α} {r : α} (h : (if c then a else none) = some r) : c ∧ a = some r := by
  by_cases hc : c
  · exact ⟨hc, fp h hc⟩
  · exact absurd (fn h hc) (by simp)
theorem fb {α β : Type} {x : Option α} {f : α → Option β} {r : β} (h : x.bind f = some r) : ∃ y, x = some y ∧ f y = some r := Option.bind_eq_some_iff.mp h
/-- a name for a value -/
def lt {α β : Type} (x : α) (f : α → β) : β := f x
theorem fl {α β : Type} {x : α} {f : α → β} {r : β} (h : lt x f = r) : ∃ y, x = y ∧ f y = r := ⟨x, rfl, h⟩
/-- calls with more than one answer -/
def o2 {α β γ : Type} (x : Option (α × β)) (f : α → β → Option γ) : Option γ := x.bind (fun z => f z.1 z.2)
def o3 {α β γ δ : Type} (x : Option (α × β × γ)) (f : α → β → γ → Option δ) : Option δ := x.bind (fun z => f z.1 z.2.1 z.2.2)
def o4 {α β γ δ ε : Type} (x : Option (α × β × γ × δ)) (f : α → β → γ → δ → Option ε) : Option ε := x.bind (fun z => f z.1 z.2.1 z.2.2.1 z.2.2.2)
def o5 {α β γ δ ε ζ : Type} (x : Option (α × β × γ × δ × ε)) (f : α → β → γ → δ → ε → Option ζ) : Option ζ := x.bind (fun z => f z.1 z.2.1 z.2.2.1 z.2.2.2.1 z.2.2.2.2)
theorem fb2 {α β γ : Type} {x : Option (α × β)} {f : α → β → Option γ} {r : γ} (h : o2 x f = some r) : ∃ a b, x = some (a, b) ∧ f a b = some r := by
  obtain ⟨⟨a, b⟩, h1, h2⟩ := fb h
  exact ⟨a, b, h1, h2⟩
theorem fb3 {α β γ δ : Type} {x : Option (α × β × γ)} {f : α → β → γ → Option δ} {r : δ} (h : o3 x f = some r) : ∃ a b d, x = some (a, b, d) ∧ f a b d = some r := by
  obtain ⟨⟨a, b, d⟩, h1, h2⟩ := fb h
  exact ⟨a, b, d, h1, h2⟩
theorem fb4 {α β γ δ ε : Type} {x : Option (α × β × γ × δ)} {f : α → β → γ → δ → Option ε} {r : ε} (h : o4 x f = some r) : ∃ a b d i, x = some (a, b, d, i) ∧ f a b d i = some r := by
  obtain ⟨⟨a, b, d, i⟩, h1, h2⟩ := fb h
  exact ⟨a, b, d, i, h1, h2⟩
theorem fb5 {α β γ δ ε ζ : Type} {x : Option (α × β × γ × δ × ε)} {f : α → β → γ → δ → ε → Option ζ} {r : ζ} (h : o5 x f = some r) : ∃ a b d i j, x = some (a, b, d, i, j) ∧ f a b d i j = some r := by
  obtain ⟨⟨a, b, d, i, j⟩, h1, h2⟩ := fb h
  exact ⟨a, b, d, i, j, h1, h2⟩
/-- a loop's answer: out of the method, or behind the loop -/
def oR {α β : Type} (x : Option (α ⊕ β)) (f : β → Option α) : Option α := x.bind (fun z => match z with | .inl a => some a | .inr b => f b)
theorem fR {α β : Type} {x : Option (α ⊕ β)} {f : β → Option α} {r : α} (h : oR x f = some r) : x = some (.inl r) ∨ ∃ b, x = some (.inr b) ∧ f b = some r := by
  obtain ⟨z, h1, h2⟩ := fb h
  cases z with
  | inl a => exact Or.inl (by rw [h1]; exact congrArg (fun q => some (Sum.inl q)) (Option.some.inj h2))
  | inr b => exact Or.inr ⟨b, h1, h2⟩
/-- a byte that is a truth value -/
def bz (v : Int32) : Bool := v == 0 || v == 1
theorem bz_01 {v : Int32} (h : bz v = true) : v = 0 ∨ v = 1 := by
  simp only [bz, Bool.or_eq_true, beq_iff_eq] at h
  exact h
theorem bz_n {v : Int32} (h : bz v = true) : narrow .boolean (.int v) = .int v := by
  rcases bz_01 h with rfl | rfl <;> rfl
theorem bz_f {v : Int32} (h : bz v = true) : fits .boolean (.int v) = true := by
  rcases bz_01 h with rfl | rfl <;> rfl
def FU : Nat := 2000
/-- an answer that is a reference, or none -/
def oe {α β : Type} (x : Option α) (a : β) (f : α → β) : β := match x with
  | none => a
  | some y => f y
theorem fe {α β : Type} {x : Option α} {a : β} {f : α → β} {r : β} (h : oe x a f = r) : (x = none ∧ a = r) ∨ ∃ y, x = some y ∧ f y = r := by
  cases x with
  | none => exact Or.inl ⟨rfl, h⟩
  | some y => exact Or.inr ⟨y, rfl, h⟩
def cz (v : Int32) : Bool := v == (v.toUInt32 % 65536).toInt32
def nn64 (x : UInt64) : Bool := decide (x &&& 0x7fffffffffffffff ≤ 0x7ff0000000000000)
def nn32 (x : UInt32) : Bool := decide (x &&& 0x7fffffff ≤ 0x7f800000)
/-- a method's answer that may be a throw -/
def oX {α β : Type} (x : Option (Nat ⊕ α)) (f : α → Option (Nat ⊕ β)) : Option (Nat ⊕ β) := x.bind (fun z => match z with | .inl k => some (.inl k) | .inr b => f b)
theorem fX {α β : Type} {x : Option (Nat ⊕ α)} {f : α → Option (Nat ⊕ β)} {r : Nat ⊕ β} (h : oX x f = some r) : (∃ k, x = some (.inl k) ∧ r = .inl k) ∨ ∃ b, x = some (.inr b) ∧ f b = some r := by
  obtain ⟨z, h1, h2⟩ := fb h
  cases z with
  | inl k => exact Or.inl ⟨k, h1, (Option.some.inj h2).symm⟩
  | inr b => exact Or.inr ⟨b, h1, h2⟩

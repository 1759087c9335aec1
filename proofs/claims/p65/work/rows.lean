section
/-! the memories of the objects: rows of ints, longs and references, by the cell's number inside its object; the whole state by the object's number -/
abbrev OM : Type := (Nat → Nat → Int32) × (Nat → Nat → Int64) × (Nat → Nat → Option Nat)
abbrev SM : Type := Nat → OM
def us (σ : SM) (o : Nat) (μ : OM) : SM := fun q => if q = o then μ else σ q
theorem us_s (σ : SM) (o : Nat) (μ : OM) : us σ o μ o = μ := if_pos rfl
theorem us_n {σ : SM} {o q : Nat} {μ : OM} (h : q ≠ o) : us σ o μ q = σ q := if_neg h
theorem us_x {σ u : SM} {o : Nat} {μ : OM} (h1 : u o = μ) (h2 : ∀ q, q ≠ o → u q = σ q) : u = us σ o μ := by
  funext q
  by_cases h : q = o
  · rw [h, h1, us_s]
  · rw [h2 q h, us_n h]
def wI (μ : OM) (k j : Nat) (v : Int32) : OM := (fun k' => if k' = k then upd (μ.1 k) j v else μ.1 k', μ.2)
def wJ (μ : OM) (k j : Nat) (v : Int64) : OM := (μ.1, fun k' => if k' = k then vp_updL (μ.2.1 k) j v else μ.2.1 k', μ.2.2)
def wR (μ : OM) (k j : Nat) (v : Option Nat) : OM := (μ.1, μ.2.1, fun k' => if k' = k then va_up (μ.2.2 k) j v else μ.2.2 k')
theorem wI_o (μ : OM) (k j : Nat) (v : Int32) : ∀ k', k' ≠ k → (wI μ k j v).1 k' = μ.1 k' ∧ (wI μ k j v).2.1 k' = μ.2.1 k' ∧ (wI μ k j v).2.2 k' = μ.2.2 k' := fun _ h => ⟨if_neg h, rfl, rfl⟩
theorem wJ_o (μ : OM) (k j : Nat) (v : Int64) : ∀ k', k' ≠ k → (wJ μ k j v).1 k' = μ.1 k' ∧ (wJ μ k j v).2.1 k' = μ.2.1 k' ∧ (wJ μ k j v).2.2 k' = μ.2.2 k' := fun _ h => ⟨rfl, if_neg h, rfl⟩
theorem wR_o (μ : OM) (k j : Nat) (v : Option Nat) : ∀ k', k' ≠ k → (wR μ k j v).1 k' = μ.1 k' ∧ (wR μ k j v).2.1 k' = μ.2.1 k' ∧ (wR μ k j v).2.2 k' = μ.2.2 k' := fun _ h => ⟨rfl, rfl, if_neg h⟩
def byts : List (List Int32) := [[109, 97, 114, 107, 101, 116, 59, 115, 116, 97, 108, 108, 32, 101, 97, 115, 116, 32, 53, 59, 115, 116, 97, 108, 108, 32, 119, 101, 115, 116, 32, 56, 59, 115, 116, 97, 108, 108, 32, 110, 111, 114, 116, 104, 32, 48, 59, 115, 116, 97, 108, 108, 32, 115, 111, 117, 116, 104, 32, 49, 50, 59, 115, 101, 108, 108, 101, 114, 32, 97, 110, 110, 32, 50, 48, 32, 52, 32, 119, 101, 115, 116, 32, 101, 97, 115, 116, 32, 97, 116, 32, 101, 97, 115, 116, 59, 115, 101, 108, 108, 101, 114, 32, 98, 111, 98, 32, 51, 32, 54, 32, 101, 97, 115, 116, 32, 115, 111, 117, 116, 104, 32, 97, 116, 32, 119, 101, 115, 116, 59, 115, 101, 108, 108, 101, 114, 32, 99, 105, 100, 32, 53, 48, 32, 48, 32, 110, 111, 114, 116, 104, 32, 119, 101, 115, 116, 59, 115, 101, 108, 108, 101, 114, 32, 100, 111, 116, 32, 57, 32, 57, 32, 115, 111, 117, 116, 104, 32, 101, 97, 115, 116, 32, 119, 101, 115, 116, 59],
  [109, 97, 114, 107, 101, 116],
  [115, 116, 97, 108, 108],
  [97, 116],
  [115, 101, 108, 108, 101, 114],
  [97, 116],
  [109, 97, 114, 107, 101, 116, 59],
  [115, 116, 97, 108, 108],
  [32],
  [59],
  [115, 101, 108, 108, 101, 114],
  [32, 97, 116]]
def lens : List Nat := [188, 6, 5, 2, 6, 2, 7, 5, 1, 1, 6, 3]
def inb (i : Int32) (n : Nat) : Bool := !(decide (i < 0) || decide (n ≤ i.toNatClampNeg))
theorem inb_vp {i : Int32} {n : Nat} (h : inb i n = true) : vp_in i n := by
  intro q
  simp only [inb, Bool.not_eq_true', Bool.or_eq_false_iff, decide_eq_false_iff_not] at h
  exact q.elim h.1 h.2
/-! residues of a function: what is left of it along a path -/
theorem fp {α : Type} {c : Prop} [Decidable c] {a b : α} {r : α} (h : (if c then a else b) = r) (hc : c) : a = r := (if_pos hc).symm.trans h
theorem fn {α : Type} {c : Prop} [Decidable c] {a b : α} {r : α} (h : (if c then a else b) = r) (hc : ¬ c) : b = r := (if_neg hc).symm.trans h
/-- a guard -/
theorem fg {α : Type} {c : Prop} [Decidable c] {a : Option α} {r : α} (h : (if c then a else none) = some r) : c ∧ a = some r := by
  by_cases hc : c
  · exact ⟨hc, fp h hc⟩
  · exact absurd (fn h hc) (by simp)
theorem fb {α β : Type} {x : Option α} {f : α → Option β} {r : β} (h : x.bind f = some r) : ∃ y, x = some y ∧ f y = some r := Option.bind_eq_some_iff.mp h
/-- a name for a value -/
def lt {α β : Type} (x : α) (f : α → β) : β := f x
theorem fl {α β : Type} {x : α} {f : α → β} {r : β} (h : lt x f = r) : ∃ y, x = y ∧ f y = r := ⟨x, rfl, h⟩
/-- calls with more than one answer -/
def o2 {α β γ : Type} (x : Option (α × β)) (f : α → β → Option γ) : Option γ := x.bind (fun z => f z.1 z.2)
def o3 {α β γ δ : Type} (x : Option (α × β × γ)) (f : α → β → γ → Option δ) : Option δ := x.bind (fun z => f z.1 z.2.1 z.2.2)
def o4 {α β γ δ ε : Type} (x : Option (α × β × γ × δ)) (f : α → β → γ → δ → Option ε) : Option ε := x.bind (fun z => f z.1 z.2.1 z.2.2.1 z.2.2.2)
def o5 {α β γ δ ε ζ : Type} (x : Option (α × β × γ × δ × ε)) (f : α → β → γ → δ → ε → Option ζ) : Option ζ := x.bind (fun z => f z.1 z.2.1 z.2.2.1 z.2.2.2.1 z.2.2.2.2)
theorem fb2 {α β γ : Type} {x : Option (α × β)} {f : α → β → Option γ} {r : γ} (h : o2 x f = some r) : ∃ a b, x = some (a, b) ∧ f a b = some r := by
  obtain ⟨⟨a, b⟩, h1, h2⟩ := fb h
  exact ⟨a, b, h1, h2⟩
theorem fb3 {α β γ δ : Type} {x : Option (α × β × γ)} {f : α → β → γ → Option δ} {r : δ} (h : o3 x f = some r) : ∃ a b d, x = some (a, b, d) ∧ f a b d = some r := by
  obtain ⟨⟨a, b, d⟩, h1, h2⟩ := fb h
  exact ⟨a, b, d, h1, h2⟩
theorem fb4 {α β γ δ ε : Type} {x : Option (α × β × γ × δ)} {f : α → β → γ → δ → Option ε} {r : ε} (h : o4 x f = some r) : ∃ a b d i, x = some (a, b, d, i) ∧ f a b d i = some r := by
  obtain ⟨⟨a, b, d, i⟩, h1, h2⟩ := fb h
  exact ⟨a, b, d, i, h1, h2⟩
theorem fb5 {α β γ δ ε ζ : Type} {x : Option (α × β × γ × δ × ε)} {f : α → β → γ → δ → ε → Option ζ} {r : ζ} (h : o5 x f = some r) : ∃ a b d i j, x = some (a, b, d, i, j) ∧ f a b d i j = some r := by
  obtain ⟨⟨a, b, d, i, j⟩, h1, h2⟩ := fb h
  exact ⟨a, b, d, i, j, h1, h2⟩
/-- a loop's answer: out of the method, or behind the loop -/
def oR {α β : Type} (x : Option (α ⊕ β)) (f : β → Option α) : Option α := x.bind (fun z => match z with | .inl a => some a | .inr b => f b)
theorem fR {α β : Type} {x : Option (α ⊕ β)} {f : β → Option α} {r : α} (h : oR x f = some r) : x = some (.inl r) ∨ ∃ b, x = some (.inr b) ∧ f b = some r := by
  obtain ⟨z, h1, h2⟩ := fb h
  cases z with
  | inl a => exact Or.inl (by rw [h1]; exact congrArg (fun q => some (Sum.inl q)) (Option.some.inj h2))
  | inr b => exact Or.inr ⟨b, h1, h2⟩
/-- a byte that is a truth value -/
def bz (v : Int32) : Bool := v == 0 || v == 1
theorem bz_01 {v : Int32} (h : bz v = true) : v = 0 ∨ v = 1 := by
  simp only [bz, Bool.or_eq_true, beq_iff_eq] at h
  exact h
theorem bz_n {v : Int32} (h : bz v = true) : narrow .boolean (.int v) = .int v := by
  rcases bz_01 h with rfl | rfl <;> rfl
theorem bz_f {v : Int32} (h : bz v = true) : fits .boolean (.int v) = true := by
  rcases bz_01 h with rfl | rfl <;> rfl
def FU : Nat := 2000
/-- an answer that is a reference, or none -/
def oe {α β : Type} (x : Option α) (a : β) (f : α → β) : β := match x with
  | none => a
  | some y => f y
theorem fe {α β : Type} {x : Option α} {a : β} {f : α → β} {r : β} (h : oe x a f = r) : (x = none ∧ a = r) ∨ ∃ y, x = some y ∧ f y = r := by
  cases x with
  | none => exact Or.inl ⟨rfl, h⟩
  | some y => exact Or.inr ⟨y, rfl, h⟩
def cz (v : Int32) : Bool := v == (v.toUInt32 % 65536).toInt32
def nn64 (x : UInt64) : Bool := decide (x &&& 0x7fffffffffffffff ≤ 0x7ff0000000000000)
def nn32 (x : UInt32) : Bool := decide (x &&& 0x7fffffff ≤ 0x7f800000)
/-- a method's answer that may be a throw -/
def oX {α β : Type} (x : Option (Nat ⊕ α)) (f : α → Option (Nat ⊕ β)) : Option (Nat ⊕ β) := x.bind (fun z => match z with | .inl k => some (.inl k) | .inr b => f b)
theorem fX {α β : Type} {x : Option (Nat ⊕ α)} {f : α → Option (Nat ⊕ β)} {r : Nat ⊕ β} (h : oX x f = some r) : (∃ k, x = some (.inl k) ∧ r = .inl k) ∨ ∃ b, x = some (.inr b) ∧ f b = some r := by
  obtain ⟨z, h1, h2⟩ := fb h
  cases z with
  | inl k => exact Or.inl ⟨k, h1, (Option.some.inj h2).symm⟩
  | inr b => exact Or.inr ⟨b, h1, h2⟩
end
section
-- ===== PART A: goes FIRST, ahead of the names: the tables' words, and 'selects' of the private methods out of them =====
/-- a private method of a class that the tables say can be made, by its rows of tables_1 -/
def lw_okq (q : MethodName × Nat) : Prop := (q.1.cls ≠ "java/lang/invoke/MethodHandle" ∧ q.1.cls ≠ "java/lang/invoke/VarHandle") ∧ Cond.instantiable q.1.cls q.2 ∈ tables_1 ∧ Cond.privateMethod q.1 ∈ tables_1 ∧ Cond.instanceMethod q.1 ∈ tables_1
theorem lw_p0 : lw_okq (⟨"StallMarket$Tokens", "readWord", "()V"⟩, 6) := ⟨⟨by decide +kernel, by decide +kernel⟩, List.mem_of_getElem? (i := 206) (by decide +kernel), List.mem_of_getElem? (i := 331) (by decide +kernel), List.mem_of_getElem? (i := 332) (by decide +kernel)⟩
theorem lw_p1 : lw_okq (⟨"StallMarket$Tokens", "readNumber", "()V"⟩, 6) := ⟨⟨by decide +kernel, by decide +kernel⟩, List.mem_of_getElem? (i := 206) (by decide +kernel), List.mem_of_getElem? (i := 338) (by decide +kernel), List.mem_of_getElem? (i := 339) (by decide +kernel)⟩
theorem lw_p2 : lw_okq (⟨"StallMarket$Market", "hasSeller", "(I)Z"⟩, 18) := ⟨⟨by decide +kernel, by decide +kernel⟩, List.mem_of_getElem? (i := 69) (by decide +kernel), List.mem_of_getElem? (i := 424) (by decide +kernel), List.mem_of_getElem? (i := 425) (by decide +kernel)⟩
theorem lw_p3 : lw_okq (⟨"StallMarket$Market", "standing", "(II)I"⟩, 18) := ⟨⟨by decide +kernel, by decide +kernel⟩, List.mem_of_getElem? (i := 69) (by decide +kernel), List.mem_of_getElem? (i := 490) (by decide +kernel), List.mem_of_getElem? (i := 491) (by decide +kernel)⟩
theorem lw_p4 : lw_okq (⟨"StallMarket", "requireSeller", "(I)V"⟩, 10) := ⟨⟨by decide +kernel, by decide +kernel⟩, List.mem_of_getElem? (i := 24) (by decide +kernel), List.mem_of_getElem? (i := 517) (by decide +kernel), List.mem_of_getElem? (i := 518) (by decide +kernel)⟩
theorem lw_p5 : lw_okq (⟨"java/lang/Throwable", "fillInStackTrace", "(I)Ljava/lang/Throwable;"⟩, 6) := ⟨⟨by decide +kernel, by decide +kernel⟩, List.mem_of_getElem? (i := 559) (by decide +kernel), List.mem_of_getElem? (i := 557) (by decide +kernel), List.mem_of_getElem? (i := 558) (by decide +kernel)⟩
theorem lw_p6 : lw_okq (⟨"StallMarket$Allocation", "nextInTurn", "(LStallMarket$Market;)I"⟩, 5) := ⟨⟨by decide +kernel, by decide +kernel⟩, List.mem_of_getElem? (i := 161) (by decide +kernel), List.mem_of_getElem? (i := 592) (by decide +kernel), List.mem_of_getElem? (i := 593) (by decide +kernel)⟩
theorem lw_p7 : lw_okq (⟨"StallMarket$Allocation", "append", "(I)V"⟩, 5) := ⟨⟨by decide +kernel, by decide +kernel⟩, List.mem_of_getElem? (i := 161) (by decide +kernel), List.mem_of_getElem? (i := 600) (by decide +kernel), List.mem_of_getElem? (i := 601) (by decide +kernel)⟩
theorem lw_p8 : lw_okq (⟨"StallMarket$Allocation", "serve", "(LStallMarket$Market;I)V"⟩, 5) := ⟨⟨by decide +kernel, by decide +kernel⟩, List.mem_of_getElem? (i := 161) (by decide +kernel), List.mem_of_getElem? (i := 604) (by decide +kernel), List.mem_of_getElem? (i := 605) (by decide +kernel)⟩
theorem lw_p9 : lw_okq (⟨"StallMarket$Allocation", "firstAvailable", "(LStallMarket$Market;I)I"⟩, 5) := ⟨⟨by decide +kernel, by decide +kernel⟩, List.mem_of_getElem? (i := 161) (by decide +kernel), List.mem_of_getElem? (i := 608) (by decide +kernel), List.mem_of_getElem? (i := 609) (by decide +kernel)⟩
theorem lw_p10 : lw_okq (⟨"StallMarket$Allocation", "finishFrom", "(I)V"⟩, 5) := ⟨⟨by decide +kernel, by decide +kernel⟩, List.mem_of_getElem? (i := 161) (by decide +kernel), List.mem_of_getElem? (i := 615) (by decide +kernel), List.mem_of_getElem? (i := 616) (by decide +kernel)⟩
theorem lw_p11 : lw_okq (⟨"StallMarket$Allocation", "placeInChain", "(I)I"⟩, 5) := ⟨⟨by decide +kernel, by decide +kernel⟩, List.mem_of_getElem? (i := 161) (by decide +kernel), List.mem_of_getElem? (i := 619) (by decide +kernel), List.mem_of_getElem? (i := 620) (by decide +kernel)⟩
theorem lw_p12 : lw_okq (⟨"StallMarket$History", "slotAfter", "(I)I"⟩, 3) := ⟨⟨by decide +kernel, by decide +kernel⟩, List.mem_of_getElem? (i := 142) (by decide +kernel), List.mem_of_getElem? (i := 643) (by decide +kernel), List.mem_of_getElem? (i := 644) (by decide +kernel)⟩
theorem lw_p13 : lw_okq (⟨"StallMarket", "requireStall", "(I)V"⟩, 10) := ⟨⟨by decide +kernel, by decide +kernel⟩, List.mem_of_getElem? (i := 24) (by decide +kernel), List.mem_of_getElem? (i := 889) (by decide +kernel), List.mem_of_getElem? (i := 890) (by decide +kernel)⟩
theorem lw_p14 : lw_okq (⟨"StallMarket$Market", "hasStall", "(I)Z"⟩, 18) := ⟨⟨by decide +kernel, by decide +kernel⟩, List.mem_of_getElem? (i := 69) (by decide +kernel), List.mem_of_getElem? (i := 898) (by decide +kernel), List.mem_of_getElem? (i := 899) (by decide +kernel)⟩
theorem lw_p15 : lw_okq (⟨"StallMarket$Market", "chargeOrEvict", "(I)V"⟩, 18) := ⟨⟨by decide +kernel, by decide +kernel⟩, List.mem_of_getElem? (i := 69) (by decide +kernel), List.mem_of_getElem? (i := 1041) (by decide +kernel), List.mem_of_getElem? (i := 1042) (by decide +kernel)⟩
def lw_privs_1 : List (MethodName × Nat) := [(⟨"StallMarket$Tokens", "readWord", "()V"⟩, 6), (⟨"StallMarket$Tokens", "readNumber", "()V"⟩, 6), (⟨"StallMarket$Market", "hasSeller", "(I)Z"⟩, 18), (⟨"StallMarket$Market", "standing", "(II)I"⟩, 18), (⟨"StallMarket", "requireSeller", "(I)V"⟩, 10), (⟨"java/lang/Throwable", "fillInStackTrace", "(I)Ljava/lang/Throwable;"⟩, 6), (⟨"StallMarket$Allocation", "nextInTurn", "(LStallMarket$Market;)I"⟩, 5), (⟨"StallMarket$Allocation", "append", "(I)V"⟩, 5), (⟨"StallMarket$Allocation", "serve", "(LStallMarket$Market;I)V"⟩, 5), (⟨"StallMarket$Allocation", "firstAvailable", "(LStallMarket$Market;I)I"⟩, 5), (⟨"StallMarket$Allocation", "finishFrom", "(I)V"⟩, 5), (⟨"StallMarket$Allocation", "placeInChain", "(I)I"⟩, 5), (⟨"StallMarket$History", "slotAfter", "(I)I"⟩, 3), (⟨"StallMarket", "requireStall", "(I)V"⟩, 10), (⟨"StallMarket$Market", "hasStall", "(I)Z"⟩, 18), (⟨"StallMarket$Market", "chargeOrEvict", "(I)V"⟩, 18)]
theorem lw_r1 : ∀ q ∈ lw_privs_1, lw_okq q := List.forall_mem_cons.mpr ⟨lw_p0, List.forall_mem_cons.mpr ⟨lw_p1, List.forall_mem_cons.mpr ⟨lw_p2, List.forall_mem_cons.mpr ⟨lw_p3, List.forall_mem_cons.mpr ⟨lw_p4, List.forall_mem_cons.mpr ⟨lw_p5, List.forall_mem_cons.mpr ⟨lw_p6, List.forall_mem_cons.mpr ⟨lw_p7, List.forall_mem_cons.mpr ⟨lw_p8, List.forall_mem_cons.mpr ⟨lw_p9, List.forall_mem_cons.mpr ⟨lw_p10, List.forall_mem_cons.mpr ⟨lw_p11, List.forall_mem_cons.mpr ⟨lw_p12, List.forall_mem_cons.mpr ⟨lw_p13, List.forall_mem_cons.mpr ⟨lw_p14, List.forall_mem_cons.mpr ⟨lw_p15, fun _ h => absurd h List.not_mem_nil⟩⟩⟩⟩⟩⟩⟩⟩⟩⟩⟩⟩⟩⟩⟩⟩
def lw_privs : List (MethodName × Nat) := lw_privs_1
def lw_tbl : List Cond := k2_sels lw_privs ++ tables_1
theorem lw_privs_ok : ∀ q ∈ lw_privs, lw_okq q := lw_r1
end
section
/-! ===== BEGIN new T[n][m]: the outer array a place, the inner ones among the pooled ===== -/
def va_AOA (ty : FieldType) (U : State) : Prop := (Cond.arrayOver (.array ty)).before #[] U = true
theorem va_AOA.use {ty : FieldType} {A : Array Value} {U : State} (h : va_AOA ty U) : (Cond.arrayOver (.array ty)).before A U = true := h
/-- f, but v at every address of l -/
def vr_up {α : Type} (f : Nat → α) (l : List Nat) (v : α) : Nat → α := fun a => if a ∈ l then v else f a
theorem vr_up_in {α : Type} {f : Nat → α} {l : List Nat} {v : α} {a : Nat} (h : a ∈ l) : vr_up f l v a = v := if_pos h
theorem vr_up_ne {α : Type} {f : Nat → α} {l : List Nat} {v : α} {a : Nat} (h : a ∉ l) : vr_up f l v a = f a := if_neg h
theorem vr_rows {L l : List Nat} {f : Nat → va_E} {e : va_E} (h : ∀ a, a ∈ l → a ∉ L) : va_pl L f ++ l.map (fun a => (a, e)) = va_pl (L ++ l) (vr_up f l e) := by
  unfold va_pl
  rw [List.map_append]
  congr 1
  · apply List.map_congr_left
    intro a ha
    rw [vr_up_ne (fun q => h a q ha)]
  · apply List.map_congr_left
    intro a ha
    rw [vr_up_in ha]
theorem vr_lay {X rows : va_W} {x : Nat × va_E} {pl : va_W} {D : va_G} {cl : List vw_C} {H : Heap} (hP : va_P D cl (((X ++ pl) ++ [x]) ++ rows) H) : va_P D cl ((X ++ [x]) ++ (pl ++ rows)) H := by
  rw [List.append_assoc (X ++ pl)] at hP
  have h := va_P.swap hP
  rw [← List.append_assoc X] at h
  have h2 := va_P.swap h
  rw [List.append_assoc (X ++ [x])] at h2
  exact h2
theorem vr_layD {X rows : va_W} {x : Nat × va_E} {pl : va_W} {A : Nat → Prop} (hD : va_D A (((X ++ pl) ++ [x]) ++ rows)) : va_D A ((X ++ [x]) ++ (pl ++ rows)) := by
  rw [List.append_assoc (X ++ pl)] at hD
  have h := va_D.swap hD
  rw [← List.append_assoc X] at h
  have h2 := va_D.swap h
  rw [List.append_assoc (X ++ [x])] at h2
  exact h2
theorem vr_outer (c : ClassId) (N h0 : Nat) : ∀ i : Nat, Jvm.Free.Multi.outerC c N h0 i = arrV c N (fun j => va_rf (if j < i then some (h0 + 1 + j) else none))
  | 0 => by
    show ({ cls := c, slots := Array.replicate N .null, vm := .none } : Cell) = _
    rw [arrV_new]
    refine congrArg (arrV c N) (funext fun j => ?_)
    simp [va_rf]
  | i + 1 => by
    show (Jvm.Free.Multi.outerC c N h0 i).setSlot i (.ref (h0 + 1 + i)) = _
    rw [vr_outer c N h0 i, arrV_store]
    refine congrArg (arrV c N) (funext fun j => ?_)
    by_cases e : j = i
    · subst e
      simp [updV, va_rf]
    · by_cases h : j < i
      · simp [updV, e, h, Nat.lt_succ_of_lt h]
      · simp [updV, e, h, show ¬ j < i + 1 by omega]
section VGM
variable {p : Program} {l : Launch} {e : Env} {R : Room} {s : State} {m : MethodId} {args : Array Value} {below : List Frame} {meth : Method} {c : Code} {H : Heap} {locs : List Loc} {cells slots : Nat} {Q : State → Prop}
variable {cc : ByteArray} {pc : Nat} {ls : Array Slot} {rest : List Value} {D : va_G} {cl : List vw_C} {A : Nat → Prop} {a : Nat} {tys : List (ClassId × FieldType)} {ws : va_W} {H0 : Heap}
theorem va_mna {X : va_W} {L : List Nat} {f : Nat → va_E} {cc : ByteArray} (hexec : p.tables.exec = Jvm.exec) (hb : c.code = cc) {own : String} {index : Nat} {ty : FieldType} {cy : ClassId} (hown : s.vm.findClass own = some m.cls) (hclink : (Cond.classLink own index ("[" ++ (FieldType.array ty).toString)).before args s = true) (hover : va_AOA ty s) (harr : (Cond.arrayClass ty).before args s = true) (hcy : s.vm.findClass (FieldType.array ty).toString = some cy)
    (hK : va_K D cl tys s) (hP : va_P D cl (X ++ va_pl L f) H) (hD : va_D A (X ++ va_pl L f)) (hS : va_S A H0 H locs) (hA : ∀ q, H0.size ≤ q → A q) {n k : Int32} {N' K' : Nat} {z : vp_A} (hn : ¬ n < 0) (hk : ¬ k < 0) (hN : n.toNatClampNeg = N') (hM : k.toNatClampNeg = K')
    (hb1 : N' * 4 ≤ 536870912) (hb2 : K' * componentBytes ty ≤ 536870912) (hb3 : K' ≤ 536870912) (hdf : fits ty (defaultValue ty) = true) (hdd : (defaultValue ty).isDefault = true) (hcells : cells + (1 + N') ≤ R.cells) (hslots : slots + (N' + N' * K') ≤ R.slots) (hz : ∀ c : ClassId, Jvm.Free.Multi.innerC c K' (defaultValue ty) = vp_cell c z) (hdg : decode cc pc = .ok (.multianewarray index 2, 4))
    (kk : ∀ (q : Nat) (r : Nat → Nat) (cA : ClassId) (H1 : Heap), (∀ i j : Nat, i < N' → j < N' → r i = r j → i = j) → (∀ i : Nat, i < N' → r i ∉ L) → va_K D cl (tys ++ [(cA, .array ty)]) s →
      va_P D cl ((X ++ [(q, .inl (cA, N', .inr (.inr (.inr (.inr (fun i => if i < N' then some (r i) else none))))))]) ++ va_pl (L ++ (List.range N').map r) (vr_up f ((List.range N').map r) (.inl (cy, z)))) H1 → va_D A ((X ++ [(q, .inl (cA, N', .inr (.inr (.inr (.inr (fun i => if i < N' then some (r i) else none))))))]) ++ va_pl (L ++ (List.range N').map r) (vr_up f ((List.range N').map r) (.inl (cy, z)))) → va_S A H0 H1 locs →
      W p l e R s m args below meth c H1 locs (cells + 1 + N') (slots + N' + N' * K') Q (F0 m (pc + 4) ls (.ref q :: rest))) : W p l e R s m args below meth c H locs cells slots Q (F0 m pc ls (.int k :: .int n :: rest)) := by
  subst hN
  subst hM
  intro T hT Xs
  obtain ⟨vm₁, cA, comp, -, fA, fC, hO, -, X', step⟩ := Xs.multianewarray2F hexec hown hclink (va_AOA.use hover) harr (g := F0 m pc ls (.int k :: .int n :: rest)) rfl (by rw [hb]; exact hdg) rfl hn hk hb1 hb2 hb3 hdf hdd hcells hslots
  have ec : some cy = some comp := hcy.symm.trans fC
  cases ec
  generalize hF : Jvm.Free.Multi.fill (T.setVm vm₁) cA cy n.toNatClampNeg k.toNatClampNeg (defaultValue ty) n.toNatClampNeg = F at X' step
  have hTh : (T.setVm vm₁).heap = H := hT
  obtain ⟨f1, f2, -, -⟩ := Jvm.Free.Multi.fill_facts (T.setVm vm₁) cA cy n.toNatClampNeg k.toNatClampNeg (defaultValue ty) n.toNatClampNeg
  rw [hF, hTh] at f1 f2
  have hold : ∀ x : Nat, x < H.size → F.heap[x]? = H[x]? := fun x hx => by
    have := Jvm.Free.Multi.fill_old (T.setVm vm₁) cA cy n.toNatClampNeg k.toNatClampNeg (defaultValue ty) (a := x) (by rw [hTh]; exact hx) n.toNatClampNeg
    rw [hF, hTh] at this
    exact this
  have hrow : ∀ j : Nat, j < n.toNatClampNeg → F.heap[H.size + 1 + j]? = some (vp_cell cy z) := fun j hj => by
    have := Jvm.Free.Multi.fill_inner (T.setVm vm₁) cA cy n.toNatClampNeg k.toNatClampNeg (defaultValue ty) n.toNatClampNeg j hj
    rw [hF, hTh, hz] at this
    exact this
  have hout : Jvm.Free.Multi.outerC cA n.toNatClampNeg H.size n.toNatClampNeg = vp_cell cA (n.toNatClampNeg, .inr (.inr (.inr (.inr (fun i => if i < n.toNatClampNeg then some (H.size + 1 + i) else none))))) := by
    rw [vp_cell_q]
    exact vr_outer cA n.toNatClampNeg H.size n.toNatClampNeg
  rw [hout] at f2
  have hlt : ∀ a, a ∈ L → a < H.size := fun a ha => by
    obtain ⟨k9, hk9⟩ := va_pl_get (X := X) (f := f) ha
    exact (hP k9 _ hk9).lt
  have hnl : ∀ i : Nat, i < n.toNatClampNeg → H.size + 1 + i ∉ L := fun i _ h => by
    have := hlt _ h
    omega
  have hnm : ∀ a, a ∈ (List.range n.toNatClampNeg).map (fun i => H.size + 1 + i) → a ∉ L := fun a ha h => by
    obtain ⟨i, -, rfl⟩ := List.mem_map.mp ha
    have := hlt _ h
    omega
  have hP0 : va_P D cl (X ++ va_pl L f) F.heap := hP.kept (fun k9 x hx => hold x.1 ((hP k9 x hx).lt))
  have hP1 : va_P D cl ((X ++ va_pl L f) ++ [(H.size, .inl (cA, n.toNatClampNeg, .inr (.inr (.inr (.inr (fun i => if i < n.toNatClampNeg then some (H.size + 1 + i) else none))))))]) F.heap := hP0.app (fun k9 x hx => by
    have h0 : k9 < 1 := (List.getElem?_eq_some_iff.mp hx).1
    rw [show k9 = 0 by omega] at hx
    cases hx
    exact f2)
  have hP2 : va_P D cl (((X ++ va_pl L f) ++ [(H.size, .inl (cA, n.toNatClampNeg, .inr (.inr (.inr (.inr (fun i => if i < n.toNatClampNeg then some (H.size + 1 + i) else none))))))]) ++ ((List.range n.toNatClampNeg).map (fun i => H.size + 1 + i)).map (fun a => (a, .inl (cy, z)))) F.heap := hP1.app (fun k9 x hx => by
    obtain ⟨a, ha, rfl⟩ := List.mem_map.mp (List.mem_of_getElem? hx)
    obtain ⟨i, hi, rfl⟩ := List.mem_map.mp ha
    exact hrow i (List.mem_range.mp hi))
  have hD2 : va_D A (((X ++ va_pl L f) ++ [(H.size, .inl (cA, n.toNatClampNeg, .inr (.inr (.inr (.inr (fun i => if i < n.toNatClampNeg then some (H.size + 1 + i) else none))))))]) ++ ((List.range n.toNatClampNeg).map (fun i => H.size + 1 + i)).map (fun a => (a, .inl (cy, z)))) := by
    have hD1 := hD.push (e := .inl (cA, n.toNatClampNeg, .inr (.inr (.inr (.inr (fun i => if i < n.toNatClampNeg then some (H.size + 1 + i) else none)))))) hP rfl (hA _ hS.1)
    generalize hW1 : (X ++ va_pl L f) ++ [(H.size, .inl (cA, n.toNatClampNeg, .inr (.inr (.inr (.inr (fun i => if i < n.toNatClampNeg then some (H.size + 1 + i) else none))))))] = W1 at hD1 hP1 ⊢
    have hle : ∀ (k9 : Nat) (x : Nat × va_E), W1[k9]? = some x → x.1 ≤ H.size := fun k9 x hx => by
      rw [← hW1] at hx
      by_cases hl : k9 < (X ++ va_pl L f).length
      · rw [List.getElem?_append_left hl] at hx
        exact Nat.le_of_lt ((hP k9 x hx).lt)
      · rw [List.getElem?_append_right (by omega)] at hx
        have h0 : k9 - (X ++ va_pl L f).length < 1 := (List.getElem?_eq_some_iff.mp hx).1
        rw [show k9 - (X ++ va_pl L f).length = 0 by omega] at hx
        cases hx
        exact Nat.le_refl _
    have hr : ∀ (k9 : Nat) (x : Nat × va_E), (((List.range n.toNatClampNeg).map (fun i => H.size + 1 + i)).map (fun a => ((a, .inl (cy, z)) : Nat × va_E)))[k9]? = some x → x.1 = H.size + 1 + k9 := fun k9 x hx => by
      rw [List.getElem?_map, List.getElem?_map] at hx
      by_cases h9 : k9 < n.toNatClampNeg
      · rw [List.getElem?_range h9] at hx
        cases hx
        rfl
      · have hn0 : (List.range n.toNatClampNeg)[k9]? = none := List.getElem?_eq_none (by rw [List.length_range]; omega)
        rw [hn0] at hx
        cases hx
    refine ⟨fun i j x y hi hj hxy => ?_, fun k9 x hx => ?_⟩
    · by_cases h1 : i < W1.length <;> by_cases h2 : j < W1.length
      · rw [List.getElem?_append_left h1] at hi
        rw [List.getElem?_append_left h2] at hj
        exact hD1.1 i j x y hi hj hxy
      · rw [List.getElem?_append_left h1] at hi
        rw [List.getElem?_append_right (by omega)] at hj
        have := hle _ _ hi
        have := hr _ _ hj
        omega
      · rw [List.getElem?_append_right (by omega)] at hi
        rw [List.getElem?_append_left h2] at hj
        have := hle _ _ hj
        have := hr _ _ hi
        omega
      · rw [List.getElem?_append_right (by omega)] at hi hj
        have := hr _ _ hi
        have := hr _ _ hj
        omega
    · by_cases h1 : k9 < W1.length
      · rw [List.getElem?_append_left h1] at hx
        exact hD1.2 k9 x hx
      · rw [List.getElem?_append_right (by omega)] at hx
        have := hr _ _ hx
        exact hA _ (by have := hS.1; omega)
  have hAr : ArrOfT s cA (.array ty) := fun N9 z9 => by
    obtain ⟨-, k9, hk9, cm9, hkk9⟩ := (hO 0 0 0).1
    exact ⟨(fun q hq => by cases hq), k9, hk9, cm9, hkk9⟩
  have hK2 : va_K D cl (tys ++ [(cA, .array ty)]) s := ⟨hK.1, fun k9 x hx => by
    by_cases hl : k9 < tys.length
    · rw [List.getElem?_append_left hl] at hx
      exact hK.2 k9 x hx
    · rw [List.getElem?_append_right (by omega)] at hx
      have h0 : k9 - tys.length < 1 := (List.getElem?_eq_some_iff.mp hx).1
      rw [show k9 - tys.length = 0 by omega] at hx
      cases hx
      exact ⟨hAr, fA⟩⟩
  obtain ⟨t, a1, b1⟩ := kk H.size (fun i => H.size + 1 + i) cA F.heap (fun i j _ _ h => by have h9 : H.size + 1 + i = H.size + 1 + j := h; omega) hnl hK2 (by rw [← vr_rows hnm]; exact vr_lay hP2) (by rw [← vr_rows hnm]; exact vr_layD hD2) ⟨by rw [f1]; have := hS.1; omega, fun x h1 h2 => (hold x (Nat.lt_of_lt_of_le h1 hS.1)).trans (hS.2.1 x h1 h2), hS.2.2⟩ F rfl X'
  refine ⟨t, step t ?_, b1⟩
  have e : T.heap.size = H.size := by rw [hT]
  rw [e]
  exact a1
end VGM
/-! ===== END ===== -/
end
section
def RX0 : String := "StallMarket$1"
def TX0 : u_T := fun k => match k with
  | _ => ("", "", "", false)
def tyX0 : Nat → FieldType := fun k => match k with
  | _ => .int
theorem nmX0 : ∀ a, a < 0 → ∀ b, b < 0 → a ≠ b → (TX0 a).2.1 ≠ (TX0 b).2.1 := by decide +kernel
theorem tyX0_ok : ∀ k, k < 0 → parseFieldDescriptor (TX0 k).2.2.1 = some (tyX0 k) := by decide +kernel
def RX1 : String := "StallMarket$Allocation"
def TX1 : u_T := fun k => match k with
  | 0 => ("StallMarket$Allocation", "requests", "[I", true)
  | 1 => ("StallMarket$Allocation", "finished", "[Z", true)
  | 2 => ("StallMarket$Allocation", "given", "[Z", true)
  | 3 => ("StallMarket$Allocation", "chain", "[I", true)
  | _ => ("StallMarket$Allocation", "chained", "I", false)
def tyX1 : Nat → FieldType := fun k => match k with
  | 0 => .array .int
  | 1 => .array .boolean
  | 2 => .array .boolean
  | 3 => .array .int
  | _ => .int
theorem nmX1 : ∀ a, a < 5 → ∀ b, b < 5 → a ≠ b → (TX1 a).2.1 ≠ (TX1 b).2.1 := by decide +kernel
theorem tyX1_ok : ∀ k, k < 5 → parseFieldDescriptor (TX1 k).2.2.1 = some (tyX1 k) := by decide +kernel
abbrev cX1_init : ByteArray := prog_3_method_1_code
def yX1_init : MethodName := ⟨RX1, "<init>", "()V"⟩
abbrev cX1_decide : ByteArray := prog_3_method_2_code
def yX1_decide : MethodName := ⟨RX1, "decide", "(LStallMarket$Market;)V"⟩
abbrev cX1_nextInTurn : ByteArray := prog_3_method_3_code
def yX1_nextInTurn : MethodName := ⟨RX1, "nextInTurn", "(LStallMarket$Market;)I"⟩
abbrev cX1_append : ByteArray := prog_3_method_4_code
def yX1_append : MethodName := ⟨RX1, "append", "(I)V"⟩
abbrev cX1_serve : ByteArray := prog_3_method_5_code
def yX1_serve : MethodName := ⟨RX1, "serve", "(LStallMarket$Market;I)V"⟩
abbrev cX1_firstAvailable : ByteArray := prog_3_method_6_code
def yX1_firstAvailable : MethodName := ⟨RX1, "firstAvailable", "(LStallMarket$Market;I)I"⟩
abbrev cX1_placeInChain : ByteArray := prog_3_method_7_code
def yX1_placeInChain : MethodName := ⟨RX1, "placeInChain", "(I)I"⟩
abbrev cX1_finishFrom : ByteArray := prog_3_method_8_code
def yX1_finishFrom : MethodName := ⟨RX1, "finishFrom", "(I)V"⟩
abbrev cX1_givenTo : ByteArray := prog_3_method_9_code
def yX1_givenTo : MethodName := ⟨RX1, "givenTo", "(I)I"⟩
abbrev cX1_applyTo : ByteArray := prog_3_method_10_code
def yX1_applyTo : MethodName := ⟨RX1, "applyTo", "(LStallMarket$Market;)I"⟩
def RX2 : String := "StallMarket$ByteText"
def TX2 : u_T := fun k => match k with
  | 0 => ("StallMarket$ByteText", "bytes", "[I", true)
  | _ => ("StallMarket$ByteText", "length", "I", false)
def tyX2 : Nat → FieldType := fun k => match k with
  | 0 => .array .int
  | _ => .int
theorem nmX2 : ∀ a, a < 2 → ∀ b, b < 2 → a ≠ b → (TX2 a).2.1 ≠ (TX2 b).2.1 := by decide +kernel
theorem tyX2_ok : ∀ k, k < 2 → parseFieldDescriptor (TX2 k).2.2.1 = some (tyX2 k) := by decide +kernel
abbrev cX2_init : ByteArray := prog_4_method_1_code
def yX2_init : MethodName := ⟨RX2, "<init>", "()V"⟩
abbrev cX2_byteAt : ByteArray := prog_4_method_2_code
def yX2_byteAt : MethodName := ⟨RX2, "byteAt", "(I)I"⟩
abbrev cX2_add : ByteArray := prog_4_method_3_code
def yX2_add : MethodName := ⟨RX2, "add", "(I)V"⟩
abbrev cX2_addWord : ByteArray := prog_4_method_4_code
def yX2_addWord : MethodName := ⟨RX2, "addWord", "(I)V"⟩
abbrev cX2_cut : ByteArray := prog_4_method_6_code
def yX2_cut : MethodName := ⟨RX2, "cut", "(I)V"⟩
def RX3 : String := "StallMarket$Exchanges"
def TX3 : u_T := fun k => match k with
  | _ => ("", "", "", false)
def tyX3 : Nat → FieldType := fun k => match k with
  | _ => .int
theorem nmX3 : ∀ a, a < 0 → ∀ b, b < 0 → a ≠ b → (TX3 a).2.1 ≠ (TX3 b).2.1 := by decide +kernel
theorem tyX3_ok : ∀ k, k < 0 → parseFieldDescriptor (TX3 k).2.2.1 = some (tyX3 k) := by decide +kernel
abbrev cX3_wantsStallOf : ByteArray := prog_5_method_2_code
def yX3_wantsStallOf : MethodName := ⟨RX3, "wantsStallOf", "(LStallMarket$Market;II)Z"⟩
abbrev cX3_bothGain : ByteArray := prog_5_method_3_code
def yX3_bothGain : MethodName := ⟨RX3, "bothGain", "(LStallMarket$Market;II)Z"⟩
abbrev cX3_shortestCycle : ByteArray := prog_5_method_5_code
def yX3_shortestCycle : MethodName := ⟨RX3, "shortestCycle", "(LStallMarket$Market;I)I"⟩
abbrev cX3_wantedByAny : ByteArray := prog_5_method_6_code
def yX3_wantedByAny : MethodName := ⟨RX3, "wantedByAny", "(LStallMarket$Market;I)I"⟩
abbrev cX3_bestFreeStall : ByteArray := prog_5_method_7_code
def yX3_bestFreeStall : MethodName := ⟨RX3, "bestFreeStall", "(LStallMarket$Market;I)I"⟩
abbrev cX3_canImprove : ByteArray := prog_5_method_8_code
def yX3_canImprove : MethodName := ⟨RX3, "canImprove", "(LStallMarket$Market;)Z"⟩
def RX4 : String := "StallMarket$History"
def TX4 : u_T := fun k => match k with
  | 0 => ("StallMarket$History", "slots", "[LStallMarket$Market;", true)
  | 1 => ("StallMarket$History", "oldest", "I", false)
  | _ => ("StallMarket$History", "count", "I", false)
def tyX4 : Nat → FieldType := fun k => match k with
  | 0 => .array (.object "StallMarket$Market")
  | 1 => .int
  | _ => .int
theorem nmX4 : ∀ a, a < 3 → ∀ b, b < 3 → a ≠ b → (TX4 a).2.1 ≠ (TX4 b).2.1 := by decide +kernel
theorem tyX4_ok : ∀ k, k < 3 → parseFieldDescriptor (TX4 k).2.2.1 = some (tyX4 k) := by decide +kernel
abbrev cX4_init : ByteArray := prog_6_method_1_code
def yX4_init : MethodName := ⟨RX4, "<init>", "()V"⟩
abbrev cX4_clear : ByteArray := prog_6_method_2_code
def yX4_clear : MethodName := ⟨RX4, "clear", "()V"⟩
abbrev cX4_record : ByteArray := prog_6_method_3_code
def yX4_record : MethodName := ⟨RX4, "record", "(LStallMarket$Market;)V"⟩
abbrev cX4_takeBack : ByteArray := prog_6_method_4_code
def yX4_takeBack : MethodName := ⟨RX4, "takeBack", "(LStallMarket$Market;)I"⟩
abbrev cX4_slotAfter : ByteArray := prog_6_method_5_code
def yX4_slotAfter : MethodName := ⟨RX4, "slotAfter", "(I)I"⟩
def RX5 : String := "StallMarket$Market"
def TX5 : u_T := fun k => match k with
  | 0 => ("StallMarket$Market", "sellers", "I", false)
  | 1 => ("StallMarket$Market", "stalls", "I", false)
  | 2 => ("StallMarket$Market", "today", "I", false)
  | 3 => ("StallMarket$Market", "paidRent", "I", false)
  | 4 => ("StallMarket$Market", "evictions", "I", false)
  | 5 => ("StallMarket$Market", "swaps", "I", false)
  | 6 => ("StallMarket$Market", "relocations", "I", false)
  | 7 => ("StallMarket$Market", "openingSum", "I", false)
  | 8 => ("StallMarket$Market", "receipts", "I", false)
  | 9 => ("StallMarket$Market", "sellerNames", "[J", true)
  | 10 => ("StallMarket$Market", "coins", "[I", true)
  | 11 => ("StallMarket$Market", "wages", "[I", true)
  | 12 => ("StallMarket$Market", "held", "[I", true)
  | 13 => ("StallMarket$Market", "turns", "[I", true)
  | 14 => ("StallMarket$Market", "wishCounts", "[I", true)
  | 15 => ("StallMarket$Market", "wishes", "[I", true)
  | 16 => ("StallMarket$Market", "stallNames", "[J", true)
  | _ => ("StallMarket$Market", "prices", "[I", true)
def tyX5 : Nat → FieldType := fun k => match k with
  | 0 => .int
  | 1 => .int
  | 2 => .int
  | 3 => .int
  | 4 => .int
  | 5 => .int
  | 6 => .int
  | 7 => .int
  | 8 => .int
  | 9 => .array .long
  | 10 => .array .int
  | 11 => .array .int
  | 12 => .array .int
  | 13 => .array .int
  | 14 => .array .int
  | 15 => .array .int
  | 16 => .array .long
  | _ => .array .int
theorem nmX5 : ∀ a, a < 18 → ∀ b, b < 18 → a ≠ b → (TX5 a).2.1 ≠ (TX5 b).2.1 := by decide +kernel
theorem tyX5_ok : ∀ k, k < 18 → parseFieldDescriptor (TX5 k).2.2.1 = some (tyX5 k) := by decide +kernel
abbrev cX5_init : ByteArray := prog_7_method_1_code
def yX5_init : MethodName := ⟨RX5, "<init>", "()V"⟩
abbrev cX5_copy : ByteArray := prog_7_method_2_code
def yX5_copy : MethodName := ⟨RX5, "copy", "(LStallMarket$Market;LStallMarket$Market;)V"⟩
abbrev cX5_clear : ByteArray := prog_7_method_3_code
def yX5_clear : MethodName := ⟨RX5, "clear", "()V"⟩
abbrev cX5_addStall : ByteArray := prog_7_method_4_code
def yX5_addStall : MethodName := ⟨RX5, "addStall", "(JI)V"⟩
abbrev cX5_addSeller : ByteArray := prog_7_method_5_code
def yX5_addSeller : MethodName := ⟨RX5, "addSeller", "(JII)V"⟩
abbrev cX5_hasSeller : ByteArray := prog_7_method_6_code
def yX5_hasSeller : MethodName := ⟨RX5, "hasSeller", "(I)Z"⟩
abbrev cX5_hasStall : ByteArray := prog_7_method_7_code
def yX5_hasStall : MethodName := ⟨RX5, "hasStall", "(I)Z"⟩
abbrev cX5_coinsOf : ByteArray := prog_7_method_8_code
def yX5_coinsOf : MethodName := ⟨RX5, "coinsOf", "(I)I"⟩
abbrev cX5_heldBy : ByteArray := prog_7_method_10_code
def yX5_heldBy : MethodName := ⟨RX5, "heldBy", "(I)I"⟩
abbrev cX5_turnOf : ByteArray := prog_7_method_11_code
def yX5_turnOf : MethodName := ⟨RX5, "turnOf", "(I)I"⟩
abbrev cX5_wishesOf : ByteArray := prog_7_method_12_code
def yX5_wishesOf : MethodName := ⟨RX5, "wishesOf", "(I)I"⟩
abbrev cX5_priceOf : ByteArray := prog_7_method_13_code
def yX5_priceOf : MethodName := ⟨RX5, "priceOf", "(I)I"⟩
abbrev cX5_sellerCalled : ByteArray := prog_7_method_16_code
def yX5_sellerCalled : MethodName := ⟨RX5, "sellerCalled", "(J)I"⟩
abbrev cX5_stallCalled : ByteArray := prog_7_method_17_code
def yX5_stallCalled : MethodName := ⟨RX5, "stallCalled", "(J)I"⟩
abbrev cX5_holderOf : ByteArray := prog_7_method_18_code
def yX5_holderOf : MethodName := ⟨RX5, "holderOf", "(I)I"⟩
abbrev cX5_wish : ByteArray := prog_7_method_20_code
def yX5_wish : MethodName := ⟨RX5, "wish", "(II)I"⟩
abbrev cX5_rankIn : ByteArray := prog_7_method_21_code
def yX5_rankIn : MethodName := ⟨RX5, "rankIn", "(II)I"⟩
abbrev cX5_ranksAbove : ByteArray := prog_7_method_22_code
def yX5_ranksAbove : MethodName := ⟨RX5, "ranksAbove", "(III)Z"⟩
abbrev cX5_standing : ByteArray := prog_7_method_23_code
def yX5_standing : MethodName := ⟨RX5, "standing", "(II)I"⟩
abbrev cX5_mayMoveInto : ByteArray := prog_7_method_24_code
def yX5_mayMoveInto : MethodName := ⟨RX5, "mayMoveInto", "(II)Z"⟩
abbrev cX5_seat : ByteArray := prog_7_method_25_code
def yX5_seat : MethodName := ⟨RX5, "seat", "(II)V"⟩
abbrev cX5_exchange : ByteArray := prog_7_method_26_code
def yX5_exchange : MethodName := ⟨RX5, "exchange", "(II)V"⟩
abbrev cX5_moveTurn : ByteArray := prog_7_method_27_code
def yX5_moveTurn : MethodName := ⟨RX5, "moveTurn", "(II)V"⟩
abbrev cX5_wishLast : ByteArray := prog_7_method_28_code
def yX5_wishLast : MethodName := ⟨RX5, "wishLast", "(II)V"⟩
abbrev cX5_dropWish : ByteArray := prog_7_method_29_code
def yX5_dropWish : MethodName := ⟨RX5, "dropWish", "(II)V"⟩
abbrev cX5_wishFirst : ByteArray := prog_7_method_30_code
def yX5_wishFirst : MethodName := ⟨RX5, "wishFirst", "(II)V"⟩
abbrev cX5_price : ByteArray := prog_7_method_31_code
def yX5_price : MethodName := ⟨RX5, "price", "(II)V"⟩
abbrev cX5_receive : ByteArray := prog_7_method_32_code
def yX5_receive : MethodName := ⟨RX5, "receive", "(II)V"⟩
abbrev cX5_mayPass : ByteArray := prog_7_method_33_code
def yX5_mayPass : MethodName := ⟨RX5, "mayPass", "(I)Z"⟩
abbrev cX5_pass : ByteArray := prog_7_method_34_code
def yX5_pass : MethodName := ⟨RX5, "pass", "(I)V"⟩
abbrev cX5_chargeOrEvict : ByteArray := prog_7_method_35_code
def yX5_chargeOrEvict : MethodName := ⟨RX5, "chargeOrEvict", "(I)V"⟩
def RX6 : String := "StallMarket$Matching"
def TX6 : u_T := fun k => match k with
  | 0 => ("StallMarket$Matching", "leastSums", "[I", true)
  | 1 => ("StallMarket$Matching", "size", "I", false)
  | _ => ("StallMarket$Matching", "rankSum", "I", false)
def tyX6 : Nat → FieldType := fun k => match k with
  | 0 => .array .int
  | 1 => .int
  | _ => .int
theorem nmX6 : ∀ a, a < 3 → ∀ b, b < 3 → a ≠ b → (TX6 a).2.1 ≠ (TX6 b).2.1 := by decide +kernel
theorem tyX6_ok : ∀ k, k < 3 → parseFieldDescriptor (TX6 k).2.2.1 = some (tyX6 k) := by decide +kernel
abbrev cX6_init : ByteArray := prog_8_method_1_code
def yX6_init : MethodName := ⟨RX6, "<init>", "()V"⟩
def RX7 : String := "StallMarket$Parser"
def TX7 : u_T := fun k => match k with
  | 0 => ("StallMarket$Parser", "tokens", "LStallMarket$Tokens;", true)
  | 1 => ("StallMarket$Parser", "code", "I", false)
  | _ => ("StallMarket$Parser", "position", "I", false)
def tyX7 : Nat → FieldType := fun k => match k with
  | 0 => .object "StallMarket$Tokens"
  | 1 => .int
  | _ => .int
theorem nmX7 : ∀ a, a < 3 → ∀ b, b < 3 → a ≠ b → (TX7 a).2.1 ≠ (TX7 b).2.1 := by decide +kernel
theorem tyX7_ok : ∀ k, k < 3 → parseFieldDescriptor (TX7 k).2.2.1 = some (tyX7 k) := by decide +kernel
abbrev cX7_init : ByteArray := prog_9_method_1_code
def yX7_init : MethodName := ⟨RX7, "<init>", "()V"⟩
abbrev cX7_begin : ByteArray := prog_9_method_2_code
def yX7_begin : MethodName := ⟨RX7, "begin", "()V"⟩
abbrev cX7_fail : ByteArray := prog_9_method_3_code
def yX7_fail : MethodName := ⟨RX7, "fail", "(I)Z"⟩
abbrev cX7_takeWord : ByteArray := prog_9_method_4_code
def yX7_takeWord : MethodName := ⟨RX7, "takeWord", "(Ljava/lang/String;)Z"⟩
abbrev cX7_takeSemicolon : ByteArray := prog_9_method_5_code
def yX7_takeSemicolon : MethodName := ⟨RX7, "takeSemicolon", "()Z"⟩
abbrev cX7_takeNumber : ByteArray := prog_9_method_6_code
def yX7_takeNumber : MethodName := ⟨RX7, "takeNumber", "(II)I"⟩
abbrev cX7_seeStall : ByteArray := prog_9_method_8_code
def yX7_seeStall : MethodName := ⟨RX7, "seeStall", "(LStallMarket$Market;)I"⟩
def RX8 : String := "StallMarket$Script"
def TX8 : u_T := fun k => match k with
  | 0 => ("StallMarket$Script", "verbs", "[LStallMarket$Verb;", true)
  | 1 => ("StallMarket$Script", "firsts", "[I", true)
  | 2 => ("StallMarket$Script", "seconds", "[I", true)
  | _ => ("StallMarket$Script", "count", "I", false)
def tyX8 : Nat → FieldType := fun k => match k with
  | 0 => .array (.object "StallMarket$Verb")
  | 1 => .array .int
  | 2 => .array .int
  | _ => .int
theorem nmX8 : ∀ a, a < 4 → ∀ b, b < 4 → a ≠ b → (TX8 a).2.1 ≠ (TX8 b).2.1 := by decide +kernel
theorem tyX8_ok : ∀ k, k < 4 → parseFieldDescriptor (TX8 k).2.2.1 = some (tyX8 k) := by decide +kernel
abbrev cX8_init : ByteArray := prog_10_method_1_code
def yX8_init : MethodName := ⟨RX8, "<init>", "()V"⟩
def RX9 : String := "StallMarket$SetupReader"
def TX9 : u_T := fun k => match k with
  | _ => ("", "", "", false)
def tyX9 : Nat → FieldType := fun k => match k with
  | _ => .int
theorem nmX9 : ∀ a, a < 0 → ∀ b, b < 0 → a ≠ b → (TX9 a).2.1 ≠ (TX9 b).2.1 := by decide +kernel
theorem tyX9_ok : ∀ k, k < 0 → parseFieldDescriptor (TX9 k).2.2.1 = some (tyX9 k) := by decide +kernel
abbrev cX9_read : ByteArray := prog_11_method_2_code
def yX9_read : MethodName := ⟨RX9, "read", "(LStallMarket$Parser;LStallMarket$Market;)Z"⟩
abbrev cX9_readStalls : ByteArray := prog_11_method_3_code
def yX9_readStalls : MethodName := ⟨RX9, "readStalls", "(LStallMarket$Parser;LStallMarket$Market;)Z"⟩
abbrev cX9_readStall : ByteArray := prog_11_method_4_code
def yX9_readStall : MethodName := ⟨RX9, "readStall", "(LStallMarket$Parser;LStallMarket$Market;)Z"⟩
abbrev cX9_takeNewName : ByteArray := prog_11_method_5_code
def yX9_takeNewName : MethodName := ⟨RX9, "takeNewName", "(LStallMarket$Parser;Z)Z"⟩
abbrev cX9_readSellers : ByteArray := prog_11_method_6_code
def yX9_readSellers : MethodName := ⟨RX9, "readSellers", "(LStallMarket$Parser;LStallMarket$Market;)Z"⟩
abbrev cX9_readSeller : ByteArray := prog_11_method_7_code
def yX9_readSeller : MethodName := ⟨RX9, "readSeller", "(LStallMarket$Parser;LStallMarket$Market;)Z"⟩
abbrev cX9_readWishes : ByteArray := prog_11_method_8_code
def yX9_readWishes : MethodName := ⟨RX9, "readWishes", "(LStallMarket$Parser;LStallMarket$Market;I)Z"⟩
abbrev cX9_readPlace : ByteArray := prog_11_method_9_code
def yX9_readPlace : MethodName := ⟨RX9, "readPlace", "(LStallMarket$Parser;LStallMarket$Market;I)Z"⟩
def RX10 : String := "StallMarket$Tokens"
def TX10 : u_T := fun k => match k with
  | 0 => ("StallMarket$Tokens", "text", "LStallMarket$ByteText;", true)
  | 1 => ("StallMarket$Tokens", "kind", "I", false)
  | 2 => ("StallMarket$Tokens", "start", "I", false)
  | 3 => ("StallMarket$Tokens", "end", "I", false)
  | 4 => ("StallMarket$Tokens", "number", "I", false)
  | _ => ("StallMarket$Tokens", "name", "J", false)
def tyX10 : Nat → FieldType := fun k => match k with
  | 0 => .object "StallMarket$ByteText"
  | 1 => .int
  | 2 => .int
  | 3 => .int
  | 4 => .int
  | _ => .long
theorem nmX10 : ∀ a, a < 6 → ∀ b, b < 6 → a ≠ b → (TX10 a).2.1 ≠ (TX10 b).2.1 := by decide +kernel
theorem tyX10_ok : ∀ k, k < 6 → parseFieldDescriptor (TX10 k).2.2.1 = some (tyX10 k) := by decide +kernel
abbrev cX10_init : ByteArray := prog_12_method_1_code
def yX10_init : MethodName := ⟨RX10, "<init>", "()V"⟩
abbrev cX10_rewind : ByteArray := prog_12_method_2_code
def yX10_rewind : MethodName := ⟨RX10, "rewind", "()V"⟩
abbrev cX10_next : ByteArray := prog_12_method_3_code
def yX10_next : MethodName := ⟨RX10, "next", "()V"⟩
abbrev cX10_readWord : ByteArray := prog_12_method_4_code
def yX10_readWord : MethodName := ⟨RX10, "readWord", "()V"⟩
abbrev cX10_readNumber : ByteArray := prog_12_method_5_code
def yX10_readNumber : MethodName := ⟨RX10, "readNumber", "()V"⟩
abbrev cX10_isWord : ByteArray := prog_12_method_6_code
def yX10_isWord : MethodName := ⟨RX10, "isWord", "(Ljava/lang/String;)Z"⟩
abbrev cX10_isLetter : ByteArray := prog_12_method_7_code
def yX10_isLetter : MethodName := ⟨RX10, "isLetter", "(I)Z"⟩
abbrev cX10_isDigit : ByteArray := prog_12_method_8_code
def yX10_isDigit : MethodName := ⟨RX10, "isDigit", "(I)Z"⟩
def RX11 : String := "StallMarket$Verb"
def TX11 : u_T := fun k => match k with
  | _ => ("", "", "", false)
def tyX11 : Nat → FieldType := fun k => match k with
  | _ => .int
theorem nmX11 : ∀ a, a < 0 → ∀ b, b < 0 → a ≠ b → (TX11 a).2.1 ≠ (TX11 b).2.1 := by decide +kernel
theorem tyX11_ok : ∀ k, k < 0 → parseFieldDescriptor (TX11 k).2.2.1 = some (tyX11 k) := by decide +kernel
def RX12 : String := "StallMarket"
def TX12 : u_T := fun k => match k with
  | 0 => ("StallMarket", "parser", "LStallMarket$Parser;", true)
  | 1 => ("StallMarket", "output", "LStallMarket$ByteText;", true)
  | 2 => ("StallMarket", "script", "LStallMarket$Script;", true)
  | 3 => ("StallMarket", "market", "LStallMarket$Market;", true)
  | 4 => ("StallMarket", "scratch", "LStallMarket$Market;", true)
  | 5 => ("StallMarket", "saved", "LStallMarket$Market;", true)
  | 6 => ("StallMarket", "hasSaved", "Z", false)
  | 7 => ("StallMarket", "history", "LStallMarket$History;", true)
  | 8 => ("StallMarket", "allocation", "LStallMarket$Allocation;", true)
  | _ => ("StallMarket", "matching", "LStallMarket$Matching;", true)
def tyX12 : Nat → FieldType := fun k => match k with
  | 0 => .object "StallMarket$Parser"
  | 1 => .object "StallMarket$ByteText"
  | 2 => .object "StallMarket$Script"
  | 3 => .object "StallMarket$Market"
  | 4 => .object "StallMarket$Market"
  | 5 => .object "StallMarket$Market"
  | 6 => .boolean
  | 7 => .object "StallMarket$History"
  | 8 => .object "StallMarket$Allocation"
  | _ => .object "StallMarket$Matching"
theorem nmX12 : ∀ a, a < 10 → ∀ b, b < 10 → a ≠ b → (TX12 a).2.1 ≠ (TX12 b).2.1 := by decide +kernel
theorem tyX12_ok : ∀ k, k < 10 → parseFieldDescriptor (TX12 k).2.2.1 = some (tyX12 k) := by decide +kernel
abbrev cX12_init : ByteArray := prog_1_method_1_code
def yX12_init : MethodName := ⟨RX12, "<init>", "()V"⟩
abbrev cX12_appendInput : ByteArray := prog_1_method_2_code
def yX12_appendInput : MethodName := ⟨RX12, "appendInput", "(IIIII)I"⟩
abbrev cX12_loadSetup : ByteArray := prog_1_method_4_code
def yX12_loadSetup : MethodName := ⟨RX12, "loadSetup", "()I"⟩
abbrev cX12_sellerCount : ByteArray := prog_1_method_8_code
def yX12_sellerCount : MethodName := ⟨RX12, "sellerCount", "()I"⟩
abbrev cX12_stallCount : ByteArray := prog_1_method_9_code
def yX12_stallCount : MethodName := ⟨RX12, "stallCount", "()I"⟩
abbrev cX12_day : ByteArray := prog_1_method_10_code
def yX12_day : MethodName := ⟨RX12, "day", "()I"⟩
abbrev cX12_balance : ByteArray := prog_1_method_11_code
def yX12_balance : MethodName := ⟨RX12, "balance", "(I)I"⟩
abbrev cX12_rent : ByteArray := prog_1_method_13_code
def yX12_rent : MethodName := ⟨RX12, "rent", "(I)I"⟩
abbrev cX12_stallOf : ByteArray := prog_1_method_14_code
def yX12_stallOf : MethodName := ⟨RX12, "stallOf", "(I)I"⟩
abbrev cX12_occupantOf : ByteArray := prog_1_method_15_code
def yX12_occupantOf : MethodName := ⟨RX12, "occupantOf", "(I)I"⟩
abbrev cX12_priorityOf : ByteArray := prog_1_method_16_code
def yX12_priorityOf : MethodName := ⟨RX12, "priorityOf", "(I)I"⟩
abbrev cX12_preferenceCount : ByteArray := prog_1_method_17_code
def yX12_preferenceCount : MethodName := ⟨RX12, "preferenceCount", "(I)I"⟩
abbrev cX12_preferenceAt : ByteArray := prog_1_method_18_code
def yX12_preferenceAt : MethodName := ⟨RX12, "preferenceAt", "(II)I"⟩
abbrev cX12_isEfficient : ByteArray := prog_1_method_30_code
def yX12_isEfficient : MethodName := ⟨RX12, "isEfficient", "()Z"⟩
abbrev cX12_allocatedStall : ByteArray := prog_1_method_32_code
def yX12_allocatedStall : MethodName := ⟨RX12, "allocatedStall", "(I)I"⟩
abbrev cX12_ledgerDifference : ByteArray := prog_1_method_46_code
def yX12_ledgerDifference : MethodName := ⟨RX12, "ledgerDifference", "()I"⟩
abbrev cX12_assign : ByteArray := prog_1_method_47_code
def yX12_assign : MethodName := ⟨RX12, "assign", "(II)I"⟩
abbrev cX12_vacate : ByteArray := prog_1_method_48_code
def yX12_vacate : MethodName := ⟨RX12, "vacate", "(I)I"⟩
abbrev cX12_swap : ByteArray := prog_1_method_49_code
def yX12_swap : MethodName := ⟨RX12, "swap", "(II)I"⟩
abbrev cX12_reallocate : ByteArray := prog_1_method_50_code
def yX12_reallocate : MethodName := ⟨RX12, "reallocate", "()I"⟩
abbrev cX12_setPriority : ByteArray := prog_1_method_51_code
def yX12_setPriority : MethodName := ⟨RX12, "setPriority", "(II)I"⟩
abbrev cX12_preferFirst : ByteArray := prog_1_method_52_code
def yX12_preferFirst : MethodName := ⟨RX12, "preferFirst", "(II)I"⟩
abbrev cX12_removePreference : ByteArray := prog_1_method_53_code
def yX12_removePreference : MethodName := ⟨RX12, "removePreference", "(II)I"⟩
abbrev cX12_setRent : ByteArray := prog_1_method_54_code
def yX12_setRent : MethodName := ⟨RX12, "setRent", "(II)I"⟩
abbrev cX12_advanceDays : ByteArray := prog_1_method_56_code
def yX12_advanceDays : MethodName := ⟨RX12, "advanceDays", "(I)I"⟩
abbrev cX12_undo : ByteArray := prog_1_method_60_code
def yX12_undo : MethodName := ⟨RX12, "undo", "()I"⟩
abbrev cX12_requireSeller : ByteArray := prog_1_method_64_code
def yX12_requireSeller : MethodName := ⟨RX12, "requireSeller", "(I)V"⟩
abbrev cX12_requireStall : ByteArray := prog_1_method_65_code
def yX12_requireStall : MethodName := ⟨RX12, "requireStall", "(I)V"⟩
def RX13 : String := "StallMarketLaw$Own"
def TX13 : u_T := fun k => match k with
  | 0 => ("StallMarketLaw$Own", "text", "[B", true)
  | 1 => ("StallMarketLaw$Own", "rent", "[I", true)
  | 2 => ("StallMarketLaw$Own", "coins", "[I", true)
  | 3 => ("StallMarketLaw$Own", "income", "[I", true)
  | 4 => ("StallMarketLaw$Own", "place", "[I", true)
  | 5 => ("StallMarketLaw$Own", "length", "[I", true)
  | 6 => ("StallMarketLaw$Own", "order", "[I", true)
  | 7 => ("StallMarketLaw$Own", "line", "[I", true)
  | 8 => ("StallMarketLaw$Own", "asked", "[I", true)
  | 9 => ("StallMarketLaw$Own", "got", "[I", true)
  | 10 => ("StallMarketLaw$Own", "list", "[[I", true)
  | 11 => ("StallMarketLaw$Own", "taken", "[Z", true)
  | 12 => ("StallMarketLaw$Own", "x", "I", false)
  | 13 => ("StallMarketLaw$Own", "size", "I", false)
  | 14 => ("StallMarketLaw$Own", "stalls", "I", false)
  | 15 => ("StallMarketLaw$Own", "sellers", "I", false)
  | 16 => ("StallMarketLaw$Own", "day", "I", false)
  | _ => ("StallMarketLaw$Own", "inLine", "I", false)
def tyX13 : Nat → FieldType := fun k => match k with
  | 0 => .array .byte
  | 1 => .array .int
  | 2 => .array .int
  | 3 => .array .int
  | 4 => .array .int
  | 5 => .array .int
  | 6 => .array .int
  | 7 => .array .int
  | 8 => .array .int
  | 9 => .array .int
  | 10 => .array (.array .int)
  | 11 => .array .boolean
  | 12 => .int
  | 13 => .int
  | 14 => .int
  | 15 => .int
  | 16 => .int
  | _ => .int
theorem nmX13 : ∀ a, a < 18 → ∀ b, b < 18 → a ≠ b → (TX13 a).2.1 ≠ (TX13 b).2.1 := by decide +kernel
theorem tyX13_ok : ∀ k, k < 18 → parseFieldDescriptor (TX13 k).2.2.1 = some (tyX13 k) := by decide +kernel
abbrev cX13_init : ByteArray := prog_15_method_1_code
def yX13_init : MethodName := ⟨RX13, "<init>", "()V"⟩
abbrev cX13_draw : ByteArray := prog_15_method_2_code
def yX13_draw : MethodName := ⟨RX13, "draw", "(I)I"⟩
abbrev cX13_put : ByteArray := prog_15_method_3_code
def yX13_put : MethodName := ⟨RX13, "put", "(Ljava/lang/String;)V"⟩
abbrev cX13_digits : ByteArray := prog_15_method_4_code
def yX13_digits : MethodName := ⟨RX13, "digits", "(I)V"⟩
abbrev cX13_put_ : ByteArray := prog_15_method_5_code
def yX13_put_ : MethodName := ⟨RX13, "put", "(I)V"⟩
abbrev cX13_letter : ByteArray := prog_15_method_6_code
def yX13_letter : MethodName := ⟨RX13, "letter", "(II)V"⟩
abbrev cX13_four : ByteArray := prog_15_method_7_code
def yX13_four : MethodName := ⟨RX13, "four", "(I)I"⟩
abbrev cX13_send : ByteArray := prog_15_method_8_code
def yX13_send : MethodName := ⟨RX13, "send", "(LStallMarket;)Z"⟩
abbrev cX13_begin : ByteArray := prog_15_method_9_code
def yX13_begin : MethodName := ⟨RX13, "begin", "(LStallMarket;I)Z"⟩
abbrev cX13_rank : ByteArray := prog_15_method_10_code
def yX13_rank : MethodName := ⟨RX13, "rank", "(II)I"⟩
abbrev cX13_tenant : ByteArray := prog_15_method_11_code
def yX13_tenant : MethodName := ⟨RX13, "tenant", "(I)I"⟩
abbrev cX13_bad : ByteArray := prog_15_method_12_code
def yX13_bad : MethodName := ⟨RX13, "bad", "(II)I"⟩
abbrev cX13_likes : ByteArray := prog_15_method_13_code
def yX13_likes : MethodName := ⟨RX13, "likes", "(III)Z"⟩
abbrev cX13_envies : ByteArray := prog_15_method_14_code
def yX13_envies : MethodName := ⟨RX13, "envies", "(II)Z"⟩
abbrev cX13_both : ByteArray := prog_15_method_15_code
def yX13_both : MethodName := ⟨RX13, "both", "(II)Z"⟩
abbrev cX13_mechanism : ByteArray := prog_15_method_16_code
def yX13_mechanism : MethodName := ⟨RX13, "mechanism", "()V"⟩
abbrev cX13_where : ByteArray := prog_15_method_17_code
def yX13_where : MethodName := ⟨RX13, "where", "(I)I"⟩
abbrev cX13_front : ByteArray := prog_15_method_18_code
def yX13_front : MethodName := ⟨RX13, "front", "(I)V"⟩
abbrev cX13_give : ByteArray := prog_15_method_19_code
def yX13_give : MethodName := ⟨RX13, "give", "(II)V"⟩
abbrev cX13_whereAll : ByteArray := prog_15_method_20_code
def yX13_whereAll : MethodName := ⟨RX13, "whereAll", "(I)I"⟩
abbrev cX13_isSame : ByteArray := prog_15_method_21_code
def yX13_isSame : MethodName := ⟨RX13, "isSame", "(LStallMarket;)Z"⟩
abbrev cX13_toFront : ByteArray := prog_15_method_22_code
def yX13_toFront : MethodName := ⟨RX13, "toFront", "(II)V"⟩
abbrev cX13_first : ByteArray := prog_15_method_23_code
def yX13_first : MethodName := ⟨RX13, "first", "(II)V"⟩
abbrev cX13_pass : ByteArray := prog_15_method_24_code
def yX13_pass : MethodName := ⟨RX13, "pass", "()I"⟩
abbrev cX13_act : ByteArray := prog_15_method_25_code
def yX13_act : MethodName := ⟨RX13, "act", "(LStallMarket;)Z"⟩
abbrev cX13_rankAll : ByteArray := prog_15_method_26_code
def yX13_rankAll : MethodName := ⟨RX13, "rankAll", "(II)I"⟩
def RX14 : String := "StallMarketModel"
def TX14 : u_T := fun k => match k with
  | _ => ("", "", "", false)
def tyX14 : Nat → FieldType := fun k => match k with
  | _ => .int
theorem nmX14 : ∀ a, a < 0 → ∀ b, b < 0 → a ≠ b → (TX14 a).2.1 ≠ (TX14 b).2.1 := by decide +kernel
theorem tyX14_ok : ∀ k, k < 0 → parseFieldDescriptor (TX14 k).2.2.1 = some (tyX14 k) := by decide +kernel
def RJx29ce0 : String := "java/lang/Enum"
def TJx29ce0 : u_T := fun k => match k with
  | _ => ("", "", "", false)
def tyJx29ce0 : Nat → FieldType := fun k => match k with
  | _ => .int
theorem nmJx29ce0 : ∀ a, a < 0 → ∀ b, b < 0 → a ≠ b → (TJx29ce0 a).2.1 ≠ (TJx29ce0 b).2.1 := by decide +kernel
theorem tyJx29ce0_ok : ∀ k, k < 0 → parseFieldDescriptor (TJx29ce0 k).2.2.1 = some (tyJx29ce0 k) := by decide +kernel
def RJ0 : String := "java/lang/String"
def TJ0 : u_T := fun k => match k with
  | _ => ("", "", "", false)
def tyJ0 : Nat → FieldType := fun k => match k with
  | _ => .int
theorem nmJ0 : ∀ a, a < 0 → ∀ b, b < 0 → a ≠ b → (TJ0 a).2.1 ≠ (TJ0 b).2.1 := by decide +kernel
theorem tyJ0_ok : ∀ k, k < 0 → parseFieldDescriptor (TJ0 k).2.2.1 = some (tyJ0 k) := by decide +kernel
abbrev cJ0_length_8abf5 : ByteArray := prog_22_method_54_code
def yJ0_length_8abf5 : MethodName := ⟨RJ0, "length", "()I"⟩
abbrev cJ0_charAt_5068e : ByteArray := prog_22_method_56_code
def yJ0_charAt_5068e : MethodName := ⟨RJ0, "charAt", "(I)C"⟩
abbrev cJ0_coder_7d493 : ByteArray := prog_22_method_152_code
def yJ0_coder_7d493 : MethodName := ⟨RJ0, "coder", "()B"⟩
abbrev cJ0_isLatin1_aae02 : ByteArray := prog_22_method_154_code
def yJ0_isLatin1_aae02 : MethodName := ⟨RJ0, "isLatin1", "()Z"⟩
abbrev cJ0_checkIndex_df160 : ByteArray := prog_22_method_155_code
def yJ0_checkIndex_df160 : MethodName := ⟨RJ0, "checkIndex", "(II)V"⟩
def RJ1 : String := "java/lang/StringLatin1"
def TJ1 : u_T := fun k => match k with
  | _ => ("", "", "", false)
def tyJ1 : Nat → FieldType := fun k => match k with
  | _ => .int
theorem nmJ1 : ∀ a, a < 0 → ∀ b, b < 0 → a ≠ b → (TJ1 a).2.1 ≠ (TJ1 b).2.1 := by decide +kernel
theorem tyJ1_ok : ∀ k, k < 0 → parseFieldDescriptor (TJ1 k).2.2.1 = some (tyJ1 k) := by decide +kernel
abbrev cJ1_charAt_3b067 : ByteArray := prog_23_method_2_code
def yJ1_charAt_3b067 : MethodName := ⟨RJ1, "charAt", "([BI)C"⟩
def RJ2 : String := "java/lang/StringUTF16"
def TJ2 : u_T := fun k => match k with
  | _ => ("", "", "", false)
def tyJ2 : Nat → FieldType := fun k => match k with
  | _ => .int
theorem nmJ2 : ∀ a, a < 0 → ∀ b, b < 0 → a ≠ b → (TJ2 a).2.1 ≠ (TJ2 b).2.1 := by decide +kernel
theorem tyJ2_ok : ∀ k, k < 0 → parseFieldDescriptor (TJ2 k).2.2.1 = some (tyJ2 k) := by decide +kernel
abbrev cJ2_getChar_3b067 : ByteArray := prog_24_method_5_code
def yJ2_getChar_3b067 : MethodName := ⟨RJ2, "getChar", "([BI)C"⟩
abbrev cJ2_length_9d52b : ByteArray := prog_24_method_6_code
def yJ2_length_9d52b : MethodName := ⟨RJ2, "length", "([B)I"⟩
abbrev cJ2_charAt_3b067 : ByteArray := prog_24_method_83_code
def yJ2_charAt_3b067 : MethodName := ⟨RJ2, "charAt", "([BI)C"⟩
abbrev cJ2_checkIndex_2214a : ByteArray := prog_24_method_91_code
def yJ2_checkIndex_2214a : MethodName := ⟨RJ2, "checkIndex", "(I[B)V"⟩
def RJ3 : String := "jdk/internal/util/Preconditions"
def TJ3 : u_T := fun k => match k with
  | _ => ("", "", "", false)
def tyJ3 : Nat → FieldType := fun k => match k with
  | _ => .int
theorem nmJ3 : ∀ a, a < 0 → ∀ b, b < 0 → a ≠ b → (TJ3 a).2.1 ≠ (TJ3 b).2.1 := by decide +kernel
theorem tyJ3_ok : ∀ k, k < 0 → parseFieldDescriptor (TJ3 k).2.2.1 = some (tyJ3 k) := by decide +kernel
abbrev cJ3_checkIndex_8e157 : ByteArray := prog_26_method_11_code
def yJ3_checkIndex_8e157 : MethodName := ⟨RJ3, "checkIndex", "(IILjava/util/function/BiFunction;)I"⟩
def RL : String := "StallMarketLaw"
abbrev cL_pick : ByteArray := method_2_code
def yL_pick : MethodName := ⟨RL, "pick", "([II)I"⟩
abbrev cL_law : ByteArray := code
def yL_law : MethodName := ⟨RL, "law", "([I)Z"⟩
abbrev vwCl : List vw_C := [(RX1, TX1, 5), (RX2, TX2, 2), (RX4, TX4, 3), (RX5, TX5, 18), (RX6, TX6, 3), (RX7, TX7, 3), (RX8, TX8, 4), (RX10, TX10, 6), (RX12, TX12, 10), (RX13, TX13, 18)]
end
section
def TB : List Cond := lw_tbl.filter goodWord
def nestWord : Cond → Bool
  | .fieldLinkNest _ _ _ _ _ _ => true
  | .methodLinkNest _ _ _ _ => true
  | .castable _ _ => true
  | _ => false
def NB : List Cond := lw_tbl.filter nestWord
theorem nb_of {w : Cond} (i : Nat) (h : lw_tbl[i]? = some w) (g : nestWord w = true) : w ∈ NB := List.mem_filter.mpr ⟨List.mem_of_getElem? h, g⟩
theorem nb_tab {w : Cond} (h : w ∈ NB) : w.onTables = true := by
  have h1 := (List.mem_filter.mp h).2
  cases w <;> first | rfl | exact absurd h1 (by simp [nestWord])
theorem nb_warm {w : Cond} {s U : State} (h : w ∈ NB) (hW : s.WarmedH U.vm) (hZ : va_Nw w s) : va_Nw w U := by
  have h1 := (List.mem_filter.mp h).2
  cases w <;> first | exact va_Nw.warmF hW hZ | exact va_Nw.warmM hW hZ | exact va_Nw.warmC hW hZ | exact absurd h1 (by simp [nestWord])
theorem tb_of {w : Cond} (i : Nat) (h : lw_tbl[i]? = some w) (g : goodWord w = true) : w ∈ TB := List.mem_filter.mpr ⟨List.mem_of_getElem? h, g⟩
theorem tb_good {w : Cond} (h : w ∈ TB) : goodWord w = true := (List.mem_filter.mp h).2
theorem tb_lw {w : Cond} (h : w ∈ TB) : w ∈ lw_tbl := (List.mem_filter.mp h).1
theorem tb_in {ws : List Cond} (h : ∀ w ∈ ws, w ∈ TB) : GoodIn TB ws := fun w hw => ⟨h w hw, good_of_word (tb_good (h w hw))⟩
theorem qS_X10_readWord : Cond.selects RX10 yX10_readWord yX10_readWord ∈ TB := tb_of 0 (by decide +kernel) (by decide +kernel)
theorem qS_X10_readNumber : Cond.selects RX10 yX10_readNumber yX10_readNumber ∈ TB := tb_of 1 (by decide +kernel) (by decide +kernel)
theorem qS_X5_hasSeller : Cond.selects RX5 yX5_hasSeller yX5_hasSeller ∈ TB := tb_of 2 (by decide +kernel) (by decide +kernel)
theorem qS_X5_standing : Cond.selects RX5 yX5_standing yX5_standing ∈ TB := tb_of 3 (by decide +kernel) (by decide +kernel)
theorem qS_X12_requireSeller : Cond.selects RX12 yX12_requireSeller yX12_requireSeller ∈ TB := tb_of 4 (by decide +kernel) (by decide +kernel)
theorem qS_java_lang_Throwable_fillInStackTrace__I_Ljava_lang_Throwable_ : Cond.selects "java/lang/Throwable" ⟨"java/lang/Throwable", "fillInStackTrace", "(I)Ljava/lang/Throwable;"⟩ ⟨"java/lang/Throwable", "fillInStackTrace", "(I)Ljava/lang/Throwable;"⟩ ∈ TB := tb_of 5 (by decide +kernel) (by decide +kernel)
theorem qS_X1_nextInTurn : Cond.selects RX1 yX1_nextInTurn yX1_nextInTurn ∈ TB := tb_of 6 (by decide +kernel) (by decide +kernel)
theorem qS_X1_append : Cond.selects RX1 yX1_append yX1_append ∈ TB := tb_of 7 (by decide +kernel) (by decide +kernel)
theorem qS_X1_serve : Cond.selects RX1 yX1_serve yX1_serve ∈ TB := tb_of 8 (by decide +kernel) (by decide +kernel)
theorem qS_X1_firstAvailable : Cond.selects RX1 yX1_firstAvailable yX1_firstAvailable ∈ TB := tb_of 9 (by decide +kernel) (by decide +kernel)
theorem qS_X1_finishFrom : Cond.selects RX1 yX1_finishFrom yX1_finishFrom ∈ TB := tb_of 10 (by decide +kernel) (by decide +kernel)
theorem qS_X1_placeInChain : Cond.selects RX1 yX1_placeInChain yX1_placeInChain ∈ TB := tb_of 11 (by decide +kernel) (by decide +kernel)
theorem qS_X4_slotAfter : Cond.selects RX4 yX4_slotAfter yX4_slotAfter ∈ TB := tb_of 12 (by decide +kernel) (by decide +kernel)
theorem qS_X12_requireStall : Cond.selects RX12 yX12_requireStall yX12_requireStall ∈ TB := tb_of 13 (by decide +kernel) (by decide +kernel)
theorem qS_X5_hasStall : Cond.selects RX5 yX5_hasStall yX5_hasStall ∈ TB := tb_of 14 (by decide +kernel) (by decide +kernel)
theorem qS_X5_chargeOrEvict : Cond.selects RX5 yX5_chargeOrEvict yX5_chargeOrEvict ∈ TB := tb_of 15 (by decide +kernel) (by decide +kernel)
theorem qN_L : Cond.initialized RL ∈ TB := tb_of 16 (by decide +kernel) (by decide +kernel)
theorem qN_X12 : Cond.initialized RX12 ∈ TB := tb_of 17 (by decide +kernel) (by decide +kernel)
theorem qN_X2 : Cond.initialized RX2 ∈ TB := tb_of 18 (by decide +kernel) (by decide +kernel)
theorem qN_X8 : Cond.initialized RX8 ∈ TB := tb_of 19 (by decide +kernel) (by decide +kernel)
theorem qN_X5 : Cond.initialized RX5 ∈ TB := tb_of 20 (by decide +kernel) (by decide +kernel)
theorem qN_X4 : Cond.initialized RX4 ∈ TB := tb_of 21 (by decide +kernel) (by decide +kernel)
theorem qN_X1 : Cond.initialized RX1 ∈ TB := tb_of 22 (by decide +kernel) (by decide +kernel)
theorem qN_X6 : Cond.initialized RX6 ∈ TB := tb_of 23 (by decide +kernel) (by decide +kernel)
theorem qN_X7 : Cond.initialized RX7 ∈ TB := tb_of 24 (by decide +kernel) (by decide +kernel)
theorem qN_X10 : Cond.initialized RX10 ∈ TB := tb_of 25 (by decide +kernel) (by decide +kernel)
theorem qN_J0 : Cond.initialized RJ0 ∈ TB := tb_of 26 (by decide +kernel) (by decide +kernel)
theorem qN_J1 : Cond.initialized RJ1 ∈ TB := tb_of 27 (by decide +kernel) (by decide +kernel)
theorem qN_J3 : Cond.initialized RJ3 ∈ TB := tb_of 28 (by decide +kernel) (by decide +kernel)
theorem qN_J2 : Cond.initialized RJ2 ∈ TB := tb_of 29 (by decide +kernel) (by decide +kernel)
theorem qN_X9 : Cond.initialized RX9 ∈ TB := tb_of 30 (by decide +kernel) (by decide +kernel)
theorem qN_X13 : Cond.initialized RX13 ∈ TB := tb_of 31 (by decide +kernel) (by decide +kernel)
theorem qN_java_lang_Throwable : Cond.initialized "java/lang/Throwable" ∈ TB := tb_of 32 (by decide +kernel) (by decide +kernel)
theorem qN_java_lang_Exception : Cond.initialized "java/lang/Exception" ∈ TB := tb_of 33 (by decide +kernel) (by decide +kernel)
theorem qN_java_lang_RuntimeException : Cond.initialized "java/lang/RuntimeException" ∈ TB := tb_of 34 (by decide +kernel) (by decide +kernel)
theorem qN_java_lang_IllegalStateException : Cond.initialized "java/lang/IllegalStateException" ∈ TB := tb_of 35 (by decide +kernel) (by decide +kernel)
theorem qN_java_lang_IndexOutOfBoundsException : Cond.initialized "java/lang/IndexOutOfBoundsException" ∈ TB := tb_of 36 (by decide +kernel) (by decide +kernel)
theorem qN_X3 : Cond.initialized RX3 ∈ TB := tb_of 37 (by decide +kernel) (by decide +kernel)
theorem qN_java_lang_IllegalArgumentException : Cond.initialized "java/lang/IllegalArgumentException" ∈ TB := tb_of 38 (by decide +kernel) (by decide +kernel)
theorem qK_L_7 : Cond.classLink RL 7 RX12 ∈ TB := tb_of 39 (by decide +kernel) (by decide +kernel)
theorem qA_X12 : Cond.instantiable RX12 10 ∈ TB := tb_of 40 (by decide +kernel) (by decide +kernel)
theorem qM_L_9 : Cond.methodLink RL 9 yX12_init ∈ TB := tb_of 41 (by decide +kernel) (by decide +kernel)
theorem qI_X12_init : Cond.instanceMethod yX12_init ∈ TB := tb_of 42 (by decide +kernel) (by decide +kernel)
theorem qC_X12_init : Cond.code yX12_init cX12_init 4 (none : Option Jvm.ClassFile.FieldType) ∈ TB := tb_of 43 (by decide +kernel) (by decide +kernel)
theorem qM_X12_3 : Cond.methodLink RX12 3 ⟨"java/lang/Object", "<init>", "()V"⟩ ∈ TB := tb_of 44 (by decide +kernel) (by decide +kernel)
theorem qI_java_lang_Object__init____V : Cond.instanceMethod ⟨"java/lang/Object", "<init>", "()V"⟩ ∈ TB := tb_of 45 (by decide +kernel) (by decide +kernel)
theorem qC_java_lang_Object__init____V : Cond.code ⟨"java/lang/Object", "<init>", "()V"⟩ object_method_1_code 1 (none : Option Jvm.ClassFile.FieldType) ∈ TB := tb_of 46 (by decide +kernel) (by decide +kernel)
theorem qK_X12_9 : Cond.classLink RX12 9 RX2 ∈ TB := tb_of 47 (by decide +kernel) (by decide +kernel)
theorem qA_X2 : Cond.instantiable RX2 2 ∈ TB := tb_of 48 (by decide +kernel) (by decide +kernel)
theorem qM_X12_11 : Cond.methodLinkNest RX12 11 yX2_init RX12 ∈ NB := nb_of 49 (by decide +kernel) (by decide +kernel)
theorem qI_X2_init : Cond.instanceMethod yX2_init ∈ TB := tb_of 50 (by decide +kernel) (by decide +kernel)
theorem qC_X2_init : Cond.code yX2_init cX2_init 1 (none : Option Jvm.ClassFile.FieldType) ∈ TB := tb_of 51 (by decide +kernel) (by decide +kernel)
theorem qM_X2_3 : Cond.methodLink RX2 3 ⟨"java/lang/Object", "<init>", "()V"⟩ ∈ TB := tb_of 52 (by decide +kernel) (by decide +kernel)
theorem qF_X2_9 : Cond.fieldLink RX2 9 RX2 "bytes" "[I" ∈ TB := tb_of 53 (by decide +kernel) (by decide +kernel)
theorem qF_X2_15 : Cond.fieldLink RX2 15 RX2 "length" "I" ∈ TB := tb_of 54 (by decide +kernel) (by decide +kernel)
theorem qF_X12_102 : Cond.fieldLinkNest RX12 102 RX2 "length" "I" RX12 ∈ NB := nb_of 55 (by decide +kernel) (by decide +kernel)
theorem qF_X10_38 : Cond.fieldLinkNest RX10 38 RX2 "length" "I" RX12 ∈ NB := nb_of 56 (by decide +kernel) (by decide +kernel)
theorem qL_X2_bytes : Cond.laysFinal RX2 RX2 "bytes" "[I" ∈ TB := tb_of 57 (by decide +kernel) (by decide +kernel)
theorem qL_X2_length : Cond.lays RX2 RX2 "length" "I" ∈ TB := tb_of 59 (by decide +kernel) (by decide +kernel)
theorem qR_46 : Cond.arrayClass .int ∈ TB := tb_of 62 (by decide +kernel) (by decide +kernel)
theorem qK_X12_16 : Cond.classLink RX12 16 RX8 ∈ TB := tb_of 63 (by decide +kernel) (by decide +kernel)
theorem qA_X8 : Cond.instantiable RX8 4 ∈ TB := tb_of 64 (by decide +kernel) (by decide +kernel)
theorem qM_X12_18 : Cond.methodLinkNest RX12 18 yX8_init RX12 ∈ NB := nb_of 65 (by decide +kernel) (by decide +kernel)
theorem qI_X8_init : Cond.instanceMethod yX8_init ∈ TB := tb_of 66 (by decide +kernel) (by decide +kernel)
theorem qC_X8_init : Cond.code yX8_init cX8_init 1 (none : Option Jvm.ClassFile.FieldType) ∈ TB := tb_of 67 (by decide +kernel) (by decide +kernel)
theorem qM_X8_3 : Cond.methodLink RX8 3 ⟨"java/lang/Object", "<init>", "()V"⟩ ∈ TB := tb_of 68 (by decide +kernel) (by decide +kernel)
theorem qK_X8_9 : Cond.classLink RX8 9 RX11 ∈ TB := tb_of 69 (by decide +kernel) (by decide +kernel)
theorem qF_X8_11 : Cond.fieldLink RX8 11 RX8 "verbs" "[LStallMarket$Verb;" ∈ TB := tb_of 71 (by decide +kernel) (by decide +kernel)
theorem qF_X8_17 : Cond.fieldLink RX8 17 RX8 "firsts" "[I" ∈ TB := tb_of 72 (by decide +kernel) (by decide +kernel)
theorem qF_X8_21 : Cond.fieldLink RX8 21 RX8 "seconds" "[I" ∈ TB := tb_of 73 (by decide +kernel) (by decide +kernel)
theorem qF_X8_24 : Cond.fieldLink RX8 24 RX8 "count" "I" ∈ TB := tb_of 74 (by decide +kernel) (by decide +kernel)
theorem qL_X8_verbs : Cond.laysFinal RX8 RX8 "verbs" "[LStallMarket$Verb;" ∈ TB := tb_of 75 (by decide +kernel) (by decide +kernel)
theorem qL_X8_firsts : Cond.laysFinal RX8 RX8 "firsts" "[I" ∈ TB := tb_of 77 (by decide +kernel) (by decide +kernel)
theorem qL_X8_seconds : Cond.laysFinal RX8 RX8 "seconds" "[I" ∈ TB := tb_of 79 (by decide +kernel) (by decide +kernel)
theorem qL_X8_count : Cond.lays RX8 RX8 "count" "I" ∈ TB := tb_of 81 (by decide +kernel) (by decide +kernel)
theorem qK_X12_23 : Cond.classLink RX12 23 RX5 ∈ TB := tb_of 84 (by decide +kernel) (by decide +kernel)
theorem qA_X5 : Cond.instantiable RX5 18 ∈ TB := tb_of 85 (by decide +kernel) (by decide +kernel)
theorem qM_X12_25 : Cond.methodLinkNest RX12 25 yX5_init RX12 ∈ NB := nb_of 86 (by decide +kernel) (by decide +kernel)
theorem qI_X5_init : Cond.instanceMethod yX5_init ∈ TB := tb_of 87 (by decide +kernel) (by decide +kernel)
theorem qC_X5_init : Cond.code yX5_init cX5_init 1 (none : Option Jvm.ClassFile.FieldType) ∈ TB := tb_of 88 (by decide +kernel) (by decide +kernel)
theorem qM_X5_3 : Cond.methodLink RX5 3 ⟨"java/lang/Object", "<init>", "()V"⟩ ∈ TB := tb_of 89 (by decide +kernel) (by decide +kernel)
theorem qF_X5_9 : Cond.fieldLink RX5 9 RX5 "sellers" "I" ∈ TB := tb_of 90 (by decide +kernel) (by decide +kernel)
theorem qF_X1_41 : Cond.fieldLinkNest RX1 41 RX5 "sellers" "I" RX12 ∈ NB := nb_of 91 (by decide +kernel) (by decide +kernel)
theorem qF_X12_127 : Cond.fieldLinkNest RX12 127 RX5 "sellers" "I" RX12 ∈ NB := nb_of 92 (by decide +kernel) (by decide +kernel)
theorem qF_X3_25 : Cond.fieldLinkNest RX3 25 RX5 "sellers" "I" RX12 ∈ NB := nb_of 93 (by decide +kernel) (by decide +kernel)
theorem qF_X9_93 : Cond.fieldLinkNest RX9 93 RX5 "sellers" "I" RX12 ∈ NB := nb_of 94 (by decide +kernel) (by decide +kernel)
theorem qF_X5_15 : Cond.fieldLink RX5 15 RX5 "stalls" "I" ∈ TB := tb_of 95 (by decide +kernel) (by decide +kernel)
theorem qF_X12_145 : Cond.fieldLinkNest RX12 145 RX5 "stalls" "I" RX12 ∈ NB := nb_of 96 (by decide +kernel) (by decide +kernel)
theorem qF_X5_18 : Cond.fieldLink RX5 18 RX5 "today" "I" ∈ TB := tb_of 97 (by decide +kernel) (by decide +kernel)
theorem qF_X12_148 : Cond.fieldLinkNest RX12 148 RX5 "today" "I" RX12 ∈ NB := nb_of 98 (by decide +kernel) (by decide +kernel)
theorem qF_X5_21 : Cond.fieldLink RX5 21 RX5 "paidRent" "I" ∈ TB := tb_of 99 (by decide +kernel) (by decide +kernel)
theorem qF_X12_274 : Cond.fieldLinkNest RX12 274 RX5 "paidRent" "I" RX12 ∈ NB := nb_of 100 (by decide +kernel) (by decide +kernel)
theorem qF_X5_24 : Cond.fieldLink RX5 24 RX5 "evictions" "I" ∈ TB := tb_of 101 (by decide +kernel) (by decide +kernel)
theorem qF_X12_277 : Cond.fieldLinkNest RX12 277 RX5 "evictions" "I" RX12 ∈ NB := nb_of 102 (by decide +kernel) (by decide +kernel)
theorem qF_X5_27 : Cond.fieldLink RX5 27 RX5 "swaps" "I" ∈ TB := tb_of 103 (by decide +kernel) (by decide +kernel)
theorem qF_X5_30 : Cond.fieldLink RX5 30 RX5 "relocations" "I" ∈ TB := tb_of 104 (by decide +kernel) (by decide +kernel)
theorem qF_X1_76 : Cond.fieldLinkNest RX1 76 RX5 "relocations" "I" RX12 ∈ NB := nb_of 105 (by decide +kernel) (by decide +kernel)
theorem qF_X5_33 : Cond.fieldLink RX5 33 RX5 "openingSum" "I" ∈ TB := tb_of 106 (by decide +kernel) (by decide +kernel)
theorem qF_X12_286 : Cond.fieldLinkNest RX12 286 RX5 "openingSum" "I" RX12 ∈ NB := nb_of 107 (by decide +kernel) (by decide +kernel)
theorem qF_X5_36 : Cond.fieldLink RX5 36 RX5 "receipts" "I" ∈ TB := tb_of 108 (by decide +kernel) (by decide +kernel)
theorem qF_X12_289 : Cond.fieldLinkNest RX12 289 RX5 "receipts" "I" RX12 ∈ NB := nb_of 109 (by decide +kernel) (by decide +kernel)
theorem qF_X5_39 : Cond.fieldLink RX5 39 RX5 "sellerNames" "[J" ∈ TB := tb_of 110 (by decide +kernel) (by decide +kernel)
theorem qF_X5_43 : Cond.fieldLink RX5 43 RX5 "coins" "[I" ∈ TB := tb_of 111 (by decide +kernel) (by decide +kernel)
theorem qF_X5_47 : Cond.fieldLink RX5 47 RX5 "wages" "[I" ∈ TB := tb_of 112 (by decide +kernel) (by decide +kernel)
theorem qF_X5_50 : Cond.fieldLink RX5 50 RX5 "held" "[I" ∈ TB := tb_of 113 (by decide +kernel) (by decide +kernel)
theorem qF_X5_53 : Cond.fieldLink RX5 53 RX5 "turns" "[I" ∈ TB := tb_of 114 (by decide +kernel) (by decide +kernel)
theorem qF_X5_56 : Cond.fieldLink RX5 56 RX5 "wishCounts" "[I" ∈ TB := tb_of 115 (by decide +kernel) (by decide +kernel)
theorem qF_X5_59 : Cond.fieldLink RX5 59 RX5 "wishes" "[I" ∈ TB := tb_of 116 (by decide +kernel) (by decide +kernel)
theorem qF_X5_62 : Cond.fieldLink RX5 62 RX5 "stallNames" "[J" ∈ TB := tb_of 117 (by decide +kernel) (by decide +kernel)
theorem qF_X5_65 : Cond.fieldLink RX5 65 RX5 "prices" "[I" ∈ TB := tb_of 118 (by decide +kernel) (by decide +kernel)
theorem qL_X5_sellers : Cond.lays RX5 RX5 "sellers" "I" ∈ TB := tb_of 119 (by decide +kernel) (by decide +kernel)
theorem qL_X5_stalls : Cond.lays RX5 RX5 "stalls" "I" ∈ TB := tb_of 121 (by decide +kernel) (by decide +kernel)
theorem qL_X5_today : Cond.lays RX5 RX5 "today" "I" ∈ TB := tb_of 123 (by decide +kernel) (by decide +kernel)
theorem qL_X5_paidRent : Cond.lays RX5 RX5 "paidRent" "I" ∈ TB := tb_of 125 (by decide +kernel) (by decide +kernel)
theorem qL_X5_evictions : Cond.lays RX5 RX5 "evictions" "I" ∈ TB := tb_of 127 (by decide +kernel) (by decide +kernel)
theorem qL_X5_swaps : Cond.lays RX5 RX5 "swaps" "I" ∈ TB := tb_of 129 (by decide +kernel) (by decide +kernel)
theorem qL_X5_relocations : Cond.lays RX5 RX5 "relocations" "I" ∈ TB := tb_of 131 (by decide +kernel) (by decide +kernel)
theorem qL_X5_openingSum : Cond.lays RX5 RX5 "openingSum" "I" ∈ TB := tb_of 133 (by decide +kernel) (by decide +kernel)
theorem qL_X5_receipts : Cond.lays RX5 RX5 "receipts" "I" ∈ TB := tb_of 135 (by decide +kernel) (by decide +kernel)
theorem qL_X5_sellerNames : Cond.laysFinal RX5 RX5 "sellerNames" "[J" ∈ TB := tb_of 137 (by decide +kernel) (by decide +kernel)
theorem qL_X5_coins : Cond.laysFinal RX5 RX5 "coins" "[I" ∈ TB := tb_of 139 (by decide +kernel) (by decide +kernel)
theorem qL_X5_wages : Cond.laysFinal RX5 RX5 "wages" "[I" ∈ TB := tb_of 141 (by decide +kernel) (by decide +kernel)
theorem qL_X5_held : Cond.laysFinal RX5 RX5 "held" "[I" ∈ TB := tb_of 143 (by decide +kernel) (by decide +kernel)
theorem qL_X5_turns : Cond.laysFinal RX5 RX5 "turns" "[I" ∈ TB := tb_of 145 (by decide +kernel) (by decide +kernel)
theorem qL_X5_wishCounts : Cond.laysFinal RX5 RX5 "wishCounts" "[I" ∈ TB := tb_of 147 (by decide +kernel) (by decide +kernel)
theorem qL_X5_wishes : Cond.laysFinal RX5 RX5 "wishes" "[I" ∈ TB := tb_of 149 (by decide +kernel) (by decide +kernel)
theorem qL_X5_stallNames : Cond.laysFinal RX5 RX5 "stallNames" "[J" ∈ TB := tb_of 151 (by decide +kernel) (by decide +kernel)
theorem qL_X5_prices : Cond.laysFinal RX5 RX5 "prices" "[I" ∈ TB := tb_of 153 (by decide +kernel) (by decide +kernel)
theorem qR_140 : Cond.arrayClass .long ∈ TB := tb_of 156 (by decide +kernel) (by decide +kernel)
theorem qK_X12_37 : Cond.classLink RX12 37 RX4 ∈ TB := tb_of 157 (by decide +kernel) (by decide +kernel)
theorem qA_X4 : Cond.instantiable RX4 3 ∈ TB := tb_of 158 (by decide +kernel) (by decide +kernel)
theorem qM_X12_39 : Cond.methodLink RX12 39 yX4_init ∈ TB := tb_of 159 (by decide +kernel) (by decide +kernel)
theorem qI_X4_init : Cond.instanceMethod yX4_init ∈ TB := tb_of 160 (by decide +kernel) (by decide +kernel)
theorem qC_X4_init : Cond.code yX4_init cX4_init 2 (none : Option Jvm.ClassFile.FieldType) ∈ TB := tb_of 161 (by decide +kernel) (by decide +kernel)
theorem qM_X4_3 : Cond.methodLink RX4 3 ⟨"java/lang/Object", "<init>", "()V"⟩ ∈ TB := tb_of 162 (by decide +kernel) (by decide +kernel)
theorem qK_X4_9 : Cond.classLink RX4 9 RX5 ∈ TB := tb_of 163 (by decide +kernel) (by decide +kernel)
theorem qM_X4_24 : Cond.methodLinkNest RX4 24 yX5_init RX12 ∈ NB := nb_of 165 (by decide +kernel) (by decide +kernel)
theorem qF_X4_11 : Cond.fieldLink RX4 11 RX4 "slots" "[LStallMarket$Market;" ∈ TB := tb_of 166 (by decide +kernel) (by decide +kernel)
theorem qF_X4_17 : Cond.fieldLink RX4 17 RX4 "oldest" "I" ∈ TB := tb_of 167 (by decide +kernel) (by decide +kernel)
theorem qF_X4_21 : Cond.fieldLink RX4 21 RX4 "count" "I" ∈ TB := tb_of 168 (by decide +kernel) (by decide +kernel)
theorem qL_X4_slots : Cond.laysFinal RX4 RX4 "slots" "[LStallMarket$Market;" ∈ TB := tb_of 169 (by decide +kernel) (by decide +kernel)
theorem qL_X4_oldest : Cond.lays RX4 RX4 "oldest" "I" ∈ TB := tb_of 171 (by decide +kernel) (by decide +kernel)
theorem qL_X4_count : Cond.lays RX4 RX4 "count" "I" ∈ TB := tb_of 173 (by decide +kernel) (by decide +kernel)
theorem qK_X12_44 : Cond.classLink RX12 44 RX1 ∈ TB := tb_of 176 (by decide +kernel) (by decide +kernel)
theorem qA_X1 : Cond.instantiable RX1 5 ∈ TB := tb_of 177 (by decide +kernel) (by decide +kernel)
theorem qM_X12_46 : Cond.methodLinkNest RX12 46 yX1_init RX12 ∈ NB := nb_of 178 (by decide +kernel) (by decide +kernel)
theorem qI_X1_init : Cond.instanceMethod yX1_init ∈ TB := tb_of 179 (by decide +kernel) (by decide +kernel)
theorem qC_X1_init : Cond.code yX1_init cX1_init 1 (none : Option Jvm.ClassFile.FieldType) ∈ TB := tb_of 180 (by decide +kernel) (by decide +kernel)
theorem qM_X1_3 : Cond.methodLink RX1 3 ⟨"java/lang/Object", "<init>", "()V"⟩ ∈ TB := tb_of 181 (by decide +kernel) (by decide +kernel)
theorem qF_X1_9 : Cond.fieldLink RX1 9 RX1 "requests" "[I" ∈ TB := tb_of 182 (by decide +kernel) (by decide +kernel)
theorem qF_X1_15 : Cond.fieldLink RX1 15 RX1 "finished" "[Z" ∈ TB := tb_of 183 (by decide +kernel) (by decide +kernel)
theorem qF_X1_19 : Cond.fieldLink RX1 19 RX1 "given" "[Z" ∈ TB := tb_of 184 (by decide +kernel) (by decide +kernel)
theorem qF_X1_22 : Cond.fieldLink RX1 22 RX1 "chain" "[I" ∈ TB := tb_of 185 (by decide +kernel) (by decide +kernel)
theorem qF_X1_25 : Cond.fieldLink RX1 25 RX1 "chained" "I" ∈ TB := tb_of 186 (by decide +kernel) (by decide +kernel)
theorem qL_X1_requests : Cond.laysFinal RX1 RX1 "requests" "[I" ∈ TB := tb_of 187 (by decide +kernel) (by decide +kernel)
theorem qL_X1_finished : Cond.laysFinal RX1 RX1 "finished" "[Z" ∈ TB := tb_of 189 (by decide +kernel) (by decide +kernel)
theorem qL_X1_given : Cond.laysFinal RX1 RX1 "given" "[Z" ∈ TB := tb_of 191 (by decide +kernel) (by decide +kernel)
theorem qL_X1_chain : Cond.laysFinal RX1 RX1 "chain" "[I" ∈ TB := tb_of 193 (by decide +kernel) (by decide +kernel)
theorem qL_X1_chained : Cond.lays RX1 RX1 "chained" "I" ∈ TB := tb_of 195 (by decide +kernel) (by decide +kernel)
theorem qR_182 : Cond.arrayClass .boolean ∈ TB := tb_of 198 (by decide +kernel) (by decide +kernel)
theorem qK_X12_51 : Cond.classLink RX12 51 RX6 ∈ TB := tb_of 199 (by decide +kernel) (by decide +kernel)
theorem qA_X6 : Cond.instantiable RX6 3 ∈ TB := tb_of 200 (by decide +kernel) (by decide +kernel)
theorem qM_X12_53 : Cond.methodLinkNest RX12 53 yX6_init RX12 ∈ NB := nb_of 201 (by decide +kernel) (by decide +kernel)
theorem qI_X6_init : Cond.instanceMethod yX6_init ∈ TB := tb_of 202 (by decide +kernel) (by decide +kernel)
theorem qC_X6_init : Cond.code yX6_init cX6_init 1 (none : Option Jvm.ClassFile.FieldType) ∈ TB := tb_of 203 (by decide +kernel) (by decide +kernel)
theorem qM_X6_3 : Cond.methodLink RX6 3 ⟨"java/lang/Object", "<init>", "()V"⟩ ∈ TB := tb_of 204 (by decide +kernel) (by decide +kernel)
theorem qF_X6_9 : Cond.fieldLink RX6 9 RX6 "leastSums" "[I" ∈ TB := tb_of 205 (by decide +kernel) (by decide +kernel)
theorem qF_X6_15 : Cond.fieldLink RX6 15 RX6 "size" "I" ∈ TB := tb_of 206 (by decide +kernel) (by decide +kernel)
theorem qF_X6_19 : Cond.fieldLink RX6 19 RX6 "rankSum" "I" ∈ TB := tb_of 207 (by decide +kernel) (by decide +kernel)
theorem qL_X6_leastSums : Cond.laysFinal RX6 RX6 "leastSums" "[I" ∈ TB := tb_of 208 (by decide +kernel) (by decide +kernel)
theorem qL_X6_size : Cond.lays RX6 RX6 "size" "I" ∈ TB := tb_of 210 (by decide +kernel) (by decide +kernel)
theorem qL_X6_rankSum : Cond.lays RX6 RX6 "rankSum" "I" ∈ TB := tb_of 212 (by decide +kernel) (by decide +kernel)
theorem qK_X12_58 : Cond.classLink RX12 58 RX7 ∈ TB := tb_of 215 (by decide +kernel) (by decide +kernel)
theorem qA_X7 : Cond.instantiable RX7 3 ∈ TB := tb_of 216 (by decide +kernel) (by decide +kernel)
theorem qM_X12_60 : Cond.methodLinkNest RX12 60 yX7_init RX12 ∈ NB := nb_of 217 (by decide +kernel) (by decide +kernel)
theorem qI_X7_init : Cond.instanceMethod yX7_init ∈ TB := tb_of 218 (by decide +kernel) (by decide +kernel)
theorem qC_X7_init : Cond.code yX7_init cX7_init 1 (none : Option Jvm.ClassFile.FieldType) ∈ TB := tb_of 219 (by decide +kernel) (by decide +kernel)
theorem qM_X7_3 : Cond.methodLink RX7 3 ⟨"java/lang/Object", "<init>", "()V"⟩ ∈ TB := tb_of 220 (by decide +kernel) (by decide +kernel)
theorem qK_X7_9 : Cond.classLink RX7 9 RX10 ∈ TB := tb_of 221 (by decide +kernel) (by decide +kernel)
theorem qA_X10 : Cond.instantiable RX10 6 ∈ TB := tb_of 222 (by decide +kernel) (by decide +kernel)
theorem qM_X7_11 : Cond.methodLinkNest RX7 11 yX10_init RX12 ∈ NB := nb_of 223 (by decide +kernel) (by decide +kernel)
theorem qI_X10_init : Cond.instanceMethod yX10_init ∈ TB := tb_of 224 (by decide +kernel) (by decide +kernel)
theorem qC_X10_init : Cond.code yX10_init cX10_init 1 (none : Option Jvm.ClassFile.FieldType) ∈ TB := tb_of 225 (by decide +kernel) (by decide +kernel)
theorem qM_X10_3 : Cond.methodLink RX10 3 ⟨"java/lang/Object", "<init>", "()V"⟩ ∈ TB := tb_of 226 (by decide +kernel) (by decide +kernel)
theorem qK_X10_9 : Cond.classLink RX10 9 RX2 ∈ TB := tb_of 227 (by decide +kernel) (by decide +kernel)
theorem qM_X10_11 : Cond.methodLinkNest RX10 11 yX2_init RX12 ∈ NB := nb_of 228 (by decide +kernel) (by decide +kernel)
theorem qF_X10_12 : Cond.fieldLink RX10 12 RX10 "text" "LStallMarket$ByteText;" ∈ TB := tb_of 229 (by decide +kernel) (by decide +kernel)
theorem qF_X12_73 : Cond.fieldLinkNest RX12 73 RX10 "text" "LStallMarket$ByteText;" RX12 ∈ NB := nb_of 230 (by decide +kernel) (by decide +kernel)
theorem qF_X10_18 : Cond.fieldLink RX10 18 RX10 "kind" "I" ∈ TB := tb_of 231 (by decide +kernel) (by decide +kernel)
theorem qF_X7_42 : Cond.fieldLinkNest RX7 42 RX10 "kind" "I" RX12 ∈ NB := nb_of 232 (by decide +kernel) (by decide +kernel)
theorem qF_X9_78 : Cond.fieldLinkNest RX9 78 RX10 "kind" "I" RX12 ∈ NB := nb_of 233 (by decide +kernel) (by decide +kernel)
theorem qF_X10_22 : Cond.fieldLink RX10 22 RX10 "start" "I" ∈ TB := tb_of 234 (by decide +kernel) (by decide +kernel)
theorem qF_X7_28 : Cond.fieldLinkNest RX7 28 RX10 "start" "I" RX12 ∈ NB := nb_of 235 (by decide +kernel) (by decide +kernel)
theorem qF_X10_25 : Cond.fieldLink RX10 25 RX10 "end" "I" ∈ TB := tb_of 236 (by decide +kernel) (by decide +kernel)
theorem qF_X10_28 : Cond.fieldLink RX10 28 RX10 "number" "I" ∈ TB := tb_of 237 (by decide +kernel) (by decide +kernel)
theorem qF_X7_45 : Cond.fieldLinkNest RX7 45 RX10 "number" "I" RX12 ∈ NB := nb_of 238 (by decide +kernel) (by decide +kernel)
theorem qF_X10_31 : Cond.fieldLink RX10 31 RX10 "name" "J" ∈ TB := tb_of 239 (by decide +kernel) (by decide +kernel)
theorem qF_X9_56 : Cond.fieldLinkNest RX9 56 RX10 "name" "J" RX12 ∈ NB := nb_of 240 (by decide +kernel) (by decide +kernel)
theorem qF_X7_48 : Cond.fieldLinkNest RX7 48 RX10 "name" "J" RX12 ∈ NB := nb_of 241 (by decide +kernel) (by decide +kernel)
theorem qL_X10_text : Cond.laysFinal RX10 RX10 "text" "LStallMarket$ByteText;" ∈ TB := tb_of 242 (by decide +kernel) (by decide +kernel)
theorem qL_X10_kind : Cond.lays RX10 RX10 "kind" "I" ∈ TB := tb_of 244 (by decide +kernel) (by decide +kernel)
theorem qL_X10_start : Cond.lays RX10 RX10 "start" "I" ∈ TB := tb_of 246 (by decide +kernel) (by decide +kernel)
theorem qL_X10_end : Cond.lays RX10 RX10 "end" "I" ∈ TB := tb_of 248 (by decide +kernel) (by decide +kernel)
theorem qL_X10_number : Cond.lays RX10 RX10 "number" "I" ∈ TB := tb_of 250 (by decide +kernel) (by decide +kernel)
theorem qL_X10_name : Cond.lays RX10 RX10 "name" "J" ∈ TB := tb_of 252 (by decide +kernel) (by decide +kernel)
theorem qF_X7_12 : Cond.fieldLink RX7 12 RX7 "tokens" "LStallMarket$Tokens;" ∈ TB := tb_of 255 (by decide +kernel) (by decide +kernel)
theorem qF_X12_69 : Cond.fieldLinkNest RX12 69 RX7 "tokens" "LStallMarket$Tokens;" RX12 ∈ NB := nb_of 256 (by decide +kernel) (by decide +kernel)
theorem qF_X9_38 : Cond.fieldLinkNest RX9 38 RX7 "tokens" "LStallMarket$Tokens;" RX12 ∈ NB := nb_of 257 (by decide +kernel) (by decide +kernel)
theorem qF_X7_18 : Cond.fieldLink RX7 18 RX7 "code" "I" ∈ TB := tb_of 258 (by decide +kernel) (by decide +kernel)
theorem qF_X7_22 : Cond.fieldLink RX7 22 RX7 "position" "I" ∈ TB := tb_of 259 (by decide +kernel) (by decide +kernel)
theorem qL_X7_tokens : Cond.laysFinal RX7 RX7 "tokens" "LStallMarket$Tokens;" ∈ TB := tb_of 260 (by decide +kernel) (by decide +kernel)
theorem qL_X7_code : Cond.lays RX7 RX7 "code" "I" ∈ TB := tb_of 262 (by decide +kernel) (by decide +kernel)
theorem qL_X7_position : Cond.lays RX7 RX7 "position" "I" ∈ TB := tb_of 264 (by decide +kernel) (by decide +kernel)
theorem qM_X12_63 : Cond.methodLink RX12 63 yJ0_length_8abf5 ∈ TB := tb_of 268 (by decide +kernel) (by decide +kernel)
theorem qI_J0_length_8abf5 : Cond.instanceMethod yJ0_length_8abf5 ∈ TB := tb_of 269 (by decide +kernel) (by decide +kernel)
theorem qS_J0_length_8abf5 : Cond.selects RJ0 yJ0_length_8abf5 yJ0_length_8abf5 ∈ TB := tb_of 270 (by decide +kernel) (by decide +kernel)
theorem qC_J0_length_8abf5 : Cond.code yJ0_length_8abf5 cJ0_length_8abf5 1 (some .int) ∈ TB := tb_of 271 (by decide +kernel) (by decide +kernel)
theorem qM_J0_335 : Cond.methodLink RJ0 335 yJ0_coder_7d493 ∈ TB := tb_of 272 (by decide +kernel) (by decide +kernel)
theorem qI_J0_coder_7d493 : Cond.instanceMethod yJ0_coder_7d493 ∈ TB := tb_of 273 (by decide +kernel) (by decide +kernel)
theorem qS_J0_coder_7d493 : Cond.selects RJ0 yJ0_coder_7d493 yJ0_coder_7d493 ∈ TB := tb_of 274 (by decide +kernel) (by decide +kernel)
theorem qC_J0_coder_7d493 : Cond.code yJ0_coder_7d493 cJ0_coder_7d493 1 (some .byte) ∈ TB := tb_of 275 (by decide +kernel) (by decide +kernel)
theorem qF_J0_38 : Cond.fieldLink RJ0 38 RJ0 "COMPACT_STRINGS" "Z" ∈ TB := tb_of 276 (by decide +kernel) (by decide +kernel)
theorem qM_X12_78 : Cond.methodLink RX12 78 yJ0_charAt_5068e ∈ TB := tb_of 278 (by decide +kernel) (by decide +kernel)
theorem qI_J0_charAt_5068e : Cond.instanceMethod yJ0_charAt_5068e ∈ TB := tb_of 279 (by decide +kernel) (by decide +kernel)
theorem qS_J0_charAt_5068e : Cond.selects RJ0 yJ0_charAt_5068e yJ0_charAt_5068e ∈ TB := tb_of 280 (by decide +kernel) (by decide +kernel)
theorem qC_J0_charAt_5068e : Cond.code yJ0_charAt_5068e cJ0_charAt_5068e 2 (some .char) ∈ TB := tb_of 281 (by decide +kernel) (by decide +kernel)
theorem qM_J0_492 : Cond.methodLink RJ0 492 yJ0_isLatin1_aae02 ∈ TB := tb_of 282 (by decide +kernel) (by decide +kernel)
theorem qI_J0_isLatin1_aae02 : Cond.instanceMethod yJ0_isLatin1_aae02 ∈ TB := tb_of 283 (by decide +kernel) (by decide +kernel)
theorem qS_J0_isLatin1_aae02 : Cond.selects RJ0 yJ0_isLatin1_aae02 yJ0_isLatin1_aae02 ∈ TB := tb_of 284 (by decide +kernel) (by decide +kernel)
theorem qC_J0_isLatin1_aae02 : Cond.code yJ0_isLatin1_aae02 cJ0_isLatin1_aae02 1 (some .boolean) ∈ TB := tb_of 285 (by decide +kernel) (by decide +kernel)
theorem qM_J0_495 : Cond.methodLink RJ0 495 yJ1_charAt_3b067 ∈ TB := tb_of 286 (by decide +kernel) (by decide +kernel)
theorem qT_J1_charAt_3b067 : Cond.static yJ1_charAt_3b067 ∈ TB := tb_of 287 (by decide +kernel) (by decide +kernel)
theorem qC_J1_charAt_3b067 : Cond.code yJ1_charAt_3b067 cJ1_charAt_3b067 2 (some .char) ∈ TB := tb_of 288 (by decide +kernel) (by decide +kernel)
theorem qM_J1_9 : Cond.methodLink RJ1 9 yJ0_checkIndex_df160 ∈ TB := tb_of 289 (by decide +kernel) (by decide +kernel)
theorem qT_J0_checkIndex_df160 : Cond.static yJ0_checkIndex_df160 ∈ TB := tb_of 290 (by decide +kernel) (by decide +kernel)
theorem qC_J0_checkIndex_df160 : Cond.code yJ0_checkIndex_df160 cJ0_checkIndex_df160 2 (none : Option Jvm.ClassFile.FieldType) ∈ TB := tb_of 291 (by decide +kernel) (by decide +kernel)
theorem qF_J0_1053 : Cond.fieldLink RJ0 1053 RJ3 "SIOOBE_FORMATTER" "Ljava/util/function/BiFunction;" ∈ TB := tb_of 292 (by decide +kernel) (by decide +kernel)
theorem qM_J0_1059 : Cond.methodLink RJ0 1059 yJ3_checkIndex_8e157 ∈ TB := tb_of 294 (by decide +kernel) (by decide +kernel)
theorem qT_J3_checkIndex_8e157 : Cond.static yJ3_checkIndex_8e157 ∈ TB := tb_of 295 (by decide +kernel) (by decide +kernel)
theorem qC_J3_checkIndex_8e157 : Cond.code yJ3_checkIndex_8e157 cJ3_checkIndex_8e157 3 (some .int) ∈ TB := tb_of 296 (by decide +kernel) (by decide +kernel)
theorem qM_J0_498 : Cond.methodLink RJ0 498 yJ2_charAt_3b067 ∈ TB := tb_of 297 (by decide +kernel) (by decide +kernel)
theorem qT_J2_charAt_3b067 : Cond.static yJ2_charAt_3b067 ∈ TB := tb_of 298 (by decide +kernel) (by decide +kernel)
theorem qC_J2_charAt_3b067 : Cond.code yJ2_charAt_3b067 cJ2_charAt_3b067 2 (some .char) ∈ TB := tb_of 299 (by decide +kernel) (by decide +kernel)
theorem qM_J2_67 : Cond.methodLink RJ2 67 yJ2_checkIndex_2214a ∈ TB := tb_of 300 (by decide +kernel) (by decide +kernel)
theorem qT_J2_checkIndex_2214a : Cond.static yJ2_checkIndex_2214a ∈ TB := tb_of 301 (by decide +kernel) (by decide +kernel)
theorem qC_J2_checkIndex_2214a : Cond.code yJ2_checkIndex_2214a cJ2_checkIndex_2214a 2 (none : Option Jvm.ClassFile.FieldType) ∈ TB := tb_of 302 (by decide +kernel) (by decide +kernel)
theorem qM_J2_48 : Cond.methodLink RJ2 48 yJ2_length_9d52b ∈ TB := tb_of 303 (by decide +kernel) (by decide +kernel)
theorem qT_J2_length_9d52b : Cond.static yJ2_length_9d52b ∈ TB := tb_of 304 (by decide +kernel) (by decide +kernel)
theorem qC_J2_length_9d52b : Cond.code yJ2_length_9d52b cJ2_length_9d52b 1 (some .int) ∈ TB := tb_of 305 (by decide +kernel) (by decide +kernel)
theorem qM_J2_414 : Cond.methodLink RJ2 414 yJ0_checkIndex_df160 ∈ TB := tb_of 306 (by decide +kernel) (by decide +kernel)
theorem qM_J2_71 : Cond.methodLink RJ2 71 yJ2_getChar_3b067 ∈ TB := tb_of 307 (by decide +kernel) (by decide +kernel)
theorem qT_J2_getChar_3b067 : Cond.static yJ2_getChar_3b067 ∈ TB := tb_of 308 (by decide +kernel) (by decide +kernel)
theorem qC_J2_getChar_3b067 : Cond.code yJ2_getChar_3b067 cJ2_getChar_3b067 2 (some .char) ∈ TB := tb_of 309 (by decide +kernel) (by decide +kernel)
theorem qF_J2_44 : Cond.fieldLink RJ2 44 RJ2 "$assertionsDisabled" "Z" ∈ TB := tb_of 310 (by decide +kernel) (by decide +kernel)
theorem qF_J2_59 : Cond.fieldLink RJ2 59 RJ2 "HI_BYTE_SHIFT" "I" ∈ TB := tb_of 312 (by decide +kernel) (by decide +kernel)
theorem qF_J2_63 : Cond.fieldLink RJ2 63 RJ2 "LO_BYTE_SHIFT" "I" ∈ TB := tb_of 314 (by decide +kernel) (by decide +kernel)
theorem qM_X12_82 : Cond.methodLink RX12 82 yX2_add ∈ TB := tb_of 316 (by decide +kernel) (by decide +kernel)
theorem qI_X2_add : Cond.instanceMethod yX2_add ∈ TB := tb_of 317 (by decide +kernel) (by decide +kernel)
theorem qS_X2_add : Cond.selects RX2 yX2_add yX2_add ∈ TB := tb_of 318 (by decide +kernel) (by decide +kernel)
theorem qC_X2_add : Cond.code yX2_add cX2_add 2 (none : Option Jvm.ClassFile.FieldType) ∈ TB := tb_of 319 (by decide +kernel) (by decide +kernel)
theorem qM_X12_86 : Cond.methodLink RX12 86 yX9_read ∈ TB := tb_of 320 (by decide +kernel) (by decide +kernel)
theorem qT_X9_read : Cond.static yX9_read ∈ TB := tb_of 321 (by decide +kernel) (by decide +kernel)
theorem qC_X9_read : Cond.code yX9_read cX9_read 2 (some .boolean) ∈ TB := tb_of 322 (by decide +kernel) (by decide +kernel)
theorem qM_X9_9 : Cond.methodLink RX9 9 yX5_clear ∈ TB := tb_of 323 (by decide +kernel) (by decide +kernel)
theorem qI_X5_clear : Cond.instanceMethod yX5_clear ∈ TB := tb_of 324 (by decide +kernel) (by decide +kernel)
theorem qS_X5_clear : Cond.selects RX5 yX5_clear yX5_clear ∈ TB := tb_of 325 (by decide +kernel) (by decide +kernel)
theorem qC_X5_clear : Cond.code yX5_clear cX5_clear 1 (none : Option Jvm.ClassFile.FieldType) ∈ TB := tb_of 326 (by decide +kernel) (by decide +kernel)
theorem qM_X9_14 : Cond.methodLink RX9 14 yX7_begin ∈ TB := tb_of 327 (by decide +kernel) (by decide +kernel)
theorem qI_X7_begin : Cond.instanceMethod yX7_begin ∈ TB := tb_of 328 (by decide +kernel) (by decide +kernel)
theorem qS_X7_begin : Cond.selects RX7 yX7_begin yX7_begin ∈ TB := tb_of 329 (by decide +kernel) (by decide +kernel)
theorem qC_X7_begin : Cond.code yX7_begin cX7_begin 1 (none : Option Jvm.ClassFile.FieldType) ∈ TB := tb_of 330 (by decide +kernel) (by decide +kernel)
theorem qM_X7_25 : Cond.methodLink RX7 25 yX10_rewind ∈ TB := tb_of 331 (by decide +kernel) (by decide +kernel)
theorem qI_X10_rewind : Cond.instanceMethod yX10_rewind ∈ TB := tb_of 332 (by decide +kernel) (by decide +kernel)
theorem qS_X10_rewind : Cond.selects RX10 yX10_rewind yX10_rewind ∈ TB := tb_of 333 (by decide +kernel) (by decide +kernel)
theorem qC_X10_rewind : Cond.code yX10_rewind cX10_rewind 1 (none : Option Jvm.ClassFile.FieldType) ∈ TB := tb_of 334 (by decide +kernel) (by decide +kernel)
theorem qM_X10_35 : Cond.methodLink RX10 35 yX10_next ∈ TB := tb_of 335 (by decide +kernel) (by decide +kernel)
theorem qI_X10_next : Cond.instanceMethod yX10_next ∈ TB := tb_of 336 (by decide +kernel) (by decide +kernel)
theorem qS_X10_next : Cond.selects RX10 yX10_next yX10_next ∈ TB := tb_of 337 (by decide +kernel) (by decide +kernel)
theorem qC_X10_next : Cond.code yX10_next cX10_next 2 (none : Option Jvm.ClassFile.FieldType) ∈ TB := tb_of 338 (by decide +kernel) (by decide +kernel)
theorem qM_X10_41 : Cond.methodLink RX10 41 yX2_byteAt ∈ TB := tb_of 339 (by decide +kernel) (by decide +kernel)
theorem qI_X2_byteAt : Cond.instanceMethod yX2_byteAt ∈ TB := tb_of 340 (by decide +kernel) (by decide +kernel)
theorem qS_X2_byteAt : Cond.selects RX2 yX2_byteAt yX2_byteAt ∈ TB := tb_of 341 (by decide +kernel) (by decide +kernel)
theorem qC_X2_byteAt : Cond.code yX2_byteAt cX2_byteAt 2 (some .int) ∈ TB := tb_of 342 (by decide +kernel) (by decide +kernel)
theorem qM_X10_45 : Cond.methodLink RX10 45 yX10_isLetter ∈ TB := tb_of 343 (by decide +kernel) (by decide +kernel)
theorem qT_X10_isLetter : Cond.static yX10_isLetter ∈ TB := tb_of 344 (by decide +kernel) (by decide +kernel)
theorem qC_X10_isLetter : Cond.code yX10_isLetter cX10_isLetter 1 (some .boolean) ∈ TB := tb_of 345 (by decide +kernel) (by decide +kernel)
theorem qM_X10_49 : Cond.methodLink RX10 49 yX10_readWord ∈ TB := tb_of 346 (by decide +kernel) (by decide +kernel)
theorem qI_X10_readWord : Cond.instanceMethod yX10_readWord ∈ TB := tb_of 348 (by decide +kernel) (by decide +kernel)
theorem qC_X10_readWord : Cond.code yX10_readWord cX10_readWord 1 (none : Option Jvm.ClassFile.FieldType) ∈ TB := tb_of 349 (by decide +kernel) (by decide +kernel)
theorem qM_X10_52 : Cond.methodLink RX10 52 yX10_isDigit ∈ TB := tb_of 350 (by decide +kernel) (by decide +kernel)
theorem qT_X10_isDigit : Cond.static yX10_isDigit ∈ TB := tb_of 351 (by decide +kernel) (by decide +kernel)
theorem qC_X10_isDigit : Cond.code yX10_isDigit cX10_isDigit 1 (some .boolean) ∈ TB := tb_of 352 (by decide +kernel) (by decide +kernel)
theorem qM_X10_55 : Cond.methodLink RX10 55 yX10_readNumber ∈ TB := tb_of 353 (by decide +kernel) (by decide +kernel)
theorem qI_X10_readNumber : Cond.instanceMethod yX10_readNumber ∈ TB := tb_of 355 (by decide +kernel) (by decide +kernel)
theorem qC_X10_readNumber : Cond.code yX10_readNumber cX10_readNumber 1 (none : Option Jvm.ClassFile.FieldType) ∈ TB := tb_of 356 (by decide +kernel) (by decide +kernel)
theorem qM_X9_21 : Cond.methodLink RX9 21 yX7_takeWord ∈ TB := tb_of 358 (by decide +kernel) (by decide +kernel)
theorem qI_X7_takeWord : Cond.instanceMethod yX7_takeWord ∈ TB := tb_of 359 (by decide +kernel) (by decide +kernel)
theorem qS_X7_takeWord : Cond.selects RX7 yX7_takeWord yX7_takeWord ∈ TB := tb_of 360 (by decide +kernel) (by decide +kernel)
theorem qC_X7_takeWord : Cond.code yX7_takeWord cX7_takeWord 2 (some .boolean) ∈ TB := tb_of 361 (by decide +kernel) (by decide +kernel)
theorem qM_X7_31 : Cond.methodLink RX7 31 yX10_isWord ∈ TB := tb_of 362 (by decide +kernel) (by decide +kernel)
theorem qI_X10_isWord : Cond.instanceMethod yX10_isWord ∈ TB := tb_of 363 (by decide +kernel) (by decide +kernel)
theorem qS_X10_isWord : Cond.selects RX10 yX10_isWord yX10_isWord ∈ TB := tb_of 364 (by decide +kernel) (by decide +kernel)
theorem qC_X10_isWord : Cond.code yX10_isWord cX10_isWord 3 (some .boolean) ∈ TB := tb_of 365 (by decide +kernel) (by decide +kernel)
theorem qM_X10_58 : Cond.methodLink RX10 58 yJ0_length_8abf5 ∈ TB := tb_of 366 (by decide +kernel) (by decide +kernel)
theorem qM_X10_63 : Cond.methodLink RX10 63 yJ0_charAt_5068e ∈ TB := tb_of 367 (by decide +kernel) (by decide +kernel)
theorem qM_X7_35 : Cond.methodLink RX7 35 yX7_fail ∈ TB := tb_of 368 (by decide +kernel) (by decide +kernel)
theorem qI_X7_fail : Cond.instanceMethod yX7_fail ∈ TB := tb_of 369 (by decide +kernel) (by decide +kernel)
theorem qS_X7_fail : Cond.selects RX7 yX7_fail yX7_fail ∈ TB := tb_of 370 (by decide +kernel) (by decide +kernel)
theorem qC_X7_fail : Cond.code yX7_fail cX7_fail 2 (some .boolean) ∈ TB := tb_of 371 (by decide +kernel) (by decide +kernel)
theorem qM_X7_39 : Cond.methodLink RX7 39 yX10_next ∈ TB := tb_of 372 (by decide +kernel) (by decide +kernel)
theorem qM_X9_25 : Cond.methodLink RX9 25 yX7_takeSemicolon ∈ TB := tb_of 373 (by decide +kernel) (by decide +kernel)
theorem qI_X7_takeSemicolon : Cond.instanceMethod yX7_takeSemicolon ∈ TB := tb_of 374 (by decide +kernel) (by decide +kernel)
theorem qS_X7_takeSemicolon : Cond.selects RX7 yX7_takeSemicolon yX7_takeSemicolon ∈ TB := tb_of 375 (by decide +kernel) (by decide +kernel)
theorem qC_X7_takeSemicolon : Cond.code yX7_takeSemicolon cX7_takeSemicolon 1 (some .boolean) ∈ TB := tb_of 376 (by decide +kernel) (by decide +kernel)
theorem qM_X9_29 : Cond.methodLink RX9 29 yX9_readStalls ∈ TB := tb_of 377 (by decide +kernel) (by decide +kernel)
theorem qT_X9_readStalls : Cond.static yX9_readStalls ∈ TB := tb_of 378 (by decide +kernel) (by decide +kernel)
theorem qC_X9_readStalls : Cond.code yX9_readStalls cX9_readStalls 3 (some .boolean) ∈ TB := tb_of 379 (by decide +kernel) (by decide +kernel)
theorem qM_X9_44 : Cond.methodLink RX9 44 yX10_isWord ∈ TB := tb_of 381 (by decide +kernel) (by decide +kernel)
theorem qM_X9_49 : Cond.methodLink RX9 49 yX9_readStall ∈ TB := tb_of 382 (by decide +kernel) (by decide +kernel)
theorem qT_X9_readStall : Cond.static yX9_readStall ∈ TB := tb_of 383 (by decide +kernel) (by decide +kernel)
theorem qC_X9_readStall : Cond.code yX9_readStall cX9_readStall 6 (some .boolean) ∈ TB := tb_of 384 (by decide +kernel) (by decide +kernel)
theorem qM_X9_62 : Cond.methodLink RX9 62 yX5_stallCalled ∈ TB := tb_of 386 (by decide +kernel) (by decide +kernel)
theorem qI_X5_stallCalled : Cond.instanceMethod yX5_stallCalled ∈ TB := tb_of 387 (by decide +kernel) (by decide +kernel)
theorem qS_X5_stallCalled : Cond.selects RX5 yX5_stallCalled yX5_stallCalled ∈ TB := tb_of 388 (by decide +kernel) (by decide +kernel)
theorem qC_X5_stallCalled : Cond.code yX5_stallCalled cX5_stallCalled 4 (some .int) ∈ TB := tb_of 389 (by decide +kernel) (by decide +kernel)
theorem qM_X9_66 : Cond.methodLink RX9 66 yX9_takeNewName ∈ TB := tb_of 390 (by decide +kernel) (by decide +kernel)
theorem qT_X9_takeNewName : Cond.static yX9_takeNewName ∈ TB := tb_of 391 (by decide +kernel) (by decide +kernel)
theorem qC_X9_takeNewName : Cond.code yX9_takeNewName cX9_takeNewName 2 (some .boolean) ∈ TB := tb_of 392 (by decide +kernel) (by decide +kernel)
theorem qM_X9_52 : Cond.methodLink RX9 52 yX7_fail ∈ TB := tb_of 393 (by decide +kernel) (by decide +kernel)
theorem qM_X9_82 : Cond.methodLink RX9 82 yX10_next ∈ TB := tb_of 394 (by decide +kernel) (by decide +kernel)
theorem qM_X9_70 : Cond.methodLink RX9 70 yX7_takeNumber ∈ TB := tb_of 395 (by decide +kernel) (by decide +kernel)
theorem qI_X7_takeNumber : Cond.instanceMethod yX7_takeNumber ∈ TB := tb_of 396 (by decide +kernel) (by decide +kernel)
theorem qS_X7_takeNumber : Cond.selects RX7 yX7_takeNumber yX7_takeNumber ∈ TB := tb_of 397 (by decide +kernel) (by decide +kernel)
theorem qC_X7_takeNumber : Cond.code yX7_takeNumber cX7_takeNumber 4 (some .int) ∈ TB := tb_of 398 (by decide +kernel) (by decide +kernel)
theorem qM_X9_74 : Cond.methodLink RX9 74 yX5_addStall ∈ TB := tb_of 399 (by decide +kernel) (by decide +kernel)
theorem qI_X5_addStall : Cond.instanceMethod yX5_addStall ∈ TB := tb_of 400 (by decide +kernel) (by decide +kernel)
theorem qS_X5_addStall : Cond.selects RX5 yX5_addStall yX5_addStall ∈ TB := tb_of 401 (by decide +kernel) (by decide +kernel)
theorem qC_X5_addStall : Cond.code yX5_addStall cX5_addStall 4 (none : Option Jvm.ClassFile.FieldType) ∈ TB := tb_of 402 (by decide +kernel) (by decide +kernel)
theorem qM_X9_35 : Cond.methodLink RX9 35 yX9_readSellers ∈ TB := tb_of 403 (by decide +kernel) (by decide +kernel)
theorem qT_X9_readSellers : Cond.static yX9_readSellers ∈ TB := tb_of 404 (by decide +kernel) (by decide +kernel)
theorem qC_X9_readSellers : Cond.code yX9_readSellers cX9_readSellers 3 (some .boolean) ∈ TB := tb_of 405 (by decide +kernel) (by decide +kernel)
theorem qM_X9_85 : Cond.methodLink RX9 85 yX9_readSeller ∈ TB := tb_of 406 (by decide +kernel) (by decide +kernel)
theorem qT_X9_readSeller : Cond.static yX9_readSeller ∈ TB := tb_of 407 (by decide +kernel) (by decide +kernel)
theorem qC_X9_readSeller : Cond.code yX9_readSeller cX9_readSeller 7 (some .boolean) ∈ TB := tb_of 408 (by decide +kernel) (by decide +kernel)
theorem qM_X9_90 : Cond.methodLink RX9 90 yX5_sellerCalled ∈ TB := tb_of 410 (by decide +kernel) (by decide +kernel)
theorem qI_X5_sellerCalled : Cond.instanceMethod yX5_sellerCalled ∈ TB := tb_of 411 (by decide +kernel) (by decide +kernel)
theorem qS_X5_sellerCalled : Cond.selects RX5 yX5_sellerCalled yX5_sellerCalled ∈ TB := tb_of 412 (by decide +kernel) (by decide +kernel)
theorem qC_X5_sellerCalled : Cond.code yX5_sellerCalled cX5_sellerCalled 4 (some .int) ∈ TB := tb_of 413 (by decide +kernel) (by decide +kernel)
theorem qM_X9_96 : Cond.methodLink RX9 96 yX5_addSeller ∈ TB := tb_of 414 (by decide +kernel) (by decide +kernel)
theorem qI_X5_addSeller : Cond.instanceMethod yX5_addSeller ∈ TB := tb_of 415 (by decide +kernel) (by decide +kernel)
theorem qS_X5_addSeller : Cond.selects RX5 yX5_addSeller yX5_addSeller ∈ TB := tb_of 416 (by decide +kernel) (by decide +kernel)
theorem qC_X5_addSeller : Cond.code yX5_addSeller cX5_addSeller 5 (none : Option Jvm.ClassFile.FieldType) ∈ TB := tb_of 417 (by decide +kernel) (by decide +kernel)
theorem qM_X9_100 : Cond.methodLink RX9 100 yX9_readWishes ∈ TB := tb_of 418 (by decide +kernel) (by decide +kernel)
theorem qT_X9_readWishes : Cond.static yX9_readWishes ∈ TB := tb_of 419 (by decide +kernel) (by decide +kernel)
theorem qC_X9_readWishes : Cond.code yX9_readWishes cX9_readWishes 5 (some .boolean) ∈ TB := tb_of 420 (by decide +kernel) (by decide +kernel)
theorem qM_X9_107 : Cond.methodLink RX9 107 yX7_seeStall ∈ TB := tb_of 421 (by decide +kernel) (by decide +kernel)
theorem qI_X7_seeStall : Cond.instanceMethod yX7_seeStall ∈ TB := tb_of 422 (by decide +kernel) (by decide +kernel)
theorem qS_X7_seeStall : Cond.selects RX7 yX7_seeStall yX7_seeStall ∈ TB := tb_of 423 (by decide +kernel) (by decide +kernel)
theorem qC_X7_seeStall : Cond.code yX7_seeStall cX7_seeStall 3 (some .int) ∈ TB := tb_of 424 (by decide +kernel) (by decide +kernel)
theorem qM_X7_60 : Cond.methodLink RX7 60 yX5_stallCalled ∈ TB := tb_of 426 (by decide +kernel) (by decide +kernel)
theorem qM_X9_111 : Cond.methodLink RX9 111 yX5_rankIn ∈ TB := tb_of 427 (by decide +kernel) (by decide +kernel)
theorem qI_X5_rankIn : Cond.instanceMethod yX5_rankIn ∈ TB := tb_of 428 (by decide +kernel) (by decide +kernel)
theorem qS_X5_rankIn : Cond.selects RX5 yX5_rankIn yX5_rankIn ∈ TB := tb_of 429 (by decide +kernel) (by decide +kernel)
theorem qC_X5_rankIn : Cond.code yX5_rankIn cX5_rankIn 4 (some .int) ∈ TB := tb_of 430 (by decide +kernel) (by decide +kernel)
theorem qM_X9_114 : Cond.methodLink RX9 114 yX5_wishLast ∈ TB := tb_of 431 (by decide +kernel) (by decide +kernel)
theorem qI_X5_wishLast : Cond.instanceMethod yX5_wishLast ∈ TB := tb_of 432 (by decide +kernel) (by decide +kernel)
theorem qS_X5_wishLast : Cond.selects RX5 yX5_wishLast yX5_wishLast ∈ TB := tb_of 433 (by decide +kernel) (by decide +kernel)
theorem qC_X5_wishLast : Cond.code yX5_wishLast cX5_wishLast 4 (none : Option Jvm.ClassFile.FieldType) ∈ TB := tb_of 434 (by decide +kernel) (by decide +kernel)
theorem qM_X5_102 : Cond.methodLink RX5 102 yX5_wishesOf ∈ TB := tb_of 435 (by decide +kernel) (by decide +kernel)
theorem qI_X5_wishesOf : Cond.instanceMethod yX5_wishesOf ∈ TB := tb_of 436 (by decide +kernel) (by decide +kernel)
theorem qS_X5_wishesOf : Cond.selects RX5 yX5_wishesOf yX5_wishesOf ∈ TB := tb_of 437 (by decide +kernel) (by decide +kernel)
theorem qC_X5_wishesOf : Cond.code yX5_wishesOf cX5_wishesOf 2 (some .int) ∈ TB := tb_of 438 (by decide +kernel) (by decide +kernel)
theorem qM_X5_68 : Cond.methodLink RX5 68 yX5_hasSeller ∈ TB := tb_of 439 (by decide +kernel) (by decide +kernel)
theorem qI_X5_hasSeller : Cond.instanceMethod yX5_hasSeller ∈ TB := tb_of 441 (by decide +kernel) (by decide +kernel)
theorem qC_X5_hasSeller : Cond.code yX5_hasSeller cX5_hasSeller 2 (some .boolean) ∈ TB := tb_of 442 (by decide +kernel) (by decide +kernel)
theorem qM_X9_104 : Cond.methodLink RX9 104 yX9_readPlace ∈ TB := tb_of 443 (by decide +kernel) (by decide +kernel)
theorem qT_X9_readPlace : Cond.static yX9_readPlace ∈ TB := tb_of 444 (by decide +kernel) (by decide +kernel)
theorem qC_X9_readPlace : Cond.code yX9_readPlace cX9_readPlace 4 (some .boolean) ∈ TB := tb_of 445 (by decide +kernel) (by decide +kernel)
theorem qM_X9_118 : Cond.methodLink RX9 118 yX5_holderOf ∈ TB := tb_of 446 (by decide +kernel) (by decide +kernel)
theorem qI_X5_holderOf : Cond.instanceMethod yX5_holderOf ∈ TB := tb_of 447 (by decide +kernel) (by decide +kernel)
theorem qS_X5_holderOf : Cond.selects RX5 yX5_holderOf yX5_holderOf ∈ TB := tb_of 448 (by decide +kernel) (by decide +kernel)
theorem qC_X5_holderOf : Cond.code yX5_holderOf cX5_holderOf 3 (some .int) ∈ TB := tb_of 449 (by decide +kernel) (by decide +kernel)
theorem qM_X9_122 : Cond.methodLink RX9 122 yX5_seat ∈ TB := tb_of 450 (by decide +kernel) (by decide +kernel)
theorem qI_X5_seat : Cond.instanceMethod yX5_seat ∈ TB := tb_of 451 (by decide +kernel) (by decide +kernel)
theorem qS_X5_seat : Cond.selects RX5 yX5_seat yX5_seat ∈ TB := tb_of 452 (by decide +kernel) (by decide +kernel)
theorem qC_X5_seat : Cond.code yX5_seat cX5_seat 3 (none : Option Jvm.ClassFile.FieldType) ∈ TB := tb_of 453 (by decide +kernel) (by decide +kernel)
theorem qM_X12_92 : Cond.methodLink RX12 92 yX2_cut ∈ TB := tb_of 454 (by decide +kernel) (by decide +kernel)
theorem qI_X2_cut : Cond.instanceMethod yX2_cut ∈ TB := tb_of 455 (by decide +kernel) (by decide +kernel)
theorem qS_X2_cut : Cond.selects RX2 yX2_cut yX2_cut ∈ TB := tb_of 456 (by decide +kernel) (by decide +kernel)
theorem qC_X2_cut : Cond.code yX2_cut cX2_cut 2 (none : Option Jvm.ClassFile.FieldType) ∈ TB := tb_of 457 (by decide +kernel) (by decide +kernel)
theorem qF_X12_95 : Cond.fieldLink RX12 95 RX12 "parser" "LStallMarket$Parser;" ∈ TB := tb_of 458 (by decide +kernel) (by decide +kernel)
theorem qF_X12_12 : Cond.fieldLink RX12 12 RX12 "output" "LStallMarket$ByteText;" ∈ TB := tb_of 459 (by decide +kernel) (by decide +kernel)
theorem qF_X12_19 : Cond.fieldLink RX12 19 RX12 "script" "LStallMarket$Script;" ∈ TB := tb_of 460 (by decide +kernel) (by decide +kernel)
theorem qF_X12_99 : Cond.fieldLink RX12 99 RX12 "market" "LStallMarket$Market;" ∈ TB := tb_of 461 (by decide +kernel) (by decide +kernel)
theorem qF_X12_26 : Cond.fieldLink RX12 26 RX12 "scratch" "LStallMarket$Market;" ∈ TB := tb_of 462 (by decide +kernel) (by decide +kernel)
theorem qF_X12_30 : Cond.fieldLink RX12 30 RX12 "saved" "LStallMarket$Market;" ∈ TB := tb_of 463 (by decide +kernel) (by decide +kernel)
theorem qF_X12_33 : Cond.fieldLink RX12 33 RX12 "hasSaved" "Z" ∈ TB := tb_of 464 (by decide +kernel) (by decide +kernel)
theorem qF_X12_40 : Cond.fieldLink RX12 40 RX12 "history" "LStallMarket$History;" ∈ TB := tb_of 465 (by decide +kernel) (by decide +kernel)
theorem qF_X12_47 : Cond.fieldLink RX12 47 RX12 "allocation" "LStallMarket$Allocation;" ∈ TB := tb_of 466 (by decide +kernel) (by decide +kernel)
theorem qF_X12_54 : Cond.fieldLink RX12 54 RX12 "matching" "LStallMarket$Matching;" ∈ TB := tb_of 467 (by decide +kernel) (by decide +kernel)
theorem qL_X12_parser : Cond.laysFinal RX12 RX12 "parser" "LStallMarket$Parser;" ∈ TB := tb_of 468 (by decide +kernel) (by decide +kernel)
theorem qL_X12_output : Cond.laysFinal RX12 RX12 "output" "LStallMarket$ByteText;" ∈ TB := tb_of 470 (by decide +kernel) (by decide +kernel)
theorem qL_X12_script : Cond.laysFinal RX12 RX12 "script" "LStallMarket$Script;" ∈ TB := tb_of 472 (by decide +kernel) (by decide +kernel)
theorem qL_X12_market : Cond.laysFinal RX12 RX12 "market" "LStallMarket$Market;" ∈ TB := tb_of 474 (by decide +kernel) (by decide +kernel)
theorem qL_X12_scratch : Cond.laysFinal RX12 RX12 "scratch" "LStallMarket$Market;" ∈ TB := tb_of 476 (by decide +kernel) (by decide +kernel)
theorem qL_X12_saved : Cond.laysFinal RX12 RX12 "saved" "LStallMarket$Market;" ∈ TB := tb_of 478 (by decide +kernel) (by decide +kernel)
theorem qL_X12_hasSaved : Cond.lays RX12 RX12 "hasSaved" "Z" ∈ TB := tb_of 480 (by decide +kernel) (by decide +kernel)
theorem qL_X12_history : Cond.laysFinal RX12 RX12 "history" "LStallMarket$History;" ∈ TB := tb_of 482 (by decide +kernel) (by decide +kernel)
theorem qL_X12_allocation : Cond.laysFinal RX12 RX12 "allocation" "LStallMarket$Allocation;" ∈ TB := tb_of 484 (by decide +kernel) (by decide +kernel)
theorem qL_X12_matching : Cond.laysFinal RX12 RX12 "matching" "LStallMarket$Matching;" ∈ TB := tb_of 486 (by decide +kernel) (by decide +kernel)
theorem qR_473 : Cond.arrayClass .byte ∈ TB := tb_of 489 (by decide +kernel) (by decide +kernel)
theorem qM_L_66 : Cond.methodLink RL 66 yX12_isEfficient ∈ TB := tb_of 490 (by decide +kernel) (by decide +kernel)
theorem qI_X12_isEfficient : Cond.instanceMethod yX12_isEfficient ∈ TB := tb_of 491 (by decide +kernel) (by decide +kernel)
theorem qS_X12_isEfficient : Cond.selects RX12 yX12_isEfficient yX12_isEfficient ∈ TB := tb_of 492 (by decide +kernel) (by decide +kernel)
theorem qC_X12_isEfficient : Cond.code yX12_isEfficient cX12_isEfficient 1 (some .boolean) ∈ TB := tb_of 493 (by decide +kernel) (by decide +kernel)
theorem qM_X12_246 : Cond.methodLink RX12 246 yX3_canImprove ∈ TB := tb_of 494 (by decide +kernel) (by decide +kernel)
theorem qT_X3_canImprove : Cond.static yX3_canImprove ∈ TB := tb_of 495 (by decide +kernel) (by decide +kernel)
theorem qC_X3_canImprove : Cond.code yX3_canImprove cX3_canImprove 3 (some .boolean) ∈ TB := tb_of 496 (by decide +kernel) (by decide +kernel)
theorem qM_X3_9 : Cond.methodLink RX3 9 yX5_heldBy ∈ TB := tb_of 497 (by decide +kernel) (by decide +kernel)
theorem qI_X5_heldBy : Cond.instanceMethod yX5_heldBy ∈ TB := tb_of 498 (by decide +kernel) (by decide +kernel)
theorem qS_X5_heldBy : Cond.selects RX5 yX5_heldBy yX5_heldBy ∈ TB := tb_of 499 (by decide +kernel) (by decide +kernel)
theorem qC_X5_heldBy : Cond.code yX5_heldBy cX5_heldBy 2 (some .int) ∈ TB := tb_of 500 (by decide +kernel) (by decide +kernel)
theorem qM_X3_15 : Cond.methodLink RX3 15 yX5_ranksAbove ∈ TB := tb_of 501 (by decide +kernel) (by decide +kernel)
theorem qI_X5_ranksAbove : Cond.instanceMethod yX5_ranksAbove ∈ TB := tb_of 502 (by decide +kernel) (by decide +kernel)
theorem qS_X5_ranksAbove : Cond.selects RX5 yX5_ranksAbove yX5_ranksAbove ∈ TB := tb_of 503 (by decide +kernel) (by decide +kernel)
theorem qC_X5_ranksAbove : Cond.code yX5_ranksAbove cX5_ranksAbove 4 (some .boolean) ∈ TB := tb_of 504 (by decide +kernel) (by decide +kernel)
theorem qM_X5_75 : Cond.methodLink RX5 75 yX5_standing ∈ TB := tb_of 505 (by decide +kernel) (by decide +kernel)
theorem qI_X5_standing : Cond.instanceMethod yX5_standing ∈ TB := tb_of 507 (by decide +kernel) (by decide +kernel)
theorem qC_X5_standing : Cond.code yX5_standing cX5_standing 4 (some .int) ∈ TB := tb_of 508 (by decide +kernel) (by decide +kernel)
theorem qM_X5_79 : Cond.methodLink RX5 79 yX5_rankIn ∈ TB := tb_of 509 (by decide +kernel) (by decide +kernel)
theorem qM_X3_46 : Cond.methodLink RX3 46 yX3_bestFreeStall ∈ TB := tb_of 510 (by decide +kernel) (by decide +kernel)
theorem qT_X3_bestFreeStall : Cond.static yX3_bestFreeStall ∈ TB := tb_of 511 (by decide +kernel) (by decide +kernel)
theorem qC_X3_bestFreeStall : Cond.code yX3_bestFreeStall cX3_bestFreeStall 5 (some .int) ∈ TB := tb_of 512 (by decide +kernel) (by decide +kernel)
theorem qM_X3_36 : Cond.methodLink RX3 36 yX5_wishesOf ∈ TB := tb_of 513 (by decide +kernel) (by decide +kernel)
theorem qM_X3_39 : Cond.methodLink RX3 39 yX5_wish ∈ TB := tb_of 514 (by decide +kernel) (by decide +kernel)
theorem qI_X5_wish : Cond.instanceMethod yX5_wish ∈ TB := tb_of 515 (by decide +kernel) (by decide +kernel)
theorem qS_X5_wish : Cond.selects RX5 yX5_wish yX5_wish ∈ TB := tb_of 516 (by decide +kernel) (by decide +kernel)
theorem qC_X5_wish : Cond.code yX5_wish cX5_wish 3 (some .int) ∈ TB := tb_of 517 (by decide +kernel) (by decide +kernel)
theorem qM_X3_43 : Cond.methodLink RX3 43 yX5_holderOf ∈ TB := tb_of 518 (by decide +kernel) (by decide +kernel)
theorem qM_X3_49 : Cond.methodLink RX3 49 yX3_shortestCycle ∈ TB := tb_of 519 (by decide +kernel) (by decide +kernel)
theorem qT_X3_shortestCycle : Cond.static yX3_shortestCycle ∈ TB := tb_of 520 (by decide +kernel) (by decide +kernel)
theorem qC_X3_shortestCycle : Cond.code yX3_shortestCycle cX3_shortestCycle 4 (some .int) ∈ TB := tb_of 521 (by decide +kernel) (by decide +kernel)
theorem qM_X3_32 : Cond.methodLink RX3 32 yX3_wantedByAny ∈ TB := tb_of 522 (by decide +kernel) (by decide +kernel)
theorem qT_X3_wantedByAny : Cond.static yX3_wantedByAny ∈ TB := tb_of 523 (by decide +kernel) (by decide +kernel)
theorem qC_X3_wantedByAny : Cond.code yX3_wantedByAny cX3_wantedByAny 5 (some .int) ∈ TB := tb_of 524 (by decide +kernel) (by decide +kernel)
theorem qM_X3_19 : Cond.methodLink RX3 19 yX3_wantsStallOf ∈ TB := tb_of 525 (by decide +kernel) (by decide +kernel)
theorem qT_X3_wantsStallOf : Cond.static yX3_wantsStallOf ∈ TB := tb_of 526 (by decide +kernel) (by decide +kernel)
theorem qC_X3_wantsStallOf : Cond.code yX3_wantsStallOf cX3_wantsStallOf 4 (some .boolean) ∈ TB := tb_of 527 (by decide +kernel) (by decide +kernel)
theorem qM_L_37 : Cond.methodLink RL 37 yX12_allocatedStall ∈ TB := tb_of 528 (by decide +kernel) (by decide +kernel)
theorem qI_X12_allocatedStall : Cond.instanceMethod yX12_allocatedStall ∈ TB := tb_of 529 (by decide +kernel) (by decide +kernel)
theorem qS_X12_allocatedStall : Cond.selects RX12 yX12_allocatedStall yX12_allocatedStall ∈ TB := tb_of 530 (by decide +kernel) (by decide +kernel)
theorem qC_X12_allocatedStall : Cond.code yX12_allocatedStall cX12_allocatedStall 2 (some .int) ∈ TB := tb_of 531 (by decide +kernel) (by decide +kernel)
theorem qM_X12_151 : Cond.methodLink RX12 151 yX12_requireSeller ∈ TB := tb_of 532 (by decide +kernel) (by decide +kernel)
theorem qI_X12_requireSeller : Cond.instanceMethod yX12_requireSeller ∈ TB := tb_of 534 (by decide +kernel) (by decide +kernel)
theorem qC_X12_requireSeller : Cond.code yX12_requireSeller cX12_requireSeller 2 (none : Option Jvm.ClassFile.FieldType) ∈ TB := tb_of 535 (by decide +kernel) (by decide +kernel)
theorem qK_X12_179 : Cond.classLink RX12 179 "java/lang/IndexOutOfBoundsException" ∈ TB := tb_of 536 (by decide +kernel) (by decide +kernel)
theorem qA_java_lang_IndexOutOfBoundsException : Cond.instantiable "java/lang/IndexOutOfBoundsException" 6 ∈ TB := tb_of 537 (by decide +kernel) (by decide +kernel)
theorem qX_java_lang_IndexOutOfBoundsException_java_lang_IndexOutOfBoundsException : Cond.castable "java/lang/IndexOutOfBoundsException" "java/lang/IndexOutOfBoundsException" ∈ NB := nb_of 538 (by decide +kernel) (by decide +kernel)
theorem qS_java_lang_Throwable_fillInStackTrace__I_Ljava_lang_Throwable__2 : Cond.selects "java/lang/IndexOutOfBoundsException" ⟨"java/lang/Throwable", "fillInStackTrace", "(I)Ljava/lang/Throwable;"⟩ ⟨"java/lang/Throwable", "fillInStackTrace", "(I)Ljava/lang/Throwable;"⟩ ∈ TB := tb_of 545 (by decide +kernel) (by decide +kernel)
theorem qS_java_lang_Throwable_fillInStackTrace___Ljava_lang_Throwable_ : Cond.selects "java/lang/IndexOutOfBoundsException" ⟨"java/lang/Throwable", "fillInStackTrace", "()Ljava/lang/Throwable;"⟩ ⟨"java/lang/Throwable", "fillInStackTrace", "()Ljava/lang/Throwable;"⟩ ∈ TB := tb_of 546 (by decide +kernel) (by decide +kernel)
theorem qL_java_lang_IndexOutOfBoundsException_cause : Cond.lays "java/lang/IndexOutOfBoundsException" "java/lang/Throwable" "cause" "Ljava/lang/Throwable;" ∈ TB := tb_of 547 (by decide +kernel) (by decide +kernel)
theorem qL_java_lang_Throwable_cause : Cond.lays "java/lang/Throwable" "java/lang/Throwable" "cause" "Ljava/lang/Throwable;" ∈ TB := tb_of 548 (by decide +kernel) (by decide +kernel)
theorem qL_java_lang_IndexOutOfBoundsException_stackTrace : Cond.lays "java/lang/IndexOutOfBoundsException" "java/lang/Throwable" "stackTrace" "[Ljava/lang/StackTraceElement;" ∈ TB := tb_of 549 (by decide +kernel) (by decide +kernel)
theorem qL_java_lang_Throwable_stackTrace : Cond.lays "java/lang/Throwable" "java/lang/Throwable" "stackTrace" "[Ljava/lang/StackTraceElement;" ∈ TB := tb_of 550 (by decide +kernel) (by decide +kernel)
theorem qL_java_lang_IndexOutOfBoundsException_suppressedExceptions : Cond.lays "java/lang/IndexOutOfBoundsException" "java/lang/Throwable" "suppressedExceptions" "Ljava/util/List;" ∈ TB := tb_of 551 (by decide +kernel) (by decide +kernel)
theorem qL_java_lang_Throwable_suppressedExceptions : Cond.lays "java/lang/Throwable" "java/lang/Throwable" "suppressedExceptions" "Ljava/util/List;" ∈ TB := tb_of 552 (by decide +kernel) (by decide +kernel)
theorem qL_java_lang_IndexOutOfBoundsException_detailMessage : Cond.lays "java/lang/IndexOutOfBoundsException" "java/lang/Throwable" "detailMessage" "Ljava/lang/String;" ∈ TB := tb_of 553 (by decide +kernel) (by decide +kernel)
theorem qL_java_lang_Throwable_detailMessage : Cond.lays "java/lang/Throwable" "java/lang/Throwable" "detailMessage" "Ljava/lang/String;" ∈ TB := tb_of 554 (by decide +kernel) (by decide +kernel)
theorem qL_java_lang_IndexOutOfBoundsException_backtrace : Cond.lays "java/lang/IndexOutOfBoundsException" "java/lang/Throwable" "backtrace" "Ljava/lang/Object;" ∈ TB := tb_of 555 (by decide +kernel) (by decide +kernel)
theorem qL_java_lang_Throwable_backtrace : Cond.lays "java/lang/Throwable" "java/lang/Throwable" "backtrace" "Ljava/lang/Object;" ∈ TB := tb_of 556 (by decide +kernel) (by decide +kernel)
theorem qF_java_lang_Throwable_198 : Cond.fieldLink "java/lang/Throwable" 198 "java/lang/Throwable" "backtrace" "Ljava/lang/Object;" ∈ TB := tb_of 557 (by decide +kernel) (by decide +kernel)
theorem qI_java_lang_Throwable__init____V : Cond.instanceMethod ⟨"java/lang/Throwable", "<init>", "()V"⟩ ∈ TB := tb_of 559 (by decide +kernel) (by decide +kernel)
theorem qC_java_lang_Throwable__init____V : Cond.code ⟨"java/lang/Throwable", "<init>", "()V"⟩ prog_25_method_1_code 1 (none : Option Jvm.ClassFile.FieldType) ∈ TB := tb_of 560 (by decide +kernel) (by decide +kernel)
theorem qM_java_lang_Throwable_1 : Cond.methodLink "java/lang/Throwable" 1 ⟨"java/lang/Object", "<init>", "()V"⟩ ∈ TB := tb_of 561 (by decide +kernel) (by decide +kernel)
theorem qF_java_lang_Throwable_13 : Cond.fieldLink "java/lang/Throwable" 13 "java/lang/Throwable" "UNASSIGNED_STACK" "[Ljava/lang/StackTraceElement;" ∈ TB := tb_of 562 (by decide +kernel) (by decide +kernel)
theorem qF_java_lang_Throwable_20 : Cond.fieldLink "java/lang/Throwable" 20 "java/lang/Throwable" "SUPPRESSED_SENTINEL" "Ljava/util/List;" ∈ TB := tb_of 564 (by decide +kernel) (by decide +kernel)
theorem qM_java_lang_Throwable_27 : Cond.methodLink "java/lang/Throwable" 27 ⟨"java/lang/Throwable", "fillInStackTrace", "()Ljava/lang/Throwable;"⟩ ∈ TB := tb_of 566 (by decide +kernel) (by decide +kernel)
theorem qI_java_lang_Throwable_fillInStackTrace___Ljava_lang_Throwable_ : Cond.instanceMethod ⟨"java/lang/Throwable", "fillInStackTrace", "()Ljava/lang/Throwable;"⟩ ∈ TB := tb_of 567 (by decide +kernel) (by decide +kernel)
theorem qO_552 : Cond.sameMethod "java/lang/Throwable" "java/lang/Throwable" "fillInStackTrace" "()Ljava/lang/Throwable;" ∈ TB := tb_of 568 (by decide +kernel) (by decide +kernel)
theorem qS_java_lang_Throwable_fillInStackTrace___Ljava_lang_Throwable__2 : Cond.selects "java/lang/IllegalArgumentException" ⟨"java/lang/Throwable", "fillInStackTrace", "()Ljava/lang/Throwable;"⟩ ⟨"java/lang/Throwable", "fillInStackTrace", "()Ljava/lang/Throwable;"⟩ ∈ TB := tb_of 569 (by decide +kernel) (by decide +kernel)
theorem qS_java_lang_Throwable_fillInStackTrace___Ljava_lang_Throwable__3 : Cond.selects "java/lang/IllegalStateException" ⟨"java/lang/Throwable", "fillInStackTrace", "()Ljava/lang/Throwable;"⟩ ⟨"java/lang/Throwable", "fillInStackTrace", "()Ljava/lang/Throwable;"⟩ ∈ TB := tb_of 570 (by decide +kernel) (by decide +kernel)
theorem qM_java_lang_Throwable_202 : Cond.methodLink "java/lang/Throwable" 202 ⟨"java/lang/Throwable", "fillInStackTrace", "(I)Ljava/lang/Throwable;"⟩ ∈ TB := tb_of 572 (by decide +kernel) (by decide +kernel)
theorem qI_java_lang_Throwable_fillInStackTrace__I_Ljava_lang_Throwable_ : Cond.instanceMethod ⟨"java/lang/Throwable", "fillInStackTrace", "(I)Ljava/lang/Throwable;"⟩ ∈ TB := tb_of 574 (by decide +kernel) (by decide +kernel)
theorem qA_java_lang_Throwable : Cond.instantiable "java/lang/Throwable" 6 ∈ TB := tb_of 575 (by decide +kernel) (by decide +kernel)
theorem qM_X12_183 : Cond.methodLink RX12 183 ⟨"java/lang/IndexOutOfBoundsException", "<init>", "(Ljava/lang/String;)V"⟩ ∈ TB := tb_of 578 (by decide +kernel) (by decide +kernel)
theorem qI_java_lang_IndexOutOfBoundsException__init___Ljava_lang_String__V : Cond.instanceMethod ⟨"java/lang/IndexOutOfBoundsException", "<init>", "(Ljava/lang/String;)V"⟩ ∈ TB := tb_of 579 (by decide +kernel) (by decide +kernel)
theorem qC_java_lang_IndexOutOfBoundsException__init___Ljava_lang_String__V : Cond.code ⟨"java/lang/IndexOutOfBoundsException", "<init>", "(Ljava/lang/String;)V"⟩ prog_20_method_2_code 2 (none : Option Jvm.ClassFile.FieldType) ∈ TB := tb_of 580 (by decide +kernel) (by decide +kernel)
theorem qM_java_lang_IndexOutOfBoundsException_7 : Cond.methodLink "java/lang/IndexOutOfBoundsException" 7 ⟨"java/lang/RuntimeException", "<init>", "(Ljava/lang/String;)V"⟩ ∈ TB := tb_of 581 (by decide +kernel) (by decide +kernel)
theorem qI_java_lang_RuntimeException__init___Ljava_lang_String__V : Cond.instanceMethod ⟨"java/lang/RuntimeException", "<init>", "(Ljava/lang/String;)V"⟩ ∈ TB := tb_of 582 (by decide +kernel) (by decide +kernel)
theorem qC_java_lang_RuntimeException__init___Ljava_lang_String__V : Cond.code ⟨"java/lang/RuntimeException", "<init>", "(Ljava/lang/String;)V"⟩ prog_21_method_2_code 2 (none : Option Jvm.ClassFile.FieldType) ∈ TB := tb_of 583 (by decide +kernel) (by decide +kernel)
theorem qM_java_lang_RuntimeException_7 : Cond.methodLink "java/lang/RuntimeException" 7 ⟨"java/lang/Exception", "<init>", "(Ljava/lang/String;)V"⟩ ∈ TB := tb_of 584 (by decide +kernel) (by decide +kernel)
theorem qI_java_lang_Exception__init___Ljava_lang_String__V : Cond.instanceMethod ⟨"java/lang/Exception", "<init>", "(Ljava/lang/String;)V"⟩ ∈ TB := tb_of 585 (by decide +kernel) (by decide +kernel)
theorem qC_java_lang_Exception__init___Ljava_lang_String__V : Cond.code ⟨"java/lang/Exception", "<init>", "(Ljava/lang/String;)V"⟩ prog_17_method_2_code 2 (none : Option Jvm.ClassFile.FieldType) ∈ TB := tb_of 586 (by decide +kernel) (by decide +kernel)
theorem qM_java_lang_Exception_7 : Cond.methodLink "java/lang/Exception" 7 ⟨"java/lang/Throwable", "<init>", "(Ljava/lang/String;)V"⟩ ∈ TB := tb_of 587 (by decide +kernel) (by decide +kernel)
theorem qI_java_lang_Throwable__init___Ljava_lang_String__V : Cond.instanceMethod ⟨"java/lang/Throwable", "<init>", "(Ljava/lang/String;)V"⟩ ∈ TB := tb_of 588 (by decide +kernel) (by decide +kernel)
theorem qC_java_lang_Throwable__init___Ljava_lang_String__V : Cond.code ⟨"java/lang/Throwable", "<init>", "(Ljava/lang/String;)V"⟩ prog_25_method_2_code 2 (none : Option Jvm.ClassFile.FieldType) ∈ TB := tb_of 589 (by decide +kernel) (by decide +kernel)
theorem qF_java_lang_Throwable_31 : Cond.fieldLink "java/lang/Throwable" 31 "java/lang/Throwable" "detailMessage" "Ljava/lang/String;" ∈ TB := tb_of 591 (by decide +kernel) (by decide +kernel)
theorem qF_java_lang_Throwable_7 : Cond.fieldLink "java/lang/Throwable" 7 "java/lang/Throwable" "cause" "Ljava/lang/Throwable;" ∈ TB := tb_of 592 (by decide +kernel) (by decide +kernel)
theorem qF_java_lang_Throwable_17 : Cond.fieldLink "java/lang/Throwable" 17 "java/lang/Throwable" "stackTrace" "[Ljava/lang/StackTraceElement;" ∈ TB := tb_of 593 (by decide +kernel) (by decide +kernel)
theorem qF_java_lang_Throwable_24 : Cond.fieldLink "java/lang/Throwable" 24 "java/lang/Throwable" "suppressedExceptions" "Ljava/util/List;" ∈ TB := tb_of 594 (by decide +kernel) (by decide +kernel)
theorem qL_java_lang_IndexOutOfBoundsException_depth : Cond.lays "java/lang/IndexOutOfBoundsException" "java/lang/Throwable" "depth" "I" ∈ TB := tb_of 599 (by decide +kernel) (by decide +kernel)
theorem qM_X12_250 : Cond.methodLink RX12 250 yX1_decide ∈ TB := tb_of 603 (by decide +kernel) (by decide +kernel)
theorem qI_X1_decide : Cond.instanceMethod yX1_decide ∈ TB := tb_of 604 (by decide +kernel) (by decide +kernel)
theorem qS_X1_decide : Cond.selects RX1 yX1_decide yX1_decide ∈ TB := tb_of 605 (by decide +kernel) (by decide +kernel)
theorem qC_X1_decide : Cond.code yX1_decide cX1_decide 3 (none : Option Jvm.ClassFile.FieldType) ∈ TB := tb_of 606 (by decide +kernel) (by decide +kernel)
theorem qM_X1_29 : Cond.methodLink RX1 29 yX1_nextInTurn ∈ TB := tb_of 607 (by decide +kernel) (by decide +kernel)
theorem qI_X1_nextInTurn : Cond.instanceMethod yX1_nextInTurn ∈ TB := tb_of 609 (by decide +kernel) (by decide +kernel)
theorem qC_X1_nextInTurn : Cond.code yX1_nextInTurn cX1_nextInTurn 4 (some .int) ∈ TB := tb_of 610 (by decide +kernel) (by decide +kernel)
theorem qM_X1_46 : Cond.methodLink RX1 46 yX5_turnOf ∈ TB := tb_of 611 (by decide +kernel) (by decide +kernel)
theorem qI_X5_turnOf : Cond.instanceMethod yX5_turnOf ∈ TB := tb_of 612 (by decide +kernel) (by decide +kernel)
theorem qS_X5_turnOf : Cond.selects RX5 yX5_turnOf yX5_turnOf ∈ TB := tb_of 613 (by decide +kernel) (by decide +kernel)
theorem qC_X5_turnOf : Cond.code yX5_turnOf cX5_turnOf 2 (some .int) ∈ TB := tb_of 614 (by decide +kernel) (by decide +kernel)
theorem qM_X1_33 : Cond.methodLink RX1 33 yX1_append ∈ TB := tb_of 615 (by decide +kernel) (by decide +kernel)
theorem qI_X1_append : Cond.instanceMethod yX1_append ∈ TB := tb_of 617 (by decide +kernel) (by decide +kernel)
theorem qC_X1_append : Cond.code yX1_append cX1_append 2 (none : Option Jvm.ClassFile.FieldType) ∈ TB := tb_of 618 (by decide +kernel) (by decide +kernel)
theorem qM_X1_37 : Cond.methodLink RX1 37 yX1_serve ∈ TB := tb_of 619 (by decide +kernel) (by decide +kernel)
theorem qI_X1_serve : Cond.instanceMethod yX1_serve ∈ TB := tb_of 621 (by decide +kernel) (by decide +kernel)
theorem qC_X1_serve : Cond.code yX1_serve cX1_serve 6 (none : Option Jvm.ClassFile.FieldType) ∈ TB := tb_of 622 (by decide +kernel) (by decide +kernel)
theorem qM_X1_50 : Cond.methodLink RX1 50 yX1_firstAvailable ∈ TB := tb_of 623 (by decide +kernel) (by decide +kernel)
theorem qI_X1_firstAvailable : Cond.instanceMethod yX1_firstAvailable ∈ TB := tb_of 625 (by decide +kernel) (by decide +kernel)
theorem qC_X1_firstAvailable : Cond.code yX1_firstAvailable cX1_firstAvailable 5 (some .int) ∈ TB := tb_of 626 (by decide +kernel) (by decide +kernel)
theorem qM_X1_63 : Cond.methodLink RX1 63 yX5_wishesOf ∈ TB := tb_of 627 (by decide +kernel) (by decide +kernel)
theorem qM_X1_66 : Cond.methodLink RX1 66 yX5_wish ∈ TB := tb_of 628 (by decide +kernel) (by decide +kernel)
theorem qM_X1_54 : Cond.methodLink RX1 54 yX5_holderOf ∈ TB := tb_of 629 (by decide +kernel) (by decide +kernel)
theorem qM_X1_57 : Cond.methodLink RX1 57 yX1_finishFrom ∈ TB := tb_of 630 (by decide +kernel) (by decide +kernel)
theorem qI_X1_finishFrom : Cond.instanceMethod yX1_finishFrom ∈ TB := tb_of 632 (by decide +kernel) (by decide +kernel)
theorem qC_X1_finishFrom : Cond.code yX1_finishFrom cX1_finishFrom 5 (none : Option Jvm.ClassFile.FieldType) ∈ TB := tb_of 633 (by decide +kernel) (by decide +kernel)
theorem qM_X1_60 : Cond.methodLink RX1 60 yX1_placeInChain ∈ TB := tb_of 634 (by decide +kernel) (by decide +kernel)
theorem qI_X1_placeInChain : Cond.instanceMethod yX1_placeInChain ∈ TB := tb_of 636 (by decide +kernel) (by decide +kernel)
theorem qC_X1_placeInChain : Cond.code yX1_placeInChain cX1_placeInChain 3 (some .int) ∈ TB := tb_of 637 (by decide +kernel) (by decide +kernel)
theorem qM_X12_253 : Cond.methodLink RX12 253 yX1_givenTo ∈ TB := tb_of 638 (by decide +kernel) (by decide +kernel)
theorem qI_X1_givenTo : Cond.instanceMethod yX1_givenTo ∈ TB := tb_of 639 (by decide +kernel) (by decide +kernel)
theorem qS_X1_givenTo : Cond.selects RX1 yX1_givenTo yX1_givenTo ∈ TB := tb_of 640 (by decide +kernel) (by decide +kernel)
theorem qC_X1_givenTo : Cond.code yX1_givenTo cX1_givenTo 2 (some .int) ∈ TB := tb_of 641 (by decide +kernel) (by decide +kernel)
theorem qM_L_59 : Cond.methodLink RL 59 yX12_ledgerDifference ∈ TB := tb_of 642 (by decide +kernel) (by decide +kernel)
theorem qI_X12_ledgerDifference : Cond.instanceMethod yX12_ledgerDifference ∈ TB := tb_of 643 (by decide +kernel) (by decide +kernel)
theorem qS_X12_ledgerDifference : Cond.selects RX12 yX12_ledgerDifference yX12_ledgerDifference ∈ TB := tb_of 644 (by decide +kernel) (by decide +kernel)
theorem qC_X12_ledgerDifference : Cond.code yX12_ledgerDifference cX12_ledgerDifference 3 (some .int) ∈ TB := tb_of 645 (by decide +kernel) (by decide +kernel)
theorem qM_X12_154 : Cond.methodLink RX12 154 yX5_coinsOf ∈ TB := tb_of 646 (by decide +kernel) (by decide +kernel)
theorem qI_X5_coinsOf : Cond.instanceMethod yX5_coinsOf ∈ TB := tb_of 647 (by decide +kernel) (by decide +kernel)
theorem qS_X5_coinsOf : Cond.selects RX5 yX5_coinsOf yX5_coinsOf ∈ TB := tb_of 648 (by decide +kernel) (by decide +kernel)
theorem qC_X5_coinsOf : Cond.code yX5_coinsOf cX5_coinsOf 2 (some .int) ∈ TB := tb_of 649 (by decide +kernel) (by decide +kernel)
theorem qM_L_63 : Cond.methodLink RL 63 yX12_reallocate ∈ TB := tb_of 650 (by decide +kernel) (by decide +kernel)
theorem qI_X12_reallocate : Cond.instanceMethod yX12_reallocate ∈ TB := tb_of 651 (by decide +kernel) (by decide +kernel)
theorem qS_X12_reallocate : Cond.selects RX12 yX12_reallocate yX12_reallocate ∈ TB := tb_of 652 (by decide +kernel) (by decide +kernel)
theorem qC_X12_reallocate : Cond.code yX12_reallocate cX12_reallocate 1 (some .int) ∈ TB := tb_of 653 (by decide +kernel) (by decide +kernel)
theorem qM_X12_131 : Cond.methodLink RX12 131 yX4_record ∈ TB := tb_of 654 (by decide +kernel) (by decide +kernel)
theorem qI_X4_record : Cond.instanceMethod yX4_record ∈ TB := tb_of 655 (by decide +kernel) (by decide +kernel)
theorem qS_X4_record : Cond.selects RX4 yX4_record yX4_record ∈ TB := tb_of 656 (by decide +kernel) (by decide +kernel)
theorem qC_X4_record : Cond.code yX4_record cX4_record 2 (none : Option Jvm.ClassFile.FieldType) ∈ TB := tb_of 657 (by decide +kernel) (by decide +kernel)
theorem qM_X4_25 : Cond.methodLink RX4 25 yX4_slotAfter ∈ TB := tb_of 658 (by decide +kernel) (by decide +kernel)
theorem qI_X4_slotAfter : Cond.instanceMethod yX4_slotAfter ∈ TB := tb_of 660 (by decide +kernel) (by decide +kernel)
theorem qC_X4_slotAfter : Cond.code yX4_slotAfter cX4_slotAfter 2 (some .int) ∈ TB := tb_of 661 (by decide +kernel) (by decide +kernel)
theorem qM_X4_29 : Cond.methodLink RX4 29 yX5_copy ∈ TB := tb_of 662 (by decide +kernel) (by decide +kernel)
theorem qT_X5_copy : Cond.static yX5_copy ∈ TB := tb_of 663 (by decide +kernel) (by decide +kernel)
theorem qC_X5_copy : Cond.code yX5_copy cX5_copy 3 (none : Option Jvm.ClassFile.FieldType) ∈ TB := tb_of 664 (by decide +kernel) (by decide +kernel)
theorem qM_X12_308 : Cond.methodLink RX12 308 yX1_applyTo ∈ TB := tb_of 665 (by decide +kernel) (by decide +kernel)
theorem qI_X1_applyTo : Cond.instanceMethod yX1_applyTo ∈ TB := tb_of 666 (by decide +kernel) (by decide +kernel)
theorem qS_X1_applyTo : Cond.selects RX1 yX1_applyTo yX1_applyTo ∈ TB := tb_of 667 (by decide +kernel) (by decide +kernel)
theorem qC_X1_applyTo : Cond.code yX1_applyTo cX1_applyTo 5 (some .int) ∈ TB := tb_of 668 (by decide +kernel) (by decide +kernel)
theorem qM_X1_70 : Cond.methodLink RX1 70 yX1_givenTo ∈ TB := tb_of 669 (by decide +kernel) (by decide +kernel)
theorem qM_X1_73 : Cond.methodLink RX1 73 yX5_heldBy ∈ TB := tb_of 670 (by decide +kernel) (by decide +kernel)
theorem qM_X1_79 : Cond.methodLink RX1 79 yX5_seat ∈ TB := tb_of 671 (by decide +kernel) (by decide +kernel)
theorem qM_L_70 : Cond.methodLink RL 70 yX12_undo ∈ TB := tb_of 672 (by decide +kernel) (by decide +kernel)
theorem qI_X12_undo : Cond.instanceMethod yX12_undo ∈ TB := tb_of 673 (by decide +kernel) (by decide +kernel)
theorem qS_X12_undo : Cond.selects RX12 yX12_undo yX12_undo ∈ TB := tb_of 674 (by decide +kernel) (by decide +kernel)
theorem qC_X12_undo : Cond.code yX12_undo cX12_undo 1 (some .int) ∈ TB := tb_of 675 (by decide +kernel) (by decide +kernel)
theorem qM_X12_346 : Cond.methodLink RX12 346 yX4_takeBack ∈ TB := tb_of 676 (by decide +kernel) (by decide +kernel)
theorem qI_X4_takeBack : Cond.instanceMethod yX4_takeBack ∈ TB := tb_of 677 (by decide +kernel) (by decide +kernel)
theorem qS_X4_takeBack : Cond.selects RX4 yX4_takeBack yX4_takeBack ∈ TB := tb_of 678 (by decide +kernel) (by decide +kernel)
theorem qC_X4_takeBack : Cond.code yX4_takeBack cX4_takeBack 2 (some .int) ∈ TB := tb_of 679 (by decide +kernel) (by decide +kernel)
theorem qK_L_10 : Cond.classLink RL 10 RX13 ∈ TB := tb_of 680 (by decide +kernel) (by decide +kernel)
theorem qA_X13 : Cond.instantiable RX13 18 ∈ TB := tb_of 681 (by decide +kernel) (by decide +kernel)
theorem qM_L_12 : Cond.methodLinkNest RL 12 yX13_init RL ∈ NB := nb_of 682 (by decide +kernel) (by decide +kernel)
theorem qI_X13_init : Cond.instanceMethod yX13_init ∈ TB := tb_of 683 (by decide +kernel) (by decide +kernel)
theorem qC_X13_init : Cond.code yX13_init cX13_init 1 (none : Option Jvm.ClassFile.FieldType) ∈ TB := tb_of 684 (by decide +kernel) (by decide +kernel)
theorem qM_X13_3 : Cond.methodLink RX13 3 ⟨"java/lang/Object", "<init>", "()V"⟩ ∈ TB := tb_of 685 (by decide +kernel) (by decide +kernel)
theorem qK_X13_43 : Cond.classLink RX13 43 "[[I" ∈ TB := tb_of 686 (by decide +kernel) (by decide +kernel)
theorem qF_X13_9 : Cond.fieldLink RX13 9 RX13 "text" "[B" ∈ TB := tb_of 688 (by decide +kernel) (by decide +kernel)
theorem qF_X13_15 : Cond.fieldLink RX13 15 RX13 "rent" "[I" ∈ TB := tb_of 689 (by decide +kernel) (by decide +kernel)
theorem qF_X13_19 : Cond.fieldLink RX13 19 RX13 "coins" "[I" ∈ TB := tb_of 690 (by decide +kernel) (by decide +kernel)
theorem qF_X13_22 : Cond.fieldLink RX13 22 RX13 "income" "[I" ∈ TB := tb_of 691 (by decide +kernel) (by decide +kernel)
theorem qF_X13_25 : Cond.fieldLink RX13 25 RX13 "place" "[I" ∈ TB := tb_of 692 (by decide +kernel) (by decide +kernel)
theorem qF_L_45 : Cond.fieldLinkNest RL 45 RX13 "place" "[I" RL ∈ NB := nb_of 693 (by decide +kernel) (by decide +kernel)
theorem qF_X13_28 : Cond.fieldLink RX13 28 RX13 "length" "[I" ∈ TB := tb_of 694 (by decide +kernel) (by decide +kernel)
theorem qF_X13_31 : Cond.fieldLink RX13 31 RX13 "order" "[I" ∈ TB := tb_of 695 (by decide +kernel) (by decide +kernel)
theorem qF_X13_34 : Cond.fieldLink RX13 34 RX13 "line" "[I" ∈ TB := tb_of 696 (by decide +kernel) (by decide +kernel)
theorem qF_X13_37 : Cond.fieldLink RX13 37 RX13 "asked" "[I" ∈ TB := tb_of 697 (by decide +kernel) (by decide +kernel)
theorem qF_X13_40 : Cond.fieldLink RX13 40 RX13 "got" "[I" ∈ TB := tb_of 698 (by decide +kernel) (by decide +kernel)
theorem qF_L_41 : Cond.fieldLinkNest RL 41 RX13 "got" "[I" RL ∈ NB := nb_of 699 (by decide +kernel) (by decide +kernel)
theorem qF_X13_45 : Cond.fieldLink RX13 45 RX13 "list" "[[I" ∈ TB := tb_of 700 (by decide +kernel) (by decide +kernel)
theorem qF_X13_48 : Cond.fieldLink RX13 48 RX13 "taken" "[Z" ∈ TB := tb_of 701 (by decide +kernel) (by decide +kernel)
theorem qF_X13_52 : Cond.fieldLink RX13 52 RX13 "x" "I" ∈ TB := tb_of 702 (by decide +kernel) (by decide +kernel)
theorem qF_L_27 : Cond.fieldLinkNest RL 27 RX13 "x" "I" RL ∈ NB := nb_of 703 (by decide +kernel) (by decide +kernel)
theorem qF_X13_62 : Cond.fieldLink RX13 62 RX13 "size" "I" ∈ TB := tb_of 704 (by decide +kernel) (by decide +kernel)
theorem qF_X13_95 : Cond.fieldLink RX13 95 RX13 "stalls" "I" ∈ TB := tb_of 705 (by decide +kernel) (by decide +kernel)
theorem qF_L_34 : Cond.fieldLinkNest RL 34 RX13 "sellers" "I" RL ∈ NB := nb_of 706 (by decide +kernel) (by decide +kernel)
theorem qF_X13_98 : Cond.fieldLink RX13 98 RX13 "sellers" "I" ∈ TB := tb_of 707 (by decide +kernel) (by decide +kernel)
theorem qF_X13_89 : Cond.fieldLink RX13 89 RX13 "day" "I" ∈ TB := tb_of 708 (by decide +kernel) (by decide +kernel)
theorem qF_X13_142 : Cond.fieldLink RX13 142 RX13 "inLine" "I" ∈ TB := tb_of 709 (by decide +kernel) (by decide +kernel)
theorem qL_X13_text : Cond.laysFinal RX13 RX13 "text" "[B" ∈ TB := tb_of 710 (by decide +kernel) (by decide +kernel)
theorem qL_X13_rent : Cond.laysFinal RX13 RX13 "rent" "[I" ∈ TB := tb_of 712 (by decide +kernel) (by decide +kernel)
theorem qL_X13_coins : Cond.laysFinal RX13 RX13 "coins" "[I" ∈ TB := tb_of 714 (by decide +kernel) (by decide +kernel)
theorem qL_X13_income : Cond.laysFinal RX13 RX13 "income" "[I" ∈ TB := tb_of 716 (by decide +kernel) (by decide +kernel)
theorem qL_X13_place : Cond.laysFinal RX13 RX13 "place" "[I" ∈ TB := tb_of 718 (by decide +kernel) (by decide +kernel)
theorem qL_X13_length : Cond.laysFinal RX13 RX13 "length" "[I" ∈ TB := tb_of 720 (by decide +kernel) (by decide +kernel)
theorem qL_X13_order : Cond.laysFinal RX13 RX13 "order" "[I" ∈ TB := tb_of 722 (by decide +kernel) (by decide +kernel)
theorem qL_X13_line : Cond.laysFinal RX13 RX13 "line" "[I" ∈ TB := tb_of 724 (by decide +kernel) (by decide +kernel)
theorem qL_X13_asked : Cond.laysFinal RX13 RX13 "asked" "[I" ∈ TB := tb_of 726 (by decide +kernel) (by decide +kernel)
theorem qL_X13_got : Cond.laysFinal RX13 RX13 "got" "[I" ∈ TB := tb_of 728 (by decide +kernel) (by decide +kernel)
theorem qL_X13_list : Cond.laysFinal RX13 RX13 "list" "[[I" ∈ TB := tb_of 730 (by decide +kernel) (by decide +kernel)
theorem qL_X13_taken : Cond.laysFinal RX13 RX13 "taken" "[Z" ∈ TB := tb_of 732 (by decide +kernel) (by decide +kernel)
theorem qL_X13_x : Cond.lays RX13 RX13 "x" "I" ∈ TB := tb_of 734 (by decide +kernel) (by decide +kernel)
theorem qL_X13_size : Cond.lays RX13 RX13 "size" "I" ∈ TB := tb_of 736 (by decide +kernel) (by decide +kernel)
theorem qL_X13_stalls : Cond.lays RX13 RX13 "stalls" "I" ∈ TB := tb_of 738 (by decide +kernel) (by decide +kernel)
theorem qL_X13_sellers : Cond.lays RX13 RX13 "sellers" "I" ∈ TB := tb_of 740 (by decide +kernel) (by decide +kernel)
theorem qL_X13_day : Cond.lays RX13 RX13 "day" "I" ∈ TB := tb_of 742 (by decide +kernel) (by decide +kernel)
theorem qL_X13_inLine : Cond.lays RX13 RX13 "inLine" "I" ∈ TB := tb_of 744 (by decide +kernel) (by decide +kernel)
theorem qM_L_19 : Cond.methodLink RL 19 yX13_begin ∈ TB := tb_of 747 (by decide +kernel) (by decide +kernel)
theorem qI_X13_begin : Cond.instanceMethod yX13_begin ∈ TB := tb_of 748 (by decide +kernel) (by decide +kernel)
theorem qS_X13_begin : Cond.selects RX13 yX13_begin yX13_begin ∈ TB := tb_of 749 (by decide +kernel) (by decide +kernel)
theorem qC_X13_begin : Cond.code yX13_begin cX13_begin 6 (some .boolean) ∈ TB := tb_of 750 (by decide +kernel) (by decide +kernel)
theorem qM_X13_92 : Cond.methodLink RX13 92 yX13_draw ∈ TB := tb_of 751 (by decide +kernel) (by decide +kernel)
theorem qI_X13_draw : Cond.instanceMethod yX13_draw ∈ TB := tb_of 752 (by decide +kernel) (by decide +kernel)
theorem qS_X13_draw : Cond.selects RX13 yX13_draw yX13_draw ∈ TB := tb_of 753 (by decide +kernel) (by decide +kernel)
theorem qC_X13_draw : Cond.code yX13_draw cX13_draw 2 (some .int) ∈ TB := tb_of 754 (by decide +kernel) (by decide +kernel)
theorem qV_X13_56 : Cond.constant RX13 56 (1103515245) ∈ TB := tb_of 755 (by decide +kernel) (by decide +kernel)
theorem qM_X13_75 : Cond.methodLink RX13 75 yX13_put ∈ TB := tb_of 757 (by decide +kernel) (by decide +kernel)
theorem qI_X13_put : Cond.instanceMethod yX13_put ∈ TB := tb_of 758 (by decide +kernel) (by decide +kernel)
theorem qS_X13_put : Cond.selects RX13 yX13_put yX13_put ∈ TB := tb_of 759 (by decide +kernel) (by decide +kernel)
theorem qC_X13_put : Cond.code yX13_put cX13_put 3 (none : Option Jvm.ClassFile.FieldType) ∈ TB := tb_of 760 (by decide +kernel) (by decide +kernel)
theorem qM_X13_57 : Cond.methodLink RX13 57 yJ0_length_8abf5 ∈ TB := tb_of 761 (by decide +kernel) (by decide +kernel)
theorem qM_X13_65 : Cond.methodLink RX13 65 yJ0_charAt_5068e ∈ TB := tb_of 762 (by decide +kernel) (by decide +kernel)
theorem qM_X13_105 : Cond.methodLink RX13 105 yX13_letter ∈ TB := tb_of 764 (by decide +kernel) (by decide +kernel)
theorem qI_X13_letter : Cond.instanceMethod yX13_letter ∈ TB := tb_of 765 (by decide +kernel) (by decide +kernel)
theorem qS_X13_letter : Cond.selects RX13 yX13_letter yX13_letter ∈ TB := tb_of 766 (by decide +kernel) (by decide +kernel)
theorem qC_X13_letter : Cond.code yX13_letter cX13_letter 3 (none : Option Jvm.ClassFile.FieldType) ∈ TB := tb_of 767 (by decide +kernel) (by decide +kernel)
theorem qM_X13_109 : Cond.methodLink RX13 109 yX13_put_ ∈ TB := tb_of 769 (by decide +kernel) (by decide +kernel)
theorem qI_X13_put_ : Cond.instanceMethod yX13_put_ ∈ TB := tb_of 770 (by decide +kernel) (by decide +kernel)
theorem qS_X13_put_ : Cond.selects RX13 yX13_put_ yX13_put_ ∈ TB := tb_of 771 (by decide +kernel) (by decide +kernel)
theorem qC_X13_put_ : Cond.code yX13_put_ cX13_put_ 2 (none : Option Jvm.ClassFile.FieldType) ∈ TB := tb_of 772 (by decide +kernel) (by decide +kernel)
theorem qM_X13_69 : Cond.methodLink RX13 69 yX13_digits ∈ TB := tb_of 773 (by decide +kernel) (by decide +kernel)
theorem qI_X13_digits : Cond.instanceMethod yX13_digits ∈ TB := tb_of 774 (by decide +kernel) (by decide +kernel)
theorem qS_X13_digits : Cond.selects RX13 yX13_digits yX13_digits ∈ TB := tb_of 775 (by decide +kernel) (by decide +kernel)
theorem qC_X13_digits : Cond.code yX13_digits cX13_digits 2 (none : Option Jvm.ClassFile.FieldType) ∈ TB := tb_of 776 (by decide +kernel) (by decide +kernel)
theorem qM_X13_115 : Cond.methodLink RX13 115 yX13_rank ∈ TB := tb_of 779 (by decide +kernel) (by decide +kernel)
theorem qI_X13_rank : Cond.instanceMethod yX13_rank ∈ TB := tb_of 780 (by decide +kernel) (by decide +kernel)
theorem qS_X13_rank : Cond.selects RX13 yX13_rank yX13_rank ∈ TB := tb_of 781 (by decide +kernel) (by decide +kernel)
theorem qC_X13_rank : Cond.code yX13_rank cX13_rank 4 (some .int) ∈ TB := tb_of 782 (by decide +kernel) (by decide +kernel)
theorem qM_X13_119 : Cond.methodLink RX13 119 yX13_tenant ∈ TB := tb_of 783 (by decide +kernel) (by decide +kernel)
theorem qI_X13_tenant : Cond.instanceMethod yX13_tenant ∈ TB := tb_of 784 (by decide +kernel) (by decide +kernel)
theorem qS_X13_tenant : Cond.selects RX13 yX13_tenant yX13_tenant ∈ TB := tb_of 785 (by decide +kernel) (by decide +kernel)
theorem qC_X13_tenant : Cond.code yX13_tenant cX13_tenant 3 (some .int) ∈ TB := tb_of 786 (by decide +kernel) (by decide +kernel)
theorem qM_X13_124 : Cond.methodLink RX13 124 yX13_send ∈ TB := tb_of 788 (by decide +kernel) (by decide +kernel)
theorem qI_X13_send : Cond.instanceMethod yX13_send ∈ TB := tb_of 789 (by decide +kernel) (by decide +kernel)
theorem qS_X13_send : Cond.selects RX13 yX13_send yX13_send ∈ TB := tb_of 790 (by decide +kernel) (by decide +kernel)
theorem qC_X13_send : Cond.code yX13_send cX13_send 3 (some .boolean) ∈ TB := tb_of 791 (by decide +kernel) (by decide +kernel)
theorem qM_X13_79 : Cond.methodLink RX13 79 yX13_four ∈ TB := tb_of 792 (by decide +kernel) (by decide +kernel)
theorem qI_X13_four : Cond.instanceMethod yX13_four ∈ TB := tb_of 793 (by decide +kernel) (by decide +kernel)
theorem qS_X13_four : Cond.selects RX13 yX13_four yX13_four ∈ TB := tb_of 794 (by decide +kernel) (by decide +kernel)
theorem qC_X13_four : Cond.code yX13_four cX13_four 4 (some .int) ∈ TB := tb_of 795 (by decide +kernel) (by decide +kernel)
theorem qM_X13_83 : Cond.methodLink RX13 83 yX12_appendInput ∈ TB := tb_of 796 (by decide +kernel) (by decide +kernel)
theorem qI_X12_appendInput : Cond.instanceMethod yX12_appendInput ∈ TB := tb_of 797 (by decide +kernel) (by decide +kernel)
theorem qS_X12_appendInput : Cond.selects RX12 yX12_appendInput yX12_appendInput ∈ TB := tb_of 798 (by decide +kernel) (by decide +kernel)
theorem qC_X12_appendInput : Cond.code yX12_appendInput cX12_appendInput 7 (some .int) ∈ TB := tb_of 799 (by decide +kernel) (by decide +kernel)
theorem qK_X12_105 : Cond.classLink RX12 105 "java/lang/IllegalStateException" ∈ TB := tb_of 800 (by decide +kernel) (by decide +kernel)
theorem qA_java_lang_IllegalStateException : Cond.instantiable "java/lang/IllegalStateException" 6 ∈ TB := tb_of 801 (by decide +kernel) (by decide +kernel)
theorem qX_java_lang_IllegalStateException_java_lang_IllegalStateException : Cond.castable "java/lang/IllegalStateException" "java/lang/IllegalStateException" ∈ NB := nb_of 802 (by decide +kernel) (by decide +kernel)
theorem qS_java_lang_Throwable_fillInStackTrace__I_Ljava_lang_Throwable__3 : Cond.selects "java/lang/IllegalStateException" ⟨"java/lang/Throwable", "fillInStackTrace", "(I)Ljava/lang/Throwable;"⟩ ⟨"java/lang/Throwable", "fillInStackTrace", "(I)Ljava/lang/Throwable;"⟩ ∈ TB := tb_of 803 (by decide +kernel) (by decide +kernel)
theorem qL_java_lang_IllegalStateException_cause : Cond.lays "java/lang/IllegalStateException" "java/lang/Throwable" "cause" "Ljava/lang/Throwable;" ∈ TB := tb_of 804 (by decide +kernel) (by decide +kernel)
theorem qL_java_lang_IllegalStateException_stackTrace : Cond.lays "java/lang/IllegalStateException" "java/lang/Throwable" "stackTrace" "[Ljava/lang/StackTraceElement;" ∈ TB := tb_of 805 (by decide +kernel) (by decide +kernel)
theorem qL_java_lang_IllegalStateException_suppressedExceptions : Cond.lays "java/lang/IllegalStateException" "java/lang/Throwable" "suppressedExceptions" "Ljava/util/List;" ∈ TB := tb_of 806 (by decide +kernel) (by decide +kernel)
theorem qL_java_lang_IllegalStateException_detailMessage : Cond.lays "java/lang/IllegalStateException" "java/lang/Throwable" "detailMessage" "Ljava/lang/String;" ∈ TB := tb_of 807 (by decide +kernel) (by decide +kernel)
theorem qL_java_lang_IllegalStateException_backtrace : Cond.lays "java/lang/IllegalStateException" "java/lang/Throwable" "backtrace" "Ljava/lang/Object;" ∈ TB := tb_of 808 (by decide +kernel) (by decide +kernel)
theorem qM_X12_109 : Cond.methodLink RX12 109 ⟨"java/lang/IllegalStateException", "<init>", "(Ljava/lang/String;)V"⟩ ∈ TB := tb_of 810 (by decide +kernel) (by decide +kernel)
theorem qI_java_lang_IllegalStateException__init___Ljava_lang_String__V : Cond.instanceMethod ⟨"java/lang/IllegalStateException", "<init>", "(Ljava/lang/String;)V"⟩ ∈ TB := tb_of 811 (by decide +kernel) (by decide +kernel)
theorem qC_java_lang_IllegalStateException__init___Ljava_lang_String__V : Cond.code ⟨"java/lang/IllegalStateException", "<init>", "(Ljava/lang/String;)V"⟩ prog_19_method_2_code 2 (none : Option Jvm.ClassFile.FieldType) ∈ TB := tb_of 812 (by decide +kernel) (by decide +kernel)
theorem qM_java_lang_IllegalStateException_7 : Cond.methodLink "java/lang/IllegalStateException" 7 ⟨"java/lang/RuntimeException", "<init>", "(Ljava/lang/String;)V"⟩ ∈ TB := tb_of 813 (by decide +kernel) (by decide +kernel)
theorem qL_java_lang_IllegalStateException_depth : Cond.lays "java/lang/IllegalStateException" "java/lang/Throwable" "depth" "I" ∈ TB := tb_of 814 (by decide +kernel) (by decide +kernel)
theorem qM_X12_112 : Cond.methodLink RX12 112 yX2_addWord ∈ TB := tb_of 816 (by decide +kernel) (by decide +kernel)
theorem qI_X2_addWord : Cond.instanceMethod yX2_addWord ∈ TB := tb_of 817 (by decide +kernel) (by decide +kernel)
theorem qS_X2_addWord : Cond.selects RX2 yX2_addWord yX2_addWord ∈ TB := tb_of 818 (by decide +kernel) (by decide +kernel)
theorem qC_X2_addWord : Cond.code yX2_addWord cX2_addWord 3 (none : Option Jvm.ClassFile.FieldType) ∈ TB := tb_of 819 (by decide +kernel) (by decide +kernel)
theorem qM_X2_19 : Cond.methodLink RX2 19 yX2_add ∈ TB := tb_of 820 (by decide +kernel) (by decide +kernel)
theorem qM_X13_128 : Cond.methodLink RX13 128 yX12_loadSetup ∈ TB := tb_of 821 (by decide +kernel) (by decide +kernel)
theorem qI_X12_loadSetup : Cond.instanceMethod yX12_loadSetup ∈ TB := tb_of 822 (by decide +kernel) (by decide +kernel)
theorem qS_X12_loadSetup : Cond.selects RX12 yX12_loadSetup yX12_loadSetup ∈ TB := tb_of 823 (by decide +kernel) (by decide +kernel)
theorem qC_X12_loadSetup : Cond.code yX12_loadSetup cX12_loadSetup 2 (some .int) ∈ TB := tb_of 824 (by decide +kernel) (by decide +kernel)
theorem qM_X12_120 : Cond.methodLink RX12 120 yX5_copy ∈ TB := tb_of 825 (by decide +kernel) (by decide +kernel)
theorem qM_X12_124 : Cond.methodLink RX12 124 yX4_clear ∈ TB := tb_of 826 (by decide +kernel) (by decide +kernel)
theorem qI_X4_clear : Cond.instanceMethod yX4_clear ∈ TB := tb_of 827 (by decide +kernel) (by decide +kernel)
theorem qS_X4_clear : Cond.selects RX4 yX4_clear yX4_clear ∈ TB := tb_of 828 (by decide +kernel) (by decide +kernel)
theorem qC_X4_clear : Cond.code yX4_clear cX4_clear 1 (none : Option Jvm.ClassFile.FieldType) ∈ TB := tb_of 829 (by decide +kernel) (by decide +kernel)
theorem qM_L_48 : Cond.methodLink RL 48 yX13_rank ∈ TB := tb_of 830 (by decide +kernel) (by decide +kernel)
theorem qM_L_52 : Cond.methodLink RL 52 yX13_likes ∈ TB := tb_of 831 (by decide +kernel) (by decide +kernel)
theorem qI_X13_likes : Cond.instanceMethod yX13_likes ∈ TB := tb_of 832 (by decide +kernel) (by decide +kernel)
theorem qS_X13_likes : Cond.selects RX13 yX13_likes yX13_likes ∈ TB := tb_of 833 (by decide +kernel) (by decide +kernel)
theorem qC_X13_likes : Cond.code yX13_likes cX13_likes 4 (some .boolean) ∈ TB := tb_of 834 (by decide +kernel) (by decide +kernel)
theorem qM_X13_131 : Cond.methodLink RX13 131 yX13_bad ∈ TB := tb_of 835 (by decide +kernel) (by decide +kernel)
theorem qI_X13_bad : Cond.instanceMethod yX13_bad ∈ TB := tb_of 836 (by decide +kernel) (by decide +kernel)
theorem qS_X13_bad : Cond.selects RX13 yX13_bad yX13_bad ∈ TB := tb_of 837 (by decide +kernel) (by decide +kernel)
theorem qC_X13_bad : Cond.code yX13_bad cX13_bad 3 (some .int) ∈ TB := tb_of 838 (by decide +kernel) (by decide +kernel)
theorem qM_L_31 : Cond.methodLink RL 31 yX13_mechanism ∈ TB := tb_of 839 (by decide +kernel) (by decide +kernel)
theorem qI_X13_mechanism : Cond.instanceMethod yX13_mechanism ∈ TB := tb_of 840 (by decide +kernel) (by decide +kernel)
theorem qS_X13_mechanism : Cond.selects RX13 yX13_mechanism yX13_mechanism ∈ TB := tb_of 841 (by decide +kernel) (by decide +kernel)
theorem qC_X13_mechanism : Cond.code yX13_mechanism cX13_mechanism 6 (none : Option Jvm.ClassFile.FieldType) ∈ TB := tb_of 842 (by decide +kernel) (by decide +kernel)
theorem qM_X13_145 : Cond.methodLink RX13 145 yX13_where ∈ TB := tb_of 843 (by decide +kernel) (by decide +kernel)
theorem qI_X13_where : Cond.instanceMethod yX13_where ∈ TB := tb_of 844 (by decide +kernel) (by decide +kernel)
theorem qS_X13_where : Cond.selects RX13 yX13_where yX13_where ∈ TB := tb_of 845 (by decide +kernel) (by decide +kernel)
theorem qC_X13_where : Cond.code yX13_where cX13_where 3 (some .int) ∈ TB := tb_of 846 (by decide +kernel) (by decide +kernel)
theorem qM_X13_148 : Cond.methodLink RX13 148 yX13_give ∈ TB := tb_of 847 (by decide +kernel) (by decide +kernel)
theorem qI_X13_give : Cond.instanceMethod yX13_give ∈ TB := tb_of 848 (by decide +kernel) (by decide +kernel)
theorem qS_X13_give : Cond.selects RX13 yX13_give yX13_give ∈ TB := tb_of 849 (by decide +kernel) (by decide +kernel)
theorem qC_X13_give : Cond.code yX13_give cX13_give 4 (none : Option Jvm.ClassFile.FieldType) ∈ TB := tb_of 850 (by decide +kernel) (by decide +kernel)
theorem qM_X13_154 : Cond.methodLink RX13 154 yX13_whereAll ∈ TB := tb_of 851 (by decide +kernel) (by decide +kernel)
theorem qI_X13_whereAll : Cond.instanceMethod yX13_whereAll ∈ TB := tb_of 852 (by decide +kernel) (by decide +kernel)
theorem qS_X13_whereAll : Cond.selects RX13 yX13_whereAll yX13_whereAll ∈ TB := tb_of 853 (by decide +kernel) (by decide +kernel)
theorem qC_X13_whereAll : Cond.code yX13_whereAll cX13_whereAll 3 (some .int) ∈ TB := tb_of 854 (by decide +kernel) (by decide +kernel)
theorem qM_X13_151 : Cond.methodLink RX13 151 yX13_front ∈ TB := tb_of 855 (by decide +kernel) (by decide +kernel)
theorem qI_X13_front : Cond.instanceMethod yX13_front ∈ TB := tb_of 856 (by decide +kernel) (by decide +kernel)
theorem qS_X13_front : Cond.selects RX13 yX13_front yX13_front ∈ TB := tb_of 857 (by decide +kernel) (by decide +kernel)
theorem qC_X13_front : Cond.code yX13_front cX13_front 3 (none : Option Jvm.ClassFile.FieldType) ∈ TB := tb_of 858 (by decide +kernel) (by decide +kernel)
theorem qM_L_23 : Cond.methodLink RL 23 yX13_isSame ∈ TB := tb_of 859 (by decide +kernel) (by decide +kernel)
theorem qI_X13_isSame : Cond.instanceMethod yX13_isSame ∈ TB := tb_of 860 (by decide +kernel) (by decide +kernel)
theorem qS_X13_isSame : Cond.selects RX13 yX13_isSame yX13_isSame ∈ TB := tb_of 861 (by decide +kernel) (by decide +kernel)
theorem qC_X13_isSame : Cond.code yX13_isSame cX13_isSame 4 (some .boolean) ∈ TB := tb_of 862 (by decide +kernel) (by decide +kernel)
theorem qM_X13_157 : Cond.methodLink RX13 157 yX12_day ∈ TB := tb_of 863 (by decide +kernel) (by decide +kernel)
theorem qI_X12_day : Cond.instanceMethod yX12_day ∈ TB := tb_of 864 (by decide +kernel) (by decide +kernel)
theorem qS_X12_day : Cond.selects RX12 yX12_day yX12_day ∈ TB := tb_of 865 (by decide +kernel) (by decide +kernel)
theorem qC_X12_day : Cond.code yX12_day cX12_day 1 (some .int) ∈ TB := tb_of 866 (by decide +kernel) (by decide +kernel)
theorem qM_X13_159 : Cond.methodLink RX13 159 yX12_sellerCount ∈ TB := tb_of 867 (by decide +kernel) (by decide +kernel)
theorem qI_X12_sellerCount : Cond.instanceMethod yX12_sellerCount ∈ TB := tb_of 868 (by decide +kernel) (by decide +kernel)
theorem qS_X12_sellerCount : Cond.selects RX12 yX12_sellerCount yX12_sellerCount ∈ TB := tb_of 869 (by decide +kernel) (by decide +kernel)
theorem qC_X12_sellerCount : Cond.code yX12_sellerCount cX12_sellerCount 1 (some .int) ∈ TB := tb_of 870 (by decide +kernel) (by decide +kernel)
theorem qM_X13_162 : Cond.methodLink RX13 162 yX12_stallCount ∈ TB := tb_of 871 (by decide +kernel) (by decide +kernel)
theorem qI_X12_stallCount : Cond.instanceMethod yX12_stallCount ∈ TB := tb_of 872 (by decide +kernel) (by decide +kernel)
theorem qS_X12_stallCount : Cond.selects RX12 yX12_stallCount yX12_stallCount ∈ TB := tb_of 873 (by decide +kernel) (by decide +kernel)
theorem qC_X12_stallCount : Cond.code yX12_stallCount cX12_stallCount 1 (some .int) ∈ TB := tb_of 874 (by decide +kernel) (by decide +kernel)
theorem qM_X13_165 : Cond.methodLink RX13 165 yX12_balance ∈ TB := tb_of 875 (by decide +kernel) (by decide +kernel)
theorem qI_X12_balance : Cond.instanceMethod yX12_balance ∈ TB := tb_of 876 (by decide +kernel) (by decide +kernel)
theorem qS_X12_balance : Cond.selects RX12 yX12_balance yX12_balance ∈ TB := tb_of 877 (by decide +kernel) (by decide +kernel)
theorem qC_X12_balance : Cond.code yX12_balance cX12_balance 2 (some .int) ∈ TB := tb_of 878 (by decide +kernel) (by decide +kernel)
theorem qM_X13_168 : Cond.methodLink RX13 168 yX12_stallOf ∈ TB := tb_of 879 (by decide +kernel) (by decide +kernel)
theorem qI_X12_stallOf : Cond.instanceMethod yX12_stallOf ∈ TB := tb_of 880 (by decide +kernel) (by decide +kernel)
theorem qS_X12_stallOf : Cond.selects RX12 yX12_stallOf yX12_stallOf ∈ TB := tb_of 881 (by decide +kernel) (by decide +kernel)
theorem qC_X12_stallOf : Cond.code yX12_stallOf cX12_stallOf 2 (some .int) ∈ TB := tb_of 882 (by decide +kernel) (by decide +kernel)
theorem qM_X12_167 : Cond.methodLink RX12 167 yX5_heldBy ∈ TB := tb_of 883 (by decide +kernel) (by decide +kernel)
theorem qM_X13_171 : Cond.methodLink RX13 171 yX12_preferenceCount ∈ TB := tb_of 884 (by decide +kernel) (by decide +kernel)
theorem qI_X12_preferenceCount : Cond.instanceMethod yX12_preferenceCount ∈ TB := tb_of 885 (by decide +kernel) (by decide +kernel)
theorem qS_X12_preferenceCount : Cond.selects RX12 yX12_preferenceCount yX12_preferenceCount ∈ TB := tb_of 886 (by decide +kernel) (by decide +kernel)
theorem qC_X12_preferenceCount : Cond.code yX12_preferenceCount cX12_preferenceCount 2 (some .int) ∈ TB := tb_of 887 (by decide +kernel) (by decide +kernel)
theorem qM_X12_176 : Cond.methodLink RX12 176 yX5_wishesOf ∈ TB := tb_of 888 (by decide +kernel) (by decide +kernel)
theorem qM_X13_174 : Cond.methodLink RX13 174 yX12_priorityOf ∈ TB := tb_of 889 (by decide +kernel) (by decide +kernel)
theorem qI_X12_priorityOf : Cond.instanceMethod yX12_priorityOf ∈ TB := tb_of 890 (by decide +kernel) (by decide +kernel)
theorem qS_X12_priorityOf : Cond.selects RX12 yX12_priorityOf yX12_priorityOf ∈ TB := tb_of 891 (by decide +kernel) (by decide +kernel)
theorem qC_X12_priorityOf : Cond.code yX12_priorityOf cX12_priorityOf 2 (some .int) ∈ TB := tb_of 892 (by decide +kernel) (by decide +kernel)
theorem qM_X12_173 : Cond.methodLink RX12 173 yX5_turnOf ∈ TB := tb_of 893 (by decide +kernel) (by decide +kernel)
theorem qM_X13_177 : Cond.methodLink RX13 177 yX12_preferenceAt ∈ TB := tb_of 894 (by decide +kernel) (by decide +kernel)
theorem qI_X12_preferenceAt : Cond.instanceMethod yX12_preferenceAt ∈ TB := tb_of 895 (by decide +kernel) (by decide +kernel)
theorem qS_X12_preferenceAt : Cond.selects RX12 yX12_preferenceAt yX12_preferenceAt ∈ TB := tb_of 896 (by decide +kernel) (by decide +kernel)
theorem qC_X12_preferenceAt : Cond.code yX12_preferenceAt cX12_preferenceAt 3 (some .int) ∈ TB := tb_of 897 (by decide +kernel) (by decide +kernel)
theorem qM_X12_184 : Cond.methodLink RX12 184 yX5_wish ∈ TB := tb_of 899 (by decide +kernel) (by decide +kernel)
theorem qM_X13_180 : Cond.methodLink RX13 180 yX12_rent ∈ TB := tb_of 900 (by decide +kernel) (by decide +kernel)
theorem qI_X12_rent : Cond.instanceMethod yX12_rent ∈ TB := tb_of 901 (by decide +kernel) (by decide +kernel)
theorem qS_X12_rent : Cond.selects RX12 yX12_rent yX12_rent ∈ TB := tb_of 902 (by decide +kernel) (by decide +kernel)
theorem qC_X12_rent : Cond.code yX12_rent cX12_rent 2 (some .int) ∈ TB := tb_of 903 (by decide +kernel) (by decide +kernel)
theorem qM_X12_161 : Cond.methodLink RX12 161 yX12_requireStall ∈ TB := tb_of 904 (by decide +kernel) (by decide +kernel)
theorem qI_X12_requireStall : Cond.instanceMethod yX12_requireStall ∈ TB := tb_of 906 (by decide +kernel) (by decide +kernel)
theorem qC_X12_requireStall : Cond.code yX12_requireStall cX12_requireStall 2 (none : Option Jvm.ClassFile.FieldType) ∈ TB := tb_of 907 (by decide +kernel) (by decide +kernel)
theorem qM_X12_164 : Cond.methodLink RX12 164 yX5_priceOf ∈ TB := tb_of 909 (by decide +kernel) (by decide +kernel)
theorem qI_X5_priceOf : Cond.instanceMethod yX5_priceOf ∈ TB := tb_of 910 (by decide +kernel) (by decide +kernel)
theorem qS_X5_priceOf : Cond.selects RX5 yX5_priceOf yX5_priceOf ∈ TB := tb_of 911 (by decide +kernel) (by decide +kernel)
theorem qC_X5_priceOf : Cond.code yX5_priceOf cX5_priceOf 2 (some .int) ∈ TB := tb_of 912 (by decide +kernel) (by decide +kernel)
theorem qM_X5_72 : Cond.methodLink RX5 72 yX5_hasStall ∈ TB := tb_of 913 (by decide +kernel) (by decide +kernel)
theorem qI_X5_hasStall : Cond.instanceMethod yX5_hasStall ∈ TB := tb_of 915 (by decide +kernel) (by decide +kernel)
theorem qC_X5_hasStall : Cond.code yX5_hasStall cX5_hasStall 2 (some .boolean) ∈ TB := tb_of 916 (by decide +kernel) (by decide +kernel)
theorem qM_X13_182 : Cond.methodLink RX13 182 yX12_occupantOf ∈ TB := tb_of 917 (by decide +kernel) (by decide +kernel)
theorem qI_X12_occupantOf : Cond.instanceMethod yX12_occupantOf ∈ TB := tb_of 918 (by decide +kernel) (by decide +kernel)
theorem qS_X12_occupantOf : Cond.selects RX12 yX12_occupantOf yX12_occupantOf ∈ TB := tb_of 919 (by decide +kernel) (by decide +kernel)
theorem qC_X12_occupantOf : Cond.code yX12_occupantOf cX12_occupantOf 2 (some .int) ∈ TB := tb_of 920 (by decide +kernel) (by decide +kernel)
theorem qM_X12_170 : Cond.methodLink RX12 170 yX5_holderOf ∈ TB := tb_of 921 (by decide +kernel) (by decide +kernel)
theorem qM_L_56 : Cond.methodLink RL 56 yX13_act ∈ TB := tb_of 922 (by decide +kernel) (by decide +kernel)
theorem qI_X13_act : Cond.instanceMethod yX13_act ∈ TB := tb_of 923 (by decide +kernel) (by decide +kernel)
theorem qS_X13_act : Cond.selects RX13 yX13_act yX13_act ∈ TB := tb_of 924 (by decide +kernel) (by decide +kernel)
theorem qC_X13_act : Cond.code yX13_act cX13_act 10 (some .boolean) ∈ TB := tb_of 925 (by decide +kernel) (by decide +kernel)
theorem qM_X13_185 : Cond.methodLink RX13 185 yX12_assign ∈ TB := tb_of 926 (by decide +kernel) (by decide +kernel)
theorem qI_X12_assign : Cond.instanceMethod yX12_assign ∈ TB := tb_of 927 (by decide +kernel) (by decide +kernel)
theorem qS_X12_assign : Cond.selects RX12 yX12_assign yX12_assign ∈ TB := tb_of 928 (by decide +kernel) (by decide +kernel)
theorem qC_X12_assign : Cond.code yX12_assign cX12_assign 4 (some .int) ∈ TB := tb_of 929 (by decide +kernel) (by decide +kernel)
theorem qM_X12_292 : Cond.methodLink RX12 292 yX5_mayMoveInto ∈ TB := tb_of 930 (by decide +kernel) (by decide +kernel)
theorem qI_X5_mayMoveInto : Cond.instanceMethod yX5_mayMoveInto ∈ TB := tb_of 931 (by decide +kernel) (by decide +kernel)
theorem qS_X5_mayMoveInto : Cond.selects RX5 yX5_mayMoveInto yX5_mayMoveInto ∈ TB := tb_of 932 (by decide +kernel) (by decide +kernel)
theorem qC_X5_mayMoveInto : Cond.code yX5_mayMoveInto cX5_mayMoveInto 3 (some .boolean) ∈ TB := tb_of 933 (by decide +kernel) (by decide +kernel)
theorem qM_X5_82 : Cond.methodLink RX5 82 yX5_holderOf ∈ TB := tb_of 934 (by decide +kernel) (by decide +kernel)
theorem qM_X5_86 : Cond.methodLink RX5 86 yX5_priceOf ∈ TB := tb_of 935 (by decide +kernel) (by decide +kernel)
theorem qM_X5_89 : Cond.methodLink RX5 89 yX5_coinsOf ∈ TB := tb_of 936 (by decide +kernel) (by decide +kernel)
theorem qM_X12_298 : Cond.methodLink RX12 298 yX5_seat ∈ TB := tb_of 938 (by decide +kernel) (by decide +kernel)
theorem qM_X13_188 : Cond.methodLink RX13 188 yX12_vacate ∈ TB := tb_of 939 (by decide +kernel) (by decide +kernel)
theorem qI_X12_vacate : Cond.instanceMethod yX12_vacate ∈ TB := tb_of 940 (by decide +kernel) (by decide +kernel)
theorem qS_X12_vacate : Cond.selects RX12 yX12_vacate yX12_vacate ∈ TB := tb_of 941 (by decide +kernel) (by decide +kernel)
theorem qC_X12_vacate : Cond.code yX12_vacate cX12_vacate 3 (some .int) ∈ TB := tb_of 942 (by decide +kernel) (by decide +kernel)
theorem qM_X13_191 : Cond.methodLink RX13 191 yX13_both ∈ TB := tb_of 944 (by decide +kernel) (by decide +kernel)
theorem qI_X13_both : Cond.instanceMethod yX13_both ∈ TB := tb_of 945 (by decide +kernel) (by decide +kernel)
theorem qS_X13_both : Cond.selects RX13 yX13_both yX13_both ∈ TB := tb_of 946 (by decide +kernel) (by decide +kernel)
theorem qC_X13_both : Cond.code yX13_both cX13_both 3 (some .boolean) ∈ TB := tb_of 947 (by decide +kernel) (by decide +kernel)
theorem qM_X13_138 : Cond.methodLink RX13 138 yX13_envies ∈ TB := tb_of 948 (by decide +kernel) (by decide +kernel)
theorem qI_X13_envies : Cond.instanceMethod yX13_envies ∈ TB := tb_of 949 (by decide +kernel) (by decide +kernel)
theorem qS_X13_envies : Cond.selects RX13 yX13_envies yX13_envies ∈ TB := tb_of 950 (by decide +kernel) (by decide +kernel)
theorem qC_X13_envies : Cond.code yX13_envies cX13_envies 3 (some .boolean) ∈ TB := tb_of 951 (by decide +kernel) (by decide +kernel)
theorem qM_X13_134 : Cond.methodLink RX13 134 yX13_likes ∈ TB := tb_of 952 (by decide +kernel) (by decide +kernel)
theorem qM_X13_194 : Cond.methodLink RX13 194 yX12_swap ∈ TB := tb_of 953 (by decide +kernel) (by decide +kernel)
theorem qI_X12_swap : Cond.instanceMethod yX12_swap ∈ TB := tb_of 954 (by decide +kernel) (by decide +kernel)
theorem qS_X12_swap : Cond.selects RX12 yX12_swap yX12_swap ∈ TB := tb_of 955 (by decide +kernel) (by decide +kernel)
theorem qC_X12_swap : Cond.code yX12_swap cX12_swap 3 (some .int) ∈ TB := tb_of 956 (by decide +kernel) (by decide +kernel)
theorem qM_X12_232 : Cond.methodLink RX12 232 yX3_bothGain ∈ TB := tb_of 957 (by decide +kernel) (by decide +kernel)
theorem qT_X3_bothGain : Cond.static yX3_bothGain ∈ TB := tb_of 958 (by decide +kernel) (by decide +kernel)
theorem qC_X3_bothGain : Cond.code yX3_bothGain cX3_bothGain 3 (some .boolean) ∈ TB := tb_of 959 (by decide +kernel) (by decide +kernel)
theorem qM_X12_305 : Cond.methodLink RX12 305 yX5_exchange ∈ TB := tb_of 961 (by decide +kernel) (by decide +kernel)
theorem qI_X5_exchange : Cond.instanceMethod yX5_exchange ∈ TB := tb_of 962 (by decide +kernel) (by decide +kernel)
theorem qS_X5_exchange : Cond.selects RX5 yX5_exchange yX5_exchange ∈ TB := tb_of 963 (by decide +kernel) (by decide +kernel)
theorem qC_X5_exchange : Cond.code yX5_exchange cX5_exchange 4 (none : Option Jvm.ClassFile.FieldType) ∈ TB := tb_of 964 (by decide +kernel) (by decide +kernel)
theorem qM_X5_92 : Cond.methodLink RX5 92 yX5_heldBy ∈ TB := tb_of 965 (by decide +kernel) (by decide +kernel)
theorem qM_X5_95 : Cond.methodLink RX5 95 yX5_seat ∈ TB := tb_of 966 (by decide +kernel) (by decide +kernel)
theorem qM_X13_197 : Cond.methodLink RX13 197 yX13_mechanism ∈ TB := tb_of 967 (by decide +kernel) (by decide +kernel)
theorem qM_X13_200 : Cond.methodLink RX13 200 yX12_reallocate ∈ TB := tb_of 968 (by decide +kernel) (by decide +kernel)
theorem qM_X13_203 : Cond.methodLink RX13 203 yX13_toFront ∈ TB := tb_of 969 (by decide +kernel) (by decide +kernel)
theorem qI_X13_toFront : Cond.instanceMethod yX13_toFront ∈ TB := tb_of 970 (by decide +kernel) (by decide +kernel)
theorem qS_X13_toFront : Cond.selects RX13 yX13_toFront yX13_toFront ∈ TB := tb_of 971 (by decide +kernel) (by decide +kernel)
theorem qC_X13_toFront : Cond.code yX13_toFront cX13_toFront 4 (none : Option Jvm.ClassFile.FieldType) ∈ TB := tb_of 972 (by decide +kernel) (by decide +kernel)
theorem qM_X13_206 : Cond.methodLink RX13 206 yX12_preferFirst ∈ TB := tb_of 973 (by decide +kernel) (by decide +kernel)
theorem qI_X12_preferFirst : Cond.instanceMethod yX12_preferFirst ∈ TB := tb_of 974 (by decide +kernel) (by decide +kernel)
theorem qS_X12_preferFirst : Cond.selects RX12 yX12_preferFirst yX12_preferFirst ∈ TB := tb_of 975 (by decide +kernel) (by decide +kernel)
theorem qC_X12_preferFirst : Cond.code yX12_preferFirst cX12_preferFirst 3 (some .int) ∈ TB := tb_of 976 (by decide +kernel) (by decide +kernel)
theorem qM_X12_260 : Cond.methodLink RX12 260 yX5_wishFirst ∈ TB := tb_of 977 (by decide +kernel) (by decide +kernel)
theorem qI_X5_wishFirst : Cond.instanceMethod yX5_wishFirst ∈ TB := tb_of 978 (by decide +kernel) (by decide +kernel)
theorem qS_X5_wishFirst : Cond.selects RX5 yX5_wishFirst yX5_wishFirst ∈ TB := tb_of 979 (by decide +kernel) (by decide +kernel)
theorem qC_X5_wishFirst : Cond.code yX5_wishFirst cX5_wishFirst 6 (none : Option Jvm.ClassFile.FieldType) ∈ TB := tb_of 980 (by decide +kernel) (by decide +kernel)
theorem qM_X5_105 : Cond.methodLink RX5 105 yX5_dropWish ∈ TB := tb_of 981 (by decide +kernel) (by decide +kernel)
theorem qI_X5_dropWish : Cond.instanceMethod yX5_dropWish ∈ TB := tb_of 982 (by decide +kernel) (by decide +kernel)
theorem qS_X5_dropWish : Cond.selects RX5 yX5_dropWish yX5_dropWish ∈ TB := tb_of 983 (by decide +kernel) (by decide +kernel)
theorem qC_X5_dropWish : Cond.code yX5_dropWish cX5_dropWish 7 (none : Option Jvm.ClassFile.FieldType) ∈ TB := tb_of 984 (by decide +kernel) (by decide +kernel)
theorem qM_X13_209 : Cond.methodLink RX13 209 yX13_rankAll ∈ TB := tb_of 985 (by decide +kernel) (by decide +kernel)
theorem qI_X13_rankAll : Cond.instanceMethod yX13_rankAll ∈ TB := tb_of 986 (by decide +kernel) (by decide +kernel)
theorem qS_X13_rankAll : Cond.selects RX13 yX13_rankAll yX13_rankAll ∈ TB := tb_of 987 (by decide +kernel) (by decide +kernel)
theorem qC_X13_rankAll : Cond.code yX13_rankAll cX13_rankAll 4 (some .int) ∈ TB := tb_of 988 (by decide +kernel) (by decide +kernel)
theorem qM_X13_212 : Cond.methodLink RX13 212 yX12_removePreference ∈ TB := tb_of 989 (by decide +kernel) (by decide +kernel)
theorem qI_X12_removePreference : Cond.instanceMethod yX12_removePreference ∈ TB := tb_of 990 (by decide +kernel) (by decide +kernel)
theorem qS_X12_removePreference : Cond.selects RX12 yX12_removePreference yX12_removePreference ∈ TB := tb_of 991 (by decide +kernel) (by decide +kernel)
theorem qC_X12_removePreference : Cond.code yX12_removePreference cX12_removePreference 3 (some .int) ∈ TB := tb_of 992 (by decide +kernel) (by decide +kernel)
theorem qM_X12_188 : Cond.methodLink RX12 188 yX5_rankIn ∈ TB := tb_of 993 (by decide +kernel) (by decide +kernel)
theorem qM_X12_315 : Cond.methodLink RX12 315 yX5_dropWish ∈ TB := tb_of 995 (by decide +kernel) (by decide +kernel)
theorem qM_X13_215 : Cond.methodLink RX13 215 yX13_first ∈ TB := tb_of 996 (by decide +kernel) (by decide +kernel)
theorem qI_X13_first : Cond.instanceMethod yX13_first ∈ TB := tb_of 997 (by decide +kernel) (by decide +kernel)
theorem qS_X13_first : Cond.selects RX13 yX13_first yX13_first ∈ TB := tb_of 998 (by decide +kernel) (by decide +kernel)
theorem qC_X13_first : Cond.code yX13_first cX13_first 4 (none : Option Jvm.ClassFile.FieldType) ∈ TB := tb_of 999 (by decide +kernel) (by decide +kernel)
theorem qM_X13_218 : Cond.methodLink RX13 218 yX12_setPriority ∈ TB := tb_of 1000 (by decide +kernel) (by decide +kernel)
theorem qI_X12_setPriority : Cond.instanceMethod yX12_setPriority ∈ TB := tb_of 1001 (by decide +kernel) (by decide +kernel)
theorem qS_X12_setPriority : Cond.selects RX12 yX12_setPriority yX12_setPriority ∈ TB := tb_of 1002 (by decide +kernel) (by decide +kernel)
theorem qC_X12_setPriority : Cond.code yX12_setPriority cX12_setPriority 4 (some .int) ∈ TB := tb_of 1003 (by decide +kernel) (by decide +kernel)
theorem qK_X12_115 : Cond.classLink RX12 115 "java/lang/IllegalArgumentException" ∈ TB := tb_of 1004 (by decide +kernel) (by decide +kernel)
theorem qA_java_lang_IllegalArgumentException : Cond.instantiable "java/lang/IllegalArgumentException" 6 ∈ TB := tb_of 1005 (by decide +kernel) (by decide +kernel)
theorem qX_java_lang_IllegalArgumentException_java_lang_IllegalArgumentException : Cond.castable "java/lang/IllegalArgumentException" "java/lang/IllegalArgumentException" ∈ NB := nb_of 1006 (by decide +kernel) (by decide +kernel)
theorem qS_java_lang_Throwable_fillInStackTrace__I_Ljava_lang_Throwable__4 : Cond.selects "java/lang/IllegalArgumentException" ⟨"java/lang/Throwable", "fillInStackTrace", "(I)Ljava/lang/Throwable;"⟩ ⟨"java/lang/Throwable", "fillInStackTrace", "(I)Ljava/lang/Throwable;"⟩ ∈ TB := tb_of 1007 (by decide +kernel) (by decide +kernel)
theorem qL_java_lang_IllegalArgumentException_cause : Cond.lays "java/lang/IllegalArgumentException" "java/lang/Throwable" "cause" "Ljava/lang/Throwable;" ∈ TB := tb_of 1008 (by decide +kernel) (by decide +kernel)
theorem qL_java_lang_IllegalArgumentException_stackTrace : Cond.lays "java/lang/IllegalArgumentException" "java/lang/Throwable" "stackTrace" "[Ljava/lang/StackTraceElement;" ∈ TB := tb_of 1009 (by decide +kernel) (by decide +kernel)
theorem qL_java_lang_IllegalArgumentException_suppressedExceptions : Cond.lays "java/lang/IllegalArgumentException" "java/lang/Throwable" "suppressedExceptions" "Ljava/util/List;" ∈ TB := tb_of 1010 (by decide +kernel) (by decide +kernel)
theorem qL_java_lang_IllegalArgumentException_detailMessage : Cond.lays "java/lang/IllegalArgumentException" "java/lang/Throwable" "detailMessage" "Ljava/lang/String;" ∈ TB := tb_of 1011 (by decide +kernel) (by decide +kernel)
theorem qL_java_lang_IllegalArgumentException_backtrace : Cond.lays "java/lang/IllegalArgumentException" "java/lang/Throwable" "backtrace" "Ljava/lang/Object;" ∈ TB := tb_of 1012 (by decide +kernel) (by decide +kernel)
theorem qM_X12_119 : Cond.methodLink RX12 119 ⟨"java/lang/IllegalArgumentException", "<init>", "(Ljava/lang/String;)V"⟩ ∈ TB := tb_of 1014 (by decide +kernel) (by decide +kernel)
theorem qI_java_lang_IllegalArgumentException__init___Ljava_lang_String__V : Cond.instanceMethod ⟨"java/lang/IllegalArgumentException", "<init>", "(Ljava/lang/String;)V"⟩ ∈ TB := tb_of 1015 (by decide +kernel) (by decide +kernel)
theorem qC_java_lang_IllegalArgumentException__init___Ljava_lang_String__V : Cond.code ⟨"java/lang/IllegalArgumentException", "<init>", "(Ljava/lang/String;)V"⟩ prog_18_method_2_code 2 (none : Option Jvm.ClassFile.FieldType) ∈ TB := tb_of 1016 (by decide +kernel) (by decide +kernel)
theorem qM_java_lang_IllegalArgumentException_7 : Cond.methodLink "java/lang/IllegalArgumentException" 7 ⟨"java/lang/RuntimeException", "<init>", "(Ljava/lang/String;)V"⟩ ∈ TB := tb_of 1017 (by decide +kernel) (by decide +kernel)
theorem qL_java_lang_IllegalArgumentException_depth : Cond.lays "java/lang/IllegalArgumentException" "java/lang/Throwable" "depth" "I" ∈ TB := tb_of 1018 (by decide +kernel) (by decide +kernel)
theorem qM_X12_256 : Cond.methodLink RX12 256 yX5_moveTurn ∈ TB := tb_of 1020 (by decide +kernel) (by decide +kernel)
theorem qI_X5_moveTurn : Cond.instanceMethod yX5_moveTurn ∈ TB := tb_of 1021 (by decide +kernel) (by decide +kernel)
theorem qS_X5_moveTurn : Cond.selects RX5 yX5_moveTurn yX5_moveTurn ∈ TB := tb_of 1022 (by decide +kernel) (by decide +kernel)
theorem qC_X5_moveTurn : Cond.code yX5_moveTurn cX5_moveTurn 5 (none : Option Jvm.ClassFile.FieldType) ∈ TB := tb_of 1023 (by decide +kernel) (by decide +kernel)
theorem qM_X5_99 : Cond.methodLink RX5 99 yX5_turnOf ∈ TB := tb_of 1024 (by decide +kernel) (by decide +kernel)
theorem qM_X13_221 : Cond.methodLink RX13 221 yX12_setRent ∈ TB := tb_of 1025 (by decide +kernel) (by decide +kernel)
theorem qI_X12_setRent : Cond.instanceMethod yX12_setRent ∈ TB := tb_of 1026 (by decide +kernel) (by decide +kernel)
theorem qS_X12_setRent : Cond.selects RX12 yX12_setRent yX12_setRent ∈ TB := tb_of 1027 (by decide +kernel) (by decide +kernel)
theorem qC_X12_setRent : Cond.code yX12_setRent cX12_setRent 4 (some .int) ∈ TB := tb_of 1028 (by decide +kernel) (by decide +kernel)
theorem qM_X12_320 : Cond.methodLink RX12 320 yX5_price ∈ TB := tb_of 1030 (by decide +kernel) (by decide +kernel)
theorem qI_X5_price : Cond.instanceMethod yX5_price ∈ TB := tb_of 1031 (by decide +kernel) (by decide +kernel)
theorem qS_X5_price : Cond.selects RX5 yX5_price yX5_price ∈ TB := tb_of 1032 (by decide +kernel) (by decide +kernel)
theorem qC_X5_price : Cond.code yX5_price cX5_price 3 (none : Option Jvm.ClassFile.FieldType) ∈ TB := tb_of 1033 (by decide +kernel) (by decide +kernel)
theorem qM_X13_224 : Cond.methodLink RX13 224 yX13_pass ∈ TB := tb_of 1034 (by decide +kernel) (by decide +kernel)
theorem qI_X13_pass : Cond.instanceMethod yX13_pass ∈ TB := tb_of 1035 (by decide +kernel) (by decide +kernel)
theorem qS_X13_pass : Cond.selects RX13 yX13_pass yX13_pass ∈ TB := tb_of 1036 (by decide +kernel) (by decide +kernel)
theorem qC_X13_pass : Cond.code yX13_pass cX13_pass 3 (some .int) ∈ TB := tb_of 1037 (by decide +kernel) (by decide +kernel)
theorem qM_X13_227 : Cond.methodLink RX13 227 yX12_advanceDays ∈ TB := tb_of 1038 (by decide +kernel) (by decide +kernel)
theorem qI_X12_advanceDays : Cond.instanceMethod yX12_advanceDays ∈ TB := tb_of 1039 (by decide +kernel) (by decide +kernel)
theorem qS_X12_advanceDays : Cond.selects RX12 yX12_advanceDays yX12_advanceDays ∈ TB := tb_of 1040 (by decide +kernel) (by decide +kernel)
theorem qC_X12_advanceDays : Cond.code yX12_advanceDays cX12_advanceDays 3 (some .int) ∈ TB := tb_of 1041 (by decide +kernel) (by decide +kernel)
theorem qM_X12_330 : Cond.methodLink RX12 330 yX5_mayPass ∈ TB := tb_of 1043 (by decide +kernel) (by decide +kernel)
theorem qI_X5_mayPass : Cond.instanceMethod yX5_mayPass ∈ TB := tb_of 1044 (by decide +kernel) (by decide +kernel)
theorem qS_X5_mayPass : Cond.selects RX5 yX5_mayPass yX5_mayPass ∈ TB := tb_of 1045 (by decide +kernel) (by decide +kernel)
theorem qC_X5_mayPass : Cond.code yX5_mayPass cX5_mayPass 2 (some .boolean) ∈ TB := tb_of 1046 (by decide +kernel) (by decide +kernel)
theorem qM_X12_336 : Cond.methodLink RX12 336 yX5_pass ∈ TB := tb_of 1048 (by decide +kernel) (by decide +kernel)
theorem qI_X5_pass : Cond.instanceMethod yX5_pass ∈ TB := tb_of 1049 (by decide +kernel) (by decide +kernel)
theorem qS_X5_pass : Cond.selects RX5 yX5_pass yX5_pass ∈ TB := tb_of 1050 (by decide +kernel) (by decide +kernel)
theorem qC_X5_pass : Cond.code yX5_pass cX5_pass 4 (none : Option Jvm.ClassFile.FieldType) ∈ TB := tb_of 1051 (by decide +kernel) (by decide +kernel)
theorem qM_X5_108 : Cond.methodLink RX5 108 yX5_receive ∈ TB := tb_of 1052 (by decide +kernel) (by decide +kernel)
theorem qI_X5_receive : Cond.instanceMethod yX5_receive ∈ TB := tb_of 1053 (by decide +kernel) (by decide +kernel)
theorem qS_X5_receive : Cond.selects RX5 yX5_receive yX5_receive ∈ TB := tb_of 1054 (by decide +kernel) (by decide +kernel)
theorem qC_X5_receive : Cond.code yX5_receive cX5_receive 3 (none : Option Jvm.ClassFile.FieldType) ∈ TB := tb_of 1055 (by decide +kernel) (by decide +kernel)
theorem qM_X5_111 : Cond.methodLink RX5 111 yX5_chargeOrEvict ∈ TB := tb_of 1056 (by decide +kernel) (by decide +kernel)
theorem qI_X5_chargeOrEvict : Cond.instanceMethod yX5_chargeOrEvict ∈ TB := tb_of 1058 (by decide +kernel) (by decide +kernel)
theorem qC_X5_chargeOrEvict : Cond.code yX5_chargeOrEvict cX5_chargeOrEvict 4 (none : Option Jvm.ClassFile.FieldType) ∈ TB := tb_of 1059 (by decide +kernel) (by decide +kernel)
theorem qM_L_13 : Cond.methodLink RL 13 yL_pick ∈ TB := tb_of 1060 (by decide +kernel) (by decide +kernel)
theorem qT_L_pick : Cond.static yL_pick ∈ TB := tb_of 1061 (by decide +kernel) (by decide +kernel)
theorem qC_L_pick : Cond.code yL_pick cL_pick 2 (some .int) ∈ TB := tb_of 1062 (by decide +kernel) (by decide +kernel)
theorem qO_1047 : Cond.sameMethod "java/lang/Throwable" "java/lang/Throwable" "fillInStackTrace" "(I)Ljava/lang/Throwable;" ∈ TB := tb_of 1063 (by decide +kernel) (by decide +kernel)
theorem qF_J0_9 : Cond.fieldLink RJ0 9 RJ0 "value" "[B" ∈ TB := tb_of 1064 (by decide +kernel) (by decide +kernel)
theorem qF_J0_15 : Cond.fieldLink RJ0 15 RJ0 "coder" "B" ∈ TB := tb_of 1065 (by decide +kernel) (by decide +kernel)
end
section
theorem dX1_init_0 : decode cX1_init 0 = .ok (.aload_n 0, 1) := by decide +kernel
theorem dX1_init_1 : decode cX1_init 1 = .ok (.invokespecial 3, 3) := by decide +kernel
theorem dX1_init_4 : decode cX1_init 4 = .ok (.aload_n 0, 1) := by decide +kernel
theorem dX1_init_5 : decode cX1_init 5 = .ok (.bipush 8, 2) := by decide +kernel
theorem dX1_init_7 : decode cX1_init 7 = .ok (.newarray .int, 2) := by decide +kernel
theorem dX1_init_9 : decode cX1_init 9 = .ok (.putfield 9, 3) := by decide +kernel
theorem dX1_init_12 : decode cX1_init 12 = .ok (.aload_n 0, 1) := by decide +kernel
theorem dX1_init_13 : decode cX1_init 13 = .ok (.bipush 8, 2) := by decide +kernel
theorem dX1_init_15 : decode cX1_init 15 = .ok (.newarray .boolean, 2) := by decide +kernel
theorem dX1_init_17 : decode cX1_init 17 = .ok (.putfield 15, 3) := by decide +kernel
theorem dX1_init_20 : decode cX1_init 20 = .ok (.aload_n 0, 1) := by decide +kernel
theorem dX1_init_21 : decode cX1_init 21 = .ok (.bipush 8, 2) := by decide +kernel
theorem dX1_init_23 : decode cX1_init 23 = .ok (.newarray .boolean, 2) := by decide +kernel
theorem dX1_init_25 : decode cX1_init 25 = .ok (.putfield 19, 3) := by decide +kernel
theorem dX1_init_28 : decode cX1_init 28 = .ok (.aload_n 0, 1) := by decide +kernel
theorem dX1_init_29 : decode cX1_init 29 = .ok (.bipush 8, 2) := by decide +kernel
theorem dX1_init_31 : decode cX1_init 31 = .ok (.newarray .int, 2) := by decide +kernel
theorem dX1_init_33 : decode cX1_init 33 = .ok (.putfield 22, 3) := by decide +kernel
theorem dX1_init_36 : decode cX1_init 36 = .ok (.aload_n 0, 1) := by decide +kernel
theorem dX1_init_37 : decode cX1_init 37 = .ok (.iconst 0, 1) := by decide +kernel
theorem dX1_init_38 : decode cX1_init 38 = .ok (.putfield 25, 3) := by decide +kernel
theorem dX1_init_41 : decode cX1_init 41 = .ok (.return_, 1) := by decide +kernel
theorem dX1_decide_0 : decode cX1_decide 0 = .ok (.aload_n 0, 1) := by decide +kernel
theorem dX1_decide_1 : decode cX1_decide 1 = .ok (.iconst 0, 1) := by decide +kernel
theorem dX1_decide_2 : decode cX1_decide 2 = .ok (.putfield 25, 3) := by decide +kernel
theorem dX1_decide_5 : decode cX1_decide 5 = .ok (.iconst 0, 1) := by decide +kernel
theorem dX1_decide_6 : decode cX1_decide 6 = .ok (.istore_n 2, 1) := by decide +kernel
theorem dX1_decide_7 : decode cX1_decide 7 = .ok (.iload_n 2, 1) := by decide +kernel
theorem dX1_decide_8 : decode cX1_decide 8 = .ok (.bipush 8, 2) := by decide +kernel
theorem dX1_decide_10 : decode cX1_decide 10 = .ok (.if_icmp .ge 23, 3) := by decide +kernel
theorem dX1_decide_13 : decode cX1_decide 13 = .ok (.aload_n 0, 1) := by decide +kernel
theorem dX1_decide_14 : decode cX1_decide 14 = .ok (.getfield 9, 3) := by decide +kernel
theorem dX1_decide_17 : decode cX1_decide 17 = .ok (.iload_n 2, 1) := by decide +kernel
theorem dX1_decide_18 : decode cX1_decide 18 = .ok (.iconst (-1), 1) := by decide +kernel
theorem dX1_decide_19 : decode cX1_decide 19 = .ok (.iastore, 1) := by decide +kernel
theorem dX1_decide_20 : decode cX1_decide 20 = .ok (.aload_n 0, 1) := by decide +kernel
theorem dX1_decide_21 : decode cX1_decide 21 = .ok (.getfield 15, 3) := by decide +kernel
theorem dX1_decide_24 : decode cX1_decide 24 = .ok (.iload_n 2, 1) := by decide +kernel
theorem dX1_decide_25 : decode cX1_decide 25 = .ok (.iconst 0, 1) := by decide +kernel
theorem dX1_decide_26 : decode cX1_decide 26 = .ok (.bastore, 1) := by decide +kernel
theorem dX1_decide_27 : decode cX1_decide 27 = .ok (.iinc 2 1, 3) := by decide +kernel
theorem dX1_decide_30 : decode cX1_decide 30 = .ok (.goto (-23), 3) := by decide +kernel
theorem dX1_decide_33 : decode cX1_decide 33 = .ok (.iconst 0, 1) := by decide +kernel
theorem dX1_decide_34 : decode cX1_decide 34 = .ok (.istore_n 2, 1) := by decide +kernel
theorem dX1_decide_35 : decode cX1_decide 35 = .ok (.iload_n 2, 1) := by decide +kernel
theorem dX1_decide_36 : decode cX1_decide 36 = .ok (.bipush 8, 2) := by decide +kernel
theorem dX1_decide_38 : decode cX1_decide 38 = .ok (.if_icmp .ge 16, 3) := by decide +kernel
theorem dX1_decide_41 : decode cX1_decide 41 = .ok (.aload_n 0, 1) := by decide +kernel
theorem dX1_decide_42 : decode cX1_decide 42 = .ok (.getfield 19, 3) := by decide +kernel
theorem dX1_decide_45 : decode cX1_decide 45 = .ok (.iload_n 2, 1) := by decide +kernel
theorem dX1_decide_46 : decode cX1_decide 46 = .ok (.iconst 0, 1) := by decide +kernel
theorem dX1_decide_47 : decode cX1_decide 47 = .ok (.bastore, 1) := by decide +kernel
theorem dX1_decide_48 : decode cX1_decide 48 = .ok (.iinc 2 1, 3) := by decide +kernel
theorem dX1_decide_51 : decode cX1_decide 51 = .ok (.goto (-16), 3) := by decide +kernel
theorem dX1_decide_54 : decode cX1_decide 54 = .ok (.iconst 0, 1) := by decide +kernel
theorem dX1_decide_55 : decode cX1_decide 55 = .ok (.istore_n 2, 1) := by decide +kernel
theorem dX1_decide_56 : decode cX1_decide 56 = .ok (.iload_n 2, 1) := by decide +kernel
theorem dX1_decide_57 : decode cX1_decide 57 = .ok (.bipush 16, 2) := by decide +kernel
theorem dX1_decide_59 : decode cX1_decide 59 = .ok (.if_icmp .ge 48, 3) := by decide +kernel
theorem dX1_decide_62 : decode cX1_decide 62 = .ok (.aload_n 0, 1) := by decide +kernel
theorem dX1_decide_63 : decode cX1_decide 63 = .ok (.getfield 25, 3) := by decide +kernel
theorem dX1_decide_66 : decode cX1_decide 66 = .ok (.ifCond .ne 12, 3) := by decide +kernel
theorem dX1_decide_69 : decode cX1_decide 69 = .ok (.aload_n 0, 1) := by decide +kernel
theorem dX1_decide_70 : decode cX1_decide 70 = .ok (.aload_n 0, 1) := by decide +kernel
theorem dX1_decide_71 : decode cX1_decide 71 = .ok (.aload_n 1, 1) := by decide +kernel
theorem dX1_decide_72 : decode cX1_decide 72 = .ok (.invokevirtual 29, 3) := by decide +kernel
theorem dX1_decide_75 : decode cX1_decide 75 = .ok (.invokevirtual 33, 3) := by decide +kernel
theorem dX1_decide_78 : decode cX1_decide 78 = .ok (.aload_n 0, 1) := by decide +kernel
theorem dX1_decide_79 : decode cX1_decide 79 = .ok (.getfield 25, 3) := by decide +kernel
theorem dX1_decide_82 : decode cX1_decide 82 = .ok (.ifCond .le 19, 3) := by decide +kernel
theorem dX1_decide_85 : decode cX1_decide 85 = .ok (.aload_n 0, 1) := by decide +kernel
theorem dX1_decide_86 : decode cX1_decide 86 = .ok (.aload_n 1, 1) := by decide +kernel
theorem dX1_decide_87 : decode cX1_decide 87 = .ok (.aload_n 0, 1) := by decide +kernel
theorem dX1_decide_88 : decode cX1_decide 88 = .ok (.getfield 22, 3) := by decide +kernel
theorem dX1_decide_91 : decode cX1_decide 91 = .ok (.aload_n 0, 1) := by decide +kernel
theorem dX1_decide_92 : decode cX1_decide 92 = .ok (.getfield 25, 3) := by decide +kernel
theorem dX1_decide_95 : decode cX1_decide 95 = .ok (.iconst 1, 1) := by decide +kernel
theorem dX1_decide_96 : decode cX1_decide 96 = .ok (.isub, 1) := by decide +kernel
theorem dX1_decide_97 : decode cX1_decide 97 = .ok (.iaload, 1) := by decide +kernel
theorem dX1_decide_98 : decode cX1_decide 98 = .ok (.invokevirtual 37, 3) := by decide +kernel
theorem dX1_decide_101 : decode cX1_decide 101 = .ok (.iinc 2 1, 3) := by decide +kernel
theorem dX1_decide_104 : decode cX1_decide 104 = .ok (.goto (-48), 3) := by decide +kernel
theorem dX1_decide_107 : decode cX1_decide 107 = .ok (.return_, 1) := by decide +kernel
theorem dX1_nextInTurn_0 : decode cX1_nextInTurn 0 = .ok (.iconst (-1), 1) := by decide +kernel
theorem dX1_nextInTurn_1 : decode cX1_nextInTurn 1 = .ok (.istore_n 2, 1) := by decide +kernel
theorem dX1_nextInTurn_2 : decode cX1_nextInTurn 2 = .ok (.iconst 0, 1) := by decide +kernel
theorem dX1_nextInTurn_3 : decode cX1_nextInTurn 3 = .ok (.istore_n 3, 1) := by decide +kernel
theorem dX1_nextInTurn_4 : decode cX1_nextInTurn 4 = .ok (.iload_n 3, 1) := by decide +kernel
theorem dX1_nextInTurn_5 : decode cX1_nextInTurn 5 = .ok (.aload_n 1, 1) := by decide +kernel
theorem dX1_nextInTurn_6 : decode cX1_nextInTurn 6 = .ok (.getfield 41, 3) := by decide +kernel
theorem dX1_nextInTurn_9 : decode cX1_nextInTurn 9 = .ok (.if_icmp .ge 38, 3) := by decide +kernel
theorem dX1_nextInTurn_12 : decode cX1_nextInTurn 12 = .ok (.aload_n 0, 1) := by decide +kernel
theorem dX1_nextInTurn_13 : decode cX1_nextInTurn 13 = .ok (.getfield 15, 3) := by decide +kernel
theorem dX1_nextInTurn_16 : decode cX1_nextInTurn 16 = .ok (.iload_n 3, 1) := by decide +kernel
theorem dX1_nextInTurn_17 : decode cX1_nextInTurn 17 = .ok (.baload, 1) := by decide +kernel
theorem dX1_nextInTurn_18 : decode cX1_nextInTurn 18 = .ok (.ifCond .ne 23, 3) := by decide +kernel
theorem dX1_nextInTurn_21 : decode cX1_nextInTurn 21 = .ok (.iload_n 2, 1) := by decide +kernel
theorem dX1_nextInTurn_22 : decode cX1_nextInTurn 22 = .ok (.iconst (-1), 1) := by decide +kernel
theorem dX1_nextInTurn_23 : decode cX1_nextInTurn 23 = .ok (.if_icmp .eq 16, 3) := by decide +kernel
theorem dX1_nextInTurn_26 : decode cX1_nextInTurn 26 = .ok (.aload_n 1, 1) := by decide +kernel
theorem dX1_nextInTurn_27 : decode cX1_nextInTurn 27 = .ok (.iload_n 3, 1) := by decide +kernel
theorem dX1_nextInTurn_28 : decode cX1_nextInTurn 28 = .ok (.invokevirtual 46, 3) := by decide +kernel
theorem dX1_nextInTurn_31 : decode cX1_nextInTurn 31 = .ok (.aload_n 1, 1) := by decide +kernel
theorem dX1_nextInTurn_32 : decode cX1_nextInTurn 32 = .ok (.iload_n 2, 1) := by decide +kernel
theorem dX1_nextInTurn_33 : decode cX1_nextInTurn 33 = .ok (.invokevirtual 46, 3) := by decide +kernel
theorem dX1_nextInTurn_36 : decode cX1_nextInTurn 36 = .ok (.if_icmp .ge 5, 3) := by decide +kernel
theorem dX1_nextInTurn_39 : decode cX1_nextInTurn 39 = .ok (.iload_n 3, 1) := by decide +kernel
theorem dX1_nextInTurn_40 : decode cX1_nextInTurn 40 = .ok (.istore_n 2, 1) := by decide +kernel
theorem dX1_nextInTurn_41 : decode cX1_nextInTurn 41 = .ok (.iinc 3 1, 3) := by decide +kernel
theorem dX1_nextInTurn_44 : decode cX1_nextInTurn 44 = .ok (.goto (-40), 3) := by decide +kernel
theorem dX1_nextInTurn_47 : decode cX1_nextInTurn 47 = .ok (.iload_n 2, 1) := by decide +kernel
theorem dX1_nextInTurn_48 : decode cX1_nextInTurn 48 = .ok (.ireturn, 1) := by decide +kernel
theorem dX1_append_0 : decode cX1_append 0 = .ok (.iload_n 1, 1) := by decide +kernel
theorem dX1_append_1 : decode cX1_append 1 = .ok (.iconst (-1), 1) := by decide +kernel
theorem dX1_append_2 : decode cX1_append 2 = .ok (.if_icmp .eq 32, 3) := by decide +kernel
theorem dX1_append_5 : decode cX1_append 5 = .ok (.aload_n 0, 1) := by decide +kernel
theorem dX1_append_6 : decode cX1_append 6 = .ok (.getfield 25, 3) := by decide +kernel
theorem dX1_append_9 : decode cX1_append 9 = .ok (.bipush 8, 2) := by decide +kernel
theorem dX1_append_11 : decode cX1_append 11 = .ok (.if_icmp .ge 23, 3) := by decide +kernel
theorem dX1_append_14 : decode cX1_append 14 = .ok (.aload_n 0, 1) := by decide +kernel
theorem dX1_append_15 : decode cX1_append 15 = .ok (.getfield 22, 3) := by decide +kernel
theorem dX1_append_18 : decode cX1_append 18 = .ok (.aload_n 0, 1) := by decide +kernel
theorem dX1_append_19 : decode cX1_append 19 = .ok (.getfield 25, 3) := by decide +kernel
theorem dX1_append_22 : decode cX1_append 22 = .ok (.iload_n 1, 1) := by decide +kernel
theorem dX1_append_23 : decode cX1_append 23 = .ok (.iastore, 1) := by decide +kernel
theorem dX1_append_24 : decode cX1_append 24 = .ok (.aload_n 0, 1) := by decide +kernel
theorem dX1_append_25 : decode cX1_append 25 = .ok (.dup, 1) := by decide +kernel
theorem dX1_append_26 : decode cX1_append 26 = .ok (.getfield 25, 3) := by decide +kernel
theorem dX1_append_29 : decode cX1_append 29 = .ok (.iconst 1, 1) := by decide +kernel
theorem dX1_append_30 : decode cX1_append 30 = .ok (.iadd, 1) := by decide +kernel
theorem dX1_append_31 : decode cX1_append 31 = .ok (.putfield 25, 3) := by decide +kernel
theorem dX1_append_34 : decode cX1_append 34 = .ok (.return_, 1) := by decide +kernel
theorem dX1_serve_0 : decode cX1_serve 0 = .ok (.aload_n 0, 1) := by decide +kernel
theorem dX1_serve_1 : decode cX1_serve 1 = .ok (.aload_n 1, 1) := by decide +kernel
theorem dX1_serve_2 : decode cX1_serve 2 = .ok (.iload_n 2, 1) := by decide +kernel
theorem dX1_serve_3 : decode cX1_serve 3 = .ok (.invokevirtual 50, 3) := by decide +kernel
theorem dX1_serve_6 : decode cX1_serve 6 = .ok (.istore_n 3, 1) := by decide +kernel
theorem dX1_serve_7 : decode cX1_serve 7 = .ok (.aload_n 0, 1) := by decide +kernel
theorem dX1_serve_8 : decode cX1_serve 8 = .ok (.getfield 9, 3) := by decide +kernel
theorem dX1_serve_11 : decode cX1_serve 11 = .ok (.iload_n 2, 1) := by decide +kernel
theorem dX1_serve_12 : decode cX1_serve 12 = .ok (.iload_n 3, 1) := by decide +kernel
theorem dX1_serve_13 : decode cX1_serve 13 = .ok (.iastore, 1) := by decide +kernel
theorem dX1_serve_14 : decode cX1_serve 14 = .ok (.aload_n 1, 1) := by decide +kernel
theorem dX1_serve_15 : decode cX1_serve 15 = .ok (.iload_n 3, 1) := by decide +kernel
theorem dX1_serve_16 : decode cX1_serve 16 = .ok (.invokevirtual 54, 3) := by decide +kernel
theorem dX1_serve_19 : decode cX1_serve 19 = .ok (.istore 4, 2) := by decide +kernel
theorem dX1_serve_21 : decode cX1_serve 21 = .ok (.iload 4, 2) := by decide +kernel
theorem dX1_serve_23 : decode cX1_serve 23 = .ok (.iconst (-1), 1) := by decide +kernel
theorem dX1_serve_24 : decode cX1_serve 24 = .ok (.if_icmp .eq 19, 3) := by decide +kernel
theorem dX1_serve_27 : decode cX1_serve 27 = .ok (.iload 4, 2) := by decide +kernel
theorem dX1_serve_29 : decode cX1_serve 29 = .ok (.iload_n 2, 1) := by decide +kernel
theorem dX1_serve_30 : decode cX1_serve 30 = .ok (.if_icmp .eq 13, 3) := by decide +kernel
theorem dX1_serve_33 : decode cX1_serve 33 = .ok (.aload_n 0, 1) := by decide +kernel
theorem dX1_serve_34 : decode cX1_serve 34 = .ok (.getfield 15, 3) := by decide +kernel
theorem dX1_serve_37 : decode cX1_serve 37 = .ok (.iload 4, 2) := by decide +kernel
theorem dX1_serve_39 : decode cX1_serve 39 = .ok (.baload, 1) := by decide +kernel
theorem dX1_serve_40 : decode cX1_serve 40 = .ok (.ifCond .eq 14, 3) := by decide +kernel
theorem dX1_serve_43 : decode cX1_serve 43 = .ok (.aload_n 0, 1) := by decide +kernel
theorem dX1_serve_44 : decode cX1_serve 44 = .ok (.aload_n 0, 1) := by decide +kernel
theorem dX1_serve_45 : decode cX1_serve 45 = .ok (.getfield 25, 3) := by decide +kernel
theorem dX1_serve_48 : decode cX1_serve 48 = .ok (.iconst 1, 1) := by decide +kernel
theorem dX1_serve_49 : decode cX1_serve 49 = .ok (.isub, 1) := by decide +kernel
theorem dX1_serve_50 : decode cX1_serve 50 = .ok (.invokevirtual 57, 3) := by decide +kernel
theorem dX1_serve_53 : decode cX1_serve 53 = .ok (.return_, 1) := by decide +kernel
theorem dX1_serve_54 : decode cX1_serve 54 = .ok (.aload_n 0, 1) := by decide +kernel
theorem dX1_serve_55 : decode cX1_serve 55 = .ok (.iload 4, 2) := by decide +kernel
theorem dX1_serve_57 : decode cX1_serve 57 = .ok (.invokevirtual 60, 3) := by decide +kernel
theorem dX1_serve_60 : decode cX1_serve 60 = .ok (.istore 5, 2) := by decide +kernel
theorem dX1_serve_62 : decode cX1_serve 62 = .ok (.iload 5, 2) := by decide +kernel
theorem dX1_serve_64 : decode cX1_serve 64 = .ok (.iconst (-1), 1) := by decide +kernel
theorem dX1_serve_65 : decode cX1_serve 65 = .ok (.if_icmp .ne 12, 3) := by decide +kernel
theorem dX1_serve_68 : decode cX1_serve 68 = .ok (.aload_n 0, 1) := by decide +kernel
theorem dX1_serve_69 : decode cX1_serve 69 = .ok (.iload 4, 2) := by decide +kernel
theorem dX1_serve_71 : decode cX1_serve 71 = .ok (.invokevirtual 33, 3) := by decide +kernel
theorem dX1_serve_74 : decode cX1_serve 74 = .ok (.goto 9, 3) := by decide +kernel
theorem dX1_serve_77 : decode cX1_serve 77 = .ok (.aload_n 0, 1) := by decide +kernel
theorem dX1_serve_78 : decode cX1_serve 78 = .ok (.iload 5, 2) := by decide +kernel
theorem dX1_serve_80 : decode cX1_serve 80 = .ok (.invokevirtual 57, 3) := by decide +kernel
theorem dX1_serve_83 : decode cX1_serve 83 = .ok (.return_, 1) := by decide +kernel
theorem dX1_firstAvailable_0 : decode cX1_firstAvailable 0 = .ok (.iconst 0, 1) := by decide +kernel
theorem dX1_firstAvailable_1 : decode cX1_firstAvailable 1 = .ok (.istore_n 3, 1) := by decide +kernel
theorem dX1_firstAvailable_2 : decode cX1_firstAvailable 2 = .ok (.iload_n 3, 1) := by decide +kernel
theorem dX1_firstAvailable_3 : decode cX1_firstAvailable 3 = .ok (.aload_n 1, 1) := by decide +kernel
theorem dX1_firstAvailable_4 : decode cX1_firstAvailable 4 = .ok (.iload_n 2, 1) := by decide +kernel
theorem dX1_firstAvailable_5 : decode cX1_firstAvailable 5 = .ok (.invokevirtual 63, 3) := by decide +kernel
theorem dX1_firstAvailable_8 : decode cX1_firstAvailable 8 = .ok (.if_icmp .ge 36, 3) := by decide +kernel
theorem dX1_firstAvailable_11 : decode cX1_firstAvailable 11 = .ok (.aload_n 1, 1) := by decide +kernel
theorem dX1_firstAvailable_12 : decode cX1_firstAvailable 12 = .ok (.iload_n 2, 1) := by decide +kernel
theorem dX1_firstAvailable_13 : decode cX1_firstAvailable 13 = .ok (.iload_n 3, 1) := by decide +kernel
theorem dX1_firstAvailable_14 : decode cX1_firstAvailable 14 = .ok (.invokevirtual 66, 3) := by decide +kernel
theorem dX1_firstAvailable_17 : decode cX1_firstAvailable 17 = .ok (.istore 4, 2) := by decide +kernel
theorem dX1_firstAvailable_19 : decode cX1_firstAvailable 19 = .ok (.iload 4, 2) := by decide +kernel
theorem dX1_firstAvailable_21 : decode cX1_firstAvailable 21 = .ok (.iconst (-1), 1) := by decide +kernel
theorem dX1_firstAvailable_22 : decode cX1_firstAvailable 22 = .ok (.if_icmp .eq 16, 3) := by decide +kernel
theorem dX1_firstAvailable_25 : decode cX1_firstAvailable 25 = .ok (.aload_n 0, 1) := by decide +kernel
theorem dX1_firstAvailable_26 : decode cX1_firstAvailable 26 = .ok (.getfield 19, 3) := by decide +kernel
theorem dX1_firstAvailable_29 : decode cX1_firstAvailable 29 = .ok (.iload 4, 2) := by decide +kernel
theorem dX1_firstAvailable_31 : decode cX1_firstAvailable 31 = .ok (.baload, 1) := by decide +kernel
theorem dX1_firstAvailable_32 : decode cX1_firstAvailable 32 = .ok (.ifCond .ne 6, 3) := by decide +kernel
theorem dX1_firstAvailable_35 : decode cX1_firstAvailable 35 = .ok (.iload 4, 2) := by decide +kernel
theorem dX1_firstAvailable_37 : decode cX1_firstAvailable 37 = .ok (.ireturn, 1) := by decide +kernel
theorem dX1_firstAvailable_38 : decode cX1_firstAvailable 38 = .ok (.iinc 3 1, 3) := by decide +kernel
theorem dX1_firstAvailable_41 : decode cX1_firstAvailable 41 = .ok (.goto (-39), 3) := by decide +kernel
theorem dX1_firstAvailable_44 : decode cX1_firstAvailable 44 = .ok (.iconst (-1), 1) := by decide +kernel
theorem dX1_firstAvailable_45 : decode cX1_firstAvailable 45 = .ok (.ireturn, 1) := by decide +kernel
theorem dX1_placeInChain_0 : decode cX1_placeInChain 0 = .ok (.iconst 0, 1) := by decide +kernel
theorem dX1_placeInChain_1 : decode cX1_placeInChain 1 = .ok (.istore_n 2, 1) := by decide +kernel
theorem dX1_placeInChain_2 : decode cX1_placeInChain 2 = .ok (.iload_n 2, 1) := by decide +kernel
theorem dX1_placeInChain_3 : decode cX1_placeInChain 3 = .ok (.aload_n 0, 1) := by decide +kernel
theorem dX1_placeInChain_4 : decode cX1_placeInChain 4 = .ok (.getfield 25, 3) := by decide +kernel
theorem dX1_placeInChain_7 : decode cX1_placeInChain 7 = .ok (.if_icmp .ge 21, 3) := by decide +kernel
theorem dX1_placeInChain_10 : decode cX1_placeInChain 10 = .ok (.aload_n 0, 1) := by decide +kernel
theorem dX1_placeInChain_11 : decode cX1_placeInChain 11 = .ok (.getfield 22, 3) := by decide +kernel
theorem dX1_placeInChain_14 : decode cX1_placeInChain 14 = .ok (.iload_n 2, 1) := by decide +kernel
theorem dX1_placeInChain_15 : decode cX1_placeInChain 15 = .ok (.iaload, 1) := by decide +kernel
theorem dX1_placeInChain_16 : decode cX1_placeInChain 16 = .ok (.iload_n 1, 1) := by decide +kernel
theorem dX1_placeInChain_17 : decode cX1_placeInChain 17 = .ok (.if_icmp .ne 5, 3) := by decide +kernel
theorem dX1_placeInChain_20 : decode cX1_placeInChain 20 = .ok (.iload_n 2, 1) := by decide +kernel
theorem dX1_placeInChain_21 : decode cX1_placeInChain 21 = .ok (.ireturn, 1) := by decide +kernel
theorem dX1_placeInChain_22 : decode cX1_placeInChain 22 = .ok (.iinc 2 1, 3) := by decide +kernel
theorem dX1_placeInChain_25 : decode cX1_placeInChain 25 = .ok (.goto (-23), 3) := by decide +kernel
theorem dX1_placeInChain_28 : decode cX1_placeInChain 28 = .ok (.iconst (-1), 1) := by decide +kernel
theorem dX1_placeInChain_29 : decode cX1_placeInChain 29 = .ok (.ireturn, 1) := by decide +kernel
theorem dX1_finishFrom_0 : decode cX1_finishFrom 0 = .ok (.iload_n 1, 1) := by decide +kernel
theorem dX1_finishFrom_1 : decode cX1_finishFrom 1 = .ok (.istore_n 2, 1) := by decide +kernel
theorem dX1_finishFrom_2 : decode cX1_finishFrom 2 = .ok (.iload_n 2, 1) := by decide +kernel
theorem dX1_finishFrom_3 : decode cX1_finishFrom 3 = .ok (.ifCond .lt 53, 3) := by decide +kernel
theorem dX1_finishFrom_6 : decode cX1_finishFrom 6 = .ok (.iload_n 2, 1) := by decide +kernel
theorem dX1_finishFrom_7 : decode cX1_finishFrom 7 = .ok (.aload_n 0, 1) := by decide +kernel
theorem dX1_finishFrom_8 : decode cX1_finishFrom 8 = .ok (.getfield 25, 3) := by decide +kernel
theorem dX1_finishFrom_11 : decode cX1_finishFrom 11 = .ok (.if_icmp .ge 45, 3) := by decide +kernel
theorem dX1_finishFrom_14 : decode cX1_finishFrom 14 = .ok (.aload_n 0, 1) := by decide +kernel
theorem dX1_finishFrom_15 : decode cX1_finishFrom 15 = .ok (.getfield 22, 3) := by decide +kernel
theorem dX1_finishFrom_18 : decode cX1_finishFrom 18 = .ok (.iload_n 2, 1) := by decide +kernel
theorem dX1_finishFrom_19 : decode cX1_finishFrom 19 = .ok (.iaload, 1) := by decide +kernel
theorem dX1_finishFrom_20 : decode cX1_finishFrom 20 = .ok (.istore_n 3, 1) := by decide +kernel
theorem dX1_finishFrom_21 : decode cX1_finishFrom 21 = .ok (.aload_n 0, 1) := by decide +kernel
theorem dX1_finishFrom_22 : decode cX1_finishFrom 22 = .ok (.getfield 15, 3) := by decide +kernel
theorem dX1_finishFrom_25 : decode cX1_finishFrom 25 = .ok (.iload_n 3, 1) := by decide +kernel
theorem dX1_finishFrom_26 : decode cX1_finishFrom 26 = .ok (.iconst 1, 1) := by decide +kernel
theorem dX1_finishFrom_27 : decode cX1_finishFrom 27 = .ok (.bastore, 1) := by decide +kernel
theorem dX1_finishFrom_28 : decode cX1_finishFrom 28 = .ok (.aload_n 0, 1) := by decide +kernel
theorem dX1_finishFrom_29 : decode cX1_finishFrom 29 = .ok (.getfield 9, 3) := by decide +kernel
theorem dX1_finishFrom_32 : decode cX1_finishFrom 32 = .ok (.iload_n 3, 1) := by decide +kernel
theorem dX1_finishFrom_33 : decode cX1_finishFrom 33 = .ok (.iaload, 1) := by decide +kernel
theorem dX1_finishFrom_34 : decode cX1_finishFrom 34 = .ok (.istore 4, 2) := by decide +kernel
theorem dX1_finishFrom_36 : decode cX1_finishFrom 36 = .ok (.iload 4, 2) := by decide +kernel
theorem dX1_finishFrom_38 : decode cX1_finishFrom 38 = .ok (.iconst (-1), 1) := by decide +kernel
theorem dX1_finishFrom_39 : decode cX1_finishFrom 39 = .ok (.if_icmp .eq 11, 3) := by decide +kernel
theorem dX1_finishFrom_42 : decode cX1_finishFrom 42 = .ok (.aload_n 0, 1) := by decide +kernel
theorem dX1_finishFrom_43 : decode cX1_finishFrom 43 = .ok (.getfield 19, 3) := by decide +kernel
theorem dX1_finishFrom_46 : decode cX1_finishFrom 46 = .ok (.iload 4, 2) := by decide +kernel
theorem dX1_finishFrom_48 : decode cX1_finishFrom 48 = .ok (.iconst 1, 1) := by decide +kernel
theorem dX1_finishFrom_49 : decode cX1_finishFrom 49 = .ok (.bastore, 1) := by decide +kernel
theorem dX1_finishFrom_50 : decode cX1_finishFrom 50 = .ok (.iinc 2 1, 3) := by decide +kernel
theorem dX1_finishFrom_53 : decode cX1_finishFrom 53 = .ok (.goto (-51), 3) := by decide +kernel
theorem dX1_finishFrom_56 : decode cX1_finishFrom 56 = .ok (.aload_n 0, 1) := by decide +kernel
theorem dX1_finishFrom_57 : decode cX1_finishFrom 57 = .ok (.iload_n 1, 1) := by decide +kernel
theorem dX1_finishFrom_58 : decode cX1_finishFrom 58 = .ok (.putfield 25, 3) := by decide +kernel
theorem dX1_finishFrom_61 : decode cX1_finishFrom 61 = .ok (.return_, 1) := by decide +kernel
theorem dX1_givenTo_0 : decode cX1_givenTo 0 = .ok (.iload_n 1, 1) := by decide +kernel
theorem dX1_givenTo_1 : decode cX1_givenTo 1 = .ok (.ifCond .lt 9, 3) := by decide +kernel
theorem dX1_givenTo_4 : decode cX1_givenTo 4 = .ok (.iload_n 1, 1) := by decide +kernel
theorem dX1_givenTo_5 : decode cX1_givenTo 5 = .ok (.bipush 8, 2) := by decide +kernel
theorem dX1_givenTo_7 : decode cX1_givenTo 7 = .ok (.if_icmp .lt 7, 3) := by decide +kernel
theorem dX1_givenTo_10 : decode cX1_givenTo 10 = .ok (.iconst (-1), 1) := by decide +kernel
theorem dX1_givenTo_11 : decode cX1_givenTo 11 = .ok (.goto 9, 3) := by decide +kernel
theorem dX1_givenTo_14 : decode cX1_givenTo 14 = .ok (.aload_n 0, 1) := by decide +kernel
theorem dX1_givenTo_15 : decode cX1_givenTo 15 = .ok (.getfield 9, 3) := by decide +kernel
theorem dX1_givenTo_18 : decode cX1_givenTo 18 = .ok (.iload_n 1, 1) := by decide +kernel
theorem dX1_givenTo_19 : decode cX1_givenTo 19 = .ok (.iaload, 1) := by decide +kernel
theorem dX1_givenTo_20 : decode cX1_givenTo 20 = .ok (.ireturn, 1) := by decide +kernel
theorem dX1_applyTo_0 : decode cX1_applyTo 0 = .ok (.iconst 0, 1) := by decide +kernel
theorem dX1_applyTo_1 : decode cX1_applyTo 1 = .ok (.istore_n 2, 1) := by decide +kernel
theorem dX1_applyTo_2 : decode cX1_applyTo 2 = .ok (.iconst 0, 1) := by decide +kernel
theorem dX1_applyTo_3 : decode cX1_applyTo 3 = .ok (.istore_n 3, 1) := by decide +kernel
theorem dX1_applyTo_4 : decode cX1_applyTo 4 = .ok (.iload_n 3, 1) := by decide +kernel
theorem dX1_applyTo_5 : decode cX1_applyTo 5 = .ok (.aload_n 1, 1) := by decide +kernel
theorem dX1_applyTo_6 : decode cX1_applyTo 6 = .ok (.getfield 41, 3) := by decide +kernel
theorem dX1_applyTo_9 : decode cX1_applyTo 9 = .ok (.if_icmp .ge 45, 3) := by decide +kernel
theorem dX1_applyTo_12 : decode cX1_applyTo 12 = .ok (.aload_n 0, 1) := by decide +kernel
theorem dX1_applyTo_13 : decode cX1_applyTo 13 = .ok (.iload_n 3, 1) := by decide +kernel
theorem dX1_applyTo_14 : decode cX1_applyTo 14 = .ok (.invokevirtual 70, 3) := by decide +kernel
theorem dX1_applyTo_17 : decode cX1_applyTo 17 = .ok (.istore 4, 2) := by decide +kernel
theorem dX1_applyTo_19 : decode cX1_applyTo 19 = .ok (.iload 4, 2) := by decide +kernel
theorem dX1_applyTo_21 : decode cX1_applyTo 21 = .ok (.aload_n 1, 1) := by decide +kernel
theorem dX1_applyTo_22 : decode cX1_applyTo 22 = .ok (.iload_n 3, 1) := by decide +kernel
theorem dX1_applyTo_23 : decode cX1_applyTo 23 = .ok (.invokevirtual 73, 3) := by decide +kernel
theorem dX1_applyTo_26 : decode cX1_applyTo 26 = .ok (.if_icmp .eq 22, 3) := by decide +kernel
theorem dX1_applyTo_29 : decode cX1_applyTo 29 = .ok (.iinc 2 1, 3) := by decide +kernel
theorem dX1_applyTo_32 : decode cX1_applyTo 32 = .ok (.iload 4, 2) := by decide +kernel
theorem dX1_applyTo_34 : decode cX1_applyTo 34 = .ok (.iconst (-1), 1) := by decide +kernel
theorem dX1_applyTo_35 : decode cX1_applyTo 35 = .ok (.if_icmp .eq 13, 3) := by decide +kernel
theorem dX1_applyTo_38 : decode cX1_applyTo 38 = .ok (.aload_n 1, 1) := by decide +kernel
theorem dX1_applyTo_39 : decode cX1_applyTo 39 = .ok (.dup, 1) := by decide +kernel
theorem dX1_applyTo_40 : decode cX1_applyTo 40 = .ok (.getfield 76, 3) := by decide +kernel
theorem dX1_applyTo_43 : decode cX1_applyTo 43 = .ok (.iconst 1, 1) := by decide +kernel
theorem dX1_applyTo_44 : decode cX1_applyTo 44 = .ok (.iadd, 1) := by decide +kernel
theorem dX1_applyTo_45 : decode cX1_applyTo 45 = .ok (.putfield 76, 3) := by decide +kernel
theorem dX1_applyTo_48 : decode cX1_applyTo 48 = .ok (.iinc 3 1, 3) := by decide +kernel
theorem dX1_applyTo_51 : decode cX1_applyTo 51 = .ok (.goto (-47), 3) := by decide +kernel
theorem dX1_applyTo_54 : decode cX1_applyTo 54 = .ok (.iconst 0, 1) := by decide +kernel
theorem dX1_applyTo_55 : decode cX1_applyTo 55 = .ok (.istore_n 3, 1) := by decide +kernel
theorem dX1_applyTo_56 : decode cX1_applyTo 56 = .ok (.iload_n 3, 1) := by decide +kernel
theorem dX1_applyTo_57 : decode cX1_applyTo 57 = .ok (.aload_n 1, 1) := by decide +kernel
theorem dX1_applyTo_58 : decode cX1_applyTo 58 = .ok (.getfield 41, 3) := by decide +kernel
theorem dX1_applyTo_61 : decode cX1_applyTo 61 = .ok (.if_icmp .ge 19, 3) := by decide +kernel
theorem dX1_applyTo_64 : decode cX1_applyTo 64 = .ok (.aload_n 1, 1) := by decide +kernel
theorem dX1_applyTo_65 : decode cX1_applyTo 65 = .ok (.iload_n 3, 1) := by decide +kernel
theorem dX1_applyTo_66 : decode cX1_applyTo 66 = .ok (.aload_n 0, 1) := by decide +kernel
theorem dX1_applyTo_67 : decode cX1_applyTo 67 = .ok (.iload_n 3, 1) := by decide +kernel
theorem dX1_applyTo_68 : decode cX1_applyTo 68 = .ok (.invokevirtual 70, 3) := by decide +kernel
theorem dX1_applyTo_71 : decode cX1_applyTo 71 = .ok (.invokevirtual 79, 3) := by decide +kernel
theorem dX1_applyTo_74 : decode cX1_applyTo 74 = .ok (.iinc 3 1, 3) := by decide +kernel
theorem dX1_applyTo_77 : decode cX1_applyTo 77 = .ok (.goto (-21), 3) := by decide +kernel
theorem dX1_applyTo_80 : decode cX1_applyTo 80 = .ok (.iload_n 2, 1) := by decide +kernel
theorem dX1_applyTo_81 : decode cX1_applyTo 81 = .ok (.ireturn, 1) := by decide +kernel
theorem dX2_init_0 : decode cX2_init 0 = .ok (.aload_n 0, 1) := by decide +kernel
theorem dX2_init_1 : decode cX2_init 1 = .ok (.invokespecial 3, 3) := by decide +kernel
theorem dX2_init_4 : decode cX2_init 4 = .ok (.aload_n 0, 1) := by decide +kernel
theorem dX2_init_5 : decode cX2_init 5 = .ok (.sipush 700, 3) := by decide +kernel
theorem dX2_init_8 : decode cX2_init 8 = .ok (.newarray .int, 2) := by decide +kernel
theorem dX2_init_10 : decode cX2_init 10 = .ok (.putfield 9, 3) := by decide +kernel
theorem dX2_init_13 : decode cX2_init 13 = .ok (.aload_n 0, 1) := by decide +kernel
theorem dX2_init_14 : decode cX2_init 14 = .ok (.iconst 0, 1) := by decide +kernel
theorem dX2_init_15 : decode cX2_init 15 = .ok (.putfield 15, 3) := by decide +kernel
theorem dX2_init_18 : decode cX2_init 18 = .ok (.return_, 1) := by decide +kernel
theorem dX2_byteAt_0 : decode cX2_byteAt 0 = .ok (.iload_n 1, 1) := by decide +kernel
theorem dX2_byteAt_1 : decode cX2_byteAt 1 = .ok (.ifCond .lt 11, 3) := by decide +kernel
theorem dX2_byteAt_4 : decode cX2_byteAt 4 = .ok (.iload_n 1, 1) := by decide +kernel
theorem dX2_byteAt_5 : decode cX2_byteAt 5 = .ok (.aload_n 0, 1) := by decide +kernel
theorem dX2_byteAt_6 : decode cX2_byteAt 6 = .ok (.getfield 15, 3) := by decide +kernel
theorem dX2_byteAt_9 : decode cX2_byteAt 9 = .ok (.if_icmp .lt 7, 3) := by decide +kernel
theorem dX2_byteAt_12 : decode cX2_byteAt 12 = .ok (.iconst (-1), 1) := by decide +kernel
theorem dX2_byteAt_13 : decode cX2_byteAt 13 = .ok (.goto 9, 3) := by decide +kernel
theorem dX2_byteAt_16 : decode cX2_byteAt 16 = .ok (.aload_n 0, 1) := by decide +kernel
theorem dX2_byteAt_17 : decode cX2_byteAt 17 = .ok (.getfield 9, 3) := by decide +kernel
theorem dX2_byteAt_20 : decode cX2_byteAt 20 = .ok (.iload_n 1, 1) := by decide +kernel
theorem dX2_byteAt_21 : decode cX2_byteAt 21 = .ok (.iaload, 1) := by decide +kernel
theorem dX2_byteAt_22 : decode cX2_byteAt 22 = .ok (.ireturn, 1) := by decide +kernel
theorem dX2_add_0 : decode cX2_add 0 = .ok (.aload_n 0, 1) := by decide +kernel
theorem dX2_add_1 : decode cX2_add 1 = .ok (.getfield 15, 3) := by decide +kernel
theorem dX2_add_4 : decode cX2_add 4 = .ok (.sipush 700, 3) := by decide +kernel
theorem dX2_add_7 : decode cX2_add 7 = .ok (.if_icmp .ge 23, 3) := by decide +kernel
theorem dX2_add_10 : decode cX2_add 10 = .ok (.aload_n 0, 1) := by decide +kernel
theorem dX2_add_11 : decode cX2_add 11 = .ok (.getfield 9, 3) := by decide +kernel
theorem dX2_add_14 : decode cX2_add 14 = .ok (.aload_n 0, 1) := by decide +kernel
theorem dX2_add_15 : decode cX2_add 15 = .ok (.getfield 15, 3) := by decide +kernel
theorem dX2_add_18 : decode cX2_add 18 = .ok (.iload_n 1, 1) := by decide +kernel
theorem dX2_add_19 : decode cX2_add 19 = .ok (.iastore, 1) := by decide +kernel
theorem dX2_add_20 : decode cX2_add 20 = .ok (.aload_n 0, 1) := by decide +kernel
theorem dX2_add_21 : decode cX2_add 21 = .ok (.dup, 1) := by decide +kernel
theorem dX2_add_22 : decode cX2_add 22 = .ok (.getfield 15, 3) := by decide +kernel
theorem dX2_add_25 : decode cX2_add 25 = .ok (.iconst 1, 1) := by decide +kernel
theorem dX2_add_26 : decode cX2_add 26 = .ok (.iadd, 1) := by decide +kernel
theorem dX2_add_27 : decode cX2_add 27 = .ok (.putfield 15, 3) := by decide +kernel
theorem dX2_add_30 : decode cX2_add 30 = .ok (.return_, 1) := by decide +kernel
theorem dX2_addWord_0 : decode cX2_addWord 0 = .ok (.bipush 24, 2) := by decide +kernel
theorem dX2_addWord_2 : decode cX2_addWord 2 = .ok (.istore_n 2, 1) := by decide +kernel
theorem dX2_addWord_3 : decode cX2_addWord 3 = .ok (.iload_n 2, 1) := by decide +kernel
theorem dX2_addWord_4 : decode cX2_addWord 4 = .ok (.ifCond .lt 20, 3) := by decide +kernel
theorem dX2_addWord_7 : decode cX2_addWord 7 = .ok (.aload_n 0, 1) := by decide +kernel
theorem dX2_addWord_8 : decode cX2_addWord 8 = .ok (.iload_n 1, 1) := by decide +kernel
theorem dX2_addWord_9 : decode cX2_addWord 9 = .ok (.iload_n 2, 1) := by decide +kernel
theorem dX2_addWord_10 : decode cX2_addWord 10 = .ok (.iushr, 1) := by decide +kernel
theorem dX2_addWord_11 : decode cX2_addWord 11 = .ok (.sipush 255, 3) := by decide +kernel
theorem dX2_addWord_14 : decode cX2_addWord 14 = .ok (.iand, 1) := by decide +kernel
theorem dX2_addWord_15 : decode cX2_addWord 15 = .ok (.invokevirtual 19, 3) := by decide +kernel
theorem dX2_addWord_18 : decode cX2_addWord 18 = .ok (.iinc 2 (-8), 3) := by decide +kernel
theorem dX2_addWord_21 : decode cX2_addWord 21 = .ok (.goto (-18), 3) := by decide +kernel
theorem dX2_addWord_24 : decode cX2_addWord 24 = .ok (.return_, 1) := by decide +kernel
theorem dX2_cut_0 : decode cX2_cut 0 = .ok (.iload_n 1, 1) := by decide +kernel
theorem dX2_cut_1 : decode cX2_cut 1 = .ok (.ifCond .lt 16, 3) := by decide +kernel
theorem dX2_cut_4 : decode cX2_cut 4 = .ok (.iload_n 1, 1) := by decide +kernel
theorem dX2_cut_5 : decode cX2_cut 5 = .ok (.aload_n 0, 1) := by decide +kernel
theorem dX2_cut_6 : decode cX2_cut 6 = .ok (.getfield 15, 3) := by decide +kernel
theorem dX2_cut_9 : decode cX2_cut 9 = .ok (.if_icmp .ge 8, 3) := by decide +kernel
theorem dX2_cut_12 : decode cX2_cut 12 = .ok (.aload_n 0, 1) := by decide +kernel
theorem dX2_cut_13 : decode cX2_cut 13 = .ok (.iload_n 1, 1) := by decide +kernel
theorem dX2_cut_14 : decode cX2_cut 14 = .ok (.putfield 15, 3) := by decide +kernel
theorem dX2_cut_17 : decode cX2_cut 17 = .ok (.return_, 1) := by decide +kernel
theorem dX3_wantsStallOf_0 : decode cX3_wantsStallOf 0 = .ok (.aload_n 0, 1) := by decide +kernel
theorem dX3_wantsStallOf_1 : decode cX3_wantsStallOf 1 = .ok (.iload_n 2, 1) := by decide +kernel
theorem dX3_wantsStallOf_2 : decode cX3_wantsStallOf 2 = .ok (.invokevirtual 9, 3) := by decide +kernel
theorem dX3_wantsStallOf_5 : decode cX3_wantsStallOf 5 = .ok (.istore_n 3, 1) := by decide +kernel
theorem dX3_wantsStallOf_6 : decode cX3_wantsStallOf 6 = .ok (.iload_n 3, 1) := by decide +kernel
theorem dX3_wantsStallOf_7 : decode cX3_wantsStallOf 7 = .ok (.iconst (-1), 1) := by decide +kernel
theorem dX3_wantsStallOf_8 : decode cX3_wantsStallOf 8 = .ok (.if_icmp .eq 21, 3) := by decide +kernel
theorem dX3_wantsStallOf_11 : decode cX3_wantsStallOf 11 = .ok (.aload_n 0, 1) := by decide +kernel
theorem dX3_wantsStallOf_12 : decode cX3_wantsStallOf 12 = .ok (.iload_n 1, 1) := by decide +kernel
theorem dX3_wantsStallOf_13 : decode cX3_wantsStallOf 13 = .ok (.iload_n 3, 1) := by decide +kernel
theorem dX3_wantsStallOf_14 : decode cX3_wantsStallOf 14 = .ok (.aload_n 0, 1) := by decide +kernel
theorem dX3_wantsStallOf_15 : decode cX3_wantsStallOf 15 = .ok (.iload_n 1, 1) := by decide +kernel
theorem dX3_wantsStallOf_16 : decode cX3_wantsStallOf 16 = .ok (.invokevirtual 9, 3) := by decide +kernel
theorem dX3_wantsStallOf_19 : decode cX3_wantsStallOf 19 = .ok (.invokevirtual 15, 3) := by decide +kernel
theorem dX3_wantsStallOf_22 : decode cX3_wantsStallOf 22 = .ok (.ifCond .eq 7, 3) := by decide +kernel
theorem dX3_wantsStallOf_25 : decode cX3_wantsStallOf 25 = .ok (.iconst 1, 1) := by decide +kernel
theorem dX3_wantsStallOf_26 : decode cX3_wantsStallOf 26 = .ok (.goto 4, 3) := by decide +kernel
theorem dX3_wantsStallOf_29 : decode cX3_wantsStallOf 29 = .ok (.iconst 0, 1) := by decide +kernel
theorem dX3_wantsStallOf_30 : decode cX3_wantsStallOf 30 = .ok (.ireturn, 1) := by decide +kernel
theorem dX3_bothGain_0 : decode cX3_bothGain 0 = .ok (.aload_n 0, 1) := by decide +kernel
theorem dX3_bothGain_1 : decode cX3_bothGain 1 = .ok (.iload_n 1, 1) := by decide +kernel
theorem dX3_bothGain_2 : decode cX3_bothGain 2 = .ok (.invokevirtual 9, 3) := by decide +kernel
theorem dX3_bothGain_5 : decode cX3_bothGain 5 = .ok (.iconst (-1), 1) := by decide +kernel
theorem dX3_bothGain_6 : decode cX3_bothGain 6 = .ok (.if_icmp .eq 25, 3) := by decide +kernel
theorem dX3_bothGain_9 : decode cX3_bothGain 9 = .ok (.aload_n 0, 1) := by decide +kernel
theorem dX3_bothGain_10 : decode cX3_bothGain 10 = .ok (.iload_n 1, 1) := by decide +kernel
theorem dX3_bothGain_11 : decode cX3_bothGain 11 = .ok (.iload_n 2, 1) := by decide +kernel
theorem dX3_bothGain_12 : decode cX3_bothGain 12 = .ok (.invokestatic 19, 3) := by decide +kernel
theorem dX3_bothGain_15 : decode cX3_bothGain 15 = .ok (.ifCond .eq 16, 3) := by decide +kernel
theorem dX3_bothGain_18 : decode cX3_bothGain 18 = .ok (.aload_n 0, 1) := by decide +kernel
theorem dX3_bothGain_19 : decode cX3_bothGain 19 = .ok (.iload_n 2, 1) := by decide +kernel
theorem dX3_bothGain_20 : decode cX3_bothGain 20 = .ok (.iload_n 1, 1) := by decide +kernel
theorem dX3_bothGain_21 : decode cX3_bothGain 21 = .ok (.invokestatic 19, 3) := by decide +kernel
theorem dX3_bothGain_24 : decode cX3_bothGain 24 = .ok (.ifCond .eq 7, 3) := by decide +kernel
theorem dX3_bothGain_27 : decode cX3_bothGain 27 = .ok (.iconst 1, 1) := by decide +kernel
theorem dX3_bothGain_28 : decode cX3_bothGain 28 = .ok (.goto 4, 3) := by decide +kernel
theorem dX3_bothGain_31 : decode cX3_bothGain 31 = .ok (.iconst 0, 1) := by decide +kernel
theorem dX3_bothGain_32 : decode cX3_bothGain 32 = .ok (.ireturn, 1) := by decide +kernel
theorem dX3_shortestCycle_0 : decode cX3_shortestCycle 0 = .ok (.aload_n 0, 1) := by decide +kernel
theorem dX3_shortestCycle_1 : decode cX3_shortestCycle 1 = .ok (.iload_n 1, 1) := by decide +kernel
theorem dX3_shortestCycle_2 : decode cX3_shortestCycle 2 = .ok (.invokevirtual 9, 3) := by decide +kernel
theorem dX3_shortestCycle_5 : decode cX3_shortestCycle 5 = .ok (.iconst (-1), 1) := by decide +kernel
theorem dX3_shortestCycle_6 : decode cX3_shortestCycle 6 = .ok (.if_icmp .ne 5, 3) := by decide +kernel
theorem dX3_shortestCycle_9 : decode cX3_shortestCycle 9 = .ok (.iconst (-1), 1) := by decide +kernel
theorem dX3_shortestCycle_10 : decode cX3_shortestCycle 10 = .ok (.ireturn, 1) := by decide +kernel
theorem dX3_shortestCycle_11 : decode cX3_shortestCycle 11 = .ok (.iconst 1, 1) := by decide +kernel
theorem dX3_shortestCycle_12 : decode cX3_shortestCycle 12 = .ok (.iload_n 1, 1) := by decide +kernel
theorem dX3_shortestCycle_13 : decode cX3_shortestCycle 13 = .ok (.ishl, 1) := by decide +kernel
theorem dX3_shortestCycle_14 : decode cX3_shortestCycle 14 = .ok (.istore_n 2, 1) := by decide +kernel
theorem dX3_shortestCycle_15 : decode cX3_shortestCycle 15 = .ok (.iconst 1, 1) := by decide +kernel
theorem dX3_shortestCycle_16 : decode cX3_shortestCycle 16 = .ok (.istore_n 3, 1) := by decide +kernel
theorem dX3_shortestCycle_17 : decode cX3_shortestCycle 17 = .ok (.iload_n 3, 1) := by decide +kernel
theorem dX3_shortestCycle_18 : decode cX3_shortestCycle 18 = .ok (.aload_n 0, 1) := by decide +kernel
theorem dX3_shortestCycle_19 : decode cX3_shortestCycle 19 = .ok (.getfield 25, 3) := by decide +kernel
theorem dX3_shortestCycle_22 : decode cX3_shortestCycle 22 = .ok (.if_icmp .gt 25, 3) := by decide +kernel
theorem dX3_shortestCycle_25 : decode cX3_shortestCycle 25 = .ok (.aload_n 0, 1) := by decide +kernel
theorem dX3_shortestCycle_26 : decode cX3_shortestCycle 26 = .ok (.iload_n 2, 1) := by decide +kernel
theorem dX3_shortestCycle_27 : decode cX3_shortestCycle 27 = .ok (.invokestatic 32, 3) := by decide +kernel
theorem dX3_shortestCycle_30 : decode cX3_shortestCycle 30 = .ok (.istore_n 2, 1) := by decide +kernel
theorem dX3_shortestCycle_31 : decode cX3_shortestCycle 31 = .ok (.iload_n 2, 1) := by decide +kernel
theorem dX3_shortestCycle_32 : decode cX3_shortestCycle 32 = .ok (.iconst 1, 1) := by decide +kernel
theorem dX3_shortestCycle_33 : decode cX3_shortestCycle 33 = .ok (.iload_n 1, 1) := by decide +kernel
theorem dX3_shortestCycle_34 : decode cX3_shortestCycle 34 = .ok (.ishl, 1) := by decide +kernel
theorem dX3_shortestCycle_35 : decode cX3_shortestCycle 35 = .ok (.iand, 1) := by decide +kernel
theorem dX3_shortestCycle_36 : decode cX3_shortestCycle 36 = .ok (.ifCond .eq 5, 3) := by decide +kernel
theorem dX3_shortestCycle_39 : decode cX3_shortestCycle 39 = .ok (.iload_n 3, 1) := by decide +kernel
theorem dX3_shortestCycle_40 : decode cX3_shortestCycle 40 = .ok (.ireturn, 1) := by decide +kernel
theorem dX3_shortestCycle_41 : decode cX3_shortestCycle 41 = .ok (.iinc 3 1, 3) := by decide +kernel
theorem dX3_shortestCycle_44 : decode cX3_shortestCycle 44 = .ok (.goto (-27), 3) := by decide +kernel
theorem dX3_shortestCycle_47 : decode cX3_shortestCycle 47 = .ok (.iconst (-1), 1) := by decide +kernel
theorem dX3_shortestCycle_48 : decode cX3_shortestCycle 48 = .ok (.ireturn, 1) := by decide +kernel
theorem dX3_wantedByAny_0 : decode cX3_wantedByAny 0 = .ok (.iconst 0, 1) := by decide +kernel
theorem dX3_wantedByAny_1 : decode cX3_wantedByAny 1 = .ok (.istore_n 2, 1) := by decide +kernel
theorem dX3_wantedByAny_2 : decode cX3_wantedByAny 2 = .ok (.iconst 0, 1) := by decide +kernel
theorem dX3_wantedByAny_3 : decode cX3_wantedByAny 3 = .ok (.istore_n 3, 1) := by decide +kernel
theorem dX3_wantedByAny_4 : decode cX3_wantedByAny 4 = .ok (.iload_n 3, 1) := by decide +kernel
theorem dX3_wantedByAny_5 : decode cX3_wantedByAny 5 = .ok (.aload_n 0, 1) := by decide +kernel
theorem dX3_wantedByAny_6 : decode cX3_wantedByAny 6 = .ok (.getfield 25, 3) := by decide +kernel
theorem dX3_wantedByAny_9 : decode cX3_wantedByAny 9 = .ok (.if_icmp .ge 52, 3) := by decide +kernel
theorem dX3_wantedByAny_12 : decode cX3_wantedByAny 12 = .ok (.iconst 0, 1) := by decide +kernel
theorem dX3_wantedByAny_13 : decode cX3_wantedByAny 13 = .ok (.istore 4, 2) := by decide +kernel
theorem dX3_wantedByAny_15 : decode cX3_wantedByAny 15 = .ok (.iload 4, 2) := by decide +kernel
theorem dX3_wantedByAny_17 : decode cX3_wantedByAny 17 = .ok (.aload_n 0, 1) := by decide +kernel
theorem dX3_wantedByAny_18 : decode cX3_wantedByAny 18 = .ok (.getfield 25, 3) := by decide +kernel
theorem dX3_wantedByAny_21 : decode cX3_wantedByAny 21 = .ok (.if_icmp .ge 34, 3) := by decide +kernel
theorem dX3_wantedByAny_24 : decode cX3_wantedByAny 24 = .ok (.iload_n 1, 1) := by decide +kernel
theorem dX3_wantedByAny_25 : decode cX3_wantedByAny 25 = .ok (.iconst 1, 1) := by decide +kernel
theorem dX3_wantedByAny_26 : decode cX3_wantedByAny 26 = .ok (.iload_n 3, 1) := by decide +kernel
theorem dX3_wantedByAny_27 : decode cX3_wantedByAny 27 = .ok (.ishl, 1) := by decide +kernel
theorem dX3_wantedByAny_28 : decode cX3_wantedByAny 28 = .ok (.iand, 1) := by decide +kernel
theorem dX3_wantedByAny_29 : decode cX3_wantedByAny 29 = .ok (.ifCond .eq 20, 3) := by decide +kernel
theorem dX3_wantedByAny_32 : decode cX3_wantedByAny 32 = .ok (.aload_n 0, 1) := by decide +kernel
theorem dX3_wantedByAny_33 : decode cX3_wantedByAny 33 = .ok (.iload_n 3, 1) := by decide +kernel
theorem dX3_wantedByAny_34 : decode cX3_wantedByAny 34 = .ok (.iload 4, 2) := by decide +kernel
theorem dX3_wantedByAny_36 : decode cX3_wantedByAny 36 = .ok (.invokestatic 19, 3) := by decide +kernel
theorem dX3_wantedByAny_39 : decode cX3_wantedByAny 39 = .ok (.ifCond .eq 10, 3) := by decide +kernel
theorem dX3_wantedByAny_42 : decode cX3_wantedByAny 42 = .ok (.iload_n 2, 1) := by decide +kernel
theorem dX3_wantedByAny_43 : decode cX3_wantedByAny 43 = .ok (.iconst 1, 1) := by decide +kernel
theorem dX3_wantedByAny_44 : decode cX3_wantedByAny 44 = .ok (.iload 4, 2) := by decide +kernel
theorem dX3_wantedByAny_46 : decode cX3_wantedByAny 46 = .ok (.ishl, 1) := by decide +kernel
theorem dX3_wantedByAny_47 : decode cX3_wantedByAny 47 = .ok (.ior, 1) := by decide +kernel
theorem dX3_wantedByAny_48 : decode cX3_wantedByAny 48 = .ok (.istore_n 2, 1) := by decide +kernel
theorem dX3_wantedByAny_49 : decode cX3_wantedByAny 49 = .ok (.iinc 4 1, 3) := by decide +kernel
theorem dX3_wantedByAny_52 : decode cX3_wantedByAny 52 = .ok (.goto (-37), 3) := by decide +kernel
theorem dX3_wantedByAny_55 : decode cX3_wantedByAny 55 = .ok (.iinc 3 1, 3) := by decide +kernel
theorem dX3_wantedByAny_58 : decode cX3_wantedByAny 58 = .ok (.goto (-54), 3) := by decide +kernel
theorem dX3_wantedByAny_61 : decode cX3_wantedByAny 61 = .ok (.iload_n 2, 1) := by decide +kernel
theorem dX3_wantedByAny_62 : decode cX3_wantedByAny 62 = .ok (.ireturn, 1) := by decide +kernel
theorem dX3_bestFreeStall_0 : decode cX3_bestFreeStall 0 = .ok (.aload_n 0, 1) := by decide +kernel
theorem dX3_bestFreeStall_1 : decode cX3_bestFreeStall 1 = .ok (.iload_n 1, 1) := by decide +kernel
theorem dX3_bestFreeStall_2 : decode cX3_bestFreeStall 2 = .ok (.invokevirtual 9, 3) := by decide +kernel
theorem dX3_bestFreeStall_5 : decode cX3_bestFreeStall 5 = .ok (.istore_n 2, 1) := by decide +kernel
theorem dX3_bestFreeStall_6 : decode cX3_bestFreeStall 6 = .ok (.iconst 0, 1) := by decide +kernel
theorem dX3_bestFreeStall_7 : decode cX3_bestFreeStall 7 = .ok (.istore_n 3, 1) := by decide +kernel
theorem dX3_bestFreeStall_8 : decode cX3_bestFreeStall 8 = .ok (.iload_n 3, 1) := by decide +kernel
theorem dX3_bestFreeStall_9 : decode cX3_bestFreeStall 9 = .ok (.aload_n 0, 1) := by decide +kernel
theorem dX3_bestFreeStall_10 : decode cX3_bestFreeStall 10 = .ok (.iload_n 1, 1) := by decide +kernel
theorem dX3_bestFreeStall_11 : decode cX3_bestFreeStall 11 = .ok (.invokevirtual 36, 3) := by decide +kernel
theorem dX3_bestFreeStall_14 : decode cX3_bestFreeStall 14 = .ok (.if_icmp .ge 38, 3) := by decide +kernel
theorem dX3_bestFreeStall_17 : decode cX3_bestFreeStall 17 = .ok (.aload_n 0, 1) := by decide +kernel
theorem dX3_bestFreeStall_18 : decode cX3_bestFreeStall 18 = .ok (.iload_n 1, 1) := by decide +kernel
theorem dX3_bestFreeStall_19 : decode cX3_bestFreeStall 19 = .ok (.iload_n 3, 1) := by decide +kernel
theorem dX3_bestFreeStall_20 : decode cX3_bestFreeStall 20 = .ok (.invokevirtual 39, 3) := by decide +kernel
theorem dX3_bestFreeStall_23 : decode cX3_bestFreeStall 23 = .ok (.istore 4, 2) := by decide +kernel
theorem dX3_bestFreeStall_25 : decode cX3_bestFreeStall 25 = .ok (.iload 4, 2) := by decide +kernel
theorem dX3_bestFreeStall_27 : decode cX3_bestFreeStall 27 = .ok (.iload_n 2, 1) := by decide +kernel
theorem dX3_bestFreeStall_28 : decode cX3_bestFreeStall 28 = .ok (.if_icmp .ne 5, 3) := by decide +kernel
theorem dX3_bestFreeStall_31 : decode cX3_bestFreeStall 31 = .ok (.iconst (-1), 1) := by decide +kernel
theorem dX3_bestFreeStall_32 : decode cX3_bestFreeStall 32 = .ok (.ireturn, 1) := by decide +kernel
theorem dX3_bestFreeStall_33 : decode cX3_bestFreeStall 33 = .ok (.aload_n 0, 1) := by decide +kernel
theorem dX3_bestFreeStall_34 : decode cX3_bestFreeStall 34 = .ok (.iload 4, 2) := by decide +kernel
theorem dX3_bestFreeStall_36 : decode cX3_bestFreeStall 36 = .ok (.invokevirtual 43, 3) := by decide +kernel
theorem dX3_bestFreeStall_39 : decode cX3_bestFreeStall 39 = .ok (.iconst (-1), 1) := by decide +kernel
theorem dX3_bestFreeStall_40 : decode cX3_bestFreeStall 40 = .ok (.if_icmp .ne 6, 3) := by decide +kernel
theorem dX3_bestFreeStall_43 : decode cX3_bestFreeStall 43 = .ok (.iload 4, 2) := by decide +kernel
theorem dX3_bestFreeStall_45 : decode cX3_bestFreeStall 45 = .ok (.ireturn, 1) := by decide +kernel
theorem dX3_bestFreeStall_46 : decode cX3_bestFreeStall 46 = .ok (.iinc 3 1, 3) := by decide +kernel
theorem dX3_bestFreeStall_49 : decode cX3_bestFreeStall 49 = .ok (.goto (-41), 3) := by decide +kernel
theorem dX3_bestFreeStall_52 : decode cX3_bestFreeStall 52 = .ok (.iconst (-1), 1) := by decide +kernel
theorem dX3_bestFreeStall_53 : decode cX3_bestFreeStall 53 = .ok (.ireturn, 1) := by decide +kernel
theorem dX3_canImprove_0 : decode cX3_canImprove 0 = .ok (.iconst 0, 1) := by decide +kernel
theorem dX3_canImprove_1 : decode cX3_canImprove 1 = .ok (.istore_n 1, 1) := by decide +kernel
theorem dX3_canImprove_2 : decode cX3_canImprove 2 = .ok (.iload_n 1, 1) := by decide +kernel
theorem dX3_canImprove_3 : decode cX3_canImprove 3 = .ok (.aload_n 0, 1) := by decide +kernel
theorem dX3_canImprove_4 : decode cX3_canImprove 4 = .ok (.getfield 25, 3) := by decide +kernel
theorem dX3_canImprove_7 : decode cX3_canImprove 7 = .ok (.if_icmp .ge 45, 3) := by decide +kernel
theorem dX3_canImprove_10 : decode cX3_canImprove 10 = .ok (.aload_n 0, 1) := by decide +kernel
theorem dX3_canImprove_11 : decode cX3_canImprove 11 = .ok (.iload_n 1, 1) := by decide +kernel
theorem dX3_canImprove_12 : decode cX3_canImprove 12 = .ok (.iconst (-1), 1) := by decide +kernel
theorem dX3_canImprove_13 : decode cX3_canImprove 13 = .ok (.aload_n 0, 1) := by decide +kernel
theorem dX3_canImprove_14 : decode cX3_canImprove 14 = .ok (.iload_n 1, 1) := by decide +kernel
theorem dX3_canImprove_15 : decode cX3_canImprove 15 = .ok (.invokevirtual 9, 3) := by decide +kernel
theorem dX3_canImprove_18 : decode cX3_canImprove 18 = .ok (.invokevirtual 15, 3) := by decide +kernel
theorem dX3_canImprove_21 : decode cX3_canImprove 21 = .ok (.istore_n 2, 1) := by decide +kernel
theorem dX3_canImprove_22 : decode cX3_canImprove 22 = .ok (.iload_n 2, 1) := by decide +kernel
theorem dX3_canImprove_23 : decode cX3_canImprove 23 = .ok (.ifCond .ne 21, 3) := by decide +kernel
theorem dX3_canImprove_26 : decode cX3_canImprove 26 = .ok (.aload_n 0, 1) := by decide +kernel
theorem dX3_canImprove_27 : decode cX3_canImprove 27 = .ok (.iload_n 1, 1) := by decide +kernel
theorem dX3_canImprove_28 : decode cX3_canImprove 28 = .ok (.invokestatic 46, 3) := by decide +kernel
theorem dX3_canImprove_31 : decode cX3_canImprove 31 = .ok (.iconst (-1), 1) := by decide +kernel
theorem dX3_canImprove_32 : decode cX3_canImprove 32 = .ok (.if_icmp .ne 12, 3) := by decide +kernel
theorem dX3_canImprove_35 : decode cX3_canImprove 35 = .ok (.aload_n 0, 1) := by decide +kernel
theorem dX3_canImprove_36 : decode cX3_canImprove 36 = .ok (.iload_n 1, 1) := by decide +kernel
theorem dX3_canImprove_37 : decode cX3_canImprove 37 = .ok (.invokestatic 49, 3) := by decide +kernel
theorem dX3_canImprove_40 : decode cX3_canImprove 40 = .ok (.iconst (-1), 1) := by decide +kernel
theorem dX3_canImprove_41 : decode cX3_canImprove 41 = .ok (.if_icmp .eq 5, 3) := by decide +kernel
theorem dX3_canImprove_44 : decode cX3_canImprove 44 = .ok (.iconst 1, 1) := by decide +kernel
theorem dX3_canImprove_45 : decode cX3_canImprove 45 = .ok (.ireturn, 1) := by decide +kernel
theorem dX3_canImprove_46 : decode cX3_canImprove 46 = .ok (.iinc 1 1, 3) := by decide +kernel
theorem dX3_canImprove_49 : decode cX3_canImprove 49 = .ok (.goto (-47), 3) := by decide +kernel
theorem dX3_canImprove_52 : decode cX3_canImprove 52 = .ok (.iconst 0, 1) := by decide +kernel
theorem dX3_canImprove_53 : decode cX3_canImprove 53 = .ok (.ireturn, 1) := by decide +kernel
theorem dX4_init_0 : decode cX4_init 0 = .ok (.aload_n 0, 1) := by decide +kernel
theorem dX4_init_1 : decode cX4_init 1 = .ok (.invokespecial 3, 3) := by decide +kernel
theorem dX4_init_4 : decode cX4_init 4 = .ok (.aload_n 0, 1) := by decide +kernel
theorem dX4_init_5 : decode cX4_init 5 = .ok (.bipush 8, 2) := by decide +kernel
theorem dX4_init_7 : decode cX4_init 7 = .ok (.anewarray 9, 3) := by decide +kernel
theorem dX4_init_10 : decode cX4_init 10 = .ok (.putfield 11, 3) := by decide +kernel
theorem dX4_init_13 : decode cX4_init 13 = .ok (.aload_n 0, 1) := by decide +kernel
theorem dX4_init_14 : decode cX4_init 14 = .ok (.iconst 0, 1) := by decide +kernel
theorem dX4_init_15 : decode cX4_init 15 = .ok (.putfield 17, 3) := by decide +kernel
theorem dX4_init_18 : decode cX4_init 18 = .ok (.aload_n 0, 1) := by decide +kernel
theorem dX4_init_19 : decode cX4_init 19 = .ok (.iconst 0, 1) := by decide +kernel
theorem dX4_init_20 : decode cX4_init 20 = .ok (.putfield 21, 3) := by decide +kernel
theorem dX4_init_23 : decode cX4_init 23 = .ok (.iconst 0, 1) := by decide +kernel
theorem dX4_init_24 : decode cX4_init 24 = .ok (.istore_n 1, 1) := by decide +kernel
theorem dX4_init_25 : decode cX4_init 25 = .ok (.iload_n 1, 1) := by decide +kernel
theorem dX4_init_26 : decode cX4_init 26 = .ok (.bipush 8, 2) := by decide +kernel
theorem dX4_init_28 : decode cX4_init 28 = .ok (.if_icmp .ge 22, 3) := by decide +kernel
theorem dX4_init_31 : decode cX4_init 31 = .ok (.aload_n 0, 1) := by decide +kernel
theorem dX4_init_32 : decode cX4_init 32 = .ok (.getfield 11, 3) := by decide +kernel
theorem dX4_init_35 : decode cX4_init 35 = .ok (.iload_n 1, 1) := by decide +kernel
theorem dX4_init_36 : decode cX4_init 36 = .ok (.new 9, 3) := by decide +kernel
theorem dX4_init_39 : decode cX4_init 39 = .ok (.dup, 1) := by decide +kernel
theorem dX4_init_40 : decode cX4_init 40 = .ok (.invokespecial 24, 3) := by decide +kernel
theorem dX4_init_43 : decode cX4_init 43 = .ok (.aastore, 1) := by decide +kernel
theorem dX4_init_44 : decode cX4_init 44 = .ok (.iinc 1 1, 3) := by decide +kernel
theorem dX4_init_47 : decode cX4_init 47 = .ok (.goto (-22), 3) := by decide +kernel
theorem dX4_init_50 : decode cX4_init 50 = .ok (.return_, 1) := by decide +kernel
theorem dX4_clear_0 : decode cX4_clear 0 = .ok (.aload_n 0, 1) := by decide +kernel
theorem dX4_clear_1 : decode cX4_clear 1 = .ok (.iconst 0, 1) := by decide +kernel
theorem dX4_clear_2 : decode cX4_clear 2 = .ok (.putfield 17, 3) := by decide +kernel
theorem dX4_clear_5 : decode cX4_clear 5 = .ok (.aload_n 0, 1) := by decide +kernel
theorem dX4_clear_6 : decode cX4_clear 6 = .ok (.iconst 0, 1) := by decide +kernel
theorem dX4_clear_7 : decode cX4_clear 7 = .ok (.putfield 21, 3) := by decide +kernel
theorem dX4_clear_10 : decode cX4_clear 10 = .ok (.return_, 1) := by decide +kernel
theorem dX4_record_0 : decode cX4_record 0 = .ok (.aload_n 1, 1) := by decide +kernel
theorem dX4_record_1 : decode cX4_record 1 = .ok (.aload_n 0, 1) := by decide +kernel
theorem dX4_record_2 : decode cX4_record 2 = .ok (.getfield 11, 3) := by decide +kernel
theorem dX4_record_5 : decode cX4_record 5 = .ok (.aload_n 0, 1) := by decide +kernel
theorem dX4_record_6 : decode cX4_record 6 = .ok (.aload_n 0, 1) := by decide +kernel
theorem dX4_record_7 : decode cX4_record 7 = .ok (.getfield 21, 3) := by decide +kernel
theorem dX4_record_10 : decode cX4_record 10 = .ok (.invokevirtual 25, 3) := by decide +kernel
theorem dX4_record_13 : decode cX4_record 13 = .ok (.aaload, 1) := by decide +kernel
theorem dX4_record_14 : decode cX4_record 14 = .ok (.invokestatic 29, 3) := by decide +kernel
theorem dX4_record_17 : decode cX4_record 17 = .ok (.aload_n 0, 1) := by decide +kernel
theorem dX4_record_18 : decode cX4_record 18 = .ok (.getfield 21, 3) := by decide +kernel
theorem dX4_record_21 : decode cX4_record 21 = .ok (.bipush 8, 2) := by decide +kernel
theorem dX4_record_23 : decode cX4_record 23 = .ok (.if_icmp .ge 16, 3) := by decide +kernel
theorem dX4_record_26 : decode cX4_record 26 = .ok (.aload_n 0, 1) := by decide +kernel
theorem dX4_record_27 : decode cX4_record 27 = .ok (.dup, 1) := by decide +kernel
theorem dX4_record_28 : decode cX4_record 28 = .ok (.getfield 21, 3) := by decide +kernel
theorem dX4_record_31 : decode cX4_record 31 = .ok (.iconst 1, 1) := by decide +kernel
theorem dX4_record_32 : decode cX4_record 32 = .ok (.iadd, 1) := by decide +kernel
theorem dX4_record_33 : decode cX4_record 33 = .ok (.putfield 21, 3) := by decide +kernel
theorem dX4_record_36 : decode cX4_record 36 = .ok (.goto 12, 3) := by decide +kernel
theorem dX4_record_39 : decode cX4_record 39 = .ok (.aload_n 0, 1) := by decide +kernel
theorem dX4_record_40 : decode cX4_record 40 = .ok (.aload_n 0, 1) := by decide +kernel
theorem dX4_record_41 : decode cX4_record 41 = .ok (.iconst 1, 1) := by decide +kernel
theorem dX4_record_42 : decode cX4_record 42 = .ok (.invokevirtual 25, 3) := by decide +kernel
theorem dX4_record_45 : decode cX4_record 45 = .ok (.putfield 17, 3) := by decide +kernel
theorem dX4_record_48 : decode cX4_record 48 = .ok (.return_, 1) := by decide +kernel
theorem dX4_takeBack_0 : decode cX4_takeBack 0 = .ok (.aload_n 0, 1) := by decide +kernel
theorem dX4_takeBack_1 : decode cX4_takeBack 1 = .ok (.getfield 21, 3) := by decide +kernel
theorem dX4_takeBack_4 : decode cX4_takeBack 4 = .ok (.ifCond .ne 5, 3) := by decide +kernel
theorem dX4_takeBack_7 : decode cX4_takeBack 7 = .ok (.iconst (-1), 1) := by decide +kernel
theorem dX4_takeBack_8 : decode cX4_takeBack 8 = .ok (.ireturn, 1) := by decide +kernel
theorem dX4_takeBack_9 : decode cX4_takeBack 9 = .ok (.aload_n 0, 1) := by decide +kernel
theorem dX4_takeBack_10 : decode cX4_takeBack 10 = .ok (.dup, 1) := by decide +kernel
theorem dX4_takeBack_11 : decode cX4_takeBack 11 = .ok (.getfield 21, 3) := by decide +kernel
theorem dX4_takeBack_14 : decode cX4_takeBack 14 = .ok (.iconst 1, 1) := by decide +kernel
theorem dX4_takeBack_15 : decode cX4_takeBack 15 = .ok (.isub, 1) := by decide +kernel
theorem dX4_takeBack_16 : decode cX4_takeBack 16 = .ok (.putfield 21, 3) := by decide +kernel
theorem dX4_takeBack_19 : decode cX4_takeBack 19 = .ok (.aload_n 0, 1) := by decide +kernel
theorem dX4_takeBack_20 : decode cX4_takeBack 20 = .ok (.getfield 11, 3) := by decide +kernel
theorem dX4_takeBack_23 : decode cX4_takeBack 23 = .ok (.aload_n 0, 1) := by decide +kernel
theorem dX4_takeBack_24 : decode cX4_takeBack 24 = .ok (.aload_n 0, 1) := by decide +kernel
theorem dX4_takeBack_25 : decode cX4_takeBack 25 = .ok (.getfield 21, 3) := by decide +kernel
theorem dX4_takeBack_28 : decode cX4_takeBack 28 = .ok (.invokevirtual 25, 3) := by decide +kernel
theorem dX4_takeBack_31 : decode cX4_takeBack 31 = .ok (.aaload, 1) := by decide +kernel
theorem dX4_takeBack_32 : decode cX4_takeBack 32 = .ok (.aload_n 1, 1) := by decide +kernel
theorem dX4_takeBack_33 : decode cX4_takeBack 33 = .ok (.invokestatic 29, 3) := by decide +kernel
theorem dX4_takeBack_36 : decode cX4_takeBack 36 = .ok (.aload_n 0, 1) := by decide +kernel
theorem dX4_takeBack_37 : decode cX4_takeBack 37 = .ok (.getfield 21, 3) := by decide +kernel
theorem dX4_takeBack_40 : decode cX4_takeBack 40 = .ok (.ireturn, 1) := by decide +kernel
theorem dX4_slotAfter_0 : decode cX4_slotAfter 0 = .ok (.aload_n 0, 1) := by decide +kernel
theorem dX4_slotAfter_1 : decode cX4_slotAfter 1 = .ok (.getfield 17, 3) := by decide +kernel
theorem dX4_slotAfter_4 : decode cX4_slotAfter 4 = .ok (.iload_n 1, 1) := by decide +kernel
theorem dX4_slotAfter_5 : decode cX4_slotAfter 5 = .ok (.iadd, 1) := by decide +kernel
theorem dX4_slotAfter_6 : decode cX4_slotAfter 6 = .ok (.bipush 8, 2) := by decide +kernel
theorem dX4_slotAfter_8 : decode cX4_slotAfter 8 = .ok (.irem, 1) := by decide +kernel
theorem dX4_slotAfter_9 : decode cX4_slotAfter 9 = .ok (.ireturn, 1) := by decide +kernel
theorem dX5_init_0 : decode cX5_init 0 = .ok (.aload_n 0, 1) := by decide +kernel
theorem dX5_init_1 : decode cX5_init 1 = .ok (.invokespecial 3, 3) := by decide +kernel
theorem dX5_init_4 : decode cX5_init 4 = .ok (.aload_n 0, 1) := by decide +kernel
theorem dX5_init_5 : decode cX5_init 5 = .ok (.iconst 0, 1) := by decide +kernel
theorem dX5_init_6 : decode cX5_init 6 = .ok (.putfield 9, 3) := by decide +kernel
theorem dX5_init_9 : decode cX5_init 9 = .ok (.aload_n 0, 1) := by decide +kernel
theorem dX5_init_10 : decode cX5_init 10 = .ok (.iconst 0, 1) := by decide +kernel
theorem dX5_init_11 : decode cX5_init 11 = .ok (.putfield 15, 3) := by decide +kernel
theorem dX5_init_14 : decode cX5_init 14 = .ok (.aload_n 0, 1) := by decide +kernel
theorem dX5_init_15 : decode cX5_init 15 = .ok (.iconst 0, 1) := by decide +kernel
theorem dX5_init_16 : decode cX5_init 16 = .ok (.putfield 18, 3) := by decide +kernel
theorem dX5_init_19 : decode cX5_init 19 = .ok (.aload_n 0, 1) := by decide +kernel
theorem dX5_init_20 : decode cX5_init 20 = .ok (.iconst 0, 1) := by decide +kernel
theorem dX5_init_21 : decode cX5_init 21 = .ok (.putfield 21, 3) := by decide +kernel
theorem dX5_init_24 : decode cX5_init 24 = .ok (.aload_n 0, 1) := by decide +kernel
theorem dX5_init_25 : decode cX5_init 25 = .ok (.iconst 0, 1) := by decide +kernel
theorem dX5_init_26 : decode cX5_init 26 = .ok (.putfield 24, 3) := by decide +kernel
theorem dX5_init_29 : decode cX5_init 29 = .ok (.aload_n 0, 1) := by decide +kernel
theorem dX5_init_30 : decode cX5_init 30 = .ok (.iconst 0, 1) := by decide +kernel
theorem dX5_init_31 : decode cX5_init 31 = .ok (.putfield 27, 3) := by decide +kernel
theorem dX5_init_34 : decode cX5_init 34 = .ok (.aload_n 0, 1) := by decide +kernel
theorem dX5_init_35 : decode cX5_init 35 = .ok (.iconst 0, 1) := by decide +kernel
theorem dX5_init_36 : decode cX5_init 36 = .ok (.putfield 30, 3) := by decide +kernel
theorem dX5_init_39 : decode cX5_init 39 = .ok (.aload_n 0, 1) := by decide +kernel
theorem dX5_init_40 : decode cX5_init 40 = .ok (.iconst 0, 1) := by decide +kernel
theorem dX5_init_41 : decode cX5_init 41 = .ok (.putfield 33, 3) := by decide +kernel
theorem dX5_init_44 : decode cX5_init 44 = .ok (.aload_n 0, 1) := by decide +kernel
theorem dX5_init_45 : decode cX5_init 45 = .ok (.iconst 0, 1) := by decide +kernel
theorem dX5_init_46 : decode cX5_init 46 = .ok (.putfield 36, 3) := by decide +kernel
theorem dX5_init_49 : decode cX5_init 49 = .ok (.aload_n 0, 1) := by decide +kernel
theorem dX5_init_50 : decode cX5_init 50 = .ok (.bipush 8, 2) := by decide +kernel
theorem dX5_init_52 : decode cX5_init 52 = .ok (.newarray .long, 2) := by decide +kernel
theorem dX5_init_54 : decode cX5_init 54 = .ok (.putfield 39, 3) := by decide +kernel
theorem dX5_init_57 : decode cX5_init 57 = .ok (.aload_n 0, 1) := by decide +kernel
theorem dX5_init_58 : decode cX5_init 58 = .ok (.bipush 8, 2) := by decide +kernel
theorem dX5_init_60 : decode cX5_init 60 = .ok (.newarray .int, 2) := by decide +kernel
theorem dX5_init_62 : decode cX5_init 62 = .ok (.putfield 43, 3) := by decide +kernel
theorem dX5_init_65 : decode cX5_init 65 = .ok (.aload_n 0, 1) := by decide +kernel
theorem dX5_init_66 : decode cX5_init 66 = .ok (.bipush 8, 2) := by decide +kernel
theorem dX5_init_68 : decode cX5_init 68 = .ok (.newarray .int, 2) := by decide +kernel
theorem dX5_init_70 : decode cX5_init 70 = .ok (.putfield 47, 3) := by decide +kernel
theorem dX5_init_73 : decode cX5_init 73 = .ok (.aload_n 0, 1) := by decide +kernel
theorem dX5_init_74 : decode cX5_init 74 = .ok (.bipush 8, 2) := by decide +kernel
theorem dX5_init_76 : decode cX5_init 76 = .ok (.newarray .int, 2) := by decide +kernel
theorem dX5_init_78 : decode cX5_init 78 = .ok (.putfield 50, 3) := by decide +kernel
theorem dX5_init_81 : decode cX5_init 81 = .ok (.aload_n 0, 1) := by decide +kernel
theorem dX5_init_82 : decode cX5_init 82 = .ok (.bipush 8, 2) := by decide +kernel
theorem dX5_init_84 : decode cX5_init 84 = .ok (.newarray .int, 2) := by decide +kernel
theorem dX5_init_86 : decode cX5_init 86 = .ok (.putfield 53, 3) := by decide +kernel
theorem dX5_init_89 : decode cX5_init 89 = .ok (.aload_n 0, 1) := by decide +kernel
theorem dX5_init_90 : decode cX5_init 90 = .ok (.bipush 8, 2) := by decide +kernel
theorem dX5_init_92 : decode cX5_init 92 = .ok (.newarray .int, 2) := by decide +kernel
theorem dX5_init_94 : decode cX5_init 94 = .ok (.putfield 56, 3) := by decide +kernel
theorem dX5_init_97 : decode cX5_init 97 = .ok (.aload_n 0, 1) := by decide +kernel
theorem dX5_init_98 : decode cX5_init 98 = .ok (.bipush 64, 2) := by decide +kernel
theorem dX5_init_100 : decode cX5_init 100 = .ok (.newarray .int, 2) := by decide +kernel
theorem dX5_init_102 : decode cX5_init 102 = .ok (.putfield 59, 3) := by decide +kernel
theorem dX5_init_105 : decode cX5_init 105 = .ok (.aload_n 0, 1) := by decide +kernel
theorem dX5_init_106 : decode cX5_init 106 = .ok (.bipush 8, 2) := by decide +kernel
theorem dX5_init_108 : decode cX5_init 108 = .ok (.newarray .long, 2) := by decide +kernel
theorem dX5_init_110 : decode cX5_init 110 = .ok (.putfield 62, 3) := by decide +kernel
theorem dX5_init_113 : decode cX5_init 113 = .ok (.aload_n 0, 1) := by decide +kernel
theorem dX5_init_114 : decode cX5_init 114 = .ok (.bipush 8, 2) := by decide +kernel
theorem dX5_init_116 : decode cX5_init 116 = .ok (.newarray .int, 2) := by decide +kernel
theorem dX5_init_118 : decode cX5_init 118 = .ok (.putfield 65, 3) := by decide +kernel
theorem dX5_init_121 : decode cX5_init 121 = .ok (.return_, 1) := by decide +kernel
theorem dX5_copy_0 : decode cX5_copy 0 = .ok (.aload_n 0, 1) := by decide +kernel
theorem dX5_copy_1 : decode cX5_copy 1 = .ok (.ifnull 7, 3) := by decide +kernel
theorem dX5_copy_4 : decode cX5_copy 4 = .ok (.aload_n 1, 1) := by decide +kernel
theorem dX5_copy_5 : decode cX5_copy 5 = .ok (.ifnonnull 4, 3) := by decide +kernel
theorem dX5_copy_8 : decode cX5_copy 8 = .ok (.return_, 1) := by decide +kernel
theorem dX5_copy_9 : decode cX5_copy 9 = .ok (.aload_n 1, 1) := by decide +kernel
theorem dX5_copy_10 : decode cX5_copy 10 = .ok (.aload_n 0, 1) := by decide +kernel
theorem dX5_copy_11 : decode cX5_copy 11 = .ok (.getfield 9, 3) := by decide +kernel
theorem dX5_copy_14 : decode cX5_copy 14 = .ok (.putfield 9, 3) := by decide +kernel
theorem dX5_copy_17 : decode cX5_copy 17 = .ok (.aload_n 1, 1) := by decide +kernel
theorem dX5_copy_18 : decode cX5_copy 18 = .ok (.aload_n 0, 1) := by decide +kernel
theorem dX5_copy_19 : decode cX5_copy 19 = .ok (.getfield 15, 3) := by decide +kernel
theorem dX5_copy_22 : decode cX5_copy 22 = .ok (.putfield 15, 3) := by decide +kernel
theorem dX5_copy_25 : decode cX5_copy 25 = .ok (.aload_n 1, 1) := by decide +kernel
theorem dX5_copy_26 : decode cX5_copy 26 = .ok (.aload_n 0, 1) := by decide +kernel
theorem dX5_copy_27 : decode cX5_copy 27 = .ok (.getfield 18, 3) := by decide +kernel
theorem dX5_copy_30 : decode cX5_copy 30 = .ok (.putfield 18, 3) := by decide +kernel
theorem dX5_copy_33 : decode cX5_copy 33 = .ok (.aload_n 1, 1) := by decide +kernel
theorem dX5_copy_34 : decode cX5_copy 34 = .ok (.aload_n 0, 1) := by decide +kernel
theorem dX5_copy_35 : decode cX5_copy 35 = .ok (.getfield 21, 3) := by decide +kernel
theorem dX5_copy_38 : decode cX5_copy 38 = .ok (.putfield 21, 3) := by decide +kernel
theorem dX5_copy_41 : decode cX5_copy 41 = .ok (.aload_n 1, 1) := by decide +kernel
theorem dX5_copy_42 : decode cX5_copy 42 = .ok (.aload_n 0, 1) := by decide +kernel
theorem dX5_copy_43 : decode cX5_copy 43 = .ok (.getfield 24, 3) := by decide +kernel
theorem dX5_copy_46 : decode cX5_copy 46 = .ok (.putfield 24, 3) := by decide +kernel
theorem dX5_copy_49 : decode cX5_copy 49 = .ok (.aload_n 1, 1) := by decide +kernel
theorem dX5_copy_50 : decode cX5_copy 50 = .ok (.aload_n 0, 1) := by decide +kernel
theorem dX5_copy_51 : decode cX5_copy 51 = .ok (.getfield 27, 3) := by decide +kernel
theorem dX5_copy_54 : decode cX5_copy 54 = .ok (.putfield 27, 3) := by decide +kernel
theorem dX5_copy_57 : decode cX5_copy 57 = .ok (.aload_n 1, 1) := by decide +kernel
theorem dX5_copy_58 : decode cX5_copy 58 = .ok (.aload_n 0, 1) := by decide +kernel
theorem dX5_copy_59 : decode cX5_copy 59 = .ok (.getfield 30, 3) := by decide +kernel
theorem dX5_copy_62 : decode cX5_copy 62 = .ok (.putfield 30, 3) := by decide +kernel
theorem dX5_copy_65 : decode cX5_copy 65 = .ok (.aload_n 1, 1) := by decide +kernel
theorem dX5_copy_66 : decode cX5_copy 66 = .ok (.aload_n 0, 1) := by decide +kernel
theorem dX5_copy_67 : decode cX5_copy 67 = .ok (.getfield 33, 3) := by decide +kernel
theorem dX5_copy_70 : decode cX5_copy 70 = .ok (.putfield 33, 3) := by decide +kernel
theorem dX5_copy_73 : decode cX5_copy 73 = .ok (.aload_n 1, 1) := by decide +kernel
theorem dX5_copy_74 : decode cX5_copy 74 = .ok (.aload_n 0, 1) := by decide +kernel
theorem dX5_copy_75 : decode cX5_copy 75 = .ok (.getfield 36, 3) := by decide +kernel
theorem dX5_copy_78 : decode cX5_copy 78 = .ok (.putfield 36, 3) := by decide +kernel
theorem dX5_copy_81 : decode cX5_copy 81 = .ok (.iconst 0, 1) := by decide +kernel
theorem dX5_copy_82 : decode cX5_copy 82 = .ok (.istore_n 2, 1) := by decide +kernel
theorem dX5_copy_83 : decode cX5_copy 83 = .ok (.iload_n 2, 1) := by decide +kernel
theorem dX5_copy_84 : decode cX5_copy 84 = .ok (.bipush 8, 2) := by decide +kernel
theorem dX5_copy_86 : decode cX5_copy 86 = .ok (.if_icmp .ge 81, 3) := by decide +kernel
theorem dX5_copy_89 : decode cX5_copy 89 = .ok (.aload_n 1, 1) := by decide +kernel
theorem dX5_copy_90 : decode cX5_copy 90 = .ok (.getfield 39, 3) := by decide +kernel
theorem dX5_copy_93 : decode cX5_copy 93 = .ok (.iload_n 2, 1) := by decide +kernel
theorem dX5_copy_94 : decode cX5_copy 94 = .ok (.aload_n 0, 1) := by decide +kernel
theorem dX5_copy_95 : decode cX5_copy 95 = .ok (.getfield 39, 3) := by decide +kernel
theorem dX5_copy_98 : decode cX5_copy 98 = .ok (.iload_n 2, 1) := by decide +kernel
theorem dX5_copy_99 : decode cX5_copy 99 = .ok (.laload, 1) := by decide +kernel
theorem dX5_copy_100 : decode cX5_copy 100 = .ok (.lastore, 1) := by decide +kernel
theorem dX5_copy_101 : decode cX5_copy 101 = .ok (.aload_n 1, 1) := by decide +kernel
theorem dX5_copy_102 : decode cX5_copy 102 = .ok (.getfield 43, 3) := by decide +kernel
theorem dX5_copy_105 : decode cX5_copy 105 = .ok (.iload_n 2, 1) := by decide +kernel
theorem dX5_copy_106 : decode cX5_copy 106 = .ok (.aload_n 0, 1) := by decide +kernel
theorem dX5_copy_107 : decode cX5_copy 107 = .ok (.getfield 43, 3) := by decide +kernel
theorem dX5_copy_110 : decode cX5_copy 110 = .ok (.iload_n 2, 1) := by decide +kernel
theorem dX5_copy_111 : decode cX5_copy 111 = .ok (.iaload, 1) := by decide +kernel
theorem dX5_copy_112 : decode cX5_copy 112 = .ok (.iastore, 1) := by decide +kernel
theorem dX5_copy_113 : decode cX5_copy 113 = .ok (.aload_n 1, 1) := by decide +kernel
theorem dX5_copy_114 : decode cX5_copy 114 = .ok (.getfield 47, 3) := by decide +kernel
theorem dX5_copy_117 : decode cX5_copy 117 = .ok (.iload_n 2, 1) := by decide +kernel
theorem dX5_copy_118 : decode cX5_copy 118 = .ok (.aload_n 0, 1) := by decide +kernel
theorem dX5_copy_119 : decode cX5_copy 119 = .ok (.getfield 47, 3) := by decide +kernel
theorem dX5_copy_122 : decode cX5_copy 122 = .ok (.iload_n 2, 1) := by decide +kernel
theorem dX5_copy_123 : decode cX5_copy 123 = .ok (.iaload, 1) := by decide +kernel
theorem dX5_copy_124 : decode cX5_copy 124 = .ok (.iastore, 1) := by decide +kernel
theorem dX5_copy_125 : decode cX5_copy 125 = .ok (.aload_n 1, 1) := by decide +kernel
theorem dX5_copy_126 : decode cX5_copy 126 = .ok (.getfield 50, 3) := by decide +kernel
theorem dX5_copy_129 : decode cX5_copy 129 = .ok (.iload_n 2, 1) := by decide +kernel
theorem dX5_copy_130 : decode cX5_copy 130 = .ok (.aload_n 0, 1) := by decide +kernel
theorem dX5_copy_131 : decode cX5_copy 131 = .ok (.getfield 50, 3) := by decide +kernel
theorem dX5_copy_134 : decode cX5_copy 134 = .ok (.iload_n 2, 1) := by decide +kernel
theorem dX5_copy_135 : decode cX5_copy 135 = .ok (.iaload, 1) := by decide +kernel
theorem dX5_copy_136 : decode cX5_copy 136 = .ok (.iastore, 1) := by decide +kernel
theorem dX5_copy_137 : decode cX5_copy 137 = .ok (.aload_n 1, 1) := by decide +kernel
theorem dX5_copy_138 : decode cX5_copy 138 = .ok (.getfield 53, 3) := by decide +kernel
theorem dX5_copy_141 : decode cX5_copy 141 = .ok (.iload_n 2, 1) := by decide +kernel
theorem dX5_copy_142 : decode cX5_copy 142 = .ok (.aload_n 0, 1) := by decide +kernel
theorem dX5_copy_143 : decode cX5_copy 143 = .ok (.getfield 53, 3) := by decide +kernel
theorem dX5_copy_146 : decode cX5_copy 146 = .ok (.iload_n 2, 1) := by decide +kernel
theorem dX5_copy_147 : decode cX5_copy 147 = .ok (.iaload, 1) := by decide +kernel
theorem dX5_copy_148 : decode cX5_copy 148 = .ok (.iastore, 1) := by decide +kernel
theorem dX5_copy_149 : decode cX5_copy 149 = .ok (.aload_n 1, 1) := by decide +kernel
theorem dX5_copy_150 : decode cX5_copy 150 = .ok (.getfield 56, 3) := by decide +kernel
theorem dX5_copy_153 : decode cX5_copy 153 = .ok (.iload_n 2, 1) := by decide +kernel
theorem dX5_copy_154 : decode cX5_copy 154 = .ok (.aload_n 0, 1) := by decide +kernel
theorem dX5_copy_155 : decode cX5_copy 155 = .ok (.getfield 56, 3) := by decide +kernel
theorem dX5_copy_158 : decode cX5_copy 158 = .ok (.iload_n 2, 1) := by decide +kernel
theorem dX5_copy_159 : decode cX5_copy 159 = .ok (.iaload, 1) := by decide +kernel
theorem dX5_copy_160 : decode cX5_copy 160 = .ok (.iastore, 1) := by decide +kernel
theorem dX5_copy_161 : decode cX5_copy 161 = .ok (.iinc 2 1, 3) := by decide +kernel
theorem dX5_copy_164 : decode cX5_copy 164 = .ok (.goto (-81), 3) := by decide +kernel
theorem dX5_copy_167 : decode cX5_copy 167 = .ok (.iconst 0, 1) := by decide +kernel
theorem dX5_copy_168 : decode cX5_copy 168 = .ok (.istore_n 2, 1) := by decide +kernel
theorem dX5_copy_169 : decode cX5_copy 169 = .ok (.iload_n 2, 1) := by decide +kernel
theorem dX5_copy_170 : decode cX5_copy 170 = .ok (.bipush 64, 2) := by decide +kernel
theorem dX5_copy_172 : decode cX5_copy 172 = .ok (.if_icmp .ge 21, 3) := by decide +kernel
theorem dX5_copy_175 : decode cX5_copy 175 = .ok (.aload_n 1, 1) := by decide +kernel
theorem dX5_copy_176 : decode cX5_copy 176 = .ok (.getfield 59, 3) := by decide +kernel
theorem dX5_copy_179 : decode cX5_copy 179 = .ok (.iload_n 2, 1) := by decide +kernel
theorem dX5_copy_180 : decode cX5_copy 180 = .ok (.aload_n 0, 1) := by decide +kernel
theorem dX5_copy_181 : decode cX5_copy 181 = .ok (.getfield 59, 3) := by decide +kernel
theorem dX5_copy_184 : decode cX5_copy 184 = .ok (.iload_n 2, 1) := by decide +kernel
theorem dX5_copy_185 : decode cX5_copy 185 = .ok (.iaload, 1) := by decide +kernel
theorem dX5_copy_186 : decode cX5_copy 186 = .ok (.iastore, 1) := by decide +kernel
theorem dX5_copy_187 : decode cX5_copy 187 = .ok (.iinc 2 1, 3) := by decide +kernel
theorem dX5_copy_190 : decode cX5_copy 190 = .ok (.goto (-21), 3) := by decide +kernel
theorem dX5_copy_193 : decode cX5_copy 193 = .ok (.iconst 0, 1) := by decide +kernel
theorem dX5_copy_194 : decode cX5_copy 194 = .ok (.istore_n 2, 1) := by decide +kernel
theorem dX5_copy_195 : decode cX5_copy 195 = .ok (.iload_n 2, 1) := by decide +kernel
theorem dX5_copy_196 : decode cX5_copy 196 = .ok (.bipush 8, 2) := by decide +kernel
theorem dX5_copy_198 : decode cX5_copy 198 = .ok (.if_icmp .ge 33, 3) := by decide +kernel
theorem dX5_copy_201 : decode cX5_copy 201 = .ok (.aload_n 1, 1) := by decide +kernel
theorem dX5_copy_202 : decode cX5_copy 202 = .ok (.getfield 62, 3) := by decide +kernel
theorem dX5_copy_205 : decode cX5_copy 205 = .ok (.iload_n 2, 1) := by decide +kernel
theorem dX5_copy_206 : decode cX5_copy 206 = .ok (.aload_n 0, 1) := by decide +kernel
theorem dX5_copy_207 : decode cX5_copy 207 = .ok (.getfield 62, 3) := by decide +kernel
theorem dX5_copy_210 : decode cX5_copy 210 = .ok (.iload_n 2, 1) := by decide +kernel
theorem dX5_copy_211 : decode cX5_copy 211 = .ok (.laload, 1) := by decide +kernel
theorem dX5_copy_212 : decode cX5_copy 212 = .ok (.lastore, 1) := by decide +kernel
theorem dX5_copy_213 : decode cX5_copy 213 = .ok (.aload_n 1, 1) := by decide +kernel
theorem dX5_copy_214 : decode cX5_copy 214 = .ok (.getfield 65, 3) := by decide +kernel
theorem dX5_copy_217 : decode cX5_copy 217 = .ok (.iload_n 2, 1) := by decide +kernel
theorem dX5_copy_218 : decode cX5_copy 218 = .ok (.aload_n 0, 1) := by decide +kernel
theorem dX5_copy_219 : decode cX5_copy 219 = .ok (.getfield 65, 3) := by decide +kernel
theorem dX5_copy_222 : decode cX5_copy 222 = .ok (.iload_n 2, 1) := by decide +kernel
theorem dX5_copy_223 : decode cX5_copy 223 = .ok (.iaload, 1) := by decide +kernel
theorem dX5_copy_224 : decode cX5_copy 224 = .ok (.iastore, 1) := by decide +kernel
theorem dX5_copy_225 : decode cX5_copy 225 = .ok (.iinc 2 1, 3) := by decide +kernel
theorem dX5_copy_228 : decode cX5_copy 228 = .ok (.goto (-33), 3) := by decide +kernel
theorem dX5_copy_231 : decode cX5_copy 231 = .ok (.return_, 1) := by decide +kernel
theorem dX5_clear_0 : decode cX5_clear 0 = .ok (.aload_n 0, 1) := by decide +kernel
theorem dX5_clear_1 : decode cX5_clear 1 = .ok (.iconst 0, 1) := by decide +kernel
theorem dX5_clear_2 : decode cX5_clear 2 = .ok (.putfield 9, 3) := by decide +kernel
theorem dX5_clear_5 : decode cX5_clear 5 = .ok (.aload_n 0, 1) := by decide +kernel
theorem dX5_clear_6 : decode cX5_clear 6 = .ok (.iconst 0, 1) := by decide +kernel
theorem dX5_clear_7 : decode cX5_clear 7 = .ok (.putfield 15, 3) := by decide +kernel
theorem dX5_clear_10 : decode cX5_clear 10 = .ok (.aload_n 0, 1) := by decide +kernel
theorem dX5_clear_11 : decode cX5_clear 11 = .ok (.iconst 0, 1) := by decide +kernel
theorem dX5_clear_12 : decode cX5_clear 12 = .ok (.putfield 18, 3) := by decide +kernel
theorem dX5_clear_15 : decode cX5_clear 15 = .ok (.aload_n 0, 1) := by decide +kernel
theorem dX5_clear_16 : decode cX5_clear 16 = .ok (.iconst 0, 1) := by decide +kernel
theorem dX5_clear_17 : decode cX5_clear 17 = .ok (.putfield 21, 3) := by decide +kernel
theorem dX5_clear_20 : decode cX5_clear 20 = .ok (.aload_n 0, 1) := by decide +kernel
theorem dX5_clear_21 : decode cX5_clear 21 = .ok (.iconst 0, 1) := by decide +kernel
theorem dX5_clear_22 : decode cX5_clear 22 = .ok (.putfield 24, 3) := by decide +kernel
theorem dX5_clear_25 : decode cX5_clear 25 = .ok (.aload_n 0, 1) := by decide +kernel
theorem dX5_clear_26 : decode cX5_clear 26 = .ok (.iconst 0, 1) := by decide +kernel
theorem dX5_clear_27 : decode cX5_clear 27 = .ok (.putfield 27, 3) := by decide +kernel
theorem dX5_clear_30 : decode cX5_clear 30 = .ok (.aload_n 0, 1) := by decide +kernel
theorem dX5_clear_31 : decode cX5_clear 31 = .ok (.iconst 0, 1) := by decide +kernel
theorem dX5_clear_32 : decode cX5_clear 32 = .ok (.putfield 30, 3) := by decide +kernel
theorem dX5_clear_35 : decode cX5_clear 35 = .ok (.aload_n 0, 1) := by decide +kernel
theorem dX5_clear_36 : decode cX5_clear 36 = .ok (.iconst 0, 1) := by decide +kernel
theorem dX5_clear_37 : decode cX5_clear 37 = .ok (.putfield 33, 3) := by decide +kernel
theorem dX5_clear_40 : decode cX5_clear 40 = .ok (.aload_n 0, 1) := by decide +kernel
theorem dX5_clear_41 : decode cX5_clear 41 = .ok (.iconst 0, 1) := by decide +kernel
theorem dX5_clear_42 : decode cX5_clear 42 = .ok (.putfield 36, 3) := by decide +kernel
theorem dX5_clear_45 : decode cX5_clear 45 = .ok (.return_, 1) := by decide +kernel
theorem dX5_addStall_0 : decode cX5_addStall 0 = .ok (.aload_n 0, 1) := by decide +kernel
theorem dX5_addStall_1 : decode cX5_addStall 1 = .ok (.getfield 15, 3) := by decide +kernel
theorem dX5_addStall_4 : decode cX5_addStall 4 = .ok (.bipush 8, 2) := by decide +kernel
theorem dX5_addStall_6 : decode cX5_addStall 6 = .ok (.if_icmp .ge 33, 3) := by decide +kernel
theorem dX5_addStall_9 : decode cX5_addStall 9 = .ok (.aload_n 0, 1) := by decide +kernel
theorem dX5_addStall_10 : decode cX5_addStall 10 = .ok (.getfield 62, 3) := by decide +kernel
theorem dX5_addStall_13 : decode cX5_addStall 13 = .ok (.aload_n 0, 1) := by decide +kernel
theorem dX5_addStall_14 : decode cX5_addStall 14 = .ok (.getfield 15, 3) := by decide +kernel
theorem dX5_addStall_17 : decode cX5_addStall 17 = .ok (.lload_n 1, 1) := by decide +kernel
theorem dX5_addStall_18 : decode cX5_addStall 18 = .ok (.lastore, 1) := by decide +kernel
theorem dX5_addStall_19 : decode cX5_addStall 19 = .ok (.aload_n 0, 1) := by decide +kernel
theorem dX5_addStall_20 : decode cX5_addStall 20 = .ok (.getfield 65, 3) := by decide +kernel
theorem dX5_addStall_23 : decode cX5_addStall 23 = .ok (.aload_n 0, 1) := by decide +kernel
theorem dX5_addStall_24 : decode cX5_addStall 24 = .ok (.getfield 15, 3) := by decide +kernel
theorem dX5_addStall_27 : decode cX5_addStall 27 = .ok (.iload_n 3, 1) := by decide +kernel
theorem dX5_addStall_28 : decode cX5_addStall 28 = .ok (.iastore, 1) := by decide +kernel
theorem dX5_addStall_29 : decode cX5_addStall 29 = .ok (.aload_n 0, 1) := by decide +kernel
theorem dX5_addStall_30 : decode cX5_addStall 30 = .ok (.dup, 1) := by decide +kernel
theorem dX5_addStall_31 : decode cX5_addStall 31 = .ok (.getfield 15, 3) := by decide +kernel
theorem dX5_addStall_34 : decode cX5_addStall 34 = .ok (.iconst 1, 1) := by decide +kernel
theorem dX5_addStall_35 : decode cX5_addStall 35 = .ok (.iadd, 1) := by decide +kernel
theorem dX5_addStall_36 : decode cX5_addStall 36 = .ok (.putfield 15, 3) := by decide +kernel
theorem dX5_addStall_39 : decode cX5_addStall 39 = .ok (.return_, 1) := by decide +kernel
theorem dX5_addSeller_0 : decode cX5_addSeller 0 = .ok (.aload_n 0, 1) := by decide +kernel
theorem dX5_addSeller_1 : decode cX5_addSeller 1 = .ok (.getfield 9, 3) := by decide +kernel
theorem dX5_addSeller_4 : decode cX5_addSeller 4 = .ok (.bipush 8, 2) := by decide +kernel
theorem dX5_addSeller_6 : decode cX5_addSeller 6 = .ok (.if_icmp .ge 87, 3) := by decide +kernel
theorem dX5_addSeller_9 : decode cX5_addSeller 9 = .ok (.aload_n 0, 1) := by decide +kernel
theorem dX5_addSeller_10 : decode cX5_addSeller 10 = .ok (.getfield 39, 3) := by decide +kernel
theorem dX5_addSeller_13 : decode cX5_addSeller 13 = .ok (.aload_n 0, 1) := by decide +kernel
theorem dX5_addSeller_14 : decode cX5_addSeller 14 = .ok (.getfield 9, 3) := by decide +kernel
theorem dX5_addSeller_17 : decode cX5_addSeller 17 = .ok (.lload_n 1, 1) := by decide +kernel
theorem dX5_addSeller_18 : decode cX5_addSeller 18 = .ok (.lastore, 1) := by decide +kernel
theorem dX5_addSeller_19 : decode cX5_addSeller 19 = .ok (.aload_n 0, 1) := by decide +kernel
theorem dX5_addSeller_20 : decode cX5_addSeller 20 = .ok (.getfield 43, 3) := by decide +kernel
theorem dX5_addSeller_23 : decode cX5_addSeller 23 = .ok (.aload_n 0, 1) := by decide +kernel
theorem dX5_addSeller_24 : decode cX5_addSeller 24 = .ok (.getfield 9, 3) := by decide +kernel
theorem dX5_addSeller_27 : decode cX5_addSeller 27 = .ok (.iload_n 3, 1) := by decide +kernel
theorem dX5_addSeller_28 : decode cX5_addSeller 28 = .ok (.iastore, 1) := by decide +kernel
theorem dX5_addSeller_29 : decode cX5_addSeller 29 = .ok (.aload_n 0, 1) := by decide +kernel
theorem dX5_addSeller_30 : decode cX5_addSeller 30 = .ok (.getfield 47, 3) := by decide +kernel
theorem dX5_addSeller_33 : decode cX5_addSeller 33 = .ok (.aload_n 0, 1) := by decide +kernel
theorem dX5_addSeller_34 : decode cX5_addSeller 34 = .ok (.getfield 9, 3) := by decide +kernel
theorem dX5_addSeller_37 : decode cX5_addSeller 37 = .ok (.iload 4, 2) := by decide +kernel
theorem dX5_addSeller_39 : decode cX5_addSeller 39 = .ok (.iastore, 1) := by decide +kernel
theorem dX5_addSeller_40 : decode cX5_addSeller 40 = .ok (.aload_n 0, 1) := by decide +kernel
theorem dX5_addSeller_41 : decode cX5_addSeller 41 = .ok (.getfield 50, 3) := by decide +kernel
theorem dX5_addSeller_44 : decode cX5_addSeller 44 = .ok (.aload_n 0, 1) := by decide +kernel
theorem dX5_addSeller_45 : decode cX5_addSeller 45 = .ok (.getfield 9, 3) := by decide +kernel
theorem dX5_addSeller_48 : decode cX5_addSeller 48 = .ok (.iconst (-1), 1) := by decide +kernel
theorem dX5_addSeller_49 : decode cX5_addSeller 49 = .ok (.iastore, 1) := by decide +kernel
theorem dX5_addSeller_50 : decode cX5_addSeller 50 = .ok (.aload_n 0, 1) := by decide +kernel
theorem dX5_addSeller_51 : decode cX5_addSeller 51 = .ok (.getfield 53, 3) := by decide +kernel
theorem dX5_addSeller_54 : decode cX5_addSeller 54 = .ok (.aload_n 0, 1) := by decide +kernel
theorem dX5_addSeller_55 : decode cX5_addSeller 55 = .ok (.getfield 9, 3) := by decide +kernel
theorem dX5_addSeller_58 : decode cX5_addSeller 58 = .ok (.aload_n 0, 1) := by decide +kernel
theorem dX5_addSeller_59 : decode cX5_addSeller 59 = .ok (.getfield 9, 3) := by decide +kernel
theorem dX5_addSeller_62 : decode cX5_addSeller 62 = .ok (.iastore, 1) := by decide +kernel
theorem dX5_addSeller_63 : decode cX5_addSeller 63 = .ok (.aload_n 0, 1) := by decide +kernel
theorem dX5_addSeller_64 : decode cX5_addSeller 64 = .ok (.getfield 56, 3) := by decide +kernel
theorem dX5_addSeller_67 : decode cX5_addSeller 67 = .ok (.aload_n 0, 1) := by decide +kernel
theorem dX5_addSeller_68 : decode cX5_addSeller 68 = .ok (.getfield 9, 3) := by decide +kernel
theorem dX5_addSeller_71 : decode cX5_addSeller 71 = .ok (.iconst 0, 1) := by decide +kernel
theorem dX5_addSeller_72 : decode cX5_addSeller 72 = .ok (.iastore, 1) := by decide +kernel
theorem dX5_addSeller_73 : decode cX5_addSeller 73 = .ok (.aload_n 0, 1) := by decide +kernel
theorem dX5_addSeller_74 : decode cX5_addSeller 74 = .ok (.dup, 1) := by decide +kernel
theorem dX5_addSeller_75 : decode cX5_addSeller 75 = .ok (.getfield 33, 3) := by decide +kernel
theorem dX5_addSeller_78 : decode cX5_addSeller 78 = .ok (.iload_n 3, 1) := by decide +kernel
theorem dX5_addSeller_79 : decode cX5_addSeller 79 = .ok (.iadd, 1) := by decide +kernel
theorem dX5_addSeller_80 : decode cX5_addSeller 80 = .ok (.putfield 33, 3) := by decide +kernel
theorem dX5_addSeller_83 : decode cX5_addSeller 83 = .ok (.aload_n 0, 1) := by decide +kernel
theorem dX5_addSeller_84 : decode cX5_addSeller 84 = .ok (.dup, 1) := by decide +kernel
theorem dX5_addSeller_85 : decode cX5_addSeller 85 = .ok (.getfield 9, 3) := by decide +kernel
theorem dX5_addSeller_88 : decode cX5_addSeller 88 = .ok (.iconst 1, 1) := by decide +kernel
theorem dX5_addSeller_89 : decode cX5_addSeller 89 = .ok (.iadd, 1) := by decide +kernel
theorem dX5_addSeller_90 : decode cX5_addSeller 90 = .ok (.putfield 9, 3) := by decide +kernel
theorem dX5_addSeller_93 : decode cX5_addSeller 93 = .ok (.return_, 1) := by decide +kernel
theorem dX5_hasSeller_0 : decode cX5_hasSeller 0 = .ok (.iload_n 1, 1) := by decide +kernel
theorem dX5_hasSeller_1 : decode cX5_hasSeller 1 = .ok (.ifCond .lt 15, 3) := by decide +kernel
theorem dX5_hasSeller_4 : decode cX5_hasSeller 4 = .ok (.iload_n 1, 1) := by decide +kernel
theorem dX5_hasSeller_5 : decode cX5_hasSeller 5 = .ok (.aload_n 0, 1) := by decide +kernel
theorem dX5_hasSeller_6 : decode cX5_hasSeller 6 = .ok (.getfield 9, 3) := by decide +kernel
theorem dX5_hasSeller_9 : decode cX5_hasSeller 9 = .ok (.if_icmp .ge 7, 3) := by decide +kernel
theorem dX5_hasSeller_12 : decode cX5_hasSeller 12 = .ok (.iconst 1, 1) := by decide +kernel
theorem dX5_hasSeller_13 : decode cX5_hasSeller 13 = .ok (.goto 4, 3) := by decide +kernel
theorem dX5_hasSeller_16 : decode cX5_hasSeller 16 = .ok (.iconst 0, 1) := by decide +kernel
theorem dX5_hasSeller_17 : decode cX5_hasSeller 17 = .ok (.ireturn, 1) := by decide +kernel
theorem dX5_hasStall_0 : decode cX5_hasStall 0 = .ok (.iload_n 1, 1) := by decide +kernel
theorem dX5_hasStall_1 : decode cX5_hasStall 1 = .ok (.ifCond .lt 15, 3) := by decide +kernel
theorem dX5_hasStall_4 : decode cX5_hasStall 4 = .ok (.iload_n 1, 1) := by decide +kernel
theorem dX5_hasStall_5 : decode cX5_hasStall 5 = .ok (.aload_n 0, 1) := by decide +kernel
theorem dX5_hasStall_6 : decode cX5_hasStall 6 = .ok (.getfield 15, 3) := by decide +kernel
theorem dX5_hasStall_9 : decode cX5_hasStall 9 = .ok (.if_icmp .ge 7, 3) := by decide +kernel
theorem dX5_hasStall_12 : decode cX5_hasStall 12 = .ok (.iconst 1, 1) := by decide +kernel
theorem dX5_hasStall_13 : decode cX5_hasStall 13 = .ok (.goto 4, 3) := by decide +kernel
theorem dX5_hasStall_16 : decode cX5_hasStall 16 = .ok (.iconst 0, 1) := by decide +kernel
theorem dX5_hasStall_17 : decode cX5_hasStall 17 = .ok (.ireturn, 1) := by decide +kernel
theorem dX5_coinsOf_0 : decode cX5_coinsOf 0 = .ok (.aload_n 0, 1) := by decide +kernel
theorem dX5_coinsOf_1 : decode cX5_coinsOf 1 = .ok (.iload_n 1, 1) := by decide +kernel
theorem dX5_coinsOf_2 : decode cX5_coinsOf 2 = .ok (.invokevirtual 68, 3) := by decide +kernel
theorem dX5_coinsOf_5 : decode cX5_coinsOf 5 = .ok (.ifCond .eq 12, 3) := by decide +kernel
theorem dX5_coinsOf_8 : decode cX5_coinsOf 8 = .ok (.aload_n 0, 1) := by decide +kernel
theorem dX5_coinsOf_9 : decode cX5_coinsOf 9 = .ok (.getfield 43, 3) := by decide +kernel
theorem dX5_coinsOf_12 : decode cX5_coinsOf 12 = .ok (.iload_n 1, 1) := by decide +kernel
theorem dX5_coinsOf_13 : decode cX5_coinsOf 13 = .ok (.iaload, 1) := by decide +kernel
theorem dX5_coinsOf_14 : decode cX5_coinsOf 14 = .ok (.goto 4, 3) := by decide +kernel
theorem dX5_coinsOf_17 : decode cX5_coinsOf 17 = .ok (.iconst 0, 1) := by decide +kernel
theorem dX5_coinsOf_18 : decode cX5_coinsOf 18 = .ok (.ireturn, 1) := by decide +kernel
theorem dX5_heldBy_0 : decode cX5_heldBy 0 = .ok (.aload_n 0, 1) := by decide +kernel
theorem dX5_heldBy_1 : decode cX5_heldBy 1 = .ok (.iload_n 1, 1) := by decide +kernel
theorem dX5_heldBy_2 : decode cX5_heldBy 2 = .ok (.invokevirtual 68, 3) := by decide +kernel
theorem dX5_heldBy_5 : decode cX5_heldBy 5 = .ok (.ifCond .eq 12, 3) := by decide +kernel
theorem dX5_heldBy_8 : decode cX5_heldBy 8 = .ok (.aload_n 0, 1) := by decide +kernel
theorem dX5_heldBy_9 : decode cX5_heldBy 9 = .ok (.getfield 50, 3) := by decide +kernel
theorem dX5_heldBy_12 : decode cX5_heldBy 12 = .ok (.iload_n 1, 1) := by decide +kernel
theorem dX5_heldBy_13 : decode cX5_heldBy 13 = .ok (.iaload, 1) := by decide +kernel
theorem dX5_heldBy_14 : decode cX5_heldBy 14 = .ok (.goto 4, 3) := by decide +kernel
theorem dX5_heldBy_17 : decode cX5_heldBy 17 = .ok (.iconst (-1), 1) := by decide +kernel
theorem dX5_heldBy_18 : decode cX5_heldBy 18 = .ok (.ireturn, 1) := by decide +kernel
theorem dX5_turnOf_0 : decode cX5_turnOf 0 = .ok (.aload_n 0, 1) := by decide +kernel
theorem dX5_turnOf_1 : decode cX5_turnOf 1 = .ok (.iload_n 1, 1) := by decide +kernel
theorem dX5_turnOf_2 : decode cX5_turnOf 2 = .ok (.invokevirtual 68, 3) := by decide +kernel
theorem dX5_turnOf_5 : decode cX5_turnOf 5 = .ok (.ifCond .eq 12, 3) := by decide +kernel
theorem dX5_turnOf_8 : decode cX5_turnOf 8 = .ok (.aload_n 0, 1) := by decide +kernel
theorem dX5_turnOf_9 : decode cX5_turnOf 9 = .ok (.getfield 53, 3) := by decide +kernel
theorem dX5_turnOf_12 : decode cX5_turnOf 12 = .ok (.iload_n 1, 1) := by decide +kernel
theorem dX5_turnOf_13 : decode cX5_turnOf 13 = .ok (.iaload, 1) := by decide +kernel
theorem dX5_turnOf_14 : decode cX5_turnOf 14 = .ok (.goto 4, 3) := by decide +kernel
theorem dX5_turnOf_17 : decode cX5_turnOf 17 = .ok (.iconst (-1), 1) := by decide +kernel
theorem dX5_turnOf_18 : decode cX5_turnOf 18 = .ok (.ireturn, 1) := by decide +kernel
theorem dX5_wishesOf_0 : decode cX5_wishesOf 0 = .ok (.aload_n 0, 1) := by decide +kernel
theorem dX5_wishesOf_1 : decode cX5_wishesOf 1 = .ok (.iload_n 1, 1) := by decide +kernel
theorem dX5_wishesOf_2 : decode cX5_wishesOf 2 = .ok (.invokevirtual 68, 3) := by decide +kernel
theorem dX5_wishesOf_5 : decode cX5_wishesOf 5 = .ok (.ifCond .eq 12, 3) := by decide +kernel
theorem dX5_wishesOf_8 : decode cX5_wishesOf 8 = .ok (.aload_n 0, 1) := by decide +kernel
theorem dX5_wishesOf_9 : decode cX5_wishesOf 9 = .ok (.getfield 56, 3) := by decide +kernel
theorem dX5_wishesOf_12 : decode cX5_wishesOf 12 = .ok (.iload_n 1, 1) := by decide +kernel
theorem dX5_wishesOf_13 : decode cX5_wishesOf 13 = .ok (.iaload, 1) := by decide +kernel
theorem dX5_wishesOf_14 : decode cX5_wishesOf 14 = .ok (.goto 4, 3) := by decide +kernel
theorem dX5_wishesOf_17 : decode cX5_wishesOf 17 = .ok (.iconst 0, 1) := by decide +kernel
theorem dX5_wishesOf_18 : decode cX5_wishesOf 18 = .ok (.ireturn, 1) := by decide +kernel
theorem dX5_priceOf_0 : decode cX5_priceOf 0 = .ok (.aload_n 0, 1) := by decide +kernel
theorem dX5_priceOf_1 : decode cX5_priceOf 1 = .ok (.iload_n 1, 1) := by decide +kernel
theorem dX5_priceOf_2 : decode cX5_priceOf 2 = .ok (.invokevirtual 72, 3) := by decide +kernel
theorem dX5_priceOf_5 : decode cX5_priceOf 5 = .ok (.ifCond .eq 12, 3) := by decide +kernel
theorem dX5_priceOf_8 : decode cX5_priceOf 8 = .ok (.aload_n 0, 1) := by decide +kernel
theorem dX5_priceOf_9 : decode cX5_priceOf 9 = .ok (.getfield 65, 3) := by decide +kernel
theorem dX5_priceOf_12 : decode cX5_priceOf 12 = .ok (.iload_n 1, 1) := by decide +kernel
theorem dX5_priceOf_13 : decode cX5_priceOf 13 = .ok (.iaload, 1) := by decide +kernel
theorem dX5_priceOf_14 : decode cX5_priceOf 14 = .ok (.goto 4, 3) := by decide +kernel
theorem dX5_priceOf_17 : decode cX5_priceOf 17 = .ok (.iconst 0, 1) := by decide +kernel
theorem dX5_priceOf_18 : decode cX5_priceOf 18 = .ok (.ireturn, 1) := by decide +kernel
theorem dX5_sellerCalled_0 : decode cX5_sellerCalled 0 = .ok (.iconst 0, 1) := by decide +kernel
theorem dX5_sellerCalled_1 : decode cX5_sellerCalled 1 = .ok (.istore_n 3, 1) := by decide +kernel
theorem dX5_sellerCalled_2 : decode cX5_sellerCalled 2 = .ok (.iload_n 3, 1) := by decide +kernel
theorem dX5_sellerCalled_3 : decode cX5_sellerCalled 3 = .ok (.aload_n 0, 1) := by decide +kernel
theorem dX5_sellerCalled_4 : decode cX5_sellerCalled 4 = .ok (.getfield 9, 3) := by decide +kernel
theorem dX5_sellerCalled_7 : decode cX5_sellerCalled 7 = .ok (.if_icmp .ge 22, 3) := by decide +kernel
theorem dX5_sellerCalled_10 : decode cX5_sellerCalled 10 = .ok (.aload_n 0, 1) := by decide +kernel
theorem dX5_sellerCalled_11 : decode cX5_sellerCalled 11 = .ok (.getfield 39, 3) := by decide +kernel
theorem dX5_sellerCalled_14 : decode cX5_sellerCalled 14 = .ok (.iload_n 3, 1) := by decide +kernel
theorem dX5_sellerCalled_15 : decode cX5_sellerCalled 15 = .ok (.laload, 1) := by decide +kernel
theorem dX5_sellerCalled_16 : decode cX5_sellerCalled 16 = .ok (.lload_n 1, 1) := by decide +kernel
theorem dX5_sellerCalled_17 : decode cX5_sellerCalled 17 = .ok (.lcmp, 1) := by decide +kernel
theorem dX5_sellerCalled_18 : decode cX5_sellerCalled 18 = .ok (.ifCond .ne 5, 3) := by decide +kernel
theorem dX5_sellerCalled_21 : decode cX5_sellerCalled 21 = .ok (.iload_n 3, 1) := by decide +kernel
theorem dX5_sellerCalled_22 : decode cX5_sellerCalled 22 = .ok (.ireturn, 1) := by decide +kernel
theorem dX5_sellerCalled_23 : decode cX5_sellerCalled 23 = .ok (.iinc 3 1, 3) := by decide +kernel
theorem dX5_sellerCalled_26 : decode cX5_sellerCalled 26 = .ok (.goto (-24), 3) := by decide +kernel
theorem dX5_sellerCalled_29 : decode cX5_sellerCalled 29 = .ok (.iconst (-1), 1) := by decide +kernel
theorem dX5_sellerCalled_30 : decode cX5_sellerCalled 30 = .ok (.ireturn, 1) := by decide +kernel
theorem dX5_stallCalled_0 : decode cX5_stallCalled 0 = .ok (.iconst 0, 1) := by decide +kernel
theorem dX5_stallCalled_1 : decode cX5_stallCalled 1 = .ok (.istore_n 3, 1) := by decide +kernel
theorem dX5_stallCalled_2 : decode cX5_stallCalled 2 = .ok (.iload_n 3, 1) := by decide +kernel
theorem dX5_stallCalled_3 : decode cX5_stallCalled 3 = .ok (.aload_n 0, 1) := by decide +kernel
theorem dX5_stallCalled_4 : decode cX5_stallCalled 4 = .ok (.getfield 15, 3) := by decide +kernel
theorem dX5_stallCalled_7 : decode cX5_stallCalled 7 = .ok (.if_icmp .ge 22, 3) := by decide +kernel
theorem dX5_stallCalled_10 : decode cX5_stallCalled 10 = .ok (.aload_n 0, 1) := by decide +kernel
theorem dX5_stallCalled_11 : decode cX5_stallCalled 11 = .ok (.getfield 62, 3) := by decide +kernel
theorem dX5_stallCalled_14 : decode cX5_stallCalled 14 = .ok (.iload_n 3, 1) := by decide +kernel
theorem dX5_stallCalled_15 : decode cX5_stallCalled 15 = .ok (.laload, 1) := by decide +kernel
theorem dX5_stallCalled_16 : decode cX5_stallCalled 16 = .ok (.lload_n 1, 1) := by decide +kernel
theorem dX5_stallCalled_17 : decode cX5_stallCalled 17 = .ok (.lcmp, 1) := by decide +kernel
theorem dX5_stallCalled_18 : decode cX5_stallCalled 18 = .ok (.ifCond .ne 5, 3) := by decide +kernel
theorem dX5_stallCalled_21 : decode cX5_stallCalled 21 = .ok (.iload_n 3, 1) := by decide +kernel
theorem dX5_stallCalled_22 : decode cX5_stallCalled 22 = .ok (.ireturn, 1) := by decide +kernel
theorem dX5_stallCalled_23 : decode cX5_stallCalled 23 = .ok (.iinc 3 1, 3) := by decide +kernel
theorem dX5_stallCalled_26 : decode cX5_stallCalled 26 = .ok (.goto (-24), 3) := by decide +kernel
theorem dX5_stallCalled_29 : decode cX5_stallCalled 29 = .ok (.iconst (-1), 1) := by decide +kernel
theorem dX5_stallCalled_30 : decode cX5_stallCalled 30 = .ok (.ireturn, 1) := by decide +kernel
theorem dX5_holderOf_0 : decode cX5_holderOf 0 = .ok (.iload_n 1, 1) := by decide +kernel
theorem dX5_holderOf_1 : decode cX5_holderOf 1 = .ok (.iconst (-1), 1) := by decide +kernel
theorem dX5_holderOf_2 : decode cX5_holderOf 2 = .ok (.if_icmp .ne 5, 3) := by decide +kernel
theorem dX5_holderOf_5 : decode cX5_holderOf 5 = .ok (.iconst (-1), 1) := by decide +kernel
theorem dX5_holderOf_6 : decode cX5_holderOf 6 = .ok (.ireturn, 1) := by decide +kernel
theorem dX5_holderOf_7 : decode cX5_holderOf 7 = .ok (.iconst 0, 1) := by decide +kernel
theorem dX5_holderOf_8 : decode cX5_holderOf 8 = .ok (.istore_n 2, 1) := by decide +kernel
theorem dX5_holderOf_9 : decode cX5_holderOf 9 = .ok (.iload_n 2, 1) := by decide +kernel
theorem dX5_holderOf_10 : decode cX5_holderOf 10 = .ok (.aload_n 0, 1) := by decide +kernel
theorem dX5_holderOf_11 : decode cX5_holderOf 11 = .ok (.getfield 9, 3) := by decide +kernel
theorem dX5_holderOf_14 : decode cX5_holderOf 14 = .ok (.if_icmp .ge 21, 3) := by decide +kernel
theorem dX5_holderOf_17 : decode cX5_holderOf 17 = .ok (.aload_n 0, 1) := by decide +kernel
theorem dX5_holderOf_18 : decode cX5_holderOf 18 = .ok (.getfield 50, 3) := by decide +kernel
theorem dX5_holderOf_21 : decode cX5_holderOf 21 = .ok (.iload_n 2, 1) := by decide +kernel
theorem dX5_holderOf_22 : decode cX5_holderOf 22 = .ok (.iaload, 1) := by decide +kernel
theorem dX5_holderOf_23 : decode cX5_holderOf 23 = .ok (.iload_n 1, 1) := by decide +kernel
theorem dX5_holderOf_24 : decode cX5_holderOf 24 = .ok (.if_icmp .ne 5, 3) := by decide +kernel
theorem dX5_holderOf_27 : decode cX5_holderOf 27 = .ok (.iload_n 2, 1) := by decide +kernel
theorem dX5_holderOf_28 : decode cX5_holderOf 28 = .ok (.ireturn, 1) := by decide +kernel
theorem dX5_holderOf_29 : decode cX5_holderOf 29 = .ok (.iinc 2 1, 3) := by decide +kernel
theorem dX5_holderOf_32 : decode cX5_holderOf 32 = .ok (.goto (-23), 3) := by decide +kernel
theorem dX5_holderOf_35 : decode cX5_holderOf 35 = .ok (.iconst (-1), 1) := by decide +kernel
theorem dX5_holderOf_36 : decode cX5_holderOf 36 = .ok (.ireturn, 1) := by decide +kernel
theorem dX5_wish_0 : decode cX5_wish 0 = .ok (.aload_n 0, 1) := by decide +kernel
theorem dX5_wish_1 : decode cX5_wish 1 = .ok (.iload_n 1, 1) := by decide +kernel
theorem dX5_wish_2 : decode cX5_wish 2 = .ok (.invokevirtual 68, 3) := by decide +kernel
theorem dX5_wish_5 : decode cX5_wish 5 = .ok (.ifCond .eq 17, 3) := by decide +kernel
theorem dX5_wish_8 : decode cX5_wish 8 = .ok (.iload_n 2, 1) := by decide +kernel
theorem dX5_wish_9 : decode cX5_wish 9 = .ok (.ifCond .lt 13, 3) := by decide +kernel
theorem dX5_wish_12 : decode cX5_wish 12 = .ok (.iload_n 2, 1) := by decide +kernel
theorem dX5_wish_13 : decode cX5_wish 13 = .ok (.aload_n 0, 1) := by decide +kernel
theorem dX5_wish_14 : decode cX5_wish 14 = .ok (.getfield 56, 3) := by decide +kernel
theorem dX5_wish_17 : decode cX5_wish 17 = .ok (.iload_n 1, 1) := by decide +kernel
theorem dX5_wish_18 : decode cX5_wish 18 = .ok (.iaload, 1) := by decide +kernel
theorem dX5_wish_19 : decode cX5_wish 19 = .ok (.if_icmp .lt 5, 3) := by decide +kernel
theorem dX5_wish_22 : decode cX5_wish 22 = .ok (.iconst (-1), 1) := by decide +kernel
theorem dX5_wish_23 : decode cX5_wish 23 = .ok (.ireturn, 1) := by decide +kernel
theorem dX5_wish_24 : decode cX5_wish 24 = .ok (.aload_n 0, 1) := by decide +kernel
theorem dX5_wish_25 : decode cX5_wish 25 = .ok (.getfield 59, 3) := by decide +kernel
theorem dX5_wish_28 : decode cX5_wish 28 = .ok (.iload_n 1, 1) := by decide +kernel
theorem dX5_wish_29 : decode cX5_wish 29 = .ok (.bipush 8, 2) := by decide +kernel
theorem dX5_wish_31 : decode cX5_wish 31 = .ok (.imul, 1) := by decide +kernel
theorem dX5_wish_32 : decode cX5_wish 32 = .ok (.iload_n 2, 1) := by decide +kernel
theorem dX5_wish_33 : decode cX5_wish 33 = .ok (.iadd, 1) := by decide +kernel
theorem dX5_wish_34 : decode cX5_wish 34 = .ok (.iaload, 1) := by decide +kernel
theorem dX5_wish_35 : decode cX5_wish 35 = .ok (.ireturn, 1) := by decide +kernel
theorem dX5_rankIn_0 : decode cX5_rankIn 0 = .ok (.iload_n 1, 1) := by decide +kernel
theorem dX5_rankIn_1 : decode cX5_rankIn 1 = .ok (.ifCond .lt 11, 3) := by decide +kernel
theorem dX5_rankIn_4 : decode cX5_rankIn 4 = .ok (.iload_n 1, 1) := by decide +kernel
theorem dX5_rankIn_5 : decode cX5_rankIn 5 = .ok (.aload_n 0, 1) := by decide +kernel
theorem dX5_rankIn_6 : decode cX5_rankIn 6 = .ok (.getfield 9, 3) := by decide +kernel
theorem dX5_rankIn_9 : decode cX5_rankIn 9 = .ok (.if_icmp .lt 5, 3) := by decide +kernel
theorem dX5_rankIn_12 : decode cX5_rankIn 12 = .ok (.iconst (-1), 1) := by decide +kernel
theorem dX5_rankIn_13 : decode cX5_rankIn 13 = .ok (.ireturn, 1) := by decide +kernel
theorem dX5_rankIn_14 : decode cX5_rankIn 14 = .ok (.iconst 0, 1) := by decide +kernel
theorem dX5_rankIn_15 : decode cX5_rankIn 15 = .ok (.istore_n 3, 1) := by decide +kernel
theorem dX5_rankIn_16 : decode cX5_rankIn 16 = .ok (.iload_n 3, 1) := by decide +kernel
theorem dX5_rankIn_17 : decode cX5_rankIn 17 = .ok (.aload_n 0, 1) := by decide +kernel
theorem dX5_rankIn_18 : decode cX5_rankIn 18 = .ok (.getfield 56, 3) := by decide +kernel
theorem dX5_rankIn_21 : decode cX5_rankIn 21 = .ok (.iload_n 1, 1) := by decide +kernel
theorem dX5_rankIn_22 : decode cX5_rankIn 22 = .ok (.iaload, 1) := by decide +kernel
theorem dX5_rankIn_23 : decode cX5_rankIn 23 = .ok (.if_icmp .ge 26, 3) := by decide +kernel
theorem dX5_rankIn_26 : decode cX5_rankIn 26 = .ok (.aload_n 0, 1) := by decide +kernel
theorem dX5_rankIn_27 : decode cX5_rankIn 27 = .ok (.getfield 59, 3) := by decide +kernel
theorem dX5_rankIn_30 : decode cX5_rankIn 30 = .ok (.iload_n 1, 1) := by decide +kernel
theorem dX5_rankIn_31 : decode cX5_rankIn 31 = .ok (.bipush 8, 2) := by decide +kernel
theorem dX5_rankIn_33 : decode cX5_rankIn 33 = .ok (.imul, 1) := by decide +kernel
theorem dX5_rankIn_34 : decode cX5_rankIn 34 = .ok (.iload_n 3, 1) := by decide +kernel
theorem dX5_rankIn_35 : decode cX5_rankIn 35 = .ok (.iadd, 1) := by decide +kernel
theorem dX5_rankIn_36 : decode cX5_rankIn 36 = .ok (.iaload, 1) := by decide +kernel
theorem dX5_rankIn_37 : decode cX5_rankIn 37 = .ok (.iload_n 2, 1) := by decide +kernel
theorem dX5_rankIn_38 : decode cX5_rankIn 38 = .ok (.if_icmp .ne 5, 3) := by decide +kernel
theorem dX5_rankIn_41 : decode cX5_rankIn 41 = .ok (.iload_n 3, 1) := by decide +kernel
theorem dX5_rankIn_42 : decode cX5_rankIn 42 = .ok (.ireturn, 1) := by decide +kernel
theorem dX5_rankIn_43 : decode cX5_rankIn 43 = .ok (.iinc 3 1, 3) := by decide +kernel
theorem dX5_rankIn_46 : decode cX5_rankIn 46 = .ok (.goto (-30), 3) := by decide +kernel
theorem dX5_rankIn_49 : decode cX5_rankIn 49 = .ok (.iconst (-1), 1) := by decide +kernel
theorem dX5_rankIn_50 : decode cX5_rankIn 50 = .ok (.ireturn, 1) := by decide +kernel
theorem dX5_ranksAbove_0 : decode cX5_ranksAbove 0 = .ok (.aload_n 0, 1) := by decide +kernel
theorem dX5_ranksAbove_1 : decode cX5_ranksAbove 1 = .ok (.iload_n 1, 1) := by decide +kernel
theorem dX5_ranksAbove_2 : decode cX5_ranksAbove 2 = .ok (.iload_n 2, 1) := by decide +kernel
theorem dX5_ranksAbove_3 : decode cX5_ranksAbove 3 = .ok (.invokevirtual 75, 3) := by decide +kernel
theorem dX5_ranksAbove_6 : decode cX5_ranksAbove 6 = .ok (.aload_n 0, 1) := by decide +kernel
theorem dX5_ranksAbove_7 : decode cX5_ranksAbove 7 = .ok (.iload_n 1, 1) := by decide +kernel
theorem dX5_ranksAbove_8 : decode cX5_ranksAbove 8 = .ok (.iload_n 3, 1) := by decide +kernel
theorem dX5_ranksAbove_9 : decode cX5_ranksAbove 9 = .ok (.invokevirtual 75, 3) := by decide +kernel
theorem dX5_ranksAbove_12 : decode cX5_ranksAbove 12 = .ok (.if_icmp .ge 7, 3) := by decide +kernel
theorem dX5_ranksAbove_15 : decode cX5_ranksAbove 15 = .ok (.iconst 1, 1) := by decide +kernel
theorem dX5_ranksAbove_16 : decode cX5_ranksAbove 16 = .ok (.goto 4, 3) := by decide +kernel
theorem dX5_ranksAbove_19 : decode cX5_ranksAbove 19 = .ok (.iconst 0, 1) := by decide +kernel
theorem dX5_ranksAbove_20 : decode cX5_ranksAbove 20 = .ok (.ireturn, 1) := by decide +kernel
theorem dX5_standing_0 : decode cX5_standing 0 = .ok (.iload_n 2, 1) := by decide +kernel
theorem dX5_standing_1 : decode cX5_standing 1 = .ok (.iconst (-1), 1) := by decide +kernel
theorem dX5_standing_2 : decode cX5_standing 2 = .ok (.if_icmp .ne 6, 3) := by decide +kernel
theorem dX5_standing_5 : decode cX5_standing 5 = .ok (.bipush 8, 2) := by decide +kernel
theorem dX5_standing_7 : decode cX5_standing 7 = .ok (.ireturn, 1) := by decide +kernel
theorem dX5_standing_8 : decode cX5_standing 8 = .ok (.aload_n 0, 1) := by decide +kernel
theorem dX5_standing_9 : decode cX5_standing 9 = .ok (.iload_n 1, 1) := by decide +kernel
theorem dX5_standing_10 : decode cX5_standing 10 = .ok (.iload_n 2, 1) := by decide +kernel
theorem dX5_standing_11 : decode cX5_standing 11 = .ok (.invokevirtual 79, 3) := by decide +kernel
theorem dX5_standing_14 : decode cX5_standing 14 = .ok (.istore_n 3, 1) := by decide +kernel
theorem dX5_standing_15 : decode cX5_standing 15 = .ok (.iload_n 3, 1) := by decide +kernel
theorem dX5_standing_16 : decode cX5_standing 16 = .ok (.iconst (-1), 1) := by decide +kernel
theorem dX5_standing_17 : decode cX5_standing 17 = .ok (.if_icmp .ne 8, 3) := by decide +kernel
theorem dX5_standing_20 : decode cX5_standing 20 = .ok (.bipush 9, 2) := by decide +kernel
theorem dX5_standing_22 : decode cX5_standing 22 = .ok (.goto 4, 3) := by decide +kernel
theorem dX5_standing_25 : decode cX5_standing 25 = .ok (.iload_n 3, 1) := by decide +kernel
theorem dX5_standing_26 : decode cX5_standing 26 = .ok (.ireturn, 1) := by decide +kernel
theorem dX5_mayMoveInto_0 : decode cX5_mayMoveInto 0 = .ok (.aload_n 0, 1) := by decide +kernel
theorem dX5_mayMoveInto_1 : decode cX5_mayMoveInto 1 = .ok (.iload_n 2, 1) := by decide +kernel
theorem dX5_mayMoveInto_2 : decode cX5_mayMoveInto 2 = .ok (.invokevirtual 82, 3) := by decide +kernel
theorem dX5_mayMoveInto_5 : decode cX5_mayMoveInto 5 = .ok (.iconst (-1), 1) := by decide +kernel
theorem dX5_mayMoveInto_6 : decode cX5_mayMoveInto 6 = .ok (.if_icmp .ne 20, 3) := by decide +kernel
theorem dX5_mayMoveInto_9 : decode cX5_mayMoveInto 9 = .ok (.aload_n 0, 1) := by decide +kernel
theorem dX5_mayMoveInto_10 : decode cX5_mayMoveInto 10 = .ok (.iload_n 2, 1) := by decide +kernel
theorem dX5_mayMoveInto_11 : decode cX5_mayMoveInto 11 = .ok (.invokevirtual 86, 3) := by decide +kernel
theorem dX5_mayMoveInto_14 : decode cX5_mayMoveInto 14 = .ok (.aload_n 0, 1) := by decide +kernel
theorem dX5_mayMoveInto_15 : decode cX5_mayMoveInto 15 = .ok (.iload_n 1, 1) := by decide +kernel
theorem dX5_mayMoveInto_16 : decode cX5_mayMoveInto 16 = .ok (.invokevirtual 89, 3) := by decide +kernel
theorem dX5_mayMoveInto_19 : decode cX5_mayMoveInto 19 = .ok (.if_icmp .gt 7, 3) := by decide +kernel
theorem dX5_mayMoveInto_22 : decode cX5_mayMoveInto 22 = .ok (.iconst 1, 1) := by decide +kernel
theorem dX5_mayMoveInto_23 : decode cX5_mayMoveInto 23 = .ok (.goto 4, 3) := by decide +kernel
theorem dX5_mayMoveInto_26 : decode cX5_mayMoveInto 26 = .ok (.iconst 0, 1) := by decide +kernel
theorem dX5_mayMoveInto_27 : decode cX5_mayMoveInto 27 = .ok (.ireturn, 1) := by decide +kernel
theorem dX5_seat_0 : decode cX5_seat 0 = .ok (.aload_n 0, 1) := by decide +kernel
theorem dX5_seat_1 : decode cX5_seat 1 = .ok (.iload_n 1, 1) := by decide +kernel
theorem dX5_seat_2 : decode cX5_seat 2 = .ok (.invokevirtual 68, 3) := by decide +kernel
theorem dX5_seat_5 : decode cX5_seat 5 = .ok (.ifCond .eq 10, 3) := by decide +kernel
theorem dX5_seat_8 : decode cX5_seat 8 = .ok (.aload_n 0, 1) := by decide +kernel
theorem dX5_seat_9 : decode cX5_seat 9 = .ok (.getfield 50, 3) := by decide +kernel
theorem dX5_seat_12 : decode cX5_seat 12 = .ok (.iload_n 1, 1) := by decide +kernel
theorem dX5_seat_13 : decode cX5_seat 13 = .ok (.iload_n 2, 1) := by decide +kernel
theorem dX5_seat_14 : decode cX5_seat 14 = .ok (.iastore, 1) := by decide +kernel
theorem dX5_seat_15 : decode cX5_seat 15 = .ok (.return_, 1) := by decide +kernel
theorem dX5_exchange_0 : decode cX5_exchange 0 = .ok (.aload_n 0, 1) := by decide +kernel
theorem dX5_exchange_1 : decode cX5_exchange 1 = .ok (.iload_n 1, 1) := by decide +kernel
theorem dX5_exchange_2 : decode cX5_exchange 2 = .ok (.invokevirtual 92, 3) := by decide +kernel
theorem dX5_exchange_5 : decode cX5_exchange 5 = .ok (.istore_n 3, 1) := by decide +kernel
theorem dX5_exchange_6 : decode cX5_exchange 6 = .ok (.aload_n 0, 1) := by decide +kernel
theorem dX5_exchange_7 : decode cX5_exchange 7 = .ok (.iload_n 1, 1) := by decide +kernel
theorem dX5_exchange_8 : decode cX5_exchange 8 = .ok (.aload_n 0, 1) := by decide +kernel
theorem dX5_exchange_9 : decode cX5_exchange 9 = .ok (.iload_n 2, 1) := by decide +kernel
theorem dX5_exchange_10 : decode cX5_exchange 10 = .ok (.invokevirtual 92, 3) := by decide +kernel
theorem dX5_exchange_13 : decode cX5_exchange 13 = .ok (.invokevirtual 95, 3) := by decide +kernel
theorem dX5_exchange_16 : decode cX5_exchange 16 = .ok (.aload_n 0, 1) := by decide +kernel
theorem dX5_exchange_17 : decode cX5_exchange 17 = .ok (.iload_n 2, 1) := by decide +kernel
theorem dX5_exchange_18 : decode cX5_exchange 18 = .ok (.iload_n 3, 1) := by decide +kernel
theorem dX5_exchange_19 : decode cX5_exchange 19 = .ok (.invokevirtual 95, 3) := by decide +kernel
theorem dX5_exchange_22 : decode cX5_exchange 22 = .ok (.aload_n 0, 1) := by decide +kernel
theorem dX5_exchange_23 : decode cX5_exchange 23 = .ok (.dup, 1) := by decide +kernel
theorem dX5_exchange_24 : decode cX5_exchange 24 = .ok (.getfield 27, 3) := by decide +kernel
theorem dX5_exchange_27 : decode cX5_exchange 27 = .ok (.iconst 1, 1) := by decide +kernel
theorem dX5_exchange_28 : decode cX5_exchange 28 = .ok (.iadd, 1) := by decide +kernel
theorem dX5_exchange_29 : decode cX5_exchange 29 = .ok (.putfield 27, 3) := by decide +kernel
theorem dX5_exchange_32 : decode cX5_exchange 32 = .ok (.return_, 1) := by decide +kernel
theorem dX5_moveTurn_0 : decode cX5_moveTurn 0 = .ok (.aload_n 0, 1) := by decide +kernel
theorem dX5_moveTurn_1 : decode cX5_moveTurn 1 = .ok (.iload_n 1, 1) := by decide +kernel
theorem dX5_moveTurn_2 : decode cX5_moveTurn 2 = .ok (.invokevirtual 99, 3) := by decide +kernel
theorem dX5_moveTurn_5 : decode cX5_moveTurn 5 = .ok (.istore_n 3, 1) := by decide +kernel
theorem dX5_moveTurn_6 : decode cX5_moveTurn 6 = .ok (.iconst 0, 1) := by decide +kernel
theorem dX5_moveTurn_7 : decode cX5_moveTurn 7 = .ok (.istore 4, 2) := by decide +kernel
theorem dX5_moveTurn_9 : decode cX5_moveTurn 9 = .ok (.iload 4, 2) := by decide +kernel
theorem dX5_moveTurn_11 : decode cX5_moveTurn 11 = .ok (.aload_n 0, 1) := by decide +kernel
theorem dX5_moveTurn_12 : decode cX5_moveTurn 12 = .ok (.getfield 9, 3) := by decide +kernel
theorem dX5_moveTurn_15 : decode cX5_moveTurn 15 = .ok (.if_icmp .ge 78, 3) := by decide +kernel
theorem dX5_moveTurn_18 : decode cX5_moveTurn 18 = .ok (.aload_n 0, 1) := by decide +kernel
theorem dX5_moveTurn_19 : decode cX5_moveTurn 19 = .ok (.getfield 53, 3) := by decide +kernel
theorem dX5_moveTurn_22 : decode cX5_moveTurn 22 = .ok (.iload 4, 2) := by decide +kernel
theorem dX5_moveTurn_24 : decode cX5_moveTurn 24 = .ok (.iaload, 1) := by decide +kernel
theorem dX5_moveTurn_25 : decode cX5_moveTurn 25 = .ok (.iload_n 3, 1) := by decide +kernel
theorem dX5_moveTurn_26 : decode cX5_moveTurn 26 = .ok (.if_icmp .le 28, 3) := by decide +kernel
theorem dX5_moveTurn_29 : decode cX5_moveTurn 29 = .ok (.aload_n 0, 1) := by decide +kernel
theorem dX5_moveTurn_30 : decode cX5_moveTurn 30 = .ok (.getfield 53, 3) := by decide +kernel
theorem dX5_moveTurn_33 : decode cX5_moveTurn 33 = .ok (.iload 4, 2) := by decide +kernel
theorem dX5_moveTurn_35 : decode cX5_moveTurn 35 = .ok (.iaload, 1) := by decide +kernel
theorem dX5_moveTurn_36 : decode cX5_moveTurn 36 = .ok (.iload_n 2, 1) := by decide +kernel
theorem dX5_moveTurn_37 : decode cX5_moveTurn 37 = .ok (.if_icmp .gt 17, 3) := by decide +kernel
theorem dX5_moveTurn_40 : decode cX5_moveTurn 40 = .ok (.aload_n 0, 1) := by decide +kernel
theorem dX5_moveTurn_41 : decode cX5_moveTurn 41 = .ok (.getfield 53, 3) := by decide +kernel
theorem dX5_moveTurn_44 : decode cX5_moveTurn 44 = .ok (.iload 4, 2) := by decide +kernel
theorem dX5_moveTurn_46 : decode cX5_moveTurn 46 = .ok (.dup2, 1) := by decide +kernel
theorem dX5_moveTurn_47 : decode cX5_moveTurn 47 = .ok (.iaload, 1) := by decide +kernel
theorem dX5_moveTurn_48 : decode cX5_moveTurn 48 = .ok (.iconst 1, 1) := by decide +kernel
theorem dX5_moveTurn_49 : decode cX5_moveTurn 49 = .ok (.isub, 1) := by decide +kernel
theorem dX5_moveTurn_50 : decode cX5_moveTurn 50 = .ok (.iastore, 1) := by decide +kernel
theorem dX5_moveTurn_51 : decode cX5_moveTurn 51 = .ok (.goto 36, 3) := by decide +kernel
theorem dX5_moveTurn_54 : decode cX5_moveTurn 54 = .ok (.aload_n 0, 1) := by decide +kernel
theorem dX5_moveTurn_55 : decode cX5_moveTurn 55 = .ok (.getfield 53, 3) := by decide +kernel
theorem dX5_moveTurn_58 : decode cX5_moveTurn 58 = .ok (.iload 4, 2) := by decide +kernel
theorem dX5_moveTurn_60 : decode cX5_moveTurn 60 = .ok (.iaload, 1) := by decide +kernel
theorem dX5_moveTurn_61 : decode cX5_moveTurn 61 = .ok (.iload_n 3, 1) := by decide +kernel
theorem dX5_moveTurn_62 : decode cX5_moveTurn 62 = .ok (.if_icmp .ge 25, 3) := by decide +kernel
theorem dX5_moveTurn_65 : decode cX5_moveTurn 65 = .ok (.aload_n 0, 1) := by decide +kernel
theorem dX5_moveTurn_66 : decode cX5_moveTurn 66 = .ok (.getfield 53, 3) := by decide +kernel
theorem dX5_moveTurn_69 : decode cX5_moveTurn 69 = .ok (.iload 4, 2) := by decide +kernel
theorem dX5_moveTurn_71 : decode cX5_moveTurn 71 = .ok (.iaload, 1) := by decide +kernel
theorem dX5_moveTurn_72 : decode cX5_moveTurn 72 = .ok (.iload_n 2, 1) := by decide +kernel
theorem dX5_moveTurn_73 : decode cX5_moveTurn 73 = .ok (.if_icmp .lt 14, 3) := by decide +kernel
theorem dX5_moveTurn_76 : decode cX5_moveTurn 76 = .ok (.aload_n 0, 1) := by decide +kernel
theorem dX5_moveTurn_77 : decode cX5_moveTurn 77 = .ok (.getfield 53, 3) := by decide +kernel
theorem dX5_moveTurn_80 : decode cX5_moveTurn 80 = .ok (.iload 4, 2) := by decide +kernel
theorem dX5_moveTurn_82 : decode cX5_moveTurn 82 = .ok (.dup2, 1) := by decide +kernel
theorem dX5_moveTurn_83 : decode cX5_moveTurn 83 = .ok (.iaload, 1) := by decide +kernel
theorem dX5_moveTurn_84 : decode cX5_moveTurn 84 = .ok (.iconst 1, 1) := by decide +kernel
theorem dX5_moveTurn_85 : decode cX5_moveTurn 85 = .ok (.iadd, 1) := by decide +kernel
theorem dX5_moveTurn_86 : decode cX5_moveTurn 86 = .ok (.iastore, 1) := by decide +kernel
theorem dX5_moveTurn_87 : decode cX5_moveTurn 87 = .ok (.iinc 4 1, 3) := by decide +kernel
theorem dX5_moveTurn_90 : decode cX5_moveTurn 90 = .ok (.goto (-81), 3) := by decide +kernel
theorem dX5_moveTurn_93 : decode cX5_moveTurn 93 = .ok (.aload_n 0, 1) := by decide +kernel
theorem dX5_moveTurn_94 : decode cX5_moveTurn 94 = .ok (.iload_n 1, 1) := by decide +kernel
theorem dX5_moveTurn_95 : decode cX5_moveTurn 95 = .ok (.invokevirtual 68, 3) := by decide +kernel
theorem dX5_moveTurn_98 : decode cX5_moveTurn 98 = .ok (.ifCond .eq 10, 3) := by decide +kernel
theorem dX5_moveTurn_101 : decode cX5_moveTurn 101 = .ok (.aload_n 0, 1) := by decide +kernel
theorem dX5_moveTurn_102 : decode cX5_moveTurn 102 = .ok (.getfield 53, 3) := by decide +kernel
theorem dX5_moveTurn_105 : decode cX5_moveTurn 105 = .ok (.iload_n 1, 1) := by decide +kernel
theorem dX5_moveTurn_106 : decode cX5_moveTurn 106 = .ok (.iload_n 2, 1) := by decide +kernel
theorem dX5_moveTurn_107 : decode cX5_moveTurn 107 = .ok (.iastore, 1) := by decide +kernel
theorem dX5_moveTurn_108 : decode cX5_moveTurn 108 = .ok (.return_, 1) := by decide +kernel
theorem dX5_wishLast_0 : decode cX5_wishLast 0 = .ok (.aload_n 0, 1) := by decide +kernel
theorem dX5_wishLast_1 : decode cX5_wishLast 1 = .ok (.iload_n 1, 1) := by decide +kernel
theorem dX5_wishLast_2 : decode cX5_wishLast 2 = .ok (.invokevirtual 102, 3) := by decide +kernel
theorem dX5_wishLast_5 : decode cX5_wishLast 5 = .ok (.istore_n 3, 1) := by decide +kernel
theorem dX5_wishLast_6 : decode cX5_wishLast 6 = .ok (.aload_n 0, 1) := by decide +kernel
theorem dX5_wishLast_7 : decode cX5_wishLast 7 = .ok (.iload_n 1, 1) := by decide +kernel
theorem dX5_wishLast_8 : decode cX5_wishLast 8 = .ok (.invokevirtual 68, 3) := by decide +kernel
theorem dX5_wishLast_11 : decode cX5_wishLast 11 = .ok (.ifCond .eq 30, 3) := by decide +kernel
theorem dX5_wishLast_14 : decode cX5_wishLast 14 = .ok (.iload_n 3, 1) := by decide +kernel
theorem dX5_wishLast_15 : decode cX5_wishLast 15 = .ok (.bipush 8, 2) := by decide +kernel
theorem dX5_wishLast_17 : decode cX5_wishLast 17 = .ok (.if_icmp .ge 24, 3) := by decide +kernel
theorem dX5_wishLast_20 : decode cX5_wishLast 20 = .ok (.aload_n 0, 1) := by decide +kernel
theorem dX5_wishLast_21 : decode cX5_wishLast 21 = .ok (.getfield 59, 3) := by decide +kernel
theorem dX5_wishLast_24 : decode cX5_wishLast 24 = .ok (.iload_n 1, 1) := by decide +kernel
theorem dX5_wishLast_25 : decode cX5_wishLast 25 = .ok (.bipush 8, 2) := by decide +kernel
theorem dX5_wishLast_27 : decode cX5_wishLast 27 = .ok (.imul, 1) := by decide +kernel
theorem dX5_wishLast_28 : decode cX5_wishLast 28 = .ok (.iload_n 3, 1) := by decide +kernel
theorem dX5_wishLast_29 : decode cX5_wishLast 29 = .ok (.iadd, 1) := by decide +kernel
theorem dX5_wishLast_30 : decode cX5_wishLast 30 = .ok (.iload_n 2, 1) := by decide +kernel
theorem dX5_wishLast_31 : decode cX5_wishLast 31 = .ok (.iastore, 1) := by decide +kernel
theorem dX5_wishLast_32 : decode cX5_wishLast 32 = .ok (.aload_n 0, 1) := by decide +kernel
theorem dX5_wishLast_33 : decode cX5_wishLast 33 = .ok (.getfield 56, 3) := by decide +kernel
theorem dX5_wishLast_36 : decode cX5_wishLast 36 = .ok (.iload_n 1, 1) := by decide +kernel
theorem dX5_wishLast_37 : decode cX5_wishLast 37 = .ok (.iload_n 3, 1) := by decide +kernel
theorem dX5_wishLast_38 : decode cX5_wishLast 38 = .ok (.iconst 1, 1) := by decide +kernel
theorem dX5_wishLast_39 : decode cX5_wishLast 39 = .ok (.iadd, 1) := by decide +kernel
theorem dX5_wishLast_40 : decode cX5_wishLast 40 = .ok (.iastore, 1) := by decide +kernel
theorem dX5_wishLast_41 : decode cX5_wishLast 41 = .ok (.return_, 1) := by decide +kernel
theorem dX5_dropWish_0 : decode cX5_dropWish 0 = .ok (.aload_n 0, 1) := by decide +kernel
theorem dX5_dropWish_1 : decode cX5_dropWish 1 = .ok (.iload_n 1, 1) := by decide +kernel
theorem dX5_dropWish_2 : decode cX5_dropWish 2 = .ok (.iload_n 2, 1) := by decide +kernel
theorem dX5_dropWish_3 : decode cX5_dropWish 3 = .ok (.invokevirtual 79, 3) := by decide +kernel
theorem dX5_dropWish_6 : decode cX5_dropWish 6 = .ok (.istore_n 3, 1) := by decide +kernel
theorem dX5_dropWish_7 : decode cX5_dropWish 7 = .ok (.aload_n 0, 1) := by decide +kernel
theorem dX5_dropWish_8 : decode cX5_dropWish 8 = .ok (.iload_n 1, 1) := by decide +kernel
theorem dX5_dropWish_9 : decode cX5_dropWish 9 = .ok (.invokevirtual 68, 3) := by decide +kernel
theorem dX5_dropWish_12 : decode cX5_dropWish 12 = .ok (.ifCond .eq 8, 3) := by decide +kernel
theorem dX5_dropWish_15 : decode cX5_dropWish 15 = .ok (.iload_n 3, 1) := by decide +kernel
theorem dX5_dropWish_16 : decode cX5_dropWish 16 = .ok (.iconst (-1), 1) := by decide +kernel
theorem dX5_dropWish_17 : decode cX5_dropWish 17 = .ok (.if_icmp .ne 4, 3) := by decide +kernel
theorem dX5_dropWish_20 : decode cX5_dropWish 20 = .ok (.return_, 1) := by decide +kernel
theorem dX5_dropWish_21 : decode cX5_dropWish 21 = .ok (.aload_n 0, 1) := by decide +kernel
theorem dX5_dropWish_22 : decode cX5_dropWish 22 = .ok (.getfield 56, 3) := by decide +kernel
theorem dX5_dropWish_25 : decode cX5_dropWish 25 = .ok (.iload_n 1, 1) := by decide +kernel
theorem dX5_dropWish_26 : decode cX5_dropWish 26 = .ok (.iaload, 1) := by decide +kernel
theorem dX5_dropWish_27 : decode cX5_dropWish 27 = .ok (.iconst 1, 1) := by decide +kernel
theorem dX5_dropWish_28 : decode cX5_dropWish 28 = .ok (.isub, 1) := by decide +kernel
theorem dX5_dropWish_29 : decode cX5_dropWish 29 = .ok (.istore 4, 2) := by decide +kernel
theorem dX5_dropWish_31 : decode cX5_dropWish 31 = .ok (.iload_n 3, 1) := by decide +kernel
theorem dX5_dropWish_32 : decode cX5_dropWish 32 = .ok (.istore 5, 2) := by decide +kernel
theorem dX5_dropWish_34 : decode cX5_dropWish 34 = .ok (.iload 5, 2) := by decide +kernel
theorem dX5_dropWish_36 : decode cX5_dropWish 36 = .ok (.iload 4, 2) := by decide +kernel
theorem dX5_dropWish_38 : decode cX5_dropWish 38 = .ok (.if_icmp .ge 34, 3) := by decide +kernel
theorem dX5_dropWish_41 : decode cX5_dropWish 41 = .ok (.iload_n 1, 1) := by decide +kernel
theorem dX5_dropWish_42 : decode cX5_dropWish 42 = .ok (.bipush 8, 2) := by decide +kernel
theorem dX5_dropWish_44 : decode cX5_dropWish 44 = .ok (.imul, 1) := by decide +kernel
theorem dX5_dropWish_45 : decode cX5_dropWish 45 = .ok (.iload 5, 2) := by decide +kernel
theorem dX5_dropWish_47 : decode cX5_dropWish 47 = .ok (.iadd, 1) := by decide +kernel
theorem dX5_dropWish_48 : decode cX5_dropWish 48 = .ok (.istore 6, 2) := by decide +kernel
theorem dX5_dropWish_50 : decode cX5_dropWish 50 = .ok (.aload_n 0, 1) := by decide +kernel
theorem dX5_dropWish_51 : decode cX5_dropWish 51 = .ok (.getfield 59, 3) := by decide +kernel
theorem dX5_dropWish_54 : decode cX5_dropWish 54 = .ok (.iload 6, 2) := by decide +kernel
theorem dX5_dropWish_56 : decode cX5_dropWish 56 = .ok (.aload_n 0, 1) := by decide +kernel
theorem dX5_dropWish_57 : decode cX5_dropWish 57 = .ok (.getfield 59, 3) := by decide +kernel
theorem dX5_dropWish_60 : decode cX5_dropWish 60 = .ok (.iload 6, 2) := by decide +kernel
theorem dX5_dropWish_62 : decode cX5_dropWish 62 = .ok (.iconst 1, 1) := by decide +kernel
theorem dX5_dropWish_63 : decode cX5_dropWish 63 = .ok (.iadd, 1) := by decide +kernel
theorem dX5_dropWish_64 : decode cX5_dropWish 64 = .ok (.iaload, 1) := by decide +kernel
theorem dX5_dropWish_65 : decode cX5_dropWish 65 = .ok (.iastore, 1) := by decide +kernel
theorem dX5_dropWish_66 : decode cX5_dropWish 66 = .ok (.iinc 5 1, 3) := by decide +kernel
theorem dX5_dropWish_69 : decode cX5_dropWish 69 = .ok (.goto (-35), 3) := by decide +kernel
theorem dX5_dropWish_72 : decode cX5_dropWish 72 = .ok (.aload_n 0, 1) := by decide +kernel
theorem dX5_dropWish_73 : decode cX5_dropWish 73 = .ok (.getfield 56, 3) := by decide +kernel
theorem dX5_dropWish_76 : decode cX5_dropWish 76 = .ok (.iload_n 1, 1) := by decide +kernel
theorem dX5_dropWish_77 : decode cX5_dropWish 77 = .ok (.iload 4, 2) := by decide +kernel
theorem dX5_dropWish_79 : decode cX5_dropWish 79 = .ok (.iastore, 1) := by decide +kernel
theorem dX5_dropWish_80 : decode cX5_dropWish 80 = .ok (.return_, 1) := by decide +kernel
theorem dX5_wishFirst_0 : decode cX5_wishFirst 0 = .ok (.aload_n 0, 1) := by decide +kernel
theorem dX5_wishFirst_1 : decode cX5_wishFirst 1 = .ok (.iload_n 1, 1) := by decide +kernel
theorem dX5_wishFirst_2 : decode cX5_wishFirst 2 = .ok (.iload_n 2, 1) := by decide +kernel
theorem dX5_wishFirst_3 : decode cX5_wishFirst 3 = .ok (.invokevirtual 105, 3) := by decide +kernel
theorem dX5_wishFirst_6 : decode cX5_wishFirst 6 = .ok (.aload_n 0, 1) := by decide +kernel
theorem dX5_wishFirst_7 : decode cX5_wishFirst 7 = .ok (.iload_n 1, 1) := by decide +kernel
theorem dX5_wishFirst_8 : decode cX5_wishFirst 8 = .ok (.invokevirtual 102, 3) := by decide +kernel
theorem dX5_wishFirst_11 : decode cX5_wishFirst 11 = .ok (.istore_n 3, 1) := by decide +kernel
theorem dX5_wishFirst_12 : decode cX5_wishFirst 12 = .ok (.aload_n 0, 1) := by decide +kernel
theorem dX5_wishFirst_13 : decode cX5_wishFirst 13 = .ok (.iload_n 1, 1) := by decide +kernel
theorem dX5_wishFirst_14 : decode cX5_wishFirst 14 = .ok (.invokevirtual 68, 3) := by decide +kernel
theorem dX5_wishFirst_17 : decode cX5_wishFirst 17 = .ok (.ifCond .eq 9, 3) := by decide +kernel
theorem dX5_wishFirst_20 : decode cX5_wishFirst 20 = .ok (.iload_n 3, 1) := by decide +kernel
theorem dX5_wishFirst_21 : decode cX5_wishFirst 21 = .ok (.bipush 8, 2) := by decide +kernel
theorem dX5_wishFirst_23 : decode cX5_wishFirst 23 = .ok (.if_icmp .lt 4, 3) := by decide +kernel
theorem dX5_wishFirst_26 : decode cX5_wishFirst 26 = .ok (.return_, 1) := by decide +kernel
theorem dX5_wishFirst_27 : decode cX5_wishFirst 27 = .ok (.iload_n 3, 1) := by decide +kernel
theorem dX5_wishFirst_28 : decode cX5_wishFirst 28 = .ok (.istore 4, 2) := by decide +kernel
theorem dX5_wishFirst_30 : decode cX5_wishFirst 30 = .ok (.iload 4, 2) := by decide +kernel
theorem dX5_wishFirst_32 : decode cX5_wishFirst 32 = .ok (.ifCond .le 34, 3) := by decide +kernel
theorem dX5_wishFirst_35 : decode cX5_wishFirst 35 = .ok (.iload_n 1, 1) := by decide +kernel
theorem dX5_wishFirst_36 : decode cX5_wishFirst 36 = .ok (.bipush 8, 2) := by decide +kernel
theorem dX5_wishFirst_38 : decode cX5_wishFirst 38 = .ok (.imul, 1) := by decide +kernel
theorem dX5_wishFirst_39 : decode cX5_wishFirst 39 = .ok (.iload 4, 2) := by decide +kernel
theorem dX5_wishFirst_41 : decode cX5_wishFirst 41 = .ok (.iadd, 1) := by decide +kernel
theorem dX5_wishFirst_42 : decode cX5_wishFirst 42 = .ok (.istore 5, 2) := by decide +kernel
theorem dX5_wishFirst_44 : decode cX5_wishFirst 44 = .ok (.aload_n 0, 1) := by decide +kernel
theorem dX5_wishFirst_45 : decode cX5_wishFirst 45 = .ok (.getfield 59, 3) := by decide +kernel
theorem dX5_wishFirst_48 : decode cX5_wishFirst 48 = .ok (.iload 5, 2) := by decide +kernel
theorem dX5_wishFirst_50 : decode cX5_wishFirst 50 = .ok (.aload_n 0, 1) := by decide +kernel
theorem dX5_wishFirst_51 : decode cX5_wishFirst 51 = .ok (.getfield 59, 3) := by decide +kernel
theorem dX5_wishFirst_54 : decode cX5_wishFirst 54 = .ok (.iload 5, 2) := by decide +kernel
theorem dX5_wishFirst_56 : decode cX5_wishFirst 56 = .ok (.iconst 1, 1) := by decide +kernel
theorem dX5_wishFirst_57 : decode cX5_wishFirst 57 = .ok (.isub, 1) := by decide +kernel
theorem dX5_wishFirst_58 : decode cX5_wishFirst 58 = .ok (.iaload, 1) := by decide +kernel
theorem dX5_wishFirst_59 : decode cX5_wishFirst 59 = .ok (.iastore, 1) := by decide +kernel
theorem dX5_wishFirst_60 : decode cX5_wishFirst 60 = .ok (.iinc 4 (-1), 3) := by decide +kernel
theorem dX5_wishFirst_63 : decode cX5_wishFirst 63 = .ok (.goto (-33), 3) := by decide +kernel
theorem dX5_wishFirst_66 : decode cX5_wishFirst 66 = .ok (.aload_n 0, 1) := by decide +kernel
theorem dX5_wishFirst_67 : decode cX5_wishFirst 67 = .ok (.getfield 59, 3) := by decide +kernel
theorem dX5_wishFirst_70 : decode cX5_wishFirst 70 = .ok (.iload_n 1, 1) := by decide +kernel
theorem dX5_wishFirst_71 : decode cX5_wishFirst 71 = .ok (.bipush 8, 2) := by decide +kernel
theorem dX5_wishFirst_73 : decode cX5_wishFirst 73 = .ok (.imul, 1) := by decide +kernel
theorem dX5_wishFirst_74 : decode cX5_wishFirst 74 = .ok (.iload_n 2, 1) := by decide +kernel
theorem dX5_wishFirst_75 : decode cX5_wishFirst 75 = .ok (.iastore, 1) := by decide +kernel
theorem dX5_wishFirst_76 : decode cX5_wishFirst 76 = .ok (.aload_n 0, 1) := by decide +kernel
theorem dX5_wishFirst_77 : decode cX5_wishFirst 77 = .ok (.getfield 56, 3) := by decide +kernel
theorem dX5_wishFirst_80 : decode cX5_wishFirst 80 = .ok (.iload_n 1, 1) := by decide +kernel
theorem dX5_wishFirst_81 : decode cX5_wishFirst 81 = .ok (.iload_n 3, 1) := by decide +kernel
theorem dX5_wishFirst_82 : decode cX5_wishFirst 82 = .ok (.iconst 1, 1) := by decide +kernel
theorem dX5_wishFirst_83 : decode cX5_wishFirst 83 = .ok (.iadd, 1) := by decide +kernel
theorem dX5_wishFirst_84 : decode cX5_wishFirst 84 = .ok (.iastore, 1) := by decide +kernel
theorem dX5_wishFirst_85 : decode cX5_wishFirst 85 = .ok (.return_, 1) := by decide +kernel
theorem dX5_price_0 : decode cX5_price 0 = .ok (.aload_n 0, 1) := by decide +kernel
theorem dX5_price_1 : decode cX5_price 1 = .ok (.iload_n 1, 1) := by decide +kernel
theorem dX5_price_2 : decode cX5_price 2 = .ok (.invokevirtual 72, 3) := by decide +kernel
theorem dX5_price_5 : decode cX5_price 5 = .ok (.ifCond .eq 10, 3) := by decide +kernel
theorem dX5_price_8 : decode cX5_price 8 = .ok (.aload_n 0, 1) := by decide +kernel
theorem dX5_price_9 : decode cX5_price 9 = .ok (.getfield 65, 3) := by decide +kernel
theorem dX5_price_12 : decode cX5_price 12 = .ok (.iload_n 1, 1) := by decide +kernel
theorem dX5_price_13 : decode cX5_price 13 = .ok (.iload_n 2, 1) := by decide +kernel
theorem dX5_price_14 : decode cX5_price 14 = .ok (.iastore, 1) := by decide +kernel
theorem dX5_price_15 : decode cX5_price 15 = .ok (.return_, 1) := by decide +kernel
theorem dX5_receive_0 : decode cX5_receive 0 = .ok (.aload_n 0, 1) := by decide +kernel
theorem dX5_receive_1 : decode cX5_receive 1 = .ok (.iload_n 1, 1) := by decide +kernel
theorem dX5_receive_2 : decode cX5_receive 2 = .ok (.invokevirtual 68, 3) := by decide +kernel
theorem dX5_receive_5 : decode cX5_receive 5 = .ok (.ifCond .eq 23, 3) := by decide +kernel
theorem dX5_receive_8 : decode cX5_receive 8 = .ok (.aload_n 0, 1) := by decide +kernel
theorem dX5_receive_9 : decode cX5_receive 9 = .ok (.getfield 43, 3) := by decide +kernel
theorem dX5_receive_12 : decode cX5_receive 12 = .ok (.iload_n 1, 1) := by decide +kernel
theorem dX5_receive_13 : decode cX5_receive 13 = .ok (.dup2, 1) := by decide +kernel
theorem dX5_receive_14 : decode cX5_receive 14 = .ok (.iaload, 1) := by decide +kernel
theorem dX5_receive_15 : decode cX5_receive 15 = .ok (.iload_n 2, 1) := by decide +kernel
theorem dX5_receive_16 : decode cX5_receive 16 = .ok (.iadd, 1) := by decide +kernel
theorem dX5_receive_17 : decode cX5_receive 17 = .ok (.iastore, 1) := by decide +kernel
theorem dX5_receive_18 : decode cX5_receive 18 = .ok (.aload_n 0, 1) := by decide +kernel
theorem dX5_receive_19 : decode cX5_receive 19 = .ok (.dup, 1) := by decide +kernel
theorem dX5_receive_20 : decode cX5_receive 20 = .ok (.getfield 36, 3) := by decide +kernel
theorem dX5_receive_23 : decode cX5_receive 23 = .ok (.iload_n 2, 1) := by decide +kernel
theorem dX5_receive_24 : decode cX5_receive 24 = .ok (.iadd, 1) := by decide +kernel
theorem dX5_receive_25 : decode cX5_receive 25 = .ok (.putfield 36, 3) := by decide +kernel
theorem dX5_receive_28 : decode cX5_receive 28 = .ok (.return_, 1) := by decide +kernel
theorem dX5_mayPass_0 : decode cX5_mayPass 0 = .ok (.iload_n 1, 1) := by decide +kernel
theorem dX5_mayPass_1 : decode cX5_mayPass 1 = .ok (.sipush 9999, 3) := by decide +kernel
theorem dX5_mayPass_4 : decode cX5_mayPass 4 = .ok (.aload_n 0, 1) := by decide +kernel
theorem dX5_mayPass_5 : decode cX5_mayPass 5 = .ok (.getfield 18, 3) := by decide +kernel
theorem dX5_mayPass_8 : decode cX5_mayPass 8 = .ok (.isub, 1) := by decide +kernel
theorem dX5_mayPass_9 : decode cX5_mayPass 9 = .ok (.if_icmp .gt 7, 3) := by decide +kernel
theorem dX5_mayPass_12 : decode cX5_mayPass 12 = .ok (.iconst 1, 1) := by decide +kernel
theorem dX5_mayPass_13 : decode cX5_mayPass 13 = .ok (.goto 4, 3) := by decide +kernel
theorem dX5_mayPass_16 : decode cX5_mayPass 16 = .ok (.iconst 0, 1) := by decide +kernel
theorem dX5_mayPass_17 : decode cX5_mayPass 17 = .ok (.ireturn, 1) := by decide +kernel
theorem dX5_pass_0 : decode cX5_pass 0 = .ok (.iconst 0, 1) := by decide +kernel
theorem dX5_pass_1 : decode cX5_pass 1 = .ok (.istore_n 2, 1) := by decide +kernel
theorem dX5_pass_2 : decode cX5_pass 2 = .ok (.iload_n 2, 1) := by decide +kernel
theorem dX5_pass_3 : decode cX5_pass 3 = .ok (.iload_n 1, 1) := by decide +kernel
theorem dX5_pass_4 : decode cX5_pass 4 = .ok (.if_icmp .ge 67, 3) := by decide +kernel
theorem dX5_pass_7 : decode cX5_pass 7 = .ok (.aload_n 0, 1) := by decide +kernel
theorem dX5_pass_8 : decode cX5_pass 8 = .ok (.dup, 1) := by decide +kernel
theorem dX5_pass_9 : decode cX5_pass 9 = .ok (.getfield 18, 3) := by decide +kernel
theorem dX5_pass_12 : decode cX5_pass 12 = .ok (.iconst 1, 1) := by decide +kernel
theorem dX5_pass_13 : decode cX5_pass 13 = .ok (.iadd, 1) := by decide +kernel
theorem dX5_pass_14 : decode cX5_pass 14 = .ok (.putfield 18, 3) := by decide +kernel
theorem dX5_pass_17 : decode cX5_pass 17 = .ok (.iconst 0, 1) := by decide +kernel
theorem dX5_pass_18 : decode cX5_pass 18 = .ok (.istore_n 3, 1) := by decide +kernel
theorem dX5_pass_19 : decode cX5_pass 19 = .ok (.iload_n 3, 1) := by decide +kernel
theorem dX5_pass_20 : decode cX5_pass 20 = .ok (.aload_n 0, 1) := by decide +kernel
theorem dX5_pass_21 : decode cX5_pass 21 = .ok (.getfield 9, 3) := by decide +kernel
theorem dX5_pass_24 : decode cX5_pass 24 = .ok (.if_icmp .ge 20, 3) := by decide +kernel
theorem dX5_pass_27 : decode cX5_pass 27 = .ok (.aload_n 0, 1) := by decide +kernel
theorem dX5_pass_28 : decode cX5_pass 28 = .ok (.iload_n 3, 1) := by decide +kernel
theorem dX5_pass_29 : decode cX5_pass 29 = .ok (.aload_n 0, 1) := by decide +kernel
theorem dX5_pass_30 : decode cX5_pass 30 = .ok (.getfield 47, 3) := by decide +kernel
theorem dX5_pass_33 : decode cX5_pass 33 = .ok (.iload_n 3, 1) := by decide +kernel
theorem dX5_pass_34 : decode cX5_pass 34 = .ok (.iaload, 1) := by decide +kernel
theorem dX5_pass_35 : decode cX5_pass 35 = .ok (.invokevirtual 108, 3) := by decide +kernel
theorem dX5_pass_38 : decode cX5_pass 38 = .ok (.iinc 3 1, 3) := by decide +kernel
theorem dX5_pass_41 : decode cX5_pass 41 = .ok (.goto (-22), 3) := by decide +kernel
theorem dX5_pass_44 : decode cX5_pass 44 = .ok (.iconst 0, 1) := by decide +kernel
theorem dX5_pass_45 : decode cX5_pass 45 = .ok (.istore_n 3, 1) := by decide +kernel
theorem dX5_pass_46 : decode cX5_pass 46 = .ok (.iload_n 3, 1) := by decide +kernel
theorem dX5_pass_47 : decode cX5_pass 47 = .ok (.aload_n 0, 1) := by decide +kernel
theorem dX5_pass_48 : decode cX5_pass 48 = .ok (.getfield 9, 3) := by decide +kernel
theorem dX5_pass_51 : decode cX5_pass 51 = .ok (.if_icmp .ge 14, 3) := by decide +kernel
theorem dX5_pass_54 : decode cX5_pass 54 = .ok (.aload_n 0, 1) := by decide +kernel
theorem dX5_pass_55 : decode cX5_pass 55 = .ok (.iload_n 3, 1) := by decide +kernel
theorem dX5_pass_56 : decode cX5_pass 56 = .ok (.invokevirtual 111, 3) := by decide +kernel
theorem dX5_pass_59 : decode cX5_pass 59 = .ok (.iinc 3 1, 3) := by decide +kernel
theorem dX5_pass_62 : decode cX5_pass 62 = .ok (.goto (-16), 3) := by decide +kernel
theorem dX5_pass_65 : decode cX5_pass 65 = .ok (.iinc 2 1, 3) := by decide +kernel
theorem dX5_pass_68 : decode cX5_pass 68 = .ok (.goto (-66), 3) := by decide +kernel
theorem dX5_pass_71 : decode cX5_pass 71 = .ok (.return_, 1) := by decide +kernel
theorem dX5_chargeOrEvict_0 : decode cX5_chargeOrEvict 0 = .ok (.aload_n 0, 1) := by decide +kernel
theorem dX5_chargeOrEvict_1 : decode cX5_chargeOrEvict 1 = .ok (.iload_n 1, 1) := by decide +kernel
theorem dX5_chargeOrEvict_2 : decode cX5_chargeOrEvict 2 = .ok (.invokevirtual 92, 3) := by decide +kernel
theorem dX5_chargeOrEvict_5 : decode cX5_chargeOrEvict 5 = .ok (.istore_n 2, 1) := by decide +kernel
theorem dX5_chargeOrEvict_6 : decode cX5_chargeOrEvict 6 = .ok (.aload_n 0, 1) := by decide +kernel
end
section
theorem dX5_chargeOrEvict_7 : decode cX5_chargeOrEvict 7 = .ok (.iload_n 1, 1) := by decide +kernel
theorem dX5_chargeOrEvict_8 : decode cX5_chargeOrEvict 8 = .ok (.invokevirtual 68, 3) := by decide +kernel
theorem dX5_chargeOrEvict_11 : decode cX5_chargeOrEvict 11 = .ok (.ifCond .eq 8, 3) := by decide +kernel
theorem dX5_chargeOrEvict_14 : decode cX5_chargeOrEvict 14 = .ok (.iload_n 2, 1) := by decide +kernel
theorem dX5_chargeOrEvict_15 : decode cX5_chargeOrEvict 15 = .ok (.iconst (-1), 1) := by decide +kernel
theorem dX5_chargeOrEvict_16 : decode cX5_chargeOrEvict 16 = .ok (.if_icmp .ne 4, 3) := by decide +kernel
theorem dX5_chargeOrEvict_19 : decode cX5_chargeOrEvict 19 = .ok (.return_, 1) := by decide +kernel
theorem dX5_chargeOrEvict_20 : decode cX5_chargeOrEvict 20 = .ok (.aload_n 0, 1) := by decide +kernel
theorem dX5_chargeOrEvict_21 : decode cX5_chargeOrEvict 21 = .ok (.iload_n 2, 1) := by decide +kernel
theorem dX5_chargeOrEvict_22 : decode cX5_chargeOrEvict 22 = .ok (.invokevirtual 86, 3) := by decide +kernel
theorem dX5_chargeOrEvict_25 : decode cX5_chargeOrEvict 25 = .ok (.istore_n 3, 1) := by decide +kernel
theorem dX5_chargeOrEvict_26 : decode cX5_chargeOrEvict 26 = .ok (.aload_n 0, 1) := by decide +kernel
theorem dX5_chargeOrEvict_27 : decode cX5_chargeOrEvict 27 = .ok (.getfield 43, 3) := by decide +kernel
theorem dX5_chargeOrEvict_30 : decode cX5_chargeOrEvict 30 = .ok (.iload_n 1, 1) := by decide +kernel
theorem dX5_chargeOrEvict_31 : decode cX5_chargeOrEvict 31 = .ok (.iaload, 1) := by decide +kernel
theorem dX5_chargeOrEvict_32 : decode cX5_chargeOrEvict 32 = .ok (.iload_n 3, 1) := by decide +kernel
theorem dX5_chargeOrEvict_33 : decode cX5_chargeOrEvict 33 = .ok (.if_icmp .lt 26, 3) := by decide +kernel
theorem dX5_chargeOrEvict_36 : decode cX5_chargeOrEvict 36 = .ok (.aload_n 0, 1) := by decide +kernel
theorem dX5_chargeOrEvict_37 : decode cX5_chargeOrEvict 37 = .ok (.getfield 43, 3) := by decide +kernel
theorem dX5_chargeOrEvict_40 : decode cX5_chargeOrEvict 40 = .ok (.iload_n 1, 1) := by decide +kernel
theorem dX5_chargeOrEvict_41 : decode cX5_chargeOrEvict 41 = .ok (.dup2, 1) := by decide +kernel
theorem dX5_chargeOrEvict_42 : decode cX5_chargeOrEvict 42 = .ok (.iaload, 1) := by decide +kernel
theorem dX5_chargeOrEvict_43 : decode cX5_chargeOrEvict 43 = .ok (.iload_n 3, 1) := by decide +kernel
theorem dX5_chargeOrEvict_44 : decode cX5_chargeOrEvict 44 = .ok (.isub, 1) := by decide +kernel
theorem dX5_chargeOrEvict_45 : decode cX5_chargeOrEvict 45 = .ok (.iastore, 1) := by decide +kernel
theorem dX5_chargeOrEvict_46 : decode cX5_chargeOrEvict 46 = .ok (.aload_n 0, 1) := by decide +kernel
theorem dX5_chargeOrEvict_47 : decode cX5_chargeOrEvict 47 = .ok (.dup, 1) := by decide +kernel
theorem dX5_chargeOrEvict_48 : decode cX5_chargeOrEvict 48 = .ok (.getfield 21, 3) := by decide +kernel
theorem dX5_chargeOrEvict_51 : decode cX5_chargeOrEvict 51 = .ok (.iload_n 3, 1) := by decide +kernel
theorem dX5_chargeOrEvict_52 : decode cX5_chargeOrEvict 52 = .ok (.iadd, 1) := by decide +kernel
theorem dX5_chargeOrEvict_53 : decode cX5_chargeOrEvict 53 = .ok (.putfield 21, 3) := by decide +kernel
theorem dX5_chargeOrEvict_56 : decode cX5_chargeOrEvict 56 = .ok (.goto 20, 3) := by decide +kernel
theorem dX5_chargeOrEvict_59 : decode cX5_chargeOrEvict 59 = .ok (.aload_n 0, 1) := by decide +kernel
theorem dX5_chargeOrEvict_60 : decode cX5_chargeOrEvict 60 = .ok (.getfield 50, 3) := by decide +kernel
theorem dX5_chargeOrEvict_63 : decode cX5_chargeOrEvict 63 = .ok (.iload_n 1, 1) := by decide +kernel
theorem dX5_chargeOrEvict_64 : decode cX5_chargeOrEvict 64 = .ok (.iconst (-1), 1) := by decide +kernel
theorem dX5_chargeOrEvict_65 : decode cX5_chargeOrEvict 65 = .ok (.iastore, 1) := by decide +kernel
theorem dX5_chargeOrEvict_66 : decode cX5_chargeOrEvict 66 = .ok (.aload_n 0, 1) := by decide +kernel
theorem dX5_chargeOrEvict_67 : decode cX5_chargeOrEvict 67 = .ok (.dup, 1) := by decide +kernel
theorem dX5_chargeOrEvict_68 : decode cX5_chargeOrEvict 68 = .ok (.getfield 24, 3) := by decide +kernel
theorem dX5_chargeOrEvict_71 : decode cX5_chargeOrEvict 71 = .ok (.iconst 1, 1) := by decide +kernel
theorem dX5_chargeOrEvict_72 : decode cX5_chargeOrEvict 72 = .ok (.iadd, 1) := by decide +kernel
theorem dX5_chargeOrEvict_73 : decode cX5_chargeOrEvict 73 = .ok (.putfield 24, 3) := by decide +kernel
theorem dX5_chargeOrEvict_76 : decode cX5_chargeOrEvict 76 = .ok (.return_, 1) := by decide +kernel
theorem dX6_init_0 : decode cX6_init 0 = .ok (.aload_n 0, 1) := by decide +kernel
theorem dX6_init_1 : decode cX6_init 1 = .ok (.invokespecial 3, 3) := by decide +kernel
theorem dX6_init_4 : decode cX6_init 4 = .ok (.aload_n 0, 1) := by decide +kernel
theorem dX6_init_5 : decode cX6_init 5 = .ok (.sipush 256, 3) := by decide +kernel
theorem dX6_init_8 : decode cX6_init 8 = .ok (.newarray .int, 2) := by decide +kernel
theorem dX6_init_10 : decode cX6_init 10 = .ok (.putfield 9, 3) := by decide +kernel
theorem dX6_init_13 : decode cX6_init 13 = .ok (.aload_n 0, 1) := by decide +kernel
theorem dX6_init_14 : decode cX6_init 14 = .ok (.iconst 0, 1) := by decide +kernel
theorem dX6_init_15 : decode cX6_init 15 = .ok (.putfield 15, 3) := by decide +kernel
theorem dX6_init_18 : decode cX6_init 18 = .ok (.aload_n 0, 1) := by decide +kernel
theorem dX6_init_19 : decode cX6_init 19 = .ok (.iconst 0, 1) := by decide +kernel
theorem dX6_init_20 : decode cX6_init 20 = .ok (.putfield 19, 3) := by decide +kernel
theorem dX6_init_23 : decode cX6_init 23 = .ok (.return_, 1) := by decide +kernel
theorem dX7_init_0 : decode cX7_init 0 = .ok (.aload_n 0, 1) := by decide +kernel
theorem dX7_init_1 : decode cX7_init 1 = .ok (.invokespecial 3, 3) := by decide +kernel
theorem dX7_init_4 : decode cX7_init 4 = .ok (.aload_n 0, 1) := by decide +kernel
theorem dX7_init_5 : decode cX7_init 5 = .ok (.new 9, 3) := by decide +kernel
theorem dX7_init_8 : decode cX7_init 8 = .ok (.dup, 1) := by decide +kernel
theorem dX7_init_9 : decode cX7_init 9 = .ok (.invokespecial 11, 3) := by decide +kernel
theorem dX7_init_12 : decode cX7_init 12 = .ok (.putfield 12, 3) := by decide +kernel
theorem dX7_init_15 : decode cX7_init 15 = .ok (.aload_n 0, 1) := by decide +kernel
theorem dX7_init_16 : decode cX7_init 16 = .ok (.iconst 0, 1) := by decide +kernel
theorem dX7_init_17 : decode cX7_init 17 = .ok (.putfield 18, 3) := by decide +kernel
theorem dX7_init_20 : decode cX7_init 20 = .ok (.aload_n 0, 1) := by decide +kernel
theorem dX7_init_21 : decode cX7_init 21 = .ok (.iconst (-1), 1) := by decide +kernel
theorem dX7_init_22 : decode cX7_init 22 = .ok (.putfield 22, 3) := by decide +kernel
theorem dX7_init_25 : decode cX7_init 25 = .ok (.return_, 1) := by decide +kernel
theorem dX7_begin_0 : decode cX7_begin 0 = .ok (.aload_n 0, 1) := by decide +kernel
theorem dX7_begin_1 : decode cX7_begin 1 = .ok (.iconst 0, 1) := by decide +kernel
theorem dX7_begin_2 : decode cX7_begin 2 = .ok (.putfield 18, 3) := by decide +kernel
theorem dX7_begin_5 : decode cX7_begin 5 = .ok (.aload_n 0, 1) := by decide +kernel
theorem dX7_begin_6 : decode cX7_begin 6 = .ok (.iconst (-1), 1) := by decide +kernel
theorem dX7_begin_7 : decode cX7_begin 7 = .ok (.putfield 22, 3) := by decide +kernel
theorem dX7_begin_10 : decode cX7_begin 10 = .ok (.aload_n 0, 1) := by decide +kernel
theorem dX7_begin_11 : decode cX7_begin 11 = .ok (.getfield 12, 3) := by decide +kernel
theorem dX7_begin_14 : decode cX7_begin 14 = .ok (.invokevirtual 25, 3) := by decide +kernel
theorem dX7_begin_17 : decode cX7_begin 17 = .ok (.return_, 1) := by decide +kernel
theorem dX7_fail_0 : decode cX7_fail 0 = .ok (.aload_n 0, 1) := by decide +kernel
theorem dX7_fail_1 : decode cX7_fail 1 = .ok (.iload_n 1, 1) := by decide +kernel
theorem dX7_fail_2 : decode cX7_fail 2 = .ok (.putfield 18, 3) := by decide +kernel
theorem dX7_fail_5 : decode cX7_fail 5 = .ok (.aload_n 0, 1) := by decide +kernel
theorem dX7_fail_6 : decode cX7_fail 6 = .ok (.aload_n 0, 1) := by decide +kernel
theorem dX7_fail_7 : decode cX7_fail 7 = .ok (.getfield 12, 3) := by decide +kernel
theorem dX7_fail_10 : decode cX7_fail 10 = .ok (.getfield 28, 3) := by decide +kernel
theorem dX7_fail_13 : decode cX7_fail 13 = .ok (.putfield 22, 3) := by decide +kernel
theorem dX7_fail_16 : decode cX7_fail 16 = .ok (.iconst 0, 1) := by decide +kernel
theorem dX7_fail_17 : decode cX7_fail 17 = .ok (.ireturn, 1) := by decide +kernel
theorem dX7_takeWord_0 : decode cX7_takeWord 0 = .ok (.aload_n 0, 1) := by decide +kernel
theorem dX7_takeWord_1 : decode cX7_takeWord 1 = .ok (.getfield 12, 3) := by decide +kernel
theorem dX7_takeWord_4 : decode cX7_takeWord 4 = .ok (.aload_n 1, 1) := by decide +kernel
theorem dX7_takeWord_5 : decode cX7_takeWord 5 = .ok (.invokevirtual 31, 3) := by decide +kernel
theorem dX7_takeWord_8 : decode cX7_takeWord 8 = .ok (.ifCond .ne 9, 3) := by decide +kernel
theorem dX7_takeWord_11 : decode cX7_takeWord 11 = .ok (.aload_n 0, 1) := by decide +kernel
theorem dX7_takeWord_12 : decode cX7_takeWord 12 = .ok (.iconst 1, 1) := by decide +kernel
theorem dX7_takeWord_13 : decode cX7_takeWord 13 = .ok (.invokevirtual 35, 3) := by decide +kernel
theorem dX7_takeWord_16 : decode cX7_takeWord 16 = .ok (.ireturn, 1) := by decide +kernel
theorem dX7_takeWord_17 : decode cX7_takeWord 17 = .ok (.aload_n 0, 1) := by decide +kernel
theorem dX7_takeWord_18 : decode cX7_takeWord 18 = .ok (.getfield 12, 3) := by decide +kernel
theorem dX7_takeWord_21 : decode cX7_takeWord 21 = .ok (.invokevirtual 39, 3) := by decide +kernel
theorem dX7_takeWord_24 : decode cX7_takeWord 24 = .ok (.iconst 1, 1) := by decide +kernel
theorem dX7_takeWord_25 : decode cX7_takeWord 25 = .ok (.ireturn, 1) := by decide +kernel
theorem dX7_takeSemicolon_0 : decode cX7_takeSemicolon 0 = .ok (.aload_n 0, 1) := by decide +kernel
theorem dX7_takeSemicolon_1 : decode cX7_takeSemicolon 1 = .ok (.getfield 12, 3) := by decide +kernel
theorem dX7_takeSemicolon_4 : decode cX7_takeSemicolon 4 = .ok (.getfield 42, 3) := by decide +kernel
theorem dX7_takeSemicolon_7 : decode cX7_takeSemicolon 7 = .ok (.iconst 3, 1) := by decide +kernel
theorem dX7_takeSemicolon_8 : decode cX7_takeSemicolon 8 = .ok (.if_icmp .eq 9, 3) := by decide +kernel
theorem dX7_takeSemicolon_11 : decode cX7_takeSemicolon 11 = .ok (.aload_n 0, 1) := by decide +kernel
theorem dX7_takeSemicolon_12 : decode cX7_takeSemicolon 12 = .ok (.iconst 1, 1) := by decide +kernel
theorem dX7_takeSemicolon_13 : decode cX7_takeSemicolon 13 = .ok (.invokevirtual 35, 3) := by decide +kernel
theorem dX7_takeSemicolon_16 : decode cX7_takeSemicolon 16 = .ok (.ireturn, 1) := by decide +kernel
theorem dX7_takeSemicolon_17 : decode cX7_takeSemicolon 17 = .ok (.aload_n 0, 1) := by decide +kernel
theorem dX7_takeSemicolon_18 : decode cX7_takeSemicolon 18 = .ok (.getfield 12, 3) := by decide +kernel
theorem dX7_takeSemicolon_21 : decode cX7_takeSemicolon 21 = .ok (.invokevirtual 39, 3) := by decide +kernel
theorem dX7_takeSemicolon_24 : decode cX7_takeSemicolon 24 = .ok (.iconst 1, 1) := by decide +kernel
theorem dX7_takeSemicolon_25 : decode cX7_takeSemicolon 25 = .ok (.ireturn, 1) := by decide +kernel
theorem dX7_takeNumber_0 : decode cX7_takeNumber 0 = .ok (.aload_n 0, 1) := by decide +kernel
theorem dX7_takeNumber_1 : decode cX7_takeNumber 1 = .ok (.getfield 12, 3) := by decide +kernel
theorem dX7_takeNumber_4 : decode cX7_takeNumber 4 = .ok (.getfield 45, 3) := by decide +kernel
theorem dX7_takeNumber_7 : decode cX7_takeNumber 7 = .ok (.istore_n 3, 1) := by decide +kernel
theorem dX7_takeNumber_8 : decode cX7_takeNumber 8 = .ok (.aload_n 0, 1) := by decide +kernel
theorem dX7_takeNumber_9 : decode cX7_takeNumber 9 = .ok (.getfield 12, 3) := by decide +kernel
theorem dX7_takeNumber_12 : decode cX7_takeNumber 12 = .ok (.getfield 42, 3) := by decide +kernel
theorem dX7_takeNumber_15 : decode cX7_takeNumber 15 = .ok (.iconst 2, 1) := by decide +kernel
theorem dX7_takeNumber_16 : decode cX7_takeNumber 16 = .ok (.if_icmp .eq 11, 3) := by decide +kernel
theorem dX7_takeNumber_19 : decode cX7_takeNumber 19 = .ok (.aload_n 0, 1) := by decide +kernel
theorem dX7_takeNumber_20 : decode cX7_takeNumber 20 = .ok (.iconst 1, 1) := by decide +kernel
theorem dX7_takeNumber_21 : decode cX7_takeNumber 21 = .ok (.invokevirtual 35, 3) := by decide +kernel
theorem dX7_takeNumber_24 : decode cX7_takeNumber 24 = .ok (.pop, 1) := by decide +kernel
theorem dX7_takeNumber_25 : decode cX7_takeNumber 25 = .ok (.iconst (-1), 1) := by decide +kernel
theorem dX7_takeNumber_26 : decode cX7_takeNumber 26 = .ok (.ireturn, 1) := by decide +kernel
theorem dX7_takeNumber_27 : decode cX7_takeNumber 27 = .ok (.iload_n 3, 1) := by decide +kernel
theorem dX7_takeNumber_28 : decode cX7_takeNumber 28 = .ok (.iload_n 1, 1) := by decide +kernel
theorem dX7_takeNumber_29 : decode cX7_takeNumber 29 = .ok (.if_icmp .lt 8, 3) := by decide +kernel
theorem dX7_takeNumber_32 : decode cX7_takeNumber 32 = .ok (.iload_n 3, 1) := by decide +kernel
theorem dX7_takeNumber_33 : decode cX7_takeNumber 33 = .ok (.iload_n 2, 1) := by decide +kernel
theorem dX7_takeNumber_34 : decode cX7_takeNumber 34 = .ok (.if_icmp .le 11, 3) := by decide +kernel
theorem dX7_takeNumber_37 : decode cX7_takeNumber 37 = .ok (.aload_n 0, 1) := by decide +kernel
theorem dX7_takeNumber_38 : decode cX7_takeNumber 38 = .ok (.iconst 2, 1) := by decide +kernel
theorem dX7_takeNumber_39 : decode cX7_takeNumber 39 = .ok (.invokevirtual 35, 3) := by decide +kernel
theorem dX7_takeNumber_42 : decode cX7_takeNumber 42 = .ok (.pop, 1) := by decide +kernel
theorem dX7_takeNumber_43 : decode cX7_takeNumber 43 = .ok (.iconst (-1), 1) := by decide +kernel
theorem dX7_takeNumber_44 : decode cX7_takeNumber 44 = .ok (.ireturn, 1) := by decide +kernel
theorem dX7_takeNumber_45 : decode cX7_takeNumber 45 = .ok (.aload_n 0, 1) := by decide +kernel
theorem dX7_takeNumber_46 : decode cX7_takeNumber 46 = .ok (.getfield 12, 3) := by decide +kernel
theorem dX7_takeNumber_49 : decode cX7_takeNumber 49 = .ok (.invokevirtual 39, 3) := by decide +kernel
theorem dX7_takeNumber_52 : decode cX7_takeNumber 52 = .ok (.iload_n 3, 1) := by decide +kernel
theorem dX7_takeNumber_53 : decode cX7_takeNumber 53 = .ok (.ireturn, 1) := by decide +kernel
theorem dX7_seeStall_0 : decode cX7_seeStall 0 = .ok (.aload_n 0, 1) := by decide +kernel
theorem dX7_seeStall_1 : decode cX7_seeStall 1 = .ok (.getfield 12, 3) := by decide +kernel
theorem dX7_seeStall_4 : decode cX7_seeStall 4 = .ok (.getfield 42, 3) := by decide +kernel
theorem dX7_seeStall_7 : decode cX7_seeStall 7 = .ok (.iconst 1, 1) := by decide +kernel
theorem dX7_seeStall_8 : decode cX7_seeStall 8 = .ok (.if_icmp .ne 15, 3) := by decide +kernel
theorem dX7_seeStall_11 : decode cX7_seeStall 11 = .ok (.aload_n 0, 1) := by decide +kernel
theorem dX7_seeStall_12 : decode cX7_seeStall 12 = .ok (.getfield 12, 3) := by decide +kernel
theorem dX7_seeStall_15 : decode cX7_seeStall 15 = .ok (.ldc 58, 2) := by decide +kernel
theorem dX7_seeStall_17 : decode cX7_seeStall 17 = .ok (.invokevirtual 31, 3) := by decide +kernel
theorem dX7_seeStall_20 : decode cX7_seeStall 20 = .ok (.ifCond .eq 11, 3) := by decide +kernel
theorem dX7_seeStall_23 : decode cX7_seeStall 23 = .ok (.aload_n 0, 1) := by decide +kernel
theorem dX7_seeStall_24 : decode cX7_seeStall 24 = .ok (.iconst 1, 1) := by decide +kernel
theorem dX7_seeStall_25 : decode cX7_seeStall 25 = .ok (.invokevirtual 35, 3) := by decide +kernel
theorem dX7_seeStall_28 : decode cX7_seeStall 28 = .ok (.pop, 1) := by decide +kernel
theorem dX7_seeStall_29 : decode cX7_seeStall 29 = .ok (.iconst (-1), 1) := by decide +kernel
theorem dX7_seeStall_30 : decode cX7_seeStall 30 = .ok (.ireturn, 1) := by decide +kernel
theorem dX7_seeStall_31 : decode cX7_seeStall 31 = .ok (.aload_n 1, 1) := by decide +kernel
theorem dX7_seeStall_32 : decode cX7_seeStall 32 = .ok (.aload_n 0, 1) := by decide +kernel
theorem dX7_seeStall_33 : decode cX7_seeStall 33 = .ok (.getfield 12, 3) := by decide +kernel
theorem dX7_seeStall_36 : decode cX7_seeStall 36 = .ok (.getfield 48, 3) := by decide +kernel
theorem dX7_seeStall_39 : decode cX7_seeStall 39 = .ok (.invokevirtual 60, 3) := by decide +kernel
theorem dX7_seeStall_42 : decode cX7_seeStall 42 = .ok (.istore_n 2, 1) := by decide +kernel
theorem dX7_seeStall_43 : decode cX7_seeStall 43 = .ok (.iload_n 2, 1) := by decide +kernel
theorem dX7_seeStall_44 : decode cX7_seeStall 44 = .ok (.iconst (-1), 1) := by decide +kernel
theorem dX7_seeStall_45 : decode cX7_seeStall 45 = .ok (.if_icmp .ne 9, 3) := by decide +kernel
theorem dX7_seeStall_48 : decode cX7_seeStall 48 = .ok (.aload_n 0, 1) := by decide +kernel
theorem dX7_seeStall_49 : decode cX7_seeStall 49 = .ok (.iconst 3, 1) := by decide +kernel
theorem dX7_seeStall_50 : decode cX7_seeStall 50 = .ok (.invokevirtual 35, 3) := by decide +kernel
theorem dX7_seeStall_53 : decode cX7_seeStall 53 = .ok (.pop, 1) := by decide +kernel
theorem dX7_seeStall_54 : decode cX7_seeStall 54 = .ok (.iload_n 2, 1) := by decide +kernel
theorem dX7_seeStall_55 : decode cX7_seeStall 55 = .ok (.ireturn, 1) := by decide +kernel
theorem dX8_init_0 : decode cX8_init 0 = .ok (.aload_n 0, 1) := by decide +kernel
theorem dX8_init_1 : decode cX8_init 1 = .ok (.invokespecial 3, 3) := by decide +kernel
theorem dX8_init_4 : decode cX8_init 4 = .ok (.aload_n 0, 1) := by decide +kernel
theorem dX8_init_5 : decode cX8_init 5 = .ok (.bipush 20, 2) := by decide +kernel
theorem dX8_init_7 : decode cX8_init 7 = .ok (.anewarray 9, 3) := by decide +kernel
theorem dX8_init_10 : decode cX8_init 10 = .ok (.putfield 11, 3) := by decide +kernel
theorem dX8_init_13 : decode cX8_init 13 = .ok (.aload_n 0, 1) := by decide +kernel
theorem dX8_init_14 : decode cX8_init 14 = .ok (.bipush 20, 2) := by decide +kernel
theorem dX8_init_16 : decode cX8_init 16 = .ok (.newarray .int, 2) := by decide +kernel
theorem dX8_init_18 : decode cX8_init 18 = .ok (.putfield 17, 3) := by decide +kernel
theorem dX8_init_21 : decode cX8_init 21 = .ok (.aload_n 0, 1) := by decide +kernel
theorem dX8_init_22 : decode cX8_init 22 = .ok (.bipush 20, 2) := by decide +kernel
theorem dX8_init_24 : decode cX8_init 24 = .ok (.newarray .int, 2) := by decide +kernel
theorem dX8_init_26 : decode cX8_init 26 = .ok (.putfield 21, 3) := by decide +kernel
theorem dX8_init_29 : decode cX8_init 29 = .ok (.aload_n 0, 1) := by decide +kernel
theorem dX8_init_30 : decode cX8_init 30 = .ok (.iconst 0, 1) := by decide +kernel
theorem dX8_init_31 : decode cX8_init 31 = .ok (.putfield 24, 3) := by decide +kernel
theorem dX8_init_34 : decode cX8_init 34 = .ok (.return_, 1) := by decide +kernel
theorem dX9_read_0 : decode cX9_read 0 = .ok (.aload_n 1, 1) := by decide +kernel
theorem dX9_read_1 : decode cX9_read 1 = .ok (.invokevirtual 9, 3) := by decide +kernel
theorem dX9_read_4 : decode cX9_read 4 = .ok (.aload_n 0, 1) := by decide +kernel
theorem dX9_read_5 : decode cX9_read 5 = .ok (.invokevirtual 14, 3) := by decide +kernel
theorem dX9_read_8 : decode cX9_read 8 = .ok (.aload_n 0, 1) := by decide +kernel
theorem dX9_read_9 : decode cX9_read 9 = .ok (.ldc 19, 2) := by decide +kernel
theorem dX9_read_11 : decode cX9_read 11 = .ok (.invokevirtual 21, 3) := by decide +kernel
theorem dX9_read_14 : decode cX9_read 14 = .ok (.ifCond .eq 30, 3) := by decide +kernel
theorem dX9_read_17 : decode cX9_read 17 = .ok (.aload_n 0, 1) := by decide +kernel
theorem dX9_read_18 : decode cX9_read 18 = .ok (.invokevirtual 25, 3) := by decide +kernel
theorem dX9_read_21 : decode cX9_read 21 = .ok (.ifCond .eq 23, 3) := by decide +kernel
theorem dX9_read_24 : decode cX9_read 24 = .ok (.aload_n 0, 1) := by decide +kernel
theorem dX9_read_25 : decode cX9_read 25 = .ok (.aload_n 1, 1) := by decide +kernel
theorem dX9_read_26 : decode cX9_read 26 = .ok (.invokestatic 29, 3) := by decide +kernel
theorem dX9_read_29 : decode cX9_read 29 = .ok (.ifCond .eq 15, 3) := by decide +kernel
theorem dX9_read_32 : decode cX9_read 32 = .ok (.aload_n 0, 1) := by decide +kernel
theorem dX9_read_33 : decode cX9_read 33 = .ok (.aload_n 1, 1) := by decide +kernel
theorem dX9_read_34 : decode cX9_read 34 = .ok (.invokestatic 35, 3) := by decide +kernel
theorem dX9_read_37 : decode cX9_read 37 = .ok (.ifCond .eq 7, 3) := by decide +kernel
theorem dX9_read_40 : decode cX9_read 40 = .ok (.iconst 1, 1) := by decide +kernel
theorem dX9_read_41 : decode cX9_read 41 = .ok (.goto 4, 3) := by decide +kernel
theorem dX9_read_44 : decode cX9_read 44 = .ok (.iconst 0, 1) := by decide +kernel
theorem dX9_read_45 : decode cX9_read 45 = .ok (.ireturn, 1) := by decide +kernel
theorem dX9_readStalls_0 : decode cX9_readStalls 0 = .ok (.iconst 0, 1) := by decide +kernel
theorem dX9_readStalls_1 : decode cX9_readStalls 1 = .ok (.istore_n 2, 1) := by decide +kernel
theorem dX9_readStalls_2 : decode cX9_readStalls 2 = .ok (.iload_n 2, 1) := by decide +kernel
theorem dX9_readStalls_3 : decode cX9_readStalls 3 = .ok (.bipush 8, 2) := by decide +kernel
theorem dX9_readStalls_5 : decode cX9_readStalls 5 = .ok (.if_icmp .ge 37, 3) := by decide +kernel
theorem dX9_readStalls_8 : decode cX9_readStalls 8 = .ok (.iload_n 2, 1) := by decide +kernel
theorem dX9_readStalls_9 : decode cX9_readStalls 9 = .ok (.ifCond .le 17, 3) := by decide +kernel
theorem dX9_readStalls_12 : decode cX9_readStalls 12 = .ok (.aload_n 0, 1) := by decide +kernel
theorem dX9_readStalls_13 : decode cX9_readStalls 13 = .ok (.getfield 38, 3) := by decide +kernel
theorem dX9_readStalls_16 : decode cX9_readStalls 16 = .ok (.ldc 42, 2) := by decide +kernel
theorem dX9_readStalls_18 : decode cX9_readStalls 18 = .ok (.invokevirtual 44, 3) := by decide +kernel
theorem dX9_readStalls_21 : decode cX9_readStalls 21 = .ok (.ifCond .ne 5, 3) := by decide +kernel
theorem dX9_readStalls_24 : decode cX9_readStalls 24 = .ok (.iconst 1, 1) := by decide +kernel
theorem dX9_readStalls_25 : decode cX9_readStalls 25 = .ok (.ireturn, 1) := by decide +kernel
theorem dX9_readStalls_26 : decode cX9_readStalls 26 = .ok (.aload_n 0, 1) := by decide +kernel
theorem dX9_readStalls_27 : decode cX9_readStalls 27 = .ok (.aload_n 1, 1) := by decide +kernel
theorem dX9_readStalls_28 : decode cX9_readStalls 28 = .ok (.invokestatic 49, 3) := by decide +kernel
theorem dX9_readStalls_31 : decode cX9_readStalls 31 = .ok (.ifCond .ne 5, 3) := by decide +kernel
theorem dX9_readStalls_34 : decode cX9_readStalls 34 = .ok (.iconst 0, 1) := by decide +kernel
theorem dX9_readStalls_35 : decode cX9_readStalls 35 = .ok (.ireturn, 1) := by decide +kernel
theorem dX9_readStalls_36 : decode cX9_readStalls 36 = .ok (.iinc 2 1, 3) := by decide +kernel
theorem dX9_readStalls_39 : decode cX9_readStalls 39 = .ok (.goto (-37), 3) := by decide +kernel
theorem dX9_readStalls_42 : decode cX9_readStalls 42 = .ok (.aload_n 0, 1) := by decide +kernel
theorem dX9_readStalls_43 : decode cX9_readStalls 43 = .ok (.getfield 38, 3) := by decide +kernel
theorem dX9_readStalls_46 : decode cX9_readStalls 46 = .ok (.ldc 42, 2) := by decide +kernel
theorem dX9_readStalls_48 : decode cX9_readStalls 48 = .ok (.invokevirtual 44, 3) := by decide +kernel
theorem dX9_readStalls_51 : decode cX9_readStalls 51 = .ok (.ifCond .eq 11, 3) := by decide +kernel
theorem dX9_readStalls_54 : decode cX9_readStalls 54 = .ok (.aload_n 0, 1) := by decide +kernel
theorem dX9_readStalls_55 : decode cX9_readStalls 55 = .ok (.iconst 5, 1) := by decide +kernel
theorem dX9_readStalls_56 : decode cX9_readStalls 56 = .ok (.invokevirtual 52, 3) := by decide +kernel
theorem dX9_readStalls_59 : decode cX9_readStalls 59 = .ok (.ifCond .eq 7, 3) := by decide +kernel
theorem dX9_readStalls_62 : decode cX9_readStalls 62 = .ok (.iconst 1, 1) := by decide +kernel
theorem dX9_readStalls_63 : decode cX9_readStalls 63 = .ok (.goto 4, 3) := by decide +kernel
theorem dX9_readStalls_66 : decode cX9_readStalls 66 = .ok (.iconst 0, 1) := by decide +kernel
theorem dX9_readStalls_67 : decode cX9_readStalls 67 = .ok (.ireturn, 1) := by decide +kernel
theorem dX9_readStall_0 : decode cX9_readStall 0 = .ok (.aload_n 0, 1) := by decide +kernel
theorem dX9_readStall_1 : decode cX9_readStall 1 = .ok (.ldc 42, 2) := by decide +kernel
theorem dX9_readStall_3 : decode cX9_readStall 3 = .ok (.invokevirtual 21, 3) := by decide +kernel
theorem dX9_readStall_6 : decode cX9_readStall 6 = .ok (.ifCond .ne 5, 3) := by decide +kernel
theorem dX9_readStall_9 : decode cX9_readStall 9 = .ok (.iconst 0, 1) := by decide +kernel
theorem dX9_readStall_10 : decode cX9_readStall 10 = .ok (.ireturn, 1) := by decide +kernel
theorem dX9_readStall_11 : decode cX9_readStall 11 = .ok (.aload_n 0, 1) := by decide +kernel
theorem dX9_readStall_12 : decode cX9_readStall 12 = .ok (.getfield 38, 3) := by decide +kernel
theorem dX9_readStall_15 : decode cX9_readStall 15 = .ok (.getfield 56, 3) := by decide +kernel
theorem dX9_readStall_18 : decode cX9_readStall 18 = .ok (.lstore_n 2, 1) := by decide +kernel
theorem dX9_readStall_19 : decode cX9_readStall 19 = .ok (.aload_n 0, 1) := by decide +kernel
theorem dX9_readStall_20 : decode cX9_readStall 20 = .ok (.getfield 38, 3) := by decide +kernel
theorem dX9_readStall_23 : decode cX9_readStall 23 = .ok (.ldc 60, 2) := by decide +kernel
theorem dX9_readStall_25 : decode cX9_readStall 25 = .ok (.invokevirtual 44, 3) := by decide +kernel
theorem dX9_readStall_28 : decode cX9_readStall 28 = .ok (.ifCond .ne 12, 3) := by decide +kernel
theorem dX9_readStall_31 : decode cX9_readStall 31 = .ok (.aload_n 1, 1) := by decide +kernel
theorem dX9_readStall_32 : decode cX9_readStall 32 = .ok (.lload_n 2, 1) := by decide +kernel
theorem dX9_readStall_33 : decode cX9_readStall 33 = .ok (.invokevirtual 62, 3) := by decide +kernel
theorem dX9_readStall_36 : decode cX9_readStall 36 = .ok (.iconst (-1), 1) := by decide +kernel
theorem dX9_readStall_37 : decode cX9_readStall 37 = .ok (.if_icmp .eq 7, 3) := by decide +kernel
theorem dX9_readStall_40 : decode cX9_readStall 40 = .ok (.iconst 1, 1) := by decide +kernel
theorem dX9_readStall_41 : decode cX9_readStall 41 = .ok (.goto 4, 3) := by decide +kernel
theorem dX9_readStall_44 : decode cX9_readStall 44 = .ok (.iconst 0, 1) := by decide +kernel
theorem dX9_readStall_45 : decode cX9_readStall 45 = .ok (.istore 4, 2) := by decide +kernel
theorem dX9_readStall_47 : decode cX9_readStall 47 = .ok (.aload_n 0, 1) := by decide +kernel
theorem dX9_readStall_48 : decode cX9_readStall 48 = .ok (.iload 4, 2) := by decide +kernel
theorem dX9_readStall_50 : decode cX9_readStall 50 = .ok (.invokestatic 66, 3) := by decide +kernel
theorem dX9_readStall_53 : decode cX9_readStall 53 = .ok (.ifCond .ne 5, 3) := by decide +kernel
theorem dX9_readStall_56 : decode cX9_readStall 56 = .ok (.iconst 0, 1) := by decide +kernel
theorem dX9_readStall_57 : decode cX9_readStall 57 = .ok (.ireturn, 1) := by decide +kernel
theorem dX9_readStall_58 : decode cX9_readStall 58 = .ok (.aload_n 0, 1) := by decide +kernel
theorem dX9_readStall_59 : decode cX9_readStall 59 = .ok (.iconst 0, 1) := by decide +kernel
theorem dX9_readStall_60 : decode cX9_readStall 60 = .ok (.bipush 99, 2) := by decide +kernel
theorem dX9_readStall_62 : decode cX9_readStall 62 = .ok (.invokevirtual 70, 3) := by decide +kernel
theorem dX9_readStall_65 : decode cX9_readStall 65 = .ok (.istore 5, 2) := by decide +kernel
theorem dX9_readStall_67 : decode cX9_readStall 67 = .ok (.iload 5, 2) := by decide +kernel
theorem dX9_readStall_69 : decode cX9_readStall 69 = .ok (.iconst (-1), 1) := by decide +kernel
theorem dX9_readStall_70 : decode cX9_readStall 70 = .ok (.if_icmp .ne 5, 3) := by decide +kernel
theorem dX9_readStall_73 : decode cX9_readStall 73 = .ok (.iconst 0, 1) := by decide +kernel
theorem dX9_readStall_74 : decode cX9_readStall 74 = .ok (.ireturn, 1) := by decide +kernel
theorem dX9_readStall_75 : decode cX9_readStall 75 = .ok (.aload_n 1, 1) := by decide +kernel
theorem dX9_readStall_76 : decode cX9_readStall 76 = .ok (.lload_n 2, 1) := by decide +kernel
theorem dX9_readStall_77 : decode cX9_readStall 77 = .ok (.iload 5, 2) := by decide +kernel
theorem dX9_readStall_79 : decode cX9_readStall 79 = .ok (.invokevirtual 74, 3) := by decide +kernel
theorem dX9_readStall_82 : decode cX9_readStall 82 = .ok (.aload_n 0, 1) := by decide +kernel
theorem dX9_readStall_83 : decode cX9_readStall 83 = .ok (.invokevirtual 25, 3) := by decide +kernel
theorem dX9_readStall_86 : decode cX9_readStall 86 = .ok (.ireturn, 1) := by decide +kernel
theorem dX9_takeNewName_0 : decode cX9_takeNewName 0 = .ok (.aload_n 0, 1) := by decide +kernel
theorem dX9_takeNewName_1 : decode cX9_takeNewName 1 = .ok (.getfield 38, 3) := by decide +kernel
theorem dX9_takeNewName_4 : decode cX9_takeNewName 4 = .ok (.getfield 78, 3) := by decide +kernel
theorem dX9_takeNewName_7 : decode cX9_takeNewName 7 = .ok (.iconst 1, 1) := by decide +kernel
theorem dX9_takeNewName_8 : decode cX9_takeNewName 8 = .ok (.if_icmp .eq 9, 3) := by decide +kernel
theorem dX9_takeNewName_11 : decode cX9_takeNewName 11 = .ok (.aload_n 0, 1) := by decide +kernel
theorem dX9_takeNewName_12 : decode cX9_takeNewName 12 = .ok (.iconst 1, 1) := by decide +kernel
theorem dX9_takeNewName_13 : decode cX9_takeNewName 13 = .ok (.invokevirtual 52, 3) := by decide +kernel
theorem dX9_takeNewName_16 : decode cX9_takeNewName 16 = .ok (.ireturn, 1) := by decide +kernel
theorem dX9_takeNewName_17 : decode cX9_takeNewName 17 = .ok (.iload_n 1, 1) := by decide +kernel
theorem dX9_takeNewName_18 : decode cX9_takeNewName 18 = .ok (.ifCond .ne 15, 3) := by decide +kernel
theorem dX9_takeNewName_21 : decode cX9_takeNewName 21 = .ok (.aload_n 0, 1) := by decide +kernel
theorem dX9_takeNewName_22 : decode cX9_takeNewName 22 = .ok (.getfield 38, 3) := by decide +kernel
theorem dX9_takeNewName_25 : decode cX9_takeNewName 25 = .ok (.getfield 56, 3) := by decide +kernel
theorem dX9_takeNewName_28 : decode cX9_takeNewName 28 = .ok (.lconst 0, 1) := by decide +kernel
theorem dX9_takeNewName_29 : decode cX9_takeNewName 29 = .ok (.lcmp, 1) := by decide +kernel
theorem dX9_takeNewName_30 : decode cX9_takeNewName 30 = .ok (.ifCond .ne 9, 3) := by decide +kernel
theorem dX9_takeNewName_33 : decode cX9_takeNewName 33 = .ok (.aload_n 0, 1) := by decide +kernel
theorem dX9_takeNewName_34 : decode cX9_takeNewName 34 = .ok (.iconst 3, 1) := by decide +kernel
theorem dX9_takeNewName_35 : decode cX9_takeNewName 35 = .ok (.invokevirtual 52, 3) := by decide +kernel
theorem dX9_takeNewName_38 : decode cX9_takeNewName 38 = .ok (.ireturn, 1) := by decide +kernel
theorem dX9_takeNewName_39 : decode cX9_takeNewName 39 = .ok (.aload_n 0, 1) := by decide +kernel
theorem dX9_takeNewName_40 : decode cX9_takeNewName 40 = .ok (.getfield 38, 3) := by decide +kernel
theorem dX9_takeNewName_43 : decode cX9_takeNewName 43 = .ok (.invokevirtual 82, 3) := by decide +kernel
theorem dX9_takeNewName_46 : decode cX9_takeNewName 46 = .ok (.iconst 1, 1) := by decide +kernel
theorem dX9_takeNewName_47 : decode cX9_takeNewName 47 = .ok (.ireturn, 1) := by decide +kernel
theorem dX9_readSellers_0 : decode cX9_readSellers 0 = .ok (.iconst 0, 1) := by decide +kernel
theorem dX9_readSellers_1 : decode cX9_readSellers 1 = .ok (.istore_n 2, 1) := by decide +kernel
theorem dX9_readSellers_2 : decode cX9_readSellers 2 = .ok (.iload_n 2, 1) := by decide +kernel
theorem dX9_readSellers_3 : decode cX9_readSellers 3 = .ok (.bipush 8, 2) := by decide +kernel
theorem dX9_readSellers_5 : decode cX9_readSellers 5 = .ok (.if_icmp .ge 35, 3) := by decide +kernel
theorem dX9_readSellers_8 : decode cX9_readSellers 8 = .ok (.iload_n 2, 1) := by decide +kernel
theorem dX9_readSellers_9 : decode cX9_readSellers 9 = .ok (.ifCond .le 15, 3) := by decide +kernel
theorem dX9_readSellers_12 : decode cX9_readSellers 12 = .ok (.aload_n 0, 1) := by decide +kernel
theorem dX9_readSellers_13 : decode cX9_readSellers 13 = .ok (.getfield 38, 3) := by decide +kernel
theorem dX9_readSellers_16 : decode cX9_readSellers 16 = .ok (.getfield 78, 3) := by decide +kernel
theorem dX9_readSellers_19 : decode cX9_readSellers 19 = .ok (.ifCond .ne 5, 3) := by decide +kernel
theorem dX9_readSellers_22 : decode cX9_readSellers 22 = .ok (.iconst 1, 1) := by decide +kernel
theorem dX9_readSellers_23 : decode cX9_readSellers 23 = .ok (.ireturn, 1) := by decide +kernel
theorem dX9_readSellers_24 : decode cX9_readSellers 24 = .ok (.aload_n 0, 1) := by decide +kernel
theorem dX9_readSellers_25 : decode cX9_readSellers 25 = .ok (.aload_n 1, 1) := by decide +kernel
theorem dX9_readSellers_26 : decode cX9_readSellers 26 = .ok (.invokestatic 85, 3) := by decide +kernel
theorem dX9_readSellers_29 : decode cX9_readSellers 29 = .ok (.ifCond .ne 5, 3) := by decide +kernel
theorem dX9_readSellers_32 : decode cX9_readSellers 32 = .ok (.iconst 0, 1) := by decide +kernel
theorem dX9_readSellers_33 : decode cX9_readSellers 33 = .ok (.ireturn, 1) := by decide +kernel
theorem dX9_readSellers_34 : decode cX9_readSellers 34 = .ok (.iinc 2 1, 3) := by decide +kernel
theorem dX9_readSellers_37 : decode cX9_readSellers 37 = .ok (.goto (-35), 3) := by decide +kernel
theorem dX9_readSellers_40 : decode cX9_readSellers 40 = .ok (.aload_n 0, 1) := by decide +kernel
theorem dX9_readSellers_41 : decode cX9_readSellers 41 = .ok (.getfield 38, 3) := by decide +kernel
theorem dX9_readSellers_44 : decode cX9_readSellers 44 = .ok (.getfield 78, 3) := by decide +kernel
theorem dX9_readSellers_47 : decode cX9_readSellers 47 = .ok (.ifCond .ne 5, 3) := by decide +kernel
theorem dX9_readSellers_50 : decode cX9_readSellers 50 = .ok (.iconst 1, 1) := by decide +kernel
theorem dX9_readSellers_51 : decode cX9_readSellers 51 = .ok (.ireturn, 1) := by decide +kernel
theorem dX9_readSellers_52 : decode cX9_readSellers 52 = .ok (.aload_n 0, 1) := by decide +kernel
theorem dX9_readSellers_53 : decode cX9_readSellers 53 = .ok (.aload_n 0, 1) := by decide +kernel
theorem dX9_readSellers_54 : decode cX9_readSellers 54 = .ok (.getfield 38, 3) := by decide +kernel
theorem dX9_readSellers_57 : decode cX9_readSellers 57 = .ok (.ldc 88, 2) := by decide +kernel
theorem dX9_readSellers_59 : decode cX9_readSellers 59 = .ok (.invokevirtual 44, 3) := by decide +kernel
theorem dX9_readSellers_62 : decode cX9_readSellers 62 = .ok (.ifCond .eq 7, 3) := by decide +kernel
theorem dX9_readSellers_65 : decode cX9_readSellers 65 = .ok (.iconst 5, 1) := by decide +kernel
theorem dX9_readSellers_66 : decode cX9_readSellers 66 = .ok (.goto 4, 3) := by decide +kernel
theorem dX9_readSellers_69 : decode cX9_readSellers 69 = .ok (.iconst 1, 1) := by decide +kernel
theorem dX9_readSellers_70 : decode cX9_readSellers 70 = .ok (.invokevirtual 52, 3) := by decide +kernel
theorem dX9_readSellers_73 : decode cX9_readSellers 73 = .ok (.ireturn, 1) := by decide +kernel
theorem dX9_readSeller_0 : decode cX9_readSeller 0 = .ok (.aload_n 0, 1) := by decide +kernel
theorem dX9_readSeller_1 : decode cX9_readSeller 1 = .ok (.ldc 88, 2) := by decide +kernel
theorem dX9_readSeller_3 : decode cX9_readSeller 3 = .ok (.invokevirtual 21, 3) := by decide +kernel
theorem dX9_readSeller_6 : decode cX9_readSeller 6 = .ok (.ifCond .ne 5, 3) := by decide +kernel
theorem dX9_readSeller_9 : decode cX9_readSeller 9 = .ok (.iconst 0, 1) := by decide +kernel
theorem dX9_readSeller_10 : decode cX9_readSeller 10 = .ok (.ireturn, 1) := by decide +kernel
theorem dX9_readSeller_11 : decode cX9_readSeller 11 = .ok (.aload_n 0, 1) := by decide +kernel
theorem dX9_readSeller_12 : decode cX9_readSeller 12 = .ok (.getfield 38, 3) := by decide +kernel
theorem dX9_readSeller_15 : decode cX9_readSeller 15 = .ok (.getfield 56, 3) := by decide +kernel
theorem dX9_readSeller_18 : decode cX9_readSeller 18 = .ok (.lstore_n 2, 1) := by decide +kernel
theorem dX9_readSeller_19 : decode cX9_readSeller 19 = .ok (.aload_n 0, 1) := by decide +kernel
theorem dX9_readSeller_20 : decode cX9_readSeller 20 = .ok (.aload_n 1, 1) := by decide +kernel
theorem dX9_readSeller_21 : decode cX9_readSeller 21 = .ok (.lload_n 2, 1) := by decide +kernel
theorem dX9_readSeller_22 : decode cX9_readSeller 22 = .ok (.invokevirtual 90, 3) := by decide +kernel
theorem dX9_readSeller_25 : decode cX9_readSeller 25 = .ok (.iconst (-1), 1) := by decide +kernel
theorem dX9_readSeller_26 : decode cX9_readSeller 26 = .ok (.if_icmp .eq 7, 3) := by decide +kernel
theorem dX9_readSeller_29 : decode cX9_readSeller 29 = .ok (.iconst 1, 1) := by decide +kernel
theorem dX9_readSeller_30 : decode cX9_readSeller 30 = .ok (.goto 4, 3) := by decide +kernel
theorem dX9_readSeller_33 : decode cX9_readSeller 33 = .ok (.iconst 0, 1) := by decide +kernel
theorem dX9_readSeller_34 : decode cX9_readSeller 34 = .ok (.invokestatic 66, 3) := by decide +kernel
theorem dX9_readSeller_37 : decode cX9_readSeller 37 = .ok (.ifCond .ne 5, 3) := by decide +kernel
theorem dX9_readSeller_40 : decode cX9_readSeller 40 = .ok (.iconst 0, 1) := by decide +kernel
theorem dX9_readSeller_41 : decode cX9_readSeller 41 = .ok (.ireturn, 1) := by decide +kernel
theorem dX9_readSeller_42 : decode cX9_readSeller 42 = .ok (.aload_n 0, 1) := by decide +kernel
theorem dX9_readSeller_43 : decode cX9_readSeller 43 = .ok (.iconst 0, 1) := by decide +kernel
theorem dX9_readSeller_44 : decode cX9_readSeller 44 = .ok (.sipush 9999, 3) := by decide +kernel
theorem dX9_readSeller_47 : decode cX9_readSeller 47 = .ok (.invokevirtual 70, 3) := by decide +kernel
theorem dX9_readSeller_50 : decode cX9_readSeller 50 = .ok (.istore 4, 2) := by decide +kernel
theorem dX9_readSeller_52 : decode cX9_readSeller 52 = .ok (.iload 4, 2) := by decide +kernel
theorem dX9_readSeller_54 : decode cX9_readSeller 54 = .ok (.iconst (-1), 1) := by decide +kernel
theorem dX9_readSeller_55 : decode cX9_readSeller 55 = .ok (.if_icmp .ne 5, 3) := by decide +kernel
theorem dX9_readSeller_58 : decode cX9_readSeller 58 = .ok (.iconst 0, 1) := by decide +kernel
theorem dX9_readSeller_59 : decode cX9_readSeller 59 = .ok (.ireturn, 1) := by decide +kernel
theorem dX9_readSeller_60 : decode cX9_readSeller 60 = .ok (.aload_n 0, 1) := by decide +kernel
theorem dX9_readSeller_61 : decode cX9_readSeller 61 = .ok (.iconst 0, 1) := by decide +kernel
theorem dX9_readSeller_62 : decode cX9_readSeller 62 = .ok (.bipush 99, 2) := by decide +kernel
theorem dX9_readSeller_64 : decode cX9_readSeller 64 = .ok (.invokevirtual 70, 3) := by decide +kernel
theorem dX9_readSeller_67 : decode cX9_readSeller 67 = .ok (.istore 5, 2) := by decide +kernel
theorem dX9_readSeller_69 : decode cX9_readSeller 69 = .ok (.iload 5, 2) := by decide +kernel
theorem dX9_readSeller_71 : decode cX9_readSeller 71 = .ok (.iconst (-1), 1) := by decide +kernel
theorem dX9_readSeller_72 : decode cX9_readSeller 72 = .ok (.if_icmp .ne 5, 3) := by decide +kernel
theorem dX9_readSeller_75 : decode cX9_readSeller 75 = .ok (.iconst 0, 1) := by decide +kernel
theorem dX9_readSeller_76 : decode cX9_readSeller 76 = .ok (.ireturn, 1) := by decide +kernel
theorem dX9_readSeller_77 : decode cX9_readSeller 77 = .ok (.aload_n 1, 1) := by decide +kernel
theorem dX9_readSeller_78 : decode cX9_readSeller 78 = .ok (.getfield 93, 3) := by decide +kernel
theorem dX9_readSeller_81 : decode cX9_readSeller 81 = .ok (.istore 6, 2) := by decide +kernel
theorem dX9_readSeller_83 : decode cX9_readSeller 83 = .ok (.aload_n 1, 1) := by decide +kernel
theorem dX9_readSeller_84 : decode cX9_readSeller 84 = .ok (.lload_n 2, 1) := by decide +kernel
theorem dX9_readSeller_85 : decode cX9_readSeller 85 = .ok (.iload 4, 2) := by decide +kernel
theorem dX9_readSeller_87 : decode cX9_readSeller 87 = .ok (.iload 5, 2) := by decide +kernel
theorem dX9_readSeller_89 : decode cX9_readSeller 89 = .ok (.invokevirtual 96, 3) := by decide +kernel
theorem dX9_readSeller_92 : decode cX9_readSeller 92 = .ok (.aload_n 0, 1) := by decide +kernel
theorem dX9_readSeller_93 : decode cX9_readSeller 93 = .ok (.aload_n 1, 1) := by decide +kernel
theorem dX9_readSeller_94 : decode cX9_readSeller 94 = .ok (.iload 6, 2) := by decide +kernel
theorem dX9_readSeller_96 : decode cX9_readSeller 96 = .ok (.invokestatic 100, 3) := by decide +kernel
theorem dX9_readSeller_99 : decode cX9_readSeller 99 = .ok (.ifCond .eq 24, 3) := by decide +kernel
theorem dX9_readSeller_102 : decode cX9_readSeller 102 = .ok (.aload_n 0, 1) := by decide +kernel
theorem dX9_readSeller_103 : decode cX9_readSeller 103 = .ok (.aload_n 1, 1) := by decide +kernel
theorem dX9_readSeller_104 : decode cX9_readSeller 104 = .ok (.iload 6, 2) := by decide +kernel
theorem dX9_readSeller_106 : decode cX9_readSeller 106 = .ok (.invokestatic 104, 3) := by decide +kernel
theorem dX9_readSeller_109 : decode cX9_readSeller 109 = .ok (.ifCond .eq 14, 3) := by decide +kernel
theorem dX9_readSeller_112 : decode cX9_readSeller 112 = .ok (.aload_n 0, 1) := by decide +kernel
theorem dX9_readSeller_113 : decode cX9_readSeller 113 = .ok (.invokevirtual 25, 3) := by decide +kernel
theorem dX9_readSeller_116 : decode cX9_readSeller 116 = .ok (.ifCond .eq 7, 3) := by decide +kernel
theorem dX9_readSeller_119 : decode cX9_readSeller 119 = .ok (.iconst 1, 1) := by decide +kernel
theorem dX9_readSeller_120 : decode cX9_readSeller 120 = .ok (.goto 4, 3) := by decide +kernel
theorem dX9_readSeller_123 : decode cX9_readSeller 123 = .ok (.iconst 0, 1) := by decide +kernel
theorem dX9_readSeller_124 : decode cX9_readSeller 124 = .ok (.ireturn, 1) := by decide +kernel
theorem dX9_readWishes_0 : decode cX9_readWishes 0 = .ok (.iconst 0, 1) := by decide +kernel
theorem dX9_readWishes_1 : decode cX9_readWishes 1 = .ok (.istore_n 3, 1) := by decide +kernel
theorem dX9_readWishes_2 : decode cX9_readWishes 2 = .ok (.iload_n 3, 1) := by decide +kernel
theorem dX9_readWishes_3 : decode cX9_readWishes 3 = .ok (.bipush 8, 2) := by decide +kernel
theorem dX9_readWishes_5 : decode cX9_readWishes 5 = .ok (.if_icmp .gt 80, 3) := by decide +kernel
theorem dX9_readWishes_8 : decode cX9_readWishes 8 = .ok (.aload_n 0, 1) := by decide +kernel
theorem dX9_readWishes_9 : decode cX9_readWishes 9 = .ok (.getfield 38, 3) := by decide +kernel
theorem dX9_readWishes_12 : decode cX9_readWishes 12 = .ok (.getfield 78, 3) := by decide +kernel
theorem dX9_readWishes_15 : decode cX9_readWishes 15 = .ok (.iconst 1, 1) := by decide +kernel
theorem dX9_readWishes_16 : decode cX9_readWishes 16 = .ok (.if_icmp .ne 15, 3) := by decide +kernel
theorem dX9_readWishes_19 : decode cX9_readWishes 19 = .ok (.aload_n 0, 1) := by decide +kernel
theorem dX9_readWishes_20 : decode cX9_readWishes 20 = .ok (.getfield 38, 3) := by decide +kernel
theorem dX9_readWishes_23 : decode cX9_readWishes 23 = .ok (.ldc 60, 2) := by decide +kernel
theorem dX9_readWishes_25 : decode cX9_readWishes 25 = .ok (.invokevirtual 44, 3) := by decide +kernel
theorem dX9_readWishes_28 : decode cX9_readWishes 28 = .ok (.ifCond .eq 5, 3) := by decide +kernel
theorem dX9_readWishes_31 : decode cX9_readWishes 31 = .ok (.iconst 1, 1) := by decide +kernel
theorem dX9_readWishes_32 : decode cX9_readWishes 32 = .ok (.ireturn, 1) := by decide +kernel
theorem dX9_readWishes_33 : decode cX9_readWishes 33 = .ok (.aload_n 0, 1) := by decide +kernel
theorem dX9_readWishes_34 : decode cX9_readWishes 34 = .ok (.aload_n 1, 1) := by decide +kernel
theorem dX9_readWishes_35 : decode cX9_readWishes 35 = .ok (.invokevirtual 107, 3) := by decide +kernel
theorem dX9_readWishes_38 : decode cX9_readWishes 38 = .ok (.istore 4, 2) := by decide +kernel
theorem dX9_readWishes_40 : decode cX9_readWishes 40 = .ok (.iload 4, 2) := by decide +kernel
theorem dX9_readWishes_42 : decode cX9_readWishes 42 = .ok (.iconst (-1), 1) := by decide +kernel
theorem dX9_readWishes_43 : decode cX9_readWishes 43 = .ok (.if_icmp .ne 5, 3) := by decide +kernel
theorem dX9_readWishes_46 : decode cX9_readWishes 46 = .ok (.iconst 0, 1) := by decide +kernel
theorem dX9_readWishes_47 : decode cX9_readWishes 47 = .ok (.ireturn, 1) := by decide +kernel
theorem dX9_readWishes_48 : decode cX9_readWishes 48 = .ok (.aload_n 1, 1) := by decide +kernel
theorem dX9_readWishes_49 : decode cX9_readWishes 49 = .ok (.iload_n 2, 1) := by decide +kernel
theorem dX9_readWishes_50 : decode cX9_readWishes 50 = .ok (.iload 4, 2) := by decide +kernel
theorem dX9_readWishes_52 : decode cX9_readWishes 52 = .ok (.invokevirtual 111, 3) := by decide +kernel
theorem dX9_readWishes_55 : decode cX9_readWishes 55 = .ok (.iconst (-1), 1) := by decide +kernel
theorem dX9_readWishes_56 : decode cX9_readWishes 56 = .ok (.if_icmp .eq 9, 3) := by decide +kernel
theorem dX9_readWishes_59 : decode cX9_readWishes 59 = .ok (.aload_n 0, 1) := by decide +kernel
theorem dX9_readWishes_60 : decode cX9_readWishes 60 = .ok (.iconst 4, 1) := by decide +kernel
theorem dX9_readWishes_61 : decode cX9_readWishes 61 = .ok (.invokevirtual 52, 3) := by decide +kernel
theorem dX9_readWishes_64 : decode cX9_readWishes 64 = .ok (.ireturn, 1) := by decide +kernel
theorem dX9_readWishes_65 : decode cX9_readWishes 65 = .ok (.aload_n 1, 1) := by decide +kernel
theorem dX9_readWishes_66 : decode cX9_readWishes 66 = .ok (.iload_n 2, 1) := by decide +kernel
theorem dX9_readWishes_67 : decode cX9_readWishes 67 = .ok (.iload 4, 2) := by decide +kernel
theorem dX9_readWishes_69 : decode cX9_readWishes 69 = .ok (.invokevirtual 114, 3) := by decide +kernel
theorem dX9_readWishes_72 : decode cX9_readWishes 72 = .ok (.aload_n 0, 1) := by decide +kernel
theorem dX9_readWishes_73 : decode cX9_readWishes 73 = .ok (.getfield 38, 3) := by decide +kernel
theorem dX9_readWishes_76 : decode cX9_readWishes 76 = .ok (.invokevirtual 82, 3) := by decide +kernel
theorem dX9_readWishes_79 : decode cX9_readWishes 79 = .ok (.iinc 3 1, 3) := by decide +kernel
theorem dX9_readWishes_82 : decode cX9_readWishes 82 = .ok (.goto (-80), 3) := by decide +kernel
theorem dX9_readWishes_85 : decode cX9_readWishes 85 = .ok (.iconst 1, 1) := by decide +kernel
theorem dX9_readWishes_86 : decode cX9_readWishes 86 = .ok (.ireturn, 1) := by decide +kernel
theorem dX9_readPlace_0 : decode cX9_readPlace 0 = .ok (.aload_n 0, 1) := by decide +kernel
theorem dX9_readPlace_1 : decode cX9_readPlace 1 = .ok (.getfield 38, 3) := by decide +kernel
theorem dX9_readPlace_4 : decode cX9_readPlace 4 = .ok (.ldc 60, 2) := by decide +kernel
theorem dX9_readPlace_6 : decode cX9_readPlace 6 = .ok (.invokevirtual 44, 3) := by decide +kernel
theorem dX9_readPlace_9 : decode cX9_readPlace 9 = .ok (.ifCond .ne 5, 3) := by decide +kernel
theorem dX9_readPlace_12 : decode cX9_readPlace 12 = .ok (.iconst 1, 1) := by decide +kernel
theorem dX9_readPlace_13 : decode cX9_readPlace 13 = .ok (.ireturn, 1) := by decide +kernel
theorem dX9_readPlace_14 : decode cX9_readPlace 14 = .ok (.aload_n 0, 1) := by decide +kernel
theorem dX9_readPlace_15 : decode cX9_readPlace 15 = .ok (.getfield 38, 3) := by decide +kernel
theorem dX9_readPlace_18 : decode cX9_readPlace 18 = .ok (.invokevirtual 82, 3) := by decide +kernel
theorem dX9_readPlace_21 : decode cX9_readPlace 21 = .ok (.aload_n 0, 1) := by decide +kernel
theorem dX9_readPlace_22 : decode cX9_readPlace 22 = .ok (.aload_n 1, 1) := by decide +kernel
theorem dX9_readPlace_23 : decode cX9_readPlace 23 = .ok (.invokevirtual 107, 3) := by decide +kernel
theorem dX9_readPlace_26 : decode cX9_readPlace 26 = .ok (.istore_n 3, 1) := by decide +kernel
theorem dX9_readPlace_27 : decode cX9_readPlace 27 = .ok (.iload_n 3, 1) := by decide +kernel
theorem dX9_readPlace_28 : decode cX9_readPlace 28 = .ok (.iconst (-1), 1) := by decide +kernel
theorem dX9_readPlace_29 : decode cX9_readPlace 29 = .ok (.if_icmp .ne 5, 3) := by decide +kernel
theorem dX9_readPlace_32 : decode cX9_readPlace 32 = .ok (.iconst 0, 1) := by decide +kernel
theorem dX9_readPlace_33 : decode cX9_readPlace 33 = .ok (.ireturn, 1) := by decide +kernel
theorem dX9_readPlace_34 : decode cX9_readPlace 34 = .ok (.aload_n 1, 1) := by decide +kernel
theorem dX9_readPlace_35 : decode cX9_readPlace 35 = .ok (.iload_n 3, 1) := by decide +kernel
theorem dX9_readPlace_36 : decode cX9_readPlace 36 = .ok (.invokevirtual 118, 3) := by decide +kernel
theorem dX9_readPlace_39 : decode cX9_readPlace 39 = .ok (.iconst (-1), 1) := by decide +kernel
theorem dX9_readPlace_40 : decode cX9_readPlace 40 = .ok (.if_icmp .eq 9, 3) := by decide +kernel
theorem dX9_readPlace_43 : decode cX9_readPlace 43 = .ok (.aload_n 0, 1) := by decide +kernel
theorem dX9_readPlace_44 : decode cX9_readPlace 44 = .ok (.iconst 4, 1) := by decide +kernel
theorem dX9_readPlace_45 : decode cX9_readPlace 45 = .ok (.invokevirtual 52, 3) := by decide +kernel
theorem dX9_readPlace_48 : decode cX9_readPlace 48 = .ok (.ireturn, 1) := by decide +kernel
theorem dX9_readPlace_49 : decode cX9_readPlace 49 = .ok (.aload_n 1, 1) := by decide +kernel
theorem dX9_readPlace_50 : decode cX9_readPlace 50 = .ok (.iload_n 2, 1) := by decide +kernel
theorem dX9_readPlace_51 : decode cX9_readPlace 51 = .ok (.iload_n 3, 1) := by decide +kernel
theorem dX9_readPlace_52 : decode cX9_readPlace 52 = .ok (.invokevirtual 122, 3) := by decide +kernel
theorem dX9_readPlace_55 : decode cX9_readPlace 55 = .ok (.aload_n 0, 1) := by decide +kernel
theorem dX9_readPlace_56 : decode cX9_readPlace 56 = .ok (.getfield 38, 3) := by decide +kernel
theorem dX9_readPlace_59 : decode cX9_readPlace 59 = .ok (.invokevirtual 82, 3) := by decide +kernel
theorem dX9_readPlace_62 : decode cX9_readPlace 62 = .ok (.iconst 1, 1) := by decide +kernel
theorem dX9_readPlace_63 : decode cX9_readPlace 63 = .ok (.ireturn, 1) := by decide +kernel
theorem dX10_init_0 : decode cX10_init 0 = .ok (.aload_n 0, 1) := by decide +kernel
theorem dX10_init_1 : decode cX10_init 1 = .ok (.invokespecial 3, 3) := by decide +kernel
theorem dX10_init_4 : decode cX10_init 4 = .ok (.aload_n 0, 1) := by decide +kernel
theorem dX10_init_5 : decode cX10_init 5 = .ok (.new 9, 3) := by decide +kernel
theorem dX10_init_8 : decode cX10_init 8 = .ok (.dup, 1) := by decide +kernel
theorem dX10_init_9 : decode cX10_init 9 = .ok (.invokespecial 11, 3) := by decide +kernel
theorem dX10_init_12 : decode cX10_init 12 = .ok (.putfield 12, 3) := by decide +kernel
theorem dX10_init_15 : decode cX10_init 15 = .ok (.aload_n 0, 1) := by decide +kernel
theorem dX10_init_16 : decode cX10_init 16 = .ok (.iconst 0, 1) := by decide +kernel
theorem dX10_init_17 : decode cX10_init 17 = .ok (.putfield 18, 3) := by decide +kernel
theorem dX10_init_20 : decode cX10_init 20 = .ok (.aload_n 0, 1) := by decide +kernel
theorem dX10_init_21 : decode cX10_init 21 = .ok (.iconst 0, 1) := by decide +kernel
theorem dX10_init_22 : decode cX10_init 22 = .ok (.putfield 22, 3) := by decide +kernel
theorem dX10_init_25 : decode cX10_init 25 = .ok (.aload_n 0, 1) := by decide +kernel
theorem dX10_init_26 : decode cX10_init 26 = .ok (.iconst 0, 1) := by decide +kernel
theorem dX10_init_27 : decode cX10_init 27 = .ok (.putfield 25, 3) := by decide +kernel
theorem dX10_init_30 : decode cX10_init 30 = .ok (.aload_n 0, 1) := by decide +kernel
theorem dX10_init_31 : decode cX10_init 31 = .ok (.iconst 0, 1) := by decide +kernel
theorem dX10_init_32 : decode cX10_init 32 = .ok (.putfield 28, 3) := by decide +kernel
theorem dX10_init_35 : decode cX10_init 35 = .ok (.aload_n 0, 1) := by decide +kernel
theorem dX10_init_36 : decode cX10_init 36 = .ok (.lconst 0, 1) := by decide +kernel
theorem dX10_init_37 : decode cX10_init 37 = .ok (.putfield 31, 3) := by decide +kernel
theorem dX10_init_40 : decode cX10_init 40 = .ok (.return_, 1) := by decide +kernel
theorem dX10_rewind_0 : decode cX10_rewind 0 = .ok (.aload_n 0, 1) := by decide +kernel
theorem dX10_rewind_1 : decode cX10_rewind 1 = .ok (.iconst 0, 1) := by decide +kernel
theorem dX10_rewind_2 : decode cX10_rewind 2 = .ok (.putfield 25, 3) := by decide +kernel
theorem dX10_rewind_5 : decode cX10_rewind 5 = .ok (.aload_n 0, 1) := by decide +kernel
theorem dX10_rewind_6 : decode cX10_rewind 6 = .ok (.invokevirtual 35, 3) := by decide +kernel
theorem dX10_rewind_9 : decode cX10_rewind 9 = .ok (.return_, 1) := by decide +kernel
theorem dX10_next_0 : decode cX10_next 0 = .ok (.aload_n 0, 1) := by decide +kernel
theorem dX10_next_1 : decode cX10_next 1 = .ok (.aload_n 0, 1) := by decide +kernel
theorem dX10_next_2 : decode cX10_next 2 = .ok (.getfield 25, 3) := by decide +kernel
theorem dX10_next_5 : decode cX10_next 5 = .ok (.putfield 22, 3) := by decide +kernel
theorem dX10_next_8 : decode cX10_next 8 = .ok (.aload_n 0, 1) := by decide +kernel
theorem dX10_next_9 : decode cX10_next 9 = .ok (.getfield 22, 3) := by decide +kernel
theorem dX10_next_12 : decode cX10_next 12 = .ok (.aload_n 0, 1) := by decide +kernel
theorem dX10_next_13 : decode cX10_next 13 = .ok (.getfield 12, 3) := by decide +kernel
theorem dX10_next_16 : decode cX10_next 16 = .ok (.getfield 38, 3) := by decide +kernel
theorem dX10_next_19 : decode cX10_next 19 = .ok (.if_icmp .ge 32, 3) := by decide +kernel
theorem dX10_next_22 : decode cX10_next 22 = .ok (.aload_n 0, 1) := by decide +kernel
theorem dX10_next_23 : decode cX10_next 23 = .ok (.getfield 12, 3) := by decide +kernel
theorem dX10_next_26 : decode cX10_next 26 = .ok (.aload_n 0, 1) := by decide +kernel
theorem dX10_next_27 : decode cX10_next 27 = .ok (.getfield 22, 3) := by decide +kernel
theorem dX10_next_30 : decode cX10_next 30 = .ok (.invokevirtual 41, 3) := by decide +kernel
theorem dX10_next_33 : decode cX10_next 33 = .ok (.bipush 32, 2) := by decide +kernel
theorem dX10_next_35 : decode cX10_next 35 = .ok (.if_icmp .ne 16, 3) := by decide +kernel
theorem dX10_next_38 : decode cX10_next 38 = .ok (.aload_n 0, 1) := by decide +kernel
theorem dX10_next_39 : decode cX10_next 39 = .ok (.dup, 1) := by decide +kernel
theorem dX10_next_40 : decode cX10_next 40 = .ok (.getfield 22, 3) := by decide +kernel
theorem dX10_next_43 : decode cX10_next 43 = .ok (.iconst 1, 1) := by decide +kernel
theorem dX10_next_44 : decode cX10_next 44 = .ok (.iadd, 1) := by decide +kernel
theorem dX10_next_45 : decode cX10_next 45 = .ok (.putfield 22, 3) := by decide +kernel
theorem dX10_next_48 : decode cX10_next 48 = .ok (.goto (-40), 3) := by decide +kernel
theorem dX10_next_51 : decode cX10_next 51 = .ok (.aload_n 0, 1) := by decide +kernel
theorem dX10_next_52 : decode cX10_next 52 = .ok (.aload_n 0, 1) := by decide +kernel
theorem dX10_next_53 : decode cX10_next 53 = .ok (.getfield 22, 3) := by decide +kernel
theorem dX10_next_56 : decode cX10_next 56 = .ok (.putfield 25, 3) := by decide +kernel
theorem dX10_next_59 : decode cX10_next 59 = .ok (.aload_n 0, 1) := by decide +kernel
theorem dX10_next_60 : decode cX10_next 60 = .ok (.iconst 0, 1) := by decide +kernel
theorem dX10_next_61 : decode cX10_next 61 = .ok (.putfield 28, 3) := by decide +kernel
theorem dX10_next_64 : decode cX10_next 64 = .ok (.aload_n 0, 1) := by decide +kernel
theorem dX10_next_65 : decode cX10_next 65 = .ok (.lconst 0, 1) := by decide +kernel
theorem dX10_next_66 : decode cX10_next 66 = .ok (.putfield 31, 3) := by decide +kernel
theorem dX10_next_69 : decode cX10_next 69 = .ok (.aload_n 0, 1) := by decide +kernel
theorem dX10_next_70 : decode cX10_next 70 = .ok (.getfield 12, 3) := by decide +kernel
theorem dX10_next_73 : decode cX10_next 73 = .ok (.aload_n 0, 1) := by decide +kernel
theorem dX10_next_74 : decode cX10_next 74 = .ok (.getfield 22, 3) := by decide +kernel
theorem dX10_next_77 : decode cX10_next 77 = .ok (.invokevirtual 41, 3) := by decide +kernel
theorem dX10_next_80 : decode cX10_next 80 = .ok (.istore_n 1, 1) := by decide +kernel
theorem dX10_next_81 : decode cX10_next 81 = .ok (.iload_n 1, 1) := by decide +kernel
theorem dX10_next_82 : decode cX10_next 82 = .ok (.iconst (-1), 1) := by decide +kernel
theorem dX10_next_83 : decode cX10_next 83 = .ok (.if_icmp .ne 11, 3) := by decide +kernel
theorem dX10_next_86 : decode cX10_next 86 = .ok (.aload_n 0, 1) := by decide +kernel
theorem dX10_next_87 : decode cX10_next 87 = .ok (.iconst 0, 1) := by decide +kernel
theorem dX10_next_88 : decode cX10_next 88 = .ok (.putfield 18, 3) := by decide +kernel
theorem dX10_next_91 : decode cX10_next 91 = .ok (.goto 56, 3) := by decide +kernel
theorem dX10_next_94 : decode cX10_next 94 = .ok (.iload_n 1, 1) := by decide +kernel
theorem dX10_next_95 : decode cX10_next 95 = .ok (.invokestatic 45, 3) := by decide +kernel
theorem dX10_next_98 : decode cX10_next 98 = .ok (.ifCond .eq 10, 3) := by decide +kernel
theorem dX10_next_101 : decode cX10_next 101 = .ok (.aload_n 0, 1) := by decide +kernel
theorem dX10_next_102 : decode cX10_next 102 = .ok (.invokevirtual 49, 3) := by decide +kernel
theorem dX10_next_105 : decode cX10_next 105 = .ok (.goto 42, 3) := by decide +kernel
theorem dX10_next_108 : decode cX10_next 108 = .ok (.iload_n 1, 1) := by decide +kernel
theorem dX10_next_109 : decode cX10_next 109 = .ok (.invokestatic 52, 3) := by decide +kernel
theorem dX10_next_112 : decode cX10_next 112 = .ok (.ifCond .eq 10, 3) := by decide +kernel
theorem dX10_next_115 : decode cX10_next 115 = .ok (.aload_n 0, 1) := by decide +kernel
theorem dX10_next_116 : decode cX10_next 116 = .ok (.invokevirtual 55, 3) := by decide +kernel
theorem dX10_next_119 : decode cX10_next 119 = .ok (.goto 28, 3) := by decide +kernel
theorem dX10_next_122 : decode cX10_next 122 = .ok (.aload_n 0, 1) := by decide +kernel
theorem dX10_next_123 : decode cX10_next 123 = .ok (.iload_n 1, 1) := by decide +kernel
theorem dX10_next_124 : decode cX10_next 124 = .ok (.bipush 59, 2) := by decide +kernel
theorem dX10_next_126 : decode cX10_next 126 = .ok (.if_icmp .ne 7, 3) := by decide +kernel
theorem dX10_next_129 : decode cX10_next 129 = .ok (.iconst 3, 1) := by decide +kernel
theorem dX10_next_130 : decode cX10_next 130 = .ok (.goto 4, 3) := by decide +kernel
theorem dX10_next_133 : decode cX10_next 133 = .ok (.iconst 4, 1) := by decide +kernel
theorem dX10_next_134 : decode cX10_next 134 = .ok (.putfield 18, 3) := by decide +kernel
theorem dX10_next_137 : decode cX10_next 137 = .ok (.aload_n 0, 1) := by decide +kernel
theorem dX10_next_138 : decode cX10_next 138 = .ok (.aload_n 0, 1) := by decide +kernel
theorem dX10_next_139 : decode cX10_next 139 = .ok (.getfield 22, 3) := by decide +kernel
theorem dX10_next_142 : decode cX10_next 142 = .ok (.iconst 1, 1) := by decide +kernel
theorem dX10_next_143 : decode cX10_next 143 = .ok (.iadd, 1) := by decide +kernel
theorem dX10_next_144 : decode cX10_next 144 = .ok (.putfield 25, 3) := by decide +kernel
theorem dX10_next_147 : decode cX10_next 147 = .ok (.return_, 1) := by decide +kernel
theorem dX10_readWord_0 : decode cX10_readWord 0 = .ok (.aload_n 0, 1) := by decide +kernel
theorem dX10_readWord_1 : decode cX10_readWord 1 = .ok (.iconst 1, 1) := by decide +kernel
theorem dX10_readWord_2 : decode cX10_readWord 2 = .ok (.putfield 18, 3) := by decide +kernel
theorem dX10_readWord_5 : decode cX10_readWord 5 = .ok (.aload_n 0, 1) := by decide +kernel
theorem dX10_readWord_6 : decode cX10_readWord 6 = .ok (.getfield 25, 3) := by decide +kernel
theorem dX10_readWord_9 : decode cX10_readWord 9 = .ok (.aload_n 0, 1) := by decide +kernel
theorem dX10_readWord_10 : decode cX10_readWord 10 = .ok (.getfield 12, 3) := by decide +kernel
theorem dX10_readWord_13 : decode cX10_readWord 13 = .ok (.getfield 38, 3) := by decide +kernel
theorem dX10_readWord_16 : decode cX10_readWord 16 = .ok (.if_icmp .ge 75, 3) := by decide +kernel
theorem dX10_readWord_19 : decode cX10_readWord 19 = .ok (.aload_n 0, 1) := by decide +kernel
theorem dX10_readWord_20 : decode cX10_readWord 20 = .ok (.getfield 12, 3) := by decide +kernel
theorem dX10_readWord_23 : decode cX10_readWord 23 = .ok (.aload_n 0, 1) := by decide +kernel
theorem dX10_readWord_24 : decode cX10_readWord 24 = .ok (.getfield 25, 3) := by decide +kernel
theorem dX10_readWord_27 : decode cX10_readWord 27 = .ok (.invokevirtual 41, 3) := by decide +kernel
theorem dX10_readWord_30 : decode cX10_readWord 30 = .ok (.invokestatic 45, 3) := by decide +kernel
theorem dX10_readWord_33 : decode cX10_readWord 33 = .ok (.ifCond .eq 58, 3) := by decide +kernel
theorem dX10_readWord_36 : decode cX10_readWord 36 = .ok (.aload_n 0, 1) := by decide +kernel
theorem dX10_readWord_37 : decode cX10_readWord 37 = .ok (.aload_n 0, 1) := by decide +kernel
theorem dX10_readWord_38 : decode cX10_readWord 38 = .ok (.getfield 25, 3) := by decide +kernel
theorem dX10_readWord_41 : decode cX10_readWord 41 = .ok (.aload_n 0, 1) := by decide +kernel
theorem dX10_readWord_42 : decode cX10_readWord 42 = .ok (.getfield 22, 3) := by decide +kernel
theorem dX10_readWord_45 : decode cX10_readWord 45 = .ok (.isub, 1) := by decide +kernel
theorem dX10_readWord_46 : decode cX10_readWord 46 = .ok (.bipush 6, 2) := by decide +kernel
theorem dX10_readWord_48 : decode cX10_readWord 48 = .ok (.if_icmp .ge 26, 3) := by decide +kernel
theorem dX10_readWord_51 : decode cX10_readWord 51 = .ok (.aload_n 0, 1) := by decide +kernel
theorem dX10_readWord_52 : decode cX10_readWord 52 = .ok (.getfield 31, 3) := by decide +kernel
theorem dX10_readWord_55 : decode cX10_readWord 55 = .ok (.bipush 8, 2) := by decide +kernel
theorem dX10_readWord_57 : decode cX10_readWord 57 = .ok (.lshl, 1) := by decide +kernel
theorem dX10_readWord_58 : decode cX10_readWord 58 = .ok (.aload_n 0, 1) := by decide +kernel
theorem dX10_readWord_59 : decode cX10_readWord 59 = .ok (.getfield 12, 3) := by decide +kernel
theorem dX10_readWord_62 : decode cX10_readWord 62 = .ok (.aload_n 0, 1) := by decide +kernel
theorem dX10_readWord_63 : decode cX10_readWord 63 = .ok (.getfield 25, 3) := by decide +kernel
theorem dX10_readWord_66 : decode cX10_readWord 66 = .ok (.invokevirtual 41, 3) := by decide +kernel
theorem dX10_readWord_69 : decode cX10_readWord 69 = .ok (.i2l, 1) := by decide +kernel
theorem dX10_readWord_70 : decode cX10_readWord 70 = .ok (.lor, 1) := by decide +kernel
theorem dX10_readWord_71 : decode cX10_readWord 71 = .ok (.goto 4, 3) := by decide +kernel
theorem dX10_readWord_74 : decode cX10_readWord 74 = .ok (.lconst 0, 1) := by decide +kernel
theorem dX10_readWord_75 : decode cX10_readWord 75 = .ok (.putfield 31, 3) := by decide +kernel
theorem dX10_readWord_78 : decode cX10_readWord 78 = .ok (.aload_n 0, 1) := by decide +kernel
theorem dX10_readWord_79 : decode cX10_readWord 79 = .ok (.dup, 1) := by decide +kernel
theorem dX10_readWord_80 : decode cX10_readWord 80 = .ok (.getfield 25, 3) := by decide +kernel
theorem dX10_readWord_83 : decode cX10_readWord 83 = .ok (.iconst 1, 1) := by decide +kernel
theorem dX10_readWord_84 : decode cX10_readWord 84 = .ok (.iadd, 1) := by decide +kernel
theorem dX10_readWord_85 : decode cX10_readWord 85 = .ok (.putfield 25, 3) := by decide +kernel
theorem dX10_readWord_88 : decode cX10_readWord 88 = .ok (.goto (-83), 3) := by decide +kernel
theorem dX10_readWord_91 : decode cX10_readWord 91 = .ok (.return_, 1) := by decide +kernel
theorem dX10_readNumber_0 : decode cX10_readNumber 0 = .ok (.aload_n 0, 1) := by decide +kernel
theorem dX10_readNumber_1 : decode cX10_readNumber 1 = .ok (.iconst 2, 1) := by decide +kernel
theorem dX10_readNumber_2 : decode cX10_readNumber 2 = .ok (.putfield 18, 3) := by decide +kernel
theorem dX10_readNumber_5 : decode cX10_readNumber 5 = .ok (.aload_n 0, 1) := by decide +kernel
theorem dX10_readNumber_6 : decode cX10_readNumber 6 = .ok (.getfield 25, 3) := by decide +kernel
theorem dX10_readNumber_9 : decode cX10_readNumber 9 = .ok (.aload_n 0, 1) := by decide +kernel
theorem dX10_readNumber_10 : decode cX10_readNumber 10 = .ok (.getfield 12, 3) := by decide +kernel
theorem dX10_readNumber_13 : decode cX10_readNumber 13 = .ok (.getfield 38, 3) := by decide +kernel
theorem dX10_readNumber_16 : decode cX10_readNumber 16 = .ok (.if_icmp .ge 69, 3) := by decide +kernel
theorem dX10_readNumber_19 : decode cX10_readNumber 19 = .ok (.aload_n 0, 1) := by decide +kernel
theorem dX10_readNumber_20 : decode cX10_readNumber 20 = .ok (.getfield 12, 3) := by decide +kernel
theorem dX10_readNumber_23 : decode cX10_readNumber 23 = .ok (.aload_n 0, 1) := by decide +kernel
theorem dX10_readNumber_24 : decode cX10_readNumber 24 = .ok (.getfield 25, 3) := by decide +kernel
theorem dX10_readNumber_27 : decode cX10_readNumber 27 = .ok (.invokevirtual 41, 3) := by decide +kernel
theorem dX10_readNumber_30 : decode cX10_readNumber 30 = .ok (.invokestatic 52, 3) := by decide +kernel
theorem dX10_readNumber_33 : decode cX10_readNumber 33 = .ok (.ifCond .eq 52, 3) := by decide +kernel
theorem dX10_readNumber_36 : decode cX10_readNumber 36 = .ok (.aload_n 0, 1) := by decide +kernel
theorem dX10_readNumber_37 : decode cX10_readNumber 37 = .ok (.getfield 28, 3) := by decide +kernel
theorem dX10_readNumber_40 : decode cX10_readNumber 40 = .ok (.sipush 10000, 3) := by decide +kernel
theorem dX10_readNumber_43 : decode cX10_readNumber 43 = .ok (.if_icmp .ge 29, 3) := by decide +kernel
theorem dX10_readNumber_46 : decode cX10_readNumber 46 = .ok (.aload_n 0, 1) := by decide +kernel
theorem dX10_readNumber_47 : decode cX10_readNumber 47 = .ok (.bipush 10, 2) := by decide +kernel
theorem dX10_readNumber_49 : decode cX10_readNumber 49 = .ok (.aload_n 0, 1) := by decide +kernel
theorem dX10_readNumber_50 : decode cX10_readNumber 50 = .ok (.getfield 28, 3) := by decide +kernel
theorem dX10_readNumber_53 : decode cX10_readNumber 53 = .ok (.imul, 1) := by decide +kernel
theorem dX10_readNumber_54 : decode cX10_readNumber 54 = .ok (.aload_n 0, 1) := by decide +kernel
theorem dX10_readNumber_55 : decode cX10_readNumber 55 = .ok (.getfield 12, 3) := by decide +kernel
theorem dX10_readNumber_58 : decode cX10_readNumber 58 = .ok (.aload_n 0, 1) := by decide +kernel
theorem dX10_readNumber_59 : decode cX10_readNumber 59 = .ok (.getfield 25, 3) := by decide +kernel
theorem dX10_readNumber_62 : decode cX10_readNumber 62 = .ok (.invokevirtual 41, 3) := by decide +kernel
theorem dX10_readNumber_65 : decode cX10_readNumber 65 = .ok (.iadd, 1) := by decide +kernel
theorem dX10_readNumber_66 : decode cX10_readNumber 66 = .ok (.bipush 48, 2) := by decide +kernel
theorem dX10_readNumber_68 : decode cX10_readNumber 68 = .ok (.isub, 1) := by decide +kernel
theorem dX10_readNumber_69 : decode cX10_readNumber 69 = .ok (.putfield 28, 3) := by decide +kernel
theorem dX10_readNumber_72 : decode cX10_readNumber 72 = .ok (.aload_n 0, 1) := by decide +kernel
theorem dX10_readNumber_73 : decode cX10_readNumber 73 = .ok (.dup, 1) := by decide +kernel
theorem dX10_readNumber_74 : decode cX10_readNumber 74 = .ok (.getfield 25, 3) := by decide +kernel
theorem dX10_readNumber_77 : decode cX10_readNumber 77 = .ok (.iconst 1, 1) := by decide +kernel
theorem dX10_readNumber_78 : decode cX10_readNumber 78 = .ok (.iadd, 1) := by decide +kernel
theorem dX10_readNumber_79 : decode cX10_readNumber 79 = .ok (.putfield 25, 3) := by decide +kernel
theorem dX10_readNumber_82 : decode cX10_readNumber 82 = .ok (.goto (-77), 3) := by decide +kernel
theorem dX10_readNumber_85 : decode cX10_readNumber 85 = .ok (.return_, 1) := by decide +kernel
theorem dX10_isWord_0 : decode cX10_isWord 0 = .ok (.aload_n 0, 1) := by decide +kernel
theorem dX10_isWord_1 : decode cX10_isWord 1 = .ok (.getfield 18, 3) := by decide +kernel
theorem dX10_isWord_4 : decode cX10_isWord 4 = .ok (.iconst 1, 1) := by decide +kernel
theorem dX10_isWord_5 : decode cX10_isWord 5 = .ok (.if_icmp .ne 19, 3) := by decide +kernel
theorem dX10_isWord_8 : decode cX10_isWord 8 = .ok (.aload_n 0, 1) := by decide +kernel
theorem dX10_isWord_9 : decode cX10_isWord 9 = .ok (.getfield 25, 3) := by decide +kernel
theorem dX10_isWord_12 : decode cX10_isWord 12 = .ok (.aload_n 0, 1) := by decide +kernel
theorem dX10_isWord_13 : decode cX10_isWord 13 = .ok (.getfield 22, 3) := by decide +kernel
theorem dX10_isWord_16 : decode cX10_isWord 16 = .ok (.isub, 1) := by decide +kernel
theorem dX10_isWord_17 : decode cX10_isWord 17 = .ok (.aload_n 1, 1) := by decide +kernel
theorem dX10_isWord_18 : decode cX10_isWord 18 = .ok (.invokevirtual 58, 3) := by decide +kernel
theorem dX10_isWord_21 : decode cX10_isWord 21 = .ok (.if_icmp .eq 5, 3) := by decide +kernel
theorem dX10_isWord_24 : decode cX10_isWord 24 = .ok (.iconst 0, 1) := by decide +kernel
theorem dX10_isWord_25 : decode cX10_isWord 25 = .ok (.ireturn, 1) := by decide +kernel
theorem dX10_isWord_26 : decode cX10_isWord 26 = .ok (.iconst 0, 1) := by decide +kernel
theorem dX10_isWord_27 : decode cX10_isWord 27 = .ok (.istore_n 2, 1) := by decide +kernel
theorem dX10_isWord_28 : decode cX10_isWord 28 = .ok (.iload_n 2, 1) := by decide +kernel
theorem dX10_isWord_29 : decode cX10_isWord 29 = .ok (.aload_n 1, 1) := by decide +kernel
theorem dX10_isWord_30 : decode cX10_isWord 30 = .ok (.invokevirtual 58, 3) := by decide +kernel
theorem dX10_isWord_33 : decode cX10_isWord 33 = .ok (.if_icmp .ge 32, 3) := by decide +kernel
theorem dX10_isWord_36 : decode cX10_isWord 36 = .ok (.aload_n 0, 1) := by decide +kernel
theorem dX10_isWord_37 : decode cX10_isWord 37 = .ok (.getfield 12, 3) := by decide +kernel
theorem dX10_isWord_40 : decode cX10_isWord 40 = .ok (.aload_n 0, 1) := by decide +kernel
theorem dX10_isWord_41 : decode cX10_isWord 41 = .ok (.getfield 22, 3) := by decide +kernel
theorem dX10_isWord_44 : decode cX10_isWord 44 = .ok (.iload_n 2, 1) := by decide +kernel
theorem dX10_isWord_45 : decode cX10_isWord 45 = .ok (.iadd, 1) := by decide +kernel
theorem dX10_isWord_46 : decode cX10_isWord 46 = .ok (.invokevirtual 41, 3) := by decide +kernel
theorem dX10_isWord_49 : decode cX10_isWord 49 = .ok (.aload_n 1, 1) := by decide +kernel
theorem dX10_isWord_50 : decode cX10_isWord 50 = .ok (.iload_n 2, 1) := by decide +kernel
theorem dX10_isWord_51 : decode cX10_isWord 51 = .ok (.invokevirtual 63, 3) := by decide +kernel
theorem dX10_isWord_54 : decode cX10_isWord 54 = .ok (.if_icmp .eq 5, 3) := by decide +kernel
theorem dX10_isWord_57 : decode cX10_isWord 57 = .ok (.iconst 0, 1) := by decide +kernel
theorem dX10_isWord_58 : decode cX10_isWord 58 = .ok (.ireturn, 1) := by decide +kernel
theorem dX10_isWord_59 : decode cX10_isWord 59 = .ok (.iinc 2 1, 3) := by decide +kernel
theorem dX10_isWord_62 : decode cX10_isWord 62 = .ok (.goto (-34), 3) := by decide +kernel
theorem dX10_isWord_65 : decode cX10_isWord 65 = .ok (.iconst 1, 1) := by decide +kernel
theorem dX10_isWord_66 : decode cX10_isWord 66 = .ok (.ireturn, 1) := by decide +kernel
theorem dX10_isLetter_0 : decode cX10_isLetter 0 = .ok (.iload_n 0, 1) := by decide +kernel
theorem dX10_isLetter_1 : decode cX10_isLetter 1 = .ok (.bipush 97, 2) := by decide +kernel
theorem dX10_isLetter_3 : decode cX10_isLetter 3 = .ok (.if_icmp .lt 13, 3) := by decide +kernel
theorem dX10_isLetter_6 : decode cX10_isLetter 6 = .ok (.iload_n 0, 1) := by decide +kernel
theorem dX10_isLetter_7 : decode cX10_isLetter 7 = .ok (.bipush 122, 2) := by decide +kernel
theorem dX10_isLetter_9 : decode cX10_isLetter 9 = .ok (.if_icmp .gt 7, 3) := by decide +kernel
theorem dX10_isLetter_12 : decode cX10_isLetter 12 = .ok (.iconst 1, 1) := by decide +kernel
theorem dX10_isLetter_13 : decode cX10_isLetter 13 = .ok (.goto 4, 3) := by decide +kernel
theorem dX10_isLetter_16 : decode cX10_isLetter 16 = .ok (.iconst 0, 1) := by decide +kernel
theorem dX10_isLetter_17 : decode cX10_isLetter 17 = .ok (.ireturn, 1) := by decide +kernel
theorem dX10_isDigit_0 : decode cX10_isDigit 0 = .ok (.iload_n 0, 1) := by decide +kernel
theorem dX10_isDigit_1 : decode cX10_isDigit 1 = .ok (.bipush 48, 2) := by decide +kernel
theorem dX10_isDigit_3 : decode cX10_isDigit 3 = .ok (.if_icmp .lt 13, 3) := by decide +kernel
theorem dX10_isDigit_6 : decode cX10_isDigit 6 = .ok (.iload_n 0, 1) := by decide +kernel
theorem dX10_isDigit_7 : decode cX10_isDigit 7 = .ok (.bipush 57, 2) := by decide +kernel
theorem dX10_isDigit_9 : decode cX10_isDigit 9 = .ok (.if_icmp .gt 7, 3) := by decide +kernel
theorem dX10_isDigit_12 : decode cX10_isDigit 12 = .ok (.iconst 1, 1) := by decide +kernel
theorem dX10_isDigit_13 : decode cX10_isDigit 13 = .ok (.goto 4, 3) := by decide +kernel
theorem dX10_isDigit_16 : decode cX10_isDigit 16 = .ok (.iconst 0, 1) := by decide +kernel
theorem dX10_isDigit_17 : decode cX10_isDigit 17 = .ok (.ireturn, 1) := by decide +kernel
theorem dX12_init_0 : decode cX12_init 0 = .ok (.aload_n 0, 1) := by decide +kernel
theorem dX12_init_1 : decode cX12_init 1 = .ok (.invokespecial 3, 3) := by decide +kernel
theorem dX12_init_4 : decode cX12_init 4 = .ok (.aload_n 0, 1) := by decide +kernel
theorem dX12_init_5 : decode cX12_init 5 = .ok (.new 9, 3) := by decide +kernel
theorem dX12_init_8 : decode cX12_init 8 = .ok (.dup, 1) := by decide +kernel
theorem dX12_init_9 : decode cX12_init 9 = .ok (.invokespecial 11, 3) := by decide +kernel
theorem dX12_init_12 : decode cX12_init 12 = .ok (.putfield 12, 3) := by decide +kernel
theorem dX12_init_15 : decode cX12_init 15 = .ok (.aload_n 0, 1) := by decide +kernel
theorem dX12_init_16 : decode cX12_init 16 = .ok (.new 16, 3) := by decide +kernel
theorem dX12_init_19 : decode cX12_init 19 = .ok (.dup, 1) := by decide +kernel
theorem dX12_init_20 : decode cX12_init 20 = .ok (.invokespecial 18, 3) := by decide +kernel
theorem dX12_init_23 : decode cX12_init 23 = .ok (.putfield 19, 3) := by decide +kernel
theorem dX12_init_26 : decode cX12_init 26 = .ok (.aload_n 0, 1) := by decide +kernel
theorem dX12_init_27 : decode cX12_init 27 = .ok (.new 23, 3) := by decide +kernel
theorem dX12_init_30 : decode cX12_init 30 = .ok (.dup, 1) := by decide +kernel
theorem dX12_init_31 : decode cX12_init 31 = .ok (.invokespecial 25, 3) := by decide +kernel
theorem dX12_init_34 : decode cX12_init 34 = .ok (.putfield 26, 3) := by decide +kernel
theorem dX12_init_37 : decode cX12_init 37 = .ok (.aload_n 0, 1) := by decide +kernel
theorem dX12_init_38 : decode cX12_init 38 = .ok (.new 23, 3) := by decide +kernel
theorem dX12_init_41 : decode cX12_init 41 = .ok (.dup, 1) := by decide +kernel
theorem dX12_init_42 : decode cX12_init 42 = .ok (.invokespecial 25, 3) := by decide +kernel
theorem dX12_init_45 : decode cX12_init 45 = .ok (.putfield 30, 3) := by decide +kernel
theorem dX12_init_48 : decode cX12_init 48 = .ok (.aload_n 0, 1) := by decide +kernel
theorem dX12_init_49 : decode cX12_init 49 = .ok (.iconst 0, 1) := by decide +kernel
theorem dX12_init_50 : decode cX12_init 50 = .ok (.putfield 33, 3) := by decide +kernel
theorem dX12_init_53 : decode cX12_init 53 = .ok (.aload_n 0, 1) := by decide +kernel
theorem dX12_init_54 : decode cX12_init 54 = .ok (.new 37, 3) := by decide +kernel
theorem dX12_init_57 : decode cX12_init 57 = .ok (.dup, 1) := by decide +kernel
theorem dX12_init_58 : decode cX12_init 58 = .ok (.invokespecial 39, 3) := by decide +kernel
theorem dX12_init_61 : decode cX12_init 61 = .ok (.putfield 40, 3) := by decide +kernel
theorem dX12_init_64 : decode cX12_init 64 = .ok (.aload_n 0, 1) := by decide +kernel
theorem dX12_init_65 : decode cX12_init 65 = .ok (.new 44, 3) := by decide +kernel
theorem dX12_init_68 : decode cX12_init 68 = .ok (.dup, 1) := by decide +kernel
theorem dX12_init_69 : decode cX12_init 69 = .ok (.invokespecial 46, 3) := by decide +kernel
theorem dX12_init_72 : decode cX12_init 72 = .ok (.putfield 47, 3) := by decide +kernel
theorem dX12_init_75 : decode cX12_init 75 = .ok (.aload_n 0, 1) := by decide +kernel
theorem dX12_init_76 : decode cX12_init 76 = .ok (.new 51, 3) := by decide +kernel
theorem dX12_init_79 : decode cX12_init 79 = .ok (.dup, 1) := by decide +kernel
theorem dX12_init_80 : decode cX12_init 80 = .ok (.invokespecial 53, 3) := by decide +kernel
theorem dX12_init_83 : decode cX12_init 83 = .ok (.putfield 54, 3) := by decide +kernel
theorem dX12_init_86 : decode cX12_init 86 = .ok (.new 58, 3) := by decide +kernel
theorem dX12_init_89 : decode cX12_init 89 = .ok (.dup, 1) := by decide +kernel
theorem dX12_init_90 : decode cX12_init 90 = .ok (.invokespecial 60, 3) := by decide +kernel
theorem dX12_init_93 : decode cX12_init 93 = .ok (.astore_n 1, 1) := by decide +kernel
theorem dX12_init_94 : decode cX12_init 94 = .ok (.new 23, 3) := by decide +kernel
theorem dX12_init_97 : decode cX12_init 97 = .ok (.dup, 1) := by decide +kernel
theorem dX12_init_98 : decode cX12_init 98 = .ok (.invokespecial 25, 3) := by decide +kernel
theorem dX12_init_101 : decode cX12_init 101 = .ok (.astore_n 2, 1) := by decide +kernel
theorem dX12_init_102 : decode cX12_init 102 = .ok (.iconst 0, 1) := by decide +kernel
theorem dX12_init_103 : decode cX12_init 103 = .ok (.istore_n 3, 1) := by decide +kernel
theorem dX12_init_104 : decode cX12_init 104 = .ok (.iload_n 3, 1) := by decide +kernel
theorem dX12_init_105 : decode cX12_init 105 = .ok (.ldc 61, 2) := by decide +kernel
theorem dX12_init_107 : decode cX12_init 107 = .ok (.invokevirtual 63, 3) := by decide +kernel
theorem dX12_init_110 : decode cX12_init 110 = .ok (.if_icmp .ge 25, 3) := by decide +kernel
theorem dX12_init_113 : decode cX12_init 113 = .ok (.aload_n 1, 1) := by decide +kernel
theorem dX12_init_114 : decode cX12_init 114 = .ok (.getfield 69, 3) := by decide +kernel
theorem dX12_init_117 : decode cX12_init 117 = .ok (.getfield 73, 3) := by decide +kernel
theorem dX12_init_120 : decode cX12_init 120 = .ok (.ldc 61, 2) := by decide +kernel
theorem dX12_init_122 : decode cX12_init 122 = .ok (.iload_n 3, 1) := by decide +kernel
theorem dX12_init_123 : decode cX12_init 123 = .ok (.invokevirtual 78, 3) := by decide +kernel
theorem dX12_init_126 : decode cX12_init 126 = .ok (.invokevirtual 82, 3) := by decide +kernel
theorem dX12_init_129 : decode cX12_init 129 = .ok (.iinc 3 1, 3) := by decide +kernel
theorem dX12_init_132 : decode cX12_init 132 = .ok (.goto (-28), 3) := by decide +kernel
theorem dX12_init_135 : decode cX12_init 135 = .ok (.aload_n 1, 1) := by decide +kernel
theorem dX12_init_136 : decode cX12_init 136 = .ok (.aload_n 2, 1) := by decide +kernel
theorem dX12_init_137 : decode cX12_init 137 = .ok (.invokestatic 86, 3) := by decide +kernel
theorem dX12_init_140 : decode cX12_init 140 = .ok (.pop, 1) := by decide +kernel
theorem dX12_init_141 : decode cX12_init 141 = .ok (.aload_n 1, 1) := by decide +kernel
theorem dX12_init_142 : decode cX12_init 142 = .ok (.getfield 69, 3) := by decide +kernel
theorem dX12_init_145 : decode cX12_init 145 = .ok (.getfield 73, 3) := by decide +kernel
theorem dX12_init_148 : decode cX12_init 148 = .ok (.iconst 0, 1) := by decide +kernel
theorem dX12_init_149 : decode cX12_init 149 = .ok (.invokevirtual 92, 3) := by decide +kernel
theorem dX12_init_152 : decode cX12_init 152 = .ok (.aload_n 0, 1) := by decide +kernel
theorem dX12_init_153 : decode cX12_init 153 = .ok (.aload_n 1, 1) := by decide +kernel
theorem dX12_init_154 : decode cX12_init 154 = .ok (.putfield 95, 3) := by decide +kernel
theorem dX12_init_157 : decode cX12_init 157 = .ok (.aload_n 0, 1) := by decide +kernel
theorem dX12_init_158 : decode cX12_init 158 = .ok (.aload_n 2, 1) := by decide +kernel
theorem dX12_init_159 : decode cX12_init 159 = .ok (.putfield 99, 3) := by decide +kernel
theorem dX12_init_162 : decode cX12_init 162 = .ok (.return_, 1) := by decide +kernel
theorem dX12_appendInput_0 : decode cX12_appendInput 0 = .ok (.aload_n 0, 1) := by decide +kernel
theorem dX12_appendInput_1 : decode cX12_appendInput 1 = .ok (.getfield 95, 3) := by decide +kernel
theorem dX12_appendInput_4 : decode cX12_appendInput 4 = .ok (.getfield 69, 3) := by decide +kernel
theorem dX12_appendInput_7 : decode cX12_appendInput 7 = .ok (.getfield 73, 3) := by decide +kernel
theorem dX12_appendInput_10 : decode cX12_appendInput 10 = .ok (.astore 6, 2) := by decide +kernel
theorem dX12_appendInput_12 : decode cX12_appendInput 12 = .ok (.aload 6, 2) := by decide +kernel
theorem dX12_appendInput_14 : decode cX12_appendInput 14 = .ok (.getfield 102, 3) := by decide +kernel
theorem dX12_appendInput_17 : decode cX12_appendInput 17 = .ok (.sipush 680, 3) := by decide +kernel
theorem dX12_appendInput_20 : decode cX12_appendInput 20 = .ok (.if_icmp .le 13, 3) := by decide +kernel
theorem dX12_appendInput_23 : decode cX12_appendInput 23 = .ok (.new 105, 3) := by decide +kernel
theorem dX12_appendInput_26 : decode cX12_appendInput 26 = .ok (.dup, 1) := by decide +kernel
theorem dX12_appendInput_27 : decode cX12_appendInput 27 = .ok (.ldc 107, 2) := by decide +kernel
theorem dX12_appendInput_29 : decode cX12_appendInput 29 = .ok (.invokespecial 109, 3) := by decide +kernel
theorem dX12_appendInput_32 : decode cX12_appendInput 32 = .ok (.athrow, 1) := by decide +kernel
theorem dX12_appendInput_33 : decode cX12_appendInput 33 = .ok (.aload 6, 2) := by decide +kernel
theorem dX12_appendInput_35 : decode cX12_appendInput 35 = .ok (.iload_n 1, 1) := by decide +kernel
theorem dX12_appendInput_36 : decode cX12_appendInput 36 = .ok (.invokevirtual 112, 3) := by decide +kernel
theorem dX12_appendInput_39 : decode cX12_appendInput 39 = .ok (.aload 6, 2) := by decide +kernel
theorem dX12_appendInput_41 : decode cX12_appendInput 41 = .ok (.iload_n 2, 1) := by decide +kernel
theorem dX12_appendInput_42 : decode cX12_appendInput 42 = .ok (.invokevirtual 112, 3) := by decide +kernel
theorem dX12_appendInput_45 : decode cX12_appendInput 45 = .ok (.aload 6, 2) := by decide +kernel
theorem dX12_appendInput_47 : decode cX12_appendInput 47 = .ok (.iload_n 3, 1) := by decide +kernel
theorem dX12_appendInput_48 : decode cX12_appendInput 48 = .ok (.invokevirtual 112, 3) := by decide +kernel
theorem dX12_appendInput_51 : decode cX12_appendInput 51 = .ok (.aload 6, 2) := by decide +kernel
theorem dX12_appendInput_53 : decode cX12_appendInput 53 = .ok (.iload 4, 2) := by decide +kernel
theorem dX12_appendInput_55 : decode cX12_appendInput 55 = .ok (.invokevirtual 112, 3) := by decide +kernel
theorem dX12_appendInput_58 : decode cX12_appendInput 58 = .ok (.aload 6, 2) := by decide +kernel
theorem dX12_appendInput_60 : decode cX12_appendInput 60 = .ok (.iload 5, 2) := by decide +kernel
theorem dX12_appendInput_62 : decode cX12_appendInput 62 = .ok (.invokevirtual 112, 3) := by decide +kernel
theorem dX12_appendInput_65 : decode cX12_appendInput 65 = .ok (.aload 6, 2) := by decide +kernel
theorem dX12_appendInput_67 : decode cX12_appendInput 67 = .ok (.getfield 102, 3) := by decide +kernel
theorem dX12_appendInput_70 : decode cX12_appendInput 70 = .ok (.ireturn, 1) := by decide +kernel
theorem dX12_loadSetup_0 : decode cX12_loadSetup 0 = .ok (.aload_n 0, 1) := by decide +kernel
theorem dX12_loadSetup_1 : decode cX12_loadSetup 1 = .ok (.getfield 95, 3) := by decide +kernel
theorem dX12_loadSetup_4 : decode cX12_loadSetup 4 = .ok (.aload_n 0, 1) := by decide +kernel
theorem dX12_loadSetup_5 : decode cX12_loadSetup 5 = .ok (.getfield 26, 3) := by decide +kernel
theorem dX12_loadSetup_8 : decode cX12_loadSetup 8 = .ok (.invokestatic 86, 3) := by decide +kernel
theorem dX12_loadSetup_11 : decode cX12_loadSetup 11 = .ok (.istore_n 1, 1) := by decide +kernel
theorem dX12_loadSetup_12 : decode cX12_loadSetup 12 = .ok (.aload_n 0, 1) := by decide +kernel
theorem dX12_loadSetup_13 : decode cX12_loadSetup 13 = .ok (.getfield 95, 3) := by decide +kernel
theorem dX12_loadSetup_16 : decode cX12_loadSetup 16 = .ok (.getfield 69, 3) := by decide +kernel
theorem dX12_loadSetup_19 : decode cX12_loadSetup 19 = .ok (.getfield 73, 3) := by decide +kernel
theorem dX12_loadSetup_22 : decode cX12_loadSetup 22 = .ok (.iconst 0, 1) := by decide +kernel
theorem dX12_loadSetup_23 : decode cX12_loadSetup 23 = .ok (.invokevirtual 92, 3) := by decide +kernel
theorem dX12_loadSetup_26 : decode cX12_loadSetup 26 = .ok (.iload_n 1, 1) := by decide +kernel
theorem dX12_loadSetup_27 : decode cX12_loadSetup 27 = .ok (.ifCond .ne 5, 3) := by decide +kernel
theorem dX12_loadSetup_30 : decode cX12_loadSetup 30 = .ok (.iconst (-1), 1) := by decide +kernel
theorem dX12_loadSetup_31 : decode cX12_loadSetup 31 = .ok (.ireturn, 1) := by decide +kernel
theorem dX12_loadSetup_32 : decode cX12_loadSetup 32 = .ok (.aload_n 0, 1) := by decide +kernel
theorem dX12_loadSetup_33 : decode cX12_loadSetup 33 = .ok (.getfield 26, 3) := by decide +kernel
theorem dX12_loadSetup_36 : decode cX12_loadSetup 36 = .ok (.aload_n 0, 1) := by decide +kernel
theorem dX12_loadSetup_37 : decode cX12_loadSetup 37 = .ok (.getfield 99, 3) := by decide +kernel
theorem dX12_loadSetup_40 : decode cX12_loadSetup 40 = .ok (.invokestatic 120, 3) := by decide +kernel
theorem dX12_loadSetup_43 : decode cX12_loadSetup 43 = .ok (.aload_n 0, 1) := by decide +kernel
theorem dX12_loadSetup_44 : decode cX12_loadSetup 44 = .ok (.getfield 40, 3) := by decide +kernel
theorem dX12_loadSetup_47 : decode cX12_loadSetup 47 = .ok (.invokevirtual 124, 3) := by decide +kernel
theorem dX12_loadSetup_50 : decode cX12_loadSetup 50 = .ok (.aload_n 0, 1) := by decide +kernel
theorem dX12_loadSetup_51 : decode cX12_loadSetup 51 = .ok (.getfield 99, 3) := by decide +kernel
theorem dX12_loadSetup_54 : decode cX12_loadSetup 54 = .ok (.getfield 127, 3) := by decide +kernel
theorem dX12_loadSetup_57 : decode cX12_loadSetup 57 = .ok (.ireturn, 1) := by decide +kernel
theorem dX12_sellerCount_0 : decode cX12_sellerCount 0 = .ok (.aload_n 0, 1) := by decide +kernel
theorem dX12_sellerCount_1 : decode cX12_sellerCount 1 = .ok (.getfield 99, 3) := by decide +kernel
theorem dX12_sellerCount_4 : decode cX12_sellerCount 4 = .ok (.getfield 127, 3) := by decide +kernel
theorem dX12_sellerCount_7 : decode cX12_sellerCount 7 = .ok (.ireturn, 1) := by decide +kernel
theorem dX12_stallCount_0 : decode cX12_stallCount 0 = .ok (.aload_n 0, 1) := by decide +kernel
theorem dX12_stallCount_1 : decode cX12_stallCount 1 = .ok (.getfield 99, 3) := by decide +kernel
theorem dX12_stallCount_4 : decode cX12_stallCount 4 = .ok (.getfield 145, 3) := by decide +kernel
theorem dX12_stallCount_7 : decode cX12_stallCount 7 = .ok (.ireturn, 1) := by decide +kernel
theorem dX12_day_0 : decode cX12_day 0 = .ok (.aload_n 0, 1) := by decide +kernel
theorem dX12_day_1 : decode cX12_day 1 = .ok (.getfield 99, 3) := by decide +kernel
theorem dX12_day_4 : decode cX12_day 4 = .ok (.getfield 148, 3) := by decide +kernel
theorem dX12_day_7 : decode cX12_day 7 = .ok (.ireturn, 1) := by decide +kernel
theorem dX12_balance_0 : decode cX12_balance 0 = .ok (.aload_n 0, 1) := by decide +kernel
theorem dX12_balance_1 : decode cX12_balance 1 = .ok (.iload_n 1, 1) := by decide +kernel
theorem dX12_balance_2 : decode cX12_balance 2 = .ok (.invokevirtual 151, 3) := by decide +kernel
theorem dX12_balance_5 : decode cX12_balance 5 = .ok (.aload_n 0, 1) := by decide +kernel
theorem dX12_balance_6 : decode cX12_balance 6 = .ok (.getfield 99, 3) := by decide +kernel
theorem dX12_balance_9 : decode cX12_balance 9 = .ok (.iload_n 1, 1) := by decide +kernel
theorem dX12_balance_10 : decode cX12_balance 10 = .ok (.invokevirtual 154, 3) := by decide +kernel
theorem dX12_balance_13 : decode cX12_balance 13 = .ok (.ireturn, 1) := by decide +kernel
theorem dX12_rent_0 : decode cX12_rent 0 = .ok (.aload_n 0, 1) := by decide +kernel
theorem dX12_rent_1 : decode cX12_rent 1 = .ok (.iload_n 1, 1) := by decide +kernel
theorem dX12_rent_2 : decode cX12_rent 2 = .ok (.invokevirtual 161, 3) := by decide +kernel
theorem dX12_rent_5 : decode cX12_rent 5 = .ok (.aload_n 0, 1) := by decide +kernel
theorem dX12_rent_6 : decode cX12_rent 6 = .ok (.getfield 99, 3) := by decide +kernel
theorem dX12_rent_9 : decode cX12_rent 9 = .ok (.iload_n 1, 1) := by decide +kernel
theorem dX12_rent_10 : decode cX12_rent 10 = .ok (.invokevirtual 164, 3) := by decide +kernel
theorem dX12_rent_13 : decode cX12_rent 13 = .ok (.ireturn, 1) := by decide +kernel
theorem dX12_stallOf_0 : decode cX12_stallOf 0 = .ok (.aload_n 0, 1) := by decide +kernel
theorem dX12_stallOf_1 : decode cX12_stallOf 1 = .ok (.iload_n 1, 1) := by decide +kernel
theorem dX12_stallOf_2 : decode cX12_stallOf 2 = .ok (.invokevirtual 151, 3) := by decide +kernel
theorem dX12_stallOf_5 : decode cX12_stallOf 5 = .ok (.aload_n 0, 1) := by decide +kernel
theorem dX12_stallOf_6 : decode cX12_stallOf 6 = .ok (.getfield 99, 3) := by decide +kernel
theorem dX12_stallOf_9 : decode cX12_stallOf 9 = .ok (.iload_n 1, 1) := by decide +kernel
theorem dX12_stallOf_10 : decode cX12_stallOf 10 = .ok (.invokevirtual 167, 3) := by decide +kernel
theorem dX12_stallOf_13 : decode cX12_stallOf 13 = .ok (.ireturn, 1) := by decide +kernel
theorem dX12_occupantOf_0 : decode cX12_occupantOf 0 = .ok (.aload_n 0, 1) := by decide +kernel
theorem dX12_occupantOf_1 : decode cX12_occupantOf 1 = .ok (.iload_n 1, 1) := by decide +kernel
theorem dX12_occupantOf_2 : decode cX12_occupantOf 2 = .ok (.invokevirtual 161, 3) := by decide +kernel
theorem dX12_occupantOf_5 : decode cX12_occupantOf 5 = .ok (.aload_n 0, 1) := by decide +kernel
theorem dX12_occupantOf_6 : decode cX12_occupantOf 6 = .ok (.getfield 99, 3) := by decide +kernel
theorem dX12_occupantOf_9 : decode cX12_occupantOf 9 = .ok (.iload_n 1, 1) := by decide +kernel
theorem dX12_occupantOf_10 : decode cX12_occupantOf 10 = .ok (.invokevirtual 170, 3) := by decide +kernel
theorem dX12_occupantOf_13 : decode cX12_occupantOf 13 = .ok (.ireturn, 1) := by decide +kernel
theorem dX12_priorityOf_0 : decode cX12_priorityOf 0 = .ok (.aload_n 0, 1) := by decide +kernel
theorem dX12_priorityOf_1 : decode cX12_priorityOf 1 = .ok (.iload_n 1, 1) := by decide +kernel
theorem dX12_priorityOf_2 : decode cX12_priorityOf 2 = .ok (.invokevirtual 151, 3) := by decide +kernel
theorem dX12_priorityOf_5 : decode cX12_priorityOf 5 = .ok (.aload_n 0, 1) := by decide +kernel
theorem dX12_priorityOf_6 : decode cX12_priorityOf 6 = .ok (.getfield 99, 3) := by decide +kernel
theorem dX12_priorityOf_9 : decode cX12_priorityOf 9 = .ok (.iload_n 1, 1) := by decide +kernel
theorem dX12_priorityOf_10 : decode cX12_priorityOf 10 = .ok (.invokevirtual 173, 3) := by decide +kernel
theorem dX12_priorityOf_13 : decode cX12_priorityOf 13 = .ok (.ireturn, 1) := by decide +kernel
theorem dX12_preferenceCount_0 : decode cX12_preferenceCount 0 = .ok (.aload_n 0, 1) := by decide +kernel
theorem dX12_preferenceCount_1 : decode cX12_preferenceCount 1 = .ok (.iload_n 1, 1) := by decide +kernel
theorem dX12_preferenceCount_2 : decode cX12_preferenceCount 2 = .ok (.invokevirtual 151, 3) := by decide +kernel
theorem dX12_preferenceCount_5 : decode cX12_preferenceCount 5 = .ok (.aload_n 0, 1) := by decide +kernel
theorem dX12_preferenceCount_6 : decode cX12_preferenceCount 6 = .ok (.getfield 99, 3) := by decide +kernel
theorem dX12_preferenceCount_9 : decode cX12_preferenceCount 9 = .ok (.iload_n 1, 1) := by decide +kernel
theorem dX12_preferenceCount_10 : decode cX12_preferenceCount 10 = .ok (.invokevirtual 176, 3) := by decide +kernel
theorem dX12_preferenceCount_13 : decode cX12_preferenceCount 13 = .ok (.ireturn, 1) := by decide +kernel
theorem dX12_preferenceAt_0 : decode cX12_preferenceAt 0 = .ok (.aload_n 0, 1) := by decide +kernel
theorem dX12_preferenceAt_1 : decode cX12_preferenceAt 1 = .ok (.iload_n 1, 1) := by decide +kernel
theorem dX12_preferenceAt_2 : decode cX12_preferenceAt 2 = .ok (.invokevirtual 151, 3) := by decide +kernel
theorem dX12_preferenceAt_5 : decode cX12_preferenceAt 5 = .ok (.iload_n 2, 1) := by decide +kernel
theorem dX12_preferenceAt_6 : decode cX12_preferenceAt 6 = .ok (.ifCond .lt 15, 3) := by decide +kernel
theorem dX12_preferenceAt_9 : decode cX12_preferenceAt 9 = .ok (.iload_n 2, 1) := by decide +kernel
theorem dX12_preferenceAt_10 : decode cX12_preferenceAt 10 = .ok (.aload_n 0, 1) := by decide +kernel
theorem dX12_preferenceAt_11 : decode cX12_preferenceAt 11 = .ok (.getfield 99, 3) := by decide +kernel
theorem dX12_preferenceAt_14 : decode cX12_preferenceAt 14 = .ok (.iload_n 1, 1) := by decide +kernel
theorem dX12_preferenceAt_15 : decode cX12_preferenceAt 15 = .ok (.invokevirtual 176, 3) := by decide +kernel
theorem dX12_preferenceAt_18 : decode cX12_preferenceAt 18 = .ok (.if_icmp .lt 13, 3) := by decide +kernel
theorem dX12_preferenceAt_21 : decode cX12_preferenceAt 21 = .ok (.new 179, 3) := by decide +kernel
theorem dX12_preferenceAt_24 : decode cX12_preferenceAt 24 = .ok (.dup, 1) := by decide +kernel
theorem dX12_preferenceAt_25 : decode cX12_preferenceAt 25 = .ok (.ldc 181, 2) := by decide +kernel
theorem dX12_preferenceAt_27 : decode cX12_preferenceAt 27 = .ok (.invokespecial 183, 3) := by decide +kernel
theorem dX12_preferenceAt_30 : decode cX12_preferenceAt 30 = .ok (.athrow, 1) := by decide +kernel
theorem dX12_preferenceAt_31 : decode cX12_preferenceAt 31 = .ok (.aload_n 0, 1) := by decide +kernel
theorem dX12_preferenceAt_32 : decode cX12_preferenceAt 32 = .ok (.getfield 99, 3) := by decide +kernel
theorem dX12_preferenceAt_35 : decode cX12_preferenceAt 35 = .ok (.iload_n 1, 1) := by decide +kernel
theorem dX12_preferenceAt_36 : decode cX12_preferenceAt 36 = .ok (.iload_n 2, 1) := by decide +kernel
theorem dX12_preferenceAt_37 : decode cX12_preferenceAt 37 = .ok (.invokevirtual 184, 3) := by decide +kernel
theorem dX12_preferenceAt_40 : decode cX12_preferenceAt 40 = .ok (.ireturn, 1) := by decide +kernel
theorem dX12_isEfficient_0 : decode cX12_isEfficient 0 = .ok (.aload_n 0, 1) := by decide +kernel
theorem dX12_isEfficient_1 : decode cX12_isEfficient 1 = .ok (.getfield 99, 3) := by decide +kernel
theorem dX12_isEfficient_4 : decode cX12_isEfficient 4 = .ok (.invokestatic 246, 3) := by decide +kernel
theorem dX12_isEfficient_7 : decode cX12_isEfficient 7 = .ok (.ifCond .ne 7, 3) := by decide +kernel
theorem dX12_isEfficient_10 : decode cX12_isEfficient 10 = .ok (.iconst 1, 1) := by decide +kernel
theorem dX12_isEfficient_11 : decode cX12_isEfficient 11 = .ok (.goto 4, 3) := by decide +kernel
theorem dX12_isEfficient_14 : decode cX12_isEfficient 14 = .ok (.iconst 0, 1) := by decide +kernel
theorem dX12_isEfficient_15 : decode cX12_isEfficient 15 = .ok (.ireturn, 1) := by decide +kernel
theorem dX12_allocatedStall_0 : decode cX12_allocatedStall 0 = .ok (.aload_n 0, 1) := by decide +kernel
theorem dX12_allocatedStall_1 : decode cX12_allocatedStall 1 = .ok (.iload_n 1, 1) := by decide +kernel
theorem dX12_allocatedStall_2 : decode cX12_allocatedStall 2 = .ok (.invokevirtual 151, 3) := by decide +kernel
theorem dX12_allocatedStall_5 : decode cX12_allocatedStall 5 = .ok (.aload_n 0, 1) := by decide +kernel
theorem dX12_allocatedStall_6 : decode cX12_allocatedStall 6 = .ok (.getfield 47, 3) := by decide +kernel
theorem dX12_allocatedStall_9 : decode cX12_allocatedStall 9 = .ok (.aload_n 0, 1) := by decide +kernel
theorem dX12_allocatedStall_10 : decode cX12_allocatedStall 10 = .ok (.getfield 99, 3) := by decide +kernel
theorem dX12_allocatedStall_13 : decode cX12_allocatedStall 13 = .ok (.invokevirtual 250, 3) := by decide +kernel
theorem dX12_allocatedStall_16 : decode cX12_allocatedStall 16 = .ok (.aload_n 0, 1) := by decide +kernel
theorem dX12_allocatedStall_17 : decode cX12_allocatedStall 17 = .ok (.getfield 47, 3) := by decide +kernel
theorem dX12_allocatedStall_20 : decode cX12_allocatedStall 20 = .ok (.iload_n 1, 1) := by decide +kernel
theorem dX12_allocatedStall_21 : decode cX12_allocatedStall 21 = .ok (.invokevirtual 253, 3) := by decide +kernel
theorem dX12_allocatedStall_24 : decode cX12_allocatedStall 24 = .ok (.ireturn, 1) := by decide +kernel
theorem dX12_ledgerDifference_0 : decode cX12_ledgerDifference 0 = .ok (.iconst 0, 1) := by decide +kernel
theorem dX12_ledgerDifference_1 : decode cX12_ledgerDifference 1 = .ok (.istore_n 1, 1) := by decide +kernel
theorem dX12_ledgerDifference_2 : decode cX12_ledgerDifference 2 = .ok (.iconst 0, 1) := by decide +kernel
theorem dX12_ledgerDifference_3 : decode cX12_ledgerDifference 3 = .ok (.istore_n 2, 1) := by decide +kernel
theorem dX12_ledgerDifference_4 : decode cX12_ledgerDifference 4 = .ok (.iload_n 2, 1) := by decide +kernel
theorem dX12_ledgerDifference_5 : decode cX12_ledgerDifference 5 = .ok (.aload_n 0, 1) := by decide +kernel
theorem dX12_ledgerDifference_6 : decode cX12_ledgerDifference 6 = .ok (.getfield 99, 3) := by decide +kernel
theorem dX12_ledgerDifference_9 : decode cX12_ledgerDifference 9 = .ok (.getfield 127, 3) := by decide +kernel
theorem dX12_ledgerDifference_12 : decode cX12_ledgerDifference 12 = .ok (.if_icmp .ge 20, 3) := by decide +kernel
theorem dX12_ledgerDifference_15 : decode cX12_ledgerDifference 15 = .ok (.iload_n 1, 1) := by decide +kernel
theorem dX12_ledgerDifference_16 : decode cX12_ledgerDifference 16 = .ok (.aload_n 0, 1) := by decide +kernel
theorem dX12_ledgerDifference_17 : decode cX12_ledgerDifference 17 = .ok (.getfield 99, 3) := by decide +kernel
theorem dX12_ledgerDifference_20 : decode cX12_ledgerDifference 20 = .ok (.iload_n 2, 1) := by decide +kernel
theorem dX12_ledgerDifference_21 : decode cX12_ledgerDifference 21 = .ok (.invokevirtual 154, 3) := by decide +kernel
theorem dX12_ledgerDifference_24 : decode cX12_ledgerDifference 24 = .ok (.iadd, 1) := by decide +kernel
theorem dX12_ledgerDifference_25 : decode cX12_ledgerDifference 25 = .ok (.istore_n 1, 1) := by decide +kernel
theorem dX12_ledgerDifference_26 : decode cX12_ledgerDifference 26 = .ok (.iinc 2 1, 3) := by decide +kernel
theorem dX12_ledgerDifference_29 : decode cX12_ledgerDifference 29 = .ok (.goto (-25), 3) := by decide +kernel
theorem dX12_ledgerDifference_32 : decode cX12_ledgerDifference 32 = .ok (.iload_n 1, 1) := by decide +kernel
theorem dX12_ledgerDifference_33 : decode cX12_ledgerDifference 33 = .ok (.aload_n 0, 1) := by decide +kernel
theorem dX12_ledgerDifference_34 : decode cX12_ledgerDifference 34 = .ok (.getfield 99, 3) := by decide +kernel
theorem dX12_ledgerDifference_37 : decode cX12_ledgerDifference 37 = .ok (.getfield 286, 3) := by decide +kernel
theorem dX12_ledgerDifference_40 : decode cX12_ledgerDifference 40 = .ok (.isub, 1) := by decide +kernel
theorem dX12_ledgerDifference_41 : decode cX12_ledgerDifference 41 = .ok (.aload_n 0, 1) := by decide +kernel
theorem dX12_ledgerDifference_42 : decode cX12_ledgerDifference 42 = .ok (.getfield 99, 3) := by decide +kernel
theorem dX12_ledgerDifference_45 : decode cX12_ledgerDifference 45 = .ok (.getfield 289, 3) := by decide +kernel
theorem dX12_ledgerDifference_48 : decode cX12_ledgerDifference 48 = .ok (.isub, 1) := by decide +kernel
theorem dX12_ledgerDifference_49 : decode cX12_ledgerDifference 49 = .ok (.aload_n 0, 1) := by decide +kernel
theorem dX12_ledgerDifference_50 : decode cX12_ledgerDifference 50 = .ok (.getfield 99, 3) := by decide +kernel
theorem dX12_ledgerDifference_53 : decode cX12_ledgerDifference 53 = .ok (.getfield 274, 3) := by decide +kernel
theorem dX12_ledgerDifference_56 : decode cX12_ledgerDifference 56 = .ok (.iadd, 1) := by decide +kernel
theorem dX12_ledgerDifference_57 : decode cX12_ledgerDifference 57 = .ok (.ireturn, 1) := by decide +kernel
theorem dX12_assign_0 : decode cX12_assign 0 = .ok (.aload_n 0, 1) := by decide +kernel
theorem dX12_assign_1 : decode cX12_assign 1 = .ok (.iload_n 1, 1) := by decide +kernel
theorem dX12_assign_2 : decode cX12_assign 2 = .ok (.invokevirtual 151, 3) := by decide +kernel
theorem dX12_assign_5 : decode cX12_assign 5 = .ok (.aload_n 0, 1) := by decide +kernel
theorem dX12_assign_6 : decode cX12_assign 6 = .ok (.iload_n 2, 1) := by decide +kernel
theorem dX12_assign_7 : decode cX12_assign 7 = .ok (.invokevirtual 161, 3) := by decide +kernel
theorem dX12_assign_10 : decode cX12_assign 10 = .ok (.aload_n 0, 1) := by decide +kernel
theorem dX12_assign_11 : decode cX12_assign 11 = .ok (.getfield 99, 3) := by decide +kernel
theorem dX12_assign_14 : decode cX12_assign 14 = .ok (.iload_n 1, 1) := by decide +kernel
theorem dX12_assign_15 : decode cX12_assign 15 = .ok (.iload_n 2, 1) := by decide +kernel
theorem dX12_assign_16 : decode cX12_assign 16 = .ok (.invokevirtual 292, 3) := by decide +kernel
theorem dX12_assign_19 : decode cX12_assign 19 = .ok (.ifCond .ne 14, 3) := by decide +kernel
theorem dX12_assign_22 : decode cX12_assign 22 = .ok (.new 105, 3) := by decide +kernel
theorem dX12_assign_25 : decode cX12_assign 25 = .ok (.dup, 1) := by decide +kernel
theorem dX12_assign_26 : decode cX12_assign 26 = .ok (.ldc_w 296, 3) := by decide +kernel
theorem dX12_assign_29 : decode cX12_assign 29 = .ok (.invokespecial 109, 3) := by decide +kernel
theorem dX12_assign_32 : decode cX12_assign 32 = .ok (.athrow, 1) := by decide +kernel
theorem dX12_assign_33 : decode cX12_assign 33 = .ok (.aload_n 0, 1) := by decide +kernel
theorem dX12_assign_34 : decode cX12_assign 34 = .ok (.getfield 40, 3) := by decide +kernel
theorem dX12_assign_37 : decode cX12_assign 37 = .ok (.aload_n 0, 1) := by decide +kernel
theorem dX12_assign_38 : decode cX12_assign 38 = .ok (.getfield 99, 3) := by decide +kernel
theorem dX12_assign_41 : decode cX12_assign 41 = .ok (.invokevirtual 131, 3) := by decide +kernel
theorem dX12_assign_44 : decode cX12_assign 44 = .ok (.aload_n 0, 1) := by decide +kernel
theorem dX12_assign_45 : decode cX12_assign 45 = .ok (.getfield 99, 3) := by decide +kernel
theorem dX12_assign_48 : decode cX12_assign 48 = .ok (.iload_n 1, 1) := by decide +kernel
theorem dX12_assign_49 : decode cX12_assign 49 = .ok (.invokevirtual 167, 3) := by decide +kernel
theorem dX12_assign_52 : decode cX12_assign 52 = .ok (.istore_n 3, 1) := by decide +kernel
theorem dX12_assign_53 : decode cX12_assign 53 = .ok (.aload_n 0, 1) := by decide +kernel
theorem dX12_assign_54 : decode cX12_assign 54 = .ok (.getfield 99, 3) := by decide +kernel
theorem dX12_assign_57 : decode cX12_assign 57 = .ok (.iload_n 1, 1) := by decide +kernel
theorem dX12_assign_58 : decode cX12_assign 58 = .ok (.iload_n 2, 1) := by decide +kernel
theorem dX12_assign_59 : decode cX12_assign 59 = .ok (.invokevirtual 298, 3) := by decide +kernel
theorem dX12_assign_62 : decode cX12_assign 62 = .ok (.iload_n 3, 1) := by decide +kernel
theorem dX12_assign_63 : decode cX12_assign 63 = .ok (.ireturn, 1) := by decide +kernel
theorem dX12_vacate_0 : decode cX12_vacate 0 = .ok (.aload_n 0, 1) := by decide +kernel
theorem dX12_vacate_1 : decode cX12_vacate 1 = .ok (.iload_n 1, 1) := by decide +kernel
theorem dX12_vacate_2 : decode cX12_vacate 2 = .ok (.invokevirtual 151, 3) := by decide +kernel
theorem dX12_vacate_5 : decode cX12_vacate 5 = .ok (.aload_n 0, 1) := by decide +kernel
theorem dX12_vacate_6 : decode cX12_vacate 6 = .ok (.getfield 99, 3) := by decide +kernel
theorem dX12_vacate_9 : decode cX12_vacate 9 = .ok (.iload_n 1, 1) := by decide +kernel
theorem dX12_vacate_10 : decode cX12_vacate 10 = .ok (.invokevirtual 167, 3) := by decide +kernel
theorem dX12_vacate_13 : decode cX12_vacate 13 = .ok (.istore_n 2, 1) := by decide +kernel
theorem dX12_vacate_14 : decode cX12_vacate 14 = .ok (.iload_n 2, 1) := by decide +kernel
theorem dX12_vacate_15 : decode cX12_vacate 15 = .ok (.iconst (-1), 1) := by decide +kernel
theorem dX12_vacate_16 : decode cX12_vacate 16 = .ok (.if_icmp .ne 14, 3) := by decide +kernel
theorem dX12_vacate_19 : decode cX12_vacate 19 = .ok (.new 105, 3) := by decide +kernel
theorem dX12_vacate_22 : decode cX12_vacate 22 = .ok (.dup, 1) := by decide +kernel
theorem dX12_vacate_23 : decode cX12_vacate 23 = .ok (.ldc_w 301, 3) := by decide +kernel
theorem dX12_vacate_26 : decode cX12_vacate 26 = .ok (.invokespecial 109, 3) := by decide +kernel
theorem dX12_vacate_29 : decode cX12_vacate 29 = .ok (.athrow, 1) := by decide +kernel
theorem dX12_vacate_30 : decode cX12_vacate 30 = .ok (.aload_n 0, 1) := by decide +kernel
theorem dX12_vacate_31 : decode cX12_vacate 31 = .ok (.getfield 40, 3) := by decide +kernel
theorem dX12_vacate_34 : decode cX12_vacate 34 = .ok (.aload_n 0, 1) := by decide +kernel
theorem dX12_vacate_35 : decode cX12_vacate 35 = .ok (.getfield 99, 3) := by decide +kernel
theorem dX12_vacate_38 : decode cX12_vacate 38 = .ok (.invokevirtual 131, 3) := by decide +kernel
theorem dX12_vacate_41 : decode cX12_vacate 41 = .ok (.aload_n 0, 1) := by decide +kernel
theorem dX12_vacate_42 : decode cX12_vacate 42 = .ok (.getfield 99, 3) := by decide +kernel
theorem dX12_vacate_45 : decode cX12_vacate 45 = .ok (.iload_n 1, 1) := by decide +kernel
theorem dX12_vacate_46 : decode cX12_vacate 46 = .ok (.iconst (-1), 1) := by decide +kernel
theorem dX12_vacate_47 : decode cX12_vacate 47 = .ok (.invokevirtual 298, 3) := by decide +kernel
theorem dX12_vacate_50 : decode cX12_vacate 50 = .ok (.iload_n 2, 1) := by decide +kernel
theorem dX12_vacate_51 : decode cX12_vacate 51 = .ok (.ireturn, 1) := by decide +kernel
theorem dX12_swap_0 : decode cX12_swap 0 = .ok (.aload_n 0, 1) := by decide +kernel
theorem dX12_swap_1 : decode cX12_swap 1 = .ok (.iload_n 1, 1) := by decide +kernel
theorem dX12_swap_2 : decode cX12_swap 2 = .ok (.invokevirtual 151, 3) := by decide +kernel
theorem dX12_swap_5 : decode cX12_swap 5 = .ok (.aload_n 0, 1) := by decide +kernel
theorem dX12_swap_6 : decode cX12_swap 6 = .ok (.iload_n 2, 1) := by decide +kernel
theorem dX12_swap_7 : decode cX12_swap 7 = .ok (.invokevirtual 151, 3) := by decide +kernel
theorem dX12_swap_10 : decode cX12_swap 10 = .ok (.aload_n 0, 1) := by decide +kernel
theorem dX12_swap_11 : decode cX12_swap 11 = .ok (.getfield 99, 3) := by decide +kernel
theorem dX12_swap_14 : decode cX12_swap 14 = .ok (.iload_n 1, 1) := by decide +kernel
theorem dX12_swap_15 : decode cX12_swap 15 = .ok (.iload_n 2, 1) := by decide +kernel
theorem dX12_swap_16 : decode cX12_swap 16 = .ok (.invokestatic 232, 3) := by decide +kernel
theorem dX12_swap_19 : decode cX12_swap 19 = .ok (.ifCond .ne 14, 3) := by decide +kernel
theorem dX12_swap_22 : decode cX12_swap 22 = .ok (.new 105, 3) := by decide +kernel
theorem dX12_swap_25 : decode cX12_swap 25 = .ok (.dup, 1) := by decide +kernel
theorem dX12_swap_26 : decode cX12_swap 26 = .ok (.ldc_w 303, 3) := by decide +kernel
theorem dX12_swap_29 : decode cX12_swap 29 = .ok (.invokespecial 109, 3) := by decide +kernel
theorem dX12_swap_32 : decode cX12_swap 32 = .ok (.athrow, 1) := by decide +kernel
theorem dX12_swap_33 : decode cX12_swap 33 = .ok (.aload_n 0, 1) := by decide +kernel
theorem dX12_swap_34 : decode cX12_swap 34 = .ok (.getfield 40, 3) := by decide +kernel
theorem dX12_swap_37 : decode cX12_swap 37 = .ok (.aload_n 0, 1) := by decide +kernel
theorem dX12_swap_38 : decode cX12_swap 38 = .ok (.getfield 99, 3) := by decide +kernel
theorem dX12_swap_41 : decode cX12_swap 41 = .ok (.invokevirtual 131, 3) := by decide +kernel
theorem dX12_swap_44 : decode cX12_swap 44 = .ok (.aload_n 0, 1) := by decide +kernel
theorem dX12_swap_45 : decode cX12_swap 45 = .ok (.getfield 99, 3) := by decide +kernel
theorem dX12_swap_48 : decode cX12_swap 48 = .ok (.iload_n 1, 1) := by decide +kernel
theorem dX12_swap_49 : decode cX12_swap 49 = .ok (.iload_n 2, 1) := by decide +kernel
theorem dX12_swap_50 : decode cX12_swap 50 = .ok (.invokevirtual 305, 3) := by decide +kernel
theorem dX12_swap_53 : decode cX12_swap 53 = .ok (.aload_n 0, 1) := by decide +kernel
theorem dX12_swap_54 : decode cX12_swap 54 = .ok (.getfield 99, 3) := by decide +kernel
theorem dX12_swap_57 : decode cX12_swap 57 = .ok (.iload_n 1, 1) := by decide +kernel
theorem dX12_swap_58 : decode cX12_swap 58 = .ok (.invokevirtual 167, 3) := by decide +kernel
theorem dX12_swap_61 : decode cX12_swap 61 = .ok (.ireturn, 1) := by decide +kernel
theorem dX12_reallocate_0 : decode cX12_reallocate 0 = .ok (.aload_n 0, 1) := by decide +kernel
theorem dX12_reallocate_1 : decode cX12_reallocate 1 = .ok (.getfield 40, 3) := by decide +kernel
theorem dX12_reallocate_4 : decode cX12_reallocate 4 = .ok (.aload_n 0, 1) := by decide +kernel
theorem dX12_reallocate_5 : decode cX12_reallocate 5 = .ok (.getfield 99, 3) := by decide +kernel
theorem dX12_reallocate_8 : decode cX12_reallocate 8 = .ok (.invokevirtual 131, 3) := by decide +kernel
theorem dX12_reallocate_11 : decode cX12_reallocate 11 = .ok (.aload_n 0, 1) := by decide +kernel
theorem dX12_reallocate_12 : decode cX12_reallocate 12 = .ok (.getfield 47, 3) := by decide +kernel
theorem dX12_reallocate_15 : decode cX12_reallocate 15 = .ok (.aload_n 0, 1) := by decide +kernel
theorem dX12_reallocate_16 : decode cX12_reallocate 16 = .ok (.getfield 99, 3) := by decide +kernel
theorem dX12_reallocate_19 : decode cX12_reallocate 19 = .ok (.invokevirtual 250, 3) := by decide +kernel
theorem dX12_reallocate_22 : decode cX12_reallocate 22 = .ok (.aload_n 0, 1) := by decide +kernel
theorem dX12_reallocate_23 : decode cX12_reallocate 23 = .ok (.getfield 47, 3) := by decide +kernel
theorem dX12_reallocate_26 : decode cX12_reallocate 26 = .ok (.aload_n 0, 1) := by decide +kernel
theorem dX12_reallocate_27 : decode cX12_reallocate 27 = .ok (.getfield 99, 3) := by decide +kernel
theorem dX12_reallocate_30 : decode cX12_reallocate 30 = .ok (.invokevirtual 308, 3) := by decide +kernel
theorem dX12_reallocate_33 : decode cX12_reallocate 33 = .ok (.ireturn, 1) := by decide +kernel
theorem dX12_setPriority_0 : decode cX12_setPriority 0 = .ok (.aload_n 0, 1) := by decide +kernel
theorem dX12_setPriority_1 : decode cX12_setPriority 1 = .ok (.iload_n 1, 1) := by decide +kernel
theorem dX12_setPriority_2 : decode cX12_setPriority 2 = .ok (.invokevirtual 151, 3) := by decide +kernel
theorem dX12_setPriority_5 : decode cX12_setPriority 5 = .ok (.iload_n 2, 1) := by decide +kernel
theorem dX12_setPriority_6 : decode cX12_setPriority 6 = .ok (.ifCond .lt 14, 3) := by decide +kernel
theorem dX12_setPriority_9 : decode cX12_setPriority 9 = .ok (.iload_n 2, 1) := by decide +kernel
theorem dX12_setPriority_10 : decode cX12_setPriority 10 = .ok (.aload_n 0, 1) := by decide +kernel
theorem dX12_setPriority_11 : decode cX12_setPriority 11 = .ok (.getfield 99, 3) := by decide +kernel
theorem dX12_setPriority_14 : decode cX12_setPriority 14 = .ok (.getfield 127, 3) := by decide +kernel
theorem dX12_setPriority_17 : decode cX12_setPriority 17 = .ok (.if_icmp .lt 14, 3) := by decide +kernel
theorem dX12_setPriority_20 : decode cX12_setPriority 20 = .ok (.new 115, 3) := by decide +kernel
theorem dX12_setPriority_23 : decode cX12_setPriority 23 = .ok (.dup, 1) := by decide +kernel
theorem dX12_setPriority_24 : decode cX12_setPriority 24 = .ok (.ldc_w 311, 3) := by decide +kernel
theorem dX12_setPriority_27 : decode cX12_setPriority 27 = .ok (.invokespecial 119, 3) := by decide +kernel
theorem dX12_setPriority_30 : decode cX12_setPriority 30 = .ok (.athrow, 1) := by decide +kernel
theorem dX12_setPriority_31 : decode cX12_setPriority 31 = .ok (.aload_n 0, 1) := by decide +kernel
theorem dX12_setPriority_32 : decode cX12_setPriority 32 = .ok (.getfield 40, 3) := by decide +kernel
theorem dX12_setPriority_35 : decode cX12_setPriority 35 = .ok (.aload_n 0, 1) := by decide +kernel
theorem dX12_setPriority_36 : decode cX12_setPriority 36 = .ok (.getfield 99, 3) := by decide +kernel
theorem dX12_setPriority_39 : decode cX12_setPriority 39 = .ok (.invokevirtual 131, 3) := by decide +kernel
theorem dX12_setPriority_42 : decode cX12_setPriority 42 = .ok (.aload_n 0, 1) := by decide +kernel
theorem dX12_setPriority_43 : decode cX12_setPriority 43 = .ok (.getfield 99, 3) := by decide +kernel
theorem dX12_setPriority_46 : decode cX12_setPriority 46 = .ok (.iload_n 1, 1) := by decide +kernel
theorem dX12_setPriority_47 : decode cX12_setPriority 47 = .ok (.invokevirtual 173, 3) := by decide +kernel
theorem dX12_setPriority_50 : decode cX12_setPriority 50 = .ok (.istore_n 3, 1) := by decide +kernel
theorem dX12_setPriority_51 : decode cX12_setPriority 51 = .ok (.aload_n 0, 1) := by decide +kernel
theorem dX12_setPriority_52 : decode cX12_setPriority 52 = .ok (.getfield 99, 3) := by decide +kernel
theorem dX12_setPriority_55 : decode cX12_setPriority 55 = .ok (.iload_n 1, 1) := by decide +kernel
theorem dX12_setPriority_56 : decode cX12_setPriority 56 = .ok (.iload_n 2, 1) := by decide +kernel
theorem dX12_setPriority_57 : decode cX12_setPriority 57 = .ok (.invokevirtual 256, 3) := by decide +kernel
theorem dX12_setPriority_60 : decode cX12_setPriority 60 = .ok (.iload_n 3, 1) := by decide +kernel
theorem dX12_setPriority_61 : decode cX12_setPriority 61 = .ok (.ireturn, 1) := by decide +kernel
theorem dX12_preferFirst_0 : decode cX12_preferFirst 0 = .ok (.aload_n 0, 1) := by decide +kernel
theorem dX12_preferFirst_1 : decode cX12_preferFirst 1 = .ok (.iload_n 1, 1) := by decide +kernel
theorem dX12_preferFirst_2 : decode cX12_preferFirst 2 = .ok (.invokevirtual 151, 3) := by decide +kernel
theorem dX12_preferFirst_5 : decode cX12_preferFirst 5 = .ok (.aload_n 0, 1) := by decide +kernel
theorem dX12_preferFirst_6 : decode cX12_preferFirst 6 = .ok (.iload_n 2, 1) := by decide +kernel
theorem dX12_preferFirst_7 : decode cX12_preferFirst 7 = .ok (.invokevirtual 161, 3) := by decide +kernel
theorem dX12_preferFirst_10 : decode cX12_preferFirst 10 = .ok (.aload_n 0, 1) := by decide +kernel
theorem dX12_preferFirst_11 : decode cX12_preferFirst 11 = .ok (.getfield 40, 3) := by decide +kernel
theorem dX12_preferFirst_14 : decode cX12_preferFirst 14 = .ok (.aload_n 0, 1) := by decide +kernel
theorem dX12_preferFirst_15 : decode cX12_preferFirst 15 = .ok (.getfield 99, 3) := by decide +kernel
theorem dX12_preferFirst_18 : decode cX12_preferFirst 18 = .ok (.invokevirtual 131, 3) := by decide +kernel
theorem dX12_preferFirst_21 : decode cX12_preferFirst 21 = .ok (.aload_n 0, 1) := by decide +kernel
theorem dX12_preferFirst_22 : decode cX12_preferFirst 22 = .ok (.getfield 99, 3) := by decide +kernel
theorem dX12_preferFirst_25 : decode cX12_preferFirst 25 = .ok (.iload_n 1, 1) := by decide +kernel
theorem dX12_preferFirst_26 : decode cX12_preferFirst 26 = .ok (.iload_n 2, 1) := by decide +kernel
theorem dX12_preferFirst_27 : decode cX12_preferFirst 27 = .ok (.invokevirtual 260, 3) := by decide +kernel
theorem dX12_preferFirst_30 : decode cX12_preferFirst 30 = .ok (.aload_n 0, 1) := by decide +kernel
theorem dX12_preferFirst_31 : decode cX12_preferFirst 31 = .ok (.getfield 99, 3) := by decide +kernel
theorem dX12_preferFirst_34 : decode cX12_preferFirst 34 = .ok (.iload_n 1, 1) := by decide +kernel
theorem dX12_preferFirst_35 : decode cX12_preferFirst 35 = .ok (.invokevirtual 176, 3) := by decide +kernel
theorem dX12_preferFirst_38 : decode cX12_preferFirst 38 = .ok (.ireturn, 1) := by decide +kernel
theorem dX12_removePreference_0 : decode cX12_removePreference 0 = .ok (.aload_n 0, 1) := by decide +kernel
theorem dX12_removePreference_1 : decode cX12_removePreference 1 = .ok (.iload_n 1, 1) := by decide +kernel
theorem dX12_removePreference_2 : decode cX12_removePreference 2 = .ok (.invokevirtual 151, 3) := by decide +kernel
theorem dX12_removePreference_5 : decode cX12_removePreference 5 = .ok (.aload_n 0, 1) := by decide +kernel
theorem dX12_removePreference_6 : decode cX12_removePreference 6 = .ok (.iload_n 2, 1) := by decide +kernel
theorem dX12_removePreference_7 : decode cX12_removePreference 7 = .ok (.invokevirtual 161, 3) := by decide +kernel
theorem dX12_removePreference_10 : decode cX12_removePreference 10 = .ok (.aload_n 0, 1) := by decide +kernel
theorem dX12_removePreference_11 : decode cX12_removePreference 11 = .ok (.getfield 99, 3) := by decide +kernel
theorem dX12_removePreference_14 : decode cX12_removePreference 14 = .ok (.iload_n 1, 1) := by decide +kernel
theorem dX12_removePreference_15 : decode cX12_removePreference 15 = .ok (.iload_n 2, 1) := by decide +kernel
theorem dX12_removePreference_16 : decode cX12_removePreference 16 = .ok (.invokevirtual 188, 3) := by decide +kernel
theorem dX12_removePreference_19 : decode cX12_removePreference 19 = .ok (.iconst (-1), 1) := by decide +kernel
theorem dX12_removePreference_20 : decode cX12_removePreference 20 = .ok (.if_icmp .ne 14, 3) := by decide +kernel
theorem dX12_removePreference_23 : decode cX12_removePreference 23 = .ok (.new 105, 3) := by decide +kernel
theorem dX12_removePreference_26 : decode cX12_removePreference 26 = .ok (.dup, 1) := by decide +kernel
theorem dX12_removePreference_27 : decode cX12_removePreference 27 = .ok (.ldc_w 313, 3) := by decide +kernel
theorem dX12_removePreference_30 : decode cX12_removePreference 30 = .ok (.invokespecial 109, 3) := by decide +kernel
theorem dX12_removePreference_33 : decode cX12_removePreference 33 = .ok (.athrow, 1) := by decide +kernel
theorem dX12_removePreference_34 : decode cX12_removePreference 34 = .ok (.aload_n 0, 1) := by decide +kernel
theorem dX12_removePreference_35 : decode cX12_removePreference 35 = .ok (.getfield 40, 3) := by decide +kernel
theorem dX12_removePreference_38 : decode cX12_removePreference 38 = .ok (.aload_n 0, 1) := by decide +kernel
theorem dX12_removePreference_39 : decode cX12_removePreference 39 = .ok (.getfield 99, 3) := by decide +kernel
theorem dX12_removePreference_42 : decode cX12_removePreference 42 = .ok (.invokevirtual 131, 3) := by decide +kernel
theorem dX12_removePreference_45 : decode cX12_removePreference 45 = .ok (.aload_n 0, 1) := by decide +kernel
theorem dX12_removePreference_46 : decode cX12_removePreference 46 = .ok (.getfield 99, 3) := by decide +kernel
theorem dX12_removePreference_49 : decode cX12_removePreference 49 = .ok (.iload_n 1, 1) := by decide +kernel
theorem dX12_removePreference_50 : decode cX12_removePreference 50 = .ok (.iload_n 2, 1) := by decide +kernel
theorem dX12_removePreference_51 : decode cX12_removePreference 51 = .ok (.invokevirtual 315, 3) := by decide +kernel
theorem dX12_removePreference_54 : decode cX12_removePreference 54 = .ok (.aload_n 0, 1) := by decide +kernel
theorem dX12_removePreference_55 : decode cX12_removePreference 55 = .ok (.getfield 99, 3) := by decide +kernel
theorem dX12_removePreference_58 : decode cX12_removePreference 58 = .ok (.iload_n 1, 1) := by decide +kernel
theorem dX12_removePreference_59 : decode cX12_removePreference 59 = .ok (.invokevirtual 176, 3) := by decide +kernel
theorem dX12_removePreference_62 : decode cX12_removePreference 62 = .ok (.ireturn, 1) := by decide +kernel
theorem dX12_setRent_0 : decode cX12_setRent 0 = .ok (.aload_n 0, 1) := by decide +kernel
theorem dX12_setRent_1 : decode cX12_setRent 1 = .ok (.iload_n 1, 1) := by decide +kernel
theorem dX12_setRent_2 : decode cX12_setRent 2 = .ok (.invokevirtual 161, 3) := by decide +kernel
theorem dX12_setRent_5 : decode cX12_setRent 5 = .ok (.iload_n 2, 1) := by decide +kernel
theorem dX12_setRent_6 : decode cX12_setRent 6 = .ok (.ifCond .lt 9, 3) := by decide +kernel
theorem dX12_setRent_9 : decode cX12_setRent 9 = .ok (.iload_n 2, 1) := by decide +kernel
theorem dX12_setRent_10 : decode cX12_setRent 10 = .ok (.bipush 99, 2) := by decide +kernel
theorem dX12_setRent_12 : decode cX12_setRent 12 = .ok (.if_icmp .le 14, 3) := by decide +kernel
theorem dX12_setRent_15 : decode cX12_setRent 15 = .ok (.new 115, 3) := by decide +kernel
theorem dX12_setRent_18 : decode cX12_setRent 18 = .ok (.dup, 1) := by decide +kernel
theorem dX12_setRent_19 : decode cX12_setRent 19 = .ok (.ldc_w 318, 3) := by decide +kernel
theorem dX12_setRent_22 : decode cX12_setRent 22 = .ok (.invokespecial 119, 3) := by decide +kernel
theorem dX12_setRent_25 : decode cX12_setRent 25 = .ok (.athrow, 1) := by decide +kernel
theorem dX12_setRent_26 : decode cX12_setRent 26 = .ok (.aload_n 0, 1) := by decide +kernel
theorem dX12_setRent_27 : decode cX12_setRent 27 = .ok (.getfield 40, 3) := by decide +kernel
theorem dX12_setRent_30 : decode cX12_setRent 30 = .ok (.aload_n 0, 1) := by decide +kernel
theorem dX12_setRent_31 : decode cX12_setRent 31 = .ok (.getfield 99, 3) := by decide +kernel
theorem dX12_setRent_34 : decode cX12_setRent 34 = .ok (.invokevirtual 131, 3) := by decide +kernel
theorem dX12_setRent_37 : decode cX12_setRent 37 = .ok (.aload_n 0, 1) := by decide +kernel
theorem dX12_setRent_38 : decode cX12_setRent 38 = .ok (.getfield 99, 3) := by decide +kernel
theorem dX12_setRent_41 : decode cX12_setRent 41 = .ok (.iload_n 1, 1) := by decide +kernel
theorem dX12_setRent_42 : decode cX12_setRent 42 = .ok (.invokevirtual 164, 3) := by decide +kernel
theorem dX12_setRent_45 : decode cX12_setRent 45 = .ok (.istore_n 3, 1) := by decide +kernel
theorem dX12_setRent_46 : decode cX12_setRent 46 = .ok (.aload_n 0, 1) := by decide +kernel
theorem dX12_setRent_47 : decode cX12_setRent 47 = .ok (.getfield 99, 3) := by decide +kernel
theorem dX12_setRent_50 : decode cX12_setRent 50 = .ok (.iload_n 1, 1) := by decide +kernel
theorem dX12_setRent_51 : decode cX12_setRent 51 = .ok (.iload_n 2, 1) := by decide +kernel
theorem dX12_setRent_52 : decode cX12_setRent 52 = .ok (.invokevirtual 320, 3) := by decide +kernel
theorem dX12_setRent_55 : decode cX12_setRent 55 = .ok (.iload_n 3, 1) := by decide +kernel
theorem dX12_setRent_56 : decode cX12_setRent 56 = .ok (.ireturn, 1) := by decide +kernel
theorem dX12_advanceDays_0 : decode cX12_advanceDays 0 = .ok (.iload_n 1, 1) := by decide +kernel
theorem dX12_advanceDays_1 : decode cX12_advanceDays 1 = .ok (.iconst 1, 1) := by decide +kernel
theorem dX12_advanceDays_2 : decode cX12_advanceDays 2 = .ok (.if_icmp .lt 9, 3) := by decide +kernel
theorem dX12_advanceDays_5 : decode cX12_advanceDays 5 = .ok (.iload_n 1, 1) := by decide +kernel
theorem dX12_advanceDays_6 : decode cX12_advanceDays 6 = .ok (.bipush 99, 2) := by decide +kernel
theorem dX12_advanceDays_8 : decode cX12_advanceDays 8 = .ok (.if_icmp .le 14, 3) := by decide +kernel
theorem dX12_advanceDays_11 : decode cX12_advanceDays 11 = .ok (.new 115, 3) := by decide +kernel
theorem dX12_advanceDays_14 : decode cX12_advanceDays 14 = .ok (.dup, 1) := by decide +kernel
theorem dX12_advanceDays_15 : decode cX12_advanceDays 15 = .ok (.ldc_w 328, 3) := by decide +kernel
theorem dX12_advanceDays_18 : decode cX12_advanceDays 18 = .ok (.invokespecial 119, 3) := by decide +kernel
theorem dX12_advanceDays_21 : decode cX12_advanceDays 21 = .ok (.athrow, 1) := by decide +kernel
theorem dX12_advanceDays_22 : decode cX12_advanceDays 22 = .ok (.aload_n 0, 1) := by decide +kernel
theorem dX12_advanceDays_23 : decode cX12_advanceDays 23 = .ok (.getfield 99, 3) := by decide +kernel
theorem dX12_advanceDays_26 : decode cX12_advanceDays 26 = .ok (.iload_n 1, 1) := by decide +kernel
theorem dX12_advanceDays_27 : decode cX12_advanceDays 27 = .ok (.invokevirtual 330, 3) := by decide +kernel
theorem dX12_advanceDays_30 : decode cX12_advanceDays 30 = .ok (.ifCond .ne 14, 3) := by decide +kernel
theorem dX12_advanceDays_33 : decode cX12_advanceDays 33 = .ok (.new 105, 3) := by decide +kernel
theorem dX12_advanceDays_36 : decode cX12_advanceDays 36 = .ok (.dup, 1) := by decide +kernel
theorem dX12_advanceDays_37 : decode cX12_advanceDays 37 = .ok (.ldc_w 334, 3) := by decide +kernel
theorem dX12_advanceDays_40 : decode cX12_advanceDays 40 = .ok (.invokespecial 109, 3) := by decide +kernel
theorem dX12_advanceDays_43 : decode cX12_advanceDays 43 = .ok (.athrow, 1) := by decide +kernel
theorem dX12_advanceDays_44 : decode cX12_advanceDays 44 = .ok (.aload_n 0, 1) := by decide +kernel
theorem dX12_advanceDays_45 : decode cX12_advanceDays 45 = .ok (.getfield 40, 3) := by decide +kernel
theorem dX12_advanceDays_48 : decode cX12_advanceDays 48 = .ok (.aload_n 0, 1) := by decide +kernel
theorem dX12_advanceDays_49 : decode cX12_advanceDays 49 = .ok (.getfield 99, 3) := by decide +kernel
theorem dX12_advanceDays_52 : decode cX12_advanceDays 52 = .ok (.invokevirtual 131, 3) := by decide +kernel
theorem dX12_advanceDays_55 : decode cX12_advanceDays 55 = .ok (.aload_n 0, 1) := by decide +kernel
theorem dX12_advanceDays_56 : decode cX12_advanceDays 56 = .ok (.getfield 99, 3) := by decide +kernel
theorem dX12_advanceDays_59 : decode cX12_advanceDays 59 = .ok (.getfield 277, 3) := by decide +kernel
theorem dX12_advanceDays_62 : decode cX12_advanceDays 62 = .ok (.istore_n 2, 1) := by decide +kernel
theorem dX12_advanceDays_63 : decode cX12_advanceDays 63 = .ok (.aload_n 0, 1) := by decide +kernel
theorem dX12_advanceDays_64 : decode cX12_advanceDays 64 = .ok (.getfield 99, 3) := by decide +kernel
theorem dX12_advanceDays_67 : decode cX12_advanceDays 67 = .ok (.iload_n 1, 1) := by decide +kernel
theorem dX12_advanceDays_68 : decode cX12_advanceDays 68 = .ok (.invokevirtual 336, 3) := by decide +kernel
theorem dX12_advanceDays_71 : decode cX12_advanceDays 71 = .ok (.aload_n 0, 1) := by decide +kernel
theorem dX12_advanceDays_72 : decode cX12_advanceDays 72 = .ok (.getfield 99, 3) := by decide +kernel
theorem dX12_advanceDays_75 : decode cX12_advanceDays 75 = .ok (.getfield 277, 3) := by decide +kernel
theorem dX12_advanceDays_78 : decode cX12_advanceDays 78 = .ok (.iload_n 2, 1) := by decide +kernel
theorem dX12_advanceDays_79 : decode cX12_advanceDays 79 = .ok (.isub, 1) := by decide +kernel
theorem dX12_advanceDays_80 : decode cX12_advanceDays 80 = .ok (.ireturn, 1) := by decide +kernel
theorem dX12_undo_0 : decode cX12_undo 0 = .ok (.aload_n 0, 1) := by decide +kernel
theorem dX12_undo_1 : decode cX12_undo 1 = .ok (.getfield 40, 3) := by decide +kernel
theorem dX12_undo_4 : decode cX12_undo 4 = .ok (.aload_n 0, 1) := by decide +kernel
theorem dX12_undo_5 : decode cX12_undo 5 = .ok (.getfield 99, 3) := by decide +kernel
theorem dX12_undo_8 : decode cX12_undo 8 = .ok (.invokevirtual 346, 3) := by decide +kernel
theorem dX12_undo_11 : decode cX12_undo 11 = .ok (.ireturn, 1) := by decide +kernel
theorem dX12_requireSeller_0 : decode cX12_requireSeller 0 = .ok (.iload_n 1, 1) := by decide +kernel
theorem dX12_requireSeller_1 : decode cX12_requireSeller 1 = .ok (.ifCond .lt 14, 3) := by decide +kernel
theorem dX12_requireSeller_4 : decode cX12_requireSeller 4 = .ok (.iload_n 1, 1) := by decide +kernel
theorem dX12_requireSeller_5 : decode cX12_requireSeller 5 = .ok (.aload_n 0, 1) := by decide +kernel
theorem dX12_requireSeller_6 : decode cX12_requireSeller 6 = .ok (.getfield 99, 3) := by decide +kernel
theorem dX12_requireSeller_9 : decode cX12_requireSeller 9 = .ok (.getfield 127, 3) := by decide +kernel
theorem dX12_requireSeller_12 : decode cX12_requireSeller 12 = .ok (.if_icmp .lt 14, 3) := by decide +kernel
theorem dX12_requireSeller_15 : decode cX12_requireSeller 15 = .ok (.new 179, 3) := by decide +kernel
theorem dX12_requireSeller_18 : decode cX12_requireSeller 18 = .ok (.dup, 1) := by decide +kernel
theorem dX12_requireSeller_19 : decode cX12_requireSeller 19 = .ok (.ldc_w 354, 3) := by decide +kernel
theorem dX12_requireSeller_22 : decode cX12_requireSeller 22 = .ok (.invokespecial 183, 3) := by decide +kernel
theorem dX12_requireSeller_25 : decode cX12_requireSeller 25 = .ok (.athrow, 1) := by decide +kernel
theorem dX12_requireSeller_26 : decode cX12_requireSeller 26 = .ok (.return_, 1) := by decide +kernel
theorem dX12_requireStall_0 : decode cX12_requireStall 0 = .ok (.iload_n 1, 1) := by decide +kernel
theorem dX12_requireStall_1 : decode cX12_requireStall 1 = .ok (.ifCond .lt 14, 3) := by decide +kernel
theorem dX12_requireStall_4 : decode cX12_requireStall 4 = .ok (.iload_n 1, 1) := by decide +kernel
theorem dX12_requireStall_5 : decode cX12_requireStall 5 = .ok (.aload_n 0, 1) := by decide +kernel
theorem dX12_requireStall_6 : decode cX12_requireStall 6 = .ok (.getfield 99, 3) := by decide +kernel
theorem dX12_requireStall_9 : decode cX12_requireStall 9 = .ok (.getfield 145, 3) := by decide +kernel
theorem dX12_requireStall_12 : decode cX12_requireStall 12 = .ok (.if_icmp .lt 14, 3) := by decide +kernel
theorem dX12_requireStall_15 : decode cX12_requireStall 15 = .ok (.new 179, 3) := by decide +kernel
theorem dX12_requireStall_18 : decode cX12_requireStall 18 = .ok (.dup, 1) := by decide +kernel
theorem dX12_requireStall_19 : decode cX12_requireStall 19 = .ok (.ldc_w 356, 3) := by decide +kernel
theorem dX12_requireStall_22 : decode cX12_requireStall 22 = .ok (.invokespecial 183, 3) := by decide +kernel
theorem dX12_requireStall_25 : decode cX12_requireStall 25 = .ok (.athrow, 1) := by decide +kernel
theorem dX12_requireStall_26 : decode cX12_requireStall 26 = .ok (.return_, 1) := by decide +kernel
theorem dX13_init_0 : decode cX13_init 0 = .ok (.aload_n 0, 1) := by decide +kernel
theorem dX13_init_1 : decode cX13_init 1 = .ok (.invokespecial 3, 3) := by decide +kernel
theorem dX13_init_4 : decode cX13_init 4 = .ok (.aload_n 0, 1) := by decide +kernel
theorem dX13_init_5 : decode cX13_init 5 = .ok (.sipush 700, 3) := by decide +kernel
theorem dX13_init_8 : decode cX13_init 8 = .ok (.newarray .byte, 2) := by decide +kernel
theorem dX13_init_10 : decode cX13_init 10 = .ok (.putfield 9, 3) := by decide +kernel
theorem dX13_init_13 : decode cX13_init 13 = .ok (.aload_n 0, 1) := by decide +kernel
theorem dX13_init_14 : decode cX13_init 14 = .ok (.bipush 8, 2) := by decide +kernel
theorem dX13_init_16 : decode cX13_init 16 = .ok (.newarray .int, 2) := by decide +kernel
theorem dX13_init_18 : decode cX13_init 18 = .ok (.putfield 15, 3) := by decide +kernel
theorem dX13_init_21 : decode cX13_init 21 = .ok (.aload_n 0, 1) := by decide +kernel
theorem dX13_init_22 : decode cX13_init 22 = .ok (.bipush 8, 2) := by decide +kernel
theorem dX13_init_24 : decode cX13_init 24 = .ok (.newarray .int, 2) := by decide +kernel
theorem dX13_init_26 : decode cX13_init 26 = .ok (.putfield 19, 3) := by decide +kernel
theorem dX13_init_29 : decode cX13_init 29 = .ok (.aload_n 0, 1) := by decide +kernel
theorem dX13_init_30 : decode cX13_init 30 = .ok (.bipush 8, 2) := by decide +kernel
theorem dX13_init_32 : decode cX13_init 32 = .ok (.newarray .int, 2) := by decide +kernel
theorem dX13_init_34 : decode cX13_init 34 = .ok (.putfield 22, 3) := by decide +kernel
theorem dX13_init_37 : decode cX13_init 37 = .ok (.aload_n 0, 1) := by decide +kernel
theorem dX13_init_38 : decode cX13_init 38 = .ok (.bipush 8, 2) := by decide +kernel
theorem dX13_init_40 : decode cX13_init 40 = .ok (.newarray .int, 2) := by decide +kernel
theorem dX13_init_42 : decode cX13_init 42 = .ok (.putfield 25, 3) := by decide +kernel
theorem dX13_init_45 : decode cX13_init 45 = .ok (.aload_n 0, 1) := by decide +kernel
theorem dX13_init_46 : decode cX13_init 46 = .ok (.bipush 8, 2) := by decide +kernel
theorem dX13_init_48 : decode cX13_init 48 = .ok (.newarray .int, 2) := by decide +kernel
theorem dX13_init_50 : decode cX13_init 50 = .ok (.putfield 28, 3) := by decide +kernel
theorem dX13_init_53 : decode cX13_init 53 = .ok (.aload_n 0, 1) := by decide +kernel
theorem dX13_init_54 : decode cX13_init 54 = .ok (.bipush 8, 2) := by decide +kernel
theorem dX13_init_56 : decode cX13_init 56 = .ok (.newarray .int, 2) := by decide +kernel
theorem dX13_init_58 : decode cX13_init 58 = .ok (.putfield 31, 3) := by decide +kernel
theorem dX13_init_61 : decode cX13_init 61 = .ok (.aload_n 0, 1) := by decide +kernel
theorem dX13_init_62 : decode cX13_init 62 = .ok (.bipush 8, 2) := by decide +kernel
theorem dX13_init_64 : decode cX13_init 64 = .ok (.newarray .int, 2) := by decide +kernel
theorem dX13_init_66 : decode cX13_init 66 = .ok (.putfield 34, 3) := by decide +kernel
theorem dX13_init_69 : decode cX13_init 69 = .ok (.aload_n 0, 1) := by decide +kernel
theorem dX13_init_70 : decode cX13_init 70 = .ok (.bipush 8, 2) := by decide +kernel
theorem dX13_init_72 : decode cX13_init 72 = .ok (.newarray .int, 2) := by decide +kernel
theorem dX13_init_74 : decode cX13_init 74 = .ok (.putfield 37, 3) := by decide +kernel
theorem dX13_init_77 : decode cX13_init 77 = .ok (.aload_n 0, 1) := by decide +kernel
theorem dX13_init_78 : decode cX13_init 78 = .ok (.bipush 8, 2) := by decide +kernel
theorem dX13_init_80 : decode cX13_init 80 = .ok (.newarray .int, 2) := by decide +kernel
theorem dX13_init_82 : decode cX13_init 82 = .ok (.putfield 40, 3) := by decide +kernel
theorem dX13_init_85 : decode cX13_init 85 = .ok (.aload_n 0, 1) := by decide +kernel
theorem dX13_init_86 : decode cX13_init 86 = .ok (.bipush 8, 2) := by decide +kernel
theorem dX13_init_88 : decode cX13_init 88 = .ok (.bipush 8, 2) := by decide +kernel
theorem dX13_init_90 : decode cX13_init 90 = .ok (.multianewarray 43 2, 4) := by decide +kernel
theorem dX13_init_94 : decode cX13_init 94 = .ok (.putfield 45, 3) := by decide +kernel
theorem dX13_init_97 : decode cX13_init 97 = .ok (.aload_n 0, 1) := by decide +kernel
theorem dX13_init_98 : decode cX13_init 98 = .ok (.bipush 8, 2) := by decide +kernel
theorem dX13_init_100 : decode cX13_init 100 = .ok (.newarray .boolean, 2) := by decide +kernel
theorem dX13_init_102 : decode cX13_init 102 = .ok (.putfield 48, 3) := by decide +kernel
theorem dX13_init_105 : decode cX13_init 105 = .ok (.return_, 1) := by decide +kernel
theorem dX13_draw_0 : decode cX13_draw 0 = .ok (.aload_n 0, 1) := by decide +kernel
theorem dX13_draw_1 : decode cX13_draw 1 = .ok (.aload_n 0, 1) := by decide +kernel
theorem dX13_draw_2 : decode cX13_draw 2 = .ok (.getfield 52, 3) := by decide +kernel
theorem dX13_draw_5 : decode cX13_draw 5 = .ok (.ldc 56, 2) := by decide +kernel
theorem dX13_draw_7 : decode cX13_draw 7 = .ok (.imul, 1) := by decide +kernel
theorem dX13_draw_8 : decode cX13_draw 8 = .ok (.sipush 12345, 3) := by decide +kernel
theorem dX13_draw_11 : decode cX13_draw 11 = .ok (.iadd, 1) := by decide +kernel
theorem dX13_draw_12 : decode cX13_draw 12 = .ok (.putfield 52, 3) := by decide +kernel
theorem dX13_draw_15 : decode cX13_draw 15 = .ok (.aload_n 0, 1) := by decide +kernel
theorem dX13_draw_16 : decode cX13_draw 16 = .ok (.getfield 52, 3) := by decide +kernel
theorem dX13_draw_19 : decode cX13_draw 19 = .ok (.bipush 16, 2) := by decide +kernel
theorem dX13_draw_21 : decode cX13_draw 21 = .ok (.iushr, 1) := by decide +kernel
theorem dX13_draw_22 : decode cX13_draw 22 = .ok (.iload_n 1, 1) := by decide +kernel
theorem dX13_draw_23 : decode cX13_draw 23 = .ok (.irem, 1) := by decide +kernel
theorem dX13_draw_24 : decode cX13_draw 24 = .ok (.ireturn, 1) := by decide +kernel
theorem dX13_put_0 : decode cX13_put 0 = .ok (.iconst 0, 1) := by decide +kernel
theorem dX13_put_1 : decode cX13_put 1 = .ok (.istore_n 2, 1) := by decide +kernel
theorem dX13_put_2 : decode cX13_put 2 = .ok (.iload_n 2, 1) := by decide +kernel
theorem dX13_put_3 : decode cX13_put 3 = .ok (.aload_n 1, 1) := by decide +kernel
theorem dX13_put_4 : decode cX13_put 4 = .ok (.invokevirtual 57, 3) := by decide +kernel
theorem dX13_put_7 : decode cX13_put 7 = .ok (.if_icmp .ge 31, 3) := by decide +kernel
theorem dX13_put_10 : decode cX13_put 10 = .ok (.aload_n 0, 1) := by decide +kernel
theorem dX13_put_11 : decode cX13_put 11 = .ok (.getfield 9, 3) := by decide +kernel
theorem dX13_put_14 : decode cX13_put 14 = .ok (.aload_n 0, 1) := by decide +kernel
theorem dX13_put_15 : decode cX13_put 15 = .ok (.dup, 1) := by decide +kernel
theorem dX13_put_16 : decode cX13_put 16 = .ok (.getfield 62, 3) := by decide +kernel
theorem dX13_put_19 : decode cX13_put 19 = .ok (.dup_x1, 1) := by decide +kernel
theorem dX13_put_20 : decode cX13_put 20 = .ok (.iconst 1, 1) := by decide +kernel
theorem dX13_put_21 : decode cX13_put 21 = .ok (.iadd, 1) := by decide +kernel
theorem dX13_put_22 : decode cX13_put 22 = .ok (.putfield 62, 3) := by decide +kernel
theorem dX13_put_25 : decode cX13_put 25 = .ok (.aload_n 1, 1) := by decide +kernel
theorem dX13_put_26 : decode cX13_put 26 = .ok (.iload_n 2, 1) := by decide +kernel
theorem dX13_put_27 : decode cX13_put 27 = .ok (.invokevirtual 65, 3) := by decide +kernel
theorem dX13_put_30 : decode cX13_put 30 = .ok (.i2b, 1) := by decide +kernel
theorem dX13_put_31 : decode cX13_put 31 = .ok (.bastore, 1) := by decide +kernel
theorem dX13_put_32 : decode cX13_put 32 = .ok (.iinc 2 1, 3) := by decide +kernel
theorem dX13_put_35 : decode cX13_put 35 = .ok (.goto (-33), 3) := by decide +kernel
theorem dX13_put_38 : decode cX13_put 38 = .ok (.return_, 1) := by decide +kernel
theorem dX13_digits_0 : decode cX13_digits 0 = .ok (.iload_n 1, 1) := by decide +kernel
theorem dX13_digits_1 : decode cX13_digits 1 = .ok (.bipush 9, 2) := by decide +kernel
theorem dX13_digits_3 : decode cX13_digits 3 = .ok (.if_icmp .le 11, 3) := by decide +kernel
theorem dX13_digits_6 : decode cX13_digits 6 = .ok (.aload_n 0, 1) := by decide +kernel
theorem dX13_digits_7 : decode cX13_digits 7 = .ok (.iload_n 1, 1) := by decide +kernel
theorem dX13_digits_8 : decode cX13_digits 8 = .ok (.bipush 10, 2) := by decide +kernel
theorem dX13_digits_10 : decode cX13_digits 10 = .ok (.idiv, 1) := by decide +kernel
theorem dX13_digits_11 : decode cX13_digits 11 = .ok (.invokevirtual 69, 3) := by decide +kernel
theorem dX13_digits_14 : decode cX13_digits 14 = .ok (.aload_n 0, 1) := by decide +kernel
theorem dX13_digits_15 : decode cX13_digits 15 = .ok (.getfield 9, 3) := by decide +kernel
theorem dX13_digits_18 : decode cX13_digits 18 = .ok (.aload_n 0, 1) := by decide +kernel
theorem dX13_digits_19 : decode cX13_digits 19 = .ok (.dup, 1) := by decide +kernel
theorem dX13_digits_20 : decode cX13_digits 20 = .ok (.getfield 62, 3) := by decide +kernel
theorem dX13_digits_23 : decode cX13_digits 23 = .ok (.dup_x1, 1) := by decide +kernel
theorem dX13_digits_24 : decode cX13_digits 24 = .ok (.iconst 1, 1) := by decide +kernel
theorem dX13_digits_25 : decode cX13_digits 25 = .ok (.iadd, 1) := by decide +kernel
theorem dX13_digits_26 : decode cX13_digits 26 = .ok (.putfield 62, 3) := by decide +kernel
theorem dX13_digits_29 : decode cX13_digits 29 = .ok (.bipush 48, 2) := by decide +kernel
theorem dX13_digits_31 : decode cX13_digits 31 = .ok (.iload_n 1, 1) := by decide +kernel
theorem dX13_digits_32 : decode cX13_digits 32 = .ok (.bipush 10, 2) := by decide +kernel
theorem dX13_digits_34 : decode cX13_digits 34 = .ok (.irem, 1) := by decide +kernel
theorem dX13_digits_35 : decode cX13_digits 35 = .ok (.iadd, 1) := by decide +kernel
theorem dX13_digits_36 : decode cX13_digits 36 = .ok (.i2b, 1) := by decide +kernel
theorem dX13_digits_37 : decode cX13_digits 37 = .ok (.bastore, 1) := by decide +kernel
theorem dX13_digits_38 : decode cX13_digits 38 = .ok (.return_, 1) := by decide +kernel
theorem dX13_put__0 : decode cX13_put_ 0 = .ok (.aload_n 0, 1) := by decide +kernel
theorem dX13_put__1 : decode cX13_put_ 1 = .ok (.ldc 73, 2) := by decide +kernel
theorem dX13_put__3 : decode cX13_put_ 3 = .ok (.invokevirtual 75, 3) := by decide +kernel
theorem dX13_put__6 : decode cX13_put_ 6 = .ok (.aload_n 0, 1) := by decide +kernel
theorem dX13_put__7 : decode cX13_put_ 7 = .ok (.iload_n 1, 1) := by decide +kernel
theorem dX13_put__8 : decode cX13_put_ 8 = .ok (.invokevirtual 69, 3) := by decide +kernel
theorem dX13_put__11 : decode cX13_put_ 11 = .ok (.return_, 1) := by decide +kernel
theorem dX13_letter_0 : decode cX13_letter 0 = .ok (.aload_n 0, 1) := by decide +kernel
theorem dX13_letter_1 : decode cX13_letter 1 = .ok (.ldc 73, 2) := by decide +kernel
theorem dX13_letter_3 : decode cX13_letter 3 = .ok (.invokevirtual 75, 3) := by decide +kernel
theorem dX13_letter_6 : decode cX13_letter 6 = .ok (.aload_n 0, 1) := by decide +kernel
theorem dX13_letter_7 : decode cX13_letter 7 = .ok (.getfield 9, 3) := by decide +kernel
theorem dX13_letter_10 : decode cX13_letter 10 = .ok (.aload_n 0, 1) := by decide +kernel
theorem dX13_letter_11 : decode cX13_letter 11 = .ok (.dup, 1) := by decide +kernel
theorem dX13_letter_12 : decode cX13_letter 12 = .ok (.getfield 62, 3) := by decide +kernel
theorem dX13_letter_15 : decode cX13_letter 15 = .ok (.dup_x1, 1) := by decide +kernel
theorem dX13_letter_16 : decode cX13_letter 16 = .ok (.iconst 1, 1) := by decide +kernel
theorem dX13_letter_17 : decode cX13_letter 17 = .ok (.iadd, 1) := by decide +kernel
theorem dX13_letter_18 : decode cX13_letter 18 = .ok (.putfield 62, 3) := by decide +kernel
theorem dX13_letter_21 : decode cX13_letter 21 = .ok (.iload_n 1, 1) := by decide +kernel
theorem dX13_letter_22 : decode cX13_letter 22 = .ok (.iload_n 2, 1) := by decide +kernel
theorem dX13_letter_23 : decode cX13_letter 23 = .ok (.iadd, 1) := by decide +kernel
theorem dX13_letter_24 : decode cX13_letter 24 = .ok (.i2b, 1) := by decide +kernel
theorem dX13_letter_25 : decode cX13_letter 25 = .ok (.bastore, 1) := by decide +kernel
theorem dX13_letter_26 : decode cX13_letter 26 = .ok (.return_, 1) := by decide +kernel
theorem dX13_four_0 : decode cX13_four 0 = .ok (.iconst 0, 1) := by decide +kernel
theorem dX13_four_1 : decode cX13_four 1 = .ok (.istore_n 2, 1) := by decide +kernel
theorem dX13_four_2 : decode cX13_four 2 = .ok (.iload_n 1, 1) := by decide +kernel
theorem dX13_four_3 : decode cX13_four 3 = .ok (.istore_n 3, 1) := by decide +kernel
theorem dX13_four_4 : decode cX13_four 4 = .ok (.iload_n 3, 1) := by decide +kernel
theorem dX13_four_5 : decode cX13_four 5 = .ok (.iload_n 1, 1) := by decide +kernel
theorem dX13_four_6 : decode cX13_four 6 = .ok (.iconst 4, 1) := by decide +kernel
theorem dX13_four_7 : decode cX13_four 7 = .ok (.iadd, 1) := by decide +kernel
theorem dX13_four_8 : decode cX13_four 8 = .ok (.if_icmp .ge 34, 3) := by decide +kernel
theorem dX13_four_11 : decode cX13_four 11 = .ok (.iload_n 2, 1) := by decide +kernel
theorem dX13_four_12 : decode cX13_four 12 = .ok (.bipush 8, 2) := by decide +kernel
theorem dX13_four_14 : decode cX13_four 14 = .ok (.ishl, 1) := by decide +kernel
theorem dX13_four_15 : decode cX13_four 15 = .ok (.iload_n 3, 1) := by decide +kernel
end
section
theorem dX13_four_16 : decode cX13_four 16 = .ok (.aload_n 0, 1) := by decide +kernel
theorem dX13_four_17 : decode cX13_four 17 = .ok (.getfield 62, 3) := by decide +kernel
theorem dX13_four_20 : decode cX13_four 20 = .ok (.if_icmp .ge 12, 3) := by decide +kernel
theorem dX13_four_23 : decode cX13_four 23 = .ok (.aload_n 0, 1) := by decide +kernel
theorem dX13_four_24 : decode cX13_four 24 = .ok (.getfield 9, 3) := by decide +kernel
theorem dX13_four_27 : decode cX13_four 27 = .ok (.iload_n 3, 1) := by decide +kernel
theorem dX13_four_28 : decode cX13_four 28 = .ok (.baload, 1) := by decide +kernel
theorem dX13_four_29 : decode cX13_four 29 = .ok (.goto 5, 3) := by decide +kernel
theorem dX13_four_32 : decode cX13_four 32 = .ok (.bipush 32, 2) := by decide +kernel
theorem dX13_four_34 : decode cX13_four 34 = .ok (.ior, 1) := by decide +kernel
theorem dX13_four_35 : decode cX13_four 35 = .ok (.istore_n 2, 1) := by decide +kernel
theorem dX13_four_36 : decode cX13_four 36 = .ok (.iinc 3 1, 3) := by decide +kernel
theorem dX13_four_39 : decode cX13_four 39 = .ok (.goto (-35), 3) := by decide +kernel
theorem dX13_four_42 : decode cX13_four 42 = .ok (.iload_n 2, 1) := by decide +kernel
theorem dX13_four_43 : decode cX13_four 43 = .ok (.ireturn, 1) := by decide +kernel
theorem dX13_send_0 : decode cX13_send 0 = .ok (.iconst 0, 1) := by decide +kernel
theorem dX13_send_1 : decode cX13_send 1 = .ok (.istore_n 2, 1) := by decide +kernel
theorem dX13_send_2 : decode cX13_send 2 = .ok (.iload_n 2, 1) := by decide +kernel
theorem dX13_send_3 : decode cX13_send 3 = .ok (.aload_n 0, 1) := by decide +kernel
theorem dX13_send_4 : decode cX13_send 4 = .ok (.getfield 62, 3) := by decide +kernel
theorem dX13_send_7 : decode cX13_send 7 = .ok (.if_icmp .ge 58, 3) := by decide +kernel
theorem dX13_send_10 : decode cX13_send 10 = .ok (.aload_n 1, 1) := by decide +kernel
theorem dX13_send_11 : decode cX13_send 11 = .ok (.aload_n 0, 1) := by decide +kernel
theorem dX13_send_12 : decode cX13_send 12 = .ok (.iload_n 2, 1) := by decide +kernel
theorem dX13_send_13 : decode cX13_send 13 = .ok (.invokevirtual 79, 3) := by decide +kernel
theorem dX13_send_16 : decode cX13_send 16 = .ok (.aload_n 0, 1) := by decide +kernel
theorem dX13_send_17 : decode cX13_send 17 = .ok (.iload_n 2, 1) := by decide +kernel
theorem dX13_send_18 : decode cX13_send 18 = .ok (.iconst 4, 1) := by decide +kernel
theorem dX13_send_19 : decode cX13_send 19 = .ok (.iadd, 1) := by decide +kernel
theorem dX13_send_20 : decode cX13_send 20 = .ok (.invokevirtual 79, 3) := by decide +kernel
theorem dX13_send_23 : decode cX13_send 23 = .ok (.aload_n 0, 1) := by decide +kernel
theorem dX13_send_24 : decode cX13_send 24 = .ok (.iload_n 2, 1) := by decide +kernel
theorem dX13_send_25 : decode cX13_send 25 = .ok (.bipush 8, 2) := by decide +kernel
theorem dX13_send_27 : decode cX13_send 27 = .ok (.iadd, 1) := by decide +kernel
theorem dX13_send_28 : decode cX13_send 28 = .ok (.invokevirtual 79, 3) := by decide +kernel
theorem dX13_send_31 : decode cX13_send 31 = .ok (.aload_n 0, 1) := by decide +kernel
theorem dX13_send_32 : decode cX13_send 32 = .ok (.iload_n 2, 1) := by decide +kernel
theorem dX13_send_33 : decode cX13_send 33 = .ok (.bipush 12, 2) := by decide +kernel
theorem dX13_send_35 : decode cX13_send 35 = .ok (.iadd, 1) := by decide +kernel
theorem dX13_send_36 : decode cX13_send 36 = .ok (.invokevirtual 79, 3) := by decide +kernel
theorem dX13_send_39 : decode cX13_send 39 = .ok (.aload_n 0, 1) := by decide +kernel
theorem dX13_send_40 : decode cX13_send 40 = .ok (.iload_n 2, 1) := by decide +kernel
theorem dX13_send_41 : decode cX13_send 41 = .ok (.bipush 16, 2) := by decide +kernel
theorem dX13_send_43 : decode cX13_send 43 = .ok (.iadd, 1) := by decide +kernel
theorem dX13_send_44 : decode cX13_send 44 = .ok (.invokevirtual 79, 3) := by decide +kernel
theorem dX13_send_47 : decode cX13_send 47 = .ok (.invokevirtual 83, 3) := by decide +kernel
theorem dX13_send_50 : decode cX13_send 50 = .ok (.iload_n 2, 1) := by decide +kernel
theorem dX13_send_51 : decode cX13_send 51 = .ok (.bipush 20, 2) := by decide +kernel
theorem dX13_send_53 : decode cX13_send 53 = .ok (.iadd, 1) := by decide +kernel
theorem dX13_send_54 : decode cX13_send 54 = .ok (.if_icmp .eq 5, 3) := by decide +kernel
theorem dX13_send_57 : decode cX13_send 57 = .ok (.iconst 0, 1) := by decide +kernel
theorem dX13_send_58 : decode cX13_send 58 = .ok (.ireturn, 1) := by decide +kernel
theorem dX13_send_59 : decode cX13_send 59 = .ok (.iinc 2 20, 3) := by decide +kernel
theorem dX13_send_62 : decode cX13_send 62 = .ok (.goto (-60), 3) := by decide +kernel
theorem dX13_send_65 : decode cX13_send 65 = .ok (.aload_n 0, 1) := by decide +kernel
theorem dX13_send_66 : decode cX13_send 66 = .ok (.iconst 0, 1) := by decide +kernel
theorem dX13_send_67 : decode cX13_send 67 = .ok (.putfield 62, 3) := by decide +kernel
theorem dX13_send_70 : decode cX13_send 70 = .ok (.iconst 1, 1) := by decide +kernel
theorem dX13_send_71 : decode cX13_send 71 = .ok (.ireturn, 1) := by decide +kernel
theorem dX13_begin_0 : decode cX13_begin 0 = .ok (.aload_n 0, 1) := by decide +kernel
theorem dX13_begin_1 : decode cX13_begin 1 = .ok (.iload_n 2, 1) := by decide +kernel
theorem dX13_begin_2 : decode cX13_begin 2 = .ok (.putfield 52, 3) := by decide +kernel
theorem dX13_begin_5 : decode cX13_begin 5 = .ok (.aload_n 0, 1) := by decide +kernel
theorem dX13_begin_6 : decode cX13_begin 6 = .ok (.iconst 0, 1) := by decide +kernel
theorem dX13_begin_7 : decode cX13_begin 7 = .ok (.putfield 89, 3) := by decide +kernel
theorem dX13_begin_10 : decode cX13_begin 10 = .ok (.aload_n 0, 1) := by decide +kernel
theorem dX13_begin_11 : decode cX13_begin 11 = .ok (.iconst 1, 1) := by decide +kernel
theorem dX13_begin_12 : decode cX13_begin 12 = .ok (.aload_n 0, 1) := by decide +kernel
theorem dX13_begin_13 : decode cX13_begin 13 = .ok (.bipush 7, 2) := by decide +kernel
theorem dX13_begin_15 : decode cX13_begin 15 = .ok (.invokevirtual 92, 3) := by decide +kernel
theorem dX13_begin_18 : decode cX13_begin 18 = .ok (.iadd, 1) := by decide +kernel
theorem dX13_begin_19 : decode cX13_begin 19 = .ok (.putfield 95, 3) := by decide +kernel
theorem dX13_begin_22 : decode cX13_begin 22 = .ok (.aload_n 0, 1) := by decide +kernel
theorem dX13_begin_23 : decode cX13_begin 23 = .ok (.iconst 1, 1) := by decide +kernel
theorem dX13_begin_24 : decode cX13_begin 24 = .ok (.aload_n 0, 1) := by decide +kernel
theorem dX13_begin_25 : decode cX13_begin 25 = .ok (.bipush 7, 2) := by decide +kernel
theorem dX13_begin_27 : decode cX13_begin 27 = .ok (.invokevirtual 92, 3) := by decide +kernel
theorem dX13_begin_30 : decode cX13_begin 30 = .ok (.iadd, 1) := by decide +kernel
theorem dX13_begin_31 : decode cX13_begin 31 = .ok (.putfield 98, 3) := by decide +kernel
theorem dX13_begin_34 : decode cX13_begin 34 = .ok (.iconst 0, 1) := by decide +kernel
theorem dX13_begin_35 : decode cX13_begin 35 = .ok (.istore_n 3, 1) := by decide +kernel
theorem dX13_begin_36 : decode cX13_begin 36 = .ok (.iload_n 3, 1) := by decide +kernel
theorem dX13_begin_37 : decode cX13_begin 37 = .ok (.bipush 8, 2) := by decide +kernel
theorem dX13_begin_39 : decode cX13_begin 39 = .ok (.if_icmp .ge 16, 3) := by decide +kernel
theorem dX13_begin_42 : decode cX13_begin 42 = .ok (.aload_n 0, 1) := by decide +kernel
theorem dX13_begin_43 : decode cX13_begin 43 = .ok (.getfield 25, 3) := by decide +kernel
theorem dX13_begin_46 : decode cX13_begin 46 = .ok (.iload_n 3, 1) := by decide +kernel
theorem dX13_begin_47 : decode cX13_begin 47 = .ok (.iconst (-1), 1) := by decide +kernel
theorem dX13_begin_48 : decode cX13_begin 48 = .ok (.iastore, 1) := by decide +kernel
theorem dX13_begin_49 : decode cX13_begin 49 = .ok (.iinc 3 1, 3) := by decide +kernel
theorem dX13_begin_52 : decode cX13_begin 52 = .ok (.goto (-16), 3) := by decide +kernel
theorem dX13_begin_55 : decode cX13_begin 55 = .ok (.aload_n 0, 1) := by decide +kernel
theorem dX13_begin_56 : decode cX13_begin 56 = .ok (.ldc 101, 2) := by decide +kernel
theorem dX13_begin_58 : decode cX13_begin 58 = .ok (.invokevirtual 75, 3) := by decide +kernel
theorem dX13_begin_61 : decode cX13_begin 61 = .ok (.iconst 0, 1) := by decide +kernel
theorem dX13_begin_62 : decode cX13_begin 62 = .ok (.istore_n 3, 1) := by decide +kernel
theorem dX13_begin_63 : decode cX13_begin 63 = .ok (.iload_n 3, 1) := by decide +kernel
theorem dX13_begin_64 : decode cX13_begin 64 = .ok (.aload_n 0, 1) := by decide +kernel
theorem dX13_begin_65 : decode cX13_begin 65 = .ok (.getfield 95, 3) := by decide +kernel
theorem dX13_begin_68 : decode cX13_begin 68 = .ok (.if_icmp .ge 63, 3) := by decide +kernel
theorem dX13_begin_71 : decode cX13_begin 71 = .ok (.aload_n 0, 1) := by decide +kernel
theorem dX13_begin_72 : decode cX13_begin 72 = .ok (.getfield 15, 3) := by decide +kernel
theorem dX13_begin_75 : decode cX13_begin 75 = .ok (.iload_n 3, 1) := by decide +kernel
theorem dX13_begin_76 : decode cX13_begin 76 = .ok (.aload_n 0, 1) := by decide +kernel
theorem dX13_begin_77 : decode cX13_begin 77 = .ok (.aload_n 0, 1) := by decide +kernel
theorem dX13_begin_78 : decode cX13_begin 78 = .ok (.iconst 2, 1) := by decide +kernel
theorem dX13_begin_79 : decode cX13_begin 79 = .ok (.invokevirtual 92, 3) := by decide +kernel
theorem dX13_begin_82 : decode cX13_begin 82 = .ok (.ifCond .ne 8, 3) := by decide +kernel
theorem dX13_begin_85 : decode cX13_begin 85 = .ok (.bipush 100, 2) := by decide +kernel
theorem dX13_begin_87 : decode cX13_begin 87 = .ok (.goto 5, 3) := by decide +kernel
theorem dX13_begin_90 : decode cX13_begin 90 = .ok (.bipush 20, 2) := by decide +kernel
theorem dX13_begin_92 : decode cX13_begin 92 = .ok (.invokevirtual 92, 3) := by decide +kernel
theorem dX13_begin_95 : decode cX13_begin 95 = .ok (.iastore, 1) := by decide +kernel
theorem dX13_begin_96 : decode cX13_begin 96 = .ok (.aload_n 0, 1) := by decide +kernel
theorem dX13_begin_97 : decode cX13_begin 97 = .ok (.ldc 103, 2) := by decide +kernel
theorem dX13_begin_99 : decode cX13_begin 99 = .ok (.invokevirtual 75, 3) := by decide +kernel
theorem dX13_begin_102 : decode cX13_begin 102 = .ok (.aload_n 0, 1) := by decide +kernel
theorem dX13_begin_103 : decode cX13_begin 103 = .ok (.bipush 112, 2) := by decide +kernel
theorem dX13_begin_105 : decode cX13_begin 105 = .ok (.iload_n 3, 1) := by decide +kernel
theorem dX13_begin_106 : decode cX13_begin 106 = .ok (.invokevirtual 105, 3) := by decide +kernel
theorem dX13_begin_109 : decode cX13_begin 109 = .ok (.aload_n 0, 1) := by decide +kernel
theorem dX13_begin_110 : decode cX13_begin 110 = .ok (.aload_n 0, 1) := by decide +kernel
theorem dX13_begin_111 : decode cX13_begin 111 = .ok (.getfield 15, 3) := by decide +kernel
theorem dX13_begin_114 : decode cX13_begin 114 = .ok (.iload_n 3, 1) := by decide +kernel
theorem dX13_begin_115 : decode cX13_begin 115 = .ok (.iaload, 1) := by decide +kernel
theorem dX13_begin_116 : decode cX13_begin 116 = .ok (.invokevirtual 109, 3) := by decide +kernel
theorem dX13_begin_119 : decode cX13_begin 119 = .ok (.aload_n 0, 1) := by decide +kernel
theorem dX13_begin_120 : decode cX13_begin 120 = .ok (.ldc 111, 2) := by decide +kernel
theorem dX13_begin_122 : decode cX13_begin 122 = .ok (.invokevirtual 75, 3) := by decide +kernel
theorem dX13_begin_125 : decode cX13_begin 125 = .ok (.iinc 3 1, 3) := by decide +kernel
theorem dX13_begin_128 : decode cX13_begin 128 = .ok (.goto (-65), 3) := by decide +kernel
theorem dX13_begin_131 : decode cX13_begin 131 = .ok (.iconst 0, 1) := by decide +kernel
theorem dX13_begin_132 : decode cX13_begin 132 = .ok (.istore_n 3, 1) := by decide +kernel
theorem dX13_begin_133 : decode cX13_begin 133 = .ok (.iload_n 3, 1) := by decide +kernel
theorem dX13_begin_134 : decode cX13_begin 134 = .ok (.aload_n 0, 1) := by decide +kernel
theorem dX13_begin_135 : decode cX13_begin 135 = .ok (.getfield 98, 3) := by decide +kernel
theorem dX13_begin_138 : decode cX13_begin 138 = .ok (.if_icmp .ge 219, 3) := by decide +kernel
theorem dX13_begin_141 : decode cX13_begin 141 = .ok (.aload_n 0, 1) := by decide +kernel
theorem dX13_begin_142 : decode cX13_begin 142 = .ok (.getfield 19, 3) := by decide +kernel
theorem dX13_begin_145 : decode cX13_begin 145 = .ok (.iload_n 3, 1) := by decide +kernel
theorem dX13_begin_146 : decode cX13_begin 146 = .ok (.aload_n 0, 1) := by decide +kernel
theorem dX13_begin_147 : decode cX13_begin 147 = .ok (.sipush 200, 3) := by decide +kernel
theorem dX13_begin_150 : decode cX13_begin 150 = .ok (.invokevirtual 92, 3) := by decide +kernel
theorem dX13_begin_153 : decode cX13_begin 153 = .ok (.iastore, 1) := by decide +kernel
theorem dX13_begin_154 : decode cX13_begin 154 = .ok (.aload_n 0, 1) := by decide +kernel
theorem dX13_begin_155 : decode cX13_begin 155 = .ok (.getfield 22, 3) := by decide +kernel
theorem dX13_begin_158 : decode cX13_begin 158 = .ok (.iload_n 3, 1) := by decide +kernel
theorem dX13_begin_159 : decode cX13_begin 159 = .ok (.aload_n 0, 1) := by decide +kernel
theorem dX13_begin_160 : decode cX13_begin 160 = .ok (.bipush 60, 2) := by decide +kernel
theorem dX13_begin_162 : decode cX13_begin 162 = .ok (.invokevirtual 92, 3) := by decide +kernel
theorem dX13_begin_165 : decode cX13_begin 165 = .ok (.iastore, 1) := by decide +kernel
theorem dX13_begin_166 : decode cX13_begin 166 = .ok (.aload_n 0, 1) := by decide +kernel
theorem dX13_begin_167 : decode cX13_begin 167 = .ok (.getfield 25, 3) := by decide +kernel
theorem dX13_begin_170 : decode cX13_begin 170 = .ok (.iload_n 3, 1) := by decide +kernel
theorem dX13_begin_171 : decode cX13_begin 171 = .ok (.iconst (-1), 1) := by decide +kernel
theorem dX13_begin_172 : decode cX13_begin 172 = .ok (.iastore, 1) := by decide +kernel
theorem dX13_begin_173 : decode cX13_begin 173 = .ok (.aload_n 0, 1) := by decide +kernel
theorem dX13_begin_174 : decode cX13_begin 174 = .ok (.getfield 28, 3) := by decide +kernel
theorem dX13_begin_177 : decode cX13_begin 177 = .ok (.iload_n 3, 1) := by decide +kernel
theorem dX13_begin_178 : decode cX13_begin 178 = .ok (.iconst 0, 1) := by decide +kernel
theorem dX13_begin_179 : decode cX13_begin 179 = .ok (.iastore, 1) := by decide +kernel
theorem dX13_begin_180 : decode cX13_begin 180 = .ok (.aload_n 0, 1) := by decide +kernel
theorem dX13_begin_181 : decode cX13_begin 181 = .ok (.getfield 31, 3) := by decide +kernel
theorem dX13_begin_184 : decode cX13_begin 184 = .ok (.iload_n 3, 1) := by decide +kernel
theorem dX13_begin_185 : decode cX13_begin 185 = .ok (.iload_n 3, 1) := by decide +kernel
theorem dX13_begin_186 : decode cX13_begin 186 = .ok (.iastore, 1) := by decide +kernel
theorem dX13_begin_187 : decode cX13_begin 187 = .ok (.aload_n 0, 1) := by decide +kernel
theorem dX13_begin_188 : decode cX13_begin 188 = .ok (.ldc 113, 2) := by decide +kernel
theorem dX13_begin_190 : decode cX13_begin 190 = .ok (.invokevirtual 75, 3) := by decide +kernel
theorem dX13_begin_193 : decode cX13_begin 193 = .ok (.aload_n 0, 1) := by decide +kernel
theorem dX13_begin_194 : decode cX13_begin 194 = .ok (.bipush 97, 2) := by decide +kernel
theorem dX13_begin_196 : decode cX13_begin 196 = .ok (.iload_n 3, 1) := by decide +kernel
theorem dX13_begin_197 : decode cX13_begin 197 = .ok (.invokevirtual 105, 3) := by decide +kernel
theorem dX13_begin_200 : decode cX13_begin 200 = .ok (.aload_n 0, 1) := by decide +kernel
theorem dX13_begin_201 : decode cX13_begin 201 = .ok (.aload_n 0, 1) := by decide +kernel
theorem dX13_begin_202 : decode cX13_begin 202 = .ok (.getfield 19, 3) := by decide +kernel
theorem dX13_begin_205 : decode cX13_begin 205 = .ok (.iload_n 3, 1) := by decide +kernel
theorem dX13_begin_206 : decode cX13_begin 206 = .ok (.iaload, 1) := by decide +kernel
theorem dX13_begin_207 : decode cX13_begin 207 = .ok (.invokevirtual 109, 3) := by decide +kernel
theorem dX13_begin_210 : decode cX13_begin 210 = .ok (.aload_n 0, 1) := by decide +kernel
theorem dX13_begin_211 : decode cX13_begin 211 = .ok (.aload_n 0, 1) := by decide +kernel
theorem dX13_begin_212 : decode cX13_begin 212 = .ok (.getfield 22, 3) := by decide +kernel
theorem dX13_begin_215 : decode cX13_begin 215 = .ok (.iload_n 3, 1) := by decide +kernel
theorem dX13_begin_216 : decode cX13_begin 216 = .ok (.iaload, 1) := by decide +kernel
theorem dX13_begin_217 : decode cX13_begin 217 = .ok (.invokevirtual 109, 3) := by decide +kernel
theorem dX13_begin_220 : decode cX13_begin 220 = .ok (.aload_n 0, 1) := by decide +kernel
theorem dX13_begin_221 : decode cX13_begin 221 = .ok (.aload_n 0, 1) := by decide +kernel
theorem dX13_begin_222 : decode cX13_begin 222 = .ok (.getfield 95, 3) := by decide +kernel
theorem dX13_begin_225 : decode cX13_begin 225 = .ok (.iconst 1, 1) := by decide +kernel
theorem dX13_begin_226 : decode cX13_begin 226 = .ok (.iadd, 1) := by decide +kernel
theorem dX13_begin_227 : decode cX13_begin 227 = .ok (.invokevirtual 92, 3) := by decide +kernel
theorem dX13_begin_230 : decode cX13_begin 230 = .ok (.istore 4, 2) := by decide +kernel
theorem dX13_begin_232 : decode cX13_begin 232 = .ok (.iload 4, 2) := by decide +kernel
theorem dX13_begin_234 : decode cX13_begin 234 = .ok (.ifCond .le 61, 3) := by decide +kernel
theorem dX13_begin_237 : decode cX13_begin 237 = .ok (.aload_n 0, 1) := by decide +kernel
theorem dX13_begin_238 : decode cX13_begin 238 = .ok (.aload_n 0, 1) := by decide +kernel
theorem dX13_begin_239 : decode cX13_begin 239 = .ok (.getfield 95, 3) := by decide +kernel
theorem dX13_begin_242 : decode cX13_begin 242 = .ok (.invokevirtual 92, 3) := by decide +kernel
theorem dX13_begin_245 : decode cX13_begin 245 = .ok (.istore 5, 2) := by decide +kernel
theorem dX13_begin_247 : decode cX13_begin 247 = .ok (.aload_n 0, 1) := by decide +kernel
theorem dX13_begin_248 : decode cX13_begin 248 = .ok (.iload_n 3, 1) := by decide +kernel
theorem dX13_begin_249 : decode cX13_begin 249 = .ok (.iload 5, 2) := by decide +kernel
theorem dX13_begin_251 : decode cX13_begin 251 = .ok (.invokevirtual 115, 3) := by decide +kernel
theorem dX13_begin_254 : decode cX13_begin 254 = .ok (.iconst (-1), 1) := by decide +kernel
theorem dX13_begin_255 : decode cX13_begin 255 = .ok (.if_icmp .eq 6, 3) := by decide +kernel
theorem dX13_begin_258 : decode cX13_begin 258 = .ok (.goto 31, 3) := by decide +kernel
theorem dX13_begin_261 : decode cX13_begin 261 = .ok (.aload_n 0, 1) := by decide +kernel
theorem dX13_begin_262 : decode cX13_begin 262 = .ok (.getfield 45, 3) := by decide +kernel
theorem dX13_begin_265 : decode cX13_begin 265 = .ok (.iload_n 3, 1) := by decide +kernel
theorem dX13_begin_266 : decode cX13_begin 266 = .ok (.aaload, 1) := by decide +kernel
theorem dX13_begin_267 : decode cX13_begin 267 = .ok (.aload_n 0, 1) := by decide +kernel
theorem dX13_begin_268 : decode cX13_begin 268 = .ok (.getfield 28, 3) := by decide +kernel
theorem dX13_begin_271 : decode cX13_begin 271 = .ok (.iload_n 3, 1) := by decide +kernel
theorem dX13_begin_272 : decode cX13_begin 272 = .ok (.dup2, 1) := by decide +kernel
theorem dX13_begin_273 : decode cX13_begin 273 = .ok (.iaload, 1) := by decide +kernel
theorem dX13_begin_274 : decode cX13_begin 274 = .ok (.dup_x2, 1) := by decide +kernel
theorem dX13_begin_275 : decode cX13_begin 275 = .ok (.iconst 1, 1) := by decide +kernel
theorem dX13_begin_276 : decode cX13_begin 276 = .ok (.iadd, 1) := by decide +kernel
theorem dX13_begin_277 : decode cX13_begin 277 = .ok (.iastore, 1) := by decide +kernel
theorem dX13_begin_278 : decode cX13_begin 278 = .ok (.iload 5, 2) := by decide +kernel
theorem dX13_begin_280 : decode cX13_begin 280 = .ok (.iastore, 1) := by decide +kernel
theorem dX13_begin_281 : decode cX13_begin 281 = .ok (.aload_n 0, 1) := by decide +kernel
theorem dX13_begin_282 : decode cX13_begin 282 = .ok (.bipush 112, 2) := by decide +kernel
theorem dX13_begin_284 : decode cX13_begin 284 = .ok (.iload 5, 2) := by decide +kernel
theorem dX13_begin_286 : decode cX13_begin 286 = .ok (.invokevirtual 105, 3) := by decide +kernel
theorem dX13_begin_289 : decode cX13_begin 289 = .ok (.iinc 4 (-1), 3) := by decide +kernel
theorem dX13_begin_292 : decode cX13_begin 292 = .ok (.goto (-60), 3) := by decide +kernel
theorem dX13_begin_295 : decode cX13_begin 295 = .ok (.aload_n 0, 1) := by decide +kernel
theorem dX13_begin_296 : decode cX13_begin 296 = .ok (.aload_n 0, 1) := by decide +kernel
theorem dX13_begin_297 : decode cX13_begin 297 = .ok (.getfield 95, 3) := by decide +kernel
theorem dX13_begin_300 : decode cX13_begin 300 = .ok (.invokevirtual 92, 3) := by decide +kernel
theorem dX13_begin_303 : decode cX13_begin 303 = .ok (.istore 4, 2) := by decide +kernel
theorem dX13_begin_305 : decode cX13_begin 305 = .ok (.aload_n 0, 1) := by decide +kernel
theorem dX13_begin_306 : decode cX13_begin 306 = .ok (.iconst 3, 1) := by decide +kernel
theorem dX13_begin_307 : decode cX13_begin 307 = .ok (.invokevirtual 92, 3) := by decide +kernel
theorem dX13_begin_310 : decode cX13_begin 310 = .ok (.ifCond .le 35, 3) := by decide +kernel
theorem dX13_begin_313 : decode cX13_begin 313 = .ok (.aload_n 0, 1) := by decide +kernel
theorem dX13_begin_314 : decode cX13_begin 314 = .ok (.iload 4, 2) := by decide +kernel
theorem dX13_begin_316 : decode cX13_begin 316 = .ok (.invokevirtual 119, 3) := by decide +kernel
theorem dX13_begin_319 : decode cX13_begin 319 = .ok (.iconst (-1), 1) := by decide +kernel
theorem dX13_begin_320 : decode cX13_begin 320 = .ok (.if_icmp .ne 25, 3) := by decide +kernel
theorem dX13_begin_323 : decode cX13_begin 323 = .ok (.aload_n 0, 1) := by decide +kernel
theorem dX13_begin_324 : decode cX13_begin 324 = .ok (.getfield 25, 3) := by decide +kernel
theorem dX13_begin_327 : decode cX13_begin 327 = .ok (.iload_n 3, 1) := by decide +kernel
theorem dX13_begin_328 : decode cX13_begin 328 = .ok (.iload 4, 2) := by decide +kernel
theorem dX13_begin_330 : decode cX13_begin 330 = .ok (.iastore, 1) := by decide +kernel
theorem dX13_begin_331 : decode cX13_begin 331 = .ok (.aload_n 0, 1) := by decide +kernel
theorem dX13_begin_332 : decode cX13_begin 332 = .ok (.ldc 122, 2) := by decide +kernel
theorem dX13_begin_334 : decode cX13_begin 334 = .ok (.invokevirtual 75, 3) := by decide +kernel
theorem dX13_begin_337 : decode cX13_begin 337 = .ok (.aload_n 0, 1) := by decide +kernel
theorem dX13_begin_338 : decode cX13_begin 338 = .ok (.bipush 112, 2) := by decide +kernel
theorem dX13_begin_340 : decode cX13_begin 340 = .ok (.iload 4, 2) := by decide +kernel
theorem dX13_begin_342 : decode cX13_begin 342 = .ok (.invokevirtual 105, 3) := by decide +kernel
theorem dX13_begin_345 : decode cX13_begin 345 = .ok (.aload_n 0, 1) := by decide +kernel
theorem dX13_begin_346 : decode cX13_begin 346 = .ok (.ldc 111, 2) := by decide +kernel
theorem dX13_begin_348 : decode cX13_begin 348 = .ok (.invokevirtual 75, 3) := by decide +kernel
theorem dX13_begin_351 : decode cX13_begin 351 = .ok (.iinc 3 1, 3) := by decide +kernel
theorem dX13_begin_354 : decode cX13_begin 354 = .ok (.goto (-221), 3) := by decide +kernel
theorem dX13_begin_357 : decode cX13_begin 357 = .ok (.aload_n 0, 1) := by decide +kernel
theorem dX13_begin_358 : decode cX13_begin 358 = .ok (.aload_n 1, 1) := by decide +kernel
theorem dX13_begin_359 : decode cX13_begin 359 = .ok (.invokevirtual 124, 3) := by decide +kernel
theorem dX13_begin_362 : decode cX13_begin 362 = .ok (.ifCond .eq 18, 3) := by decide +kernel
theorem dX13_begin_365 : decode cX13_begin 365 = .ok (.aload_n 1, 1) := by decide +kernel
theorem dX13_begin_366 : decode cX13_begin 366 = .ok (.invokevirtual 128, 3) := by decide +kernel
theorem dX13_begin_369 : decode cX13_begin 369 = .ok (.aload_n 0, 1) := by decide +kernel
theorem dX13_begin_370 : decode cX13_begin 370 = .ok (.getfield 98, 3) := by decide +kernel
theorem dX13_begin_373 : decode cX13_begin 373 = .ok (.if_icmp .ne 7, 3) := by decide +kernel
theorem dX13_begin_376 : decode cX13_begin 376 = .ok (.iconst 1, 1) := by decide +kernel
theorem dX13_begin_377 : decode cX13_begin 377 = .ok (.goto 4, 3) := by decide +kernel
theorem dX13_begin_380 : decode cX13_begin 380 = .ok (.iconst 0, 1) := by decide +kernel
theorem dX13_begin_381 : decode cX13_begin 381 = .ok (.ireturn, 1) := by decide +kernel
theorem dX13_rank_0 : decode cX13_rank 0 = .ok (.iconst 0, 1) := by decide +kernel
theorem dX13_rank_1 : decode cX13_rank 1 = .ok (.istore_n 3, 1) := by decide +kernel
theorem dX13_rank_2 : decode cX13_rank 2 = .ok (.iload_n 3, 1) := by decide +kernel
theorem dX13_rank_3 : decode cX13_rank 3 = .ok (.aload_n 0, 1) := by decide +kernel
theorem dX13_rank_4 : decode cX13_rank 4 = .ok (.getfield 28, 3) := by decide +kernel
theorem dX13_rank_7 : decode cX13_rank 7 = .ok (.iload_n 1, 1) := by decide +kernel
theorem dX13_rank_8 : decode cX13_rank 8 = .ok (.iaload, 1) := by decide +kernel
theorem dX13_rank_9 : decode cX13_rank 9 = .ok (.if_icmp .ge 23, 3) := by decide +kernel
theorem dX13_rank_12 : decode cX13_rank 12 = .ok (.aload_n 0, 1) := by decide +kernel
theorem dX13_rank_13 : decode cX13_rank 13 = .ok (.getfield 45, 3) := by decide +kernel
theorem dX13_rank_16 : decode cX13_rank 16 = .ok (.iload_n 1, 1) := by decide +kernel
theorem dX13_rank_17 : decode cX13_rank 17 = .ok (.aaload, 1) := by decide +kernel
theorem dX13_rank_18 : decode cX13_rank 18 = .ok (.iload_n 3, 1) := by decide +kernel
theorem dX13_rank_19 : decode cX13_rank 19 = .ok (.iaload, 1) := by decide +kernel
theorem dX13_rank_20 : decode cX13_rank 20 = .ok (.iload_n 2, 1) := by decide +kernel
theorem dX13_rank_21 : decode cX13_rank 21 = .ok (.if_icmp .ne 5, 3) := by decide +kernel
theorem dX13_rank_24 : decode cX13_rank 24 = .ok (.iload_n 3, 1) := by decide +kernel
theorem dX13_rank_25 : decode cX13_rank 25 = .ok (.ireturn, 1) := by decide +kernel
theorem dX13_rank_26 : decode cX13_rank 26 = .ok (.iinc 3 1, 3) := by decide +kernel
theorem dX13_rank_29 : decode cX13_rank 29 = .ok (.goto (-27), 3) := by decide +kernel
theorem dX13_rank_32 : decode cX13_rank 32 = .ok (.iconst (-1), 1) := by decide +kernel
theorem dX13_rank_33 : decode cX13_rank 33 = .ok (.ireturn, 1) := by decide +kernel
theorem dX13_tenant_0 : decode cX13_tenant 0 = .ok (.iconst 0, 1) := by decide +kernel
theorem dX13_tenant_1 : decode cX13_tenant 1 = .ok (.istore_n 2, 1) := by decide +kernel
theorem dX13_tenant_2 : decode cX13_tenant 2 = .ok (.iload_n 2, 1) := by decide +kernel
theorem dX13_tenant_3 : decode cX13_tenant 3 = .ok (.aload_n 0, 1) := by decide +kernel
theorem dX13_tenant_4 : decode cX13_tenant 4 = .ok (.getfield 98, 3) := by decide +kernel
theorem dX13_tenant_7 : decode cX13_tenant 7 = .ok (.if_icmp .ge 21, 3) := by decide +kernel
theorem dX13_tenant_10 : decode cX13_tenant 10 = .ok (.aload_n 0, 1) := by decide +kernel
theorem dX13_tenant_11 : decode cX13_tenant 11 = .ok (.getfield 25, 3) := by decide +kernel
theorem dX13_tenant_14 : decode cX13_tenant 14 = .ok (.iload_n 2, 1) := by decide +kernel
theorem dX13_tenant_15 : decode cX13_tenant 15 = .ok (.iaload, 1) := by decide +kernel
theorem dX13_tenant_16 : decode cX13_tenant 16 = .ok (.iload_n 1, 1) := by decide +kernel
theorem dX13_tenant_17 : decode cX13_tenant 17 = .ok (.if_icmp .ne 5, 3) := by decide +kernel
theorem dX13_tenant_20 : decode cX13_tenant 20 = .ok (.iload_n 2, 1) := by decide +kernel
theorem dX13_tenant_21 : decode cX13_tenant 21 = .ok (.ireturn, 1) := by decide +kernel
theorem dX13_tenant_22 : decode cX13_tenant 22 = .ok (.iinc 2 1, 3) := by decide +kernel
theorem dX13_tenant_25 : decode cX13_tenant 25 = .ok (.goto (-23), 3) := by decide +kernel
theorem dX13_tenant_28 : decode cX13_tenant 28 = .ok (.iconst (-1), 1) := by decide +kernel
theorem dX13_tenant_29 : decode cX13_tenant 29 = .ok (.ireturn, 1) := by decide +kernel
theorem dX13_bad_0 : decode cX13_bad 0 = .ok (.iload_n 2, 1) := by decide +kernel
theorem dX13_bad_1 : decode cX13_bad 1 = .ok (.iconst (-1), 1) := by decide +kernel
theorem dX13_bad_2 : decode cX13_bad 2 = .ok (.if_icmp .ne 8, 3) := by decide +kernel
theorem dX13_bad_5 : decode cX13_bad 5 = .ok (.bipush 50, 2) := by decide +kernel
theorem dX13_bad_7 : decode cX13_bad 7 = .ok (.goto 24, 3) := by decide +kernel
theorem dX13_bad_10 : decode cX13_bad 10 = .ok (.aload_n 0, 1) := by decide +kernel
theorem dX13_bad_11 : decode cX13_bad 11 = .ok (.iload_n 1, 1) := by decide +kernel
theorem dX13_bad_12 : decode cX13_bad 12 = .ok (.iload_n 2, 1) := by decide +kernel
theorem dX13_bad_13 : decode cX13_bad 13 = .ok (.invokevirtual 115, 3) := by decide +kernel
theorem dX13_bad_16 : decode cX13_bad 16 = .ok (.iconst (-1), 1) := by decide +kernel
theorem dX13_bad_17 : decode cX13_bad 17 = .ok (.if_icmp .ne 8, 3) := by decide +kernel
theorem dX13_bad_20 : decode cX13_bad 20 = .ok (.bipush 99, 2) := by decide +kernel
theorem dX13_bad_22 : decode cX13_bad 22 = .ok (.goto 9, 3) := by decide +kernel
theorem dX13_bad_25 : decode cX13_bad 25 = .ok (.aload_n 0, 1) := by decide +kernel
theorem dX13_bad_26 : decode cX13_bad 26 = .ok (.iload_n 1, 1) := by decide +kernel
theorem dX13_bad_27 : decode cX13_bad 27 = .ok (.iload_n 2, 1) := by decide +kernel
theorem dX13_bad_28 : decode cX13_bad 28 = .ok (.invokevirtual 115, 3) := by decide +kernel
theorem dX13_bad_31 : decode cX13_bad 31 = .ok (.ireturn, 1) := by decide +kernel
theorem dX13_likes_0 : decode cX13_likes 0 = .ok (.aload_n 0, 1) := by decide +kernel
theorem dX13_likes_1 : decode cX13_likes 1 = .ok (.iload_n 1, 1) := by decide +kernel
theorem dX13_likes_2 : decode cX13_likes 2 = .ok (.iload_n 2, 1) := by decide +kernel
theorem dX13_likes_3 : decode cX13_likes 3 = .ok (.invokevirtual 131, 3) := by decide +kernel
theorem dX13_likes_6 : decode cX13_likes 6 = .ok (.aload_n 0, 1) := by decide +kernel
theorem dX13_likes_7 : decode cX13_likes 7 = .ok (.iload_n 1, 1) := by decide +kernel
theorem dX13_likes_8 : decode cX13_likes 8 = .ok (.iload_n 3, 1) := by decide +kernel
theorem dX13_likes_9 : decode cX13_likes 9 = .ok (.invokevirtual 131, 3) := by decide +kernel
theorem dX13_likes_12 : decode cX13_likes 12 = .ok (.if_icmp .ge 7, 3) := by decide +kernel
theorem dX13_likes_15 : decode cX13_likes 15 = .ok (.iconst 1, 1) := by decide +kernel
theorem dX13_likes_16 : decode cX13_likes 16 = .ok (.goto 4, 3) := by decide +kernel
theorem dX13_likes_19 : decode cX13_likes 19 = .ok (.iconst 0, 1) := by decide +kernel
theorem dX13_likes_20 : decode cX13_likes 20 = .ok (.ireturn, 1) := by decide +kernel
theorem dX13_envies_0 : decode cX13_envies 0 = .ok (.aload_n 0, 1) := by decide +kernel
theorem dX13_envies_1 : decode cX13_envies 1 = .ok (.getfield 25, 3) := by decide +kernel
theorem dX13_envies_4 : decode cX13_envies 4 = .ok (.iload_n 2, 1) := by decide +kernel
theorem dX13_envies_5 : decode cX13_envies 5 = .ok (.iaload, 1) := by decide +kernel
theorem dX13_envies_6 : decode cX13_envies 6 = .ok (.iconst (-1), 1) := by decide +kernel
theorem dX13_envies_7 : decode cX13_envies 7 = .ok (.if_icmp .eq 27, 3) := by decide +kernel
theorem dX13_envies_10 : decode cX13_envies 10 = .ok (.aload_n 0, 1) := by decide +kernel
theorem dX13_envies_11 : decode cX13_envies 11 = .ok (.iload_n 1, 1) := by decide +kernel
theorem dX13_envies_12 : decode cX13_envies 12 = .ok (.aload_n 0, 1) := by decide +kernel
theorem dX13_envies_13 : decode cX13_envies 13 = .ok (.getfield 25, 3) := by decide +kernel
theorem dX13_envies_16 : decode cX13_envies 16 = .ok (.iload_n 2, 1) := by decide +kernel
theorem dX13_envies_17 : decode cX13_envies 17 = .ok (.iaload, 1) := by decide +kernel
theorem dX13_envies_18 : decode cX13_envies 18 = .ok (.aload_n 0, 1) := by decide +kernel
theorem dX13_envies_19 : decode cX13_envies 19 = .ok (.getfield 25, 3) := by decide +kernel
theorem dX13_envies_22 : decode cX13_envies 22 = .ok (.iload_n 1, 1) := by decide +kernel
theorem dX13_envies_23 : decode cX13_envies 23 = .ok (.iaload, 1) := by decide +kernel
theorem dX13_envies_24 : decode cX13_envies 24 = .ok (.invokevirtual 134, 3) := by decide +kernel
theorem dX13_envies_27 : decode cX13_envies 27 = .ok (.ifCond .eq 7, 3) := by decide +kernel
theorem dX13_envies_30 : decode cX13_envies 30 = .ok (.iconst 1, 1) := by decide +kernel
theorem dX13_envies_31 : decode cX13_envies 31 = .ok (.goto 4, 3) := by decide +kernel
theorem dX13_envies_34 : decode cX13_envies 34 = .ok (.iconst 0, 1) := by decide +kernel
theorem dX13_envies_35 : decode cX13_envies 35 = .ok (.ireturn, 1) := by decide +kernel
theorem dX13_both_0 : decode cX13_both 0 = .ok (.aload_n 0, 1) := by decide +kernel
theorem dX13_both_1 : decode cX13_both 1 = .ok (.getfield 25, 3) := by decide +kernel
theorem dX13_both_4 : decode cX13_both 4 = .ok (.iload_n 1, 1) := by decide +kernel
theorem dX13_both_5 : decode cX13_both 5 = .ok (.iaload, 1) := by decide +kernel
theorem dX13_both_6 : decode cX13_both 6 = .ok (.iconst (-1), 1) := by decide +kernel
theorem dX13_both_7 : decode cX13_both 7 = .ok (.if_icmp .eq 35, 3) := by decide +kernel
theorem dX13_both_10 : decode cX13_both 10 = .ok (.aload_n 0, 1) := by decide +kernel
theorem dX13_both_11 : decode cX13_both 11 = .ok (.getfield 25, 3) := by decide +kernel
theorem dX13_both_14 : decode cX13_both 14 = .ok (.iload_n 2, 1) := by decide +kernel
theorem dX13_both_15 : decode cX13_both 15 = .ok (.iaload, 1) := by decide +kernel
theorem dX13_both_16 : decode cX13_both 16 = .ok (.iconst (-1), 1) := by decide +kernel
theorem dX13_both_17 : decode cX13_both 17 = .ok (.if_icmp .eq 25, 3) := by decide +kernel
theorem dX13_both_20 : decode cX13_both 20 = .ok (.aload_n 0, 1) := by decide +kernel
theorem dX13_both_21 : decode cX13_both 21 = .ok (.iload_n 1, 1) := by decide +kernel
theorem dX13_both_22 : decode cX13_both 22 = .ok (.iload_n 2, 1) := by decide +kernel
theorem dX13_both_23 : decode cX13_both 23 = .ok (.invokevirtual 138, 3) := by decide +kernel
theorem dX13_both_26 : decode cX13_both 26 = .ok (.ifCond .eq 16, 3) := by decide +kernel
theorem dX13_both_29 : decode cX13_both 29 = .ok (.aload_n 0, 1) := by decide +kernel
theorem dX13_both_30 : decode cX13_both 30 = .ok (.iload_n 2, 1) := by decide +kernel
theorem dX13_both_31 : decode cX13_both 31 = .ok (.iload_n 1, 1) := by decide +kernel
theorem dX13_both_32 : decode cX13_both 32 = .ok (.invokevirtual 138, 3) := by decide +kernel
theorem dX13_both_35 : decode cX13_both 35 = .ok (.ifCond .eq 7, 3) := by decide +kernel
theorem dX13_both_38 : decode cX13_both 38 = .ok (.iconst 1, 1) := by decide +kernel
theorem dX13_both_39 : decode cX13_both 39 = .ok (.goto 4, 3) := by decide +kernel
theorem dX13_both_42 : decode cX13_both 42 = .ok (.iconst 0, 1) := by decide +kernel
theorem dX13_both_43 : decode cX13_both 43 = .ok (.ireturn, 1) := by decide +kernel
theorem dX13_mechanism_0 : decode cX13_mechanism 0 = .ok (.aload_n 0, 1) := by decide +kernel
theorem dX13_mechanism_1 : decode cX13_mechanism 1 = .ok (.aload_n 0, 1) := by decide +kernel
theorem dX13_mechanism_2 : decode cX13_mechanism 2 = .ok (.getfield 98, 3) := by decide +kernel
theorem dX13_mechanism_5 : decode cX13_mechanism 5 = .ok (.putfield 142, 3) := by decide +kernel
theorem dX13_mechanism_8 : decode cX13_mechanism 8 = .ok (.iconst 0, 1) := by decide +kernel
theorem dX13_mechanism_9 : decode cX13_mechanism 9 = .ok (.istore_n 1, 1) := by decide +kernel
theorem dX13_mechanism_10 : decode cX13_mechanism 10 = .ok (.iload_n 1, 1) := by decide +kernel
theorem dX13_mechanism_11 : decode cX13_mechanism 11 = .ok (.aload_n 0, 1) := by decide +kernel
theorem dX13_mechanism_12 : decode cX13_mechanism 12 = .ok (.getfield 98, 3) := by decide +kernel
theorem dX13_mechanism_15 : decode cX13_mechanism 15 = .ok (.if_icmp .ge 35, 3) := by decide +kernel
theorem dX13_mechanism_18 : decode cX13_mechanism 18 = .ok (.aload_n 0, 1) := by decide +kernel
theorem dX13_mechanism_19 : decode cX13_mechanism 19 = .ok (.getfield 34, 3) := by decide +kernel
theorem dX13_mechanism_22 : decode cX13_mechanism 22 = .ok (.iload_n 1, 1) := by decide +kernel
theorem dX13_mechanism_23 : decode cX13_mechanism 23 = .ok (.aload_n 0, 1) := by decide +kernel
theorem dX13_mechanism_24 : decode cX13_mechanism 24 = .ok (.getfield 31, 3) := by decide +kernel
theorem dX13_mechanism_27 : decode cX13_mechanism 27 = .ok (.iload_n 1, 1) := by decide +kernel
theorem dX13_mechanism_28 : decode cX13_mechanism 28 = .ok (.iaload, 1) := by decide +kernel
theorem dX13_mechanism_29 : decode cX13_mechanism 29 = .ok (.iastore, 1) := by decide +kernel
theorem dX13_mechanism_30 : decode cX13_mechanism 30 = .ok (.aload_n 0, 1) := by decide +kernel
theorem dX13_mechanism_31 : decode cX13_mechanism 31 = .ok (.getfield 37, 3) := by decide +kernel
theorem dX13_mechanism_34 : decode cX13_mechanism 34 = .ok (.iload_n 1, 1) := by decide +kernel
theorem dX13_mechanism_35 : decode cX13_mechanism 35 = .ok (.iconst (-1), 1) := by decide +kernel
theorem dX13_mechanism_36 : decode cX13_mechanism 36 = .ok (.iastore, 1) := by decide +kernel
theorem dX13_mechanism_37 : decode cX13_mechanism 37 = .ok (.aload_n 0, 1) := by decide +kernel
theorem dX13_mechanism_38 : decode cX13_mechanism 38 = .ok (.getfield 40, 3) := by decide +kernel
theorem dX13_mechanism_41 : decode cX13_mechanism 41 = .ok (.iload_n 1, 1) := by decide +kernel
theorem dX13_mechanism_42 : decode cX13_mechanism 42 = .ok (.iconst (-1), 1) := by decide +kernel
theorem dX13_mechanism_43 : decode cX13_mechanism 43 = .ok (.iastore, 1) := by decide +kernel
theorem dX13_mechanism_44 : decode cX13_mechanism 44 = .ok (.iinc 1 1, 3) := by decide +kernel
theorem dX13_mechanism_47 : decode cX13_mechanism 47 = .ok (.goto (-37), 3) := by decide +kernel
theorem dX13_mechanism_50 : decode cX13_mechanism 50 = .ok (.iconst 0, 1) := by decide +kernel
theorem dX13_mechanism_51 : decode cX13_mechanism 51 = .ok (.istore_n 1, 1) := by decide +kernel
theorem dX13_mechanism_52 : decode cX13_mechanism 52 = .ok (.iload_n 1, 1) := by decide +kernel
theorem dX13_mechanism_53 : decode cX13_mechanism 53 = .ok (.aload_n 0, 1) := by decide +kernel
theorem dX13_mechanism_54 : decode cX13_mechanism 54 = .ok (.getfield 95, 3) := by decide +kernel
theorem dX13_mechanism_57 : decode cX13_mechanism 57 = .ok (.if_icmp .ge 16, 3) := by decide +kernel
theorem dX13_mechanism_60 : decode cX13_mechanism 60 = .ok (.aload_n 0, 1) := by decide +kernel
theorem dX13_mechanism_61 : decode cX13_mechanism 61 = .ok (.getfield 48, 3) := by decide +kernel
theorem dX13_mechanism_64 : decode cX13_mechanism 64 = .ok (.iload_n 1, 1) := by decide +kernel
theorem dX13_mechanism_65 : decode cX13_mechanism 65 = .ok (.iconst 0, 1) := by decide +kernel
theorem dX13_mechanism_66 : decode cX13_mechanism 66 = .ok (.bastore, 1) := by decide +kernel
theorem dX13_mechanism_67 : decode cX13_mechanism 67 = .ok (.iinc 1 1, 3) := by decide +kernel
theorem dX13_mechanism_70 : decode cX13_mechanism 70 = .ok (.goto (-18), 3) := by decide +kernel
theorem dX13_mechanism_73 : decode cX13_mechanism 73 = .ok (.aload_n 0, 1) := by decide +kernel
theorem dX13_mechanism_74 : decode cX13_mechanism 74 = .ok (.getfield 142, 3) := by decide +kernel
theorem dX13_mechanism_77 : decode cX13_mechanism 77 = .ok (.ifCond .le 179, 3) := by decide +kernel
theorem dX13_mechanism_80 : decode cX13_mechanism 80 = .ok (.aload_n 0, 1) := by decide +kernel
theorem dX13_mechanism_81 : decode cX13_mechanism 81 = .ok (.getfield 34, 3) := by decide +kernel
theorem dX13_mechanism_84 : decode cX13_mechanism 84 = .ok (.iconst 0, 1) := by decide +kernel
theorem dX13_mechanism_85 : decode cX13_mechanism 85 = .ok (.iaload, 1) := by decide +kernel
theorem dX13_mechanism_86 : decode cX13_mechanism 86 = .ok (.istore_n 1, 1) := by decide +kernel
theorem dX13_mechanism_87 : decode cX13_mechanism 87 = .ok (.iconst (-1), 1) := by decide +kernel
theorem dX13_mechanism_88 : decode cX13_mechanism 88 = .ok (.istore_n 2, 1) := by decide +kernel
theorem dX13_mechanism_89 : decode cX13_mechanism 89 = .ok (.aload_n 0, 1) := by decide +kernel
theorem dX13_mechanism_90 : decode cX13_mechanism 90 = .ok (.getfield 28, 3) := by decide +kernel
theorem dX13_mechanism_93 : decode cX13_mechanism 93 = .ok (.iload_n 1, 1) := by decide +kernel
theorem dX13_mechanism_94 : decode cX13_mechanism 94 = .ok (.iaload, 1) := by decide +kernel
theorem dX13_mechanism_95 : decode cX13_mechanism 95 = .ok (.iconst 1, 1) := by decide +kernel
theorem dX13_mechanism_96 : decode cX13_mechanism 96 = .ok (.isub, 1) := by decide +kernel
theorem dX13_mechanism_97 : decode cX13_mechanism 97 = .ok (.istore_n 3, 1) := by decide +kernel
theorem dX13_mechanism_98 : decode cX13_mechanism 98 = .ok (.iload_n 3, 1) := by decide +kernel
theorem dX13_mechanism_99 : decode cX13_mechanism 99 = .ok (.ifCond .lt 34, 3) := by decide +kernel
theorem dX13_mechanism_102 : decode cX13_mechanism 102 = .ok (.aload_n 0, 1) := by decide +kernel
theorem dX13_mechanism_103 : decode cX13_mechanism 103 = .ok (.getfield 48, 3) := by decide +kernel
theorem dX13_mechanism_106 : decode cX13_mechanism 106 = .ok (.aload_n 0, 1) := by decide +kernel
theorem dX13_mechanism_107 : decode cX13_mechanism 107 = .ok (.getfield 45, 3) := by decide +kernel
theorem dX13_mechanism_110 : decode cX13_mechanism 110 = .ok (.iload_n 1, 1) := by decide +kernel
theorem dX13_mechanism_111 : decode cX13_mechanism 111 = .ok (.aaload, 1) := by decide +kernel
theorem dX13_mechanism_112 : decode cX13_mechanism 112 = .ok (.iload_n 3, 1) := by decide +kernel
theorem dX13_mechanism_113 : decode cX13_mechanism 113 = .ok (.iaload, 1) := by decide +kernel
theorem dX13_mechanism_114 : decode cX13_mechanism 114 = .ok (.baload, 1) := by decide +kernel
theorem dX13_mechanism_115 : decode cX13_mechanism 115 = .ok (.ifCond .ne 12, 3) := by decide +kernel
theorem dX13_mechanism_118 : decode cX13_mechanism 118 = .ok (.aload_n 0, 1) := by decide +kernel
theorem dX13_mechanism_119 : decode cX13_mechanism 119 = .ok (.getfield 45, 3) := by decide +kernel
theorem dX13_mechanism_122 : decode cX13_mechanism 122 = .ok (.iload_n 1, 1) := by decide +kernel
theorem dX13_mechanism_123 : decode cX13_mechanism 123 = .ok (.aaload, 1) := by decide +kernel
theorem dX13_mechanism_124 : decode cX13_mechanism 124 = .ok (.iload_n 3, 1) := by decide +kernel
theorem dX13_mechanism_125 : decode cX13_mechanism 125 = .ok (.iaload, 1) := by decide +kernel
theorem dX13_mechanism_126 : decode cX13_mechanism 126 = .ok (.istore_n 2, 1) := by decide +kernel
theorem dX13_mechanism_127 : decode cX13_mechanism 127 = .ok (.iinc 3 (-1), 3) := by decide +kernel
theorem dX13_mechanism_130 : decode cX13_mechanism 130 = .ok (.goto (-32), 3) := by decide +kernel
theorem dX13_mechanism_133 : decode cX13_mechanism 133 = .ok (.aload_n 0, 1) := by decide +kernel
theorem dX13_mechanism_134 : decode cX13_mechanism 134 = .ok (.getfield 37, 3) := by decide +kernel
theorem dX13_mechanism_137 : decode cX13_mechanism 137 = .ok (.iload_n 1, 1) := by decide +kernel
theorem dX13_mechanism_138 : decode cX13_mechanism 138 = .ok (.iload_n 2, 1) := by decide +kernel
theorem dX13_mechanism_139 : decode cX13_mechanism 139 = .ok (.iastore, 1) := by decide +kernel
theorem dX13_mechanism_140 : decode cX13_mechanism 140 = .ok (.iload_n 2, 1) := by decide +kernel
theorem dX13_mechanism_141 : decode cX13_mechanism 141 = .ok (.iconst (-1), 1) := by decide +kernel
theorem dX13_mechanism_142 : decode cX13_mechanism 142 = .ok (.if_icmp .ne 7, 3) := by decide +kernel
theorem dX13_mechanism_145 : decode cX13_mechanism 145 = .ok (.iconst (-1), 1) := by decide +kernel
theorem dX13_mechanism_146 : decode cX13_mechanism 146 = .ok (.goto 8, 3) := by decide +kernel
theorem dX13_mechanism_149 : decode cX13_mechanism 149 = .ok (.aload_n 0, 1) := by decide +kernel
theorem dX13_mechanism_150 : decode cX13_mechanism 150 = .ok (.iload_n 2, 1) := by decide +kernel
theorem dX13_mechanism_151 : decode cX13_mechanism 151 = .ok (.invokevirtual 119, 3) := by decide +kernel
theorem dX13_mechanism_154 : decode cX13_mechanism 154 = .ok (.istore_n 3, 1) := by decide +kernel
theorem dX13_mechanism_155 : decode cX13_mechanism 155 = .ok (.iload_n 3, 1) := by decide +kernel
theorem dX13_mechanism_156 : decode cX13_mechanism 156 = .ok (.iconst (-1), 1) := by decide +kernel
theorem dX13_mechanism_157 : decode cX13_mechanism 157 = .ok (.if_icmp .eq 17, 3) := by decide +kernel
theorem dX13_mechanism_160 : decode cX13_mechanism 160 = .ok (.iload_n 3, 1) := by decide +kernel
theorem dX13_mechanism_161 : decode cX13_mechanism 161 = .ok (.iload_n 1, 1) := by decide +kernel
theorem dX13_mechanism_162 : decode cX13_mechanism 162 = .ok (.if_icmp .eq 12, 3) := by decide +kernel
theorem dX13_mechanism_165 : decode cX13_mechanism 165 = .ok (.aload_n 0, 1) := by decide +kernel
theorem dX13_mechanism_166 : decode cX13_mechanism 166 = .ok (.iload_n 3, 1) := by decide +kernel
theorem dX13_mechanism_167 : decode cX13_mechanism 167 = .ok (.invokevirtual 145, 3) := by decide +kernel
theorem dX13_mechanism_170 : decode cX13_mechanism 170 = .ok (.iconst (-1), 1) := by decide +kernel
theorem dX13_mechanism_171 : decode cX13_mechanism 171 = .ok (.if_icmp .ne 12, 3) := by decide +kernel
theorem dX13_mechanism_174 : decode cX13_mechanism 174 = .ok (.aload_n 0, 1) := by decide +kernel
theorem dX13_mechanism_175 : decode cX13_mechanism 175 = .ok (.iload_n 1, 1) := by decide +kernel
theorem dX13_mechanism_176 : decode cX13_mechanism 176 = .ok (.iload_n 2, 1) := by decide +kernel
theorem dX13_mechanism_177 : decode cX13_mechanism 177 = .ok (.invokevirtual 148, 3) := by decide +kernel
theorem dX13_mechanism_180 : decode cX13_mechanism 180 = .ok (.goto 73, 3) := by decide +kernel
theorem dX13_mechanism_183 : decode cX13_mechanism 183 = .ok (.aload_n 0, 1) := by decide +kernel
theorem dX13_mechanism_184 : decode cX13_mechanism 184 = .ok (.getfield 37, 3) := by decide +kernel
theorem dX13_mechanism_187 : decode cX13_mechanism 187 = .ok (.iload_n 3, 1) := by decide +kernel
theorem dX13_mechanism_188 : decode cX13_mechanism 188 = .ok (.iaload, 1) := by decide +kernel
theorem dX13_mechanism_189 : decode cX13_mechanism 189 = .ok (.iconst (-1), 1) := by decide +kernel
theorem dX13_mechanism_190 : decode cX13_mechanism 190 = .ok (.if_icmp .ne 11, 3) := by decide +kernel
theorem dX13_mechanism_193 : decode cX13_mechanism 193 = .ok (.aload_n 0, 1) := by decide +kernel
theorem dX13_mechanism_194 : decode cX13_mechanism 194 = .ok (.iload_n 3, 1) := by decide +kernel
theorem dX13_mechanism_195 : decode cX13_mechanism 195 = .ok (.invokevirtual 151, 3) := by decide +kernel
theorem dX13_mechanism_198 : decode cX13_mechanism 198 = .ok (.goto 55, 3) := by decide +kernel
theorem dX13_mechanism_201 : decode cX13_mechanism 201 = .ok (.iload_n 3, 1) := by decide +kernel
theorem dX13_mechanism_202 : decode cX13_mechanism 202 = .ok (.istore 4, 2) := by decide +kernel
theorem dX13_mechanism_204 : decode cX13_mechanism 204 = .ok (.iload 4, 2) := by decide +kernel
theorem dX13_mechanism_206 : decode cX13_mechanism 206 = .ok (.iconst (-1), 1) := by decide +kernel
theorem dX13_mechanism_207 : decode cX13_mechanism 207 = .ok (.if_icmp .eq 46, 3) := by decide +kernel
theorem dX13_mechanism_210 : decode cX13_mechanism 210 = .ok (.iload 4, 2) := by decide +kernel
theorem dX13_mechanism_212 : decode cX13_mechanism 212 = .ok (.iload_n 1, 1) := by decide +kernel
theorem dX13_mechanism_213 : decode cX13_mechanism 213 = .ok (.if_icmp .ne 7, 3) := by decide +kernel
theorem dX13_mechanism_216 : decode cX13_mechanism 216 = .ok (.iconst (-1), 1) := by decide +kernel
theorem dX13_mechanism_217 : decode cX13_mechanism 217 = .ok (.goto 14, 3) := by decide +kernel
theorem dX13_mechanism_220 : decode cX13_mechanism 220 = .ok (.aload_n 0, 1) := by decide +kernel
theorem dX13_mechanism_221 : decode cX13_mechanism 221 = .ok (.aload_n 0, 1) := by decide +kernel
theorem dX13_mechanism_222 : decode cX13_mechanism 222 = .ok (.getfield 37, 3) := by decide +kernel
theorem dX13_mechanism_225 : decode cX13_mechanism 225 = .ok (.iload 4, 2) := by decide +kernel
theorem dX13_mechanism_227 : decode cX13_mechanism 227 = .ok (.iaload, 1) := by decide +kernel
theorem dX13_mechanism_228 : decode cX13_mechanism 228 = .ok (.invokevirtual 119, 3) := by decide +kernel
theorem dX13_mechanism_231 : decode cX13_mechanism 231 = .ok (.istore 5, 2) := by decide +kernel
theorem dX13_mechanism_233 : decode cX13_mechanism 233 = .ok (.aload_n 0, 1) := by decide +kernel
theorem dX13_mechanism_234 : decode cX13_mechanism 234 = .ok (.iload 4, 2) := by decide +kernel
theorem dX13_mechanism_236 : decode cX13_mechanism 236 = .ok (.aload_n 0, 1) := by decide +kernel
theorem dX13_mechanism_237 : decode cX13_mechanism 237 = .ok (.getfield 37, 3) := by decide +kernel
theorem dX13_mechanism_240 : decode cX13_mechanism 240 = .ok (.iload 4, 2) := by decide +kernel
theorem dX13_mechanism_242 : decode cX13_mechanism 242 = .ok (.iaload, 1) := by decide +kernel
theorem dX13_mechanism_243 : decode cX13_mechanism 243 = .ok (.invokevirtual 148, 3) := by decide +kernel
theorem dX13_mechanism_246 : decode cX13_mechanism 246 = .ok (.iload 5, 2) := by decide +kernel
theorem dX13_mechanism_248 : decode cX13_mechanism 248 = .ok (.istore 4, 2) := by decide +kernel
theorem dX13_mechanism_250 : decode cX13_mechanism 250 = .ok (.goto (-46), 3) := by decide +kernel
theorem dX13_mechanism_253 : decode cX13_mechanism 253 = .ok (.goto (-180), 3) := by decide +kernel
theorem dX13_mechanism_256 : decode cX13_mechanism 256 = .ok (.return_, 1) := by decide +kernel
theorem dX13_where_0 : decode cX13_where 0 = .ok (.iconst 0, 1) := by decide +kernel
theorem dX13_where_1 : decode cX13_where 1 = .ok (.istore_n 2, 1) := by decide +kernel
theorem dX13_where_2 : decode cX13_where 2 = .ok (.iload_n 2, 1) := by decide +kernel
theorem dX13_where_3 : decode cX13_where 3 = .ok (.aload_n 0, 1) := by decide +kernel
theorem dX13_where_4 : decode cX13_where 4 = .ok (.getfield 142, 3) := by decide +kernel
theorem dX13_where_7 : decode cX13_where 7 = .ok (.if_icmp .ge 21, 3) := by decide +kernel
theorem dX13_where_10 : decode cX13_where 10 = .ok (.aload_n 0, 1) := by decide +kernel
theorem dX13_where_11 : decode cX13_where 11 = .ok (.getfield 34, 3) := by decide +kernel
theorem dX13_where_14 : decode cX13_where 14 = .ok (.iload_n 2, 1) := by decide +kernel
theorem dX13_where_15 : decode cX13_where 15 = .ok (.iaload, 1) := by decide +kernel
theorem dX13_where_16 : decode cX13_where 16 = .ok (.iload_n 1, 1) := by decide +kernel
theorem dX13_where_17 : decode cX13_where 17 = .ok (.if_icmp .ne 5, 3) := by decide +kernel
theorem dX13_where_20 : decode cX13_where 20 = .ok (.iload_n 2, 1) := by decide +kernel
theorem dX13_where_21 : decode cX13_where 21 = .ok (.ireturn, 1) := by decide +kernel
theorem dX13_where_22 : decode cX13_where 22 = .ok (.iinc 2 1, 3) := by decide +kernel
theorem dX13_where_25 : decode cX13_where 25 = .ok (.goto (-23), 3) := by decide +kernel
theorem dX13_where_28 : decode cX13_where 28 = .ok (.iconst (-1), 1) := by decide +kernel
theorem dX13_where_29 : decode cX13_where 29 = .ok (.ireturn, 1) := by decide +kernel
theorem dX13_front_0 : decode cX13_front 0 = .ok (.aload_n 0, 1) := by decide +kernel
theorem dX13_front_1 : decode cX13_front 1 = .ok (.iload_n 1, 1) := by decide +kernel
theorem dX13_front_2 : decode cX13_front 2 = .ok (.invokevirtual 145, 3) := by decide +kernel
theorem dX13_front_5 : decode cX13_front 5 = .ok (.istore_n 2, 1) := by decide +kernel
theorem dX13_front_6 : decode cX13_front 6 = .ok (.iload_n 2, 1) := by decide +kernel
theorem dX13_front_7 : decode cX13_front 7 = .ok (.ifCond .le 23, 3) := by decide +kernel
theorem dX13_front_10 : decode cX13_front 10 = .ok (.aload_n 0, 1) := by decide +kernel
theorem dX13_front_11 : decode cX13_front 11 = .ok (.getfield 34, 3) := by decide +kernel
theorem dX13_front_14 : decode cX13_front 14 = .ok (.iload_n 2, 1) := by decide +kernel
theorem dX13_front_15 : decode cX13_front 15 = .ok (.aload_n 0, 1) := by decide +kernel
theorem dX13_front_16 : decode cX13_front 16 = .ok (.getfield 34, 3) := by decide +kernel
theorem dX13_front_19 : decode cX13_front 19 = .ok (.iload_n 2, 1) := by decide +kernel
theorem dX13_front_20 : decode cX13_front 20 = .ok (.iconst 1, 1) := by decide +kernel
theorem dX13_front_21 : decode cX13_front 21 = .ok (.isub, 1) := by decide +kernel
theorem dX13_front_22 : decode cX13_front 22 = .ok (.iaload, 1) := by decide +kernel
theorem dX13_front_23 : decode cX13_front 23 = .ok (.iastore, 1) := by decide +kernel
theorem dX13_front_24 : decode cX13_front 24 = .ok (.iinc 2 (-1), 3) := by decide +kernel
theorem dX13_front_27 : decode cX13_front 27 = .ok (.goto (-21), 3) := by decide +kernel
theorem dX13_front_30 : decode cX13_front 30 = .ok (.aload_n 0, 1) := by decide +kernel
theorem dX13_front_31 : decode cX13_front 31 = .ok (.getfield 34, 3) := by decide +kernel
theorem dX13_front_34 : decode cX13_front 34 = .ok (.iconst 0, 1) := by decide +kernel
theorem dX13_front_35 : decode cX13_front 35 = .ok (.iload_n 1, 1) := by decide +kernel
theorem dX13_front_36 : decode cX13_front 36 = .ok (.iastore, 1) := by decide +kernel
theorem dX13_front_37 : decode cX13_front 37 = .ok (.return_, 1) := by decide +kernel
theorem dX13_give_0 : decode cX13_give 0 = .ok (.aload_n 0, 1) := by decide +kernel
theorem dX13_give_1 : decode cX13_give 1 = .ok (.getfield 40, 3) := by decide +kernel
theorem dX13_give_4 : decode cX13_give 4 = .ok (.iload_n 1, 1) := by decide +kernel
theorem dX13_give_5 : decode cX13_give 5 = .ok (.iload_n 2, 1) := by decide +kernel
theorem dX13_give_6 : decode cX13_give 6 = .ok (.iastore, 1) := by decide +kernel
theorem dX13_give_7 : decode cX13_give 7 = .ok (.iload_n 2, 1) := by decide +kernel
theorem dX13_give_8 : decode cX13_give 8 = .ok (.iconst (-1), 1) := by decide +kernel
theorem dX13_give_9 : decode cX13_give 9 = .ok (.if_icmp .eq 10, 3) := by decide +kernel
theorem dX13_give_12 : decode cX13_give 12 = .ok (.aload_n 0, 1) := by decide +kernel
theorem dX13_give_13 : decode cX13_give 13 = .ok (.getfield 48, 3) := by decide +kernel
theorem dX13_give_16 : decode cX13_give 16 = .ok (.iload_n 2, 1) := by decide +kernel
theorem dX13_give_17 : decode cX13_give 17 = .ok (.iconst 1, 1) := by decide +kernel
theorem dX13_give_18 : decode cX13_give 18 = .ok (.bastore, 1) := by decide +kernel
theorem dX13_give_19 : decode cX13_give 19 = .ok (.aload_n 0, 1) := by decide +kernel
theorem dX13_give_20 : decode cX13_give 20 = .ok (.dup, 1) := by decide +kernel
theorem dX13_give_21 : decode cX13_give 21 = .ok (.getfield 142, 3) := by decide +kernel
theorem dX13_give_24 : decode cX13_give 24 = .ok (.iconst 1, 1) := by decide +kernel
theorem dX13_give_25 : decode cX13_give 25 = .ok (.isub, 1) := by decide +kernel
theorem dX13_give_26 : decode cX13_give 26 = .ok (.putfield 142, 3) := by decide +kernel
theorem dX13_give_29 : decode cX13_give 29 = .ok (.aload_n 0, 1) := by decide +kernel
theorem dX13_give_30 : decode cX13_give 30 = .ok (.iload_n 1, 1) := by decide +kernel
theorem dX13_give_31 : decode cX13_give 31 = .ok (.invokevirtual 154, 3) := by decide +kernel
theorem dX13_give_34 : decode cX13_give 34 = .ok (.istore_n 3, 1) := by decide +kernel
theorem dX13_give_35 : decode cX13_give 35 = .ok (.iload_n 3, 1) := by decide +kernel
theorem dX13_give_36 : decode cX13_give 36 = .ok (.aload_n 0, 1) := by decide +kernel
theorem dX13_give_37 : decode cX13_give 37 = .ok (.getfield 142, 3) := by decide +kernel
theorem dX13_give_40 : decode cX13_give 40 = .ok (.if_icmp .ge 23, 3) := by decide +kernel
theorem dX13_give_43 : decode cX13_give 43 = .ok (.aload_n 0, 1) := by decide +kernel
theorem dX13_give_44 : decode cX13_give 44 = .ok (.getfield 34, 3) := by decide +kernel
theorem dX13_give_47 : decode cX13_give 47 = .ok (.iload_n 3, 1) := by decide +kernel
theorem dX13_give_48 : decode cX13_give 48 = .ok (.aload_n 0, 1) := by decide +kernel
theorem dX13_give_49 : decode cX13_give 49 = .ok (.getfield 34, 3) := by decide +kernel
theorem dX13_give_52 : decode cX13_give 52 = .ok (.iload_n 3, 1) := by decide +kernel
theorem dX13_give_53 : decode cX13_give 53 = .ok (.iconst 1, 1) := by decide +kernel
theorem dX13_give_54 : decode cX13_give 54 = .ok (.iadd, 1) := by decide +kernel
theorem dX13_give_55 : decode cX13_give 55 = .ok (.iaload, 1) := by decide +kernel
theorem dX13_give_56 : decode cX13_give 56 = .ok (.iastore, 1) := by decide +kernel
theorem dX13_give_57 : decode cX13_give 57 = .ok (.iinc 3 1, 3) := by decide +kernel
theorem dX13_give_60 : decode cX13_give 60 = .ok (.goto (-25), 3) := by decide +kernel
theorem dX13_give_63 : decode cX13_give 63 = .ok (.return_, 1) := by decide +kernel
theorem dX13_whereAll_0 : decode cX13_whereAll 0 = .ok (.iconst 0, 1) := by decide +kernel
theorem dX13_whereAll_1 : decode cX13_whereAll 1 = .ok (.istore_n 2, 1) := by decide +kernel
theorem dX13_whereAll_2 : decode cX13_whereAll 2 = .ok (.iload_n 2, 1) := by decide +kernel
theorem dX13_whereAll_3 : decode cX13_whereAll 3 = .ok (.aload_n 0, 1) := by decide +kernel
theorem dX13_whereAll_4 : decode cX13_whereAll 4 = .ok (.getfield 142, 3) := by decide +kernel
theorem dX13_whereAll_7 : decode cX13_whereAll 7 = .ok (.if_icmp .gt 21, 3) := by decide +kernel
theorem dX13_whereAll_10 : decode cX13_whereAll 10 = .ok (.aload_n 0, 1) := by decide +kernel
theorem dX13_whereAll_11 : decode cX13_whereAll 11 = .ok (.getfield 34, 3) := by decide +kernel
theorem dX13_whereAll_14 : decode cX13_whereAll 14 = .ok (.iload_n 2, 1) := by decide +kernel
theorem dX13_whereAll_15 : decode cX13_whereAll 15 = .ok (.iaload, 1) := by decide +kernel
theorem dX13_whereAll_16 : decode cX13_whereAll 16 = .ok (.iload_n 1, 1) := by decide +kernel
theorem dX13_whereAll_17 : decode cX13_whereAll 17 = .ok (.if_icmp .ne 5, 3) := by decide +kernel
theorem dX13_whereAll_20 : decode cX13_whereAll 20 = .ok (.iload_n 2, 1) := by decide +kernel
theorem dX13_whereAll_21 : decode cX13_whereAll 21 = .ok (.ireturn, 1) := by decide +kernel
theorem dX13_whereAll_22 : decode cX13_whereAll 22 = .ok (.iinc 2 1, 3) := by decide +kernel
theorem dX13_whereAll_25 : decode cX13_whereAll 25 = .ok (.goto (-23), 3) := by decide +kernel
theorem dX13_whereAll_28 : decode cX13_whereAll 28 = .ok (.aload_n 0, 1) := by decide +kernel
theorem dX13_whereAll_29 : decode cX13_whereAll 29 = .ok (.getfield 142, 3) := by decide +kernel
theorem dX13_whereAll_32 : decode cX13_whereAll 32 = .ok (.ireturn, 1) := by decide +kernel
theorem dX13_isSame_0 : decode cX13_isSame 0 = .ok (.aload_n 1, 1) := by decide +kernel
theorem dX13_isSame_1 : decode cX13_isSame 1 = .ok (.invokevirtual 157, 3) := by decide +kernel
theorem dX13_isSame_4 : decode cX13_isSame 4 = .ok (.aload_n 0, 1) := by decide +kernel
theorem dX13_isSame_5 : decode cX13_isSame 5 = .ok (.getfield 89, 3) := by decide +kernel
theorem dX13_isSame_8 : decode cX13_isSame 8 = .ok (.if_icmp .ne 25, 3) := by decide +kernel
theorem dX13_isSame_11 : decode cX13_isSame 11 = .ok (.aload_n 1, 1) := by decide +kernel
theorem dX13_isSame_12 : decode cX13_isSame 12 = .ok (.invokevirtual 159, 3) := by decide +kernel
theorem dX13_isSame_15 : decode cX13_isSame 15 = .ok (.aload_n 0, 1) := by decide +kernel
theorem dX13_isSame_16 : decode cX13_isSame 16 = .ok (.getfield 98, 3) := by decide +kernel
theorem dX13_isSame_19 : decode cX13_isSame 19 = .ok (.if_icmp .ne 14, 3) := by decide +kernel
theorem dX13_isSame_22 : decode cX13_isSame 22 = .ok (.aload_n 1, 1) := by decide +kernel
theorem dX13_isSame_23 : decode cX13_isSame 23 = .ok (.invokevirtual 162, 3) := by decide +kernel
theorem dX13_isSame_26 : decode cX13_isSame 26 = .ok (.aload_n 0, 1) := by decide +kernel
theorem dX13_isSame_27 : decode cX13_isSame 27 = .ok (.getfield 95, 3) := by decide +kernel
theorem dX13_isSame_30 : decode cX13_isSame 30 = .ok (.if_icmp .eq 5, 3) := by decide +kernel
theorem dX13_isSame_33 : decode cX13_isSame 33 = .ok (.iconst 0, 1) := by decide +kernel
theorem dX13_isSame_34 : decode cX13_isSame 34 = .ok (.ireturn, 1) := by decide +kernel
theorem dX13_isSame_35 : decode cX13_isSame 35 = .ok (.iconst 0, 1) := by decide +kernel
theorem dX13_isSame_36 : decode cX13_isSame 36 = .ok (.istore_n 2, 1) := by decide +kernel
theorem dX13_isSame_37 : decode cX13_isSame 37 = .ok (.iload_n 2, 1) := by decide +kernel
theorem dX13_isSame_38 : decode cX13_isSame 38 = .ok (.aload_n 0, 1) := by decide +kernel
theorem dX13_isSame_39 : decode cX13_isSame 39 = .ok (.getfield 98, 3) := by decide +kernel
theorem dX13_isSame_42 : decode cX13_isSame 42 = .ok (.if_icmp .ge 104, 3) := by decide +kernel
theorem dX13_isSame_45 : decode cX13_isSame 45 = .ok (.aload_n 1, 1) := by decide +kernel
theorem dX13_isSame_46 : decode cX13_isSame 46 = .ok (.iload_n 2, 1) := by decide +kernel
theorem dX13_isSame_47 : decode cX13_isSame 47 = .ok (.invokevirtual 165, 3) := by decide +kernel
theorem dX13_isSame_50 : decode cX13_isSame 50 = .ok (.aload_n 0, 1) := by decide +kernel
theorem dX13_isSame_51 : decode cX13_isSame 51 = .ok (.getfield 19, 3) := by decide +kernel
theorem dX13_isSame_54 : decode cX13_isSame 54 = .ok (.iload_n 2, 1) := by decide +kernel
theorem dX13_isSame_55 : decode cX13_isSame 55 = .ok (.iaload, 1) := by decide +kernel
theorem dX13_isSame_56 : decode cX13_isSame 56 = .ok (.if_icmp .ne 45, 3) := by decide +kernel
theorem dX13_isSame_59 : decode cX13_isSame 59 = .ok (.aload_n 1, 1) := by decide +kernel
theorem dX13_isSame_60 : decode cX13_isSame 60 = .ok (.iload_n 2, 1) := by decide +kernel
theorem dX13_isSame_61 : decode cX13_isSame 61 = .ok (.invokevirtual 168, 3) := by decide +kernel
theorem dX13_isSame_64 : decode cX13_isSame 64 = .ok (.aload_n 0, 1) := by decide +kernel
theorem dX13_isSame_65 : decode cX13_isSame 65 = .ok (.getfield 25, 3) := by decide +kernel
theorem dX13_isSame_68 : decode cX13_isSame 68 = .ok (.iload_n 2, 1) := by decide +kernel
theorem dX13_isSame_69 : decode cX13_isSame 69 = .ok (.iaload, 1) := by decide +kernel
theorem dX13_isSame_70 : decode cX13_isSame 70 = .ok (.if_icmp .ne 31, 3) := by decide +kernel
theorem dX13_isSame_73 : decode cX13_isSame 73 = .ok (.aload_n 1, 1) := by decide +kernel
theorem dX13_isSame_74 : decode cX13_isSame 74 = .ok (.iload_n 2, 1) := by decide +kernel
theorem dX13_isSame_75 : decode cX13_isSame 75 = .ok (.invokevirtual 171, 3) := by decide +kernel
theorem dX13_isSame_78 : decode cX13_isSame 78 = .ok (.aload_n 0, 1) := by decide +kernel
theorem dX13_isSame_79 : decode cX13_isSame 79 = .ok (.getfield 28, 3) := by decide +kernel
theorem dX13_isSame_82 : decode cX13_isSame 82 = .ok (.iload_n 2, 1) := by decide +kernel
theorem dX13_isSame_83 : decode cX13_isSame 83 = .ok (.iaload, 1) := by decide +kernel
theorem dX13_isSame_84 : decode cX13_isSame 84 = .ok (.if_icmp .ne 17, 3) := by decide +kernel
theorem dX13_isSame_87 : decode cX13_isSame 87 = .ok (.aload_n 1, 1) := by decide +kernel
theorem dX13_isSame_88 : decode cX13_isSame 88 = .ok (.aload_n 0, 1) := by decide +kernel
theorem dX13_isSame_89 : decode cX13_isSame 89 = .ok (.getfield 31, 3) := by decide +kernel
theorem dX13_isSame_92 : decode cX13_isSame 92 = .ok (.iload_n 2, 1) := by decide +kernel
theorem dX13_isSame_93 : decode cX13_isSame 93 = .ok (.iaload, 1) := by decide +kernel
theorem dX13_isSame_94 : decode cX13_isSame 94 = .ok (.invokevirtual 174, 3) := by decide +kernel
theorem dX13_isSame_97 : decode cX13_isSame 97 = .ok (.iload_n 2, 1) := by decide +kernel
theorem dX13_isSame_98 : decode cX13_isSame 98 = .ok (.if_icmp .eq 5, 3) := by decide +kernel
theorem dX13_isSame_101 : decode cX13_isSame 101 = .ok (.iconst 0, 1) := by decide +kernel
theorem dX13_isSame_102 : decode cX13_isSame 102 = .ok (.ireturn, 1) := by decide +kernel
theorem dX13_isSame_103 : decode cX13_isSame 103 = .ok (.iconst 0, 1) := by decide +kernel
theorem dX13_isSame_104 : decode cX13_isSame 104 = .ok (.istore_n 3, 1) := by decide +kernel
theorem dX13_isSame_105 : decode cX13_isSame 105 = .ok (.iload_n 3, 1) := by decide +kernel
theorem dX13_isSame_106 : decode cX13_isSame 106 = .ok (.aload_n 0, 1) := by decide +kernel
theorem dX13_isSame_107 : decode cX13_isSame 107 = .ok (.getfield 28, 3) := by decide +kernel
theorem dX13_isSame_110 : decode cX13_isSame 110 = .ok (.iload_n 2, 1) := by decide +kernel
theorem dX13_isSame_111 : decode cX13_isSame 111 = .ok (.iaload, 1) := by decide +kernel
theorem dX13_isSame_112 : decode cX13_isSame 112 = .ok (.if_icmp .ge 28, 3) := by decide +kernel
theorem dX13_isSame_115 : decode cX13_isSame 115 = .ok (.aload_n 1, 1) := by decide +kernel
theorem dX13_isSame_116 : decode cX13_isSame 116 = .ok (.iload_n 2, 1) := by decide +kernel
theorem dX13_isSame_117 : decode cX13_isSame 117 = .ok (.iload_n 3, 1) := by decide +kernel
theorem dX13_isSame_118 : decode cX13_isSame 118 = .ok (.invokevirtual 177, 3) := by decide +kernel
theorem dX13_isSame_121 : decode cX13_isSame 121 = .ok (.aload_n 0, 1) := by decide +kernel
theorem dX13_isSame_122 : decode cX13_isSame 122 = .ok (.getfield 45, 3) := by decide +kernel
theorem dX13_isSame_125 : decode cX13_isSame 125 = .ok (.iload_n 2, 1) := by decide +kernel
theorem dX13_isSame_126 : decode cX13_isSame 126 = .ok (.aaload, 1) := by decide +kernel
theorem dX13_isSame_127 : decode cX13_isSame 127 = .ok (.iload_n 3, 1) := by decide +kernel
theorem dX13_isSame_128 : decode cX13_isSame 128 = .ok (.iaload, 1) := by decide +kernel
theorem dX13_isSame_129 : decode cX13_isSame 129 = .ok (.if_icmp .eq 5, 3) := by decide +kernel
theorem dX13_isSame_132 : decode cX13_isSame 132 = .ok (.iconst 0, 1) := by decide +kernel
theorem dX13_isSame_133 : decode cX13_isSame 133 = .ok (.ireturn, 1) := by decide +kernel
theorem dX13_isSame_134 : decode cX13_isSame 134 = .ok (.iinc 3 1, 3) := by decide +kernel
theorem dX13_isSame_137 : decode cX13_isSame 137 = .ok (.goto (-32), 3) := by decide +kernel
theorem dX13_isSame_140 : decode cX13_isSame 140 = .ok (.iinc 2 1, 3) := by decide +kernel
theorem dX13_isSame_143 : decode cX13_isSame 143 = .ok (.goto (-106), 3) := by decide +kernel
theorem dX13_isSame_146 : decode cX13_isSame 146 = .ok (.iconst 0, 1) := by decide +kernel
theorem dX13_isSame_147 : decode cX13_isSame 147 = .ok (.istore_n 2, 1) := by decide +kernel
theorem dX13_isSame_148 : decode cX13_isSame 148 = .ok (.iload_n 2, 1) := by decide +kernel
theorem dX13_isSame_149 : decode cX13_isSame 149 = .ok (.aload_n 0, 1) := by decide +kernel
theorem dX13_isSame_150 : decode cX13_isSame 150 = .ok (.getfield 95, 3) := by decide +kernel
theorem dX13_isSame_153 : decode cX13_isSame 153 = .ok (.if_icmp .ge 38, 3) := by decide +kernel
theorem dX13_isSame_156 : decode cX13_isSame 156 = .ok (.aload_n 1, 1) := by decide +kernel
theorem dX13_isSame_157 : decode cX13_isSame 157 = .ok (.iload_n 2, 1) := by decide +kernel
theorem dX13_isSame_158 : decode cX13_isSame 158 = .ok (.invokevirtual 180, 3) := by decide +kernel
theorem dX13_isSame_161 : decode cX13_isSame 161 = .ok (.aload_n 0, 1) := by decide +kernel
theorem dX13_isSame_162 : decode cX13_isSame 162 = .ok (.getfield 15, 3) := by decide +kernel
theorem dX13_isSame_165 : decode cX13_isSame 165 = .ok (.iload_n 2, 1) := by decide +kernel
theorem dX13_isSame_166 : decode cX13_isSame 166 = .ok (.iaload, 1) := by decide +kernel
theorem dX13_isSame_167 : decode cX13_isSame 167 = .ok (.if_icmp .ne 16, 3) := by decide +kernel
theorem dX13_isSame_170 : decode cX13_isSame 170 = .ok (.aload_n 1, 1) := by decide +kernel
theorem dX13_isSame_171 : decode cX13_isSame 171 = .ok (.iload_n 2, 1) := by decide +kernel
theorem dX13_isSame_172 : decode cX13_isSame 172 = .ok (.invokevirtual 182, 3) := by decide +kernel
theorem dX13_isSame_175 : decode cX13_isSame 175 = .ok (.aload_n 0, 1) := by decide +kernel
theorem dX13_isSame_176 : decode cX13_isSame 176 = .ok (.iload_n 2, 1) := by decide +kernel
theorem dX13_isSame_177 : decode cX13_isSame 177 = .ok (.invokevirtual 119, 3) := by decide +kernel
theorem dX13_isSame_180 : decode cX13_isSame 180 = .ok (.if_icmp .eq 5, 3) := by decide +kernel
theorem dX13_isSame_183 : decode cX13_isSame 183 = .ok (.iconst 0, 1) := by decide +kernel
theorem dX13_isSame_184 : decode cX13_isSame 184 = .ok (.ireturn, 1) := by decide +kernel
theorem dX13_isSame_185 : decode cX13_isSame 185 = .ok (.iinc 2 1, 3) := by decide +kernel
theorem dX13_isSame_188 : decode cX13_isSame 188 = .ok (.goto (-40), 3) := by decide +kernel
theorem dX13_isSame_191 : decode cX13_isSame 191 = .ok (.iconst 1, 1) := by decide +kernel
theorem dX13_isSame_192 : decode cX13_isSame 192 = .ok (.ireturn, 1) := by decide +kernel
theorem dX13_toFront_0 : decode cX13_toFront 0 = .ok (.aload_n 0, 1) := by decide +kernel
theorem dX13_toFront_1 : decode cX13_toFront 1 = .ok (.iload_n 1, 1) := by decide +kernel
theorem dX13_toFront_2 : decode cX13_toFront 2 = .ok (.iload_n 2, 1) := by decide +kernel
theorem dX13_toFront_3 : decode cX13_toFront 3 = .ok (.invokevirtual 115, 3) := by decide +kernel
theorem dX13_toFront_6 : decode cX13_toFront 6 = .ok (.istore_n 3, 1) := by decide +kernel
theorem dX13_toFront_7 : decode cX13_toFront 7 = .ok (.iload_n 3, 1) := by decide +kernel
theorem dX13_toFront_8 : decode cX13_toFront 8 = .ok (.iconst (-1), 1) := by decide +kernel
theorem dX13_toFront_9 : decode cX13_toFront 9 = .ok (.if_icmp .ne 15, 3) := by decide +kernel
theorem dX13_toFront_12 : decode cX13_toFront 12 = .ok (.aload_n 0, 1) := by decide +kernel
theorem dX13_toFront_13 : decode cX13_toFront 13 = .ok (.getfield 28, 3) := by decide +kernel
theorem dX13_toFront_16 : decode cX13_toFront 16 = .ok (.iload_n 1, 1) := by decide +kernel
theorem dX13_toFront_17 : decode cX13_toFront 17 = .ok (.dup2, 1) := by decide +kernel
theorem dX13_toFront_18 : decode cX13_toFront 18 = .ok (.iaload, 1) := by decide +kernel
theorem dX13_toFront_19 : decode cX13_toFront 19 = .ok (.dup_x2, 1) := by decide +kernel
theorem dX13_toFront_20 : decode cX13_toFront 20 = .ok (.iconst 1, 1) := by decide +kernel
theorem dX13_toFront_21 : decode cX13_toFront 21 = .ok (.iadd, 1) := by decide +kernel
theorem dX13_toFront_22 : decode cX13_toFront 22 = .ok (.iastore, 1) := by decide +kernel
theorem dX13_toFront_23 : decode cX13_toFront 23 = .ok (.istore_n 3, 1) := by decide +kernel
theorem dX13_toFront_24 : decode cX13_toFront 24 = .ok (.iload_n 3, 1) := by decide +kernel
theorem dX13_toFront_25 : decode cX13_toFront 25 = .ok (.ifCond .le 27, 3) := by decide +kernel
theorem dX13_toFront_28 : decode cX13_toFront 28 = .ok (.aload_n 0, 1) := by decide +kernel
theorem dX13_toFront_29 : decode cX13_toFront 29 = .ok (.getfield 45, 3) := by decide +kernel
theorem dX13_toFront_32 : decode cX13_toFront 32 = .ok (.iload_n 1, 1) := by decide +kernel
theorem dX13_toFront_33 : decode cX13_toFront 33 = .ok (.aaload, 1) := by decide +kernel
theorem dX13_toFront_34 : decode cX13_toFront 34 = .ok (.iload_n 3, 1) := by decide +kernel
theorem dX13_toFront_35 : decode cX13_toFront 35 = .ok (.aload_n 0, 1) := by decide +kernel
theorem dX13_toFront_36 : decode cX13_toFront 36 = .ok (.getfield 45, 3) := by decide +kernel
theorem dX13_toFront_39 : decode cX13_toFront 39 = .ok (.iload_n 1, 1) := by decide +kernel
theorem dX13_toFront_40 : decode cX13_toFront 40 = .ok (.aaload, 1) := by decide +kernel
theorem dX13_toFront_41 : decode cX13_toFront 41 = .ok (.iload_n 3, 1) := by decide +kernel
theorem dX13_toFront_42 : decode cX13_toFront 42 = .ok (.iconst 1, 1) := by decide +kernel
theorem dX13_toFront_43 : decode cX13_toFront 43 = .ok (.isub, 1) := by decide +kernel
theorem dX13_toFront_44 : decode cX13_toFront 44 = .ok (.iaload, 1) := by decide +kernel
theorem dX13_toFront_45 : decode cX13_toFront 45 = .ok (.iastore, 1) := by decide +kernel
theorem dX13_toFront_46 : decode cX13_toFront 46 = .ok (.iinc 3 (-1), 3) := by decide +kernel
theorem dX13_toFront_49 : decode cX13_toFront 49 = .ok (.goto (-25), 3) := by decide +kernel
theorem dX13_toFront_52 : decode cX13_toFront 52 = .ok (.aload_n 0, 1) := by decide +kernel
theorem dX13_toFront_53 : decode cX13_toFront 53 = .ok (.getfield 45, 3) := by decide +kernel
theorem dX13_toFront_56 : decode cX13_toFront 56 = .ok (.iload_n 1, 1) := by decide +kernel
theorem dX13_toFront_57 : decode cX13_toFront 57 = .ok (.aaload, 1) := by decide +kernel
theorem dX13_toFront_58 : decode cX13_toFront 58 = .ok (.iconst 0, 1) := by decide +kernel
theorem dX13_toFront_59 : decode cX13_toFront 59 = .ok (.iload_n 2, 1) := by decide +kernel
theorem dX13_toFront_60 : decode cX13_toFront 60 = .ok (.iastore, 1) := by decide +kernel
theorem dX13_toFront_61 : decode cX13_toFront 61 = .ok (.return_, 1) := by decide +kernel
theorem dX13_first_0 : decode cX13_first 0 = .ok (.iconst 0, 1) := by decide +kernel
theorem dX13_first_1 : decode cX13_first 1 = .ok (.istore_n 3, 1) := by decide +kernel
theorem dX13_first_2 : decode cX13_first 2 = .ok (.aload_n 0, 1) := by decide +kernel
theorem dX13_first_3 : decode cX13_first 3 = .ok (.getfield 31, 3) := by decide +kernel
theorem dX13_first_6 : decode cX13_first 6 = .ok (.iload_n 3, 1) := by decide +kernel
theorem dX13_first_7 : decode cX13_first 7 = .ok (.iaload, 1) := by decide +kernel
theorem dX13_first_8 : decode cX13_first 8 = .ok (.iload_n 1, 1) := by decide +kernel
theorem dX13_first_9 : decode cX13_first 9 = .ok (.if_icmp .eq 9, 3) := by decide +kernel
theorem dX13_first_12 : decode cX13_first 12 = .ok (.iinc 3 1, 3) := by decide +kernel
theorem dX13_first_15 : decode cX13_first 15 = .ok (.goto (-13), 3) := by decide +kernel
theorem dX13_first_18 : decode cX13_first 18 = .ok (.iload_n 3, 1) := by decide +kernel
theorem dX13_first_19 : decode cX13_first 19 = .ok (.iload_n 2, 1) := by decide +kernel
theorem dX13_first_20 : decode cX13_first 20 = .ok (.if_icmp .ge 23, 3) := by decide +kernel
theorem dX13_first_23 : decode cX13_first 23 = .ok (.aload_n 0, 1) := by decide +kernel
theorem dX13_first_24 : decode cX13_first 24 = .ok (.getfield 31, 3) := by decide +kernel
theorem dX13_first_27 : decode cX13_first 27 = .ok (.iload_n 3, 1) := by decide +kernel
theorem dX13_first_28 : decode cX13_first 28 = .ok (.aload_n 0, 1) := by decide +kernel
theorem dX13_first_29 : decode cX13_first 29 = .ok (.getfield 31, 3) := by decide +kernel
theorem dX13_first_32 : decode cX13_first 32 = .ok (.iload_n 3, 1) := by decide +kernel
theorem dX13_first_33 : decode cX13_first 33 = .ok (.iconst 1, 1) := by decide +kernel
theorem dX13_first_34 : decode cX13_first 34 = .ok (.iadd, 1) := by decide +kernel
theorem dX13_first_35 : decode cX13_first 35 = .ok (.iaload, 1) := by decide +kernel
theorem dX13_first_36 : decode cX13_first 36 = .ok (.iastore, 1) := by decide +kernel
theorem dX13_first_37 : decode cX13_first 37 = .ok (.iinc 3 1, 3) := by decide +kernel
theorem dX13_first_40 : decode cX13_first 40 = .ok (.goto (-22), 3) := by decide +kernel
theorem dX13_first_43 : decode cX13_first 43 = .ok (.iload_n 3, 1) := by decide +kernel
theorem dX13_first_44 : decode cX13_first 44 = .ok (.iload_n 2, 1) := by decide +kernel
theorem dX13_first_45 : decode cX13_first 45 = .ok (.if_icmp .le 23, 3) := by decide +kernel
theorem dX13_first_48 : decode cX13_first 48 = .ok (.aload_n 0, 1) := by decide +kernel
theorem dX13_first_49 : decode cX13_first 49 = .ok (.getfield 31, 3) := by decide +kernel
theorem dX13_first_52 : decode cX13_first 52 = .ok (.iload_n 3, 1) := by decide +kernel
theorem dX13_first_53 : decode cX13_first 53 = .ok (.aload_n 0, 1) := by decide +kernel
theorem dX13_first_54 : decode cX13_first 54 = .ok (.getfield 31, 3) := by decide +kernel
theorem dX13_first_57 : decode cX13_first 57 = .ok (.iload_n 3, 1) := by decide +kernel
theorem dX13_first_58 : decode cX13_first 58 = .ok (.iconst 1, 1) := by decide +kernel
theorem dX13_first_59 : decode cX13_first 59 = .ok (.isub, 1) := by decide +kernel
theorem dX13_first_60 : decode cX13_first 60 = .ok (.iaload, 1) := by decide +kernel
theorem dX13_first_61 : decode cX13_first 61 = .ok (.iastore, 1) := by decide +kernel
theorem dX13_first_62 : decode cX13_first 62 = .ok (.iinc 3 (-1), 3) := by decide +kernel
theorem dX13_first_65 : decode cX13_first 65 = .ok (.goto (-22), 3) := by decide +kernel
theorem dX13_first_68 : decode cX13_first 68 = .ok (.aload_n 0, 1) := by decide +kernel
theorem dX13_first_69 : decode cX13_first 69 = .ok (.getfield 31, 3) := by decide +kernel
theorem dX13_first_72 : decode cX13_first 72 = .ok (.iload_n 2, 1) := by decide +kernel
theorem dX13_first_73 : decode cX13_first 73 = .ok (.iload_n 1, 1) := by decide +kernel
theorem dX13_first_74 : decode cX13_first 74 = .ok (.iastore, 1) := by decide +kernel
theorem dX13_first_75 : decode cX13_first 75 = .ok (.return_, 1) := by decide +kernel
theorem dX13_pass_0 : decode cX13_pass 0 = .ok (.iconst 0, 1) := by decide +kernel
theorem dX13_pass_1 : decode cX13_pass 1 = .ok (.istore_n 1, 1) := by decide +kernel
theorem dX13_pass_2 : decode cX13_pass 2 = .ok (.aload_n 0, 1) := by decide +kernel
theorem dX13_pass_3 : decode cX13_pass 3 = .ok (.dup, 1) := by decide +kernel
theorem dX13_pass_4 : decode cX13_pass 4 = .ok (.getfield 89, 3) := by decide +kernel
theorem dX13_pass_7 : decode cX13_pass 7 = .ok (.iconst 1, 1) := by decide +kernel
theorem dX13_pass_8 : decode cX13_pass 8 = .ok (.iadd, 1) := by decide +kernel
theorem dX13_pass_9 : decode cX13_pass 9 = .ok (.putfield 89, 3) := by decide +kernel
theorem dX13_pass_12 : decode cX13_pass 12 = .ok (.iconst 0, 1) := by decide +kernel
theorem dX13_pass_13 : decode cX13_pass 13 = .ok (.istore_n 2, 1) := by decide +kernel
theorem dX13_pass_14 : decode cX13_pass 14 = .ok (.iload_n 2, 1) := by decide +kernel
theorem dX13_pass_15 : decode cX13_pass 15 = .ok (.aload_n 0, 1) := by decide +kernel
theorem dX13_pass_16 : decode cX13_pass 16 = .ok (.getfield 98, 3) := by decide +kernel
theorem dX13_pass_19 : decode cX13_pass 19 = .ok (.if_icmp .ge 90, 3) := by decide +kernel
theorem dX13_pass_22 : decode cX13_pass 22 = .ok (.aload_n 0, 1) := by decide +kernel
theorem dX13_pass_23 : decode cX13_pass 23 = .ok (.getfield 19, 3) := by decide +kernel
theorem dX13_pass_26 : decode cX13_pass 26 = .ok (.iload_n 2, 1) := by decide +kernel
theorem dX13_pass_27 : decode cX13_pass 27 = .ok (.dup2, 1) := by decide +kernel
theorem dX13_pass_28 : decode cX13_pass 28 = .ok (.iaload, 1) := by decide +kernel
theorem dX13_pass_29 : decode cX13_pass 29 = .ok (.aload_n 0, 1) := by decide +kernel
theorem dX13_pass_30 : decode cX13_pass 30 = .ok (.getfield 22, 3) := by decide +kernel
theorem dX13_pass_33 : decode cX13_pass 33 = .ok (.iload_n 2, 1) := by decide +kernel
theorem dX13_pass_34 : decode cX13_pass 34 = .ok (.iaload, 1) := by decide +kernel
theorem dX13_pass_35 : decode cX13_pass 35 = .ok (.iadd, 1) := by decide +kernel
theorem dX13_pass_36 : decode cX13_pass 36 = .ok (.iastore, 1) := by decide +kernel
theorem dX13_pass_37 : decode cX13_pass 37 = .ok (.aload_n 0, 1) := by decide +kernel
theorem dX13_pass_38 : decode cX13_pass 38 = .ok (.getfield 25, 3) := by decide +kernel
theorem dX13_pass_41 : decode cX13_pass 41 = .ok (.iload_n 2, 1) := by decide +kernel
theorem dX13_pass_42 : decode cX13_pass 42 = .ok (.iaload, 1) := by decide +kernel
theorem dX13_pass_43 : decode cX13_pass 43 = .ok (.iconst (-1), 1) := by decide +kernel
theorem dX13_pass_44 : decode cX13_pass 44 = .ok (.if_icmp .ne 6, 3) := by decide +kernel
theorem dX13_pass_47 : decode cX13_pass 47 = .ok (.goto 56, 3) := by decide +kernel
theorem dX13_pass_50 : decode cX13_pass 50 = .ok (.aload_n 0, 1) := by decide +kernel
theorem dX13_pass_51 : decode cX13_pass 51 = .ok (.getfield 19, 3) := by decide +kernel
theorem dX13_pass_54 : decode cX13_pass 54 = .ok (.iload_n 2, 1) := by decide +kernel
theorem dX13_pass_55 : decode cX13_pass 55 = .ok (.iaload, 1) := by decide +kernel
theorem dX13_pass_56 : decode cX13_pass 56 = .ok (.aload_n 0, 1) := by decide +kernel
theorem dX13_pass_57 : decode cX13_pass 57 = .ok (.getfield 15, 3) := by decide +kernel
theorem dX13_pass_60 : decode cX13_pass 60 = .ok (.aload_n 0, 1) := by decide +kernel
theorem dX13_pass_61 : decode cX13_pass 61 = .ok (.getfield 25, 3) := by decide +kernel
theorem dX13_pass_64 : decode cX13_pass 64 = .ok (.iload_n 2, 1) := by decide +kernel
theorem dX13_pass_65 : decode cX13_pass 65 = .ok (.iaload, 1) := by decide +kernel
theorem dX13_pass_66 : decode cX13_pass 66 = .ok (.iaload, 1) := by decide +kernel
theorem dX13_pass_67 : decode cX13_pass 67 = .ok (.if_icmp .ge 16, 3) := by decide +kernel
theorem dX13_pass_70 : decode cX13_pass 70 = .ok (.aload_n 0, 1) := by decide +kernel
theorem dX13_pass_71 : decode cX13_pass 71 = .ok (.getfield 25, 3) := by decide +kernel
theorem dX13_pass_74 : decode cX13_pass 74 = .ok (.iload_n 2, 1) := by decide +kernel
theorem dX13_pass_75 : decode cX13_pass 75 = .ok (.iconst (-1), 1) := by decide +kernel
theorem dX13_pass_76 : decode cX13_pass 76 = .ok (.iastore, 1) := by decide +kernel
theorem dX13_pass_77 : decode cX13_pass 77 = .ok (.iinc 1 1, 3) := by decide +kernel
theorem dX13_pass_80 : decode cX13_pass 80 = .ok (.goto 23, 3) := by decide +kernel
theorem dX13_pass_83 : decode cX13_pass 83 = .ok (.aload_n 0, 1) := by decide +kernel
theorem dX13_pass_84 : decode cX13_pass 84 = .ok (.getfield 19, 3) := by decide +kernel
theorem dX13_pass_87 : decode cX13_pass 87 = .ok (.iload_n 2, 1) := by decide +kernel
theorem dX13_pass_88 : decode cX13_pass 88 = .ok (.dup2, 1) := by decide +kernel
theorem dX13_pass_89 : decode cX13_pass 89 = .ok (.iaload, 1) := by decide +kernel
theorem dX13_pass_90 : decode cX13_pass 90 = .ok (.aload_n 0, 1) := by decide +kernel
theorem dX13_pass_91 : decode cX13_pass 91 = .ok (.getfield 15, 3) := by decide +kernel
theorem dX13_pass_94 : decode cX13_pass 94 = .ok (.aload_n 0, 1) := by decide +kernel
theorem dX13_pass_95 : decode cX13_pass 95 = .ok (.getfield 25, 3) := by decide +kernel
theorem dX13_pass_98 : decode cX13_pass 98 = .ok (.iload_n 2, 1) := by decide +kernel
theorem dX13_pass_99 : decode cX13_pass 99 = .ok (.iaload, 1) := by decide +kernel
theorem dX13_pass_100 : decode cX13_pass 100 = .ok (.iaload, 1) := by decide +kernel
theorem dX13_pass_101 : decode cX13_pass 101 = .ok (.isub, 1) := by decide +kernel
theorem dX13_pass_102 : decode cX13_pass 102 = .ok (.iastore, 1) := by decide +kernel
theorem dX13_pass_103 : decode cX13_pass 103 = .ok (.iinc 2 1, 3) := by decide +kernel
theorem dX13_pass_106 : decode cX13_pass 106 = .ok (.goto (-92), 3) := by decide +kernel
theorem dX13_pass_109 : decode cX13_pass 109 = .ok (.iload_n 1, 1) := by decide +kernel
theorem dX13_pass_110 : decode cX13_pass 110 = .ok (.ireturn, 1) := by decide +kernel
theorem dX13_act_0 : decode cX13_act 0 = .ok (.aload_n 0, 1) := by decide +kernel
theorem dX13_act_1 : decode cX13_act 1 = .ok (.bipush 10, 2) := by decide +kernel
theorem dX13_act_3 : decode cX13_act 3 = .ok (.invokevirtual 92, 3) := by decide +kernel
theorem dX13_act_6 : decode cX13_act 6 = .ok (.istore_n 2, 1) := by decide +kernel
theorem dX13_act_7 : decode cX13_act 7 = .ok (.aload_n 0, 1) := by decide +kernel
theorem dX13_act_8 : decode cX13_act 8 = .ok (.aload_n 0, 1) := by decide +kernel
theorem dX13_act_9 : decode cX13_act 9 = .ok (.getfield 98, 3) := by decide +kernel
theorem dX13_act_12 : decode cX13_act 12 = .ok (.invokevirtual 92, 3) := by decide +kernel
theorem dX13_act_15 : decode cX13_act 15 = .ok (.istore_n 3, 1) := by decide +kernel
theorem dX13_act_16 : decode cX13_act 16 = .ok (.aload_n 0, 1) := by decide +kernel
theorem dX13_act_17 : decode cX13_act 17 = .ok (.aload_n 0, 1) := by decide +kernel
theorem dX13_act_18 : decode cX13_act 18 = .ok (.getfield 98, 3) := by decide +kernel
theorem dX13_act_21 : decode cX13_act 21 = .ok (.invokevirtual 92, 3) := by decide +kernel
theorem dX13_act_24 : decode cX13_act 24 = .ok (.istore 4, 2) := by decide +kernel
theorem dX13_act_26 : decode cX13_act 26 = .ok (.aload_n 0, 1) := by decide +kernel
theorem dX13_act_27 : decode cX13_act 27 = .ok (.aload_n 0, 1) := by decide +kernel
theorem dX13_act_28 : decode cX13_act 28 = .ok (.getfield 95, 3) := by decide +kernel
theorem dX13_act_31 : decode cX13_act 31 = .ok (.invokevirtual 92, 3) := by decide +kernel
theorem dX13_act_34 : decode cX13_act 34 = .ok (.istore 5, 2) := by decide +kernel
theorem dX13_act_36 : decode cX13_act 36 = .ok (.aload_n 0, 1) := by decide +kernel
theorem dX13_act_37 : decode cX13_act 37 = .ok (.getfield 25, 3) := by decide +kernel
theorem dX13_act_40 : decode cX13_act 40 = .ok (.iload_n 3, 1) := by decide +kernel
theorem dX13_act_41 : decode cX13_act 41 = .ok (.iaload, 1) := by decide +kernel
theorem dX13_act_42 : decode cX13_act 42 = .ok (.istore 6, 2) := by decide +kernel
theorem dX13_act_44 : decode cX13_act 44 = .ok (.iload_n 2, 1) := by decide +kernel
theorem dX13_act_45 : decode cX13_act 45 = .ok (.iconst 2, 1) := by decide +kernel
theorem dX13_act_46 : decode cX13_act 46 = .ok (.if_icmp .ge 55, 3) := by decide +kernel
theorem dX13_act_49 : decode cX13_act 49 = .ok (.aload_n 0, 1) := by decide +kernel
theorem dX13_act_50 : decode cX13_act 50 = .ok (.iload 5, 2) := by decide +kernel
theorem dX13_act_52 : decode cX13_act 52 = .ok (.invokevirtual 119, 3) := by decide +kernel
theorem dX13_act_55 : decode cX13_act 55 = .ok (.iconst (-1), 1) := by decide +kernel
theorem dX13_act_56 : decode cX13_act 56 = .ok (.if_icmp .ne 45, 3) := by decide +kernel
theorem dX13_act_59 : decode cX13_act 59 = .ok (.aload_n 0, 1) := by decide +kernel
theorem dX13_act_60 : decode cX13_act 60 = .ok (.getfield 15, 3) := by decide +kernel
theorem dX13_act_63 : decode cX13_act 63 = .ok (.iload 5, 2) := by decide +kernel
theorem dX13_act_65 : decode cX13_act 65 = .ok (.iaload, 1) := by decide +kernel
theorem dX13_act_66 : decode cX13_act 66 = .ok (.aload_n 0, 1) := by decide +kernel
theorem dX13_act_67 : decode cX13_act 67 = .ok (.getfield 19, 3) := by decide +kernel
theorem dX13_act_70 : decode cX13_act 70 = .ok (.iload_n 3, 1) := by decide +kernel
theorem dX13_act_71 : decode cX13_act 71 = .ok (.iaload, 1) := by decide +kernel
theorem dX13_act_72 : decode cX13_act 72 = .ok (.if_icmp .gt 29, 3) := by decide +kernel
theorem dX13_act_75 : decode cX13_act 75 = .ok (.aload_n 0, 1) := by decide +kernel
theorem dX13_act_76 : decode cX13_act 76 = .ok (.getfield 25, 3) := by decide +kernel
theorem dX13_act_79 : decode cX13_act 79 = .ok (.iload_n 3, 1) := by decide +kernel
theorem dX13_act_80 : decode cX13_act 80 = .ok (.iload 5, 2) := by decide +kernel
theorem dX13_act_82 : decode cX13_act 82 = .ok (.iastore, 1) := by decide +kernel
theorem dX13_act_83 : decode cX13_act 83 = .ok (.aload_n 1, 1) := by decide +kernel
theorem dX13_act_84 : decode cX13_act 84 = .ok (.iload_n 3, 1) := by decide +kernel
theorem dX13_act_85 : decode cX13_act 85 = .ok (.iload 5, 2) := by decide +kernel
theorem dX13_act_87 : decode cX13_act 87 = .ok (.invokevirtual 185, 3) := by decide +kernel
theorem dX13_act_90 : decode cX13_act 90 = .ok (.iload 6, 2) := by decide +kernel
theorem dX13_act_92 : decode cX13_act 92 = .ok (.if_icmp .ne 7, 3) := by decide +kernel
theorem dX13_act_95 : decode cX13_act 95 = .ok (.iconst 1, 1) := by decide +kernel
theorem dX13_act_96 : decode cX13_act 96 = .ok (.goto 4, 3) := by decide +kernel
theorem dX13_act_99 : decode cX13_act 99 = .ok (.iconst 0, 1) := by decide +kernel
theorem dX13_act_100 : decode cX13_act 100 = .ok (.ireturn, 1) := by decide +kernel
theorem dX13_act_101 : decode cX13_act 101 = .ok (.iload_n 2, 1) := by decide +kernel
theorem dX13_act_102 : decode cX13_act 102 = .ok (.iconst 2, 1) := by decide +kernel
theorem dX13_act_103 : decode cX13_act 103 = .ok (.if_icmp .ne 32, 3) := by decide +kernel
theorem dX13_act_106 : decode cX13_act 106 = .ok (.iload 6, 2) := by decide +kernel
theorem dX13_act_108 : decode cX13_act 108 = .ok (.iconst (-1), 1) := by decide +kernel
theorem dX13_act_109 : decode cX13_act 109 = .ok (.if_icmp .eq 26, 3) := by decide +kernel
theorem dX13_act_112 : decode cX13_act 112 = .ok (.aload_n 0, 1) := by decide +kernel
theorem dX13_act_113 : decode cX13_act 113 = .ok (.getfield 25, 3) := by decide +kernel
theorem dX13_act_116 : decode cX13_act 116 = .ok (.iload_n 3, 1) := by decide +kernel
theorem dX13_act_117 : decode cX13_act 117 = .ok (.iconst (-1), 1) := by decide +kernel
theorem dX13_act_118 : decode cX13_act 118 = .ok (.iastore, 1) := by decide +kernel
theorem dX13_act_119 : decode cX13_act 119 = .ok (.aload_n 1, 1) := by decide +kernel
theorem dX13_act_120 : decode cX13_act 120 = .ok (.iload_n 3, 1) := by decide +kernel
theorem dX13_act_121 : decode cX13_act 121 = .ok (.invokevirtual 188, 3) := by decide +kernel
theorem dX13_act_124 : decode cX13_act 124 = .ok (.iload 6, 2) := by decide +kernel
theorem dX13_act_126 : decode cX13_act 126 = .ok (.if_icmp .ne 7, 3) := by decide +kernel
theorem dX13_act_129 : decode cX13_act 129 = .ok (.iconst 1, 1) := by decide +kernel
theorem dX13_act_130 : decode cX13_act 130 = .ok (.goto 4, 3) := by decide +kernel
theorem dX13_act_133 : decode cX13_act 133 = .ok (.iconst 0, 1) := by decide +kernel
theorem dX13_act_134 : decode cX13_act 134 = .ok (.ireturn, 1) := by decide +kernel
theorem dX13_act_135 : decode cX13_act 135 = .ok (.iload_n 2, 1) := by decide +kernel
theorem dX13_act_136 : decode cX13_act 136 = .ok (.iconst 3, 1) := by decide +kernel
theorem dX13_act_137 : decode cX13_act 137 = .ok (.if_icmp .ne 57, 3) := by decide +kernel
theorem dX13_act_140 : decode cX13_act 140 = .ok (.aload_n 0, 1) := by decide +kernel
theorem dX13_act_141 : decode cX13_act 141 = .ok (.iload_n 3, 1) := by decide +kernel
theorem dX13_act_142 : decode cX13_act 142 = .ok (.iload 4, 2) := by decide +kernel
theorem dX13_act_144 : decode cX13_act 144 = .ok (.invokevirtual 191, 3) := by decide +kernel
theorem dX13_act_147 : decode cX13_act 147 = .ok (.ifCond .eq 47, 3) := by decide +kernel
theorem dX13_act_150 : decode cX13_act 150 = .ok (.aload_n 0, 1) := by decide +kernel
theorem dX13_act_151 : decode cX13_act 151 = .ok (.getfield 25, 3) := by decide +kernel
theorem dX13_act_154 : decode cX13_act 154 = .ok (.iload_n 3, 1) := by decide +kernel
theorem dX13_act_155 : decode cX13_act 155 = .ok (.aload_n 0, 1) := by decide +kernel
theorem dX13_act_156 : decode cX13_act 156 = .ok (.getfield 25, 3) := by decide +kernel
theorem dX13_act_159 : decode cX13_act 159 = .ok (.iload 4, 2) := by decide +kernel
theorem dX13_act_161 : decode cX13_act 161 = .ok (.iaload, 1) := by decide +kernel
theorem dX13_act_162 : decode cX13_act 162 = .ok (.iastore, 1) := by decide +kernel
theorem dX13_act_163 : decode cX13_act 163 = .ok (.aload_n 0, 1) := by decide +kernel
theorem dX13_act_164 : decode cX13_act 164 = .ok (.getfield 25, 3) := by decide +kernel
theorem dX13_act_167 : decode cX13_act 167 = .ok (.iload 4, 2) := by decide +kernel
theorem dX13_act_169 : decode cX13_act 169 = .ok (.iload 6, 2) := by decide +kernel
theorem dX13_act_171 : decode cX13_act 171 = .ok (.iastore, 1) := by decide +kernel
theorem dX13_act_172 : decode cX13_act 172 = .ok (.aload_n 1, 1) := by decide +kernel
theorem dX13_act_173 : decode cX13_act 173 = .ok (.iload_n 3, 1) := by decide +kernel
theorem dX13_act_174 : decode cX13_act 174 = .ok (.iload 4, 2) := by decide +kernel
theorem dX13_act_176 : decode cX13_act 176 = .ok (.invokevirtual 194, 3) := by decide +kernel
theorem dX13_act_179 : decode cX13_act 179 = .ok (.aload_n 0, 1) := by decide +kernel
theorem dX13_act_180 : decode cX13_act 180 = .ok (.getfield 25, 3) := by decide +kernel
theorem dX13_act_183 : decode cX13_act 183 = .ok (.iload_n 3, 1) := by decide +kernel
theorem dX13_act_184 : decode cX13_act 184 = .ok (.iaload, 1) := by decide +kernel
theorem dX13_act_185 : decode cX13_act 185 = .ok (.if_icmp .ne 7, 3) := by decide +kernel
theorem dX13_act_188 : decode cX13_act 188 = .ok (.iconst 1, 1) := by decide +kernel
theorem dX13_act_189 : decode cX13_act 189 = .ok (.goto 4, 3) := by decide +kernel
theorem dX13_act_192 : decode cX13_act 192 = .ok (.iconst 0, 1) := by decide +kernel
theorem dX13_act_193 : decode cX13_act 193 = .ok (.ireturn, 1) := by decide +kernel
theorem dX13_act_194 : decode cX13_act 194 = .ok (.iload_n 2, 1) := by decide +kernel
theorem dX13_act_195 : decode cX13_act 195 = .ok (.iconst 4, 1) := by decide +kernel
theorem dX13_act_196 : decode cX13_act 196 = .ok (.if_icmp .ne 77, 3) := by decide +kernel
theorem dX13_act_199 : decode cX13_act 199 = .ok (.iconst 0, 1) := by decide +kernel
theorem dX13_act_200 : decode cX13_act 200 = .ok (.istore 7, 2) := by decide +kernel
theorem dX13_act_202 : decode cX13_act 202 = .ok (.aload_n 0, 1) := by decide +kernel
theorem dX13_act_203 : decode cX13_act 203 = .ok (.invokevirtual 197, 3) := by decide +kernel
theorem dX13_act_206 : decode cX13_act 206 = .ok (.iconst 0, 1) := by decide +kernel
theorem dX13_act_207 : decode cX13_act 207 = .ok (.istore 8, 2) := by decide +kernel
theorem dX13_act_209 : decode cX13_act 209 = .ok (.iload 8, 2) := by decide +kernel
theorem dX13_act_211 : decode cX13_act 211 = .ok (.aload_n 0, 1) := by decide +kernel
theorem dX13_act_212 : decode cX13_act 212 = .ok (.getfield 98, 3) := by decide +kernel
theorem dX13_act_215 : decode cX13_act 215 = .ok (.if_icmp .ge 43, 3) := by decide +kernel
theorem dX13_act_218 : decode cX13_act 218 = .ok (.aload_n 0, 1) := by decide +kernel
theorem dX13_act_219 : decode cX13_act 219 = .ok (.getfield 40, 3) := by decide +kernel
theorem dX13_act_222 : decode cX13_act 222 = .ok (.iload 8, 2) := by decide +kernel
theorem dX13_act_224 : decode cX13_act 224 = .ok (.iaload, 1) := by decide +kernel
theorem dX13_act_225 : decode cX13_act 225 = .ok (.aload_n 0, 1) := by decide +kernel
theorem dX13_act_226 : decode cX13_act 226 = .ok (.getfield 25, 3) := by decide +kernel
theorem dX13_act_229 : decode cX13_act 229 = .ok (.iload 8, 2) := by decide +kernel
theorem dX13_act_231 : decode cX13_act 231 = .ok (.iaload, 1) := by decide +kernel
theorem dX13_act_232 : decode cX13_act 232 = .ok (.if_icmp .eq 6, 3) := by decide +kernel
theorem dX13_act_235 : decode cX13_act 235 = .ok (.iinc 7 1, 3) := by decide +kernel
theorem dX13_act_238 : decode cX13_act 238 = .ok (.aload_n 0, 1) := by decide +kernel
theorem dX13_act_239 : decode cX13_act 239 = .ok (.getfield 25, 3) := by decide +kernel
theorem dX13_act_242 : decode cX13_act 242 = .ok (.iload 8, 2) := by decide +kernel
theorem dX13_act_244 : decode cX13_act 244 = .ok (.aload_n 0, 1) := by decide +kernel
theorem dX13_act_245 : decode cX13_act 245 = .ok (.getfield 40, 3) := by decide +kernel
theorem dX13_act_248 : decode cX13_act 248 = .ok (.iload 8, 2) := by decide +kernel
theorem dX13_act_250 : decode cX13_act 250 = .ok (.iaload, 1) := by decide +kernel
theorem dX13_act_251 : decode cX13_act 251 = .ok (.iastore, 1) := by decide +kernel
theorem dX13_act_252 : decode cX13_act 252 = .ok (.iinc 8 1, 3) := by decide +kernel
theorem dX13_act_255 : decode cX13_act 255 = .ok (.goto (-46), 3) := by decide +kernel
theorem dX13_act_258 : decode cX13_act 258 = .ok (.aload_n 1, 1) := by decide +kernel
theorem dX13_act_259 : decode cX13_act 259 = .ok (.invokevirtual 200, 3) := by decide +kernel
theorem dX13_act_262 : decode cX13_act 262 = .ok (.iload 7, 2) := by decide +kernel
theorem dX13_act_264 : decode cX13_act 264 = .ok (.if_icmp .ne 7, 3) := by decide +kernel
theorem dX13_act_267 : decode cX13_act 267 = .ok (.iconst 1, 1) := by decide +kernel
theorem dX13_act_268 : decode cX13_act 268 = .ok (.goto 4, 3) := by decide +kernel
theorem dX13_act_271 : decode cX13_act 271 = .ok (.iconst 0, 1) := by decide +kernel
theorem dX13_act_272 : decode cX13_act 272 = .ok (.ireturn, 1) := by decide +kernel
theorem dX13_act_273 : decode cX13_act 273 = .ok (.iload_n 2, 1) := by decide +kernel
theorem dX13_act_274 : decode cX13_act 274 = .ok (.iconst 5, 1) := by decide +kernel
theorem dX13_act_275 : decode cX13_act 275 = .ok (.if_icmp .ne 32, 3) := by decide +kernel
theorem dX13_act_278 : decode cX13_act 278 = .ok (.aload_n 0, 1) := by decide +kernel
theorem dX13_act_279 : decode cX13_act 279 = .ok (.iload_n 3, 1) := by decide +kernel
theorem dX13_act_280 : decode cX13_act 280 = .ok (.iload 5, 2) := by decide +kernel
theorem dX13_act_282 : decode cX13_act 282 = .ok (.invokevirtual 203, 3) := by decide +kernel
theorem dX13_act_285 : decode cX13_act 285 = .ok (.aload_n 1, 1) := by decide +kernel
theorem dX13_act_286 : decode cX13_act 286 = .ok (.iload_n 3, 1) := by decide +kernel
theorem dX13_act_287 : decode cX13_act 287 = .ok (.iload 5, 2) := by decide +kernel
theorem dX13_act_289 : decode cX13_act 289 = .ok (.invokevirtual 206, 3) := by decide +kernel
theorem dX13_act_292 : decode cX13_act 292 = .ok (.aload_n 0, 1) := by decide +kernel
theorem dX13_act_293 : decode cX13_act 293 = .ok (.getfield 28, 3) := by decide +kernel
theorem dX13_act_296 : decode cX13_act 296 = .ok (.iload_n 3, 1) := by decide +kernel
theorem dX13_act_297 : decode cX13_act 297 = .ok (.iaload, 1) := by decide +kernel
theorem dX13_act_298 : decode cX13_act 298 = .ok (.if_icmp .ne 7, 3) := by decide +kernel
theorem dX13_act_301 : decode cX13_act 301 = .ok (.iconst 1, 1) := by decide +kernel
theorem dX13_act_302 : decode cX13_act 302 = .ok (.goto 4, 3) := by decide +kernel
theorem dX13_act_305 : decode cX13_act 305 = .ok (.iconst 0, 1) := by decide +kernel
theorem dX13_act_306 : decode cX13_act 306 = .ok (.ireturn, 1) := by decide +kernel
theorem dX13_act_307 : decode cX13_act 307 = .ok (.iload_n 2, 1) := by decide +kernel
theorem dX13_act_308 : decode cX13_act 308 = .ok (.bipush 6, 2) := by decide +kernel
theorem dX13_act_310 : decode cX13_act 310 = .ok (.if_icmp .ne 92, 3) := by decide +kernel
theorem dX13_act_313 : decode cX13_act 313 = .ok (.aload_n 0, 1) := by decide +kernel
theorem dX13_act_314 : decode cX13_act 314 = .ok (.iload_n 3, 1) := by decide +kernel
theorem dX13_act_315 : decode cX13_act 315 = .ok (.iload 5, 2) := by decide +kernel
theorem dX13_act_317 : decode cX13_act 317 = .ok (.invokevirtual 115, 3) := by decide +kernel
theorem dX13_act_320 : decode cX13_act 320 = .ok (.iconst (-1), 1) := by decide +kernel
theorem dX13_act_321 : decode cX13_act 321 = .ok (.if_icmp .eq 81, 3) := by decide +kernel
theorem dX13_act_324 : decode cX13_act 324 = .ok (.aload_n 0, 1) := by decide +kernel
theorem dX13_act_325 : decode cX13_act 325 = .ok (.getfield 28, 3) := by decide +kernel
theorem dX13_act_328 : decode cX13_act 328 = .ok (.iload_n 3, 1) := by decide +kernel
theorem dX13_act_329 : decode cX13_act 329 = .ok (.dup2, 1) := by decide +kernel
theorem dX13_act_330 : decode cX13_act 330 = .ok (.iaload, 1) := by decide +kernel
theorem dX13_act_331 : decode cX13_act 331 = .ok (.iconst 1, 1) := by decide +kernel
theorem dX13_act_332 : decode cX13_act 332 = .ok (.isub, 1) := by decide +kernel
theorem dX13_act_333 : decode cX13_act 333 = .ok (.iastore, 1) := by decide +kernel
theorem dX13_act_334 : decode cX13_act 334 = .ok (.aload_n 0, 1) := by decide +kernel
theorem dX13_act_335 : decode cX13_act 335 = .ok (.iload_n 3, 1) := by decide +kernel
theorem dX13_act_336 : decode cX13_act 336 = .ok (.iload 5, 2) := by decide +kernel
theorem dX13_act_338 : decode cX13_act 338 = .ok (.invokevirtual 209, 3) := by decide +kernel
theorem dX13_act_341 : decode cX13_act 341 = .ok (.istore 7, 2) := by decide +kernel
theorem dX13_act_343 : decode cX13_act 343 = .ok (.iload 7, 2) := by decide +kernel
theorem dX13_act_345 : decode cX13_act 345 = .ok (.aload_n 0, 1) := by decide +kernel
theorem dX13_act_346 : decode cX13_act 346 = .ok (.getfield 28, 3) := by decide +kernel
theorem dX13_act_349 : decode cX13_act 349 = .ok (.iload_n 3, 1) := by decide +kernel
theorem dX13_act_350 : decode cX13_act 350 = .ok (.iaload, 1) := by decide +kernel
theorem dX13_act_351 : decode cX13_act 351 = .ok (.if_icmp .ge 29, 3) := by decide +kernel
theorem dX13_act_354 : decode cX13_act 354 = .ok (.aload_n 0, 1) := by decide +kernel
theorem dX13_act_355 : decode cX13_act 355 = .ok (.getfield 45, 3) := by decide +kernel
theorem dX13_act_358 : decode cX13_act 358 = .ok (.iload_n 3, 1) := by decide +kernel
theorem dX13_act_359 : decode cX13_act 359 = .ok (.aaload, 1) := by decide +kernel
theorem dX13_act_360 : decode cX13_act 360 = .ok (.iload 7, 2) := by decide +kernel
theorem dX13_act_362 : decode cX13_act 362 = .ok (.aload_n 0, 1) := by decide +kernel
theorem dX13_act_363 : decode cX13_act 363 = .ok (.getfield 45, 3) := by decide +kernel
theorem dX13_act_366 : decode cX13_act 366 = .ok (.iload_n 3, 1) := by decide +kernel
theorem dX13_act_367 : decode cX13_act 367 = .ok (.aaload, 1) := by decide +kernel
theorem dX13_act_368 : decode cX13_act 368 = .ok (.iload 7, 2) := by decide +kernel
theorem dX13_act_370 : decode cX13_act 370 = .ok (.iconst 1, 1) := by decide +kernel
theorem dX13_act_371 : decode cX13_act 371 = .ok (.iadd, 1) := by decide +kernel
theorem dX13_act_372 : decode cX13_act 372 = .ok (.iaload, 1) := by decide +kernel
theorem dX13_act_373 : decode cX13_act 373 = .ok (.iastore, 1) := by decide +kernel
theorem dX13_act_374 : decode cX13_act 374 = .ok (.iinc 7 1, 3) := by decide +kernel
theorem dX13_act_377 : decode cX13_act 377 = .ok (.goto (-34), 3) := by decide +kernel
theorem dX13_act_380 : decode cX13_act 380 = .ok (.aload_n 1, 1) := by decide +kernel
theorem dX13_act_381 : decode cX13_act 381 = .ok (.iload_n 3, 1) := by decide +kernel
theorem dX13_act_382 : decode cX13_act 382 = .ok (.iload 5, 2) := by decide +kernel
theorem dX13_act_384 : decode cX13_act 384 = .ok (.invokevirtual 212, 3) := by decide +kernel
theorem dX13_act_387 : decode cX13_act 387 = .ok (.aload_n 0, 1) := by decide +kernel
theorem dX13_act_388 : decode cX13_act 388 = .ok (.getfield 28, 3) := by decide +kernel
theorem dX13_act_391 : decode cX13_act 391 = .ok (.iload_n 3, 1) := by decide +kernel
theorem dX13_act_392 : decode cX13_act 392 = .ok (.iaload, 1) := by decide +kernel
theorem dX13_act_393 : decode cX13_act 393 = .ok (.if_icmp .ne 7, 3) := by decide +kernel
theorem dX13_act_396 : decode cX13_act 396 = .ok (.iconst 1, 1) := by decide +kernel
theorem dX13_act_397 : decode cX13_act 397 = .ok (.goto 4, 3) := by decide +kernel
theorem dX13_act_400 : decode cX13_act 400 = .ok (.iconst 0, 1) := by decide +kernel
theorem dX13_act_401 : decode cX13_act 401 = .ok (.ireturn, 1) := by decide +kernel
theorem dX13_act_402 : decode cX13_act 402 = .ok (.iload_n 2, 1) := by decide +kernel
theorem dX13_act_403 : decode cX13_act 403 = .ok (.bipush 7, 2) := by decide +kernel
theorem dX13_act_405 : decode cX13_act 405 = .ok (.if_icmp .ne 48, 3) := by decide +kernel
theorem dX13_act_408 : decode cX13_act 408 = .ok (.iconst 0, 1) := by decide +kernel
theorem dX13_act_409 : decode cX13_act 409 = .ok (.istore 7, 2) := by decide +kernel
theorem dX13_act_411 : decode cX13_act 411 = .ok (.aload_n 0, 1) := by decide +kernel
theorem dX13_act_412 : decode cX13_act 412 = .ok (.getfield 31, 3) := by decide +kernel
theorem dX13_act_415 : decode cX13_act 415 = .ok (.iload 7, 2) := by decide +kernel
theorem dX13_act_417 : decode cX13_act 417 = .ok (.iaload, 1) := by decide +kernel
theorem dX13_act_418 : decode cX13_act 418 = .ok (.iload_n 3, 1) := by decide +kernel
theorem dX13_act_419 : decode cX13_act 419 = .ok (.if_icmp .eq 9, 3) := by decide +kernel
theorem dX13_act_422 : decode cX13_act 422 = .ok (.iinc 7 1, 3) := by decide +kernel
theorem dX13_act_425 : decode cX13_act 425 = .ok (.goto (-14), 3) := by decide +kernel
theorem dX13_act_428 : decode cX13_act 428 = .ok (.aload_n 0, 1) := by decide +kernel
theorem dX13_act_429 : decode cX13_act 429 = .ok (.iload_n 3, 1) := by decide +kernel
theorem dX13_act_430 : decode cX13_act 430 = .ok (.iload 4, 2) := by decide +kernel
theorem dX13_act_432 : decode cX13_act 432 = .ok (.invokevirtual 215, 3) := by decide +kernel
theorem dX13_act_435 : decode cX13_act 435 = .ok (.aload_n 1, 1) := by decide +kernel
theorem dX13_act_436 : decode cX13_act 436 = .ok (.iload_n 3, 1) := by decide +kernel
theorem dX13_act_437 : decode cX13_act 437 = .ok (.iload 4, 2) := by decide +kernel
theorem dX13_act_439 : decode cX13_act 439 = .ok (.invokevirtual 218, 3) := by decide +kernel
theorem dX13_act_442 : decode cX13_act 442 = .ok (.iload 7, 2) := by decide +kernel
theorem dX13_act_444 : decode cX13_act 444 = .ok (.if_icmp .ne 7, 3) := by decide +kernel
theorem dX13_act_447 : decode cX13_act 447 = .ok (.iconst 1, 1) := by decide +kernel
theorem dX13_act_448 : decode cX13_act 448 = .ok (.goto 4, 3) := by decide +kernel
theorem dX13_act_451 : decode cX13_act 451 = .ok (.iconst 0, 1) := by decide +kernel
theorem dX13_act_452 : decode cX13_act 452 = .ok (.ireturn, 1) := by decide +kernel
theorem dX13_act_453 : decode cX13_act 453 = .ok (.iload_n 2, 1) := by decide +kernel
theorem dX13_act_454 : decode cX13_act 454 = .ok (.bipush 8, 2) := by decide +kernel
theorem dX13_act_456 : decode cX13_act 456 = .ok (.if_icmp .ne 49, 3) := by decide +kernel
theorem dX13_act_459 : decode cX13_act 459 = .ok (.aload_n 0, 1) := by decide +kernel
theorem dX13_act_460 : decode cX13_act 460 = .ok (.getfield 15, 3) := by decide +kernel
theorem dX13_act_463 : decode cX13_act 463 = .ok (.iload 5, 2) := by decide +kernel
theorem dX13_act_465 : decode cX13_act 465 = .ok (.iaload, 1) := by decide +kernel
theorem dX13_act_466 : decode cX13_act 466 = .ok (.istore 7, 2) := by decide +kernel
theorem dX13_act_468 : decode cX13_act 468 = .ok (.aload_n 0, 1) := by decide +kernel
theorem dX13_act_469 : decode cX13_act 469 = .ok (.getfield 15, 3) := by decide +kernel
theorem dX13_act_472 : decode cX13_act 472 = .ok (.iload 5, 2) := by decide +kernel
theorem dX13_act_474 : decode cX13_act 474 = .ok (.aload_n 0, 1) := by decide +kernel
theorem dX13_act_475 : decode cX13_act 475 = .ok (.bipush 100, 2) := by decide +kernel
theorem dX13_act_477 : decode cX13_act 477 = .ok (.invokevirtual 92, 3) := by decide +kernel
theorem dX13_act_480 : decode cX13_act 480 = .ok (.iastore, 1) := by decide +kernel
theorem dX13_act_481 : decode cX13_act 481 = .ok (.aload_n 1, 1) := by decide +kernel
theorem dX13_act_482 : decode cX13_act 482 = .ok (.iload 5, 2) := by decide +kernel
theorem dX13_act_484 : decode cX13_act 484 = .ok (.aload_n 0, 1) := by decide +kernel
theorem dX13_act_485 : decode cX13_act 485 = .ok (.getfield 15, 3) := by decide +kernel
theorem dX13_act_488 : decode cX13_act 488 = .ok (.iload 5, 2) := by decide +kernel
theorem dX13_act_490 : decode cX13_act 490 = .ok (.iaload, 1) := by decide +kernel
theorem dX13_act_491 : decode cX13_act 491 = .ok (.invokevirtual 221, 3) := by decide +kernel
theorem dX13_act_494 : decode cX13_act 494 = .ok (.iload 7, 2) := by decide +kernel
theorem dX13_act_496 : decode cX13_act 496 = .ok (.if_icmp .ne 7, 3) := by decide +kernel
theorem dX13_act_499 : decode cX13_act 499 = .ok (.iconst 1, 1) := by decide +kernel
theorem dX13_act_500 : decode cX13_act 500 = .ok (.goto 4, 3) := by decide +kernel
theorem dX13_act_503 : decode cX13_act 503 = .ok (.iconst 0, 1) := by decide +kernel
theorem dX13_act_504 : decode cX13_act 504 = .ok (.ireturn, 1) := by decide +kernel
theorem dX13_act_505 : decode cX13_act 505 = .ok (.iconst 1, 1) := by decide +kernel
theorem dX13_act_506 : decode cX13_act 506 = .ok (.aload_n 0, 1) := by decide +kernel
theorem dX13_act_507 : decode cX13_act 507 = .ok (.iconst 3, 1) := by decide +kernel
theorem dX13_act_508 : decode cX13_act 508 = .ok (.invokevirtual 92, 3) := by decide +kernel
theorem dX13_act_511 : decode cX13_act 511 = .ok (.iadd, 1) := by decide +kernel
theorem dX13_act_512 : decode cX13_act 512 = .ok (.istore 7, 2) := by decide +kernel
theorem dX13_act_514 : decode cX13_act 514 = .ok (.iconst 0, 1) := by decide +kernel
theorem dX13_act_515 : decode cX13_act 515 = .ok (.istore 8, 2) := by decide +kernel
theorem dX13_act_517 : decode cX13_act 517 = .ok (.iconst 0, 1) := by decide +kernel
theorem dX13_act_518 : decode cX13_act 518 = .ok (.istore 9, 2) := by decide +kernel
theorem dX13_act_520 : decode cX13_act 520 = .ok (.iload 9, 2) := by decide +kernel
theorem dX13_act_522 : decode cX13_act 522 = .ok (.iload 7, 2) := by decide +kernel
theorem dX13_act_524 : decode cX13_act 524 = .ok (.if_icmp .ge 18, 3) := by decide +kernel
theorem dX13_act_527 : decode cX13_act 527 = .ok (.iload 8, 2) := by decide +kernel
theorem dX13_act_529 : decode cX13_act 529 = .ok (.aload_n 0, 1) := by decide +kernel
theorem dX13_act_530 : decode cX13_act 530 = .ok (.invokevirtual 224, 3) := by decide +kernel
theorem dX13_act_533 : decode cX13_act 533 = .ok (.iadd, 1) := by decide +kernel
theorem dX13_act_534 : decode cX13_act 534 = .ok (.istore 8, 2) := by decide +kernel
theorem dX13_act_536 : decode cX13_act 536 = .ok (.iinc 9 1, 3) := by decide +kernel
theorem dX13_act_539 : decode cX13_act 539 = .ok (.goto (-19), 3) := by decide +kernel
theorem dX13_act_542 : decode cX13_act 542 = .ok (.aload_n 1, 1) := by decide +kernel
theorem dX13_act_543 : decode cX13_act 543 = .ok (.iload 7, 2) := by decide +kernel
theorem dX13_act_545 : decode cX13_act 545 = .ok (.invokevirtual 227, 3) := by decide +kernel
theorem dX13_act_548 : decode cX13_act 548 = .ok (.iload 8, 2) := by decide +kernel
theorem dX13_act_550 : decode cX13_act 550 = .ok (.if_icmp .ne 7, 3) := by decide +kernel
theorem dX13_act_553 : decode cX13_act 553 = .ok (.iconst 1, 1) := by decide +kernel
theorem dX13_act_554 : decode cX13_act 554 = .ok (.goto 4, 3) := by decide +kernel
theorem dX13_act_557 : decode cX13_act 557 = .ok (.iconst 0, 1) := by decide +kernel
theorem dX13_act_558 : decode cX13_act 558 = .ok (.ireturn, 1) := by decide +kernel
theorem dX13_rankAll_0 : decode cX13_rankAll 0 = .ok (.iconst 0, 1) := by decide +kernel
theorem dX13_rankAll_1 : decode cX13_rankAll 1 = .ok (.istore_n 3, 1) := by decide +kernel
theorem dX13_rankAll_2 : decode cX13_rankAll 2 = .ok (.iload_n 3, 1) := by decide +kernel
theorem dX13_rankAll_3 : decode cX13_rankAll 3 = .ok (.aload_n 0, 1) := by decide +kernel
theorem dX13_rankAll_4 : decode cX13_rankAll 4 = .ok (.getfield 28, 3) := by decide +kernel
theorem dX13_rankAll_7 : decode cX13_rankAll 7 = .ok (.iload_n 1, 1) := by decide +kernel
theorem dX13_rankAll_8 : decode cX13_rankAll 8 = .ok (.iaload, 1) := by decide +kernel
theorem dX13_rankAll_9 : decode cX13_rankAll 9 = .ok (.if_icmp .gt 23, 3) := by decide +kernel
theorem dX13_rankAll_12 : decode cX13_rankAll 12 = .ok (.aload_n 0, 1) := by decide +kernel
theorem dX13_rankAll_13 : decode cX13_rankAll 13 = .ok (.getfield 45, 3) := by decide +kernel
theorem dX13_rankAll_16 : decode cX13_rankAll 16 = .ok (.iload_n 1, 1) := by decide +kernel
theorem dX13_rankAll_17 : decode cX13_rankAll 17 = .ok (.aaload, 1) := by decide +kernel
theorem dX13_rankAll_18 : decode cX13_rankAll 18 = .ok (.iload_n 3, 1) := by decide +kernel
theorem dX13_rankAll_19 : decode cX13_rankAll 19 = .ok (.iaload, 1) := by decide +kernel
theorem dX13_rankAll_20 : decode cX13_rankAll 20 = .ok (.iload_n 2, 1) := by decide +kernel
theorem dX13_rankAll_21 : decode cX13_rankAll 21 = .ok (.if_icmp .ne 5, 3) := by decide +kernel
theorem dX13_rankAll_24 : decode cX13_rankAll 24 = .ok (.iload_n 3, 1) := by decide +kernel
theorem dX13_rankAll_25 : decode cX13_rankAll 25 = .ok (.ireturn, 1) := by decide +kernel
theorem dX13_rankAll_26 : decode cX13_rankAll 26 = .ok (.iinc 3 1, 3) := by decide +kernel
theorem dX13_rankAll_29 : decode cX13_rankAll 29 = .ok (.goto (-27), 3) := by decide +kernel
theorem dX13_rankAll_32 : decode cX13_rankAll 32 = .ok (.aload_n 0, 1) := by decide +kernel
theorem dX13_rankAll_33 : decode cX13_rankAll 33 = .ok (.getfield 28, 3) := by decide +kernel
theorem dX13_rankAll_36 : decode cX13_rankAll 36 = .ok (.iload_n 1, 1) := by decide +kernel
theorem dX13_rankAll_37 : decode cX13_rankAll 37 = .ok (.iaload, 1) := by decide +kernel
theorem dX13_rankAll_38 : decode cX13_rankAll 38 = .ok (.ireturn, 1) := by decide +kernel
theorem dJ0_length_8abf5_0 : decode cJ0_length_8abf5 0 = .ok (.aload_n 0, 1) := by decide +kernel
theorem dJ0_length_8abf5_1 : decode cJ0_length_8abf5 1 = .ok (.getfield 9, 3) := by decide +kernel
theorem dJ0_length_8abf5_4 : decode cJ0_length_8abf5 4 = .ok (.arraylength, 1) := by decide +kernel
theorem dJ0_length_8abf5_5 : decode cJ0_length_8abf5 5 = .ok (.aload_n 0, 1) := by decide +kernel
theorem dJ0_length_8abf5_6 : decode cJ0_length_8abf5 6 = .ok (.invokevirtual 335, 3) := by decide +kernel
theorem dJ0_length_8abf5_9 : decode cJ0_length_8abf5 9 = .ok (.ishr, 1) := by decide +kernel
theorem dJ0_length_8abf5_10 : decode cJ0_length_8abf5 10 = .ok (.ireturn, 1) := by decide +kernel
theorem dJ0_charAt_5068e_0 : decode cJ0_charAt_5068e 0 = .ok (.aload_n 0, 1) := by decide +kernel
theorem dJ0_charAt_5068e_1 : decode cJ0_charAt_5068e 1 = .ok (.invokevirtual 492, 3) := by decide +kernel
theorem dJ0_charAt_5068e_4 : decode cJ0_charAt_5068e 4 = .ok (.ifCond .eq 12, 3) := by decide +kernel
theorem dJ0_charAt_5068e_7 : decode cJ0_charAt_5068e 7 = .ok (.aload_n 0, 1) := by decide +kernel
theorem dJ0_charAt_5068e_8 : decode cJ0_charAt_5068e 8 = .ok (.getfield 9, 3) := by decide +kernel
theorem dJ0_charAt_5068e_11 : decode cJ0_charAt_5068e 11 = .ok (.iload_n 1, 1) := by decide +kernel
theorem dJ0_charAt_5068e_12 : decode cJ0_charAt_5068e 12 = .ok (.invokestatic 495, 3) := by decide +kernel
theorem dJ0_charAt_5068e_15 : decode cJ0_charAt_5068e 15 = .ok (.ireturn, 1) := by decide +kernel
theorem dJ0_charAt_5068e_16 : decode cJ0_charAt_5068e 16 = .ok (.aload_n 0, 1) := by decide +kernel
theorem dJ0_charAt_5068e_17 : decode cJ0_charAt_5068e 17 = .ok (.getfield 9, 3) := by decide +kernel
theorem dJ0_charAt_5068e_20 : decode cJ0_charAt_5068e 20 = .ok (.iload_n 1, 1) := by decide +kernel
theorem dJ0_charAt_5068e_21 : decode cJ0_charAt_5068e 21 = .ok (.invokestatic 498, 3) := by decide +kernel
theorem dJ0_charAt_5068e_24 : decode cJ0_charAt_5068e 24 = .ok (.ireturn, 1) := by decide +kernel
theorem dJ0_coder_7d493_0 : decode cJ0_coder_7d493 0 = .ok (.getstatic 38, 3) := by decide +kernel
theorem dJ0_coder_7d493_3 : decode cJ0_coder_7d493 3 = .ok (.ifCond .eq 10, 3) := by decide +kernel
theorem dJ0_coder_7d493_6 : decode cJ0_coder_7d493 6 = .ok (.aload_n 0, 1) := by decide +kernel
theorem dJ0_coder_7d493_7 : decode cJ0_coder_7d493 7 = .ok (.getfield 15, 3) := by decide +kernel
theorem dJ0_coder_7d493_10 : decode cJ0_coder_7d493 10 = .ok (.goto 4, 3) := by decide +kernel
theorem dJ0_coder_7d493_13 : decode cJ0_coder_7d493 13 = .ok (.iconst 1, 1) := by decide +kernel
theorem dJ0_coder_7d493_14 : decode cJ0_coder_7d493 14 = .ok (.ireturn, 1) := by decide +kernel
theorem dJ0_isLatin1_aae02_0 : decode cJ0_isLatin1_aae02 0 = .ok (.getstatic 38, 3) := by decide +kernel
theorem dJ0_isLatin1_aae02_3 : decode cJ0_isLatin1_aae02 3 = .ok (.ifCond .eq 14, 3) := by decide +kernel
theorem dJ0_isLatin1_aae02_6 : decode cJ0_isLatin1_aae02 6 = .ok (.aload_n 0, 1) := by decide +kernel
theorem dJ0_isLatin1_aae02_7 : decode cJ0_isLatin1_aae02 7 = .ok (.getfield 15, 3) := by decide +kernel
theorem dJ0_isLatin1_aae02_10 : decode cJ0_isLatin1_aae02 10 = .ok (.ifCond .ne 7, 3) := by decide +kernel
theorem dJ0_isLatin1_aae02_13 : decode cJ0_isLatin1_aae02 13 = .ok (.iconst 1, 1) := by decide +kernel
theorem dJ0_isLatin1_aae02_14 : decode cJ0_isLatin1_aae02 14 = .ok (.goto 4, 3) := by decide +kernel
theorem dJ0_isLatin1_aae02_17 : decode cJ0_isLatin1_aae02 17 = .ok (.iconst 0, 1) := by decide +kernel
theorem dJ0_isLatin1_aae02_18 : decode cJ0_isLatin1_aae02 18 = .ok (.ireturn, 1) := by decide +kernel
theorem dJ0_checkIndex_df160_0 : decode cJ0_checkIndex_df160 0 = .ok (.iload_n 0, 1) := by decide +kernel
theorem dJ0_checkIndex_df160_1 : decode cJ0_checkIndex_df160 1 = .ok (.iload_n 1, 1) := by decide +kernel
theorem dJ0_checkIndex_df160_2 : decode cJ0_checkIndex_df160 2 = .ok (.getstatic 1053, 3) := by decide +kernel
theorem dJ0_checkIndex_df160_5 : decode cJ0_checkIndex_df160 5 = .ok (.invokestatic 1059, 3) := by decide +kernel
theorem dJ0_checkIndex_df160_8 : decode cJ0_checkIndex_df160 8 = .ok (.pop, 1) := by decide +kernel
theorem dJ0_checkIndex_df160_9 : decode cJ0_checkIndex_df160 9 = .ok (.return_, 1) := by decide +kernel
theorem dJ1_charAt_3b067_0 : decode cJ1_charAt_3b067 0 = .ok (.iload_n 1, 1) := by decide +kernel
theorem dJ1_charAt_3b067_1 : decode cJ1_charAt_3b067 1 = .ok (.aload_n 0, 1) := by decide +kernel
theorem dJ1_charAt_3b067_2 : decode cJ1_charAt_3b067 2 = .ok (.arraylength, 1) := by decide +kernel
theorem dJ1_charAt_3b067_3 : decode cJ1_charAt_3b067 3 = .ok (.invokestatic 9, 3) := by decide +kernel
theorem dJ1_charAt_3b067_6 : decode cJ1_charAt_3b067 6 = .ok (.aload_n 0, 1) := by decide +kernel
theorem dJ1_charAt_3b067_7 : decode cJ1_charAt_3b067 7 = .ok (.iload_n 1, 1) := by decide +kernel
theorem dJ1_charAt_3b067_8 : decode cJ1_charAt_3b067 8 = .ok (.baload, 1) := by decide +kernel
theorem dJ1_charAt_3b067_9 : decode cJ1_charAt_3b067 9 = .ok (.sipush 255, 3) := by decide +kernel
theorem dJ1_charAt_3b067_12 : decode cJ1_charAt_3b067 12 = .ok (.iand, 1) := by decide +kernel
theorem dJ1_charAt_3b067_13 : decode cJ1_charAt_3b067 13 = .ok (.i2c, 1) := by decide +kernel
theorem dJ1_charAt_3b067_14 : decode cJ1_charAt_3b067 14 = .ok (.ireturn, 1) := by decide +kernel
theorem dJ2_getChar_3b067_0 : decode cJ2_getChar_3b067 0 = .ok (.getstatic 44, 3) := by decide +kernel
theorem dJ2_getChar_3b067_3 : decode cJ2_getChar_3b067 3 = .ok (.ifCond .ne 25, 3) := by decide +kernel
theorem dJ2_getChar_3b067_6 : decode cJ2_getChar_3b067 6 = .ok (.iload_n 1, 1) := by decide +kernel
theorem dJ2_getChar_3b067_7 : decode cJ2_getChar_3b067 7 = .ok (.ifCond .lt 11, 3) := by decide +kernel
theorem dJ2_getChar_3b067_10 : decode cJ2_getChar_3b067 10 = .ok (.iload_n 1, 1) := by decide +kernel
theorem dJ2_getChar_3b067_11 : decode cJ2_getChar_3b067 11 = .ok (.aload_n 0, 1) := by decide +kernel
theorem dJ2_getChar_3b067_12 : decode cJ2_getChar_3b067 12 = .ok (.invokestatic 48, 3) := by decide +kernel
theorem dJ2_getChar_3b067_15 : decode cJ2_getChar_3b067 15 = .ok (.if_icmp .lt 13, 3) := by decide +kernel
theorem dJ2_getChar_3b067_18 : decode cJ2_getChar_3b067 18 = .ok (.new 52, 3) := by decide +kernel
theorem dJ2_getChar_3b067_21 : decode cJ2_getChar_3b067 21 = .ok (.dup, 1) := by decide +kernel
theorem dJ2_getChar_3b067_22 : decode cJ2_getChar_3b067 22 = .ok (.ldc 54, 2) := by decide +kernel
theorem dJ2_getChar_3b067_24 : decode cJ2_getChar_3b067 24 = .ok (.invokespecial 56, 3) := by decide +kernel
theorem dJ2_getChar_3b067_27 : decode cJ2_getChar_3b067 27 = .ok (.athrow, 1) := by decide +kernel
theorem dJ2_getChar_3b067_28 : decode cJ2_getChar_3b067 28 = .ok (.iload_n 1, 1) := by decide +kernel
theorem dJ2_getChar_3b067_29 : decode cJ2_getChar_3b067 29 = .ok (.iconst 1, 1) := by decide +kernel
theorem dJ2_getChar_3b067_30 : decode cJ2_getChar_3b067 30 = .ok (.ishl, 1) := by decide +kernel
theorem dJ2_getChar_3b067_31 : decode cJ2_getChar_3b067 31 = .ok (.istore_n 1, 1) := by decide +kernel
theorem dJ2_getChar_3b067_32 : decode cJ2_getChar_3b067 32 = .ok (.aload_n 0, 1) := by decide +kernel
theorem dJ2_getChar_3b067_33 : decode cJ2_getChar_3b067 33 = .ok (.iload_n 1, 1) := by decide +kernel
theorem dJ2_getChar_3b067_34 : decode cJ2_getChar_3b067 34 = .ok (.iinc 1 1, 3) := by decide +kernel
theorem dJ2_getChar_3b067_37 : decode cJ2_getChar_3b067 37 = .ok (.baload, 1) := by decide +kernel
theorem dJ2_getChar_3b067_38 : decode cJ2_getChar_3b067 38 = .ok (.sipush 255, 3) := by decide +kernel
theorem dJ2_getChar_3b067_41 : decode cJ2_getChar_3b067 41 = .ok (.iand, 1) := by decide +kernel
theorem dJ2_getChar_3b067_42 : decode cJ2_getChar_3b067 42 = .ok (.getstatic 59, 3) := by decide +kernel
theorem dJ2_getChar_3b067_45 : decode cJ2_getChar_3b067 45 = .ok (.ishl, 1) := by decide +kernel
theorem dJ2_getChar_3b067_46 : decode cJ2_getChar_3b067 46 = .ok (.aload_n 0, 1) := by decide +kernel
theorem dJ2_getChar_3b067_47 : decode cJ2_getChar_3b067 47 = .ok (.iload_n 1, 1) := by decide +kernel
theorem dJ2_getChar_3b067_48 : decode cJ2_getChar_3b067 48 = .ok (.baload, 1) := by decide +kernel
theorem dJ2_getChar_3b067_49 : decode cJ2_getChar_3b067 49 = .ok (.sipush 255, 3) := by decide +kernel
theorem dJ2_getChar_3b067_52 : decode cJ2_getChar_3b067 52 = .ok (.iand, 1) := by decide +kernel
theorem dJ2_getChar_3b067_53 : decode cJ2_getChar_3b067 53 = .ok (.getstatic 63, 3) := by decide +kernel
theorem dJ2_getChar_3b067_56 : decode cJ2_getChar_3b067 56 = .ok (.ishl, 1) := by decide +kernel
theorem dJ2_getChar_3b067_57 : decode cJ2_getChar_3b067 57 = .ok (.ior, 1) := by decide +kernel
theorem dJ2_getChar_3b067_58 : decode cJ2_getChar_3b067 58 = .ok (.i2c, 1) := by decide +kernel
theorem dJ2_getChar_3b067_59 : decode cJ2_getChar_3b067 59 = .ok (.ireturn, 1) := by decide +kernel
theorem dJ2_length_9d52b_0 : decode cJ2_length_9d52b 0 = .ok (.aload_n 0, 1) := by decide +kernel
theorem dJ2_length_9d52b_1 : decode cJ2_length_9d52b 1 = .ok (.arraylength, 1) := by decide +kernel
theorem dJ2_length_9d52b_2 : decode cJ2_length_9d52b 2 = .ok (.iconst 1, 1) := by decide +kernel
theorem dJ2_length_9d52b_3 : decode cJ2_length_9d52b 3 = .ok (.ishr, 1) := by decide +kernel
theorem dJ2_length_9d52b_4 : decode cJ2_length_9d52b 4 = .ok (.ireturn, 1) := by decide +kernel
theorem dJ2_charAt_3b067_0 : decode cJ2_charAt_3b067 0 = .ok (.iload_n 1, 1) := by decide +kernel
theorem dJ2_charAt_3b067_1 : decode cJ2_charAt_3b067 1 = .ok (.aload_n 0, 1) := by decide +kernel
theorem dJ2_charAt_3b067_2 : decode cJ2_charAt_3b067 2 = .ok (.invokestatic 67, 3) := by decide +kernel
theorem dJ2_charAt_3b067_5 : decode cJ2_charAt_3b067 5 = .ok (.aload_n 0, 1) := by decide +kernel
theorem dJ2_charAt_3b067_6 : decode cJ2_charAt_3b067 6 = .ok (.iload_n 1, 1) := by decide +kernel
theorem dJ2_charAt_3b067_7 : decode cJ2_charAt_3b067 7 = .ok (.invokestatic 71, 3) := by decide +kernel
theorem dJ2_charAt_3b067_10 : decode cJ2_charAt_3b067 10 = .ok (.ireturn, 1) := by decide +kernel
theorem dJ2_checkIndex_2214a_0 : decode cJ2_checkIndex_2214a 0 = .ok (.iload_n 0, 1) := by decide +kernel
theorem dJ2_checkIndex_2214a_1 : decode cJ2_checkIndex_2214a 1 = .ok (.aload_n 1, 1) := by decide +kernel
theorem dJ2_checkIndex_2214a_2 : decode cJ2_checkIndex_2214a 2 = .ok (.invokestatic 48, 3) := by decide +kernel
theorem dJ2_checkIndex_2214a_5 : decode cJ2_checkIndex_2214a 5 = .ok (.invokestatic 414, 3) := by decide +kernel
theorem dJ2_checkIndex_2214a_8 : decode cJ2_checkIndex_2214a 8 = .ok (.return_, 1) := by decide +kernel
theorem dJ3_checkIndex_8e157_0 : decode cJ3_checkIndex_8e157 0 = .ok (.iload_n 0, 1) := by decide +kernel
theorem dJ3_checkIndex_8e157_1 : decode cJ3_checkIndex_8e157 1 = .ok (.ifCond .lt 8, 3) := by decide +kernel
theorem dJ3_checkIndex_8e157_4 : decode cJ3_checkIndex_8e157 4 = .ok (.iload_n 0, 1) := by decide +kernel
theorem dJ3_checkIndex_8e157_5 : decode cJ3_checkIndex_8e157 5 = .ok (.iload_n 1, 1) := by decide +kernel
theorem dJ3_checkIndex_8e157_6 : decode cJ3_checkIndex_8e157 6 = .ok (.if_icmp .lt 10, 3) := by decide +kernel
theorem dJ3_checkIndex_8e157_9 : decode cJ3_checkIndex_8e157 9 = .ok (.aload_n 2, 1) := by decide +kernel
theorem dJ3_checkIndex_8e157_10 : decode cJ3_checkIndex_8e157 10 = .ok (.iload_n 0, 1) := by decide +kernel
theorem dJ3_checkIndex_8e157_11 : decode cJ3_checkIndex_8e157 11 = .ok (.iload_n 1, 1) := by decide +kernel
theorem dJ3_checkIndex_8e157_12 : decode cJ3_checkIndex_8e157 12 = .ok (.invokestatic 95, 3) := by decide +kernel
theorem dJ3_checkIndex_8e157_15 : decode cJ3_checkIndex_8e157 15 = .ok (.athrow, 1) := by decide +kernel
theorem dJ3_checkIndex_8e157_16 : decode cJ3_checkIndex_8e157 16 = .ok (.iload_n 0, 1) := by decide +kernel
theorem dJ3_checkIndex_8e157_17 : decode cJ3_checkIndex_8e157 17 = .ok (.ireturn, 1) := by decide +kernel
theorem dL_pick_0 : decode cL_pick 0 = .ok (.iload_n 1, 1) := by decide +kernel
theorem dL_pick_1 : decode cL_pick 1 = .ok (.ifCond .lt 15, 3) := by decide +kernel
theorem dL_pick_4 : decode cL_pick 4 = .ok (.iload_n 1, 1) := by decide +kernel
theorem dL_pick_5 : decode cL_pick 5 = .ok (.aload_n 0, 1) := by decide +kernel
theorem dL_pick_6 : decode cL_pick 6 = .ok (.arraylength, 1) := by decide +kernel
theorem dL_pick_7 : decode cL_pick 7 = .ok (.if_icmp .ge 9, 3) := by decide +kernel
theorem dL_pick_10 : decode cL_pick 10 = .ok (.aload_n 0, 1) := by decide +kernel
theorem dL_pick_11 : decode cL_pick 11 = .ok (.iload_n 1, 1) := by decide +kernel
theorem dL_pick_12 : decode cL_pick 12 = .ok (.iaload, 1) := by decide +kernel
theorem dL_pick_13 : decode cL_pick 13 = .ok (.goto 4, 3) := by decide +kernel
theorem dL_pick_16 : decode cL_pick 16 = .ok (.iconst 0, 1) := by decide +kernel
theorem dL_pick_17 : decode cL_pick 17 = .ok (.ireturn, 1) := by decide +kernel
theorem dL_law_0 : decode cL_law 0 = .ok (.new 7, 3) := by decide +kernel
theorem dL_law_3 : decode cL_law 3 = .ok (.dup, 1) := by decide +kernel
theorem dL_law_4 : decode cL_law 4 = .ok (.invokespecial 9, 3) := by decide +kernel
theorem dL_law_7 : decode cL_law 7 = .ok (.astore_n 1, 1) := by decide +kernel
theorem dL_law_8 : decode cL_law 8 = .ok (.new 10, 3) := by decide +kernel
theorem dL_law_11 : decode cL_law 11 = .ok (.dup, 1) := by decide +kernel
theorem dL_law_12 : decode cL_law 12 = .ok (.invokespecial 12, 3) := by decide +kernel
theorem dL_law_15 : decode cL_law 15 = .ok (.astore_n 2, 1) := by decide +kernel
theorem dL_law_16 : decode cL_law 16 = .ok (.aload_n 2, 1) := by decide +kernel
theorem dL_law_17 : decode cL_law 17 = .ok (.aload_n 1, 1) := by decide +kernel
theorem dL_law_18 : decode cL_law 18 = .ok (.aload_n 0, 1) := by decide +kernel
theorem dL_law_19 : decode cL_law 19 = .ok (.iconst 0, 1) := by decide +kernel
theorem dL_law_20 : decode cL_law 20 = .ok (.invokestatic 13, 3) := by decide +kernel
theorem dL_law_23 : decode cL_law 23 = .ok (.invokevirtual 19, 3) := by decide +kernel
theorem dL_law_26 : decode cL_law 26 = .ok (.ifCond .eq 11, 3) := by decide +kernel
theorem dL_law_29 : decode cL_law 29 = .ok (.aload_n 2, 1) := by decide +kernel
theorem dL_law_30 : decode cL_law 30 = .ok (.aload_n 1, 1) := by decide +kernel
theorem dL_law_31 : decode cL_law 31 = .ok (.invokevirtual 23, 3) := by decide +kernel
theorem dL_law_34 : decode cL_law 34 = .ok (.ifCond .ne 5, 3) := by decide +kernel
theorem dL_law_37 : decode cL_law 37 = .ok (.iconst 0, 1) := by decide +kernel
theorem dL_law_38 : decode cL_law 38 = .ok (.ireturn, 1) := by decide +kernel
theorem dL_law_39 : decode cL_law 39 = .ok (.iconst 1, 1) := by decide +kernel
theorem dL_law_40 : decode cL_law 40 = .ok (.istore_n 3, 1) := by decide +kernel
theorem dL_law_41 : decode cL_law 41 = .ok (.iload_n 3, 1) := by decide +kernel
theorem dL_law_42 : decode cL_law 42 = .ok (.bipush 36, 2) := by decide +kernel
theorem dL_law_44 : decode cL_law 44 = .ok (.if_icmp .ge 179, 3) := by decide +kernel
theorem dL_law_47 : decode cL_law 47 = .ok (.aload_n 2, 1) := by decide +kernel
theorem dL_law_48 : decode cL_law 48 = .ok (.dup, 1) := by decide +kernel
theorem dL_law_49 : decode cL_law 49 = .ok (.getfield 27, 3) := by decide +kernel
theorem dL_law_52 : decode cL_law 52 = .ok (.aload_n 0, 1) := by decide +kernel
theorem dL_law_53 : decode cL_law 53 = .ok (.iload_n 3, 1) := by decide +kernel
theorem dL_law_54 : decode cL_law 54 = .ok (.invokestatic 13, 3) := by decide +kernel
theorem dL_law_57 : decode cL_law 57 = .ok (.iadd, 1) := by decide +kernel
theorem dL_law_58 : decode cL_law 58 = .ok (.putfield 27, 3) := by decide +kernel
theorem dL_law_61 : decode cL_law 61 = .ok (.aload_n 2, 1) := by decide +kernel
theorem dL_law_62 : decode cL_law 62 = .ok (.invokevirtual 31, 3) := by decide +kernel
theorem dL_law_65 : decode cL_law 65 = .ok (.iconst 0, 1) := by decide +kernel
theorem dL_law_66 : decode cL_law 66 = .ok (.istore 4, 2) := by decide +kernel
theorem dL_law_68 : decode cL_law 68 = .ok (.iload 4, 2) := by decide +kernel
theorem dL_law_70 : decode cL_law 70 = .ok (.aload_n 2, 1) := by decide +kernel
theorem dL_law_71 : decode cL_law 71 = .ok (.getfield 34, 3) := by decide +kernel
theorem dL_law_74 : decode cL_law 74 = .ok (.if_icmp .ge 80, 3) := by decide +kernel
theorem dL_law_77 : decode cL_law 77 = .ok (.aload_n 1, 1) := by decide +kernel
theorem dL_law_78 : decode cL_law 78 = .ok (.iload 4, 2) := by decide +kernel
theorem dL_law_80 : decode cL_law 80 = .ok (.invokevirtual 37, 3) := by decide +kernel
theorem dL_law_83 : decode cL_law 83 = .ok (.aload_n 2, 1) := by decide +kernel
theorem dL_law_84 : decode cL_law 84 = .ok (.getfield 41, 3) := by decide +kernel
theorem dL_law_87 : decode cL_law 87 = .ok (.iload 4, 2) := by decide +kernel
theorem dL_law_89 : decode cL_law 89 = .ok (.iaload, 1) := by decide +kernel
theorem dL_law_90 : decode cL_law 90 = .ok (.if_icmp .eq 5, 3) := by decide +kernel
theorem dL_law_93 : decode cL_law 93 = .ok (.iconst 0, 1) := by decide +kernel
theorem dL_law_94 : decode cL_law 94 = .ok (.ireturn, 1) := by decide +kernel
theorem dL_law_95 : decode cL_law 95 = .ok (.aload_n 2, 1) := by decide +kernel
theorem dL_law_96 : decode cL_law 96 = .ok (.getfield 45, 3) := by decide +kernel
theorem dL_law_99 : decode cL_law 99 = .ok (.iload 4, 2) := by decide +kernel
theorem dL_law_101 : decode cL_law 101 = .ok (.iaload, 1) := by decide +kernel
theorem dL_law_102 : decode cL_law 102 = .ok (.iconst (-1), 1) := by decide +kernel
theorem dL_law_103 : decode cL_law 103 = .ok (.if_icmp .eq 45, 3) := by decide +kernel
theorem dL_law_106 : decode cL_law 106 = .ok (.aload_n 2, 1) := by decide +kernel
theorem dL_law_107 : decode cL_law 107 = .ok (.iload 4, 2) := by decide +kernel
theorem dL_law_109 : decode cL_law 109 = .ok (.aload_n 2, 1) := by decide +kernel
theorem dL_law_110 : decode cL_law 110 = .ok (.getfield 45, 3) := by decide +kernel
theorem dL_law_113 : decode cL_law 113 = .ok (.iload 4, 2) := by decide +kernel
theorem dL_law_115 : decode cL_law 115 = .ok (.iaload, 1) := by decide +kernel
theorem dL_law_116 : decode cL_law 116 = .ok (.invokevirtual 48, 3) := by decide +kernel
theorem dL_law_119 : decode cL_law 119 = .ok (.iconst (-1), 1) := by decide +kernel
theorem dL_law_120 : decode cL_law 120 = .ok (.if_icmp .eq 28, 3) := by decide +kernel
theorem dL_law_123 : decode cL_law 123 = .ok (.aload_n 2, 1) := by decide +kernel
theorem dL_law_124 : decode cL_law 124 = .ok (.iload 4, 2) := by decide +kernel
theorem dL_law_126 : decode cL_law 126 = .ok (.aload_n 2, 1) := by decide +kernel
theorem dL_law_127 : decode cL_law 127 = .ok (.getfield 45, 3) := by decide +kernel
theorem dL_law_130 : decode cL_law 130 = .ok (.iload 4, 2) := by decide +kernel
theorem dL_law_132 : decode cL_law 132 = .ok (.iaload, 1) := by decide +kernel
theorem dL_law_133 : decode cL_law 133 = .ok (.aload_n 2, 1) := by decide +kernel
theorem dL_law_134 : decode cL_law 134 = .ok (.getfield 41, 3) := by decide +kernel
theorem dL_law_137 : decode cL_law 137 = .ok (.iload 4, 2) := by decide +kernel
theorem dL_law_139 : decode cL_law 139 = .ok (.iaload, 1) := by decide +kernel
theorem dL_law_140 : decode cL_law 140 = .ok (.invokevirtual 52, 3) := by decide +kernel
theorem dL_law_143 : decode cL_law 143 = .ok (.ifCond .eq 5, 3) := by decide +kernel
theorem dL_law_146 : decode cL_law 146 = .ok (.iconst 0, 1) := by decide +kernel
theorem dL_law_147 : decode cL_law 147 = .ok (.ireturn, 1) := by decide +kernel
theorem dL_law_148 : decode cL_law 148 = .ok (.iinc 4 1, 3) := by decide +kernel
theorem dL_law_151 : decode cL_law 151 = .ok (.goto (-83), 3) := by decide +kernel
theorem dL_law_154 : decode cL_law 154 = .ok (.aload_n 2, 1) := by decide +kernel
theorem dL_law_155 : decode cL_law 155 = .ok (.aload_n 1, 1) := by decide +kernel
theorem dL_law_156 : decode cL_law 156 = .ok (.invokevirtual 56, 3) := by decide +kernel
theorem dL_law_159 : decode cL_law 159 = .ok (.ifCond .eq 18, 3) := by decide +kernel
theorem dL_law_162 : decode cL_law 162 = .ok (.aload_n 2, 1) := by decide +kernel
theorem dL_law_163 : decode cL_law 163 = .ok (.aload_n 1, 1) := by decide +kernel
theorem dL_law_164 : decode cL_law 164 = .ok (.invokevirtual 23, 3) := by decide +kernel
theorem dL_law_167 : decode cL_law 167 = .ok (.ifCond .eq 10, 3) := by decide +kernel
theorem dL_law_170 : decode cL_law 170 = .ok (.aload_n 1, 1) := by decide +kernel
theorem dL_law_171 : decode cL_law 171 = .ok (.invokevirtual 59, 3) := by decide +kernel
theorem dL_law_174 : decode cL_law 174 = .ok (.ifCond .eq 5, 3) := by decide +kernel
theorem dL_law_177 : decode cL_law 177 = .ok (.iconst 0, 1) := by decide +kernel
theorem dL_law_178 : decode cL_law 178 = .ok (.ireturn, 1) := by decide +kernel
theorem dL_law_179 : decode cL_law 179 = .ok (.iload_n 3, 1) := by decide +kernel
theorem dL_law_180 : decode cL_law 180 = .ok (.bipush 6, 2) := by decide +kernel
theorem dL_law_182 : decode cL_law 182 = .ok (.irem, 1) := by decide +kernel
theorem dL_law_183 : decode cL_law 183 = .ok (.ifCond .ne 34, 3) := by decide +kernel
theorem dL_law_186 : decode cL_law 186 = .ok (.aload_n 1, 1) := by decide +kernel
theorem dL_law_187 : decode cL_law 187 = .ok (.invokevirtual 63, 3) := by decide +kernel
theorem dL_law_190 : decode cL_law 190 = .ok (.ifCond .lt 25, 3) := by decide +kernel
theorem dL_law_193 : decode cL_law 193 = .ok (.aload_n 1, 1) := by decide +kernel
theorem dL_law_194 : decode cL_law 194 = .ok (.invokevirtual 66, 3) := by decide +kernel
theorem dL_law_197 : decode cL_law 197 = .ok (.ifCond .eq 18, 3) := by decide +kernel
theorem dL_law_200 : decode cL_law 200 = .ok (.aload_n 1, 1) := by decide +kernel
theorem dL_law_201 : decode cL_law 201 = .ok (.invokevirtual 70, 3) := by decide +kernel
theorem dL_law_204 : decode cL_law 204 = .ok (.ifCond .lt 11, 3) := by decide +kernel
theorem dL_law_207 : decode cL_law 207 = .ok (.aload_n 2, 1) := by decide +kernel
theorem dL_law_208 : decode cL_law 208 = .ok (.aload_n 1, 1) := by decide +kernel
theorem dL_law_209 : decode cL_law 209 = .ok (.invokevirtual 23, 3) := by decide +kernel
theorem dL_law_212 : decode cL_law 212 = .ok (.ifCond .ne 5, 3) := by decide +kernel
theorem dL_law_215 : decode cL_law 215 = .ok (.iconst 0, 1) := by decide +kernel
theorem dL_law_216 : decode cL_law 216 = .ok (.ireturn, 1) := by decide +kernel
theorem dL_law_217 : decode cL_law 217 = .ok (.iinc 3 1, 3) := by decide +kernel
theorem dL_law_220 : decode cL_law 220 = .ok (.goto (-179), 3) := by decide +kernel
theorem dL_law_223 : decode cL_law 223 = .ok (.iconst 1, 1) := by decide +kernel
theorem dL_law_224 : decode cL_law 224 = .ok (.ireturn, 1) := by decide +kernel
end
section
/-! the claim's texts, by number: class, entry, text -/
def strs : List (String × Nat × String) := [("StallMarket", 61, "market;stall east 5;stall west 8;stall north 0;stall south 12;seller ann 20 4 west east at east;seller bob 3 6 east south at west;seller cid 50 0 north west;seller dot 9 9 south east west;"), ("StallMarket$SetupReader", 19, "market"), ("StallMarket$SetupReader", 42, "stall"), ("StallMarket$SetupReader", 60, "at"), ("StallMarket$SetupReader", 88, "seller"), ("StallMarket$Parser", 58, "at"), ("StallMarketLaw$Own", 101, "market;"), ("StallMarketLaw$Own", 103, "stall"), ("StallMarketLaw$Own", 73, " "), ("StallMarketLaw$Own", 111, ";"), ("StallMarketLaw$Own", 113, "seller"), ("StallMarketLaw$Own", 122, " at")]
/-! what stays the same through a run: the law's start, the classes' numbers, where the cells lie, the array classes, the constants, the texts, their bytes, the tables, how many cells there are -/
abbrev Ev : Type := State × va_G × (Nat → Nat) × (Nat → ClassId) × (Nat → Nat) × (Nat → Nat) × (Nat → Nat) × (Nat → Nat) × Nat
def eS (E : Ev) : State := E.1
def eD (E : Ev) : va_G := E.2.1
def eL (E : Ev) : Nat → Nat := E.2.2.1
def eC (E : Ev) : Nat → ClassId := E.2.2.2.1
def eV (E : Ev) : Nat → Nat := E.2.2.2.2.1
def eK (E : Ev) : Nat → Nat := E.2.2.2.2.2.1
def eB (E : Ev) : Nat → Nat := E.2.2.2.2.2.2.1
def eT (E : Ev) : Nat → Nat := E.2.2.2.2.2.2.2.1
def eN (E : Ev) : Nat := E.2.2.2.2.2.2.2.2
def eA (E : Ev) : Nat → Prop := fun q => (eS E).heap.size ≤ q
/-- what holds of the constants, texts and tables at the law's start -/
def St (E : Ev) : Prop :=
  (∀ i, i < 12 → va_O "java/lang/String" (eK E i) (eA E) (eS E) (eS E).heap ∧ va_OF "java/lang/String" "coder" "B" (.int 0) (eK E i) (eA E) (eS E) (eS E).heap ∧ va_OF "java/lang/String" "value" "[B" (.ref (eB E i)) (eK E i) (eA E) (eS E) (eS E).heap ∧ va_T .byte (eB E i) (lens.getD i 0) (fun j => .int ((byts.getD i []).getD j 0)) (eA E) (eS E) (eS E).heap) ∧
  (va_Z "java/lang/String" "COMPACT_STRINGS" "Z" (.int 1) (eA E) (eS E) (eS E).heap ∧ va_Zq "jdk/internal/util/Preconditions" "SIOOBE_FORMATTER" "Ljava/util/function/BiFunction;" (eA E) (eS E) (eS E).heap)
def lin (o k : Nat) : Nat := if o < 11 then 10 * o + k else match o with
  | 11 => 110
  | 12 => 111
  | 13 => 112 + k
  | 14 => 114 + k
  | 15 => 116 + k
  | 16 => 120 + k
  | 17 => 122 + k
  | 18 => 127 + k
  | 19 => 129
  | 20 => 130 + k
  | _ => 151
def dec (q : Nat) : Nat × Nat := if q < 110 then (q / 10, q % 10) else if q < 111 then (11, 0) else if q < 112 then (12, 0) else if q < 114 then (13, q - 112) else if q < 116 then (14, q - 114) else if q < 120 then (15, q - 116) else if q < 122 then (16, q - 120) else if q < 127 then (17, q - 122) else if q < 129 then (18, q - 127) else if q < 130 then (19, 0) else if q < 151 then (20, q - 130) else (21, 0)
theorem lin_dec : ∀ q, q < 151 → lin (dec q).1 (dec q).2 = q := by decide +kernel
theorem lin_M {o : Nat} (ho : o < 11) (k : Nat) : lin o k = 10 * o + k := if_pos ho
theorem dec_M {o k : Nat} (ho : o < 11) (hk : k < 10) : dec (lin o k) = (o, k) := by
  rw [lin_M ho, dec, if_pos (by omega)]
  exact Prod.ext (by show (10 * o + k) / 10 = o; omega) (by show (10 * o + k) % 10 = k; omega)
theorem lin_lt {o k n : Nat} (ho : o < 11) (hk : k < 10) (hn : 129 ≤ n) : lin o k < n := by
  rw [lin_M ho]; omega
def adr (E : Ev) (o k : Nat) : Nat := eL E (lin o k)
def aI (E : Ev) (n : Nat) (f : Nat → Int32) : va_E := .inl (eC E 0, n, .inl f)
def aJ (E : Ev) (n : Nat) (g : Nat → Int64) : va_E := .inl (eC E 1, n, .inr (.inl g))
def aZ (E : Ev) (n : Nat) (f : Nat → Int32) : va_E := .inl (eC E 2, n, .inl f)
def celM (E : Ev) (o k : Nat) (f : Nat → Int32) (g : Nat → Int64) : va_E := match k with
  | 0 => .inr (3, [.int (f 0), .int (f 1), .int (f 2), .int (f 3), .int (f 4), .int (f 5), .int (f 6), .int (f 7), .int (f 8), .ref (adr E o 1), .ref (adr E o 2), .ref (adr E o 3), .ref (adr E o 4), .ref (adr E o 5), .ref (adr E o 6), .ref (adr E o 7), .ref (adr E o 8), .ref (adr E o 9)])
  | 1 => aJ E 8 g
  | 7 => aI E 64 f
  | 8 => aJ E 8 g
  | _ => aI E 8 f
def celY (E : Ev) (o k : Nat) (f : Nat → Int32) (g : Nat → Int64) (r : Nat → Option Nat) : va_E := if o < 11 then celM E o k f g else match o with
  | 11 => .inr (5, [.ref (adr E 12 0), .int (f 1), .int (f 2)])
  | 12 => .inr (7, [.ref (adr E 13 0), .int (f 1), .int (f 2), .int (f 3), .int (f 4), .long (g 5)])
  | 13 => match k with
    | 0 => .inr (1, [.ref (adr E 13 1), .int (f 1)])
    | _ => aI E 700 f
  | 14 => match k with
    | 0 => .inr (1, [.ref (adr E 14 1), .int (f 1)])
    | _ => aI E 700 f
  | 15 => match k with
    | 0 => .inr (6, [.ref (adr E 15 1), .ref (adr E 15 2), .ref (adr E 15 3), .int (f 3)])
    | 1 => .inl (eC E 3, 20, .inr (.inr (.inr (.inr (fun j => (r j).map (eV E))))))
    | _ => aI E 20 f
  | 16 => match k with
    | 0 => .inr (2, [.ref (adr E 16 1), .int (f 1), .int (f 2)])
    | _ => .inl (eC E 4, 8, .inr (.inr (.inr (.inr (fun j => some (adr E (3 + j) 0))))))
  | 17 => match k with
    | 0 => .inr (0, [.ref (adr E 17 1), .ref (adr E 17 2), .ref (adr E 17 3), .ref (adr E 17 4), .int (f 4)])
    | 1 => aI E 8 f
    | 2 => aZ E 8 f
    | 3 => aZ E 8 f
    | _ => aI E 8 f
  | 18 => match k with
    | 0 => .inr (4, [.ref (adr E 18 1), .int (f 1), .int (f 2)])
    | _ => aI E 256 f
  | 19 => .inr (8, [.ref (adr E 11 0), .ref (adr E 14 0), .ref (adr E 15 0), .ref (adr E 0 0), .ref (adr E 1 0), .ref (adr E 2 0), .int (f 6), .ref (adr E 16 0), .ref (adr E 17 0), .ref (adr E 18 0)])
  | 20 => match k with
    | 0 => .inr (9, [.ref (adr E 20 1), .ref (adr E 20 2), .ref (adr E 20 3), .ref (adr E 20 4), .ref (adr E 20 5), .ref (adr E 20 6), .ref (adr E 20 7), .ref (adr E 20 8), .ref (adr E 20 9), .ref (adr E 20 10), .ref (adr E 20 11), .ref (adr E 20 20), .int (f 12), .int (f 13), .int (f 14), .int (f 15), .int (f 16), .int (f 17)])
    | 1 => .inl (eC E 5, 700, .inl f)
    | 11 => .inl (eC E 6, 8, .inr (.inr (.inr (.inr (fun i => if i < 8 then some (adr E 20 (12 + i)) else none)))))
    | 20 => aZ E 8 f
    | _ => aI E 8 f
  | _ => aJ E 1 g
def celX (E : Ev) (o k : Nat) (μ : OM) : va_E := celY E o k (μ.1 k) (μ.2.1 k) (μ.2.2 k)
theorem cel_M {E : Ev} {o : Nat} (ho : o < 11) (k : Nat) (μ : OM) : celX E o k μ = celM E o k (μ.1 k) (μ.2.1 k) := if_pos ho
def ws (E : Ev) (σ : SM) : va_W := (List.range (eN E)).map (fun q => (eL E q, celX E (dec q).1 (dec q).2 (σ (dec q).1)))
theorem ws_at {E : Ev} {σ : SM} {o k : Nat} (hd : dec (lin o k) = (o, k)) (hn : lin o k < eN E) {μ : OM} (h : σ o = μ) : (ws E σ)[lin o k]? = some (adr E o k, celX E o k μ) := by
  rw [ws, List.getElem?_map, List.getElem?_range hn]
  simp only [Option.map_some, hd, h, adr]
theorem ws_len (E : Ev) (σ : SM) : (ws E σ).length = eN E := by simp [ws]
theorem ws_set {E : Ev} {σ : SM} {o k : Nat} (hd : dec (lin o k) = (o, k)) (hn : lin o k < eN E) (hN : eN E ≤ 151) {μ μ' : OM} (h : σ o = μ) (h1 : ∀ k', k' ≠ k → μ'.1 k' = μ.1 k' ∧ μ'.2.1 k' = μ.2.1 k' ∧ μ'.2.2 k' = μ.2.2 k') {x : va_E} (h2 : celX E o k μ' = x) : (ws E σ).set (lin o k) (adr E o k, x) = ws E (us σ o μ') := by
  apply List.ext_getElem?
  intro q
  by_cases hq : q = lin o k
  · subst hq
    rw [List.getElem?_set_self (by rw [ws_len]; exact hn), ws_at hd hn (us_s σ o μ'), h2]
  · rw [List.getElem?_set_ne (Ne.symm hq)]
    by_cases hl : q < eN E
    · have key : celX E (dec q).1 (dec q).2 (σ (dec q).1) = celX E (dec q).1 (dec q).2 (us σ o μ' (dec q).1) := by
        by_cases ho : (dec q).1 = o
        · have hk : (dec q).2 ≠ k := fun z => hq (by rw [← lin_dec q (by omega), ho, z])
          obtain ⟨a, b, d⟩ := h1 _ hk
          rw [ho, us_s, h, celX, celX, a, b, d]
        · rw [us_n ho]
      simp only [ws, List.getElem?_map, List.getElem?_range hl, Option.map_some, key]
    · rw [List.getElem?_eq_none (by rw [ws_len]; omega), List.getElem?_eq_none (by rw [ws_len]; omega)]
def tysE (E : Ev) : List (ClassId × FieldType) := [(eC E 0, .int), (eC E 1, .long), (eC E 2, .boolean), (eC E 3, .object RX11), (eC E 4, .object RX5), (eC E 5, .byte), (eC E 6, .array .int)]
def Wp (E : Ev) (σ : SM) (H : Heap) : Prop := va_P (eD E) vwCl (ws E σ) H ∧ va_D (eA E) (ws E σ) ∧ (eS E).heap.size ≤ H.size ∧ (∀ q, q < (eS E).heap.size → H[q]? = (eS E).heap[q]?) ∧ eN E ≤ 151
def Kx (E : Ev) (U : State) : Prop := (∀ w ∈ NB, va_Nw w U) ∧ (∀ i q, strs[i]? = some q → vk_R q.1 q.2.1 q.2.2 (eK E i) U)
theorem Kx.warm {E : Ev} {s U : State} (hW : s.WarmedH U.vm) (h : Kx E s) : Kx E U := ⟨fun w hw => nb_warm hw hW (h.1 w hw), fun i q hq => (h.2 i q hq).warm hW⟩
theorem Kx.same {E : Ev} {s U : State} (hv : U.vm = s.vm) (h : Kx E s) : Kx E U := ⟨fun w hw => (h.1 w hw).same (nb_tab hw) hv.symm, fun i q hq => (h.2 i q hq).same hv⟩
def Wu (E : Ev) (σ : SM) (U : State) : Prop := ((eS E).vm.Alike U.vm ∧ va_K (eD E) vwCl (tysE E) U ∧ Kx E U) ∧ Wp E σ U.heap
def Hp (E : Ev) (σ : SM) (s : State) (H : Heap) (locs : List Loc) : Prop := Wp E σ H ∧ va_S (eA E) s.heap H locs
def Cx (E : Ev) (p : Program) (s : State) (m : MethodId) (meth : Method) (c : Code) (args : Array Value) (own : String) (cc : ByteArray) (nL : Nat) (ret : Option FieldType) : Prop :=
  (p.tables.exec = Jvm.exec ∧ c.code = cc ∧ c.maxLocals = nL ∧ s.vm.findClass own = some m.cls ∧ ∀ w ∈ TB, w.before args s = true) ∧ (meth.sig.returnType = ret ∧ meth.locks = false) ∧ ((eS E).vm.Alike s.vm ∧ va_K (eD E) vwCl (tysE E) s ∧ Kx E s) ∧ (eS E).heap.size ≤ s.heap.size ∧ (∀ q, q < (eS E).heap.size → s.heap[q]? = (eS E).heap[q]?) ∧ eN E ≤ 151
theorem wu_blind {E : Ev} {σ : SM} {av : List Value} : FrameBlind (va_Pc av (Wu E σ)) := fun a U g mk q => ⟨q.1, ⟨q.2.1.1, va_K.moved (u := U) (U := U.calling g mk a) (Vm.Alike.refl U.vm) q.2.1.2.1, Kx.same (s := U) (U := U.calling g mk a) rfl q.2.1.2.2⟩, q.2.2⟩
theorem wp_new {E : Ev} {σ : SM} {H H1 : Heap} {s : State} {locs : List Loc} (h : Wp E σ H) (hS : va_S (eA E) H H1 locs) {σ1 : SM} (hP : va_P (eD E) vwCl (ws E σ1) H1) (hD : va_D (eA E) (ws E σ1)) : Wp E σ1 H1 :=
  ⟨hP, hD, Nat.le_trans h.2.2.1 hS.1, fun q hq => (hS.2.1 q (Nat.lt_of_lt_of_le hq h.2.2.1) (Nat.not_le.mpr hq)).trans (h.2.2.2.1 q hq), h.2.2.2.2⟩
abbrev wC (y : MethodName) (cc : ByteArray) (n : Nat) (r : Option FieldType) : List Cond := Cond.code y cc n r :: TB
theorem gd_C {y : MethodName} {cc : ByteArray} {n : Nat} {r : Option FieldType} (h : Cond.code y cc n r ∈ TB) : GoodIn TB (wC y cc n r) := tb_in (fun w hw => (List.mem_cons.mp hw).elim (fun z => by rw [z]; exact h) id)
theorem gd_V {own C : String} {idx : Nat} {y : MethodName} {cc : ByteArray} {n : Nat} {r : Option FieldType} (h1 : Cond.methodLink own idx y ∈ TB) (h2 : Cond.instanceMethod y ∈ TB) (h3 : Cond.selects C y y ∈ TB) (h4 : Cond.initialized C ∈ TB) (h5 : Cond.code y cc n r ∈ TB) : GoodIn TB (wsV own idx C y (wC y cc n r)) := by
  refine tb_in (fun w hw => ?_)
  simp only [wsV, List.mem_append, List.mem_cons, List.not_mem_nil, or_false] at hw
  rcases hw with (rfl | rfl | rfl | rfl) | rfl | hw
  · exact h1
  · exact h2
  · exact h3
  · exact h4
  · exact h5
  · exact hw
theorem gd_S {own : String} {idx : Nat} {y : MethodName} {cc : ByteArray} {n : Nat} {r : Option FieldType} (h1 : Cond.methodLink own idx y ∈ TB) (h2 : Cond.static y ∈ TB) (h4 : Cond.initialized y.cls ∈ TB) (h5 : Cond.code y cc n r ∈ TB) : GoodIn TB (va_wsS own idx y (wC y cc n r)) := by
  refine tb_in (fun w hw => ?_)
  simp only [va_wsS, List.mem_append, List.mem_cons, List.not_mem_nil, or_false] at hw
  rcases hw with (rfl | rfl | rfl) | rfl | hw
  · exact h1
  · exact h2
  · exact h4
  · exact h5
  · exact hw
section BASE
variable {p : Program} {l : Launch} {e : Env} {R : Room} {s : State} {m : MethodId} {args : Array Value} {below : List Frame} {meth : Method} {c : Code} {H : Heap} {locs : List Loc} {cells slots : Nat} {Q : State → Prop}
variable {E : Ev} {σ : SM} {own : String} {cc : ByteArray} {nL pc : Nat} {ret : Option FieldType} {ls : Array Slot} {rest st : List Value}
theorem wu_at (cx : Cx E p s m meth c args own cc nL ret) (hp : Wp E σ H) : ∀ U : State, U.heap = H → s.WarmedH U.vm → Wu E σ U := fun U hU hW => ⟨⟨cx.2.2.1.1.trans hW.alike, va_K.moved hW.alike cx.2.2.1.2.1, cx.2.2.1.2.2.warm hW⟩, by rw [hU]; exact hp⟩
/-- behind a write into the cell k of the object o -/
theorem hp_put (cx : Cx E p s m meth c args own cc nL ret) {H1 : Heap} {locs1 : List Loc} {o k : Nat} (hd : dec (lin o k) = (o, k)) (hn : lin o k < eN E) {μ μ' : OM} (h : σ o = μ) (h1 : ∀ k', k' ≠ k → μ'.1 k' = μ.1 k' ∧ μ'.2.1 k' = μ.2.1 k' ∧ μ'.2.2 k' = μ.2.2 k') {x : va_E} (h2 : celX E o k μ' = x)
    (hP : va_P (eD E) vwCl ((ws E σ).set (lin o k) (adr E o k, x)) H1) (hD : va_D (eA E) ((ws E σ).set (lin o k) (adr E o k, x))) (hS : va_S (eA E) s.heap H1 locs1) : Hp E (us σ o μ') s H1 locs1 := by
  obtain ⟨-, -, -, hz, ho, hN⟩ := cx
  rw [ws_set hd hn hN h h1 h2] at hP hD
  exact ⟨⟨hP, hD, Nat.le_trans hz hS.1, fun q hq => (hS.2.1 q (Nat.lt_of_lt_of_le hq hz) (Nat.not_le.mpr hq)).trans (ho q hq), hN⟩, hS⟩
/-- a method's entry -/
theorem g_entry {y : MethodName} {maxL : Nat} {rm : Room} {av : List Value} {lv : List (Nat × Value)} {Qc : Array Value → State → Outcome → State → Prop} {mc ms : Nat} {free : Addr → Prop} (hy : plainName y.cls = true) (hl : (lg_sl av).length ≤ maxL) (hlv : lv_args 0 av = lv)
    (body : ∀ (p : Program) (e : Env) (s : State) (m : MethodId) (below : List Frame) (meth : Method) (c : Code), Cx E p s m meth c av.toArray y.cls cc maxL ret → Hp E σ s s.heap [] → ∀ ls : Array Slot, lv_has ls maxL lv → W p l e rm s m av.toArray below meth c s.heap [] 0 0 (MQ below Qc av.toArray s mc ms free) (F0 m 0 ls [])) : Met l y (wC y cc maxL ret) rm (va_Pc av (Wu E σ)) Qc mc ms free := by
  refine Met.ofW (cc := cc) (maxL := maxL) (ret := ret) hy rfl ?_
  intro p e s m args below meth c s₁ B hml hv
  obtain ⟨rfl, hal, hp⟩ := hv
  have hts := atoms_spec (ws := wC y cc maxL ret) B.pre
  have h := body p e s m below meth c ⟨⟨B.exec, B.bytes, hml, findClass_of_methodNamed B.named, fun w hw => hts w (List.mem_cons_of_mem _ hw)⟩, ⟨B.returns, B.notSynchronized⟩, hal, hp.2.2⟩ ⟨hp, va_S.rf⟩ _ (hlv ▸ lv_entry av hl)
  rw [lg_entry_eq]
  exact h
/-- its ends -/
theorem r_i (cx : Cx E p s m meth c args own cc nL (some .int)) (hp : Hp E σ s H locs) {post : Int32 → SM → Prop} {v : Int32} (hq : post v σ) (hdg : decode cc pc = .ok (.ireturn, 1)) : W p l e R s m args below meth c H locs cells slots (MQ below (va_Qi post (fun u t => Wu E u t) (eA E)) args s cells slots (eA E)) (F0 m pc ls [.int v]) :=
  W.iret cx.1.1 cx.1.2.1 cx.2.1.1 (fun t ht hW => ⟨⟨v, σ, rfl, hq, wu_at cx hp.1 t ht hW⟩, hp.2.F ht⟩) hp.2.2.2 hdg cx.2.1.2
theorem r_z {ty : FieldType} (cx : Cx E p s m meth c args own cc nL (some ty)) (hp : Hp E σ s H locs) {post : Int32 → SM → Prop} {v : Int32} (hn : narrow ty (.int v) = .int v) (hq : post v σ) (hdg : decode cc pc = .ok (.ireturn, 1)) : W p l e R s m args below meth c H locs cells slots (MQ below (va_Qi post (fun u t => Wu E u t) (eA E)) args s cells slots (eA E)) (F0 m pc ls [.int v]) :=
  W.zret cx.1.1 cx.1.2.1 cx.2.1.1 hn (fun t ht hW => ⟨⟨v, σ, rfl, hq, wu_at cx hp.1 t ht hW⟩, hp.2.F ht⟩) hp.2.2.2 hdg cx.2.1.2
theorem r_l (cx : Cx E p s m meth c args own cc nL (some .long)) (hp : Hp E σ s H locs) {post : Int64 → SM → Prop} {v : Int64} (hq : post v σ) (hdg : decode cc pc = .ok (.lreturn, 1)) : W p l e R s m args below meth c H locs cells slots (MQ below (va_Ql post (fun u t => Wu E u t) (eA E)) args s cells slots (eA E)) (F0 m pc ls [.long v]) :=
  W.lret cx.1.1 cx.1.2.1 cx.2.1.1 (fun t ht hW => ⟨⟨v, σ, rfl, hq, wu_at cx hp.1 t ht hW⟩, hp.2.F ht⟩) hp.2.2.2 hdg cx.2.1.2
theorem r_v (cx : Cx E p s m meth c args own cc nL none) (hp : Hp E σ s H locs) {post : SM → Prop} (hq : post σ) (hdg : decode cc pc = .ok (.return_, 1)) : W p l e R s m args below meth c H locs cells slots (MQ below (va_Qv post (fun u t => Wu E u t) (eA E)) args s cells slots (eA E)) (F0 m pc ls []) :=
  W.vret cx.1.1 cx.1.2.1 cx.2.1.1 (fun t ht hW => ⟨⟨σ, rfl, hq, wu_at cx hp.1 t ht hW⟩, hp.2.F ht⟩) hp.2.2.2 hdg cx.2.1.2
/-- calls: the run, then what comes behind it -/
theorem x_i {a : Array Value} {post : Int32 → SM → Prop} (hp : Hp E σ s H locs) (hr : va_Run p l e R s m args below meth c H locs cells slots 0 0 (F0 m pc ls st) rest (va_Qi post (fun u t => Wu E u t) (eA E) a) (eA E))
    (kk : ∀ (r : Int32) (u : SM) (H1 : Heap) (locs1 : List Loc), post r u → Hp E u s H1 locs1 → W p l e R s m args below meth c H1 locs1 cells slots Q (F0 m (pc + 3) ls (.int r :: rest))) : W p l e R s m args below meth c H locs cells slots Q (F0 m pc ls st) :=
  va_calli hr hp.2 (fun _ _ h => h) (fun _ h => h) (fun r u t H1 locs1 ht _ hw hB _ _ hS => kk r u H1 locs1 hw ⟨ht ▸ hB.2, hS⟩)
theorem x_l {a : Array Value} {post : Int64 → SM → Prop} (hp : Hp E σ s H locs) (hr : va_Run p l e R s m args below meth c H locs cells slots 0 0 (F0 m pc ls st) rest (va_Ql post (fun u t => Wu E u t) (eA E) a) (eA E))
    (kk : ∀ (r : Int64) (u : SM) (H1 : Heap) (locs1 : List Loc), post r u → Hp E u s H1 locs1 → W p l e R s m args below meth c H1 locs1 cells slots Q (F0 m (pc + 3) ls (.long r :: rest))) : W p l e R s m args below meth c H locs cells slots Q (F0 m pc ls st) :=
  va_calll hr hp.2 (fun _ _ h => h) (fun _ h => h) (fun r u t H1 locs1 ht _ hw hB _ _ hS => kk r u H1 locs1 hw ⟨ht ▸ hB.2, hS⟩)
theorem x_v {a : Array Value} {post : SM → Prop} (hp : Hp E σ s H locs) (hr : va_Run p l e R s m args below meth c H locs cells slots 0 0 (F0 m pc ls st) rest (va_Qv post (fun u t => Wu E u t) (eA E) a) (eA E))
    (kk : ∀ (u : SM) (H1 : Heap) (locs1 : List Loc), post u → Hp E u s H1 locs1 → W p l e R s m args below meth c H1 locs1 cells slots Q (F0 m (pc + 3) ls rest)) : W p l e R s m args below meth c H locs cells slots Q (F0 m pc ls st) :=
  va_callv hr hp.2 (fun _ _ h => h) (fun _ h => h) (fun u t H1 locs1 ht _ hw hB _ _ hS => kk u H1 locs1 hw ⟨ht ▸ hB.2, hS⟩)
theorem y_V {lv : List (Nat × Value)} {y : MethodName} {bytes : ByteArray} {maxL idx n mc ms : Nat} {ret' : Option FieldType} {rm : Room} {C : String} {b : Nat} {As : List Value} {Qc : Array Value → State → Outcome → State → Prop} {free : Addr → Prop} (cx : Cx E p s m meth c args own cc nL ret) (hp : Hp E σ s H locs) (hl : lv_has ls nL lv)
    (hM : Met l y (wC y bytes maxL ret') rm (va_Pc (.ref b :: As) (Wu E σ)) Qc mc ms free) (cw : CallW R s args own C idx y bytes maxL ret' (wC y bytes maxL ret') rm mc ms n) (hrecv : ∃ cell : Cell, H[b]? = some cell ∧ cell.vm.isStatics = false ∧ s.vm.findClass C = some cell.cls) (hn : As.length = n) (hst : st = As.reverse ++ .ref b :: rest) (hW : (rest.map fun v => v.category).sum ≤ 8)
    (hdg : decode cc pc = .ok (.invokevirtual idx, 3)) (hf : cells + mc ≤ R.cells ∧ slots + ms ≤ R.slots) : va_Run p l e R s m args below meth c H locs cells slots mc ms (F0 m pc ls st) rest (Qc (Value.ref b :: As).toArray) free :=
  va_runV cx.1 hM cw ⟨wu_blind, hrecv, fun U hU hW => ⟨rfl, wu_at cx hp.1 U hU hW⟩⟩ rfl hn hl.1 hst (lv_room hW) hdg hf
theorem y_S {lv : List (Nat × Value)} {y : MethodName} {bytes : ByteArray} {maxL idx n mc ms : Nat} {ret' : Option FieldType} {rm : Room} {As : List Value} {Qc : Array Value → State → Outcome → State → Prop} {free : Addr → Prop} (cx : Cx E p s m meth c args own cc nL ret) (hp : Hp E σ s H locs) (hl : lv_has ls nL lv)
    (hM : Met l y (wC y bytes maxL ret') rm (va_Pc As (Wu E σ)) Qc mc ms free) (cw : CallB R s args own idx y bytes maxL ret' (wC y bytes maxL ret') rm mc ms n ∧ (Cond.static y).before args s = true) (hn : As.length = n) (hst : st = As.reverse ++ rest) (hW : (rest.map fun v => v.category).sum ≤ 8)
    (hdg : decode cc pc = .ok (.invokestatic idx, 3)) (hf : cells + mc ≤ R.cells ∧ slots + ms ≤ R.slots) : va_Run p l e R s m args below meth c H locs cells slots mc ms (F0 m pc ls st) rest (Qc As.toArray) free :=
  va_runS cx.1 hM cw ⟨wu_blind, fun U hU hW => ⟨rfl, wu_at cx hp.1 U hU hW⟩⟩ rfl hn hl.1 hst (lv_room hW) hdg hf
theorem y_VN {lv : List (Nat × Value)} {y : MethodName} {bytes : ByteArray} {maxL idx n mc ms : Nat} {ret' : Option FieldType} {rm : Room} {C host : String} {b : Nat} {As : List Value} {Qc : Array Value → State → Outcome → State → Prop} {free : Addr → Prop} (cx : Cx E p s m meth c args own cc nL ret) (hp : Hp E σ s H locs) (hl : lv_has ls nL lv)
    (hM : Met l y (wC y bytes maxL ret') rm (va_Pc (.ref b :: As) (Wu E σ)) Qc mc ms free) (cw : va_CN R s args own idx y host bytes maxL ret' (wC y bytes maxL ret') rm mc ms n ∧ (Cond.instanceMethod y).before args s = true ∧ (Cond.selects C y y).before args s = true) (hrecv : ∃ cell : Cell, H[b]? = some cell ∧ cell.vm.isStatics = false ∧ s.vm.findClass C = some cell.cls) (hn : As.length = n) (hst : st = As.reverse ++ .ref b :: rest) (hW : (rest.map fun v => v.category).sum ≤ 8)
    (hdg : decode cc pc = .ok (.invokevirtual idx, 3)) (hf : cells + mc ≤ R.cells ∧ slots + ms ≤ R.slots) : va_Run p l e R s m args below meth c H locs cells slots mc ms (F0 m pc ls st) rest (Qc (Value.ref b :: As).toArray) free :=
  va_runVN cx.1 hM cw ⟨wu_blind, hrecv, fun U hU hW => ⟨rfl, wu_at cx hp.1 U hU hW⟩⟩ rfl hn hl.1 hst (lv_room hW) hdg hf
theorem y_SN {lv : List (Nat × Value)} {y : MethodName} {bytes : ByteArray} {maxL idx n mc ms : Nat} {ret' : Option FieldType} {rm : Room} {host : String} {As : List Value} {Qc : Array Value → State → Outcome → State → Prop} {free : Addr → Prop} (cx : Cx E p s m meth c args own cc nL ret) (hp : Hp E σ s H locs) (hl : lv_has ls nL lv)
    (hM : Met l y (wC y bytes maxL ret') rm (va_Pc As (Wu E σ)) Qc mc ms free) (cw : va_CN R s args own idx y host bytes maxL ret' (wC y bytes maxL ret') rm mc ms n ∧ (Cond.static y).before args s = true ∧ True) (hn : As.length = n) (hst : st = As.reverse ++ rest) (hW : (rest.map fun v => v.category).sum ≤ 8)
    (hdg : decode cc pc = .ok (.invokestatic idx, 3)) (hf : cells + mc ≤ R.cells ∧ slots + ms ≤ R.slots) : va_Run p l e R s m args below meth c H locs cells slots mc ms (F0 m pc ls st) rest (Qc As.toArray) free :=
  va_runSN cx.1 hM cw ⟨wu_blind, fun U hU hW => ⟨rfl, wu_at cx hp.1 U hU hW⟩⟩ rfl hn hl.1 hst (lv_room hW) hdg hf
/-- a name for what lies on the stack -/
theorem lv_nm {x y : Int32} (h : x = y) (k : W p l e R s m args below meth c H locs cells slots Q (F0 m pc ls (.int y :: rest))) : W p l e R s m args below meth c H locs cells slots Q (F0 m pc ls (.int x :: rest)) := by rw [h]; exact k
theorem lv_nml {x y : Int64} (h : x = y) (k : W p l e R s m args below meth c H locs cells slots Q (F0 m pc ls (.long y :: rest))) : W p l e R s m args below meth c H locs cells slots Q (F0 m pc ls (.long x :: rest)) := by rw [h]; exact k
/-- the receiver's class -/
theorem rc_o (cx : Cx E p s m meth c args own cc nL ret) (hp : Hp E σ s H locs) {o ci : Nat} {q : vw_C} {fs : List Value} (hd : dec (lin o 0) = (o, 0)) (hn : lin o 0 < eN E) (hc : vwCl[ci]? = some q) (hx : celX E o 0 (σ o) = .inr (ci, fs)) : ∃ cell : Cell, H[adr E o 0]? = some cell ∧ cell.vm.isStatics = false ∧ s.vm.findClass q.1 = some cell.cls :=
  va_recv cx.2.2.1.2.1 hp.1.1 hc ((ws_at hd hn rfl).trans (by rw [hx]))
end BASE
end
section
set_option maxRecDepth 100000 in
def f_X5_hasSeller (p1 : Int32) (μ : OM) : Option (Int32) := (if p1 < 0 then (some 0) else (if (μ.1 0 0) ≤ p1 then (some 0) else (some 1)))
set_option maxRecDepth 100000 in
def f_X5_turnOf (p1 : Int32) (μ : OM) : Option (Int32) := ((f_X5_hasSeller p1 μ).bind fun r1 => (if r1 = 0 then (some (-1)) else (if inb p1 8 = true then (some (μ.1 5 (Int32.toNatClampNeg p1))) else none)))
set_option maxRecDepth 100000 in
def f_X1_nextInTurn_4 (μ : OM) (α : OM) : Nat → Int32 → Int32 → Option (Int32)
  | 0, _, _ => none
  | n + 1, x3, x2 => (if (μ.1 0 0) ≤ x3 then (some x2) else (if inb x3 8 = true then (if (α.1 2 (Int32.toNatClampNeg x3)) = 0 then (if x2 = (-1) then (f_X1_nextInTurn_4 μ α n (x3 + 1) x3) else ((f_X5_turnOf x3 μ).bind fun r4 => ((f_X5_turnOf x2 μ).bind fun r5 => (if r5 ≤ r4 then (f_X1_nextInTurn_4 μ α n (x3 + 1) x2) else (f_X1_nextInTurn_4 μ α n (x3 + 1) x3))))) else (f_X1_nextInTurn_4 μ α n (x3 + 1) x2)) else none))
set_option maxRecDepth 100000 in
def f_X1_nextInTurn  (μ : OM) (α : OM) : Option (Int32) := (f_X1_nextInTurn_4 μ α FU 0 (-1))
set_option maxRecDepth 100000 in
def f_X1_append (p1 : Int32) (α : OM) : Option (OM) := (if p1 = (-1) then (some α) else (if 8 ≤ (α.1 0 4) then (some α) else (if inb (α.1 0 4) 8 = true then (lt (wI α 4 (Int32.toNatClampNeg (α.1 0 4)) p1) fun α3 => (lt (wI α3 0 4 ((α3.1 0 4) + 1)) fun α4 => (some α4))) else none)))
set_option maxRecDepth 100000 in
def f_X5_wishesOf (p1 : Int32) (μ : OM) : Option (Int32) := ((f_X5_hasSeller p1 μ).bind fun r1 => (if r1 = 0 then (some 0) else (if inb p1 8 = true then (some (μ.1 6 (Int32.toNatClampNeg p1))) else none)))
set_option maxRecDepth 100000 in
def f_X5_wish (p1 : Int32) (p2 : Int32) (μ : OM) : Option (Int32) := ((f_X5_hasSeller p1 μ).bind fun r1 => (if r1 = 0 then (some (-1)) else (if p2 < 0 then (some (-1)) else (if inb p1 8 = true then (if p2 < (μ.1 6 (Int32.toNatClampNeg p1)) then (if inb ((p1 * 8) + p2) 64 = true then (some (μ.1 7 (Int32.toNatClampNeg ((p1 * 8) + p2)))) else none) else (some (-1))) else none))))
set_option maxRecDepth 100000 in
def f_X1_firstAvailable_2 (x2 : Int32) (μ : OM) (α : OM) : Nat → Int32 → Option (Int32)
  | 0, _ => none
  | n + 1, x3 => ((f_X5_wishesOf x2 μ).bind fun r1 => (if r1 ≤ x3 then (some (-1)) else ((f_X5_wish x2 x3 μ).bind fun r3 => (if r3 = (-1) then (f_X1_firstAvailable_2 x2 μ α n (x3 + 1)) else (if inb r3 8 = true then (if (α.1 3 (Int32.toNatClampNeg r3)) = 0 then (some r3) else (f_X1_firstAvailable_2 x2 μ α n (x3 + 1))) else none)))))
set_option maxRecDepth 100000 in
def f_X1_firstAvailable (p2 : Int32) (μ : OM) (α : OM) : Option (Int32) := (f_X1_firstAvailable_2 p2 μ α FU 0)
set_option maxRecDepth 100000 in
def f_X5_holderOf_9 (x1 : Int32) (μ : OM) : Nat → Int32 → Option (Int32)
  | 0, _ => none
  | n + 1, x2 => (if (μ.1 0 0) ≤ x2 then (some (-1)) else (if inb x2 8 = true then (if (μ.1 4 (Int32.toNatClampNeg x2)) = x1 then (some x2) else (f_X5_holderOf_9 x1 μ n (x2 + 1))) else none))
set_option maxRecDepth 100000 in
def f_X5_holderOf (p1 : Int32) (μ : OM) : Option (Int32) := (if p1 = (-1) then (some (-1)) else (f_X5_holderOf_9 p1 μ FU 0))
set_option maxRecDepth 100000 in
def f_X1_finishFrom_2 (x1 : Int32) : Nat → Int32 → OM → Option (OM)
  | 0, _, _ => none
  | n + 1, x2, α => (if x2 < 0 then (lt (wI α 0 4 x1) fun α2 => (some α2)) else (if (α.1 0 4) ≤ x2 then (lt (wI α 0 4 x1) fun α4 => (some α4)) else (if inb x2 8 = true then (lt ((α.1 4 (Int32.toNatClampNeg x2))) fun i5 => (if inb i5 8 = true then (lt (wI α 2 (Int32.toNatClampNeg i5) 1) fun α6 => (if inb i5 8 = true then (lt ((α6.1 1 (Int32.toNatClampNeg i5))) fun i7 => (if i7 = (-1) then (f_X1_finishFrom_2 x1 n (x2 + 1) α6) else (if inb i7 8 = true then (lt (wI α6 3 (Int32.toNatClampNeg i7) 1) fun α9 => (f_X1_finishFrom_2 x1 n (x2 + 1) α9)) else none))) else none)) else none)) else none)))
set_option maxRecDepth 100000 in
def f_X1_finishFrom (p1 : Int32) (α : OM) : Option (OM) := (f_X1_finishFrom_2 p1 FU p1 α)
set_option maxRecDepth 100000 in
def f_X1_placeInChain_2 (x1 : Int32) (α : OM) : Nat → Int32 → Option (Int32)
  | 0, _ => none
  | n + 1, x2 => (if (α.1 0 4) ≤ x2 then (some (-1)) else (if inb x2 8 = true then (if (α.1 4 (Int32.toNatClampNeg x2)) = x1 then (some x2) else (f_X1_placeInChain_2 x1 α n (x2 + 1))) else none))
set_option maxRecDepth 100000 in
def f_X1_placeInChain (p1 : Int32) (α : OM) : Option (Int32) := (f_X1_placeInChain_2 p1 α FU 0)
set_option maxRecDepth 100000 in
def f_X1_serve (p2 : Int32) (μ : OM) (α : OM) : Option (OM) := ((f_X1_firstAvailable p2 μ α).bind fun r1 => (if inb p2 8 = true then (lt (wI α 1 (Int32.toNatClampNeg p2) r1) fun α2 => ((f_X5_holderOf r1 μ).bind fun r3 => (if r3 = (-1) then ((f_X1_finishFrom ((α2.1 0 4) - 1) α2).bind fun α5 => (some α5)) else (if r3 = p2 then ((f_X1_finishFrom ((α2.1 0 4) - 1) α2).bind fun α7 => (some α7)) else (if inb r3 8 = true then (if (α2.1 2 (Int32.toNatClampNeg r3)) = 0 then ((f_X1_placeInChain r3 α2).bind fun r9 => (if r9 = (-1) then ((f_X1_append r3 α2).bind fun α12 => (some α12)) else ((f_X1_finishFrom r9 α2).bind fun α11 => (some α11)))) else ((f_X1_finishFrom ((α2.1 0 4) - 1) α2).bind fun α13 => (some α13))) else none))))) else none))
set_option maxRecDepth 100000 in
def f_X1_decide_7  : Nat → Int32 → OM → Option (OM)
  | 0, _, _ => none
  | n + 1, x2, α => (if 8 ≤ x2 then (some α) else (if inb x2 8 = true then (lt (wI α 1 (Int32.toNatClampNeg x2) (-1)) fun α3 => (if inb x2 8 = true then (lt (wI α3 2 (Int32.toNatClampNeg x2) 0) fun α4 => (f_X1_decide_7  n (x2 + 1) α4)) else none)) else none))
set_option maxRecDepth 100000 in
def f_X1_decide_35  : Nat → Int32 → OM → Option (OM)
  | 0, _, _ => none
  | n + 1, x2, α => (if 8 ≤ x2 then (some α) else (if inb x2 8 = true then (lt (wI α 3 (Int32.toNatClampNeg x2) 0) fun α7 => (f_X1_decide_35  n (x2 + 1) α7)) else none))
set_option maxRecDepth 100000 in
def f_X1_decide_56 (μ : OM) : Nat → Int32 → OM → Option (OM)
  | 0, _, _ => none
  | n + 1, x2, α => (if 16 ≤ x2 then (some α) else (if (α.1 0 4) = 0 then ((f_X1_nextInTurn μ α).bind fun r13 => ((f_X1_append r13 α).bind fun α14 => (if (α14.1 0 4) ≤ 0 then (f_X1_decide_56 μ n (x2 + 1) α14) else (if inb ((α14.1 0 4) - 1) 8 = true then ((f_X1_serve (α14.1 4 (Int32.toNatClampNeg ((α14.1 0 4) - 1))) μ α14).bind fun α16 => (f_X1_decide_56 μ n (x2 + 1) α16)) else none)))) else (if (α.1 0 4) ≤ 0 then (f_X1_decide_56 μ n (x2 + 1) α) else (if inb ((α.1 0 4) - 1) 8 = true then ((f_X1_serve (α.1 4 (Int32.toNatClampNeg ((α.1 0 4) - 1))) μ α).bind fun α12 => (f_X1_decide_56 μ n (x2 + 1) α12)) else none))))
set_option maxRecDepth 100000 in
def f_X1_decide  (μ : OM) (α : OM) : Option (OM) := (lt (wI α 0 4 0) fun α1 => ((f_X1_decide_7  FU 0 α1).bind fun α5 => ((f_X1_decide_35  FU 0 α5).bind fun α8 => (f_X1_decide_56 μ FU 0 α8))))
set_option maxRecDepth 100000 in
def f_X1_givenTo (p1 : Int32) (α : OM) : Option (Int32) := (if p1 < 0 then (some (-1)) else (if p1 < 8 then (if inb p1 8 = true then (some (α.1 1 (Int32.toNatClampNeg p1))) else none) else (some (-1))))
set_option maxRecDepth 100000 in
def f_X5_heldBy (p1 : Int32) (μ : OM) : Option (Int32) := ((f_X5_hasSeller p1 μ).bind fun r1 => (if r1 = 0 then (some (-1)) else (if inb p1 8 = true then (some (μ.1 4 (Int32.toNatClampNeg p1))) else none)))
set_option maxRecDepth 100000 in
def f_X5_seat (p1 : Int32) (p2 : Int32) (μ : OM) : Option (OM) := ((f_X5_hasSeller p1 μ).bind fun r1 => (if r1 = 0 then (some μ) else (if inb p1 8 = true then (lt (wI μ 4 (Int32.toNatClampNeg p1) p2) fun μ3 => (some μ3)) else none)))
set_option maxRecDepth 100000 in
def f_X1_applyTo_4 (α : OM) : Nat → Int32 → Int32 → OM → Option (Int32 × OM)
  | 0, _, _, _ => none
  | n + 1, x3, x2, μ => (if (μ.1 0 0) ≤ x3 then (some (x2, μ)) else ((f_X1_givenTo x3 α).bind fun r2 => ((f_X5_heldBy x3 μ).bind fun r3 => (if r2 = r3 then (f_X1_applyTo_4 α n (x3 + 1) x2 μ) else (if r2 = (-1) then (f_X1_applyTo_4 α n (x3 + 1) (x2 + 1) μ) else (lt (wI μ 0 6 ((μ.1 0 6) + 1)) fun μ6 => (f_X1_applyTo_4 α n (x3 + 1) (x2 + 1) μ6)))))))
set_option maxRecDepth 100000 in
def f_X1_applyTo_56 (x2 : Int32) (α : OM) : Nat → Int32 → OM → Option (Int32 × OM)
  | 0, _, _ => none
  | n + 1, x3, μ => (if (μ.1 0 0) ≤ x3 then (some (x2, μ)) else ((f_X1_givenTo x3 α).bind fun r10 => ((f_X5_seat x3 r10 μ).bind fun μ11 => (f_X1_applyTo_56 x2 α n (x3 + 1) μ11))))
set_option maxRecDepth 100000 in
def f_X1_applyTo  (μ : OM) (α : OM) : Option (Int32 × OM) := (o2 (f_X1_applyTo_4 α FU 0 0 μ) fun i7 μ8 => (f_X1_applyTo_56 i7 α FU 0 μ8))
set_option maxRecDepth 100000 in
def f_X2_byteAt (p1 : Int32) (β : OM) : Option (Int32) := (if p1 < 0 then (some (-1)) else (if p1 < (β.1 0 1) then (if inb p1 700 = true then (some (β.1 1 (Int32.toNatClampNeg p1))) else none) else (some (-1))))
set_option maxRecDepth 100000 in
def f_X2_add (p1 : Int32) (β : OM) : Option (OM) := (if 700 ≤ (β.1 0 1) then (some β) else (if inb (β.1 0 1) 700 = true then (lt (wI β 1 (Int32.toNatClampNeg (β.1 0 1)) p1) fun β2 => (lt (wI β2 0 1 ((β2.1 0 1) + 1)) fun β3 => (some β3))) else none))
set_option maxRecDepth 100000 in
def f_X2_addWord_3 (x1 : Int32) : Nat → Int32 → OM → Option (OM)
  | 0, _, _ => none
  | n + 1, x2, β => (if x2 < 0 then (some β) else ((f_X2_add (((x1.toUInt32 >>> (Int32.toUInt32 x2 &&& Int32.toUInt32 31)).toInt32) &&& 255) β).bind fun β2 => (f_X2_addWord_3 x1 n (x2 + (-8)) β2)))
set_option maxRecDepth 100000 in
def f_X2_addWord (p1 : Int32) (β : OM) : Option (OM) := (f_X2_addWord_3 p1 FU 24 β)
set_option maxRecDepth 100000 in
def f_X2_cut (p1 : Int32) (β : OM) : Option (OM) := (if p1 < 0 then (some β) else (if (β.1 0 1) ≤ p1 then (some β) else (lt (wI β 0 1 p1) fun β3 => (some β3))))
set_option maxRecDepth 100000 in
def f_X5_rankIn_16 (x1 : Int32) (x2 : Int32) (μ : OM) : Nat → Int32 → Option (Int32)
  | 0, _ => none
  | n + 1, x3 => (if inb x1 8 = true then (if (μ.1 6 (Int32.toNatClampNeg x1)) ≤ x3 then (some (-1)) else (if inb ((x1 * 8) + x3) 64 = true then (if (μ.1 7 (Int32.toNatClampNeg ((x1 * 8) + x3))) = x2 then (some x3) else (f_X5_rankIn_16 x1 x2 μ n (x3 + 1))) else none)) else none)
set_option maxRecDepth 100000 in
def f_X5_rankIn (p1 : Int32) (p2 : Int32) (μ : OM) : Option (Int32) := (if p1 < 0 then (some (-1)) else (if p1 < (μ.1 0 0) then (f_X5_rankIn_16 p1 p2 μ FU 0) else (some (-1))))
set_option maxRecDepth 100000 in
def f_X5_standing (p1 : Int32) (p2 : Int32) (μ : OM) : Option (Int32) := (if p2 = (-1) then (some 8) else ((f_X5_rankIn p1 p2 μ).bind fun r2 => (if r2 = (-1) then (some 9) else (some r2))))
set_option maxRecDepth 100000 in
def f_X5_ranksAbove (p1 : Int32) (p2 : Int32) (p3 : Int32) (μ : OM) : Option (Int32) := ((f_X5_standing p1 p2 μ).bind fun r1 => ((f_X5_standing p1 p3 μ).bind fun r2 => (if r2 ≤ r1 then (some 0) else (some 1))))
set_option maxRecDepth 100000 in
def f_X3_wantsStallOf (p1 : Int32) (p2 : Int32) (μ : OM) : Option (Int32) := ((f_X5_heldBy p2 μ).bind fun r1 => (if r1 = (-1) then (some 0) else ((f_X5_heldBy p1 μ).bind fun r3 => ((f_X5_ranksAbove p1 r1 r3 μ).bind fun r4 => (if r4 = 0 then (some 0) else (some 1))))))
set_option maxRecDepth 100000 in
def f_X3_bothGain (p1 : Int32) (p2 : Int32) (μ : OM) : Option (Int32) := ((f_X5_heldBy p1 μ).bind fun r1 => (if r1 = (-1) then (some 0) else ((f_X3_wantsStallOf p1 p2 μ).bind fun r3 => (if r3 = 0 then (some 0) else ((f_X3_wantsStallOf p2 p1 μ).bind fun r5 => (if r5 = 0 then (some 0) else (some 1)))))))
set_option maxRecDepth 100000 in
def f_X3_wantedByAny_15 (x1 : Int32) (x3 : Int32) (μ : OM) : Nat → Int32 → Int32 → Option (Int32)
  | 0, _, _ => none
  | n + 1, x4, x2 => (if (μ.1 0 0) ≤ x4 then (some x2) else (if (x1 &&& (1 <<< (x3 &&& 31))) = 0 then (f_X3_wantedByAny_15 x1 x3 μ n (x4 + 1) x2) else ((f_X3_wantsStallOf x3 x4 μ).bind fun r4 => (if r4 = 0 then (f_X3_wantedByAny_15 x1 x3 μ n (x4 + 1) x2) else (lt ((x2 ||| (1 <<< (x4 &&& 31)))) fun i6 => (f_X3_wantedByAny_15 x1 x3 μ n (x4 + 1) i6))))))
set_option maxRecDepth 100000 in
def f_X3_wantedByAny_4 (x1 : Int32) (μ : OM) : Nat → Int32 → Int32 → Option (Int32)
  | 0, _, _ => none
  | n + 1, x3, x2 => (if (μ.1 0 0) ≤ x3 then (some x2) else ((f_X3_wantedByAny_15 x1 x3 μ FU 0 x2).bind fun i7 => (f_X3_wantedByAny_4 x1 μ n (x3 + 1) i7)))
set_option maxRecDepth 100000 in
def f_X3_wantedByAny (p1 : Int32) (μ : OM) : Option (Int32) := (f_X3_wantedByAny_4 p1 μ FU 0 0)
set_option maxRecDepth 100000 in
def f_X3_shortestCycle_17 (x1 : Int32) (μ : OM) : Nat → Int32 → Int32 → Option (Int32)
  | 0, _, _ => none
  | n + 1, x3, x2 => (if (μ.1 0 0) < x3 then (some (-1)) else ((f_X3_wantedByAny x2 μ).bind fun r5 => (if (r5 &&& (1 <<< (x1 &&& 31))) = 0 then (f_X3_shortestCycle_17 x1 μ n (x3 + 1) r5) else (some x3))))
set_option maxRecDepth 100000 in
def f_X3_shortestCycle (p1 : Int32) (μ : OM) : Option (Int32) := ((f_X5_heldBy p1 μ).bind fun r1 => (if r1 = (-1) then (some (-1)) else (lt ((1 <<< (p1 &&& 31))) fun i3 => (f_X3_shortestCycle_17 p1 μ FU 1 i3))))
set_option maxRecDepth 100000 in
def f_X3_bestFreeStall_8 (x2 : Int32) (x1 : Int32) (μ : OM) : Nat → Int32 → Option (Int32)
  | 0, _ => none
  | n + 1, x3 => ((f_X5_wishesOf x1 μ).bind fun r2 => (if r2 ≤ x3 then (some (-1)) else ((f_X5_wish x1 x3 μ).bind fun r4 => (if r4 = x2 then (some (-1)) else ((f_X5_holderOf r4 μ).bind fun r6 => (if r6 = (-1) then (some r4) else (f_X3_bestFreeStall_8 x2 x1 μ n (x3 + 1))))))))
set_option maxRecDepth 100000 in
def f_X3_bestFreeStall (p1 : Int32) (μ : OM) : Option (Int32) := ((f_X5_heldBy p1 μ).bind fun r1 => (f_X3_bestFreeStall_8 r1 p1 μ FU 0))
set_option maxRecDepth 100000 in
def f_X3_canImprove_2 (μ : OM) : Nat → Int32 → Option (Int32)
  | 0, _ => none
  | n + 1, x1 => (if (μ.1 0 0) ≤ x1 then (some 0) else ((f_X5_heldBy x1 μ).bind fun r2 => ((f_X5_ranksAbove x1 (-1) r2 μ).bind fun r3 => (if r3 = 0 then ((f_X3_bestFreeStall x1 μ).bind fun r5 => (if r5 = (-1) then ((f_X3_shortestCycle x1 μ).bind fun r7 => (if r7 = (-1) then (f_X3_canImprove_2 μ n (x1 + 1)) else (some 1))) else (some 1))) else (some 1)))))
set_option maxRecDepth 100000 in
def f_X3_canImprove  (μ : OM) : Option (Int32) := (f_X3_canImprove_2 μ FU 0)
set_option maxRecDepth 100000 in
def f_X4_clear  (σ : SM) : Option (SM) := (lt (us σ 16 (wI (σ 16) 0 1 0)) fun σ1 => (lt (us σ1 16 (wI (σ1 16) 0 2 0)) fun σ2 => (some σ2)))
set_option maxRecDepth 100000 in
def f_X4_slotAfter (p1 : Int32) (σ : SM) : Option (Int32) := (some ((((σ 16).1 0 1) + p1) - (((σ 16).1 0 1) + p1) / 8 * 8))
set_option maxRecDepth 100000 in
def f_X5_copy_83 (μ : OM) : Nat → Int32 → OM → Option (OM)
  | 0, _, _ => none
  | n + 1, x2, ν => (if 8 ≤ x2 then (some ν) else (if inb x2 8 = true then (if inb x2 8 = true then (lt (wJ ν 1 (Int32.toNatClampNeg x2) (μ.2.1 1 (Int32.toNatClampNeg x2))) fun ν11 => (if inb x2 8 = true then (if inb x2 8 = true then (lt (wI ν11 2 (Int32.toNatClampNeg x2) (μ.1 2 (Int32.toNatClampNeg x2))) fun ν12 => (if inb x2 8 = true then (if inb x2 8 = true then (lt (wI ν12 3 (Int32.toNatClampNeg x2) (μ.1 3 (Int32.toNatClampNeg x2))) fun ν13 => (if inb x2 8 = true then (if inb x2 8 = true then (lt (wI ν13 4 (Int32.toNatClampNeg x2) (μ.1 4 (Int32.toNatClampNeg x2))) fun ν14 => (if inb x2 8 = true then (if inb x2 8 = true then (lt (wI ν14 5 (Int32.toNatClampNeg x2) (μ.1 5 (Int32.toNatClampNeg x2))) fun ν15 => (if inb x2 8 = true then (if inb x2 8 = true then (lt (wI ν15 6 (Int32.toNatClampNeg x2) (μ.1 6 (Int32.toNatClampNeg x2))) fun ν16 => (f_X5_copy_83 μ n (x2 + 1) ν16)) else none) else none)) else none) else none)) else none) else none)) else none) else none)) else none) else none)) else none) else none))
set_option maxRecDepth 100000 in
def f_X5_copy_169 (μ : OM) : Nat → Int32 → OM → Option (OM)
  | 0, _, _ => none
  | n + 1, x2, ν => (if 64 ≤ x2 then (some ν) else (if inb x2 64 = true then (if inb x2 64 = true then (lt (wI ν 7 (Int32.toNatClampNeg x2) (μ.1 7 (Int32.toNatClampNeg x2))) fun ν19 => (f_X5_copy_169 μ n (x2 + 1) ν19)) else none) else none))
set_option maxRecDepth 100000 in
def f_X5_copy_195 (μ : OM) : Nat → Int32 → OM → Option (OM)
  | 0, _, _ => none
  | n + 1, x2, ν => (if 8 ≤ x2 then (some ν) else (if inb x2 8 = true then (if inb x2 8 = true then (lt (wJ ν 8 (Int32.toNatClampNeg x2) (μ.2.1 8 (Int32.toNatClampNeg x2))) fun ν22 => (if inb x2 8 = true then (if inb x2 8 = true then (lt (wI ν22 9 (Int32.toNatClampNeg x2) (μ.1 9 (Int32.toNatClampNeg x2))) fun ν23 => (f_X5_copy_195 μ n (x2 + 1) ν23)) else none) else none)) else none) else none))
set_option maxRecDepth 100000 in
def f_X5_copy  (μ : OM) (ν : OM) : Option (OM) := (lt (wI ν 0 0 (μ.1 0 0)) fun ν1 => (lt (wI ν1 0 1 (μ.1 0 1)) fun ν2 => (lt (wI ν2 0 2 (μ.1 0 2)) fun ν3 => (lt (wI ν3 0 3 (μ.1 0 3)) fun ν4 => (lt (wI ν4 0 4 (μ.1 0 4)) fun ν5 => (lt (wI ν5 0 5 (μ.1 0 5)) fun ν6 => (lt (wI ν6 0 6 (μ.1 0 6)) fun ν7 => (lt (wI ν7 0 7 (μ.1 0 7)) fun ν8 => (lt (wI ν8 0 8 (μ.1 0 8)) fun ν9 => ((f_X5_copy_83 μ FU 0 ν9).bind fun ν17 => ((f_X5_copy_169 μ FU 0 ν17).bind fun ν20 => (f_X5_copy_195 μ FU 0 ν20))))))))))))
set_option maxRecDepth 100000 in
def f_X4_record  (σ : SM) : Option (SM) := ((f_X4_slotAfter ((σ 16).1 0 2) σ).bind fun r1 => (if inb r1 8 = true then (lt (3 + Int32.toNatClampNeg r1) fun ob2 => ((f_X5_copy (σ 0) (σ ob2)).bind fun m3 => (lt (us σ ob2 m3) fun σ4 => (if 8 ≤ ((σ4 16).1 0 2) then ((f_X4_slotAfter 1 σ4).bind fun r6 => (lt (us σ4 16 (wI (σ4 16) 0 1 r6)) fun σ7 => (some σ7))) else (lt (us σ4 16 (wI (σ4 16) 0 2 (((σ4 16).1 0 2) + 1))) fun σ8 => (some σ8)))))) else none))
set_option maxRecDepth 100000 in
def f_X4_takeBack  (σ : SM) : Option (Int32 × SM) := (if ((σ 16).1 0 2) = 0 then (some ((-1), σ)) else (lt (us σ 16 (wI (σ 16) 0 2 (((σ 16).1 0 2) - 1))) fun σ2 => ((f_X4_slotAfter ((σ2 16).1 0 2) σ2).bind fun r3 => (if inb r3 8 = true then (lt (3 + Int32.toNatClampNeg r3) fun ob4 => ((f_X5_copy (σ2 ob4) (σ2 0)).bind fun m5 => (lt (us σ2 0 m5) fun σ6 => (some (((σ6 16).1 0 2), σ6))))) else none))))
set_option maxRecDepth 100000 in
def f_X5_clear  (μ : OM) : Option (OM) := (lt (wI μ 0 0 0) fun μ1 => (lt (wI μ1 0 1 0) fun μ2 => (lt (wI μ2 0 2 0) fun μ3 => (lt (wI μ3 0 3 0) fun μ4 => (lt (wI μ4 0 4 0) fun μ5 => (lt (wI μ5 0 5 0) fun μ6 => (lt (wI μ6 0 6 0) fun μ7 => (lt (wI μ7 0 7 0) fun μ8 => (lt (wI μ8 0 8 0) fun μ9 => (some μ9))))))))))
set_option maxRecDepth 100000 in
def f_X5_addStall (p1 : Int64) (p3 : Int32) (μ : OM) : Option (OM) := (if 8 ≤ (μ.1 0 1) then (some μ) else (if inb (μ.1 0 1) 8 = true then (lt (wJ μ 8 (Int32.toNatClampNeg (μ.1 0 1)) p1) fun μ2 => (if inb (μ2.1 0 1) 8 = true then (lt (wI μ2 9 (Int32.toNatClampNeg (μ2.1 0 1)) p3) fun μ3 => (lt (wI μ3 0 1 ((μ3.1 0 1) + 1)) fun μ4 => (some μ4))) else none)) else none))
set_option maxRecDepth 100000 in
def f_X5_addSeller (p1 : Int64) (p3 : Int32) (p4 : Int32) (μ : OM) : Option (OM) := (if 8 ≤ (μ.1 0 0) then (some μ) else (if inb (μ.1 0 0) 8 = true then (lt (wJ μ 1 (Int32.toNatClampNeg (μ.1 0 0)) p1) fun μ2 => (if inb (μ2.1 0 0) 8 = true then (lt (wI μ2 2 (Int32.toNatClampNeg (μ2.1 0 0)) p3) fun μ3 => (if inb (μ3.1 0 0) 8 = true then (lt (wI μ3 3 (Int32.toNatClampNeg (μ3.1 0 0)) p4) fun μ4 => (if inb (μ4.1 0 0) 8 = true then (lt (wI μ4 4 (Int32.toNatClampNeg (μ4.1 0 0)) (-1)) fun μ5 => (if inb (μ5.1 0 0) 8 = true then (lt (wI μ5 5 (Int32.toNatClampNeg (μ5.1 0 0)) (μ5.1 0 0)) fun μ6 => (if inb (μ6.1 0 0) 8 = true then (lt (wI μ6 6 (Int32.toNatClampNeg (μ6.1 0 0)) 0) fun μ7 => (lt (wI μ7 0 7 ((μ7.1 0 7) + p3)) fun μ8 => (lt (wI μ8 0 0 ((μ8.1 0 0) + 1)) fun μ9 => (some μ9)))) else none)) else none)) else none)) else none)) else none)) else none))
set_option maxRecDepth 100000 in
def f_X5_hasStall (p1 : Int32) (μ : OM) : Option (Int32) := (if p1 < 0 then (some 0) else (if (μ.1 0 1) ≤ p1 then (some 0) else (some 1)))
set_option maxRecDepth 100000 in
def f_X5_coinsOf (p1 : Int32) (μ : OM) : Option (Int32) := ((f_X5_hasSeller p1 μ).bind fun r1 => (if r1 = 0 then (some 0) else (if inb p1 8 = true then (some (μ.1 2 (Int32.toNatClampNeg p1))) else none)))
set_option maxRecDepth 100000 in
def f_X5_priceOf (p1 : Int32) (μ : OM) : Option (Int32) := ((f_X5_hasStall p1 μ).bind fun r1 => (if r1 = 0 then (some 0) else (if inb p1 8 = true then (some (μ.1 9 (Int32.toNatClampNeg p1))) else none)))
set_option maxRecDepth 100000 in
def f_X5_sellerCalled_2 (x1 : Int64) (μ : OM) : Nat → Int32 → Option (Int32)
  | 0, _ => none
  | n + 1, x3 => (if (μ.1 0 0) ≤ x3 then (some (-1)) else (if inb x3 8 = true then (if (lg_cmp (μ.2.1 1 (Int32.toNatClampNeg x3)) x1) = 0 then (some x3) else (f_X5_sellerCalled_2 x1 μ n (x3 + 1))) else none))
set_option maxRecDepth 100000 in
def f_X5_sellerCalled (p1 : Int64) (μ : OM) : Option (Int32) := (f_X5_sellerCalled_2 p1 μ FU 0)
set_option maxRecDepth 100000 in
def f_X5_stallCalled_2 (x1 : Int64) (μ : OM) : Nat → Int32 → Option (Int32)
  | 0, _ => none
  | n + 1, x3 => (if (μ.1 0 1) ≤ x3 then (some (-1)) else (if inb x3 8 = true then (if (lg_cmp (μ.2.1 8 (Int32.toNatClampNeg x3)) x1) = 0 then (some x3) else (f_X5_stallCalled_2 x1 μ n (x3 + 1))) else none))
set_option maxRecDepth 100000 in
def f_X5_stallCalled (p1 : Int64) (μ : OM) : Option (Int32) := (f_X5_stallCalled_2 p1 μ FU 0)
set_option maxRecDepth 100000 in
def f_X5_mayMoveInto (p1 : Int32) (p2 : Int32) (μ : OM) : Option (Int32) := ((f_X5_holderOf p2 μ).bind fun r1 => (if r1 = (-1) then ((f_X5_priceOf p2 μ).bind fun r3 => ((f_X5_coinsOf p1 μ).bind fun r4 => (if r4 < r3 then (some 0) else (some 1)))) else (some 0)))
set_option maxRecDepth 100000 in
def f_X5_exchange (p1 : Int32) (p2 : Int32) (μ : OM) : Option (OM) := ((f_X5_heldBy p1 μ).bind fun r1 => ((f_X5_heldBy p2 μ).bind fun r2 => ((f_X5_seat p1 r2 μ).bind fun μ3 => ((f_X5_seat p2 r1 μ3).bind fun μ4 => (lt (wI μ4 0 5 ((μ4.1 0 5) + 1)) fun μ5 => (some μ5))))))
set_option maxRecDepth 100000 in
def f_X5_moveTurn_9 (x3 : Int32) (x2 : Int32) : Nat → Int32 → OM → Option (OM)
  | 0, _, _ => none
  | n + 1, x4, μ => (if (μ.1 0 0) ≤ x4 then (some μ) else (if inb x4 8 = true then (if (μ.1 5 (Int32.toNatClampNeg x4)) ≤ x3 then (if inb x4 8 = true then (if x3 ≤ (μ.1 5 (Int32.toNatClampNeg x4)) then (f_X5_moveTurn_9 x3 x2 n (x4 + 1) μ) else (if inb x4 8 = true then (if (μ.1 5 (Int32.toNatClampNeg x4)) < x2 then (f_X5_moveTurn_9 x3 x2 n (x4 + 1) μ) else (if inb x4 8 = true then (if inb x4 8 = true then (lt (wI μ 5 (Int32.toNatClampNeg x4) ((μ.1 5 (Int32.toNatClampNeg x4)) + 1)) fun μ6 => (f_X5_moveTurn_9 x3 x2 n (x4 + 1) μ6)) else none) else none)) else none)) else none) else (if inb x4 8 = true then (if x2 < (μ.1 5 (Int32.toNatClampNeg x4)) then (if inb x4 8 = true then (if x3 ≤ (μ.1 5 (Int32.toNatClampNeg x4)) then (f_X5_moveTurn_9 x3 x2 n (x4 + 1) μ) else (if inb x4 8 = true then (if (μ.1 5 (Int32.toNatClampNeg x4)) < x2 then (f_X5_moveTurn_9 x3 x2 n (x4 + 1) μ) else (if inb x4 8 = true then (if inb x4 8 = true then (lt (wI μ 5 (Int32.toNatClampNeg x4) ((μ.1 5 (Int32.toNatClampNeg x4)) + 1)) fun μ10 => (f_X5_moveTurn_9 x3 x2 n (x4 + 1) μ10)) else none) else none)) else none)) else none) else (if inb x4 8 = true then (if inb x4 8 = true then (lt (wI μ 5 (Int32.toNatClampNeg x4) ((μ.1 5 (Int32.toNatClampNeg x4)) - 1)) fun μ11 => (f_X5_moveTurn_9 x3 x2 n (x4 + 1) μ11)) else none) else none)) else none)) else none))
set_option maxRecDepth 100000 in
def f_X5_moveTurn (p1 : Int32) (p2 : Int32) (μ : OM) : Option (OM) := ((f_X5_turnOf p1 μ).bind fun r1 => ((f_X5_moveTurn_9 r1 p2 FU 0 μ).bind fun μ12 => ((f_X5_hasSeller p1 μ12).bind fun r13 => (if r13 = 0 then (some μ12) else (if inb p1 8 = true then (lt (wI μ12 5 (Int32.toNatClampNeg p1) p2) fun μ15 => (some μ15)) else none)))))
set_option maxRecDepth 100000 in
def f_X5_wishLast (p1 : Int32) (p2 : Int32) (μ : OM) : Option (OM) := ((f_X5_wishesOf p1 μ).bind fun r1 => ((f_X5_hasSeller p1 μ).bind fun r2 => (if r2 = 0 then (some μ) else (if 8 ≤ r1 then (some μ) else (if inb ((p1 * 8) + r1) 64 = true then (lt (wI μ 7 (Int32.toNatClampNeg ((p1 * 8) + r1)) p2) fun μ5 => (if inb p1 8 = true then (lt (wI μ5 6 (Int32.toNatClampNeg p1) (r1 + 1)) fun μ6 => (some μ6)) else none)) else none)))))
set_option maxRecDepth 100000 in
def f_X5_dropWish_34 (x4 : Int32) (x1 : Int32) : Nat → Int32 → OM → Option (OM)
  | 0, _, _ => none
  | n + 1, x5, μ => (if x4 ≤ x5 then (if inb x1 8 = true then (lt (wI μ 6 (Int32.toNatClampNeg x1) x4) fun μ7 => (some μ7)) else none) else (lt (((x1 * 8) + x5)) fun i8 => (if inb (i8 + 1) 64 = true then (if inb i8 64 = true then (lt (wI μ 7 (Int32.toNatClampNeg i8) (μ.1 7 (Int32.toNatClampNeg (i8 + 1)))) fun μ9 => (f_X5_dropWish_34 x4 x1 n (x5 + 1) μ9)) else none) else none)))
set_option maxRecDepth 100000 in
def f_X5_dropWish (p1 : Int32) (p2 : Int32) (μ : OM) : Option (OM) := ((f_X5_rankIn p1 p2 μ).bind fun r1 => ((f_X5_hasSeller p1 μ).bind fun r2 => (if r2 = 0 then (some μ) else (if r1 = (-1) then (some μ) else (if inb p1 8 = true then (lt (((μ.1 6 (Int32.toNatClampNeg p1)) - 1)) fun i5 => (f_X5_dropWish_34 i5 p1 FU r1 μ)) else none)))))
set_option maxRecDepth 100000 in
def f_X5_wishFirst_30 (x1 : Int32) : Nat → Int32 → OM → Option (OM)
  | 0, _, _ => none
  | n + 1, x4, μ => (if x4 ≤ 0 then (some μ) else (lt (((x1 * 8) + x4)) fun i7 => (if inb (i7 - 1) 64 = true then (if inb i7 64 = true then (lt (wI μ 7 (Int32.toNatClampNeg i7) (μ.1 7 (Int32.toNatClampNeg (i7 - 1)))) fun μ8 => (f_X5_wishFirst_30 x1 n (x4 + (-1)) μ8)) else none) else none)))
set_option maxRecDepth 100000 in
def f_X5_wishFirst (p1 : Int32) (p2 : Int32) (μ : OM) : Option (OM) := ((f_X5_dropWish p1 p2 μ).bind fun μ1 => ((f_X5_wishesOf p1 μ1).bind fun r2 => ((f_X5_hasSeller p1 μ1).bind fun r3 => (if r3 = 0 then (some μ1) else (if r2 < 8 then ((f_X5_wishFirst_30 p1 FU r2 μ1).bind fun μ9 => (if inb (p1 * 8) 64 = true then (lt (wI μ9 7 (Int32.toNatClampNeg (p1 * 8)) p2) fun μ10 => (if inb p1 8 = true then (lt (wI μ10 6 (Int32.toNatClampNeg p1) (r2 + 1)) fun μ11 => (some μ11)) else none)) else none)) else (some μ1))))))
set_option maxRecDepth 100000 in
def f_X5_price (p1 : Int32) (p2 : Int32) (μ : OM) : Option (OM) := ((f_X5_hasStall p1 μ).bind fun r1 => (if r1 = 0 then (some μ) else (if inb p1 8 = true then (lt (wI μ 9 (Int32.toNatClampNeg p1) p2) fun μ3 => (some μ3)) else none)))
set_option maxRecDepth 100000 in
def f_X5_receive (p1 : Int32) (p2 : Int32) (μ : OM) : Option (OM) := ((f_X5_hasSeller p1 μ).bind fun r1 => (if r1 = 0 then (some μ) else (if inb p1 8 = true then (if inb p1 8 = true then (lt (wI μ 2 (Int32.toNatClampNeg p1) ((μ.1 2 (Int32.toNatClampNeg p1)) + p2)) fun μ3 => (lt (wI μ3 0 8 ((μ3.1 0 8) + p2)) fun μ4 => (some μ4))) else none) else none)))
set_option maxRecDepth 100000 in
def f_X5_mayPass (p1 : Int32) (μ : OM) : Option (Int32) := (if (9999 - (μ.1 0 2)) < p1 then (some 0) else (some 1))
set_option maxRecDepth 100000 in
def f_X5_chargeOrEvict (p1 : Int32) (μ : OM) : Option (OM) := ((f_X5_heldBy p1 μ).bind fun r1 => ((f_X5_hasSeller p1 μ).bind fun r2 => (if r2 = 0 then (some μ) else (if r1 = (-1) then (some μ) else ((f_X5_priceOf r1 μ).bind fun r5 => (if inb p1 8 = true then (if (μ.1 2 (Int32.toNatClampNeg p1)) < r5 then (if inb p1 8 = true then (lt (wI μ 4 (Int32.toNatClampNeg p1) (-1)) fun μ7 => (lt (wI μ7 0 4 ((μ7.1 0 4) + 1)) fun μ8 => (some μ8))) else none) else (if inb p1 8 = true then (if inb p1 8 = true then (lt (wI μ 2 (Int32.toNatClampNeg p1) ((μ.1 2 (Int32.toNatClampNeg p1)) - r5)) fun μ9 => (lt (wI μ9 0 3 ((μ9.1 0 3) + r5)) fun μ10 => (some μ10))) else none) else none)) else none))))))
set_option maxRecDepth 100000 in
def f_X5_pass_19  : Nat → Int32 → OM → Option (OM)
  | 0, _, _ => none
  | n + 1, x3, μ => (if (μ.1 0 0) ≤ x3 then (some μ) else (if inb x3 8 = true then ((f_X5_receive x3 (μ.1 3 (Int32.toNatClampNeg x3)) μ).bind fun μ4 => (f_X5_pass_19  n (x3 + 1) μ4)) else none))
set_option maxRecDepth 100000 in
def f_X5_pass_46  : Nat → Int32 → OM → Option (OM)
  | 0, _, _ => none
  | n + 1, x3, μ => (if (μ.1 0 0) ≤ x3 then (some μ) else ((f_X5_chargeOrEvict x3 μ).bind fun μ7 => (f_X5_pass_46  n (x3 + 1) μ7)))
set_option maxRecDepth 100000 in
def f_X5_pass_2 (x1 : Int32) : Nat → Int32 → OM → Option (OM)
  | 0, _, _ => none
  | n + 1, x2, μ => (if x1 ≤ x2 then (some μ) else (lt (wI μ 0 2 ((μ.1 0 2) + 1)) fun μ2 => ((f_X5_pass_19  FU 0 μ2).bind fun μ5 => ((f_X5_pass_46  FU 0 μ5).bind fun μ8 => (f_X5_pass_2 x1 n (x2 + 1) μ8)))))
set_option maxRecDepth 100000 in
def f_X5_pass (p1 : Int32) (μ : OM) : Option (OM) := (f_X5_pass_2 p1 FU 0 μ)
set_option maxRecDepth 100000 in
def f_X10_isLetter (p0 : Int32)  : Option (Int32) := (if p0 < 97 then (some 0) else (if 122 < p0 then (some 0) else (some 1)))
set_option maxRecDepth 100000 in
def f_X10_readWord_5 (β : OM) : Nat → OM → Option (OM)
  | 0, _ => none
  | n + 1, τ => (if (β.1 0 1) ≤ (τ.1 0 3) then (some τ) else ((f_X2_byteAt (τ.1 0 3) β).bind fun r3 => ((f_X10_isLetter r3).bind fun r4 => (if r4 = 0 then (some τ) else (if 6 ≤ ((τ.1 0 3) - (τ.1 0 2)) then (lt (wJ τ 0 5 0) fun τ7 => (lt (wI τ7 0 3 ((τ7.1 0 3) + 1)) fun τ8 => (f_X10_readWord_5 β n τ8))) else ((f_X2_byteAt (τ.1 0 3) β).bind fun r9 => (lt (wJ τ 0 5 (((τ.2.1 0 5) <<< ((Int32.toInt64 8) &&& 63)) ||| (Int32.toInt64 r9))) fun τ10 => (lt (wI τ10 0 3 ((τ10.1 0 3) + 1)) fun τ11 => (f_X10_readWord_5 β n τ11)))))))))
set_option maxRecDepth 100000 in
def f_X10_readWord  (τ : OM) (β : OM) : Option (OM) := (lt (wI τ 0 1 1) fun τ1 => (f_X10_readWord_5 β FU τ1))
set_option maxRecDepth 100000 in
def f_X10_isDigit (p0 : Int32)  : Option (Int32) := (if p0 < 48 then (some 0) else (if 57 < p0 then (some 0) else (some 1)))
set_option maxRecDepth 100000 in
def f_X10_readNumber_5 (β : OM) : Nat → OM → Option (OM)
  | 0, _ => none
  | n + 1, τ => (if (β.1 0 1) ≤ (τ.1 0 3) then (some τ) else ((f_X2_byteAt (τ.1 0 3) β).bind fun r3 => ((f_X10_isDigit r3).bind fun r4 => (if r4 = 0 then (some τ) else (if 10000 ≤ (τ.1 0 4) then (lt (wI τ 0 3 ((τ.1 0 3) + 1)) fun τ7 => (f_X10_readNumber_5 β n τ7)) else ((f_X2_byteAt (τ.1 0 3) β).bind fun r8 => (lt (wI τ 0 4 (((10 * (τ.1 0 4)) + r8) - 48)) fun τ9 => (lt (wI τ9 0 3 ((τ9.1 0 3) + 1)) fun τ10 => (f_X10_readNumber_5 β n τ10)))))))))
set_option maxRecDepth 100000 in
def f_X10_readNumber  (τ : OM) (β : OM) : Option (OM) := (lt (wI τ 0 1 2) fun τ1 => (f_X10_readNumber_5 β FU τ1))
set_option maxRecDepth 100000 in
def f_X10_next_8 (β : OM) : Nat → OM → Option (OM)
  | 0, _ => none
  | n + 1, τ => (if (β.1 0 1) ≤ (τ.1 0 2) then (some τ) else ((f_X2_byteAt (τ.1 0 2) β).bind fun r3 => (if r3 = 32 then (lt (wI τ 0 2 ((τ.1 0 2) + 1)) fun τ5 => (f_X10_next_8 β n τ5)) else (some τ))))
set_option maxRecDepth 100000 in
def f_X10_next  (τ : OM) (β : OM) : Option (OM) := (lt (wI τ 0 2 (τ.1 0 3)) fun τ1 => ((f_X10_next_8 β FU τ1).bind fun τ6 => (lt (wI τ6 0 3 (τ6.1 0 2)) fun τ7 => (lt (wI τ7 0 4 0) fun τ8 => (lt (wJ τ8 0 5 0) fun τ9 => ((f_X2_byteAt (τ9.1 0 2) β).bind fun r10 => (if r10 = (-1) then (lt (wI τ9 0 1 0) fun τ23 => (some τ23)) else ((f_X10_isLetter r10).bind fun r12 => (if r12 = 0 then ((f_X10_isDigit r10).bind fun r14 => (if r14 = 0 then (if r10 = 59 then (lt (wI τ9 0 1 3) fun τ19 => (lt (wI τ19 0 3 ((τ19.1 0 2) + 1)) fun τ20 => (some τ20))) else (lt (wI τ9 0 1 4) fun τ17 => (lt (wI τ17 0 3 ((τ17.1 0 2) + 1)) fun τ18 => (some τ18)))) else ((f_X10_readNumber τ9 β).bind fun τ21 => (some τ21)))) else ((f_X10_readWord τ9 β).bind fun τ22 => (some τ22)))))))))))
set_option maxRecDepth 100000 in
def f_X10_rewind  (τ : OM) (β : OM) : Option (OM) := (lt (wI τ 0 3 0) fun τ1 => ((f_X10_next τ1 β).bind fun τ2 => (some τ2)))
set_option maxRecDepth 100000 in
def f_X7_begin  (π : OM) (τ : OM) (β : OM) : Option (OM × OM) := (lt (wI π 0 1 0) fun π1 => (lt (wI π1 0 2 (-1)) fun π2 => ((f_X10_rewind τ β).bind fun τ3 => (some (π2, τ3)))))
set_option maxRecDepth 100000 in
def f_X7_fail (p1 : Int32) (π : OM) (τ : OM) : Option (Int32 × OM) := (lt (wI π 0 1 p1) fun π1 => (lt (wI π1 0 2 (τ.1 0 2)) fun π2 => (some (0, π2))))
set_option maxRecDepth 100000 in
def f_J0_coder_7d493 (w0 : Nat)  : Option (Int32) := (if w0 < 12 then (some 0) else none)
set_option maxRecDepth 100000 in
def f_J0_length_8abf5 (w0 : Nat)  : Option (Int32) := (if w0 < 12 then (if w0 < 12 then ((f_J0_coder_7d493 w0).bind fun r1 => (some ((nI (lens.getD w0 0)) >>> (r1 &&& 31)))) else none) else none)
set_option maxRecDepth 100000 in
def f_J0_isLatin1_aae02 (w0 : Nat)  : Option (Int32) := (if w0 < 12 then (some 1) else none)
set_option maxRecDepth 100000 in
def f_J3_checkIndex_8e157 (p0 : Int32) (p1 : Int32)  : Option (Int32) := (if p0 < 0 then none else (if p0 < p1 then (some p0) else none))
set_option maxRecDepth 100000 in
def f_J0_checkIndex_df160 (p0 : Int32) (p1 : Int32)  : Option (Unit) := ((f_J3_checkIndex_8e157 p0 p1).bind fun r2 => (some ()))
set_option maxRecDepth 100000 in
def f_J1_charAt_3b067 (w0 : Nat) (p1 : Int32)  : Option (Int32) := (if w0 < 12 then ((f_J0_checkIndex_df160 p1 (nI (lens.getD w0 0))).bind fun _ => (if w0 < 12 then (if inb p1 (lens.getD w0 0) = true then (if cz (((Int32.toUInt32 (((byts.getD w0 []).getD (Int32.toNatClampNeg p1) 0) &&& 255)) % 65536).toInt32) = true then some (((Int32.toUInt32 (((byts.getD w0 []).getD (Int32.toNatClampNeg p1) 0) &&& 255)) % 65536).toInt32) else none) else none) else none)) else none)
set_option maxRecDepth 100000 in
def f_J0_charAt_5068e (w0 : Nat) (p1 : Int32)  : Option (Int32) := ((f_J0_isLatin1_aae02 w0).bind fun r1 => (if r1 = 0 then none else (if w0 < 12 then ((f_J1_charAt_3b067 w0 p1).bind fun r3 => (if cz r3 = true then some r3 else none)) else none)))
set_option maxRecDepth 100000 in
def f_X10_isWord_28 (w1 : Nat) (τ : OM) (β : OM) : Nat → Int32 → Option (Int32)
  | 0, _ => none
  | n + 1, x2 => ((f_J0_length_8abf5 w1).bind fun r4 => (if r4 ≤ x2 then (some 1) else ((f_X2_byteAt ((τ.1 0 2) + x2) β).bind fun r6 => ((f_J0_charAt_5068e w1 x2).bind fun r7 => (if r6 = r7 then (f_X10_isWord_28 w1 τ β n (x2 + 1)) else (some 0))))))
set_option maxRecDepth 100000 in
def f_X10_isWord (w1 : Nat) (τ : OM) (β : OM) : Option (Int32) := (if (τ.1 0 1) = 1 then ((f_J0_length_8abf5 w1).bind fun r2 => (if ((τ.1 0 3) - (τ.1 0 2)) = r2 then (f_X10_isWord_28 w1 τ β FU 0) else (some 0))) else (some 0))
set_option maxRecDepth 100000 in
def f_X7_takeWord (w1 : Nat) (π : OM) (τ : OM) (β : OM) : Option (Int32 × OM × OM) := ((f_X10_isWord w1 τ β).bind fun r1 => (if r1 = 0 then (o2 (f_X7_fail 1 π τ) fun r4 π5 => (if bz r4 = true then some (r4, π5, τ) else none)) else ((f_X10_next τ β).bind fun τ3 => (some (1, π, τ3)))))
set_option maxRecDepth 100000 in
def f_X7_takeSemicolon  (π : OM) (τ : OM) (β : OM) : Option (Int32 × OM × OM) := (if (τ.1 0 1) = 3 then ((f_X10_next τ β).bind fun τ2 => (some (1, π, τ2))) else (o2 (f_X7_fail 1 π τ) fun r3 π4 => (if bz r3 = true then some (r3, π4, τ) else none)))
set_option maxRecDepth 100000 in
def f_X7_takeNumber (p1 : Int32) (p2 : Int32) (π : OM) (τ : OM) (β : OM) : Option (Int32 × OM × OM) := (lt ((τ.1 0 4)) fun i1 => (if (τ.1 0 1) = 2 then (if i1 < p1 then (o2 (f_X7_fail 2 π τ) fun r4 π5 => (some ((-1), π5, τ))) else (if i1 ≤ p2 then ((f_X10_next τ β).bind fun τ7 => (some (i1, π, τ7))) else (o2 (f_X7_fail 2 π τ) fun r8 π9 => (some ((-1), π9, τ))))) else (o2 (f_X7_fail 1 π τ) fun r10 π11 => (some ((-1), π11, τ)))))
set_option maxRecDepth 100000 in
def f_X7_seeStall  (μ : OM) (π : OM) (τ : OM) (β : OM) : Option (Int32 × OM) := (if (τ.1 0 1) = 1 then ((f_X10_isWord 5 τ β).bind fun r4 => (if r4 = 0 then ((f_X5_stallCalled (τ.2.1 0 5) μ).bind fun r6 => (if r6 = (-1) then (o2 (f_X7_fail 3 π τ) fun r8 π9 => (some (r6, π9))) else (some (r6, π)))) else (o2 (f_X7_fail 1 π τ) fun r10 π11 => (some ((-1), π11))))) else (o2 (f_X7_fail 1 π τ) fun r2 π3 => (some ((-1), π3))))
set_option maxRecDepth 100000 in
def f_X9_takeNewName (p1 : Int32) (π : OM) (τ : OM) (β : OM) : Option (Int32 × OM × OM) := (if (τ.1 0 1) = 1 then (if p1 = 0 then (if (lg_cmp (τ.2.1 0 5) 0) = 0 then (o2 (f_X7_fail 3 π τ) fun r7 π8 => (if bz r7 = true then some (r7, π8, τ) else none)) else ((f_X10_next τ β).bind fun τ6 => (some (1, π, τ6)))) else (o2 (f_X7_fail 3 π τ) fun r3 π4 => (if bz r3 = true then some (r3, π4, τ) else none))) else (o2 (f_X7_fail 1 π τ) fun r9 π10 => (if bz r9 = true then some (r9, π10, τ) else none)))
set_option maxRecDepth 100000 in
def f_X9_readStall  (μ : OM) (π : OM) (τ : OM) (β : OM) : Option (Int32 × OM × OM × OM) := (o3 (f_X7_takeWord 2 π τ β) fun r1 π2 τ3 => (if r1 = 0 then (some (0, μ, π2, τ3)) else (lt ((τ3.2.1 0 5)) fun i5 => ((f_X10_isWord 3 τ3 β).bind fun r6 => (if r6 = 0 then ((f_X5_stallCalled i5 μ).bind fun r20 => (if r20 = (-1) then (o3 (f_X9_takeNewName 0 π2 τ3 β) fun r22 π23 τ24 => (if r22 = 0 then (some (0, μ, π23, τ24)) else (o3 (f_X7_takeNumber 0 99 π23 τ24 β) fun r26 π27 τ28 => (if r26 = (-1) then (some (0, μ, π27, τ28)) else ((f_X5_addStall i5 r26 μ).bind fun μ30 => (o3 (f_X7_takeSemicolon π27 τ28 β) fun r31 π32 τ33 => (if bz r31 = true then some (r31, μ30, π32, τ33) else none))))))) else (o3 (f_X9_takeNewName 1 π2 τ3 β) fun r34 π35 τ36 => (if r34 = 0 then (some (0, μ, π35, τ36)) else (o3 (f_X7_takeNumber 0 99 π35 τ36 β) fun r38 π39 τ40 => (if r38 = (-1) then (some (0, μ, π39, τ40)) else ((f_X5_addStall i5 r38 μ).bind fun μ42 => (o3 (f_X7_takeSemicolon π39 τ40 β) fun r43 π44 τ45 => (if bz r43 = true then some (r43, μ42, π44, τ45) else none))))))))) else (o3 (f_X9_takeNewName 1 π2 τ3 β) fun r8 π9 τ10 => (if r8 = 0 then (some (0, μ, π9, τ10)) else (o3 (f_X7_takeNumber 0 99 π9 τ10 β) fun r12 π13 τ14 => (if r12 = (-1) then (some (0, μ, π13, τ14)) else ((f_X5_addStall i5 r12 μ).bind fun μ16 => (o3 (f_X7_takeSemicolon π13 τ14 β) fun r17 π18 τ19 => (if bz r17 = true then some (r17, μ16, π18, τ19) else none))))))))))))
set_option maxRecDepth 100000 in
def f_X9_readStalls_2 (β : OM) : Nat → Int32 → OM → OM → OM → Option (Int32 × OM × OM × OM)
  | 0, _, _, _, _ => none
  | n + 1, x2, μ, π, τ => (if 8 ≤ x2 then ((f_X10_isWord 2 τ β).bind fun r2 => (if r2 = 0 then (some (1, μ, π, τ)) else (o2 (f_X7_fail 5 π τ) fun r4 π5 => (if r4 = 0 then (some (0, μ, π5, τ)) else (some (1, μ, π5, τ)))))) else (if x2 ≤ 0 then (o4 (f_X9_readStall μ π τ β) fun r8 μ9 π10 τ11 => (if r8 = 0 then (some (0, μ9, π10, τ11)) else (f_X9_readStalls_2 β n (x2 + 1) μ9 π10 τ11))) else ((f_X10_isWord 2 τ β).bind fun r13 => (if r13 = 0 then (some (1, μ, π, τ)) else (o4 (f_X9_readStall μ π τ β) fun r15 μ16 π17 τ18 => (if r15 = 0 then (some (0, μ16, π17, τ18)) else (f_X9_readStalls_2 β n (x2 + 1) μ16 π17 τ18)))))))
set_option maxRecDepth 100000 in
def f_X9_readStalls  (μ : OM) (π : OM) (τ : OM) (β : OM) : Option (Int32 × OM × OM × OM) := (f_X9_readStalls_2 β FU 0 μ π τ)
set_option maxRecDepth 100000 in
def f_X9_readWishes_2 (x2 : Int32) (β : OM) : Nat → Int32 → OM → OM → OM → Option (Int32 × OM × OM × OM)
  | 0, _, _, _, _ => none
  | n + 1, x3, μ, π, τ => (if 8 < x3 then (some (1, μ, π, τ)) else (if (τ.1 0 1) = 1 then ((f_X10_isWord 3 τ β).bind fun r3 => (if r3 = 0 then (o2 (f_X7_seeStall μ π τ β) fun r5 π6 => (if r5 = (-1) then (some (0, μ, π6, τ)) else ((f_X5_rankIn x2 r5 μ).bind fun r8 => (if r8 = (-1) then ((f_X5_wishLast x2 r5 μ).bind fun μ10 => ((f_X10_next τ β).bind fun τ11 => (f_X9_readWishes_2 x2 β n (x3 + 1) μ10 π6 τ11))) else (o2 (f_X7_fail 4 π6 τ) fun r12 π13 => (if bz r12 = true then some (r12, μ, π13, τ) else none)))))) else (some (1, μ, π, τ)))) else (some (1, μ, π, τ))))
set_option maxRecDepth 100000 in
def f_X9_readWishes (p2 : Int32) (μ : OM) (π : OM) (τ : OM) (β : OM) : Option (Int32 × OM × OM × OM) := (f_X9_readWishes_2 p2 β FU 0 μ π τ)
set_option maxRecDepth 100000 in
def f_X9_readPlace (p2 : Int32) (μ : OM) (π : OM) (τ : OM) (β : OM) : Option (Int32 × OM × OM × OM) := ((f_X10_isWord 3 τ β).bind fun r1 => (if r1 = 0 then (some (1, μ, π, τ)) else ((f_X10_next τ β).bind fun τ3 => (o2 (f_X7_seeStall μ π τ3 β) fun r4 π5 => (if r4 = (-1) then (some (0, μ, π5, τ3)) else ((f_X5_holderOf r4 μ).bind fun r7 => (if r7 = (-1) then ((f_X5_seat p2 r4 μ).bind fun μ9 => ((f_X10_next τ3 β).bind fun τ10 => (some (1, μ9, π5, τ10)))) else (o2 (f_X7_fail 4 π5 τ3) fun r11 π12 => (if bz r11 = true then some (r11, μ, π12, τ3) else none)))))))))
set_option maxRecDepth 100000 in
def f_X9_readSeller  (μ : OM) (π : OM) (τ : OM) (β : OM) : Option (Int32 × OM × OM × OM) := (o3 (f_X7_takeWord 4 π τ β) fun r1 π2 τ3 => (if r1 = 0 then (some (0, μ, π2, τ3)) else (lt ((τ3.2.1 0 5)) fun i5 => ((f_X5_sellerCalled i5 μ).bind fun r6 => (if r6 = (-1) then (o3 (f_X9_takeNewName 0 π2 τ3 β) fun r8 π9 τ10 => (if r8 = 0 then (some (0, μ, π9, τ10)) else (o3 (f_X7_takeNumber 0 9999 π9 τ10 β) fun r12 π13 τ14 => (if r12 = (-1) then (some (0, μ, π13, τ14)) else (o3 (f_X7_takeNumber 0 99 π13 τ14 β) fun r16 π17 τ18 => (if r16 = (-1) then (some (0, μ, π17, τ18)) else (lt ((μ.1 0 0)) fun i20 => ((f_X5_addSeller i5 r12 r16 μ).bind fun μ21 => (o4 (f_X9_readWishes i20 μ21 π17 τ18 β) fun r22 μ23 π24 τ25 => (if r22 = 0 then (some (0, μ23, π24, τ25)) else (o4 (f_X9_readPlace i20 μ23 π24 τ25 β) fun r27 μ28 π29 τ30 => (if r27 = 0 then (some (0, μ28, π29, τ30)) else (o3 (f_X7_takeSemicolon π29 τ30 β) fun r32 π33 τ34 => (if r32 = 0 then (some (0, μ28, π33, τ34)) else (some (1, μ28, π33, τ34)))))))))))))))) else (o3 (f_X9_takeNewName 1 π2 τ3 β) fun r36 π37 τ38 => (if r36 = 0 then (some (0, μ, π37, τ38)) else (o3 (f_X7_takeNumber 0 9999 π37 τ38 β) fun r40 π41 τ42 => (if r40 = (-1) then (some (0, μ, π41, τ42)) else (o3 (f_X7_takeNumber 0 99 π41 τ42 β) fun r44 π45 τ46 => (if r44 = (-1) then (some (0, μ, π45, τ46)) else (lt ((μ.1 0 0)) fun i48 => ((f_X5_addSeller i5 r40 r44 μ).bind fun μ49 => (o4 (f_X9_readWishes i48 μ49 π45 τ46 β) fun r50 μ51 π52 τ53 => (if r50 = 0 then (some (0, μ51, π52, τ53)) else (o4 (f_X9_readPlace i48 μ51 π52 τ53 β) fun r55 μ56 π57 τ58 => (if r55 = 0 then (some (0, μ56, π57, τ58)) else (o3 (f_X7_takeSemicolon π57 τ58 β) fun r60 π61 τ62 => (if r60 = 0 then (some (0, μ56, π61, τ62)) else (some (1, μ56, π61, τ62)))))))))))))))))))))
set_option maxRecDepth 100000 in
def f_X9_readSellers_2 (β : OM) : Nat → Int32 → OM → OM → OM → Option (Int32 × OM × OM × OM)
  | 0, _, _, _, _ => none
  | n + 1, x2, μ, π, τ => (if 8 ≤ x2 then (if (τ.1 0 1) = 0 then (some (1, μ, π, τ)) else ((f_X10_isWord 4 τ β).bind fun r3 => (if r3 = 0 then (o2 (f_X7_fail 1 π τ) fun r5 π6 => (if bz r5 = true then some (r5, μ, π6, τ) else none)) else (o2 (f_X7_fail 5 π τ) fun r7 π8 => (if bz r7 = true then some (r7, μ, π8, τ) else none))))) else (if x2 ≤ 0 then (o4 (f_X9_readSeller μ π τ β) fun r10 μ11 π12 τ13 => (if r10 = 0 then (some (0, μ11, π12, τ13)) else (f_X9_readSellers_2 β n (x2 + 1) μ11 π12 τ13))) else (if (τ.1 0 1) = 0 then (some (1, μ, π, τ)) else (o4 (f_X9_readSeller μ π τ β) fun r16 μ17 π18 τ19 => (if r16 = 0 then (some (0, μ17, π18, τ19)) else (f_X9_readSellers_2 β n (x2 + 1) μ17 π18 τ19))))))
set_option maxRecDepth 100000 in
def f_X9_readSellers  (μ : OM) (π : OM) (τ : OM) (β : OM) : Option (Int32 × OM × OM × OM) := (f_X9_readSellers_2 β FU 0 μ π τ)
set_option maxRecDepth 100000 in
def f_X9_read  (μ : OM) (π : OM) (τ : OM) (β : OM) : Option (Int32 × OM × OM × OM) := ((f_X5_clear μ).bind fun μ1 => (o2 (f_X7_begin π τ β) fun π2 τ3 => (o3 (f_X7_takeWord 1 π2 τ3 β) fun r4 π5 τ6 => (if r4 = 0 then (some (0, μ1, π5, τ6)) else (o3 (f_X7_takeSemicolon π5 τ6 β) fun r8 π9 τ10 => (if r8 = 0 then (some (0, μ1, π9, τ10)) else (o4 (f_X9_readStalls μ1 π9 τ10 β) fun r12 μ13 π14 τ15 => (if r12 = 0 then (some (0, μ13, π14, τ15)) else (o4 (f_X9_readSellers μ13 π14 τ15 β) fun r17 μ18 π19 τ20 => (if r17 = 0 then (some (0, μ18, π19, τ20)) else (some (1, μ18, π19, τ20))))))))))))
set_option maxRecDepth 100000 in
def f_X12_appendInput (p1 : Int32) (p2 : Int32) (p3 : Int32) (p4 : Int32) (p5 : Int32) (σ : SM) : Option (Int32 × SM) := (if ((σ 13).1 0 1) ≤ 680 then ((f_X2_addWord p1 (σ 13)).bind fun m2 => (lt (us σ 13 m2) fun σ3 => ((f_X2_addWord p2 (σ3 13)).bind fun m4 => (lt (us σ3 13 m4) fun σ5 => ((f_X2_addWord p3 (σ5 13)).bind fun m6 => (lt (us σ5 13 m6) fun σ7 => ((f_X2_addWord p4 (σ7 13)).bind fun m8 => (lt (us σ7 13 m8) fun σ9 => ((f_X2_addWord p5 (σ9 13)).bind fun m10 => (lt (us σ9 13 m10) fun σ11 => (some (((σ11 13).1 0 1), σ11)))))))))))) else none)
set_option maxRecDepth 100000 in
def f_X12_loadSetup  (σ : SM) : Option (Int32 × SM) := (o4 (f_X9_read (σ 1) (σ 11) (σ 12) (σ 13)) fun r1 m2 m3 m4 => (lt (us (us (us σ 1 m2) 11 m3) 12 m4) fun σ5 => ((f_X2_cut 0 (σ5 13)).bind fun m6 => (lt (us σ5 13 m6) fun σ7 => (if r1 = 0 then (some ((-1), σ7)) else ((f_X5_copy (σ7 1) (σ7 0)).bind fun m9 => (lt (us σ7 0 m9) fun σ10 => ((f_X4_clear σ10).bind fun σ11 => (some (((σ11 0).1 0 0), σ11))))))))))
set_option maxRecDepth 100000 in
def f_X12_sellerCount  (σ : SM) : Option (Int32) := (some ((σ 0).1 0 0))
set_option maxRecDepth 100000 in
def f_X12_stallCount  (σ : SM) : Option (Int32) := (some ((σ 0).1 0 1))
set_option maxRecDepth 100000 in
def f_X12_day  (σ : SM) : Option (Int32) := (some ((σ 0).1 0 2))
set_option maxRecDepth 100000 in
def f_X12_requireSeller (p1 : Int32) (σ : SM) : Option (Unit) := (if p1 < 0 then none else (if p1 < ((σ 0).1 0 0) then (some ()) else none))
set_option maxRecDepth 100000 in
def f_X12_balance (p1 : Int32) (σ : SM) : Option (Int32) := ((f_X12_requireSeller p1 σ).bind fun _ => ((f_X5_coinsOf p1 (σ 0)).bind fun r1 => (some r1)))
set_option maxRecDepth 100000 in
def f_X12_requireStall (p1 : Int32) (σ : SM) : Option (Unit) := (if p1 < 0 then none else (if p1 < ((σ 0).1 0 1) then (some ()) else none))
set_option maxRecDepth 100000 in
def f_X12_rent (p1 : Int32) (σ : SM) : Option (Int32) := ((f_X12_requireStall p1 σ).bind fun _ => ((f_X5_priceOf p1 (σ 0)).bind fun r1 => (some r1)))
set_option maxRecDepth 100000 in
def f_X12_stallOf (p1 : Int32) (σ : SM) : Option (Int32) := ((f_X12_requireSeller p1 σ).bind fun _ => ((f_X5_heldBy p1 (σ 0)).bind fun r1 => (some r1)))
set_option maxRecDepth 100000 in
def f_X12_occupantOf (p1 : Int32) (σ : SM) : Option (Int32) := ((f_X12_requireStall p1 σ).bind fun _ => ((f_X5_holderOf p1 (σ 0)).bind fun r1 => (some r1)))
set_option maxRecDepth 100000 in
def f_X12_priorityOf (p1 : Int32) (σ : SM) : Option (Int32) := ((f_X12_requireSeller p1 σ).bind fun _ => ((f_X5_turnOf p1 (σ 0)).bind fun r1 => (some r1)))
set_option maxRecDepth 100000 in
def f_X12_preferenceCount (p1 : Int32) (σ : SM) : Option (Int32) := ((f_X12_requireSeller p1 σ).bind fun _ => ((f_X5_wishesOf p1 (σ 0)).bind fun r1 => (some r1)))
set_option maxRecDepth 100000 in
def f_X12_preferenceAt (p1 : Int32) (p2 : Int32) (σ : SM) : Option (Int32) := ((f_X12_requireSeller p1 σ).bind fun _ => (if p2 < 0 then none else ((f_X5_wishesOf p1 (σ 0)).bind fun r2 => (if p2 < r2 then ((f_X5_wish p1 p2 (σ 0)).bind fun r4 => (some r4)) else none))))
set_option maxRecDepth 100000 in
def f_X12_isEfficient  (σ : SM) : Option (Int32) := ((f_X3_canImprove (σ 0)).bind fun r1 => (if r1 = 0 then (some 1) else (some 0)))
set_option maxRecDepth 100000 in
def f_X12_allocatedStall (p1 : Int32) (σ : SM) : Option (Int32 × SM) := ((f_X12_requireSeller p1 σ).bind fun _ => ((f_X1_decide (σ 0) (σ 17)).bind fun m1 => (lt (us σ 17 m1) fun σ2 => ((f_X1_givenTo p1 (σ2 17)).bind fun r3 => (some (r3, σ2))))))
set_option maxRecDepth 100000 in
def f_X12_ledgerDifference_4 (σ : SM) : Nat → Int32 → Int32 → Option (Int32)
  | 0, _, _ => none
  | n + 1, x2, x1 => (if ((σ 0).1 0 0) ≤ x2 then (some x1) else ((f_X5_coinsOf x2 (σ 0)).bind fun r2 => (lt ((x1 + r2)) fun i3 => (f_X12_ledgerDifference_4 σ n (x2 + 1) i3))))
set_option maxRecDepth 100000 in
def f_X12_ledgerDifference  (σ : SM) : Option (Int32) := ((f_X12_ledgerDifference_4 σ FU 0 0).bind fun i4 => (some (((i4 - ((σ 0).1 0 7)) - ((σ 0).1 0 8)) + ((σ 0).1 0 3))))
set_option maxRecDepth 100000 in
def f_X12_assign (p1 : Int32) (p2 : Int32) (σ : SM) : Option (Int32 × SM) := ((f_X12_requireSeller p1 σ).bind fun _ => ((f_X12_requireStall p2 σ).bind fun _ => ((f_X5_mayMoveInto p1 p2 (σ 0)).bind fun r1 => (if r1 = 0 then none else ((f_X4_record σ).bind fun σ3 => ((f_X5_heldBy p1 (σ3 0)).bind fun r4 => ((f_X5_seat p1 p2 (σ3 0)).bind fun m5 => (lt (us σ3 0 m5) fun σ6 => (some (r4, σ6))))))))))
set_option maxRecDepth 100000 in
def f_X12_vacate (p1 : Int32) (σ : SM) : Option (Int32 × SM) := ((f_X12_requireSeller p1 σ).bind fun _ => ((f_X5_heldBy p1 (σ 0)).bind fun r1 => (if r1 = (-1) then none else ((f_X4_record σ).bind fun σ3 => ((f_X5_seat p1 (-1) (σ3 0)).bind fun m4 => (lt (us σ3 0 m4) fun σ5 => (some (r1, σ5))))))))
set_option maxRecDepth 100000 in
def f_X12_swap (p1 : Int32) (p2 : Int32) (σ : SM) : Option (Int32 × SM) := ((f_X12_requireSeller p1 σ).bind fun _ => ((f_X12_requireSeller p2 σ).bind fun _ => ((f_X3_bothGain p1 p2 (σ 0)).bind fun r1 => (if r1 = 0 then none else ((f_X4_record σ).bind fun σ3 => ((f_X5_exchange p1 p2 (σ3 0)).bind fun m4 => (lt (us σ3 0 m4) fun σ5 => ((f_X5_heldBy p1 (σ5 0)).bind fun r6 => (some (r6, σ5))))))))))
set_option maxRecDepth 100000 in
def f_X12_reallocate  (σ : SM) : Option (Int32 × SM) := ((f_X4_record σ).bind fun σ1 => ((f_X1_decide (σ1 0) (σ1 17)).bind fun m2 => (lt (us σ1 17 m2) fun σ3 => (o2 (f_X1_applyTo (σ3 0) (σ3 17)) fun r4 m5 => (lt (us σ3 0 m5) fun σ6 => (some (r4, σ6)))))))
set_option maxRecDepth 100000 in
def f_X12_setPriority (p1 : Int32) (p2 : Int32) (σ : SM) : Option (Int32 × SM) := ((f_X12_requireSeller p1 σ).bind fun _ => (if p2 < 0 then none else (if p2 < ((σ 0).1 0 0) then ((f_X4_record σ).bind fun σ3 => ((f_X5_turnOf p1 (σ3 0)).bind fun r4 => ((f_X5_moveTurn p1 p2 (σ3 0)).bind fun m5 => (lt (us σ3 0 m5) fun σ6 => (some (r4, σ6)))))) else none)))
set_option maxRecDepth 100000 in
def f_X12_preferFirst (p1 : Int32) (p2 : Int32) (σ : SM) : Option (Int32 × SM) := ((f_X12_requireSeller p1 σ).bind fun _ => ((f_X12_requireStall p2 σ).bind fun _ => ((f_X4_record σ).bind fun σ1 => ((f_X5_wishFirst p1 p2 (σ1 0)).bind fun m2 => (lt (us σ1 0 m2) fun σ3 => ((f_X5_wishesOf p1 (σ3 0)).bind fun r4 => (some (r4, σ3))))))))
set_option maxRecDepth 100000 in
def f_X12_removePreference (p1 : Int32) (p2 : Int32) (σ : SM) : Option (Int32 × SM) := ((f_X12_requireSeller p1 σ).bind fun _ => ((f_X12_requireStall p2 σ).bind fun _ => ((f_X5_rankIn p1 p2 (σ 0)).bind fun r1 => (if r1 = (-1) then none else ((f_X4_record σ).bind fun σ3 => ((f_X5_dropWish p1 p2 (σ3 0)).bind fun m4 => (lt (us σ3 0 m4) fun σ5 => ((f_X5_wishesOf p1 (σ5 0)).bind fun r6 => (some (r6, σ5))))))))))
set_option maxRecDepth 100000 in
def f_X12_setRent (p1 : Int32) (p2 : Int32) (σ : SM) : Option (Int32 × SM) := ((f_X12_requireStall p1 σ).bind fun _ => (if p2 < 0 then none else (if p2 ≤ 99 then ((f_X4_record σ).bind fun σ3 => ((f_X5_priceOf p1 (σ3 0)).bind fun r4 => ((f_X5_price p1 p2 (σ3 0)).bind fun m5 => (lt (us σ3 0 m5) fun σ6 => (some (r4, σ6)))))) else none)))
set_option maxRecDepth 100000 in
def f_X12_advanceDays (p1 : Int32) (σ : SM) : Option (Int32 × SM) := (if p1 < 1 then none else (if p1 ≤ 99 then ((f_X5_mayPass p1 (σ 0)).bind fun r3 => (if r3 = 0 then none else ((f_X4_record σ).bind fun σ5 => (lt (((σ5 0).1 0 4)) fun i6 => ((f_X5_pass p1 (σ5 0)).bind fun m7 => (lt (us σ5 0 m7) fun σ8 => (some ((((σ8 0).1 0 4) - i6), σ8)))))))) else none))
set_option maxRecDepth 100000 in
def f_X12_undo  (σ : SM) : Option (Int32 × SM) := (o2 (f_X4_takeBack σ) fun r1 σ2 => (some (r1, σ2)))
set_option maxRecDepth 100000 in
def f_X13_draw (p1 : Int32) (ρ : OM) : Option (Int32 × OM) := (lt (wI ρ 0 12 (((ρ.1 0 12) * 1103515245) + 12345)) fun ρ1 => (if p1 = 0 then none else (some (((((ρ1.1 0 12).toUInt32 >>> (Int32.toUInt32 16 &&& Int32.toUInt32 31)).toInt32) - (((ρ1.1 0 12).toUInt32 >>> (Int32.toUInt32 16 &&& Int32.toUInt32 31)).toInt32) / p1 * p1), ρ1))))
set_option maxRecDepth 100000 in
def f_X13_put_2 (w1 : Nat) : Nat → Int32 → OM → Option (OM)
  | 0, _, _ => none
  | n + 1, x2, ρ => ((f_J0_length_8abf5 w1).bind fun r1 => (if r1 ≤ x2 then (some ρ) else (lt (wI ρ 0 13 ((ρ.1 0 13) + 1)) fun ρ3 => ((f_J0_charAt_5068e w1 x2).bind fun r4 => (if inb (ρ.1 0 13) 700 = true then (lt (wI ρ3 1 (Int32.toNatClampNeg (ρ.1 0 13)) (Int8.toInt32 (Int32.toInt8 r4))) fun ρ5 => (f_X13_put_2 w1 n (x2 + 1) ρ5)) else none)))))
set_option maxRecDepth 100000 in
def f_X13_put (w1 : Nat) (ρ : OM) : Option (OM) := (f_X13_put_2 w1 FU 0 ρ)
set_option maxRecDepth 100000 in
def f_X13_digits_1 (p1 : Int32) (ρ : OM) : Option (OM) := (if p1 ≤ 9 then (lt (wI ρ 0 13 ((ρ.1 0 13) + 1)) fun ρ2 => (if inb (ρ.1 0 13) 700 = true then (lt (wI ρ2 1 (Int32.toNatClampNeg (ρ.1 0 13)) (Int8.toInt32 (Int32.toInt8 (48 + (p1 - p1 / 10 * 10))))) fun ρ3 => (some ρ3)) else none)) else none)
set_option maxRecDepth 100000 in
def f_X13_digits_2 (p1 : Int32) (ρ : OM) : Option (OM) := (if p1 ≤ 9 then (lt (wI ρ 0 13 ((ρ.1 0 13) + 1)) fun ρ2 => (if inb (ρ.1 0 13) 700 = true then (lt (wI ρ2 1 (Int32.toNatClampNeg (ρ.1 0 13)) (Int8.toInt32 (Int32.toInt8 (48 + (p1 - p1 / 10 * 10))))) fun ρ3 => (some ρ3)) else none)) else ((f_X13_digits_1 (p1 / 10) ρ).bind fun ρ4 => (lt (wI ρ4 0 13 ((ρ4.1 0 13) + 1)) fun ρ5 => (if inb (ρ4.1 0 13) 700 = true then (lt (wI ρ5 1 (Int32.toNatClampNeg (ρ4.1 0 13)) (Int8.toInt32 (Int32.toInt8 (48 + (p1 - p1 / 10 * 10))))) fun ρ6 => (some ρ6)) else none))))
set_option maxRecDepth 100000 in
def f_X13_digits_3 (p1 : Int32) (ρ : OM) : Option (OM) := (if p1 ≤ 9 then (lt (wI ρ 0 13 ((ρ.1 0 13) + 1)) fun ρ2 => (if inb (ρ.1 0 13) 700 = true then (lt (wI ρ2 1 (Int32.toNatClampNeg (ρ.1 0 13)) (Int8.toInt32 (Int32.toInt8 (48 + (p1 - p1 / 10 * 10))))) fun ρ3 => (some ρ3)) else none)) else ((f_X13_digits_2 (p1 / 10) ρ).bind fun ρ4 => (lt (wI ρ4 0 13 ((ρ4.1 0 13) + 1)) fun ρ5 => (if inb (ρ4.1 0 13) 700 = true then (lt (wI ρ5 1 (Int32.toNatClampNeg (ρ4.1 0 13)) (Int8.toInt32 (Int32.toInt8 (48 + (p1 - p1 / 10 * 10))))) fun ρ6 => (some ρ6)) else none))))
set_option maxRecDepth 100000 in
def f_X13_put_ (p1 : Int32) (ρ : OM) : Option (OM) := ((f_X13_put 8 ρ).bind fun ρ1 => ((f_X13_digits_3 p1 ρ1).bind fun ρ2 => (some ρ2)))
set_option maxRecDepth 100000 in
def f_X13_letter (p1 : Int32) (p2 : Int32) (ρ : OM) : Option (OM) := ((f_X13_put 8 ρ).bind fun ρ1 => (lt (wI ρ1 0 13 ((ρ1.1 0 13) + 1)) fun ρ2 => (if inb (ρ1.1 0 13) 700 = true then (lt (wI ρ2 1 (Int32.toNatClampNeg (ρ1.1 0 13)) (Int8.toInt32 (Int32.toInt8 (p1 + p2)))) fun ρ3 => (some ρ3)) else none)))
set_option maxRecDepth 100000 in
def f_X13_four_4 (x1 : Int32) (ρ : OM) : Nat → Int32 → Int32 → Option (Int32)
  | 0, _, _ => none
  | n + 1, x3, x2 => (if (x1 + 4) ≤ x3 then (some x2) else (if (ρ.1 0 13) ≤ x3 then (lt (((x2 <<< (8 &&& 31)) ||| 32)) fun i3 => (f_X13_four_4 x1 ρ n (x3 + 1) i3)) else (if inb x3 700 = true then (lt (((x2 <<< (8 &&& 31)) ||| (ρ.1 1 (Int32.toNatClampNeg x3)))) fun i4 => (f_X13_four_4 x1 ρ n (x3 + 1) i4)) else none)))
set_option maxRecDepth 100000 in
def f_X13_four (p1 : Int32) (ρ : OM) : Option (Int32) := (f_X13_four_4 p1 ρ FU p1 0)
set_option maxRecDepth 100000 in
def f_X13_send_2  : Nat → Int32 → SM → Option (Int32 × SM)
  | 0, _, _ => none
  | n + 1, x2, σ => (if ((σ 20).1 0 13) ≤ x2 then (lt (us σ 20 (wI (σ 20) 0 13 0)) fun σ2 => (some (1, σ2))) else ((f_X13_four x2 (σ 20)).bind fun r3 => ((f_X13_four (x2 + 4) (σ 20)).bind fun r4 => ((f_X13_four (x2 + 8) (σ 20)).bind fun r5 => ((f_X13_four (x2 + 12) (σ 20)).bind fun r6 => ((f_X13_four (x2 + 16) (σ 20)).bind fun r7 => (o2 (f_X12_appendInput r3 r4 r5 r6 r7 σ) fun r8 σ9 => (if r8 = (x2 + 20) then (f_X13_send_2  n (x2 + 20) σ9) else none))))))))
set_option maxRecDepth 100000 in
def f_X13_send  (σ : SM) : Option (Int32 × SM) := (f_X13_send_2  FU 0 σ)
set_option maxRecDepth 100000 in
def f_X13_rank_2 (x1 : Int32) (x2 : Int32) (ρ : OM) : Nat → Int32 → Option (Int32)
  | 0, _ => none
  | n + 1, x3 => (if inb x1 8 = true then (if (ρ.1 6 (Int32.toNatClampNeg x1)) ≤ x3 then (some (-1)) else (if inb x1 8 = true then (if inb x3 8 = true then (if (ρ.1 (12 + Int32.toNatClampNeg x1) (Int32.toNatClampNeg x3)) = x2 then (some x3) else (f_X13_rank_2 x1 x2 ρ n (x3 + 1))) else none) else none)) else none)
set_option maxRecDepth 100000 in
def f_X13_rank (p1 : Int32) (p2 : Int32) (ρ : OM) : Option (Int32) := (f_X13_rank_2 p1 p2 ρ FU 0)
set_option maxRecDepth 100000 in
def f_X13_tenant_2 (x1 : Int32) (ρ : OM) : Nat → Int32 → Option (Int32)
  | 0, _ => none
  | n + 1, x2 => (if (ρ.1 0 15) ≤ x2 then (some (-1)) else (if inb x2 8 = true then (if (ρ.1 5 (Int32.toNatClampNeg x2)) = x1 then (some x2) else (f_X13_tenant_2 x1 ρ n (x2 + 1))) else none))
set_option maxRecDepth 100000 in
def f_X13_tenant (p1 : Int32) (ρ : OM) : Option (Int32) := (f_X13_tenant_2 p1 ρ FU 0)
set_option maxRecDepth 100000 in
def f_X13_begin_36  : Nat → Int32 → SM → Option (SM)
  | 0, _, _ => none
  | n + 1, x3, σ => (if 8 ≤ x3 then (some σ) else (if inb x3 8 = true then (lt (us σ 20 (wI (σ 20) 5 (Int32.toNatClampNeg x3) (-1))) fun σ12 => (f_X13_begin_36  n (x3 + 1) σ12)) else none))
set_option maxRecDepth 100000 in
def f_X13_begin_63  : Nat → Int32 → SM → Option (SM)
  | 0, _, _ => none
  | n + 1, x3, σ => (if ((σ 20).1 0 14) ≤ x3 then (some σ) else (o2 (f_X13_draw 2 (σ 20)) fun r17 m18 => (lt (us σ 20 m18) fun σ19 => (if r17 = 0 then (o2 (f_X13_draw 100 (σ19 20)) fun r33 m34 => (lt (us σ19 20 m34) fun σ35 => (if inb x3 8 = true then (lt (us σ35 20 (wI (σ35 20) 2 (Int32.toNatClampNeg x3) r33)) fun σ36 => ((f_X13_put 7 (σ36 20)).bind fun m37 => (lt (us σ36 20 m37) fun σ38 => ((f_X13_letter 112 x3 (σ38 20)).bind fun m39 => (lt (us σ38 20 m39) fun σ40 => (if inb x3 8 = true then ((f_X13_put_ ((σ40 20).1 2 (Int32.toNatClampNeg x3)) (σ40 20)).bind fun m41 => (lt (us σ40 20 m41) fun σ42 => ((f_X13_put 9 (σ42 20)).bind fun m43 => (lt (us σ42 20 m43) fun σ44 => (f_X13_begin_63  n (x3 + 1) σ44))))) else none)))))) else none))) else (o2 (f_X13_draw 20 (σ19 20)) fun r21 m22 => (lt (us σ19 20 m22) fun σ23 => (if inb x3 8 = true then (lt (us σ23 20 (wI (σ23 20) 2 (Int32.toNatClampNeg x3) r21)) fun σ24 => ((f_X13_put 7 (σ24 20)).bind fun m25 => (lt (us σ24 20 m25) fun σ26 => ((f_X13_letter 112 x3 (σ26 20)).bind fun m27 => (lt (us σ26 20 m27) fun σ28 => (if inb x3 8 = true then ((f_X13_put_ ((σ28 20).1 2 (Int32.toNatClampNeg x3)) (σ28 20)).bind fun m29 => (lt (us σ28 20 m29) fun σ30 => ((f_X13_put 9 (σ30 20)).bind fun m31 => (lt (us σ30 20 m31) fun σ32 => (f_X13_begin_63  n (x3 + 1) σ32))))) else none)))))) else none)))))))
set_option maxRecDepth 100000 in
def f_X13_begin_232 (x3 : Int32) : Nat → Int32 → SM → Option (SM)
  | 0, _, _ => none
  | n + 1, x4, σ => (if x4 ≤ 0 then (some σ) else (o2 (f_X13_draw ((σ 20).1 0 14) (σ 20)) fun r70 m71 => (lt (us σ 20 m71) fun σ72 => ((f_X13_rank x3 r70 (σ72 20)).bind fun r73 => (if r73 = (-1) then (if inb x3 8 = true then (if inb x3 8 = true then (if inb x3 8 = true then (lt (us σ72 20 (wI (σ72 20) 6 (Int32.toNatClampNeg x3) (((σ72 20).1 6 (Int32.toNatClampNeg x3)) + 1))) fun σ76 => (if inb ((σ72 20).1 6 (Int32.toNatClampNeg x3)) 8 = true then (lt (us σ76 20 (wI (σ76 20) (12 + Int32.toNatClampNeg x3) (Int32.toNatClampNeg ((σ72 20).1 6 (Int32.toNatClampNeg x3))) r70)) fun σ77 => ((f_X13_letter 112 r70 (σ77 20)).bind fun m78 => (lt (us σ77 20 m78) fun σ79 => (f_X13_begin_232 x3 n (x4 + (-1)) σ79)))) else none)) else none) else none) else none) else (f_X13_begin_232 x3 n (x4 + (-1)) σ72))))))
set_option maxRecDepth 100000 in
def f_X13_begin_133  : Nat → Int32 → SM → Option (SM)
  | 0, _, _ => none
  | n + 1, x3, σ => (if ((σ 20).1 0 15) ≤ x3 then (some σ) else (o2 (f_X13_draw 200 (σ 20)) fun r47 m48 => (lt (us σ 20 m48) fun σ49 => (if inb x3 8 = true then (lt (us σ49 20 (wI (σ49 20) 3 (Int32.toNatClampNeg x3) r47)) fun σ50 => (o2 (f_X13_draw 60 (σ50 20)) fun r51 m52 => (lt (us σ50 20 m52) fun σ53 => (if inb x3 8 = true then (lt (us σ53 20 (wI (σ53 20) 4 (Int32.toNatClampNeg x3) r51)) fun σ54 => (if inb x3 8 = true then (lt (us σ54 20 (wI (σ54 20) 5 (Int32.toNatClampNeg x3) (-1))) fun σ55 => (if inb x3 8 = true then (lt (us σ55 20 (wI (σ55 20) 6 (Int32.toNatClampNeg x3) 0)) fun σ56 => (if inb x3 8 = true then (lt (us σ56 20 (wI (σ56 20) 7 (Int32.toNatClampNeg x3) x3)) fun σ57 => ((f_X13_put 10 (σ57 20)).bind fun m58 => (lt (us σ57 20 m58) fun σ59 => ((f_X13_letter 97 x3 (σ59 20)).bind fun m60 => (lt (us σ59 20 m60) fun σ61 => (if inb x3 8 = true then ((f_X13_put_ ((σ61 20).1 3 (Int32.toNatClampNeg x3)) (σ61 20)).bind fun m62 => (lt (us σ61 20 m62) fun σ63 => (if inb x3 8 = true then ((f_X13_put_ ((σ63 20).1 4 (Int32.toNatClampNeg x3)) (σ63 20)).bind fun m64 => (lt (us σ63 20 m64) fun σ65 => (o2 (f_X13_draw (((σ65 20).1 0 14) + 1) (σ65 20)) fun r66 m67 => (lt (us σ65 20 m67) fun σ68 => ((f_X13_begin_232 x3 FU r66 σ68).bind fun σ80 => (o2 (f_X13_draw ((σ80 20).1 0 14) (σ80 20)) fun r81 m82 => (lt (us σ80 20 m82) fun σ83 => (o2 (f_X13_draw 3 (σ83 20)) fun r84 m85 => (lt (us σ83 20 m85) fun σ86 => (if r84 ≤ 0 then ((f_X13_put 9 (σ86 20)).bind fun m88 => (lt (us σ86 20 m88) fun σ89 => (f_X13_begin_133  n (x3 + 1) σ89))) else ((f_X13_tenant r81 (σ86 20)).bind fun r90 => (if r90 = (-1) then (if inb x3 8 = true then (lt (us σ86 20 (wI (σ86 20) 5 (Int32.toNatClampNeg x3) r81)) fun σ94 => ((f_X13_put 11 (σ94 20)).bind fun m95 => (lt (us σ94 20 m95) fun σ96 => ((f_X13_letter 112 r81 (σ96 20)).bind fun m97 => (lt (us σ96 20 m97) fun σ98 => ((f_X13_put 9 (σ98 20)).bind fun m99 => (lt (us σ98 20 m99) fun σ100 => (f_X13_begin_133  n (x3 + 1) σ100)))))))) else none) else ((f_X13_put 9 (σ86 20)).bind fun m92 => (lt (us σ86 20 m92) fun σ93 => (f_X13_begin_133  n (x3 + 1) σ93))))))))))))))) else none))) else none)))))) else none)) else none)) else none)) else none)))) else none))))
set_option maxRecDepth 100000 in
def f_X13_begin (p2 : Int32) (σ : SM) : Option (Int32 × SM) := (lt (us σ 20 (wI (σ 20) 0 12 p2)) fun σ1 => (lt (us σ1 20 (wI (σ1 20) 0 16 0)) fun σ2 => (o2 (f_X13_draw 7 (σ2 20)) fun r3 m4 => (lt (us σ2 20 m4) fun σ5 => (lt (us σ5 20 (wI (σ5 20) 0 14 (1 + r3))) fun σ6 => (o2 (f_X13_draw 7 (σ6 20)) fun r7 m8 => (lt (us σ6 20 m8) fun σ9 => (lt (us σ9 20 (wI (σ9 20) 0 15 (1 + r7))) fun σ10 => ((f_X13_begin_36  FU 0 σ10).bind fun σ13 => ((f_X13_put 6 (σ13 20)).bind fun m14 => (lt (us σ13 20 m14) fun σ15 => ((f_X13_begin_63  FU 0 σ15).bind fun σ45 => ((f_X13_begin_133  FU 0 σ45).bind fun σ101 => (o2 (f_X13_send σ101) fun r102 σ103 => (if r102 = 0 then none else (o2 (f_X12_loadSetup σ103) fun r105 σ106 => (if r105 = ((σ106 20).1 0 15) then (some (1, σ106)) else none)))))))))))))))))
set_option maxRecDepth 100000 in
def f_X13_bad (p1 : Int32) (p2 : Int32) (ρ : OM) : Option (Int32) := (if p2 = (-1) then (some 50) else ((f_X13_rank p1 p2 ρ).bind fun r2 => (if r2 = (-1) then (some 99) else ((f_X13_rank p1 p2 ρ).bind fun r4 => (some r4)))))
set_option maxRecDepth 100000 in
def f_X13_likes (p1 : Int32) (p2 : Int32) (p3 : Int32) (ρ : OM) : Option (Int32) := ((f_X13_bad p1 p2 ρ).bind fun r1 => ((f_X13_bad p1 p3 ρ).bind fun r2 => (if r2 ≤ r1 then (some 0) else (some 1))))
set_option maxRecDepth 100000 in
def f_X13_envies (p1 : Int32) (p2 : Int32) (ρ : OM) : Option (Int32) := (if inb p2 8 = true then (if (ρ.1 5 (Int32.toNatClampNeg p2)) = (-1) then (some 0) else (if inb p2 8 = true then (if inb p1 8 = true then ((f_X13_likes p1 (ρ.1 5 (Int32.toNatClampNeg p2)) (ρ.1 5 (Int32.toNatClampNeg p1)) ρ).bind fun r2 => (if r2 = 0 then (some 0) else (some 1))) else none) else none)) else none)
set_option maxRecDepth 100000 in
def f_X13_both (p1 : Int32) (p2 : Int32) (ρ : OM) : Option (Int32) := (if inb p1 8 = true then (if (ρ.1 5 (Int32.toNatClampNeg p1)) = (-1) then (some 0) else (if inb p2 8 = true then (if (ρ.1 5 (Int32.toNatClampNeg p2)) = (-1) then (some 0) else ((f_X13_envies p1 p2 ρ).bind fun r3 => (if r3 = 0 then (some 0) else ((f_X13_envies p2 p1 ρ).bind fun r5 => (if r5 = 0 then (some 0) else (some 1)))))) else none)) else none)
set_option maxRecDepth 100000 in
def f_X13_where_2 (x1 : Int32) (ρ : OM) : Nat → Int32 → Option (Int32)
  | 0, _ => none
  | n + 1, x2 => (if (ρ.1 0 17) ≤ x2 then (some (-1)) else (if inb x2 8 = true then (if (ρ.1 8 (Int32.toNatClampNeg x2)) = x1 then (some x2) else (f_X13_where_2 x1 ρ n (x2 + 1))) else none))
set_option maxRecDepth 100000 in
def f_X13_where (p1 : Int32) (ρ : OM) : Option (Int32) := (f_X13_where_2 p1 ρ FU 0)
set_option maxRecDepth 100000 in
def f_X13_whereAll_2 (x1 : Int32) (ρ : OM) : Nat → Int32 → Option (Int32)
  | 0, _ => none
  | n + 1, x2 => (if (ρ.1 0 17) < x2 then (some (ρ.1 0 17)) else (if inb x2 8 = true then (if (ρ.1 8 (Int32.toNatClampNeg x2)) = x1 then (some x2) else (f_X13_whereAll_2 x1 ρ n (x2 + 1))) else none))
set_option maxRecDepth 100000 in
def f_X13_whereAll (p1 : Int32) (ρ : OM) : Option (Int32) := (f_X13_whereAll_2 p1 ρ FU 0)
set_option maxRecDepth 100000 in
def f_X13_give_35  : Nat → Int32 → OM → Option (OM)
  | 0, _, _ => none
  | n + 1, x3, ρ => (if (ρ.1 0 17) ≤ x3 then (some ρ) else (if inb (x3 + 1) 8 = true then (if inb x3 8 = true then (lt (wI ρ 8 (Int32.toNatClampNeg x3) (ρ.1 8 (Int32.toNatClampNeg (x3 + 1)))) fun ρ6 => (f_X13_give_35  n (x3 + 1) ρ6)) else none) else none))
set_option maxRecDepth 100000 in
def f_X13_give (p1 : Int32) (p2 : Int32) (ρ : OM) : Option (OM) := (if inb p1 8 = true then (lt (wI ρ 10 (Int32.toNatClampNeg p1) p2) fun ρ1 => (if p2 = (-1) then (lt (wI ρ1 0 17 ((ρ1.1 0 17) - 1)) fun ρ3 => ((f_X13_whereAll p1 ρ3).bind fun r4 => (f_X13_give_35  FU r4 ρ3))) else (if inb p2 8 = true then (lt (wI ρ1 20 (Int32.toNatClampNeg p2) 1) fun ρ7 => (lt (wI ρ7 0 17 ((ρ7.1 0 17) - 1)) fun ρ8 => ((f_X13_whereAll p1 ρ8).bind fun r9 => (f_X13_give_35  FU r9 ρ8)))) else none))) else none)
set_option maxRecDepth 100000 in
def f_X13_front_6 (x1 : Int32) : Nat → Int32 → OM → Option (OM)
  | 0, _, _ => none
  | n + 1, x2, ρ => (if x2 ≤ 0 then (if inb 0 8 = true then (lt (wI ρ 8 (Int32.toNatClampNeg 0) x1) fun ρ3 => (some ρ3)) else none) else (if inb (x2 - 1) 8 = true then (if inb x2 8 = true then (lt (wI ρ 8 (Int32.toNatClampNeg x2) (ρ.1 8 (Int32.toNatClampNeg (x2 - 1)))) fun ρ4 => (f_X13_front_6 x1 n (x2 + (-1)) ρ4)) else none) else none))
set_option maxRecDepth 100000 in
def f_X13_front (p1 : Int32) (ρ : OM) : Option (OM) := ((f_X13_where p1 ρ).bind fun r1 => (f_X13_front_6 p1 FU r1 ρ))
set_option maxRecDepth 100000 in
def f_X13_mechanism_10  : Nat → Int32 → OM → Option (OM)
  | 0, _, _ => none
  | n + 1, x1, ρ => (if (ρ.1 0 15) ≤ x1 then (some ρ) else (if inb x1 8 = true then (if inb x1 8 = true then (lt (wI ρ 8 (Int32.toNatClampNeg x1) (ρ.1 7 (Int32.toNatClampNeg x1))) fun ρ3 => (if inb x1 8 = true then (lt (wI ρ3 9 (Int32.toNatClampNeg x1) (-1)) fun ρ4 => (if inb x1 8 = true then (lt (wI ρ4 10 (Int32.toNatClampNeg x1) (-1)) fun ρ5 => (f_X13_mechanism_10  n (x1 + 1) ρ5)) else none)) else none)) else none) else none))
set_option maxRecDepth 100000 in
def f_X13_mechanism_52  : Nat → Int32 → OM → Option (OM)
  | 0, _, _ => none
  | n + 1, x1, ρ => (if (ρ.1 0 14) ≤ x1 then (some ρ) else (if inb x1 8 = true then (lt (wI ρ 20 (Int32.toNatClampNeg x1) 0) fun ρ8 => (f_X13_mechanism_52  n (x1 + 1) ρ8)) else none))
set_option maxRecDepth 100000 in
def f_X13_mechanism_98 (x1 : Int32) (ρ : OM) : Nat → Int32 → Int32 → Option (Int32)
  | 0, _, _ => none
  | n + 1, x3, x2 => (if x3 < 0 then (some x2) else (if inb x1 8 = true then (if inb x3 8 = true then (if inb (ρ.1 (12 + Int32.toNatClampNeg x1) (Int32.toNatClampNeg x3)) 8 = true then (if (ρ.1 20 (Int32.toNatClampNeg (ρ.1 (12 + Int32.toNatClampNeg x1) (Int32.toNatClampNeg x3)))) = 0 then (if inb x1 8 = true then (if inb x3 8 = true then (lt ((ρ.1 (12 + Int32.toNatClampNeg x1) (Int32.toNatClampNeg x3))) fun i17 => (f_X13_mechanism_98 x1 ρ n (x3 + (-1)) i17)) else none) else none) else (f_X13_mechanism_98 x1 ρ n (x3 + (-1)) x2)) else none) else none) else none))
set_option maxRecDepth 100000 in
def f_X13_mechanism_204 (x1 : Int32) : Nat → Int32 → OM → Option (OM)
  | 0, _, _ => none
  | n + 1, x4, ρ => (if x4 = (-1) then (some ρ) else (if x4 = x1 then (if inb x4 8 = true then ((f_X13_give x4 (ρ.1 9 (Int32.toNatClampNeg x4)) ρ).bind fun ρ33 => (f_X13_mechanism_204 x1 n (-1) ρ33)) else none) else (if inb x4 8 = true then ((f_X13_tenant (ρ.1 9 (Int32.toNatClampNeg x4)) ρ).bind fun r31 => (if inb x4 8 = true then ((f_X13_give x4 (ρ.1 9 (Int32.toNatClampNeg x4)) ρ).bind fun ρ32 => (f_X13_mechanism_204 x1 n r31 ρ32)) else none)) else none)))
set_option maxRecDepth 100000 in
def f_X13_mechanism_73  : Nat → OM → Option (OM)
  | 0, _ => none
  | n + 1, ρ => (if (ρ.1 0 17) ≤ 0 then (some ρ) else (if inb 0 8 = true then (lt ((ρ.1 8 (Int32.toNatClampNeg 0))) fun i11 => (if inb i11 8 = true then (lt (((ρ.1 6 (Int32.toNatClampNeg i11)) - 1)) fun i12 => ((f_X13_mechanism_98 i11 ρ FU i12 (-1)).bind fun i18 => (if inb i11 8 = true then (lt (wI ρ 9 (Int32.toNatClampNeg i11) i18) fun ρ19 => (if i18 = (-1) then ((f_X13_give i11 i18 ρ19).bind fun ρ38 => (f_X13_mechanism_73  n ρ38)) else ((f_X13_tenant i18 ρ19).bind fun r21 => (if r21 = (-1) then ((f_X13_give i11 i18 ρ19).bind fun ρ23 => (f_X13_mechanism_73  n ρ23)) else (if r21 = i11 then ((f_X13_give i11 i18 ρ19).bind fun ρ25 => (f_X13_mechanism_73  n ρ25)) else ((f_X13_where r21 ρ19).bind fun r26 => (if r26 = (-1) then ((f_X13_give i11 i18 ρ19).bind fun ρ36 => (f_X13_mechanism_73  n ρ36)) else (if inb r21 8 = true then (if (ρ19.1 9 (Int32.toNatClampNeg r21)) = (-1) then ((f_X13_front r21 ρ19).bind fun ρ35 => (f_X13_mechanism_73  n ρ35)) else ((f_X13_mechanism_204 i11 FU r21 ρ19).bind fun ρ34 => (f_X13_mechanism_73  n ρ34))) else none)))))))) else none))) else none)) else none))
set_option maxRecDepth 100000 in
def f_X13_mechanism  (ρ : OM) : Option (OM) := (lt (wI ρ 0 17 (ρ.1 0 15)) fun ρ1 => ((f_X13_mechanism_10  FU 0 ρ1).bind fun ρ6 => ((f_X13_mechanism_52  FU 0 ρ6).bind fun ρ9 => (f_X13_mechanism_73  FU ρ9))))
set_option maxRecDepth 100000 in
def f_X13_isSame_105 (x2 : Int32) (σ : SM) : Nat → Int32 → Option (Unit)
  | 0, _ => none
  | n + 1, x3 => (if inb x2 8 = true then (if ((σ 20).1 6 (Int32.toNatClampNeg x2)) ≤ x3 then (some ()) else ((f_X12_preferenceAt x2 x3 σ).bind fun r17 => (if inb x2 8 = true then (if inb x3 8 = true then (if r17 = ((σ 20).1 (12 + Int32.toNatClampNeg x2) (Int32.toNatClampNeg x3)) then (f_X13_isSame_105 x2 σ n (x3 + 1)) else none) else none) else none))) else none)
set_option maxRecDepth 100000 in
def f_X13_isSame_37 (σ : SM) : Nat → Int32 → Option (Unit)
  | 0, _ => none
  | n + 1, x2 => (if ((σ 20).1 0 15) ≤ x2 then (some ()) else ((f_X12_balance x2 σ).bind fun r8 => (if inb x2 8 = true then (if r8 = ((σ 20).1 3 (Int32.toNatClampNeg x2)) then ((f_X12_stallOf x2 σ).bind fun r10 => (if inb x2 8 = true then (if r10 = ((σ 20).1 5 (Int32.toNatClampNeg x2)) then ((f_X12_preferenceCount x2 σ).bind fun r12 => (if inb x2 8 = true then (if r12 = ((σ 20).1 6 (Int32.toNatClampNeg x2)) then (if inb x2 8 = true then ((f_X12_priorityOf ((σ 20).1 7 (Int32.toNatClampNeg x2)) σ).bind fun r14 => (if r14 = x2 then ((f_X13_isSame_105 x2 σ FU 0).bind fun _ => (f_X13_isSame_37 σ n (x2 + 1))) else none)) else none) else none) else none)) else none) else none)) else none) else none)))
set_option maxRecDepth 100000 in
def f_X13_isSame_148 (σ : SM) : Nat → Int32 → Option (Int32)
  | 0, _ => none
  | n + 1, x2 => (if ((σ 20).1 0 14) ≤ x2 then (some 1) else ((f_X12_rent x2 σ).bind fun r21 => (if inb x2 8 = true then (if r21 = ((σ 20).1 2 (Int32.toNatClampNeg x2)) then ((f_X12_occupantOf x2 σ).bind fun r23 => ((f_X13_tenant x2 (σ 20)).bind fun r24 => (if r23 = r24 then (f_X13_isSame_148 σ n (x2 + 1)) else none))) else none) else none)))
set_option maxRecDepth 100000 in
def f_X13_isSame  (σ : SM) : Option (Int32) := ((f_X12_day σ).bind fun r1 => (if r1 = ((σ 20).1 0 16) then ((f_X12_sellerCount σ).bind fun r3 => (if r3 = ((σ 20).1 0 15) then ((f_X12_stallCount σ).bind fun r5 => (if r5 = ((σ 20).1 0 14) then ((f_X13_isSame_37 σ FU 0).bind fun _ => (f_X13_isSame_148 σ FU 0)) else none)) else none)) else none))
set_option maxRecDepth 100000 in
def f_X13_toFront_24 (x1 : Int32) (x2 : Int32) : Nat → Int32 → OM → Option (OM)
  | 0, _, _ => none
  | n + 1, x3, ρ => (if x3 ≤ 0 then (if inb x1 8 = true then (if inb 0 8 = true then (lt (wI ρ (12 + Int32.toNatClampNeg x1) (Int32.toNatClampNeg 0) x2) fun ρ5 => (some ρ5)) else none) else none) else (if inb x1 8 = true then (if inb x1 8 = true then (if inb (x3 - 1) 8 = true then (if inb x3 8 = true then (lt (wI ρ (12 + Int32.toNatClampNeg x1) (Int32.toNatClampNeg x3) (ρ.1 (12 + Int32.toNatClampNeg x1) (Int32.toNatClampNeg (x3 - 1)))) fun ρ8 => (f_X13_toFront_24 x1 x2 n (x3 + (-1)) ρ8)) else none) else none) else none) else none))
set_option maxRecDepth 100000 in
def f_X13_toFront (p1 : Int32) (p2 : Int32) (ρ : OM) : Option (OM) := ((f_X13_rank p1 p2 ρ).bind fun r1 => (if r1 = (-1) then (if inb p1 8 = true then (if inb p1 8 = true then (lt (wI ρ 6 (Int32.toNatClampNeg p1) ((ρ.1 6 (Int32.toNatClampNeg p1)) + 1)) fun ρ9 => (lt ((ρ.1 6 (Int32.toNatClampNeg p1))) fun i10 => (f_X13_toFront_24 p1 p2 FU i10 ρ9))) else none) else none) else (f_X13_toFront_24 p1 p2 FU r1 ρ)))
set_option maxRecDepth 100000 in
def f_X13_first_2 (x1 : Int32) (ρ : OM) : Nat → Int32 → Option (Int32)
  | 0, _ => none
  | n + 1, x3 => (if inb x3 8 = true then (if (ρ.1 7 (Int32.toNatClampNeg x3)) = x1 then (some x3) else (f_X13_first_2 x1 ρ n (x3 + 1))) else none)
set_option maxRecDepth 100000 in
def f_X13_first_18 (x2 : Int32) : Nat → Int32 → OM → Option (Int32 × OM)
  | 0, _, _ => none
  | n + 1, x3, ρ => (if x2 ≤ x3 then (some (x3, ρ)) else (if inb (x3 + 1) 8 = true then (if inb x3 8 = true then (lt (wI ρ 7 (Int32.toNatClampNeg x3) (ρ.1 7 (Int32.toNatClampNeg (x3 + 1)))) fun ρ4 => (f_X13_first_18 x2 n (x3 + 1) ρ4)) else none) else none))
set_option maxRecDepth 100000 in
def f_X13_first_43 (x1 : Int32) (x2 : Int32) : Nat → Int32 → OM → Option (OM)
  | 0, _, _ => none
  | n + 1, x3, ρ => (if x3 ≤ x2 then (if inb x2 8 = true then (lt (wI ρ 7 (Int32.toNatClampNeg x2) x1) fun ρ8 => (some ρ8)) else none) else (if inb (x3 - 1) 8 = true then (if inb x3 8 = true then (lt (wI ρ 7 (Int32.toNatClampNeg x3) (ρ.1 7 (Int32.toNatClampNeg (x3 - 1)))) fun ρ9 => (f_X13_first_43 x1 x2 n (x3 + (-1)) ρ9)) else none) else none))
set_option maxRecDepth 100000 in
def f_X13_first (p1 : Int32) (p2 : Int32) (ρ : OM) : Option (OM) := ((f_X13_first_2 p1 ρ FU 0).bind fun i2 => (o2 (f_X13_first_18 p2 FU i2 ρ) fun i5 ρ6 => (f_X13_first_43 p1 p2 FU i5 ρ6)))
set_option maxRecDepth 100000 in
def f_X13_pass_14  : Nat → Int32 → Int32 → OM → Option (Int32 × OM)
  | 0, _, _, _ => none
  | n + 1, x2, x1, ρ => (if (ρ.1 0 15) ≤ x2 then (some (x1, ρ)) else (if inb x2 8 = true then (if inb x2 8 = true then (if inb x2 8 = true then (lt (wI ρ 3 (Int32.toNatClampNeg x2) ((ρ.1 3 (Int32.toNatClampNeg x2)) + (ρ.1 4 (Int32.toNatClampNeg x2)))) fun ρ3 => (if inb x2 8 = true then (if (ρ3.1 5 (Int32.toNatClampNeg x2)) = (-1) then (f_X13_pass_14  n (x2 + 1) x1 ρ3) else (if inb x2 8 = true then (if inb x2 8 = true then (if inb (ρ3.1 5 (Int32.toNatClampNeg x2)) 8 = true then (if (ρ3.1 2 (Int32.toNatClampNeg (ρ3.1 5 (Int32.toNatClampNeg x2)))) ≤ (ρ3.1 3 (Int32.toNatClampNeg x2)) then (if inb x2 8 = true then (if inb x2 8 = true then (if inb (ρ3.1 5 (Int32.toNatClampNeg x2)) 8 = true then (if inb x2 8 = true then (lt (wI ρ3 3 (Int32.toNatClampNeg x2) ((ρ3.1 3 (Int32.toNatClampNeg x2)) - (ρ3.1 2 (Int32.toNatClampNeg (ρ3.1 5 (Int32.toNatClampNeg x2)))))) fun ρ6 => (f_X13_pass_14  n (x2 + 1) x1 ρ6)) else none) else none) else none) else none) else (if inb x2 8 = true then (lt (wI ρ3 5 (Int32.toNatClampNeg x2) (-1)) fun ρ7 => (f_X13_pass_14  n (x2 + 1) (x1 + 1) ρ7)) else none)) else none) else none) else none)) else none)) else none) else none) else none))
set_option maxRecDepth 100000 in
def f_X13_pass  (ρ : OM) : Option (Int32 × OM) := (lt (wI ρ 0 16 ((ρ.1 0 16) + 1)) fun ρ1 => (f_X13_pass_14  FU 0 0 ρ1))
set_option maxRecDepth 100000 in
def f_X13_rankAll_2 (x1 : Int32) (x2 : Int32) (ρ : OM) : Nat → Int32 → Option (Int32)
  | 0, _ => none
  | n + 1, x3 => (if inb x1 8 = true then (if (ρ.1 6 (Int32.toNatClampNeg x1)) < x3 then (if inb x1 8 = true then (some (ρ.1 6 (Int32.toNatClampNeg x1))) else none) else (if inb x1 8 = true then (if inb x3 8 = true then (if (ρ.1 (12 + Int32.toNatClampNeg x1) (Int32.toNatClampNeg x3)) = x2 then (some x3) else (f_X13_rankAll_2 x1 x2 ρ n (x3 + 1))) else none) else none)) else none)
set_option maxRecDepth 100000 in
def f_X13_rankAll (p1 : Int32) (p2 : Int32) (ρ : OM) : Option (Int32) := (f_X13_rankAll_2 p1 p2 ρ FU 0)
set_option maxRecDepth 100000 in
def f_X13_act_520 (x7 : Int32) : Nat → Int32 → Int32 → SM → Option (Int32 × SM)
  | 0, _, _, _ => none
  | n + 1, x9, x8, σ => (if x7 ≤ x9 then (some (x8, σ)) else (o2 (f_X13_pass (σ 20)) fun r27 m28 => (lt (us σ 20 m28) fun σ29 => (lt ((x8 + r27)) fun i30 => (f_X13_act_520 x7 n (x9 + 1) i30 σ29)))))
set_option maxRecDepth 100000 in
def f_X13_act_411 (x3 : Int32) (σ : SM) : Nat → Int32 → Option (Int32)
  | 0, _ => none
  | n + 1, x7 => (if inb x7 8 = true then (if ((σ 20).1 7 (Int32.toNatClampNeg x7)) = x3 then (some x7) else (f_X13_act_411 x3 σ n (x7 + 1))) else none)
set_option maxRecDepth 100000 in
def f_X13_act_402 (x2 : Int32) (x3 : Int32) (x4 : Int32) (x5 : Int32) : Nat → SM → Option (Int32 × SM)
  | 0, _ => none
  | n + 1, σ => (if x2 = 7 then ((f_X13_act_411 x3 σ FU 0).bind fun i45 => ((f_X13_first x3 x4 (σ 20)).bind fun m46 => (lt (us σ 20 m46) fun σ47 => (o2 (f_X12_setPriority x3 x4 σ47) fun r48 σ49 => (if r48 = i45 then (some (1, σ49)) else none))))) else (if x2 = 8 then (if inb x5 8 = true then (lt (((σ 20).1 2 (Int32.toNatClampNeg x5))) fun i36 => (o2 (f_X13_draw 100 (σ 20)) fun r37 m38 => (lt (us σ 20 m38) fun σ39 => (if inb x5 8 = true then (lt (us σ39 20 (wI (σ39 20) 2 (Int32.toNatClampNeg x5) r37)) fun σ40 => (if inb x5 8 = true then (o2 (f_X12_setRent x5 ((σ40 20).1 2 (Int32.toNatClampNeg x5)) σ40) fun r41 σ42 => (if r41 = i36 then (some (1, σ42)) else none)) else none)) else none)))) else none) else (o2 (f_X13_draw 3 (σ 20)) fun r22 m23 => (lt (us σ 20 m23) fun σ24 => (lt ((1 + r22)) fun i25 => (o2 (f_X13_act_520 i25 FU 0 0 σ24) fun i31 σ32 => (o2 (f_X12_advanceDays i25 σ32) fun r33 σ34 => (if r33 = i31 then (some (1, σ34)) else none))))))))
set_option maxRecDepth 100000 in
def f_X13_act_343 (x3 : Int32) : Nat → Int32 → SM → Option (SM)
  | 0, _, _ => none
  | n + 1, x7, σ => (if inb x3 8 = true then (if ((σ 20).1 6 (Int32.toNatClampNeg x3)) ≤ x7 then (some σ) else (if inb x3 8 = true then (if inb x3 8 = true then (if inb (x7 + 1) 8 = true then (if inb x7 8 = true then (lt (us σ 20 (wI (σ 20) (12 + Int32.toNatClampNeg x3) (Int32.toNatClampNeg x7) ((σ 20).1 (12 + Int32.toNatClampNeg x3) (Int32.toNatClampNeg (x7 + 1))))) fun σ58 => (f_X13_act_343 x3 n (x7 + 1) σ58)) else none) else none) else none) else none)) else none)
set_option maxRecDepth 100000 in
def f_X13_act_209  : Nat → Int32 → Int32 → SM → Option (Int32 × SM)
  | 0, _, _, _ => none
  | n + 1, x8, x7, σ => (if ((σ 20).1 0 15) ≤ x8 then (o2 (f_X12_reallocate σ) fun r71 σ72 => (if r71 = x7 then (some (1, σ72)) else none)) else (if inb x8 8 = true then (if inb x8 8 = true then (if ((σ 20).1 10 (Int32.toNatClampNeg x8)) = ((σ 20).1 5 (Int32.toNatClampNeg x8)) then (if inb x8 8 = true then (if inb x8 8 = true then (lt (us σ 20 (wI (σ 20) 5 (Int32.toNatClampNeg x8) ((σ 20).1 10 (Int32.toNatClampNeg x8)))) fun σ75 => (f_X13_act_209  n (x8 + 1) x7 σ75)) else none) else none) else (if inb x8 8 = true then (if inb x8 8 = true then (lt (us σ 20 (wI (σ 20) 5 (Int32.toNatClampNeg x8) ((σ 20).1 10 (Int32.toNatClampNeg x8)))) fun σ76 => (f_X13_act_209  n (x8 + 1) (x7 + 1) σ76)) else none) else none)) else none) else none))
set_option maxRecDepth 100000 in
def f_X13_act_194 (x2 : Int32) (x3 : Int32) (x4 : Int32) (x5 : Int32) : Nat → SM → Option (Int32 × SM)
  | 0, _ => none
  | n + 1, σ => (if x2 = 4 then ((f_X13_mechanism (σ 20)).bind fun m68 => (lt (us σ 20 m68) fun σ69 => (f_X13_act_209  FU 0 0 σ69))) else (if x2 = 5 then ((f_X13_toFront x3 x5 (σ 20)).bind fun m63 => (lt (us σ 20 m63) fun σ64 => (o2 (f_X12_preferFirst x3 x5 σ64) fun r65 σ66 => (if inb x3 8 = true then (if r65 = ((σ66 20).1 6 (Int32.toNatClampNeg x3)) then (some (1, σ66)) else none) else none)))) else (if x2 = 6 then ((f_X13_rank x3 x5 (σ 20)).bind fun r51 => (if r51 = (-1) then (f_X13_act_402 x2 x3 x4 x5 FU σ) else (if inb x3 8 = true then (if inb x3 8 = true then (lt (us σ 20 (wI (σ 20) 6 (Int32.toNatClampNeg x3) (((σ 20).1 6 (Int32.toNatClampNeg x3)) - 1))) fun σ53 => ((f_X13_rankAll x3 x5 (σ53 20)).bind fun r54 => ((f_X13_act_343 x3 FU r54 σ53).bind fun σ59 => (o2 (f_X12_removePreference x3 x5 σ59) fun r60 σ61 => (if inb x3 8 = true then (if r60 = ((σ61 20).1 6 (Int32.toNatClampNeg x3)) then (some (1, σ61)) else none) else none))))) else none) else none))) else (f_X13_act_402 x2 x3 x4 x5 FU σ))))
set_option maxRecDepth 100000 in
def f_X13_act_135 (x2 : Int32) (x3 : Int32) (x4 : Int32) (x5 : Int32) (x6 : Int32) : Nat → SM → Option (Int32 × SM)
  | 0, _ => none
  | n + 1, σ => (if x2 = 3 then ((f_X13_both x3 x4 (σ 20)).bind fun r77 => (if r77 = 0 then (f_X13_act_194 x2 x3 x4 x5 FU σ) else (if inb x4 8 = true then (if inb x3 8 = true then (lt (us σ 20 (wI (σ 20) 5 (Int32.toNatClampNeg x3) ((σ 20).1 5 (Int32.toNatClampNeg x4)))) fun σ79 => (if inb x4 8 = true then (lt (us σ79 20 (wI (σ79 20) 5 (Int32.toNatClampNeg x4) x6)) fun σ80 => (o2 (f_X12_swap x3 x4 σ80) fun r81 σ82 => (if inb x3 8 = true then (if r81 = ((σ82 20).1 5 (Int32.toNatClampNeg x3)) then (some (1, σ82)) else none) else none))) else none)) else none) else none))) else (f_X13_act_194 x2 x3 x4 x5 FU σ))
set_option maxRecDepth 100000 in
def f_X13_act_101 (x6 : Int32) (x5 : Int32) (x4 : Int32) (x3 : Int32) (x2 : Int32) : Nat → SM → Option (Int32 × SM)
  | 0, _ => none
  | n + 1, σ => (if x2 = 2 then (if x6 = (-1) then (f_X13_act_135 x2 x3 x4 x5 x6 FU σ) else (if inb x3 8 = true then (lt (us σ 20 (wI (σ 20) 5 (Int32.toNatClampNeg x3) (-1))) fun σ85 => (o2 (f_X12_vacate x3 σ85) fun r86 σ87 => (if r86 = x6 then (some (1, σ87)) else none))) else none)) else (f_X13_act_135 x2 x3 x4 x5 x6 FU σ))
set_option maxRecDepth 100000 in
def f_X13_act  (σ : SM) : Option (Int32 × SM) := (o2 (f_X13_draw 10 (σ 20)) fun r1 m2 => (lt (us σ 20 m2) fun σ3 => (o2 (f_X13_draw ((σ3 20).1 0 15) (σ3 20)) fun r4 m5 => (lt (us σ3 20 m5) fun σ6 => (o2 (f_X13_draw ((σ6 20).1 0 15) (σ6 20)) fun r7 m8 => (lt (us σ6 20 m8) fun σ9 => (o2 (f_X13_draw ((σ9 20).1 0 14) (σ9 20)) fun r10 m11 => (lt (us σ9 20 m11) fun σ12 => (if inb r4 8 = true then (lt (((σ12 20).1 5 (Int32.toNatClampNeg r4))) fun i13 => (if 2 ≤ r1 then (f_X13_act_101 i13 r10 r7 r4 r1 FU σ12) else ((f_X13_tenant r10 (σ12 20)).bind fun r89 => (if r89 = (-1) then (if inb r10 8 = true then (if inb r4 8 = true then (if ((σ12 20).1 3 (Int32.toNatClampNeg r4)) < ((σ12 20).1 2 (Int32.toNatClampNeg r10)) then (f_X13_act_101 i13 r10 r7 r4 r1 FU σ12) else (if inb r4 8 = true then (lt (us σ12 20 (wI (σ12 20) 5 (Int32.toNatClampNeg r4) r10)) fun σ92 => (o2 (f_X12_assign r4 r10 σ92) fun r93 σ94 => (if r93 = i13 then (some (1, σ94)) else none))) else none)) else none) else none) else (f_X13_act_101 i13 r10 r7 r4 r1 FU σ12))))) else none)))))))))
set_option maxRecDepth 100000 in
def f_L_pick (xs : Nat → Int32) (Ls : Nat) (p1 : Int32)  : Option (Int32) := (if p1 < 0 then (some 0) else (if (nI Ls) ≤ p1 then (some 0) else (if inb p1 Ls = true then (some (xs (Int32.toNatClampNeg p1))) else none)))
set_option maxRecDepth 100000 in
def f_L_law_68  : Nat → Int32 → SM → Option (SM)
  | 0, _, _ => none
  | n + 1, x4, σ => (if ((σ 20).1 0 15) ≤ x4 then (some σ) else (o2 (f_X12_allocatedStall x4 σ) fun r13 σ14 => (if inb x4 8 = true then (if r13 = ((σ14 20).1 10 (Int32.toNatClampNeg x4)) then (if inb x4 8 = true then (if ((σ14 20).1 5 (Int32.toNatClampNeg x4)) = (-1) then (f_L_law_68  n (x4 + 1) σ14) else (if inb x4 8 = true then ((f_X13_rank x4 ((σ14 20).1 5 (Int32.toNatClampNeg x4)) (σ14 20)).bind fun r17 => (if r17 = (-1) then (f_L_law_68  n (x4 + 1) σ14) else (if inb x4 8 = true then (if inb x4 8 = true then ((f_X13_likes x4 ((σ14 20).1 5 (Int32.toNatClampNeg x4)) ((σ14 20).1 10 (Int32.toNatClampNeg x4)) (σ14 20)).bind fun r19 => (if r19 = 0 then (f_L_law_68  n (x4 + 1) σ14) else none)) else none) else none))) else none)) else none) else none) else none)))
set_option maxRecDepth 100000 in
def f_L_law_41 (xs : Nat → Int32) (Ls : Nat) : Nat → Int32 → SM → Option (SM)
  | 0, _, _ => none
  | n + 1, x3, σ => (if 36 ≤ x3 then (some σ) else ((f_L_pick xs Ls x3).bind fun r8 => (lt (us σ 20 (wI (σ 20) 0 12 (((σ 20).1 0 12) + r8))) fun σ9 => ((f_X13_mechanism (σ9 20)).bind fun m10 => (lt (us σ9 20 m10) fun σ11 => ((f_L_law_68  FU 0 σ11).bind fun σ21 => (o2 (f_X13_act σ21) fun r22 σ23 => (if r22 = 0 then none else ((f_X13_isSame σ23).bind fun r25 => (if r25 = 0 then none else ((f_X12_ledgerDifference σ23).bind fun r27 => (if r27 = 0 then (if (x3 - x3 / 6 * 6) = 0 then (o2 (f_X12_reallocate σ23) fun r30 σ31 => (if r30 < 0 then none else ((f_X12_isEfficient σ31).bind fun r33 => (if r33 = 0 then none else (o2 (f_X12_undo σ31) fun r35 σ36 => (if r35 < 0 then none else ((f_X13_isSame σ36).bind fun r38 => (if r38 = 0 then none else (f_L_law_41 xs Ls n (x3 + 1) σ36))))))))) else (f_L_law_41 xs Ls n (x3 + 1) σ23)) else none))))))))))))
set_option maxRecDepth 100000 in
def f_L_law_16 (xs : Nat → Int32) (Ls : Nat) : Nat → SM → Option (SM)
  | 0, _ => none
  | n + 1, σ => ((f_L_pick xs Ls 0).bind fun r1 => (o2 (f_X13_begin r1 σ) fun r2 σ3 => (if r2 = 0 then none else ((f_X13_isSame σ3).bind fun r5 => (if r5 = 0 then none else ((f_L_law_41 xs Ls FU 1 σ3).bind fun σ40 => (some σ40)))))))
end
section
theorem fgn {α : Type} {c : Prop} [Decidable c] {a : Option α} {r : α} (h : (if c then none else a) = some r) : ¬ c ∧ a = some r := by
  by_cases hc : c
  · exact absurd (fp h hc) (by simp)
  · exact ⟨hc, fn h hc⟩
theorem nb_n (x : Int32) : vp_nar .byte (Int8.toInt32 (Int32.toInt8 x)) = Int8.toInt32 (Int32.toInt8 x) := by
  rw [vp_nar_byte, Int8.toInt8_toInt32]
theorem inb_lt0 {i : Int32} {n : Nat} (h : inb i n = true) : i.toNatClampNeg < n := Nat.not_le.mp fun q => inb_vp h (Or.inr q)
section ROWR
variable {p : Program} {l : Launch} {e : Env} {R : Room} {s : State} {m : MethodId} {args : Array Value} {below : List Frame} {meth : Method} {c : Code} {H : Heap} {locs : List Loc} {cells slots : Nat} {Q : State → Prop}
variable {cc : ByteArray} {pc : Nat} {ls : Array Slot} {rest : List Value} {D : va_G} {cl : List vw_C} {A : Nat → Prop} {a : Nat} {tys : List (ClassId × FieldType)} {ws : va_W} {H0 : Heap}
/-- an entry of a row of rows -/
theorem va_aldr (hexec : p.tables.exec = Jvm.exec) (hb : c.code = cc) (hK : va_K D cl tys s) (hP : va_P D cl ws H) (q0 t0 : Nat) {cA : ClassId} {ty : FieldType} (hty : ty.isReference = true) {n : Nat} {f : Nat → Option Nat} (ha : ws[q0]? = some (a, .inl (cA, n, .inr (.inr (.inr (.inr f)))))) (ht : tys[t0]? = some (cA, ty)) {i : Int32} (hin : vp_in i n) {v : Value} (hv : va_rf (f i.toNatClampNeg) = v) (hdg : decode cc pc = .ok (.aaload, 1))
    (kk : W p l e R s m args below meth c H locs cells slots Q (F0 m (pc + 1) ls (v :: rest))) : W p l e R s m args below meth c H locs cells slots Q (F0 m pc ls (.int i :: .ref a :: rest)) := by
  have hlt : i.toNatClampNeg < n := Nat.not_le.mp fun q => hin (Or.inr q)
  subst hv
  exact W.aald (v := va_rf (f i.toNatClampNeg)) (ty := ty) hexec hb (hP q0 _ ha) ((hK.2 t0 _ ht).1 n (fun j => va_rf (f j))) hty (fun q => by cases q) (by show ¬ (i < 0 ∨ (arrV _ _ _).slots.size ≤ _); rw [arrV_size]; exact hin) (by show (arrV _ _ _).slots[_]? = _; rw [arrV_read _ _ hlt]) rfl rfl hdg kk
end ROWR
theorem dec_R {r : Nat} (hr : r < 8) : dec (lin 20 (12 + r)) = (20, 12 + r) := (by decide : ∀ r, r < 8 → dec (lin 20 (12 + r)) = (20, 12 + r)) r hr
theorem lin_R {r n : Nat} (hr : r < 8) (hn : 151 ≤ n) : lin 20 (12 + r) < n := by
  have : lin 20 (12 + r) = 130 + (12 + r) := rfl
  omega
theorem cel_R {E : Ev} : ∀ {r : Nat}, r < 8 → ∀ μ : OM, celX E 20 (12 + r) μ = aI E 8 (μ.1 (12 + r))
  | 0, _, _ => rfl
  | 1, _, _ => rfl
  | 2, _, _ => rfl
  | 3, _, _ => rfl
  | 4, _, _ => rfl
  | 5, _, _ => rfl
  | 6, _, _ => rfl
  | 7, _, _ => rfl
  | n + 8, h, _ => absurd h (by omega)
theorem wo_R {E : Ev} {σ : SM} {μ : OM} (eo : σ 20 = μ) (hN : 151 ≤ eN E) {r : Nat} (hr : r < 8) : (ws E σ)[lin 20 (12 + r)]? = some (adr E 20 (12 + r), aI E 8 (μ.1 (12 + r))) := (ws_at (dec_R hr) (lin_R hr hN) eo).trans (by rw [cel_R hr])
theorem inB_X1 : ∀ w ∈ u_ws RX1 TX1 5, w ∈ TB := List.forall_mem_cons.mpr ⟨qL_X1_requests, List.forall_mem_cons.mpr ⟨qL_X1_finished, List.forall_mem_cons.mpr ⟨qL_X1_given, List.forall_mem_cons.mpr ⟨qL_X1_chain, List.forall_mem_cons.mpr ⟨qL_X1_chained, fun _ h => absurd h List.not_mem_nil⟩⟩⟩⟩⟩
theorem inB_X2 : ∀ w ∈ u_ws RX2 TX2 2, w ∈ TB := List.forall_mem_cons.mpr ⟨qL_X2_bytes, List.forall_mem_cons.mpr ⟨qL_X2_length, fun _ h => absurd h List.not_mem_nil⟩⟩
theorem inB_X4 : ∀ w ∈ u_ws RX4 TX4 3, w ∈ TB := List.forall_mem_cons.mpr ⟨qL_X4_slots, List.forall_mem_cons.mpr ⟨qL_X4_oldest, List.forall_mem_cons.mpr ⟨qL_X4_count, fun _ h => absurd h List.not_mem_nil⟩⟩⟩
theorem inB_X5 : ∀ w ∈ u_ws RX5 TX5 18, w ∈ TB := List.forall_mem_cons.mpr ⟨qL_X5_sellers, List.forall_mem_cons.mpr ⟨qL_X5_stalls, List.forall_mem_cons.mpr ⟨qL_X5_today, List.forall_mem_cons.mpr ⟨qL_X5_paidRent, List.forall_mem_cons.mpr ⟨qL_X5_evictions, List.forall_mem_cons.mpr ⟨qL_X5_swaps, List.forall_mem_cons.mpr ⟨qL_X5_relocations, List.forall_mem_cons.mpr ⟨qL_X5_openingSum, List.forall_mem_cons.mpr ⟨qL_X5_receipts, List.forall_mem_cons.mpr ⟨qL_X5_sellerNames, List.forall_mem_cons.mpr ⟨qL_X5_coins, List.forall_mem_cons.mpr ⟨qL_X5_wages, List.forall_mem_cons.mpr ⟨qL_X5_held, List.forall_mem_cons.mpr ⟨qL_X5_turns, List.forall_mem_cons.mpr ⟨qL_X5_wishCounts, List.forall_mem_cons.mpr ⟨qL_X5_wishes, List.forall_mem_cons.mpr ⟨qL_X5_stallNames, List.forall_mem_cons.mpr ⟨qL_X5_prices, fun _ h => absurd h List.not_mem_nil⟩⟩⟩⟩⟩⟩⟩⟩⟩⟩⟩⟩⟩⟩⟩⟩⟩⟩
theorem inB_X6 : ∀ w ∈ u_ws RX6 TX6 3, w ∈ TB := List.forall_mem_cons.mpr ⟨qL_X6_leastSums, List.forall_mem_cons.mpr ⟨qL_X6_size, List.forall_mem_cons.mpr ⟨qL_X6_rankSum, fun _ h => absurd h List.not_mem_nil⟩⟩⟩
theorem inB_X7 : ∀ w ∈ u_ws RX7 TX7 3, w ∈ TB := List.forall_mem_cons.mpr ⟨qL_X7_tokens, List.forall_mem_cons.mpr ⟨qL_X7_code, List.forall_mem_cons.mpr ⟨qL_X7_position, fun _ h => absurd h List.not_mem_nil⟩⟩⟩
theorem inB_X8 : ∀ w ∈ u_ws RX8 TX8 4, w ∈ TB := List.forall_mem_cons.mpr ⟨qL_X8_verbs, List.forall_mem_cons.mpr ⟨qL_X8_firsts, List.forall_mem_cons.mpr ⟨qL_X8_seconds, List.forall_mem_cons.mpr ⟨qL_X8_count, fun _ h => absurd h List.not_mem_nil⟩⟩⟩⟩
theorem inB_X10 : ∀ w ∈ u_ws RX10 TX10 6, w ∈ TB := List.forall_mem_cons.mpr ⟨qL_X10_text, List.forall_mem_cons.mpr ⟨qL_X10_kind, List.forall_mem_cons.mpr ⟨qL_X10_start, List.forall_mem_cons.mpr ⟨qL_X10_end, List.forall_mem_cons.mpr ⟨qL_X10_number, List.forall_mem_cons.mpr ⟨qL_X10_name, fun _ h => absurd h List.not_mem_nil⟩⟩⟩⟩⟩⟩
theorem inB_X12 : ∀ w ∈ u_ws RX12 TX12 10, w ∈ TB := List.forall_mem_cons.mpr ⟨qL_X12_parser, List.forall_mem_cons.mpr ⟨qL_X12_output, List.forall_mem_cons.mpr ⟨qL_X12_script, List.forall_mem_cons.mpr ⟨qL_X12_market, List.forall_mem_cons.mpr ⟨qL_X12_scratch, List.forall_mem_cons.mpr ⟨qL_X12_saved, List.forall_mem_cons.mpr ⟨qL_X12_hasSaved, List.forall_mem_cons.mpr ⟨qL_X12_history, List.forall_mem_cons.mpr ⟨qL_X12_allocation, List.forall_mem_cons.mpr ⟨qL_X12_matching, fun _ h => absurd h List.not_mem_nil⟩⟩⟩⟩⟩⟩⟩⟩⟩⟩
theorem inB_X13 : ∀ w ∈ u_ws RX13 TX13 18, w ∈ TB := List.forall_mem_cons.mpr ⟨qL_X13_text, List.forall_mem_cons.mpr ⟨qL_X13_rent, List.forall_mem_cons.mpr ⟨qL_X13_coins, List.forall_mem_cons.mpr ⟨qL_X13_income, List.forall_mem_cons.mpr ⟨qL_X13_place, List.forall_mem_cons.mpr ⟨qL_X13_length, List.forall_mem_cons.mpr ⟨qL_X13_order, List.forall_mem_cons.mpr ⟨qL_X13_line, List.forall_mem_cons.mpr ⟨qL_X13_asked, List.forall_mem_cons.mpr ⟨qL_X13_got, List.forall_mem_cons.mpr ⟨qL_X13_list, List.forall_mem_cons.mpr ⟨qL_X13_taken, List.forall_mem_cons.mpr ⟨qL_X13_x, List.forall_mem_cons.mpr ⟨qL_X13_size, List.forall_mem_cons.mpr ⟨qL_X13_stalls, List.forall_mem_cons.mpr ⟨qL_X13_sellers, List.forall_mem_cons.mpr ⟨qL_X13_day, List.forall_mem_cons.mpr ⟨qL_X13_inLine, fun _ h => absurd h List.not_mem_nil⟩⟩⟩⟩⟩⟩⟩⟩⟩⟩⟩⟩⟩⟩⟩⟩⟩⟩
theorem wm_0 {E : Ev} {σ : SM} {o : Nat} {μ : OM} (ho : o < 11) (eo : σ o = μ) (hN : 129 ≤ eN E) : (ws E σ)[lin o 0]? = some (adr E o 0, .inr (3, [.int (μ.1 0 0), .int (μ.1 0 1), .int (μ.1 0 2), .int (μ.1 0 3), .int (μ.1 0 4), .int (μ.1 0 5), .int (μ.1 0 6), .int (μ.1 0 7), .int (μ.1 0 8), .ref (adr E o 1), .ref (adr E o 2), .ref (adr E o 3), .ref (adr E o 4), .ref (adr E o 5), .ref (adr E o 6), .ref (adr E o 7), .ref (adr E o 8), .ref (adr E o 9)])) := (ws_at (dec_M ho (by decide)) (lin_lt ho (by decide) hN) eo).trans (by rw [cel_M ho]; rfl)
theorem wm_1 {E : Ev} {σ : SM} {o : Nat} {μ : OM} (ho : o < 11) (eo : σ o = μ) (hN : 129 ≤ eN E) : (ws E σ)[lin o 1]? = some (adr E o 1, aJ E 8 (μ.2.1 1)) := (ws_at (dec_M ho (by decide)) (lin_lt ho (by decide) hN) eo).trans (by rw [cel_M ho]; rfl)
theorem wm_2 {E : Ev} {σ : SM} {o : Nat} {μ : OM} (ho : o < 11) (eo : σ o = μ) (hN : 129 ≤ eN E) : (ws E σ)[lin o 2]? = some (adr E o 2, aI E 8 (μ.1 2)) := (ws_at (dec_M ho (by decide)) (lin_lt ho (by decide) hN) eo).trans (by rw [cel_M ho]; rfl)
theorem wm_3 {E : Ev} {σ : SM} {o : Nat} {μ : OM} (ho : o < 11) (eo : σ o = μ) (hN : 129 ≤ eN E) : (ws E σ)[lin o 3]? = some (adr E o 3, aI E 8 (μ.1 3)) := (ws_at (dec_M ho (by decide)) (lin_lt ho (by decide) hN) eo).trans (by rw [cel_M ho]; rfl)
theorem wm_4 {E : Ev} {σ : SM} {o : Nat} {μ : OM} (ho : o < 11) (eo : σ o = μ) (hN : 129 ≤ eN E) : (ws E σ)[lin o 4]? = some (adr E o 4, aI E 8 (μ.1 4)) := (ws_at (dec_M ho (by decide)) (lin_lt ho (by decide) hN) eo).trans (by rw [cel_M ho]; rfl)
theorem wm_5 {E : Ev} {σ : SM} {o : Nat} {μ : OM} (ho : o < 11) (eo : σ o = μ) (hN : 129 ≤ eN E) : (ws E σ)[lin o 5]? = some (adr E o 5, aI E 8 (μ.1 5)) := (ws_at (dec_M ho (by decide)) (lin_lt ho (by decide) hN) eo).trans (by rw [cel_M ho]; rfl)
theorem wm_6 {E : Ev} {σ : SM} {o : Nat} {μ : OM} (ho : o < 11) (eo : σ o = μ) (hN : 129 ≤ eN E) : (ws E σ)[lin o 6]? = some (adr E o 6, aI E 8 (μ.1 6)) := (ws_at (dec_M ho (by decide)) (lin_lt ho (by decide) hN) eo).trans (by rw [cel_M ho]; rfl)
theorem wm_7 {E : Ev} {σ : SM} {o : Nat} {μ : OM} (ho : o < 11) (eo : σ o = μ) (hN : 129 ≤ eN E) : (ws E σ)[lin o 7]? = some (adr E o 7, aI E 64 (μ.1 7)) := (ws_at (dec_M ho (by decide)) (lin_lt ho (by decide) hN) eo).trans (by rw [cel_M ho]; rfl)
theorem wm_8 {E : Ev} {σ : SM} {o : Nat} {μ : OM} (ho : o < 11) (eo : σ o = μ) (hN : 129 ≤ eN E) : (ws E σ)[lin o 8]? = some (adr E o 8, aJ E 8 (μ.2.1 8)) := (ws_at (dec_M ho (by decide)) (lin_lt ho (by decide) hN) eo).trans (by rw [cel_M ho]; rfl)
theorem wm_9 {E : Ev} {σ : SM} {o : Nat} {μ : OM} (ho : o < 11) (eo : σ o = μ) (hN : 129 ≤ eN E) : (ws E σ)[lin o 9]? = some (adr E o 9, aI E 8 (μ.1 9)) := (ws_at (dec_M ho (by decide)) (lin_lt ho (by decide) hN) eo).trans (by rw [cel_M ho]; rfl)
theorem wo_11_0 {E : Ev} {σ : SM} {μ : OM} (eo : σ 11 = μ) (hN : 129 ≤ eN E) : (ws E σ)[lin 11 0]? = some (adr E 11 0, .inr (5, [.ref (adr E 12 0), .int (μ.1 0 1), .int (μ.1 0 2)])) := ws_at (by decide) (Nat.lt_of_lt_of_le (by decide) hN) eo
theorem wo_12_0 {E : Ev} {σ : SM} {μ : OM} (eo : σ 12 = μ) (hN : 129 ≤ eN E) : (ws E σ)[lin 12 0]? = some (adr E 12 0, .inr (7, [.ref (adr E 13 0), .int (μ.1 0 1), .int (μ.1 0 2), .int (μ.1 0 3), .int (μ.1 0 4), .long (μ.2.1 0 5)])) := ws_at (by decide) (Nat.lt_of_lt_of_le (by decide) hN) eo
theorem wo_13_0 {E : Ev} {σ : SM} {μ : OM} (eo : σ 13 = μ) (hN : 129 ≤ eN E) : (ws E σ)[lin 13 0]? = some (adr E 13 0, .inr (1, [.ref (adr E 13 1), .int (μ.1 0 1)])) := ws_at (by decide) (Nat.lt_of_lt_of_le (by decide) hN) eo
theorem wo_13_1 {E : Ev} {σ : SM} {μ : OM} (eo : σ 13 = μ) (hN : 129 ≤ eN E) : (ws E σ)[lin 13 1]? = some (adr E 13 1, aI E 700 (μ.1 1)) := ws_at (by decide) (Nat.lt_of_lt_of_le (by decide) hN) eo
theorem wo_14_0 {E : Ev} {σ : SM} {μ : OM} (eo : σ 14 = μ) (hN : 129 ≤ eN E) : (ws E σ)[lin 14 0]? = some (adr E 14 0, .inr (1, [.ref (adr E 14 1), .int (μ.1 0 1)])) := ws_at (by decide) (Nat.lt_of_lt_of_le (by decide) hN) eo
theorem wo_14_1 {E : Ev} {σ : SM} {μ : OM} (eo : σ 14 = μ) (hN : 129 ≤ eN E) : (ws E σ)[lin 14 1]? = some (adr E 14 1, aI E 700 (μ.1 1)) := ws_at (by decide) (Nat.lt_of_lt_of_le (by decide) hN) eo
theorem wo_15_0 {E : Ev} {σ : SM} {μ : OM} (eo : σ 15 = μ) (hN : 129 ≤ eN E) : (ws E σ)[lin 15 0]? = some (adr E 15 0, .inr (6, [.ref (adr E 15 1), .ref (adr E 15 2), .ref (adr E 15 3), .int (μ.1 0 3)])) := ws_at (by decide) (Nat.lt_of_lt_of_le (by decide) hN) eo
theorem wo_15_1 {E : Ev} {σ : SM} {μ : OM} (eo : σ 15 = μ) (hN : 129 ≤ eN E) : (ws E σ)[lin 15 1]? = some (adr E 15 1, .inl (eC E 3, 20, .inr (.inr (.inr (.inr (fun j => (μ.2.2 1 j).map (eV E))))))) := ws_at (by decide) (Nat.lt_of_lt_of_le (by decide) hN) eo
theorem wo_15_2 {E : Ev} {σ : SM} {μ : OM} (eo : σ 15 = μ) (hN : 129 ≤ eN E) : (ws E σ)[lin 15 2]? = some (adr E 15 2, aI E 20 (μ.1 2)) := ws_at (by decide) (Nat.lt_of_lt_of_le (by decide) hN) eo
theorem wo_15_3 {E : Ev} {σ : SM} {μ : OM} (eo : σ 15 = μ) (hN : 129 ≤ eN E) : (ws E σ)[lin 15 3]? = some (adr E 15 3, aI E 20 (μ.1 3)) := ws_at (by decide) (Nat.lt_of_lt_of_le (by decide) hN) eo
theorem wo_16_0 {E : Ev} {σ : SM} {μ : OM} (eo : σ 16 = μ) (hN : 129 ≤ eN E) : (ws E σ)[lin 16 0]? = some (adr E 16 0, .inr (2, [.ref (adr E 16 1), .int (μ.1 0 1), .int (μ.1 0 2)])) := ws_at (by decide) (Nat.lt_of_lt_of_le (by decide) hN) eo
theorem wo_16_1 {E : Ev} {σ : SM} {μ : OM} (eo : σ 16 = μ) (hN : 129 ≤ eN E) : (ws E σ)[lin 16 1]? = some (adr E 16 1, .inl (eC E 4, 8, .inr (.inr (.inr (.inr (fun j => some (adr E (3 + j) 0))))))) := ws_at (by decide) (Nat.lt_of_lt_of_le (by decide) hN) eo
theorem wo_17_0 {E : Ev} {σ : SM} {μ : OM} (eo : σ 17 = μ) (hN : 129 ≤ eN E) : (ws E σ)[lin 17 0]? = some (adr E 17 0, .inr (0, [.ref (adr E 17 1), .ref (adr E 17 2), .ref (adr E 17 3), .ref (adr E 17 4), .int (μ.1 0 4)])) := ws_at (by decide) (Nat.lt_of_lt_of_le (by decide) hN) eo
theorem wo_17_1 {E : Ev} {σ : SM} {μ : OM} (eo : σ 17 = μ) (hN : 129 ≤ eN E) : (ws E σ)[lin 17 1]? = some (adr E 17 1, aI E 8 (μ.1 1)) := ws_at (by decide) (Nat.lt_of_lt_of_le (by decide) hN) eo
theorem wo_17_2 {E : Ev} {σ : SM} {μ : OM} (eo : σ 17 = μ) (hN : 129 ≤ eN E) : (ws E σ)[lin 17 2]? = some (adr E 17 2, aZ E 8 (μ.1 2)) := ws_at (by decide) (Nat.lt_of_lt_of_le (by decide) hN) eo
theorem wo_17_3 {E : Ev} {σ : SM} {μ : OM} (eo : σ 17 = μ) (hN : 129 ≤ eN E) : (ws E σ)[lin 17 3]? = some (adr E 17 3, aZ E 8 (μ.1 3)) := ws_at (by decide) (Nat.lt_of_lt_of_le (by decide) hN) eo
theorem wo_17_4 {E : Ev} {σ : SM} {μ : OM} (eo : σ 17 = μ) (hN : 129 ≤ eN E) : (ws E σ)[lin 17 4]? = some (adr E 17 4, aI E 8 (μ.1 4)) := ws_at (by decide) (Nat.lt_of_lt_of_le (by decide) hN) eo
theorem wo_18_0 {E : Ev} {σ : SM} {μ : OM} (eo : σ 18 = μ) (hN : 129 ≤ eN E) : (ws E σ)[lin 18 0]? = some (adr E 18 0, .inr (4, [.ref (adr E 18 1), .int (μ.1 0 1), .int (μ.1 0 2)])) := ws_at (by decide) (Nat.lt_of_lt_of_le (by decide) hN) eo
theorem wo_18_1 {E : Ev} {σ : SM} {μ : OM} (eo : σ 18 = μ) (hN : 129 ≤ eN E) : (ws E σ)[lin 18 1]? = some (adr E 18 1, aI E 256 (μ.1 1)) := ws_at (by decide) (Nat.lt_of_lt_of_le (by decide) hN) eo
theorem wo_19_0 {E : Ev} {σ : SM} {μ : OM} (eo : σ 19 = μ) (hN : 130 ≤ eN E) : (ws E σ)[lin 19 0]? = some (adr E 19 0, .inr (8, [.ref (adr E 11 0), .ref (adr E 14 0), .ref (adr E 15 0), .ref (adr E 0 0), .ref (adr E 1 0), .ref (adr E 2 0), .int (μ.1 0 6), .ref (adr E 16 0), .ref (adr E 17 0), .ref (adr E 18 0)])) := ws_at (by decide) (Nat.lt_of_lt_of_le (by decide) hN) eo
theorem wo_20_0 {E : Ev} {σ : SM} {μ : OM} (eo : σ 20 = μ) (hN : 151 ≤ eN E) : (ws E σ)[lin 20 0]? = some (adr E 20 0, .inr (9, [.ref (adr E 20 1), .ref (adr E 20 2), .ref (adr E 20 3), .ref (adr E 20 4), .ref (adr E 20 5), .ref (adr E 20 6), .ref (adr E 20 7), .ref (adr E 20 8), .ref (adr E 20 9), .ref (adr E 20 10), .ref (adr E 20 11), .ref (adr E 20 20), .int (μ.1 0 12), .int (μ.1 0 13), .int (μ.1 0 14), .int (μ.1 0 15), .int (μ.1 0 16), .int (μ.1 0 17)])) := ws_at (by decide) (Nat.lt_of_lt_of_le (by decide) hN) eo
theorem wo_20_1 {E : Ev} {σ : SM} {μ : OM} (eo : σ 20 = μ) (hN : 151 ≤ eN E) : (ws E σ)[lin 20 1]? = some (adr E 20 1, .inl (eC E 5, 700, .inl (μ.1 1))) := ws_at (by decide) (Nat.lt_of_lt_of_le (by decide) hN) eo
theorem wo_20_2 {E : Ev} {σ : SM} {μ : OM} (eo : σ 20 = μ) (hN : 151 ≤ eN E) : (ws E σ)[lin 20 2]? = some (adr E 20 2, aI E 8 (μ.1 2)) := ws_at (by decide) (Nat.lt_of_lt_of_le (by decide) hN) eo
theorem wo_20_3 {E : Ev} {σ : SM} {μ : OM} (eo : σ 20 = μ) (hN : 151 ≤ eN E) : (ws E σ)[lin 20 3]? = some (adr E 20 3, aI E 8 (μ.1 3)) := ws_at (by decide) (Nat.lt_of_lt_of_le (by decide) hN) eo
theorem wo_20_4 {E : Ev} {σ : SM} {μ : OM} (eo : σ 20 = μ) (hN : 151 ≤ eN E) : (ws E σ)[lin 20 4]? = some (adr E 20 4, aI E 8 (μ.1 4)) := ws_at (by decide) (Nat.lt_of_lt_of_le (by decide) hN) eo
theorem wo_20_5 {E : Ev} {σ : SM} {μ : OM} (eo : σ 20 = μ) (hN : 151 ≤ eN E) : (ws E σ)[lin 20 5]? = some (adr E 20 5, aI E 8 (μ.1 5)) := ws_at (by decide) (Nat.lt_of_lt_of_le (by decide) hN) eo
theorem wo_20_6 {E : Ev} {σ : SM} {μ : OM} (eo : σ 20 = μ) (hN : 151 ≤ eN E) : (ws E σ)[lin 20 6]? = some (adr E 20 6, aI E 8 (μ.1 6)) := ws_at (by decide) (Nat.lt_of_lt_of_le (by decide) hN) eo
theorem wo_20_7 {E : Ev} {σ : SM} {μ : OM} (eo : σ 20 = μ) (hN : 151 ≤ eN E) : (ws E σ)[lin 20 7]? = some (adr E 20 7, aI E 8 (μ.1 7)) := ws_at (by decide) (Nat.lt_of_lt_of_le (by decide) hN) eo
theorem wo_20_8 {E : Ev} {σ : SM} {μ : OM} (eo : σ 20 = μ) (hN : 151 ≤ eN E) : (ws E σ)[lin 20 8]? = some (adr E 20 8, aI E 8 (μ.1 8)) := ws_at (by decide) (Nat.lt_of_lt_of_le (by decide) hN) eo
theorem wo_20_9 {E : Ev} {σ : SM} {μ : OM} (eo : σ 20 = μ) (hN : 151 ≤ eN E) : (ws E σ)[lin 20 9]? = some (adr E 20 9, aI E 8 (μ.1 9)) := ws_at (by decide) (Nat.lt_of_lt_of_le (by decide) hN) eo
theorem wo_20_10 {E : Ev} {σ : SM} {μ : OM} (eo : σ 20 = μ) (hN : 151 ≤ eN E) : (ws E σ)[lin 20 10]? = some (adr E 20 10, aI E 8 (μ.1 10)) := ws_at (by decide) (Nat.lt_of_lt_of_le (by decide) hN) eo
theorem wo_20_11 {E : Ev} {σ : SM} {μ : OM} (eo : σ 20 = μ) (hN : 151 ≤ eN E) : (ws E σ)[lin 20 11]? = some (adr E 20 11, .inl (eC E 6, 8, .inr (.inr (.inr (.inr (fun i => if i < 8 then some (adr E 20 (12 + i)) else none)))))) := ws_at (by decide) (Nat.lt_of_lt_of_le (by decide) hN) eo
theorem wo_20_12 {E : Ev} {σ : SM} {μ : OM} (eo : σ 20 = μ) (hN : 151 ≤ eN E) : (ws E σ)[lin 20 12]? = some (adr E 20 12, aI E 8 (μ.1 12)) := ws_at (by decide) (Nat.lt_of_lt_of_le (by decide) hN) eo
theorem wo_20_13 {E : Ev} {σ : SM} {μ : OM} (eo : σ 20 = μ) (hN : 151 ≤ eN E) : (ws E σ)[lin 20 13]? = some (adr E 20 13, aI E 8 (μ.1 13)) := ws_at (by decide) (Nat.lt_of_lt_of_le (by decide) hN) eo
theorem wo_20_14 {E : Ev} {σ : SM} {μ : OM} (eo : σ 20 = μ) (hN : 151 ≤ eN E) : (ws E σ)[lin 20 14]? = some (adr E 20 14, aI E 8 (μ.1 14)) := ws_at (by decide) (Nat.lt_of_lt_of_le (by decide) hN) eo
theorem wo_20_15 {E : Ev} {σ : SM} {μ : OM} (eo : σ 20 = μ) (hN : 151 ≤ eN E) : (ws E σ)[lin 20 15]? = some (adr E 20 15, aI E 8 (μ.1 15)) := ws_at (by decide) (Nat.lt_of_lt_of_le (by decide) hN) eo
theorem wo_20_16 {E : Ev} {σ : SM} {μ : OM} (eo : σ 20 = μ) (hN : 151 ≤ eN E) : (ws E σ)[lin 20 16]? = some (adr E 20 16, aI E 8 (μ.1 16)) := ws_at (by decide) (Nat.lt_of_lt_of_le (by decide) hN) eo
theorem wo_20_17 {E : Ev} {σ : SM} {μ : OM} (eo : σ 20 = μ) (hN : 151 ≤ eN E) : (ws E σ)[lin 20 17]? = some (adr E 20 17, aI E 8 (μ.1 17)) := ws_at (by decide) (Nat.lt_of_lt_of_le (by decide) hN) eo
theorem wo_20_18 {E : Ev} {σ : SM} {μ : OM} (eo : σ 20 = μ) (hN : 151 ≤ eN E) : (ws E σ)[lin 20 18]? = some (adr E 20 18, aI E 8 (μ.1 18)) := ws_at (by decide) (Nat.lt_of_lt_of_le (by decide) hN) eo
theorem wo_20_19 {E : Ev} {σ : SM} {μ : OM} (eo : σ 20 = μ) (hN : 151 ≤ eN E) : (ws E σ)[lin 20 19]? = some (adr E 20 19, aI E 8 (μ.1 19)) := ws_at (by decide) (Nat.lt_of_lt_of_le (by decide) hN) eo
theorem wo_20_20 {E : Ev} {σ : SM} {μ : OM} (eo : σ 20 = μ) (hN : 151 ≤ eN E) : (ws E σ)[lin 20 20]? = some (adr E 20 20, aZ E 8 (μ.1 20)) := ws_at (by decide) (Nat.lt_of_lt_of_le (by decide) hN) eo
section ROWS
variable {p : Program} {l : Launch} {e : Env} {R : Room} {s : State} {m : MethodId} {args : Array Value} {below : List Frame} {meth : Method} {c : Code} {H : Heap} {locs : List Loc} {cells slots : Nat} {Q : State → Prop}
variable {E : Ev} {σ : SM} {cc : ByteArray} {nL pc : Nat} {ret : Option FieldType} {ls : Array Slot} {rest : List Value}
theorem gF_X12_12 {μ : OM} (eo : σ 19 = μ) (hN : 130 ≤ eN E) (cx : Cx E p s m meth c args RX12 cc nL ret) (hp : Hp E σ s H locs) (hdg : decode cc pc = .ok (.getfield 12, 3)) (kk : W p l e R s m args below meth c H locs cells slots Q (F0 m (pc + 3) ls (.ref (adr E 14 0) :: rest))) : W p l e R s m args below meth c H locs cells slots Q (F0 m pc ls (.ref (adr E 19 0) :: rest)) := va_get (D := eD E) (ci := 8) (C := RX12) (T := TX12) (N := 10) cx.1.1 cx.1.2.1 cx.1.2.2.2.2 inB_X12 cx.1.2.2.2.1 cx.2.2.1.2.1 hp.1.1 (lin 19 0) (wo_19_0 eo hN) rfl 1 (by decide) (cx.1.2.2.2.2 _ qF_X12_12) (fun _ h => h) rfl hdg kk
theorem gF_X12_19 {μ : OM} (eo : σ 19 = μ) (hN : 130 ≤ eN E) (cx : Cx E p s m meth c args RX12 cc nL ret) (hp : Hp E σ s H locs) (hdg : decode cc pc = .ok (.getfield 19, 3)) (kk : W p l e R s m args below meth c H locs cells slots Q (F0 m (pc + 3) ls (.ref (adr E 15 0) :: rest))) : W p l e R s m args below meth c H locs cells slots Q (F0 m pc ls (.ref (adr E 19 0) :: rest)) := va_get (D := eD E) (ci := 8) (C := RX12) (T := TX12) (N := 10) cx.1.1 cx.1.2.1 cx.1.2.2.2.2 inB_X12 cx.1.2.2.2.1 cx.2.2.1.2.1 hp.1.1 (lin 19 0) (wo_19_0 eo hN) rfl 2 (by decide) (cx.1.2.2.2.2 _ qF_X12_19) (fun _ h => h) rfl hdg kk
theorem gF_X12_26 {μ : OM} (eo : σ 19 = μ) (hN : 130 ≤ eN E) (cx : Cx E p s m meth c args RX12 cc nL ret) (hp : Hp E σ s H locs) (hdg : decode cc pc = .ok (.getfield 26, 3)) (kk : W p l e R s m args below meth c H locs cells slots Q (F0 m (pc + 3) ls (.ref (adr E 1 0) :: rest))) : W p l e R s m args below meth c H locs cells slots Q (F0 m pc ls (.ref (adr E 19 0) :: rest)) := va_get (D := eD E) (ci := 8) (C := RX12) (T := TX12) (N := 10) cx.1.1 cx.1.2.1 cx.1.2.2.2.2 inB_X12 cx.1.2.2.2.1 cx.2.2.1.2.1 hp.1.1 (lin 19 0) (wo_19_0 eo hN) rfl 4 (by decide) (cx.1.2.2.2.2 _ qF_X12_26) (fun _ h => h) rfl hdg kk
theorem gF_X12_30 {μ : OM} (eo : σ 19 = μ) (hN : 130 ≤ eN E) (cx : Cx E p s m meth c args RX12 cc nL ret) (hp : Hp E σ s H locs) (hdg : decode cc pc = .ok (.getfield 30, 3)) (kk : W p l e R s m args below meth c H locs cells slots Q (F0 m (pc + 3) ls (.ref (adr E 2 0) :: rest))) : W p l e R s m args below meth c H locs cells slots Q (F0 m pc ls (.ref (adr E 19 0) :: rest)) := va_get (D := eD E) (ci := 8) (C := RX12) (T := TX12) (N := 10) cx.1.1 cx.1.2.1 cx.1.2.2.2.2 inB_X12 cx.1.2.2.2.1 cx.2.2.1.2.1 hp.1.1 (lin 19 0) (wo_19_0 eo hN) rfl 5 (by decide) (cx.1.2.2.2.2 _ qF_X12_30) (fun _ h => h) rfl hdg kk
theorem gF_X12_33 {μ : OM} (eo : σ 19 = μ) (hN : 130 ≤ eN E) (cx : Cx E p s m meth c args RX12 cc nL ret) (hp : Hp E σ s H locs) (hdg : decode cc pc = .ok (.getfield 33, 3)) (kk : W p l e R s m args below meth c H locs cells slots Q (F0 m (pc + 3) ls (.int (μ.1 0 6) :: rest))) : W p l e R s m args below meth c H locs cells slots Q (F0 m pc ls (.ref (adr E 19 0) :: rest)) := va_get (D := eD E) (ci := 8) (C := RX12) (T := TX12) (N := 10) cx.1.1 cx.1.2.1 cx.1.2.2.2.2 inB_X12 cx.1.2.2.2.1 cx.2.2.1.2.1 hp.1.1 (lin 19 0) (wo_19_0 eo hN) rfl 6 (by decide) (cx.1.2.2.2.2 _ qF_X12_33) (fun _ h => h) rfl hdg kk
theorem pF_X12_33 {μ : OM} (eo : σ 19 = μ) (hN : 130 ≤ eN E) (cx : Cx E p s m meth c args RX12 cc nL ret) (hp : Hp E σ s H locs) {v : Int32} (hn : narrow .boolean (.int v) = .int v) (hf : fits .boolean (.int v) = true) (hdg : decode cc pc = .ok (.putfield 33, 3)) (kk : ∀ (u : SM) (H1 : Heap) (locs1 : List Loc), u 19 = wI μ 0 6 v → (∀ q, q ≠ 19 → u q = σ q) → Hp E u s H1 locs1 → W p l e R s m args below meth c H1 locs1 cells slots Q (F0 m (pc + 3) ls rest)) : W p l e R s m args below meth c H locs cells slots Q (F0 m pc ls (.int v :: .ref (adr E 19 0) :: rest)) := va_put (D := eD E) (ci := 8) (C := RX12) (T := TX12) (N := 10) cx.1.1 cx.1.2.1 cx.1.2.2.2.2 inB_X12 tyX12 tyX12_ok nmX12 cx.1.2.2.2.1 cx.2.2.1.2.1 hp.1.1 hp.1.2.1 hp.2 (lin 19 0) (wo_19_0 eo hN) rfl 6 (by decide) (cx.1.2.2.2.2 _ qF_X12_33) (fun _ h => h) rfl (ty := .boolean) (v := .int v) (by decide +kernel) hn hf (Nat.le_of_ble_eq_true rfl) hdg (fun H1 locs1 hP hD hS => kk (us σ 19 (wI μ 0 6 v)) H1 locs1 (us_s _ _ _) (fun q h => us_n h) (hp_put cx ((by decide)) ((Nat.lt_of_lt_of_le (by decide) hN)) eo (wI_o μ 0 6 v) rfl hP hD hS))
theorem gF_X12_40 {μ : OM} (eo : σ 19 = μ) (hN : 130 ≤ eN E) (cx : Cx E p s m meth c args RX12 cc nL ret) (hp : Hp E σ s H locs) (hdg : decode cc pc = .ok (.getfield 40, 3)) (kk : W p l e R s m args below meth c H locs cells slots Q (F0 m (pc + 3) ls (.ref (adr E 16 0) :: rest))) : W p l e R s m args below meth c H locs cells slots Q (F0 m pc ls (.ref (adr E 19 0) :: rest)) := va_get (D := eD E) (ci := 8) (C := RX12) (T := TX12) (N := 10) cx.1.1 cx.1.2.1 cx.1.2.2.2.2 inB_X12 cx.1.2.2.2.1 cx.2.2.1.2.1 hp.1.1 (lin 19 0) (wo_19_0 eo hN) rfl 7 (by decide) (cx.1.2.2.2.2 _ qF_X12_40) (fun _ h => h) rfl hdg kk
theorem gF_X12_47 {μ : OM} (eo : σ 19 = μ) (hN : 130 ≤ eN E) (cx : Cx E p s m meth c args RX12 cc nL ret) (hp : Hp E σ s H locs) (hdg : decode cc pc = .ok (.getfield 47, 3)) (kk : W p l e R s m args below meth c H locs cells slots Q (F0 m (pc + 3) ls (.ref (adr E 17 0) :: rest))) : W p l e R s m args below meth c H locs cells slots Q (F0 m pc ls (.ref (adr E 19 0) :: rest)) := va_get (D := eD E) (ci := 8) (C := RX12) (T := TX12) (N := 10) cx.1.1 cx.1.2.1 cx.1.2.2.2.2 inB_X12 cx.1.2.2.2.1 cx.2.2.1.2.1 hp.1.1 (lin 19 0) (wo_19_0 eo hN) rfl 8 (by decide) (cx.1.2.2.2.2 _ qF_X12_47) (fun _ h => h) rfl hdg kk
theorem gF_X12_54 {μ : OM} (eo : σ 19 = μ) (hN : 130 ≤ eN E) (cx : Cx E p s m meth c args RX12 cc nL ret) (hp : Hp E σ s H locs) (hdg : decode cc pc = .ok (.getfield 54, 3)) (kk : W p l e R s m args below meth c H locs cells slots Q (F0 m (pc + 3) ls (.ref (adr E 18 0) :: rest))) : W p l e R s m args below meth c H locs cells slots Q (F0 m pc ls (.ref (adr E 19 0) :: rest)) := va_get (D := eD E) (ci := 8) (C := RX12) (T := TX12) (N := 10) cx.1.1 cx.1.2.1 cx.1.2.2.2.2 inB_X12 cx.1.2.2.2.1 cx.2.2.1.2.1 hp.1.1 (lin 19 0) (wo_19_0 eo hN) rfl 9 (by decide) (cx.1.2.2.2.2 _ qF_X12_54) (fun _ h => h) rfl hdg kk
theorem gF_X12_69 {μ : OM} (eo : σ 11 = μ) (hN : 129 ≤ eN E) (cx : Cx E p s m meth c args RX12 cc nL ret) (hp : Hp E σ s H locs) (hdg : decode cc pc = .ok (.getfield 69, 3)) (kk : W p l e R s m args below meth c H locs cells slots Q (F0 m (pc + 3) ls (.ref (adr E 12 0) :: rest))) : W p l e R s m args below meth c H locs cells slots Q (F0 m pc ls (.ref (adr E 11 0) :: rest)) := va_getN (D := eD E) (ci := 5) (C := RX7) (T := TX7) (N := 3) cx.1.1 cx.1.2.1 cx.1.2.2.2.2 inB_X7 cx.1.2.2.2.1 cx.2.2.1.2.1 hp.1.1 (lin 11 0) (wo_11_0 eo hN) rfl 0 (by decide) (va_Nw.use (nb_tab qF_X12_69) (cx.2.2.1.2.2.1 _ qF_X12_69)) (fun _ h => h) rfl hdg kk
theorem gF_X12_73 {μ : OM} (eo : σ 12 = μ) (hN : 129 ≤ eN E) (cx : Cx E p s m meth c args RX12 cc nL ret) (hp : Hp E σ s H locs) (hdg : decode cc pc = .ok (.getfield 73, 3)) (kk : W p l e R s m args below meth c H locs cells slots Q (F0 m (pc + 3) ls (.ref (adr E 13 0) :: rest))) : W p l e R s m args below meth c H locs cells slots Q (F0 m pc ls (.ref (adr E 12 0) :: rest)) := va_getN (D := eD E) (ci := 7) (C := RX10) (T := TX10) (N := 6) cx.1.1 cx.1.2.1 cx.1.2.2.2.2 inB_X10 cx.1.2.2.2.1 cx.2.2.1.2.1 hp.1.1 (lin 12 0) (wo_12_0 eo hN) rfl 0 (by decide) (va_Nw.use (nb_tab qF_X12_73) (cx.2.2.1.2.2.1 _ qF_X12_73)) (fun _ h => h) rfl hdg kk
theorem gF_X12_95 {μ : OM} (eo : σ 19 = μ) (hN : 130 ≤ eN E) (cx : Cx E p s m meth c args RX12 cc nL ret) (hp : Hp E σ s H locs) (hdg : decode cc pc = .ok (.getfield 95, 3)) (kk : W p l e R s m args below meth c H locs cells slots Q (F0 m (pc + 3) ls (.ref (adr E 11 0) :: rest))) : W p l e R s m args below meth c H locs cells slots Q (F0 m pc ls (.ref (adr E 19 0) :: rest)) := va_get (D := eD E) (ci := 8) (C := RX12) (T := TX12) (N := 10) cx.1.1 cx.1.2.1 cx.1.2.2.2.2 inB_X12 cx.1.2.2.2.1 cx.2.2.1.2.1 hp.1.1 (lin 19 0) (wo_19_0 eo hN) rfl 0 (by decide) (cx.1.2.2.2.2 _ qF_X12_95) (fun _ h => h) rfl hdg kk
theorem gF_X12_99 {μ : OM} (eo : σ 19 = μ) (hN : 130 ≤ eN E) (cx : Cx E p s m meth c args RX12 cc nL ret) (hp : Hp E σ s H locs) (hdg : decode cc pc = .ok (.getfield 99, 3)) (kk : W p l e R s m args below meth c H locs cells slots Q (F0 m (pc + 3) ls (.ref (adr E 0 0) :: rest))) : W p l e R s m args below meth c H locs cells slots Q (F0 m pc ls (.ref (adr E 19 0) :: rest)) := va_get (D := eD E) (ci := 8) (C := RX12) (T := TX12) (N := 10) cx.1.1 cx.1.2.1 cx.1.2.2.2.2 inB_X12 cx.1.2.2.2.1 cx.2.2.1.2.1 hp.1.1 (lin 19 0) (wo_19_0 eo hN) rfl 3 (by decide) (cx.1.2.2.2.2 _ qF_X12_99) (fun _ h => h) rfl hdg kk
theorem gF_X12_102_13 {μ : OM} (eo : σ 13 = μ) (hN : 129 ≤ eN E) (cx : Cx E p s m meth c args RX12 cc nL ret) (hp : Hp E σ s H locs) (hdg : decode cc pc = .ok (.getfield 102, 3)) (kk : W p l e R s m args below meth c H locs cells slots Q (F0 m (pc + 3) ls (.int (μ.1 0 1) :: rest))) : W p l e R s m args below meth c H locs cells slots Q (F0 m pc ls (.ref (adr E 13 0) :: rest)) := va_getN (D := eD E) (ci := 1) (C := RX2) (T := TX2) (N := 2) cx.1.1 cx.1.2.1 cx.1.2.2.2.2 inB_X2 cx.1.2.2.2.1 cx.2.2.1.2.1 hp.1.1 (lin 13 0) (wo_13_0 eo hN) rfl 1 (by decide) (va_Nw.use (nb_tab qF_X12_102) (cx.2.2.1.2.2.1 _ qF_X12_102)) (fun _ h => h) rfl hdg kk
theorem pF_X12_102_13 {μ : OM} (eo : σ 13 = μ) (hN : 129 ≤ eN E) (cx : Cx E p s m meth c args RX12 cc nL ret) (hp : Hp E σ s H locs) {v : Int32} (hdg : decode cc pc = .ok (.putfield 102, 3)) (kk : ∀ (u : SM) (H1 : Heap) (locs1 : List Loc), u 13 = wI μ 0 1 v → (∀ q, q ≠ 13 → u q = σ q) → Hp E u s H1 locs1 → W p l e R s m args below meth c H1 locs1 cells slots Q (F0 m (pc + 3) ls rest)) : W p l e R s m args below meth c H locs cells slots Q (F0 m pc ls (.int v :: .ref (adr E 13 0) :: rest)) := va_putN (D := eD E) (ci := 1) (C := RX2) (T := TX2) (N := 2) cx.1.1 cx.1.2.1 cx.1.2.2.2.2 inB_X2 tyX2 tyX2_ok nmX2 cx.1.2.2.2.1 cx.2.2.1.2.1 hp.1.1 hp.1.2.1 hp.2 (lin 13 0) (wo_13_0 eo hN) rfl 1 (by decide) (va_Nw.use (nb_tab qF_X12_102) (cx.2.2.1.2.2.1 _ qF_X12_102)) (fun _ h => h) rfl (ty := .int) (v := .int v) (by decide +kernel) rfl rfl (Nat.le_of_ble_eq_true rfl) hdg (fun H1 locs1 hP hD hS => kk (us σ 13 (wI μ 0 1 v)) H1 locs1 (us_s _ _ _) (fun q h => us_n h) (hp_put cx ((by decide)) ((Nat.lt_of_lt_of_le (by decide) hN)) eo (wI_o μ 0 1 v) rfl hP hD hS))
theorem gF_X12_102_14 {μ : OM} (eo : σ 14 = μ) (hN : 129 ≤ eN E) (cx : Cx E p s m meth c args RX12 cc nL ret) (hp : Hp E σ s H locs) (hdg : decode cc pc = .ok (.getfield 102, 3)) (kk : W p l e R s m args below meth c H locs cells slots Q (F0 m (pc + 3) ls (.int (μ.1 0 1) :: rest))) : W p l e R s m args below meth c H locs cells slots Q (F0 m pc ls (.ref (adr E 14 0) :: rest)) := va_getN (D := eD E) (ci := 1) (C := RX2) (T := TX2) (N := 2) cx.1.1 cx.1.2.1 cx.1.2.2.2.2 inB_X2 cx.1.2.2.2.1 cx.2.2.1.2.1 hp.1.1 (lin 14 0) (wo_14_0 eo hN) rfl 1 (by decide) (va_Nw.use (nb_tab qF_X12_102) (cx.2.2.1.2.2.1 _ qF_X12_102)) (fun _ h => h) rfl hdg kk
theorem pF_X12_102_14 {μ : OM} (eo : σ 14 = μ) (hN : 129 ≤ eN E) (cx : Cx E p s m meth c args RX12 cc nL ret) (hp : Hp E σ s H locs) {v : Int32} (hdg : decode cc pc = .ok (.putfield 102, 3)) (kk : ∀ (u : SM) (H1 : Heap) (locs1 : List Loc), u 14 = wI μ 0 1 v → (∀ q, q ≠ 14 → u q = σ q) → Hp E u s H1 locs1 → W p l e R s m args below meth c H1 locs1 cells slots Q (F0 m (pc + 3) ls rest)) : W p l e R s m args below meth c H locs cells slots Q (F0 m pc ls (.int v :: .ref (adr E 14 0) :: rest)) := va_putN (D := eD E) (ci := 1) (C := RX2) (T := TX2) (N := 2) cx.1.1 cx.1.2.1 cx.1.2.2.2.2 inB_X2 tyX2 tyX2_ok nmX2 cx.1.2.2.2.1 cx.2.2.1.2.1 hp.1.1 hp.1.2.1 hp.2 (lin 14 0) (wo_14_0 eo hN) rfl 1 (by decide) (va_Nw.use (nb_tab qF_X12_102) (cx.2.2.1.2.2.1 _ qF_X12_102)) (fun _ h => h) rfl (ty := .int) (v := .int v) (by decide +kernel) rfl rfl (Nat.le_of_ble_eq_true rfl) hdg (fun H1 locs1 hP hD hS => kk (us σ 14 (wI μ 0 1 v)) H1 locs1 (us_s _ _ _) (fun q h => us_n h) (hp_put cx ((by decide)) ((Nat.lt_of_lt_of_le (by decide) hN)) eo (wI_o μ 0 1 v) rfl hP hD hS))
theorem gF_X12_127 {o : Nat} (ho : o < 11) {μ : OM} (eo : σ o = μ) (hN : 129 ≤ eN E) (cx : Cx E p s m meth c args RX12 cc nL ret) (hp : Hp E σ s H locs) (hdg : decode cc pc = .ok (.getfield 127, 3)) (kk : W p l e R s m args below meth c H locs cells slots Q (F0 m (pc + 3) ls (.int (μ.1 0 0) :: rest))) : W p l e R s m args below meth c H locs cells slots Q (F0 m pc ls (.ref (adr E o 0) :: rest)) := va_getN (D := eD E) (ci := 3) (C := RX5) (T := TX5) (N := 18) cx.1.1 cx.1.2.1 cx.1.2.2.2.2 inB_X5 cx.1.2.2.2.1 cx.2.2.1.2.1 hp.1.1 (lin o 0) (wm_0 ho eo hN) rfl 0 (by decide) (va_Nw.use (nb_tab qF_X12_127) (cx.2.2.1.2.2.1 _ qF_X12_127)) (fun _ h => h) rfl hdg kk
theorem pF_X12_127 {o : Nat} (ho : o < 11) {μ : OM} (eo : σ o = μ) (hN : 129 ≤ eN E) (cx : Cx E p s m meth c args RX12 cc nL ret) (hp : Hp E σ s H locs) {v : Int32} (hdg : decode cc pc = .ok (.putfield 127, 3)) (kk : ∀ (u : SM) (H1 : Heap) (locs1 : List Loc), u o = wI μ 0 0 v → (∀ q, q ≠ o → u q = σ q) → Hp E u s H1 locs1 → W p l e R s m args below meth c H1 locs1 cells slots Q (F0 m (pc + 3) ls rest)) : W p l e R s m args below meth c H locs cells slots Q (F0 m pc ls (.int v :: .ref (adr E o 0) :: rest)) := va_putN (D := eD E) (ci := 3) (C := RX5) (T := TX5) (N := 18) cx.1.1 cx.1.2.1 cx.1.2.2.2.2 inB_X5 tyX5 tyX5_ok nmX5 cx.1.2.2.2.1 cx.2.2.1.2.1 hp.1.1 hp.1.2.1 hp.2 (lin o 0) (wm_0 ho eo hN) rfl 0 (by decide) (va_Nw.use (nb_tab qF_X12_127) (cx.2.2.1.2.2.1 _ qF_X12_127)) (fun _ h => h) rfl (ty := .int) (v := .int v) (by decide +kernel) rfl rfl (Nat.le_of_ble_eq_true rfl) hdg (fun H1 locs1 hP hD hS => kk (us σ o (wI μ 0 0 v)) H1 locs1 (us_s _ _ _) (fun q h => us_n h) (hp_put cx (dec_M ho (by decide)) (lin_lt ho (by decide) hN) eo (wI_o μ 0 0 v) ((cel_M ho 0 _).trans rfl) hP hD hS))
theorem gF_X12_145 {o : Nat} (ho : o < 11) {μ : OM} (eo : σ o = μ) (hN : 129 ≤ eN E) (cx : Cx E p s m meth c args RX12 cc nL ret) (hp : Hp E σ s H locs) (hdg : decode cc pc = .ok (.getfield 145, 3)) (kk : W p l e R s m args below meth c H locs cells slots Q (F0 m (pc + 3) ls (.int (μ.1 0 1) :: rest))) : W p l e R s m args below meth c H locs cells slots Q (F0 m pc ls (.ref (adr E o 0) :: rest)) := va_getN (D := eD E) (ci := 3) (C := RX5) (T := TX5) (N := 18) cx.1.1 cx.1.2.1 cx.1.2.2.2.2 inB_X5 cx.1.2.2.2.1 cx.2.2.1.2.1 hp.1.1 (lin o 0) (wm_0 ho eo hN) rfl 1 (by decide) (va_Nw.use (nb_tab qF_X12_145) (cx.2.2.1.2.2.1 _ qF_X12_145)) (fun _ h => h) rfl hdg kk
theorem pF_X12_145 {o : Nat} (ho : o < 11) {μ : OM} (eo : σ o = μ) (hN : 129 ≤ eN E) (cx : Cx E p s m meth c args RX12 cc nL ret) (hp : Hp E σ s H locs) {v : Int32} (hdg : decode cc pc = .ok (.putfield 145, 3)) (kk : ∀ (u : SM) (H1 : Heap) (locs1 : List Loc), u o = wI μ 0 1 v → (∀ q, q ≠ o → u q = σ q) → Hp E u s H1 locs1 → W p l e R s m args below meth c H1 locs1 cells slots Q (F0 m (pc + 3) ls rest)) : W p l e R s m args below meth c H locs cells slots Q (F0 m pc ls (.int v :: .ref (adr E o 0) :: rest)) := va_putN (D := eD E) (ci := 3) (C := RX5) (T := TX5) (N := 18) cx.1.1 cx.1.2.1 cx.1.2.2.2.2 inB_X5 tyX5 tyX5_ok nmX5 cx.1.2.2.2.1 cx.2.2.1.2.1 hp.1.1 hp.1.2.1 hp.2 (lin o 0) (wm_0 ho eo hN) rfl 1 (by decide) (va_Nw.use (nb_tab qF_X12_145) (cx.2.2.1.2.2.1 _ qF_X12_145)) (fun _ h => h) rfl (ty := .int) (v := .int v) (by decide +kernel) rfl rfl (Nat.le_of_ble_eq_true rfl) hdg (fun H1 locs1 hP hD hS => kk (us σ o (wI μ 0 1 v)) H1 locs1 (us_s _ _ _) (fun q h => us_n h) (hp_put cx (dec_M ho (by decide)) (lin_lt ho (by decide) hN) eo (wI_o μ 0 1 v) ((cel_M ho 0 _).trans rfl) hP hD hS))
theorem gF_X12_148 {o : Nat} (ho : o < 11) {μ : OM} (eo : σ o = μ) (hN : 129 ≤ eN E) (cx : Cx E p s m meth c args RX12 cc nL ret) (hp : Hp E σ s H locs) (hdg : decode cc pc = .ok (.getfield 148, 3)) (kk : W p l e R s m args below meth c H locs cells slots Q (F0 m (pc + 3) ls (.int (μ.1 0 2) :: rest))) : W p l e R s m args below meth c H locs cells slots Q (F0 m pc ls (.ref (adr E o 0) :: rest)) := va_getN (D := eD E) (ci := 3) (C := RX5) (T := TX5) (N := 18) cx.1.1 cx.1.2.1 cx.1.2.2.2.2 inB_X5 cx.1.2.2.2.1 cx.2.2.1.2.1 hp.1.1 (lin o 0) (wm_0 ho eo hN) rfl 2 (by decide) (va_Nw.use (nb_tab qF_X12_148) (cx.2.2.1.2.2.1 _ qF_X12_148)) (fun _ h => h) rfl hdg kk
theorem pF_X12_148 {o : Nat} (ho : o < 11) {μ : OM} (eo : σ o = μ) (hN : 129 ≤ eN E) (cx : Cx E p s m meth c args RX12 cc nL ret) (hp : Hp E σ s H locs) {v : Int32} (hdg : decode cc pc = .ok (.putfield 148, 3)) (kk : ∀ (u : SM) (H1 : Heap) (locs1 : List Loc), u o = wI μ 0 2 v → (∀ q, q ≠ o → u q = σ q) → Hp E u s H1 locs1 → W p l e R s m args below meth c H1 locs1 cells slots Q (F0 m (pc + 3) ls rest)) : W p l e R s m args below meth c H locs cells slots Q (F0 m pc ls (.int v :: .ref (adr E o 0) :: rest)) := va_putN (D := eD E) (ci := 3) (C := RX5) (T := TX5) (N := 18) cx.1.1 cx.1.2.1 cx.1.2.2.2.2 inB_X5 tyX5 tyX5_ok nmX5 cx.1.2.2.2.1 cx.2.2.1.2.1 hp.1.1 hp.1.2.1 hp.2 (lin o 0) (wm_0 ho eo hN) rfl 2 (by decide) (va_Nw.use (nb_tab qF_X12_148) (cx.2.2.1.2.2.1 _ qF_X12_148)) (fun _ h => h) rfl (ty := .int) (v := .int v) (by decide +kernel) rfl rfl (Nat.le_of_ble_eq_true rfl) hdg (fun H1 locs1 hP hD hS => kk (us σ o (wI μ 0 2 v)) H1 locs1 (us_s _ _ _) (fun q h => us_n h) (hp_put cx (dec_M ho (by decide)) (lin_lt ho (by decide) hN) eo (wI_o μ 0 2 v) ((cel_M ho 0 _).trans rfl) hP hD hS))
theorem gF_X12_274 {o : Nat} (ho : o < 11) {μ : OM} (eo : σ o = μ) (hN : 129 ≤ eN E) (cx : Cx E p s m meth c args RX12 cc nL ret) (hp : Hp E σ s H locs) (hdg : decode cc pc = .ok (.getfield 274, 3)) (kk : W p l e R s m args below meth c H locs cells slots Q (F0 m (pc + 3) ls (.int (μ.1 0 3) :: rest))) : W p l e R s m args below meth c H locs cells slots Q (F0 m pc ls (.ref (adr E o 0) :: rest)) := va_getN (D := eD E) (ci := 3) (C := RX5) (T := TX5) (N := 18) cx.1.1 cx.1.2.1 cx.1.2.2.2.2 inB_X5 cx.1.2.2.2.1 cx.2.2.1.2.1 hp.1.1 (lin o 0) (wm_0 ho eo hN) rfl 3 (by decide) (va_Nw.use (nb_tab qF_X12_274) (cx.2.2.1.2.2.1 _ qF_X12_274)) (fun _ h => h) rfl hdg kk
theorem pF_X12_274 {o : Nat} (ho : o < 11) {μ : OM} (eo : σ o = μ) (hN : 129 ≤ eN E) (cx : Cx E p s m meth c args RX12 cc nL ret) (hp : Hp E σ s H locs) {v : Int32} (hdg : decode cc pc = .ok (.putfield 274, 3)) (kk : ∀ (u : SM) (H1 : Heap) (locs1 : List Loc), u o = wI μ 0 3 v → (∀ q, q ≠ o → u q = σ q) → Hp E u s H1 locs1 → W p l e R s m args below meth c H1 locs1 cells slots Q (F0 m (pc + 3) ls rest)) : W p l e R s m args below meth c H locs cells slots Q (F0 m pc ls (.int v :: .ref (adr E o 0) :: rest)) := va_putN (D := eD E) (ci := 3) (C := RX5) (T := TX5) (N := 18) cx.1.1 cx.1.2.1 cx.1.2.2.2.2 inB_X5 tyX5 tyX5_ok nmX5 cx.1.2.2.2.1 cx.2.2.1.2.1 hp.1.1 hp.1.2.1 hp.2 (lin o 0) (wm_0 ho eo hN) rfl 3 (by decide) (va_Nw.use (nb_tab qF_X12_274) (cx.2.2.1.2.2.1 _ qF_X12_274)) (fun _ h => h) rfl (ty := .int) (v := .int v) (by decide +kernel) rfl rfl (Nat.le_of_ble_eq_true rfl) hdg (fun H1 locs1 hP hD hS => kk (us σ o (wI μ 0 3 v)) H1 locs1 (us_s _ _ _) (fun q h => us_n h) (hp_put cx (dec_M ho (by decide)) (lin_lt ho (by decide) hN) eo (wI_o μ 0 3 v) ((cel_M ho 0 _).trans rfl) hP hD hS))
theorem gF_X12_277 {o : Nat} (ho : o < 11) {μ : OM} (eo : σ o = μ) (hN : 129 ≤ eN E) (cx : Cx E p s m meth c args RX12 cc nL ret) (hp : Hp E σ s H locs) (hdg : decode cc pc = .ok (.getfield 277, 3)) (kk : W p l e R s m args below meth c H locs cells slots Q (F0 m (pc + 3) ls (.int (μ.1 0 4) :: rest))) : W p l e R s m args below meth c H locs cells slots Q (F0 m pc ls (.ref (adr E o 0) :: rest)) := va_getN (D := eD E) (ci := 3) (C := RX5) (T := TX5) (N := 18) cx.1.1 cx.1.2.1 cx.1.2.2.2.2 inB_X5 cx.1.2.2.2.1 cx.2.2.1.2.1 hp.1.1 (lin o 0) (wm_0 ho eo hN) rfl 4 (by decide) (va_Nw.use (nb_tab qF_X12_277) (cx.2.2.1.2.2.1 _ qF_X12_277)) (fun _ h => h) rfl hdg kk
theorem pF_X12_277 {o : Nat} (ho : o < 11) {μ : OM} (eo : σ o = μ) (hN : 129 ≤ eN E) (cx : Cx E p s m meth c args RX12 cc nL ret) (hp : Hp E σ s H locs) {v : Int32} (hdg : decode cc pc = .ok (.putfield 277, 3)) (kk : ∀ (u : SM) (H1 : Heap) (locs1 : List Loc), u o = wI μ 0 4 v → (∀ q, q ≠ o → u q = σ q) → Hp E u s H1 locs1 → W p l e R s m args below meth c H1 locs1 cells slots Q (F0 m (pc + 3) ls rest)) : W p l e R s m args below meth c H locs cells slots Q (F0 m pc ls (.int v :: .ref (adr E o 0) :: rest)) := va_putN (D := eD E) (ci := 3) (C := RX5) (T := TX5) (N := 18) cx.1.1 cx.1.2.1 cx.1.2.2.2.2 inB_X5 tyX5 tyX5_ok nmX5 cx.1.2.2.2.1 cx.2.2.1.2.1 hp.1.1 hp.1.2.1 hp.2 (lin o 0) (wm_0 ho eo hN) rfl 4 (by decide) (va_Nw.use (nb_tab qF_X12_277) (cx.2.2.1.2.2.1 _ qF_X12_277)) (fun _ h => h) rfl (ty := .int) (v := .int v) (by decide +kernel) rfl rfl (Nat.le_of_ble_eq_true rfl) hdg (fun H1 locs1 hP hD hS => kk (us σ o (wI μ 0 4 v)) H1 locs1 (us_s _ _ _) (fun q h => us_n h) (hp_put cx (dec_M ho (by decide)) (lin_lt ho (by decide) hN) eo (wI_o μ 0 4 v) ((cel_M ho 0 _).trans rfl) hP hD hS))
theorem gF_X12_286 {o : Nat} (ho : o < 11) {μ : OM} (eo : σ o = μ) (hN : 129 ≤ eN E) (cx : Cx E p s m meth c args RX12 cc nL ret) (hp : Hp E σ s H locs) (hdg : decode cc pc = .ok (.getfield 286, 3)) (kk : W p l e R s m args below meth c H locs cells slots Q (F0 m (pc + 3) ls (.int (μ.1 0 7) :: rest))) : W p l e R s m args below meth c H locs cells slots Q (F0 m pc ls (.ref (adr E o 0) :: rest)) := va_getN (D := eD E) (ci := 3) (C := RX5) (T := TX5) (N := 18) cx.1.1 cx.1.2.1 cx.1.2.2.2.2 inB_X5 cx.1.2.2.2.1 cx.2.2.1.2.1 hp.1.1 (lin o 0) (wm_0 ho eo hN) rfl 7 (by decide) (va_Nw.use (nb_tab qF_X12_286) (cx.2.2.1.2.2.1 _ qF_X12_286)) (fun _ h => h) rfl hdg kk
theorem pF_X12_286 {o : Nat} (ho : o < 11) {μ : OM} (eo : σ o = μ) (hN : 129 ≤ eN E) (cx : Cx E p s m meth c args RX12 cc nL ret) (hp : Hp E σ s H locs) {v : Int32} (hdg : decode cc pc = .ok (.putfield 286, 3)) (kk : ∀ (u : SM) (H1 : Heap) (locs1 : List Loc), u o = wI μ 0 7 v → (∀ q, q ≠ o → u q = σ q) → Hp E u s H1 locs1 → W p l e R s m args below meth c H1 locs1 cells slots Q (F0 m (pc + 3) ls rest)) : W p l e R s m args below meth c H locs cells slots Q (F0 m pc ls (.int v :: .ref (adr E o 0) :: rest)) := va_putN (D := eD E) (ci := 3) (C := RX5) (T := TX5) (N := 18) cx.1.1 cx.1.2.1 cx.1.2.2.2.2 inB_X5 tyX5 tyX5_ok nmX5 cx.1.2.2.2.1 cx.2.2.1.2.1 hp.1.1 hp.1.2.1 hp.2 (lin o 0) (wm_0 ho eo hN) rfl 7 (by decide) (va_Nw.use (nb_tab qF_X12_286) (cx.2.2.1.2.2.1 _ qF_X12_286)) (fun _ h => h) rfl (ty := .int) (v := .int v) (by decide +kernel) rfl rfl (Nat.le_of_ble_eq_true rfl) hdg (fun H1 locs1 hP hD hS => kk (us σ o (wI μ 0 7 v)) H1 locs1 (us_s _ _ _) (fun q h => us_n h) (hp_put cx (dec_M ho (by decide)) (lin_lt ho (by decide) hN) eo (wI_o μ 0 7 v) ((cel_M ho 0 _).trans rfl) hP hD hS))
theorem gF_X12_289 {o : Nat} (ho : o < 11) {μ : OM} (eo : σ o = μ) (hN : 129 ≤ eN E) (cx : Cx E p s m meth c args RX12 cc nL ret) (hp : Hp E σ s H locs) (hdg : decode cc pc = .ok (.getfield 289, 3)) (kk : W p l e R s m args below meth c H locs cells slots Q (F0 m (pc + 3) ls (.int (μ.1 0 8) :: rest))) : W p l e R s m args below meth c H locs cells slots Q (F0 m pc ls (.ref (adr E o 0) :: rest)) := va_getN (D := eD E) (ci := 3) (C := RX5) (T := TX5) (N := 18) cx.1.1 cx.1.2.1 cx.1.2.2.2.2 inB_X5 cx.1.2.2.2.1 cx.2.2.1.2.1 hp.1.1 (lin o 0) (wm_0 ho eo hN) rfl 8 (by decide) (va_Nw.use (nb_tab qF_X12_289) (cx.2.2.1.2.2.1 _ qF_X12_289)) (fun _ h => h) rfl hdg kk
theorem pF_X12_289 {o : Nat} (ho : o < 11) {μ : OM} (eo : σ o = μ) (hN : 129 ≤ eN E) (cx : Cx E p s m meth c args RX12 cc nL ret) (hp : Hp E σ s H locs) {v : Int32} (hdg : decode cc pc = .ok (.putfield 289, 3)) (kk : ∀ (u : SM) (H1 : Heap) (locs1 : List Loc), u o = wI μ 0 8 v → (∀ q, q ≠ o → u q = σ q) → Hp E u s H1 locs1 → W p l e R s m args below meth c H1 locs1 cells slots Q (F0 m (pc + 3) ls rest)) : W p l e R s m args below meth c H locs cells slots Q (F0 m pc ls (.int v :: .ref (adr E o 0) :: rest)) := va_putN (D := eD E) (ci := 3) (C := RX5) (T := TX5) (N := 18) cx.1.1 cx.1.2.1 cx.1.2.2.2.2 inB_X5 tyX5 tyX5_ok nmX5 cx.1.2.2.2.1 cx.2.2.1.2.1 hp.1.1 hp.1.2.1 hp.2 (lin o 0) (wm_0 ho eo hN) rfl 8 (by decide) (va_Nw.use (nb_tab qF_X12_289) (cx.2.2.1.2.2.1 _ qF_X12_289)) (fun _ h => h) rfl (ty := .int) (v := .int v) (by decide +kernel) rfl rfl (Nat.le_of_ble_eq_true rfl) hdg (fun H1 locs1 hP hD hS => kk (us σ o (wI μ 0 8 v)) H1 locs1 (us_s _ _ _) (fun q h => us_n h) (hp_put cx (dec_M ho (by decide)) (lin_lt ho (by decide) hN) eo (wI_o μ 0 8 v) ((cel_M ho 0 _).trans rfl) hP hD hS))
theorem gF_X1_9 {μ : OM} (eo : σ 17 = μ) (hN : 129 ≤ eN E) (cx : Cx E p s m meth c args RX1 cc nL ret) (hp : Hp E σ s H locs) (hdg : decode cc pc = .ok (.getfield 9, 3)) (kk : W p l e R s m args below meth c H locs cells slots Q (F0 m (pc + 3) ls (.ref (adr E 17 1) :: rest))) : W p l e R s m args below meth c H locs cells slots Q (F0 m pc ls (.ref (adr E 17 0) :: rest)) := va_get (D := eD E) (ci := 0) (C := RX1) (T := TX1) (N := 5) cx.1.1 cx.1.2.1 cx.1.2.2.2.2 inB_X1 cx.1.2.2.2.1 cx.2.2.1.2.1 hp.1.1 (lin 17 0) (wo_17_0 eo hN) rfl 0 (by decide) (cx.1.2.2.2.2 _ qF_X1_9) (fun _ h => h) rfl hdg kk
theorem gF_X1_15 {μ : OM} (eo : σ 17 = μ) (hN : 129 ≤ eN E) (cx : Cx E p s m meth c args RX1 cc nL ret) (hp : Hp E σ s H locs) (hdg : decode cc pc = .ok (.getfield 15, 3)) (kk : W p l e R s m args below meth c H locs cells slots Q (F0 m (pc + 3) ls (.ref (adr E 17 2) :: rest))) : W p l e R s m args below meth c H locs cells slots Q (F0 m pc ls (.ref (adr E 17 0) :: rest)) := va_get (D := eD E) (ci := 0) (C := RX1) (T := TX1) (N := 5) cx.1.1 cx.1.2.1 cx.1.2.2.2.2 inB_X1 cx.1.2.2.2.1 cx.2.2.1.2.1 hp.1.1 (lin 17 0) (wo_17_0 eo hN) rfl 1 (by decide) (cx.1.2.2.2.2 _ qF_X1_15) (fun _ h => h) rfl hdg kk
theorem gF_X1_19 {μ : OM} (eo : σ 17 = μ) (hN : 129 ≤ eN E) (cx : Cx E p s m meth c args RX1 cc nL ret) (hp : Hp E σ s H locs) (hdg : decode cc pc = .ok (.getfield 19, 3)) (kk : W p l e R s m args below meth c H locs cells slots Q (F0 m (pc + 3) ls (.ref (adr E 17 3) :: rest))) : W p l e R s m args below meth c H locs cells slots Q (F0 m pc ls (.ref (adr E 17 0) :: rest)) := va_get (D := eD E) (ci := 0) (C := RX1) (T := TX1) (N := 5) cx.1.1 cx.1.2.1 cx.1.2.2.2.2 inB_X1 cx.1.2.2.2.1 cx.2.2.1.2.1 hp.1.1 (lin 17 0) (wo_17_0 eo hN) rfl 2 (by decide) (cx.1.2.2.2.2 _ qF_X1_19) (fun _ h => h) rfl hdg kk
theorem gF_X1_22 {μ : OM} (eo : σ 17 = μ) (hN : 129 ≤ eN E) (cx : Cx E p s m meth c args RX1 cc nL ret) (hp : Hp E σ s H locs) (hdg : decode cc pc = .ok (.getfield 22, 3)) (kk : W p l e R s m args below meth c H locs cells slots Q (F0 m (pc + 3) ls (.ref (adr E 17 4) :: rest))) : W p l e R s m args below meth c H locs cells slots Q (F0 m pc ls (.ref (adr E 17 0) :: rest)) := va_get (D := eD E) (ci := 0) (C := RX1) (T := TX1) (N := 5) cx.1.1 cx.1.2.1 cx.1.2.2.2.2 inB_X1 cx.1.2.2.2.1 cx.2.2.1.2.1 hp.1.1 (lin 17 0) (wo_17_0 eo hN) rfl 3 (by decide) (cx.1.2.2.2.2 _ qF_X1_22) (fun _ h => h) rfl hdg kk
theorem gF_X1_25 {μ : OM} (eo : σ 17 = μ) (hN : 129 ≤ eN E) (cx : Cx E p s m meth c args RX1 cc nL ret) (hp : Hp E σ s H locs) (hdg : decode cc pc = .ok (.getfield 25, 3)) (kk : W p l e R s m args below meth c H locs cells slots Q (F0 m (pc + 3) ls (.int (μ.1 0 4) :: rest))) : W p l e R s m args below meth c H locs cells slots Q (F0 m pc ls (.ref (adr E 17 0) :: rest)) := va_get (D := eD E) (ci := 0) (C := RX1) (T := TX1) (N := 5) cx.1.1 cx.1.2.1 cx.1.2.2.2.2 inB_X1 cx.1.2.2.2.1 cx.2.2.1.2.1 hp.1.1 (lin 17 0) (wo_17_0 eo hN) rfl 4 (by decide) (cx.1.2.2.2.2 _ qF_X1_25) (fun _ h => h) rfl hdg kk
theorem pF_X1_25 {μ : OM} (eo : σ 17 = μ) (hN : 129 ≤ eN E) (cx : Cx E p s m meth c args RX1 cc nL ret) (hp : Hp E σ s H locs) {v : Int32} (hdg : decode cc pc = .ok (.putfield 25, 3)) (kk : ∀ (u : SM) (H1 : Heap) (locs1 : List Loc), u 17 = wI μ 0 4 v → (∀ q, q ≠ 17 → u q = σ q) → Hp E u s H1 locs1 → W p l e R s m args below meth c H1 locs1 cells slots Q (F0 m (pc + 3) ls rest)) : W p l e R s m args below meth c H locs cells slots Q (F0 m pc ls (.int v :: .ref (adr E 17 0) :: rest)) := va_put (D := eD E) (ci := 0) (C := RX1) (T := TX1) (N := 5) cx.1.1 cx.1.2.1 cx.1.2.2.2.2 inB_X1 tyX1 tyX1_ok nmX1 cx.1.2.2.2.1 cx.2.2.1.2.1 hp.1.1 hp.1.2.1 hp.2 (lin 17 0) (wo_17_0 eo hN) rfl 4 (by decide) (cx.1.2.2.2.2 _ qF_X1_25) (fun _ h => h) rfl (ty := .int) (v := .int v) (by decide +kernel) rfl rfl (Nat.le_of_ble_eq_true rfl) hdg (fun H1 locs1 hP hD hS => kk (us σ 17 (wI μ 0 4 v)) H1 locs1 (us_s _ _ _) (fun q h => us_n h) (hp_put cx ((by decide)) ((Nat.lt_of_lt_of_le (by decide) hN)) eo (wI_o μ 0 4 v) rfl hP hD hS))
theorem gF_X1_41 {o : Nat} (ho : o < 11) {μ : OM} (eo : σ o = μ) (hN : 129 ≤ eN E) (cx : Cx E p s m meth c args RX1 cc nL ret) (hp : Hp E σ s H locs) (hdg : decode cc pc = .ok (.getfield 41, 3)) (kk : W p l e R s m args below meth c H locs cells slots Q (F0 m (pc + 3) ls (.int (μ.1 0 0) :: rest))) : W p l e R s m args below meth c H locs cells slots Q (F0 m pc ls (.ref (adr E o 0) :: rest)) := va_getN (D := eD E) (ci := 3) (C := RX5) (T := TX5) (N := 18) cx.1.1 cx.1.2.1 cx.1.2.2.2.2 inB_X5 cx.1.2.2.2.1 cx.2.2.1.2.1 hp.1.1 (lin o 0) (wm_0 ho eo hN) rfl 0 (by decide) (va_Nw.use (nb_tab qF_X1_41) (cx.2.2.1.2.2.1 _ qF_X1_41)) (fun _ h => h) rfl hdg kk
theorem pF_X1_41 {o : Nat} (ho : o < 11) {μ : OM} (eo : σ o = μ) (hN : 129 ≤ eN E) (cx : Cx E p s m meth c args RX1 cc nL ret) (hp : Hp E σ s H locs) {v : Int32} (hdg : decode cc pc = .ok (.putfield 41, 3)) (kk : ∀ (u : SM) (H1 : Heap) (locs1 : List Loc), u o = wI μ 0 0 v → (∀ q, q ≠ o → u q = σ q) → Hp E u s H1 locs1 → W p l e R s m args below meth c H1 locs1 cells slots Q (F0 m (pc + 3) ls rest)) : W p l e R s m args below meth c H locs cells slots Q (F0 m pc ls (.int v :: .ref (adr E o 0) :: rest)) := va_putN (D := eD E) (ci := 3) (C := RX5) (T := TX5) (N := 18) cx.1.1 cx.1.2.1 cx.1.2.2.2.2 inB_X5 tyX5 tyX5_ok nmX5 cx.1.2.2.2.1 cx.2.2.1.2.1 hp.1.1 hp.1.2.1 hp.2 (lin o 0) (wm_0 ho eo hN) rfl 0 (by decide) (va_Nw.use (nb_tab qF_X1_41) (cx.2.2.1.2.2.1 _ qF_X1_41)) (fun _ h => h) rfl (ty := .int) (v := .int v) (by decide +kernel) rfl rfl (Nat.le_of_ble_eq_true rfl) hdg (fun H1 locs1 hP hD hS => kk (us σ o (wI μ 0 0 v)) H1 locs1 (us_s _ _ _) (fun q h => us_n h) (hp_put cx (dec_M ho (by decide)) (lin_lt ho (by decide) hN) eo (wI_o μ 0 0 v) ((cel_M ho 0 _).trans rfl) hP hD hS))
theorem gF_X1_76 {o : Nat} (ho : o < 11) {μ : OM} (eo : σ o = μ) (hN : 129 ≤ eN E) (cx : Cx E p s m meth c args RX1 cc nL ret) (hp : Hp E σ s H locs) (hdg : decode cc pc = .ok (.getfield 76, 3)) (kk : W p l e R s m args below meth c H locs cells slots Q (F0 m (pc + 3) ls (.int (μ.1 0 6) :: rest))) : W p l e R s m args below meth c H locs cells slots Q (F0 m pc ls (.ref (adr E o 0) :: rest)) := va_getN (D := eD E) (ci := 3) (C := RX5) (T := TX5) (N := 18) cx.1.1 cx.1.2.1 cx.1.2.2.2.2 inB_X5 cx.1.2.2.2.1 cx.2.2.1.2.1 hp.1.1 (lin o 0) (wm_0 ho eo hN) rfl 6 (by decide) (va_Nw.use (nb_tab qF_X1_76) (cx.2.2.1.2.2.1 _ qF_X1_76)) (fun _ h => h) rfl hdg kk
theorem pF_X1_76 {o : Nat} (ho : o < 11) {μ : OM} (eo : σ o = μ) (hN : 129 ≤ eN E) (cx : Cx E p s m meth c args RX1 cc nL ret) (hp : Hp E σ s H locs) {v : Int32} (hdg : decode cc pc = .ok (.putfield 76, 3)) (kk : ∀ (u : SM) (H1 : Heap) (locs1 : List Loc), u o = wI μ 0 6 v → (∀ q, q ≠ o → u q = σ q) → Hp E u s H1 locs1 → W p l e R s m args below meth c H1 locs1 cells slots Q (F0 m (pc + 3) ls rest)) : W p l e R s m args below meth c H locs cells slots Q (F0 m pc ls (.int v :: .ref (adr E o 0) :: rest)) := va_putN (D := eD E) (ci := 3) (C := RX5) (T := TX5) (N := 18) cx.1.1 cx.1.2.1 cx.1.2.2.2.2 inB_X5 tyX5 tyX5_ok nmX5 cx.1.2.2.2.1 cx.2.2.1.2.1 hp.1.1 hp.1.2.1 hp.2 (lin o 0) (wm_0 ho eo hN) rfl 6 (by decide) (va_Nw.use (nb_tab qF_X1_76) (cx.2.2.1.2.2.1 _ qF_X1_76)) (fun _ h => h) rfl (ty := .int) (v := .int v) (by decide +kernel) rfl rfl (Nat.le_of_ble_eq_true rfl) hdg (fun H1 locs1 hP hD hS => kk (us σ o (wI μ 0 6 v)) H1 locs1 (us_s _ _ _) (fun q h => us_n h) (hp_put cx (dec_M ho (by decide)) (lin_lt ho (by decide) hN) eo (wI_o μ 0 6 v) ((cel_M ho 0 _).trans rfl) hP hD hS))
theorem gF_X2_9_13 {μ : OM} (eo : σ 13 = μ) (hN : 129 ≤ eN E) (cx : Cx E p s m meth c args RX2 cc nL ret) (hp : Hp E σ s H locs) (hdg : decode cc pc = .ok (.getfield 9, 3)) (kk : W p l e R s m args below meth c H locs cells slots Q (F0 m (pc + 3) ls (.ref (adr E 13 1) :: rest))) : W p l e R s m args below meth c H locs cells slots Q (F0 m pc ls (.ref (adr E 13 0) :: rest)) := va_get (D := eD E) (ci := 1) (C := RX2) (T := TX2) (N := 2) cx.1.1 cx.1.2.1 cx.1.2.2.2.2 inB_X2 cx.1.2.2.2.1 cx.2.2.1.2.1 hp.1.1 (lin 13 0) (wo_13_0 eo hN) rfl 0 (by decide) (cx.1.2.2.2.2 _ qF_X2_9) (fun _ h => h) rfl hdg kk
theorem gF_X2_9_14 {μ : OM} (eo : σ 14 = μ) (hN : 129 ≤ eN E) (cx : Cx E p s m meth c args RX2 cc nL ret) (hp : Hp E σ s H locs) (hdg : decode cc pc = .ok (.getfield 9, 3)) (kk : W p l e R s m args below meth c H locs cells slots Q (F0 m (pc + 3) ls (.ref (adr E 14 1) :: rest))) : W p l e R s m args below meth c H locs cells slots Q (F0 m pc ls (.ref (adr E 14 0) :: rest)) := va_get (D := eD E) (ci := 1) (C := RX2) (T := TX2) (N := 2) cx.1.1 cx.1.2.1 cx.1.2.2.2.2 inB_X2 cx.1.2.2.2.1 cx.2.2.1.2.1 hp.1.1 (lin 14 0) (wo_14_0 eo hN) rfl 0 (by decide) (cx.1.2.2.2.2 _ qF_X2_9) (fun _ h => h) rfl hdg kk
theorem gF_X2_15_13 {μ : OM} (eo : σ 13 = μ) (hN : 129 ≤ eN E) (cx : Cx E p s m meth c args RX2 cc nL ret) (hp : Hp E σ s H locs) (hdg : decode cc pc = .ok (.getfield 15, 3)) (kk : W p l e R s m args below meth c H locs cells slots Q (F0 m (pc + 3) ls (.int (μ.1 0 1) :: rest))) : W p l e R s m args below meth c H locs cells slots Q (F0 m pc ls (.ref (adr E 13 0) :: rest)) := va_get (D := eD E) (ci := 1) (C := RX2) (T := TX2) (N := 2) cx.1.1 cx.1.2.1 cx.1.2.2.2.2 inB_X2 cx.1.2.2.2.1 cx.2.2.1.2.1 hp.1.1 (lin 13 0) (wo_13_0 eo hN) rfl 1 (by decide) (cx.1.2.2.2.2 _ qF_X2_15) (fun _ h => h) rfl hdg kk
theorem pF_X2_15_13 {μ : OM} (eo : σ 13 = μ) (hN : 129 ≤ eN E) (cx : Cx E p s m meth c args RX2 cc nL ret) (hp : Hp E σ s H locs) {v : Int32} (hdg : decode cc pc = .ok (.putfield 15, 3)) (kk : ∀ (u : SM) (H1 : Heap) (locs1 : List Loc), u 13 = wI μ 0 1 v → (∀ q, q ≠ 13 → u q = σ q) → Hp E u s H1 locs1 → W p l e R s m args below meth c H1 locs1 cells slots Q (F0 m (pc + 3) ls rest)) : W p l e R s m args below meth c H locs cells slots Q (F0 m pc ls (.int v :: .ref (adr E 13 0) :: rest)) := va_put (D := eD E) (ci := 1) (C := RX2) (T := TX2) (N := 2) cx.1.1 cx.1.2.1 cx.1.2.2.2.2 inB_X2 tyX2 tyX2_ok nmX2 cx.1.2.2.2.1 cx.2.2.1.2.1 hp.1.1 hp.1.2.1 hp.2 (lin 13 0) (wo_13_0 eo hN) rfl 1 (by decide) (cx.1.2.2.2.2 _ qF_X2_15) (fun _ h => h) rfl (ty := .int) (v := .int v) (by decide +kernel) rfl rfl (Nat.le_of_ble_eq_true rfl) hdg (fun H1 locs1 hP hD hS => kk (us σ 13 (wI μ 0 1 v)) H1 locs1 (us_s _ _ _) (fun q h => us_n h) (hp_put cx ((by decide)) ((Nat.lt_of_lt_of_le (by decide) hN)) eo (wI_o μ 0 1 v) rfl hP hD hS))
theorem gF_X2_15_14 {μ : OM} (eo : σ 14 = μ) (hN : 129 ≤ eN E) (cx : Cx E p s m meth c args RX2 cc nL ret) (hp : Hp E σ s H locs) (hdg : decode cc pc = .ok (.getfield 15, 3)) (kk : W p l e R s m args below meth c H locs cells slots Q (F0 m (pc + 3) ls (.int (μ.1 0 1) :: rest))) : W p l e R s m args below meth c H locs cells slots Q (F0 m pc ls (.ref (adr E 14 0) :: rest)) := va_get (D := eD E) (ci := 1) (C := RX2) (T := TX2) (N := 2) cx.1.1 cx.1.2.1 cx.1.2.2.2.2 inB_X2 cx.1.2.2.2.1 cx.2.2.1.2.1 hp.1.1 (lin 14 0) (wo_14_0 eo hN) rfl 1 (by decide) (cx.1.2.2.2.2 _ qF_X2_15) (fun _ h => h) rfl hdg kk
theorem pF_X2_15_14 {μ : OM} (eo : σ 14 = μ) (hN : 129 ≤ eN E) (cx : Cx E p s m meth c args RX2 cc nL ret) (hp : Hp E σ s H locs) {v : Int32} (hdg : decode cc pc = .ok (.putfield 15, 3)) (kk : ∀ (u : SM) (H1 : Heap) (locs1 : List Loc), u 14 = wI μ 0 1 v → (∀ q, q ≠ 14 → u q = σ q) → Hp E u s H1 locs1 → W p l e R s m args below meth c H1 locs1 cells slots Q (F0 m (pc + 3) ls rest)) : W p l e R s m args below meth c H locs cells slots Q (F0 m pc ls (.int v :: .ref (adr E 14 0) :: rest)) := va_put (D := eD E) (ci := 1) (C := RX2) (T := TX2) (N := 2) cx.1.1 cx.1.2.1 cx.1.2.2.2.2 inB_X2 tyX2 tyX2_ok nmX2 cx.1.2.2.2.1 cx.2.2.1.2.1 hp.1.1 hp.1.2.1 hp.2 (lin 14 0) (wo_14_0 eo hN) rfl 1 (by decide) (cx.1.2.2.2.2 _ qF_X2_15) (fun _ h => h) rfl (ty := .int) (v := .int v) (by decide +kernel) rfl rfl (Nat.le_of_ble_eq_true rfl) hdg (fun H1 locs1 hP hD hS => kk (us σ 14 (wI μ 0 1 v)) H1 locs1 (us_s _ _ _) (fun q h => us_n h) (hp_put cx ((by decide)) ((Nat.lt_of_lt_of_le (by decide) hN)) eo (wI_o μ 0 1 v) rfl hP hD hS))
theorem gF_X3_25 {o : Nat} (ho : o < 11) {μ : OM} (eo : σ o = μ) (hN : 129 ≤ eN E) (cx : Cx E p s m meth c args RX3 cc nL ret) (hp : Hp E σ s H locs) (hdg : decode cc pc = .ok (.getfield 25, 3)) (kk : W p l e R s m args below meth c H locs cells slots Q (F0 m (pc + 3) ls (.int (μ.1 0 0) :: rest))) : W p l e R s m args below meth c H locs cells slots Q (F0 m pc ls (.ref (adr E o 0) :: rest)) := va_getN (D := eD E) (ci := 3) (C := RX5) (T := TX5) (N := 18) cx.1.1 cx.1.2.1 cx.1.2.2.2.2 inB_X5 cx.1.2.2.2.1 cx.2.2.1.2.1 hp.1.1 (lin o 0) (wm_0 ho eo hN) rfl 0 (by decide) (va_Nw.use (nb_tab qF_X3_25) (cx.2.2.1.2.2.1 _ qF_X3_25)) (fun _ h => h) rfl hdg kk
theorem pF_X3_25 {o : Nat} (ho : o < 11) {μ : OM} (eo : σ o = μ) (hN : 129 ≤ eN E) (cx : Cx E p s m meth c args RX3 cc nL ret) (hp : Hp E σ s H locs) {v : Int32} (hdg : decode cc pc = .ok (.putfield 25, 3)) (kk : ∀ (u : SM) (H1 : Heap) (locs1 : List Loc), u o = wI μ 0 0 v → (∀ q, q ≠ o → u q = σ q) → Hp E u s H1 locs1 → W p l e R s m args below meth c H1 locs1 cells slots Q (F0 m (pc + 3) ls rest)) : W p l e R s m args below meth c H locs cells slots Q (F0 m pc ls (.int v :: .ref (adr E o 0) :: rest)) := va_putN (D := eD E) (ci := 3) (C := RX5) (T := TX5) (N := 18) cx.1.1 cx.1.2.1 cx.1.2.2.2.2 inB_X5 tyX5 tyX5_ok nmX5 cx.1.2.2.2.1 cx.2.2.1.2.1 hp.1.1 hp.1.2.1 hp.2 (lin o 0) (wm_0 ho eo hN) rfl 0 (by decide) (va_Nw.use (nb_tab qF_X3_25) (cx.2.2.1.2.2.1 _ qF_X3_25)) (fun _ h => h) rfl (ty := .int) (v := .int v) (by decide +kernel) rfl rfl (Nat.le_of_ble_eq_true rfl) hdg (fun H1 locs1 hP hD hS => kk (us σ o (wI μ 0 0 v)) H1 locs1 (us_s _ _ _) (fun q h => us_n h) (hp_put cx (dec_M ho (by decide)) (lin_lt ho (by decide) hN) eo (wI_o μ 0 0 v) ((cel_M ho 0 _).trans rfl) hP hD hS))
theorem gF_X4_11 {μ : OM} (eo : σ 16 = μ) (hN : 129 ≤ eN E) (cx : Cx E p s m meth c args RX4 cc nL ret) (hp : Hp E σ s H locs) (hdg : decode cc pc = .ok (.getfield 11, 3)) (kk : W p l e R s m args below meth c H locs cells slots Q (F0 m (pc + 3) ls (.ref (adr E 16 1) :: rest))) : W p l e R s m args below meth c H locs cells slots Q (F0 m pc ls (.ref (adr E 16 0) :: rest)) := va_get (D := eD E) (ci := 2) (C := RX4) (T := TX4) (N := 3) cx.1.1 cx.1.2.1 cx.1.2.2.2.2 inB_X4 cx.1.2.2.2.1 cx.2.2.1.2.1 hp.1.1 (lin 16 0) (wo_16_0 eo hN) rfl 0 (by decide) (cx.1.2.2.2.2 _ qF_X4_11) (fun _ h => h) rfl hdg kk
theorem gF_X4_17 {μ : OM} (eo : σ 16 = μ) (hN : 129 ≤ eN E) (cx : Cx E p s m meth c args RX4 cc nL ret) (hp : Hp E σ s H locs) (hdg : decode cc pc = .ok (.getfield 17, 3)) (kk : W p l e R s m args below meth c H locs cells slots Q (F0 m (pc + 3) ls (.int (μ.1 0 1) :: rest))) : W p l e R s m args below meth c H locs cells slots Q (F0 m pc ls (.ref (adr E 16 0) :: rest)) := va_get (D := eD E) (ci := 2) (C := RX4) (T := TX4) (N := 3) cx.1.1 cx.1.2.1 cx.1.2.2.2.2 inB_X4 cx.1.2.2.2.1 cx.2.2.1.2.1 hp.1.1 (lin 16 0) (wo_16_0 eo hN) rfl 1 (by decide) (cx.1.2.2.2.2 _ qF_X4_17) (fun _ h => h) rfl hdg kk
theorem pF_X4_17 {μ : OM} (eo : σ 16 = μ) (hN : 129 ≤ eN E) (cx : Cx E p s m meth c args RX4 cc nL ret) (hp : Hp E σ s H locs) {v : Int32} (hdg : decode cc pc = .ok (.putfield 17, 3)) (kk : ∀ (u : SM) (H1 : Heap) (locs1 : List Loc), u 16 = wI μ 0 1 v → (∀ q, q ≠ 16 → u q = σ q) → Hp E u s H1 locs1 → W p l e R s m args below meth c H1 locs1 cells slots Q (F0 m (pc + 3) ls rest)) : W p l e R s m args below meth c H locs cells slots Q (F0 m pc ls (.int v :: .ref (adr E 16 0) :: rest)) := va_put (D := eD E) (ci := 2) (C := RX4) (T := TX4) (N := 3) cx.1.1 cx.1.2.1 cx.1.2.2.2.2 inB_X4 tyX4 tyX4_ok nmX4 cx.1.2.2.2.1 cx.2.2.1.2.1 hp.1.1 hp.1.2.1 hp.2 (lin 16 0) (wo_16_0 eo hN) rfl 1 (by decide) (cx.1.2.2.2.2 _ qF_X4_17) (fun _ h => h) rfl (ty := .int) (v := .int v) (by decide +kernel) rfl rfl (Nat.le_of_ble_eq_true rfl) hdg (fun H1 locs1 hP hD hS => kk (us σ 16 (wI μ 0 1 v)) H1 locs1 (us_s _ _ _) (fun q h => us_n h) (hp_put cx ((by decide)) ((Nat.lt_of_lt_of_le (by decide) hN)) eo (wI_o μ 0 1 v) rfl hP hD hS))
theorem gF_X4_21 {μ : OM} (eo : σ 16 = μ) (hN : 129 ≤ eN E) (cx : Cx E p s m meth c args RX4 cc nL ret) (hp : Hp E σ s H locs) (hdg : decode cc pc = .ok (.getfield 21, 3)) (kk : W p l e R s m args below meth c H locs cells slots Q (F0 m (pc + 3) ls (.int (μ.1 0 2) :: rest))) : W p l e R s m args below meth c H locs cells slots Q (F0 m pc ls (.ref (adr E 16 0) :: rest)) := va_get (D := eD E) (ci := 2) (C := RX4) (T := TX4) (N := 3) cx.1.1 cx.1.2.1 cx.1.2.2.2.2 inB_X4 cx.1.2.2.2.1 cx.2.2.1.2.1 hp.1.1 (lin 16 0) (wo_16_0 eo hN) rfl 2 (by decide) (cx.1.2.2.2.2 _ qF_X4_21) (fun _ h => h) rfl hdg kk
theorem pF_X4_21 {μ : OM} (eo : σ 16 = μ) (hN : 129 ≤ eN E) (cx : Cx E p s m meth c args RX4 cc nL ret) (hp : Hp E σ s H locs) {v : Int32} (hdg : decode cc pc = .ok (.putfield 21, 3)) (kk : ∀ (u : SM) (H1 : Heap) (locs1 : List Loc), u 16 = wI μ 0 2 v → (∀ q, q ≠ 16 → u q = σ q) → Hp E u s H1 locs1 → W p l e R s m args below meth c H1 locs1 cells slots Q (F0 m (pc + 3) ls rest)) : W p l e R s m args below meth c H locs cells slots Q (F0 m pc ls (.int v :: .ref (adr E 16 0) :: rest)) := va_put (D := eD E) (ci := 2) (C := RX4) (T := TX4) (N := 3) cx.1.1 cx.1.2.1 cx.1.2.2.2.2 inB_X4 tyX4 tyX4_ok nmX4 cx.1.2.2.2.1 cx.2.2.1.2.1 hp.1.1 hp.1.2.1 hp.2 (lin 16 0) (wo_16_0 eo hN) rfl 2 (by decide) (cx.1.2.2.2.2 _ qF_X4_21) (fun _ h => h) rfl (ty := .int) (v := .int v) (by decide +kernel) rfl rfl (Nat.le_of_ble_eq_true rfl) hdg (fun H1 locs1 hP hD hS => kk (us σ 16 (wI μ 0 2 v)) H1 locs1 (us_s _ _ _) (fun q h => us_n h) (hp_put cx ((by decide)) ((Nat.lt_of_lt_of_le (by decide) hN)) eo (wI_o μ 0 2 v) rfl hP hD hS))
theorem gF_X5_9 {o : Nat} (ho : o < 11) {μ : OM} (eo : σ o = μ) (hN : 129 ≤ eN E) (cx : Cx E p s m meth c args RX5 cc nL ret) (hp : Hp E σ s H locs) (hdg : decode cc pc = .ok (.getfield 9, 3)) (kk : W p l e R s m args below meth c H locs cells slots Q (F0 m (pc + 3) ls (.int (μ.1 0 0) :: rest))) : W p l e R s m args below meth c H locs cells slots Q (F0 m pc ls (.ref (adr E o 0) :: rest)) := va_get (D := eD E) (ci := 3) (C := RX5) (T := TX5) (N := 18) cx.1.1 cx.1.2.1 cx.1.2.2.2.2 inB_X5 cx.1.2.2.2.1 cx.2.2.1.2.1 hp.1.1 (lin o 0) (wm_0 ho eo hN) rfl 0 (by decide) (cx.1.2.2.2.2 _ qF_X5_9) (fun _ h => h) rfl hdg kk
theorem pF_X5_9 {o : Nat} (ho : o < 11) {μ : OM} (eo : σ o = μ) (hN : 129 ≤ eN E) (cx : Cx E p s m meth c args RX5 cc nL ret) (hp : Hp E σ s H locs) {v : Int32} (hdg : decode cc pc = .ok (.putfield 9, 3)) (kk : ∀ (u : SM) (H1 : Heap) (locs1 : List Loc), u o = wI μ 0 0 v → (∀ q, q ≠ o → u q = σ q) → Hp E u s H1 locs1 → W p l e R s m args below meth c H1 locs1 cells slots Q (F0 m (pc + 3) ls rest)) : W p l e R s m args below meth c H locs cells slots Q (F0 m pc ls (.int v :: .ref (adr E o 0) :: rest)) := va_put (D := eD E) (ci := 3) (C := RX5) (T := TX5) (N := 18) cx.1.1 cx.1.2.1 cx.1.2.2.2.2 inB_X5 tyX5 tyX5_ok nmX5 cx.1.2.2.2.1 cx.2.2.1.2.1 hp.1.1 hp.1.2.1 hp.2 (lin o 0) (wm_0 ho eo hN) rfl 0 (by decide) (cx.1.2.2.2.2 _ qF_X5_9) (fun _ h => h) rfl (ty := .int) (v := .int v) (by decide +kernel) rfl rfl (Nat.le_of_ble_eq_true rfl) hdg (fun H1 locs1 hP hD hS => kk (us σ o (wI μ 0 0 v)) H1 locs1 (us_s _ _ _) (fun q h => us_n h) (hp_put cx (dec_M ho (by decide)) (lin_lt ho (by decide) hN) eo (wI_o μ 0 0 v) ((cel_M ho 0 _).trans rfl) hP hD hS))
theorem gF_X5_15 {o : Nat} (ho : o < 11) {μ : OM} (eo : σ o = μ) (hN : 129 ≤ eN E) (cx : Cx E p s m meth c args RX5 cc nL ret) (hp : Hp E σ s H locs) (hdg : decode cc pc = .ok (.getfield 15, 3)) (kk : W p l e R s m args below meth c H locs cells slots Q (F0 m (pc + 3) ls (.int (μ.1 0 1) :: rest))) : W p l e R s m args below meth c H locs cells slots Q (F0 m pc ls (.ref (adr E o 0) :: rest)) := va_get (D := eD E) (ci := 3) (C := RX5) (T := TX5) (N := 18) cx.1.1 cx.1.2.1 cx.1.2.2.2.2 inB_X5 cx.1.2.2.2.1 cx.2.2.1.2.1 hp.1.1 (lin o 0) (wm_0 ho eo hN) rfl 1 (by decide) (cx.1.2.2.2.2 _ qF_X5_15) (fun _ h => h) rfl hdg kk
theorem pF_X5_15 {o : Nat} (ho : o < 11) {μ : OM} (eo : σ o = μ) (hN : 129 ≤ eN E) (cx : Cx E p s m meth c args RX5 cc nL ret) (hp : Hp E σ s H locs) {v : Int32} (hdg : decode cc pc = .ok (.putfield 15, 3)) (kk : ∀ (u : SM) (H1 : Heap) (locs1 : List Loc), u o = wI μ 0 1 v → (∀ q, q ≠ o → u q = σ q) → Hp E u s H1 locs1 → W p l e R s m args below meth c H1 locs1 cells slots Q (F0 m (pc + 3) ls rest)) : W p l e R s m args below meth c H locs cells slots Q (F0 m pc ls (.int v :: .ref (adr E o 0) :: rest)) := va_put (D := eD E) (ci := 3) (C := RX5) (T := TX5) (N := 18) cx.1.1 cx.1.2.1 cx.1.2.2.2.2 inB_X5 tyX5 tyX5_ok nmX5 cx.1.2.2.2.1 cx.2.2.1.2.1 hp.1.1 hp.1.2.1 hp.2 (lin o 0) (wm_0 ho eo hN) rfl 1 (by decide) (cx.1.2.2.2.2 _ qF_X5_15) (fun _ h => h) rfl (ty := .int) (v := .int v) (by decide +kernel) rfl rfl (Nat.le_of_ble_eq_true rfl) hdg (fun H1 locs1 hP hD hS => kk (us σ o (wI μ 0 1 v)) H1 locs1 (us_s _ _ _) (fun q h => us_n h) (hp_put cx (dec_M ho (by decide)) (lin_lt ho (by decide) hN) eo (wI_o μ 0 1 v) ((cel_M ho 0 _).trans rfl) hP hD hS))
theorem gF_X5_18 {o : Nat} (ho : o < 11) {μ : OM} (eo : σ o = μ) (hN : 129 ≤ eN E) (cx : Cx E p s m meth c args RX5 cc nL ret) (hp : Hp E σ s H locs) (hdg : decode cc pc = .ok (.getfield 18, 3)) (kk : W p l e R s m args below meth c H locs cells slots Q (F0 m (pc + 3) ls (.int (μ.1 0 2) :: rest))) : W p l e R s m args below meth c H locs cells slots Q (F0 m pc ls (.ref (adr E o 0) :: rest)) := va_get (D := eD E) (ci := 3) (C := RX5) (T := TX5) (N := 18) cx.1.1 cx.1.2.1 cx.1.2.2.2.2 inB_X5 cx.1.2.2.2.1 cx.2.2.1.2.1 hp.1.1 (lin o 0) (wm_0 ho eo hN) rfl 2 (by decide) (cx.1.2.2.2.2 _ qF_X5_18) (fun _ h => h) rfl hdg kk
theorem pF_X5_18 {o : Nat} (ho : o < 11) {μ : OM} (eo : σ o = μ) (hN : 129 ≤ eN E) (cx : Cx E p s m meth c args RX5 cc nL ret) (hp : Hp E σ s H locs) {v : Int32} (hdg : decode cc pc = .ok (.putfield 18, 3)) (kk : ∀ (u : SM) (H1 : Heap) (locs1 : List Loc), u o = wI μ 0 2 v → (∀ q, q ≠ o → u q = σ q) → Hp E u s H1 locs1 → W p l e R s m args below meth c H1 locs1 cells slots Q (F0 m (pc + 3) ls rest)) : W p l e R s m args below meth c H locs cells slots Q (F0 m pc ls (.int v :: .ref (adr E o 0) :: rest)) := va_put (D := eD E) (ci := 3) (C := RX5) (T := TX5) (N := 18) cx.1.1 cx.1.2.1 cx.1.2.2.2.2 inB_X5 tyX5 tyX5_ok nmX5 cx.1.2.2.2.1 cx.2.2.1.2.1 hp.1.1 hp.1.2.1 hp.2 (lin o 0) (wm_0 ho eo hN) rfl 2 (by decide) (cx.1.2.2.2.2 _ qF_X5_18) (fun _ h => h) rfl (ty := .int) (v := .int v) (by decide +kernel) rfl rfl (Nat.le_of_ble_eq_true rfl) hdg (fun H1 locs1 hP hD hS => kk (us σ o (wI μ 0 2 v)) H1 locs1 (us_s _ _ _) (fun q h => us_n h) (hp_put cx (dec_M ho (by decide)) (lin_lt ho (by decide) hN) eo (wI_o μ 0 2 v) ((cel_M ho 0 _).trans rfl) hP hD hS))
theorem gF_X5_21 {o : Nat} (ho : o < 11) {μ : OM} (eo : σ o = μ) (hN : 129 ≤ eN E) (cx : Cx E p s m meth c args RX5 cc nL ret) (hp : Hp E σ s H locs) (hdg : decode cc pc = .ok (.getfield 21, 3)) (kk : W p l e R s m args below meth c H locs cells slots Q (F0 m (pc + 3) ls (.int (μ.1 0 3) :: rest))) : W p l e R s m args below meth c H locs cells slots Q (F0 m pc ls (.ref (adr E o 0) :: rest)) := va_get (D := eD E) (ci := 3) (C := RX5) (T := TX5) (N := 18) cx.1.1 cx.1.2.1 cx.1.2.2.2.2 inB_X5 cx.1.2.2.2.1 cx.2.2.1.2.1 hp.1.1 (lin o 0) (wm_0 ho eo hN) rfl 3 (by decide) (cx.1.2.2.2.2 _ qF_X5_21) (fun _ h => h) rfl hdg kk
theorem pF_X5_21 {o : Nat} (ho : o < 11) {μ : OM} (eo : σ o = μ) (hN : 129 ≤ eN E) (cx : Cx E p s m meth c args RX5 cc nL ret) (hp : Hp E σ s H locs) {v : Int32} (hdg : decode cc pc = .ok (.putfield 21, 3)) (kk : ∀ (u : SM) (H1 : Heap) (locs1 : List Loc), u o = wI μ 0 3 v → (∀ q, q ≠ o → u q = σ q) → Hp E u s H1 locs1 → W p l e R s m args below meth c H1 locs1 cells slots Q (F0 m (pc + 3) ls rest)) : W p l e R s m args below meth c H locs cells slots Q (F0 m pc ls (.int v :: .ref (adr E o 0) :: rest)) := va_put (D := eD E) (ci := 3) (C := RX5) (T := TX5) (N := 18) cx.1.1 cx.1.2.1 cx.1.2.2.2.2 inB_X5 tyX5 tyX5_ok nmX5 cx.1.2.2.2.1 cx.2.2.1.2.1 hp.1.1 hp.1.2.1 hp.2 (lin o 0) (wm_0 ho eo hN) rfl 3 (by decide) (cx.1.2.2.2.2 _ qF_X5_21) (fun _ h => h) rfl (ty := .int) (v := .int v) (by decide +kernel) rfl rfl (Nat.le_of_ble_eq_true rfl) hdg (fun H1 locs1 hP hD hS => kk (us σ o (wI μ 0 3 v)) H1 locs1 (us_s _ _ _) (fun q h => us_n h) (hp_put cx (dec_M ho (by decide)) (lin_lt ho (by decide) hN) eo (wI_o μ 0 3 v) ((cel_M ho 0 _).trans rfl) hP hD hS))
theorem gF_X5_24 {o : Nat} (ho : o < 11) {μ : OM} (eo : σ o = μ) (hN : 129 ≤ eN E) (cx : Cx E p s m meth c args RX5 cc nL ret) (hp : Hp E σ s H locs) (hdg : decode cc pc = .ok (.getfield 24, 3)) (kk : W p l e R s m args below meth c H locs cells slots Q (F0 m (pc + 3) ls (.int (μ.1 0 4) :: rest))) : W p l e R s m args below meth c H locs cells slots Q (F0 m pc ls (.ref (adr E o 0) :: rest)) := va_get (D := eD E) (ci := 3) (C := RX5) (T := TX5) (N := 18) cx.1.1 cx.1.2.1 cx.1.2.2.2.2 inB_X5 cx.1.2.2.2.1 cx.2.2.1.2.1 hp.1.1 (lin o 0) (wm_0 ho eo hN) rfl 4 (by decide) (cx.1.2.2.2.2 _ qF_X5_24) (fun _ h => h) rfl hdg kk
theorem pF_X5_24 {o : Nat} (ho : o < 11) {μ : OM} (eo : σ o = μ) (hN : 129 ≤ eN E) (cx : Cx E p s m meth c args RX5 cc nL ret) (hp : Hp E σ s H locs) {v : Int32} (hdg : decode cc pc = .ok (.putfield 24, 3)) (kk : ∀ (u : SM) (H1 : Heap) (locs1 : List Loc), u o = wI μ 0 4 v → (∀ q, q ≠ o → u q = σ q) → Hp E u s H1 locs1 → W p l e R s m args below meth c H1 locs1 cells slots Q (F0 m (pc + 3) ls rest)) : W p l e R s m args below meth c H locs cells slots Q (F0 m pc ls (.int v :: .ref (adr E o 0) :: rest)) := va_put (D := eD E) (ci := 3) (C := RX5) (T := TX5) (N := 18) cx.1.1 cx.1.2.1 cx.1.2.2.2.2 inB_X5 tyX5 tyX5_ok nmX5 cx.1.2.2.2.1 cx.2.2.1.2.1 hp.1.1 hp.1.2.1 hp.2 (lin o 0) (wm_0 ho eo hN) rfl 4 (by decide) (cx.1.2.2.2.2 _ qF_X5_24) (fun _ h => h) rfl (ty := .int) (v := .int v) (by decide +kernel) rfl rfl (Nat.le_of_ble_eq_true rfl) hdg (fun H1 locs1 hP hD hS => kk (us σ o (wI μ 0 4 v)) H1 locs1 (us_s _ _ _) (fun q h => us_n h) (hp_put cx (dec_M ho (by decide)) (lin_lt ho (by decide) hN) eo (wI_o μ 0 4 v) ((cel_M ho 0 _).trans rfl) hP hD hS))
theorem gF_X5_27 {o : Nat} (ho : o < 11) {μ : OM} (eo : σ o = μ) (hN : 129 ≤ eN E) (cx : Cx E p s m meth c args RX5 cc nL ret) (hp : Hp E σ s H locs) (hdg : decode cc pc = .ok (.getfield 27, 3)) (kk : W p l e R s m args below meth c H locs cells slots Q (F0 m (pc + 3) ls (.int (μ.1 0 5) :: rest))) : W p l e R s m args below meth c H locs cells slots Q (F0 m pc ls (.ref (adr E o 0) :: rest)) := va_get (D := eD E) (ci := 3) (C := RX5) (T := TX5) (N := 18) cx.1.1 cx.1.2.1 cx.1.2.2.2.2 inB_X5 cx.1.2.2.2.1 cx.2.2.1.2.1 hp.1.1 (lin o 0) (wm_0 ho eo hN) rfl 5 (by decide) (cx.1.2.2.2.2 _ qF_X5_27) (fun _ h => h) rfl hdg kk
theorem pF_X5_27 {o : Nat} (ho : o < 11) {μ : OM} (eo : σ o = μ) (hN : 129 ≤ eN E) (cx : Cx E p s m meth c args RX5 cc nL ret) (hp : Hp E σ s H locs) {v : Int32} (hdg : decode cc pc = .ok (.putfield 27, 3)) (kk : ∀ (u : SM) (H1 : Heap) (locs1 : List Loc), u o = wI μ 0 5 v → (∀ q, q ≠ o → u q = σ q) → Hp E u s H1 locs1 → W p l e R s m args below meth c H1 locs1 cells slots Q (F0 m (pc + 3) ls rest)) : W p l e R s m args below meth c H locs cells slots Q (F0 m pc ls (.int v :: .ref (adr E o 0) :: rest)) := va_put (D := eD E) (ci := 3) (C := RX5) (T := TX5) (N := 18) cx.1.1 cx.1.2.1 cx.1.2.2.2.2 inB_X5 tyX5 tyX5_ok nmX5 cx.1.2.2.2.1 cx.2.2.1.2.1 hp.1.1 hp.1.2.1 hp.2 (lin o 0) (wm_0 ho eo hN) rfl 5 (by decide) (cx.1.2.2.2.2 _ qF_X5_27) (fun _ h => h) rfl (ty := .int) (v := .int v) (by decide +kernel) rfl rfl (Nat.le_of_ble_eq_true rfl) hdg (fun H1 locs1 hP hD hS => kk (us σ o (wI μ 0 5 v)) H1 locs1 (us_s _ _ _) (fun q h => us_n h) (hp_put cx (dec_M ho (by decide)) (lin_lt ho (by decide) hN) eo (wI_o μ 0 5 v) ((cel_M ho 0 _).trans rfl) hP hD hS))
theorem gF_X5_30 {o : Nat} (ho : o < 11) {μ : OM} (eo : σ o = μ) (hN : 129 ≤ eN E) (cx : Cx E p s m meth c args RX5 cc nL ret) (hp : Hp E σ s H locs) (hdg : decode cc pc = .ok (.getfield 30, 3)) (kk : W p l e R s m args below meth c H locs cells slots Q (F0 m (pc + 3) ls (.int (μ.1 0 6) :: rest))) : W p l e R s m args below meth c H locs cells slots Q (F0 m pc ls (.ref (adr E o 0) :: rest)) := va_get (D := eD E) (ci := 3) (C := RX5) (T := TX5) (N := 18) cx.1.1 cx.1.2.1 cx.1.2.2.2.2 inB_X5 cx.1.2.2.2.1 cx.2.2.1.2.1 hp.1.1 (lin o 0) (wm_0 ho eo hN) rfl 6 (by decide) (cx.1.2.2.2.2 _ qF_X5_30) (fun _ h => h) rfl hdg kk
theorem pF_X5_30 {o : Nat} (ho : o < 11) {μ : OM} (eo : σ o = μ) (hN : 129 ≤ eN E) (cx : Cx E p s m meth c args RX5 cc nL ret) (hp : Hp E σ s H locs) {v : Int32} (hdg : decode cc pc = .ok (.putfield 30, 3)) (kk : ∀ (u : SM) (H1 : Heap) (locs1 : List Loc), u o = wI μ 0 6 v → (∀ q, q ≠ o → u q = σ q) → Hp E u s H1 locs1 → W p l e R s m args below meth c H1 locs1 cells slots Q (F0 m (pc + 3) ls rest)) : W p l e R s m args below meth c H locs cells slots Q (F0 m pc ls (.int v :: .ref (adr E o 0) :: rest)) := va_put (D := eD E) (ci := 3) (C := RX5) (T := TX5) (N := 18) cx.1.1 cx.1.2.1 cx.1.2.2.2.2 inB_X5 tyX5 tyX5_ok nmX5 cx.1.2.2.2.1 cx.2.2.1.2.1 hp.1.1 hp.1.2.1 hp.2 (lin o 0) (wm_0 ho eo hN) rfl 6 (by decide) (cx.1.2.2.2.2 _ qF_X5_30) (fun _ h => h) rfl (ty := .int) (v := .int v) (by decide +kernel) rfl rfl (Nat.le_of_ble_eq_true rfl) hdg (fun H1 locs1 hP hD hS => kk (us σ o (wI μ 0 6 v)) H1 locs1 (us_s _ _ _) (fun q h => us_n h) (hp_put cx (dec_M ho (by decide)) (lin_lt ho (by decide) hN) eo (wI_o μ 0 6 v) ((cel_M ho 0 _).trans rfl) hP hD hS))
theorem gF_X5_33 {o : Nat} (ho : o < 11) {μ : OM} (eo : σ o = μ) (hN : 129 ≤ eN E) (cx : Cx E p s m meth c args RX5 cc nL ret) (hp : Hp E σ s H locs) (hdg : decode cc pc = .ok (.getfield 33, 3)) (kk : W p l e R s m args below meth c H locs cells slots Q (F0 m (pc + 3) ls (.int (μ.1 0 7) :: rest))) : W p l e R s m args below meth c H locs cells slots Q (F0 m pc ls (.ref (adr E o 0) :: rest)) := va_get (D := eD E) (ci := 3) (C := RX5) (T := TX5) (N := 18) cx.1.1 cx.1.2.1 cx.1.2.2.2.2 inB_X5 cx.1.2.2.2.1 cx.2.2.1.2.1 hp.1.1 (lin o 0) (wm_0 ho eo hN) rfl 7 (by decide) (cx.1.2.2.2.2 _ qF_X5_33) (fun _ h => h) rfl hdg kk
theorem pF_X5_33 {o : Nat} (ho : o < 11) {μ : OM} (eo : σ o = μ) (hN : 129 ≤ eN E) (cx : Cx E p s m meth c args RX5 cc nL ret) (hp : Hp E σ s H locs) {v : Int32} (hdg : decode cc pc = .ok (.putfield 33, 3)) (kk : ∀ (u : SM) (H1 : Heap) (locs1 : List Loc), u o = wI μ 0 7 v → (∀ q, q ≠ o → u q = σ q) → Hp E u s H1 locs1 → W p l e R s m args below meth c H1 locs1 cells slots Q (F0 m (pc + 3) ls rest)) : W p l e R s m args below meth c H locs cells slots Q (F0 m pc ls (.int v :: .ref (adr E o 0) :: rest)) := va_put (D := eD E) (ci := 3) (C := RX5) (T := TX5) (N := 18) cx.1.1 cx.1.2.1 cx.1.2.2.2.2 inB_X5 tyX5 tyX5_ok nmX5 cx.1.2.2.2.1 cx.2.2.1.2.1 hp.1.1 hp.1.2.1 hp.2 (lin o 0) (wm_0 ho eo hN) rfl 7 (by decide) (cx.1.2.2.2.2 _ qF_X5_33) (fun _ h => h) rfl (ty := .int) (v := .int v) (by decide +kernel) rfl rfl (Nat.le_of_ble_eq_true rfl) hdg (fun H1 locs1 hP hD hS => kk (us σ o (wI μ 0 7 v)) H1 locs1 (us_s _ _ _) (fun q h => us_n h) (hp_put cx (dec_M ho (by decide)) (lin_lt ho (by decide) hN) eo (wI_o μ 0 7 v) ((cel_M ho 0 _).trans rfl) hP hD hS))
theorem gF_X5_36 {o : Nat} (ho : o < 11) {μ : OM} (eo : σ o = μ) (hN : 129 ≤ eN E) (cx : Cx E p s m meth c args RX5 cc nL ret) (hp : Hp E σ s H locs) (hdg : decode cc pc = .ok (.getfield 36, 3)) (kk : W p l e R s m args below meth c H locs cells slots Q (F0 m (pc + 3) ls (.int (μ.1 0 8) :: rest))) : W p l e R s m args below meth c H locs cells slots Q (F0 m pc ls (.ref (adr E o 0) :: rest)) := va_get (D := eD E) (ci := 3) (C := RX5) (T := TX5) (N := 18) cx.1.1 cx.1.2.1 cx.1.2.2.2.2 inB_X5 cx.1.2.2.2.1 cx.2.2.1.2.1 hp.1.1 (lin o 0) (wm_0 ho eo hN) rfl 8 (by decide) (cx.1.2.2.2.2 _ qF_X5_36) (fun _ h => h) rfl hdg kk
theorem pF_X5_36 {o : Nat} (ho : o < 11) {μ : OM} (eo : σ o = μ) (hN : 129 ≤ eN E) (cx : Cx E p s m meth c args RX5 cc nL ret) (hp : Hp E σ s H locs) {v : Int32} (hdg : decode cc pc = .ok (.putfield 36, 3)) (kk : ∀ (u : SM) (H1 : Heap) (locs1 : List Loc), u o = wI μ 0 8 v → (∀ q, q ≠ o → u q = σ q) → Hp E u s H1 locs1 → W p l e R s m args below meth c H1 locs1 cells slots Q (F0 m (pc + 3) ls rest)) : W p l e R s m args below meth c H locs cells slots Q (F0 m pc ls (.int v :: .ref (adr E o 0) :: rest)) := va_put (D := eD E) (ci := 3) (C := RX5) (T := TX5) (N := 18) cx.1.1 cx.1.2.1 cx.1.2.2.2.2 inB_X5 tyX5 tyX5_ok nmX5 cx.1.2.2.2.1 cx.2.2.1.2.1 hp.1.1 hp.1.2.1 hp.2 (lin o 0) (wm_0 ho eo hN) rfl 8 (by decide) (cx.1.2.2.2.2 _ qF_X5_36) (fun _ h => h) rfl (ty := .int) (v := .int v) (by decide +kernel) rfl rfl (Nat.le_of_ble_eq_true rfl) hdg (fun H1 locs1 hP hD hS => kk (us σ o (wI μ 0 8 v)) H1 locs1 (us_s _ _ _) (fun q h => us_n h) (hp_put cx (dec_M ho (by decide)) (lin_lt ho (by decide) hN) eo (wI_o μ 0 8 v) ((cel_M ho 0 _).trans rfl) hP hD hS))
theorem gF_X5_39 {o : Nat} (ho : o < 11) {μ : OM} (eo : σ o = μ) (hN : 129 ≤ eN E) (cx : Cx E p s m meth c args RX5 cc nL ret) (hp : Hp E σ s H locs) (hdg : decode cc pc = .ok (.getfield 39, 3)) (kk : W p l e R s m args below meth c H locs cells slots Q (F0 m (pc + 3) ls (.ref (adr E o 1) :: rest))) : W p l e R s m args below meth c H locs cells slots Q (F0 m pc ls (.ref (adr E o 0) :: rest)) := va_get (D := eD E) (ci := 3) (C := RX5) (T := TX5) (N := 18) cx.1.1 cx.1.2.1 cx.1.2.2.2.2 inB_X5 cx.1.2.2.2.1 cx.2.2.1.2.1 hp.1.1 (lin o 0) (wm_0 ho eo hN) rfl 9 (by decide) (cx.1.2.2.2.2 _ qF_X5_39) (fun _ h => h) rfl hdg kk
theorem gF_X5_43 {o : Nat} (ho : o < 11) {μ : OM} (eo : σ o = μ) (hN : 129 ≤ eN E) (cx : Cx E p s m meth c args RX5 cc nL ret) (hp : Hp E σ s H locs) (hdg : decode cc pc = .ok (.getfield 43, 3)) (kk : W p l e R s m args below meth c H locs cells slots Q (F0 m (pc + 3) ls (.ref (adr E o 2) :: rest))) : W p l e R s m args below meth c H locs cells slots Q (F0 m pc ls (.ref (adr E o 0) :: rest)) := va_get (D := eD E) (ci := 3) (C := RX5) (T := TX5) (N := 18) cx.1.1 cx.1.2.1 cx.1.2.2.2.2 inB_X5 cx.1.2.2.2.1 cx.2.2.1.2.1 hp.1.1 (lin o 0) (wm_0 ho eo hN) rfl 10 (by decide) (cx.1.2.2.2.2 _ qF_X5_43) (fun _ h => h) rfl hdg kk
theorem gF_X5_47 {o : Nat} (ho : o < 11) {μ : OM} (eo : σ o = μ) (hN : 129 ≤ eN E) (cx : Cx E p s m meth c args RX5 cc nL ret) (hp : Hp E σ s H locs) (hdg : decode cc pc = .ok (.getfield 47, 3)) (kk : W p l e R s m args below meth c H locs cells slots Q (F0 m (pc + 3) ls (.ref (adr E o 3) :: rest))) : W p l e R s m args below meth c H locs cells slots Q (F0 m pc ls (.ref (adr E o 0) :: rest)) := va_get (D := eD E) (ci := 3) (C := RX5) (T := TX5) (N := 18) cx.1.1 cx.1.2.1 cx.1.2.2.2.2 inB_X5 cx.1.2.2.2.1 cx.2.2.1.2.1 hp.1.1 (lin o 0) (wm_0 ho eo hN) rfl 11 (by decide) (cx.1.2.2.2.2 _ qF_X5_47) (fun _ h => h) rfl hdg kk
theorem gF_X5_50 {o : Nat} (ho : o < 11) {μ : OM} (eo : σ o = μ) (hN : 129 ≤ eN E) (cx : Cx E p s m meth c args RX5 cc nL ret) (hp : Hp E σ s H locs) (hdg : decode cc pc = .ok (.getfield 50, 3)) (kk : W p l e R s m args below meth c H locs cells slots Q (F0 m (pc + 3) ls (.ref (adr E o 4) :: rest))) : W p l e R s m args below meth c H locs cells slots Q (F0 m pc ls (.ref (adr E o 0) :: rest)) := va_get (D := eD E) (ci := 3) (C := RX5) (T := TX5) (N := 18) cx.1.1 cx.1.2.1 cx.1.2.2.2.2 inB_X5 cx.1.2.2.2.1 cx.2.2.1.2.1 hp.1.1 (lin o 0) (wm_0 ho eo hN) rfl 12 (by decide) (cx.1.2.2.2.2 _ qF_X5_50) (fun _ h => h) rfl hdg kk
theorem gF_X5_53 {o : Nat} (ho : o < 11) {μ : OM} (eo : σ o = μ) (hN : 129 ≤ eN E) (cx : Cx E p s m meth c args RX5 cc nL ret) (hp : Hp E σ s H locs) (hdg : decode cc pc = .ok (.getfield 53, 3)) (kk : W p l e R s m args below meth c H locs cells slots Q (F0 m (pc + 3) ls (.ref (adr E o 5) :: rest))) : W p l e R s m args below meth c H locs cells slots Q (F0 m pc ls (.ref (adr E o 0) :: rest)) := va_get (D := eD E) (ci := 3) (C := RX5) (T := TX5) (N := 18) cx.1.1 cx.1.2.1 cx.1.2.2.2.2 inB_X5 cx.1.2.2.2.1 cx.2.2.1.2.1 hp.1.1 (lin o 0) (wm_0 ho eo hN) rfl 13 (by decide) (cx.1.2.2.2.2 _ qF_X5_53) (fun _ h => h) rfl hdg kk
theorem gF_X5_56 {o : Nat} (ho : o < 11) {μ : OM} (eo : σ o = μ) (hN : 129 ≤ eN E) (cx : Cx E p s m meth c args RX5 cc nL ret) (hp : Hp E σ s H locs) (hdg : decode cc pc = .ok (.getfield 56, 3)) (kk : W p l e R s m args below meth c H locs cells slots Q (F0 m (pc + 3) ls (.ref (adr E o 6) :: rest))) : W p l e R s m args below meth c H locs cells slots Q (F0 m pc ls (.ref (adr E o 0) :: rest)) := va_get (D := eD E) (ci := 3) (C := RX5) (T := TX5) (N := 18) cx.1.1 cx.1.2.1 cx.1.2.2.2.2 inB_X5 cx.1.2.2.2.1 cx.2.2.1.2.1 hp.1.1 (lin o 0) (wm_0 ho eo hN) rfl 14 (by decide) (cx.1.2.2.2.2 _ qF_X5_56) (fun _ h => h) rfl hdg kk
theorem gF_X5_59 {o : Nat} (ho : o < 11) {μ : OM} (eo : σ o = μ) (hN : 129 ≤ eN E) (cx : Cx E p s m meth c args RX5 cc nL ret) (hp : Hp E σ s H locs) (hdg : decode cc pc = .ok (.getfield 59, 3)) (kk : W p l e R s m args below meth c H locs cells slots Q (F0 m (pc + 3) ls (.ref (adr E o 7) :: rest))) : W p l e R s m args below meth c H locs cells slots Q (F0 m pc ls (.ref (adr E o 0) :: rest)) := va_get (D := eD E) (ci := 3) (C := RX5) (T := TX5) (N := 18) cx.1.1 cx.1.2.1 cx.1.2.2.2.2 inB_X5 cx.1.2.2.2.1 cx.2.2.1.2.1 hp.1.1 (lin o 0) (wm_0 ho eo hN) rfl 15 (by decide) (cx.1.2.2.2.2 _ qF_X5_59) (fun _ h => h) rfl hdg kk
theorem gF_X5_62 {o : Nat} (ho : o < 11) {μ : OM} (eo : σ o = μ) (hN : 129 ≤ eN E) (cx : Cx E p s m meth c args RX5 cc nL ret) (hp : Hp E σ s H locs) (hdg : decode cc pc = .ok (.getfield 62, 3)) (kk : W p l e R s m args below meth c H locs cells slots Q (F0 m (pc + 3) ls (.ref (adr E o 8) :: rest))) : W p l e R s m args below meth c H locs cells slots Q (F0 m pc ls (.ref (adr E o 0) :: rest)) := va_get (D := eD E) (ci := 3) (C := RX5) (T := TX5) (N := 18) cx.1.1 cx.1.2.1 cx.1.2.2.2.2 inB_X5 cx.1.2.2.2.1 cx.2.2.1.2.1 hp.1.1 (lin o 0) (wm_0 ho eo hN) rfl 16 (by decide) (cx.1.2.2.2.2 _ qF_X5_62) (fun _ h => h) rfl hdg kk
theorem gF_X5_65 {o : Nat} (ho : o < 11) {μ : OM} (eo : σ o = μ) (hN : 129 ≤ eN E) (cx : Cx E p s m meth c args RX5 cc nL ret) (hp : Hp E σ s H locs) (hdg : decode cc pc = .ok (.getfield 65, 3)) (kk : W p l e R s m args below meth c H locs cells slots Q (F0 m (pc + 3) ls (.ref (adr E o 9) :: rest))) : W p l e R s m args below meth c H locs cells slots Q (F0 m pc ls (.ref (adr E o 0) :: rest)) := va_get (D := eD E) (ci := 3) (C := RX5) (T := TX5) (N := 18) cx.1.1 cx.1.2.1 cx.1.2.2.2.2 inB_X5 cx.1.2.2.2.1 cx.2.2.1.2.1 hp.1.1 (lin o 0) (wm_0 ho eo hN) rfl 17 (by decide) (cx.1.2.2.2.2 _ qF_X5_65) (fun _ h => h) rfl hdg kk
theorem gF_X6_9 {μ : OM} (eo : σ 18 = μ) (hN : 129 ≤ eN E) (cx : Cx E p s m meth c args RX6 cc nL ret) (hp : Hp E σ s H locs) (hdg : decode cc pc = .ok (.getfield 9, 3)) (kk : W p l e R s m args below meth c H locs cells slots Q (F0 m (pc + 3) ls (.ref (adr E 18 1) :: rest))) : W p l e R s m args below meth c H locs cells slots Q (F0 m pc ls (.ref (adr E 18 0) :: rest)) := va_get (D := eD E) (ci := 4) (C := RX6) (T := TX6) (N := 3) cx.1.1 cx.1.2.1 cx.1.2.2.2.2 inB_X6 cx.1.2.2.2.1 cx.2.2.1.2.1 hp.1.1 (lin 18 0) (wo_18_0 eo hN) rfl 0 (by decide) (cx.1.2.2.2.2 _ qF_X6_9) (fun _ h => h) rfl hdg kk
theorem gF_X6_15 {μ : OM} (eo : σ 18 = μ) (hN : 129 ≤ eN E) (cx : Cx E p s m meth c args RX6 cc nL ret) (hp : Hp E σ s H locs) (hdg : decode cc pc = .ok (.getfield 15, 3)) (kk : W p l e R s m args below meth c H locs cells slots Q (F0 m (pc + 3) ls (.int (μ.1 0 1) :: rest))) : W p l e R s m args below meth c H locs cells slots Q (F0 m pc ls (.ref (adr E 18 0) :: rest)) := va_get (D := eD E) (ci := 4) (C := RX6) (T := TX6) (N := 3) cx.1.1 cx.1.2.1 cx.1.2.2.2.2 inB_X6 cx.1.2.2.2.1 cx.2.2.1.2.1 hp.1.1 (lin 18 0) (wo_18_0 eo hN) rfl 1 (by decide) (cx.1.2.2.2.2 _ qF_X6_15) (fun _ h => h) rfl hdg kk
theorem pF_X6_15 {μ : OM} (eo : σ 18 = μ) (hN : 129 ≤ eN E) (cx : Cx E p s m meth c args RX6 cc nL ret) (hp : Hp E σ s H locs) {v : Int32} (hdg : decode cc pc = .ok (.putfield 15, 3)) (kk : ∀ (u : SM) (H1 : Heap) (locs1 : List Loc), u 18 = wI μ 0 1 v → (∀ q, q ≠ 18 → u q = σ q) → Hp E u s H1 locs1 → W p l e R s m args below meth c H1 locs1 cells slots Q (F0 m (pc + 3) ls rest)) : W p l e R s m args below meth c H locs cells slots Q (F0 m pc ls (.int v :: .ref (adr E 18 0) :: rest)) := va_put (D := eD E) (ci := 4) (C := RX6) (T := TX6) (N := 3) cx.1.1 cx.1.2.1 cx.1.2.2.2.2 inB_X6 tyX6 tyX6_ok nmX6 cx.1.2.2.2.1 cx.2.2.1.2.1 hp.1.1 hp.1.2.1 hp.2 (lin 18 0) (wo_18_0 eo hN) rfl 1 (by decide) (cx.1.2.2.2.2 _ qF_X6_15) (fun _ h => h) rfl (ty := .int) (v := .int v) (by decide +kernel) rfl rfl (Nat.le_of_ble_eq_true rfl) hdg (fun H1 locs1 hP hD hS => kk (us σ 18 (wI μ 0 1 v)) H1 locs1 (us_s _ _ _) (fun q h => us_n h) (hp_put cx ((by decide)) ((Nat.lt_of_lt_of_le (by decide) hN)) eo (wI_o μ 0 1 v) rfl hP hD hS))
theorem gF_X6_19 {μ : OM} (eo : σ 18 = μ) (hN : 129 ≤ eN E) (cx : Cx E p s m meth c args RX6 cc nL ret) (hp : Hp E σ s H locs) (hdg : decode cc pc = .ok (.getfield 19, 3)) (kk : W p l e R s m args below meth c H locs cells slots Q (F0 m (pc + 3) ls (.int (μ.1 0 2) :: rest))) : W p l e R s m args below meth c H locs cells slots Q (F0 m pc ls (.ref (adr E 18 0) :: rest)) := va_get (D := eD E) (ci := 4) (C := RX6) (T := TX6) (N := 3) cx.1.1 cx.1.2.1 cx.1.2.2.2.2 inB_X6 cx.1.2.2.2.1 cx.2.2.1.2.1 hp.1.1 (lin 18 0) (wo_18_0 eo hN) rfl 2 (by decide) (cx.1.2.2.2.2 _ qF_X6_19) (fun _ h => h) rfl hdg kk
theorem pF_X6_19 {μ : OM} (eo : σ 18 = μ) (hN : 129 ≤ eN E) (cx : Cx E p s m meth c args RX6 cc nL ret) (hp : Hp E σ s H locs) {v : Int32} (hdg : decode cc pc = .ok (.putfield 19, 3)) (kk : ∀ (u : SM) (H1 : Heap) (locs1 : List Loc), u 18 = wI μ 0 2 v → (∀ q, q ≠ 18 → u q = σ q) → Hp E u s H1 locs1 → W p l e R s m args below meth c H1 locs1 cells slots Q (F0 m (pc + 3) ls rest)) : W p l e R s m args below meth c H locs cells slots Q (F0 m pc ls (.int v :: .ref (adr E 18 0) :: rest)) := va_put (D := eD E) (ci := 4) (C := RX6) (T := TX6) (N := 3) cx.1.1 cx.1.2.1 cx.1.2.2.2.2 inB_X6 tyX6 tyX6_ok nmX6 cx.1.2.2.2.1 cx.2.2.1.2.1 hp.1.1 hp.1.2.1 hp.2 (lin 18 0) (wo_18_0 eo hN) rfl 2 (by decide) (cx.1.2.2.2.2 _ qF_X6_19) (fun _ h => h) rfl (ty := .int) (v := .int v) (by decide +kernel) rfl rfl (Nat.le_of_ble_eq_true rfl) hdg (fun H1 locs1 hP hD hS => kk (us σ 18 (wI μ 0 2 v)) H1 locs1 (us_s _ _ _) (fun q h => us_n h) (hp_put cx ((by decide)) ((Nat.lt_of_lt_of_le (by decide) hN)) eo (wI_o μ 0 2 v) rfl hP hD hS))
theorem gF_X7_12 {μ : OM} (eo : σ 11 = μ) (hN : 129 ≤ eN E) (cx : Cx E p s m meth c args RX7 cc nL ret) (hp : Hp E σ s H locs) (hdg : decode cc pc = .ok (.getfield 12, 3)) (kk : W p l e R s m args below meth c H locs cells slots Q (F0 m (pc + 3) ls (.ref (adr E 12 0) :: rest))) : W p l e R s m args below meth c H locs cells slots Q (F0 m pc ls (.ref (adr E 11 0) :: rest)) := va_get (D := eD E) (ci := 5) (C := RX7) (T := TX7) (N := 3) cx.1.1 cx.1.2.1 cx.1.2.2.2.2 inB_X7 cx.1.2.2.2.1 cx.2.2.1.2.1 hp.1.1 (lin 11 0) (wo_11_0 eo hN) rfl 0 (by decide) (cx.1.2.2.2.2 _ qF_X7_12) (fun _ h => h) rfl hdg kk
theorem gF_X7_18 {μ : OM} (eo : σ 11 = μ) (hN : 129 ≤ eN E) (cx : Cx E p s m meth c args RX7 cc nL ret) (hp : Hp E σ s H locs) (hdg : decode cc pc = .ok (.getfield 18, 3)) (kk : W p l e R s m args below meth c H locs cells slots Q (F0 m (pc + 3) ls (.int (μ.1 0 1) :: rest))) : W p l e R s m args below meth c H locs cells slots Q (F0 m pc ls (.ref (adr E 11 0) :: rest)) := va_get (D := eD E) (ci := 5) (C := RX7) (T := TX7) (N := 3) cx.1.1 cx.1.2.1 cx.1.2.2.2.2 inB_X7 cx.1.2.2.2.1 cx.2.2.1.2.1 hp.1.1 (lin 11 0) (wo_11_0 eo hN) rfl 1 (by decide) (cx.1.2.2.2.2 _ qF_X7_18) (fun _ h => h) rfl hdg kk
theorem pF_X7_18 {μ : OM} (eo : σ 11 = μ) (hN : 129 ≤ eN E) (cx : Cx E p s m meth c args RX7 cc nL ret) (hp : Hp E σ s H locs) {v : Int32} (hdg : decode cc pc = .ok (.putfield 18, 3)) (kk : ∀ (u : SM) (H1 : Heap) (locs1 : List Loc), u 11 = wI μ 0 1 v → (∀ q, q ≠ 11 → u q = σ q) → Hp E u s H1 locs1 → W p l e R s m args below meth c H1 locs1 cells slots Q (F0 m (pc + 3) ls rest)) : W p l e R s m args below meth c H locs cells slots Q (F0 m pc ls (.int v :: .ref (adr E 11 0) :: rest)) := va_put (D := eD E) (ci := 5) (C := RX7) (T := TX7) (N := 3) cx.1.1 cx.1.2.1 cx.1.2.2.2.2 inB_X7 tyX7 tyX7_ok nmX7 cx.1.2.2.2.1 cx.2.2.1.2.1 hp.1.1 hp.1.2.1 hp.2 (lin 11 0) (wo_11_0 eo hN) rfl 1 (by decide) (cx.1.2.2.2.2 _ qF_X7_18) (fun _ h => h) rfl (ty := .int) (v := .int v) (by decide +kernel) rfl rfl (Nat.le_of_ble_eq_true rfl) hdg (fun H1 locs1 hP hD hS => kk (us σ 11 (wI μ 0 1 v)) H1 locs1 (us_s _ _ _) (fun q h => us_n h) (hp_put cx ((by decide)) ((Nat.lt_of_lt_of_le (by decide) hN)) eo (wI_o μ 0 1 v) rfl hP hD hS))
theorem gF_X7_22 {μ : OM} (eo : σ 11 = μ) (hN : 129 ≤ eN E) (cx : Cx E p s m meth c args RX7 cc nL ret) (hp : Hp E σ s H locs) (hdg : decode cc pc = .ok (.getfield 22, 3)) (kk : W p l e R s m args below meth c H locs cells slots Q (F0 m (pc + 3) ls (.int (μ.1 0 2) :: rest))) : W p l e R s m args below meth c H locs cells slots Q (F0 m pc ls (.ref (adr E 11 0) :: rest)) := va_get (D := eD E) (ci := 5) (C := RX7) (T := TX7) (N := 3) cx.1.1 cx.1.2.1 cx.1.2.2.2.2 inB_X7 cx.1.2.2.2.1 cx.2.2.1.2.1 hp.1.1 (lin 11 0) (wo_11_0 eo hN) rfl 2 (by decide) (cx.1.2.2.2.2 _ qF_X7_22) (fun _ h => h) rfl hdg kk
theorem pF_X7_22 {μ : OM} (eo : σ 11 = μ) (hN : 129 ≤ eN E) (cx : Cx E p s m meth c args RX7 cc nL ret) (hp : Hp E σ s H locs) {v : Int32} (hdg : decode cc pc = .ok (.putfield 22, 3)) (kk : ∀ (u : SM) (H1 : Heap) (locs1 : List Loc), u 11 = wI μ 0 2 v → (∀ q, q ≠ 11 → u q = σ q) → Hp E u s H1 locs1 → W p l e R s m args below meth c H1 locs1 cells slots Q (F0 m (pc + 3) ls rest)) : W p l e R s m args below meth c H locs cells slots Q (F0 m pc ls (.int v :: .ref (adr E 11 0) :: rest)) := va_put (D := eD E) (ci := 5) (C := RX7) (T := TX7) (N := 3) cx.1.1 cx.1.2.1 cx.1.2.2.2.2 inB_X7 tyX7 tyX7_ok nmX7 cx.1.2.2.2.1 cx.2.2.1.2.1 hp.1.1 hp.1.2.1 hp.2 (lin 11 0) (wo_11_0 eo hN) rfl 2 (by decide) (cx.1.2.2.2.2 _ qF_X7_22) (fun _ h => h) rfl (ty := .int) (v := .int v) (by decide +kernel) rfl rfl (Nat.le_of_ble_eq_true rfl) hdg (fun H1 locs1 hP hD hS => kk (us σ 11 (wI μ 0 2 v)) H1 locs1 (us_s _ _ _) (fun q h => us_n h) (hp_put cx ((by decide)) ((Nat.lt_of_lt_of_le (by decide) hN)) eo (wI_o μ 0 2 v) rfl hP hD hS))
theorem gF_X7_28 {μ : OM} (eo : σ 12 = μ) (hN : 129 ≤ eN E) (cx : Cx E p s m meth c args RX7 cc nL ret) (hp : Hp E σ s H locs) (hdg : decode cc pc = .ok (.getfield 28, 3)) (kk : W p l e R s m args below meth c H locs cells slots Q (F0 m (pc + 3) ls (.int (μ.1 0 2) :: rest))) : W p l e R s m args below meth c H locs cells slots Q (F0 m pc ls (.ref (adr E 12 0) :: rest)) := va_getN (D := eD E) (ci := 7) (C := RX10) (T := TX10) (N := 6) cx.1.1 cx.1.2.1 cx.1.2.2.2.2 inB_X10 cx.1.2.2.2.1 cx.2.2.1.2.1 hp.1.1 (lin 12 0) (wo_12_0 eo hN) rfl 2 (by decide) (va_Nw.use (nb_tab qF_X7_28) (cx.2.2.1.2.2.1 _ qF_X7_28)) (fun _ h => h) rfl hdg kk
theorem pF_X7_28 {μ : OM} (eo : σ 12 = μ) (hN : 129 ≤ eN E) (cx : Cx E p s m meth c args RX7 cc nL ret) (hp : Hp E σ s H locs) {v : Int32} (hdg : decode cc pc = .ok (.putfield 28, 3)) (kk : ∀ (u : SM) (H1 : Heap) (locs1 : List Loc), u 12 = wI μ 0 2 v → (∀ q, q ≠ 12 → u q = σ q) → Hp E u s H1 locs1 → W p l e R s m args below meth c H1 locs1 cells slots Q (F0 m (pc + 3) ls rest)) : W p l e R s m args below meth c H locs cells slots Q (F0 m pc ls (.int v :: .ref (adr E 12 0) :: rest)) := va_putN (D := eD E) (ci := 7) (C := RX10) (T := TX10) (N := 6) cx.1.1 cx.1.2.1 cx.1.2.2.2.2 inB_X10 tyX10 tyX10_ok nmX10 cx.1.2.2.2.1 cx.2.2.1.2.1 hp.1.1 hp.1.2.1 hp.2 (lin 12 0) (wo_12_0 eo hN) rfl 2 (by decide) (va_Nw.use (nb_tab qF_X7_28) (cx.2.2.1.2.2.1 _ qF_X7_28)) (fun _ h => h) rfl (ty := .int) (v := .int v) (by decide +kernel) rfl rfl (Nat.le_of_ble_eq_true rfl) hdg (fun H1 locs1 hP hD hS => kk (us σ 12 (wI μ 0 2 v)) H1 locs1 (us_s _ _ _) (fun q h => us_n h) (hp_put cx ((by decide)) ((Nat.lt_of_lt_of_le (by decide) hN)) eo (wI_o μ 0 2 v) rfl hP hD hS))
theorem gF_X7_42 {μ : OM} (eo : σ 12 = μ) (hN : 129 ≤ eN E) (cx : Cx E p s m meth c args RX7 cc nL ret) (hp : Hp E σ s H locs) (hdg : decode cc pc = .ok (.getfield 42, 3)) (kk : W p l e R s m args below meth c H locs cells slots Q (F0 m (pc + 3) ls (.int (μ.1 0 1) :: rest))) : W p l e R s m args below meth c H locs cells slots Q (F0 m pc ls (.ref (adr E 12 0) :: rest)) := va_getN (D := eD E) (ci := 7) (C := RX10) (T := TX10) (N := 6) cx.1.1 cx.1.2.1 cx.1.2.2.2.2 inB_X10 cx.1.2.2.2.1 cx.2.2.1.2.1 hp.1.1 (lin 12 0) (wo_12_0 eo hN) rfl 1 (by decide) (va_Nw.use (nb_tab qF_X7_42) (cx.2.2.1.2.2.1 _ qF_X7_42)) (fun _ h => h) rfl hdg kk
theorem pF_X7_42 {μ : OM} (eo : σ 12 = μ) (hN : 129 ≤ eN E) (cx : Cx E p s m meth c args RX7 cc nL ret) (hp : Hp E σ s H locs) {v : Int32} (hdg : decode cc pc = .ok (.putfield 42, 3)) (kk : ∀ (u : SM) (H1 : Heap) (locs1 : List Loc), u 12 = wI μ 0 1 v → (∀ q, q ≠ 12 → u q = σ q) → Hp E u s H1 locs1 → W p l e R s m args below meth c H1 locs1 cells slots Q (F0 m (pc + 3) ls rest)) : W p l e R s m args below meth c H locs cells slots Q (F0 m pc ls (.int v :: .ref (adr E 12 0) :: rest)) := va_putN (D := eD E) (ci := 7) (C := RX10) (T := TX10) (N := 6) cx.1.1 cx.1.2.1 cx.1.2.2.2.2 inB_X10 tyX10 tyX10_ok nmX10 cx.1.2.2.2.1 cx.2.2.1.2.1 hp.1.1 hp.1.2.1 hp.2 (lin 12 0) (wo_12_0 eo hN) rfl 1 (by decide) (va_Nw.use (nb_tab qF_X7_42) (cx.2.2.1.2.2.1 _ qF_X7_42)) (fun _ h => h) rfl (ty := .int) (v := .int v) (by decide +kernel) rfl rfl (Nat.le_of_ble_eq_true rfl) hdg (fun H1 locs1 hP hD hS => kk (us σ 12 (wI μ 0 1 v)) H1 locs1 (us_s _ _ _) (fun q h => us_n h) (hp_put cx ((by decide)) ((Nat.lt_of_lt_of_le (by decide) hN)) eo (wI_o μ 0 1 v) rfl hP hD hS))
theorem gF_X7_45 {μ : OM} (eo : σ 12 = μ) (hN : 129 ≤ eN E) (cx : Cx E p s m meth c args RX7 cc nL ret) (hp : Hp E σ s H locs) (hdg : decode cc pc = .ok (.getfield 45, 3)) (kk : W p l e R s m args below meth c H locs cells slots Q (F0 m (pc + 3) ls (.int (μ.1 0 4) :: rest))) : W p l e R s m args below meth c H locs cells slots Q (F0 m pc ls (.ref (adr E 12 0) :: rest)) := va_getN (D := eD E) (ci := 7) (C := RX10) (T := TX10) (N := 6) cx.1.1 cx.1.2.1 cx.1.2.2.2.2 inB_X10 cx.1.2.2.2.1 cx.2.2.1.2.1 hp.1.1 (lin 12 0) (wo_12_0 eo hN) rfl 4 (by decide) (va_Nw.use (nb_tab qF_X7_45) (cx.2.2.1.2.2.1 _ qF_X7_45)) (fun _ h => h) rfl hdg kk
theorem pF_X7_45 {μ : OM} (eo : σ 12 = μ) (hN : 129 ≤ eN E) (cx : Cx E p s m meth c args RX7 cc nL ret) (hp : Hp E σ s H locs) {v : Int32} (hdg : decode cc pc = .ok (.putfield 45, 3)) (kk : ∀ (u : SM) (H1 : Heap) (locs1 : List Loc), u 12 = wI μ 0 4 v → (∀ q, q ≠ 12 → u q = σ q) → Hp E u s H1 locs1 → W p l e R s m args below meth c H1 locs1 cells slots Q (F0 m (pc + 3) ls rest)) : W p l e R s m args below meth c H locs cells slots Q (F0 m pc ls (.int v :: .ref (adr E 12 0) :: rest)) := va_putN (D := eD E) (ci := 7) (C := RX10) (T := TX10) (N := 6) cx.1.1 cx.1.2.1 cx.1.2.2.2.2 inB_X10 tyX10 tyX10_ok nmX10 cx.1.2.2.2.1 cx.2.2.1.2.1 hp.1.1 hp.1.2.1 hp.2 (lin 12 0) (wo_12_0 eo hN) rfl 4 (by decide) (va_Nw.use (nb_tab qF_X7_45) (cx.2.2.1.2.2.1 _ qF_X7_45)) (fun _ h => h) rfl (ty := .int) (v := .int v) (by decide +kernel) rfl rfl (Nat.le_of_ble_eq_true rfl) hdg (fun H1 locs1 hP hD hS => kk (us σ 12 (wI μ 0 4 v)) H1 locs1 (us_s _ _ _) (fun q h => us_n h) (hp_put cx ((by decide)) ((Nat.lt_of_lt_of_le (by decide) hN)) eo (wI_o μ 0 4 v) rfl hP hD hS))
theorem gF_X7_48 {μ : OM} (eo : σ 12 = μ) (hN : 129 ≤ eN E) (cx : Cx E p s m meth c args RX7 cc nL ret) (hp : Hp E σ s H locs) (hdg : decode cc pc = .ok (.getfield 48, 3)) (kk : W p l e R s m args below meth c H locs cells slots Q (F0 m (pc + 3) ls (.long (μ.2.1 0 5) :: rest))) : W p l e R s m args below meth c H locs cells slots Q (F0 m pc ls (.ref (adr E 12 0) :: rest)) := va_getN (D := eD E) (ci := 7) (C := RX10) (T := TX10) (N := 6) cx.1.1 cx.1.2.1 cx.1.2.2.2.2 inB_X10 cx.1.2.2.2.1 cx.2.2.1.2.1 hp.1.1 (lin 12 0) (wo_12_0 eo hN) rfl 5 (by decide) (va_Nw.use (nb_tab qF_X7_48) (cx.2.2.1.2.2.1 _ qF_X7_48)) (fun _ h => h) rfl hdg kk
theorem pF_X7_48 {μ : OM} (eo : σ 12 = μ) (hN : 129 ≤ eN E) (cx : Cx E p s m meth c args RX7 cc nL ret) (hp : Hp E σ s H locs) {v : Int64} (hdg : decode cc pc = .ok (.putfield 48, 3)) (kk : ∀ (u : SM) (H1 : Heap) (locs1 : List Loc), u 12 = wJ μ 0 5 v → (∀ q, q ≠ 12 → u q = σ q) → Hp E u s H1 locs1 → W p l e R s m args below meth c H1 locs1 cells slots Q (F0 m (pc + 3) ls rest)) : W p l e R s m args below meth c H locs cells slots Q (F0 m pc ls (.long v :: .ref (adr E 12 0) :: rest)) := va_putN (D := eD E) (ci := 7) (C := RX10) (T := TX10) (N := 6) cx.1.1 cx.1.2.1 cx.1.2.2.2.2 inB_X10 tyX10 tyX10_ok nmX10 cx.1.2.2.2.1 cx.2.2.1.2.1 hp.1.1 hp.1.2.1 hp.2 (lin 12 0) (wo_12_0 eo hN) rfl 5 (by decide) (va_Nw.use (nb_tab qF_X7_48) (cx.2.2.1.2.2.1 _ qF_X7_48)) (fun _ h => h) rfl (ty := .long) (v := .long v) (by decide +kernel) rfl rfl (Nat.le_of_ble_eq_true rfl) hdg (fun H1 locs1 hP hD hS => kk (us σ 12 (wJ μ 0 5 v)) H1 locs1 (us_s _ _ _) (fun q h => us_n h) (hp_put cx ((by decide)) ((Nat.lt_of_lt_of_le (by decide) hN)) eo (wJ_o μ 0 5 v) rfl hP hD hS))
theorem gF_X8_11 {μ : OM} (eo : σ 15 = μ) (hN : 129 ≤ eN E) (cx : Cx E p s m meth c args RX8 cc nL ret) (hp : Hp E σ s H locs) (hdg : decode cc pc = .ok (.getfield 11, 3)) (kk : W p l e R s m args below meth c H locs cells slots Q (F0 m (pc + 3) ls (.ref (adr E 15 1) :: rest))) : W p l e R s m args below meth c H locs cells slots Q (F0 m pc ls (.ref (adr E 15 0) :: rest)) := va_get (D := eD E) (ci := 6) (C := RX8) (T := TX8) (N := 4) cx.1.1 cx.1.2.1 cx.1.2.2.2.2 inB_X8 cx.1.2.2.2.1 cx.2.2.1.2.1 hp.1.1 (lin 15 0) (wo_15_0 eo hN) rfl 0 (by decide) (cx.1.2.2.2.2 _ qF_X8_11) (fun _ h => h) rfl hdg kk
theorem gF_X8_17 {μ : OM} (eo : σ 15 = μ) (hN : 129 ≤ eN E) (cx : Cx E p s m meth c args RX8 cc nL ret) (hp : Hp E σ s H locs) (hdg : decode cc pc = .ok (.getfield 17, 3)) (kk : W p l e R s m args below meth c H locs cells slots Q (F0 m (pc + 3) ls (.ref (adr E 15 2) :: rest))) : W p l e R s m args below meth c H locs cells slots Q (F0 m pc ls (.ref (adr E 15 0) :: rest)) := va_get (D := eD E) (ci := 6) (C := RX8) (T := TX8) (N := 4) cx.1.1 cx.1.2.1 cx.1.2.2.2.2 inB_X8 cx.1.2.2.2.1 cx.2.2.1.2.1 hp.1.1 (lin 15 0) (wo_15_0 eo hN) rfl 1 (by decide) (cx.1.2.2.2.2 _ qF_X8_17) (fun _ h => h) rfl hdg kk
theorem gF_X8_21 {μ : OM} (eo : σ 15 = μ) (hN : 129 ≤ eN E) (cx : Cx E p s m meth c args RX8 cc nL ret) (hp : Hp E σ s H locs) (hdg : decode cc pc = .ok (.getfield 21, 3)) (kk : W p l e R s m args below meth c H locs cells slots Q (F0 m (pc + 3) ls (.ref (adr E 15 3) :: rest))) : W p l e R s m args below meth c H locs cells slots Q (F0 m pc ls (.ref (adr E 15 0) :: rest)) := va_get (D := eD E) (ci := 6) (C := RX8) (T := TX8) (N := 4) cx.1.1 cx.1.2.1 cx.1.2.2.2.2 inB_X8 cx.1.2.2.2.1 cx.2.2.1.2.1 hp.1.1 (lin 15 0) (wo_15_0 eo hN) rfl 2 (by decide) (cx.1.2.2.2.2 _ qF_X8_21) (fun _ h => h) rfl hdg kk
theorem gF_X8_24 {μ : OM} (eo : σ 15 = μ) (hN : 129 ≤ eN E) (cx : Cx E p s m meth c args RX8 cc nL ret) (hp : Hp E σ s H locs) (hdg : decode cc pc = .ok (.getfield 24, 3)) (kk : W p l e R s m args below meth c H locs cells slots Q (F0 m (pc + 3) ls (.int (μ.1 0 3) :: rest))) : W p l e R s m args below meth c H locs cells slots Q (F0 m pc ls (.ref (adr E 15 0) :: rest)) := va_get (D := eD E) (ci := 6) (C := RX8) (T := TX8) (N := 4) cx.1.1 cx.1.2.1 cx.1.2.2.2.2 inB_X8 cx.1.2.2.2.1 cx.2.2.1.2.1 hp.1.1 (lin 15 0) (wo_15_0 eo hN) rfl 3 (by decide) (cx.1.2.2.2.2 _ qF_X8_24) (fun _ h => h) rfl hdg kk
theorem pF_X8_24 {μ : OM} (eo : σ 15 = μ) (hN : 129 ≤ eN E) (cx : Cx E p s m meth c args RX8 cc nL ret) (hp : Hp E σ s H locs) {v : Int32} (hdg : decode cc pc = .ok (.putfield 24, 3)) (kk : ∀ (u : SM) (H1 : Heap) (locs1 : List Loc), u 15 = wI μ 0 3 v → (∀ q, q ≠ 15 → u q = σ q) → Hp E u s H1 locs1 → W p l e R s m args below meth c H1 locs1 cells slots Q (F0 m (pc + 3) ls rest)) : W p l e R s m args below meth c H locs cells slots Q (F0 m pc ls (.int v :: .ref (adr E 15 0) :: rest)) := va_put (D := eD E) (ci := 6) (C := RX8) (T := TX8) (N := 4) cx.1.1 cx.1.2.1 cx.1.2.2.2.2 inB_X8 tyX8 tyX8_ok nmX8 cx.1.2.2.2.1 cx.2.2.1.2.1 hp.1.1 hp.1.2.1 hp.2 (lin 15 0) (wo_15_0 eo hN) rfl 3 (by decide) (cx.1.2.2.2.2 _ qF_X8_24) (fun _ h => h) rfl (ty := .int) (v := .int v) (by decide +kernel) rfl rfl (Nat.le_of_ble_eq_true rfl) hdg (fun H1 locs1 hP hD hS => kk (us σ 15 (wI μ 0 3 v)) H1 locs1 (us_s _ _ _) (fun q h => us_n h) (hp_put cx ((by decide)) ((Nat.lt_of_lt_of_le (by decide) hN)) eo (wI_o μ 0 3 v) rfl hP hD hS))
theorem gF_X9_38 {μ : OM} (eo : σ 11 = μ) (hN : 129 ≤ eN E) (cx : Cx E p s m meth c args RX9 cc nL ret) (hp : Hp E σ s H locs) (hdg : decode cc pc = .ok (.getfield 38, 3)) (kk : W p l e R s m args below meth c H locs cells slots Q (F0 m (pc + 3) ls (.ref (adr E 12 0) :: rest))) : W p l e R s m args below meth c H locs cells slots Q (F0 m pc ls (.ref (adr E 11 0) :: rest)) := va_getN (D := eD E) (ci := 5) (C := RX7) (T := TX7) (N := 3) cx.1.1 cx.1.2.1 cx.1.2.2.2.2 inB_X7 cx.1.2.2.2.1 cx.2.2.1.2.1 hp.1.1 (lin 11 0) (wo_11_0 eo hN) rfl 0 (by decide) (va_Nw.use (nb_tab qF_X9_38) (cx.2.2.1.2.2.1 _ qF_X9_38)) (fun _ h => h) rfl hdg kk
theorem gF_X9_56 {μ : OM} (eo : σ 12 = μ) (hN : 129 ≤ eN E) (cx : Cx E p s m meth c args RX9 cc nL ret) (hp : Hp E σ s H locs) (hdg : decode cc pc = .ok (.getfield 56, 3)) (kk : W p l e R s m args below meth c H locs cells slots Q (F0 m (pc + 3) ls (.long (μ.2.1 0 5) :: rest))) : W p l e R s m args below meth c H locs cells slots Q (F0 m pc ls (.ref (adr E 12 0) :: rest)) := va_getN (D := eD E) (ci := 7) (C := RX10) (T := TX10) (N := 6) cx.1.1 cx.1.2.1 cx.1.2.2.2.2 inB_X10 cx.1.2.2.2.1 cx.2.2.1.2.1 hp.1.1 (lin 12 0) (wo_12_0 eo hN) rfl 5 (by decide) (va_Nw.use (nb_tab qF_X9_56) (cx.2.2.1.2.2.1 _ qF_X9_56)) (fun _ h => h) rfl hdg kk
theorem pF_X9_56 {μ : OM} (eo : σ 12 = μ) (hN : 129 ≤ eN E) (cx : Cx E p s m meth c args RX9 cc nL ret) (hp : Hp E σ s H locs) {v : Int64} (hdg : decode cc pc = .ok (.putfield 56, 3)) (kk : ∀ (u : SM) (H1 : Heap) (locs1 : List Loc), u 12 = wJ μ 0 5 v → (∀ q, q ≠ 12 → u q = σ q) → Hp E u s H1 locs1 → W p l e R s m args below meth c H1 locs1 cells slots Q (F0 m (pc + 3) ls rest)) : W p l e R s m args below meth c H locs cells slots Q (F0 m pc ls (.long v :: .ref (adr E 12 0) :: rest)) := va_putN (D := eD E) (ci := 7) (C := RX10) (T := TX10) (N := 6) cx.1.1 cx.1.2.1 cx.1.2.2.2.2 inB_X10 tyX10 tyX10_ok nmX10 cx.1.2.2.2.1 cx.2.2.1.2.1 hp.1.1 hp.1.2.1 hp.2 (lin 12 0) (wo_12_0 eo hN) rfl 5 (by decide) (va_Nw.use (nb_tab qF_X9_56) (cx.2.2.1.2.2.1 _ qF_X9_56)) (fun _ h => h) rfl (ty := .long) (v := .long v) (by decide +kernel) rfl rfl (Nat.le_of_ble_eq_true rfl) hdg (fun H1 locs1 hP hD hS => kk (us σ 12 (wJ μ 0 5 v)) H1 locs1 (us_s _ _ _) (fun q h => us_n h) (hp_put cx ((by decide)) ((Nat.lt_of_lt_of_le (by decide) hN)) eo (wJ_o μ 0 5 v) rfl hP hD hS))
theorem gF_X9_78 {μ : OM} (eo : σ 12 = μ) (hN : 129 ≤ eN E) (cx : Cx E p s m meth c args RX9 cc nL ret) (hp : Hp E σ s H locs) (hdg : decode cc pc = .ok (.getfield 78, 3)) (kk : W p l e R s m args below meth c H locs cells slots Q (F0 m (pc + 3) ls (.int (μ.1 0 1) :: rest))) : W p l e R s m args below meth c H locs cells slots Q (F0 m pc ls (.ref (adr E 12 0) :: rest)) := va_getN (D := eD E) (ci := 7) (C := RX10) (T := TX10) (N := 6) cx.1.1 cx.1.2.1 cx.1.2.2.2.2 inB_X10 cx.1.2.2.2.1 cx.2.2.1.2.1 hp.1.1 (lin 12 0) (wo_12_0 eo hN) rfl 1 (by decide) (va_Nw.use (nb_tab qF_X9_78) (cx.2.2.1.2.2.1 _ qF_X9_78)) (fun _ h => h) rfl hdg kk
theorem pF_X9_78 {μ : OM} (eo : σ 12 = μ) (hN : 129 ≤ eN E) (cx : Cx E p s m meth c args RX9 cc nL ret) (hp : Hp E σ s H locs) {v : Int32} (hdg : decode cc pc = .ok (.putfield 78, 3)) (kk : ∀ (u : SM) (H1 : Heap) (locs1 : List Loc), u 12 = wI μ 0 1 v → (∀ q, q ≠ 12 → u q = σ q) → Hp E u s H1 locs1 → W p l e R s m args below meth c H1 locs1 cells slots Q (F0 m (pc + 3) ls rest)) : W p l e R s m args below meth c H locs cells slots Q (F0 m pc ls (.int v :: .ref (adr E 12 0) :: rest)) := va_putN (D := eD E) (ci := 7) (C := RX10) (T := TX10) (N := 6) cx.1.1 cx.1.2.1 cx.1.2.2.2.2 inB_X10 tyX10 tyX10_ok nmX10 cx.1.2.2.2.1 cx.2.2.1.2.1 hp.1.1 hp.1.2.1 hp.2 (lin 12 0) (wo_12_0 eo hN) rfl 1 (by decide) (va_Nw.use (nb_tab qF_X9_78) (cx.2.2.1.2.2.1 _ qF_X9_78)) (fun _ h => h) rfl (ty := .int) (v := .int v) (by decide +kernel) rfl rfl (Nat.le_of_ble_eq_true rfl) hdg (fun H1 locs1 hP hD hS => kk (us σ 12 (wI μ 0 1 v)) H1 locs1 (us_s _ _ _) (fun q h => us_n h) (hp_put cx ((by decide)) ((Nat.lt_of_lt_of_le (by decide) hN)) eo (wI_o μ 0 1 v) rfl hP hD hS))
theorem gF_X9_93 {o : Nat} (ho : o < 11) {μ : OM} (eo : σ o = μ) (hN : 129 ≤ eN E) (cx : Cx E p s m meth c args RX9 cc nL ret) (hp : Hp E σ s H locs) (hdg : decode cc pc = .ok (.getfield 93, 3)) (kk : W p l e R s m args below meth c H locs cells slots Q (F0 m (pc + 3) ls (.int (μ.1 0 0) :: rest))) : W p l e R s m args below meth c H locs cells slots Q (F0 m pc ls (.ref (adr E o 0) :: rest)) := va_getN (D := eD E) (ci := 3) (C := RX5) (T := TX5) (N := 18) cx.1.1 cx.1.2.1 cx.1.2.2.2.2 inB_X5 cx.1.2.2.2.1 cx.2.2.1.2.1 hp.1.1 (lin o 0) (wm_0 ho eo hN) rfl 0 (by decide) (va_Nw.use (nb_tab qF_X9_93) (cx.2.2.1.2.2.1 _ qF_X9_93)) (fun _ h => h) rfl hdg kk
theorem pF_X9_93 {o : Nat} (ho : o < 11) {μ : OM} (eo : σ o = μ) (hN : 129 ≤ eN E) (cx : Cx E p s m meth c args RX9 cc nL ret) (hp : Hp E σ s H locs) {v : Int32} (hdg : decode cc pc = .ok (.putfield 93, 3)) (kk : ∀ (u : SM) (H1 : Heap) (locs1 : List Loc), u o = wI μ 0 0 v → (∀ q, q ≠ o → u q = σ q) → Hp E u s H1 locs1 → W p l e R s m args below meth c H1 locs1 cells slots Q (F0 m (pc + 3) ls rest)) : W p l e R s m args below meth c H locs cells slots Q (F0 m pc ls (.int v :: .ref (adr E o 0) :: rest)) := va_putN (D := eD E) (ci := 3) (C := RX5) (T := TX5) (N := 18) cx.1.1 cx.1.2.1 cx.1.2.2.2.2 inB_X5 tyX5 tyX5_ok nmX5 cx.1.2.2.2.1 cx.2.2.1.2.1 hp.1.1 hp.1.2.1 hp.2 (lin o 0) (wm_0 ho eo hN) rfl 0 (by decide) (va_Nw.use (nb_tab qF_X9_93) (cx.2.2.1.2.2.1 _ qF_X9_93)) (fun _ h => h) rfl (ty := .int) (v := .int v) (by decide +kernel) rfl rfl (Nat.le_of_ble_eq_true rfl) hdg (fun H1 locs1 hP hD hS => kk (us σ o (wI μ 0 0 v)) H1 locs1 (us_s _ _ _) (fun q h => us_n h) (hp_put cx (dec_M ho (by decide)) (lin_lt ho (by decide) hN) eo (wI_o μ 0 0 v) ((cel_M ho 0 _).trans rfl) hP hD hS))
theorem gF_X10_12 {μ : OM} (eo : σ 12 = μ) (hN : 129 ≤ eN E) (cx : Cx E p s m meth c args RX10 cc nL ret) (hp : Hp E σ s H locs) (hdg : decode cc pc = .ok (.getfield 12, 3)) (kk : W p l e R s m args below meth c H locs cells slots Q (F0 m (pc + 3) ls (.ref (adr E 13 0) :: rest))) : W p l e R s m args below meth c H locs cells slots Q (F0 m pc ls (.ref (adr E 12 0) :: rest)) := va_get (D := eD E) (ci := 7) (C := RX10) (T := TX10) (N := 6) cx.1.1 cx.1.2.1 cx.1.2.2.2.2 inB_X10 cx.1.2.2.2.1 cx.2.2.1.2.1 hp.1.1 (lin 12 0) (wo_12_0 eo hN) rfl 0 (by decide) (cx.1.2.2.2.2 _ qF_X10_12) (fun _ h => h) rfl hdg kk
theorem gF_X10_18 {μ : OM} (eo : σ 12 = μ) (hN : 129 ≤ eN E) (cx : Cx E p s m meth c args RX10 cc nL ret) (hp : Hp E σ s H locs) (hdg : decode cc pc = .ok (.getfield 18, 3)) (kk : W p l e R s m args below meth c H locs cells slots Q (F0 m (pc + 3) ls (.int (μ.1 0 1) :: rest))) : W p l e R s m args below meth c H locs cells slots Q (F0 m pc ls (.ref (adr E 12 0) :: rest)) := va_get (D := eD E) (ci := 7) (C := RX10) (T := TX10) (N := 6) cx.1.1 cx.1.2.1 cx.1.2.2.2.2 inB_X10 cx.1.2.2.2.1 cx.2.2.1.2.1 hp.1.1 (lin 12 0) (wo_12_0 eo hN) rfl 1 (by decide) (cx.1.2.2.2.2 _ qF_X10_18) (fun _ h => h) rfl hdg kk
theorem pF_X10_18 {μ : OM} (eo : σ 12 = μ) (hN : 129 ≤ eN E) (cx : Cx E p s m meth c args RX10 cc nL ret) (hp : Hp E σ s H locs) {v : Int32} (hdg : decode cc pc = .ok (.putfield 18, 3)) (kk : ∀ (u : SM) (H1 : Heap) (locs1 : List Loc), u 12 = wI μ 0 1 v → (∀ q, q ≠ 12 → u q = σ q) → Hp E u s H1 locs1 → W p l e R s m args below meth c H1 locs1 cells slots Q (F0 m (pc + 3) ls rest)) : W p l e R s m args below meth c H locs cells slots Q (F0 m pc ls (.int v :: .ref (adr E 12 0) :: rest)) := va_put (D := eD E) (ci := 7) (C := RX10) (T := TX10) (N := 6) cx.1.1 cx.1.2.1 cx.1.2.2.2.2 inB_X10 tyX10 tyX10_ok nmX10 cx.1.2.2.2.1 cx.2.2.1.2.1 hp.1.1 hp.1.2.1 hp.2 (lin 12 0) (wo_12_0 eo hN) rfl 1 (by decide) (cx.1.2.2.2.2 _ qF_X10_18) (fun _ h => h) rfl (ty := .int) (v := .int v) (by decide +kernel) rfl rfl (Nat.le_of_ble_eq_true rfl) hdg (fun H1 locs1 hP hD hS => kk (us σ 12 (wI μ 0 1 v)) H1 locs1 (us_s _ _ _) (fun q h => us_n h) (hp_put cx ((by decide)) ((Nat.lt_of_lt_of_le (by decide) hN)) eo (wI_o μ 0 1 v) rfl hP hD hS))
theorem gF_X10_22 {μ : OM} (eo : σ 12 = μ) (hN : 129 ≤ eN E) (cx : Cx E p s m meth c args RX10 cc nL ret) (hp : Hp E σ s H locs) (hdg : decode cc pc = .ok (.getfield 22, 3)) (kk : W p l e R s m args below meth c H locs cells slots Q (F0 m (pc + 3) ls (.int (μ.1 0 2) :: rest))) : W p l e R s m args below meth c H locs cells slots Q (F0 m pc ls (.ref (adr E 12 0) :: rest)) := va_get (D := eD E) (ci := 7) (C := RX10) (T := TX10) (N := 6) cx.1.1 cx.1.2.1 cx.1.2.2.2.2 inB_X10 cx.1.2.2.2.1 cx.2.2.1.2.1 hp.1.1 (lin 12 0) (wo_12_0 eo hN) rfl 2 (by decide) (cx.1.2.2.2.2 _ qF_X10_22) (fun _ h => h) rfl hdg kk
theorem pF_X10_22 {μ : OM} (eo : σ 12 = μ) (hN : 129 ≤ eN E) (cx : Cx E p s m meth c args RX10 cc nL ret) (hp : Hp E σ s H locs) {v : Int32} (hdg : decode cc pc = .ok (.putfield 22, 3)) (kk : ∀ (u : SM) (H1 : Heap) (locs1 : List Loc), u 12 = wI μ 0 2 v → (∀ q, q ≠ 12 → u q = σ q) → Hp E u s H1 locs1 → W p l e R s m args below meth c H1 locs1 cells slots Q (F0 m (pc + 3) ls rest)) : W p l e R s m args below meth c H locs cells slots Q (F0 m pc ls (.int v :: .ref (adr E 12 0) :: rest)) := va_put (D := eD E) (ci := 7) (C := RX10) (T := TX10) (N := 6) cx.1.1 cx.1.2.1 cx.1.2.2.2.2 inB_X10 tyX10 tyX10_ok nmX10 cx.1.2.2.2.1 cx.2.2.1.2.1 hp.1.1 hp.1.2.1 hp.2 (lin 12 0) (wo_12_0 eo hN) rfl 2 (by decide) (cx.1.2.2.2.2 _ qF_X10_22) (fun _ h => h) rfl (ty := .int) (v := .int v) (by decide +kernel) rfl rfl (Nat.le_of_ble_eq_true rfl) hdg (fun H1 locs1 hP hD hS => kk (us σ 12 (wI μ 0 2 v)) H1 locs1 (us_s _ _ _) (fun q h => us_n h) (hp_put cx ((by decide)) ((Nat.lt_of_lt_of_le (by decide) hN)) eo (wI_o μ 0 2 v) rfl hP hD hS))
theorem gF_X10_25 {μ : OM} (eo : σ 12 = μ) (hN : 129 ≤ eN E) (cx : Cx E p s m meth c args RX10 cc nL ret) (hp : Hp E σ s H locs) (hdg : decode cc pc = .ok (.getfield 25, 3)) (kk : W p l e R s m args below meth c H locs cells slots Q (F0 m (pc + 3) ls (.int (μ.1 0 3) :: rest))) : W p l e R s m args below meth c H locs cells slots Q (F0 m pc ls (.ref (adr E 12 0) :: rest)) := va_get (D := eD E) (ci := 7) (C := RX10) (T := TX10) (N := 6) cx.1.1 cx.1.2.1 cx.1.2.2.2.2 inB_X10 cx.1.2.2.2.1 cx.2.2.1.2.1 hp.1.1 (lin 12 0) (wo_12_0 eo hN) rfl 3 (by decide) (cx.1.2.2.2.2 _ qF_X10_25) (fun _ h => h) rfl hdg kk
theorem pF_X10_25 {μ : OM} (eo : σ 12 = μ) (hN : 129 ≤ eN E) (cx : Cx E p s m meth c args RX10 cc nL ret) (hp : Hp E σ s H locs) {v : Int32} (hdg : decode cc pc = .ok (.putfield 25, 3)) (kk : ∀ (u : SM) (H1 : Heap) (locs1 : List Loc), u 12 = wI μ 0 3 v → (∀ q, q ≠ 12 → u q = σ q) → Hp E u s H1 locs1 → W p l e R s m args below meth c H1 locs1 cells slots Q (F0 m (pc + 3) ls rest)) : W p l e R s m args below meth c H locs cells slots Q (F0 m pc ls (.int v :: .ref (adr E 12 0) :: rest)) := va_put (D := eD E) (ci := 7) (C := RX10) (T := TX10) (N := 6) cx.1.1 cx.1.2.1 cx.1.2.2.2.2 inB_X10 tyX10 tyX10_ok nmX10 cx.1.2.2.2.1 cx.2.2.1.2.1 hp.1.1 hp.1.2.1 hp.2 (lin 12 0) (wo_12_0 eo hN) rfl 3 (by decide) (cx.1.2.2.2.2 _ qF_X10_25) (fun _ h => h) rfl (ty := .int) (v := .int v) (by decide +kernel) rfl rfl (Nat.le_of_ble_eq_true rfl) hdg (fun H1 locs1 hP hD hS => kk (us σ 12 (wI μ 0 3 v)) H1 locs1 (us_s _ _ _) (fun q h => us_n h) (hp_put cx ((by decide)) ((Nat.lt_of_lt_of_le (by decide) hN)) eo (wI_o μ 0 3 v) rfl hP hD hS))
theorem gF_X10_28 {μ : OM} (eo : σ 12 = μ) (hN : 129 ≤ eN E) (cx : Cx E p s m meth c args RX10 cc nL ret) (hp : Hp E σ s H locs) (hdg : decode cc pc = .ok (.getfield 28, 3)) (kk : W p l e R s m args below meth c H locs cells slots Q (F0 m (pc + 3) ls (.int (μ.1 0 4) :: rest))) : W p l e R s m args below meth c H locs cells slots Q (F0 m pc ls (.ref (adr E 12 0) :: rest)) := va_get (D := eD E) (ci := 7) (C := RX10) (T := TX10) (N := 6) cx.1.1 cx.1.2.1 cx.1.2.2.2.2 inB_X10 cx.1.2.2.2.1 cx.2.2.1.2.1 hp.1.1 (lin 12 0) (wo_12_0 eo hN) rfl 4 (by decide) (cx.1.2.2.2.2 _ qF_X10_28) (fun _ h => h) rfl hdg kk
theorem pF_X10_28 {μ : OM} (eo : σ 12 = μ) (hN : 129 ≤ eN E) (cx : Cx E p s m meth c args RX10 cc nL ret) (hp : Hp E σ s H locs) {v : Int32} (hdg : decode cc pc = .ok (.putfield 28, 3)) (kk : ∀ (u : SM) (H1 : Heap) (locs1 : List Loc), u 12 = wI μ 0 4 v → (∀ q, q ≠ 12 → u q = σ q) → Hp E u s H1 locs1 → W p l e R s m args below meth c H1 locs1 cells slots Q (F0 m (pc + 3) ls rest)) : W p l e R s m args below meth c H locs cells slots Q (F0 m pc ls (.int v :: .ref (adr E 12 0) :: rest)) := va_put (D := eD E) (ci := 7) (C := RX10) (T := TX10) (N := 6) cx.1.1 cx.1.2.1 cx.1.2.2.2.2 inB_X10 tyX10 tyX10_ok nmX10 cx.1.2.2.2.1 cx.2.2.1.2.1 hp.1.1 hp.1.2.1 hp.2 (lin 12 0) (wo_12_0 eo hN) rfl 4 (by decide) (cx.1.2.2.2.2 _ qF_X10_28) (fun _ h => h) rfl (ty := .int) (v := .int v) (by decide +kernel) rfl rfl (Nat.le_of_ble_eq_true rfl) hdg (fun H1 locs1 hP hD hS => kk (us σ 12 (wI μ 0 4 v)) H1 locs1 (us_s _ _ _) (fun q h => us_n h) (hp_put cx ((by decide)) ((Nat.lt_of_lt_of_le (by decide) hN)) eo (wI_o μ 0 4 v) rfl hP hD hS))
theorem gF_X10_31 {μ : OM} (eo : σ 12 = μ) (hN : 129 ≤ eN E) (cx : Cx E p s m meth c args RX10 cc nL ret) (hp : Hp E σ s H locs) (hdg : decode cc pc = .ok (.getfield 31, 3)) (kk : W p l e R s m args below meth c H locs cells slots Q (F0 m (pc + 3) ls (.long (μ.2.1 0 5) :: rest))) : W p l e R s m args below meth c H locs cells slots Q (F0 m pc ls (.ref (adr E 12 0) :: rest)) := va_get (D := eD E) (ci := 7) (C := RX10) (T := TX10) (N := 6) cx.1.1 cx.1.2.1 cx.1.2.2.2.2 inB_X10 cx.1.2.2.2.1 cx.2.2.1.2.1 hp.1.1 (lin 12 0) (wo_12_0 eo hN) rfl 5 (by decide) (cx.1.2.2.2.2 _ qF_X10_31) (fun _ h => h) rfl hdg kk
theorem pF_X10_31 {μ : OM} (eo : σ 12 = μ) (hN : 129 ≤ eN E) (cx : Cx E p s m meth c args RX10 cc nL ret) (hp : Hp E σ s H locs) {v : Int64} (hdg : decode cc pc = .ok (.putfield 31, 3)) (kk : ∀ (u : SM) (H1 : Heap) (locs1 : List Loc), u 12 = wJ μ 0 5 v → (∀ q, q ≠ 12 → u q = σ q) → Hp E u s H1 locs1 → W p l e R s m args below meth c H1 locs1 cells slots Q (F0 m (pc + 3) ls rest)) : W p l e R s m args below meth c H locs cells slots Q (F0 m pc ls (.long v :: .ref (adr E 12 0) :: rest)) := va_put (D := eD E) (ci := 7) (C := RX10) (T := TX10) (N := 6) cx.1.1 cx.1.2.1 cx.1.2.2.2.2 inB_X10 tyX10 tyX10_ok nmX10 cx.1.2.2.2.1 cx.2.2.1.2.1 hp.1.1 hp.1.2.1 hp.2 (lin 12 0) (wo_12_0 eo hN) rfl 5 (by decide) (cx.1.2.2.2.2 _ qF_X10_31) (fun _ h => h) rfl (ty := .long) (v := .long v) (by decide +kernel) rfl rfl (Nat.le_of_ble_eq_true rfl) hdg (fun H1 locs1 hP hD hS => kk (us σ 12 (wJ μ 0 5 v)) H1 locs1 (us_s _ _ _) (fun q h => us_n h) (hp_put cx ((by decide)) ((Nat.lt_of_lt_of_le (by decide) hN)) eo (wJ_o μ 0 5 v) rfl hP hD hS))
theorem gF_X10_38_13 {μ : OM} (eo : σ 13 = μ) (hN : 129 ≤ eN E) (cx : Cx E p s m meth c args RX10 cc nL ret) (hp : Hp E σ s H locs) (hdg : decode cc pc = .ok (.getfield 38, 3)) (kk : W p l e R s m args below meth c H locs cells slots Q (F0 m (pc + 3) ls (.int (μ.1 0 1) :: rest))) : W p l e R s m args below meth c H locs cells slots Q (F0 m pc ls (.ref (adr E 13 0) :: rest)) := va_getN (D := eD E) (ci := 1) (C := RX2) (T := TX2) (N := 2) cx.1.1 cx.1.2.1 cx.1.2.2.2.2 inB_X2 cx.1.2.2.2.1 cx.2.2.1.2.1 hp.1.1 (lin 13 0) (wo_13_0 eo hN) rfl 1 (by decide) (va_Nw.use (nb_tab qF_X10_38) (cx.2.2.1.2.2.1 _ qF_X10_38)) (fun _ h => h) rfl hdg kk
theorem pF_X10_38_13 {μ : OM} (eo : σ 13 = μ) (hN : 129 ≤ eN E) (cx : Cx E p s m meth c args RX10 cc nL ret) (hp : Hp E σ s H locs) {v : Int32} (hdg : decode cc pc = .ok (.putfield 38, 3)) (kk : ∀ (u : SM) (H1 : Heap) (locs1 : List Loc), u 13 = wI μ 0 1 v → (∀ q, q ≠ 13 → u q = σ q) → Hp E u s H1 locs1 → W p l e R s m args below meth c H1 locs1 cells slots Q (F0 m (pc + 3) ls rest)) : W p l e R s m args below meth c H locs cells slots Q (F0 m pc ls (.int v :: .ref (adr E 13 0) :: rest)) := va_putN (D := eD E) (ci := 1) (C := RX2) (T := TX2) (N := 2) cx.1.1 cx.1.2.1 cx.1.2.2.2.2 inB_X2 tyX2 tyX2_ok nmX2 cx.1.2.2.2.1 cx.2.2.1.2.1 hp.1.1 hp.1.2.1 hp.2 (lin 13 0) (wo_13_0 eo hN) rfl 1 (by decide) (va_Nw.use (nb_tab qF_X10_38) (cx.2.2.1.2.2.1 _ qF_X10_38)) (fun _ h => h) rfl (ty := .int) (v := .int v) (by decide +kernel) rfl rfl (Nat.le_of_ble_eq_true rfl) hdg (fun H1 locs1 hP hD hS => kk (us σ 13 (wI μ 0 1 v)) H1 locs1 (us_s _ _ _) (fun q h => us_n h) (hp_put cx ((by decide)) ((Nat.lt_of_lt_of_le (by decide) hN)) eo (wI_o μ 0 1 v) rfl hP hD hS))
theorem gF_X10_38_14 {μ : OM} (eo : σ 14 = μ) (hN : 129 ≤ eN E) (cx : Cx E p s m meth c args RX10 cc nL ret) (hp : Hp E σ s H locs) (hdg : decode cc pc = .ok (.getfield 38, 3)) (kk : W p l e R s m args below meth c H locs cells slots Q (F0 m (pc + 3) ls (.int (μ.1 0 1) :: rest))) : W p l e R s m args below meth c H locs cells slots Q (F0 m pc ls (.ref (adr E 14 0) :: rest)) := va_getN (D := eD E) (ci := 1) (C := RX2) (T := TX2) (N := 2) cx.1.1 cx.1.2.1 cx.1.2.2.2.2 inB_X2 cx.1.2.2.2.1 cx.2.2.1.2.1 hp.1.1 (lin 14 0) (wo_14_0 eo hN) rfl 1 (by decide) (va_Nw.use (nb_tab qF_X10_38) (cx.2.2.1.2.2.1 _ qF_X10_38)) (fun _ h => h) rfl hdg kk
theorem pF_X10_38_14 {μ : OM} (eo : σ 14 = μ) (hN : 129 ≤ eN E) (cx : Cx E p s m meth c args RX10 cc nL ret) (hp : Hp E σ s H locs) {v : Int32} (hdg : decode cc pc = .ok (.putfield 38, 3)) (kk : ∀ (u : SM) (H1 : Heap) (locs1 : List Loc), u 14 = wI μ 0 1 v → (∀ q, q ≠ 14 → u q = σ q) → Hp E u s H1 locs1 → W p l e R s m args below meth c H1 locs1 cells slots Q (F0 m (pc + 3) ls rest)) : W p l e R s m args below meth c H locs cells slots Q (F0 m pc ls (.int v :: .ref (adr E 14 0) :: rest)) := va_putN (D := eD E) (ci := 1) (C := RX2) (T := TX2) (N := 2) cx.1.1 cx.1.2.1 cx.1.2.2.2.2 inB_X2 tyX2 tyX2_ok nmX2 cx.1.2.2.2.1 cx.2.2.1.2.1 hp.1.1 hp.1.2.1 hp.2 (lin 14 0) (wo_14_0 eo hN) rfl 1 (by decide) (va_Nw.use (nb_tab qF_X10_38) (cx.2.2.1.2.2.1 _ qF_X10_38)) (fun _ h => h) rfl (ty := .int) (v := .int v) (by decide +kernel) rfl rfl (Nat.le_of_ble_eq_true rfl) hdg (fun H1 locs1 hP hD hS => kk (us σ 14 (wI μ 0 1 v)) H1 locs1 (us_s _ _ _) (fun q h => us_n h) (hp_put cx ((by decide)) ((Nat.lt_of_lt_of_le (by decide) hN)) eo (wI_o μ 0 1 v) rfl hP hD hS))
theorem gF_L_27 {μ : OM} (eo : σ 20 = μ) (hN : 151 ≤ eN E) (cx : Cx E p s m meth c args RL cc nL ret) (hp : Hp E σ s H locs) (hdg : decode cc pc = .ok (.getfield 27, 3)) (kk : W p l e R s m args below meth c H locs cells slots Q (F0 m (pc + 3) ls (.int (μ.1 0 12) :: rest))) : W p l e R s m args below meth c H locs cells slots Q (F0 m pc ls (.ref (adr E 20 0) :: rest)) := va_getN (D := eD E) (ci := 9) (C := RX13) (T := TX13) (N := 18) cx.1.1 cx.1.2.1 cx.1.2.2.2.2 inB_X13 cx.1.2.2.2.1 cx.2.2.1.2.1 hp.1.1 (lin 20 0) (wo_20_0 eo hN) rfl 12 (by decide) (va_Nw.use (nb_tab qF_L_27) (cx.2.2.1.2.2.1 _ qF_L_27)) (fun _ h => h) rfl hdg kk
theorem pF_L_27 {μ : OM} (eo : σ 20 = μ) (hN : 151 ≤ eN E) (cx : Cx E p s m meth c args RL cc nL ret) (hp : Hp E σ s H locs) {v : Int32} (hdg : decode cc pc = .ok (.putfield 27, 3)) (kk : ∀ (u : SM) (H1 : Heap) (locs1 : List Loc), u 20 = wI μ 0 12 v → (∀ q, q ≠ 20 → u q = σ q) → Hp E u s H1 locs1 → W p l e R s m args below meth c H1 locs1 cells slots Q (F0 m (pc + 3) ls rest)) : W p l e R s m args below meth c H locs cells slots Q (F0 m pc ls (.int v :: .ref (adr E 20 0) :: rest)) := va_putN (D := eD E) (ci := 9) (C := RX13) (T := TX13) (N := 18) cx.1.1 cx.1.2.1 cx.1.2.2.2.2 inB_X13 tyX13 tyX13_ok nmX13 cx.1.2.2.2.1 cx.2.2.1.2.1 hp.1.1 hp.1.2.1 hp.2 (lin 20 0) (wo_20_0 eo hN) rfl 12 (by decide) (va_Nw.use (nb_tab qF_L_27) (cx.2.2.1.2.2.1 _ qF_L_27)) (fun _ h => h) rfl (ty := .int) (v := .int v) (by decide +kernel) rfl rfl (Nat.le_of_ble_eq_true rfl) hdg (fun H1 locs1 hP hD hS => kk (us σ 20 (wI μ 0 12 v)) H1 locs1 (us_s _ _ _) (fun q h => us_n h) (hp_put cx ((by decide)) ((Nat.lt_of_lt_of_le (by decide) hN)) eo (wI_o μ 0 12 v) rfl hP hD hS))
theorem gF_L_34 {μ : OM} (eo : σ 20 = μ) (hN : 151 ≤ eN E) (cx : Cx E p s m meth c args RL cc nL ret) (hp : Hp E σ s H locs) (hdg : decode cc pc = .ok (.getfield 34, 3)) (kk : W p l e R s m args below meth c H locs cells slots Q (F0 m (pc + 3) ls (.int (μ.1 0 15) :: rest))) : W p l e R s m args below meth c H locs cells slots Q (F0 m pc ls (.ref (adr E 20 0) :: rest)) := va_getN (D := eD E) (ci := 9) (C := RX13) (T := TX13) (N := 18) cx.1.1 cx.1.2.1 cx.1.2.2.2.2 inB_X13 cx.1.2.2.2.1 cx.2.2.1.2.1 hp.1.1 (lin 20 0) (wo_20_0 eo hN) rfl 15 (by decide) (va_Nw.use (nb_tab qF_L_34) (cx.2.2.1.2.2.1 _ qF_L_34)) (fun _ h => h) rfl hdg kk
theorem pF_L_34 {μ : OM} (eo : σ 20 = μ) (hN : 151 ≤ eN E) (cx : Cx E p s m meth c args RL cc nL ret) (hp : Hp E σ s H locs) {v : Int32} (hdg : decode cc pc = .ok (.putfield 34, 3)) (kk : ∀ (u : SM) (H1 : Heap) (locs1 : List Loc), u 20 = wI μ 0 15 v → (∀ q, q ≠ 20 → u q = σ q) → Hp E u s H1 locs1 → W p l e R s m args below meth c H1 locs1 cells slots Q (F0 m (pc + 3) ls rest)) : W p l e R s m args below meth c H locs cells slots Q (F0 m pc ls (.int v :: .ref (adr E 20 0) :: rest)) := va_putN (D := eD E) (ci := 9) (C := RX13) (T := TX13) (N := 18) cx.1.1 cx.1.2.1 cx.1.2.2.2.2 inB_X13 tyX13 tyX13_ok nmX13 cx.1.2.2.2.1 cx.2.2.1.2.1 hp.1.1 hp.1.2.1 hp.2 (lin 20 0) (wo_20_0 eo hN) rfl 15 (by decide) (va_Nw.use (nb_tab qF_L_34) (cx.2.2.1.2.2.1 _ qF_L_34)) (fun _ h => h) rfl (ty := .int) (v := .int v) (by decide +kernel) rfl rfl (Nat.le_of_ble_eq_true rfl) hdg (fun H1 locs1 hP hD hS => kk (us σ 20 (wI μ 0 15 v)) H1 locs1 (us_s _ _ _) (fun q h => us_n h) (hp_put cx ((by decide)) ((Nat.lt_of_lt_of_le (by decide) hN)) eo (wI_o μ 0 15 v) rfl hP hD hS))
theorem gF_L_41 {μ : OM} (eo : σ 20 = μ) (hN : 151 ≤ eN E) (cx : Cx E p s m meth c args RL cc nL ret) (hp : Hp E σ s H locs) (hdg : decode cc pc = .ok (.getfield 41, 3)) (kk : W p l e R s m args below meth c H locs cells slots Q (F0 m (pc + 3) ls (.ref (adr E 20 10) :: rest))) : W p l e R s m args below meth c H locs cells slots Q (F0 m pc ls (.ref (adr E 20 0) :: rest)) := va_getN (D := eD E) (ci := 9) (C := RX13) (T := TX13) (N := 18) cx.1.1 cx.1.2.1 cx.1.2.2.2.2 inB_X13 cx.1.2.2.2.1 cx.2.2.1.2.1 hp.1.1 (lin 20 0) (wo_20_0 eo hN) rfl 9 (by decide) (va_Nw.use (nb_tab qF_L_41) (cx.2.2.1.2.2.1 _ qF_L_41)) (fun _ h => h) rfl hdg kk
theorem gF_L_45 {μ : OM} (eo : σ 20 = μ) (hN : 151 ≤ eN E) (cx : Cx E p s m meth c args RL cc nL ret) (hp : Hp E σ s H locs) (hdg : decode cc pc = .ok (.getfield 45, 3)) (kk : W p l e R s m args below meth c H locs cells slots Q (F0 m (pc + 3) ls (.ref (adr E 20 5) :: rest))) : W p l e R s m args below meth c H locs cells slots Q (F0 m pc ls (.ref (adr E 20 0) :: rest)) := va_getN (D := eD E) (ci := 9) (C := RX13) (T := TX13) (N := 18) cx.1.1 cx.1.2.1 cx.1.2.2.2.2 inB_X13 cx.1.2.2.2.1 cx.2.2.1.2.1 hp.1.1 (lin 20 0) (wo_20_0 eo hN) rfl 4 (by decide) (va_Nw.use (nb_tab qF_L_45) (cx.2.2.1.2.2.1 _ qF_L_45)) (fun _ h => h) rfl hdg kk
theorem gF_X13_9 {μ : OM} (eo : σ 20 = μ) (hN : 151 ≤ eN E) (cx : Cx E p s m meth c args RX13 cc nL ret) (hp : Hp E σ s H locs) (hdg : decode cc pc = .ok (.getfield 9, 3)) (kk : W p l e R s m args below meth c H locs cells slots Q (F0 m (pc + 3) ls (.ref (adr E 20 1) :: rest))) : W p l e R s m args below meth c H locs cells slots Q (F0 m pc ls (.ref (adr E 20 0) :: rest)) := va_get (D := eD E) (ci := 9) (C := RX13) (T := TX13) (N := 18) cx.1.1 cx.1.2.1 cx.1.2.2.2.2 inB_X13 cx.1.2.2.2.1 cx.2.2.1.2.1 hp.1.1 (lin 20 0) (wo_20_0 eo hN) rfl 0 (by decide) (cx.1.2.2.2.2 _ qF_X13_9) (fun _ h => h) rfl hdg kk
theorem gF_X13_15 {μ : OM} (eo : σ 20 = μ) (hN : 151 ≤ eN E) (cx : Cx E p s m meth c args RX13 cc nL ret) (hp : Hp E σ s H locs) (hdg : decode cc pc = .ok (.getfield 15, 3)) (kk : W p l e R s m args below meth c H locs cells slots Q (F0 m (pc + 3) ls (.ref (adr E 20 2) :: rest))) : W p l e R s m args below meth c H locs cells slots Q (F0 m pc ls (.ref (adr E 20 0) :: rest)) := va_get (D := eD E) (ci := 9) (C := RX13) (T := TX13) (N := 18) cx.1.1 cx.1.2.1 cx.1.2.2.2.2 inB_X13 cx.1.2.2.2.1 cx.2.2.1.2.1 hp.1.1 (lin 20 0) (wo_20_0 eo hN) rfl 1 (by decide) (cx.1.2.2.2.2 _ qF_X13_15) (fun _ h => h) rfl hdg kk
theorem gF_X13_19 {μ : OM} (eo : σ 20 = μ) (hN : 151 ≤ eN E) (cx : Cx E p s m meth c args RX13 cc nL ret) (hp : Hp E σ s H locs) (hdg : decode cc pc = .ok (.getfield 19, 3)) (kk : W p l e R s m args below meth c H locs cells slots Q (F0 m (pc + 3) ls (.ref (adr E 20 3) :: rest))) : W p l e R s m args below meth c H locs cells slots Q (F0 m pc ls (.ref (adr E 20 0) :: rest)) := va_get (D := eD E) (ci := 9) (C := RX13) (T := TX13) (N := 18) cx.1.1 cx.1.2.1 cx.1.2.2.2.2 inB_X13 cx.1.2.2.2.1 cx.2.2.1.2.1 hp.1.1 (lin 20 0) (wo_20_0 eo hN) rfl 2 (by decide) (cx.1.2.2.2.2 _ qF_X13_19) (fun _ h => h) rfl hdg kk
theorem gF_X13_22 {μ : OM} (eo : σ 20 = μ) (hN : 151 ≤ eN E) (cx : Cx E p s m meth c args RX13 cc nL ret) (hp : Hp E σ s H locs) (hdg : decode cc pc = .ok (.getfield 22, 3)) (kk : W p l e R s m args below meth c H locs cells slots Q (F0 m (pc + 3) ls (.ref (adr E 20 4) :: rest))) : W p l e R s m args below meth c H locs cells slots Q (F0 m pc ls (.ref (adr E 20 0) :: rest)) := va_get (D := eD E) (ci := 9) (C := RX13) (T := TX13) (N := 18) cx.1.1 cx.1.2.1 cx.1.2.2.2.2 inB_X13 cx.1.2.2.2.1 cx.2.2.1.2.1 hp.1.1 (lin 20 0) (wo_20_0 eo hN) rfl 3 (by decide) (cx.1.2.2.2.2 _ qF_X13_22) (fun _ h => h) rfl hdg kk
theorem gF_X13_25 {μ : OM} (eo : σ 20 = μ) (hN : 151 ≤ eN E) (cx : Cx E p s m meth c args RX13 cc nL ret) (hp : Hp E σ s H locs) (hdg : decode cc pc = .ok (.getfield 25, 3)) (kk : W p l e R s m args below meth c H locs cells slots Q (F0 m (pc + 3) ls (.ref (adr E 20 5) :: rest))) : W p l e R s m args below meth c H locs cells slots Q (F0 m pc ls (.ref (adr E 20 0) :: rest)) := va_get (D := eD E) (ci := 9) (C := RX13) (T := TX13) (N := 18) cx.1.1 cx.1.2.1 cx.1.2.2.2.2 inB_X13 cx.1.2.2.2.1 cx.2.2.1.2.1 hp.1.1 (lin 20 0) (wo_20_0 eo hN) rfl 4 (by decide) (cx.1.2.2.2.2 _ qF_X13_25) (fun _ h => h) rfl hdg kk
theorem gF_X13_28 {μ : OM} (eo : σ 20 = μ) (hN : 151 ≤ eN E) (cx : Cx E p s m meth c args RX13 cc nL ret) (hp : Hp E σ s H locs) (hdg : decode cc pc = .ok (.getfield 28, 3)) (kk : W p l e R s m args below meth c H locs cells slots Q (F0 m (pc + 3) ls (.ref (adr E 20 6) :: rest))) : W p l e R s m args below meth c H locs cells slots Q (F0 m pc ls (.ref (adr E 20 0) :: rest)) := va_get (D := eD E) (ci := 9) (C := RX13) (T := TX13) (N := 18) cx.1.1 cx.1.2.1 cx.1.2.2.2.2 inB_X13 cx.1.2.2.2.1 cx.2.2.1.2.1 hp.1.1 (lin 20 0) (wo_20_0 eo hN) rfl 5 (by decide) (cx.1.2.2.2.2 _ qF_X13_28) (fun _ h => h) rfl hdg kk
theorem gF_X13_31 {μ : OM} (eo : σ 20 = μ) (hN : 151 ≤ eN E) (cx : Cx E p s m meth c args RX13 cc nL ret) (hp : Hp E σ s H locs) (hdg : decode cc pc = .ok (.getfield 31, 3)) (kk : W p l e R s m args below meth c H locs cells slots Q (F0 m (pc + 3) ls (.ref (adr E 20 7) :: rest))) : W p l e R s m args below meth c H locs cells slots Q (F0 m pc ls (.ref (adr E 20 0) :: rest)) := va_get (D := eD E) (ci := 9) (C := RX13) (T := TX13) (N := 18) cx.1.1 cx.1.2.1 cx.1.2.2.2.2 inB_X13 cx.1.2.2.2.1 cx.2.2.1.2.1 hp.1.1 (lin 20 0) (wo_20_0 eo hN) rfl 6 (by decide) (cx.1.2.2.2.2 _ qF_X13_31) (fun _ h => h) rfl hdg kk
theorem gF_X13_34 {μ : OM} (eo : σ 20 = μ) (hN : 151 ≤ eN E) (cx : Cx E p s m meth c args RX13 cc nL ret) (hp : Hp E σ s H locs) (hdg : decode cc pc = .ok (.getfield 34, 3)) (kk : W p l e R s m args below meth c H locs cells slots Q (F0 m (pc + 3) ls (.ref (adr E 20 8) :: rest))) : W p l e R s m args below meth c H locs cells slots Q (F0 m pc ls (.ref (adr E 20 0) :: rest)) := va_get (D := eD E) (ci := 9) (C := RX13) (T := TX13) (N := 18) cx.1.1 cx.1.2.1 cx.1.2.2.2.2 inB_X13 cx.1.2.2.2.1 cx.2.2.1.2.1 hp.1.1 (lin 20 0) (wo_20_0 eo hN) rfl 7 (by decide) (cx.1.2.2.2.2 _ qF_X13_34) (fun _ h => h) rfl hdg kk
theorem gF_X13_37 {μ : OM} (eo : σ 20 = μ) (hN : 151 ≤ eN E) (cx : Cx E p s m meth c args RX13 cc nL ret) (hp : Hp E σ s H locs) (hdg : decode cc pc = .ok (.getfield 37, 3)) (kk : W p l e R s m args below meth c H locs cells slots Q (F0 m (pc + 3) ls (.ref (adr E 20 9) :: rest))) : W p l e R s m args below meth c H locs cells slots Q (F0 m pc ls (.ref (adr E 20 0) :: rest)) := va_get (D := eD E) (ci := 9) (C := RX13) (T := TX13) (N := 18) cx.1.1 cx.1.2.1 cx.1.2.2.2.2 inB_X13 cx.1.2.2.2.1 cx.2.2.1.2.1 hp.1.1 (lin 20 0) (wo_20_0 eo hN) rfl 8 (by decide) (cx.1.2.2.2.2 _ qF_X13_37) (fun _ h => h) rfl hdg kk
theorem gF_X13_40 {μ : OM} (eo : σ 20 = μ) (hN : 151 ≤ eN E) (cx : Cx E p s m meth c args RX13 cc nL ret) (hp : Hp E σ s H locs) (hdg : decode cc pc = .ok (.getfield 40, 3)) (kk : W p l e R s m args below meth c H locs cells slots Q (F0 m (pc + 3) ls (.ref (adr E 20 10) :: rest))) : W p l e R s m args below meth c H locs cells slots Q (F0 m pc ls (.ref (adr E 20 0) :: rest)) := va_get (D := eD E) (ci := 9) (C := RX13) (T := TX13) (N := 18) cx.1.1 cx.1.2.1 cx.1.2.2.2.2 inB_X13 cx.1.2.2.2.1 cx.2.2.1.2.1 hp.1.1 (lin 20 0) (wo_20_0 eo hN) rfl 9 (by decide) (cx.1.2.2.2.2 _ qF_X13_40) (fun _ h => h) rfl hdg kk
theorem gF_X13_45 {μ : OM} (eo : σ 20 = μ) (hN : 151 ≤ eN E) (cx : Cx E p s m meth c args RX13 cc nL ret) (hp : Hp E σ s H locs) (hdg : decode cc pc = .ok (.getfield 45, 3)) (kk : W p l e R s m args below meth c H locs cells slots Q (F0 m (pc + 3) ls (.ref (adr E 20 11) :: rest))) : W p l e R s m args below meth c H locs cells slots Q (F0 m pc ls (.ref (adr E 20 0) :: rest)) := va_get (D := eD E) (ci := 9) (C := RX13) (T := TX13) (N := 18) cx.1.1 cx.1.2.1 cx.1.2.2.2.2 inB_X13 cx.1.2.2.2.1 cx.2.2.1.2.1 hp.1.1 (lin 20 0) (wo_20_0 eo hN) rfl 10 (by decide) (cx.1.2.2.2.2 _ qF_X13_45) (fun _ h => h) rfl hdg kk
theorem gF_X13_48 {μ : OM} (eo : σ 20 = μ) (hN : 151 ≤ eN E) (cx : Cx E p s m meth c args RX13 cc nL ret) (hp : Hp E σ s H locs) (hdg : decode cc pc = .ok (.getfield 48, 3)) (kk : W p l e R s m args below meth c H locs cells slots Q (F0 m (pc + 3) ls (.ref (adr E 20 20) :: rest))) : W p l e R s m args below meth c H locs cells slots Q (F0 m pc ls (.ref (adr E 20 0) :: rest)) := va_get (D := eD E) (ci := 9) (C := RX13) (T := TX13) (N := 18) cx.1.1 cx.1.2.1 cx.1.2.2.2.2 inB_X13 cx.1.2.2.2.1 cx.2.2.1.2.1 hp.1.1 (lin 20 0) (wo_20_0 eo hN) rfl 11 (by decide) (cx.1.2.2.2.2 _ qF_X13_48) (fun _ h => h) rfl hdg kk
theorem gF_X13_52 {μ : OM} (eo : σ 20 = μ) (hN : 151 ≤ eN E) (cx : Cx E p s m meth c args RX13 cc nL ret) (hp : Hp E σ s H locs) (hdg : decode cc pc = .ok (.getfield 52, 3)) (kk : W p l e R s m args below meth c H locs cells slots Q (F0 m (pc + 3) ls (.int (μ.1 0 12) :: rest))) : W p l e R s m args below meth c H locs cells slots Q (F0 m pc ls (.ref (adr E 20 0) :: rest)) := va_get (D := eD E) (ci := 9) (C := RX13) (T := TX13) (N := 18) cx.1.1 cx.1.2.1 cx.1.2.2.2.2 inB_X13 cx.1.2.2.2.1 cx.2.2.1.2.1 hp.1.1 (lin 20 0) (wo_20_0 eo hN) rfl 12 (by decide) (cx.1.2.2.2.2 _ qF_X13_52) (fun _ h => h) rfl hdg kk
theorem pF_X13_52 {μ : OM} (eo : σ 20 = μ) (hN : 151 ≤ eN E) (cx : Cx E p s m meth c args RX13 cc nL ret) (hp : Hp E σ s H locs) {v : Int32} (hdg : decode cc pc = .ok (.putfield 52, 3)) (kk : ∀ (u : SM) (H1 : Heap) (locs1 : List Loc), u 20 = wI μ 0 12 v → (∀ q, q ≠ 20 → u q = σ q) → Hp E u s H1 locs1 → W p l e R s m args below meth c H1 locs1 cells slots Q (F0 m (pc + 3) ls rest)) : W p l e R s m args below meth c H locs cells slots Q (F0 m pc ls (.int v :: .ref (adr E 20 0) :: rest)) := va_put (D := eD E) (ci := 9) (C := RX13) (T := TX13) (N := 18) cx.1.1 cx.1.2.1 cx.1.2.2.2.2 inB_X13 tyX13 tyX13_ok nmX13 cx.1.2.2.2.1 cx.2.2.1.2.1 hp.1.1 hp.1.2.1 hp.2 (lin 20 0) (wo_20_0 eo hN) rfl 12 (by decide) (cx.1.2.2.2.2 _ qF_X13_52) (fun _ h => h) rfl (ty := .int) (v := .int v) (by decide +kernel) rfl rfl (Nat.le_of_ble_eq_true rfl) hdg (fun H1 locs1 hP hD hS => kk (us σ 20 (wI μ 0 12 v)) H1 locs1 (us_s _ _ _) (fun q h => us_n h) (hp_put cx ((by decide)) ((Nat.lt_of_lt_of_le (by decide) hN)) eo (wI_o μ 0 12 v) rfl hP hD hS))
theorem gF_X13_62 {μ : OM} (eo : σ 20 = μ) (hN : 151 ≤ eN E) (cx : Cx E p s m meth c args RX13 cc nL ret) (hp : Hp E σ s H locs) (hdg : decode cc pc = .ok (.getfield 62, 3)) (kk : W p l e R s m args below meth c H locs cells slots Q (F0 m (pc + 3) ls (.int (μ.1 0 13) :: rest))) : W p l e R s m args below meth c H locs cells slots Q (F0 m pc ls (.ref (adr E 20 0) :: rest)) := va_get (D := eD E) (ci := 9) (C := RX13) (T := TX13) (N := 18) cx.1.1 cx.1.2.1 cx.1.2.2.2.2 inB_X13 cx.1.2.2.2.1 cx.2.2.1.2.1 hp.1.1 (lin 20 0) (wo_20_0 eo hN) rfl 13 (by decide) (cx.1.2.2.2.2 _ qF_X13_62) (fun _ h => h) rfl hdg kk
theorem pF_X13_62 {μ : OM} (eo : σ 20 = μ) (hN : 151 ≤ eN E) (cx : Cx E p s m meth c args RX13 cc nL ret) (hp : Hp E σ s H locs) {v : Int32} (hdg : decode cc pc = .ok (.putfield 62, 3)) (kk : ∀ (u : SM) (H1 : Heap) (locs1 : List Loc), u 20 = wI μ 0 13 v → (∀ q, q ≠ 20 → u q = σ q) → Hp E u s H1 locs1 → W p l e R s m args below meth c H1 locs1 cells slots Q (F0 m (pc + 3) ls rest)) : W p l e R s m args below meth c H locs cells slots Q (F0 m pc ls (.int v :: .ref (adr E 20 0) :: rest)) := va_put (D := eD E) (ci := 9) (C := RX13) (T := TX13) (N := 18) cx.1.1 cx.1.2.1 cx.1.2.2.2.2 inB_X13 tyX13 tyX13_ok nmX13 cx.1.2.2.2.1 cx.2.2.1.2.1 hp.1.1 hp.1.2.1 hp.2 (lin 20 0) (wo_20_0 eo hN) rfl 13 (by decide) (cx.1.2.2.2.2 _ qF_X13_62) (fun _ h => h) rfl (ty := .int) (v := .int v) (by decide +kernel) rfl rfl (Nat.le_of_ble_eq_true rfl) hdg (fun H1 locs1 hP hD hS => kk (us σ 20 (wI μ 0 13 v)) H1 locs1 (us_s _ _ _) (fun q h => us_n h) (hp_put cx ((by decide)) ((Nat.lt_of_lt_of_le (by decide) hN)) eo (wI_o μ 0 13 v) rfl hP hD hS))
theorem gF_X13_89 {μ : OM} (eo : σ 20 = μ) (hN : 151 ≤ eN E) (cx : Cx E p s m meth c args RX13 cc nL ret) (hp : Hp E σ s H locs) (hdg : decode cc pc = .ok (.getfield 89, 3)) (kk : W p l e R s m args below meth c H locs cells slots Q (F0 m (pc + 3) ls (.int (μ.1 0 16) :: rest))) : W p l e R s m args below meth c H locs cells slots Q (F0 m pc ls (.ref (adr E 20 0) :: rest)) := va_get (D := eD E) (ci := 9) (C := RX13) (T := TX13) (N := 18) cx.1.1 cx.1.2.1 cx.1.2.2.2.2 inB_X13 cx.1.2.2.2.1 cx.2.2.1.2.1 hp.1.1 (lin 20 0) (wo_20_0 eo hN) rfl 16 (by decide) (cx.1.2.2.2.2 _ qF_X13_89) (fun _ h => h) rfl hdg kk
theorem pF_X13_89 {μ : OM} (eo : σ 20 = μ) (hN : 151 ≤ eN E) (cx : Cx E p s m meth c args RX13 cc nL ret) (hp : Hp E σ s H locs) {v : Int32} (hdg : decode cc pc = .ok (.putfield 89, 3)) (kk : ∀ (u : SM) (H1 : Heap) (locs1 : List Loc), u 20 = wI μ 0 16 v → (∀ q, q ≠ 20 → u q = σ q) → Hp E u s H1 locs1 → W p l e R s m args below meth c H1 locs1 cells slots Q (F0 m (pc + 3) ls rest)) : W p l e R s m args below meth c H locs cells slots Q (F0 m pc ls (.int v :: .ref (adr E 20 0) :: rest)) := va_put (D := eD E) (ci := 9) (C := RX13) (T := TX13) (N := 18) cx.1.1 cx.1.2.1 cx.1.2.2.2.2 inB_X13 tyX13 tyX13_ok nmX13 cx.1.2.2.2.1 cx.2.2.1.2.1 hp.1.1 hp.1.2.1 hp.2 (lin 20 0) (wo_20_0 eo hN) rfl 16 (by decide) (cx.1.2.2.2.2 _ qF_X13_89) (fun _ h => h) rfl (ty := .int) (v := .int v) (by decide +kernel) rfl rfl (Nat.le_of_ble_eq_true rfl) hdg (fun H1 locs1 hP hD hS => kk (us σ 20 (wI μ 0 16 v)) H1 locs1 (us_s _ _ _) (fun q h => us_n h) (hp_put cx ((by decide)) ((Nat.lt_of_lt_of_le (by decide) hN)) eo (wI_o μ 0 16 v) rfl hP hD hS))
theorem gF_X13_95 {μ : OM} (eo : σ 20 = μ) (hN : 151 ≤ eN E) (cx : Cx E p s m meth c args RX13 cc nL ret) (hp : Hp E σ s H locs) (hdg : decode cc pc = .ok (.getfield 95, 3)) (kk : W p l e R s m args below meth c H locs cells slots Q (F0 m (pc + 3) ls (.int (μ.1 0 14) :: rest))) : W p l e R s m args below meth c H locs cells slots Q (F0 m pc ls (.ref (adr E 20 0) :: rest)) := va_get (D := eD E) (ci := 9) (C := RX13) (T := TX13) (N := 18) cx.1.1 cx.1.2.1 cx.1.2.2.2.2 inB_X13 cx.1.2.2.2.1 cx.2.2.1.2.1 hp.1.1 (lin 20 0) (wo_20_0 eo hN) rfl 14 (by decide) (cx.1.2.2.2.2 _ qF_X13_95) (fun _ h => h) rfl hdg kk
theorem pF_X13_95 {μ : OM} (eo : σ 20 = μ) (hN : 151 ≤ eN E) (cx : Cx E p s m meth c args RX13 cc nL ret) (hp : Hp E σ s H locs) {v : Int32} (hdg : decode cc pc = .ok (.putfield 95, 3)) (kk : ∀ (u : SM) (H1 : Heap) (locs1 : List Loc), u 20 = wI μ 0 14 v → (∀ q, q ≠ 20 → u q = σ q) → Hp E u s H1 locs1 → W p l e R s m args below meth c H1 locs1 cells slots Q (F0 m (pc + 3) ls rest)) : W p l e R s m args below meth c H locs cells slots Q (F0 m pc ls (.int v :: .ref (adr E 20 0) :: rest)) := va_put (D := eD E) (ci := 9) (C := RX13) (T := TX13) (N := 18) cx.1.1 cx.1.2.1 cx.1.2.2.2.2 inB_X13 tyX13 tyX13_ok nmX13 cx.1.2.2.2.1 cx.2.2.1.2.1 hp.1.1 hp.1.2.1 hp.2 (lin 20 0) (wo_20_0 eo hN) rfl 14 (by decide) (cx.1.2.2.2.2 _ qF_X13_95) (fun _ h => h) rfl (ty := .int) (v := .int v) (by decide +kernel) rfl rfl (Nat.le_of_ble_eq_true rfl) hdg (fun H1 locs1 hP hD hS => kk (us σ 20 (wI μ 0 14 v)) H1 locs1 (us_s _ _ _) (fun q h => us_n h) (hp_put cx ((by decide)) ((Nat.lt_of_lt_of_le (by decide) hN)) eo (wI_o μ 0 14 v) rfl hP hD hS))
theorem gF_X13_98 {μ : OM} (eo : σ 20 = μ) (hN : 151 ≤ eN E) (cx : Cx E p s m meth c args RX13 cc nL ret) (hp : Hp E σ s H locs) (hdg : decode cc pc = .ok (.getfield 98, 3)) (kk : W p l e R s m args below meth c H locs cells slots Q (F0 m (pc + 3) ls (.int (μ.1 0 15) :: rest))) : W p l e R s m args below meth c H locs cells slots Q (F0 m pc ls (.ref (adr E 20 0) :: rest)) := va_get (D := eD E) (ci := 9) (C := RX13) (T := TX13) (N := 18) cx.1.1 cx.1.2.1 cx.1.2.2.2.2 inB_X13 cx.1.2.2.2.1 cx.2.2.1.2.1 hp.1.1 (lin 20 0) (wo_20_0 eo hN) rfl 15 (by decide) (cx.1.2.2.2.2 _ qF_X13_98) (fun _ h => h) rfl hdg kk
theorem pF_X13_98 {μ : OM} (eo : σ 20 = μ) (hN : 151 ≤ eN E) (cx : Cx E p s m meth c args RX13 cc nL ret) (hp : Hp E σ s H locs) {v : Int32} (hdg : decode cc pc = .ok (.putfield 98, 3)) (kk : ∀ (u : SM) (H1 : Heap) (locs1 : List Loc), u 20 = wI μ 0 15 v → (∀ q, q ≠ 20 → u q = σ q) → Hp E u s H1 locs1 → W p l e R s m args below meth c H1 locs1 cells slots Q (F0 m (pc + 3) ls rest)) : W p l e R s m args below meth c H locs cells slots Q (F0 m pc ls (.int v :: .ref (adr E 20 0) :: rest)) := va_put (D := eD E) (ci := 9) (C := RX13) (T := TX13) (N := 18) cx.1.1 cx.1.2.1 cx.1.2.2.2.2 inB_X13 tyX13 tyX13_ok nmX13 cx.1.2.2.2.1 cx.2.2.1.2.1 hp.1.1 hp.1.2.1 hp.2 (lin 20 0) (wo_20_0 eo hN) rfl 15 (by decide) (cx.1.2.2.2.2 _ qF_X13_98) (fun _ h => h) rfl (ty := .int) (v := .int v) (by decide +kernel) rfl rfl (Nat.le_of_ble_eq_true rfl) hdg (fun H1 locs1 hP hD hS => kk (us σ 20 (wI μ 0 15 v)) H1 locs1 (us_s _ _ _) (fun q h => us_n h) (hp_put cx ((by decide)) ((Nat.lt_of_lt_of_le (by decide) hN)) eo (wI_o μ 0 15 v) rfl hP hD hS))
theorem gF_X13_142 {μ : OM} (eo : σ 20 = μ) (hN : 151 ≤ eN E) (cx : Cx E p s m meth c args RX13 cc nL ret) (hp : Hp E σ s H locs) (hdg : decode cc pc = .ok (.getfield 142, 3)) (kk : W p l e R s m args below meth c H locs cells slots Q (F0 m (pc + 3) ls (.int (μ.1 0 17) :: rest))) : W p l e R s m args below meth c H locs cells slots Q (F0 m pc ls (.ref (adr E 20 0) :: rest)) := va_get (D := eD E) (ci := 9) (C := RX13) (T := TX13) (N := 18) cx.1.1 cx.1.2.1 cx.1.2.2.2.2 inB_X13 cx.1.2.2.2.1 cx.2.2.1.2.1 hp.1.1 (lin 20 0) (wo_20_0 eo hN) rfl 17 (by decide) (cx.1.2.2.2.2 _ qF_X13_142) (fun _ h => h) rfl hdg kk
theorem pF_X13_142 {μ : OM} (eo : σ 20 = μ) (hN : 151 ≤ eN E) (cx : Cx E p s m meth c args RX13 cc nL ret) (hp : Hp E σ s H locs) {v : Int32} (hdg : decode cc pc = .ok (.putfield 142, 3)) (kk : ∀ (u : SM) (H1 : Heap) (locs1 : List Loc), u 20 = wI μ 0 17 v → (∀ q, q ≠ 20 → u q = σ q) → Hp E u s H1 locs1 → W p l e R s m args below meth c H1 locs1 cells slots Q (F0 m (pc + 3) ls rest)) : W p l e R s m args below meth c H locs cells slots Q (F0 m pc ls (.int v :: .ref (adr E 20 0) :: rest)) := va_put (D := eD E) (ci := 9) (C := RX13) (T := TX13) (N := 18) cx.1.1 cx.1.2.1 cx.1.2.2.2.2 inB_X13 tyX13 tyX13_ok nmX13 cx.1.2.2.2.1 cx.2.2.1.2.1 hp.1.1 hp.1.2.1 hp.2 (lin 20 0) (wo_20_0 eo hN) rfl 17 (by decide) (cx.1.2.2.2.2 _ qF_X13_142) (fun _ h => h) rfl (ty := .int) (v := .int v) (by decide +kernel) rfl rfl (Nat.le_of_ble_eq_true rfl) hdg (fun H1 locs1 hP hD hS => kk (us σ 20 (wI μ 0 17 v)) H1 locs1 (us_s _ _ _) (fun q h => us_n h) (hp_put cx ((by decide)) ((Nat.lt_of_lt_of_le (by decide) hN)) eo (wI_o μ 0 17 v) rfl hP hD hS))
theorem lA_X5_1 {o : Nat} (ho : o < 11) {μ : OM} (eo : σ o = μ) (hN : 129 ≤ eN E) {own : String} (cx : Cx E p s m meth c args own cc nL ret) (hp : Hp E σ s H locs) {i : Int32} (hin : inb i 8 = true) (hdg : decode cc pc = .ok (.laload, 1)) (kk : W p l e R s m args below meth c H locs cells slots Q (F0 m (pc + 1) ls (.long (μ.2.1 1 i.toNatClampNeg) :: rest))) : W p l e R s m args below meth c H locs cells slots Q (F0 m pc ls (.int i :: .ref (adr E o 1) :: rest)) := va_lald cx.1.1 cx.1.2.1 cx.2.2.1.2.1 hp.1.1 (lin o 1) 1 (wm_1 ho eo hN) rfl (inb_vp hin) hdg kk
theorem sA_X5_1 {o : Nat} (ho : o < 11) {μ : OM} (eo : σ o = μ) (hN : 129 ≤ eN E) {own : String} (cx : Cx E p s m meth c args own cc nL ret) (hp : Hp E σ s H locs) {i : Int32} {x : Int64} (hin : inb i 8 = true) (hdg : decode cc pc = .ok (.lastore, 1)) (kk : ∀ (u : SM) (H1 : Heap) (locs1 : List Loc), u o = wJ μ 1 i.toNatClampNeg x → (∀ q, q ≠ o → u q = σ q) → Hp E u s H1 locs1 → W p l e R s m args below meth c H1 locs1 cells slots Q (F0 m (pc + 1) ls rest)) : W p l e R s m args below meth c H locs cells slots Q (F0 m pc ls (.long x :: .int i :: .ref (adr E o 1) :: rest)) := va_last cx.1.1 cx.1.2.1 cx.2.2.1.2.1 hp.1.1 hp.1.2.1 hp.2 (lin o 1) 1 (wm_1 ho eo hN) rfl (inb_vp hin) hdg (fun H1 locs1 hP hD hS => kk (us σ o (wJ μ 1 i.toNatClampNeg x)) H1 locs1 (us_s _ _ _) (fun q h => us_n h) (hp_put cx (dec_M ho (by decide)) (lin_lt ho (by decide) hN) eo (wJ_o μ 1 i.toNatClampNeg x) ((cel_M ho 1 _).trans rfl) hP hD hS))
theorem lA_X5_2 {o : Nat} (ho : o < 11) {μ : OM} (eo : σ o = μ) (hN : 129 ≤ eN E) {own : String} (cx : Cx E p s m meth c args own cc nL ret) (hp : Hp E σ s H locs) {i : Int32} (hin : inb i 8 = true) (hdg : decode cc pc = .ok (.iaload, 1)) (kk : W p l e R s m args below meth c H locs cells slots Q (F0 m (pc + 1) ls (.int (μ.1 2 i.toNatClampNeg) :: rest))) : W p l e R s m args below meth c H locs cells slots Q (F0 m pc ls (.int i :: .ref (adr E o 2) :: rest)) := va_iald cx.1.1 cx.1.2.1 cx.2.2.1.2.1 hp.1.1 (lin o 2) 0 (wm_2 ho eo hN) rfl (inb_vp hin) hdg kk
theorem sA_X5_2 {o : Nat} (ho : o < 11) {μ : OM} (eo : σ o = μ) (hN : 129 ≤ eN E) {own : String} (cx : Cx E p s m meth c args own cc nL ret) (hp : Hp E σ s H locs) {i : Int32} {x : Int32} (hin : inb i 8 = true) (hdg : decode cc pc = .ok (.iastore, 1)) (kk : ∀ (u : SM) (H1 : Heap) (locs1 : List Loc), u o = wI μ 2 i.toNatClampNeg x → (∀ q, q ≠ o → u q = σ q) → Hp E u s H1 locs1 → W p l e R s m args below meth c H1 locs1 cells slots Q (F0 m (pc + 1) ls rest)) : W p l e R s m args below meth c H locs cells slots Q (F0 m pc ls (.int x :: .int i :: .ref (adr E o 2) :: rest)) := va_iast cx.1.1 cx.1.2.1 cx.2.2.1.2.1 hp.1.1 hp.1.2.1 hp.2 (lin o 2) 0 (wm_2 ho eo hN) rfl (inb_vp hin) hdg (fun H1 locs1 hP hD hS => kk (us σ o (wI μ 2 i.toNatClampNeg x)) H1 locs1 (us_s _ _ _) (fun q h => us_n h) (hp_put cx (dec_M ho (by decide)) (lin_lt ho (by decide) hN) eo (wI_o μ 2 i.toNatClampNeg x) ((cel_M ho 2 _).trans rfl) hP hD hS))
theorem lA_X5_3 {o : Nat} (ho : o < 11) {μ : OM} (eo : σ o = μ) (hN : 129 ≤ eN E) {own : String} (cx : Cx E p s m meth c args own cc nL ret) (hp : Hp E σ s H locs) {i : Int32} (hin : inb i 8 = true) (hdg : decode cc pc = .ok (.iaload, 1)) (kk : W p l e R s m args below meth c H locs cells slots Q (F0 m (pc + 1) ls (.int (μ.1 3 i.toNatClampNeg) :: rest))) : W p l e R s m args below meth c H locs cells slots Q (F0 m pc ls (.int i :: .ref (adr E o 3) :: rest)) := va_iald cx.1.1 cx.1.2.1 cx.2.2.1.2.1 hp.1.1 (lin o 3) 0 (wm_3 ho eo hN) rfl (inb_vp hin) hdg kk
theorem sA_X5_3 {o : Nat} (ho : o < 11) {μ : OM} (eo : σ o = μ) (hN : 129 ≤ eN E) {own : String} (cx : Cx E p s m meth c args own cc nL ret) (hp : Hp E σ s H locs) {i : Int32} {x : Int32} (hin : inb i 8 = true) (hdg : decode cc pc = .ok (.iastore, 1)) (kk : ∀ (u : SM) (H1 : Heap) (locs1 : List Loc), u o = wI μ 3 i.toNatClampNeg x → (∀ q, q ≠ o → u q = σ q) → Hp E u s H1 locs1 → W p l e R s m args below meth c H1 locs1 cells slots Q (F0 m (pc + 1) ls rest)) : W p l e R s m args below meth c H locs cells slots Q (F0 m pc ls (.int x :: .int i :: .ref (adr E o 3) :: rest)) := va_iast cx.1.1 cx.1.2.1 cx.2.2.1.2.1 hp.1.1 hp.1.2.1 hp.2 (lin o 3) 0 (wm_3 ho eo hN) rfl (inb_vp hin) hdg (fun H1 locs1 hP hD hS => kk (us σ o (wI μ 3 i.toNatClampNeg x)) H1 locs1 (us_s _ _ _) (fun q h => us_n h) (hp_put cx (dec_M ho (by decide)) (lin_lt ho (by decide) hN) eo (wI_o μ 3 i.toNatClampNeg x) ((cel_M ho 3 _).trans rfl) hP hD hS))
theorem lA_X5_4 {o : Nat} (ho : o < 11) {μ : OM} (eo : σ o = μ) (hN : 129 ≤ eN E) {own : String} (cx : Cx E p s m meth c args own cc nL ret) (hp : Hp E σ s H locs) {i : Int32} (hin : inb i 8 = true) (hdg : decode cc pc = .ok (.iaload, 1)) (kk : W p l e R s m args below meth c H locs cells slots Q (F0 m (pc + 1) ls (.int (μ.1 4 i.toNatClampNeg) :: rest))) : W p l e R s m args below meth c H locs cells slots Q (F0 m pc ls (.int i :: .ref (adr E o 4) :: rest)) := va_iald cx.1.1 cx.1.2.1 cx.2.2.1.2.1 hp.1.1 (lin o 4) 0 (wm_4 ho eo hN) rfl (inb_vp hin) hdg kk
theorem sA_X5_4 {o : Nat} (ho : o < 11) {μ : OM} (eo : σ o = μ) (hN : 129 ≤ eN E) {own : String} (cx : Cx E p s m meth c args own cc nL ret) (hp : Hp E σ s H locs) {i : Int32} {x : Int32} (hin : inb i 8 = true) (hdg : decode cc pc = .ok (.iastore, 1)) (kk : ∀ (u : SM) (H1 : Heap) (locs1 : List Loc), u o = wI μ 4 i.toNatClampNeg x → (∀ q, q ≠ o → u q = σ q) → Hp E u s H1 locs1 → W p l e R s m args below meth c H1 locs1 cells slots Q (F0 m (pc + 1) ls rest)) : W p l e R s m args below meth c H locs cells slots Q (F0 m pc ls (.int x :: .int i :: .ref (adr E o 4) :: rest)) := va_iast cx.1.1 cx.1.2.1 cx.2.2.1.2.1 hp.1.1 hp.1.2.1 hp.2 (lin o 4) 0 (wm_4 ho eo hN) rfl (inb_vp hin) hdg (fun H1 locs1 hP hD hS => kk (us σ o (wI μ 4 i.toNatClampNeg x)) H1 locs1 (us_s _ _ _) (fun q h => us_n h) (hp_put cx (dec_M ho (by decide)) (lin_lt ho (by decide) hN) eo (wI_o μ 4 i.toNatClampNeg x) ((cel_M ho 4 _).trans rfl) hP hD hS))
theorem lA_X5_5 {o : Nat} (ho : o < 11) {μ : OM} (eo : σ o = μ) (hN : 129 ≤ eN E) {own : String} (cx : Cx E p s m meth c args own cc nL ret) (hp : Hp E σ s H locs) {i : Int32} (hin : inb i 8 = true) (hdg : decode cc pc = .ok (.iaload, 1)) (kk : W p l e R s m args below meth c H locs cells slots Q (F0 m (pc + 1) ls (.int (μ.1 5 i.toNatClampNeg) :: rest))) : W p l e R s m args below meth c H locs cells slots Q (F0 m pc ls (.int i :: .ref (adr E o 5) :: rest)) := va_iald cx.1.1 cx.1.2.1 cx.2.2.1.2.1 hp.1.1 (lin o 5) 0 (wm_5 ho eo hN) rfl (inb_vp hin) hdg kk
theorem sA_X5_5 {o : Nat} (ho : o < 11) {μ : OM} (eo : σ o = μ) (hN : 129 ≤ eN E) {own : String} (cx : Cx E p s m meth c args own cc nL ret) (hp : Hp E σ s H locs) {i : Int32} {x : Int32} (hin : inb i 8 = true) (hdg : decode cc pc = .ok (.iastore, 1)) (kk : ∀ (u : SM) (H1 : Heap) (locs1 : List Loc), u o = wI μ 5 i.toNatClampNeg x → (∀ q, q ≠ o → u q = σ q) → Hp E u s H1 locs1 → W p l e R s m args below meth c H1 locs1 cells slots Q (F0 m (pc + 1) ls rest)) : W p l e R s m args below meth c H locs cells slots Q (F0 m pc ls (.int x :: .int i :: .ref (adr E o 5) :: rest)) := va_iast cx.1.1 cx.1.2.1 cx.2.2.1.2.1 hp.1.1 hp.1.2.1 hp.2 (lin o 5) 0 (wm_5 ho eo hN) rfl (inb_vp hin) hdg (fun H1 locs1 hP hD hS => kk (us σ o (wI μ 5 i.toNatClampNeg x)) H1 locs1 (us_s _ _ _) (fun q h => us_n h) (hp_put cx (dec_M ho (by decide)) (lin_lt ho (by decide) hN) eo (wI_o μ 5 i.toNatClampNeg x) ((cel_M ho 5 _).trans rfl) hP hD hS))
theorem lA_X5_6 {o : Nat} (ho : o < 11) {μ : OM} (eo : σ o = μ) (hN : 129 ≤ eN E) {own : String} (cx : Cx E p s m meth c args own cc nL ret) (hp : Hp E σ s H locs) {i : Int32} (hin : inb i 8 = true) (hdg : decode cc pc = .ok (.iaload, 1)) (kk : W p l e R s m args below meth c H locs cells slots Q (F0 m (pc + 1) ls (.int (μ.1 6 i.toNatClampNeg) :: rest))) : W p l e R s m args below meth c H locs cells slots Q (F0 m pc ls (.int i :: .ref (adr E o 6) :: rest)) := va_iald cx.1.1 cx.1.2.1 cx.2.2.1.2.1 hp.1.1 (lin o 6) 0 (wm_6 ho eo hN) rfl (inb_vp hin) hdg kk
theorem sA_X5_6 {o : Nat} (ho : o < 11) {μ : OM} (eo : σ o = μ) (hN : 129 ≤ eN E) {own : String} (cx : Cx E p s m meth c args own cc nL ret) (hp : Hp E σ s H locs) {i : Int32} {x : Int32} (hin : inb i 8 = true) (hdg : decode cc pc = .ok (.iastore, 1)) (kk : ∀ (u : SM) (H1 : Heap) (locs1 : List Loc), u o = wI μ 6 i.toNatClampNeg x → (∀ q, q ≠ o → u q = σ q) → Hp E u s H1 locs1 → W p l e R s m args below meth c H1 locs1 cells slots Q (F0 m (pc + 1) ls rest)) : W p l e R s m args below meth c H locs cells slots Q (F0 m pc ls (.int x :: .int i :: .ref (adr E o 6) :: rest)) := va_iast cx.1.1 cx.1.2.1 cx.2.2.1.2.1 hp.1.1 hp.1.2.1 hp.2 (lin o 6) 0 (wm_6 ho eo hN) rfl (inb_vp hin) hdg (fun H1 locs1 hP hD hS => kk (us σ o (wI μ 6 i.toNatClampNeg x)) H1 locs1 (us_s _ _ _) (fun q h => us_n h) (hp_put cx (dec_M ho (by decide)) (lin_lt ho (by decide) hN) eo (wI_o μ 6 i.toNatClampNeg x) ((cel_M ho 6 _).trans rfl) hP hD hS))
theorem lA_X5_7 {o : Nat} (ho : o < 11) {μ : OM} (eo : σ o = μ) (hN : 129 ≤ eN E) {own : String} (cx : Cx E p s m meth c args own cc nL ret) (hp : Hp E σ s H locs) {i : Int32} (hin : inb i 64 = true) (hdg : decode cc pc = .ok (.iaload, 1)) (kk : W p l e R s m args below meth c H locs cells slots Q (F0 m (pc + 1) ls (.int (μ.1 7 i.toNatClampNeg) :: rest))) : W p l e R s m args below meth c H locs cells slots Q (F0 m pc ls (.int i :: .ref (adr E o 7) :: rest)) := va_iald cx.1.1 cx.1.2.1 cx.2.2.1.2.1 hp.1.1 (lin o 7) 0 (wm_7 ho eo hN) rfl (inb_vp hin) hdg kk
theorem sA_X5_7 {o : Nat} (ho : o < 11) {μ : OM} (eo : σ o = μ) (hN : 129 ≤ eN E) {own : String} (cx : Cx E p s m meth c args own cc nL ret) (hp : Hp E σ s H locs) {i : Int32} {x : Int32} (hin : inb i 64 = true) (hdg : decode cc pc = .ok (.iastore, 1)) (kk : ∀ (u : SM) (H1 : Heap) (locs1 : List Loc), u o = wI μ 7 i.toNatClampNeg x → (∀ q, q ≠ o → u q = σ q) → Hp E u s H1 locs1 → W p l e R s m args below meth c H1 locs1 cells slots Q (F0 m (pc + 1) ls rest)) : W p l e R s m args below meth c H locs cells slots Q (F0 m pc ls (.int x :: .int i :: .ref (adr E o 7) :: rest)) := va_iast cx.1.1 cx.1.2.1 cx.2.2.1.2.1 hp.1.1 hp.1.2.1 hp.2 (lin o 7) 0 (wm_7 ho eo hN) rfl (inb_vp hin) hdg (fun H1 locs1 hP hD hS => kk (us σ o (wI μ 7 i.toNatClampNeg x)) H1 locs1 (us_s _ _ _) (fun q h => us_n h) (hp_put cx (dec_M ho (by decide)) (lin_lt ho (by decide) hN) eo (wI_o μ 7 i.toNatClampNeg x) ((cel_M ho 7 _).trans rfl) hP hD hS))
theorem lA_X5_8 {o : Nat} (ho : o < 11) {μ : OM} (eo : σ o = μ) (hN : 129 ≤ eN E) {own : String} (cx : Cx E p s m meth c args own cc nL ret) (hp : Hp E σ s H locs) {i : Int32} (hin : inb i 8 = true) (hdg : decode cc pc = .ok (.laload, 1)) (kk : W p l e R s m args below meth c H locs cells slots Q (F0 m (pc + 1) ls (.long (μ.2.1 8 i.toNatClampNeg) :: rest))) : W p l e R s m args below meth c H locs cells slots Q (F0 m pc ls (.int i :: .ref (adr E o 8) :: rest)) := va_lald cx.1.1 cx.1.2.1 cx.2.2.1.2.1 hp.1.1 (lin o 8) 1 (wm_8 ho eo hN) rfl (inb_vp hin) hdg kk
theorem sA_X5_8 {o : Nat} (ho : o < 11) {μ : OM} (eo : σ o = μ) (hN : 129 ≤ eN E) {own : String} (cx : Cx E p s m meth c args own cc nL ret) (hp : Hp E σ s H locs) {i : Int32} {x : Int64} (hin : inb i 8 = true) (hdg : decode cc pc = .ok (.lastore, 1)) (kk : ∀ (u : SM) (H1 : Heap) (locs1 : List Loc), u o = wJ μ 8 i.toNatClampNeg x → (∀ q, q ≠ o → u q = σ q) → Hp E u s H1 locs1 → W p l e R s m args below meth c H1 locs1 cells slots Q (F0 m (pc + 1) ls rest)) : W p l e R s m args below meth c H locs cells slots Q (F0 m pc ls (.long x :: .int i :: .ref (adr E o 8) :: rest)) := va_last cx.1.1 cx.1.2.1 cx.2.2.1.2.1 hp.1.1 hp.1.2.1 hp.2 (lin o 8) 1 (wm_8 ho eo hN) rfl (inb_vp hin) hdg (fun H1 locs1 hP hD hS => kk (us σ o (wJ μ 8 i.toNatClampNeg x)) H1 locs1 (us_s _ _ _) (fun q h => us_n h) (hp_put cx (dec_M ho (by decide)) (lin_lt ho (by decide) hN) eo (wJ_o μ 8 i.toNatClampNeg x) ((cel_M ho 8 _).trans rfl) hP hD hS))
theorem lA_X5_9 {o : Nat} (ho : o < 11) {μ : OM} (eo : σ o = μ) (hN : 129 ≤ eN E) {own : String} (cx : Cx E p s m meth c args own cc nL ret) (hp : Hp E σ s H locs) {i : Int32} (hin : inb i 8 = true) (hdg : decode cc pc = .ok (.iaload, 1)) (kk : W p l e R s m args below meth c H locs cells slots Q (F0 m (pc + 1) ls (.int (μ.1 9 i.toNatClampNeg) :: rest))) : W p l e R s m args below meth c H locs cells slots Q (F0 m pc ls (.int i :: .ref (adr E o 9) :: rest)) := va_iald cx.1.1 cx.1.2.1 cx.2.2.1.2.1 hp.1.1 (lin o 9) 0 (wm_9 ho eo hN) rfl (inb_vp hin) hdg kk
theorem sA_X5_9 {o : Nat} (ho : o < 11) {μ : OM} (eo : σ o = μ) (hN : 129 ≤ eN E) {own : String} (cx : Cx E p s m meth c args own cc nL ret) (hp : Hp E σ s H locs) {i : Int32} {x : Int32} (hin : inb i 8 = true) (hdg : decode cc pc = .ok (.iastore, 1)) (kk : ∀ (u : SM) (H1 : Heap) (locs1 : List Loc), u o = wI μ 9 i.toNatClampNeg x → (∀ q, q ≠ o → u q = σ q) → Hp E u s H1 locs1 → W p l e R s m args below meth c H1 locs1 cells slots Q (F0 m (pc + 1) ls rest)) : W p l e R s m args below meth c H locs cells slots Q (F0 m pc ls (.int x :: .int i :: .ref (adr E o 9) :: rest)) := va_iast cx.1.1 cx.1.2.1 cx.2.2.1.2.1 hp.1.1 hp.1.2.1 hp.2 (lin o 9) 0 (wm_9 ho eo hN) rfl (inb_vp hin) hdg (fun H1 locs1 hP hD hS => kk (us σ o (wI μ 9 i.toNatClampNeg x)) H1 locs1 (us_s _ _ _) (fun q h => us_n h) (hp_put cx (dec_M ho (by decide)) (lin_lt ho (by decide) hN) eo (wI_o μ 9 i.toNatClampNeg x) ((cel_M ho 9 _).trans rfl) hP hD hS))
theorem lA_X2_1_13 {μ : OM} (eo : σ 13 = μ) (hN : 129 ≤ eN E) {own : String} (cx : Cx E p s m meth c args own cc nL ret) (hp : Hp E σ s H locs) {i : Int32} (hin : inb i 700 = true) (hdg : decode cc pc = .ok (.iaload, 1)) (kk : W p l e R s m args below meth c H locs cells slots Q (F0 m (pc + 1) ls (.int (μ.1 1 i.toNatClampNeg) :: rest))) : W p l e R s m args below meth c H locs cells slots Q (F0 m pc ls (.int i :: .ref (adr E 13 1) :: rest)) := va_iald cx.1.1 cx.1.2.1 cx.2.2.1.2.1 hp.1.1 (lin 13 1) 0 (wo_13_1 eo hN) rfl (inb_vp hin) hdg kk
theorem sA_X2_1_13 {μ : OM} (eo : σ 13 = μ) (hN : 129 ≤ eN E) {own : String} (cx : Cx E p s m meth c args own cc nL ret) (hp : Hp E σ s H locs) {i : Int32} {x : Int32} (hin : inb i 700 = true) (hdg : decode cc pc = .ok (.iastore, 1)) (kk : ∀ (u : SM) (H1 : Heap) (locs1 : List Loc), u 13 = wI μ 1 i.toNatClampNeg x → (∀ q, q ≠ 13 → u q = σ q) → Hp E u s H1 locs1 → W p l e R s m args below meth c H1 locs1 cells slots Q (F0 m (pc + 1) ls rest)) : W p l e R s m args below meth c H locs cells slots Q (F0 m pc ls (.int x :: .int i :: .ref (adr E 13 1) :: rest)) := va_iast cx.1.1 cx.1.2.1 cx.2.2.1.2.1 hp.1.1 hp.1.2.1 hp.2 (lin 13 1) 0 (wo_13_1 eo hN) rfl (inb_vp hin) hdg (fun H1 locs1 hP hD hS => kk (us σ 13 (wI μ 1 i.toNatClampNeg x)) H1 locs1 (us_s _ _ _) (fun q h => us_n h) (hp_put cx ((by decide)) ((Nat.lt_of_lt_of_le (by decide) hN)) eo (wI_o μ 1 i.toNatClampNeg x) rfl hP hD hS))
theorem lA_X2_1_14 {μ : OM} (eo : σ 14 = μ) (hN : 129 ≤ eN E) {own : String} (cx : Cx E p s m meth c args own cc nL ret) (hp : Hp E σ s H locs) {i : Int32} (hin : inb i 700 = true) (hdg : decode cc pc = .ok (.iaload, 1)) (kk : W p l e R s m args below meth c H locs cells slots Q (F0 m (pc + 1) ls (.int (μ.1 1 i.toNatClampNeg) :: rest))) : W p l e R s m args below meth c H locs cells slots Q (F0 m pc ls (.int i :: .ref (adr E 14 1) :: rest)) := va_iald cx.1.1 cx.1.2.1 cx.2.2.1.2.1 hp.1.1 (lin 14 1) 0 (wo_14_1 eo hN) rfl (inb_vp hin) hdg kk
theorem sA_X2_1_14 {μ : OM} (eo : σ 14 = μ) (hN : 129 ≤ eN E) {own : String} (cx : Cx E p s m meth c args own cc nL ret) (hp : Hp E σ s H locs) {i : Int32} {x : Int32} (hin : inb i 700 = true) (hdg : decode cc pc = .ok (.iastore, 1)) (kk : ∀ (u : SM) (H1 : Heap) (locs1 : List Loc), u 14 = wI μ 1 i.toNatClampNeg x → (∀ q, q ≠ 14 → u q = σ q) → Hp E u s H1 locs1 → W p l e R s m args below meth c H1 locs1 cells slots Q (F0 m (pc + 1) ls rest)) : W p l e R s m args below meth c H locs cells slots Q (F0 m pc ls (.int x :: .int i :: .ref (adr E 14 1) :: rest)) := va_iast cx.1.1 cx.1.2.1 cx.2.2.1.2.1 hp.1.1 hp.1.2.1 hp.2 (lin 14 1) 0 (wo_14_1 eo hN) rfl (inb_vp hin) hdg (fun H1 locs1 hP hD hS => kk (us σ 14 (wI μ 1 i.toNatClampNeg x)) H1 locs1 (us_s _ _ _) (fun q h => us_n h) (hp_put cx ((by decide)) ((Nat.lt_of_lt_of_le (by decide) hN)) eo (wI_o μ 1 i.toNatClampNeg x) rfl hP hD hS))
theorem lA_X1_1 {μ : OM} (eo : σ 17 = μ) (hN : 129 ≤ eN E) {own : String} (cx : Cx E p s m meth c args own cc nL ret) (hp : Hp E σ s H locs) {i : Int32} (hin : inb i 8 = true) (hdg : decode cc pc = .ok (.iaload, 1)) (kk : W p l e R s m args below meth c H locs cells slots Q (F0 m (pc + 1) ls (.int (μ.1 1 i.toNatClampNeg) :: rest))) : W p l e R s m args below meth c H locs cells slots Q (F0 m pc ls (.int i :: .ref (adr E 17 1) :: rest)) := va_iald cx.1.1 cx.1.2.1 cx.2.2.1.2.1 hp.1.1 (lin 17 1) 0 (wo_17_1 eo hN) rfl (inb_vp hin) hdg kk
theorem sA_X1_1 {μ : OM} (eo : σ 17 = μ) (hN : 129 ≤ eN E) {own : String} (cx : Cx E p s m meth c args own cc nL ret) (hp : Hp E σ s H locs) {i : Int32} {x : Int32} (hin : inb i 8 = true) (hdg : decode cc pc = .ok (.iastore, 1)) (kk : ∀ (u : SM) (H1 : Heap) (locs1 : List Loc), u 17 = wI μ 1 i.toNatClampNeg x → (∀ q, q ≠ 17 → u q = σ q) → Hp E u s H1 locs1 → W p l e R s m args below meth c H1 locs1 cells slots Q (F0 m (pc + 1) ls rest)) : W p l e R s m args below meth c H locs cells slots Q (F0 m pc ls (.int x :: .int i :: .ref (adr E 17 1) :: rest)) := va_iast cx.1.1 cx.1.2.1 cx.2.2.1.2.1 hp.1.1 hp.1.2.1 hp.2 (lin 17 1) 0 (wo_17_1 eo hN) rfl (inb_vp hin) hdg (fun H1 locs1 hP hD hS => kk (us σ 17 (wI μ 1 i.toNatClampNeg x)) H1 locs1 (us_s _ _ _) (fun q h => us_n h) (hp_put cx ((by decide)) ((Nat.lt_of_lt_of_le (by decide) hN)) eo (wI_o μ 1 i.toNatClampNeg x) rfl hP hD hS))
theorem lA_X1_2 {μ : OM} (eo : σ 17 = μ) (hN : 129 ≤ eN E) {own : String} (cx : Cx E p s m meth c args own cc nL ret) (hp : Hp E σ s H locs) {i : Int32} (hin : inb i 8 = true) (hdg : decode cc pc = .ok (.baload, 1)) (kk : W p l e R s m args below meth c H locs cells slots Q (F0 m (pc + 1) ls (.int (μ.1 2 i.toNatClampNeg) :: rest))) : W p l e R s m args below meth c H locs cells slots Q (F0 m pc ls (.int i :: .ref (adr E 17 2) :: rest)) := va_zald cx.1.1 cx.1.2.1 cx.2.2.1.2.1 hp.1.1 (lin 17 2) 2 (wo_17_2 eo hN) rfl (inb_vp hin) hdg kk
theorem sA_X1_2 {μ : OM} (eo : σ 17 = μ) (hN : 129 ≤ eN E) {own : String} (cx : Cx E p s m meth c args own cc nL ret) (hp : Hp E σ s H locs) {i : Int32} {x : Int32} (hx : vp_nar .boolean x = x) (hin : inb i 8 = true) (hdg : decode cc pc = .ok (.bastore, 1)) (kk : ∀ (u : SM) (H1 : Heap) (locs1 : List Loc), u 17 = wI μ 2 i.toNatClampNeg x → (∀ q, q ≠ 17 → u q = σ q) → Hp E u s H1 locs1 → W p l e R s m args below meth c H1 locs1 cells slots Q (F0 m (pc + 1) ls rest)) : W p l e R s m args below meth c H locs cells slots Q (F0 m pc ls (.int x :: .int i :: .ref (adr E 17 2) :: rest)) := va_zast cx.1.1 cx.1.2.1 cx.2.2.1.2.1 hp.1.1 hp.1.2.1 hp.2 (lin 17 2) 2 (wo_17_2 eo hN) rfl (inb_vp hin) hdg (fun H1 locs1 hP hD hS => kk (us σ 17 (wI μ 2 i.toNatClampNeg x)) H1 locs1 (us_s _ _ _) (fun q h => us_n h) (hp_put cx ((by decide)) ((Nat.lt_of_lt_of_le (by decide) hN)) eo (wI_o μ 2 i.toNatClampNeg x) rfl (by rw [hx] at hP; exact hP) (by rw [hx] at hD; exact hD) hS))
theorem lA_X1_3 {μ : OM} (eo : σ 17 = μ) (hN : 129 ≤ eN E) {own : String} (cx : Cx E p s m meth c args own cc nL ret) (hp : Hp E σ s H locs) {i : Int32} (hin : inb i 8 = true) (hdg : decode cc pc = .ok (.baload, 1)) (kk : W p l e R s m args below meth c H locs cells slots Q (F0 m (pc + 1) ls (.int (μ.1 3 i.toNatClampNeg) :: rest))) : W p l e R s m args below meth c H locs cells slots Q (F0 m pc ls (.int i :: .ref (adr E 17 3) :: rest)) := va_zald cx.1.1 cx.1.2.1 cx.2.2.1.2.1 hp.1.1 (lin 17 3) 2 (wo_17_3 eo hN) rfl (inb_vp hin) hdg kk
theorem sA_X1_3 {μ : OM} (eo : σ 17 = μ) (hN : 129 ≤ eN E) {own : String} (cx : Cx E p s m meth c args own cc nL ret) (hp : Hp E σ s H locs) {i : Int32} {x : Int32} (hx : vp_nar .boolean x = x) (hin : inb i 8 = true) (hdg : decode cc pc = .ok (.bastore, 1)) (kk : ∀ (u : SM) (H1 : Heap) (locs1 : List Loc), u 17 = wI μ 3 i.toNatClampNeg x → (∀ q, q ≠ 17 → u q = σ q) → Hp E u s H1 locs1 → W p l e R s m args below meth c H1 locs1 cells slots Q (F0 m (pc + 1) ls rest)) : W p l e R s m args below meth c H locs cells slots Q (F0 m pc ls (.int x :: .int i :: .ref (adr E 17 3) :: rest)) := va_zast cx.1.1 cx.1.2.1 cx.2.2.1.2.1 hp.1.1 hp.1.2.1 hp.2 (lin 17 3) 2 (wo_17_3 eo hN) rfl (inb_vp hin) hdg (fun H1 locs1 hP hD hS => kk (us σ 17 (wI μ 3 i.toNatClampNeg x)) H1 locs1 (us_s _ _ _) (fun q h => us_n h) (hp_put cx ((by decide)) ((Nat.lt_of_lt_of_le (by decide) hN)) eo (wI_o μ 3 i.toNatClampNeg x) rfl (by rw [hx] at hP; exact hP) (by rw [hx] at hD; exact hD) hS))
theorem lA_X1_4 {μ : OM} (eo : σ 17 = μ) (hN : 129 ≤ eN E) {own : String} (cx : Cx E p s m meth c args own cc nL ret) (hp : Hp E σ s H locs) {i : Int32} (hin : inb i 8 = true) (hdg : decode cc pc = .ok (.iaload, 1)) (kk : W p l e R s m args below meth c H locs cells slots Q (F0 m (pc + 1) ls (.int (μ.1 4 i.toNatClampNeg) :: rest))) : W p l e R s m args below meth c H locs cells slots Q (F0 m pc ls (.int i :: .ref (adr E 17 4) :: rest)) := va_iald cx.1.1 cx.1.2.1 cx.2.2.1.2.1 hp.1.1 (lin 17 4) 0 (wo_17_4 eo hN) rfl (inb_vp hin) hdg kk
theorem sA_X1_4 {μ : OM} (eo : σ 17 = μ) (hN : 129 ≤ eN E) {own : String} (cx : Cx E p s m meth c args own cc nL ret) (hp : Hp E σ s H locs) {i : Int32} {x : Int32} (hin : inb i 8 = true) (hdg : decode cc pc = .ok (.iastore, 1)) (kk : ∀ (u : SM) (H1 : Heap) (locs1 : List Loc), u 17 = wI μ 4 i.toNatClampNeg x → (∀ q, q ≠ 17 → u q = σ q) → Hp E u s H1 locs1 → W p l e R s m args below meth c H1 locs1 cells slots Q (F0 m (pc + 1) ls rest)) : W p l e R s m args below meth c H locs cells slots Q (F0 m pc ls (.int x :: .int i :: .ref (adr E 17 4) :: rest)) := va_iast cx.1.1 cx.1.2.1 cx.2.2.1.2.1 hp.1.1 hp.1.2.1 hp.2 (lin 17 4) 0 (wo_17_4 eo hN) rfl (inb_vp hin) hdg (fun H1 locs1 hP hD hS => kk (us σ 17 (wI μ 4 i.toNatClampNeg x)) H1 locs1 (us_s _ _ _) (fun q h => us_n h) (hp_put cx ((by decide)) ((Nat.lt_of_lt_of_le (by decide) hN)) eo (wI_o μ 4 i.toNatClampNeg x) rfl hP hD hS))
theorem lA_X13_1 {μ : OM} (eo : σ 20 = μ) (hN : 151 ≤ eN E) {own : String} (cx : Cx E p s m meth c args own cc nL ret) (hp : Hp E σ s H locs) {i : Int32} (hin : inb i 700 = true) (hdg : decode cc pc = .ok (.baload, 1)) (kk : W p l e R s m args below meth c H locs cells slots Q (F0 m (pc + 1) ls (.int (μ.1 1 i.toNatClampNeg) :: rest))) : W p l e R s m args below meth c H locs cells slots Q (F0 m pc ls (.int i :: .ref (adr E 20 1) :: rest)) := va_bald cx.1.1 cx.1.2.1 cx.2.2.1.2.1 hp.1.1 (lin 20 1) 5 (wo_20_1 eo hN) rfl (inb_vp hin) hdg kk
theorem sA_X13_1 {μ : OM} (eo : σ 20 = μ) (hN : 151 ≤ eN E) {own : String} (cx : Cx E p s m meth c args own cc nL ret) (hp : Hp E σ s H locs) {i : Int32} {x : Int32} (hx : vp_nar .byte x = x) (hin : inb i 700 = true) (hdg : decode cc pc = .ok (.bastore, 1)) (kk : ∀ (u : SM) (H1 : Heap) (locs1 : List Loc), u 20 = wI μ 1 i.toNatClampNeg x → (∀ q, q ≠ 20 → u q = σ q) → Hp E u s H1 locs1 → W p l e R s m args below meth c H1 locs1 cells slots Q (F0 m (pc + 1) ls rest)) : W p l e R s m args below meth c H locs cells slots Q (F0 m pc ls (.int x :: .int i :: .ref (adr E 20 1) :: rest)) := va_bast cx.1.1 cx.1.2.1 cx.2.2.1.2.1 hp.1.1 hp.1.2.1 hp.2 (lin 20 1) 5 (wo_20_1 eo hN) rfl (inb_vp hin) hdg (fun H1 locs1 hP hD hS => kk (us σ 20 (wI μ 1 i.toNatClampNeg x)) H1 locs1 (us_s _ _ _) (fun q h => us_n h) (hp_put cx ((by decide)) ((Nat.lt_of_lt_of_le (by decide) hN)) eo (wI_o μ 1 i.toNatClampNeg x) rfl (by rw [hx] at hP; exact hP) (by rw [hx] at hD; exact hD) hS))
theorem lA_X13_2 {μ : OM} (eo : σ 20 = μ) (hN : 151 ≤ eN E) {own : String} (cx : Cx E p s m meth c args own cc nL ret) (hp : Hp E σ s H locs) {i : Int32} (hin : inb i 8 = true) (hdg : decode cc pc = .ok (.iaload, 1)) (kk : W p l e R s m args below meth c H locs cells slots Q (F0 m (pc + 1) ls (.int (μ.1 2 i.toNatClampNeg) :: rest))) : W p l e R s m args below meth c H locs cells slots Q (F0 m pc ls (.int i :: .ref (adr E 20 2) :: rest)) := va_iald cx.1.1 cx.1.2.1 cx.2.2.1.2.1 hp.1.1 (lin 20 2) 0 (wo_20_2 eo hN) rfl (inb_vp hin) hdg kk
theorem sA_X13_2 {μ : OM} (eo : σ 20 = μ) (hN : 151 ≤ eN E) {own : String} (cx : Cx E p s m meth c args own cc nL ret) (hp : Hp E σ s H locs) {i : Int32} {x : Int32} (hin : inb i 8 = true) (hdg : decode cc pc = .ok (.iastore, 1)) (kk : ∀ (u : SM) (H1 : Heap) (locs1 : List Loc), u 20 = wI μ 2 i.toNatClampNeg x → (∀ q, q ≠ 20 → u q = σ q) → Hp E u s H1 locs1 → W p l e R s m args below meth c H1 locs1 cells slots Q (F0 m (pc + 1) ls rest)) : W p l e R s m args below meth c H locs cells slots Q (F0 m pc ls (.int x :: .int i :: .ref (adr E 20 2) :: rest)) := va_iast cx.1.1 cx.1.2.1 cx.2.2.1.2.1 hp.1.1 hp.1.2.1 hp.2 (lin 20 2) 0 (wo_20_2 eo hN) rfl (inb_vp hin) hdg (fun H1 locs1 hP hD hS => kk (us σ 20 (wI μ 2 i.toNatClampNeg x)) H1 locs1 (us_s _ _ _) (fun q h => us_n h) (hp_put cx ((by decide)) ((Nat.lt_of_lt_of_le (by decide) hN)) eo (wI_o μ 2 i.toNatClampNeg x) rfl hP hD hS))
theorem lA_X13_3 {μ : OM} (eo : σ 20 = μ) (hN : 151 ≤ eN E) {own : String} (cx : Cx E p s m meth c args own cc nL ret) (hp : Hp E σ s H locs) {i : Int32} (hin : inb i 8 = true) (hdg : decode cc pc = .ok (.iaload, 1)) (kk : W p l e R s m args below meth c H locs cells slots Q (F0 m (pc + 1) ls (.int (μ.1 3 i.toNatClampNeg) :: rest))) : W p l e R s m args below meth c H locs cells slots Q (F0 m pc ls (.int i :: .ref (adr E 20 3) :: rest)) := va_iald cx.1.1 cx.1.2.1 cx.2.2.1.2.1 hp.1.1 (lin 20 3) 0 (wo_20_3 eo hN) rfl (inb_vp hin) hdg kk
theorem sA_X13_3 {μ : OM} (eo : σ 20 = μ) (hN : 151 ≤ eN E) {own : String} (cx : Cx E p s m meth c args own cc nL ret) (hp : Hp E σ s H locs) {i : Int32} {x : Int32} (hin : inb i 8 = true) (hdg : decode cc pc = .ok (.iastore, 1)) (kk : ∀ (u : SM) (H1 : Heap) (locs1 : List Loc), u 20 = wI μ 3 i.toNatClampNeg x → (∀ q, q ≠ 20 → u q = σ q) → Hp E u s H1 locs1 → W p l e R s m args below meth c H1 locs1 cells slots Q (F0 m (pc + 1) ls rest)) : W p l e R s m args below meth c H locs cells slots Q (F0 m pc ls (.int x :: .int i :: .ref (adr E 20 3) :: rest)) := va_iast cx.1.1 cx.1.2.1 cx.2.2.1.2.1 hp.1.1 hp.1.2.1 hp.2 (lin 20 3) 0 (wo_20_3 eo hN) rfl (inb_vp hin) hdg (fun H1 locs1 hP hD hS => kk (us σ 20 (wI μ 3 i.toNatClampNeg x)) H1 locs1 (us_s _ _ _) (fun q h => us_n h) (hp_put cx ((by decide)) ((Nat.lt_of_lt_of_le (by decide) hN)) eo (wI_o μ 3 i.toNatClampNeg x) rfl hP hD hS))
theorem lA_X13_4 {μ : OM} (eo : σ 20 = μ) (hN : 151 ≤ eN E) {own : String} (cx : Cx E p s m meth c args own cc nL ret) (hp : Hp E σ s H locs) {i : Int32} (hin : inb i 8 = true) (hdg : decode cc pc = .ok (.iaload, 1)) (kk : W p l e R s m args below meth c H locs cells slots Q (F0 m (pc + 1) ls (.int (μ.1 4 i.toNatClampNeg) :: rest))) : W p l e R s m args below meth c H locs cells slots Q (F0 m pc ls (.int i :: .ref (adr E 20 4) :: rest)) := va_iald cx.1.1 cx.1.2.1 cx.2.2.1.2.1 hp.1.1 (lin 20 4) 0 (wo_20_4 eo hN) rfl (inb_vp hin) hdg kk
theorem sA_X13_4 {μ : OM} (eo : σ 20 = μ) (hN : 151 ≤ eN E) {own : String} (cx : Cx E p s m meth c args own cc nL ret) (hp : Hp E σ s H locs) {i : Int32} {x : Int32} (hin : inb i 8 = true) (hdg : decode cc pc = .ok (.iastore, 1)) (kk : ∀ (u : SM) (H1 : Heap) (locs1 : List Loc), u 20 = wI μ 4 i.toNatClampNeg x → (∀ q, q ≠ 20 → u q = σ q) → Hp E u s H1 locs1 → W p l e R s m args below meth c H1 locs1 cells slots Q (F0 m (pc + 1) ls rest)) : W p l e R s m args below meth c H locs cells slots Q (F0 m pc ls (.int x :: .int i :: .ref (adr E 20 4) :: rest)) := va_iast cx.1.1 cx.1.2.1 cx.2.2.1.2.1 hp.1.1 hp.1.2.1 hp.2 (lin 20 4) 0 (wo_20_4 eo hN) rfl (inb_vp hin) hdg (fun H1 locs1 hP hD hS => kk (us σ 20 (wI μ 4 i.toNatClampNeg x)) H1 locs1 (us_s _ _ _) (fun q h => us_n h) (hp_put cx ((by decide)) ((Nat.lt_of_lt_of_le (by decide) hN)) eo (wI_o μ 4 i.toNatClampNeg x) rfl hP hD hS))
theorem lA_X13_5 {μ : OM} (eo : σ 20 = μ) (hN : 151 ≤ eN E) {own : String} (cx : Cx E p s m meth c args own cc nL ret) (hp : Hp E σ s H locs) {i : Int32} (hin : inb i 8 = true) (hdg : decode cc pc = .ok (.iaload, 1)) (kk : W p l e R s m args below meth c H locs cells slots Q (F0 m (pc + 1) ls (.int (μ.1 5 i.toNatClampNeg) :: rest))) : W p l e R s m args below meth c H locs cells slots Q (F0 m pc ls (.int i :: .ref (adr E 20 5) :: rest)) := va_iald cx.1.1 cx.1.2.1 cx.2.2.1.2.1 hp.1.1 (lin 20 5) 0 (wo_20_5 eo hN) rfl (inb_vp hin) hdg kk
theorem sA_X13_5 {μ : OM} (eo : σ 20 = μ) (hN : 151 ≤ eN E) {own : String} (cx : Cx E p s m meth c args own cc nL ret) (hp : Hp E σ s H locs) {i : Int32} {x : Int32} (hin : inb i 8 = true) (hdg : decode cc pc = .ok (.iastore, 1)) (kk : ∀ (u : SM) (H1 : Heap) (locs1 : List Loc), u 20 = wI μ 5 i.toNatClampNeg x → (∀ q, q ≠ 20 → u q = σ q) → Hp E u s H1 locs1 → W p l e R s m args below meth c H1 locs1 cells slots Q (F0 m (pc + 1) ls rest)) : W p l e R s m args below meth c H locs cells slots Q (F0 m pc ls (.int x :: .int i :: .ref (adr E 20 5) :: rest)) := va_iast cx.1.1 cx.1.2.1 cx.2.2.1.2.1 hp.1.1 hp.1.2.1 hp.2 (lin 20 5) 0 (wo_20_5 eo hN) rfl (inb_vp hin) hdg (fun H1 locs1 hP hD hS => kk (us σ 20 (wI μ 5 i.toNatClampNeg x)) H1 locs1 (us_s _ _ _) (fun q h => us_n h) (hp_put cx ((by decide)) ((Nat.lt_of_lt_of_le (by decide) hN)) eo (wI_o μ 5 i.toNatClampNeg x) rfl hP hD hS))
theorem lA_X13_6 {μ : OM} (eo : σ 20 = μ) (hN : 151 ≤ eN E) {own : String} (cx : Cx E p s m meth c args own cc nL ret) (hp : Hp E σ s H locs) {i : Int32} (hin : inb i 8 = true) (hdg : decode cc pc = .ok (.iaload, 1)) (kk : W p l e R s m args below meth c H locs cells slots Q (F0 m (pc + 1) ls (.int (μ.1 6 i.toNatClampNeg) :: rest))) : W p l e R s m args below meth c H locs cells slots Q (F0 m pc ls (.int i :: .ref (adr E 20 6) :: rest)) := va_iald cx.1.1 cx.1.2.1 cx.2.2.1.2.1 hp.1.1 (lin 20 6) 0 (wo_20_6 eo hN) rfl (inb_vp hin) hdg kk
theorem sA_X13_6 {μ : OM} (eo : σ 20 = μ) (hN : 151 ≤ eN E) {own : String} (cx : Cx E p s m meth c args own cc nL ret) (hp : Hp E σ s H locs) {i : Int32} {x : Int32} (hin : inb i 8 = true) (hdg : decode cc pc = .ok (.iastore, 1)) (kk : ∀ (u : SM) (H1 : Heap) (locs1 : List Loc), u 20 = wI μ 6 i.toNatClampNeg x → (∀ q, q ≠ 20 → u q = σ q) → Hp E u s H1 locs1 → W p l e R s m args below meth c H1 locs1 cells slots Q (F0 m (pc + 1) ls rest)) : W p l e R s m args below meth c H locs cells slots Q (F0 m pc ls (.int x :: .int i :: .ref (adr E 20 6) :: rest)) := va_iast cx.1.1 cx.1.2.1 cx.2.2.1.2.1 hp.1.1 hp.1.2.1 hp.2 (lin 20 6) 0 (wo_20_6 eo hN) rfl (inb_vp hin) hdg (fun H1 locs1 hP hD hS => kk (us σ 20 (wI μ 6 i.toNatClampNeg x)) H1 locs1 (us_s _ _ _) (fun q h => us_n h) (hp_put cx ((by decide)) ((Nat.lt_of_lt_of_le (by decide) hN)) eo (wI_o μ 6 i.toNatClampNeg x) rfl hP hD hS))
theorem lA_X13_7 {μ : OM} (eo : σ 20 = μ) (hN : 151 ≤ eN E) {own : String} (cx : Cx E p s m meth c args own cc nL ret) (hp : Hp E σ s H locs) {i : Int32} (hin : inb i 8 = true) (hdg : decode cc pc = .ok (.iaload, 1)) (kk : W p l e R s m args below meth c H locs cells slots Q (F0 m (pc + 1) ls (.int (μ.1 7 i.toNatClampNeg) :: rest))) : W p l e R s m args below meth c H locs cells slots Q (F0 m pc ls (.int i :: .ref (adr E 20 7) :: rest)) := va_iald cx.1.1 cx.1.2.1 cx.2.2.1.2.1 hp.1.1 (lin 20 7) 0 (wo_20_7 eo hN) rfl (inb_vp hin) hdg kk
theorem sA_X13_7 {μ : OM} (eo : σ 20 = μ) (hN : 151 ≤ eN E) {own : String} (cx : Cx E p s m meth c args own cc nL ret) (hp : Hp E σ s H locs) {i : Int32} {x : Int32} (hin : inb i 8 = true) (hdg : decode cc pc = .ok (.iastore, 1)) (kk : ∀ (u : SM) (H1 : Heap) (locs1 : List Loc), u 20 = wI μ 7 i.toNatClampNeg x → (∀ q, q ≠ 20 → u q = σ q) → Hp E u s H1 locs1 → W p l e R s m args below meth c H1 locs1 cells slots Q (F0 m (pc + 1) ls rest)) : W p l e R s m args below meth c H locs cells slots Q (F0 m pc ls (.int x :: .int i :: .ref (adr E 20 7) :: rest)) := va_iast cx.1.1 cx.1.2.1 cx.2.2.1.2.1 hp.1.1 hp.1.2.1 hp.2 (lin 20 7) 0 (wo_20_7 eo hN) rfl (inb_vp hin) hdg (fun H1 locs1 hP hD hS => kk (us σ 20 (wI μ 7 i.toNatClampNeg x)) H1 locs1 (us_s _ _ _) (fun q h => us_n h) (hp_put cx ((by decide)) ((Nat.lt_of_lt_of_le (by decide) hN)) eo (wI_o μ 7 i.toNatClampNeg x) rfl hP hD hS))
theorem lA_X13_8 {μ : OM} (eo : σ 20 = μ) (hN : 151 ≤ eN E) {own : String} (cx : Cx E p s m meth c args own cc nL ret) (hp : Hp E σ s H locs) {i : Int32} (hin : inb i 8 = true) (hdg : decode cc pc = .ok (.iaload, 1)) (kk : W p l e R s m args below meth c H locs cells slots Q (F0 m (pc + 1) ls (.int (μ.1 8 i.toNatClampNeg) :: rest))) : W p l e R s m args below meth c H locs cells slots Q (F0 m pc ls (.int i :: .ref (adr E 20 8) :: rest)) := va_iald cx.1.1 cx.1.2.1 cx.2.2.1.2.1 hp.1.1 (lin 20 8) 0 (wo_20_8 eo hN) rfl (inb_vp hin) hdg kk
theorem sA_X13_8 {μ : OM} (eo : σ 20 = μ) (hN : 151 ≤ eN E) {own : String} (cx : Cx E p s m meth c args own cc nL ret) (hp : Hp E σ s H locs) {i : Int32} {x : Int32} (hin : inb i 8 = true) (hdg : decode cc pc = .ok (.iastore, 1)) (kk : ∀ (u : SM) (H1 : Heap) (locs1 : List Loc), u 20 = wI μ 8 i.toNatClampNeg x → (∀ q, q ≠ 20 → u q = σ q) → Hp E u s H1 locs1 → W p l e R s m args below meth c H1 locs1 cells slots Q (F0 m (pc + 1) ls rest)) : W p l e R s m args below meth c H locs cells slots Q (F0 m pc ls (.int x :: .int i :: .ref (adr E 20 8) :: rest)) := va_iast cx.1.1 cx.1.2.1 cx.2.2.1.2.1 hp.1.1 hp.1.2.1 hp.2 (lin 20 8) 0 (wo_20_8 eo hN) rfl (inb_vp hin) hdg (fun H1 locs1 hP hD hS => kk (us σ 20 (wI μ 8 i.toNatClampNeg x)) H1 locs1 (us_s _ _ _) (fun q h => us_n h) (hp_put cx ((by decide)) ((Nat.lt_of_lt_of_le (by decide) hN)) eo (wI_o μ 8 i.toNatClampNeg x) rfl hP hD hS))
theorem lA_X13_9 {μ : OM} (eo : σ 20 = μ) (hN : 151 ≤ eN E) {own : String} (cx : Cx E p s m meth c args own cc nL ret) (hp : Hp E σ s H locs) {i : Int32} (hin : inb i 8 = true) (hdg : decode cc pc = .ok (.iaload, 1)) (kk : W p l e R s m args below meth c H locs cells slots Q (F0 m (pc + 1) ls (.int (μ.1 9 i.toNatClampNeg) :: rest))) : W p l e R s m args below meth c H locs cells slots Q (F0 m pc ls (.int i :: .ref (adr E 20 9) :: rest)) := va_iald cx.1.1 cx.1.2.1 cx.2.2.1.2.1 hp.1.1 (lin 20 9) 0 (wo_20_9 eo hN) rfl (inb_vp hin) hdg kk
theorem sA_X13_9 {μ : OM} (eo : σ 20 = μ) (hN : 151 ≤ eN E) {own : String} (cx : Cx E p s m meth c args own cc nL ret) (hp : Hp E σ s H locs) {i : Int32} {x : Int32} (hin : inb i 8 = true) (hdg : decode cc pc = .ok (.iastore, 1)) (kk : ∀ (u : SM) (H1 : Heap) (locs1 : List Loc), u 20 = wI μ 9 i.toNatClampNeg x → (∀ q, q ≠ 20 → u q = σ q) → Hp E u s H1 locs1 → W p l e R s m args below meth c H1 locs1 cells slots Q (F0 m (pc + 1) ls rest)) : W p l e R s m args below meth c H locs cells slots Q (F0 m pc ls (.int x :: .int i :: .ref (adr E 20 9) :: rest)) := va_iast cx.1.1 cx.1.2.1 cx.2.2.1.2.1 hp.1.1 hp.1.2.1 hp.2 (lin 20 9) 0 (wo_20_9 eo hN) rfl (inb_vp hin) hdg (fun H1 locs1 hP hD hS => kk (us σ 20 (wI μ 9 i.toNatClampNeg x)) H1 locs1 (us_s _ _ _) (fun q h => us_n h) (hp_put cx ((by decide)) ((Nat.lt_of_lt_of_le (by decide) hN)) eo (wI_o μ 9 i.toNatClampNeg x) rfl hP hD hS))
theorem lA_X13_10 {μ : OM} (eo : σ 20 = μ) (hN : 151 ≤ eN E) {own : String} (cx : Cx E p s m meth c args own cc nL ret) (hp : Hp E σ s H locs) {i : Int32} (hin : inb i 8 = true) (hdg : decode cc pc = .ok (.iaload, 1)) (kk : W p l e R s m args below meth c H locs cells slots Q (F0 m (pc + 1) ls (.int (μ.1 10 i.toNatClampNeg) :: rest))) : W p l e R s m args below meth c H locs cells slots Q (F0 m pc ls (.int i :: .ref (adr E 20 10) :: rest)) := va_iald cx.1.1 cx.1.2.1 cx.2.2.1.2.1 hp.1.1 (lin 20 10) 0 (wo_20_10 eo hN) rfl (inb_vp hin) hdg kk
theorem sA_X13_10 {μ : OM} (eo : σ 20 = μ) (hN : 151 ≤ eN E) {own : String} (cx : Cx E p s m meth c args own cc nL ret) (hp : Hp E σ s H locs) {i : Int32} {x : Int32} (hin : inb i 8 = true) (hdg : decode cc pc = .ok (.iastore, 1)) (kk : ∀ (u : SM) (H1 : Heap) (locs1 : List Loc), u 20 = wI μ 10 i.toNatClampNeg x → (∀ q, q ≠ 20 → u q = σ q) → Hp E u s H1 locs1 → W p l e R s m args below meth c H1 locs1 cells slots Q (F0 m (pc + 1) ls rest)) : W p l e R s m args below meth c H locs cells slots Q (F0 m pc ls (.int x :: .int i :: .ref (adr E 20 10) :: rest)) := va_iast cx.1.1 cx.1.2.1 cx.2.2.1.2.1 hp.1.1 hp.1.2.1 hp.2 (lin 20 10) 0 (wo_20_10 eo hN) rfl (inb_vp hin) hdg (fun H1 locs1 hP hD hS => kk (us σ 20 (wI μ 10 i.toNatClampNeg x)) H1 locs1 (us_s _ _ _) (fun q h => us_n h) (hp_put cx ((by decide)) ((Nat.lt_of_lt_of_le (by decide) hN)) eo (wI_o μ 10 i.toNatClampNeg x) rfl hP hD hS))
theorem lA_X13_20 {μ : OM} (eo : σ 20 = μ) (hN : 151 ≤ eN E) {own : String} (cx : Cx E p s m meth c args own cc nL ret) (hp : Hp E σ s H locs) {i : Int32} (hin : inb i 8 = true) (hdg : decode cc pc = .ok (.baload, 1)) (kk : W p l e R s m args below meth c H locs cells slots Q (F0 m (pc + 1) ls (.int (μ.1 20 i.toNatClampNeg) :: rest))) : W p l e R s m args below meth c H locs cells slots Q (F0 m pc ls (.int i :: .ref (adr E 20 20) :: rest)) := va_zald cx.1.1 cx.1.2.1 cx.2.2.1.2.1 hp.1.1 (lin 20 20) 2 (wo_20_20 eo hN) rfl (inb_vp hin) hdg kk
theorem sA_X13_20 {μ : OM} (eo : σ 20 = μ) (hN : 151 ≤ eN E) {own : String} (cx : Cx E p s m meth c args own cc nL ret) (hp : Hp E σ s H locs) {i : Int32} {x : Int32} (hx : vp_nar .boolean x = x) (hin : inb i 8 = true) (hdg : decode cc pc = .ok (.bastore, 1)) (kk : ∀ (u : SM) (H1 : Heap) (locs1 : List Loc), u 20 = wI μ 20 i.toNatClampNeg x → (∀ q, q ≠ 20 → u q = σ q) → Hp E u s H1 locs1 → W p l e R s m args below meth c H1 locs1 cells slots Q (F0 m (pc + 1) ls rest)) : W p l e R s m args below meth c H locs cells slots Q (F0 m pc ls (.int x :: .int i :: .ref (adr E 20 20) :: rest)) := va_zast cx.1.1 cx.1.2.1 cx.2.2.1.2.1 hp.1.1 hp.1.2.1 hp.2 (lin 20 20) 2 (wo_20_20 eo hN) rfl (inb_vp hin) hdg (fun H1 locs1 hP hD hS => kk (us σ 20 (wI μ 20 i.toNatClampNeg x)) H1 locs1 (us_s _ _ _) (fun q h => us_n h) (hp_put cx ((by decide)) ((Nat.lt_of_lt_of_le (by decide) hN)) eo (wI_o μ 20 i.toNatClampNeg x) rfl (by rw [hx] at hP; exact hP) (by rw [hx] at hD; exact hD) hS))
theorem rC_X1 (hN : 129 ≤ eN E) {own : String} (cx : Cx E p s m meth c args own cc nL ret) (hp : Hp E σ s H locs) : ∃ cell : Cell, H[adr E 17 0]? = some cell ∧ cell.vm.isStatics = false ∧ s.vm.findClass RX1 = some cell.cls := va_recv (q := (RX1, TX1, 5)) cx.2.2.1.2.1 hp.1.1 (ci := 0) rfl (wo_17_0 rfl hN)
theorem rC_X2_13 (hN : 129 ≤ eN E) {own : String} (cx : Cx E p s m meth c args own cc nL ret) (hp : Hp E σ s H locs) : ∃ cell : Cell, H[adr E 13 0]? = some cell ∧ cell.vm.isStatics = false ∧ s.vm.findClass RX2 = some cell.cls := va_recv (q := (RX2, TX2, 2)) cx.2.2.1.2.1 hp.1.1 (ci := 1) rfl (wo_13_0 rfl hN)
theorem rC_X2_14 (hN : 129 ≤ eN E) {own : String} (cx : Cx E p s m meth c args own cc nL ret) (hp : Hp E σ s H locs) : ∃ cell : Cell, H[adr E 14 0]? = some cell ∧ cell.vm.isStatics = false ∧ s.vm.findClass RX2 = some cell.cls := va_recv (q := (RX2, TX2, 2)) cx.2.2.1.2.1 hp.1.1 (ci := 1) rfl (wo_14_0 rfl hN)
theorem rC_X4 (hN : 129 ≤ eN E) {own : String} (cx : Cx E p s m meth c args own cc nL ret) (hp : Hp E σ s H locs) : ∃ cell : Cell, H[adr E 16 0]? = some cell ∧ cell.vm.isStatics = false ∧ s.vm.findClass RX4 = some cell.cls := va_recv (q := (RX4, TX4, 3)) cx.2.2.1.2.1 hp.1.1 (ci := 2) rfl (wo_16_0 rfl hN)
theorem rC_X5 {o : Nat} (ho : o < 11) (hN : 129 ≤ eN E) {own : String} (cx : Cx E p s m meth c args own cc nL ret) (hp : Hp E σ s H locs) : ∃ cell : Cell, H[adr E o 0]? = some cell ∧ cell.vm.isStatics = false ∧ s.vm.findClass RX5 = some cell.cls := va_recv (q := (RX5, TX5, 18)) cx.2.2.1.2.1 hp.1.1 (ci := 3) rfl (wm_0 ho rfl hN)
theorem rC_X6 (hN : 129 ≤ eN E) {own : String} (cx : Cx E p s m meth c args own cc nL ret) (hp : Hp E σ s H locs) : ∃ cell : Cell, H[adr E 18 0]? = some cell ∧ cell.vm.isStatics = false ∧ s.vm.findClass RX6 = some cell.cls := va_recv (q := (RX6, TX6, 3)) cx.2.2.1.2.1 hp.1.1 (ci := 4) rfl (wo_18_0 rfl hN)
theorem rC_X7 (hN : 129 ≤ eN E) {own : String} (cx : Cx E p s m meth c args own cc nL ret) (hp : Hp E σ s H locs) : ∃ cell : Cell, H[adr E 11 0]? = some cell ∧ cell.vm.isStatics = false ∧ s.vm.findClass RX7 = some cell.cls := va_recv (q := (RX7, TX7, 3)) cx.2.2.1.2.1 hp.1.1 (ci := 5) rfl (wo_11_0 rfl hN)
theorem rC_X8 (hN : 129 ≤ eN E) {own : String} (cx : Cx E p s m meth c args own cc nL ret) (hp : Hp E σ s H locs) : ∃ cell : Cell, H[adr E 15 0]? = some cell ∧ cell.vm.isStatics = false ∧ s.vm.findClass RX8 = some cell.cls := va_recv (q := (RX8, TX8, 4)) cx.2.2.1.2.1 hp.1.1 (ci := 6) rfl (wo_15_0 rfl hN)
theorem rC_X10 (hN : 129 ≤ eN E) {own : String} (cx : Cx E p s m meth c args own cc nL ret) (hp : Hp E σ s H locs) : ∃ cell : Cell, H[adr E 12 0]? = some cell ∧ cell.vm.isStatics = false ∧ s.vm.findClass RX10 = some cell.cls := va_recv (q := (RX10, TX10, 6)) cx.2.2.1.2.1 hp.1.1 (ci := 7) rfl (wo_12_0 rfl hN)
theorem rC_X12 (hN : 130 ≤ eN E) {own : String} (cx : Cx E p s m meth c args own cc nL ret) (hp : Hp E σ s H locs) : ∃ cell : Cell, H[adr E 19 0]? = some cell ∧ cell.vm.isStatics = false ∧ s.vm.findClass RX12 = some cell.cls := va_recv (q := (RX12, TX12, 10)) cx.2.2.1.2.1 hp.1.1 (ci := 8) rfl (wo_19_0 rfl hN)
theorem rC_X13 (hN : 151 ≤ eN E) {own : String} (cx : Cx E p s m meth c args own cc nL ret) (hp : Hp E σ s H locs) : ∃ cell : Cell, H[adr E 20 0]? = some cell ∧ cell.vm.isStatics = false ∧ s.vm.findClass RX13 = some cell.cls := va_recv (q := (RX13, TX13, 18)) cx.2.2.1.2.1 hp.1.1 (ci := 9) rfl (wo_20_0 rfl hN)
theorem lA_X13_11 (hN : 151 ≤ eN E) {own : String} (cx : Cx E p s m meth c args own cc nL ret) (hp : Hp E σ s H locs) {i : Int32} (hin : inb i 8 = true) (hdg : decode cc pc = .ok (.aaload, 1)) (kk : W p l e R s m args below meth c H locs cells slots Q (F0 m (pc + 1) ls (.ref (adr E 20 (12 + i.toNatClampNeg)) :: rest))) : W p l e R s m args below meth c H locs cells slots Q (F0 m pc ls (.int i :: .ref (adr E 20 11) :: rest)) :=
  va_aldr cx.1.1 cx.1.2.1 cx.2.2.1.2.1 hp.1.1 (lin 20 11) 6 (ty := .array .int) rfl (wo_20_11 (μ := σ 20) rfl hN) rfl (inb_vp hin) (by rw [if_pos (inb_lt0 hin)]; rfl) hdg kk
theorem lA_X13_r {r : Nat} (hr : r < 8) {μ : OM} (eo : σ 20 = μ) (hN : 151 ≤ eN E) {own : String} (cx : Cx E p s m meth c args own cc nL ret) (hp : Hp E σ s H locs) {i : Int32} (hin : inb i 8 = true) (hdg : decode cc pc = .ok (.iaload, 1)) (kk : W p l e R s m args below meth c H locs cells slots Q (F0 m (pc + 1) ls (.int (μ.1 (12 + r) i.toNatClampNeg) :: rest))) : W p l e R s m args below meth c H locs cells slots Q (F0 m pc ls (.int i :: .ref (adr E 20 (12 + r)) :: rest)) :=
  va_iald cx.1.1 cx.1.2.1 cx.2.2.1.2.1 hp.1.1 (lin 20 (12 + r)) 0 (wo_R eo hN hr) rfl (inb_vp hin) hdg kk
theorem sA_X13_r {r : Nat} (hr : r < 8) {μ : OM} (eo : σ 20 = μ) (hN : 151 ≤ eN E) {own : String} (cx : Cx E p s m meth c args own cc nL ret) (hp : Hp E σ s H locs) {i : Int32} {x : Int32} (hin : inb i 8 = true) (hdg : decode cc pc = .ok (.iastore, 1)) (kk : ∀ (u : SM) (H1 : Heap) (locs1 : List Loc), u 20 = wI μ (12 + r) i.toNatClampNeg x → (∀ q, q ≠ 20 → u q = σ q) → Hp E u s H1 locs1 → W p l e R s m args below meth c H1 locs1 cells slots Q (F0 m (pc + 1) ls rest)) : W p l e R s m args below meth c H locs cells slots Q (F0 m pc ls (.int x :: .int i :: .ref (adr E 20 (12 + r)) :: rest)) :=
  va_iast cx.1.1 cx.1.2.1 cx.2.2.1.2.1 hp.1.1 hp.1.2.1 hp.2 (lin 20 (12 + r)) 0 (wo_R eo hN hr) rfl (inb_vp hin) hdg (fun H1 locs1 hP hD hS => kk (us σ 20 (wI μ (12 + r) i.toNatClampNeg x)) H1 locs1 (us_s _ _ _) (fun q h => us_n h) (hp_put cx (dec_R hr) (lin_R hr hN) eo (wI_o μ (12 + r) i.toNatClampNeg x) (((cel_R hr _).trans (by rw [aI, show (wI μ (12 + r) i.toNatClampNeg x).1 (12 + r) = upd (μ.1 (12 + r)) i.toNatClampNeg x from if_pos rfl])) ) hP hD hS))
end ROWS
end
section
section CALLS
variable {p : Program} {l : Launch} {e : Env} {R : Room} {s : State} {m : MethodId} {args : Array Value} {below : List Frame} {meth : Method} {c : Code} {H : Heap} {locs : List Loc} {cells slots : Nat} {Q : State → Prop}
variable {E : Ev} {σ : SM} {cc : ByteArray} {nL pc : Nat} {ret : Option FieldType} {ls : Array Slot} {rest : List Value}
theorem cw_X12_11 (cx : Cx E p s m meth c args RX12 cc nL ret) {rm : Room} {mc ms : Nat} (hc : rm.cells = mc) (hs : rm.slots = ms) (hR : rm.frames + 1 ≤ R.frames ∧ 8 + (1 + 11) + rm.locals ≤ R.locals) : va_CN R s args RX12 11 yX2_init RX12 cX2_init 1 none (wC yX2_init cX2_init 1 none) rm mc ms 0 ∧ yX2_init.name = "<init>" ∧ (Cond.instanceMethod yX2_init).before args s = true := ⟨va_cnB 0 cx.1.2.2.2.2 (gd_C qC_X2_init) rfl hc hs (cx.2.2.1.2.2.1 _ qM_X12_11) (cx.1.2.2.2.2 _ qN_X2) (by decide +kernel) hR, rfl, cx.1.2.2.2.2 _ qI_X2_init⟩
theorem cw_X12_18 (cx : Cx E p s m meth c args RX12 cc nL ret) {rm : Room} {mc ms : Nat} (hc : rm.cells = mc) (hs : rm.slots = ms) (hR : rm.frames + 1 ≤ R.frames ∧ 8 + (1 + 11) + rm.locals ≤ R.locals) : va_CN R s args RX12 18 yX8_init RX12 cX8_init 1 none (wC yX8_init cX8_init 1 none) rm mc ms 0 ∧ yX8_init.name = "<init>" ∧ (Cond.instanceMethod yX8_init).before args s = true := ⟨va_cnB 0 cx.1.2.2.2.2 (gd_C qC_X8_init) rfl hc hs (cx.2.2.1.2.2.1 _ qM_X12_18) (cx.1.2.2.2.2 _ qN_X8) (by decide +kernel) hR, rfl, cx.1.2.2.2.2 _ qI_X8_init⟩
theorem cw_X12_25 (cx : Cx E p s m meth c args RX12 cc nL ret) {rm : Room} {mc ms : Nat} (hc : rm.cells = mc) (hs : rm.slots = ms) (hR : rm.frames + 1 ≤ R.frames ∧ 8 + (1 + 11) + rm.locals ≤ R.locals) : va_CN R s args RX12 25 yX5_init RX12 cX5_init 1 none (wC yX5_init cX5_init 1 none) rm mc ms 0 ∧ yX5_init.name = "<init>" ∧ (Cond.instanceMethod yX5_init).before args s = true := ⟨va_cnB 0 cx.1.2.2.2.2 (gd_C qC_X5_init) rfl hc hs (cx.2.2.1.2.2.1 _ qM_X12_25) (cx.1.2.2.2.2 _ qN_X5) (by decide +kernel) hR, rfl, cx.1.2.2.2.2 _ qI_X5_init⟩
theorem cw_X12_39 (cx : Cx E p s m meth c args RX12 cc nL ret) {rm : Room} {mc ms : Nat} (hc : rm.cells = mc) (hs : rm.slots = ms) (hR : rm.frames + 1 ≤ R.frames ∧ 8 + (2 + 11) + rm.locals ≤ R.locals) : CallB R s args RX12 39 yX4_init cX4_init 2 none (wC yX4_init cX4_init 2 none) rm mc ms 0 ∧ yX4_init.name = "<init>" ∧ (Cond.instanceMethod yX4_init).before args s = true := cwI 0 cx.1.2.2.2.2 (gd_C qC_X4_init) rfl hc hs (cx.1.2.2.2.2 _ qN_X4) (cx.1.2.2.2.2 _ qM_X12_39) (cx.1.2.2.2.2 _ qI_X4_init) rfl (by decide +kernel) hR
theorem cw_X12_46 (cx : Cx E p s m meth c args RX12 cc nL ret) {rm : Room} {mc ms : Nat} (hc : rm.cells = mc) (hs : rm.slots = ms) (hR : rm.frames + 1 ≤ R.frames ∧ 8 + (1 + 11) + rm.locals ≤ R.locals) : va_CN R s args RX12 46 yX1_init RX12 cX1_init 1 none (wC yX1_init cX1_init 1 none) rm mc ms 0 ∧ yX1_init.name = "<init>" ∧ (Cond.instanceMethod yX1_init).before args s = true := ⟨va_cnB 0 cx.1.2.2.2.2 (gd_C qC_X1_init) rfl hc hs (cx.2.2.1.2.2.1 _ qM_X12_46) (cx.1.2.2.2.2 _ qN_X1) (by decide +kernel) hR, rfl, cx.1.2.2.2.2 _ qI_X1_init⟩
theorem cw_X12_53 (cx : Cx E p s m meth c args RX12 cc nL ret) {rm : Room} {mc ms : Nat} (hc : rm.cells = mc) (hs : rm.slots = ms) (hR : rm.frames + 1 ≤ R.frames ∧ 8 + (1 + 11) + rm.locals ≤ R.locals) : va_CN R s args RX12 53 yX6_init RX12 cX6_init 1 none (wC yX6_init cX6_init 1 none) rm mc ms 0 ∧ yX6_init.name = "<init>" ∧ (Cond.instanceMethod yX6_init).before args s = true := ⟨va_cnB 0 cx.1.2.2.2.2 (gd_C qC_X6_init) rfl hc hs (cx.2.2.1.2.2.1 _ qM_X12_53) (cx.1.2.2.2.2 _ qN_X6) (by decide +kernel) hR, rfl, cx.1.2.2.2.2 _ qI_X6_init⟩
theorem cw_X12_60 (cx : Cx E p s m meth c args RX12 cc nL ret) {rm : Room} {mc ms : Nat} (hc : rm.cells = mc) (hs : rm.slots = ms) (hR : rm.frames + 1 ≤ R.frames ∧ 8 + (1 + 11) + rm.locals ≤ R.locals) : va_CN R s args RX12 60 yX7_init RX12 cX7_init 1 none (wC yX7_init cX7_init 1 none) rm mc ms 0 ∧ yX7_init.name = "<init>" ∧ (Cond.instanceMethod yX7_init).before args s = true := ⟨va_cnB 0 cx.1.2.2.2.2 (gd_C qC_X7_init) rfl hc hs (cx.2.2.1.2.2.1 _ qM_X12_60) (cx.1.2.2.2.2 _ qN_X7) (by decide +kernel) hR, rfl, cx.1.2.2.2.2 _ qI_X7_init⟩
theorem cw_X12_63 (cx : Cx E p s m meth c args RX12 cc nL ret) {rm : Room} {mc ms : Nat} (hc : rm.cells = mc) (hs : rm.slots = ms) (hR : rm.frames + 1 ≤ R.frames ∧ 8 + (1 + 11) + rm.locals ≤ R.locals) : CallW R s args RX12 RJ0 63 yJ0_length_8abf5 cJ0_length_8abf5 1 (some .int) (wC yJ0_length_8abf5 cJ0_length_8abf5 1 (some .int)) rm mc ms 0 := cwV 0 cx.1.2.2.2.2 (gd_V qM_X12_63 qI_J0_length_8abf5 qS_J0_length_8abf5 qN_J0 qC_J0_length_8abf5) rfl hc hs (by decide +kernel) hR
theorem cw_X12_78 (cx : Cx E p s m meth c args RX12 cc nL ret) {rm : Room} {mc ms : Nat} (hc : rm.cells = mc) (hs : rm.slots = ms) (hR : rm.frames + 1 ≤ R.frames ∧ 8 + (2 + 11) + rm.locals ≤ R.locals) : CallW R s args RX12 RJ0 78 yJ0_charAt_5068e cJ0_charAt_5068e 2 (some .char) (wC yJ0_charAt_5068e cJ0_charAt_5068e 2 (some .char)) rm mc ms 1 := cwV 1 cx.1.2.2.2.2 (gd_V qM_X12_78 qI_J0_charAt_5068e qS_J0_charAt_5068e qN_J0 qC_J0_charAt_5068e) rfl hc hs (by decide +kernel) hR
theorem cw_X12_82 (cx : Cx E p s m meth c args RX12 cc nL ret) {rm : Room} {mc ms : Nat} (hc : rm.cells = mc) (hs : rm.slots = ms) (hR : rm.frames + 1 ≤ R.frames ∧ 8 + (2 + 11) + rm.locals ≤ R.locals) : CallW R s args RX12 RX2 82 yX2_add cX2_add 2 none (wC yX2_add cX2_add 2 none) rm mc ms 1 := cwV 1 cx.1.2.2.2.2 (gd_V qM_X12_82 qI_X2_add qS_X2_add qN_X2 qC_X2_add) rfl hc hs (by decide +kernel) hR
theorem cw_X12_86 (cx : Cx E p s m meth c args RX12 cc nL ret) {rm : Room} {mc ms : Nat} (hc : rm.cells = mc) (hs : rm.slots = ms) (hR : rm.frames + 1 ≤ R.frames ∧ 8 + (2 + 11) + rm.locals ≤ R.locals) : CallB R s args RX12 86 yX9_read cX9_read 2 (some .boolean) (wC yX9_read cX9_read 2 (some .boolean)) rm mc ms 2 ∧ (Cond.static yX9_read).before args s = true := va_cwS 2 cx.1.2.2.2.2 (gd_S qM_X12_86 qT_X9_read qN_X9 qC_X9_read) rfl hc hs (by decide +kernel) hR
theorem cw_X12_92 (cx : Cx E p s m meth c args RX12 cc nL ret) {rm : Room} {mc ms : Nat} (hc : rm.cells = mc) (hs : rm.slots = ms) (hR : rm.frames + 1 ≤ R.frames ∧ 8 + (2 + 11) + rm.locals ≤ R.locals) : CallW R s args RX12 RX2 92 yX2_cut cX2_cut 2 none (wC yX2_cut cX2_cut 2 none) rm mc ms 1 := cwV 1 cx.1.2.2.2.2 (gd_V qM_X12_92 qI_X2_cut qS_X2_cut qN_X2 qC_X2_cut) rfl hc hs (by decide +kernel) hR
theorem cw_X12_112 (cx : Cx E p s m meth c args RX12 cc nL ret) {rm : Room} {mc ms : Nat} (hc : rm.cells = mc) (hs : rm.slots = ms) (hR : rm.frames + 1 ≤ R.frames ∧ 8 + (3 + 11) + rm.locals ≤ R.locals) : CallW R s args RX12 RX2 112 yX2_addWord cX2_addWord 3 none (wC yX2_addWord cX2_addWord 3 none) rm mc ms 1 := cwV 1 cx.1.2.2.2.2 (gd_V qM_X12_112 qI_X2_addWord qS_X2_addWord qN_X2 qC_X2_addWord) rfl hc hs (by decide +kernel) hR
theorem cw_X12_120 (cx : Cx E p s m meth c args RX12 cc nL ret) {rm : Room} {mc ms : Nat} (hc : rm.cells = mc) (hs : rm.slots = ms) (hR : rm.frames + 1 ≤ R.frames ∧ 8 + (3 + 11) + rm.locals ≤ R.locals) : CallB R s args RX12 120 yX5_copy cX5_copy 3 none (wC yX5_copy cX5_copy 3 none) rm mc ms 2 ∧ (Cond.static yX5_copy).before args s = true := va_cwS 2 cx.1.2.2.2.2 (gd_S qM_X12_120 qT_X5_copy qN_X5 qC_X5_copy) rfl hc hs (by decide +kernel) hR
theorem cw_X12_124 (cx : Cx E p s m meth c args RX12 cc nL ret) {rm : Room} {mc ms : Nat} (hc : rm.cells = mc) (hs : rm.slots = ms) (hR : rm.frames + 1 ≤ R.frames ∧ 8 + (1 + 11) + rm.locals ≤ R.locals) : CallW R s args RX12 RX4 124 yX4_clear cX4_clear 1 none (wC yX4_clear cX4_clear 1 none) rm mc ms 0 := cwV 0 cx.1.2.2.2.2 (gd_V qM_X12_124 qI_X4_clear qS_X4_clear qN_X4 qC_X4_clear) rfl hc hs (by decide +kernel) hR
theorem cw_X12_131 (cx : Cx E p s m meth c args RX12 cc nL ret) {rm : Room} {mc ms : Nat} (hc : rm.cells = mc) (hs : rm.slots = ms) (hR : rm.frames + 1 ≤ R.frames ∧ 8 + (2 + 11) + rm.locals ≤ R.locals) : CallW R s args RX12 RX4 131 yX4_record cX4_record 2 none (wC yX4_record cX4_record 2 none) rm mc ms 1 := cwV 1 cx.1.2.2.2.2 (gd_V qM_X12_131 qI_X4_record qS_X4_record qN_X4 qC_X4_record) rfl hc hs (by decide +kernel) hR
theorem cw_X12_151 (cx : Cx E p s m meth c args RX12 cc nL ret) {rm : Room} {mc ms : Nat} (hc : rm.cells = mc) (hs : rm.slots = ms) (hR : rm.frames + 1 ≤ R.frames ∧ 8 + (2 + 11) + rm.locals ≤ R.locals) : CallW R s args RX12 RX12 151 yX12_requireSeller cX12_requireSeller 2 none (wC yX12_requireSeller cX12_requireSeller 2 none) rm mc ms 1 := cwV 1 cx.1.2.2.2.2 (gd_V qM_X12_151 qI_X12_requireSeller qS_X12_requireSeller qN_X12 qC_X12_requireSeller) rfl hc hs (by decide +kernel) hR
theorem cw_X12_154 (cx : Cx E p s m meth c args RX12 cc nL ret) {rm : Room} {mc ms : Nat} (hc : rm.cells = mc) (hs : rm.slots = ms) (hR : rm.frames + 1 ≤ R.frames ∧ 8 + (2 + 11) + rm.locals ≤ R.locals) : CallW R s args RX12 RX5 154 yX5_coinsOf cX5_coinsOf 2 (some .int) (wC yX5_coinsOf cX5_coinsOf 2 (some .int)) rm mc ms 1 := cwV 1 cx.1.2.2.2.2 (gd_V qM_X12_154 qI_X5_coinsOf qS_X5_coinsOf qN_X5 qC_X5_coinsOf) rfl hc hs (by decide +kernel) hR
theorem cw_X12_161 (cx : Cx E p s m meth c args RX12 cc nL ret) {rm : Room} {mc ms : Nat} (hc : rm.cells = mc) (hs : rm.slots = ms) (hR : rm.frames + 1 ≤ R.frames ∧ 8 + (2 + 11) + rm.locals ≤ R.locals) : CallW R s args RX12 RX12 161 yX12_requireStall cX12_requireStall 2 none (wC yX12_requireStall cX12_requireStall 2 none) rm mc ms 1 := cwV 1 cx.1.2.2.2.2 (gd_V qM_X12_161 qI_X12_requireStall qS_X12_requireStall qN_X12 qC_X12_requireStall) rfl hc hs (by decide +kernel) hR
theorem cw_X12_164 (cx : Cx E p s m meth c args RX12 cc nL ret) {rm : Room} {mc ms : Nat} (hc : rm.cells = mc) (hs : rm.slots = ms) (hR : rm.frames + 1 ≤ R.frames ∧ 8 + (2 + 11) + rm.locals ≤ R.locals) : CallW R s args RX12 RX5 164 yX5_priceOf cX5_priceOf 2 (some .int) (wC yX5_priceOf cX5_priceOf 2 (some .int)) rm mc ms 1 := cwV 1 cx.1.2.2.2.2 (gd_V qM_X12_164 qI_X5_priceOf qS_X5_priceOf qN_X5 qC_X5_priceOf) rfl hc hs (by decide +kernel) hR
theorem cw_X12_167 (cx : Cx E p s m meth c args RX12 cc nL ret) {rm : Room} {mc ms : Nat} (hc : rm.cells = mc) (hs : rm.slots = ms) (hR : rm.frames + 1 ≤ R.frames ∧ 8 + (2 + 11) + rm.locals ≤ R.locals) : CallW R s args RX12 RX5 167 yX5_heldBy cX5_heldBy 2 (some .int) (wC yX5_heldBy cX5_heldBy 2 (some .int)) rm mc ms 1 := cwV 1 cx.1.2.2.2.2 (gd_V qM_X12_167 qI_X5_heldBy qS_X5_heldBy qN_X5 qC_X5_heldBy) rfl hc hs (by decide +kernel) hR
theorem cw_X12_170 (cx : Cx E p s m meth c args RX12 cc nL ret) {rm : Room} {mc ms : Nat} (hc : rm.cells = mc) (hs : rm.slots = ms) (hR : rm.frames + 1 ≤ R.frames ∧ 8 + (3 + 11) + rm.locals ≤ R.locals) : CallW R s args RX12 RX5 170 yX5_holderOf cX5_holderOf 3 (some .int) (wC yX5_holderOf cX5_holderOf 3 (some .int)) rm mc ms 1 := cwV 1 cx.1.2.2.2.2 (gd_V qM_X12_170 qI_X5_holderOf qS_X5_holderOf qN_X5 qC_X5_holderOf) rfl hc hs (by decide +kernel) hR
theorem cw_X12_173 (cx : Cx E p s m meth c args RX12 cc nL ret) {rm : Room} {mc ms : Nat} (hc : rm.cells = mc) (hs : rm.slots = ms) (hR : rm.frames + 1 ≤ R.frames ∧ 8 + (2 + 11) + rm.locals ≤ R.locals) : CallW R s args RX12 RX5 173 yX5_turnOf cX5_turnOf 2 (some .int) (wC yX5_turnOf cX5_turnOf 2 (some .int)) rm mc ms 1 := cwV 1 cx.1.2.2.2.2 (gd_V qM_X12_173 qI_X5_turnOf qS_X5_turnOf qN_X5 qC_X5_turnOf) rfl hc hs (by decide +kernel) hR
theorem cw_X12_176 (cx : Cx E p s m meth c args RX12 cc nL ret) {rm : Room} {mc ms : Nat} (hc : rm.cells = mc) (hs : rm.slots = ms) (hR : rm.frames + 1 ≤ R.frames ∧ 8 + (2 + 11) + rm.locals ≤ R.locals) : CallW R s args RX12 RX5 176 yX5_wishesOf cX5_wishesOf 2 (some .int) (wC yX5_wishesOf cX5_wishesOf 2 (some .int)) rm mc ms 1 := cwV 1 cx.1.2.2.2.2 (gd_V qM_X12_176 qI_X5_wishesOf qS_X5_wishesOf qN_X5 qC_X5_wishesOf) rfl hc hs (by decide +kernel) hR
theorem cw_X12_184 (cx : Cx E p s m meth c args RX12 cc nL ret) {rm : Room} {mc ms : Nat} (hc : rm.cells = mc) (hs : rm.slots = ms) (hR : rm.frames + 1 ≤ R.frames ∧ 8 + (3 + 11) + rm.locals ≤ R.locals) : CallW R s args RX12 RX5 184 yX5_wish cX5_wish 3 (some .int) (wC yX5_wish cX5_wish 3 (some .int)) rm mc ms 2 := cwV 2 cx.1.2.2.2.2 (gd_V qM_X12_184 qI_X5_wish qS_X5_wish qN_X5 qC_X5_wish) rfl hc hs (by decide +kernel) hR
theorem cw_X12_188 (cx : Cx E p s m meth c args RX12 cc nL ret) {rm : Room} {mc ms : Nat} (hc : rm.cells = mc) (hs : rm.slots = ms) (hR : rm.frames + 1 ≤ R.frames ∧ 8 + (4 + 11) + rm.locals ≤ R.locals) : CallW R s args RX12 RX5 188 yX5_rankIn cX5_rankIn 4 (some .int) (wC yX5_rankIn cX5_rankIn 4 (some .int)) rm mc ms 2 := cwV 2 cx.1.2.2.2.2 (gd_V qM_X12_188 qI_X5_rankIn qS_X5_rankIn qN_X5 qC_X5_rankIn) rfl hc hs (by decide +kernel) hR
theorem cw_X12_232 (cx : Cx E p s m meth c args RX12 cc nL ret) {rm : Room} {mc ms : Nat} (hc : rm.cells = mc) (hs : rm.slots = ms) (hR : rm.frames + 1 ≤ R.frames ∧ 8 + (3 + 11) + rm.locals ≤ R.locals) : CallB R s args RX12 232 yX3_bothGain cX3_bothGain 3 (some .boolean) (wC yX3_bothGain cX3_bothGain 3 (some .boolean)) rm mc ms 3 ∧ (Cond.static yX3_bothGain).before args s = true := va_cwS 3 cx.1.2.2.2.2 (gd_S qM_X12_232 qT_X3_bothGain qN_X3 qC_X3_bothGain) rfl hc hs (by decide +kernel) hR
theorem cw_X12_246 (cx : Cx E p s m meth c args RX12 cc nL ret) {rm : Room} {mc ms : Nat} (hc : rm.cells = mc) (hs : rm.slots = ms) (hR : rm.frames + 1 ≤ R.frames ∧ 8 + (3 + 11) + rm.locals ≤ R.locals) : CallB R s args RX12 246 yX3_canImprove cX3_canImprove 3 (some .boolean) (wC yX3_canImprove cX3_canImprove 3 (some .boolean)) rm mc ms 1 ∧ (Cond.static yX3_canImprove).before args s = true := va_cwS 1 cx.1.2.2.2.2 (gd_S qM_X12_246 qT_X3_canImprove qN_X3 qC_X3_canImprove) rfl hc hs (by decide +kernel) hR
theorem cw_X12_250 (cx : Cx E p s m meth c args RX12 cc nL ret) {rm : Room} {mc ms : Nat} (hc : rm.cells = mc) (hs : rm.slots = ms) (hR : rm.frames + 1 ≤ R.frames ∧ 8 + (3 + 11) + rm.locals ≤ R.locals) : CallW R s args RX12 RX1 250 yX1_decide cX1_decide 3 none (wC yX1_decide cX1_decide 3 none) rm mc ms 1 := cwV 1 cx.1.2.2.2.2 (gd_V qM_X12_250 qI_X1_decide qS_X1_decide qN_X1 qC_X1_decide) rfl hc hs (by decide +kernel) hR
theorem cw_X12_253 (cx : Cx E p s m meth c args RX12 cc nL ret) {rm : Room} {mc ms : Nat} (hc : rm.cells = mc) (hs : rm.slots = ms) (hR : rm.frames + 1 ≤ R.frames ∧ 8 + (2 + 11) + rm.locals ≤ R.locals) : CallW R s args RX12 RX1 253 yX1_givenTo cX1_givenTo 2 (some .int) (wC yX1_givenTo cX1_givenTo 2 (some .int)) rm mc ms 1 := cwV 1 cx.1.2.2.2.2 (gd_V qM_X12_253 qI_X1_givenTo qS_X1_givenTo qN_X1 qC_X1_givenTo) rfl hc hs (by decide +kernel) hR
theorem cw_X12_256 (cx : Cx E p s m meth c args RX12 cc nL ret) {rm : Room} {mc ms : Nat} (hc : rm.cells = mc) (hs : rm.slots = ms) (hR : rm.frames + 1 ≤ R.frames ∧ 8 + (5 + 11) + rm.locals ≤ R.locals) : CallW R s args RX12 RX5 256 yX5_moveTurn cX5_moveTurn 5 none (wC yX5_moveTurn cX5_moveTurn 5 none) rm mc ms 2 := cwV 2 cx.1.2.2.2.2 (gd_V qM_X12_256 qI_X5_moveTurn qS_X5_moveTurn qN_X5 qC_X5_moveTurn) rfl hc hs (by decide +kernel) hR
theorem cw_X12_260 (cx : Cx E p s m meth c args RX12 cc nL ret) {rm : Room} {mc ms : Nat} (hc : rm.cells = mc) (hs : rm.slots = ms) (hR : rm.frames + 1 ≤ R.frames ∧ 8 + (6 + 11) + rm.locals ≤ R.locals) : CallW R s args RX12 RX5 260 yX5_wishFirst cX5_wishFirst 6 none (wC yX5_wishFirst cX5_wishFirst 6 none) rm mc ms 2 := cwV 2 cx.1.2.2.2.2 (gd_V qM_X12_260 qI_X5_wishFirst qS_X5_wishFirst qN_X5 qC_X5_wishFirst) rfl hc hs (by decide +kernel) hR
theorem cw_X12_292 (cx : Cx E p s m meth c args RX12 cc nL ret) {rm : Room} {mc ms : Nat} (hc : rm.cells = mc) (hs : rm.slots = ms) (hR : rm.frames + 1 ≤ R.frames ∧ 8 + (3 + 11) + rm.locals ≤ R.locals) : CallW R s args RX12 RX5 292 yX5_mayMoveInto cX5_mayMoveInto 3 (some .boolean) (wC yX5_mayMoveInto cX5_mayMoveInto 3 (some .boolean)) rm mc ms 2 := cwV 2 cx.1.2.2.2.2 (gd_V qM_X12_292 qI_X5_mayMoveInto qS_X5_mayMoveInto qN_X5 qC_X5_mayMoveInto) rfl hc hs (by decide +kernel) hR
theorem cw_X12_298 (cx : Cx E p s m meth c args RX12 cc nL ret) {rm : Room} {mc ms : Nat} (hc : rm.cells = mc) (hs : rm.slots = ms) (hR : rm.frames + 1 ≤ R.frames ∧ 8 + (3 + 11) + rm.locals ≤ R.locals) : CallW R s args RX12 RX5 298 yX5_seat cX5_seat 3 none (wC yX5_seat cX5_seat 3 none) rm mc ms 2 := cwV 2 cx.1.2.2.2.2 (gd_V qM_X12_298 qI_X5_seat qS_X5_seat qN_X5 qC_X5_seat) rfl hc hs (by decide +kernel) hR
theorem cw_X12_305 (cx : Cx E p s m meth c args RX12 cc nL ret) {rm : Room} {mc ms : Nat} (hc : rm.cells = mc) (hs : rm.slots = ms) (hR : rm.frames + 1 ≤ R.frames ∧ 8 + (4 + 11) + rm.locals ≤ R.locals) : CallW R s args RX12 RX5 305 yX5_exchange cX5_exchange 4 none (wC yX5_exchange cX5_exchange 4 none) rm mc ms 2 := cwV 2 cx.1.2.2.2.2 (gd_V qM_X12_305 qI_X5_exchange qS_X5_exchange qN_X5 qC_X5_exchange) rfl hc hs (by decide +kernel) hR
theorem cw_X12_308 (cx : Cx E p s m meth c args RX12 cc nL ret) {rm : Room} {mc ms : Nat} (hc : rm.cells = mc) (hs : rm.slots = ms) (hR : rm.frames + 1 ≤ R.frames ∧ 8 + (5 + 11) + rm.locals ≤ R.locals) : CallW R s args RX12 RX1 308 yX1_applyTo cX1_applyTo 5 (some .int) (wC yX1_applyTo cX1_applyTo 5 (some .int)) rm mc ms 1 := cwV 1 cx.1.2.2.2.2 (gd_V qM_X12_308 qI_X1_applyTo qS_X1_applyTo qN_X1 qC_X1_applyTo) rfl hc hs (by decide +kernel) hR
theorem cw_X12_315 (cx : Cx E p s m meth c args RX12 cc nL ret) {rm : Room} {mc ms : Nat} (hc : rm.cells = mc) (hs : rm.slots = ms) (hR : rm.frames + 1 ≤ R.frames ∧ 8 + (7 + 11) + rm.locals ≤ R.locals) : CallW R s args RX12 RX5 315 yX5_dropWish cX5_dropWish 7 none (wC yX5_dropWish cX5_dropWish 7 none) rm mc ms 2 := cwV 2 cx.1.2.2.2.2 (gd_V qM_X12_315 qI_X5_dropWish qS_X5_dropWish qN_X5 qC_X5_dropWish) rfl hc hs (by decide +kernel) hR
theorem cw_X12_320 (cx : Cx E p s m meth c args RX12 cc nL ret) {rm : Room} {mc ms : Nat} (hc : rm.cells = mc) (hs : rm.slots = ms) (hR : rm.frames + 1 ≤ R.frames ∧ 8 + (3 + 11) + rm.locals ≤ R.locals) : CallW R s args RX12 RX5 320 yX5_price cX5_price 3 none (wC yX5_price cX5_price 3 none) rm mc ms 2 := cwV 2 cx.1.2.2.2.2 (gd_V qM_X12_320 qI_X5_price qS_X5_price qN_X5 qC_X5_price) rfl hc hs (by decide +kernel) hR
theorem cw_X12_330 (cx : Cx E p s m meth c args RX12 cc nL ret) {rm : Room} {mc ms : Nat} (hc : rm.cells = mc) (hs : rm.slots = ms) (hR : rm.frames + 1 ≤ R.frames ∧ 8 + (2 + 11) + rm.locals ≤ R.locals) : CallW R s args RX12 RX5 330 yX5_mayPass cX5_mayPass 2 (some .boolean) (wC yX5_mayPass cX5_mayPass 2 (some .boolean)) rm mc ms 1 := cwV 1 cx.1.2.2.2.2 (gd_V qM_X12_330 qI_X5_mayPass qS_X5_mayPass qN_X5 qC_X5_mayPass) rfl hc hs (by decide +kernel) hR
theorem cw_X12_336 (cx : Cx E p s m meth c args RX12 cc nL ret) {rm : Room} {mc ms : Nat} (hc : rm.cells = mc) (hs : rm.slots = ms) (hR : rm.frames + 1 ≤ R.frames ∧ 8 + (4 + 11) + rm.locals ≤ R.locals) : CallW R s args RX12 RX5 336 yX5_pass cX5_pass 4 none (wC yX5_pass cX5_pass 4 none) rm mc ms 1 := cwV 1 cx.1.2.2.2.2 (gd_V qM_X12_336 qI_X5_pass qS_X5_pass qN_X5 qC_X5_pass) rfl hc hs (by decide +kernel) hR
theorem cw_X12_346 (cx : Cx E p s m meth c args RX12 cc nL ret) {rm : Room} {mc ms : Nat} (hc : rm.cells = mc) (hs : rm.slots = ms) (hR : rm.frames + 1 ≤ R.frames ∧ 8 + (2 + 11) + rm.locals ≤ R.locals) : CallW R s args RX12 RX4 346 yX4_takeBack cX4_takeBack 2 (some .int) (wC yX4_takeBack cX4_takeBack 2 (some .int)) rm mc ms 1 := cwV 1 cx.1.2.2.2.2 (gd_V qM_X12_346 qI_X4_takeBack qS_X4_takeBack qN_X4 qC_X4_takeBack) rfl hc hs (by decide +kernel) hR
theorem cw_X1_29 (cx : Cx E p s m meth c args RX1 cc nL ret) {rm : Room} {mc ms : Nat} (hc : rm.cells = mc) (hs : rm.slots = ms) (hR : rm.frames + 1 ≤ R.frames ∧ 8 + (4 + 11) + rm.locals ≤ R.locals) : CallW R s args RX1 RX1 29 yX1_nextInTurn cX1_nextInTurn 4 (some .int) (wC yX1_nextInTurn cX1_nextInTurn 4 (some .int)) rm mc ms 1 := cwV 1 cx.1.2.2.2.2 (gd_V qM_X1_29 qI_X1_nextInTurn qS_X1_nextInTurn qN_X1 qC_X1_nextInTurn) rfl hc hs (by decide +kernel) hR
theorem cw_X1_33 (cx : Cx E p s m meth c args RX1 cc nL ret) {rm : Room} {mc ms : Nat} (hc : rm.cells = mc) (hs : rm.slots = ms) (hR : rm.frames + 1 ≤ R.frames ∧ 8 + (2 + 11) + rm.locals ≤ R.locals) : CallW R s args RX1 RX1 33 yX1_append cX1_append 2 none (wC yX1_append cX1_append 2 none) rm mc ms 1 := cwV 1 cx.1.2.2.2.2 (gd_V qM_X1_33 qI_X1_append qS_X1_append qN_X1 qC_X1_append) rfl hc hs (by decide +kernel) hR
theorem cw_X1_37 (cx : Cx E p s m meth c args RX1 cc nL ret) {rm : Room} {mc ms : Nat} (hc : rm.cells = mc) (hs : rm.slots = ms) (hR : rm.frames + 1 ≤ R.frames ∧ 8 + (6 + 11) + rm.locals ≤ R.locals) : CallW R s args RX1 RX1 37 yX1_serve cX1_serve 6 none (wC yX1_serve cX1_serve 6 none) rm mc ms 2 := cwV 2 cx.1.2.2.2.2 (gd_V qM_X1_37 qI_X1_serve qS_X1_serve qN_X1 qC_X1_serve) rfl hc hs (by decide +kernel) hR
theorem cw_X1_46 (cx : Cx E p s m meth c args RX1 cc nL ret) {rm : Room} {mc ms : Nat} (hc : rm.cells = mc) (hs : rm.slots = ms) (hR : rm.frames + 1 ≤ R.frames ∧ 8 + (2 + 11) + rm.locals ≤ R.locals) : CallW R s args RX1 RX5 46 yX5_turnOf cX5_turnOf 2 (some .int) (wC yX5_turnOf cX5_turnOf 2 (some .int)) rm mc ms 1 := cwV 1 cx.1.2.2.2.2 (gd_V qM_X1_46 qI_X5_turnOf qS_X5_turnOf qN_X5 qC_X5_turnOf) rfl hc hs (by decide +kernel) hR
theorem cw_X1_50 (cx : Cx E p s m meth c args RX1 cc nL ret) {rm : Room} {mc ms : Nat} (hc : rm.cells = mc) (hs : rm.slots = ms) (hR : rm.frames + 1 ≤ R.frames ∧ 8 + (5 + 11) + rm.locals ≤ R.locals) : CallW R s args RX1 RX1 50 yX1_firstAvailable cX1_firstAvailable 5 (some .int) (wC yX1_firstAvailable cX1_firstAvailable 5 (some .int)) rm mc ms 2 := cwV 2 cx.1.2.2.2.2 (gd_V qM_X1_50 qI_X1_firstAvailable qS_X1_firstAvailable qN_X1 qC_X1_firstAvailable) rfl hc hs (by decide +kernel) hR
theorem cw_X1_54 (cx : Cx E p s m meth c args RX1 cc nL ret) {rm : Room} {mc ms : Nat} (hc : rm.cells = mc) (hs : rm.slots = ms) (hR : rm.frames + 1 ≤ R.frames ∧ 8 + (3 + 11) + rm.locals ≤ R.locals) : CallW R s args RX1 RX5 54 yX5_holderOf cX5_holderOf 3 (some .int) (wC yX5_holderOf cX5_holderOf 3 (some .int)) rm mc ms 1 := cwV 1 cx.1.2.2.2.2 (gd_V qM_X1_54 qI_X5_holderOf qS_X5_holderOf qN_X5 qC_X5_holderOf) rfl hc hs (by decide +kernel) hR
theorem cw_X1_57 (cx : Cx E p s m meth c args RX1 cc nL ret) {rm : Room} {mc ms : Nat} (hc : rm.cells = mc) (hs : rm.slots = ms) (hR : rm.frames + 1 ≤ R.frames ∧ 8 + (5 + 11) + rm.locals ≤ R.locals) : CallW R s args RX1 RX1 57 yX1_finishFrom cX1_finishFrom 5 none (wC yX1_finishFrom cX1_finishFrom 5 none) rm mc ms 1 := cwV 1 cx.1.2.2.2.2 (gd_V qM_X1_57 qI_X1_finishFrom qS_X1_finishFrom qN_X1 qC_X1_finishFrom) rfl hc hs (by decide +kernel) hR
theorem cw_X1_60 (cx : Cx E p s m meth c args RX1 cc nL ret) {rm : Room} {mc ms : Nat} (hc : rm.cells = mc) (hs : rm.slots = ms) (hR : rm.frames + 1 ≤ R.frames ∧ 8 + (3 + 11) + rm.locals ≤ R.locals) : CallW R s args RX1 RX1 60 yX1_placeInChain cX1_placeInChain 3 (some .int) (wC yX1_placeInChain cX1_placeInChain 3 (some .int)) rm mc ms 1 := cwV 1 cx.1.2.2.2.2 (gd_V qM_X1_60 qI_X1_placeInChain qS_X1_placeInChain qN_X1 qC_X1_placeInChain) rfl hc hs (by decide +kernel) hR
theorem cw_X1_63 (cx : Cx E p s m meth c args RX1 cc nL ret) {rm : Room} {mc ms : Nat} (hc : rm.cells = mc) (hs : rm.slots = ms) (hR : rm.frames + 1 ≤ R.frames ∧ 8 + (2 + 11) + rm.locals ≤ R.locals) : CallW R s args RX1 RX5 63 yX5_wishesOf cX5_wishesOf 2 (some .int) (wC yX5_wishesOf cX5_wishesOf 2 (some .int)) rm mc ms 1 := cwV 1 cx.1.2.2.2.2 (gd_V qM_X1_63 qI_X5_wishesOf qS_X5_wishesOf qN_X5 qC_X5_wishesOf) rfl hc hs (by decide +kernel) hR
theorem cw_X1_66 (cx : Cx E p s m meth c args RX1 cc nL ret) {rm : Room} {mc ms : Nat} (hc : rm.cells = mc) (hs : rm.slots = ms) (hR : rm.frames + 1 ≤ R.frames ∧ 8 + (3 + 11) + rm.locals ≤ R.locals) : CallW R s args RX1 RX5 66 yX5_wish cX5_wish 3 (some .int) (wC yX5_wish cX5_wish 3 (some .int)) rm mc ms 2 := cwV 2 cx.1.2.2.2.2 (gd_V qM_X1_66 qI_X5_wish qS_X5_wish qN_X5 qC_X5_wish) rfl hc hs (by decide +kernel) hR
theorem cw_X1_70 (cx : Cx E p s m meth c args RX1 cc nL ret) {rm : Room} {mc ms : Nat} (hc : rm.cells = mc) (hs : rm.slots = ms) (hR : rm.frames + 1 ≤ R.frames ∧ 8 + (2 + 11) + rm.locals ≤ R.locals) : CallW R s args RX1 RX1 70 yX1_givenTo cX1_givenTo 2 (some .int) (wC yX1_givenTo cX1_givenTo 2 (some .int)) rm mc ms 1 := cwV 1 cx.1.2.2.2.2 (gd_V qM_X1_70 qI_X1_givenTo qS_X1_givenTo qN_X1 qC_X1_givenTo) rfl hc hs (by decide +kernel) hR
theorem cw_X1_73 (cx : Cx E p s m meth c args RX1 cc nL ret) {rm : Room} {mc ms : Nat} (hc : rm.cells = mc) (hs : rm.slots = ms) (hR : rm.frames + 1 ≤ R.frames ∧ 8 + (2 + 11) + rm.locals ≤ R.locals) : CallW R s args RX1 RX5 73 yX5_heldBy cX5_heldBy 2 (some .int) (wC yX5_heldBy cX5_heldBy 2 (some .int)) rm mc ms 1 := cwV 1 cx.1.2.2.2.2 (gd_V qM_X1_73 qI_X5_heldBy qS_X5_heldBy qN_X5 qC_X5_heldBy) rfl hc hs (by decide +kernel) hR
theorem cw_X1_79 (cx : Cx E p s m meth c args RX1 cc nL ret) {rm : Room} {mc ms : Nat} (hc : rm.cells = mc) (hs : rm.slots = ms) (hR : rm.frames + 1 ≤ R.frames ∧ 8 + (3 + 11) + rm.locals ≤ R.locals) : CallW R s args RX1 RX5 79 yX5_seat cX5_seat 3 none (wC yX5_seat cX5_seat 3 none) rm mc ms 2 := cwV 2 cx.1.2.2.2.2 (gd_V qM_X1_79 qI_X5_seat qS_X5_seat qN_X5 qC_X5_seat) rfl hc hs (by decide +kernel) hR
theorem cw_X2_19 (cx : Cx E p s m meth c args RX2 cc nL ret) {rm : Room} {mc ms : Nat} (hc : rm.cells = mc) (hs : rm.slots = ms) (hR : rm.frames + 1 ≤ R.frames ∧ 8 + (2 + 11) + rm.locals ≤ R.locals) : CallW R s args RX2 RX2 19 yX2_add cX2_add 2 none (wC yX2_add cX2_add 2 none) rm mc ms 1 := cwV 1 cx.1.2.2.2.2 (gd_V qM_X2_19 qI_X2_add qS_X2_add qN_X2 qC_X2_add) rfl hc hs (by decide +kernel) hR
theorem cw_X3_9 (cx : Cx E p s m meth c args RX3 cc nL ret) {rm : Room} {mc ms : Nat} (hc : rm.cells = mc) (hs : rm.slots = ms) (hR : rm.frames + 1 ≤ R.frames ∧ 8 + (2 + 11) + rm.locals ≤ R.locals) : CallW R s args RX3 RX5 9 yX5_heldBy cX5_heldBy 2 (some .int) (wC yX5_heldBy cX5_heldBy 2 (some .int)) rm mc ms 1 := cwV 1 cx.1.2.2.2.2 (gd_V qM_X3_9 qI_X5_heldBy qS_X5_heldBy qN_X5 qC_X5_heldBy) rfl hc hs (by decide +kernel) hR
theorem cw_X3_15 (cx : Cx E p s m meth c args RX3 cc nL ret) {rm : Room} {mc ms : Nat} (hc : rm.cells = mc) (hs : rm.slots = ms) (hR : rm.frames + 1 ≤ R.frames ∧ 8 + (4 + 11) + rm.locals ≤ R.locals) : CallW R s args RX3 RX5 15 yX5_ranksAbove cX5_ranksAbove 4 (some .boolean) (wC yX5_ranksAbove cX5_ranksAbove 4 (some .boolean)) rm mc ms 3 := cwV 3 cx.1.2.2.2.2 (gd_V qM_X3_15 qI_X5_ranksAbove qS_X5_ranksAbove qN_X5 qC_X5_ranksAbove) rfl hc hs (by decide +kernel) hR
theorem cw_X3_19 (cx : Cx E p s m meth c args RX3 cc nL ret) {rm : Room} {mc ms : Nat} (hc : rm.cells = mc) (hs : rm.slots = ms) (hR : rm.frames + 1 ≤ R.frames ∧ 8 + (4 + 11) + rm.locals ≤ R.locals) : CallB R s args RX3 19 yX3_wantsStallOf cX3_wantsStallOf 4 (some .boolean) (wC yX3_wantsStallOf cX3_wantsStallOf 4 (some .boolean)) rm mc ms 3 ∧ (Cond.static yX3_wantsStallOf).before args s = true := va_cwS 3 cx.1.2.2.2.2 (gd_S qM_X3_19 qT_X3_wantsStallOf qN_X3 qC_X3_wantsStallOf) rfl hc hs (by decide +kernel) hR
theorem cw_X3_32 (cx : Cx E p s m meth c args RX3 cc nL ret) {rm : Room} {mc ms : Nat} (hc : rm.cells = mc) (hs : rm.slots = ms) (hR : rm.frames + 1 ≤ R.frames ∧ 8 + (5 + 11) + rm.locals ≤ R.locals) : CallB R s args RX3 32 yX3_wantedByAny cX3_wantedByAny 5 (some .int) (wC yX3_wantedByAny cX3_wantedByAny 5 (some .int)) rm mc ms 2 ∧ (Cond.static yX3_wantedByAny).before args s = true := va_cwS 2 cx.1.2.2.2.2 (gd_S qM_X3_32 qT_X3_wantedByAny qN_X3 qC_X3_wantedByAny) rfl hc hs (by decide +kernel) hR
theorem cw_X3_36 (cx : Cx E p s m meth c args RX3 cc nL ret) {rm : Room} {mc ms : Nat} (hc : rm.cells = mc) (hs : rm.slots = ms) (hR : rm.frames + 1 ≤ R.frames ∧ 8 + (2 + 11) + rm.locals ≤ R.locals) : CallW R s args RX3 RX5 36 yX5_wishesOf cX5_wishesOf 2 (some .int) (wC yX5_wishesOf cX5_wishesOf 2 (some .int)) rm mc ms 1 := cwV 1 cx.1.2.2.2.2 (gd_V qM_X3_36 qI_X5_wishesOf qS_X5_wishesOf qN_X5 qC_X5_wishesOf) rfl hc hs (by decide +kernel) hR
theorem cw_X3_39 (cx : Cx E p s m meth c args RX3 cc nL ret) {rm : Room} {mc ms : Nat} (hc : rm.cells = mc) (hs : rm.slots = ms) (hR : rm.frames + 1 ≤ R.frames ∧ 8 + (3 + 11) + rm.locals ≤ R.locals) : CallW R s args RX3 RX5 39 yX5_wish cX5_wish 3 (some .int) (wC yX5_wish cX5_wish 3 (some .int)) rm mc ms 2 := cwV 2 cx.1.2.2.2.2 (gd_V qM_X3_39 qI_X5_wish qS_X5_wish qN_X5 qC_X5_wish) rfl hc hs (by decide +kernel) hR
theorem cw_X3_43 (cx : Cx E p s m meth c args RX3 cc nL ret) {rm : Room} {mc ms : Nat} (hc : rm.cells = mc) (hs : rm.slots = ms) (hR : rm.frames + 1 ≤ R.frames ∧ 8 + (3 + 11) + rm.locals ≤ R.locals) : CallW R s args RX3 RX5 43 yX5_holderOf cX5_holderOf 3 (some .int) (wC yX5_holderOf cX5_holderOf 3 (some .int)) rm mc ms 1 := cwV 1 cx.1.2.2.2.2 (gd_V qM_X3_43 qI_X5_holderOf qS_X5_holderOf qN_X5 qC_X5_holderOf) rfl hc hs (by decide +kernel) hR
theorem cw_X3_46 (cx : Cx E p s m meth c args RX3 cc nL ret) {rm : Room} {mc ms : Nat} (hc : rm.cells = mc) (hs : rm.slots = ms) (hR : rm.frames + 1 ≤ R.frames ∧ 8 + (5 + 11) + rm.locals ≤ R.locals) : CallB R s args RX3 46 yX3_bestFreeStall cX3_bestFreeStall 5 (some .int) (wC yX3_bestFreeStall cX3_bestFreeStall 5 (some .int)) rm mc ms 2 ∧ (Cond.static yX3_bestFreeStall).before args s = true := va_cwS 2 cx.1.2.2.2.2 (gd_S qM_X3_46 qT_X3_bestFreeStall qN_X3 qC_X3_bestFreeStall) rfl hc hs (by decide +kernel) hR
theorem cw_X3_49 (cx : Cx E p s m meth c args RX3 cc nL ret) {rm : Room} {mc ms : Nat} (hc : rm.cells = mc) (hs : rm.slots = ms) (hR : rm.frames + 1 ≤ R.frames ∧ 8 + (4 + 11) + rm.locals ≤ R.locals) : CallB R s args RX3 49 yX3_shortestCycle cX3_shortestCycle 4 (some .int) (wC yX3_shortestCycle cX3_shortestCycle 4 (some .int)) rm mc ms 2 ∧ (Cond.static yX3_shortestCycle).before args s = true := va_cwS 2 cx.1.2.2.2.2 (gd_S qM_X3_49 qT_X3_shortestCycle qN_X3 qC_X3_shortestCycle) rfl hc hs (by decide +kernel) hR
theorem cw_X4_24 (cx : Cx E p s m meth c args RX4 cc nL ret) {rm : Room} {mc ms : Nat} (hc : rm.cells = mc) (hs : rm.slots = ms) (hR : rm.frames + 1 ≤ R.frames ∧ 8 + (1 + 11) + rm.locals ≤ R.locals) : va_CN R s args RX4 24 yX5_init RX12 cX5_init 1 none (wC yX5_init cX5_init 1 none) rm mc ms 0 ∧ yX5_init.name = "<init>" ∧ (Cond.instanceMethod yX5_init).before args s = true := ⟨va_cnB 0 cx.1.2.2.2.2 (gd_C qC_X5_init) rfl hc hs (cx.2.2.1.2.2.1 _ qM_X4_24) (cx.1.2.2.2.2 _ qN_X5) (by decide +kernel) hR, rfl, cx.1.2.2.2.2 _ qI_X5_init⟩
theorem cw_X4_25 (cx : Cx E p s m meth c args RX4 cc nL ret) {rm : Room} {mc ms : Nat} (hc : rm.cells = mc) (hs : rm.slots = ms) (hR : rm.frames + 1 ≤ R.frames ∧ 8 + (2 + 11) + rm.locals ≤ R.locals) : CallW R s args RX4 RX4 25 yX4_slotAfter cX4_slotAfter 2 (some .int) (wC yX4_slotAfter cX4_slotAfter 2 (some .int)) rm mc ms 1 := cwV 1 cx.1.2.2.2.2 (gd_V qM_X4_25 qI_X4_slotAfter qS_X4_slotAfter qN_X4 qC_X4_slotAfter) rfl hc hs (by decide +kernel) hR
theorem cw_X4_29 (cx : Cx E p s m meth c args RX4 cc nL ret) {rm : Room} {mc ms : Nat} (hc : rm.cells = mc) (hs : rm.slots = ms) (hR : rm.frames + 1 ≤ R.frames ∧ 8 + (3 + 11) + rm.locals ≤ R.locals) : CallB R s args RX4 29 yX5_copy cX5_copy 3 none (wC yX5_copy cX5_copy 3 none) rm mc ms 2 ∧ (Cond.static yX5_copy).before args s = true := va_cwS 2 cx.1.2.2.2.2 (gd_S qM_X4_29 qT_X5_copy qN_X5 qC_X5_copy) rfl hc hs (by decide +kernel) hR
theorem cw_X5_68 (cx : Cx E p s m meth c args RX5 cc nL ret) {rm : Room} {mc ms : Nat} (hc : rm.cells = mc) (hs : rm.slots = ms) (hR : rm.frames + 1 ≤ R.frames ∧ 8 + (2 + 11) + rm.locals ≤ R.locals) : CallW R s args RX5 RX5 68 yX5_hasSeller cX5_hasSeller 2 (some .boolean) (wC yX5_hasSeller cX5_hasSeller 2 (some .boolean)) rm mc ms 1 := cwV 1 cx.1.2.2.2.2 (gd_V qM_X5_68 qI_X5_hasSeller qS_X5_hasSeller qN_X5 qC_X5_hasSeller) rfl hc hs (by decide +kernel) hR
theorem cw_X5_72 (cx : Cx E p s m meth c args RX5 cc nL ret) {rm : Room} {mc ms : Nat} (hc : rm.cells = mc) (hs : rm.slots = ms) (hR : rm.frames + 1 ≤ R.frames ∧ 8 + (2 + 11) + rm.locals ≤ R.locals) : CallW R s args RX5 RX5 72 yX5_hasStall cX5_hasStall 2 (some .boolean) (wC yX5_hasStall cX5_hasStall 2 (some .boolean)) rm mc ms 1 := cwV 1 cx.1.2.2.2.2 (gd_V qM_X5_72 qI_X5_hasStall qS_X5_hasStall qN_X5 qC_X5_hasStall) rfl hc hs (by decide +kernel) hR
theorem cw_X5_75 (cx : Cx E p s m meth c args RX5 cc nL ret) {rm : Room} {mc ms : Nat} (hc : rm.cells = mc) (hs : rm.slots = ms) (hR : rm.frames + 1 ≤ R.frames ∧ 8 + (4 + 11) + rm.locals ≤ R.locals) : CallW R s args RX5 RX5 75 yX5_standing cX5_standing 4 (some .int) (wC yX5_standing cX5_standing 4 (some .int)) rm mc ms 2 := cwV 2 cx.1.2.2.2.2 (gd_V qM_X5_75 qI_X5_standing qS_X5_standing qN_X5 qC_X5_standing) rfl hc hs (by decide +kernel) hR
theorem cw_X5_79 (cx : Cx E p s m meth c args RX5 cc nL ret) {rm : Room} {mc ms : Nat} (hc : rm.cells = mc) (hs : rm.slots = ms) (hR : rm.frames + 1 ≤ R.frames ∧ 8 + (4 + 11) + rm.locals ≤ R.locals) : CallW R s args RX5 RX5 79 yX5_rankIn cX5_rankIn 4 (some .int) (wC yX5_rankIn cX5_rankIn 4 (some .int)) rm mc ms 2 := cwV 2 cx.1.2.2.2.2 (gd_V qM_X5_79 qI_X5_rankIn qS_X5_rankIn qN_X5 qC_X5_rankIn) rfl hc hs (by decide +kernel) hR
theorem cw_X5_82 (cx : Cx E p s m meth c args RX5 cc nL ret) {rm : Room} {mc ms : Nat} (hc : rm.cells = mc) (hs : rm.slots = ms) (hR : rm.frames + 1 ≤ R.frames ∧ 8 + (3 + 11) + rm.locals ≤ R.locals) : CallW R s args RX5 RX5 82 yX5_holderOf cX5_holderOf 3 (some .int) (wC yX5_holderOf cX5_holderOf 3 (some .int)) rm mc ms 1 := cwV 1 cx.1.2.2.2.2 (gd_V qM_X5_82 qI_X5_holderOf qS_X5_holderOf qN_X5 qC_X5_holderOf) rfl hc hs (by decide +kernel) hR
theorem cw_X5_86 (cx : Cx E p s m meth c args RX5 cc nL ret) {rm : Room} {mc ms : Nat} (hc : rm.cells = mc) (hs : rm.slots = ms) (hR : rm.frames + 1 ≤ R.frames ∧ 8 + (2 + 11) + rm.locals ≤ R.locals) : CallW R s args RX5 RX5 86 yX5_priceOf cX5_priceOf 2 (some .int) (wC yX5_priceOf cX5_priceOf 2 (some .int)) rm mc ms 1 := cwV 1 cx.1.2.2.2.2 (gd_V qM_X5_86 qI_X5_priceOf qS_X5_priceOf qN_X5 qC_X5_priceOf) rfl hc hs (by decide +kernel) hR
theorem cw_X5_89 (cx : Cx E p s m meth c args RX5 cc nL ret) {rm : Room} {mc ms : Nat} (hc : rm.cells = mc) (hs : rm.slots = ms) (hR : rm.frames + 1 ≤ R.frames ∧ 8 + (2 + 11) + rm.locals ≤ R.locals) : CallW R s args RX5 RX5 89 yX5_coinsOf cX5_coinsOf 2 (some .int) (wC yX5_coinsOf cX5_coinsOf 2 (some .int)) rm mc ms 1 := cwV 1 cx.1.2.2.2.2 (gd_V qM_X5_89 qI_X5_coinsOf qS_X5_coinsOf qN_X5 qC_X5_coinsOf) rfl hc hs (by decide +kernel) hR
theorem cw_X5_92 (cx : Cx E p s m meth c args RX5 cc nL ret) {rm : Room} {mc ms : Nat} (hc : rm.cells = mc) (hs : rm.slots = ms) (hR : rm.frames + 1 ≤ R.frames ∧ 8 + (2 + 11) + rm.locals ≤ R.locals) : CallW R s args RX5 RX5 92 yX5_heldBy cX5_heldBy 2 (some .int) (wC yX5_heldBy cX5_heldBy 2 (some .int)) rm mc ms 1 := cwV 1 cx.1.2.2.2.2 (gd_V qM_X5_92 qI_X5_heldBy qS_X5_heldBy qN_X5 qC_X5_heldBy) rfl hc hs (by decide +kernel) hR
theorem cw_X5_95 (cx : Cx E p s m meth c args RX5 cc nL ret) {rm : Room} {mc ms : Nat} (hc : rm.cells = mc) (hs : rm.slots = ms) (hR : rm.frames + 1 ≤ R.frames ∧ 8 + (3 + 11) + rm.locals ≤ R.locals) : CallW R s args RX5 RX5 95 yX5_seat cX5_seat 3 none (wC yX5_seat cX5_seat 3 none) rm mc ms 2 := cwV 2 cx.1.2.2.2.2 (gd_V qM_X5_95 qI_X5_seat qS_X5_seat qN_X5 qC_X5_seat) rfl hc hs (by decide +kernel) hR
theorem cw_X5_99 (cx : Cx E p s m meth c args RX5 cc nL ret) {rm : Room} {mc ms : Nat} (hc : rm.cells = mc) (hs : rm.slots = ms) (hR : rm.frames + 1 ≤ R.frames ∧ 8 + (2 + 11) + rm.locals ≤ R.locals) : CallW R s args RX5 RX5 99 yX5_turnOf cX5_turnOf 2 (some .int) (wC yX5_turnOf cX5_turnOf 2 (some .int)) rm mc ms 1 := cwV 1 cx.1.2.2.2.2 (gd_V qM_X5_99 qI_X5_turnOf qS_X5_turnOf qN_X5 qC_X5_turnOf) rfl hc hs (by decide +kernel) hR
theorem cw_X5_102 (cx : Cx E p s m meth c args RX5 cc nL ret) {rm : Room} {mc ms : Nat} (hc : rm.cells = mc) (hs : rm.slots = ms) (hR : rm.frames + 1 ≤ R.frames ∧ 8 + (2 + 11) + rm.locals ≤ R.locals) : CallW R s args RX5 RX5 102 yX5_wishesOf cX5_wishesOf 2 (some .int) (wC yX5_wishesOf cX5_wishesOf 2 (some .int)) rm mc ms 1 := cwV 1 cx.1.2.2.2.2 (gd_V qM_X5_102 qI_X5_wishesOf qS_X5_wishesOf qN_X5 qC_X5_wishesOf) rfl hc hs (by decide +kernel) hR
theorem cw_X5_105 (cx : Cx E p s m meth c args RX5 cc nL ret) {rm : Room} {mc ms : Nat} (hc : rm.cells = mc) (hs : rm.slots = ms) (hR : rm.frames + 1 ≤ R.frames ∧ 8 + (7 + 11) + rm.locals ≤ R.locals) : CallW R s args RX5 RX5 105 yX5_dropWish cX5_dropWish 7 none (wC yX5_dropWish cX5_dropWish 7 none) rm mc ms 2 := cwV 2 cx.1.2.2.2.2 (gd_V qM_X5_105 qI_X5_dropWish qS_X5_dropWish qN_X5 qC_X5_dropWish) rfl hc hs (by decide +kernel) hR
theorem cw_X5_108 (cx : Cx E p s m meth c args RX5 cc nL ret) {rm : Room} {mc ms : Nat} (hc : rm.cells = mc) (hs : rm.slots = ms) (hR : rm.frames + 1 ≤ R.frames ∧ 8 + (3 + 11) + rm.locals ≤ R.locals) : CallW R s args RX5 RX5 108 yX5_receive cX5_receive 3 none (wC yX5_receive cX5_receive 3 none) rm mc ms 2 := cwV 2 cx.1.2.2.2.2 (gd_V qM_X5_108 qI_X5_receive qS_X5_receive qN_X5 qC_X5_receive) rfl hc hs (by decide +kernel) hR
theorem cw_X5_111 (cx : Cx E p s m meth c args RX5 cc nL ret) {rm : Room} {mc ms : Nat} (hc : rm.cells = mc) (hs : rm.slots = ms) (hR : rm.frames + 1 ≤ R.frames ∧ 8 + (4 + 11) + rm.locals ≤ R.locals) : CallW R s args RX5 RX5 111 yX5_chargeOrEvict cX5_chargeOrEvict 4 none (wC yX5_chargeOrEvict cX5_chargeOrEvict 4 none) rm mc ms 1 := cwV 1 cx.1.2.2.2.2 (gd_V qM_X5_111 qI_X5_chargeOrEvict qS_X5_chargeOrEvict qN_X5 qC_X5_chargeOrEvict) rfl hc hs (by decide +kernel) hR
theorem cw_X7_11 (cx : Cx E p s m meth c args RX7 cc nL ret) {rm : Room} {mc ms : Nat} (hc : rm.cells = mc) (hs : rm.slots = ms) (hR : rm.frames + 1 ≤ R.frames ∧ 8 + (1 + 11) + rm.locals ≤ R.locals) : va_CN R s args RX7 11 yX10_init RX12 cX10_init 1 none (wC yX10_init cX10_init 1 none) rm mc ms 0 ∧ yX10_init.name = "<init>" ∧ (Cond.instanceMethod yX10_init).before args s = true := ⟨va_cnB 0 cx.1.2.2.2.2 (gd_C qC_X10_init) rfl hc hs (cx.2.2.1.2.2.1 _ qM_X7_11) (cx.1.2.2.2.2 _ qN_X10) (by decide +kernel) hR, rfl, cx.1.2.2.2.2 _ qI_X10_init⟩
theorem cw_X7_25 (cx : Cx E p s m meth c args RX7 cc nL ret) {rm : Room} {mc ms : Nat} (hc : rm.cells = mc) (hs : rm.slots = ms) (hR : rm.frames + 1 ≤ R.frames ∧ 8 + (1 + 11) + rm.locals ≤ R.locals) : CallW R s args RX7 RX10 25 yX10_rewind cX10_rewind 1 none (wC yX10_rewind cX10_rewind 1 none) rm mc ms 0 := cwV 0 cx.1.2.2.2.2 (gd_V qM_X7_25 qI_X10_rewind qS_X10_rewind qN_X10 qC_X10_rewind) rfl hc hs (by decide +kernel) hR
theorem cw_X7_31 (cx : Cx E p s m meth c args RX7 cc nL ret) {rm : Room} {mc ms : Nat} (hc : rm.cells = mc) (hs : rm.slots = ms) (hR : rm.frames + 1 ≤ R.frames ∧ 8 + (3 + 11) + rm.locals ≤ R.locals) : CallW R s args RX7 RX10 31 yX10_isWord cX10_isWord 3 (some .boolean) (wC yX10_isWord cX10_isWord 3 (some .boolean)) rm mc ms 1 := cwV 1 cx.1.2.2.2.2 (gd_V qM_X7_31 qI_X10_isWord qS_X10_isWord qN_X10 qC_X10_isWord) rfl hc hs (by decide +kernel) hR
theorem cw_X7_35 (cx : Cx E p s m meth c args RX7 cc nL ret) {rm : Room} {mc ms : Nat} (hc : rm.cells = mc) (hs : rm.slots = ms) (hR : rm.frames + 1 ≤ R.frames ∧ 8 + (2 + 11) + rm.locals ≤ R.locals) : CallW R s args RX7 RX7 35 yX7_fail cX7_fail 2 (some .boolean) (wC yX7_fail cX7_fail 2 (some .boolean)) rm mc ms 1 := cwV 1 cx.1.2.2.2.2 (gd_V qM_X7_35 qI_X7_fail qS_X7_fail qN_X7 qC_X7_fail) rfl hc hs (by decide +kernel) hR
theorem cw_X7_39 (cx : Cx E p s m meth c args RX7 cc nL ret) {rm : Room} {mc ms : Nat} (hc : rm.cells = mc) (hs : rm.slots = ms) (hR : rm.frames + 1 ≤ R.frames ∧ 8 + (2 + 11) + rm.locals ≤ R.locals) : CallW R s args RX7 RX10 39 yX10_next cX10_next 2 none (wC yX10_next cX10_next 2 none) rm mc ms 0 := cwV 0 cx.1.2.2.2.2 (gd_V qM_X7_39 qI_X10_next qS_X10_next qN_X10 qC_X10_next) rfl hc hs (by decide +kernel) hR
theorem cw_X7_60 (cx : Cx E p s m meth c args RX7 cc nL ret) {rm : Room} {mc ms : Nat} (hc : rm.cells = mc) (hs : rm.slots = ms) (hR : rm.frames + 1 ≤ R.frames ∧ 8 + (4 + 11) + rm.locals ≤ R.locals) : CallW R s args RX7 RX5 60 yX5_stallCalled cX5_stallCalled 4 (some .int) (wC yX5_stallCalled cX5_stallCalled 4 (some .int)) rm mc ms 1 := cwV 1 cx.1.2.2.2.2 (gd_V qM_X7_60 qI_X5_stallCalled qS_X5_stallCalled qN_X5 qC_X5_stallCalled) rfl hc hs (by decide +kernel) hR
theorem cw_X9_9 (cx : Cx E p s m meth c args RX9 cc nL ret) {rm : Room} {mc ms : Nat} (hc : rm.cells = mc) (hs : rm.slots = ms) (hR : rm.frames + 1 ≤ R.frames ∧ 8 + (1 + 11) + rm.locals ≤ R.locals) : CallW R s args RX9 RX5 9 yX5_clear cX5_clear 1 none (wC yX5_clear cX5_clear 1 none) rm mc ms 0 := cwV 0 cx.1.2.2.2.2 (gd_V qM_X9_9 qI_X5_clear qS_X5_clear qN_X5 qC_X5_clear) rfl hc hs (by decide +kernel) hR
theorem cw_X9_14 (cx : Cx E p s m meth c args RX9 cc nL ret) {rm : Room} {mc ms : Nat} (hc : rm.cells = mc) (hs : rm.slots = ms) (hR : rm.frames + 1 ≤ R.frames ∧ 8 + (1 + 11) + rm.locals ≤ R.locals) : CallW R s args RX9 RX7 14 yX7_begin cX7_begin 1 none (wC yX7_begin cX7_begin 1 none) rm mc ms 0 := cwV 0 cx.1.2.2.2.2 (gd_V qM_X9_14 qI_X7_begin qS_X7_begin qN_X7 qC_X7_begin) rfl hc hs (by decide +kernel) hR
theorem cw_X9_21 (cx : Cx E p s m meth c args RX9 cc nL ret) {rm : Room} {mc ms : Nat} (hc : rm.cells = mc) (hs : rm.slots = ms) (hR : rm.frames + 1 ≤ R.frames ∧ 8 + (2 + 11) + rm.locals ≤ R.locals) : CallW R s args RX9 RX7 21 yX7_takeWord cX7_takeWord 2 (some .boolean) (wC yX7_takeWord cX7_takeWord 2 (some .boolean)) rm mc ms 1 := cwV 1 cx.1.2.2.2.2 (gd_V qM_X9_21 qI_X7_takeWord qS_X7_takeWord qN_X7 qC_X7_takeWord) rfl hc hs (by decide +kernel) hR
theorem cw_X9_25 (cx : Cx E p s m meth c args RX9 cc nL ret) {rm : Room} {mc ms : Nat} (hc : rm.cells = mc) (hs : rm.slots = ms) (hR : rm.frames + 1 ≤ R.frames ∧ 8 + (1 + 11) + rm.locals ≤ R.locals) : CallW R s args RX9 RX7 25 yX7_takeSemicolon cX7_takeSemicolon 1 (some .boolean) (wC yX7_takeSemicolon cX7_takeSemicolon 1 (some .boolean)) rm mc ms 0 := cwV 0 cx.1.2.2.2.2 (gd_V qM_X9_25 qI_X7_takeSemicolon qS_X7_takeSemicolon qN_X7 qC_X7_takeSemicolon) rfl hc hs (by decide +kernel) hR
theorem cw_X9_29 (cx : Cx E p s m meth c args RX9 cc nL ret) {rm : Room} {mc ms : Nat} (hc : rm.cells = mc) (hs : rm.slots = ms) (hR : rm.frames + 1 ≤ R.frames ∧ 8 + (3 + 11) + rm.locals ≤ R.locals) : CallB R s args RX9 29 yX9_readStalls cX9_readStalls 3 (some .boolean) (wC yX9_readStalls cX9_readStalls 3 (some .boolean)) rm mc ms 2 ∧ (Cond.static yX9_readStalls).before args s = true := va_cwS 2 cx.1.2.2.2.2 (gd_S qM_X9_29 qT_X9_readStalls qN_X9 qC_X9_readStalls) rfl hc hs (by decide +kernel) hR
theorem cw_X9_35 (cx : Cx E p s m meth c args RX9 cc nL ret) {rm : Room} {mc ms : Nat} (hc : rm.cells = mc) (hs : rm.slots = ms) (hR : rm.frames + 1 ≤ R.frames ∧ 8 + (3 + 11) + rm.locals ≤ R.locals) : CallB R s args RX9 35 yX9_readSellers cX9_readSellers 3 (some .boolean) (wC yX9_readSellers cX9_readSellers 3 (some .boolean)) rm mc ms 2 ∧ (Cond.static yX9_readSellers).before args s = true := va_cwS 2 cx.1.2.2.2.2 (gd_S qM_X9_35 qT_X9_readSellers qN_X9 qC_X9_readSellers) rfl hc hs (by decide +kernel) hR
theorem cw_X9_44 (cx : Cx E p s m meth c args RX9 cc nL ret) {rm : Room} {mc ms : Nat} (hc : rm.cells = mc) (hs : rm.slots = ms) (hR : rm.frames + 1 ≤ R.frames ∧ 8 + (3 + 11) + rm.locals ≤ R.locals) : CallW R s args RX9 RX10 44 yX10_isWord cX10_isWord 3 (some .boolean) (wC yX10_isWord cX10_isWord 3 (some .boolean)) rm mc ms 1 := cwV 1 cx.1.2.2.2.2 (gd_V qM_X9_44 qI_X10_isWord qS_X10_isWord qN_X10 qC_X10_isWord) rfl hc hs (by decide +kernel) hR
theorem cw_X9_49 (cx : Cx E p s m meth c args RX9 cc nL ret) {rm : Room} {mc ms : Nat} (hc : rm.cells = mc) (hs : rm.slots = ms) (hR : rm.frames + 1 ≤ R.frames ∧ 8 + (6 + 11) + rm.locals ≤ R.locals) : CallB R s args RX9 49 yX9_readStall cX9_readStall 6 (some .boolean) (wC yX9_readStall cX9_readStall 6 (some .boolean)) rm mc ms 2 ∧ (Cond.static yX9_readStall).before args s = true := va_cwS 2 cx.1.2.2.2.2 (gd_S qM_X9_49 qT_X9_readStall qN_X9 qC_X9_readStall) rfl hc hs (by decide +kernel) hR
theorem cw_X9_52 (cx : Cx E p s m meth c args RX9 cc nL ret) {rm : Room} {mc ms : Nat} (hc : rm.cells = mc) (hs : rm.slots = ms) (hR : rm.frames + 1 ≤ R.frames ∧ 8 + (2 + 11) + rm.locals ≤ R.locals) : CallW R s args RX9 RX7 52 yX7_fail cX7_fail 2 (some .boolean) (wC yX7_fail cX7_fail 2 (some .boolean)) rm mc ms 1 := cwV 1 cx.1.2.2.2.2 (gd_V qM_X9_52 qI_X7_fail qS_X7_fail qN_X7 qC_X7_fail) rfl hc hs (by decide +kernel) hR
theorem cw_X9_62 (cx : Cx E p s m meth c args RX9 cc nL ret) {rm : Room} {mc ms : Nat} (hc : rm.cells = mc) (hs : rm.slots = ms) (hR : rm.frames + 1 ≤ R.frames ∧ 8 + (4 + 11) + rm.locals ≤ R.locals) : CallW R s args RX9 RX5 62 yX5_stallCalled cX5_stallCalled 4 (some .int) (wC yX5_stallCalled cX5_stallCalled 4 (some .int)) rm mc ms 1 := cwV 1 cx.1.2.2.2.2 (gd_V qM_X9_62 qI_X5_stallCalled qS_X5_stallCalled qN_X5 qC_X5_stallCalled) rfl hc hs (by decide +kernel) hR
theorem cw_X9_66 (cx : Cx E p s m meth c args RX9 cc nL ret) {rm : Room} {mc ms : Nat} (hc : rm.cells = mc) (hs : rm.slots = ms) (hR : rm.frames + 1 ≤ R.frames ∧ 8 + (2 + 11) + rm.locals ≤ R.locals) : CallB R s args RX9 66 yX9_takeNewName cX9_takeNewName 2 (some .boolean) (wC yX9_takeNewName cX9_takeNewName 2 (some .boolean)) rm mc ms 2 ∧ (Cond.static yX9_takeNewName).before args s = true := va_cwS 2 cx.1.2.2.2.2 (gd_S qM_X9_66 qT_X9_takeNewName qN_X9 qC_X9_takeNewName) rfl hc hs (by decide +kernel) hR
theorem cw_X9_70 (cx : Cx E p s m meth c args RX9 cc nL ret) {rm : Room} {mc ms : Nat} (hc : rm.cells = mc) (hs : rm.slots = ms) (hR : rm.frames + 1 ≤ R.frames ∧ 8 + (4 + 11) + rm.locals ≤ R.locals) : CallW R s args RX9 RX7 70 yX7_takeNumber cX7_takeNumber 4 (some .int) (wC yX7_takeNumber cX7_takeNumber 4 (some .int)) rm mc ms 2 := cwV 2 cx.1.2.2.2.2 (gd_V qM_X9_70 qI_X7_takeNumber qS_X7_takeNumber qN_X7 qC_X7_takeNumber) rfl hc hs (by decide +kernel) hR
theorem cw_X9_74 (cx : Cx E p s m meth c args RX9 cc nL ret) {rm : Room} {mc ms : Nat} (hc : rm.cells = mc) (hs : rm.slots = ms) (hR : rm.frames + 1 ≤ R.frames ∧ 8 + (4 + 11) + rm.locals ≤ R.locals) : CallW R s args RX9 RX5 74 yX5_addStall cX5_addStall 4 none (wC yX5_addStall cX5_addStall 4 none) rm mc ms 2 := cwV 2 cx.1.2.2.2.2 (gd_V qM_X9_74 qI_X5_addStall qS_X5_addStall qN_X5 qC_X5_addStall) rfl hc hs (by decide +kernel) hR
theorem cw_X9_82 (cx : Cx E p s m meth c args RX9 cc nL ret) {rm : Room} {mc ms : Nat} (hc : rm.cells = mc) (hs : rm.slots = ms) (hR : rm.frames + 1 ≤ R.frames ∧ 8 + (2 + 11) + rm.locals ≤ R.locals) : CallW R s args RX9 RX10 82 yX10_next cX10_next 2 none (wC yX10_next cX10_next 2 none) rm mc ms 0 := cwV 0 cx.1.2.2.2.2 (gd_V qM_X9_82 qI_X10_next qS_X10_next qN_X10 qC_X10_next) rfl hc hs (by decide +kernel) hR
theorem cw_X9_85 (cx : Cx E p s m meth c args RX9 cc nL ret) {rm : Room} {mc ms : Nat} (hc : rm.cells = mc) (hs : rm.slots = ms) (hR : rm.frames + 1 ≤ R.frames ∧ 8 + (7 + 11) + rm.locals ≤ R.locals) : CallB R s args RX9 85 yX9_readSeller cX9_readSeller 7 (some .boolean) (wC yX9_readSeller cX9_readSeller 7 (some .boolean)) rm mc ms 2 ∧ (Cond.static yX9_readSeller).before args s = true := va_cwS 2 cx.1.2.2.2.2 (gd_S qM_X9_85 qT_X9_readSeller qN_X9 qC_X9_readSeller) rfl hc hs (by decide +kernel) hR
theorem cw_X9_90 (cx : Cx E p s m meth c args RX9 cc nL ret) {rm : Room} {mc ms : Nat} (hc : rm.cells = mc) (hs : rm.slots = ms) (hR : rm.frames + 1 ≤ R.frames ∧ 8 + (4 + 11) + rm.locals ≤ R.locals) : CallW R s args RX9 RX5 90 yX5_sellerCalled cX5_sellerCalled 4 (some .int) (wC yX5_sellerCalled cX5_sellerCalled 4 (some .int)) rm mc ms 1 := cwV 1 cx.1.2.2.2.2 (gd_V qM_X9_90 qI_X5_sellerCalled qS_X5_sellerCalled qN_X5 qC_X5_sellerCalled) rfl hc hs (by decide +kernel) hR
theorem cw_X9_96 (cx : Cx E p s m meth c args RX9 cc nL ret) {rm : Room} {mc ms : Nat} (hc : rm.cells = mc) (hs : rm.slots = ms) (hR : rm.frames + 1 ≤ R.frames ∧ 8 + (5 + 11) + rm.locals ≤ R.locals) : CallW R s args RX9 RX5 96 yX5_addSeller cX5_addSeller 5 none (wC yX5_addSeller cX5_addSeller 5 none) rm mc ms 3 := cwV 3 cx.1.2.2.2.2 (gd_V qM_X9_96 qI_X5_addSeller qS_X5_addSeller qN_X5 qC_X5_addSeller) rfl hc hs (by decide +kernel) hR
theorem cw_X9_100 (cx : Cx E p s m meth c args RX9 cc nL ret) {rm : Room} {mc ms : Nat} (hc : rm.cells = mc) (hs : rm.slots = ms) (hR : rm.frames + 1 ≤ R.frames ∧ 8 + (5 + 11) + rm.locals ≤ R.locals) : CallB R s args RX9 100 yX9_readWishes cX9_readWishes 5 (some .boolean) (wC yX9_readWishes cX9_readWishes 5 (some .boolean)) rm mc ms 3 ∧ (Cond.static yX9_readWishes).before args s = true := va_cwS 3 cx.1.2.2.2.2 (gd_S qM_X9_100 qT_X9_readWishes qN_X9 qC_X9_readWishes) rfl hc hs (by decide +kernel) hR
theorem cw_X9_104 (cx : Cx E p s m meth c args RX9 cc nL ret) {rm : Room} {mc ms : Nat} (hc : rm.cells = mc) (hs : rm.slots = ms) (hR : rm.frames + 1 ≤ R.frames ∧ 8 + (4 + 11) + rm.locals ≤ R.locals) : CallB R s args RX9 104 yX9_readPlace cX9_readPlace 4 (some .boolean) (wC yX9_readPlace cX9_readPlace 4 (some .boolean)) rm mc ms 3 ∧ (Cond.static yX9_readPlace).before args s = true := va_cwS 3 cx.1.2.2.2.2 (gd_S qM_X9_104 qT_X9_readPlace qN_X9 qC_X9_readPlace) rfl hc hs (by decide +kernel) hR
theorem cw_X9_107 (cx : Cx E p s m meth c args RX9 cc nL ret) {rm : Room} {mc ms : Nat} (hc : rm.cells = mc) (hs : rm.slots = ms) (hR : rm.frames + 1 ≤ R.frames ∧ 8 + (3 + 11) + rm.locals ≤ R.locals) : CallW R s args RX9 RX7 107 yX7_seeStall cX7_seeStall 3 (some .int) (wC yX7_seeStall cX7_seeStall 3 (some .int)) rm mc ms 1 := cwV 1 cx.1.2.2.2.2 (gd_V qM_X9_107 qI_X7_seeStall qS_X7_seeStall qN_X7 qC_X7_seeStall) rfl hc hs (by decide +kernel) hR
theorem cw_X9_111 (cx : Cx E p s m meth c args RX9 cc nL ret) {rm : Room} {mc ms : Nat} (hc : rm.cells = mc) (hs : rm.slots = ms) (hR : rm.frames + 1 ≤ R.frames ∧ 8 + (4 + 11) + rm.locals ≤ R.locals) : CallW R s args RX9 RX5 111 yX5_rankIn cX5_rankIn 4 (some .int) (wC yX5_rankIn cX5_rankIn 4 (some .int)) rm mc ms 2 := cwV 2 cx.1.2.2.2.2 (gd_V qM_X9_111 qI_X5_rankIn qS_X5_rankIn qN_X5 qC_X5_rankIn) rfl hc hs (by decide +kernel) hR
theorem cw_X9_114 (cx : Cx E p s m meth c args RX9 cc nL ret) {rm : Room} {mc ms : Nat} (hc : rm.cells = mc) (hs : rm.slots = ms) (hR : rm.frames + 1 ≤ R.frames ∧ 8 + (4 + 11) + rm.locals ≤ R.locals) : CallW R s args RX9 RX5 114 yX5_wishLast cX5_wishLast 4 none (wC yX5_wishLast cX5_wishLast 4 none) rm mc ms 2 := cwV 2 cx.1.2.2.2.2 (gd_V qM_X9_114 qI_X5_wishLast qS_X5_wishLast qN_X5 qC_X5_wishLast) rfl hc hs (by decide +kernel) hR
theorem cw_X9_118 (cx : Cx E p s m meth c args RX9 cc nL ret) {rm : Room} {mc ms : Nat} (hc : rm.cells = mc) (hs : rm.slots = ms) (hR : rm.frames + 1 ≤ R.frames ∧ 8 + (3 + 11) + rm.locals ≤ R.locals) : CallW R s args RX9 RX5 118 yX5_holderOf cX5_holderOf 3 (some .int) (wC yX5_holderOf cX5_holderOf 3 (some .int)) rm mc ms 1 := cwV 1 cx.1.2.2.2.2 (gd_V qM_X9_118 qI_X5_holderOf qS_X5_holderOf qN_X5 qC_X5_holderOf) rfl hc hs (by decide +kernel) hR
theorem cw_X9_122 (cx : Cx E p s m meth c args RX9 cc nL ret) {rm : Room} {mc ms : Nat} (hc : rm.cells = mc) (hs : rm.slots = ms) (hR : rm.frames + 1 ≤ R.frames ∧ 8 + (3 + 11) + rm.locals ≤ R.locals) : CallW R s args RX9 RX5 122 yX5_seat cX5_seat 3 none (wC yX5_seat cX5_seat 3 none) rm mc ms 2 := cwV 2 cx.1.2.2.2.2 (gd_V qM_X9_122 qI_X5_seat qS_X5_seat qN_X5 qC_X5_seat) rfl hc hs (by decide +kernel) hR
theorem cw_X10_11 (cx : Cx E p s m meth c args RX10 cc nL ret) {rm : Room} {mc ms : Nat} (hc : rm.cells = mc) (hs : rm.slots = ms) (hR : rm.frames + 1 ≤ R.frames ∧ 8 + (1 + 11) + rm.locals ≤ R.locals) : va_CN R s args RX10 11 yX2_init RX12 cX2_init 1 none (wC yX2_init cX2_init 1 none) rm mc ms 0 ∧ yX2_init.name = "<init>" ∧ (Cond.instanceMethod yX2_init).before args s = true := ⟨va_cnB 0 cx.1.2.2.2.2 (gd_C qC_X2_init) rfl hc hs (cx.2.2.1.2.2.1 _ qM_X10_11) (cx.1.2.2.2.2 _ qN_X2) (by decide +kernel) hR, rfl, cx.1.2.2.2.2 _ qI_X2_init⟩
theorem cw_X10_35 (cx : Cx E p s m meth c args RX10 cc nL ret) {rm : Room} {mc ms : Nat} (hc : rm.cells = mc) (hs : rm.slots = ms) (hR : rm.frames + 1 ≤ R.frames ∧ 8 + (2 + 11) + rm.locals ≤ R.locals) : CallW R s args RX10 RX10 35 yX10_next cX10_next 2 none (wC yX10_next cX10_next 2 none) rm mc ms 0 := cwV 0 cx.1.2.2.2.2 (gd_V qM_X10_35 qI_X10_next qS_X10_next qN_X10 qC_X10_next) rfl hc hs (by decide +kernel) hR
theorem cw_X10_41 (cx : Cx E p s m meth c args RX10 cc nL ret) {rm : Room} {mc ms : Nat} (hc : rm.cells = mc) (hs : rm.slots = ms) (hR : rm.frames + 1 ≤ R.frames ∧ 8 + (2 + 11) + rm.locals ≤ R.locals) : CallW R s args RX10 RX2 41 yX2_byteAt cX2_byteAt 2 (some .int) (wC yX2_byteAt cX2_byteAt 2 (some .int)) rm mc ms 1 := cwV 1 cx.1.2.2.2.2 (gd_V qM_X10_41 qI_X2_byteAt qS_X2_byteAt qN_X2 qC_X2_byteAt) rfl hc hs (by decide +kernel) hR
theorem cw_X10_45 (cx : Cx E p s m meth c args RX10 cc nL ret) {rm : Room} {mc ms : Nat} (hc : rm.cells = mc) (hs : rm.slots = ms) (hR : rm.frames + 1 ≤ R.frames ∧ 8 + (1 + 11) + rm.locals ≤ R.locals) : CallB R s args RX10 45 yX10_isLetter cX10_isLetter 1 (some .boolean) (wC yX10_isLetter cX10_isLetter 1 (some .boolean)) rm mc ms 1 ∧ (Cond.static yX10_isLetter).before args s = true := va_cwS 1 cx.1.2.2.2.2 (gd_S qM_X10_45 qT_X10_isLetter qN_X10 qC_X10_isLetter) rfl hc hs (by decide +kernel) hR
theorem cw_X10_49 (cx : Cx E p s m meth c args RX10 cc nL ret) {rm : Room} {mc ms : Nat} (hc : rm.cells = mc) (hs : rm.slots = ms) (hR : rm.frames + 1 ≤ R.frames ∧ 8 + (1 + 11) + rm.locals ≤ R.locals) : CallW R s args RX10 RX10 49 yX10_readWord cX10_readWord 1 none (wC yX10_readWord cX10_readWord 1 none) rm mc ms 0 := cwV 0 cx.1.2.2.2.2 (gd_V qM_X10_49 qI_X10_readWord qS_X10_readWord qN_X10 qC_X10_readWord) rfl hc hs (by decide +kernel) hR
theorem cw_X10_52 (cx : Cx E p s m meth c args RX10 cc nL ret) {rm : Room} {mc ms : Nat} (hc : rm.cells = mc) (hs : rm.slots = ms) (hR : rm.frames + 1 ≤ R.frames ∧ 8 + (1 + 11) + rm.locals ≤ R.locals) : CallB R s args RX10 52 yX10_isDigit cX10_isDigit 1 (some .boolean) (wC yX10_isDigit cX10_isDigit 1 (some .boolean)) rm mc ms 1 ∧ (Cond.static yX10_isDigit).before args s = true := va_cwS 1 cx.1.2.2.2.2 (gd_S qM_X10_52 qT_X10_isDigit qN_X10 qC_X10_isDigit) rfl hc hs (by decide +kernel) hR
theorem cw_X10_55 (cx : Cx E p s m meth c args RX10 cc nL ret) {rm : Room} {mc ms : Nat} (hc : rm.cells = mc) (hs : rm.slots = ms) (hR : rm.frames + 1 ≤ R.frames ∧ 8 + (1 + 11) + rm.locals ≤ R.locals) : CallW R s args RX10 RX10 55 yX10_readNumber cX10_readNumber 1 none (wC yX10_readNumber cX10_readNumber 1 none) rm mc ms 0 := cwV 0 cx.1.2.2.2.2 (gd_V qM_X10_55 qI_X10_readNumber qS_X10_readNumber qN_X10 qC_X10_readNumber) rfl hc hs (by decide +kernel) hR
theorem cw_X10_58 (cx : Cx E p s m meth c args RX10 cc nL ret) {rm : Room} {mc ms : Nat} (hc : rm.cells = mc) (hs : rm.slots = ms) (hR : rm.frames + 1 ≤ R.frames ∧ 8 + (1 + 11) + rm.locals ≤ R.locals) : CallW R s args RX10 RJ0 58 yJ0_length_8abf5 cJ0_length_8abf5 1 (some .int) (wC yJ0_length_8abf5 cJ0_length_8abf5 1 (some .int)) rm mc ms 0 := cwV 0 cx.1.2.2.2.2 (gd_V qM_X10_58 qI_J0_length_8abf5 qS_J0_length_8abf5 qN_J0 qC_J0_length_8abf5) rfl hc hs (by decide +kernel) hR
theorem cw_X10_63 (cx : Cx E p s m meth c args RX10 cc nL ret) {rm : Room} {mc ms : Nat} (hc : rm.cells = mc) (hs : rm.slots = ms) (hR : rm.frames + 1 ≤ R.frames ∧ 8 + (2 + 11) + rm.locals ≤ R.locals) : CallW R s args RX10 RJ0 63 yJ0_charAt_5068e cJ0_charAt_5068e 2 (some .char) (wC yJ0_charAt_5068e cJ0_charAt_5068e 2 (some .char)) rm mc ms 1 := cwV 1 cx.1.2.2.2.2 (gd_V qM_X10_63 qI_J0_charAt_5068e qS_J0_charAt_5068e qN_J0 qC_J0_charAt_5068e) rfl hc hs (by decide +kernel) hR
theorem cw_L_9 (cx : Cx E p s m meth c args RL cc nL ret) {rm : Room} {mc ms : Nat} (hc : rm.cells = mc) (hs : rm.slots = ms) (hR : rm.frames + 1 ≤ R.frames ∧ 8 + (4 + 11) + rm.locals ≤ R.locals) : CallB R s args RL 9 yX12_init cX12_init 4 none (wC yX12_init cX12_init 4 none) rm mc ms 0 ∧ yX12_init.name = "<init>" ∧ (Cond.instanceMethod yX12_init).before args s = true := cwI 0 cx.1.2.2.2.2 (gd_C qC_X12_init) rfl hc hs (cx.1.2.2.2.2 _ qN_X12) (cx.1.2.2.2.2 _ qM_L_9) (cx.1.2.2.2.2 _ qI_X12_init) rfl (by decide +kernel) hR
theorem cw_L_12 (cx : Cx E p s m meth c args RL cc nL ret) {rm : Room} {mc ms : Nat} (hc : rm.cells = mc) (hs : rm.slots = ms) (hR : rm.frames + 1 ≤ R.frames ∧ 8 + (1 + 11) + rm.locals ≤ R.locals) : va_CN R s args RL 12 yX13_init RL cX13_init 1 none (wC yX13_init cX13_init 1 none) rm mc ms 0 ∧ yX13_init.name = "<init>" ∧ (Cond.instanceMethod yX13_init).before args s = true := ⟨va_cnB 0 cx.1.2.2.2.2 (gd_C qC_X13_init) rfl hc hs (cx.2.2.1.2.2.1 _ qM_L_12) (cx.1.2.2.2.2 _ qN_X13) (by decide +kernel) hR, rfl, cx.1.2.2.2.2 _ qI_X13_init⟩
theorem cw_L_13 (cx : Cx E p s m meth c args RL cc nL ret) {rm : Room} {mc ms : Nat} (hc : rm.cells = mc) (hs : rm.slots = ms) (hR : rm.frames + 1 ≤ R.frames ∧ 8 + (2 + 11) + rm.locals ≤ R.locals) : CallB R s args RL 13 yL_pick cL_pick 2 (some .int) (wC yL_pick cL_pick 2 (some .int)) rm mc ms 2 ∧ (Cond.static yL_pick).before args s = true := va_cwS 2 cx.1.2.2.2.2 (gd_S qM_L_13 qT_L_pick qN_L qC_L_pick) rfl hc hs (by decide +kernel) hR
theorem cw_L_19 (cx : Cx E p s m meth c args RL cc nL ret) {rm : Room} {mc ms : Nat} (hc : rm.cells = mc) (hs : rm.slots = ms) (hR : rm.frames + 1 ≤ R.frames ∧ 8 + (6 + 11) + rm.locals ≤ R.locals) : CallW R s args RL RX13 19 yX13_begin cX13_begin 6 (some .boolean) (wC yX13_begin cX13_begin 6 (some .boolean)) rm mc ms 2 := cwV 2 cx.1.2.2.2.2 (gd_V qM_L_19 qI_X13_begin qS_X13_begin qN_X13 qC_X13_begin) rfl hc hs (by decide +kernel) hR
theorem cw_L_23 (cx : Cx E p s m meth c args RL cc nL ret) {rm : Room} {mc ms : Nat} (hc : rm.cells = mc) (hs : rm.slots = ms) (hR : rm.frames + 1 ≤ R.frames ∧ 8 + (4 + 11) + rm.locals ≤ R.locals) : CallW R s args RL RX13 23 yX13_isSame cX13_isSame 4 (some .boolean) (wC yX13_isSame cX13_isSame 4 (some .boolean)) rm mc ms 1 := cwV 1 cx.1.2.2.2.2 (gd_V qM_L_23 qI_X13_isSame qS_X13_isSame qN_X13 qC_X13_isSame) rfl hc hs (by decide +kernel) hR
theorem cw_L_31 (cx : Cx E p s m meth c args RL cc nL ret) {rm : Room} {mc ms : Nat} (hc : rm.cells = mc) (hs : rm.slots = ms) (hR : rm.frames + 1 ≤ R.frames ∧ 8 + (6 + 11) + rm.locals ≤ R.locals) : CallW R s args RL RX13 31 yX13_mechanism cX13_mechanism 6 none (wC yX13_mechanism cX13_mechanism 6 none) rm mc ms 0 := cwV 0 cx.1.2.2.2.2 (gd_V qM_L_31 qI_X13_mechanism qS_X13_mechanism qN_X13 qC_X13_mechanism) rfl hc hs (by decide +kernel) hR
theorem cw_L_37 (cx : Cx E p s m meth c args RL cc nL ret) {rm : Room} {mc ms : Nat} (hc : rm.cells = mc) (hs : rm.slots = ms) (hR : rm.frames + 1 ≤ R.frames ∧ 8 + (2 + 11) + rm.locals ≤ R.locals) : CallW R s args RL RX12 37 yX12_allocatedStall cX12_allocatedStall 2 (some .int) (wC yX12_allocatedStall cX12_allocatedStall 2 (some .int)) rm mc ms 1 := cwV 1 cx.1.2.2.2.2 (gd_V qM_L_37 qI_X12_allocatedStall qS_X12_allocatedStall qN_X12 qC_X12_allocatedStall) rfl hc hs (by decide +kernel) hR
theorem cw_L_48 (cx : Cx E p s m meth c args RL cc nL ret) {rm : Room} {mc ms : Nat} (hc : rm.cells = mc) (hs : rm.slots = ms) (hR : rm.frames + 1 ≤ R.frames ∧ 8 + (4 + 11) + rm.locals ≤ R.locals) : CallW R s args RL RX13 48 yX13_rank cX13_rank 4 (some .int) (wC yX13_rank cX13_rank 4 (some .int)) rm mc ms 2 := cwV 2 cx.1.2.2.2.2 (gd_V qM_L_48 qI_X13_rank qS_X13_rank qN_X13 qC_X13_rank) rfl hc hs (by decide +kernel) hR
theorem cw_L_52 (cx : Cx E p s m meth c args RL cc nL ret) {rm : Room} {mc ms : Nat} (hc : rm.cells = mc) (hs : rm.slots = ms) (hR : rm.frames + 1 ≤ R.frames ∧ 8 + (4 + 11) + rm.locals ≤ R.locals) : CallW R s args RL RX13 52 yX13_likes cX13_likes 4 (some .boolean) (wC yX13_likes cX13_likes 4 (some .boolean)) rm mc ms 3 := cwV 3 cx.1.2.2.2.2 (gd_V qM_L_52 qI_X13_likes qS_X13_likes qN_X13 qC_X13_likes) rfl hc hs (by decide +kernel) hR
theorem cw_L_56 (cx : Cx E p s m meth c args RL cc nL ret) {rm : Room} {mc ms : Nat} (hc : rm.cells = mc) (hs : rm.slots = ms) (hR : rm.frames + 1 ≤ R.frames ∧ 8 + (10 + 11) + rm.locals ≤ R.locals) : CallW R s args RL RX13 56 yX13_act cX13_act 10 (some .boolean) (wC yX13_act cX13_act 10 (some .boolean)) rm mc ms 1 := cwV 1 cx.1.2.2.2.2 (gd_V qM_L_56 qI_X13_act qS_X13_act qN_X13 qC_X13_act) rfl hc hs (by decide +kernel) hR
theorem cw_L_59 (cx : Cx E p s m meth c args RL cc nL ret) {rm : Room} {mc ms : Nat} (hc : rm.cells = mc) (hs : rm.slots = ms) (hR : rm.frames + 1 ≤ R.frames ∧ 8 + (3 + 11) + rm.locals ≤ R.locals) : CallW R s args RL RX12 59 yX12_ledgerDifference cX12_ledgerDifference 3 (some .int) (wC yX12_ledgerDifference cX12_ledgerDifference 3 (some .int)) rm mc ms 0 := cwV 0 cx.1.2.2.2.2 (gd_V qM_L_59 qI_X12_ledgerDifference qS_X12_ledgerDifference qN_X12 qC_X12_ledgerDifference) rfl hc hs (by decide +kernel) hR
theorem cw_L_63 (cx : Cx E p s m meth c args RL cc nL ret) {rm : Room} {mc ms : Nat} (hc : rm.cells = mc) (hs : rm.slots = ms) (hR : rm.frames + 1 ≤ R.frames ∧ 8 + (1 + 11) + rm.locals ≤ R.locals) : CallW R s args RL RX12 63 yX12_reallocate cX12_reallocate 1 (some .int) (wC yX12_reallocate cX12_reallocate 1 (some .int)) rm mc ms 0 := cwV 0 cx.1.2.2.2.2 (gd_V qM_L_63 qI_X12_reallocate qS_X12_reallocate qN_X12 qC_X12_reallocate) rfl hc hs (by decide +kernel) hR
theorem cw_L_66 (cx : Cx E p s m meth c args RL cc nL ret) {rm : Room} {mc ms : Nat} (hc : rm.cells = mc) (hs : rm.slots = ms) (hR : rm.frames + 1 ≤ R.frames ∧ 8 + (1 + 11) + rm.locals ≤ R.locals) : CallW R s args RL RX12 66 yX12_isEfficient cX12_isEfficient 1 (some .boolean) (wC yX12_isEfficient cX12_isEfficient 1 (some .boolean)) rm mc ms 0 := cwV 0 cx.1.2.2.2.2 (gd_V qM_L_66 qI_X12_isEfficient qS_X12_isEfficient qN_X12 qC_X12_isEfficient) rfl hc hs (by decide +kernel) hR
theorem cw_L_70 (cx : Cx E p s m meth c args RL cc nL ret) {rm : Room} {mc ms : Nat} (hc : rm.cells = mc) (hs : rm.slots = ms) (hR : rm.frames + 1 ≤ R.frames ∧ 8 + (1 + 11) + rm.locals ≤ R.locals) : CallW R s args RL RX12 70 yX12_undo cX12_undo 1 (some .int) (wC yX12_undo cX12_undo 1 (some .int)) rm mc ms 0 := cwV 0 cx.1.2.2.2.2 (gd_V qM_L_70 qI_X12_undo qS_X12_undo qN_X12 qC_X12_undo) rfl hc hs (by decide +kernel) hR
theorem cw_X13_57 (cx : Cx E p s m meth c args RX13 cc nL ret) {rm : Room} {mc ms : Nat} (hc : rm.cells = mc) (hs : rm.slots = ms) (hR : rm.frames + 1 ≤ R.frames ∧ 8 + (1 + 11) + rm.locals ≤ R.locals) : CallW R s args RX13 RJ0 57 yJ0_length_8abf5 cJ0_length_8abf5 1 (some .int) (wC yJ0_length_8abf5 cJ0_length_8abf5 1 (some .int)) rm mc ms 0 := cwV 0 cx.1.2.2.2.2 (gd_V qM_X13_57 qI_J0_length_8abf5 qS_J0_length_8abf5 qN_J0 qC_J0_length_8abf5) rfl hc hs (by decide +kernel) hR
theorem cw_X13_65 (cx : Cx E p s m meth c args RX13 cc nL ret) {rm : Room} {mc ms : Nat} (hc : rm.cells = mc) (hs : rm.slots = ms) (hR : rm.frames + 1 ≤ R.frames ∧ 8 + (2 + 11) + rm.locals ≤ R.locals) : CallW R s args RX13 RJ0 65 yJ0_charAt_5068e cJ0_charAt_5068e 2 (some .char) (wC yJ0_charAt_5068e cJ0_charAt_5068e 2 (some .char)) rm mc ms 1 := cwV 1 cx.1.2.2.2.2 (gd_V qM_X13_65 qI_J0_charAt_5068e qS_J0_charAt_5068e qN_J0 qC_J0_charAt_5068e) rfl hc hs (by decide +kernel) hR
theorem cw_X13_69 (cx : Cx E p s m meth c args RX13 cc nL ret) {rm : Room} {mc ms : Nat} (hc : rm.cells = mc) (hs : rm.slots = ms) (hR : rm.frames + 1 ≤ R.frames ∧ 8 + (2 + 11) + rm.locals ≤ R.locals) : CallW R s args RX13 RX13 69 yX13_digits cX13_digits 2 none (wC yX13_digits cX13_digits 2 none) rm mc ms 1 := cwV 1 cx.1.2.2.2.2 (gd_V qM_X13_69 qI_X13_digits qS_X13_digits qN_X13 qC_X13_digits) rfl hc hs (by decide +kernel) hR
theorem cw_X13_75 (cx : Cx E p s m meth c args RX13 cc nL ret) {rm : Room} {mc ms : Nat} (hc : rm.cells = mc) (hs : rm.slots = ms) (hR : rm.frames + 1 ≤ R.frames ∧ 8 + (3 + 11) + rm.locals ≤ R.locals) : CallW R s args RX13 RX13 75 yX13_put cX13_put 3 none (wC yX13_put cX13_put 3 none) rm mc ms 1 := cwV 1 cx.1.2.2.2.2 (gd_V qM_X13_75 qI_X13_put qS_X13_put qN_X13 qC_X13_put) rfl hc hs (by decide +kernel) hR
theorem cw_X13_79 (cx : Cx E p s m meth c args RX13 cc nL ret) {rm : Room} {mc ms : Nat} (hc : rm.cells = mc) (hs : rm.slots = ms) (hR : rm.frames + 1 ≤ R.frames ∧ 8 + (4 + 11) + rm.locals ≤ R.locals) : CallW R s args RX13 RX13 79 yX13_four cX13_four 4 (some .int) (wC yX13_four cX13_four 4 (some .int)) rm mc ms 1 := cwV 1 cx.1.2.2.2.2 (gd_V qM_X13_79 qI_X13_four qS_X13_four qN_X13 qC_X13_four) rfl hc hs (by decide +kernel) hR
theorem cw_X13_83 (cx : Cx E p s m meth c args RX13 cc nL ret) {rm : Room} {mc ms : Nat} (hc : rm.cells = mc) (hs : rm.slots = ms) (hR : rm.frames + 1 ≤ R.frames ∧ 8 + (7 + 11) + rm.locals ≤ R.locals) : CallW R s args RX13 RX12 83 yX12_appendInput cX12_appendInput 7 (some .int) (wC yX12_appendInput cX12_appendInput 7 (some .int)) rm mc ms 5 := cwV 5 cx.1.2.2.2.2 (gd_V qM_X13_83 qI_X12_appendInput qS_X12_appendInput qN_X12 qC_X12_appendInput) rfl hc hs (by decide +kernel) hR
theorem cw_X13_92 (cx : Cx E p s m meth c args RX13 cc nL ret) {rm : Room} {mc ms : Nat} (hc : rm.cells = mc) (hs : rm.slots = ms) (hR : rm.frames + 1 ≤ R.frames ∧ 8 + (2 + 11) + rm.locals ≤ R.locals) : CallW R s args RX13 RX13 92 yX13_draw cX13_draw 2 (some .int) (wC yX13_draw cX13_draw 2 (some .int)) rm mc ms 1 := cwV 1 cx.1.2.2.2.2 (gd_V qM_X13_92 qI_X13_draw qS_X13_draw qN_X13 qC_X13_draw) rfl hc hs (by decide +kernel) hR
theorem cw_X13_105 (cx : Cx E p s m meth c args RX13 cc nL ret) {rm : Room} {mc ms : Nat} (hc : rm.cells = mc) (hs : rm.slots = ms) (hR : rm.frames + 1 ≤ R.frames ∧ 8 + (3 + 11) + rm.locals ≤ R.locals) : CallW R s args RX13 RX13 105 yX13_letter cX13_letter 3 none (wC yX13_letter cX13_letter 3 none) rm mc ms 2 := cwV 2 cx.1.2.2.2.2 (gd_V qM_X13_105 qI_X13_letter qS_X13_letter qN_X13 qC_X13_letter) rfl hc hs (by decide +kernel) hR
theorem cw_X13_109 (cx : Cx E p s m meth c args RX13 cc nL ret) {rm : Room} {mc ms : Nat} (hc : rm.cells = mc) (hs : rm.slots = ms) (hR : rm.frames + 1 ≤ R.frames ∧ 8 + (2 + 11) + rm.locals ≤ R.locals) : CallW R s args RX13 RX13 109 yX13_put_ cX13_put_ 2 none (wC yX13_put_ cX13_put_ 2 none) rm mc ms 1 := cwV 1 cx.1.2.2.2.2 (gd_V qM_X13_109 qI_X13_put_ qS_X13_put_ qN_X13 qC_X13_put_) rfl hc hs (by decide +kernel) hR
theorem cw_X13_115 (cx : Cx E p s m meth c args RX13 cc nL ret) {rm : Room} {mc ms : Nat} (hc : rm.cells = mc) (hs : rm.slots = ms) (hR : rm.frames + 1 ≤ R.frames ∧ 8 + (4 + 11) + rm.locals ≤ R.locals) : CallW R s args RX13 RX13 115 yX13_rank cX13_rank 4 (some .int) (wC yX13_rank cX13_rank 4 (some .int)) rm mc ms 2 := cwV 2 cx.1.2.2.2.2 (gd_V qM_X13_115 qI_X13_rank qS_X13_rank qN_X13 qC_X13_rank) rfl hc hs (by decide +kernel) hR
theorem cw_X13_119 (cx : Cx E p s m meth c args RX13 cc nL ret) {rm : Room} {mc ms : Nat} (hc : rm.cells = mc) (hs : rm.slots = ms) (hR : rm.frames + 1 ≤ R.frames ∧ 8 + (3 + 11) + rm.locals ≤ R.locals) : CallW R s args RX13 RX13 119 yX13_tenant cX13_tenant 3 (some .int) (wC yX13_tenant cX13_tenant 3 (some .int)) rm mc ms 1 := cwV 1 cx.1.2.2.2.2 (gd_V qM_X13_119 qI_X13_tenant qS_X13_tenant qN_X13 qC_X13_tenant) rfl hc hs (by decide +kernel) hR
theorem cw_X13_124 (cx : Cx E p s m meth c args RX13 cc nL ret) {rm : Room} {mc ms : Nat} (hc : rm.cells = mc) (hs : rm.slots = ms) (hR : rm.frames + 1 ≤ R.frames ∧ 8 + (3 + 11) + rm.locals ≤ R.locals) : CallW R s args RX13 RX13 124 yX13_send cX13_send 3 (some .boolean) (wC yX13_send cX13_send 3 (some .boolean)) rm mc ms 1 := cwV 1 cx.1.2.2.2.2 (gd_V qM_X13_124 qI_X13_send qS_X13_send qN_X13 qC_X13_send) rfl hc hs (by decide +kernel) hR
theorem cw_X13_128 (cx : Cx E p s m meth c args RX13 cc nL ret) {rm : Room} {mc ms : Nat} (hc : rm.cells = mc) (hs : rm.slots = ms) (hR : rm.frames + 1 ≤ R.frames ∧ 8 + (2 + 11) + rm.locals ≤ R.locals) : CallW R s args RX13 RX12 128 yX12_loadSetup cX12_loadSetup 2 (some .int) (wC yX12_loadSetup cX12_loadSetup 2 (some .int)) rm mc ms 0 := cwV 0 cx.1.2.2.2.2 (gd_V qM_X13_128 qI_X12_loadSetup qS_X12_loadSetup qN_X12 qC_X12_loadSetup) rfl hc hs (by decide +kernel) hR
theorem cw_X13_131 (cx : Cx E p s m meth c args RX13 cc nL ret) {rm : Room} {mc ms : Nat} (hc : rm.cells = mc) (hs : rm.slots = ms) (hR : rm.frames + 1 ≤ R.frames ∧ 8 + (3 + 11) + rm.locals ≤ R.locals) : CallW R s args RX13 RX13 131 yX13_bad cX13_bad 3 (some .int) (wC yX13_bad cX13_bad 3 (some .int)) rm mc ms 2 := cwV 2 cx.1.2.2.2.2 (gd_V qM_X13_131 qI_X13_bad qS_X13_bad qN_X13 qC_X13_bad) rfl hc hs (by decide +kernel) hR
theorem cw_X13_134 (cx : Cx E p s m meth c args RX13 cc nL ret) {rm : Room} {mc ms : Nat} (hc : rm.cells = mc) (hs : rm.slots = ms) (hR : rm.frames + 1 ≤ R.frames ∧ 8 + (4 + 11) + rm.locals ≤ R.locals) : CallW R s args RX13 RX13 134 yX13_likes cX13_likes 4 (some .boolean) (wC yX13_likes cX13_likes 4 (some .boolean)) rm mc ms 3 := cwV 3 cx.1.2.2.2.2 (gd_V qM_X13_134 qI_X13_likes qS_X13_likes qN_X13 qC_X13_likes) rfl hc hs (by decide +kernel) hR
theorem cw_X13_138 (cx : Cx E p s m meth c args RX13 cc nL ret) {rm : Room} {mc ms : Nat} (hc : rm.cells = mc) (hs : rm.slots = ms) (hR : rm.frames + 1 ≤ R.frames ∧ 8 + (3 + 11) + rm.locals ≤ R.locals) : CallW R s args RX13 RX13 138 yX13_envies cX13_envies 3 (some .boolean) (wC yX13_envies cX13_envies 3 (some .boolean)) rm mc ms 2 := cwV 2 cx.1.2.2.2.2 (gd_V qM_X13_138 qI_X13_envies qS_X13_envies qN_X13 qC_X13_envies) rfl hc hs (by decide +kernel) hR
theorem cw_X13_145 (cx : Cx E p s m meth c args RX13 cc nL ret) {rm : Room} {mc ms : Nat} (hc : rm.cells = mc) (hs : rm.slots = ms) (hR : rm.frames + 1 ≤ R.frames ∧ 8 + (3 + 11) + rm.locals ≤ R.locals) : CallW R s args RX13 RX13 145 yX13_where cX13_where 3 (some .int) (wC yX13_where cX13_where 3 (some .int)) rm mc ms 1 := cwV 1 cx.1.2.2.2.2 (gd_V qM_X13_145 qI_X13_where qS_X13_where qN_X13 qC_X13_where) rfl hc hs (by decide +kernel) hR
theorem cw_X13_148 (cx : Cx E p s m meth c args RX13 cc nL ret) {rm : Room} {mc ms : Nat} (hc : rm.cells = mc) (hs : rm.slots = ms) (hR : rm.frames + 1 ≤ R.frames ∧ 8 + (4 + 11) + rm.locals ≤ R.locals) : CallW R s args RX13 RX13 148 yX13_give cX13_give 4 none (wC yX13_give cX13_give 4 none) rm mc ms 2 := cwV 2 cx.1.2.2.2.2 (gd_V qM_X13_148 qI_X13_give qS_X13_give qN_X13 qC_X13_give) rfl hc hs (by decide +kernel) hR
theorem cw_X13_151 (cx : Cx E p s m meth c args RX13 cc nL ret) {rm : Room} {mc ms : Nat} (hc : rm.cells = mc) (hs : rm.slots = ms) (hR : rm.frames + 1 ≤ R.frames ∧ 8 + (3 + 11) + rm.locals ≤ R.locals) : CallW R s args RX13 RX13 151 yX13_front cX13_front 3 none (wC yX13_front cX13_front 3 none) rm mc ms 1 := cwV 1 cx.1.2.2.2.2 (gd_V qM_X13_151 qI_X13_front qS_X13_front qN_X13 qC_X13_front) rfl hc hs (by decide +kernel) hR
theorem cw_X13_154 (cx : Cx E p s m meth c args RX13 cc nL ret) {rm : Room} {mc ms : Nat} (hc : rm.cells = mc) (hs : rm.slots = ms) (hR : rm.frames + 1 ≤ R.frames ∧ 8 + (3 + 11) + rm.locals ≤ R.locals) : CallW R s args RX13 RX13 154 yX13_whereAll cX13_whereAll 3 (some .int) (wC yX13_whereAll cX13_whereAll 3 (some .int)) rm mc ms 1 := cwV 1 cx.1.2.2.2.2 (gd_V qM_X13_154 qI_X13_whereAll qS_X13_whereAll qN_X13 qC_X13_whereAll) rfl hc hs (by decide +kernel) hR
theorem cw_X13_157 (cx : Cx E p s m meth c args RX13 cc nL ret) {rm : Room} {mc ms : Nat} (hc : rm.cells = mc) (hs : rm.slots = ms) (hR : rm.frames + 1 ≤ R.frames ∧ 8 + (1 + 11) + rm.locals ≤ R.locals) : CallW R s args RX13 RX12 157 yX12_day cX12_day 1 (some .int) (wC yX12_day cX12_day 1 (some .int)) rm mc ms 0 := cwV 0 cx.1.2.2.2.2 (gd_V qM_X13_157 qI_X12_day qS_X12_day qN_X12 qC_X12_day) rfl hc hs (by decide +kernel) hR
theorem cw_X13_159 (cx : Cx E p s m meth c args RX13 cc nL ret) {rm : Room} {mc ms : Nat} (hc : rm.cells = mc) (hs : rm.slots = ms) (hR : rm.frames + 1 ≤ R.frames ∧ 8 + (1 + 11) + rm.locals ≤ R.locals) : CallW R s args RX13 RX12 159 yX12_sellerCount cX12_sellerCount 1 (some .int) (wC yX12_sellerCount cX12_sellerCount 1 (some .int)) rm mc ms 0 := cwV 0 cx.1.2.2.2.2 (gd_V qM_X13_159 qI_X12_sellerCount qS_X12_sellerCount qN_X12 qC_X12_sellerCount) rfl hc hs (by decide +kernel) hR
theorem cw_X13_162 (cx : Cx E p s m meth c args RX13 cc nL ret) {rm : Room} {mc ms : Nat} (hc : rm.cells = mc) (hs : rm.slots = ms) (hR : rm.frames + 1 ≤ R.frames ∧ 8 + (1 + 11) + rm.locals ≤ R.locals) : CallW R s args RX13 RX12 162 yX12_stallCount cX12_stallCount 1 (some .int) (wC yX12_stallCount cX12_stallCount 1 (some .int)) rm mc ms 0 := cwV 0 cx.1.2.2.2.2 (gd_V qM_X13_162 qI_X12_stallCount qS_X12_stallCount qN_X12 qC_X12_stallCount) rfl hc hs (by decide +kernel) hR
theorem cw_X13_165 (cx : Cx E p s m meth c args RX13 cc nL ret) {rm : Room} {mc ms : Nat} (hc : rm.cells = mc) (hs : rm.slots = ms) (hR : rm.frames + 1 ≤ R.frames ∧ 8 + (2 + 11) + rm.locals ≤ R.locals) : CallW R s args RX13 RX12 165 yX12_balance cX12_balance 2 (some .int) (wC yX12_balance cX12_balance 2 (some .int)) rm mc ms 1 := cwV 1 cx.1.2.2.2.2 (gd_V qM_X13_165 qI_X12_balance qS_X12_balance qN_X12 qC_X12_balance) rfl hc hs (by decide +kernel) hR
theorem cw_X13_168 (cx : Cx E p s m meth c args RX13 cc nL ret) {rm : Room} {mc ms : Nat} (hc : rm.cells = mc) (hs : rm.slots = ms) (hR : rm.frames + 1 ≤ R.frames ∧ 8 + (2 + 11) + rm.locals ≤ R.locals) : CallW R s args RX13 RX12 168 yX12_stallOf cX12_stallOf 2 (some .int) (wC yX12_stallOf cX12_stallOf 2 (some .int)) rm mc ms 1 := cwV 1 cx.1.2.2.2.2 (gd_V qM_X13_168 qI_X12_stallOf qS_X12_stallOf qN_X12 qC_X12_stallOf) rfl hc hs (by decide +kernel) hR
theorem cw_X13_171 (cx : Cx E p s m meth c args RX13 cc nL ret) {rm : Room} {mc ms : Nat} (hc : rm.cells = mc) (hs : rm.slots = ms) (hR : rm.frames + 1 ≤ R.frames ∧ 8 + (2 + 11) + rm.locals ≤ R.locals) : CallW R s args RX13 RX12 171 yX12_preferenceCount cX12_preferenceCount 2 (some .int) (wC yX12_preferenceCount cX12_preferenceCount 2 (some .int)) rm mc ms 1 := cwV 1 cx.1.2.2.2.2 (gd_V qM_X13_171 qI_X12_preferenceCount qS_X12_preferenceCount qN_X12 qC_X12_preferenceCount) rfl hc hs (by decide +kernel) hR
theorem cw_X13_174 (cx : Cx E p s m meth c args RX13 cc nL ret) {rm : Room} {mc ms : Nat} (hc : rm.cells = mc) (hs : rm.slots = ms) (hR : rm.frames + 1 ≤ R.frames ∧ 8 + (2 + 11) + rm.locals ≤ R.locals) : CallW R s args RX13 RX12 174 yX12_priorityOf cX12_priorityOf 2 (some .int) (wC yX12_priorityOf cX12_priorityOf 2 (some .int)) rm mc ms 1 := cwV 1 cx.1.2.2.2.2 (gd_V qM_X13_174 qI_X12_priorityOf qS_X12_priorityOf qN_X12 qC_X12_priorityOf) rfl hc hs (by decide +kernel) hR
theorem cw_X13_177 (cx : Cx E p s m meth c args RX13 cc nL ret) {rm : Room} {mc ms : Nat} (hc : rm.cells = mc) (hs : rm.slots = ms) (hR : rm.frames + 1 ≤ R.frames ∧ 8 + (3 + 11) + rm.locals ≤ R.locals) : CallW R s args RX13 RX12 177 yX12_preferenceAt cX12_preferenceAt 3 (some .int) (wC yX12_preferenceAt cX12_preferenceAt 3 (some .int)) rm mc ms 2 := cwV 2 cx.1.2.2.2.2 (gd_V qM_X13_177 qI_X12_preferenceAt qS_X12_preferenceAt qN_X12 qC_X12_preferenceAt) rfl hc hs (by decide +kernel) hR
theorem cw_X13_180 (cx : Cx E p s m meth c args RX13 cc nL ret) {rm : Room} {mc ms : Nat} (hc : rm.cells = mc) (hs : rm.slots = ms) (hR : rm.frames + 1 ≤ R.frames ∧ 8 + (2 + 11) + rm.locals ≤ R.locals) : CallW R s args RX13 RX12 180 yX12_rent cX12_rent 2 (some .int) (wC yX12_rent cX12_rent 2 (some .int)) rm mc ms 1 := cwV 1 cx.1.2.2.2.2 (gd_V qM_X13_180 qI_X12_rent qS_X12_rent qN_X12 qC_X12_rent) rfl hc hs (by decide +kernel) hR
theorem cw_X13_182 (cx : Cx E p s m meth c args RX13 cc nL ret) {rm : Room} {mc ms : Nat} (hc : rm.cells = mc) (hs : rm.slots = ms) (hR : rm.frames + 1 ≤ R.frames ∧ 8 + (2 + 11) + rm.locals ≤ R.locals) : CallW R s args RX13 RX12 182 yX12_occupantOf cX12_occupantOf 2 (some .int) (wC yX12_occupantOf cX12_occupantOf 2 (some .int)) rm mc ms 1 := cwV 1 cx.1.2.2.2.2 (gd_V qM_X13_182 qI_X12_occupantOf qS_X12_occupantOf qN_X12 qC_X12_occupantOf) rfl hc hs (by decide +kernel) hR
theorem cw_X13_185 (cx : Cx E p s m meth c args RX13 cc nL ret) {rm : Room} {mc ms : Nat} (hc : rm.cells = mc) (hs : rm.slots = ms) (hR : rm.frames + 1 ≤ R.frames ∧ 8 + (4 + 11) + rm.locals ≤ R.locals) : CallW R s args RX13 RX12 185 yX12_assign cX12_assign 4 (some .int) (wC yX12_assign cX12_assign 4 (some .int)) rm mc ms 2 := cwV 2 cx.1.2.2.2.2 (gd_V qM_X13_185 qI_X12_assign qS_X12_assign qN_X12 qC_X12_assign) rfl hc hs (by decide +kernel) hR
theorem cw_X13_188 (cx : Cx E p s m meth c args RX13 cc nL ret) {rm : Room} {mc ms : Nat} (hc : rm.cells = mc) (hs : rm.slots = ms) (hR : rm.frames + 1 ≤ R.frames ∧ 8 + (3 + 11) + rm.locals ≤ R.locals) : CallW R s args RX13 RX12 188 yX12_vacate cX12_vacate 3 (some .int) (wC yX12_vacate cX12_vacate 3 (some .int)) rm mc ms 1 := cwV 1 cx.1.2.2.2.2 (gd_V qM_X13_188 qI_X12_vacate qS_X12_vacate qN_X12 qC_X12_vacate) rfl hc hs (by decide +kernel) hR
theorem cw_X13_191 (cx : Cx E p s m meth c args RX13 cc nL ret) {rm : Room} {mc ms : Nat} (hc : rm.cells = mc) (hs : rm.slots = ms) (hR : rm.frames + 1 ≤ R.frames ∧ 8 + (3 + 11) + rm.locals ≤ R.locals) : CallW R s args RX13 RX13 191 yX13_both cX13_both 3 (some .boolean) (wC yX13_both cX13_both 3 (some .boolean)) rm mc ms 2 := cwV 2 cx.1.2.2.2.2 (gd_V qM_X13_191 qI_X13_both qS_X13_both qN_X13 qC_X13_both) rfl hc hs (by decide +kernel) hR
theorem cw_X13_194 (cx : Cx E p s m meth c args RX13 cc nL ret) {rm : Room} {mc ms : Nat} (hc : rm.cells = mc) (hs : rm.slots = ms) (hR : rm.frames + 1 ≤ R.frames ∧ 8 + (3 + 11) + rm.locals ≤ R.locals) : CallW R s args RX13 RX12 194 yX12_swap cX12_swap 3 (some .int) (wC yX12_swap cX12_swap 3 (some .int)) rm mc ms 2 := cwV 2 cx.1.2.2.2.2 (gd_V qM_X13_194 qI_X12_swap qS_X12_swap qN_X12 qC_X12_swap) rfl hc hs (by decide +kernel) hR
theorem cw_X13_197 (cx : Cx E p s m meth c args RX13 cc nL ret) {rm : Room} {mc ms : Nat} (hc : rm.cells = mc) (hs : rm.slots = ms) (hR : rm.frames + 1 ≤ R.frames ∧ 8 + (6 + 11) + rm.locals ≤ R.locals) : CallW R s args RX13 RX13 197 yX13_mechanism cX13_mechanism 6 none (wC yX13_mechanism cX13_mechanism 6 none) rm mc ms 0 := cwV 0 cx.1.2.2.2.2 (gd_V qM_X13_197 qI_X13_mechanism qS_X13_mechanism qN_X13 qC_X13_mechanism) rfl hc hs (by decide +kernel) hR
theorem cw_X13_200 (cx : Cx E p s m meth c args RX13 cc nL ret) {rm : Room} {mc ms : Nat} (hc : rm.cells = mc) (hs : rm.slots = ms) (hR : rm.frames + 1 ≤ R.frames ∧ 8 + (1 + 11) + rm.locals ≤ R.locals) : CallW R s args RX13 RX12 200 yX12_reallocate cX12_reallocate 1 (some .int) (wC yX12_reallocate cX12_reallocate 1 (some .int)) rm mc ms 0 := cwV 0 cx.1.2.2.2.2 (gd_V qM_X13_200 qI_X12_reallocate qS_X12_reallocate qN_X12 qC_X12_reallocate) rfl hc hs (by decide +kernel) hR
theorem cw_X13_203 (cx : Cx E p s m meth c args RX13 cc nL ret) {rm : Room} {mc ms : Nat} (hc : rm.cells = mc) (hs : rm.slots = ms) (hR : rm.frames + 1 ≤ R.frames ∧ 8 + (4 + 11) + rm.locals ≤ R.locals) : CallW R s args RX13 RX13 203 yX13_toFront cX13_toFront 4 none (wC yX13_toFront cX13_toFront 4 none) rm mc ms 2 := cwV 2 cx.1.2.2.2.2 (gd_V qM_X13_203 qI_X13_toFront qS_X13_toFront qN_X13 qC_X13_toFront) rfl hc hs (by decide +kernel) hR
theorem cw_X13_206 (cx : Cx E p s m meth c args RX13 cc nL ret) {rm : Room} {mc ms : Nat} (hc : rm.cells = mc) (hs : rm.slots = ms) (hR : rm.frames + 1 ≤ R.frames ∧ 8 + (3 + 11) + rm.locals ≤ R.locals) : CallW R s args RX13 RX12 206 yX12_preferFirst cX12_preferFirst 3 (some .int) (wC yX12_preferFirst cX12_preferFirst 3 (some .int)) rm mc ms 2 := cwV 2 cx.1.2.2.2.2 (gd_V qM_X13_206 qI_X12_preferFirst qS_X12_preferFirst qN_X12 qC_X12_preferFirst) rfl hc hs (by decide +kernel) hR
theorem cw_X13_209 (cx : Cx E p s m meth c args RX13 cc nL ret) {rm : Room} {mc ms : Nat} (hc : rm.cells = mc) (hs : rm.slots = ms) (hR : rm.frames + 1 ≤ R.frames ∧ 8 + (4 + 11) + rm.locals ≤ R.locals) : CallW R s args RX13 RX13 209 yX13_rankAll cX13_rankAll 4 (some .int) (wC yX13_rankAll cX13_rankAll 4 (some .int)) rm mc ms 2 := cwV 2 cx.1.2.2.2.2 (gd_V qM_X13_209 qI_X13_rankAll qS_X13_rankAll qN_X13 qC_X13_rankAll) rfl hc hs (by decide +kernel) hR
theorem cw_X13_212 (cx : Cx E p s m meth c args RX13 cc nL ret) {rm : Room} {mc ms : Nat} (hc : rm.cells = mc) (hs : rm.slots = ms) (hR : rm.frames + 1 ≤ R.frames ∧ 8 + (3 + 11) + rm.locals ≤ R.locals) : CallW R s args RX13 RX12 212 yX12_removePreference cX12_removePreference 3 (some .int) (wC yX12_removePreference cX12_removePreference 3 (some .int)) rm mc ms 2 := cwV 2 cx.1.2.2.2.2 (gd_V qM_X13_212 qI_X12_removePreference qS_X12_removePreference qN_X12 qC_X12_removePreference) rfl hc hs (by decide +kernel) hR
theorem cw_X13_215 (cx : Cx E p s m meth c args RX13 cc nL ret) {rm : Room} {mc ms : Nat} (hc : rm.cells = mc) (hs : rm.slots = ms) (hR : rm.frames + 1 ≤ R.frames ∧ 8 + (4 + 11) + rm.locals ≤ R.locals) : CallW R s args RX13 RX13 215 yX13_first cX13_first 4 none (wC yX13_first cX13_first 4 none) rm mc ms 2 := cwV 2 cx.1.2.2.2.2 (gd_V qM_X13_215 qI_X13_first qS_X13_first qN_X13 qC_X13_first) rfl hc hs (by decide +kernel) hR
theorem cw_X13_218 (cx : Cx E p s m meth c args RX13 cc nL ret) {rm : Room} {mc ms : Nat} (hc : rm.cells = mc) (hs : rm.slots = ms) (hR : rm.frames + 1 ≤ R.frames ∧ 8 + (4 + 11) + rm.locals ≤ R.locals) : CallW R s args RX13 RX12 218 yX12_setPriority cX12_setPriority 4 (some .int) (wC yX12_setPriority cX12_setPriority 4 (some .int)) rm mc ms 2 := cwV 2 cx.1.2.2.2.2 (gd_V qM_X13_218 qI_X12_setPriority qS_X12_setPriority qN_X12 qC_X12_setPriority) rfl hc hs (by decide +kernel) hR
theorem cw_X13_221 (cx : Cx E p s m meth c args RX13 cc nL ret) {rm : Room} {mc ms : Nat} (hc : rm.cells = mc) (hs : rm.slots = ms) (hR : rm.frames + 1 ≤ R.frames ∧ 8 + (4 + 11) + rm.locals ≤ R.locals) : CallW R s args RX13 RX12 221 yX12_setRent cX12_setRent 4 (some .int) (wC yX12_setRent cX12_setRent 4 (some .int)) rm mc ms 2 := cwV 2 cx.1.2.2.2.2 (gd_V qM_X13_221 qI_X12_setRent qS_X12_setRent qN_X12 qC_X12_setRent) rfl hc hs (by decide +kernel) hR
theorem cw_X13_224 (cx : Cx E p s m meth c args RX13 cc nL ret) {rm : Room} {mc ms : Nat} (hc : rm.cells = mc) (hs : rm.slots = ms) (hR : rm.frames + 1 ≤ R.frames ∧ 8 + (3 + 11) + rm.locals ≤ R.locals) : CallW R s args RX13 RX13 224 yX13_pass cX13_pass 3 (some .int) (wC yX13_pass cX13_pass 3 (some .int)) rm mc ms 0 := cwV 0 cx.1.2.2.2.2 (gd_V qM_X13_224 qI_X13_pass qS_X13_pass qN_X13 qC_X13_pass) rfl hc hs (by decide +kernel) hR
theorem cw_X13_227 (cx : Cx E p s m meth c args RX13 cc nL ret) {rm : Room} {mc ms : Nat} (hc : rm.cells = mc) (hs : rm.slots = ms) (hR : rm.frames + 1 ≤ R.frames ∧ 8 + (3 + 11) + rm.locals ≤ R.locals) : CallW R s args RX13 RX12 227 yX12_advanceDays cX12_advanceDays 3 (some .int) (wC yX12_advanceDays cX12_advanceDays 3 (some .int)) rm mc ms 1 := cwV 1 cx.1.2.2.2.2 (gd_V qM_X13_227 qI_X12_advanceDays qS_X12_advanceDays qN_X12 qC_X12_advanceDays) rfl hc hs (by decide +kernel) hR
theorem cw_J0_335 (cx : Cx E p s m meth c args RJ0 cc nL ret) {rm : Room} {mc ms : Nat} (hc : rm.cells = mc) (hs : rm.slots = ms) (hR : rm.frames + 1 ≤ R.frames ∧ 8 + (1 + 11) + rm.locals ≤ R.locals) : CallW R s args RJ0 RJ0 335 yJ0_coder_7d493 cJ0_coder_7d493 1 (some .byte) (wC yJ0_coder_7d493 cJ0_coder_7d493 1 (some .byte)) rm mc ms 0 := cwV 0 cx.1.2.2.2.2 (gd_V qM_J0_335 qI_J0_coder_7d493 qS_J0_coder_7d493 qN_J0 qC_J0_coder_7d493) rfl hc hs (by decide +kernel) hR
theorem cw_J0_492 (cx : Cx E p s m meth c args RJ0 cc nL ret) {rm : Room} {mc ms : Nat} (hc : rm.cells = mc) (hs : rm.slots = ms) (hR : rm.frames + 1 ≤ R.frames ∧ 8 + (1 + 11) + rm.locals ≤ R.locals) : CallW R s args RJ0 RJ0 492 yJ0_isLatin1_aae02 cJ0_isLatin1_aae02 1 (some .boolean) (wC yJ0_isLatin1_aae02 cJ0_isLatin1_aae02 1 (some .boolean)) rm mc ms 0 := cwV 0 cx.1.2.2.2.2 (gd_V qM_J0_492 qI_J0_isLatin1_aae02 qS_J0_isLatin1_aae02 qN_J0 qC_J0_isLatin1_aae02) rfl hc hs (by decide +kernel) hR
theorem cw_J0_495 (cx : Cx E p s m meth c args RJ0 cc nL ret) {rm : Room} {mc ms : Nat} (hc : rm.cells = mc) (hs : rm.slots = ms) (hR : rm.frames + 1 ≤ R.frames ∧ 8 + (2 + 11) + rm.locals ≤ R.locals) : CallB R s args RJ0 495 yJ1_charAt_3b067 cJ1_charAt_3b067 2 (some .char) (wC yJ1_charAt_3b067 cJ1_charAt_3b067 2 (some .char)) rm mc ms 2 ∧ (Cond.static yJ1_charAt_3b067).before args s = true := va_cwS 2 cx.1.2.2.2.2 (gd_S qM_J0_495 qT_J1_charAt_3b067 qN_J1 qC_J1_charAt_3b067) rfl hc hs (by decide +kernel) hR
theorem cw_J0_498 (cx : Cx E p s m meth c args RJ0 cc nL ret) {rm : Room} {mc ms : Nat} (hc : rm.cells = mc) (hs : rm.slots = ms) (hR : rm.frames + 1 ≤ R.frames ∧ 8 + (2 + 11) + rm.locals ≤ R.locals) : CallB R s args RJ0 498 yJ2_charAt_3b067 cJ2_charAt_3b067 2 (some .char) (wC yJ2_charAt_3b067 cJ2_charAt_3b067 2 (some .char)) rm mc ms 2 ∧ (Cond.static yJ2_charAt_3b067).before args s = true := va_cwS 2 cx.1.2.2.2.2 (gd_S qM_J0_498 qT_J2_charAt_3b067 qN_J2 qC_J2_charAt_3b067) rfl hc hs (by decide +kernel) hR
theorem cw_J0_1059 (cx : Cx E p s m meth c args RJ0 cc nL ret) {rm : Room} {mc ms : Nat} (hc : rm.cells = mc) (hs : rm.slots = ms) (hR : rm.frames + 1 ≤ R.frames ∧ 8 + (3 + 11) + rm.locals ≤ R.locals) : CallB R s args RJ0 1059 yJ3_checkIndex_8e157 cJ3_checkIndex_8e157 3 (some .int) (wC yJ3_checkIndex_8e157 cJ3_checkIndex_8e157 3 (some .int)) rm mc ms 3 ∧ (Cond.static yJ3_checkIndex_8e157).before args s = true := va_cwS 3 cx.1.2.2.2.2 (gd_S qM_J0_1059 qT_J3_checkIndex_8e157 qN_J3 qC_J3_checkIndex_8e157) rfl hc hs (by decide +kernel) hR
theorem cw_J1_9 (cx : Cx E p s m meth c args RJ1 cc nL ret) {rm : Room} {mc ms : Nat} (hc : rm.cells = mc) (hs : rm.slots = ms) (hR : rm.frames + 1 ≤ R.frames ∧ 8 + (2 + 11) + rm.locals ≤ R.locals) : CallB R s args RJ1 9 yJ0_checkIndex_df160 cJ0_checkIndex_df160 2 none (wC yJ0_checkIndex_df160 cJ0_checkIndex_df160 2 none) rm mc ms 2 ∧ (Cond.static yJ0_checkIndex_df160).before args s = true := va_cwS 2 cx.1.2.2.2.2 (gd_S qM_J1_9 qT_J0_checkIndex_df160 qN_J0 qC_J0_checkIndex_df160) rfl hc hs (by decide +kernel) hR
theorem cw_J2_48 (cx : Cx E p s m meth c args RJ2 cc nL ret) {rm : Room} {mc ms : Nat} (hc : rm.cells = mc) (hs : rm.slots = ms) (hR : rm.frames + 1 ≤ R.frames ∧ 8 + (1 + 11) + rm.locals ≤ R.locals) : CallB R s args RJ2 48 yJ2_length_9d52b cJ2_length_9d52b 1 (some .int) (wC yJ2_length_9d52b cJ2_length_9d52b 1 (some .int)) rm mc ms 1 ∧ (Cond.static yJ2_length_9d52b).before args s = true := va_cwS 1 cx.1.2.2.2.2 (gd_S qM_J2_48 qT_J2_length_9d52b qN_J2 qC_J2_length_9d52b) rfl hc hs (by decide +kernel) hR
theorem cw_J2_67 (cx : Cx E p s m meth c args RJ2 cc nL ret) {rm : Room} {mc ms : Nat} (hc : rm.cells = mc) (hs : rm.slots = ms) (hR : rm.frames + 1 ≤ R.frames ∧ 8 + (2 + 11) + rm.locals ≤ R.locals) : CallB R s args RJ2 67 yJ2_checkIndex_2214a cJ2_checkIndex_2214a 2 none (wC yJ2_checkIndex_2214a cJ2_checkIndex_2214a 2 none) rm mc ms 2 ∧ (Cond.static yJ2_checkIndex_2214a).before args s = true := va_cwS 2 cx.1.2.2.2.2 (gd_S qM_J2_67 qT_J2_checkIndex_2214a qN_J2 qC_J2_checkIndex_2214a) rfl hc hs (by decide +kernel) hR
theorem cw_J2_71 (cx : Cx E p s m meth c args RJ2 cc nL ret) {rm : Room} {mc ms : Nat} (hc : rm.cells = mc) (hs : rm.slots = ms) (hR : rm.frames + 1 ≤ R.frames ∧ 8 + (2 + 11) + rm.locals ≤ R.locals) : CallB R s args RJ2 71 yJ2_getChar_3b067 cJ2_getChar_3b067 2 (some .char) (wC yJ2_getChar_3b067 cJ2_getChar_3b067 2 (some .char)) rm mc ms 2 ∧ (Cond.static yJ2_getChar_3b067).before args s = true := va_cwS 2 cx.1.2.2.2.2 (gd_S qM_J2_71 qT_J2_getChar_3b067 qN_J2 qC_J2_getChar_3b067) rfl hc hs (by decide +kernel) hR
theorem cw_J2_414 (cx : Cx E p s m meth c args RJ2 cc nL ret) {rm : Room} {mc ms : Nat} (hc : rm.cells = mc) (hs : rm.slots = ms) (hR : rm.frames + 1 ≤ R.frames ∧ 8 + (2 + 11) + rm.locals ≤ R.locals) : CallB R s args RJ2 414 yJ0_checkIndex_df160 cJ0_checkIndex_df160 2 none (wC yJ0_checkIndex_df160 cJ0_checkIndex_df160 2 none) rm mc ms 2 ∧ (Cond.static yJ0_checkIndex_df160).before args s = true := va_cwS 2 cx.1.2.2.2.2 (gd_S qM_J2_414 qT_J0_checkIndex_df160 qN_J0 qC_J0_checkIndex_df160) rfl hc hs (by decide +kernel) hR
end CALLS
end
section
/-! what stood at the law's start, seen from a method's own start -/
section STAT
variable {p : Program} {l : Launch} {e : Env} {R : Room} {s : State} {m : MethodId} {args : Array Value} {below : List Frame} {meth : Method} {c : Code} {H : Heap} {locs : List Loc} {cells slots : Nat} {Q : State → Prop}
variable {E : Ev} {σ : SM} {own : String} {cc : ByteArray} {nL pc : Nat} {ret : Option FieldType} {ls : Array Slot} {rest st : List Value}
theorem zS (cx : Cx E p s m meth c args own cc nL ret) {C n d : String} {v : Value} (h : va_Z C n d v (eA E) (eS E) (eS E).heap) : va_Z C n d v (eA E) s s.heap := (va_Z.moved cx.2.2.1.1 h).kept (fun a h1 _ => cx.2.2.2.2.1 a h1)
theorem zqS (cx : Cx E p s m meth c args own cc nL ret) {C n d : String} (h : va_Zq C n d (eA E) (eS E) (eS E).heap) : va_Zq C n d (eA E) s s.heap := (va_Zq.moved cx.2.2.1.1 h).kept (fun a h1 _ => cx.2.2.2.2.1 a h1)
theorem zvS (cx : Cx E p s m meth c args own cc nL ret) {C n d : String} (h : va_Zq C n d (eA E) (eS E) (eS E).heap) : ∃ v : Value, va_Z C n d v (eA E) s s.heap ∧ v.category = 1 := by
  rcases zqS cx h with h | ⟨t, h⟩
  · exact ⟨.null, h, rfl⟩
  · exact ⟨.ref t, h, rfl⟩
theorem tS (cx : Cx E p s m meth c args own cc nL ret) {ty : FieldType} {t N : Nat} {f : Nat → Value} (h : va_T ty t N f (eA E) (eS E) (eS E).heap) : va_T ty t N f (eA E) s s.heap := (va_T.moved cx.2.2.1.1 h).kept (fun a h1 _ => cx.2.2.2.2.1 a h1)
theorem oS (cx : Cx E p s m meth c args own cc nL ret) {C : String} {t : Nat} (h : va_O C t (eA E) (eS E) (eS E).heap) : va_O C t (eA E) s s.heap := (va_O.moved cx.2.2.1.1 h).kept (fun a h1 _ => cx.2.2.2.2.1 a h1)
theorem ofS (cx : Cx E p s m meth c args own cc nL ret) {o n d : String} {v : Value} {t : Nat} (h : va_OF o n d v t (eA E) (eS E) (eS E).heap) : va_OF o n d v t (eA E) s s.heap := (va_OF.moved cx.2.2.1.1 h).kept (fun a h1 _ => cx.2.2.2.2.1 a h1)
/-- the class of an object that nobody writes -/
theorem rcS (cx : Cx E p s m meth c args own cc nL ret) (hp : Hp E σ s H locs) {C : String} {t : Nat} (h : va_O C t (eA E) (eS E) (eS E).heap) : ∃ cell : Cell, H[t]? = some cell ∧ cell.vm.isStatics = false ∧ s.vm.findClass C = some cell.cls := by
  obtain ⟨cell, h1, h2, h3, -⟩ := (oS cx h).kept hp.2.2.1
  exact ⟨cell, h1, h2, h3⟩
/-- a field of it, by a nest mate -/
theorem vk_getfN (hexec : p.tables.exec = Jvm.exec) (hb : c.code = cc) {A : Nat → Prop} {o n d own ref host : String} {index q : Nat} {v : Value} (hE : va_OF o n d v q A s s.heap) (hS : va_S A s.heap H locs) (hown : s.vm.findClass own = some m.cls) (hlink : (Cond.fieldLinkNest own index ref n d host).before args s = true) (hsame : ∀ x, s.fieldFound? o n d = some x → s.fieldFound? ref n d = some x) (hdg : decode cc pc = .ok (.getfield index, 3))
    (kk : W p l e R s m args below meth c H locs cells slots Q (F0 m (pc + 3) ls (v :: rest))) : W p l e R s m args below meth c H locs cells slots Q (F0 m pc ls (.ref q :: rest)) := by
  obtain ⟨cf, kf, fi, f, cell, h1, h2, h3, h4, h5, h6⟩ := hE.kept hS.2.1
  exact va_Wgetf hexec hb hown hlink (hsame _ h1) h2 h3 h4 (v := v) h5 rfl rfl hdg kk
/-- an entry of a table of references that nobody writes -/
theorem va_tr (hexec : p.tables.exec = Jvm.exec) (hb : c.code = cc) {A : Nat → Prop} {C : String} {t N : Nat} {f : Nat → Value} (hT : va_T (.object C) t N f A s s.heap) (hS : va_S A s.heap H locs) {i : Int32} (hin : vp_in i N) {v : Value} (hv : f i.toNatClampNeg = v) (hdg : decode cc pc = .ok (.aaload, 1))
    (kk : W p l e R s m args below meth c H locs cells slots Q (F0 m (pc + 1) ls (v :: rest))) : W p l e R s m args below meth c H locs cells slots Q (F0 m pc ls (.int i :: .ref t :: rest)) := by
  obtain ⟨cell, h1, h2, h3, h4, h5, h6, h7⟩ := hT
  have hlt : i.toNatClampNeg < N := Nat.not_le.mp fun q => hin (Or.inr q)
  have hin' : ¬ (i < 0 ∨ cell.slots.size ≤ i.toNatClampNeg) := by
    intro q
    rcases q with q | q
    · exact hin (Or.inl q)
    · omega
  exact W.aald (v := v) (ty := .object C) hexec hb (by rw [hS.2.1 t (Array.getElem?_eq_some_iff.mp h1).1 h7]; exact h1) h2 rfl h3 hin' (by rw [h6 _ hlt, hv]) rfl rfl hdg kk
/-- a wide load of a text -/
theorem va_ldcSw (hexec : p.tables.exec = Jvm.exec) (hb : c.code = cc) {own tx : String} {index q : Nat} (hown : s.vm.findClass own = some m.cls) (hZ : vk_R own index tx q s) (hdg : decode cc pc = .ok (.ldc_w index, 3))
    (k : W p l e R s m args below meth c H locs cells slots Q (F0 m (pc + 3) ls (.ref q :: rest))) : W p l e R s m args below meth c H locs cells slots Q (F0 m pc ls rest) := by
  intro T hT X
  obtain ⟨t, a1, b1⟩ := k T hT X
  exact ⟨t, ldcStringW X hexec hown (text := tx) (a := q) hZ.1 hZ.2 (g := F0 m pc ls rest) rfl (by rw [hb]; exact hdg) t a1, b1⟩
theorem y_U {lv : List (Nat × Value)} {x y : MethodName} {bytes : ByteArray} {maxL idx n mc ms : Nat} {ret' : Option FieldType} {rm : Room} {C owner : String} {b : Nat} {As : List Value} {Qc : Array Value → State → Outcome → State → Prop} {free : Addr → Prop} (cx : Cx E p s m meth c args own cc nL ret) (hp : Hp E σ s H locs) (hl : lv_has ls nL lv)
    (hM : Met l y (wC y bytes maxL ret') rm (va_Pc (.ref b :: As) (Wu E σ)) Qc mc ms free) (cw : va_CU R s args own C owner idx x y bytes maxL ret' (wC y bytes maxL ret') rm mc ms n) (hrecv : ∃ cell : Cell, H[b]? = some cell ∧ cell.vm.isStatics = false ∧ s.vm.findClass C = some cell.cls) (hn : As.length = n) (hst : st = As.reverse ++ .ref b :: rest) (hW : (rest.map fun v => v.category).sum ≤ 8)
    (hdg : decode cc pc = .ok (.invokevirtual idx, 3)) (hf : cells + mc ≤ R.cells ∧ slots + ms ≤ R.slots) : va_Run p l e R s m args below meth c H locs cells slots mc ms (F0 m pc ls st) rest (Qc (Value.ref b :: As).toArray) free :=
  va_runU cx.1 hM cw ⟨wu_blind, hrecv, fun U hU hW => ⟨rfl, wu_at cx hp.1 U hU hW⟩⟩ rfl hn hl.1 hst (lv_room hW) hdg hf
/-- the rows of references: the undo slots -/
theorem lA_X4_1 (hN : 129 ≤ eN E) (cx : Cx E p s m meth c args own cc nL ret) (hp : Hp E σ s H locs) {i : Int32} (hin : inb i 8 = true) (hdg : decode cc pc = .ok (.aaload, 1)) (kk : W p l e R s m args below meth c H locs cells slots Q (F0 m (pc + 1) ls (.ref (adr E (3 + i.toNatClampNeg) 0) :: rest))) : W p l e R s m args below meth c H locs cells slots Q (F0 m pc ls (.int i :: .ref (adr E 16 1) :: rest)) :=
  va_aldq (C := RX5) cx.1.1 cx.1.2.1 cx.2.2.1.2.1 hp.1.1 (lin 16 1) 4 (wo_16_1 (μ := σ 16) rfl hN) rfl (inb_vp hin) hdg kk
end STAT
theorem cz_n {v : Int32} (h : cz v = true) : narrow .char (.int v) = .int v := by
  have h1 : v = (v.toUInt32 % 65536).toInt32 := by simpa [cz] using h
  rw [h1]
  exact pk_nc _
theorem us_x2 {σ u : SM} {a b : Nat} {μ ν : OM} (h1 : u a = μ) (h2 : u b = ν) (h3 : ∀ q, q ≠ a → q ≠ b → u q = σ q) : u = us (us σ a μ) b ν := by
  funext q
  by_cases hb : q = b
  · rw [hb, h2, us_s]
  · rw [us_n hb]
    by_cases ha : q = a
    · rw [ha, h1, us_s]
    · rw [us_n ha, h3 q ha hb]
theorem us_x3 {σ u : SM} {a b d : Nat} {μ ν ξ : OM} (h1 : u a = μ) (h2 : u b = ν) (h4 : u d = ξ) (h3 : ∀ q, q ≠ a → q ≠ b → q ≠ d → u q = σ q) : u = us (us (us σ a μ) b ν) d ξ := by
  funext q
  by_cases hd : q = d
  · rw [hd, h4, us_s]
  · rw [us_n hd]
    by_cases hb : q = b
    · rw [hb, h2, us_s]
    · rw [us_n hb]
      by_cases ha : q = a
      · rw [ha, h1, us_s]
      · rw [us_n ha, h3 q ha hb hd]
theorem nn64_vf {x : UInt64} (h : nn64 x = true) : vf_n64 x := by simpa [nn64, vf_n64] using h
theorem nn32_vf {x : UInt32} (h : nn32 x = true) : vf_n32 x := by simpa [nn32, vf_n32] using h
section DRET
variable {p : Program} {l : Launch} {e : Env} {R : Room} {s : State} {m : MethodId} {args : Array Value} {below : List Frame} {meth : Method} {c : Code} {H : Heap} {locs : List Loc} {cells slots : Nat} {Q : State → Prop}
variable {E : Ev} {σ : SM} {own : String} {cc : ByteArray} {nL pc : Nat} {ret : Option FieldType} {ls : Array Slot} {rest st : List Value}
theorem r_d (cx : Cx E p s m meth c args own cc nL (some .double)) (hp : Hp E σ s H locs) {post : UInt64 → SM → Prop} {v : UInt64} (hq : post v σ) (hdg : decode cc pc = .ok (.dreturn, 1)) : W p l e R s m args below meth c H locs cells slots (MQ below (va_Qd post (fun u t => Wu E u t) (eA E)) args s cells slots (eA E)) (F0 m pc ls [.double v]) :=
  W.dret cx.1.1 cx.1.2.1 cx.2.1.1 (fun t ht hW => ⟨⟨v, σ, rfl, hq, wu_at cx hp.1 t ht hW⟩, hp.2.F ht⟩) hp.2.2.2 hdg cx.2.1.2
theorem r_f (cx : Cx E p s m meth c args own cc nL (some .float)) (hp : Hp E σ s H locs) {post : UInt32 → SM → Prop} {v : UInt32} (hq : post v σ) (hdg : decode cc pc = .ok (.freturn, 1)) : W p l e R s m args below meth c H locs cells slots (MQ below (va_Qf post (fun u t => Wu E u t) (eA E)) args s cells slots (eA E)) (F0 m pc ls [.float v]) :=
  W.fret cx.1.1 cx.1.2.1 cx.2.1.1 (fun t ht hW => ⟨⟨v, σ, rfl, hq, wu_at cx hp.1 t ht hW⟩, hp.2.F ht⟩) hp.2.2.2 hdg cx.2.1.2
theorem x_d {a : Array Value} {post : UInt64 → SM → Prop} (hp : Hp E σ s H locs) (hr : va_Run p l e R s m args below meth c H locs cells slots 0 0 (F0 m pc ls st) rest (va_Qd post (fun u t => Wu E u t) (eA E) a) (eA E))
    (kk : ∀ (r : UInt64) (u : SM) (H1 : Heap) (locs1 : List Loc), post r u → Hp E u s H1 locs1 → W p l e R s m args below meth c H1 locs1 cells slots Q (F0 m (pc + 3) ls (.double r :: rest))) : W p l e R s m args below meth c H locs cells slots Q (F0 m pc ls st) :=
  va_calld hr hp.2 (fun _ _ h => h) (fun _ h => h) (fun r u t H1 locs1 ht _ hw hB _ _ hS => kk r u H1 locs1 hw ⟨ht ▸ hB.2, hS⟩)
theorem x_f {a : Array Value} {post : UInt32 → SM → Prop} (hp : Hp E σ s H locs) (hr : va_Run p l e R s m args below meth c H locs cells slots 0 0 (F0 m pc ls st) rest (va_Qf post (fun u t => Wu E u t) (eA E) a) (eA E))
    (kk : ∀ (r : UInt32) (u : SM) (H1 : Heap) (locs1 : List Loc), post r u → Hp E u s H1 locs1 → W p l e R s m args below meth c H1 locs1 cells slots Q (F0 m (pc + 3) ls (.float r :: rest))) : W p l e R s m args below meth c H locs cells slots Q (F0 m pc ls st) :=
  va_callf hr hp.2 (fun _ _ h => h) (fun _ h => h) (fun r u t H1 locs1 ht _ hw hB _ _ hS => kk r u H1 locs1 hw ⟨ht ▸ hB.2, hS⟩)
end DRET
theorem inb_lt {i : Int32} {n : Nat} (h : inb i n = true) : i.toNatClampNeg < n := Nat.not_le.mp fun q => inb_vp h (Or.inr q)
theorem i_ne {x y : Int32} {n : Int} (h : ¬ x = y) (hn : y.toInt = n) : x.toInt ≠ n := fun q => h (Int32.toInt_inj.mp (q.trans hn.symm))
theorem lg_v3 (a b : Int32) {v : Value} (h : v.category = 1) : (lg_sl [.int a, .int b, v]).length ≤ 3 := by
  cases v <;> first | exact Nat.le_of_ble_eq_true rfl | cases h
end

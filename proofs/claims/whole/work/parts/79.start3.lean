theorem dec_19 : ∀ k, k < 130 → (dec k).1 ≤ 19 := by decide +kernel
theorem adr_w {E : Ev} {La : Nat → Nat} {n N : Nat} (h : ∀ q, q < N → La q = eL E q) {o k : Nat} (hq : lin o k < N) : adr (wE E La n) o k = adr E o k := h _ hq
set_option maxHeartbeats 4000000 in
theorem cel_w {E : Ev} {La : Nat → Nat} {n N : Nat} (h : ∀ q, q < N → La q = eL E q) (hN : 130 ≤ N) {o k : Nat} {μ : OM} (ho : o ≤ 19 ∨ (o = 20 ∧ 146 ≤ N)) (hk : o = 16 → k = 0) : celX (wE E La n) o k μ = celX E o k μ := by
  have a : ∀ o' k', lin o' k' < 130 → adr (wE E La n) o' k' = adr E o' k' := fun o' k' hq => adr_w h (by omega)
  by_cases h11 : o < 11
  · rw [cel_M h11, cel_M h11]
    match k with
    | 0 =>
      show (Sum.inr (3, [.int (μ.1 0 0), .int (μ.1 0 1), .int (μ.1 0 2), .int (μ.1 0 3), .int (μ.1 0 4), .int (μ.1 0 5), .int (μ.1 0 6), .int (μ.1 0 7), .int (μ.1 0 8), .ref (adr (wE E La n) o 1), .ref (adr (wE E La n) o 2), .ref (adr (wE E La n) o 3), .ref (adr (wE E La n) o 4), .ref (adr (wE E La n) o 5), .ref (adr (wE E La n) o 6), .ref (adr (wE E La n) o 7), .ref (adr (wE E La n) o 8), .ref (adr (wE E La n) o 9)]) : va_E) = Sum.inr (3, [.int (μ.1 0 0), .int (μ.1 0 1), .int (μ.1 0 2), .int (μ.1 0 3), .int (μ.1 0 4), .int (μ.1 0 5), .int (μ.1 0 6), .int (μ.1 0 7), .int (μ.1 0 8), .ref (adr E o 1), .ref (adr E o 2), .ref (adr E o 3), .ref (adr E o 4), .ref (adr E o 5), .ref (adr E o 6), .ref (adr E o 7), .ref (adr E o 8), .ref (adr E o 9)])
      rw [a o 1 (by rw [lin_M h11]; omega), a o 2 (by rw [lin_M h11]; omega), a o 3 (by rw [lin_M h11]; omega), a o 4 (by rw [lin_M h11]; omega), a o 5 (by rw [lin_M h11]; omega), a o 6 (by rw [lin_M h11]; omega), a o 7 (by rw [lin_M h11]; omega), a o 8 (by rw [lin_M h11]; omega), a o 9 (by rw [lin_M h11]; omega)]
    | 1 => rfl
    | 2 => rfl
    | 3 => rfl
    | 4 => rfl
    | 5 => rfl
    | 6 => rfl
    | 7 => rfl
    | 8 => rfl
    | k + 9 => rfl
  · have h12 : o = 11 ∨ o = 12 ∨ o = 13 ∨ o = 14 ∨ o = 15 ∨ o = 16 ∨ o = 17 ∨ o = 18 ∨ o = 19 ∨ (o = 20 ∧ 146 ≤ N) := by omega
    rcases h12 with rfl | rfl | rfl | rfl | rfl | rfl | rfl | rfl | rfl | ⟨rfl, h146⟩
    · skip
      show (Sum.inr (5, [.ref (adr (wE E La n) 12 0), .int (μ.1 k 1), .int (μ.1 k 2)]) : va_E) = Sum.inr (5, [.ref (adr E 12 0), .int (μ.1 k 1), .int (μ.1 k 2)])
      rw [a 12 0 (by decide)]
    · skip
      show (Sum.inr (7, [.ref (adr (wE E La n) 13 0), .int (μ.1 k 1), .int (μ.1 k 2), .int (μ.1 k 3), .int (μ.1 k 4), .long (μ.2.1 k 5)]) : va_E) = Sum.inr (7, [.ref (adr E 13 0), .int (μ.1 k 1), .int (μ.1 k 2), .int (μ.1 k 3), .int (μ.1 k 4), .long (μ.2.1 k 5)])
      rw [a 13 0 (by decide)]
    · match k with
      | 0 =>
        show (Sum.inr (1, [.ref (adr (wE E La n) 13 1), .int (μ.1 0 1)]) : va_E) = Sum.inr (1, [.ref (adr E 13 1), .int (μ.1 0 1)])
        rw [a 13 1 (by decide)]
      | k + 1 => rfl
    · match k with
      | 0 =>
        show (Sum.inr (1, [.ref (adr (wE E La n) 14 1), .int (μ.1 0 1)]) : va_E) = Sum.inr (1, [.ref (adr E 14 1), .int (μ.1 0 1)])
        rw [a 14 1 (by decide)]
      | k + 1 => rfl
    · match k with
      | 0 =>
        show (Sum.inr (6, [.ref (adr (wE E La n) 15 1), .ref (adr (wE E La n) 15 2), .ref (adr (wE E La n) 15 3), .int (μ.1 0 3)]) : va_E) = Sum.inr (6, [.ref (adr E 15 1), .ref (adr E 15 2), .ref (adr E 15 3), .int (μ.1 0 3)])
        rw [a 15 1 (by decide), a 15 2 (by decide), a 15 3 (by decide)]
      | 1 => rfl
      | k + 2 => rfl
    · obtain rfl := hk rfl
      show (Sum.inr (2, [.ref (adr (wE E La n) 16 1), .int (μ.1 0 1), .int (μ.1 0 2)]) : va_E) = Sum.inr (2, [.ref (adr E 16 1), .int (μ.1 0 1), .int (μ.1 0 2)])
      rw [a 16 1 (by decide)]
    · match k with
      | 0 =>
        show (Sum.inr (0, [.ref (adr (wE E La n) 17 1), .ref (adr (wE E La n) 17 2), .ref (adr (wE E La n) 17 3), .ref (adr (wE E La n) 17 4), .int (μ.1 0 4)]) : va_E) = Sum.inr (0, [.ref (adr E 17 1), .ref (adr E 17 2), .ref (adr E 17 3), .ref (adr E 17 4), .int (μ.1 0 4)])
        rw [a 17 1 (by decide), a 17 2 (by decide), a 17 3 (by decide), a 17 4 (by decide)]
      | 1 => rfl
      | 2 => rfl
      | 3 => rfl
      | k + 4 => rfl
    · match k with
      | 0 =>
        show (Sum.inr (4, [.ref (adr (wE E La n) 18 1), .int (μ.1 0 1), .int (μ.1 0 2)]) : va_E) = Sum.inr (4, [.ref (adr E 18 1), .int (μ.1 0 1), .int (μ.1 0 2)])
        rw [a 18 1 (by decide)]
      | k + 1 => rfl
    · skip
      show (Sum.inr (8, [.ref (adr (wE E La n) 11 0), .ref (adr (wE E La n) 14 0), .ref (adr (wE E La n) 15 0), .ref (adr (wE E La n) 0 0), .ref (adr (wE E La n) 1 0), .ref (adr (wE E La n) 2 0), .int (μ.1 k 6), .ref (adr (wE E La n) 16 0), .ref (adr (wE E La n) 17 0), .ref (adr (wE E La n) 18 0)]) : va_E) = Sum.inr (8, [.ref (adr E 11 0), .ref (adr E 14 0), .ref (adr E 15 0), .ref (adr E 0 0), .ref (adr E 1 0), .ref (adr E 2 0), .int (μ.1 k 6), .ref (adr E 16 0), .ref (adr E 17 0), .ref (adr E 18 0)])
      rw [a 11 0 (by decide), a 14 0 (by decide), a 15 0 (by decide), a 0 0 (by decide), a 1 0 (by decide), a 2 0 (by decide), a 16 0 (by decide), a 17 0 (by decide), a 18 0 (by decide)]
    · match k with
      | 0 =>
        show (Sum.inr (9, [.ref (adr (wE E La n) 20 1), .ref (adr (wE E La n) 20 2), .ref (adr (wE E La n) 20 3), .ref (adr (wE E La n) 20 4), .int (μ.1 0 4), .int (μ.1 0 5), .ref (adr (wE E La n) 20 5), .int (μ.1 0 7), .int (μ.1 0 8), .int (μ.1 0 9), .ref (adr (wE E La n) 20 6), .int (μ.1 0 11), .int (μ.1 0 12), .ref (adr (wE E La n) 20 7), .ref (adr (wE E La n) 20 8), .ref (adr (wE E La n) 20 9), .ref (adr (wE E La n) 20 10), .ref (adr (wE E La n) 20 11), .ref (adr (wE E La n) 20 12), .int (μ.1 0 19), .int (μ.1 0 20), .int (μ.1 0 21), .int (μ.1 0 22), .int (μ.1 0 23), .int (μ.1 0 24), .ref (adr (wE E La n) 20 13), .int (μ.1 0 26), .ref (adr (wE E La n) 20 14), .ref (adr (wE E La n) 20 15)]) : va_E) = Sum.inr (9, [.ref (adr E 20 1), .ref (adr E 20 2), .ref (adr E 20 3), .ref (adr E 20 4), .int (μ.1 0 4), .int (μ.1 0 5), .ref (adr E 20 5), .int (μ.1 0 7), .int (μ.1 0 8), .int (μ.1 0 9), .ref (adr E 20 6), .int (μ.1 0 11), .int (μ.1 0 12), .ref (adr E 20 7), .ref (adr E 20 8), .ref (adr E 20 9), .ref (adr E 20 10), .ref (adr E 20 11), .ref (adr E 20 12), .int (μ.1 0 19), .int (μ.1 0 20), .int (μ.1 0 21), .int (μ.1 0 22), .int (μ.1 0 23), .int (μ.1 0 24), .ref (adr E 20 13), .int (μ.1 0 26), .ref (adr E 20 14), .ref (adr E 20 15)])
        rw [adr_w (n := n) h (o := 20) (k := 1) (Nat.lt_of_lt_of_le (by decide) h146), adr_w (n := n) h (o := 20) (k := 2) (Nat.lt_of_lt_of_le (by decide) h146), adr_w (n := n) h (o := 20) (k := 3) (Nat.lt_of_lt_of_le (by decide) h146), adr_w (n := n) h (o := 20) (k := 4) (Nat.lt_of_lt_of_le (by decide) h146), adr_w (n := n) h (o := 20) (k := 5) (Nat.lt_of_lt_of_le (by decide) h146), adr_w (n := n) h (o := 20) (k := 6) (Nat.lt_of_lt_of_le (by decide) h146), adr_w (n := n) h (o := 20) (k := 7) (Nat.lt_of_lt_of_le (by decide) h146), adr_w (n := n) h (o := 20) (k := 8) (Nat.lt_of_lt_of_le (by decide) h146), adr_w (n := n) h (o := 20) (k := 9) (Nat.lt_of_lt_of_le (by decide) h146), adr_w (n := n) h (o := 20) (k := 10) (Nat.lt_of_lt_of_le (by decide) h146), adr_w (n := n) h (o := 20) (k := 11) (Nat.lt_of_lt_of_le (by decide) h146), adr_w (n := n) h (o := 20) (k := 12) (Nat.lt_of_lt_of_le (by decide) h146), adr_w (n := n) h (o := 20) (k := 13) (Nat.lt_of_lt_of_le (by decide) h146), adr_w (n := n) h (o := 20) (k := 14) (Nat.lt_of_lt_of_le (by decide) h146), adr_w (n := n) h (o := 20) (k := 15) (Nat.lt_of_lt_of_le (by decide) h146)]
      | 1 => rfl
      | 2 => rfl
      | 3 => rfl
      | 4 => rfl
      | 5 => rfl
      | 6 => rfl
      | 7 => rfl
      | 8 => rfl
      | 9 => rfl
      | 10 => rfl
      | 11 => rfl
      | 12 => rfl
      | 13 => rfl
      | k + 14 => rfl
theorem at_w {E : Ev} {La : Nat → Nat} {n N : Nat} (h : ∀ q, q < N → La q = eL E q) (hN : 130 ≤ N) {D : va_G} {cl : List vw_C} {q o k : Nat} {μ : OM} {H : Heap} (ho : o ≤ 19 ∨ (o = 20 ∧ 146 ≤ N)) (hw : va_at D cl (q, celX E o k μ) H) : va_at D cl (q, celX (wE E La n) o k μ) H := by
  by_cases h16 : o = 16 ∧ k ≠ 0
  · obtain ⟨rfl, hk⟩ := h16
    match k, hk with
    | k + 1, _ =>
      have h2 : H[q]? = some (vp_cell (eC E 4) (8, .inr (.inr (.inr (.inr (fun j => some (adr E (3 + j) 0))))))) := hw
      show H[q]? = some (vp_cell (eC E 4) (8, .inr (.inr (.inr (.inr (fun j => some (adr (wE E La n) (3 + j) 0)))))))
      rw [h2, vp_cell_q, vp_cell_q]
      exact congrArg some (arrV_ext (fun j hj => by rw [adr_w (n := n) h (o := 3 + j) (k := 0) (by rw [lin_M (by omega)]; omega)]))
  · rw [cel_w h hN ho (fun e => by
      by_cases hk : k = 0
      · exact hk
      · exact absurd ⟨e, hk⟩ h16)]
    exact hw
theorem wl_ext {E : Ev} {La : Nat → Nat} {N m : Nat} {seg : va_W} {σ σ' : SM} (hE : eN E = N) (h : ∀ q, q < N → La q = eL E q) (hN : 130 ≤ N) (hm : m ≤ 147) (ho : ∀ k, k < N → (dec k).1 ≤ 19 ∨ ((dec k).1 = 20 ∧ 146 ≤ N)) (hσ : ∀ k, k < N → σ' (dec k).1 = σ (dec k).1) (hs : ∀ k, N ≤ k → k < m → seg[k - N]? = some (La k, celX (wE E La m) (dec k).1 (dec k).2 (σ' (dec k).1))) {H : Heap} (hw : Wl E (ws E σ ++ seg) H) : Wl (wE E La m) (ws (wE E La m) σ') H := by
  obtain ⟨hP, hD, hz, ho2, hN2⟩ := hw
  have hlen : (ws E σ).length = N := (ws_len E σ).trans hE
  have key : ∀ k, k < m → (k < N ∧ (ws E σ ++ seg)[k]? = some (La k, celX E (dec k).1 (dec k).2 (σ (dec k).1))) ∨ (N ≤ k ∧ (ws E σ ++ seg)[k]? = some (La k, celX (wE E La m) (dec k).1 (dec k).2 (σ' (dec k).1))) := by
    intro k hk
    rcases Nat.lt_or_ge k N with q | q
    · refine Or.inl ⟨q, ?_⟩
      rw [List.getElem?_append_left (by omega), h k q, ws, List.getElem?_map, List.getElem?_range (by omega)]
      rfl
    · refine Or.inr ⟨q, ?_⟩
      rw [List.getElem?_append_right (by omega), hlen]
      exact hs k q hk
  have hq9 : ∀ (k : Nat) (q : Nat × va_E), (ws (wE E La m) σ')[k]? = some q → k < m ∧ q = (La k, celX (wE E La m) (dec k).1 (dec k).2 (σ' (dec k).1)) := by
    intro k q hq
    have hk : k < m := by
      have h1 := (List.getElem?_eq_some_iff.mp hq).1
      rw [ws_len] at h1
      exact h1
    exact ⟨hk, (Option.some.inj ((ws_k E La m σ' hk).symm.trans hq)).symm⟩
  refine ⟨?_, ?_, hz, ho2, hm⟩
  · intro k q hq
    obtain ⟨hk, rfl⟩ := hq9 k q hq
    rcases key k hk with ⟨h1, h2⟩ | ⟨h1, h2⟩
    · have h3 := hP k _ h2
      rw [hσ k h1]
      exact at_w h hN (ho k h1) h3
    · exact hP k _ h2
  · refine vD_of hD (fun k => k) (fun k q hq => ?_) (fun _ _ _ _ e => e)
    obtain ⟨hk, rfl⟩ := hq9 k q hq
    rcases key k hk with ⟨h1, h2⟩ | ⟨h1, h2⟩
    · exact ⟨_, h2⟩
    · exact ⟨_, h2⟩
abbrev rm_X13_init : Room := { frames := 9, cells := 15, slots := 2987, locals := 194 }
def LaY (E : Ev) (h : Nat) (L : List Nat) : Nat → Nat := fun q => if q < 130 then eL E q else (h :: L).getD (q - 130) 0
set_option maxRecDepth 100000 in
set_option maxHeartbeats 4000000 in
theorem c_X13_init (l : Launch) {E : Ev} (hE : eN E = 130) (hT : St E) {σ : SM} {h : Nat} {ρ1 ρ2 ρ3 ρ4 : OM} (h1 : f_X13_puts 22 (wI ZM 0 9 (-1)) = some ρ1) (h2 : f_X13_puts 23 ρ1 = some ρ2) (h3 : f_X13_starts ρ2 = some ρ3) (h4 : f_X13_readsSetup ρ3 = some ρ4) : Met l yX13_init (wC yX13_init cX13_init 1 none) rm_X13_init (va_Pc [.ref h] (Wul E (ws E σ ++ [(h, .inr (9, [.null, .null, .null, .null, .int 0, .int 0, .null, .int 0, .int 0, .int 0, .null, .int 0, .int 0, .null, .null, .null, .null, .null, .null, .int 0, .int 0, .int 0, .int 0, .int 0, .int 0, .null, .int 0, .null, .null]))]))) (va_Qv (fun (La : Nat → Nat) => La 129 = eL E 129 ∧ La 130 = h) (fun (La : Nat → Nat) t => Wu (wE E La 146) (us σ 20 (wI ρ4 0 7 0)) t) (eA E)) 15 2987 (eA E) := by
  refine gI_entry (lv := [(0, .ref h)]) (by decide) (Nat.le_of_ble_eq_true rfl) rfl ?_
  intro p e s m below meth c cx hnm hp ls hl
  have hx := cx.1.1
  have hb := cx.1.2.1
  refine lv_aload_n hx hb dX13_init_0 rfl (lv_at hl 0 rfl) ?_
  refine oiJ cx qM_X13_1 hl.1 dX13_init_1 (by decide) (by decide) ?_
  refine lv_aload_n hx hb dX13_init_4 rfl (lv_at hl 0 rfl) ?_
  refine lv_sipush (v := 137) hx hb dX13_init_5 (by decide) ?_
  refine hl_newa cx hp (atype := .int) (ty := .int) rfl 0 rfl qR_48 ((137, .inl (fun _ => 0))) (fun _ => rfl) (N' := 137) (by decide) (by decide) (by decide) (by decide) (by decide) dX13_init_8 (fun q1 H hp => ?_)
  have hp : Hl E (ws E σ ++ ((h, .inr (9, [.null, .null, .null, .null, .int 0, .int 0, .null, .int 0, .int 0, .int 0, .null, .int 0, .int 0, .null, .null, .null, .null, .null, .null, .int 0, .int 0, .int 0, .int 0, .int 0, .int 0, .null, .int 0, .null, .null])) :: [(q1, aI E 137 (fun _ => 0))])) s _ _ := hp.assoc
  refine hl_putF cx hnm hp 0 (C := RX13) (T := TX13) (N := 29) (ci := 9) rfl rfl inB_X13 tyX13 tyX13_ok nmX13 0 (by decide) qF_X13_7 rfl rfl rfl (ty := .array .int) (v := .ref q1) (by decide +kernel) rfl rfl (Nat.le_of_ble_eq_true rfl) dX13_init_10 (fun H locs hp => ?_)
  have hp : Hl E (ws E σ ++ ((h, .inr (9, [.ref q1, .null, .null, .null, .int 0, .int 0, .null, .int 0, .int 0, .int 0, .null, .int 0, .int 0, .null, .null, .null, .null, .null, .null, .int 0, .int 0, .int 0, .int 0, .int 0, .int 0, .null, .int 0, .null, .null])) :: [(q1, aI E 137 (fun _ => 0))])) s _ _ := hp
  refine lv_aload_n hx hb dX13_init_13 rfl (lv_at hl 0 rfl) ?_
  refine lv_sipush (v := 137) hx hb dX13_init_14 (by decide) ?_
  refine hl_newa cx hp (atype := .int) (ty := .int) rfl 0 rfl qR_48 ((137, .inl (fun _ => 0))) (fun _ => rfl) (N' := 137) (by decide) (by decide) (by decide) (by decide) (by decide) dX13_init_17 (fun q2 H hp => ?_)
  have hp : Hl E (ws E σ ++ ((h, .inr (9, [.ref q1, .null, .null, .null, .int 0, .int 0, .null, .int 0, .int 0, .int 0, .null, .int 0, .int 0, .null, .null, .null, .null, .null, .null, .int 0, .int 0, .int 0, .int 0, .int 0, .int 0, .null, .int 0, .null, .null])) :: [(q1, aI E 137 (fun _ => 0)), (q2, aI E 137 (fun _ => 0))])) s _ _ := hp.assoc
  refine hl_putF cx hnm hp 0 (C := RX13) (T := TX13) (N := 29) (ci := 9) rfl rfl inB_X13 tyX13 tyX13_ok nmX13 1 (by decide) qF_X13_13 rfl rfl rfl (ty := .array .int) (v := .ref q2) (by decide +kernel) rfl rfl (Nat.le_of_ble_eq_true rfl) dX13_init_19 (fun H locs hp => ?_)
  have hp : Hl E (ws E σ ++ ((h, .inr (9, [.ref q1, .ref q2, .null, .null, .int 0, .int 0, .null, .int 0, .int 0, .int 0, .null, .int 0, .int 0, .null, .null, .null, .null, .null, .null, .int 0, .int 0, .int 0, .int 0, .int 0, .int 0, .null, .int 0, .null, .null])) :: [(q1, aI E 137 (fun _ => 0)), (q2, aI E 137 (fun _ => 0))])) s _ _ := hp
  refine lv_aload_n hx hb dX13_init_22 rfl (lv_at hl 0 rfl) ?_
  refine lv_sipush (v := 137) hx hb dX13_init_23 (by decide) ?_
  refine hl_newa cx hp (atype := .int) (ty := .int) rfl 0 rfl qR_48 ((137, .inl (fun _ => 0))) (fun _ => rfl) (N' := 137) (by decide) (by decide) (by decide) (by decide) (by decide) dX13_init_26 (fun q3 H hp => ?_)
  have hp : Hl E (ws E σ ++ ((h, .inr (9, [.ref q1, .ref q2, .null, .null, .int 0, .int 0, .null, .int 0, .int 0, .int 0, .null, .int 0, .int 0, .null, .null, .null, .null, .null, .null, .int 0, .int 0, .int 0, .int 0, .int 0, .int 0, .null, .int 0, .null, .null])) :: [(q1, aI E 137 (fun _ => 0)), (q2, aI E 137 (fun _ => 0)), (q3, aI E 137 (fun _ => 0))])) s _ _ := hp.assoc
  refine hl_putF cx hnm hp 0 (C := RX13) (T := TX13) (N := 29) (ci := 9) rfl rfl inB_X13 tyX13 tyX13_ok nmX13 2 (by decide) qF_X13_16 rfl rfl rfl (ty := .array .int) (v := .ref q3) (by decide +kernel) rfl rfl (Nat.le_of_ble_eq_true rfl) dX13_init_28 (fun H locs hp => ?_)
  have hp : Hl E (ws E σ ++ ((h, .inr (9, [.ref q1, .ref q2, .ref q3, .null, .int 0, .int 0, .null, .int 0, .int 0, .int 0, .null, .int 0, .int 0, .null, .null, .null, .null, .null, .null, .int 0, .int 0, .int 0, .int 0, .int 0, .int 0, .null, .int 0, .null, .null])) :: [(q1, aI E 137 (fun _ => 0)), (q2, aI E 137 (fun _ => 0)), (q3, aI E 137 (fun _ => 0))])) s _ _ := hp
  refine lv_aload_n hx hb dX13_init_31 rfl (lv_at hl 0 rfl) ?_
  refine lv_sipush (v := 1096) hx hb dX13_init_32 (by decide) ?_
  refine hl_newa cx hp (atype := .int) (ty := .int) rfl 0 rfl qR_48 ((1096, .inl (fun _ => 0))) (fun _ => rfl) (N' := 1096) (by decide) (by decide) (by decide) (by decide) (by decide) dX13_init_35 (fun q4 H hp => ?_)
  have hp : Hl E (ws E σ ++ ((h, .inr (9, [.ref q1, .ref q2, .ref q3, .null, .int 0, .int 0, .null, .int 0, .int 0, .int 0, .null, .int 0, .int 0, .null, .null, .null, .null, .null, .null, .int 0, .int 0, .int 0, .int 0, .int 0, .int 0, .null, .int 0, .null, .null])) :: [(q1, aI E 137 (fun _ => 0)), (q2, aI E 137 (fun _ => 0)), (q3, aI E 137 (fun _ => 0)), (q4, aI E 1096 (fun _ => 0))])) s _ _ := hp.assoc
  refine hl_putF cx hnm hp 0 (C := RX13) (T := TX13) (N := 29) (ci := 9) rfl rfl inB_X13 tyX13 tyX13_ok nmX13 3 (by decide) qF_X13_19 rfl rfl rfl (ty := .array .int) (v := .ref q4) (by decide +kernel) rfl rfl (Nat.le_of_ble_eq_true rfl) dX13_init_37 (fun H locs hp => ?_)
  have hp : Hl E (ws E σ ++ ((h, .inr (9, [.ref q1, .ref q2, .ref q3, .ref q4, .int 0, .int 0, .null, .int 0, .int 0, .int 0, .null, .int 0, .int 0, .null, .null, .null, .null, .null, .null, .int 0, .int 0, .int 0, .int 0, .int 0, .int 0, .null, .int 0, .null, .null])) :: [(q1, aI E 137 (fun _ => 0)), (q2, aI E 137 (fun _ => 0)), (q3, aI E 137 (fun _ => 0)), (q4, aI E 1096 (fun _ => 0))])) s _ _ := hp
  refine lv_aload_n hx hb dX13_init_40 rfl (lv_at hl 0 rfl) ?_
  refine lv_sipush (v := 700) hx hb dX13_init_41 (by decide) ?_
  refine hl_newa cx hp (atype := .int) (ty := .int) rfl 0 rfl qR_48 ((700, .inl (fun _ => 0))) (fun _ => rfl) (N' := 700) (by decide) (by decide) (by decide) (by decide) (by decide) dX13_init_44 (fun q5 H hp => ?_)
  have hp : Hl E (ws E σ ++ ((h, .inr (9, [.ref q1, .ref q2, .ref q3, .ref q4, .int 0, .int 0, .null, .int 0, .int 0, .int 0, .null, .int 0, .int 0, .null, .null, .null, .null, .null, .null, .int 0, .int 0, .int 0, .int 0, .int 0, .int 0, .null, .int 0, .null, .null])) :: [(q1, aI E 137 (fun _ => 0)), (q2, aI E 137 (fun _ => 0)), (q3, aI E 137 (fun _ => 0)), (q4, aI E 1096 (fun _ => 0)), (q5, aI E 700 (fun _ => 0))])) s _ _ := hp.assoc
  refine hl_putF cx hnm hp 0 (C := RX13) (T := TX13) (N := 29) (ci := 9) rfl rfl inB_X13 tyX13 tyX13_ok nmX13 6 (by decide) qF_X13_22 rfl rfl rfl (ty := .array .int) (v := .ref q5) (by decide +kernel) rfl rfl (Nat.le_of_ble_eq_true rfl) dX13_init_46 (fun H locs hp => ?_)
  have hp : Hl E (ws E σ ++ ((h, .inr (9, [.ref q1, .ref q2, .ref q3, .ref q4, .int 0, .int 0, .ref q5, .int 0, .int 0, .int 0, .null, .int 0, .int 0, .null, .null, .null, .null, .null, .null, .int 0, .int 0, .int 0, .int 0, .int 0, .int 0, .null, .int 0, .null, .null])) :: [(q1, aI E 137 (fun _ => 0)), (q2, aI E 137 (fun _ => 0)), (q3, aI E 137 (fun _ => 0)), (q4, aI E 1096 (fun _ => 0)), (q5, aI E 700 (fun _ => 0))])) s _ _ := hp
  refine lv_aload_n hx hb dX13_init_49 rfl (lv_at hl 0 rfl) ?_
  refine lv_iconst (v := (-1)) hx hb dX13_init_50 (by decide) ?_
  refine hl_put cx hp 0 (C := RX13) (T := TX13) (N := 29) (ci := 9) rfl rfl inB_X13 tyX13 tyX13_ok nmX13 9 (by decide) qF_X13_25 rfl rfl (ty := .int) (v := .int (-1)) (by decide +kernel) rfl rfl (Nat.le_of_ble_eq_true rfl) dX13_init_51 (fun H locs hp => ?_)
  have hp : Hl E (ws E σ ++ ((h, .inr (9, [.ref q1, .ref q2, .ref q3, .ref q4, .int 0, .int 0, .ref q5, .int 0, .int 0, .int (-1), .null, .int 0, .int 0, .null, .null, .null, .null, .null, .null, .int 0, .int 0, .int 0, .int 0, .int 0, .int 0, .null, .int 0, .null, .null])) :: [(q1, aI E 137 (fun _ => 0)), (q2, aI E 137 (fun _ => 0)), (q3, aI E 137 (fun _ => 0)), (q4, aI E 1096 (fun _ => 0)), (q5, aI E 700 (fun _ => 0))])) s _ _ := hp
  refine lv_aload_n hx hb dX13_init_54 rfl (lv_at hl 0 rfl) ?_
  refine lv_sipush (v := 160) hx hb dX13_init_55 (by decide) ?_
  refine hl_newa cx hp (atype := .int) (ty := .int) rfl 0 rfl qR_48 ((160, .inl (fun _ => 0))) (fun _ => rfl) (N' := 160) (by decide) (by decide) (by decide) (by decide) (by decide) dX13_init_58 (fun q6 H hp => ?_)
  have hp : Hl E (ws E σ ++ ((h, .inr (9, [.ref q1, .ref q2, .ref q3, .ref q4, .int 0, .int 0, .ref q5, .int 0, .int 0, .int (-1), .null, .int 0, .int 0, .null, .null, .null, .null, .null, .null, .int 0, .int 0, .int 0, .int 0, .int 0, .int 0, .null, .int 0, .null, .null])) :: [(q1, aI E 137 (fun _ => 0)), (q2, aI E 137 (fun _ => 0)), (q3, aI E 137 (fun _ => 0)), (q4, aI E 1096 (fun _ => 0)), (q5, aI E 700 (fun _ => 0)), (q6, aI E 160 (fun _ => 0))])) s _ _ := hp.assoc
  refine hl_putF cx hnm hp 0 (C := RX13) (T := TX13) (N := 29) (ci := 9) rfl rfl inB_X13 tyX13 tyX13_ok nmX13 10 (by decide) qF_X13_29 rfl rfl rfl (ty := .array .int) (v := .ref q6) (by decide +kernel) rfl rfl (Nat.le_of_ble_eq_true rfl) dX13_init_60 (fun H locs hp => ?_)
  have hp : Hl E (ws E σ ++ ((h, .inr (9, [.ref q1, .ref q2, .ref q3, .ref q4, .int 0, .int 0, .ref q5, .int 0, .int 0, .int (-1), .ref q6, .int 0, .int 0, .null, .null, .null, .null, .null, .null, .int 0, .int 0, .int 0, .int 0, .int 0, .int 0, .null, .int 0, .null, .null])) :: [(q1, aI E 137 (fun _ => 0)), (q2, aI E 137 (fun _ => 0)), (q3, aI E 137 (fun _ => 0)), (q4, aI E 1096 (fun _ => 0)), (q5, aI E 700 (fun _ => 0)), (q6, aI E 160 (fun _ => 0))])) s _ _ := hp
  refine lv_aload_n hx hb dX13_init_63 rfl (lv_at hl 0 rfl) ?_
  refine lv_bipush (v := 8) hx hb dX13_init_64 (by decide) ?_
  refine hl_newa cx hp (atype := .int) (ty := .int) rfl 0 rfl qR_48 ((8, .inl (fun _ => 0))) (fun _ => rfl) (N' := 8) (by decide) (by decide) (by decide) (by decide) (by decide) dX13_init_66 (fun q7 H hp => ?_)
  have hp : Hl E (ws E σ ++ ((h, .inr (9, [.ref q1, .ref q2, .ref q3, .ref q4, .int 0, .int 0, .ref q5, .int 0, .int 0, .int (-1), .ref q6, .int 0, .int 0, .null, .null, .null, .null, .null, .null, .int 0, .int 0, .int 0, .int 0, .int 0, .int 0, .null, .int 0, .null, .null])) :: [(q1, aI E 137 (fun _ => 0)), (q2, aI E 137 (fun _ => 0)), (q3, aI E 137 (fun _ => 0)), (q4, aI E 1096 (fun _ => 0)), (q5, aI E 700 (fun _ => 0)), (q6, aI E 160 (fun _ => 0)), (q7, aI E 8 (fun _ => 0))])) s _ _ := hp.assoc
  refine hl_putF cx hnm hp 0 (C := RX13) (T := TX13) (N := 29) (ci := 9) rfl rfl inB_X13 tyX13 tyX13_ok nmX13 13 (by decide) qF_X13_32 rfl rfl rfl (ty := .array .int) (v := .ref q7) (by decide +kernel) rfl rfl (Nat.le_of_ble_eq_true rfl) dX13_init_68 (fun H locs hp => ?_)
  have hp : Hl E (ws E σ ++ ((h, .inr (9, [.ref q1, .ref q2, .ref q3, .ref q4, .int 0, .int 0, .ref q5, .int 0, .int 0, .int (-1), .ref q6, .int 0, .int 0, .ref q7, .null, .null, .null, .null, .null, .int 0, .int 0, .int 0, .int 0, .int 0, .int 0, .null, .int 0, .null, .null])) :: [(q1, aI E 137 (fun _ => 0)), (q2, aI E 137 (fun _ => 0)), (q3, aI E 137 (fun _ => 0)), (q4, aI E 1096 (fun _ => 0)), (q5, aI E 700 (fun _ => 0)), (q6, aI E 160 (fun _ => 0)), (q7, aI E 8 (fun _ => 0))])) s _ _ := hp
  refine lv_aload_n hx hb dX13_init_71 rfl (lv_at hl 0 rfl) ?_
  refine lv_bipush (v := 8) hx hb dX13_init_72 (by decide) ?_
  refine hl_newa cx hp (atype := .int) (ty := .int) rfl 0 rfl qR_48 ((8, .inl (fun _ => 0))) (fun _ => rfl) (N' := 8) (by decide) (by decide) (by decide) (by decide) (by decide) dX13_init_74 (fun q8 H hp => ?_)
  have hp : Hl E (ws E σ ++ ((h, .inr (9, [.ref q1, .ref q2, .ref q3, .ref q4, .int 0, .int 0, .ref q5, .int 0, .int 0, .int (-1), .ref q6, .int 0, .int 0, .ref q7, .null, .null, .null, .null, .null, .int 0, .int 0, .int 0, .int 0, .int 0, .int 0, .null, .int 0, .null, .null])) :: [(q1, aI E 137 (fun _ => 0)), (q2, aI E 137 (fun _ => 0)), (q3, aI E 137 (fun _ => 0)), (q4, aI E 1096 (fun _ => 0)), (q5, aI E 700 (fun _ => 0)), (q6, aI E 160 (fun _ => 0)), (q7, aI E 8 (fun _ => 0)), (q8, aI E 8 (fun _ => 0))])) s _ _ := hp.assoc
  refine hl_putF cx hnm hp 0 (C := RX13) (T := TX13) (N := 29) (ci := 9) rfl rfl inB_X13 tyX13 tyX13_ok nmX13 14 (by decide) qF_X13_35 rfl rfl rfl (ty := .array .int) (v := .ref q8) (by decide +kernel) rfl rfl (Nat.le_of_ble_eq_true rfl) dX13_init_76 (fun H locs hp => ?_)
  have hp : Hl E (ws E σ ++ ((h, .inr (9, [.ref q1, .ref q2, .ref q3, .ref q4, .int 0, .int 0, .ref q5, .int 0, .int 0, .int (-1), .ref q6, .int 0, .int 0, .ref q7, .ref q8, .null, .null, .null, .null, .int 0, .int 0, .int 0, .int 0, .int 0, .int 0, .null, .int 0, .null, .null])) :: [(q1, aI E 137 (fun _ => 0)), (q2, aI E 137 (fun _ => 0)), (q3, aI E 137 (fun _ => 0)), (q4, aI E 1096 (fun _ => 0)), (q5, aI E 700 (fun _ => 0)), (q6, aI E 160 (fun _ => 0)), (q7, aI E 8 (fun _ => 0)), (q8, aI E 8 (fun _ => 0))])) s _ _ := hp
  refine lv_aload_n hx hb dX13_init_79 rfl (lv_at hl 0 rfl) ?_
  refine lv_bipush (v := 8) hx hb dX13_init_80 (by decide) ?_
  refine hl_newa cx hp (atype := .int) (ty := .int) rfl 0 rfl qR_48 ((8, .inl (fun _ => 0))) (fun _ => rfl) (N' := 8) (by decide) (by decide) (by decide) (by decide) (by decide) dX13_init_82 (fun q9 H hp => ?_)
  have hp : Hl E (ws E σ ++ ((h, .inr (9, [.ref q1, .ref q2, .ref q3, .ref q4, .int 0, .int 0, .ref q5, .int 0, .int 0, .int (-1), .ref q6, .int 0, .int 0, .ref q7, .ref q8, .null, .null, .null, .null, .int 0, .int 0, .int 0, .int 0, .int 0, .int 0, .null, .int 0, .null, .null])) :: [(q1, aI E 137 (fun _ => 0)), (q2, aI E 137 (fun _ => 0)), (q3, aI E 137 (fun _ => 0)), (q4, aI E 1096 (fun _ => 0)), (q5, aI E 700 (fun _ => 0)), (q6, aI E 160 (fun _ => 0)), (q7, aI E 8 (fun _ => 0)), (q8, aI E 8 (fun _ => 0)), (q9, aI E 8 (fun _ => 0))])) s _ _ := hp.assoc
  refine hl_putF cx hnm hp 0 (C := RX13) (T := TX13) (N := 29) (ci := 9) rfl rfl inB_X13 tyX13 tyX13_ok nmX13 15 (by decide) qF_X13_38 rfl rfl rfl (ty := .array .int) (v := .ref q9) (by decide +kernel) rfl rfl (Nat.le_of_ble_eq_true rfl) dX13_init_84 (fun H locs hp => ?_)
  have hp : Hl E (ws E σ ++ ((h, .inr (9, [.ref q1, .ref q2, .ref q3, .ref q4, .int 0, .int 0, .ref q5, .int 0, .int 0, .int (-1), .ref q6, .int 0, .int 0, .ref q7, .ref q8, .ref q9, .null, .null, .null, .int 0, .int 0, .int 0, .int 0, .int 0, .int 0, .null, .int 0, .null, .null])) :: [(q1, aI E 137 (fun _ => 0)), (q2, aI E 137 (fun _ => 0)), (q3, aI E 137 (fun _ => 0)), (q4, aI E 1096 (fun _ => 0)), (q5, aI E 700 (fun _ => 0)), (q6, aI E 160 (fun _ => 0)), (q7, aI E 8 (fun _ => 0)), (q8, aI E 8 (fun _ => 0)), (q9, aI E 8 (fun _ => 0))])) s _ _ := hp
  refine lv_aload_n hx hb dX13_init_87 rfl (lv_at hl 0 rfl) ?_
  refine lv_bipush (v := 8) hx hb dX13_init_88 (by decide) ?_
  refine hl_newa cx hp (atype := .int) (ty := .int) rfl 0 rfl qR_48 ((8, .inl (fun _ => 0))) (fun _ => rfl) (N' := 8) (by decide) (by decide) (by decide) (by decide) (by decide) dX13_init_90 (fun q10 H hp => ?_)
  have hp : Hl E (ws E σ ++ ((h, .inr (9, [.ref q1, .ref q2, .ref q3, .ref q4, .int 0, .int 0, .ref q5, .int 0, .int 0, .int (-1), .ref q6, .int 0, .int 0, .ref q7, .ref q8, .ref q9, .null, .null, .null, .int 0, .int 0, .int 0, .int 0, .int 0, .int 0, .null, .int 0, .null, .null])) :: [(q1, aI E 137 (fun _ => 0)), (q2, aI E 137 (fun _ => 0)), (q3, aI E 137 (fun _ => 0)), (q4, aI E 1096 (fun _ => 0)), (q5, aI E 700 (fun _ => 0)), (q6, aI E 160 (fun _ => 0)), (q7, aI E 8 (fun _ => 0)), (q8, aI E 8 (fun _ => 0)), (q9, aI E 8 (fun _ => 0)), (q10, aI E 8 (fun _ => 0))])) s _ _ := hp.assoc
  refine hl_putF cx hnm hp 0 (C := RX13) (T := TX13) (N := 29) (ci := 9) rfl rfl inB_X13 tyX13 tyX13_ok nmX13 16 (by decide) qF_X13_41 rfl rfl rfl (ty := .array .int) (v := .ref q10) (by decide +kernel) rfl rfl (Nat.le_of_ble_eq_true rfl) dX13_init_92 (fun H locs hp => ?_)
  have hp : Hl E (ws E σ ++ ((h, .inr (9, [.ref q1, .ref q2, .ref q3, .ref q4, .int 0, .int 0, .ref q5, .int 0, .int 0, .int (-1), .ref q6, .int 0, .int 0, .ref q7, .ref q8, .ref q9, .ref q10, .null, .null, .int 0, .int 0, .int 0, .int 0, .int 0, .int 0, .null, .int 0, .null, .null])) :: [(q1, aI E 137 (fun _ => 0)), (q2, aI E 137 (fun _ => 0)), (q3, aI E 137 (fun _ => 0)), (q4, aI E 1096 (fun _ => 0)), (q5, aI E 700 (fun _ => 0)), (q6, aI E 160 (fun _ => 0)), (q7, aI E 8 (fun _ => 0)), (q8, aI E 8 (fun _ => 0)), (q9, aI E 8 (fun _ => 0)), (q10, aI E 8 (fun _ => 0))])) s _ _ := hp
  refine lv_aload_n hx hb dX13_init_95 rfl (lv_at hl 0 rfl) ?_
  refine lv_bipush (v := 8) hx hb dX13_init_96 (by decide) ?_
  refine hl_newa cx hp (atype := .boolean) (ty := .boolean) rfl 2 rfl qR_188 ((8, .inl (fun _ => 0))) (fun _ => rfl) (N' := 8) (by decide) (by decide) (by decide) (by decide) (by decide) dX13_init_98 (fun q11 H hp => ?_)
  have hp : Hl E (ws E σ ++ ((h, .inr (9, [.ref q1, .ref q2, .ref q3, .ref q4, .int 0, .int 0, .ref q5, .int 0, .int 0, .int (-1), .ref q6, .int 0, .int 0, .ref q7, .ref q8, .ref q9, .ref q10, .null, .null, .int 0, .int 0, .int 0, .int 0, .int 0, .int 0, .null, .int 0, .null, .null])) :: [(q1, aI E 137 (fun _ => 0)), (q2, aI E 137 (fun _ => 0)), (q3, aI E 137 (fun _ => 0)), (q4, aI E 1096 (fun _ => 0)), (q5, aI E 700 (fun _ => 0)), (q6, aI E 160 (fun _ => 0)), (q7, aI E 8 (fun _ => 0)), (q8, aI E 8 (fun _ => 0)), (q9, aI E 8 (fun _ => 0)), (q10, aI E 8 (fun _ => 0)), (q11, aZ E 8 (fun _ => 0))])) s _ _ := hp.assoc
  refine hl_putF cx hnm hp 0 (C := RX13) (T := TX13) (N := 29) (ci := 9) rfl rfl inB_X13 tyX13 tyX13_ok nmX13 17 (by decide) qF_X13_44 rfl rfl rfl (ty := .array .boolean) (v := .ref q11) (by decide +kernel) rfl rfl (Nat.le_of_ble_eq_true rfl) dX13_init_100 (fun H locs hp => ?_)
  have hp : Hl E (ws E σ ++ ((h, .inr (9, [.ref q1, .ref q2, .ref q3, .ref q4, .int 0, .int 0, .ref q5, .int 0, .int 0, .int (-1), .ref q6, .int 0, .int 0, .ref q7, .ref q8, .ref q9, .ref q10, .ref q11, .null, .int 0, .int 0, .int 0, .int 0, .int 0, .int 0, .null, .int 0, .null, .null])) :: [(q1, aI E 137 (fun _ => 0)), (q2, aI E 137 (fun _ => 0)), (q3, aI E 137 (fun _ => 0)), (q4, aI E 1096 (fun _ => 0)), (q5, aI E 700 (fun _ => 0)), (q6, aI E 160 (fun _ => 0)), (q7, aI E 8 (fun _ => 0)), (q8, aI E 8 (fun _ => 0)), (q9, aI E 8 (fun _ => 0)), (q10, aI E 8 (fun _ => 0)), (q11, aZ E 8 (fun _ => 0))])) s _ _ := hp
  refine lv_aload_n hx hb dX13_init_103 rfl (lv_at hl 0 rfl) ?_
  refine lv_bipush (v := 8) hx hb dX13_init_104 (by decide) ?_
  refine hl_newa cx hp (atype := .boolean) (ty := .boolean) rfl 2 rfl qR_188 ((8, .inl (fun _ => 0))) (fun _ => rfl) (N' := 8) (by decide) (by decide) (by decide) (by decide) (by decide) dX13_init_106 (fun q12 H hp => ?_)
  have hp : Hl E (ws E σ ++ ((h, .inr (9, [.ref q1, .ref q2, .ref q3, .ref q4, .int 0, .int 0, .ref q5, .int 0, .int 0, .int (-1), .ref q6, .int 0, .int 0, .ref q7, .ref q8, .ref q9, .ref q10, .ref q11, .null, .int 0, .int 0, .int 0, .int 0, .int 0, .int 0, .null, .int 0, .null, .null])) :: [(q1, aI E 137 (fun _ => 0)), (q2, aI E 137 (fun _ => 0)), (q3, aI E 137 (fun _ => 0)), (q4, aI E 1096 (fun _ => 0)), (q5, aI E 700 (fun _ => 0)), (q6, aI E 160 (fun _ => 0)), (q7, aI E 8 (fun _ => 0)), (q8, aI E 8 (fun _ => 0)), (q9, aI E 8 (fun _ => 0)), (q10, aI E 8 (fun _ => 0)), (q11, aZ E 8 (fun _ => 0)), (q12, aZ E 8 (fun _ => 0))])) s _ _ := hp.assoc
  refine hl_putF cx hnm hp 0 (C := RX13) (T := TX13) (N := 29) (ci := 9) rfl rfl inB_X13 tyX13 tyX13_ok nmX13 18 (by decide) qF_X13_48 rfl rfl rfl (ty := .array .boolean) (v := .ref q12) (by decide +kernel) rfl rfl (Nat.le_of_ble_eq_true rfl) dX13_init_108 (fun H locs hp => ?_)
  have hp : Hl E (ws E σ ++ ((h, .inr (9, [.ref q1, .ref q2, .ref q3, .ref q4, .int 0, .int 0, .ref q5, .int 0, .int 0, .int (-1), .ref q6, .int 0, .int 0, .ref q7, .ref q8, .ref q9, .ref q10, .ref q11, .ref q12, .int 0, .int 0, .int 0, .int 0, .int 0, .int 0, .null, .int 0, .null, .null])) :: [(q1, aI E 137 (fun _ => 0)), (q2, aI E 137 (fun _ => 0)), (q3, aI E 137 (fun _ => 0)), (q4, aI E 1096 (fun _ => 0)), (q5, aI E 700 (fun _ => 0)), (q6, aI E 160 (fun _ => 0)), (q7, aI E 8 (fun _ => 0)), (q8, aI E 8 (fun _ => 0)), (q9, aI E 8 (fun _ => 0)), (q10, aI E 8 (fun _ => 0)), (q11, aZ E 8 (fun _ => 0)), (q12, aZ E 8 (fun _ => 0))])) s _ _ := hp
  refine lv_aload_n hx hb dX13_init_111 rfl (lv_at hl 0 rfl) ?_
  refine lv_bipush (v := 60) hx hb dX13_init_112 (by decide) ?_
  refine hl_newa cx hp (atype := .int) (ty := .int) rfl 0 rfl qR_48 ((60, .inl (fun _ => 0))) (fun _ => rfl) (N' := 60) (by decide) (by decide) (by decide) (by decide) (by decide) dX13_init_114 (fun q13 H hp => ?_)
  have hp : Hl E (ws E σ ++ ((h, .inr (9, [.ref q1, .ref q2, .ref q3, .ref q4, .int 0, .int 0, .ref q5, .int 0, .int 0, .int (-1), .ref q6, .int 0, .int 0, .ref q7, .ref q8, .ref q9, .ref q10, .ref q11, .ref q12, .int 0, .int 0, .int 0, .int 0, .int 0, .int 0, .null, .int 0, .null, .null])) :: [(q1, aI E 137 (fun _ => 0)), (q2, aI E 137 (fun _ => 0)), (q3, aI E 137 (fun _ => 0)), (q4, aI E 1096 (fun _ => 0)), (q5, aI E 700 (fun _ => 0)), (q6, aI E 160 (fun _ => 0)), (q7, aI E 8 (fun _ => 0)), (q8, aI E 8 (fun _ => 0)), (q9, aI E 8 (fun _ => 0)), (q10, aI E 8 (fun _ => 0)), (q11, aZ E 8 (fun _ => 0)), (q12, aZ E 8 (fun _ => 0)), (q13, aI E 60 (fun _ => 0))])) s _ _ := hp.assoc
  refine hl_putF cx hnm hp 0 (C := RX13) (T := TX13) (N := 29) (ci := 9) rfl rfl inB_X13 tyX13 tyX13_ok nmX13 25 (by decide) qF_X13_51 rfl rfl rfl (ty := .array .int) (v := .ref q13) (by decide +kernel) rfl rfl (Nat.le_of_ble_eq_true rfl) dX13_init_116 (fun H locs hp => ?_)
  have hp : Hl E (ws E σ ++ ((h, .inr (9, [.ref q1, .ref q2, .ref q3, .ref q4, .int 0, .int 0, .ref q5, .int 0, .int 0, .int (-1), .ref q6, .int 0, .int 0, .ref q7, .ref q8, .ref q9, .ref q10, .ref q11, .ref q12, .int 0, .int 0, .int 0, .int 0, .int 0, .int 0, .ref q13, .int 0, .null, .null])) :: [(q1, aI E 137 (fun _ => 0)), (q2, aI E 137 (fun _ => 0)), (q3, aI E 137 (fun _ => 0)), (q4, aI E 1096 (fun _ => 0)), (q5, aI E 700 (fun _ => 0)), (q6, aI E 160 (fun _ => 0)), (q7, aI E 8 (fun _ => 0)), (q8, aI E 8 (fun _ => 0)), (q9, aI E 8 (fun _ => 0)), (q10, aI E 8 (fun _ => 0)), (q11, aZ E 8 (fun _ => 0)), (q12, aZ E 8 (fun _ => 0)), (q13, aI E 60 (fun _ => 0))])) s _ _ := hp
  refine lv_aload_n hx hb dX13_init_119 rfl (lv_at hl 0 rfl) ?_
  refine lv_sipush (v := 256) hx hb dX13_init_120 (by decide) ?_
  refine hl_newa cx hp (atype := .int) (ty := .int) rfl 0 rfl qR_48 ((256, .inl (fun _ => 0))) (fun _ => rfl) (N' := 256) (by decide) (by decide) (by decide) (by decide) (by decide) dX13_init_123 (fun q14 H hp => ?_)
  have hp : Hl E (ws E σ ++ ((h, .inr (9, [.ref q1, .ref q2, .ref q3, .ref q4, .int 0, .int 0, .ref q5, .int 0, .int 0, .int (-1), .ref q6, .int 0, .int 0, .ref q7, .ref q8, .ref q9, .ref q10, .ref q11, .ref q12, .int 0, .int 0, .int 0, .int 0, .int 0, .int 0, .ref q13, .int 0, .null, .null])) :: [(q1, aI E 137 (fun _ => 0)), (q2, aI E 137 (fun _ => 0)), (q3, aI E 137 (fun _ => 0)), (q4, aI E 1096 (fun _ => 0)), (q5, aI E 700 (fun _ => 0)), (q6, aI E 160 (fun _ => 0)), (q7, aI E 8 (fun _ => 0)), (q8, aI E 8 (fun _ => 0)), (q9, aI E 8 (fun _ => 0)), (q10, aI E 8 (fun _ => 0)), (q11, aZ E 8 (fun _ => 0)), (q12, aZ E 8 (fun _ => 0)), (q13, aI E 60 (fun _ => 0)), (q14, aI E 256 (fun _ => 0))])) s _ _ := hp.assoc
  refine hl_putF cx hnm hp 0 (C := RX13) (T := TX13) (N := 29) (ci := 9) rfl rfl inB_X13 tyX13 tyX13_ok nmX13 27 (by decide) qF_X13_54 rfl rfl rfl (ty := .array .int) (v := .ref q14) (by decide +kernel) rfl rfl (Nat.le_of_ble_eq_true rfl) dX13_init_125 (fun H locs hp => ?_)
  have hp : Hl E (ws E σ ++ ((h, .inr (9, [.ref q1, .ref q2, .ref q3, .ref q4, .int 0, .int 0, .ref q5, .int 0, .int 0, .int (-1), .ref q6, .int 0, .int 0, .ref q7, .ref q8, .ref q9, .ref q10, .ref q11, .ref q12, .int 0, .int 0, .int 0, .int 0, .int 0, .int 0, .ref q13, .int 0, .ref q14, .null])) :: [(q1, aI E 137 (fun _ => 0)), (q2, aI E 137 (fun _ => 0)), (q3, aI E 137 (fun _ => 0)), (q4, aI E 1096 (fun _ => 0)), (q5, aI E 700 (fun _ => 0)), (q6, aI E 160 (fun _ => 0)), (q7, aI E 8 (fun _ => 0)), (q8, aI E 8 (fun _ => 0)), (q9, aI E 8 (fun _ => 0)), (q10, aI E 8 (fun _ => 0)), (q11, aZ E 8 (fun _ => 0)), (q12, aZ E 8 (fun _ => 0)), (q13, aI E 60 (fun _ => 0)), (q14, aI E 256 (fun _ => 0))])) s _ _ := hp
  refine lv_aload_n hx hb dX13_init_128 rfl (lv_at hl 0 rfl) ?_
  refine lv_sipush (v := 256) hx hb dX13_init_129 (by decide) ?_
  refine hl_newa cx hp (atype := .int) (ty := .int) rfl 0 rfl qR_48 ((256, .inl (fun _ => 0))) (fun _ => rfl) (N' := 256) (by decide) (by decide) (by decide) (by decide) (by decide) dX13_init_132 (fun q15 H hp => ?_)
  have hp : Hl E (ws E σ ++ ((h, .inr (9, [.ref q1, .ref q2, .ref q3, .ref q4, .int 0, .int 0, .ref q5, .int 0, .int 0, .int (-1), .ref q6, .int 0, .int 0, .ref q7, .ref q8, .ref q9, .ref q10, .ref q11, .ref q12, .int 0, .int 0, .int 0, .int 0, .int 0, .int 0, .ref q13, .int 0, .ref q14, .null])) :: [(q1, aI E 137 (fun _ => 0)), (q2, aI E 137 (fun _ => 0)), (q3, aI E 137 (fun _ => 0)), (q4, aI E 1096 (fun _ => 0)), (q5, aI E 700 (fun _ => 0)), (q6, aI E 160 (fun _ => 0)), (q7, aI E 8 (fun _ => 0)), (q8, aI E 8 (fun _ => 0)), (q9, aI E 8 (fun _ => 0)), (q10, aI E 8 (fun _ => 0)), (q11, aZ E 8 (fun _ => 0)), (q12, aZ E 8 (fun _ => 0)), (q13, aI E 60 (fun _ => 0)), (q14, aI E 256 (fun _ => 0)), (q15, aI E 256 (fun _ => 0))])) s _ _ := hp.assoc
  refine hl_putF cx hnm hp 0 (C := RX13) (T := TX13) (N := 29) (ci := 9) rfl rfl inB_X13 tyX13 tyX13_ok nmX13 28 (by decide) qF_X13_57 rfl rfl rfl (ty := .array .int) (v := .ref q15) (by decide +kernel) rfl rfl (Nat.le_of_ble_eq_true rfl) dX13_init_134 (fun H locs hp => ?_)
  have hp : Hl E (ws E σ ++ ((h, .inr (9, [.ref q1, .ref q2, .ref q3, .ref q4, .int 0, .int 0, .ref q5, .int 0, .int 0, .int (-1), .ref q6, .int 0, .int 0, .ref q7, .ref q8, .ref q9, .ref q10, .ref q11, .ref q12, .int 0, .int 0, .int 0, .int 0, .int 0, .int 0, .ref q13, .int 0, .ref q14, .ref q15])) :: [(q1, aI E 137 (fun _ => 0)), (q2, aI E 137 (fun _ => 0)), (q3, aI E 137 (fun _ => 0)), (q4, aI E 1096 (fun _ => 0)), (q5, aI E 700 (fun _ => 0)), (q6, aI E 160 (fun _ => 0)), (q7, aI E 8 (fun _ => 0)), (q8, aI E 8 (fun _ => 0)), (q9, aI E 8 (fun _ => 0)), (q10, aI E 8 (fun _ => 0)), (q11, aZ E 8 (fun _ => 0)), (q12, aZ E 8 (fun _ => 0)), (q13, aI E 60 (fun _ => 0)), (q14, aI E 256 (fun _ => 0)), (q15, aI E 256 (fun _ => 0))])) s _ _ := hp
  have hs : ∀ k, 130 ≤ k → k < 146 → ((h, .inr (9, [.ref q1, .ref q2, .ref q3, .ref q4, .int 0, .int 0, .ref q5, .int 0, .int 0, .int (-1), .ref q6, .int 0, .int 0, .ref q7, .ref q8, .ref q9, .ref q10, .ref q11, .ref q12, .int 0, .int 0, .int 0, .int 0, .int 0, .int 0, .ref q13, .int 0, .ref q14, .ref q15])) :: [(q1, aI E 137 (fun _ => 0)), (q2, aI E 137 (fun _ => 0)), (q3, aI E 137 (fun _ => 0)), (q4, aI E 1096 (fun _ => 0)), (q5, aI E 700 (fun _ => 0)), (q6, aI E 160 (fun _ => 0)), (q7, aI E 8 (fun _ => 0)), (q8, aI E 8 (fun _ => 0)), (q9, aI E 8 (fun _ => 0)), (q10, aI E 8 (fun _ => 0)), (q11, aZ E 8 (fun _ => 0)), (q12, aZ E 8 (fun _ => 0)), (q13, aI E 60 (fun _ => 0)), (q14, aI E 256 (fun _ => 0)), (q15, aI E 256 (fun _ => 0))] : va_W)[k - 130]? = some ((LaY E h [q1, q2, q3, q4, q5, q6, q7, q8, q9, q10, q11, q12, q13, q14, q15]) k, celX (wE E (LaY E h [q1, q2, q3, q4, q5, q6, q7, q8, q9, q10, q11, q12, q13, q14, q15]) 146) (dec k).1 (dec k).2 (us σ 20 (wI ZM 0 9 (-1)) (dec k).1)) := by
    intro k h130 hk
    obtain ⟨j, rfl⟩ := Nat.exists_eq_add_of_le h130
    have hj : j < 16 := by omega
    clear hk h130
    match j, hj with
    | 0, _ => rfl
    | 1, _ => rfl
    | 2, _ => rfl
    | 3, _ => rfl
    | 4, _ => rfl
    | 5, _ => rfl
    | 6, _ => rfl
    | 7, _ => rfl
    | 8, _ => rfl
    | 9, _ => rfl
    | 10, _ => rfl
    | 11, _ => rfl
    | 12, _ => rfl
    | 13, _ => rfl
    | 14, _ => rfl
    | 15, _ => rfl
    | n + 16, h => exact absurd h (by omega)
  have hw : Hp (wE E (LaY E h [q1, q2, q3, q4, q5, q6, q7, q8, q9, q10, q11, q12, q13, q14, q15]) 146) (us σ 20 (wI ZM 0 9 (-1))) s H locs := ⟨wl_ext (σ := σ) hE (fun q hq => if_pos hq) (Nat.le_refl 130) (by decide) (fun k hk => Or.inl (dec_19 k hk)) (fun k hk => us_n (Nat.ne_of_lt (Nat.lt_succ_of_le (dec_19 k hk)))) hs hp.1, hp.2⟩
  have cy := cx.w (LaY E h [q1, q2, q3, q4, q5, q6, q7, q8, q9, q10, q11, q12, q13, q14, q15]) 146 (by decide)
  clear hs hp
  generalize hLa : (LaY E h [q1, q2, q3, q4, q5, q6, q7, q8, q9, q10, q11, q12, q13, q14, q15]) = La at hw cy
  have hy : 146 ≤ eN (wE E La 146) := Nat.le_refl 146
  have h9 : La 129 = eL E 129 := by rw [← hLa]; rfl
  have hh : h = adr (wE E La 146) 20 0 := by rw [← hLa]; rfl
  subst hh
  refine lv_aload_n hx hb dX13_init_137 rfl (lv_at hl 0 rfl) ?_
  refine va_ldcS hx hb cx.1.2.2.2.1 (cx.2.2.1.2.2.2.1 22 _ rfl) dX13_init_138 ?_
  refine x_v hw (y_V (As := [.ref (eK (wE E La 146) 22)]) (rest := []) cy hw hl (c_X13_puts l hy hT (us_s _ _ _) h1) (cw_X13_62 cy (mc := 0) (ms := 0) rfl rfl ⟨by decide, by decide⟩) (rC_X13 hy cy hw) rfl rfl (Nat.le_of_ble_eq_true rfl) dX13_init_140 ⟨by decide, by decide⟩) (fun u H locs hq hw => ?_)
  obtain ⟨h20, hn⟩ := hq
  obtain rfl : u = us σ 20 ρ1 := us_x h20 (fun q hq => (hn q hq).trans (us_n hq))
  refine lv_aload_n hx hb dX13_init_143 rfl (lv_at hl 0 rfl) ?_
  refine va_ldcS hx hb cx.1.2.2.2.1 (cx.2.2.1.2.2.2.1 23 _ rfl) dX13_init_144 ?_
  refine x_v hw (y_V (As := [.ref (eK (wE E La 146) 23)]) (rest := []) cy hw hl (c_X13_puts l hy hT (us_s _ _ _) h2) (cw_X13_62 cy (mc := 0) (ms := 0) rfl rfl ⟨by decide, by decide⟩) (rC_X13 hy cy hw) rfl rfl (Nat.le_of_ble_eq_true rfl) dX13_init_146 ⟨by decide, by decide⟩) (fun u H locs hq hw => ?_)
  obtain ⟨h20, hn⟩ := hq
  obtain rfl : u = us σ 20 ρ2 := us_x h20 (fun q hq => (hn q hq).trans (us_n hq))
  refine lv_aload_n hx hb dX13_init_149 rfl (lv_at hl 0 rfl) ?_
  refine x_v hw (y_V (As := []) (rest := []) cy hw hl (c_X13_starts l hy hT (us_s _ _ _) h3) (cw_X13_68 cy (mc := 0) (ms := 0) rfl rfl ⟨by decide, by decide⟩) (rC_X13 hy cy hw) rfl rfl (Nat.le_of_ble_eq_true rfl) dX13_init_150 ⟨by decide, by decide⟩) (fun u H locs hq hw => ?_)
  obtain ⟨h20, hn⟩ := hq
  obtain rfl : u = us σ 20 ρ3 := us_x h20 (fun q hq => (hn q hq).trans (us_n hq))
  refine lv_aload_n hx hb dX13_init_153 rfl (lv_at hl 0 rfl) ?_
  refine x_v hw (y_V (As := []) (rest := []) cy hw hl (c_X13_readsSetup l hy hT (us_s _ _ _) h4) (cw_X13_71 cy (mc := 0) (ms := 0) rfl rfl ⟨by decide, by decide⟩) (rC_X13 hy cy hw) rfl rfl (Nat.le_of_ble_eq_true rfl) dX13_init_154 ⟨by decide, by decide⟩) (fun u H locs hq hw => ?_)
  obtain ⟨h20, hn⟩ := hq
  obtain rfl : u = us σ 20 ρ4 := us_x h20 (fun q hq => (hn q hq).trans (us_n hq))
  refine lv_aload_n hx hb dX13_init_157 rfl (lv_at hl 0 rfl) ?_
  refine lv_iconst (v := 0) hx hb dX13_init_158 (by decide) ?_
  refine pF_X13_74 (us_s _ _ _) hy cy hw dX13_init_159 (fun u H locs e_u n_u hw => ?_)
  obtain rfl : u = us σ 20 (wI ρ4 0 7 0) := us_x e_u (fun q hq => (n_u q hq).trans (us_n hq))
  refine W.widen (k := 15) (n := 2987) (by decide) (by decide) ?_
  exact W.vret cx.1.1 cx.1.2.1 cx.2.1.1 (fun t ht hW => ⟨⟨La, rfl, ⟨h9, rfl⟩, wu_at cy hw.1 t ht hW⟩, hw.2.F ht⟩) hw.2.2.2 dX13_init_162 cx.2.1.2

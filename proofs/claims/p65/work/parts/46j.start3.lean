theorem dec_19 : ∀ k, k < 130 → (dec k).1 ≤ 19 := by decide +kernel
theorem adr_w {E : Ev} {La : Nat → Nat} {n N : Nat} (h : ∀ q, q < N → La q = eL E q) {o k : Nat} (hq : lin o k < N) : adr (wE E La n) o k = adr E o k := h _ hq
set_option maxHeartbeats 4000000 in
theorem cel_w {E : Ev} {La : Nat → Nat} {n N : Nat} (h : ∀ q, q < N → La q = eL E q) (hN : 130 ≤ N) {o k : Nat} {μ : OM} (ho : o ≤ 19) (hk : o = 16 → k = 0) : celX (wE E La n) o k μ = celX E o k μ := by
  have a : ∀ o' k', lin o' k' < 130 → adr (wE E La n) o' k' = adr E o' k' := fun o' k' hq => adr_w h (by omega)
  by_cases h11 : o < 11
  · rw [cel_M h11, cel_M h11]
    match k with
    | 0 =>
      show (Sum.inr (3, [.int (μ.1 0 0), .int (μ.1 0 1), .int (μ.1 0 2), .int (μ.1 0 3), .int (μ.1 0 4), .int (μ.1 0 5), .int (μ.1 0 6), .int (μ.1 0 7), .int (μ.1 0 8), .ref (adr (wE E La n) o 1), .ref (adr (wE E La n) o 2), .ref (adr (wE E La n) o 3), .ref (adr (wE E La n) o 4), .ref (adr (wE E La n) o 5), .ref (adr (wE E La n) o 6), .ref (adr (wE E La n) o 7), .ref (adr (wE E La n) o 8), .ref (adr (wE E La n) o 9)]) : va_E) = Sum.inr (3, [.int (μ.1 0 0), .int (μ.1 0 1), .int (μ.1 0 2), .int (μ.1 0 3), .int (μ.1 0 4), .int (μ.1 0 5), .int (μ.1 0 6), .int (μ.1 0 7), .int (μ.1 0 8), .ref (adr E o 1), .ref (adr E o 2), .ref (adr E o 3), .ref (adr E o 4), .ref (adr E o 5), .ref (adr E o 6), .ref (adr E o 7), .ref (adr E o 8), .ref (adr E o 9)])
      rw [a o 1 (by rw [lin_M h11]; omega), a o 2 (by rw [lin_M h11]; omega), a o 3 (by rw [lin_M h11]; omega), a o 4 (by rw [lin_M h11]; omega), a o 5 (by rw [lin_M h11]; omega), a o 6 (by rw [lin_M h11]; omega), a o 7 (by rw [lin_M h11]; omega), a o 8 (by rw [lin_M h11]; omega), a o 9 (by rw [lin_M h11]; omega)]
    | 1 => rfl
    | 2 => rfl
    | 3 => rfl
    | 4 => rfl
    | 5 => rfl
    | 6 => rfl
    | 7 => rfl
    | 8 => rfl
    | k + 9 => rfl
  · have h12 : o = 11 ∨ o = 12 ∨ o = 13 ∨ o = 14 ∨ o = 15 ∨ o = 16 ∨ o = 17 ∨ o = 18 ∨ o = 19 := by omega
    rcases h12 with rfl | rfl | rfl | rfl | rfl | rfl | rfl | rfl | rfl
    · skip
      show (Sum.inr (5, [.ref (adr (wE E La n) 12 0), .int (μ.1 k 1), .int (μ.1 k 2)]) : va_E) = Sum.inr (5, [.ref (adr E 12 0), .int (μ.1 k 1), .int (μ.1 k 2)])
      rw [a 12 0 (by decide)]
    · skip
      show (Sum.inr (7, [.ref (adr (wE E La n) 13 0), .int (μ.1 k 1), .int (μ.1 k 2), .int (μ.1 k 3), .int (μ.1 k 4), .long (μ.2.1 k 5)]) : va_E) = Sum.inr (7, [.ref (adr E 13 0), .int (μ.1 k 1), .int (μ.1 k 2), .int (μ.1 k 3), .int (μ.1 k 4), .long (μ.2.1 k 5)])
      rw [a 13 0 (by decide)]
    · match k with
      | 0 =>
        show (Sum.inr (1, [.ref (adr (wE E La n) 13 1), .int (μ.1 0 1)]) : va_E) = Sum.inr (1, [.ref (adr E 13 1), .int (μ.1 0 1)])
        rw [a 13 1 (by decide)]
      | k + 1 => rfl
    · match k with
      | 0 =>
        show (Sum.inr (1, [.ref (adr (wE E La n) 14 1), .int (μ.1 0 1)]) : va_E) = Sum.inr (1, [.ref (adr E 14 1), .int (μ.1 0 1)])
        rw [a 14 1 (by decide)]
      | k + 1 => rfl
    · match k with
      | 0 =>
        show (Sum.inr (6, [.ref (adr (wE E La n) 15 1), .ref (adr (wE E La n) 15 2), .ref (adr (wE E La n) 15 3), .int (μ.1 0 3)]) : va_E) = Sum.inr (6, [.ref (adr E 15 1), .ref (adr E 15 2), .ref (adr E 15 3), .int (μ.1 0 3)])
        rw [a 15 1 (by decide), a 15 2 (by decide), a 15 3 (by decide)]
      | 1 => rfl
      | k + 2 => rfl
    · obtain rfl := hk rfl
      show (Sum.inr (2, [.ref (adr (wE E La n) 16 1), .int (μ.1 0 1), .int (μ.1 0 2)]) : va_E) = Sum.inr (2, [.ref (adr E 16 1), .int (μ.1 0 1), .int (μ.1 0 2)])
      rw [a 16 1 (by decide)]
    · match k with
      | 0 =>
        show (Sum.inr (0, [.ref (adr (wE E La n) 17 1), .ref (adr (wE E La n) 17 2), .ref (adr (wE E La n) 17 3), .ref (adr (wE E La n) 17 4), .int (μ.1 0 4)]) : va_E) = Sum.inr (0, [.ref (adr E 17 1), .ref (adr E 17 2), .ref (adr E 17 3), .ref (adr E 17 4), .int (μ.1 0 4)])
        rw [a 17 1 (by decide), a 17 2 (by decide), a 17 3 (by decide), a 17 4 (by decide)]
      | 1 => rfl
      | 2 => rfl
      | 3 => rfl
      | k + 4 => rfl
    · match k with
      | 0 =>
        show (Sum.inr (4, [.ref (adr (wE E La n) 18 1), .int (μ.1 0 1), .int (μ.1 0 2)]) : va_E) = Sum.inr (4, [.ref (adr E 18 1), .int (μ.1 0 1), .int (μ.1 0 2)])
        rw [a 18 1 (by decide)]
      | k + 1 => rfl
    · skip
      show (Sum.inr (8, [.ref (adr (wE E La n) 11 0), .ref (adr (wE E La n) 14 0), .ref (adr (wE E La n) 15 0), .ref (adr (wE E La n) 0 0), .ref (adr (wE E La n) 1 0), .ref (adr (wE E La n) 2 0), .int (μ.1 k 6), .ref (adr (wE E La n) 16 0), .ref (adr (wE E La n) 17 0), .ref (adr (wE E La n) 18 0)]) : va_E) = Sum.inr (8, [.ref (adr E 11 0), .ref (adr E 14 0), .ref (adr E 15 0), .ref (adr E 0 0), .ref (adr E 1 0), .ref (adr E 2 0), .int (μ.1 k 6), .ref (adr E 16 0), .ref (adr E 17 0), .ref (adr E 18 0)])
      rw [a 11 0 (by decide), a 14 0 (by decide), a 15 0 (by decide), a 0 0 (by decide), a 1 0 (by decide), a 2 0 (by decide), a 16 0 (by decide), a 17 0 (by decide), a 18 0 (by decide)]
theorem at_w {E : Ev} {La : Nat → Nat} {n N : Nat} (h : ∀ q, q < N → La q = eL E q) (hN : 130 ≤ N) {D : va_G} {cl : List vw_C} {q o k : Nat} {μ : OM} {H : Heap} (ho : o ≤ 19) (hw : va_at D cl (q, celX E o k μ) H) : va_at D cl (q, celX (wE E La n) o k μ) H := by
  by_cases h16 : o = 16 ∧ k ≠ 0
  · obtain ⟨rfl, hk⟩ := h16
    match k, hk with
    | k + 1, _ =>
      have h2 : H[q]? = some (vp_cell (eC E 4) (8, .inr (.inr (.inr (.inr (fun j => some (adr E (3 + j) 0))))))) := hw
      show H[q]? = some (vp_cell (eC E 4) (8, .inr (.inr (.inr (.inr (fun j => some (adr (wE E La n) (3 + j) 0)))))))
      rw [h2, vp_cell_q, vp_cell_q]
      exact congrArg some (arrV_ext (fun j hj => by rw [adr_w (n := n) h (o := 3 + j) (k := 0) (by rw [lin_M (by omega)]; omega)]))
  · rw [cel_w h hN ho (fun e => by
      by_cases hk : k = 0
      · exact hk
      · exact absurd ⟨e, hk⟩ h16)]
    exact hw
theorem wl_ext {E : Ev} {La : Nat → Nat} {N m : Nat} {seg : va_W} {σ σ' : SM} (hE : eN E = N) (h : ∀ q, q < N → La q = eL E q) (hN : 130 ≤ N) (hm : m ≤ 151) (ho : ∀ k, k < N → (dec k).1 ≤ 19) (hσ : ∀ k, k < N → σ' (dec k).1 = σ (dec k).1) (hs : ∀ k, N ≤ k → k < m → seg[k - N]? = some (La k, celX (wE E La m) (dec k).1 (dec k).2 (σ' (dec k).1))) {H : Heap} (hw : Wl E (ws E σ ++ seg) H) : Wl (wE E La m) (ws (wE E La m) σ') H := by
  obtain ⟨hP, hD, hz, ho2, hN2⟩ := hw
  have hlen : (ws E σ).length = N := (ws_len E σ).trans hE
  have key : ∀ k, k < m → (k < N ∧ (ws E σ ++ seg)[k]? = some (La k, celX E (dec k).1 (dec k).2 (σ (dec k).1))) ∨ (N ≤ k ∧ (ws E σ ++ seg)[k]? = some (La k, celX (wE E La m) (dec k).1 (dec k).2 (σ' (dec k).1))) := by
    intro k hk
    rcases Nat.lt_or_ge k N with q | q
    · refine Or.inl ⟨q, ?_⟩
      rw [List.getElem?_append_left (by omega), h k q, ws, List.getElem?_map, List.getElem?_range (by omega)]
      rfl
    · refine Or.inr ⟨q, ?_⟩
      rw [List.getElem?_append_right (by omega), hlen]
      exact hs k q hk
  have hq9 : ∀ (k : Nat) (q : Nat × va_E), (ws (wE E La m) σ')[k]? = some q → k < m ∧ q = (La k, celX (wE E La m) (dec k).1 (dec k).2 (σ' (dec k).1)) := by
    intro k q hq
    have hk : k < m := by
      have h1 := (List.getElem?_eq_some_iff.mp hq).1
      rw [ws_len] at h1
      exact h1
    exact ⟨hk, (Option.some.inj ((ws_k E La m σ' hk).symm.trans hq)).symm⟩
  refine ⟨?_, ?_, hz, ho2, hm⟩
  · intro k q hq
    obtain ⟨hk, rfl⟩ := hq9 k q hq
    rcases key k hk with ⟨h1, h2⟩ | ⟨h1, h2⟩
    · have h3 := hP k _ h2
      rw [hσ k h1]
      exact at_w h hN (ho k h1) h3
    · exact hP k _ h2
  · refine vD_of hD (fun k => k) (fun k q hq => ?_) (fun _ _ _ _ e => e)
    obtain ⟨hk, rfl⟩ := hq9 k q hq
    rcases key k hk with ⟨h1, h2⟩ | ⟨h1, h2⟩
    · exact ⟨_, h2⟩
    · exact ⟨_, h2⟩
theorem va_AOA.moved {t : FieldType} {u U : State} (hvm : u.vm.Alike U.vm) (h : va_AOA t u) : va_AOA t U := by
  unfold va_AOA Cond.before at *
  exact Stand.arrayOver_alikeB hvm h
theorem pl8 (f : Nat → va_E) (r : Nat → Nat) (e : va_E) : va_pl ([] ++ (List.range 8).map r) (vr_up f ((List.range 8).map r) e) = [(r 0, e), (r 1, e), (r 2, e), (r 3, e), (r 4, e), (r 5, e), (r 6, e), (r 7, e)] := by
  have h := vr_rows (L := []) (l := (List.range 8).map r) (f := f) (e := e) (fun a _ h => absurd h List.not_mem_nil)
  rw [← h]
  rfl
theorem inner8 (c : ClassId) : Jvm.Free.Multi.innerC c 8 (defaultValue .int) = vp_cell c (8, .inl (fun _ => 0)) := by
  show ({ cls := c, slots := Array.replicate 8 (.int 0), vm := .none } : Cell) = _
  rw [arrV_new]
  rfl
abbrev rm_X13_init : Room := { frames := 1, cells := 20, slots := 852, locals := 20 }
def LaY (E : Ev) (h : Nat) (L : List Nat) : Nat → Nat := fun q => if q < 130 then eL E q else (h :: L).getD (q - 130) 0
set_option maxRecDepth 100000 in
set_option maxHeartbeats 4000000 in
theorem c_X13_init (l : Launch) {E : Ev} (hE : eN E = 130) (hAO : AO E) {σ : SM} {h : Nat} : Met l yX13_init (wC yX13_init cX13_init 1 none) rm_X13_init (va_Pc [.ref h] (Wul E (ws E σ ++ [(h, .inr (9, [.null, .null, .null, .null, .null, .null, .null, .null, .null, .null, .null, .null, .int 0, .int 0, .int 0, .int 0, .int 0, .int 0]))]))) (va_Qv (fun (La : Nat → Nat) => La 129 = eL E 129 ∧ La 130 = h) (fun (La : Nat → Nat) t => Wu (wE E La 151) (us σ 20 ZM) t) (eA E)) 20 852 (eA E) := by
  refine gI_entry (lv := [(0, .ref h)]) (by decide) (Nat.le_of_ble_eq_true rfl) rfl ?_
  intro p e s m below meth c cx hnm hp ls hl
  have hx := cx.1.1
  have hb := cx.1.2.1
  refine lv_aload_n hx hb dX13_init_0 rfl (lv_at hl 0 rfl) ?_
  refine oiJ cx qM_X13_3 hl.1 dX13_init_1 (by decide) (by decide) ?_
  refine lv_aload_n hx hb dX13_init_4 rfl (lv_at hl 0 rfl) ?_
  refine lv_sipush (v := 700) hx hb dX13_init_5 (by decide) ?_
  refine hl_newa cx hp (atype := .byte) (ty := .byte) rfl 5 rfl qR_473 ((700, .inl (fun _ => 0))) (fun _ => rfl) (N' := 700) (by decide) (by decide) (by decide) (by decide) (by decide) dX13_init_8 (fun q1 H hp => ?_)
  have hp : Hl E (ws E σ ++ ((h, .inr (9, [.null, .null, .null, .null, .null, .null, .null, .null, .null, .null, .null, .null, .int 0, .int 0, .int 0, .int 0, .int 0, .int 0])) :: [(q1, .inl (eC E 5, 700, .inl (fun _ => 0)))])) s _ _ := hp.assoc
  refine hl_putF cx hnm hp 0 (C := RX13) (T := TX13) (N := 18) (ci := 9) rfl rfl inB_X13 tyX13 tyX13_ok nmX13 0 (by decide) qF_X13_9 rfl rfl rfl (ty := .array .byte) (v := .ref q1) (by decide +kernel) rfl rfl (Nat.le_of_ble_eq_true rfl) dX13_init_10 (fun H locs hp => ?_)
  have hp : Hl E (ws E σ ++ ((h, .inr (9, [.ref q1, .null, .null, .null, .null, .null, .null, .null, .null, .null, .null, .null, .int 0, .int 0, .int 0, .int 0, .int 0, .int 0])) :: [(q1, .inl (eC E 5, 700, .inl (fun _ => 0)))])) s _ _ := hp
  refine lv_aload_n hx hb dX13_init_13 rfl (lv_at hl 0 rfl) ?_
  refine lv_bipush (v := 8) hx hb dX13_init_14 (by decide) ?_
  refine hl_newa cx hp (atype := .int) (ty := .int) rfl 0 rfl qR_46 ((8, .inl (fun _ => 0))) (fun _ => rfl) (N' := 8) (by decide) (by decide) (by decide) (by decide) (by decide) dX13_init_16 (fun q2 H hp => ?_)
  have hp : Hl E (ws E σ ++ ((h, .inr (9, [.ref q1, .null, .null, .null, .null, .null, .null, .null, .null, .null, .null, .null, .int 0, .int 0, .int 0, .int 0, .int 0, .int 0])) :: [(q1, .inl (eC E 5, 700, .inl (fun _ => 0))), (q2, aI E 8 (fun _ => 0))])) s _ _ := hp.assoc
  refine hl_putF cx hnm hp 0 (C := RX13) (T := TX13) (N := 18) (ci := 9) rfl rfl inB_X13 tyX13 tyX13_ok nmX13 1 (by decide) qF_X13_15 rfl rfl rfl (ty := .array .int) (v := .ref q2) (by decide +kernel) rfl rfl (Nat.le_of_ble_eq_true rfl) dX13_init_18 (fun H locs hp => ?_)
  have hp : Hl E (ws E σ ++ ((h, .inr (9, [.ref q1, .ref q2, .null, .null, .null, .null, .null, .null, .null, .null, .null, .null, .int 0, .int 0, .int 0, .int 0, .int 0, .int 0])) :: [(q1, .inl (eC E 5, 700, .inl (fun _ => 0))), (q2, aI E 8 (fun _ => 0))])) s _ _ := hp
  refine lv_aload_n hx hb dX13_init_21 rfl (lv_at hl 0 rfl) ?_
  refine lv_bipush (v := 8) hx hb dX13_init_22 (by decide) ?_
  refine hl_newa cx hp (atype := .int) (ty := .int) rfl 0 rfl qR_46 ((8, .inl (fun _ => 0))) (fun _ => rfl) (N' := 8) (by decide) (by decide) (by decide) (by decide) (by decide) dX13_init_24 (fun q3 H hp => ?_)
  have hp : Hl E (ws E σ ++ ((h, .inr (9, [.ref q1, .ref q2, .null, .null, .null, .null, .null, .null, .null, .null, .null, .null, .int 0, .int 0, .int 0, .int 0, .int 0, .int 0])) :: [(q1, .inl (eC E 5, 700, .inl (fun _ => 0))), (q2, aI E 8 (fun _ => 0)), (q3, aI E 8 (fun _ => 0))])) s _ _ := hp.assoc
  refine hl_putF cx hnm hp 0 (C := RX13) (T := TX13) (N := 18) (ci := 9) rfl rfl inB_X13 tyX13 tyX13_ok nmX13 2 (by decide) qF_X13_19 rfl rfl rfl (ty := .array .int) (v := .ref q3) (by decide +kernel) rfl rfl (Nat.le_of_ble_eq_true rfl) dX13_init_26 (fun H locs hp => ?_)
  have hp : Hl E (ws E σ ++ ((h, .inr (9, [.ref q1, .ref q2, .ref q3, .null, .null, .null, .null, .null, .null, .null, .null, .null, .int 0, .int 0, .int 0, .int 0, .int 0, .int 0])) :: [(q1, .inl (eC E 5, 700, .inl (fun _ => 0))), (q2, aI E 8 (fun _ => 0)), (q3, aI E 8 (fun _ => 0))])) s _ _ := hp
  refine lv_aload_n hx hb dX13_init_29 rfl (lv_at hl 0 rfl) ?_
  refine lv_bipush (v := 8) hx hb dX13_init_30 (by decide) ?_
  refine hl_newa cx hp (atype := .int) (ty := .int) rfl 0 rfl qR_46 ((8, .inl (fun _ => 0))) (fun _ => rfl) (N' := 8) (by decide) (by decide) (by decide) (by decide) (by decide) dX13_init_32 (fun q4 H hp => ?_)
  have hp : Hl E (ws E σ ++ ((h, .inr (9, [.ref q1, .ref q2, .ref q3, .null, .null, .null, .null, .null, .null, .null, .null, .null, .int 0, .int 0, .int 0, .int 0, .int 0, .int 0])) :: [(q1, .inl (eC E 5, 700, .inl (fun _ => 0))), (q2, aI E 8 (fun _ => 0)), (q3, aI E 8 (fun _ => 0)), (q4, aI E 8 (fun _ => 0))])) s _ _ := hp.assoc
  refine hl_putF cx hnm hp 0 (C := RX13) (T := TX13) (N := 18) (ci := 9) rfl rfl inB_X13 tyX13 tyX13_ok nmX13 3 (by decide) qF_X13_22 rfl rfl rfl (ty := .array .int) (v := .ref q4) (by decide +kernel) rfl rfl (Nat.le_of_ble_eq_true rfl) dX13_init_34 (fun H locs hp => ?_)
  have hp : Hl E (ws E σ ++ ((h, .inr (9, [.ref q1, .ref q2, .ref q3, .ref q4, .null, .null, .null, .null, .null, .null, .null, .null, .int 0, .int 0, .int 0, .int 0, .int 0, .int 0])) :: [(q1, .inl (eC E 5, 700, .inl (fun _ => 0))), (q2, aI E 8 (fun _ => 0)), (q3, aI E 8 (fun _ => 0)), (q4, aI E 8 (fun _ => 0))])) s _ _ := hp
  refine lv_aload_n hx hb dX13_init_37 rfl (lv_at hl 0 rfl) ?_
  refine lv_bipush (v := 8) hx hb dX13_init_38 (by decide) ?_
  refine hl_newa cx hp (atype := .int) (ty := .int) rfl 0 rfl qR_46 ((8, .inl (fun _ => 0))) (fun _ => rfl) (N' := 8) (by decide) (by decide) (by decide) (by decide) (by decide) dX13_init_40 (fun q5 H hp => ?_)
  have hp : Hl E (ws E σ ++ ((h, .inr (9, [.ref q1, .ref q2, .ref q3, .ref q4, .null, .null, .null, .null, .null, .null, .null, .null, .int 0, .int 0, .int 0, .int 0, .int 0, .int 0])) :: [(q1, .inl (eC E 5, 700, .inl (fun _ => 0))), (q2, aI E 8 (fun _ => 0)), (q3, aI E 8 (fun _ => 0)), (q4, aI E 8 (fun _ => 0)), (q5, aI E 8 (fun _ => 0))])) s _ _ := hp.assoc
  refine hl_putF cx hnm hp 0 (C := RX13) (T := TX13) (N := 18) (ci := 9) rfl rfl inB_X13 tyX13 tyX13_ok nmX13 4 (by decide) qF_X13_25 rfl rfl rfl (ty := .array .int) (v := .ref q5) (by decide +kernel) rfl rfl (Nat.le_of_ble_eq_true rfl) dX13_init_42 (fun H locs hp => ?_)
  have hp : Hl E (ws E σ ++ ((h, .inr (9, [.ref q1, .ref q2, .ref q3, .ref q4, .ref q5, .null, .null, .null, .null, .null, .null, .null, .int 0, .int 0, .int 0, .int 0, .int 0, .int 0])) :: [(q1, .inl (eC E 5, 700, .inl (fun _ => 0))), (q2, aI E 8 (fun _ => 0)), (q3, aI E 8 (fun _ => 0)), (q4, aI E 8 (fun _ => 0)), (q5, aI E 8 (fun _ => 0))])) s _ _ := hp
  refine lv_aload_n hx hb dX13_init_45 rfl (lv_at hl 0 rfl) ?_
  refine lv_bipush (v := 8) hx hb dX13_init_46 (by decide) ?_
  refine hl_newa cx hp (atype := .int) (ty := .int) rfl 0 rfl qR_46 ((8, .inl (fun _ => 0))) (fun _ => rfl) (N' := 8) (by decide) (by decide) (by decide) (by decide) (by decide) dX13_init_48 (fun q6 H hp => ?_)
  have hp : Hl E (ws E σ ++ ((h, .inr (9, [.ref q1, .ref q2, .ref q3, .ref q4, .ref q5, .null, .null, .null, .null, .null, .null, .null, .int 0, .int 0, .int 0, .int 0, .int 0, .int 0])) :: [(q1, .inl (eC E 5, 700, .inl (fun _ => 0))), (q2, aI E 8 (fun _ => 0)), (q3, aI E 8 (fun _ => 0)), (q4, aI E 8 (fun _ => 0)), (q5, aI E 8 (fun _ => 0)), (q6, aI E 8 (fun _ => 0))])) s _ _ := hp.assoc
  refine hl_putF cx hnm hp 0 (C := RX13) (T := TX13) (N := 18) (ci := 9) rfl rfl inB_X13 tyX13 tyX13_ok nmX13 5 (by decide) qF_X13_28 rfl rfl rfl (ty := .array .int) (v := .ref q6) (by decide +kernel) rfl rfl (Nat.le_of_ble_eq_true rfl) dX13_init_50 (fun H locs hp => ?_)
  have hp : Hl E (ws E σ ++ ((h, .inr (9, [.ref q1, .ref q2, .ref q3, .ref q4, .ref q5, .ref q6, .null, .null, .null, .null, .null, .null, .int 0, .int 0, .int 0, .int 0, .int 0, .int 0])) :: [(q1, .inl (eC E 5, 700, .inl (fun _ => 0))), (q2, aI E 8 (fun _ => 0)), (q3, aI E 8 (fun _ => 0)), (q4, aI E 8 (fun _ => 0)), (q5, aI E 8 (fun _ => 0)), (q6, aI E 8 (fun _ => 0))])) s _ _ := hp
  refine lv_aload_n hx hb dX13_init_53 rfl (lv_at hl 0 rfl) ?_
  refine lv_bipush (v := 8) hx hb dX13_init_54 (by decide) ?_
  refine hl_newa cx hp (atype := .int) (ty := .int) rfl 0 rfl qR_46 ((8, .inl (fun _ => 0))) (fun _ => rfl) (N' := 8) (by decide) (by decide) (by decide) (by decide) (by decide) dX13_init_56 (fun q7 H hp => ?_)
  have hp : Hl E (ws E σ ++ ((h, .inr (9, [.ref q1, .ref q2, .ref q3, .ref q4, .ref q5, .ref q6, .null, .null, .null, .null, .null, .null, .int 0, .int 0, .int 0, .int 0, .int 0, .int 0])) :: [(q1, .inl (eC E 5, 700, .inl (fun _ => 0))), (q2, aI E 8 (fun _ => 0)), (q3, aI E 8 (fun _ => 0)), (q4, aI E 8 (fun _ => 0)), (q5, aI E 8 (fun _ => 0)), (q6, aI E 8 (fun _ => 0)), (q7, aI E 8 (fun _ => 0))])) s _ _ := hp.assoc
  refine hl_putF cx hnm hp 0 (C := RX13) (T := TX13) (N := 18) (ci := 9) rfl rfl inB_X13 tyX13 tyX13_ok nmX13 6 (by decide) qF_X13_31 rfl rfl rfl (ty := .array .int) (v := .ref q7) (by decide +kernel) rfl rfl (Nat.le_of_ble_eq_true rfl) dX13_init_58 (fun H locs hp => ?_)
  have hp : Hl E (ws E σ ++ ((h, .inr (9, [.ref q1, .ref q2, .ref q3, .ref q4, .ref q5, .ref q6, .ref q7, .null, .null, .null, .null, .null, .int 0, .int 0, .int 0, .int 0, .int 0, .int 0])) :: [(q1, .inl (eC E 5, 700, .inl (fun _ => 0))), (q2, aI E 8 (fun _ => 0)), (q3, aI E 8 (fun _ => 0)), (q4, aI E 8 (fun _ => 0)), (q5, aI E 8 (fun _ => 0)), (q6, aI E 8 (fun _ => 0)), (q7, aI E 8 (fun _ => 0))])) s _ _ := hp
  refine lv_aload_n hx hb dX13_init_61 rfl (lv_at hl 0 rfl) ?_
  refine lv_bipush (v := 8) hx hb dX13_init_62 (by decide) ?_
  refine hl_newa cx hp (atype := .int) (ty := .int) rfl 0 rfl qR_46 ((8, .inl (fun _ => 0))) (fun _ => rfl) (N' := 8) (by decide) (by decide) (by decide) (by decide) (by decide) dX13_init_64 (fun q8 H hp => ?_)
  have hp : Hl E (ws E σ ++ ((h, .inr (9, [.ref q1, .ref q2, .ref q3, .ref q4, .ref q5, .ref q6, .ref q7, .null, .null, .null, .null, .null, .int 0, .int 0, .int 0, .int 0, .int 0, .int 0])) :: [(q1, .inl (eC E 5, 700, .inl (fun _ => 0))), (q2, aI E 8 (fun _ => 0)), (q3, aI E 8 (fun _ => 0)), (q4, aI E 8 (fun _ => 0)), (q5, aI E 8 (fun _ => 0)), (q6, aI E 8 (fun _ => 0)), (q7, aI E 8 (fun _ => 0)), (q8, aI E 8 (fun _ => 0))])) s _ _ := hp.assoc
  refine hl_putF cx hnm hp 0 (C := RX13) (T := TX13) (N := 18) (ci := 9) rfl rfl inB_X13 tyX13 tyX13_ok nmX13 7 (by decide) qF_X13_34 rfl rfl rfl (ty := .array .int) (v := .ref q8) (by decide +kernel) rfl rfl (Nat.le_of_ble_eq_true rfl) dX13_init_66 (fun H locs hp => ?_)
  have hp : Hl E (ws E σ ++ ((h, .inr (9, [.ref q1, .ref q2, .ref q3, .ref q4, .ref q5, .ref q6, .ref q7, .ref q8, .null, .null, .null, .null, .int 0, .int 0, .int 0, .int 0, .int 0, .int 0])) :: [(q1, .inl (eC E 5, 700, .inl (fun _ => 0))), (q2, aI E 8 (fun _ => 0)), (q3, aI E 8 (fun _ => 0)), (q4, aI E 8 (fun _ => 0)), (q5, aI E 8 (fun _ => 0)), (q6, aI E 8 (fun _ => 0)), (q7, aI E 8 (fun _ => 0)), (q8, aI E 8 (fun _ => 0))])) s _ _ := hp
  refine lv_aload_n hx hb dX13_init_69 rfl (lv_at hl 0 rfl) ?_
  refine lv_bipush (v := 8) hx hb dX13_init_70 (by decide) ?_
  refine hl_newa cx hp (atype := .int) (ty := .int) rfl 0 rfl qR_46 ((8, .inl (fun _ => 0))) (fun _ => rfl) (N' := 8) (by decide) (by decide) (by decide) (by decide) (by decide) dX13_init_72 (fun q9 H hp => ?_)
  have hp : Hl E (ws E σ ++ ((h, .inr (9, [.ref q1, .ref q2, .ref q3, .ref q4, .ref q5, .ref q6, .ref q7, .ref q8, .null, .null, .null, .null, .int 0, .int 0, .int 0, .int 0, .int 0, .int 0])) :: [(q1, .inl (eC E 5, 700, .inl (fun _ => 0))), (q2, aI E 8 (fun _ => 0)), (q3, aI E 8 (fun _ => 0)), (q4, aI E 8 (fun _ => 0)), (q5, aI E 8 (fun _ => 0)), (q6, aI E 8 (fun _ => 0)), (q7, aI E 8 (fun _ => 0)), (q8, aI E 8 (fun _ => 0)), (q9, aI E 8 (fun _ => 0))])) s _ _ := hp.assoc
  refine hl_putF cx hnm hp 0 (C := RX13) (T := TX13) (N := 18) (ci := 9) rfl rfl inB_X13 tyX13 tyX13_ok nmX13 8 (by decide) qF_X13_37 rfl rfl rfl (ty := .array .int) (v := .ref q9) (by decide +kernel) rfl rfl (Nat.le_of_ble_eq_true rfl) dX13_init_74 (fun H locs hp => ?_)
  have hp : Hl E (ws E σ ++ ((h, .inr (9, [.ref q1, .ref q2, .ref q3, .ref q4, .ref q5, .ref q6, .ref q7, .ref q8, .ref q9, .null, .null, .null, .int 0, .int 0, .int 0, .int 0, .int 0, .int 0])) :: [(q1, .inl (eC E 5, 700, .inl (fun _ => 0))), (q2, aI E 8 (fun _ => 0)), (q3, aI E 8 (fun _ => 0)), (q4, aI E 8 (fun _ => 0)), (q5, aI E 8 (fun _ => 0)), (q6, aI E 8 (fun _ => 0)), (q7, aI E 8 (fun _ => 0)), (q8, aI E 8 (fun _ => 0)), (q9, aI E 8 (fun _ => 0))])) s _ _ := hp
  refine lv_aload_n hx hb dX13_init_77 rfl (lv_at hl 0 rfl) ?_
  refine lv_bipush (v := 8) hx hb dX13_init_78 (by decide) ?_
  refine hl_newa cx hp (atype := .int) (ty := .int) rfl 0 rfl qR_46 ((8, .inl (fun _ => 0))) (fun _ => rfl) (N' := 8) (by decide) (by decide) (by decide) (by decide) (by decide) dX13_init_80 (fun q10 H hp => ?_)
  have hp : Hl E (ws E σ ++ ((h, .inr (9, [.ref q1, .ref q2, .ref q3, .ref q4, .ref q5, .ref q6, .ref q7, .ref q8, .ref q9, .null, .null, .null, .int 0, .int 0, .int 0, .int 0, .int 0, .int 0])) :: [(q1, .inl (eC E 5, 700, .inl (fun _ => 0))), (q2, aI E 8 (fun _ => 0)), (q3, aI E 8 (fun _ => 0)), (q4, aI E 8 (fun _ => 0)), (q5, aI E 8 (fun _ => 0)), (q6, aI E 8 (fun _ => 0)), (q7, aI E 8 (fun _ => 0)), (q8, aI E 8 (fun _ => 0)), (q9, aI E 8 (fun _ => 0)), (q10, aI E 8 (fun _ => 0))])) s _ _ := hp.assoc
  refine hl_putF cx hnm hp 0 (C := RX13) (T := TX13) (N := 18) (ci := 9) rfl rfl inB_X13 tyX13 tyX13_ok nmX13 9 (by decide) qF_X13_40 rfl rfl rfl (ty := .array .int) (v := .ref q10) (by decide +kernel) rfl rfl (Nat.le_of_ble_eq_true rfl) dX13_init_82 (fun H locs hp => ?_)
  have hp : Hl E (ws E σ ++ ((h, .inr (9, [.ref q1, .ref q2, .ref q3, .ref q4, .ref q5, .ref q6, .ref q7, .ref q8, .ref q9, .ref q10, .null, .null, .int 0, .int 0, .int 0, .int 0, .int 0, .int 0])) :: [(q1, .inl (eC E 5, 700, .inl (fun _ => 0))), (q2, aI E 8 (fun _ => 0)), (q3, aI E 8 (fun _ => 0)), (q4, aI E 8 (fun _ => 0)), (q5, aI E 8 (fun _ => 0)), (q6, aI E 8 (fun _ => 0)), (q7, aI E 8 (fun _ => 0)), (q8, aI E 8 (fun _ => 0)), (q9, aI E 8 (fun _ => 0)), (q10, aI E 8 (fun _ => 0))])) s _ _ := hp
  refine lv_aload_n hx hb dX13_init_85 rfl (lv_at hl 0 rfl) ?_
  refine lv_bipush (v := 8) hx hb dX13_init_86 (by decide) ?_
  refine lv_bipush (v := 8) hx hb dX13_init_88 (by decide) ?_
  have hcy : s.vm.findClass (FieldType.array .int).toString = some (eC E 0) := (cx.2.2.1.2.1.2 0 _ rfl).2
  refine va_mna (X := ws E σ ++ ((h, .inr (9, [.ref q1, .ref q2, .ref q3, .ref q4, .ref q5, .ref q6, .ref q7, .ref q8, .ref q9, .ref q10, .null, .null, .int 0, .int 0, .int 0, .int 0, .int 0, .int 0])) :: [(q1, .inl (eC E 5, 700, .inl (fun _ => 0))), (q2, aI E 8 (fun _ => 0)), (q3, aI E 8 (fun _ => 0)), (q4, aI E 8 (fun _ => 0)), (q5, aI E 8 (fun _ => 0)), (q6, aI E 8 (fun _ => 0)), (q7, aI E 8 (fun _ => 0)), (q8, aI E 8 (fun _ => 0)), (q9, aI E 8 (fun _ => 0)), (q10, aI E 8 (fun _ => 0))])) (L := []) (f := fun _ => aI E 8 (fun _ => 0)) (ty := .int) (cy := eC E 0) cx.1.1 cx.1.2.1 cx.1.2.2.2.1 (cx.1.2.2.2.2 _ qK_X13_43) (va_AOA.moved cx.2.2.1.1 hAO.2.2) (cx.1.2.2.2.2 _ qR_46) hcy cx.2.2.1.2.1 (by rw [show va_pl [] (fun _ => aI E 8 (fun _ => 0)) = [] from rfl, List.append_nil]; exact hp.1.1) (by rw [show va_pl [] (fun _ => aI E 8 (fun _ => 0)) = [] from rfl, List.append_nil]; exact hp.1.2.1) hp.2 (fun q h => Nat.le_trans cx.2.2.2.1 h) (n := 8) (k := 8) (N' := 8) (K' := 8) (z := (8, .inl (fun _ => 0))) (by decide) (by decide) (by decide) (by decide) (by decide) (by decide) (by decide) rfl rfl (by decide) (by decide) (fun c => inner8 c) dX13_init_90 (fun q11 r cA H hri hrl hK hP hD hS => ?_)
  obtain rfl : cA = eC E 6 := ra_u ((hK.2 7 (cA, .array .int) rfl).2) ((cx.2.2.1.2.1.2 6 _ rfl).2)
  rw [pl8] at hP hD
  have hp : Hl E (ws E σ ++ ((h, .inr (9, [.ref q1, .ref q2, .ref q3, .ref q4, .ref q5, .ref q6, .ref q7, .ref q8, .ref q9, .ref q10, .null, .null, .int 0, .int 0, .int 0, .int 0, .int 0, .int 0])) :: [(q1, .inl (eC E 5, 700, .inl (fun _ => 0))), (q2, aI E 8 (fun _ => 0)), (q3, aI E 8 (fun _ => 0)), (q4, aI E 8 (fun _ => 0)), (q5, aI E 8 (fun _ => 0)), (q6, aI E 8 (fun _ => 0)), (q7, aI E 8 (fun _ => 0)), (q8, aI E 8 (fun _ => 0)), (q9, aI E 8 (fun _ => 0)), (q10, aI E 8 (fun _ => 0)), (q11, .inl (eC E 6, 8, .inr (.inr (.inr (.inr (fun i => if i < 8 then some (r i) else none)))))), (r 0, aI E 8 (fun _ => 0)), (r 1, aI E 8 (fun _ => 0)), (r 2, aI E 8 (fun _ => 0)), (r 3, aI E 8 (fun _ => 0)), (r 4, aI E 8 (fun _ => 0)), (r 5, aI E 8 (fun _ => 0)), (r 6, aI E 8 (fun _ => 0)), (r 7, aI E 8 (fun _ => 0))])) s H _ := (hl_new cx hP hD hS).assoc.assoc
  refine hl_putF cx hnm hp 0 (C := RX13) (T := TX13) (N := 18) (ci := 9) rfl rfl inB_X13 tyX13 tyX13_ok nmX13 10 (by decide) qF_X13_45 rfl rfl rfl (ty := .array (.array .int)) (v := .ref q11) (by decide +kernel) rfl rfl (Nat.le_of_ble_eq_true rfl) dX13_init_94 (fun H locs hp => ?_)
  have hp : Hl E (ws E σ ++ ((h, .inr (9, [.ref q1, .ref q2, .ref q3, .ref q4, .ref q5, .ref q6, .ref q7, .ref q8, .ref q9, .ref q10, .ref q11, .null, .int 0, .int 0, .int 0, .int 0, .int 0, .int 0])) :: [(q1, .inl (eC E 5, 700, .inl (fun _ => 0))), (q2, aI E 8 (fun _ => 0)), (q3, aI E 8 (fun _ => 0)), (q4, aI E 8 (fun _ => 0)), (q5, aI E 8 (fun _ => 0)), (q6, aI E 8 (fun _ => 0)), (q7, aI E 8 (fun _ => 0)), (q8, aI E 8 (fun _ => 0)), (q9, aI E 8 (fun _ => 0)), (q10, aI E 8 (fun _ => 0)), (q11, .inl (eC E 6, 8, .inr (.inr (.inr (.inr (fun i => if i < 8 then some (r i) else none)))))), (r 0, aI E 8 (fun _ => 0)), (r 1, aI E 8 (fun _ => 0)), (r 2, aI E 8 (fun _ => 0)), (r 3, aI E 8 (fun _ => 0)), (r 4, aI E 8 (fun _ => 0)), (r 5, aI E 8 (fun _ => 0)), (r 6, aI E 8 (fun _ => 0)), (r 7, aI E 8 (fun _ => 0))])) s _ _ := hp
  refine lv_aload_n hx hb dX13_init_97 rfl (lv_at hl 0 rfl) ?_
  refine lv_bipush (v := 8) hx hb dX13_init_98 (by decide) ?_
  refine hl_newa cx hp (atype := .boolean) (ty := .boolean) rfl 2 rfl qR_182 ((8, .inl (fun _ => 0))) (fun _ => rfl) (N' := 8) (by decide) (by decide) (by decide) (by decide) (by decide) dX13_init_100 (fun q12 H hp => ?_)
  have hp : Hl E (ws E σ ++ ((h, .inr (9, [.ref q1, .ref q2, .ref q3, .ref q4, .ref q5, .ref q6, .ref q7, .ref q8, .ref q9, .ref q10, .ref q11, .null, .int 0, .int 0, .int 0, .int 0, .int 0, .int 0])) :: [(q1, .inl (eC E 5, 700, .inl (fun _ => 0))), (q2, aI E 8 (fun _ => 0)), (q3, aI E 8 (fun _ => 0)), (q4, aI E 8 (fun _ => 0)), (q5, aI E 8 (fun _ => 0)), (q6, aI E 8 (fun _ => 0)), (q7, aI E 8 (fun _ => 0)), (q8, aI E 8 (fun _ => 0)), (q9, aI E 8 (fun _ => 0)), (q10, aI E 8 (fun _ => 0)), (q11, .inl (eC E 6, 8, .inr (.inr (.inr (.inr (fun i => if i < 8 then some (r i) else none)))))), (r 0, aI E 8 (fun _ => 0)), (r 1, aI E 8 (fun _ => 0)), (r 2, aI E 8 (fun _ => 0)), (r 3, aI E 8 (fun _ => 0)), (r 4, aI E 8 (fun _ => 0)), (r 5, aI E 8 (fun _ => 0)), (r 6, aI E 8 (fun _ => 0)), (r 7, aI E 8 (fun _ => 0)), (q12, aZ E 8 (fun _ => 0))])) s _ _ := hp.assoc
  refine hl_putF cx hnm hp 0 (C := RX13) (T := TX13) (N := 18) (ci := 9) rfl rfl inB_X13 tyX13 tyX13_ok nmX13 11 (by decide) qF_X13_48 rfl rfl rfl (ty := .array .boolean) (v := .ref q12) (by decide +kernel) rfl rfl (Nat.le_of_ble_eq_true rfl) dX13_init_102 (fun H locs hp => ?_)
  have hp : Hl E (ws E σ ++ ((h, .inr (9, [.ref q1, .ref q2, .ref q3, .ref q4, .ref q5, .ref q6, .ref q7, .ref q8, .ref q9, .ref q10, .ref q11, .ref q12, .int 0, .int 0, .int 0, .int 0, .int 0, .int 0])) :: [(q1, .inl (eC E 5, 700, .inl (fun _ => 0))), (q2, aI E 8 (fun _ => 0)), (q3, aI E 8 (fun _ => 0)), (q4, aI E 8 (fun _ => 0)), (q5, aI E 8 (fun _ => 0)), (q6, aI E 8 (fun _ => 0)), (q7, aI E 8 (fun _ => 0)), (q8, aI E 8 (fun _ => 0)), (q9, aI E 8 (fun _ => 0)), (q10, aI E 8 (fun _ => 0)), (q11, .inl (eC E 6, 8, .inr (.inr (.inr (.inr (fun i => if i < 8 then some (r i) else none)))))), (r 0, aI E 8 (fun _ => 0)), (r 1, aI E 8 (fun _ => 0)), (r 2, aI E 8 (fun _ => 0)), (r 3, aI E 8 (fun _ => 0)), (r 4, aI E 8 (fun _ => 0)), (r 5, aI E 8 (fun _ => 0)), (r 6, aI E 8 (fun _ => 0)), (r 7, aI E 8 (fun _ => 0)), (q12, aZ E 8 (fun _ => 0))])) s _ _ := hp
  have e11 : (fun i : Nat => if i < 8 then some (r i) else none) = (fun i : Nat => if i < 8 then some (adr (wE E (LaY E h [q1, q2, q3, q4, q5, q6, q7, q8, q9, q10, q11, (r 0), (r 1), (r 2), (r 3), (r 4), (r 5), (r 6), (r 7), q12]) 151) 20 (12 + i)) else none) := by
    funext i
    by_cases h8 : i < 8
    · rw [if_pos h8, if_pos h8]
      match i, h8 with
      | 0, _ => rfl
      | 1, _ => rfl
      | 2, _ => rfl
      | 3, _ => rfl
      | 4, _ => rfl
      | 5, _ => rfl
      | 6, _ => rfl
      | 7, _ => rfl
      | n + 8, h => exact absurd h (by omega)
    · rw [if_neg h8, if_neg h8]
  have hs : ∀ k, 130 ≤ k → k < 151 → ((h, .inr (9, [.ref q1, .ref q2, .ref q3, .ref q4, .ref q5, .ref q6, .ref q7, .ref q8, .ref q9, .ref q10, .ref q11, .ref q12, .int 0, .int 0, .int 0, .int 0, .int 0, .int 0])) :: [(q1, .inl (eC E 5, 700, .inl (fun _ => 0))), (q2, aI E 8 (fun _ => 0)), (q3, aI E 8 (fun _ => 0)), (q4, aI E 8 (fun _ => 0)), (q5, aI E 8 (fun _ => 0)), (q6, aI E 8 (fun _ => 0)), (q7, aI E 8 (fun _ => 0)), (q8, aI E 8 (fun _ => 0)), (q9, aI E 8 (fun _ => 0)), (q10, aI E 8 (fun _ => 0)), (q11, .inl (eC E 6, 8, .inr (.inr (.inr (.inr (fun i => if i < 8 then some (r i) else none)))))), (r 0, aI E 8 (fun _ => 0)), (r 1, aI E 8 (fun _ => 0)), (r 2, aI E 8 (fun _ => 0)), (r 3, aI E 8 (fun _ => 0)), (r 4, aI E 8 (fun _ => 0)), (r 5, aI E 8 (fun _ => 0)), (r 6, aI E 8 (fun _ => 0)), (r 7, aI E 8 (fun _ => 0)), (q12, aZ E 8 (fun _ => 0))] : va_W)[k - 130]? = some ((LaY E h [q1, q2, q3, q4, q5, q6, q7, q8, q9, q10, q11, (r 0), (r 1), (r 2), (r 3), (r 4), (r 5), (r 6), (r 7), q12]) k, celX (wE E (LaY E h [q1, q2, q3, q4, q5, q6, q7, q8, q9, q10, q11, (r 0), (r 1), (r 2), (r 3), (r 4), (r 5), (r 6), (r 7), q12]) 151) (dec k).1 (dec k).2 (us σ 20 ZM (dec k).1)) := by
    rw [e11]
    intro k h130 hk
    obtain ⟨j, rfl⟩ := Nat.exists_eq_add_of_le h130
    have hj : j < 21 := by omega
    clear hk h130
    match j, hj with
    | 0, _ => rfl
    | 1, _ => rfl
    | 2, _ => rfl
    | 3, _ => rfl
    | 4, _ => rfl
    | 5, _ => rfl
    | 6, _ => rfl
    | 7, _ => rfl
    | 8, _ => rfl
    | 9, _ => rfl
    | 10, _ => rfl
    | 11, _ => rfl
    | 12, _ => rfl
    | 13, _ => rfl
    | 14, _ => rfl
    | 15, _ => rfl
    | 16, _ => rfl
    | 17, _ => rfl
    | 18, _ => rfl
    | 19, _ => rfl
    | 20, _ => rfl
    | n + 21, h => exact absurd h (by omega)
  have hw : Hp (wE E (LaY E h [q1, q2, q3, q4, q5, q6, q7, q8, q9, q10, q11, (r 0), (r 1), (r 2), (r 3), (r 4), (r 5), (r 6), (r 7), q12]) 151) (us σ 20 ZM) s H _ := ⟨wl_ext (σ := σ) hE (fun q hq => if_pos hq) (Nat.le_refl 130) (by decide) (fun k hk => dec_19 k hk) (fun k hk => us_n (Nat.ne_of_lt (Nat.lt_succ_of_le (dec_19 k hk)))) hs hp.1, hp.2⟩
  have cy := cx.w (LaY E h [q1, q2, q3, q4, q5, q6, q7, q8, q9, q10, q11, (r 0), (r 1), (r 2), (r 3), (r 4), (r 5), (r 6), (r 7), q12]) 151 (by decide)
  clear hs hp
  refine W.widen (k := 20) (n := 852) (by decide) (by decide) ?_
  exact W.vret cx.1.1 cx.1.2.1 cx.2.1.1 (fun t ht hW => ⟨⟨(LaY E h [q1, q2, q3, q4, q5, q6, q7, q8, q9, q10, q11, (r 0), (r 1), (r 2), (r 3), (r 4), (r 5), (r 6), (r 7), q12]), rfl, ⟨rfl, rfl⟩, wu_at cy hw.1 t ht hW⟩, hw.2.F ht⟩) hw.2.2.2 dX13_init_105 cx.2.1.2

/-! what the Statement gives of the start -/
def nwJ : List Cond := flatC (Jvm.Cond.and given_1 narrow_1)
def strW (own : String) (k n : Nat) (bs : List Int32) : List Cond := Cond.exactly (.string own k) "java/lang/String" :: Cond.eq (.field (.string own k) "java/lang/String" "coder" "B") (.int 0) :: Cond.arrayOf (.field (.string own k) "java/lang/String" "value" "[B") .byte :: Cond.eq (.length (.field (.string own k) "java/lang/String" "value" "[B")) (.int (Int32.ofNat n)) :: (List.range n).map (fun j => Cond.eq (.elem (.field (.string own k) "java/lang/String" "value" "[B") (.int (Int32.ofNat j))) (.int (bs.getD j 0)))
def SG (args : Array Value) (s : State) (A : Nat → Prop) (i : Nat) (q2 : Nat × Nat) : Prop := ∀ q, strs[i]? = some q → (Term.string q.1 q.2.1).eval args s none [] s = some (.ref q2.1) ∧ va_O "java/lang/String" q2.1 A s s.heap ∧ va_OF "java/lang/String" "coder" "B" (.int 0) q2.1 A s s.heap ∧ va_OF "java/lang/String" "value" "[B" (.ref q2.2) q2.1 A s s.heap ∧ va_T .byte q2.2 (lens.getD i 0) (fun j => .int ((byts.getD i []).getD j 0)) A s s.heap
theorem str_of {args : Array Value} {s : State} {A : Nat → Prop} (hA : ∀ a : Nat, a < s.heap.size → ¬ A a) (hs : ∀ w ∈ nwJ, w.before args s = true) {own : String} {k n : Nat} {bs : List Int32} (p : Nat) (hn : n < 2 ^ 31) (h : (nwJ.drop p).take (4 + n) = strW own k n bs) : ∃ q2 : Nat × Nat, (Term.string own k).eval args s none [] s = some (.ref q2.1) ∧ va_O "java/lang/String" q2.1 A s s.heap ∧ va_OF "java/lang/String" "coder" "B" (.int 0) q2.1 A s s.heap ∧ va_OF "java/lang/String" "value" "[B" (.ref q2.2) q2.1 A s s.heap ∧ va_T .byte q2.2 n (fun j => .int (bs.getD j 0)) A s s.heap := by
  have hm : ∀ w ∈ strW own k n bs, w.before args s = true := fun w hw => hs w (List.mem_of_mem_drop (List.mem_of_mem_take (h ▸ hw)))
  obtain ⟨adK, adV, ⟨h1, -⟩, h2⟩ := vk_Sof (N := 1) (tm := fun _ => Term.string own k) (len := [n]) (byt := [bs]) (A := A) (args := args) (s := s)
    (fun i hi => by obtain rfl : i = 0 := by omega
                    exact hn)
    (fun _ _ => hm _ List.mem_cons_self)
    (fun _ _ => hm _ (List.mem_cons_of_mem _ List.mem_cons_self))
    (fun _ _ => hm _ (List.mem_cons_of_mem _ (List.mem_cons_of_mem _ List.mem_cons_self)))
    (fun i hi => by obtain rfl : i = 0 := by omega
                    exact hm _ (List.mem_cons_of_mem _ (List.mem_cons_of_mem _ (List.mem_cons_of_mem _ List.mem_cons_self))))
    (fun i hi j hj => by obtain rfl : i = 0 := by omega
                         exact hm _ (List.mem_cons_of_mem _ (List.mem_cons_of_mem _ (List.mem_cons_of_mem _ (List.mem_cons_of_mem _ (List.mem_map.mpr ⟨j, List.mem_range.mpr hj, rfl⟩))))))
    (fun i j hi hj hne => absurd (show i = j by omega) hne) hA
  exact ⟨(adK 0, adV 0), h2 0 (by omega), h1 0 (by omega)⟩
theorem nS_0 : (nwJ.drop 11).take (4 + 188) = strW "StallMarket" 61 188 (byts.getD 0 []) := by decide +kernel
theorem nS_1 : (nwJ.drop 203).take (4 + 6) = strW "StallMarket$SetupReader" 19 6 (byts.getD 1 []) := by decide +kernel
theorem nS_2 : (nwJ.drop 214).take (4 + 5) = strW "StallMarket$SetupReader" 42 5 (byts.getD 2 []) := by decide +kernel
theorem nS_3 : (nwJ.drop 225).take (4 + 2) = strW "StallMarket$SetupReader" 60 2 (byts.getD 3 []) := by decide +kernel
theorem nS_4 : (nwJ.drop 234).take (4 + 6) = strW "StallMarket$SetupReader" 88 6 (byts.getD 4 []) := by decide +kernel
theorem nS_5 : (nwJ.drop 248).take (4 + 2) = strW "StallMarket$Parser" 58 2 (byts.getD 5 []) := by decide +kernel
theorem nS_6 : (nwJ.drop 294).take (4 + 7) = strW "StallMarketLaw$Own" 101 7 (byts.getD 6 []) := by decide +kernel
theorem nS_7 : (nwJ.drop 312).take (4 + 5) = strW "StallMarketLaw$Own" 103 5 (byts.getD 7 []) := by decide +kernel
theorem nS_8 : (nwJ.drop 329).take (4 + 1) = strW "StallMarketLaw$Own" 73 1 (byts.getD 8 []) := by decide +kernel
theorem nS_9 : (nwJ.drop 343).take (4 + 1) = strW "StallMarketLaw$Own" 111 1 (byts.getD 9 []) := by decide +kernel
theorem nS_10 : (nwJ.drop 358).take (4 + 6) = strW "StallMarketLaw$Own" 113 6 (byts.getD 10 []) := by decide +kernel
theorem nS_11 : (nwJ.drop 379).take (4 + 3) = strW "StallMarketLaw$Own" 122 3 (byts.getD 11 []) := by decide +kernel
theorem str_all {args : Array Value} {s : State} {A : Nat → Prop} (hA : ∀ a : Nat, a < s.heap.size → ¬ A a) (hs : ∀ w ∈ nwJ, w.before args s = true) : ∀ i : Nat, ∃ q2 : Nat × Nat, SG args s A i q2 := by
  intro i
  match i with
  | 0 =>
    obtain ⟨q2, h⟩ := str_of hA hs 11 (by decide) nS_0
    exact ⟨q2, fun q hq => by cases hq; exact h⟩
  | 1 =>
    obtain ⟨q2, h⟩ := str_of hA hs 203 (by decide) nS_1
    exact ⟨q2, fun q hq => by cases hq; exact h⟩
  | 2 =>
    obtain ⟨q2, h⟩ := str_of hA hs 214 (by decide) nS_2
    exact ⟨q2, fun q hq => by cases hq; exact h⟩
  | 3 =>
    obtain ⟨q2, h⟩ := str_of hA hs 225 (by decide) nS_3
    exact ⟨q2, fun q hq => by cases hq; exact h⟩
  | 4 =>
    obtain ⟨q2, h⟩ := str_of hA hs 234 (by decide) nS_4
    exact ⟨q2, fun q hq => by cases hq; exact h⟩
  | 5 =>
    obtain ⟨q2, h⟩ := str_of hA hs 248 (by decide) nS_5
    exact ⟨q2, fun q hq => by cases hq; exact h⟩
  | 6 =>
    obtain ⟨q2, h⟩ := str_of hA hs 294 (by decide) nS_6
    exact ⟨q2, fun q hq => by cases hq; exact h⟩
  | 7 =>
    obtain ⟨q2, h⟩ := str_of hA hs 312 (by decide) nS_7
    exact ⟨q2, fun q hq => by cases hq; exact h⟩
  | 8 =>
    obtain ⟨q2, h⟩ := str_of hA hs 329 (by decide) nS_8
    exact ⟨q2, fun q hq => by cases hq; exact h⟩
  | 9 =>
    obtain ⟨q2, h⟩ := str_of hA hs 343 (by decide) nS_9
    exact ⟨q2, fun q hq => by cases hq; exact h⟩
  | 10 =>
    obtain ⟨q2, h⟩ := str_of hA hs 358 (by decide) nS_10
    exact ⟨q2, fun q hq => by cases hq; exact h⟩
  | 11 =>
    obtain ⟨q2, h⟩ := str_of hA hs 379 (by decide) nS_11
    exact ⟨q2, fun q hq => by cases hq; exact h⟩
  | n + 12 => exact ⟨(0, 0), fun q hq => absurd (List.getElem?_eq_some_iff.mp hq).1 (by show ¬ (n + 12 < 12); omega)⟩
theorem ref_all {args : Array Value} {s : State} (hts : ∀ w ∈ lw_tbl, w.before args s = true) : ∀ (i : Nat) (q : String × Nat × String), strs[i]? = some q → (Cond.stringRef q.1 q.2.1 q.2.2).before args s = true := by
  intro i q hq
  match i, hq with
  | 0, hq => cases hq; exact hts _ (List.mem_of_getElem? (i := 267) (by decide +kernel))
  | 1, hq => cases hq; exact hts _ (List.mem_of_getElem? (i := 357) (by decide +kernel))
  | 2, hq => cases hq; exact hts _ (List.mem_of_getElem? (i := 380) (by decide +kernel))
  | 3, hq => cases hq; exact hts _ (List.mem_of_getElem? (i := 385) (by decide +kernel))
  | 4, hq => cases hq; exact hts _ (List.mem_of_getElem? (i := 409) (by decide +kernel))
  | 5, hq => cases hq; exact hts _ (List.mem_of_getElem? (i := 425) (by decide +kernel))
  | 6, hq => cases hq; exact hts _ (List.mem_of_getElem? (i := 756) (by decide +kernel))
  | 7, hq => cases hq; exact hts _ (List.mem_of_getElem? (i := 763) (by decide +kernel))
  | 8, hq => cases hq; exact hts _ (List.mem_of_getElem? (i := 768) (by decide +kernel))
  | 9, hq => cases hq; exact hts _ (List.mem_of_getElem? (i := 777) (by decide +kernel))
  | 10, hq => cases hq; exact hts _ (List.mem_of_getElem? (i := 778) (by decide +kernel))
  | 11, hq => cases hq; exact hts _ (List.mem_of_getElem? (i := 787) (by decide +kernel))
  | n + 12, hq => exact absurd (List.getElem?_eq_some_iff.mp hq).1 (by show ¬ (n + 12 < 12); omega)
theorem arr_of {args : Array Value} {s : State} {ty : FieldType} (h : (Cond.arrayClass ty).before args s = true) (hr : ∀ cA : ClassId, s.vm.findClass ("[" ++ ty.toString) = some cA → va_RA s cA ty) : ∃ cA : ClassId, ArrOfT s cA ty ∧ va_RA s cA ty := by
  obtain ⟨c, k, comp, h1, h2, h3⟩ := Cond.arrayClass_spec h
  exact ⟨c, fun N z => ⟨(fun k h => by cases h), k, h2, comp, h3⟩, hr c h1⟩
theorem arq_of {args : Array Value} {s : State} {C : String} (h : (Cond.arrayOver (.object C)).before args s = true) : ∃ cA : ClassId, ArrOfT s cA (.object C) ∧ va_RA s cA (.object C) := by
  obtain ⟨comp, c, k, h1, -, h3, h4, h5⟩ := Cond.arrayOver_spec h
  exact ⟨c, fun N z => ⟨(fun k h => by cases h), k, h3, comp, h4⟩, k, comp, h3, h4, h1, h5⟩
theorem ara_of {args : Array Value} {s : State} {ty : FieldType} (h : (Cond.arrayOver (.array ty)).before args s = true) : ∃ cA : ClassId, ArrOfT s cA (.array ty) ∧ va_RA s cA (.array ty) := by
  unfold Cond.before at h
  obtain ⟨comp, c, k, h1, -, h3, h4, h5⟩ := Stand.arrayOver_specB h
  exact ⟨c, fun N z => ⟨(fun k h => by cases h), k, h3, comp, h4⟩, h5⟩
set_option maxHeartbeats 4000000 in
theorem the_env {p : Program} {s : State} {m : MethodId} {meth : Method} {c : Code} {b L : Nat} {xs : Nat → Int32} (C0 : lw_At p s m meth c b L xs) : ∃ E : Ev, eS E = s ∧ eN E = 0 ∧ St E ∧ AO E ∧ va_K (eD E) vwCl (tysE E) s ∧ Kx E s := by
  obtain ⟨-, -, -, -, -, hts, -, -, -, hgv⟩ := C0
  have hs : ∀ w ∈ nwJ, w.before #[Value.ref b] s = true := flat_of_before _ hgv
  have htb : ∀ w ∈ TB, w.before #[Value.ref b] s = true := fun w h => hts w (tb_lw h)
  have hA : ∀ a : Nat, a < s.heap.size → ¬ (fun q : Nat => s.heap.size ≤ q) a := fun a h => Nat.not_le.mpr h
  obtain ⟨c0, i0, hK0⟩ := u_known (C := RX1) (T := TX1) (N := 5) (n := 5) htb inB_X1 (htb _ qA_X1)
  obtain ⟨c1, i1, hK1⟩ := u_known (C := RX2) (T := TX2) (N := 2) (n := 2) htb inB_X2 (htb _ qA_X2)
  obtain ⟨c2, i2, hK2⟩ := u_known (C := RX4) (T := TX4) (N := 3) (n := 3) htb inB_X4 (htb _ qA_X4)
  obtain ⟨c3, i3, hK3⟩ := u_known (C := RX5) (T := TX5) (N := 18) (n := 18) htb inB_X5 (htb _ qA_X5)
  obtain ⟨c4, i4, hK4⟩ := u_known (C := RX6) (T := TX6) (N := 3) (n := 3) htb inB_X6 (htb _ qA_X6)
  obtain ⟨c5, i5, hK5⟩ := u_known (C := RX7) (T := TX7) (N := 3) (n := 3) htb inB_X7 (htb _ qA_X7)
  obtain ⟨c6, i6, hK6⟩ := u_known (C := RX8) (T := TX8) (N := 4) (n := 4) htb inB_X8 (htb _ qA_X8)
  obtain ⟨c7, i7, hK7⟩ := u_known (C := RX10) (T := TX10) (N := 6) (n := 6) htb inB_X10 (htb _ qA_X10)
  obtain ⟨c8, i8, hK8⟩ := u_known (C := RX12) (T := TX12) (N := 10) (n := 10) htb inB_X12 (htb _ qA_X12)
  obtain ⟨c9, i9, hK9⟩ := u_known (C := RX13) (T := TX13) (N := 18) (n := 18) htb inB_X13 (htb _ qA_X13)
  obtain ⟨a0, g0, r0⟩ := arr_of (htb _ qR_46) (fun cA h => h)
  obtain ⟨a1, g1, r1⟩ := arr_of (htb _ qR_140) (fun cA h => h)
  obtain ⟨a2, g2, r2⟩ := arr_of (htb _ qR_182) (fun cA h => h)
  have hov : (Cond.arrayOver (.object "StallMarket$Verb")).before #[Value.ref b] s = true := hts _ (List.mem_of_getElem? (i := 70) (by decide +kernel))
  have hom : (Cond.arrayOver (.object "StallMarket$Market")).before #[Value.ref b] s = true := hts _ (List.mem_of_getElem? (i := 164) (by decide +kernel))
  obtain ⟨a3, g3, r3⟩ := arq_of hov
  obtain ⟨a4, g4, r4⟩ := arq_of hom
  have hoa : (Cond.arrayOver (.array .int)).before #[Value.ref b] s = true := hts _ (List.mem_of_getElem? (i := 687) (by decide +kernel))
  obtain ⟨a5, g5, r5⟩ := arr_of (htb _ qR_473) (fun cA h => h)
  obtain ⟨a6, g6, r6⟩ := ara_of hoa
  obtain ⟨f, hf⟩ := Classical.axiomOfChoice (str_all (args := #[Value.ref b]) (s := s) (A := fun q : Nat => s.heap.size ≤ q) hA hs)
  refine ⟨(s, (fun k => if k = 0 then c0 else if k = 1 then c1 else if k = 2 then c2 else if k = 3 then c3 else if k = 4 then c4 else if k = 5 then c5 else if k = 6 then c6 else if k = 7 then c7 else if k = 8 then c8 else c9, fun k => if k = 0 then i0 else if k = 1 then i1 else if k = 2 then i2 else if k = 3 then i3 else if k = 4 then i4 else if k = 5 then i5 else if k = 6 then i6 else if k = 7 then i7 else if k = 8 then i8 else i9), fun _ => 0, (fun k => if k = 0 then a0 else if k = 1 then a1 else if k = 2 then a2 else if k = 3 then a3 else if k = 4 then a4 else if k = 5 then a5 else a6), (fun _ => 0), (fun i => (f i).1), (fun i => (f i).2), (fun _ => 0), 0), rfl, rfl, ?_, ?_, ?_, ?_⟩
  · refine ⟨fun i hi => ?_, va_Zof (hts _ (List.mem_of_getElem? (i := 277) (by decide +kernel))) (htb _ qN_J0) (va_eqi (hs _ (List.mem_of_getElem? (i := 4) (by decide +kernel)))) hA, va_Zqof (hts _ (List.mem_of_getElem? (i := 293) (by decide +kernel))) (htb _ qN_J3) (hs _ (List.mem_of_getElem? (i := 5) (by decide +kernel))) hA⟩
    have hl : i < strs.length := hi
    exact (hf i _ (List.getElem?_eq_getElem hl)).2
  · exact ⟨va_AO.of hov, va_AO.of hom, hoa⟩
  · refine ⟨fun k q hq => ?_, fun k q hq => ?_⟩
    · match k, hq with
      | 0, hq => cases hq; exact hK0
      | 1, hq => cases hq; exact hK1
      | 2, hq => cases hq; exact hK2
      | 3, hq => cases hq; exact hK3
      | 4, hq => cases hq; exact hK4
      | 5, hq => cases hq; exact hK5
      | 6, hq => cases hq; exact hK6
      | 7, hq => cases hq; exact hK7
      | 8, hq => cases hq; exact hK8
      | 9, hq => cases hq; exact hK9
      | n + 10, hq => exact absurd (List.getElem?_eq_some_iff.mp hq).1 (by show ¬ (n + 10 < 10); omega)
    · match k, hq with
      | 0, hq => cases hq; exact ⟨g0, r0⟩
      | 1, hq => cases hq; exact ⟨g1, r1⟩
      | 2, hq => cases hq; exact ⟨g2, r2⟩
      | 3, hq => cases hq; exact ⟨g3, r3⟩
      | 4, hq => cases hq; exact ⟨g4, r4⟩
      | 5, hq => cases hq; exact ⟨g5, r5⟩
      | 6, hq => cases hq; exact ⟨g6, r6⟩
      | n + 7, hq => exact absurd (List.getElem?_eq_some_iff.mp hq).1 (by show ¬ (n + 7 < 7); omega)
  · refine ⟨fun w hw => va_Nw.of (nb_tab hw) (hts w (List.mem_filter.mp hw).1), fun i q hq => vk_R.of (ref_all hts i q hq) (hf i q hq).1⟩

/-! what the Statement gives of the start -/
def nwJ : List Cond := flatC (Jvm.Cond.and given_1 narrow_1)
def strW (own : String) (k n : Nat) (bs : List Int32) : List Cond := Cond.exactly (.string own k) "java/lang/String" :: Cond.eq (.field (.string own k) "java/lang/String" "coder" "B") (.int 0) :: Cond.arrayOf (.field (.string own k) "java/lang/String" "value" "[B") .byte :: Cond.eq (.length (.field (.string own k) "java/lang/String" "value" "[B")) (.int (Int32.ofNat n)) :: (List.range n).map (fun j => Cond.eq (.elem (.field (.string own k) "java/lang/String" "value" "[B") (.int (Int32.ofNat j))) (.int (bs.getD j 0)))
def SG (args : Array Value) (s : State) (A : Nat → Prop) (i : Nat) (q2 : Nat × Nat) : Prop := ∀ q, strs[i]? = some q → (Term.string q.1 q.2.1).eval args s none [] s = some (.ref q2.1) ∧ va_O "java/lang/String" q2.1 A s s.heap ∧ va_OF "java/lang/String" "coder" "B" (.int 0) q2.1 A s s.heap ∧ va_OF "java/lang/String" "value" "[B" (.ref q2.2) q2.1 A s s.heap ∧ va_T .byte q2.2 (lens.getD i 0) (fun j => .int ((byts.getD i []).getD j 0)) A s s.heap
theorem str_of {args : Array Value} {s : State} {A : Nat → Prop} (hA : ∀ a : Nat, a < s.heap.size → ¬ A a) (hs : ∀ w ∈ nwJ, w.before args s = true) {own : String} {k n : Nat} {bs : List Int32} (p : Nat) (hn : n < 2 ^ 31) (h : (nwJ.drop p).take (4 + n) = strW own k n bs) : ∃ q2 : Nat × Nat, (Term.string own k).eval args s none [] s = some (.ref q2.1) ∧ va_O "java/lang/String" q2.1 A s s.heap ∧ va_OF "java/lang/String" "coder" "B" (.int 0) q2.1 A s s.heap ∧ va_OF "java/lang/String" "value" "[B" (.ref q2.2) q2.1 A s s.heap ∧ va_T .byte q2.2 n (fun j => .int (bs.getD j 0)) A s s.heap := by
  have hm : ∀ w ∈ strW own k n bs, w.before args s = true := fun w hw => hs w (List.mem_of_mem_drop (List.mem_of_mem_take (h ▸ hw)))
  obtain ⟨adK, adV, ⟨h1, -⟩, h2⟩ := vk_Sof (N := 1) (tm := fun _ => Term.string own k) (len := [n]) (byt := [bs]) (A := A) (args := args) (s := s)
    (fun i hi => by obtain rfl : i = 0 := by omega
                    exact hn)
    (fun _ _ => hm _ List.mem_cons_self)
    (fun _ _ => hm _ (List.mem_cons_of_mem _ List.mem_cons_self))
    (fun _ _ => hm _ (List.mem_cons_of_mem _ (List.mem_cons_of_mem _ List.mem_cons_self)))
    (fun i hi => by obtain rfl : i = 0 := by omega
                    exact hm _ (List.mem_cons_of_mem _ (List.mem_cons_of_mem _ (List.mem_cons_of_mem _ List.mem_cons_self))))
    (fun i hi j hj => by obtain rfl : i = 0 := by omega
                         exact hm _ (List.mem_cons_of_mem _ (List.mem_cons_of_mem _ (List.mem_cons_of_mem _ (List.mem_cons_of_mem _ (List.mem_map.mpr ⟨j, List.mem_range.mpr hj, rfl⟩))))))
    (fun i j hi hj hne => absurd (show i = j by omega) hne) hA
  exact ⟨(adK 0, adV 0), h2 0 (by omega), h1 0 (by omega)⟩
theorem nS_0 : (nwJ.drop 157).take (4 + 188) = strW "StallMarket" 61 188 (byts.getD 0 []) := by decide +kernel
theorem nS_1 : (nwJ.drop 349).take (4 + 6) = strW "StallMarket$SetupReader" 19 6 (byts.getD 1 []) := by decide +kernel
theorem nS_2 : (nwJ.drop 359).take (4 + 5) = strW "StallMarket$SetupReader" 42 5 (byts.getD 2 []) := by decide +kernel
theorem nS_3 : (nwJ.drop 368).take (4 + 2) = strW "StallMarket$SetupReader" 60 2 (byts.getD 3 []) := by decide +kernel
theorem nS_4 : (nwJ.drop 374).take (4 + 6) = strW "StallMarket$SetupReader" 88 6 (byts.getD 4 []) := by decide +kernel
theorem nS_5 : (nwJ.drop 384).take (4 + 2) = strW "StallMarket$Parser" 58 2 (byts.getD 5 []) := by decide +kernel
theorem nS_6 : (nwJ.drop 391).take (4 + 24) = strW "StallMarket" 107 24 (byts.getD 6 []) := by decide +kernel
theorem nS_7 : (nwJ.drop 419).take (4 + 34) = strW "StallMarket" 117 34 (byts.getD 7 []) := by decide +kernel
theorem nS_8 : (nwJ.drop 457).take (4 + 25) = strW "StallMarket" 354 25 (byts.getD 8 []) := by decide +kernel
theorem nS_9 : (nwJ.drop 486).take (4 + 24) = strW "StallMarket" 356 24 (byts.getD 9 []) := by decide +kernel
theorem nS_10 : (nwJ.drop 514).take (4 + 26) = strW "StallMarket" 181 26 (byts.getD 10 []) := by decide +kernel
theorem nS_11 : (nwJ.drop 544).take (4 + 34) = strW "StallMarket" 272 34 (byts.getD 11 []) := by decide +kernel
theorem nS_12 : (nwJ.drop 582).take (4 + 33) = strW "StallMarket" 296 33 (byts.getD 12 []) := by decide +kernel
theorem nS_13 : (nwJ.drop 619).take (4 + 28) = strW "StallMarket" 301 28 (byts.getD 13 []) := by decide +kernel
theorem nS_14 : (nwJ.drop 651).take (4 + 30) = strW "StallMarket" 303 30 (byts.getD 14 []) := by decide +kernel
theorem nS_15 : (nwJ.drop 685).take (4 + 36) = strW "StallMarket" 311 36 (byts.getD 15 []) := by decide +kernel
theorem nS_16 : (nwJ.drop 725).take (4 + 28) = strW "StallMarket" 313 28 (byts.getD 16 []) := by decide +kernel
theorem nS_17 : (nwJ.drop 757).take (4 + 23) = strW "StallMarket" 318 23 (byts.getD 17 []) := by decide +kernel
theorem nS_18 : (nwJ.drop 784).take (4 + 27) = strW "StallMarket" 323 27 (byts.getD 18 []) := by decide +kernel
theorem nS_19 : (nwJ.drop 815).take (4 + 33) = strW "StallMarket" 328 33 (byts.getD 19 []) := by decide +kernel
theorem nS_20 : (nwJ.drop 852).take (4 + 25) = strW "StallMarket" 334 25 (byts.getD 20 []) := by decide +kernel
theorem nS_21 : (nwJ.drop 881).take (4 + 16) = strW "StallMarket" 352 16 (byts.getD 21 []) := by decide +kernel
theorem nS_22 : (nwJ.drop 901).take (4 + 96) = strW "StallMarketModel" 60 96 (byts.getD 22 []) := by decide +kernel
theorem nS_23 : (nwJ.drop 1001).take (4 + 92) = strW "StallMarketModel" 66 92 (byts.getD 23 []) := by decide +kernel
theorem nS_24 : (nwJ.drop 1097).take (4 + 6) = strW "StallMarketModel" 244 6 (byts.getD 24 []) := by decide +kernel
theorem nS_25 : (nwJ.drop 1108).take (4 + 5) = strW "StallMarketModel" 249 5 (byts.getD 25 []) := by decide +kernel
theorem nS_26 : (nwJ.drop 1118).take (4 + 2) = strW "StallMarketModel" 215 2 (byts.getD 26 []) := by decide +kernel
theorem nS_27 : (nwJ.drop 1126).take (4 + 6) = strW "StallMarketModel" 254 6 (byts.getD 27 []) := by decide +kernel
theorem nS_28 : (nwJ.drop 1137).take (4 + 6) = strW "StallMarketModel" 262 6 (byts.getD 28 []) := by decide +kernel
theorem nS_29 : (nwJ.drop 1147).take (4 + 6) = strW "StallMarketModel" 264 6 (byts.getD 29 []) := by decide +kernel
theorem nS_30 : (nwJ.drop 1157).take (4 + 4) = strW "StallMarketModel" 266 4 (byts.getD 30 []) := by decide +kernel
theorem nS_31 : (nwJ.drop 1165).take (4 + 10) = strW "StallMarketModel" 268 10 (byts.getD 31 []) := by decide +kernel
theorem nS_32 : (nwJ.drop 1179).take (4 + 6) = strW "StallMarketModel" 270 6 (byts.getD 32 []) := by decide +kernel
theorem nS_33 : (nwJ.drop 1189).take (4 + 6) = strW "StallMarketModel" 272 6 (byts.getD 33 []) := by decide +kernel
theorem nS_34 : (nwJ.drop 1199).take (4 + 4) = strW "StallMarketModel" 274 4 (byts.getD 34 []) := by decide +kernel
theorem nS_35 : (nwJ.drop 1207).take (4 + 7) = strW "StallMarketModel" 276 7 (byts.getD 35 []) := by decide +kernel
theorem nS_36 : (nwJ.drop 1218).take (4 + 4) = strW "StallMarketModel" 278 4 (byts.getD 36 []) := by decide +kernel
theorem nS_37 : (nwJ.drop 1226).take (4 + 6) = strW "StallMarket$Verb" 64 6 (byts.getD 37 []) := by decide +kernel
theorem nS_38 : (nwJ.drop 1237).take (4 + 6) = strW "StallMarket$Verb" 70 6 (byts.getD 38 []) := by decide +kernel
theorem nS_39 : (nwJ.drop 1248).take (4 + 4) = strW "StallMarket$Verb" 73 4 (byts.getD 39 []) := by decide +kernel
theorem nS_40 : (nwJ.drop 1257).take (4 + 10) = strW "StallMarket$Verb" 76 10 (byts.getD 40 []) := by decide +kernel
theorem nS_41 : (nwJ.drop 1272).take (4 + 6) = strW "StallMarket$Verb" 79 6 (byts.getD 41 []) := by decide +kernel
theorem nS_42 : (nwJ.drop 1283).take (4 + 6) = strW "StallMarket$Verb" 82 6 (byts.getD 42 []) := by decide +kernel
theorem nS_43 : (nwJ.drop 1294).take (4 + 4) = strW "StallMarket$Verb" 85 4 (byts.getD 43 []) := by decide +kernel
theorem nS_44 : (nwJ.drop 1303).take (4 + 7) = strW "StallMarket$Verb" 88 7 (byts.getD 44 []) := by decide +kernel
theorem nS_45 : (nwJ.drop 1315).take (4 + 4) = strW "StallMarket$Verb" 91 4 (byts.getD 45 []) := by decide +kernel
theorem str_all {args : Array Value} {s : State} {A : Nat → Prop} (hA : ∀ a : Nat, a < s.heap.size → ¬ A a) (hs : ∀ w ∈ nwJ, w.before args s = true) : ∀ i : Nat, ∃ q2 : Nat × Nat, SG args s A i q2 := by
  intro i
  match i with
  | 0 =>
    obtain ⟨q2, h⟩ := str_of hA hs 157 (by decide) nS_0
    exact ⟨q2, fun q hq => by cases hq; exact h⟩
  | 1 =>
    obtain ⟨q2, h⟩ := str_of hA hs 349 (by decide) nS_1
    exact ⟨q2, fun q hq => by cases hq; exact h⟩
  | 2 =>
    obtain ⟨q2, h⟩ := str_of hA hs 359 (by decide) nS_2
    exact ⟨q2, fun q hq => by cases hq; exact h⟩
  | 3 =>
    obtain ⟨q2, h⟩ := str_of hA hs 368 (by decide) nS_3
    exact ⟨q2, fun q hq => by cases hq; exact h⟩
  | 4 =>
    obtain ⟨q2, h⟩ := str_of hA hs 374 (by decide) nS_4
    exact ⟨q2, fun q hq => by cases hq; exact h⟩
  | 5 =>
    obtain ⟨q2, h⟩ := str_of hA hs 384 (by decide) nS_5
    exact ⟨q2, fun q hq => by cases hq; exact h⟩
  | 6 =>
    obtain ⟨q2, h⟩ := str_of hA hs 391 (by decide) nS_6
    exact ⟨q2, fun q hq => by cases hq; exact h⟩
  | 7 =>
    obtain ⟨q2, h⟩ := str_of hA hs 419 (by decide) nS_7
    exact ⟨q2, fun q hq => by cases hq; exact h⟩
  | 8 =>
    obtain ⟨q2, h⟩ := str_of hA hs 457 (by decide) nS_8
    exact ⟨q2, fun q hq => by cases hq; exact h⟩
  | 9 =>
    obtain ⟨q2, h⟩ := str_of hA hs 486 (by decide) nS_9
    exact ⟨q2, fun q hq => by cases hq; exact h⟩
  | 10 =>
    obtain ⟨q2, h⟩ := str_of hA hs 514 (by decide) nS_10
    exact ⟨q2, fun q hq => by cases hq; exact h⟩
  | 11 =>
    obtain ⟨q2, h⟩ := str_of hA hs 544 (by decide) nS_11
    exact ⟨q2, fun q hq => by cases hq; exact h⟩
  | 12 =>
    obtain ⟨q2, h⟩ := str_of hA hs 582 (by decide) nS_12
    exact ⟨q2, fun q hq => by cases hq; exact h⟩
  | 13 =>
    obtain ⟨q2, h⟩ := str_of hA hs 619 (by decide) nS_13
    exact ⟨q2, fun q hq => by cases hq; exact h⟩
  | 14 =>
    obtain ⟨q2, h⟩ := str_of hA hs 651 (by decide) nS_14
    exact ⟨q2, fun q hq => by cases hq; exact h⟩
  | 15 =>
    obtain ⟨q2, h⟩ := str_of hA hs 685 (by decide) nS_15
    exact ⟨q2, fun q hq => by cases hq; exact h⟩
  | 16 =>
    obtain ⟨q2, h⟩ := str_of hA hs 725 (by decide) nS_16
    exact ⟨q2, fun q hq => by cases hq; exact h⟩
  | 17 =>
    obtain ⟨q2, h⟩ := str_of hA hs 757 (by decide) nS_17
    exact ⟨q2, fun q hq => by cases hq; exact h⟩
  | 18 =>
    obtain ⟨q2, h⟩ := str_of hA hs 784 (by decide) nS_18
    exact ⟨q2, fun q hq => by cases hq; exact h⟩
  | 19 =>
    obtain ⟨q2, h⟩ := str_of hA hs 815 (by decide) nS_19
    exact ⟨q2, fun q hq => by cases hq; exact h⟩
  | 20 =>
    obtain ⟨q2, h⟩ := str_of hA hs 852 (by decide) nS_20
    exact ⟨q2, fun q hq => by cases hq; exact h⟩
  | 21 =>
    obtain ⟨q2, h⟩ := str_of hA hs 881 (by decide) nS_21
    exact ⟨q2, fun q hq => by cases hq; exact h⟩
  | 22 =>
    obtain ⟨q2, h⟩ := str_of hA hs 901 (by decide) nS_22
    exact ⟨q2, fun q hq => by cases hq; exact h⟩
  | 23 =>
    obtain ⟨q2, h⟩ := str_of hA hs 1001 (by decide) nS_23
    exact ⟨q2, fun q hq => by cases hq; exact h⟩
  | 24 =>
    obtain ⟨q2, h⟩ := str_of hA hs 1097 (by decide) nS_24
    exact ⟨q2, fun q hq => by cases hq; exact h⟩
  | 25 =>
    obtain ⟨q2, h⟩ := str_of hA hs 1108 (by decide) nS_25
    exact ⟨q2, fun q hq => by cases hq; exact h⟩
  | 26 =>
    obtain ⟨q2, h⟩ := str_of hA hs 1118 (by decide) nS_26
    exact ⟨q2, fun q hq => by cases hq; exact h⟩
  | 27 =>
    obtain ⟨q2, h⟩ := str_of hA hs 1126 (by decide) nS_27
    exact ⟨q2, fun q hq => by cases hq; exact h⟩
  | 28 =>
    obtain ⟨q2, h⟩ := str_of hA hs 1137 (by decide) nS_28
    exact ⟨q2, fun q hq => by cases hq; exact h⟩
  | 29 =>
    obtain ⟨q2, h⟩ := str_of hA hs 1147 (by decide) nS_29
    exact ⟨q2, fun q hq => by cases hq; exact h⟩
  | 30 =>
    obtain ⟨q2, h⟩ := str_of hA hs 1157 (by decide) nS_30
    exact ⟨q2, fun q hq => by cases hq; exact h⟩
  | 31 =>
    obtain ⟨q2, h⟩ := str_of hA hs 1165 (by decide) nS_31
    exact ⟨q2, fun q hq => by cases hq; exact h⟩
  | 32 =>
    obtain ⟨q2, h⟩ := str_of hA hs 1179 (by decide) nS_32
    exact ⟨q2, fun q hq => by cases hq; exact h⟩
  | 33 =>
    obtain ⟨q2, h⟩ := str_of hA hs 1189 (by decide) nS_33
    exact ⟨q2, fun q hq => by cases hq; exact h⟩
  | 34 =>
    obtain ⟨q2, h⟩ := str_of hA hs 1199 (by decide) nS_34
    exact ⟨q2, fun q hq => by cases hq; exact h⟩
  | 35 =>
    obtain ⟨q2, h⟩ := str_of hA hs 1207 (by decide) nS_35
    exact ⟨q2, fun q hq => by cases hq; exact h⟩
  | 36 =>
    obtain ⟨q2, h⟩ := str_of hA hs 1218 (by decide) nS_36
    exact ⟨q2, fun q hq => by cases hq; exact h⟩
  | 37 =>
    obtain ⟨q2, h⟩ := str_of hA hs 1226 (by decide) nS_37
    exact ⟨q2, fun q hq => by cases hq; exact h⟩
  | 38 =>
    obtain ⟨q2, h⟩ := str_of hA hs 1237 (by decide) nS_38
    exact ⟨q2, fun q hq => by cases hq; exact h⟩
  | 39 =>
    obtain ⟨q2, h⟩ := str_of hA hs 1248 (by decide) nS_39
    exact ⟨q2, fun q hq => by cases hq; exact h⟩
  | 40 =>
    obtain ⟨q2, h⟩ := str_of hA hs 1257 (by decide) nS_40
    exact ⟨q2, fun q hq => by cases hq; exact h⟩
  | 41 =>
    obtain ⟨q2, h⟩ := str_of hA hs 1272 (by decide) nS_41
    exact ⟨q2, fun q hq => by cases hq; exact h⟩
  | 42 =>
    obtain ⟨q2, h⟩ := str_of hA hs 1283 (by decide) nS_42
    exact ⟨q2, fun q hq => by cases hq; exact h⟩
  | 43 =>
    obtain ⟨q2, h⟩ := str_of hA hs 1294 (by decide) nS_43
    exact ⟨q2, fun q hq => by cases hq; exact h⟩
  | 44 =>
    obtain ⟨q2, h⟩ := str_of hA hs 1303 (by decide) nS_44
    exact ⟨q2, fun q hq => by cases hq; exact h⟩
  | 45 =>
    obtain ⟨q2, h⟩ := str_of hA hs 1315 (by decide) nS_45
    exact ⟨q2, fun q hq => by cases hq; exact h⟩
  | n + 46 => exact ⟨(0, 0), fun q hq => absurd (List.getElem?_eq_some_iff.mp hq).1 (by show ¬ (n + 46 < 46); omega)⟩
theorem ref_all {args : Array Value} {s : State} (hts : ∀ w ∈ lw_tbl, w.before args s = true) : ∀ (i : Nat) (q : String × Nat × String), strs[i]? = some q → (Cond.stringRef q.1 q.2.1 q.2.2).before args s = true := by
  intro i q hq
  match i, hq with
  | 0, hq => cases hq; exact hts _ (List.mem_of_getElem? (i := 358) (by decide +kernel))
  | 1, hq => cases hq; exact hts _ (List.mem_of_getElem? (i := 448) (by decide +kernel))
  | 2, hq => cases hq; exact hts _ (List.mem_of_getElem? (i := 471) (by decide +kernel))
  | 3, hq => cases hq; exact hts _ (List.mem_of_getElem? (i := 476) (by decide +kernel))
  | 4, hq => cases hq; exact hts _ (List.mem_of_getElem? (i := 500) (by decide +kernel))
  | 5, hq => cases hq; exact hts _ (List.mem_of_getElem? (i := 516) (by decide +kernel))
  | 6, hq => cases hq; exact hts _ (List.mem_of_getElem? (i := 1004) (by decide +kernel))
  | 7, hq => cases hq; exact hts _ (List.mem_of_getElem? (i := 1051) (by decide +kernel))
  | 8, hq => cases hq; exact hts _ (List.mem_of_getElem? (i := 1079) (by decide +kernel))
  | 9, hq => cases hq; exact hts _ (List.mem_of_getElem? (i := 1108) (by decide +kernel))
  | 10, hq => cases hq; exact hts _ (List.mem_of_getElem? (i := 1148) (by decide +kernel))
  | 11, hq => cases hq; exact hts _ (List.mem_of_getElem? (i := 1259) (by decide +kernel))
  | 12, hq => cases hq; exact hts _ (List.mem_of_getElem? (i := 1268) (by decide +kernel))
  | 13, hq => cases hq; exact hts _ (List.mem_of_getElem? (i := 1277) (by decide +kernel))
  | 14, hq => cases hq; exact hts _ (List.mem_of_getElem? (i := 1285) (by decide +kernel))
  | 15, hq => cases hq; exact hts _ (List.mem_of_getElem? (i := 1294) (by decide +kernel))
  | 16, hq => cases hq; exact hts _ (List.mem_of_getElem? (i := 1309) (by decide +kernel))
  | 17, hq => cases hq; exact hts _ (List.mem_of_getElem? (i := 1318) (by decide +kernel))
  | 18, hq => cases hq; exact hts _ (List.mem_of_getElem? (i := 1327) (by decide +kernel))
  | 19, hq => cases hq; exact hts _ (List.mem_of_getElem? (i := 1336) (by decide +kernel))
  | 20, hq => cases hq; exact hts _ (List.mem_of_getElem? (i := 1338) (by decide +kernel))
  | 21, hq => cases hq; exact hts _ (List.mem_of_getElem? (i := 1354) (by decide +kernel))
  | 22, hq => cases hq; exact hts _ (List.mem_of_getElem? (i := 1361) (by decide +kernel))
  | 23, hq => cases hq; exact hts _ (List.mem_of_getElem? (i := 1368) (by decide +kernel))
  | 24, hq => cases hq; exact hts _ (List.mem_of_getElem? (i := 1393) (by decide +kernel))
  | 25, hq => cases hq; exact hts _ (List.mem_of_getElem? (i := 1414) (by decide +kernel))
  | 26, hq => cases hq; exact hts _ (List.mem_of_getElem? (i := 1423) (by decide +kernel))
  | 27, hq => cases hq; exact hts _ (List.mem_of_getElem? (i := 1440) (by decide +kernel))
  | 28, hq => cases hq; exact hts _ (List.mem_of_getElem? (i := 1608) (by decide +kernel))
  | 29, hq => cases hq; exact hts _ (List.mem_of_getElem? (i := 1609) (by decide +kernel))
  | 30, hq => cases hq; exact hts _ (List.mem_of_getElem? (i := 1610) (by decide +kernel))
  | 31, hq => cases hq; exact hts _ (List.mem_of_getElem? (i := 1611) (by decide +kernel))
  | 32, hq => cases hq; exact hts _ (List.mem_of_getElem? (i := 1612) (by decide +kernel))
  | 33, hq => cases hq; exact hts _ (List.mem_of_getElem? (i := 1613) (by decide +kernel))
  | 34, hq => cases hq; exact hts _ (List.mem_of_getElem? (i := 1614) (by decide +kernel))
  | 35, hq => cases hq; exact hts _ (List.mem_of_getElem? (i := 1615) (by decide +kernel))
  | 36, hq => cases hq; exact hts _ (List.mem_of_getElem? (i := 1616) (by decide +kernel))
  | 37, hq => cases hq; exact hts _ (List.mem_of_getElem? (i := 2039) (by decide +kernel))
  | 38, hq => cases hq; exact hts _ (List.mem_of_getElem? (i := 2040) (by decide +kernel))
  | 39, hq => cases hq; exact hts _ (List.mem_of_getElem? (i := 2041) (by decide +kernel))
  | 40, hq => cases hq; exact hts _ (List.mem_of_getElem? (i := 2042) (by decide +kernel))
  | 41, hq => cases hq; exact hts _ (List.mem_of_getElem? (i := 2043) (by decide +kernel))
  | 42, hq => cases hq; exact hts _ (List.mem_of_getElem? (i := 2044) (by decide +kernel))
  | 43, hq => cases hq; exact hts _ (List.mem_of_getElem? (i := 2045) (by decide +kernel))
  | 44, hq => cases hq; exact hts _ (List.mem_of_getElem? (i := 2046) (by decide +kernel))
  | 45, hq => cases hq; exact hts _ (List.mem_of_getElem? (i := 2047) (by decide +kernel))
  | n + 46, hq => exact absurd (List.getElem?_eq_some_iff.mp hq).1 (by show ¬ (n + 46 < 46); omega)
def vnm : List String := ["ASSIGN", "VACATE", "SWAP", "REALLOCATE", "PREFER", "REMOVE", "RENT", "DEPOSIT", "DAYS"]
abbrev vD : String := "LStallMarket$Verb;"
theorem nV_ex : ∀ k, k < 9 → Cond.exactly (.static "StallMarket$Verb" (vnm.getD k "") vD) "StallMarket$Verb" ∈ nwJ := by
  intro k hk
  match k, hk with
  | 0, _ => exact List.mem_of_getElem? (i := 37) (by decide +kernel)
  | 1, _ => exact List.mem_of_getElem? (i := 42) (by decide +kernel)
  | 2, _ => exact List.mem_of_getElem? (i := 48) (by decide +kernel)
  | 3, _ => exact List.mem_of_getElem? (i := 55) (by decide +kernel)
  | 4, _ => exact List.mem_of_getElem? (i := 63) (by decide +kernel)
  | 5, _ => exact List.mem_of_getElem? (i := 72) (by decide +kernel)
  | 6, _ => exact List.mem_of_getElem? (i := 82) (by decide +kernel)
  | 7, _ => exact List.mem_of_getElem? (i := 93) (by decide +kernel)
  | 8, _ => exact List.mem_of_getElem? (i := 105) (by decide +kernel)
  | n + 9, h => exact absurd h (by omega)
theorem nV_or : ∀ k, k < 9 → Cond.eq (.field (.static "StallMarket$Verb" (vnm.getD k "") vD) "java/lang/Enum" "ordinal" "I") (.int (nI k)) ∈ nwJ := by
  intro k hk
  match k, hk with
  | 0, _ => exact List.mem_of_getElem? (i := 38) (by decide +kernel)
  | 1, _ => exact List.mem_of_getElem? (i := 43) (by decide +kernel)
  | 2, _ => exact List.mem_of_getElem? (i := 49) (by decide +kernel)
  | 3, _ => exact List.mem_of_getElem? (i := 56) (by decide +kernel)
  | 4, _ => exact List.mem_of_getElem? (i := 64) (by decide +kernel)
  | 5, _ => exact List.mem_of_getElem? (i := 73) (by decide +kernel)
  | 6, _ => exact List.mem_of_getElem? (i := 83) (by decide +kernel)
  | 7, _ => exact List.mem_of_getElem? (i := 94) (by decide +kernel)
  | 8, _ => exact List.mem_of_getElem? (i := 106) (by decide +kernel)
  | n + 9, h => exact absurd h (by omega)
theorem nV_fk : ∀ k, k < 9 → Cond.eq (.field (.static "StallMarket$Verb" (vnm.getD k "") vD) "StallMarket$Verb" "firstKind" "I") (.int (fks.getD k 0)) ∈ nwJ := by
  intro k hk
  match k, hk with
  | 0, _ => exact List.mem_of_getElem? (i := 40) (by decide +kernel)
  | 1, _ => exact List.mem_of_getElem? (i := 45) (by decide +kernel)
  | 2, _ => exact List.mem_of_getElem? (i := 51) (by decide +kernel)
  | 3, _ => exact List.mem_of_getElem? (i := 58) (by decide +kernel)
  | 4, _ => exact List.mem_of_getElem? (i := 66) (by decide +kernel)
  | 5, _ => exact List.mem_of_getElem? (i := 75) (by decide +kernel)
  | 6, _ => exact List.mem_of_getElem? (i := 85) (by decide +kernel)
  | 7, _ => exact List.mem_of_getElem? (i := 96) (by decide +kernel)
  | 8, _ => exact List.mem_of_getElem? (i := 108) (by decide +kernel)
  | n + 9, h => exact absurd h (by omega)
theorem nV_sk : ∀ k, k < 9 → Cond.eq (.field (.static "StallMarket$Verb" (vnm.getD k "") vD) "StallMarket$Verb" "secondKind" "I") (.int (sks.getD k 0)) ∈ nwJ := by
  intro k hk
  match k, hk with
  | 0, _ => exact List.mem_of_getElem? (i := 41) (by decide +kernel)
  | 1, _ => exact List.mem_of_getElem? (i := 46) (by decide +kernel)
  | 2, _ => exact List.mem_of_getElem? (i := 52) (by decide +kernel)
  | 3, _ => exact List.mem_of_getElem? (i := 59) (by decide +kernel)
  | 4, _ => exact List.mem_of_getElem? (i := 67) (by decide +kernel)
  | 5, _ => exact List.mem_of_getElem? (i := 76) (by decide +kernel)
  | 6, _ => exact List.mem_of_getElem? (i := 86) (by decide +kernel)
  | 7, _ => exact List.mem_of_getElem? (i := 97) (by decide +kernel)
  | 8, _ => exact List.mem_of_getElem? (i := 109) (by decide +kernel)
  | n + 9, h => exact absurd h (by omega)
def vwk : List Nat := [64, 70, 73, 76, 79, 82, 85, 88, 91]
theorem nV_w : ∀ k, k < 9 → Cond.eq (.field (.static "StallMarket$Verb" (vnm.getD k "") vD) "StallMarket$Verb" "word" "Ljava/lang/String;") (.string "StallMarket$Verb" (vwk.getD k 0)) ∈ nwJ := by
  intro k hk
  match k, hk with
  | 0, _ => exact List.mem_of_getElem? (i := 39) (by decide +kernel)
  | 1, _ => exact List.mem_of_getElem? (i := 44) (by decide +kernel)
  | 2, _ => exact List.mem_of_getElem? (i := 50) (by decide +kernel)
  | 3, _ => exact List.mem_of_getElem? (i := 57) (by decide +kernel)
  | 4, _ => exact List.mem_of_getElem? (i := 65) (by decide +kernel)
  | 5, _ => exact List.mem_of_getElem? (i := 74) (by decide +kernel)
  | 6, _ => exact List.mem_of_getElem? (i := 84) (by decide +kernel)
  | 7, _ => exact List.mem_of_getElem? (i := 95) (by decide +kernel)
  | 8, _ => exact List.mem_of_getElem? (i := 107) (by decide +kernel)
  | n + 9, h => exact absurd h (by omega)
theorem nV_el : ∀ k, k < 9 → Cond.eq (.elem (.static "StallMarket" "VERBS" "[LStallMarket$Verb;") (.int (Int32.ofNat k))) (.static "StallMarket$Verb" (vnm.getD k "") vD) ∈ nwJ := by
  intro k hk
  match k, hk with
  | 0, _ => exact List.mem_of_getElem? (i := 14) (by decide +kernel)
  | 1, _ => exact List.mem_of_getElem? (i := 15) (by decide +kernel)
  | 2, _ => exact List.mem_of_getElem? (i := 16) (by decide +kernel)
  | 3, _ => exact List.mem_of_getElem? (i := 17) (by decide +kernel)
  | 4, _ => exact List.mem_of_getElem? (i := 18) (by decide +kernel)
  | 5, _ => exact List.mem_of_getElem? (i := 19) (by decide +kernel)
  | 6, _ => exact List.mem_of_getElem? (i := 20) (by decide +kernel)
  | 7, _ => exact List.mem_of_getElem? (i := 21) (by decide +kernel)
  | 8, _ => exact List.mem_of_getElem? (i := 22) (by decide +kernel)
  | n + 9, h => exact absurd h (by omega)
theorem nV_sw : ∀ k, k < 9 → Cond.eq (.elem (.static "StallMarket$1" "$SwitchMap$StallMarket$Verb" "[I") (.int (Int32.ofNat k))) (.int (swm.getD k 0)) ∈ nwJ := by
  intro k hk
  match k, hk with
  | 0, _ => exact List.mem_of_getElem? (i := 26) (by decide +kernel)
  | 1, _ => exact List.mem_of_getElem? (i := 27) (by decide +kernel)
  | 2, _ => exact List.mem_of_getElem? (i := 28) (by decide +kernel)
  | 3, _ => exact List.mem_of_getElem? (i := 29) (by decide +kernel)
  | 4, _ => exact List.mem_of_getElem? (i := 30) (by decide +kernel)
  | 5, _ => exact List.mem_of_getElem? (i := 31) (by decide +kernel)
  | 6, _ => exact List.mem_of_getElem? (i := 32) (by decide +kernel)
  | 7, _ => exact List.mem_of_getElem? (i := 33) (by decide +kernel)
  | 8, _ => exact List.mem_of_getElem? (i := 34) (by decide +kernel)
  | n + 9, h => exact absurd h (by omega)
theorem vstr : ∀ k, k < 9 → ∃ tx, strs[37 + k]? = some ("StallMarket$Verb", vwk.getD k 0, tx) := by
  intro k hk
  match k, hk with
  | 0, _ => exact ⟨_, rfl⟩
  | 1, _ => exact ⟨_, rfl⟩
  | 2, _ => exact ⟨_, rfl⟩
  | 3, _ => exact ⟨_, rfl⟩
  | 4, _ => exact ⟨_, rfl⟩
  | 5, _ => exact ⟨_, rfl⟩
  | 6, _ => exact ⟨_, rfl⟩
  | 7, _ => exact ⟨_, rfl⟩
  | 8, _ => exact ⟨_, rfl⟩
  | n + 9, h => exact absurd h (by omega)
theorem arr_of {args : Array Value} {s : State} {ty : FieldType} (h : (Cond.arrayClass ty).before args s = true) (hr : ∀ cA : ClassId, s.vm.findClass ("[" ++ ty.toString) = some cA → va_RA s cA ty) : ∃ cA : ClassId, ArrOfT s cA ty ∧ va_RA s cA ty := by
  obtain ⟨c, k, comp, h1, h2, h3⟩ := Cond.arrayClass_spec h
  exact ⟨c, fun N z => ⟨(fun k h => by cases h), k, h2, comp, h3⟩, hr c h1⟩
theorem arq_of {args : Array Value} {s : State} {C : String} (h : (Cond.arrayOver (.object C)).before args s = true) : ∃ cA : ClassId, ArrOfT s cA (.object C) ∧ va_RA s cA (.object C) := by
  obtain ⟨comp, c, k, h1, -, h3, h4, h5⟩ := Cond.arrayOver_spec h
  exact ⟨c, fun N z => ⟨(fun k h => by cases h), k, h3, comp, h4⟩, k, comp, h3, h4, h1, h5⟩
set_option maxHeartbeats 4000000 in
theorem the_env {p : Program} {s : State} {m : MethodId} {meth : Method} {c : Code} {b L : Nat} {xs : Nat → Int32} (C0 : lw_At p s m meth c b L xs) : ∃ E : Ev, eS E = s ∧ eN E = 0 ∧ St E ∧ NC E ∧ AO E ∧ va_K (eD E) vwCl (tysE E) s ∧ Kx E s := by
  obtain ⟨-, -, -, -, -, hts, -, -, -, hgv⟩ := C0
  have hs : ∀ w ∈ nwJ, w.before #[Value.ref b] s = true := flat_of_before _ hgv
  have htb : ∀ w ∈ TB, w.before #[Value.ref b] s = true := fun w h => hts w (tb_lw h)
  have hA : ∀ a : Nat, a < s.heap.size → ¬ (fun q : Nat => s.heap.size ≤ q) a := fun a h => Nat.not_le.mpr h
  obtain ⟨c0, i0, hK0⟩ := u_known (C := RX1) (T := TX1) (N := 5) (n := 5) htb inB_X1 (htb _ qA_X1)
  obtain ⟨c1, i1, hK1⟩ := u_known (C := RX2) (T := TX2) (N := 2) (n := 2) htb inB_X2 (htb _ qA_X2)
  obtain ⟨c2, i2, hK2⟩ := u_known (C := RX4) (T := TX4) (N := 3) (n := 3) htb inB_X4 (htb _ qA_X4)
  obtain ⟨c3, i3, hK3⟩ := u_known (C := RX5) (T := TX5) (N := 18) (n := 18) htb inB_X5 (htb _ qA_X5)
  obtain ⟨c4, i4, hK4⟩ := u_known (C := RX6) (T := TX6) (N := 3) (n := 3) htb inB_X6 (htb _ qA_X6)
  obtain ⟨c5, i5, hK5⟩ := u_known (C := RX7) (T := TX7) (N := 3) (n := 3) htb inB_X7 (htb _ qA_X7)
  obtain ⟨c6, i6, hK6⟩ := u_known (C := RX8) (T := TX8) (N := 4) (n := 4) htb inB_X8 (htb _ qA_X8)
  obtain ⟨c7, i7, hK7⟩ := u_known (C := RX10) (T := TX10) (N := 6) (n := 6) htb inB_X10 (htb _ qA_X10)
  obtain ⟨c8, i8, hK8⟩ := u_known (C := RX12) (T := TX12) (N := 10) (n := 10) htb inB_X12 (htb _ qA_X12)
  obtain ⟨c9, i9, hK9⟩ := u_known (C := RX13) (T := TX13) (N := 29) (n := 29) htb inB_X13 (htb _ qA_X13)
  obtain ⟨a0, g0, r0⟩ := arr_of (htb _ qR_48) (fun cA h => h)
  obtain ⟨a1, g1, r1⟩ := arr_of (htb _ qR_145) (fun cA h => h)
  obtain ⟨a2, g2, r2⟩ := arr_of (htb _ qR_188) (fun cA h => h)
  have hov : (Cond.arrayOver (.object "StallMarket$Verb")).before #[Value.ref b] s = true := hts _ (List.mem_of_getElem? (i := 148) (by decide +kernel))
  have hom : (Cond.arrayOver (.object "StallMarket$Market")).before #[Value.ref b] s = true := hts _ (List.mem_of_getElem? (i := 245) (by decide +kernel))
  obtain ⟨a3, g3, r3⟩ := arq_of hov
  obtain ⟨a4, g4, r4⟩ := arq_of hom
  obtain ⟨f, hf⟩ := Classical.axiomOfChoice (str_all (args := #[Value.ref b]) (s := s) (A := fun q : Nat => s.heap.size ≤ q) hA hs)
  obtain ⟨ve, hve⟩ := Classical.axiomOfChoice (show ∀ k : Nat, ∃ t : Nat, k < 9 → (Term.static "StallMarket$Verb" (vnm.getD k "") vD).eval #[Value.ref b] s none [] s = some (.ref t) ∧ va_O "StallMarket$Verb" t (fun q : Nat => s.heap.size ≤ q) s s.heap from fun k => by
    by_cases hk : k < 9
    · obtain ⟨a, c, cell, k9, q1, q2, q3, q4, q5, q6, -⟩ := Cond.exactly_spec (hs _ (nV_ex k hk))
      exact ⟨a, fun _ => ⟨q1, cell, q3, q5, by rw [q6]; exact q2, hA a (Array.getElem?_eq_some_iff.mp q3).1⟩⟩
    · exact ⟨0, fun h => absurd h hk⟩)
  have hev : ∀ k, k < 9 → (Term.static "StallMarket$Verb" (vnm.getD k "") vD).eval #[Value.ref b] s none [] s = some (.ref (ve k)) := fun k hk => (hve k hk).1
  obtain ⟨t0, ht0, hT0⟩ := va_Tof (tm := .static "StallMarket" "VERBS" "[LStallMarket$Verb;") (ty := .object "StallMarket$Verb") (N := 9) (f := fun j => .ref (ve j)) (A := fun q : Nat => s.heap.size ≤ q) (by decide) (hs _ (List.mem_of_getElem? (i := 11) (by decide +kernel))) (va_eqt (hs _ (List.mem_of_getElem? (i := 12) (by decide +kernel)))) (fun j hj => va_eqv (hs _ (nV_el j hj)) (hev j hj)) hA
  obtain ⟨t1, ht1, hT1⟩ := va_Tof (tm := .static "StallMarket$1" "$SwitchMap$StallMarket$Verb" "[I") (ty := .int) (N := 9) (f := fun j => .int (swm.getD j 0)) (A := fun q : Nat => s.heap.size ≤ q) (by decide) (hs _ (List.mem_of_getElem? (i := 24) (by decide +kernel))) (va_eqt (hs _ (List.mem_of_getElem? (i := 25) (by decide +kernel)))) (fun j hj => va_eqt (hs _ (nV_sw j hj))) hA
  refine ⟨(s, (fun k => if k = 0 then c0 else if k = 1 then c1 else if k = 2 then c2 else if k = 3 then c3 else if k = 4 then c4 else if k = 5 then c5 else if k = 6 then c6 else if k = 7 then c7 else if k = 8 then c8 else c9, fun k => if k = 0 then i0 else if k = 1 then i1 else if k = 2 then i2 else if k = 3 then i3 else if k = 4 then i4 else if k = 5 then i5 else if k = 6 then i6 else if k = 7 then i7 else if k = 8 then i8 else i9), fun _ => 0, (fun k => if k = 0 then a0 else if k = 1 then a1 else if k = 2 then a2 else if k = 3 then a3 else a4), ve, (fun i => (f i).1), (fun i => (f i).2), (fun k => if k = 0 then t0 else t1), 0), rfl, rfl, ?_, ?_, ?_, ?_, ?_⟩
  · refine ⟨fun i hi => ?_, ⟨va_Zof (hts _ (List.mem_of_getElem? (i := 368) (by decide +kernel))) (htb _ qN_J0) (va_eqi (hs _ (List.mem_of_getElem? (i := 4) (by decide +kernel)))) hA, va_Zqof (hts _ (List.mem_of_getElem? (i := 384) (by decide +kernel))) (htb _ qN_J3) (hs _ (List.mem_of_getElem? (i := 5) (by decide +kernel))) hA⟩, ⟨vx_Zqof (hts _ (List.mem_of_getElem? (i := 990) (by decide +kernel))) (htb _ qN_java_lang_Throwable) (hs _ (List.mem_of_getElem? (i := 35) (by decide +kernel))) hA, vx_Zqof (hts _ (List.mem_of_getElem? (i := 992) (by decide +kernel))) (htb _ qN_java_lang_Throwable) (hs _ (List.mem_of_getElem? (i := 36) (by decide +kernel))) hA⟩, ⟨va_Zof (hts _ (List.mem_of_getElem? (i := 609) (by decide +kernel))) (htb _ qN_X12) ht0 hA, hT0⟩, ⟨va_Zof (hts _ (List.mem_of_getElem? (i := 645) (by decide +kernel))) (htb _ qN_X0) ht1 hA, hT1⟩, fun k hk => ⟨(hve k hk).2, ?_, ?_, ?_, ?_⟩⟩
    · have hl : i < strs.length := hi
      exact (hf i _ (List.getElem?_eq_getElem hl)).2
    · exact va_Efof (N := 9) (v := fun k => .int (nI k)) (tm := fun k => .int (nI k)) hev (fun i hi => hs _ (nV_or i hi)) (fun _ _ => rfl) hA k hk
    · exact va_Efof (N := 9) (v := fun k => .ref (f (37 + k)).1) (tm := fun k => .string "StallMarket$Verb" (vwk.getD k 0)) hev (fun i hi => hs _ (nV_w i hi)) (fun i hi => by
        obtain ⟨tx, h⟩ := vstr i hi
        exact (hf (37 + i) _ h).1) hA k hk
    · exact va_Efof (N := 9) (v := fun k => .int (fks.getD k 0)) (tm := fun k => .int (fks.getD k 0)) hev (fun i hi => hs _ (nV_fk i hi)) (fun _ _ => rfl) hA k hk
    · exact va_Efof (N := 9) (v := fun k => .int (sks.getD k 0)) (tm := fun k => .int (sks.getD k 0)) hev (fun i hi => hs _ (nV_sk i hi)) (fun _ _ => rfl) hA k hk
  · exact ⟨va_Nc.of (hs _ (List.mem_of_getElem? (i := 154) (by decide +kernel))), va_Nc.of (hs _ (List.mem_of_getElem? (i := 155) (by decide +kernel))), va_Nc.of (hs _ (List.mem_of_getElem? (i := 141) (by decide +kernel)))⟩
  · exact ⟨va_AO.of hov, va_AO.of hom⟩
  · refine ⟨fun k q hq => ?_, fun k q hq => ?_⟩
    · match k, hq with
      | 0, hq => cases hq; exact hK0
      | 1, hq => cases hq; exact hK1
      | 2, hq => cases hq; exact hK2
      | 3, hq => cases hq; exact hK3
      | 4, hq => cases hq; exact hK4
      | 5, hq => cases hq; exact hK5
      | 6, hq => cases hq; exact hK6
      | 7, hq => cases hq; exact hK7
      | 8, hq => cases hq; exact hK8
      | 9, hq => cases hq; exact hK9
      | n + 10, hq => exact absurd (List.getElem?_eq_some_iff.mp hq).1 (by show ¬ (n + 10 < 10); omega)
    · match k, hq with
      | 0, hq => cases hq; exact ⟨g0, r0⟩
      | 1, hq => cases hq; exact ⟨g1, r1⟩
      | 2, hq => cases hq; exact ⟨g2, r2⟩
      | 3, hq => cases hq; exact ⟨g3, r3⟩
      | 4, hq => cases hq; exact ⟨g4, r4⟩
      | n + 5, hq => exact absurd (List.getElem?_eq_some_iff.mp hq).1 (by show ¬ (n + 5 < 5); omega)
  · refine ⟨fun w hw => va_Nw.of (nb_tab hw) (hts w (List.mem_filter.mp hw).1), fun i q hq => vk_R.of (ref_all hts i q hq) (hf i q hq).1, fun w hw => va_Nw.of (db_tab hw) (hts w (List.mem_filter.mp hw).1)⟩

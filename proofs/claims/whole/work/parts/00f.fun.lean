set_option maxRecDepth 100000 in
def f_X5_hasSeller (p1 : Int32) (μ : OM) : Option (Int32) := (if p1 < 0 then (some 0) else (if (μ.1 0 0) ≤ p1 then (some 0) else (some 1)))
set_option maxRecDepth 100000 in
def f_X5_turnOf (p1 : Int32) (μ : OM) : Option (Int32) := ((f_X5_hasSeller p1 μ).bind fun r1 => (if r1 = 0 then (some (-1)) else (if inb p1 8 = true then (some (μ.1 5 (Int32.toNatClampNeg p1))) else none)))
set_option maxRecDepth 100000 in
def f_X1_nextInTurn_4 (μ : OM) (α : OM) : Nat → Int32 → Int32 → Option (Int32)
  | 0, _, _ => none
  | n + 1, x3, x2 => (if (μ.1 0 0) ≤ x3 then (some x2) else (if inb x3 8 = true then (if (α.1 2 (Int32.toNatClampNeg x3)) = 0 then (if x2 = (-1) then (f_X1_nextInTurn_4 μ α n (x3 + 1) x3) else ((f_X5_turnOf x3 μ).bind fun r4 => ((f_X5_turnOf x2 μ).bind fun r5 => (if r5 ≤ r4 then (f_X1_nextInTurn_4 μ α n (x3 + 1) x2) else (f_X1_nextInTurn_4 μ α n (x3 + 1) x3))))) else (f_X1_nextInTurn_4 μ α n (x3 + 1) x2)) else none))
set_option maxRecDepth 100000 in
def f_X1_nextInTurn  (μ : OM) (α : OM) : Option (Int32) := (f_X1_nextInTurn_4 μ α FU 0 (-1))
set_option maxRecDepth 100000 in
def f_X1_append (p1 : Int32) (α : OM) : Option (OM) := (if p1 = (-1) then (some α) else (if 8 ≤ (α.1 0 4) then (some α) else (if inb (α.1 0 4) 8 = true then (lt (wI α 4 (Int32.toNatClampNeg (α.1 0 4)) p1) fun α3 => (lt (wI α3 0 4 ((α3.1 0 4) + 1)) fun α4 => (some α4))) else none)))
set_option maxRecDepth 100000 in
def f_X5_wishesOf (p1 : Int32) (μ : OM) : Option (Int32) := ((f_X5_hasSeller p1 μ).bind fun r1 => (if r1 = 0 then (some 0) else (if inb p1 8 = true then (some (μ.1 6 (Int32.toNatClampNeg p1))) else none)))
set_option maxRecDepth 100000 in
def f_X5_wish (p1 : Int32) (p2 : Int32) (μ : OM) : Option (Int32) := ((f_X5_hasSeller p1 μ).bind fun r1 => (if r1 = 0 then (some (-1)) else (if p2 < 0 then (some (-1)) else (if inb p1 8 = true then (if p2 < (μ.1 6 (Int32.toNatClampNeg p1)) then (if inb ((p1 * 8) + p2) 64 = true then (some (μ.1 7 (Int32.toNatClampNeg ((p1 * 8) + p2)))) else none) else (some (-1))) else none))))
set_option maxRecDepth 100000 in
def f_X1_firstAvailable_2 (x2 : Int32) (μ : OM) (α : OM) : Nat → Int32 → Option (Int32)
  | 0, _ => none
  | n + 1, x3 => ((f_X5_wishesOf x2 μ).bind fun r1 => (if r1 ≤ x3 then (some (-1)) else ((f_X5_wish x2 x3 μ).bind fun r3 => (if r3 = (-1) then (f_X1_firstAvailable_2 x2 μ α n (x3 + 1)) else (if inb r3 8 = true then (if (α.1 3 (Int32.toNatClampNeg r3)) = 0 then (some r3) else (f_X1_firstAvailable_2 x2 μ α n (x3 + 1))) else none)))))
set_option maxRecDepth 100000 in
def f_X1_firstAvailable (p2 : Int32) (μ : OM) (α : OM) : Option (Int32) := (f_X1_firstAvailable_2 p2 μ α FU 0)
set_option maxRecDepth 100000 in
def f_X5_holderOf_9 (x1 : Int32) (μ : OM) : Nat → Int32 → Option (Int32)
  | 0, _ => none
  | n + 1, x2 => (if (μ.1 0 0) ≤ x2 then (some (-1)) else (if inb x2 8 = true then (if (μ.1 4 (Int32.toNatClampNeg x2)) = x1 then (some x2) else (f_X5_holderOf_9 x1 μ n (x2 + 1))) else none))
set_option maxRecDepth 100000 in
def f_X5_holderOf (p1 : Int32) (μ : OM) : Option (Int32) := (if p1 = (-1) then (some (-1)) else (f_X5_holderOf_9 p1 μ FU 0))
set_option maxRecDepth 100000 in
def f_X1_finishFrom_2 (x1 : Int32) : Nat → Int32 → OM → Option (OM)
  | 0, _, _ => none
  | n + 1, x2, α => (if x2 < 0 then (lt (wI α 0 4 x1) fun α2 => (some α2)) else (if (α.1 0 4) ≤ x2 then (lt (wI α 0 4 x1) fun α4 => (some α4)) else (if inb x2 8 = true then (lt ((α.1 4 (Int32.toNatClampNeg x2))) fun i5 => (if inb i5 8 = true then (lt (wI α 2 (Int32.toNatClampNeg i5) 1) fun α6 => (if inb i5 8 = true then (lt ((α6.1 1 (Int32.toNatClampNeg i5))) fun i7 => (if i7 = (-1) then (f_X1_finishFrom_2 x1 n (x2 + 1) α6) else (if inb i7 8 = true then (lt (wI α6 3 (Int32.toNatClampNeg i7) 1) fun α9 => (f_X1_finishFrom_2 x1 n (x2 + 1) α9)) else none))) else none)) else none)) else none)))
set_option maxRecDepth 100000 in
def f_X1_finishFrom (p1 : Int32) (α : OM) : Option (OM) := (f_X1_finishFrom_2 p1 FU p1 α)
set_option maxRecDepth 100000 in
def f_X1_placeInChain_2 (x1 : Int32) (α : OM) : Nat → Int32 → Option (Int32)
  | 0, _ => none
  | n + 1, x2 => (if (α.1 0 4) ≤ x2 then (some (-1)) else (if inb x2 8 = true then (if (α.1 4 (Int32.toNatClampNeg x2)) = x1 then (some x2) else (f_X1_placeInChain_2 x1 α n (x2 + 1))) else none))
set_option maxRecDepth 100000 in
def f_X1_placeInChain (p1 : Int32) (α : OM) : Option (Int32) := (f_X1_placeInChain_2 p1 α FU 0)
set_option maxRecDepth 100000 in
def f_X1_serve (p2 : Int32) (μ : OM) (α : OM) : Option (OM) := ((f_X1_firstAvailable p2 μ α).bind fun r1 => (if inb p2 8 = true then (lt (wI α 1 (Int32.toNatClampNeg p2) r1) fun α2 => ((f_X5_holderOf r1 μ).bind fun r3 => (if r3 = (-1) then ((f_X1_finishFrom ((α2.1 0 4) - 1) α2).bind fun α5 => (some α5)) else (if r3 = p2 then ((f_X1_finishFrom ((α2.1 0 4) - 1) α2).bind fun α7 => (some α7)) else (if inb r3 8 = true then (if (α2.1 2 (Int32.toNatClampNeg r3)) = 0 then ((f_X1_placeInChain r3 α2).bind fun r9 => (if r9 = (-1) then ((f_X1_append r3 α2).bind fun α12 => (some α12)) else ((f_X1_finishFrom r9 α2).bind fun α11 => (some α11)))) else ((f_X1_finishFrom ((α2.1 0 4) - 1) α2).bind fun α13 => (some α13))) else none))))) else none))
set_option maxRecDepth 100000 in
def f_X1_decide_7  : Nat → Int32 → OM → Option (OM)
  | 0, _, _ => none
  | n + 1, x2, α => (if 8 ≤ x2 then (some α) else (if inb x2 8 = true then (lt (wI α 1 (Int32.toNatClampNeg x2) (-1)) fun α3 => (if inb x2 8 = true then (lt (wI α3 2 (Int32.toNatClampNeg x2) 0) fun α4 => (f_X1_decide_7  n (x2 + 1) α4)) else none)) else none))
set_option maxRecDepth 100000 in
def f_X1_decide_35  : Nat → Int32 → OM → Option (OM)
  | 0, _, _ => none
  | n + 1, x2, α => (if 8 ≤ x2 then (some α) else (if inb x2 8 = true then (lt (wI α 3 (Int32.toNatClampNeg x2) 0) fun α7 => (f_X1_decide_35  n (x2 + 1) α7)) else none))
set_option maxRecDepth 100000 in
def f_X1_decide_56 (μ : OM) : Nat → Int32 → OM → Option (OM)
  | 0, _, _ => none
  | n + 1, x2, α => (if 16 ≤ x2 then (some α) else (if (α.1 0 4) = 0 then ((f_X1_nextInTurn μ α).bind fun r13 => ((f_X1_append r13 α).bind fun α14 => (if (α14.1 0 4) ≤ 0 then (f_X1_decide_56 μ n (x2 + 1) α14) else (if inb ((α14.1 0 4) - 1) 8 = true then ((f_X1_serve (α14.1 4 (Int32.toNatClampNeg ((α14.1 0 4) - 1))) μ α14).bind fun α16 => (f_X1_decide_56 μ n (x2 + 1) α16)) else none)))) else (if (α.1 0 4) ≤ 0 then (f_X1_decide_56 μ n (x2 + 1) α) else (if inb ((α.1 0 4) - 1) 8 = true then ((f_X1_serve (α.1 4 (Int32.toNatClampNeg ((α.1 0 4) - 1))) μ α).bind fun α12 => (f_X1_decide_56 μ n (x2 + 1) α12)) else none))))
set_option maxRecDepth 100000 in
def f_X1_decide  (μ : OM) (α : OM) : Option (OM) := (lt (wI α 0 4 0) fun α1 => ((f_X1_decide_7  FU 0 α1).bind fun α5 => ((f_X1_decide_35  FU 0 α5).bind fun α8 => (f_X1_decide_56 μ FU 0 α8))))
set_option maxRecDepth 100000 in
def f_X1_givenTo (p1 : Int32) (α : OM) : Option (Int32) := (if p1 < 0 then (some (-1)) else (if p1 < 8 then (if inb p1 8 = true then (some (α.1 1 (Int32.toNatClampNeg p1))) else none) else (some (-1))))
set_option maxRecDepth 100000 in
def f_X5_heldBy (p1 : Int32) (μ : OM) : Option (Int32) := ((f_X5_hasSeller p1 μ).bind fun r1 => (if r1 = 0 then (some (-1)) else (if inb p1 8 = true then (some (μ.1 4 (Int32.toNatClampNeg p1))) else none)))
set_option maxRecDepth 100000 in
def f_X5_seat (p1 : Int32) (p2 : Int32) (μ : OM) : Option (OM) := ((f_X5_hasSeller p1 μ).bind fun r1 => (if r1 = 0 then (some μ) else (if inb p1 8 = true then (lt (wI μ 4 (Int32.toNatClampNeg p1) p2) fun μ3 => (some μ3)) else none)))
set_option maxRecDepth 100000 in
def f_X1_applyTo_4 (α : OM) : Nat → Int32 → Int32 → OM → Option (Int32 × OM)
  | 0, _, _, _ => none
  | n + 1, x3, x2, μ => (if (μ.1 0 0) ≤ x3 then (some (x2, μ)) else ((f_X1_givenTo x3 α).bind fun r2 => ((f_X5_heldBy x3 μ).bind fun r3 => (if r2 = r3 then (f_X1_applyTo_4 α n (x3 + 1) x2 μ) else (if r2 = (-1) then (f_X1_applyTo_4 α n (x3 + 1) (x2 + 1) μ) else (lt (wI μ 0 6 ((μ.1 0 6) + 1)) fun μ6 => (f_X1_applyTo_4 α n (x3 + 1) (x2 + 1) μ6)))))))
set_option maxRecDepth 100000 in
def f_X1_applyTo_56 (x2 : Int32) (α : OM) : Nat → Int32 → OM → Option (Int32 × OM)
  | 0, _, _ => none
  | n + 1, x3, μ => (if (μ.1 0 0) ≤ x3 then (some (x2, μ)) else ((f_X1_givenTo x3 α).bind fun r10 => ((f_X5_seat x3 r10 μ).bind fun μ11 => (f_X1_applyTo_56 x2 α n (x3 + 1) μ11))))
set_option maxRecDepth 100000 in
def f_X1_applyTo  (μ : OM) (α : OM) : Option (Int32 × OM) := (o2 (f_X1_applyTo_4 α FU 0 0 μ) fun i7 μ8 => (f_X1_applyTo_56 i7 α FU 0 μ8))
set_option maxRecDepth 100000 in
def f_X2_byteAt (p1 : Int32) (β : OM) : Option (Int32) := (if p1 < 0 then (some (-1)) else (if p1 < (β.1 0 1) then (if inb p1 700 = true then (some (β.1 1 (Int32.toNatClampNeg p1))) else none) else (some (-1))))
set_option maxRecDepth 100000 in
def f_X2_add (p1 : Int32) (β : OM) : Option (OM) := (if 700 ≤ (β.1 0 1) then (some β) else (if inb (β.1 0 1) 700 = true then (lt (wI β 1 (Int32.toNatClampNeg (β.1 0 1)) p1) fun β2 => (lt (wI β2 0 1 ((β2.1 0 1) + 1)) fun β3 => (some β3))) else none))
set_option maxRecDepth 100000 in
def f_X2_addWord_3 (x1 : Int32) : Nat → Int32 → OM → Option (OM)
  | 0, _, _ => none
  | n + 1, x2, β => (if x2 < 0 then (some β) else ((f_X2_add (((x1.toUInt32 >>> (Int32.toUInt32 x2 &&& Int32.toUInt32 31)).toInt32) &&& 255) β).bind fun β2 => (f_X2_addWord_3 x1 n (x2 + (-8)) β2)))
set_option maxRecDepth 100000 in
def f_X2_addWord (p1 : Int32) (β : OM) : Option (OM) := (f_X2_addWord_3 p1 FU 24 β)
set_option maxRecDepth 100000 in
def f_X12_lettersIn_2 (x0 : Int64) : Nat → Int32 → Option (Int32)
  | 0, _ => none
  | n + 1, x2 => (if 6 ≤ x2 then (some x2) else (if (lg_cmp (((x0).toUInt64 >>> ((Int32.toInt64 (8 * x2)).toUInt64 &&& Int64.toUInt64 63)).toInt64) 0) = 0 then (some x2) else (f_X12_lettersIn_2 x0 n (x2 + 1))))
set_option maxRecDepth 100000 in
def f_X12_lettersIn (p0 : Int64)  : Option (Int32) := (f_X12_lettersIn_2 p0 FU 0)
set_option maxRecDepth 100000 in
def f_X12_letterAt (p0 : Int64) (p2 : Int32)  : Option (Int32) := ((f_X12_lettersIn p0).bind fun r1 => (if p2 < 0 then (some (-1)) else (if p2 < r1 then (some ((Int64.toInt32 (((p0).toUInt64 >>> ((Int32.toInt64 (8 * ((r1 - 1) - p2))).toUInt64 &&& Int64.toUInt64 63)).toInt64)) &&& 255)) else (some (-1)))))
set_option maxRecDepth 100000 in
def f_X2_addName_8 (x3 : Int32) (x1 : Int64) : Nat → Int32 → OM → Option (OM)
  | 0, _, _ => none
  | n + 1, x4, β => (if x3 ≤ x4 then (some β) else ((f_X12_letterAt x1 x4).bind fun r3 => ((f_X2_add r3 β).bind fun β4 => (f_X2_addName_8 x3 x1 n (x4 + 1) β4))))
set_option maxRecDepth 100000 in
def f_X2_addName (p1 : Int64) (β : OM) : Option (OM) := ((f_X12_lettersIn p1).bind fun r1 => (f_X2_addName_8 r1 p1 FU 0 β))
set_option maxRecDepth 100000 in
def f_X2_cut (p1 : Int32) (β : OM) : Option (OM) := (if p1 < 0 then (some β) else (if (β.1 0 1) ≤ p1 then (some β) else (lt (wI β 0 1 p1) fun β3 => (some β3))))
set_option maxRecDepth 100000 in
def f_X5_rankIn_16 (x1 : Int32) (x2 : Int32) (μ : OM) : Nat → Int32 → Option (Int32)
  | 0, _ => none
  | n + 1, x3 => (if inb x1 8 = true then (if (μ.1 6 (Int32.toNatClampNeg x1)) ≤ x3 then (some (-1)) else (if inb ((x1 * 8) + x3) 64 = true then (if (μ.1 7 (Int32.toNatClampNeg ((x1 * 8) + x3))) = x2 then (some x3) else (f_X5_rankIn_16 x1 x2 μ n (x3 + 1))) else none)) else none)
set_option maxRecDepth 100000 in
def f_X5_rankIn (p1 : Int32) (p2 : Int32) (μ : OM) : Option (Int32) := (if p1 < 0 then (some (-1)) else (if p1 < (μ.1 0 0) then (f_X5_rankIn_16 p1 p2 μ FU 0) else (some (-1))))
set_option maxRecDepth 100000 in
def f_X5_standing (p1 : Int32) (p2 : Int32) (μ : OM) : Option (Int32) := (if p2 = (-1) then (some 8) else ((f_X5_rankIn p1 p2 μ).bind fun r2 => (if r2 = (-1) then (some 9) else (some r2))))
set_option maxRecDepth 100000 in
def f_X5_ranksAbove (p1 : Int32) (p2 : Int32) (p3 : Int32) (μ : OM) : Option (Int32) := ((f_X5_standing p1 p2 μ).bind fun r1 => ((f_X5_standing p1 p3 μ).bind fun r2 => (if r2 ≤ r1 then (some 0) else (some 1))))
set_option maxRecDepth 100000 in
def f_X3_wantsStallOf (p1 : Int32) (p2 : Int32) (μ : OM) : Option (Int32) := ((f_X5_heldBy p2 μ).bind fun r1 => (if r1 = (-1) then (some 0) else ((f_X5_heldBy p1 μ).bind fun r3 => ((f_X5_ranksAbove p1 r1 r3 μ).bind fun r4 => (if r4 = 0 then (some 0) else (some 1))))))
set_option maxRecDepth 100000 in
def f_X3_bothGain (p1 : Int32) (p2 : Int32) (μ : OM) : Option (Int32) := ((f_X5_heldBy p1 μ).bind fun r1 => (if r1 = (-1) then (some 0) else ((f_X3_wantsStallOf p1 p2 μ).bind fun r3 => (if r3 = 0 then (some 0) else ((f_X3_wantsStallOf p2 p1 μ).bind fun r5 => (if r5 = 0 then (some 0) else (some 1)))))))
set_option maxRecDepth 100000 in
def f_X3_gainingPairs_14 (x2 : Int32) (μ : OM) : Nat → Int32 → Int32 → Option (Int32)
  | 0, _, _ => none
  | n + 1, x3, x1 => (if x2 ≤ x3 then (some x1) else ((f_X3_bothGain x2 x3 μ).bind fun r3 => (if r3 = 0 then (f_X3_gainingPairs_14 x2 μ n (x3 + 1) x1) else (f_X3_gainingPairs_14 x2 μ n (x3 + 1) (x1 + 1)))))
set_option maxRecDepth 100000 in
def f_X3_gainingPairs_4 (μ : OM) : Nat → Int32 → Int32 → Option (Int32)
  | 0, _, _ => none
  | n + 1, x2, x1 => (if (μ.1 0 0) ≤ x2 then (some x1) else ((f_X3_gainingPairs_14 x2 μ FU 0 x1).bind fun i5 => (f_X3_gainingPairs_4 μ n (x2 + 1) i5)))
set_option maxRecDepth 100000 in
def f_X3_gainingPairs  (μ : OM) : Option (Int32) := (f_X3_gainingPairs_4 μ FU 0 0)
set_option maxRecDepth 100000 in
def f_X3_wantedByAny_15 (x1 : Int32) (x3 : Int32) (μ : OM) : Nat → Int32 → Int32 → Option (Int32)
  | 0, _, _ => none
  | n + 1, x4, x2 => (if (μ.1 0 0) ≤ x4 then (some x2) else (if (x1 &&& (1 <<< (x3 &&& 31))) = 0 then (f_X3_wantedByAny_15 x1 x3 μ n (x4 + 1) x2) else ((f_X3_wantsStallOf x3 x4 μ).bind fun r4 => (if r4 = 0 then (f_X3_wantedByAny_15 x1 x3 μ n (x4 + 1) x2) else (lt ((x2 ||| (1 <<< (x4 &&& 31)))) fun i6 => (f_X3_wantedByAny_15 x1 x3 μ n (x4 + 1) i6))))))
set_option maxRecDepth 100000 in
def f_X3_wantedByAny_4 (x1 : Int32) (μ : OM) : Nat → Int32 → Int32 → Option (Int32)
  | 0, _, _ => none
  | n + 1, x3, x2 => (if (μ.1 0 0) ≤ x3 then (some x2) else ((f_X3_wantedByAny_15 x1 x3 μ FU 0 x2).bind fun i7 => (f_X3_wantedByAny_4 x1 μ n (x3 + 1) i7)))
set_option maxRecDepth 100000 in
def f_X3_wantedByAny (p1 : Int32) (μ : OM) : Option (Int32) := (f_X3_wantedByAny_4 p1 μ FU 0 0)
set_option maxRecDepth 100000 in
def f_X3_shortestCycle_17 (x1 : Int32) (μ : OM) : Nat → Int32 → Int32 → Option (Int32)
  | 0, _, _ => none
  | n + 1, x3, x2 => (if (μ.1 0 0) < x3 then (some (-1)) else ((f_X3_wantedByAny x2 μ).bind fun r5 => (if (r5 &&& (1 <<< (x1 &&& 31))) = 0 then (f_X3_shortestCycle_17 x1 μ n (x3 + 1) r5) else (some x3))))
set_option maxRecDepth 100000 in
def f_X3_shortestCycle (p1 : Int32) (μ : OM) : Option (Int32) := ((f_X5_heldBy p1 μ).bind fun r1 => (if r1 = (-1) then (some (-1)) else (lt ((1 <<< (p1 &&& 31))) fun i3 => (f_X3_shortestCycle_17 p1 μ FU 1 i3))))
set_option maxRecDepth 100000 in
def f_X3_bestFreeStall_8 (x2 : Int32) (x1 : Int32) (μ : OM) : Nat → Int32 → Option (Int32)
  | 0, _ => none
  | n + 1, x3 => ((f_X5_wishesOf x1 μ).bind fun r2 => (if r2 ≤ x3 then (some (-1)) else ((f_X5_wish x1 x3 μ).bind fun r4 => (if r4 = x2 then (some (-1)) else ((f_X5_holderOf r4 μ).bind fun r6 => (if r6 = (-1) then (some r4) else (f_X3_bestFreeStall_8 x2 x1 μ n (x3 + 1))))))))
set_option maxRecDepth 100000 in
def f_X3_bestFreeStall (p1 : Int32) (μ : OM) : Option (Int32) := ((f_X5_heldBy p1 μ).bind fun r1 => (f_X3_bestFreeStall_8 r1 p1 μ FU 0))
set_option maxRecDepth 100000 in
def f_X3_canImprove_2 (μ : OM) : Nat → Int32 → Option (Int32)
  | 0, _ => none
  | n + 1, x1 => (if (μ.1 0 0) ≤ x1 then (some 0) else ((f_X5_heldBy x1 μ).bind fun r2 => ((f_X5_ranksAbove x1 (-1) r2 μ).bind fun r3 => (if r3 = 0 then ((f_X3_bestFreeStall x1 μ).bind fun r5 => (if r5 = (-1) then ((f_X3_shortestCycle x1 μ).bind fun r7 => (if r7 = (-1) then (f_X3_canImprove_2 μ n (x1 + 1)) else (some 1))) else (some 1))) else (some 1)))))
set_option maxRecDepth 100000 in
def f_X3_canImprove  (μ : OM) : Option (Int32) := (f_X3_canImprove_2 μ FU 0)
set_option maxRecDepth 100000 in
def f_X4_clear  (σ : SM) : Option (SM) := (lt (us σ 16 (wI (σ 16) 0 1 0)) fun σ1 => (lt (us σ1 16 (wI (σ1 16) 0 2 0)) fun σ2 => (some σ2)))
set_option maxRecDepth 100000 in
def f_X4_slotAfter (p1 : Int32) (σ : SM) : Option (Int32) := (some ((((σ 16).1 0 1) + p1) - (((σ 16).1 0 1) + p1) / 8 * 8))
set_option maxRecDepth 100000 in
def f_X5_copy_83 (μ : OM) : Nat → Int32 → OM → Option (OM)
  | 0, _, _ => none
  | n + 1, x2, ν => (if 8 ≤ x2 then (some ν) else (if inb x2 8 = true then (if inb x2 8 = true then (lt (wJ ν 1 (Int32.toNatClampNeg x2) (μ.2.1 1 (Int32.toNatClampNeg x2))) fun ν11 => (if inb x2 8 = true then (if inb x2 8 = true then (lt (wI ν11 2 (Int32.toNatClampNeg x2) (μ.1 2 (Int32.toNatClampNeg x2))) fun ν12 => (if inb x2 8 = true then (if inb x2 8 = true then (lt (wI ν12 3 (Int32.toNatClampNeg x2) (μ.1 3 (Int32.toNatClampNeg x2))) fun ν13 => (if inb x2 8 = true then (if inb x2 8 = true then (lt (wI ν13 4 (Int32.toNatClampNeg x2) (μ.1 4 (Int32.toNatClampNeg x2))) fun ν14 => (if inb x2 8 = true then (if inb x2 8 = true then (lt (wI ν14 5 (Int32.toNatClampNeg x2) (μ.1 5 (Int32.toNatClampNeg x2))) fun ν15 => (if inb x2 8 = true then (if inb x2 8 = true then (lt (wI ν15 6 (Int32.toNatClampNeg x2) (μ.1 6 (Int32.toNatClampNeg x2))) fun ν16 => (f_X5_copy_83 μ n (x2 + 1) ν16)) else none) else none)) else none) else none)) else none) else none)) else none) else none)) else none) else none)) else none) else none))
set_option maxRecDepth 100000 in
def f_X5_copy_169 (μ : OM) : Nat → Int32 → OM → Option (OM)
  | 0, _, _ => none
  | n + 1, x2, ν => (if 64 ≤ x2 then (some ν) else (if inb x2 64 = true then (if inb x2 64 = true then (lt (wI ν 7 (Int32.toNatClampNeg x2) (μ.1 7 (Int32.toNatClampNeg x2))) fun ν19 => (f_X5_copy_169 μ n (x2 + 1) ν19)) else none) else none))
set_option maxRecDepth 100000 in
def f_X5_copy_195 (μ : OM) : Nat → Int32 → OM → Option (OM)
  | 0, _, _ => none
  | n + 1, x2, ν => (if 8 ≤ x2 then (some ν) else (if inb x2 8 = true then (if inb x2 8 = true then (lt (wJ ν 8 (Int32.toNatClampNeg x2) (μ.2.1 8 (Int32.toNatClampNeg x2))) fun ν22 => (if inb x2 8 = true then (if inb x2 8 = true then (lt (wI ν22 9 (Int32.toNatClampNeg x2) (μ.1 9 (Int32.toNatClampNeg x2))) fun ν23 => (f_X5_copy_195 μ n (x2 + 1) ν23)) else none) else none)) else none) else none))
set_option maxRecDepth 100000 in
def f_X5_copy  (μ : OM) (ν : OM) : Option (OM) := (lt (wI ν 0 0 (μ.1 0 0)) fun ν1 => (lt (wI ν1 0 1 (μ.1 0 1)) fun ν2 => (lt (wI ν2 0 2 (μ.1 0 2)) fun ν3 => (lt (wI ν3 0 3 (μ.1 0 3)) fun ν4 => (lt (wI ν4 0 4 (μ.1 0 4)) fun ν5 => (lt (wI ν5 0 5 (μ.1 0 5)) fun ν6 => (lt (wI ν6 0 6 (μ.1 0 6)) fun ν7 => (lt (wI ν7 0 7 (μ.1 0 7)) fun ν8 => (lt (wI ν8 0 8 (μ.1 0 8)) fun ν9 => ((f_X5_copy_83 μ FU 0 ν9).bind fun ν17 => ((f_X5_copy_169 μ FU 0 ν17).bind fun ν20 => (f_X5_copy_195 μ FU 0 ν20))))))))))))
set_option maxRecDepth 100000 in
def f_X4_record  (σ : SM) : Option (SM) := ((f_X4_slotAfter ((σ 16).1 0 2) σ).bind fun r1 => (if inb r1 8 = true then (lt (3 + Int32.toNatClampNeg r1) fun ob2 => ((f_X5_copy (σ 0) (σ ob2)).bind fun m3 => (lt (us σ ob2 m3) fun σ4 => (if 8 ≤ ((σ4 16).1 0 2) then ((f_X4_slotAfter 1 σ4).bind fun r6 => (lt (us σ4 16 (wI (σ4 16) 0 1 r6)) fun σ7 => (some σ7))) else (lt (us σ4 16 (wI (σ4 16) 0 2 (((σ4 16).1 0 2) + 1))) fun σ8 => (some σ8)))))) else none))
set_option maxRecDepth 100000 in
def f_X4_takeBack  (σ : SM) : Option (Int32 × SM) := (if ((σ 16).1 0 2) = 0 then (some ((-1), σ)) else (lt (us σ 16 (wI (σ 16) 0 2 (((σ 16).1 0 2) - 1))) fun σ2 => ((f_X4_slotAfter ((σ2 16).1 0 2) σ2).bind fun r3 => (if inb r3 8 = true then (lt (3 + Int32.toNatClampNeg r3) fun ob4 => ((f_X5_copy (σ2 ob4) (σ2 0)).bind fun m5 => (lt (us σ2 0 m5) fun σ6 => (some (((σ6 16).1 0 2), σ6))))) else none))))
set_option maxRecDepth 100000 in
def f_X5_clear  (μ : OM) : Option (OM) := (lt (wI μ 0 0 0) fun μ1 => (lt (wI μ1 0 1 0) fun μ2 => (lt (wI μ2 0 2 0) fun μ3 => (lt (wI μ3 0 3 0) fun μ4 => (lt (wI μ4 0 4 0) fun μ5 => (lt (wI μ5 0 5 0) fun μ6 => (lt (wI μ6 0 6 0) fun μ7 => (lt (wI μ7 0 7 0) fun μ8 => (lt (wI μ8 0 8 0) fun μ9 => (some μ9))))))))))
set_option maxRecDepth 100000 in
def f_X5_addStall (p1 : Int64) (p3 : Int32) (μ : OM) : Option (OM) := (if 8 ≤ (μ.1 0 1) then (some μ) else (if inb (μ.1 0 1) 8 = true then (lt (wJ μ 8 (Int32.toNatClampNeg (μ.1 0 1)) p1) fun μ2 => (if inb (μ2.1 0 1) 8 = true then (lt (wI μ2 9 (Int32.toNatClampNeg (μ2.1 0 1)) p3) fun μ3 => (lt (wI μ3 0 1 ((μ3.1 0 1) + 1)) fun μ4 => (some μ4))) else none)) else none))
set_option maxRecDepth 100000 in
def f_X5_addSeller (p1 : Int64) (p3 : Int32) (p4 : Int32) (μ : OM) : Option (OM) := (if 8 ≤ (μ.1 0 0) then (some μ) else (if inb (μ.1 0 0) 8 = true then (lt (wJ μ 1 (Int32.toNatClampNeg (μ.1 0 0)) p1) fun μ2 => (if inb (μ2.1 0 0) 8 = true then (lt (wI μ2 2 (Int32.toNatClampNeg (μ2.1 0 0)) p3) fun μ3 => (if inb (μ3.1 0 0) 8 = true then (lt (wI μ3 3 (Int32.toNatClampNeg (μ3.1 0 0)) p4) fun μ4 => (if inb (μ4.1 0 0) 8 = true then (lt (wI μ4 4 (Int32.toNatClampNeg (μ4.1 0 0)) (-1)) fun μ5 => (if inb (μ5.1 0 0) 8 = true then (lt (wI μ5 5 (Int32.toNatClampNeg (μ5.1 0 0)) (μ5.1 0 0)) fun μ6 => (if inb (μ6.1 0 0) 8 = true then (lt (wI μ6 6 (Int32.toNatClampNeg (μ6.1 0 0)) 0) fun μ7 => (lt (wI μ7 0 7 ((μ7.1 0 7) + p3)) fun μ8 => (lt (wI μ8 0 0 ((μ8.1 0 0) + 1)) fun μ9 => (some μ9)))) else none)) else none)) else none)) else none)) else none)) else none))
set_option maxRecDepth 100000 in
def f_X5_hasStall (p1 : Int32) (μ : OM) : Option (Int32) := (if p1 < 0 then (some 0) else (if (μ.1 0 1) ≤ p1 then (some 0) else (some 1)))
set_option maxRecDepth 100000 in
def f_X5_coinsOf (p1 : Int32) (μ : OM) : Option (Int32) := ((f_X5_hasSeller p1 μ).bind fun r1 => (if r1 = 0 then (some 0) else (if inb p1 8 = true then (some (μ.1 2 (Int32.toNatClampNeg p1))) else none)))
set_option maxRecDepth 100000 in
def f_X5_wageOf (p1 : Int32) (μ : OM) : Option (Int32) := ((f_X5_hasSeller p1 μ).bind fun r1 => (if r1 = 0 then (some 0) else (if inb p1 8 = true then (some (μ.1 3 (Int32.toNatClampNeg p1))) else none)))
set_option maxRecDepth 100000 in
def f_X5_priceOf (p1 : Int32) (μ : OM) : Option (Int32) := ((f_X5_hasStall p1 μ).bind fun r1 => (if r1 = 0 then (some 0) else (if inb p1 8 = true then (some (μ.1 9 (Int32.toNatClampNeg p1))) else none)))
set_option maxRecDepth 100000 in
def f_X5_nameOfSeller (p1 : Int32) (μ : OM) : Option (Int64) := ((f_X5_hasSeller p1 μ).bind fun r1 => (if r1 = 0 then (some 0) else (if inb p1 8 = true then (some (μ.2.1 1 (Int32.toNatClampNeg p1))) else none)))
set_option maxRecDepth 100000 in
def f_X5_nameOfStall (p1 : Int32) (μ : OM) : Option (Int64) := ((f_X5_hasStall p1 μ).bind fun r1 => (if r1 = 0 then (some 0) else (if inb p1 8 = true then (some (μ.2.1 8 (Int32.toNatClampNeg p1))) else none)))
set_option maxRecDepth 100000 in
def f_X5_sellerCalled_2 (x1 : Int64) (μ : OM) : Nat → Int32 → Option (Int32)
  | 0, _ => none
  | n + 1, x3 => (if (μ.1 0 0) ≤ x3 then (some (-1)) else (if inb x3 8 = true then (if (lg_cmp (μ.2.1 1 (Int32.toNatClampNeg x3)) x1) = 0 then (some x3) else (f_X5_sellerCalled_2 x1 μ n (x3 + 1))) else none))
set_option maxRecDepth 100000 in
def f_X5_sellerCalled (p1 : Int64) (μ : OM) : Option (Int32) := (f_X5_sellerCalled_2 p1 μ FU 0)
set_option maxRecDepth 100000 in
def f_X5_stallCalled_2 (x1 : Int64) (μ : OM) : Nat → Int32 → Option (Int32)
  | 0, _ => none
  | n + 1, x3 => (if (μ.1 0 1) ≤ x3 then (some (-1)) else (if inb x3 8 = true then (if (lg_cmp (μ.2.1 8 (Int32.toNatClampNeg x3)) x1) = 0 then (some x3) else (f_X5_stallCalled_2 x1 μ n (x3 + 1))) else none))
set_option maxRecDepth 100000 in
def f_X5_stallCalled (p1 : Int64) (μ : OM) : Option (Int32) := (f_X5_stallCalled_2 p1 μ FU 0)
set_option maxRecDepth 100000 in
def f_X5_housedSellers_4 (μ : OM) : Nat → Int32 → Int32 → Option (Int32)
  | 0, _, _ => none
  | n + 1, x2, x1 => (if (μ.1 0 0) ≤ x2 then (some x1) else (if inb x2 8 = true then (if (μ.1 4 (Int32.toNatClampNeg x2)) = (-1) then (f_X5_housedSellers_4 μ n (x2 + 1) x1) else (f_X5_housedSellers_4 μ n (x2 + 1) (x1 + 1))) else none))
set_option maxRecDepth 100000 in
def f_X5_housedSellers  (μ : OM) : Option (Int32) := (f_X5_housedSellers_4 μ FU 0 0)
set_option maxRecDepth 100000 in
def f_X5_mayMoveInto (p1 : Int32) (p2 : Int32) (μ : OM) : Option (Int32) := ((f_X5_holderOf p2 μ).bind fun r1 => (if r1 = (-1) then ((f_X5_priceOf p2 μ).bind fun r3 => ((f_X5_coinsOf p1 μ).bind fun r4 => (if r4 < r3 then (some 0) else (some 1)))) else (some 0)))
set_option maxRecDepth 100000 in
def f_X5_exchange (p1 : Int32) (p2 : Int32) (μ : OM) : Option (OM) := ((f_X5_heldBy p1 μ).bind fun r1 => ((f_X5_heldBy p2 μ).bind fun r2 => ((f_X5_seat p1 r2 μ).bind fun μ3 => ((f_X5_seat p2 r1 μ3).bind fun μ4 => (lt (wI μ4 0 5 ((μ4.1 0 5) + 1)) fun μ5 => (some μ5))))))
set_option maxRecDepth 100000 in
def f_X5_moveTurn_9 (x3 : Int32) (x2 : Int32) : Nat → Int32 → OM → Option (OM)
  | 0, _, _ => none
  | n + 1, x4, μ => (if (μ.1 0 0) ≤ x4 then (some μ) else (if inb x4 8 = true then (if (μ.1 5 (Int32.toNatClampNeg x4)) ≤ x3 then (if inb x4 8 = true then (if x3 ≤ (μ.1 5 (Int32.toNatClampNeg x4)) then (f_X5_moveTurn_9 x3 x2 n (x4 + 1) μ) else (if inb x4 8 = true then (if (μ.1 5 (Int32.toNatClampNeg x4)) < x2 then (f_X5_moveTurn_9 x3 x2 n (x4 + 1) μ) else (if inb x4 8 = true then (if inb x4 8 = true then (lt (wI μ 5 (Int32.toNatClampNeg x4) ((μ.1 5 (Int32.toNatClampNeg x4)) + 1)) fun μ6 => (f_X5_moveTurn_9 x3 x2 n (x4 + 1) μ6)) else none) else none)) else none)) else none) else (if inb x4 8 = true then (if x2 < (μ.1 5 (Int32.toNatClampNeg x4)) then (if inb x4 8 = true then (if x3 ≤ (μ.1 5 (Int32.toNatClampNeg x4)) then (f_X5_moveTurn_9 x3 x2 n (x4 + 1) μ) else (if inb x4 8 = true then (if (μ.1 5 (Int32.toNatClampNeg x4)) < x2 then (f_X5_moveTurn_9 x3 x2 n (x4 + 1) μ) else (if inb x4 8 = true then (if inb x4 8 = true then (lt (wI μ 5 (Int32.toNatClampNeg x4) ((μ.1 5 (Int32.toNatClampNeg x4)) + 1)) fun μ10 => (f_X5_moveTurn_9 x3 x2 n (x4 + 1) μ10)) else none) else none)) else none)) else none) else (if inb x4 8 = true then (if inb x4 8 = true then (lt (wI μ 5 (Int32.toNatClampNeg x4) ((μ.1 5 (Int32.toNatClampNeg x4)) - 1)) fun μ11 => (f_X5_moveTurn_9 x3 x2 n (x4 + 1) μ11)) else none) else none)) else none)) else none))
set_option maxRecDepth 100000 in
def f_X5_moveTurn (p1 : Int32) (p2 : Int32) (μ : OM) : Option (OM) := ((f_X5_turnOf p1 μ).bind fun r1 => ((f_X5_moveTurn_9 r1 p2 FU 0 μ).bind fun μ12 => ((f_X5_hasSeller p1 μ12).bind fun r13 => (if r13 = 0 then (some μ12) else (if inb p1 8 = true then (lt (wI μ12 5 (Int32.toNatClampNeg p1) p2) fun μ15 => (some μ15)) else none)))))
set_option maxRecDepth 100000 in
def f_X5_wishLast (p1 : Int32) (p2 : Int32) (μ : OM) : Option (OM) := ((f_X5_wishesOf p1 μ).bind fun r1 => ((f_X5_hasSeller p1 μ).bind fun r2 => (if r2 = 0 then (some μ) else (if 8 ≤ r1 then (some μ) else (if inb ((p1 * 8) + r1) 64 = true then (lt (wI μ 7 (Int32.toNatClampNeg ((p1 * 8) + r1)) p2) fun μ5 => (if inb p1 8 = true then (lt (wI μ5 6 (Int32.toNatClampNeg p1) (r1 + 1)) fun μ6 => (some μ6)) else none)) else none)))))
set_option maxRecDepth 100000 in
def f_X5_dropWish_34 (x4 : Int32) (x1 : Int32) : Nat → Int32 → OM → Option (OM)
  | 0, _, _ => none
  | n + 1, x5, μ => (if x4 ≤ x5 then (if inb x1 8 = true then (lt (wI μ 6 (Int32.toNatClampNeg x1) x4) fun μ7 => (some μ7)) else none) else (lt (((x1 * 8) + x5)) fun i8 => (if inb (i8 + 1) 64 = true then (if inb i8 64 = true then (lt (wI μ 7 (Int32.toNatClampNeg i8) (μ.1 7 (Int32.toNatClampNeg (i8 + 1)))) fun μ9 => (f_X5_dropWish_34 x4 x1 n (x5 + 1) μ9)) else none) else none)))
set_option maxRecDepth 100000 in
def f_X5_dropWish (p1 : Int32) (p2 : Int32) (μ : OM) : Option (OM) := ((f_X5_rankIn p1 p2 μ).bind fun r1 => ((f_X5_hasSeller p1 μ).bind fun r2 => (if r2 = 0 then (some μ) else (if r1 = (-1) then (some μ) else (if inb p1 8 = true then (lt (((μ.1 6 (Int32.toNatClampNeg p1)) - 1)) fun i5 => (f_X5_dropWish_34 i5 p1 FU r1 μ)) else none)))))
set_option maxRecDepth 100000 in
def f_X5_wishFirst_30 (x1 : Int32) : Nat → Int32 → OM → Option (OM)
  | 0, _, _ => none
  | n + 1, x4, μ => (if x4 ≤ 0 then (some μ) else (lt (((x1 * 8) + x4)) fun i7 => (if inb (i7 - 1) 64 = true then (if inb i7 64 = true then (lt (wI μ 7 (Int32.toNatClampNeg i7) (μ.1 7 (Int32.toNatClampNeg (i7 - 1)))) fun μ8 => (f_X5_wishFirst_30 x1 n (x4 + (-1)) μ8)) else none) else none)))
set_option maxRecDepth 100000 in
def f_X5_wishFirst (p1 : Int32) (p2 : Int32) (μ : OM) : Option (OM) := ((f_X5_dropWish p1 p2 μ).bind fun μ1 => ((f_X5_wishesOf p1 μ1).bind fun r2 => ((f_X5_hasSeller p1 μ1).bind fun r3 => (if r3 = 0 then (some μ1) else (if r2 < 8 then ((f_X5_wishFirst_30 p1 FU r2 μ1).bind fun μ9 => (if inb (p1 * 8) 64 = true then (lt (wI μ9 7 (Int32.toNatClampNeg (p1 * 8)) p2) fun μ10 => (if inb p1 8 = true then (lt (wI μ10 6 (Int32.toNatClampNeg p1) (r2 + 1)) fun μ11 => (some μ11)) else none)) else none)) else (some μ1))))))
set_option maxRecDepth 100000 in
def f_X5_price (p1 : Int32) (p2 : Int32) (μ : OM) : Option (OM) := ((f_X5_hasStall p1 μ).bind fun r1 => (if r1 = 0 then (some μ) else (if inb p1 8 = true then (lt (wI μ 9 (Int32.toNatClampNeg p1) p2) fun μ3 => (some μ3)) else none)))
set_option maxRecDepth 100000 in
def f_X5_receive (p1 : Int32) (p2 : Int32) (μ : OM) : Option (OM) := ((f_X5_hasSeller p1 μ).bind fun r1 => (if r1 = 0 then (some μ) else (if inb p1 8 = true then (if inb p1 8 = true then (lt (wI μ 2 (Int32.toNatClampNeg p1) ((μ.1 2 (Int32.toNatClampNeg p1)) + p2)) fun μ3 => (lt (wI μ3 0 8 ((μ3.1 0 8) + p2)) fun μ4 => (some μ4))) else none) else none)))
set_option maxRecDepth 100000 in
def f_X5_mayPass (p1 : Int32) (μ : OM) : Option (Int32) := (if (9999 - (μ.1 0 2)) < p1 then (some 0) else (some 1))
set_option maxRecDepth 100000 in
def f_X5_chargeOrEvict (p1 : Int32) (μ : OM) : Option (OM) := ((f_X5_heldBy p1 μ).bind fun r1 => ((f_X5_hasSeller p1 μ).bind fun r2 => (if r2 = 0 then (some μ) else (if r1 = (-1) then (some μ) else ((f_X5_priceOf r1 μ).bind fun r5 => (if inb p1 8 = true then (if (μ.1 2 (Int32.toNatClampNeg p1)) < r5 then (if inb p1 8 = true then (lt (wI μ 4 (Int32.toNatClampNeg p1) (-1)) fun μ7 => (lt (wI μ7 0 4 ((μ7.1 0 4) + 1)) fun μ8 => (some μ8))) else none) else (if inb p1 8 = true then (if inb p1 8 = true then (lt (wI μ 2 (Int32.toNatClampNeg p1) ((μ.1 2 (Int32.toNatClampNeg p1)) - r5)) fun μ9 => (lt (wI μ9 0 3 ((μ9.1 0 3) + r5)) fun μ10 => (some μ10))) else none) else none)) else none))))))
set_option maxRecDepth 100000 in
def f_X5_pass_19  : Nat → Int32 → OM → Option (OM)
  | 0, _, _ => none
  | n + 1, x3, μ => (if (μ.1 0 0) ≤ x3 then (some μ) else (if inb x3 8 = true then ((f_X5_receive x3 (μ.1 3 (Int32.toNatClampNeg x3)) μ).bind fun μ4 => (f_X5_pass_19  n (x3 + 1) μ4)) else none))
set_option maxRecDepth 100000 in
def f_X5_pass_46  : Nat → Int32 → OM → Option (OM)
  | 0, _, _ => none
  | n + 1, x3, μ => (if (μ.1 0 0) ≤ x3 then (some μ) else ((f_X5_chargeOrEvict x3 μ).bind fun μ7 => (f_X5_pass_46  n (x3 + 1) μ7)))
set_option maxRecDepth 100000 in
def f_X5_pass_2 (x1 : Int32) : Nat → Int32 → OM → Option (OM)
  | 0, _, _ => none
  | n + 1, x2, μ => (if x1 ≤ x2 then (some μ) else (lt (wI μ 0 2 ((μ.1 0 2) + 1)) fun μ2 => ((f_X5_pass_19  FU 0 μ2).bind fun μ5 => ((f_X5_pass_46  FU 0 μ5).bind fun μ8 => (f_X5_pass_2 x1 n (x2 + 1) μ8)))))
set_option maxRecDepth 100000 in
def f_X5_pass (p1 : Int32) (μ : OM) : Option (OM) := (f_X5_pass_2 p1 FU 0 μ)
set_option maxRecDepth 100000 in
def f_X6_include_11 (x2 : Int32) (x3 : Int32) (μ : OM) : Nat → Int32 → OM → Option (OM)
  | 0, _, _ => none
  | n + 1, x4, κ => ((f_X5_wishesOf x2 μ).bind fun r2 => (if r2 ≤ x4 then (some κ) else ((f_X5_wish x2 x4 μ).bind fun r4 => (lt ((1 <<< (r4 &&& 31))) fun i5 => (if (x3 &&& i5) = 0 then (f_X6_include_11 x2 x3 μ n (x4 + 1) κ) else (if inb (x3 &&& (i5 ^^^ (-1))) 256 = true then (lt ((κ.1 1 (Int32.toNatClampNeg (x3 &&& (i5 ^^^ (-1)))))) fun i8 => (if i8 = (-1) then (f_X6_include_11 x2 x3 μ n (x4 + 1) κ) else (if inb x3 256 = true then (if (κ.1 1 (Int32.toNatClampNeg x3)) = (-1) then (if inb x3 256 = true then (lt (wI κ 1 (Int32.toNatClampNeg x3) (i8 + x4)) fun κ11 => (f_X6_include_11 x2 x3 μ n (x4 + 1) κ11)) else none) else (if inb x3 256 = true then (if (κ.1 1 (Int32.toNatClampNeg x3)) ≤ (i8 + x4) then (f_X6_include_11 x2 x3 μ n (x4 + 1) κ) else (if inb x3 256 = true then (lt (wI κ 1 (Int32.toNatClampNeg x3) (i8 + x4)) fun κ13 => (f_X6_include_11 x2 x3 μ n (x4 + 1) κ13)) else none)) else none)) else none))) else none))))))
set_option maxRecDepth 100000 in
def f_X6_include_4 (x2 : Int32) (μ : OM) : Nat → Int32 → OM → Option (OM)
  | 0, _, _ => none
  | n + 1, x3, κ => (if x3 ≤ 0 then (some κ) else ((f_X6_include_11 x2 x3 μ FU 0 κ).bind fun κ14 => (f_X6_include_4 x2 μ n (x3 + (-1)) κ14)))
set_option maxRecDepth 100000 in
def f_X6_include (p2 : Int32) (μ : OM) (κ : OM) : Option (OM) := (f_X6_include_4 p2 μ FU 255 κ)
set_option maxRecDepth 100000 in
def f_J6_bitCount_0f7a4 (p0 : Int32)  : Option (Int32) := (lt ((p0 - (((p0.toUInt32 >>> (Int32.toUInt32 1 &&& Int32.toUInt32 31)).toInt32) &&& 1431655765))) fun i1 => (lt (((i1 &&& 858993459) + (((i1.toUInt32 >>> (Int32.toUInt32 2 &&& Int32.toUInt32 31)).toInt32) &&& 858993459))) fun i2 => (lt (((i2 + ((i2.toUInt32 >>> (Int32.toUInt32 4 &&& Int32.toUInt32 31)).toInt32)) &&& 252645135)) fun i3 => (lt ((i3 + ((i3.toUInt32 >>> (Int32.toUInt32 8 &&& Int32.toUInt32 31)).toInt32))) fun i4 => (lt ((i4 + ((i4.toUInt32 >>> (Int32.toUInt32 16 &&& Int32.toUInt32 31)).toInt32))) fun i5 => (some (i5 &&& 63)))))))
set_option maxRecDepth 100000 in
def f_X6_consider (p1 : Int32) (p2 : Int32) (κ : OM) : Option (OM) := (if p2 = (-1) then (some κ) else (if (κ.1 0 1) < p1 then (lt (wI κ 0 1 p1) fun κ3 => (lt (wI κ3 0 2 p2) fun κ4 => (some κ4))) else (if p1 = (κ.1 0 1) then (if (κ.1 0 2) ≤ p2 then (some κ) else (lt (wI κ 0 1 p1) fun κ7 => (lt (wI κ7 0 2 p2) fun κ8 => (some κ8)))) else (some κ))))
set_option maxRecDepth 100000 in
def f_X6_solve_2  : Nat → Int32 → OM → Option (OM)
  | 0, _, _ => none
  | n + 1, x2, κ => (if 256 ≤ x2 then (some κ) else (if inb x2 256 = true then (lt (wI κ 1 (Int32.toNatClampNeg x2) (-1)) fun κ2 => (f_X6_solve_2  n (x2 + 1) κ2)) else none))
set_option maxRecDepth 100000 in
def f_X6_solve_31 (μ : OM) : Nat → Int32 → OM → Option (OM)
  | 0, _, _ => none
  | n + 1, x2, κ => (if (μ.1 0 0) ≤ x2 then (some κ) else ((f_X6_include x2 μ κ).bind fun κ6 => (f_X6_solve_31 μ n (x2 + 1) κ6)))
set_option maxRecDepth 100000 in
def f_X6_solve_63  : Nat → Int32 → OM → Option (OM)
  | 0, _, _ => none
  | n + 1, x2, κ => (if 256 ≤ x2 then (some κ) else ((f_J6_bitCount_0f7a4 x2).bind fun r11 => (if inb x2 256 = true then ((f_X6_consider r11 (κ.1 1 (Int32.toNatClampNeg x2)) κ).bind fun κ12 => (f_X6_solve_63  n (x2 + 1) κ12)) else none)))
set_option maxRecDepth 100000 in
def f_X6_solve  (μ : OM) (κ : OM) : Option (OM) := ((f_X6_solve_2  FU 1 κ).bind fun κ3 => (if inb 0 256 = true then (lt (wI κ3 1 (Int32.toNatClampNeg 0) 0) fun κ4 => ((f_X6_solve_31 μ FU 0 κ4).bind fun κ7 => (lt (wI κ7 0 1 0) fun κ8 => (lt (wI κ8 0 2 0) fun κ9 => (f_X6_solve_63  FU 1 κ9))))) else none))
set_option maxRecDepth 100000 in
def f_X10_isLetter (p0 : Int32)  : Option (Int32) := (if p0 < 97 then (some 0) else (if 122 < p0 then (some 0) else (some 1)))
set_option maxRecDepth 100000 in
def f_X10_readWord_5 (β : OM) : Nat → OM → Option (OM)
  | 0, _ => none
  | n + 1, τ => (if (β.1 0 1) ≤ (τ.1 0 3) then (some τ) else ((f_X2_byteAt (τ.1 0 3) β).bind fun r3 => ((f_X10_isLetter r3).bind fun r4 => (if r4 = 0 then (some τ) else (if 6 ≤ ((τ.1 0 3) - (τ.1 0 2)) then (lt (wJ τ 0 5 0) fun τ7 => (lt (wI τ7 0 3 ((τ7.1 0 3) + 1)) fun τ8 => (f_X10_readWord_5 β n τ8))) else ((f_X2_byteAt (τ.1 0 3) β).bind fun r9 => (lt (wJ τ 0 5 (((τ.2.1 0 5) <<< ((Int32.toInt64 8) &&& 63)) ||| (Int32.toInt64 r9))) fun τ10 => (lt (wI τ10 0 3 ((τ10.1 0 3) + 1)) fun τ11 => (f_X10_readWord_5 β n τ11)))))))))
set_option maxRecDepth 100000 in
def f_X10_readWord  (τ : OM) (β : OM) : Option (OM) := (lt (wI τ 0 1 1) fun τ1 => (f_X10_readWord_5 β FU τ1))
set_option maxRecDepth 100000 in
def f_X10_isDigit (p0 : Int32)  : Option (Int32) := (if p0 < 48 then (some 0) else (if 57 < p0 then (some 0) else (some 1)))
set_option maxRecDepth 100000 in
def f_X10_readNumber_5 (β : OM) : Nat → OM → Option (OM)
  | 0, _ => none
  | n + 1, τ => (if (β.1 0 1) ≤ (τ.1 0 3) then (some τ) else ((f_X2_byteAt (τ.1 0 3) β).bind fun r3 => ((f_X10_isDigit r3).bind fun r4 => (if r4 = 0 then (some τ) else (if 10000 ≤ (τ.1 0 4) then (lt (wI τ 0 3 ((τ.1 0 3) + 1)) fun τ7 => (f_X10_readNumber_5 β n τ7)) else ((f_X2_byteAt (τ.1 0 3) β).bind fun r8 => (lt (wI τ 0 4 (((10 * (τ.1 0 4)) + r8) - 48)) fun τ9 => (lt (wI τ9 0 3 ((τ9.1 0 3) + 1)) fun τ10 => (f_X10_readNumber_5 β n τ10)))))))))
set_option maxRecDepth 100000 in
def f_X10_readNumber  (τ : OM) (β : OM) : Option (OM) := (lt (wI τ 0 1 2) fun τ1 => (f_X10_readNumber_5 β FU τ1))
set_option maxRecDepth 100000 in
def f_X10_next_8 (β : OM) : Nat → OM → Option (OM)
  | 0, _ => none
  | n + 1, τ => (if (β.1 0 1) ≤ (τ.1 0 2) then (some τ) else ((f_X2_byteAt (τ.1 0 2) β).bind fun r3 => (if r3 = 32 then (lt (wI τ 0 2 ((τ.1 0 2) + 1)) fun τ5 => (f_X10_next_8 β n τ5)) else (some τ))))
set_option maxRecDepth 100000 in
def f_X10_next  (τ : OM) (β : OM) : Option (OM) := (lt (wI τ 0 2 (τ.1 0 3)) fun τ1 => ((f_X10_next_8 β FU τ1).bind fun τ6 => (lt (wI τ6 0 3 (τ6.1 0 2)) fun τ7 => (lt (wI τ7 0 4 0) fun τ8 => (lt (wJ τ8 0 5 0) fun τ9 => ((f_X2_byteAt (τ9.1 0 2) β).bind fun r10 => (if r10 = (-1) then (lt (wI τ9 0 1 0) fun τ23 => (some τ23)) else ((f_X10_isLetter r10).bind fun r12 => (if r12 = 0 then ((f_X10_isDigit r10).bind fun r14 => (if r14 = 0 then (if r10 = 59 then (lt (wI τ9 0 1 3) fun τ19 => (lt (wI τ19 0 3 ((τ19.1 0 2) + 1)) fun τ20 => (some τ20))) else (lt (wI τ9 0 1 4) fun τ17 => (lt (wI τ17 0 3 ((τ17.1 0 2) + 1)) fun τ18 => (some τ18)))) else ((f_X10_readNumber τ9 β).bind fun τ21 => (some τ21)))) else ((f_X10_readWord τ9 β).bind fun τ22 => (some τ22)))))))))))
set_option maxRecDepth 100000 in
def f_X10_rewind  (τ : OM) (β : OM) : Option (OM) := (lt (wI τ 0 3 0) fun τ1 => ((f_X10_next τ1 β).bind fun τ2 => (some τ2)))
set_option maxRecDepth 100000 in
def f_X7_begin  (π : OM) (τ : OM) (β : OM) : Option (OM × OM) := (lt (wI π 0 1 0) fun π1 => (lt (wI π1 0 2 (-1)) fun π2 => ((f_X10_rewind τ β).bind fun τ3 => (some (π2, τ3)))))
set_option maxRecDepth 100000 in
def f_X7_fail (p1 : Int32) (π : OM) (τ : OM) : Option (Int32 × OM) := (lt (wI π 0 1 p1) fun π1 => (lt (wI π1 0 2 (τ.1 0 2)) fun π2 => (some (0, π2))))
set_option maxRecDepth 100000 in
def f_J0_coder_7d493 (w0 : Nat)  : Option (Int32) := (if w0 < 46 then (some 0) else none)
set_option maxRecDepth 100000 in
def f_J0_length_8abf5 (w0 : Nat)  : Option (Int32) := (if w0 < 46 then (if w0 < 46 then ((f_J0_coder_7d493 w0).bind fun r1 => (some ((nI (lens.getD w0 0)) >>> (r1 &&& 31)))) else none) else none)
set_option maxRecDepth 100000 in
def f_J0_isLatin1_aae02 (w0 : Nat)  : Option (Int32) := (if w0 < 46 then (some 1) else none)
set_option maxRecDepth 100000 in
def f_J3_checkIndex_8e157 (p0 : Int32) (p1 : Int32)  : Option (Int32) := (if p0 < 0 then none else (if p0 < p1 then (some p0) else none))
set_option maxRecDepth 100000 in
def f_J0_checkIndex_df160 (p0 : Int32) (p1 : Int32)  : Option (Unit) := ((f_J3_checkIndex_8e157 p0 p1).bind fun r2 => (some ()))
set_option maxRecDepth 100000 in
def f_J1_charAt_3b067 (w0 : Nat) (p1 : Int32)  : Option (Int32) := (if w0 < 46 then ((f_J0_checkIndex_df160 p1 (nI (lens.getD w0 0))).bind fun _ => (if w0 < 46 then (if inb p1 (lens.getD w0 0) = true then (if cz (((Int32.toUInt32 (((byts.getD w0 []).getD (Int32.toNatClampNeg p1) 0) &&& 255)) % 65536).toInt32) = true then some (((Int32.toUInt32 (((byts.getD w0 []).getD (Int32.toNatClampNeg p1) 0) &&& 255)) % 65536).toInt32) else none) else none) else none)) else none)
set_option maxRecDepth 100000 in
def f_J0_charAt_5068e (w0 : Nat) (p1 : Int32)  : Option (Int32) := ((f_J0_isLatin1_aae02 w0).bind fun r1 => (if r1 = 0 then none else (if w0 < 46 then ((f_J1_charAt_3b067 w0 p1).bind fun r3 => (if cz r3 = true then some r3 else none)) else none)))
set_option maxRecDepth 100000 in
def f_X10_isWord_28 (w1 : Nat) (τ : OM) (β : OM) : Nat → Int32 → Option (Int32)
  | 0, _ => none
  | n + 1, x2 => ((f_J0_length_8abf5 w1).bind fun r4 => (if r4 ≤ x2 then (some 1) else ((f_X2_byteAt ((τ.1 0 2) + x2) β).bind fun r6 => ((f_J0_charAt_5068e w1 x2).bind fun r7 => (if r6 = r7 then (f_X10_isWord_28 w1 τ β n (x2 + 1)) else (some 0))))))
set_option maxRecDepth 100000 in
def f_X10_isWord (w1 : Nat) (τ : OM) (β : OM) : Option (Int32) := (if (τ.1 0 1) = 1 then ((f_J0_length_8abf5 w1).bind fun r2 => (if ((τ.1 0 3) - (τ.1 0 2)) = r2 then (f_X10_isWord_28 w1 τ β FU 0) else (some 0))) else (some 0))
set_option maxRecDepth 100000 in
def f_X7_takeWord (w1 : Nat) (π : OM) (τ : OM) (β : OM) : Option (Int32 × OM × OM) := ((f_X10_isWord w1 τ β).bind fun r1 => (if r1 = 0 then (o2 (f_X7_fail 1 π τ) fun r4 π5 => (if bz r4 = true then some (r4, π5, τ) else none)) else ((f_X10_next τ β).bind fun τ3 => (some (1, π, τ3)))))
set_option maxRecDepth 100000 in
def f_X7_takeSemicolon  (π : OM) (τ : OM) (β : OM) : Option (Int32 × OM × OM) := (if (τ.1 0 1) = 3 then ((f_X10_next τ β).bind fun τ2 => (some (1, π, τ2))) else (o2 (f_X7_fail 1 π τ) fun r3 π4 => (if bz r3 = true then some (r3, π4, τ) else none)))
set_option maxRecDepth 100000 in
def f_X7_takeNumber (p1 : Int32) (p2 : Int32) (π : OM) (τ : OM) (β : OM) : Option (Int32 × OM × OM) := (lt ((τ.1 0 4)) fun i1 => (if (τ.1 0 1) = 2 then (if i1 < p1 then (o2 (f_X7_fail 2 π τ) fun r4 π5 => (some ((-1), π5, τ))) else (if i1 ≤ p2 then ((f_X10_next τ β).bind fun τ7 => (some (i1, π, τ7))) else (o2 (f_X7_fail 2 π τ) fun r8 π9 => (some ((-1), π9, τ))))) else (o2 (f_X7_fail 1 π τ) fun r10 π11 => (some ((-1), π11, τ)))))
set_option maxRecDepth 100000 in
def f_X7_takeSeller  (μ : OM) (π : OM) (τ : OM) (β : OM) : Option (Int32 × OM × OM) := (if (τ.1 0 1) = 1 then ((f_X5_sellerCalled (τ.2.1 0 5) μ).bind fun r2 => (if r2 = (-1) then (o2 (f_X7_fail 3 π τ) fun r5 π6 => (some ((-1), π6, τ))) else ((f_X10_next τ β).bind fun τ4 => (some (r2, π, τ4))))) else (o2 (f_X7_fail 1 π τ) fun r7 π8 => (some ((-1), π8, τ))))
set_option maxRecDepth 100000 in
def f_X7_seeStall  (μ : OM) (π : OM) (τ : OM) (β : OM) : Option (Int32 × OM) := (if (τ.1 0 1) = 1 then ((f_X10_isWord 5 τ β).bind fun r4 => (if r4 = 0 then ((f_X5_stallCalled (τ.2.1 0 5) μ).bind fun r6 => (if r6 = (-1) then (o2 (f_X7_fail 3 π τ) fun r8 π9 => (some (r6, π9))) else (some (r6, π)))) else (o2 (f_X7_fail 1 π τ) fun r10 π11 => (some ((-1), π11))))) else (o2 (f_X7_fail 1 π τ) fun r2 π3 => (some ((-1), π3))))
set_option maxRecDepth 100000 in
def f_X7_takeStall  (μ : OM) (π : OM) (τ : OM) (β : OM) : Option (Int32 × OM × OM) := (o2 (f_X7_seeStall μ π τ β) fun r1 π2 => (if r1 = (-1) then (some (r1, π2, τ)) else ((f_X10_next τ β).bind fun τ4 => (some (r1, π2, τ4)))))
set_option maxRecDepth 100000 in
def f_X8_verbAt_2 (τ : OM) (β : OM) : Nat → Int32 → Option (Option Nat)
  | 0, _ => none
  | n + 1, x1 => (if 9 ≤ x1 then (some none) else (if inb x1 9 = true then (lt (Int32.toNatClampNeg x1) fun b2 => (if b2 < 9 then ((f_X10_isWord (37 + b2) τ β).bind fun r3 => (if r3 = 0 then (f_X8_verbAt_2 τ β n (x1 + 1)) else (some (some b2)))) else none)) else none))
set_option maxRecDepth 100000 in
def f_X8_verbAt  (τ : OM) (β : OM) : Option (Option Nat) := (f_X8_verbAt_2 τ β FU 0)
set_option maxRecDepth 100000 in
def f_X8_takeOperand (p2 : Int32) (μ : OM) (π : OM) (τ : OM) (β : OM) : Option (Int32 × OM × OM) := (if p2 = 1 then (o3 (f_X7_takeSeller μ π τ β) fun r2 π3 τ4 => (some (r2, π3, τ4))) else (if p2 = 2 then (o3 (f_X7_takeStall μ π τ β) fun r6 π7 τ8 => (some (r6, π7, τ8))) else (if p2 = 3 then (o3 (f_X7_takeNumber 0 99 π τ β) fun r10 π11 τ12 => (some (r10, π11, τ12))) else (if p2 = 4 then (o3 (f_X7_takeNumber 1 999 π τ β) fun r14 π15 τ16 => (some (r14, π15, τ16))) else (if p2 = 5 then (o3 (f_X7_takeNumber 1 99 π τ β) fun r18 π19 τ20 => (some (r18, π19, τ20))) else (some (0, π, τ)))))))
set_option maxRecDepth 100000 in
def f_X8_readCommand  (μ : OM) (π : OM) (τ : OM) (β : OM) (ς : OM) : Option (Int32 × OM × OM × OM) := ((f_X8_verbAt τ β).bind fun r1 => (oe r1 (o2 (f_X7_fail 1 π τ) fun r3 π4 => (if bz r3 = true then some (r3, π4, τ, ς) else none)) (fun b2 => (if (ς.1 0 3) < 20 then ((f_X10_next τ β).bind fun τ6 => (if b2 < 9 then (o3 (f_X8_takeOperand (fks.getD b2 0) μ π τ6 β) fun r7 π8 τ9 => (if r7 = (-1) then (some (0, π8, τ9, ς)) else (if b2 < 9 then (o3 (f_X8_takeOperand (sks.getD b2 0) μ π8 τ9 β) fun r11 π12 τ13 => (if r11 = (-1) then (some (0, π12, τ13, ς)) else (if b2 < 9 then (if inb (ς.1 0 3) 20 = true then (lt (wR ς 1 (Int32.toNatClampNeg (ς.1 0 3)) (some b2)) fun ς15 => (if inb (ς15.1 0 3) 20 = true then (lt (wI ς15 2 (Int32.toNatClampNeg (ς15.1 0 3)) r7) fun ς16 => (if inb (ς16.1 0 3) 20 = true then (lt (wI ς16 3 (Int32.toNatClampNeg (ς16.1 0 3)) r11) fun ς17 => (o3 (f_X7_takeSemicolon π12 τ13 β) fun r18 π19 τ20 => (if bz r18 = true then some (r18, π19, τ20, ς17) else none))) else none)) else none)) else none) else none))) else none))) else none)) else (o2 (f_X7_fail 1 π τ) fun r21 π22 => (if bz r21 = true then some (r21, π22, τ, ς) else none))))))
set_option maxRecDepth 100000 in
def f_X8_read_9 (μ : OM) (β : OM) : Nat → OM → OM → OM → Option (Int32 × OM × OM × OM)
  | 0, _, _, _ => none
  | n + 1, π, τ, ς => (if 20 ≤ (ς.1 0 3) then (if (τ.1 0 1) = 0 then (some (1, π, τ, ς)) else ((f_X8_verbAt τ β).bind fun r6 => (oe r6 (o2 (f_X7_fail 1 π τ) fun r8 π9 => (if bz r8 = true then some (r8, π9, τ, ς) else none)) (fun b7 => (o2 (f_X7_fail 5 π τ) fun r10 π11 => (if bz r10 = true then some (r10, π11, τ, ς) else none)))))) else (if (τ.1 0 1) = 0 then (if (τ.1 0 1) = 0 then (some (1, π, τ, ς)) else ((f_X8_verbAt τ β).bind fun r14 => (oe r14 (o2 (f_X7_fail 1 π τ) fun r16 π17 => (if bz r16 = true then some (r16, π17, τ, ς) else none)) (fun b15 => (o2 (f_X7_fail 5 π τ) fun r18 π19 => (if bz r18 = true then some (r18, π19, τ, ς) else none)))))) else (o4 (f_X8_readCommand μ π τ β ς) fun r20 π21 τ22 ς23 => (if r20 = 0 then (some (0, π21, τ22, ς23)) else (lt (wI ς23 0 3 ((ς23.1 0 3) + 1)) fun ς25 => (f_X8_read_9 μ β n π21 τ22 ς25))))))
set_option maxRecDepth 100000 in
def f_X8_read  (μ : OM) (π : OM) (τ : OM) (β : OM) (ς : OM) : Option (Int32 × OM × OM × OM) := (lt (wI ς 0 3 0) fun ς1 => (o2 (f_X7_begin π τ β) fun π2 τ3 => (f_X8_read_9 μ β FU π2 τ3 ς1)))
set_option maxRecDepth 100000 in
def f_X8_isPossible (b1 : Nat) (p2 : Int32) (p3 : Int32) (μ : OM) : Option (Int32) := (if b1 < 9 then (if inb (nI b1) 9 = true then (if (swm.getD (Int32.toNatClampNeg (nI b1)) 0) = 1 then ((f_X5_mayMoveInto p2 p3 μ).bind fun r2 => (if bz r2 = true then some r2 else none)) else (if (swm.getD (Int32.toNatClampNeg (nI b1)) 0) = 2 then ((f_X5_heldBy p2 μ).bind fun r4 => (if r4 = (-1) then (some 0) else (some 1))) else (if (swm.getD (Int32.toNatClampNeg (nI b1)) 0) = 3 then ((f_X3_bothGain p2 p3 μ).bind fun r7 => (if bz r7 = true then some r7 else none)) else (if (swm.getD (Int32.toNatClampNeg (nI b1)) 0) = 4 then ((f_X5_rankIn p2 p3 μ).bind fun r9 => (if r9 = (-1) then (some 0) else (some 1))) else (if (swm.getD (Int32.toNatClampNeg (nI b1)) 0) = 5 then ((f_X5_mayPass p2 μ).bind fun r12 => (if bz r12 = true then some r12 else none)) else (some 1)))))) else none) else none)
set_option maxRecDepth 100000 in
def f_X8_perform (b2 : Nat) (p3 : Int32) (p4 : Int32) (μ : OM) (α : OM) : Option (OM × OM) := (if b2 < 9 then (if inb (nI b2) 9 = true then (if (swm.getD (Int32.toNatClampNeg (nI b2)) 0) = 1 then ((f_X5_seat p3 p4 μ).bind fun μ2 => (some (μ2, α))) else (if (swm.getD (Int32.toNatClampNeg (nI b2)) 0) = 2 then ((f_X5_seat p3 (-1) μ).bind fun μ4 => (some (μ4, α))) else (if (swm.getD (Int32.toNatClampNeg (nI b2)) 0) = 3 then ((f_X5_exchange p3 p4 μ).bind fun μ6 => (some (μ6, α))) else (if (swm.getD (Int32.toNatClampNeg (nI b2)) 0) = 4 then ((f_X5_dropWish p3 p4 μ).bind fun μ8 => (some (μ8, α))) else (if (swm.getD (Int32.toNatClampNeg (nI b2)) 0) = 5 then ((f_X5_pass p3 μ).bind fun μ10 => (some (μ10, α))) else (if (swm.getD (Int32.toNatClampNeg (nI b2)) 0) = 6 then ((f_X1_decide μ α).bind fun α12 => (o2 (f_X1_applyTo μ α12) fun r13 μ14 => (some (μ14, α12)))) else (if (swm.getD (Int32.toNatClampNeg (nI b2)) 0) = 7 then ((f_X5_wishFirst p3 p4 μ).bind fun μ16 => (some (μ16, α))) else (if (swm.getD (Int32.toNatClampNeg (nI b2)) 0) = 8 then ((f_X5_price p3 p4 μ).bind fun μ18 => (some (μ18, α))) else (if (swm.getD (Int32.toNatClampNeg (nI b2)) 0) = 9 then ((f_X5_receive p3 p4 μ).bind fun μ20 => (some (μ20, α))) else ((f_X5_pass p3 μ).bind fun μ21 => (some (μ21, α)))))))))))) else none) else none)
set_option maxRecDepth 100000 in
def f_X8_execute_2 (ς : OM) : Nat → Int32 → OM → OM → Option (Int32 × OM × OM)
  | 0, _, _, _ => none
  | n + 1, x3, μ, α => (if (ς.1 0 3) ≤ x3 then (some ((ς.1 0 3), μ, α)) else (if 20 ≤ x3 then (some ((ς.1 0 3), μ, α)) else (if inb x3 20 = true then (oe (ς.2.2 1 (Int32.toNatClampNeg x3)) (some (x3, μ, α)) (fun b3 => (if inb x3 20 = true then (if inb x3 20 = true then ((f_X8_isPossible b3 (ς.1 2 (Int32.toNatClampNeg x3)) (ς.1 3 (Int32.toNatClampNeg x3)) μ).bind fun r4 => (if r4 = 0 then (some (x3, μ, α)) else (if inb x3 20 = true then (if inb x3 20 = true then (o2 (f_X8_perform b3 (ς.1 2 (Int32.toNatClampNeg x3)) (ς.1 3 (Int32.toNatClampNeg x3)) μ α) fun μ6 α7 => (f_X8_execute_2 ς n (x3 + 1) μ6 α7)) else none) else none))) else none) else none))) else none)))
set_option maxRecDepth 100000 in
def f_X8_execute  (μ : OM) (ς : OM) (α : OM) : Option (Int32 × OM × OM) := (f_X8_execute_2 ς FU 0 μ α)
set_option maxRecDepth 100000 in
def f_X9_takeNewName (p1 : Int32) (π : OM) (τ : OM) (β : OM) : Option (Int32 × OM × OM) := (if (τ.1 0 1) = 1 then (if p1 = 0 then (if (lg_cmp (τ.2.1 0 5) 0) = 0 then (o2 (f_X7_fail 3 π τ) fun r7 π8 => (if bz r7 = true then some (r7, π8, τ) else none)) else ((f_X10_next τ β).bind fun τ6 => (some (1, π, τ6)))) else (o2 (f_X7_fail 3 π τ) fun r3 π4 => (if bz r3 = true then some (r3, π4, τ) else none))) else (o2 (f_X7_fail 1 π τ) fun r9 π10 => (if bz r9 = true then some (r9, π10, τ) else none)))
set_option maxRecDepth 100000 in
def f_X9_readStall  (μ : OM) (π : OM) (τ : OM) (β : OM) : Option (Int32 × OM × OM × OM) := (o3 (f_X7_takeWord 2 π τ β) fun r1 π2 τ3 => (if r1 = 0 then (some (0, μ, π2, τ3)) else (lt ((τ3.2.1 0 5)) fun i5 => ((f_X10_isWord 3 τ3 β).bind fun r6 => (if r6 = 0 then ((f_X5_stallCalled i5 μ).bind fun r20 => (if r20 = (-1) then (o3 (f_X9_takeNewName 0 π2 τ3 β) fun r22 π23 τ24 => (if r22 = 0 then (some (0, μ, π23, τ24)) else (o3 (f_X7_takeNumber 0 99 π23 τ24 β) fun r26 π27 τ28 => (if r26 = (-1) then (some (0, μ, π27, τ28)) else ((f_X5_addStall i5 r26 μ).bind fun μ30 => (o3 (f_X7_takeSemicolon π27 τ28 β) fun r31 π32 τ33 => (if bz r31 = true then some (r31, μ30, π32, τ33) else none))))))) else (o3 (f_X9_takeNewName 1 π2 τ3 β) fun r34 π35 τ36 => (if r34 = 0 then (some (0, μ, π35, τ36)) else (o3 (f_X7_takeNumber 0 99 π35 τ36 β) fun r38 π39 τ40 => (if r38 = (-1) then (some (0, μ, π39, τ40)) else ((f_X5_addStall i5 r38 μ).bind fun μ42 => (o3 (f_X7_takeSemicolon π39 τ40 β) fun r43 π44 τ45 => (if bz r43 = true then some (r43, μ42, π44, τ45) else none))))))))) else (o3 (f_X9_takeNewName 1 π2 τ3 β) fun r8 π9 τ10 => (if r8 = 0 then (some (0, μ, π9, τ10)) else (o3 (f_X7_takeNumber 0 99 π9 τ10 β) fun r12 π13 τ14 => (if r12 = (-1) then (some (0, μ, π13, τ14)) else ((f_X5_addStall i5 r12 μ).bind fun μ16 => (o3 (f_X7_takeSemicolon π13 τ14 β) fun r17 π18 τ19 => (if bz r17 = true then some (r17, μ16, π18, τ19) else none))))))))))))
set_option maxRecDepth 100000 in
def f_X9_readStalls_2 (β : OM) : Nat → Int32 → OM → OM → OM → Option (Int32 × OM × OM × OM)
  | 0, _, _, _, _ => none
  | n + 1, x2, μ, π, τ => (if 8 ≤ x2 then ((f_X10_isWord 2 τ β).bind fun r2 => (if r2 = 0 then (some (1, μ, π, τ)) else (o2 (f_X7_fail 5 π τ) fun r4 π5 => (if r4 = 0 then (some (0, μ, π5, τ)) else (some (1, μ, π5, τ)))))) else (if x2 ≤ 0 then (o4 (f_X9_readStall μ π τ β) fun r8 μ9 π10 τ11 => (if r8 = 0 then (some (0, μ9, π10, τ11)) else (f_X9_readStalls_2 β n (x2 + 1) μ9 π10 τ11))) else ((f_X10_isWord 2 τ β).bind fun r13 => (if r13 = 0 then (some (1, μ, π, τ)) else (o4 (f_X9_readStall μ π τ β) fun r15 μ16 π17 τ18 => (if r15 = 0 then (some (0, μ16, π17, τ18)) else (f_X9_readStalls_2 β n (x2 + 1) μ16 π17 τ18)))))))
set_option maxRecDepth 100000 in
def f_X9_readStalls  (μ : OM) (π : OM) (τ : OM) (β : OM) : Option (Int32 × OM × OM × OM) := (f_X9_readStalls_2 β FU 0 μ π τ)
set_option maxRecDepth 100000 in
def f_X9_readWishes_2 (x2 : Int32) (β : OM) : Nat → Int32 → OM → OM → OM → Option (Int32 × OM × OM × OM)
  | 0, _, _, _, _ => none
  | n + 1, x3, μ, π, τ => (if 8 < x3 then (some (1, μ, π, τ)) else (if (τ.1 0 1) = 1 then ((f_X10_isWord 3 τ β).bind fun r3 => (if r3 = 0 then (o2 (f_X7_seeStall μ π τ β) fun r5 π6 => (if r5 = (-1) then (some (0, μ, π6, τ)) else ((f_X5_rankIn x2 r5 μ).bind fun r8 => (if r8 = (-1) then ((f_X5_wishLast x2 r5 μ).bind fun μ10 => ((f_X10_next τ β).bind fun τ11 => (f_X9_readWishes_2 x2 β n (x3 + 1) μ10 π6 τ11))) else (o2 (f_X7_fail 4 π6 τ) fun r12 π13 => (if bz r12 = true then some (r12, μ, π13, τ) else none)))))) else (some (1, μ, π, τ)))) else (some (1, μ, π, τ))))
set_option maxRecDepth 100000 in
def f_X9_readWishes (p2 : Int32) (μ : OM) (π : OM) (τ : OM) (β : OM) : Option (Int32 × OM × OM × OM) := (f_X9_readWishes_2 p2 β FU 0 μ π τ)
set_option maxRecDepth 100000 in
def f_X9_readPlace (p2 : Int32) (μ : OM) (π : OM) (τ : OM) (β : OM) : Option (Int32 × OM × OM × OM) := ((f_X10_isWord 3 τ β).bind fun r1 => (if r1 = 0 then (some (1, μ, π, τ)) else ((f_X10_next τ β).bind fun τ3 => (o2 (f_X7_seeStall μ π τ3 β) fun r4 π5 => (if r4 = (-1) then (some (0, μ, π5, τ3)) else ((f_X5_holderOf r4 μ).bind fun r7 => (if r7 = (-1) then ((f_X5_seat p2 r4 μ).bind fun μ9 => ((f_X10_next τ3 β).bind fun τ10 => (some (1, μ9, π5, τ10)))) else (o2 (f_X7_fail 4 π5 τ3) fun r11 π12 => (if bz r11 = true then some (r11, μ, π12, τ3) else none)))))))))
set_option maxRecDepth 100000 in
def f_X9_readSeller  (μ : OM) (π : OM) (τ : OM) (β : OM) : Option (Int32 × OM × OM × OM) := (o3 (f_X7_takeWord 4 π τ β) fun r1 π2 τ3 => (if r1 = 0 then (some (0, μ, π2, τ3)) else (lt ((τ3.2.1 0 5)) fun i5 => ((f_X5_sellerCalled i5 μ).bind fun r6 => (if r6 = (-1) then (o3 (f_X9_takeNewName 0 π2 τ3 β) fun r8 π9 τ10 => (if r8 = 0 then (some (0, μ, π9, τ10)) else (o3 (f_X7_takeNumber 0 9999 π9 τ10 β) fun r12 π13 τ14 => (if r12 = (-1) then (some (0, μ, π13, τ14)) else (o3 (f_X7_takeNumber 0 99 π13 τ14 β) fun r16 π17 τ18 => (if r16 = (-1) then (some (0, μ, π17, τ18)) else (lt ((μ.1 0 0)) fun i20 => ((f_X5_addSeller i5 r12 r16 μ).bind fun μ21 => (o4 (f_X9_readWishes i20 μ21 π17 τ18 β) fun r22 μ23 π24 τ25 => (if r22 = 0 then (some (0, μ23, π24, τ25)) else (o4 (f_X9_readPlace i20 μ23 π24 τ25 β) fun r27 μ28 π29 τ30 => (if r27 = 0 then (some (0, μ28, π29, τ30)) else (o3 (f_X7_takeSemicolon π29 τ30 β) fun r32 π33 τ34 => (if r32 = 0 then (some (0, μ28, π33, τ34)) else (some (1, μ28, π33, τ34)))))))))))))))) else (o3 (f_X9_takeNewName 1 π2 τ3 β) fun r36 π37 τ38 => (if r36 = 0 then (some (0, μ, π37, τ38)) else (o3 (f_X7_takeNumber 0 9999 π37 τ38 β) fun r40 π41 τ42 => (if r40 = (-1) then (some (0, μ, π41, τ42)) else (o3 (f_X7_takeNumber 0 99 π41 τ42 β) fun r44 π45 τ46 => (if r44 = (-1) then (some (0, μ, π45, τ46)) else (lt ((μ.1 0 0)) fun i48 => ((f_X5_addSeller i5 r40 r44 μ).bind fun μ49 => (o4 (f_X9_readWishes i48 μ49 π45 τ46 β) fun r50 μ51 π52 τ53 => (if r50 = 0 then (some (0, μ51, π52, τ53)) else (o4 (f_X9_readPlace i48 μ51 π52 τ53 β) fun r55 μ56 π57 τ58 => (if r55 = 0 then (some (0, μ56, π57, τ58)) else (o3 (f_X7_takeSemicolon π57 τ58 β) fun r60 π61 τ62 => (if r60 = 0 then (some (0, μ56, π61, τ62)) else (some (1, μ56, π61, τ62)))))))))))))))))))))
set_option maxRecDepth 100000 in
def f_X9_readSellers_2 (β : OM) : Nat → Int32 → OM → OM → OM → Option (Int32 × OM × OM × OM)
  | 0, _, _, _, _ => none
  | n + 1, x2, μ, π, τ => (if 8 ≤ x2 then (if (τ.1 0 1) = 0 then (some (1, μ, π, τ)) else ((f_X10_isWord 4 τ β).bind fun r3 => (if r3 = 0 then (o2 (f_X7_fail 1 π τ) fun r5 π6 => (if bz r5 = true then some (r5, μ, π6, τ) else none)) else (o2 (f_X7_fail 5 π τ) fun r7 π8 => (if bz r7 = true then some (r7, μ, π8, τ) else none))))) else (if x2 ≤ 0 then (o4 (f_X9_readSeller μ π τ β) fun r10 μ11 π12 τ13 => (if r10 = 0 then (some (0, μ11, π12, τ13)) else (f_X9_readSellers_2 β n (x2 + 1) μ11 π12 τ13))) else (if (τ.1 0 1) = 0 then (some (1, μ, π, τ)) else (o4 (f_X9_readSeller μ π τ β) fun r16 μ17 π18 τ19 => (if r16 = 0 then (some (0, μ17, π18, τ19)) else (f_X9_readSellers_2 β n (x2 + 1) μ17 π18 τ19))))))
set_option maxRecDepth 100000 in
def f_X9_readSellers  (μ : OM) (π : OM) (τ : OM) (β : OM) : Option (Int32 × OM × OM × OM) := (f_X9_readSellers_2 β FU 0 μ π τ)
set_option maxRecDepth 100000 in
def f_X9_read  (μ : OM) (π : OM) (τ : OM) (β : OM) : Option (Int32 × OM × OM × OM) := ((f_X5_clear μ).bind fun μ1 => (o2 (f_X7_begin π τ β) fun π2 τ3 => (o3 (f_X7_takeWord 1 π2 τ3 β) fun r4 π5 τ6 => (if r4 = 0 then (some (0, μ1, π5, τ6)) else (o3 (f_X7_takeSemicolon π5 τ6 β) fun r8 π9 τ10 => (if r8 = 0 then (some (0, μ1, π9, τ10)) else (o4 (f_X9_readStalls μ1 π9 τ10 β) fun r12 μ13 π14 τ15 => (if r12 = 0 then (some (0, μ13, π14, τ15)) else (o4 (f_X9_readSellers μ13 π14 τ15 β) fun r17 μ18 π19 τ20 => (if r17 = 0 then (some (0, μ18, π19, τ20)) else (some (1, μ18, π19, τ20))))))))))))
set_option maxRecDepth 100000 in
def f_X12_appendInput (p1 : Int32) (p2 : Int32) (p3 : Int32) (p4 : Int32) (p5 : Int32) (σ : SM) : Option (Nat ⊕ (Int32 × SM)) := (if ((σ 13).1 0 1) ≤ 680 then ((f_X2_addWord p1 (σ 13)).bind fun m2 => (lt (us σ 13 m2) fun σ3 => ((f_X2_addWord p2 (σ3 13)).bind fun m4 => (lt (us σ3 13 m4) fun σ5 => ((f_X2_addWord p3 (σ5 13)).bind fun m6 => (lt (us σ5 13 m6) fun σ7 => ((f_X2_addWord p4 (σ7 13)).bind fun m8 => (lt (us σ7 13 m8) fun σ9 => ((f_X2_addWord p5 (σ9 13)).bind fun m10 => (lt (us σ9 13 m10) fun σ11 => (some (Sum.inr (((σ11 13).1 0 1), σ11))))))))))))) else (some (Sum.inl 0)))
set_option maxRecDepth 100000 in
def f_X12_truncateInput (p1 : Int32) (σ : SM) : Option (Nat ⊕ (Int32 × SM)) := (if p1 < 0 then (some (Sum.inl 1)) else (if p1 ≤ ((σ 13).1 0 1) then ((f_X2_cut p1 (σ 13)).bind fun m3 => (lt (us σ 13 m3) fun σ4 => (some (Sum.inr (((σ4 13).1 0 1), σ4))))) else (some (Sum.inl 1))))
set_option maxRecDepth 100000 in
def f_X12_loadSetup  (σ : SM) : Option (Int32 × SM) := (o4 (f_X9_read (σ 1) (σ 11) (σ 12) (σ 13)) fun r1 m2 m3 m4 => (lt (us (us (us σ 1 m2) 11 m3) 12 m4) fun σ5 => ((f_X2_cut 0 (σ5 13)).bind fun m6 => (lt (us σ5 13 m6) fun σ7 => (if r1 = 0 then (some ((-1), σ7)) else ((f_X5_copy (σ7 1) (σ7 0)).bind fun m9 => (lt (us σ7 0 m9) fun σ10 => ((f_X4_clear σ10).bind fun σ11 => (some (((σ11 0).1 0 0), σ11))))))))))
set_option maxRecDepth 100000 in
def f_X12_runScript  (σ : SM) : Option (Int32 × SM) := (o4 (f_X8_read (σ 0) (σ 11) (σ 12) (σ 13) (σ 15)) fun r1 m2 m3 m4 => (lt (us (us (us σ 11 m2) 12 m3) 15 m4) fun σ5 => ((f_X2_cut 0 (σ5 13)).bind fun m6 => (lt (us σ5 13 m6) fun σ7 => (if r1 = 0 then (some ((-1), σ7)) else ((f_X4_record σ7).bind fun σ9 => (o3 (f_X8_execute (σ9 0) (σ9 15) (σ9 17)) fun r10 m11 m12 => (lt (us (us σ9 0 m11) 17 m12) fun σ13 => (some (r10, σ13))))))))))
set_option maxRecDepth 100000 in
def f_X12_errorCode  (σ : SM) : Option (Int32) := (some ((σ 11).1 0 1))
set_option maxRecDepth 100000 in
def f_X12_errorPosition  (σ : SM) : Option (Int32) := (some ((σ 11).1 0 2))
set_option maxRecDepth 100000 in
def f_X12_sellerCount  (σ : SM) : Option (Int32) := (some ((σ 0).1 0 0))
set_option maxRecDepth 100000 in
def f_X12_stallCount  (σ : SM) : Option (Int32) := (some ((σ 0).1 0 1))
set_option maxRecDepth 100000 in
def f_X12_day  (σ : SM) : Option (Int32) := (some ((σ 0).1 0 2))
set_option maxRecDepth 100000 in
def f_X12_requireSeller (p1 : Int32) (σ : SM) : Option (Nat ⊕ (Unit)) := (if p1 < 0 then (some (Sum.inl 2)) else (if p1 < ((σ 0).1 0 0) then (some (Sum.inr ())) else (some (Sum.inl 2))))
set_option maxRecDepth 100000 in
def f_X12_balance (p1 : Int32) (σ : SM) : Option (Nat ⊕ (Int32)) := (oX (f_X12_requireSeller p1 σ) fun _ => ((f_X5_coinsOf p1 (σ 0)).bind fun r1 => (some (Sum.inr r1))))
set_option maxRecDepth 100000 in
def f_X12_income (p1 : Int32) (σ : SM) : Option (Nat ⊕ (Int32)) := (oX (f_X12_requireSeller p1 σ) fun _ => ((f_X5_wageOf p1 (σ 0)).bind fun r1 => (some (Sum.inr r1))))
set_option maxRecDepth 100000 in
def f_X12_requireStall (p1 : Int32) (σ : SM) : Option (Nat ⊕ (Unit)) := (if p1 < 0 then (some (Sum.inl 2)) else (if p1 < ((σ 0).1 0 1) then (some (Sum.inr ())) else (some (Sum.inl 2))))
set_option maxRecDepth 100000 in
def f_X12_rent (p1 : Int32) (σ : SM) : Option (Nat ⊕ (Int32)) := (oX (f_X12_requireStall p1 σ) fun _ => ((f_X5_priceOf p1 (σ 0)).bind fun r1 => (some (Sum.inr r1))))
set_option maxRecDepth 100000 in
def f_X12_stallOf (p1 : Int32) (σ : SM) : Option (Nat ⊕ (Int32)) := (oX (f_X12_requireSeller p1 σ) fun _ => ((f_X5_heldBy p1 (σ 0)).bind fun r1 => (some (Sum.inr r1))))
set_option maxRecDepth 100000 in
def f_X12_occupantOf (p1 : Int32) (σ : SM) : Option (Nat ⊕ (Int32)) := (oX (f_X12_requireStall p1 σ) fun _ => ((f_X5_holderOf p1 (σ 0)).bind fun r1 => (some (Sum.inr r1))))
set_option maxRecDepth 100000 in
def f_X12_priorityOf (p1 : Int32) (σ : SM) : Option (Nat ⊕ (Int32)) := (oX (f_X12_requireSeller p1 σ) fun _ => ((f_X5_turnOf p1 (σ 0)).bind fun r1 => (some (Sum.inr r1))))
set_option maxRecDepth 100000 in
def f_X12_preferenceCount (p1 : Int32) (σ : SM) : Option (Nat ⊕ (Int32)) := (oX (f_X12_requireSeller p1 σ) fun _ => ((f_X5_wishesOf p1 (σ 0)).bind fun r1 => (some (Sum.inr r1))))
set_option maxRecDepth 100000 in
def f_X12_preferenceAt (p1 : Int32) (p2 : Int32) (σ : SM) : Option (Nat ⊕ (Int32)) := (oX (f_X12_requireSeller p1 σ) fun _ => (if p2 < 0 then (some (Sum.inl 2)) else ((f_X5_wishesOf p1 (σ 0)).bind fun r2 => (if p2 < r2 then ((f_X5_wish p1 p2 (σ 0)).bind fun r4 => (some (Sum.inr r4))) else (some (Sum.inl 2))))))
set_option maxRecDepth 100000 in
def f_X12_rankOf (p1 : Int32) (p2 : Int32) (σ : SM) : Option (Nat ⊕ (Int32)) := (oX (f_X12_requireSeller p1 σ) fun _ => (oX (f_X12_requireStall p2 σ) fun _ => ((f_X5_rankIn p1 p2 (σ 0)).bind fun r1 => (some (Sum.inr r1)))))
set_option maxRecDepth 100000 in
def f_X12_prefers (p1 : Int32) (p2 : Int32) (p3 : Int32) (σ : SM) : Option (Nat ⊕ (Int32)) := (oX (f_X12_requireSeller p1 σ) fun _ => (if p2 = (-1) then (if p3 = (-1) then ((f_X5_ranksAbove p1 p2 p3 (σ 0)).bind fun r3 => (if bz r3 = true then some (Sum.inr r3) else none)) else (oX (f_X12_requireStall p3 σ) fun _ => ((f_X5_ranksAbove p1 p2 p3 (σ 0)).bind fun r4 => (if bz r4 = true then some (Sum.inr r4) else none)))) else (oX (f_X12_requireStall p2 σ) fun _ => (if p3 = (-1) then ((f_X5_ranksAbove p1 p2 p3 (σ 0)).bind fun r6 => (if bz r6 = true then some (Sum.inr r6) else none)) else (oX (f_X12_requireStall p3 σ) fun _ => ((f_X5_ranksAbove p1 p2 p3 (σ 0)).bind fun r7 => (if bz r7 = true then some (Sum.inr r7) else none)))))))
set_option maxRecDepth 100000 in
def f_X12_sellerNameByte (p1 : Int32) (p2 : Int32) (σ : SM) : Option (Nat ⊕ (Int32)) := (oX (f_X12_requireSeller p1 σ) fun _ => ((f_X5_nameOfSeller p1 (σ 0)).bind fun r1 => ((f_X12_letterAt r1 p2).bind fun r2 => (some (Sum.inr r2)))))
set_option maxRecDepth 100000 in
def f_X12_stallNameByte (p1 : Int32) (p2 : Int32) (σ : SM) : Option (Nat ⊕ (Int32)) := (oX (f_X12_requireStall p1 σ) fun _ => ((f_X5_nameOfStall p1 (σ 0)).bind fun r1 => ((f_X12_letterAt r1 p2).bind fun r2 => (some (Sum.inr r2)))))
set_option maxRecDepth 100000 in
def f_X12_findSeller  (σ : SM) : Option (Int32 × SM) := ((f_X10_rewind (σ 12) (σ 13)).bind fun m1 => (lt (us σ 12 m1) fun σ2 => (if ((σ2 12).1 0 2) = 0 then (if ((σ2 12).1 0 3) = ((σ2 13).1 0 1) then ((f_X5_sellerCalled ((σ2 12).2.1 0 5) (σ2 0)).bind fun r8 => (some (r8, σ2))) else (some ((-1), σ2))) else (some ((-1), σ2)))))
set_option maxRecDepth 100000 in
def f_X12_freeStallCount  (σ : SM) : Option (Int32) := ((f_X5_housedSellers (σ 0)).bind fun r1 => (some (((σ 0).1 0 1) - r1)))
set_option maxRecDepth 100000 in
def f_X12_envies (p1 : Int32) (p2 : Int32) (σ : SM) : Option (Nat ⊕ (Int32)) := (oX (f_X12_requireSeller p1 σ) fun _ => (oX (f_X12_requireSeller p2 σ) fun _ => ((f_X3_wantsStallOf p1 p2 (σ 0)).bind fun r1 => (if bz r1 = true then some (Sum.inr r1) else none))))
set_option maxRecDepth 100000 in
def f_X12_wouldSwap (p1 : Int32) (p2 : Int32) (σ : SM) : Option (Nat ⊕ (Int32)) := (oX (f_X12_requireSeller p1 σ) fun _ => (oX (f_X12_requireSeller p2 σ) fun _ => ((f_X3_bothGain p1 p2 (σ 0)).bind fun r1 => (if bz r1 = true then some (Sum.inr r1) else none))))
set_option maxRecDepth 100000 in
def f_X12_swapPairCount  (σ : SM) : Option (Int32) := ((f_X3_gainingPairs (σ 0)).bind fun r1 => (some r1))
set_option maxRecDepth 100000 in
def f_X12_improvingCycleLength (p1 : Int32) (σ : SM) : Option (Nat ⊕ (Int32)) := (oX (f_X12_requireSeller p1 σ) fun _ => ((f_X3_shortestCycle p1 (σ 0)).bind fun r1 => (some (Sum.inr r1))))
set_option maxRecDepth 100000 in
def f_X12_betterFreeStall (p1 : Int32) (σ : SM) : Option (Nat ⊕ (Int32)) := (oX (f_X12_requireSeller p1 σ) fun _ => ((f_X3_bestFreeStall p1 (σ 0)).bind fun r1 => (some (Sum.inr r1))))
set_option maxRecDepth 100000 in
def f_X12_isEfficient  (σ : SM) : Option (Int32) := ((f_X3_canImprove (σ 0)).bind fun r1 => (if r1 = 0 then (some 1) else (some 0)))
set_option maxRecDepth 100000 in
def f_X12_blockReason (p1 : Int32) (p2 : Int32) (σ : SM) : Option (Nat ⊕ (Int32)) := (oX (f_X12_requireSeller p1 σ) fun _ => (oX (f_X12_requireStall p2 σ) fun _ => ((f_X5_heldBy p1 (σ 0)).bind fun r1 => (if r1 = p2 then (some (Sum.inr 0)) else ((f_X5_rankIn p1 p2 (σ 0)).bind fun r3 => (if r3 = (-1) then (some (Sum.inr 1)) else (if r1 = (-1) then ((f_X5_holderOf p2 (σ 0)).bind fun r6 => (if r6 = (-1) then ((f_X5_priceOf p2 (σ 0)).bind fun r8 => ((f_X5_coinsOf p1 (σ 0)).bind fun r9 => (if r8 ≤ r9 then (some (Sum.inr 5)) else (some (Sum.inr 4))))) else (some (Sum.inr 3)))) else ((f_X5_ranksAbove p1 r1 p2 (σ 0)).bind fun r11 => (if r11 = 0 then ((f_X5_holderOf p2 (σ 0)).bind fun r13 => (if r13 = (-1) then ((f_X5_priceOf p2 (σ 0)).bind fun r15 => ((f_X5_coinsOf p1 (σ 0)).bind fun r16 => (if r15 ≤ r16 then (some (Sum.inr 5)) else (some (Sum.inr 4))))) else (some (Sum.inr 3)))) else (some (Sum.inr 2)))))))))))
set_option maxRecDepth 100000 in
def f_X12_allocatedStall (p1 : Int32) (σ : SM) : Option (Nat ⊕ (Int32 × SM)) := (oX (f_X12_requireSeller p1 σ) fun _ => ((f_X1_decide (σ 0) (σ 17)).bind fun m1 => (lt (us σ 17 m1) fun σ2 => ((f_X1_givenTo p1 (σ2 17)).bind fun r3 => (some (Sum.inr (r3, σ2)))))))
set_option maxRecDepth 100000 in
def f_X12_allocatedIfFirst (p1 : Int32) (σ : SM) : Option (Nat ⊕ (Int32 × SM)) := (oX (f_X12_requireSeller p1 σ) fun _ => ((f_X5_copy (σ 0) (σ 1)).bind fun m1 => (lt (us σ 1 m1) fun σ2 => ((f_X5_moveTurn p1 0 (σ2 1)).bind fun m3 => (lt (us σ2 1 m3) fun σ4 => ((f_X1_decide (σ4 1) (σ4 17)).bind fun m5 => (lt (us σ4 17 m5) fun σ6 => ((f_X1_givenTo p1 (σ6 17)).bind fun r7 => (some (Sum.inr (r7, σ6)))))))))))
set_option maxRecDepth 100000 in
def f_X12_allocatedIfReported (p1 : Int32) (p2 : Int32) (σ : SM) : Option (Nat ⊕ (Int32 × SM)) := (oX (f_X12_requireSeller p1 σ) fun _ => (oX (f_X12_requireStall p2 σ) fun _ => ((f_X5_copy (σ 0) (σ 1)).bind fun m1 => (lt (us σ 1 m1) fun σ2 => ((f_X5_wishFirst p1 p2 (σ2 1)).bind fun m3 => (lt (us σ2 1 m3) fun σ4 => ((f_X1_decide (σ4 1) (σ4 17)).bind fun m5 => (lt (us σ4 17 m5) fun σ6 => ((f_X1_givenTo p1 (σ6 17)).bind fun r7 => (some (Sum.inr (r7, σ6))))))))))))
set_option maxRecDepth 100000 in
def f_X12_gainerCount_15 (σ : SM) : Nat → Int32 → Int32 → Option (Int32 × SM)
  | 0, _, _ => none
  | n + 1, x2, x1 => (if ((σ 0).1 0 0) ≤ x2 then (some (x1, σ)) else ((f_X1_givenTo x2 (σ 17)).bind fun r4 => ((f_X5_heldBy x2 (σ 0)).bind fun r5 => ((f_X5_ranksAbove x2 r4 r5 (σ 0)).bind fun r6 => (if r6 = 0 then (f_X12_gainerCount_15 σ n (x2 + 1) x1) else (f_X12_gainerCount_15 σ n (x2 + 1) (x1 + 1)))))))
set_option maxRecDepth 100000 in
def f_X12_gainerCount  (σ : SM) : Option (Int32 × SM) := ((f_X1_decide (σ 0) (σ 17)).bind fun m1 => (lt (us σ 17 m1) fun σ2 => (f_X12_gainerCount_15 σ2 FU 0 0)))
set_option maxRecDepth 100000 in
def f_X12_maximumMatchingSize  (σ : SM) : Option (Int32 × SM) := ((f_X6_solve (σ 0) (σ 18)).bind fun m1 => (lt (us σ 18 m1) fun σ2 => (some (((σ2 18).1 0 1), σ2))))
set_option maxRecDepth 100000 in
def f_X12_leastRankSum  (σ : SM) : Option (Int32 × SM) := ((f_X6_solve (σ 0) (σ 18)).bind fun m1 => (lt (us σ 18 m1) fun σ2 => (some (((σ2 18).1 0 2), σ2))))
set_option maxRecDepth 100000 in
def f_X12_daysUntilEviction_33 (x2 : Int32) (x1 : Int32) (σ : SM) : Nat → Int32 → Int32 → Option (Nat ⊕ (Int32))
  | 0, _, _ => none
  | n + 1, x4, x3 => (if 400 < x4 then (some (Sum.inr (-1))) else ((f_X5_wageOf x1 (σ 0)).bind fun r5 => (lt ((x3 + r5)) fun i6 => (if x2 ≤ i6 then (lt ((i6 - x2)) fun i8 => (f_X12_daysUntilEviction_33 x2 x1 σ n (x4 + 1) i8)) else (some (Sum.inr x4))))))
set_option maxRecDepth 100000 in
def f_X12_daysUntilEviction (p1 : Int32) (σ : SM) : Option (Nat ⊕ (Int32)) := (oX (f_X12_requireSeller p1 σ) fun _ => ((f_X5_heldBy p1 (σ 0)).bind fun r1 => ((f_X5_priceOf r1 (σ 0)).bind fun r2 => ((f_X5_coinsOf p1 (σ 0)).bind fun r3 => (f_X12_daysUntilEviction_33 r2 p1 σ FU 1 r3)))))
set_option maxRecDepth 100000 in
def f_X12_balanceAfter_56 (x1 : Int32) (x2 : Int32) (σ : SM) : Nat → Int32 → Int32 → Int32 → Option (Nat ⊕ (Int32))
  | 0, _, _, _ => none
  | n + 1, x5, x4, x3 => (if x2 < x5 then (some (Sum.inr x4)) else ((f_X5_wageOf x1 (σ 0)).bind fun r7 => (lt ((x4 + r7)) fun i8 => (if x3 ≤ i8 then (lt ((i8 - x3)) fun i10 => (f_X12_balanceAfter_56 x1 x2 σ n (x5 + 1) i10 x3)) else (lt ((i8 - 0)) fun i11 => (f_X12_balanceAfter_56 x1 x2 σ n (x5 + 1) i11 0))))))
set_option maxRecDepth 100000 in
def f_X12_balanceAfter (p1 : Int32) (p2 : Int32) (σ : SM) : Option (Nat ⊕ (Int32)) := (oX (f_X12_requireSeller p1 σ) fun _ => (if p2 < 0 then (some (Sum.inl 1)) else (if p2 ≤ 400 then ((f_X5_heldBy p1 (σ 0)).bind fun r3 => ((f_X5_priceOf r3 (σ 0)).bind fun r4 => ((f_X5_coinsOf p1 (σ 0)).bind fun r5 => (f_X12_balanceAfter_56 p1 p2 σ FU 1 r5 r4)))) else (some (Sum.inl 1)))))
set_option maxRecDepth 100000 in
def f_X12_rentPaid  (σ : SM) : Option (Int32) := (some ((σ 0).1 0 3))
set_option maxRecDepth 100000 in
def f_X12_evictionCount  (σ : SM) : Option (Int32) := (some ((σ 0).1 0 4))
set_option maxRecDepth 100000 in
def f_X12_swapCount  (σ : SM) : Option (Int32) := (some ((σ 0).1 0 5))
set_option maxRecDepth 100000 in
def f_X12_relocationCount  (σ : SM) : Option (Int32) := (some ((σ 0).1 0 6))
set_option maxRecDepth 100000 in
def f_X12_meanRank_6 (σ : SM) : Nat → Int32 → Int32 → Int32 → Option (Int32 × Int32)
  | 0, _, _, _ => none
  | n + 1, x3, x2, x1 => (if ((σ 0).1 0 0) ≤ x3 then (some (x1, x2)) else ((f_X5_heldBy x3 (σ 0)).bind fun r2 => ((f_X5_rankIn x3 r2 (σ 0)).bind fun r3 => (if r3 = (-1) then (f_X12_meanRank_6 σ n (x3 + 1) x2 x1) else (lt ((x1 + r3)) fun i5 => (f_X12_meanRank_6 σ n (x3 + 1) (x2 + 1) i5))))))
set_option maxRecDepth 100000 in
def f_X12_meanRank  (σ : SM) : Option (UInt64) := (o2 (f_X12_meanRank_6 σ FU 0 0 0) fun i6 i7 => (if i7 = 0 then (some (FP.dconst0)) else (if nn64 (FP.ddiv (FP.i2d i6) (FP.i2d i7)) = true then (some (FP.ddiv (FP.i2d i6) (FP.i2d i7))) else none)))
set_option maxRecDepth 100000 in
def f_X12_placedFraction  (σ : SM) : Option (UInt32) := (lt (((σ 0).1 0 0)) fun i1 => (if i1 = 0 then (some (FP.fconst0)) else ((f_X5_housedSellers (σ 0)).bind fun r3 => (if nn32 (FP.fdiv (FP.i2f r3) (FP.i2f i1)) = true then (some (FP.fdiv (FP.i2f r3) (FP.i2f i1))) else none))))
set_option maxRecDepth 100000 in
def f_X12_ledgerDifference_4 (σ : SM) : Nat → Int32 → Int32 → Option (Int32)
  | 0, _, _ => none
  | n + 1, x2, x1 => (if ((σ 0).1 0 0) ≤ x2 then (some x1) else ((f_X5_coinsOf x2 (σ 0)).bind fun r2 => (lt ((x1 + r2)) fun i3 => (f_X12_ledgerDifference_4 σ n (x2 + 1) i3))))
set_option maxRecDepth 100000 in
def f_X12_ledgerDifference  (σ : SM) : Option (Int32) := ((f_X12_ledgerDifference_4 σ FU 0 0).bind fun i4 => (some (((i4 - ((σ 0).1 0 7)) - ((σ 0).1 0 8)) + ((σ 0).1 0 3))))
set_option maxRecDepth 100000 in
def f_X12_assign (p1 : Int32) (p2 : Int32) (σ : SM) : Option (Nat ⊕ (Int32 × SM)) := (oX (f_X12_requireSeller p1 σ) fun _ => (oX (f_X12_requireStall p2 σ) fun _ => ((f_X5_mayMoveInto p1 p2 (σ 0)).bind fun r1 => (if r1 = 0 then (some (Sum.inl 0)) else ((f_X4_record σ).bind fun σ3 => ((f_X5_heldBy p1 (σ3 0)).bind fun r4 => ((f_X5_seat p1 p2 (σ3 0)).bind fun m5 => (lt (us σ3 0 m5) fun σ6 => (some (Sum.inr (r4, σ6)))))))))))
set_option maxRecDepth 100000 in
def f_X12_vacate (p1 : Int32) (σ : SM) : Option (Nat ⊕ (Int32 × SM)) := (oX (f_X12_requireSeller p1 σ) fun _ => ((f_X5_heldBy p1 (σ 0)).bind fun r1 => (if r1 = (-1) then (some (Sum.inl 0)) else ((f_X4_record σ).bind fun σ3 => ((f_X5_seat p1 (-1) (σ3 0)).bind fun m4 => (lt (us σ3 0 m4) fun σ5 => (some (Sum.inr (r1, σ5)))))))))
set_option maxRecDepth 100000 in
def f_X12_swap (p1 : Int32) (p2 : Int32) (σ : SM) : Option (Nat ⊕ (Int32 × SM)) := (oX (f_X12_requireSeller p1 σ) fun _ => (oX (f_X12_requireSeller p2 σ) fun _ => ((f_X3_bothGain p1 p2 (σ 0)).bind fun r1 => (if r1 = 0 then (some (Sum.inl 0)) else ((f_X4_record σ).bind fun σ3 => ((f_X5_exchange p1 p2 (σ3 0)).bind fun m4 => (lt (us σ3 0 m4) fun σ5 => ((f_X5_heldBy p1 (σ5 0)).bind fun r6 => (some (Sum.inr (r6, σ5)))))))))))
set_option maxRecDepth 100000 in
def f_X12_reallocate  (σ : SM) : Option (Int32 × SM) := ((f_X4_record σ).bind fun σ1 => ((f_X1_decide (σ1 0) (σ1 17)).bind fun m2 => (lt (us σ1 17 m2) fun σ3 => (o2 (f_X1_applyTo (σ3 0) (σ3 17)) fun r4 m5 => (lt (us σ3 0 m5) fun σ6 => (some (r4, σ6)))))))
set_option maxRecDepth 100000 in
def f_X12_setPriority (p1 : Int32) (p2 : Int32) (σ : SM) : Option (Nat ⊕ (Int32 × SM)) := (oX (f_X12_requireSeller p1 σ) fun _ => (if p2 < 0 then (some (Sum.inl 1)) else (if p2 < ((σ 0).1 0 0) then ((f_X4_record σ).bind fun σ3 => ((f_X5_turnOf p1 (σ3 0)).bind fun r4 => ((f_X5_moveTurn p1 p2 (σ3 0)).bind fun m5 => (lt (us σ3 0 m5) fun σ6 => (some (Sum.inr (r4, σ6))))))) else (some (Sum.inl 1)))))
set_option maxRecDepth 100000 in
def f_X12_preferFirst (p1 : Int32) (p2 : Int32) (σ : SM) : Option (Nat ⊕ (Int32 × SM)) := (oX (f_X12_requireSeller p1 σ) fun _ => (oX (f_X12_requireStall p2 σ) fun _ => ((f_X4_record σ).bind fun σ1 => ((f_X5_wishFirst p1 p2 (σ1 0)).bind fun m2 => (lt (us σ1 0 m2) fun σ3 => ((f_X5_wishesOf p1 (σ3 0)).bind fun r4 => (some (Sum.inr (r4, σ3)))))))))
set_option maxRecDepth 100000 in
def f_X12_removePreference (p1 : Int32) (p2 : Int32) (σ : SM) : Option (Nat ⊕ (Int32 × SM)) := (oX (f_X12_requireSeller p1 σ) fun _ => (oX (f_X12_requireStall p2 σ) fun _ => ((f_X5_rankIn p1 p2 (σ 0)).bind fun r1 => (if r1 = (-1) then (some (Sum.inl 0)) else ((f_X4_record σ).bind fun σ3 => ((f_X5_dropWish p1 p2 (σ3 0)).bind fun m4 => (lt (us σ3 0 m4) fun σ5 => ((f_X5_wishesOf p1 (σ5 0)).bind fun r6 => (some (Sum.inr (r6, σ5)))))))))))
set_option maxRecDepth 100000 in
def f_X12_setRent (p1 : Int32) (p2 : Int32) (σ : SM) : Option (Nat ⊕ (Int32 × SM)) := (oX (f_X12_requireStall p1 σ) fun _ => (if p2 < 0 then (some (Sum.inl 1)) else (if p2 ≤ 99 then ((f_X4_record σ).bind fun σ3 => ((f_X5_priceOf p1 (σ3 0)).bind fun r4 => ((f_X5_price p1 p2 (σ3 0)).bind fun m5 => (lt (us σ3 0 m5) fun σ6 => (some (Sum.inr (r4, σ6))))))) else (some (Sum.inl 1)))))
set_option maxRecDepth 100000 in
def f_X12_deposit (p1 : Int32) (p2 : Int32) (σ : SM) : Option (Nat ⊕ (Int32 × SM)) := (oX (f_X12_requireSeller p1 σ) fun _ => (if p2 < 1 then (some (Sum.inl 1)) else (if p2 ≤ 999 then ((f_X4_record σ).bind fun σ3 => ((f_X5_receive p1 p2 (σ3 0)).bind fun m4 => (lt (us σ3 0 m4) fun σ5 => ((f_X5_coinsOf p1 (σ5 0)).bind fun r6 => (some (Sum.inr (r6, σ5))))))) else (some (Sum.inl 1)))))
set_option maxRecDepth 100000 in
def f_X12_advanceDays (p1 : Int32) (σ : SM) : Option (Nat ⊕ (Int32 × SM)) := (if p1 < 1 then (some (Sum.inl 1)) else (if p1 ≤ 99 then ((f_X5_mayPass p1 (σ 0)).bind fun r3 => (if r3 = 0 then (some (Sum.inl 0)) else ((f_X4_record σ).bind fun σ5 => (lt (((σ5 0).1 0 4)) fun i6 => ((f_X5_pass p1 (σ5 0)).bind fun m7 => (lt (us σ5 0 m7) fun σ8 => (some (Sum.inr ((((σ8 0).1 0 4) - i6), σ8))))))))) else (some (Sum.inl 1))))
set_option maxRecDepth 100000 in
def f_X12_writeAssignment_10  : Nat → Int32 → SM → Option (Int32 × SM)
  | 0, _, _ => none
  | n + 1, x1, σ => (if ((σ 0).1 0 0) ≤ x1 then (some (((σ 14).1 0 1), σ)) else (if x1 ≤ 0 then ((f_X5_nameOfSeller x1 (σ 0)).bind fun r5 => ((f_X2_addName r5 (σ 14)).bind fun m6 => (lt (us σ 14 m6) fun σ7 => ((f_X2_add 58 (σ7 14)).bind fun m8 => (lt (us σ7 14 m8) fun σ9 => ((f_X5_heldBy x1 (σ9 0)).bind fun r10 => (if r10 = (-1) then ((f_X2_add 45 (σ9 14)).bind fun m15 => (lt (us σ9 14 m15) fun σ16 => (f_X12_writeAssignment_10  n (x1 + 1) σ16))) else ((f_X5_nameOfStall r10 (σ9 0)).bind fun r12 => ((f_X2_addName r12 (σ9 14)).bind fun m13 => (lt (us σ9 14 m13) fun σ14 => (f_X12_writeAssignment_10  n (x1 + 1) σ14))))))))))) else ((f_X2_add 32 (σ 14)).bind fun m17 => (lt (us σ 14 m17) fun σ18 => ((f_X5_nameOfSeller x1 (σ18 0)).bind fun r19 => ((f_X2_addName r19 (σ18 14)).bind fun m20 => (lt (us σ18 14 m20) fun σ21 => ((f_X2_add 58 (σ21 14)).bind fun m22 => (lt (us σ21 14 m22) fun σ23 => ((f_X5_heldBy x1 (σ23 0)).bind fun r24 => (if r24 = (-1) then ((f_X2_add 45 (σ23 14)).bind fun m29 => (lt (us σ23 14 m29) fun σ30 => (f_X12_writeAssignment_10  n (x1 + 1) σ30))) else ((f_X5_nameOfStall r24 (σ23 0)).bind fun r26 => ((f_X2_addName r26 (σ23 14)).bind fun m27 => (lt (us σ23 14 m27) fun σ28 => (f_X12_writeAssignment_10  n (x1 + 1) σ28)))))))))))))))
set_option maxRecDepth 100000 in
def f_X12_writeAssignment  (σ : SM) : Option (Int32 × SM) := ((f_X2_cut 0 (σ 14)).bind fun m1 => (lt (us σ 14 m1) fun σ2 => (f_X12_writeAssignment_10  FU 0 σ2)))
set_option maxRecDepth 100000 in
def f_X12_writePreferences_15 (x1 : Int32) : Nat → Int32 → SM → Option (Nat ⊕ (Int32 × SM))
  | 0, _, _ => none
  | n + 1, x2, σ => ((f_X5_wishesOf x1 (σ 0)).bind fun r3 => (if r3 ≤ x2 then (some (Sum.inr (((σ 14).1 0 1), σ))) else (if x2 ≤ 0 then ((f_X5_wish x1 x2 (σ 0)).bind fun r6 => ((f_X5_nameOfStall r6 (σ 0)).bind fun r7 => ((f_X2_addName r7 (σ 14)).bind fun m8 => (lt (us σ 14 m8) fun σ9 => (f_X12_writePreferences_15 x1 n (x2 + 1) σ9))))) else ((f_X2_add 62 (σ 14)).bind fun m10 => (lt (us σ 14 m10) fun σ11 => ((f_X5_wish x1 x2 (σ11 0)).bind fun r12 => ((f_X5_nameOfStall r12 (σ11 0)).bind fun r13 => ((f_X2_addName r13 (σ11 14)).bind fun m14 => (lt (us σ11 14 m14) fun σ15 => (f_X12_writePreferences_15 x1 n (x2 + 1) σ15))))))))))
set_option maxRecDepth 100000 in
def f_X12_writePreferences (p1 : Int32) (σ : SM) : Option (Nat ⊕ (Int32 × SM)) := (oX (f_X12_requireSeller p1 σ) fun _ => ((f_X2_cut 0 (σ 14)).bind fun m1 => (lt (us σ 14 m1) fun σ2 => (f_X12_writePreferences_15 p1 FU 0 σ2))))
set_option maxRecDepth 100000 in
def f_X12_outputByte (p1 : Int32) (σ : SM) : Option (Int32) := ((f_X2_byteAt p1 (σ 14)).bind fun r1 => (some r1))
set_option maxRecDepth 100000 in
def f_X12_undo  (σ : SM) : Option (Int32 × SM) := (o2 (f_X4_takeBack σ) fun r1 σ2 => (some (r1, σ2)))
set_option maxRecDepth 100000 in
def f_X12_undoCount  (σ : SM) : Option (Int32) := (some ((σ 16).1 0 2))
set_option maxRecDepth 100000 in
def f_X12_save  (σ : SM) : Option (Int32 × SM) := ((f_X5_copy (σ 0) (σ 2)).bind fun m1 => (lt (us σ 2 m1) fun σ2 => (lt (us σ2 19 (wI (σ2 19) 0 6 1)) fun σ3 => (some (((σ3 0).1 0 2), σ3)))))
set_option maxRecDepth 100000 in
def f_X12_restore  (σ : SM) : Option (Nat ⊕ (Int32 × SM)) := (if ((σ 19).1 0 6) = 0 then (some (Sum.inl 0)) else ((f_X5_copy (σ 2) (σ 0)).bind fun m2 => (lt (us σ 0 m2) fun σ3 => ((f_X4_clear σ3).bind fun σ4 => (some (Sum.inr (((σ4 0).1 0 2), σ4)))))))
set_option maxRecDepth 100000 in
def f_X13_puts_2 (w1 : Nat) : Nat → Int32 → OM → Option (OM)
  | 0, _, _ => none
  | n + 1, x2, ρ => ((f_J0_length_8abf5 w1).bind fun r1 => (if r1 ≤ x2 then (some ρ) else ((f_J0_charAt_5068e w1 x2).bind fun r3 => (if inb (ρ.1 0 7) 700 = true then (lt (wI ρ 5 (Int32.toNatClampNeg (ρ.1 0 7)) r3) fun ρ4 => (lt (wI ρ4 0 7 ((ρ4.1 0 7) + 1)) fun ρ5 => (f_X13_puts_2 w1 n (x2 + 1) ρ5))) else none))))
set_option maxRecDepth 100000 in
def f_X13_puts (w1 : Nat) (ρ : OM) : Option (OM) := (f_X13_puts_2 w1 FU 0 ρ)
set_option maxRecDepth 100000 in
def f_X13_isBetween (p0 : Int32) (p1 : Int32) (p2 : Int32)  : Option (Int32) := (if p0 < p1 then (some 0) else (if p2 < p0 then (some 0) else (some 1)))
set_option maxRecDepth 100000 in
def f_X13_isLetter (p1 : Int32) (ρ : OM) : Option (Int32) := (if (ρ.1 0 7) ≤ p1 then (some 0) else (if inb p1 700 = true then ((f_X13_isBetween (ρ.1 5 (Int32.toNatClampNeg p1)) 97 122).bind fun r2 => (if r2 = 0 then (some 0) else (some 1))) else none))
set_option maxRecDepth 100000 in
def f_X13_isDigit (p1 : Int32) (ρ : OM) : Option (Int32) := (if (ρ.1 0 7) ≤ p1 then (some 0) else (if inb p1 700 = true then ((f_X13_isBetween (ρ.1 5 (Int32.toNatClampNeg p1)) 48 57).bind fun r2 => (if r2 = 0 then (some 0) else (some 1))) else none))
set_option maxRecDepth 100000 in
def f_X13_nextToken_8  : Nat → OM → Option (OM)
  | 0, _ => none
  | n + 1, ρ => (if (ρ.1 0 7) ≤ (ρ.1 0 21) then (some ρ) else (if inb (ρ.1 0 21) 700 = true then (if (ρ.1 5 (Int32.toNatClampNeg (ρ.1 0 21))) = 32 then (lt (wI ρ 0 21 ((ρ.1 0 21) + 1)) fun ρ4 => (f_X13_nextToken_8  n ρ4)) else (some ρ)) else none))
set_option maxRecDepth 100000 in
def f_X13_nextToken_134  : Nat → OM → Option (OM)
  | 0, _ => none
  | n + 1, ρ => ((f_X13_isDigit (ρ.1 0 22) ρ).bind fun r16 => (if r16 = 0 then (some ρ) else (if inb (ρ.1 0 22) 700 = true then (lt (wI ρ 0 23 (((10 * (ρ.1 0 23)) + (ρ.1 5 (Int32.toNatClampNeg (ρ.1 0 22)))) - 48)) fun ρ18 => (if (ρ18.1 0 23) ≤ 100000 then (lt (wI ρ18 0 23 (ρ18.1 0 23)) fun ρ20 => (lt (wI ρ20 0 22 ((ρ20.1 0 22) + 1)) fun ρ21 => (f_X13_nextToken_134  n ρ21))) else (lt (wI ρ18 0 23 100000) fun ρ22 => (lt (wI ρ22 0 22 ((ρ22.1 0 22) + 1)) fun ρ23 => (f_X13_nextToken_134  n ρ23))))) else none)))
set_option maxRecDepth 100000 in
def f_X13_nextToken_89  : Nat → OM → Option (OM)
  | 0, _ => none
  | n + 1, ρ => ((f_X13_isLetter (ρ.1 0 22) ρ).bind fun r25 => (if r25 = 0 then (some ρ) else (lt (wI ρ 0 22 ((ρ.1 0 22) + 1)) fun ρ27 => (f_X13_nextToken_89  n ρ27))))
set_option maxRecDepth 100000 in
def f_X13_nextToken  (ρ : OM) : Option (OM) := (lt (wI ρ 0 21 (ρ.1 0 22)) fun ρ1 => ((f_X13_nextToken_8  FU ρ1).bind fun ρ5 => (lt (wI ρ5 0 22 (ρ5.1 0 21)) fun ρ6 => (if (ρ6.1 0 21) = (ρ6.1 0 7) then (lt (wI ρ6 0 20 0) fun ρ28 => (some ρ28)) else ((f_X13_isLetter (ρ6.1 0 21) ρ6).bind fun r8 => (if r8 = 0 then ((f_X13_isDigit (ρ6.1 0 21) ρ6).bind fun r10 => (if r10 = 0 then (lt (wI ρ6 0 20 3) fun ρ12 => (lt (wI ρ12 0 22 ((ρ12.1 0 22) + 1)) fun ρ13 => (some ρ13))) else (lt (wI ρ6 0 20 2) fun ρ14 => (lt (wI ρ14 0 23 0) fun ρ15 => (f_X13_nextToken_134  FU ρ15))))) else (lt (wI ρ6 0 20 1) fun ρ24 => (f_X13_nextToken_89  FU ρ24))))))))
set_option maxRecDepth 100000 in
def f_X13_starts  (ρ : OM) : Option (OM) := (lt (wI ρ 0 22 0) fun ρ1 => (lt (wI ρ1 0 24 0) fun ρ2 => (lt (wI ρ2 0 8 0) fun ρ3 => (lt (wI ρ3 0 9 (-1)) fun ρ4 => ((f_X13_nextToken ρ4).bind fun ρ5 => (some ρ5))))))
set_option maxRecDepth 100000 in
def f_X13_isWord_39 (w1 : Nat) (ρ : OM) : Nat → Int32 → Int32 → Option (Int32)
  | 0, _, _ => none
  | n + 1, x3, x2 => ((f_J0_length_8abf5 w1).bind fun r2 => (if r2 ≤ x3 then (if bz x2 = true then some x2 else none) else (if x2 = 0 then (if bz x2 = true then some x2 else none) else (if inb ((ρ.1 0 21) + x3) 700 = true then ((f_J0_charAt_5068e w1 x3).bind fun r5 => (if (ρ.1 5 (Int32.toNatClampNeg ((ρ.1 0 21) + x3))) = r5 then (f_X13_isWord_39 w1 ρ n (x3 + 1) 1) else (f_X13_isWord_39 w1 ρ n (x3 + 1) 0))) else none))))
set_option maxRecDepth 100000 in
def f_X13_isWord (w1 : Nat) (ρ : OM) : Option (Int32) := (if (ρ.1 0 24) = 0 then (if (ρ.1 0 20) = 1 then ((f_J0_length_8abf5 w1).bind fun r8 => (if ((ρ.1 0 22) - (ρ.1 0 21)) = r8 then (f_X13_isWord_39 w1 ρ FU 0 1) else (f_X13_isWord_39 w1 ρ FU 0 0))) else (f_X13_isWord_39 w1 ρ FU 0 0)) else (f_X13_isWord_39 w1 ρ FU 0 0))
set_option maxRecDepth 100000 in
def f_X13_wrong (p1 : Int32) (ρ : OM) : Option (OM) := (if (ρ.1 0 24) = 0 then (lt (wI ρ 0 24 1) fun ρ2 => (lt (wI ρ2 0 8 p1) fun ρ3 => (lt (wI ρ3 0 9 (ρ3.1 0 21)) fun ρ4 => (some ρ4)))) else (some ρ))
set_option maxRecDepth 100000 in
def f_X13_goesOn  (ρ : OM) : Option (OM) := (if (ρ.1 0 24) = 0 then ((f_X13_nextToken ρ).bind fun ρ2 => (some ρ2)) else (some ρ))
set_option maxRecDepth 100000 in
def f_X13_wantsWord (w1 : Nat) (ρ : OM) : Option (OM) := ((f_X13_isWord w1 ρ).bind fun r1 => (if r1 = 0 then ((f_X13_wrong 1 ρ).bind fun ρ4 => ((f_X13_goesOn ρ4).bind fun ρ5 => (some ρ5))) else ((f_X13_goesOn ρ).bind fun ρ3 => (some ρ3))))
set_option maxRecDepth 100000 in
def f_X13_wantsSemicolon  (ρ : OM) : Option (OM) := (if (ρ.1 0 24) = 0 then (if (ρ.1 0 20) = 3 then (if inb (ρ.1 0 21) 700 = true then (if (ρ.1 5 (Int32.toNatClampNeg (ρ.1 0 21))) = 59 then ((f_X13_goesOn ρ).bind fun ρ8 => (some ρ8)) else ((f_X13_wrong 1 ρ).bind fun ρ9 => ((f_X13_goesOn ρ9).bind fun ρ10 => (some ρ10)))) else none) else ((f_X13_wrong 1 ρ).bind fun ρ5 => ((f_X13_goesOn ρ5).bind fun ρ6 => (some ρ6)))) else ((f_X13_wrong 1 ρ).bind fun ρ2 => ((f_X13_goesOn ρ2).bind fun ρ3 => (some ρ3))))
set_option maxRecDepth 100000 in
def f_X13_begins (p1 : Int32) (ρ : OM) : Option (Int32 × OM) := (if p1 = 8 then ((f_X13_wrong 5 ρ).bind fun ρ3 => (some (0, ρ3))) else ((f_X13_nextToken ρ).bind fun ρ2 => (some (1, ρ2))))
set_option maxRecDepth 100000 in
def f_X13_letterSum_5 (x2 : Int32) (ρ : OM) : Nat → Int32 → Int32 → Option (Int32)
  | 0, _, _ => none
  | n + 1, x4, x3 => (if x2 ≤ x4 then (some x3) else (if inb x4 700 = true then (lt ((((27 * x3) + (ρ.1 5 (Int32.toNatClampNeg x4))) - 96)) fun i2 => (f_X13_letterSum_5 x2 ρ n (x4 + 1) i2)) else none))
set_option maxRecDepth 100000 in
def f_X13_letterSum (p1 : Int32) (p2 : Int32) (ρ : OM) : Option (Int32) := (f_X13_letterSum_5 p2 ρ FU p1 0)
set_option maxRecDepth 100000 in
def f_X13_seesName  (ρ : OM) : Option (Int32 × OM) := (if (ρ.1 0 24) = 0 then (if (ρ.1 0 20) = 1 then (if ((ρ.1 0 22) - (ρ.1 0 21)) ≤ 6 then ((f_X13_letterSum (ρ.1 0 21) (ρ.1 0 22) ρ).bind fun r4 => (some (r4, ρ))) else ((f_X13_wrong 3 ρ).bind fun ρ5 => (some (0, ρ5)))) else ((f_X13_wrong 1 ρ).bind fun ρ6 => (some (0, ρ6)))) else (some (0, ρ)))
set_option maxRecDepth 100000 in
def f_X13_stallNamed_2 (x1 : Int32) (ρ : OM) : Nat → Int32 → Option (Int32)
  | 0, _ => none
  | n + 1, x2 => (if inb 1 137 = true then (if (ρ.1 1 (Int32.toNatClampNeg 1)) ≤ x2 then (some (-1)) else (if inb (9 + (2 * x2)) 137 = true then (if (ρ.1 1 (Int32.toNatClampNeg (9 + (2 * x2)))) = x1 then (some x2) else (f_X13_stallNamed_2 x1 ρ n (x2 + 1))) else none)) else none)
set_option maxRecDepth 100000 in
def f_X13_stallNamed (p1 : Int32) (ρ : OM) : Option (Int32) := (f_X13_stallNamed_2 p1 ρ FU 0)
set_option maxRecDepth 100000 in
def f_X13_wantsNumber (p1 : Int32) (p2 : Int32) (ρ : OM) : Option (Int32 × OM) := (if (ρ.1 0 24) = 0 then (if (ρ.1 0 20) = 2 then ((f_X13_isBetween (ρ.1 0 23) p1 p2).bind fun r3 => (if r3 = 0 then ((f_X13_wrong 2 ρ).bind fun ρ7 => (some (p1, ρ7))) else (lt ((ρ.1 0 23)) fun i5 => ((f_X13_nextToken ρ).bind fun ρ6 => (some (i5, ρ6)))))) else ((f_X13_wrong 1 ρ).bind fun ρ8 => (some (p1, ρ8)))) else (some (p1, ρ)))
set_option maxRecDepth 100000 in
def f_X13_readsStall  (ρ : OM) : Option (OM) := (if inb 1 137 = true then (o2 (f_X13_begins (ρ.1 1 (Int32.toNatClampNeg 1)) ρ) fun r1 ρ2 => (if r1 = 0 then (some ρ2) else ((f_X13_isWord 26 ρ2).bind fun r4 => (o2 (f_X13_seesName ρ2) fun r5 ρ6 => (if (ρ6.1 0 24) = 0 then (if r4 = 0 then ((f_X13_stallNamed r5 ρ6).bind fun r26 => (if r26 = (-1) then ((f_X13_goesOn ρ6).bind fun ρ28 => (o2 (f_X13_wantsNumber 0 99 ρ28) fun r29 ρ30 => ((f_X13_wantsSemicolon ρ30).bind fun ρ31 => (if (ρ31.1 0 24) = 0 then (if inb 1 137 = true then (if inb (9 + (2 * (ρ31.1 1 (Int32.toNatClampNeg 1)))) 137 = true then (lt (wI ρ31 1 (Int32.toNatClampNeg (9 + (2 * (ρ31.1 1 (Int32.toNatClampNeg 1))))) r5) fun ρ33 => (if inb 1 137 = true then (if inb ((9 + (2 * (ρ33.1 1 (Int32.toNatClampNeg 1)))) + 1) 137 = true then (lt (wI ρ33 1 (Int32.toNatClampNeg ((9 + (2 * (ρ33.1 1 (Int32.toNatClampNeg 1)))) + 1)) r29) fun ρ34 => (if inb 1 137 = true then (if inb 1 137 = true then (lt (wI ρ34 1 (Int32.toNatClampNeg 1) ((ρ34.1 1 (Int32.toNatClampNeg 1)) + 1)) fun ρ35 => (some ρ35)) else none) else none)) else none) else none)) else none) else none) else (some ρ31))))) else ((f_X13_wrong 3 ρ6).bind fun ρ36 => ((f_X13_goesOn ρ36).bind fun ρ37 => (o2 (f_X13_wantsNumber 0 99 ρ37) fun r38 ρ39 => ((f_X13_wantsSemicolon ρ39).bind fun ρ40 => (if (ρ40.1 0 24) = 0 then (if inb 1 137 = true then (if inb (9 + (2 * (ρ40.1 1 (Int32.toNatClampNeg 1)))) 137 = true then (lt (wI ρ40 1 (Int32.toNatClampNeg (9 + (2 * (ρ40.1 1 (Int32.toNatClampNeg 1))))) r5) fun ρ42 => (if inb 1 137 = true then (if inb ((9 + (2 * (ρ42.1 1 (Int32.toNatClampNeg 1)))) + 1) 137 = true then (lt (wI ρ42 1 (Int32.toNatClampNeg ((9 + (2 * (ρ42.1 1 (Int32.toNatClampNeg 1)))) + 1)) r38) fun ρ43 => (if inb 1 137 = true then (if inb 1 137 = true then (lt (wI ρ43 1 (Int32.toNatClampNeg 1) ((ρ43.1 1 (Int32.toNatClampNeg 1)) + 1)) fun ρ44 => (some ρ44)) else none) else none)) else none) else none)) else none) else none) else (some ρ40)))))))) else ((f_X13_wrong 3 ρ6).bind fun ρ17 => ((f_X13_goesOn ρ17).bind fun ρ18 => (o2 (f_X13_wantsNumber 0 99 ρ18) fun r19 ρ20 => ((f_X13_wantsSemicolon ρ20).bind fun ρ21 => (if (ρ21.1 0 24) = 0 then (if inb 1 137 = true then (if inb (9 + (2 * (ρ21.1 1 (Int32.toNatClampNeg 1)))) 137 = true then (lt (wI ρ21 1 (Int32.toNatClampNeg (9 + (2 * (ρ21.1 1 (Int32.toNatClampNeg 1))))) r5) fun ρ23 => (if inb 1 137 = true then (if inb ((9 + (2 * (ρ23.1 1 (Int32.toNatClampNeg 1)))) + 1) 137 = true then (lt (wI ρ23 1 (Int32.toNatClampNeg ((9 + (2 * (ρ23.1 1 (Int32.toNatClampNeg 1)))) + 1)) r19) fun ρ24 => (if inb 1 137 = true then (if inb 1 137 = true then (lt (wI ρ24 1 (Int32.toNatClampNeg 1) ((ρ24.1 1 (Int32.toNatClampNeg 1)) + 1)) fun ρ25 => (some ρ25)) else none) else none)) else none) else none)) else none) else none) else (some ρ21))))))) else ((f_X13_goesOn ρ6).bind fun ρ8 => (o2 (f_X13_wantsNumber 0 99 ρ8) fun r9 ρ10 => ((f_X13_wantsSemicolon ρ10).bind fun ρ11 => (if (ρ11.1 0 24) = 0 then (if inb 1 137 = true then (if inb (9 + (2 * (ρ11.1 1 (Int32.toNatClampNeg 1)))) 137 = true then (lt (wI ρ11 1 (Int32.toNatClampNeg (9 + (2 * (ρ11.1 1 (Int32.toNatClampNeg 1))))) r5) fun ρ13 => (if inb 1 137 = true then (if inb ((9 + (2 * (ρ13.1 1 (Int32.toNatClampNeg 1)))) + 1) 137 = true then (lt (wI ρ13 1 (Int32.toNatClampNeg ((9 + (2 * (ρ13.1 1 (Int32.toNatClampNeg 1)))) + 1)) r9) fun ρ14 => (if inb 1 137 = true then (if inb 1 137 = true then (lt (wI ρ14 1 (Int32.toNatClampNeg 1) ((ρ14.1 1 (Int32.toNatClampNeg 1)) + 1)) fun ρ15 => (some ρ15)) else none) else none)) else none) else none)) else none) else none) else (some ρ11)))))))))) else none)
set_option maxRecDepth 100000 in
def f_X13_of (p1 : Int32) (p2 : Int32) (ρ : OM) : Option (Int32) := (if inb ((25 + (13 * p1)) + p2) 137 = true then (some (ρ.1 1 (Int32.toNatClampNeg ((25 + (13 * p1)) + p2)))) else none)
set_option maxRecDepth 100000 in
def f_X13_sellerNamed_2 (x1 : Int32) (ρ : OM) : Nat → Int32 → Option (Int32)
  | 0, _ => none
  | n + 1, x2 => (if inb 0 137 = true then (if (ρ.1 1 (Int32.toNatClampNeg 0)) ≤ x2 then (some (-1)) else ((f_X13_of x2 0 ρ).bind fun r2 => (if r2 = x1 then (some x2) else (f_X13_sellerNamed_2 x1 ρ n (x2 + 1))))) else none)
set_option maxRecDepth 100000 in
def f_X13_sellerNamed (p1 : Int32) (ρ : OM) : Option (Int32) := (f_X13_sellerNamed_2 p1 ρ FU 0)
set_option maxRecDepth 100000 in
def f_X13_sets (p1 : Int32) (p2 : Int32) (p3 : Int32) (ρ : OM) : Option (OM) := (if inb ((25 + (13 * p1)) + p2) 137 = true then (lt (wI ρ 1 (Int32.toNatClampNeg ((25 + (13 * p1)) + p2)) p3) fun ρ1 => (some ρ1)) else none)
set_option maxRecDepth 100000 in
def f_X13_seesStall  (ρ : OM) : Option (Int32 × OM) := ((f_X13_isWord 26 ρ).bind fun r1 => (if r1 = 0 then (o2 (f_X13_seesName ρ) fun r3 ρ4 => ((f_X13_stallNamed r3 ρ4).bind fun r5 => (if (ρ4.1 0 24) = 0 then (if r5 = (-1) then ((f_X13_wrong 3 ρ4).bind fun ρ8 => (some (r5, ρ8))) else (some (r5, ρ4))) else (some (r5, ρ4))))) else ((f_X13_wrong 1 ρ).bind fun ρ9 => (o2 (f_X13_seesName ρ9) fun r10 ρ11 => ((f_X13_stallNamed r10 ρ11).bind fun r12 => (if (ρ11.1 0 24) = 0 then (if r12 = (-1) then ((f_X13_wrong 3 ρ11).bind fun ρ15 => (some (r12, ρ15))) else (some (r12, ρ11))) else (some (r12, ρ11))))))))
set_option maxRecDepth 100000 in
def f_X13_rank_2 (x1 : Int32) (x2 : Int32) (ρ : OM) : Nat → Int32 → Option (Int32)
  | 0, _ => none
  | n + 1, x3 => ((f_X13_of x1 4 ρ).bind fun r1 => (if r1 ≤ x3 then (some (-1)) else ((f_X13_of x1 (5 + x3) ρ).bind fun r3 => (if r3 = x2 then (some x3) else (f_X13_rank_2 x1 x2 ρ n (x3 + 1))))))
set_option maxRecDepth 100000 in
def f_X13_rank (p1 : Int32) (p2 : Int32) (ρ : OM) : Option (Int32) := (f_X13_rank_2 p1 p2 ρ FU 0)
set_option maxRecDepth 100000 in
def f_X13_readsList_0 (x1 : Int32) : Nat → OM → Option (OM)
  | 0, _ => none
  | n + 1, ρ => (if (ρ.1 0 24) = 0 then (if (ρ.1 0 20) = 1 then ((f_X13_isWord 26 ρ).bind fun r3 => (if r3 = 0 then (o2 (f_X13_seesStall ρ) fun r5 ρ6 => (if (ρ6.1 0 24) = 0 then ((f_X13_rank x1 r5 ρ6).bind fun r14 => (if r14 = (-1) then ((f_X13_goesOn ρ6).bind fun ρ16 => (if (ρ16.1 0 24) = 0 then ((f_X13_of x1 4 ρ16).bind fun r18 => ((f_X13_sets x1 (5 + r18) r5 ρ16).bind fun ρ19 => ((f_X13_of x1 4 ρ19).bind fun r20 => ((f_X13_sets x1 4 (r20 + 1) ρ19).bind fun ρ21 => (f_X13_readsList_0 x1 n ρ21))))) else (f_X13_readsList_0 x1 n ρ16))) else ((f_X13_wrong 4 ρ6).bind fun ρ22 => ((f_X13_goesOn ρ22).bind fun ρ23 => (if (ρ23.1 0 24) = 0 then ((f_X13_of x1 4 ρ23).bind fun r25 => ((f_X13_sets x1 (5 + r25) r5 ρ23).bind fun ρ26 => ((f_X13_of x1 4 ρ26).bind fun r27 => ((f_X13_sets x1 4 (r27 + 1) ρ26).bind fun ρ28 => (f_X13_readsList_0 x1 n ρ28))))) else (f_X13_readsList_0 x1 n ρ23)))))) else ((f_X13_goesOn ρ6).bind fun ρ8 => (if (ρ8.1 0 24) = 0 then ((f_X13_of x1 4 ρ8).bind fun r10 => ((f_X13_sets x1 (5 + r10) r5 ρ8).bind fun ρ11 => ((f_X13_of x1 4 ρ11).bind fun r12 => ((f_X13_sets x1 4 (r12 + 1) ρ11).bind fun ρ13 => (f_X13_readsList_0 x1 n ρ13))))) else (f_X13_readsList_0 x1 n ρ8))))) else (some ρ))) else (some ρ)) else (some ρ))
set_option maxRecDepth 100000 in
def f_X13_readsList (p1 : Int32) (ρ : OM) : Option (OM) := (f_X13_readsList_0 p1 FU ρ)
set_option maxRecDepth 100000 in
def f_X13_occupant_2 (x1 : Int32) (ρ : OM) : Nat → Int32 → Option (Int32)
  | 0, _ => none
  | n + 1, x2 => (if inb 0 137 = true then (if (ρ.1 1 (Int32.toNatClampNeg 0)) ≤ x2 then (some (-1)) else ((f_X13_of x2 3 ρ).bind fun r2 => (if r2 = x1 then (some x2) else (f_X13_occupant_2 x1 ρ n (x2 + 1))))) else none)
set_option maxRecDepth 100000 in
def f_X13_occupant (p1 : Int32) (ρ : OM) : Option (Int32) := (f_X13_occupant_2 p1 ρ FU 0)
set_option maxRecDepth 100000 in
def f_X13_readsPlace (p1 : Int32) (ρ : OM) : Option (OM) := ((f_X13_isWord 26 ρ).bind fun r1 => (if r1 = 0 then (some ρ) else ((f_X13_nextToken ρ).bind fun ρ3 => (o2 (f_X13_seesStall ρ3) fun r4 ρ5 => (if (ρ5.1 0 24) = 0 then ((f_X13_occupant r4 ρ5).bind fun r11 => (if r11 = (-1) then ((f_X13_goesOn ρ5).bind fun ρ13 => (if (ρ13.1 0 24) = 0 then ((f_X13_sets p1 3 r4 ρ13).bind fun ρ15 => (some ρ15)) else ((f_X13_sets p1 3 (-1) ρ13).bind fun ρ16 => (some ρ16)))) else ((f_X13_wrong 4 ρ5).bind fun ρ17 => ((f_X13_goesOn ρ17).bind fun ρ18 => (if (ρ18.1 0 24) = 0 then ((f_X13_sets p1 3 r4 ρ18).bind fun ρ20 => (some ρ20)) else ((f_X13_sets p1 3 (-1) ρ18).bind fun ρ21 => (some ρ21))))))) else ((f_X13_goesOn ρ5).bind fun ρ7 => (if (ρ7.1 0 24) = 0 then ((f_X13_sets p1 3 r4 ρ7).bind fun ρ9 => (some ρ9)) else ((f_X13_sets p1 3 (-1) ρ7).bind fun ρ10 => (some ρ10)))))))))
set_option maxRecDepth 100000 in
def f_X13_readsSeller  (ρ : OM) : Option (OM) := (if inb 0 137 = true then (o2 (f_X13_begins (ρ.1 1 (Int32.toNatClampNeg 0)) ρ) fun r1 ρ2 => (if r1 = 0 then (some ρ2) else (if inb 0 137 = true then (lt ((ρ2.1 1 (Int32.toNatClampNeg 0))) fun i4 => (o2 (f_X13_seesName ρ2) fun r5 ρ6 => (if (ρ6.1 0 24) = 0 then ((f_X13_sellerNamed r5 ρ6).bind fun r22 => (if r22 = (-1) then ((f_X13_goesOn ρ6).bind fun ρ24 => ((f_X13_sets i4 0 r5 ρ24).bind fun ρ25 => (o2 (f_X13_wantsNumber 0 9999 ρ25) fun r26 ρ27 => ((f_X13_sets i4 1 r26 ρ27).bind fun ρ28 => (o2 (f_X13_wantsNumber 0 99 ρ28) fun r29 ρ30 => ((f_X13_sets i4 2 r29 ρ30).bind fun ρ31 => ((f_X13_sets i4 3 (-1) ρ31).bind fun ρ32 => ((f_X13_readsList i4 ρ32).bind fun ρ33 => ((f_X13_readsPlace i4 ρ33).bind fun ρ34 => ((f_X13_wantsSemicolon ρ34).bind fun ρ35 => (if inb (129 + i4) 137 = true then (lt (wI ρ35 1 (Int32.toNatClampNeg (129 + i4)) i4) fun ρ36 => (if inb 0 137 = true then (if inb 0 137 = true then (lt (wI ρ36 1 (Int32.toNatClampNeg 0) ((ρ36.1 1 (Int32.toNatClampNeg 0)) + 1)) fun ρ37 => (some ρ37)) else none) else none)) else none))))))))))) else ((f_X13_wrong 3 ρ6).bind fun ρ38 => ((f_X13_goesOn ρ38).bind fun ρ39 => ((f_X13_sets i4 0 r5 ρ39).bind fun ρ40 => (o2 (f_X13_wantsNumber 0 9999 ρ40) fun r41 ρ42 => ((f_X13_sets i4 1 r41 ρ42).bind fun ρ43 => (o2 (f_X13_wantsNumber 0 99 ρ43) fun r44 ρ45 => ((f_X13_sets i4 2 r44 ρ45).bind fun ρ46 => ((f_X13_sets i4 3 (-1) ρ46).bind fun ρ47 => ((f_X13_readsList i4 ρ47).bind fun ρ48 => ((f_X13_readsPlace i4 ρ48).bind fun ρ49 => ((f_X13_wantsSemicolon ρ49).bind fun ρ50 => (if inb (129 + i4) 137 = true then (lt (wI ρ50 1 (Int32.toNatClampNeg (129 + i4)) i4) fun ρ51 => (if inb 0 137 = true then (if inb 0 137 = true then (lt (wI ρ51 1 (Int32.toNatClampNeg 0) ((ρ51.1 1 (Int32.toNatClampNeg 0)) + 1)) fun ρ52 => (some ρ52)) else none) else none)) else none)))))))))))))) else ((f_X13_goesOn ρ6).bind fun ρ8 => ((f_X13_sets i4 0 r5 ρ8).bind fun ρ9 => (o2 (f_X13_wantsNumber 0 9999 ρ9) fun r10 ρ11 => ((f_X13_sets i4 1 r10 ρ11).bind fun ρ12 => (o2 (f_X13_wantsNumber 0 99 ρ12) fun r13 ρ14 => ((f_X13_sets i4 2 r13 ρ14).bind fun ρ15 => ((f_X13_sets i4 3 (-1) ρ15).bind fun ρ16 => ((f_X13_readsList i4 ρ16).bind fun ρ17 => ((f_X13_readsPlace i4 ρ17).bind fun ρ18 => ((f_X13_wantsSemicolon ρ18).bind fun ρ19 => (if inb (129 + i4) 137 = true then (lt (wI ρ19 1 (Int32.toNatClampNeg (129 + i4)) i4) fun ρ20 => (if inb 0 137 = true then (if inb 0 137 = true then (lt (wI ρ20 1 (Int32.toNatClampNeg 0) ((ρ20.1 1 (Int32.toNatClampNeg 0)) + 1)) fun ρ21 => (some ρ21)) else none) else none)) else none)))))))))))))) else none))) else none)
set_option maxRecDepth 100000 in
def f_X13_balances_4 (ρ : OM) : Nat → Int32 → Int32 → Option (Int32)
  | 0, _, _ => none
  | n + 1, x2, x1 => (if inb 0 137 = true then (if (ρ.1 1 (Int32.toNatClampNeg 0)) ≤ x2 then (some x1) else ((f_X13_of x2 1 ρ).bind fun r2 => (lt ((x1 + r2)) fun i3 => (f_X13_balances_4 ρ n (x2 + 1) i3)))) else none)
set_option maxRecDepth 100000 in
def f_X13_balances  (ρ : OM) : Option (Int32) := (f_X13_balances_4 ρ FU 0 0)
set_option maxRecDepth 100000 in
def f_X13_readsSetup_2  : Nat → Int32 → OM → Option (OM)
  | 0, _, _ => none
  | n + 1, x1, ρ => (if 137 ≤ x1 then (some ρ) else (if inb x1 137 = true then (lt (wI ρ 1 (Int32.toNatClampNeg x1) 0) fun ρ2 => (f_X13_readsSetup_2  n (x1 + 1) ρ2)) else none))
set_option maxRecDepth 100000 in
def f_X13_readsSetup_46  : Nat → OM → Option (OM)
  | 0, _ => none
  | n + 1, ρ => ((f_X13_isWord 25 ρ).bind fun r8 => (if r8 = 0 then (some ρ) else ((f_X13_readsStall ρ).bind fun ρ10 => (f_X13_readsSetup_46  n ρ10))))
set_option maxRecDepth 100000 in
def f_X13_readsSetup_76  : Nat → OM → Option (OM)
  | 0, _ => none
  | n + 1, ρ => ((f_X13_isWord 27 ρ).bind fun r14 => (if r14 = 0 then (some ρ) else ((f_X13_readsSeller ρ).bind fun ρ16 => (f_X13_readsSetup_76  n ρ16))))
set_option maxRecDepth 100000 in
def f_X13_readsSetup  (ρ : OM) : Option (OM) := ((f_X13_readsSetup_2  FU 0 ρ).bind fun ρ3 => ((f_X13_wantsWord 24 ρ3).bind fun ρ4 => ((f_X13_wantsSemicolon ρ4).bind fun ρ5 => ((f_X13_isWord 25 ρ5).bind fun r6 => (if r6 = 0 then ((f_X13_wrong 1 ρ5).bind fun ρ32 => ((f_X13_readsSetup_46  FU ρ32).bind fun ρ33 => ((f_X13_isWord 27 ρ33).bind fun r34 => (if r34 = 0 then ((f_X13_wrong 1 ρ33).bind fun ρ43 => ((f_X13_readsSetup_76  FU ρ43).bind fun ρ44 => (if (ρ44.1 0 20) = 0 then ((f_X13_balances ρ44).bind fun r46 => (if inb 7 137 = true then (lt (wI ρ44 1 (Int32.toNatClampNeg 7) r46) fun ρ47 => (some ρ47)) else none)) else ((f_X13_wrong 1 ρ44).bind fun ρ48 => ((f_X13_balances ρ48).bind fun r49 => (if inb 7 137 = true then (lt (wI ρ48 1 (Int32.toNatClampNeg 7) r49) fun ρ50 => (some ρ50)) else none)))))) else ((f_X13_readsSetup_76  FU ρ33).bind fun ρ36 => (if (ρ36.1 0 20) = 0 then ((f_X13_balances ρ36).bind fun r38 => (if inb 7 137 = true then (lt (wI ρ36 1 (Int32.toNatClampNeg 7) r38) fun ρ39 => (some ρ39)) else none)) else ((f_X13_wrong 1 ρ36).bind fun ρ40 => ((f_X13_balances ρ40).bind fun r41 => (if inb 7 137 = true then (lt (wI ρ40 1 (Int32.toNatClampNeg 7) r41) fun ρ42 => (some ρ42)) else none))))))))) else ((f_X13_readsSetup_46  FU ρ5).bind fun ρ11 => ((f_X13_isWord 27 ρ11).bind fun r12 => (if r12 = 0 then ((f_X13_wrong 1 ρ11).bind fun ρ24 => ((f_X13_readsSetup_76  FU ρ24).bind fun ρ25 => (if (ρ25.1 0 20) = 0 then ((f_X13_balances ρ25).bind fun r27 => (if inb 7 137 = true then (lt (wI ρ25 1 (Int32.toNatClampNeg 7) r27) fun ρ28 => (some ρ28)) else none)) else ((f_X13_wrong 1 ρ25).bind fun ρ29 => ((f_X13_balances ρ29).bind fun r30 => (if inb 7 137 = true then (lt (wI ρ29 1 (Int32.toNatClampNeg 7) r30) fun ρ31 => (some ρ31)) else none)))))) else ((f_X13_readsSetup_76  FU ρ11).bind fun ρ17 => (if (ρ17.1 0 20) = 0 then ((f_X13_balances ρ17).bind fun r19 => (if inb 7 137 = true then (lt (wI ρ17 1 (Int32.toNatClampNeg 7) r19) fun ρ20 => (some ρ20)) else none)) else ((f_X13_wrong 1 ρ17).bind fun ρ21 => ((f_X13_balances ρ21).bind fun r22 => (if inb 7 137 = true then (lt (wI ρ21 1 (Int32.toNatClampNeg 7) r22) fun ρ23 => (some ρ23)) else none)))))))))))))
set_option maxRecDepth 100000 in
def f_X13_thrown  (ρ : OM) : Option (Int32) := (some (ρ.1 0 12))
set_option maxRecDepth 100000 in
def f_X13_wants (p1 : Int32) (ρ : OM) : Option (Int32 × OM) := (if p1 = 0 then (lt (wI ρ 0 12 1) fun ρ2 => (if bz p1 = true then some (p1, ρ2) else none)) else (lt (wI ρ 0 12 0) fun ρ3 => (if bz p1 = true then some (p1, ρ3) else none)))
set_option maxRecDepth 100000 in
def f_X13_rentOf (p1 : Int32) (ρ : OM) : Option (Int32) := (if inb ((9 + (2 * p1)) + 1) 137 = true then (some (ρ.1 1 (Int32.toNatClampNeg ((9 + (2 * p1)) + 1)))) else none)
set_option maxRecDepth 100000 in
def f_X13_isSeller (p1 : Int32) (ρ : OM) : Option (Int32) := (if inb 0 137 = true then ((f_X13_isBetween p1 0 ((ρ.1 1 (Int32.toNatClampNeg 0)) - 1)).bind fun r1 => (if bz r1 = true then some r1 else none)) else none)
set_option maxRecDepth 100000 in
def f_X13_isStall (p1 : Int32) (ρ : OM) : Option (Int32) := (if inb 1 137 = true then ((f_X13_isBetween p1 0 ((ρ.1 1 (Int32.toNatClampNeg 1)) - 1)).bind fun r1 => (if bz r1 = true then some r1 else none)) else none)
set_option maxRecDepth 100000 in
def f_X13_isOutcome (p1 : Int32) (ρ : OM) : Option (Int32) := (if p1 = (-1) then (some 1) else ((f_X13_isStall p1 ρ).bind fun r2 => (if r2 = 0 then (some 0) else (some 1))))
set_option maxRecDepth 100000 in
def f_X13_badness (p1 : Int32) (p2 : Int32) (ρ : OM) : Option (Int32) := (if p2 = (-1) then (some 8) else ((f_X13_rank p1 p2 ρ).bind fun r2 => (if r2 = (-1) then (some 9) else (some r2))))
set_option maxRecDepth 100000 in
def f_X13_isBetter (p1 : Int32) (p2 : Int32) (p3 : Int32) (ρ : OM) : Option (Int32) := ((f_X13_badness p1 p2 ρ).bind fun r1 => ((f_X13_badness p1 p3 ρ).bind fun r2 => (if r2 ≤ r1 then (some 0) else (some 1))))
set_option maxRecDepth 100000 in
def f_X13_positionOf_2 (x1 : Int32) (ρ : OM) : Nat → Int32 → Option (Int32)
  | 0, _ => none
  | n + 1, x2 => (if inb (129 + x2) 137 = true then (if (ρ.1 1 (Int32.toNatClampNeg (129 + x2))) = x1 then (some x2) else (f_X13_positionOf_2 x1 ρ n (x2 + 1))) else none)
set_option maxRecDepth 100000 in
def f_X13_positionOf (p1 : Int32) (ρ : OM) : Option (Int32) := (f_X13_positionOf_2 p1 ρ FU 0)
set_option maxRecDepth 100000 in
def f_X13_longsFor (p1 : Int32) (p2 : Int32) (ρ : OM) : Option (Int32) := ((f_X13_of p2 3 ρ).bind fun r1 => (if r1 = (-1) then (some 0) else ((f_X13_of p1 3 ρ).bind fun r3 => ((f_X13_isBetter p1 r1 r3 ρ).bind fun r4 => (if r4 = 0 then (some 0) else (some 1))))))
set_option maxRecDepth 100000 in
def f_X13_exchange (p1 : Int32) (p2 : Int32) (ρ : OM) : Option (Int32) := (if p1 = p2 then (some 0) else ((f_X13_of p1 3 ρ).bind fun r3 => (if r3 = (-1) then (some 0) else ((f_X13_of p2 3 ρ).bind fun r6 => (if r6 = (-1) then (some 0) else ((f_X13_longsFor p1 p2 ρ).bind fun r10 => (if r10 = 0 then (some 0) else ((f_X13_longsFor p2 p1 ρ).bind fun r12 => (if r12 = 0 then (some 0) else (some 1))))))))))
set_option maxRecDepth 100000 in
def f_X13_betterFree_2 (x1 : Int32) (ρ : OM) : Nat → Int32 → Option (Int32)
  | 0, _ => none
  | n + 1, x2 => ((f_X13_of x1 4 ρ).bind fun r1 => (if r1 ≤ x2 then (some (-1)) else ((f_X13_of x1 (5 + x2) ρ).bind fun r3 => ((f_X13_occupant r3 ρ).bind fun r4 => (if r4 = (-1) then ((f_X13_of x1 3 ρ).bind fun r6 => ((f_X13_isBetter x1 r3 r6 ρ).bind fun r7 => (if r7 = 0 then (f_X13_betterFree_2 x1 ρ n (x2 + 1)) else (some r3)))) else (f_X13_betterFree_2 x1 ρ n (x2 + 1)))))))
set_option maxRecDepth 100000 in
def f_X13_betterFree (p1 : Int32) (ρ : OM) : Option (Int32) := (f_X13_betterFree_2 p1 ρ FU 0)
set_option maxRecDepth 100000 in
def f_X13_spreads_2 (x1 : Int32) (x2 : Int32) : Nat → Int32 → OM → Option (OM)
  | 0, _, _ => none
  | n + 1, x3, ρ => (if inb 0 137 = true then (if (ρ.1 1 (Int32.toNatClampNeg 0)) ≤ x3 then (some ρ) else (if inb x3 8 = true then (if (ρ.1 7 (Int32.toNatClampNeg x3)) = (-1) then ((f_X13_of x3 3 ρ).bind fun r3 => (if r3 = (-1) then (f_X13_spreads_2 x1 x2 n (x3 + 1) ρ) else ((f_X13_longsFor x1 x3 ρ).bind fun r5 => (if r5 = 0 then (f_X13_spreads_2 x1 x2 n (x3 + 1) ρ) else (if inb x3 8 = true then (lt (wI ρ 7 (Int32.toNatClampNeg x3) x2) fun ρ7 => (f_X13_spreads_2 x1 x2 n (x3 + 1) ρ7)) else none))))) else (f_X13_spreads_2 x1 x2 n (x3 + 1) ρ)) else none)) else none)
set_option maxRecDepth 100000 in
def f_X13_spreads (p1 : Int32) (p2 : Int32) (ρ : OM) : Option (OM) := (f_X13_spreads_2 p1 p2 FU 0 ρ)
set_option maxRecDepth 100000 in
def f_X13_shortestCycle_2  : Nat → Int32 → OM → Option (OM)
  | 0, _, _ => none
  | n + 1, x2, ρ => (if 8 ≤ x2 then (some ρ) else (if inb x2 8 = true then (lt (wI ρ 7 (Int32.toNatClampNeg x2) (-1)) fun ρ2 => (f_X13_shortestCycle_2  n (x2 + 1) ρ2)) else none))
set_option maxRecDepth 100000 in
def f_X13_shortestCycle_50 (x1 : Int32) (x2 : Int32) : Nat → Int32 → OM → Option ((Int32 × OM) ⊕ (OM))
  | 0, _, _ => none
  | n + 1, x3, ρ => (if inb 0 137 = true then (if (ρ.1 1 (Int32.toNatClampNeg 0)) ≤ x3 then (some (Sum.inr ρ)) else (if inb x3 8 = true then (if (ρ.1 7 (Int32.toNatClampNeg x3)) = x2 then (if x3 = x1 then ((f_X13_spreads x3 (x2 + 1) ρ).bind fun ρ11 => (f_X13_shortestCycle_50 x1 x2 n (x3 + 1) ρ11)) else ((f_X13_longsFor x3 x1 ρ).bind fun r12 => (if r12 = 0 then ((f_X13_spreads x3 (x2 + 1) ρ).bind fun ρ14 => (f_X13_shortestCycle_50 x1 x2 n (x3 + 1) ρ14)) else (some (Sum.inl ((x2 + 1), ρ)))))) else (f_X13_shortestCycle_50 x1 x2 n (x3 + 1) ρ)) else none)) else none)
set_option maxRecDepth 100000 in
def f_X13_shortestCycle_42 (x1 : Int32) : Nat → Int32 → OM → Option (Int32 × OM)
  | 0, _, _ => none
  | n + 1, x2, ρ => (if 8 ≤ x2 then (some ((-1), ρ)) else (oR (f_X13_shortestCycle_50 x1 x2 FU 0 ρ) fun ρ15 => (f_X13_shortestCycle_42 x1 n (x2 + 1) ρ15)))
set_option maxRecDepth 100000 in
def f_X13_shortestCycle (p1 : Int32) (ρ : OM) : Option (Int32 × OM) := ((f_X13_shortestCycle_2  FU 0 ρ).bind fun ρ3 => ((f_X13_of p1 3 ρ3).bind fun r4 => (if r4 = (-1) then (some ((-1), ρ3)) else (if inb p1 8 = true then (lt (wI ρ3 7 (Int32.toNatClampNeg p1) 0) fun ρ6 => (f_X13_shortestCycle_42 p1 FU 0 ρ6)) else none))))
set_option maxRecDepth 100000 in
def f_X13_request_2 (x1 : Int32) (ρ : OM) : Nat → Int32 → Option (Int32)
  | 0, _ => none
  | n + 1, x2 => ((f_X13_of x1 4 ρ).bind fun r1 => (if r1 ≤ x2 then (some (-1)) else ((f_X13_of x1 (5 + x2) ρ).bind fun r3 => (if inb r3 8 = true then (if (ρ.1 12 (Int32.toNatClampNeg r3)) = 0 then ((f_X13_of x1 (5 + x2) ρ).bind fun r5 => (some r5)) else (f_X13_request_2 x1 ρ n (x2 + 1))) else none))))
set_option maxRecDepth 100000 in
def f_X13_request (p1 : Int32) (ρ : OM) : Option (Int32) := (f_X13_request_2 p1 ρ FU 0)
set_option maxRecDepth 100000 in
def f_X13_finishes (p1 : Int32) (p2 : Int32) (ρ : OM) : Option (OM) := (if inb p1 8 = true then (lt (wI ρ 10 (Int32.toNatClampNeg p1) p2) fun ρ1 => (if inb p1 8 = true then (lt (wI ρ1 11 (Int32.toNatClampNeg p1) 1) fun ρ2 => (if p2 = (-1) then (some ρ2) else (if inb p2 8 = true then (lt (wI ρ2 12 (Int32.toNatClampNeg p2) 1) fun ρ4 => (some ρ4)) else none))) else none)) else none)
set_option maxRecDepth 100000 in
def f_X13_firstUnfinished_2 (ρ : OM) : Nat → Int32 → Option (Int32)
  | 0, _ => none
  | n + 1, x1 => (if inb 0 137 = true then (if (ρ.1 1 (Int32.toNatClampNeg 0)) ≤ x1 then (some (-1)) else (if inb (129 + x1) 137 = true then (if inb (ρ.1 1 (Int32.toNatClampNeg (129 + x1))) 8 = true then (if (ρ.1 11 (Int32.toNatClampNeg (ρ.1 1 (Int32.toNatClampNeg (129 + x1))))) = 0 then (if inb (129 + x1) 137 = true then (some (ρ.1 1 (Int32.toNatClampNeg (129 + x1)))) else none) else (f_X13_firstUnfinished_2 ρ n (x1 + 1))) else none) else none)) else none)
set_option maxRecDepth 100000 in
def f_X13_firstUnfinished  (ρ : OM) : Option (Int32) := (f_X13_firstUnfinished_2 ρ FU 0)
set_option maxRecDepth 100000 in
def f_X13_inChain_2 (x1 : Int32) (ρ : OM) : Nat → Int32 → Option (Int32)
  | 0, _ => none
  | n + 1, x2 => (if (ρ.1 0 19) ≤ x2 then (some (-1)) else (if inb x2 8 = true then (if (ρ.1 8 (Int32.toNatClampNeg x2)) = x1 then (some x2) else (f_X13_inChain_2 x1 ρ n (x2 + 1))) else none))
set_option maxRecDepth 100000 in
def f_X13_inChain (p1 : Int32) (ρ : OM) : Option (Int32) := (f_X13_inChain_2 p1 ρ FU 0)
set_option maxRecDepth 100000 in
def f_X13_appends (p1 : Int32) (ρ : OM) : Option (OM) := (if inb (ρ.1 0 19) 8 = true then (lt (wI ρ 8 (Int32.toNatClampNeg (ρ.1 0 19)) p1) fun ρ1 => (lt (wI ρ1 0 19 ((ρ1.1 0 19) + 1)) fun ρ2 => (some ρ2))) else none)
set_option maxRecDepth 100000 in
def f_X13_steps_99 (x4 : Int32) : Nat → Int32 → OM → Option (OM)
  | 0, _, _ => none
  | n + 1, x5, ρ => (if (ρ.1 0 19) ≤ x5 then (lt (wI ρ 0 19 x4) fun ρ16 => (some ρ16)) else (if inb x5 8 = true then (if inb x5 8 = true then (if inb (ρ.1 8 (Int32.toNatClampNeg x5)) 8 = true then ((f_X13_finishes (ρ.1 8 (Int32.toNatClampNeg x5)) (ρ.1 9 (Int32.toNatClampNeg (ρ.1 8 (Int32.toNatClampNeg x5)))) ρ).bind fun ρ17 => (f_X13_steps_99 x4 n (x5 + 1) ρ17)) else none) else none) else none))
set_option maxRecDepth 100000 in
def f_X13_steps  (ρ : OM) : Option (OM) := (if inb ((ρ.1 0 19) - 1) 8 = true then (lt ((ρ.1 8 (Int32.toNatClampNeg ((ρ.1 0 19) - 1)))) fun i1 => ((f_X13_request i1 ρ).bind fun r2 => (if inb i1 8 = true then (lt (wI ρ 9 (Int32.toNatClampNeg i1) r2) fun ρ3 => (if r2 = (-1) then ((f_X13_finishes i1 r2 ρ3).bind fun ρ22 => (lt (wI ρ22 0 19 ((ρ22.1 0 19) - 1)) fun ρ23 => (some ρ23))) else ((f_X13_occupant r2 ρ3).bind fun r5 => (if r5 = (-1) then ((f_X13_finishes i1 r2 ρ3).bind fun ρ7 => (lt (wI ρ7 0 19 ((ρ7.1 0 19) - 1)) fun ρ8 => (some ρ8))) else (if r5 = i1 then ((f_X13_finishes i1 r2 ρ3).bind fun ρ10 => (lt (wI ρ10 0 19 ((ρ10.1 0 19) - 1)) fun ρ11 => (some ρ11))) else (if inb r5 8 = true then (if (ρ3.1 11 (Int32.toNatClampNeg r5)) = 0 then ((f_X13_inChain r5 ρ3).bind fun r13 => (if r13 = (-1) then ((f_X13_appends r5 ρ3).bind fun ρ18 => (some ρ18)) else (f_X13_steps_99 r13 FU r13 ρ3))) else ((f_X13_finishes i1 r2 ρ3).bind fun ρ19 => (lt (wI ρ19 0 19 ((ρ19.1 0 19) - 1)) fun ρ20 => (some ρ20)))) else none)))))) else none))) else none)
set_option maxRecDepth 100000 in
def f_X13_allocates_2  : Nat → Int32 → OM → Option (OM)
  | 0, _, _ => none
  | n + 1, x1, ρ => (if 8 ≤ x1 then (some ρ) else (if inb x1 8 = true then (lt (wI ρ 11 (Int32.toNatClampNeg x1) 0) fun ρ2 => (if inb x1 8 = true then (lt (wI ρ2 12 (Int32.toNatClampNeg x1) 0) fun ρ3 => (f_X13_allocates_2  n (x1 + 1) ρ3)) else none)) else none))
set_option maxRecDepth 100000 in
def f_X13_allocates_38  : Nat → Int32 → OM → Option (OM)
  | 0, _, _ => none
  | n + 1, x1, ρ => (if x1 = (-1) then (some ρ) else (if (ρ.1 0 19) = 0 then ((f_X13_appends x1 ρ).bind fun ρ11 => ((f_X13_steps ρ11).bind fun ρ12 => ((f_X13_firstUnfinished ρ12).bind fun r13 => (f_X13_allocates_38  n r13 ρ12)))) else ((f_X13_steps ρ).bind fun ρ9 => ((f_X13_firstUnfinished ρ9).bind fun r10 => (f_X13_allocates_38  n r10 ρ9)))))
set_option maxRecDepth 100000 in
def f_X13_allocates  (ρ : OM) : Option (OM) := ((f_X13_allocates_2  FU 0 ρ).bind fun ρ4 => (lt (wI ρ4 0 19 0) fun ρ5 => ((f_X13_firstUnfinished ρ5).bind fun r6 => (f_X13_allocates_38  FU r6 ρ5))))
set_option maxRecDepth 100000 in
def f_X13_assigns (p1 : Int32) (p2 : Int32) (ρ : OM) : Option (Int32 × OM) := ((f_X13_of p1 3 ρ).bind fun r1 => ((f_X13_sets p1 3 p2 ρ).bind fun ρ2 => (some (r1, ρ2))))
set_option maxRecDepth 100000 in
def f_X13_canAssign (p1 : Int32) (p2 : Int32) (ρ : OM) : Option (Int32) := ((f_X13_occupant p2 ρ).bind fun r1 => (if r1 = (-1) then ((f_X13_rentOf p2 ρ).bind fun r3 => ((f_X13_of p1 1 ρ).bind fun r4 => (if r4 < r3 then (some 0) else (some 1)))) else (some 0)))
set_option maxRecDepth 100000 in
def f_X13_swaps (p1 : Int32) (p2 : Int32) (ρ : OM) : Option (Int32 × OM) := ((f_X13_of p2 3 ρ).bind fun r1 => ((f_X13_of p1 3 ρ).bind fun r2 => ((f_X13_sets p2 3 r2 ρ).bind fun ρ3 => ((f_X13_sets p1 3 r1 ρ3).bind fun ρ4 => (if inb 5 137 = true then (if inb 5 137 = true then (lt (wI ρ4 1 (Int32.toNatClampNeg 5) ((ρ4.1 1 (Int32.toNatClampNeg 5)) + 1)) fun ρ5 => (some (r1, ρ5))) else none) else none)))))
set_option maxRecDepth 100000 in
def f_X13_reallocates_8  : Nat → Int32 → Int32 → OM → Option (Int32 × OM)
  | 0, _, _, _ => none
  | n + 1, x2, x1, ρ => (if inb 0 137 = true then (if (ρ.1 1 (Int32.toNatClampNeg 0)) ≤ x2 then (some (x1, ρ)) else (if inb x2 8 = true then ((f_X13_of x2 3 ρ).bind fun r3 => (if (ρ.1 10 (Int32.toNatClampNeg x2)) = r3 then (lt ((x1 + 0)) fun i6 => (if inb 6 137 = true then (if inb 6 137 = true then (lt (wI ρ 1 (Int32.toNatClampNeg 6) ((ρ.1 1 (Int32.toNatClampNeg 6)) + 0)) fun ρ8 => (f_X13_reallocates_8  n (x2 + 1) i6 ρ8)) else none) else none)) else (lt ((x1 + 1)) fun i10 => (if inb 6 137 = true then (if inb x2 8 = true then (if (ρ.1 10 (Int32.toNatClampNeg x2)) = (-1) then (if inb 6 137 = true then (lt (wI ρ 1 (Int32.toNatClampNeg 6) ((ρ.1 1 (Int32.toNatClampNeg 6)) + 0)) fun ρ13 => (f_X13_reallocates_8  n (x2 + 1) i10 ρ13)) else none) else (if inb 6 137 = true then (lt (wI ρ 1 (Int32.toNatClampNeg 6) ((ρ.1 1 (Int32.toNatClampNeg 6)) + 1)) fun ρ14 => (f_X13_reallocates_8  n (x2 + 1) i10 ρ14)) else none)) else none) else none)))) else none)) else none)
set_option maxRecDepth 100000 in
def f_X13_reallocates_88 (x1 : Int32) : Nat → Int32 → OM → Option (Int32 × OM)
  | 0, _, _ => none
  | n + 1, x2, ρ => (if inb 0 137 = true then (if (ρ.1 1 (Int32.toNatClampNeg 0)) ≤ x2 then (some (x1, ρ)) else (if inb x2 8 = true then ((f_X13_sets x2 3 (ρ.1 10 (Int32.toNatClampNeg x2)) ρ).bind fun ρ18 => (f_X13_reallocates_88 x1 n (x2 + 1) ρ18)) else none)) else none)
set_option maxRecDepth 100000 in
def f_X13_reallocates  (ρ : OM) : Option (Int32 × OM) := ((f_X13_allocates ρ).bind fun ρ1 => (o2 (f_X13_reallocates_8  FU 0 0 ρ1) fun i15 ρ16 => (f_X13_reallocates_88 i15 FU 0 ρ16)))
set_option maxRecDepth 100000 in
def f_X13_moves_21 (x4 : Int32) (x3 : Int32) (x1 : Int32) (x2 : Int32) : Nat → Int32 → OM → Option (Int32 × OM)
  | 0, _, _ => none
  | n + 1, x5, ρ => (if x5 = x2 then (if inb (129 + x2) 137 = true then (lt (wI ρ 1 (Int32.toNatClampNeg (129 + x2)) x1) fun ρ4 => (some (x3, ρ4))) else none) else (if inb ((129 + x5) + x4) 137 = true then (if inb (129 + x5) 137 = true then (lt (wI ρ 1 (Int32.toNatClampNeg (129 + x5)) (ρ.1 1 (Int32.toNatClampNeg ((129 + x5) + x4)))) fun ρ5 => (lt ((x5 + x4)) fun i6 => (f_X13_moves_21 x4 x3 x1 x2 n i6 ρ5))) else none) else none))
set_option maxRecDepth 100000 in
def f_X13_moves (p1 : Int32) (p2 : Int32) (ρ : OM) : Option (Int32 × OM) := ((f_X13_positionOf p1 ρ).bind fun r1 => (if p2 ≤ r1 then (f_X13_moves_21 (-1) r1 p1 p2 FU r1 ρ) else (f_X13_moves_21 1 r1 p1 p2 FU r1 ρ)))
set_option maxRecDepth 100000 in
def f_X13_removes_17 (x3 : Int32) (x1 : Int32) : Nat → Int32 → OM → Option (Int32 × OM)
  | 0, _, _ => none
  | n + 1, x4, ρ => (if x3 ≤ x4 then ((f_X13_sets x1 4 x3 ρ).bind fun ρ5 => (some (x3, ρ5))) else ((f_X13_of x1 ((5 + x4) + 1) ρ).bind fun r6 => ((f_X13_sets x1 (5 + x4) r6 ρ).bind fun ρ7 => (f_X13_removes_17 x3 x1 n (x4 + 1) ρ7))))
set_option maxRecDepth 100000 in
def f_X13_removes (p1 : Int32) (p2 : Int32) (ρ : OM) : Option (Int32 × OM) := ((f_X13_of p1 4 ρ).bind fun r1 => (lt ((r1 - 1)) fun i2 => ((f_X13_rank p1 p2 ρ).bind fun r3 => (f_X13_removes_17 i2 p1 FU r3 ρ))))
set_option maxRecDepth 100000 in
def f_X13_putsFirst_27 (x1 : Int32) : Nat → Int32 → OM → Option (OM)
  | 0, _, _ => none
  | n + 1, x4, ρ => (if x4 ≤ 0 then (some ρ) else ((f_X13_of x1 ((5 + x4) - 1) ρ).bind fun r5 => ((f_X13_sets x1 (5 + x4) r5 ρ).bind fun ρ6 => (f_X13_putsFirst_27 x1 n (x4 + (-1)) ρ6))))
set_option maxRecDepth 100000 in
def f_X13_putsFirst (p1 : Int32) (p2 : Int32) (ρ : OM) : Option (Int32 × OM) := ((f_X13_rank p1 p2 ρ).bind fun r1 => (if r1 = (-1) then ((f_X13_of p1 4 ρ).bind fun r3 => ((f_X13_putsFirst_27 p1 FU r3 ρ).bind fun ρ7 => ((f_X13_sets p1 5 p2 ρ7).bind fun ρ8 => ((f_X13_sets p1 4 (r3 + 1) ρ8).bind fun ρ9 => (some ((r3 + 1), ρ9)))))) else (o2 (f_X13_removes p1 p2 ρ) fun r10 ρ11 => ((f_X13_of p1 4 ρ11).bind fun r12 => ((f_X13_putsFirst_27 p1 FU r12 ρ11).bind fun ρ13 => ((f_X13_sets p1 5 p2 ρ13).bind fun ρ14 => ((f_X13_sets p1 4 (r12 + 1) ρ14).bind fun ρ15 => (some ((r12 + 1), ρ15)))))))))
set_option maxRecDepth 100000 in
def f_X13_deposits (p1 : Int32) (p2 : Int32) (ρ : OM) : Option (Int32 × OM) := ((f_X13_of p1 1 ρ).bind fun r1 => ((f_X13_sets p1 1 (r1 + p2) ρ).bind fun ρ2 => (if inb 8 137 = true then (if inb 8 137 = true then (lt (wI ρ2 1 (Int32.toNatClampNeg 8) ((ρ2.1 1 (Int32.toNatClampNeg 8)) + p2)) fun ρ3 => ((f_X13_of p1 1 ρ3).bind fun r4 => (some (r4, ρ3)))) else none) else none)))
set_option maxRecDepth 100000 in
def f_X13_isEvicted (p1 : Int32) (ρ : OM) : Option (Int32 × OM) := ((f_X13_of p1 3 ρ).bind fun r1 => (if r1 = (-1) then (some (0, ρ)) else ((f_X13_rentOf r1 ρ).bind fun r3 => ((f_X13_of p1 1 ρ).bind fun r4 => (if r3 ≤ r4 then ((f_X13_of p1 1 ρ).bind fun r6 => ((f_X13_sets p1 1 (r6 - r3) ρ).bind fun ρ7 => (if inb 3 137 = true then (if inb 3 137 = true then (lt (wI ρ7 1 (Int32.toNatClampNeg 3) ((ρ7.1 1 (Int32.toNatClampNeg 3)) + r3)) fun ρ8 => (some (0, ρ8))) else none) else none))) else ((f_X13_sets p1 3 (-1) ρ).bind fun ρ9 => (if inb 4 137 = true then (if inb 4 137 = true then (lt (wI ρ9 1 (Int32.toNatClampNeg 4) ((ρ9.1 1 (Int32.toNatClampNeg 4)) + 1)) fun ρ10 => (some (1, ρ10))) else none) else none)))))))
set_option maxRecDepth 100000 in
def f_X13_passesDay_14  : Nat → Int32 → OM → Option (OM)
  | 0, _, _ => none
  | n + 1, x2, ρ => (if inb 0 137 = true then (if (ρ.1 1 (Int32.toNatClampNeg 0)) ≤ x2 then (some ρ) else ((f_X13_of x2 2 ρ).bind fun r3 => (o2 (f_X13_deposits x2 r3 ρ) fun r4 ρ5 => (f_X13_passesDay_14  n (x2 + 1) ρ5)))) else none)
set_option maxRecDepth 100000 in
def f_X13_passesDay_44  : Nat → Int32 → Int32 → OM → Option (Int32 × OM)
  | 0, _, _, _ => none
  | n + 1, x2, x1, ρ => (if inb 0 137 = true then (if (ρ.1 1 (Int32.toNatClampNeg 0)) ≤ x2 then (some (x1, ρ)) else (o2 (f_X13_isEvicted x2 ρ) fun r8 ρ9 => (if r8 = 0 then (lt ((x1 + 0)) fun i11 => (f_X13_passesDay_44  n (x2 + 1) i11 ρ9)) else (lt ((x1 + 1)) fun i12 => (f_X13_passesDay_44  n (x2 + 1) i12 ρ9))))) else none)
set_option maxRecDepth 100000 in
def f_X13_passesDay  (ρ : OM) : Option (Int32 × OM) := (if inb 2 137 = true then (if inb 2 137 = true then (lt (wI ρ 1 (Int32.toNatClampNeg 2) ((ρ.1 1 (Int32.toNatClampNeg 2)) + 1)) fun ρ1 => ((f_X13_passesDay_14  FU 0 ρ1).bind fun ρ6 => (f_X13_passesDay_44  FU 0 0 ρ6))) else none) else none)
set_option maxRecDepth 100000 in
def f_X13_passes_4 (x1 : Int32) : Nat → Int32 → Int32 → OM → Option (Int32 × OM)
  | 0, _, _, _ => none
  | n + 1, x3, x2, ρ => (if x1 ≤ x3 then (some (x2, ρ)) else (o2 (f_X13_passesDay ρ) fun r2 ρ3 => (lt ((x2 + r2)) fun i4 => (f_X13_passes_4 x1 n (x3 + 1) i4 ρ3))))
set_option maxRecDepth 100000 in
def f_X13_passes (p1 : Int32) (ρ : OM) : Option (Int32 × OM) := (f_X13_passes_4 p1 FU 0 0 ρ)
set_option maxRecDepth 100000 in
def f_X13_remembers_52  : Nat → Int32 → OM → Option (OM)
  | 0, _, _ => none
  | n + 1, x1, ρ => (if 137 ≤ x1 then (lt (wI ρ 0 4 ((ρ.1 0 4) + 1)) fun ρ3 => (some ρ3)) else (if inb x1 137 = true then (if inb ((137 * (ρ.1 0 4)) + x1) 1096 = true then (lt (wI ρ 4 (Int32.toNatClampNeg ((137 * (ρ.1 0 4)) + x1)) (ρ.1 1 (Int32.toNatClampNeg x1))) fun ρ4 => (f_X13_remembers_52  n (x1 + 1) ρ4)) else none) else none))
set_option maxRecDepth 100000 in
def f_X13_remembers_11  : Nat → Int32 → OM → Option (OM)
  | 0, _, _ => none
  | n + 1, x1, ρ => (if 959 ≤ x1 then (some ρ) else (if inb (x1 + 137) 1096 = true then (if inb x1 1096 = true then (lt (wI ρ 4 (Int32.toNatClampNeg x1) (ρ.1 4 (Int32.toNatClampNeg (x1 + 137)))) fun ρ6 => (f_X13_remembers_11  n (x1 + 1) ρ6)) else none) else none))
set_option maxRecDepth 100000 in
def f_X13_remembers  (ρ : OM) : Option (OM) := (if (ρ.1 0 4) = 8 then ((f_X13_remembers_11  FU 0 ρ).bind fun ρ7 => (lt (wI ρ7 0 4 ((ρ7.1 0 4) - 1)) fun ρ8 => (f_X13_remembers_52  FU 0 ρ8))) else (f_X13_remembers_52  FU 0 ρ))
set_option maxRecDepth 100000 in
def f_X13_copies_1_2_2  : Nat → Int32 → OM → Option (OM)
  | 0, _, _ => none
  | n + 1, x2, ρ => (if 137 ≤ x2 then (some ρ) else (if inb x2 137 = true then (if inb x2 137 = true then (lt (wI ρ 2 (Int32.toNatClampNeg x2) (ρ.1 1 (Int32.toNatClampNeg x2))) fun ρ2 => (f_X13_copies_1_2_2  n (x2 + 1) ρ2)) else none) else none))
set_option maxRecDepth 100000 in
def f_X13_copies_1_2  (ρ : OM) : Option (OM) := (f_X13_copies_1_2_2  FU 0 ρ)
set_option maxRecDepth 100000 in
def f_X13_copies_2_1_2  : Nat → Int32 → OM → Option (OM)
  | 0, _, _ => none
  | n + 1, x2, ρ => (if 137 ≤ x2 then (some ρ) else (if inb x2 137 = true then (if inb x2 137 = true then (lt (wI ρ 1 (Int32.toNatClampNeg x2) (ρ.1 2 (Int32.toNatClampNeg x2))) fun ρ2 => (f_X13_copies_2_1_2  n (x2 + 1) ρ2)) else none) else none))
set_option maxRecDepth 100000 in
def f_X13_copies_2_1  (ρ : OM) : Option (OM) := (f_X13_copies_2_1_2  FU 0 ρ)
set_option maxRecDepth 100000 in
def f_X13_copies_1_3_2  : Nat → Int32 → OM → Option (OM)
  | 0, _, _ => none
  | n + 1, x2, ρ => (if 137 ≤ x2 then (some ρ) else (if inb x2 137 = true then (if inb x2 137 = true then (lt (wI ρ 3 (Int32.toNatClampNeg x2) (ρ.1 1 (Int32.toNatClampNeg x2))) fun ρ2 => (f_X13_copies_1_3_2  n (x2 + 1) ρ2)) else none) else none))
set_option maxRecDepth 100000 in
def f_X13_copies_1_3  (ρ : OM) : Option (OM) := (f_X13_copies_1_3_2  FU 0 ρ)
set_option maxRecDepth 100000 in
def f_X13_copies_3_1_2  : Nat → Int32 → OM → Option (OM)
  | 0, _, _ => none
  | n + 1, x2, ρ => (if 137 ≤ x2 then (some ρ) else (if inb x2 137 = true then (if inb x2 137 = true then (lt (wI ρ 1 (Int32.toNatClampNeg x2) (ρ.1 3 (Int32.toNatClampNeg x2))) fun ρ2 => (f_X13_copies_3_1_2  n (x2 + 1) ρ2)) else none) else none))
set_option maxRecDepth 100000 in
def f_X13_copies_3_1  (ρ : OM) : Option (OM) := (f_X13_copies_3_1_2  FU 0 ρ)
set_option maxRecDepth 100000 in
def f_X13_wantsStall  (ρ : OM) : Option (Int32 × OM) := (o2 (f_X13_seesStall ρ) fun r1 ρ2 => ((f_X13_goesOn ρ2).bind fun ρ3 => (some (r1, ρ3))))
set_option maxRecDepth 100000 in
def f_X13_wantsSeller  (ρ : OM) : Option (Int32 × OM) := (o2 (f_X13_seesName ρ) fun r1 ρ2 => ((f_X13_sellerNamed r1 ρ2).bind fun r3 => (if (ρ2.1 0 24) = 0 then (if r3 = (-1) then ((f_X13_wrong 3 ρ2).bind fun ρ8 => ((f_X13_goesOn ρ8).bind fun ρ9 => (some (r3, ρ9)))) else ((f_X13_goesOn ρ2).bind fun ρ7 => (some (r3, ρ7)))) else ((f_X13_goesOn ρ2).bind fun ρ5 => (some (r3, ρ5))))))
set_option maxRecDepth 100000 in
def f_X13_kindOfWord  (ρ : OM) : Option (Int32) := ((f_X13_isWord 28 ρ).bind fun r1 => (if r1 = 0 then ((f_X13_isWord 29 ρ).bind fun r3 => (if r3 = 0 then ((f_X13_isWord 30 ρ).bind fun r5 => (if r5 = 0 then ((f_X13_isWord 31 ρ).bind fun r7 => (if r7 = 0 then ((f_X13_isWord 32 ρ).bind fun r9 => (if r9 = 0 then ((f_X13_isWord 33 ρ).bind fun r11 => (if r11 = 0 then ((f_X13_isWord 34 ρ).bind fun r13 => (if r13 = 0 then ((f_X13_isWord 35 ρ).bind fun r15 => (if r15 = 0 then ((f_X13_isWord 36 ρ).bind fun r17 => (if r17 = 0 then (some (-1)) else (some 8))) else (some 7))) else (some 6))) else (some 5))) else (some 4))) else (some 3))) else (some 2))) else (some 1))) else (some 0)))
set_option maxRecDepth 100000 in
def f_X13_secondOf (p1 : Int32) (ρ : OM) : Option (Int32 × OM) := (if p1 = 1 then (some (0, ρ)) else (if p1 = 2 then (o2 (f_X13_wantsSeller ρ) fun r3 ρ4 => (some (r3, ρ4))) else (if p1 = 7 then (o2 (f_X13_wantsNumber 1 999 ρ) fun r6 ρ7 => (some (r6, ρ7))) else (o2 (f_X13_wantsStall ρ) fun r8 ρ9 => (some (r8, ρ9))))))
set_option maxRecDepth 100000 in
def f_X13_readsNumbers (p1 : Int32) (p2 : Int32) (ρ : OM) : Option (OM) := (if p2 = 3 then (if inb (p1 + 1) 60 = true then (lt (wI ρ 13 (Int32.toNatClampNeg (p1 + 1)) 0) fun ρ2 => (some ρ2)) else none) else (if p2 = 6 then (o2 (f_X13_wantsStall ρ) fun r4 ρ5 => (if inb (p1 + 1) 60 = true then (lt (wI ρ5 13 (Int32.toNatClampNeg (p1 + 1)) r4) fun ρ6 => (o2 (f_X13_wantsNumber 0 99 ρ6) fun r7 ρ8 => (if inb (p1 + 2) 60 = true then (lt (wI ρ8 13 (Int32.toNatClampNeg (p1 + 2)) r7) fun ρ9 => (some ρ9)) else none))) else none)) else (if p2 = 8 then (o2 (f_X13_wantsNumber 1 99 ρ) fun r11 ρ12 => (if inb (p1 + 1) 60 = true then (lt (wI ρ12 13 (Int32.toNatClampNeg (p1 + 1)) r11) fun ρ13 => (some ρ13)) else none)) else (o2 (f_X13_wantsSeller ρ) fun r14 ρ15 => (if inb (p1 + 1) 60 = true then (lt (wI ρ15 13 (Int32.toNatClampNeg (p1 + 1)) r14) fun ρ16 => (o2 (f_X13_secondOf p2 ρ16) fun r17 ρ18 => (if inb (p1 + 2) 60 = true then (lt (wI ρ18 13 (Int32.toNatClampNeg (p1 + 2)) r17) fun ρ19 => (some ρ19)) else none))) else none)))))
set_option maxRecDepth 100000 in
def f_X13_readsCommand  (ρ : OM) : Option (OM) := ((f_X13_kindOfWord ρ).bind fun r1 => (if r1 = (-1) then ((f_X13_wrong 1 ρ).bind fun ρ11 => (some ρ11)) else (if (ρ.1 0 26) = 20 then ((f_X13_wrong 5 ρ).bind fun ρ10 => (some ρ10)) else ((f_X13_nextToken ρ).bind fun ρ4 => (lt ((3 * (ρ4.1 0 26))) fun i5 => (if inb i5 60 = true then (lt (wI ρ4 13 (Int32.toNatClampNeg i5) r1) fun ρ6 => ((f_X13_readsNumbers i5 r1 ρ6).bind fun ρ7 => ((f_X13_wantsSemicolon ρ7).bind fun ρ8 => (lt (wI ρ8 0 26 ((ρ8.1 0 26) + 1)) fun ρ9 => (some ρ9))))) else none))))))
set_option maxRecDepth 100000 in
def f_X13_does (p1 : Int32) (ρ : OM) : Option (Int32 × OM) := (if inb (p1 + 1) 60 = true then (lt ((ρ.1 13 (Int32.toNatClampNeg (p1 + 1)))) fun i1 => (if inb (p1 + 2) 60 = true then (lt ((ρ.1 13 (Int32.toNatClampNeg (p1 + 2)))) fun i2 => (if inb p1 60 = true then (if (ρ.1 13 (Int32.toNatClampNeg p1)) = 0 then ((f_X13_canAssign i1 i2 ρ).bind fun r4 => (if r4 = 0 then (some (0, ρ)) else (o2 (f_X13_assigns i1 i2 ρ) fun r6 ρ7 => (if r6 < (-1) then (some (0, ρ7)) else (some (1, ρ7)))))) else (if (ρ.1 13 (Int32.toNatClampNeg p1)) = 1 then ((f_X13_of i1 3 ρ).bind fun r10 => (if r10 = (-1) then (some (0, ρ)) else (o2 (f_X13_assigns i1 (-1) ρ) fun r12 ρ13 => (if r12 < 0 then (some (0, ρ13)) else (some (1, ρ13)))))) else (if (ρ.1 13 (Int32.toNatClampNeg p1)) = 2 then ((f_X13_exchange i1 i2 ρ).bind fun r16 => (if r16 = 0 then (some (0, ρ)) else (o2 (f_X13_swaps i1 i2 ρ) fun r18 ρ19 => (if r18 < 0 then (some (0, ρ19)) else (some (1, ρ19)))))) else (if (ρ.1 13 (Int32.toNatClampNeg p1)) = 3 then (o2 (f_X13_reallocates ρ) fun r22 ρ23 => (if r22 < 0 then (some (0, ρ23)) else (some (1, ρ23)))) else (if (ρ.1 13 (Int32.toNatClampNeg p1)) = 4 then (o2 (f_X13_putsFirst i1 i2 ρ) fun r26 ρ27 => (if r26 ≤ 0 then (some (0, ρ27)) else (some (1, ρ27)))) else (if (ρ.1 13 (Int32.toNatClampNeg p1)) = 5 then ((f_X13_rank i1 i2 ρ).bind fun r30 => (if r30 = (-1) then (some (0, ρ)) else (o2 (f_X13_removes i1 i2 ρ) fun r32 ρ33 => (if r32 < 0 then (some (0, ρ33)) else (some (1, ρ33)))))) else (if (ρ.1 13 (Int32.toNatClampNeg p1)) = 6 then (if inb ((9 + (2 * i1)) + 1) 137 = true then (lt (wI ρ 1 (Int32.toNatClampNeg ((9 + (2 * i1)) + 1)) i2) fun ρ36 => (some (1, ρ36))) else none) else (if (ρ.1 13 (Int32.toNatClampNeg p1)) = 7 then (o2 (f_X13_deposits i1 i2 ρ) fun r38 ρ39 => (if r38 ≤ 0 then (some (0, ρ39)) else (some (1, ρ39)))) else (if inb 2 137 = true then (if 9999 < ((ρ.1 1 (Int32.toNatClampNeg 2)) + i1) then (some (0, ρ)) else (o2 (f_X13_passes i1 ρ) fun r42 ρ43 => (if r42 < 0 then (some (0, ρ43)) else (some (1, ρ43))))) else none))))))))) else none)) else none)) else none)
set_option maxRecDepth 100000 in
def f_X13_four_3 (x1 : Int32) : Nat → Int32 → OM → Option (OM)
  | 0, _, _ => none
  | n + 1, x2, ρ => (if x2 < 0 then (some ρ) else (if inb (ρ.1 0 7) 700 = true then (lt (wI ρ 5 (Int32.toNatClampNeg (ρ.1 0 7)) ((x1 >>> (x2 &&& 31)) &&& 255)) fun ρ2 => (lt (wI ρ2 0 7 ((ρ2.1 0 7) + 1)) fun ρ3 => (f_X13_four_3 x1 n (x2 + (-8)) ρ3))) else none))
set_option maxRecDepth 100000 in
def f_X13_four (p1 : Int32) (ρ : OM) : Option (OM) := (f_X13_four_3 p1 FU 24 ρ)
set_option maxRecDepth 100000 in
def f_X13_appendInput (p1 : Int32) (p2 : Int32) (p3 : Int32) (p4 : Int32) (p5 : Int32) (ρ : OM) : Option (Int32 × OM) := (if ((ρ.1 0 7) + 20) ≤ 700 then (lt (wI ρ 0 12 0) fun ρ2 => (if (ρ2.1 0 12) ≤ 0 then ((f_X13_four p1 ρ2).bind fun ρ4 => ((f_X13_four p2 ρ4).bind fun ρ5 => ((f_X13_four p3 ρ5).bind fun ρ6 => ((f_X13_four p4 ρ6).bind fun ρ7 => ((f_X13_four p5 ρ7).bind fun ρ8 => (some ((ρ8.1 0 7), ρ8))))))) else (some (0, ρ2)))) else (lt (wI ρ 0 12 1) fun ρ9 => (if (ρ9.1 0 12) ≤ 0 then ((f_X13_four p1 ρ9).bind fun ρ11 => ((f_X13_four p2 ρ11).bind fun ρ12 => ((f_X13_four p3 ρ12).bind fun ρ13 => ((f_X13_four p4 ρ13).bind fun ρ14 => ((f_X13_four p5 ρ14).bind fun ρ15 => (some ((ρ15.1 0 7), ρ15))))))) else (some (0, ρ9)))))
set_option maxRecDepth 100000 in
def f_X13_truncateInput (p1 : Int32) (ρ : OM) : Option (Int32 × OM) := ((f_X13_isBetween p1 0 (ρ.1 0 7)).bind fun r1 => (o2 (f_X13_wants r1 ρ) fun r2 ρ3 => (if r2 = 0 then (some (0, ρ3)) else (lt (wI ρ3 0 7 p1) fun ρ5 => (some (p1, ρ5))))))
set_option maxRecDepth 100000 in
def f_X13_loadSetup  (ρ : OM) : Option (Int32 × OM) := (lt (wI ρ 0 12 0) fun ρ1 => ((f_X13_copies_1_2 ρ1).bind fun ρ2 => ((f_X13_starts ρ2).bind fun ρ3 => ((f_X13_readsSetup ρ3).bind fun ρ4 => (lt (wI ρ4 0 7 0) fun ρ5 => (if (ρ5.1 0 24) = 0 then (lt (wI ρ5 0 4 0) fun ρ7 => (if inb 0 137 = true then (some ((ρ7.1 1 (Int32.toNatClampNeg 0)), ρ7)) else none)) else ((f_X13_copies_2_1 ρ5).bind fun ρ8 => (some ((-1), ρ8)))))))))
set_option maxRecDepth 100000 in
def f_X13_runScript_14  : Nat → OM → Option (OM)
  | 0, _ => none
  | n + 1, ρ => (if (ρ.1 0 24) = 0 then (if (ρ.1 0 20) = 0 then (some ρ) else ((f_X13_readsCommand ρ).bind fun ρ6 => (f_X13_runScript_14  n ρ6))) else (some ρ))
set_option maxRecDepth 100000 in
def f_X13_runScript_55  : Nat → Int32 → OM → Option (Int32 × OM)
  | 0, _, _ => none
  | n + 1, x1, ρ => (if (ρ.1 0 26) ≤ x1 then (some (x1, ρ)) else (o2 (f_X13_does (3 * x1) ρ) fun r12 ρ13 => (if r12 = 0 then (some (x1, ρ13)) else (f_X13_runScript_55  n (x1 + 1) ρ13))))
set_option maxRecDepth 100000 in
def f_X13_runScript  (ρ : OM) : Option (Int32 × OM) := (lt (wI ρ 0 12 0) fun ρ1 => ((f_X13_starts ρ1).bind fun ρ2 => (lt (wI ρ2 0 26 0) fun ρ3 => ((f_X13_runScript_14  FU ρ3).bind fun ρ7 => (lt (wI ρ7 0 7 0) fun ρ8 => (if (ρ8.1 0 24) = 0 then ((f_X13_remembers ρ8).bind fun ρ10 => (f_X13_runScript_55  FU 0 ρ10)) else (some ((-1), ρ8))))))))
set_option maxRecDepth 100000 in
def f_X13_errorCode  (ρ : OM) : Option (Int32 × OM) := (lt (wI ρ 0 12 0) fun ρ1 => (some ((ρ1.1 0 8), ρ1)))
set_option maxRecDepth 100000 in
def f_X13_errorPosition  (ρ : OM) : Option (Int32 × OM) := (lt (wI ρ 0 12 0) fun ρ1 => (some ((ρ1.1 0 9), ρ1)))
set_option maxRecDepth 100000 in
def f_X13_sellerCount  (ρ : OM) : Option (Int32 × OM) := (lt (wI ρ 0 12 0) fun ρ1 => (if inb 0 137 = true then (some ((ρ1.1 1 (Int32.toNatClampNeg 0)), ρ1)) else none))
set_option maxRecDepth 100000 in
def f_X13_stallCount  (ρ : OM) : Option (Int32 × OM) := (lt (wI ρ 0 12 0) fun ρ1 => (if inb 1 137 = true then (some ((ρ1.1 1 (Int32.toNatClampNeg 1)), ρ1)) else none))
set_option maxRecDepth 100000 in
def f_X13_day  (ρ : OM) : Option (Int32 × OM) := (lt (wI ρ 0 12 0) fun ρ1 => (if inb 2 137 = true then (some ((ρ1.1 1 (Int32.toNatClampNeg 2)), ρ1)) else none))
set_option maxRecDepth 100000 in
def f_X13_balance (p1 : Int32) (ρ : OM) : Option (Int32 × OM) := ((f_X13_isSeller p1 ρ).bind fun r1 => (o2 (f_X13_wants r1 ρ) fun r2 ρ3 => (if r2 = 0 then (some (0, ρ3)) else ((f_X13_of p1 1 ρ3).bind fun r5 => (some (r5, ρ3))))))
set_option maxRecDepth 100000 in
def f_X13_income (p1 : Int32) (ρ : OM) : Option (Int32 × OM) := ((f_X13_isSeller p1 ρ).bind fun r1 => (o2 (f_X13_wants r1 ρ) fun r2 ρ3 => (if r2 = 0 then (some (0, ρ3)) else ((f_X13_of p1 2 ρ3).bind fun r5 => (some (r5, ρ3))))))
set_option maxRecDepth 100000 in
def f_X13_rent (p1 : Int32) (ρ : OM) : Option (Int32 × OM) := ((f_X13_isStall p1 ρ).bind fun r1 => (o2 (f_X13_wants r1 ρ) fun r2 ρ3 => (if r2 = 0 then (some (0, ρ3)) else ((f_X13_rentOf p1 ρ3).bind fun r5 => (some (r5, ρ3))))))
set_option maxRecDepth 100000 in
def f_X13_stallOf (p1 : Int32) (ρ : OM) : Option (Int32 × OM) := ((f_X13_isSeller p1 ρ).bind fun r1 => (o2 (f_X13_wants r1 ρ) fun r2 ρ3 => (if r2 = 0 then (some (0, ρ3)) else ((f_X13_of p1 3 ρ3).bind fun r5 => (some (r5, ρ3))))))
set_option maxRecDepth 100000 in
def f_X13_occupantOf (p1 : Int32) (ρ : OM) : Option (Int32 × OM) := ((f_X13_isStall p1 ρ).bind fun r1 => (o2 (f_X13_wants r1 ρ) fun r2 ρ3 => (if r2 = 0 then (some (0, ρ3)) else ((f_X13_occupant p1 ρ3).bind fun r5 => (some (r5, ρ3))))))
set_option maxRecDepth 100000 in
def f_X13_priorityOf (p1 : Int32) (ρ : OM) : Option (Int32 × OM) := ((f_X13_isSeller p1 ρ).bind fun r1 => (o2 (f_X13_wants r1 ρ) fun r2 ρ3 => (if r2 = 0 then (some (0, ρ3)) else ((f_X13_positionOf p1 ρ3).bind fun r5 => (some (r5, ρ3))))))
set_option maxRecDepth 100000 in
def f_X13_preferenceCount (p1 : Int32) (ρ : OM) : Option (Int32 × OM) := ((f_X13_isSeller p1 ρ).bind fun r1 => (o2 (f_X13_wants r1 ρ) fun r2 ρ3 => (if r2 = 0 then (some (0, ρ3)) else ((f_X13_of p1 4 ρ3).bind fun r5 => (some (r5, ρ3))))))
set_option maxRecDepth 100000 in
def f_X13_preferenceAt (p1 : Int32) (p2 : Int32) (ρ : OM) : Option (Int32 × OM) := ((f_X13_isSeller p1 ρ).bind fun r1 => (if r1 = 0 then (o2 (f_X13_wants 0 ρ) fun r3 ρ4 => (if r3 = 0 then (some (0, ρ4)) else ((f_X13_of p1 (5 + p2) ρ4).bind fun r6 => (some (r6, ρ4))))) else ((f_X13_of p1 4 ρ).bind fun r7 => ((f_X13_isBetween p2 0 (r7 - 1)).bind fun r8 => (if r8 = 0 then (o2 (f_X13_wants 0 ρ) fun r10 ρ11 => (if r10 = 0 then (some (0, ρ11)) else ((f_X13_of p1 (5 + p2) ρ11).bind fun r13 => (some (r13, ρ11))))) else (o2 (f_X13_wants 1 ρ) fun r14 ρ15 => (if r14 = 0 then (some (0, ρ15)) else ((f_X13_of p1 (5 + p2) ρ15).bind fun r17 => (some (r17, ρ15))))))))))
set_option maxRecDepth 100000 in
def f_X13_rankOf (p1 : Int32) (p2 : Int32) (ρ : OM) : Option (Int32 × OM) := ((f_X13_isSeller p1 ρ).bind fun r1 => (if r1 = 0 then (o2 (f_X13_wants 0 ρ) fun r3 ρ4 => (if r3 = 0 then (some (0, ρ4)) else ((f_X13_rank p1 p2 ρ4).bind fun r6 => (some (r6, ρ4))))) else ((f_X13_isStall p2 ρ).bind fun r7 => (if r7 = 0 then (o2 (f_X13_wants 0 ρ) fun r9 ρ10 => (if r9 = 0 then (some (0, ρ10)) else ((f_X13_rank p1 p2 ρ10).bind fun r12 => (some (r12, ρ10))))) else (o2 (f_X13_wants 1 ρ) fun r13 ρ14 => (if r13 = 0 then (some (0, ρ14)) else ((f_X13_rank p1 p2 ρ14).bind fun r16 => (some (r16, ρ14)))))))))
set_option maxRecDepth 100000 in
def f_X13_prefers (p1 : Int32) (p2 : Int32) (p3 : Int32) (ρ : OM) : Option (Int32 × OM) := ((f_X13_isSeller p1 ρ).bind fun r1 => (if r1 = 0 then (o2 (f_X13_wants 0 ρ) fun r3 ρ4 => (if r3 = 0 then (some (0, ρ4)) else ((f_X13_isBetter p1 p2 p3 ρ4).bind fun r6 => (if r6 = 0 then (some (0, ρ4)) else (some (1, ρ4)))))) else ((f_X13_isOutcome p2 ρ).bind fun r8 => (if r8 = 0 then (o2 (f_X13_wants 0 ρ) fun r10 ρ11 => (if r10 = 0 then (some (0, ρ11)) else ((f_X13_isBetter p1 p2 p3 ρ11).bind fun r13 => (if r13 = 0 then (some (0, ρ11)) else (some (1, ρ11)))))) else ((f_X13_isOutcome p3 ρ).bind fun r15 => (if r15 = 0 then (o2 (f_X13_wants 0 ρ) fun r17 ρ18 => (if r17 = 0 then (some (0, ρ18)) else ((f_X13_isBetter p1 p2 p3 ρ18).bind fun r20 => (if r20 = 0 then (some (0, ρ18)) else (some (1, ρ18)))))) else (o2 (f_X13_wants 1 ρ) fun r22 ρ23 => (if r22 = 0 then (some (0, ρ23)) else ((f_X13_isBetter p1 p2 p3 ρ23).bind fun r25 => (if r25 = 0 then (some (0, ρ23)) else (some (1, ρ23))))))))))))
set_option maxRecDepth 100000 in
def f_X13_letters_4  : Nat → Int32 → Int32 → Option (Int32)
  | 0, _, _ => none
  | n + 1, x2, x1 => (if x2 ≤ 0 then (some x1) else (lt ((x2 / 27)) fun i2 => (f_X13_letters_4  n i2 (x1 + 1))))
set_option maxRecDepth 100000 in
def f_X13_letters (p0 : Int32)  : Option (Int32) := (f_X13_letters_4  FU p0 0)
set_option maxRecDepth 100000 in
def f_X13_letterOf_25 (x1 : Int32) : Nat → Int32 → Int32 → Option (Int32)
  | 0, _, _ => none
  | n + 1, x3, x2 => (if x3 ≤ x1 then (some ((x2 - x2 / 27 * 27) + 96)) else (lt ((x2 / 27)) fun i7 => (f_X13_letterOf_25 x1 n (x3 + (-1)) i7)))
set_option maxRecDepth 100000 in
def f_X13_letterOf (p0 : Int32) (p1 : Int32)  : Option (Int32) := ((f_X13_letters p0).bind fun r1 => ((f_X13_isBetween p1 0 (r1 - 1)).bind fun r2 => (if r2 = 0 then (some (-1)) else ((f_X13_letters p0).bind fun r4 => (lt ((r4 - 1)) fun i5 => (f_X13_letterOf_25 p1 FU i5 p0))))))
set_option maxRecDepth 100000 in
def f_X13_sellerNameByte (p1 : Int32) (p2 : Int32) (ρ : OM) : Option (Int32 × OM) := ((f_X13_isSeller p1 ρ).bind fun r1 => (o2 (f_X13_wants r1 ρ) fun r2 ρ3 => (if r2 = 0 then (some (0, ρ3)) else ((f_X13_of p1 0 ρ3).bind fun r5 => ((f_X13_letterOf r5 p2).bind fun r6 => (some (r6, ρ3)))))))
set_option maxRecDepth 100000 in
def f_X13_stallNameByte (p1 : Int32) (p2 : Int32) (ρ : OM) : Option (Int32 × OM) := ((f_X13_isStall p1 ρ).bind fun r1 => (o2 (f_X13_wants r1 ρ) fun r2 ρ3 => (if r2 = 0 then (some (0, ρ3)) else (if inb (9 + (2 * p1)) 137 = true then ((f_X13_letterOf (ρ3.1 1 (Int32.toNatClampNeg (9 + (2 * p1)))) p2).bind fun r5 => (some (r5, ρ3))) else none))))
set_option maxRecDepth 100000 in
def f_X13_isName_13 (ρ : OM) : Nat → Int32 → Int32 → Option (Int32)
  | 0, _, _ => none
  | n + 1, x2, x1 => (if (ρ.1 0 7) ≤ x2 then (if bz x1 = true then some x1 else none) else (if x1 = 0 then (if bz x1 = true then some x1 else none) else ((f_X13_isLetter x2 ρ).bind fun r4 => (f_X13_isName_13 ρ n (x2 + 1) r4))))
set_option maxRecDepth 100000 in
def f_X13_isName  (ρ : OM) : Option (Int32) := ((f_X13_isBetween (ρ.1 0 7) 1 6).bind fun r1 => (f_X13_isName_13 ρ FU 0 r1))
set_option maxRecDepth 100000 in
def f_X13_findSeller  (ρ : OM) : Option (Int32 × OM) := (lt (wI ρ 0 12 0) fun ρ1 => ((f_X13_isName ρ1).bind fun r2 => (if r2 = 0 then (some ((-1), ρ1)) else ((f_X13_letterSum 0 (ρ1.1 0 7) ρ1).bind fun r4 => ((f_X13_sellerNamed r4 ρ1).bind fun r5 => (some (r5, ρ1)))))))
set_option maxRecDepth 100000 in
def f_X13_freeStallCount_9 (ρ : OM) : Nat → Int32 → Int32 → Option (Int32 × OM)
  | 0, _, _ => none
  | n + 1, x2, x1 => (if inb 1 137 = true then (if (ρ.1 1 (Int32.toNatClampNeg 1)) ≤ x2 then (some (x1, ρ)) else ((f_X13_occupant x2 ρ).bind fun r3 => (if r3 = (-1) then (lt ((x1 + 1)) fun i6 => (f_X13_freeStallCount_9 ρ n (x2 + 1) i6)) else (lt ((x1 + 0)) fun i5 => (f_X13_freeStallCount_9 ρ n (x2 + 1) i5))))) else none)
set_option maxRecDepth 100000 in
def f_X13_freeStallCount  (ρ : OM) : Option (Int32 × OM) := (lt (wI ρ 0 12 0) fun ρ1 => (f_X13_freeStallCount_9 ρ1 FU 0 0))
set_option maxRecDepth 100000 in
def f_X13_envies (p1 : Int32) (p2 : Int32) (ρ : OM) : Option (Int32 × OM) := ((f_X13_isSeller p1 ρ).bind fun r1 => (if r1 = 0 then (o2 (f_X13_wants 0 ρ) fun r3 ρ4 => (if r3 = 0 then (some (0, ρ4)) else ((f_X13_longsFor p1 p2 ρ4).bind fun r6 => (if r6 = 0 then (some (0, ρ4)) else (some (1, ρ4)))))) else ((f_X13_isSeller p2 ρ).bind fun r8 => (if r8 = 0 then (o2 (f_X13_wants 0 ρ) fun r10 ρ11 => (if r10 = 0 then (some (0, ρ11)) else ((f_X13_longsFor p1 p2 ρ11).bind fun r13 => (if r13 = 0 then (some (0, ρ11)) else (some (1, ρ11)))))) else (o2 (f_X13_wants 1 ρ) fun r15 ρ16 => (if r15 = 0 then (some (0, ρ16)) else ((f_X13_longsFor p1 p2 ρ16).bind fun r18 => (if r18 = 0 then (some (0, ρ16)) else (some (1, ρ16))))))))))
set_option maxRecDepth 100000 in
def f_X13_wouldSwap (p1 : Int32) (p2 : Int32) (ρ : OM) : Option (Int32 × OM) := ((f_X13_isSeller p1 ρ).bind fun r1 => (if r1 = 0 then (o2 (f_X13_wants 0 ρ) fun r3 ρ4 => (if r3 = 0 then (some (0, ρ4)) else ((f_X13_exchange p1 p2 ρ4).bind fun r6 => (if r6 = 0 then (some (0, ρ4)) else (some (1, ρ4)))))) else ((f_X13_isSeller p2 ρ).bind fun r8 => (if r8 = 0 then (o2 (f_X13_wants 0 ρ) fun r10 ρ11 => (if r10 = 0 then (some (0, ρ11)) else ((f_X13_exchange p1 p2 ρ11).bind fun r13 => (if r13 = 0 then (some (0, ρ11)) else (some (1, ρ11)))))) else (o2 (f_X13_wants 1 ρ) fun r15 ρ16 => (if r15 = 0 then (some (0, ρ16)) else ((f_X13_exchange p1 p2 ρ16).bind fun r18 => (if r18 = 0 then (some (0, ρ16)) else (some (1, ρ16))))))))))
set_option maxRecDepth 100000 in
def f_X13_swapPairCount_21 (x2 : Int32) (ρ : OM) : Nat → Int32 → Int32 → Option (Int32)
  | 0, _, _ => none
  | n + 1, x3, x1 => (if x2 ≤ x3 then (some x1) else ((f_X13_exchange x2 x3 ρ).bind fun r4 => (if r4 = 0 then (lt ((x1 + 0)) fun i6 => (f_X13_swapPairCount_21 x2 ρ n (x3 + 1) i6)) else (lt ((x1 + 1)) fun i7 => (f_X13_swapPairCount_21 x2 ρ n (x3 + 1) i7)))))
set_option maxRecDepth 100000 in
def f_X13_swapPairCount_9 (ρ : OM) : Nat → Int32 → Int32 → Option (Int32 × OM)
  | 0, _, _ => none
  | n + 1, x2, x1 => (if inb 0 137 = true then (if (ρ.1 1 (Int32.toNatClampNeg 0)) ≤ x2 then (some (x1, ρ)) else ((f_X13_swapPairCount_21 x2 ρ FU 0 x1).bind fun i8 => (f_X13_swapPairCount_9 ρ n (x2 + 1) i8))) else none)
set_option maxRecDepth 100000 in
def f_X13_swapPairCount  (ρ : OM) : Option (Int32 × OM) := (lt (wI ρ 0 12 0) fun ρ1 => (f_X13_swapPairCount_9 ρ1 FU 0 0))
set_option maxRecDepth 100000 in
def f_X13_improvingCycleLength (p1 : Int32) (ρ : OM) : Option (Int32 × OM) := ((f_X13_isSeller p1 ρ).bind fun r1 => (o2 (f_X13_wants r1 ρ) fun r2 ρ3 => (if r2 = 0 then (some (0, ρ3)) else (o2 (f_X13_shortestCycle p1 ρ3) fun r5 ρ6 => (some (r5, ρ6))))))
set_option maxRecDepth 100000 in
def f_X13_betterFreeStall (p1 : Int32) (ρ : OM) : Option (Int32 × OM) := ((f_X13_isSeller p1 ρ).bind fun r1 => (o2 (f_X13_wants r1 ρ) fun r2 ρ3 => (if r2 = 0 then (some (0, ρ3)) else ((f_X13_betterFree p1 ρ3).bind fun r5 => (some (r5, ρ3))))))
set_option maxRecDepth 100000 in
def f_X13_isEfficient_9  : Nat → Int32 → Int32 → OM → Option (Int32 × OM)
  | 0, _, _, _ => none
  | n + 1, x2, x1, ρ => (if inb 0 137 = true then (if (ρ.1 1 (Int32.toNatClampNeg 0)) ≤ x2 then (if bz x1 = true then some (x1, ρ) else none) else ((f_X13_of x2 3 ρ).bind fun r3 => (if r3 = (-1) then (if x1 = 0 then (f_X13_isEfficient_9  n (x2 + 1) 0 ρ) else ((f_X13_betterFree x2 ρ).bind fun r7 => (if r7 = (-1) then (o2 (f_X13_shortestCycle x2 ρ) fun r9 ρ10 => (if r9 = (-1) then (f_X13_isEfficient_9  n (x2 + 1) 1 ρ10) else (f_X13_isEfficient_9  n (x2 + 1) 0 ρ10))) else (f_X13_isEfficient_9  n (x2 + 1) 0 ρ)))) else ((f_X13_rank x2 r3 ρ).bind fun r12 => (if r12 = (-1) then (if x1 = 0 then (f_X13_isEfficient_9  n (x2 + 1) 0 ρ) else (f_X13_isEfficient_9  n (x2 + 1) 0 ρ)) else (if x1 = 0 then (f_X13_isEfficient_9  n (x2 + 1) 0 ρ) else ((f_X13_betterFree x2 ρ).bind fun r18 => (if r18 = (-1) then (o2 (f_X13_shortestCycle x2 ρ) fun r20 ρ21 => (if r20 = (-1) then (f_X13_isEfficient_9  n (x2 + 1) 1 ρ21) else (f_X13_isEfficient_9  n (x2 + 1) 0 ρ21))) else (f_X13_isEfficient_9  n (x2 + 1) 0 ρ))))))))) else none)
set_option maxRecDepth 100000 in
def f_X13_isEfficient  (ρ : OM) : Option (Int32 × OM) := (lt (wI ρ 0 12 0) fun ρ1 => (f_X13_isEfficient_9  FU 0 1 ρ1))
set_option maxRecDepth 100000 in
def f_X13_blockReason (p1 : Int32) (p2 : Int32) (ρ : OM) : Option (Int32 × OM) := ((f_X13_isSeller p1 ρ).bind fun r1 => (if r1 = 0 then (o2 (f_X13_wants 0 ρ) fun r3 ρ4 => (if r3 = 0 then (some (0, ρ4)) else ((f_X13_of p1 3 ρ4).bind fun r6 => (if r6 = p2 then (some (0, ρ4)) else ((f_X13_rank p1 p2 ρ4).bind fun r8 => (if r8 = (-1) then (some (1, ρ4)) else (if r6 = (-1) then ((f_X13_occupant p2 ρ4).bind fun r11 => (if r11 = (-1) then ((f_X13_rentOf p2 ρ4).bind fun r13 => ((f_X13_of p1 1 ρ4).bind fun r14 => (if r13 ≤ r14 then (some (5, ρ4)) else (some (4, ρ4))))) else (some (3, ρ4)))) else ((f_X13_isBetter p1 r6 p2 ρ4).bind fun r16 => (if r16 = 0 then ((f_X13_occupant p2 ρ4).bind fun r18 => (if r18 = (-1) then ((f_X13_rentOf p2 ρ4).bind fun r20 => ((f_X13_of p1 1 ρ4).bind fun r21 => (if r20 ≤ r21 then (some (5, ρ4)) else (some (4, ρ4))))) else (some (3, ρ4)))) else (some (2, ρ4))))))))))) else ((f_X13_isStall p2 ρ).bind fun r23 => (if r23 = 0 then (o2 (f_X13_wants 0 ρ) fun r25 ρ26 => (if r25 = 0 then (some (0, ρ26)) else ((f_X13_of p1 3 ρ26).bind fun r28 => (if r28 = p2 then (some (0, ρ26)) else ((f_X13_rank p1 p2 ρ26).bind fun r30 => (if r30 = (-1) then (some (1, ρ26)) else (if r28 = (-1) then ((f_X13_occupant p2 ρ26).bind fun r33 => (if r33 = (-1) then ((f_X13_rentOf p2 ρ26).bind fun r35 => ((f_X13_of p1 1 ρ26).bind fun r36 => (if r35 ≤ r36 then (some (5, ρ26)) else (some (4, ρ26))))) else (some (3, ρ26)))) else ((f_X13_isBetter p1 r28 p2 ρ26).bind fun r38 => (if r38 = 0 then ((f_X13_occupant p2 ρ26).bind fun r40 => (if r40 = (-1) then ((f_X13_rentOf p2 ρ26).bind fun r42 => ((f_X13_of p1 1 ρ26).bind fun r43 => (if r42 ≤ r43 then (some (5, ρ26)) else (some (4, ρ26))))) else (some (3, ρ26)))) else (some (2, ρ26))))))))))) else (o2 (f_X13_wants 1 ρ) fun r45 ρ46 => (if r45 = 0 then (some (0, ρ46)) else ((f_X13_of p1 3 ρ46).bind fun r48 => (if r48 = p2 then (some (0, ρ46)) else ((f_X13_rank p1 p2 ρ46).bind fun r50 => (if r50 = (-1) then (some (1, ρ46)) else (if r48 = (-1) then ((f_X13_occupant p2 ρ46).bind fun r53 => (if r53 = (-1) then ((f_X13_rentOf p2 ρ46).bind fun r55 => ((f_X13_of p1 1 ρ46).bind fun r56 => (if r55 ≤ r56 then (some (5, ρ46)) else (some (4, ρ46))))) else (some (3, ρ46)))) else ((f_X13_isBetter p1 r48 p2 ρ46).bind fun r58 => (if r58 = 0 then ((f_X13_occupant p2 ρ46).bind fun r60 => (if r60 = (-1) then ((f_X13_rentOf p2 ρ46).bind fun r62 => ((f_X13_of p1 1 ρ46).bind fun r63 => (if r62 ≤ r63 then (some (5, ρ46)) else (some (4, ρ46))))) else (some (3, ρ46)))) else (some (2, ρ46)))))))))))))))
set_option maxRecDepth 100000 in
def f_X13_allocatedStall (p1 : Int32) (ρ : OM) : Option (Int32 × OM) := ((f_X13_isSeller p1 ρ).bind fun r1 => (o2 (f_X13_wants r1 ρ) fun r2 ρ3 => (if r2 = 0 then (some (0, ρ3)) else ((f_X13_allocates ρ3).bind fun ρ5 => (if inb p1 8 = true then (some ((ρ5.1 10 (Int32.toNatClampNeg p1)), ρ5)) else none)))))
set_option maxRecDepth 100000 in
def f_X13_allocatedIfFirst (p1 : Int32) (ρ : OM) : Option (Int32 × OM) := ((f_X13_isSeller p1 ρ).bind fun r1 => (o2 (f_X13_wants r1 ρ) fun r2 ρ3 => (if r2 = 0 then (some (0, ρ3)) else ((f_X13_copies_1_2 ρ3).bind fun ρ5 => (o2 (f_X13_moves p1 0 ρ5) fun r6 ρ7 => ((f_X13_allocates ρ7).bind fun ρ8 => ((f_X13_copies_2_1 ρ8).bind fun ρ9 => (if inb p1 8 = true then (some ((ρ9.1 10 (Int32.toNatClampNeg p1)), ρ9)) else none))))))))
set_option maxRecDepth 100000 in
def f_X13_allocatedIfReported (p1 : Int32) (p2 : Int32) (ρ : OM) : Option (Int32 × OM) := ((f_X13_isSeller p1 ρ).bind fun r1 => (if r1 = 0 then (o2 (f_X13_wants 0 ρ) fun r3 ρ4 => (if r3 = 0 then (some (0, ρ4)) else ((f_X13_copies_1_2 ρ4).bind fun ρ6 => (o2 (f_X13_putsFirst p1 p2 ρ6) fun r7 ρ8 => ((f_X13_allocates ρ8).bind fun ρ9 => ((f_X13_copies_2_1 ρ9).bind fun ρ10 => (if inb p1 8 = true then (some ((ρ10.1 10 (Int32.toNatClampNeg p1)), ρ10)) else none))))))) else ((f_X13_isStall p2 ρ).bind fun r11 => (if r11 = 0 then (o2 (f_X13_wants 0 ρ) fun r13 ρ14 => (if r13 = 0 then (some (0, ρ14)) else ((f_X13_copies_1_2 ρ14).bind fun ρ16 => (o2 (f_X13_putsFirst p1 p2 ρ16) fun r17 ρ18 => ((f_X13_allocates ρ18).bind fun ρ19 => ((f_X13_copies_2_1 ρ19).bind fun ρ20 => (if inb p1 8 = true then (some ((ρ20.1 10 (Int32.toNatClampNeg p1)), ρ20)) else none))))))) else (o2 (f_X13_wants 1 ρ) fun r21 ρ22 => (if r21 = 0 then (some (0, ρ22)) else ((f_X13_copies_1_2 ρ22).bind fun ρ24 => (o2 (f_X13_putsFirst p1 p2 ρ24) fun r25 ρ26 => ((f_X13_allocates ρ26).bind fun ρ27 => ((f_X13_copies_2_1 ρ27).bind fun ρ28 => (if inb p1 8 = true then (some ((ρ28.1 10 (Int32.toNatClampNeg p1)), ρ28)) else none)))))))))))
set_option maxRecDepth 100000 in
def f_X13_gainerCount_13 (ρ : OM) : Nat → Int32 → Int32 → Option (Int32 × OM)
  | 0, _, _ => none
  | n + 1, x2, x1 => (if inb 0 137 = true then (if (ρ.1 1 (Int32.toNatClampNeg 0)) ≤ x2 then (some (x1, ρ)) else (if inb x2 8 = true then ((f_X13_of x2 3 ρ).bind fun r4 => ((f_X13_isBetter x2 (ρ.1 10 (Int32.toNatClampNeg x2)) r4 ρ).bind fun r5 => (if r5 = 0 then (lt ((x1 + 0)) fun i7 => (f_X13_gainerCount_13 ρ n (x2 + 1) i7)) else (lt ((x1 + 1)) fun i8 => (f_X13_gainerCount_13 ρ n (x2 + 1) i8))))) else none)) else none)
set_option maxRecDepth 100000 in
def f_X13_gainerCount  (ρ : OM) : Option (Int32 × OM) := (lt (wI ρ 0 12 0) fun ρ1 => ((f_X13_allocates ρ1).bind fun ρ2 => (f_X13_gainerCount_13 ρ2 FU 0 0)))
set_option maxRecDepth 100000 in
def f_X13_takes (p1 : Int32) (p2 : Int32) (p3 : Int32) (ρ : OM) : Option (OM) := (if inb p1 256 = true then (if (ρ.1 14 (Int32.toNatClampNeg p1)) = (-1) then (if inb p1 256 = true then (lt (wI ρ 14 (Int32.toNatClampNeg p1) p2) fun ρ2 => (if inb p1 256 = true then (lt (wI ρ2 15 (Int32.toNatClampNeg p1) p3) fun ρ3 => (some ρ3)) else none)) else none) else (if inb p1 256 = true then (if (ρ.1 15 (Int32.toNatClampNeg p1)) ≤ p3 then (some ρ) else (if inb p1 256 = true then (lt (wI ρ 14 (Int32.toNatClampNeg p1) p2) fun ρ5 => (if inb p1 256 = true then (lt (wI ρ5 15 (Int32.toNatClampNeg p1) p3) fun ρ6 => (some ρ6)) else none)) else none)) else none)) else none)
set_option maxRecDepth 100000 in
def f_X13_matches_2  : Nat → Int32 → OM → Option (OM)
  | 0, _, _ => none
  | n + 1, x1, ρ => (if 256 ≤ x1 then (some ρ) else (if x1 = 0 then (if inb x1 256 = true then (lt (wI ρ 14 (Int32.toNatClampNeg x1) 0) fun ρ5 => (if inb x1 256 = true then (lt (wI ρ5 15 (Int32.toNatClampNeg x1) 0) fun ρ6 => (f_X13_matches_2  n (x1 + 1) ρ6)) else none)) else none) else (if inb x1 256 = true then (lt (wI ρ 14 (Int32.toNatClampNeg x1) (-1)) fun ρ3 => (if inb x1 256 = true then (lt (wI ρ3 15 (Int32.toNatClampNeg x1) 0) fun ρ4 => (f_X13_matches_2  n (x1 + 1) ρ4)) else none)) else none)))
set_option maxRecDepth 100000 in
def f_X13_matches_59 (x1 : Int32) (x2 : Int32) : Nat → Int32 → OM → Option (OM)
  | 0, _, _ => none
  | n + 1, x3, ρ => ((f_X13_of x1 4 ρ).bind fun r10 => (if r10 ≤ x3 then (some ρ) else ((f_X13_of x1 (5 + x3) ρ).bind fun r12 => (lt ((1 <<< (r12 &&& 31))) fun i13 => (if (x2 &&& i13) = 0 then (f_X13_matches_59 x1 x2 n (x3 + 1) ρ) else (if inb (x2 - i13) 256 = true then (if (ρ.1 14 (Int32.toNatClampNeg (x2 - i13))) = (-1) then (f_X13_matches_59 x1 x2 n (x3 + 1) ρ) else (if inb (x2 - i13) 256 = true then (if inb (x2 - i13) 256 = true then ((f_X13_takes x2 ((ρ.1 14 (Int32.toNatClampNeg (x2 - i13))) + 1) ((ρ.1 15 (Int32.toNatClampNeg (x2 - i13))) + x3) ρ).bind fun ρ16 => (f_X13_matches_59 x1 x2 n (x3 + 1) ρ16)) else none) else none)) else none))))))
set_option maxRecDepth 100000 in
def f_X13_matches_53 (x1 : Int32) : Nat → Int32 → OM → Option (OM)
  | 0, _, _ => none
  | n + 1, x2, ρ => (if x2 ≤ 0 then (some ρ) else ((f_X13_matches_59 x1 x2 FU 0 ρ).bind fun ρ17 => (f_X13_matches_53 x1 n (x2 + (-1)) ρ17)))
set_option maxRecDepth 100000 in
def f_X13_matches_39  : Nat → Int32 → OM → Option (OM)
  | 0, _, _ => none
  | n + 1, x1, ρ => (if inb 0 137 = true then (if (ρ.1 1 (Int32.toNatClampNeg 0)) ≤ x1 then (some ρ) else ((f_X13_matches_53 x1 FU 255 ρ).bind fun ρ18 => (f_X13_matches_39  n (x1 + 1) ρ18))) else none)
set_option maxRecDepth 100000 in
def f_X13_matches  (ρ : OM) : Option (OM) := ((f_X13_matches_2  FU 0 ρ).bind fun ρ7 => (f_X13_matches_39  FU 0 ρ7))
set_option maxRecDepth 100000 in
def f_X13_bestSet_8 (ρ : OM) : Nat → Int32 → Int32 → Option (Int32 × OM)
  | 0, _, _ => none
  | n + 1, x2, x1 => (if 256 ≤ x2 then (some (x1, ρ)) else (if inb x2 256 = true then (if inb x1 256 = true then (lt (((ρ.1 14 (Int32.toNatClampNeg x2)) - (ρ.1 14 (Int32.toNatClampNeg x1)))) fun i3 => (if 0 < i3 then (f_X13_bestSet_8 ρ n (x2 + 1) x2) else (if i3 = 0 then (if inb x2 256 = true then (if inb x1 256 = true then (if (ρ.1 15 (Int32.toNatClampNeg x1)) ≤ (ρ.1 15 (Int32.toNatClampNeg x2)) then (f_X13_bestSet_8 ρ n (x2 + 1) x1) else (f_X13_bestSet_8 ρ n (x2 + 1) x2)) else none) else none) else (f_X13_bestSet_8 ρ n (x2 + 1) x1)))) else none) else none))
set_option maxRecDepth 100000 in
def f_X13_bestSet  (ρ : OM) : Option (Int32 × OM) := ((f_X13_matches ρ).bind fun ρ1 => (f_X13_bestSet_8 ρ1 FU 1 0))
set_option maxRecDepth 100000 in
def f_X13_maximumMatchingSize  (ρ : OM) : Option (Int32 × OM) := (lt (wI ρ 0 12 0) fun ρ1 => (o2 (f_X13_bestSet ρ1) fun r2 ρ3 => (if inb r2 256 = true then (some ((ρ3.1 14 (Int32.toNatClampNeg r2)), ρ3)) else none)))
set_option maxRecDepth 100000 in
def f_X13_leastRankSum  (ρ : OM) : Option (Int32 × OM) := (lt (wI ρ 0 12 0) fun ρ1 => (o2 (f_X13_bestSet ρ1) fun r2 ρ3 => (if inb r2 256 = true then (some ((ρ3.1 15 (Int32.toNatClampNeg r2)), ρ3)) else none)))
set_option maxRecDepth 100000 in
def f_X13_daysUntilEviction_38 (x2 : Int32) (x1 : Int32) (ρ : OM) : Nat → Int32 → Int32 → Option (Int32 × OM)
  | 0, _, _ => none
  | n + 1, x4, x3 => (if 400 < x4 then (some ((-1), ρ)) else ((f_X13_of x1 2 ρ).bind fun r9 => (lt ((x3 + r9)) fun i10 => ((f_X13_rentOf x2 ρ).bind fun r11 => (if r11 ≤ i10 then ((f_X13_rentOf x2 ρ).bind fun r13 => (lt ((i10 - r13)) fun i14 => (f_X13_daysUntilEviction_38 x2 x1 ρ n (x4 + 1) i14))) else (some (x4, ρ)))))))
set_option maxRecDepth 100000 in
def f_X13_daysUntilEviction (p1 : Int32) (ρ : OM) : Option (Int32 × OM) := ((f_X13_isSeller p1 ρ).bind fun r1 => (o2 (f_X13_wants r1 ρ) fun r2 ρ3 => (if r2 = 0 then (some (0, ρ3)) else ((f_X13_of p1 3 ρ3).bind fun r5 => (if r5 = (-1) then (some ((-1), ρ3)) else ((f_X13_of p1 1 ρ3).bind fun r7 => (f_X13_daysUntilEviction_38 r5 p1 ρ3 FU 1 r7)))))))
set_option maxRecDepth 100000 in
def f_X13_balanceAfter (p1 : Int32) (p2 : Int32) (ρ : OM) : Option (Int32 × OM) := ((f_X13_isSeller p1 ρ).bind fun r1 => (if r1 = 0 then (lt (wI ρ 0 12 1) fun ρ19 => (if (ρ19.1 0 12) ≤ 0 then ((f_X13_copies_1_2 ρ19).bind fun ρ21 => (o2 (f_X13_passes p2 ρ21) fun r22 ρ23 => ((f_X13_of p1 1 ρ23).bind fun r24 => ((f_X13_copies_2_1 ρ23).bind fun ρ25 => (some (r24, ρ25)))))) else (some (0, ρ19)))) else ((f_X13_isBetween p2 0 400).bind fun r3 => (if r3 = 0 then (lt (wI ρ 0 12 2) fun ρ12 => (if (ρ12.1 0 12) ≤ 0 then ((f_X13_copies_1_2 ρ12).bind fun ρ14 => (o2 (f_X13_passes p2 ρ14) fun r15 ρ16 => ((f_X13_of p1 1 ρ16).bind fun r17 => ((f_X13_copies_2_1 ρ16).bind fun ρ18 => (some (r17, ρ18)))))) else (some (0, ρ12)))) else (lt (wI ρ 0 12 0) fun ρ5 => (if (ρ5.1 0 12) ≤ 0 then ((f_X13_copies_1_2 ρ5).bind fun ρ7 => (o2 (f_X13_passes p2 ρ7) fun r8 ρ9 => ((f_X13_of p1 1 ρ9).bind fun r10 => ((f_X13_copies_2_1 ρ9).bind fun ρ11 => (some (r10, ρ11)))))) else (some (0, ρ5))))))))
set_option maxRecDepth 100000 in
def f_X13_rentPaid  (ρ : OM) : Option (Int32 × OM) := (lt (wI ρ 0 12 0) fun ρ1 => (if inb 3 137 = true then (some ((ρ1.1 1 (Int32.toNatClampNeg 3)), ρ1)) else none))
set_option maxRecDepth 100000 in
def f_X13_evictionCount  (ρ : OM) : Option (Int32 × OM) := (lt (wI ρ 0 12 0) fun ρ1 => (if inb 4 137 = true then (some ((ρ1.1 1 (Int32.toNatClampNeg 4)), ρ1)) else none))
set_option maxRecDepth 100000 in
def f_X13_swapCount  (ρ : OM) : Option (Int32 × OM) := (lt (wI ρ 0 12 0) fun ρ1 => (if inb 5 137 = true then (some ((ρ1.1 1 (Int32.toNatClampNeg 5)), ρ1)) else none))
set_option maxRecDepth 100000 in
def f_X13_relocationCount  (ρ : OM) : Option (Int32 × OM) := (lt (wI ρ 0 12 0) fun ρ1 => (if inb 6 137 = true then (some ((ρ1.1 1 (Int32.toNatClampNeg 6)), ρ1)) else none))
set_option maxRecDepth 100000 in
def f_X13_meanRank_11 (ρ : OM) : Nat → Int32 → Int32 → Int32 → Option (Int32 × Int32)
  | 0, _, _, _ => none
  | n + 1, x3, x2, x1 => (if inb 0 137 = true then (if (ρ.1 1 (Int32.toNatClampNeg 0)) ≤ x3 then (some (x1, x2)) else ((f_X13_of x3 3 ρ).bind fun r3 => (if r3 = (-1) then (lt ((x1 + 0)) fun i16 => (lt ((x2 + 0)) fun i18 => (f_X13_meanRank_11 ρ n (x3 + 1) i18 i16))) else ((f_X13_rank x3 r3 ρ).bind fun r5 => (if r5 = (-1) then (lt ((x1 + 0)) fun i11 => (if r5 = (-1) then (lt ((x2 + 0)) fun i14 => (f_X13_meanRank_11 ρ n (x3 + 1) i14 i11)) else (lt ((x2 + r5)) fun i13 => (f_X13_meanRank_11 ρ n (x3 + 1) i13 i11)))) else (lt ((x1 + 1)) fun i7 => (if r5 = (-1) then (lt ((x2 + 0)) fun i10 => (f_X13_meanRank_11 ρ n (x3 + 1) i10 i7)) else (lt ((x2 + r5)) fun i9 => (f_X13_meanRank_11 ρ n (x3 + 1) i9 i7))))))))) else none)
set_option maxRecDepth 100000 in
def f_X13_meanRank  (ρ : OM) : Option (UInt64 × OM) := (lt (wI ρ 0 12 0) fun ρ1 => (o2 (f_X13_meanRank_11 ρ1 FU 0 0 0) fun i19 i20 => (if i19 = 0 then (some (FP.dconst0, ρ1)) else (if nn64 (FP.ddiv (FP.i2d i20) (FP.i2d i19)) = true then (some ((FP.ddiv (FP.i2d i20) (FP.i2d i19)), ρ1)) else none))))
set_option maxRecDepth 100000 in
def f_X13_placedFraction_9 (ρ : OM) : Nat → Int32 → Int32 → Option (UInt32 × OM)
  | 0, _, _ => none
  | n + 1, x2, x1 => (if inb 0 137 = true then (if (ρ.1 1 (Int32.toNatClampNeg 0)) ≤ x2 then (if inb 0 137 = true then (if nn32 (FP.fdiv (FP.i2f x1) (FP.i2f (ρ.1 1 (Int32.toNatClampNeg 0)))) = true then (some ((FP.fdiv (FP.i2f x1) (FP.i2f (ρ.1 1 (Int32.toNatClampNeg 0)))), ρ)) else none) else none) else ((f_X13_of x2 3 ρ).bind fun r3 => (if r3 = (-1) then (lt ((x1 + 0)) fun i6 => (f_X13_placedFraction_9 ρ n (x2 + 1) i6)) else (lt ((x1 + 1)) fun i5 => (f_X13_placedFraction_9 ρ n (x2 + 1) i5))))) else none)
set_option maxRecDepth 100000 in
def f_X13_placedFraction  (ρ : OM) : Option (UInt32 × OM) := (lt (wI ρ 0 12 0) fun ρ1 => (f_X13_placedFraction_9 ρ1 FU 0 0))
set_option maxRecDepth 100000 in
def f_X13_ledgerDifference  (ρ : OM) : Option (Int32 × OM) := (lt (wI ρ 0 12 0) fun ρ1 => ((f_X13_balances ρ1).bind fun r2 => (if inb 7 137 = true then (if inb 8 137 = true then (if inb 3 137 = true then (some ((((r2 - (ρ1.1 1 (Int32.toNatClampNeg 7))) - (ρ1.1 1 (Int32.toNatClampNeg 8))) + (ρ1.1 1 (Int32.toNatClampNeg 3))), ρ1)) else none) else none) else none)))
set_option maxRecDepth 100000 in
def f_X13_assign (p1 : Int32) (p2 : Int32) (ρ : OM) : Option (Int32 × OM) := ((f_X13_isSeller p1 ρ).bind fun r1 => (if r1 = 0 then (lt (wI ρ 0 12 1) fun ρ4 => (if (ρ4.1 0 12) ≤ 0 then ((f_X13_remembers ρ4).bind fun ρ6 => (o2 (f_X13_assigns p1 p2 ρ6) fun r7 ρ8 => (some (r7, ρ8)))) else (some (0, ρ4)))) else ((f_X13_isStall p2 ρ).bind fun r9 => (if r9 = 0 then (lt (wI ρ 0 12 1) fun ρ12 => (if (ρ12.1 0 12) ≤ 0 then ((f_X13_remembers ρ12).bind fun ρ14 => (o2 (f_X13_assigns p1 p2 ρ14) fun r15 ρ16 => (some (r15, ρ16)))) else (some (0, ρ12)))) else ((f_X13_canAssign p1 p2 ρ).bind fun r18 => (if r18 = 0 then (lt (wI ρ 0 12 2) fun ρ25 => (if (ρ25.1 0 12) ≤ 0 then ((f_X13_remembers ρ25).bind fun ρ27 => (o2 (f_X13_assigns p1 p2 ρ27) fun r28 ρ29 => (some (r28, ρ29)))) else (some (0, ρ25)))) else (lt (wI ρ 0 12 0) fun ρ20 => (if (ρ20.1 0 12) ≤ 0 then ((f_X13_remembers ρ20).bind fun ρ22 => (o2 (f_X13_assigns p1 p2 ρ22) fun r23 ρ24 => (some (r23, ρ24)))) else (some (0, ρ20))))))))))
set_option maxRecDepth 100000 in
def f_X13_vacate (p1 : Int32) (ρ : OM) : Option (Int32 × OM) := ((f_X13_isSeller p1 ρ).bind fun r1 => (if r1 = 0 then (lt (wI ρ 0 12 1) fun ρ15 => (if (ρ15.1 0 12) ≤ 0 then ((f_X13_remembers ρ15).bind fun ρ17 => (o2 (f_X13_assigns p1 (-1) ρ17) fun r18 ρ19 => (some (r18, ρ19)))) else (some (0, ρ15)))) else ((f_X13_of p1 3 ρ).bind fun r3 => (if r3 = (-1) then (lt (wI ρ 0 12 2) fun ρ10 => (if (ρ10.1 0 12) ≤ 0 then ((f_X13_remembers ρ10).bind fun ρ12 => (o2 (f_X13_assigns p1 (-1) ρ12) fun r13 ρ14 => (some (r13, ρ14)))) else (some (0, ρ10)))) else (lt (wI ρ 0 12 0) fun ρ5 => (if (ρ5.1 0 12) ≤ 0 then ((f_X13_remembers ρ5).bind fun ρ7 => (o2 (f_X13_assigns p1 (-1) ρ7) fun r8 ρ9 => (some (r8, ρ9)))) else (some (0, ρ5))))))))
set_option maxRecDepth 100000 in
def f_X13_swap (p1 : Int32) (p2 : Int32) (ρ : OM) : Option (Int32 × OM) := ((f_X13_isSeller p1 ρ).bind fun r1 => (if r1 = 0 then (lt (wI ρ 0 12 1) fun ρ4 => (if (ρ4.1 0 12) ≤ 0 then ((f_X13_remembers ρ4).bind fun ρ6 => (o2 (f_X13_swaps p1 p2 ρ6) fun r7 ρ8 => (some (r7, ρ8)))) else (some (0, ρ4)))) else ((f_X13_isSeller p2 ρ).bind fun r9 => (if r9 = 0 then (lt (wI ρ 0 12 1) fun ρ12 => (if (ρ12.1 0 12) ≤ 0 then ((f_X13_remembers ρ12).bind fun ρ14 => (o2 (f_X13_swaps p1 p2 ρ14) fun r15 ρ16 => (some (r15, ρ16)))) else (some (0, ρ12)))) else ((f_X13_exchange p1 p2 ρ).bind fun r18 => (if r18 = 0 then (lt (wI ρ 0 12 2) fun ρ25 => (if (ρ25.1 0 12) ≤ 0 then ((f_X13_remembers ρ25).bind fun ρ27 => (o2 (f_X13_swaps p1 p2 ρ27) fun r28 ρ29 => (some (r28, ρ29)))) else (some (0, ρ25)))) else (lt (wI ρ 0 12 0) fun ρ20 => (if (ρ20.1 0 12) ≤ 0 then ((f_X13_remembers ρ20).bind fun ρ22 => (o2 (f_X13_swaps p1 p2 ρ22) fun r23 ρ24 => (some (r23, ρ24)))) else (some (0, ρ20))))))))))
set_option maxRecDepth 100000 in
def f_X13_reallocate  (ρ : OM) : Option (Int32 × OM) := (lt (wI ρ 0 12 0) fun ρ1 => ((f_X13_remembers ρ1).bind fun ρ2 => (o2 (f_X13_reallocates ρ2) fun r3 ρ4 => (some (r3, ρ4)))))
set_option maxRecDepth 100000 in
def f_X13_setPriority (p1 : Int32) (p2 : Int32) (ρ : OM) : Option (Int32 × OM) := ((f_X13_isSeller p1 ρ).bind fun r1 => (if r1 = 0 then (lt (wI ρ 0 12 1) fun ρ15 => (if (ρ15.1 0 12) ≤ 0 then ((f_X13_remembers ρ15).bind fun ρ17 => (o2 (f_X13_moves p1 p2 ρ17) fun r18 ρ19 => (some (r18, ρ19)))) else (some (0, ρ15)))) else (if inb 0 137 = true then ((f_X13_isBetween p2 0 ((ρ.1 1 (Int32.toNatClampNeg 0)) - 1)).bind fun r3 => (if r3 = 0 then (lt (wI ρ 0 12 2) fun ρ10 => (if (ρ10.1 0 12) ≤ 0 then ((f_X13_remembers ρ10).bind fun ρ12 => (o2 (f_X13_moves p1 p2 ρ12) fun r13 ρ14 => (some (r13, ρ14)))) else (some (0, ρ10)))) else (lt (wI ρ 0 12 0) fun ρ5 => (if (ρ5.1 0 12) ≤ 0 then ((f_X13_remembers ρ5).bind fun ρ7 => (o2 (f_X13_moves p1 p2 ρ7) fun r8 ρ9 => (some (r8, ρ9)))) else (some (0, ρ5)))))) else none)))
set_option maxRecDepth 100000 in
def f_X13_preferFirst (p1 : Int32) (p2 : Int32) (ρ : OM) : Option (Int32 × OM) := ((f_X13_isSeller p1 ρ).bind fun r1 => (if r1 = 0 then (o2 (f_X13_wants 0 ρ) fun r3 ρ4 => (if r3 = 0 then (some (0, ρ4)) else ((f_X13_remembers ρ4).bind fun ρ6 => (o2 (f_X13_putsFirst p1 p2 ρ6) fun r7 ρ8 => (some (r7, ρ8)))))) else ((f_X13_isStall p2 ρ).bind fun r9 => (if r9 = 0 then (o2 (f_X13_wants 0 ρ) fun r11 ρ12 => (if r11 = 0 then (some (0, ρ12)) else ((f_X13_remembers ρ12).bind fun ρ14 => (o2 (f_X13_putsFirst p1 p2 ρ14) fun r15 ρ16 => (some (r15, ρ16)))))) else (o2 (f_X13_wants 1 ρ) fun r17 ρ18 => (if r17 = 0 then (some (0, ρ18)) else ((f_X13_remembers ρ18).bind fun ρ20 => (o2 (f_X13_putsFirst p1 p2 ρ20) fun r21 ρ22 => (some (r21, ρ22))))))))))
set_option maxRecDepth 100000 in
def f_X13_removePreference (p1 : Int32) (p2 : Int32) (ρ : OM) : Option (Int32 × OM) := ((f_X13_isSeller p1 ρ).bind fun r1 => (if r1 = 0 then (lt (wI ρ 0 12 1) fun ρ4 => (if (ρ4.1 0 12) ≤ 0 then ((f_X13_remembers ρ4).bind fun ρ6 => (o2 (f_X13_removes p1 p2 ρ6) fun r7 ρ8 => (some (r7, ρ8)))) else (some (0, ρ4)))) else ((f_X13_isStall p2 ρ).bind fun r9 => (if r9 = 0 then (lt (wI ρ 0 12 1) fun ρ12 => (if (ρ12.1 0 12) ≤ 0 then ((f_X13_remembers ρ12).bind fun ρ14 => (o2 (f_X13_removes p1 p2 ρ14) fun r15 ρ16 => (some (r15, ρ16)))) else (some (0, ρ12)))) else ((f_X13_rank p1 p2 ρ).bind fun r18 => (if r18 = (-1) then (lt (wI ρ 0 12 2) fun ρ25 => (if (ρ25.1 0 12) ≤ 0 then ((f_X13_remembers ρ25).bind fun ρ27 => (o2 (f_X13_removes p1 p2 ρ27) fun r28 ρ29 => (some (r28, ρ29)))) else (some (0, ρ25)))) else (lt (wI ρ 0 12 0) fun ρ20 => (if (ρ20.1 0 12) ≤ 0 then ((f_X13_remembers ρ20).bind fun ρ22 => (o2 (f_X13_removes p1 p2 ρ22) fun r23 ρ24 => (some (r23, ρ24)))) else (some (0, ρ20))))))))))
set_option maxRecDepth 100000 in
def f_X13_setRent (p1 : Int32) (p2 : Int32) (ρ : OM) : Option (Int32 × OM) := ((f_X13_isStall p1 ρ).bind fun r1 => (if r1 = 0 then (lt (wI ρ 0 12 1) fun ρ15 => (if (ρ15.1 0 12) ≤ 0 then ((f_X13_remembers ρ15).bind fun ρ17 => ((f_X13_rentOf p1 ρ17).bind fun r18 => (if inb ((9 + (2 * p1)) + 1) 137 = true then (lt (wI ρ17 1 (Int32.toNatClampNeg ((9 + (2 * p1)) + 1)) p2) fun ρ19 => (some (r18, ρ19))) else none))) else (some (0, ρ15)))) else ((f_X13_isBetween p2 0 99).bind fun r3 => (if r3 = 0 then (lt (wI ρ 0 12 2) fun ρ10 => (if (ρ10.1 0 12) ≤ 0 then ((f_X13_remembers ρ10).bind fun ρ12 => ((f_X13_rentOf p1 ρ12).bind fun r13 => (if inb ((9 + (2 * p1)) + 1) 137 = true then (lt (wI ρ12 1 (Int32.toNatClampNeg ((9 + (2 * p1)) + 1)) p2) fun ρ14 => (some (r13, ρ14))) else none))) else (some (0, ρ10)))) else (lt (wI ρ 0 12 0) fun ρ5 => (if (ρ5.1 0 12) ≤ 0 then ((f_X13_remembers ρ5).bind fun ρ7 => ((f_X13_rentOf p1 ρ7).bind fun r8 => (if inb ((9 + (2 * p1)) + 1) 137 = true then (lt (wI ρ7 1 (Int32.toNatClampNeg ((9 + (2 * p1)) + 1)) p2) fun ρ9 => (some (r8, ρ9))) else none))) else (some (0, ρ5))))))))
set_option maxRecDepth 100000 in
def f_X13_deposit (p1 : Int32) (p2 : Int32) (ρ : OM) : Option (Int32 × OM) := ((f_X13_isSeller p1 ρ).bind fun r1 => (if r1 = 0 then (lt (wI ρ 0 12 1) fun ρ15 => (if (ρ15.1 0 12) ≤ 0 then ((f_X13_remembers ρ15).bind fun ρ17 => (o2 (f_X13_deposits p1 p2 ρ17) fun r18 ρ19 => (some (r18, ρ19)))) else (some (0, ρ15)))) else ((f_X13_isBetween p2 1 999).bind fun r3 => (if r3 = 0 then (lt (wI ρ 0 12 2) fun ρ10 => (if (ρ10.1 0 12) ≤ 0 then ((f_X13_remembers ρ10).bind fun ρ12 => (o2 (f_X13_deposits p1 p2 ρ12) fun r13 ρ14 => (some (r13, ρ14)))) else (some (0, ρ10)))) else (lt (wI ρ 0 12 0) fun ρ5 => (if (ρ5.1 0 12) ≤ 0 then ((f_X13_remembers ρ5).bind fun ρ7 => (o2 (f_X13_deposits p1 p2 ρ7) fun r8 ρ9 => (some (r8, ρ9)))) else (some (0, ρ5))))))))
set_option maxRecDepth 100000 in
def f_X13_advanceDays (p1 : Int32) (ρ : OM) : Option (Int32 × OM) := ((f_X13_isBetween p1 1 99).bind fun r1 => (if r1 = 0 then (lt (wI ρ 0 12 1) fun ρ14 => (if (ρ14.1 0 12) ≤ 0 then ((f_X13_remembers ρ14).bind fun ρ16 => (o2 (f_X13_passes p1 ρ16) fun r17 ρ18 => (some (r17, ρ18)))) else (some (0, ρ14)))) else (if inb 2 137 = true then (if ((ρ.1 1 (Int32.toNatClampNeg 2)) + p1) ≤ 9999 then (lt (wI ρ 0 12 0) fun ρ4 => (if (ρ4.1 0 12) ≤ 0 then ((f_X13_remembers ρ4).bind fun ρ6 => (o2 (f_X13_passes p1 ρ6) fun r7 ρ8 => (some (r7, ρ8)))) else (some (0, ρ4)))) else (lt (wI ρ 0 12 2) fun ρ9 => (if (ρ9.1 0 12) ≤ 0 then ((f_X13_remembers ρ9).bind fun ρ11 => (o2 (f_X13_passes p1 ρ11) fun r12 ρ13 => (some (r12, ρ13)))) else (some (0, ρ9))))) else none)))
set_option maxRecDepth 100000 in
def f_X13_write (p1 : Int32) (ρ : OM) : Option (OM) := (if inb (ρ.1 0 11) 160 = true then (lt (wI ρ 6 (Int32.toNatClampNeg (ρ.1 0 11)) p1) fun ρ1 => (lt (wI ρ1 0 11 ((ρ1.1 0 11) + 1)) fun ρ2 => (some ρ2))) else none)
set_option maxRecDepth 100000 in
def f_X13_writesName_2 (x1 : Int32) : Nat → Int32 → OM → Option (OM)
  | 0, _, _ => none
  | n + 1, x2, ρ => ((f_X13_letters x1).bind fun r1 => (if r1 ≤ x2 then (some ρ) else ((f_X13_letterOf x1 x2).bind fun r3 => ((f_X13_write r3 ρ).bind fun ρ4 => (f_X13_writesName_2 x1 n (x2 + 1) ρ4)))))
set_option maxRecDepth 100000 in
def f_X13_writesName (p1 : Int32) (ρ : OM) : Option (OM) := (f_X13_writesName_2 p1 FU 0 ρ)
set_option maxRecDepth 100000 in
def f_X13_writeAssignment_12  : Nat → Int32 → OM → Option (Int32 × OM)
  | 0, _, _ => none
  | n + 1, x1, ρ => (if inb 0 137 = true then (if (ρ.1 1 (Int32.toNatClampNeg 0)) ≤ x1 then (some ((ρ.1 0 11), ρ)) else (if x1 ≤ 0 then ((f_X13_of x1 0 ρ).bind fun r5 => ((f_X13_writesName r5 ρ).bind fun ρ6 => ((f_X13_write 58 ρ6).bind fun ρ7 => ((f_X13_of x1 3 ρ7).bind fun r8 => (if r8 = (-1) then ((f_X13_write 45 ρ7).bind fun ρ11 => (f_X13_writeAssignment_12  n (x1 + 1) ρ11)) else (if inb (9 + (2 * r8)) 137 = true then ((f_X13_writesName (ρ7.1 1 (Int32.toNatClampNeg (9 + (2 * r8)))) ρ7).bind fun ρ10 => (f_X13_writeAssignment_12  n (x1 + 1) ρ10)) else none)))))) else ((f_X13_write 32 ρ).bind fun ρ12 => ((f_X13_of x1 0 ρ12).bind fun r13 => ((f_X13_writesName r13 ρ12).bind fun ρ14 => ((f_X13_write 58 ρ14).bind fun ρ15 => ((f_X13_of x1 3 ρ15).bind fun r16 => (if r16 = (-1) then ((f_X13_write 45 ρ15).bind fun ρ19 => (f_X13_writeAssignment_12  n (x1 + 1) ρ19)) else (if inb (9 + (2 * r16)) 137 = true then ((f_X13_writesName (ρ15.1 1 (Int32.toNatClampNeg (9 + (2 * r16)))) ρ15).bind fun ρ18 => (f_X13_writeAssignment_12  n (x1 + 1) ρ18)) else none))))))))) else none)
set_option maxRecDepth 100000 in
def f_X13_writeAssignment  (ρ : OM) : Option (Int32 × OM) := (lt (wI ρ 0 12 0) fun ρ1 => (lt (wI ρ1 0 11 0) fun ρ2 => (f_X13_writeAssignment_12  FU 0 ρ2)))
set_option maxRecDepth 100000 in
def f_X13_writePreferences_21 (x1 : Int32) : Nat → Int32 → OM → Option (Int32 × OM)
  | 0, _, _ => none
  | n + 1, x2, ρ => ((f_X13_of x1 4 ρ).bind fun r6 => (if r6 ≤ x2 then (some ((ρ.1 0 11), ρ)) else (if x2 ≤ 0 then ((f_X13_of x1 (5 + x2) ρ).bind fun r9 => (if inb (9 + (2 * r9)) 137 = true then ((f_X13_writesName (ρ.1 1 (Int32.toNatClampNeg (9 + (2 * r9)))) ρ).bind fun ρ10 => (f_X13_writePreferences_21 x1 n (x2 + 1) ρ10)) else none)) else ((f_X13_write 62 ρ).bind fun ρ11 => ((f_X13_of x1 (5 + x2) ρ11).bind fun r12 => (if inb (9 + (2 * r12)) 137 = true then ((f_X13_writesName (ρ11.1 1 (Int32.toNatClampNeg (9 + (2 * r12)))) ρ11).bind fun ρ13 => (f_X13_writePreferences_21 x1 n (x2 + 1) ρ13)) else none))))))
set_option maxRecDepth 100000 in
def f_X13_writePreferences (p1 : Int32) (ρ : OM) : Option (Int32 × OM) := ((f_X13_isSeller p1 ρ).bind fun r1 => (o2 (f_X13_wants r1 ρ) fun r2 ρ3 => (if r2 = 0 then (some (0, ρ3)) else (lt (wI ρ3 0 11 0) fun ρ5 => (f_X13_writePreferences_21 p1 FU 0 ρ5)))))
set_option maxRecDepth 100000 in
def f_X13_outputByte (p1 : Int32) (ρ : OM) : Option (Int32 × OM) := (lt (wI ρ 0 12 0) fun ρ1 => ((f_X13_isBetween p1 0 ((ρ1.1 0 11) - 1)).bind fun r2 => (if r2 = 0 then (some ((-1), ρ1)) else (if inb p1 160 = true then (some ((ρ1.1 6 (Int32.toNatClampNeg p1)), ρ1)) else none))))
set_option maxRecDepth 100000 in
def f_X13_undo_26  : Nat → Int32 → OM → Option (Int32 × OM)
  | 0, _, _ => none
  | n + 1, x1, ρ => (if 137 ≤ x1 then (some ((ρ.1 0 4), ρ)) else (if inb ((137 * (ρ.1 0 4)) + x1) 1096 = true then (if inb x1 137 = true then (lt (wI ρ 1 (Int32.toNatClampNeg x1) (ρ.1 4 (Int32.toNatClampNeg ((137 * (ρ.1 0 4)) + x1)))) fun ρ5 => (f_X13_undo_26  n (x1 + 1) ρ5)) else none) else none))
set_option maxRecDepth 100000 in
def f_X13_undo  (ρ : OM) : Option (Int32 × OM) := (lt (wI ρ 0 12 0) fun ρ1 => (if (ρ1.1 0 4) = 0 then (some ((-1), ρ1)) else (lt (wI ρ1 0 4 ((ρ1.1 0 4) - 1)) fun ρ3 => (f_X13_undo_26  FU 0 ρ3))))
set_option maxRecDepth 100000 in
def f_X13_undoCount  (ρ : OM) : Option (Int32 × OM) := (lt (wI ρ 0 12 0) fun ρ1 => (some ((ρ1.1 0 4), ρ1)))
set_option maxRecDepth 100000 in
def f_X13_save  (ρ : OM) : Option (Int32 × OM) := (lt (wI ρ 0 12 0) fun ρ1 => ((f_X13_copies_1_3 ρ1).bind fun ρ2 => (lt (wI ρ2 0 5 1) fun ρ3 => (if inb 2 137 = true then (some ((ρ3.1 1 (Int32.toNatClampNeg 2)), ρ3)) else none))))
set_option maxRecDepth 100000 in
def f_X13_restore  (ρ : OM) : Option (Int32 × OM) := (o2 (f_X13_wants (ρ.1 0 5) ρ) fun r1 ρ2 => (if r1 = 0 then (some (0, ρ2)) else ((f_X13_copies_3_1 ρ2).bind fun ρ4 => (lt (wI ρ4 0 4 0) fun ρ5 => (if inb 2 137 = true then (some ((ρ5.1 1 (Int32.toNatClampNeg 2)), ρ5)) else none)))))

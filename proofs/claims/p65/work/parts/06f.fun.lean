set_option maxRecDepth 100000 in
def f_X5_hasSeller (p1 : Int32) (μ : OM) : Option (Int32) := (if p1 < 0 then (some 0) else (if (μ.1 0 0) ≤ p1 then (some 0) else (some 1)))
set_option maxRecDepth 100000 in
def f_X5_turnOf (p1 : Int32) (μ : OM) : Option (Int32) := ((f_X5_hasSeller p1 μ).bind fun r1 => (if r1 = 0 then (some (-1)) else (if inb p1 8 = true then (some (μ.1 5 (Int32.toNatClampNeg p1))) else none)))
set_option maxRecDepth 100000 in
def f_X1_nextInTurn_4 (μ : OM) (α : OM) : Nat → Int32 → Int32 → Option (Int32)
  | 0, _, _ => none
  | n + 1, x3, x2 => (if (μ.1 0 0) ≤ x3 then (some x2) else (if inb x3 8 = true then (if (α.1 2 (Int32.toNatClampNeg x3)) = 0 then (if x2 = (-1) then (f_X1_nextInTurn_4 μ α n (x3 + 1) x3) else ((f_X5_turnOf x3 μ).bind fun r4 => ((f_X5_turnOf x2 μ).bind fun r5 => (if r5 ≤ r4 then (f_X1_nextInTurn_4 μ α n (x3 + 1) x2) else (f_X1_nextInTurn_4 μ α n (x3 + 1) x3))))) else (f_X1_nextInTurn_4 μ α n (x3 + 1) x2)) else none))
set_option maxRecDepth 100000 in
def f_X1_nextInTurn  (μ : OM) (α : OM) : Option (Int32) := (f_X1_nextInTurn_4 μ α FU 0 (-1))
set_option maxRecDepth 100000 in
def f_X1_append (p1 : Int32) (α : OM) : Option (OM) := (if p1 = (-1) then (some α) else (if 8 ≤ (α.1 0 4) then (some α) else (if inb (α.1 0 4) 8 = true then (lt (wI α 4 (Int32.toNatClampNeg (α.1 0 4)) p1) fun α3 => (lt (wI α3 0 4 ((α3.1 0 4) + 1)) fun α4 => (some α4))) else none)))
set_option maxRecDepth 100000 in
def f_X5_wishesOf (p1 : Int32) (μ : OM) : Option (Int32) := ((f_X5_hasSeller p1 μ).bind fun r1 => (if r1 = 0 then (some 0) else (if inb p1 8 = true then (some (μ.1 6 (Int32.toNatClampNeg p1))) else none)))
set_option maxRecDepth 100000 in
def f_X5_wish (p1 : Int32) (p2 : Int32) (μ : OM) : Option (Int32) := ((f_X5_hasSeller p1 μ).bind fun r1 => (if r1 = 0 then (some (-1)) else (if p2 < 0 then (some (-1)) else (if inb p1 8 = true then (if p2 < (μ.1 6 (Int32.toNatClampNeg p1)) then (if inb ((p1 * 8) + p2) 64 = true then (some (μ.1 7 (Int32.toNatClampNeg ((p1 * 8) + p2)))) else none) else (some (-1))) else none))))
set_option maxRecDepth 100000 in
def f_X1_firstAvailable_2 (x2 : Int32) (μ : OM) (α : OM) : Nat → Int32 → Option (Int32)
  | 0, _ => none
  | n + 1, x3 => ((f_X5_wishesOf x2 μ).bind fun r1 => (if r1 ≤ x3 then (some (-1)) else ((f_X5_wish x2 x3 μ).bind fun r3 => (if r3 = (-1) then (f_X1_firstAvailable_2 x2 μ α n (x3 + 1)) else (if inb r3 8 = true then (if (α.1 3 (Int32.toNatClampNeg r3)) = 0 then (some r3) else (f_X1_firstAvailable_2 x2 μ α n (x3 + 1))) else none)))))
set_option maxRecDepth 100000 in
def f_X1_firstAvailable (p2 : Int32) (μ : OM) (α : OM) : Option (Int32) := (f_X1_firstAvailable_2 p2 μ α FU 0)
set_option maxRecDepth 100000 in
def f_X5_holderOf_9 (x1 : Int32) (μ : OM) : Nat → Int32 → Option (Int32)
  | 0, _ => none
  | n + 1, x2 => (if (μ.1 0 0) ≤ x2 then (some (-1)) else (if inb x2 8 = true then (if (μ.1 4 (Int32.toNatClampNeg x2)) = x1 then (some x2) else (f_X5_holderOf_9 x1 μ n (x2 + 1))) else none))
set_option maxRecDepth 100000 in
def f_X5_holderOf (p1 : Int32) (μ : OM) : Option (Int32) := (if p1 = (-1) then (some (-1)) else (f_X5_holderOf_9 p1 μ FU 0))
set_option maxRecDepth 100000 in
def f_X1_finishFrom_2 (x1 : Int32) : Nat → Int32 → OM → Option (OM)
  | 0, _, _ => none
  | n + 1, x2, α => (if x2 < 0 then (lt (wI α 0 4 x1) fun α2 => (some α2)) else (if (α.1 0 4) ≤ x2 then (lt (wI α 0 4 x1) fun α4 => (some α4)) else (if inb x2 8 = true then (lt ((α.1 4 (Int32.toNatClampNeg x2))) fun i5 => (if inb i5 8 = true then (lt (wI α 2 (Int32.toNatClampNeg i5) 1) fun α6 => (if inb i5 8 = true then (lt ((α6.1 1 (Int32.toNatClampNeg i5))) fun i7 => (if i7 = (-1) then (f_X1_finishFrom_2 x1 n (x2 + 1) α6) else (if inb i7 8 = true then (lt (wI α6 3 (Int32.toNatClampNeg i7) 1) fun α9 => (f_X1_finishFrom_2 x1 n (x2 + 1) α9)) else none))) else none)) else none)) else none)))
set_option maxRecDepth 100000 in
def f_X1_finishFrom (p1 : Int32) (α : OM) : Option (OM) := (f_X1_finishFrom_2 p1 FU p1 α)
set_option maxRecDepth 100000 in
def f_X1_placeInChain_2 (x1 : Int32) (α : OM) : Nat → Int32 → Option (Int32)
  | 0, _ => none
  | n + 1, x2 => (if (α.1 0 4) ≤ x2 then (some (-1)) else (if inb x2 8 = true then (if (α.1 4 (Int32.toNatClampNeg x2)) = x1 then (some x2) else (f_X1_placeInChain_2 x1 α n (x2 + 1))) else none))
set_option maxRecDepth 100000 in
def f_X1_placeInChain (p1 : Int32) (α : OM) : Option (Int32) := (f_X1_placeInChain_2 p1 α FU 0)
set_option maxRecDepth 100000 in
def f_X1_serve (p2 : Int32) (μ : OM) (α : OM) : Option (OM) := ((f_X1_firstAvailable p2 μ α).bind fun r1 => (if inb p2 8 = true then (lt (wI α 1 (Int32.toNatClampNeg p2) r1) fun α2 => ((f_X5_holderOf r1 μ).bind fun r3 => (if r3 = (-1) then ((f_X1_finishFrom ((α2.1 0 4) - 1) α2).bind fun α5 => (some α5)) else (if r3 = p2 then ((f_X1_finishFrom ((α2.1 0 4) - 1) α2).bind fun α7 => (some α7)) else (if inb r3 8 = true then (if (α2.1 2 (Int32.toNatClampNeg r3)) = 0 then ((f_X1_placeInChain r3 α2).bind fun r9 => (if r9 = (-1) then ((f_X1_append r3 α2).bind fun α12 => (some α12)) else ((f_X1_finishFrom r9 α2).bind fun α11 => (some α11)))) else ((f_X1_finishFrom ((α2.1 0 4) - 1) α2).bind fun α13 => (some α13))) else none))))) else none))
set_option maxRecDepth 100000 in
def f_X1_decide_7  : Nat → Int32 → OM → Option (OM)
  | 0, _, _ => none
  | n + 1, x2, α => (if 8 ≤ x2 then (some α) else (if inb x2 8 = true then (lt (wI α 1 (Int32.toNatClampNeg x2) (-1)) fun α3 => (if inb x2 8 = true then (lt (wI α3 2 (Int32.toNatClampNeg x2) 0) fun α4 => (f_X1_decide_7  n (x2 + 1) α4)) else none)) else none))
set_option maxRecDepth 100000 in
def f_X1_decide_35  : Nat → Int32 → OM → Option (OM)
  | 0, _, _ => none
  | n + 1, x2, α => (if 8 ≤ x2 then (some α) else (if inb x2 8 = true then (lt (wI α 3 (Int32.toNatClampNeg x2) 0) fun α7 => (f_X1_decide_35  n (x2 + 1) α7)) else none))
set_option maxRecDepth 100000 in
def f_X1_decide_56 (μ : OM) : Nat → Int32 → OM → Option (OM)
  | 0, _, _ => none
  | n + 1, x2, α => (if 16 ≤ x2 then (some α) else (if (α.1 0 4) = 0 then ((f_X1_nextInTurn μ α).bind fun r13 => ((f_X1_append r13 α).bind fun α14 => (if (α14.1 0 4) ≤ 0 then (f_X1_decide_56 μ n (x2 + 1) α14) else (if inb ((α14.1 0 4) - 1) 8 = true then ((f_X1_serve (α14.1 4 (Int32.toNatClampNeg ((α14.1 0 4) - 1))) μ α14).bind fun α16 => (f_X1_decide_56 μ n (x2 + 1) α16)) else none)))) else (if (α.1 0 4) ≤ 0 then (f_X1_decide_56 μ n (x2 + 1) α) else (if inb ((α.1 0 4) - 1) 8 = true then ((f_X1_serve (α.1 4 (Int32.toNatClampNeg ((α.1 0 4) - 1))) μ α).bind fun α12 => (f_X1_decide_56 μ n (x2 + 1) α12)) else none))))
set_option maxRecDepth 100000 in
def f_X1_decide  (μ : OM) (α : OM) : Option (OM) := (lt (wI α 0 4 0) fun α1 => ((f_X1_decide_7  FU 0 α1).bind fun α5 => ((f_X1_decide_35  FU 0 α5).bind fun α8 => (f_X1_decide_56 μ FU 0 α8))))
set_option maxRecDepth 100000 in
def f_X1_givenTo (p1 : Int32) (α : OM) : Option (Int32) := (if p1 < 0 then (some (-1)) else (if p1 < 8 then (if inb p1 8 = true then (some (α.1 1 (Int32.toNatClampNeg p1))) else none) else (some (-1))))
set_option maxRecDepth 100000 in
def f_X5_heldBy (p1 : Int32) (μ : OM) : Option (Int32) := ((f_X5_hasSeller p1 μ).bind fun r1 => (if r1 = 0 then (some (-1)) else (if inb p1 8 = true then (some (μ.1 4 (Int32.toNatClampNeg p1))) else none)))
set_option maxRecDepth 100000 in
def f_X5_seat (p1 : Int32) (p2 : Int32) (μ : OM) : Option (OM) := ((f_X5_hasSeller p1 μ).bind fun r1 => (if r1 = 0 then (some μ) else (if inb p1 8 = true then (lt (wI μ 4 (Int32.toNatClampNeg p1) p2) fun μ3 => (some μ3)) else none)))
set_option maxRecDepth 100000 in
def f_X1_applyTo_4 (α : OM) : Nat → Int32 → Int32 → OM → Option (Int32 × OM)
  | 0, _, _, _ => none
  | n + 1, x3, x2, μ => (if (μ.1 0 0) ≤ x3 then (some (x2, μ)) else ((f_X1_givenTo x3 α).bind fun r2 => ((f_X5_heldBy x3 μ).bind fun r3 => (if r2 = r3 then (f_X1_applyTo_4 α n (x3 + 1) x2 μ) else (if r2 = (-1) then (f_X1_applyTo_4 α n (x3 + 1) (x2 + 1) μ) else (lt (wI μ 0 6 ((μ.1 0 6) + 1)) fun μ6 => (f_X1_applyTo_4 α n (x3 + 1) (x2 + 1) μ6)))))))
set_option maxRecDepth 100000 in
def f_X1_applyTo_56 (x2 : Int32) (α : OM) : Nat → Int32 → OM → Option (Int32 × OM)
  | 0, _, _ => none
  | n + 1, x3, μ => (if (μ.1 0 0) ≤ x3 then (some (x2, μ)) else ((f_X1_givenTo x3 α).bind fun r10 => ((f_X5_seat x3 r10 μ).bind fun μ11 => (f_X1_applyTo_56 x2 α n (x3 + 1) μ11))))
set_option maxRecDepth 100000 in
def f_X1_applyTo  (μ : OM) (α : OM) : Option (Int32 × OM) := (o2 (f_X1_applyTo_4 α FU 0 0 μ) fun i7 μ8 => (f_X1_applyTo_56 i7 α FU 0 μ8))
set_option maxRecDepth 100000 in
def f_X2_byteAt (p1 : Int32) (β : OM) : Option (Int32) := (if p1 < 0 then (some (-1)) else (if p1 < (β.1 0 1) then (if inb p1 700 = true then (some (β.1 1 (Int32.toNatClampNeg p1))) else none) else (some (-1))))
set_option maxRecDepth 100000 in
def f_X2_add (p1 : Int32) (β : OM) : Option (OM) := (if 700 ≤ (β.1 0 1) then (some β) else (if inb (β.1 0 1) 700 = true then (lt (wI β 1 (Int32.toNatClampNeg (β.1 0 1)) p1) fun β2 => (lt (wI β2 0 1 ((β2.1 0 1) + 1)) fun β3 => (some β3))) else none))
set_option maxRecDepth 100000 in
def f_X2_addWord_3 (x1 : Int32) : Nat → Int32 → OM → Option (OM)
  | 0, _, _ => none
  | n + 1, x2, β => (if x2 < 0 then (some β) else ((f_X2_add (((x1.toUInt32 >>> (Int32.toUInt32 x2 &&& Int32.toUInt32 31)).toInt32) &&& 255) β).bind fun β2 => (f_X2_addWord_3 x1 n (x2 + (-8)) β2)))
set_option maxRecDepth 100000 in
def f_X2_addWord (p1 : Int32) (β : OM) : Option (OM) := (f_X2_addWord_3 p1 FU 24 β)
set_option maxRecDepth 100000 in
def f_X2_cut (p1 : Int32) (β : OM) : Option (OM) := (if p1 < 0 then (some β) else (if (β.1 0 1) ≤ p1 then (some β) else (lt (wI β 0 1 p1) fun β3 => (some β3))))
set_option maxRecDepth 100000 in
def f_X5_rankIn_16 (x1 : Int32) (x2 : Int32) (μ : OM) : Nat → Int32 → Option (Int32)
  | 0, _ => none
  | n + 1, x3 => (if inb x1 8 = true then (if (μ.1 6 (Int32.toNatClampNeg x1)) ≤ x3 then (some (-1)) else (if inb ((x1 * 8) + x3) 64 = true then (if (μ.1 7 (Int32.toNatClampNeg ((x1 * 8) + x3))) = x2 then (some x3) else (f_X5_rankIn_16 x1 x2 μ n (x3 + 1))) else none)) else none)
set_option maxRecDepth 100000 in
def f_X5_rankIn (p1 : Int32) (p2 : Int32) (μ : OM) : Option (Int32) := (if p1 < 0 then (some (-1)) else (if p1 < (μ.1 0 0) then (f_X5_rankIn_16 p1 p2 μ FU 0) else (some (-1))))
set_option maxRecDepth 100000 in
def f_X5_standing (p1 : Int32) (p2 : Int32) (μ : OM) : Option (Int32) := (if p2 = (-1) then (some 8) else ((f_X5_rankIn p1 p2 μ).bind fun r2 => (if r2 = (-1) then (some 9) else (some r2))))
set_option maxRecDepth 100000 in
def f_X5_ranksAbove (p1 : Int32) (p2 : Int32) (p3 : Int32) (μ : OM) : Option (Int32) := ((f_X5_standing p1 p2 μ).bind fun r1 => ((f_X5_standing p1 p3 μ).bind fun r2 => (if r2 ≤ r1 then (some 0) else (some 1))))
set_option maxRecDepth 100000 in
def f_X3_wantsStallOf (p1 : Int32) (p2 : Int32) (μ : OM) : Option (Int32) := ((f_X5_heldBy p2 μ).bind fun r1 => (if r1 = (-1) then (some 0) else ((f_X5_heldBy p1 μ).bind fun r3 => ((f_X5_ranksAbove p1 r1 r3 μ).bind fun r4 => (if r4 = 0 then (some 0) else (some 1))))))
set_option maxRecDepth 100000 in
def f_X3_bothGain (p1 : Int32) (p2 : Int32) (μ : OM) : Option (Int32) := ((f_X5_heldBy p1 μ).bind fun r1 => (if r1 = (-1) then (some 0) else ((f_X3_wantsStallOf p1 p2 μ).bind fun r3 => (if r3 = 0 then (some 0) else ((f_X3_wantsStallOf p2 p1 μ).bind fun r5 => (if r5 = 0 then (some 0) else (some 1)))))))
set_option maxRecDepth 100000 in
def f_X3_wantedByAny_15 (x1 : Int32) (x3 : Int32) (μ : OM) : Nat → Int32 → Int32 → Option (Int32)
  | 0, _, _ => none
  | n + 1, x4, x2 => (if (μ.1 0 0) ≤ x4 then (some x2) else (if (x1 &&& (1 <<< (x3 &&& 31))) = 0 then (f_X3_wantedByAny_15 x1 x3 μ n (x4 + 1) x2) else ((f_X3_wantsStallOf x3 x4 μ).bind fun r4 => (if r4 = 0 then (f_X3_wantedByAny_15 x1 x3 μ n (x4 + 1) x2) else (lt ((x2 ||| (1 <<< (x4 &&& 31)))) fun i6 => (f_X3_wantedByAny_15 x1 x3 μ n (x4 + 1) i6))))))
set_option maxRecDepth 100000 in
def f_X3_wantedByAny_4 (x1 : Int32) (μ : OM) : Nat → Int32 → Int32 → Option (Int32)
  | 0, _, _ => none
  | n + 1, x3, x2 => (if (μ.1 0 0) ≤ x3 then (some x2) else ((f_X3_wantedByAny_15 x1 x3 μ FU 0 x2).bind fun i7 => (f_X3_wantedByAny_4 x1 μ n (x3 + 1) i7)))
set_option maxRecDepth 100000 in
def f_X3_wantedByAny (p1 : Int32) (μ : OM) : Option (Int32) := (f_X3_wantedByAny_4 p1 μ FU 0 0)
set_option maxRecDepth 100000 in
def f_X3_shortestCycle_17 (x1 : Int32) (μ : OM) : Nat → Int32 → Int32 → Option (Int32)
  | 0, _, _ => none
  | n + 1, x3, x2 => (if (μ.1 0 0) < x3 then (some (-1)) else ((f_X3_wantedByAny x2 μ).bind fun r5 => (if (r5 &&& (1 <<< (x1 &&& 31))) = 0 then (f_X3_shortestCycle_17 x1 μ n (x3 + 1) r5) else (some x3))))
set_option maxRecDepth 100000 in
def f_X3_shortestCycle (p1 : Int32) (μ : OM) : Option (Int32) := ((f_X5_heldBy p1 μ).bind fun r1 => (if r1 = (-1) then (some (-1)) else (lt ((1 <<< (p1 &&& 31))) fun i3 => (f_X3_shortestCycle_17 p1 μ FU 1 i3))))
set_option maxRecDepth 100000 in
def f_X3_bestFreeStall_8 (x2 : Int32) (x1 : Int32) (μ : OM) : Nat → Int32 → Option (Int32)
  | 0, _ => none
  | n + 1, x3 => ((f_X5_wishesOf x1 μ).bind fun r2 => (if r2 ≤ x3 then (some (-1)) else ((f_X5_wish x1 x3 μ).bind fun r4 => (if r4 = x2 then (some (-1)) else ((f_X5_holderOf r4 μ).bind fun r6 => (if r6 = (-1) then (some r4) else (f_X3_bestFreeStall_8 x2 x1 μ n (x3 + 1))))))))
set_option maxRecDepth 100000 in
def f_X3_bestFreeStall (p1 : Int32) (μ : OM) : Option (Int32) := ((f_X5_heldBy p1 μ).bind fun r1 => (f_X3_bestFreeStall_8 r1 p1 μ FU 0))
set_option maxRecDepth 100000 in
def f_X3_canImprove_2 (μ : OM) : Nat → Int32 → Option (Int32)
  | 0, _ => none
  | n + 1, x1 => (if (μ.1 0 0) ≤ x1 then (some 0) else ((f_X5_heldBy x1 μ).bind fun r2 => ((f_X5_ranksAbove x1 (-1) r2 μ).bind fun r3 => (if r3 = 0 then ((f_X3_bestFreeStall x1 μ).bind fun r5 => (if r5 = (-1) then ((f_X3_shortestCycle x1 μ).bind fun r7 => (if r7 = (-1) then (f_X3_canImprove_2 μ n (x1 + 1)) else (some 1))) else (some 1))) else (some 1)))))
set_option maxRecDepth 100000 in
def f_X3_canImprove  (μ : OM) : Option (Int32) := (f_X3_canImprove_2 μ FU 0)
set_option maxRecDepth 100000 in
def f_X4_clear  (σ : SM) : Option (SM) := (lt (us σ 16 (wI (σ 16) 0 1 0)) fun σ1 => (lt (us σ1 16 (wI (σ1 16) 0 2 0)) fun σ2 => (some σ2)))
set_option maxRecDepth 100000 in
def f_X4_slotAfter (p1 : Int32) (σ : SM) : Option (Int32) := (some ((((σ 16).1 0 1) + p1) - (((σ 16).1 0 1) + p1) / 8 * 8))
set_option maxRecDepth 100000 in
def f_X5_copy_83 (μ : OM) : Nat → Int32 → OM → Option (OM)
  | 0, _, _ => none
  | n + 1, x2, ν => (if 8 ≤ x2 then (some ν) else (if inb x2 8 = true then (if inb x2 8 = true then (lt (wJ ν 1 (Int32.toNatClampNeg x2) (μ.2.1 1 (Int32.toNatClampNeg x2))) fun ν11 => (if inb x2 8 = true then (if inb x2 8 = true then (lt (wI ν11 2 (Int32.toNatClampNeg x2) (μ.1 2 (Int32.toNatClampNeg x2))) fun ν12 => (if inb x2 8 = true then (if inb x2 8 = true then (lt (wI ν12 3 (Int32.toNatClampNeg x2) (μ.1 3 (Int32.toNatClampNeg x2))) fun ν13 => (if inb x2 8 = true then (if inb x2 8 = true then (lt (wI ν13 4 (Int32.toNatClampNeg x2) (μ.1 4 (Int32.toNatClampNeg x2))) fun ν14 => (if inb x2 8 = true then (if inb x2 8 = true then (lt (wI ν14 5 (Int32.toNatClampNeg x2) (μ.1 5 (Int32.toNatClampNeg x2))) fun ν15 => (if inb x2 8 = true then (if inb x2 8 = true then (lt (wI ν15 6 (Int32.toNatClampNeg x2) (μ.1 6 (Int32.toNatClampNeg x2))) fun ν16 => (f_X5_copy_83 μ n (x2 + 1) ν16)) else none) else none)) else none) else none)) else none) else none)) else none) else none)) else none) else none)) else none) else none))
set_option maxRecDepth 100000 in
def f_X5_copy_169 (μ : OM) : Nat → Int32 → OM → Option (OM)
  | 0, _, _ => none
  | n + 1, x2, ν => (if 64 ≤ x2 then (some ν) else (if inb x2 64 = true then (if inb x2 64 = true then (lt (wI ν 7 (Int32.toNatClampNeg x2) (μ.1 7 (Int32.toNatClampNeg x2))) fun ν19 => (f_X5_copy_169 μ n (x2 + 1) ν19)) else none) else none))
set_option maxRecDepth 100000 in
def f_X5_copy_195 (μ : OM) : Nat → Int32 → OM → Option (OM)
  | 0, _, _ => none
  | n + 1, x2, ν => (if 8 ≤ x2 then (some ν) else (if inb x2 8 = true then (if inb x2 8 = true then (lt (wJ ν 8 (Int32.toNatClampNeg x2) (μ.2.1 8 (Int32.toNatClampNeg x2))) fun ν22 => (if inb x2 8 = true then (if inb x2 8 = true then (lt (wI ν22 9 (Int32.toNatClampNeg x2) (μ.1 9 (Int32.toNatClampNeg x2))) fun ν23 => (f_X5_copy_195 μ n (x2 + 1) ν23)) else none) else none)) else none) else none))
set_option maxRecDepth 100000 in
def f_X5_copy  (μ : OM) (ν : OM) : Option (OM) := (lt (wI ν 0 0 (μ.1 0 0)) fun ν1 => (lt (wI ν1 0 1 (μ.1 0 1)) fun ν2 => (lt (wI ν2 0 2 (μ.1 0 2)) fun ν3 => (lt (wI ν3 0 3 (μ.1 0 3)) fun ν4 => (lt (wI ν4 0 4 (μ.1 0 4)) fun ν5 => (lt (wI ν5 0 5 (μ.1 0 5)) fun ν6 => (lt (wI ν6 0 6 (μ.1 0 6)) fun ν7 => (lt (wI ν7 0 7 (μ.1 0 7)) fun ν8 => (lt (wI ν8 0 8 (μ.1 0 8)) fun ν9 => ((f_X5_copy_83 μ FU 0 ν9).bind fun ν17 => ((f_X5_copy_169 μ FU 0 ν17).bind fun ν20 => (f_X5_copy_195 μ FU 0 ν20))))))))))))
set_option maxRecDepth 100000 in
def f_X4_record  (σ : SM) : Option (SM) := ((f_X4_slotAfter ((σ 16).1 0 2) σ).bind fun r1 => (if inb r1 8 = true then (lt (3 + Int32.toNatClampNeg r1) fun ob2 => ((f_X5_copy (σ 0) (σ ob2)).bind fun m3 => (lt (us σ ob2 m3) fun σ4 => (if 8 ≤ ((σ4 16).1 0 2) then ((f_X4_slotAfter 1 σ4).bind fun r6 => (lt (us σ4 16 (wI (σ4 16) 0 1 r6)) fun σ7 => (some σ7))) else (lt (us σ4 16 (wI (σ4 16) 0 2 (((σ4 16).1 0 2) + 1))) fun σ8 => (some σ8)))))) else none))
set_option maxRecDepth 100000 in
def f_X4_takeBack  (σ : SM) : Option (Int32 × SM) := (if ((σ 16).1 0 2) = 0 then (some ((-1), σ)) else (lt (us σ 16 (wI (σ 16) 0 2 (((σ 16).1 0 2) - 1))) fun σ2 => ((f_X4_slotAfter ((σ2 16).1 0 2) σ2).bind fun r3 => (if inb r3 8 = true then (lt (3 + Int32.toNatClampNeg r3) fun ob4 => ((f_X5_copy (σ2 ob4) (σ2 0)).bind fun m5 => (lt (us σ2 0 m5) fun σ6 => (some (((σ6 16).1 0 2), σ6))))) else none))))
set_option maxRecDepth 100000 in
def f_X5_clear  (μ : OM) : Option (OM) := (lt (wI μ 0 0 0) fun μ1 => (lt (wI μ1 0 1 0) fun μ2 => (lt (wI μ2 0 2 0) fun μ3 => (lt (wI μ3 0 3 0) fun μ4 => (lt (wI μ4 0 4 0) fun μ5 => (lt (wI μ5 0 5 0) fun μ6 => (lt (wI μ6 0 6 0) fun μ7 => (lt (wI μ7 0 7 0) fun μ8 => (lt (wI μ8 0 8 0) fun μ9 => (some μ9))))))))))
set_option maxRecDepth 100000 in
def f_X5_addStall (p1 : Int64) (p3 : Int32) (μ : OM) : Option (OM) := (if 8 ≤ (μ.1 0 1) then (some μ) else (if inb (μ.1 0 1) 8 = true then (lt (wJ μ 8 (Int32.toNatClampNeg (μ.1 0 1)) p1) fun μ2 => (if inb (μ2.1 0 1) 8 = true then (lt (wI μ2 9 (Int32.toNatClampNeg (μ2.1 0 1)) p3) fun μ3 => (lt (wI μ3 0 1 ((μ3.1 0 1) + 1)) fun μ4 => (some μ4))) else none)) else none))
set_option maxRecDepth 100000 in
def f_X5_addSeller (p1 : Int64) (p3 : Int32) (p4 : Int32) (μ : OM) : Option (OM) := (if 8 ≤ (μ.1 0 0) then (some μ) else (if inb (μ.1 0 0) 8 = true then (lt (wJ μ 1 (Int32.toNatClampNeg (μ.1 0 0)) p1) fun μ2 => (if inb (μ2.1 0 0) 8 = true then (lt (wI μ2 2 (Int32.toNatClampNeg (μ2.1 0 0)) p3) fun μ3 => (if inb (μ3.1 0 0) 8 = true then (lt (wI μ3 3 (Int32.toNatClampNeg (μ3.1 0 0)) p4) fun μ4 => (if inb (μ4.1 0 0) 8 = true then (lt (wI μ4 4 (Int32.toNatClampNeg (μ4.1 0 0)) (-1)) fun μ5 => (if inb (μ5.1 0 0) 8 = true then (lt (wI μ5 5 (Int32.toNatClampNeg (μ5.1 0 0)) (μ5.1 0 0)) fun μ6 => (if inb (μ6.1 0 0) 8 = true then (lt (wI μ6 6 (Int32.toNatClampNeg (μ6.1 0 0)) 0) fun μ7 => (lt (wI μ7 0 7 ((μ7.1 0 7) + p3)) fun μ8 => (lt (wI μ8 0 0 ((μ8.1 0 0) + 1)) fun μ9 => (some μ9)))) else none)) else none)) else none)) else none)) else none)) else none))
set_option maxRecDepth 100000 in
def f_X5_hasStall (p1 : Int32) (μ : OM) : Option (Int32) := (if p1 < 0 then (some 0) else (if (μ.1 0 1) ≤ p1 then (some 0) else (some 1)))
set_option maxRecDepth 100000 in
def f_X5_coinsOf (p1 : Int32) (μ : OM) : Option (Int32) := ((f_X5_hasSeller p1 μ).bind fun r1 => (if r1 = 0 then (some 0) else (if inb p1 8 = true then (some (μ.1 2 (Int32.toNatClampNeg p1))) else none)))
set_option maxRecDepth 100000 in
def f_X5_priceOf (p1 : Int32) (μ : OM) : Option (Int32) := ((f_X5_hasStall p1 μ).bind fun r1 => (if r1 = 0 then (some 0) else (if inb p1 8 = true then (some (μ.1 9 (Int32.toNatClampNeg p1))) else none)))
set_option maxRecDepth 100000 in
def f_X5_sellerCalled_2 (x1 : Int64) (μ : OM) : Nat → Int32 → Option (Int32)
  | 0, _ => none
  | n + 1, x3 => (if (μ.1 0 0) ≤ x3 then (some (-1)) else (if inb x3 8 = true then (if (lg_cmp (μ.2.1 1 (Int32.toNatClampNeg x3)) x1) = 0 then (some x3) else (f_X5_sellerCalled_2 x1 μ n (x3 + 1))) else none))
set_option maxRecDepth 100000 in
def f_X5_sellerCalled (p1 : Int64) (μ : OM) : Option (Int32) := (f_X5_sellerCalled_2 p1 μ FU 0)
set_option maxRecDepth 100000 in
def f_X5_stallCalled_2 (x1 : Int64) (μ : OM) : Nat → Int32 → Option (Int32)
  | 0, _ => none
  | n + 1, x3 => (if (μ.1 0 1) ≤ x3 then (some (-1)) else (if inb x3 8 = true then (if (lg_cmp (μ.2.1 8 (Int32.toNatClampNeg x3)) x1) = 0 then (some x3) else (f_X5_stallCalled_2 x1 μ n (x3 + 1))) else none))
set_option maxRecDepth 100000 in
def f_X5_stallCalled (p1 : Int64) (μ : OM) : Option (Int32) := (f_X5_stallCalled_2 p1 μ FU 0)
set_option maxRecDepth 100000 in
def f_X5_mayMoveInto (p1 : Int32) (p2 : Int32) (μ : OM) : Option (Int32) := ((f_X5_holderOf p2 μ).bind fun r1 => (if r1 = (-1) then ((f_X5_priceOf p2 μ).bind fun r3 => ((f_X5_coinsOf p1 μ).bind fun r4 => (if r4 < r3 then (some 0) else (some 1)))) else (some 0)))
set_option maxRecDepth 100000 in
def f_X5_exchange (p1 : Int32) (p2 : Int32) (μ : OM) : Option (OM) := ((f_X5_heldBy p1 μ).bind fun r1 => ((f_X5_heldBy p2 μ).bind fun r2 => ((f_X5_seat p1 r2 μ).bind fun μ3 => ((f_X5_seat p2 r1 μ3).bind fun μ4 => (lt (wI μ4 0 5 ((μ4.1 0 5) + 1)) fun μ5 => (some μ5))))))
set_option maxRecDepth 100000 in
def f_X5_moveTurn_9 (x3 : Int32) (x2 : Int32) : Nat → Int32 → OM → Option (OM)
  | 0, _, _ => none
  | n + 1, x4, μ => (if (μ.1 0 0) ≤ x4 then (some μ) else (if inb x4 8 = true then (if (μ.1 5 (Int32.toNatClampNeg x4)) ≤ x3 then (if inb x4 8 = true then (if x3 ≤ (μ.1 5 (Int32.toNatClampNeg x4)) then (f_X5_moveTurn_9 x3 x2 n (x4 + 1) μ) else (if inb x4 8 = true then (if (μ.1 5 (Int32.toNatClampNeg x4)) < x2 then (f_X5_moveTurn_9 x3 x2 n (x4 + 1) μ) else (if inb x4 8 = true then (if inb x4 8 = true then (lt (wI μ 5 (Int32.toNatClampNeg x4) ((μ.1 5 (Int32.toNatClampNeg x4)) + 1)) fun μ6 => (f_X5_moveTurn_9 x3 x2 n (x4 + 1) μ6)) else none) else none)) else none)) else none) else (if inb x4 8 = true then (if x2 < (μ.1 5 (Int32.toNatClampNeg x4)) then (if inb x4 8 = true then (if x3 ≤ (μ.1 5 (Int32.toNatClampNeg x4)) then (f_X5_moveTurn_9 x3 x2 n (x4 + 1) μ) else (if inb x4 8 = true then (if (μ.1 5 (Int32.toNatClampNeg x4)) < x2 then (f_X5_moveTurn_9 x3 x2 n (x4 + 1) μ) else (if inb x4 8 = true then (if inb x4 8 = true then (lt (wI μ 5 (Int32.toNatClampNeg x4) ((μ.1 5 (Int32.toNatClampNeg x4)) + 1)) fun μ10 => (f_X5_moveTurn_9 x3 x2 n (x4 + 1) μ10)) else none) else none)) else none)) else none) else (if inb x4 8 = true then (if inb x4 8 = true then (lt (wI μ 5 (Int32.toNatClampNeg x4) ((μ.1 5 (Int32.toNatClampNeg x4)) - 1)) fun μ11 => (f_X5_moveTurn_9 x3 x2 n (x4 + 1) μ11)) else none) else none)) else none)) else none))
set_option maxRecDepth 100000 in
def f_X5_moveTurn (p1 : Int32) (p2 : Int32) (μ : OM) : Option (OM) := ((f_X5_turnOf p1 μ).bind fun r1 => ((f_X5_moveTurn_9 r1 p2 FU 0 μ).bind fun μ12 => ((f_X5_hasSeller p1 μ12).bind fun r13 => (if r13 = 0 then (some μ12) else (if inb p1 8 = true then (lt (wI μ12 5 (Int32.toNatClampNeg p1) p2) fun μ15 => (some μ15)) else none)))))
set_option maxRecDepth 100000 in
def f_X5_wishLast (p1 : Int32) (p2 : Int32) (μ : OM) : Option (OM) := ((f_X5_wishesOf p1 μ).bind fun r1 => ((f_X5_hasSeller p1 μ).bind fun r2 => (if r2 = 0 then (some μ) else (if 8 ≤ r1 then (some μ) else (if inb ((p1 * 8) + r1) 64 = true then (lt (wI μ 7 (Int32.toNatClampNeg ((p1 * 8) + r1)) p2) fun μ5 => (if inb p1 8 = true then (lt (wI μ5 6 (Int32.toNatClampNeg p1) (r1 + 1)) fun μ6 => (some μ6)) else none)) else none)))))
set_option maxRecDepth 100000 in
def f_X5_dropWish_34 (x4 : Int32) (x1 : Int32) : Nat → Int32 → OM → Option (OM)
  | 0, _, _ => none
  | n + 1, x5, μ => (if x4 ≤ x5 then (if inb x1 8 = true then (lt (wI μ 6 (Int32.toNatClampNeg x1) x4) fun μ7 => (some μ7)) else none) else (lt (((x1 * 8) + x5)) fun i8 => (if inb (i8 + 1) 64 = true then (if inb i8 64 = true then (lt (wI μ 7 (Int32.toNatClampNeg i8) (μ.1 7 (Int32.toNatClampNeg (i8 + 1)))) fun μ9 => (f_X5_dropWish_34 x4 x1 n (x5 + 1) μ9)) else none) else none)))
set_option maxRecDepth 100000 in
def f_X5_dropWish (p1 : Int32) (p2 : Int32) (μ : OM) : Option (OM) := ((f_X5_rankIn p1 p2 μ).bind fun r1 => ((f_X5_hasSeller p1 μ).bind fun r2 => (if r2 = 0 then (some μ) else (if r1 = (-1) then (some μ) else (if inb p1 8 = true then (lt (((μ.1 6 (Int32.toNatClampNeg p1)) - 1)) fun i5 => (f_X5_dropWish_34 i5 p1 FU r1 μ)) else none)))))
set_option maxRecDepth 100000 in
def f_X5_wishFirst_30 (x1 : Int32) : Nat → Int32 → OM → Option (OM)
  | 0, _, _ => none
  | n + 1, x4, μ => (if x4 ≤ 0 then (some μ) else (lt (((x1 * 8) + x4)) fun i7 => (if inb (i7 - 1) 64 = true then (if inb i7 64 = true then (lt (wI μ 7 (Int32.toNatClampNeg i7) (μ.1 7 (Int32.toNatClampNeg (i7 - 1)))) fun μ8 => (f_X5_wishFirst_30 x1 n (x4 + (-1)) μ8)) else none) else none)))
set_option maxRecDepth 100000 in
def f_X5_wishFirst (p1 : Int32) (p2 : Int32) (μ : OM) : Option (OM) := ((f_X5_dropWish p1 p2 μ).bind fun μ1 => ((f_X5_wishesOf p1 μ1).bind fun r2 => ((f_X5_hasSeller p1 μ1).bind fun r3 => (if r3 = 0 then (some μ1) else (if r2 < 8 then ((f_X5_wishFirst_30 p1 FU r2 μ1).bind fun μ9 => (if inb (p1 * 8) 64 = true then (lt (wI μ9 7 (Int32.toNatClampNeg (p1 * 8)) p2) fun μ10 => (if inb p1 8 = true then (lt (wI μ10 6 (Int32.toNatClampNeg p1) (r2 + 1)) fun μ11 => (some μ11)) else none)) else none)) else (some μ1))))))
set_option maxRecDepth 100000 in
def f_X5_price (p1 : Int32) (p2 : Int32) (μ : OM) : Option (OM) := ((f_X5_hasStall p1 μ).bind fun r1 => (if r1 = 0 then (some μ) else (if inb p1 8 = true then (lt (wI μ 9 (Int32.toNatClampNeg p1) p2) fun μ3 => (some μ3)) else none)))
set_option maxRecDepth 100000 in
def f_X5_receive (p1 : Int32) (p2 : Int32) (μ : OM) : Option (OM) := ((f_X5_hasSeller p1 μ).bind fun r1 => (if r1 = 0 then (some μ) else (if inb p1 8 = true then (if inb p1 8 = true then (lt (wI μ 2 (Int32.toNatClampNeg p1) ((μ.1 2 (Int32.toNatClampNeg p1)) + p2)) fun μ3 => (lt (wI μ3 0 8 ((μ3.1 0 8) + p2)) fun μ4 => (some μ4))) else none) else none)))
set_option maxRecDepth 100000 in
def f_X5_mayPass (p1 : Int32) (μ : OM) : Option (Int32) := (if (9999 - (μ.1 0 2)) < p1 then (some 0) else (some 1))
set_option maxRecDepth 100000 in
def f_X5_chargeOrEvict (p1 : Int32) (μ : OM) : Option (OM) := ((f_X5_heldBy p1 μ).bind fun r1 => ((f_X5_hasSeller p1 μ).bind fun r2 => (if r2 = 0 then (some μ) else (if r1 = (-1) then (some μ) else ((f_X5_priceOf r1 μ).bind fun r5 => (if inb p1 8 = true then (if (μ.1 2 (Int32.toNatClampNeg p1)) < r5 then (if inb p1 8 = true then (lt (wI μ 4 (Int32.toNatClampNeg p1) (-1)) fun μ7 => (lt (wI μ7 0 4 ((μ7.1 0 4) + 1)) fun μ8 => (some μ8))) else none) else (if inb p1 8 = true then (if inb p1 8 = true then (lt (wI μ 2 (Int32.toNatClampNeg p1) ((μ.1 2 (Int32.toNatClampNeg p1)) - r5)) fun μ9 => (lt (wI μ9 0 3 ((μ9.1 0 3) + r5)) fun μ10 => (some μ10))) else none) else none)) else none))))))
set_option maxRecDepth 100000 in
def f_X5_pass_19  : Nat → Int32 → OM → Option (OM)
  | 0, _, _ => none
  | n + 1, x3, μ => (if (μ.1 0 0) ≤ x3 then (some μ) else (if inb x3 8 = true then ((f_X5_receive x3 (μ.1 3 (Int32.toNatClampNeg x3)) μ).bind fun μ4 => (f_X5_pass_19  n (x3 + 1) μ4)) else none))
set_option maxRecDepth 100000 in
def f_X5_pass_46  : Nat → Int32 → OM → Option (OM)
  | 0, _, _ => none
  | n + 1, x3, μ => (if (μ.1 0 0) ≤ x3 then (some μ) else ((f_X5_chargeOrEvict x3 μ).bind fun μ7 => (f_X5_pass_46  n (x3 + 1) μ7)))
set_option maxRecDepth 100000 in
def f_X5_pass_2 (x1 : Int32) : Nat → Int32 → OM → Option (OM)
  | 0, _, _ => none
  | n + 1, x2, μ => (if x1 ≤ x2 then (some μ) else (lt (wI μ 0 2 ((μ.1 0 2) + 1)) fun μ2 => ((f_X5_pass_19  FU 0 μ2).bind fun μ5 => ((f_X5_pass_46  FU 0 μ5).bind fun μ8 => (f_X5_pass_2 x1 n (x2 + 1) μ8)))))
set_option maxRecDepth 100000 in
def f_X5_pass (p1 : Int32) (μ : OM) : Option (OM) := (f_X5_pass_2 p1 FU 0 μ)
set_option maxRecDepth 100000 in
def f_X10_isLetter (p0 : Int32)  : Option (Int32) := (if p0 < 97 then (some 0) else (if 122 < p0 then (some 0) else (some 1)))
set_option maxRecDepth 100000 in
def f_X10_readWord_5 (β : OM) : Nat → OM → Option (OM)
  | 0, _ => none
  | n + 1, τ => (if (β.1 0 1) ≤ (τ.1 0 3) then (some τ) else ((f_X2_byteAt (τ.1 0 3) β).bind fun r3 => ((f_X10_isLetter r3).bind fun r4 => (if r4 = 0 then (some τ) else (if 6 ≤ ((τ.1 0 3) - (τ.1 0 2)) then (lt (wJ τ 0 5 0) fun τ7 => (lt (wI τ7 0 3 ((τ7.1 0 3) + 1)) fun τ8 => (f_X10_readWord_5 β n τ8))) else ((f_X2_byteAt (τ.1 0 3) β).bind fun r9 => (lt (wJ τ 0 5 (((τ.2.1 0 5) <<< ((Int32.toInt64 8) &&& 63)) ||| (Int32.toInt64 r9))) fun τ10 => (lt (wI τ10 0 3 ((τ10.1 0 3) + 1)) fun τ11 => (f_X10_readWord_5 β n τ11)))))))))
set_option maxRecDepth 100000 in
def f_X10_readWord  (τ : OM) (β : OM) : Option (OM) := (lt (wI τ 0 1 1) fun τ1 => (f_X10_readWord_5 β FU τ1))
set_option maxRecDepth 100000 in
def f_X10_isDigit (p0 : Int32)  : Option (Int32) := (if p0 < 48 then (some 0) else (if 57 < p0 then (some 0) else (some 1)))
set_option maxRecDepth 100000 in
def f_X10_readNumber_5 (β : OM) : Nat → OM → Option (OM)
  | 0, _ => none
  | n + 1, τ => (if (β.1 0 1) ≤ (τ.1 0 3) then (some τ) else ((f_X2_byteAt (τ.1 0 3) β).bind fun r3 => ((f_X10_isDigit r3).bind fun r4 => (if r4 = 0 then (some τ) else (if 10000 ≤ (τ.1 0 4) then (lt (wI τ 0 3 ((τ.1 0 3) + 1)) fun τ7 => (f_X10_readNumber_5 β n τ7)) else ((f_X2_byteAt (τ.1 0 3) β).bind fun r8 => (lt (wI τ 0 4 (((10 * (τ.1 0 4)) + r8) - 48)) fun τ9 => (lt (wI τ9 0 3 ((τ9.1 0 3) + 1)) fun τ10 => (f_X10_readNumber_5 β n τ10)))))))))
set_option maxRecDepth 100000 in
def f_X10_readNumber  (τ : OM) (β : OM) : Option (OM) := (lt (wI τ 0 1 2) fun τ1 => (f_X10_readNumber_5 β FU τ1))
set_option maxRecDepth 100000 in
def f_X10_next_8 (β : OM) : Nat → OM → Option (OM)
  | 0, _ => none
  | n + 1, τ => (if (β.1 0 1) ≤ (τ.1 0 2) then (some τ) else ((f_X2_byteAt (τ.1 0 2) β).bind fun r3 => (if r3 = 32 then (lt (wI τ 0 2 ((τ.1 0 2) + 1)) fun τ5 => (f_X10_next_8 β n τ5)) else (some τ))))
set_option maxRecDepth 100000 in
def f_X10_next  (τ : OM) (β : OM) : Option (OM) := (lt (wI τ 0 2 (τ.1 0 3)) fun τ1 => ((f_X10_next_8 β FU τ1).bind fun τ6 => (lt (wI τ6 0 3 (τ6.1 0 2)) fun τ7 => (lt (wI τ7 0 4 0) fun τ8 => (lt (wJ τ8 0 5 0) fun τ9 => ((f_X2_byteAt (τ9.1 0 2) β).bind fun r10 => (if r10 = (-1) then (lt (wI τ9 0 1 0) fun τ23 => (some τ23)) else ((f_X10_isLetter r10).bind fun r12 => (if r12 = 0 then ((f_X10_isDigit r10).bind fun r14 => (if r14 = 0 then (if r10 = 59 then (lt (wI τ9 0 1 3) fun τ19 => (lt (wI τ19 0 3 ((τ19.1 0 2) + 1)) fun τ20 => (some τ20))) else (lt (wI τ9 0 1 4) fun τ17 => (lt (wI τ17 0 3 ((τ17.1 0 2) + 1)) fun τ18 => (some τ18)))) else ((f_X10_readNumber τ9 β).bind fun τ21 => (some τ21)))) else ((f_X10_readWord τ9 β).bind fun τ22 => (some τ22)))))))))))
set_option maxRecDepth 100000 in
def f_X10_rewind  (τ : OM) (β : OM) : Option (OM) := (lt (wI τ 0 3 0) fun τ1 => ((f_X10_next τ1 β).bind fun τ2 => (some τ2)))
set_option maxRecDepth 100000 in
def f_X7_begin  (π : OM) (τ : OM) (β : OM) : Option (OM × OM) := (lt (wI π 0 1 0) fun π1 => (lt (wI π1 0 2 (-1)) fun π2 => ((f_X10_rewind τ β).bind fun τ3 => (some (π2, τ3)))))
set_option maxRecDepth 100000 in
def f_X7_fail (p1 : Int32) (π : OM) (τ : OM) : Option (Int32 × OM) := (lt (wI π 0 1 p1) fun π1 => (lt (wI π1 0 2 (τ.1 0 2)) fun π2 => (some (0, π2))))
set_option maxRecDepth 100000 in
def f_J0_coder_7d493 (w0 : Nat)  : Option (Int32) := (if w0 < 12 then (some 0) else none)
set_option maxRecDepth 100000 in
def f_J0_length_8abf5 (w0 : Nat)  : Option (Int32) := (if w0 < 12 then (if w0 < 12 then ((f_J0_coder_7d493 w0).bind fun r1 => (some ((nI (lens.getD w0 0)) >>> (r1 &&& 31)))) else none) else none)
set_option maxRecDepth 100000 in
def f_J0_isLatin1_aae02 (w0 : Nat)  : Option (Int32) := (if w0 < 12 then (some 1) else none)
set_option maxRecDepth 100000 in
def f_J3_checkIndex_8e157 (p0 : Int32) (p1 : Int32)  : Option (Int32) := (if p0 < 0 then none else (if p0 < p1 then (some p0) else none))
set_option maxRecDepth 100000 in
def f_J0_checkIndex_df160 (p0 : Int32) (p1 : Int32)  : Option (Unit) := ((f_J3_checkIndex_8e157 p0 p1).bind fun r2 => (some ()))
set_option maxRecDepth 100000 in
def f_J1_charAt_3b067 (w0 : Nat) (p1 : Int32)  : Option (Int32) := (if w0 < 12 then ((f_J0_checkIndex_df160 p1 (nI (lens.getD w0 0))).bind fun _ => (if w0 < 12 then (if inb p1 (lens.getD w0 0) = true then (if cz (((Int32.toUInt32 (((byts.getD w0 []).getD (Int32.toNatClampNeg p1) 0) &&& 255)) % 65536).toInt32) = true then some (((Int32.toUInt32 (((byts.getD w0 []).getD (Int32.toNatClampNeg p1) 0) &&& 255)) % 65536).toInt32) else none) else none) else none)) else none)
set_option maxRecDepth 100000 in
def f_J0_charAt_5068e (w0 : Nat) (p1 : Int32)  : Option (Int32) := ((f_J0_isLatin1_aae02 w0).bind fun r1 => (if r1 = 0 then none else (if w0 < 12 then ((f_J1_charAt_3b067 w0 p1).bind fun r3 => (if cz r3 = true then some r3 else none)) else none)))
set_option maxRecDepth 100000 in
def f_X10_isWord_28 (w1 : Nat) (τ : OM) (β : OM) : Nat → Int32 → Option (Int32)
  | 0, _ => none
  | n + 1, x2 => ((f_J0_length_8abf5 w1).bind fun r4 => (if r4 ≤ x2 then (some 1) else ((f_X2_byteAt ((τ.1 0 2) + x2) β).bind fun r6 => ((f_J0_charAt_5068e w1 x2).bind fun r7 => (if r6 = r7 then (f_X10_isWord_28 w1 τ β n (x2 + 1)) else (some 0))))))
set_option maxRecDepth 100000 in
def f_X10_isWord (w1 : Nat) (τ : OM) (β : OM) : Option (Int32) := (if (τ.1 0 1) = 1 then ((f_J0_length_8abf5 w1).bind fun r2 => (if ((τ.1 0 3) - (τ.1 0 2)) = r2 then (f_X10_isWord_28 w1 τ β FU 0) else (some 0))) else (some 0))
set_option maxRecDepth 100000 in
def f_X7_takeWord (w1 : Nat) (π : OM) (τ : OM) (β : OM) : Option (Int32 × OM × OM) := ((f_X10_isWord w1 τ β).bind fun r1 => (if r1 = 0 then (o2 (f_X7_fail 1 π τ) fun r4 π5 => (if bz r4 = true then some (r4, π5, τ) else none)) else ((f_X10_next τ β).bind fun τ3 => (some (1, π, τ3)))))
set_option maxRecDepth 100000 in
def f_X7_takeSemicolon  (π : OM) (τ : OM) (β : OM) : Option (Int32 × OM × OM) := (if (τ.1 0 1) = 3 then ((f_X10_next τ β).bind fun τ2 => (some (1, π, τ2))) else (o2 (f_X7_fail 1 π τ) fun r3 π4 => (if bz r3 = true then some (r3, π4, τ) else none)))
set_option maxRecDepth 100000 in
def f_X7_takeNumber (p1 : Int32) (p2 : Int32) (π : OM) (τ : OM) (β : OM) : Option (Int32 × OM × OM) := (lt ((τ.1 0 4)) fun i1 => (if (τ.1 0 1) = 2 then (if i1 < p1 then (o2 (f_X7_fail 2 π τ) fun r4 π5 => (some ((-1), π5, τ))) else (if i1 ≤ p2 then ((f_X10_next τ β).bind fun τ7 => (some (i1, π, τ7))) else (o2 (f_X7_fail 2 π τ) fun r8 π9 => (some ((-1), π9, τ))))) else (o2 (f_X7_fail 1 π τ) fun r10 π11 => (some ((-1), π11, τ)))))
set_option maxRecDepth 100000 in
def f_X7_seeStall  (μ : OM) (π : OM) (τ : OM) (β : OM) : Option (Int32 × OM) := (if (τ.1 0 1) = 1 then ((f_X10_isWord 5 τ β).bind fun r4 => (if r4 = 0 then ((f_X5_stallCalled (τ.2.1 0 5) μ).bind fun r6 => (if r6 = (-1) then (o2 (f_X7_fail 3 π τ) fun r8 π9 => (some (r6, π9))) else (some (r6, π)))) else (o2 (f_X7_fail 1 π τ) fun r10 π11 => (some ((-1), π11))))) else (o2 (f_X7_fail 1 π τ) fun r2 π3 => (some ((-1), π3))))
set_option maxRecDepth 100000 in
def f_X9_takeNewName (p1 : Int32) (π : OM) (τ : OM) (β : OM) : Option (Int32 × OM × OM) := (if (τ.1 0 1) = 1 then (if p1 = 0 then (if (lg_cmp (τ.2.1 0 5) 0) = 0 then (o2 (f_X7_fail 3 π τ) fun r7 π8 => (if bz r7 = true then some (r7, π8, τ) else none)) else ((f_X10_next τ β).bind fun τ6 => (some (1, π, τ6)))) else (o2 (f_X7_fail 3 π τ) fun r3 π4 => (if bz r3 = true then some (r3, π4, τ) else none))) else (o2 (f_X7_fail 1 π τ) fun r9 π10 => (if bz r9 = true then some (r9, π10, τ) else none)))
set_option maxRecDepth 100000 in
def f_X9_readStall  (μ : OM) (π : OM) (τ : OM) (β : OM) : Option (Int32 × OM × OM × OM) := (o3 (f_X7_takeWord 2 π τ β) fun r1 π2 τ3 => (if r1 = 0 then (some (0, μ, π2, τ3)) else (lt ((τ3.2.1 0 5)) fun i5 => ((f_X10_isWord 3 τ3 β).bind fun r6 => (if r6 = 0 then ((f_X5_stallCalled i5 μ).bind fun r20 => (if r20 = (-1) then (o3 (f_X9_takeNewName 0 π2 τ3 β) fun r22 π23 τ24 => (if r22 = 0 then (some (0, μ, π23, τ24)) else (o3 (f_X7_takeNumber 0 99 π23 τ24 β) fun r26 π27 τ28 => (if r26 = (-1) then (some (0, μ, π27, τ28)) else ((f_X5_addStall i5 r26 μ).bind fun μ30 => (o3 (f_X7_takeSemicolon π27 τ28 β) fun r31 π32 τ33 => (if bz r31 = true then some (r31, μ30, π32, τ33) else none))))))) else (o3 (f_X9_takeNewName 1 π2 τ3 β) fun r34 π35 τ36 => (if r34 = 0 then (some (0, μ, π35, τ36)) else (o3 (f_X7_takeNumber 0 99 π35 τ36 β) fun r38 π39 τ40 => (if r38 = (-1) then (some (0, μ, π39, τ40)) else ((f_X5_addStall i5 r38 μ).bind fun μ42 => (o3 (f_X7_takeSemicolon π39 τ40 β) fun r43 π44 τ45 => (if bz r43 = true then some (r43, μ42, π44, τ45) else none))))))))) else (o3 (f_X9_takeNewName 1 π2 τ3 β) fun r8 π9 τ10 => (if r8 = 0 then (some (0, μ, π9, τ10)) else (o3 (f_X7_takeNumber 0 99 π9 τ10 β) fun r12 π13 τ14 => (if r12 = (-1) then (some (0, μ, π13, τ14)) else ((f_X5_addStall i5 r12 μ).bind fun μ16 => (o3 (f_X7_takeSemicolon π13 τ14 β) fun r17 π18 τ19 => (if bz r17 = true then some (r17, μ16, π18, τ19) else none))))))))))))
set_option maxRecDepth 100000 in
def f_X9_readStalls_2 (β : OM) : Nat → Int32 → OM → OM → OM → Option (Int32 × OM × OM × OM)
  | 0, _, _, _, _ => none
  | n + 1, x2, μ, π, τ => (if 8 ≤ x2 then ((f_X10_isWord 2 τ β).bind fun r2 => (if r2 = 0 then (some (1, μ, π, τ)) else (o2 (f_X7_fail 5 π τ) fun r4 π5 => (if r4 = 0 then (some (0, μ, π5, τ)) else (some (1, μ, π5, τ)))))) else (if x2 ≤ 0 then (o4 (f_X9_readStall μ π τ β) fun r8 μ9 π10 τ11 => (if r8 = 0 then (some (0, μ9, π10, τ11)) else (f_X9_readStalls_2 β n (x2 + 1) μ9 π10 τ11))) else ((f_X10_isWord 2 τ β).bind fun r13 => (if r13 = 0 then (some (1, μ, π, τ)) else (o4 (f_X9_readStall μ π τ β) fun r15 μ16 π17 τ18 => (if r15 = 0 then (some (0, μ16, π17, τ18)) else (f_X9_readStalls_2 β n (x2 + 1) μ16 π17 τ18)))))))
set_option maxRecDepth 100000 in
def f_X9_readStalls  (μ : OM) (π : OM) (τ : OM) (β : OM) : Option (Int32 × OM × OM × OM) := (f_X9_readStalls_2 β FU 0 μ π τ)
set_option maxRecDepth 100000 in
def f_X9_readWishes_2 (x2 : Int32) (β : OM) : Nat → Int32 → OM → OM → OM → Option (Int32 × OM × OM × OM)
  | 0, _, _, _, _ => none
  | n + 1, x3, μ, π, τ => (if 8 < x3 then (some (1, μ, π, τ)) else (if (τ.1 0 1) = 1 then ((f_X10_isWord 3 τ β).bind fun r3 => (if r3 = 0 then (o2 (f_X7_seeStall μ π τ β) fun r5 π6 => (if r5 = (-1) then (some (0, μ, π6, τ)) else ((f_X5_rankIn x2 r5 μ).bind fun r8 => (if r8 = (-1) then ((f_X5_wishLast x2 r5 μ).bind fun μ10 => ((f_X10_next τ β).bind fun τ11 => (f_X9_readWishes_2 x2 β n (x3 + 1) μ10 π6 τ11))) else (o2 (f_X7_fail 4 π6 τ) fun r12 π13 => (if bz r12 = true then some (r12, μ, π13, τ) else none)))))) else (some (1, μ, π, τ)))) else (some (1, μ, π, τ))))
set_option maxRecDepth 100000 in
def f_X9_readWishes (p2 : Int32) (μ : OM) (π : OM) (τ : OM) (β : OM) : Option (Int32 × OM × OM × OM) := (f_X9_readWishes_2 p2 β FU 0 μ π τ)
set_option maxRecDepth 100000 in
def f_X9_readPlace (p2 : Int32) (μ : OM) (π : OM) (τ : OM) (β : OM) : Option (Int32 × OM × OM × OM) := ((f_X10_isWord 3 τ β).bind fun r1 => (if r1 = 0 then (some (1, μ, π, τ)) else ((f_X10_next τ β).bind fun τ3 => (o2 (f_X7_seeStall μ π τ3 β) fun r4 π5 => (if r4 = (-1) then (some (0, μ, π5, τ3)) else ((f_X5_holderOf r4 μ).bind fun r7 => (if r7 = (-1) then ((f_X5_seat p2 r4 μ).bind fun μ9 => ((f_X10_next τ3 β).bind fun τ10 => (some (1, μ9, π5, τ10)))) else (o2 (f_X7_fail 4 π5 τ3) fun r11 π12 => (if bz r11 = true then some (r11, μ, π12, τ3) else none)))))))))
set_option maxRecDepth 100000 in
def f_X9_readSeller  (μ : OM) (π : OM) (τ : OM) (β : OM) : Option (Int32 × OM × OM × OM) := (o3 (f_X7_takeWord 4 π τ β) fun r1 π2 τ3 => (if r1 = 0 then (some (0, μ, π2, τ3)) else (lt ((τ3.2.1 0 5)) fun i5 => ((f_X5_sellerCalled i5 μ).bind fun r6 => (if r6 = (-1) then (o3 (f_X9_takeNewName 0 π2 τ3 β) fun r8 π9 τ10 => (if r8 = 0 then (some (0, μ, π9, τ10)) else (o3 (f_X7_takeNumber 0 9999 π9 τ10 β) fun r12 π13 τ14 => (if r12 = (-1) then (some (0, μ, π13, τ14)) else (o3 (f_X7_takeNumber 0 99 π13 τ14 β) fun r16 π17 τ18 => (if r16 = (-1) then (some (0, μ, π17, τ18)) else (lt ((μ.1 0 0)) fun i20 => ((f_X5_addSeller i5 r12 r16 μ).bind fun μ21 => (o4 (f_X9_readWishes i20 μ21 π17 τ18 β) fun r22 μ23 π24 τ25 => (if r22 = 0 then (some (0, μ23, π24, τ25)) else (o4 (f_X9_readPlace i20 μ23 π24 τ25 β) fun r27 μ28 π29 τ30 => (if r27 = 0 then (some (0, μ28, π29, τ30)) else (o3 (f_X7_takeSemicolon π29 τ30 β) fun r32 π33 τ34 => (if r32 = 0 then (some (0, μ28, π33, τ34)) else (some (1, μ28, π33, τ34)))))))))))))))) else (o3 (f_X9_takeNewName 1 π2 τ3 β) fun r36 π37 τ38 => (if r36 = 0 then (some (0, μ, π37, τ38)) else (o3 (f_X7_takeNumber 0 9999 π37 τ38 β) fun r40 π41 τ42 => (if r40 = (-1) then (some (0, μ, π41, τ42)) else (o3 (f_X7_takeNumber 0 99 π41 τ42 β) fun r44 π45 τ46 => (if r44 = (-1) then (some (0, μ, π45, τ46)) else (lt ((μ.1 0 0)) fun i48 => ((f_X5_addSeller i5 r40 r44 μ).bind fun μ49 => (o4 (f_X9_readWishes i48 μ49 π45 τ46 β) fun r50 μ51 π52 τ53 => (if r50 = 0 then (some (0, μ51, π52, τ53)) else (o4 (f_X9_readPlace i48 μ51 π52 τ53 β) fun r55 μ56 π57 τ58 => (if r55 = 0 then (some (0, μ56, π57, τ58)) else (o3 (f_X7_takeSemicolon π57 τ58 β) fun r60 π61 τ62 => (if r60 = 0 then (some (0, μ56, π61, τ62)) else (some (1, μ56, π61, τ62)))))))))))))))))))))
set_option maxRecDepth 100000 in
def f_X9_readSellers_2 (β : OM) : Nat → Int32 → OM → OM → OM → Option (Int32 × OM × OM × OM)
  | 0, _, _, _, _ => none
  | n + 1, x2, μ, π, τ => (if 8 ≤ x2 then (if (τ.1 0 1) = 0 then (some (1, μ, π, τ)) else ((f_X10_isWord 4 τ β).bind fun r3 => (if r3 = 0 then (o2 (f_X7_fail 1 π τ) fun r5 π6 => (if bz r5 = true then some (r5, μ, π6, τ) else none)) else (o2 (f_X7_fail 5 π τ) fun r7 π8 => (if bz r7 = true then some (r7, μ, π8, τ) else none))))) else (if x2 ≤ 0 then (o4 (f_X9_readSeller μ π τ β) fun r10 μ11 π12 τ13 => (if r10 = 0 then (some (0, μ11, π12, τ13)) else (f_X9_readSellers_2 β n (x2 + 1) μ11 π12 τ13))) else (if (τ.1 0 1) = 0 then (some (1, μ, π, τ)) else (o4 (f_X9_readSeller μ π τ β) fun r16 μ17 π18 τ19 => (if r16 = 0 then (some (0, μ17, π18, τ19)) else (f_X9_readSellers_2 β n (x2 + 1) μ17 π18 τ19))))))
set_option maxRecDepth 100000 in
def f_X9_readSellers  (μ : OM) (π : OM) (τ : OM) (β : OM) : Option (Int32 × OM × OM × OM) := (f_X9_readSellers_2 β FU 0 μ π τ)
set_option maxRecDepth 100000 in
def f_X9_read  (μ : OM) (π : OM) (τ : OM) (β : OM) : Option (Int32 × OM × OM × OM) := ((f_X5_clear μ).bind fun μ1 => (o2 (f_X7_begin π τ β) fun π2 τ3 => (o3 (f_X7_takeWord 1 π2 τ3 β) fun r4 π5 τ6 => (if r4 = 0 then (some (0, μ1, π5, τ6)) else (o3 (f_X7_takeSemicolon π5 τ6 β) fun r8 π9 τ10 => (if r8 = 0 then (some (0, μ1, π9, τ10)) else (o4 (f_X9_readStalls μ1 π9 τ10 β) fun r12 μ13 π14 τ15 => (if r12 = 0 then (some (0, μ13, π14, τ15)) else (o4 (f_X9_readSellers μ13 π14 τ15 β) fun r17 μ18 π19 τ20 => (if r17 = 0 then (some (0, μ18, π19, τ20)) else (some (1, μ18, π19, τ20))))))))))))
set_option maxRecDepth 100000 in
def f_X12_appendInput (p1 : Int32) (p2 : Int32) (p3 : Int32) (p4 : Int32) (p5 : Int32) (σ : SM) : Option (Int32 × SM) := (if ((σ 13).1 0 1) ≤ 680 then ((f_X2_addWord p1 (σ 13)).bind fun m2 => (lt (us σ 13 m2) fun σ3 => ((f_X2_addWord p2 (σ3 13)).bind fun m4 => (lt (us σ3 13 m4) fun σ5 => ((f_X2_addWord p3 (σ5 13)).bind fun m6 => (lt (us σ5 13 m6) fun σ7 => ((f_X2_addWord p4 (σ7 13)).bind fun m8 => (lt (us σ7 13 m8) fun σ9 => ((f_X2_addWord p5 (σ9 13)).bind fun m10 => (lt (us σ9 13 m10) fun σ11 => (some (((σ11 13).1 0 1), σ11)))))))))))) else none)
set_option maxRecDepth 100000 in
def f_X12_loadSetup  (σ : SM) : Option (Int32 × SM) := (o4 (f_X9_read (σ 1) (σ 11) (σ 12) (σ 13)) fun r1 m2 m3 m4 => (lt (us (us (us σ 1 m2) 11 m3) 12 m4) fun σ5 => ((f_X2_cut 0 (σ5 13)).bind fun m6 => (lt (us σ5 13 m6) fun σ7 => (if r1 = 0 then (some ((-1), σ7)) else ((f_X5_copy (σ7 1) (σ7 0)).bind fun m9 => (lt (us σ7 0 m9) fun σ10 => ((f_X4_clear σ10).bind fun σ11 => (some (((σ11 0).1 0 0), σ11))))))))))
set_option maxRecDepth 100000 in
def f_X12_sellerCount  (σ : SM) : Option (Int32) := (some ((σ 0).1 0 0))
set_option maxRecDepth 100000 in
def f_X12_stallCount  (σ : SM) : Option (Int32) := (some ((σ 0).1 0 1))
set_option maxRecDepth 100000 in
def f_X12_day  (σ : SM) : Option (Int32) := (some ((σ 0).1 0 2))
set_option maxRecDepth 100000 in
def f_X12_requireSeller (p1 : Int32) (σ : SM) : Option (Unit) := (if p1 < 0 then none else (if p1 < ((σ 0).1 0 0) then (some ()) else none))
set_option maxRecDepth 100000 in
def f_X12_balance (p1 : Int32) (σ : SM) : Option (Int32) := ((f_X12_requireSeller p1 σ).bind fun _ => ((f_X5_coinsOf p1 (σ 0)).bind fun r1 => (some r1)))
set_option maxRecDepth 100000 in
def f_X12_requireStall (p1 : Int32) (σ : SM) : Option (Unit) := (if p1 < 0 then none else (if p1 < ((σ 0).1 0 1) then (some ()) else none))
set_option maxRecDepth 100000 in
def f_X12_rent (p1 : Int32) (σ : SM) : Option (Int32) := ((f_X12_requireStall p1 σ).bind fun _ => ((f_X5_priceOf p1 (σ 0)).bind fun r1 => (some r1)))
set_option maxRecDepth 100000 in
def f_X12_stallOf (p1 : Int32) (σ : SM) : Option (Int32) := ((f_X12_requireSeller p1 σ).bind fun _ => ((f_X5_heldBy p1 (σ 0)).bind fun r1 => (some r1)))
set_option maxRecDepth 100000 in
def f_X12_occupantOf (p1 : Int32) (σ : SM) : Option (Int32) := ((f_X12_requireStall p1 σ).bind fun _ => ((f_X5_holderOf p1 (σ 0)).bind fun r1 => (some r1)))
set_option maxRecDepth 100000 in
def f_X12_priorityOf (p1 : Int32) (σ : SM) : Option (Int32) := ((f_X12_requireSeller p1 σ).bind fun _ => ((f_X5_turnOf p1 (σ 0)).bind fun r1 => (some r1)))
set_option maxRecDepth 100000 in
def f_X12_preferenceCount (p1 : Int32) (σ : SM) : Option (Int32) := ((f_X12_requireSeller p1 σ).bind fun _ => ((f_X5_wishesOf p1 (σ 0)).bind fun r1 => (some r1)))
set_option maxRecDepth 100000 in
def f_X12_preferenceAt (p1 : Int32) (p2 : Int32) (σ : SM) : Option (Int32) := ((f_X12_requireSeller p1 σ).bind fun _ => (if p2 < 0 then none else ((f_X5_wishesOf p1 (σ 0)).bind fun r2 => (if p2 < r2 then ((f_X5_wish p1 p2 (σ 0)).bind fun r4 => (some r4)) else none))))
set_option maxRecDepth 100000 in
def f_X12_isEfficient  (σ : SM) : Option (Int32) := ((f_X3_canImprove (σ 0)).bind fun r1 => (if r1 = 0 then (some 1) else (some 0)))
set_option maxRecDepth 100000 in
def f_X12_allocatedStall (p1 : Int32) (σ : SM) : Option (Int32 × SM) := ((f_X12_requireSeller p1 σ).bind fun _ => ((f_X1_decide (σ 0) (σ 17)).bind fun m1 => (lt (us σ 17 m1) fun σ2 => ((f_X1_givenTo p1 (σ2 17)).bind fun r3 => (some (r3, σ2))))))
set_option maxRecDepth 100000 in
def f_X12_ledgerDifference_4 (σ : SM) : Nat → Int32 → Int32 → Option (Int32)
  | 0, _, _ => none
  | n + 1, x2, x1 => (if ((σ 0).1 0 0) ≤ x2 then (some x1) else ((f_X5_coinsOf x2 (σ 0)).bind fun r2 => (lt ((x1 + r2)) fun i3 => (f_X12_ledgerDifference_4 σ n (x2 + 1) i3))))
set_option maxRecDepth 100000 in
def f_X12_ledgerDifference  (σ : SM) : Option (Int32) := ((f_X12_ledgerDifference_4 σ FU 0 0).bind fun i4 => (some (((i4 - ((σ 0).1 0 7)) - ((σ 0).1 0 8)) + ((σ 0).1 0 3))))
set_option maxRecDepth 100000 in
def f_X12_assign (p1 : Int32) (p2 : Int32) (σ : SM) : Option (Int32 × SM) := ((f_X12_requireSeller p1 σ).bind fun _ => ((f_X12_requireStall p2 σ).bind fun _ => ((f_X5_mayMoveInto p1 p2 (σ 0)).bind fun r1 => (if r1 = 0 then none else ((f_X4_record σ).bind fun σ3 => ((f_X5_heldBy p1 (σ3 0)).bind fun r4 => ((f_X5_seat p1 p2 (σ3 0)).bind fun m5 => (lt (us σ3 0 m5) fun σ6 => (some (r4, σ6))))))))))
set_option maxRecDepth 100000 in
def f_X12_vacate (p1 : Int32) (σ : SM) : Option (Int32 × SM) := ((f_X12_requireSeller p1 σ).bind fun _ => ((f_X5_heldBy p1 (σ 0)).bind fun r1 => (if r1 = (-1) then none else ((f_X4_record σ).bind fun σ3 => ((f_X5_seat p1 (-1) (σ3 0)).bind fun m4 => (lt (us σ3 0 m4) fun σ5 => (some (r1, σ5))))))))
set_option maxRecDepth 100000 in
def f_X12_swap (p1 : Int32) (p2 : Int32) (σ : SM) : Option (Int32 × SM) := ((f_X12_requireSeller p1 σ).bind fun _ => ((f_X12_requireSeller p2 σ).bind fun _ => ((f_X3_bothGain p1 p2 (σ 0)).bind fun r1 => (if r1 = 0 then none else ((f_X4_record σ).bind fun σ3 => ((f_X5_exchange p1 p2 (σ3 0)).bind fun m4 => (lt (us σ3 0 m4) fun σ5 => ((f_X5_heldBy p1 (σ5 0)).bind fun r6 => (some (r6, σ5))))))))))
set_option maxRecDepth 100000 in
def f_X12_reallocate  (σ : SM) : Option (Int32 × SM) := ((f_X4_record σ).bind fun σ1 => ((f_X1_decide (σ1 0) (σ1 17)).bind fun m2 => (lt (us σ1 17 m2) fun σ3 => (o2 (f_X1_applyTo (σ3 0) (σ3 17)) fun r4 m5 => (lt (us σ3 0 m5) fun σ6 => (some (r4, σ6)))))))
set_option maxRecDepth 100000 in
def f_X12_setPriority (p1 : Int32) (p2 : Int32) (σ : SM) : Option (Int32 × SM) := ((f_X12_requireSeller p1 σ).bind fun _ => (if p2 < 0 then none else (if p2 < ((σ 0).1 0 0) then ((f_X4_record σ).bind fun σ3 => ((f_X5_turnOf p1 (σ3 0)).bind fun r4 => ((f_X5_moveTurn p1 p2 (σ3 0)).bind fun m5 => (lt (us σ3 0 m5) fun σ6 => (some (r4, σ6)))))) else none)))
set_option maxRecDepth 100000 in
def f_X12_preferFirst (p1 : Int32) (p2 : Int32) (σ : SM) : Option (Int32 × SM) := ((f_X12_requireSeller p1 σ).bind fun _ => ((f_X12_requireStall p2 σ).bind fun _ => ((f_X4_record σ).bind fun σ1 => ((f_X5_wishFirst p1 p2 (σ1 0)).bind fun m2 => (lt (us σ1 0 m2) fun σ3 => ((f_X5_wishesOf p1 (σ3 0)).bind fun r4 => (some (r4, σ3))))))))
set_option maxRecDepth 100000 in
def f_X12_removePreference (p1 : Int32) (p2 : Int32) (σ : SM) : Option (Int32 × SM) := ((f_X12_requireSeller p1 σ).bind fun _ => ((f_X12_requireStall p2 σ).bind fun _ => ((f_X5_rankIn p1 p2 (σ 0)).bind fun r1 => (if r1 = (-1) then none else ((f_X4_record σ).bind fun σ3 => ((f_X5_dropWish p1 p2 (σ3 0)).bind fun m4 => (lt (us σ3 0 m4) fun σ5 => ((f_X5_wishesOf p1 (σ5 0)).bind fun r6 => (some (r6, σ5))))))))))
set_option maxRecDepth 100000 in
def f_X12_setRent (p1 : Int32) (p2 : Int32) (σ : SM) : Option (Int32 × SM) := ((f_X12_requireStall p1 σ).bind fun _ => (if p2 < 0 then none else (if p2 ≤ 99 then ((f_X4_record σ).bind fun σ3 => ((f_X5_priceOf p1 (σ3 0)).bind fun r4 => ((f_X5_price p1 p2 (σ3 0)).bind fun m5 => (lt (us σ3 0 m5) fun σ6 => (some (r4, σ6)))))) else none)))
set_option maxRecDepth 100000 in
def f_X12_advanceDays (p1 : Int32) (σ : SM) : Option (Int32 × SM) := (if p1 < 1 then none else (if p1 ≤ 99 then ((f_X5_mayPass p1 (σ 0)).bind fun r3 => (if r3 = 0 then none else ((f_X4_record σ).bind fun σ5 => (lt (((σ5 0).1 0 4)) fun i6 => ((f_X5_pass p1 (σ5 0)).bind fun m7 => (lt (us σ5 0 m7) fun σ8 => (some ((((σ8 0).1 0 4) - i6), σ8)))))))) else none))
set_option maxRecDepth 100000 in
def f_X12_undo  (σ : SM) : Option (Int32 × SM) := (o2 (f_X4_takeBack σ) fun r1 σ2 => (some (r1, σ2)))
set_option maxRecDepth 100000 in
def f_X13_draw (p1 : Int32) (ρ : OM) : Option (Int32 × OM) := (lt (wI ρ 0 12 (((ρ.1 0 12) * 1103515245) + 12345)) fun ρ1 => (if p1 = 0 then none else (some (((((ρ1.1 0 12).toUInt32 >>> (Int32.toUInt32 16 &&& Int32.toUInt32 31)).toInt32) - (((ρ1.1 0 12).toUInt32 >>> (Int32.toUInt32 16 &&& Int32.toUInt32 31)).toInt32) / p1 * p1), ρ1))))
set_option maxRecDepth 100000 in
def f_X13_put_2 (w1 : Nat) : Nat → Int32 → OM → Option (OM)
  | 0, _, _ => none
  | n + 1, x2, ρ => ((f_J0_length_8abf5 w1).bind fun r1 => (if r1 ≤ x2 then (some ρ) else (lt (wI ρ 0 13 ((ρ.1 0 13) + 1)) fun ρ3 => ((f_J0_charAt_5068e w1 x2).bind fun r4 => (if inb (ρ.1 0 13) 700 = true then (lt (wI ρ3 1 (Int32.toNatClampNeg (ρ.1 0 13)) (Int8.toInt32 (Int32.toInt8 r4))) fun ρ5 => (f_X13_put_2 w1 n (x2 + 1) ρ5)) else none)))))
set_option maxRecDepth 100000 in
def f_X13_put (w1 : Nat) (ρ : OM) : Option (OM) := (f_X13_put_2 w1 FU 0 ρ)
set_option maxRecDepth 100000 in
def f_X13_digits_1 (p1 : Int32) (ρ : OM) : Option (OM) := (if p1 ≤ 9 then (lt (wI ρ 0 13 ((ρ.1 0 13) + 1)) fun ρ2 => (if inb (ρ.1 0 13) 700 = true then (lt (wI ρ2 1 (Int32.toNatClampNeg (ρ.1 0 13)) (Int8.toInt32 (Int32.toInt8 (48 + (p1 - p1 / 10 * 10))))) fun ρ3 => (some ρ3)) else none)) else none)
set_option maxRecDepth 100000 in
def f_X13_digits_2 (p1 : Int32) (ρ : OM) : Option (OM) := (if p1 ≤ 9 then (lt (wI ρ 0 13 ((ρ.1 0 13) + 1)) fun ρ2 => (if inb (ρ.1 0 13) 700 = true then (lt (wI ρ2 1 (Int32.toNatClampNeg (ρ.1 0 13)) (Int8.toInt32 (Int32.toInt8 (48 + (p1 - p1 / 10 * 10))))) fun ρ3 => (some ρ3)) else none)) else ((f_X13_digits_1 (p1 / 10) ρ).bind fun ρ4 => (lt (wI ρ4 0 13 ((ρ4.1 0 13) + 1)) fun ρ5 => (if inb (ρ4.1 0 13) 700 = true then (lt (wI ρ5 1 (Int32.toNatClampNeg (ρ4.1 0 13)) (Int8.toInt32 (Int32.toInt8 (48 + (p1 - p1 / 10 * 10))))) fun ρ6 => (some ρ6)) else none))))
set_option maxRecDepth 100000 in
def f_X13_digits_3 (p1 : Int32) (ρ : OM) : Option (OM) := (if p1 ≤ 9 then (lt (wI ρ 0 13 ((ρ.1 0 13) + 1)) fun ρ2 => (if inb (ρ.1 0 13) 700 = true then (lt (wI ρ2 1 (Int32.toNatClampNeg (ρ.1 0 13)) (Int8.toInt32 (Int32.toInt8 (48 + (p1 - p1 / 10 * 10))))) fun ρ3 => (some ρ3)) else none)) else ((f_X13_digits_2 (p1 / 10) ρ).bind fun ρ4 => (lt (wI ρ4 0 13 ((ρ4.1 0 13) + 1)) fun ρ5 => (if inb (ρ4.1 0 13) 700 = true then (lt (wI ρ5 1 (Int32.toNatClampNeg (ρ4.1 0 13)) (Int8.toInt32 (Int32.toInt8 (48 + (p1 - p1 / 10 * 10))))) fun ρ6 => (some ρ6)) else none))))
set_option maxRecDepth 100000 in
def f_X13_put_ (p1 : Int32) (ρ : OM) : Option (OM) := ((f_X13_put 8 ρ).bind fun ρ1 => ((f_X13_digits_3 p1 ρ1).bind fun ρ2 => (some ρ2)))
set_option maxRecDepth 100000 in
def f_X13_letter (p1 : Int32) (p2 : Int32) (ρ : OM) : Option (OM) := ((f_X13_put 8 ρ).bind fun ρ1 => (lt (wI ρ1 0 13 ((ρ1.1 0 13) + 1)) fun ρ2 => (if inb (ρ1.1 0 13) 700 = true then (lt (wI ρ2 1 (Int32.toNatClampNeg (ρ1.1 0 13)) (Int8.toInt32 (Int32.toInt8 (p1 + p2)))) fun ρ3 => (some ρ3)) else none)))
set_option maxRecDepth 100000 in
def f_X13_four_4 (x1 : Int32) (ρ : OM) : Nat → Int32 → Int32 → Option (Int32)
  | 0, _, _ => none
  | n + 1, x3, x2 => (if (x1 + 4) ≤ x3 then (some x2) else (if (ρ.1 0 13) ≤ x3 then (lt (((x2 <<< (8 &&& 31)) ||| 32)) fun i3 => (f_X13_four_4 x1 ρ n (x3 + 1) i3)) else (if inb x3 700 = true then (lt (((x2 <<< (8 &&& 31)) ||| (ρ.1 1 (Int32.toNatClampNeg x3)))) fun i4 => (f_X13_four_4 x1 ρ n (x3 + 1) i4)) else none)))
set_option maxRecDepth 100000 in
def f_X13_four (p1 : Int32) (ρ : OM) : Option (Int32) := (f_X13_four_4 p1 ρ FU p1 0)
set_option maxRecDepth 100000 in
def f_X13_send_2  : Nat → Int32 → SM → Option (Int32 × SM)
  | 0, _, _ => none
  | n + 1, x2, σ => (if ((σ 20).1 0 13) ≤ x2 then (lt (us σ 20 (wI (σ 20) 0 13 0)) fun σ2 => (some (1, σ2))) else ((f_X13_four x2 (σ 20)).bind fun r3 => ((f_X13_four (x2 + 4) (σ 20)).bind fun r4 => ((f_X13_four (x2 + 8) (σ 20)).bind fun r5 => ((f_X13_four (x2 + 12) (σ 20)).bind fun r6 => ((f_X13_four (x2 + 16) (σ 20)).bind fun r7 => (o2 (f_X12_appendInput r3 r4 r5 r6 r7 σ) fun r8 σ9 => (if r8 = (x2 + 20) then (f_X13_send_2  n (x2 + 20) σ9) else none))))))))
set_option maxRecDepth 100000 in
def f_X13_send  (σ : SM) : Option (Int32 × SM) := (f_X13_send_2  FU 0 σ)
set_option maxRecDepth 100000 in
def f_X13_rank_2 (x1 : Int32) (x2 : Int32) (ρ : OM) : Nat → Int32 → Option (Int32)
  | 0, _ => none
  | n + 1, x3 => (if inb x1 8 = true then (if (ρ.1 6 (Int32.toNatClampNeg x1)) ≤ x3 then (some (-1)) else (if inb x1 8 = true then (if inb x3 8 = true then (if (ρ.1 (12 + Int32.toNatClampNeg x1) (Int32.toNatClampNeg x3)) = x2 then (some x3) else (f_X13_rank_2 x1 x2 ρ n (x3 + 1))) else none) else none)) else none)
set_option maxRecDepth 100000 in
def f_X13_rank (p1 : Int32) (p2 : Int32) (ρ : OM) : Option (Int32) := (f_X13_rank_2 p1 p2 ρ FU 0)
set_option maxRecDepth 100000 in
def f_X13_tenant_2 (x1 : Int32) (ρ : OM) : Nat → Int32 → Option (Int32)
  | 0, _ => none
  | n + 1, x2 => (if (ρ.1 0 15) ≤ x2 then (some (-1)) else (if inb x2 8 = true then (if (ρ.1 5 (Int32.toNatClampNeg x2)) = x1 then (some x2) else (f_X13_tenant_2 x1 ρ n (x2 + 1))) else none))
set_option maxRecDepth 100000 in
def f_X13_tenant (p1 : Int32) (ρ : OM) : Option (Int32) := (f_X13_tenant_2 p1 ρ FU 0)
set_option maxRecDepth 100000 in
def f_X13_begin_36  : Nat → Int32 → SM → Option (SM)
  | 0, _, _ => none
  | n + 1, x3, σ => (if 8 ≤ x3 then (some σ) else (if inb x3 8 = true then (lt (us σ 20 (wI (σ 20) 5 (Int32.toNatClampNeg x3) (-1))) fun σ12 => (f_X13_begin_36  n (x3 + 1) σ12)) else none))
set_option maxRecDepth 100000 in
def f_X13_begin_63  : Nat → Int32 → SM → Option (SM)
  | 0, _, _ => none
  | n + 1, x3, σ => (if ((σ 20).1 0 14) ≤ x3 then (some σ) else (o2 (f_X13_draw 2 (σ 20)) fun r17 m18 => (lt (us σ 20 m18) fun σ19 => (if r17 = 0 then (o2 (f_X13_draw 100 (σ19 20)) fun r33 m34 => (lt (us σ19 20 m34) fun σ35 => (if inb x3 8 = true then (lt (us σ35 20 (wI (σ35 20) 2 (Int32.toNatClampNeg x3) r33)) fun σ36 => ((f_X13_put 7 (σ36 20)).bind fun m37 => (lt (us σ36 20 m37) fun σ38 => ((f_X13_letter 112 x3 (σ38 20)).bind fun m39 => (lt (us σ38 20 m39) fun σ40 => (if inb x3 8 = true then ((f_X13_put_ ((σ40 20).1 2 (Int32.toNatClampNeg x3)) (σ40 20)).bind fun m41 => (lt (us σ40 20 m41) fun σ42 => ((f_X13_put 9 (σ42 20)).bind fun m43 => (lt (us σ42 20 m43) fun σ44 => (f_X13_begin_63  n (x3 + 1) σ44))))) else none)))))) else none))) else (o2 (f_X13_draw 20 (σ19 20)) fun r21 m22 => (lt (us σ19 20 m22) fun σ23 => (if inb x3 8 = true then (lt (us σ23 20 (wI (σ23 20) 2 (Int32.toNatClampNeg x3) r21)) fun σ24 => ((f_X13_put 7 (σ24 20)).bind fun m25 => (lt (us σ24 20 m25) fun σ26 => ((f_X13_letter 112 x3 (σ26 20)).bind fun m27 => (lt (us σ26 20 m27) fun σ28 => (if inb x3 8 = true then ((f_X13_put_ ((σ28 20).1 2 (Int32.toNatClampNeg x3)) (σ28 20)).bind fun m29 => (lt (us σ28 20 m29) fun σ30 => ((f_X13_put 9 (σ30 20)).bind fun m31 => (lt (us σ30 20 m31) fun σ32 => (f_X13_begin_63  n (x3 + 1) σ32))))) else none)))))) else none)))))))
set_option maxRecDepth 100000 in
def f_X13_begin_232 (x3 : Int32) : Nat → Int32 → SM → Option (SM)
  | 0, _, _ => none
  | n + 1, x4, σ => (if x4 ≤ 0 then (some σ) else (o2 (f_X13_draw ((σ 20).1 0 14) (σ 20)) fun r70 m71 => (lt (us σ 20 m71) fun σ72 => ((f_X13_rank x3 r70 (σ72 20)).bind fun r73 => (if r73 = (-1) then (if inb x3 8 = true then (if inb x3 8 = true then (if inb x3 8 = true then (lt (us σ72 20 (wI (σ72 20) 6 (Int32.toNatClampNeg x3) (((σ72 20).1 6 (Int32.toNatClampNeg x3)) + 1))) fun σ76 => (if inb ((σ72 20).1 6 (Int32.toNatClampNeg x3)) 8 = true then (lt (us σ76 20 (wI (σ76 20) (12 + Int32.toNatClampNeg x3) (Int32.toNatClampNeg ((σ72 20).1 6 (Int32.toNatClampNeg x3))) r70)) fun σ77 => ((f_X13_letter 112 r70 (σ77 20)).bind fun m78 => (lt (us σ77 20 m78) fun σ79 => (f_X13_begin_232 x3 n (x4 + (-1)) σ79)))) else none)) else none) else none) else none) else (f_X13_begin_232 x3 n (x4 + (-1)) σ72))))))
set_option maxRecDepth 100000 in
def f_X13_begin_133  : Nat → Int32 → SM → Option (SM)
  | 0, _, _ => none
  | n + 1, x3, σ => (if ((σ 20).1 0 15) ≤ x3 then (some σ) else (o2 (f_X13_draw 200 (σ 20)) fun r47 m48 => (lt (us σ 20 m48) fun σ49 => (if inb x3 8 = true then (lt (us σ49 20 (wI (σ49 20) 3 (Int32.toNatClampNeg x3) r47)) fun σ50 => (o2 (f_X13_draw 60 (σ50 20)) fun r51 m52 => (lt (us σ50 20 m52) fun σ53 => (if inb x3 8 = true then (lt (us σ53 20 (wI (σ53 20) 4 (Int32.toNatClampNeg x3) r51)) fun σ54 => (if inb x3 8 = true then (lt (us σ54 20 (wI (σ54 20) 5 (Int32.toNatClampNeg x3) (-1))) fun σ55 => (if inb x3 8 = true then (lt (us σ55 20 (wI (σ55 20) 6 (Int32.toNatClampNeg x3) 0)) fun σ56 => (if inb x3 8 = true then (lt (us σ56 20 (wI (σ56 20) 7 (Int32.toNatClampNeg x3) x3)) fun σ57 => ((f_X13_put 10 (σ57 20)).bind fun m58 => (lt (us σ57 20 m58) fun σ59 => ((f_X13_letter 97 x3 (σ59 20)).bind fun m60 => (lt (us σ59 20 m60) fun σ61 => (if inb x3 8 = true then ((f_X13_put_ ((σ61 20).1 3 (Int32.toNatClampNeg x3)) (σ61 20)).bind fun m62 => (lt (us σ61 20 m62) fun σ63 => (if inb x3 8 = true then ((f_X13_put_ ((σ63 20).1 4 (Int32.toNatClampNeg x3)) (σ63 20)).bind fun m64 => (lt (us σ63 20 m64) fun σ65 => (o2 (f_X13_draw (((σ65 20).1 0 14) + 1) (σ65 20)) fun r66 m67 => (lt (us σ65 20 m67) fun σ68 => ((f_X13_begin_232 x3 FU r66 σ68).bind fun σ80 => (o2 (f_X13_draw ((σ80 20).1 0 14) (σ80 20)) fun r81 m82 => (lt (us σ80 20 m82) fun σ83 => (o2 (f_X13_draw 3 (σ83 20)) fun r84 m85 => (lt (us σ83 20 m85) fun σ86 => (if r84 ≤ 0 then ((f_X13_put 9 (σ86 20)).bind fun m88 => (lt (us σ86 20 m88) fun σ89 => (f_X13_begin_133  n (x3 + 1) σ89))) else ((f_X13_tenant r81 (σ86 20)).bind fun r90 => (if r90 = (-1) then (if inb x3 8 = true then (lt (us σ86 20 (wI (σ86 20) 5 (Int32.toNatClampNeg x3) r81)) fun σ94 => ((f_X13_put 11 (σ94 20)).bind fun m95 => (lt (us σ94 20 m95) fun σ96 => ((f_X13_letter 112 r81 (σ96 20)).bind fun m97 => (lt (us σ96 20 m97) fun σ98 => ((f_X13_put 9 (σ98 20)).bind fun m99 => (lt (us σ98 20 m99) fun σ100 => (f_X13_begin_133  n (x3 + 1) σ100)))))))) else none) else ((f_X13_put 9 (σ86 20)).bind fun m92 => (lt (us σ86 20 m92) fun σ93 => (f_X13_begin_133  n (x3 + 1) σ93))))))))))))))) else none))) else none)))))) else none)) else none)) else none)) else none)))) else none))))
set_option maxRecDepth 100000 in
def f_X13_begin (p2 : Int32) (σ : SM) : Option (Int32 × SM) := (lt (us σ 20 (wI (σ 20) 0 12 p2)) fun σ1 => (lt (us σ1 20 (wI (σ1 20) 0 16 0)) fun σ2 => (o2 (f_X13_draw 7 (σ2 20)) fun r3 m4 => (lt (us σ2 20 m4) fun σ5 => (lt (us σ5 20 (wI (σ5 20) 0 14 (1 + r3))) fun σ6 => (o2 (f_X13_draw 7 (σ6 20)) fun r7 m8 => (lt (us σ6 20 m8) fun σ9 => (lt (us σ9 20 (wI (σ9 20) 0 15 (1 + r7))) fun σ10 => ((f_X13_begin_36  FU 0 σ10).bind fun σ13 => ((f_X13_put 6 (σ13 20)).bind fun m14 => (lt (us σ13 20 m14) fun σ15 => ((f_X13_begin_63  FU 0 σ15).bind fun σ45 => ((f_X13_begin_133  FU 0 σ45).bind fun σ101 => (o2 (f_X13_send σ101) fun r102 σ103 => (if r102 = 0 then none else (o2 (f_X12_loadSetup σ103) fun r105 σ106 => (if r105 = ((σ106 20).1 0 15) then (some (1, σ106)) else none)))))))))))))))))
set_option maxRecDepth 100000 in
def f_X13_bad (p1 : Int32) (p2 : Int32) (ρ : OM) : Option (Int32) := (if p2 = (-1) then (some 50) else ((f_X13_rank p1 p2 ρ).bind fun r2 => (if r2 = (-1) then (some 99) else ((f_X13_rank p1 p2 ρ).bind fun r4 => (some r4)))))
set_option maxRecDepth 100000 in
def f_X13_likes (p1 : Int32) (p2 : Int32) (p3 : Int32) (ρ : OM) : Option (Int32) := ((f_X13_bad p1 p2 ρ).bind fun r1 => ((f_X13_bad p1 p3 ρ).bind fun r2 => (if r2 ≤ r1 then (some 0) else (some 1))))
set_option maxRecDepth 100000 in
def f_X13_envies (p1 : Int32) (p2 : Int32) (ρ : OM) : Option (Int32) := (if inb p2 8 = true then (if (ρ.1 5 (Int32.toNatClampNeg p2)) = (-1) then (some 0) else (if inb p2 8 = true then (if inb p1 8 = true then ((f_X13_likes p1 (ρ.1 5 (Int32.toNatClampNeg p2)) (ρ.1 5 (Int32.toNatClampNeg p1)) ρ).bind fun r2 => (if r2 = 0 then (some 0) else (some 1))) else none) else none)) else none)
set_option maxRecDepth 100000 in
def f_X13_both (p1 : Int32) (p2 : Int32) (ρ : OM) : Option (Int32) := (if inb p1 8 = true then (if (ρ.1 5 (Int32.toNatClampNeg p1)) = (-1) then (some 0) else (if inb p2 8 = true then (if (ρ.1 5 (Int32.toNatClampNeg p2)) = (-1) then (some 0) else ((f_X13_envies p1 p2 ρ).bind fun r3 => (if r3 = 0 then (some 0) else ((f_X13_envies p2 p1 ρ).bind fun r5 => (if r5 = 0 then (some 0) else (some 1)))))) else none)) else none)
set_option maxRecDepth 100000 in
def f_X13_where_2 (x1 : Int32) (ρ : OM) : Nat → Int32 → Option (Int32)
  | 0, _ => none
  | n + 1, x2 => (if (ρ.1 0 17) ≤ x2 then (some (-1)) else (if inb x2 8 = true then (if (ρ.1 8 (Int32.toNatClampNeg x2)) = x1 then (some x2) else (f_X13_where_2 x1 ρ n (x2 + 1))) else none))
set_option maxRecDepth 100000 in
def f_X13_where (p1 : Int32) (ρ : OM) : Option (Int32) := (f_X13_where_2 p1 ρ FU 0)
set_option maxRecDepth 100000 in
def f_X13_whereAll_2 (x1 : Int32) (ρ : OM) : Nat → Int32 → Option (Int32)
  | 0, _ => none
  | n + 1, x2 => (if (ρ.1 0 17) < x2 then (some (ρ.1 0 17)) else (if inb x2 8 = true then (if (ρ.1 8 (Int32.toNatClampNeg x2)) = x1 then (some x2) else (f_X13_whereAll_2 x1 ρ n (x2 + 1))) else none))
set_option maxRecDepth 100000 in
def f_X13_whereAll (p1 : Int32) (ρ : OM) : Option (Int32) := (f_X13_whereAll_2 p1 ρ FU 0)
set_option maxRecDepth 100000 in
def f_X13_give_35  : Nat → Int32 → OM → Option (OM)
  | 0, _, _ => none
  | n + 1, x3, ρ => (if (ρ.1 0 17) ≤ x3 then (some ρ) else (if inb (x3 + 1) 8 = true then (if inb x3 8 = true then (lt (wI ρ 8 (Int32.toNatClampNeg x3) (ρ.1 8 (Int32.toNatClampNeg (x3 + 1)))) fun ρ6 => (f_X13_give_35  n (x3 + 1) ρ6)) else none) else none))
set_option maxRecDepth 100000 in
def f_X13_give (p1 : Int32) (p2 : Int32) (ρ : OM) : Option (OM) := (if inb p1 8 = true then (lt (wI ρ 10 (Int32.toNatClampNeg p1) p2) fun ρ1 => (if p2 = (-1) then (lt (wI ρ1 0 17 ((ρ1.1 0 17) - 1)) fun ρ3 => ((f_X13_whereAll p1 ρ3).bind fun r4 => (f_X13_give_35  FU r4 ρ3))) else (if inb p2 8 = true then (lt (wI ρ1 20 (Int32.toNatClampNeg p2) 1) fun ρ7 => (lt (wI ρ7 0 17 ((ρ7.1 0 17) - 1)) fun ρ8 => ((f_X13_whereAll p1 ρ8).bind fun r9 => (f_X13_give_35  FU r9 ρ8)))) else none))) else none)
set_option maxRecDepth 100000 in
def f_X13_front_6 (x1 : Int32) : Nat → Int32 → OM → Option (OM)
  | 0, _, _ => none
  | n + 1, x2, ρ => (if x2 ≤ 0 then (if inb 0 8 = true then (lt (wI ρ 8 (Int32.toNatClampNeg 0) x1) fun ρ3 => (some ρ3)) else none) else (if inb (x2 - 1) 8 = true then (if inb x2 8 = true then (lt (wI ρ 8 (Int32.toNatClampNeg x2) (ρ.1 8 (Int32.toNatClampNeg (x2 - 1)))) fun ρ4 => (f_X13_front_6 x1 n (x2 + (-1)) ρ4)) else none) else none))
set_option maxRecDepth 100000 in
def f_X13_front (p1 : Int32) (ρ : OM) : Option (OM) := ((f_X13_where p1 ρ).bind fun r1 => (f_X13_front_6 p1 FU r1 ρ))
set_option maxRecDepth 100000 in
def f_X13_mechanism_10  : Nat → Int32 → OM → Option (OM)
  | 0, _, _ => none
  | n + 1, x1, ρ => (if (ρ.1 0 15) ≤ x1 then (some ρ) else (if inb x1 8 = true then (if inb x1 8 = true then (lt (wI ρ 8 (Int32.toNatClampNeg x1) (ρ.1 7 (Int32.toNatClampNeg x1))) fun ρ3 => (if inb x1 8 = true then (lt (wI ρ3 9 (Int32.toNatClampNeg x1) (-1)) fun ρ4 => (if inb x1 8 = true then (lt (wI ρ4 10 (Int32.toNatClampNeg x1) (-1)) fun ρ5 => (f_X13_mechanism_10  n (x1 + 1) ρ5)) else none)) else none)) else none) else none))
set_option maxRecDepth 100000 in
def f_X13_mechanism_52  : Nat → Int32 → OM → Option (OM)
  | 0, _, _ => none
  | n + 1, x1, ρ => (if (ρ.1 0 14) ≤ x1 then (some ρ) else (if inb x1 8 = true then (lt (wI ρ 20 (Int32.toNatClampNeg x1) 0) fun ρ8 => (f_X13_mechanism_52  n (x1 + 1) ρ8)) else none))
set_option maxRecDepth 100000 in
def f_X13_mechanism_98 (x1 : Int32) (ρ : OM) : Nat → Int32 → Int32 → Option (Int32)
  | 0, _, _ => none
  | n + 1, x3, x2 => (if x3 < 0 then (some x2) else (if inb x1 8 = true then (if inb x3 8 = true then (if inb (ρ.1 (12 + Int32.toNatClampNeg x1) (Int32.toNatClampNeg x3)) 8 = true then (if (ρ.1 20 (Int32.toNatClampNeg (ρ.1 (12 + Int32.toNatClampNeg x1) (Int32.toNatClampNeg x3)))) = 0 then (if inb x1 8 = true then (if inb x3 8 = true then (lt ((ρ.1 (12 + Int32.toNatClampNeg x1) (Int32.toNatClampNeg x3))) fun i17 => (f_X13_mechanism_98 x1 ρ n (x3 + (-1)) i17)) else none) else none) else (f_X13_mechanism_98 x1 ρ n (x3 + (-1)) x2)) else none) else none) else none))
set_option maxRecDepth 100000 in
def f_X13_mechanism_204 (x1 : Int32) : Nat → Int32 → OM → Option (OM)
  | 0, _, _ => none
  | n + 1, x4, ρ => (if x4 = (-1) then (some ρ) else (if x4 = x1 then (if inb x4 8 = true then ((f_X13_give x4 (ρ.1 9 (Int32.toNatClampNeg x4)) ρ).bind fun ρ33 => (f_X13_mechanism_204 x1 n (-1) ρ33)) else none) else (if inb x4 8 = true then ((f_X13_tenant (ρ.1 9 (Int32.toNatClampNeg x4)) ρ).bind fun r31 => (if inb x4 8 = true then ((f_X13_give x4 (ρ.1 9 (Int32.toNatClampNeg x4)) ρ).bind fun ρ32 => (f_X13_mechanism_204 x1 n r31 ρ32)) else none)) else none)))
set_option maxRecDepth 100000 in
def f_X13_mechanism_73  : Nat → OM → Option (OM)
  | 0, _ => none
  | n + 1, ρ => (if (ρ.1 0 17) ≤ 0 then (some ρ) else (if inb 0 8 = true then (lt ((ρ.1 8 (Int32.toNatClampNeg 0))) fun i11 => (if inb i11 8 = true then (lt (((ρ.1 6 (Int32.toNatClampNeg i11)) - 1)) fun i12 => ((f_X13_mechanism_98 i11 ρ FU i12 (-1)).bind fun i18 => (if inb i11 8 = true then (lt (wI ρ 9 (Int32.toNatClampNeg i11) i18) fun ρ19 => (if i18 = (-1) then ((f_X13_give i11 i18 ρ19).bind fun ρ38 => (f_X13_mechanism_73  n ρ38)) else ((f_X13_tenant i18 ρ19).bind fun r21 => (if r21 = (-1) then ((f_X13_give i11 i18 ρ19).bind fun ρ23 => (f_X13_mechanism_73  n ρ23)) else (if r21 = i11 then ((f_X13_give i11 i18 ρ19).bind fun ρ25 => (f_X13_mechanism_73  n ρ25)) else ((f_X13_where r21 ρ19).bind fun r26 => (if r26 = (-1) then ((f_X13_give i11 i18 ρ19).bind fun ρ36 => (f_X13_mechanism_73  n ρ36)) else (if inb r21 8 = true then (if (ρ19.1 9 (Int32.toNatClampNeg r21)) = (-1) then ((f_X13_front r21 ρ19).bind fun ρ35 => (f_X13_mechanism_73  n ρ35)) else ((f_X13_mechanism_204 i11 FU r21 ρ19).bind fun ρ34 => (f_X13_mechanism_73  n ρ34))) else none)))))))) else none))) else none)) else none))
set_option maxRecDepth 100000 in
def f_X13_mechanism  (ρ : OM) : Option (OM) := (lt (wI ρ 0 17 (ρ.1 0 15)) fun ρ1 => ((f_X13_mechanism_10  FU 0 ρ1).bind fun ρ6 => ((f_X13_mechanism_52  FU 0 ρ6).bind fun ρ9 => (f_X13_mechanism_73  FU ρ9))))
set_option maxRecDepth 100000 in
def f_X13_isSame_105 (x2 : Int32) (σ : SM) : Nat → Int32 → Option (Unit)
  | 0, _ => none
  | n + 1, x3 => (if inb x2 8 = true then (if ((σ 20).1 6 (Int32.toNatClampNeg x2)) ≤ x3 then (some ()) else ((f_X12_preferenceAt x2 x3 σ).bind fun r17 => (if inb x2 8 = true then (if inb x3 8 = true then (if r17 = ((σ 20).1 (12 + Int32.toNatClampNeg x2) (Int32.toNatClampNeg x3)) then (f_X13_isSame_105 x2 σ n (x3 + 1)) else none) else none) else none))) else none)
set_option maxRecDepth 100000 in
def f_X13_isSame_37 (σ : SM) : Nat → Int32 → Option (Unit)
  | 0, _ => none
  | n + 1, x2 => (if ((σ 20).1 0 15) ≤ x2 then (some ()) else ((f_X12_balance x2 σ).bind fun r8 => (if inb x2 8 = true then (if r8 = ((σ 20).1 3 (Int32.toNatClampNeg x2)) then ((f_X12_stallOf x2 σ).bind fun r10 => (if inb x2 8 = true then (if r10 = ((σ 20).1 5 (Int32.toNatClampNeg x2)) then ((f_X12_preferenceCount x2 σ).bind fun r12 => (if inb x2 8 = true then (if r12 = ((σ 20).1 6 (Int32.toNatClampNeg x2)) then (if inb x2 8 = true then ((f_X12_priorityOf ((σ 20).1 7 (Int32.toNatClampNeg x2)) σ).bind fun r14 => (if r14 = x2 then ((f_X13_isSame_105 x2 σ FU 0).bind fun _ => (f_X13_isSame_37 σ n (x2 + 1))) else none)) else none) else none) else none)) else none) else none)) else none) else none)))
set_option maxRecDepth 100000 in
def f_X13_isSame_148 (σ : SM) : Nat → Int32 → Option (Int32)
  | 0, _ => none
  | n + 1, x2 => (if ((σ 20).1 0 14) ≤ x2 then (some 1) else ((f_X12_rent x2 σ).bind fun r21 => (if inb x2 8 = true then (if r21 = ((σ 20).1 2 (Int32.toNatClampNeg x2)) then ((f_X12_occupantOf x2 σ).bind fun r23 => ((f_X13_tenant x2 (σ 20)).bind fun r24 => (if r23 = r24 then (f_X13_isSame_148 σ n (x2 + 1)) else none))) else none) else none)))
set_option maxRecDepth 100000 in
def f_X13_isSame  (σ : SM) : Option (Int32) := ((f_X12_day σ).bind fun r1 => (if r1 = ((σ 20).1 0 16) then ((f_X12_sellerCount σ).bind fun r3 => (if r3 = ((σ 20).1 0 15) then ((f_X12_stallCount σ).bind fun r5 => (if r5 = ((σ 20).1 0 14) then ((f_X13_isSame_37 σ FU 0).bind fun _ => (f_X13_isSame_148 σ FU 0)) else none)) else none)) else none))
set_option maxRecDepth 100000 in
def f_X13_toFront_24 (x1 : Int32) (x2 : Int32) : Nat → Int32 → OM → Option (OM)
  | 0, _, _ => none
  | n + 1, x3, ρ => (if x3 ≤ 0 then (if inb x1 8 = true then (if inb 0 8 = true then (lt (wI ρ (12 + Int32.toNatClampNeg x1) (Int32.toNatClampNeg 0) x2) fun ρ5 => (some ρ5)) else none) else none) else (if inb x1 8 = true then (if inb x1 8 = true then (if inb (x3 - 1) 8 = true then (if inb x3 8 = true then (lt (wI ρ (12 + Int32.toNatClampNeg x1) (Int32.toNatClampNeg x3) (ρ.1 (12 + Int32.toNatClampNeg x1) (Int32.toNatClampNeg (x3 - 1)))) fun ρ8 => (f_X13_toFront_24 x1 x2 n (x3 + (-1)) ρ8)) else none) else none) else none) else none))
set_option maxRecDepth 100000 in
def f_X13_toFront (p1 : Int32) (p2 : Int32) (ρ : OM) : Option (OM) := ((f_X13_rank p1 p2 ρ).bind fun r1 => (if r1 = (-1) then (if inb p1 8 = true then (if inb p1 8 = true then (lt (wI ρ 6 (Int32.toNatClampNeg p1) ((ρ.1 6 (Int32.toNatClampNeg p1)) + 1)) fun ρ9 => (lt ((ρ.1 6 (Int32.toNatClampNeg p1))) fun i10 => (f_X13_toFront_24 p1 p2 FU i10 ρ9))) else none) else none) else (f_X13_toFront_24 p1 p2 FU r1 ρ)))
set_option maxRecDepth 100000 in
def f_X13_first_2 (x1 : Int32) (ρ : OM) : Nat → Int32 → Option (Int32)
  | 0, _ => none
  | n + 1, x3 => (if inb x3 8 = true then (if (ρ.1 7 (Int32.toNatClampNeg x3)) = x1 then (some x3) else (f_X13_first_2 x1 ρ n (x3 + 1))) else none)
set_option maxRecDepth 100000 in
def f_X13_first_18 (x2 : Int32) : Nat → Int32 → OM → Option (Int32 × OM)
  | 0, _, _ => none
  | n + 1, x3, ρ => (if x2 ≤ x3 then (some (x3, ρ)) else (if inb (x3 + 1) 8 = true then (if inb x3 8 = true then (lt (wI ρ 7 (Int32.toNatClampNeg x3) (ρ.1 7 (Int32.toNatClampNeg (x3 + 1)))) fun ρ4 => (f_X13_first_18 x2 n (x3 + 1) ρ4)) else none) else none))
set_option maxRecDepth 100000 in
def f_X13_first_43 (x1 : Int32) (x2 : Int32) : Nat → Int32 → OM → Option (OM)
  | 0, _, _ => none
  | n + 1, x3, ρ => (if x3 ≤ x2 then (if inb x2 8 = true then (lt (wI ρ 7 (Int32.toNatClampNeg x2) x1) fun ρ8 => (some ρ8)) else none) else (if inb (x3 - 1) 8 = true then (if inb x3 8 = true then (lt (wI ρ 7 (Int32.toNatClampNeg x3) (ρ.1 7 (Int32.toNatClampNeg (x3 - 1)))) fun ρ9 => (f_X13_first_43 x1 x2 n (x3 + (-1)) ρ9)) else none) else none))
set_option maxRecDepth 100000 in
def f_X13_first (p1 : Int32) (p2 : Int32) (ρ : OM) : Option (OM) := ((f_X13_first_2 p1 ρ FU 0).bind fun i2 => (o2 (f_X13_first_18 p2 FU i2 ρ) fun i5 ρ6 => (f_X13_first_43 p1 p2 FU i5 ρ6)))
set_option maxRecDepth 100000 in
def f_X13_pass_14  : Nat → Int32 → Int32 → OM → Option (Int32 × OM)
  | 0, _, _, _ => none
  | n + 1, x2, x1, ρ => (if (ρ.1 0 15) ≤ x2 then (some (x1, ρ)) else (if inb x2 8 = true then (if inb x2 8 = true then (if inb x2 8 = true then (lt (wI ρ 3 (Int32.toNatClampNeg x2) ((ρ.1 3 (Int32.toNatClampNeg x2)) + (ρ.1 4 (Int32.toNatClampNeg x2)))) fun ρ3 => (if inb x2 8 = true then (if (ρ3.1 5 (Int32.toNatClampNeg x2)) = (-1) then (f_X13_pass_14  n (x2 + 1) x1 ρ3) else (if inb x2 8 = true then (if inb x2 8 = true then (if inb (ρ3.1 5 (Int32.toNatClampNeg x2)) 8 = true then (if (ρ3.1 2 (Int32.toNatClampNeg (ρ3.1 5 (Int32.toNatClampNeg x2)))) ≤ (ρ3.1 3 (Int32.toNatClampNeg x2)) then (if inb x2 8 = true then (if inb x2 8 = true then (if inb (ρ3.1 5 (Int32.toNatClampNeg x2)) 8 = true then (if inb x2 8 = true then (lt (wI ρ3 3 (Int32.toNatClampNeg x2) ((ρ3.1 3 (Int32.toNatClampNeg x2)) - (ρ3.1 2 (Int32.toNatClampNeg (ρ3.1 5 (Int32.toNatClampNeg x2)))))) fun ρ6 => (f_X13_pass_14  n (x2 + 1) x1 ρ6)) else none) else none) else none) else none) else (if inb x2 8 = true then (lt (wI ρ3 5 (Int32.toNatClampNeg x2) (-1)) fun ρ7 => (f_X13_pass_14  n (x2 + 1) (x1 + 1) ρ7)) else none)) else none) else none) else none)) else none)) else none) else none) else none))
set_option maxRecDepth 100000 in
def f_X13_pass  (ρ : OM) : Option (Int32 × OM) := (lt (wI ρ 0 16 ((ρ.1 0 16) + 1)) fun ρ1 => (f_X13_pass_14  FU 0 0 ρ1))
set_option maxRecDepth 100000 in
def f_X13_rankAll_2 (x1 : Int32) (x2 : Int32) (ρ : OM) : Nat → Int32 → Option (Int32)
  | 0, _ => none
  | n + 1, x3 => (if inb x1 8 = true then (if (ρ.1 6 (Int32.toNatClampNeg x1)) < x3 then (if inb x1 8 = true then (some (ρ.1 6 (Int32.toNatClampNeg x1))) else none) else (if inb x1 8 = true then (if inb x3 8 = true then (if (ρ.1 (12 + Int32.toNatClampNeg x1) (Int32.toNatClampNeg x3)) = x2 then (some x3) else (f_X13_rankAll_2 x1 x2 ρ n (x3 + 1))) else none) else none)) else none)
set_option maxRecDepth 100000 in
def f_X13_rankAll (p1 : Int32) (p2 : Int32) (ρ : OM) : Option (Int32) := (f_X13_rankAll_2 p1 p2 ρ FU 0)
set_option maxRecDepth 100000 in
def f_X13_act_520 (x7 : Int32) : Nat → Int32 → Int32 → SM → Option (Int32 × SM)
  | 0, _, _, _ => none
  | n + 1, x9, x8, σ => (if x7 ≤ x9 then (some (x8, σ)) else (o2 (f_X13_pass (σ 20)) fun r27 m28 => (lt (us σ 20 m28) fun σ29 => (lt ((x8 + r27)) fun i30 => (f_X13_act_520 x7 n (x9 + 1) i30 σ29)))))
set_option maxRecDepth 100000 in
def f_X13_act_411 (x3 : Int32) (σ : SM) : Nat → Int32 → Option (Int32)
  | 0, _ => none
  | n + 1, x7 => (if inb x7 8 = true then (if ((σ 20).1 7 (Int32.toNatClampNeg x7)) = x3 then (some x7) else (f_X13_act_411 x3 σ n (x7 + 1))) else none)
set_option maxRecDepth 100000 in
def f_X13_act_402 (x2 : Int32) (x3 : Int32) (x4 : Int32) (x5 : Int32) : Nat → SM → Option (Int32 × SM)
  | 0, _ => none
  | n + 1, σ => (if x2 = 7 then ((f_X13_act_411 x3 σ FU 0).bind fun i45 => ((f_X13_first x3 x4 (σ 20)).bind fun m46 => (lt (us σ 20 m46) fun σ47 => (o2 (f_X12_setPriority x3 x4 σ47) fun r48 σ49 => (if r48 = i45 then (some (1, σ49)) else none))))) else (if x2 = 8 then (if inb x5 8 = true then (lt (((σ 20).1 2 (Int32.toNatClampNeg x5))) fun i36 => (o2 (f_X13_draw 100 (σ 20)) fun r37 m38 => (lt (us σ 20 m38) fun σ39 => (if inb x5 8 = true then (lt (us σ39 20 (wI (σ39 20) 2 (Int32.toNatClampNeg x5) r37)) fun σ40 => (if inb x5 8 = true then (o2 (f_X12_setRent x5 ((σ40 20).1 2 (Int32.toNatClampNeg x5)) σ40) fun r41 σ42 => (if r41 = i36 then (some (1, σ42)) else none)) else none)) else none)))) else none) else (o2 (f_X13_draw 3 (σ 20)) fun r22 m23 => (lt (us σ 20 m23) fun σ24 => (lt ((1 + r22)) fun i25 => (o2 (f_X13_act_520 i25 FU 0 0 σ24) fun i31 σ32 => (o2 (f_X12_advanceDays i25 σ32) fun r33 σ34 => (if r33 = i31 then (some (1, σ34)) else none))))))))
set_option maxRecDepth 100000 in
def f_X13_act_343 (x3 : Int32) : Nat → Int32 → SM → Option (SM)
  | 0, _, _ => none
  | n + 1, x7, σ => (if inb x3 8 = true then (if ((σ 20).1 6 (Int32.toNatClampNeg x3)) ≤ x7 then (some σ) else (if inb x3 8 = true then (if inb x3 8 = true then (if inb (x7 + 1) 8 = true then (if inb x7 8 = true then (lt (us σ 20 (wI (σ 20) (12 + Int32.toNatClampNeg x3) (Int32.toNatClampNeg x7) ((σ 20).1 (12 + Int32.toNatClampNeg x3) (Int32.toNatClampNeg (x7 + 1))))) fun σ58 => (f_X13_act_343 x3 n (x7 + 1) σ58)) else none) else none) else none) else none)) else none)
set_option maxRecDepth 100000 in
def f_X13_act_209  : Nat → Int32 → Int32 → SM → Option (Int32 × SM)
  | 0, _, _, _ => none
  | n + 1, x8, x7, σ => (if ((σ 20).1 0 15) ≤ x8 then (o2 (f_X12_reallocate σ) fun r71 σ72 => (if r71 = x7 then (some (1, σ72)) else none)) else (if inb x8 8 = true then (if inb x8 8 = true then (if ((σ 20).1 10 (Int32.toNatClampNeg x8)) = ((σ 20).1 5 (Int32.toNatClampNeg x8)) then (if inb x8 8 = true then (if inb x8 8 = true then (lt (us σ 20 (wI (σ 20) 5 (Int32.toNatClampNeg x8) ((σ 20).1 10 (Int32.toNatClampNeg x8)))) fun σ75 => (f_X13_act_209  n (x8 + 1) x7 σ75)) else none) else none) else (if inb x8 8 = true then (if inb x8 8 = true then (lt (us σ 20 (wI (σ 20) 5 (Int32.toNatClampNeg x8) ((σ 20).1 10 (Int32.toNatClampNeg x8)))) fun σ76 => (f_X13_act_209  n (x8 + 1) (x7 + 1) σ76)) else none) else none)) else none) else none))
set_option maxRecDepth 100000 in
def f_X13_act_194 (x2 : Int32) (x3 : Int32) (x4 : Int32) (x5 : Int32) : Nat → SM → Option (Int32 × SM)
  | 0, _ => none
  | n + 1, σ => (if x2 = 4 then ((f_X13_mechanism (σ 20)).bind fun m68 => (lt (us σ 20 m68) fun σ69 => (f_X13_act_209  FU 0 0 σ69))) else (if x2 = 5 then ((f_X13_toFront x3 x5 (σ 20)).bind fun m63 => (lt (us σ 20 m63) fun σ64 => (o2 (f_X12_preferFirst x3 x5 σ64) fun r65 σ66 => (if inb x3 8 = true then (if r65 = ((σ66 20).1 6 (Int32.toNatClampNeg x3)) then (some (1, σ66)) else none) else none)))) else (if x2 = 6 then ((f_X13_rank x3 x5 (σ 20)).bind fun r51 => (if r51 = (-1) then (f_X13_act_402 x2 x3 x4 x5 FU σ) else (if inb x3 8 = true then (if inb x3 8 = true then (lt (us σ 20 (wI (σ 20) 6 (Int32.toNatClampNeg x3) (((σ 20).1 6 (Int32.toNatClampNeg x3)) - 1))) fun σ53 => ((f_X13_rankAll x3 x5 (σ53 20)).bind fun r54 => ((f_X13_act_343 x3 FU r54 σ53).bind fun σ59 => (o2 (f_X12_removePreference x3 x5 σ59) fun r60 σ61 => (if inb x3 8 = true then (if r60 = ((σ61 20).1 6 (Int32.toNatClampNeg x3)) then (some (1, σ61)) else none) else none))))) else none) else none))) else (f_X13_act_402 x2 x3 x4 x5 FU σ))))
set_option maxRecDepth 100000 in
def f_X13_act_135 (x2 : Int32) (x3 : Int32) (x4 : Int32) (x5 : Int32) (x6 : Int32) : Nat → SM → Option (Int32 × SM)
  | 0, _ => none
  | n + 1, σ => (if x2 = 3 then ((f_X13_both x3 x4 (σ 20)).bind fun r77 => (if r77 = 0 then (f_X13_act_194 x2 x3 x4 x5 FU σ) else (if inb x4 8 = true then (if inb x3 8 = true then (lt (us σ 20 (wI (σ 20) 5 (Int32.toNatClampNeg x3) ((σ 20).1 5 (Int32.toNatClampNeg x4)))) fun σ79 => (if inb x4 8 = true then (lt (us σ79 20 (wI (σ79 20) 5 (Int32.toNatClampNeg x4) x6)) fun σ80 => (o2 (f_X12_swap x3 x4 σ80) fun r81 σ82 => (if inb x3 8 = true then (if r81 = ((σ82 20).1 5 (Int32.toNatClampNeg x3)) then (some (1, σ82)) else none) else none))) else none)) else none) else none))) else (f_X13_act_194 x2 x3 x4 x5 FU σ))
set_option maxRecDepth 100000 in
def f_X13_act_101 (x6 : Int32) (x5 : Int32) (x4 : Int32) (x3 : Int32) (x2 : Int32) : Nat → SM → Option (Int32 × SM)
  | 0, _ => none
  | n + 1, σ => (if x2 = 2 then (if x6 = (-1) then (f_X13_act_135 x2 x3 x4 x5 x6 FU σ) else (if inb x3 8 = true then (lt (us σ 20 (wI (σ 20) 5 (Int32.toNatClampNeg x3) (-1))) fun σ85 => (o2 (f_X12_vacate x3 σ85) fun r86 σ87 => (if r86 = x6 then (some (1, σ87)) else none))) else none)) else (f_X13_act_135 x2 x3 x4 x5 x6 FU σ))
set_option maxRecDepth 100000 in
def f_X13_act  (σ : SM) : Option (Int32 × SM) := (o2 (f_X13_draw 10 (σ 20)) fun r1 m2 => (lt (us σ 20 m2) fun σ3 => (o2 (f_X13_draw ((σ3 20).1 0 15) (σ3 20)) fun r4 m5 => (lt (us σ3 20 m5) fun σ6 => (o2 (f_X13_draw ((σ6 20).1 0 15) (σ6 20)) fun r7 m8 => (lt (us σ6 20 m8) fun σ9 => (o2 (f_X13_draw ((σ9 20).1 0 14) (σ9 20)) fun r10 m11 => (lt (us σ9 20 m11) fun σ12 => (if inb r4 8 = true then (lt (((σ12 20).1 5 (Int32.toNatClampNeg r4))) fun i13 => (if 2 ≤ r1 then (f_X13_act_101 i13 r10 r7 r4 r1 FU σ12) else ((f_X13_tenant r10 (σ12 20)).bind fun r89 => (if r89 = (-1) then (if inb r10 8 = true then (if inb r4 8 = true then (if ((σ12 20).1 3 (Int32.toNatClampNeg r4)) < ((σ12 20).1 2 (Int32.toNatClampNeg r10)) then (f_X13_act_101 i13 r10 r7 r4 r1 FU σ12) else (if inb r4 8 = true then (lt (us σ12 20 (wI (σ12 20) 5 (Int32.toNatClampNeg r4) r10)) fun σ92 => (o2 (f_X12_assign r4 r10 σ92) fun r93 σ94 => (if r93 = i13 then (some (1, σ94)) else none))) else none)) else none) else none) else (f_X13_act_101 i13 r10 r7 r4 r1 FU σ12))))) else none)))))))))
set_option maxRecDepth 100000 in
def f_L_pick (xs : Nat → Int32) (Ls : Nat) (p1 : Int32)  : Option (Int32) := (if p1 < 0 then (some 0) else (if (nI Ls) ≤ p1 then (some 0) else (if inb p1 Ls = true then (some (xs (Int32.toNatClampNeg p1))) else none)))
set_option maxRecDepth 100000 in
def f_L_law_68  : Nat → Int32 → SM → Option (SM)
  | 0, _, _ => none
  | n + 1, x4, σ => (if ((σ 20).1 0 15) ≤ x4 then (some σ) else (o2 (f_X12_allocatedStall x4 σ) fun r13 σ14 => (if inb x4 8 = true then (if r13 = ((σ14 20).1 10 (Int32.toNatClampNeg x4)) then (if inb x4 8 = true then (if ((σ14 20).1 5 (Int32.toNatClampNeg x4)) = (-1) then (f_L_law_68  n (x4 + 1) σ14) else (if inb x4 8 = true then ((f_X13_rank x4 ((σ14 20).1 5 (Int32.toNatClampNeg x4)) (σ14 20)).bind fun r17 => (if r17 = (-1) then (f_L_law_68  n (x4 + 1) σ14) else (if inb x4 8 = true then (if inb x4 8 = true then ((f_X13_likes x4 ((σ14 20).1 5 (Int32.toNatClampNeg x4)) ((σ14 20).1 10 (Int32.toNatClampNeg x4)) (σ14 20)).bind fun r19 => (if r19 = 0 then (f_L_law_68  n (x4 + 1) σ14) else none)) else none) else none))) else none)) else none) else none) else none)))
set_option maxRecDepth 100000 in
def f_L_law_41 (xs : Nat → Int32) (Ls : Nat) : Nat → Int32 → SM → Option (SM)
  | 0, _, _ => none
  | n + 1, x3, σ => (if 36 ≤ x3 then (some σ) else ((f_L_pick xs Ls x3).bind fun r8 => (lt (us σ 20 (wI (σ 20) 0 12 (((σ 20).1 0 12) + r8))) fun σ9 => ((f_X13_mechanism (σ9 20)).bind fun m10 => (lt (us σ9 20 m10) fun σ11 => ((f_L_law_68  FU 0 σ11).bind fun σ21 => (o2 (f_X13_act σ21) fun r22 σ23 => (if r22 = 0 then none else ((f_X13_isSame σ23).bind fun r25 => (if r25 = 0 then none else ((f_X12_ledgerDifference σ23).bind fun r27 => (if r27 = 0 then (if (x3 - x3 / 6 * 6) = 0 then (o2 (f_X12_reallocate σ23) fun r30 σ31 => (if r30 < 0 then none else ((f_X12_isEfficient σ31).bind fun r33 => (if r33 = 0 then none else (o2 (f_X12_undo σ31) fun r35 σ36 => (if r35 < 0 then none else ((f_X13_isSame σ36).bind fun r38 => (if r38 = 0 then none else (f_L_law_41 xs Ls n (x3 + 1) σ36))))))))) else (f_L_law_41 xs Ls n (x3 + 1) σ23)) else none))))))))))))
set_option maxRecDepth 100000 in
def f_L_law_16 (xs : Nat → Int32) (Ls : Nat) : Nat → SM → Option (SM)
  | 0, _ => none
  | n + 1, σ => ((f_L_pick xs Ls 0).bind fun r1 => (o2 (f_X13_begin r1 σ) fun r2 σ3 => (if r2 = 0 then none else ((f_X13_isSame σ3).bind fun r5 => (if r5 = 0 then none else ((f_L_law_41 xs Ls FU 1 σ3).bind fun σ40 => (some σ40)))))))

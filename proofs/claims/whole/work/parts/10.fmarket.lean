set_option maxRecDepth 100000 in
def f_X5_hasSeller (p1 : Int32) (μ : OM) : Option (Int32) := (if p1 < 0 then (some 0) else (if (μ.1 0 0) ≤ p1 then (some 0) else (some 1)))
set_option maxRecDepth 100000 in
def f_X5_hasStall (p1 : Int32) (μ : OM) : Option (Int32) := (if p1 < 0 then (some 0) else (if (μ.1 0 1) ≤ p1 then (some 0) else (some 1)))
set_option maxRecDepth 100000 in
def f_X5_coinsOf (p1 : Int32) (μ : OM) : Option (Int32) := ((f_X5_hasSeller p1 μ).bind fun r1 => (if r1 = 0 then (some 0) else (if inb p1 8 = true then (some (μ.1 2 (Int32.toNatClampNeg p1))) else none)))
set_option maxRecDepth 100000 in
def f_X5_wageOf (p1 : Int32) (μ : OM) : Option (Int32) := ((f_X5_hasSeller p1 μ).bind fun r1 => (if r1 = 0 then (some 0) else (if inb p1 8 = true then (some (μ.1 3 (Int32.toNatClampNeg p1))) else none)))
set_option maxRecDepth 100000 in
def f_X5_heldBy (p1 : Int32) (μ : OM) : Option (Int32) := ((f_X5_hasSeller p1 μ).bind fun r1 => (if r1 = 0 then (some (-1)) else (if inb p1 8 = true then (some (μ.1 4 (Int32.toNatClampNeg p1))) else none)))
set_option maxRecDepth 100000 in
def f_X5_turnOf (p1 : Int32) (μ : OM) : Option (Int32) := ((f_X5_hasSeller p1 μ).bind fun r1 => (if r1 = 0 then (some (-1)) else (if inb p1 8 = true then (some (μ.1 5 (Int32.toNatClampNeg p1))) else none)))
set_option maxRecDepth 100000 in
def f_X5_wishesOf (p1 : Int32) (μ : OM) : Option (Int32) := ((f_X5_hasSeller p1 μ).bind fun r1 => (if r1 = 0 then (some 0) else (if inb p1 8 = true then (some (μ.1 6 (Int32.toNatClampNeg p1))) else none)))
set_option maxRecDepth 100000 in
def f_X5_priceOf (p1 : Int32) (μ : OM) : Option (Int32) := ((f_X5_hasStall p1 μ).bind fun r1 => (if r1 = 0 then (some 0) else (if inb p1 8 = true then (some (μ.1 9 (Int32.toNatClampNeg p1))) else none)))
set_option maxRecDepth 100000 in
def f_X5_nameOfSeller (p1 : Int32) (μ : OM) : Option (Int64) := ((f_X5_hasSeller p1 μ).bind fun r1 => (if r1 = 0 then (some 0) else (if inb p1 8 = true then (some (μ.2.1 1 (Int32.toNatClampNeg p1))) else none)))
set_option maxRecDepth 100000 in
def f_X5_nameOfStall (p1 : Int32) (μ : OM) : Option (Int64) := ((f_X5_hasStall p1 μ).bind fun r1 => (if r1 = 0 then (some 0) else (if inb p1 8 = true then (some (μ.2.1 8 (Int32.toNatClampNeg p1))) else none)))
set_option maxRecDepth 100000 in
def f_X5_sellerCalled_2 (x1 : Int64) (μ : OM) : Nat → Int32 → Option (Int32)
  | 0, _ => none
  | n + 1, x3 => (if (μ.1 0 0) ≤ x3 then (some (-1)) else (if inb x3 8 = true then (if (lg_cmp (μ.2.1 1 (Int32.toNatClampNeg x3)) x1) = 0 then (some x3) else (f_X5_sellerCalled_2 x1 μ n (x3 + 1))) else none))
set_option maxRecDepth 100000 in
def f_X5_sellerCalled (p1 : Int64) (μ : OM) : Option (Int32) := (f_X5_sellerCalled_2 p1 μ FU 0)
set_option maxRecDepth 100000 in
def f_X5_stallCalled_2 (x1 : Int64) (μ : OM) : Nat → Int32 → Option (Int32)
  | 0, _ => none
  | n + 1, x3 => (if (μ.1 0 1) ≤ x3 then (some (-1)) else (if inb x3 8 = true then (if (lg_cmp (μ.2.1 8 (Int32.toNatClampNeg x3)) x1) = 0 then (some x3) else (f_X5_stallCalled_2 x1 μ n (x3 + 1))) else none))
set_option maxRecDepth 100000 in
def f_X5_stallCalled (p1 : Int64) (μ : OM) : Option (Int32) := (f_X5_stallCalled_2 p1 μ FU 0)
set_option maxRecDepth 100000 in
def f_X5_holderOf_9 (x1 : Int32) (μ : OM) : Nat → Int32 → Option (Int32)
  | 0, _ => none
  | n + 1, x2 => (if (μ.1 0 0) ≤ x2 then (some (-1)) else (if inb x2 8 = true then (if (μ.1 4 (Int32.toNatClampNeg x2)) = x1 then (some x2) else (f_X5_holderOf_9 x1 μ n (x2 + 1))) else none))
set_option maxRecDepth 100000 in
def f_X5_holderOf (p1 : Int32) (μ : OM) : Option (Int32) := (if p1 = (-1) then (some (-1)) else (f_X5_holderOf_9 p1 μ FU 0))
set_option maxRecDepth 100000 in
def f_X5_housedSellers_4 (μ : OM) : Nat → Int32 → Int32 → Option (Int32)
  | 0, _, _ => none
  | n + 1, x2, x1 => (if (μ.1 0 0) ≤ x2 then (some x1) else (if inb x2 8 = true then (if (μ.1 4 (Int32.toNatClampNeg x2)) = (-1) then (f_X5_housedSellers_4 μ n (x2 + 1) x1) else (f_X5_housedSellers_4 μ n (x2 + 1) (x1 + 1))) else none))
set_option maxRecDepth 100000 in
def f_X5_housedSellers  (μ : OM) : Option (Int32) := (f_X5_housedSellers_4 μ FU 0 0)
set_option maxRecDepth 100000 in
def f_X5_wish (p1 : Int32) (p2 : Int32) (μ : OM) : Option (Int32) := ((f_X5_hasSeller p1 μ).bind fun r1 => (if r1 = 0 then (some (-1)) else (if p2 < 0 then (some (-1)) else (if inb p1 8 = true then (if p2 < (μ.1 6 (Int32.toNatClampNeg p1)) then (if inb ((p1 * 8) + p2) 64 = true then (some (μ.1 7 (Int32.toNatClampNeg ((p1 * 8) + p2)))) else none) else (some (-1))) else none))))
set_option maxRecDepth 100000 in
def f_X5_rankIn_16 (x1 : Int32) (x2 : Int32) (μ : OM) : Nat → Int32 → Option (Int32)
  | 0, _ => none
  | n + 1, x3 => (if inb x1 8 = true then (if (μ.1 6 (Int32.toNatClampNeg x1)) ≤ x3 then (some (-1)) else (if inb ((x1 * 8) + x3) 64 = true then (if (μ.1 7 (Int32.toNatClampNeg ((x1 * 8) + x3))) = x2 then (some x3) else (f_X5_rankIn_16 x1 x2 μ n (x3 + 1))) else none)) else none)
set_option maxRecDepth 100000 in
def f_X5_rankIn (p1 : Int32) (p2 : Int32) (μ : OM) : Option (Int32) := (if p1 < 0 then (some (-1)) else (if p1 < (μ.1 0 0) then (f_X5_rankIn_16 p1 p2 μ FU 0) else (some (-1))))
set_option maxRecDepth 100000 in
def f_X5_standing (p1 : Int32) (p2 : Int32) (μ : OM) : Option (Int32) := (if p2 = (-1) then (some 8) else ((f_X5_rankIn p1 p2 μ).bind fun r2 => (if r2 = (-1) then (some 9) else (some r2))))
set_option maxRecDepth 100000 in
def f_X5_ranksAbove (p1 : Int32) (p2 : Int32) (p3 : Int32) (μ : OM) : Option (Int32) := ((f_X5_standing p1 p2 μ).bind fun r1 => ((f_X5_standing p1 p3 μ).bind fun r2 => (if r2 ≤ r1 then (some 0) else (some 1))))
set_option maxRecDepth 100000 in
def f_X5_mayMoveInto (p1 : Int32) (p2 : Int32) (μ : OM) : Option (Int32) := ((f_X5_holderOf p2 μ).bind fun r1 => (if r1 = (-1) then ((f_X5_priceOf p2 μ).bind fun r3 => ((f_X5_coinsOf p1 μ).bind fun r4 => (if r4 < r3 then (some 0) else (some 1)))) else (some 0)))
set_option maxRecDepth 100000 in
def f_X5_seat (p1 : Int32) (p2 : Int32) (μ : OM) : Option (OM) := ((f_X5_hasSeller p1 μ).bind fun r1 => (if r1 = 0 then (some μ) else (if inb p1 8 = true then (lt (wI μ 4 (Int32.toNatClampNeg p1) p2) fun μ3 => (some μ3)) else none)))
set_option maxRecDepth 100000 in
def f_X5_exchange (p1 : Int32) (p2 : Int32) (μ : OM) : Option (OM) := ((f_X5_heldBy p1 μ).bind fun r1 => ((f_X5_heldBy p2 μ).bind fun r2 => ((f_X5_seat p1 r2 μ).bind fun μ3 => ((f_X5_seat p2 r1 μ3).bind fun μ4 => (lt (wI μ4 0 5 ((μ4.1 0 5) + 1)) fun μ5 => (some μ5))))))
set_option maxRecDepth 100000 in
def f_X5_moveTurn_9 (x3 : Int32) (x2 : Int32) : Nat → Int32 → OM → Option (OM)
  | 0, _, _ => none
  | n + 1, x4, μ => (if (μ.1 0 0) ≤ x4 then (some μ) else (if inb x4 8 = true then (if (μ.1 5 (Int32.toNatClampNeg x4)) ≤ x3 then (if inb x4 8 = true then (if x3 ≤ (μ.1 5 (Int32.toNatClampNeg x4)) then (f_X5_moveTurn_9 x3 x2 n (x4 + 1) μ) else (if inb x4 8 = true then (if (μ.1 5 (Int32.toNatClampNeg x4)) < x2 then (f_X5_moveTurn_9 x3 x2 n (x4 + 1) μ) else (if inb x4 8 = true then (if inb x4 8 = true then (lt (wI μ 5 (Int32.toNatClampNeg x4) ((μ.1 5 (Int32.toNatClampNeg x4)) + 1)) fun μ6 => (f_X5_moveTurn_9 x3 x2 n (x4 + 1) μ6)) else none) else none)) else none)) else none) else (if inb x4 8 = true then (if x2 < (μ.1 5 (Int32.toNatClampNeg x4)) then (if inb x4 8 = true then (if x3 ≤ (μ.1 5 (Int32.toNatClampNeg x4)) then (f_X5_moveTurn_9 x3 x2 n (x4 + 1) μ) else (if inb x4 8 = true then (if (μ.1 5 (Int32.toNatClampNeg x4)) < x2 then (f_X5_moveTurn_9 x3 x2 n (x4 + 1) μ) else (if inb x4 8 = true then (if inb x4 8 = true then (lt (wI μ 5 (Int32.toNatClampNeg x4) ((μ.1 5 (Int32.toNatClampNeg x4)) + 1)) fun μ10 => (f_X5_moveTurn_9 x3 x2 n (x4 + 1) μ10)) else none) else none)) else none)) else none) else (if inb x4 8 = true then (if inb x4 8 = true then (lt (wI μ 5 (Int32.toNatClampNeg x4) ((μ.1 5 (Int32.toNatClampNeg x4)) - 1)) fun μ11 => (f_X5_moveTurn_9 x3 x2 n (x4 + 1) μ11)) else none) else none)) else none)) else none))
set_option maxRecDepth 100000 in
def f_X5_moveTurn (p1 : Int32) (p2 : Int32) (μ : OM) : Option (OM) := ((f_X5_turnOf p1 μ).bind fun r1 => ((f_X5_moveTurn_9 r1 p2 FU 0 μ).bind fun μ12 => ((f_X5_hasSeller p1 μ12).bind fun r13 => (if r13 = 0 then (some μ12) else (if inb p1 8 = true then (lt (wI μ12 5 (Int32.toNatClampNeg p1) p2) fun μ15 => (some μ15)) else none)))))
set_option maxRecDepth 100000 in
def f_X5_wishLast (p1 : Int32) (p2 : Int32) (μ : OM) : Option (OM) := ((f_X5_wishesOf p1 μ).bind fun r1 => ((f_X5_hasSeller p1 μ).bind fun r2 => (if r2 = 0 then (some μ) else (if 8 ≤ r1 then (some μ) else (if inb ((p1 * 8) + r1) 64 = true then (lt (wI μ 7 (Int32.toNatClampNeg ((p1 * 8) + r1)) p2) fun μ5 => (if inb p1 8 = true then (lt (wI μ5 6 (Int32.toNatClampNeg p1) (r1 + 1)) fun μ6 => (some μ6)) else none)) else none)))))
set_option maxRecDepth 100000 in
def f_X5_dropWish_34 (x4 : Int32) (x1 : Int32) : Nat → Int32 → OM → Option (OM)
  | 0, _, _ => none
  | n + 1, x5, μ => (if x4 ≤ x5 then (if inb x1 8 = true then (lt (wI μ 6 (Int32.toNatClampNeg x1) x4) fun μ7 => (some μ7)) else none) else (lt (((x1 * 8) + x5)) fun x8 => (if inb (x8 + 1) 64 = true then (if inb x8 64 = true then (lt (wI μ 7 (Int32.toNatClampNeg x8) (μ.1 7 (Int32.toNatClampNeg (x8 + 1)))) fun μ9 => (f_X5_dropWish_34 x4 x1 n (x5 + 1) μ9)) else none) else none)))
set_option maxRecDepth 100000 in
def f_X5_dropWish (p1 : Int32) (p2 : Int32) (μ : OM) : Option (OM) := ((f_X5_rankIn p1 p2 μ).bind fun r1 => ((f_X5_hasSeller p1 μ).bind fun r2 => (if r2 = 0 then (some μ) else (if r1 = (-1) then (some μ) else (if inb p1 8 = true then (lt (((μ.1 6 (Int32.toNatClampNeg p1)) - 1)) fun x5 => (f_X5_dropWish_34 x5 p1 FU r1 μ)) else none)))))
set_option maxRecDepth 100000 in
def f_X5_wishFirst_30 (x1 : Int32) : Nat → Int32 → OM → Option (OM)
  | 0, _, _ => none
  | n + 1, x4, μ => (if x4 ≤ 0 then (some μ) else (lt (((x1 * 8) + x4)) fun x7 => (if inb (x7 - 1) 64 = true then (if inb x7 64 = true then (lt (wI μ 7 (Int32.toNatClampNeg x7) (μ.1 7 (Int32.toNatClampNeg (x7 - 1)))) fun μ8 => (f_X5_wishFirst_30 x1 n (x4 + (-1)) μ8)) else none) else none)))
set_option maxRecDepth 100000 in
def f_X5_wishFirst (p1 : Int32) (p2 : Int32) (μ : OM) : Option (OM) := ((f_X5_dropWish p1 p2 μ).bind fun μ1 => ((f_X5_wishesOf p1 μ1).bind fun r2 => ((f_X5_hasSeller p1 μ1).bind fun r3 => (if r3 = 0 then (some μ1) else (if r2 < 8 then ((f_X5_wishFirst_30 p1 FU r2 μ1).bind fun μ9 => (if inb (p1 * 8) 64 = true then (lt (wI μ9 7 (Int32.toNatClampNeg (p1 * 8)) p2) fun μ10 => (if inb p1 8 = true then (lt (wI μ10 6 (Int32.toNatClampNeg p1) (r2 + 1)) fun μ11 => (some μ11)) else none)) else none)) else (some μ1))))))
set_option maxRecDepth 100000 in
def f_X5_price (p1 : Int32) (p2 : Int32) (μ : OM) : Option (OM) := ((f_X5_hasStall p1 μ).bind fun r1 => (if r1 = 0 then (some μ) else (if inb p1 8 = true then (lt (wI μ 9 (Int32.toNatClampNeg p1) p2) fun μ3 => (some μ3)) else none)))
set_option maxRecDepth 100000 in
def f_X5_receive (p1 : Int32) (p2 : Int32) (μ : OM) : Option (OM) := ((f_X5_hasSeller p1 μ).bind fun r1 => (if r1 = 0 then (some μ) else (if inb p1 8 = true then (if inb p1 8 = true then (lt (wI μ 2 (Int32.toNatClampNeg p1) ((μ.1 2 (Int32.toNatClampNeg p1)) + p2)) fun μ3 => (lt (wI μ3 0 8 ((μ3.1 0 8) + p2)) fun μ4 => (some μ4))) else none) else none)))
set_option maxRecDepth 100000 in
def f_X5_mayPass (p1 : Int32) (μ : OM) : Option (Int32) := (if (9999 - (μ.1 0 2)) < p1 then (some 0) else (some 1))
set_option maxRecDepth 100000 in
def f_X5_chargeOrEvict (p1 : Int32) (μ : OM) : Option (OM) := ((f_X5_heldBy p1 μ).bind fun r1 => ((f_X5_hasSeller p1 μ).bind fun r2 => (if r2 = 0 then (some μ) else (if r1 = (-1) then (some μ) else ((f_X5_priceOf r1 μ).bind fun r5 => (if inb p1 8 = true then (if (μ.1 2 (Int32.toNatClampNeg p1)) < r5 then (if inb p1 8 = true then (lt (wI μ 4 (Int32.toNatClampNeg p1) (-1)) fun μ7 => (lt (wI μ7 0 4 ((μ7.1 0 4) + 1)) fun μ8 => (some μ8))) else none) else (if inb p1 8 = true then (if inb p1 8 = true then (lt (wI μ 2 (Int32.toNatClampNeg p1) ((μ.1 2 (Int32.toNatClampNeg p1)) - r5)) fun μ9 => (lt (wI μ9 0 3 ((μ9.1 0 3) + r5)) fun μ10 => (some μ10))) else none) else none)) else none))))))
set_option maxRecDepth 100000 in
def f_X5_pass_19  : Nat → Int32 → OM → Option (OM)
  | 0, _, _ => none
  | n + 1, x3, μ => (if (μ.1 0 0) ≤ x3 then (some μ) else (if inb x3 8 = true then ((f_X5_receive x3 (μ.1 3 (Int32.toNatClampNeg x3)) μ).bind fun μ4 => (f_X5_pass_19  n (x3 + 1) μ4)) else none))
set_option maxRecDepth 100000 in
def f_X5_pass_46  : Nat → Int32 → OM → Option (OM)
  | 0, _, _ => none
  | n + 1, x3, μ => (if (μ.1 0 0) ≤ x3 then (some μ) else ((f_X5_chargeOrEvict x3 μ).bind fun μ7 => (f_X5_pass_46  n (x3 + 1) μ7)))
set_option maxRecDepth 100000 in
def f_X5_pass_2 (x1 : Int32) : Nat → Int32 → OM → Option (OM)
  | 0, _, _ => none
  | n + 1, x2, μ => (if x1 ≤ x2 then (some μ) else (lt (wI μ 0 2 ((μ.1 0 2) + 1)) fun μ2 => ((f_X5_pass_19  FU 0 μ2).bind fun μ5 => ((f_X5_pass_46  FU 0 μ5).bind fun μ8 => (f_X5_pass_2 x1 n (x2 + 1) μ8)))))
set_option maxRecDepth 100000 in
def f_X5_pass (p1 : Int32) (μ : OM) : Option (OM) := (f_X5_pass_2 p1 FU 0 μ)
set_option maxRecDepth 100000 in
def f_X5_clear  (μ : OM) : Option (OM) := (lt (wI μ 0 0 0) fun μ1 => (lt (wI μ1 0 1 0) fun μ2 => (lt (wI μ2 0 2 0) fun μ3 => (lt (wI μ3 0 3 0) fun μ4 => (lt (wI μ4 0 4 0) fun μ5 => (lt (wI μ5 0 5 0) fun μ6 => (lt (wI μ6 0 6 0) fun μ7 => (lt (wI μ7 0 7 0) fun μ8 => (lt (wI μ8 0 8 0) fun μ9 => (some μ9))))))))))
set_option maxRecDepth 100000 in
def f_X5_addStall (p1 : Int64) (p3 : Int32) (μ : OM) : Option (OM) := (if 8 ≤ (μ.1 0 1) then (some μ) else (if inb (μ.1 0 1) 8 = true then (lt (wJ μ 8 (Int32.toNatClampNeg (μ.1 0 1)) p1) fun μ2 => (if inb (μ2.1 0 1) 8 = true then (lt (wI μ2 9 (Int32.toNatClampNeg (μ2.1 0 1)) p3) fun μ3 => (lt (wI μ3 0 1 ((μ3.1 0 1) + 1)) fun μ4 => (some μ4))) else none)) else none))
set_option maxRecDepth 100000 in
def f_X5_addSeller (p1 : Int64) (p3 : Int32) (p4 : Int32) (μ : OM) : Option (OM) := (if 8 ≤ (μ.1 0 0) then (some μ) else (if inb (μ.1 0 0) 8 = true then (lt (wJ μ 1 (Int32.toNatClampNeg (μ.1 0 0)) p1) fun μ2 => (if inb (μ2.1 0 0) 8 = true then (lt (wI μ2 2 (Int32.toNatClampNeg (μ2.1 0 0)) p3) fun μ3 => (if inb (μ3.1 0 0) 8 = true then (lt (wI μ3 3 (Int32.toNatClampNeg (μ3.1 0 0)) p4) fun μ4 => (if inb (μ4.1 0 0) 8 = true then (lt (wI μ4 4 (Int32.toNatClampNeg (μ4.1 0 0)) (-1)) fun μ5 => (if inb (μ5.1 0 0) 8 = true then (lt (wI μ5 5 (Int32.toNatClampNeg (μ5.1 0 0)) (μ5.1 0 0)) fun μ6 => (if inb (μ6.1 0 0) 8 = true then (lt (wI μ6 6 (Int32.toNatClampNeg (μ6.1 0 0)) 0) fun μ7 => (lt (wI μ7 0 7 ((μ7.1 0 7) + p3)) fun μ8 => (lt (wI μ8 0 0 ((μ8.1 0 0) + 1)) fun μ9 => (some μ9)))) else none)) else none)) else none)) else none)) else none)) else none))
set_option maxRecDepth 100000 in
def f_X5_copy_83 (μ : OM) : Nat → Int32 → OM → Option (OM)
  | 0, _, _ => none
  | n + 1, x2, ν => (if 8 ≤ x2 then (some ν) else (if inb x2 8 = true then (if inb x2 8 = true then (lt (wJ ν 1 (Int32.toNatClampNeg x2) (μ.2.1 1 (Int32.toNatClampNeg x2))) fun ν11 => (if inb x2 8 = true then (if inb x2 8 = true then (lt (wI ν11 2 (Int32.toNatClampNeg x2) (μ.1 2 (Int32.toNatClampNeg x2))) fun ν12 => (if inb x2 8 = true then (if inb x2 8 = true then (lt (wI ν12 3 (Int32.toNatClampNeg x2) (μ.1 3 (Int32.toNatClampNeg x2))) fun ν13 => (if inb x2 8 = true then (if inb x2 8 = true then (lt (wI ν13 4 (Int32.toNatClampNeg x2) (μ.1 4 (Int32.toNatClampNeg x2))) fun ν14 => (if inb x2 8 = true then (if inb x2 8 = true then (lt (wI ν14 5 (Int32.toNatClampNeg x2) (μ.1 5 (Int32.toNatClampNeg x2))) fun ν15 => (if inb x2 8 = true then (if inb x2 8 = true then (lt (wI ν15 6 (Int32.toNatClampNeg x2) (μ.1 6 (Int32.toNatClampNeg x2))) fun ν16 => (f_X5_copy_83 μ n (x2 + 1) ν16)) else none) else none)) else none) else none)) else none) else none)) else none) else none)) else none) else none)) else none) else none))
set_option maxRecDepth 100000 in
def f_X5_copy_169 (μ : OM) : Nat → Int32 → OM → Option (OM)
  | 0, _, _ => none
  | n + 1, x2, ν => (if 64 ≤ x2 then (some ν) else (if inb x2 64 = true then (if inb x2 64 = true then (lt (wI ν 7 (Int32.toNatClampNeg x2) (μ.1 7 (Int32.toNatClampNeg x2))) fun ν19 => (f_X5_copy_169 μ n (x2 + 1) ν19)) else none) else none))
set_option maxRecDepth 100000 in
def f_X5_copy_195 (μ : OM) : Nat → Int32 → OM → Option (OM)
  | 0, _, _ => none
  | n + 1, x2, ν => (if 8 ≤ x2 then (some ν) else (if inb x2 8 = true then (if inb x2 8 = true then (lt (wJ ν 8 (Int32.toNatClampNeg x2) (μ.2.1 8 (Int32.toNatClampNeg x2))) fun ν22 => (if inb x2 8 = true then (if inb x2 8 = true then (lt (wI ν22 9 (Int32.toNatClampNeg x2) (μ.1 9 (Int32.toNatClampNeg x2))) fun ν23 => (f_X5_copy_195 μ n (x2 + 1) ν23)) else none) else none)) else none) else none))
set_option maxRecDepth 100000 in
def f_X5_copy  (μ : OM) (ν : OM) : Option (OM) := (lt (wI ν 0 0 (μ.1 0 0)) fun ν1 => (lt (wI ν1 0 1 (μ.1 0 1)) fun ν2 => (lt (wI ν2 0 2 (μ.1 0 2)) fun ν3 => (lt (wI ν3 0 3 (μ.1 0 3)) fun ν4 => (lt (wI ν4 0 4 (μ.1 0 4)) fun ν5 => (lt (wI ν5 0 5 (μ.1 0 5)) fun ν6 => (lt (wI ν6 0 6 (μ.1 0 6)) fun ν7 => (lt (wI ν7 0 7 (μ.1 0 7)) fun ν8 => (lt (wI ν8 0 8 (μ.1 0 8)) fun ν9 => ((f_X5_copy_83 μ FU 0 ν9).bind fun ν17 => ((f_X5_copy_169 μ FU 0 ν17).bind fun ν20 => (f_X5_copy_195 μ FU 0 ν20))))))))))))

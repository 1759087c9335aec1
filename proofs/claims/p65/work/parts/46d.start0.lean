/-! the class's own making: its parts' world beside the object that is being made -/
def ZM : OM := (fun _ _ => 0, fun _ _ => 0, fun _ _ => none)
def wE (E : Ev) (La : Nat → Nat) (n : Nat) : Ev := (eS E, eD E, La, eC E, eV E, eK E, eB E, eT E, n)
/-- the same, seen from a heap in which the object that is being made stands as it does now -/
def rE (E : Ev) (H : Heap) (La : Nat → Nat) : Ev := ({ eS E with heap := H.extract 0 ((eS E).heap.size + 1) }, eD E, La, eC E, eV E, eK E, eB E, eT E, 129)
def HO (E : Ev) (La : Nat → Nat) (own : va_E) (σ : SM) (s : State) (H : Heap) (locs : List Loc) : Prop := Hl E (((eS E).heap.size, own) :: ws (wE E La 129) σ) s H locs
theorem St.sub {E E' : Ev} (h : St E) (hvm : (eS E).vm.Alike (eS E').vm) (hk : ∀ a : Nat, a < (eS E).heap.size → ¬ eA E a → (eS E').heap[a]? = (eS E).heap[a]?) (hA : ∀ q, eA E' q → eA E q) (hV : eV E' = eV E) (hK : eK E' = eK E) (hB : eB E' = eB E) (hT : eT E' = eT E) : St E' := by
  obtain ⟨h1, h2, h3⟩ := h
  unfold St
  rw [hK, hB]
  refine ⟨fun i hi => ?_, ((va_Z.moved hvm h2).kept hk).narrow hA, ((va_Zq.moved hvm h3).kept hk).narrow hA⟩
  obtain ⟨a, b, c, d⟩ := h1 i hi
  exact ⟨((va_O.moved hvm a).kept hk).narrow hA, ((va_OF.moved hvm b).kept hk).narrow hA, ((va_OF.moved hvm c).kept hk).narrow hA, ((va_T.moved hvm d).kept hk).narrow hA⟩
theorem St.w {E : Ev} (h : St E) (La : Nat → Nat) (n : Nat) : St (wE E La n) := h
theorem vP_tl {D : va_G} {cl : List vw_C} {x : Nat × va_E} {L : va_W} {H : Heap} (h : va_P D cl (x :: L) H) : va_P D cl L H := h.by (fun k => k + 1) (fun k q hq => hq)
theorem vD_tl {A : Nat → Prop} {x : Nat × va_E} {L : va_W} (h : va_D A (x :: L)) : va_D A L := h.by (fun k => k + 1) (fun k q hq => hq) (fun i j _ _ e => by omega)
theorem vP_cons {D : va_G} {cl : List vw_C} {x : Nat × va_E} {L : va_W} {H : Heap} (h : va_P D cl [x] H) (h2 : va_P D cl L H) : va_P D cl (x :: L) H := h.app h2
section MAKE
variable {p : Program} {l : Launch} {e : Env} {R : Room} {s : State} {m : MethodId} {args : Array Value} {below : List Frame} {meth : Method} {c : Code} {H : Heap} {locs : List Loc} {cells slots : Nat} {Q : State → Prop}
variable {E : Ev} {La : Nat → Nat} {ow : va_E} {σ : SM} {own : String} {cc : ByteArray} {nL pc : Nat} {ret : Option FieldType} {ls : Array Slot} {rest st : List Value}
theorem Cx.w (cx : Cx E p s m meth c args own cc nL ret) (La : Nat → Nat) (n : Nat) (hn : n ≤ 151) : Cx (wE E La n) p s m meth c args own cc nL ret := ⟨cx.1, cx.2.1, cx.2.2.1, cx.2.2.2.1, cx.2.2.2.2.1, hn⟩
theorem HO.hp (h : HO E La ow σ s H locs) : Hp (wE E La 129) σ s H locs := ⟨⟨vP_tl h.1.1, vD_tl h.1.2.1, h.1.2.2.1, h.1.2.2.2.1, (by decide : 129 ≤ 151)⟩, h.2⟩
theorem HO.lt (h : HO E La ow σ s H locs) : (eS E).heap.size < H.size := vx_lt (k := 0) h.1.1 rfl
theorem rE_size (h : (eS E).heap.size < H.size) : (eS (rE E H La)).heap.size = (eS E).heap.size + 1 := by
  show (H.extract 0 ((eS E).heap.size + 1)).size = _
  rw [Array.size_extract]
  omega
theorem rE_get {q : Nat} (hq : q < (eS E).heap.size + 1) : (eS (rE E H La)).heap[q]? = H[q]? := by
  show (H.extract 0 ((eS E).heap.size + 1))[q]? = _
  rw [Array.getElem?_extract, Nat.zero_add]
  by_cases h : q < H.size
  · rw [if_pos (by omega)]
  · rw [if_neg (by omega)]
    exact (Array.getElem?_eq_none (by omega)).symm
theorem rE_A (h : (eS E).heap.size < H.size) {q : Nat} (hq : eA (rE E H La) q) : (eS E).heap.size + 1 ≤ q := by
  have h1 : (eS (rE E H La)).heap.size ≤ q := hq
  rw [rE_size h] at h1
  exact h1
theorem HO.re (h : HO E La ow σ s H locs) : Wp (rE E H La) σ H := by
  have hlt := h.lt
  refine ⟨vP_tl h.1.1, ⟨(vD_tl h.1.2.1).1, fun k q hk => ?_⟩, ?_, fun q hq => ?_, (by decide : 129 ≤ 151)⟩
  · show (eS (rE E H La)).heap.size ≤ q.1
    rw [rE_size hlt]
    have h1 : (eS E).heap.size ≤ q.1 := (vD_tl h.1.2.1).2 k q hk
    have h2 : q.1 ≠ (eS E).heap.size := fun z => by
      have := h.1.2.1.1 (k + 1) 0 q ((eS E).heap.size, ow) hk rfl z
      omega
    omega
  · rw [rE_size hlt]; omega
  · rw [rE_size hlt] at hq
    exact (rE_get hq).symm
theorem HO.back (h : HO E La ow σ s H locs) {u : SM} {H1 : Heap} {locs1 : List Loc} (hw : Wp (rE E H La) u H1) (hS : va_S (eA E) s.heap H1 locs1) : HO E La ow u s H1 locs1 := by
  have hlt := h.lt
  have hk : ∀ q, q < (eS E).heap.size + 1 → H1[q]? = H[q]? := fun q hq => (hw.2.2.2.1 q (by rw [rE_size hlt]; exact hq)).trans (rE_get hq)
  have h0 : va_P (eD E) vwCl [((eS E).heap.size, ow)] H := h.1.1.by (fun k => k) (fun k q hq => by
    match k, hq with
    | 0, hq => exact hq)
  refine ⟨⟨vP_cons (h0.kept (fun k q hq => ?_)) hw.1, ⟨fun i j p q hi hj hpq => ?_, fun k q hq => ?_⟩, (by have h7 := hw.2.2.1; rw [rE_size hlt] at h7; omega), fun q hq => (hk q (by omega)).trans (h.1.2.2.2.1 q hq), h.1.2.2.2.2⟩, hS⟩
  · match k, hq with
    | 0, hq => cases hq; exact hk _ (by show (eS E).heap.size < _; omega)
  · match i, j, hi, hj with
    | 0, 0, _, _ => rfl
    | 0, j + 1, hi, hj =>
      cases hi
      have := rE_A hlt (hw.2.1.2 j q hj)
      have h3 : (eS E).heap.size = q.1 := hpq
      omega
    | i + 1, 0, hi, hj =>
      cases hj
      have := rE_A hlt (hw.2.1.2 i p hi)
      have h3 : p.1 = (eS E).heap.size := hpq
      omega
    | i + 1, j + 1, hi, hj => exact congrArg (· + 1) (hw.2.1.1 i j p q hi hj hpq)
  · match k, hq with
    | 0, hq => cases hq; exact Nat.le_refl _
    | k + 1, hq =>
      have := rE_A hlt (hw.2.1.2 k q hq)
      show (eS E).heap.size ≤ q.1
      omega
theorem wuR (cx : Cx E p s m meth c args own cc nL ret) (ho : HO E La ow σ s H locs) : ∀ U : State, U.heap = H → s.WarmedH U.vm → Wu (rE E H La) σ U := fun U hU hW => ⟨⟨cx.2.2.1.1.trans hW.alike, va_K.moved hW.alike cx.2.2.1.2.1, cx.2.2.1.2.2.warm hW⟩, by rw [hU]; exact ho.re⟩
theorem stR (ho : HO E La ow σ s H locs) (hT : St E) : St (rE E H La) := hT.sub (Vm.Alike.refl _) (fun a ha _ => (rE_get (by omega)).trans (ho.1.2.2.2.1 a ha)) (fun q hq => by
  have := rE_A ho.lt hq
  show (eS E).heap.size ≤ q
  omega) rfl rfl rfl rfl
theorem yO_V {lv : List (Nat × Value)} {y : MethodName} {bytes : ByteArray} {maxL idx n mc ms : Nat} {ret' : Option FieldType} {rm : Room} {C : String} {b : Nat} {As : List Value} {Qc : Array Value → State → Outcome → State → Prop} {free : Addr → Prop} (cx : Cx E p s m meth c args own cc nL ret) (ho : HO E La ow σ s H locs) (hl : lv_has ls nL lv)
    (hM : Met l y (wC y bytes maxL ret') rm (va_Pc (.ref b :: As) (Wu (rE E H La) σ)) Qc mc ms free) (cw : CallW R s args own C idx y bytes maxL ret' (wC y bytes maxL ret') rm mc ms n) (hrecv : ∃ cell : Cell, H[b]? = some cell ∧ cell.vm.isStatics = false ∧ s.vm.findClass C = some cell.cls) (hn : As.length = n) (hst : st = As.reverse ++ .ref b :: rest) (hW : (rest.map fun v => v.category).sum ≤ 8)
    (hdg : decode cc pc = .ok (.invokevirtual idx, 3)) (hf : cells + mc ≤ R.cells ∧ slots + ms ≤ R.slots) : va_Run p l e R s m args below meth c H locs cells slots mc ms (F0 m pc ls st) rest (Qc (Value.ref b :: As).toArray) free :=
  va_runV cx.1 hM cw ⟨wu_blind, hrecv, fun U hU hW => ⟨rfl, wuR cx ho U hU hW⟩⟩ rfl hn hl.1 hst (lv_room hW) hdg hf
theorem yO_S {lv : List (Nat × Value)} {y : MethodName} {bytes : ByteArray} {maxL idx n mc ms : Nat} {ret' : Option FieldType} {rm : Room} {As : List Value} {Qc : Array Value → State → Outcome → State → Prop} {free : Addr → Prop} (cx : Cx E p s m meth c args own cc nL ret) (ho : HO E La ow σ s H locs) (hl : lv_has ls nL lv)
    (hM : Met l y (wC y bytes maxL ret') rm (va_Pc As (Wu (rE E H La) σ)) Qc mc ms free) (cw : CallB R s args own idx y bytes maxL ret' (wC y bytes maxL ret') rm mc ms n ∧ (Cond.static y).before args s = true) (hn : As.length = n) (hst : st = As.reverse ++ rest) (hW : (rest.map fun v => v.category).sum ≤ 8)
    (hdg : decode cc pc = .ok (.invokestatic idx, 3)) (hf : cells + mc ≤ R.cells ∧ slots + ms ≤ R.slots) : va_Run p l e R s m args below meth c H locs cells slots mc ms (F0 m pc ls st) rest (Qc As.toArray) free :=
  va_runS cx.1 hM cw ⟨wu_blind, fun U hU hW => ⟨rfl, wuR cx ho U hU hW⟩⟩ rfl hn hl.1 hst (lv_room hW) hdg hf
theorem zO_v {a : Array Value} {post : SM → Prop} (ho : HO E La ow σ s H locs) (hr : va_Run p l e R s m args below meth c H locs cells slots 0 0 (F0 m pc ls st) rest (va_Qv post (fun u t => Wu (rE E H La) u t) (eA (rE E H La)) a) (eA (rE E H La)))
    (kk : ∀ (u : SM) (H1 : Heap) (locs1 : List Loc), post u → HO E La ow u s H1 locs1 → W p l e R s m args below meth c H1 locs1 cells slots Q (F0 m (pc + 3) ls rest)) : W p l e R s m args below meth c H locs cells slots Q (F0 m pc ls st) := by
  have hA : ∀ q, eA (rE E H La) q → eA E q := fun q hq => by
    have := rE_A ho.lt hq
    show (eS E).heap.size ≤ q
    omega
  exact va_callv hr ho.2 (fun q _ h => hA q h) hA (fun u t H1 locs1 ht _ hw hB _ _ hS => kk u H1 locs1 hw (ho.back (ht ▸ hB.2) hS))
theorem zO_i {a : Array Value} {post : Int32 → SM → Prop} (ho : HO E La ow σ s H locs) (hr : va_Run p l e R s m args below meth c H locs cells slots 0 0 (F0 m pc ls st) rest (va_Qi post (fun u t => Wu (rE E H La) u t) (eA (rE E H La)) a) (eA (rE E H La)))
    (kk : ∀ (r : Int32) (u : SM) (H1 : Heap) (locs1 : List Loc), post r u → HO E La ow u s H1 locs1 → W p l e R s m args below meth c H1 locs1 cells slots Q (F0 m (pc + 3) ls (.int r :: rest))) : W p l e R s m args below meth c H locs cells slots Q (F0 m pc ls st) := by
  have hA : ∀ q, eA (rE E H La) q → eA E q := fun q hq => by
    have := rE_A ho.lt hq
    show (eS E).heap.size ≤ q
    omega
  exact va_calli hr ho.2 (fun q _ h => hA q h) hA (fun r u t H1 locs1 ht _ hw hB _ _ hS => kk r u H1 locs1 hw (ho.back (ht ▸ hB.2) hS))
end MAKE
/-! the first text, byte by byte -/
def bt (w k : Nat) : OM := (fun i j => if i = 0 then (if j = 1 then nI k else 0) else if i = 1 then (if j < k then wB w j else 0) else 0, ZM.2)
theorem bt_0 (w : Nat) : bt w 0 = ZM := by
  refine Prod.ext (funext fun i => funext fun j => ?_) rfl
  show (if i = 0 then (if j = 1 then nI 0 else 0) else if i = 1 then (if j < 0 then wB w j else 0) else 0) = 0
  by_cases h0 : i = 0
  · rw [if_pos h0]
    by_cases h1 : j = 1
    · rw [if_pos h1]; rfl
    · rw [if_neg h1]
  · rw [if_neg h0]
    by_cases h1 : i = 1
    · rw [if_pos h1, if_neg (by omega)]
    · rw [if_neg h1]
theorem bt_s (w k : Nat) : wI (wI (bt w k) 1 k (wB w k)) 0 1 (nI (k + 1)) = bt w (k + 1) := by
  refine Prod.ext (funext fun i => funext fun j => ?_) rfl
  show (if i = 0 then upd ((wI (bt w k) 1 k (wB w k)).1 0) 1 (nI (k + 1)) else (wI (bt w k) 1 k (wB w k)).1 i) j = (if i = 0 then (if j = 1 then nI (k + 1) else 0) else if i = 1 then (if j < k + 1 then wB w j else 0) else 0)
  by_cases h0 : i = 0
  · rw [if_pos h0, if_pos h0]
    show (if j = 1 then nI (k + 1) else (wI (bt w k) 1 k (wB w k)).1 0 j) = _
    by_cases h1 : j = 1
    · rw [if_pos h1, if_pos h1]
    · rw [if_neg h1, if_neg h1]
      show (if (0 : Nat) = 1 then upd ((bt w k).1 1) k (wB w k) else (bt w k).1 0) j = 0
      rw [if_neg (by omega)]
      show (if (0 : Nat) = 0 then (if j = 1 then nI k else 0) else (if (0 : Nat) = 1 then (if j < k then wB w j else 0) else (0 : Int32))) = (0 : Int32)
      rw [if_pos rfl, if_neg h1]
  · rw [if_neg h0, if_neg h0]
    show (if i = 1 then upd ((bt w k).1 1) k (wB w k) else (bt w k).1 i) j = _
    by_cases h1 : i = 1
    · rw [if_pos h1, if_pos h1]
      show (if j = k then wB w k else (bt w k).1 1 j) = _
      by_cases h2 : j = k
      · rw [if_pos h2, if_pos (by omega), h2]
      · rw [if_neg h2]
        show (if (1 : Nat) = 0 then (if j = 1 then nI k else 0) else if (1 : Nat) = 1 then (if j < k then wB w j else 0) else (0 : Int32)) = _
        rw [if_neg (by omega), if_pos rfl]
        by_cases h3 : j < k
        · rw [if_pos h3, if_pos (by omega)]
        · rw [if_neg h3, if_neg (by omega)]
    · rw [if_neg h1, if_neg h1]
      show (if i = 0 then _ else if i = 1 then _ else (0 : Int32)) = 0
      rw [if_neg h0, if_neg h1]
theorem bt_add {w k : Nat} (hk : k < 700) : f_X2_add (wB w k) (bt w k) = some (bt w (k + 1)) := by
  have e1 : (bt w k).1 0 1 = nI k := rfl
  have e2 : (wI (bt w k) 1 k (wB w k)).1 0 1 = nI k := rfl
  simp (maxSteps := 2000000) (disch := first | rfl | exact q_e1 _ _ _ | exact q_sr1 _ _ | omega) only [f_X2_add, ↓q_m1, q_l0, q_l1, q_l2, q_l3, q_l4, q_l5, q_l6, q_l7, q_l8, q_l9, q_l10, q_l11, q_l12, q_l13, q_l14, q_l15, q_l16, q_l17, q_l18, q_l19, q_l20, q_l21, q_l22, q_l23, q_l24, q_l25, q_l26, q_l27, q_l28, q_l29, q_l30, q_l31, q_l32, q_l33, q_l45, q_l46, q_l48, q_l57, q_l58, q_l59, q_l60, q_l61, q_l62, q_l63, q_l64, q_l96, q_l97, q_l99, q_l122, q_l129, q_l137, q_l255, q_l256, q_l400, q_l680, q_l700, q_l959, q_l999, q_l9999, q_l10000, q_l100000, q_l36, q_l50, q_l100, q_l112, q_l200, q_ltT, q_ltF, q_leT, q_leF, q_eqF, q_eqR, q_mlt, q_mle, q_nlm, q_nLm, q_nem, q_men, q_mlm, Nat.add_zero, Nat.sub_zero, q_add0, pk_rem, nI_add, pk_mul, q_sub, q_subm, q_addm, nI_clamp, q_inT, q_inF, q_sr1, q_srn, q_srw, q_srs, q_wIs, q_wIn, q_wI2, q_wJ1, q_wJs, q_wJn, q_wR1, q_wRs, q_wRn, q_wI22, q_wJ22, pk_us, pk_un, pk_uLs, pk_uLn, q_usS, q_usN, q_ups, q_upn, Bool.true_eq_false, Bool.false_eq_true, q_lt, q_o2, q_o3, q_o4, q_o5, q_bi, ↓reduceIte, q_tv0, q_tv1, q_bz, q_oRl, q_oRr, q_oXl, q_oXr, e1, e2, bt_s]
/-- the state behind the parts' making: all is zero but the parser's place -/
def σ0 : SM := fun o => if o = 11 then wI ZM 0 2 (-1) else ZM

/-! the claim's texts, by number: class, entry, text -/
def strs : List (String × Nat × String) := [("StallMarket", 61, "market;stall east 5;stall west 8;stall north 0;stall south 12;seller ann 20 4 west east at east;seller bob 3 6 east south at west;seller cid 50 0 north west;seller dot 9 9 south east west;"), ("StallMarket$SetupReader", 19, "market"), ("StallMarket$SetupReader", 42, "stall"), ("StallMarket$SetupReader", 60, "at"), ("StallMarket$SetupReader", 88, "seller"), ("StallMarket$Parser", 58, "at"), ("StallMarketLaw$Own", 101, "market;"), ("StallMarketLaw$Own", 103, "stall"), ("StallMarketLaw$Own", 73, " "), ("StallMarketLaw$Own", 111, ";"), ("StallMarketLaw$Own", 113, "seller"), ("StallMarketLaw$Own", 122, " at")]
/-! what stays the same through a run: the law's start, the classes' numbers, where the cells lie, the array classes, the constants, the texts, their bytes, the tables, how many cells there are -/
abbrev Ev : Type := State × va_G × (Nat → Nat) × (Nat → ClassId) × (Nat → Nat) × (Nat → Nat) × (Nat → Nat) × (Nat → Nat) × Nat
def eS (E : Ev) : State := E.1
def eD (E : Ev) : va_G := E.2.1
def eL (E : Ev) : Nat → Nat := E.2.2.1
def eC (E : Ev) : Nat → ClassId := E.2.2.2.1
def eV (E : Ev) : Nat → Nat := E.2.2.2.2.1
def eK (E : Ev) : Nat → Nat := E.2.2.2.2.2.1
def eB (E : Ev) : Nat → Nat := E.2.2.2.2.2.2.1
def eT (E : Ev) : Nat → Nat := E.2.2.2.2.2.2.2.1
def eN (E : Ev) : Nat := E.2.2.2.2.2.2.2.2
def eA (E : Ev) : Nat → Prop := fun q => (eS E).heap.size ≤ q
/-- what holds of the constants, texts and tables at the law's start -/
def St (E : Ev) : Prop :=
  (∀ i, i < 12 → va_O "java/lang/String" (eK E i) (eA E) (eS E) (eS E).heap ∧ va_OF "java/lang/String" "coder" "B" (.int 0) (eK E i) (eA E) (eS E) (eS E).heap ∧ va_OF "java/lang/String" "value" "[B" (.ref (eB E i)) (eK E i) (eA E) (eS E) (eS E).heap ∧ va_T .byte (eB E i) (lens.getD i 0) (fun j => .int ((byts.getD i []).getD j 0)) (eA E) (eS E) (eS E).heap) ∧
  (va_Z "java/lang/String" "COMPACT_STRINGS" "Z" (.int 1) (eA E) (eS E) (eS E).heap ∧ va_Zq "jdk/internal/util/Preconditions" "SIOOBE_FORMATTER" "Ljava/util/function/BiFunction;" (eA E) (eS E) (eS E).heap)
def lin (o k : Nat) : Nat := if o < 11 then 10 * o + k else match o with
  | 11 => 110
  | 12 => 111
  | 13 => 112 + k
  | 14 => 114 + k
  | 15 => 116 + k
  | 16 => 120 + k
  | 17 => 122 + k
  | 18 => 127 + k
  | 19 => 129
  | 20 => 130 + k
  | _ => 151
def dec (q : Nat) : Nat × Nat := if q < 110 then (q / 10, q % 10) else if q < 111 then (11, 0) else if q < 112 then (12, 0) else if q < 114 then (13, q - 112) else if q < 116 then (14, q - 114) else if q < 120 then (15, q - 116) else if q < 122 then (16, q - 120) else if q < 127 then (17, q - 122) else if q < 129 then (18, q - 127) else if q < 130 then (19, 0) else if q < 151 then (20, q - 130) else (21, 0)
theorem lin_dec : ∀ q, q < 151 → lin (dec q).1 (dec q).2 = q := by decide +kernel
theorem lin_M {o : Nat} (ho : o < 11) (k : Nat) : lin o k = 10 * o + k := if_pos ho
theorem dec_M {o k : Nat} (ho : o < 11) (hk : k < 10) : dec (lin o k) = (o, k) := by
  rw [lin_M ho, dec, if_pos (by omega)]
  exact Prod.ext (by show (10 * o + k) / 10 = o; omega) (by show (10 * o + k) % 10 = k; omega)
theorem lin_lt {o k n : Nat} (ho : o < 11) (hk : k < 10) (hn : 129 ≤ n) : lin o k < n := by
  rw [lin_M ho]; omega
def adr (E : Ev) (o k : Nat) : Nat := eL E (lin o k)
def aI (E : Ev) (n : Nat) (f : Nat → Int32) : va_E := .inl (eC E 0, n, .inl f)
def aJ (E : Ev) (n : Nat) (g : Nat → Int64) : va_E := .inl (eC E 1, n, .inr (.inl g))
def aZ (E : Ev) (n : Nat) (f : Nat → Int32) : va_E := .inl (eC E 2, n, .inl f)
def celM (E : Ev) (o k : Nat) (f : Nat → Int32) (g : Nat → Int64) : va_E := match k with
  | 0 => .inr (3, [.int (f 0), .int (f 1), .int (f 2), .int (f 3), .int (f 4), .int (f 5), .int (f 6), .int (f 7), .int (f 8), .ref (adr E o 1), .ref (adr E o 2), .ref (adr E o 3), .ref (adr E o 4), .ref (adr E o 5), .ref (adr E o 6), .ref (adr E o 7), .ref (adr E o 8), .ref (adr E o 9)])
  | 1 => aJ E 8 g
  | 7 => aI E 64 f
  | 8 => aJ E 8 g
  | _ => aI E 8 f
def celY (E : Ev) (o k : Nat) (f : Nat → Int32) (g : Nat → Int64) (r : Nat → Option Nat) : va_E := if o < 11 then celM E o k f g else match o with
  | 11 => .inr (5, [.ref (adr E 12 0), .int (f 1), .int (f 2)])
  | 12 => .inr (7, [.ref (adr E 13 0), .int (f 1), .int (f 2), .int (f 3), .int (f 4), .long (g 5)])
  | 13 => match k with
    | 0 => .inr (1, [.ref (adr E 13 1), .int (f 1)])
    | _ => aI E 700 f
  | 14 => match k with
    | 0 => .inr (1, [.ref (adr E 14 1), .int (f 1)])
    | _ => aI E 700 f
  | 15 => match k with
    | 0 => .inr (6, [.ref (adr E 15 1), .ref (adr E 15 2), .ref (adr E 15 3), .int (f 3)])
    | 1 => .inl (eC E 3, 20, .inr (.inr (.inr (.inr (fun j => (r j).map (eV E))))))
    | _ => aI E 20 f
  | 16 => match k with
    | 0 => .inr (2, [.ref (adr E 16 1), .int (f 1), .int (f 2)])
    | _ => .inl (eC E 4, 8, .inr (.inr (.inr (.inr (fun j => some (adr E (3 + j) 0))))))
  | 17 => match k with
    | 0 => .inr (0, [.ref (adr E 17 1), .ref (adr E 17 2), .ref (adr E 17 3), .ref (adr E 17 4), .int (f 4)])
    | 1 => aI E 8 f
    | 2 => aZ E 8 f
    | 3 => aZ E 8 f
    | _ => aI E 8 f
  | 18 => match k with
    | 0 => .inr (4, [.ref (adr E 18 1), .int (f 1), .int (f 2)])
    | _ => aI E 256 f
  | 19 => .inr (8, [.ref (adr E 11 0), .ref (adr E 14 0), .ref (adr E 15 0), .ref (adr E 0 0), .ref (adr E 1 0), .ref (adr E 2 0), .int (f 6), .ref (adr E 16 0), .ref (adr E 17 0), .ref (adr E 18 0)])
  | 20 => match k with
    | 0 => .inr (9, [.ref (adr E 20 1), .ref (adr E 20 2), .ref (adr E 20 3), .ref (adr E 20 4), .ref (adr E 20 5), .ref (adr E 20 6), .ref (adr E 20 7), .ref (adr E 20 8), .ref (adr E 20 9), .ref (adr E 20 10), .ref (adr E 20 11), .ref (adr E 20 20), .int (f 12), .int (f 13), .int (f 14), .int (f 15), .int (f 16), .int (f 17)])
    | 1 => .inl (eC E 5, 700, .inl f)
    | 11 => .inl (eC E 6, 8, .inr (.inr (.inr (.inr (fun i => if i < 8 then some (adr E 20 (12 + i)) else none)))))
    | 20 => aZ E 8 f
    | _ => aI E 8 f
  | _ => aJ E 1 g
def celX (E : Ev) (o k : Nat) (μ : OM) : va_E := celY E o k (μ.1 k) (μ.2.1 k) (μ.2.2 k)
theorem cel_M {E : Ev} {o : Nat} (ho : o < 11) (k : Nat) (μ : OM) : celX E o k μ = celM E o k (μ.1 k) (μ.2.1 k) := if_pos ho
def ws (E : Ev) (σ : SM) : va_W := (List.range (eN E)).map (fun q => (eL E q, celX E (dec q).1 (dec q).2 (σ (dec q).1)))
theorem ws_at {E : Ev} {σ : SM} {o k : Nat} (hd : dec (lin o k) = (o, k)) (hn : lin o k < eN E) {μ : OM} (h : σ o = μ) : (ws E σ)[lin o k]? = some (adr E o k, celX E o k μ) := by
  rw [ws, List.getElem?_map, List.getElem?_range hn]
  simp only [Option.map_some, hd, h, adr]
theorem ws_len (E : Ev) (σ : SM) : (ws E σ).length = eN E := by simp [ws]
theorem ws_set {E : Ev} {σ : SM} {o k : Nat} (hd : dec (lin o k) = (o, k)) (hn : lin o k < eN E) (hN : eN E ≤ 151) {μ μ' : OM} (h : σ o = μ) (h1 : ∀ k', k' ≠ k → μ'.1 k' = μ.1 k' ∧ μ'.2.1 k' = μ.2.1 k' ∧ μ'.2.2 k' = μ.2.2 k') {x : va_E} (h2 : celX E o k μ' = x) : (ws E σ).set (lin o k) (adr E o k, x) = ws E (us σ o μ') := by
  apply List.ext_getElem?
  intro q
  by_cases hq : q = lin o k
  · subst hq
    rw [List.getElem?_set_self (by rw [ws_len]; exact hn), ws_at hd hn (us_s σ o μ'), h2]
  · rw [List.getElem?_set_ne (Ne.symm hq)]
    by_cases hl : q < eN E
    · have key : celX E (dec q).1 (dec q).2 (σ (dec q).1) = celX E (dec q).1 (dec q).2 (us σ o μ' (dec q).1) := by
        by_cases ho : (dec q).1 = o
        · have hk : (dec q).2 ≠ k := fun z => hq (by rw [← lin_dec q (by omega), ho, z])
          obtain ⟨a, b, d⟩ := h1 _ hk
          rw [ho, us_s, h, celX, celX, a, b, d]
        · rw [us_n ho]
      simp only [ws, List.getElem?_map, List.getElem?_range hl, Option.map_some, key]
    · rw [List.getElem?_eq_none (by rw [ws_len]; omega), List.getElem?_eq_none (by rw [ws_len]; omega)]
def tysE (E : Ev) : List (ClassId × FieldType) := [(eC E 0, .int), (eC E 1, .long), (eC E 2, .boolean), (eC E 3, .object RX11), (eC E 4, .object RX5), (eC E 5, .byte), (eC E 6, .array .int)]
def Wp (E : Ev) (σ : SM) (H : Heap) : Prop := va_P (eD E) vwCl (ws E σ) H ∧ va_D (eA E) (ws E σ) ∧ (eS E).heap.size ≤ H.size ∧ (∀ q, q < (eS E).heap.size → H[q]? = (eS E).heap[q]?) ∧ eN E ≤ 151
def Kx (E : Ev) (U : State) : Prop := (∀ w ∈ NB, va_Nw w U) ∧ (∀ i q, strs[i]? = some q → vk_R q.1 q.2.1 q.2.2 (eK E i) U)
theorem Kx.warm {E : Ev} {s U : State} (hW : s.WarmedH U.vm) (h : Kx E s) : Kx E U := ⟨fun w hw => nb_warm hw hW (h.1 w hw), fun i q hq => (h.2 i q hq).warm hW⟩
theorem Kx.same {E : Ev} {s U : State} (hv : U.vm = s.vm) (h : Kx E s) : Kx E U := ⟨fun w hw => (h.1 w hw).same (nb_tab hw) hv.symm, fun i q hq => (h.2 i q hq).same hv⟩
def Wu (E : Ev) (σ : SM) (U : State) : Prop := ((eS E).vm.Alike U.vm ∧ va_K (eD E) vwCl (tysE E) U ∧ Kx E U) ∧ Wp E σ U.heap
def Hp (E : Ev) (σ : SM) (s : State) (H : Heap) (locs : List Loc) : Prop := Wp E σ H ∧ va_S (eA E) s.heap H locs
def Cx (E : Ev) (p : Program) (s : State) (m : MethodId) (meth : Method) (c : Code) (args : Array Value) (own : String) (cc : ByteArray) (nL : Nat) (ret : Option FieldType) : Prop :=
  (p.tables.exec = Jvm.exec ∧ c.code = cc ∧ c.maxLocals = nL ∧ s.vm.findClass own = some m.cls ∧ ∀ w ∈ TB, w.before args s = true) ∧ (meth.sig.returnType = ret ∧ meth.locks = false) ∧ ((eS E).vm.Alike s.vm ∧ va_K (eD E) vwCl (tysE E) s ∧ Kx E s) ∧ (eS E).heap.size ≤ s.heap.size ∧ (∀ q, q < (eS E).heap.size → s.heap[q]? = (eS E).heap[q]?) ∧ eN E ≤ 151
theorem wu_blind {E : Ev} {σ : SM} {av : List Value} : FrameBlind (va_Pc av (Wu E σ)) := fun a U g mk q => ⟨q.1, ⟨q.2.1.1, va_K.moved (u := U) (U := U.calling g mk a) (Vm.Alike.refl U.vm) q.2.1.2.1, Kx.same (s := U) (U := U.calling g mk a) rfl q.2.1.2.2⟩, q.2.2⟩
theorem wp_new {E : Ev} {σ : SM} {H H1 : Heap} {s : State} {locs : List Loc} (h : Wp E σ H) (hS : va_S (eA E) H H1 locs) {σ1 : SM} (hP : va_P (eD E) vwCl (ws E σ1) H1) (hD : va_D (eA E) (ws E σ1)) : Wp E σ1 H1 :=
  ⟨hP, hD, Nat.le_trans h.2.2.1 hS.1, fun q hq => (hS.2.1 q (Nat.lt_of_lt_of_le hq h.2.2.1) (Nat.not_le.mpr hq)).trans (h.2.2.2.1 q hq), h.2.2.2.2⟩
abbrev wC (y : MethodName) (cc : ByteArray) (n : Nat) (r : Option FieldType) : List Cond := Cond.code y cc n r :: TB
theorem gd_C {y : MethodName} {cc : ByteArray} {n : Nat} {r : Option FieldType} (h : Cond.code y cc n r ∈ TB) : GoodIn TB (wC y cc n r) := tb_in (fun w hw => (List.mem_cons.mp hw).elim (fun z => by rw [z]; exact h) id)
theorem gd_V {own C : String} {idx : Nat} {y : MethodName} {cc : ByteArray} {n : Nat} {r : Option FieldType} (h1 : Cond.methodLink own idx y ∈ TB) (h2 : Cond.instanceMethod y ∈ TB) (h3 : Cond.selects C y y ∈ TB) (h4 : Cond.initialized C ∈ TB) (h5 : Cond.code y cc n r ∈ TB) : GoodIn TB (wsV own idx C y (wC y cc n r)) := by
  refine tb_in (fun w hw => ?_)
  simp only [wsV, List.mem_append, List.mem_cons, List.not_mem_nil, or_false] at hw
  rcases hw with (rfl | rfl | rfl | rfl) | rfl | hw
  · exact h1
  · exact h2
  · exact h3
  · exact h4
  · exact h5
  · exact hw
theorem gd_S {own : String} {idx : Nat} {y : MethodName} {cc : ByteArray} {n : Nat} {r : Option FieldType} (h1 : Cond.methodLink own idx y ∈ TB) (h2 : Cond.static y ∈ TB) (h4 : Cond.initialized y.cls ∈ TB) (h5 : Cond.code y cc n r ∈ TB) : GoodIn TB (va_wsS own idx y (wC y cc n r)) := by
  refine tb_in (fun w hw => ?_)
  simp only [va_wsS, List.mem_append, List.mem_cons, List.not_mem_nil, or_false] at hw
  rcases hw with (rfl | rfl | rfl) | rfl | hw
  · exact h1
  · exact h2
  · exact h4
  · exact h5
  · exact hw
section BASE
variable {p : Program} {l : Launch} {e : Env} {R : Room} {s : State} {m : MethodId} {args : Array Value} {below : List Frame} {meth : Method} {c : Code} {H : Heap} {locs : List Loc} {cells slots : Nat} {Q : State → Prop}
variable {E : Ev} {σ : SM} {own : String} {cc : ByteArray} {nL pc : Nat} {ret : Option FieldType} {ls : Array Slot} {rest st : List Value}
theorem wu_at (cx : Cx E p s m meth c args own cc nL ret) (hp : Wp E σ H) : ∀ U : State, U.heap = H → s.WarmedH U.vm → Wu E σ U := fun U hU hW => ⟨⟨cx.2.2.1.1.trans hW.alike, va_K.moved hW.alike cx.2.2.1.2.1, cx.2.2.1.2.2.warm hW⟩, by rw [hU]; exact hp⟩
/-- behind a write into the cell k of the object o -/
theorem hp_put (cx : Cx E p s m meth c args own cc nL ret) {H1 : Heap} {locs1 : List Loc} {o k : Nat} (hd : dec (lin o k) = (o, k)) (hn : lin o k < eN E) {μ μ' : OM} (h : σ o = μ) (h1 : ∀ k', k' ≠ k → μ'.1 k' = μ.1 k' ∧ μ'.2.1 k' = μ.2.1 k' ∧ μ'.2.2 k' = μ.2.2 k') {x : va_E} (h2 : celX E o k μ' = x)
    (hP : va_P (eD E) vwCl ((ws E σ).set (lin o k) (adr E o k, x)) H1) (hD : va_D (eA E) ((ws E σ).set (lin o k) (adr E o k, x))) (hS : va_S (eA E) s.heap H1 locs1) : Hp E (us σ o μ') s H1 locs1 := by
  obtain ⟨-, -, -, hz, ho, hN⟩ := cx
  rw [ws_set hd hn hN h h1 h2] at hP hD
  exact ⟨⟨hP, hD, Nat.le_trans hz hS.1, fun q hq => (hS.2.1 q (Nat.lt_of_lt_of_le hq hz) (Nat.not_le.mpr hq)).trans (ho q hq), hN⟩, hS⟩
/-- a method's entry -/
theorem g_entry {y : MethodName} {maxL : Nat} {rm : Room} {av : List Value} {lv : List (Nat × Value)} {Qc : Array Value → State → Outcome → State → Prop} {mc ms : Nat} {free : Addr → Prop} (hy : plainName y.cls = true) (hl : (lg_sl av).length ≤ maxL) (hlv : lv_args 0 av = lv)
    (body : ∀ (p : Program) (e : Env) (s : State) (m : MethodId) (below : List Frame) (meth : Method) (c : Code), Cx E p s m meth c av.toArray y.cls cc maxL ret → Hp E σ s s.heap [] → ∀ ls : Array Slot, lv_has ls maxL lv → W p l e rm s m av.toArray below meth c s.heap [] 0 0 (MQ below Qc av.toArray s mc ms free) (F0 m 0 ls [])) : Met l y (wC y cc maxL ret) rm (va_Pc av (Wu E σ)) Qc mc ms free := by
  refine Met.ofW (cc := cc) (maxL := maxL) (ret := ret) hy rfl ?_
  intro p e s m args below meth c s₁ B hml hv
  obtain ⟨rfl, hal, hp⟩ := hv
  have hts := atoms_spec (ws := wC y cc maxL ret) B.pre
  have h := body p e s m below meth c ⟨⟨B.exec, B.bytes, hml, findClass_of_methodNamed B.named, fun w hw => hts w (List.mem_cons_of_mem _ hw)⟩, ⟨B.returns, B.notSynchronized⟩, hal, hp.2.2⟩ ⟨hp, va_S.rf⟩ _ (hlv ▸ lv_entry av hl)
  rw [lg_entry_eq]
  exact h
/-- its ends -/
theorem r_i (cx : Cx E p s m meth c args own cc nL (some .int)) (hp : Hp E σ s H locs) {post : Int32 → SM → Prop} {v : Int32} (hq : post v σ) (hdg : decode cc pc = .ok (.ireturn, 1)) : W p l e R s m args below meth c H locs cells slots (MQ below (va_Qi post (fun u t => Wu E u t) (eA E)) args s cells slots (eA E)) (F0 m pc ls [.int v]) :=
  W.iret cx.1.1 cx.1.2.1 cx.2.1.1 (fun t ht hW => ⟨⟨v, σ, rfl, hq, wu_at cx hp.1 t ht hW⟩, hp.2.F ht⟩) hp.2.2.2 hdg cx.2.1.2
theorem r_z {ty : FieldType} (cx : Cx E p s m meth c args own cc nL (some ty)) (hp : Hp E σ s H locs) {post : Int32 → SM → Prop} {v : Int32} (hn : narrow ty (.int v) = .int v) (hq : post v σ) (hdg : decode cc pc = .ok (.ireturn, 1)) : W p l e R s m args below meth c H locs cells slots (MQ below (va_Qi post (fun u t => Wu E u t) (eA E)) args s cells slots (eA E)) (F0 m pc ls [.int v]) :=
  W.zret cx.1.1 cx.1.2.1 cx.2.1.1 hn (fun t ht hW => ⟨⟨v, σ, rfl, hq, wu_at cx hp.1 t ht hW⟩, hp.2.F ht⟩) hp.2.2.2 hdg cx.2.1.2
theorem r_l (cx : Cx E p s m meth c args own cc nL (some .long)) (hp : Hp E σ s H locs) {post : Int64 → SM → Prop} {v : Int64} (hq : post v σ) (hdg : decode cc pc = .ok (.lreturn, 1)) : W p l e R s m args below meth c H locs cells slots (MQ below (va_Ql post (fun u t => Wu E u t) (eA E)) args s cells slots (eA E)) (F0 m pc ls [.long v]) :=
  W.lret cx.1.1 cx.1.2.1 cx.2.1.1 (fun t ht hW => ⟨⟨v, σ, rfl, hq, wu_at cx hp.1 t ht hW⟩, hp.2.F ht⟩) hp.2.2.2 hdg cx.2.1.2
theorem r_v (cx : Cx E p s m meth c args own cc nL none) (hp : Hp E σ s H locs) {post : SM → Prop} (hq : post σ) (hdg : decode cc pc = .ok (.return_, 1)) : W p l e R s m args below meth c H locs cells slots (MQ below (va_Qv post (fun u t => Wu E u t) (eA E)) args s cells slots (eA E)) (F0 m pc ls []) :=
  W.vret cx.1.1 cx.1.2.1 cx.2.1.1 (fun t ht hW => ⟨⟨σ, rfl, hq, wu_at cx hp.1 t ht hW⟩, hp.2.F ht⟩) hp.2.2.2 hdg cx.2.1.2
/-- calls: the run, then what comes behind it -/
theorem x_i {a : Array Value} {post : Int32 → SM → Prop} (hp : Hp E σ s H locs) (hr : va_Run p l e R s m args below meth c H locs cells slots 0 0 (F0 m pc ls st) rest (va_Qi post (fun u t => Wu E u t) (eA E) a) (eA E))
    (kk : ∀ (r : Int32) (u : SM) (H1 : Heap) (locs1 : List Loc), post r u → Hp E u s H1 locs1 → W p l e R s m args below meth c H1 locs1 cells slots Q (F0 m (pc + 3) ls (.int r :: rest))) : W p l e R s m args below meth c H locs cells slots Q (F0 m pc ls st) :=
  va_calli hr hp.2 (fun _ _ h => h) (fun _ h => h) (fun r u t H1 locs1 ht _ hw hB _ _ hS => kk r u H1 locs1 hw ⟨ht ▸ hB.2, hS⟩)
theorem x_l {a : Array Value} {post : Int64 → SM → Prop} (hp : Hp E σ s H locs) (hr : va_Run p l e R s m args below meth c H locs cells slots 0 0 (F0 m pc ls st) rest (va_Ql post (fun u t => Wu E u t) (eA E) a) (eA E))
    (kk : ∀ (r : Int64) (u : SM) (H1 : Heap) (locs1 : List Loc), post r u → Hp E u s H1 locs1 → W p l e R s m args below meth c H1 locs1 cells slots Q (F0 m (pc + 3) ls (.long r :: rest))) : W p l e R s m args below meth c H locs cells slots Q (F0 m pc ls st) :=
  va_calll hr hp.2 (fun _ _ h => h) (fun _ h => h) (fun r u t H1 locs1 ht _ hw hB _ _ hS => kk r u H1 locs1 hw ⟨ht ▸ hB.2, hS⟩)
theorem x_v {a : Array Value} {post : SM → Prop} (hp : Hp E σ s H locs) (hr : va_Run p l e R s m args below meth c H locs cells slots 0 0 (F0 m pc ls st) rest (va_Qv post (fun u t => Wu E u t) (eA E) a) (eA E))
    (kk : ∀ (u : SM) (H1 : Heap) (locs1 : List Loc), post u → Hp E u s H1 locs1 → W p l e R s m args below meth c H1 locs1 cells slots Q (F0 m (pc + 3) ls rest)) : W p l e R s m args below meth c H locs cells slots Q (F0 m pc ls st) :=
  va_callv hr hp.2 (fun _ _ h => h) (fun _ h => h) (fun u t H1 locs1 ht _ hw hB _ _ hS => kk u H1 locs1 hw ⟨ht ▸ hB.2, hS⟩)
theorem y_V {lv : List (Nat × Value)} {y : MethodName} {bytes : ByteArray} {maxL idx n mc ms : Nat} {ret' : Option FieldType} {rm : Room} {C : String} {b : Nat} {As : List Value} {Qc : Array Value → State → Outcome → State → Prop} {free : Addr → Prop} (cx : Cx E p s m meth c args own cc nL ret) (hp : Hp E σ s H locs) (hl : lv_has ls nL lv)
    (hM : Met l y (wC y bytes maxL ret') rm (va_Pc (.ref b :: As) (Wu E σ)) Qc mc ms free) (cw : CallW R s args own C idx y bytes maxL ret' (wC y bytes maxL ret') rm mc ms n) (hrecv : ∃ cell : Cell, H[b]? = some cell ∧ cell.vm.isStatics = false ∧ s.vm.findClass C = some cell.cls) (hn : As.length = n) (hst : st = As.reverse ++ .ref b :: rest) (hW : (rest.map fun v => v.category).sum ≤ 8)
    (hdg : decode cc pc = .ok (.invokevirtual idx, 3)) (hf : cells + mc ≤ R.cells ∧ slots + ms ≤ R.slots) : va_Run p l e R s m args below meth c H locs cells slots mc ms (F0 m pc ls st) rest (Qc (Value.ref b :: As).toArray) free :=
  va_runV cx.1 hM cw ⟨wu_blind, hrecv, fun U hU hW => ⟨rfl, wu_at cx hp.1 U hU hW⟩⟩ rfl hn hl.1 hst (lv_room hW) hdg hf
theorem y_S {lv : List (Nat × Value)} {y : MethodName} {bytes : ByteArray} {maxL idx n mc ms : Nat} {ret' : Option FieldType} {rm : Room} {As : List Value} {Qc : Array Value → State → Outcome → State → Prop} {free : Addr → Prop} (cx : Cx E p s m meth c args own cc nL ret) (hp : Hp E σ s H locs) (hl : lv_has ls nL lv)
    (hM : Met l y (wC y bytes maxL ret') rm (va_Pc As (Wu E σ)) Qc mc ms free) (cw : CallB R s args own idx y bytes maxL ret' (wC y bytes maxL ret') rm mc ms n ∧ (Cond.static y).before args s = true) (hn : As.length = n) (hst : st = As.reverse ++ rest) (hW : (rest.map fun v => v.category).sum ≤ 8)
    (hdg : decode cc pc = .ok (.invokestatic idx, 3)) (hf : cells + mc ≤ R.cells ∧ slots + ms ≤ R.slots) : va_Run p l e R s m args below meth c H locs cells slots mc ms (F0 m pc ls st) rest (Qc As.toArray) free :=
  va_runS cx.1 hM cw ⟨wu_blind, fun U hU hW => ⟨rfl, wu_at cx hp.1 U hU hW⟩⟩ rfl hn hl.1 hst (lv_room hW) hdg hf
theorem y_VN {lv : List (Nat × Value)} {y : MethodName} {bytes : ByteArray} {maxL idx n mc ms : Nat} {ret' : Option FieldType} {rm : Room} {C host : String} {b : Nat} {As : List Value} {Qc : Array Value → State → Outcome → State → Prop} {free : Addr → Prop} (cx : Cx E p s m meth c args own cc nL ret) (hp : Hp E σ s H locs) (hl : lv_has ls nL lv)
    (hM : Met l y (wC y bytes maxL ret') rm (va_Pc (.ref b :: As) (Wu E σ)) Qc mc ms free) (cw : va_CN R s args own idx y host bytes maxL ret' (wC y bytes maxL ret') rm mc ms n ∧ (Cond.instanceMethod y).before args s = true ∧ (Cond.selects C y y).before args s = true) (hrecv : ∃ cell : Cell, H[b]? = some cell ∧ cell.vm.isStatics = false ∧ s.vm.findClass C = some cell.cls) (hn : As.length = n) (hst : st = As.reverse ++ .ref b :: rest) (hW : (rest.map fun v => v.category).sum ≤ 8)
    (hdg : decode cc pc = .ok (.invokevirtual idx, 3)) (hf : cells + mc ≤ R.cells ∧ slots + ms ≤ R.slots) : va_Run p l e R s m args below meth c H locs cells slots mc ms (F0 m pc ls st) rest (Qc (Value.ref b :: As).toArray) free :=
  va_runVN cx.1 hM cw ⟨wu_blind, hrecv, fun U hU hW => ⟨rfl, wu_at cx hp.1 U hU hW⟩⟩ rfl hn hl.1 hst (lv_room hW) hdg hf
theorem y_SN {lv : List (Nat × Value)} {y : MethodName} {bytes : ByteArray} {maxL idx n mc ms : Nat} {ret' : Option FieldType} {rm : Room} {host : String} {As : List Value} {Qc : Array Value → State → Outcome → State → Prop} {free : Addr → Prop} (cx : Cx E p s m meth c args own cc nL ret) (hp : Hp E σ s H locs) (hl : lv_has ls nL lv)
    (hM : Met l y (wC y bytes maxL ret') rm (va_Pc As (Wu E σ)) Qc mc ms free) (cw : va_CN R s args own idx y host bytes maxL ret' (wC y bytes maxL ret') rm mc ms n ∧ (Cond.static y).before args s = true ∧ True) (hn : As.length = n) (hst : st = As.reverse ++ rest) (hW : (rest.map fun v => v.category).sum ≤ 8)
    (hdg : decode cc pc = .ok (.invokestatic idx, 3)) (hf : cells + mc ≤ R.cells ∧ slots + ms ≤ R.slots) : va_Run p l e R s m args below meth c H locs cells slots mc ms (F0 m pc ls st) rest (Qc As.toArray) free :=
  va_runSN cx.1 hM cw ⟨wu_blind, fun U hU hW => ⟨rfl, wu_at cx hp.1 U hU hW⟩⟩ rfl hn hl.1 hst (lv_room hW) hdg hf
/-- a name for what lies on the stack -/
theorem lv_nm {x y : Int32} (h : x = y) (k : W p l e R s m args below meth c H locs cells slots Q (F0 m pc ls (.int y :: rest))) : W p l e R s m args below meth c H locs cells slots Q (F0 m pc ls (.int x :: rest)) := by rw [h]; exact k
theorem lv_nml {x y : Int64} (h : x = y) (k : W p l e R s m args below meth c H locs cells slots Q (F0 m pc ls (.long y :: rest))) : W p l e R s m args below meth c H locs cells slots Q (F0 m pc ls (.long x :: rest)) := by rw [h]; exact k
/-- the receiver's class -/
theorem rc_o (cx : Cx E p s m meth c args own cc nL ret) (hp : Hp E σ s H locs) {o ci : Nat} {q : vw_C} {fs : List Value} (hd : dec (lin o 0) = (o, 0)) (hn : lin o 0 < eN E) (hc : vwCl[ci]? = some q) (hx : celX E o 0 (σ o) = .inr (ci, fs)) : ∃ cell : Cell, H[adr E o 0]? = some cell ∧ cell.vm.isStatics = false ∧ s.vm.findClass q.1 = some cell.cls :=
  va_recv cx.2.2.1.2.1 hp.1.1 hc ((ws_at hd hn rfl).trans (by rw [hx]))
end BASE

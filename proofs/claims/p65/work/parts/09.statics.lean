/-! what stood at the law's start, seen from a method's own start -/
section STAT
variable {p : Program} {l : Launch} {e : Env} {R : Room} {s : State} {m : MethodId} {args : Array Value} {below : List Frame} {meth : Method} {c : Code} {H : Heap} {locs : List Loc} {cells slots : Nat} {Q : State → Prop}
variable {E : Ev} {σ : SM} {own : String} {cc : ByteArray} {nL pc : Nat} {ret : Option FieldType} {ls : Array Slot} {rest st : List Value}
theorem zS (cx : Cx E p s m meth c args own cc nL ret) {C n d : String} {v : Value} (h : va_Z C n d v (eA E) (eS E) (eS E).heap) : va_Z C n d v (eA E) s s.heap := (va_Z.moved cx.2.2.1.1 h).kept (fun a h1 _ => cx.2.2.2.2.1 a h1)
theorem zqS (cx : Cx E p s m meth c args own cc nL ret) {C n d : String} (h : va_Zq C n d (eA E) (eS E) (eS E).heap) : va_Zq C n d (eA E) s s.heap := (va_Zq.moved cx.2.2.1.1 h).kept (fun a h1 _ => cx.2.2.2.2.1 a h1)
theorem zvS (cx : Cx E p s m meth c args own cc nL ret) {C n d : String} (h : va_Zq C n d (eA E) (eS E) (eS E).heap) : ∃ v : Value, va_Z C n d v (eA E) s s.heap ∧ v.category = 1 := by
  rcases zqS cx h with h | ⟨t, h⟩
  · exact ⟨.null, h, rfl⟩
  · exact ⟨.ref t, h, rfl⟩
theorem tS (cx : Cx E p s m meth c args own cc nL ret) {ty : FieldType} {t N : Nat} {f : Nat → Value} (h : va_T ty t N f (eA E) (eS E) (eS E).heap) : va_T ty t N f (eA E) s s.heap := (va_T.moved cx.2.2.1.1 h).kept (fun a h1 _ => cx.2.2.2.2.1 a h1)
theorem oS (cx : Cx E p s m meth c args own cc nL ret) {C : String} {t : Nat} (h : va_O C t (eA E) (eS E) (eS E).heap) : va_O C t (eA E) s s.heap := (va_O.moved cx.2.2.1.1 h).kept (fun a h1 _ => cx.2.2.2.2.1 a h1)
theorem ofS (cx : Cx E p s m meth c args own cc nL ret) {o n d : String} {v : Value} {t : Nat} (h : va_OF o n d v t (eA E) (eS E) (eS E).heap) : va_OF o n d v t (eA E) s s.heap := (va_OF.moved cx.2.2.1.1 h).kept (fun a h1 _ => cx.2.2.2.2.1 a h1)
/-- the class of an object that nobody writes -/
theorem rcS (cx : Cx E p s m meth c args own cc nL ret) (hp : Hp E σ s H locs) {C : String} {t : Nat} (h : va_O C t (eA E) (eS E) (eS E).heap) : ∃ cell : Cell, H[t]? = some cell ∧ cell.vm.isStatics = false ∧ s.vm.findClass C = some cell.cls := by
  obtain ⟨cell, h1, h2, h3, -⟩ := (oS cx h).kept hp.2.2.1
  exact ⟨cell, h1, h2, h3⟩
/-- a field of it, by a nest mate -/
theorem vk_getfN (hexec : p.tables.exec = Jvm.exec) (hb : c.code = cc) {A : Nat → Prop} {o n d own ref host : String} {index q : Nat} {v : Value} (hE : va_OF o n d v q A s s.heap) (hS : va_S A s.heap H locs) (hown : s.vm.findClass own = some m.cls) (hlink : (Cond.fieldLinkNest own index ref n d host).before args s = true) (hsame : ∀ x, s.fieldFound? o n d = some x → s.fieldFound? ref n d = some x) (hdg : decode cc pc = .ok (.getfield index, 3))
    (kk : W p l e R s m args below meth c H locs cells slots Q (F0 m (pc + 3) ls (v :: rest))) : W p l e R s m args below meth c H locs cells slots Q (F0 m pc ls (.ref q :: rest)) := by
  obtain ⟨cf, kf, fi, f, cell, h1, h2, h3, h4, h5, h6⟩ := hE.kept hS.2.1
  exact va_Wgetf hexec hb hown hlink (hsame _ h1) h2 h3 h4 (v := v) h5 rfl rfl hdg kk
/-- an entry of a table of references that nobody writes -/
theorem va_tr (hexec : p.tables.exec = Jvm.exec) (hb : c.code = cc) {A : Nat → Prop} {C : String} {t N : Nat} {f : Nat → Value} (hT : va_T (.object C) t N f A s s.heap) (hS : va_S A s.heap H locs) {i : Int32} (hin : vp_in i N) {v : Value} (hv : f i.toNatClampNeg = v) (hdg : decode cc pc = .ok (.aaload, 1))
    (kk : W p l e R s m args below meth c H locs cells slots Q (F0 m (pc + 1) ls (v :: rest))) : W p l e R s m args below meth c H locs cells slots Q (F0 m pc ls (.int i :: .ref t :: rest)) := by
  obtain ⟨cell, h1, h2, h3, h4, h5, h6, h7⟩ := hT
  have hlt : i.toNatClampNeg < N := Nat.not_le.mp fun q => hin (Or.inr q)
  have hin' : ¬ (i < 0 ∨ cell.slots.size ≤ i.toNatClampNeg) := by
    intro q
    rcases q with q | q
    · exact hin (Or.inl q)
    · omega
  exact W.aald (v := v) (ty := .object C) hexec hb (by rw [hS.2.1 t (Array.getElem?_eq_some_iff.mp h1).1 h7]; exact h1) h2 rfl h3 hin' (by rw [h6 _ hlt, hv]) rfl rfl hdg kk
/-- a wide load of a text -/
theorem va_ldcSw (hexec : p.tables.exec = Jvm.exec) (hb : c.code = cc) {own tx : String} {index q : Nat} (hown : s.vm.findClass own = some m.cls) (hZ : vk_R own index tx q s) (hdg : decode cc pc = .ok (.ldc_w index, 3))
    (k : W p l e R s m args below meth c H locs cells slots Q (F0 m (pc + 3) ls (.ref q :: rest))) : W p l e R s m args below meth c H locs cells slots Q (F0 m pc ls rest) := by
  intro T hT X
  obtain ⟨t, a1, b1⟩ := k T hT X
  exact ⟨t, ldcStringW X hexec hown (text := tx) (a := q) hZ.1 hZ.2 (g := F0 m pc ls rest) rfl (by rw [hb]; exact hdg) t a1, b1⟩
theorem y_U {lv : List (Nat × Value)} {x y : MethodName} {bytes : ByteArray} {maxL idx n mc ms : Nat} {ret' : Option FieldType} {rm : Room} {C owner : String} {b : Nat} {As : List Value} {Qc : Array Value → State → Outcome → State → Prop} {free : Addr → Prop} (cx : Cx E p s m meth c args own cc nL ret) (hp : Hp E σ s H locs) (hl : lv_has ls nL lv)
    (hM : Met l y (wC y bytes maxL ret') rm (va_Pc (.ref b :: As) (Wu E σ)) Qc mc ms free) (cw : va_CU R s args own C owner idx x y bytes maxL ret' (wC y bytes maxL ret') rm mc ms n) (hrecv : ∃ cell : Cell, H[b]? = some cell ∧ cell.vm.isStatics = false ∧ s.vm.findClass C = some cell.cls) (hn : As.length = n) (hst : st = As.reverse ++ .ref b :: rest) (hW : (rest.map fun v => v.category).sum ≤ 8)
    (hdg : decode cc pc = .ok (.invokevirtual idx, 3)) (hf : cells + mc ≤ R.cells ∧ slots + ms ≤ R.slots) : va_Run p l e R s m args below meth c H locs cells slots mc ms (F0 m pc ls st) rest (Qc (Value.ref b :: As).toArray) free :=
  va_runU cx.1 hM cw ⟨wu_blind, hrecv, fun U hU hW => ⟨rfl, wu_at cx hp.1 U hU hW⟩⟩ rfl hn hl.1 hst (lv_room hW) hdg hf
/-- the rows of references: the undo slots -/
theorem lA_X4_1 (hN : 129 ≤ eN E) (cx : Cx E p s m meth c args own cc nL ret) (hp : Hp E σ s H locs) {i : Int32} (hin : inb i 8 = true) (hdg : decode cc pc = .ok (.aaload, 1)) (kk : W p l e R s m args below meth c H locs cells slots Q (F0 m (pc + 1) ls (.ref (adr E (3 + i.toNatClampNeg) 0) :: rest))) : W p l e R s m args below meth c H locs cells slots Q (F0 m pc ls (.int i :: .ref (adr E 16 1) :: rest)) :=
  va_aldq (C := RX5) cx.1.1 cx.1.2.1 cx.2.2.1.2.1 hp.1.1 (lin 16 1) 4 (wo_16_1 (μ := σ 16) rfl hN) rfl (inb_vp hin) hdg kk
end STAT
theorem cz_n {v : Int32} (h : cz v = true) : narrow .char (.int v) = .int v := by
  have h1 : v = (v.toUInt32 % 65536).toInt32 := by simpa [cz] using h
  rw [h1]
  exact pk_nc _
theorem us_x2 {σ u : SM} {a b : Nat} {μ ν : OM} (h1 : u a = μ) (h2 : u b = ν) (h3 : ∀ q, q ≠ a → q ≠ b → u q = σ q) : u = us (us σ a μ) b ν := by
  funext q
  by_cases hb : q = b
  · rw [hb, h2, us_s]
  · rw [us_n hb]
    by_cases ha : q = a
    · rw [ha, h1, us_s]
    · rw [us_n ha, h3 q ha hb]
theorem us_x3 {σ u : SM} {a b d : Nat} {μ ν ξ : OM} (h1 : u a = μ) (h2 : u b = ν) (h4 : u d = ξ) (h3 : ∀ q, q ≠ a → q ≠ b → q ≠ d → u q = σ q) : u = us (us (us σ a μ) b ν) d ξ := by
  funext q
  by_cases hd : q = d
  · rw [hd, h4, us_s]
  · rw [us_n hd]
    by_cases hb : q = b
    · rw [hb, h2, us_s]
    · rw [us_n hb]
      by_cases ha : q = a
      · rw [ha, h1, us_s]
      · rw [us_n ha, h3 q ha hb hd]
theorem nn64_vf {x : UInt64} (h : nn64 x = true) : vf_n64 x := by simpa [nn64, vf_n64] using h
theorem nn32_vf {x : UInt32} (h : nn32 x = true) : vf_n32 x := by simpa [nn32, vf_n32] using h
section DRET
variable {p : Program} {l : Launch} {e : Env} {R : Room} {s : State} {m : MethodId} {args : Array Value} {below : List Frame} {meth : Method} {c : Code} {H : Heap} {locs : List Loc} {cells slots : Nat} {Q : State → Prop}
variable {E : Ev} {σ : SM} {own : String} {cc : ByteArray} {nL pc : Nat} {ret : Option FieldType} {ls : Array Slot} {rest st : List Value}
theorem r_d (cx : Cx E p s m meth c args own cc nL (some .double)) (hp : Hp E σ s H locs) {post : UInt64 → SM → Prop} {v : UInt64} (hq : post v σ) (hdg : decode cc pc = .ok (.dreturn, 1)) : W p l e R s m args below meth c H locs cells slots (MQ below (va_Qd post (fun u t => Wu E u t) (eA E)) args s cells slots (eA E)) (F0 m pc ls [.double v]) :=
  W.dret cx.1.1 cx.1.2.1 cx.2.1.1 (fun t ht hW => ⟨⟨v, σ, rfl, hq, wu_at cx hp.1 t ht hW⟩, hp.2.F ht⟩) hp.2.2.2 hdg cx.2.1.2
theorem r_f (cx : Cx E p s m meth c args own cc nL (some .float)) (hp : Hp E σ s H locs) {post : UInt32 → SM → Prop} {v : UInt32} (hq : post v σ) (hdg : decode cc pc = .ok (.freturn, 1)) : W p l e R s m args below meth c H locs cells slots (MQ below (va_Qf post (fun u t => Wu E u t) (eA E)) args s cells slots (eA E)) (F0 m pc ls [.float v]) :=
  W.fret cx.1.1 cx.1.2.1 cx.2.1.1 (fun t ht hW => ⟨⟨v, σ, rfl, hq, wu_at cx hp.1 t ht hW⟩, hp.2.F ht⟩) hp.2.2.2 hdg cx.2.1.2
theorem x_d {a : Array Value} {post : UInt64 → SM → Prop} (hp : Hp E σ s H locs) (hr : va_Run p l e R s m args below meth c H locs cells slots 0 0 (F0 m pc ls st) rest (va_Qd post (fun u t => Wu E u t) (eA E) a) (eA E))
    (kk : ∀ (r : UInt64) (u : SM) (H1 : Heap) (locs1 : List Loc), post r u → Hp E u s H1 locs1 → W p l e R s m args below meth c H1 locs1 cells slots Q (F0 m (pc + 3) ls (.double r :: rest))) : W p l e R s m args below meth c H locs cells slots Q (F0 m pc ls st) :=
  va_calld hr hp.2 (fun _ _ h => h) (fun _ h => h) (fun r u t H1 locs1 ht _ hw hB _ _ hS => kk r u H1 locs1 hw ⟨ht ▸ hB.2, hS⟩)
theorem x_f {a : Array Value} {post : UInt32 → SM → Prop} (hp : Hp E σ s H locs) (hr : va_Run p l e R s m args below meth c H locs cells slots 0 0 (F0 m pc ls st) rest (va_Qf post (fun u t => Wu E u t) (eA E) a) (eA E))
    (kk : ∀ (r : UInt32) (u : SM) (H1 : Heap) (locs1 : List Loc), post r u → Hp E u s H1 locs1 → W p l e R s m args below meth c H1 locs1 cells slots Q (F0 m (pc + 3) ls (.float r :: rest))) : W p l e R s m args below meth c H locs cells slots Q (F0 m pc ls st) :=
  va_callf hr hp.2 (fun _ _ h => h) (fun _ h => h) (fun r u t H1 locs1 ht _ hw hB _ _ hS => kk r u H1 locs1 hw ⟨ht ▸ hB.2, hS⟩)
end DRET
theorem inb_lt {i : Int32} {n : Nat} (h : inb i n = true) : i.toNatClampNeg < n := Nat.not_le.mp fun q => inb_vp h (Or.inr q)
theorem i_ne {x y : Int32} {n : Int} (h : ¬ x = y) (hn : y.toInt = n) : x.toInt ≠ n := fun q => h (Int32.toInt_inj.mp (q.trans hn.symm))
theorem lg_v3 (a b : Int32) {v : Value} (h : v.category = 1) : (lg_sl [.int a, .int b, v]).length ≤ 3 := by
  cases v <;> first | exact Nat.le_of_ble_eq_true rfl | cases h

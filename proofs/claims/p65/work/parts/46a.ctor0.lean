/-! worlds by the list of their cells: what constructors make -/
theorem vx_lt {D : va_G} {cl : List vw_C} {ws : va_W} {H1 : Heap} (h : va_P D cl ws H1) {k : Nat} {q : Nat × va_E} (hk : ws[k]? = some q) : q.1 < H1.size := (h k q hk).lt
def Wl (E : Ev) (L : va_W) (H : Heap) : Prop := va_P (eD E) vwCl L H ∧ va_D (eA E) L ∧ (eS E).heap.size ≤ H.size ∧ (∀ q, q < (eS E).heap.size → H[q]? = (eS E).heap[q]?) ∧ eN E ≤ 151
def Wul (E : Ev) (L : va_W) (U : State) : Prop := ((eS E).vm.Alike U.vm ∧ va_K (eD E) vwCl (tysE E) U ∧ Kx E U) ∧ Wl E L U.heap
def Hl (E : Ev) (L : va_W) (s : State) (H : Heap) (locs : List Loc) : Prop := Wl E L H ∧ va_S (eA E) s.heap H locs
theorem wul_blind {E : Ev} {L : va_W} {av : List Value} : FrameBlind (va_Pc av (Wul E L)) := fun a U g mk q => ⟨q.1, ⟨q.2.1.1, va_K.moved (u := U) (U := U.calling g mk a) (Vm.Alike.refl U.vm) q.2.1.2.1, Kx.same (s := U) (U := U.calling g mk a) rfl q.2.1.2.2⟩, q.2.2⟩
theorem ra_u {U : State} {c c' : ClassId} {ty : FieldType} (h : va_RA U c ty) (h' : va_RA U c' ty) : c = c' := by
  cases ty <;> first
    | exact Option.some.inj (Eq.trans (Eq.symm h) h')
    | (obtain ⟨_, _, _, _, _, e⟩ := h; obtain ⟨_, _, _, _, _, e'⟩ := h'; exact Option.some.inj (e.symm.trans e'))
theorem sg_at {α : Type} (L seg : List α) (k : Nat) : (L ++ seg)[L.length + k]? = seg[k]? := by
  rw [List.getElem?_append_right (Nat.le_add_right _ _), Nat.add_sub_cancel_left]
theorem sg_set {α : Type} (L seg : List α) (k : Nat) (x : α) : (L ++ seg).set (L.length + k) x = L ++ seg.set k x := by
  rw [List.set_append, if_neg (by omega), Nat.add_sub_cancel_left]
theorem Hl.assoc {E : Ev} {L a b : va_W} {s : State} {H : Heap} {locs : List Loc} (h : Hl E ((L ++ a) ++ b) s H locs) : Hl E (L ++ (a ++ b)) s H locs := by
  rw [List.append_assoc] at h
  exact h
/-- what is known of the object arrays' classes -/
def AO (E : Ev) : Prop := va_AO "StallMarket$Verb" (eS E) ∧ va_AO "StallMarket$Market" (eS E) ∧ va_AOA .int (eS E)
section CTOR
variable {p : Program} {l : Launch} {e : Env} {R : Room} {s : State} {m : MethodId} {args : Array Value} {below : List Frame} {meth : Method} {c : Code} {H : Heap} {locs : List Loc} {cells slots : Nat} {Q : State → Prop}
variable {E : Ev} {L seg : va_W} {own : String} {cc : ByteArray} {nL pc : Nat} {ret : Option FieldType} {ls : Array Slot} {rest st : List Value}
theorem wul_at (cx : Cx E p s m meth c args own cc nL ret) (hp : Wl E L H) : ∀ U : State, U.heap = H → s.WarmedH U.vm → Wul E L U := fun U hU hW => ⟨⟨cx.2.2.1.1.trans hW.alike, va_K.moved hW.alike cx.2.2.1.2.1, cx.2.2.1.2.2.warm hW⟩, by rw [hU]; exact hp⟩
theorem hl_new (cx : Cx E p s m meth c args own cc nL ret) (hP : va_P (eD E) vwCl L H) (hD : va_D (eA E) L) (hS : va_S (eA E) s.heap H locs) : Hl E L s H locs := by
  obtain ⟨-, -, -, hz, ho, hN⟩ := cx
  exact ⟨⟨hP, hD, Nat.le_trans hz hS.1, fun q hq => (hS.2.1 q (Nat.lt_of_lt_of_le hq hz) (Nat.not_le.mpr hq)).trans (ho q hq), hN⟩, hS⟩
theorem gI_entry {y : MethodName} {maxL : Nat} {rm : Room} {av : List Value} {lv : List (Nat × Value)} {Qc : Array Value → State → Outcome → State → Prop} {mc ms : Nat} {free : Addr → Prop} (hy : plainName y.cls = true) (hl : (lg_sl av).length ≤ maxL) (hlv : lv_args 0 av = lv)
    (body : ∀ (p : Program) (e : Env) (s : State) (m : MethodId) (below : List Frame) (meth : Method) (c : Code), Cx E p s m meth c av.toArray y.cls cc maxL ret → meth.name = y.name → Hl E L s s.heap [] → ∀ ls : Array Slot, lv_has ls maxL lv → W p l e rm s m av.toArray below meth c s.heap [] 0 0 (MQ below Qc av.toArray s mc ms free) (F0 m 0 ls [])) : Met l y (wC y cc maxL ret) rm (va_Pc av (Wul E L)) Qc mc ms free := by
  refine Met.ofW (cc := cc) (maxL := maxL) (ret := ret) hy rfl ?_
  intro p e s m args below meth c s₁ B hml hv
  obtain ⟨rfl, hal, hp⟩ := hv
  have hts := atoms_spec (ws := wC y cc maxL ret) B.pre
  have h := body p e s m below meth c ⟨⟨B.exec, B.bytes, hml, findClass_of_methodNamed B.named, fun w hw => hts w (List.mem_cons_of_mem _ hw)⟩, ⟨B.returns, B.notSynchronized⟩, hal, hp.2.2⟩ (name_of_methodNamed B.named B.method).1 ⟨hp, va_S.rf⟩ _ (hlv ▸ lv_entry av hl)
  rw [lg_entry_eq]
  exact h
theorem oiJ {a idx : Nat} (cx : Cx E p s m meth c args own cc nL ret) (hlink : Cond.methodLink own idx ⟨"java/lang/Object", "<init>", "()V"⟩ ∈ TB) (hl : ls.size = nL) (hdg : decode cc pc = .ok (.invokespecial idx, 3)) (hR : 1 ≤ R.frames) (hR2 : (rest.map fun v => v.category).sum + 12 ≤ R.locals) (kk : W p l e R s m args below meth c H locs cells slots Q (F0 m (pc + 3) ls rest)) : W p l e R s m args below meth c H locs cells slots Q (F0 m pc ls (.ref a :: rest)) :=
  W.objInit cx.1.1 cx.1.2.1 cx.1.2.2.2.1 (cx.1.2.2.2.2 _ hlink) (cx.1.2.2.2.2 _ qI_java_lang_Object__init____V) (cx.1.2.2.2.2 _ qC_java_lang_Object__init____V) rfl (hl.trans cx.1.2.2.1.symm) rfl hdg hR (by show 2 * 0 + _ + 12 ≤ _; omega) kk
theorem rI {S : Type} (cx : Cx E p s m meth c args own cc nL none) (hp : Hl E L s H locs) {post : S → Prop} {B : S → State → Prop} {u : S} (hq : post u) (hB : ∀ t : State, Wul E L t → B u t) (hdg : decode cc pc = .ok (.return_, 1)) : W p l e R s m args below meth c H locs cells slots (MQ below (va_Qv post B (eA E)) args s cells slots (eA E)) (F0 m pc ls []) :=
  W.vret cx.1.1 cx.1.2.1 cx.2.1.1 (fun t ht hW => ⟨⟨u, rfl, hq, hB t (wul_at cx hp.1 t ht hW)⟩, hp.2.F ht⟩) hp.2.2.2 hdg cx.2.1.2
theorem xI {S : Type} {a : Array Value} {mc ms : Nat} {L1 : S → va_W} {post : S → Prop} (hp : Hl E L s H locs) (hr : va_Run p l e R s m args below meth c H locs cells slots mc ms (F0 m pc ls st) rest (va_Qv post (fun u t => Wul E (L1 u) t) (eA E) a) (eA E))
    (kk : ∀ (u : S) (H1 : Heap) (locs1 : List Loc), post u → Hl E (L1 u) s H1 locs1 → W p l e R s m args below meth c H1 locs1 (cells + mc) (slots + ms) Q (F0 m (pc + 3) ls rest)) : W p l e R s m args below meth c H locs cells slots Q (F0 m pc ls st) :=
  va_callv hr hp.2 (fun _ _ h => h) (fun _ h => h) (fun u t H1 locs1 ht _ hw hB _ _ hS => kk u H1 locs1 hw ⟨ht ▸ hB.2, hS⟩)
theorem y_IN {lv : List (Nat × Value)} {y : MethodName} {bytes : ByteArray} {maxL idx n mc ms : Nat} {rm : Room} {host : String} {b : Nat} {As : List Value} {Qc : Array Value → State → Outcome → State → Prop} {free : Addr → Prop} (cx : Cx E p s m meth c args own cc nL ret) (hp : Hl E L s H locs) (hl : lv_has ls nL lv)
    (hM : Met l y (wC y bytes maxL none) rm (va_Pc (.ref b :: As) (Wul E L)) Qc mc ms free) (cw : va_CN R s args own idx y host bytes maxL none (wC y bytes maxL none) rm mc ms n ∧ y.name = "<init>" ∧ (Cond.instanceMethod y).before args s = true) (hn : As.length = n) (hst : st = As.reverse ++ .ref b :: rest) (hW : (rest.map fun v => v.category).sum ≤ 8)
    (hdg : decode cc pc = .ok (.invokespecial idx, 3)) (hf : cells + mc ≤ R.cells ∧ slots + ms ≤ R.slots) : va_Run p l e R s m args below meth c H locs cells slots mc ms (F0 m pc ls st) rest (Qc (Value.ref b :: As).toArray) free :=
  va_runIN cx.1 hM cw ⟨wul_blind, fun U hU hW => ⟨rfl, wul_at cx hp.1 U hU hW⟩⟩ rfl hn hl.1 hst (lv_room hW) hdg hf
theorem y_I {lv : List (Nat × Value)} {y : MethodName} {bytes : ByteArray} {maxL idx n mc ms : Nat} {rm : Room} {b : Nat} {As : List Value} {Qc : Array Value → State → Outcome → State → Prop} {free : Addr → Prop} (cx : Cx E p s m meth c args own cc nL ret) (hp : Hl E L s H locs) (hl : lv_has ls nL lv)
    (hM : Met l y (wC y bytes maxL none) rm (va_Pc (.ref b :: As) (Wul E L)) Qc mc ms free) (cw : CallB R s args own idx y bytes maxL none (wC y bytes maxL none) rm mc ms n ∧ y.name = "<init>" ∧ (Cond.instanceMethod y).before args s = true) (hn : As.length = n) (hst : st = As.reverse ++ .ref b :: rest) (hW : (rest.map fun v => v.category).sum ≤ 8)
    (hdg : decode cc pc = .ok (.invokespecial idx, 3)) (hf : cells + mc ≤ R.cells ∧ slots + ms ≤ R.slots) : va_Run p l e R s m args below meth c H locs cells slots mc ms (F0 m pc ls st) rest (Qc (Value.ref b :: As).toArray) free :=
  va_runI cx.1 hM cw ⟨wul_blind, fun U hU hW => ⟨rfl, wul_at cx hp.1 U hU hW⟩⟩ rfl hn hl.1 hst (lv_room hW) hdg hf
/-- a new row -/
theorem hl_newa (cx : Cx E p s m meth c args own cc nL ret) (hp : Hl E L s H locs) {atype : ArrayType} {ty : FieldType} (hty : newarray.typeOf atype = ty) (t0 : Nat) {cA : ClassId} (ht : (tysE E)[t0]? = some (cA, ty)) (harr : Cond.arrayClass (newarray.typeOf atype) ∈ TB) {n : Int32} {N' : Nat} (a0 : vp_A) (ha : ∀ cA : ClassId, vp_cell cA a0 = arrV cA N' (fun _ => defaultValue ty)) (hn : ¬ n < 0) (hN : n.toNatClampNeg = N') (hbytes : N' * componentBytes ty ≤ 536870912) (hcells : cells + 1 ≤ R.cells) (hslots : slots + N' ≤ R.slots) (hdg : decode cc pc = .ok (.newarray atype, 2))
    (kk : ∀ (q : Nat) (H1 : Heap), Hl E (L ++ [(q, .inl (cA, a0))]) s H1 locs → W p l e R s m args below meth c H1 locs (cells + 1) (slots + N') Q (F0 m (pc + 2) ls (.ref q :: rest))) : W p l e R s m args below meth c H locs cells slots Q (F0 m pc ls (.int n :: rest)) := by
  refine va_newa cx.1.1 cx.1.2.1 (cx.1.2.2.2.2 _ harr) hty cx.2.2.1.2.1 hp.1.1 hp.1.2.1 hp.2 (fun q h => Nat.le_trans cx.2.2.2.1 h) ha hn hN hbytes hcells hslots hdg (fun q cA' H1 hK hP hD hS => ?_)
  have e1 : va_RA s cA' ty := (hK.2 7 (cA', ty) rfl).2
  have e2 : va_RA s cA ty := (cx.2.2.1.2.1.2 t0 _ ht).2
  obtain rfl := ra_u e1 e2
  exact kk q H1 (hl_new cx hP hD hS)
theorem hl_newq (cx : Cx E p s m meth c args own cc nL ret) (hp : Hl E L s H locs) {C : String} {index : Nat} (hclink : Cond.classLink own index C ∈ TB) (hover : va_AO C s) (t0 : Nat) {cA : ClassId} (ht : (tysE E)[t0]? = some (cA, .object C)) {n : Int32} {N' : Nat} (hn : ¬ n < 0) (hN : n.toNatClampNeg = N') (hbytes : N' * 4 ≤ 536870912) (hcells : cells + 1 ≤ R.cells) (hslots : slots + N' ≤ R.slots) (hdg : decode cc pc = .ok (.anewarray index, 3))
    (kk : ∀ (q : Nat) (H1 : Heap), Hl E (L ++ [(q, .inl (cA, N', .inr (.inr (.inr (.inr (fun _ => none))))))]) s H1 locs → W p l e R s m args below meth c H1 locs (cells + 1) (slots + N') Q (F0 m (pc + 3) ls (.ref q :: rest))) : W p l e R s m args below meth c H locs cells slots Q (F0 m pc ls (.int n :: rest)) := by
  refine va_newq cx.1.1 cx.1.2.1 cx.1.2.2.2.1 (cx.1.2.2.2.2 _ hclink) hover cx.2.2.1.2.1 hp.1.1 hp.1.2.1 hp.2 (fun q h => Nat.le_trans cx.2.2.2.1 h) hn hN hbytes hcells hslots hdg (fun q cA' H1 hK hP hD hS => ?_)
  have e1 : va_RA s cA' (.object C) := (hK.2 7 (cA', .object C) rfl).2
  have e2 : va_RA s cA (.object C) := (cx.2.2.1.2.1.2 t0 _ ht).2
  obtain rfl := ra_u e1 e2
  exact kk q H1 (hl_new cx hP hD hS)
/-- a new object -/
theorem hl_newo (cx : Cx E p s m meth c args own cc nL ret) (hp : Hl E L s H locs) {C : String} {T : u_T} {N ci index : Nat} (hin : ∀ w ∈ u_ws C T N, w ∈ TB) (ty : Nat → FieldType) (hty : ∀ k, k < N → parseFieldDescriptor (T k).2.2.1 = some (ty k)) (hcl : Cond.classLink own index C ∈ TB) (hinst : Cond.instantiable C N ∈ TB) (hini : Cond.initialized C ∈ TB) (hc : vwCl[ci]? = some (C, T, N)) {fs : List Value} (hfs : ∀ j, j < N → defaultValue (ty j) = vp_V fs j) (hcells : cells + 1 ≤ R.cells) (hslots : slots + N ≤ R.slots) (hdg : decode cc pc = .ok (.new index, 3))
    (kk : ∀ (q : Nat) (H1 : Heap), Hl E (L ++ [(q, .inr (ci, fs))]) s H1 locs → W p l e R s m args below meth c H1 locs (cells + 1) (slots + N) Q (F0 m (pc + 3) ls (.ref q :: rest))) : W p l e R s m args below meth c H locs cells slots Q (F0 m pc ls rest) :=
  va_new (ci := ci) (fs := fs) (C := C) (T := T) (N := N) cx.1.1 cx.1.2.1 cx.1.2.2.2.2 hin ty hty cx.1.2.2.2.1 (cx.1.2.2.2.2 _ hcl) (cx.1.2.2.2.2 _ hinst) (cx.1.2.2.2.2 _ hini) cx.2.2.1.2.1 hp.1.1 hp.1.2.1 hp.2 (fun q h => Nat.le_trans cx.2.2.2.1 h) hc hfs hcells hslots hdg (fun q H1 hP hD hS => kk q H1 (hl_new cx hP hD hS))
/-- a field of an object that stands behind L -/
theorem hl_putF {a : Nat} (cx : Cx E p s m meth c args own cc nL ret) (hnm : meth.name = "<init>") (hp : Hl E (L ++ seg) s H locs) (j : Nat) {C : String} {T : u_T} {N ci index : Nat} {fs : List Value} (he : seg[j]? = some (a, .inr (ci, fs))) (hc : vwCl[ci]? = some (C, T, N)) (hin : ∀ w ∈ u_ws C T N, w ∈ TB) (ty0 : Nat → FieldType) (hty : ∀ k, k < N → parseFieldDescriptor (T k).2.2.1 = some (ty0 k)) (hap : ∀ a, a < N → ∀ b, b < N → a ≠ b → (T a).2.1 ≠ (T b).2.1) (k : Nat) (hk : k < N) (hlink : Cond.fieldLink own index C (T k).2.1 (T k).2.2.1 ∈ TB) (hsame : (T k).1 = C) (hfin : (T k).2.2.2 = true) (hdecl : (T k).1 = own) {ty : FieldType} {v : Value} (hd : parseFieldDescriptor (T k).2.2.1 = some ty) (hn : narrow ty v = v) (hfit : fits ty v = true) (hlf : k < fs.length) (hdg : decode cc pc = .ok (.putfield index, 3))
    (kk : ∀ (H1 : Heap) (locs1 : List Loc), Hl E (L ++ seg.set j (a, .inr (ci, fs.set k v))) s H1 locs1 → W p l e R s m args below meth c H1 locs1 cells slots Q (F0 m (pc + 3) ls rest)) : W p l e R s m args below meth c H locs cells slots Q (F0 m pc ls (v :: .ref a :: rest)) :=
  va_putF (D := eD E) (ci := ci) (C := C) (T := T) (N := N) cx.1.1 cx.1.2.1 cx.1.2.2.2.2 hin ty0 hty hap cx.1.2.2.2.1 cx.2.2.1.2.1 hp.1.1 hp.1.2.1 hp.2 (L.length + j) ((sg_at L seg j).trans he) hc k hk (cx.1.2.2.2.2 _ hlink) (fun _ h => by rw [hsame] at h; exact h) hfin hnm hdecl (ty := ty) (v := v) hd hn hfit hlf hdg (fun H1 locs1 hP hD hS => kk H1 locs1 (by rw [sg_set] at hP hD; exact hl_new cx hP hD hS))
theorem hl_put {a : Nat} (cx : Cx E p s m meth c args own cc nL ret) (hp : Hl E (L ++ seg) s H locs) (j : Nat) {C : String} {T : u_T} {N ci index : Nat} {fs : List Value} (he : seg[j]? = some (a, .inr (ci, fs))) (hc : vwCl[ci]? = some (C, T, N)) (hin : ∀ w ∈ u_ws C T N, w ∈ TB) (ty0 : Nat → FieldType) (hty : ∀ k, k < N → parseFieldDescriptor (T k).2.2.1 = some (ty0 k)) (hap : ∀ a, a < N → ∀ b, b < N → a ≠ b → (T a).2.1 ≠ (T b).2.1) (k : Nat) (hk : k < N) (hlink : Cond.fieldLink own index C (T k).2.1 (T k).2.2.1 ∈ TB) (hsame : (T k).1 = C) (hfin : (T k).2.2.2 = false) {ty : FieldType} {v : Value} (hd : parseFieldDescriptor (T k).2.2.1 = some ty) (hn : narrow ty v = v) (hfit : fits ty v = true) (hlf : k < fs.length) (hdg : decode cc pc = .ok (.putfield index, 3))
    (kk : ∀ (H1 : Heap) (locs1 : List Loc), Hl E (L ++ seg.set j (a, .inr (ci, fs.set k v))) s H1 locs1 → W p l e R s m args below meth c H1 locs1 cells slots Q (F0 m (pc + 3) ls rest)) : W p l e R s m args below meth c H locs cells slots Q (F0 m pc ls (v :: .ref a :: rest)) :=
  va_put (D := eD E) (ci := ci) (C := C) (T := T) (N := N) cx.1.1 cx.1.2.1 cx.1.2.2.2.2 hin ty0 hty hap cx.1.2.2.2.1 cx.2.2.1.2.1 hp.1.1 hp.1.2.1 hp.2 (L.length + j) ((sg_at L seg j).trans he) hc k hk (cx.1.2.2.2.2 _ hlink) (fun _ h => by rw [hsame] at h; exact h) hfin (ty := ty) (v := v) hd hn hfit hlf hdg (fun H1 locs1 hP hD hS => kk H1 locs1 (by rw [sg_set] at hP hD; exact hl_new cx hP hD hS))
end CTOR

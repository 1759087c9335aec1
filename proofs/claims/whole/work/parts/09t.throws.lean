/-! throws of the class: the class by its number -/
def xcls (k : Nat) : String := match k with
  | 0 => "java/lang/IllegalStateException"
  | 1 => "java/lang/IllegalArgumentException"
  | _ => "java/lang/IndexOutOfBoundsException"
def xnames : List String := ["java/lang/RuntimeException", "java/lang/Exception"]
def XWd (ik ic : Nat) (cls : String) : Prop := Cond.classLink RX12 ik cls ∈ TB ∧ Cond.initialized cls ∈ TB ∧ (∀ w ∈ vx_atS RX12 ic cls xnames, w ∈ TB ∨ w ∈ NB ∨ w ∈ DB) ∧ (∀ w ∈ Cond.classLink RX12 ik cls :: Cond.initialized cls :: vx_atS RX12 ic cls xnames, vx_ot w = true) ∧ Bundle.fit cls = true
theorem xw_split {L : List Cond} (h1 : ∀ w ∈ L.filter goodWord, w ∈ lw_tbl) (h2 : ∀ w ∈ L.filter (fun w => !goodWord w), w ∈ lw_tbl ∧ (nestWord w || declWord w) = true) : ∀ w ∈ L, w ∈ TB ∨ w ∈ NB ∨ w ∈ DB := by
  intro w hw
  cases g : goodWord w with
  | true => exact Or.inl (List.mem_filter.mpr ⟨h1 w (List.mem_filter.mpr ⟨hw, g⟩), g⟩)
  | false =>
    obtain ⟨a, b⟩ := h2 w (List.mem_filter.mpr ⟨hw, by simp [g]⟩)
    rcases Bool.or_eq_true _ _ ▸ b with b | b
    · exact Or.inr (Or.inl (List.mem_filter.mpr ⟨a, b⟩))
    · exact Or.inr (Or.inr (List.mem_filter.mpr ⟨a, b⟩))
theorem xw_0 : XWd 105 109 "java/lang/IllegalStateException" := ⟨qK_X12_105, qN_java_lang_IllegalStateException, xw_split (by decide +kernel) (by decide +kernel), by decide +kernel, by decide +kernel⟩
theorem xw_1 : XWd 115 119 "java/lang/IllegalArgumentException" := ⟨qK_X12_115, qN_java_lang_IllegalArgumentException, xw_split (by decide +kernel) (by decide +kernel), by decide +kernel, by decide +kernel⟩
theorem xw_2 : XWd 179 183 "java/lang/IndexOutOfBoundsException" := ⟨qK_X12_179, qN_java_lang_IndexOutOfBoundsException, xw_split (by decide +kernel) (by decide +kernel), by decide +kernel, by decide +kernel⟩
section THR
variable {p : Program} {l : Launch} {e : Env} {R : Room} {s : State} {m : MethodId} {args : Array Value} {below : List Frame} {meth : Method} {c : Code} {H : Heap} {locs : List Loc} {cells slots : Nat} {Q : State → Prop}
variable {E : Ev} {σ : SM} {own : String} {cc : ByteArray} {nL pc : Nat} {ret : Option FieldType} {ls : Array Slot} {rest st : List Value}
theorem wp_ext {H1 : Heap} (h : Wp E σ H) (hz : H.size ≤ H1.size) (hk : ∀ q : Nat, q < H.size → H1[q]? = H[q]?) : Wp E σ H1 :=
  ⟨h.1.kept (fun k q hq => hk q.1 (h.1 k q hq).lt), h.2.1, Nat.le_trans h.2.2.1 hz, fun q hq => (hk q (Nat.lt_of_lt_of_le hq h.2.2.1)).trans (h.2.2.2.1 q hq), h.2.2.2.2⟩
/-- the world that a thrown exception leaves -/
abbrev XT (E : Ev) (σ : SM) (zk : Nat → Prop) : String → State → State → Prop := vx_X zk (fun X k t => X = xcls k ∧ Wp E σ t.heap) (eA E)
theorem hat_of (cx : Cx E p s m meth c args own cc nL ret) {L : List Cond} (h : ∀ w ∈ L, w ∈ TB ∨ w ∈ NB ∨ w ∈ DB) : ∀ w ∈ L, w.before args s = true := by
  intro w hw
  rcases h w hw with h | h | h
  · exact cx.1.2.2.2.2 w h
  · exact va_Nw.use (nb_tab h) (cx.2.2.1.2.2.1 w h)
  · exact va_Nw.use (db_tab h) (cx.2.2.1.2.2.2.2 w h)
theorem xtr (hp : Hp E σ s H locs) {zk : Nat → Prop} {k : Nat} (hz : zk k) : ∀ t : State, s.vm.Alike t.vm → H.size ≤ t.heap.size → (∀ q : Nat, q < H.size → t.heap[q]? = H[q]?) → XT E σ zk (xcls k) s t :=
  fun t _ hz1 hk => ⟨k, hz, ⟨rfl, wp_ext hp.1 hz1 hk⟩, Nat.le_trans hp.2.1 hz1, fun q h1 h2 => (hk q (Nat.lt_of_lt_of_le h1 hp.2.1)).trans (hp.2.2.1 q h1 h2)⟩
theorem t_S (hlf : l.stackTraces = false) (hT : St E) (cx : Cx E p s m meth c args RX12 cc nL ret) (hp : Hp E σ s H locs) (hsz : ls.size = nL) (hxt : ∀ x ∈ c.exceptionTable.toList, False) {k ik is ic : Nat} {text : String} {mc ms sa : Nat} {zk : Nat → Prop} {Qc : Array Value → State → Outcome → State → Prop}
    (hw : XWd ik ic (xcls k)) (hstr : vk_R RX12 is text sa s) (hz : zk k)
    (d0 : decode cc pc = .ok (.new ik, 3)) (d3 : decode cc (pc + 3) = .ok (.dup, 1)) (d4 : decode cc (pc + 4) = .ok (.ldc is, 2)) (d6 : decode cc (pc + 6) = .ok (.invokespecial ic, 3)) (d9 : decode cc (pc + 9) = .ok (.athrow, 1))
    (hR : 5 < R.frames ∧ (rest.map fun v => v.category).sum + 82 ≤ R.locals ∧ cells + 1 ≤ R.cells ∧ slots + 6 ≤ R.slots) (hc : cells + 1 ≤ mc) (hs : slots + 6 ≤ ms) :
    W p l e R s m args below meth c H locs cells slots (vx_MQ below Qc (XT E σ zk) args s mc ms (eA E)) (F0 m pc ls rest) :=
  vx_throwS (names := xnames) cx.1.1 cx.1.2.1 hlf cx.1.2.2.2.1 hw.2.2.2.2 (by decide +kernel) (cx.1.2.2.2.2 _ hw.1) (cx.1.2.2.2.2 _ hw.2.1) hstr (hat_of cx hw.2.2.1) hw.2.2.2.1 ((vx_Zq.moved cx.2.2.1.1 hT.2.2.1.1).kept (fun a h1 _ => cx.2.2.2.2.1 a h1)) ((vx_Zq.moved cx.2.2.1.1 hT.2.2.1.2).kept (fun a h1 _ => cx.2.2.2.2.1 a h1)) hp.2 (hsz.trans cx.1.2.2.1.symm) d0 d3 d4 d6 d9 (fun x hx => absurd (hxt x hx) id) hR.1 hR.2.1 hR.2.2.1 hR.2.2.2 cx.2.1.2 (xtr hp hz) hp.2.2.2 hc hs
theorem t_SW (hlf : l.stackTraces = false) (hT : St E) (cx : Cx E p s m meth c args RX12 cc nL ret) (hp : Hp E σ s H locs) (hsz : ls.size = nL) (hxt : ∀ x ∈ c.exceptionTable.toList, False) {k ik is ic : Nat} {text : String} {mc ms sa : Nat} {zk : Nat → Prop} {Qc : Array Value → State → Outcome → State → Prop}
    (hw : XWd ik ic (xcls k)) (hstr : vk_R RX12 is text sa s) (hz : zk k)
    (d0 : decode cc pc = .ok (.new ik, 3)) (d3 : decode cc (pc + 3) = .ok (.dup, 1)) (d4 : decode cc (pc + 4) = .ok (.ldc_w is, 3)) (d6 : decode cc (pc + 7) = .ok (.invokespecial ic, 3)) (d9 : decode cc (pc + 10) = .ok (.athrow, 1))
    (hR : 5 < R.frames ∧ (rest.map fun v => v.category).sum + 82 ≤ R.locals ∧ cells + 1 ≤ R.cells ∧ slots + 6 ≤ R.slots) (hc : cells + 1 ≤ mc) (hs : slots + 6 ≤ ms) :
    W p l e R s m args below meth c H locs cells slots (vx_MQ below Qc (XT E σ zk) args s mc ms (eA E)) (F0 m pc ls rest) :=
  vx_throwSW (names := xnames) cx.1.1 cx.1.2.1 hlf cx.1.2.2.2.1 hw.2.2.2.2 (by decide +kernel) (cx.1.2.2.2.2 _ hw.1) (cx.1.2.2.2.2 _ hw.2.1) hstr (hat_of cx hw.2.2.1) hw.2.2.2.1 ((vx_Zq.moved cx.2.2.1.1 hT.2.2.1.1).kept (fun a h1 _ => cx.2.2.2.2.1 a h1)) ((vx_Zq.moved cx.2.2.1.1 hT.2.2.1.2).kept (fun a h1 _ => cx.2.2.2.2.1 a h1)) hp.2 (hsz.trans cx.1.2.2.1.symm) d0 d3 d4 d6 d9 (fun x hx => absurd (hxt x hx) id) hR.1 hR.2.1 hR.2.2.1 hR.2.2.2 cx.2.1.2 (xtr hp hz) hp.2.2.2 hc hs
/-- a throwing method's entry -/
theorem gx_entry {y : MethodName} {maxL : Nat} {rm : Room} {av : List Value} {lv : List (Nat × Value)} {Qc : Array Value → State → Outcome → State → Prop} {XC : String → State → State → Prop} {mc ms : Nat} {free : Addr → Prop} (hy : plainName y.cls = true) (hl : (lg_sl av).length ≤ maxL) (hlv : lv_args 0 av = lv)
    (body : ∀ (p : Program) (e : Env) (s : State) (m : MethodId) (below : List Frame) (meth : Method) (c : Code), Cx E p s m meth c av.toArray y.cls cc maxL ret → (∀ x ∈ c.exceptionTable.toList, False) → Hp E σ s s.heap [] → ∀ ls : Array Slot, lv_has ls maxL lv → W p l e rm s m av.toArray below meth c s.heap [] 0 0 (vx_MQ below Qc XC av.toArray s mc ms free) (F0 m 0 ls [])) : vx_Met l y (wC y cc maxL ret) rm (va_Pc av (Wu E σ)) Qc XC mc ms free := by
  refine vx_ofW (cc := cc) (maxL := maxL) (ret := ret) hy rfl ?_
  intro p e s m args below meth c s₁ B hml hxt hv
  obtain ⟨rfl, hal, hp⟩ := hv
  have hts := atoms_spec (ws := wC y cc maxL ret) B.pre
  have h := body p e s m below meth c ⟨⟨B.exec, B.bytes, hml, findClass_of_methodNamed B.named, fun w hw => hts w (List.mem_cons_of_mem _ hw)⟩, ⟨B.returns, B.notSynchronized⟩, hal, hp.2.2⟩ hxt ⟨hp, va_S.rf⟩ _ (hlv ▸ lv_entry av hl)
  rw [lg_entry_eq]
  exact h
/-- a call of a method that may throw: it throws, and so does this one; or it returns -/
theorem zv_thr {a : Array Value} {zc : Nat ⊕ Unit} {zk : Nat → Prop} {k mc ms mc' ms' : Nat} {Qc : Array Value → State → Outcome → State → Prop} (cx : Cx E p s m meth c args own cc nL ret) (hxt : ∀ x ∈ c.exceptionTable.toList, False) (hp : Hp E σ s H locs) (hr : vx_Run p l e R s m args below meth c H locs cells slots mc ms (F0 m pc ls st) rest (va_Qv (fun u => zc = .inr () ∧ σ = u) (fun u t => Wu E u t) (eA E) a) (XT E σ (fun k => zc = .inl k)) (eA E))
    (hz : zc = .inl k) (hk : zk k) (hc : cells + mc ≤ mc') (hs : slots + ms ≤ ms') : W p l e R s m args below meth c H locs cells slots (vx_MQ below Qc (XT E σ zk) args s mc' ms' (eA E)) (F0 m pc ls st) := by
  refine vx_callv hr hp.2 (fun _ _ h => h) (fun _ h => h) (fun _ _ h => h) (fun X ce q9 u t H1 locs1 ht hvm hw hB hz1 hk1 hS h1 h2 h3 => ?_) (fun u t H1 locs1 ht _ hw hB _ _ hS => ?_)
  · obtain ⟨rfl, hB⟩ := hB
    cases hz.symm.trans hw
    rw [ht] at hB
    exact vx_out (fun x hx => absurd (hxt x hx) id) cx.2.1.2 h1 h2 h3 (fun t' ht' ha' => ⟨k, hk, ⟨rfl, by rw [ht']; exact hB⟩, by rw [ht']; exact hS.1, fun q h4 h5 => by rw [ht']; exact hS.2.1 q h4 h5⟩) hS.2.2 hc hs
  · cases hz.symm.trans hw.1
theorem zv_ok {a : Array Value} {zc : Nat ⊕ Unit} {mc ms : Nat} (hp : Hp E σ s H locs) (hr : vx_Run p l e R s m args below meth c H locs cells slots mc ms (F0 m pc ls st) rest (va_Qv (fun u => zc = .inr () ∧ σ = u) (fun u t => Wu E u t) (eA E) a) (XT E σ (fun k => zc = .inl k)) (eA E))
    (hz : zc = .inr ()) (kk : ∀ (H1 : Heap) (locs1 : List Loc), Hp E σ s H1 locs1 → W p l e R s m args below meth c H1 locs1 (cells + mc) (slots + ms) Q (F0 m (pc + 3) ls rest)) : W p l e R s m args below meth c H locs cells slots Q (F0 m pc ls st) := by
  refine vx_callv hr hp.2 (fun _ _ h => h) (fun _ h => h) (fun _ _ h => h) (fun X ce q9 u t H1 locs1 ht hvm hw hB hz1 hk1 hS h1 h2 h3 => ?_) (fun u t H1 locs1 ht _ hw hB _ _ hS => ?_)
  · cases hz.symm.trans hw
  · obtain ⟨-, rfl⟩ := hw
    exact kk H1 locs1 ⟨ht ▸ hB.2, hS⟩
theorem yx_V {lv : List (Nat × Value)} {y : MethodName} {bytes : ByteArray} {maxL idx n mc ms : Nat} {ret' : Option FieldType} {rm : Room} {C : String} {b : Nat} {As : List Value} {Qc : Array Value → State → Outcome → State → Prop} {XC : String → State → State → Prop} {free : Addr → Prop} (cx : Cx E p s m meth c args own cc nL ret) (hp : Hp E σ s H locs) (hl : lv_has ls nL lv)
    (hM : vx_Met l y (wC y bytes maxL ret') rm (va_Pc (.ref b :: As) (Wu E σ)) Qc XC mc ms free) (cw : CallW R s args own C idx y bytes maxL ret' (wC y bytes maxL ret') rm mc ms n) (hrecv : ∃ cell : Cell, H[b]? = some cell ∧ cell.vm.isStatics = false ∧ s.vm.findClass C = some cell.cls) (hn : As.length = n) (hst : st = As.reverse ++ .ref b :: rest) (hW : (rest.map fun v => v.category).sum ≤ 8)
    (hdg : decode cc pc = .ok (.invokevirtual idx, 3)) (hf : cells + mc ≤ R.cells ∧ slots + ms ≤ R.slots) : vx_Run p l e R s m args below meth c H locs cells slots mc ms (F0 m pc ls st) rest (Qc (Value.ref b :: As).toArray) XC free :=
  vx_runV cx.1 hM cw ⟨wu_blind, hrecv, fun U hU hW => ⟨rfl, wu_at cx hp.1 U hU hW⟩⟩ rfl hn hl.1 hst (lv_room hW) hdg hf
end THR

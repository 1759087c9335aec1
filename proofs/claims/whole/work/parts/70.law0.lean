/-! the law's own rows: helpers that catch, the script, the out row -/
abbrev wW (y : MethodName) (cc : ByteArray) (n : Nat) (r : Option FieldType) (hh : List (Nat × Nat × Nat × Nat)) : List Cond := Cond.codeWith y cc n r hh :: TB
/-- which of the three exceptions are no other -/
def NC (E : Ev) : Prop := va_Nc "java/lang/IllegalStateException" "java/lang/IndexOutOfBoundsException" (eS E) ∧ va_Nc "java/lang/IllegalArgumentException" "java/lang/IndexOutOfBoundsException" (eS E) ∧ va_Nc "java/lang/IllegalStateException" "java/lang/IllegalArgumentException" (eS E)
def oI (r : Int32) : Int64 := Int32.toInt64 r
def oB (r : Int32) : Int64 := if r = 0 then 0 else 1
/-- what a helper makes of a call: its answer, the state behind it -/
def HX (o : Int32 → Int64) (L : List Nat) (z : Nat ⊕ Int32) (σ : SM) (rv : Int32) (σ' : SM) : Prop := (∃ j k, L[j]? = some k ∧ z = .inl k ∧ rv = nI (j + 1) ∧ σ' = σ) ∨ ∃ r, z = .inr r ∧ rv = nI 0 ∧ σ' = us σ 21 (wJ (σ 21) 0 0 (o r))
def HM (o : Int32 → Int64) (L : List Nat) (z : Nat ⊕ (Int32 × SM)) (σ : SM) (rv : Int32) (σ' : SM) : Prop := (∃ j k, L[j]? = some k ∧ z = .inl k ∧ rv = nI (j + 1) ∧ σ' = σ) ∨ ∃ r τ, z = .inr (r, τ) ∧ rv = nI 0 ∧ σ' = us τ 21 (wJ (τ 21) 0 0 (o r))
theorem wo_21_0 {E : Ev} {σ : SM} {μ : OM} (eo : σ 21 = μ) (hN : 147 ≤ eN E) : (ws E σ)[lin 21 0]? = some (adr E 21 0, aJ E 1 (μ.2.1 0)) := ws_at (by decide) (Nat.lt_of_lt_of_le (by decide) hN) eo
theorem gd_SW {own : String} {idx : Nat} {y : MethodName} {cc : ByteArray} {n : Nat} {r : Option FieldType} {hh : List (Nat × Nat × Nat × Nat)} (h1 : Cond.methodLink own idx y ∈ TB) (h2 : Cond.static y ∈ TB) (h4 : Cond.initialized y.cls ∈ TB) (h5 : Cond.codeWith y cc n r hh ∈ TB) : GoodIn TB (va_wsS own idx y (wW y cc n r hh)) := by
  refine tb_in (fun w hw => ?_)
  simp only [va_wsS, List.mem_append, List.mem_cons, List.not_mem_nil, or_false] at hw
  rcases hw with (rfl | rfl | rfl) | rfl | hw
  · exact h1
  · exact h2
  · exact h4
  · exact h5
  · exact hw
section LAW0
variable {p : Program} {l : Launch} {e : Env} {R : Room} {s : State} {m : MethodId} {args : Array Value} {below : List Frame} {meth : Method} {c : Code} {H : Heap} {locs : List Loc} {cells slots : Nat} {Q : State → Prop}
variable {E : Ev} {σ : SM} {own : String} {cc : ByteArray} {nL pc : Nat} {ret : Option FieldType} {ls : Array Slot} {rest st : List Value}
theorem gW_entry {y : MethodName} {maxL : Nat} {rm : Room} {av : List Value} {lv : List (Nat × Value)} {Qc : Array Value → State → Outcome → State → Prop} {mc ms : Nat} {free : Addr → Prop} {hh : List (Nat × Nat × Nat × Nat)} (hy : plainName y.cls = true) (hl : (lg_sl av).length ≤ maxL) (hlv : lv_args 0 av = lv)
    (body : ∀ (p : Program) (e : Env) (s : State) (m : MethodId) (below : List Frame) (meth : Method) (c : Code), Cx E p s m meth c av.toArray y.cls cc maxL ret → c.exceptionTable.toList = tableOf hh → Hp E σ s s.heap [] → ∀ ls : Array Slot, lv_has ls maxL lv → W p l e rm s m av.toArray below meth c s.heap [] 0 0 (MQ below Qc av.toArray s mc ms free) (F0 m 0 ls [])) : Met l y (wW y cc maxL ret hh) rm (va_Pc av (Wu E σ)) Qc mc ms free := by
  refine va_MetW (cc := cc) (maxL := maxL) (ret := ret) (hh := hh) hy rfl ?_
  intro p e s m args below meth c s₁ B hml hv
  obtain ⟨rfl, hal, hp⟩ := hv
  have hts := atoms_spec (ws := wW y cc maxL ret hh) B.pre
  have h := body p e s m below meth c ⟨⟨B.exec, B.bytes, hml, findClass_of_methodNamed B.named, fun w hw => hts w (List.mem_cons_of_mem _ hw)⟩, ⟨B.returns, B.notSynchronized⟩, hal, hp.2.2⟩ (vx_table (x := y) B (hts _ List.mem_cons_self)) ⟨hp, va_S.rf⟩ _ (hlv ▸ lv_entry av hl)
  rw [lg_entry_eq]
  exact h
/-- a call that answers an int or throws one of the class's own -/
theorem hx_i {a : Array Value} {zk : Nat → Prop} {mc ms : Nat} {post : Int32 → SM → Prop} (cx : Cx E p s m meth c args own cc nL ret) (hp : Hp E σ s H locs) (hr : vx_Run p l e R s m args below meth c H locs cells slots mc ms (F0 m pc ls st) rest (va_Qi post (fun u t => Wu E u t) (eA E) a) (XT E σ zk) (eA E))
    (kx : ∀ (k : Nat) (H1 : Heap) (locs1 : List Loc) (ce : Cell) (q9 : Addr), zk k → Hp E σ s H1 locs1 → H1[q9]? = some ce → ce.vm = .none → s.vm.findClass (xcls k) = some ce.cls → vx_W p l e R s m args below meth c H1 locs1 (cells + mc) (slots + ms) Q (F0 m pc ls rest) q9)
    (kk : ∀ (r : Int32) (u : SM) (H1 : Heap) (locs1 : List Loc), post r u → Hp E u s H1 locs1 → W p l e R s m args below meth c H1 locs1 (cells + mc) (slots + ms) Q (F0 m (pc + 3) ls (.int r :: rest))) : W p l e R s m args below meth c H locs cells slots Q (F0 m pc ls st) := by
  refine vx_calli hr hp.2 (fun _ _ h => h) (fun _ h => h) (fun _ _ h => h) (fun X ce q9 k t H1 locs1 ht hvm hw hB hz1 hk1 hS h1 h2 h3 => ?_) (fun r u t H1 locs1 ht _ hw hB _ _ hS => kk r u H1 locs1 hw ⟨ht ▸ hB.2, hS⟩)
  obtain ⟨rfl, hB⟩ := hB
  rw [ht] at hB
  exact kx k H1 locs1 ce q9 hw ⟨hB, hS⟩ h1 h2 h3
theorem s_out (hN : 147 ≤ eN E) (cx : Cx E p s m meth c args own cc nL ret) (hp : Hp E σ s H locs) {x : Int64} (hdg : decode cc pc = .ok (.lastore, 1)) (kk : ∀ (H1 : Heap) (locs1 : List Loc), Hp E (us σ 21 (wJ (σ 21) 0 0 x)) s H1 locs1 → W p l e R s m args below meth c H1 locs1 cells slots Q (F0 m (pc + 1) ls rest)) : W p l e R s m args below meth c H locs cells slots Q (F0 m pc ls (.long x :: .int 0 :: .ref (adr E 21 0) :: rest)) := by
  refine va_last cx.1.1 cx.1.2.1 cx.2.2.1.2.1 hp.1.1 hp.1.2.1 hp.2 (lin 21 0) 1 (wo_21_0 (μ := σ 21) rfl hN) rfl (i := 0) (inb_vp (n := 1) (by decide)) hdg (fun H1 locs1 hP hD hS => ?_)
  rw [sb_cl0] at hP hD
  exact kk H1 locs1 (hp_put cx (by decide) (Nat.lt_of_lt_of_le (by decide) hN) rfl (wJ_o (σ 21) 0 0 x) rfl hP hD hS)
theorem l_out (hN : 147 ≤ eN E) (cx : Cx E p s m meth c args own cc nL ret) (hp : Hp E σ s H locs) {x : Int64} (hv : (σ 21).2.1 0 0 = x) (hdg : decode cc pc = .ok (.laload, 1)) (kk : W p l e R s m args below meth c H locs cells slots Q (F0 m (pc + 1) ls (.long x :: rest))) : W p l e R s m args below meth c H locs cells slots Q (F0 m pc ls (.int 0 :: .ref (adr E 21 0) :: rest)) := by
  subst hv
  refine va_lald cx.1.1 cx.1.2.1 cx.2.2.1.2.1 hp.1.1 (lin 21 0) 1 (wo_21_0 (μ := σ 21) rfl hN) rfl (i := 0) (inb_vp (n := 1) (by decide)) hdg ?_
  rw [sb_cl0]
  exact kk
/-- an int of the script -/
theorem s_ld {b Ls i k : Nat} {xs : Nat → Int32} {v : Int32} (hv : nI k = v) (hk : k ≤ 5) (hi : i + 6 ≤ Ls) (hLs : Ls ≤ 3072) (SX : va_X b Ls xs s s.heap) (hbl : b < s.heap.size) (hbA : ¬ eA E b) (cx : Cx E p s m meth c args own cc nL ret) (hp : Hp E σ s H locs) (hdg : decode cc pc = .ok (.iaload, 1)) (kk : W p l e R s m args below meth c H locs cells slots Q (F0 m (pc + 1) ls (.int (xs (i + k)) :: rest))) : W p l e R s m args below meth c H locs cells slots Q (F0 m pc ls (.int (nI i + v) :: .ref b :: rest)) := by
  subst hv
  rw [nI_add]
  refine va_sld cx.1.1 cx.1.2.1 SX hbl hbA hp.2 (vp_in_nI (by omega) (by omega)) hdg ?_
  rw [nI_clamp (by omega)]
  exact kk
theorem s_ld0 {b Ls i : Nat} {xs : Nat → Int32} (hi : i + 6 ≤ Ls) (hLs : Ls ≤ 3072) (SX : va_X b Ls xs s s.heap) (hbl : b < s.heap.size) (hbA : ¬ eA E b) (cx : Cx E p s m meth c args own cc nL ret) (hp : Hp E σ s H locs) (hdg : decode cc pc = .ok (.iaload, 1)) (kk : W p l e R s m args below meth c H locs cells slots Q (F0 m (pc + 1) ls (.int (xs i) :: rest))) : W p l e R s m args below meth c H locs cells slots Q (F0 m pc ls (.int (nI i) :: .ref b :: rest)) := by
  refine va_sld cx.1.1 cx.1.2.1 SX hbl hbA hp.2 (vp_in_nI (by omega) (by omega)) hdg ?_
  rw [nI_clamp (by omega)]
  exact kk
theorem y_SW {lv : List (Nat × Value)} {y : MethodName} {bytes : ByteArray} {maxL idx n mc ms : Nat} {ret' : Option FieldType} {hh : List (Nat × Nat × Nat × Nat)} {rm : Room} {As : List Value} {Qc : Array Value → State → Outcome → State → Prop} {free : Addr → Prop} (cx : Cx E p s m meth c args own cc nL ret) (hp : Hp E σ s H locs) (hl : lv_has ls nL lv)
    (hM : Met l y (wW y bytes maxL ret' hh) rm (va_Pc As (Wu E σ)) Qc mc ms free) (cw : vx_CSW R s args own idx y bytes maxL ret' hh (wW y bytes maxL ret' hh) rm mc ms n) (hn : As.length = n) (hst : st = As.reverse ++ rest) (hW : (rest.map fun v => v.category).sum ≤ 8)
    (hdg : decode cc pc = .ok (.invokestatic idx, 3)) (hf : cells + mc ≤ R.cells ∧ slots + ms ≤ R.slots) : va_Run p l e R s m args below meth c H locs cells slots mc ms (F0 m pc ls st) rest (Qc As.toArray) free :=
  vx_runSW cx.1 hM cw ⟨wu_blind, fun U hU hW => ⟨rfl, wu_at cx hp.1 U hU hW⟩⟩ rfl hn hl.1 hst (lv_room hW) hdg hf
theorem x_iM {a : Array Value} {mc ms : Nat} {post : Int32 → SM → Prop} (hp : Hp E σ s H locs) (hr : va_Run p l e R s m args below meth c H locs cells slots mc ms (F0 m pc ls st) rest (va_Qi post (fun u t => Wu E u t) (eA E) a) (eA E))
    (kk : ∀ (r : Int32) (u : SM) (H1 : Heap) (locs1 : List Loc), post r u → Hp E u s H1 locs1 → W p l e R s m args below meth c H1 locs1 (cells + mc) (slots + ms) Q (F0 m (pc + 3) ls (.int r :: rest))) : W p l e R s m args below meth c H locs cells slots Q (F0 m pc ls st) :=
  va_calli hr hp.2 (fun _ _ h => h) (fun _ h => h) (fun r u t H1 locs1 ht _ hw hB _ _ hS => kk r u H1 locs1 hw ⟨ht ▸ hB.2, hS⟩)
end LAW0
theorem lgc_rf (x : Int64) : lg_cmp x x = 0 := by simp [lg_cmp]
/-! from the answers' side to the helper's words -/
theorem Rel.o21 {B : Nat} {σ : SM} (h : Rel B σ) (μ : OM) : Rel B (us σ 21 μ) := h.c (fun o ho => us_n (by omega)) (by rw [us_n (by decide)]) (by rw [us_n (by decide)])
theorem us_cm (σ : SM) (a b : Nat) (μ ν : OM) (h : a ≠ b) : us (us σ a μ) b ν = us (us σ b ν) a μ := by
  funext q
  by_cases hb : q = b
  · rw [hb, us_s, us_n (Ne.symm h), us_s]
  · rw [us_n hb]
    by_cases ha : q = a
    · rw [ha, us_s, us_s]
    · rw [us_n ha, us_n ha, us_n hb]
theorem nI_n0 {j : Nat} (h : j + 1 < 2 ^ 31) : nI (j + 1) ≠ nI 0 := fun q => by
  have := (nI_eq (a := j + 1) (b := 0) h (by omega)).mp q
  omega
theorem fx_two {B : Nat} {σ : SM} {L : List Nat} (o : Int32 → Int64) {f : Option (Nat ⊕ Int32)} {g : Option (Int32 × OM)} (hL : L.length ≤ 2) (h : FX B σ L f g) : ∃ (z : Nat ⊕ Int32) (r : Int32) (ρ' : OM) (σ' : SM), f = some z ∧ g = some (r, ρ') ∧ HX o L z σ (ρ'.1 0 12) σ' ∧ σ' 20 = σ 20 ∧ Rel B (us σ' 20 ρ') ∧ (ρ'.1 0 12 = nI 0 → (σ' 21).2.1 0 0 = o r) := by
  obtain ⟨z, r, ρ', e1, e2, h1, h2⟩ := h
  rcases h2 with ⟨j, k, hj, hz, hv⟩ | ⟨hz, hv⟩
  · have hjl : j < L.length := (List.getElem?_eq_some_iff.mp hj).1
    exact ⟨z, r, ρ', σ, e1, e2, Or.inl ⟨j, k, hj, hz, hv, rfl⟩, rfl, h1, fun q => absurd (hv.symm.trans q) (nI_n0 (by omega))⟩
  · refine ⟨z, r, ρ', us σ 21 (wJ (σ 21) 0 0 (o r)), e1, e2, Or.inr ⟨r, hz, hv, rfl⟩, us_n (by decide), ?_, fun _ => ?_⟩
    · rw [us_cm _ _ _ _ _ (by decide)]
      exact h1.o21 _
    · rw [us_s]
      show (if (0 : Nat) = 0 then vp_updL ((σ 21).2.1 0) 0 (o r) else (σ 21).2.1 0) 0 = o r
      rw [if_pos rfl, pk_uLs]
theorem fs_two {B B' : Nat} (hB : B ≤ B') {σ : SM} {L : List Nat} (o : Int32 → Int64) {f : Option (Nat ⊕ (Int32 × SM))} {g : Option (Int32 × OM)} (hL : L.length ≤ 2) (h : FS B B' σ L f g) : ∃ (z : Nat ⊕ (Int32 × SM)) (r : Int32) (ρ' : OM) (σ' : SM), f = some z ∧ g = some (r, ρ') ∧ HM o L z σ (ρ'.1 0 12) σ' ∧ σ' 20 = σ 20 ∧ Rel B' (us σ' 20 ρ') ∧ (ρ'.1 0 12 = nI 0 → (σ' 21).2.1 0 0 = o r) := by
  obtain ⟨z, r, ρ', e1, e2, h2⟩ := h
  rcases h2 with ⟨j, k, hj, hz, hv, h1⟩ | ⟨τ, hz, hv, h3, h1⟩
  · have hjl : j < L.length := (List.getElem?_eq_some_iff.mp hj).1
    exact ⟨z, r, ρ', σ, e1, e2, Or.inl ⟨j, k, hj, hz, hv, rfl⟩, rfl, h1.mono hB, fun q => absurd (hv.symm.trans q) (nI_n0 (by omega))⟩
  · refine ⟨z, r, ρ', us τ 21 (wJ (τ 21) 0 0 (o r)), e1, e2, Or.inr ⟨r, τ, hz, hv, rfl⟩, (us_n (by decide)).trans h3, ?_, fun _ => ?_⟩
    · rw [us_cm _ _ _ _ _ (by decide)]
      exact h1.o21 _
    · rw [us_s]
      show (if (0 : Nat) = 0 then vp_updL ((τ 21).2.1 0) 0 (o r) else (τ 21).2.1 0) 0 = o r
      rw [if_pos rfl, pk_uLs]
/-- the law's own locals -/
abbrev LL (b : Nat) (E : Ev) (i : Nat) : List (Nat × Value) := [(0, .ref b), (1, .ref (adr E 19 0)), (2, .ref (adr E 20 0)), (3, .ref (adr E 21 0)), (4, .int (nI i))]
/-! the fraction of the placed is a number -/
theorem nn_fd : ∀ c, c < 9 → ∀ s, s < 9 → c ≠ 0 → nn64 (FP.f2d (FP.fdiv (FP.i2f (nI s)) (FP.i2f (nI c)))) = true := by decide +kernel
theorem pf_n {B : Nat} {σ : SM} (h : Rel B σ) {r : UInt32} (e1 : f_X12_placedFraction σ = some r) : vf_n64 (FP.f2d r) := by
  obtain ⟨S, T, hm, hf⟩ := h.1
  have w := hf.2.1; have h8 := w.1.1; have t8 := w.1.2; have hS := hm.1.2.2.1; have hT := hm.1.2.2.2
  have s1 := hf.1
  have hl := cnt_le (fun i => !decide ((σ 20).1 1 (25 + 13 * i + 3) = m1)) S
  have hn := nn_f S (by omega) (cnt (fun i => !decide ((σ 20).1 1 (25 + 13 * i + 3) = m1)) S) (by omega) (by omega)
  have hd := nn_fd S (by omega) (cnt (fun i => !decide ((σ 20).1 1 (25 + 13 * i + 3) = m1)) S) (by omega) (by omega)
  have e : f_X12_placedFraction σ = some (FP.fdiv (FP.i2f (nI (cnt (fun i => !decide ((σ 20).1 1 (25 + 13 * i + 3) = m1)) S))) (FP.i2f (nI S))) := by simp (maxSteps := 2000000) (disch := first | rfl | exact q_e1 _ _ _ | exact q_sr1 _ _ | omega) only [f_X12_placedFraction, s_housed hm h8, hm.1.1, ↓q_m1, q_l0, q_l1, q_l2, q_l3, q_l4, q_l5, q_l6, q_l7, q_l8, q_l9, q_l10, q_l11, q_l12, q_l13, q_l14, q_l15, q_l16, q_l17, q_l18, q_l19, q_l20, q_l21, q_l22, q_l23, q_l24, q_l25, q_l26, q_l27, q_l28, q_l29, q_l30, q_l31, q_l32, q_l33, q_l45, q_l46, q_l48, q_l57, q_l58, q_l59, q_l60, q_l61, q_l62, q_l63, q_l64, q_l96, q_l97, q_l99, q_l122, q_l129, q_l137, q_l255, q_l256, q_l400, q_l680, q_l700, q_l959, q_l999, q_l9999, q_l10000, q_l100000, q_ltT, q_ltF, q_leT, q_leF, q_eqF, q_eqR, q_mlt, q_mle, q_nlm, q_nLm, q_nem, q_men, q_mlm, Nat.add_zero, Nat.sub_zero, q_add0, pk_rem, nI_add, pk_mul, q_sub, q_subm, q_addm, nI_clamp, q_inT, q_inF, q_sr1, q_srn, q_srw, q_srs, q_wIs, q_wIn, q_wI2, q_wJ1, q_wJs, q_wJn, q_wR1, q_wRs, q_wRn, q_wI22, q_wJ22, pk_us, pk_un, pk_uLs, pk_uLn, q_usS, q_usN, q_ups, q_upn, Bool.true_eq_false, Bool.false_eq_true, q_lt, q_o2, q_o3, q_o4, q_o5, q_bi, ↓reduceIte, q_tv0, q_tv1, q_bz, q_oRl, q_oRr, q_oXl, q_oXr, hn]
  obtain rfl := Option.some.inj (e.symm.trans e1)
  exact nn64_vf hd

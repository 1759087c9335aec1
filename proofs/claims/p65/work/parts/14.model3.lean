abbrev rm_L_pick : Room := { frames := 0, cells := 0, slots := 0, locals := 0 }
set_option maxRecDepth 100000 in
set_option maxHeartbeats 4000000 in
theorem c_L_pick (l : Launch) {E : Ev} (hN : 151 ≤ eN E) (hT : St E) {b Ls : Nat} {xs : Nat → Int32} (SX : va_T .int b Ls (fun j => .int (xs j)) (eA E) (eS E) (eS E).heap) {σ : SM} {xs : Nat → Int32} {Ls : Nat} {p1 : Int32} {rv : Int32} (hf : f_L_pick xs Ls p1 = some rv) : Met l yL_pick (wC yL_pick cL_pick 2 (some .int)) rm_L_pick (va_Pc [.ref b, .int p1] (Wu E σ)) (va_Qi (fun r u => rv = r ∧ σ = u) (fun u t => Wu E u t) (eA E)) 0 0 (eA E) := by
  refine g_entry (lv := [(0, .ref b), (1, .int p1)]) (by decide) (Nat.le_of_ble_eq_true rfl) rfl ?_
  intro p e s m below meth c cx hp ls hl
  have hx := cx.1.1
  have hb := cx.1.2.1
  have fr : ∀ q, σ q = σ q := fun _ => rfl
  unfold f_L_pick at hf
  refine lv_iload_n hx hb dL_pick_0 rfl (lv_at hl 1 rfl) ?_
  refine lv_if_lt (tgt := 16) hx hb dL_pick_1 (by decide) (fun c1 => ?_) (fun c1 => ?_)
  · have hf := fp hf c1
    refine lv_iconst (v := 0) hx hb dL_pick_16 (by decide) ?_
    cases hf
    exact r_i cx hp ⟨rfl, (funext fr).symm⟩ dL_pick_17
  · have hf := fn hf c1
    refine lv_iload_n hx hb dL_pick_4 rfl (lv_at hl 1 rfl) ?_
    refine lv_aload_n hx hb dL_pick_5 rfl (lv_at hl 0 rfl) ?_
    refine va_tlen (v := nI Ls) hx hb (tS cx SX) hp.2 rfl dL_pick_6 ?_
    refine lv_icmp_ge (tgt := 16) hx hb dL_pick_7 (by decide) (fun c2 => ?_) (fun c2 => ?_)
    · have hf := fp hf c2
      refine lv_iconst (v := 0) hx hb dL_pick_16 (by decide) ?_
      cases hf
      exact r_i cx hp ⟨rfl, (funext fr).symm⟩ dL_pick_17
    · have hf := fn hf c2
      refine lv_aload_n hx hb dL_pick_10 rfl (lv_at hl 0 rfl) ?_
      refine lv_iload_n hx hb dL_pick_11 rfl (lv_at hl 1 rfl) ?_
      obtain ⟨g_i, hf⟩ := fg hf
      refine va_ti hx hb (tS cx SX) hp.2 (inb_vp g_i) rfl dL_pick_12 ?_
      refine lv_goto (tgt := 17) hx hb dL_pick_13 (by decide) ?_
      cases hf
      exact r_i cx hp ⟨rfl, (funext fr).symm⟩ dL_pick_17

/-! the class's own making, from where its parts stand -/
theorem ws_snoc (E : Ev) (La : Nat → Nat) (n : Nat) (σ : SM) : ws (wE E La (n + 1)) σ = ws (wE E La n) σ ++ [(La n, celX (wE E La n) (dec n).1 (dec n).2 (σ (dec n).1))] := by
  show (List.range (n + 1)).map _ = _
  rw [List.range_succ, List.map_append]
  rfl
theorem make_end {E : Ev} {La : Nat → Nat} (hLa : La 129 = (eS E).heap.size) {σ : SM} (h19 : (σ 19).1 0 6 = 0) {t : State} (h : Wul E (((eS E).heap.size, .inr (8, [.ref (La 110), .ref (La 114), .ref (La 116), .ref (La 0), .ref (La 10), .ref (La 20), .int 0, .ref (La 120), .ref (La 122), .ref (La 127)])) :: ws (wE E La 129) σ) t) : Wu (wE E La 130) σ t := by
  have e1 : (La 129, celX (wE E La 129) 19 0 (σ 19)) = ((eS E).heap.size, Sum.inr (8, [Value.ref (La 110), .ref (La 114), .ref (La 116), .ref (La 0), .ref (La 10), .ref (La 20), .int 0, .ref (La 120), .ref (La 122), .ref (La 127)])) := by
    rw [hLa, ← h19]
    rfl
  have e2 : ws (wE E La 130) σ = ws (wE E La 129) σ ++ [((eS E).heap.size, Sum.inr (8, [Value.ref (La 110), .ref (La 114), .ref (La 116), .ref (La 0), .ref (La 10), .ref (La 20), .int 0, .ref (La 120), .ref (La 122), .ref (La 127)]))] := by
    rw [← e1]
    exact ws_snoc E La 129 σ
  have hn : (ws (wE E La 129) σ).length = 129 := ws_len _ _
  have hg : ∀ (x : Nat × va_E) (L : va_W), L.length = 129 → ∀ (k : Nat) (q : Nat × va_E), (L ++ [x])[k]? = some q → (x :: L)[if k = 129 then 0 else k + 1]? = some q := by
    intro x L hL k q hq
    by_cases hk : k = 129
    · rw [if_pos hk]
      rw [hk, List.getElem?_append_right (by omega), hL] at hq
      exact hq
    · rw [if_neg hk]
      have hk2 : k < 129 := by
        have := (List.getElem?_eq_some_iff.mp hq).1
        rw [List.length_append, hL] at this
        have h3 : k < 129 + 1 := this
        omega
      rw [List.getElem?_append_left (by omega)] at hq
      exact hq
  obtain ⟨h0, hP, hD, hz, ho, hN⟩ := h
  refine ⟨h0, ?_, ?_, hz, ho, (by decide : 130 ≤ 151)⟩
  · rw [e2]
    exact hP.by (fun k => if k = 129 then 0 else k + 1) (hg _ _ hn)
  · rw [e2]
    refine hD.by (fun k => if k = 129 then 0 else k + 1) (hg _ _ hn) (fun i j _ _ e => ?_)
    by_cases hi : i = 129
    · by_cases hj : j = 129
      · omega
      · rw [if_pos hi, if_neg hj] at e; omega
    · by_cases hj : j = 129
      · rw [if_neg hi, if_pos hj] at e; omega
      · rw [if_neg hi, if_neg hj] at e; omega
theorem cut_bt (w k : Nat) (hk : k < 2 ^ 31) (h0 : 0 < k) : f_X2_cut 0 (bt w k) = some (wI (bt w k) 0 1 0) := by
  have e1 : (bt w k).1 0 1 = nI k := rfl
  have e2 : ¬ nI k ≤ 0 := nI_nle h0 hk
  rw [f_X2_cut, if_neg (by decide), e1, if_neg e2]
  rfl
/-- the class's state when it is made -/
def σ1 (μ π τ : OM) : SM := us (us (us (us (us σ0 13 (bt 0 188)) 0 μ) 11 π) 12 τ) 13 (wI (bt 0 188) 0 1 0)
abbrev rm_X12_init : Room := { frames := 10, cells := 129, slots := 3390, locals := 233 }
section MAKE1
variable {p : Program} {e : Env} {s : State} {m : MethodId} {args : Array Value} {below : List Frame} {meth : Method} {c : Code}
variable {E : Ev} {La : Nat → Nat}
abbrev ow0 (La : Nat → Nat) : va_E := .inr (8, [.null, .ref (La 114), .ref (La 116), .null, .ref (La 10), .ref (La 20), .int 0, .ref (La 120), .ref (La 122), .ref (La 127)])
set_option maxRecDepth 100000 in
set_option maxHeartbeats 4000000 in
theorem i12_a (l : Launch) (hT : St E) (hLa : La 129 = (eS E).heap.size) {rv : Int32} {μ1 π1 τ1 : OM} (hR : f_X9_read ZM (wI ZM 0 2 (-1)) ZM (bt 0 188) = some (rv, μ1, π1, τ1)) (cx : Cx E p s m meth c args RX12 cX12_init 4 none) (hnm : meth.name = "<init>") {H : Heap} {locs : List Loc} (ho : HO E La (ow0 La) (us σ0 13 (bt 0 188)) s H locs) {ls : Array Slot} (hl : lv_has ls 4 [(2, .ref (La 0)), (1, .ref (La 110)), (0, .ref (eS E).heap.size)]) : W p l e rm_X12_init s m args below meth c H locs 129 3390 (MQ below (va_Qv (fun (La' : Nat → Nat) => La' 129 = (eS E).heap.size) (fun La' t => Wu (wE E La' 130) (σ1 μ1 π1 τ1) t) (eA E)) args s 129 3390 (eA E)) (F0 m 135 ls []) := by
  have hx := cx.1.1
  have hb := cx.1.2.1
  refine lv_aload_n hx hb dX12_init_135 rfl (lv_at hl 1 rfl) ?_
  refine lv_aload_n hx hb dX12_init_136 rfl (lv_at hl 0 rfl) ?_
  refine zO_i ho (yO_S (As := [.ref (adr (rE E H La) 11 0), .ref (adr (rE E H La) 0 0)]) (rest := []) cx ho hl (c_X9_read l (E := rE E H La) (Nat.le_refl 129) (stR ho hT) (o := 0) (by decide) (μ := ZM) rfl (π := wI ZM 0 2 (-1)) rfl (τ := ZM) rfl (β := bt 0 188) (us_s _ _ _) hR) (cw_X12_86 cx (mc := 0) (ms := 0) rfl rfl ⟨by decide, by decide⟩) rfl rfl (Nat.le_of_ble_eq_true rfl) dX12_init_137 ⟨by decide, by decide⟩) (fun r u H locs hq ho => ?_)
  obtain ⟨rfl, h0, h11, h12, hn⟩ := hq
  obtain rfl := us_x3 h0 h11 h12 hn
  refine lv_pop hx hb dX12_init_140 rfl ?_
  refine lv_aload_n hx hb dX12_init_141 rfl (lv_at hl 1 rfl) ?_
  refine gF_X12_69 (E := wE E La 129) rfl (Nat.le_refl 129) (cx.w La 129 (by decide)) ho.hp dX12_init_142 ?_
  refine gF_X12_73 (E := wE E La 129) rfl (Nat.le_refl 129) (cx.w La 129 (by decide)) ho.hp dX12_init_145 ?_
  refine lv_iconst (v := 0) hx hb dX12_init_148 (by decide) ?_
  refine zO_v ho (yO_V (As := [.int 0]) (rest := []) cx ho hl (c_X2_cut_13 l (E := rE E H La) (Nat.le_refl 129) (stR ho hT) (β := bt 0 188) rfl (cut_bt 0 188 (by decide) (by decide))) (cw_X12_92 cx (mc := 0) (ms := 0) rfl rfl ⟨by decide, by decide⟩) (rC_X2_13 (E := wE E La 129) (Nat.le_refl 129) (cx.w La 129 (by decide)) ho.hp) rfl rfl (Nat.le_of_ble_eq_true rfl) dX12_init_149 ⟨by decide, by decide⟩) (fun u H locs hq ho => ?_)
  obtain ⟨h13, hn⟩ := hq
  obtain rfl := us_x h13 hn
  refine lv_aload_n hx hb dX12_init_152 rfl (lv_at hl 2 rfl) ?_
  refine lv_aload_n hx hb dX12_init_153 rfl (lv_at hl 1 rfl) ?_
  have hp : Hl E (([] : va_W) ++ (((eS E).heap.size, ow0 La) :: ws (wE E La 129) (σ1 μ1 π1 τ1))) s H locs := ho
  refine hl_putF cx hnm hp 0 (C := RX12) (T := TX12) (N := 10) (ci := 8) rfl rfl inB_X12 tyX12 tyX12_ok nmX12 0 (by decide) qF_X12_95 rfl rfl rfl (ty := .object "StallMarket$Parser") (v := .ref (La 110)) (by decide +kernel) rfl rfl (Nat.le_of_ble_eq_true rfl) dX12_init_154 (fun H locs hp => ?_)
  refine lv_aload_n hx hb dX12_init_157 rfl (lv_at hl 2 rfl) ?_
  refine lv_aload_n hx hb dX12_init_158 rfl (lv_at hl 0 rfl) ?_
  have hp : Hl E (([] : va_W) ++ (((eS E).heap.size, .inr (8, [.ref (La 110), .ref (La 114), .ref (La 116), .null, .ref (La 10), .ref (La 20), .int 0, .ref (La 120), .ref (La 122), .ref (La 127)])) :: ws (wE E La 129) (σ1 μ1 π1 τ1))) s H locs := hp
  refine hl_putF cx hnm hp 0 (C := RX12) (T := TX12) (N := 10) (ci := 8) rfl rfl inB_X12 tyX12 tyX12_ok nmX12 3 (by decide) qF_X12_99 rfl rfl rfl (ty := .object "StallMarket$Market") (v := .ref (La 0)) (by decide +kernel) rfl rfl (Nat.le_of_ble_eq_true rfl) dX12_init_159 (fun H locs hp => ?_)
  have hp : Hl E (((eS E).heap.size, .inr (8, [.ref (La 110), .ref (La 114), .ref (La 116), .ref (La 0), .ref (La 10), .ref (La 20), .int 0, .ref (La 120), .ref (La 122), .ref (La 127)])) :: ws (wE E La 129) (σ1 μ1 π1 τ1)) s H locs := hp
  exact rI cx hp (u := La) hLa (fun t ht => make_end hLa rfl ht) dX12_init_162
set_option maxRecDepth 100000 in
set_option maxHeartbeats 4000000 in
theorem i12_l (l : Launch) (hT : St E) {Q : State → Prop} (cx : Cx E p s m meth c args RX12 cX12_init 4 none)
    (K : ∀ (H : Heap) (locs : List Loc) (ls : Array Slot), HO E La (ow0 La) (us σ0 13 (bt 0 188)) s H locs → lv_has ls 4 [(2, .ref (La 0)), (1, .ref (La 110)), (0, .ref (eS E).heap.size)] → W p l e rm_X12_init s m args below meth c H locs 129 3390 Q (F0 m 135 ls [])) :
    ∀ (n k : Nat), k + n = 188 → ∀ (H : Heap) (locs : List Loc) (ls : Array Slot), HO E La (ow0 La) (us σ0 13 (bt 0 k)) s H locs → lv_has ls 4 [(3, .int (nI k)), (2, .ref (La 0)), (1, .ref (La 110)), (0, .ref (eS E).heap.size)] → W p l e rm_X12_init s m args below meth c H locs 129 3390 Q (F0 m 104 ls []) := by
  have hx := cx.1.1
  have hb := cx.1.2.1
  have e188 : lens.getD 0 0 = 188 := rfl
  intro n
  induction n with
  | zero =>
    intro k hk H locs ls ho hl
    obtain rfl : k = 188 := hk
    refine lv_iload_n hx hb dX12_init_104 rfl (lv_at hl 0 rfl) ?_
    refine va_ldcS hx hb cx.1.2.2.2.1 (cx.2.2.1.2.2.2 0 _ rfl) dX12_init_105 ?_
    refine zO_i ho (yO_V (As := []) (rest := [.int (nI 188)]) cx ho hl (c_J0_length_8abf5 l (E := rE E H La) (Nat.le_refl 129) (stR ho hT) (w_len 0 (by decide))) (cw_X12_63 cx (mc := 0) (ms := 0) rfl rfl ⟨by decide, by decide⟩) (rcS (cx.w La 129 (by decide)) ho.hp (hT.1 0 (by decide)).1) rfl rfl (Nat.le_of_ble_eq_true rfl) dX12_init_107 ⟨by decide, by decide⟩) (fun r u H locs hq ho => ?_)
    obtain ⟨rfl, rfl⟩ := hq
    refine lv_icmp_ge (tgt := 135) hx hb dX12_init_110 (by decide) (fun _ => ?_) (fun c9 => absurd (by decide) c9)
    exact K H locs ls ho (lv_sub hl [1, 2, 3] rfl)
  | succ n ih =>
    intro k hk H locs ls ho hl
    have hk2 : k < 188 := by omega
    refine lv_iload_n hx hb dX12_init_104 rfl (lv_at hl 0 rfl) ?_
    refine va_ldcS hx hb cx.1.2.2.2.1 (cx.2.2.1.2.2.2 0 _ rfl) dX12_init_105 ?_
    refine zO_i ho (yO_V (As := []) (rest := [.int (nI k)]) cx ho hl (c_J0_length_8abf5 l (E := rE E H La) (Nat.le_refl 129) (stR ho hT) (w_len 0 (by decide))) (cw_X12_63 cx (mc := 0) (ms := 0) rfl rfl ⟨by decide, by decide⟩) (rcS (cx.w La 129 (by decide)) ho.hp (hT.1 0 (by decide)).1) rfl rfl (Nat.le_of_ble_eq_true rfl) dX12_init_107 ⟨by decide, by decide⟩) (fun r u H locs hq ho => ?_)
    obtain ⟨rfl, rfl⟩ := hq
    refine lv_icmp_ge (tgt := 135) hx hb dX12_init_110 (by decide) (fun c9 => absurd c9 (nI_ge (a := k) (b := 188) hk2 (by decide))) (fun _ => ?_)
    refine lv_aload_n hx hb dX12_init_113 rfl (lv_at hl 2 rfl) ?_
    refine gF_X12_69 (E := wE E La 129) rfl (Nat.le_refl 129) (cx.w La 129 (by decide)) ho.hp dX12_init_114 ?_
    refine gF_X12_73 (E := wE E La 129) rfl (Nat.le_refl 129) (cx.w La 129 (by decide)) ho.hp dX12_init_117 ?_
    refine va_ldcS hx hb cx.1.2.2.2.1 (cx.2.2.1.2.2.2 0 _ rfl) dX12_init_120 ?_
    refine lv_iload_n hx hb dX12_init_122 rfl (lv_at hl 0 rfl) ?_
    refine zO_i ho (yO_V (As := [.int (nI k)]) (rest := [.ref (adr (wE E La 129) 13 0)]) cx ho hl (c_J0_charAt_5068e l (E := rE E H La) (Nat.le_refl 129) (stR ho hT) (w_chr 0 (by decide) k hk2)) (cw_X12_78 cx (mc := 0) (ms := 0) rfl rfl ⟨by decide, by decide⟩) (rcS (cx.w La 129 (by decide)) ho.hp (hT.1 0 (by decide)).1) rfl rfl (Nat.le_of_ble_eq_true rfl) dX12_init_123 ⟨by decide, by decide⟩) (fun r u H locs hq ho => ?_)
    obtain ⟨rfl, rfl⟩ := hq
    refine zO_v ho (yO_V (As := [.int (wB 0 k)]) (rest := []) cx ho hl (c_X2_add_13 l (E := rE E H La) (Nat.le_refl 129) (stR ho hT) (us_s _ _ _) (bt_add (w := 0) (k := k) (by omega))) (cw_X12_82 cx (mc := 0) (ms := 0) rfl rfl ⟨by decide, by decide⟩) (rC_X2_13 (E := wE E La 129) (Nat.le_refl 129) (cx.w La 129 (by decide)) ho.hp) rfl rfl (Nat.le_of_ble_eq_true rfl) dX12_init_126 ⟨by decide, by decide⟩) (fun u H locs hq ho => ?_)
    obtain ⟨h13, hn⟩ := hq
    obtain rfl : u = us σ0 13 (bt 0 (k + 1)) := us_x h13 (fun q hq => (hn q hq).trans (us_n hq))
    refine lv_iinc (v := nI (k + 1)) (lv' := [(3, .int (nI (k + 1))), (2, .ref (La 0)), (1, .ref (La 110)), (0, .ref (eS E).heap.size)]) hx hb dX12_init_129 hl (k := 0) rfl (by rw [← nI_add]; rfl) (by decide) rfl (fun ls hl => ?_)
    refine lv_goto (tgt := 104) hx hb dX12_init_132 (by decide) ?_
    exact ih (k + 1) (by omega) H locs ls ho hl
end MAKE1

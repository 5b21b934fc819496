/-! Contracts of the reference's read-only helpers, by program (wip/gen/x1.py). -/
set_option maxHeartbeats 4000000 in
set_option maxRecDepth 100000 in
theorem m_none (l : Launch)  (r : Int) (r1 : -2147483648 ≤ r) (r2 : r < 2147483648) : Met l yX1_none wsX1_none ({ frames := 0, cells := 0, slots := 0, locals := 0 }) (va_Pc [.int (iI (r))] (fun _ => True)) (vp_Si (fun r_ => r_ = iI (if 0 ≤ r ∧ r < 12 then 0 else 1))) 0 0 (fun _ => False) := by
  refine Met.ofW (cc := cX1_none) (maxL := 1) (ret := (some .boolean)) (by decide +kernel) rfl ?_
  intro p e s m args below meth c s₁ B hml hv
  obtain ⟨rfl, hG⟩ := hv
  have hx := B.exec
  have hb := B.bytes
  have hrt := B.returns
  have hts : ∀ w ∈ wsU, w.before _ s = true := fun w h => atoms_spec (ws := wsX1_none) B.pre w (List.mem_cons_of_mem _ h)
  have hown : s.vm.findClass "NoiseRingModel" = some m.cls := findClass_of_methodNamed B.named
  have hlocks := B.notSynchronized
  have hl := lv_entry ([.int (iI (r))]) (n := 1) (Nat.le_of_ble_eq_true rfl)
  rw [lg_entry_eq]
  generalize (lg_sl ([.int (iI (r))]) ++ List.replicate (1 - (lg_sl ([.int (iI (r))])).length) Slot.unset).toArray = ls at hl ⊢
  have hl : lv_has ls 1 [(0, .int (iI (r)))] := hl
  refine lv_iload_n hx hb dX1_none_0 rfl (lv_at hl 0 rfl) ?_
  refine ix_if_lt (tgt := 10) hx hb (by omega) (by omega) dX1_none_1 (by decide) (fun h1 => ?_) (fun h1 => ?_)
  · skip
    refine ix_iconst hx hb dX1_none_10 ?_
    refine lv_goto (tgt := 15) hx hb dX1_none_11 (by decide) ?_
    exact W.zret (ty := .boolean) hx hb hrt (by decide) (fun t ht hW => ⟨_, rfl, congrArg iI (by first | rw [if_pos ⟨by omega, by omega⟩] | rw [if_neg (by omega)]), ht⟩) t_nil dX1_none_15
  · skip
    refine lv_iload_n hx hb dX1_none_4 rfl (lv_at hl 0 rfl) ?_
    refine ix_bipush hx hb (by decide) dX1_none_5 ?_
    refine ix_icmp_lt (tgt := 14) hx hb (by omega) (by omega) (by omega) (by omega) dX1_none_7 (by decide) (fun h7 => ?_) (fun h7 => ?_)
    · skip
      refine ix_iconst hx hb dX1_none_14 ?_
      exact W.zret (ty := .boolean) hx hb hrt (by decide) (fun t ht hW => ⟨_, rfl, congrArg iI (by first | rw [if_pos ⟨by omega, by omega⟩] | rw [if_neg (by omega)]), ht⟩) t_nil dX1_none_15
    · skip
      refine ix_iconst hx hb dX1_none_10 ?_
      refine lv_goto (tgt := 15) hx hb dX1_none_11 (by decide) ?_
      exact W.zret (ty := .boolean) hx hb hrt (by decide) (fun t ht hW => ⟨_, rfl, congrArg iI (by first | rw [if_pos ⟨by omega, by omega⟩] | rw [if_neg (by omega)]), ht⟩) t_nil dX1_none_15
set_option maxHeartbeats 4000000 in
set_option maxRecDepth 100000 in
theorem m_at (l : Launch) (ω : WM) (th k q : Int) (M : Nat → Nat → Int) (f : Nat → Int) (r i : Nat) (hr : r < 12) (hi : i < 16) : Met l yX1_at wsX1_at ({ frames := 0, cells := 0, slots := 0, locals := 0 }) (va_Pc [.ref (mo ω), .int (iI (r)), .int (iI (i))] (fun U => GM ω th k q M f U U.heap)) (vp_Si (fun r_ => r_ = iI (M r i))) 0 0 (fun _ => False) := by
  refine Met.ofW (cc := cX1_at) (maxL := 3) (ret := (some .int)) (by decide +kernel) rfl ?_
  intro p e s m args below meth c s₁ B hml hv
  obtain ⟨rfl, hG⟩ := hv
  have hx := B.exec
  have hb := B.bytes
  have hrt := B.returns
  have hts : ∀ w ∈ wsU, w.before _ s = true := fun w h => atoms_spec (ws := wsX1_at) B.pre w (List.mem_cons_of_mem _ h)
  have hown : s.vm.findClass "NoiseRingModel" = some m.cls := findClass_of_methodNamed B.named
  have hlocks := B.notSynchronized
  have hl := lv_entry ([.ref (mo ω), .int (iI (r)), .int (iI (i))]) (n := 3) (Nat.le_of_ble_eq_true rfl)
  rw [lg_entry_eq]
  generalize (lg_sl ([.ref (mo ω), .int (iI (r)), .int (iI (i))]) ++ List.replicate (3 - (lg_sl ([.ref (mo ω), .int (iI (r)), .int (iI (i))])).length) Slot.unset).toArray = ls at hl ⊢
  have hl : lv_has ls 3 [(0, .ref (mo ω)), (1, .int (iI (r))), (2, .int (iI (i)))] := hl
  refine lv_aload_n hx hb dX1_at_0 rfl (lv_at hl 0 rfl) ?_
  refine gm_get hx hb hts hown hG 3 (by decide) rfl u327 dX1_at_1 ?_
  refine ix_bipush hx hb (by decide) dX1_at_4 ?_
  refine lv_iload_n hx hb dX1_at_6 rfl (lv_at hl 1 rfl) ?_
  refine ix_imul hx hb dX1_at_7 ?_
  refine lv_iload_n hx hb dX1_at_8 rfl (lv_at hl 2 rfl) ?_
  refine ix_iadd hx hb dX1_at_9 ?_
  refine wx_i (congrArg iI (show ((16 * r) + i) = ((16 * (r) + (i) : Nat) : Int) by omega)) ?_
  refine gm_rld (r := r) (i := i) hx hb hG (by omega) (by omega) dX1_at_10 ?_
  exact W.iret hx hb hrt (fun t ht hW => ⟨_, rfl, rfl, ht⟩) t_nil dX1_at_11
set_option maxHeartbeats 4000000 in
set_option maxRecDepth 100000 in
theorem m_of (l : Launch) (ω : WM) (th k q : Int) (M : Nat → Nat → Int) (f : Nat → Int) (v : Int) (hq1 : 3329 ≤ q) (hq2 : q ≤ 8380417) (v1 : -9223372036854775808 ≤ v) (v2 : v < 9223372036854775808) : Met l yX1_of wsX1_of ({ frames := 1, cells := 0, slots := 0, locals := 25 }) (va_Pc [.ref (mo ω), .long (lI (v))] (fun U => GM ω th k q M f U U.heap)) (vp_Si (fun r_ => r_ = iI (v % q))) 0 0 (fun _ => False) := by
  refine Met.ofW (cc := cX1_of) (maxL := 3) (ret := (some .int)) (by decide +kernel) rfl ?_
  intro p e s m args below meth c s₁ B hml hv
  obtain ⟨rfl, hG⟩ := hv
  have hx := B.exec
  have hb := B.bytes
  have hrt := B.returns
  have hts : ∀ w ∈ wsU, w.before _ s = true := fun w h => atoms_spec (ws := wsX1_of) B.pre w (List.mem_cons_of_mem _ h)
  have hown : s.vm.findClass "NoiseRingModel" = some m.cls := findClass_of_methodNamed B.named
  have hlocks := B.notSynchronized
  have hl := lv_entry ([.ref (mo ω), .long (lI (v))]) (n := 3) (Nat.le_of_ble_eq_true rfl)
  rw [lg_entry_eq]
  generalize (lg_sl ([.ref (mo ω), .long (lI (v))]) ++ List.replicate (3 - (lg_sl ([.ref (mo ω), .long (lI (v))])).length) Slot.unset).toArray = ls at hl ⊢
  have hl : lv_has ls 3 [(0, .ref (mo ω)), (1, .long (lI (v)))] := hl
  refine lv_lload_n hx hb dX1_of_0 rfl (lv_at hl 1 rfl) ?_
  refine lv_aload_n hx hb dX1_of_1 rfl (lv_at hl 0 rfl) ?_
  refine gm_get hx hb hts hown hG 2 (by decide) rfl u326 dX1_of_2 ?_
  refine ix_i2l hx hb (by omega) (by omega) dX1_of_5 ?_
  refine vp_callSl (va_Run.run (va_runS (As := [.long (lI (v)), .long (lI (q))]) (rest := []) ⟨hx, hb, hml, hown, hts⟩ (c_floorModL l (v) (q) (by omega) (by omega) (by omega) (by omega)) (va_cwS 2 hts (gU (hd := [.methodLink "NoiseRingModel" 23 yJ_floorModL, .static yJ_floorModL, .initialized "java/lang/Math"]) (List.forall_mem_cons.mpr ⟨u362, List.forall_mem_cons.mpr ⟨u199, List.forall_mem_cons.mpr ⟨u36, fun _ h => by cases h⟩⟩⟩) u200) rfl rfl rfl (by decide +kernel) ⟨Nat.le_of_ble_eq_true rfl, Nat.le_of_ble_eq_true rfl⟩) gn_S rfl rfl hl.1 rfl (lv_room (Nat.le_of_ble_eq_true rfl)) dX1_of_6 ⟨Nat.le_of_ble_eq_true rfl, Nat.le_of_ble_eq_true rfl⟩)) (fun r6 hr6 => ?_)
  subst hr6
  refine ix_l2i hx hb dX1_of_9 ?_
  exact W.iret hx hb hrt (fun t ht hW => ⟨_, rfl, rfl, ht⟩) t_nil dX1_of_10
set_option maxHeartbeats 4000000 in
set_option maxRecDepth 100000 in
theorem m_size0 (l : Launch) (ω : WM) (th k q : Int) (M : Nat → Nat → Int) (f : Nat → Int) (x : Int) (hq1 : 3329 ≤ q) (hq2 : q ≤ 8380417) (qo : q % 2 = 1) (x1 : 0 ≤ x) (x2 : x < q) : Met l yX1_size0 wsX1_size0 ({ frames := 0, cells := 0, slots := 0, locals := 0 }) (va_Pc [.ref (mo ω), .int (iI (x))] (fun U => GM ω th k q M f U U.heap)) (vp_Si (fun r_ => r_ = iI (sCs q x))) 0 0 (fun _ => False) := by
  refine Met.ofW (cc := cX1_size0) (maxL := 2) (ret := (some .int)) (by decide +kernel) rfl ?_
  intro p e s m args below meth c s₁ B hml hv
  obtain ⟨rfl, hG⟩ := hv
  have hx := B.exec
  have hb := B.bytes
  have hrt := B.returns
  have hts : ∀ w ∈ wsU, w.before _ s = true := fun w h => atoms_spec (ws := wsX1_size0) B.pre w (List.mem_cons_of_mem _ h)
  have hown : s.vm.findClass "NoiseRingModel" = some m.cls := findClass_of_methodNamed B.named
  have hlocks := B.notSynchronized
  have hl := lv_entry ([.ref (mo ω), .int (iI (x))]) (n := 2) (Nat.le_of_ble_eq_true rfl)
  rw [lg_entry_eq]
  generalize (lg_sl ([.ref (mo ω), .int (iI (x))]) ++ List.replicate (2 - (lg_sl ([.ref (mo ω), .int (iI (x))])).length) Slot.unset).toArray = ls at hl ⊢
  have hl : lv_has ls 2 [(0, .ref (mo ω)), (1, .int (iI (x)))] := hl
  refine lv_iload_n hx hb dX1_size0_0 rfl (lv_at hl 1 rfl) ?_
  refine lv_aload_n hx hb dX1_size0_1 rfl (lv_at hl 0 rfl) ?_
  refine gm_get hx hb hts hown hG 2 (by decide) rfl u326 dX1_size0_2 ?_
  refine ix_iconst hx hb dX1_size0_5 ?_
  refine ix_isub hx hb dX1_size0_6 ?_
  refine ix_iconst hx hb dX1_size0_7 ?_
  refine ix_idiv hx hb (by omega) (by omega) (by omega) (by omega) dX1_size0_8 ?_
  refine ix_icmp_le (tgt := 21) hx hb (by omega) (by omega) (by omega) (by omega) dX1_size0_9 (by decide) (fun h9 => ?_) (fun h9 => ?_)
  · skip
    refine lv_iload_n hx hb dX1_size0_21 rfl (lv_at hl 1 rfl) ?_
    exact W.iret hx hb hrt (fun t ht hW => ⟨_, rfl, congrArg iI (by unfold sCs; split <;> omega), ht⟩) t_nil dX1_size0_22
  · skip
    refine lv_aload_n hx hb dX1_size0_12 rfl (lv_at hl 0 rfl) ?_
    refine gm_get hx hb hts hown hG 2 (by decide) rfl u326 dX1_size0_13 ?_
    refine lv_iload_n hx hb dX1_size0_16 rfl (lv_at hl 1 rfl) ?_
    refine ix_isub hx hb dX1_size0_17 ?_
    refine lv_goto (tgt := 22) hx hb dX1_size0_18 (by decide) ?_
    exact W.iret hx hb hrt (fun t ht hW => ⟨_, rfl, congrArg iI (by unfold sCs; split <;> omega), ht⟩) t_nil dX1_size0_22
set_option maxHeartbeats 4000000 in
set_option maxRecDepth 100000 in
theorem m_most (l : Launch) (ω : WM) (th k q : Int) (M : Nat → Nat → Int) (f : Nat → Int)  (hq1 : 3329 ≤ q) (hq2 : q ≤ 8380417) (qo : q % 2 = 1) (hf : ∀ i, i < 16 → 0 ≤ f i ∧ f i < q) : Met l yX1_most wsX1_most ({ frames := 1, cells := 0, slots := 0, locals := 21 }) (va_Pc [.ref (mo ω), .ref (md ω)] (fun U => GM ω th k q M f U U.heap)) (vp_Si (fun r_ => r_ = iI (sMax q f 16))) 0 0 (fun _ => False) := by
  refine Met.ofW (cc := cX1_most) (maxL := 4) (ret := (some .int)) (by decide +kernel) rfl ?_
  intro p e s m args below meth c s₁ B hml hv
  obtain ⟨rfl, hG⟩ := hv
  have hx := B.exec
  have hb := B.bytes
  have hrt := B.returns
  have hts : ∀ w ∈ wsU, w.before _ s = true := fun w h => atoms_spec (ws := wsX1_most) B.pre w (List.mem_cons_of_mem _ h)
  have hown : s.vm.findClass "NoiseRingModel" = some m.cls := findClass_of_methodNamed B.named
  have hlocks := B.notSynchronized
  have hl := lv_entry ([.ref (mo ω), .ref (md ω)]) (n := 4) (Nat.le_of_ble_eq_true rfl)
  rw [lg_entry_eq]
  generalize (lg_sl ([.ref (mo ω), .ref (md ω)]) ++ List.replicate (4 - (lg_sl ([.ref (mo ω), .ref (md ω)])).length) Slot.unset).toArray = ls at hl ⊢
  have hl : lv_has ls 4 [(0, .ref (mo ω)), (1, .ref (md ω))] := hl
  refine ix_iconst hx hb dX1_most_0 ?_
  refine lv_istore_n (lv' := [(2, .int (iI (0))), (0, .ref (mo ω)), (1, .ref (md ω))]) hx hb dX1_most_1 rfl hl (by decide) rfl (fun ls hl => ?_)
  refine ix_iconst hx hb dX1_most_2 ?_
  refine lv_istore_n (lv' := [(3, .int (iI (0))), (2, .int (iI (0))), (0, .ref (mo ω)), (1, .ref (md ω))]) hx hb dX1_most_3 rfl hl (by decide) rfl (fun ls hl => ?_)
  refine ix_loop (I := fun j ls => lv_has ls 4 [(3, .int (iI ((j : Nat)))), (2, .int (iI (sMax q f (j)))), (1, .ref (md ω)), (0, .ref (mo ω))]) (16) 0 (by omega) (lv_sub hl [0, 1, 3, 2] rfl) (fun ls hl => ?_) (fun j ls hj hl ih4 => ?_)
  · skip
    have hl : lv_has ls 4 [(3, .int (iI ((16 : Nat)))), (2, .int (iI (sMax q f (16)))), (1, .ref (md ω)), (0, .ref (mo ω))] := hl
    refine lv_iload_n hx hb dX1_most_4 rfl (lv_at hl 0 rfl) ?_
    refine ix_bipush hx hb (by decide) dX1_most_5 ?_
    refine ix_icmp_ge (tgt := 28) hx hb (by omega) (by omega) (by omega) (by omega) dX1_most_7 (by decide) (fun h7 => ?_) (fun h7 => absurd h7 (by omega))
    refine lv_iload_n hx hb dX1_most_28 rfl (lv_at hl 1 rfl) ?_
    exact W.iret hx hb hrt (fun t ht hW => ⟨_, rfl, rfl, ht⟩) t_nil dX1_most_29
  · skip
    have hl : lv_has ls 4 [(3, .int (iI ((j : Nat)))), (2, .int (iI (sMax q f (j)))), (1, .ref (md ω)), (0, .ref (mo ω))] := hl
    refine lv_iload_n hx hb dX1_most_4 rfl (lv_at hl 0 rfl) ?_
    refine ix_bipush hx hb (by decide) dX1_most_5 ?_
    refine ix_icmp_ge (tgt := 28) hx hb (by omega) (by omega) (by omega) (by omega) dX1_most_7 (by decide) (fun h7 => absurd h7 (by omega)) (fun h7 => ?_)
    have hm := hf j hj
    have hx1 := sMax_in (q := q) (f := f) (n := j) (by omega) (fun i hi => hf i (by omega))
    have hc := sCs_in hm.1 hm.2
    refine lv_iload_n hx hb dX1_most_10 rfl (lv_at hl 1 rfl) ?_
    refine lv_aload_n hx hb dX1_most_11 rfl (lv_at hl 3 rfl) ?_
    refine lv_aload_n hx hb dX1_most_12 rfl (lv_at hl 2 rfl) ?_
    refine lv_iload_n hx hb dX1_most_13 rfl (lv_at hl 0 rfl) ?_
    refine gm_mld (i := j) hx hb hG (by omega) dX1_most_14 ?_
    refine vp_callSi (va_Run.run (va_runV (As := [.int (iI (f (j)))]) (rest := [.int (iI (sMax q f (j)))]) ⟨hx, hb, hml, hown, hts⟩ (m_size0 l ω th k q M f (f (j)) hq1 hq2 qo (by omega) (by omega)) (cwV 1 hts (gU (hd := [.methodLink "NoiseRingModel" 29 yX1_size0, .instanceMethod yX1_size0, .selects "NoiseRingModel" yX1_size0 yX1_size0, .initialized "NoiseRingModel"]) (List.forall_mem_cons.mpr ⟨u377, List.forall_mem_cons.mpr ⟨u378, List.forall_mem_cons.mpr ⟨u20, List.forall_mem_cons.mpr ⟨u30, fun _ h => by cases h⟩⟩⟩⟩) u379) rfl rfl rfl (by decide +kernel) ⟨Nat.le_of_ble_eq_true rfl, Nat.le_of_ble_eq_true rfl⟩) (gm_V hG) rfl rfl hl.1 rfl (lv_room (Nat.le_of_ble_eq_true rfl)) dX1_most_15 ⟨Nat.le_of_ble_eq_true rfl, Nat.le_of_ble_eq_true rfl⟩)) (fun r15 hr15 => ?_)
    subst hr15
    refine ix_mmax hx hb hts (hml.trans hl.1.symm) hown u380 (by omega) (by omega) (by omega) (by omega) (Nat.le_of_ble_eq_true rfl) (Nat.le_of_ble_eq_true rfl) (Nat.le_of_ble_eq_true rfl) (Nat.le_of_ble_eq_true rfl) dX1_most_18 ?_
    refine wx_i (congrArg iI (show (if sMax q f j < sCs q (f (j)) then sCs q (f (j)) else sMax q f j) = sMax q f (j + 1) by rw [sMax]; split <;> omega)) ?_
    refine lv_istore_n (lv' := [(2, .int (iI (sMax q f (j + 1)))), (3, .int (iI ((j : Nat)))), (1, .ref (md ω)), (0, .ref (mo ω))]) hx hb dX1_most_21 rfl hl (by decide) rfl (fun ls hl => ?_)
    refine lv_iinc (k := 1) (v := iI ((j : Nat) + 1)) (lv' := [(3, .int (iI ((j : Nat) + 1))), (2, .int (iI (sMax q f (j + 1)))), (1, .ref (md ω)), (0, .ref (mo ω))]) hx hb dX1_most_22 hl rfl (iI_add _ _) (by decide) rfl (fun ls hl => ?_)
    refine lv_goto (tgt := 4) hx hb dX1_most_25 (by decide) ?_
    exact ih4 ls (lv_sub hl [0, 1, 2, 3] rfl)
set_option maxHeartbeats 4000000 in
set_option maxRecDepth 100000 in
theorem m_rest (l : Launch)  (x a : Int) (x1 : 0 ≤ x) (x2 : x < 2147483648) (a1 : 0 < a) (a2 : a < 1073741824) : Met l yX1_rest wsX1_rest ({ frames := 0, cells := 0, slots := 0, locals := 0 }) (va_Pc [.int (iI (x)), .int (iI (a))] (fun _ => True)) (vp_Si (fun r_ => r_ = iI (sNear x a))) 0 0 (fun _ => False) := by
  refine Met.ofW (cc := cX1_rest) (maxL := 3) (ret := (some .int)) (by decide +kernel) rfl ?_
  intro p e s m args below meth c s₁ B hml hv
  obtain ⟨rfl, hG⟩ := hv
  have hx := B.exec
  have hb := B.bytes
  have hrt := B.returns
  have hts : ∀ w ∈ wsU, w.before _ s = true := fun w h => atoms_spec (ws := wsX1_rest) B.pre w (List.mem_cons_of_mem _ h)
  have hown : s.vm.findClass "NoiseRingModel" = some m.cls := findClass_of_methodNamed B.named
  have hlocks := B.notSynchronized
  have hl := lv_entry ([.int (iI (x)), .int (iI (a))]) (n := 3) (Nat.le_of_ble_eq_true rfl)
  rw [lg_entry_eq]
  generalize (lg_sl ([.int (iI (x)), .int (iI (a))]) ++ List.replicate (3 - (lg_sl ([.int (iI (x)), .int (iI (a))])).length) Slot.unset).toArray = ls at hl ⊢
  have hl : lv_has ls 3 [(0, .int (iI (x))), (1, .int (iI (a)))] := hl
  have h1 := Int.emod_nonneg x (show a ≠ 0 by omega)
  have h2 := Int.emod_lt_of_pos x a1
  refine lv_iload_n hx hb dX1_rest_0 rfl (lv_at hl 0 rfl) ?_
  refine lv_iload_n hx hb dX1_rest_1 rfl (lv_at hl 1 rfl) ?_
  refine ix_irem hx hb (by omega) (by omega) (by omega) (by omega) dX1_rest_2 ?_
  refine lv_istore_n (lv' := [(2, .int (iI ((x % a)))), (0, .int (iI (x))), (1, .int (iI (a)))]) hx hb dX1_rest_3 rfl hl (by decide) rfl (fun ls hl => ?_)
  refine ix_iconst hx hb dX1_rest_4 ?_
  refine lv_iload_n hx hb dX1_rest_5 rfl (lv_at hl 0 rfl) ?_
  refine ix_imul hx hb dX1_rest_6 ?_
  refine lv_iload_n hx hb dX1_rest_7 rfl (lv_at hl 2 rfl) ?_
  refine ix_icmp_le (tgt := 17) hx hb (by omega) (by omega) (by omega) (by omega) dX1_rest_8 (by decide) (fun h8 => ?_) (fun h8 => ?_)
  · skip
    refine lv_iload_n hx hb dX1_rest_17 rfl (lv_at hl 0 rfl) ?_
    exact W.iret hx hb hrt (fun t ht hW => ⟨_, rfl, congrArg iI (by unfold sNear; first | rw [if_pos (by omega)] | rw [if_neg (by omega)]), ht⟩) t_nil dX1_rest_18
  · skip
    refine lv_iload_n hx hb dX1_rest_11 rfl (lv_at hl 0 rfl) ?_
    refine lv_iload_n hx hb dX1_rest_12 rfl (lv_at hl 2 rfl) ?_
    refine ix_isub hx hb dX1_rest_13 ?_
    refine lv_goto (tgt := 18) hx hb dX1_rest_14 (by decide) ?_
    exact W.iret hx hb hrt (fun t ht hW => ⟨_, rfl, congrArg iI (by unfold sNear; first | rw [if_pos (by omega)] | rw [if_neg (by omega)]), ht⟩) t_nil dX1_rest_18
set_option maxHeartbeats 4000000 in
set_option maxRecDepth 100000 in
theorem m_isAlpha (l : Launch) (ω : WM) (th k q : Int) (M : Nat → Nat → Int) (f : Nat → Int) (a : Int) (hq1 : 3329 ≤ q) (hq2 : q ≤ 8380417) (a1 : -2147483648 ≤ a) (a2 : a < 2147483648) : Met l yX1_isAlpha wsX1_isAlpha ({ frames := 0, cells := 0, slots := 0, locals := 0 }) (va_Pc [.ref (mo ω), .int (iI (a))] (fun U => GM ω th k q M f U U.heap)) (vp_Si (fun r_ => r_ = iI (sAli q a))) 0 0 (fun _ => False) := by
  refine Met.ofW (cc := cX1_isAlpha) (maxL := 2) (ret := (some .boolean)) (by decide +kernel) rfl ?_
  intro p e s m args below meth c s₁ B hml hv
  obtain ⟨rfl, hG⟩ := hv
  have hx := B.exec
  have hb := B.bytes
  have hrt := B.returns
  have hts : ∀ w ∈ wsU, w.before _ s = true := fun w h => atoms_spec (ws := wsX1_isAlpha) B.pre w (List.mem_cons_of_mem _ h)
  have hown : s.vm.findClass "NoiseRingModel" = some m.cls := findClass_of_methodNamed B.named
  have hlocks := B.notSynchronized
  have hl := lv_entry ([.ref (mo ω), .int (iI (a))]) (n := 2) (Nat.le_of_ble_eq_true rfl)
  rw [lg_entry_eq]
  generalize (lg_sl ([.ref (mo ω), .int (iI (a))]) ++ List.replicate (2 - (lg_sl ([.ref (mo ω), .int (iI (a))])).length) Slot.unset).toArray = ls at hl ⊢
  have hl : lv_has ls 2 [(0, .ref (mo ω)), (1, .int (iI (a)))] := hl
  refine lv_iload_n hx hb dX1_isAlpha_0 rfl (lv_at hl 1 rfl) ?_
  refine ix_if_le (tgt := 25) hx hb (by omega) (by omega) dX1_isAlpha_1 (by decide) (fun h1 => ?_) (fun h1 => ?_)
  · skip
    refine ix_iconst hx hb dX1_isAlpha_25 ?_
    exact W.zret (ty := .boolean) hx hb hrt (by decide) (fun t ht hW => ⟨_, rfl, congrArg iI (by unfold sAli; first | rw [if_pos ⟨by omega, by omega, by assumption⟩] | rw [if_neg (fun g => by have g1 := g.1; have g2 := g.2.1; have g3 := g.2.2; omega)]), ht⟩) t_nil dX1_isAlpha_26
  · skip
    refine lv_iload_n hx hb dX1_isAlpha_4 rfl (lv_at hl 1 rfl) ?_
    refine ix_iconst hx hb dX1_isAlpha_5 ?_
    refine ix_irem hx hb (by omega) (by omega) (by omega) (by omega) dX1_isAlpha_6 ?_
    refine ix_if_ne (tgt := 25) hx hb (by omega) (by omega) dX1_isAlpha_7 (by decide) (fun h7 => ?_) (fun h7 => ?_)
    · skip
      refine ix_iconst hx hb dX1_isAlpha_25 ?_
      exact W.zret (ty := .boolean) hx hb hrt (by decide) (fun t ht hW => ⟨_, rfl, congrArg iI (by unfold sAli; first | rw [if_pos ⟨by omega, by omega, by assumption⟩] | rw [if_neg (fun g => by have g1 := g.1; have g2 := g.2.1; have g3 := g.2.2; omega)]), ht⟩) t_nil dX1_isAlpha_26
    · skip
      refine lv_aload_n hx hb dX1_isAlpha_10 rfl (lv_at hl 0 rfl) ?_
      refine gm_get hx hb hts hown hG 2 (by decide) rfl u326 dX1_isAlpha_11 ?_
      refine ix_iconst hx hb dX1_isAlpha_14 ?_
      refine ix_isub hx hb dX1_isAlpha_15 ?_
      refine lv_iload_n hx hb dX1_isAlpha_16 rfl (lv_at hl 1 rfl) ?_
      have h9 := Int.emod_nonneg (q - 1) (show a ≠ 0 by omega)
      have h8 := Int.emod_lt_of_pos (q - 1) (show 0 < a by omega)
      refine ix_irem hx hb (by omega) (by omega) (by omega) (by omega) dX1_isAlpha_17 ?_
      refine ix_if_ne (tgt := 25) hx hb (by omega) (by omega) dX1_isAlpha_18 (by decide) (fun h18 => ?_) (fun h18 => ?_)
      · skip
        refine ix_iconst hx hb dX1_isAlpha_25 ?_
        exact W.zret (ty := .boolean) hx hb hrt (by decide) (fun t ht hW => ⟨_, rfl, congrArg iI (by unfold sAli; first | rw [if_pos ⟨by omega, by omega, by assumption⟩] | rw [if_neg (fun g => by have g1 := g.1; have g2 := g.2.1; have g3 := g.2.2; omega)]), ht⟩) t_nil dX1_isAlpha_26
      · skip
        refine ix_iconst hx hb dX1_isAlpha_21 ?_
        refine lv_goto (tgt := 26) hx hb dX1_isAlpha_22 (by decide) ?_
        exact W.zret (ty := .boolean) hx hb hrt (by decide) (fun t ht hW => ⟨_, rfl, congrArg iI (by unfold sAli; first | rw [if_pos ⟨by omega, by omega, by assumption⟩] | rw [if_neg (fun g => by have g1 := g.1; have g2 := g.2.1; have g3 := g.2.2; omega)]), ht⟩) t_nil dX1_isAlpha_26
set_option maxHeartbeats 4000000 in
set_option maxRecDepth 100000 in
theorem m_restOf (l : Launch) (ω : WM) (th k q : Int) (M : Nat → Nat → Int) (f : Nat → Int) (x a : Int) (hq1 : 3329 ≤ q) (hq2 : q ≤ 8380417) (x1 : 0 ≤ x) (x2 : x < q) (a1 : 0 < a) (a2 : a < 8380417) : Met l yX1_restOf wsX1_restOf ({ frames := 1, cells := 0, slots := 0, locals := 22 }) (va_Pc [.ref (mo ω), .int (iI (x)), .int (iI (a))] (fun U => GM ω th k q M f U U.heap)) (vp_Si (fun r_ => r_ = iI (sRest q x a))) 0 0 (fun _ => False) := by
  refine Met.ofW (cc := cX1_restOf) (maxL := 4) (ret := (some .int)) (by decide +kernel) rfl ?_
  intro p e s m args below meth c s₁ B hml hv
  obtain ⟨rfl, hG⟩ := hv
  have hx := B.exec
  have hb := B.bytes
  have hrt := B.returns
  have hts : ∀ w ∈ wsU, w.before _ s = true := fun w h => atoms_spec (ws := wsX1_restOf) B.pre w (List.mem_cons_of_mem _ h)
  have hown : s.vm.findClass "NoiseRingModel" = some m.cls := findClass_of_methodNamed B.named
  have hlocks := B.notSynchronized
  have hl := lv_entry ([.ref (mo ω), .int (iI (x)), .int (iI (a))]) (n := 4) (Nat.le_of_ble_eq_true rfl)
  rw [lg_entry_eq]
  generalize (lg_sl ([.ref (mo ω), .int (iI (x)), .int (iI (a))]) ++ List.replicate (4 - (lg_sl ([.ref (mo ω), .int (iI (x)), .int (iI (a))])).length) Slot.unset).toArray = ls at hl ⊢
  have hl : lv_has ls 4 [(0, .ref (mo ω)), (1, .int (iI (x))), (2, .int (iI (a)))] := hl
  have hn := sNear_in (x := x) a1
  refine lv_iload_n hx hb dX1_restOf_0 rfl (lv_at hl 1 rfl) ?_
  refine lv_iload_n hx hb dX1_restOf_1 rfl (lv_at hl 2 rfl) ?_
  refine vp_callSi (va_Run.run (va_runS (As := [.int (iI (x)), .int (iI (a))]) (rest := []) ⟨hx, hb, hml, hown, hts⟩ (m_rest l (x) (a) (by omega) (by omega) (by omega) (by omega)) (va_cwS 2 hts (gU (hd := [.methodLink "NoiseRingModel" 59 yX1_rest, .static yX1_rest, .initialized "NoiseRingModel"]) (List.forall_mem_cons.mpr ⟨u385, List.forall_mem_cons.mpr ⟨u386, List.forall_mem_cons.mpr ⟨u30, fun _ h => by cases h⟩⟩⟩) u387) rfl rfl rfl (by decide +kernel) ⟨Nat.le_of_ble_eq_true rfl, Nat.le_of_ble_eq_true rfl⟩) gn_S rfl rfl hl.1 rfl (lv_room (Nat.le_of_ble_eq_true rfl)) dX1_restOf_2 ⟨Nat.le_of_ble_eq_true rfl, Nat.le_of_ble_eq_true rfl⟩)) (fun r2 hr2 => ?_)
  subst hr2
  refine lv_istore_n (lv' := [(3, .int (iI ((sNear (x) (a))))), (0, .ref (mo ω)), (1, .int (iI (x))), (2, .int (iI (a)))]) hx hb dX1_restOf_5 rfl hl (by decide) rfl (fun ls hl => ?_)
  refine lv_iload_n hx hb dX1_restOf_6 rfl (lv_at hl 2 rfl) ?_
  refine lv_iload_n hx hb dX1_restOf_7 rfl (lv_at hl 0 rfl) ?_
  refine ix_isub hx hb dX1_restOf_8 ?_
  refine lv_aload_n hx hb dX1_restOf_9 rfl (lv_at hl 1 rfl) ?_
  refine gm_get hx hb hts hown hG 2 (by decide) rfl u326 dX1_restOf_10 ?_
  refine ix_iconst hx hb dX1_restOf_13 ?_
  refine ix_isub hx hb dX1_restOf_14 ?_
  refine ix_icmp_ne (tgt := 24) hx hb (by omega) (by omega) (by omega) (by omega) dX1_restOf_15 (by decide) (fun h15 => ?_) (fun h15 => ?_)
  · skip
    refine lv_iload_n hx hb dX1_restOf_24 rfl (lv_at hl 0 rfl) ?_
    exact W.iret hx hb hrt (fun t ht hW => ⟨_, rfl, congrArg iI (by unfold sRest; first | rw [if_pos (by omega)] | rw [if_neg (by omega)]), ht⟩) t_nil dX1_restOf_25
  · skip
    refine lv_iload_n hx hb dX1_restOf_18 rfl (lv_at hl 0 rfl) ?_
    refine ix_iconst hx hb dX1_restOf_19 ?_
    refine ix_isub hx hb dX1_restOf_20 ?_
    refine lv_goto (tgt := 25) hx hb dX1_restOf_21 (by decide) ?_
    exact W.iret hx hb hrt (fun t ht hW => ⟨_, rfl, congrArg iI (by unfold sRest; first | rw [if_pos (by omega)] | rw [if_neg (by omega)]), ht⟩) t_nil dX1_restOf_25
set_option maxHeartbeats 4000000 in
set_option maxRecDepth 100000 in
theorem m_partOf (l : Launch) (ω : WM) (th k q : Int) (M : Nat → Nat → Int) (f : Nat → Int) (x a : Int) (hq1 : 3329 ≤ q) (hq2 : q ≤ 8380417) (x1 : 0 ≤ x) (x2 : x < q) (a1 : 0 < a) (a2 : a < 8380417) : Met l yX1_partOf wsX1_partOf ({ frames := 1, cells := 0, slots := 0, locals := 22 }) (va_Pc [.ref (mo ω), .int (iI (x)), .int (iI (a))] (fun U => GM ω th k q M f U U.heap)) (vp_Si (fun r_ => r_ = iI (sPart q x a))) 0 0 (fun _ => False) := by
  refine Met.ofW (cc := cX1_partOf) (maxL := 4) (ret := (some .int)) (by decide +kernel) rfl ?_
  intro p e s m args below meth c s₁ B hml hv
  obtain ⟨rfl, hG⟩ := hv
  have hx := B.exec
  have hb := B.bytes
  have hrt := B.returns
  have hts : ∀ w ∈ wsU, w.before _ s = true := fun w h => atoms_spec (ws := wsX1_partOf) B.pre w (List.mem_cons_of_mem _ h)
  have hown : s.vm.findClass "NoiseRingModel" = some m.cls := findClass_of_methodNamed B.named
  have hlocks := B.notSynchronized
  have hl := lv_entry ([.ref (mo ω), .int (iI (x)), .int (iI (a))]) (n := 4) (Nat.le_of_ble_eq_true rfl)
  rw [lg_entry_eq]
  generalize (lg_sl ([.ref (mo ω), .int (iI (x)), .int (iI (a))]) ++ List.replicate (4 - (lg_sl ([.ref (mo ω), .int (iI (x)), .int (iI (a))])).length) Slot.unset).toArray = ls at hl ⊢
  have hl : lv_has ls 4 [(0, .ref (mo ω)), (1, .int (iI (x))), (2, .int (iI (a)))] := hl
  have hn := sNear_in (x := x) a1
  have hn2 := sNear_low x1 a1
  refine lv_iload_n hx hb dX1_partOf_0 rfl (lv_at hl 1 rfl) ?_
  refine lv_iload_n hx hb dX1_partOf_1 rfl (lv_at hl 2 rfl) ?_
  refine vp_callSi (va_Run.run (va_runS (As := [.int (iI (x)), .int (iI (a))]) (rest := []) ⟨hx, hb, hml, hown, hts⟩ (m_rest l (x) (a) (by omega) (by omega) (by omega) (by omega)) (va_cwS 2 hts (gU (hd := [.methodLink "NoiseRingModel" 59 yX1_rest, .static yX1_rest, .initialized "NoiseRingModel"]) (List.forall_mem_cons.mpr ⟨u385, List.forall_mem_cons.mpr ⟨u386, List.forall_mem_cons.mpr ⟨u30, fun _ h => by cases h⟩⟩⟩) u387) rfl rfl rfl (by decide +kernel) ⟨Nat.le_of_ble_eq_true rfl, Nat.le_of_ble_eq_true rfl⟩) gn_S rfl rfl hl.1 rfl (lv_room (Nat.le_of_ble_eq_true rfl)) dX1_partOf_2 ⟨Nat.le_of_ble_eq_true rfl, Nat.le_of_ble_eq_true rfl⟩)) (fun r2 hr2 => ?_)
  subst hr2
  refine lv_istore_n (lv' := [(3, .int (iI ((sNear (x) (a))))), (0, .ref (mo ω)), (1, .int (iI (x))), (2, .int (iI (a)))]) hx hb dX1_partOf_5 rfl hl (by decide) rfl (fun ls hl => ?_)
  refine lv_iload_n hx hb dX1_partOf_6 rfl (lv_at hl 2 rfl) ?_
  refine lv_iload_n hx hb dX1_partOf_7 rfl (lv_at hl 0 rfl) ?_
  refine ix_isub hx hb dX1_partOf_8 ?_
  refine lv_aload_n hx hb dX1_partOf_9 rfl (lv_at hl 1 rfl) ?_
  refine gm_get hx hb hts hown hG 2 (by decide) rfl u326 dX1_partOf_10 ?_
  refine ix_iconst hx hb dX1_partOf_13 ?_
  refine ix_isub hx hb dX1_partOf_14 ?_
  refine ix_icmp_ne (tgt := 22) hx hb (by omega) (by omega) (by omega) (by omega) dX1_partOf_15 (by decide) (fun h15 => ?_) (fun h15 => ?_)
  · skip
    refine lv_iload_n hx hb dX1_partOf_22 rfl (lv_at hl 2 rfl) ?_
    refine lv_iload_n hx hb dX1_partOf_23 rfl (lv_at hl 0 rfl) ?_
    refine ix_isub hx hb dX1_partOf_24 ?_
    refine lv_iload_n hx hb dX1_partOf_25 rfl (lv_at hl 3 rfl) ?_
    refine ix_idiv hx hb (by omega) (by omega) (by omega) (by omega) dX1_partOf_26 ?_
    exact W.iret hx hb hrt (fun t ht hW => ⟨_, rfl, congrArg iI (by unfold sPart; first | rw [if_pos (by omega)] | rw [if_neg (by omega)]), ht⟩) t_nil dX1_partOf_27
  · skip
    refine ix_iconst hx hb dX1_partOf_18 ?_
    refine lv_goto (tgt := 27) hx hb dX1_partOf_19 (by decide) ?_
    exact W.iret hx hb hrt (fun t ht hW => ⟨_, rfl, congrArg iI (by unfold sPart; first | rw [if_pos (by omega)] | rw [if_neg (by omega)]), ht⟩) t_nil dX1_partOf_27
set_option maxHeartbeats 4000000 in
set_option maxRecDepth 100000 in
theorem m_bit (l : Launch)  (low high : Int64) (n : Nat) (n2 : n < 96) : Met l yX1_bit wsX1_bit ({ frames := 0, cells := 0, slots := 0, locals := 0 }) (va_Pc [.long (low), .long (high), .int (iI (n))] (fun _ => True)) (vp_Si (fun r_ => r_ = iI (sBit low high n))) 0 0 (fun _ => False) := by
  refine Met.ofW (cc := cX1_bit) (maxL := 5) (ret := (some .int)) (by decide +kernel) rfl ?_
  intro p e s m args below meth c s₁ B hml hv
  obtain ⟨rfl, hG⟩ := hv
  have hx := B.exec
  have hb := B.bytes
  have hrt := B.returns
  have hts : ∀ w ∈ wsU, w.before _ s = true := fun w h => atoms_spec (ws := wsX1_bit) B.pre w (List.mem_cons_of_mem _ h)
  have hown : s.vm.findClass "NoiseRingModel" = some m.cls := findClass_of_methodNamed B.named
  have hlocks := B.notSynchronized
  have hl := lv_entry ([.long (low), .long (high), .int (iI (n))]) (n := 5) (Nat.le_of_ble_eq_true rfl)
  rw [lg_entry_eq]
  generalize (lg_sl ([.long (low), .long (high), .int (iI (n))]) ++ List.replicate (5 - (lg_sl ([.long (low), .long (high), .int (iI (n))])).length) Slot.unset).toArray = ls at hl ⊢
  have hl : lv_has ls 5 [(0, .long (low)), (2, .long (high)), (4, .int (iI (n)))] := hl
  refine lv_iload hx hb dX1_bit_0 (lv_at hl 2 rfl) ?_
  refine ix_bipush hx hb (by decide) dX1_bit_2 ?_
  refine ix_icmp_ge (tgt := 14) hx hb (by omega) (by omega) (by omega) (by omega) dX1_bit_4 (by decide) (fun h4 => ?_) (fun h4 => ?_)
  · skip
    refine lv_lload_n hx hb dX1_bit_14 rfl (lv_at hl 1 rfl) ?_
    refine lv_iload hx hb dX1_bit_15 (lv_at hl 2 rfl) ?_
    refine ix_bipush hx hb (by decide) dX1_bit_17 ?_
    refine ix_isub hx hb dX1_bit_19 ?_
    refine wx_i (congrArg iI (show ((n : Nat) : Int) - 64 = ((n - 64 : Nat) : Int) by omega)) ?_
    refine lv_lushr hx hb dX1_bit_20 rfl ?_
    refine ix_lconst1 hx hb dX1_bit_21 ?_
    refine lv_land hx hb dX1_bit_22 ?_
    refine wx_l ((lI_bit high (k := n - 64) (by omega)).trans (congrArg lI (show ((high.toBitVec.toNat / 2 ^ ((n - 64) % 64) % 2 : Nat) : Int) = sBit low high n from ?_))) ?_
    · unfold sBit; rw [if_neg (by omega), show (n - 64) % 64 = n - 64 by omega]
    refine ix_l2i hx hb dX1_bit_23 ?_
    exact W.iret hx hb hrt (fun t ht hW => ⟨_, rfl, rfl, ht⟩) t_nil dX1_bit_24
  · skip
    refine lv_lload_n hx hb dX1_bit_7 rfl (lv_at hl 0 rfl) ?_
    refine lv_iload hx hb dX1_bit_8 (lv_at hl 2 rfl) ?_
    refine lv_lushr hx hb dX1_bit_10 rfl ?_
    refine lv_goto (tgt := 21) hx hb dX1_bit_11 (by decide) ?_
    refine ix_lconst1 hx hb dX1_bit_21 ?_
    refine lv_land hx hb dX1_bit_22 ?_
    refine wx_l ((lI_bit low (k := n) (by omega)).trans (congrArg lI (show ((low.toBitVec.toNat / 2 ^ ((n) % 64) % 2 : Nat) : Int) = sBit low high n from ?_))) ?_
    · unfold sBit; rw [if_pos (by omega), show (n) % 64 = n by omega]
    refine ix_l2i hx hb dX1_bit_23 ?_
    exact W.iret hx hb hrt (fun t ht hW => ⟨_, rfl, rfl, ht⟩) t_nil dX1_bit_24
set_option maxHeartbeats 4000000 in
set_option maxRecDepth 100000 in
theorem m_power (l : Launch) (ω : WM) (th k q : Int) (M : Nat → Nat → Int) (f : Nat → Int) (b : Int) (n : Nat) (hq1 : 3329 ≤ q) (hq2 : q ≤ 8380417) (b1 : 0 ≤ b) (b2 : b < 8380417) (n2 : n < 1000) : Met l yX1_power wsX1_power ({ frames := 0, cells := 0, slots := 0, locals := 0 }) (va_Pc [.ref (mo ω), .int (iI (b)), .int (iI (n))] (fun U => GM ω th k q M f U U.heap)) (vp_Si (fun r_ => r_ = iI (sPow q b n))) 0 0 (fun _ => False) := by
  refine Met.ofW (cc := cX1_power) (maxL := 6) (ret := (some .int)) (by decide +kernel) rfl ?_
  intro p e s m args below meth c s₁ B hml hv
  obtain ⟨rfl, hG⟩ := hv
  have hx := B.exec
  have hb := B.bytes
  have hrt := B.returns
  have hts : ∀ w ∈ wsU, w.before _ s = true := fun w h => atoms_spec (ws := wsX1_power) B.pre w (List.mem_cons_of_mem _ h)
  have hown : s.vm.findClass "NoiseRingModel" = some m.cls := findClass_of_methodNamed B.named
  have hlocks := B.notSynchronized
  have hl := lv_entry ([.ref (mo ω), .int (iI (b)), .int (iI (n))]) (n := 6) (Nat.le_of_ble_eq_true rfl)
  rw [lg_entry_eq]
  generalize (lg_sl ([.ref (mo ω), .int (iI (b)), .int (iI (n))]) ++ List.replicate (6 - (lg_sl ([.ref (mo ω), .int (iI (b)), .int (iI (n))])).length) Slot.unset).toArray = ls at hl ⊢
  have hl : lv_has ls 6 [(0, .ref (mo ω)), (1, .int (iI (b))), (2, .int (iI (n)))] := hl
  refine ix_lconst1 hx hb dX1_power_0 ?_
  refine wx_l (congrArg lI (sPow_0 (q := q) (b := b) (by omega)).symm) ?_
  refine lv_lstore_n (lv' := [(3, .long (lI (sPow q b 0))), (0, .ref (mo ω)), (1, .int (iI (b))), (2, .int (iI (n)))]) hx hb dX1_power_1 rfl hl (by decide) rfl (fun ls hl => ?_)
  refine ix_iconst hx hb dX1_power_2 ?_
  refine lv_istore (lv' := [(5, .int (iI (0))), (3, .long (lI (sPow q b 0))), (0, .ref (mo ω)), (1, .int (iI (b))), (2, .int (iI (n)))]) hx hb dX1_power_3 hl (by decide) rfl (fun ls hl => ?_)
  refine ix_loop (I := fun j ls => lv_has ls 6 [(5, .int (iI ((j : Nat)))), (3, .long (lI (sPow q b (j)))), (2, .int (iI (n))), (1, .int (iI (b))), (0, .ref (mo ω))]) (n) 0 (by omega) (lv_sub hl [0, 1, 4, 3, 2] rfl) (fun ls hl => ?_) (fun j ls hj hl ih5 => ?_)
  · skip
    have hl : lv_has ls 6 [(5, .int (iI ((n : Nat)))), (3, .long (lI (sPow q b (n)))), (2, .int (iI (n))), (1, .int (iI (b))), (0, .ref (mo ω))] := hl
    refine lv_iload hx hb dX1_power_5 (lv_at hl 0 rfl) ?_
    refine lv_iload_n hx hb dX1_power_7 rfl (lv_at hl 2 rfl) ?_
    refine ix_icmp_ge (tgt := 28) hx hb (by omega) (by omega) (by omega) (by omega) dX1_power_8 (by decide) (fun h8 => ?_) (fun h8 => absurd h8 (by omega))
    refine lv_lload_n hx hb dX1_power_28 rfl (lv_at hl 1 rfl) ?_
    refine ix_l2i hx hb dX1_power_29 ?_
    exact W.iret hx hb hrt (fun t ht hW => ⟨_, rfl, rfl, ht⟩) t_nil dX1_power_30
  · skip
    have hl : lv_has ls 6 [(5, .int (iI ((j : Nat)))), (3, .long (lI (sPow q b (j)))), (2, .int (iI (n))), (1, .int (iI (b))), (0, .ref (mo ω))] := hl
    refine lv_iload hx hb dX1_power_5 (lv_at hl 0 rfl) ?_
    refine lv_iload_n hx hb dX1_power_7 rfl (lv_at hl 2 rfl) ?_
    refine ix_icmp_ge (tgt := 28) hx hb (by omega) (by omega) (by omega) (by omega) dX1_power_8 (by decide) (fun h8 => absurd h8 (by omega)) (fun h8 => ?_)
    have hp := sPow_in (q := q) (b := b) (by omega) j
    have hp1 : 0 ≤ sPow q b j * b := Int.mul_nonneg hp.1 b1
    have hp2 : sPow q b j * b ≤ 8380417 * 8380417 := Int.mul_le_mul (by omega) (by omega) b1 (by decide)
    refine lv_lload_n hx hb dX1_power_11 rfl (lv_at hl 1 rfl) ?_
    refine lv_iload_n hx hb dX1_power_12 rfl (lv_at hl 3 rfl) ?_
    refine ix_i2l hx hb (by omega) (by omega) dX1_power_13 ?_
    refine ix_lmul hx hb dX1_power_14 ?_
    refine lv_aload_n hx hb dX1_power_15 rfl (lv_at hl 4 rfl) ?_
    refine gm_get hx hb hts hown hG 2 (by decide) rfl u326 dX1_power_16 ?_
    refine ix_i2l hx hb (by omega) (by omega) dX1_power_19 ?_
    refine ix_lrem hx hb (by omega) (by omega) (by omega) (by omega) dX1_power_20 ?_
    refine wx_l (congrArg lI (sPow_s (q := q) (b := b) j)) ?_
    refine lv_lstore_n (lv' := [(3, .long (lI (sPow q b (j + 1)))), (5, .int (iI ((j : Nat)))), (2, .int (iI (n))), (1, .int (iI (b))), (0, .ref (mo ω))]) hx hb dX1_power_21 rfl hl (by decide) rfl (fun ls hl => ?_)
    refine lv_iinc (k := 1) (v := iI ((j : Nat) + 1)) (lv' := [(5, .int (iI ((j : Nat) + 1))), (3, .long (lI (sPow q b (j + 1)))), (2, .int (iI (n))), (1, .int (iI (b))), (0, .ref (mo ω))]) hx hb dX1_power_22 hl rfl (iI_add _ _) (by decide) rfl (fun ls hl => ?_)
    refine lv_goto (tgt := 5) hx hb dX1_power_25 (by decide) ?_
    exact ih5 ls (lv_sub hl [0, 1, 2, 3, 4] rfl)
set_option maxHeartbeats 4000000 in
set_option maxRecDepth 100000 in
theorem m_root (l : Launch) (ω : WM) (th k q : Int) (M : Nat → Nat → Int) (f : Nat → Int)  (hq1 : 3329 ≤ q) (hq2 : q ≤ 8380417) (k1 : 0 ≤ k) (k2 : k ≤ 1) (qk : q = kQ k) : Met l yX1_root wsX1_root ({ frames := 1, cells := 0, slots := 0, locals := 25 }) (va_Pc [.ref (mo ω)] (fun U => GM ω th k q M f U U.heap)) (vp_Si (fun r_ => r_ = iI (kZ k))) 0 0 (fun _ => False) := by
  refine Met.ofW (cc := cX1_root) (maxL := 1) (ret := (some .int)) (by decide +kernel) rfl ?_
  intro p e s m args below meth c s₁ B hml hv
  obtain ⟨rfl, hG⟩ := hv
  have hx := B.exec
  have hb := B.bytes
  have hrt := B.returns
  have hts : ∀ w ∈ wsU, w.before _ s = true := fun w h => atoms_spec (ws := wsX1_root) B.pre w (List.mem_cons_of_mem _ h)
  have hown : s.vm.findClass "NoiseRingModel" = some m.cls := findClass_of_methodNamed B.named
  have hlocks := B.notSynchronized
  have hl := lv_entry ([.ref (mo ω)]) (n := 1) (Nat.le_of_ble_eq_true rfl)
  rw [lg_entry_eq]
  generalize (lg_sl ([.ref (mo ω)]) ++ List.replicate (1 - (lg_sl ([.ref (mo ω)])).length) Slot.unset).toArray = ls at hl ⊢
  have hl : lv_has ls 1 [(0, .ref (mo ω))] := hl
  refine lv_aload_n hx hb dX1_root_0 rfl (lv_at hl 0 rfl) ?_
  refine lv_aload_n hx hb dX1_root_1 rfl (lv_at hl 0 rfl) ?_
  refine gm_get hx hb hts hown hG 1 (by decide) rfl u325 dX1_root_2 ?_
  refine ix_if_ne (tgt := 13) hx hb (by omega) (by omega) dX1_root_5 (by decide) (fun h5 => ?_) (fun h5 => ?_)
  · skip
    refine ix_sipush hx hb (by decide) dX1_root_13 ?_
    refine ix_bipush hx hb (by decide) dX1_root_16 ?_
    refine vp_callSi (va_Run.run (va_runV (As := [.int (iI (1753)), .int (iI (16))]) (rest := []) ⟨hx, hb, hml, hown, hts⟩ (m_power l ω th k q M f (1753) (16) hq1 hq2 (by omega) (by omega) (by omega)) (cwV 2 hts (gU (hd := [.methodLink "NoiseRingModel" 79 yX1_power, .instanceMethod yX1_power, .selects "NoiseRingModel" yX1_power yX1_power, .initialized "NoiseRingModel"]) (List.forall_mem_cons.mpr ⟨u436, List.forall_mem_cons.mpr ⟨u437, List.forall_mem_cons.mpr ⟨u26, List.forall_mem_cons.mpr ⟨u30, fun _ h => by cases h⟩⟩⟩⟩) u438) rfl rfl rfl (by decide +kernel) ⟨Nat.le_of_ble_eq_true rfl, Nat.le_of_ble_eq_true rfl⟩) (gm_V hG) rfl rfl hl.1 rfl (lv_room (Nat.le_of_ble_eq_true rfl)) dX1_root_18 ⟨Nat.le_of_ble_eq_true rfl, Nat.le_of_ble_eq_true rfl⟩)) (fun r18 hr18 => ?_)
    subst hr18
    exact W.iret hx hb hrt (fun t ht hW => ⟨_, rfl, congrArg iI (by subst qk; unfold kZ sPow kB; first | rw [if_pos (by omega)] | rw [if_neg (by omega)]), ht⟩) t_nil dX1_root_21
  · skip
    refine ix_bipush hx hb (by decide) dX1_root_8 ?_
    refine lv_goto (tgt := 16) hx hb dX1_root_10 (by decide) ?_
    refine ix_bipush hx hb (by decide) dX1_root_16 ?_
    refine vp_callSi (va_Run.run (va_runV (As := [.int (iI (17)), .int (iI (16))]) (rest := []) ⟨hx, hb, hml, hown, hts⟩ (m_power l ω th k q M f (17) (16) hq1 hq2 (by omega) (by omega) (by omega)) (cwV 2 hts (gU (hd := [.methodLink "NoiseRingModel" 79 yX1_power, .instanceMethod yX1_power, .selects "NoiseRingModel" yX1_power yX1_power, .initialized "NoiseRingModel"]) (List.forall_mem_cons.mpr ⟨u436, List.forall_mem_cons.mpr ⟨u437, List.forall_mem_cons.mpr ⟨u26, List.forall_mem_cons.mpr ⟨u30, fun _ h => by cases h⟩⟩⟩⟩) u438) rfl rfl rfl (by decide +kernel) ⟨Nat.le_of_ble_eq_true rfl, Nat.le_of_ble_eq_true rfl⟩) (gm_V hG) rfl rfl hl.1 rfl (lv_room (Nat.le_of_ble_eq_true rfl)) dX1_root_18 ⟨Nat.le_of_ble_eq_true rfl, Nat.le_of_ble_eq_true rfl⟩)) (fun r18 hr18 => ?_)
    subst hr18
    exact W.iret hx hb hrt (fun t ht hW => ⟨_, rfl, congrArg iI (by subst qk; unfold kZ sPow kB; first | rw [if_pos (by omega)] | rw [if_neg (by omega)]), ht⟩) t_nil dX1_root_21
set_option maxHeartbeats 4000000 in
set_option maxRecDepth 100000 in
theorem m_along1 (l : Launch) (ω : WM) (th k q : Int) (M : Nat → Nat → Int) (f : Nat → Int) (r : Nat) (x : Int) (hr : r < 12)  (hq1 : 3329 ≤ q) (hq2 : q ≤ 8380417) (hM : ∀ r i, r < 12 → i < 16 → 0 ≤ M r i ∧ M r i < q) (x1 : 0 ≤ x) (x2 : x < q) : Met l yX1_along wsX1_along ({ frames := 1, cells := 0, slots := 0, locals := 22 }) (va_Pc [.ref (mo ω), .int (iI (r)), .int (iI (0)), .int (iI (1)), .long (lI (x))] (fun U => GM ω th k q M f U U.heap)) (vp_Si (fun r_ => r_ = iI (sPol (fun u => M r (0 + u)) x 16 % q))) 0 0 (fun _ => False) := by
  refine Met.ofW (cc := cX1_along) (maxL := 9) (ret := (some .int)) (by decide +kernel) rfl ?_
  intro p e s m args below meth c s₁ B hml hv
  obtain ⟨rfl, hG⟩ := hv
  have hx := B.exec
  have hb := B.bytes
  have hrt := B.returns
  have hts : ∀ w ∈ wsU, w.before _ s = true := fun w h => atoms_spec (ws := wsX1_along) B.pre w (List.mem_cons_of_mem _ h)
  have hown : s.vm.findClass "NoiseRingModel" = some m.cls := findClass_of_methodNamed B.named
  have hlocks := B.notSynchronized
  have hl := lv_entry ([.ref (mo ω), .int (iI (r)), .int (iI (0)), .int (iI (1)), .long (lI (x))]) (n := 9) (Nat.le_of_ble_eq_true rfl)
  rw [lg_entry_eq]
  generalize (lg_sl ([.ref (mo ω), .int (iI (r)), .int (iI (0)), .int (iI (1)), .long (lI (x))]) ++ List.replicate (9 - (lg_sl ([.ref (mo ω), .int (iI (r)), .int (iI (0)), .int (iI (1)), .long (lI (x))])).length) Slot.unset).toArray = ls at hl ⊢
  have hl : lv_has ls 9 [(0, .ref (mo ω)), (1, .int (iI (r))), (2, .int (iI (0))), (3, .int (iI (1))), (4, .long (lI (x)))] := hl
  refine ix_lconst0 hx hb dX1_along_0 ?_
  refine wx_l (congrArg lI (show (0 : Int) = sPol (fun u => M r (0 + (16 - (0) + u))) x (0) % q from (Int.zero_emod q).symm)) ?_
  refine lv_lstore (lv' := [(6, .long (lI (sPol (fun u => M r (0 + (16 - (0) + u))) x (0) % q))), (0, .ref (mo ω)), (1, .int (iI (r))), (2, .int (iI (0))), (3, .int (iI (1))), (4, .long (lI (x)))]) hx hb dX1_along_1 hl (by decide) rfl (fun ls hl => ?_)
  refine ix_bipush hx hb (by decide) dX1_along_3 ?_
  refine lv_iload_n hx hb dX1_along_5 rfl (lv_at hl 4 rfl) ?_
  refine ix_isub hx hb dX1_along_6 ?_
  refine lv_iload_n hx hb dX1_along_7 rfl (lv_at hl 3 rfl) ?_
  refine ix_iadd hx hb dX1_along_8 ?_
  refine wx_i (congrArg iI (show ((16 - 1) + 0) = 15 - ((0 : Nat) : Int) by omega)) ?_
  refine lv_istore (lv' := [(8, .int (iI (15 - ((0 : Nat) : Int)))), (6, .long (lI (sPol (fun u => M r (0 + (16 - (0) + u))) x (0) % q))), (0, .ref (mo ω)), (1, .int (iI (r))), (2, .int (iI (0))), (3, .int (iI (1))), (4, .long (lI (x)))]) hx hb dX1_along_9 hl (by decide) rfl (fun ls hl => ?_)
  refine ix_loop (I := fun t ls => lv_has ls 9 [(8, .int (iI (15 - ((t : Nat) : Int)))), (6, .long (lI (sPol (fun u => M r (0 + (16 - (t) + u))) x (t) % q))), (0, .ref (mo ω)), (1, .int (iI (r))), (3, .int (iI (1))), (4, .long (lI (x)))]) (16) 0 (by omega) (lv_sub hl [0, 1, 2, 3, 5, 6] rfl) (fun ls hl => ?_) (fun t ls ht hl ih11 => ?_)
  · skip
    have hl : lv_has ls 9 [(8, .int (iI (15 - ((16 : Nat) : Int)))), (6, .long (lI (sPol (fun u => M r (0 + (16 - (16) + u))) x (16) % q))), (0, .ref (mo ω)), (1, .int (iI (r))), (3, .int (iI (1))), (4, .long (lI (x)))] := hl
    refine lv_iload hx hb dX1_along_11 (lv_at hl 0 rfl) ?_
    refine ix_if_lt (tgt := 47) hx hb (by omega) (by omega) dX1_along_13 (by decide) (fun h13 => ?_) (fun h13 => absurd h13 (by omega))
    refine lv_lload hx hb dX1_along_47 (lv_at hl 1 rfl) ?_
    refine ix_l2i hx hb dX1_along_49 ?_
    exact W.iret hx hb hrt (fun t ht hW => ⟨_, rfl, congrArg iI (pol_cut (q := q) (x := x) (fun u => M r (0 + u)) 16), ht⟩) t_nil dX1_along_50
  · skip
    have hl : lv_has ls 9 [(8, .int (iI (15 - ((t : Nat) : Int)))), (6, .long (lI (sPol (fun u => M r (0 + (16 - (t) + u))) x (t) % q))), (0, .ref (mo ω)), (1, .int (iI (r))), (3, .int (iI (1))), (4, .long (lI (x)))] := hl
    refine lv_iload hx hb dX1_along_11 (lv_at hl 0 rfl) ?_
    refine ix_if_lt (tgt := 47) hx hb (by omega) (by omega) dX1_along_13 (by decide) (fun h13 => absurd h13 (by omega)) (fun h13 => ?_)
    have hm := hM r (0 + (16 - 1 - t)) hr (by omega)
    have hs1 := Int.emod_nonneg (sPol (fun u => M r (0 + (16 - (t) + u))) x (t)) (show q ≠ 0 by omega)
    have hs2 := Int.emod_lt_of_pos (sPol (fun u => M r (0 + (16 - (t) + u))) x (t)) (show 0 < q by omega)
    have hp1 : 0 ≤ (sPol (fun u => M r (0 + (16 - (t) + u))) x (t) % q) * x := Int.mul_nonneg hs1 x1
    have hp2 : (sPol (fun u => M r (0 + (16 - (t) + u))) x (t) % q) * x ≤ 8380417 * 8380417 := Int.mul_le_mul (by omega) (by omega) x1 (by decide)
    refine lv_lload hx hb dX1_along_16 (lv_at hl 1 rfl) ?_
    refine lv_lload hx hb dX1_along_18 (lv_at hl 5 rfl) ?_
    refine ix_lmul hx hb dX1_along_20 ?_
    refine lv_aload_n hx hb dX1_along_21 rfl (lv_at hl 2 rfl) ?_
    refine lv_iload_n hx hb dX1_along_22 rfl (lv_at hl 3 rfl) ?_
    refine lv_iload hx hb dX1_along_23 (lv_at hl 0 rfl) ?_
    refine wx_i (congrArg iI (show 15 - ((t : Nat) : Int) = ((0 + (16 - 1 - t) : Nat) : Int) by omega)) ?_
    refine vp_callSi (va_Run.run (va_runV (As := [.int (iI (r)), .int (iI ((0 + (16 - 1 - t) : Nat)))]) (rest := [.long (lI ((sPol (fun u => M r (0 + (16 - (t) + u))) x (t) % q * x)))]) ⟨hx, hb, hml, hown, hts⟩ (m_at l ω th k q M f (r) (0 + (16 - 1 - t)) (by omega) (by omega)) (cwV 2 hts (gU (hd := [.methodLink "NoiseRingModel" 45 yX1_at, .instanceMethod yX1_at, .selects "NoiseRingModel" yX1_at yX1_at, .initialized "NoiseRingModel"]) (List.forall_mem_cons.mpr ⟨u356, List.forall_mem_cons.mpr ⟨u357, List.forall_mem_cons.mpr ⟨u16, List.forall_mem_cons.mpr ⟨u30, fun _ h => by cases h⟩⟩⟩⟩) u358) rfl rfl rfl (by decide +kernel) ⟨Nat.le_of_ble_eq_true rfl, Nat.le_of_ble_eq_true rfl⟩) (gm_V hG) rfl rfl hl.1 rfl (lv_room (Nat.le_of_ble_eq_true rfl)) dX1_along_25 ⟨Nat.le_of_ble_eq_true rfl, Nat.le_of_ble_eq_true rfl⟩)) (fun r25 hr25 => ?_)
    subst hr25
    refine ix_i2l hx hb (by omega) (by omega) dX1_along_28 ?_
    refine ix_ladd hx hb dX1_along_29 ?_
    refine lv_aload_n hx hb dX1_along_30 rfl (lv_at hl 2 rfl) ?_
    refine gm_get hx hb hts hown hG 2 (by decide) rfl u326 dX1_along_31 ?_
    refine ix_i2l hx hb (by omega) (by omega) dX1_along_34 ?_
    refine ix_lrem hx hb (by omega) (by omega) (by omega) (by omega) dX1_along_35 ?_
    refine wx_l (congrArg lI (hor_step (q := q) (x := x) (fun u => M r (0 + u)) 16 t ht)) ?_
    refine lv_lstore (lv' := [(6, .long (lI (sPol (fun u => M r (0 + (16 - (t + 1) + u))) x (t + 1) % q))), (8, .int (iI (15 - ((t : Nat) : Int)))), (0, .ref (mo ω)), (1, .int (iI (r))), (3, .int (iI (1))), (4, .long (lI (x)))]) hx hb dX1_along_36 hl (by decide) rfl (fun ls hl => ?_)
    refine lv_iload hx hb dX1_along_38 (lv_at hl 1 rfl) ?_
    refine lv_iload_n hx hb dX1_along_40 rfl (lv_at hl 4 rfl) ?_
    refine ix_isub hx hb dX1_along_41 ?_
    refine wx_i (congrArg iI (show (15 - ((t : Nat) : Int) - 1) = 15 - ((t + 1 : Nat) : Int) by omega)) ?_
    refine lv_istore (lv' := [(8, .int (iI (15 - ((t + 1 : Nat) : Int)))), (6, .long (lI (sPol (fun u => M r (0 + (16 - (t + 1) + u))) x (t + 1) % q))), (0, .ref (mo ω)), (1, .int (iI (r))), (3, .int (iI (1))), (4, .long (lI (x)))]) hx hb dX1_along_42 hl (by decide) rfl (fun ls hl => ?_)
    refine lv_goto (tgt := 11) hx hb dX1_along_44 (by decide) ?_
    exact ih11 ls (lv_sub hl [0, 1, 2, 3, 4, 5] rfl)
set_option maxHeartbeats 4000000 in
set_option maxRecDepth 100000 in
theorem m_along2 (l : Launch) (ω : WM) (th k q : Int) (M : Nat → Nat → Int) (f : Nat → Int) (r first : Nat) (x : Int) (hr : r < 12) (f2 : first < 2) (hq1 : 3329 ≤ q) (hq2 : q ≤ 8380417) (hM : ∀ r i, r < 12 → i < 16 → 0 ≤ M r i ∧ M r i < q) (x1 : 0 ≤ x) (x2 : x < q) : Met l yX1_along wsX1_along ({ frames := 1, cells := 0, slots := 0, locals := 22 }) (va_Pc [.ref (mo ω), .int (iI (r)), .int (iI (first)), .int (iI (2)), .long (lI (x))] (fun U => GM ω th k q M f U U.heap)) (vp_Si (fun r_ => r_ = iI (sPol (fun u => M r (first + 2 * u)) x 8 % q))) 0 0 (fun _ => False) := by
  refine Met.ofW (cc := cX1_along) (maxL := 9) (ret := (some .int)) (by decide +kernel) rfl ?_
  intro p e s m args below meth c s₁ B hml hv
  obtain ⟨rfl, hG⟩ := hv
  have hx := B.exec
  have hb := B.bytes
  have hrt := B.returns
  have hts : ∀ w ∈ wsU, w.before _ s = true := fun w h => atoms_spec (ws := wsX1_along) B.pre w (List.mem_cons_of_mem _ h)
  have hown : s.vm.findClass "NoiseRingModel" = some m.cls := findClass_of_methodNamed B.named
  have hlocks := B.notSynchronized
  have hl := lv_entry ([.ref (mo ω), .int (iI (r)), .int (iI (first)), .int (iI (2)), .long (lI (x))]) (n := 9) (Nat.le_of_ble_eq_true rfl)
  rw [lg_entry_eq]
  generalize (lg_sl ([.ref (mo ω), .int (iI (r)), .int (iI (first)), .int (iI (2)), .long (lI (x))]) ++ List.replicate (9 - (lg_sl ([.ref (mo ω), .int (iI (r)), .int (iI (first)), .int (iI (2)), .long (lI (x))])).length) Slot.unset).toArray = ls at hl ⊢
  have hl : lv_has ls 9 [(0, .ref (mo ω)), (1, .int (iI (r))), (2, .int (iI (first))), (3, .int (iI (2))), (4, .long (lI (x)))] := hl
  refine ix_lconst0 hx hb dX1_along_0 ?_
  refine wx_l (congrArg lI (show (0 : Int) = sPol (fun u => M r (first + 2 * (8 - (0) + u))) x (0) % q from (Int.zero_emod q).symm)) ?_
  refine lv_lstore (lv' := [(6, .long (lI (sPol (fun u => M r (first + 2 * (8 - (0) + u))) x (0) % q))), (0, .ref (mo ω)), (1, .int (iI (r))), (2, .int (iI (first))), (3, .int (iI (2))), (4, .long (lI (x)))]) hx hb dX1_along_1 hl (by decide) rfl (fun ls hl => ?_)
  refine ix_bipush hx hb (by decide) dX1_along_3 ?_
  refine lv_iload_n hx hb dX1_along_5 rfl (lv_at hl 4 rfl) ?_
  refine ix_isub hx hb dX1_along_6 ?_
  refine lv_iload_n hx hb dX1_along_7 rfl (lv_at hl 3 rfl) ?_
  refine ix_iadd hx hb dX1_along_8 ?_
  refine wx_i (congrArg iI (show ((16 - 2) + first) = (first : Int) + 14 - 2 * ((0 : Nat) : Int) by omega)) ?_
  refine lv_istore (lv' := [(8, .int (iI ((first : Int) + 14 - 2 * ((0 : Nat) : Int)))), (6, .long (lI (sPol (fun u => M r (first + 2 * (8 - (0) + u))) x (0) % q))), (0, .ref (mo ω)), (1, .int (iI (r))), (2, .int (iI (first))), (3, .int (iI (2))), (4, .long (lI (x)))]) hx hb dX1_along_9 hl (by decide) rfl (fun ls hl => ?_)
  refine ix_loop (I := fun t ls => lv_has ls 9 [(8, .int (iI ((first : Int) + 14 - 2 * ((t : Nat) : Int)))), (6, .long (lI (sPol (fun u => M r (first + 2 * (8 - (t) + u))) x (t) % q))), (0, .ref (mo ω)), (1, .int (iI (r))), (3, .int (iI (2))), (4, .long (lI (x)))]) (8) 0 (by omega) (lv_sub hl [0, 1, 2, 3, 5, 6] rfl) (fun ls hl => ?_) (fun t ls ht hl ih11 => ?_)
  · skip
    have hl : lv_has ls 9 [(8, .int (iI ((first : Int) + 14 - 2 * ((8 : Nat) : Int)))), (6, .long (lI (sPol (fun u => M r (first + 2 * (8 - (8) + u))) x (8) % q))), (0, .ref (mo ω)), (1, .int (iI (r))), (3, .int (iI (2))), (4, .long (lI (x)))] := hl
    refine lv_iload hx hb dX1_along_11 (lv_at hl 0 rfl) ?_
    refine ix_if_lt (tgt := 47) hx hb (by omega) (by omega) dX1_along_13 (by decide) (fun h13 => ?_) (fun h13 => absurd h13 (by omega))
    refine lv_lload hx hb dX1_along_47 (lv_at hl 1 rfl) ?_
    refine ix_l2i hx hb dX1_along_49 ?_
    exact W.iret hx hb hrt (fun t ht hW => ⟨_, rfl, congrArg iI (pol_cut (q := q) (x := x) (fun u => M r (first + 2 * u)) 8), ht⟩) t_nil dX1_along_50
  · skip
    have hl : lv_has ls 9 [(8, .int (iI ((first : Int) + 14 - 2 * ((t : Nat) : Int)))), (6, .long (lI (sPol (fun u => M r (first + 2 * (8 - (t) + u))) x (t) % q))), (0, .ref (mo ω)), (1, .int (iI (r))), (3, .int (iI (2))), (4, .long (lI (x)))] := hl
    refine lv_iload hx hb dX1_along_11 (lv_at hl 0 rfl) ?_
    refine ix_if_lt (tgt := 47) hx hb (by omega) (by omega) dX1_along_13 (by decide) (fun h13 => absurd h13 (by omega)) (fun h13 => ?_)
    have hm := hM r (first + 2 * (8 - 1 - t)) hr (by omega)
    have hs1 := Int.emod_nonneg (sPol (fun u => M r (first + 2 * (8 - (t) + u))) x (t)) (show q ≠ 0 by omega)
    have hs2 := Int.emod_lt_of_pos (sPol (fun u => M r (first + 2 * (8 - (t) + u))) x (t)) (show 0 < q by omega)
    have hp1 : 0 ≤ (sPol (fun u => M r (first + 2 * (8 - (t) + u))) x (t) % q) * x := Int.mul_nonneg hs1 x1
    have hp2 : (sPol (fun u => M r (first + 2 * (8 - (t) + u))) x (t) % q) * x ≤ 8380417 * 8380417 := Int.mul_le_mul (by omega) (by omega) x1 (by decide)
    refine lv_lload hx hb dX1_along_16 (lv_at hl 1 rfl) ?_
    refine lv_lload hx hb dX1_along_18 (lv_at hl 5 rfl) ?_
    refine ix_lmul hx hb dX1_along_20 ?_
    refine lv_aload_n hx hb dX1_along_21 rfl (lv_at hl 2 rfl) ?_
    refine lv_iload_n hx hb dX1_along_22 rfl (lv_at hl 3 rfl) ?_
    refine lv_iload hx hb dX1_along_23 (lv_at hl 0 rfl) ?_
    refine wx_i (congrArg iI (show (first : Int) + 14 - 2 * ((t : Nat) : Int) = ((first + 2 * (8 - 1 - t) : Nat) : Int) by omega)) ?_
    refine vp_callSi (va_Run.run (va_runV (As := [.int (iI (r)), .int (iI ((first + 2 * (8 - 1 - t) : Nat)))]) (rest := [.long (lI ((sPol (fun u => M r (first + 2 * (8 - (t) + u))) x (t) % q * x)))]) ⟨hx, hb, hml, hown, hts⟩ (m_at l ω th k q M f (r) (first + 2 * (8 - 1 - t)) (by omega) (by omega)) (cwV 2 hts (gU (hd := [.methodLink "NoiseRingModel" 45 yX1_at, .instanceMethod yX1_at, .selects "NoiseRingModel" yX1_at yX1_at, .initialized "NoiseRingModel"]) (List.forall_mem_cons.mpr ⟨u356, List.forall_mem_cons.mpr ⟨u357, List.forall_mem_cons.mpr ⟨u16, List.forall_mem_cons.mpr ⟨u30, fun _ h => by cases h⟩⟩⟩⟩) u358) rfl rfl rfl (by decide +kernel) ⟨Nat.le_of_ble_eq_true rfl, Nat.le_of_ble_eq_true rfl⟩) (gm_V hG) rfl rfl hl.1 rfl (lv_room (Nat.le_of_ble_eq_true rfl)) dX1_along_25 ⟨Nat.le_of_ble_eq_true rfl, Nat.le_of_ble_eq_true rfl⟩)) (fun r25 hr25 => ?_)
    subst hr25
    refine ix_i2l hx hb (by omega) (by omega) dX1_along_28 ?_
    refine ix_ladd hx hb dX1_along_29 ?_
    refine lv_aload_n hx hb dX1_along_30 rfl (lv_at hl 2 rfl) ?_
    refine gm_get hx hb hts hown hG 2 (by decide) rfl u326 dX1_along_31 ?_
    refine ix_i2l hx hb (by omega) (by omega) dX1_along_34 ?_
    refine ix_lrem hx hb (by omega) (by omega) (by omega) (by omega) dX1_along_35 ?_
    refine wx_l (congrArg lI (hor_step (q := q) (x := x) (fun u => M r (first + 2 * u)) 8 t ht)) ?_
    refine lv_lstore (lv' := [(6, .long (lI (sPol (fun u => M r (first + 2 * (8 - (t + 1) + u))) x (t + 1) % q))), (8, .int (iI ((first : Int) + 14 - 2 * ((t : Nat) : Int)))), (0, .ref (mo ω)), (1, .int (iI (r))), (3, .int (iI (2))), (4, .long (lI (x)))]) hx hb dX1_along_36 hl (by decide) rfl (fun ls hl => ?_)
    refine lv_iload hx hb dX1_along_38 (lv_at hl 1 rfl) ?_
    refine lv_iload_n hx hb dX1_along_40 rfl (lv_at hl 4 rfl) ?_
    refine ix_isub hx hb dX1_along_41 ?_
    refine wx_i (congrArg iI (show ((first : Int) + 14 - 2 * ((t : Nat) : Int) - 2) = (first : Int) + 14 - 2 * ((t + 1 : Nat) : Int) by omega)) ?_
    refine lv_istore (lv' := [(8, .int (iI ((first : Int) + 14 - 2 * ((t + 1 : Nat) : Int)))), (6, .long (lI (sPol (fun u => M r (first + 2 * (8 - (t + 1) + u))) x (t + 1) % q))), (0, .ref (mo ω)), (1, .int (iI (r))), (3, .int (iI (2))), (4, .long (lI (x)))]) hx hb dX1_along_42 hl (by decide) rfl (fun ls hl => ?_)
    refine lv_goto (tgt := 11) hx hb dX1_along_44 (by decide) ?_
    exact ih11 ls (lv_sub hl [0, 1, 2, 3, 4, 5] rfl)
set_option maxHeartbeats 4000000 in
set_option maxRecDepth 100000 in
theorem m_valueOf (l : Launch) (ω : WM) (th k q : Int) (M : Nat → Nat → Int) (f : Nat → Int) (r i : Nat) (hr : r < 12) (hi : i < 16) (hq1 : 3329 ≤ q) (hq2 : q ≤ 8380417) (hM : ∀ r i, r < 12 → i < 16 → 0 ≤ M r i ∧ M r i < q) (k1 : 0 ≤ k) (k2 : k ≤ 1) (qk : q = kQ k) : Met l yX1_valueOf wsX1_valueOf ({ frames := 2, cells := 0, slots := 0, locals := 50 }) (va_Pc [.ref (mo ω), .int (iI (r)), .int (iI (i))] (fun U => GM ω th k q M f U U.heap)) (vp_Si (fun r_ => r_ = iI (sVal k (M r) i))) 0 0 (fun _ => False) := by
  refine Met.ofW (cc := cX1_valueOf) (maxL := 4) (ret := (some .int)) (by decide +kernel) rfl ?_
  intro p e s m args below meth c s₁ B hml hv
  obtain ⟨rfl, hG⟩ := hv
  have hx := B.exec
  have hb := B.bytes
  have hrt := B.returns
  have hts : ∀ w ∈ wsU, w.before _ s = true := fun w h => atoms_spec (ws := wsX1_valueOf) B.pre w (List.mem_cons_of_mem _ h)
  have hown : s.vm.findClass "NoiseRingModel" = some m.cls := findClass_of_methodNamed B.named
  have hlocks := B.notSynchronized
  have hl := lv_entry ([.ref (mo ω), .int (iI (r)), .int (iI (i))]) (n := 4) (Nat.le_of_ble_eq_true rfl)
  rw [lg_entry_eq]
  generalize (lg_sl ([.ref (mo ω), .int (iI (r)), .int (iI (i))]) ++ List.replicate (4 - (lg_sl ([.ref (mo ω), .int (iI (r)), .int (iI (i))])).length) Slot.unset).toArray = ls at hl ⊢
  have hl : lv_has ls 4 [(0, .ref (mo ω)), (1, .int (iI (r))), (2, .int (iI (i)))] := hl
  have hz : 0 ≤ kZ k ∧ kZ k < q := by
    rw [qk]
    exact sPow_in (q := kQ k) (b := kB k) (by have := kQ_in (k := k); omega) 16
  refine lv_aload_n hx hb dX1_valueOf_0 rfl (lv_at hl 0 rfl) ?_
  refine vp_callSi (va_Run.run (va_runV (As := []) (rest := []) ⟨hx, hb, hml, hown, hts⟩ (m_root l ω th k q M f hq1 hq2 (by omega) (by omega) qk) (cwV 0 hts (gU (hd := [.methodLink "NoiseRingModel" 82 yX1_root, .instanceMethod yX1_root, .selects "NoiseRingModel" yX1_root yX1_root, .initialized "NoiseRingModel"]) (List.forall_mem_cons.mpr ⟨u433, List.forall_mem_cons.mpr ⟨u434, List.forall_mem_cons.mpr ⟨u25, List.forall_mem_cons.mpr ⟨u30, fun _ h => by cases h⟩⟩⟩⟩) u435) rfl rfl rfl (by decide +kernel) ⟨Nat.le_of_ble_eq_true rfl, Nat.le_of_ble_eq_true rfl⟩) (gm_V hG) rfl rfl hl.1 rfl (lv_room (Nat.le_of_ble_eq_true rfl)) dX1_valueOf_1 ⟨Nat.le_of_ble_eq_true rfl, Nat.le_of_ble_eq_true rfl⟩)) (fun r1 hr1 => ?_)
  subst hr1
  refine lv_istore_n (lv' := [(3, .int (iI ((kZ k)))), (0, .ref (mo ω)), (1, .int (iI (r))), (2, .int (iI (i)))]) hx hb dX1_valueOf_4 rfl hl (by decide) rfl (fun ls hl => ?_)
  refine lv_aload_n hx hb dX1_valueOf_5 rfl (lv_at hl 1 rfl) ?_
  refine gm_get hx hb hts hown hG 1 (by decide) rfl u325 dX1_valueOf_6 ?_
  refine ix_iconst hx hb dX1_valueOf_9 ?_
  refine ix_icmp_ne (tgt := 34) hx hb (by omega) (by omega) (by omega) (by omega) dX1_valueOf_10 (by decide) (fun h10 => ?_) (fun h10 => ?_)
  · skip
    refine lv_aload_n hx hb dX1_valueOf_34 rfl (lv_at hl 1 rfl) ?_
    refine lv_iload_n hx hb dX1_valueOf_35 rfl (lv_at hl 2 rfl) ?_
    refine lv_iload_n hx hb dX1_valueOf_36 rfl (lv_at hl 3 rfl) ?_
    refine ix_iconst hx hb dX1_valueOf_37 ?_
    refine ix_irem hx hb (by omega) (by omega) (by omega) (by omega) dX1_valueOf_38 ?_
    refine wx_i (congrArg iI (show ((i : Nat) : Int) % 2 = ((i % 2 : Nat) : Int) by omega)) ?_
    refine ix_iconst hx hb dX1_valueOf_39 ?_
    refine lv_aload_n hx hb dX1_valueOf_40 rfl (lv_at hl 1 rfl) ?_
    refine lv_iload_n hx hb dX1_valueOf_41 rfl (lv_at hl 0 rfl) ?_
    refine ix_iconst hx hb dX1_valueOf_42 ?_
    refine lv_iload_n hx hb dX1_valueOf_43 rfl (lv_at hl 3 rfl) ?_
    refine ix_iconst hx hb dX1_valueOf_44 ?_
    refine ix_idiv hx hb (by omega) (by omega) (by omega) (by omega) dX1_valueOf_45 ?_
    refine ix_imul hx hb dX1_valueOf_46 ?_
    refine ix_iconst hx hb dX1_valueOf_47 ?_
    refine ix_iadd hx hb dX1_valueOf_48 ?_
    refine wx_i (congrArg iI (show (2 * (i / 2)) + 1 = ((2 * (i / 2) + 1 : Nat) : Int) by omega)) ?_
    have hpw := sPow_in (q := q) (b := kZ k) (by omega) (2 * (i / 2) + 1)
    refine vp_callSi (va_Run.run (va_runV (As := [.int (iI ((kZ k))), .int (iI ((2 * (i / 2) + 1 : Nat)))]) (rest := [.int (iI (2)), .int (iI ((i % 2 : Nat))), .int (iI (r)), .ref (mo ω)]) ⟨hx, hb, hml, hown, hts⟩ (m_power l ω th k q M f ((kZ k)) (2 * (i / 2) + 1) hq1 hq2 (by omega) (by omega) (by omega)) (cwV 2 hts (gU (hd := [.methodLink "NoiseRingModel" 79 yX1_power, .instanceMethod yX1_power, .selects "NoiseRingModel" yX1_power yX1_power, .initialized "NoiseRingModel"]) (List.forall_mem_cons.mpr ⟨u436, List.forall_mem_cons.mpr ⟨u437, List.forall_mem_cons.mpr ⟨u26, List.forall_mem_cons.mpr ⟨u30, fun _ h => by cases h⟩⟩⟩⟩) u438) rfl rfl rfl (by decide +kernel) ⟨Nat.le_of_ble_eq_true rfl, Nat.le_of_ble_eq_true rfl⟩) (gm_V hG) rfl rfl hl.1 rfl (lv_room (Nat.le_of_ble_eq_true rfl)) dX1_valueOf_49 ⟨Nat.le_of_ble_eq_true rfl, Nat.le_of_ble_eq_true rfl⟩)) (fun r49 hr49 => ?_)
    subst hr49
    refine ix_i2l hx hb (by omega) (by omega) dX1_valueOf_52 ?_
    refine vp_callSi (va_Run.run (va_runV (As := [.int (iI (r)), .int (iI ((i % 2 : Nat))), .int (iI (2)), .long (lI ((sPow q ((kZ k)) (2 * (i / 2) + 1))))]) (rest := []) ⟨hx, hb, hml, hown, hts⟩ (m_along2 l ω th k q M f (r) (i % 2) ((sPow q ((kZ k)) (2 * (i / 2) + 1))) (by omega) (by omega) hq1 hq2 hM (by omega) (by omega)) (cwV 4 hts (gU (hd := [.methodLink "NoiseRingModel" 86 yX1_along, .instanceMethod yX1_along, .selects "NoiseRingModel" yX1_along yX1_along, .initialized "NoiseRingModel"]) (List.forall_mem_cons.mpr ⟨u439, List.forall_mem_cons.mpr ⟨u440, List.forall_mem_cons.mpr ⟨u27, List.forall_mem_cons.mpr ⟨u30, fun _ h => by cases h⟩⟩⟩⟩) u441) rfl rfl rfl (by decide +kernel) ⟨Nat.le_of_ble_eq_true rfl, Nat.le_of_ble_eq_true rfl⟩) (gm_V hG) rfl rfl hl.1 rfl (lv_room (Nat.le_of_ble_eq_true rfl)) dX1_valueOf_53 ⟨Nat.le_of_ble_eq_true rfl, Nat.le_of_ble_eq_true rfl⟩)) (fun r53 hr53 => ?_)
    subst hr53
    exact W.iret hx hb hrt (fun t ht hW => ⟨_, rfl, congrArg iI (by subst qk; unfold sVal; first | (rw [if_neg (by omega)]; simp) | rw [if_pos (by omega)]), ht⟩) t_nil dX1_valueOf_56
  · skip
    refine lv_aload_n hx hb dX1_valueOf_13 rfl (lv_at hl 1 rfl) ?_
    refine lv_iload_n hx hb dX1_valueOf_14 rfl (lv_at hl 2 rfl) ?_
    refine ix_iconst hx hb dX1_valueOf_15 ?_
    refine ix_iconst hx hb dX1_valueOf_16 ?_
    refine lv_aload_n hx hb dX1_valueOf_17 rfl (lv_at hl 1 rfl) ?_
    refine lv_iload_n hx hb dX1_valueOf_18 rfl (lv_at hl 0 rfl) ?_
    refine ix_iconst hx hb dX1_valueOf_19 ?_
    refine lv_iload_n hx hb dX1_valueOf_20 rfl (lv_at hl 3 rfl) ?_
    refine ix_imul hx hb dX1_valueOf_21 ?_
    refine ix_iconst hx hb dX1_valueOf_22 ?_
    refine ix_iadd hx hb dX1_valueOf_23 ?_
    refine wx_i (congrArg iI (show (2 * i) + 1 = ((2 * i + 1 : Nat) : Int) by omega)) ?_
    have hpw := sPow_in (q := q) (b := kZ k) (by omega) (2 * i + 1)
    refine vp_callSi (va_Run.run (va_runV (As := [.int (iI ((kZ k))), .int (iI ((2 * i + 1 : Nat)))]) (rest := [.int (iI (1)), .int (iI (0)), .int (iI (r)), .ref (mo ω)]) ⟨hx, hb, hml, hown, hts⟩ (m_power l ω th k q M f ((kZ k)) (2 * i + 1) hq1 hq2 (by omega) (by omega) (by omega)) (cwV 2 hts (gU (hd := [.methodLink "NoiseRingModel" 79 yX1_power, .instanceMethod yX1_power, .selects "NoiseRingModel" yX1_power yX1_power, .initialized "NoiseRingModel"]) (List.forall_mem_cons.mpr ⟨u436, List.forall_mem_cons.mpr ⟨u437, List.forall_mem_cons.mpr ⟨u26, List.forall_mem_cons.mpr ⟨u30, fun _ h => by cases h⟩⟩⟩⟩) u438) rfl rfl rfl (by decide +kernel) ⟨Nat.le_of_ble_eq_true rfl, Nat.le_of_ble_eq_true rfl⟩) (gm_V hG) rfl rfl hl.1 rfl (lv_room (Nat.le_of_ble_eq_true rfl)) dX1_valueOf_24 ⟨Nat.le_of_ble_eq_true rfl, Nat.le_of_ble_eq_true rfl⟩)) (fun r24 hr24 => ?_)
    subst hr24
    refine ix_i2l hx hb (by omega) (by omega) dX1_valueOf_27 ?_
    refine vp_callSi (va_Run.run (va_runV (As := [.int (iI (r)), .int (iI (0)), .int (iI (1)), .long (lI ((sPow q ((kZ k)) (2 * i + 1))))]) (rest := []) ⟨hx, hb, hml, hown, hts⟩ (m_along1 l ω th k q M f (r) ((sPow q ((kZ k)) (2 * i + 1))) (by omega) hq1 hq2 hM (by omega) (by omega)) (cwV 4 hts (gU (hd := [.methodLink "NoiseRingModel" 86 yX1_along, .instanceMethod yX1_along, .selects "NoiseRingModel" yX1_along yX1_along, .initialized "NoiseRingModel"]) (List.forall_mem_cons.mpr ⟨u439, List.forall_mem_cons.mpr ⟨u440, List.forall_mem_cons.mpr ⟨u27, List.forall_mem_cons.mpr ⟨u30, fun _ h => by cases h⟩⟩⟩⟩) u441) rfl rfl rfl (by decide +kernel) ⟨Nat.le_of_ble_eq_true rfl, Nat.le_of_ble_eq_true rfl⟩) (gm_V hG) rfl rfl hl.1 rfl (lv_room (Nat.le_of_ble_eq_true rfl)) dX1_valueOf_28 ⟨Nat.le_of_ble_eq_true rfl, Nat.le_of_ble_eq_true rfl⟩)) (fun r28 hr28 => ?_)
    subst hr28
    refine lv_goto (tgt := 56) hx hb dX1_valueOf_31 (by decide) ?_
    exact W.iret hx hb hrt (fun t ht hW => ⟨_, rfl, congrArg iI (by subst qk; unfold sVal; first | (rw [if_neg (by omega)]; simp) | rw [if_pos (by omega)]), ht⟩) t_nil dX1_valueOf_56

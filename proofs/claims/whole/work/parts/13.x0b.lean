/-! Contracts of the class's read-only helpers, by program (wip/gen/x0.py). -/
set_option maxHeartbeats 4000000 in
set_option maxRecDepth 100000 in
theorem c_lowMask (l : Launch)  (d : Nat) (d2 : d ≤ 22) : Met l yX0_lowMask wsX0_lowMask ({ frames := 0, cells := 0, slots := 0, locals := 0 }) (va_Pc [.int (iI (d))] (fun _ => True)) (vp_Si (fun r_ => r_ = iI (2 ^ (d) - 1))) 0 0 (fun _ => False) := by
  refine Met.ofW (cc := cX0_lowMask) (maxL := 1) (ret := (some .int)) (by decide +kernel) rfl ?_
  intro p e s m args below meth c s₁ B hml hv
  obtain ⟨rfl, hG⟩ := hv
  have hx := B.exec
  have hb := B.bytes
  have hrt := B.returns
  have hts : ∀ w ∈ wsU, w.before _ s = true := fun w h => atoms_spec (ws := wsX0_lowMask) B.pre w (List.mem_cons_of_mem _ h)
  have hown : s.vm.findClass "NoiseRing" = some m.cls := findClass_of_methodNamed B.named
  have hlocks := B.notSynchronized
  have hl := lv_entry ([.int (iI (d))]) (n := 1) (Nat.le_of_ble_eq_true rfl)
  rw [lg_entry_eq]
  generalize (lg_sl ([.int (iI (d))]) ++ List.replicate (1 - (lg_sl ([.int (iI (d))])).length) Slot.unset).toArray = ls at hl ⊢
  have hl : lv_has ls 1 [(0, .int (iI (d)))] := hl
  refine ix_iconst hx hb dX0_lowMask_0 ?_
  refine lv_iload_n hx hb dX0_lowMask_1 rfl (lv_at hl 0 rfl) ?_
  refine ix_ishl1 (d := d) hx hb (by omega) dX0_lowMask_2 ?_
  refine ix_iconst hx hb dX0_lowMask_3 ?_
  refine ix_isub hx hb dX0_lowMask_4 ?_
  exact W.iret hx hb hrt (fun t ht hW => ⟨_, rfl, rfl, ht⟩) t_nil dX0_lowMask_5
set_option maxHeartbeats 4000000 in
set_option maxRecDepth 100000 in
theorem c_lowBits (l : Launch)  (x : Int) (d : Nat) (x1 : 0 ≤ x) (x2 : x < 2147483648) (d1 : 1 ≤ d) (d2 : d ≤ 22) : Met l yX0_lowBits wsX0_lowBits ({ frames := 1, cells := 0, slots := 0, locals := 20 }) (va_Pc [.int (iI (x)), .int (iI (d))] (fun _ => True)) (vp_Si (fun r_ => r_ = iI (sNear x (2 ^ d)))) 0 0 (fun _ => False) := by
  refine Met.ofW (cc := cX0_lowBits) (maxL := 3) (ret := (some .int)) (by decide +kernel) rfl ?_
  intro p e s m args below meth c s₁ B hml hv
  obtain ⟨rfl, hG⟩ := hv
  have hx := B.exec
  have hb := B.bytes
  have hrt := B.returns
  have hts : ∀ w ∈ wsU, w.before _ s = true := fun w h => atoms_spec (ws := wsX0_lowBits) B.pre w (List.mem_cons_of_mem _ h)
  have hown : s.vm.findClass "NoiseRing" = some m.cls := findClass_of_methodNamed B.named
  have hlocks := B.notSynchronized
  have hl := lv_entry ([.int (iI (x)), .int (iI (d))]) (n := 3) (Nat.le_of_ble_eq_true rfl)
  rw [lg_entry_eq]
  generalize (lg_sl ([.int (iI (x)), .int (iI (d))]) ++ List.replicate (3 - (lg_sl ([.int (iI (x)), .int (iI (d))])).length) Slot.unset).toArray = ls at hl ⊢
  have hl : lv_has ls 3 [(0, .int (iI (x))), (1, .int (iI (d)))] := hl
  have hp := pw_in d2
  have hh := pw_half d1
  have h1 := Int.emod_nonneg x (show (2 : Int) ^ d ≠ 0 by omega)
  have h2 := Int.emod_lt_of_pos x (show (0 : Int) < 2 ^ d by omega)
  refine lv_iload_n hx hb dX0_lowBits_0 rfl (lv_at hl 0 rfl) ?_
  refine lv_iload_n hx hb dX0_lowBits_1 rfl (lv_at hl 1 rfl) ?_
  refine vp_callSi (va_Run.run (va_runS (As := [.int (iI (d))]) (rest := [.int (iI (x))]) ⟨hx, hb, hml, hown, hts⟩ (c_lowMask l (d) (by omega)) (va_cwS 1 hts (gU (hd := [.methodLink "NoiseRing" 143 yX0_lowMask, .static yX0_lowMask, .initialized "NoiseRing"]) (List.forall_mem_cons.mpr ⟨u231, List.forall_mem_cons.mpr ⟨u232, List.forall_mem_cons.mpr ⟨u29, fun _ h => by cases h⟩⟩⟩) u233) rfl rfl rfl (by decide +kernel) ⟨Nat.le_of_ble_eq_true rfl, Nat.le_of_ble_eq_true rfl⟩) gn_S rfl rfl hl.1 rfl (lv_room (Nat.le_of_ble_eq_true rfl)) dX0_lowBits_2 ⟨Nat.le_of_ble_eq_true rfl, Nat.le_of_ble_eq_true rfl⟩)) (fun r2 hr2 => ?_)
  subst hr2
  refine ix_mask (d := d) hx hb (by omega) (by omega) (by omega) dX0_lowBits_5 ?_
  refine lv_istore_n (lv' := [(2, .int (iI ((x) % 2 ^ (d)))), (0, .int (iI (x))), (1, .int (iI (d)))]) hx hb dX0_lowBits_6 rfl hl (by decide) rfl (fun ls hl => ?_)
  refine lv_iload_n hx hb dX0_lowBits_7 rfl (lv_at hl 0 rfl) ?_
  refine ix_iconst hx hb dX0_lowBits_8 ?_
  refine lv_iload_n hx hb dX0_lowBits_9 rfl (lv_at hl 2 rfl) ?_
  refine ix_iconst hx hb dX0_lowBits_10 ?_
  refine ix_isub hx hb dX0_lowBits_11 ?_
  refine wx_i (congrArg iI (show ((d : Nat) : Int) - 1 = ((d - 1 : Nat) : Int) by omega)) ?_
  refine ix_ishl1 (d := d - 1) hx hb (by omega) dX0_lowBits_12 ?_
  refine ix_icmp_le (tgt := 24) hx hb (by omega) (by omega) (by omega) (by omega) dX0_lowBits_13 (by decide) (fun h13 => ?_) (fun h13 => ?_)
  · skip
    refine lv_iload_n hx hb dX0_lowBits_24 rfl (lv_at hl 0 rfl) ?_
    exact W.iret hx hb hrt (fun t ht hW => ⟨_, rfl, congrArg iI (by unfold sNear; first | rw [if_pos (by omega)] | rw [if_neg (by omega)]), ht⟩) t_nil dX0_lowBits_25
  · skip
    refine lv_iload_n hx hb dX0_lowBits_16 rfl (lv_at hl 0 rfl) ?_
    refine ix_iconst hx hb dX0_lowBits_17 ?_
    refine lv_iload_n hx hb dX0_lowBits_18 rfl (lv_at hl 2 rfl) ?_
    refine ix_ishl1 (d := d) hx hb (by omega) dX0_lowBits_19 ?_
    refine ix_isub hx hb dX0_lowBits_20 ?_
    refine lv_goto (tgt := 25) hx hb dX0_lowBits_21 (by decide) ?_
    exact W.iret hx hb hrt (fun t ht hW => ⟨_, rfl, congrArg iI (by unfold sNear; first | rw [if_pos (by omega)] | rw [if_neg (by omega)]), ht⟩) t_nil dX0_lowBits_25
set_option maxHeartbeats 4000000 in
set_option maxRecDepth 100000 in
theorem c_fewerBits (l : Launch) (ω : WX) (k q z : Int) (M : Nat → Nat → Int) (wk : Nat → Int) (x : Int) (d : Nat) (hq1 : 3329 ≤ q) (hq2 : q ≤ 8380417) (x1 : 0 ≤ x) (x2 : x < q) (d1 : 1 ≤ d) (d2 : d ≤ 22) : Met l yX0_fewerBits wsX0_fewerBits ({ frames := 1, cells := 0, slots := 0, locals := 20 }) (va_Pc [.ref (ox ω), .int (iI (x)), .int (iI (d))] (fun U => GX ω k q z M wk U U.heap)) (vp_Si (fun r_ => r_ = iI ((x * 2 ^ (d + 1) + q) / (2 * q) % 2 ^ d))) 0 0 (fun _ => False) := by
  refine Met.ofW (cc := cX0_fewerBits) (maxL := 5) (ret := (some .int)) (by decide +kernel) rfl ?_
  intro p e s m args below meth c s₁ B hml hv
  obtain ⟨rfl, hG⟩ := hv
  have hx := B.exec
  have hb := B.bytes
  have hrt := B.returns
  have hts : ∀ w ∈ wsU, w.before _ s = true := fun w h => atoms_spec (ws := wsX0_fewerBits) B.pre w (List.mem_cons_of_mem _ h)
  have hown : s.vm.findClass "NoiseRing" = some m.cls := findClass_of_methodNamed B.named
  have hlocks := B.notSynchronized
  have hl := lv_entry ([.ref (ox ω), .int (iI (x)), .int (iI (d))]) (n := 5) (Nat.le_of_ble_eq_true rfl)
  rw [lg_entry_eq]
  generalize (lg_sl ([.ref (ox ω), .int (iI (x)), .int (iI (d))]) ++ List.replicate (5 - (lg_sl ([.ref (ox ω), .int (iI (x)), .int (iI (d))])).length) Slot.unset).toArray = ls at hl ⊢
  have hl : lv_has ls 5 [(0, .ref (ox ω)), (1, .int (iI (x))), (2, .int (iI (d)))] := hl
  have hp := pw_in d2
  have hh : (2 : Int) ^ (d + 1) = 2 ^ d * 2 := Int.pow_succ 2 d
  have hm1 : 0 ≤ x * 2 ^ (d + 1) := Int.mul_nonneg x1 (by omega)
  have hm2 : x * 2 ^ (d + 1) ≤ 8380417 * 8388608 := Int.mul_le_mul (by omega) (by omega) (by omega) (by decide)
  have hm3 : x * 2 ^ (d + 1) ≤ q * 8388608 := Int.mul_le_mul (by omega) (by omega) (by omega) (by omega)
  have hd1 : 0 ≤ (x * 2 ^ (d + 1) + q) / (2 * q) := Int.ediv_nonneg (by omega) (by omega)
  have hd2 : (x * 2 ^ (d + 1) + q) / (2 * q) < 2147483648 := Int.ediv_lt_of_lt_mul (by omega) (by omega)
  refine lv_iload_n hx hb dX0_fewerBits_0 rfl (lv_at hl 1 rfl) ?_
  refine ix_i2l hx hb (by omega) (by omega) dX0_fewerBits_1 ?_
  refine lv_iload_n hx hb dX0_fewerBits_2 rfl (lv_at hl 2 rfl) ?_
  refine ix_iconst hx hb dX0_fewerBits_3 ?_
  refine ix_iadd hx hb dX0_fewerBits_4 ?_
  refine ix_lshl (d := d + 1) hx hb (by omega) (by omega) dX0_fewerBits_5 ?_
  refine lv_aload_n hx hb dX0_fewerBits_6 rfl (lv_at hl 0 rfl) ?_
  refine gx_get hx hb hts hown hG 3 (by decide) rfl u58 dX0_fewerBits_7 ?_
  refine ix_i2l hx hb (by omega) (by omega) dX0_fewerBits_10 ?_
  refine ix_ladd hx hb dX0_fewerBits_11 ?_
  refine lv_ldc2 (v := 2) hx hb hown (hts _ u230) dX0_fewerBits_12 ?_
  refine wx_l (show (2 : Int64) = lI 2 by decide) ?_
  refine lv_aload_n hx hb dX0_fewerBits_15 rfl (lv_at hl 0 rfl) ?_
  refine gx_get hx hb hts hown hG 3 (by decide) rfl u58 dX0_fewerBits_16 ?_
  refine ix_i2l hx hb (by omega) (by omega) dX0_fewerBits_19 ?_
  refine ix_lmul hx hb dX0_fewerBits_20 ?_
  refine ix_ldiv hx hb (by omega) (by omega) (by omega) (by omega) dX0_fewerBits_21 ?_
  refine lv_lstore_n (lv' := [(3, .long (lI ((((x) * 2 ^ (d + 1) + q) / (2 * q))))), (0, .ref (ox ω)), (1, .int (iI (x))), (2, .int (iI (d)))]) hx hb dX0_fewerBits_22 rfl hl (by decide) rfl (fun ls hl => ?_)
  refine lv_lload_n hx hb dX0_fewerBits_23 rfl (lv_at hl 0 rfl) ?_
  refine ix_l2i hx hb dX0_fewerBits_24 ?_
  refine lv_iload_n hx hb dX0_fewerBits_25 rfl (lv_at hl 3 rfl) ?_
  refine vp_callSi (va_Run.run (va_runS (As := [.int (iI (d))]) (rest := [.int (iI ((((x) * 2 ^ (d + 1) + q) / (2 * q))))]) ⟨hx, hb, hml, hown, hts⟩ (c_lowMask l (d) (by omega)) (va_cwS 1 hts (gU (hd := [.methodLink "NoiseRing" 143 yX0_lowMask, .static yX0_lowMask, .initialized "NoiseRing"]) (List.forall_mem_cons.mpr ⟨u231, List.forall_mem_cons.mpr ⟨u232, List.forall_mem_cons.mpr ⟨u29, fun _ h => by cases h⟩⟩⟩) u233) rfl rfl rfl (by decide +kernel) ⟨Nat.le_of_ble_eq_true rfl, Nat.le_of_ble_eq_true rfl⟩) gn_S rfl rfl hl.1 rfl (lv_room (Nat.le_of_ble_eq_true rfl)) dX0_fewerBits_26 ⟨Nat.le_of_ble_eq_true rfl, Nat.le_of_ble_eq_true rfl⟩)) (fun r26 hr26 => ?_)
  subst hr26
  refine ix_mask (d := d) hx hb (by omega) (by omega) (by omega) dX0_fewerBits_29 ?_
  exact W.iret hx hb hrt (fun t ht hW => ⟨_, rfl, rfl, ht⟩) t_nil dX0_fewerBits_30
set_option maxHeartbeats 4000000 in
set_option maxRecDepth 100000 in
theorem c_moreBits (l : Launch) (ω : WX) (k q z : Int) (M : Nat → Nat → Int) (wk : Nat → Int) (y : Int) (d : Nat) (hq1 : 3329 ≤ q) (hq2 : q ≤ 8380417) (y1 : 0 ≤ y) (y2 : y < 4194304) (d1 : 1 ≤ d) (d2 : d ≤ 22) : Met l yX0_moreBits wsX0_moreBits ({ frames := 0, cells := 0, slots := 0, locals := 0 }) (va_Pc [.ref (ox ω), .int (iI (y)), .int (iI (d))] (fun U => GX ω k q z M wk U U.heap)) (vp_Si (fun r_ => r_ = iI ((q * y + 2 ^ (d - 1)) / 2 ^ d))) 0 0 (fun _ => False) := by
  refine Met.ofW (cc := cX0_moreBits) (maxL := 3) (ret := (some .int)) (by decide +kernel) rfl ?_
  intro p e s m args below meth c s₁ B hml hv
  obtain ⟨rfl, hG⟩ := hv
  have hx := B.exec
  have hb := B.bytes
  have hrt := B.returns
  have hts : ∀ w ∈ wsU, w.before _ s = true := fun w h => atoms_spec (ws := wsX0_moreBits) B.pre w (List.mem_cons_of_mem _ h)
  have hown : s.vm.findClass "NoiseRing" = some m.cls := findClass_of_methodNamed B.named
  have hlocks := B.notSynchronized
  have hl := lv_entry ([.ref (ox ω), .int (iI (y)), .int (iI (d))]) (n := 3) (Nat.le_of_ble_eq_true rfl)
  rw [lg_entry_eq]
  generalize (lg_sl ([.ref (ox ω), .int (iI (y)), .int (iI (d))]) ++ List.replicate (3 - (lg_sl ([.ref (ox ω), .int (iI (y)), .int (iI (d))])).length) Slot.unset).toArray = ls at hl ⊢
  have hl : lv_has ls 3 [(0, .ref (ox ω)), (1, .int (iI (y))), (2, .int (iI (d)))] := hl
  have hp := pw_in (d := d - 1) (by omega)
  have hm1 : 0 ≤ q * y := Int.mul_nonneg (by omega) y1
  have hm2 : q * y ≤ 8380417 * 4194304 := Int.mul_le_mul hq2 (by omega) y1 (by decide)
  refine lv_aload_n hx hb dX0_moreBits_0 rfl (lv_at hl 0 rfl) ?_
  refine gx_get hx hb hts hown hG 3 (by decide) rfl u58 dX0_moreBits_1 ?_
  refine ix_i2l hx hb (by omega) (by omega) dX0_moreBits_4 ?_
  refine lv_iload_n hx hb dX0_moreBits_5 rfl (lv_at hl 1 rfl) ?_
  refine ix_i2l hx hb (by omega) (by omega) dX0_moreBits_6 ?_
  refine ix_lmul hx hb dX0_moreBits_7 ?_
  refine ix_lconst1 hx hb dX0_moreBits_8 ?_
  refine lv_iload_n hx hb dX0_moreBits_9 rfl (lv_at hl 2 rfl) ?_
  refine ix_iconst hx hb dX0_moreBits_10 ?_
  refine ix_isub hx hb dX0_moreBits_11 ?_
  refine wx_i (congrArg iI (show ((d : Nat) : Int) - 1 = ((d - 1 : Nat) : Int) by omega)) ?_
  refine ix_lshl (d := d - 1) hx hb (by omega) (by omega) dX0_moreBits_12 ?_
  refine ix_ladd hx hb dX0_moreBits_13 ?_
  refine lv_iload_n hx hb dX0_moreBits_14 rfl (lv_at hl 2 rfl) ?_
  refine ix_lshr (d := d) hx hb (by omega) (by omega) (by omega) dX0_moreBits_15 ?_
  refine ix_l2i hx hb dX0_moreBits_16 ?_
  exact W.iret hx hb hrt (fun t ht hW => ⟨_, rfl, congrArg iI (by rw [Int.one_mul]), ht⟩) t_nil dX0_moreBits_17
set_option maxHeartbeats 4000000 in
set_option maxRecDepth 100000 in
theorem c_restOf (l : Launch) (ω : WX) (k q z : Int) (M : Nat → Nat → Int) (wk : Nat → Int) (x a : Int) (hq1 : 3329 ≤ q) (hq2 : q ≤ 8380417) (x1 : 0 ≤ x) (x2 : x < q) (a1 : 0 < a) (a2 : a < 8380417) (a3 : a % 2 = 0) : Met l yX0_restOf wsX0_restOf ({ frames := 1, cells := 0, slots := 0, locals := 22 }) (va_Pc [.ref (ox ω), .int (iI (x)), .int (iI (a))] (fun U => GX ω k q z M wk U U.heap)) (vp_Si (fun r_ => r_ = iI (sRest q x a))) 0 0 (fun _ => False) := by
  refine Met.ofW (cc := cX0_restOf) (maxL := 4) (ret := (some .int)) (by decide +kernel) rfl ?_
  intro p e s m args below meth c s₁ B hml hv
  obtain ⟨rfl, hG⟩ := hv
  have hx := B.exec
  have hb := B.bytes
  have hrt := B.returns
  have hts : ∀ w ∈ wsU, w.before _ s = true := fun w h => atoms_spec (ws := wsX0_restOf) B.pre w (List.mem_cons_of_mem _ h)
  have hown : s.vm.findClass "NoiseRing" = some m.cls := findClass_of_methodNamed B.named
  have hlocks := B.notSynchronized
  have hl := lv_entry ([.ref (ox ω), .int (iI (x)), .int (iI (a))]) (n := 4) (Nat.le_of_ble_eq_true rfl)
  rw [lg_entry_eq]
  generalize (lg_sl ([.ref (ox ω), .int (iI (x)), .int (iI (a))]) ++ List.replicate (4 - (lg_sl ([.ref (ox ω), .int (iI (x)), .int (iI (a))])).length) Slot.unset).toArray = ls at hl ⊢
  have hl : lv_has ls 4 [(0, .ref (ox ω)), (1, .int (iI (x))), (2, .int (iI (a)))] := hl
  have hn := sNear_in (x := x) a1
  refine lv_iload_n hx hb dX0_restOf_0 rfl (lv_at hl 1 rfl) ?_
  refine lv_iload_n hx hb dX0_restOf_1 rfl (lv_at hl 2 rfl) ?_
  refine vp_callSi (va_Run.run (va_runS (As := [.int (iI (x)), .int (iI (a))]) (rest := []) ⟨hx, hb, hml, hown, hts⟩ (c_nearRest l (x) (a) (by omega) (by omega) (by omega) (by omega) (by assumption)) (va_cwS 2 hts (gU (hd := [.methodLink "NoiseRing" 154 yX0_nearRest, .static yX0_nearRest, .initialized "NoiseRing"]) (List.forall_mem_cons.mpr ⟨u253, List.forall_mem_cons.mpr ⟨u254, List.forall_mem_cons.mpr ⟨u29, fun _ h => by cases h⟩⟩⟩) u255) rfl rfl rfl (by decide +kernel) ⟨Nat.le_of_ble_eq_true rfl, Nat.le_of_ble_eq_true rfl⟩) gn_S rfl rfl hl.1 rfl (lv_room (Nat.le_of_ble_eq_true rfl)) dX0_restOf_2 ⟨Nat.le_of_ble_eq_true rfl, Nat.le_of_ble_eq_true rfl⟩)) (fun r2 hr2 => ?_)
  subst hr2
  refine lv_istore_n (lv' := [(3, .int (iI ((sNear (x) (a))))), (0, .ref (ox ω)), (1, .int (iI (x))), (2, .int (iI (a)))]) hx hb dX0_restOf_5 rfl hl (by decide) rfl (fun ls hl => ?_)
  refine lv_iload_n hx hb dX0_restOf_6 rfl (lv_at hl 2 rfl) ?_
  refine lv_iload_n hx hb dX0_restOf_7 rfl (lv_at hl 0 rfl) ?_
  refine ix_isub hx hb dX0_restOf_8 ?_
  refine lv_aload_n hx hb dX0_restOf_9 rfl (lv_at hl 1 rfl) ?_
  refine gx_get hx hb hts hown hG 3 (by decide) rfl u58 dX0_restOf_10 ?_
  refine ix_iconst hx hb dX0_restOf_13 ?_
  refine ix_isub hx hb dX0_restOf_14 ?_
  refine ix_icmp_ne (tgt := 24) hx hb (by omega) (by omega) (by omega) (by omega) dX0_restOf_15 (by decide) (fun h15 => ?_) (fun h15 => ?_)
  · skip
    refine lv_iload_n hx hb dX0_restOf_24 rfl (lv_at hl 0 rfl) ?_
    exact W.iret hx hb hrt (fun t ht hW => ⟨_, rfl, congrArg iI (by unfold sRest; first | rw [if_pos (by omega)] | rw [if_neg (by omega)]), ht⟩) t_nil dX0_restOf_25
  · skip
    refine lv_iload_n hx hb dX0_restOf_18 rfl (lv_at hl 0 rfl) ?_
    refine ix_iconst hx hb dX0_restOf_19 ?_
    refine ix_isub hx hb dX0_restOf_20 ?_
    refine lv_goto (tgt := 25) hx hb dX0_restOf_21 (by decide) ?_
    exact W.iret hx hb hrt (fun t ht hW => ⟨_, rfl, congrArg iI (by unfold sRest; first | rw [if_pos (by omega)] | rw [if_neg (by omega)]), ht⟩) t_nil dX0_restOf_25
set_option maxHeartbeats 4000000 in
set_option maxRecDepth 100000 in
theorem c_partOf (l : Launch) (ω : WX) (k q z : Int) (M : Nat → Nat → Int) (wk : Nat → Int) (x a : Int) (hq1 : 3329 ≤ q) (hq2 : q ≤ 8380417) (x1 : 0 ≤ x) (x2 : x < q) (a1 : 0 < a) (a2 : a < 8380417) (a3 : a % 2 = 0) : Met l yX0_partOf wsX0_partOf ({ frames := 1, cells := 0, slots := 0, locals := 22 }) (va_Pc [.ref (ox ω), .int (iI (x)), .int (iI (a))] (fun U => GX ω k q z M wk U U.heap)) (vp_Si (fun r_ => r_ = iI (sPart q x a))) 0 0 (fun _ => False) := by
  refine Met.ofW (cc := cX0_partOf) (maxL := 4) (ret := (some .int)) (by decide +kernel) rfl ?_
  intro p e s m args below meth c s₁ B hml hv
  obtain ⟨rfl, hG⟩ := hv
  have hx := B.exec
  have hb := B.bytes
  have hrt := B.returns
  have hts : ∀ w ∈ wsU, w.before _ s = true := fun w h => atoms_spec (ws := wsX0_partOf) B.pre w (List.mem_cons_of_mem _ h)
  have hown : s.vm.findClass "NoiseRing" = some m.cls := findClass_of_methodNamed B.named
  have hlocks := B.notSynchronized
  have hl := lv_entry ([.ref (ox ω), .int (iI (x)), .int (iI (a))]) (n := 4) (Nat.le_of_ble_eq_true rfl)
  rw [lg_entry_eq]
  generalize (lg_sl ([.ref (ox ω), .int (iI (x)), .int (iI (a))]) ++ List.replicate (4 - (lg_sl ([.ref (ox ω), .int (iI (x)), .int (iI (a))])).length) Slot.unset).toArray = ls at hl ⊢
  have hl : lv_has ls 4 [(0, .ref (ox ω)), (1, .int (iI (x))), (2, .int (iI (a)))] := hl
  have hn := sNear_in (x := x) a1
  have hn2 := sNear_low x1 a1
  refine lv_iload_n hx hb dX0_partOf_0 rfl (lv_at hl 1 rfl) ?_
  refine lv_iload_n hx hb dX0_partOf_1 rfl (lv_at hl 1 rfl) ?_
  refine lv_iload_n hx hb dX0_partOf_2 rfl (lv_at hl 2 rfl) ?_
  refine vp_callSi (va_Run.run (va_runS (As := [.int (iI (x)), .int (iI (a))]) (rest := [.int (iI (x))]) ⟨hx, hb, hml, hown, hts⟩ (c_nearRest l (x) (a) (by omega) (by omega) (by omega) (by omega) (by assumption)) (va_cwS 2 hts (gU (hd := [.methodLink "NoiseRing" 154 yX0_nearRest, .static yX0_nearRest, .initialized "NoiseRing"]) (List.forall_mem_cons.mpr ⟨u253, List.forall_mem_cons.mpr ⟨u254, List.forall_mem_cons.mpr ⟨u29, fun _ h => by cases h⟩⟩⟩) u255) rfl rfl rfl (by decide +kernel) ⟨Nat.le_of_ble_eq_true rfl, Nat.le_of_ble_eq_true rfl⟩) gn_S rfl rfl hl.1 rfl (lv_room (Nat.le_of_ble_eq_true rfl)) dX0_partOf_3 ⟨Nat.le_of_ble_eq_true rfl, Nat.le_of_ble_eq_true rfl⟩)) (fun r3 hr3 => ?_)
  subst hr3
  refine ix_isub hx hb dX0_partOf_6 ?_
  refine lv_istore_n (lv' := [(3, .int (iI ((x - (sNear (x) (a)))))), (0, .ref (ox ω)), (1, .int (iI (x))), (2, .int (iI (a)))]) hx hb dX0_partOf_7 rfl hl (by decide) rfl (fun ls hl => ?_)
  refine lv_iload_n hx hb dX0_partOf_8 rfl (lv_at hl 0 rfl) ?_
  refine lv_aload_n hx hb dX0_partOf_9 rfl (lv_at hl 1 rfl) ?_
  refine gx_get hx hb hts hown hG 3 (by decide) rfl u58 dX0_partOf_10 ?_
  refine ix_iconst hx hb dX0_partOf_13 ?_
  refine ix_isub hx hb dX0_partOf_14 ?_
  refine ix_icmp_ne (tgt := 22) hx hb (by omega) (by omega) (by omega) (by omega) dX0_partOf_15 (by decide) (fun h15 => ?_) (fun h15 => ?_)
  · skip
    refine lv_iload_n hx hb dX0_partOf_22 rfl (lv_at hl 0 rfl) ?_
    refine lv_iload_n hx hb dX0_partOf_23 rfl (lv_at hl 3 rfl) ?_
    refine ix_idiv hx hb (by omega) (by omega) (by omega) (by omega) dX0_partOf_24 ?_
    exact W.iret hx hb hrt (fun t ht hW => ⟨_, rfl, congrArg iI (by unfold sPart; first | rw [if_pos (by omega)] | rw [if_neg (by omega)]), ht⟩) t_nil dX0_partOf_25
  · skip
    refine ix_iconst hx hb dX0_partOf_18 ?_
    refine lv_goto (tgt := 25) hx hb dX0_partOf_19 (by decide) ?_
    exact W.iret hx hb hrt (fun t ht hW => ⟨_, rfl, congrArg iI (by unfold sPart; first | rw [if_pos (by omega)] | rw [if_neg (by omega)]), ht⟩) t_nil dX0_partOf_25
set_option maxHeartbeats 4000000 in
set_option maxRecDepth 100000 in
theorem c_isAlpha (l : Launch) (ω : WX) (k q z : Int) (M : Nat → Nat → Int) (wk : Nat → Int) (a : Int) (hq1 : 3329 ≤ q) (hq2 : q ≤ 8380417) (a1 : -2147483648 ≤ a) (a2 : a < 2147483648) : Met l yX0_isAlpha wsX0_isAlpha ({ frames := 0, cells := 0, slots := 0, locals := 0 }) (va_Pc [.ref (ox ω), .int (iI (a))] (fun U => GX ω k q z M wk U U.heap)) (vp_Si (fun r_ => r_ = iI (sAli q a))) 0 0 (fun _ => False) := by
  refine Met.ofW (cc := cX0_isAlpha) (maxL := 2) (ret := (some .boolean)) (by decide +kernel) rfl ?_
  intro p e s m args below meth c s₁ B hml hv
  obtain ⟨rfl, hG⟩ := hv
  have hx := B.exec
  have hb := B.bytes
  have hrt := B.returns
  have hts : ∀ w ∈ wsU, w.before _ s = true := fun w h => atoms_spec (ws := wsX0_isAlpha) B.pre w (List.mem_cons_of_mem _ h)
  have hown : s.vm.findClass "NoiseRing" = some m.cls := findClass_of_methodNamed B.named
  have hlocks := B.notSynchronized
  have hl := lv_entry ([.ref (ox ω), .int (iI (a))]) (n := 2) (Nat.le_of_ble_eq_true rfl)
  rw [lg_entry_eq]
  generalize (lg_sl ([.ref (ox ω), .int (iI (a))]) ++ List.replicate (2 - (lg_sl ([.ref (ox ω), .int (iI (a))])).length) Slot.unset).toArray = ls at hl ⊢
  have hl : lv_has ls 2 [(0, .ref (ox ω)), (1, .int (iI (a)))] := hl
  refine lv_iload_n hx hb dX0_isAlpha_0 rfl (lv_at hl 1 rfl) ?_
  refine ix_if_le (tgt := 25) hx hb (by omega) (by omega) dX0_isAlpha_1 (by decide) (fun h1 => ?_) (fun h1 => ?_)
  · skip
    refine ix_iconst hx hb dX0_isAlpha_25 ?_
    exact W.zret (ty := .boolean) hx hb hrt (by decide) (fun t ht hW => ⟨_, rfl, congrArg iI (by unfold sAli; first | rw [if_pos ⟨by omega, by omega, by assumption⟩] | rw [if_neg (fun g => by have g1 := g.1; have g2 := g.2.1; have g3 := g.2.2; omega)]), ht⟩) t_nil dX0_isAlpha_26
  · skip
    refine lv_iload_n hx hb dX0_isAlpha_4 rfl (lv_at hl 1 rfl) ?_
    refine ix_iconst hx hb dX0_isAlpha_5 ?_
    refine ix_irem hx hb (by omega) (by omega) (by omega) (by omega) dX0_isAlpha_6 ?_
    refine ix_if_ne (tgt := 25) hx hb (by omega) (by omega) dX0_isAlpha_7 (by decide) (fun h7 => ?_) (fun h7 => ?_)
    · skip
      refine ix_iconst hx hb dX0_isAlpha_25 ?_
      exact W.zret (ty := .boolean) hx hb hrt (by decide) (fun t ht hW => ⟨_, rfl, congrArg iI (by unfold sAli; first | rw [if_pos ⟨by omega, by omega, by assumption⟩] | rw [if_neg (fun g => by have g1 := g.1; have g2 := g.2.1; have g3 := g.2.2; omega)]), ht⟩) t_nil dX0_isAlpha_26
    · skip
      refine lv_aload_n hx hb dX0_isAlpha_10 rfl (lv_at hl 0 rfl) ?_
      refine gx_get hx hb hts hown hG 3 (by decide) rfl u58 dX0_isAlpha_11 ?_
      refine ix_iconst hx hb dX0_isAlpha_14 ?_
      refine ix_isub hx hb dX0_isAlpha_15 ?_
      refine lv_iload_n hx hb dX0_isAlpha_16 rfl (lv_at hl 1 rfl) ?_
      have h9 := Int.emod_nonneg (q - 1) (show a ≠ 0 by omega)
      have h8 := Int.emod_lt_of_pos (q - 1) (show 0 < a by omega)
      refine ix_irem hx hb (by omega) (by omega) (by omega) (by omega) dX0_isAlpha_17 ?_
      refine ix_if_ne (tgt := 25) hx hb (by omega) (by omega) dX0_isAlpha_18 (by decide) (fun h18 => ?_) (fun h18 => ?_)
      · skip
        refine ix_iconst hx hb dX0_isAlpha_25 ?_
        exact W.zret (ty := .boolean) hx hb hrt (by decide) (fun t ht hW => ⟨_, rfl, congrArg iI (by unfold sAli; first | rw [if_pos ⟨by omega, by omega, by assumption⟩] | rw [if_neg (fun g => by have g1 := g.1; have g2 := g.2.1; have g3 := g.2.2; omega)]), ht⟩) t_nil dX0_isAlpha_26
      · skip
        refine ix_iconst hx hb dX0_isAlpha_21 ?_
        refine lv_goto (tgt := 26) hx hb dX0_isAlpha_22 (by decide) ?_
        exact W.zret (ty := .boolean) hx hb hrt (by decide) (fun t ht hW => ⟨_, rfl, congrArg iI (by unfold sAli; first | rw [if_pos ⟨by omega, by omega, by assumption⟩] | rw [if_neg (fun g => by have g1 := g.1; have g2 := g.2.1; have g3 := g.2.2; omega)]), ht⟩) t_nil dX0_isAlpha_26

/-! Contracts of the class's read-only helpers, by program (wip/gen/x0.py). -/
set_option maxHeartbeats 4000000 in
set_option maxRecDepth 100000 in
theorem c_floorModI (l : Launch)  (a b : Int) (a1 : -2147483648 ≤ a) (a2 : a < 2147483648) (b1 : 0 < b) (b2 : b < 2147483648) : Met l yJ_floorModI wsJ_floorModI ({ frames := 0, cells := 0, slots := 0, locals := 0 }) (va_Pc [.int (iI (a)), .int (iI (b))] (fun _ => True)) (vp_Si (fun r_ => r_ = iI (a % b))) 0 0 (fun _ => False) := by
  refine va_MetF (cc := cJ_floorModI) (maxL := 3) (ret := (some .int)) (by decide +kernel) rfl ?_
  intro p e s m args below meth c s₁ B hml hv
  obtain ⟨rfl, hG⟩ := hv
  have hx := B.exec
  have hb := B.bytes
  have hrt := B.returns
  have hts : ∀ w ∈ wsU, w.before _ s = true := fun w h => atoms_spec (ws := wsJ_floorModI) B.pre w (List.mem_cons_of_mem _ h)
  have hown : s.vm.findClass "java/lang/Math" = some m.cls := findClass_of_methodNamed B.named
  have hlocks := B.notSynchronized
  have hl := lv_entry ([.int (iI (a)), .int (iI (b))]) (n := 3) (Nat.le_of_ble_eq_true rfl)
  rw [lg_entry_eq]
  generalize (lg_sl ([.int (iI (a)), .int (iI (b))]) ++ List.replicate (3 - (lg_sl ([.int (iI (a)), .int (iI (b))])).length) Slot.unset).toArray = ls at hl ⊢
  have hl : lv_has ls 3 [(0, .int (iI (a))), (1, .int (iI (b)))] := hl
  have hT := tm_em (a := a) b1
  have hL1 := Int.tmod_lt_of_pos a b1
  have hL2 : -b < a.tmod b := by
    have h9 := Int.lt_tmod_of_pos a b1
    omega
  refine lv_iload_n hx hb dJ_floorModI_0 rfl (lv_at hl 0 rfl) ?_
  refine lv_iload_n hx hb dJ_floorModI_1 rfl (lv_at hl 1 rfl) ?_
  refine ix_iremT hx hb a1 a2 b1 b2 dJ_floorModI_2 ?_
  refine lv_istore_n (lv' := [(2, .int (iI (a.tmod b))), (0, .int (iI (a))), (1, .int (iI (b)))]) hx hb dJ_floorModI_3 rfl hl (by decide) rfl (fun ls hl => ?_)
  refine lv_iload_n hx hb dJ_floorModI_4 rfl (lv_at hl 1 rfl) ?_
  refine lv_iload_n hx hb dJ_floorModI_5 rfl (lv_at hl 2 rfl) ?_
  refine lv_ixor hx hb dJ_floorModI_6 ?_
  refine lv_if_ge (tgt := 18) hx hb dJ_floorModI_7 (by decide) (fun h7 => ?_) (fun h7 => ?_)
  · have h7 := (iI_xor a1 a2 b1 b2).mp h7
    rw [if_pos h7] at hT
    refine lv_iload_n hx hb dJ_floorModI_18 rfl (lv_at hl 0 rfl) ?_
    exact W.iret hx hb hrt (fun t ht hW => ⟨_, rfl, congrArg iI (hT.symm), ht⟩) t_nil dJ_floorModI_19
  · have h7 : ¬ 0 ≤ a := fun g => h7 ((iI_xor a1 a2 b1 b2).mpr g)
    rw [if_neg h7] at hT
    refine lv_iload_n hx hb dJ_floorModI_10 rfl (lv_at hl 0 rfl) ?_
    refine ix_if_eq (tgt := 18) hx hb (by omega) (by omega) dJ_floorModI_11 (by decide) (fun h11 => ?_) (fun h11 => ?_)
    · skip
      rw [if_pos h11] at hT
      refine lv_iload_n hx hb dJ_floorModI_18 rfl (lv_at hl 0 rfl) ?_
      exact W.iret hx hb hrt (fun t ht hW => ⟨_, rfl, congrArg iI (h11.trans hT.symm), ht⟩) t_nil dJ_floorModI_19
    · skip
      rw [if_neg h11] at hT
      refine lv_iload_n hx hb dJ_floorModI_14 rfl (lv_at hl 0 rfl) ?_
      refine lv_iload_n hx hb dJ_floorModI_15 rfl (lv_at hl 2 rfl) ?_
      refine ix_iadd hx hb dJ_floorModI_16 ?_
      exact W.iret hx hb hrt (fun t ht hW => ⟨_, rfl, congrArg iI (hT.symm), ht⟩) t_nil dJ_floorModI_17
set_option maxHeartbeats 4000000 in
set_option maxRecDepth 100000 in
theorem c_nearRest (l : Launch)  (x a : Int) (x1 : 0 ≤ x) (x2 : x < 2147483648) (a1 : 0 < a) (a2 : a < 1073741824) (a3 : a % 2 = 0) : Met l yX0_nearRest wsX0_nearRest ({ frames := 0, cells := 0, slots := 0, locals := 0 }) (va_Pc [.int (iI (x)), .int (iI (a))] (fun _ => True)) (vp_Si (fun r_ => r_ = iI (sNear x a))) 0 0 (fun _ => False) := by
  refine Met.ofW (cc := cX0_nearRest) (maxL := 3) (ret := (some .int)) (by decide +kernel) rfl ?_
  intro p e s m args below meth c s₁ B hml hv
  obtain ⟨rfl, hG⟩ := hv
  have hx := B.exec
  have hb := B.bytes
  have hrt := B.returns
  have hts : ∀ w ∈ wsU, w.before _ s = true := fun w h => atoms_spec (ws := wsX0_nearRest) B.pre w (List.mem_cons_of_mem _ h)
  have hown : s.vm.findClass "NoiseRing" = some m.cls := findClass_of_methodNamed B.named
  have hlocks := B.notSynchronized
  have hl := lv_entry ([.int (iI (x)), .int (iI (a))]) (n := 3) (Nat.le_of_ble_eq_true rfl)
  rw [lg_entry_eq]
  generalize (lg_sl ([.int (iI (x)), .int (iI (a))]) ++ List.replicate (3 - (lg_sl ([.int (iI (x)), .int (iI (a))])).length) Slot.unset).toArray = ls at hl ⊢
  have hl : lv_has ls 3 [(0, .int (iI (x))), (1, .int (iI (a)))] := hl
  have h1 := Int.emod_nonneg x (show a ≠ 0 by omega)
  have h2 := Int.emod_lt_of_pos x a1
  refine lv_iload_n hx hb dX0_nearRest_0 rfl (lv_at hl 0 rfl) ?_
  refine lv_iload_n hx hb dX0_nearRest_1 rfl (lv_at hl 1 rfl) ?_
  refine ix_irem hx hb (by omega) (by omega) (by omega) (by omega) dX0_nearRest_2 ?_
  refine lv_istore_n (lv' := [(2, .int (iI ((x % a)))), (0, .int (iI (x))), (1, .int (iI (a)))]) hx hb dX0_nearRest_3 rfl hl (by decide) rfl (fun ls hl => ?_)
  refine lv_iload_n hx hb dX0_nearRest_4 rfl (lv_at hl 0 rfl) ?_
  refine lv_iload_n hx hb dX0_nearRest_5 rfl (lv_at hl 2 rfl) ?_
  refine ix_iconst hx hb dX0_nearRest_6 ?_
  refine ix_idiv hx hb (by omega) (by omega) (by omega) (by omega) dX0_nearRest_7 ?_
  refine ix_icmp_le (tgt := 17) hx hb (by omega) (by omega) (by omega) (by omega) dX0_nearRest_8 (by decide) (fun h8 => ?_) (fun h8 => ?_)
  · skip
    refine lv_iload_n hx hb dX0_nearRest_17 rfl (lv_at hl 0 rfl) ?_
    exact W.iret hx hb hrt (fun t ht hW => ⟨_, rfl, congrArg iI (by unfold sNear; first | rw [if_pos (by omega)] | rw [if_neg (by omega)]), ht⟩) t_nil dX0_nearRest_18
  · skip
    refine lv_iload_n hx hb dX0_nearRest_11 rfl (lv_at hl 0 rfl) ?_
    refine lv_iload_n hx hb dX0_nearRest_12 rfl (lv_at hl 2 rfl) ?_
    refine ix_isub hx hb dX0_nearRest_13 ?_
    refine lv_goto (tgt := 18) hx hb dX0_nearRest_14 (by decide) ?_
    exact W.iret hx hb hrt (fun t ht hW => ⟨_, rfl, congrArg iI (by unfold sNear; first | rw [if_pos (by omega)] | rw [if_neg (by omega)]), ht⟩) t_nil dX0_nearRest_18
set_option maxHeartbeats 4000000 in
set_option maxRecDepth 100000 in
theorem c_power (l : Launch) (ω : WX) (k q z : Int) (M : Nat → Nat → Int) (wk : Nat → Int) (b : Int) (n : Nat) (hq1 : 3329 ≤ q) (hq2 : q ≤ 8380417) (b1 : 0 ≤ b) (b2 : b < 8380417) (n2 : n < 1000) : Met l yX0_power wsX0_power ({ frames := 0, cells := 0, slots := 0, locals := 0 }) (va_Pc [.ref (ox ω), .int (iI (b)), .int (iI (n))] (fun U => GX ω k q z M wk U U.heap)) (vp_Si (fun r_ => r_ = iI (sPow q b n))) 0 0 (fun _ => False) := by
  refine Met.ofW (cc := cX0_power) (maxL := 6) (ret := (some .int)) (by decide +kernel) rfl ?_
  intro p e s m args below meth c s₁ B hml hv
  obtain ⟨rfl, hG⟩ := hv
  have hx := B.exec
  have hb := B.bytes
  have hrt := B.returns
  have hts : ∀ w ∈ wsU, w.before _ s = true := fun w h => atoms_spec (ws := wsX0_power) B.pre w (List.mem_cons_of_mem _ h)
  have hown : s.vm.findClass "NoiseRing" = some m.cls := findClass_of_methodNamed B.named
  have hlocks := B.notSynchronized
  have hl := lv_entry ([.ref (ox ω), .int (iI (b)), .int (iI (n))]) (n := 6) (Nat.le_of_ble_eq_true rfl)
  rw [lg_entry_eq]
  generalize (lg_sl ([.ref (ox ω), .int (iI (b)), .int (iI (n))]) ++ List.replicate (6 - (lg_sl ([.ref (ox ω), .int (iI (b)), .int (iI (n))])).length) Slot.unset).toArray = ls at hl ⊢
  have hl : lv_has ls 6 [(0, .ref (ox ω)), (1, .int (iI (b))), (2, .int (iI (n)))] := hl
  refine ix_lconst1 hx hb dX0_power_0 ?_
  refine wx_l (congrArg lI (sPow_0 (q := q) (b := b) (by omega)).symm) ?_
  refine lv_lstore_n (lv' := [(3, .long (lI (sPow q b 0))), (0, .ref (ox ω)), (1, .int (iI (b))), (2, .int (iI (n)))]) hx hb dX0_power_1 rfl hl (by decide) rfl (fun ls hl => ?_)
  refine ix_iconst hx hb dX0_power_2 ?_
  refine lv_istore (lv' := [(5, .int (iI (0))), (3, .long (lI (sPow q b 0))), (0, .ref (ox ω)), (1, .int (iI (b))), (2, .int (iI (n)))]) hx hb dX0_power_3 hl (by decide) rfl (fun ls hl => ?_)
  refine ix_loop (I := fun j ls => lv_has ls 6 [(5, .int (iI ((j : Nat)))), (3, .long (lI (sPow q b (j)))), (2, .int (iI (n))), (1, .int (iI (b))), (0, .ref (ox ω))]) (n) 0 (by omega) (lv_sub hl [0, 1, 4, 3, 2] rfl) (fun ls hl => ?_) (fun j ls hj hl ih5 => ?_)
  · skip
    have hl : lv_has ls 6 [(5, .int (iI ((n : Nat)))), (3, .long (lI (sPow q b (n)))), (2, .int (iI (n))), (1, .int (iI (b))), (0, .ref (ox ω))] := hl
    refine lv_iload hx hb dX0_power_5 (lv_at hl 0 rfl) ?_
    refine lv_iload_n hx hb dX0_power_7 rfl (lv_at hl 2 rfl) ?_
    refine ix_icmp_ge (tgt := 28) hx hb (by omega) (by omega) (by omega) (by omega) dX0_power_8 (by decide) (fun h8 => ?_) (fun h8 => absurd h8 (by omega))
    refine lv_lload_n hx hb dX0_power_28 rfl (lv_at hl 1 rfl) ?_
    refine ix_l2i hx hb dX0_power_29 ?_
    exact W.iret hx hb hrt (fun t ht hW => ⟨_, rfl, rfl, ht⟩) t_nil dX0_power_30
  · skip
    have hl : lv_has ls 6 [(5, .int (iI ((j : Nat)))), (3, .long (lI (sPow q b (j)))), (2, .int (iI (n))), (1, .int (iI (b))), (0, .ref (ox ω))] := hl
    refine lv_iload hx hb dX0_power_5 (lv_at hl 0 rfl) ?_
    refine lv_iload_n hx hb dX0_power_7 rfl (lv_at hl 2 rfl) ?_
    refine ix_icmp_ge (tgt := 28) hx hb (by omega) (by omega) (by omega) (by omega) dX0_power_8 (by decide) (fun h8 => absurd h8 (by omega)) (fun h8 => ?_)
    have hp := sPow_in (q := q) (b := b) (by omega) j
    have hp1 : 0 ≤ sPow q b j * b := Int.mul_nonneg hp.1 b1
    have hp2 : sPow q b j * b ≤ 8380417 * 8380417 := Int.mul_le_mul (by omega) (by omega) b1 (by decide)
    refine lv_lload_n hx hb dX0_power_11 rfl (lv_at hl 1 rfl) ?_
    refine lv_iload_n hx hb dX0_power_12 rfl (lv_at hl 3 rfl) ?_
    refine ix_i2l hx hb (by omega) (by omega) dX0_power_13 ?_
    refine ix_lmul hx hb dX0_power_14 ?_
    refine lv_aload_n hx hb dX0_power_15 rfl (lv_at hl 4 rfl) ?_
    refine gx_get hx hb hts hown hG 3 (by decide) rfl u58 dX0_power_16 ?_
    refine ix_i2l hx hb (by omega) (by omega) dX0_power_19 ?_
    refine ix_lrem hx hb (by omega) (by omega) (by omega) (by omega) dX0_power_20 ?_
    refine wx_l (congrArg lI (sPow_s (q := q) (b := b) j)) ?_
    refine lv_lstore_n (lv' := [(3, .long (lI (sPow q b (j + 1)))), (5, .int (iI ((j : Nat)))), (2, .int (iI (n))), (1, .int (iI (b))), (0, .ref (ox ω))]) hx hb dX0_power_21 rfl hl (by decide) rfl (fun ls hl => ?_)
    refine lv_iinc (k := 1) (v := iI ((j : Nat) + 1)) (lv' := [(5, .int (iI ((j : Nat) + 1))), (3, .long (lI (sPow q b (j + 1)))), (2, .int (iI (n))), (1, .int (iI (b))), (0, .ref (ox ω))]) hx hb dX0_power_22 hl rfl (iI_add _ _) (by decide) rfl (fun ls hl => ?_)
    refine lv_goto (tgt := 5) hx hb dX0_power_25 (by decide) ?_
    exact ih5 ls (lv_sub hl [0, 1, 2, 3, 4] rfl)
set_option maxHeartbeats 4000000 in
set_option maxRecDepth 100000 in
theorem c_centredSize (l : Launch) (ω : WX) (k q z : Int) (M : Nat → Nat → Int) (wk : Nat → Int) (x : Int) (hq1 : 3329 ≤ q) (hq2 : q ≤ 8380417) (x1 : 0 ≤ x) (x2 : x < q) : Met l yX0_centredSize wsX0_centredSize ({ frames := 1, cells := 0, slots := 0, locals := 16 }) (va_Pc [.ref (ox ω), .int (iI (x))] (fun U => GX ω k q z M wk U U.heap)) (vp_Si (fun r_ => r_ = iI (sCs q x))) 0 0 (fun _ => False) := by
  refine Met.ofW (cc := cX0_centredSize) (maxL := 2) (ret := (some .int)) (by decide +kernel) rfl ?_
  intro p e s m args below meth c s₁ B hml hv
  obtain ⟨rfl, hG⟩ := hv
  have hx := B.exec
  have hb := B.bytes
  have hrt := B.returns
  have hts : ∀ w ∈ wsU, w.before _ s = true := fun w h => atoms_spec (ws := wsX0_centredSize) B.pre w (List.mem_cons_of_mem _ h)
  have hown : s.vm.findClass "NoiseRing" = some m.cls := findClass_of_methodNamed B.named
  have hlocks := B.notSynchronized
  have hl := lv_entry ([.ref (ox ω), .int (iI (x))]) (n := 2) (Nat.le_of_ble_eq_true rfl)
  rw [lg_entry_eq]
  generalize (lg_sl ([.ref (ox ω), .int (iI (x))]) ++ List.replicate (2 - (lg_sl ([.ref (ox ω), .int (iI (x))])).length) Slot.unset).toArray = ls at hl ⊢
  have hl : lv_has ls 2 [(0, .ref (ox ω)), (1, .int (iI (x)))] := hl
  refine lv_iload_n hx hb dX0_centredSize_0 rfl (lv_at hl 1 rfl) ?_
  refine lv_aload_n hx hb dX0_centredSize_1 rfl (lv_at hl 0 rfl) ?_
  refine gx_get hx hb hts hown hG 3 (by decide) rfl u58 dX0_centredSize_2 ?_
  refine lv_iload_n hx hb dX0_centredSize_5 rfl (lv_at hl 1 rfl) ?_
  refine ix_isub hx hb dX0_centredSize_6 ?_
  refine ix_mmin hx hb hts (hml.trans hl.1.symm) hown u210 (by omega) (by omega) (by omega) (by omega) (Nat.le_of_ble_eq_true rfl) (Nat.le_of_ble_eq_true rfl) (Nat.le_of_ble_eq_true rfl) (Nat.le_of_ble_eq_true rfl) dX0_centredSize_7 ?_
  exact W.iret hx hb hrt (fun t ht hW => ⟨_, rfl, congrArg iI (by unfold sCs; split <;> split <;> omega), ht⟩) t_nil dX0_centredSize_10
set_option maxHeartbeats 4000000 in
set_option maxRecDepth 100000 in
theorem c_greatestSize (l : Launch) (ω : WX) (k q z : Int) (M : Nat → Nat → Int) (wk : Nat → Int) (r : Nat) (hr : r < 12) (hq1 : 3329 ≤ q) (hq2 : q ≤ 8380417) (hM : ∀ r i, r < 12 → i < 16 → 0 ≤ M r i ∧ M r i < q) : Met l yX0_greatestSize wsX0_greatestSize ({ frames := 2, cells := 0, slots := 0, locals := 37 }) (va_Pc [.ref (ox ω), .ref (oR ω (r))] (fun U => GX ω k q z M wk U U.heap)) (vp_Si (fun r_ => r_ = iI (sMax q (M r) 16))) 0 0 (fun _ => False) := by
  refine Met.ofW (cc := cX0_greatestSize) (maxL := 4) (ret := (some .int)) (by decide +kernel) rfl ?_
  intro p e s m args below meth c s₁ B hml hv
  obtain ⟨rfl, hG⟩ := hv
  have hx := B.exec
  have hb := B.bytes
  have hrt := B.returns
  have hts : ∀ w ∈ wsU, w.before _ s = true := fun w h => atoms_spec (ws := wsX0_greatestSize) B.pre w (List.mem_cons_of_mem _ h)
  have hown : s.vm.findClass "NoiseRing" = some m.cls := findClass_of_methodNamed B.named
  have hlocks := B.notSynchronized
  have hl := lv_entry ([.ref (ox ω), .ref (oR ω (r))]) (n := 4) (Nat.le_of_ble_eq_true rfl)
  rw [lg_entry_eq]
  generalize (lg_sl ([.ref (ox ω), .ref (oR ω (r))]) ++ List.replicate (4 - (lg_sl ([.ref (ox ω), .ref (oR ω (r))])).length) Slot.unset).toArray = ls at hl ⊢
  have hl : lv_has ls 4 [(0, .ref (ox ω)), (1, .ref (oR ω (r)))] := hl
  refine ix_iconst hx hb dX0_greatestSize_0 ?_
  refine lv_istore_n (lv' := [(2, .int (iI (0))), (0, .ref (ox ω)), (1, .ref (oR ω (r)))]) hx hb dX0_greatestSize_1 rfl hl (by decide) rfl (fun ls hl => ?_)
  refine ix_iconst hx hb dX0_greatestSize_2 ?_
  refine lv_istore_n (lv' := [(3, .int (iI (0))), (2, .int (iI (0))), (0, .ref (ox ω)), (1, .ref (oR ω (r)))]) hx hb dX0_greatestSize_3 rfl hl (by decide) rfl (fun ls hl => ?_)
  refine ix_loop (I := fun j ls => lv_has ls 4 [(3, .int (iI ((j : Nat)))), (2, .int (iI (sMax q (M r) (j)))), (1, .ref (oR ω (r))), (0, .ref (ox ω))]) (16) 0 (by omega) (lv_sub hl [0, 1, 3, 2] rfl) (fun ls hl => ?_) (fun j ls hj hl ih4 => ?_)
  · skip
    have hl : lv_has ls 4 [(3, .int (iI ((16 : Nat)))), (2, .int (iI (sMax q (M r) (16)))), (1, .ref (oR ω (r))), (0, .ref (ox ω))] := hl
    refine lv_iload_n hx hb dX0_greatestSize_4 rfl (lv_at hl 0 rfl) ?_
    refine ix_bipush hx hb (by decide) dX0_greatestSize_5 ?_
    refine ix_icmp_ge (tgt := 28) hx hb (by omega) (by omega) (by omega) (by omega) dX0_greatestSize_7 (by decide) (fun h7 => ?_) (fun h7 => absurd h7 (by omega))
    refine lv_iload_n hx hb dX0_greatestSize_28 rfl (lv_at hl 1 rfl) ?_
    exact W.iret hx hb hrt (fun t ht hW => ⟨_, rfl, rfl, ht⟩) t_nil dX0_greatestSize_29
  · skip
    have hl : lv_has ls 4 [(3, .int (iI ((j : Nat)))), (2, .int (iI (sMax q (M r) (j)))), (1, .ref (oR ω (r))), (0, .ref (ox ω))] := hl
    refine lv_iload_n hx hb dX0_greatestSize_4 rfl (lv_at hl 0 rfl) ?_
    refine ix_bipush hx hb (by decide) dX0_greatestSize_5 ?_
    refine ix_icmp_ge (tgt := 28) hx hb (by omega) (by omega) (by omega) (by omega) dX0_greatestSize_7 (by decide) (fun h7 => absurd h7 (by omega)) (fun h7 => ?_)
    have hm := hM r j hr hj
    have hx1 := sMax_in (q := q) (f := M r) (n := j) (by omega) (fun i hi => hM r i hr (by omega))
    have hc := sCs_in hm.1 hm.2
    refine lv_iload_n hx hb dX0_greatestSize_10 rfl (lv_at hl 1 rfl) ?_
    refine lv_aload_n hx hb dX0_greatestSize_11 rfl (lv_at hl 3 rfl) ?_
    refine lv_aload_n hx hb dX0_greatestSize_12 rfl (lv_at hl 2 rfl) ?_
    refine lv_iload_n hx hb dX0_greatestSize_13 rfl (lv_at hl 0 rfl) ?_
    refine gx_ild (r := r) (i := j) hx hb hG (by omega) (by omega) dX0_greatestSize_14 ?_
    refine vp_callSi (va_Run.run (va_runV (As := [.int (iI (M (r) (j)))]) (rest := [.int (iI (sMax q (M r) (j)))]) ⟨hx, hb, hml, hown, hts⟩ (c_centredSize l ω k q z M wk (M (r) (j)) hq1 hq2 (by omega) (by omega)) (cwV 1 hts (gU (hd := [.methodLink "NoiseRing" 85 yX0_centredSize, .instanceMethod yX0_centredSize, .selects "NoiseRing" yX0_centredSize yX0_centredSize, .initialized "NoiseRing"]) (List.forall_mem_cons.mpr ⟨u207, List.forall_mem_cons.mpr ⟨u208, List.forall_mem_cons.mpr ⟨u7, List.forall_mem_cons.mpr ⟨u29, fun _ h => by cases h⟩⟩⟩⟩) u209) rfl rfl rfl (by decide +kernel) ⟨Nat.le_of_ble_eq_true rfl, Nat.le_of_ble_eq_true rfl⟩) (gx_V hG) rfl rfl hl.1 rfl (lv_room (Nat.le_of_ble_eq_true rfl)) dX0_greatestSize_15 ⟨Nat.le_of_ble_eq_true rfl, Nat.le_of_ble_eq_true rfl⟩)) (fun r15 hr15 => ?_)
    subst hr15
    refine ix_mmax hx hb hts (hml.trans hl.1.symm) hown u213 (by omega) (by omega) (by omega) (by omega) (Nat.le_of_ble_eq_true rfl) (Nat.le_of_ble_eq_true rfl) (Nat.le_of_ble_eq_true rfl) (Nat.le_of_ble_eq_true rfl) dX0_greatestSize_18 ?_
    refine wx_i (congrArg iI (show (if sMax q (M r) j < sCs q (M (r) (j)) then sCs q (M (r) (j)) else sMax q (M r) j) = sMax q (M r) (j + 1) by rw [sMax]; split <;> omega)) ?_
    refine lv_istore_n (lv' := [(2, .int (iI (sMax q (M r) (j + 1)))), (3, .int (iI ((j : Nat)))), (1, .ref (oR ω (r))), (0, .ref (ox ω))]) hx hb dX0_greatestSize_21 rfl hl (by decide) rfl (fun ls hl => ?_)
    refine lv_iinc (k := 1) (v := iI ((j : Nat) + 1)) (lv' := [(3, .int (iI ((j : Nat) + 1))), (2, .int (iI (sMax q (M r) (j + 1)))), (1, .ref (oR ω (r))), (0, .ref (ox ω))]) hx hb dX0_greatestSize_22 hl rfl (iI_add _ _) (by decide) rfl (fun ls hl => ?_)
    refine lv_goto (tgt := 4) hx hb dX0_greatestSize_25 (by decide) ?_
    exact ih4 ls (lv_sub hl [0, 1, 2, 3] rfl)
set_option maxHeartbeats 4000000 in
set_option maxRecDepth 100000 in
theorem c_notZero (l : Launch) (ω : WX) (k q z : Int) (M : Nat → Nat → Int) (wk : Nat → Int) (r : Nat) (hr : r < 12) (hq1 : 3329 ≤ q) (hq2 : q ≤ 8380417) (hM : ∀ r i, r < 12 → i < 16 → 0 ≤ M r i ∧ M r i < q) : Met l yX0_notZero wsX0_notZero ({ frames := 0, cells := 0, slots := 0, locals := 0 }) (va_Pc [.ref (oR ω (r))] (fun U => GX ω k q z M wk U U.heap)) (vp_Si (fun r_ => r_ = iI (sCnt (M r) 16))) 0 0 (fun _ => False) := by
  refine Met.ofW (cc := cX0_notZero) (maxL := 3) (ret := (some .int)) (by decide +kernel) rfl ?_
  intro p e s m args below meth c s₁ B hml hv
  obtain ⟨rfl, hG⟩ := hv
  have hx := B.exec
  have hb := B.bytes
  have hrt := B.returns
  have hts : ∀ w ∈ wsU, w.before _ s = true := fun w h => atoms_spec (ws := wsX0_notZero) B.pre w (List.mem_cons_of_mem _ h)
  have hown : s.vm.findClass "NoiseRing" = some m.cls := findClass_of_methodNamed B.named
  have hlocks := B.notSynchronized
  have hl := lv_entry ([.ref (oR ω (r))]) (n := 3) (Nat.le_of_ble_eq_true rfl)
  rw [lg_entry_eq]
  generalize (lg_sl ([.ref (oR ω (r))]) ++ List.replicate (3 - (lg_sl ([.ref (oR ω (r))])).length) Slot.unset).toArray = ls at hl ⊢
  have hl : lv_has ls 3 [(0, .ref (oR ω (r)))] := hl
  refine ix_iconst hx hb dX0_notZero_0 ?_
  refine lv_istore_n (lv' := [(1, .int (iI (0))), (0, .ref (oR ω (r)))]) hx hb dX0_notZero_1 rfl hl (by decide) rfl (fun ls hl => ?_)
  refine ix_iconst hx hb dX0_notZero_2 ?_
  refine lv_istore_n (lv' := [(2, .int (iI (0))), (1, .int (iI (0))), (0, .ref (oR ω (r)))]) hx hb dX0_notZero_3 rfl hl (by decide) rfl (fun ls hl => ?_)
  refine ix_loop (I := fun j ls => lv_has ls 3 [(2, .int (iI ((j : Nat)))), (1, .int (iI (sCnt (M r) (j)))), (0, .ref (oR ω (r)))]) (16) 0 (by omega) (lv_sub hl [0, 1, 2] rfl) (fun ls hl => ?_) (fun j ls hj hl ih4 => ?_)
  · skip
    have hl : lv_has ls 3 [(2, .int (iI ((16 : Nat)))), (1, .int (iI (sCnt (M r) (16)))), (0, .ref (oR ω (r)))] := hl
    refine lv_iload_n hx hb dX0_notZero_4 rfl (lv_at hl 0 rfl) ?_
    refine ix_bipush hx hb (by decide) dX0_notZero_5 ?_
    refine ix_icmp_ge (tgt := 25) hx hb (by omega) (by omega) (by omega) (by omega) dX0_notZero_7 (by decide) (fun h7 => ?_) (fun h7 => absurd h7 (by omega))
    refine lv_iload_n hx hb dX0_notZero_25 rfl (lv_at hl 1 rfl) ?_
    exact W.iret hx hb hrt (fun t ht hW => ⟨_, rfl, rfl, ht⟩) t_nil dX0_notZero_26
  · skip
    have hl : lv_has ls 3 [(2, .int (iI ((j : Nat)))), (1, .int (iI (sCnt (M r) (j)))), (0, .ref (oR ω (r)))] := hl
    refine lv_iload_n hx hb dX0_notZero_4 rfl (lv_at hl 0 rfl) ?_
    refine ix_bipush hx hb (by decide) dX0_notZero_5 ?_
    refine ix_icmp_ge (tgt := 25) hx hb (by omega) (by omega) (by omega) (by omega) dX0_notZero_7 (by decide) (fun h7 => absurd h7 (by omega)) (fun h7 => ?_)
    have hm := hM r j hr hj
    have hc := sCnt_in (M r) j
    refine lv_aload_n hx hb dX0_notZero_10 rfl (lv_at hl 2 rfl) ?_
    refine lv_iload_n hx hb dX0_notZero_11 rfl (lv_at hl 0 rfl) ?_
    refine gx_ild (r := r) (i := j) hx hb hG (by omega) (by omega) dX0_notZero_12 ?_
    refine ix_if_eq (tgt := 19) hx hb (by omega) (by omega) dX0_notZero_13 (by decide) (fun h13 => ?_) (fun h13 => ?_)
    · have hs : sCnt (M r) (j + 1) = sCnt (M r) j := by rw [sCnt, if_pos h13]; omega
      rw [← hs] at hl
      refine lv_iinc (k := 0) (v := iI ((j : Nat) + 1)) (lv' := [(2, .int (iI ((j : Nat) + 1))), (1, .int (iI (sCnt (M r) (j + 1)))), (0, .ref (oR ω (r)))]) hx hb dX0_notZero_19 hl rfl (iI_add _ _) (by decide) rfl (fun ls hl => ?_)
      refine lv_goto (tgt := 4) hx hb dX0_notZero_22 (by decide) ?_
      exact ih4 ls (lv_sub hl [0, 1, 2] rfl)
    · have hs : sCnt (M r) (j + 1) = sCnt (M r) j + 1 := by rw [sCnt, if_neg h13]
      refine lv_iinc (k := 1) (v := iI (sCnt (M r) (j + 1))) (lv' := [(1, .int (iI (sCnt (M r) (j + 1)))), (2, .int (iI ((j : Nat)))), (0, .ref (oR ω (r)))]) hx hb dX0_notZero_16 hl rfl ((iI_add _ _).trans (congrArg iI hs.symm)) (by decide) rfl (fun ls hl => ?_)
      refine lv_iinc (k := 1) (v := iI ((j : Nat) + 1)) (lv' := [(2, .int (iI ((j : Nat) + 1))), (1, .int (iI (sCnt (M r) (j + 1)))), (0, .ref (oR ω (r)))]) hx hb dX0_notZero_19 hl rfl (iI_add _ _) (by decide) rfl (fun ls hl => ?_)
      refine lv_goto (tgt := 4) hx hb dX0_notZero_22 (by decide) ?_
      exact ih4 ls (lv_sub hl [0, 1, 2] rfl)

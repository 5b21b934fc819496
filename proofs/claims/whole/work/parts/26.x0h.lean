/-! takeKind, value, unit, count, begin; by program (wip/gen/rw3.py). -/
set_option maxHeartbeats 4000000 in
set_option maxRecDepth 100000 in
theorem c_takeKind (l : Launch) (ω : WX) (k q z : Int) (M : Nat → Nat → Int) (wk : Nat → Int) (n : Int) (n1 : 0 ≤ n) (n2 : n ≤ 1) : Met l yX0_takeKind wsX0_takeKind ({ frames := 1, cells := 0, slots := 0, locals := 25 }) (va_Pc [.ref (ox ω), .int (iI (n))] (fun U => GX ω k q z M wk U U.heap)) (va_Qv (fun _ : Unit => True) (fun _ t => CX ω n (kQ n) (kZ n) M wk t.heap) (Ax ω)) 0 0 (Ax ω) := by
  refine Met.ofW (cc := cX0_takeKind) (maxL := 2) (ret := none) (by decide +kernel) rfl ?_
  intro p e s m args below meth c s₁ B hml hv
  obtain ⟨rfl, hG⟩ := hv
  have hx := B.exec
  have hb := B.bytes
  have hrt := B.returns
  have hts : ∀ w ∈ wsU, w.before _ s = true := fun w h => atoms_spec (ws := wsX0_takeKind) B.pre w (List.mem_cons_of_mem _ h)
  have hown : s.vm.findClass "NoiseRing" = some m.cls := findClass_of_methodNamed B.named
  have hlocks := B.notSynchronized
  have hS : va_S (Ax ω) s.heap s.heap [] := va_S.rf
  have hB0 := hG.1
  have hkq := kQ_in (k := n)
  have hkb := kB_in n
  have hl := lv_entry ([.ref (ox ω), .int (iI (n))]) (n := 2) (Nat.le_of_ble_eq_true rfl)
  rw [lg_entry_eq]
  generalize (lg_sl ([.ref (ox ω), .int (iI (n))]) ++ List.replicate (2 - (lg_sl ([.ref (ox ω), .int (iI (n))])).length) Slot.unset).toArray = ls at hl ⊢
  have hl : lv_has ls 2 [(0, .ref (ox ω)), (1, .int (iI (n)))] := hl
  refine lv_aload_n hx hb dX0_takeKind_0 rfl (lv_at hl 0 rfl) ?_
  refine lv_iload_n hx hb dX0_takeKind_1 rfl (lv_at hl 1 rfl) ?_
  refine gx_put2 hx hb hts hown hG hS u57 dX0_takeKind_2 (fun H1 locs1 hG hS => ?_)
  refine lv_aload_n hx hb dX0_takeKind_5 rfl (lv_at hl 0 rfl) ?_
  refine gx_gets hx hb hts hown hB0.2.1.1.1 hS u50 dX0_takeKind_6 ?_
  refine lv_iload_n hx hb dX0_takeKind_9 rfl (lv_at hl 1 rfl) ?_
  refine gx_tab hx hb hB0.2.1.1.1 hS (by omega) (by omega) (tbM_k (k := n) (by omega) (by omega)) dX0_takeKind_10 ?_
  refine gx_put3 hx hb hts hown hG hS u58 dX0_takeKind_11 (fun H1 locs1 hG hS => ?_)
  refine lv_aload_n hx hb dX0_takeKind_14 rfl (lv_at hl 0 rfl) ?_
  refine lv_aload_n hx hb dX0_takeKind_15 rfl (lv_at hl 0 rfl) ?_
  refine gx_gets hx hb hts hown hB0.2.1.1.2.2.1 hS u51 dX0_takeKind_16 ?_
  refine lv_iload_n hx hb dX0_takeKind_19 rfl (lv_at hl 1 rfl) ?_
  refine gx_tab hx hb hB0.2.1.1.2.2.1 hS (by omega) (by omega) (tbR_k (k := n) (by omega) (by omega)) dX0_takeKind_20 ?_
  refine ix_bipush hx hb (by decide) dX0_takeKind_21 ?_
  refine vp_callSi (va_Run.run (va_runV (As := [.int (iI (kB (n))), .int (iI (16))]) (rest := [.ref (ox ω)]) ⟨hx, hb, hml, hown, hts⟩ (c_power l ω n (kQ n) z M wk (kB n) 16 (by omega) (by omega) (by omega) (by omega) (by omega)) (cwV 2 hts (gU (hd := [.methodLink "NoiseRing" 96 yX0_power, .instanceMethod yX0_power, .selects "NoiseRing" yX0_power yX0_power, .initialized "NoiseRing"]) (List.forall_mem_cons.mpr ⟨u52, List.forall_mem_cons.mpr ⟨u53, List.forall_mem_cons.mpr ⟨u1, List.forall_mem_cons.mpr ⟨u29, fun _ h => by cases h⟩⟩⟩⟩) u54) rfl rfl rfl (by decide +kernel) ⟨Nat.le_of_ble_eq_true rfl, Nat.le_of_ble_eq_true rfl⟩) (gx_V hG) rfl rfl hl.1 rfl (lv_room (Nat.le_of_ble_eq_true rfl)) dX0_takeKind_23 ⟨Nat.le_of_ble_eq_true rfl, Nat.le_of_ble_eq_true rfl⟩)) (fun r23 hr23 => ?_)
  subst hr23
  refine gx_put4 hx hb hts hown hG hS u59 dX0_takeKind_26 (fun H1 locs1 hG hS => ?_)
  exact W.vret hx hb hrt (fun t ht hW => ⟨⟨(), rfl, trivial, by have h9 := hG.2; rw [← ht] at h9; exact h9⟩, hS.F ht⟩) hS.2.2 dX0_takeKind_29
set_option maxHeartbeats 4000000 in
set_option maxRecDepth 100000 in
theorem p_value (l : Launch) (htr : l.stackTraces = false) (ω : WX) (k q z : Int) (M : Nat → Nat → Int) (wk : Nat → Int) (a i : Int) (a1 : -2147483648 ≤ a) (a2 : a < 2147483648) (i1 : -2147483648 ≤ i) (i2 : i < 2147483648) (hq1 : 3329 ≤ q) (hq2 : q ≤ 8380417) (hM : ∀ r i, r < 12 → i < 16 → 0 ≤ M r i ∧ M r i < q) (k1 : 0 ≤ k) (k2 : k ≤ 1) (qk : q = kQ k) (zk : z = kZ k) : vx_Met l yX0_value wsX0_value ({ frames := 7, cells := 2, slots := 12, locals := 102 }) (va_Pc [.ref (ox ω), .int (iI (a)), .int (iI (i))] (fun U => GX ω k q z M wk U U.heap)) (va_Qi (fun r_ (_ : Nat → Int) => (((0 ≤ a ∧ a < 12)) ∧ 0 ≤ i ∧ i < 16) ∧ r_ = iI (sVal k (M a.toNat) i.toNat)) (fun w_ t => CX ω k q z M w_ t.heap) (Ax ω)) (vx_X (fun _ : Unit => True) (fun E _ t => (¬ (((0 ≤ a ∧ a < 12)) ∧ 0 ≤ i ∧ i < 16) ∧ E = nNSE) ∧ CX ω k q z M wk t.heap) (Ax ω)) 2 12 (Ax ω) := by
  refine vx_ofW (cc := cX0_value) (maxL := 3) (ret := (some .int)) (by decide +kernel) rfl ?_
  intro p e s m args below meth c s₁ B hml hnx hv
  obtain ⟨rfl, hG⟩ := hv
  have hx := B.exec
  have hb := B.bytes
  have hrt := B.returns
  have hts : ∀ w ∈ wsU, w.before _ s = true := fun w h => atoms_spec (ws := wsX0_value) B.pre w (List.mem_cons_of_mem _ h)
  have hown : s.vm.findClass "NoiseRing" = some m.cls := findClass_of_methodNamed B.named
  have hlocks := B.notSynchronized
  have hS : va_S (Ax ω) s.heap s.heap [] := va_S.rf
  have hl := lv_entry ([.ref (ox ω), .int (iI (a)), .int (iI (i))]) (n := 3) (Nat.le_of_ble_eq_true rfl)
  rw [lg_entry_eq]
  generalize (lg_sl ([.ref (ox ω), .int (iI (a)), .int (iI (i))]) ++ List.replicate (3 - (lg_sl ([.ref (ox ω), .int (iI (a)), .int (iI (i))])).length) Slot.unset).toArray = ls at hl ⊢
  have hl : lv_has ls 3 [(0, .ref (ox ω)), (1, .int (iI (a))), (2, .int (iI (i)))] := hl
  have hB0 := hG.1
  refine lv_iload_n hx hb dX0_value_0 rfl (lv_at hl 1 rfl) ?_
  refine vx_callv (vx_runS (As := [.int (iI (a))]) (rest := []) ⟨hx, hb, hml, hown, hts⟩ (n_needRegister l htr ω k q z M wk _ (a) (by omega) (by omega)) (va_cwS 1 hts (gU (hd := [.methodLink "NoiseRing" 33 yX0_needRegister, .static yX0_needRegister, .initialized "NoiseRing"]) (List.forall_mem_cons.mpr ⟨u155, List.forall_mem_cons.mpr ⟨u156, List.forall_mem_cons.mpr ⟨u29, fun _ h => by cases h⟩⟩⟩) u157) rfl rfl rfl (by decide +kernel) ⟨Nat.le_of_ble_eq_true rfl, Nat.le_of_ble_eq_true rfl⟩) (gx_Sh hG) rfl rfl hl.1 rfl (lv_room (Nat.le_of_ble_eq_true rfl)) dX0_value_1 ⟨Nat.le_of_ble_eq_true rfl, Nat.le_of_ble_eq_true rfl⟩) hS (fun q9 _ h => h.elim) (fun q9 h => h.elim) (fun q9 _ h => h.elim) (fun E ce q9 u t H1 locs1 ht hvm hpx hBX hz hk hS1 hce hcv hcl => ?_) (fun u t H1 locs1 ht hvm hp1 hB hz hk hS1 => ?_)
  · exact vx_out (E := E) (fun x9 h9 => (hnx x9 h9).elim) hlocks hce hcv hcl (fun t1 ht1 ha1 => ⟨(), trivial, ⟨⟨by omega, hBX.2⟩, by rw [ht1]; exact hG.2.kept (fun a9 g9 => hk a9 g9 (fun f9 => f9))⟩, hS1.F ht1⟩) hS1.2.2 (Nat.le_of_ble_eq_true rfl) (Nat.le_of_ble_eq_true rfl)
  obtain rfl := ht.symm.trans hB
  clear hS
  have hS := hS1
  obtain ⟨a, rfl⟩ := Int.eq_ofNat_of_zero_le hp1.1
  refine lv_iload_n hx hb dX0_value_4 rfl (lv_at hl 2 rfl) ?_
  refine vx_callv (vx_runS (As := [.int (iI (i))]) (rest := []) ⟨hx, hb, hml, hown, hts⟩ (n_needPlace l htr ω k q z M wk _ (i) (by omega) (by omega)) (va_cwS 1 hts (gU (hd := [.methodLink "NoiseRing" 36 yX0_needPlace, .static yX0_needPlace, .initialized "NoiseRing"]) (List.forall_mem_cons.mpr ⟨u172, List.forall_mem_cons.mpr ⟨u173, List.forall_mem_cons.mpr ⟨u29, fun _ h => by cases h⟩⟩⟩) u174) rfl rfl rfl (by decide +kernel) ⟨Nat.le_of_ble_eq_true rfl, Nat.le_of_ble_eq_true rfl⟩) (gx_Sh hG) rfl rfl hl.1 rfl (lv_room (Nat.le_of_ble_eq_true rfl)) dX0_value_5 ⟨Nat.le_of_ble_eq_true rfl, Nat.le_of_ble_eq_true rfl⟩) hS (fun q9 _ h => h.elim) (fun q9 h => h.elim) (fun q9 _ h => h.elim) (fun E ce q9 u t H1 locs1 ht hvm hpx hBX hz hk hS1 hce hcv hcl => ?_) (fun u t H1 locs1 ht hvm hp5 hB hz hk hS1 => ?_)
  · exact vx_out (E := E) (fun x9 h9 => (hnx x9 h9).elim) hlocks hce hcv hcl (fun t1 ht1 ha1 => ⟨(), trivial, ⟨⟨by omega, hBX.2⟩, by rw [ht1]; exact hG.2.kept (fun a9 g9 => hk a9 g9 (fun f9 => f9))⟩, hS1.F ht1⟩) hS1.2.2 (Nat.le_of_ble_eq_true rfl) (Nat.le_of_ble_eq_true rfl)
  obtain rfl := ht.symm.trans hB
  clear hS
  have hS := hS1
  obtain ⟨i, rfl⟩ := Int.eq_ofNat_of_zero_le hp5.1
  have hz := kZ_in k
  rw [← zk, ← qk] at hz
  refine lv_aload_n hx hb dX0_value_8 rfl (lv_at hl 0 rfl) ?_
  refine gx_get hx hb hts hown hG 2 (by decide) rfl u57 dX0_value_9 ?_
  refine ix_if_ne (tgt := 45) hx hb (by omega) (by omega) dX0_value_12 (by decide) (fun h12 => ?_) (fun h12 => ?_)
  · skip
    refine lv_aload_n hx hb dX0_value_45 rfl (lv_at hl 0 rfl) ?_
    refine lv_aload_n hx hb dX0_value_46 rfl (lv_at hl 0 rfl) ?_
    refine gx_get hx hb hts hown hG 0 (by decide) rfl u55 dX0_value_47 ?_
    refine lv_iload_n hx hb dX0_value_50 rfl (lv_at hl 1 rfl) ?_
    refine gx_row (r := a) hx hb hG (by omega) dX0_value_51 ?_
    refine ix_iconst hx hb dX0_value_52 ?_
    refine ix_iconst hx hb dX0_value_53 ?_
    refine lv_aload_n hx hb dX0_value_54 rfl (lv_at hl 0 rfl) ?_
    refine lv_aload_n hx hb dX0_value_55 rfl (lv_at hl 0 rfl) ?_
    refine gx_get hx hb hts hown hG 4 (by decide) rfl u59 dX0_value_56 ?_
    refine ix_iconst hx hb dX0_value_59 ?_
    refine lv_iload_n hx hb dX0_value_60 rfl (lv_at hl 2 rfl) ?_
    refine ix_imul hx hb dX0_value_61 ?_
    refine ix_iconst hx hb dX0_value_62 ?_
    refine ix_iadd hx hb dX0_value_63 ?_
    refine wx_i (congrArg iI (show (2 * i) + 1 = ((2 * i + 1 : Nat) : Int) by omega)) ?_
    have hpw := sPow_in (q := q) (b := z) (by omega) (2 * i + 1)
    refine vp_callSi (va_Run.run (va_runV (As := [.int (iI (z)), .int (iI ((2 * i + 1 : Nat)))]) (rest := [.int (iI (1)), .int (iI (0)), .ref (oR ω (a)), .ref (ox ω)]) ⟨hx, hb, hml, hown, hts⟩ (c_power l ω k q z M wk (z) (2 * i + 1) hq1 hq2 (by omega) (by omega) (by omega)) (cwV 2 hts (gU (hd := [.methodLink "NoiseRing" 96 yX0_power, .instanceMethod yX0_power, .selects "NoiseRing" yX0_power yX0_power, .initialized "NoiseRing"]) (List.forall_mem_cons.mpr ⟨u52, List.forall_mem_cons.mpr ⟨u53, List.forall_mem_cons.mpr ⟨u1, List.forall_mem_cons.mpr ⟨u29, fun _ h => by cases h⟩⟩⟩⟩) u54) rfl rfl rfl (by decide +kernel) ⟨Nat.le_of_ble_eq_true rfl, Nat.le_of_ble_eq_true rfl⟩) (gx_V hG) rfl rfl hl.1 rfl (lv_room (Nat.le_of_ble_eq_true rfl)) dX0_value_64 ⟨Nat.le_of_ble_eq_true rfl, Nat.le_of_ble_eq_true rfl⟩)) (fun r64 hr64 => ?_)
    subst hr64
    refine vp_callSi (va_Run.run (va_runV (As := [.ref (oR ω (a)), .int (iI (0)), .int (iI (1)), .int (iI ((sPow q (z) ((2 * i + 1 : Nat)))))]) (rest := []) ⟨hx, hb, hml, hown, hts⟩ (c_valueAt1 l ω k q z M wk (a) ((sPow q (z) ((2 * i + 1 : Nat)))) (by omega) hq1 hq2 hM (by omega) (by omega)) (cwV 4 hts (gU (hd := [.methodLink "NoiseRing" 99 yX0_valueAt, .instanceMethod yX0_valueAt, .selects "NoiseRing" yX0_valueAt yX0_valueAt, .initialized "NoiseRing"]) (List.forall_mem_cons.mpr ⟨u307, List.forall_mem_cons.mpr ⟨u308, List.forall_mem_cons.mpr ⟨u15, List.forall_mem_cons.mpr ⟨u29, fun _ h => by cases h⟩⟩⟩⟩) u309) rfl rfl rfl (by decide +kernel) ⟨Nat.le_of_ble_eq_true rfl, Nat.le_of_ble_eq_true rfl⟩) (gx_V hG) rfl rfl hl.1 rfl (lv_room (Nat.le_of_ble_eq_true rfl)) dX0_value_67 ⟨Nat.le_of_ble_eq_true rfl, Nat.le_of_ble_eq_true rfl⟩)) (fun r67 hr67 => ?_)
    subst hr67
    refine W.widen (k := 2) (n := 12) (Nat.le_of_ble_eq_true rfl) (Nat.le_of_ble_eq_true rfl) ?_
    exact vx_ret (W.iret hx hb hrt (fun t ht hW => ⟨⟨_, wk, rfl, ⟨by omega, congrArg iI (by subst zk; subst qk; unfold sVal; rw [if_neg (by omega)]; simp)⟩, by have h9 := hG.2; rw [← ht] at h9; exact h9⟩, hS.F ht⟩) hS.2.2 dX0_value_70)
  · skip
    refine lv_aload_n hx hb dX0_value_15 rfl (lv_at hl 0 rfl) ?_
    refine lv_aload_n hx hb dX0_value_16 rfl (lv_at hl 0 rfl) ?_
    refine gx_get hx hb hts hown hG 0 (by decide) rfl u55 dX0_value_17 ?_
    refine lv_iload_n hx hb dX0_value_20 rfl (lv_at hl 1 rfl) ?_
    refine gx_row (r := a) hx hb hG (by omega) dX0_value_21 ?_
    refine lv_iload_n hx hb dX0_value_22 rfl (lv_at hl 2 rfl) ?_
    refine ix_iconst hx hb dX0_value_23 ?_
    refine ix_irem hx hb (by omega) (by omega) (by omega) (by omega) dX0_value_24 ?_
    refine wx_i (congrArg iI (show ((i : Nat) : Int) % 2 = ((i % 2 : Nat) : Int) by omega)) ?_
    refine ix_iconst hx hb dX0_value_25 ?_
    refine lv_aload_n hx hb dX0_value_26 rfl (lv_at hl 0 rfl) ?_
    refine lv_aload_n hx hb dX0_value_27 rfl (lv_at hl 0 rfl) ?_
    refine gx_get hx hb hts hown hG 4 (by decide) rfl u59 dX0_value_28 ?_
    refine ix_iconst hx hb dX0_value_31 ?_
    refine lv_iload_n hx hb dX0_value_32 rfl (lv_at hl 2 rfl) ?_
    refine ix_iconst hx hb dX0_value_33 ?_
    refine ix_idiv hx hb (by omega) (by omega) (by omega) (by omega) dX0_value_34 ?_
    refine ix_imul hx hb dX0_value_35 ?_
    refine ix_iconst hx hb dX0_value_36 ?_
    refine ix_iadd hx hb dX0_value_37 ?_
    refine wx_i (congrArg iI (show (2 * (i / 2)) + 1 = ((2 * (i / 2) + 1 : Nat) : Int) by omega)) ?_
    have hpw := sPow_in (q := q) (b := z) (by omega) (2 * (i / 2) + 1)
    refine vp_callSi (va_Run.run (va_runV (As := [.int (iI (z)), .int (iI ((2 * (i / 2) + 1 : Nat)))]) (rest := [.int (iI (2)), .int (iI ((i % 2 : Nat))), .ref (oR ω (a)), .ref (ox ω)]) ⟨hx, hb, hml, hown, hts⟩ (c_power l ω k q z M wk (z) (2 * (i / 2) + 1) hq1 hq2 (by omega) (by omega) (by omega)) (cwV 2 hts (gU (hd := [.methodLink "NoiseRing" 96 yX0_power, .instanceMethod yX0_power, .selects "NoiseRing" yX0_power yX0_power, .initialized "NoiseRing"]) (List.forall_mem_cons.mpr ⟨u52, List.forall_mem_cons.mpr ⟨u53, List.forall_mem_cons.mpr ⟨u1, List.forall_mem_cons.mpr ⟨u29, fun _ h => by cases h⟩⟩⟩⟩) u54) rfl rfl rfl (by decide +kernel) ⟨Nat.le_of_ble_eq_true rfl, Nat.le_of_ble_eq_true rfl⟩) (gx_V hG) rfl rfl hl.1 rfl (lv_room (Nat.le_of_ble_eq_true rfl)) dX0_value_38 ⟨Nat.le_of_ble_eq_true rfl, Nat.le_of_ble_eq_true rfl⟩)) (fun r38 hr38 => ?_)
    subst hr38
    refine vp_callSi (va_Run.run (va_runV (As := [.ref (oR ω (a)), .int (iI ((i % 2 : Nat))), .int (iI (2)), .int (iI ((sPow q (z) ((2 * (i / 2) + 1 : Nat)))))]) (rest := []) ⟨hx, hb, hml, hown, hts⟩ (c_valueAt2 l ω k q z M wk (a) (i % 2) ((sPow q (z) ((2 * (i / 2) + 1 : Nat)))) (by omega) (by omega) hq1 hq2 hM (by omega) (by omega)) (cwV 4 hts (gU (hd := [.methodLink "NoiseRing" 99 yX0_valueAt, .instanceMethod yX0_valueAt, .selects "NoiseRing" yX0_valueAt yX0_valueAt, .initialized "NoiseRing"]) (List.forall_mem_cons.mpr ⟨u307, List.forall_mem_cons.mpr ⟨u308, List.forall_mem_cons.mpr ⟨u15, List.forall_mem_cons.mpr ⟨u29, fun _ h => by cases h⟩⟩⟩⟩) u309) rfl rfl rfl (by decide +kernel) ⟨Nat.le_of_ble_eq_true rfl, Nat.le_of_ble_eq_true rfl⟩) (gx_V hG) rfl rfl hl.1 rfl (lv_room (Nat.le_of_ble_eq_true rfl)) dX0_value_41 ⟨Nat.le_of_ble_eq_true rfl, Nat.le_of_ble_eq_true rfl⟩)) (fun r41 hr41 => ?_)
    subst hr41
    refine W.widen (k := 2) (n := 12) (Nat.le_of_ble_eq_true rfl) (Nat.le_of_ble_eq_true rfl) ?_
    exact vx_ret (W.iret hx hb hrt (fun t ht hW => ⟨⟨_, wk, rfl, ⟨by omega, congrArg iI (by subst zk; subst qk; unfold sVal; rw [if_pos (by omega)]; rfl)⟩, by have h9 := hG.2; rw [← ht] at h9; exact h9⟩, hS.F ht⟩) hS.2.2 dX0_value_44)
set_option maxHeartbeats 4000000 in
set_option maxRecDepth 100000 in
theorem p_unit (l : Launch) (htr : l.stackTraces = false) (ω : WX) (k q z : Int) (M : Nat → Nat → Int) (wk : Nat → Int) (a : Int) (a1 : -2147483648 ≤ a) (a2 : a < 2147483648) (hq1 : 3329 ≤ q) (hq2 : q ≤ 8380417) (hM : ∀ r i, r < 12 → i < 16 → 0 ≤ M r i ∧ M r i < q) (k1 : 0 ≤ k) (k2 : k ≤ 1) (qk : q = kQ k) : vx_Met l yX0_unit wsX0_unit ({ frames := 7, cells := 1, slots := 6, locals := 102 }) (va_Pc [.ref (ox ω), .int (iI (a))] (fun U => GX ω k q z M wk U U.heap)) (va_Qi (fun r_ (_ : Nat → Int) => ((0 ≤ a ∧ a < 12)) ∧ r_ = iI (sUi k (M a.toNat))) (fun w_ t => CX ω k q z M w_ t.heap) (Ax ω)) (vx_X (fun _ : Unit => True) (fun E _ t => (¬ ((0 ≤ a ∧ a < 12)) ∧ E = nNSE) ∧ CX ω k q z M wk t.heap) (Ax ω)) 1 6 (Ax ω) := by
  refine vx_ofW (cc := cX0_unit) (maxL := 4) (ret := (some .boolean)) (by decide +kernel) rfl ?_
  intro p e s m args below meth c s₁ B hml hnx hv
  obtain ⟨rfl, hG⟩ := hv
  have hx := B.exec
  have hb := B.bytes
  have hrt := B.returns
  have hts : ∀ w ∈ wsU, w.before _ s = true := fun w h => atoms_spec (ws := wsX0_unit) B.pre w (List.mem_cons_of_mem _ h)
  have hown : s.vm.findClass "NoiseRing" = some m.cls := findClass_of_methodNamed B.named
  have hlocks := B.notSynchronized
  have hS : va_S (Ax ω) s.heap s.heap [] := va_S.rf
  have hl := lv_entry ([.ref (ox ω), .int (iI (a))]) (n := 4) (Nat.le_of_ble_eq_true rfl)
  rw [lg_entry_eq]
  generalize (lg_sl ([.ref (ox ω), .int (iI (a))]) ++ List.replicate (4 - (lg_sl ([.ref (ox ω), .int (iI (a))])).length) Slot.unset).toArray = ls at hl ⊢
  have hl : lv_has ls 4 [(0, .ref (ox ω)), (1, .int (iI (a)))] := hl
  have hB0 := hG.1
  refine lv_iload_n hx hb dX0_unit_0 rfl (lv_at hl 1 rfl) ?_
  refine vx_callv (vx_runS (As := [.int (iI (a))]) (rest := []) ⟨hx, hb, hml, hown, hts⟩ (n_needRegister l htr ω k q z M wk _ (a) (by omega) (by omega)) (va_cwS 1 hts (gU (hd := [.methodLink "NoiseRing" 33 yX0_needRegister, .static yX0_needRegister, .initialized "NoiseRing"]) (List.forall_mem_cons.mpr ⟨u155, List.forall_mem_cons.mpr ⟨u156, List.forall_mem_cons.mpr ⟨u29, fun _ h => by cases h⟩⟩⟩) u157) rfl rfl rfl (by decide +kernel) ⟨Nat.le_of_ble_eq_true rfl, Nat.le_of_ble_eq_true rfl⟩) (gx_Sh hG) rfl rfl hl.1 rfl (lv_room (Nat.le_of_ble_eq_true rfl)) dX0_unit_1 ⟨Nat.le_of_ble_eq_true rfl, Nat.le_of_ble_eq_true rfl⟩) hS (fun q9 _ h => h.elim) (fun q9 h => h.elim) (fun q9 _ h => h.elim) (fun E ce q9 u t H1 locs1 ht hvm hpx hBX hz hk hS1 hce hcv hcl => ?_) (fun u t H1 locs1 ht hvm hp1 hB hz hk hS1 => ?_)
  · exact vx_out (E := E) (fun x9 h9 => (hnx x9 h9).elim) hlocks hce hcv hcl (fun t1 ht1 ha1 => ⟨(), trivial, ⟨⟨by omega, hBX.2⟩, by rw [ht1]; exact hG.2.kept (fun a9 g9 => hk a9 g9 (fun f9 => f9))⟩, hS1.F ht1⟩) hS1.2.2 (Nat.le_of_ble_eq_true rfl) (Nat.le_of_ble_eq_true rfl)
  obtain rfl := ht.symm.trans hB
  clear hS
  have hS := hS1
  obtain ⟨a, rfl⟩ := Int.eq_ofNat_of_zero_le hp1.1
  have hkb := kB_in k
  have hko := kO_in k
  rw [← qk] at hko
  have hze : (if (k) = 0 then 8 else 16 : Nat) ≤ 16 := by split <;> omega
  refine lv_aload_n hx hb dX0_unit_4 rfl (lv_at hl 0 rfl) ?_
  refine gx_gets hx hb hts hown hB0.2.1.1.2.2.1 hS u51 dX0_unit_5 ?_
  refine lv_aload_n hx hb dX0_unit_8 rfl (lv_at hl 0 rfl) ?_
  refine gx_get hx hb hts hown hG 2 (by decide) rfl u57 dX0_unit_9 ?_
  refine gx_tab hx hb hB0.2.1.1.2.2.1 hS (by omega) (by omega) (tbR_k (k := k) (by omega) (by omega)) dX0_unit_12 ?_
  refine gx_gets hx hb hts hown hB0.2.1.1.2.2.2 hS u317 dX0_unit_13 ?_
  refine lv_aload_n hx hb dX0_unit_16 rfl (lv_at hl 0 rfl) ?_
  refine gx_get hx hb hts hown hG 2 (by decide) rfl u57 dX0_unit_17 ?_
  refine gx_tab hx hb hB0.2.1.1.2.2.2 hS (by omega) (by omega) (tbZ_k (k := k) (by omega) (by omega)) dX0_unit_20 ?_
  refine vp_callSi (va_Run.run (va_runV (As := [.int (iI (kB (k))), .int (iI ((if (k) = 0 then 8 else 16 : Nat)))]) (rest := []) ⟨hx, hb, hml, hown, hts⟩ (c_power l ω k q z M wk (kB (k)) ((if (k) = 0 then 8 else 16)) hq1 hq2 (by omega) (by omega) (by omega)) (cwV 2 hts (gU (hd := [.methodLink "NoiseRing" 96 yX0_power, .instanceMethod yX0_power, .selects "NoiseRing" yX0_power yX0_power, .initialized "NoiseRing"]) (List.forall_mem_cons.mpr ⟨u52, List.forall_mem_cons.mpr ⟨u53, List.forall_mem_cons.mpr ⟨u1, List.forall_mem_cons.mpr ⟨u29, fun _ h => by cases h⟩⟩⟩⟩) u54) rfl rfl rfl (by decide +kernel) ⟨Nat.le_of_ble_eq_true rfl, Nat.le_of_ble_eq_true rfl⟩) (gx_V hG) rfl rfl hl.1 rfl (lv_room (Nat.le_of_ble_eq_true rfl)) dX0_unit_21 ⟨Nat.le_of_ble_eq_true rfl, Nat.le_of_ble_eq_true rfl⟩)) (fun r21 hr21 => ?_)
  subst hr21
  refine wx_i (congrArg iI (show sPow q (kB (k)) (if (k) = 0 then 8 else 16) = kO k by subst qk; rfl)) ?_
  refine lv_istore_n (lv' := [(2, .int (iI (kO k))), (0, .ref (ox ω)), (1, .int (iI (a)))]) hx hb dX0_unit_24 rfl hl (by decide) rfl (fun ls hl => ?_)
  refine ix_iconst hx hb dX0_unit_25 ?_
  refine lv_istore_n (lv' := [(3, .int (iI (0))), (2, .int (iI (kO k))), (0, .ref (ox ω)), (1, .int (iI (a)))]) hx hb dX0_unit_26 rfl hl (by decide) rfl (fun ls hl => ?_)
  refine ix_loop (I := fun j ls => lv_has ls 4 [(3, .int (iI ((j : Nat)))), (0, .ref (ox ω)), (1, .int (iI (a))), (2, .int (iI (kO k)))] ∧ sUnit k (M a) j) 16 0 (by omega) ⟨lv_sub hl [0, 2, 3, 1] rfl, fun i9 h9 => absurd h9 (by omega)⟩ (fun ls hI => ?_) (fun j ls hj hI ih => ?_)
  · obtain ⟨hl, hU⟩ := hI
    have hl : lv_has ls 4 [(3, .int (iI ((16 : Nat)))), (0, .ref (ox ω)), (1, .int (iI (a))), (2, .int (iI (kO k)))] := hl
    refine lv_iload_n hx hb dX0_unit_27 rfl (lv_at hl 0 rfl) ?_
    refine ix_bipush hx hb (by decide) dX0_unit_28 ?_
    refine ix_icmp_ge (tgt := 66) hx hb (by omega) (by omega) (by omega) (by omega) dX0_unit_30 (by decide) (fun h30 => ?_) (fun h30 => absurd h30 (by omega))
    refine ix_iconst hx hb dX0_unit_66 ?_
    refine W.widen (k := 1) (n := 6) (Nat.le_of_ble_eq_true rfl) (Nat.le_of_ble_eq_true rfl) ?_
    exact vx_ret (W.zret (ty := .boolean) hx hb hrt (by decide) (fun t ht hW => ⟨⟨_, wk, rfl, ⟨by omega, congrArg iI ((sUi_t hU).symm)⟩, by have h9 := hG.2; rw [← ht] at h9; exact h9⟩, hS.F ht⟩) hS.2.2 dX0_unit_67)
  · obtain ⟨hl, hU⟩ := hI
    have hl : lv_has ls 4 [(3, .int (iI ((j : Nat)))), (0, .ref (ox ω)), (1, .int (iI (a))), (2, .int (iI (kO k)))] := hl
    refine lv_iload_n hx hb dX0_unit_27 rfl (lv_at hl 0 rfl) ?_
    refine ix_bipush hx hb (by decide) dX0_unit_28 ?_
    refine ix_icmp_ge (tgt := 66) hx hb (by omega) (by omega) (by omega) (by omega) dX0_unit_30 (by decide) (fun h30 => absurd h30 (by omega)) (fun h30 => ?_)
    refine lv_aload_n hx hb dX0_unit_33 rfl (lv_at hl 1 rfl) ?_
    refine lv_aload_n hx hb dX0_unit_34 rfl (lv_at hl 1 rfl) ?_
    refine gx_get hx hb hts hown hG 0 (by decide) rfl u55 dX0_unit_35 ?_
    refine lv_iload_n hx hb dX0_unit_38 rfl (lv_at hl 2 rfl) ?_
    refine gx_row (r := a) hx hb hG (by omega) dX0_unit_39 ?_
    refine ix_iconst hx hb dX0_unit_40 ?_
    refine ix_iconst hx hb dX0_unit_41 ?_
    refine lv_aload_n hx hb dX0_unit_42 rfl (lv_at hl 1 rfl) ?_
    refine lv_iload_n hx hb dX0_unit_43 rfl (lv_at hl 3 rfl) ?_
    refine ix_iconst hx hb dX0_unit_44 ?_
    refine lv_iload_n hx hb dX0_unit_45 rfl (lv_at hl 0 rfl) ?_
    refine ix_imul hx hb dX0_unit_46 ?_
    refine ix_iconst hx hb dX0_unit_47 ?_
    refine ix_iadd hx hb dX0_unit_48 ?_
    refine wx_i (congrArg iI (show (2 * ((j : Nat) : Int)) + 1 = ((2 * j + 1 : Nat) : Int) by omega)) ?_
    have hpw := sPow_in (q := q) (b := kO k) (by omega) (2 * j + 1)
    refine vp_callSi (va_Run.run (va_runV (As := [.int (iI (kO k)), .int (iI ((2 * j + 1 : Nat)))]) (rest := [.int (iI (1)), .int (iI (0)), .ref (oR ω (a)), .ref (ox ω)]) ⟨hx, hb, hml, hown, hts⟩ (c_power l ω k q z M wk (kO k) (2 * j + 1) hq1 hq2 (by omega) (by omega) (by omega)) (cwV 2 hts (gU (hd := [.methodLink "NoiseRing" 96 yX0_power, .instanceMethod yX0_power, .selects "NoiseRing" yX0_power yX0_power, .initialized "NoiseRing"]) (List.forall_mem_cons.mpr ⟨u52, List.forall_mem_cons.mpr ⟨u53, List.forall_mem_cons.mpr ⟨u1, List.forall_mem_cons.mpr ⟨u29, fun _ h => by cases h⟩⟩⟩⟩) u54) rfl rfl rfl (by decide +kernel) ⟨Nat.le_of_ble_eq_true rfl, Nat.le_of_ble_eq_true rfl⟩) (gx_V hG) rfl rfl hl.1 rfl (lv_room (Nat.le_of_ble_eq_true rfl)) dX0_unit_49 ⟨Nat.le_of_ble_eq_true rfl, Nat.le_of_ble_eq_true rfl⟩)) (fun r49 hr49 => ?_)
    subst hr49
    refine vp_callSi (va_Run.run (va_runV (As := [.ref (oR ω (a)), .int (iI (0)), .int (iI (1)), .int (iI ((sPow q (kO k) ((2 * j + 1 : Nat)))))]) (rest := []) ⟨hx, hb, hml, hown, hts⟩ (c_valueAt1 l ω k q z M wk (a) ((sPow q (kO k) ((2 * j + 1 : Nat)))) (by omega) hq1 hq2 hM (by omega) (by omega)) (cwV 4 hts (gU (hd := [.methodLink "NoiseRing" 99 yX0_valueAt, .instanceMethod yX0_valueAt, .selects "NoiseRing" yX0_valueAt yX0_valueAt, .initialized "NoiseRing"]) (List.forall_mem_cons.mpr ⟨u307, List.forall_mem_cons.mpr ⟨u308, List.forall_mem_cons.mpr ⟨u15, List.forall_mem_cons.mpr ⟨u29, fun _ h => by cases h⟩⟩⟩⟩) u309) rfl rfl rfl (by decide +kernel) ⟨Nat.le_of_ble_eq_true rfl, Nat.le_of_ble_eq_true rfl⟩) (gx_V hG) rfl rfl hl.1 rfl (lv_room (Nat.le_of_ble_eq_true rfl)) dX0_unit_52 ⟨Nat.le_of_ble_eq_true rfl, Nat.le_of_ble_eq_true rfl⟩)) (fun r52 hr52 => ?_)
    subst hr52
    refine wx_i (congrArg iI (show sPol (fun u => M (a) (0 + u)) (sPow q (kO k) (2 * j + 1)) 16 % q = sPol (M a) (sPow (kQ k) (kO k) (2 * j + 1)) 16 % kQ k by subst qk; simp)) ?_
    have hv1 := Int.emod_nonneg (sPol (M a) (sPow (kQ k) (kO k) (2 * j + 1)) 16) (show kQ k ≠ 0 by omega)
    have hv2 := Int.emod_lt_of_pos (sPol (M a) (sPow (kQ k) (kO k) (2 * j + 1)) 16) (show 0 < kQ k by omega)
    refine ix_if_ne (tgt := 60) hx hb (by omega) (by omega) dX0_unit_55 (by decide) (fun h55 => ?_) (fun h55 => ?_)
    · skip
      refine lv_iinc (k := 0) (v := iI ((j : Nat) + 1)) (lv' := [(3, .int (iI ((j : Nat) + 1))), (0, .ref (ox ω)), (1, .int (iI (a))), (2, .int (iI (kO k)))]) hx hb dX0_unit_60 hl rfl (iI_add _ _) (by decide) rfl (fun ls hl => ?_)
      refine lv_goto (tgt := 27) hx hb dX0_unit_63 (by decide) ?_
      exact ih ls ⟨lv_sub hl [0, 1, 2, 3] rfl, sUnit_s hU h55⟩
    · skip
      refine ix_iconst hx hb dX0_unit_58 ?_
      refine W.widen (k := 1) (n := 6) (Nat.le_of_ble_eq_true rfl) (Nat.le_of_ble_eq_true rfl) ?_
      exact vx_ret (W.zret (ty := .boolean) hx hb hrt (by decide) (fun t ht hW => ⟨⟨_, wk, rfl, ⟨by omega, congrArg iI ((sUi_f (sUnit_no hj h55)).symm)⟩, by have h9 := hG.2; rw [← ht] at h9; exact h9⟩, hS.F ht⟩) hS.2.2 dX0_unit_59)
set_option maxHeartbeats 4000000 in
set_option maxRecDepth 100000 in
theorem c_count (l : Launch) (ω : WX) (k q z : Int) (M : Nat → Nat → Int) (wk : Nat → Int) (w : Int) (w1 : -2147483648 ≤ w) (w2 : w < 2147483648) (hq1 : 3329 ≤ q) (hq2 : q ≤ 8380417) (hM : ∀ r i, r < 12 → i < 16 → 0 ≤ M r i ∧ M r i < q) : Met l yX0_count wsX0_count ({ frames := 2, cells := 0, slots := 0, locals := 44 }) (va_Pc [.ref (ox ω), .int (iI (w))] (fun U => GX ω k q z M wk U U.heap)) (vp_Si (fun r_ => r_ = iI (sCount k q z M w))) 0 0 (fun _ => False) := by
  refine Met.ofW (cc := cX0_count) (maxL := 2) (ret := (some .int)) (by decide +kernel) rfl ?_
  intro p e s m args below meth c s₁ B hml hv
  obtain ⟨rfl, hG⟩ := hv
  have hx := B.exec
  have hb := B.bytes
  have hrt := B.returns
  have hts : ∀ w ∈ wsU, w.before _ s = true := fun w h => atoms_spec (ws := wsX0_count) B.pre w (List.mem_cons_of_mem _ h)
  have hown : s.vm.findClass "NoiseRing" = some m.cls := findClass_of_methodNamed B.named
  have hlocks := B.notSynchronized
  have hl := lv_entry ([.ref (ox ω), .int (iI (w))]) (n := 2) (Nat.le_of_ble_eq_true rfl)
  rw [lg_entry_eq]
  generalize (lg_sl ([.ref (ox ω), .int (iI (w))]) ++ List.replicate (2 - (lg_sl ([.ref (ox ω), .int (iI (w))])).length) Slot.unset).toArray = ls at hl ⊢
  have hl : lv_has ls 2 [(0, .ref (ox ω)), (1, .int (iI (w)))] := hl
  refine lv_iload_n hx hb dX0_count_0 rfl (lv_at hl 1 rfl) ?_
  rcases (show w = 0 ∨ w = 1 ∨ w = 2 ∨ w = 3 ∨ (w < 0 ∨ 3 < w) by omega) with rfl | rfl | rfl | rfl | hw
  · skip
    refine lv_tableIn (tgt := 32) hx hb dX0_count_1 (by decide) (by decide) (by rfl) (by decide) ?_
    refine lv_aload_n hx hb dX0_count_32 rfl (lv_at hl 0 rfl) ?_
    refine gx_get hx hb hts hown hG 2 (by decide) rfl u57 dX0_count_33 ?_
    exact W.iret hx hb hrt (fun t ht hW => ⟨_, rfl, rfl, ht⟩) t_nil dX0_count_36
  · skip
    refine lv_tableIn (tgt := 37) hx hb dX0_count_1 (by decide) (by decide) (by rfl) (by decide) ?_
    refine lv_aload_n hx hb dX0_count_37 rfl (lv_at hl 0 rfl) ?_
    refine gx_get hx hb hts hown hG 3 (by decide) rfl u58 dX0_count_38 ?_
    exact W.iret hx hb hrt (fun t ht hW => ⟨_, rfl, rfl, ht⟩) t_nil dX0_count_41
  · skip
    refine lv_tableIn (tgt := 42) hx hb dX0_count_1 (by decide) (by decide) (by rfl) (by decide) ?_
    refine lv_aload_n hx hb dX0_count_42 rfl (lv_at hl 0 rfl) ?_
    refine gx_get hx hb hts hown hG 4 (by decide) rfl u59 dX0_count_43 ?_
    exact W.iret hx hb hrt (fun t ht hW => ⟨_, rfl, rfl, ht⟩) t_nil dX0_count_46
  · skip
    refine lv_tableIn (tgt := 47) hx hb dX0_count_1 (by decide) (by decide) (by rfl) (by decide) ?_
    refine lv_aload_n hx hb dX0_count_47 rfl (lv_at hl 0 rfl) ?_
    refine vp_callSi (va_Run.run (va_runV (As := []) (rest := []) ⟨hx, hb, hml, hown, hts⟩ (c_emptyRegisters l ω k q z M wk hq1 hq2 hM) (cwV 0 hts (gU (hd := [.methodLink "NoiseRing" 109 yX0_emptyRegisters, .instanceMethod yX0_emptyRegisters, .selects "NoiseRing" yX0_emptyRegisters yX0_emptyRegisters, .initialized "NoiseRing"]) (List.forall_mem_cons.mpr ⟨u76, List.forall_mem_cons.mpr ⟨u77, List.forall_mem_cons.mpr ⟨u2, List.forall_mem_cons.mpr ⟨u29, fun _ h => by cases h⟩⟩⟩⟩) u78) rfl rfl rfl (by decide +kernel) ⟨Nat.le_of_ble_eq_true rfl, Nat.le_of_ble_eq_true rfl⟩) (gx_V hG) rfl rfl hl.1 rfl (lv_room (Nat.le_of_ble_eq_true rfl)) dX0_count_48 ⟨Nat.le_of_ble_eq_true rfl, Nat.le_of_ble_eq_true rfl⟩)) (fun r48 hr48 => ?_)
    subst hr48
    exact W.iret hx hb hrt (fun t ht hW => ⟨_, rfl, rfl, ht⟩) t_nil dX0_count_51
  · skip
    refine lv_tableOut (tgt := 52) hx hb dX0_count_1 (by rw [iI_toInt w1 w2]; exact hw) (by decide) ?_
    refine ix_iconst hx hb dX0_count_52 ?_
    exact W.iret hx hb hrt (fun t ht hW => ⟨_, rfl, congrArg iI (by unfold sCount; rw [if_neg (by omega), if_neg (by omega), if_neg (by omega), if_neg (by omega)]), ht⟩) t_nil dX0_count_53
set_option maxHeartbeats 4000000 in
set_option maxRecDepth 100000 in
theorem p_begin (l : Launch) (htr : l.stackTraces = false) (ω : WX) (k q z : Int) (M : Nat → Nat → Int) (wk : Nat → Int) (n : Int) (n1 : -2147483648 ≤ n) (n2 : n < 2147483648) (hq1 : 3329 ≤ q) (hq2 : q ≤ 8380417) (hM : ∀ r i, r < 12 → i < 16 → 0 ≤ M r i ∧ M r i < q) : vx_Met l yX0_begin wsX0_begin ({ frames := 7, cells := 1, slots := 6, locals := 102 }) (va_Pc [.ref (ox ω), .int (iI (n))] (fun U => GX ω k q z M wk U U.heap)) (va_Qi (fun r_ (_ : Nat → Int) => (0 ≤ n ∧ n < 2) ∧ r_ = iI (kQ n)) (fun w_ t => CX ω n (kQ n) (kZ n) (zM M 192) w_ t.heap) (Ax ω)) (vx_X (fun _ : Unit => True) (fun E _ t => (¬ (0 ≤ n ∧ n < 2) ∧ E = nIAE) ∧ CX ω k q z M wk t.heap) (Ax ω)) 1 6 (Ax ω) := by
  refine vx_ofW (cc := cX0_begin) (maxL := 4) (ret := (some .int)) (by decide +kernel) rfl ?_
  intro p e s m args below meth c s₁ B hml hnx hv
  obtain ⟨rfl, hG⟩ := hv
  have hx := B.exec
  have hb := B.bytes
  have hrt := B.returns
  have hts : ∀ w ∈ wsU, w.before _ s = true := fun w h => atoms_spec (ws := wsX0_begin) B.pre w (List.mem_cons_of_mem _ h)
  have hown : s.vm.findClass "NoiseRing" = some m.cls := findClass_of_methodNamed B.named
  have hlocks := B.notSynchronized
  have hS : va_S (Ax ω) s.heap s.heap [] := va_S.rf
  have hl := lv_entry ([.ref (ox ω), .int (iI (n))]) (n := 4) (Nat.le_of_ble_eq_true rfl)
  rw [lg_entry_eq]
  generalize (lg_sl ([.ref (ox ω), .int (iI (n))]) ++ List.replicate (4 - (lg_sl ([.ref (ox ω), .int (iI (n))])).length) Slot.unset).toArray = ls at hl ⊢
  have hl : lv_has ls 4 [(0, .ref (ox ω)), (1, .int (iI (n)))] := hl
  have hB0 := hG.1
  refine lv_iload_n hx hb dX0_begin_0 rfl (lv_at hl 1 rfl) ?_
  refine ix_if_lt (tgt := 16) hx hb (by omega) (by omega) dX0_begin_1 (by decide) (fun h1 => ?_) (fun h1 => ?_)
  · skip
    refine ix_iconst hx hb dX0_begin_16 ?_
    refine vx_callv (vx_runS (As := [.int (iI (0))]) (rest := []) ⟨hx, hb, hml, hown, hts⟩ (n_needArgument l htr ω k q z M wk _ (0) (by omega) (by omega)) (va_cwS 1 hts (gU (hd := [.methodLink "NoiseRing" 25 yX0_needArgument, .static yX0_needArgument, .initialized "NoiseRing"]) (List.forall_mem_cons.mpr ⟨u90, List.forall_mem_cons.mpr ⟨u91, List.forall_mem_cons.mpr ⟨u29, fun _ h => by cases h⟩⟩⟩) u92) rfl rfl rfl (by decide +kernel) ⟨Nat.le_of_ble_eq_true rfl, Nat.le_of_ble_eq_true rfl⟩) (gx_Sh hG) rfl rfl hl.1 rfl (lv_room (Nat.le_of_ble_eq_true rfl)) dX0_begin_17 ⟨Nat.le_of_ble_eq_true rfl, Nat.le_of_ble_eq_true rfl⟩) hS (fun q9 _ h => h.elim) (fun q9 h => h.elim) (fun q9 _ h => h.elim) (fun E ce q9 u t H1 locs1 ht hvm hpx hBX hz hk hS1 hce hcv hcl => ?_) (fun u t H1 locs1 ht hvm hp17 hB hz hk hS1 => ?_)
    · exact vx_out (E := E) (fun x9 h9 => (hnx x9 h9).elim) hlocks hce hcv hcl (fun t1 ht1 ha1 => ⟨(), trivial, ⟨⟨by omega, hBX.2⟩, by rw [ht1]; exact hG.2.kept (fun a9 g9 => hk a9 g9 (fun f9 => f9))⟩, hS1.F ht1⟩) hS1.2.2 (Nat.le_of_ble_eq_true rfl) (Nat.le_of_ble_eq_true rfl)
    exact (hp17 rfl).elim
  · skip
    refine lv_iload_n hx hb dX0_begin_4 rfl (lv_at hl 1 rfl) ?_
    refine gx_gets hx hb hts hown hB0.2.1.1.1 hS u50 dX0_begin_5 ?_
    refine gx_tlen hx hb hB0.2.1.1.1 hS dX0_begin_8 ?_
    refine ix_icmp_ge (tgt := 16) hx hb (by omega) (by omega) (by omega) (by omega) dX0_begin_9 (by decide) (fun h9 => ?_) (fun h9 => ?_)
    · skip
      refine ix_iconst hx hb dX0_begin_16 ?_
      refine vx_callv (vx_runS (As := [.int (iI (0))]) (rest := []) ⟨hx, hb, hml, hown, hts⟩ (n_needArgument l htr ω k q z M wk _ (0) (by omega) (by omega)) (va_cwS 1 hts (gU (hd := [.methodLink "NoiseRing" 25 yX0_needArgument, .static yX0_needArgument, .initialized "NoiseRing"]) (List.forall_mem_cons.mpr ⟨u90, List.forall_mem_cons.mpr ⟨u91, List.forall_mem_cons.mpr ⟨u29, fun _ h => by cases h⟩⟩⟩) u92) rfl rfl rfl (by decide +kernel) ⟨Nat.le_of_ble_eq_true rfl, Nat.le_of_ble_eq_true rfl⟩) (gx_Sh hG) rfl rfl hl.1 rfl (lv_room (Nat.le_of_ble_eq_true rfl)) dX0_begin_17 ⟨Nat.le_of_ble_eq_true rfl, Nat.le_of_ble_eq_true rfl⟩) hS (fun q9 _ h => h.elim) (fun q9 h => h.elim) (fun q9 _ h => h.elim) (fun E ce q9 u t H1 locs1 ht hvm hpx hBX hz hk hS1 hce hcv hcl => ?_) (fun u t H1 locs1 ht hvm hp17 hB hz hk hS1 => ?_)
      · exact vx_out (E := E) (fun x9 h9 => (hnx x9 h9).elim) hlocks hce hcv hcl (fun t1 ht1 ha1 => ⟨(), trivial, ⟨⟨by omega, hBX.2⟩, by rw [ht1]; exact hG.2.kept (fun a9 g9 => hk a9 g9 (fun f9 => f9))⟩, hS1.F ht1⟩) hS1.2.2 (Nat.le_of_ble_eq_true rfl) (Nat.le_of_ble_eq_true rfl)
      exact (hp17 rfl).elim
    · skip
      refine ix_iconst hx hb dX0_begin_12 ?_
      refine lv_goto (tgt := 17) hx hb dX0_begin_13 (by decide) ?_
      refine vx_callv (vx_runS (As := [.int (iI (1))]) (rest := []) ⟨hx, hb, hml, hown, hts⟩ (n_needArgument l htr ω k q z M wk _ (1) (by omega) (by omega)) (va_cwS 1 hts (gU (hd := [.methodLink "NoiseRing" 25 yX0_needArgument, .static yX0_needArgument, .initialized "NoiseRing"]) (List.forall_mem_cons.mpr ⟨u90, List.forall_mem_cons.mpr ⟨u91, List.forall_mem_cons.mpr ⟨u29, fun _ h => by cases h⟩⟩⟩) u92) rfl rfl rfl (by decide +kernel) ⟨Nat.le_of_ble_eq_true rfl, Nat.le_of_ble_eq_true rfl⟩) (gx_Sh hG) rfl rfl hl.1 rfl (lv_room (Nat.le_of_ble_eq_true rfl)) dX0_begin_17 ⟨Nat.le_of_ble_eq_true rfl, Nat.le_of_ble_eq_true rfl⟩) hS (fun q9 _ h => h.elim) (fun q9 h => h.elim) (fun q9 _ h => h.elim) (fun E ce q9 u t H1 locs1 ht hvm hpx hBX hz hk hS1 hce hcv hcl => ?_) (fun u t H1 locs1 ht hvm hp17 hB hz hk hS1 => ?_)
      · exact (hBX.1 (by decide)).elim
      obtain rfl := ht.symm.trans hB
      clear hS
      have hS := hS1
      refine lv_aload_n hx hb dX0_begin_20 rfl (lv_at hl 0 rfl) ?_
      refine lv_iload_n hx hb dX0_begin_21 rfl (lv_at hl 1 rfl) ?_
      refine va_callv (va_runV (As := [.int (iI (n))]) (rest := []) ⟨hx, hb, hml, hown, hts⟩ (c_takeKind l ω k q z M wk n (by omega) (by omega)) (cwV 1 hts (gU (hd := [.methodLink "NoiseRing" 18 yX0_takeKind, .instanceMethod yX0_takeKind, .selects "NoiseRing" yX0_takeKind yX0_takeKind, .initialized "NoiseRing"]) (List.forall_mem_cons.mpr ⟨u47, List.forall_mem_cons.mpr ⟨u48, List.forall_mem_cons.mpr ⟨u0, List.forall_mem_cons.mpr ⟨u29, fun _ h => by cases h⟩⟩⟩⟩) u49) rfl rfl rfl (by decide +kernel) ⟨Nat.le_of_ble_eq_true rfl, Nat.le_of_ble_eq_true rfl⟩) (gx_V hG) rfl rfl hl.1 rfl (lv_room (Nat.le_of_ble_eq_true rfl)) dX0_begin_22 ⟨Nat.le_of_ble_eq_true rfl, Nat.le_of_ble_eq_true rfl⟩) hS (fun q9 _ h => h) (fun q9 h => h) (fun u t H1 locs1 ht hvm hpu hB hz hk hS1 => ?_)
      clear hS
      have hS := hS1
      rw [ht] at hB
      have hG : GX ω n (kQ n) (kZ n) M wk s H1 := ⟨hG.1.kept hk, hB⟩
      refine ix_iconst hx hb dX0_begin_25 ?_
      refine lv_istore_n (lv' := [(2, .int (iI (0))), (0, .ref (ox ω)), (1, .int (iI (n)))]) hx hb dX0_begin_26 rfl hl (by decide) rfl (fun ls hl => ?_)
      refine ix_loopH (I := fun r ls H locs => lv_has ls 4 [(2, .int (iI ((r : Nat)))), (0, .ref (ox ω))] ∧ GX ω n (kQ n) (kZ n) (zM M (16 * r)) wk s H ∧ va_S (Ax ω) s.heap H locs) 12 0 (by omega) ⟨lv_sub hl [0, 1] rfl, (by rw [show 16 * 0 = 0 from rfl, zM_0]; exact hG), hS⟩ (fun ls H locs hI => ?_) (fun r ls H locs hr hI iho => ?_)
      · obtain ⟨hl, hG, hS⟩ := hI
        have hl : lv_has ls 4 [(2, .int (iI ((12 : Nat)))), (0, .ref (ox ω))] := hl
        refine lv_iload_n hx hb dX0_begin_27 rfl (lv_at hl 0 rfl) ?_
        refine ix_bipush hx hb (by decide) dX0_begin_28 ?_
        refine ix_icmp_ge (tgt := 62) hx hb (by omega) (by omega) (by omega) (by omega) dX0_begin_30 (by decide) (fun h30 => ?_) (fun h30 => absurd h30 (by omega))
        refine lv_aload_n hx hb dX0_begin_62 rfl (lv_at hl 1 rfl) ?_
        refine gx_get hx hb hts hown hG 3 (by decide) rfl u58 dX0_begin_63 ?_
        refine W.widen (k := 1) (n := 6) (Nat.le_of_ble_eq_true rfl) (Nat.le_of_ble_eq_true rfl) ?_
        exact vx_ret (W.iret hx hb hrt (fun t ht hW => ⟨⟨_, wk, rfl, ⟨by omega, congrArg iI (rfl)⟩, by have h9 := hG.2; rw [← ht] at h9; exact h9⟩, hS.F ht⟩) hS.2.2 dX0_begin_66)
      · obtain ⟨hl, hG, hS⟩ := hI
        have hl : lv_has ls 4 [(2, .int (iI ((r : Nat)))), (0, .ref (ox ω))] := hl
        refine lv_iload_n hx hb dX0_begin_27 rfl (lv_at hl 0 rfl) ?_
        refine ix_bipush hx hb (by decide) dX0_begin_28 ?_
        refine ix_icmp_ge (tgt := 62) hx hb (by omega) (by omega) (by omega) (by omega) dX0_begin_30 (by decide) (fun h30 => absurd h30 (by omega)) (fun h30 => ?_)
        refine ix_iconst hx hb dX0_begin_33 ?_
        refine lv_istore_n (lv' := [(3, .int (iI (0))), (2, .int (iI ((r : Nat)))), (0, .ref (ox ω))]) hx hb dX0_begin_34 rfl hl (by decide) rfl (fun ls hl => ?_)
        refine ix_loopH (I := fun i ls H locs => lv_has ls 4 [(3, .int (iI ((i : Nat)))), (2, .int (iI ((r : Nat)))), (0, .ref (ox ω))] ∧ GX ω n (kQ n) (kZ n) (zM M (16 * r + i)) wk s H ∧ va_S (Ax ω) s.heap H locs) 16 0 (by omega) ⟨lv_sub hl [0, 1, 2] rfl, hG, hS⟩ (fun ls H locs hI => ?_) (fun i ls H locs hi hI ihi => ?_)
        · obtain ⟨hl, hG, hS⟩ := hI
          have hl : lv_has ls 4 [(3, .int (iI ((16 : Nat)))), (2, .int (iI ((r : Nat)))), (0, .ref (ox ω))] := hl
          refine lv_iload_n hx hb dX0_begin_35 rfl (lv_at hl 0 rfl) ?_
          refine ix_bipush hx hb (by decide) dX0_begin_36 ?_
          refine ix_icmp_ge (tgt := 56) hx hb (by omega) (by omega) (by omega) (by omega) dX0_begin_38 (by decide) (fun h38 => ?_) (fun h38 => absurd h38 (by omega))
          refine lv_iinc (k := 1) (v := iI ((r : Nat) + 1)) (lv' := [(2, .int (iI ((r : Nat) + 1))), (3, .int (iI ((16 : Nat)))), (0, .ref (ox ω))]) hx hb dX0_begin_56 hl rfl (iI_add _ _) (by decide) rfl (fun ls hl => ?_)
          refine lv_goto (tgt := 27) hx hb dX0_begin_59 (by decide) ?_
          exact iho ls _ _ ⟨lv_sub hl [0, 2] rfl, hG, hS⟩
        · obtain ⟨hl, hG, hS⟩ := hI
          have hl : lv_has ls 4 [(3, .int (iI ((i : Nat)))), (2, .int (iI ((r : Nat)))), (0, .ref (ox ω))] := hl
          refine lv_iload_n hx hb dX0_begin_35 rfl (lv_at hl 0 rfl) ?_
          refine ix_bipush hx hb (by decide) dX0_begin_36 ?_
          refine ix_icmp_ge (tgt := 56) hx hb (by omega) (by omega) (by omega) (by omega) dX0_begin_38 (by decide) (fun h38 => absurd h38 (by omega)) (fun h38 => ?_)
          refine lv_aload_n hx hb dX0_begin_41 rfl (lv_at hl 2 rfl) ?_
          refine gx_get hx hb hts hown hG 0 (by decide) rfl u55 dX0_begin_42 ?_
          refine lv_iload_n hx hb dX0_begin_45 rfl (lv_at hl 1 rfl) ?_
          refine gx_row (r := r) hx hb hG (by omega) dX0_begin_46 ?_
          refine lv_iload_n hx hb dX0_begin_47 rfl (lv_at hl 0 rfl) ?_
          refine ix_iconst hx hb dX0_begin_48 ?_
          refine gx_ist (r := r) (i := i) hx hb hG hS (by omega) (by omega) dX0_begin_49 (fun H1 locs1 hG hS => ?_)
          refine lv_iinc (k := 0) (v := iI ((i : Nat) + 1)) (lv' := [(3, .int (iI ((i : Nat) + 1))), (2, .int (iI ((r : Nat)))), (0, .ref (ox ω))]) hx hb dX0_begin_50 hl rfl (iI_add _ _) (by decide) rfl (fun ls hl => ?_)
          refine lv_goto (tgt := 35) hx hb dX0_begin_53 (by decide) ?_
          exact ihi ls _ _ ⟨lv_sub hl [0, 1, 2] rfl, (by rw [← zM_s M r i hi]; exact hG), hS⟩

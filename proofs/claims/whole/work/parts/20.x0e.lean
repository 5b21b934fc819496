/-! The class's public methods, by program (wip/gen/rw.py). -/
set_option maxHeartbeats 4000000 in
set_option maxRecDepth 100000 in
theorem p_get (l : Launch) (htr : l.stackTraces = false) (ω : WX) (k q z : Int) (M : Nat → Nat → Int) (wk : Nat → Int) (r i : Int) (r1 : -2147483648 ≤ r) (r2 : r < 2147483648) (i1 : -2147483648 ≤ i) (i2 : i < 2147483648) (hq1 : 3329 ≤ q) (hq2 : q ≤ 8380417) (hM : ∀ r i, r < 12 → i < 16 → 0 ≤ M r i ∧ M r i < q) : vx_Met l yX0_get wsX0_get ({ frames := 7, cells := 2, slots := 12, locals := 102 }) (va_Pc [.ref (ox ω), .int (iI (r)), .int (iI (i))] (fun U => GX ω k q z M wk U U.heap)) (va_Qi (fun r_ (_ : Nat → Int) => ((0 ≤ r ∧ r < 12) ∧ 0 ≤ i ∧ i < 16) ∧ r_ = iI (M r.toNat i.toNat)) (fun w_ t => CX ω k q z M w_ t.heap) (Ax ω)) (vx_X (fun _ : Unit => True) (fun E _ t => (¬ ((0 ≤ r ∧ r < 12) ∧ 0 ≤ i ∧ i < 16) ∧ E = nNSE) ∧ CX ω k q z M wk t.heap) (Ax ω)) 2 12 (Ax ω) := by
  refine vx_ofW (cc := cX0_get) (maxL := 3) (ret := (some .int)) (by decide +kernel) rfl ?_
  intro p e s m args below meth c s₁ B hml hnx hv
  obtain ⟨rfl, hG⟩ := hv
  have hx := B.exec
  have hb := B.bytes
  have hrt := B.returns
  have hts : ∀ w ∈ wsU, w.before _ s = true := fun w h => atoms_spec (ws := wsX0_get) B.pre w (List.mem_cons_of_mem _ h)
  have hown : s.vm.findClass "NoiseRing" = some m.cls := findClass_of_methodNamed B.named
  have hlocks := B.notSynchronized
  have hS : va_S (Ax ω) s.heap s.heap [] := va_S.rf
  have hl := lv_entry ([.ref (ox ω), .int (iI (r)), .int (iI (i))]) (n := 3) (Nat.le_of_ble_eq_true rfl)
  rw [lg_entry_eq]
  generalize (lg_sl ([.ref (ox ω), .int (iI (r)), .int (iI (i))]) ++ List.replicate (3 - (lg_sl ([.ref (ox ω), .int (iI (r)), .int (iI (i))])).length) Slot.unset).toArray = ls at hl ⊢
  have hl : lv_has ls 3 [(0, .ref (ox ω)), (1, .int (iI (r))), (2, .int (iI (i)))] := hl
  refine lv_iload_n hx hb dX0_get_0 rfl (lv_at hl 1 rfl) ?_
  refine vx_callv (vx_runS (As := [.int (iI (r))]) (rest := []) ⟨hx, hb, hml, hown, hts⟩ (n_needRegister l htr ω k q z M wk _ (r) (by omega) (by omega)) (va_cwS 1 hts (gU (hd := [.methodLink "NoiseRing" 33 yX0_needRegister, .static yX0_needRegister, .initialized "NoiseRing"]) (List.forall_mem_cons.mpr ⟨u155, List.forall_mem_cons.mpr ⟨u156, List.forall_mem_cons.mpr ⟨u29, fun _ h => by cases h⟩⟩⟩) u157) rfl rfl rfl (by decide +kernel) ⟨Nat.le_of_ble_eq_true rfl, Nat.le_of_ble_eq_true rfl⟩) (gx_Sh hG) rfl rfl hl.1 rfl (lv_room (Nat.le_of_ble_eq_true rfl)) dX0_get_1 ⟨Nat.le_of_ble_eq_true rfl, Nat.le_of_ble_eq_true rfl⟩) hS (fun q9 _ h => h.elim) (fun q9 h => h.elim) (fun q9 _ h => h.elim) (fun E ce q9 u t H1 locs1 ht hvm hpx hBX hz hk hS1 hce hcv hcl => ?_) (fun u t H1 locs1 ht hvm hp1 hB hz hk hS1 => ?_)
  · exact vx_out (E := E) (fun x9 h9 => (hnx x9 h9).elim) hlocks hce hcv hcl (fun t1 ht1 ha1 => ⟨(), trivial, ⟨⟨by omega, hBX.2⟩, by rw [ht1]; exact hG.2.kept (fun a9 g9 => hk a9 g9 (fun f9 => f9))⟩, hS1.F ht1⟩) hS1.2.2 (Nat.le_of_ble_eq_true rfl) (Nat.le_of_ble_eq_true rfl)
  obtain rfl := ht.symm.trans hB
  clear hS
  have hS := hS1
  obtain ⟨r, rfl⟩ := Int.eq_ofNat_of_zero_le hp1.1
  refine lv_iload_n hx hb dX0_get_4 rfl (lv_at hl 2 rfl) ?_
  refine vx_callv (vx_runS (As := [.int (iI (i))]) (rest := []) ⟨hx, hb, hml, hown, hts⟩ (n_needPlace l htr ω k q z M wk _ (i) (by omega) (by omega)) (va_cwS 1 hts (gU (hd := [.methodLink "NoiseRing" 36 yX0_needPlace, .static yX0_needPlace, .initialized "NoiseRing"]) (List.forall_mem_cons.mpr ⟨u172, List.forall_mem_cons.mpr ⟨u173, List.forall_mem_cons.mpr ⟨u29, fun _ h => by cases h⟩⟩⟩) u174) rfl rfl rfl (by decide +kernel) ⟨Nat.le_of_ble_eq_true rfl, Nat.le_of_ble_eq_true rfl⟩) (gx_Sh hG) rfl rfl hl.1 rfl (lv_room (Nat.le_of_ble_eq_true rfl)) dX0_get_5 ⟨Nat.le_of_ble_eq_true rfl, Nat.le_of_ble_eq_true rfl⟩) hS (fun q9 _ h => h.elim) (fun q9 h => h.elim) (fun q9 _ h => h.elim) (fun E ce q9 u t H1 locs1 ht hvm hpx hBX hz hk hS1 hce hcv hcl => ?_) (fun u t H1 locs1 ht hvm hp5 hB hz hk hS1 => ?_)
  · exact vx_out (E := E) (fun x9 h9 => (hnx x9 h9).elim) hlocks hce hcv hcl (fun t1 ht1 ha1 => ⟨(), trivial, ⟨⟨by omega, hBX.2⟩, by rw [ht1]; exact hG.2.kept (fun a9 g9 => hk a9 g9 (fun f9 => f9))⟩, hS1.F ht1⟩) hS1.2.2 (Nat.le_of_ble_eq_true rfl) (Nat.le_of_ble_eq_true rfl)
  obtain rfl := ht.symm.trans hB
  clear hS
  have hS := hS1
  obtain ⟨i, rfl⟩ := Int.eq_ofNat_of_zero_le hp5.1
  refine lv_aload_n hx hb dX0_get_8 rfl (lv_at hl 0 rfl) ?_
  refine gx_get hx hb hts hown hG 0 (by decide) rfl u55 dX0_get_9 ?_
  refine lv_iload_n hx hb dX0_get_12 rfl (lv_at hl 1 rfl) ?_
  refine gx_row (r := r) hx hb hG (by omega) dX0_get_13 ?_
  refine lv_iload_n hx hb dX0_get_14 rfl (lv_at hl 2 rfl) ?_
  refine gx_ild (r := r) (i := i) hx hb hG (by omega) (by omega) dX0_get_15 ?_
  refine W.widen (k := 2) (n := 12) (Nat.le_of_ble_eq_true rfl) (Nat.le_of_ble_eq_true rfl) ?_
  exact vx_ret (W.iret hx hb hrt (fun t ht hW => ⟨⟨_, wk, rfl, ⟨by omega, congrArg iI (rfl)⟩, by have h9 := hG.2; rw [← ht] at h9; exact h9⟩, hS.F ht⟩) hS.2.2 dX0_get_16)
set_option maxHeartbeats 4000000 in
set_option maxRecDepth 100000 in
theorem p_set (l : Launch) (htr : l.stackTraces = false) (ω : WX) (k q z : Int) (M : Nat → Nat → Int) (wk : Nat → Int) (r i v : Int) (r1 : -2147483648 ≤ r) (r2 : r < 2147483648) (i1 : -2147483648 ≤ i) (i2 : i < 2147483648) (v1 : -2147483648 ≤ v) (v2 : v < 2147483648) (hq1 : 3329 ≤ q) (hq2 : q ≤ 8380417) (hM : ∀ r i, r < 12 → i < 16 → 0 ≤ M r i ∧ M r i < q) : vx_Met l yX0_set wsX0_set ({ frames := 7, cells := 2, slots := 12, locals := 102 }) (va_Pc [.ref (ox ω), .int (iI (r)), .int (iI (i)), .int (iI (v))] (fun U => GX ω k q z M wk U U.heap)) (va_Qi (fun r_ (_ : Nat → Int) => ((0 ≤ r ∧ r < 12) ∧ 0 ≤ i ∧ i < 16) ∧ r_ = iI (M r.toNat i.toNat)) (fun w_ t => CX ω k q z (upR M r.toNat (upI (M r.toNat) i.toNat (v % q))) w_ t.heap) (Ax ω)) (vx_X (fun _ : Unit => True) (fun E _ t => (¬ ((0 ≤ r ∧ r < 12) ∧ 0 ≤ i ∧ i < 16) ∧ E = nNSE) ∧ CX ω k q z M wk t.heap) (Ax ω)) 2 12 (Ax ω) := by
  refine vx_ofW (cc := cX0_set) (maxL := 5) (ret := (some .int)) (by decide +kernel) rfl ?_
  intro p e s m args below meth c s₁ B hml hnx hv
  obtain ⟨rfl, hG⟩ := hv
  have hx := B.exec
  have hb := B.bytes
  have hrt := B.returns
  have hts : ∀ w ∈ wsU, w.before _ s = true := fun w h => atoms_spec (ws := wsX0_set) B.pre w (List.mem_cons_of_mem _ h)
  have hown : s.vm.findClass "NoiseRing" = some m.cls := findClass_of_methodNamed B.named
  have hlocks := B.notSynchronized
  have hS : va_S (Ax ω) s.heap s.heap [] := va_S.rf
  have hl := lv_entry ([.ref (ox ω), .int (iI (r)), .int (iI (i)), .int (iI (v))]) (n := 5) (Nat.le_of_ble_eq_true rfl)
  rw [lg_entry_eq]
  generalize (lg_sl ([.ref (ox ω), .int (iI (r)), .int (iI (i)), .int (iI (v))]) ++ List.replicate (5 - (lg_sl ([.ref (ox ω), .int (iI (r)), .int (iI (i)), .int (iI (v))])).length) Slot.unset).toArray = ls at hl ⊢
  have hl : lv_has ls 5 [(0, .ref (ox ω)), (1, .int (iI (r))), (2, .int (iI (i))), (3, .int (iI (v)))] := hl
  refine lv_iload_n hx hb dX0_set_0 rfl (lv_at hl 1 rfl) ?_
  refine vx_callv (vx_runS (As := [.int (iI (r))]) (rest := []) ⟨hx, hb, hml, hown, hts⟩ (n_needRegister l htr ω k q z M wk _ (r) (by omega) (by omega)) (va_cwS 1 hts (gU (hd := [.methodLink "NoiseRing" 33 yX0_needRegister, .static yX0_needRegister, .initialized "NoiseRing"]) (List.forall_mem_cons.mpr ⟨u155, List.forall_mem_cons.mpr ⟨u156, List.forall_mem_cons.mpr ⟨u29, fun _ h => by cases h⟩⟩⟩) u157) rfl rfl rfl (by decide +kernel) ⟨Nat.le_of_ble_eq_true rfl, Nat.le_of_ble_eq_true rfl⟩) (gx_Sh hG) rfl rfl hl.1 rfl (lv_room (Nat.le_of_ble_eq_true rfl)) dX0_set_1 ⟨Nat.le_of_ble_eq_true rfl, Nat.le_of_ble_eq_true rfl⟩) hS (fun q9 _ h => h.elim) (fun q9 h => h.elim) (fun q9 _ h => h.elim) (fun E ce q9 u t H1 locs1 ht hvm hpx hBX hz hk hS1 hce hcv hcl => ?_) (fun u t H1 locs1 ht hvm hp1 hB hz hk hS1 => ?_)
  · exact vx_out (E := E) (fun x9 h9 => (hnx x9 h9).elim) hlocks hce hcv hcl (fun t1 ht1 ha1 => ⟨(), trivial, ⟨⟨by omega, hBX.2⟩, by rw [ht1]; exact hG.2.kept (fun a9 g9 => hk a9 g9 (fun f9 => f9))⟩, hS1.F ht1⟩) hS1.2.2 (Nat.le_of_ble_eq_true rfl) (Nat.le_of_ble_eq_true rfl)
  obtain rfl := ht.symm.trans hB
  clear hS
  have hS := hS1
  obtain ⟨r, rfl⟩ := Int.eq_ofNat_of_zero_le hp1.1
  refine lv_iload_n hx hb dX0_set_4 rfl (lv_at hl 2 rfl) ?_
  refine vx_callv (vx_runS (As := [.int (iI (i))]) (rest := []) ⟨hx, hb, hml, hown, hts⟩ (n_needPlace l htr ω k q z M wk _ (i) (by omega) (by omega)) (va_cwS 1 hts (gU (hd := [.methodLink "NoiseRing" 36 yX0_needPlace, .static yX0_needPlace, .initialized "NoiseRing"]) (List.forall_mem_cons.mpr ⟨u172, List.forall_mem_cons.mpr ⟨u173, List.forall_mem_cons.mpr ⟨u29, fun _ h => by cases h⟩⟩⟩) u174) rfl rfl rfl (by decide +kernel) ⟨Nat.le_of_ble_eq_true rfl, Nat.le_of_ble_eq_true rfl⟩) (gx_Sh hG) rfl rfl hl.1 rfl (lv_room (Nat.le_of_ble_eq_true rfl)) dX0_set_5 ⟨Nat.le_of_ble_eq_true rfl, Nat.le_of_ble_eq_true rfl⟩) hS (fun q9 _ h => h.elim) (fun q9 h => h.elim) (fun q9 _ h => h.elim) (fun E ce q9 u t H1 locs1 ht hvm hpx hBX hz hk hS1 hce hcv hcl => ?_) (fun u t H1 locs1 ht hvm hp5 hB hz hk hS1 => ?_)
  · exact vx_out (E := E) (fun x9 h9 => (hnx x9 h9).elim) hlocks hce hcv hcl (fun t1 ht1 ha1 => ⟨(), trivial, ⟨⟨by omega, hBX.2⟩, by rw [ht1]; exact hG.2.kept (fun a9 g9 => hk a9 g9 (fun f9 => f9))⟩, hS1.F ht1⟩) hS1.2.2 (Nat.le_of_ble_eq_true rfl) (Nat.le_of_ble_eq_true rfl)
  obtain rfl := ht.symm.trans hB
  clear hS
  have hS := hS1
  obtain ⟨i, rfl⟩ := Int.eq_ofNat_of_zero_le hp5.1
  refine lv_aload_n hx hb dX0_set_8 rfl (lv_at hl 0 rfl) ?_
  refine gx_get hx hb hts hown hG 0 (by decide) rfl u55 dX0_set_9 ?_
  refine lv_iload_n hx hb dX0_set_12 rfl (lv_at hl 1 rfl) ?_
  refine gx_row (r := r) hx hb hG (by omega) dX0_set_13 ?_
  refine lv_iload_n hx hb dX0_set_14 rfl (lv_at hl 2 rfl) ?_
  refine gx_ild (r := r) (i := i) hx hb hG (by omega) (by omega) dX0_set_15 ?_
  refine lv_istore (lv' := [(4, .int (iI (M (r) (i)))), (0, .ref (ox ω)), (1, .int (iI (r))), (2, .int (iI (i))), (3, .int (iI (v)))]) hx hb dX0_set_16 hl (by decide) rfl (fun ls hl => ?_)
  refine lv_aload_n hx hb dX0_set_18 rfl (lv_at hl 1 rfl) ?_
  refine gx_get hx hb hts hown hG 0 (by decide) rfl u55 dX0_set_19 ?_
  refine lv_iload_n hx hb dX0_set_22 rfl (lv_at hl 2 rfl) ?_
  refine gx_row (r := r) hx hb hG (by omega) dX0_set_23 ?_
  refine lv_iload_n hx hb dX0_set_24 rfl (lv_at hl 3 rfl) ?_
  refine lv_iload_n hx hb dX0_set_25 rfl (lv_at hl 4 rfl) ?_
  refine lv_aload_n hx hb dX0_set_26 rfl (lv_at hl 1 rfl) ?_
  refine gx_get hx hb hts hown hG 3 (by decide) rfl u58 dX0_set_27 ?_
  refine vp_callSi (va_Run.run (va_runS (As := [.int (iI (v)), .int (iI (q))]) (rest := [.int (iI (i)), .ref (oR ω (r))]) ⟨hx, hb, hml, hown, hts⟩ (c_floorModI l (v) (q) (by omega) (by omega) (by omega) (by omega)) (va_cwS 2 hts (gU (hd := [.methodLink "NoiseRing" 39 yJ_floorModI, .static yJ_floorModI, .initialized "java/lang/Math"]) (List.forall_mem_cons.mpr ⟨u175, List.forall_mem_cons.mpr ⟨u176, List.forall_mem_cons.mpr ⟨u36, fun _ h => by cases h⟩⟩⟩) u177) rfl rfl rfl (by decide +kernel) ⟨Nat.le_of_ble_eq_true rfl, Nat.le_of_ble_eq_true rfl⟩) gn_S rfl rfl hl.1 rfl (lv_room (Nat.le_of_ble_eq_true rfl)) dX0_set_30 ⟨Nat.le_of_ble_eq_true rfl, Nat.le_of_ble_eq_true rfl⟩)) (fun r30 hr30 => ?_)
  subst hr30
  refine gx_ist (r := r) (i := i) hx hb hG hS (by omega) (by omega) dX0_set_33 (fun H1 locs1 hG hS => ?_)
  refine lv_iload hx hb dX0_set_34 (lv_at hl 0 rfl) ?_
  refine W.widen (k := 2) (n := 12) (Nat.le_of_ble_eq_true rfl) (Nat.le_of_ble_eq_true rfl) ?_
  exact vx_ret (W.iret hx hb hrt (fun t ht hW => ⟨⟨_, wk, rfl, ⟨by omega, congrArg iI (rfl)⟩, by have h9 := hG.2; rw [← ht] at h9; exact h9⟩, hS.F ht⟩) hS.2.2 dX0_set_36)
set_option maxHeartbeats 4000000 in
set_option maxRecDepth 100000 in
theorem p_size (l : Launch) (htr : l.stackTraces = false) (ω : WX) (k q z : Int) (M : Nat → Nat → Int) (wk : Nat → Int) (r : Int) (r1 : -2147483648 ≤ r) (r2 : r < 2147483648) (hq1 : 3329 ≤ q) (hq2 : q ≤ 8380417) (hM : ∀ r i, r < 12 → i < 16 → 0 ≤ M r i ∧ M r i < q) : vx_Met l yX0_size wsX0_size ({ frames := 7, cells := 1, slots := 6, locals := 102 }) (va_Pc [.ref (ox ω), .int (iI (r))] (fun U => GX ω k q z M wk U U.heap)) (va_Qi (fun r_ (_ : Nat → Int) => (0 ≤ r ∧ r < 12) ∧ r_ = iI (sMax q (M r.toNat) 16)) (fun w_ t => CX ω k q z M w_ t.heap) (Ax ω)) (vx_X (fun _ : Unit => True) (fun E _ t => (¬ (0 ≤ r ∧ r < 12) ∧ E = nNSE) ∧ CX ω k q z M wk t.heap) (Ax ω)) 1 6 (Ax ω) := by
  refine vx_ofW (cc := cX0_size) (maxL := 2) (ret := (some .int)) (by decide +kernel) rfl ?_
  intro p e s m args below meth c s₁ B hml hnx hv
  obtain ⟨rfl, hG⟩ := hv
  have hx := B.exec
  have hb := B.bytes
  have hrt := B.returns
  have hts : ∀ w ∈ wsU, w.before _ s = true := fun w h => atoms_spec (ws := wsX0_size) B.pre w (List.mem_cons_of_mem _ h)
  have hown : s.vm.findClass "NoiseRing" = some m.cls := findClass_of_methodNamed B.named
  have hlocks := B.notSynchronized
  have hS : va_S (Ax ω) s.heap s.heap [] := va_S.rf
  have hl := lv_entry ([.ref (ox ω), .int (iI (r))]) (n := 2) (Nat.le_of_ble_eq_true rfl)
  rw [lg_entry_eq]
  generalize (lg_sl ([.ref (ox ω), .int (iI (r))]) ++ List.replicate (2 - (lg_sl ([.ref (ox ω), .int (iI (r))])).length) Slot.unset).toArray = ls at hl ⊢
  have hl : lv_has ls 2 [(0, .ref (ox ω)), (1, .int (iI (r)))] := hl
  refine lv_iload_n hx hb dX0_size_0 rfl (lv_at hl 1 rfl) ?_
  refine vx_callv (vx_runS (As := [.int (iI (r))]) (rest := []) ⟨hx, hb, hml, hown, hts⟩ (n_needRegister l htr ω k q z M wk _ (r) (by omega) (by omega)) (va_cwS 1 hts (gU (hd := [.methodLink "NoiseRing" 33 yX0_needRegister, .static yX0_needRegister, .initialized "NoiseRing"]) (List.forall_mem_cons.mpr ⟨u155, List.forall_mem_cons.mpr ⟨u156, List.forall_mem_cons.mpr ⟨u29, fun _ h => by cases h⟩⟩⟩) u157) rfl rfl rfl (by decide +kernel) ⟨Nat.le_of_ble_eq_true rfl, Nat.le_of_ble_eq_true rfl⟩) (gx_Sh hG) rfl rfl hl.1 rfl (lv_room (Nat.le_of_ble_eq_true rfl)) dX0_size_1 ⟨Nat.le_of_ble_eq_true rfl, Nat.le_of_ble_eq_true rfl⟩) hS (fun q9 _ h => h.elim) (fun q9 h => h.elim) (fun q9 _ h => h.elim) (fun E ce q9 u t H1 locs1 ht hvm hpx hBX hz hk hS1 hce hcv hcl => ?_) (fun u t H1 locs1 ht hvm hp1 hB hz hk hS1 => ?_)
  · exact vx_out (E := E) (fun x9 h9 => (hnx x9 h9).elim) hlocks hce hcv hcl (fun t1 ht1 ha1 => ⟨(), trivial, ⟨⟨by omega, hBX.2⟩, by rw [ht1]; exact hG.2.kept (fun a9 g9 => hk a9 g9 (fun f9 => f9))⟩, hS1.F ht1⟩) hS1.2.2 (Nat.le_of_ble_eq_true rfl) (Nat.le_of_ble_eq_true rfl)
  obtain rfl := ht.symm.trans hB
  clear hS
  have hS := hS1
  obtain ⟨r, rfl⟩ := Int.eq_ofNat_of_zero_le hp1.1
  refine lv_aload_n hx hb dX0_size_4 rfl (lv_at hl 0 rfl) ?_
  refine lv_aload_n hx hb dX0_size_5 rfl (lv_at hl 0 rfl) ?_
  refine gx_get hx hb hts hown hG 0 (by decide) rfl u55 dX0_size_6 ?_
  refine lv_iload_n hx hb dX0_size_9 rfl (lv_at hl 1 rfl) ?_
  refine gx_row (r := r) hx hb hG (by omega) dX0_size_10 ?_
  refine vp_callSi (va_Run.run (va_runV (As := [.ref (oR ω (r))]) (rest := []) ⟨hx, hb, hml, hown, hts⟩ (c_greatestSize l ω k q z M wk (r) (by omega) hq1 hq2 hM) (cwV 1 hts (gU (hd := [.methodLink "NoiseRing" 55 yX0_greatestSize, .instanceMethod yX0_greatestSize, .selects "NoiseRing" yX0_greatestSize yX0_greatestSize, .initialized "NoiseRing"]) (List.forall_mem_cons.mpr ⟨u204, List.forall_mem_cons.mpr ⟨u205, List.forall_mem_cons.mpr ⟨u6, List.forall_mem_cons.mpr ⟨u29, fun _ h => by cases h⟩⟩⟩⟩) u206) rfl rfl rfl (by decide +kernel) ⟨Nat.le_of_ble_eq_true rfl, Nat.le_of_ble_eq_true rfl⟩) (gx_V hG) rfl rfl hl.1 rfl (lv_room (Nat.le_of_ble_eq_true rfl)) dX0_size_11 ⟨Nat.le_of_ble_eq_true rfl, Nat.le_of_ble_eq_true rfl⟩)) (fun r11 hr11 => ?_)
  subst hr11
  refine W.widen (k := 1) (n := 6) (Nat.le_of_ble_eq_true rfl) (Nat.le_of_ble_eq_true rfl) ?_
  exact vx_ret (W.iret hx hb hrt (fun t ht hW => ⟨⟨_, wk, rfl, ⟨by omega, congrArg iI (rfl)⟩, by have h9 := hG.2; rw [← ht] at h9; exact h9⟩, hS.F ht⟩) hS.2.2 dX0_size_14)

/-! The class's public methods, by program (wip/gen/rw2.py). -/
set_option maxHeartbeats 4000000 in
set_option maxRecDepth 100000 in
theorem p_round (l : Launch) (htr : l.stackTraces = false) (ω : WX) (k q z : Int) (M : Nat → Nat → Int) (wk : Nat → Int) (to op a d : Int) (to1 : -2147483648 ≤ to) (to2 : to < 2147483648) (op1 : -2147483648 ≤ op) (op2 : op < 2147483648) (a1 : -2147483648 ≤ a) (a2 : a < 2147483648) (d1 : -2147483648 ≤ d) (d2 : d < 2147483648) (hq1 : 3329 ≤ q) (hq2 : q ≤ 8380417) (hM : ∀ r i, r < 12 → i < 16 → 0 ≤ M r i ∧ M r i < q) (k1 : 0 ≤ k) (k2 : k ≤ 1) (qk : q = kQ k) : vx_Met l yX0_round wsX0_round ({ frames := 7, cells := 4, slots := 24, locals := 102 }) (va_Pc [.ref (ox ω), .int (iI (to)), .int (iI (op)), .int (iI (a)), .int (iI (d))] (fun U => GX ω k q z M wk U U.heap)) (va_Qi (fun r_ (_ : Nat → Int) => (((0 ≤ to ∧ to < 12) ∧ (0 ≤ a ∧ a < 12)) ∧ (0 ≤ op ∧ op ≤ 3) ∧ 1 ≤ d ∧ d ≤ kD k) ∧ r_ = iI (sCnt (fun i => sRound q op (M a.toNat i) d.toNat) 16)) (fun w_ t => CX ω k q z (mixR M to.toNat (fun i => sRound q op (M a.toNat i) d.toNat) 16) w_ t.heap) (Ax ω)) (vx_X (fun _ : Unit => True) (fun E _ t => ((¬ ((0 ≤ to ∧ to < 12) ∧ (0 ≤ a ∧ a < 12)) ∧ E = nNSE) ∨ (((0 ≤ to ∧ to < 12) ∧ (0 ≤ a ∧ a < 12)) ∧ ¬ ((0 ≤ op ∧ op ≤ 3) ∧ 1 ≤ d ∧ d ≤ kD k) ∧ E = nIAE)) ∧ CX ω k q z M wk t.heap) (Ax ω)) 4 24 (Ax ω) := by
  refine vx_ofW (cc := cX0_round) (maxL := 6) (ret := (some .int)) (by decide +kernel) rfl ?_
  intro p e s m args below meth c s₁ B hml hnx hv
  obtain ⟨rfl, hG⟩ := hv
  have hx := B.exec
  have hb := B.bytes
  have hrt := B.returns
  have hts : ∀ w ∈ wsU, w.before _ s = true := fun w h => atoms_spec (ws := wsX0_round) B.pre w (List.mem_cons_of_mem _ h)
  have hown : s.vm.findClass "NoiseRing" = some m.cls := findClass_of_methodNamed B.named
  have hlocks := B.notSynchronized
  have hS : va_S (Ax ω) s.heap s.heap [] := va_S.rf
  have hl := lv_entry ([.ref (ox ω), .int (iI (to)), .int (iI (op)), .int (iI (a)), .int (iI (d))]) (n := 6) (Nat.le_of_ble_eq_true rfl)
  rw [lg_entry_eq]
  generalize (lg_sl ([.ref (ox ω), .int (iI (to)), .int (iI (op)), .int (iI (a)), .int (iI (d))]) ++ List.replicate (6 - (lg_sl ([.ref (ox ω), .int (iI (to)), .int (iI (op)), .int (iI (a)), .int (iI (d))])).length) Slot.unset).toArray = ls at hl ⊢
  have hl : lv_has ls 6 [(0, .ref (ox ω)), (1, .int (iI (to))), (2, .int (iI (op))), (3, .int (iI (a))), (4, .int (iI (d)))] := hl
  have hB0 := hG.1
  have hkd : kD k ≤ 22 ∧ 11 ≤ kD k := by unfold kD; split <;> omega
  refine lv_iload_n hx hb dX0_round_0 rfl (lv_at hl 1 rfl) ?_
  refine vx_callv (vx_runS (As := [.int (iI (to))]) (rest := []) ⟨hx, hb, hml, hown, hts⟩ (n_needRegister l htr ω k q z M wk _ (to) (by omega) (by omega)) (va_cwS 1 hts (gU (hd := [.methodLink "NoiseRing" 33 yX0_needRegister, .static yX0_needRegister, .initialized "NoiseRing"]) (List.forall_mem_cons.mpr ⟨u155, List.forall_mem_cons.mpr ⟨u156, List.forall_mem_cons.mpr ⟨u29, fun _ h => by cases h⟩⟩⟩) u157) rfl rfl rfl (by decide +kernel) ⟨Nat.le_of_ble_eq_true rfl, Nat.le_of_ble_eq_true rfl⟩) (gx_Sh hG) rfl rfl hl.1 rfl (lv_room (Nat.le_of_ble_eq_true rfl)) dX0_round_1 ⟨Nat.le_of_ble_eq_true rfl, Nat.le_of_ble_eq_true rfl⟩) hS (fun q9 _ h => h.elim) (fun q9 h => h.elim) (fun q9 _ h => h.elim) (fun E ce q9 u t H1 locs1 ht hvm hpx hBX hz hk hS1 hce hcv hcl => ?_) (fun u t H1 locs1 ht hvm hp1 hB hz hk hS1 => ?_)
  · exact vx_out (E := E) (fun x9 h9 => (hnx x9 h9).elim) hlocks hce hcv hcl (fun t1 ht1 ha1 => ⟨(), trivial, ⟨Or.inl ⟨by omega, hBX.2⟩, by rw [ht1]; exact hG.2.kept (fun a9 g9 => hk a9 g9 (fun f9 => f9))⟩, hS1.F ht1⟩) hS1.2.2 (Nat.le_of_ble_eq_true rfl) (Nat.le_of_ble_eq_true rfl)
  obtain rfl := ht.symm.trans hB
  clear hS
  have hS := hS1
  obtain ⟨to, rfl⟩ := Int.eq_ofNat_of_zero_le hp1.1
  refine lv_iload_n hx hb dX0_round_4 rfl (lv_at hl 3 rfl) ?_
  refine vx_callv (vx_runS (As := [.int (iI (a))]) (rest := []) ⟨hx, hb, hml, hown, hts⟩ (n_needRegister l htr ω k q z M wk _ (a) (by omega) (by omega)) (va_cwS 1 hts (gU (hd := [.methodLink "NoiseRing" 33 yX0_needRegister, .static yX0_needRegister, .initialized "NoiseRing"]) (List.forall_mem_cons.mpr ⟨u155, List.forall_mem_cons.mpr ⟨u156, List.forall_mem_cons.mpr ⟨u29, fun _ h => by cases h⟩⟩⟩) u157) rfl rfl rfl (by decide +kernel) ⟨Nat.le_of_ble_eq_true rfl, Nat.le_of_ble_eq_true rfl⟩) (gx_Sh hG) rfl rfl hl.1 rfl (lv_room (Nat.le_of_ble_eq_true rfl)) dX0_round_5 ⟨Nat.le_of_ble_eq_true rfl, Nat.le_of_ble_eq_true rfl⟩) hS (fun q9 _ h => h.elim) (fun q9 h => h.elim) (fun q9 _ h => h.elim) (fun E ce q9 u t H1 locs1 ht hvm hpx hBX hz hk hS1 hce hcv hcl => ?_) (fun u t H1 locs1 ht hvm hp5 hB hz hk hS1 => ?_)
  · exact vx_out (E := E) (fun x9 h9 => (hnx x9 h9).elim) hlocks hce hcv hcl (fun t1 ht1 ha1 => ⟨(), trivial, ⟨Or.inl ⟨by omega, hBX.2⟩, by rw [ht1]; exact hG.2.kept (fun a9 g9 => hk a9 g9 (fun f9 => f9))⟩, hS1.F ht1⟩) hS1.2.2 (Nat.le_of_ble_eq_true rfl) (Nat.le_of_ble_eq_true rfl)
  obtain rfl := ht.symm.trans hB
  clear hS
  have hS := hS1
  obtain ⟨a, rfl⟩ := Int.eq_ofNat_of_zero_le hp5.1
  refine lv_iload_n hx hb dX0_round_8 rfl (lv_at hl 2 rfl) ?_
  refine ix_if_lt (tgt := 21) hx hb (by omega) (by omega) dX0_round_9 (by decide) (fun h9 => ?_) (fun h9 => ?_)
  · skip
    refine ix_iconst hx hb dX0_round_21 ?_
    refine vx_callv (vx_runS (As := [.int (iI (0))]) (rest := []) ⟨hx, hb, hml, hown, hts⟩ (n_needArgument l htr ω k q z M wk _ (0) (by omega) (by omega)) (va_cwS 1 hts (gU (hd := [.methodLink "NoiseRing" 25 yX0_needArgument, .static yX0_needArgument, .initialized "NoiseRing"]) (List.forall_mem_cons.mpr ⟨u90, List.forall_mem_cons.mpr ⟨u91, List.forall_mem_cons.mpr ⟨u29, fun _ h => by cases h⟩⟩⟩) u92) rfl rfl rfl (by decide +kernel) ⟨Nat.le_of_ble_eq_true rfl, Nat.le_of_ble_eq_true rfl⟩) (gx_Sh hG) rfl rfl hl.1 rfl (lv_room (Nat.le_of_ble_eq_true rfl)) dX0_round_22 ⟨Nat.le_of_ble_eq_true rfl, Nat.le_of_ble_eq_true rfl⟩) hS (fun q9 _ h => h.elim) (fun q9 h => h.elim) (fun q9 _ h => h.elim) (fun E ce q9 u t H1 locs1 ht hvm hpx hBX hz hk hS1 hce hcv hcl => ?_) (fun u t H1 locs1 ht hvm hp22 hB hz hk hS1 => ?_)
    · exact vx_out (E := E) (fun x9 h9 => (hnx x9 h9).elim) hlocks hce hcv hcl (fun t1 ht1 ha1 => ⟨(), trivial, ⟨Or.inr ⟨⟨by omega, by omega⟩, by omega, hBX.2⟩, by rw [ht1]; exact hG.2.kept (fun a9 g9 => hk a9 g9 (fun f9 => f9))⟩, hS1.F ht1⟩) hS1.2.2 (Nat.le_of_ble_eq_true rfl) (Nat.le_of_ble_eq_true rfl)
    exact (hp22 rfl).elim
  · skip
    refine lv_iload_n hx hb dX0_round_12 rfl (lv_at hl 2 rfl) ?_
    refine ix_iconst hx hb dX0_round_13 ?_
    refine ix_icmp_gt (tgt := 21) hx hb (by omega) (by omega) (by omega) (by omega) dX0_round_14 (by decide) (fun h14 => ?_) (fun h14 => ?_)
    · skip
      refine ix_iconst hx hb dX0_round_21 ?_
      refine vx_callv (vx_runS (As := [.int (iI (0))]) (rest := []) ⟨hx, hb, hml, hown, hts⟩ (n_needArgument l htr ω k q z M wk _ (0) (by omega) (by omega)) (va_cwS 1 hts (gU (hd := [.methodLink "NoiseRing" 25 yX0_needArgument, .static yX0_needArgument, .initialized "NoiseRing"]) (List.forall_mem_cons.mpr ⟨u90, List.forall_mem_cons.mpr ⟨u91, List.forall_mem_cons.mpr ⟨u29, fun _ h => by cases h⟩⟩⟩) u92) rfl rfl rfl (by decide +kernel) ⟨Nat.le_of_ble_eq_true rfl, Nat.le_of_ble_eq_true rfl⟩) (gx_Sh hG) rfl rfl hl.1 rfl (lv_room (Nat.le_of_ble_eq_true rfl)) dX0_round_22 ⟨Nat.le_of_ble_eq_true rfl, Nat.le_of_ble_eq_true rfl⟩) hS (fun q9 _ h => h.elim) (fun q9 h => h.elim) (fun q9 _ h => h.elim) (fun E ce q9 u t H1 locs1 ht hvm hpx hBX hz hk hS1 hce hcv hcl => ?_) (fun u t H1 locs1 ht hvm hp22 hB hz hk hS1 => ?_)
      · exact vx_out (E := E) (fun x9 h9 => (hnx x9 h9).elim) hlocks hce hcv hcl (fun t1 ht1 ha1 => ⟨(), trivial, ⟨Or.inr ⟨⟨by omega, by omega⟩, by omega, hBX.2⟩, by rw [ht1]; exact hG.2.kept (fun a9 g9 => hk a9 g9 (fun f9 => f9))⟩, hS1.F ht1⟩) hS1.2.2 (Nat.le_of_ble_eq_true rfl) (Nat.le_of_ble_eq_true rfl)
      exact (hp22 rfl).elim
    · skip
      refine ix_iconst hx hb dX0_round_17 ?_
      refine lv_goto (tgt := 22) hx hb dX0_round_18 (by decide) ?_
      refine vx_callv (vx_runS (As := [.int (iI (1))]) (rest := []) ⟨hx, hb, hml, hown, hts⟩ (n_needArgument l htr ω k q z M wk _ (1) (by omega) (by omega)) (va_cwS 1 hts (gU (hd := [.methodLink "NoiseRing" 25 yX0_needArgument, .static yX0_needArgument, .initialized "NoiseRing"]) (List.forall_mem_cons.mpr ⟨u90, List.forall_mem_cons.mpr ⟨u91, List.forall_mem_cons.mpr ⟨u29, fun _ h => by cases h⟩⟩⟩) u92) rfl rfl rfl (by decide +kernel) ⟨Nat.le_of_ble_eq_true rfl, Nat.le_of_ble_eq_true rfl⟩) (gx_Sh hG) rfl rfl hl.1 rfl (lv_room (Nat.le_of_ble_eq_true rfl)) dX0_round_22 ⟨Nat.le_of_ble_eq_true rfl, Nat.le_of_ble_eq_true rfl⟩) hS (fun q9 _ h => h.elim) (fun q9 h => h.elim) (fun q9 _ h => h.elim) (fun E ce q9 u t H1 locs1 ht hvm hpx hBX hz hk hS1 hce hcv hcl => ?_) (fun u t H1 locs1 ht hvm hp22 hB hz hk hS1 => ?_)
      · exact (hBX.1 (by decide)).elim
      obtain rfl := ht.symm.trans hB
      clear hS
      have hS := hS1
      refine lv_iload hx hb dX0_round_25 (lv_at hl 4 rfl) ?_
      refine ix_iconst hx hb dX0_round_27 ?_
      refine ix_icmp_lt (tgt := 48) hx hb (by omega) (by omega) (by omega) (by omega) dX0_round_28 (by decide) (fun h28 => ?_) (fun h28 => ?_)
      · skip
        refine ix_iconst hx hb dX0_round_48 ?_
        refine vx_callv (vx_runS (As := [.int (iI (0))]) (rest := []) ⟨hx, hb, hml, hown, hts⟩ (n_needArgument l htr ω k q z M wk _ (0) (by omega) (by omega)) (va_cwS 1 hts (gU (hd := [.methodLink "NoiseRing" 25 yX0_needArgument, .static yX0_needArgument, .initialized "NoiseRing"]) (List.forall_mem_cons.mpr ⟨u90, List.forall_mem_cons.mpr ⟨u91, List.forall_mem_cons.mpr ⟨u29, fun _ h => by cases h⟩⟩⟩) u92) rfl rfl rfl (by decide +kernel) ⟨Nat.le_of_ble_eq_true rfl, Nat.le_of_ble_eq_true rfl⟩) (gx_Sh hG) rfl rfl hl.1 rfl (lv_room (Nat.le_of_ble_eq_true rfl)) dX0_round_49 ⟨Nat.le_of_ble_eq_true rfl, Nat.le_of_ble_eq_true rfl⟩) hS (fun q9 _ h => h.elim) (fun q9 h => h.elim) (fun q9 _ h => h.elim) (fun E ce q9 u t H1 locs1 ht hvm hpx hBX hz hk hS1 hce hcv hcl => ?_) (fun u t H1 locs1 ht hvm hp49 hB hz hk hS1 => ?_)
        · exact vx_out (E := E) (fun x9 h9 => (hnx x9 h9).elim) hlocks hce hcv hcl (fun t1 ht1 ha1 => ⟨(), trivial, ⟨Or.inr ⟨⟨by omega, by omega⟩, by omega, hBX.2⟩, by rw [ht1]; exact hG.2.kept (fun a9 g9 => hk a9 g9 (fun f9 => f9))⟩, hS1.F ht1⟩) hS1.2.2 (Nat.le_of_ble_eq_true rfl) (Nat.le_of_ble_eq_true rfl)
        exact (hp49 rfl).elim
      · skip
        refine lv_iload hx hb dX0_round_31 (lv_at hl 4 rfl) ?_
        refine gx_gets hx hb hts hown hB0.2.1.1.2.1 hS u223 dX0_round_33 ?_
        refine lv_aload_n hx hb dX0_round_36 rfl (lv_at hl 0 rfl) ?_
        refine gx_get hx hb hts hown hG 2 (by decide) rfl u57 dX0_round_37 ?_
        refine gx_tab hx hb hB0.2.1.1.2.1 hS (by omega) (by omega) (tbB_k (k := k) (by omega) (by omega)) dX0_round_40 ?_
        refine ix_icmp_gt (tgt := 48) hx hb (by omega) (by omega) (by omega) (by omega) dX0_round_41 (by decide) (fun h41 => ?_) (fun h41 => ?_)
        · skip
          refine ix_iconst hx hb dX0_round_48 ?_
          refine vx_callv (vx_runS (As := [.int (iI (0))]) (rest := []) ⟨hx, hb, hml, hown, hts⟩ (n_needArgument l htr ω k q z M wk _ (0) (by omega) (by omega)) (va_cwS 1 hts (gU (hd := [.methodLink "NoiseRing" 25 yX0_needArgument, .static yX0_needArgument, .initialized "NoiseRing"]) (List.forall_mem_cons.mpr ⟨u90, List.forall_mem_cons.mpr ⟨u91, List.forall_mem_cons.mpr ⟨u29, fun _ h => by cases h⟩⟩⟩) u92) rfl rfl rfl (by decide +kernel) ⟨Nat.le_of_ble_eq_true rfl, Nat.le_of_ble_eq_true rfl⟩) (gx_Sh hG) rfl rfl hl.1 rfl (lv_room (Nat.le_of_ble_eq_true rfl)) dX0_round_49 ⟨Nat.le_of_ble_eq_true rfl, Nat.le_of_ble_eq_true rfl⟩) hS (fun q9 _ h => h.elim) (fun q9 h => h.elim) (fun q9 _ h => h.elim) (fun E ce q9 u t H1 locs1 ht hvm hpx hBX hz hk hS1 hce hcv hcl => ?_) (fun u t H1 locs1 ht hvm hp49 hB hz hk hS1 => ?_)
          · exact vx_out (E := E) (fun x9 h9 => (hnx x9 h9).elim) hlocks hce hcv hcl (fun t1 ht1 ha1 => ⟨(), trivial, ⟨Or.inr ⟨⟨by omega, by omega⟩, by omega, hBX.2⟩, by rw [ht1]; exact hG.2.kept (fun a9 g9 => hk a9 g9 (fun f9 => f9))⟩, hS1.F ht1⟩) hS1.2.2 (Nat.le_of_ble_eq_true rfl) (Nat.le_of_ble_eq_true rfl)
          exact (hp49 rfl).elim
        · skip
          refine ix_iconst hx hb dX0_round_44 ?_
          refine lv_goto (tgt := 49) hx hb dX0_round_45 (by decide) ?_
          refine vx_callv (vx_runS (As := [.int (iI (1))]) (rest := []) ⟨hx, hb, hml, hown, hts⟩ (n_needArgument l htr ω k q z M wk _ (1) (by omega) (by omega)) (va_cwS 1 hts (gU (hd := [.methodLink "NoiseRing" 25 yX0_needArgument, .static yX0_needArgument, .initialized "NoiseRing"]) (List.forall_mem_cons.mpr ⟨u90, List.forall_mem_cons.mpr ⟨u91, List.forall_mem_cons.mpr ⟨u29, fun _ h => by cases h⟩⟩⟩) u92) rfl rfl rfl (by decide +kernel) ⟨Nat.le_of_ble_eq_true rfl, Nat.le_of_ble_eq_true rfl⟩) (gx_Sh hG) rfl rfl hl.1 rfl (lv_room (Nat.le_of_ble_eq_true rfl)) dX0_round_49 ⟨Nat.le_of_ble_eq_true rfl, Nat.le_of_ble_eq_true rfl⟩) hS (fun q9 _ h => h.elim) (fun q9 h => h.elim) (fun q9 _ h => h.elim) (fun E ce q9 u t H1 locs1 ht hvm hpx hBX hz hk hS1 hce hcv hcl => ?_) (fun u t H1 locs1 ht hvm hp49 hB hz hk hS1 => ?_)
          · exact (hBX.1 (by decide)).elim
          obtain rfl := ht.symm.trans hB
          clear hS
          have hS := hS1
          obtain ⟨d, rfl⟩ := Int.eq_ofNat_of_zero_le (show 0 ≤ d by omega)
          have hg : ∀ i, i < 16 → 0 ≤ (fun i => sRound q op (M a i) d) i ∧ (fun i => sRound q op (M a i) d) i < q := fun i hi => by
            have h9 := hM a i (by omega) hi
            have h8 := sRound_lt (k := k) (op := op) (x := M a i) (d := d) h9.1 (by omega) (by omega) (by omega)
            rw [← qk] at h8
            exact h8
          refine ix_iconst hx hb dX0_round_52 ?_
          refine lv_istore (lv' := [(5, .int (iI (0))), (0, .ref (ox ω)), (1, .int (iI (to))), (2, .int (iI (op))), (3, .int (iI (a))), (4, .int (iI (d)))]) hx hb dX0_round_53 hl (by decide) rfl (fun ls hl => ?_)
          refine ix_loopH (I := fun j ls H locs => lv_has ls 6 [(5, .int (iI ((j : Nat)))), (0, .ref (ox ω)), (1, .int (iI (to))), (2, .int (iI (op))), (3, .int (iI (a))), (4, .int (iI (d)))] ∧ GX ω k q z (mixR M to (fun i => sRound q op (M a i) d) (j)) (wk) s H ∧ va_S (Ax ω) s.heap H locs) 16 0 (by omega) ⟨lv_sub hl [0, 1, 2, 3, 4, 5] rfl, (by rw [mixR_0]; exact hG), hS⟩ (fun ls H locs hI => ?_) (fun j ls H locs hj hI ih55 => ?_)
          · obtain ⟨hl, hG, hS⟩ := hI
            have hl : lv_has ls 6 [(5, .int (iI ((16 : Nat)))), (0, .ref (ox ω)), (1, .int (iI (to))), (2, .int (iI (op))), (3, .int (iI (a))), (4, .int (iI (d)))] := hl
            have hM2 := mixR_in (to := to) (n := 16) hM hg
            refine lv_iload hx hb dX0_round_55 (lv_at hl 0 rfl) ?_
            refine ix_bipush hx hb (by decide) dX0_round_57 ?_
            refine ix_icmp_ge (tgt := 93) hx hb (by omega) (by omega) (by omega) (by omega) dX0_round_59 (by decide) (fun h59 => ?_) (fun h59 => absurd h59 (by omega))
            refine lv_aload_n hx hb dX0_round_93 rfl (lv_at hl 1 rfl) ?_
            refine gx_get hx hb hts hown hG 0 (by decide) rfl u55 dX0_round_94 ?_
            refine lv_iload_n hx hb dX0_round_97 rfl (lv_at hl 2 rfl) ?_
            refine gx_row (r := to) hx hb hG (by omega) dX0_round_98 ?_
            refine vp_callSi (va_Run.run (va_runS (As := [.ref (oR ω (to))]) (rest := []) ⟨hx, hb, hml, hown, hts⟩ (c_notZero l ω k q z (mixR M to (fun i => sRound q op (M a i) d) (16)) (wk) (to) (by omega) hq1 hq2 hM2) (va_cwS 1 hts (gU (hd := [.methodLink "NoiseRing" 69 yX0_notZero, .static yX0_notZero, .initialized "NoiseRing"]) (List.forall_mem_cons.mpr ⟨u79, List.forall_mem_cons.mpr ⟨u80, List.forall_mem_cons.mpr ⟨u29, fun _ h => by cases h⟩⟩⟩) u81) rfl rfl rfl (by decide +kernel) ⟨Nat.le_of_ble_eq_true rfl, Nat.le_of_ble_eq_true rfl⟩) (gx_S hG) rfl rfl hl.1 rfl (lv_room (Nat.le_of_ble_eq_true rfl)) dX0_round_99 ⟨Nat.le_of_ble_eq_true rfl, Nat.le_of_ble_eq_true rfl⟩)) (fun r99 hr99 => ?_)
            subst hr99
            refine W.widen (k := 4) (n := 24) (Nat.le_of_ble_eq_true rfl) (Nat.le_of_ble_eq_true rfl) ?_
            exact vx_ret (W.iret hx hb hrt (fun t ht hW => ⟨⟨_, wk, rfl, ⟨by omega, congrArg iI (sCnt_eq (fun i hi => mixR_row hi))⟩, by have h9 := hG.2; rw [← ht] at h9; exact h9⟩, hS.F ht⟩) hS.2.2 dX0_round_102)
          · obtain ⟨hl, hG, hS⟩ := hI
            have hl : lv_has ls 6 [(5, .int (iI ((j : Nat)))), (0, .ref (ox ω)), (1, .int (iI (to))), (2, .int (iI (op))), (3, .int (iI (a))), (4, .int (iI (d)))] := hl
            have hm := hM a j (by omega) hj
            refine lv_iload hx hb dX0_round_55 (lv_at hl 0 rfl) ?_
            refine ix_bipush hx hb (by decide) dX0_round_57 ?_
            refine ix_icmp_ge (tgt := 93) hx hb (by omega) (by omega) (by omega) (by omega) dX0_round_59 (by decide) (fun h59 => absurd h59 (by omega)) (fun h59 => ?_)
            refine lv_aload_n hx hb dX0_round_62 rfl (lv_at hl 1 rfl) ?_
            refine gx_get hx hb hts hown hG 0 (by decide) rfl u55 dX0_round_63 ?_
            refine lv_iload_n hx hb dX0_round_66 rfl (lv_at hl 2 rfl) ?_
            refine gx_row (r := to) hx hb hG (by omega) dX0_round_67 ?_
            refine lv_iload hx hb dX0_round_68 (lv_at hl 0 rfl) ?_
            refine lv_aload_n hx hb dX0_round_70 rfl (lv_at hl 1 rfl) ?_
            refine lv_iload_n hx hb dX0_round_71 rfl (lv_at hl 3 rfl) ?_
            refine lv_aload_n hx hb dX0_round_72 rfl (lv_at hl 1 rfl) ?_
            refine gx_get hx hb hts hown hG 0 (by decide) rfl u55 dX0_round_73 ?_
            refine lv_iload_n hx hb dX0_round_76 rfl (lv_at hl 4 rfl) ?_
            refine gx_row (r := a) hx hb hG (by omega) dX0_round_77 ?_
            refine lv_iload hx hb dX0_round_78 (lv_at hl 0 rfl) ?_
            refine gx_ild (r := a) (i := j) hx hb hG (by omega) (by omega) dX0_round_80 ?_
            refine wx_i (congrArg iI (mixR_at M to (fun i => sRound q op (M a i) d) (a) j)) ?_
            refine lv_iload hx hb dX0_round_81 (lv_at hl 5 rfl) ?_
            refine vp_callSi (va_Run.run (va_runV (As := [.int (iI (op)), .int (iI (M (a) (j))), .int (iI (d))]) (rest := [.int (iI ((j : Nat))), .ref (oR ω (to))]) ⟨hx, hb, hml, hown, hts⟩ (c_rounded l ω k q z (mixR M to (fun i => sRound q op (M a i) d) (j)) (wk) (op) (M (a) (j)) (d) hq1 hq2 (by omega) (by omega) (by omega) (by omega) (by omega) (by omega)) (cwV 3 hts (gU (hd := [.methodLink "NoiseRing" 65 yX0_rounded, .instanceMethod yX0_rounded, .selects "NoiseRing" yX0_rounded yX0_rounded, .initialized "NoiseRing"]) (List.forall_mem_cons.mpr ⟨u224, List.forall_mem_cons.mpr ⟨u225, List.forall_mem_cons.mpr ⟨u8, List.forall_mem_cons.mpr ⟨u29, fun _ h => by cases h⟩⟩⟩⟩) u226) rfl rfl rfl (by decide +kernel) ⟨Nat.le_of_ble_eq_true rfl, Nat.le_of_ble_eq_true rfl⟩) (gx_V hG) rfl rfl hl.1 rfl (lv_room (Nat.le_of_ble_eq_true rfl)) dX0_round_83 ⟨Nat.le_of_ble_eq_true rfl, Nat.le_of_ble_eq_true rfl⟩)) (fun r83 hr83 => ?_)
            subst hr83
            refine gx_ist (r := to) (i := j) hx hb hG hS (by omega) (by omega) dX0_round_86 (fun H1 locs1 hG hS => ?_)
            refine lv_iinc (k := 0) (v := iI ((j : Nat) + 1)) (lv' := [(5, .int (iI ((j : Nat) + 1))), (0, .ref (ox ω)), (1, .int (iI (to))), (2, .int (iI (op))), (3, .int (iI (a))), (4, .int (iI (d)))]) hx hb dX0_round_87 hl rfl (iI_add _ _) (by decide) rfl (fun ls hl => ?_)
            refine lv_goto (tgt := 55) hx hb dX0_round_90 (by decide) ?_
            exact ih55 ls _ _ ⟨lv_sub hl [0, 1, 2, 3, 4, 5] rfl, (by rw [← mixR_s]; exact hG), hS⟩
set_option maxHeartbeats 4000000 in
set_option maxRecDepth 100000 in
theorem p_part (l : Launch) (htr : l.stackTraces = false) (ω : WX) (k q z : Int) (M : Nat → Nat → Int) (wk : Nat → Int) (to a al hi : Int) (to1 : -2147483648 ≤ to) (to2 : to < 2147483648) (a1 : -2147483648 ≤ a) (a2 : a < 2147483648) (al1 : -2147483648 ≤ al) (al2 : al < 2147483648) (hi1 : -2147483648 ≤ hi) (hi2 : hi < 2147483648) (hq1 : 3329 ≤ q) (hq2 : q ≤ 8380417) (hM : ∀ r i, r < 12 → i < 16 → 0 ≤ M r i ∧ M r i < q) : vx_Met l yX0_part wsX0_part ({ frames := 7, cells := 3, slots := 18, locals := 102 }) (va_Pc [.ref (ox ω), .int (iI (to)), .int (iI (a)), .int (iI (al)), .int (iI (hi))] (fun U => GX ω k q z M wk U U.heap)) (va_Qi (fun r_ (_ : Nat → Int) => (((0 ≤ to ∧ to < 12) ∧ (0 ≤ a ∧ a < 12)) ∧ sAli q al = 1) ∧ r_ = iI (sCnt (fun i => if hi = 0 then sRest q (M a.toNat i) al % q else sPart q (M a.toNat i) al) 16)) (fun w_ t => CX ω k q z (mixR M to.toNat (fun i => if hi = 0 then sRest q (M a.toNat i) al % q else sPart q (M a.toNat i) al) 16) w_ t.heap) (Ax ω)) (vx_X (fun _ : Unit => True) (fun E _ t => ((¬ ((0 ≤ to ∧ to < 12) ∧ (0 ≤ a ∧ a < 12)) ∧ E = nNSE) ∨ (((0 ≤ to ∧ to < 12) ∧ (0 ≤ a ∧ a < 12)) ∧ ¬ (sAli q al = 1) ∧ E = nIAE)) ∧ CX ω k q z M wk t.heap) (Ax ω)) 3 18 (Ax ω) := by
  refine vx_ofW (cc := cX0_part) (maxL := 7) (ret := (some .int)) (by decide +kernel) rfl ?_
  intro p e s m args below meth c s₁ B hml hnx hv
  obtain ⟨rfl, hG⟩ := hv
  have hx := B.exec
  have hb := B.bytes
  have hrt := B.returns
  have hts : ∀ w ∈ wsU, w.before _ s = true := fun w h => atoms_spec (ws := wsX0_part) B.pre w (List.mem_cons_of_mem _ h)
  have hown : s.vm.findClass "NoiseRing" = some m.cls := findClass_of_methodNamed B.named
  have hlocks := B.notSynchronized
  have hS : va_S (Ax ω) s.heap s.heap [] := va_S.rf
  have hl := lv_entry ([.ref (ox ω), .int (iI (to)), .int (iI (a)), .int (iI (al)), .int (iI (hi))]) (n := 7) (Nat.le_of_ble_eq_true rfl)
  rw [lg_entry_eq]
  generalize (lg_sl ([.ref (ox ω), .int (iI (to)), .int (iI (a)), .int (iI (al)), .int (iI (hi))]) ++ List.replicate (7 - (lg_sl ([.ref (ox ω), .int (iI (to)), .int (iI (a)), .int (iI (al)), .int (iI (hi))])).length) Slot.unset).toArray = ls at hl ⊢
  have hl : lv_has ls 7 [(0, .ref (ox ω)), (1, .int (iI (to))), (2, .int (iI (a))), (3, .int (iI (al))), (4, .int (iI (hi)))] := hl
  have hB0 := hG.1
  refine lv_iload_n hx hb dX0_part_0 rfl (lv_at hl 1 rfl) ?_
  refine vx_callv (vx_runS (As := [.int (iI (to))]) (rest := []) ⟨hx, hb, hml, hown, hts⟩ (n_needRegister l htr ω k q z M wk _ (to) (by omega) (by omega)) (va_cwS 1 hts (gU (hd := [.methodLink "NoiseRing" 33 yX0_needRegister, .static yX0_needRegister, .initialized "NoiseRing"]) (List.forall_mem_cons.mpr ⟨u155, List.forall_mem_cons.mpr ⟨u156, List.forall_mem_cons.mpr ⟨u29, fun _ h => by cases h⟩⟩⟩) u157) rfl rfl rfl (by decide +kernel) ⟨Nat.le_of_ble_eq_true rfl, Nat.le_of_ble_eq_true rfl⟩) (gx_Sh hG) rfl rfl hl.1 rfl (lv_room (Nat.le_of_ble_eq_true rfl)) dX0_part_1 ⟨Nat.le_of_ble_eq_true rfl, Nat.le_of_ble_eq_true rfl⟩) hS (fun q9 _ h => h.elim) (fun q9 h => h.elim) (fun q9 _ h => h.elim) (fun E ce q9 u t H1 locs1 ht hvm hpx hBX hz hk hS1 hce hcv hcl => ?_) (fun u t H1 locs1 ht hvm hp1 hB hz hk hS1 => ?_)
  · exact vx_out (E := E) (fun x9 h9 => (hnx x9 h9).elim) hlocks hce hcv hcl (fun t1 ht1 ha1 => ⟨(), trivial, ⟨Or.inl ⟨by omega, hBX.2⟩, by rw [ht1]; exact hG.2.kept (fun a9 g9 => hk a9 g9 (fun f9 => f9))⟩, hS1.F ht1⟩) hS1.2.2 (Nat.le_of_ble_eq_true rfl) (Nat.le_of_ble_eq_true rfl)
  obtain rfl := ht.symm.trans hB
  clear hS
  have hS := hS1
  obtain ⟨to, rfl⟩ := Int.eq_ofNat_of_zero_le hp1.1
  refine lv_iload_n hx hb dX0_part_4 rfl (lv_at hl 2 rfl) ?_
  refine vx_callv (vx_runS (As := [.int (iI (a))]) (rest := []) ⟨hx, hb, hml, hown, hts⟩ (n_needRegister l htr ω k q z M wk _ (a) (by omega) (by omega)) (va_cwS 1 hts (gU (hd := [.methodLink "NoiseRing" 33 yX0_needRegister, .static yX0_needRegister, .initialized "NoiseRing"]) (List.forall_mem_cons.mpr ⟨u155, List.forall_mem_cons.mpr ⟨u156, List.forall_mem_cons.mpr ⟨u29, fun _ h => by cases h⟩⟩⟩) u157) rfl rfl rfl (by decide +kernel) ⟨Nat.le_of_ble_eq_true rfl, Nat.le_of_ble_eq_true rfl⟩) (gx_Sh hG) rfl rfl hl.1 rfl (lv_room (Nat.le_of_ble_eq_true rfl)) dX0_part_5 ⟨Nat.le_of_ble_eq_true rfl, Nat.le_of_ble_eq_true rfl⟩) hS (fun q9 _ h => h.elim) (fun q9 h => h.elim) (fun q9 _ h => h.elim) (fun E ce q9 u t H1 locs1 ht hvm hpx hBX hz hk hS1 hce hcv hcl => ?_) (fun u t H1 locs1 ht hvm hp5 hB hz hk hS1 => ?_)
  · exact vx_out (E := E) (fun x9 h9 => (hnx x9 h9).elim) hlocks hce hcv hcl (fun t1 ht1 ha1 => ⟨(), trivial, ⟨Or.inl ⟨by omega, hBX.2⟩, by rw [ht1]; exact hG.2.kept (fun a9 g9 => hk a9 g9 (fun f9 => f9))⟩, hS1.F ht1⟩) hS1.2.2 (Nat.le_of_ble_eq_true rfl) (Nat.le_of_ble_eq_true rfl)
  obtain rfl := ht.symm.trans hB
  clear hS
  have hS := hS1
  obtain ⟨a, rfl⟩ := Int.eq_ofNat_of_zero_le hp5.1
  refine lv_aload_n hx hb dX0_part_8 rfl (lv_at hl 0 rfl) ?_
  refine lv_iload_n hx hb dX0_part_9 rfl (lv_at hl 3 rfl) ?_
  refine vp_callSi (va_Run.run (va_runV (As := [.int (iI (al))]) (rest := []) ⟨hx, hb, hml, hown, hts⟩ (c_isAlpha l ω k q z M wk (al) hq1 hq2 (by omega) (by omega)) (cwV 1 hts (gU (hd := [.methodLink "NoiseRing" 72 yX0_isAlpha, .instanceMethod yX0_isAlpha, .selects "NoiseRing" yX0_isAlpha yX0_isAlpha, .initialized "NoiseRing"]) (List.forall_mem_cons.mpr ⟨u247, List.forall_mem_cons.mpr ⟨u248, List.forall_mem_cons.mpr ⟨u11, List.forall_mem_cons.mpr ⟨u29, fun _ h => by cases h⟩⟩⟩⟩) u249) rfl rfl rfl (by decide +kernel) ⟨Nat.le_of_ble_eq_true rfl, Nat.le_of_ble_eq_true rfl⟩) (gx_V hG) rfl rfl hl.1 rfl (lv_room (Nat.le_of_ble_eq_true rfl)) dX0_part_10 ⟨Nat.le_of_ble_eq_true rfl, Nat.le_of_ble_eq_true rfl⟩)) (fun r10 hr10 => ?_)
  subst hr10
  have hai : sAli q al = 0 ∨ sAli q al = 1 := by unfold sAli; split <;> omega
  refine vx_callv (vx_runS (As := [.int (iI ((sAli q (al))))]) (rest := []) ⟨hx, hb, hml, hown, hts⟩ (n_needArgument l htr ω k q z M wk _ ((sAli q (al))) (by omega) (by omega)) (va_cwS 1 hts (gU (hd := [.methodLink "NoiseRing" 25 yX0_needArgument, .static yX0_needArgument, .initialized "NoiseRing"]) (List.forall_mem_cons.mpr ⟨u90, List.forall_mem_cons.mpr ⟨u91, List.forall_mem_cons.mpr ⟨u29, fun _ h => by cases h⟩⟩⟩) u92) rfl rfl rfl (by decide +kernel) ⟨Nat.le_of_ble_eq_true rfl, Nat.le_of_ble_eq_true rfl⟩) (gx_Sh hG) rfl rfl hl.1 rfl (lv_room (Nat.le_of_ble_eq_true rfl)) dX0_part_13 ⟨Nat.le_of_ble_eq_true rfl, Nat.le_of_ble_eq_true rfl⟩) hS (fun q9 _ h => h.elim) (fun q9 h => h.elim) (fun q9 _ h => h.elim) (fun E ce q9 u t H1 locs1 ht hvm hpx hBX hz hk hS1 hce hcv hcl => ?_) (fun u t H1 locs1 ht hvm hp13 hB hz hk hS1 => ?_)
  · exact vx_out (E := E) (fun x9 h9 => (hnx x9 h9).elim) hlocks hce hcv hcl (fun t1 ht1 ha1 => ⟨(), trivial, ⟨Or.inr ⟨⟨by omega, by omega⟩, by omega, hBX.2⟩, by rw [ht1]; exact hG.2.kept (fun a9 g9 => hk a9 g9 (fun f9 => f9))⟩, hS1.F ht1⟩) hS1.2.2 (Nat.le_of_ble_eq_true rfl) (Nat.le_of_ble_eq_true rfl)
  obtain rfl := ht.symm.trans hB
  clear hS
  have hS := hS1
  have hal := sAl_of (q := q) (a := al) (by omega)
  have hal2 := sAl_lt (q := q) (by omega) hal
  have hg : ∀ i, i < 16 → 0 ≤ (fun i => if hi = 0 then sRest q (M a i) al % q else sPart q (M a i) al) i ∧ (fun i => if hi = 0 then sRest q (M a i) al % q else sPart q (M a i) al) i < q := fun i hi9 => by
    have h9 := hM a i (by omega) hi9
    have h8 := sPart_lt (q := q) (x := M a i) (a := al) h9.1 h9.2 hal2.1 hal2.2
    have h7 := Int.emod_nonneg (sRest q (M a i) al) (show q ≠ 0 by omega)
    have h6 := Int.emod_lt_of_pos (sRest q (M a i) al) (show 0 < q by omega)
    show 0 ≤ (if hi = 0 then _ else _) ∧ (if hi = 0 then _ else _) < q
    split <;> omega
  refine ix_iconst hx hb dX0_part_16 ?_
  refine lv_istore (lv' := [(5, .int (iI (0))), (0, .ref (ox ω)), (1, .int (iI (to))), (2, .int (iI (a))), (3, .int (iI (al))), (4, .int (iI (hi)))]) hx hb dX0_part_17 hl (by decide) rfl (fun ls hl => ?_)
  refine ix_loopH (I := fun j ls H locs => lv_has ls 7 [(5, .int (iI ((j : Nat)))), (0, .ref (ox ω)), (1, .int (iI (to))), (2, .int (iI (a))), (3, .int (iI (al))), (4, .int (iI (hi)))] ∧ GX ω k q z (mixR M to (fun i => if hi = 0 then sRest q (M a i) al % q else sPart q (M a i) al) (j)) (wk) s H ∧ va_S (Ax ω) s.heap H locs) 16 0 (by omega) ⟨lv_sub hl [0, 1, 2, 3, 4, 5] rfl, (by rw [mixR_0]; exact hG), hS⟩ (fun ls H locs hI => ?_) (fun j ls H locs hj hI ih19 => ?_)
  · obtain ⟨hl, hG, hS⟩ := hI
    have hl : lv_has ls 7 [(5, .int (iI ((16 : Nat)))), (0, .ref (ox ω)), (1, .int (iI (to))), (2, .int (iI (a))), (3, .int (iI (al))), (4, .int (iI (hi)))] := hl
    have hM2 := mixR_in (to := to) (n := 16) hM hg
    refine lv_iload hx hb dX0_part_19 (lv_at hl 0 rfl) ?_
    refine ix_bipush hx hb (by decide) dX0_part_21 ?_
    refine ix_icmp_ge (tgt := 81) hx hb (by omega) (by omega) (by omega) (by omega) dX0_part_23 (by decide) (fun h23 => ?_) (fun h23 => absurd h23 (by omega))
    refine lv_aload_n hx hb dX0_part_81 rfl (lv_at hl 1 rfl) ?_
    refine gx_get hx hb hts hown hG 0 (by decide) rfl u55 dX0_part_82 ?_
    refine lv_iload_n hx hb dX0_part_85 rfl (lv_at hl 2 rfl) ?_
    refine gx_row (r := to) hx hb hG (by omega) dX0_part_86 ?_
    refine vp_callSi (va_Run.run (va_runS (As := [.ref (oR ω (to))]) (rest := []) ⟨hx, hb, hml, hown, hts⟩ (c_notZero l ω k q z (mixR M to (fun i => if hi = 0 then sRest q (M a i) al % q else sPart q (M a i) al) (16)) (wk) (to) (by omega) hq1 hq2 hM2) (va_cwS 1 hts (gU (hd := [.methodLink "NoiseRing" 69 yX0_notZero, .static yX0_notZero, .initialized "NoiseRing"]) (List.forall_mem_cons.mpr ⟨u79, List.forall_mem_cons.mpr ⟨u80, List.forall_mem_cons.mpr ⟨u29, fun _ h => by cases h⟩⟩⟩) u81) rfl rfl rfl (by decide +kernel) ⟨Nat.le_of_ble_eq_true rfl, Nat.le_of_ble_eq_true rfl⟩) (gx_S hG) rfl rfl hl.1 rfl (lv_room (Nat.le_of_ble_eq_true rfl)) dX0_part_87 ⟨Nat.le_of_ble_eq_true rfl, Nat.le_of_ble_eq_true rfl⟩)) (fun r87 hr87 => ?_)
    subst hr87
    refine W.widen (k := 3) (n := 18) (Nat.le_of_ble_eq_true rfl) (Nat.le_of_ble_eq_true rfl) ?_
    exact vx_ret (W.iret hx hb hrt (fun t ht hW => ⟨⟨_, wk, rfl, ⟨by omega, congrArg iI (sCnt_eq (fun i hi9 => mixR_row hi9))⟩, by have h9 := hG.2; rw [← ht] at h9; exact h9⟩, hS.F ht⟩) hS.2.2 dX0_part_90)
  · obtain ⟨hl, hG, hS⟩ := hI
    have hl : lv_has ls 7 [(5, .int (iI ((j : Nat)))), (0, .ref (ox ω)), (1, .int (iI (to))), (2, .int (iI (a))), (3, .int (iI (al))), (4, .int (iI (hi)))] := hl
    have hm := hM a j (by omega) hj
    have hn := sNear_in (x := M a j) (show 0 < al by omega)
    have hrr : -2147483648 ≤ sRest q (M (a) (j)) (al) ∧ sRest q (M (a) (j)) (al) < 2147483648 := by
      unfold sRest
      split <;> omega
    refine lv_iload hx hb dX0_part_19 (lv_at hl 0 rfl) ?_
    refine ix_bipush hx hb (by decide) dX0_part_21 ?_
    refine ix_icmp_ge (tgt := 81) hx hb (by omega) (by omega) (by omega) (by omega) dX0_part_23 (by decide) (fun h23 => absurd h23 (by omega)) (fun h23 => ?_)
    refine lv_aload_n hx hb dX0_part_26 rfl (lv_at hl 1 rfl) ?_
    refine gx_get hx hb hts hown hG 0 (by decide) rfl u55 dX0_part_27 ?_
    refine lv_iload_n hx hb dX0_part_30 rfl (lv_at hl 3 rfl) ?_
    refine gx_row (r := a) hx hb hG (by omega) dX0_part_31 ?_
    refine lv_iload hx hb dX0_part_32 (lv_at hl 0 rfl) ?_
    refine gx_ild (r := a) (i := j) hx hb hG (by omega) (by omega) dX0_part_34 ?_
    refine wx_i (congrArg iI (mixR_at M to (fun i => if hi = 0 then sRest q (M a i) al % q else sPart q (M a i) al) (a) j)) ?_
    refine lv_istore (lv' := [(6, .int (iI (M (a) (j)))), (5, .int (iI ((j : Nat)))), (0, .ref (ox ω)), (1, .int (iI (to))), (2, .int (iI (a))), (3, .int (iI (al))), (4, .int (iI (hi)))]) hx hb dX0_part_35 hl (by decide) rfl (fun ls hl => ?_)
    refine lv_aload_n hx hb dX0_part_37 rfl (lv_at hl 2 rfl) ?_
    refine gx_get hx hb hts hown hG 0 (by decide) rfl u55 dX0_part_38 ?_
    refine lv_iload_n hx hb dX0_part_41 rfl (lv_at hl 3 rfl) ?_
    refine gx_row (r := to) hx hb hG (by omega) dX0_part_42 ?_
    refine lv_iload hx hb dX0_part_43 (lv_at hl 1 rfl) ?_
    refine lv_iload hx hb dX0_part_45 (lv_at hl 6 rfl) ?_
    refine ix_if_eq (tgt := 60) hx hb (by omega) (by omega) dX0_part_47 (by decide) (fun h47 => ?_) (fun h47 => ?_)
    · skip
      refine lv_aload_n hx hb dX0_part_60 rfl (lv_at hl 2 rfl) ?_
      refine lv_iload hx hb dX0_part_61 (lv_at hl 0 rfl) ?_
      refine lv_iload_n hx hb dX0_part_63 rfl (lv_at hl 5 rfl) ?_
      refine vp_callSi (va_Run.run (va_runV (As := [.int (iI (M (a) (j))), .int (iI (al))]) (rest := [.int (iI ((j : Nat))), .ref (oR ω (to))]) ⟨hx, hb, hml, hown, hts⟩ (c_restOf l ω k q z (mixR M to (fun i => if hi = 0 then sRest q (M a i) al % q else sPart q (M a i) al) (j)) (wk) (M (a) (j)) (al) hq1 hq2 (by omega) (by omega) (by omega) (by omega) hal.2.1) (cwV 2 hts (gU (hd := [.methodLink "NoiseRing" 79 yX0_restOf, .instanceMethod yX0_restOf, .selects "NoiseRing" yX0_restOf yX0_restOf, .initialized "NoiseRing"]) (List.forall_mem_cons.mpr ⟨u256, List.forall_mem_cons.mpr ⟨u257, List.forall_mem_cons.mpr ⟨u13, List.forall_mem_cons.mpr ⟨u29, fun _ h => by cases h⟩⟩⟩⟩) u258) rfl rfl rfl (by decide +kernel) ⟨Nat.le_of_ble_eq_true rfl, Nat.le_of_ble_eq_true rfl⟩) (gx_V hG) rfl rfl hl.1 rfl (lv_room (Nat.le_of_ble_eq_true rfl)) dX0_part_64 ⟨Nat.le_of_ble_eq_true rfl, Nat.le_of_ble_eq_true rfl⟩)) (fun r64 hr64 => ?_)
      subst hr64
      refine lv_aload_n hx hb dX0_part_67 rfl (lv_at hl 2 rfl) ?_
      refine gx_get hx hb hts hown hG 3 (by decide) rfl u58 dX0_part_68 ?_
      refine vp_callSi (va_Run.run (va_runS (As := [.int (iI ((sRest q (M (a) (j)) (al)))), .int (iI (q))]) (rest := [.int (iI ((j : Nat))), .ref (oR ω (to))]) ⟨hx, hb, hml, hown, hts⟩ (c_floorModI l ((sRest q (M (a) (j)) (al))) (q) (by omega) (by omega) (by omega) (by omega)) (va_cwS 2 hts (gU (hd := [.methodLink "NoiseRing" 39 yJ_floorModI, .static yJ_floorModI, .initialized "java/lang/Math"]) (List.forall_mem_cons.mpr ⟨u175, List.forall_mem_cons.mpr ⟨u176, List.forall_mem_cons.mpr ⟨u36, fun _ h => by cases h⟩⟩⟩) u177) rfl rfl rfl (by decide +kernel) ⟨Nat.le_of_ble_eq_true rfl, Nat.le_of_ble_eq_true rfl⟩) gn_S rfl rfl hl.1 rfl (lv_room (Nat.le_of_ble_eq_true rfl)) dX0_part_71 ⟨Nat.le_of_ble_eq_true rfl, Nat.le_of_ble_eq_true rfl⟩)) (fun r71 hr71 => ?_)
      subst hr71
      refine wx_i (congrArg iI (show ((sRest q (M (a) (j)) (al)) % q) = (fun i => if hi = 0 then sRest q (M a i) al % q else sPart q (M a i) al) j from ?_)) ?_
      · show _ = if hi = 0 then sRest q (M a j) al % q else sPart q (M a j) al
        first | rw [if_pos (by omega)] | rw [if_neg (by omega)]
      refine gx_ist (r := to) (i := j) hx hb hG hS (by omega) (by omega) dX0_part_74 (fun H1 locs1 hG hS => ?_)
      refine lv_iinc (k := 1) (v := iI ((j : Nat) + 1)) (lv' := [(5, .int (iI ((j : Nat) + 1))), (6, .int (iI (M (a) (j)))), (0, .ref (ox ω)), (1, .int (iI (to))), (2, .int (iI (a))), (3, .int (iI (al))), (4, .int (iI (hi)))]) hx hb dX0_part_75 hl rfl (iI_add _ _) (by decide) rfl (fun ls hl => ?_)
      refine lv_goto (tgt := 19) hx hb dX0_part_78 (by decide) ?_
      exact ih19 ls _ _ ⟨lv_sub hl [0, 2, 3, 4, 5, 6] rfl, (by rw [← mixR_s]; exact hG), hS⟩
    · skip
      refine lv_aload_n hx hb dX0_part_50 rfl (lv_at hl 2 rfl) ?_
      refine lv_iload hx hb dX0_part_51 (lv_at hl 0 rfl) ?_
      refine lv_iload_n hx hb dX0_part_53 rfl (lv_at hl 5 rfl) ?_
      refine vp_callSi (va_Run.run (va_runV (As := [.int (iI (M (a) (j))), .int (iI (al))]) (rest := [.int (iI ((j : Nat))), .ref (oR ω (to))]) ⟨hx, hb, hml, hown, hts⟩ (c_partOf l ω k q z (mixR M to (fun i => if hi = 0 then sRest q (M a i) al % q else sPart q (M a i) al) (j)) (wk) (M (a) (j)) (al) hq1 hq2 (by omega) (by omega) (by omega) (by omega) hal.2.1) (cwV 2 hts (gU (hd := [.methodLink "NoiseRing" 76 yX0_partOf, .instanceMethod yX0_partOf, .selects "NoiseRing" yX0_partOf yX0_partOf, .initialized "NoiseRing"]) (List.forall_mem_cons.mpr ⟨u250, List.forall_mem_cons.mpr ⟨u251, List.forall_mem_cons.mpr ⟨u12, List.forall_mem_cons.mpr ⟨u29, fun _ h => by cases h⟩⟩⟩⟩) u252) rfl rfl rfl (by decide +kernel) ⟨Nat.le_of_ble_eq_true rfl, Nat.le_of_ble_eq_true rfl⟩) (gx_V hG) rfl rfl hl.1 rfl (lv_room (Nat.le_of_ble_eq_true rfl)) dX0_part_54 ⟨Nat.le_of_ble_eq_true rfl, Nat.le_of_ble_eq_true rfl⟩)) (fun r54 hr54 => ?_)
      subst hr54
      refine lv_goto (tgt := 74) hx hb dX0_part_57 (by decide) ?_
      refine wx_i (congrArg iI (show (sPart q (M (a) (j)) (al)) = (fun i => if hi = 0 then sRest q (M a i) al % q else sPart q (M a i) al) j from ?_)) ?_
      · show _ = if hi = 0 then sRest q (M a j) al % q else sPart q (M a j) al
        first | rw [if_pos (by omega)] | rw [if_neg (by omega)]
      refine gx_ist (r := to) (i := j) hx hb hG hS (by omega) (by omega) dX0_part_74 (fun H1 locs1 hG hS => ?_)
      refine lv_iinc (k := 1) (v := iI ((j : Nat) + 1)) (lv' := [(5, .int (iI ((j : Nat) + 1))), (6, .int (iI (M (a) (j)))), (0, .ref (ox ω)), (1, .int (iI (to))), (2, .int (iI (a))), (3, .int (iI (al))), (4, .int (iI (hi)))]) hx hb dX0_part_75 hl rfl (iI_add _ _) (by decide) rfl (fun ls hl => ?_)
      refine lv_goto (tgt := 19) hx hb dX0_part_78 (by decide) ?_
      exact ih19 ls _ _ ⟨lv_sub hl [0, 2, 3, 4, 5, 6] rfl, (by rw [← mixR_s]; exact hG), hS⟩
set_option maxHeartbeats 4000000 in
set_option maxRecDepth 100000 in
theorem p_hint (l : Launch) (htr : l.stackTraces = false) (ω : WX) (k q z : Int) (M : Nat → Nat → Int) (wk : Nat → Int) (to a b al : Int) (to1 : -2147483648 ≤ to) (to2 : to < 2147483648) (a1 : -2147483648 ≤ a) (a2 : a < 2147483648) (b1 : -2147483648 ≤ b) (b2 : b < 2147483648) (al1 : -2147483648 ≤ al) (al2 : al < 2147483648) (hq1 : 3329 ≤ q) (hq2 : q ≤ 8380417) (hM : ∀ r i, r < 12 → i < 16 → 0 ≤ M r i ∧ M r i < q) : vx_Met l yX0_hint wsX0_hint ({ frames := 7, cells := 4, slots := 24, locals := 102 }) (va_Pc [.ref (ox ω), .int (iI (to)), .int (iI (a)), .int (iI (b)), .int (iI (al))] (fun U => GX ω k q z M wk U U.heap)) (va_Qi (fun r_ (_ : Nat → Int) => (((0 ≤ to ∧ to < 12) ∧ (0 ≤ a ∧ a < 12) ∧ (0 ≤ b ∧ b < 12)) ∧ sAli q al = 1) ∧ r_ = iI (sCnt (fun i => sHint q al (M a.toNat i) (M b.toNat i)) 16)) (fun w_ t => CX ω k q z (mixR M to.toNat (fun i => sHint q al (M a.toNat i) (M b.toNat i)) 16) w_ t.heap) (Ax ω)) (vx_X (fun _ : Unit => True) (fun E _ t => ((¬ ((0 ≤ to ∧ to < 12) ∧ (0 ≤ a ∧ a < 12) ∧ (0 ≤ b ∧ b < 12)) ∧ E = nNSE) ∨ (((0 ≤ to ∧ to < 12) ∧ (0 ≤ a ∧ a < 12) ∧ (0 ≤ b ∧ b < 12)) ∧ ¬ (sAli q al = 1) ∧ E = nIAE)) ∧ CX ω k q z M wk t.heap) (Ax ω)) 4 24 (Ax ω) := by
  refine vx_ofW (cc := cX0_hint) (maxL := 8) (ret := (some .int)) (by decide +kernel) rfl ?_
  intro p e s m args below meth c s₁ B hml hnx hv
  obtain ⟨rfl, hG⟩ := hv
  have hx := B.exec
  have hb := B.bytes
  have hrt := B.returns
  have hts : ∀ w ∈ wsU, w.before _ s = true := fun w h => atoms_spec (ws := wsX0_hint) B.pre w (List.mem_cons_of_mem _ h)
  have hown : s.vm.findClass "NoiseRing" = some m.cls := findClass_of_methodNamed B.named
  have hlocks := B.notSynchronized
  have hS : va_S (Ax ω) s.heap s.heap [] := va_S.rf
  have hl := lv_entry ([.ref (ox ω), .int (iI (to)), .int (iI (a)), .int (iI (b)), .int (iI (al))]) (n := 8) (Nat.le_of_ble_eq_true rfl)
  rw [lg_entry_eq]
  generalize (lg_sl ([.ref (ox ω), .int (iI (to)), .int (iI (a)), .int (iI (b)), .int (iI (al))]) ++ List.replicate (8 - (lg_sl ([.ref (ox ω), .int (iI (to)), .int (iI (a)), .int (iI (b)), .int (iI (al))])).length) Slot.unset).toArray = ls at hl ⊢
  have hl : lv_has ls 8 [(0, .ref (ox ω)), (1, .int (iI (to))), (2, .int (iI (a))), (3, .int (iI (b))), (4, .int (iI (al)))] := hl
  have hB0 := hG.1
  refine lv_iload_n hx hb dX0_hint_0 rfl (lv_at hl 1 rfl) ?_
  refine vx_callv (vx_runS (As := [.int (iI (to))]) (rest := []) ⟨hx, hb, hml, hown, hts⟩ (n_needRegister l htr ω k q z M wk _ (to) (by omega) (by omega)) (va_cwS 1 hts (gU (hd := [.methodLink "NoiseRing" 33 yX0_needRegister, .static yX0_needRegister, .initialized "NoiseRing"]) (List.forall_mem_cons.mpr ⟨u155, List.forall_mem_cons.mpr ⟨u156, List.forall_mem_cons.mpr ⟨u29, fun _ h => by cases h⟩⟩⟩) u157) rfl rfl rfl (by decide +kernel) ⟨Nat.le_of_ble_eq_true rfl, Nat.le_of_ble_eq_true rfl⟩) (gx_Sh hG) rfl rfl hl.1 rfl (lv_room (Nat.le_of_ble_eq_true rfl)) dX0_hint_1 ⟨Nat.le_of_ble_eq_true rfl, Nat.le_of_ble_eq_true rfl⟩) hS (fun q9 _ h => h.elim) (fun q9 h => h.elim) (fun q9 _ h => h.elim) (fun E ce q9 u t H1 locs1 ht hvm hpx hBX hz hk hS1 hce hcv hcl => ?_) (fun u t H1 locs1 ht hvm hp1 hB hz hk hS1 => ?_)
  · exact vx_out (E := E) (fun x9 h9 => (hnx x9 h9).elim) hlocks hce hcv hcl (fun t1 ht1 ha1 => ⟨(), trivial, ⟨Or.inl ⟨by omega, hBX.2⟩, by rw [ht1]; exact hG.2.kept (fun a9 g9 => hk a9 g9 (fun f9 => f9))⟩, hS1.F ht1⟩) hS1.2.2 (Nat.le_of_ble_eq_true rfl) (Nat.le_of_ble_eq_true rfl)
  obtain rfl := ht.symm.trans hB
  clear hS
  have hS := hS1
  obtain ⟨to, rfl⟩ := Int.eq_ofNat_of_zero_le hp1.1
  refine lv_iload_n hx hb dX0_hint_4 rfl (lv_at hl 2 rfl) ?_
  refine vx_callv (vx_runS (As := [.int (iI (a))]) (rest := []) ⟨hx, hb, hml, hown, hts⟩ (n_needRegister l htr ω k q z M wk _ (a) (by omega) (by omega)) (va_cwS 1 hts (gU (hd := [.methodLink "NoiseRing" 33 yX0_needRegister, .static yX0_needRegister, .initialized "NoiseRing"]) (List.forall_mem_cons.mpr ⟨u155, List.forall_mem_cons.mpr ⟨u156, List.forall_mem_cons.mpr ⟨u29, fun _ h => by cases h⟩⟩⟩) u157) rfl rfl rfl (by decide +kernel) ⟨Nat.le_of_ble_eq_true rfl, Nat.le_of_ble_eq_true rfl⟩) (gx_Sh hG) rfl rfl hl.1 rfl (lv_room (Nat.le_of_ble_eq_true rfl)) dX0_hint_5 ⟨Nat.le_of_ble_eq_true rfl, Nat.le_of_ble_eq_true rfl⟩) hS (fun q9 _ h => h.elim) (fun q9 h => h.elim) (fun q9 _ h => h.elim) (fun E ce q9 u t H1 locs1 ht hvm hpx hBX hz hk hS1 hce hcv hcl => ?_) (fun u t H1 locs1 ht hvm hp5 hB hz hk hS1 => ?_)
  · exact vx_out (E := E) (fun x9 h9 => (hnx x9 h9).elim) hlocks hce hcv hcl (fun t1 ht1 ha1 => ⟨(), trivial, ⟨Or.inl ⟨by omega, hBX.2⟩, by rw [ht1]; exact hG.2.kept (fun a9 g9 => hk a9 g9 (fun f9 => f9))⟩, hS1.F ht1⟩) hS1.2.2 (Nat.le_of_ble_eq_true rfl) (Nat.le_of_ble_eq_true rfl)
  obtain rfl := ht.symm.trans hB
  clear hS
  have hS := hS1
  obtain ⟨a, rfl⟩ := Int.eq_ofNat_of_zero_le hp5.1
  refine lv_iload_n hx hb dX0_hint_8 rfl (lv_at hl 3 rfl) ?_
  refine vx_callv (vx_runS (As := [.int (iI (b))]) (rest := []) ⟨hx, hb, hml, hown, hts⟩ (n_needRegister l htr ω k q z M wk _ (b) (by omega) (by omega)) (va_cwS 1 hts (gU (hd := [.methodLink "NoiseRing" 33 yX0_needRegister, .static yX0_needRegister, .initialized "NoiseRing"]) (List.forall_mem_cons.mpr ⟨u155, List.forall_mem_cons.mpr ⟨u156, List.forall_mem_cons.mpr ⟨u29, fun _ h => by cases h⟩⟩⟩) u157) rfl rfl rfl (by decide +kernel) ⟨Nat.le_of_ble_eq_true rfl, Nat.le_of_ble_eq_true rfl⟩) (gx_Sh hG) rfl rfl hl.1 rfl (lv_room (Nat.le_of_ble_eq_true rfl)) dX0_hint_9 ⟨Nat.le_of_ble_eq_true rfl, Nat.le_of_ble_eq_true rfl⟩) hS (fun q9 _ h => h.elim) (fun q9 h => h.elim) (fun q9 _ h => h.elim) (fun E ce q9 u t H1 locs1 ht hvm hpx hBX hz hk hS1 hce hcv hcl => ?_) (fun u t H1 locs1 ht hvm hp9 hB hz hk hS1 => ?_)
  · exact vx_out (E := E) (fun x9 h9 => (hnx x9 h9).elim) hlocks hce hcv hcl (fun t1 ht1 ha1 => ⟨(), trivial, ⟨Or.inl ⟨by omega, hBX.2⟩, by rw [ht1]; exact hG.2.kept (fun a9 g9 => hk a9 g9 (fun f9 => f9))⟩, hS1.F ht1⟩) hS1.2.2 (Nat.le_of_ble_eq_true rfl) (Nat.le_of_ble_eq_true rfl)
  obtain rfl := ht.symm.trans hB
  clear hS
  have hS := hS1
  obtain ⟨b, rfl⟩ := Int.eq_ofNat_of_zero_le hp9.1
  refine lv_aload_n hx hb dX0_hint_12 rfl (lv_at hl 0 rfl) ?_
  refine lv_iload hx hb dX0_hint_13 (lv_at hl 4 rfl) ?_
  refine vp_callSi (va_Run.run (va_runV (As := [.int (iI (al))]) (rest := []) ⟨hx, hb, hml, hown, hts⟩ (c_isAlpha l ω k q z M wk (al) hq1 hq2 (by omega) (by omega)) (cwV 1 hts (gU (hd := [.methodLink "NoiseRing" 72 yX0_isAlpha, .instanceMethod yX0_isAlpha, .selects "NoiseRing" yX0_isAlpha yX0_isAlpha, .initialized "NoiseRing"]) (List.forall_mem_cons.mpr ⟨u247, List.forall_mem_cons.mpr ⟨u248, List.forall_mem_cons.mpr ⟨u11, List.forall_mem_cons.mpr ⟨u29, fun _ h => by cases h⟩⟩⟩⟩) u249) rfl rfl rfl (by decide +kernel) ⟨Nat.le_of_ble_eq_true rfl, Nat.le_of_ble_eq_true rfl⟩) (gx_V hG) rfl rfl hl.1 rfl (lv_room (Nat.le_of_ble_eq_true rfl)) dX0_hint_15 ⟨Nat.le_of_ble_eq_true rfl, Nat.le_of_ble_eq_true rfl⟩)) (fun r15 hr15 => ?_)
  subst hr15
  have hai : sAli q al = 0 ∨ sAli q al = 1 := by unfold sAli; split <;> omega
  refine vx_callv (vx_runS (As := [.int (iI ((sAli q (al))))]) (rest := []) ⟨hx, hb, hml, hown, hts⟩ (n_needArgument l htr ω k q z M wk _ ((sAli q (al))) (by omega) (by omega)) (va_cwS 1 hts (gU (hd := [.methodLink "NoiseRing" 25 yX0_needArgument, .static yX0_needArgument, .initialized "NoiseRing"]) (List.forall_mem_cons.mpr ⟨u90, List.forall_mem_cons.mpr ⟨u91, List.forall_mem_cons.mpr ⟨u29, fun _ h => by cases h⟩⟩⟩) u92) rfl rfl rfl (by decide +kernel) ⟨Nat.le_of_ble_eq_true rfl, Nat.le_of_ble_eq_true rfl⟩) (gx_Sh hG) rfl rfl hl.1 rfl (lv_room (Nat.le_of_ble_eq_true rfl)) dX0_hint_18 ⟨Nat.le_of_ble_eq_true rfl, Nat.le_of_ble_eq_true rfl⟩) hS (fun q9 _ h => h.elim) (fun q9 h => h.elim) (fun q9 _ h => h.elim) (fun E ce q9 u t H1 locs1 ht hvm hpx hBX hz hk hS1 hce hcv hcl => ?_) (fun u t H1 locs1 ht hvm hp18 hB hz hk hS1 => ?_)
  · exact vx_out (E := E) (fun x9 h9 => (hnx x9 h9).elim) hlocks hce hcv hcl (fun t1 ht1 ha1 => ⟨(), trivial, ⟨Or.inr ⟨⟨by omega, by omega, by omega⟩, by omega, hBX.2⟩, by rw [ht1]; exact hG.2.kept (fun a9 g9 => hk a9 g9 (fun f9 => f9))⟩, hS1.F ht1⟩) hS1.2.2 (Nat.le_of_ble_eq_true rfl) (Nat.le_of_ble_eq_true rfl)
  obtain rfl := ht.symm.trans hB
  clear hS
  have hS := hS1
  have hal := sAl_of (q := q) (a := al) (by omega)
  have hal2 := sAl_lt (q := q) (by omega) hal
  have hg : ∀ i, i < 16 → 0 ≤ (fun i => sHint q al (M a i) (M b i)) i ∧ (fun i => sHint q al (M a i) (M b i)) i < q := fun i hi9 => sHint_lt (by omega)
  refine ix_iconst hx hb dX0_hint_21 ?_
  refine lv_istore (lv' := [(5, .int (iI (0))), (0, .ref (ox ω)), (1, .int (iI (to))), (2, .int (iI (a))), (3, .int (iI (b))), (4, .int (iI (al)))]) hx hb dX0_hint_22 hl (by decide) rfl (fun ls hl => ?_)
  refine ix_loopH (I := fun j ls H locs => lv_has ls 8 [(5, .int (iI ((j : Nat)))), (0, .ref (ox ω)), (1, .int (iI (to))), (2, .int (iI (a))), (3, .int (iI (b))), (4, .int (iI (al)))] ∧ GX ω k q z (mixR M to (fun i => sHint q al (M a i) (M b i)) (j)) (wk) s H ∧ va_S (Ax ω) s.heap H locs) 16 0 (by omega) ⟨lv_sub hl [0, 1, 2, 3, 4, 5] rfl, (by rw [mixR_0]; exact hG), hS⟩ (fun ls H locs hI => ?_) (fun j ls H locs hj hI ih24 => ?_)
  · obtain ⟨hl, hG, hS⟩ := hI
    have hl : lv_has ls 8 [(5, .int (iI ((16 : Nat)))), (0, .ref (ox ω)), (1, .int (iI (to))), (2, .int (iI (a))), (3, .int (iI (b))), (4, .int (iI (al)))] := hl
    have hM2 := mixR_in (to := to) (n := 16) hM hg
    refine lv_iload hx hb dX0_hint_24 (lv_at hl 0 rfl) ?_
    refine ix_bipush hx hb (by decide) dX0_hint_26 ?_
    refine ix_icmp_ge (tgt := 100) hx hb (by omega) (by omega) (by omega) (by omega) dX0_hint_28 (by decide) (fun h28 => ?_) (fun h28 => absurd h28 (by omega))
    refine lv_aload_n hx hb dX0_hint_100 rfl (lv_at hl 1 rfl) ?_
    refine gx_get hx hb hts hown hG 0 (by decide) rfl u55 dX0_hint_101 ?_
    refine lv_iload_n hx hb dX0_hint_104 rfl (lv_at hl 2 rfl) ?_
    refine gx_row (r := to) hx hb hG (by omega) dX0_hint_105 ?_
    refine vp_callSi (va_Run.run (va_runS (As := [.ref (oR ω (to))]) (rest := []) ⟨hx, hb, hml, hown, hts⟩ (c_notZero l ω k q z (mixR M to (fun i => sHint q al (M a i) (M b i)) (16)) (wk) (to) (by omega) hq1 hq2 hM2) (va_cwS 1 hts (gU (hd := [.methodLink "NoiseRing" 69 yX0_notZero, .static yX0_notZero, .initialized "NoiseRing"]) (List.forall_mem_cons.mpr ⟨u79, List.forall_mem_cons.mpr ⟨u80, List.forall_mem_cons.mpr ⟨u29, fun _ h => by cases h⟩⟩⟩) u81) rfl rfl rfl (by decide +kernel) ⟨Nat.le_of_ble_eq_true rfl, Nat.le_of_ble_eq_true rfl⟩) (gx_S hG) rfl rfl hl.1 rfl (lv_room (Nat.le_of_ble_eq_true rfl)) dX0_hint_106 ⟨Nat.le_of_ble_eq_true rfl, Nat.le_of_ble_eq_true rfl⟩)) (fun r106 hr106 => ?_)
    subst hr106
    refine W.widen (k := 4) (n := 24) (Nat.le_of_ble_eq_true rfl) (Nat.le_of_ble_eq_true rfl) ?_
    exact vx_ret (W.iret hx hb hrt (fun t ht hW => ⟨⟨_, wk, rfl, ⟨by omega, congrArg iI (sCnt_eq (fun i hi9 => mixR_row hi9))⟩, by have h9 := hG.2; rw [← ht] at h9; exact h9⟩, hS.F ht⟩) hS.2.2 dX0_hint_109)
  · obtain ⟨hl, hG, hS⟩ := hI
    have hl : lv_has ls 8 [(5, .int (iI ((j : Nat)))), (0, .ref (ox ω)), (1, .int (iI (to))), (2, .int (iI (a))), (3, .int (iI (b))), (4, .int (iI (al)))] := hl
    have hm := hM a j (by omega) hj
    have hmb := hM b j (by omega) hj
    have ho1 := Int.emod_nonneg (M a j + M b j) (show q ≠ 0 by omega)
    have ho2 := Int.emod_lt_of_pos (M a j + M b j) (show 0 < q by omega)
    have hp1 := sPart_lt (q := q) (x := M a j) (a := al) hm.1 hm.2 hal2.1 hal2.2
    have hp2 := sPart_lt (q := q) (x := (M a j + M b j) % q) (a := al) ho1 ho2 hal2.1 hal2.2
    refine lv_iload hx hb dX0_hint_24 (lv_at hl 0 rfl) ?_
    refine ix_bipush hx hb (by decide) dX0_hint_26 ?_
    refine ix_icmp_ge (tgt := 100) hx hb (by omega) (by omega) (by omega) (by omega) dX0_hint_28 (by decide) (fun h28 => absurd h28 (by omega)) (fun h28 => ?_)
    refine lv_aload_n hx hb dX0_hint_31 rfl (lv_at hl 1 rfl) ?_
    refine gx_get hx hb hts hown hG 0 (by decide) rfl u55 dX0_hint_32 ?_
    refine lv_iload_n hx hb dX0_hint_35 rfl (lv_at hl 3 rfl) ?_
    refine gx_row (r := a) hx hb hG (by omega) dX0_hint_36 ?_
    refine lv_iload hx hb dX0_hint_37 (lv_at hl 0 rfl) ?_
    refine gx_ild (r := a) (i := j) hx hb hG (by omega) (by omega) dX0_hint_39 ?_
    refine wx_i (congrArg iI (mixR_at M to (fun i => sHint q al (M a i) (M b i)) (a) j)) ?_
    refine lv_istore (lv' := [(6, .int (iI (M (a) (j)))), (5, .int (iI ((j : Nat)))), (0, .ref (ox ω)), (1, .int (iI (to))), (2, .int (iI (a))), (3, .int (iI (b))), (4, .int (iI (al)))]) hx hb dX0_hint_40 hl (by decide) rfl (fun ls hl => ?_)
    refine lv_iload hx hb dX0_hint_42 (lv_at hl 0 rfl) ?_
    refine lv_aload_n hx hb dX0_hint_44 rfl (lv_at hl 2 rfl) ?_
    refine gx_get hx hb hts hown hG 0 (by decide) rfl u55 dX0_hint_45 ?_
    refine lv_iload_n hx hb dX0_hint_48 rfl (lv_at hl 5 rfl) ?_
    refine gx_row (r := b) hx hb hG (by omega) dX0_hint_49 ?_
    refine lv_iload hx hb dX0_hint_50 (lv_at hl 1 rfl) ?_
    refine gx_ild (r := b) (i := j) hx hb hG (by omega) (by omega) dX0_hint_52 ?_
    refine wx_i (congrArg iI (mixR_at M to (fun i => sHint q al (M a i) (M b i)) (b) j)) ?_
    refine ix_iadd hx hb dX0_hint_53 ?_
    refine lv_aload_n hx hb dX0_hint_54 rfl (lv_at hl 2 rfl) ?_
    refine gx_get hx hb hts hown hG 3 (by decide) rfl u58 dX0_hint_55 ?_
    refine ix_irem hx hb (by omega) (by omega) (by omega) (by omega) dX0_hint_58 ?_
    refine lv_istore (lv' := [(7, .int (iI (((M (a) (j) + M (b) (j)) % q)))), (6, .int (iI (M (a) (j)))), (5, .int (iI ((j : Nat)))), (0, .ref (ox ω)), (1, .int (iI (to))), (2, .int (iI (a))), (3, .int (iI (b))), (4, .int (iI (al)))]) hx hb dX0_hint_59 hl (by decide) rfl (fun ls hl => ?_)
    refine lv_aload_n hx hb dX0_hint_61 rfl (lv_at hl 3 rfl) ?_
    refine gx_get hx hb hts hown hG 0 (by decide) rfl u55 dX0_hint_62 ?_
    refine lv_iload_n hx hb dX0_hint_65 rfl (lv_at hl 4 rfl) ?_
    refine gx_row (r := to) hx hb hG (by omega) dX0_hint_66 ?_
    refine lv_iload hx hb dX0_hint_67 (lv_at hl 2 rfl) ?_
    refine lv_aload_n hx hb dX0_hint_69 rfl (lv_at hl 3 rfl) ?_
    refine lv_iload hx hb dX0_hint_70 (lv_at hl 1 rfl) ?_
    refine lv_iload hx hb dX0_hint_72 (lv_at hl 7 rfl) ?_
    refine vp_callSi (va_Run.run (va_runV (As := [.int (iI (M (a) (j))), .int (iI (al))]) (rest := [.int (iI ((j : Nat))), .ref (oR ω (to))]) ⟨hx, hb, hml, hown, hts⟩ (c_partOf l ω k q z (mixR M to (fun i => sHint q al (M a i) (M b i)) (j)) (wk) (M (a) (j)) (al) hq1 hq2 (by omega) (by omega) (by omega) (by omega) hal.2.1) (cwV 2 hts (gU (hd := [.methodLink "NoiseRing" 76 yX0_partOf, .instanceMethod yX0_partOf, .selects "NoiseRing" yX0_partOf yX0_partOf, .initialized "NoiseRing"]) (List.forall_mem_cons.mpr ⟨u250, List.forall_mem_cons.mpr ⟨u251, List.forall_mem_cons.mpr ⟨u12, List.forall_mem_cons.mpr ⟨u29, fun _ h => by cases h⟩⟩⟩⟩) u252) rfl rfl rfl (by decide +kernel) ⟨Nat.le_of_ble_eq_true rfl, Nat.le_of_ble_eq_true rfl⟩) (gx_V hG) rfl rfl hl.1 rfl (lv_room (Nat.le_of_ble_eq_true rfl)) dX0_hint_74 ⟨Nat.le_of_ble_eq_true rfl, Nat.le_of_ble_eq_true rfl⟩)) (fun r74 hr74 => ?_)
    subst hr74
    refine lv_aload_n hx hb dX0_hint_77 rfl (lv_at hl 3 rfl) ?_
    refine lv_iload hx hb dX0_hint_78 (lv_at hl 0 rfl) ?_
    refine lv_iload hx hb dX0_hint_80 (lv_at hl 7 rfl) ?_
    refine vp_callSi (va_Run.run (va_runV (As := [.int (iI (((M (a) (j) + M (b) (j)) % q))), .int (iI (al))]) (rest := [.int (iI ((sPart q (M (a) (j)) (al)))), .int (iI ((j : Nat))), .ref (oR ω (to))]) ⟨hx, hb, hml, hown, hts⟩ (c_partOf l ω k q z (mixR M to (fun i => sHint q al (M a i) (M b i)) (j)) (wk) (((M (a) (j) + M (b) (j)) % q)) (al) hq1 hq2 (by omega) (by omega) (by omega) (by omega) hal.2.1) (cwV 2 hts (gU (hd := [.methodLink "NoiseRing" 76 yX0_partOf, .instanceMethod yX0_partOf, .selects "NoiseRing" yX0_partOf yX0_partOf, .initialized "NoiseRing"]) (List.forall_mem_cons.mpr ⟨u250, List.forall_mem_cons.mpr ⟨u251, List.forall_mem_cons.mpr ⟨u12, List.forall_mem_cons.mpr ⟨u29, fun _ h => by cases h⟩⟩⟩⟩) u252) rfl rfl rfl (by decide +kernel) ⟨Nat.le_of_ble_eq_true rfl, Nat.le_of_ble_eq_true rfl⟩) (gx_V hG) rfl rfl hl.1 rfl (lv_room (Nat.le_of_ble_eq_true rfl)) dX0_hint_82 ⟨Nat.le_of_ble_eq_true rfl, Nat.le_of_ble_eq_true rfl⟩)) (fun r82 hr82 => ?_)
    subst hr82
    refine ix_icmp_eq (tgt := 92) hx hb (by omega) (by omega) (by omega) (by omega) dX0_hint_85 (by decide) (fun h85 => ?_) (fun h85 => ?_)
    · skip
      refine ix_iconst hx hb dX0_hint_92 ?_
      refine wx_i (congrArg iI (show 0 = (fun i => sHint q al (M a i) (M b i)) j from ?_)) ?_
      · show _ = sHint q al (M a j) (M b j)
        unfold sHint
        first | rw [if_pos h85] | rw [if_neg h85]
      refine gx_ist (r := to) (i := j) hx hb hG hS (by omega) (by omega) dX0_hint_93 (fun H1 locs1 hG hS => ?_)
      refine lv_iinc (k := 2) (v := iI ((j : Nat) + 1)) (lv' := [(5, .int (iI ((j : Nat) + 1))), (7, .int (iI (((M (a) (j) + M (b) (j)) % q)))), (6, .int (iI (M (a) (j)))), (0, .ref (ox ω)), (1, .int (iI (to))), (2, .int (iI (a))), (3, .int (iI (b))), (4, .int (iI (al)))]) hx hb dX0_hint_94 hl rfl (iI_add _ _) (by decide) rfl (fun ls hl => ?_)
      refine lv_goto (tgt := 24) hx hb dX0_hint_97 (by decide) ?_
      exact ih24 ls _ _ ⟨lv_sub hl [0, 3, 4, 5, 6, 7] rfl, (by rw [← mixR_s]; exact hG), hS⟩
    · skip
      refine ix_iconst hx hb dX0_hint_88 ?_
      refine lv_goto (tgt := 93) hx hb dX0_hint_89 (by decide) ?_
      refine wx_i (congrArg iI (show 1 = (fun i => sHint q al (M a i) (M b i)) j from ?_)) ?_
      · show _ = sHint q al (M a j) (M b j)
        unfold sHint
        first | rw [if_pos h85] | rw [if_neg h85]
      refine gx_ist (r := to) (i := j) hx hb hG hS (by omega) (by omega) dX0_hint_93 (fun H1 locs1 hG hS => ?_)
      refine lv_iinc (k := 2) (v := iI ((j : Nat) + 1)) (lv' := [(5, .int (iI ((j : Nat) + 1))), (7, .int (iI (((M (a) (j) + M (b) (j)) % q)))), (6, .int (iI (M (a) (j)))), (0, .ref (ox ω)), (1, .int (iI (to))), (2, .int (iI (a))), (3, .int (iI (b))), (4, .int (iI (al)))]) hx hb dX0_hint_94 hl rfl (iI_add _ _) (by decide) rfl (fun ls hl => ?_)
      refine lv_goto (tgt := 24) hx hb dX0_hint_97 (by decide) ?_
      exact ih24 ls _ _ ⟨lv_sub hl [0, 3, 4, 5, 6, 7] rfl, (by rw [← mixR_s]; exact hG), hS⟩

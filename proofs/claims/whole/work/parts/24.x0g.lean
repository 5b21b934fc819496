/-! The class's public methods, by program (wip/gen/rw2.py). -/
set_option maxHeartbeats 4000000 in
set_option maxRecDepth 100000 in
theorem p_use (l : Launch) (htr : l.stackTraces = false) (ω : WX) (k q z : Int) (M : Nat → Nat → Int) (wk : Nat → Int) (to a b al : Int) (to1 : -2147483648 ≤ to) (to2 : to < 2147483648) (a1 : -2147483648 ≤ a) (a2 : a < 2147483648) (b1 : -2147483648 ≤ b) (b2 : b < 2147483648) (al1 : -2147483648 ≤ al) (al2 : al < 2147483648) (hq1 : 3329 ≤ q) (hq2 : q ≤ 8380417) (hM : ∀ r i, r < 12 → i < 16 → 0 ≤ M r i ∧ M r i < q) : vx_Met l yX0_use wsX0_use ({ frames := 7, cells := 4, slots := 24, locals := 102 }) (va_Pc [.ref (ox ω), .int (iI (to)), .int (iI (a)), .int (iI (b)), .int (iI (al))] (fun U => GX ω k q z M wk U U.heap)) (va_Qi (fun r_ (_ : Nat → Int) => (((0 ≤ to ∧ to < 12) ∧ (0 ≤ a ∧ a < 12) ∧ (0 ≤ b ∧ b < 12)) ∧ sAli q al = 1) ∧ r_ = iI (sChg q al (M a.toNat) (M b.toNat) 16)) (fun w_ t => CX ω k q z (mixR M to.toNat (fun i => sUse q al (M a.toNat i) (M b.toNat i)) 16) w_ t.heap) (Ax ω)) (vx_X (fun _ : Unit => True) (fun E _ t => ((¬ ((0 ≤ to ∧ to < 12) ∧ (0 ≤ a ∧ a < 12) ∧ (0 ≤ b ∧ b < 12)) ∧ E = nNSE) ∨ (((0 ≤ to ∧ to < 12) ∧ (0 ≤ a ∧ a < 12) ∧ (0 ≤ b ∧ b < 12)) ∧ ¬ (sAli q al = 1) ∧ E = nIAE)) ∧ CX ω k q z M wk t.heap) (Ax ω)) 4 24 (Ax ω) := by
  refine vx_ofW (cc := cX0_use) (maxL := 10) (ret := (some .int)) (by decide +kernel) rfl ?_
  intro p e s m args below meth c s₁ B hml hnx hv
  obtain ⟨rfl, hG⟩ := hv
  have hx := B.exec
  have hb := B.bytes
  have hrt := B.returns
  have hts : ∀ w ∈ wsU, w.before _ s = true := fun w h => atoms_spec (ws := wsX0_use) B.pre w (List.mem_cons_of_mem _ h)
  have hown : s.vm.findClass "NoiseRing" = some m.cls := findClass_of_methodNamed B.named
  have hlocks := B.notSynchronized
  have hS : va_S (Ax ω) s.heap s.heap [] := va_S.rf
  have hl := lv_entry ([.ref (ox ω), .int (iI (to)), .int (iI (a)), .int (iI (b)), .int (iI (al))]) (n := 10) (Nat.le_of_ble_eq_true rfl)
  rw [lg_entry_eq]
  generalize (lg_sl ([.ref (ox ω), .int (iI (to)), .int (iI (a)), .int (iI (b)), .int (iI (al))]) ++ List.replicate (10 - (lg_sl ([.ref (ox ω), .int (iI (to)), .int (iI (a)), .int (iI (b)), .int (iI (al))])).length) Slot.unset).toArray = ls at hl ⊢
  have hl : lv_has ls 10 [(0, .ref (ox ω)), (1, .int (iI (to))), (2, .int (iI (a))), (3, .int (iI (b))), (4, .int (iI (al)))] := hl
  have hB0 := hG.1
  refine lv_iload_n hx hb dX0_use_0 rfl (lv_at hl 1 rfl) ?_
  refine vx_callv (vx_runS (As := [.int (iI (to))]) (rest := []) ⟨hx, hb, hml, hown, hts⟩ (n_needRegister l htr ω k q z M wk _ (to) (by omega) (by omega)) (va_cwS 1 hts (gU (hd := [.methodLink "NoiseRing" 33 yX0_needRegister, .static yX0_needRegister, .initialized "NoiseRing"]) (List.forall_mem_cons.mpr ⟨u155, List.forall_mem_cons.mpr ⟨u156, List.forall_mem_cons.mpr ⟨u29, fun _ h => by cases h⟩⟩⟩) u157) rfl rfl rfl (by decide +kernel) ⟨Nat.le_of_ble_eq_true rfl, Nat.le_of_ble_eq_true rfl⟩) (gx_Sh hG) rfl rfl hl.1 rfl (lv_room (Nat.le_of_ble_eq_true rfl)) dX0_use_1 ⟨Nat.le_of_ble_eq_true rfl, Nat.le_of_ble_eq_true rfl⟩) hS (fun q9 _ h => h.elim) (fun q9 h => h.elim) (fun q9 _ h => h.elim) (fun E ce q9 u t H1 locs1 ht hvm hpx hBX hz hk hS1 hce hcv hcl => ?_) (fun u t H1 locs1 ht hvm hp1 hB hz hk hS1 => ?_)
  · exact vx_out (E := E) (fun x9 h9 => (hnx x9 h9).elim) hlocks hce hcv hcl (fun t1 ht1 ha1 => ⟨(), trivial, ⟨Or.inl ⟨by omega, hBX.2⟩, by rw [ht1]; exact hG.2.kept (fun a9 g9 => hk a9 g9 (fun f9 => f9))⟩, hS1.F ht1⟩) hS1.2.2 (Nat.le_of_ble_eq_true rfl) (Nat.le_of_ble_eq_true rfl)
  obtain rfl := ht.symm.trans hB
  clear hS
  have hS := hS1
  obtain ⟨to, rfl⟩ := Int.eq_ofNat_of_zero_le hp1.1
  refine lv_iload_n hx hb dX0_use_4 rfl (lv_at hl 2 rfl) ?_
  refine vx_callv (vx_runS (As := [.int (iI (a))]) (rest := []) ⟨hx, hb, hml, hown, hts⟩ (n_needRegister l htr ω k q z M wk _ (a) (by omega) (by omega)) (va_cwS 1 hts (gU (hd := [.methodLink "NoiseRing" 33 yX0_needRegister, .static yX0_needRegister, .initialized "NoiseRing"]) (List.forall_mem_cons.mpr ⟨u155, List.forall_mem_cons.mpr ⟨u156, List.forall_mem_cons.mpr ⟨u29, fun _ h => by cases h⟩⟩⟩) u157) rfl rfl rfl (by decide +kernel) ⟨Nat.le_of_ble_eq_true rfl, Nat.le_of_ble_eq_true rfl⟩) (gx_Sh hG) rfl rfl hl.1 rfl (lv_room (Nat.le_of_ble_eq_true rfl)) dX0_use_5 ⟨Nat.le_of_ble_eq_true rfl, Nat.le_of_ble_eq_true rfl⟩) hS (fun q9 _ h => h.elim) (fun q9 h => h.elim) (fun q9 _ h => h.elim) (fun E ce q9 u t H1 locs1 ht hvm hpx hBX hz hk hS1 hce hcv hcl => ?_) (fun u t H1 locs1 ht hvm hp5 hB hz hk hS1 => ?_)
  · exact vx_out (E := E) (fun x9 h9 => (hnx x9 h9).elim) hlocks hce hcv hcl (fun t1 ht1 ha1 => ⟨(), trivial, ⟨Or.inl ⟨by omega, hBX.2⟩, by rw [ht1]; exact hG.2.kept (fun a9 g9 => hk a9 g9 (fun f9 => f9))⟩, hS1.F ht1⟩) hS1.2.2 (Nat.le_of_ble_eq_true rfl) (Nat.le_of_ble_eq_true rfl)
  obtain rfl := ht.symm.trans hB
  clear hS
  have hS := hS1
  obtain ⟨a, rfl⟩ := Int.eq_ofNat_of_zero_le hp5.1
  refine lv_iload_n hx hb dX0_use_8 rfl (lv_at hl 3 rfl) ?_
  refine vx_callv (vx_runS (As := [.int (iI (b))]) (rest := []) ⟨hx, hb, hml, hown, hts⟩ (n_needRegister l htr ω k q z M wk _ (b) (by omega) (by omega)) (va_cwS 1 hts (gU (hd := [.methodLink "NoiseRing" 33 yX0_needRegister, .static yX0_needRegister, .initialized "NoiseRing"]) (List.forall_mem_cons.mpr ⟨u155, List.forall_mem_cons.mpr ⟨u156, List.forall_mem_cons.mpr ⟨u29, fun _ h => by cases h⟩⟩⟩) u157) rfl rfl rfl (by decide +kernel) ⟨Nat.le_of_ble_eq_true rfl, Nat.le_of_ble_eq_true rfl⟩) (gx_Sh hG) rfl rfl hl.1 rfl (lv_room (Nat.le_of_ble_eq_true rfl)) dX0_use_9 ⟨Nat.le_of_ble_eq_true rfl, Nat.le_of_ble_eq_true rfl⟩) hS (fun q9 _ h => h.elim) (fun q9 h => h.elim) (fun q9 _ h => h.elim) (fun E ce q9 u t H1 locs1 ht hvm hpx hBX hz hk hS1 hce hcv hcl => ?_) (fun u t H1 locs1 ht hvm hp9 hB hz hk hS1 => ?_)
  · exact vx_out (E := E) (fun x9 h9 => (hnx x9 h9).elim) hlocks hce hcv hcl (fun t1 ht1 ha1 => ⟨(), trivial, ⟨Or.inl ⟨by omega, hBX.2⟩, by rw [ht1]; exact hG.2.kept (fun a9 g9 => hk a9 g9 (fun f9 => f9))⟩, hS1.F ht1⟩) hS1.2.2 (Nat.le_of_ble_eq_true rfl) (Nat.le_of_ble_eq_true rfl)
  obtain rfl := ht.symm.trans hB
  clear hS
  have hS := hS1
  obtain ⟨b, rfl⟩ := Int.eq_ofNat_of_zero_le hp9.1
  refine lv_aload_n hx hb dX0_use_12 rfl (lv_at hl 0 rfl) ?_
  refine lv_iload hx hb dX0_use_13 (lv_at hl 4 rfl) ?_
  refine vp_callSi (va_Run.run (va_runV (As := [.int (iI (al))]) (rest := []) ⟨hx, hb, hml, hown, hts⟩ (c_isAlpha l ω k q z M wk (al) hq1 hq2 (by omega) (by omega)) (cwV 1 hts (gU (hd := [.methodLink "NoiseRing" 72 yX0_isAlpha, .instanceMethod yX0_isAlpha, .selects "NoiseRing" yX0_isAlpha yX0_isAlpha, .initialized "NoiseRing"]) (List.forall_mem_cons.mpr ⟨u247, List.forall_mem_cons.mpr ⟨u248, List.forall_mem_cons.mpr ⟨u11, List.forall_mem_cons.mpr ⟨u29, fun _ h => by cases h⟩⟩⟩⟩) u249) rfl rfl rfl (by decide +kernel) ⟨Nat.le_of_ble_eq_true rfl, Nat.le_of_ble_eq_true rfl⟩) (gx_V hG) rfl rfl hl.1 rfl (lv_room (Nat.le_of_ble_eq_true rfl)) dX0_use_15 ⟨Nat.le_of_ble_eq_true rfl, Nat.le_of_ble_eq_true rfl⟩)) (fun r15 hr15 => ?_)
  subst hr15
  have hai : sAli q al = 0 ∨ sAli q al = 1 := by unfold sAli; split <;> omega
  refine vx_callv (vx_runS (As := [.int (iI ((sAli q (al))))]) (rest := []) ⟨hx, hb, hml, hown, hts⟩ (n_needArgument l htr ω k q z M wk _ ((sAli q (al))) (by omega) (by omega)) (va_cwS 1 hts (gU (hd := [.methodLink "NoiseRing" 25 yX0_needArgument, .static yX0_needArgument, .initialized "NoiseRing"]) (List.forall_mem_cons.mpr ⟨u90, List.forall_mem_cons.mpr ⟨u91, List.forall_mem_cons.mpr ⟨u29, fun _ h => by cases h⟩⟩⟩) u92) rfl rfl rfl (by decide +kernel) ⟨Nat.le_of_ble_eq_true rfl, Nat.le_of_ble_eq_true rfl⟩) (gx_Sh hG) rfl rfl hl.1 rfl (lv_room (Nat.le_of_ble_eq_true rfl)) dX0_use_18 ⟨Nat.le_of_ble_eq_true rfl, Nat.le_of_ble_eq_true rfl⟩) hS (fun q9 _ h => h.elim) (fun q9 h => h.elim) (fun q9 _ h => h.elim) (fun E ce q9 u t H1 locs1 ht hvm hpx hBX hz hk hS1 hce hcv hcl => ?_) (fun u t H1 locs1 ht hvm hp18 hB hz hk hS1 => ?_)
  · exact vx_out (E := E) (fun x9 h9 => (hnx x9 h9).elim) hlocks hce hcv hcl (fun t1 ht1 ha1 => ⟨(), trivial, ⟨Or.inr ⟨⟨by omega, by omega, by omega⟩, by omega, hBX.2⟩, by rw [ht1]; exact hG.2.kept (fun a9 g9 => hk a9 g9 (fun f9 => f9))⟩, hS1.F ht1⟩) hS1.2.2 (Nat.le_of_ble_eq_true rfl) (Nat.le_of_ble_eq_true rfl)
  obtain rfl := ht.symm.trans hB
  clear hS
  have hS := hS1
  have hal := sAl_of (q := q) (a := al) (by omega)
  have hal2 := sAl_lt (q := q) (by omega) hal
  refine ix_iconst hx hb dX0_use_21 ?_
  refine lv_istore (lv' := [(5, .int (iI (0))), (0, .ref (ox ω)), (1, .int (iI (to))), (2, .int (iI (a))), (3, .int (iI (b))), (4, .int (iI (al)))]) hx hb dX0_use_22 hl (by decide) rfl (fun ls hl => ?_)
  refine ix_iconst hx hb dX0_use_24 ?_
  refine lv_istore (lv' := [(6, .int (iI (0))), (5, .int (iI (0))), (0, .ref (ox ω)), (1, .int (iI (to))), (2, .int (iI (a))), (3, .int (iI (b))), (4, .int (iI (al)))]) hx hb dX0_use_25 hl (by decide) rfl (fun ls hl => ?_)
  refine ix_loopH (I := fun j ls H locs => lv_has ls 10 [(6, .int (iI ((j : Nat)))), (5, .int (iI (sChg q al (M a) (M b) (j)))), (0, .ref (ox ω)), (1, .int (iI (to))), (2, .int (iI (a))), (3, .int (iI (b))), (4, .int (iI (al)))] ∧ GX ω k q z (mixR M to (fun i => sUse q al (M a i) (M b i)) (j)) (wk) s H ∧ va_S (Ax ω) s.heap H locs) 16 0 (by omega) ⟨lv_sub hl [0, 1, 2, 3, 4, 5, 6] rfl, (by rw [mixR_0]; exact hG), hS⟩ (fun ls H locs hI => ?_) (fun j ls H locs hj hI ih27 => ?_)
  · obtain ⟨hl, hG, hS⟩ := hI
    have hl : lv_has ls 10 [(6, .int (iI ((16 : Nat)))), (5, .int (iI (sChg q al (M a) (M b) (16)))), (0, .ref (ox ω)), (1, .int (iI (to))), (2, .int (iI (a))), (3, .int (iI (b))), (4, .int (iI (al)))] := hl
    refine lv_iload hx hb dX0_use_27 (lv_at hl 0 rfl) ?_
    refine ix_bipush hx hb (by decide) dX0_use_29 ?_
    refine ix_icmp_ge (tgt := 109) hx hb (by omega) (by omega) (by omega) (by omega) dX0_use_31 (by decide) (fun h31 => ?_) (fun h31 => absurd h31 (by omega))
    refine lv_iload hx hb dX0_use_109 (lv_at hl 1 rfl) ?_
    refine W.widen (k := 4) (n := 24) (Nat.le_of_ble_eq_true rfl) (Nat.le_of_ble_eq_true rfl) ?_
    exact vx_ret (W.iret hx hb hrt (fun t ht hW => ⟨⟨_, wk, rfl, ⟨by omega, congrArg iI (rfl)⟩, by have h9 := hG.2; rw [← ht] at h9; exact h9⟩, hS.F ht⟩) hS.2.2 dX0_use_111)
  · obtain ⟨hl, hG, hS⟩ := hI
    have hl : lv_has ls 10 [(6, .int (iI ((j : Nat)))), (5, .int (iI (sChg q al (M a) (M b) (j)))), (0, .ref (ox ω)), (1, .int (iI (to))), (2, .int (iI (a))), (3, .int (iI (b))), (4, .int (iI (al)))] := hl
    have hm := hM a j (by omega) hj
    have hmb := hM b j (by omega) hj
    have hp1 := sPart_lt (q := q) (x := M a j) (a := al) hm.1 hm.2 hal2.1 hal2.2
    have hv1 := sMov_lt (q := q) (x := M a j) (a := al) (by omega) (by omega) hal.2.2
    have hch := sChg_in q al (M a) (M b) j
    refine lv_iload hx hb dX0_use_27 (lv_at hl 0 rfl) ?_
    refine ix_bipush hx hb (by decide) dX0_use_29 ?_
    refine ix_icmp_ge (tgt := 109) hx hb (by omega) (by omega) (by omega) (by omega) dX0_use_31 (by decide) (fun h31 => absurd h31 (by omega)) (fun h31 => ?_)
    refine lv_aload_n hx hb dX0_use_34 rfl (lv_at hl 2 rfl) ?_
    refine gx_get hx hb hts hown hG 0 (by decide) rfl u55 dX0_use_35 ?_
    refine lv_iload_n hx hb dX0_use_38 rfl (lv_at hl 4 rfl) ?_
    refine gx_row (r := a) hx hb hG (by omega) dX0_use_39 ?_
    refine lv_iload hx hb dX0_use_40 (lv_at hl 0 rfl) ?_
    refine gx_ild (r := a) (i := j) hx hb hG (by omega) (by omega) dX0_use_42 ?_
    refine wx_i (congrArg iI (mixR_at M to (fun i => sUse q al (M a i) (M b i)) (a) j)) ?_
    refine lv_istore (lv' := [(7, .int (iI (M (a) (j)))), (6, .int (iI ((j : Nat)))), (5, .int (iI (sChg q al (M a) (M b) (j)))), (0, .ref (ox ω)), (1, .int (iI (to))), (2, .int (iI (a))), (3, .int (iI (b))), (4, .int (iI (al)))]) hx hb dX0_use_43 hl (by decide) rfl (fun ls hl => ?_)
    refine lv_aload_n hx hb dX0_use_45 rfl (lv_at hl 3 rfl) ?_
    refine lv_iload hx hb dX0_use_46 (lv_at hl 0 rfl) ?_
    refine lv_iload hx hb dX0_use_48 (lv_at hl 7 rfl) ?_
    refine vp_callSi (va_Run.run (va_runV (As := [.int (iI (M (a) (j))), .int (iI (al))]) (rest := []) ⟨hx, hb, hml, hown, hts⟩ (c_partOf l ω k q z (mixR M to (fun i => sUse q al (M a i) (M b i)) (j)) (wk) (M (a) (j)) (al) hq1 hq2 (by omega) (by omega) (by omega) (by omega) hal.2.1) (cwV 2 hts (gU (hd := [.methodLink "NoiseRing" 76 yX0_partOf, .instanceMethod yX0_partOf, .selects "NoiseRing" yX0_partOf yX0_partOf, .initialized "NoiseRing"]) (List.forall_mem_cons.mpr ⟨u250, List.forall_mem_cons.mpr ⟨u251, List.forall_mem_cons.mpr ⟨u12, List.forall_mem_cons.mpr ⟨u29, fun _ h => by cases h⟩⟩⟩⟩) u252) rfl rfl rfl (by decide +kernel) ⟨Nat.le_of_ble_eq_true rfl, Nat.le_of_ble_eq_true rfl⟩) (gx_V hG) rfl rfl hl.1 rfl (lv_room (Nat.le_of_ble_eq_true rfl)) dX0_use_50 ⟨Nat.le_of_ble_eq_true rfl, Nat.le_of_ble_eq_true rfl⟩)) (fun r50 hr50 => ?_)
    subst hr50
    refine lv_istore (lv' := [(8, .int (iI ((sPart q (M (a) (j)) (al))))), (7, .int (iI (M (a) (j)))), (6, .int (iI ((j : Nat)))), (5, .int (iI (sChg q al (M a) (M b) (j)))), (0, .ref (ox ω)), (1, .int (iI (to))), (2, .int (iI (a))), (3, .int (iI (b))), (4, .int (iI (al)))]) hx hb dX0_use_53 hl (by decide) rfl (fun ls hl => ?_)
    refine lv_aload_n hx hb dX0_use_55 rfl (lv_at hl 4 rfl) ?_
    refine gx_get hx hb hts hown hG 0 (by decide) rfl u55 dX0_use_56 ?_
    refine lv_iload_n hx hb dX0_use_59 rfl (lv_at hl 7 rfl) ?_
    refine gx_row (r := b) hx hb hG (by omega) dX0_use_60 ?_
    refine lv_iload hx hb dX0_use_61 (lv_at hl 2 rfl) ?_
    refine gx_ild (r := b) (i := j) hx hb hG (by omega) (by omega) dX0_use_63 ?_
    refine wx_i (congrArg iI (mixR_at M to (fun i => sUse q al (M a i) (M b i)) (b) j)) ?_
    refine ix_if_eq (tgt := 78) hx hb (by omega) (by omega) dX0_use_64 (by decide) (fun h64 => ?_) (fun h64 => ?_)
    · skip
      refine lv_iload hx hb dX0_use_78 (lv_at hl 0 rfl) ?_
      refine wx_i (congrArg iI (show (sPart q (M (a) (j)) (al)) = sUse q al (M a j) (M b j) from ?_)) ?_
      · unfold sUse
        first | rw [if_pos h64] | rw [if_neg h64]
      have hu : 0 ≤ sUse q al (M a j) (M b j) ∧ sUse q al (M a j) (M b j) < q := by unfold sUse; split <;> omega
      refine lv_istore (lv' := [(9, .int (iI (sUse q al (M a j) (M b j)))), (8, .int (iI ((sPart q (M (a) (j)) (al))))), (7, .int (iI (M (a) (j)))), (6, .int (iI ((j : Nat)))), (5, .int (iI (sChg q al (M a) (M b) (j)))), (0, .ref (ox ω)), (1, .int (iI (to))), (2, .int (iI (a))), (3, .int (iI (b))), (4, .int (iI (al)))]) hx hb dX0_use_80 hl (by decide) rfl (fun ls hl => ?_)
      refine lv_iload hx hb dX0_use_82 (lv_at hl 0 rfl) ?_
      refine lv_iload hx hb dX0_use_84 (lv_at hl 1 rfl) ?_
      refine ix_icmp_eq (tgt := 92) hx hb (by omega) (by omega) (by omega) (by omega) dX0_use_86 (by decide) (fun h86 => ?_) (fun h86 => ?_)
      · have hs : sChg q al (M a) (M b) (j + 1) = sChg q al (M a) (M b) j := by rw [sChg, if_pos h86]; omega
        rw [← hs] at hl
        refine lv_aload_n hx hb dX0_use_92 rfl (lv_at hl 5 rfl) ?_
        refine gx_get hx hb hts hown hG 0 (by decide) rfl u55 dX0_use_93 ?_
        refine lv_iload_n hx hb dX0_use_96 rfl (lv_at hl 6 rfl) ?_
        refine gx_row (r := to) hx hb hG (by omega) dX0_use_97 ?_
        refine lv_iload hx hb dX0_use_98 (lv_at hl 3 rfl) ?_
        refine lv_iload hx hb dX0_use_100 (lv_at hl 0 rfl) ?_
        refine gx_ist (r := to) (i := j) hx hb hG hS (by omega) (by omega) dX0_use_102 (fun H1 locs1 hG hS => ?_)
        refine lv_iinc (k := 3) (v := iI ((j : Nat) + 1)) (lv' := [(6, .int (iI ((j : Nat) + 1))), (9, .int (iI (sUse q al (M a j) (M b j)))), (8, .int (iI ((sPart q (M (a) (j)) (al))))), (7, .int (iI (M (a) (j)))), (5, .int (iI (sChg q al (M a) (M b) (j + 1)))), (0, .ref (ox ω)), (1, .int (iI (to))), (2, .int (iI (a))), (3, .int (iI (b))), (4, .int (iI (al)))]) hx hb dX0_use_103 hl rfl (iI_add _ _) (by decide) rfl (fun ls hl => ?_)
        refine lv_goto (tgt := 27) hx hb dX0_use_106 (by decide) ?_
        exact ih27 ls _ _ ⟨lv_sub hl [0, 4, 5, 6, 7, 8, 9] rfl, (by rw [← mixR_s]; exact hG), hS⟩
      · have hs : sChg q al (M a) (M b) (j + 1) = sChg q al (M a) (M b) j + 1 := by rw [sChg, if_neg h86]
        refine lv_iinc (k := 4) (v := iI (sChg q al (M a) (M b) (j + 1))) (lv' := [(5, .int (iI (sChg q al (M a) (M b) (j + 1)))), (9, .int (iI (sUse q al (M a j) (M b j)))), (8, .int (iI ((sPart q (M (a) (j)) (al))))), (7, .int (iI (M (a) (j)))), (6, .int (iI ((j : Nat)))), (0, .ref (ox ω)), (1, .int (iI (to))), (2, .int (iI (a))), (3, .int (iI (b))), (4, .int (iI (al)))]) hx hb dX0_use_89 hl rfl ((iI_add _ _).trans (congrArg iI hs.symm)) (by decide) rfl (fun ls hl => ?_)
        refine lv_aload_n hx hb dX0_use_92 rfl (lv_at hl 5 rfl) ?_
        refine gx_get hx hb hts hown hG 0 (by decide) rfl u55 dX0_use_93 ?_
        refine lv_iload_n hx hb dX0_use_96 rfl (lv_at hl 6 rfl) ?_
        refine gx_row (r := to) hx hb hG (by omega) dX0_use_97 ?_
        refine lv_iload hx hb dX0_use_98 (lv_at hl 4 rfl) ?_
        refine lv_iload hx hb dX0_use_100 (lv_at hl 1 rfl) ?_
        refine gx_ist (r := to) (i := j) hx hb hG hS (by omega) (by omega) dX0_use_102 (fun H1 locs1 hG hS => ?_)
        refine lv_iinc (k := 4) (v := iI ((j : Nat) + 1)) (lv' := [(6, .int (iI ((j : Nat) + 1))), (5, .int (iI (sChg q al (M a) (M b) (j + 1)))), (9, .int (iI (sUse q al (M a j) (M b j)))), (8, .int (iI ((sPart q (M (a) (j)) (al))))), (7, .int (iI (M (a) (j)))), (0, .ref (ox ω)), (1, .int (iI (to))), (2, .int (iI (a))), (3, .int (iI (b))), (4, .int (iI (al)))]) hx hb dX0_use_103 hl rfl (iI_add _ _) (by decide) rfl (fun ls hl => ?_)
        refine lv_goto (tgt := 27) hx hb dX0_use_106 (by decide) ?_
        exact ih27 ls _ _ ⟨lv_sub hl [0, 1, 5, 6, 7, 8, 9] rfl, (by rw [← mixR_s]; exact hG), hS⟩
    · skip
      refine lv_aload_n hx hb dX0_use_67 rfl (lv_at hl 4 rfl) ?_
      refine lv_iload hx hb dX0_use_68 (lv_at hl 1 rfl) ?_
      refine lv_iload hx hb dX0_use_70 (lv_at hl 8 rfl) ?_
      refine vp_callSi (va_Run.run (va_runV (As := [.int (iI (M (a) (j))), .int (iI (al))]) (rest := []) ⟨hx, hb, hml, hown, hts⟩ (c_movedPart l ω k q z (mixR M to (fun i => sUse q al (M a i) (M b i)) (j)) (wk) (M (a) (j)) (al) hq1 hq2 (by omega) (by omega) (by omega) (by omega) hal.2.1 hal.2.2) (cwV 2 hts (gU (hd := [.methodLink "NoiseRing" 82 yX0_movedPart, .instanceMethod yX0_movedPart, .selects "NoiseRing" yX0_movedPart yX0_movedPart, .initialized "NoiseRing"]) (List.forall_mem_cons.mpr ⟨u273, List.forall_mem_cons.mpr ⟨u274, List.forall_mem_cons.mpr ⟨u14, List.forall_mem_cons.mpr ⟨u29, fun _ h => by cases h⟩⟩⟩⟩) u275) rfl rfl rfl (by decide +kernel) ⟨Nat.le_of_ble_eq_true rfl, Nat.le_of_ble_eq_true rfl⟩) (gx_V hG) rfl rfl hl.1 rfl (lv_room (Nat.le_of_ble_eq_true rfl)) dX0_use_72 ⟨Nat.le_of_ble_eq_true rfl, Nat.le_of_ble_eq_true rfl⟩)) (fun r72 hr72 => ?_)
      subst hr72
      refine lv_goto (tgt := 80) hx hb dX0_use_75 (by decide) ?_
      refine wx_i (congrArg iI (show (sMov q (M (a) (j)) (al)) = sUse q al (M a j) (M b j) from ?_)) ?_
      · unfold sUse
        first | rw [if_pos h64] | rw [if_neg h64]
      have hu : 0 ≤ sUse q al (M a j) (M b j) ∧ sUse q al (M a j) (M b j) < q := by unfold sUse; split <;> omega
      refine lv_istore (lv' := [(9, .int (iI (sUse q al (M a j) (M b j)))), (8, .int (iI ((sPart q (M (a) (j)) (al))))), (7, .int (iI (M (a) (j)))), (6, .int (iI ((j : Nat)))), (5, .int (iI (sChg q al (M a) (M b) (j)))), (0, .ref (ox ω)), (1, .int (iI (to))), (2, .int (iI (a))), (3, .int (iI (b))), (4, .int (iI (al)))]) hx hb dX0_use_80 hl (by decide) rfl (fun ls hl => ?_)
      refine lv_iload hx hb dX0_use_82 (lv_at hl 0 rfl) ?_
      refine lv_iload hx hb dX0_use_84 (lv_at hl 1 rfl) ?_
      refine ix_icmp_eq (tgt := 92) hx hb (by omega) (by omega) (by omega) (by omega) dX0_use_86 (by decide) (fun h86 => ?_) (fun h86 => ?_)
      · have hs : sChg q al (M a) (M b) (j + 1) = sChg q al (M a) (M b) j := by rw [sChg, if_pos h86]; omega
        rw [← hs] at hl
        refine lv_aload_n hx hb dX0_use_92 rfl (lv_at hl 5 rfl) ?_
        refine gx_get hx hb hts hown hG 0 (by decide) rfl u55 dX0_use_93 ?_
        refine lv_iload_n hx hb dX0_use_96 rfl (lv_at hl 6 rfl) ?_
        refine gx_row (r := to) hx hb hG (by omega) dX0_use_97 ?_
        refine lv_iload hx hb dX0_use_98 (lv_at hl 3 rfl) ?_
        refine lv_iload hx hb dX0_use_100 (lv_at hl 0 rfl) ?_
        refine gx_ist (r := to) (i := j) hx hb hG hS (by omega) (by omega) dX0_use_102 (fun H1 locs1 hG hS => ?_)
        refine lv_iinc (k := 3) (v := iI ((j : Nat) + 1)) (lv' := [(6, .int (iI ((j : Nat) + 1))), (9, .int (iI (sUse q al (M a j) (M b j)))), (8, .int (iI ((sPart q (M (a) (j)) (al))))), (7, .int (iI (M (a) (j)))), (5, .int (iI (sChg q al (M a) (M b) (j + 1)))), (0, .ref (ox ω)), (1, .int (iI (to))), (2, .int (iI (a))), (3, .int (iI (b))), (4, .int (iI (al)))]) hx hb dX0_use_103 hl rfl (iI_add _ _) (by decide) rfl (fun ls hl => ?_)
        refine lv_goto (tgt := 27) hx hb dX0_use_106 (by decide) ?_
        exact ih27 ls _ _ ⟨lv_sub hl [0, 4, 5, 6, 7, 8, 9] rfl, (by rw [← mixR_s]; exact hG), hS⟩
      · have hs : sChg q al (M a) (M b) (j + 1) = sChg q al (M a) (M b) j + 1 := by rw [sChg, if_neg h86]
        refine lv_iinc (k := 4) (v := iI (sChg q al (M a) (M b) (j + 1))) (lv' := [(5, .int (iI (sChg q al (M a) (M b) (j + 1)))), (9, .int (iI (sUse q al (M a j) (M b j)))), (8, .int (iI ((sPart q (M (a) (j)) (al))))), (7, .int (iI (M (a) (j)))), (6, .int (iI ((j : Nat)))), (0, .ref (ox ω)), (1, .int (iI (to))), (2, .int (iI (a))), (3, .int (iI (b))), (4, .int (iI (al)))]) hx hb dX0_use_89 hl rfl ((iI_add _ _).trans (congrArg iI hs.symm)) (by decide) rfl (fun ls hl => ?_)
        refine lv_aload_n hx hb dX0_use_92 rfl (lv_at hl 5 rfl) ?_
        refine gx_get hx hb hts hown hG 0 (by decide) rfl u55 dX0_use_93 ?_
        refine lv_iload_n hx hb dX0_use_96 rfl (lv_at hl 6 rfl) ?_
        refine gx_row (r := to) hx hb hG (by omega) dX0_use_97 ?_
        refine lv_iload hx hb dX0_use_98 (lv_at hl 4 rfl) ?_
        refine lv_iload hx hb dX0_use_100 (lv_at hl 1 rfl) ?_
        refine gx_ist (r := to) (i := j) hx hb hG hS (by omega) (by omega) dX0_use_102 (fun H1 locs1 hG hS => ?_)
        refine lv_iinc (k := 4) (v := iI ((j : Nat) + 1)) (lv' := [(6, .int (iI ((j : Nat) + 1))), (5, .int (iI (sChg q al (M a) (M b) (j + 1)))), (9, .int (iI (sUse q al (M a j) (M b j)))), (8, .int (iI ((sPart q (M (a) (j)) (al))))), (7, .int (iI (M (a) (j)))), (0, .ref (ox ω)), (1, .int (iI (to))), (2, .int (iI (a))), (3, .int (iI (b))), (4, .int (iI (al)))]) hx hb dX0_use_103 hl rfl (iI_add _ _) (by decide) rfl (fun ls hl => ?_)
        refine lv_goto (tgt := 27) hx hb dX0_use_106 (by decide) ?_
        exact ih27 ls _ _ ⟨lv_sub hl [0, 1, 5, 6, 7, 8, 9] rfl, (by rw [← mixR_s]; exact hG), hS⟩
set_option maxHeartbeats 4000000 in
set_option maxRecDepth 100000 in
theorem p_noise (l : Launch) (htr : l.stackTraces = false) (ω : WX) (k q z : Int) (M : Nat → Nat → Int) (wk : Nat → Int) (to eta : Int) (low high : Int64) (to1 : -2147483648 ≤ to) (to2 : to < 2147483648) (eta1 : -2147483648 ≤ eta) (eta2 : eta < 2147483648) (hq1 : 3329 ≤ q) (hq2 : q ≤ 8380417) (hM : ∀ r i, r < 12 → i < 16 → 0 ≤ M r i ∧ M r i < q) : vx_Met l yX0_noise wsX0_noise ({ frames := 7, cells := 2, slots := 12, locals := 102 }) (va_Pc [.ref (ox ω), .int (iI (to)), .int (iI (eta)), .long (low), .long (high)] (fun U => GX ω k q z M wk U U.heap)) (va_Qi (fun r_ (_ : Nat → Int) => (((0 ≤ to ∧ to < 12)) ∧ 1 ≤ eta ∧ eta ≤ 3) ∧ r_ = iI (sCnt (fun i => sNoise q low high eta.toNat i) 16)) (fun w_ t => CX ω k q z (mixR M to.toNat (fun i => sNoise q low high eta.toNat i) 16) w_ t.heap) (Ax ω)) (vx_X (fun _ : Unit => True) (fun E _ t => ((¬ ((0 ≤ to ∧ to < 12)) ∧ E = nNSE) ∨ (((0 ≤ to ∧ to < 12)) ∧ ¬ (1 ≤ eta ∧ eta ≤ 3) ∧ E = nIAE)) ∧ CX ω k q z M wk t.heap) (Ax ω)) 2 12 (Ax ω) := by
  refine vx_ofW (cc := cX0_noise) (maxL := 11) (ret := (some .int)) (by decide +kernel) rfl ?_
  intro p e s m args below meth c s₁ B hml hnx hv
  obtain ⟨rfl, hG⟩ := hv
  have hx := B.exec
  have hb := B.bytes
  have hrt := B.returns
  have hts : ∀ w ∈ wsU, w.before _ s = true := fun w h => atoms_spec (ws := wsX0_noise) B.pre w (List.mem_cons_of_mem _ h)
  have hown : s.vm.findClass "NoiseRing" = some m.cls := findClass_of_methodNamed B.named
  have hlocks := B.notSynchronized
  have hS : va_S (Ax ω) s.heap s.heap [] := va_S.rf
  have hl := lv_entry ([.ref (ox ω), .int (iI (to)), .int (iI (eta)), .long (low), .long (high)]) (n := 11) (Nat.le_of_ble_eq_true rfl)
  rw [lg_entry_eq]
  generalize (lg_sl ([.ref (ox ω), .int (iI (to)), .int (iI (eta)), .long (low), .long (high)]) ++ List.replicate (11 - (lg_sl ([.ref (ox ω), .int (iI (to)), .int (iI (eta)), .long (low), .long (high)])).length) Slot.unset).toArray = ls at hl ⊢
  have hl : lv_has ls 11 [(0, .ref (ox ω)), (1, .int (iI (to))), (2, .int (iI (eta))), (3, .long (low)), (5, .long (high))] := hl
  have hB0 := hG.1
  refine lv_iload_n hx hb dX0_noise_0 rfl (lv_at hl 1 rfl) ?_
  refine vx_callv (vx_runS (As := [.int (iI (to))]) (rest := []) ⟨hx, hb, hml, hown, hts⟩ (n_needRegister l htr ω k q z M wk _ (to) (by omega) (by omega)) (va_cwS 1 hts (gU (hd := [.methodLink "NoiseRing" 33 yX0_needRegister, .static yX0_needRegister, .initialized "NoiseRing"]) (List.forall_mem_cons.mpr ⟨u155, List.forall_mem_cons.mpr ⟨u156, List.forall_mem_cons.mpr ⟨u29, fun _ h => by cases h⟩⟩⟩) u157) rfl rfl rfl (by decide +kernel) ⟨Nat.le_of_ble_eq_true rfl, Nat.le_of_ble_eq_true rfl⟩) (gx_Sh hG) rfl rfl hl.1 rfl (lv_room (Nat.le_of_ble_eq_true rfl)) dX0_noise_1 ⟨Nat.le_of_ble_eq_true rfl, Nat.le_of_ble_eq_true rfl⟩) hS (fun q9 _ h => h.elim) (fun q9 h => h.elim) (fun q9 _ h => h.elim) (fun E ce q9 u t H1 locs1 ht hvm hpx hBX hz hk hS1 hce hcv hcl => ?_) (fun u t H1 locs1 ht hvm hp1 hB hz hk hS1 => ?_)
  · exact vx_out (E := E) (fun x9 h9 => (hnx x9 h9).elim) hlocks hce hcv hcl (fun t1 ht1 ha1 => ⟨(), trivial, ⟨Or.inl ⟨by omega, hBX.2⟩, by rw [ht1]; exact hG.2.kept (fun a9 g9 => hk a9 g9 (fun f9 => f9))⟩, hS1.F ht1⟩) hS1.2.2 (Nat.le_of_ble_eq_true rfl) (Nat.le_of_ble_eq_true rfl)
  obtain rfl := ht.symm.trans hB
  clear hS
  have hS := hS1
  obtain ⟨to, rfl⟩ := Int.eq_ofNat_of_zero_le hp1.1
  refine lv_iload_n hx hb dX0_noise_4 rfl (lv_at hl 2 rfl) ?_
  refine ix_iconst hx hb dX0_noise_5 ?_
  refine ix_icmp_lt (tgt := 18) hx hb (by omega) (by omega) (by omega) (by omega) dX0_noise_6 (by decide) (fun h6 => ?_) (fun h6 => ?_)
  · skip
    refine ix_iconst hx hb dX0_noise_18 ?_
    refine vx_callv (vx_runS (As := [.int (iI (0))]) (rest := []) ⟨hx, hb, hml, hown, hts⟩ (n_needArgument l htr ω k q z M wk _ (0) (by omega) (by omega)) (va_cwS 1 hts (gU (hd := [.methodLink "NoiseRing" 25 yX0_needArgument, .static yX0_needArgument, .initialized "NoiseRing"]) (List.forall_mem_cons.mpr ⟨u90, List.forall_mem_cons.mpr ⟨u91, List.forall_mem_cons.mpr ⟨u29, fun _ h => by cases h⟩⟩⟩) u92) rfl rfl rfl (by decide +kernel) ⟨Nat.le_of_ble_eq_true rfl, Nat.le_of_ble_eq_true rfl⟩) (gx_Sh hG) rfl rfl hl.1 rfl (lv_room (Nat.le_of_ble_eq_true rfl)) dX0_noise_19 ⟨Nat.le_of_ble_eq_true rfl, Nat.le_of_ble_eq_true rfl⟩) hS (fun q9 _ h => h.elim) (fun q9 h => h.elim) (fun q9 _ h => h.elim) (fun E ce q9 u t H1 locs1 ht hvm hpx hBX hz hk hS1 hce hcv hcl => ?_) (fun u t H1 locs1 ht hvm hp19 hB hz hk hS1 => ?_)
    · exact vx_out (E := E) (fun x9 h9 => (hnx x9 h9).elim) hlocks hce hcv hcl (fun t1 ht1 ha1 => ⟨(), trivial, ⟨Or.inr ⟨by omega, by omega, hBX.2⟩, by rw [ht1]; exact hG.2.kept (fun a9 g9 => hk a9 g9 (fun f9 => f9))⟩, hS1.F ht1⟩) hS1.2.2 (Nat.le_of_ble_eq_true rfl) (Nat.le_of_ble_eq_true rfl)
    exact (hp19 rfl).elim
  · skip
    refine lv_iload_n hx hb dX0_noise_9 rfl (lv_at hl 2 rfl) ?_
    refine ix_iconst hx hb dX0_noise_10 ?_
    refine ix_icmp_gt (tgt := 18) hx hb (by omega) (by omega) (by omega) (by omega) dX0_noise_11 (by decide) (fun h11 => ?_) (fun h11 => ?_)
    · skip
      refine ix_iconst hx hb dX0_noise_18 ?_
      refine vx_callv (vx_runS (As := [.int (iI (0))]) (rest := []) ⟨hx, hb, hml, hown, hts⟩ (n_needArgument l htr ω k q z M wk _ (0) (by omega) (by omega)) (va_cwS 1 hts (gU (hd := [.methodLink "NoiseRing" 25 yX0_needArgument, .static yX0_needArgument, .initialized "NoiseRing"]) (List.forall_mem_cons.mpr ⟨u90, List.forall_mem_cons.mpr ⟨u91, List.forall_mem_cons.mpr ⟨u29, fun _ h => by cases h⟩⟩⟩) u92) rfl rfl rfl (by decide +kernel) ⟨Nat.le_of_ble_eq_true rfl, Nat.le_of_ble_eq_true rfl⟩) (gx_Sh hG) rfl rfl hl.1 rfl (lv_room (Nat.le_of_ble_eq_true rfl)) dX0_noise_19 ⟨Nat.le_of_ble_eq_true rfl, Nat.le_of_ble_eq_true rfl⟩) hS (fun q9 _ h => h.elim) (fun q9 h => h.elim) (fun q9 _ h => h.elim) (fun E ce q9 u t H1 locs1 ht hvm hpx hBX hz hk hS1 hce hcv hcl => ?_) (fun u t H1 locs1 ht hvm hp19 hB hz hk hS1 => ?_)
      · exact vx_out (E := E) (fun x9 h9 => (hnx x9 h9).elim) hlocks hce hcv hcl (fun t1 ht1 ha1 => ⟨(), trivial, ⟨Or.inr ⟨by omega, by omega, hBX.2⟩, by rw [ht1]; exact hG.2.kept (fun a9 g9 => hk a9 g9 (fun f9 => f9))⟩, hS1.F ht1⟩) hS1.2.2 (Nat.le_of_ble_eq_true rfl) (Nat.le_of_ble_eq_true rfl)
      exact (hp19 rfl).elim
    · skip
      refine ix_iconst hx hb dX0_noise_14 ?_
      refine lv_goto (tgt := 19) hx hb dX0_noise_15 (by decide) ?_
      refine vx_callv (vx_runS (As := [.int (iI (1))]) (rest := []) ⟨hx, hb, hml, hown, hts⟩ (n_needArgument l htr ω k q z M wk _ (1) (by omega) (by omega)) (va_cwS 1 hts (gU (hd := [.methodLink "NoiseRing" 25 yX0_needArgument, .static yX0_needArgument, .initialized "NoiseRing"]) (List.forall_mem_cons.mpr ⟨u90, List.forall_mem_cons.mpr ⟨u91, List.forall_mem_cons.mpr ⟨u29, fun _ h => by cases h⟩⟩⟩) u92) rfl rfl rfl (by decide +kernel) ⟨Nat.le_of_ble_eq_true rfl, Nat.le_of_ble_eq_true rfl⟩) (gx_Sh hG) rfl rfl hl.1 rfl (lv_room (Nat.le_of_ble_eq_true rfl)) dX0_noise_19 ⟨Nat.le_of_ble_eq_true rfl, Nat.le_of_ble_eq_true rfl⟩) hS (fun q9 _ h => h.elim) (fun q9 h => h.elim) (fun q9 _ h => h.elim) (fun E ce q9 u t H1 locs1 ht hvm hpx hBX hz hk hS1 hce hcv hcl => ?_) (fun u t H1 locs1 ht hvm hp19 hB hz hk hS1 => ?_)
      · exact (hBX.1 (by decide)).elim
      obtain rfl := ht.symm.trans hB
      clear hS
      have hS := hS1
      obtain ⟨eta, rfl⟩ := Int.eq_ofNat_of_zero_le (show 0 ≤ eta by omega)
      have hg : ∀ i, i < 16 → 0 ≤ (fun i => sNoise q low high eta i) i ∧ (fun i => sNoise q low high eta i) i < q := fun i hi9 => ⟨Int.emod_nonneg _ (by omega), Int.emod_lt_of_pos _ (by omega)⟩
      refine ix_iconst hx hb dX0_noise_22 ?_
      refine lv_istore (lv' := [(7, .int (iI (0))), (0, .ref (ox ω)), (1, .int (iI (to))), (2, .int (iI (eta))), (3, .long (low)), (5, .long (high))]) hx hb dX0_noise_23 hl (by decide) rfl (fun ls hl => ?_)
      refine ix_loopH (I := fun j ls H locs => lv_has ls 11 [(7, .int (iI ((j : Nat)))), (0, .ref (ox ω)), (1, .int (iI (to))), (2, .int (iI (eta))), (3, .long (low)), (5, .long (high))] ∧ GX ω k q z (mixR M to (fun i => sNoise q low high eta i) (j)) (wk) s H ∧ va_S (Ax ω) s.heap H locs) 16 0 (by omega) ⟨lv_sub hl [0, 1, 2, 3, 4, 5] rfl, (by rw [mixR_0]; exact hG), hS⟩ (fun ls H locs hI => ?_) (fun j ls H locs hj hI ih25 => ?_)
      · obtain ⟨hl, hG, hS⟩ := hI
        have hl : lv_has ls 11 [(7, .int (iI ((16 : Nat)))), (0, .ref (ox ω)), (1, .int (iI (to))), (2, .int (iI (eta))), (3, .long (low)), (5, .long (high))] := hl
        have hM2 := mixR_in (to := to) (n := 16) hM hg
        refine lv_iload hx hb dX0_noise_25 (lv_at hl 0 rfl) ?_
        refine ix_bipush hx hb (by decide) dX0_noise_27 ?_
        refine ix_icmp_ge (tgt := 91) hx hb (by omega) (by omega) (by omega) (by omega) dX0_noise_29 (by decide) (fun h29 => ?_) (fun h29 => absurd h29 (by omega))
        refine lv_aload_n hx hb dX0_noise_91 rfl (lv_at hl 1 rfl) ?_
        refine gx_get hx hb hts hown hG 0 (by decide) rfl u55 dX0_noise_92 ?_
        refine lv_iload_n hx hb dX0_noise_95 rfl (lv_at hl 2 rfl) ?_
        refine gx_row (r := to) hx hb hG (by omega) dX0_noise_96 ?_
        refine vp_callSi (va_Run.run (va_runS (As := [.ref (oR ω (to))]) (rest := []) ⟨hx, hb, hml, hown, hts⟩ (c_notZero l ω k q z (mixR M to (fun i => sNoise q low high eta i) (16)) (wk) (to) (by omega) hq1 hq2 hM2) (va_cwS 1 hts (gU (hd := [.methodLink "NoiseRing" 69 yX0_notZero, .static yX0_notZero, .initialized "NoiseRing"]) (List.forall_mem_cons.mpr ⟨u79, List.forall_mem_cons.mpr ⟨u80, List.forall_mem_cons.mpr ⟨u29, fun _ h => by cases h⟩⟩⟩) u81) rfl rfl rfl (by decide +kernel) ⟨Nat.le_of_ble_eq_true rfl, Nat.le_of_ble_eq_true rfl⟩) (gx_S hG) rfl rfl hl.1 rfl (lv_room (Nat.le_of_ble_eq_true rfl)) dX0_noise_97 ⟨Nat.le_of_ble_eq_true rfl, Nat.le_of_ble_eq_true rfl⟩)) (fun r97 hr97 => ?_)
        subst hr97
        refine W.widen (k := 2) (n := 12) (Nat.le_of_ble_eq_true rfl) (Nat.le_of_ble_eq_true rfl) ?_
        exact vx_ret (W.iret hx hb hrt (fun t ht hW => ⟨⟨_, wk, rfl, ⟨by omega, congrArg iI (sCnt_eq (fun i hi9 => mixR_row hi9))⟩, by have h9 := hG.2; rw [← ht] at h9; exact h9⟩, hS.F ht⟩) hS.2.2 dX0_noise_100)
      · obtain ⟨hl, hG, hS⟩ := hI
        have hl : lv_has ls 11 [(7, .int (iI ((j : Nat)))), (0, .ref (ox ω)), (1, .int (iI (to))), (2, .int (iI (eta))), (3, .long (low)), (5, .long (high))] := hl
        have he : 2 * eta * j + eta + eta ≤ 96 := by
          rcases (show eta = 1 ∨ eta = 2 ∨ eta = 3 by omega) with rfl | rfl | rfl <;> omega
        have ho1 := sOnes_in low high (2 * eta * j) eta
        have ho2 := sOnes_in low high (2 * eta * j + eta) eta
        refine lv_iload hx hb dX0_noise_25 (lv_at hl 0 rfl) ?_
        refine ix_bipush hx hb (by decide) dX0_noise_27 ?_
        refine ix_icmp_ge (tgt := 91) hx hb (by omega) (by omega) (by omega) (by omega) dX0_noise_29 (by decide) (fun h29 => absurd h29 (by omega)) (fun h29 => ?_)
        refine ix_iconst hx hb dX0_noise_32 ?_
        refine lv_iload_n hx hb dX0_noise_33 rfl (lv_at hl 3 rfl) ?_
        refine ix_imul hx hb dX0_noise_34 ?_
        refine lv_iload hx hb dX0_noise_35 (lv_at hl 0 rfl) ?_
        refine ix_imul hx hb dX0_noise_37 ?_
        refine wx_i (congrArg iI (show (2 * (eta : Int)) * ((j : Nat) : Int) = ((2 * eta * j : Nat) : Int) by rw [Int.natCast_mul, Int.natCast_mul]; rfl)) ?_
        refine lv_istore (lv' := [(8, .int (iI ((2 * eta * j : Nat)))), (7, .int (iI ((j : Nat)))), (0, .ref (ox ω)), (1, .int (iI (to))), (2, .int (iI (eta))), (3, .long (low)), (5, .long (high))]) hx hb dX0_noise_38 hl (by decide) rfl (fun ls hl => ?_)
        refine lv_iload hx hb dX0_noise_40 (lv_at hl 0 rfl) ?_
        refine lv_iload_n hx hb dX0_noise_42 rfl (lv_at hl 4 rfl) ?_
        refine lv_lload_n hx hb dX0_noise_43 rfl (lv_at hl 5 rfl) ?_
        refine lv_lload hx hb dX0_noise_44 (lv_at hl 6 rfl) ?_
        refine vp_callSi (va_Run.run (va_runS (As := [.int (iI ((2 * eta * j : Nat))), .int (iI (eta)), .long (low), .long (high)]) (rest := []) ⟨hx, hb, hml, hown, hts⟩ (c_ones l (2 * eta * j) (eta) low high (by omega)) (va_cwS 4 hts (gU (hd := [.methodLink "NoiseRing" 89 yX0_ones, .static yX0_ones, .initialized "NoiseRing"]) (List.forall_mem_cons.mpr ⟨u297, List.forall_mem_cons.mpr ⟨u298, List.forall_mem_cons.mpr ⟨u29, fun _ h => by cases h⟩⟩⟩) u299) rfl rfl rfl (by decide +kernel) ⟨Nat.le_of_ble_eq_true rfl, Nat.le_of_ble_eq_true rfl⟩) gn_S rfl rfl hl.1 rfl (lv_room (Nat.le_of_ble_eq_true rfl)) dX0_noise_46 ⟨Nat.le_of_ble_eq_true rfl, Nat.le_of_ble_eq_true rfl⟩)) (fun r46 hr46 => ?_)
        subst hr46
        refine lv_istore (lv' := [(9, .int (iI ((sOnes low high ((2 * eta * j : Nat)) (eta))))), (8, .int (iI ((2 * eta * j : Nat)))), (7, .int (iI ((j : Nat)))), (0, .ref (ox ω)), (1, .int (iI (to))), (2, .int (iI (eta))), (3, .long (low)), (5, .long (high))]) hx hb dX0_noise_49 hl (by decide) rfl (fun ls hl => ?_)
        refine lv_iload hx hb dX0_noise_51 (lv_at hl 1 rfl) ?_
        refine lv_iload_n hx hb dX0_noise_53 rfl (lv_at hl 5 rfl) ?_
        refine ix_iadd hx hb dX0_noise_54 ?_
        refine wx_i (congrArg iI (show ((2 * eta * j : Nat) : Int) + (eta : Int) = ((2 * eta * j + eta : Nat) : Int) by omega)) ?_
        refine lv_iload_n hx hb dX0_noise_55 rfl (lv_at hl 5 rfl) ?_
        refine lv_lload_n hx hb dX0_noise_56 rfl (lv_at hl 6 rfl) ?_
        refine lv_lload hx hb dX0_noise_57 (lv_at hl 7 rfl) ?_
        refine vp_callSi (va_Run.run (va_runS (As := [.int (iI ((2 * eta * j + eta : Nat))), .int (iI (eta)), .long (low), .long (high)]) (rest := []) ⟨hx, hb, hml, hown, hts⟩ (c_ones l (2 * eta * j + eta) (eta) low high (by omega)) (va_cwS 4 hts (gU (hd := [.methodLink "NoiseRing" 89 yX0_ones, .static yX0_ones, .initialized "NoiseRing"]) (List.forall_mem_cons.mpr ⟨u297, List.forall_mem_cons.mpr ⟨u298, List.forall_mem_cons.mpr ⟨u29, fun _ h => by cases h⟩⟩⟩) u299) rfl rfl rfl (by decide +kernel) ⟨Nat.le_of_ble_eq_true rfl, Nat.le_of_ble_eq_true rfl⟩) gn_S rfl rfl hl.1 rfl (lv_room (Nat.le_of_ble_eq_true rfl)) dX0_noise_59 ⟨Nat.le_of_ble_eq_true rfl, Nat.le_of_ble_eq_true rfl⟩)) (fun r59 hr59 => ?_)
        subst hr59
        refine lv_istore (lv' := [(10, .int (iI ((sOnes low high ((2 * eta * j + eta : Nat)) (eta))))), (9, .int (iI ((sOnes low high ((2 * eta * j : Nat)) (eta))))), (8, .int (iI ((2 * eta * j : Nat)))), (7, .int (iI ((j : Nat)))), (0, .ref (ox ω)), (1, .int (iI (to))), (2, .int (iI (eta))), (3, .long (low)), (5, .long (high))]) hx hb dX0_noise_62 hl (by decide) rfl (fun ls hl => ?_)
        refine lv_aload_n hx hb dX0_noise_64 rfl (lv_at hl 4 rfl) ?_
        refine gx_get hx hb hts hown hG 0 (by decide) rfl u55 dX0_noise_65 ?_
        refine lv_iload_n hx hb dX0_noise_68 rfl (lv_at hl 5 rfl) ?_
        refine gx_row (r := to) hx hb hG (by omega) dX0_noise_69 ?_
        refine lv_iload hx hb dX0_noise_70 (lv_at hl 3 rfl) ?_
        refine lv_iload hx hb dX0_noise_72 (lv_at hl 1 rfl) ?_
        refine lv_iload hx hb dX0_noise_74 (lv_at hl 0 rfl) ?_
        refine ix_isub hx hb dX0_noise_76 ?_
        refine lv_aload_n hx hb dX0_noise_77 rfl (lv_at hl 4 rfl) ?_
        refine gx_get hx hb hts hown hG 3 (by decide) rfl u58 dX0_noise_78 ?_
        refine vp_callSi (va_Run.run (va_runS (As := [.int (iI (((sOnes low high ((2 * eta * j : Nat)) (eta)) - (sOnes low high ((2 * eta * j + eta : Nat)) (eta))))), .int (iI (q))]) (rest := [.int (iI ((j : Nat))), .ref (oR ω (to))]) ⟨hx, hb, hml, hown, hts⟩ (c_floorModI l (((sOnes low high ((2 * eta * j : Nat)) (eta)) - (sOnes low high ((2 * eta * j + eta : Nat)) (eta)))) (q) (by omega) (by omega) (by omega) (by omega)) (va_cwS 2 hts (gU (hd := [.methodLink "NoiseRing" 39 yJ_floorModI, .static yJ_floorModI, .initialized "java/lang/Math"]) (List.forall_mem_cons.mpr ⟨u175, List.forall_mem_cons.mpr ⟨u176, List.forall_mem_cons.mpr ⟨u36, fun _ h => by cases h⟩⟩⟩) u177) rfl rfl rfl (by decide +kernel) ⟨Nat.le_of_ble_eq_true rfl, Nat.le_of_ble_eq_true rfl⟩) gn_S rfl rfl hl.1 rfl (lv_room (Nat.le_of_ble_eq_true rfl)) dX0_noise_81 ⟨Nat.le_of_ble_eq_true rfl, Nat.le_of_ble_eq_true rfl⟩)) (fun r81 hr81 => ?_)
        subst hr81
        refine gx_ist (r := to) (i := j) hx hb hG hS (by omega) (by omega) dX0_noise_84 (fun H1 locs1 hG hS => ?_)
        refine lv_iinc (k := 3) (v := iI ((j : Nat) + 1)) (lv' := [(7, .int (iI ((j : Nat) + 1))), (10, .int (iI ((sOnes low high ((2 * eta * j + eta : Nat)) (eta))))), (9, .int (iI ((sOnes low high ((2 * eta * j : Nat)) (eta))))), (8, .int (iI ((2 * eta * j : Nat)))), (0, .ref (ox ω)), (1, .int (iI (to))), (2, .int (iI (eta))), (3, .long (low)), (5, .long (high))]) hx hb dX0_noise_85 hl rfl (iI_add _ _) (by decide) rfl (fun ls hl => ?_)
        refine lv_goto (tgt := 25) hx hb dX0_noise_88 (by decide) ?_
        exact ih25 ls _ _ ⟨lv_sub hl [0, 4, 5, 6, 7, 8] rfl, (by rw [← mixR_s]; exact hG), hS⟩
set_option maxHeartbeats 4000000 in
set_option maxRecDepth 100000 in
theorem p_join (l : Launch) (htr : l.stackTraces = false) (ω : WX) (k q z : Int) (M : Nat → Nat → Int) (wk : Nat → Int) (to op a b : Int) (to1 : -2147483648 ≤ to) (to2 : to < 2147483648) (op1 : -2147483648 ≤ op) (op2 : op < 2147483648) (a1 : -2147483648 ≤ a) (a2 : a < 2147483648) (b1 : -2147483648 ≤ b) (b2 : b < 2147483648) (hq1 : 3329 ≤ q) (hq2 : q ≤ 8380417) (hM : ∀ r i, r < 12 → i < 16 → 0 ≤ M r i ∧ M r i < q) : vx_Met l yX0_join wsX0_join ({ frames := 7, cells := 4, slots := 24, locals := 102 }) (va_Pc [.ref (ox ω), .int (iI (to)), .int (iI (op)), .int (iI (a)), .int (iI (b))] (fun U => GX ω k q z M wk U U.heap)) (va_Qi (fun r_ (_ : Nat → Int) => (((0 ≤ to ∧ to < 12) ∧ (0 ≤ a ∧ a < 12) ∧ (0 ≤ b ∧ b < 12)) ∧ 0 ≤ op ∧ op ≤ 2) ∧ r_ = iI (sMax q (fun i => sJoin q op (M a.toNat) (M b.toNat) i) 16)) (fun w_ t => CX ω k q z (mixR M to.toNat (fun i => sJoin q op (M a.toNat) (M b.toNat) i) 16) w_ t.heap) (Ax ω)) (vx_X (fun _ : Unit => True) (fun E _ t => ((¬ ((0 ≤ to ∧ to < 12) ∧ (0 ≤ a ∧ a < 12) ∧ (0 ≤ b ∧ b < 12)) ∧ E = nNSE) ∨ (((0 ≤ to ∧ to < 12) ∧ (0 ≤ a ∧ a < 12) ∧ (0 ≤ b ∧ b < 12)) ∧ ¬ (0 ≤ op ∧ op ≤ 2) ∧ E = nIAE)) ∧ CX ω k q z M wk t.heap) (Ax ω)) 4 24 (Ax ω) := by
  refine vx_ofW (cc := cX0_join) (maxL := 6) (ret := (some .int)) (by decide +kernel) rfl ?_
  intro p e s m args below meth c s₁ B hml hnx hv
  obtain ⟨rfl, hG⟩ := hv
  have hx := B.exec
  have hb := B.bytes
  have hrt := B.returns
  have hts : ∀ w ∈ wsU, w.before _ s = true := fun w h => atoms_spec (ws := wsX0_join) B.pre w (List.mem_cons_of_mem _ h)
  have hown : s.vm.findClass "NoiseRing" = some m.cls := findClass_of_methodNamed B.named
  have hlocks := B.notSynchronized
  have hS : va_S (Ax ω) s.heap s.heap [] := va_S.rf
  have hl := lv_entry ([.ref (ox ω), .int (iI (to)), .int (iI (op)), .int (iI (a)), .int (iI (b))]) (n := 6) (Nat.le_of_ble_eq_true rfl)
  rw [lg_entry_eq]
  generalize (lg_sl ([.ref (ox ω), .int (iI (to)), .int (iI (op)), .int (iI (a)), .int (iI (b))]) ++ List.replicate (6 - (lg_sl ([.ref (ox ω), .int (iI (to)), .int (iI (op)), .int (iI (a)), .int (iI (b))])).length) Slot.unset).toArray = ls at hl ⊢
  have hl : lv_has ls 6 [(0, .ref (ox ω)), (1, .int (iI (to))), (2, .int (iI (op))), (3, .int (iI (a))), (4, .int (iI (b)))] := hl
  have hB0 := hG.1
  refine lv_iload_n hx hb dX0_join_0 rfl (lv_at hl 1 rfl) ?_
  refine vx_callv (vx_runS (As := [.int (iI (to))]) (rest := []) ⟨hx, hb, hml, hown, hts⟩ (n_needRegister l htr ω k q z M wk _ (to) (by omega) (by omega)) (va_cwS 1 hts (gU (hd := [.methodLink "NoiseRing" 33 yX0_needRegister, .static yX0_needRegister, .initialized "NoiseRing"]) (List.forall_mem_cons.mpr ⟨u155, List.forall_mem_cons.mpr ⟨u156, List.forall_mem_cons.mpr ⟨u29, fun _ h => by cases h⟩⟩⟩) u157) rfl rfl rfl (by decide +kernel) ⟨Nat.le_of_ble_eq_true rfl, Nat.le_of_ble_eq_true rfl⟩) (gx_Sh hG) rfl rfl hl.1 rfl (lv_room (Nat.le_of_ble_eq_true rfl)) dX0_join_1 ⟨Nat.le_of_ble_eq_true rfl, Nat.le_of_ble_eq_true rfl⟩) hS (fun q9 _ h => h.elim) (fun q9 h => h.elim) (fun q9 _ h => h.elim) (fun E ce q9 u t H1 locs1 ht hvm hpx hBX hz hk hS1 hce hcv hcl => ?_) (fun u t H1 locs1 ht hvm hp1 hB hz hk hS1 => ?_)
  · exact vx_out (E := E) (fun x9 h9 => (hnx x9 h9).elim) hlocks hce hcv hcl (fun t1 ht1 ha1 => ⟨(), trivial, ⟨Or.inl ⟨by omega, hBX.2⟩, by rw [ht1]; exact hG.2.kept (fun a9 g9 => hk a9 g9 (fun f9 => f9))⟩, hS1.F ht1⟩) hS1.2.2 (Nat.le_of_ble_eq_true rfl) (Nat.le_of_ble_eq_true rfl)
  obtain rfl := ht.symm.trans hB
  clear hS
  have hS := hS1
  obtain ⟨to, rfl⟩ := Int.eq_ofNat_of_zero_le hp1.1
  refine lv_iload_n hx hb dX0_join_4 rfl (lv_at hl 3 rfl) ?_
  refine vx_callv (vx_runS (As := [.int (iI (a))]) (rest := []) ⟨hx, hb, hml, hown, hts⟩ (n_needRegister l htr ω k q z M wk _ (a) (by omega) (by omega)) (va_cwS 1 hts (gU (hd := [.methodLink "NoiseRing" 33 yX0_needRegister, .static yX0_needRegister, .initialized "NoiseRing"]) (List.forall_mem_cons.mpr ⟨u155, List.forall_mem_cons.mpr ⟨u156, List.forall_mem_cons.mpr ⟨u29, fun _ h => by cases h⟩⟩⟩) u157) rfl rfl rfl (by decide +kernel) ⟨Nat.le_of_ble_eq_true rfl, Nat.le_of_ble_eq_true rfl⟩) (gx_Sh hG) rfl rfl hl.1 rfl (lv_room (Nat.le_of_ble_eq_true rfl)) dX0_join_5 ⟨Nat.le_of_ble_eq_true rfl, Nat.le_of_ble_eq_true rfl⟩) hS (fun q9 _ h => h.elim) (fun q9 h => h.elim) (fun q9 _ h => h.elim) (fun E ce q9 u t H1 locs1 ht hvm hpx hBX hz hk hS1 hce hcv hcl => ?_) (fun u t H1 locs1 ht hvm hp5 hB hz hk hS1 => ?_)
  · exact vx_out (E := E) (fun x9 h9 => (hnx x9 h9).elim) hlocks hce hcv hcl (fun t1 ht1 ha1 => ⟨(), trivial, ⟨Or.inl ⟨by omega, hBX.2⟩, by rw [ht1]; exact hG.2.kept (fun a9 g9 => hk a9 g9 (fun f9 => f9))⟩, hS1.F ht1⟩) hS1.2.2 (Nat.le_of_ble_eq_true rfl) (Nat.le_of_ble_eq_true rfl)
  obtain rfl := ht.symm.trans hB
  clear hS
  have hS := hS1
  obtain ⟨a, rfl⟩ := Int.eq_ofNat_of_zero_le hp5.1
  refine lv_iload hx hb dX0_join_8 (lv_at hl 4 rfl) ?_
  refine vx_callv (vx_runS (As := [.int (iI (b))]) (rest := []) ⟨hx, hb, hml, hown, hts⟩ (n_needRegister l htr ω k q z M wk _ (b) (by omega) (by omega)) (va_cwS 1 hts (gU (hd := [.methodLink "NoiseRing" 33 yX0_needRegister, .static yX0_needRegister, .initialized "NoiseRing"]) (List.forall_mem_cons.mpr ⟨u155, List.forall_mem_cons.mpr ⟨u156, List.forall_mem_cons.mpr ⟨u29, fun _ h => by cases h⟩⟩⟩) u157) rfl rfl rfl (by decide +kernel) ⟨Nat.le_of_ble_eq_true rfl, Nat.le_of_ble_eq_true rfl⟩) (gx_Sh hG) rfl rfl hl.1 rfl (lv_room (Nat.le_of_ble_eq_true rfl)) dX0_join_10 ⟨Nat.le_of_ble_eq_true rfl, Nat.le_of_ble_eq_true rfl⟩) hS (fun q9 _ h => h.elim) (fun q9 h => h.elim) (fun q9 _ h => h.elim) (fun E ce q9 u t H1 locs1 ht hvm hpx hBX hz hk hS1 hce hcv hcl => ?_) (fun u t H1 locs1 ht hvm hp10 hB hz hk hS1 => ?_)
  · exact vx_out (E := E) (fun x9 h9 => (hnx x9 h9).elim) hlocks hce hcv hcl (fun t1 ht1 ha1 => ⟨(), trivial, ⟨Or.inl ⟨by omega, hBX.2⟩, by rw [ht1]; exact hG.2.kept (fun a9 g9 => hk a9 g9 (fun f9 => f9))⟩, hS1.F ht1⟩) hS1.2.2 (Nat.le_of_ble_eq_true rfl) (Nat.le_of_ble_eq_true rfl)
  obtain rfl := ht.symm.trans hB
  clear hS
  have hS := hS1
  obtain ⟨b, rfl⟩ := Int.eq_ofNat_of_zero_le hp10.1
  refine lv_iload_n hx hb dX0_join_13 rfl (lv_at hl 2 rfl) ?_
  refine ix_if_lt (tgt := 26) hx hb (by omega) (by omega) dX0_join_14 (by decide) (fun h14 => ?_) (fun h14 => ?_)
  · skip
    refine ix_iconst hx hb dX0_join_26 ?_
    refine vx_callv (vx_runS (As := [.int (iI (0))]) (rest := []) ⟨hx, hb, hml, hown, hts⟩ (n_needArgument l htr ω k q z M wk _ (0) (by omega) (by omega)) (va_cwS 1 hts (gU (hd := [.methodLink "NoiseRing" 25 yX0_needArgument, .static yX0_needArgument, .initialized "NoiseRing"]) (List.forall_mem_cons.mpr ⟨u90, List.forall_mem_cons.mpr ⟨u91, List.forall_mem_cons.mpr ⟨u29, fun _ h => by cases h⟩⟩⟩) u92) rfl rfl rfl (by decide +kernel) ⟨Nat.le_of_ble_eq_true rfl, Nat.le_of_ble_eq_true rfl⟩) (gx_Sh hG) rfl rfl hl.1 rfl (lv_room (Nat.le_of_ble_eq_true rfl)) dX0_join_27 ⟨Nat.le_of_ble_eq_true rfl, Nat.le_of_ble_eq_true rfl⟩) hS (fun q9 _ h => h.elim) (fun q9 h => h.elim) (fun q9 _ h => h.elim) (fun E ce q9 u t H1 locs1 ht hvm hpx hBX hz hk hS1 hce hcv hcl => ?_) (fun u t H1 locs1 ht hvm hp27 hB hz hk hS1 => ?_)
    · exact vx_out (E := E) (fun x9 h9 => (hnx x9 h9).elim) hlocks hce hcv hcl (fun t1 ht1 ha1 => ⟨(), trivial, ⟨Or.inr ⟨⟨by omega, by omega, by omega⟩, by omega, hBX.2⟩, by rw [ht1]; exact hG.2.kept (fun a9 g9 => hk a9 g9 (fun f9 => f9))⟩, hS1.F ht1⟩) hS1.2.2 (Nat.le_of_ble_eq_true rfl) (Nat.le_of_ble_eq_true rfl)
    exact (hp27 rfl).elim
  · skip
    refine lv_iload_n hx hb dX0_join_17 rfl (lv_at hl 2 rfl) ?_
    refine ix_iconst hx hb dX0_join_18 ?_
    refine ix_icmp_gt (tgt := 26) hx hb (by omega) (by omega) (by omega) (by omega) dX0_join_19 (by decide) (fun h19 => ?_) (fun h19 => ?_)
    · skip
      refine ix_iconst hx hb dX0_join_26 ?_
      refine vx_callv (vx_runS (As := [.int (iI (0))]) (rest := []) ⟨hx, hb, hml, hown, hts⟩ (n_needArgument l htr ω k q z M wk _ (0) (by omega) (by omega)) (va_cwS 1 hts (gU (hd := [.methodLink "NoiseRing" 25 yX0_needArgument, .static yX0_needArgument, .initialized "NoiseRing"]) (List.forall_mem_cons.mpr ⟨u90, List.forall_mem_cons.mpr ⟨u91, List.forall_mem_cons.mpr ⟨u29, fun _ h => by cases h⟩⟩⟩) u92) rfl rfl rfl (by decide +kernel) ⟨Nat.le_of_ble_eq_true rfl, Nat.le_of_ble_eq_true rfl⟩) (gx_Sh hG) rfl rfl hl.1 rfl (lv_room (Nat.le_of_ble_eq_true rfl)) dX0_join_27 ⟨Nat.le_of_ble_eq_true rfl, Nat.le_of_ble_eq_true rfl⟩) hS (fun q9 _ h => h.elim) (fun q9 h => h.elim) (fun q9 _ h => h.elim) (fun E ce q9 u t H1 locs1 ht hvm hpx hBX hz hk hS1 hce hcv hcl => ?_) (fun u t H1 locs1 ht hvm hp27 hB hz hk hS1 => ?_)
      · exact vx_out (E := E) (fun x9 h9 => (hnx x9 h9).elim) hlocks hce hcv hcl (fun t1 ht1 ha1 => ⟨(), trivial, ⟨Or.inr ⟨⟨by omega, by omega, by omega⟩, by omega, hBX.2⟩, by rw [ht1]; exact hG.2.kept (fun a9 g9 => hk a9 g9 (fun f9 => f9))⟩, hS1.F ht1⟩) hS1.2.2 (Nat.le_of_ble_eq_true rfl) (Nat.le_of_ble_eq_true rfl)
      exact (hp27 rfl).elim
    · skip
      refine ix_iconst hx hb dX0_join_22 ?_
      refine lv_goto (tgt := 27) hx hb dX0_join_23 (by decide) ?_
      refine vx_callv (vx_runS (As := [.int (iI (1))]) (rest := []) ⟨hx, hb, hml, hown, hts⟩ (n_needArgument l htr ω k q z M wk _ (1) (by omega) (by omega)) (va_cwS 1 hts (gU (hd := [.methodLink "NoiseRing" 25 yX0_needArgument, .static yX0_needArgument, .initialized "NoiseRing"]) (List.forall_mem_cons.mpr ⟨u90, List.forall_mem_cons.mpr ⟨u91, List.forall_mem_cons.mpr ⟨u29, fun _ h => by cases h⟩⟩⟩) u92) rfl rfl rfl (by decide +kernel) ⟨Nat.le_of_ble_eq_true rfl, Nat.le_of_ble_eq_true rfl⟩) (gx_Sh hG) rfl rfl hl.1 rfl (lv_room (Nat.le_of_ble_eq_true rfl)) dX0_join_27 ⟨Nat.le_of_ble_eq_true rfl, Nat.le_of_ble_eq_true rfl⟩) hS (fun q9 _ h => h.elim) (fun q9 h => h.elim) (fun q9 _ h => h.elim) (fun E ce q9 u t H1 locs1 ht hvm hpx hBX hz hk hS1 hce hcv hcl => ?_) (fun u t H1 locs1 ht hvm hp27 hB hz hk hS1 => ?_)
      · exact (hBX.1 (by decide)).elim
      obtain rfl := ht.symm.trans hB
      clear hS
      have hS := hS1
      have hg : ∀ i, i < 16 → 0 ≤ (fun i => sJoin q op (M a) (M b) i) i ∧ (fun i => sJoin q op (M a) (M b) i) i < q := fun i hi9 => by
        show 0 ≤ sJoin q op (M a) (M b) i ∧ sJoin q op (M a) (M b) i < q
        unfold sJoin
        split
        · exact ⟨Int.emod_nonneg _ (by omega), Int.emod_lt_of_pos _ (by omega)⟩
        · split
          · exact ⟨Int.emod_nonneg _ (by omega), Int.emod_lt_of_pos _ (by omega)⟩
          · exact ⟨Int.emod_nonneg _ (by omega), Int.emod_lt_of_pos _ (by omega)⟩
      refine ix_iconst hx hb dX0_join_30 ?_
      refine lv_istore (lv' := [(5, .int (iI (0))), (0, .ref (ox ω)), (1, .int (iI (to))), (2, .int (iI (op))), (3, .int (iI (a))), (4, .int (iI (b)))]) hx hb dX0_join_31 hl (by decide) rfl (fun ls hl => ?_)
      refine ix_loopH (I := fun j ls H locs => lv_has ls 6 [(5, .int (iI ((j : Nat)))), (0, .ref (ox ω)), (1, .int (iI (to))), (2, .int (iI (op))), (3, .int (iI (a))), (4, .int (iI (b)))] ∧ GX ω k q z (M) (mixI wk (fun i => sJoin q op (M a) (M b) i) (j)) s H ∧ va_S (Ax ω) s.heap H locs) 16 0 (by omega) ⟨lv_sub hl [0, 1, 2, 3, 4, 5] rfl, (by rw [mixI_0]; exact hG), hS⟩ (fun ls H locs hI => ?_) (fun j ls H locs hj hI ih33 => ?_)
      · obtain ⟨hl, hG, hS⟩ := hI
        have hl : lv_has ls 6 [(5, .int (iI ((16 : Nat)))), (0, .ref (ox ω)), (1, .int (iI (to))), (2, .int (iI (op))), (3, .int (iI (a))), (4, .int (iI (b)))] := hl
        have hM2 := hM
        refine lv_iload hx hb dX0_join_33 (lv_at hl 0 rfl) ?_
        refine ix_bipush hx hb (by decide) dX0_join_35 ?_
        refine ix_icmp_ge (tgt := 73) hx hb (by omega) (by omega) (by omega) (by omega) dX0_join_37 (by decide) (fun h37 => ?_) (fun h37 => absurd h37 (by omega))
        refine lv_aload_n hx hb dX0_join_73 rfl (lv_at hl 1 rfl) ?_
        refine gx_get hx hb hts hown hG 1 (by decide) rfl u56 dX0_join_74 ?_
        refine ix_iconst hx hb dX0_join_77 ?_
        refine lv_aload_n hx hb dX0_join_78 rfl (lv_at hl 1 rfl) ?_
        refine gx_get hx hb hts hown hG 0 (by decide) rfl u55 dX0_join_79 ?_
        refine lv_iload_n hx hb dX0_join_82 rfl (lv_at hl 2 rfl) ?_
        refine gx_row (r := to) hx hb hG (by omega) dX0_join_83 ?_
        refine ix_iconst hx hb dX0_join_84 ?_
        refine ix_bipush hx hb (by decide) dX0_join_85 ?_
        refine gx_copy (to := to) hx hb hts (hml.trans hl.1.symm) hown hG hS (by omega) (Nat.le_of_ble_eq_true rfl) (Nat.le_of_ble_eq_true rfl) dX0_join_87 (fun H1 locs1 hG hS => ?_)
        rw [mixR_mix] at hG
        have hM3 := mixR_in (to := to) (n := 16) hM hg
        refine lv_aload_n hx hb dX0_join_90 rfl (lv_at hl 1 rfl) ?_
        refine lv_aload_n hx hb dX0_join_91 rfl (lv_at hl 1 rfl) ?_
        refine gx_get hx hb hts hown hG 0 (by decide) rfl u55 dX0_join_92 ?_
        refine lv_iload_n hx hb dX0_join_95 rfl (lv_at hl 2 rfl) ?_
        refine gx_row (r := to) hx hb hG (by omega) dX0_join_96 ?_
        refine vp_callSi (va_Run.run (va_runV (As := [.ref (oR ω (to))]) (rest := []) ⟨hx, hb, hml, hown, hts⟩ (c_greatestSize l ω k q z (mixR M to (fun i => sJoin q op (M a) (M b) i) 16) (mixI wk (fun i => sJoin q op (M a) (M b) i) (16)) (to) (by omega) hq1 hq2 hM3) (cwV 1 hts (gU (hd := [.methodLink "NoiseRing" 55 yX0_greatestSize, .instanceMethod yX0_greatestSize, .selects "NoiseRing" yX0_greatestSize yX0_greatestSize, .initialized "NoiseRing"]) (List.forall_mem_cons.mpr ⟨u204, List.forall_mem_cons.mpr ⟨u205, List.forall_mem_cons.mpr ⟨u6, List.forall_mem_cons.mpr ⟨u29, fun _ h => by cases h⟩⟩⟩⟩) u206) rfl rfl rfl (by decide +kernel) ⟨Nat.le_of_ble_eq_true rfl, Nat.le_of_ble_eq_true rfl⟩) (gx_V hG) rfl rfl hl.1 rfl (lv_room (Nat.le_of_ble_eq_true rfl)) dX0_join_97 ⟨Nat.le_of_ble_eq_true rfl, Nat.le_of_ble_eq_true rfl⟩)) (fun r97 hr97 => ?_)
        subst hr97
        refine W.widen (k := 4) (n := 24) (Nat.le_of_ble_eq_true rfl) (Nat.le_of_ble_eq_true rfl) ?_
        exact vx_ret (W.iret hx hb hrt (fun t ht hW => ⟨⟨_, mixI wk (fun i => sJoin q op (M a) (M b) i) 16, rfl, ⟨by omega, congrArg iI (sMax_eq (fun i hi9 => mixR_row hi9))⟩, by have h9 := hG.2; rw [← ht] at h9; exact h9⟩, hS.F ht⟩) hS.2.2 dX0_join_100)
      · obtain ⟨hl, hG, hS⟩ := hI
        have hl : lv_has ls 6 [(5, .int (iI ((j : Nat)))), (0, .ref (ox ω)), (1, .int (iI (to))), (2, .int (iI (op))), (3, .int (iI (a))), (4, .int (iI (b)))] := hl
        have hMj := hM
        refine lv_iload hx hb dX0_join_33 (lv_at hl 0 rfl) ?_
        refine ix_bipush hx hb (by decide) dX0_join_35 ?_
        refine ix_icmp_ge (tgt := 73) hx hb (by omega) (by omega) (by omega) (by omega) dX0_join_37 (by decide) (fun h37 => absurd h37 (by omega)) (fun h37 => ?_)
        refine lv_aload_n hx hb dX0_join_40 rfl (lv_at hl 1 rfl) ?_
        refine gx_get hx hb hts hown hG 1 (by decide) rfl u56 dX0_join_41 ?_
        refine lv_iload hx hb dX0_join_44 (lv_at hl 0 rfl) ?_
        refine lv_aload_n hx hb dX0_join_46 rfl (lv_at hl 1 rfl) ?_
        refine lv_iload_n hx hb dX0_join_47 rfl (lv_at hl 3 rfl) ?_
        refine lv_aload_n hx hb dX0_join_48 rfl (lv_at hl 1 rfl) ?_
        refine gx_get hx hb hts hown hG 0 (by decide) rfl u55 dX0_join_49 ?_
        refine lv_iload_n hx hb dX0_join_52 rfl (lv_at hl 4 rfl) ?_
        refine gx_row (r := a) hx hb hG (by omega) dX0_join_53 ?_
        refine lv_aload_n hx hb dX0_join_54 rfl (lv_at hl 1 rfl) ?_
        refine gx_get hx hb hts hown hG 0 (by decide) rfl u55 dX0_join_55 ?_
        refine lv_iload hx hb dX0_join_58 (lv_at hl 5 rfl) ?_
        refine gx_row (r := b) hx hb hG (by omega) dX0_join_60 ?_
        refine lv_iload hx hb dX0_join_61 (lv_at hl 0 rfl) ?_
        refine vp_callSi (va_Run.run (va_runV (As := [.int (iI (op)), .ref (oR ω (a)), .ref (oR ω (b)), .int (iI ((j : Nat)))]) (rest := [.int (iI ((j : Nat))), .ref (ow ω)]) ⟨hx, hb, hml, hown, hts⟩ (c_joined l ω k q z (M) (mixI wk (fun i => sJoin q op (M a) (M b) i) (j)) (op) (a) (b) (j) (by omega) (by omega) (by omega) (by omega) (by omega) hq1 hq2 hMj) (cwV 4 hts (gU (hd := [.methodLink "NoiseRing" 45 yX0_joined, .instanceMethod yX0_joined, .selects "NoiseRing" yX0_joined yX0_joined, .initialized "NoiseRing"]) (List.forall_mem_cons.mpr ⟨u192, List.forall_mem_cons.mpr ⟨u193, List.forall_mem_cons.mpr ⟨u4, List.forall_mem_cons.mpr ⟨u29, fun _ h => by cases h⟩⟩⟩⟩) u194) rfl rfl rfl (by decide +kernel) ⟨Nat.le_of_ble_eq_true rfl, Nat.le_of_ble_eq_true rfl⟩) (gx_V hG) rfl rfl hl.1 rfl (lv_room (Nat.le_of_ble_eq_true rfl)) dX0_join_63 ⟨Nat.le_of_ble_eq_true rfl, Nat.le_of_ble_eq_true rfl⟩)) (fun r63 hr63 => ?_)
        subst hr63
        refine gx_wst (i := j) hx hb hG hS (by omega) dX0_join_66 (fun H1 locs1 hG hS => ?_)
        refine lv_iinc (k := 0) (v := iI ((j : Nat) + 1)) (lv' := [(5, .int (iI ((j : Nat) + 1))), (0, .ref (ox ω)), (1, .int (iI (to))), (2, .int (iI (op))), (3, .int (iI (a))), (4, .int (iI (b)))]) hx hb dX0_join_67 hl rfl (iI_add _ _) (by decide) rfl (fun ls hl => ?_)
        refine lv_goto (tgt := 33) hx hb dX0_join_70 (by decide) ?_
        exact ih33 ls _ _ ⟨lv_sub hl [0, 1, 2, 3, 4, 5] rfl, (by rw [← mixI_s]; exact hG), hS⟩
set_option maxHeartbeats 4000000 in
set_option maxRecDepth 100000 in
theorem p_far (l : Launch) (htr : l.stackTraces = false) (ω : WX) (k q z : Int) (M : Nat → Nat → Int) (wk : Nat → Int) (a b : Int) (a1 : -2147483648 ≤ a) (a2 : a < 2147483648) (b1 : -2147483648 ≤ b) (b2 : b < 2147483648) (hq1 : 3329 ≤ q) (hq2 : q ≤ 8380417) (hM : ∀ r i, r < 12 → i < 16 → 0 ≤ M r i ∧ M r i < q) : vx_Met l yX0_far wsX0_far ({ frames := 7, cells := 2, slots := 12, locals := 102 }) (va_Pc [.ref (ox ω), .int (iI (a)), .int (iI (b))] (fun U => GX ω k q z M wk U U.heap)) (va_Qi (fun r_ (_ : Nat → Int) => ((0 ≤ a ∧ a < 12) ∧ (0 ≤ b ∧ b < 12)) ∧ r_ = iI (sFar q (M a.toNat) (M b.toNat) 16)) (fun w_ t => CX ω k q z M w_ t.heap) (Ax ω)) (vx_X (fun _ : Unit => True) (fun E _ t => (¬ ((0 ≤ a ∧ a < 12) ∧ (0 ≤ b ∧ b < 12)) ∧ E = nNSE) ∧ CX ω k q z M wk t.heap) (Ax ω)) 2 12 (Ax ω) := by
  refine vx_ofW (cc := cX0_far) (maxL := 5) (ret := (some .int)) (by decide +kernel) rfl ?_
  intro p e s m args below meth c s₁ B hml hnx hv
  obtain ⟨rfl, hG⟩ := hv
  have hx := B.exec
  have hb := B.bytes
  have hrt := B.returns
  have hts : ∀ w ∈ wsU, w.before _ s = true := fun w h => atoms_spec (ws := wsX0_far) B.pre w (List.mem_cons_of_mem _ h)
  have hown : s.vm.findClass "NoiseRing" = some m.cls := findClass_of_methodNamed B.named
  have hlocks := B.notSynchronized
  have hS : va_S (Ax ω) s.heap s.heap [] := va_S.rf
  have hl := lv_entry ([.ref (ox ω), .int (iI (a)), .int (iI (b))]) (n := 5) (Nat.le_of_ble_eq_true rfl)
  rw [lg_entry_eq]
  generalize (lg_sl ([.ref (ox ω), .int (iI (a)), .int (iI (b))]) ++ List.replicate (5 - (lg_sl ([.ref (ox ω), .int (iI (a)), .int (iI (b))])).length) Slot.unset).toArray = ls at hl ⊢
  have hl : lv_has ls 5 [(0, .ref (ox ω)), (1, .int (iI (a))), (2, .int (iI (b)))] := hl
  have hB0 := hG.1
  refine lv_iload_n hx hb dX0_far_0 rfl (lv_at hl 1 rfl) ?_
  refine vx_callv (vx_runS (As := [.int (iI (a))]) (rest := []) ⟨hx, hb, hml, hown, hts⟩ (n_needRegister l htr ω k q z M wk _ (a) (by omega) (by omega)) (va_cwS 1 hts (gU (hd := [.methodLink "NoiseRing" 33 yX0_needRegister, .static yX0_needRegister, .initialized "NoiseRing"]) (List.forall_mem_cons.mpr ⟨u155, List.forall_mem_cons.mpr ⟨u156, List.forall_mem_cons.mpr ⟨u29, fun _ h => by cases h⟩⟩⟩) u157) rfl rfl rfl (by decide +kernel) ⟨Nat.le_of_ble_eq_true rfl, Nat.le_of_ble_eq_true rfl⟩) (gx_Sh hG) rfl rfl hl.1 rfl (lv_room (Nat.le_of_ble_eq_true rfl)) dX0_far_1 ⟨Nat.le_of_ble_eq_true rfl, Nat.le_of_ble_eq_true rfl⟩) hS (fun q9 _ h => h.elim) (fun q9 h => h.elim) (fun q9 _ h => h.elim) (fun E ce q9 u t H1 locs1 ht hvm hpx hBX hz hk hS1 hce hcv hcl => ?_) (fun u t H1 locs1 ht hvm hp1 hB hz hk hS1 => ?_)
  · exact vx_out (E := E) (fun x9 h9 => (hnx x9 h9).elim) hlocks hce hcv hcl (fun t1 ht1 ha1 => ⟨(), trivial, ⟨⟨by omega, hBX.2⟩, by rw [ht1]; exact hG.2.kept (fun a9 g9 => hk a9 g9 (fun f9 => f9))⟩, hS1.F ht1⟩) hS1.2.2 (Nat.le_of_ble_eq_true rfl) (Nat.le_of_ble_eq_true rfl)
  obtain rfl := ht.symm.trans hB
  clear hS
  have hS := hS1
  obtain ⟨a, rfl⟩ := Int.eq_ofNat_of_zero_le hp1.1
  refine lv_iload_n hx hb dX0_far_4 rfl (lv_at hl 2 rfl) ?_
  refine vx_callv (vx_runS (As := [.int (iI (b))]) (rest := []) ⟨hx, hb, hml, hown, hts⟩ (n_needRegister l htr ω k q z M wk _ (b) (by omega) (by omega)) (va_cwS 1 hts (gU (hd := [.methodLink "NoiseRing" 33 yX0_needRegister, .static yX0_needRegister, .initialized "NoiseRing"]) (List.forall_mem_cons.mpr ⟨u155, List.forall_mem_cons.mpr ⟨u156, List.forall_mem_cons.mpr ⟨u29, fun _ h => by cases h⟩⟩⟩) u157) rfl rfl rfl (by decide +kernel) ⟨Nat.le_of_ble_eq_true rfl, Nat.le_of_ble_eq_true rfl⟩) (gx_Sh hG) rfl rfl hl.1 rfl (lv_room (Nat.le_of_ble_eq_true rfl)) dX0_far_5 ⟨Nat.le_of_ble_eq_true rfl, Nat.le_of_ble_eq_true rfl⟩) hS (fun q9 _ h => h.elim) (fun q9 h => h.elim) (fun q9 _ h => h.elim) (fun E ce q9 u t H1 locs1 ht hvm hpx hBX hz hk hS1 hce hcv hcl => ?_) (fun u t H1 locs1 ht hvm hp5 hB hz hk hS1 => ?_)
  · exact vx_out (E := E) (fun x9 h9 => (hnx x9 h9).elim) hlocks hce hcv hcl (fun t1 ht1 ha1 => ⟨(), trivial, ⟨⟨by omega, hBX.2⟩, by rw [ht1]; exact hG.2.kept (fun a9 g9 => hk a9 g9 (fun f9 => f9))⟩, hS1.F ht1⟩) hS1.2.2 (Nat.le_of_ble_eq_true rfl) (Nat.le_of_ble_eq_true rfl)
  obtain rfl := ht.symm.trans hB
  clear hS
  have hS := hS1
  obtain ⟨b, rfl⟩ := Int.eq_ofNat_of_zero_le hp5.1
  refine ix_iconst hx hb dX0_far_8 ?_
  refine lv_istore_n (lv' := [(3, .int (iI (0))), (0, .ref (ox ω)), (1, .int (iI (a))), (2, .int (iI (b)))]) hx hb dX0_far_9 rfl hl (by decide) rfl (fun ls hl => ?_)
  refine ix_iconst hx hb dX0_far_10 ?_
  refine lv_istore (lv' := [(4, .int (iI (0))), (3, .int (iI (0))), (0, .ref (ox ω)), (1, .int (iI (a))), (2, .int (iI (b)))]) hx hb dX0_far_11 hl (by decide) rfl (fun ls hl => ?_)
  refine ix_loop (I := fun j ls => lv_has ls 5 [(4, .int (iI ((j : Nat)))), (3, .int (iI (sFar q (M a) (M b) (j)))), (0, .ref (ox ω)), (1, .int (iI (a))), (2, .int (iI (b)))]) (16) 0 (by omega) (lv_sub hl [0, 1, 2, 3, 4] rfl) (fun ls hl => ?_) (fun j ls hj hl ih13 => ?_)
  · skip
    have hl : lv_has ls 5 [(4, .int (iI ((16 : Nat)))), (3, .int (iI (sFar q (M a) (M b) (16)))), (0, .ref (ox ω)), (1, .int (iI (a))), (2, .int (iI (b)))] := hl
    refine lv_iload hx hb dX0_far_13 (lv_at hl 0 rfl) ?_
    refine ix_bipush hx hb (by decide) dX0_far_15 ?_
    refine ix_icmp_ge (tgt := 59) hx hb (by omega) (by omega) (by omega) (by omega) dX0_far_17 (by decide) (fun h17 => ?_) (fun h17 => absurd h17 (by omega))
    refine lv_iload_n hx hb dX0_far_59 rfl (lv_at hl 1 rfl) ?_
    refine W.widen (k := 2) (n := 12) (Nat.le_of_ble_eq_true rfl) (Nat.le_of_ble_eq_true rfl) ?_
    exact vx_ret (W.iret hx hb hrt (fun t ht hW => ⟨⟨_, wk, rfl, ⟨by omega, congrArg iI (rfl)⟩, by have h9 := hG.2; rw [← ht] at h9; exact h9⟩, hS.F ht⟩) hS.2.2 dX0_far_60)
  · skip
    have hl : lv_has ls 5 [(4, .int (iI ((j : Nat)))), (3, .int (iI (sFar q (M a) (M b) (j)))), (0, .ref (ox ω)), (1, .int (iI (a))), (2, .int (iI (b)))] := hl
    refine lv_iload hx hb dX0_far_13 (lv_at hl 0 rfl) ?_
    refine ix_bipush hx hb (by decide) dX0_far_15 ?_
    refine ix_icmp_ge (tgt := 59) hx hb (by omega) (by omega) (by omega) (by omega) dX0_far_17 (by decide) (fun h17 => absurd h17 (by omega)) (fun h17 => ?_)
    have hm := hM a j (by omega) hj
    have hmb := hM b j (by omega) hj
    have ho1 := Int.emod_nonneg (M a j - M b j) (show q ≠ 0 by omega)
    have ho2 := Int.emod_lt_of_pos (M a j - M b j) (show 0 < q by omega)
    refine lv_iload_n hx hb dX0_far_20 rfl (lv_at hl 1 rfl) ?_
    refine lv_aload_n hx hb dX0_far_21 rfl (lv_at hl 2 rfl) ?_
    refine lv_aload_n hx hb dX0_far_22 rfl (lv_at hl 2 rfl) ?_
    refine gx_get hx hb hts hown hG 0 (by decide) rfl u55 dX0_far_23 ?_
    refine lv_iload_n hx hb dX0_far_26 rfl (lv_at hl 3 rfl) ?_
    refine gx_row (r := a) hx hb hG (by omega) dX0_far_27 ?_
    refine lv_iload hx hb dX0_far_28 (lv_at hl 0 rfl) ?_
    refine gx_ild (r := a) (i := j) hx hb hG (by omega) (by omega) dX0_far_30 ?_
    refine lv_aload_n hx hb dX0_far_31 rfl (lv_at hl 2 rfl) ?_
    refine gx_get hx hb hts hown hG 0 (by decide) rfl u55 dX0_far_32 ?_
    refine lv_iload_n hx hb dX0_far_35 rfl (lv_at hl 4 rfl) ?_
    refine gx_row (r := b) hx hb hG (by omega) dX0_far_36 ?_
    refine lv_iload hx hb dX0_far_37 (lv_at hl 0 rfl) ?_
    refine gx_ild (r := b) (i := j) hx hb hG (by omega) (by omega) dX0_far_39 ?_
    refine ix_isub hx hb dX0_far_40 ?_
    refine lv_aload_n hx hb dX0_far_41 rfl (lv_at hl 2 rfl) ?_
    refine gx_get hx hb hts hown hG 3 (by decide) rfl u58 dX0_far_42 ?_
    refine vp_callSi (va_Run.run (va_runS (As := [.int (iI ((M (a) (j) - M (b) (j)))), .int (iI (q))]) (rest := [.ref (ox ω), .int (iI (sFar q (M a) (M b) (j)))]) ⟨hx, hb, hml, hown, hts⟩ (c_floorModI l ((M (a) (j) - M (b) (j))) (q) (by omega) (by omega) (by omega) (by omega)) (va_cwS 2 hts (gU (hd := [.methodLink "NoiseRing" 39 yJ_floorModI, .static yJ_floorModI, .initialized "java/lang/Math"]) (List.forall_mem_cons.mpr ⟨u175, List.forall_mem_cons.mpr ⟨u176, List.forall_mem_cons.mpr ⟨u36, fun _ h => by cases h⟩⟩⟩) u177) rfl rfl rfl (by decide +kernel) ⟨Nat.le_of_ble_eq_true rfl, Nat.le_of_ble_eq_true rfl⟩) gn_S rfl rfl hl.1 rfl (lv_room (Nat.le_of_ble_eq_true rfl)) dX0_far_45 ⟨Nat.le_of_ble_eq_true rfl, Nat.le_of_ble_eq_true rfl⟩)) (fun r45 hr45 => ?_)
    subst hr45
    refine vp_callSi (va_Run.run (va_runV (As := [.int (iI (((M (a) (j) - M (b) (j)) % q)))]) (rest := [.int (iI (sFar q (M a) (M b) (j)))]) ⟨hx, hb, hml, hown, hts⟩ (c_centredSize l ω k q z M wk (((M (a) (j) - M (b) (j)) % q)) hq1 hq2 (by omega) (by omega)) (cwV 1 hts (gU (hd := [.methodLink "NoiseRing" 85 yX0_centredSize, .instanceMethod yX0_centredSize, .selects "NoiseRing" yX0_centredSize yX0_centredSize, .initialized "NoiseRing"]) (List.forall_mem_cons.mpr ⟨u207, List.forall_mem_cons.mpr ⟨u208, List.forall_mem_cons.mpr ⟨u7, List.forall_mem_cons.mpr ⟨u29, fun _ h => by cases h⟩⟩⟩⟩) u209) rfl rfl rfl (by decide +kernel) ⟨Nat.le_of_ble_eq_true rfl, Nat.le_of_ble_eq_true rfl⟩) (gx_V hG) rfl rfl hl.1 rfl (lv_room (Nat.le_of_ble_eq_true rfl)) dX0_far_48 ⟨Nat.le_of_ble_eq_true rfl, Nat.le_of_ble_eq_true rfl⟩)) (fun r48 hr48 => ?_)
    subst hr48
    refine ix_iadd hx hb dX0_far_51 ?_
    refine lv_istore_n (lv' := [(3, .int (iI ((sFar q (M a) (M b) (j) + (sCs q (((M (a) (j) - M (b) (j)) % q))))))), (4, .int (iI ((j : Nat)))), (0, .ref (ox ω)), (1, .int (iI (a))), (2, .int (iI (b)))]) hx hb dX0_far_52 rfl hl (by decide) rfl (fun ls hl => ?_)
    refine lv_iinc (k := 1) (v := iI ((j : Nat) + 1)) (lv' := [(4, .int (iI ((j : Nat) + 1))), (3, .int (iI ((sFar q (M a) (M b) (j) + (sCs q (((M (a) (j) - M (b) (j)) % q))))))), (0, .ref (ox ω)), (1, .int (iI (a))), (2, .int (iI (b)))]) hx hb dX0_far_53 hl rfl (iI_add _ _) (by decide) rfl (fun ls hl => ?_)
    refine lv_goto (tgt := 13) hx hb dX0_far_56 (by decide) ?_
    exact ih13 ls (lv_sub hl [0, 1, 2, 3, 4] rfl)

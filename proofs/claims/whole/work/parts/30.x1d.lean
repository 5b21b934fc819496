/-! The reference's writing methods, by program (wip/gen/mw.py). -/
set_option maxHeartbeats 4000000 in
set_option maxRecDepth 100000 in
theorem m_noise (l : Launch) (ω : WM) (th k q : Int) (M : Nat → Nat → Int) (f : Nat → Int) (to eta : Int) (low high : Int64) (to1 : -2147483648 ≤ to) (to2 : to < 2147483648) (eta1 : -2147483648 ≤ eta) (eta2 : eta < 2147483648) (hq1 : 3329 ≤ q) (hq2 : q ≤ 8380417) : Met l yX1_noise wsX1_noise ({ frames := 2, cells := 0, slots := 0, locals := 47 }) (va_Pc [.ref (mo ω), .int (iI (to)), .int (iI (eta)), .long (low), .long (high)] (fun U => GM ω th k q M f U U.heap)) (va_Qi (fun r_ (w_ : Int × (Nat → Int)) => (((0 ≤ to ∧ to < 12)) ∧ (1 ≤ eta ∧ eta ≤ 3)) ∧ w_.1 = 0 ∧ r_ = iI (sCnt (fun i => sNoise q low high eta.toNat i) 16) ∨ (¬ ((0 ≤ to ∧ to < 12))) ∧ w_.1 = 1 ∨ (((0 ≤ to ∧ to < 12)) ∧ ¬ (1 ≤ eta ∧ eta ≤ 3)) ∧ w_.1 = 2) (fun (w_ : Int × (Nat → Int)) t => BM ω k q M k q (mixR M to.toNat (fun i => sNoise q low high eta.toNat i) 16) w_ t) (Am ω)) 0 0 (Am ω) := by
  refine Met.ofW (cc := cX1_noise) (maxL := 10) (ret := (some .int)) (by decide +kernel) rfl ?_
  intro p e s m args below meth c s₁ B hml hv
  obtain ⟨rfl, hG⟩ := hv
  have hx := B.exec
  have hb := B.bytes
  have hrt := B.returns
  have hts : ∀ w ∈ wsU, w.before _ s = true := fun w h => atoms_spec (ws := wsX1_noise) B.pre w (List.mem_cons_of_mem _ h)
  have hown : s.vm.findClass "NoiseRingModel" = some m.cls := findClass_of_methodNamed B.named
  have hlocks := B.notSynchronized
  have hS : va_S (Am ω) s.heap s.heap [] := va_S.rf
  have hl := lv_entry ([.ref (mo ω), .int (iI (to)), .int (iI (eta)), .long (low), .long (high)]) (n := 10) (Nat.le_of_ble_eq_true rfl)
  rw [lg_entry_eq]
  generalize (lg_sl ([.ref (mo ω), .int (iI (to)), .int (iI (eta)), .long (low), .long (high)]) ++ List.replicate (10 - (lg_sl ([.ref (mo ω), .int (iI (to)), .int (iI (eta)), .long (low), .long (high)])).length) Slot.unset).toArray = ls at hl ⊢
  have hl : lv_has ls 10 [(0, .ref (mo ω)), (1, .int (iI (to))), (2, .int (iI (eta))), (3, .long (low)), (5, .long (high))] := hl
  refine lv_aload_n hx hb dX1_noise_0 rfl (lv_at hl 0 rfl) ?_
  refine lv_iload_n hx hb dX1_noise_1 rfl (lv_at hl 1 rfl) ?_
  refine vp_callSi (va_Run.run (va_runS (As := [.int (iI (to))]) (rest := [.ref (mo ω)]) ⟨hx, hb, hml, hown, hts⟩ (m_none l (to) (by omega) (by omega)) (va_cwS 1 hts (gU (hd := [.methodLink "NoiseRingModel" 41 yX1_none, .static yX1_none, .initialized "NoiseRingModel"]) (List.forall_mem_cons.mpr ⟨u353, List.forall_mem_cons.mpr ⟨u354, List.forall_mem_cons.mpr ⟨u30, fun _ h => by cases h⟩⟩⟩) u355) rfl rfl rfl (by decide +kernel) ⟨Nat.le_of_ble_eq_true rfl, Nat.le_of_ble_eq_true rfl⟩) gn_S rfl rfl hl.1 rfl (lv_room (Nat.le_of_ble_eq_true rfl)) dX1_noise_2 ⟨Nat.le_of_ble_eq_true rfl, Nat.le_of_ble_eq_true rfl⟩)) (fun r2 hr2 => ?_)
  subst hr2
  refine ix_if_eq (tgt := 12) hx hb (by omega) (by omega) dX1_noise_5 (by decide) (fun h5 => ?_) (fun h5 => ?_)
  · skip
    refine lv_iload_n hx hb dX1_noise_12 rfl (lv_at hl 2 rfl) ?_
    refine ix_iconst hx hb dX1_noise_13 ?_
    refine ix_icmp_lt (tgt := 22) hx hb (by omega) (by omega) (by omega) (by omega) dX1_noise_14 (by decide) (fun h14 => ?_) (fun h14 => ?_)
    · skip
      refine ix_iconst hx hb dX1_noise_22 ?_
      refine lv_goto (tgt := 27) hx hb dX1_noise_23 (by decide) ?_
      refine gm_put0 hx hb hts hown hG hS u324 dX1_noise_27 (fun H1 locs1 hG hS => ?_)
      refine lv_aload_n hx hb dX1_noise_30 rfl (lv_at hl 0 rfl) ?_
      refine gm_get hx hb hts hown hG 0 (by decide) rfl u324 dX1_noise_31 ?_
      refine ix_if_le (tgt := 39) hx hb (by omega) (by omega) dX1_noise_34 (by decide) (fun h34 => absurd h34 (by omega)) (fun h34 => ?_)
      refine ix_iconst hx hb dX1_noise_37 ?_
      exact W.iret hx hb hrt (fun t ht hW => ⟨⟨_, (2, f), rfl, Or.inr (Or.inr ⟨⟨by omega, by omega⟩, rfl⟩), ⟨fun g9 => absurd g9 (show ¬ (2 : Int) = 0 by decide), fun _ => by have h9 := hG.2; rw [← ht] at h9; exact h9⟩⟩, hS.F ht⟩) hS.2.2 dX1_noise_38
    · skip
      refine lv_iload_n hx hb dX1_noise_17 rfl (lv_at hl 2 rfl) ?_
      refine ix_iconst hx hb dX1_noise_18 ?_
      refine ix_icmp_le (tgt := 26) hx hb (by omega) (by omega) (by omega) (by omega) dX1_noise_19 (by decide) (fun h19 => ?_) (fun h19 => ?_)
      · skip
        refine ix_iconst hx hb dX1_noise_26 ?_
        refine gm_put0 hx hb hts hown hG hS u324 dX1_noise_27 (fun H1 locs1 hG hS => ?_)
        refine lv_aload_n hx hb dX1_noise_30 rfl (lv_at hl 0 rfl) ?_
        refine gm_get hx hb hts hown hG 0 (by decide) rfl u324 dX1_noise_31 ?_
        refine ix_if_le (tgt := 39) hx hb (by omega) (by omega) dX1_noise_34 (by decide) (fun h34 => ?_) (fun h34 => absurd h34 (by omega))
        obtain ⟨to, rfl⟩ := Int.eq_ofNat_of_zero_le (show 0 ≤ to by omega)
        obtain ⟨eta, rfl⟩ := Int.eq_ofNat_of_zero_le (show 0 ≤ eta by omega)
        have hg : ∀ i, i < 16 → 0 ≤ (fun i => sNoise q low high eta i) i ∧ (fun i => sNoise q low high eta i) i < q := fun i hi9 => ⟨Int.emod_nonneg _ (by omega), Int.emod_lt_of_pos _ (by omega)⟩
        refine ix_iconst hx hb dX1_noise_39 ?_
        refine lv_istore (lv' := [(7, .int (iI (0))), (0, .ref (mo ω)), (1, .int (iI (to))), (2, .int (iI (eta))), (3, .long (low)), (5, .long (high))]) hx hb dX1_noise_40 hl (by decide) rfl (fun ls hl => ?_)
        refine ix_loopH (I := fun j ls H locs => lv_has ls 10 [(7, .int (iI ((j : Nat)))), (0, .ref (mo ω)), (1, .int (iI (to))), (2, .int (iI (eta))), (3, .long (low)), (5, .long (high))] ∧ GM ω (0) (k) (q) (M) (mixI f (fun i => sNoise q low high eta i) (j)) s H ∧ va_S (Am ω) s.heap H locs) 16 0 (by omega) ⟨lv_sub hl [0, 1, 2, 3, 4, 5] rfl, (by rw [mixI_0]; exact hG), hS⟩ (fun ls H locs hI => ?_) (fun j ls H locs hj hI ih42 => ?_)
        · obtain ⟨hl, hG, hS⟩ := hI
          have hl : lv_has ls 10 [(7, .int (iI ((16 : Nat)))), (0, .ref (mo ω)), (1, .int (iI (to))), (2, .int (iI (eta))), (3, .long (low)), (5, .long (high))] := hl
          have hf2 : ∀ i, i < 16 → 0 ≤ mixI f (fun i => sNoise q low high eta i) (16) i ∧ mixI f (fun i => sNoise q low high eta i) (16) i < q := fun i hi9 => by rw [mixI_at hi9]; exact hg i hi9
          refine lv_iload hx hb dX1_noise_42 (lv_at hl 0 rfl) ?_
          refine ix_bipush hx hb (by decide) dX1_noise_44 ?_
          refine ix_icmp_ge (tgt := 125) hx hb (by omega) (by omega) (by omega) (by omega) dX1_noise_46 (by decide) (fun h46 => ?_) (fun h46 => absurd h46 (by omega))
          refine lv_aload_n hx hb dX1_noise_125 rfl (lv_at hl 1 rfl) ?_
          refine lv_iload_n hx hb dX1_noise_126 rfl (lv_at hl 2 rfl) ?_
          refine va_calli (va_runV (As := [.int (iI (to))]) (rest := []) ⟨hx, hb, hml, hown, hts⟩ (m_put l ω (0) (k) (q) (M) (mixI f (fun i => sNoise q low high eta i) (16)) (to) hq1 hq2 (by omega) hf2) (cwV 1 hts (gU (hd := [.methodLink "NoiseRingModel" 52 yX1_put, .instanceMethod yX1_put, .selects "NoiseRingModel" yX1_put yX1_put, .initialized "NoiseRingModel"]) (List.forall_mem_cons.mpr ⟨u371, List.forall_mem_cons.mpr ⟨u372, List.forall_mem_cons.mpr ⟨u18, List.forall_mem_cons.mpr ⟨u30, fun _ h => by cases h⟩⟩⟩⟩) u373) rfl rfl rfl (by decide +kernel) ⟨Nat.le_of_ble_eq_true rfl, Nat.le_of_ble_eq_true rfl⟩) (gm_V hG) rfl rfl hl.1 rfl (lv_room (Nat.le_of_ble_eq_true rfl)) dX1_noise_127 ⟨Nat.le_of_ble_eq_true rfl, Nat.le_of_ble_eq_true rfl⟩) hS (fun q9 _ h => h) (fun q9 h => h) (fun r127 u9 t H1 locs1 ht hvm hr127 hB hz hk hS1 => ?_)
          subst hr127
          clear hS
          have hS := hS1
          rw [ht] at hB
          have hG : GM ω (0) (k) (q) (mixR (M) (to) (mixI f (fun i => sNoise q low high eta i) (16)) 16) (mixI f (fun i => sNoise q low high eta i) (16)) s H1 := ⟨hG.1, hB⟩
          rw [mixR_mix] at hG
          exact W.iret hx hb hrt (fun t ht hW => ⟨⟨_, (0, mixI f (fun i => sNoise q low high eta i) (16)), rfl, Or.inl ⟨⟨by omega, by omega⟩, rfl, congrArg iI (sCnt_eq (fun i hi9 => mixI_at hi9))⟩, ⟨fun _ => by have h9 := hG.2; rw [← ht] at h9; exact h9, fun g9 => absurd rfl g9⟩⟩, hS.F ht⟩) hS.2.2 dX1_noise_130
        · obtain ⟨hl, hG, hS⟩ := hI
          have hl : lv_has ls 10 [(7, .int (iI ((j : Nat)))), (0, .ref (mo ω)), (1, .int (iI (to))), (2, .int (iI (eta))), (3, .long (low)), (5, .long (high))] := hl
          have he : 2 * eta * j + eta + eta ≤ 96 := by
            rcases (show eta = 1 ∨ eta = 2 ∨ eta = 3 by omega) with rfl | rfl | rfl <;> omega
          refine lv_iload hx hb dX1_noise_42 (lv_at hl 0 rfl) ?_
          refine ix_bipush hx hb (by decide) dX1_noise_44 ?_
          refine ix_icmp_ge (tgt := 125) hx hb (by omega) (by omega) (by omega) (by omega) dX1_noise_46 (by decide) (fun h46 => absurd h46 (by omega)) (fun h46 => ?_)
          refine ix_iconst hx hb dX1_noise_49 ?_
          refine lv_istore (lv' := [(8, .int (iI ((sOnes low high (2 * eta * j) (0) - sOnes low high (2 * eta * j + eta) (0))))), (7, .int (iI ((j : Nat)))), (0, .ref (mo ω)), (1, .int (iI (to))), (2, .int (iI (eta))), (3, .long (low)), (5, .long (high))]) hx hb dX1_noise_50 hl (by decide) rfl (fun ls hl => ?_)
          refine ix_iconst hx hb dX1_noise_52 ?_
          refine lv_istore (lv' := [(9, .int (iI (0))), (8, .int (iI ((sOnes low high (2 * eta * j) (0) - sOnes low high (2 * eta * j + eta) (0))))), (7, .int (iI ((j : Nat)))), (0, .ref (mo ω)), (1, .int (iI (to))), (2, .int (iI (eta))), (3, .long (low)), (5, .long (high))]) hx hb dX1_noise_53 hl (by decide) rfl (fun ls hl => ?_)
          refine ix_loop (I := fun t ls => lv_has ls 10 [(9, .int (iI ((t : Nat)))), (8, .int (iI ((sOnes low high (2 * eta * j) (t) - sOnes low high (2 * eta * j + eta) (t))))), (7, .int (iI ((j : Nat)))), (0, .ref (mo ω)), (1, .int (iI (to))), (2, .int (iI (eta))), (3, .long (low)), (5, .long (high))]) (eta) 0 (by omega) (lv_sub hl [0, 1, 2, 3, 4, 5, 6, 7] rfl) (fun ls hl => ?_) (fun t ls ht hl ih55 => ?_)
          · skip
            have hl : lv_has ls 10 [(9, .int (iI ((eta : Nat)))), (8, .int (iI ((sOnes low high (2 * eta * j) (eta) - sOnes low high (2 * eta * j + eta) (eta))))), (7, .int (iI ((j : Nat)))), (0, .ref (mo ω)), (1, .int (iI (to))), (2, .int (iI (eta))), (3, .long (low)), (5, .long (high))] := hl
            refine lv_iload hx hb dX1_noise_55 (lv_at hl 0 rfl) ?_
            refine lv_iload_n hx hb dX1_noise_57 rfl (lv_at hl 5 rfl) ?_
            refine ix_icmp_ge (tgt := 105) hx hb (by omega) (by omega) (by omega) (by omega) dX1_noise_58 (by decide) (fun h58 => ?_) (fun h58 => absurd h58 (by omega))
            have ho1 := sOnes_in low high (2 * eta * j) eta
            have ho2 := sOnes_in low high (2 * eta * j + eta) eta
            refine lv_aload_n hx hb dX1_noise_105 rfl (lv_at hl 3 rfl) ?_
            refine gm_get hx hb hts hown hG 4 (by decide) rfl u328 dX1_noise_106 ?_
            refine lv_iload hx hb dX1_noise_109 (lv_at hl 2 rfl) ?_
            refine lv_aload_n hx hb dX1_noise_111 rfl (lv_at hl 3 rfl) ?_
            refine lv_iload hx hb dX1_noise_112 (lv_at hl 1 rfl) ?_
            refine ix_i2l hx hb (by omega) (by omega) dX1_noise_114 ?_
            refine vp_callSi (va_Run.run (va_runV (As := [.long (lI ((sOnes low high (2 * eta * j) (eta) - sOnes low high (2 * eta * j + eta) (eta))))]) (rest := [.int (iI ((j : Nat))), .ref (md ω)]) ⟨hx, hb, hml, hown, hts⟩ (m_of l ω (0) (k) (q) (M) (mixI f (fun i => sNoise q low high eta i) (j)) ((sOnes low high (2 * eta * j) (eta) - sOnes low high (2 * eta * j + eta) (eta))) hq1 hq2 (by omega) (by omega)) (cwV 1 hts (gU (hd := [.methodLink "NoiseRingModel" 48 yX1_of, .instanceMethod yX1_of, .selects "NoiseRingModel" yX1_of yX1_of, .initialized "NoiseRingModel"]) (List.forall_mem_cons.mpr ⟨u359, List.forall_mem_cons.mpr ⟨u360, List.forall_mem_cons.mpr ⟨u17, List.forall_mem_cons.mpr ⟨u30, fun _ h => by cases h⟩⟩⟩⟩) u361) rfl rfl rfl (by decide +kernel) ⟨Nat.le_of_ble_eq_true rfl, Nat.le_of_ble_eq_true rfl⟩) (gm_V hG) rfl rfl hl.1 rfl (lv_room (Nat.le_of_ble_eq_true rfl)) dX1_noise_115 ⟨Nat.le_of_ble_eq_true rfl, Nat.le_of_ble_eq_true rfl⟩)) (fun r115 hr115 => ?_)
            subst hr115
            refine wx_i (congrArg iI (show ((sOnes low high (2 * eta * j) (eta) - sOnes low high (2 * eta * j + eta) (eta))) % q = (fun i => sNoise q low high eta i) j from ?_)) ?_
            · rfl
            refine gm_mst (i := j) hx hb hG hS (by omega) dX1_noise_118 (fun H1 locs1 hG hS => ?_)
            refine lv_iinc (k := 2) (v := iI ((j : Nat) + 1)) (lv' := [(7, .int (iI ((j : Nat) + 1))), (9, .int (iI ((eta : Nat)))), (8, .int (iI ((sOnes low high (2 * eta * j) (eta) - sOnes low high (2 * eta * j + eta) (eta))))), (0, .ref (mo ω)), (1, .int (iI (to))), (2, .int (iI (eta))), (3, .long (low)), (5, .long (high))]) hx hb dX1_noise_119 hl rfl (iI_add _ _) (by decide) rfl (fun ls hl => ?_)
            refine lv_goto (tgt := 42) hx hb dX1_noise_122 (by decide) ?_
            exact ih42 ls _ _ ⟨lv_sub hl [0, 3, 4, 5, 6, 7] rfl, (by rw [← mixI_s]; exact hG), hS⟩
          · skip
            have hl : lv_has ls 10 [(9, .int (iI ((t : Nat)))), (8, .int (iI ((sOnes low high (2 * eta * j) (t) - sOnes low high (2 * eta * j + eta) (t))))), (7, .int (iI ((j : Nat)))), (0, .ref (mo ω)), (1, .int (iI (to))), (2, .int (iI (eta))), (3, .long (low)), (5, .long (high))] := hl
            refine lv_iload hx hb dX1_noise_55 (lv_at hl 0 rfl) ?_
            refine lv_iload_n hx hb dX1_noise_57 rfl (lv_at hl 5 rfl) ?_
            refine ix_icmp_ge (tgt := 105) hx hb (by omega) (by omega) (by omega) (by omega) dX1_noise_58 (by decide) (fun h58 => absurd h58 (by omega)) (fun h58 => ?_)
            refine lv_iload hx hb dX1_noise_61 (lv_at hl 1 rfl) ?_
            refine lv_lload_n hx hb dX1_noise_63 rfl (lv_at hl 6 rfl) ?_
            refine lv_lload hx hb dX1_noise_64 (lv_at hl 7 rfl) ?_
            refine ix_iconst hx hb dX1_noise_66 ?_
            refine lv_iload_n hx hb dX1_noise_67 rfl (lv_at hl 5 rfl) ?_
            refine ix_imul hx hb dX1_noise_68 ?_
            refine lv_iload hx hb dX1_noise_69 (lv_at hl 2 rfl) ?_
            refine ix_imul hx hb dX1_noise_71 ?_
            refine wx_i (congrArg iI (show (2 * (eta : Int)) * ((j : Nat) : Int) = ((2 * eta * j : Nat) : Int) by rw [Int.natCast_mul, Int.natCast_mul]; rfl)) ?_
            refine lv_iload hx hb dX1_noise_72 (lv_at hl 0 rfl) ?_
            refine ix_iadd hx hb dX1_noise_74 ?_
            refine wx_i (congrArg iI (show ((2 * eta * j : Nat) : Int) + ((t : Nat) : Int) = ((2 * eta * j + t : Nat) : Int) by omega)) ?_
            refine vp_callSi (va_Run.run (va_runS (As := [.long (low), .long (high), .int (iI ((2 * eta * j + t : Nat)))]) (rest := [.int (iI ((sOnes low high (2 * eta * j) (t) - sOnes low high (2 * eta * j + eta) (t))))]) ⟨hx, hb, hml, hown, hts⟩ (m_bit l low high (2 * eta * j + t) (by omega)) (va_cwS 3 hts (gU (hd := [.methodLink "NoiseRingModel" 75 yX1_bit, .static yX1_bit, .initialized "NoiseRingModel"]) (List.forall_mem_cons.mpr ⟨u423, List.forall_mem_cons.mpr ⟨u424, List.forall_mem_cons.mpr ⟨u30, fun _ h => by cases h⟩⟩⟩) u425) rfl rfl rfl (by decide +kernel) ⟨Nat.le_of_ble_eq_true rfl, Nat.le_of_ble_eq_true rfl⟩) gn_S rfl rfl hl.1 rfl (lv_room (Nat.le_of_ble_eq_true rfl)) dX1_noise_75 ⟨Nat.le_of_ble_eq_true rfl, Nat.le_of_ble_eq_true rfl⟩)) (fun r75 hr75 => ?_)
            subst hr75
            refine lv_lload_n hx hb dX1_noise_78 rfl (lv_at hl 6 rfl) ?_
            refine lv_lload hx hb dX1_noise_79 (lv_at hl 7 rfl) ?_
            refine ix_iconst hx hb dX1_noise_81 ?_
            refine lv_iload_n hx hb dX1_noise_82 rfl (lv_at hl 5 rfl) ?_
            refine ix_imul hx hb dX1_noise_83 ?_
            refine lv_iload hx hb dX1_noise_84 (lv_at hl 2 rfl) ?_
            refine ix_imul hx hb dX1_noise_86 ?_
            refine wx_i (congrArg iI (show (2 * (eta : Int)) * ((j : Nat) : Int) = ((2 * eta * j : Nat) : Int) by rw [Int.natCast_mul, Int.natCast_mul]; rfl)) ?_
            refine lv_iload_n hx hb dX1_noise_87 rfl (lv_at hl 5 rfl) ?_
            refine ix_iadd hx hb dX1_noise_88 ?_
            refine wx_i (congrArg iI (show ((2 * eta * j : Nat) : Int) + (eta : Int) = ((2 * eta * j + eta : Nat) : Int) by omega)) ?_
            refine lv_iload hx hb dX1_noise_89 (lv_at hl 0 rfl) ?_
            refine ix_iadd hx hb dX1_noise_91 ?_
            refine wx_i (congrArg iI (show ((2 * eta * j + eta : Nat) : Int) + ((t : Nat) : Int) = ((2 * eta * j + eta + t : Nat) : Int) by omega)) ?_
            refine vp_callSi (va_Run.run (va_runS (As := [.long (low), .long (high), .int (iI ((2 * eta * j + eta + t : Nat)))]) (rest := [.int (iI (sBit low high (2 * eta * j + t))), .int (iI ((sOnes low high (2 * eta * j) (t) - sOnes low high (2 * eta * j + eta) (t))))]) ⟨hx, hb, hml, hown, hts⟩ (m_bit l low high (2 * eta * j + eta + t) (by omega)) (va_cwS 3 hts (gU (hd := [.methodLink "NoiseRingModel" 75 yX1_bit, .static yX1_bit, .initialized "NoiseRingModel"]) (List.forall_mem_cons.mpr ⟨u423, List.forall_mem_cons.mpr ⟨u424, List.forall_mem_cons.mpr ⟨u30, fun _ h => by cases h⟩⟩⟩) u425) rfl rfl rfl (by decide +kernel) ⟨Nat.le_of_ble_eq_true rfl, Nat.le_of_ble_eq_true rfl⟩) gn_S rfl rfl hl.1 rfl (lv_room (Nat.le_of_ble_eq_true rfl)) dX1_noise_92 ⟨Nat.le_of_ble_eq_true rfl, Nat.le_of_ble_eq_true rfl⟩)) (fun r92 hr92 => ?_)
            subst hr92
            refine ix_isub hx hb dX1_noise_95 ?_
            refine ix_iadd hx hb dX1_noise_96 ?_
            refine wx_i (congrArg iI (show ((sOnes low high (2 * eta * j) (t) - sOnes low high (2 * eta * j + eta) (t)) + (sBit low high (2 * eta * j + t) - sBit low high (2 * eta * j + eta + t))) = (sOnes low high (2 * eta * j) (t + 1) - sOnes low high (2 * eta * j + eta) (t + 1)) by rw [sOnes, sOnes]; omega)) ?_
            refine lv_istore (lv' := [(8, .int (iI ((sOnes low high (2 * eta * j) (t + 1) - sOnes low high (2 * eta * j + eta) (t + 1))))), (9, .int (iI ((t : Nat)))), (7, .int (iI ((j : Nat)))), (0, .ref (mo ω)), (1, .int (iI (to))), (2, .int (iI (eta))), (3, .long (low)), (5, .long (high))]) hx hb dX1_noise_97 hl (by decide) rfl (fun ls hl => ?_)
            refine lv_iinc (k := 1) (v := iI ((t : Nat) + 1)) (lv' := [(9, .int (iI ((t : Nat) + 1))), (8, .int (iI ((sOnes low high (2 * eta * j) (t + 1) - sOnes low high (2 * eta * j + eta) (t + 1))))), (7, .int (iI ((j : Nat)))), (0, .ref (mo ω)), (1, .int (iI (to))), (2, .int (iI (eta))), (3, .long (low)), (5, .long (high))]) hx hb dX1_noise_99 hl rfl (iI_add _ _) (by decide) rfl (fun ls hl => ?_)
            refine lv_goto (tgt := 55) hx hb dX1_noise_102 (by decide) ?_
            exact ih55 ls (lv_sub hl [0, 1, 2, 3, 4, 5, 6, 7] rfl)
      · skip
        refine ix_iconst hx hb dX1_noise_22 ?_
        refine lv_goto (tgt := 27) hx hb dX1_noise_23 (by decide) ?_
        refine gm_put0 hx hb hts hown hG hS u324 dX1_noise_27 (fun H1 locs1 hG hS => ?_)
        refine lv_aload_n hx hb dX1_noise_30 rfl (lv_at hl 0 rfl) ?_
        refine gm_get hx hb hts hown hG 0 (by decide) rfl u324 dX1_noise_31 ?_
        refine ix_if_le (tgt := 39) hx hb (by omega) (by omega) dX1_noise_34 (by decide) (fun h34 => absurd h34 (by omega)) (fun h34 => ?_)
        refine ix_iconst hx hb dX1_noise_37 ?_
        exact W.iret hx hb hrt (fun t ht hW => ⟨⟨_, (2, f), rfl, Or.inr (Or.inr ⟨⟨by omega, by omega⟩, rfl⟩), ⟨fun g9 => absurd g9 (show ¬ (2 : Int) = 0 by decide), fun _ => by have h9 := hG.2; rw [← ht] at h9; exact h9⟩⟩, hS.F ht⟩) hS.2.2 dX1_noise_38
  · skip
    refine ix_iconst hx hb dX1_noise_8 ?_
    refine lv_goto (tgt := 27) hx hb dX1_noise_9 (by decide) ?_
    refine gm_put0 hx hb hts hown hG hS u324 dX1_noise_27 (fun H1 locs1 hG hS => ?_)
    refine lv_aload_n hx hb dX1_noise_30 rfl (lv_at hl 0 rfl) ?_
    refine gm_get hx hb hts hown hG 0 (by decide) rfl u324 dX1_noise_31 ?_
    refine ix_if_le (tgt := 39) hx hb (by omega) (by omega) dX1_noise_34 (by decide) (fun h34 => absurd h34 (by omega)) (fun h34 => ?_)
    refine ix_iconst hx hb dX1_noise_37 ?_
    exact W.iret hx hb hrt (fun t ht hW => ⟨⟨_, (1, f), rfl, Or.inr (Or.inl ⟨by omega, rfl⟩), ⟨fun g9 => absurd g9 (show ¬ (1 : Int) = 0 by decide), fun _ => by have h9 := hG.2; rw [← ht] at h9; exact h9⟩⟩, hS.F ht⟩) hS.2.2 dX1_noise_38
set_option maxHeartbeats 4000000 in
set_option maxRecDepth 100000 in
theorem m_round (l : Launch) (ω : WM) (th k q : Int) (M : Nat → Nat → Int) (f : Nat → Int) (to op a d : Int) (to1 : -2147483648 ≤ to) (to2 : to < 2147483648) (op1 : -2147483648 ≤ op) (op2 : op < 2147483648) (a1 : -2147483648 ≤ a) (a2 : a < 2147483648) (d1 : -2147483648 ≤ d) (d2 : d < 2147483648) (hq1 : 3329 ≤ q) (hq2 : q ≤ 8380417) (hM : ∀ r i, r < 12 → i < 16 → 0 ≤ M r i ∧ M r i < q) (k1 : 0 ≤ k) (k2 : k ≤ 1) (qk : q = kQ k) : Met l yX1_round wsX1_round ({ frames := 2, cells := 0, slots := 0, locals := 47 }) (va_Pc [.ref (mo ω), .int (iI (to)), .int (iI (op)), .int (iI (a)), .int (iI (d))] (fun U => GM ω th k q M f U U.heap)) (va_Qi (fun r_ (w_ : Int × (Nat → Int)) => (((0 ≤ to ∧ to < 12) ∧ (0 ≤ a ∧ a < 12)) ∧ ((0 ≤ op ∧ op ≤ 3) ∧ 1 ≤ d ∧ d ≤ kD k)) ∧ w_.1 = 0 ∧ r_ = iI (sCnt (fun i => sRound q op (M a.toNat i) d.toNat) 16) ∨ (¬ ((0 ≤ to ∧ to < 12) ∧ (0 ≤ a ∧ a < 12))) ∧ w_.1 = 1 ∨ (((0 ≤ to ∧ to < 12) ∧ (0 ≤ a ∧ a < 12)) ∧ ¬ ((0 ≤ op ∧ op ≤ 3) ∧ 1 ≤ d ∧ d ≤ kD k)) ∧ w_.1 = 2) (fun (w_ : Int × (Nat → Int)) t => BM ω k q M k q (mixR M to.toNat (fun i => sRound q op (M a.toNat i) d.toNat) 16) w_ t) (Am ω)) 0 0 (Am ω) := by
  refine Met.ofW (cc := cX1_round) (maxL := 11) (ret := (some .int)) (by decide +kernel) rfl ?_
  intro p e s m args below meth c s₁ B hml hv
  obtain ⟨rfl, hG⟩ := hv
  have hx := B.exec
  have hb := B.bytes
  have hrt := B.returns
  have hts : ∀ w ∈ wsU, w.before _ s = true := fun w h => atoms_spec (ws := wsX1_round) B.pre w (List.mem_cons_of_mem _ h)
  have hown : s.vm.findClass "NoiseRingModel" = some m.cls := findClass_of_methodNamed B.named
  have hlocks := B.notSynchronized
  have hS : va_S (Am ω) s.heap s.heap [] := va_S.rf
  have hl := lv_entry ([.ref (mo ω), .int (iI (to)), .int (iI (op)), .int (iI (a)), .int (iI (d))]) (n := 11) (Nat.le_of_ble_eq_true rfl)
  rw [lg_entry_eq]
  generalize (lg_sl ([.ref (mo ω), .int (iI (to)), .int (iI (op)), .int (iI (a)), .int (iI (d))]) ++ List.replicate (11 - (lg_sl ([.ref (mo ω), .int (iI (to)), .int (iI (op)), .int (iI (a)), .int (iI (d))])).length) Slot.unset).toArray = ls at hl ⊢
  have hl : lv_has ls 11 [(0, .ref (mo ω)), (1, .int (iI (to))), (2, .int (iI (op))), (3, .int (iI (a))), (4, .int (iI (d)))] := hl
  have hkd : kD k ≤ 22 ∧ 11 ≤ kD k := by unfold kD; split <;> omega
  refine lv_aload_n hx hb dX1_round_0 rfl (lv_at hl 0 rfl) ?_
  refine lv_iload_n hx hb dX1_round_1 rfl (lv_at hl 1 rfl) ?_
  refine vp_callSi (va_Run.run (va_runS (As := [.int (iI (to))]) (rest := [.ref (mo ω)]) ⟨hx, hb, hml, hown, hts⟩ (m_none l (to) (by omega) (by omega)) (va_cwS 1 hts (gU (hd := [.methodLink "NoiseRingModel" 41 yX1_none, .static yX1_none, .initialized "NoiseRingModel"]) (List.forall_mem_cons.mpr ⟨u353, List.forall_mem_cons.mpr ⟨u354, List.forall_mem_cons.mpr ⟨u30, fun _ h => by cases h⟩⟩⟩) u355) rfl rfl rfl (by decide +kernel) ⟨Nat.le_of_ble_eq_true rfl, Nat.le_of_ble_eq_true rfl⟩) gn_S rfl rfl hl.1 rfl (lv_room (Nat.le_of_ble_eq_true rfl)) dX1_round_2 ⟨Nat.le_of_ble_eq_true rfl, Nat.le_of_ble_eq_true rfl⟩)) (fun r2 hr2 => ?_)
  subst hr2
  refine ix_if_ne (tgt := 15) hx hb (by omega) (by omega) dX1_round_5 (by decide) (fun h5 => ?_) (fun h5 => ?_)
  · skip
    refine ix_iconst hx hb dX1_round_15 ?_
    refine lv_goto (tgt := 58) hx hb dX1_round_16 (by decide) ?_
    refine gm_put0 hx hb hts hown hG hS u324 dX1_round_58 (fun H1 locs1 hG hS => ?_)
    refine lv_aload_n hx hb dX1_round_61 rfl (lv_at hl 0 rfl) ?_
    refine gm_get hx hb hts hown hG 0 (by decide) rfl u324 dX1_round_62 ?_
    refine ix_if_le (tgt := 70) hx hb (by omega) (by omega) dX1_round_65 (by decide) (fun h65 => absurd h65 (by omega)) (fun h65 => ?_)
    refine ix_iconst hx hb dX1_round_68 ?_
    exact W.iret hx hb hrt (fun t ht hW => ⟨⟨_, (1, f), rfl, Or.inr (Or.inl ⟨by omega, rfl⟩), ⟨fun g9 => absurd g9 (show ¬ (1 : Int) = 0 by decide), fun _ => by have h9 := hG.2; rw [← ht] at h9; exact h9⟩⟩, hS.F ht⟩) hS.2.2 dX1_round_69
  · skip
    refine lv_iload_n hx hb dX1_round_8 rfl (lv_at hl 3 rfl) ?_
    refine vp_callSi (va_Run.run (va_runS (As := [.int (iI (a))]) (rest := [.ref (mo ω)]) ⟨hx, hb, hml, hown, hts⟩ (m_none l (a) (by omega) (by omega)) (va_cwS 1 hts (gU (hd := [.methodLink "NoiseRingModel" 41 yX1_none, .static yX1_none, .initialized "NoiseRingModel"]) (List.forall_mem_cons.mpr ⟨u353, List.forall_mem_cons.mpr ⟨u354, List.forall_mem_cons.mpr ⟨u30, fun _ h => by cases h⟩⟩⟩) u355) rfl rfl rfl (by decide +kernel) ⟨Nat.le_of_ble_eq_true rfl, Nat.le_of_ble_eq_true rfl⟩) gn_S rfl rfl hl.1 rfl (lv_room (Nat.le_of_ble_eq_true rfl)) dX1_round_9 ⟨Nat.le_of_ble_eq_true rfl, Nat.le_of_ble_eq_true rfl⟩)) (fun r9 hr9 => ?_)
    subst hr9
    refine ix_if_eq (tgt := 19) hx hb (by omega) (by omega) dX1_round_12 (by decide) (fun h12 => ?_) (fun h12 => ?_)
    · skip
      refine lv_iload_n hx hb dX1_round_19 rfl (lv_at hl 2 rfl) ?_
      refine ix_if_lt (tgt := 53) hx hb (by omega) (by omega) dX1_round_20 (by decide) (fun h20 => ?_) (fun h20 => ?_)
      · skip
        refine ix_iconst hx hb dX1_round_53 ?_
        refine lv_goto (tgt := 58) hx hb dX1_round_54 (by decide) ?_
        refine gm_put0 hx hb hts hown hG hS u324 dX1_round_58 (fun H1 locs1 hG hS => ?_)
        refine lv_aload_n hx hb dX1_round_61 rfl (lv_at hl 0 rfl) ?_
        refine gm_get hx hb hts hown hG 0 (by decide) rfl u324 dX1_round_62 ?_
        refine ix_if_le (tgt := 70) hx hb (by omega) (by omega) dX1_round_65 (by decide) (fun h65 => absurd h65 (by omega)) (fun h65 => ?_)
        refine ix_iconst hx hb dX1_round_68 ?_
        exact W.iret hx hb hrt (fun t ht hW => ⟨⟨_, (2, f), rfl, Or.inr (Or.inr ⟨⟨by omega, by omega⟩, rfl⟩), ⟨fun g9 => absurd g9 (show ¬ (2 : Int) = 0 by decide), fun _ => by have h9 := hG.2; rw [← ht] at h9; exact h9⟩⟩, hS.F ht⟩) hS.2.2 dX1_round_69
      · skip
        refine lv_iload_n hx hb dX1_round_23 rfl (lv_at hl 2 rfl) ?_
        refine ix_iconst hx hb dX1_round_24 ?_
        refine ix_icmp_gt (tgt := 53) hx hb (by omega) (by omega) (by omega) (by omega) dX1_round_25 (by decide) (fun h25 => ?_) (fun h25 => ?_)
        · skip
          refine ix_iconst hx hb dX1_round_53 ?_
          refine lv_goto (tgt := 58) hx hb dX1_round_54 (by decide) ?_
          refine gm_put0 hx hb hts hown hG hS u324 dX1_round_58 (fun H1 locs1 hG hS => ?_)
          refine lv_aload_n hx hb dX1_round_61 rfl (lv_at hl 0 rfl) ?_
          refine gm_get hx hb hts hown hG 0 (by decide) rfl u324 dX1_round_62 ?_
          refine ix_if_le (tgt := 70) hx hb (by omega) (by omega) dX1_round_65 (by decide) (fun h65 => absurd h65 (by omega)) (fun h65 => ?_)
          refine ix_iconst hx hb dX1_round_68 ?_
          exact W.iret hx hb hrt (fun t ht hW => ⟨⟨_, (2, f), rfl, Or.inr (Or.inr ⟨⟨by omega, by omega⟩, rfl⟩), ⟨fun g9 => absurd g9 (show ¬ (2 : Int) = 0 by decide), fun _ => by have h9 := hG.2; rw [← ht] at h9; exact h9⟩⟩, hS.F ht⟩) hS.2.2 dX1_round_69
        · skip
          refine lv_iload hx hb dX1_round_28 (lv_at hl 4 rfl) ?_
          refine ix_iconst hx hb dX1_round_30 ?_
          refine ix_icmp_lt (tgt := 53) hx hb (by omega) (by omega) (by omega) (by omega) dX1_round_31 (by decide) (fun h31 => ?_) (fun h31 => ?_)
          · skip
            refine ix_iconst hx hb dX1_round_53 ?_
            refine lv_goto (tgt := 58) hx hb dX1_round_54 (by decide) ?_
            refine gm_put0 hx hb hts hown hG hS u324 dX1_round_58 (fun H1 locs1 hG hS => ?_)
            refine lv_aload_n hx hb dX1_round_61 rfl (lv_at hl 0 rfl) ?_
            refine gm_get hx hb hts hown hG 0 (by decide) rfl u324 dX1_round_62 ?_
            refine ix_if_le (tgt := 70) hx hb (by omega) (by omega) dX1_round_65 (by decide) (fun h65 => absurd h65 (by omega)) (fun h65 => ?_)
            refine ix_iconst hx hb dX1_round_68 ?_
            exact W.iret hx hb hrt (fun t ht hW => ⟨⟨_, (2, f), rfl, Or.inr (Or.inr ⟨⟨by omega, by omega⟩, rfl⟩), ⟨fun g9 => absurd g9 (show ¬ (2 : Int) = 0 by decide), fun _ => by have h9 := hG.2; rw [← ht] at h9; exact h9⟩⟩, hS.F ht⟩) hS.2.2 dX1_round_69
          · skip
            refine lv_iload hx hb dX1_round_34 (lv_at hl 4 rfl) ?_
            refine lv_aload_n hx hb dX1_round_36 rfl (lv_at hl 0 rfl) ?_
            refine gm_get hx hb hts hown hG 1 (by decide) rfl u325 dX1_round_37 ?_
            refine ix_sel (x := 11) (y := 22) (n1 := 2) (t1 := 48) (t2 := 50) hx hb (by omega) (by omega) dX1_round_40 (by decide) (fun g9 => ix_bipush hx hb (by decide) dX1_round_43 g9) dX1_round_45 (by decide) (fun g9 => ix_bipush hx hb (by decide) dX1_round_48 g9) ?_
            refine wx_i (congrArg iI (show (if k = 0 then (11 : Int) else 22) = kD k from rfl)) ?_
            refine ix_icmp_le (tgt := 57) hx hb (by omega) (by omega) (by omega) (by omega) dX1_round_50 (by decide) (fun h50 => ?_) (fun h50 => ?_)
            · skip
              refine ix_iconst hx hb dX1_round_57 ?_
              refine gm_put0 hx hb hts hown hG hS u324 dX1_round_58 (fun H1 locs1 hG hS => ?_)
              refine lv_aload_n hx hb dX1_round_61 rfl (lv_at hl 0 rfl) ?_
              refine gm_get hx hb hts hown hG 0 (by decide) rfl u324 dX1_round_62 ?_
              refine ix_if_le (tgt := 70) hx hb (by omega) (by omega) dX1_round_65 (by decide) (fun h65 => ?_) (fun h65 => absurd h65 (by omega))
              obtain ⟨to, rfl⟩ := Int.eq_ofNat_of_zero_le (show 0 ≤ to by omega)
              obtain ⟨a, rfl⟩ := Int.eq_ofNat_of_zero_le (show 0 ≤ a by omega)
              obtain ⟨d, rfl⟩ := Int.eq_ofNat_of_zero_le (show 0 ≤ d by omega)
              have hd := kD_in (k := k) (d := d) (by omega)
              rw [← qk] at hd
              have hp := pw_in hd.1
              rcases (show op = 0 ∨ op = 1 ∨ op = 2 ∨ op = 3 by omega) with rfl | rfl | rfl | rfl
              · skip
                have hg : ∀ i, i < 16 → 0 ≤ (fun i => sRound q 0 (M a i) d) i ∧ (fun i => sRound q 0 (M a i) d) i < q := fun i hi => by
                  have h9 := hM a i (by omega) hi
                  have h8 := sRound_lt (k := k) (op := 0) (x := M a i) (d := d) h9.1 (by omega) (by omega) (by omega)
                  rw [← qk] at h8
                  exact h8
                refine ix_lconst1 hx hb dX1_round_70 ?_
                refine lv_iload hx hb dX1_round_71 (lv_at hl 4 rfl) ?_
                refine ix_lshl (d := d) hx hb (by omega) (by omega) dX1_round_73 ?_
                refine wx_l (congrArg lI (show 1 * 2 ^ d = 2 ^ (d) from Int.one_mul _)) ?_
                refine lv_lstore (lv' := [(5, .long (lI (2 ^ (d)))), (0, .ref (mo ω)), (1, .int (iI (to))), (2, .int (iI (0))), (3, .int (iI (a))), (4, .int (iI (d)))]) hx hb dX1_round_74 hl (by decide) rfl (fun ls hl => ?_)
                refine ix_iconst hx hb dX1_round_76 ?_
                refine lv_istore (lv' := [(7, .int (iI (0))), (5, .long (lI (2 ^ (d)))), (0, .ref (mo ω)), (1, .int (iI (to))), (2, .int (iI (0))), (3, .int (iI (a))), (4, .int (iI (d)))]) hx hb dX1_round_77 hl (by decide) rfl (fun ls hl => ?_)
                refine ix_loopH (I := fun j ls H locs => lv_has ls 11 [(7, .int (iI ((j : Nat)))), (5, .long (lI (2 ^ (d)))), (0, .ref (mo ω)), (1, .int (iI (to))), (2, .int (iI (0))), (3, .int (iI (a))), (4, .int (iI (d)))] ∧ GM ω (0) (k) (q) (M) (mixI f (fun i => sRound q 0 (M a i) d) (j)) s H ∧ va_S (Am ω) s.heap H locs) 16 0 (by omega) ⟨lv_sub hl [0, 1, 2, 3, 4, 5, 6] rfl, (by rw [mixI_0]; exact hG), hS⟩ (fun ls H locs hI => ?_) (fun j ls H locs hj hI ih79 => ?_)
                · obtain ⟨hl, hG, hS⟩ := hI
                  have hl : lv_has ls 11 [(7, .int (iI ((16 : Nat)))), (5, .long (lI (2 ^ (d)))), (0, .ref (mo ω)), (1, .int (iI (to))), (2, .int (iI (0))), (3, .int (iI (a))), (4, .int (iI (d)))] := hl
                  have hf2 : ∀ i, i < 16 → 0 ≤ mixI f (fun i => sRound q 0 (M a i) d) (16) i ∧ mixI f (fun i => sRound q 0 (M a i) d) (16) i < q := fun i hi9 => by rw [mixI_at hi9]; exact hg i hi9
                  refine lv_iload hx hb dX1_round_79 (lv_at hl 0 rfl) ?_
                  refine ix_bipush hx hb (by decide) dX1_round_81 ?_
                  refine ix_icmp_ge (tgt := 218) hx hb (by omega) (by omega) (by omega) (by omega) dX1_round_83 (by decide) (fun h83 => ?_) (fun h83 => absurd h83 (by omega))
                  refine lv_aload_n hx hb dX1_round_218 rfl (lv_at hl 2 rfl) ?_
                  refine lv_iload_n hx hb dX1_round_219 rfl (lv_at hl 3 rfl) ?_
                  refine va_calli (va_runV (As := [.int (iI (to))]) (rest := []) ⟨hx, hb, hml, hown, hts⟩ (m_put l ω (0) (k) (q) (M) (mixI f (fun i => sRound q 0 (M a i) d) (16)) (to) hq1 hq2 (by omega) hf2) (cwV 1 hts (gU (hd := [.methodLink "NoiseRingModel" 52 yX1_put, .instanceMethod yX1_put, .selects "NoiseRingModel" yX1_put yX1_put, .initialized "NoiseRingModel"]) (List.forall_mem_cons.mpr ⟨u371, List.forall_mem_cons.mpr ⟨u372, List.forall_mem_cons.mpr ⟨u18, List.forall_mem_cons.mpr ⟨u30, fun _ h => by cases h⟩⟩⟩⟩) u373) rfl rfl rfl (by decide +kernel) ⟨Nat.le_of_ble_eq_true rfl, Nat.le_of_ble_eq_true rfl⟩) (gm_V hG) rfl rfl hl.1 rfl (lv_room (Nat.le_of_ble_eq_true rfl)) dX1_round_220 ⟨Nat.le_of_ble_eq_true rfl, Nat.le_of_ble_eq_true rfl⟩) hS (fun q9 _ h => h) (fun q9 h => h) (fun r220 u9 t H1 locs1 ht hvm hr220 hB hz hk hS1 => ?_)
                  subst hr220
                  clear hS
                  have hS := hS1
                  rw [ht] at hB
                  have hG : GM ω (0) (k) (q) (mixR (M) (to) (mixI f (fun i => sRound q 0 (M a i) d) (16)) 16) (mixI f (fun i => sRound q 0 (M a i) d) (16)) s H1 := ⟨hG.1, hB⟩
                  rw [mixR_mix] at hG
                  exact W.iret hx hb hrt (fun t ht hW => ⟨⟨_, (0, mixI f (fun i => sRound q 0 (M a i) d) (16)), rfl, Or.inl ⟨⟨by omega, by omega⟩, rfl, congrArg iI (sCnt_eq (fun i hi9 => mixI_at hi9))⟩, ⟨fun _ => by have h9 := hG.2; rw [← ht] at h9; exact h9, fun g9 => absurd rfl g9⟩⟩, hS.F ht⟩) hS.2.2 dX1_round_223
                · obtain ⟨hl, hG, hS⟩ := hI
                  have hl : lv_has ls 11 [(7, .int (iI ((j : Nat)))), (5, .long (lI (2 ^ (d)))), (0, .ref (mo ω)), (1, .int (iI (to))), (2, .int (iI (0))), (3, .int (iI (a))), (4, .int (iI (d)))] := hl
                  have hm := hM a j (by omega) hj
                  have hn := sNear_in (x := M a j) (show (0 : Int) < 2 ^ d by omega)
                  have hn2 := sNear_low (x := M a j) hm.1 (show (0 : Int) < 2 ^ d by omega)
                  have hgj : 0 ≤ sRound q 0 (M a j) d ∧ sRound q 0 (M a j) d < q := hg j hj
                  have hm1 : 0 ≤ 2 * 2 ^ d * M a j := Int.mul_nonneg (by omega) hm.1
                  have hm2 : 2 * 2 ^ d * M a j ≤ 16777216 * 8380417 := Int.mul_le_mul (by omega) (by omega) hm.1 (by decide)
                  have hv1 := Int.ediv_nonneg (show 0 ≤ 2 * 2 ^ d * M a j + q by omega) (show 0 ≤ 2 * q by omega)
                  have hv2 := Int.ediv_le_self (2 * q) (show 0 ≤ 2 * 2 ^ d * M a j + q by omega)
                  refine lv_iload hx hb dX1_round_79 (lv_at hl 0 rfl) ?_
                  refine ix_bipush hx hb (by decide) dX1_round_81 ?_
                  refine ix_icmp_ge (tgt := 218) hx hb (by omega) (by omega) (by omega) (by omega) dX1_round_83 (by decide) (fun h83 => absurd h83 (by omega)) (fun h83 => ?_)
                  refine lv_aload_n hx hb dX1_round_86 rfl (lv_at hl 2 rfl) ?_
                  refine lv_iload_n hx hb dX1_round_87 rfl (lv_at hl 5 rfl) ?_
                  refine lv_iload hx hb dX1_round_88 (lv_at hl 0 rfl) ?_
                  refine vp_callSi (va_Run.run (va_runV (As := [.int (iI (a)), .int (iI ((j : Nat)))]) (rest := []) ⟨hx, hb, hml, hown, hts⟩ (m_at l ω (0) (k) (q) (M) (mixI f (fun i => sRound q 0 (M a i) d) (j)) (a) (j) (by omega) (by omega)) (cwV 2 hts (gU (hd := [.methodLink "NoiseRingModel" 45 yX1_at, .instanceMethod yX1_at, .selects "NoiseRingModel" yX1_at yX1_at, .initialized "NoiseRingModel"]) (List.forall_mem_cons.mpr ⟨u356, List.forall_mem_cons.mpr ⟨u357, List.forall_mem_cons.mpr ⟨u16, List.forall_mem_cons.mpr ⟨u30, fun _ h => by cases h⟩⟩⟩⟩) u358) rfl rfl rfl (by decide +kernel) ⟨Nat.le_of_ble_eq_true rfl, Nat.le_of_ble_eq_true rfl⟩) (gm_V hG) rfl rfl hl.1 rfl (lv_room (Nat.le_of_ble_eq_true rfl)) dX1_round_90 ⟨Nat.le_of_ble_eq_true rfl, Nat.le_of_ble_eq_true rfl⟩)) (fun r90 hr90 => ?_)
                  subst hr90
                  refine ix_i2l hx hb (by omega) (by omega) dX1_round_93 ?_
                  refine lv_lstore (lv' := [(8, .long (lI (M (a) (j)))), (7, .int (iI ((j : Nat)))), (5, .long (lI (2 ^ (d)))), (0, .ref (mo ω)), (1, .int (iI (to))), (2, .int (iI (0))), (3, .int (iI (a))), (4, .int (iI (d)))]) hx hb dX1_round_94 hl (by decide) rfl (fun ls hl => ?_)
                  refine lv_lload hx hb dX1_round_96 (lv_at hl 0 rfl) ?_
                  refine ix_l2i hx hb dX1_round_98 ?_
                  refine lv_lload hx hb dX1_round_99 (lv_at hl 2 rfl) ?_
                  refine ix_l2i hx hb dX1_round_101 ?_
                  refine vp_callSi (va_Run.run (va_runS (As := [.int (iI (M (a) (j))), .int (iI (2 ^ (d)))]) (rest := []) ⟨hx, hb, hml, hown, hts⟩ (m_rest l (M (a) (j)) (2 ^ (d)) (by omega) (by omega) (by omega) (by omega)) (va_cwS 2 hts (gU (hd := [.methodLink "NoiseRingModel" 59 yX1_rest, .static yX1_rest, .initialized "NoiseRingModel"]) (List.forall_mem_cons.mpr ⟨u385, List.forall_mem_cons.mpr ⟨u386, List.forall_mem_cons.mpr ⟨u30, fun _ h => by cases h⟩⟩⟩) u387) rfl rfl rfl (by decide +kernel) ⟨Nat.le_of_ble_eq_true rfl, Nat.le_of_ble_eq_true rfl⟩) gn_S rfl rfl hl.1 rfl (lv_room (Nat.le_of_ble_eq_true rfl)) dX1_round_102 ⟨Nat.le_of_ble_eq_true rfl, Nat.le_of_ble_eq_true rfl⟩)) (fun r102 hr102 => ?_)
                  subst hr102
                  refine lv_istore (lv' := [(10, .int (iI ((sNear (M (a) (j)) (2 ^ (d)))))), (8, .long (lI (M (a) (j)))), (7, .int (iI ((j : Nat)))), (5, .long (lI (2 ^ (d)))), (0, .ref (mo ω)), (1, .int (iI (to))), (2, .int (iI (0))), (3, .int (iI (a))), (4, .int (iI (d)))]) hx hb dX1_round_105 hl (by decide) rfl (fun ls hl => ?_)
                  refine lv_aload_n hx hb dX1_round_107 rfl (lv_at hl 4 rfl) ?_
                  refine gm_get hx hb hts hown hG 4 (by decide) rfl u328 dX1_round_108 ?_
                  refine lv_iload hx hb dX1_round_111 (lv_at hl 2 rfl) ?_
                  refine lv_iload_n hx hb dX1_round_113 rfl (lv_at hl 6 rfl) ?_
                  refine ix_if_ne (tgt := 149) hx hb (by omega) (by omega) dX1_round_114 (by decide) (fun h114 => absurd h114 (by omega)) (fun h114 => ?_)
                  refine lv_ldc2 (v := 2) hx hb hown (hts _ u388) dX1_round_117 ?_
                  refine wx_l (show (2 : Int64) = lI 2 by decide) ?_
                  refine lv_lload hx hb dX1_round_120 (lv_at hl 3 rfl) ?_
                  refine ix_lmul hx hb dX1_round_122 ?_
                  refine lv_lload hx hb dX1_round_123 (lv_at hl 1 rfl) ?_
                  refine ix_lmul hx hb dX1_round_125 ?_
                  refine lv_aload_n hx hb dX1_round_126 rfl (lv_at hl 4 rfl) ?_
                  refine gm_get hx hb hts hown hG 2 (by decide) rfl u326 dX1_round_127 ?_
                  refine ix_i2l hx hb (by omega) (by omega) dX1_round_130 ?_
                  refine ix_ladd hx hb dX1_round_131 ?_
                  refine lv_ldc2 (v := 2) hx hb hown (hts _ u388) dX1_round_132 ?_
                  refine wx_l (show (2 : Int64) = lI 2 by decide) ?_
                  refine lv_aload_n hx hb dX1_round_135 rfl (lv_at hl 4 rfl) ?_
                  refine gm_get hx hb hts hown hG 2 (by decide) rfl u326 dX1_round_136 ?_
                  refine ix_i2l hx hb (by omega) (by omega) dX1_round_139 ?_
                  refine ix_lmul hx hb dX1_round_140 ?_
                  refine ix_ldiv hx hb (by omega) (by omega) (by omega) (by omega) dX1_round_141 ?_
                  refine lv_lload hx hb dX1_round_142 (lv_at hl 3 rfl) ?_
                  refine ix_lrem hx hb (by omega) (by omega) (by omega) (by omega) dX1_round_144 ?_
                  refine ix_l2i hx hb dX1_round_145 ?_
                  refine lv_goto (tgt := 211) hx hb dX1_round_146 (by decide) ?_
                  refine wx_i (congrArg iI (show (((((2 * 2 ^ (d)) * M (a) (j)) + q) / (2 * q)) % 2 ^ (d)) = (fun i => sRound q 0 (M a i) d) j from ?_)) ?_
                  · exact mRnd0 (M a j) q d
                  refine gm_mst (i := j) hx hb hG hS (by omega) dX1_round_211 (fun H1 locs1 hG hS => ?_)
                  refine lv_iinc (k := 2) (v := iI ((j : Nat) + 1)) (lv' := [(7, .int (iI ((j : Nat) + 1))), (10, .int (iI ((sNear (M (a) (j)) (2 ^ (d)))))), (8, .long (lI (M (a) (j)))), (5, .long (lI (2 ^ (d)))), (0, .ref (mo ω)), (1, .int (iI (to))), (2, .int (iI (0))), (3, .int (iI (a))), (4, .int (iI (d)))]) hx hb dX1_round_212 hl rfl (iI_add _ _) (by decide) rfl (fun ls hl => ?_)
                  refine lv_goto (tgt := 79) hx hb dX1_round_215 (by decide) ?_
                  exact ih79 ls _ _ ⟨lv_sub hl [0, 3, 4, 5, 6, 7, 8] rfl, (by rw [← mixI_s]; exact hG), hS⟩
              · skip
                have hg : ∀ i, i < 16 → 0 ≤ (fun i => sRound q 1 (M a i) d) i ∧ (fun i => sRound q 1 (M a i) d) i < q := fun i hi => by
                  have h9 := hM a i (by omega) hi
                  have h8 := sRound_lt (k := k) (op := 1) (x := M a i) (d := d) h9.1 (by omega) (by omega) (by omega)
                  rw [← qk] at h8
                  exact h8
                refine ix_lconst1 hx hb dX1_round_70 ?_
                refine lv_iload hx hb dX1_round_71 (lv_at hl 4 rfl) ?_
                refine ix_lshl (d := d) hx hb (by omega) (by omega) dX1_round_73 ?_
                refine wx_l (congrArg lI (show 1 * 2 ^ d = 2 ^ (d) from Int.one_mul _)) ?_
                refine lv_lstore (lv' := [(5, .long (lI (2 ^ (d)))), (0, .ref (mo ω)), (1, .int (iI (to))), (2, .int (iI (1))), (3, .int (iI (a))), (4, .int (iI (d)))]) hx hb dX1_round_74 hl (by decide) rfl (fun ls hl => ?_)
                refine ix_iconst hx hb dX1_round_76 ?_
                refine lv_istore (lv' := [(7, .int (iI (0))), (5, .long (lI (2 ^ (d)))), (0, .ref (mo ω)), (1, .int (iI (to))), (2, .int (iI (1))), (3, .int (iI (a))), (4, .int (iI (d)))]) hx hb dX1_round_77 hl (by decide) rfl (fun ls hl => ?_)
                refine ix_loopH (I := fun j ls H locs => lv_has ls 11 [(7, .int (iI ((j : Nat)))), (5, .long (lI (2 ^ (d)))), (0, .ref (mo ω)), (1, .int (iI (to))), (2, .int (iI (1))), (3, .int (iI (a))), (4, .int (iI (d)))] ∧ GM ω (0) (k) (q) (M) (mixI f (fun i => sRound q 1 (M a i) d) (j)) s H ∧ va_S (Am ω) s.heap H locs) 16 0 (by omega) ⟨lv_sub hl [0, 1, 2, 3, 4, 5, 6] rfl, (by rw [mixI_0]; exact hG), hS⟩ (fun ls H locs hI => ?_) (fun j ls H locs hj hI ih79 => ?_)
                · obtain ⟨hl, hG, hS⟩ := hI
                  have hl : lv_has ls 11 [(7, .int (iI ((16 : Nat)))), (5, .long (lI (2 ^ (d)))), (0, .ref (mo ω)), (1, .int (iI (to))), (2, .int (iI (1))), (3, .int (iI (a))), (4, .int (iI (d)))] := hl
                  have hf2 : ∀ i, i < 16 → 0 ≤ mixI f (fun i => sRound q 1 (M a i) d) (16) i ∧ mixI f (fun i => sRound q 1 (M a i) d) (16) i < q := fun i hi9 => by rw [mixI_at hi9]; exact hg i hi9
                  refine lv_iload hx hb dX1_round_79 (lv_at hl 0 rfl) ?_
                  refine ix_bipush hx hb (by decide) dX1_round_81 ?_
                  refine ix_icmp_ge (tgt := 218) hx hb (by omega) (by omega) (by omega) (by omega) dX1_round_83 (by decide) (fun h83 => ?_) (fun h83 => absurd h83 (by omega))
                  refine lv_aload_n hx hb dX1_round_218 rfl (lv_at hl 2 rfl) ?_
                  refine lv_iload_n hx hb dX1_round_219 rfl (lv_at hl 3 rfl) ?_
                  refine va_calli (va_runV (As := [.int (iI (to))]) (rest := []) ⟨hx, hb, hml, hown, hts⟩ (m_put l ω (0) (k) (q) (M) (mixI f (fun i => sRound q 1 (M a i) d) (16)) (to) hq1 hq2 (by omega) hf2) (cwV 1 hts (gU (hd := [.methodLink "NoiseRingModel" 52 yX1_put, .instanceMethod yX1_put, .selects "NoiseRingModel" yX1_put yX1_put, .initialized "NoiseRingModel"]) (List.forall_mem_cons.mpr ⟨u371, List.forall_mem_cons.mpr ⟨u372, List.forall_mem_cons.mpr ⟨u18, List.forall_mem_cons.mpr ⟨u30, fun _ h => by cases h⟩⟩⟩⟩) u373) rfl rfl rfl (by decide +kernel) ⟨Nat.le_of_ble_eq_true rfl, Nat.le_of_ble_eq_true rfl⟩) (gm_V hG) rfl rfl hl.1 rfl (lv_room (Nat.le_of_ble_eq_true rfl)) dX1_round_220 ⟨Nat.le_of_ble_eq_true rfl, Nat.le_of_ble_eq_true rfl⟩) hS (fun q9 _ h => h) (fun q9 h => h) (fun r220 u9 t H1 locs1 ht hvm hr220 hB hz hk hS1 => ?_)
                  subst hr220
                  clear hS
                  have hS := hS1
                  rw [ht] at hB
                  have hG : GM ω (0) (k) (q) (mixR (M) (to) (mixI f (fun i => sRound q 1 (M a i) d) (16)) 16) (mixI f (fun i => sRound q 1 (M a i) d) (16)) s H1 := ⟨hG.1, hB⟩
                  rw [mixR_mix] at hG
                  exact W.iret hx hb hrt (fun t ht hW => ⟨⟨_, (0, mixI f (fun i => sRound q 1 (M a i) d) (16)), rfl, Or.inl ⟨⟨by omega, by omega⟩, rfl, congrArg iI (sCnt_eq (fun i hi9 => mixI_at hi9))⟩, ⟨fun _ => by have h9 := hG.2; rw [← ht] at h9; exact h9, fun g9 => absurd rfl g9⟩⟩, hS.F ht⟩) hS.2.2 dX1_round_223
                · obtain ⟨hl, hG, hS⟩ := hI
                  have hl : lv_has ls 11 [(7, .int (iI ((j : Nat)))), (5, .long (lI (2 ^ (d)))), (0, .ref (mo ω)), (1, .int (iI (to))), (2, .int (iI (1))), (3, .int (iI (a))), (4, .int (iI (d)))] := hl
                  have hm := hM a j (by omega) hj
                  have hn := sNear_in (x := M a j) (show (0 : Int) < 2 ^ d by omega)
                  have hn2 := sNear_low (x := M a j) hm.1 (show (0 : Int) < 2 ^ d by omega)
                  have hgj : 0 ≤ sRound q 1 (M a j) d ∧ sRound q 1 (M a j) d < q := hg j hj
                  have he1 := Int.emod_nonneg (M a j) (show (2 : Int) ^ d ≠ 0 by omega)
                  have he2 := Int.emod_lt_of_pos (M a j) (show (0 : Int) < 2 ^ d by omega)
                  have hm1 : 0 ≤ 2 * q * (M a j % 2 ^ d) := Int.mul_nonneg (by omega) he1
                  have hm2 : 2 * q * (M a j % 2 ^ d) ≤ 16760834 * 8388608 := Int.mul_le_mul (by omega) (by omega) he1 (by decide)
                  have hrd := mRnd1 (M a j) q d (by omega)
                  refine lv_iload hx hb dX1_round_79 (lv_at hl 0 rfl) ?_
                  refine ix_bipush hx hb (by decide) dX1_round_81 ?_
                  refine ix_icmp_ge (tgt := 218) hx hb (by omega) (by omega) (by omega) (by omega) dX1_round_83 (by decide) (fun h83 => absurd h83 (by omega)) (fun h83 => ?_)
                  refine lv_aload_n hx hb dX1_round_86 rfl (lv_at hl 2 rfl) ?_
                  refine lv_iload_n hx hb dX1_round_87 rfl (lv_at hl 5 rfl) ?_
                  refine lv_iload hx hb dX1_round_88 (lv_at hl 0 rfl) ?_
                  refine vp_callSi (va_Run.run (va_runV (As := [.int (iI (a)), .int (iI ((j : Nat)))]) (rest := []) ⟨hx, hb, hml, hown, hts⟩ (m_at l ω (0) (k) (q) (M) (mixI f (fun i => sRound q 1 (M a i) d) (j)) (a) (j) (by omega) (by omega)) (cwV 2 hts (gU (hd := [.methodLink "NoiseRingModel" 45 yX1_at, .instanceMethod yX1_at, .selects "NoiseRingModel" yX1_at yX1_at, .initialized "NoiseRingModel"]) (List.forall_mem_cons.mpr ⟨u356, List.forall_mem_cons.mpr ⟨u357, List.forall_mem_cons.mpr ⟨u16, List.forall_mem_cons.mpr ⟨u30, fun _ h => by cases h⟩⟩⟩⟩) u358) rfl rfl rfl (by decide +kernel) ⟨Nat.le_of_ble_eq_true rfl, Nat.le_of_ble_eq_true rfl⟩) (gm_V hG) rfl rfl hl.1 rfl (lv_room (Nat.le_of_ble_eq_true rfl)) dX1_round_90 ⟨Nat.le_of_ble_eq_true rfl, Nat.le_of_ble_eq_true rfl⟩)) (fun r90 hr90 => ?_)
                  subst hr90
                  refine ix_i2l hx hb (by omega) (by omega) dX1_round_93 ?_
                  refine lv_lstore (lv' := [(8, .long (lI (M (a) (j)))), (7, .int (iI ((j : Nat)))), (5, .long (lI (2 ^ (d)))), (0, .ref (mo ω)), (1, .int (iI (to))), (2, .int (iI (1))), (3, .int (iI (a))), (4, .int (iI (d)))]) hx hb dX1_round_94 hl (by decide) rfl (fun ls hl => ?_)
                  refine lv_lload hx hb dX1_round_96 (lv_at hl 0 rfl) ?_
                  refine ix_l2i hx hb dX1_round_98 ?_
                  refine lv_lload hx hb dX1_round_99 (lv_at hl 2 rfl) ?_
                  refine ix_l2i hx hb dX1_round_101 ?_
                  refine vp_callSi (va_Run.run (va_runS (As := [.int (iI (M (a) (j))), .int (iI (2 ^ (d)))]) (rest := []) ⟨hx, hb, hml, hown, hts⟩ (m_rest l (M (a) (j)) (2 ^ (d)) (by omega) (by omega) (by omega) (by omega)) (va_cwS 2 hts (gU (hd := [.methodLink "NoiseRingModel" 59 yX1_rest, .static yX1_rest, .initialized "NoiseRingModel"]) (List.forall_mem_cons.mpr ⟨u385, List.forall_mem_cons.mpr ⟨u386, List.forall_mem_cons.mpr ⟨u30, fun _ h => by cases h⟩⟩⟩) u387) rfl rfl rfl (by decide +kernel) ⟨Nat.le_of_ble_eq_true rfl, Nat.le_of_ble_eq_true rfl⟩) gn_S rfl rfl hl.1 rfl (lv_room (Nat.le_of_ble_eq_true rfl)) dX1_round_102 ⟨Nat.le_of_ble_eq_true rfl, Nat.le_of_ble_eq_true rfl⟩)) (fun r102 hr102 => ?_)
                  subst hr102
                  refine lv_istore (lv' := [(10, .int (iI ((sNear (M (a) (j)) (2 ^ (d)))))), (8, .long (lI (M (a) (j)))), (7, .int (iI ((j : Nat)))), (5, .long (lI (2 ^ (d)))), (0, .ref (mo ω)), (1, .int (iI (to))), (2, .int (iI (1))), (3, .int (iI (a))), (4, .int (iI (d)))]) hx hb dX1_round_105 hl (by decide) rfl (fun ls hl => ?_)
                  refine lv_aload_n hx hb dX1_round_107 rfl (lv_at hl 4 rfl) ?_
                  refine gm_get hx hb hts hown hG 4 (by decide) rfl u328 dX1_round_108 ?_
                  refine lv_iload hx hb dX1_round_111 (lv_at hl 2 rfl) ?_
                  refine lv_iload_n hx hb dX1_round_113 rfl (lv_at hl 6 rfl) ?_
                  refine ix_if_ne (tgt := 149) hx hb (by omega) (by omega) dX1_round_114 (by decide) (fun h114 => ?_) (fun h114 => absurd h114 (by omega))
                  refine lv_iload_n hx hb dX1_round_149 rfl (lv_at hl 6 rfl) ?_
                  refine ix_iconst hx hb dX1_round_150 ?_
                  refine ix_icmp_ne (tgt := 186) hx hb (by omega) (by omega) (by omega) (by omega) dX1_round_151 (by decide) (fun h151 => absurd h151 (by omega)) (fun h151 => ?_)
                  refine lv_aload_n hx hb dX1_round_154 rfl (lv_at hl 4 rfl) ?_
                  refine lv_ldc2 (v := 2) hx hb hown (hts _ u388) dX1_round_155 ?_
                  refine wx_l (show (2 : Int64) = lI 2 by decide) ?_
                  refine lv_aload_n hx hb dX1_round_158 rfl (lv_at hl 4 rfl) ?_
                  refine gm_get hx hb hts hown hG 2 (by decide) rfl u326 dX1_round_159 ?_
                  refine ix_i2l hx hb (by omega) (by omega) dX1_round_162 ?_
                  refine ix_lmul hx hb dX1_round_163 ?_
                  refine lv_lload hx hb dX1_round_164 (lv_at hl 1 rfl) ?_
                  refine lv_lload hx hb dX1_round_166 (lv_at hl 3 rfl) ?_
                  refine ix_lrem hx hb (by omega) (by omega) (by omega) (by omega) dX1_round_168 ?_
                  refine ix_lmul hx hb dX1_round_169 ?_
                  refine lv_lload hx hb dX1_round_170 (lv_at hl 3 rfl) ?_
                  refine ix_ladd hx hb dX1_round_172 ?_
                  refine lv_ldc2 (v := 2) hx hb hown (hts _ u388) dX1_round_173 ?_
                  refine wx_l (show (2 : Int64) = lI 2 by decide) ?_
                  refine lv_lload hx hb dX1_round_176 (lv_at hl 3 rfl) ?_
                  refine ix_lmul hx hb dX1_round_178 ?_
                  refine ix_ldiv hx hb (by omega) (by omega) (by omega) (by omega) dX1_round_179 ?_
                  refine vp_callSi (va_Run.run (va_runV (As := [.long (lI (((((2 * q) * (M (a) (j) % 2 ^ (d))) + 2 ^ (d)) / (2 * 2 ^ (d)))))]) (rest := [.int (iI ((j : Nat))), .ref (md ω)]) ⟨hx, hb, hml, hown, hts⟩ (m_of l ω (0) (k) (q) (M) (mixI f (fun i => sRound q 1 (M a i) d) (j)) (((((2 * q) * (M (a) (j) % 2 ^ (d))) + 2 ^ (d)) / (2 * 2 ^ (d)))) hq1 hq2 (by omega) (by omega)) (cwV 1 hts (gU (hd := [.methodLink "NoiseRingModel" 48 yX1_of, .instanceMethod yX1_of, .selects "NoiseRingModel" yX1_of yX1_of, .initialized "NoiseRingModel"]) (List.forall_mem_cons.mpr ⟨u359, List.forall_mem_cons.mpr ⟨u360, List.forall_mem_cons.mpr ⟨u17, List.forall_mem_cons.mpr ⟨u30, fun _ h => by cases h⟩⟩⟩⟩) u361) rfl rfl rfl (by decide +kernel) ⟨Nat.le_of_ble_eq_true rfl, Nat.le_of_ble_eq_true rfl⟩) (gm_V hG) rfl rfl hl.1 rfl (lv_room (Nat.le_of_ble_eq_true rfl)) dX1_round_180 ⟨Nat.le_of_ble_eq_true rfl, Nat.le_of_ble_eq_true rfl⟩)) (fun r180 hr180 => ?_)
                  subst hr180
                  refine lv_goto (tgt := 211) hx hb dX1_round_183 (by decide) ?_
                  refine wx_i (congrArg iI (show (((((2 * q) * (M (a) (j) % 2 ^ (d))) + 2 ^ (d)) / (2 * 2 ^ (d)))) % q = (fun i => sRound q 1 (M a i) d) j from ?_)) ?_
                  · rw [hrd]
                    exact Int.emod_eq_of_lt hgj.1 hgj.2
                  refine gm_mst (i := j) hx hb hG hS (by omega) dX1_round_211 (fun H1 locs1 hG hS => ?_)
                  refine lv_iinc (k := 2) (v := iI ((j : Nat) + 1)) (lv' := [(7, .int (iI ((j : Nat) + 1))), (10, .int (iI ((sNear (M (a) (j)) (2 ^ (d)))))), (8, .long (lI (M (a) (j)))), (5, .long (lI (2 ^ (d)))), (0, .ref (mo ω)), (1, .int (iI (to))), (2, .int (iI (1))), (3, .int (iI (a))), (4, .int (iI (d)))]) hx hb dX1_round_212 hl rfl (iI_add _ _) (by decide) rfl (fun ls hl => ?_)
                  refine lv_goto (tgt := 79) hx hb dX1_round_215 (by decide) ?_
                  exact ih79 ls _ _ ⟨lv_sub hl [0, 3, 4, 5, 6, 7, 8] rfl, (by rw [← mixI_s]; exact hG), hS⟩
              · skip
                have hg : ∀ i, i < 16 → 0 ≤ (fun i => sRound q 2 (M a i) d) i ∧ (fun i => sRound q 2 (M a i) d) i < q := fun i hi => by
                  have h9 := hM a i (by omega) hi
                  have h8 := sRound_lt (k := k) (op := 2) (x := M a i) (d := d) h9.1 (by omega) (by omega) (by omega)
                  rw [← qk] at h8
                  exact h8
                refine ix_lconst1 hx hb dX1_round_70 ?_
                refine lv_iload hx hb dX1_round_71 (lv_at hl 4 rfl) ?_
                refine ix_lshl (d := d) hx hb (by omega) (by omega) dX1_round_73 ?_
                refine wx_l (congrArg lI (show 1 * 2 ^ d = 2 ^ (d) from Int.one_mul _)) ?_
                refine lv_lstore (lv' := [(5, .long (lI (2 ^ (d)))), (0, .ref (mo ω)), (1, .int (iI (to))), (2, .int (iI (2))), (3, .int (iI (a))), (4, .int (iI (d)))]) hx hb dX1_round_74 hl (by decide) rfl (fun ls hl => ?_)
                refine ix_iconst hx hb dX1_round_76 ?_
                refine lv_istore (lv' := [(7, .int (iI (0))), (5, .long (lI (2 ^ (d)))), (0, .ref (mo ω)), (1, .int (iI (to))), (2, .int (iI (2))), (3, .int (iI (a))), (4, .int (iI (d)))]) hx hb dX1_round_77 hl (by decide) rfl (fun ls hl => ?_)
                refine ix_loopH (I := fun j ls H locs => lv_has ls 11 [(7, .int (iI ((j : Nat)))), (5, .long (lI (2 ^ (d)))), (0, .ref (mo ω)), (1, .int (iI (to))), (2, .int (iI (2))), (3, .int (iI (a))), (4, .int (iI (d)))] ∧ GM ω (0) (k) (q) (M) (mixI f (fun i => sRound q 2 (M a i) d) (j)) s H ∧ va_S (Am ω) s.heap H locs) 16 0 (by omega) ⟨lv_sub hl [0, 1, 2, 3, 4, 5, 6] rfl, (by rw [mixI_0]; exact hG), hS⟩ (fun ls H locs hI => ?_) (fun j ls H locs hj hI ih79 => ?_)
                · obtain ⟨hl, hG, hS⟩ := hI
                  have hl : lv_has ls 11 [(7, .int (iI ((16 : Nat)))), (5, .long (lI (2 ^ (d)))), (0, .ref (mo ω)), (1, .int (iI (to))), (2, .int (iI (2))), (3, .int (iI (a))), (4, .int (iI (d)))] := hl
                  have hf2 : ∀ i, i < 16 → 0 ≤ mixI f (fun i => sRound q 2 (M a i) d) (16) i ∧ mixI f (fun i => sRound q 2 (M a i) d) (16) i < q := fun i hi9 => by rw [mixI_at hi9]; exact hg i hi9
                  refine lv_iload hx hb dX1_round_79 (lv_at hl 0 rfl) ?_
                  refine ix_bipush hx hb (by decide) dX1_round_81 ?_
                  refine ix_icmp_ge (tgt := 218) hx hb (by omega) (by omega) (by omega) (by omega) dX1_round_83 (by decide) (fun h83 => ?_) (fun h83 => absurd h83 (by omega))
                  refine lv_aload_n hx hb dX1_round_218 rfl (lv_at hl 2 rfl) ?_
                  refine lv_iload_n hx hb dX1_round_219 rfl (lv_at hl 3 rfl) ?_
                  refine va_calli (va_runV (As := [.int (iI (to))]) (rest := []) ⟨hx, hb, hml, hown, hts⟩ (m_put l ω (0) (k) (q) (M) (mixI f (fun i => sRound q 2 (M a i) d) (16)) (to) hq1 hq2 (by omega) hf2) (cwV 1 hts (gU (hd := [.methodLink "NoiseRingModel" 52 yX1_put, .instanceMethod yX1_put, .selects "NoiseRingModel" yX1_put yX1_put, .initialized "NoiseRingModel"]) (List.forall_mem_cons.mpr ⟨u371, List.forall_mem_cons.mpr ⟨u372, List.forall_mem_cons.mpr ⟨u18, List.forall_mem_cons.mpr ⟨u30, fun _ h => by cases h⟩⟩⟩⟩) u373) rfl rfl rfl (by decide +kernel) ⟨Nat.le_of_ble_eq_true rfl, Nat.le_of_ble_eq_true rfl⟩) (gm_V hG) rfl rfl hl.1 rfl (lv_room (Nat.le_of_ble_eq_true rfl)) dX1_round_220 ⟨Nat.le_of_ble_eq_true rfl, Nat.le_of_ble_eq_true rfl⟩) hS (fun q9 _ h => h) (fun q9 h => h) (fun r220 u9 t H1 locs1 ht hvm hr220 hB hz hk hS1 => ?_)
                  subst hr220
                  clear hS
                  have hS := hS1
                  rw [ht] at hB
                  have hG : GM ω (0) (k) (q) (mixR (M) (to) (mixI f (fun i => sRound q 2 (M a i) d) (16)) 16) (mixI f (fun i => sRound q 2 (M a i) d) (16)) s H1 := ⟨hG.1, hB⟩
                  rw [mixR_mix] at hG
                  exact W.iret hx hb hrt (fun t ht hW => ⟨⟨_, (0, mixI f (fun i => sRound q 2 (M a i) d) (16)), rfl, Or.inl ⟨⟨by omega, by omega⟩, rfl, congrArg iI (sCnt_eq (fun i hi9 => mixI_at hi9))⟩, ⟨fun _ => by have h9 := hG.2; rw [← ht] at h9; exact h9, fun g9 => absurd rfl g9⟩⟩, hS.F ht⟩) hS.2.2 dX1_round_223
                · obtain ⟨hl, hG, hS⟩ := hI
                  have hl : lv_has ls 11 [(7, .int (iI ((j : Nat)))), (5, .long (lI (2 ^ (d)))), (0, .ref (mo ω)), (1, .int (iI (to))), (2, .int (iI (2))), (3, .int (iI (a))), (4, .int (iI (d)))] := hl
                  have hm := hM a j (by omega) hj
                  have hn := sNear_in (x := M a j) (show (0 : Int) < 2 ^ d by omega)
                  have hn2 := sNear_low (x := M a j) hm.1 (show (0 : Int) < 2 ^ d by omega)
                  have hgj : 0 ≤ sRound q 2 (M a j) d ∧ sRound q 2 (M a j) d < q := hg j hj
                  refine lv_iload hx hb dX1_round_79 (lv_at hl 0 rfl) ?_
                  refine ix_bipush hx hb (by decide) dX1_round_81 ?_
                  refine ix_icmp_ge (tgt := 218) hx hb (by omega) (by omega) (by omega) (by omega) dX1_round_83 (by decide) (fun h83 => absurd h83 (by omega)) (fun h83 => ?_)
                  refine lv_aload_n hx hb dX1_round_86 rfl (lv_at hl 2 rfl) ?_
                  refine lv_iload_n hx hb dX1_round_87 rfl (lv_at hl 5 rfl) ?_
                  refine lv_iload hx hb dX1_round_88 (lv_at hl 0 rfl) ?_
                  refine vp_callSi (va_Run.run (va_runV (As := [.int (iI (a)), .int (iI ((j : Nat)))]) (rest := []) ⟨hx, hb, hml, hown, hts⟩ (m_at l ω (0) (k) (q) (M) (mixI f (fun i => sRound q 2 (M a i) d) (j)) (a) (j) (by omega) (by omega)) (cwV 2 hts (gU (hd := [.methodLink "NoiseRingModel" 45 yX1_at, .instanceMethod yX1_at, .selects "NoiseRingModel" yX1_at yX1_at, .initialized "NoiseRingModel"]) (List.forall_mem_cons.mpr ⟨u356, List.forall_mem_cons.mpr ⟨u357, List.forall_mem_cons.mpr ⟨u16, List.forall_mem_cons.mpr ⟨u30, fun _ h => by cases h⟩⟩⟩⟩) u358) rfl rfl rfl (by decide +kernel) ⟨Nat.le_of_ble_eq_true rfl, Nat.le_of_ble_eq_true rfl⟩) (gm_V hG) rfl rfl hl.1 rfl (lv_room (Nat.le_of_ble_eq_true rfl)) dX1_round_90 ⟨Nat.le_of_ble_eq_true rfl, Nat.le_of_ble_eq_true rfl⟩)) (fun r90 hr90 => ?_)
                  subst hr90
                  refine ix_i2l hx hb (by omega) (by omega) dX1_round_93 ?_
                  refine lv_lstore (lv' := [(8, .long (lI (M (a) (j)))), (7, .int (iI ((j : Nat)))), (5, .long (lI (2 ^ (d)))), (0, .ref (mo ω)), (1, .int (iI (to))), (2, .int (iI (2))), (3, .int (iI (a))), (4, .int (iI (d)))]) hx hb dX1_round_94 hl (by decide) rfl (fun ls hl => ?_)
                  refine lv_lload hx hb dX1_round_96 (lv_at hl 0 rfl) ?_
                  refine ix_l2i hx hb dX1_round_98 ?_
                  refine lv_lload hx hb dX1_round_99 (lv_at hl 2 rfl) ?_
                  refine ix_l2i hx hb dX1_round_101 ?_
                  refine vp_callSi (va_Run.run (va_runS (As := [.int (iI (M (a) (j))), .int (iI (2 ^ (d)))]) (rest := []) ⟨hx, hb, hml, hown, hts⟩ (m_rest l (M (a) (j)) (2 ^ (d)) (by omega) (by omega) (by omega) (by omega)) (va_cwS 2 hts (gU (hd := [.methodLink "NoiseRingModel" 59 yX1_rest, .static yX1_rest, .initialized "NoiseRingModel"]) (List.forall_mem_cons.mpr ⟨u385, List.forall_mem_cons.mpr ⟨u386, List.forall_mem_cons.mpr ⟨u30, fun _ h => by cases h⟩⟩⟩) u387) rfl rfl rfl (by decide +kernel) ⟨Nat.le_of_ble_eq_true rfl, Nat.le_of_ble_eq_true rfl⟩) gn_S rfl rfl hl.1 rfl (lv_room (Nat.le_of_ble_eq_true rfl)) dX1_round_102 ⟨Nat.le_of_ble_eq_true rfl, Nat.le_of_ble_eq_true rfl⟩)) (fun r102 hr102 => ?_)
                  subst hr102
                  refine lv_istore (lv' := [(10, .int (iI ((sNear (M (a) (j)) (2 ^ (d)))))), (8, .long (lI (M (a) (j)))), (7, .int (iI ((j : Nat)))), (5, .long (lI (2 ^ (d)))), (0, .ref (mo ω)), (1, .int (iI (to))), (2, .int (iI (2))), (3, .int (iI (a))), (4, .int (iI (d)))]) hx hb dX1_round_105 hl (by decide) rfl (fun ls hl => ?_)
                  refine lv_aload_n hx hb dX1_round_107 rfl (lv_at hl 4 rfl) ?_
                  refine gm_get hx hb hts hown hG 4 (by decide) rfl u328 dX1_round_108 ?_
                  refine lv_iload hx hb dX1_round_111 (lv_at hl 2 rfl) ?_
                  refine lv_iload_n hx hb dX1_round_113 rfl (lv_at hl 6 rfl) ?_
                  refine ix_if_ne (tgt := 149) hx hb (by omega) (by omega) dX1_round_114 (by decide) (fun h114 => ?_) (fun h114 => absurd h114 (by omega))
                  refine lv_iload_n hx hb dX1_round_149 rfl (lv_at hl 6 rfl) ?_
                  refine ix_iconst hx hb dX1_round_150 ?_
                  refine ix_icmp_ne (tgt := 186) hx hb (by omega) (by omega) (by omega) (by omega) dX1_round_151 (by decide) (fun h151 => ?_) (fun h151 => absurd h151 (by omega))
                  refine lv_iload_n hx hb dX1_round_186 rfl (lv_at hl 6 rfl) ?_
                  refine ix_iconst hx hb dX1_round_187 ?_
                  refine ix_icmp_ne (tgt := 201) hx hb (by omega) (by omega) (by omega) (by omega) dX1_round_188 (by decide) (fun h188 => absurd h188 (by omega)) (fun h188 => ?_)
                  refine lv_aload_n hx hb dX1_round_191 rfl (lv_at hl 4 rfl) ?_
                  refine lv_iload hx hb dX1_round_192 (lv_at hl 0 rfl) ?_
                  refine ix_i2l hx hb (by omega) (by omega) dX1_round_194 ?_
                  refine vp_callSi (va_Run.run (va_runV (As := [.long (lI ((sNear (M (a) (j)) (2 ^ (d)))))]) (rest := [.int (iI ((j : Nat))), .ref (md ω)]) ⟨hx, hb, hml, hown, hts⟩ (m_of l ω (0) (k) (q) (M) (mixI f (fun i => sRound q 2 (M a i) d) (j)) ((sNear (M (a) (j)) (2 ^ (d)))) hq1 hq2 (by omega) (by omega)) (cwV 1 hts (gU (hd := [.methodLink "NoiseRingModel" 48 yX1_of, .instanceMethod yX1_of, .selects "NoiseRingModel" yX1_of yX1_of, .initialized "NoiseRingModel"]) (List.forall_mem_cons.mpr ⟨u359, List.forall_mem_cons.mpr ⟨u360, List.forall_mem_cons.mpr ⟨u17, List.forall_mem_cons.mpr ⟨u30, fun _ h => by cases h⟩⟩⟩⟩) u361) rfl rfl rfl (by decide +kernel) ⟨Nat.le_of_ble_eq_true rfl, Nat.le_of_ble_eq_true rfl⟩) (gm_V hG) rfl rfl hl.1 rfl (lv_room (Nat.le_of_ble_eq_true rfl)) dX1_round_195 ⟨Nat.le_of_ble_eq_true rfl, Nat.le_of_ble_eq_true rfl⟩)) (fun r195 hr195 => ?_)
                  subst hr195
                  refine lv_goto (tgt := 211) hx hb dX1_round_198 (by decide) ?_
                  refine wx_i (congrArg iI (show ((sNear (M (a) (j)) (2 ^ (d)))) % q = (fun i => sRound q 2 (M a i) d) j from ?_)) ?_
                  · rfl
                  refine gm_mst (i := j) hx hb hG hS (by omega) dX1_round_211 (fun H1 locs1 hG hS => ?_)
                  refine lv_iinc (k := 2) (v := iI ((j : Nat) + 1)) (lv' := [(7, .int (iI ((j : Nat) + 1))), (10, .int (iI ((sNear (M (a) (j)) (2 ^ (d)))))), (8, .long (lI (M (a) (j)))), (5, .long (lI (2 ^ (d)))), (0, .ref (mo ω)), (1, .int (iI (to))), (2, .int (iI (2))), (3, .int (iI (a))), (4, .int (iI (d)))]) hx hb dX1_round_212 hl rfl (iI_add _ _) (by decide) rfl (fun ls hl => ?_)
                  refine lv_goto (tgt := 79) hx hb dX1_round_215 (by decide) ?_
                  exact ih79 ls _ _ ⟨lv_sub hl [0, 3, 4, 5, 6, 7, 8] rfl, (by rw [← mixI_s]; exact hG), hS⟩
              · skip
                have hg : ∀ i, i < 16 → 0 ≤ (fun i => sRound q 3 (M a i) d) i ∧ (fun i => sRound q 3 (M a i) d) i < q := fun i hi => by
                  have h9 := hM a i (by omega) hi
                  have h8 := sRound_lt (k := k) (op := 3) (x := M a i) (d := d) h9.1 (by omega) (by omega) (by omega)
                  rw [← qk] at h8
                  exact h8
                refine ix_lconst1 hx hb dX1_round_70 ?_
                refine lv_iload hx hb dX1_round_71 (lv_at hl 4 rfl) ?_
                refine ix_lshl (d := d) hx hb (by omega) (by omega) dX1_round_73 ?_
                refine wx_l (congrArg lI (show 1 * 2 ^ d = 2 ^ (d) from Int.one_mul _)) ?_
                refine lv_lstore (lv' := [(5, .long (lI (2 ^ (d)))), (0, .ref (mo ω)), (1, .int (iI (to))), (2, .int (iI (3))), (3, .int (iI (a))), (4, .int (iI (d)))]) hx hb dX1_round_74 hl (by decide) rfl (fun ls hl => ?_)
                refine ix_iconst hx hb dX1_round_76 ?_
                refine lv_istore (lv' := [(7, .int (iI (0))), (5, .long (lI (2 ^ (d)))), (0, .ref (mo ω)), (1, .int (iI (to))), (2, .int (iI (3))), (3, .int (iI (a))), (4, .int (iI (d)))]) hx hb dX1_round_77 hl (by decide) rfl (fun ls hl => ?_)
                refine ix_loopH (I := fun j ls H locs => lv_has ls 11 [(7, .int (iI ((j : Nat)))), (5, .long (lI (2 ^ (d)))), (0, .ref (mo ω)), (1, .int (iI (to))), (2, .int (iI (3))), (3, .int (iI (a))), (4, .int (iI (d)))] ∧ GM ω (0) (k) (q) (M) (mixI f (fun i => sRound q 3 (M a i) d) (j)) s H ∧ va_S (Am ω) s.heap H locs) 16 0 (by omega) ⟨lv_sub hl [0, 1, 2, 3, 4, 5, 6] rfl, (by rw [mixI_0]; exact hG), hS⟩ (fun ls H locs hI => ?_) (fun j ls H locs hj hI ih79 => ?_)
                · obtain ⟨hl, hG, hS⟩ := hI
                  have hl : lv_has ls 11 [(7, .int (iI ((16 : Nat)))), (5, .long (lI (2 ^ (d)))), (0, .ref (mo ω)), (1, .int (iI (to))), (2, .int (iI (3))), (3, .int (iI (a))), (4, .int (iI (d)))] := hl
                  have hf2 : ∀ i, i < 16 → 0 ≤ mixI f (fun i => sRound q 3 (M a i) d) (16) i ∧ mixI f (fun i => sRound q 3 (M a i) d) (16) i < q := fun i hi9 => by rw [mixI_at hi9]; exact hg i hi9
                  refine lv_iload hx hb dX1_round_79 (lv_at hl 0 rfl) ?_
                  refine ix_bipush hx hb (by decide) dX1_round_81 ?_
                  refine ix_icmp_ge (tgt := 218) hx hb (by omega) (by omega) (by omega) (by omega) dX1_round_83 (by decide) (fun h83 => ?_) (fun h83 => absurd h83 (by omega))
                  refine lv_aload_n hx hb dX1_round_218 rfl (lv_at hl 2 rfl) ?_
                  refine lv_iload_n hx hb dX1_round_219 rfl (lv_at hl 3 rfl) ?_
                  refine va_calli (va_runV (As := [.int (iI (to))]) (rest := []) ⟨hx, hb, hml, hown, hts⟩ (m_put l ω (0) (k) (q) (M) (mixI f (fun i => sRound q 3 (M a i) d) (16)) (to) hq1 hq2 (by omega) hf2) (cwV 1 hts (gU (hd := [.methodLink "NoiseRingModel" 52 yX1_put, .instanceMethod yX1_put, .selects "NoiseRingModel" yX1_put yX1_put, .initialized "NoiseRingModel"]) (List.forall_mem_cons.mpr ⟨u371, List.forall_mem_cons.mpr ⟨u372, List.forall_mem_cons.mpr ⟨u18, List.forall_mem_cons.mpr ⟨u30, fun _ h => by cases h⟩⟩⟩⟩) u373) rfl rfl rfl (by decide +kernel) ⟨Nat.le_of_ble_eq_true rfl, Nat.le_of_ble_eq_true rfl⟩) (gm_V hG) rfl rfl hl.1 rfl (lv_room (Nat.le_of_ble_eq_true rfl)) dX1_round_220 ⟨Nat.le_of_ble_eq_true rfl, Nat.le_of_ble_eq_true rfl⟩) hS (fun q9 _ h => h) (fun q9 h => h) (fun r220 u9 t H1 locs1 ht hvm hr220 hB hz hk hS1 => ?_)
                  subst hr220
                  clear hS
                  have hS := hS1
                  rw [ht] at hB
                  have hG : GM ω (0) (k) (q) (mixR (M) (to) (mixI f (fun i => sRound q 3 (M a i) d) (16)) 16) (mixI f (fun i => sRound q 3 (M a i) d) (16)) s H1 := ⟨hG.1, hB⟩
                  rw [mixR_mix] at hG
                  exact W.iret hx hb hrt (fun t ht hW => ⟨⟨_, (0, mixI f (fun i => sRound q 3 (M a i) d) (16)), rfl, Or.inl ⟨⟨by omega, by omega⟩, rfl, congrArg iI (sCnt_eq (fun i hi9 => mixI_at hi9))⟩, ⟨fun _ => by have h9 := hG.2; rw [← ht] at h9; exact h9, fun g9 => absurd rfl g9⟩⟩, hS.F ht⟩) hS.2.2 dX1_round_223
                · obtain ⟨hl, hG, hS⟩ := hI
                  have hl : lv_has ls 11 [(7, .int (iI ((j : Nat)))), (5, .long (lI (2 ^ (d)))), (0, .ref (mo ω)), (1, .int (iI (to))), (2, .int (iI (3))), (3, .int (iI (a))), (4, .int (iI (d)))] := hl
                  have hm := hM a j (by omega) hj
                  have hn := sNear_in (x := M a j) (show (0 : Int) < 2 ^ d by omega)
                  have hn2 := sNear_low (x := M a j) hm.1 (show (0 : Int) < 2 ^ d by omega)
                  have hgj : 0 ≤ sRound q 3 (M a j) d ∧ sRound q 3 (M a j) d < q := hg j hj
                  refine lv_iload hx hb dX1_round_79 (lv_at hl 0 rfl) ?_
                  refine ix_bipush hx hb (by decide) dX1_round_81 ?_
                  refine ix_icmp_ge (tgt := 218) hx hb (by omega) (by omega) (by omega) (by omega) dX1_round_83 (by decide) (fun h83 => absurd h83 (by omega)) (fun h83 => ?_)
                  refine lv_aload_n hx hb dX1_round_86 rfl (lv_at hl 2 rfl) ?_
                  refine lv_iload_n hx hb dX1_round_87 rfl (lv_at hl 5 rfl) ?_
                  refine lv_iload hx hb dX1_round_88 (lv_at hl 0 rfl) ?_
                  refine vp_callSi (va_Run.run (va_runV (As := [.int (iI (a)), .int (iI ((j : Nat)))]) (rest := []) ⟨hx, hb, hml, hown, hts⟩ (m_at l ω (0) (k) (q) (M) (mixI f (fun i => sRound q 3 (M a i) d) (j)) (a) (j) (by omega) (by omega)) (cwV 2 hts (gU (hd := [.methodLink "NoiseRingModel" 45 yX1_at, .instanceMethod yX1_at, .selects "NoiseRingModel" yX1_at yX1_at, .initialized "NoiseRingModel"]) (List.forall_mem_cons.mpr ⟨u356, List.forall_mem_cons.mpr ⟨u357, List.forall_mem_cons.mpr ⟨u16, List.forall_mem_cons.mpr ⟨u30, fun _ h => by cases h⟩⟩⟩⟩) u358) rfl rfl rfl (by decide +kernel) ⟨Nat.le_of_ble_eq_true rfl, Nat.le_of_ble_eq_true rfl⟩) (gm_V hG) rfl rfl hl.1 rfl (lv_room (Nat.le_of_ble_eq_true rfl)) dX1_round_90 ⟨Nat.le_of_ble_eq_true rfl, Nat.le_of_ble_eq_true rfl⟩)) (fun r90 hr90 => ?_)
                  subst hr90
                  refine ix_i2l hx hb (by omega) (by omega) dX1_round_93 ?_
                  refine lv_lstore (lv' := [(8, .long (lI (M (a) (j)))), (7, .int (iI ((j : Nat)))), (5, .long (lI (2 ^ (d)))), (0, .ref (mo ω)), (1, .int (iI (to))), (2, .int (iI (3))), (3, .int (iI (a))), (4, .int (iI (d)))]) hx hb dX1_round_94 hl (by decide) rfl (fun ls hl => ?_)
                  refine lv_lload hx hb dX1_round_96 (lv_at hl 0 rfl) ?_
                  refine ix_l2i hx hb dX1_round_98 ?_
                  refine lv_lload hx hb dX1_round_99 (lv_at hl 2 rfl) ?_
                  refine ix_l2i hx hb dX1_round_101 ?_
                  refine vp_callSi (va_Run.run (va_runS (As := [.int (iI (M (a) (j))), .int (iI (2 ^ (d)))]) (rest := []) ⟨hx, hb, hml, hown, hts⟩ (m_rest l (M (a) (j)) (2 ^ (d)) (by omega) (by omega) (by omega) (by omega)) (va_cwS 2 hts (gU (hd := [.methodLink "NoiseRingModel" 59 yX1_rest, .static yX1_rest, .initialized "NoiseRingModel"]) (List.forall_mem_cons.mpr ⟨u385, List.forall_mem_cons.mpr ⟨u386, List.forall_mem_cons.mpr ⟨u30, fun _ h => by cases h⟩⟩⟩) u387) rfl rfl rfl (by decide +kernel) ⟨Nat.le_of_ble_eq_true rfl, Nat.le_of_ble_eq_true rfl⟩) gn_S rfl rfl hl.1 rfl (lv_room (Nat.le_of_ble_eq_true rfl)) dX1_round_102 ⟨Nat.le_of_ble_eq_true rfl, Nat.le_of_ble_eq_true rfl⟩)) (fun r102 hr102 => ?_)
                  subst hr102
                  refine lv_istore (lv' := [(10, .int (iI ((sNear (M (a) (j)) (2 ^ (d)))))), (8, .long (lI (M (a) (j)))), (7, .int (iI ((j : Nat)))), (5, .long (lI (2 ^ (d)))), (0, .ref (mo ω)), (1, .int (iI (to))), (2, .int (iI (3))), (3, .int (iI (a))), (4, .int (iI (d)))]) hx hb dX1_round_105 hl (by decide) rfl (fun ls hl => ?_)
                  refine lv_aload_n hx hb dX1_round_107 rfl (lv_at hl 4 rfl) ?_
                  refine gm_get hx hb hts hown hG 4 (by decide) rfl u328 dX1_round_108 ?_
                  refine lv_iload hx hb dX1_round_111 (lv_at hl 2 rfl) ?_
                  refine lv_iload_n hx hb dX1_round_113 rfl (lv_at hl 6 rfl) ?_
                  refine ix_if_ne (tgt := 149) hx hb (by omega) (by omega) dX1_round_114 (by decide) (fun h114 => ?_) (fun h114 => absurd h114 (by omega))
                  refine lv_iload_n hx hb dX1_round_149 rfl (lv_at hl 6 rfl) ?_
                  refine ix_iconst hx hb dX1_round_150 ?_
                  refine ix_icmp_ne (tgt := 186) hx hb (by omega) (by omega) (by omega) (by omega) dX1_round_151 (by decide) (fun h151 => ?_) (fun h151 => absurd h151 (by omega))
                  refine lv_iload_n hx hb dX1_round_186 rfl (lv_at hl 6 rfl) ?_
                  refine ix_iconst hx hb dX1_round_187 ?_
                  refine ix_icmp_ne (tgt := 201) hx hb (by omega) (by omega) (by omega) (by omega) dX1_round_188 (by decide) (fun h188 => ?_) (fun h188 => absurd h188 (by omega))
                  refine lv_lload hx hb dX1_round_201 (lv_at hl 1 rfl) ?_
                  refine lv_iload hx hb dX1_round_203 (lv_at hl 0 rfl) ?_
                  refine ix_i2l hx hb (by omega) (by omega) dX1_round_205 ?_
                  refine ix_lsub hx hb dX1_round_206 ?_
                  refine lv_lload hx hb dX1_round_207 (lv_at hl 3 rfl) ?_
                  refine ix_ldiv hx hb (by omega) (by omega) (by omega) (by omega) dX1_round_209 ?_
                  refine ix_l2i hx hb dX1_round_210 ?_
                  refine wx_i (congrArg iI (show ((M (a) (j) - (sNear (M (a) (j)) (2 ^ (d)))) / 2 ^ (d)) = (fun i => sRound q 3 (M a i) d) j from ?_)) ?_
                  · rfl
                  refine gm_mst (i := j) hx hb hG hS (by omega) dX1_round_211 (fun H1 locs1 hG hS => ?_)
                  refine lv_iinc (k := 2) (v := iI ((j : Nat) + 1)) (lv' := [(7, .int (iI ((j : Nat) + 1))), (10, .int (iI ((sNear (M (a) (j)) (2 ^ (d)))))), (8, .long (lI (M (a) (j)))), (5, .long (lI (2 ^ (d)))), (0, .ref (mo ω)), (1, .int (iI (to))), (2, .int (iI (3))), (3, .int (iI (a))), (4, .int (iI (d)))]) hx hb dX1_round_212 hl rfl (iI_add _ _) (by decide) rfl (fun ls hl => ?_)
                  refine lv_goto (tgt := 79) hx hb dX1_round_215 (by decide) ?_
                  exact ih79 ls _ _ ⟨lv_sub hl [0, 3, 4, 5, 6, 7, 8] rfl, (by rw [← mixI_s]; exact hG), hS⟩
            · skip
              refine ix_iconst hx hb dX1_round_53 ?_
              refine lv_goto (tgt := 58) hx hb dX1_round_54 (by decide) ?_
              refine gm_put0 hx hb hts hown hG hS u324 dX1_round_58 (fun H1 locs1 hG hS => ?_)
              refine lv_aload_n hx hb dX1_round_61 rfl (lv_at hl 0 rfl) ?_
              refine gm_get hx hb hts hown hG 0 (by decide) rfl u324 dX1_round_62 ?_
              refine ix_if_le (tgt := 70) hx hb (by omega) (by omega) dX1_round_65 (by decide) (fun h65 => absurd h65 (by omega)) (fun h65 => ?_)
              refine ix_iconst hx hb dX1_round_68 ?_
              exact W.iret hx hb hrt (fun t ht hW => ⟨⟨_, (2, f), rfl, Or.inr (Or.inr ⟨⟨by omega, by omega⟩, rfl⟩), ⟨fun g9 => absurd g9 (show ¬ (2 : Int) = 0 by decide), fun _ => by have h9 := hG.2; rw [← ht] at h9; exact h9⟩⟩, hS.F ht⟩) hS.2.2 dX1_round_69
    · skip
      refine ix_iconst hx hb dX1_round_15 ?_
      refine lv_goto (tgt := 58) hx hb dX1_round_16 (by decide) ?_
      refine gm_put0 hx hb hts hown hG hS u324 dX1_round_58 (fun H1 locs1 hG hS => ?_)
      refine lv_aload_n hx hb dX1_round_61 rfl (lv_at hl 0 rfl) ?_
      refine gm_get hx hb hts hown hG 0 (by decide) rfl u324 dX1_round_62 ?_
      refine ix_if_le (tgt := 70) hx hb (by omega) (by omega) dX1_round_65 (by decide) (fun h65 => absurd h65 (by omega)) (fun h65 => ?_)
      refine ix_iconst hx hb dX1_round_68 ?_
      exact W.iret hx hb hrt (fun t ht hW => ⟨⟨_, (1, f), rfl, Or.inr (Or.inl ⟨by omega, rfl⟩), ⟨fun g9 => absurd g9 (show ¬ (1 : Int) = 0 by decide), fun _ => by have h9 := hG.2; rw [← ht] at h9; exact h9⟩⟩, hS.F ht⟩) hS.2.2 dX1_round_69

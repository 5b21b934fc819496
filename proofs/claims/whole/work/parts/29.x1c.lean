/-! The reference's writing methods, by program (wip/gen/mw.py). -/
set_option maxHeartbeats 4000000 in
set_option maxRecDepth 100000 in
theorem m_part (l : Launch) (ω : WM) (th k q : Int) (M : Nat → Nat → Int) (f : Nat → Int) (to a al hi : Int) (to1 : -2147483648 ≤ to) (to2 : to < 2147483648) (a1 : -2147483648 ≤ a) (a2 : a < 2147483648) (al1 : -2147483648 ≤ al) (al2 : al < 2147483648) (hi1 : -2147483648 ≤ hi) (hi2 : hi < 2147483648) (hq1 : 3329 ≤ q) (hq2 : q ≤ 8380417) (hM : ∀ r i, r < 12 → i < 16 → 0 ≤ M r i ∧ M r i < q) : Met l yX1_part wsX1_part ({ frames := 2, cells := 0, slots := 0, locals := 47 }) (va_Pc [.ref (mo ω), .int (iI (to)), .int (iI (a)), .int (iI (al)), .int (iI (hi))] (fun U => GM ω th k q M f U U.heap)) (va_Qi (fun r_ (w_ : Int × (Nat → Int)) => (((0 ≤ to ∧ to < 12) ∧ (0 ≤ a ∧ a < 12)) ∧ (sAli q al = 1)) ∧ w_.1 = 0 ∧ r_ = iI (sCnt (fun i => if hi = 0 then sRest q (M a.toNat i) al % q else sPart q (M a.toNat i) al) 16) ∨ (¬ ((0 ≤ to ∧ to < 12) ∧ (0 ≤ a ∧ a < 12))) ∧ w_.1 = 1 ∨ (((0 ≤ to ∧ to < 12) ∧ (0 ≤ a ∧ a < 12)) ∧ ¬ (sAli q al = 1)) ∧ w_.1 = 2) (fun (w_ : Int × (Nat → Int)) t => BM ω k q M k q (mixR M to.toNat (fun i => if hi = 0 then sRest q (M a.toNat i) al % q else sPart q (M a.toNat i) al) 16) w_ t) (Am ω)) 0 0 (Am ω) := by
  refine Met.ofW (cc := cX1_part) (maxL := 6) (ret := (some .int)) (by decide +kernel) rfl ?_
  intro p e s m args below meth c s₁ B hml hv
  obtain ⟨rfl, hG⟩ := hv
  have hx := B.exec
  have hb := B.bytes
  have hrt := B.returns
  have hts : ∀ w ∈ wsU, w.before _ s = true := fun w h => atoms_spec (ws := wsX1_part) B.pre w (List.mem_cons_of_mem _ h)
  have hown : s.vm.findClass "NoiseRingModel" = some m.cls := findClass_of_methodNamed B.named
  have hlocks := B.notSynchronized
  have hS : va_S (Am ω) s.heap s.heap [] := va_S.rf
  have hl := lv_entry ([.ref (mo ω), .int (iI (to)), .int (iI (a)), .int (iI (al)), .int (iI (hi))]) (n := 6) (Nat.le_of_ble_eq_true rfl)
  rw [lg_entry_eq]
  generalize (lg_sl ([.ref (mo ω), .int (iI (to)), .int (iI (a)), .int (iI (al)), .int (iI (hi))]) ++ List.replicate (6 - (lg_sl ([.ref (mo ω), .int (iI (to)), .int (iI (a)), .int (iI (al)), .int (iI (hi))])).length) Slot.unset).toArray = ls at hl ⊢
  have hl : lv_has ls 6 [(0, .ref (mo ω)), (1, .int (iI (to))), (2, .int (iI (a))), (3, .int (iI (al))), (4, .int (iI (hi)))] := hl
  have hai : sAli q al = 0 ∨ sAli q al = 1 := by unfold sAli; split <;> omega
  refine lv_aload_n hx hb dX1_part_0 rfl (lv_at hl 0 rfl) ?_
  refine lv_iload_n hx hb dX1_part_1 rfl (lv_at hl 1 rfl) ?_
  refine vp_callSi (va_Run.run (va_runS (As := [.int (iI (to))]) (rest := [.ref (mo ω)]) ⟨hx, hb, hml, hown, hts⟩ (m_none l (to) (by omega) (by omega)) (va_cwS 1 hts (gU (hd := [.methodLink "NoiseRingModel" 41 yX1_none, .static yX1_none, .initialized "NoiseRingModel"]) (List.forall_mem_cons.mpr ⟨u353, List.forall_mem_cons.mpr ⟨u354, List.forall_mem_cons.mpr ⟨u30, fun _ h => by cases h⟩⟩⟩) u355) rfl rfl rfl (by decide +kernel) ⟨Nat.le_of_ble_eq_true rfl, Nat.le_of_ble_eq_true rfl⟩) gn_S rfl rfl hl.1 rfl (lv_room (Nat.le_of_ble_eq_true rfl)) dX1_part_2 ⟨Nat.le_of_ble_eq_true rfl, Nat.le_of_ble_eq_true rfl⟩)) (fun r2 hr2 => ?_)
  subst hr2
  refine ix_if_ne (tgt := 15) hx hb (by omega) (by omega) dX1_part_5 (by decide) (fun h5 => ?_) (fun h5 => ?_)
  · skip
    refine ix_iconst hx hb dX1_part_15 ?_
    refine lv_goto (tgt := 32) hx hb dX1_part_16 (by decide) ?_
    refine gm_put0 hx hb hts hown hG hS u324 dX1_part_32 (fun H1 locs1 hG hS => ?_)
    refine lv_aload_n hx hb dX1_part_35 rfl (lv_at hl 0 rfl) ?_
    refine gm_get hx hb hts hown hG 0 (by decide) rfl u324 dX1_part_36 ?_
    refine ix_if_le (tgt := 44) hx hb (by omega) (by omega) dX1_part_39 (by decide) (fun h39 => absurd h39 (by omega)) (fun h39 => ?_)
    refine ix_iconst hx hb dX1_part_42 ?_
    exact W.iret hx hb hrt (fun t ht hW => ⟨⟨_, (1, f), rfl, Or.inr (Or.inl ⟨by omega, rfl⟩), ⟨fun g9 => absurd g9 (show ¬ (1 : Int) = 0 by decide), fun _ => by have h9 := hG.2; rw [← ht] at h9; exact h9⟩⟩, hS.F ht⟩) hS.2.2 dX1_part_43
  · skip
    refine lv_iload_n hx hb dX1_part_8 rfl (lv_at hl 2 rfl) ?_
    refine vp_callSi (va_Run.run (va_runS (As := [.int (iI (a))]) (rest := [.ref (mo ω)]) ⟨hx, hb, hml, hown, hts⟩ (m_none l (a) (by omega) (by omega)) (va_cwS 1 hts (gU (hd := [.methodLink "NoiseRingModel" 41 yX1_none, .static yX1_none, .initialized "NoiseRingModel"]) (List.forall_mem_cons.mpr ⟨u353, List.forall_mem_cons.mpr ⟨u354, List.forall_mem_cons.mpr ⟨u30, fun _ h => by cases h⟩⟩⟩) u355) rfl rfl rfl (by decide +kernel) ⟨Nat.le_of_ble_eq_true rfl, Nat.le_of_ble_eq_true rfl⟩) gn_S rfl rfl hl.1 rfl (lv_room (Nat.le_of_ble_eq_true rfl)) dX1_part_9 ⟨Nat.le_of_ble_eq_true rfl, Nat.le_of_ble_eq_true rfl⟩)) (fun r9 hr9 => ?_)
    subst hr9
    refine ix_if_eq (tgt := 19) hx hb (by omega) (by omega) dX1_part_12 (by decide) (fun h12 => ?_) (fun h12 => ?_)
    · skip
      refine lv_aload_n hx hb dX1_part_19 rfl (lv_at hl 0 rfl) ?_
      refine lv_iload_n hx hb dX1_part_20 rfl (lv_at hl 3 rfl) ?_
      refine vp_callSi (va_Run.run (va_runV (As := [.int (iI (al))]) (rest := [.ref (mo ω)]) ⟨hx, hb, hml, hown, hts⟩ (m_isAlpha l ω (th) (k) (q) (M) (f) (al) hq1 hq2 (by omega) (by omega)) (cwV 1 hts (gU (hd := [.methodLink "NoiseRingModel" 64 yX1_isAlpha, .instanceMethod yX1_isAlpha, .selects "NoiseRingModel" yX1_isAlpha yX1_isAlpha, .initialized "NoiseRingModel"]) (List.forall_mem_cons.mpr ⟨u393, List.forall_mem_cons.mpr ⟨u394, List.forall_mem_cons.mpr ⟨u21, List.forall_mem_cons.mpr ⟨u30, fun _ h => by cases h⟩⟩⟩⟩) u395) rfl rfl rfl (by decide +kernel) ⟨Nat.le_of_ble_eq_true rfl, Nat.le_of_ble_eq_true rfl⟩) (gm_V hG) rfl rfl hl.1 rfl (lv_room (Nat.le_of_ble_eq_true rfl)) dX1_part_21 ⟨Nat.le_of_ble_eq_true rfl, Nat.le_of_ble_eq_true rfl⟩)) (fun r21 hr21 => ?_)
      subst hr21
      refine ix_if_ne (tgt := 31) hx hb (by omega) (by omega) dX1_part_24 (by decide) (fun h24 => ?_) (fun h24 => ?_)
      · skip
        refine ix_iconst hx hb dX1_part_31 ?_
        refine gm_put0 hx hb hts hown hG hS u324 dX1_part_32 (fun H1 locs1 hG hS => ?_)
        refine lv_aload_n hx hb dX1_part_35 rfl (lv_at hl 0 rfl) ?_
        refine gm_get hx hb hts hown hG 0 (by decide) rfl u324 dX1_part_36 ?_
        refine ix_if_le (tgt := 44) hx hb (by omega) (by omega) dX1_part_39 (by decide) (fun h39 => ?_) (fun h39 => absurd h39 (by omega))
        obtain ⟨to, rfl⟩ := Int.eq_ofNat_of_zero_le (show 0 ≤ to by omega)
        obtain ⟨a, rfl⟩ := Int.eq_ofNat_of_zero_le (show 0 ≤ a by omega)
        have hal := sAl_of (q := q) (a := al) (by omega)
        have hal2 := sAl_lt (q := q) (by omega) hal
        have hg : ∀ i, i < 16 → 0 ≤ (fun i => if hi = 0 then sRest q (M a i) al % q else sPart q (M a i) al) i ∧ (fun i => if hi = 0 then sRest q (M a i) al % q else sPart q (M a i) al) i < q := fun i hi9 => by
          have h9 := hM a i (by omega) hi9
          have h8 := sPart_lt (q := q) (x := M a i) (a := al) h9.1 h9.2 hal2.1 hal2.2
          have h7 := Int.emod_nonneg (sRest q (M a i) al) (show q ≠ 0 by omega)
          have h6 := Int.emod_lt_of_pos (sRest q (M a i) al) (show 0 < q by omega)
          show 0 ≤ (if hi = 0 then _ else _) ∧ (if hi = 0 then _ else _) < q
          split <;> omega
        refine ix_iconst hx hb dX1_part_44 ?_
        refine lv_istore (lv' := [(5, .int (iI (0))), (0, .ref (mo ω)), (1, .int (iI (to))), (2, .int (iI (a))), (3, .int (iI (al))), (4, .int (iI (hi)))]) hx hb dX1_part_45 hl (by decide) rfl (fun ls hl => ?_)
        refine ix_loopH (I := fun j ls H locs => lv_has ls 6 [(5, .int (iI ((j : Nat)))), (0, .ref (mo ω)), (1, .int (iI (to))), (2, .int (iI (a))), (3, .int (iI (al))), (4, .int (iI (hi)))] ∧ GM ω (0) (k) (q) (M) (mixI f (fun i => if hi = 0 then sRest q (M a i) al % q else sPart q (M a i) al) (j)) s H ∧ va_S (Am ω) s.heap H locs) 16 0 (by omega) ⟨lv_sub hl [0, 1, 2, 3, 4, 5] rfl, (by rw [mixI_0]; exact hG), hS⟩ (fun ls H locs hI => ?_) (fun j ls H locs hj hI ih47 => ?_)
        · obtain ⟨hl, hG, hS⟩ := hI
          have hl : lv_has ls 6 [(5, .int (iI ((16 : Nat)))), (0, .ref (mo ω)), (1, .int (iI (to))), (2, .int (iI (a))), (3, .int (iI (al))), (4, .int (iI (hi)))] := hl
          have hf2 : ∀ i, i < 16 → 0 ≤ mixI f (fun i => if hi = 0 then sRest q (M a i) al % q else sPart q (M a i) al) (16) i ∧ mixI f (fun i => if hi = 0 then sRest q (M a i) al % q else sPart q (M a i) al) (16) i < q := fun i hi9 => by rw [mixI_at hi9]; exact hg i hi9
          refine lv_iload hx hb dX1_part_47 (lv_at hl 0 rfl) ?_
          refine ix_bipush hx hb (by decide) dX1_part_49 ?_
          refine ix_icmp_ge (tgt := 104) hx hb (by omega) (by omega) (by omega) (by omega) dX1_part_51 (by decide) (fun h51 => ?_) (fun h51 => absurd h51 (by omega))
          refine lv_aload_n hx hb dX1_part_104 rfl (lv_at hl 1 rfl) ?_
          refine lv_iload_n hx hb dX1_part_105 rfl (lv_at hl 2 rfl) ?_
          refine va_calli (va_runV (As := [.int (iI (to))]) (rest := []) ⟨hx, hb, hml, hown, hts⟩ (m_put l ω (0) (k) (q) (M) (mixI f (fun i => if hi = 0 then sRest q (M a i) al % q else sPart q (M a i) al) (16)) (to) hq1 hq2 (by omega) hf2) (cwV 1 hts (gU (hd := [.methodLink "NoiseRingModel" 52 yX1_put, .instanceMethod yX1_put, .selects "NoiseRingModel" yX1_put yX1_put, .initialized "NoiseRingModel"]) (List.forall_mem_cons.mpr ⟨u371, List.forall_mem_cons.mpr ⟨u372, List.forall_mem_cons.mpr ⟨u18, List.forall_mem_cons.mpr ⟨u30, fun _ h => by cases h⟩⟩⟩⟩) u373) rfl rfl rfl (by decide +kernel) ⟨Nat.le_of_ble_eq_true rfl, Nat.le_of_ble_eq_true rfl⟩) (gm_V hG) rfl rfl hl.1 rfl (lv_room (Nat.le_of_ble_eq_true rfl)) dX1_part_106 ⟨Nat.le_of_ble_eq_true rfl, Nat.le_of_ble_eq_true rfl⟩) hS (fun q9 _ h => h) (fun q9 h => h) (fun r106 u9 t H1 locs1 ht hvm hr106 hB hz hk hS1 => ?_)
          subst hr106
          clear hS
          have hS := hS1
          rw [ht] at hB
          have hG : GM ω (0) (k) (q) (mixR (M) (to) (mixI f (fun i => if hi = 0 then sRest q (M a i) al % q else sPart q (M a i) al) (16)) 16) (mixI f (fun i => if hi = 0 then sRest q (M a i) al % q else sPart q (M a i) al) (16)) s H1 := ⟨hG.1, hB⟩
          rw [mixR_mix] at hG
          exact W.iret hx hb hrt (fun t ht hW => ⟨⟨_, (0, mixI f (fun i => if hi = 0 then sRest q (M a i) al % q else sPart q (M a i) al) (16)), rfl, Or.inl ⟨by omega, rfl, congrArg iI (sCnt_eq (fun i hi9 => mixI_at hi9))⟩, ⟨fun _ => by have h9 := hG.2; rw [← ht] at h9; exact h9, fun g9 => absurd rfl g9⟩⟩, hS.F ht⟩) hS.2.2 dX1_part_109
        · obtain ⟨hl, hG, hS⟩ := hI
          have hl : lv_has ls 6 [(5, .int (iI ((j : Nat)))), (0, .ref (mo ω)), (1, .int (iI (to))), (2, .int (iI (a))), (3, .int (iI (al))), (4, .int (iI (hi)))] := hl
          have hm := hM a j (by omega) hj
          have hn := sNear_in (x := M a j) (show 0 < al by omega)
          have hrr : -2147483648 ≤ sRest q (M (a) (j)) (al) ∧ sRest q (M (a) (j)) (al) < 2147483648 := by
            unfold sRest
            split <;> omega
          refine lv_iload hx hb dX1_part_47 (lv_at hl 0 rfl) ?_
          refine ix_bipush hx hb (by decide) dX1_part_49 ?_
          refine ix_icmp_ge (tgt := 104) hx hb (by omega) (by omega) (by omega) (by omega) dX1_part_51 (by decide) (fun h51 => absurd h51 (by omega)) (fun h51 => ?_)
          refine lv_aload_n hx hb dX1_part_54 rfl (lv_at hl 1 rfl) ?_
          refine gm_get hx hb hts hown hG 4 (by decide) rfl u328 dX1_part_55 ?_
          refine lv_iload hx hb dX1_part_58 (lv_at hl 0 rfl) ?_
          refine lv_iload hx hb dX1_part_60 (lv_at hl 5 rfl) ?_
          refine ix_if_eq (tgt := 80) hx hb (by omega) (by omega) dX1_part_62 (by decide) (fun h62 => ?_) (fun h62 => ?_)
          · skip
            refine lv_aload_n hx hb dX1_part_80 rfl (lv_at hl 1 rfl) ?_
            refine lv_aload_n hx hb dX1_part_81 rfl (lv_at hl 1 rfl) ?_
            refine lv_aload_n hx hb dX1_part_82 rfl (lv_at hl 1 rfl) ?_
            refine lv_iload_n hx hb dX1_part_83 rfl (lv_at hl 3 rfl) ?_
            refine lv_iload hx hb dX1_part_84 (lv_at hl 0 rfl) ?_
            refine vp_callSi (va_Run.run (va_runV (As := [.int (iI (a)), .int (iI ((j : Nat)))]) (rest := [.ref (mo ω), .ref (mo ω), .int (iI ((j : Nat))), .ref (md ω)]) ⟨hx, hb, hml, hown, hts⟩ (m_at l ω (0) (k) (q) (M) (mixI f (fun i => if hi = 0 then sRest q (M a i) al % q else sPart q (M a i) al) (j)) (a) (j) (by omega) (by omega)) (cwV 2 hts (gU (hd := [.methodLink "NoiseRingModel" 45 yX1_at, .instanceMethod yX1_at, .selects "NoiseRingModel" yX1_at yX1_at, .initialized "NoiseRingModel"]) (List.forall_mem_cons.mpr ⟨u356, List.forall_mem_cons.mpr ⟨u357, List.forall_mem_cons.mpr ⟨u16, List.forall_mem_cons.mpr ⟨u30, fun _ h => by cases h⟩⟩⟩⟩) u358) rfl rfl rfl (by decide +kernel) ⟨Nat.le_of_ble_eq_true rfl, Nat.le_of_ble_eq_true rfl⟩) (gm_V hG) rfl rfl hl.1 rfl (lv_room (Nat.le_of_ble_eq_true rfl)) dX1_part_86 ⟨Nat.le_of_ble_eq_true rfl, Nat.le_of_ble_eq_true rfl⟩)) (fun r86 hr86 => ?_)
            subst hr86
            refine lv_iload_n hx hb dX1_part_89 rfl (lv_at hl 4 rfl) ?_
            refine vp_callSi (va_Run.run (va_runV (As := [.int (iI (M (a) (j))), .int (iI (al))]) (rest := [.ref (mo ω), .int (iI ((j : Nat))), .ref (md ω)]) ⟨hx, hb, hml, hown, hts⟩ (m_restOf l ω (0) (k) (q) (M) (mixI f (fun i => if hi = 0 then sRest q (M a i) al % q else sPart q (M a i) al) (j)) (M (a) (j)) (al) hq1 hq2 (by omega) (by omega) (by omega) (by omega)) (cwV 2 hts (gU (hd := [.methodLink "NoiseRingModel" 70 yX1_restOf, .instanceMethod yX1_restOf, .selects "NoiseRingModel" yX1_restOf yX1_restOf, .initialized "NoiseRingModel"]) (List.forall_mem_cons.mpr ⟨u399, List.forall_mem_cons.mpr ⟨u400, List.forall_mem_cons.mpr ⟨u23, List.forall_mem_cons.mpr ⟨u30, fun _ h => by cases h⟩⟩⟩⟩) u401) rfl rfl rfl (by decide +kernel) ⟨Nat.le_of_ble_eq_true rfl, Nat.le_of_ble_eq_true rfl⟩) (gm_V hG) rfl rfl hl.1 rfl (lv_room (Nat.le_of_ble_eq_true rfl)) dX1_part_90 ⟨Nat.le_of_ble_eq_true rfl, Nat.le_of_ble_eq_true rfl⟩)) (fun r90 hr90 => ?_)
            subst hr90
            refine ix_i2l hx hb (by omega) (by omega) dX1_part_93 ?_
            refine vp_callSi (va_Run.run (va_runV (As := [.long (lI ((sRest q (M (a) (j)) (al))))]) (rest := [.int (iI ((j : Nat))), .ref (md ω)]) ⟨hx, hb, hml, hown, hts⟩ (m_of l ω (0) (k) (q) (M) (mixI f (fun i => if hi = 0 then sRest q (M a i) al % q else sPart q (M a i) al) (j)) ((sRest q (M (a) (j)) (al))) hq1 hq2 (by omega) (by omega)) (cwV 1 hts (gU (hd := [.methodLink "NoiseRingModel" 48 yX1_of, .instanceMethod yX1_of, .selects "NoiseRingModel" yX1_of yX1_of, .initialized "NoiseRingModel"]) (List.forall_mem_cons.mpr ⟨u359, List.forall_mem_cons.mpr ⟨u360, List.forall_mem_cons.mpr ⟨u17, List.forall_mem_cons.mpr ⟨u30, fun _ h => by cases h⟩⟩⟩⟩) u361) rfl rfl rfl (by decide +kernel) ⟨Nat.le_of_ble_eq_true rfl, Nat.le_of_ble_eq_true rfl⟩) (gm_V hG) rfl rfl hl.1 rfl (lv_room (Nat.le_of_ble_eq_true rfl)) dX1_part_94 ⟨Nat.le_of_ble_eq_true rfl, Nat.le_of_ble_eq_true rfl⟩)) (fun r94 hr94 => ?_)
            subst hr94
            refine wx_i (congrArg iI (show ((sRest q (M (a) (j)) (al))) % q = (fun i => if hi = 0 then sRest q (M a i) al % q else sPart q (M a i) al) j from ?_)) ?_
            · show _ = if hi = 0 then sRest q (M a j) al % q else sPart q (M a j) al
              first | rw [if_pos (by omega)] | rw [if_neg (by omega)]
            refine gm_mst (i := j) hx hb hG hS (by omega) dX1_part_97 (fun H1 locs1 hG hS => ?_)
            refine lv_iinc (k := 0) (v := iI ((j : Nat) + 1)) (lv' := [(5, .int (iI ((j : Nat) + 1))), (0, .ref (mo ω)), (1, .int (iI (to))), (2, .int (iI (a))), (3, .int (iI (al))), (4, .int (iI (hi)))]) hx hb dX1_part_98 hl rfl (iI_add _ _) (by decide) rfl (fun ls hl => ?_)
            refine lv_goto (tgt := 47) hx hb dX1_part_101 (by decide) ?_
            exact ih47 ls _ _ ⟨lv_sub hl [0, 1, 2, 3, 4, 5] rfl, (by rw [← mixI_s]; exact hG), hS⟩
          · skip
            refine lv_aload_n hx hb dX1_part_65 rfl (lv_at hl 1 rfl) ?_
            refine lv_aload_n hx hb dX1_part_66 rfl (lv_at hl 1 rfl) ?_
            refine lv_iload_n hx hb dX1_part_67 rfl (lv_at hl 3 rfl) ?_
            refine lv_iload hx hb dX1_part_68 (lv_at hl 0 rfl) ?_
            refine vp_callSi (va_Run.run (va_runV (As := [.int (iI (a)), .int (iI ((j : Nat)))]) (rest := [.ref (mo ω), .int (iI ((j : Nat))), .ref (md ω)]) ⟨hx, hb, hml, hown, hts⟩ (m_at l ω (0) (k) (q) (M) (mixI f (fun i => if hi = 0 then sRest q (M a i) al % q else sPart q (M a i) al) (j)) (a) (j) (by omega) (by omega)) (cwV 2 hts (gU (hd := [.methodLink "NoiseRingModel" 45 yX1_at, .instanceMethod yX1_at, .selects "NoiseRingModel" yX1_at yX1_at, .initialized "NoiseRingModel"]) (List.forall_mem_cons.mpr ⟨u356, List.forall_mem_cons.mpr ⟨u357, List.forall_mem_cons.mpr ⟨u16, List.forall_mem_cons.mpr ⟨u30, fun _ h => by cases h⟩⟩⟩⟩) u358) rfl rfl rfl (by decide +kernel) ⟨Nat.le_of_ble_eq_true rfl, Nat.le_of_ble_eq_true rfl⟩) (gm_V hG) rfl rfl hl.1 rfl (lv_room (Nat.le_of_ble_eq_true rfl)) dX1_part_70 ⟨Nat.le_of_ble_eq_true rfl, Nat.le_of_ble_eq_true rfl⟩)) (fun r70 hr70 => ?_)
            subst hr70
            refine lv_iload_n hx hb dX1_part_73 rfl (lv_at hl 4 rfl) ?_
            refine vp_callSi (va_Run.run (va_runV (As := [.int (iI (M (a) (j))), .int (iI (al))]) (rest := [.int (iI ((j : Nat))), .ref (md ω)]) ⟨hx, hb, hml, hown, hts⟩ (m_partOf l ω (0) (k) (q) (M) (mixI f (fun i => if hi = 0 then sRest q (M a i) al % q else sPart q (M a i) al) (j)) (M (a) (j)) (al) hq1 hq2 (by omega) (by omega) (by omega) (by omega)) (cwV 2 hts (gU (hd := [.methodLink "NoiseRingModel" 67 yX1_partOf, .instanceMethod yX1_partOf, .selects "NoiseRingModel" yX1_partOf yX1_partOf, .initialized "NoiseRingModel"]) (List.forall_mem_cons.mpr ⟨u396, List.forall_mem_cons.mpr ⟨u397, List.forall_mem_cons.mpr ⟨u22, List.forall_mem_cons.mpr ⟨u30, fun _ h => by cases h⟩⟩⟩⟩) u398) rfl rfl rfl (by decide +kernel) ⟨Nat.le_of_ble_eq_true rfl, Nat.le_of_ble_eq_true rfl⟩) (gm_V hG) rfl rfl hl.1 rfl (lv_room (Nat.le_of_ble_eq_true rfl)) dX1_part_74 ⟨Nat.le_of_ble_eq_true rfl, Nat.le_of_ble_eq_true rfl⟩)) (fun r74 hr74 => ?_)
            subst hr74
            refine lv_goto (tgt := 97) hx hb dX1_part_77 (by decide) ?_
            refine wx_i (congrArg iI (show (sPart q (M (a) (j)) (al)) = (fun i => if hi = 0 then sRest q (M a i) al % q else sPart q (M a i) al) j from ?_)) ?_
            · show _ = if hi = 0 then sRest q (M a j) al % q else sPart q (M a j) al
              first | rw [if_pos (by omega)] | rw [if_neg (by omega)]
            refine gm_mst (i := j) hx hb hG hS (by omega) dX1_part_97 (fun H1 locs1 hG hS => ?_)
            refine lv_iinc (k := 0) (v := iI ((j : Nat) + 1)) (lv' := [(5, .int (iI ((j : Nat) + 1))), (0, .ref (mo ω)), (1, .int (iI (to))), (2, .int (iI (a))), (3, .int (iI (al))), (4, .int (iI (hi)))]) hx hb dX1_part_98 hl rfl (iI_add _ _) (by decide) rfl (fun ls hl => ?_)
            refine lv_goto (tgt := 47) hx hb dX1_part_101 (by decide) ?_
            exact ih47 ls _ _ ⟨lv_sub hl [0, 1, 2, 3, 4, 5] rfl, (by rw [← mixI_s]; exact hG), hS⟩
      · skip
        refine ix_iconst hx hb dX1_part_27 ?_
        refine lv_goto (tgt := 32) hx hb dX1_part_28 (by decide) ?_
        refine gm_put0 hx hb hts hown hG hS u324 dX1_part_32 (fun H1 locs1 hG hS => ?_)
        refine lv_aload_n hx hb dX1_part_35 rfl (lv_at hl 0 rfl) ?_
        refine gm_get hx hb hts hown hG 0 (by decide) rfl u324 dX1_part_36 ?_
        refine ix_if_le (tgt := 44) hx hb (by omega) (by omega) dX1_part_39 (by decide) (fun h39 => absurd h39 (by omega)) (fun h39 => ?_)
        refine ix_iconst hx hb dX1_part_42 ?_
        exact W.iret hx hb hrt (fun t ht hW => ⟨⟨_, (2, f), rfl, Or.inr (Or.inr ⟨⟨by omega, by omega⟩, rfl⟩), ⟨fun g9 => absurd g9 (show ¬ (2 : Int) = 0 by decide), fun _ => by have h9 := hG.2; rw [← ht] at h9; exact h9⟩⟩, hS.F ht⟩) hS.2.2 dX1_part_43
    · skip
      refine ix_iconst hx hb dX1_part_15 ?_
      refine lv_goto (tgt := 32) hx hb dX1_part_16 (by decide) ?_
      refine gm_put0 hx hb hts hown hG hS u324 dX1_part_32 (fun H1 locs1 hG hS => ?_)
      refine lv_aload_n hx hb dX1_part_35 rfl (lv_at hl 0 rfl) ?_
      refine gm_get hx hb hts hown hG 0 (by decide) rfl u324 dX1_part_36 ?_
      refine ix_if_le (tgt := 44) hx hb (by omega) (by omega) dX1_part_39 (by decide) (fun h39 => absurd h39 (by omega)) (fun h39 => ?_)
      refine ix_iconst hx hb dX1_part_42 ?_
      exact W.iret hx hb hrt (fun t ht hW => ⟨⟨_, (1, f), rfl, Or.inr (Or.inl ⟨by omega, rfl⟩), ⟨fun g9 => absurd g9 (show ¬ (1 : Int) = 0 by decide), fun _ => by have h9 := hG.2; rw [← ht] at h9; exact h9⟩⟩, hS.F ht⟩) hS.2.2 dX1_part_43
set_option maxHeartbeats 4000000 in
set_option maxRecDepth 100000 in
theorem m_hint (l : Launch) (ω : WM) (th k q : Int) (M : Nat → Nat → Int) (f : Nat → Int) (to a b al : Int) (to1 : -2147483648 ≤ to) (to2 : to < 2147483648) (a1 : -2147483648 ≤ a) (a2 : a < 2147483648) (b1 : -2147483648 ≤ b) (b2 : b < 2147483648) (al1 : -2147483648 ≤ al) (al2 : al < 2147483648) (hq1 : 3329 ≤ q) (hq2 : q ≤ 8380417) (hM : ∀ r i, r < 12 → i < 16 → 0 ≤ M r i ∧ M r i < q) : Met l yX1_hint wsX1_hint ({ frames := 2, cells := 0, slots := 0, locals := 47 }) (va_Pc [.ref (mo ω), .int (iI (to)), .int (iI (a)), .int (iI (b)), .int (iI (al))] (fun U => GM ω th k q M f U U.heap)) (va_Qi (fun r_ (w_ : Int × (Nat → Int)) => (((0 ≤ to ∧ to < 12) ∧ (0 ≤ a ∧ a < 12) ∧ (0 ≤ b ∧ b < 12)) ∧ (sAli q al = 1)) ∧ w_.1 = 0 ∧ r_ = iI (sCnt (fun i => sHint q al (M a.toNat i) (M b.toNat i)) 16) ∨ (¬ ((0 ≤ to ∧ to < 12) ∧ (0 ≤ a ∧ a < 12) ∧ (0 ≤ b ∧ b < 12))) ∧ w_.1 = 1 ∨ (((0 ≤ to ∧ to < 12) ∧ (0 ≤ a ∧ a < 12) ∧ (0 ≤ b ∧ b < 12)) ∧ ¬ (sAli q al = 1)) ∧ w_.1 = 2) (fun (w_ : Int × (Nat → Int)) t => BM ω k q M k q (mixR M to.toNat (fun i => sHint q al (M a.toNat i) (M b.toNat i)) 16) w_ t) (Am ω)) 0 0 (Am ω) := by
  refine Met.ofW (cc := cX1_hint) (maxL := 6) (ret := (some .int)) (by decide +kernel) rfl ?_
  intro p e s m args below meth c s₁ B hml hv
  obtain ⟨rfl, hG⟩ := hv
  have hx := B.exec
  have hb := B.bytes
  have hrt := B.returns
  have hts : ∀ w ∈ wsU, w.before _ s = true := fun w h => atoms_spec (ws := wsX1_hint) B.pre w (List.mem_cons_of_mem _ h)
  have hown : s.vm.findClass "NoiseRingModel" = some m.cls := findClass_of_methodNamed B.named
  have hlocks := B.notSynchronized
  have hS : va_S (Am ω) s.heap s.heap [] := va_S.rf
  have hl := lv_entry ([.ref (mo ω), .int (iI (to)), .int (iI (a)), .int (iI (b)), .int (iI (al))]) (n := 6) (Nat.le_of_ble_eq_true rfl)
  rw [lg_entry_eq]
  generalize (lg_sl ([.ref (mo ω), .int (iI (to)), .int (iI (a)), .int (iI (b)), .int (iI (al))]) ++ List.replicate (6 - (lg_sl ([.ref (mo ω), .int (iI (to)), .int (iI (a)), .int (iI (b)), .int (iI (al))])).length) Slot.unset).toArray = ls at hl ⊢
  have hl : lv_has ls 6 [(0, .ref (mo ω)), (1, .int (iI (to))), (2, .int (iI (a))), (3, .int (iI (b))), (4, .int (iI (al)))] := hl
  have hai : sAli q al = 0 ∨ sAli q al = 1 := by unfold sAli; split <;> omega
  refine lv_aload_n hx hb dX1_hint_0 rfl (lv_at hl 0 rfl) ?_
  refine lv_iload_n hx hb dX1_hint_1 rfl (lv_at hl 1 rfl) ?_
  refine vp_callSi (va_Run.run (va_runS (As := [.int (iI (to))]) (rest := [.ref (mo ω)]) ⟨hx, hb, hml, hown, hts⟩ (m_none l (to) (by omega) (by omega)) (va_cwS 1 hts (gU (hd := [.methodLink "NoiseRingModel" 41 yX1_none, .static yX1_none, .initialized "NoiseRingModel"]) (List.forall_mem_cons.mpr ⟨u353, List.forall_mem_cons.mpr ⟨u354, List.forall_mem_cons.mpr ⟨u30, fun _ h => by cases h⟩⟩⟩) u355) rfl rfl rfl (by decide +kernel) ⟨Nat.le_of_ble_eq_true rfl, Nat.le_of_ble_eq_true rfl⟩) gn_S rfl rfl hl.1 rfl (lv_room (Nat.le_of_ble_eq_true rfl)) dX1_hint_2 ⟨Nat.le_of_ble_eq_true rfl, Nat.le_of_ble_eq_true rfl⟩)) (fun r2 hr2 => ?_)
  subst hr2
  refine ix_if_ne (tgt := 22) hx hb (by omega) (by omega) dX1_hint_5 (by decide) (fun h5 => ?_) (fun h5 => ?_)
  · skip
    refine ix_iconst hx hb dX1_hint_22 ?_
    refine lv_goto (tgt := 40) hx hb dX1_hint_23 (by decide) ?_
    refine gm_put0 hx hb hts hown hG hS u324 dX1_hint_40 (fun H1 locs1 hG hS => ?_)
    refine lv_aload_n hx hb dX1_hint_43 rfl (lv_at hl 0 rfl) ?_
    refine gm_get hx hb hts hown hG 0 (by decide) rfl u324 dX1_hint_44 ?_
    refine ix_if_le (tgt := 52) hx hb (by omega) (by omega) dX1_hint_47 (by decide) (fun h47 => absurd h47 (by omega)) (fun h47 => ?_)
    refine ix_iconst hx hb dX1_hint_50 ?_
    exact W.iret hx hb hrt (fun t ht hW => ⟨⟨_, (1, f), rfl, Or.inr (Or.inl ⟨by omega, rfl⟩), ⟨fun g9 => absurd g9 (show ¬ (1 : Int) = 0 by decide), fun _ => by have h9 := hG.2; rw [← ht] at h9; exact h9⟩⟩, hS.F ht⟩) hS.2.2 dX1_hint_51
  · skip
    refine lv_iload_n hx hb dX1_hint_8 rfl (lv_at hl 2 rfl) ?_
    refine vp_callSi (va_Run.run (va_runS (As := [.int (iI (a))]) (rest := [.ref (mo ω)]) ⟨hx, hb, hml, hown, hts⟩ (m_none l (a) (by omega) (by omega)) (va_cwS 1 hts (gU (hd := [.methodLink "NoiseRingModel" 41 yX1_none, .static yX1_none, .initialized "NoiseRingModel"]) (List.forall_mem_cons.mpr ⟨u353, List.forall_mem_cons.mpr ⟨u354, List.forall_mem_cons.mpr ⟨u30, fun _ h => by cases h⟩⟩⟩) u355) rfl rfl rfl (by decide +kernel) ⟨Nat.le_of_ble_eq_true rfl, Nat.le_of_ble_eq_true rfl⟩) gn_S rfl rfl hl.1 rfl (lv_room (Nat.le_of_ble_eq_true rfl)) dX1_hint_9 ⟨Nat.le_of_ble_eq_true rfl, Nat.le_of_ble_eq_true rfl⟩)) (fun r9 hr9 => ?_)
    subst hr9
    refine ix_if_ne (tgt := 22) hx hb (by omega) (by omega) dX1_hint_12 (by decide) (fun h12 => ?_) (fun h12 => ?_)
    · skip
      refine ix_iconst hx hb dX1_hint_22 ?_
      refine lv_goto (tgt := 40) hx hb dX1_hint_23 (by decide) ?_
      refine gm_put0 hx hb hts hown hG hS u324 dX1_hint_40 (fun H1 locs1 hG hS => ?_)
      refine lv_aload_n hx hb dX1_hint_43 rfl (lv_at hl 0 rfl) ?_
      refine gm_get hx hb hts hown hG 0 (by decide) rfl u324 dX1_hint_44 ?_
      refine ix_if_le (tgt := 52) hx hb (by omega) (by omega) dX1_hint_47 (by decide) (fun h47 => absurd h47 (by omega)) (fun h47 => ?_)
      refine ix_iconst hx hb dX1_hint_50 ?_
      exact W.iret hx hb hrt (fun t ht hW => ⟨⟨_, (1, f), rfl, Or.inr (Or.inl ⟨by omega, rfl⟩), ⟨fun g9 => absurd g9 (show ¬ (1 : Int) = 0 by decide), fun _ => by have h9 := hG.2; rw [← ht] at h9; exact h9⟩⟩, hS.F ht⟩) hS.2.2 dX1_hint_51
    · skip
      refine lv_iload_n hx hb dX1_hint_15 rfl (lv_at hl 3 rfl) ?_
      refine vp_callSi (va_Run.run (va_runS (As := [.int (iI (b))]) (rest := [.ref (mo ω)]) ⟨hx, hb, hml, hown, hts⟩ (m_none l (b) (by omega) (by omega)) (va_cwS 1 hts (gU (hd := [.methodLink "NoiseRingModel" 41 yX1_none, .static yX1_none, .initialized "NoiseRingModel"]) (List.forall_mem_cons.mpr ⟨u353, List.forall_mem_cons.mpr ⟨u354, List.forall_mem_cons.mpr ⟨u30, fun _ h => by cases h⟩⟩⟩) u355) rfl rfl rfl (by decide +kernel) ⟨Nat.le_of_ble_eq_true rfl, Nat.le_of_ble_eq_true rfl⟩) gn_S rfl rfl hl.1 rfl (lv_room (Nat.le_of_ble_eq_true rfl)) dX1_hint_16 ⟨Nat.le_of_ble_eq_true rfl, Nat.le_of_ble_eq_true rfl⟩)) (fun r16 hr16 => ?_)
      subst hr16
      refine ix_if_eq (tgt := 26) hx hb (by omega) (by omega) dX1_hint_19 (by decide) (fun h19 => ?_) (fun h19 => ?_)
      · skip
        refine lv_aload_n hx hb dX1_hint_26 rfl (lv_at hl 0 rfl) ?_
        refine lv_iload hx hb dX1_hint_27 (lv_at hl 4 rfl) ?_
        refine vp_callSi (va_Run.run (va_runV (As := [.int (iI (al))]) (rest := [.ref (mo ω)]) ⟨hx, hb, hml, hown, hts⟩ (m_isAlpha l ω (th) (k) (q) (M) (f) (al) hq1 hq2 (by omega) (by omega)) (cwV 1 hts (gU (hd := [.methodLink "NoiseRingModel" 64 yX1_isAlpha, .instanceMethod yX1_isAlpha, .selects "NoiseRingModel" yX1_isAlpha yX1_isAlpha, .initialized "NoiseRingModel"]) (List.forall_mem_cons.mpr ⟨u393, List.forall_mem_cons.mpr ⟨u394, List.forall_mem_cons.mpr ⟨u21, List.forall_mem_cons.mpr ⟨u30, fun _ h => by cases h⟩⟩⟩⟩) u395) rfl rfl rfl (by decide +kernel) ⟨Nat.le_of_ble_eq_true rfl, Nat.le_of_ble_eq_true rfl⟩) (gm_V hG) rfl rfl hl.1 rfl (lv_room (Nat.le_of_ble_eq_true rfl)) dX1_hint_29 ⟨Nat.le_of_ble_eq_true rfl, Nat.le_of_ble_eq_true rfl⟩)) (fun r29 hr29 => ?_)
        subst hr29
        refine ix_if_ne (tgt := 39) hx hb (by omega) (by omega) dX1_hint_32 (by decide) (fun h32 => ?_) (fun h32 => ?_)
        · skip
          refine ix_iconst hx hb dX1_hint_39 ?_
          refine gm_put0 hx hb hts hown hG hS u324 dX1_hint_40 (fun H1 locs1 hG hS => ?_)
          refine lv_aload_n hx hb dX1_hint_43 rfl (lv_at hl 0 rfl) ?_
          refine gm_get hx hb hts hown hG 0 (by decide) rfl u324 dX1_hint_44 ?_
          refine ix_if_le (tgt := 52) hx hb (by omega) (by omega) dX1_hint_47 (by decide) (fun h47 => ?_) (fun h47 => absurd h47 (by omega))
          obtain ⟨to, rfl⟩ := Int.eq_ofNat_of_zero_le (show 0 ≤ to by omega)
          obtain ⟨a, rfl⟩ := Int.eq_ofNat_of_zero_le (show 0 ≤ a by omega)
          obtain ⟨b, rfl⟩ := Int.eq_ofNat_of_zero_le (show 0 ≤ b by omega)
          have hal := sAl_of (q := q) (a := al) (by omega)
          have hal2 := sAl_lt (q := q) (by omega) hal
          have hg : ∀ i, i < 16 → 0 ≤ (fun i => sHint q al (M a i) (M b i)) i ∧ (fun i => sHint q al (M a i) (M b i)) i < q := fun i hi9 => sHint_lt (by omega)
          refine ix_iconst hx hb dX1_hint_52 ?_
          refine lv_istore (lv' := [(5, .int (iI (0))), (0, .ref (mo ω)), (1, .int (iI (to))), (2, .int (iI (a))), (3, .int (iI (b))), (4, .int (iI (al)))]) hx hb dX1_hint_53 hl (by decide) rfl (fun ls hl => ?_)
          refine ix_loopH (I := fun j ls H locs => lv_has ls 6 [(5, .int (iI ((j : Nat)))), (0, .ref (mo ω)), (1, .int (iI (to))), (2, .int (iI (a))), (3, .int (iI (b))), (4, .int (iI (al)))] ∧ GM ω (0) (k) (q) (M) (mixI f (fun i => sHint q al (M a i) (M b i)) (j)) s H ∧ va_S (Am ω) s.heap H locs) 16 0 (by omega) ⟨lv_sub hl [0, 1, 2, 3, 4, 5] rfl, (by rw [mixI_0]; exact hG), hS⟩ (fun ls H locs hI => ?_) (fun j ls H locs hj hI ih55 => ?_)
          · obtain ⟨hl, hG, hS⟩ := hI
            have hl : lv_has ls 6 [(5, .int (iI ((16 : Nat)))), (0, .ref (mo ω)), (1, .int (iI (to))), (2, .int (iI (a))), (3, .int (iI (b))), (4, .int (iI (al)))] := hl
            have hf2 : ∀ i, i < 16 → 0 ≤ mixI f (fun i => sHint q al (M a i) (M b i)) (16) i ∧ mixI f (fun i => sHint q al (M a i) (M b i)) (16) i < q := fun i hi9 => by rw [mixI_at hi9]; exact hg i hi9
            refine lv_iload hx hb dX1_hint_55 (lv_at hl 0 rfl) ?_
            refine ix_bipush hx hb (by decide) dX1_hint_57 ?_
            refine ix_icmp_ge (tgt := 123) hx hb (by omega) (by omega) (by omega) (by omega) dX1_hint_59 (by decide) (fun h59 => ?_) (fun h59 => absurd h59 (by omega))
            refine lv_aload_n hx hb dX1_hint_123 rfl (lv_at hl 1 rfl) ?_
            refine lv_iload_n hx hb dX1_hint_124 rfl (lv_at hl 2 rfl) ?_
            refine va_calli (va_runV (As := [.int (iI (to))]) (rest := []) ⟨hx, hb, hml, hown, hts⟩ (m_put l ω (0) (k) (q) (M) (mixI f (fun i => sHint q al (M a i) (M b i)) (16)) (to) hq1 hq2 (by omega) hf2) (cwV 1 hts (gU (hd := [.methodLink "NoiseRingModel" 52 yX1_put, .instanceMethod yX1_put, .selects "NoiseRingModel" yX1_put yX1_put, .initialized "NoiseRingModel"]) (List.forall_mem_cons.mpr ⟨u371, List.forall_mem_cons.mpr ⟨u372, List.forall_mem_cons.mpr ⟨u18, List.forall_mem_cons.mpr ⟨u30, fun _ h => by cases h⟩⟩⟩⟩) u373) rfl rfl rfl (by decide +kernel) ⟨Nat.le_of_ble_eq_true rfl, Nat.le_of_ble_eq_true rfl⟩) (gm_V hG) rfl rfl hl.1 rfl (lv_room (Nat.le_of_ble_eq_true rfl)) dX1_hint_125 ⟨Nat.le_of_ble_eq_true rfl, Nat.le_of_ble_eq_true rfl⟩) hS (fun q9 _ h => h) (fun q9 h => h) (fun r125 u9 t H1 locs1 ht hvm hr125 hB hz hk hS1 => ?_)
            subst hr125
            clear hS
            have hS := hS1
            rw [ht] at hB
            have hG : GM ω (0) (k) (q) (mixR (M) (to) (mixI f (fun i => sHint q al (M a i) (M b i)) (16)) 16) (mixI f (fun i => sHint q al (M a i) (M b i)) (16)) s H1 := ⟨hG.1, hB⟩
            rw [mixR_mix] at hG
            exact W.iret hx hb hrt (fun t ht hW => ⟨⟨_, (0, mixI f (fun i => sHint q al (M a i) (M b i)) (16)), rfl, Or.inl ⟨by omega, rfl, congrArg iI (sCnt_eq (fun i hi9 => mixI_at hi9))⟩, ⟨fun _ => by have h9 := hG.2; rw [← ht] at h9; exact h9, fun g9 => absurd rfl g9⟩⟩, hS.F ht⟩) hS.2.2 dX1_hint_128
          · obtain ⟨hl, hG, hS⟩ := hI
            have hl : lv_has ls 6 [(5, .int (iI ((j : Nat)))), (0, .ref (mo ω)), (1, .int (iI (to))), (2, .int (iI (a))), (3, .int (iI (b))), (4, .int (iI (al)))] := hl
            have hm := hM a j (by omega) hj
            have hmb := hM b j (by omega) hj
            have ho1 := Int.emod_nonneg (M a j + M b j) (show q ≠ 0 by omega)
            have ho2 := Int.emod_lt_of_pos (M a j + M b j) (show 0 < q by omega)
            have hp1 := sPart_lt (q := q) (x := M a j) (a := al) hm.1 hm.2 hal2.1 hal2.2
            have hp2 := sPart_lt (q := q) (x := (M a j + M b j) % q) (a := al) ho1 ho2 hal2.1 hal2.2
            refine lv_iload hx hb dX1_hint_55 (lv_at hl 0 rfl) ?_
            refine ix_bipush hx hb (by decide) dX1_hint_57 ?_
            refine ix_icmp_ge (tgt := 123) hx hb (by omega) (by omega) (by omega) (by omega) dX1_hint_59 (by decide) (fun h59 => absurd h59 (by omega)) (fun h59 => ?_)
            refine lv_aload_n hx hb dX1_hint_62 rfl (lv_at hl 1 rfl) ?_
            refine gm_get hx hb hts hown hG 4 (by decide) rfl u328 dX1_hint_63 ?_
            refine lv_iload hx hb dX1_hint_66 (lv_at hl 0 rfl) ?_
            refine lv_aload_n hx hb dX1_hint_68 rfl (lv_at hl 1 rfl) ?_
            refine lv_aload_n hx hb dX1_hint_69 rfl (lv_at hl 1 rfl) ?_
            refine lv_iload_n hx hb dX1_hint_70 rfl (lv_at hl 3 rfl) ?_
            refine lv_iload hx hb dX1_hint_71 (lv_at hl 0 rfl) ?_
            refine vp_callSi (va_Run.run (va_runV (As := [.int (iI (a)), .int (iI ((j : Nat)))]) (rest := [.ref (mo ω), .int (iI ((j : Nat))), .ref (md ω)]) ⟨hx, hb, hml, hown, hts⟩ (m_at l ω (0) (k) (q) (M) (mixI f (fun i => sHint q al (M a i) (M b i)) (j)) (a) (j) (by omega) (by omega)) (cwV 2 hts (gU (hd := [.methodLink "NoiseRingModel" 45 yX1_at, .instanceMethod yX1_at, .selects "NoiseRingModel" yX1_at yX1_at, .initialized "NoiseRingModel"]) (List.forall_mem_cons.mpr ⟨u356, List.forall_mem_cons.mpr ⟨u357, List.forall_mem_cons.mpr ⟨u16, List.forall_mem_cons.mpr ⟨u30, fun _ h => by cases h⟩⟩⟩⟩) u358) rfl rfl rfl (by decide +kernel) ⟨Nat.le_of_ble_eq_true rfl, Nat.le_of_ble_eq_true rfl⟩) (gm_V hG) rfl rfl hl.1 rfl (lv_room (Nat.le_of_ble_eq_true rfl)) dX1_hint_73 ⟨Nat.le_of_ble_eq_true rfl, Nat.le_of_ble_eq_true rfl⟩)) (fun r73 hr73 => ?_)
            subst hr73
            refine lv_iload hx hb dX1_hint_76 (lv_at hl 5 rfl) ?_
            refine vp_callSi (va_Run.run (va_runV (As := [.int (iI (M (a) (j))), .int (iI (al))]) (rest := [.int (iI ((j : Nat))), .ref (md ω)]) ⟨hx, hb, hml, hown, hts⟩ (m_partOf l ω (0) (k) (q) (M) (mixI f (fun i => sHint q al (M a i) (M b i)) (j)) (M (a) (j)) (al) hq1 hq2 (by omega) (by omega) (by omega) (by omega)) (cwV 2 hts (gU (hd := [.methodLink "NoiseRingModel" 67 yX1_partOf, .instanceMethod yX1_partOf, .selects "NoiseRingModel" yX1_partOf yX1_partOf, .initialized "NoiseRingModel"]) (List.forall_mem_cons.mpr ⟨u396, List.forall_mem_cons.mpr ⟨u397, List.forall_mem_cons.mpr ⟨u22, List.forall_mem_cons.mpr ⟨u30, fun _ h => by cases h⟩⟩⟩⟩) u398) rfl rfl rfl (by decide +kernel) ⟨Nat.le_of_ble_eq_true rfl, Nat.le_of_ble_eq_true rfl⟩) (gm_V hG) rfl rfl hl.1 rfl (lv_room (Nat.le_of_ble_eq_true rfl)) dX1_hint_78 ⟨Nat.le_of_ble_eq_true rfl, Nat.le_of_ble_eq_true rfl⟩)) (fun r78 hr78 => ?_)
            subst hr78
            refine lv_aload_n hx hb dX1_hint_81 rfl (lv_at hl 1 rfl) ?_
            refine lv_aload_n hx hb dX1_hint_82 rfl (lv_at hl 1 rfl) ?_
            refine lv_aload_n hx hb dX1_hint_83 rfl (lv_at hl 1 rfl) ?_
            refine lv_iload_n hx hb dX1_hint_84 rfl (lv_at hl 3 rfl) ?_
            refine lv_iload hx hb dX1_hint_85 (lv_at hl 0 rfl) ?_
            refine vp_callSi (va_Run.run (va_runV (As := [.int (iI (a)), .int (iI ((j : Nat)))]) (rest := [.ref (mo ω), .ref (mo ω), .int (iI ((sPart q (M (a) (j)) (al)))), .int (iI ((j : Nat))), .ref (md ω)]) ⟨hx, hb, hml, hown, hts⟩ (m_at l ω (0) (k) (q) (M) (mixI f (fun i => sHint q al (M a i) (M b i)) (j)) (a) (j) (by omega) (by omega)) (cwV 2 hts (gU (hd := [.methodLink "NoiseRingModel" 45 yX1_at, .instanceMethod yX1_at, .selects "NoiseRingModel" yX1_at yX1_at, .initialized "NoiseRingModel"]) (List.forall_mem_cons.mpr ⟨u356, List.forall_mem_cons.mpr ⟨u357, List.forall_mem_cons.mpr ⟨u16, List.forall_mem_cons.mpr ⟨u30, fun _ h => by cases h⟩⟩⟩⟩) u358) rfl rfl rfl (by decide +kernel) ⟨Nat.le_of_ble_eq_true rfl, Nat.le_of_ble_eq_true rfl⟩) (gm_V hG) rfl rfl hl.1 rfl (lv_room (Nat.le_of_ble_eq_true rfl)) dX1_hint_87 ⟨Nat.le_of_ble_eq_true rfl, Nat.le_of_ble_eq_true rfl⟩)) (fun r87 hr87 => ?_)
            subst hr87
            refine ix_i2l hx hb (by omega) (by omega) dX1_hint_90 ?_
            refine lv_aload_n hx hb dX1_hint_91 rfl (lv_at hl 1 rfl) ?_
            refine lv_iload_n hx hb dX1_hint_92 rfl (lv_at hl 4 rfl) ?_
            refine lv_iload hx hb dX1_hint_93 (lv_at hl 0 rfl) ?_
            refine vp_callSi (va_Run.run (va_runV (As := [.int (iI (b)), .int (iI ((j : Nat)))]) (rest := [.long (lI (M (a) (j))), .ref (mo ω), .ref (mo ω), .int (iI ((sPart q (M (a) (j)) (al)))), .int (iI ((j : Nat))), .ref (md ω)]) ⟨hx, hb, hml, hown, hts⟩ (m_at l ω (0) (k) (q) (M) (mixI f (fun i => sHint q al (M a i) (M b i)) (j)) (b) (j) (by omega) (by omega)) (cwV 2 hts (gU (hd := [.methodLink "NoiseRingModel" 45 yX1_at, .instanceMethod yX1_at, .selects "NoiseRingModel" yX1_at yX1_at, .initialized "NoiseRingModel"]) (List.forall_mem_cons.mpr ⟨u356, List.forall_mem_cons.mpr ⟨u357, List.forall_mem_cons.mpr ⟨u16, List.forall_mem_cons.mpr ⟨u30, fun _ h => by cases h⟩⟩⟩⟩) u358) rfl rfl rfl (by decide +kernel) ⟨Nat.le_of_ble_eq_true rfl, Nat.le_of_ble_eq_true rfl⟩) (gm_V hG) rfl rfl hl.1 rfl (lv_room (Nat.le_of_ble_eq_true rfl)) dX1_hint_95 ⟨Nat.le_of_ble_eq_true rfl, Nat.le_of_ble_eq_true rfl⟩)) (fun r95 hr95 => ?_)
            subst hr95
            refine ix_i2l hx hb (by omega) (by omega) dX1_hint_98 ?_
            refine ix_ladd hx hb dX1_hint_99 ?_
            refine vp_callSi (va_Run.run (va_runV (As := [.long (lI ((M (a) (j) + M (b) (j))))]) (rest := [.ref (mo ω), .int (iI ((sPart q (M (a) (j)) (al)))), .int (iI ((j : Nat))), .ref (md ω)]) ⟨hx, hb, hml, hown, hts⟩ (m_of l ω (0) (k) (q) (M) (mixI f (fun i => sHint q al (M a i) (M b i)) (j)) ((M (a) (j) + M (b) (j))) hq1 hq2 (by omega) (by omega)) (cwV 1 hts (gU (hd := [.methodLink "NoiseRingModel" 48 yX1_of, .instanceMethod yX1_of, .selects "NoiseRingModel" yX1_of yX1_of, .initialized "NoiseRingModel"]) (List.forall_mem_cons.mpr ⟨u359, List.forall_mem_cons.mpr ⟨u360, List.forall_mem_cons.mpr ⟨u17, List.forall_mem_cons.mpr ⟨u30, fun _ h => by cases h⟩⟩⟩⟩) u361) rfl rfl rfl (by decide +kernel) ⟨Nat.le_of_ble_eq_true rfl, Nat.le_of_ble_eq_true rfl⟩) (gm_V hG) rfl rfl hl.1 rfl (lv_room (Nat.le_of_ble_eq_true rfl)) dX1_hint_100 ⟨Nat.le_of_ble_eq_true rfl, Nat.le_of_ble_eq_true rfl⟩)) (fun r100 hr100 => ?_)
            subst hr100
            refine lv_iload hx hb dX1_hint_103 (lv_at hl 5 rfl) ?_
            refine vp_callSi (va_Run.run (va_runV (As := [.int (iI (((M (a) (j) + M (b) (j))) % q)), .int (iI (al))]) (rest := [.int (iI ((sPart q (M (a) (j)) (al)))), .int (iI ((j : Nat))), .ref (md ω)]) ⟨hx, hb, hml, hown, hts⟩ (m_partOf l ω (0) (k) (q) (M) (mixI f (fun i => sHint q al (M a i) (M b i)) (j)) (((M (a) (j) + M (b) (j))) % q) (al) hq1 hq2 (by omega) (by omega) (by omega) (by omega)) (cwV 2 hts (gU (hd := [.methodLink "NoiseRingModel" 67 yX1_partOf, .instanceMethod yX1_partOf, .selects "NoiseRingModel" yX1_partOf yX1_partOf, .initialized "NoiseRingModel"]) (List.forall_mem_cons.mpr ⟨u396, List.forall_mem_cons.mpr ⟨u397, List.forall_mem_cons.mpr ⟨u22, List.forall_mem_cons.mpr ⟨u30, fun _ h => by cases h⟩⟩⟩⟩) u398) rfl rfl rfl (by decide +kernel) ⟨Nat.le_of_ble_eq_true rfl, Nat.le_of_ble_eq_true rfl⟩) (gm_V hG) rfl rfl hl.1 rfl (lv_room (Nat.le_of_ble_eq_true rfl)) dX1_hint_105 ⟨Nat.le_of_ble_eq_true rfl, Nat.le_of_ble_eq_true rfl⟩)) (fun r105 hr105 => ?_)
            subst hr105
            refine ix_icmp_eq (tgt := 115) hx hb (by omega) (by omega) (by omega) (by omega) dX1_hint_108 (by decide) (fun h108 => ?_) (fun h108 => ?_)
            · skip
              refine ix_iconst hx hb dX1_hint_115 ?_
              refine wx_i (congrArg iI (show 0 = (fun i => sHint q al (M a i) (M b i)) j from ?_)) ?_
              · show _ = sHint q al (M a j) (M b j)
                unfold sHint
                first | rw [if_pos h108] | rw [if_neg h108]
              refine gm_mst (i := j) hx hb hG hS (by omega) dX1_hint_116 (fun H1 locs1 hG hS => ?_)
              refine lv_iinc (k := 0) (v := iI ((j : Nat) + 1)) (lv' := [(5, .int (iI ((j : Nat) + 1))), (0, .ref (mo ω)), (1, .int (iI (to))), (2, .int (iI (a))), (3, .int (iI (b))), (4, .int (iI (al)))]) hx hb dX1_hint_117 hl rfl (iI_add _ _) (by decide) rfl (fun ls hl => ?_)
              refine lv_goto (tgt := 55) hx hb dX1_hint_120 (by decide) ?_
              exact ih55 ls _ _ ⟨lv_sub hl [0, 1, 2, 3, 4, 5] rfl, (by rw [← mixI_s]; exact hG), hS⟩
            · skip
              refine ix_iconst hx hb dX1_hint_111 ?_
              refine lv_goto (tgt := 116) hx hb dX1_hint_112 (by decide) ?_
              refine wx_i (congrArg iI (show 1 = (fun i => sHint q al (M a i) (M b i)) j from ?_)) ?_
              · show _ = sHint q al (M a j) (M b j)
                unfold sHint
                first | rw [if_pos h108] | rw [if_neg h108]
              refine gm_mst (i := j) hx hb hG hS (by omega) dX1_hint_116 (fun H1 locs1 hG hS => ?_)
              refine lv_iinc (k := 0) (v := iI ((j : Nat) + 1)) (lv' := [(5, .int (iI ((j : Nat) + 1))), (0, .ref (mo ω)), (1, .int (iI (to))), (2, .int (iI (a))), (3, .int (iI (b))), (4, .int (iI (al)))]) hx hb dX1_hint_117 hl rfl (iI_add _ _) (by decide) rfl (fun ls hl => ?_)
              refine lv_goto (tgt := 55) hx hb dX1_hint_120 (by decide) ?_
              exact ih55 ls _ _ ⟨lv_sub hl [0, 1, 2, 3, 4, 5] rfl, (by rw [← mixI_s]; exact hG), hS⟩
        · skip
          refine ix_iconst hx hb dX1_hint_35 ?_
          refine lv_goto (tgt := 40) hx hb dX1_hint_36 (by decide) ?_
          refine gm_put0 hx hb hts hown hG hS u324 dX1_hint_40 (fun H1 locs1 hG hS => ?_)
          refine lv_aload_n hx hb dX1_hint_43 rfl (lv_at hl 0 rfl) ?_
          refine gm_get hx hb hts hown hG 0 (by decide) rfl u324 dX1_hint_44 ?_
          refine ix_if_le (tgt := 52) hx hb (by omega) (by omega) dX1_hint_47 (by decide) (fun h47 => absurd h47 (by omega)) (fun h47 => ?_)
          refine ix_iconst hx hb dX1_hint_50 ?_
          exact W.iret hx hb hrt (fun t ht hW => ⟨⟨_, (2, f), rfl, Or.inr (Or.inr ⟨⟨by omega, by omega⟩, rfl⟩), ⟨fun g9 => absurd g9 (show ¬ (2 : Int) = 0 by decide), fun _ => by have h9 := hG.2; rw [← ht] at h9; exact h9⟩⟩, hS.F ht⟩) hS.2.2 dX1_hint_51
      · skip
        refine ix_iconst hx hb dX1_hint_22 ?_
        refine lv_goto (tgt := 40) hx hb dX1_hint_23 (by decide) ?_
        refine gm_put0 hx hb hts hown hG hS u324 dX1_hint_40 (fun H1 locs1 hG hS => ?_)
        refine lv_aload_n hx hb dX1_hint_43 rfl (lv_at hl 0 rfl) ?_
        refine gm_get hx hb hts hown hG 0 (by decide) rfl u324 dX1_hint_44 ?_
        refine ix_if_le (tgt := 52) hx hb (by omega) (by omega) dX1_hint_47 (by decide) (fun h47 => absurd h47 (by omega)) (fun h47 => ?_)
        refine ix_iconst hx hb dX1_hint_50 ?_
        exact W.iret hx hb hrt (fun t ht hW => ⟨⟨_, (1, f), rfl, Or.inr (Or.inl ⟨by omega, rfl⟩), ⟨fun g9 => absurd g9 (show ¬ (1 : Int) = 0 by decide), fun _ => by have h9 := hG.2; rw [← ht] at h9; exact h9⟩⟩, hS.F ht⟩) hS.2.2 dX1_hint_51
set_option maxHeartbeats 4000000 in
set_option maxRecDepth 100000 in
theorem m_use (l : Launch) (ω : WM) (th k q : Int) (M : Nat → Nat → Int) (f : Nat → Int) (to a b al : Int) (to1 : -2147483648 ≤ to) (to2 : to < 2147483648) (a1 : -2147483648 ≤ a) (a2 : a < 2147483648) (b1 : -2147483648 ≤ b) (b2 : b < 2147483648) (al1 : -2147483648 ≤ al) (al2 : al < 2147483648) (hq1 : 3329 ≤ q) (hq2 : q ≤ 8380417) (hM : ∀ r i, r < 12 → i < 16 → 0 ≤ M r i ∧ M r i < q) : Met l yX1_use wsX1_use ({ frames := 2, cells := 0, slots := 0, locals := 45 }) (va_Pc [.ref (mo ω), .int (iI (to)), .int (iI (a)), .int (iI (b)), .int (iI (al))] (fun U => GM ω th k q M f U U.heap)) (va_Qi (fun r_ (w_ : Int × (Nat → Int)) => (((0 ≤ to ∧ to < 12) ∧ (0 ≤ a ∧ a < 12) ∧ (0 ≤ b ∧ b < 12)) ∧ (sAli q al = 1)) ∧ w_.1 = 0 ∧ r_ = iI (sChg q al (M a.toNat) (M b.toNat) 16) ∨ (¬ ((0 ≤ to ∧ to < 12) ∧ (0 ≤ a ∧ a < 12) ∧ (0 ≤ b ∧ b < 12))) ∧ w_.1 = 1 ∨ (((0 ≤ to ∧ to < 12) ∧ (0 ≤ a ∧ a < 12) ∧ (0 ≤ b ∧ b < 12)) ∧ ¬ (sAli q al = 1)) ∧ w_.1 = 2) (fun (w_ : Int × (Nat → Int)) t => BM ω k q M k q (mixR M to.toNat (fun i => sUse q al (M a.toNat i) (M b.toNat i)) 16) w_ t) (Am ω)) 0 0 (Am ω) := by
  refine Met.ofW (cc := cX1_use) (maxL := 9) (ret := (some .int)) (by decide +kernel) rfl ?_
  intro p e s m args below meth c s₁ B hml hv
  obtain ⟨rfl, hG⟩ := hv
  have hx := B.exec
  have hb := B.bytes
  have hrt := B.returns
  have hts : ∀ w ∈ wsU, w.before _ s = true := fun w h => atoms_spec (ws := wsX1_use) B.pre w (List.mem_cons_of_mem _ h)
  have hown : s.vm.findClass "NoiseRingModel" = some m.cls := findClass_of_methodNamed B.named
  have hlocks := B.notSynchronized
  have hS : va_S (Am ω) s.heap s.heap [] := va_S.rf
  have hl := lv_entry ([.ref (mo ω), .int (iI (to)), .int (iI (a)), .int (iI (b)), .int (iI (al))]) (n := 9) (Nat.le_of_ble_eq_true rfl)
  rw [lg_entry_eq]
  generalize (lg_sl ([.ref (mo ω), .int (iI (to)), .int (iI (a)), .int (iI (b)), .int (iI (al))]) ++ List.replicate (9 - (lg_sl ([.ref (mo ω), .int (iI (to)), .int (iI (a)), .int (iI (b)), .int (iI (al))])).length) Slot.unset).toArray = ls at hl ⊢
  have hl : lv_has ls 9 [(0, .ref (mo ω)), (1, .int (iI (to))), (2, .int (iI (a))), (3, .int (iI (b))), (4, .int (iI (al)))] := hl
  have hai : sAli q al = 0 ∨ sAli q al = 1 := by unfold sAli; split <;> omega
  refine lv_aload_n hx hb dX1_use_0 rfl (lv_at hl 0 rfl) ?_
  refine lv_iload_n hx hb dX1_use_1 rfl (lv_at hl 1 rfl) ?_
  refine vp_callSi (va_Run.run (va_runS (As := [.int (iI (to))]) (rest := [.ref (mo ω)]) ⟨hx, hb, hml, hown, hts⟩ (m_none l (to) (by omega) (by omega)) (va_cwS 1 hts (gU (hd := [.methodLink "NoiseRingModel" 41 yX1_none, .static yX1_none, .initialized "NoiseRingModel"]) (List.forall_mem_cons.mpr ⟨u353, List.forall_mem_cons.mpr ⟨u354, List.forall_mem_cons.mpr ⟨u30, fun _ h => by cases h⟩⟩⟩) u355) rfl rfl rfl (by decide +kernel) ⟨Nat.le_of_ble_eq_true rfl, Nat.le_of_ble_eq_true rfl⟩) gn_S rfl rfl hl.1 rfl (lv_room (Nat.le_of_ble_eq_true rfl)) dX1_use_2 ⟨Nat.le_of_ble_eq_true rfl, Nat.le_of_ble_eq_true rfl⟩)) (fun r2 hr2 => ?_)
  subst hr2
  refine ix_if_ne (tgt := 22) hx hb (by omega) (by omega) dX1_use_5 (by decide) (fun h5 => ?_) (fun h5 => ?_)
  · skip
    refine ix_iconst hx hb dX1_use_22 ?_
    refine lv_goto (tgt := 40) hx hb dX1_use_23 (by decide) ?_
    refine gm_put0 hx hb hts hown hG hS u324 dX1_use_40 (fun H1 locs1 hG hS => ?_)
    refine lv_aload_n hx hb dX1_use_43 rfl (lv_at hl 0 rfl) ?_
    refine gm_get hx hb hts hown hG 0 (by decide) rfl u324 dX1_use_44 ?_
    refine ix_if_le (tgt := 52) hx hb (by omega) (by omega) dX1_use_47 (by decide) (fun h47 => absurd h47 (by omega)) (fun h47 => ?_)
    refine ix_iconst hx hb dX1_use_50 ?_
    exact W.iret hx hb hrt (fun t ht hW => ⟨⟨_, (1, f), rfl, Or.inr (Or.inl ⟨by omega, rfl⟩), ⟨fun g9 => absurd g9 (show ¬ (1 : Int) = 0 by decide), fun _ => by have h9 := hG.2; rw [← ht] at h9; exact h9⟩⟩, hS.F ht⟩) hS.2.2 dX1_use_51
  · skip
    refine lv_iload_n hx hb dX1_use_8 rfl (lv_at hl 2 rfl) ?_
    refine vp_callSi (va_Run.run (va_runS (As := [.int (iI (a))]) (rest := [.ref (mo ω)]) ⟨hx, hb, hml, hown, hts⟩ (m_none l (a) (by omega) (by omega)) (va_cwS 1 hts (gU (hd := [.methodLink "NoiseRingModel" 41 yX1_none, .static yX1_none, .initialized "NoiseRingModel"]) (List.forall_mem_cons.mpr ⟨u353, List.forall_mem_cons.mpr ⟨u354, List.forall_mem_cons.mpr ⟨u30, fun _ h => by cases h⟩⟩⟩) u355) rfl rfl rfl (by decide +kernel) ⟨Nat.le_of_ble_eq_true rfl, Nat.le_of_ble_eq_true rfl⟩) gn_S rfl rfl hl.1 rfl (lv_room (Nat.le_of_ble_eq_true rfl)) dX1_use_9 ⟨Nat.le_of_ble_eq_true rfl, Nat.le_of_ble_eq_true rfl⟩)) (fun r9 hr9 => ?_)
    subst hr9
    refine ix_if_ne (tgt := 22) hx hb (by omega) (by omega) dX1_use_12 (by decide) (fun h12 => ?_) (fun h12 => ?_)
    · skip
      refine ix_iconst hx hb dX1_use_22 ?_
      refine lv_goto (tgt := 40) hx hb dX1_use_23 (by decide) ?_
      refine gm_put0 hx hb hts hown hG hS u324 dX1_use_40 (fun H1 locs1 hG hS => ?_)
      refine lv_aload_n hx hb dX1_use_43 rfl (lv_at hl 0 rfl) ?_
      refine gm_get hx hb hts hown hG 0 (by decide) rfl u324 dX1_use_44 ?_
      refine ix_if_le (tgt := 52) hx hb (by omega) (by omega) dX1_use_47 (by decide) (fun h47 => absurd h47 (by omega)) (fun h47 => ?_)
      refine ix_iconst hx hb dX1_use_50 ?_
      exact W.iret hx hb hrt (fun t ht hW => ⟨⟨_, (1, f), rfl, Or.inr (Or.inl ⟨by omega, rfl⟩), ⟨fun g9 => absurd g9 (show ¬ (1 : Int) = 0 by decide), fun _ => by have h9 := hG.2; rw [← ht] at h9; exact h9⟩⟩, hS.F ht⟩) hS.2.2 dX1_use_51
    · skip
      refine lv_iload_n hx hb dX1_use_15 rfl (lv_at hl 3 rfl) ?_
      refine vp_callSi (va_Run.run (va_runS (As := [.int (iI (b))]) (rest := [.ref (mo ω)]) ⟨hx, hb, hml, hown, hts⟩ (m_none l (b) (by omega) (by omega)) (va_cwS 1 hts (gU (hd := [.methodLink "NoiseRingModel" 41 yX1_none, .static yX1_none, .initialized "NoiseRingModel"]) (List.forall_mem_cons.mpr ⟨u353, List.forall_mem_cons.mpr ⟨u354, List.forall_mem_cons.mpr ⟨u30, fun _ h => by cases h⟩⟩⟩) u355) rfl rfl rfl (by decide +kernel) ⟨Nat.le_of_ble_eq_true rfl, Nat.le_of_ble_eq_true rfl⟩) gn_S rfl rfl hl.1 rfl (lv_room (Nat.le_of_ble_eq_true rfl)) dX1_use_16 ⟨Nat.le_of_ble_eq_true rfl, Nat.le_of_ble_eq_true rfl⟩)) (fun r16 hr16 => ?_)
      subst hr16
      refine ix_if_eq (tgt := 26) hx hb (by omega) (by omega) dX1_use_19 (by decide) (fun h19 => ?_) (fun h19 => ?_)
      · skip
        refine lv_aload_n hx hb dX1_use_26 rfl (lv_at hl 0 rfl) ?_
        refine lv_iload hx hb dX1_use_27 (lv_at hl 4 rfl) ?_
        refine vp_callSi (va_Run.run (va_runV (As := [.int (iI (al))]) (rest := [.ref (mo ω)]) ⟨hx, hb, hml, hown, hts⟩ (m_isAlpha l ω (th) (k) (q) (M) (f) (al) hq1 hq2 (by omega) (by omega)) (cwV 1 hts (gU (hd := [.methodLink "NoiseRingModel" 64 yX1_isAlpha, .instanceMethod yX1_isAlpha, .selects "NoiseRingModel" yX1_isAlpha yX1_isAlpha, .initialized "NoiseRingModel"]) (List.forall_mem_cons.mpr ⟨u393, List.forall_mem_cons.mpr ⟨u394, List.forall_mem_cons.mpr ⟨u21, List.forall_mem_cons.mpr ⟨u30, fun _ h => by cases h⟩⟩⟩⟩) u395) rfl rfl rfl (by decide +kernel) ⟨Nat.le_of_ble_eq_true rfl, Nat.le_of_ble_eq_true rfl⟩) (gm_V hG) rfl rfl hl.1 rfl (lv_room (Nat.le_of_ble_eq_true rfl)) dX1_use_29 ⟨Nat.le_of_ble_eq_true rfl, Nat.le_of_ble_eq_true rfl⟩)) (fun r29 hr29 => ?_)
        subst hr29
        refine ix_if_ne (tgt := 39) hx hb (by omega) (by omega) dX1_use_32 (by decide) (fun h32 => ?_) (fun h32 => ?_)
        · skip
          refine ix_iconst hx hb dX1_use_39 ?_
          refine gm_put0 hx hb hts hown hG hS u324 dX1_use_40 (fun H1 locs1 hG hS => ?_)
          refine lv_aload_n hx hb dX1_use_43 rfl (lv_at hl 0 rfl) ?_
          refine gm_get hx hb hts hown hG 0 (by decide) rfl u324 dX1_use_44 ?_
          refine ix_if_le (tgt := 52) hx hb (by omega) (by omega) dX1_use_47 (by decide) (fun h47 => ?_) (fun h47 => absurd h47 (by omega))
          obtain ⟨to, rfl⟩ := Int.eq_ofNat_of_zero_le (show 0 ≤ to by omega)
          obtain ⟨a, rfl⟩ := Int.eq_ofNat_of_zero_le (show 0 ≤ a by omega)
          obtain ⟨b, rfl⟩ := Int.eq_ofNat_of_zero_le (show 0 ≤ b by omega)
          have hal := sAl_of (q := q) (a := al) (by omega)
          have hal2 := sAl_lt (q := q) (by omega) hal
          have hv := sAl_div (q := q) (by omega) hal.1 hal.2.2
          have hv2 : (q - 1) / al ≤ q - 1 := Int.ediv_le_self _ (by omega)
          have hg : ∀ i, i < 16 → 0 ≤ (fun i => sUse q al (M a i) (M b i)) i ∧ (fun i => sUse q al (M a i) (M b i)) i < q := fun i hi9 => by
            have h9 := hM a i (by omega) hi9
            have h8 := sPart_lt (q := q) (x := M a i) (a := al) h9.1 h9.2 hal2.1 hal2.2
            have h7 := sMov_lt (q := q) (x := M a i) (a := al) (by omega) (by omega) hal.2.2
            show 0 ≤ sUse q al (M a i) (M b i) ∧ sUse q al (M a i) (M b i) < q
            unfold sUse
            split <;> omega
          refine ix_iconst hx hb dX1_use_52 ?_
          refine lv_istore (lv' := [(5, .int (iI (0))), (0, .ref (mo ω)), (1, .int (iI (to))), (2, .int (iI (a))), (3, .int (iI (b))), (4, .int (iI (al)))]) hx hb dX1_use_53 hl (by decide) rfl (fun ls hl => ?_)
          refine lv_aload_n hx hb dX1_use_55 rfl (lv_at hl 1 rfl) ?_
          refine gm_get hx hb hts hown hG 2 (by decide) rfl u326 dX1_use_56 ?_
          refine ix_iconst hx hb dX1_use_59 ?_
          refine ix_isub hx hb dX1_use_60 ?_
          refine lv_iload hx hb dX1_use_61 (lv_at hl 5 rfl) ?_
          refine ix_idiv hx hb (by omega) (by omega) (by omega) (by omega) dX1_use_63 ?_
          refine lv_istore (lv' := [(6, .int (iI (((q - 1) / al)))), (5, .int (iI (0))), (0, .ref (mo ω)), (1, .int (iI (to))), (2, .int (iI (a))), (3, .int (iI (b))), (4, .int (iI (al)))]) hx hb dX1_use_64 hl (by decide) rfl (fun ls hl => ?_)
          refine ix_iconst hx hb dX1_use_66 ?_
          refine lv_istore (lv' := [(7, .int (iI (0))), (6, .int (iI (((q - 1) / al)))), (5, .int (iI (0))), (0, .ref (mo ω)), (1, .int (iI (to))), (2, .int (iI (a))), (3, .int (iI (b))), (4, .int (iI (al)))]) hx hb dX1_use_67 hl (by decide) rfl (fun ls hl => ?_)
          refine ix_loopH (I := fun j ls H locs => lv_has ls 9 [(7, .int (iI ((j : Nat)))), (5, .int (iI (sChg q al (M a) (M b) (j)))), (6, .int (iI (((q - 1) / al)))), (0, .ref (mo ω)), (1, .int (iI (to))), (2, .int (iI (a))), (3, .int (iI (b))), (4, .int (iI (al)))] ∧ GM ω (0) (k) (q) (M) (mixI f (fun i => sUse q al (M a i) (M b i)) (j)) s H ∧ va_S (Am ω) s.heap H locs) 16 0 (by omega) ⟨lv_sub hl [0, 2, 1, 3, 4, 5, 6, 7] rfl, (by rw [mixI_0]; exact hG), hS⟩ (fun ls H locs hI => ?_) (fun j ls H locs hj hI ih69 => ?_)
          · obtain ⟨hl, hG, hS⟩ := hI
            have hl : lv_has ls 9 [(7, .int (iI ((16 : Nat)))), (5, .int (iI (sChg q al (M a) (M b) (16)))), (6, .int (iI (((q - 1) / al)))), (0, .ref (mo ω)), (1, .int (iI (to))), (2, .int (iI (a))), (3, .int (iI (b))), (4, .int (iI (al)))] := hl
            have hf2 : ∀ i, i < 16 → 0 ≤ mixI f (fun i => sUse q al (M a i) (M b i)) (16) i ∧ mixI f (fun i => sUse q al (M a i) (M b i)) (16) i < q := fun i hi9 => by rw [mixI_at hi9]; exact hg i hi9
            refine lv_iload hx hb dX1_use_69 (lv_at hl 0 rfl) ?_
            refine ix_bipush hx hb (by decide) dX1_use_71 ?_
            refine ix_icmp_ge (tgt := 163) hx hb (by omega) (by omega) (by omega) (by omega) dX1_use_73 (by decide) (fun h73 => ?_) (fun h73 => absurd h73 (by omega))
            refine lv_aload_n hx hb dX1_use_163 rfl (lv_at hl 3 rfl) ?_
            refine lv_iload_n hx hb dX1_use_164 rfl (lv_at hl 4 rfl) ?_
            refine va_calli (va_runV (As := [.int (iI (to))]) (rest := []) ⟨hx, hb, hml, hown, hts⟩ (m_put l ω (0) (k) (q) (M) (mixI f (fun i => sUse q al (M a i) (M b i)) (16)) (to) hq1 hq2 (by omega) hf2) (cwV 1 hts (gU (hd := [.methodLink "NoiseRingModel" 52 yX1_put, .instanceMethod yX1_put, .selects "NoiseRingModel" yX1_put yX1_put, .initialized "NoiseRingModel"]) (List.forall_mem_cons.mpr ⟨u371, List.forall_mem_cons.mpr ⟨u372, List.forall_mem_cons.mpr ⟨u18, List.forall_mem_cons.mpr ⟨u30, fun _ h => by cases h⟩⟩⟩⟩) u373) rfl rfl rfl (by decide +kernel) ⟨Nat.le_of_ble_eq_true rfl, Nat.le_of_ble_eq_true rfl⟩) (gm_V hG) rfl rfl hl.1 rfl (lv_room (Nat.le_of_ble_eq_true rfl)) dX1_use_165 ⟨Nat.le_of_ble_eq_true rfl, Nat.le_of_ble_eq_true rfl⟩) hS (fun q9 _ h => h) (fun q9 h => h) (fun r165 u9 t H1 locs1 ht hvm hr165 hB hz hk hS1 => ?_)
            subst hr165
            clear hS
            have hS := hS1
            rw [ht] at hB
            have hG : GM ω (0) (k) (q) (mixR (M) (to) (mixI f (fun i => sUse q al (M a i) (M b i)) (16)) 16) (mixI f (fun i => sUse q al (M a i) (M b i)) (16)) s H1 := ⟨hG.1, hB⟩
            rw [mixR_mix] at hG
            refine lv_pop hx hb dX1_use_168 rfl ?_
            refine lv_iload hx hb dX1_use_169 (lv_at hl 1 rfl) ?_
            exact W.iret hx hb hrt (fun t ht hW => ⟨⟨_, (0, mixI f (fun i => sUse q al (M a i) (M b i)) (16)), rfl, Or.inl ⟨by omega, rfl, rfl⟩, ⟨fun _ => by have h9 := hG.2; rw [← ht] at h9; exact h9, fun g9 => absurd rfl g9⟩⟩, hS.F ht⟩) hS.2.2 dX1_use_171
          · obtain ⟨hl, hG, hS⟩ := hI
            have hl : lv_has ls 9 [(7, .int (iI ((j : Nat)))), (5, .int (iI (sChg q al (M a) (M b) (j)))), (6, .int (iI (((q - 1) / al)))), (0, .ref (mo ω)), (1, .int (iI (to))), (2, .int (iI (a))), (3, .int (iI (b))), (4, .int (iI (al)))] := hl
            have hm := hM a j (by omega) hj
            have hmb := hM b j (by omega) hj
            have hp1 := sPart_lt (q := q) (x := M a j) (a := al) hm.1 hm.2 hal2.1 hal2.2
            have hn := sNear_in (x := M a j) (show 0 < al by omega)
            have hrr : -2147483648 ≤ sRest q (M (a) (j)) (al) ∧ sRest q (M (a) (j)) (al) < 2147483648 := by
              unfold sRest
              split <;> omega
            have hch := sChg_in q al (M a) (M b) j
            have hgj : 0 ≤ sUse q al (M a j) (M b j) ∧ sUse q al (M a j) (M b j) < q := hg j hj
            refine lv_iload hx hb dX1_use_69 (lv_at hl 0 rfl) ?_
            refine ix_bipush hx hb (by decide) dX1_use_71 ?_
            refine ix_icmp_ge (tgt := 163) hx hb (by omega) (by omega) (by omega) (by omega) dX1_use_73 (by decide) (fun h73 => absurd h73 (by omega)) (fun h73 => ?_)
            refine lv_aload_n hx hb dX1_use_76 rfl (lv_at hl 3 rfl) ?_
            refine lv_aload_n hx hb dX1_use_77 rfl (lv_at hl 3 rfl) ?_
            refine lv_iload_n hx hb dX1_use_78 rfl (lv_at hl 5 rfl) ?_
            refine lv_iload hx hb dX1_use_79 (lv_at hl 0 rfl) ?_
            refine vp_callSi (va_Run.run (va_runV (As := [.int (iI (a)), .int (iI ((j : Nat)))]) (rest := [.ref (mo ω)]) ⟨hx, hb, hml, hown, hts⟩ (m_at l ω (0) (k) (q) (M) (mixI f (fun i => sUse q al (M a i) (M b i)) (j)) (a) (j) (by omega) (by omega)) (cwV 2 hts (gU (hd := [.methodLink "NoiseRingModel" 45 yX1_at, .instanceMethod yX1_at, .selects "NoiseRingModel" yX1_at yX1_at, .initialized "NoiseRingModel"]) (List.forall_mem_cons.mpr ⟨u356, List.forall_mem_cons.mpr ⟨u357, List.forall_mem_cons.mpr ⟨u16, List.forall_mem_cons.mpr ⟨u30, fun _ h => by cases h⟩⟩⟩⟩) u358) rfl rfl rfl (by decide +kernel) ⟨Nat.le_of_ble_eq_true rfl, Nat.le_of_ble_eq_true rfl⟩) (gm_V hG) rfl rfl hl.1 rfl (lv_room (Nat.le_of_ble_eq_true rfl)) dX1_use_81 ⟨Nat.le_of_ble_eq_true rfl, Nat.le_of_ble_eq_true rfl⟩)) (fun r81 hr81 => ?_)
            subst hr81
            refine lv_iload hx hb dX1_use_84 (lv_at hl 7 rfl) ?_
            refine vp_callSi (va_Run.run (va_runV (As := [.int (iI (M (a) (j))), .int (iI (al))]) (rest := []) ⟨hx, hb, hml, hown, hts⟩ (m_partOf l ω (0) (k) (q) (M) (mixI f (fun i => sUse q al (M a i) (M b i)) (j)) (M (a) (j)) (al) hq1 hq2 (by omega) (by omega) (by omega) (by omega)) (cwV 2 hts (gU (hd := [.methodLink "NoiseRingModel" 67 yX1_partOf, .instanceMethod yX1_partOf, .selects "NoiseRingModel" yX1_partOf yX1_partOf, .initialized "NoiseRingModel"]) (List.forall_mem_cons.mpr ⟨u396, List.forall_mem_cons.mpr ⟨u397, List.forall_mem_cons.mpr ⟨u22, List.forall_mem_cons.mpr ⟨u30, fun _ h => by cases h⟩⟩⟩⟩) u398) rfl rfl rfl (by decide +kernel) ⟨Nat.le_of_ble_eq_true rfl, Nat.le_of_ble_eq_true rfl⟩) (gm_V hG) rfl rfl hl.1 rfl (lv_room (Nat.le_of_ble_eq_true rfl)) dX1_use_86 ⟨Nat.le_of_ble_eq_true rfl, Nat.le_of_ble_eq_true rfl⟩)) (fun r86 hr86 => ?_)
            subst hr86
            refine lv_istore (lv' := [(8, .int (iI ((sPart q (M (a) (j)) (al))))), (7, .int (iI ((j : Nat)))), (5, .int (iI (sChg q al (M a) (M b) (j)))), (6, .int (iI (((q - 1) / al)))), (0, .ref (mo ω)), (1, .int (iI (to))), (2, .int (iI (a))), (3, .int (iI (b))), (4, .int (iI (al)))]) hx hb dX1_use_89 hl (by decide) rfl (fun ls hl => ?_)
            refine lv_aload_n hx hb dX1_use_91 rfl (lv_at hl 4 rfl) ?_
            refine gm_get hx hb hts hown hG 4 (by decide) rfl u328 dX1_use_92 ?_
            refine lv_iload hx hb dX1_use_95 (lv_at hl 1 rfl) ?_
            refine lv_aload_n hx hb dX1_use_97 rfl (lv_at hl 4 rfl) ?_
            refine lv_iload_n hx hb dX1_use_98 rfl (lv_at hl 7 rfl) ?_
            refine lv_iload hx hb dX1_use_99 (lv_at hl 1 rfl) ?_
            refine vp_callSi (va_Run.run (va_runV (As := [.int (iI (b)), .int (iI ((j : Nat)))]) (rest := [.int (iI ((j : Nat))), .ref (md ω)]) ⟨hx, hb, hml, hown, hts⟩ (m_at l ω (0) (k) (q) (M) (mixI f (fun i => sUse q al (M a i) (M b i)) (j)) (b) (j) (by omega) (by omega)) (cwV 2 hts (gU (hd := [.methodLink "NoiseRingModel" 45 yX1_at, .instanceMethod yX1_at, .selects "NoiseRingModel" yX1_at yX1_at, .initialized "NoiseRingModel"]) (List.forall_mem_cons.mpr ⟨u356, List.forall_mem_cons.mpr ⟨u357, List.forall_mem_cons.mpr ⟨u16, List.forall_mem_cons.mpr ⟨u30, fun _ h => by cases h⟩⟩⟩⟩) u358) rfl rfl rfl (by decide +kernel) ⟨Nat.le_of_ble_eq_true rfl, Nat.le_of_ble_eq_true rfl⟩) (gm_V hG) rfl rfl hl.1 rfl (lv_room (Nat.le_of_ble_eq_true rfl)) dX1_use_101 ⟨Nat.le_of_ble_eq_true rfl, Nat.le_of_ble_eq_true rfl⟩)) (fun r101 hr101 => ?_)
            subst hr101
            refine ix_if_ne (tgt := 112) hx hb (by omega) (by omega) dX1_use_104 (by decide) (fun h104 => ?_) (fun h104 => ?_)
            · skip
              refine lv_iload hx hb dX1_use_112 (lv_at hl 0 rfl) ?_
              refine lv_aload_n hx hb dX1_use_114 rfl (lv_at hl 4 rfl) ?_
              refine lv_aload_n hx hb dX1_use_115 rfl (lv_at hl 4 rfl) ?_
              refine lv_iload_n hx hb dX1_use_116 rfl (lv_at hl 6 rfl) ?_
              refine lv_iload hx hb dX1_use_117 (lv_at hl 1 rfl) ?_
              refine vp_callSi (va_Run.run (va_runV (As := [.int (iI (a)), .int (iI ((j : Nat)))]) (rest := [.ref (mo ω), .int (iI ((sPart q (M (a) (j)) (al)))), .int (iI ((j : Nat))), .ref (md ω)]) ⟨hx, hb, hml, hown, hts⟩ (m_at l ω (0) (k) (q) (M) (mixI f (fun i => sUse q al (M a i) (M b i)) (j)) (a) (j) (by omega) (by omega)) (cwV 2 hts (gU (hd := [.methodLink "NoiseRingModel" 45 yX1_at, .instanceMethod yX1_at, .selects "NoiseRingModel" yX1_at yX1_at, .initialized "NoiseRingModel"]) (List.forall_mem_cons.mpr ⟨u356, List.forall_mem_cons.mpr ⟨u357, List.forall_mem_cons.mpr ⟨u16, List.forall_mem_cons.mpr ⟨u30, fun _ h => by cases h⟩⟩⟩⟩) u358) rfl rfl rfl (by decide +kernel) ⟨Nat.le_of_ble_eq_true rfl, Nat.le_of_ble_eq_true rfl⟩) (gm_V hG) rfl rfl hl.1 rfl (lv_room (Nat.le_of_ble_eq_true rfl)) dX1_use_119 ⟨Nat.le_of_ble_eq_true rfl, Nat.le_of_ble_eq_true rfl⟩)) (fun r119 hr119 => ?_)
              subst hr119
              refine lv_iload hx hb dX1_use_122 (lv_at hl 8 rfl) ?_
              refine vp_callSi (va_Run.run (va_runV (As := [.int (iI (M (a) (j))), .int (iI (al))]) (rest := [.int (iI ((sPart q (M (a) (j)) (al)))), .int (iI ((j : Nat))), .ref (md ω)]) ⟨hx, hb, hml, hown, hts⟩ (m_restOf l ω (0) (k) (q) (M) (mixI f (fun i => sUse q al (M a i) (M b i)) (j)) (M (a) (j)) (al) hq1 hq2 (by omega) (by omega) (by omega) (by omega)) (cwV 2 hts (gU (hd := [.methodLink "NoiseRingModel" 70 yX1_restOf, .instanceMethod yX1_restOf, .selects "NoiseRingModel" yX1_restOf yX1_restOf, .initialized "NoiseRingModel"]) (List.forall_mem_cons.mpr ⟨u399, List.forall_mem_cons.mpr ⟨u400, List.forall_mem_cons.mpr ⟨u23, List.forall_mem_cons.mpr ⟨u30, fun _ h => by cases h⟩⟩⟩⟩) u401) rfl rfl rfl (by decide +kernel) ⟨Nat.le_of_ble_eq_true rfl, Nat.le_of_ble_eq_true rfl⟩) (gm_V hG) rfl rfl hl.1 rfl (lv_room (Nat.le_of_ble_eq_true rfl)) dX1_use_124 ⟨Nat.le_of_ble_eq_true rfl, Nat.le_of_ble_eq_true rfl⟩)) (fun r124 hr124 => ?_)
              subst hr124
              refine ix_if_le (tgt := 134) hx hb (by omega) (by omega) dX1_use_127 (by decide) (fun h127 => ?_) (fun h127 => ?_)
              · skip
                refine ix_iconst hx hb dX1_use_134 ?_
                refine ix_iadd hx hb dX1_use_135 ?_
                refine lv_iload hx hb dX1_use_136 (lv_at hl 3 rfl) ?_
                refine vp_callSi (va_Run.run (va_runS (As := [.int (iI (((sPart q (M (a) (j)) (al)) + -1))), .int (iI (((q - 1) / al)))]) (rest := [.int (iI ((j : Nat))), .ref (md ω)]) ⟨hx, hb, hml, hown, hts⟩ (c_floorModI l (((sPart q (M (a) (j)) (al)) + -1)) (((q - 1) / al)) (by omega) (by omega) (by omega) (by omega)) (va_cwS 2 hts (gU (hd := [.methodLink "NoiseRingModel" 73 yJ_floorModI, .static yJ_floorModI, .initialized "java/lang/Math"]) (List.forall_mem_cons.mpr ⟨u410, List.forall_mem_cons.mpr ⟨u176, List.forall_mem_cons.mpr ⟨u36, fun _ h => by cases h⟩⟩⟩) u177) rfl rfl rfl (by decide +kernel) ⟨Nat.le_of_ble_eq_true rfl, Nat.le_of_ble_eq_true rfl⟩) gn_S rfl rfl hl.1 rfl (lv_room (Nat.le_of_ble_eq_true rfl)) dX1_use_138 ⟨Nat.le_of_ble_eq_true rfl, Nat.le_of_ble_eq_true rfl⟩)) (fun r138 hr138 => ?_)
                subst hr138
                refine wx_i (congrArg iI (show (((sPart q (M (a) (j)) (al)) + -1) % ((q - 1) / al)) = (fun i => sUse q al (M a i) (M b i)) j from ?_)) ?_
                · show _ = sUse q al (M a j) (M b j)
                  unfold sUse
                  first | rw [if_pos (by omega)] | (rw [if_neg (by omega)]; unfold sMov; first | rw [if_pos (by omega)] | rw [if_neg (by omega)])
                refine gm_mst (i := j) hx hb hG hS (by omega) dX1_use_141 (fun H1 locs1 hG hS => ?_)
                have hG : GM ω (0) (k) (q) (M) (mixI f (fun i => sUse q al (M a i) (M b i)) (j + 1)) s H1 := (by rw [← mixI_s]; exact hG)
                refine lv_aload_n hx hb dX1_use_142 rfl (lv_at hl 4 rfl) ?_
                refine gm_get hx hb hts hown hG 4 (by decide) rfl u328 dX1_use_143 ?_
                refine lv_iload hx hb dX1_use_146 (lv_at hl 1 rfl) ?_
                refine gm_mld (i := j) hx hb hG (by omega) dX1_use_148 ?_
                refine wx_i (congrArg iI (show mixI f (fun i => sUse q al (M a i) (M b i)) (j + 1) j = sUse q al (M a j) (M b j) from mixI_at (by omega))) ?_
                refine lv_iload hx hb dX1_use_149 (lv_at hl 0 rfl) ?_
                refine ix_icmp_eq (tgt := 157) hx hb (by omega) (by omega) (by omega) (by omega) dX1_use_151 (by decide) (fun h151 => ?_) (fun h151 => ?_)
                · have hs : sChg q al (M a) (M b) (j + 1) = sChg q al (M a) (M b) j := by rw [sChg, if_pos h151]; omega
                  rw [← hs] at hl
                  refine lv_iinc (k := 1) (v := iI ((j : Nat) + 1)) (lv' := [(7, .int (iI ((j : Nat) + 1))), (8, .int (iI ((sPart q (M (a) (j)) (al))))), (5, .int (iI (sChg q al (M a) (M b) (j + 1)))), (6, .int (iI (((q - 1) / al)))), (0, .ref (mo ω)), (1, .int (iI (to))), (2, .int (iI (a))), (3, .int (iI (b))), (4, .int (iI (al)))]) hx hb dX1_use_157 hl rfl (iI_add _ _) (by decide) rfl (fun ls hl => ?_)
                  refine lv_goto (tgt := 69) hx hb dX1_use_160 (by decide) ?_
                  exact ih69 ls _ _ ⟨lv_sub hl [0, 2, 3, 4, 5, 6, 7, 8] rfl, hG, hS⟩
                · have hs : sChg q al (M a) (M b) (j + 1) = sChg q al (M a) (M b) j + 1 := by rw [sChg, if_neg h151]
                  refine lv_iinc (k := 2) (v := iI (sChg q al (M a) (M b) (j + 1))) (lv' := [(5, .int (iI (sChg q al (M a) (M b) (j + 1)))), (8, .int (iI ((sPart q (M (a) (j)) (al))))), (7, .int (iI ((j : Nat)))), (6, .int (iI (((q - 1) / al)))), (0, .ref (mo ω)), (1, .int (iI (to))), (2, .int (iI (a))), (3, .int (iI (b))), (4, .int (iI (al)))]) hx hb dX1_use_154 hl rfl ((iI_add _ _).trans (congrArg iI hs.symm)) (by decide) rfl (fun ls hl => ?_)
                  refine lv_iinc (k := 2) (v := iI ((j : Nat) + 1)) (lv' := [(7, .int (iI ((j : Nat) + 1))), (5, .int (iI (sChg q al (M a) (M b) (j + 1)))), (8, .int (iI ((sPart q (M (a) (j)) (al))))), (6, .int (iI (((q - 1) / al)))), (0, .ref (mo ω)), (1, .int (iI (to))), (2, .int (iI (a))), (3, .int (iI (b))), (4, .int (iI (al)))]) hx hb dX1_use_157 hl rfl (iI_add _ _) (by decide) rfl (fun ls hl => ?_)
                  refine lv_goto (tgt := 69) hx hb dX1_use_160 (by decide) ?_
                  exact ih69 ls _ _ ⟨lv_sub hl [0, 1, 3, 4, 5, 6, 7, 8] rfl, hG, hS⟩
              · skip
                refine ix_iconst hx hb dX1_use_130 ?_
                refine lv_goto (tgt := 135) hx hb dX1_use_131 (by decide) ?_
                refine ix_iadd hx hb dX1_use_135 ?_
                refine lv_iload hx hb dX1_use_136 (lv_at hl 3 rfl) ?_
                refine vp_callSi (va_Run.run (va_runS (As := [.int (iI (((sPart q (M (a) (j)) (al)) + 1))), .int (iI (((q - 1) / al)))]) (rest := [.int (iI ((j : Nat))), .ref (md ω)]) ⟨hx, hb, hml, hown, hts⟩ (c_floorModI l (((sPart q (M (a) (j)) (al)) + 1)) (((q - 1) / al)) (by omega) (by omega) (by omega) (by omega)) (va_cwS 2 hts (gU (hd := [.methodLink "NoiseRingModel" 73 yJ_floorModI, .static yJ_floorModI, .initialized "java/lang/Math"]) (List.forall_mem_cons.mpr ⟨u410, List.forall_mem_cons.mpr ⟨u176, List.forall_mem_cons.mpr ⟨u36, fun _ h => by cases h⟩⟩⟩) u177) rfl rfl rfl (by decide +kernel) ⟨Nat.le_of_ble_eq_true rfl, Nat.le_of_ble_eq_true rfl⟩) gn_S rfl rfl hl.1 rfl (lv_room (Nat.le_of_ble_eq_true rfl)) dX1_use_138 ⟨Nat.le_of_ble_eq_true rfl, Nat.le_of_ble_eq_true rfl⟩)) (fun r138 hr138 => ?_)
                subst hr138
                refine wx_i (congrArg iI (show (((sPart q (M (a) (j)) (al)) + 1) % ((q - 1) / al)) = (fun i => sUse q al (M a i) (M b i)) j from ?_)) ?_
                · show _ = sUse q al (M a j) (M b j)
                  unfold sUse
                  first | rw [if_pos (by omega)] | (rw [if_neg (by omega)]; unfold sMov; first | rw [if_pos (by omega)] | rw [if_neg (by omega)])
                refine gm_mst (i := j) hx hb hG hS (by omega) dX1_use_141 (fun H1 locs1 hG hS => ?_)
                have hG : GM ω (0) (k) (q) (M) (mixI f (fun i => sUse q al (M a i) (M b i)) (j + 1)) s H1 := (by rw [← mixI_s]; exact hG)
                refine lv_aload_n hx hb dX1_use_142 rfl (lv_at hl 4 rfl) ?_
                refine gm_get hx hb hts hown hG 4 (by decide) rfl u328 dX1_use_143 ?_
                refine lv_iload hx hb dX1_use_146 (lv_at hl 1 rfl) ?_
                refine gm_mld (i := j) hx hb hG (by omega) dX1_use_148 ?_
                refine wx_i (congrArg iI (show mixI f (fun i => sUse q al (M a i) (M b i)) (j + 1) j = sUse q al (M a j) (M b j) from mixI_at (by omega))) ?_
                refine lv_iload hx hb dX1_use_149 (lv_at hl 0 rfl) ?_
                refine ix_icmp_eq (tgt := 157) hx hb (by omega) (by omega) (by omega) (by omega) dX1_use_151 (by decide) (fun h151 => ?_) (fun h151 => ?_)
                · have hs : sChg q al (M a) (M b) (j + 1) = sChg q al (M a) (M b) j := by rw [sChg, if_pos h151]; omega
                  rw [← hs] at hl
                  refine lv_iinc (k := 1) (v := iI ((j : Nat) + 1)) (lv' := [(7, .int (iI ((j : Nat) + 1))), (8, .int (iI ((sPart q (M (a) (j)) (al))))), (5, .int (iI (sChg q al (M a) (M b) (j + 1)))), (6, .int (iI (((q - 1) / al)))), (0, .ref (mo ω)), (1, .int (iI (to))), (2, .int (iI (a))), (3, .int (iI (b))), (4, .int (iI (al)))]) hx hb dX1_use_157 hl rfl (iI_add _ _) (by decide) rfl (fun ls hl => ?_)
                  refine lv_goto (tgt := 69) hx hb dX1_use_160 (by decide) ?_
                  exact ih69 ls _ _ ⟨lv_sub hl [0, 2, 3, 4, 5, 6, 7, 8] rfl, hG, hS⟩
                · have hs : sChg q al (M a) (M b) (j + 1) = sChg q al (M a) (M b) j + 1 := by rw [sChg, if_neg h151]
                  refine lv_iinc (k := 2) (v := iI (sChg q al (M a) (M b) (j + 1))) (lv' := [(5, .int (iI (sChg q al (M a) (M b) (j + 1)))), (8, .int (iI ((sPart q (M (a) (j)) (al))))), (7, .int (iI ((j : Nat)))), (6, .int (iI (((q - 1) / al)))), (0, .ref (mo ω)), (1, .int (iI (to))), (2, .int (iI (a))), (3, .int (iI (b))), (4, .int (iI (al)))]) hx hb dX1_use_154 hl rfl ((iI_add _ _).trans (congrArg iI hs.symm)) (by decide) rfl (fun ls hl => ?_)
                  refine lv_iinc (k := 2) (v := iI ((j : Nat) + 1)) (lv' := [(7, .int (iI ((j : Nat) + 1))), (5, .int (iI (sChg q al (M a) (M b) (j + 1)))), (8, .int (iI ((sPart q (M (a) (j)) (al))))), (6, .int (iI (((q - 1) / al)))), (0, .ref (mo ω)), (1, .int (iI (to))), (2, .int (iI (a))), (3, .int (iI (b))), (4, .int (iI (al)))]) hx hb dX1_use_157 hl rfl (iI_add _ _) (by decide) rfl (fun ls hl => ?_)
                  refine lv_goto (tgt := 69) hx hb dX1_use_160 (by decide) ?_
                  exact ih69 ls _ _ ⟨lv_sub hl [0, 1, 3, 4, 5, 6, 7, 8] rfl, hG, hS⟩
            · skip
              refine lv_iload hx hb dX1_use_107 (lv_at hl 0 rfl) ?_
              refine lv_goto (tgt := 141) hx hb dX1_use_109 (by decide) ?_
              refine wx_i (congrArg iI (show (sPart q (M (a) (j)) (al)) = (fun i => sUse q al (M a i) (M b i)) j from ?_)) ?_
              · show _ = sUse q al (M a j) (M b j)
                unfold sUse
                first | rw [if_pos (by omega)] | (rw [if_neg (by omega)]; unfold sMov; first | rw [if_pos (by omega)] | rw [if_neg (by omega)])
              refine gm_mst (i := j) hx hb hG hS (by omega) dX1_use_141 (fun H1 locs1 hG hS => ?_)
              have hG : GM ω (0) (k) (q) (M) (mixI f (fun i => sUse q al (M a i) (M b i)) (j + 1)) s H1 := (by rw [← mixI_s]; exact hG)
              refine lv_aload_n hx hb dX1_use_142 rfl (lv_at hl 4 rfl) ?_
              refine gm_get hx hb hts hown hG 4 (by decide) rfl u328 dX1_use_143 ?_
              refine lv_iload hx hb dX1_use_146 (lv_at hl 1 rfl) ?_
              refine gm_mld (i := j) hx hb hG (by omega) dX1_use_148 ?_
              refine wx_i (congrArg iI (show mixI f (fun i => sUse q al (M a i) (M b i)) (j + 1) j = sUse q al (M a j) (M b j) from mixI_at (by omega))) ?_
              refine lv_iload hx hb dX1_use_149 (lv_at hl 0 rfl) ?_
              refine ix_icmp_eq (tgt := 157) hx hb (by omega) (by omega) (by omega) (by omega) dX1_use_151 (by decide) (fun h151 => ?_) (fun h151 => ?_)
              · have hs : sChg q al (M a) (M b) (j + 1) = sChg q al (M a) (M b) j := by rw [sChg, if_pos h151]; omega
                rw [← hs] at hl
                refine lv_iinc (k := 1) (v := iI ((j : Nat) + 1)) (lv' := [(7, .int (iI ((j : Nat) + 1))), (8, .int (iI ((sPart q (M (a) (j)) (al))))), (5, .int (iI (sChg q al (M a) (M b) (j + 1)))), (6, .int (iI (((q - 1) / al)))), (0, .ref (mo ω)), (1, .int (iI (to))), (2, .int (iI (a))), (3, .int (iI (b))), (4, .int (iI (al)))]) hx hb dX1_use_157 hl rfl (iI_add _ _) (by decide) rfl (fun ls hl => ?_)
                refine lv_goto (tgt := 69) hx hb dX1_use_160 (by decide) ?_
                exact ih69 ls _ _ ⟨lv_sub hl [0, 2, 3, 4, 5, 6, 7, 8] rfl, hG, hS⟩
              · have hs : sChg q al (M a) (M b) (j + 1) = sChg q al (M a) (M b) j + 1 := by rw [sChg, if_neg h151]
                refine lv_iinc (k := 2) (v := iI (sChg q al (M a) (M b) (j + 1))) (lv' := [(5, .int (iI (sChg q al (M a) (M b) (j + 1)))), (8, .int (iI ((sPart q (M (a) (j)) (al))))), (7, .int (iI ((j : Nat)))), (6, .int (iI (((q - 1) / al)))), (0, .ref (mo ω)), (1, .int (iI (to))), (2, .int (iI (a))), (3, .int (iI (b))), (4, .int (iI (al)))]) hx hb dX1_use_154 hl rfl ((iI_add _ _).trans (congrArg iI hs.symm)) (by decide) rfl (fun ls hl => ?_)
                refine lv_iinc (k := 2) (v := iI ((j : Nat) + 1)) (lv' := [(7, .int (iI ((j : Nat) + 1))), (5, .int (iI (sChg q al (M a) (M b) (j + 1)))), (8, .int (iI ((sPart q (M (a) (j)) (al))))), (6, .int (iI (((q - 1) / al)))), (0, .ref (mo ω)), (1, .int (iI (to))), (2, .int (iI (a))), (3, .int (iI (b))), (4, .int (iI (al)))]) hx hb dX1_use_157 hl rfl (iI_add _ _) (by decide) rfl (fun ls hl => ?_)
                refine lv_goto (tgt := 69) hx hb dX1_use_160 (by decide) ?_
                exact ih69 ls _ _ ⟨lv_sub hl [0, 1, 3, 4, 5, 6, 7, 8] rfl, hG, hS⟩
        · skip
          refine ix_iconst hx hb dX1_use_35 ?_
          refine lv_goto (tgt := 40) hx hb dX1_use_36 (by decide) ?_
          refine gm_put0 hx hb hts hown hG hS u324 dX1_use_40 (fun H1 locs1 hG hS => ?_)
          refine lv_aload_n hx hb dX1_use_43 rfl (lv_at hl 0 rfl) ?_
          refine gm_get hx hb hts hown hG 0 (by decide) rfl u324 dX1_use_44 ?_
          refine ix_if_le (tgt := 52) hx hb (by omega) (by omega) dX1_use_47 (by decide) (fun h47 => absurd h47 (by omega)) (fun h47 => ?_)
          refine ix_iconst hx hb dX1_use_50 ?_
          exact W.iret hx hb hrt (fun t ht hW => ⟨⟨_, (2, f), rfl, Or.inr (Or.inr ⟨⟨by omega, by omega⟩, rfl⟩), ⟨fun g9 => absurd g9 (show ¬ (2 : Int) = 0 by decide), fun _ => by have h9 := hG.2; rw [← ht] at h9; exact h9⟩⟩, hS.F ht⟩) hS.2.2 dX1_use_51
      · skip
        refine ix_iconst hx hb dX1_use_22 ?_
        refine lv_goto (tgt := 40) hx hb dX1_use_23 (by decide) ?_
        refine gm_put0 hx hb hts hown hG hS u324 dX1_use_40 (fun H1 locs1 hG hS => ?_)
        refine lv_aload_n hx hb dX1_use_43 rfl (lv_at hl 0 rfl) ?_
        refine gm_get hx hb hts hown hG 0 (by decide) rfl u324 dX1_use_44 ?_
        refine ix_if_le (tgt := 52) hx hb (by omega) (by omega) dX1_use_47 (by decide) (fun h47 => absurd h47 (by omega)) (fun h47 => ?_)
        refine ix_iconst hx hb dX1_use_50 ?_
        exact W.iret hx hb hrt (fun t ht hW => ⟨⟨_, (1, f), rfl, Or.inr (Or.inl ⟨by omega, rfl⟩), ⟨fun g9 => absurd g9 (show ¬ (1 : Int) = 0 by decide), fun _ => by have h9 := hG.2; rw [← ht] at h9; exact h9⟩⟩, hS.F ht⟩) hS.2.2 dX1_use_51

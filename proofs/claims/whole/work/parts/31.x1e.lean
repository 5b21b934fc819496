/-! The reference's writing methods, by program (wip/gen/mw.py). -/
set_option maxHeartbeats 4000000 in
set_option maxRecDepth 100000 in
theorem m_join (l : Launch) (ω : WM) (th k q : Int) (M : Nat → Nat → Int) (f : Nat → Int) (to op a b : Int) (to1 : -2147483648 ≤ to) (to2 : to < 2147483648) (op1 : -2147483648 ≤ op) (op2 : op < 2147483648) (a1 : -2147483648 ≤ a) (a2 : a < 2147483648) (b1 : -2147483648 ≤ b) (b2 : b < 2147483648) (hq1 : 3329 ≤ q) (hq2 : q ≤ 8380417) (qo : q % 2 = 1) (hM : ∀ r i, r < 12 → i < 16 → 0 ≤ M r i ∧ M r i < q) : Met l yX1_join wsX1_join ({ frames := 2, cells := 0, slots := 0, locals := 47 }) (va_Pc [.ref (mo ω), .int (iI (to)), .int (iI (op)), .int (iI (a)), .int (iI (b))] (fun U => GM ω th k q M f U U.heap)) (va_Qi (fun r_ (w_ : Int × (Nat → Int)) => (((0 ≤ to ∧ to < 12) ∧ (0 ≤ a ∧ a < 12) ∧ (0 ≤ b ∧ b < 12)) ∧ (0 ≤ op ∧ op ≤ 2)) ∧ w_.1 = 0 ∧ r_ = iI (sMax q (fun i => sJoin q op (M a.toNat) (M b.toNat) i) 16) ∨ (¬ ((0 ≤ to ∧ to < 12) ∧ (0 ≤ a ∧ a < 12) ∧ (0 ≤ b ∧ b < 12))) ∧ w_.1 = 1 ∨ (((0 ≤ to ∧ to < 12) ∧ (0 ≤ a ∧ a < 12) ∧ (0 ≤ b ∧ b < 12)) ∧ ¬ (0 ≤ op ∧ op ≤ 2)) ∧ w_.1 = 2) (fun (w_ : Int × (Nat → Int)) t => BM ω k q M k q (mixR M to.toNat (fun i => sJoin q op (M a.toNat) (M b.toNat) i) 16) w_ t) (Am ω)) 0 0 (Am ω) := by
  refine Met.ofW (cc := cX1_join) (maxL := 11) (ret := (some .int)) (by decide +kernel) rfl ?_
  intro p e s m args below meth c s₁ B hml hv
  obtain ⟨rfl, hG⟩ := hv
  have hx := B.exec
  have hb := B.bytes
  have hrt := B.returns
  have hts : ∀ w ∈ wsU, w.before _ s = true := fun w h => atoms_spec (ws := wsX1_join) B.pre w (List.mem_cons_of_mem _ h)
  have hown : s.vm.findClass "NoiseRingModel" = some m.cls := findClass_of_methodNamed B.named
  have hlocks := B.notSynchronized
  have hS : va_S (Am ω) s.heap s.heap [] := va_S.rf
  have hl := lv_entry ([.ref (mo ω), .int (iI (to)), .int (iI (op)), .int (iI (a)), .int (iI (b))]) (n := 11) (Nat.le_of_ble_eq_true rfl)
  rw [lg_entry_eq]
  generalize (lg_sl ([.ref (mo ω), .int (iI (to)), .int (iI (op)), .int (iI (a)), .int (iI (b))]) ++ List.replicate (11 - (lg_sl ([.ref (mo ω), .int (iI (to)), .int (iI (op)), .int (iI (a)), .int (iI (b))])).length) Slot.unset).toArray = ls at hl ⊢
  have hl : lv_has ls 11 [(0, .ref (mo ω)), (1, .int (iI (to))), (2, .int (iI (op))), (3, .int (iI (a))), (4, .int (iI (b)))] := hl
  refine lv_aload_n hx hb dX1_join_0 rfl (lv_at hl 0 rfl) ?_
  refine lv_iload_n hx hb dX1_join_1 rfl (lv_at hl 1 rfl) ?_
  refine vp_callSi (va_Run.run (va_runS (As := [.int (iI (to))]) (rest := [.ref (mo ω)]) ⟨hx, hb, hml, hown, hts⟩ (m_none l (to) (by omega) (by omega)) (va_cwS 1 hts (gU (hd := [.methodLink "NoiseRingModel" 41 yX1_none, .static yX1_none, .initialized "NoiseRingModel"]) (List.forall_mem_cons.mpr ⟨u353, List.forall_mem_cons.mpr ⟨u354, List.forall_mem_cons.mpr ⟨u30, fun _ h => by cases h⟩⟩⟩) u355) rfl rfl rfl (by decide +kernel) ⟨Nat.le_of_ble_eq_true rfl, Nat.le_of_ble_eq_true rfl⟩) gn_S rfl rfl hl.1 rfl (lv_room (Nat.le_of_ble_eq_true rfl)) dX1_join_2 ⟨Nat.le_of_ble_eq_true rfl, Nat.le_of_ble_eq_true rfl⟩)) (fun r2 hr2 => ?_)
  subst hr2
  refine ix_if_ne (tgt := 23) hx hb (by omega) (by omega) dX1_join_5 (by decide) (fun h5 => ?_) (fun h5 => ?_)
  · skip
    refine ix_iconst hx hb dX1_join_23 ?_
    refine lv_goto (tgt := 41) hx hb dX1_join_24 (by decide) ?_
    refine gm_put0 hx hb hts hown hG hS u324 dX1_join_41 (fun H1 locs1 hG hS => ?_)
    refine lv_aload_n hx hb dX1_join_44 rfl (lv_at hl 0 rfl) ?_
    refine gm_get hx hb hts hown hG 0 (by decide) rfl u324 dX1_join_45 ?_
    refine ix_if_le (tgt := 53) hx hb (by omega) (by omega) dX1_join_48 (by decide) (fun h48 => absurd h48 (by omega)) (fun h48 => ?_)
    refine ix_iconst hx hb dX1_join_51 ?_
    exact W.iret hx hb hrt (fun t ht hW => ⟨⟨_, (1, f), rfl, Or.inr (Or.inl ⟨by omega, rfl⟩), ⟨fun g9 => absurd g9 (show ¬ (1 : Int) = 0 by decide), fun _ => by have h9 := hG.2; rw [← ht] at h9; exact h9⟩⟩, hS.F ht⟩) hS.2.2 dX1_join_52
  · skip
    refine lv_iload_n hx hb dX1_join_8 rfl (lv_at hl 3 rfl) ?_
    refine vp_callSi (va_Run.run (va_runS (As := [.int (iI (a))]) (rest := [.ref (mo ω)]) ⟨hx, hb, hml, hown, hts⟩ (m_none l (a) (by omega) (by omega)) (va_cwS 1 hts (gU (hd := [.methodLink "NoiseRingModel" 41 yX1_none, .static yX1_none, .initialized "NoiseRingModel"]) (List.forall_mem_cons.mpr ⟨u353, List.forall_mem_cons.mpr ⟨u354, List.forall_mem_cons.mpr ⟨u30, fun _ h => by cases h⟩⟩⟩) u355) rfl rfl rfl (by decide +kernel) ⟨Nat.le_of_ble_eq_true rfl, Nat.le_of_ble_eq_true rfl⟩) gn_S rfl rfl hl.1 rfl (lv_room (Nat.le_of_ble_eq_true rfl)) dX1_join_9 ⟨Nat.le_of_ble_eq_true rfl, Nat.le_of_ble_eq_true rfl⟩)) (fun r9 hr9 => ?_)
    subst hr9
    refine ix_if_ne (tgt := 23) hx hb (by omega) (by omega) dX1_join_12 (by decide) (fun h12 => ?_) (fun h12 => ?_)
    · skip
      refine ix_iconst hx hb dX1_join_23 ?_
      refine lv_goto (tgt := 41) hx hb dX1_join_24 (by decide) ?_
      refine gm_put0 hx hb hts hown hG hS u324 dX1_join_41 (fun H1 locs1 hG hS => ?_)
      refine lv_aload_n hx hb dX1_join_44 rfl (lv_at hl 0 rfl) ?_
      refine gm_get hx hb hts hown hG 0 (by decide) rfl u324 dX1_join_45 ?_
      refine ix_if_le (tgt := 53) hx hb (by omega) (by omega) dX1_join_48 (by decide) (fun h48 => absurd h48 (by omega)) (fun h48 => ?_)
      refine ix_iconst hx hb dX1_join_51 ?_
      exact W.iret hx hb hrt (fun t ht hW => ⟨⟨_, (1, f), rfl, Or.inr (Or.inl ⟨by omega, rfl⟩), ⟨fun g9 => absurd g9 (show ¬ (1 : Int) = 0 by decide), fun _ => by have h9 := hG.2; rw [← ht] at h9; exact h9⟩⟩, hS.F ht⟩) hS.2.2 dX1_join_52
    · skip
      refine lv_iload hx hb dX1_join_15 (lv_at hl 4 rfl) ?_
      refine vp_callSi (va_Run.run (va_runS (As := [.int (iI (b))]) (rest := [.ref (mo ω)]) ⟨hx, hb, hml, hown, hts⟩ (m_none l (b) (by omega) (by omega)) (va_cwS 1 hts (gU (hd := [.methodLink "NoiseRingModel" 41 yX1_none, .static yX1_none, .initialized "NoiseRingModel"]) (List.forall_mem_cons.mpr ⟨u353, List.forall_mem_cons.mpr ⟨u354, List.forall_mem_cons.mpr ⟨u30, fun _ h => by cases h⟩⟩⟩) u355) rfl rfl rfl (by decide +kernel) ⟨Nat.le_of_ble_eq_true rfl, Nat.le_of_ble_eq_true rfl⟩) gn_S rfl rfl hl.1 rfl (lv_room (Nat.le_of_ble_eq_true rfl)) dX1_join_17 ⟨Nat.le_of_ble_eq_true rfl, Nat.le_of_ble_eq_true rfl⟩)) (fun r17 hr17 => ?_)
      subst hr17
      refine ix_if_eq (tgt := 27) hx hb (by omega) (by omega) dX1_join_20 (by decide) (fun h20 => ?_) (fun h20 => ?_)
      · skip
        refine lv_iload_n hx hb dX1_join_27 rfl (lv_at hl 2 rfl) ?_
        refine ix_if_lt (tgt := 36) hx hb (by omega) (by omega) dX1_join_28 (by decide) (fun h28 => ?_) (fun h28 => ?_)
        · skip
          refine ix_iconst hx hb dX1_join_36 ?_
          refine lv_goto (tgt := 41) hx hb dX1_join_37 (by decide) ?_
          refine gm_put0 hx hb hts hown hG hS u324 dX1_join_41 (fun H1 locs1 hG hS => ?_)
          refine lv_aload_n hx hb dX1_join_44 rfl (lv_at hl 0 rfl) ?_
          refine gm_get hx hb hts hown hG 0 (by decide) rfl u324 dX1_join_45 ?_
          refine ix_if_le (tgt := 53) hx hb (by omega) (by omega) dX1_join_48 (by decide) (fun h48 => absurd h48 (by omega)) (fun h48 => ?_)
          refine ix_iconst hx hb dX1_join_51 ?_
          exact W.iret hx hb hrt (fun t ht hW => ⟨⟨_, (2, f), rfl, Or.inr (Or.inr ⟨⟨by omega, by omega⟩, rfl⟩), ⟨fun g9 => absurd g9 (show ¬ (2 : Int) = 0 by decide), fun _ => by have h9 := hG.2; rw [← ht] at h9; exact h9⟩⟩, hS.F ht⟩) hS.2.2 dX1_join_52
        · skip
          refine lv_iload_n hx hb dX1_join_31 rfl (lv_at hl 2 rfl) ?_
          refine ix_iconst hx hb dX1_join_32 ?_
          refine ix_icmp_le (tgt := 40) hx hb (by omega) (by omega) (by omega) (by omega) dX1_join_33 (by decide) (fun h33 => ?_) (fun h33 => ?_)
          · skip
            refine ix_iconst hx hb dX1_join_40 ?_
            refine gm_put0 hx hb hts hown hG hS u324 dX1_join_41 (fun H1 locs1 hG hS => ?_)
            refine lv_aload_n hx hb dX1_join_44 rfl (lv_at hl 0 rfl) ?_
            refine gm_get hx hb hts hown hG 0 (by decide) rfl u324 dX1_join_45 ?_
            refine ix_if_le (tgt := 53) hx hb (by omega) (by omega) dX1_join_48 (by decide) (fun h48 => ?_) (fun h48 => absurd h48 (by omega))
            obtain ⟨to, rfl⟩ := Int.eq_ofNat_of_zero_le (show 0 ≤ to by omega)
            obtain ⟨a, rfl⟩ := Int.eq_ofNat_of_zero_le (show 0 ≤ a by omega)
            obtain ⟨b, rfl⟩ := Int.eq_ofNat_of_zero_le (show 0 ≤ b by omega)
            rcases (show op = 0 ∨ op = 1 ∨ op = 2 by omega) with rfl | rfl | rfl
            · skip
              have hg : ∀ i, i < 16 → 0 ≤ (fun i => sJoin q 0 (M a) (M b) i) i ∧ (fun i => sJoin q 0 (M a) (M b) i) i < q := fun i hi9 => ⟨Int.emod_nonneg _ (by omega), Int.emod_lt_of_pos _ (by omega)⟩
              refine ix_iconst hx hb dX1_join_53 ?_
              refine lv_istore (lv' := [(5, .int (iI (0))), (0, .ref (mo ω)), (1, .int (iI (to))), (2, .int (iI (0))), (3, .int (iI (a))), (4, .int (iI (b)))]) hx hb dX1_join_54 hl (by decide) rfl (fun ls hl => ?_)
              refine ix_loopH (I := fun j ls H locs => lv_has ls 11 [(5, .int (iI ((j : Nat)))), (0, .ref (mo ω)), (1, .int (iI (to))), (2, .int (iI (0))), (3, .int (iI (a))), (4, .int (iI (b)))] ∧ GM ω (0) (k) (q) (M) (mixI f (fun i => sJoin q 0 (M a) (M b) i) (j)) s H ∧ va_S (Am ω) s.heap H locs) 16 0 (by omega) ⟨lv_sub hl [0, 1, 2, 3, 4, 5] rfl, (by rw [mixI_0]; exact hG), hS⟩ (fun ls H locs hI => ?_) (fun j ls H locs hj hI ih56 => ?_)
              · obtain ⟨hl, hG, hS⟩ := hI
                have hl : lv_has ls 11 [(5, .int (iI ((16 : Nat)))), (0, .ref (mo ω)), (1, .int (iI (to))), (2, .int (iI (0))), (3, .int (iI (a))), (4, .int (iI (b)))] := hl
                have hf2 : ∀ i, i < 16 → 0 ≤ mixI f (fun i => sJoin q 0 (M a) (M b) i) (16) i ∧ mixI f (fun i => sJoin q 0 (M a) (M b) i) (16) i < q := fun i hi9 => by rw [mixI_at hi9]; exact hg i hi9
                refine lv_iload hx hb dX1_join_56 (lv_at hl 0 rfl) ?_
                refine ix_bipush hx hb (by decide) dX1_join_58 ?_
                refine ix_icmp_ge (tgt := 204) hx hb (by omega) (by omega) (by omega) (by omega) dX1_join_60 (by decide) (fun h60 => ?_) (fun h60 => absurd h60 (by omega))
                refine lv_aload_n hx hb dX1_join_204 rfl (lv_at hl 1 rfl) ?_
                refine lv_iload_n hx hb dX1_join_205 rfl (lv_at hl 2 rfl) ?_
                refine va_calli (va_runV (As := [.int (iI (to))]) (rest := []) ⟨hx, hb, hml, hown, hts⟩ (m_put l ω (0) (k) (q) (M) (mixI f (fun i => sJoin q 0 (M a) (M b) i) (16)) (to) hq1 hq2 (by omega) hf2) (cwV 1 hts (gU (hd := [.methodLink "NoiseRingModel" 52 yX1_put, .instanceMethod yX1_put, .selects "NoiseRingModel" yX1_put yX1_put, .initialized "NoiseRingModel"]) (List.forall_mem_cons.mpr ⟨u371, List.forall_mem_cons.mpr ⟨u372, List.forall_mem_cons.mpr ⟨u18, List.forall_mem_cons.mpr ⟨u30, fun _ h => by cases h⟩⟩⟩⟩) u373) rfl rfl rfl (by decide +kernel) ⟨Nat.le_of_ble_eq_true rfl, Nat.le_of_ble_eq_true rfl⟩) (gm_V hG) rfl rfl hl.1 rfl (lv_room (Nat.le_of_ble_eq_true rfl)) dX1_join_206 ⟨Nat.le_of_ble_eq_true rfl, Nat.le_of_ble_eq_true rfl⟩) hS (fun q9 _ h => h) (fun q9 h => h) (fun r206 u9 t H1 locs1 ht hvm hr206 hB hz hk hS1 => ?_)
                subst hr206
                clear hS
                have hS := hS1
                rw [ht] at hB
                have hG : GM ω (0) (k) (q) (mixR (M) (to) (mixI f (fun i => sJoin q 0 (M a) (M b) i) (16)) 16) (mixI f (fun i => sJoin q 0 (M a) (M b) i) (16)) s H1 := ⟨hG.1, hB⟩
                rw [mixR_mix] at hG
                refine lv_pop hx hb dX1_join_209 rfl ?_
                refine lv_aload_n hx hb dX1_join_210 rfl (lv_at hl 1 rfl) ?_
                refine lv_aload_n hx hb dX1_join_211 rfl (lv_at hl 1 rfl) ?_
                refine gm_get hx hb hts hown hG 4 (by decide) rfl u328 dX1_join_212 ?_
                refine vp_callSi (va_Run.run (va_runV (As := [.ref (md ω)]) (rest := []) ⟨hx, hb, hml, hown, hts⟩ (m_most l ω (0) (k) (q) (mixR M to (fun i => sJoin q 0 (M a) (M b) i) 16) (mixI f (fun i => sJoin q 0 (M a) (M b) i) (16)) hq1 hq2 qo hf2) (cwV 1 hts (gU (hd := [.methodLink "NoiseRingModel" 55 yX1_most, .instanceMethod yX1_most, .selects "NoiseRingModel" yX1_most yX1_most, .initialized "NoiseRingModel"]) (List.forall_mem_cons.mpr ⟨u374, List.forall_mem_cons.mpr ⟨u375, List.forall_mem_cons.mpr ⟨u19, List.forall_mem_cons.mpr ⟨u30, fun _ h => by cases h⟩⟩⟩⟩) u376) rfl rfl rfl (by decide +kernel) ⟨Nat.le_of_ble_eq_true rfl, Nat.le_of_ble_eq_true rfl⟩) (gm_V hG) rfl rfl hl.1 rfl (lv_room (Nat.le_of_ble_eq_true rfl)) dX1_join_215 ⟨Nat.le_of_ble_eq_true rfl, Nat.le_of_ble_eq_true rfl⟩)) (fun r215 hr215 => ?_)
                subst hr215
                exact W.iret hx hb hrt (fun t ht hW => ⟨⟨_, (0, mixI f (fun i => sJoin q 0 (M a) (M b) i) (16)), rfl, Or.inl ⟨⟨by omega, by omega⟩, rfl, congrArg iI (sMax_eq (fun i hi9 => mixI_at hi9))⟩, ⟨fun _ => by have h9 := hG.2; rw [← ht] at h9; exact h9, fun g9 => absurd rfl g9⟩⟩, hS.F ht⟩) hS.2.2 dX1_join_218
              · obtain ⟨hl, hG, hS⟩ := hI
                have hl : lv_has ls 11 [(5, .int (iI ((j : Nat)))), (0, .ref (mo ω)), (1, .int (iI (to))), (2, .int (iI (0))), (3, .int (iI (a))), (4, .int (iI (b)))] := hl
                have hm := hM a j (by omega) hj
                have hmb := hM b j (by omega) hj
                refine lv_iload hx hb dX1_join_56 (lv_at hl 0 rfl) ?_
                refine ix_bipush hx hb (by decide) dX1_join_58 ?_
                refine ix_icmp_ge (tgt := 204) hx hb (by omega) (by omega) (by omega) (by omega) dX1_join_60 (by decide) (fun h60 => absurd h60 (by omega)) (fun h60 => ?_)
                refine lv_iload_n hx hb dX1_join_63 rfl (lv_at hl 3 rfl) ?_
                refine ix_if_ne (tgt := 87) hx hb (by omega) (by omega) dX1_join_64 (by decide) (fun h64 => absurd h64 (by omega)) (fun h64 => ?_)
                refine lv_aload_n hx hb dX1_join_67 rfl (lv_at hl 1 rfl) ?_
                refine lv_iload_n hx hb dX1_join_68 rfl (lv_at hl 4 rfl) ?_
                refine lv_iload hx hb dX1_join_69 (lv_at hl 0 rfl) ?_
                refine vp_callSi (va_Run.run (va_runV (As := [.int (iI (a)), .int (iI ((j : Nat)))]) (rest := []) ⟨hx, hb, hml, hown, hts⟩ (m_at l ω (0) (k) (q) (M) (mixI f (fun i => sJoin q 0 (M a) (M b) i) (j)) (a) (j) (by omega) (by omega)) (cwV 2 hts (gU (hd := [.methodLink "NoiseRingModel" 45 yX1_at, .instanceMethod yX1_at, .selects "NoiseRingModel" yX1_at yX1_at, .initialized "NoiseRingModel"]) (List.forall_mem_cons.mpr ⟨u356, List.forall_mem_cons.mpr ⟨u357, List.forall_mem_cons.mpr ⟨u16, List.forall_mem_cons.mpr ⟨u30, fun _ h => by cases h⟩⟩⟩⟩) u358) rfl rfl rfl (by decide +kernel) ⟨Nat.le_of_ble_eq_true rfl, Nat.le_of_ble_eq_true rfl⟩) (gm_V hG) rfl rfl hl.1 rfl (lv_room (Nat.le_of_ble_eq_true rfl)) dX1_join_71 ⟨Nat.le_of_ble_eq_true rfl, Nat.le_of_ble_eq_true rfl⟩)) (fun r71 hr71 => ?_)
                subst hr71
                refine lv_aload_n hx hb dX1_join_74 rfl (lv_at hl 1 rfl) ?_
                refine lv_iload hx hb dX1_join_75 (lv_at hl 5 rfl) ?_
                refine lv_iload hx hb dX1_join_77 (lv_at hl 0 rfl) ?_
                refine vp_callSi (va_Run.run (va_runV (As := [.int (iI (b)), .int (iI ((j : Nat)))]) (rest := [.int (iI (M (a) (j)))]) ⟨hx, hb, hml, hown, hts⟩ (m_at l ω (0) (k) (q) (M) (mixI f (fun i => sJoin q 0 (M a) (M b) i) (j)) (b) (j) (by omega) (by omega)) (cwV 2 hts (gU (hd := [.methodLink "NoiseRingModel" 45 yX1_at, .instanceMethod yX1_at, .selects "NoiseRingModel" yX1_at yX1_at, .initialized "NoiseRingModel"]) (List.forall_mem_cons.mpr ⟨u356, List.forall_mem_cons.mpr ⟨u357, List.forall_mem_cons.mpr ⟨u16, List.forall_mem_cons.mpr ⟨u30, fun _ h => by cases h⟩⟩⟩⟩) u358) rfl rfl rfl (by decide +kernel) ⟨Nat.le_of_ble_eq_true rfl, Nat.le_of_ble_eq_true rfl⟩) (gm_V hG) rfl rfl hl.1 rfl (lv_room (Nat.le_of_ble_eq_true rfl)) dX1_join_79 ⟨Nat.le_of_ble_eq_true rfl, Nat.le_of_ble_eq_true rfl⟩)) (fun r79 hr79 => ?_)
                subst hr79
                refine ix_iadd hx hb dX1_join_82 ?_
                refine ix_i2l hx hb (by omega) (by omega) dX1_join_83 ?_
                refine lv_goto (tgt := 113) hx hb dX1_join_84 (by decide) ?_
                refine lv_lstore (lv' := [(6, .long (lI ((M (a) (j) + M (b) (j))))), (5, .int (iI ((j : Nat)))), (0, .ref (mo ω)), (1, .int (iI (to))), (2, .int (iI (0))), (3, .int (iI (a))), (4, .int (iI (b)))]) hx hb dX1_join_113 hl (by decide) rfl (fun ls hl => ?_)
                refine ix_iconst hx hb dX1_join_115 ?_
                refine lv_istore (lv' := [(8, .int (iI (0))), (6, .long (lI ((M (a) (j) + M (b) (j))))), (5, .int (iI ((j : Nat)))), (0, .ref (mo ω)), (1, .int (iI (to))), (2, .int (iI (0))), (3, .int (iI (a))), (4, .int (iI (b)))]) hx hb dX1_join_116 hl (by decide) rfl (fun ls hl => ?_)
                refine lv_iload hx hb dX1_join_118 (lv_at hl 0 rfl) ?_
                refine ix_bipush hx hb (by decide) dX1_join_120 ?_
                refine ix_icmp_ge (tgt := 185) hx hb (by omega) (by omega) (by omega) (by omega) dX1_join_122 (by decide) (fun h122 => absurd h122 (by omega)) (fun h122 => ?_)
                refine lv_iload_n hx hb dX1_join_125 rfl (lv_at hl 5 rfl) ?_
                refine ix_iconst hx hb dX1_join_126 ?_
                refine ix_icmp_ne (tgt := 185) hx hb (by omega) (by omega) (by omega) (by omega) dX1_join_127 (by decide) (fun h127 => ?_) (fun h127 => absurd h127 (by omega))
                refine lv_aload_n hx hb dX1_join_185 rfl (lv_at hl 3 rfl) ?_
                refine gm_get hx hb hts hown hG 4 (by decide) rfl u328 dX1_join_186 ?_
                refine lv_iload hx hb dX1_join_189 (lv_at hl 2 rfl) ?_
                refine lv_aload_n hx hb dX1_join_191 rfl (lv_at hl 3 rfl) ?_
                refine lv_lload hx hb dX1_join_192 (lv_at hl 1 rfl) ?_
                refine vp_callSi (va_Run.run (va_runV (As := [.long (lI ((M (a) (j) + M (b) (j))))]) (rest := [.int (iI ((j : Nat))), .ref (md ω)]) ⟨hx, hb, hml, hown, hts⟩ (m_of l ω (0) (k) (q) (M) (mixI f (fun i => sJoin q 0 (M a) (M b) i) (j)) ((M (a) (j) + M (b) (j))) hq1 hq2 (by omega) (by omega)) (cwV 1 hts (gU (hd := [.methodLink "NoiseRingModel" 48 yX1_of, .instanceMethod yX1_of, .selects "NoiseRingModel" yX1_of yX1_of, .initialized "NoiseRingModel"]) (List.forall_mem_cons.mpr ⟨u359, List.forall_mem_cons.mpr ⟨u360, List.forall_mem_cons.mpr ⟨u17, List.forall_mem_cons.mpr ⟨u30, fun _ h => by cases h⟩⟩⟩⟩) u361) rfl rfl rfl (by decide +kernel) ⟨Nat.le_of_ble_eq_true rfl, Nat.le_of_ble_eq_true rfl⟩) (gm_V hG) rfl rfl hl.1 rfl (lv_room (Nat.le_of_ble_eq_true rfl)) dX1_join_194 ⟨Nat.le_of_ble_eq_true rfl, Nat.le_of_ble_eq_true rfl⟩)) (fun r194 hr194 => ?_)
                subst hr194
                refine wx_i (congrArg iI (show ((M (a) (j) + M (b) (j))) % q = (fun i => sJoin q 0 (M a) (M b) i) j from ?_)) ?_
                · rfl
                refine gm_mst (i := j) hx hb hG hS (by omega) dX1_join_197 (fun H1 locs1 hG hS => ?_)
                refine lv_iinc (k := 2) (v := iI ((j : Nat) + 1)) (lv' := [(5, .int (iI ((j : Nat) + 1))), (8, .int (iI (0))), (6, .long (lI ((M (a) (j) + M (b) (j))))), (0, .ref (mo ω)), (1, .int (iI (to))), (2, .int (iI (0))), (3, .int (iI (a))), (4, .int (iI (b)))]) hx hb dX1_join_198 hl rfl (iI_add _ _) (by decide) rfl (fun ls hl => ?_)
                refine lv_goto (tgt := 56) hx hb dX1_join_201 (by decide) ?_
                exact ih56 ls _ _ ⟨lv_sub hl [0, 3, 4, 5, 6, 7] rfl, (by rw [← mixI_s]; exact hG), hS⟩
            · skip
              have hg : ∀ i, i < 16 → 0 ≤ (fun i => sJoin q 1 (M a) (M b) i) i ∧ (fun i => sJoin q 1 (M a) (M b) i) i < q := fun i hi9 => ⟨Int.emod_nonneg _ (by omega), Int.emod_lt_of_pos _ (by omega)⟩
              refine ix_iconst hx hb dX1_join_53 ?_
              refine lv_istore (lv' := [(5, .int (iI (0))), (0, .ref (mo ω)), (1, .int (iI (to))), (2, .int (iI (1))), (3, .int (iI (a))), (4, .int (iI (b)))]) hx hb dX1_join_54 hl (by decide) rfl (fun ls hl => ?_)
              refine ix_loopH (I := fun j ls H locs => lv_has ls 11 [(5, .int (iI ((j : Nat)))), (0, .ref (mo ω)), (1, .int (iI (to))), (2, .int (iI (1))), (3, .int (iI (a))), (4, .int (iI (b)))] ∧ GM ω (0) (k) (q) (M) (mixI f (fun i => sJoin q 1 (M a) (M b) i) (j)) s H ∧ va_S (Am ω) s.heap H locs) 16 0 (by omega) ⟨lv_sub hl [0, 1, 2, 3, 4, 5] rfl, (by rw [mixI_0]; exact hG), hS⟩ (fun ls H locs hI => ?_) (fun j ls H locs hj hI ih56 => ?_)
              · obtain ⟨hl, hG, hS⟩ := hI
                have hl : lv_has ls 11 [(5, .int (iI ((16 : Nat)))), (0, .ref (mo ω)), (1, .int (iI (to))), (2, .int (iI (1))), (3, .int (iI (a))), (4, .int (iI (b)))] := hl
                have hf2 : ∀ i, i < 16 → 0 ≤ mixI f (fun i => sJoin q 1 (M a) (M b) i) (16) i ∧ mixI f (fun i => sJoin q 1 (M a) (M b) i) (16) i < q := fun i hi9 => by rw [mixI_at hi9]; exact hg i hi9
                refine lv_iload hx hb dX1_join_56 (lv_at hl 0 rfl) ?_
                refine ix_bipush hx hb (by decide) dX1_join_58 ?_
                refine ix_icmp_ge (tgt := 204) hx hb (by omega) (by omega) (by omega) (by omega) dX1_join_60 (by decide) (fun h60 => ?_) (fun h60 => absurd h60 (by omega))
                refine lv_aload_n hx hb dX1_join_204 rfl (lv_at hl 1 rfl) ?_
                refine lv_iload_n hx hb dX1_join_205 rfl (lv_at hl 2 rfl) ?_
                refine va_calli (va_runV (As := [.int (iI (to))]) (rest := []) ⟨hx, hb, hml, hown, hts⟩ (m_put l ω (0) (k) (q) (M) (mixI f (fun i => sJoin q 1 (M a) (M b) i) (16)) (to) hq1 hq2 (by omega) hf2) (cwV 1 hts (gU (hd := [.methodLink "NoiseRingModel" 52 yX1_put, .instanceMethod yX1_put, .selects "NoiseRingModel" yX1_put yX1_put, .initialized "NoiseRingModel"]) (List.forall_mem_cons.mpr ⟨u371, List.forall_mem_cons.mpr ⟨u372, List.forall_mem_cons.mpr ⟨u18, List.forall_mem_cons.mpr ⟨u30, fun _ h => by cases h⟩⟩⟩⟩) u373) rfl rfl rfl (by decide +kernel) ⟨Nat.le_of_ble_eq_true rfl, Nat.le_of_ble_eq_true rfl⟩) (gm_V hG) rfl rfl hl.1 rfl (lv_room (Nat.le_of_ble_eq_true rfl)) dX1_join_206 ⟨Nat.le_of_ble_eq_true rfl, Nat.le_of_ble_eq_true rfl⟩) hS (fun q9 _ h => h) (fun q9 h => h) (fun r206 u9 t H1 locs1 ht hvm hr206 hB hz hk hS1 => ?_)
                subst hr206
                clear hS
                have hS := hS1
                rw [ht] at hB
                have hG : GM ω (0) (k) (q) (mixR (M) (to) (mixI f (fun i => sJoin q 1 (M a) (M b) i) (16)) 16) (mixI f (fun i => sJoin q 1 (M a) (M b) i) (16)) s H1 := ⟨hG.1, hB⟩
                rw [mixR_mix] at hG
                refine lv_pop hx hb dX1_join_209 rfl ?_
                refine lv_aload_n hx hb dX1_join_210 rfl (lv_at hl 1 rfl) ?_
                refine lv_aload_n hx hb dX1_join_211 rfl (lv_at hl 1 rfl) ?_
                refine gm_get hx hb hts hown hG 4 (by decide) rfl u328 dX1_join_212 ?_
                refine vp_callSi (va_Run.run (va_runV (As := [.ref (md ω)]) (rest := []) ⟨hx, hb, hml, hown, hts⟩ (m_most l ω (0) (k) (q) (mixR M to (fun i => sJoin q 1 (M a) (M b) i) 16) (mixI f (fun i => sJoin q 1 (M a) (M b) i) (16)) hq1 hq2 qo hf2) (cwV 1 hts (gU (hd := [.methodLink "NoiseRingModel" 55 yX1_most, .instanceMethod yX1_most, .selects "NoiseRingModel" yX1_most yX1_most, .initialized "NoiseRingModel"]) (List.forall_mem_cons.mpr ⟨u374, List.forall_mem_cons.mpr ⟨u375, List.forall_mem_cons.mpr ⟨u19, List.forall_mem_cons.mpr ⟨u30, fun _ h => by cases h⟩⟩⟩⟩) u376) rfl rfl rfl (by decide +kernel) ⟨Nat.le_of_ble_eq_true rfl, Nat.le_of_ble_eq_true rfl⟩) (gm_V hG) rfl rfl hl.1 rfl (lv_room (Nat.le_of_ble_eq_true rfl)) dX1_join_215 ⟨Nat.le_of_ble_eq_true rfl, Nat.le_of_ble_eq_true rfl⟩)) (fun r215 hr215 => ?_)
                subst hr215
                exact W.iret hx hb hrt (fun t ht hW => ⟨⟨_, (0, mixI f (fun i => sJoin q 1 (M a) (M b) i) (16)), rfl, Or.inl ⟨⟨by omega, by omega⟩, rfl, congrArg iI (sMax_eq (fun i hi9 => mixI_at hi9))⟩, ⟨fun _ => by have h9 := hG.2; rw [← ht] at h9; exact h9, fun g9 => absurd rfl g9⟩⟩, hS.F ht⟩) hS.2.2 dX1_join_218
              · obtain ⟨hl, hG, hS⟩ := hI
                have hl : lv_has ls 11 [(5, .int (iI ((j : Nat)))), (0, .ref (mo ω)), (1, .int (iI (to))), (2, .int (iI (1))), (3, .int (iI (a))), (4, .int (iI (b)))] := hl
                have hm := hM a j (by omega) hj
                have hmb := hM b j (by omega) hj
                refine lv_iload hx hb dX1_join_56 (lv_at hl 0 rfl) ?_
                refine ix_bipush hx hb (by decide) dX1_join_58 ?_
                refine ix_icmp_ge (tgt := 204) hx hb (by omega) (by omega) (by omega) (by omega) dX1_join_60 (by decide) (fun h60 => absurd h60 (by omega)) (fun h60 => ?_)
                refine lv_iload_n hx hb dX1_join_63 rfl (lv_at hl 3 rfl) ?_
                refine ix_if_ne (tgt := 87) hx hb (by omega) (by omega) dX1_join_64 (by decide) (fun h64 => ?_) (fun h64 => absurd h64 (by omega))
                refine lv_iload_n hx hb dX1_join_87 rfl (lv_at hl 3 rfl) ?_
                refine ix_iconst hx hb dX1_join_88 ?_
                refine ix_icmp_ne (tgt := 112) hx hb (by omega) (by omega) (by omega) (by omega) dX1_join_89 (by decide) (fun h89 => absurd h89 (by omega)) (fun h89 => ?_)
                refine lv_aload_n hx hb dX1_join_92 rfl (lv_at hl 1 rfl) ?_
                refine lv_iload_n hx hb dX1_join_93 rfl (lv_at hl 4 rfl) ?_
                refine lv_iload hx hb dX1_join_94 (lv_at hl 0 rfl) ?_
                refine vp_callSi (va_Run.run (va_runV (As := [.int (iI (a)), .int (iI ((j : Nat)))]) (rest := []) ⟨hx, hb, hml, hown, hts⟩ (m_at l ω (0) (k) (q) (M) (mixI f (fun i => sJoin q 1 (M a) (M b) i) (j)) (a) (j) (by omega) (by omega)) (cwV 2 hts (gU (hd := [.methodLink "NoiseRingModel" 45 yX1_at, .instanceMethod yX1_at, .selects "NoiseRingModel" yX1_at yX1_at, .initialized "NoiseRingModel"]) (List.forall_mem_cons.mpr ⟨u356, List.forall_mem_cons.mpr ⟨u357, List.forall_mem_cons.mpr ⟨u16, List.forall_mem_cons.mpr ⟨u30, fun _ h => by cases h⟩⟩⟩⟩) u358) rfl rfl rfl (by decide +kernel) ⟨Nat.le_of_ble_eq_true rfl, Nat.le_of_ble_eq_true rfl⟩) (gm_V hG) rfl rfl hl.1 rfl (lv_room (Nat.le_of_ble_eq_true rfl)) dX1_join_96 ⟨Nat.le_of_ble_eq_true rfl, Nat.le_of_ble_eq_true rfl⟩)) (fun r96 hr96 => ?_)
                subst hr96
                refine lv_aload_n hx hb dX1_join_99 rfl (lv_at hl 1 rfl) ?_
                refine lv_iload hx hb dX1_join_100 (lv_at hl 5 rfl) ?_
                refine lv_iload hx hb dX1_join_102 (lv_at hl 0 rfl) ?_
                refine vp_callSi (va_Run.run (va_runV (As := [.int (iI (b)), .int (iI ((j : Nat)))]) (rest := [.int (iI (M (a) (j)))]) ⟨hx, hb, hml, hown, hts⟩ (m_at l ω (0) (k) (q) (M) (mixI f (fun i => sJoin q 1 (M a) (M b) i) (j)) (b) (j) (by omega) (by omega)) (cwV 2 hts (gU (hd := [.methodLink "NoiseRingModel" 45 yX1_at, .instanceMethod yX1_at, .selects "NoiseRingModel" yX1_at yX1_at, .initialized "NoiseRingModel"]) (List.forall_mem_cons.mpr ⟨u356, List.forall_mem_cons.mpr ⟨u357, List.forall_mem_cons.mpr ⟨u16, List.forall_mem_cons.mpr ⟨u30, fun _ h => by cases h⟩⟩⟩⟩) u358) rfl rfl rfl (by decide +kernel) ⟨Nat.le_of_ble_eq_true rfl, Nat.le_of_ble_eq_true rfl⟩) (gm_V hG) rfl rfl hl.1 rfl (lv_room (Nat.le_of_ble_eq_true rfl)) dX1_join_104 ⟨Nat.le_of_ble_eq_true rfl, Nat.le_of_ble_eq_true rfl⟩)) (fun r104 hr104 => ?_)
                subst hr104
                refine ix_isub hx hb dX1_join_107 ?_
                refine ix_i2l hx hb (by omega) (by omega) dX1_join_108 ?_
                refine lv_goto (tgt := 113) hx hb dX1_join_109 (by decide) ?_
                refine lv_lstore (lv' := [(6, .long (lI ((M (a) (j) - M (b) (j))))), (5, .int (iI ((j : Nat)))), (0, .ref (mo ω)), (1, .int (iI (to))), (2, .int (iI (1))), (3, .int (iI (a))), (4, .int (iI (b)))]) hx hb dX1_join_113 hl (by decide) rfl (fun ls hl => ?_)
                refine ix_iconst hx hb dX1_join_115 ?_
                refine lv_istore (lv' := [(8, .int (iI (0))), (6, .long (lI ((M (a) (j) - M (b) (j))))), (5, .int (iI ((j : Nat)))), (0, .ref (mo ω)), (1, .int (iI (to))), (2, .int (iI (1))), (3, .int (iI (a))), (4, .int (iI (b)))]) hx hb dX1_join_116 hl (by decide) rfl (fun ls hl => ?_)
                refine lv_iload hx hb dX1_join_118 (lv_at hl 0 rfl) ?_
                refine ix_bipush hx hb (by decide) dX1_join_120 ?_
                refine ix_icmp_ge (tgt := 185) hx hb (by omega) (by omega) (by omega) (by omega) dX1_join_122 (by decide) (fun h122 => absurd h122 (by omega)) (fun h122 => ?_)
                refine lv_iload_n hx hb dX1_join_125 rfl (lv_at hl 5 rfl) ?_
                refine ix_iconst hx hb dX1_join_126 ?_
                refine ix_icmp_ne (tgt := 185) hx hb (by omega) (by omega) (by omega) (by omega) dX1_join_127 (by decide) (fun h127 => ?_) (fun h127 => absurd h127 (by omega))
                refine lv_aload_n hx hb dX1_join_185 rfl (lv_at hl 3 rfl) ?_
                refine gm_get hx hb hts hown hG 4 (by decide) rfl u328 dX1_join_186 ?_
                refine lv_iload hx hb dX1_join_189 (lv_at hl 2 rfl) ?_
                refine lv_aload_n hx hb dX1_join_191 rfl (lv_at hl 3 rfl) ?_
                refine lv_lload hx hb dX1_join_192 (lv_at hl 1 rfl) ?_
                refine vp_callSi (va_Run.run (va_runV (As := [.long (lI ((M (a) (j) - M (b) (j))))]) (rest := [.int (iI ((j : Nat))), .ref (md ω)]) ⟨hx, hb, hml, hown, hts⟩ (m_of l ω (0) (k) (q) (M) (mixI f (fun i => sJoin q 1 (M a) (M b) i) (j)) ((M (a) (j) - M (b) (j))) hq1 hq2 (by omega) (by omega)) (cwV 1 hts (gU (hd := [.methodLink "NoiseRingModel" 48 yX1_of, .instanceMethod yX1_of, .selects "NoiseRingModel" yX1_of yX1_of, .initialized "NoiseRingModel"]) (List.forall_mem_cons.mpr ⟨u359, List.forall_mem_cons.mpr ⟨u360, List.forall_mem_cons.mpr ⟨u17, List.forall_mem_cons.mpr ⟨u30, fun _ h => by cases h⟩⟩⟩⟩) u361) rfl rfl rfl (by decide +kernel) ⟨Nat.le_of_ble_eq_true rfl, Nat.le_of_ble_eq_true rfl⟩) (gm_V hG) rfl rfl hl.1 rfl (lv_room (Nat.le_of_ble_eq_true rfl)) dX1_join_194 ⟨Nat.le_of_ble_eq_true rfl, Nat.le_of_ble_eq_true rfl⟩)) (fun r194 hr194 => ?_)
                subst hr194
                refine wx_i (congrArg iI (show ((M (a) (j) - M (b) (j))) % q = (fun i => sJoin q 1 (M a) (M b) i) j from ?_)) ?_
                · rfl
                refine gm_mst (i := j) hx hb hG hS (by omega) dX1_join_197 (fun H1 locs1 hG hS => ?_)
                refine lv_iinc (k := 2) (v := iI ((j : Nat) + 1)) (lv' := [(5, .int (iI ((j : Nat) + 1))), (8, .int (iI (0))), (6, .long (lI ((M (a) (j) - M (b) (j))))), (0, .ref (mo ω)), (1, .int (iI (to))), (2, .int (iI (1))), (3, .int (iI (a))), (4, .int (iI (b)))]) hx hb dX1_join_198 hl rfl (iI_add _ _) (by decide) rfl (fun ls hl => ?_)
                refine lv_goto (tgt := 56) hx hb dX1_join_201 (by decide) ?_
                exact ih56 ls _ _ ⟨lv_sub hl [0, 3, 4, 5, 6, 7] rfl, (by rw [← mixI_s]; exact hG), hS⟩
            · skip
              have hg : ∀ i, i < 16 → 0 ≤ (fun i => sJoin q 2 (M a) (M b) i) i ∧ (fun i => sJoin q 2 (M a) (M b) i) i < q := fun i hi9 => ⟨Int.emod_nonneg _ (by omega), Int.emod_lt_of_pos _ (by omega)⟩
              refine ix_iconst hx hb dX1_join_53 ?_
              refine lv_istore (lv' := [(5, .int (iI (0))), (0, .ref (mo ω)), (1, .int (iI (to))), (2, .int (iI (2))), (3, .int (iI (a))), (4, .int (iI (b)))]) hx hb dX1_join_54 hl (by decide) rfl (fun ls hl => ?_)
              refine ix_loopH (I := fun j ls H locs => lv_has ls 11 [(5, .int (iI ((j : Nat)))), (0, .ref (mo ω)), (1, .int (iI (to))), (2, .int (iI (2))), (3, .int (iI (a))), (4, .int (iI (b)))] ∧ GM ω (0) (k) (q) (M) (mixI f (fun i => sJoin q 2 (M a) (M b) i) (j)) s H ∧ va_S (Am ω) s.heap H locs) 16 0 (by omega) ⟨lv_sub hl [0, 1, 2, 3, 4, 5] rfl, (by rw [mixI_0]; exact hG), hS⟩ (fun ls H locs hI => ?_) (fun j ls H locs hj hI ih56 => ?_)
              · obtain ⟨hl, hG, hS⟩ := hI
                have hl : lv_has ls 11 [(5, .int (iI ((16 : Nat)))), (0, .ref (mo ω)), (1, .int (iI (to))), (2, .int (iI (2))), (3, .int (iI (a))), (4, .int (iI (b)))] := hl
                have hf2 : ∀ i, i < 16 → 0 ≤ mixI f (fun i => sJoin q 2 (M a) (M b) i) (16) i ∧ mixI f (fun i => sJoin q 2 (M a) (M b) i) (16) i < q := fun i hi9 => by rw [mixI_at hi9]; exact hg i hi9
                refine lv_iload hx hb dX1_join_56 (lv_at hl 0 rfl) ?_
                refine ix_bipush hx hb (by decide) dX1_join_58 ?_
                refine ix_icmp_ge (tgt := 204) hx hb (by omega) (by omega) (by omega) (by omega) dX1_join_60 (by decide) (fun h60 => ?_) (fun h60 => absurd h60 (by omega))
                refine lv_aload_n hx hb dX1_join_204 rfl (lv_at hl 1 rfl) ?_
                refine lv_iload_n hx hb dX1_join_205 rfl (lv_at hl 2 rfl) ?_
                refine va_calli (va_runV (As := [.int (iI (to))]) (rest := []) ⟨hx, hb, hml, hown, hts⟩ (m_put l ω (0) (k) (q) (M) (mixI f (fun i => sJoin q 2 (M a) (M b) i) (16)) (to) hq1 hq2 (by omega) hf2) (cwV 1 hts (gU (hd := [.methodLink "NoiseRingModel" 52 yX1_put, .instanceMethod yX1_put, .selects "NoiseRingModel" yX1_put yX1_put, .initialized "NoiseRingModel"]) (List.forall_mem_cons.mpr ⟨u371, List.forall_mem_cons.mpr ⟨u372, List.forall_mem_cons.mpr ⟨u18, List.forall_mem_cons.mpr ⟨u30, fun _ h => by cases h⟩⟩⟩⟩) u373) rfl rfl rfl (by decide +kernel) ⟨Nat.le_of_ble_eq_true rfl, Nat.le_of_ble_eq_true rfl⟩) (gm_V hG) rfl rfl hl.1 rfl (lv_room (Nat.le_of_ble_eq_true rfl)) dX1_join_206 ⟨Nat.le_of_ble_eq_true rfl, Nat.le_of_ble_eq_true rfl⟩) hS (fun q9 _ h => h) (fun q9 h => h) (fun r206 u9 t H1 locs1 ht hvm hr206 hB hz hk hS1 => ?_)
                subst hr206
                clear hS
                have hS := hS1
                rw [ht] at hB
                have hG : GM ω (0) (k) (q) (mixR (M) (to) (mixI f (fun i => sJoin q 2 (M a) (M b) i) (16)) 16) (mixI f (fun i => sJoin q 2 (M a) (M b) i) (16)) s H1 := ⟨hG.1, hB⟩
                rw [mixR_mix] at hG
                refine lv_pop hx hb dX1_join_209 rfl ?_
                refine lv_aload_n hx hb dX1_join_210 rfl (lv_at hl 1 rfl) ?_
                refine lv_aload_n hx hb dX1_join_211 rfl (lv_at hl 1 rfl) ?_
                refine gm_get hx hb hts hown hG 4 (by decide) rfl u328 dX1_join_212 ?_
                refine vp_callSi (va_Run.run (va_runV (As := [.ref (md ω)]) (rest := []) ⟨hx, hb, hml, hown, hts⟩ (m_most l ω (0) (k) (q) (mixR M to (fun i => sJoin q 2 (M a) (M b) i) 16) (mixI f (fun i => sJoin q 2 (M a) (M b) i) (16)) hq1 hq2 qo hf2) (cwV 1 hts (gU (hd := [.methodLink "NoiseRingModel" 55 yX1_most, .instanceMethod yX1_most, .selects "NoiseRingModel" yX1_most yX1_most, .initialized "NoiseRingModel"]) (List.forall_mem_cons.mpr ⟨u374, List.forall_mem_cons.mpr ⟨u375, List.forall_mem_cons.mpr ⟨u19, List.forall_mem_cons.mpr ⟨u30, fun _ h => by cases h⟩⟩⟩⟩) u376) rfl rfl rfl (by decide +kernel) ⟨Nat.le_of_ble_eq_true rfl, Nat.le_of_ble_eq_true rfl⟩) (gm_V hG) rfl rfl hl.1 rfl (lv_room (Nat.le_of_ble_eq_true rfl)) dX1_join_215 ⟨Nat.le_of_ble_eq_true rfl, Nat.le_of_ble_eq_true rfl⟩)) (fun r215 hr215 => ?_)
                subst hr215
                exact W.iret hx hb hrt (fun t ht hW => ⟨⟨_, (0, mixI f (fun i => sJoin q 2 (M a) (M b) i) (16)), rfl, Or.inl ⟨⟨by omega, by omega⟩, rfl, congrArg iI (sMax_eq (fun i hi9 => mixI_at hi9))⟩, ⟨fun _ => by have h9 := hG.2; rw [← ht] at h9; exact h9, fun g9 => absurd rfl g9⟩⟩, hS.F ht⟩) hS.2.2 dX1_join_218
              · obtain ⟨hl, hG, hS⟩ := hI
                have hl : lv_has ls 11 [(5, .int (iI ((j : Nat)))), (0, .ref (mo ω)), (1, .int (iI (to))), (2, .int (iI (2))), (3, .int (iI (a))), (4, .int (iI (b)))] := hl
                have hm := hM a j (by omega) hj
                have hmb := hM b j (by omega) hj
                refine lv_iload hx hb dX1_join_56 (lv_at hl 0 rfl) ?_
                refine ix_bipush hx hb (by decide) dX1_join_58 ?_
                refine ix_icmp_ge (tgt := 204) hx hb (by omega) (by omega) (by omega) (by omega) dX1_join_60 (by decide) (fun h60 => absurd h60 (by omega)) (fun h60 => ?_)
                refine lv_iload_n hx hb dX1_join_63 rfl (lv_at hl 3 rfl) ?_
                refine ix_if_ne (tgt := 87) hx hb (by omega) (by omega) dX1_join_64 (by decide) (fun h64 => ?_) (fun h64 => absurd h64 (by omega))
                refine lv_iload_n hx hb dX1_join_87 rfl (lv_at hl 3 rfl) ?_
                refine ix_iconst hx hb dX1_join_88 ?_
                refine ix_icmp_ne (tgt := 112) hx hb (by omega) (by omega) (by omega) (by omega) dX1_join_89 (by decide) (fun h89 => ?_) (fun h89 => absurd h89 (by omega))
                refine ix_lconst0 hx hb dX1_join_112 ?_
                refine lv_lstore (lv' := [(6, .long (lI (sProd (M a) (M b) j (0)))), (5, .int (iI ((j : Nat)))), (0, .ref (mo ω)), (1, .int (iI (to))), (2, .int (iI (2))), (3, .int (iI (a))), (4, .int (iI (b)))]) hx hb dX1_join_113 hl (by decide) rfl (fun ls hl => ?_)
                refine ix_iconst hx hb dX1_join_115 ?_
                refine lv_istore (lv' := [(8, .int (iI (0))), (6, .long (lI (sProd (M a) (M b) j (0)))), (5, .int (iI ((j : Nat)))), (0, .ref (mo ω)), (1, .int (iI (to))), (2, .int (iI (2))), (3, .int (iI (a))), (4, .int (iI (b)))]) hx hb dX1_join_116 hl (by decide) rfl (fun ls hl => ?_)
                refine ix_loop (I := fun t ls => lv_has ls 11 [(8, .int (iI ((t : Nat)))), (6, .long (lI (sProd (M a) (M b) j (t)))), (5, .int (iI ((j : Nat)))), (0, .ref (mo ω)), (1, .int (iI (to))), (2, .int (iI (2))), (3, .int (iI (a))), (4, .int (iI (b)))]) (16) 0 (by omega) (lv_sub hl [0, 1, 2, 3, 4, 5, 6, 7] rfl) (fun ls hl => ?_) (fun t ls ht hl ih118 => ?_)
                · skip
                  have hl : lv_has ls 11 [(8, .int (iI ((16 : Nat)))), (6, .long (lI (sProd (M a) (M b) j (16)))), (5, .int (iI ((j : Nat)))), (0, .ref (mo ω)), (1, .int (iI (to))), (2, .int (iI (2))), (3, .int (iI (a))), (4, .int (iI (b)))] := hl
                  refine lv_iload hx hb dX1_join_118 (lv_at hl 0 rfl) ?_
                  refine ix_bipush hx hb (by decide) dX1_join_120 ?_
                  refine ix_icmp_ge (tgt := 185) hx hb (by omega) (by omega) (by omega) (by omega) dX1_join_122 (by decide) (fun h122 => ?_) (fun h122 => absurd h122 (by omega))
                  have hsp := sProd_in (q := q) (a := M a) (b := M b) (k := j) hq2 (fun i hi => hM a i (by omega) hi) (fun i hi => hM b i (by omega) hi) hj 16 (by omega)
                  refine lv_aload_n hx hb dX1_join_185 rfl (lv_at hl 3 rfl) ?_
                  refine gm_get hx hb hts hown hG 4 (by decide) rfl u328 dX1_join_186 ?_
                  refine lv_iload hx hb dX1_join_189 (lv_at hl 2 rfl) ?_
                  refine lv_aload_n hx hb dX1_join_191 rfl (lv_at hl 3 rfl) ?_
                  refine lv_lload hx hb dX1_join_192 (lv_at hl 1 rfl) ?_
                  refine vp_callSi (va_Run.run (va_runV (As := [.long (lI (sProd (M a) (M b) j (16)))]) (rest := [.int (iI ((j : Nat))), .ref (md ω)]) ⟨hx, hb, hml, hown, hts⟩ (m_of l ω (0) (k) (q) (M) (mixI f (fun i => sJoin q 2 (M a) (M b) i) (j)) (sProd (M a) (M b) j (16)) hq1 hq2 (by omega) (by omega)) (cwV 1 hts (gU (hd := [.methodLink "NoiseRingModel" 48 yX1_of, .instanceMethod yX1_of, .selects "NoiseRingModel" yX1_of yX1_of, .initialized "NoiseRingModel"]) (List.forall_mem_cons.mpr ⟨u359, List.forall_mem_cons.mpr ⟨u360, List.forall_mem_cons.mpr ⟨u17, List.forall_mem_cons.mpr ⟨u30, fun _ h => by cases h⟩⟩⟩⟩) u361) rfl rfl rfl (by decide +kernel) ⟨Nat.le_of_ble_eq_true rfl, Nat.le_of_ble_eq_true rfl⟩) (gm_V hG) rfl rfl hl.1 rfl (lv_room (Nat.le_of_ble_eq_true rfl)) dX1_join_194 ⟨Nat.le_of_ble_eq_true rfl, Nat.le_of_ble_eq_true rfl⟩)) (fun r194 hr194 => ?_)
                  subst hr194
                  refine wx_i (congrArg iI (show (sProd (M a) (M b) j (16)) % q = (fun i => sJoin q 2 (M a) (M b) i) j from ?_)) ?_
                  · rfl
                  refine gm_mst (i := j) hx hb hG hS (by omega) dX1_join_197 (fun H1 locs1 hG hS => ?_)
                  refine lv_iinc (k := 2) (v := iI ((j : Nat) + 1)) (lv' := [(5, .int (iI ((j : Nat) + 1))), (8, .int (iI ((16 : Nat)))), (6, .long (lI (sProd (M a) (M b) j (16)))), (0, .ref (mo ω)), (1, .int (iI (to))), (2, .int (iI (2))), (3, .int (iI (a))), (4, .int (iI (b)))]) hx hb dX1_join_198 hl rfl (iI_add _ _) (by decide) rfl (fun ls hl => ?_)
                  refine lv_goto (tgt := 56) hx hb dX1_join_201 (by decide) ?_
                  exact ih56 ls _ _ ⟨lv_sub hl [0, 3, 4, 5, 6, 7] rfl, (by rw [← mixI_s]; exact hG), hS⟩
                · skip
                  have hl : lv_has ls 11 [(8, .int (iI ((t : Nat)))), (6, .long (lI (sProd (M a) (M b) j (t)))), (5, .int (iI ((j : Nat)))), (0, .ref (mo ω)), (1, .int (iI (to))), (2, .int (iI (2))), (3, .int (iI (a))), (4, .int (iI (b)))] := hl
                  refine lv_iload hx hb dX1_join_118 (lv_at hl 0 rfl) ?_
                  refine ix_bipush hx hb (by decide) dX1_join_120 ?_
                  refine ix_icmp_ge (tgt := 185) hx hb (by omega) (by omega) (by omega) (by omega) dX1_join_122 (by decide) (fun h122 => absurd h122 (by omega)) (fun h122 => ?_)
                  refine lv_iload_n hx hb dX1_join_125 rfl (lv_at hl 5 rfl) ?_
                  refine ix_iconst hx hb dX1_join_126 ?_
                  refine ix_icmp_ne (tgt := 185) hx hb (by omega) (by omega) (by omega) (by omega) dX1_join_127 (by decide) (fun h127 => absurd h127 (by omega)) (fun h127 => ?_)
                  have hmt := hM a t (by omega) ht
                  have hmu := hM b ((16 + j - t) % 16) (by omega) (by omega)
                  refine lv_aload_n hx hb dX1_join_130 rfl (lv_at hl 3 rfl) ?_
                  refine lv_iload_n hx hb dX1_join_131 rfl (lv_at hl 6 rfl) ?_
                  refine lv_iload hx hb dX1_join_132 (lv_at hl 0 rfl) ?_
                  refine vp_callSi (va_Run.run (va_runV (As := [.int (iI (a)), .int (iI ((t : Nat)))]) (rest := []) ⟨hx, hb, hml, hown, hts⟩ (m_at l ω (0) (k) (q) (M) (mixI f (fun i => sJoin q 2 (M a) (M b) i) (j)) (a) (t) (by omega) (by omega)) (cwV 2 hts (gU (hd := [.methodLink "NoiseRingModel" 45 yX1_at, .instanceMethod yX1_at, .selects "NoiseRingModel" yX1_at yX1_at, .initialized "NoiseRingModel"]) (List.forall_mem_cons.mpr ⟨u356, List.forall_mem_cons.mpr ⟨u357, List.forall_mem_cons.mpr ⟨u16, List.forall_mem_cons.mpr ⟨u30, fun _ h => by cases h⟩⟩⟩⟩) u358) rfl rfl rfl (by decide +kernel) ⟨Nat.le_of_ble_eq_true rfl, Nat.le_of_ble_eq_true rfl⟩) (gm_V hG) rfl rfl hl.1 rfl (lv_room (Nat.le_of_ble_eq_true rfl)) dX1_join_134 ⟨Nat.le_of_ble_eq_true rfl, Nat.le_of_ble_eq_true rfl⟩)) (fun r134 hr134 => ?_)
                  subst hr134
                  refine ix_i2l hx hb (by omega) (by omega) dX1_join_137 ?_
                  refine lv_aload_n hx hb dX1_join_138 rfl (lv_at hl 3 rfl) ?_
                  refine lv_iload hx hb dX1_join_139 (lv_at hl 7 rfl) ?_
                  refine lv_iload hx hb dX1_join_141 (lv_at hl 2 rfl) ?_
                  refine lv_iload hx hb dX1_join_143 (lv_at hl 0 rfl) ?_
                  refine ix_isub hx hb dX1_join_145 ?_
                  refine ix_bipush hx hb (by decide) dX1_join_146 ?_
                  refine ix_iadd hx hb dX1_join_148 ?_
                  refine ix_bipush hx hb (by decide) dX1_join_149 ?_
                  refine ix_irem hx hb (by omega) (by omega) (by omega) (by omega) dX1_join_151 ?_
                  refine wx_i (congrArg iI (show ((((j : Nat) : Int) - ((t : Nat) : Int)) + 16) % 16 = (((16 + j - t) % 16 : Nat) : Int) by omega)) ?_
                  refine vp_callSi (va_Run.run (va_runV (As := [.int (iI (b)), .int (iI (((16 + j - t) % 16 : Nat)))]) (rest := [.long (lI (M (a) (t)))]) ⟨hx, hb, hml, hown, hts⟩ (m_at l ω (0) (k) (q) (M) (mixI f (fun i => sJoin q 2 (M a) (M b) i) (j)) (b) ((16 + j - t) % 16) (by omega) (by omega)) (cwV 2 hts (gU (hd := [.methodLink "NoiseRingModel" 45 yX1_at, .instanceMethod yX1_at, .selects "NoiseRingModel" yX1_at yX1_at, .initialized "NoiseRingModel"]) (List.forall_mem_cons.mpr ⟨u356, List.forall_mem_cons.mpr ⟨u357, List.forall_mem_cons.mpr ⟨u16, List.forall_mem_cons.mpr ⟨u30, fun _ h => by cases h⟩⟩⟩⟩) u358) rfl rfl rfl (by decide +kernel) ⟨Nat.le_of_ble_eq_true rfl, Nat.le_of_ble_eq_true rfl⟩) (gm_V hG) rfl rfl hl.1 rfl (lv_room (Nat.le_of_ble_eq_true rfl)) dX1_join_152 ⟨Nat.le_of_ble_eq_true rfl, Nat.le_of_ble_eq_true rfl⟩)) (fun r152 hr152 => ?_)
                  subst hr152
                  refine ix_i2l hx hb (by omega) (by omega) dX1_join_155 ?_
                  refine ix_lmul hx hb dX1_join_156 ?_
                  refine lv_lstore (lv' := [(9, .long (lI ((M (a) (t) * M (b) ((16 + j - t) % 16))))), (8, .int (iI ((t : Nat)))), (6, .long (lI (sProd (M a) (M b) j (t)))), (5, .int (iI ((j : Nat)))), (0, .ref (mo ω)), (1, .int (iI (to))), (2, .int (iI (2))), (3, .int (iI (a))), (4, .int (iI (b)))]) hx hb dX1_join_157 hl (by decide) rfl (fun ls hl => ?_)
                  refine lv_lload hx hb dX1_join_159 (lv_at hl 2 rfl) ?_
                  refine lv_iload hx hb dX1_join_161 (lv_at hl 1 rfl) ?_
                  refine lv_iload hx hb dX1_join_163 (lv_at hl 3 rfl) ?_
                  refine ix_icmp_le (tgt := 174) hx hb (by omega) (by omega) (by omega) (by omega) dX1_join_165 (by decide) (fun h165 => ?_) (fun h165 => ?_)
                  · skip
                    refine lv_lload hx hb dX1_join_174 (lv_at hl 0 rfl) ?_
                    refine ix_ladd hx hb dX1_join_176 ?_
                    refine wx_l (congrArg lI (show (sProd (M a) (M b) j (t) + (M (a) (t) * M (b) ((16 + j - t) % 16))) = sProd (M a) (M b) j (t + 1) from ?_)) ?_
                    · rw [sProd]
                      first | rw [if_pos (show t ≤ j by omega), show (16 + j - t) % 16 = j - t by omega] | rw [if_neg (show ¬ t ≤ j by omega), show (16 + j - t) % 16 = 16 + j - t by omega]
                    refine lv_lstore (lv' := [(6, .long (lI (sProd (M a) (M b) j (t + 1)))), (9, .long (lI ((M (a) (t) * M (b) ((16 + j - t) % 16))))), (8, .int (iI ((t : Nat)))), (5, .int (iI ((j : Nat)))), (0, .ref (mo ω)), (1, .int (iI (to))), (2, .int (iI (2))), (3, .int (iI (a))), (4, .int (iI (b)))]) hx hb dX1_join_177 hl (by decide) rfl (fun ls hl => ?_)
                    refine lv_iinc (k := 2) (v := iI ((t : Nat) + 1)) (lv' := [(8, .int (iI ((t : Nat) + 1))), (6, .long (lI (sProd (M a) (M b) j (t + 1)))), (9, .long (lI ((M (a) (t) * M (b) ((16 + j - t) % 16))))), (5, .int (iI ((j : Nat)))), (0, .ref (mo ω)), (1, .int (iI (to))), (2, .int (iI (2))), (3, .int (iI (a))), (4, .int (iI (b)))]) hx hb dX1_join_179 hl rfl (iI_add _ _) (by decide) rfl (fun ls hl => ?_)
                    refine lv_goto (tgt := 118) hx hb dX1_join_182 (by decide) ?_
                    exact ih118 ls (lv_sub hl [0, 1, 3, 4, 5, 6, 7, 8] rfl)
                  · skip
                    refine lv_lload hx hb dX1_join_168 (lv_at hl 0 rfl) ?_
                    refine ix_lneg hx hb dX1_join_170 ?_
                    refine lv_goto (tgt := 176) hx hb dX1_join_171 (by decide) ?_
                    refine ix_ladd hx hb dX1_join_176 ?_
                    refine wx_l (congrArg lI (show (sProd (M a) (M b) j (t) + (-((M (a) (t) * M (b) ((16 + j - t) % 16))))) = sProd (M a) (M b) j (t + 1) from ?_)) ?_
                    · rw [sProd]
                      first | rw [if_pos (show t ≤ j by omega), show (16 + j - t) % 16 = j - t by omega] | rw [if_neg (show ¬ t ≤ j by omega), show (16 + j - t) % 16 = 16 + j - t by omega]
                    refine lv_lstore (lv' := [(6, .long (lI (sProd (M a) (M b) j (t + 1)))), (9, .long (lI ((M (a) (t) * M (b) ((16 + j - t) % 16))))), (8, .int (iI ((t : Nat)))), (5, .int (iI ((j : Nat)))), (0, .ref (mo ω)), (1, .int (iI (to))), (2, .int (iI (2))), (3, .int (iI (a))), (4, .int (iI (b)))]) hx hb dX1_join_177 hl (by decide) rfl (fun ls hl => ?_)
                    refine lv_iinc (k := 2) (v := iI ((t : Nat) + 1)) (lv' := [(8, .int (iI ((t : Nat) + 1))), (6, .long (lI (sProd (M a) (M b) j (t + 1)))), (9, .long (lI ((M (a) (t) * M (b) ((16 + j - t) % 16))))), (5, .int (iI ((j : Nat)))), (0, .ref (mo ω)), (1, .int (iI (to))), (2, .int (iI (2))), (3, .int (iI (a))), (4, .int (iI (b)))]) hx hb dX1_join_179 hl rfl (iI_add _ _) (by decide) rfl (fun ls hl => ?_)
                    refine lv_goto (tgt := 118) hx hb dX1_join_182 (by decide) ?_
                    exact ih118 ls (lv_sub hl [0, 1, 3, 4, 5, 6, 7, 8] rfl)
          · skip
            refine ix_iconst hx hb dX1_join_36 ?_
            refine lv_goto (tgt := 41) hx hb dX1_join_37 (by decide) ?_
            refine gm_put0 hx hb hts hown hG hS u324 dX1_join_41 (fun H1 locs1 hG hS => ?_)
            refine lv_aload_n hx hb dX1_join_44 rfl (lv_at hl 0 rfl) ?_
            refine gm_get hx hb hts hown hG 0 (by decide) rfl u324 dX1_join_45 ?_
            refine ix_if_le (tgt := 53) hx hb (by omega) (by omega) dX1_join_48 (by decide) (fun h48 => absurd h48 (by omega)) (fun h48 => ?_)
            refine ix_iconst hx hb dX1_join_51 ?_
            exact W.iret hx hb hrt (fun t ht hW => ⟨⟨_, (2, f), rfl, Or.inr (Or.inr ⟨⟨by omega, by omega⟩, rfl⟩), ⟨fun g9 => absurd g9 (show ¬ (2 : Int) = 0 by decide), fun _ => by have h9 := hG.2; rw [← ht] at h9; exact h9⟩⟩, hS.F ht⟩) hS.2.2 dX1_join_52
      · skip
        refine ix_iconst hx hb dX1_join_23 ?_
        refine lv_goto (tgt := 41) hx hb dX1_join_24 (by decide) ?_
        refine gm_put0 hx hb hts hown hG hS u324 dX1_join_41 (fun H1 locs1 hG hS => ?_)
        refine lv_aload_n hx hb dX1_join_44 rfl (lv_at hl 0 rfl) ?_
        refine gm_get hx hb hts hown hG 0 (by decide) rfl u324 dX1_join_45 ?_
        refine ix_if_le (tgt := 53) hx hb (by omega) (by omega) dX1_join_48 (by decide) (fun h48 => absurd h48 (by omega)) (fun h48 => ?_)
        refine ix_iconst hx hb dX1_join_51 ?_
        exact W.iret hx hb hrt (fun t ht hW => ⟨⟨_, (1, f), rfl, Or.inr (Or.inl ⟨by omega, rfl⟩), ⟨fun g9 => absurd g9 (show ¬ (1 : Int) = 0 by decide), fun _ => by have h9 := hG.2; rw [← ht] at h9; exact h9⟩⟩, hS.F ht⟩) hS.2.2 dX1_join_52
set_option maxHeartbeats 4000000 in
set_option maxRecDepth 100000 in
theorem m_unit (l : Launch) (ω : WM) (th k q : Int) (M : Nat → Nat → Int) (f : Nat → Int) (a : Int) (a1 : -2147483648 ≤ a) (a2 : a < 2147483648) (hq1 : 3329 ≤ q) (hq2 : q ≤ 8380417) (hM : ∀ r i, r < 12 → i < 16 → 0 ≤ M r i ∧ M r i < q) (k1 : 0 ≤ k) (k2 : k ≤ 1) (qk : q = kQ k) : Met l yX1_unit wsX1_unit ({ frames := 3, cells := 0, slots := 0, locals := 73 }) (va_Pc [.ref (mo ω), .int (iI (a))] (fun U => GM ω th k q M f U U.heap)) (va_Qi (fun r_ (w_ : Int × (Nat → Int)) => (0 ≤ a ∧ a < 12) ∧ w_.1 = 0 ∧ r_ = iI (sUi k (M a.toNat)) ∨ (¬ (0 ≤ a ∧ a < 12)) ∧ w_.1 = 1) (fun (w_ : Int × (Nat → Int)) t => BM ω k q M k q M w_ t) (Am ω)) 0 0 (Am ω) := by
  refine Met.ofW (cc := cX1_unit) (maxL := 7) (ret := (some .boolean)) (by decide +kernel) rfl ?_
  intro p e s m args below meth c s₁ B hml hv
  obtain ⟨rfl, hG⟩ := hv
  have hx := B.exec
  have hb := B.bytes
  have hrt := B.returns
  have hts : ∀ w ∈ wsU, w.before _ s = true := fun w h => atoms_spec (ws := wsX1_unit) B.pre w (List.mem_cons_of_mem _ h)
  have hown : s.vm.findClass "NoiseRingModel" = some m.cls := findClass_of_methodNamed B.named
  have hlocks := B.notSynchronized
  have hS : va_S (Am ω) s.heap s.heap [] := va_S.rf
  have hl := lv_entry ([.ref (mo ω), .int (iI (a))]) (n := 7) (Nat.le_of_ble_eq_true rfl)
  rw [lg_entry_eq]
  generalize (lg_sl ([.ref (mo ω), .int (iI (a))]) ++ List.replicate (7 - (lg_sl ([.ref (mo ω), .int (iI (a))])).length) Slot.unset).toArray = ls at hl ⊢
  have hl : lv_has ls 7 [(0, .ref (mo ω)), (1, .int (iI (a)))] := hl
  refine lv_aload_n hx hb dX1_unit_0 rfl (lv_at hl 0 rfl) ?_
  refine lv_iload_n hx hb dX1_unit_1 rfl (lv_at hl 1 rfl) ?_
  refine vp_callSi (va_Run.run (va_runS (As := [.int (iI (a))]) (rest := [.ref (mo ω)]) ⟨hx, hb, hml, hown, hts⟩ (m_none l (a) (by omega) (by omega)) (va_cwS 1 hts (gU (hd := [.methodLink "NoiseRingModel" 41 yX1_none, .static yX1_none, .initialized "NoiseRingModel"]) (List.forall_mem_cons.mpr ⟨u353, List.forall_mem_cons.mpr ⟨u354, List.forall_mem_cons.mpr ⟨u30, fun _ h => by cases h⟩⟩⟩) u355) rfl rfl rfl (by decide +kernel) ⟨Nat.le_of_ble_eq_true rfl, Nat.le_of_ble_eq_true rfl⟩) gn_S rfl rfl hl.1 rfl (lv_room (Nat.le_of_ble_eq_true rfl)) dX1_unit_2 ⟨Nat.le_of_ble_eq_true rfl, Nat.le_of_ble_eq_true rfl⟩)) (fun r2 hr2 => ?_)
  subst hr2
  refine ix_if_eq (tgt := 12) hx hb (by omega) (by omega) dX1_unit_5 (by decide) (fun h5 => ?_) (fun h5 => ?_)
  · skip
    refine ix_iconst hx hb dX1_unit_12 ?_
    refine gm_put0 hx hb hts hown hG hS u324 dX1_unit_13 (fun H1 locs1 hG hS => ?_)
    refine lv_aload_n hx hb dX1_unit_16 rfl (lv_at hl 0 rfl) ?_
    refine gm_get hx hb hts hown hG 0 (by decide) rfl u324 dX1_unit_17 ?_
    refine ix_if_le (tgt := 25) hx hb (by omega) (by omega) dX1_unit_20 (by decide) (fun h20 => ?_) (fun h20 => absurd h20 (by omega))
    obtain ⟨a, rfl⟩ := Int.eq_ofNat_of_zero_le (show 0 ≤ a by omega)
    rcases (show k = 0 ∨ k = 1 by omega) with rfl | rfl
    · skip
      have qv : q = 3329 := qk
      refine ix_iconst hx hb dX1_unit_25 ?_
      refine lv_istore_n (lv' := [(2, .int (iI (0))), (0, .ref (mo ω)), (1, .int (iI (a)))]) hx hb dX1_unit_26 rfl hl (by decide) rfl (fun ls hl => ?_)
      refine ix_loop (I := fun j ls => lv_has ls 7 [(2, .int (iI ((j : Nat)))), (0, .ref (mo ω)), (1, .int (iI (a)))] ∧ (∀ t, 2 * t < j → ¬ sTst (M a) t % 3329 = 0)) 16 0 (by omega) ⟨lv_sub hl [0, 1, 2] rfl, fun t9 h9 => absurd h9 (by omega)⟩ (fun ls hI => ?_) (fun j ls hj hI ih => ?_)
      · obtain ⟨hl, hU⟩ := hI
        have hl : lv_has ls 7 [(2, .int (iI ((16 : Nat)))), (0, .ref (mo ω)), (1, .int (iI (a)))] := hl
        refine lv_iload_n hx hb dX1_unit_27 rfl (lv_at hl 0 rfl) ?_
        refine ix_bipush hx hb (by decide) dX1_unit_28 ?_
        refine ix_icmp_ge (tgt := 124) hx hb (by omega) (by omega) (by omega) (by omega) dX1_unit_30 (by decide) (fun h30 => ?_) (fun h30 => absurd h30 (by omega))
        refine ix_iconst hx hb dX1_unit_124 ?_
        exact W.zret (ty := .boolean) hx hb hrt (by decide) (fun t ht hW => ⟨⟨_, (0, f), rfl, Or.inl ⟨by omega, rfl, congrArg iI ((sUi_t ((un_all (M a)).mpr (fun t9 h9 => hU t9 (by omega)))).symm)⟩, ⟨fun _ => by have h9 := hG.2; rw [← ht] at h9; exact h9, fun g9 => absurd rfl g9⟩⟩, hS.F ht⟩) hS.2.2 dX1_unit_125
      · obtain ⟨hl, hU⟩ := hI
        have hl : lv_has ls 7 [(2, .int (iI ((j : Nat)))), (0, .ref (mo ω)), (1, .int (iI (a)))] := hl
        have hv1 : 0 ≤ sVal 0 (M a) (j) ∧ sVal 0 (M a) (j) < q := by
          rw [qk]
          exact ⟨Int.emod_nonneg _ (by decide), Int.emod_lt_of_pos _ (by decide)⟩
        have hv2 : 0 ≤ sVal 0 (M a) (j + 1) ∧ sVal 0 (M a) (j + 1) < q := by
          rw [qk]
          exact ⟨Int.emod_nonneg _ (by decide), Int.emod_lt_of_pos _ (by decide)⟩
        have hzk : 0 ≤ kZ 0 ∧ kZ 0 < q := by
          rw [qk]
          exact kZ_in 0
        have hpw := sPow_in (q := q) (b := kZ 0) (by omega) (j + 1)
        have hb1 : 0 ≤ sVal 0 (M a) (j) * sVal 0 (M a) (j) := Int.mul_nonneg hv1.1 hv1.1
        have hb2 : sVal 0 (M a) (j) * sVal 0 (M a) (j) ≤ 8380417 * 8380417 := Int.mul_le_mul (by omega) (by omega) hv1.1 (by decide)
        have hb3 : 0 ≤ sVal 0 (M a) (j + 1) * sVal 0 (M a) (j + 1) := Int.mul_nonneg hv2.1 hv2.1
        have hb4 : sVal 0 (M a) (j + 1) * sVal 0 (M a) (j + 1) ≤ 8380417 * 8380417 := Int.mul_le_mul (by omega) (by omega) hv2.1 (by decide)
        have hb5 := Int.emod_nonneg (sVal 0 (M a) (j + 1) * sVal 0 (M a) (j + 1)) (show q ≠ 0 by omega)
        have hb6 := Int.emod_lt_of_pos (sVal 0 (M a) (j + 1) * sVal 0 (M a) (j + 1)) (show 0 < q by omega)
        have hb7 : 0 ≤ sVal 0 (M a) (j + 1) * sVal 0 (M a) (j + 1) % q * sPow q (kZ 0) (j + 1) := Int.mul_nonneg hb5 hpw.1
        have hb8 : sVal 0 (M a) (j + 1) * sVal 0 (M a) (j + 1) % q * sPow q (kZ 0) (j + 1) ≤ 8380417 * 8380417 := Int.mul_le_mul (by omega) (by omega) hpw.1 (by decide)
        refine lv_iload_n hx hb dX1_unit_27 rfl (lv_at hl 0 rfl) ?_
        refine ix_bipush hx hb (by decide) dX1_unit_28 ?_
        refine ix_icmp_ge (tgt := 124) hx hb (by omega) (by omega) (by omega) (by omega) dX1_unit_30 (by decide) (fun h30 => absurd h30 (by omega)) (fun h30 => ?_)
        refine lv_aload_n hx hb dX1_unit_33 rfl (lv_at hl 1 rfl) ?_
        refine gm_get hx hb hts hown hG 1 (by decide) rfl u325 dX1_unit_34 ?_
        refine ix_iconst hx hb dX1_unit_37 ?_
        refine ix_icmp_ne (tgt := 52) hx hb (by omega) (by omega) (by omega) (by omega) dX1_unit_38 (by decide) (fun h38 => ?_) (fun h38 => absurd h38 (by omega))
        refine lv_iload_n hx hb dX1_unit_52 rfl (lv_at hl 0 rfl) ?_
        refine ix_iconst hx hb dX1_unit_53 ?_
        refine ix_irem hx hb (by omega) (by omega) (by omega) (by omega) dX1_unit_54 ?_
        refine ix_if_ne (tgt := 118) hx hb (by omega) (by omega) dX1_unit_55 (by decide) (fun h55 => ?_) (fun h55 => ?_)
        · have hnew : ∀ t, 2 * t < j + 1 → ¬ sTst (M a) t % 3329 = 0 := fun t9 h9 => hU t9 (by omega)
          refine lv_iinc (k := 0) (v := iI ((j : Nat) + 1)) (lv' := [(2, .int (iI ((j : Nat) + 1))), (0, .ref (mo ω)), (1, .int (iI (a)))]) hx hb dX1_unit_118 hl rfl (iI_add _ _) (by decide) rfl (fun ls hl => ?_)
          refine lv_goto (tgt := 27) hx hb dX1_unit_121 (by decide) ?_
          exact ih ls ⟨lv_sub hl [0, 1, 2] rfl, hnew⟩
        · obtain ⟨u9, rfl⟩ : ∃ u9, j = 2 * u9 := ⟨j / 2, by omega⟩
          refine lv_aload_n hx hb dX1_unit_58 rfl (lv_at hl 1 rfl) ?_
          refine lv_iload_n hx hb dX1_unit_59 rfl (lv_at hl 2 rfl) ?_
          refine lv_iload_n hx hb dX1_unit_60 rfl (lv_at hl 0 rfl) ?_
          refine vp_callSi (va_Run.run (va_runV (As := [.int (iI (a)), .int (iI ((2 * u9 : Nat)))]) (rest := []) ⟨hx, hb, hml, hown, hts⟩ (m_valueOf l ω (0) (0) (q) (M) (f) (a) (2 * u9) (by omega) (by omega) hq1 hq2 hM (by omega) (by omega) qk) (cwV 2 hts (gU (hd := [.methodLink "NoiseRingModel" 90 yX1_valueOf, .instanceMethod yX1_valueOf, .selects "NoiseRingModel" yX1_valueOf yX1_valueOf, .initialized "NoiseRingModel"]) (List.forall_mem_cons.mpr ⟨u430, List.forall_mem_cons.mpr ⟨u431, List.forall_mem_cons.mpr ⟨u24, List.forall_mem_cons.mpr ⟨u30, fun _ h => by cases h⟩⟩⟩⟩) u432) rfl rfl rfl (by decide +kernel) ⟨Nat.le_of_ble_eq_true rfl, Nat.le_of_ble_eq_true rfl⟩) (gm_V hG) rfl rfl hl.1 rfl (lv_room (Nat.le_of_ble_eq_true rfl)) dX1_unit_61 ⟨Nat.le_of_ble_eq_true rfl, Nat.le_of_ble_eq_true rfl⟩)) (fun r61 hr61 => ?_)
          subst hr61
          refine ix_i2l hx hb (by omega) (by omega) dX1_unit_64 ?_
          refine lv_lstore_n (lv' := [(3, .long (lI ((sVal 0 (M (a)) (2 * u9))))), (2, .int (iI ((2 * u9 : Nat)))), (0, .ref (mo ω)), (1, .int (iI (a)))]) hx hb dX1_unit_65 rfl hl (by decide) rfl (fun ls hl => ?_)
          refine lv_aload_n hx hb dX1_unit_66 rfl (lv_at hl 2 rfl) ?_
          refine lv_iload_n hx hb dX1_unit_67 rfl (lv_at hl 3 rfl) ?_
          refine lv_iload_n hx hb dX1_unit_68 rfl (lv_at hl 1 rfl) ?_
          refine ix_iconst hx hb dX1_unit_69 ?_
          refine ix_iadd hx hb dX1_unit_70 ?_
          refine wx_i (congrArg iI (show ((2 * u9 : Nat) : Int) + 1 = ((2 * u9 + 1 : Nat) : Int) by omega)) ?_
          refine vp_callSi (va_Run.run (va_runV (As := [.int (iI (a)), .int (iI ((2 * u9 + 1 : Nat)))]) (rest := []) ⟨hx, hb, hml, hown, hts⟩ (m_valueOf l ω (0) (0) (q) (M) (f) (a) (2 * u9 + 1) (by omega) (by omega) hq1 hq2 hM (by omega) (by omega) qk) (cwV 2 hts (gU (hd := [.methodLink "NoiseRingModel" 90 yX1_valueOf, .instanceMethod yX1_valueOf, .selects "NoiseRingModel" yX1_valueOf yX1_valueOf, .initialized "NoiseRingModel"]) (List.forall_mem_cons.mpr ⟨u430, List.forall_mem_cons.mpr ⟨u431, List.forall_mem_cons.mpr ⟨u24, List.forall_mem_cons.mpr ⟨u30, fun _ h => by cases h⟩⟩⟩⟩) u432) rfl rfl rfl (by decide +kernel) ⟨Nat.le_of_ble_eq_true rfl, Nat.le_of_ble_eq_true rfl⟩) (gm_V hG) rfl rfl hl.1 rfl (lv_room (Nat.le_of_ble_eq_true rfl)) dX1_unit_71 ⟨Nat.le_of_ble_eq_true rfl, Nat.le_of_ble_eq_true rfl⟩)) (fun r71 hr71 => ?_)
          subst hr71
          refine ix_i2l hx hb (by omega) (by omega) dX1_unit_74 ?_
          refine lv_lstore (lv' := [(5, .long (lI ((sVal 0 (M (a)) (2 * u9 + 1))))), (3, .long (lI ((sVal 0 (M (a)) (2 * u9))))), (2, .int (iI ((2 * u9 : Nat)))), (0, .ref (mo ω)), (1, .int (iI (a)))]) hx hb dX1_unit_75 hl (by decide) rfl (fun ls hl => ?_)
          refine lv_lload_n hx hb dX1_unit_77 rfl (lv_at hl 1 rfl) ?_
          refine lv_lload_n hx hb dX1_unit_78 rfl (lv_at hl 1 rfl) ?_
          refine ix_lmul hx hb dX1_unit_79 ?_
          refine lv_lload hx hb dX1_unit_80 (lv_at hl 0 rfl) ?_
          refine lv_lload hx hb dX1_unit_82 (lv_at hl 0 rfl) ?_
          refine ix_lmul hx hb dX1_unit_84 ?_
          refine lv_aload_n hx hb dX1_unit_85 rfl (lv_at hl 3 rfl) ?_
          refine gm_get hx hb hts hown hG 2 (by decide) rfl u326 dX1_unit_86 ?_
          refine ix_i2l hx hb (by omega) (by omega) dX1_unit_89 ?_
          refine ix_lrem hx hb (by omega) (by omega) (by omega) (by omega) dX1_unit_90 ?_
          refine lv_aload_n hx hb dX1_unit_91 rfl (lv_at hl 3 rfl) ?_
          refine lv_aload_n hx hb dX1_unit_92 rfl (lv_at hl 3 rfl) ?_
          refine vp_callSi (va_Run.run (va_runV (As := []) (rest := [.ref (mo ω), .long (lI ((((sVal 0 (M (a)) (2 * u9 + 1)) * (sVal 0 (M (a)) (2 * u9 + 1))) % q))), .long (lI (((sVal 0 (M (a)) (2 * u9)) * (sVal 0 (M (a)) (2 * u9)))))]) ⟨hx, hb, hml, hown, hts⟩ (m_root l ω (0) (0) (q) (M) (f) hq1 hq2 (by omega) (by omega) qk) (cwV 0 hts (gU (hd := [.methodLink "NoiseRingModel" 82 yX1_root, .instanceMethod yX1_root, .selects "NoiseRingModel" yX1_root yX1_root, .initialized "NoiseRingModel"]) (List.forall_mem_cons.mpr ⟨u433, List.forall_mem_cons.mpr ⟨u434, List.forall_mem_cons.mpr ⟨u25, List.forall_mem_cons.mpr ⟨u30, fun _ h => by cases h⟩⟩⟩⟩) u435) rfl rfl rfl (by decide +kernel) ⟨Nat.le_of_ble_eq_true rfl, Nat.le_of_ble_eq_true rfl⟩) (gm_V hG) rfl rfl hl.1 rfl (lv_room (Nat.le_of_ble_eq_true rfl)) dX1_unit_93 ⟨Nat.le_of_ble_eq_true rfl, Nat.le_of_ble_eq_true rfl⟩)) (fun r93 hr93 => ?_)
          subst hr93
          refine lv_iload_n hx hb dX1_unit_96 rfl (lv_at hl 2 rfl) ?_
          refine ix_iconst hx hb dX1_unit_97 ?_
          refine ix_iadd hx hb dX1_unit_98 ?_
          refine wx_i (congrArg iI (show ((2 * u9 : Nat) : Int) + 1 = ((2 * u9 + 1 : Nat) : Int) by omega)) ?_
          refine vp_callSi (va_Run.run (va_runV (As := [.int (iI ((kZ 0))), .int (iI ((2 * u9 + 1 : Nat)))]) (rest := [.long (lI ((((sVal 0 (M (a)) (2 * u9 + 1)) * (sVal 0 (M (a)) (2 * u9 + 1))) % q))), .long (lI (((sVal 0 (M (a)) (2 * u9)) * (sVal 0 (M (a)) (2 * u9)))))]) ⟨hx, hb, hml, hown, hts⟩ (m_power l ω (0) (0) (q) (M) (f) ((kZ 0)) (2 * u9 + 1) hq1 hq2 (by omega) (by omega) (by omega)) (cwV 2 hts (gU (hd := [.methodLink "NoiseRingModel" 79 yX1_power, .instanceMethod yX1_power, .selects "NoiseRingModel" yX1_power yX1_power, .initialized "NoiseRingModel"]) (List.forall_mem_cons.mpr ⟨u436, List.forall_mem_cons.mpr ⟨u437, List.forall_mem_cons.mpr ⟨u26, List.forall_mem_cons.mpr ⟨u30, fun _ h => by cases h⟩⟩⟩⟩) u438) rfl rfl rfl (by decide +kernel) ⟨Nat.le_of_ble_eq_true rfl, Nat.le_of_ble_eq_true rfl⟩) (gm_V hG) rfl rfl hl.1 rfl (lv_room (Nat.le_of_ble_eq_true rfl)) dX1_unit_99 ⟨Nat.le_of_ble_eq_true rfl, Nat.le_of_ble_eq_true rfl⟩)) (fun r99 hr99 => ?_)
          subst hr99
          refine ix_i2l hx hb (by omega) (by omega) dX1_unit_102 ?_
          refine ix_lmul hx hb dX1_unit_103 ?_
          refine ix_lsub hx hb dX1_unit_104 ?_
          refine lv_aload_n hx hb dX1_unit_105 rfl (lv_at hl 3 rfl) ?_
          refine gm_get hx hb hts hown hG 2 (by decide) rfl u326 dX1_unit_106 ?_
          refine ix_i2l hx hb (by omega) (by omega) dX1_unit_109 ?_
          refine ix_lremT hx hb (by omega) (by omega) (by omega) (by omega) dX1_unit_110 ?_
          refine ix_lconst0 hx hb dX1_unit_111 ?_
          have hT1 := Int.tmod_lt_of_pos (((sVal 0 (M (a)) (2 * u9)) * (sVal 0 (M (a)) (2 * u9))) - ((((sVal 0 (M (a)) (2 * u9 + 1)) * (sVal 0 (M (a)) (2 * u9 + 1))) % q) * (sPow q ((kZ 0)) (2 * u9 + 1)))) (show 0 < q by omega)
          have hT2 := Int.lt_tmod_of_pos (((sVal 0 (M (a)) (2 * u9)) * (sVal 0 (M (a)) (2 * u9))) - ((((sVal 0 (M (a)) (2 * u9 + 1)) * (sVal 0 (M (a)) (2 * u9 + 1))) % q) * (sPow q ((kZ 0)) (2 * u9 + 1)))) (show 0 < q by omega)
          have hT3 : (((sVal 0 (M (a)) (2 * u9)) * (sVal 0 (M (a)) (2 * u9))) - ((((sVal 0 (M (a)) (2 * u9 + 1)) * (sVal 0 (M (a)) (2 * u9 + 1))) % q) * (sPow q ((kZ 0)) (2 * u9 + 1)))) = sTst (M a) u9 := by subst qv; rfl
          refine lx_lcmp_ne (tgt := 118) hx hb (by omega) (by omega) (by omega) (by omega) dX1_unit_112 dX1_unit_113 (by decide) (fun h113 => ?_) (fun h113 => ?_)
          · have hz9 : ¬ sTst (M a) u9 % 3329 = 0 := by rw [← hT3, ← qv]; exact fun g9 => h113 (tm_z.mpr g9)
            have hnew : ∀ t, 2 * t < 2 * u9 + 1 → ¬ sTst (M a) t % 3329 = 0 := fun t9 h9 => by
              by_cases he : t9 = u9
              · rw [he]; exact hz9
              · exact hU t9 (by omega)
            refine lv_iinc (k := 2) (v := iI ((2 * u9 : Nat) + 1)) (lv' := [(2, .int (iI ((2 * u9 : Nat) + 1))), (5, .long (lI ((sVal 0 (M (a)) (2 * u9 + 1))))), (3, .long (lI ((sVal 0 (M (a)) (2 * u9))))), (0, .ref (mo ω)), (1, .int (iI (a)))]) hx hb dX1_unit_118 hl rfl (iI_add _ _) (by decide) rfl (fun ls hl => ?_)
            refine lv_goto (tgt := 27) hx hb dX1_unit_121 (by decide) ?_
            exact ih ls ⟨lv_sub hl [0, 3, 4] rfl, hnew⟩
          · have hz9 : sTst (M a) u9 % 3329 = 0 := by rw [← hT3, ← qv]; exact tm_z.mp h113
            refine ix_iconst hx hb dX1_unit_116 ?_
            exact W.zret (ty := .boolean) hx hb hrt (by decide) (fun t ht hW => ⟨⟨_, (0, f), rfl, Or.inl ⟨by omega, rfl, congrArg iI ((sUi_f (fun g9 => (un_all (M a)).mp g9 u9 (by omega) hz9)).symm)⟩, ⟨fun _ => by have h9 := hG.2; rw [← ht] at h9; exact h9, fun g9 => absurd rfl g9⟩⟩, hS.F ht⟩) hS.2.2 dX1_unit_117
    · skip
      have qv : q = 8380417 := qk
      refine ix_iconst hx hb dX1_unit_25 ?_
      refine lv_istore_n (lv' := [(2, .int (iI (0))), (0, .ref (mo ω)), (1, .int (iI (a)))]) hx hb dX1_unit_26 rfl hl (by decide) rfl (fun ls hl => ?_)
      refine ix_loop (I := fun j ls => lv_has ls 7 [(2, .int (iI ((j : Nat)))), (0, .ref (mo ω)), (1, .int (iI (a)))] ∧ (sUnit 1 (M a) j)) 16 0 (by omega) ⟨lv_sub hl [0, 1, 2] rfl, fun i9 h9 => absurd h9 (by omega)⟩ (fun ls hI => ?_) (fun j ls hj hI ih => ?_)
      · obtain ⟨hl, hU⟩ := hI
        have hl : lv_has ls 7 [(2, .int (iI ((16 : Nat)))), (0, .ref (mo ω)), (1, .int (iI (a)))] := hl
        refine lv_iload_n hx hb dX1_unit_27 rfl (lv_at hl 0 rfl) ?_
        refine ix_bipush hx hb (by decide) dX1_unit_28 ?_
        refine ix_icmp_ge (tgt := 124) hx hb (by omega) (by omega) (by omega) (by omega) dX1_unit_30 (by decide) (fun h30 => ?_) (fun h30 => absurd h30 (by omega))
        refine ix_iconst hx hb dX1_unit_124 ?_
        exact W.zret (ty := .boolean) hx hb hrt (by decide) (fun t ht hW => ⟨⟨_, (0, f), rfl, Or.inl ⟨by omega, rfl, congrArg iI ((sUi_t hU).symm)⟩, ⟨fun _ => by have h9 := hG.2; rw [← ht] at h9; exact h9, fun g9 => absurd rfl g9⟩⟩, hS.F ht⟩) hS.2.2 dX1_unit_125
      · obtain ⟨hl, hU⟩ := hI
        have hl : lv_has ls 7 [(2, .int (iI ((j : Nat)))), (0, .ref (mo ω)), (1, .int (iI (a)))] := hl
        have hv0 : sVal 1 (M a) j = sPol (M a) (sPow (kQ 1) (kO 1) (2 * j + 1)) 16 % kQ 1 := rfl
        have hv1 := Int.emod_nonneg (sPol (M a) (sPow (kQ 1) (kO 1) (2 * j + 1)) 16) (show kQ 1 ≠ 0 by decide)
        have hv2 := Int.emod_lt_of_pos (sPol (M a) (sPow (kQ 1) (kO 1) (2 * j + 1)) 16) (show 0 < kQ 1 by decide)
        rw [← hv0] at hv1 hv2
        rw [← qk] at hv2
        refine lv_iload_n hx hb dX1_unit_27 rfl (lv_at hl 0 rfl) ?_
        refine ix_bipush hx hb (by decide) dX1_unit_28 ?_
        refine ix_icmp_ge (tgt := 124) hx hb (by omega) (by omega) (by omega) (by omega) dX1_unit_30 (by decide) (fun h30 => absurd h30 (by omega)) (fun h30 => ?_)
        refine lv_aload_n hx hb dX1_unit_33 rfl (lv_at hl 1 rfl) ?_
        refine gm_get hx hb hts hown hG 1 (by decide) rfl u325 dX1_unit_34 ?_
        refine ix_iconst hx hb dX1_unit_37 ?_
        refine ix_icmp_ne (tgt := 52) hx hb (by omega) (by omega) (by omega) (by omega) dX1_unit_38 (by decide) (fun h38 => absurd h38 (by omega)) (fun h38 => ?_)
        refine lv_aload_n hx hb dX1_unit_41 rfl (lv_at hl 1 rfl) ?_
        refine lv_iload_n hx hb dX1_unit_42 rfl (lv_at hl 2 rfl) ?_
        refine lv_iload_n hx hb dX1_unit_43 rfl (lv_at hl 0 rfl) ?_
        refine vp_callSi (va_Run.run (va_runV (As := [.int (iI (a)), .int (iI ((j : Nat)))]) (rest := []) ⟨hx, hb, hml, hown, hts⟩ (m_valueOf l ω (0) (1) (q) (M) (f) (a) (j) (by omega) (by omega) hq1 hq2 hM (by omega) (by omega) qk) (cwV 2 hts (gU (hd := [.methodLink "NoiseRingModel" 90 yX1_valueOf, .instanceMethod yX1_valueOf, .selects "NoiseRingModel" yX1_valueOf yX1_valueOf, .initialized "NoiseRingModel"]) (List.forall_mem_cons.mpr ⟨u430, List.forall_mem_cons.mpr ⟨u431, List.forall_mem_cons.mpr ⟨u24, List.forall_mem_cons.mpr ⟨u30, fun _ h => by cases h⟩⟩⟩⟩) u432) rfl rfl rfl (by decide +kernel) ⟨Nat.le_of_ble_eq_true rfl, Nat.le_of_ble_eq_true rfl⟩) (gm_V hG) rfl rfl hl.1 rfl (lv_room (Nat.le_of_ble_eq_true rfl)) dX1_unit_44 ⟨Nat.le_of_ble_eq_true rfl, Nat.le_of_ble_eq_true rfl⟩)) (fun r44 hr44 => ?_)
        subst hr44
        refine ix_if_ne (tgt := 118) hx hb (by omega) (by omega) dX1_unit_47 (by decide) (fun h47 => ?_) (fun h47 => ?_)
        · skip
          have hnew := sUnit_s hU (show ¬ sPol (M a) (sPow (kQ 1) (kO 1) (2 * j + 1)) 16 % kQ 1 = 0 from h47)
          refine lv_iinc (k := 0) (v := iI ((j : Nat) + 1)) (lv' := [(2, .int (iI ((j : Nat) + 1))), (0, .ref (mo ω)), (1, .int (iI (a)))]) hx hb dX1_unit_118 hl rfl (iI_add _ _) (by decide) rfl (fun ls hl => ?_)
          refine lv_goto (tgt := 27) hx hb dX1_unit_121 (by decide) ?_
          exact ih ls ⟨lv_sub hl [0, 1, 2] rfl, hnew⟩
        · skip
          refine ix_iconst hx hb dX1_unit_50 ?_
          exact W.zret (ty := .boolean) hx hb hrt (by decide) (fun t ht hW => ⟨⟨_, (0, f), rfl, Or.inl ⟨by omega, rfl, congrArg iI ((sUi_f (sUnit_no hj (hv0.symm.trans h47))).symm)⟩, ⟨fun _ => by have h9 := hG.2; rw [← ht] at h9; exact h9, fun g9 => absurd rfl g9⟩⟩, hS.F ht⟩) hS.2.2 dX1_unit_51
  · skip
    refine ix_iconst hx hb dX1_unit_8 ?_
    refine lv_goto (tgt := 13) hx hb dX1_unit_9 (by decide) ?_
    refine gm_put0 hx hb hts hown hG hS u324 dX1_unit_13 (fun H1 locs1 hG hS => ?_)
    refine lv_aload_n hx hb dX1_unit_16 rfl (lv_at hl 0 rfl) ?_
    refine gm_get hx hb hts hown hG 0 (by decide) rfl u324 dX1_unit_17 ?_
    refine ix_if_le (tgt := 25) hx hb (by omega) (by omega) dX1_unit_20 (by decide) (fun h20 => absurd h20 (by omega)) (fun h20 => ?_)
    refine ix_iconst hx hb dX1_unit_23 ?_
    exact W.zret (ty := .boolean) hx hb hrt (by decide) (fun t ht hW => ⟨⟨_, (1, f), rfl, Or.inr ⟨by omega, rfl⟩, ⟨fun g9 => absurd g9 (show ¬ (1 : Int) = 0 by decide), fun _ => by have h9 := hG.2; rw [← ht] at h9; exact h9⟩⟩, hS.F ht⟩) hS.2.2 dX1_unit_24
set_option maxHeartbeats 4000000 in
set_option maxRecDepth 100000 in
theorem m_count (l : Launch) (ω : WM) (th k q : Int) (M : Nat → Nat → Int) (f : Nat → Int) (v : Int) (v1 : -2147483648 ≤ v) (v2 : v < 2147483648) (hq1 : 3329 ≤ q) (hq2 : q ≤ 8380417) (hM : ∀ r i, r < 12 → i < 16 → 0 ≤ M r i ∧ M r i < q) (k1 : 0 ≤ k) (k2 : k ≤ 1) (qk : q = kQ k) : Met l yX1_count wsX1_count ({ frames := 2, cells := 0, slots := 0, locals := 45 }) (va_Pc [.ref (mo ω), .int (iI (v))] (fun U => GM ω th k q M f U U.heap)) (va_Qi (fun r_ (w_ : Int × (Nat → Int)) => w_.1 = 0 ∧ r_ = iI (sCount k q (kZ k) M v)) (fun (w_ : Int × (Nat → Int)) t => BM ω k q M k q M w_ t) (Am ω)) 0 0 (Am ω) := by
  refine Met.ofW (cc := cX1_count) (maxL := 6) (ret := (some .int)) (by decide +kernel) rfl ?_
  intro p e s m args below meth c s₁ B hml hv
  obtain ⟨rfl, hG⟩ := hv
  have hx := B.exec
  have hb := B.bytes
  have hrt := B.returns
  have hts : ∀ w ∈ wsU, w.before _ s = true := fun w h => atoms_spec (ws := wsX1_count) B.pre w (List.mem_cons_of_mem _ h)
  have hown : s.vm.findClass "NoiseRingModel" = some m.cls := findClass_of_methodNamed B.named
  have hlocks := B.notSynchronized
  have hS : va_S (Am ω) s.heap s.heap [] := va_S.rf
  have hl := lv_entry ([.ref (mo ω), .int (iI (v))]) (n := 6) (Nat.le_of_ble_eq_true rfl)
  rw [lg_entry_eq]
  generalize (lg_sl ([.ref (mo ω), .int (iI (v))]) ++ List.replicate (6 - (lg_sl ([.ref (mo ω), .int (iI (v))])).length) Slot.unset).toArray = ls at hl ⊢
  have hl : lv_has ls 6 [(0, .ref (mo ω)), (1, .int (iI (v)))] := hl
  refine lv_aload_n hx hb dX1_count_0 rfl (lv_at hl 0 rfl) ?_
  refine ix_iconst hx hb dX1_count_1 ?_
  refine gm_put0 hx hb hts hown hG hS u324 dX1_count_2 (fun H1 locs1 hG hS => ?_)
  refine lv_iload_n hx hb dX1_count_5 rfl (lv_at hl 1 rfl) ?_
  rcases (show v = 0 ∨ v = 1 ∨ v = 2 ∨ v = 3 ∨ (v < 0 ∨ 3 < v) by omega) with rfl | rfl | rfl | rfl | hw
  · skip
    refine lv_tableIn (tgt := 36) hx hb dX1_count_6 (by decide) (by decide) (by rfl) (by decide) ?_
    refine lv_aload_n hx hb dX1_count_36 rfl (lv_at hl 0 rfl) ?_
    refine gm_get hx hb hts hown hG 1 (by decide) rfl u325 dX1_count_37 ?_
    exact W.iret hx hb hrt (fun t ht hW => ⟨⟨_, (0, f), rfl, ⟨rfl, rfl⟩, ⟨fun _ => by have h9 := hG.2; rw [← ht] at h9; exact h9, fun g9 => absurd rfl g9⟩⟩, hS.F ht⟩) hS.2.2 dX1_count_40
  · skip
    refine lv_tableIn (tgt := 41) hx hb dX1_count_6 (by decide) (by decide) (by rfl) (by decide) ?_
    refine lv_aload_n hx hb dX1_count_41 rfl (lv_at hl 0 rfl) ?_
    refine gm_get hx hb hts hown hG 2 (by decide) rfl u326 dX1_count_42 ?_
    exact W.iret hx hb hrt (fun t ht hW => ⟨⟨_, (0, f), rfl, ⟨rfl, rfl⟩, ⟨fun _ => by have h9 := hG.2; rw [← ht] at h9; exact h9, fun g9 => absurd rfl g9⟩⟩, hS.F ht⟩) hS.2.2 dX1_count_45
  · skip
    refine lv_tableIn (tgt := 46) hx hb dX1_count_6 (by decide) (by decide) (by rfl) (by decide) ?_
    refine lv_aload_n hx hb dX1_count_46 rfl (lv_at hl 0 rfl) ?_
    refine vp_callSi (va_Run.run (va_runV (As := []) (rest := []) ⟨hx, hb, hml, hown, hts⟩ (m_root l ω (0) (k) (q) (M) (f) hq1 hq2 (by omega) (by omega) qk) (cwV 0 hts (gU (hd := [.methodLink "NoiseRingModel" 82 yX1_root, .instanceMethod yX1_root, .selects "NoiseRingModel" yX1_root yX1_root, .initialized "NoiseRingModel"]) (List.forall_mem_cons.mpr ⟨u433, List.forall_mem_cons.mpr ⟨u434, List.forall_mem_cons.mpr ⟨u25, List.forall_mem_cons.mpr ⟨u30, fun _ h => by cases h⟩⟩⟩⟩) u435) rfl rfl rfl (by decide +kernel) ⟨Nat.le_of_ble_eq_true rfl, Nat.le_of_ble_eq_true rfl⟩) (gm_V hG) rfl rfl hl.1 rfl (lv_room (Nat.le_of_ble_eq_true rfl)) dX1_count_47 ⟨Nat.le_of_ble_eq_true rfl, Nat.le_of_ble_eq_true rfl⟩)) (fun r47 hr47 => ?_)
    subst hr47
    exact W.iret hx hb hrt (fun t ht hW => ⟨⟨_, (0, f), rfl, ⟨rfl, rfl⟩, ⟨fun _ => by have h9 := hG.2; rw [← ht] at h9; exact h9, fun g9 => absurd rfl g9⟩⟩, hS.F ht⟩) hS.2.2 dX1_count_50
  · skip
    refine lv_tableIn (tgt := 51) hx hb dX1_count_6 (by decide) (by decide) (by rfl) (by decide) ?_
    refine ix_iconst hx hb dX1_count_51 ?_
    refine lv_istore_n (lv' := [(2, .int (iI (0))), (0, .ref (mo ω)), (1, .int (iI (3)))]) hx hb dX1_count_52 rfl hl (by decide) rfl (fun ls hl => ?_)
    refine ix_iconst hx hb dX1_count_53 ?_
    refine lv_istore_n (lv' := [(3, .int (iI (0))), (2, .int (iI (0))), (0, .ref (mo ω)), (1, .int (iI (3)))]) hx hb dX1_count_54 rfl hl (by decide) rfl (fun ls hl => ?_)
    refine ix_loop (I := fun j ls => lv_has ls 6 [(3, .int (iI ((j : Nat)))), (2, .int (iI (sEmp M (j)))), (0, .ref (mo ω))]) (12) 0 (by omega) (lv_sub hl [0, 1, 2] rfl) (fun ls hl => ?_) (fun j ls hj hl ih55 => ?_)
    · skip
      have hl : lv_has ls 6 [(3, .int (iI ((12 : Nat)))), (2, .int (iI (sEmp M (12)))), (0, .ref (mo ω))] := hl
      refine lv_iload_n hx hb dX1_count_55 rfl (lv_at hl 0 rfl) ?_
      refine ix_bipush hx hb (by decide) dX1_count_56 ?_
      refine ix_icmp_ge (tgt := 114) hx hb (by omega) (by omega) (by omega) (by omega) dX1_count_58 (by decide) (fun h58 => ?_) (fun h58 => absurd h58 (by omega))
      refine lv_iload_n hx hb dX1_count_114 rfl (lv_at hl 1 rfl) ?_
      exact W.iret hx hb hrt (fun t ht hW => ⟨⟨_, (0, f), rfl, ⟨rfl, rfl⟩, ⟨fun _ => by have h9 := hG.2; rw [← ht] at h9; exact h9, fun g9 => absurd rfl g9⟩⟩, hS.F ht⟩) hS.2.2 dX1_count_115
    · skip
      have hl : lv_has ls 6 [(3, .int (iI ((j : Nat)))), (2, .int (iI (sEmp M (j)))), (0, .ref (mo ω))] := hl
      refine lv_iload_n hx hb dX1_count_55 rfl (lv_at hl 0 rfl) ?_
      refine ix_bipush hx hb (by decide) dX1_count_56 ?_
      refine ix_icmp_ge (tgt := 114) hx hb (by omega) (by omega) (by omega) (by omega) dX1_count_58 (by decide) (fun h58 => absurd h58 (by omega)) (fun h58 => ?_)
      have hse := sEmp_in M j
      refine ix_iconst hx hb dX1_count_61 ?_
      refine lv_istore (lv' := [(4, .int (iI ((if sCnt (M j) (0) = 0 then 1 else 0)))), (3, .int (iI ((j : Nat)))), (2, .int (iI (sEmp M (j)))), (0, .ref (mo ω))]) hx hb dX1_count_62 hl (by decide) rfl (fun ls hl => ?_)
      refine ix_iconst hx hb dX1_count_64 ?_
      refine lv_istore (lv' := [(5, .int (iI (0))), (4, .int (iI ((if sCnt (M j) (0) = 0 then 1 else 0)))), (3, .int (iI ((j : Nat)))), (2, .int (iI (sEmp M (j)))), (0, .ref (mo ω))]) hx hb dX1_count_65 hl (by decide) rfl (fun ls hl => ?_)
      refine ix_loop (I := fun t ls => lv_has ls 6 [(5, .int (iI ((t : Nat)))), (4, .int (iI ((if sCnt (M j) (t) = 0 then 1 else 0)))), (3, .int (iI ((j : Nat)))), (2, .int (iI (sEmp M (j)))), (0, .ref (mo ω))]) (16) 0 (by omega) (lv_sub hl [0, 1, 2, 3, 4] rfl) (fun ls hl => ?_) (fun t ls ht hl ih67 => ?_)
      · skip
        have hl : lv_has ls 6 [(5, .int (iI ((16 : Nat)))), (4, .int (iI ((if sCnt (M j) (16) = 0 then 1 else 0)))), (3, .int (iI ((j : Nat)))), (2, .int (iI (sEmp M (j)))), (0, .ref (mo ω))] := hl
        refine lv_iload hx hb dX1_count_67 (lv_at hl 0 rfl) ?_
        refine ix_bipush hx hb (by decide) dX1_count_69 ?_
        refine ix_icmp_ge (tgt := 100) hx hb (by omega) (by omega) (by omega) (by omega) dX1_count_71 (by decide) (fun h71 => ?_) (fun h71 => absurd h71 (by omega))
        refine lv_iload hx hb dX1_count_100 (lv_at hl 1 rfl) ?_
        refine ix_if_eq (tgt := 108) hx hb (by split <;> omega) (by split <;> omega) dX1_count_102 (by decide) (fun h102 => ?_) (fun h102 => ?_)
        · have hs : sEmp M (j + 1) = sEmp M j := by rw [sEmp, h102]; omega
          rw [← hs] at hl
          refine lv_iinc (k := 2) (v := iI ((j : Nat) + 1)) (lv' := [(3, .int (iI ((j : Nat) + 1))), (5, .int (iI ((16 : Nat)))), (4, .int (iI ((if sCnt (M j) (16) = 0 then 1 else 0)))), (2, .int (iI (sEmp M (j + 1)))), (0, .ref (mo ω))]) hx hb dX1_count_108 hl rfl (iI_add _ _) (by decide) rfl (fun ls hl => ?_)
          refine lv_goto (tgt := 55) hx hb dX1_count_111 (by decide) ?_
          exact ih55 ls (lv_sub hl [0, 3, 4] rfl)
        · have hs : sEmp M (j + 1) = sEmp M j + 1 := by rw [sEmp]; split <;> omega
          refine lv_iinc (k := 3) (v := iI (sEmp M (j + 1))) (lv' := [(2, .int (iI (sEmp M (j + 1)))), (5, .int (iI ((16 : Nat)))), (4, .int (iI ((if sCnt (M j) (16) = 0 then 1 else 0)))), (3, .int (iI ((j : Nat)))), (0, .ref (mo ω))]) hx hb dX1_count_105 hl rfl ((iI_add _ _).trans (congrArg iI hs.symm)) (by decide) rfl (fun ls hl => ?_)
          refine lv_iinc (k := 3) (v := iI ((j : Nat) + 1)) (lv' := [(3, .int (iI ((j : Nat) + 1))), (2, .int (iI (sEmp M (j + 1)))), (5, .int (iI ((16 : Nat)))), (4, .int (iI ((if sCnt (M j) (16) = 0 then 1 else 0)))), (0, .ref (mo ω))]) hx hb dX1_count_108 hl rfl (iI_add _ _) (by decide) rfl (fun ls hl => ?_)
          refine lv_goto (tgt := 55) hx hb dX1_count_111 (by decide) ?_
          exact ih55 ls (lv_sub hl [0, 1, 4] rfl)
      · skip
        have hl : lv_has ls 6 [(5, .int (iI ((t : Nat)))), (4, .int (iI ((if sCnt (M j) (t) = 0 then 1 else 0)))), (3, .int (iI ((j : Nat)))), (2, .int (iI (sEmp M (j)))), (0, .ref (mo ω))] := hl
        refine lv_iload hx hb dX1_count_67 (lv_at hl 0 rfl) ?_
        refine ix_bipush hx hb (by decide) dX1_count_69 ?_
        refine ix_icmp_ge (tgt := 100) hx hb (by omega) (by omega) (by omega) (by omega) dX1_count_71 (by decide) (fun h71 => absurd h71 (by omega)) (fun h71 => ?_)
        have hm := hM j t hj ht
        have hc := sCnt_in (M j) t
        refine lv_iload hx hb dX1_count_74 (lv_at hl 1 rfl) ?_
        refine lv_aload_n hx hb dX1_count_76 rfl (lv_at hl 4 rfl) ?_
        refine lv_iload_n hx hb dX1_count_77 rfl (lv_at hl 2 rfl) ?_
        refine lv_iload hx hb dX1_count_78 (lv_at hl 0 rfl) ?_
        refine vp_callSi (va_Run.run (va_runV (As := [.int (iI ((j : Nat))), .int (iI ((t : Nat)))]) (rest := [.int (iI ((if sCnt (M j) (t) = 0 then 1 else 0)))]) ⟨hx, hb, hml, hown, hts⟩ (m_at l ω (0) (k) (q) (M) (f) (j) (t) (by omega) (by omega)) (cwV 2 hts (gU (hd := [.methodLink "NoiseRingModel" 45 yX1_at, .instanceMethod yX1_at, .selects "NoiseRingModel" yX1_at yX1_at, .initialized "NoiseRingModel"]) (List.forall_mem_cons.mpr ⟨u356, List.forall_mem_cons.mpr ⟨u357, List.forall_mem_cons.mpr ⟨u16, List.forall_mem_cons.mpr ⟨u30, fun _ h => by cases h⟩⟩⟩⟩) u358) rfl rfl rfl (by decide +kernel) ⟨Nat.le_of_ble_eq_true rfl, Nat.le_of_ble_eq_true rfl⟩) (gm_V hG) rfl rfl hl.1 rfl (lv_room (Nat.le_of_ble_eq_true rfl)) dX1_count_80 ⟨Nat.le_of_ble_eq_true rfl, Nat.le_of_ble_eq_true rfl⟩)) (fun r80 hr80 => ?_)
        subst hr80
        refine ix_sel (x := 1) (y := 0) (n1 := 1) (t1 := 90) (t2 := 91) hx hb (by omega) (by omega) dX1_count_83 (by decide) (fun g9 => ix_iconst hx hb dX1_count_86 g9) dX1_count_87 (by decide) (fun g9 => ix_iconst hx hb dX1_count_90 g9) ?_
        refine lv_iand hx hb dX1_count_91 ?_
        refine wx_i (show iI (if sCnt (M j) (t) = 0 then 1 else 0) &&& iI (if M (j) (t) = 0 then 1 else 0) = iI (if sCnt (M j) (t + 1) = 0 then 1 else 0) from ?_) ?_
        · rw [sCnt]
          by_cases h1 : M j t = 0
          · rw [if_pos h1, if_pos h1, Int.add_zero]; split <;> rfl
          · rw [if_neg h1, if_neg h1, if_neg (show ¬ sCnt (M j) t + 1 = 0 by omega)]; split <;> rfl
        refine lv_istore (lv' := [(4, .int (iI ((if sCnt (M j) (t + 1) = 0 then 1 else 0)))), (5, .int (iI ((t : Nat)))), (3, .int (iI ((j : Nat)))), (2, .int (iI (sEmp M (j)))), (0, .ref (mo ω))]) hx hb dX1_count_92 hl (by decide) rfl (fun ls hl => ?_)
        refine lv_iinc (k := 1) (v := iI ((t : Nat) + 1)) (lv' := [(5, .int (iI ((t : Nat) + 1))), (4, .int (iI ((if sCnt (M j) (t + 1) = 0 then 1 else 0)))), (3, .int (iI ((j : Nat)))), (2, .int (iI (sEmp M (j)))), (0, .ref (mo ω))]) hx hb dX1_count_94 hl rfl (iI_add _ _) (by decide) rfl (fun ls hl => ?_)
        refine lv_goto (tgt := 67) hx hb dX1_count_97 (by decide) ?_
        exact ih67 ls (lv_sub hl [0, 1, 2, 3, 4] rfl)
  · skip
    refine lv_tableOut (tgt := 116) hx hb dX1_count_6 (by rw [iI_toInt v1 v2]; exact hw) (by decide) ?_
    refine ix_iconst hx hb dX1_count_116 ?_
    exact W.iret hx hb hrt (fun t ht hW => ⟨⟨_, (0, f), rfl, ⟨rfl, congrArg iI (by unfold sCount; rw [if_neg (by omega), if_neg (by omega), if_neg (by omega), if_neg (by omega)])⟩, ⟨fun _ => by have h9 := hG.2; rw [← ht] at h9; exact h9, fun g9 => absurd rfl g9⟩⟩, hS.F ht⟩) hS.2.2 dX1_count_117

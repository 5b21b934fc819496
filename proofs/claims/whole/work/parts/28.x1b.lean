/-! The reference's writing methods, by program (wip/gen/mw.py). -/
theorem zM_n (M : Nat → Nat → Int) (j : Nat) : upR (zM M j) (j / 16) (upI (zM M j (j / 16)) (j % 16) 0) = zM M (j + 1) := by
  have h := zM_s M (j / 16) (j % 16) (Nat.mod_lt _ (by decide))
  rw [show 16 * (j / 16) + (j % 16 + 1) = j + 1 by omega, show 16 * (j / 16) + j % 16 = j by omega] at h
  exact h
set_option maxHeartbeats 4000000 in
set_option maxRecDepth 100000 in
theorem m_thrown (l : Launch) (ω : WM) (th k q : Int) (M : Nat → Nat → Int) (f : Nat → Int)   : Met l yX1_thrown wsX1_thrown ({ frames := 0, cells := 0, slots := 0, locals := 0 }) (va_Pc [.ref (mo ω)] (fun U => GM ω th k q M f U U.heap)) (vp_Si (fun r_ => r_ = iI (th))) 0 0 (fun _ => False) := by
  refine Met.ofW (cc := cX1_thrown) (maxL := 1) (ret := (some .int)) (by decide +kernel) rfl ?_
  intro p e s m args below meth c s₁ B hml hv
  obtain ⟨rfl, hG⟩ := hv
  have hx := B.exec
  have hb := B.bytes
  have hrt := B.returns
  have hts : ∀ w ∈ wsU, w.before _ s = true := fun w h => atoms_spec (ws := wsX1_thrown) B.pre w (List.mem_cons_of_mem _ h)
  have hown : s.vm.findClass "NoiseRingModel" = some m.cls := findClass_of_methodNamed B.named
  have hlocks := B.notSynchronized
  have hl := lv_entry ([.ref (mo ω)]) (n := 1) (Nat.le_of_ble_eq_true rfl)
  rw [lg_entry_eq]
  generalize (lg_sl ([.ref (mo ω)]) ++ List.replicate (1 - (lg_sl ([.ref (mo ω)])).length) Slot.unset).toArray = ls at hl ⊢
  have hl : lv_has ls 1 [(0, .ref (mo ω))] := hl
  refine lv_aload_n hx hb dX1_thrown_0 rfl (lv_at hl 0 rfl) ?_
  refine gm_get hx hb hts hown hG 0 (by decide) rfl u324 dX1_thrown_1 ?_
  exact W.iret hx hb hrt (fun t ht hW => ⟨_, rfl, rfl, ht⟩) t_nil dX1_thrown_4
set_option maxHeartbeats 4000000 in
set_option maxRecDepth 100000 in
theorem m_put (l : Launch) (ω : WM) (th k q : Int) (M : Nat → Nat → Int) (f : Nat → Int) (to : Nat) (hq1 : 3329 ≤ q) (hq2 : q ≤ 8380417) (hto : to < 12) (hf : ∀ i, i < 16 → 0 ≤ f i ∧ f i < q) : Met l yX1_put wsX1_put ({ frames := 0, cells := 0, slots := 0, locals := 0 }) (va_Pc [.ref (mo ω), .int (iI (to))] (fun U => GM ω th k q M f U U.heap)) (va_Qi (fun r_ (_ : Unit) => r_ = iI (sCnt f 16)) (fun _ t => CM ω th k q (mixR M to f 16) f t.heap) (Am ω)) 0 0 (Am ω) := by
  refine Met.ofW (cc := cX1_put) (maxL := 4) (ret := (some .int)) (by decide +kernel) rfl ?_
  intro p e s m args below meth c s₁ B hml hv
  obtain ⟨rfl, hG⟩ := hv
  have hx := B.exec
  have hb := B.bytes
  have hrt := B.returns
  have hts : ∀ w ∈ wsU, w.before _ s = true := fun w h => atoms_spec (ws := wsX1_put) B.pre w (List.mem_cons_of_mem _ h)
  have hown : s.vm.findClass "NoiseRingModel" = some m.cls := findClass_of_methodNamed B.named
  have hlocks := B.notSynchronized
  have hS : va_S (Am ω) s.heap s.heap [] := va_S.rf
  have hl := lv_entry ([.ref (mo ω), .int (iI (to))]) (n := 4) (Nat.le_of_ble_eq_true rfl)
  rw [lg_entry_eq]
  generalize (lg_sl ([.ref (mo ω), .int (iI (to))]) ++ List.replicate (4 - (lg_sl ([.ref (mo ω), .int (iI (to))])).length) Slot.unset).toArray = ls at hl ⊢
  have hl : lv_has ls 4 [(0, .ref (mo ω)), (1, .int (iI (to)))] := hl
  refine ix_iconst hx hb dX1_put_0 ?_
  refine lv_istore_n (lv' := [(2, .int (iI (0))), (0, .ref (mo ω)), (1, .int (iI (to)))]) hx hb dX1_put_1 rfl hl (by decide) rfl (fun ls hl => ?_)
  refine ix_iconst hx hb dX1_put_2 ?_
  refine lv_istore_n (lv' := [(3, .int (iI (0))), (2, .int (iI (0))), (0, .ref (mo ω)), (1, .int (iI (to)))]) hx hb dX1_put_3 rfl hl (by decide) rfl (fun ls hl => ?_)
  refine ix_loopH (I := fun j ls H locs => lv_has ls 4 [(3, .int (iI ((j : Nat)))), (2, .int (iI (sCnt f (j)))), (0, .ref (mo ω)), (1, .int (iI (to)))] ∧ GM ω (th) (k) (q) (mixR M to f (j)) (f) s H ∧ va_S (Am ω) s.heap H locs) 16 0 (by omega) ⟨lv_sub hl [0, 1, 2, 3] rfl, (by rw [mixR_0]; exact hG), hS⟩ (fun ls H locs hI => ?_) (fun j ls H locs hj hI ih4 => ?_)
  · obtain ⟨hl, hG, hS⟩ := hI
    have hl : lv_has ls 4 [(3, .int (iI ((16 : Nat)))), (2, .int (iI (sCnt f (16)))), (0, .ref (mo ω)), (1, .int (iI (to)))] := hl
    refine lv_iload_n hx hb dX1_put_4 rfl (lv_at hl 0 rfl) ?_
    refine ix_bipush hx hb (by decide) dX1_put_5 ?_
    refine ix_icmp_ge (tgt := 45) hx hb (by omega) (by omega) (by omega) (by omega) dX1_put_7 (by decide) (fun h7 => ?_) (fun h7 => absurd h7 (by omega))
    refine lv_iload_n hx hb dX1_put_45 rfl (lv_at hl 1 rfl) ?_
    exact W.iret hx hb hrt (fun t ht hW => ⟨⟨_, (), rfl, rfl, by have h9 := hG.2; rw [← ht] at h9; exact h9⟩, hS.F ht⟩) hS.2.2 dX1_put_46
  · obtain ⟨hl, hG, hS⟩ := hI
    have hl : lv_has ls 4 [(3, .int (iI ((j : Nat)))), (2, .int (iI (sCnt f (j)))), (0, .ref (mo ω)), (1, .int (iI (to)))] := hl
    have hm := hf j hj
    have hc := sCnt_in f j
    refine lv_iload_n hx hb dX1_put_4 rfl (lv_at hl 0 rfl) ?_
    refine ix_bipush hx hb (by decide) dX1_put_5 ?_
    refine ix_icmp_ge (tgt := 45) hx hb (by omega) (by omega) (by omega) (by omega) dX1_put_7 (by decide) (fun h7 => absurd h7 (by omega)) (fun h7 => ?_)
    refine lv_aload_n hx hb dX1_put_10 rfl (lv_at hl 2 rfl) ?_
    refine gm_get hx hb hts hown hG 3 (by decide) rfl u327 dX1_put_11 ?_
    refine ix_bipush hx hb (by decide) dX1_put_14 ?_
    refine lv_iload_n hx hb dX1_put_16 rfl (lv_at hl 3 rfl) ?_
    refine ix_imul hx hb dX1_put_17 ?_
    refine lv_iload_n hx hb dX1_put_18 rfl (lv_at hl 0 rfl) ?_
    refine ix_iadd hx hb dX1_put_19 ?_
    refine wx_i (congrArg iI (show (16 * to) + (j : Nat) = ((16 * to + j : Nat) : Int) by omega)) ?_
    refine lv_aload_n hx hb dX1_put_20 rfl (lv_at hl 2 rfl) ?_
    refine gm_get hx hb hts hown hG 4 (by decide) rfl u328 dX1_put_21 ?_
    refine lv_iload_n hx hb dX1_put_24 rfl (lv_at hl 0 rfl) ?_
    refine gm_mld (i := j) hx hb hG (by omega) dX1_put_25 ?_
    refine gm_rst (r := to) (i := j) hx hb hG hS (by omega) (by omega) dX1_put_26 (fun H1 locs1 hG hS => ?_)
    refine lv_aload_n hx hb dX1_put_27 rfl (lv_at hl 2 rfl) ?_
    refine gm_get hx hb hts hown hG 4 (by decide) rfl u328 dX1_put_28 ?_
    refine lv_iload_n hx hb dX1_put_31 rfl (lv_at hl 0 rfl) ?_
    refine gm_mld (i := j) hx hb hG (by omega) dX1_put_32 ?_
    refine ix_if_eq (tgt := 39) hx hb (by omega) (by omega) dX1_put_33 (by decide) (fun h33 => ?_) (fun h33 => ?_)
    · have hs : sCnt f (j + 1) = sCnt f j := by rw [sCnt, if_pos h33]; omega
      rw [← hs] at hl
      refine lv_iinc (k := 0) (v := iI ((j : Nat) + 1)) (lv' := [(3, .int (iI ((j : Nat) + 1))), (2, .int (iI (sCnt f (j + 1)))), (0, .ref (mo ω)), (1, .int (iI (to)))]) hx hb dX1_put_39 hl rfl (iI_add _ _) (by decide) rfl (fun ls hl => ?_)
      refine lv_goto (tgt := 4) hx hb dX1_put_42 (by decide) ?_
      exact ih4 ls _ _ ⟨lv_sub hl [0, 1, 2, 3] rfl, (by rw [← mixR_s]; exact hG), hS⟩
    · have hs : sCnt f (j + 1) = sCnt f j + 1 := by rw [sCnt, if_neg h33]
      refine lv_iinc (k := 1) (v := iI (sCnt f (j + 1))) (lv' := [(2, .int (iI (sCnt f (j + 1)))), (3, .int (iI ((j : Nat)))), (0, .ref (mo ω)), (1, .int (iI (to)))]) hx hb dX1_put_36 hl rfl ((iI_add _ _).trans (congrArg iI hs.symm)) (by decide) rfl (fun ls hl => ?_)
      refine lv_iinc (k := 1) (v := iI ((j : Nat) + 1)) (lv' := [(3, .int (iI ((j : Nat) + 1))), (2, .int (iI (sCnt f (j + 1)))), (0, .ref (mo ω)), (1, .int (iI (to)))]) hx hb dX1_put_39 hl rfl (iI_add _ _) (by decide) rfl (fun ls hl => ?_)
      refine lv_goto (tgt := 4) hx hb dX1_put_42 (by decide) ?_
      exact ih4 ls _ _ ⟨lv_sub hl [0, 1, 2, 3] rfl, (by rw [← mixR_s]; exact hG), hS⟩
set_option maxHeartbeats 4000000 in
set_option maxRecDepth 100000 in
theorem m_begin (l : Launch) (ω : WM) (th k q : Int) (M : Nat → Nat → Int) (f : Nat → Int) (n : Int) (n1 : -2147483648 ≤ n) (n2 : n < 2147483648) : Met l yX1_begin wsX1_begin ({ frames := 0, cells := 0, slots := 0, locals := 0 }) (va_Pc [.ref (mo ω), .int (iI (n))] (fun U => GM ω th k q M f U U.heap)) (va_Qi (fun r_ (w_ : Int × (Nat → Int)) => (0 ≤ n ∧ n ≤ 1) ∧ w_.1 = 0 ∧ r_ = iI (kQ n) ∨ (¬ (0 ≤ n ∧ n ≤ 1)) ∧ w_.1 = 1) (fun (w_ : Int × (Nat → Int)) t => BM ω k q M n (kQ n) (zM M 192) w_ t) (Am ω)) 0 0 (Am ω) := by
  refine Met.ofW (cc := cX1_begin) (maxL := 3) (ret := (some .int)) (by decide +kernel) rfl ?_
  intro p e s m args below meth c s₁ B hml hv
  obtain ⟨rfl, hG⟩ := hv
  have hx := B.exec
  have hb := B.bytes
  have hrt := B.returns
  have hts : ∀ w ∈ wsU, w.before _ s = true := fun w h => atoms_spec (ws := wsX1_begin) B.pre w (List.mem_cons_of_mem _ h)
  have hown : s.vm.findClass "NoiseRingModel" = some m.cls := findClass_of_methodNamed B.named
  have hlocks := B.notSynchronized
  have hS : va_S (Am ω) s.heap s.heap [] := va_S.rf
  have hl := lv_entry ([.ref (mo ω), .int (iI (n))]) (n := 3) (Nat.le_of_ble_eq_true rfl)
  rw [lg_entry_eq]
  generalize (lg_sl ([.ref (mo ω), .int (iI (n))]) ++ List.replicate (3 - (lg_sl ([.ref (mo ω), .int (iI (n))])).length) Slot.unset).toArray = ls at hl ⊢
  have hl : lv_has ls 3 [(0, .ref (mo ω)), (1, .int (iI (n)))] := hl
  refine lv_aload_n hx hb dX1_begin_0 rfl (lv_at hl 0 rfl) ?_
  refine lv_iload_n hx hb dX1_begin_1 rfl (lv_at hl 1 rfl) ?_
  refine ix_if_lt (tgt := 10) hx hb (by omega) (by omega) dX1_begin_2 (by decide) (fun h2 => ?_) (fun h2 => ?_)
  · skip
    refine ix_iconst hx hb dX1_begin_10 ?_
    refine lv_goto (tgt := 15) hx hb dX1_begin_11 (by decide) ?_
    refine gm_put0 hx hb hts hown hG hS u324 dX1_begin_15 (fun H1 locs1 hG hS => ?_)
    refine lv_aload_n hx hb dX1_begin_18 rfl (lv_at hl 0 rfl) ?_
    refine gm_get hx hb hts hown hG 0 (by decide) rfl u324 dX1_begin_19 ?_
    refine ix_if_le (tgt := 27) hx hb (by omega) (by omega) dX1_begin_22 (by decide) (fun h22 => absurd h22 (by omega)) (fun h22 => ?_)
    refine ix_iconst hx hb dX1_begin_25 ?_
    exact W.iret hx hb hrt (fun t ht hW => ⟨⟨_, (1, f), rfl, Or.inr ⟨by omega, rfl⟩, ⟨fun g9 => absurd g9 (show ¬ (1 : Int) = 0 by decide), fun _ => by have h9 := hG.2; rw [← ht] at h9; exact h9⟩⟩, hS.F ht⟩) hS.2.2 dX1_begin_26
  · skip
    refine lv_iload_n hx hb dX1_begin_5 rfl (lv_at hl 1 rfl) ?_
    refine ix_iconst hx hb dX1_begin_6 ?_
    refine ix_icmp_le (tgt := 14) hx hb (by omega) (by omega) (by omega) (by omega) dX1_begin_7 (by decide) (fun h7 => ?_) (fun h7 => ?_)
    · skip
      refine ix_iconst hx hb dX1_begin_14 ?_
      refine gm_put0 hx hb hts hown hG hS u324 dX1_begin_15 (fun H1 locs1 hG hS => ?_)
      refine lv_aload_n hx hb dX1_begin_18 rfl (lv_at hl 0 rfl) ?_
      refine gm_get hx hb hts hown hG 0 (by decide) rfl u324 dX1_begin_19 ?_
      refine ix_if_le (tgt := 27) hx hb (by omega) (by omega) dX1_begin_22 (by decide) (fun h22 => ?_) (fun h22 => absurd h22 (by omega))
      refine lv_aload_n hx hb dX1_begin_27 rfl (lv_at hl 0 rfl) ?_
      refine lv_iload_n hx hb dX1_begin_28 rfl (lv_at hl 1 rfl) ?_
      refine gm_put1 hx hb hts hown hG hS u325 dX1_begin_29 (fun H1 locs1 hG hS => ?_)
      refine lv_aload_n hx hb dX1_begin_32 rfl (lv_at hl 0 rfl) ?_
      refine lv_iload_n hx hb dX1_begin_33 rfl (lv_at hl 1 rfl) ?_
      refine ix_sel (x := 3329) (y := 8380417) (n1 := 3) (t1 := 43) (t2 := 45) hx hb (by omega) (by omega) dX1_begin_34 (by decide) (fun g9 => ix_sipush hx hb (by decide) dX1_begin_37 g9) dX1_begin_40 (by decide) (fun g9 => ix_ldc (n := 8380417) hx hb (by decide) hown (hts _ u348) dX1_begin_43 g9) ?_
      refine wx_i (congrArg iI (show (if n = 0 then (3329 : Int) else 8380417) = kQ n from rfl)) ?_
      refine gm_put2 hx hb hts hown hG hS u326 dX1_begin_45 (fun H1 locs1 hG hS => ?_)
      refine ix_iconst hx hb dX1_begin_48 ?_
      refine lv_istore_n (lv' := [(2, .int (iI (0))), (0, .ref (mo ω)), (1, .int (iI (n)))]) hx hb dX1_begin_49 rfl hl (by decide) rfl (fun ls hl => ?_)
      refine ix_loopH (I := fun j ls H locs => lv_has ls 3 [(2, .int (iI ((j : Nat)))), (0, .ref (mo ω)), (1, .int (iI (n)))] ∧ GM ω (0) (n) (kQ n) (zM M (j)) (f) s H ∧ va_S (Am ω) s.heap H locs) 192 0 (by omega) ⟨lv_sub hl [0, 1, 2] rfl, (by rw [zM_0]; exact hG), hS⟩ (fun ls H locs hI => ?_) (fun j ls H locs hj hI ih50 => ?_)
      · obtain ⟨hl, hG, hS⟩ := hI
        have hl : lv_has ls 3 [(2, .int (iI ((192 : Nat)))), (0, .ref (mo ω)), (1, .int (iI (n)))] := hl
        refine lv_iload_n hx hb dX1_begin_50 rfl (lv_at hl 0 rfl) ?_
        refine lv_aload_n hx hb dX1_begin_51 rfl (lv_at hl 1 rfl) ?_
        refine gm_get hx hb hts hown hG 3 (by decide) rfl u327 dX1_begin_52 ?_
        refine gm_len hx hb hG dX1_begin_55 ?_
        refine ix_icmp_ge (tgt := 72) hx hb (by omega) (by omega) (by omega) (by omega) dX1_begin_56 (by decide) (fun h56 => ?_) (fun h56 => absurd h56 (by omega))
        refine lv_aload_n hx hb dX1_begin_72 rfl (lv_at hl 1 rfl) ?_
        refine gm_get hx hb hts hown hG 2 (by decide) rfl u326 dX1_begin_73 ?_
        exact W.iret hx hb hrt (fun t ht hW => ⟨⟨_, (0, f), rfl, Or.inl ⟨by omega, rfl, rfl⟩, ⟨fun _ => by have h9 := hG.2; rw [← ht] at h9; exact h9, fun g9 => absurd rfl g9⟩⟩, hS.F ht⟩) hS.2.2 dX1_begin_76
      · obtain ⟨hl, hG, hS⟩ := hI
        have hl : lv_has ls 3 [(2, .int (iI ((j : Nat)))), (0, .ref (mo ω)), (1, .int (iI (n)))] := hl
        refine lv_iload_n hx hb dX1_begin_50 rfl (lv_at hl 0 rfl) ?_
        refine lv_aload_n hx hb dX1_begin_51 rfl (lv_at hl 1 rfl) ?_
        refine gm_get hx hb hts hown hG 3 (by decide) rfl u327 dX1_begin_52 ?_
        refine gm_len hx hb hG dX1_begin_55 ?_
        refine ix_icmp_ge (tgt := 72) hx hb (by omega) (by omega) (by omega) (by omega) dX1_begin_56 (by decide) (fun h56 => absurd h56 (by omega)) (fun h56 => ?_)
        refine lv_aload_n hx hb dX1_begin_59 rfl (lv_at hl 1 rfl) ?_
        refine gm_get hx hb hts hown hG 3 (by decide) rfl u327 dX1_begin_60 ?_
        refine lv_iload_n hx hb dX1_begin_63 rfl (lv_at hl 0 rfl) ?_
        refine wx_i (congrArg iI (show ((j : Nat) : Int) = ((16 * (j / 16) + j % 16 : Nat) : Int) by omega)) ?_
        refine ix_iconst hx hb dX1_begin_64 ?_
        refine gm_rst (r := j / 16) (i := j % 16) hx hb hG hS (by omega) (by omega) dX1_begin_65 (fun H1 locs1 hG hS => ?_)
        refine lv_iinc (k := 0) (v := iI ((j : Nat) + 1)) (lv' := [(2, .int (iI ((j : Nat) + 1))), (0, .ref (mo ω)), (1, .int (iI (n)))]) hx hb dX1_begin_66 hl rfl (iI_add _ _) (by decide) rfl (fun ls hl => ?_)
        refine lv_goto (tgt := 50) hx hb dX1_begin_69 (by decide) ?_
        exact ih50 ls _ _ ⟨lv_sub hl [0, 1, 2] rfl, (by rw [← zM_n]; exact hG), hS⟩
    · skip
      refine ix_iconst hx hb dX1_begin_10 ?_
      refine lv_goto (tgt := 15) hx hb dX1_begin_11 (by decide) ?_
      refine gm_put0 hx hb hts hown hG hS u324 dX1_begin_15 (fun H1 locs1 hG hS => ?_)
      refine lv_aload_n hx hb dX1_begin_18 rfl (lv_at hl 0 rfl) ?_
      refine gm_get hx hb hts hown hG 0 (by decide) rfl u324 dX1_begin_19 ?_
      refine ix_if_le (tgt := 27) hx hb (by omega) (by omega) dX1_begin_22 (by decide) (fun h22 => absurd h22 (by omega)) (fun h22 => ?_)
      refine ix_iconst hx hb dX1_begin_25 ?_
      exact W.iret hx hb hrt (fun t ht hW => ⟨⟨_, (1, f), rfl, Or.inr ⟨by omega, rfl⟩, ⟨fun g9 => absurd g9 (show ¬ (1 : Int) = 0 by decide), fun _ => by have h9 := hG.2; rw [← ht] at h9; exact h9⟩⟩, hS.F ht⟩) hS.2.2 dX1_begin_26
set_option maxHeartbeats 4000000 in
set_option maxRecDepth 100000 in
theorem m_set (l : Launch) (ω : WM) (th k q : Int) (M : Nat → Nat → Int) (f : Nat → Int) (r i v : Int) (r1 : -2147483648 ≤ r) (r2 : r < 2147483648) (i1 : -2147483648 ≤ i) (i2 : i < 2147483648) (v1 : -2147483648 ≤ v) (v2 : v < 2147483648) (hq1 : 3329 ≤ q) (hq2 : q ≤ 8380417) : Met l yX1_set wsX1_set ({ frames := 2, cells := 0, slots := 0, locals := 47 }) (va_Pc [.ref (mo ω), .int (iI (r)), .int (iI (i)), .int (iI (v))] (fun U => GM ω th k q M f U U.heap)) (va_Qi (fun r_ (w_ : Int × (Nat → Int)) => ((0 ≤ r ∧ r < 12) ∧ 0 ≤ i ∧ i < 16) ∧ w_.1 = 0 ∧ r_ = iI (M r.toNat i.toNat) ∨ (¬ ((0 ≤ r ∧ r < 12) ∧ 0 ≤ i ∧ i < 16)) ∧ w_.1 = 1) (fun (w_ : Int × (Nat → Int)) t => BM ω k q M k q (upR M r.toNat (upI (M r.toNat) i.toNat (v % q))) w_ t) (Am ω)) 0 0 (Am ω) := by
  refine Met.ofW (cc := cX1_set) (maxL := 5) (ret := (some .int)) (by decide +kernel) rfl ?_
  intro p e s m args below meth c s₁ B hml hv
  obtain ⟨rfl, hG⟩ := hv
  have hx := B.exec
  have hb := B.bytes
  have hrt := B.returns
  have hts : ∀ w ∈ wsU, w.before _ s = true := fun w h => atoms_spec (ws := wsX1_set) B.pre w (List.mem_cons_of_mem _ h)
  have hown : s.vm.findClass "NoiseRingModel" = some m.cls := findClass_of_methodNamed B.named
  have hlocks := B.notSynchronized
  have hS : va_S (Am ω) s.heap s.heap [] := va_S.rf
  have hl := lv_entry ([.ref (mo ω), .int (iI (r)), .int (iI (i)), .int (iI (v))]) (n := 5) (Nat.le_of_ble_eq_true rfl)
  rw [lg_entry_eq]
  generalize (lg_sl ([.ref (mo ω), .int (iI (r)), .int (iI (i)), .int (iI (v))]) ++ List.replicate (5 - (lg_sl ([.ref (mo ω), .int (iI (r)), .int (iI (i)), .int (iI (v))])).length) Slot.unset).toArray = ls at hl ⊢
  have hl : lv_has ls 5 [(0, .ref (mo ω)), (1, .int (iI (r))), (2, .int (iI (i))), (3, .int (iI (v)))] := hl
  refine lv_aload_n hx hb dX1_set_0 rfl (lv_at hl 0 rfl) ?_
  refine lv_iload_n hx hb dX1_set_1 rfl (lv_at hl 1 rfl) ?_
  refine vp_callSi (va_Run.run (va_runS (As := [.int (iI (r))]) (rest := [.ref (mo ω)]) ⟨hx, hb, hml, hown, hts⟩ (m_none l (r) (by omega) (by omega)) (va_cwS 1 hts (gU (hd := [.methodLink "NoiseRingModel" 41 yX1_none, .static yX1_none, .initialized "NoiseRingModel"]) (List.forall_mem_cons.mpr ⟨u353, List.forall_mem_cons.mpr ⟨u354, List.forall_mem_cons.mpr ⟨u30, fun _ h => by cases h⟩⟩⟩) u355) rfl rfl rfl (by decide +kernel) ⟨Nat.le_of_ble_eq_true rfl, Nat.le_of_ble_eq_true rfl⟩) gn_S rfl rfl hl.1 rfl (lv_room (Nat.le_of_ble_eq_true rfl)) dX1_set_2 ⟨Nat.le_of_ble_eq_true rfl, Nat.le_of_ble_eq_true rfl⟩)) (fun r2 hr2 => ?_)
  subst hr2
  refine ix_if_ne (tgt := 18) hx hb (by omega) (by omega) dX1_set_5 (by decide) (fun h5 => ?_) (fun h5 => ?_)
  · skip
    refine ix_iconst hx hb dX1_set_18 ?_
    refine lv_goto (tgt := 23) hx hb dX1_set_19 (by decide) ?_
    refine gm_put0 hx hb hts hown hG hS u324 dX1_set_23 (fun H1 locs1 hG hS => ?_)
    refine lv_aload_n hx hb dX1_set_26 rfl (lv_at hl 0 rfl) ?_
    refine gm_get hx hb hts hown hG 0 (by decide) rfl u324 dX1_set_27 ?_
    refine ix_if_le (tgt := 35) hx hb (by omega) (by omega) dX1_set_30 (by decide) (fun h30 => absurd h30 (by omega)) (fun h30 => ?_)
    refine ix_iconst hx hb dX1_set_33 ?_
    exact W.iret hx hb hrt (fun t ht hW => ⟨⟨_, (1, f), rfl, Or.inr ⟨by omega, rfl⟩, ⟨fun g9 => absurd g9 (show ¬ (1 : Int) = 0 by decide), fun _ => by have h9 := hG.2; rw [← ht] at h9; exact h9⟩⟩, hS.F ht⟩) hS.2.2 dX1_set_34
  · skip
    refine lv_iload_n hx hb dX1_set_8 rfl (lv_at hl 2 rfl) ?_
    refine ix_if_lt (tgt := 18) hx hb (by omega) (by omega) dX1_set_9 (by decide) (fun h9 => ?_) (fun h9 => ?_)
    · skip
      refine ix_iconst hx hb dX1_set_18 ?_
      refine lv_goto (tgt := 23) hx hb dX1_set_19 (by decide) ?_
      refine gm_put0 hx hb hts hown hG hS u324 dX1_set_23 (fun H1 locs1 hG hS => ?_)
      refine lv_aload_n hx hb dX1_set_26 rfl (lv_at hl 0 rfl) ?_
      refine gm_get hx hb hts hown hG 0 (by decide) rfl u324 dX1_set_27 ?_
      refine ix_if_le (tgt := 35) hx hb (by omega) (by omega) dX1_set_30 (by decide) (fun h30 => absurd h30 (by omega)) (fun h30 => ?_)
      refine ix_iconst hx hb dX1_set_33 ?_
      exact W.iret hx hb hrt (fun t ht hW => ⟨⟨_, (1, f), rfl, Or.inr ⟨by omega, rfl⟩, ⟨fun g9 => absurd g9 (show ¬ (1 : Int) = 0 by decide), fun _ => by have h9 := hG.2; rw [← ht] at h9; exact h9⟩⟩, hS.F ht⟩) hS.2.2 dX1_set_34
    · skip
      refine lv_iload_n hx hb dX1_set_12 rfl (lv_at hl 2 rfl) ?_
      refine ix_bipush hx hb (by decide) dX1_set_13 ?_
      refine ix_icmp_lt (tgt := 22) hx hb (by omega) (by omega) (by omega) (by omega) dX1_set_15 (by decide) (fun h15 => ?_) (fun h15 => ?_)
      · skip
        refine ix_iconst hx hb dX1_set_22 ?_
        refine gm_put0 hx hb hts hown hG hS u324 dX1_set_23 (fun H1 locs1 hG hS => ?_)
        refine lv_aload_n hx hb dX1_set_26 rfl (lv_at hl 0 rfl) ?_
        refine gm_get hx hb hts hown hG 0 (by decide) rfl u324 dX1_set_27 ?_
        refine ix_if_le (tgt := 35) hx hb (by omega) (by omega) dX1_set_30 (by decide) (fun h30 => ?_) (fun h30 => absurd h30 (by omega))
        obtain ⟨r, rfl⟩ := Int.eq_ofNat_of_zero_le (show 0 ≤ r by omega)
        obtain ⟨i, rfl⟩ := Int.eq_ofNat_of_zero_le (show 0 ≤ i by omega)
        refine lv_aload_n hx hb dX1_set_35 rfl (lv_at hl 0 rfl) ?_
        refine lv_iload_n hx hb dX1_set_36 rfl (lv_at hl 1 rfl) ?_
        refine lv_iload_n hx hb dX1_set_37 rfl (lv_at hl 2 rfl) ?_
        refine vp_callSi (va_Run.run (va_runV (As := [.int (iI (r)), .int (iI (i))]) (rest := []) ⟨hx, hb, hml, hown, hts⟩ (m_at l ω (0) (k) (q) (M) (f) (r) (i) (by omega) (by omega)) (cwV 2 hts (gU (hd := [.methodLink "NoiseRingModel" 45 yX1_at, .instanceMethod yX1_at, .selects "NoiseRingModel" yX1_at yX1_at, .initialized "NoiseRingModel"]) (List.forall_mem_cons.mpr ⟨u356, List.forall_mem_cons.mpr ⟨u357, List.forall_mem_cons.mpr ⟨u16, List.forall_mem_cons.mpr ⟨u30, fun _ h => by cases h⟩⟩⟩⟩) u358) rfl rfl rfl (by decide +kernel) ⟨Nat.le_of_ble_eq_true rfl, Nat.le_of_ble_eq_true rfl⟩) (gm_V hG) rfl rfl hl.1 rfl (lv_room (Nat.le_of_ble_eq_true rfl)) dX1_set_38 ⟨Nat.le_of_ble_eq_true rfl, Nat.le_of_ble_eq_true rfl⟩)) (fun r38 hr38 => ?_)
        subst hr38
        refine lv_istore (lv' := [(4, .int (iI (M (r) (i)))), (0, .ref (mo ω)), (1, .int (iI (r))), (2, .int (iI (i))), (3, .int (iI (v)))]) hx hb dX1_set_41 hl (by decide) rfl (fun ls hl => ?_)
        refine lv_aload_n hx hb dX1_set_43 rfl (lv_at hl 1 rfl) ?_
        refine gm_get hx hb hts hown hG 3 (by decide) rfl u327 dX1_set_44 ?_
        refine ix_bipush hx hb (by decide) dX1_set_47 ?_
        refine lv_iload_n hx hb dX1_set_49 rfl (lv_at hl 2 rfl) ?_
        refine ix_imul hx hb dX1_set_50 ?_
        refine lv_iload_n hx hb dX1_set_51 rfl (lv_at hl 3 rfl) ?_
        refine ix_iadd hx hb dX1_set_52 ?_
        refine wx_i (congrArg iI (show (16 * r) + i = ((16 * r + i : Nat) : Int) by omega)) ?_
        refine lv_aload_n hx hb dX1_set_53 rfl (lv_at hl 1 rfl) ?_
        refine lv_iload_n hx hb dX1_set_54 rfl (lv_at hl 4 rfl) ?_
        refine ix_i2l hx hb (by omega) (by omega) dX1_set_55 ?_
        refine vp_callSi (va_Run.run (va_runV (As := [.long (lI (v))]) (rest := [.int (iI ((16 * r + i : Nat))), .ref (mg ω)]) ⟨hx, hb, hml, hown, hts⟩ (m_of l ω (0) (k) (q) (M) (f) (v) hq1 hq2 (by omega) (by omega)) (cwV 1 hts (gU (hd := [.methodLink "NoiseRingModel" 48 yX1_of, .instanceMethod yX1_of, .selects "NoiseRingModel" yX1_of yX1_of, .initialized "NoiseRingModel"]) (List.forall_mem_cons.mpr ⟨u359, List.forall_mem_cons.mpr ⟨u360, List.forall_mem_cons.mpr ⟨u17, List.forall_mem_cons.mpr ⟨u30, fun _ h => by cases h⟩⟩⟩⟩) u361) rfl rfl rfl (by decide +kernel) ⟨Nat.le_of_ble_eq_true rfl, Nat.le_of_ble_eq_true rfl⟩) (gm_V hG) rfl rfl hl.1 rfl (lv_room (Nat.le_of_ble_eq_true rfl)) dX1_set_56 ⟨Nat.le_of_ble_eq_true rfl, Nat.le_of_ble_eq_true rfl⟩)) (fun r56 hr56 => ?_)
        subst hr56
        refine gm_rst (r := r) (i := i) hx hb hG hS (by omega) (by omega) dX1_set_59 (fun H1 locs1 hG hS => ?_)
        refine lv_iload hx hb dX1_set_60 (lv_at hl 0 rfl) ?_
        exact W.iret hx hb hrt (fun t ht hW => ⟨⟨_, (0, f), rfl, Or.inl ⟨by omega, rfl, rfl⟩, ⟨fun _ => by have h9 := hG.2; rw [← ht] at h9; exact h9, fun g9 => absurd rfl g9⟩⟩, hS.F ht⟩) hS.2.2 dX1_set_62
      · skip
        refine ix_iconst hx hb dX1_set_18 ?_
        refine lv_goto (tgt := 23) hx hb dX1_set_19 (by decide) ?_
        refine gm_put0 hx hb hts hown hG hS u324 dX1_set_23 (fun H1 locs1 hG hS => ?_)
        refine lv_aload_n hx hb dX1_set_26 rfl (lv_at hl 0 rfl) ?_
        refine gm_get hx hb hts hown hG 0 (by decide) rfl u324 dX1_set_27 ?_
        refine ix_if_le (tgt := 35) hx hb (by omega) (by omega) dX1_set_30 (by decide) (fun h30 => absurd h30 (by omega)) (fun h30 => ?_)
        refine ix_iconst hx hb dX1_set_33 ?_
        exact W.iret hx hb hrt (fun t ht hW => ⟨⟨_, (1, f), rfl, Or.inr ⟨by omega, rfl⟩, ⟨fun g9 => absurd g9 (show ¬ (1 : Int) = 0 by decide), fun _ => by have h9 := hG.2; rw [← ht] at h9; exact h9⟩⟩, hS.F ht⟩) hS.2.2 dX1_set_34
set_option maxHeartbeats 4000000 in
set_option maxRecDepth 100000 in
theorem m_get (l : Launch) (ω : WM) (th k q : Int) (M : Nat → Nat → Int) (f : Nat → Int) (r i : Int) (r1 : -2147483648 ≤ r) (r2 : r < 2147483648) (i1 : -2147483648 ≤ i) (i2 : i < 2147483648) : Met l yX1_get wsX1_get ({ frames := 1, cells := 0, slots := 0, locals := 22 }) (va_Pc [.ref (mo ω), .int (iI (r)), .int (iI (i))] (fun U => GM ω th k q M f U U.heap)) (va_Qi (fun r_ (w_ : Int × (Nat → Int)) => ((0 ≤ r ∧ r < 12) ∧ 0 ≤ i ∧ i < 16) ∧ w_.1 = 0 ∧ r_ = iI (M r.toNat i.toNat) ∨ (¬ ((0 ≤ r ∧ r < 12) ∧ 0 ≤ i ∧ i < 16)) ∧ w_.1 = 1) (fun (w_ : Int × (Nat → Int)) t => BM ω k q M k q M w_ t) (Am ω)) 0 0 (Am ω) := by
  refine Met.ofW (cc := cX1_get) (maxL := 3) (ret := (some .int)) (by decide +kernel) rfl ?_
  intro p e s m args below meth c s₁ B hml hv
  obtain ⟨rfl, hG⟩ := hv
  have hx := B.exec
  have hb := B.bytes
  have hrt := B.returns
  have hts : ∀ w ∈ wsU, w.before _ s = true := fun w h => atoms_spec (ws := wsX1_get) B.pre w (List.mem_cons_of_mem _ h)
  have hown : s.vm.findClass "NoiseRingModel" = some m.cls := findClass_of_methodNamed B.named
  have hlocks := B.notSynchronized
  have hS : va_S (Am ω) s.heap s.heap [] := va_S.rf
  have hl := lv_entry ([.ref (mo ω), .int (iI (r)), .int (iI (i))]) (n := 3) (Nat.le_of_ble_eq_true rfl)
  rw [lg_entry_eq]
  generalize (lg_sl ([.ref (mo ω), .int (iI (r)), .int (iI (i))]) ++ List.replicate (3 - (lg_sl ([.ref (mo ω), .int (iI (r)), .int (iI (i))])).length) Slot.unset).toArray = ls at hl ⊢
  have hl : lv_has ls 3 [(0, .ref (mo ω)), (1, .int (iI (r))), (2, .int (iI (i)))] := hl
  refine lv_aload_n hx hb dX1_get_0 rfl (lv_at hl 0 rfl) ?_
  refine lv_iload_n hx hb dX1_get_1 rfl (lv_at hl 1 rfl) ?_
  refine vp_callSi (va_Run.run (va_runS (As := [.int (iI (r))]) (rest := [.ref (mo ω)]) ⟨hx, hb, hml, hown, hts⟩ (m_none l (r) (by omega) (by omega)) (va_cwS 1 hts (gU (hd := [.methodLink "NoiseRingModel" 41 yX1_none, .static yX1_none, .initialized "NoiseRingModel"]) (List.forall_mem_cons.mpr ⟨u353, List.forall_mem_cons.mpr ⟨u354, List.forall_mem_cons.mpr ⟨u30, fun _ h => by cases h⟩⟩⟩) u355) rfl rfl rfl (by decide +kernel) ⟨Nat.le_of_ble_eq_true rfl, Nat.le_of_ble_eq_true rfl⟩) gn_S rfl rfl hl.1 rfl (lv_room (Nat.le_of_ble_eq_true rfl)) dX1_get_2 ⟨Nat.le_of_ble_eq_true rfl, Nat.le_of_ble_eq_true rfl⟩)) (fun r2 hr2 => ?_)
  subst hr2
  refine ix_if_ne (tgt := 18) hx hb (by omega) (by omega) dX1_get_5 (by decide) (fun h5 => ?_) (fun h5 => ?_)
  · skip
    refine ix_iconst hx hb dX1_get_18 ?_
    refine lv_goto (tgt := 23) hx hb dX1_get_19 (by decide) ?_
    refine gm_put0 hx hb hts hown hG hS u324 dX1_get_23 (fun H1 locs1 hG hS => ?_)
    refine lv_aload_n hx hb dX1_get_26 rfl (lv_at hl 0 rfl) ?_
    refine gm_get hx hb hts hown hG 0 (by decide) rfl u324 dX1_get_27 ?_
    refine ix_if_le (tgt := 37) hx hb (by omega) (by omega) dX1_get_30 (by decide) (fun h30 => absurd h30 (by omega)) (fun h30 => ?_)
    refine ix_iconst hx hb dX1_get_33 ?_
    refine lv_goto (tgt := 43) hx hb dX1_get_34 (by decide) ?_
    exact W.iret hx hb hrt (fun t ht hW => ⟨⟨_, (1, f), rfl, Or.inr ⟨by omega, rfl⟩, ⟨fun g9 => absurd g9 (show ¬ (1 : Int) = 0 by decide), fun _ => by have h9 := hG.2; rw [← ht] at h9; exact h9⟩⟩, hS.F ht⟩) hS.2.2 dX1_get_43
  · skip
    refine lv_iload_n hx hb dX1_get_8 rfl (lv_at hl 2 rfl) ?_
    refine ix_if_lt (tgt := 18) hx hb (by omega) (by omega) dX1_get_9 (by decide) (fun h9 => ?_) (fun h9 => ?_)
    · skip
      refine ix_iconst hx hb dX1_get_18 ?_
      refine lv_goto (tgt := 23) hx hb dX1_get_19 (by decide) ?_
      refine gm_put0 hx hb hts hown hG hS u324 dX1_get_23 (fun H1 locs1 hG hS => ?_)
      refine lv_aload_n hx hb dX1_get_26 rfl (lv_at hl 0 rfl) ?_
      refine gm_get hx hb hts hown hG 0 (by decide) rfl u324 dX1_get_27 ?_
      refine ix_if_le (tgt := 37) hx hb (by omega) (by omega) dX1_get_30 (by decide) (fun h30 => absurd h30 (by omega)) (fun h30 => ?_)
      refine ix_iconst hx hb dX1_get_33 ?_
      refine lv_goto (tgt := 43) hx hb dX1_get_34 (by decide) ?_
      exact W.iret hx hb hrt (fun t ht hW => ⟨⟨_, (1, f), rfl, Or.inr ⟨by omega, rfl⟩, ⟨fun g9 => absurd g9 (show ¬ (1 : Int) = 0 by decide), fun _ => by have h9 := hG.2; rw [← ht] at h9; exact h9⟩⟩, hS.F ht⟩) hS.2.2 dX1_get_43
    · skip
      refine lv_iload_n hx hb dX1_get_12 rfl (lv_at hl 2 rfl) ?_
      refine ix_bipush hx hb (by decide) dX1_get_13 ?_
      refine ix_icmp_lt (tgt := 22) hx hb (by omega) (by omega) (by omega) (by omega) dX1_get_15 (by decide) (fun h15 => ?_) (fun h15 => ?_)
      · skip
        refine ix_iconst hx hb dX1_get_22 ?_
        refine gm_put0 hx hb hts hown hG hS u324 dX1_get_23 (fun H1 locs1 hG hS => ?_)
        refine lv_aload_n hx hb dX1_get_26 rfl (lv_at hl 0 rfl) ?_
        refine gm_get hx hb hts hown hG 0 (by decide) rfl u324 dX1_get_27 ?_
        refine ix_if_le (tgt := 37) hx hb (by omega) (by omega) dX1_get_30 (by decide) (fun h30 => ?_) (fun h30 => absurd h30 (by omega))
        obtain ⟨r, rfl⟩ := Int.eq_ofNat_of_zero_le (show 0 ≤ r by omega)
        obtain ⟨i, rfl⟩ := Int.eq_ofNat_of_zero_le (show 0 ≤ i by omega)
        refine lv_aload_n hx hb dX1_get_37 rfl (lv_at hl 0 rfl) ?_
        refine lv_iload_n hx hb dX1_get_38 rfl (lv_at hl 1 rfl) ?_
        refine lv_iload_n hx hb dX1_get_39 rfl (lv_at hl 2 rfl) ?_
        refine vp_callSi (va_Run.run (va_runV (As := [.int (iI (r)), .int (iI (i))]) (rest := []) ⟨hx, hb, hml, hown, hts⟩ (m_at l ω (0) (k) (q) (M) (f) (r) (i) (by omega) (by omega)) (cwV 2 hts (gU (hd := [.methodLink "NoiseRingModel" 45 yX1_at, .instanceMethod yX1_at, .selects "NoiseRingModel" yX1_at yX1_at, .initialized "NoiseRingModel"]) (List.forall_mem_cons.mpr ⟨u356, List.forall_mem_cons.mpr ⟨u357, List.forall_mem_cons.mpr ⟨u16, List.forall_mem_cons.mpr ⟨u30, fun _ h => by cases h⟩⟩⟩⟩) u358) rfl rfl rfl (by decide +kernel) ⟨Nat.le_of_ble_eq_true rfl, Nat.le_of_ble_eq_true rfl⟩) (gm_V hG) rfl rfl hl.1 rfl (lv_room (Nat.le_of_ble_eq_true rfl)) dX1_get_40 ⟨Nat.le_of_ble_eq_true rfl, Nat.le_of_ble_eq_true rfl⟩)) (fun r40 hr40 => ?_)
        subst hr40
        exact W.iret hx hb hrt (fun t ht hW => ⟨⟨_, (0, f), rfl, Or.inl ⟨by omega, rfl, rfl⟩, ⟨fun _ => by have h9 := hG.2; rw [← ht] at h9; exact h9, fun g9 => absurd rfl g9⟩⟩, hS.F ht⟩) hS.2.2 dX1_get_43
      · skip
        refine ix_iconst hx hb dX1_get_18 ?_
        refine lv_goto (tgt := 23) hx hb dX1_get_19 (by decide) ?_
        refine gm_put0 hx hb hts hown hG hS u324 dX1_get_23 (fun H1 locs1 hG hS => ?_)
        refine lv_aload_n hx hb dX1_get_26 rfl (lv_at hl 0 rfl) ?_
        refine gm_get hx hb hts hown hG 0 (by decide) rfl u324 dX1_get_27 ?_
        refine ix_if_le (tgt := 37) hx hb (by omega) (by omega) dX1_get_30 (by decide) (fun h30 => absurd h30 (by omega)) (fun h30 => ?_)
        refine ix_iconst hx hb dX1_get_33 ?_
        refine lv_goto (tgt := 43) hx hb dX1_get_34 (by decide) ?_
        exact W.iret hx hb hrt (fun t ht hW => ⟨⟨_, (1, f), rfl, Or.inr ⟨by omega, rfl⟩, ⟨fun g9 => absurd g9 (show ¬ (1 : Int) = 0 by decide), fun _ => by have h9 := hG.2; rw [← ht] at h9; exact h9⟩⟩, hS.F ht⟩) hS.2.2 dX1_get_43
set_option maxHeartbeats 4000000 in
set_option maxRecDepth 100000 in
theorem m_value (l : Launch) (ω : WM) (th k q : Int) (M : Nat → Nat → Int) (f : Nat → Int) (r i : Int) (r1 : -2147483648 ≤ r) (r2 : r < 2147483648) (i1 : -2147483648 ≤ i) (i2 : i < 2147483648) (hq1 : 3329 ≤ q) (hq2 : q ≤ 8380417) (hM : ∀ r i, r < 12 → i < 16 → 0 ≤ M r i ∧ M r i < q) (k1 : 0 ≤ k) (k2 : k ≤ 1) (qk : q = kQ k) : Met l yX1_value wsX1_value ({ frames := 3, cells := 0, slots := 0, locals := 73 }) (va_Pc [.ref (mo ω), .int (iI (r)), .int (iI (i))] (fun U => GM ω th k q M f U U.heap)) (va_Qi (fun r_ (w_ : Int × (Nat → Int)) => ((0 ≤ r ∧ r < 12) ∧ 0 ≤ i ∧ i < 16) ∧ w_.1 = 0 ∧ r_ = iI (sVal k (M r.toNat) i.toNat) ∨ (¬ ((0 ≤ r ∧ r < 12) ∧ 0 ≤ i ∧ i < 16)) ∧ w_.1 = 1) (fun (w_ : Int × (Nat → Int)) t => BM ω k q M k q M w_ t) (Am ω)) 0 0 (Am ω) := by
  refine Met.ofW (cc := cX1_value) (maxL := 3) (ret := (some .int)) (by decide +kernel) rfl ?_
  intro p e s m args below meth c s₁ B hml hv
  obtain ⟨rfl, hG⟩ := hv
  have hx := B.exec
  have hb := B.bytes
  have hrt := B.returns
  have hts : ∀ w ∈ wsU, w.before _ s = true := fun w h => atoms_spec (ws := wsX1_value) B.pre w (List.mem_cons_of_mem _ h)
  have hown : s.vm.findClass "NoiseRingModel" = some m.cls := findClass_of_methodNamed B.named
  have hlocks := B.notSynchronized
  have hS : va_S (Am ω) s.heap s.heap [] := va_S.rf
  have hl := lv_entry ([.ref (mo ω), .int (iI (r)), .int (iI (i))]) (n := 3) (Nat.le_of_ble_eq_true rfl)
  rw [lg_entry_eq]
  generalize (lg_sl ([.ref (mo ω), .int (iI (r)), .int (iI (i))]) ++ List.replicate (3 - (lg_sl ([.ref (mo ω), .int (iI (r)), .int (iI (i))])).length) Slot.unset).toArray = ls at hl ⊢
  have hl : lv_has ls 3 [(0, .ref (mo ω)), (1, .int (iI (r))), (2, .int (iI (i)))] := hl
  refine lv_aload_n hx hb dX1_value_0 rfl (lv_at hl 0 rfl) ?_
  refine lv_iload_n hx hb dX1_value_1 rfl (lv_at hl 1 rfl) ?_
  refine vp_callSi (va_Run.run (va_runS (As := [.int (iI (r))]) (rest := [.ref (mo ω)]) ⟨hx, hb, hml, hown, hts⟩ (m_none l (r) (by omega) (by omega)) (va_cwS 1 hts (gU (hd := [.methodLink "NoiseRingModel" 41 yX1_none, .static yX1_none, .initialized "NoiseRingModel"]) (List.forall_mem_cons.mpr ⟨u353, List.forall_mem_cons.mpr ⟨u354, List.forall_mem_cons.mpr ⟨u30, fun _ h => by cases h⟩⟩⟩) u355) rfl rfl rfl (by decide +kernel) ⟨Nat.le_of_ble_eq_true rfl, Nat.le_of_ble_eq_true rfl⟩) gn_S rfl rfl hl.1 rfl (lv_room (Nat.le_of_ble_eq_true rfl)) dX1_value_2 ⟨Nat.le_of_ble_eq_true rfl, Nat.le_of_ble_eq_true rfl⟩)) (fun r2 hr2 => ?_)
  subst hr2
  refine ix_if_ne (tgt := 18) hx hb (by omega) (by omega) dX1_value_5 (by decide) (fun h5 => ?_) (fun h5 => ?_)
  · skip
    refine ix_iconst hx hb dX1_value_18 ?_
    refine lv_goto (tgt := 23) hx hb dX1_value_19 (by decide) ?_
    refine gm_put0 hx hb hts hown hG hS u324 dX1_value_23 (fun H1 locs1 hG hS => ?_)
    refine lv_aload_n hx hb dX1_value_26 rfl (lv_at hl 0 rfl) ?_
    refine gm_get hx hb hts hown hG 0 (by decide) rfl u324 dX1_value_27 ?_
    refine ix_if_le (tgt := 37) hx hb (by omega) (by omega) dX1_value_30 (by decide) (fun h30 => absurd h30 (by omega)) (fun h30 => ?_)
    refine ix_iconst hx hb dX1_value_33 ?_
    refine lv_goto (tgt := 43) hx hb dX1_value_34 (by decide) ?_
    exact W.iret hx hb hrt (fun t ht hW => ⟨⟨_, (1, f), rfl, Or.inr ⟨by omega, rfl⟩, ⟨fun g9 => absurd g9 (show ¬ (1 : Int) = 0 by decide), fun _ => by have h9 := hG.2; rw [← ht] at h9; exact h9⟩⟩, hS.F ht⟩) hS.2.2 dX1_value_43
  · skip
    refine lv_iload_n hx hb dX1_value_8 rfl (lv_at hl 2 rfl) ?_
    refine ix_if_lt (tgt := 18) hx hb (by omega) (by omega) dX1_value_9 (by decide) (fun h9 => ?_) (fun h9 => ?_)
    · skip
      refine ix_iconst hx hb dX1_value_18 ?_
      refine lv_goto (tgt := 23) hx hb dX1_value_19 (by decide) ?_
      refine gm_put0 hx hb hts hown hG hS u324 dX1_value_23 (fun H1 locs1 hG hS => ?_)
      refine lv_aload_n hx hb dX1_value_26 rfl (lv_at hl 0 rfl) ?_
      refine gm_get hx hb hts hown hG 0 (by decide) rfl u324 dX1_value_27 ?_
      refine ix_if_le (tgt := 37) hx hb (by omega) (by omega) dX1_value_30 (by decide) (fun h30 => absurd h30 (by omega)) (fun h30 => ?_)
      refine ix_iconst hx hb dX1_value_33 ?_
      refine lv_goto (tgt := 43) hx hb dX1_value_34 (by decide) ?_
      exact W.iret hx hb hrt (fun t ht hW => ⟨⟨_, (1, f), rfl, Or.inr ⟨by omega, rfl⟩, ⟨fun g9 => absurd g9 (show ¬ (1 : Int) = 0 by decide), fun _ => by have h9 := hG.2; rw [← ht] at h9; exact h9⟩⟩, hS.F ht⟩) hS.2.2 dX1_value_43
    · skip
      refine lv_iload_n hx hb dX1_value_12 rfl (lv_at hl 2 rfl) ?_
      refine ix_bipush hx hb (by decide) dX1_value_13 ?_
      refine ix_icmp_lt (tgt := 22) hx hb (by omega) (by omega) (by omega) (by omega) dX1_value_15 (by decide) (fun h15 => ?_) (fun h15 => ?_)
      · skip
        refine ix_iconst hx hb dX1_value_22 ?_
        refine gm_put0 hx hb hts hown hG hS u324 dX1_value_23 (fun H1 locs1 hG hS => ?_)
        refine lv_aload_n hx hb dX1_value_26 rfl (lv_at hl 0 rfl) ?_
        refine gm_get hx hb hts hown hG 0 (by decide) rfl u324 dX1_value_27 ?_
        refine ix_if_le (tgt := 37) hx hb (by omega) (by omega) dX1_value_30 (by decide) (fun h30 => ?_) (fun h30 => absurd h30 (by omega))
        obtain ⟨r, rfl⟩ := Int.eq_ofNat_of_zero_le (show 0 ≤ r by omega)
        obtain ⟨i, rfl⟩ := Int.eq_ofNat_of_zero_le (show 0 ≤ i by omega)
        refine lv_aload_n hx hb dX1_value_37 rfl (lv_at hl 0 rfl) ?_
        refine lv_iload_n hx hb dX1_value_38 rfl (lv_at hl 1 rfl) ?_
        refine lv_iload_n hx hb dX1_value_39 rfl (lv_at hl 2 rfl) ?_
        refine vp_callSi (va_Run.run (va_runV (As := [.int (iI (r)), .int (iI (i))]) (rest := []) ⟨hx, hb, hml, hown, hts⟩ (m_valueOf l ω (0) (k) (q) (M) (f) (r) (i) (by omega) (by omega) hq1 hq2 hM (by omega) (by omega) qk) (cwV 2 hts (gU (hd := [.methodLink "NoiseRingModel" 90 yX1_valueOf, .instanceMethod yX1_valueOf, .selects "NoiseRingModel" yX1_valueOf yX1_valueOf, .initialized "NoiseRingModel"]) (List.forall_mem_cons.mpr ⟨u430, List.forall_mem_cons.mpr ⟨u431, List.forall_mem_cons.mpr ⟨u24, List.forall_mem_cons.mpr ⟨u30, fun _ h => by cases h⟩⟩⟩⟩) u432) rfl rfl rfl (by decide +kernel) ⟨Nat.le_of_ble_eq_true rfl, Nat.le_of_ble_eq_true rfl⟩) (gm_V hG) rfl rfl hl.1 rfl (lv_room (Nat.le_of_ble_eq_true rfl)) dX1_value_40 ⟨Nat.le_of_ble_eq_true rfl, Nat.le_of_ble_eq_true rfl⟩)) (fun r40 hr40 => ?_)
        subst hr40
        exact W.iret hx hb hrt (fun t ht hW => ⟨⟨_, (0, f), rfl, Or.inl ⟨by omega, rfl, rfl⟩, ⟨fun _ => by have h9 := hG.2; rw [← ht] at h9; exact h9, fun g9 => absurd rfl g9⟩⟩, hS.F ht⟩) hS.2.2 dX1_value_43
      · skip
        refine ix_iconst hx hb dX1_value_18 ?_
        refine lv_goto (tgt := 23) hx hb dX1_value_19 (by decide) ?_
        refine gm_put0 hx hb hts hown hG hS u324 dX1_value_23 (fun H1 locs1 hG hS => ?_)
        refine lv_aload_n hx hb dX1_value_26 rfl (lv_at hl 0 rfl) ?_
        refine gm_get hx hb hts hown hG 0 (by decide) rfl u324 dX1_value_27 ?_
        refine ix_if_le (tgt := 37) hx hb (by omega) (by omega) dX1_value_30 (by decide) (fun h30 => absurd h30 (by omega)) (fun h30 => ?_)
        refine ix_iconst hx hb dX1_value_33 ?_
        refine lv_goto (tgt := 43) hx hb dX1_value_34 (by decide) ?_
        exact W.iret hx hb hrt (fun t ht hW => ⟨⟨_, (1, f), rfl, Or.inr ⟨by omega, rfl⟩, ⟨fun g9 => absurd g9 (show ¬ (1 : Int) = 0 by decide), fun _ => by have h9 := hG.2; rw [← ht] at h9; exact h9⟩⟩, hS.F ht⟩) hS.2.2 dX1_value_43
set_option maxHeartbeats 4000000 in
set_option maxRecDepth 100000 in
theorem m_size (l : Launch) (ω : WM) (th k q : Int) (M : Nat → Nat → Int) (f : Nat → Int) (r : Int) (r1 : -2147483648 ≤ r) (r2 : r < 2147483648) (hq1 : 3329 ≤ q) (hq2 : q ≤ 8380417) (qo : q % 2 = 1) (hM : ∀ r i, r < 12 → i < 16 → 0 ≤ M r i ∧ M r i < q) : Met l yX1_size wsX1_size ({ frames := 1, cells := 0, slots := 0, locals := 22 }) (va_Pc [.ref (mo ω), .int (iI (r))] (fun U => GM ω th k q M f U U.heap)) (va_Qi (fun r_ (w_ : Int × (Nat → Int)) => (0 ≤ r ∧ r < 12) ∧ w_.1 = 0 ∧ r_ = iI (sMax q (M r.toNat) 16) ∨ (¬ (0 ≤ r ∧ r < 12)) ∧ w_.1 = 1) (fun (w_ : Int × (Nat → Int)) t => BM ω k q M k q M w_ t) (Am ω)) 0 0 (Am ω) := by
  refine Met.ofW (cc := cX1_size) (maxL := 4) (ret := (some .int)) (by decide +kernel) rfl ?_
  intro p e s m args below meth c s₁ B hml hv
  obtain ⟨rfl, hG⟩ := hv
  have hx := B.exec
  have hb := B.bytes
  have hrt := B.returns
  have hts : ∀ w ∈ wsU, w.before _ s = true := fun w h => atoms_spec (ws := wsX1_size) B.pre w (List.mem_cons_of_mem _ h)
  have hown : s.vm.findClass "NoiseRingModel" = some m.cls := findClass_of_methodNamed B.named
  have hlocks := B.notSynchronized
  have hS : va_S (Am ω) s.heap s.heap [] := va_S.rf
  have hl := lv_entry ([.ref (mo ω), .int (iI (r))]) (n := 4) (Nat.le_of_ble_eq_true rfl)
  rw [lg_entry_eq]
  generalize (lg_sl ([.ref (mo ω), .int (iI (r))]) ++ List.replicate (4 - (lg_sl ([.ref (mo ω), .int (iI (r))])).length) Slot.unset).toArray = ls at hl ⊢
  have hl : lv_has ls 4 [(0, .ref (mo ω)), (1, .int (iI (r)))] := hl
  refine lv_aload_n hx hb dX1_size_0 rfl (lv_at hl 0 rfl) ?_
  refine lv_iload_n hx hb dX1_size_1 rfl (lv_at hl 1 rfl) ?_
  refine vp_callSi (va_Run.run (va_runS (As := [.int (iI (r))]) (rest := [.ref (mo ω)]) ⟨hx, hb, hml, hown, hts⟩ (m_none l (r) (by omega) (by omega)) (va_cwS 1 hts (gU (hd := [.methodLink "NoiseRingModel" 41 yX1_none, .static yX1_none, .initialized "NoiseRingModel"]) (List.forall_mem_cons.mpr ⟨u353, List.forall_mem_cons.mpr ⟨u354, List.forall_mem_cons.mpr ⟨u30, fun _ h => by cases h⟩⟩⟩) u355) rfl rfl rfl (by decide +kernel) ⟨Nat.le_of_ble_eq_true rfl, Nat.le_of_ble_eq_true rfl⟩) gn_S rfl rfl hl.1 rfl (lv_room (Nat.le_of_ble_eq_true rfl)) dX1_size_2 ⟨Nat.le_of_ble_eq_true rfl, Nat.le_of_ble_eq_true rfl⟩)) (fun r2 hr2 => ?_)
  subst hr2
  refine ix_if_eq (tgt := 12) hx hb (by omega) (by omega) dX1_size_5 (by decide) (fun h5 => ?_) (fun h5 => ?_)
  · skip
    refine ix_iconst hx hb dX1_size_12 ?_
    refine gm_put0 hx hb hts hown hG hS u324 dX1_size_13 (fun H1 locs1 hG hS => ?_)
    obtain ⟨r, rfl⟩ := Int.eq_ofNat_of_zero_le (show 0 ≤ r by omega)
    refine ix_iconst hx hb dX1_size_16 ?_
    refine lv_istore_n (lv' := [(2, .int (iI (sMax q (M r) (0)))), (0, .ref (mo ω)), (1, .int (iI (r)))]) hx hb dX1_size_17 rfl hl (by decide) rfl (fun ls hl => ?_)
    refine ix_iconst hx hb dX1_size_18 ?_
    refine lv_istore_n (lv' := [(3, .int (iI (0))), (2, .int (iI (sMax q (M r) (0)))), (0, .ref (mo ω)), (1, .int (iI (r)))]) hx hb dX1_size_19 rfl hl (by decide) rfl (fun ls hl => ?_)
    refine ix_loop (I := fun j ls => lv_has ls 4 [(3, .int (iI ((j : Nat)))), (2, .int (iI (sMax q (M r) (j)))), (0, .ref (mo ω)), (1, .int (iI (r)))]) (16) 0 (by omega) (lv_sub hl [0, 1, 2, 3] rfl) (fun ls hl => ?_) (fun j ls hj hl ih20 => ?_)
    · skip
      have hl : lv_has ls 4 [(3, .int (iI ((16 : Nat)))), (2, .int (iI (sMax q (M r) (16)))), (0, .ref (mo ω)), (1, .int (iI (r)))] := hl
      refine lv_iload_n hx hb dX1_size_20 rfl (lv_at hl 0 rfl) ?_
      refine ix_bipush hx hb (by decide) dX1_size_21 ?_
      refine ix_icmp_ge (tgt := 54) hx hb (by omega) (by omega) (by omega) (by omega) dX1_size_23 (by decide) (fun h23 => ?_) (fun h23 => absurd h23 (by omega))
      refine lv_iload_n hx hb dX1_size_54 rfl (lv_at hl 1 rfl) ?_
      exact W.iret hx hb hrt (fun t ht hW => ⟨⟨_, (0, f), rfl, Or.inl ⟨by omega, rfl, rfl⟩, ⟨fun _ => by have h9 := hG.2; rw [← ht] at h9; exact h9, fun g9 => absurd rfl g9⟩⟩, hS.F ht⟩) hS.2.2 dX1_size_55
    · skip
      have hl : lv_has ls 4 [(3, .int (iI ((j : Nat)))), (2, .int (iI (sMax q (M r) (j)))), (0, .ref (mo ω)), (1, .int (iI (r)))] := hl
      refine lv_iload_n hx hb dX1_size_20 rfl (lv_at hl 0 rfl) ?_
      refine ix_bipush hx hb (by decide) dX1_size_21 ?_
      refine ix_icmp_ge (tgt := 54) hx hb (by omega) (by omega) (by omega) (by omega) dX1_size_23 (by decide) (fun h23 => absurd h23 (by omega)) (fun h23 => ?_)
      refine lv_aload_n hx hb dX1_size_26 rfl (lv_at hl 2 rfl) ?_
      refine gm_get hx hb hts hown hG 0 (by decide) rfl u324 dX1_size_27 ?_
      refine ix_if_ne (tgt := 54) hx hb (by omega) (by omega) dX1_size_30 (by decide) (fun h30 => absurd h30 (by omega)) (fun h30 => ?_)
      have hm := hM r j (by omega) hj
      have hx1 := sMax_in (q := q) (f := M r) (n := j) (by omega) (fun i hi => hM r i (by omega) (by omega))
      have hc := sCs_in hm.1 hm.2
      refine lv_iload_n hx hb dX1_size_33 rfl (lv_at hl 1 rfl) ?_
      refine lv_aload_n hx hb dX1_size_34 rfl (lv_at hl 2 rfl) ?_
      refine lv_aload_n hx hb dX1_size_35 rfl (lv_at hl 2 rfl) ?_
      refine lv_iload_n hx hb dX1_size_36 rfl (lv_at hl 3 rfl) ?_
      refine lv_iload_n hx hb dX1_size_37 rfl (lv_at hl 0 rfl) ?_
      refine vp_callSi (va_Run.run (va_runV (As := [.int (iI (r)), .int (iI ((j : Nat)))]) (rest := [.ref (mo ω), .int (iI (sMax q (M r) (j)))]) ⟨hx, hb, hml, hown, hts⟩ (m_at l ω (0) (k) (q) (M) (f) (r) (j) (by omega) (by omega)) (cwV 2 hts (gU (hd := [.methodLink "NoiseRingModel" 45 yX1_at, .instanceMethod yX1_at, .selects "NoiseRingModel" yX1_at yX1_at, .initialized "NoiseRingModel"]) (List.forall_mem_cons.mpr ⟨u356, List.forall_mem_cons.mpr ⟨u357, List.forall_mem_cons.mpr ⟨u16, List.forall_mem_cons.mpr ⟨u30, fun _ h => by cases h⟩⟩⟩⟩) u358) rfl rfl rfl (by decide +kernel) ⟨Nat.le_of_ble_eq_true rfl, Nat.le_of_ble_eq_true rfl⟩) (gm_V hG) rfl rfl hl.1 rfl (lv_room (Nat.le_of_ble_eq_true rfl)) dX1_size_38 ⟨Nat.le_of_ble_eq_true rfl, Nat.le_of_ble_eq_true rfl⟩)) (fun r38 hr38 => ?_)
      subst hr38
      refine vp_callSi (va_Run.run (va_runV (As := [.int (iI (M (r) (j)))]) (rest := [.int (iI (sMax q (M r) (j)))]) ⟨hx, hb, hml, hown, hts⟩ (m_size0 l ω (0) (k) (q) (M) (f) (M (r) (j)) hq1 hq2 qo (by omega) (by omega)) (cwV 1 hts (gU (hd := [.methodLink "NoiseRingModel" 29 yX1_size0, .instanceMethod yX1_size0, .selects "NoiseRingModel" yX1_size0 yX1_size0, .initialized "NoiseRingModel"]) (List.forall_mem_cons.mpr ⟨u377, List.forall_mem_cons.mpr ⟨u378, List.forall_mem_cons.mpr ⟨u20, List.forall_mem_cons.mpr ⟨u30, fun _ h => by cases h⟩⟩⟩⟩) u379) rfl rfl rfl (by decide +kernel) ⟨Nat.le_of_ble_eq_true rfl, Nat.le_of_ble_eq_true rfl⟩) (gm_V hG) rfl rfl hl.1 rfl (lv_room (Nat.le_of_ble_eq_true rfl)) dX1_size_41 ⟨Nat.le_of_ble_eq_true rfl, Nat.le_of_ble_eq_true rfl⟩)) (fun r41 hr41 => ?_)
      subst hr41
      refine ix_mmax hx hb hts (hml.trans hl.1.symm) hown u380 (by omega) (by omega) (by omega) (by omega) (Nat.le_of_ble_eq_true rfl) (Nat.le_of_ble_eq_true rfl) (Nat.le_of_ble_eq_true rfl) (Nat.le_of_ble_eq_true rfl) dX1_size_44 ?_
      refine wx_i (congrArg iI (show (if sMax q (M r) (j) < sCs q (M (r) (j)) then sCs q (M (r) (j)) else sMax q (M r) (j)) = sMax q (M r) (j + 1) by rw [sMax]; split <;> omega)) ?_
      refine lv_istore_n (lv' := [(2, .int (iI (sMax q (M r) (j + 1)))), (3, .int (iI ((j : Nat)))), (0, .ref (mo ω)), (1, .int (iI (r)))]) hx hb dX1_size_47 rfl hl (by decide) rfl (fun ls hl => ?_)
      refine lv_iinc (k := 1) (v := iI ((j : Nat) + 1)) (lv' := [(3, .int (iI ((j : Nat) + 1))), (2, .int (iI (sMax q (M r) (j + 1)))), (0, .ref (mo ω)), (1, .int (iI (r)))]) hx hb dX1_size_48 hl rfl (iI_add _ _) (by decide) rfl (fun ls hl => ?_)
      refine lv_goto (tgt := 20) hx hb dX1_size_51 (by decide) ?_
      exact ih20 ls (lv_sub hl [0, 1, 2, 3] rfl)
  · skip
    refine ix_iconst hx hb dX1_size_8 ?_
    refine lv_goto (tgt := 13) hx hb dX1_size_9 (by decide) ?_
    refine gm_put0 hx hb hts hown hG hS u324 dX1_size_13 (fun H1 locs1 hG hS => ?_)
    refine ix_iconst hx hb dX1_size_16 ?_
    refine lv_istore_n (lv' := [(2, .int (iI (0))), (0, .ref (mo ω)), (1, .int (iI (r)))]) hx hb dX1_size_17 rfl hl (by decide) rfl (fun ls hl => ?_)
    refine ix_iconst hx hb dX1_size_18 ?_
    refine lv_istore_n (lv' := [(3, .int (iI (0))), (2, .int (iI (0))), (0, .ref (mo ω)), (1, .int (iI (r)))]) hx hb dX1_size_19 rfl hl (by decide) rfl (fun ls hl => ?_)
    refine lv_iload_n hx hb dX1_size_20 rfl (lv_at hl 0 rfl) ?_
    refine ix_bipush hx hb (by decide) dX1_size_21 ?_
    refine ix_icmp_ge (tgt := 54) hx hb (by omega) (by omega) (by omega) (by omega) dX1_size_23 (by decide) (fun h23 => absurd h23 (by omega)) (fun h23 => ?_)
    refine lv_aload_n hx hb dX1_size_26 rfl (lv_at hl 2 rfl) ?_
    refine gm_get hx hb hts hown hG 0 (by decide) rfl u324 dX1_size_27 ?_
    refine ix_if_ne (tgt := 54) hx hb (by omega) (by omega) dX1_size_30 (by decide) (fun h30 => ?_) (fun h30 => absurd h30 (by omega))
    refine lv_iload_n hx hb dX1_size_54 rfl (lv_at hl 1 rfl) ?_
    exact W.iret hx hb hrt (fun t ht hW => ⟨⟨_, (1, f), rfl, Or.inr ⟨by omega, rfl⟩, ⟨fun g9 => absurd g9 (show ¬ (1 : Int) = 0 by decide), fun _ => by have h9 := hG.2; rw [← ht] at h9; exact h9⟩⟩, hS.F ht⟩) hS.2.2 dX1_size_55
set_option maxHeartbeats 4000000 in
set_option maxRecDepth 100000 in
theorem m_far (l : Launch) (ω : WM) (th k q : Int) (M : Nat → Nat → Int) (f : Nat → Int) (a b : Int) (a1 : -2147483648 ≤ a) (a2 : a < 2147483648) (b1 : -2147483648 ≤ b) (b2 : b < 2147483648) (hq1 : 3329 ≤ q) (hq2 : q ≤ 8380417) (qo : q % 2 = 1) (hM : ∀ r i, r < 12 → i < 16 → 0 ≤ M r i ∧ M r i < q) : Met l yX1_far wsX1_far ({ frames := 2, cells := 0, slots := 0, locals := 47 }) (va_Pc [.ref (mo ω), .int (iI (a)), .int (iI (b))] (fun U => GM ω th k q M f U U.heap)) (va_Qi (fun r_ (w_ : Int × (Nat → Int)) => ((0 ≤ a ∧ a < 12) ∧ (0 ≤ b ∧ b < 12)) ∧ w_.1 = 0 ∧ r_ = iI (sFar q (M a.toNat) (M b.toNat) 16) ∨ (¬ ((0 ≤ a ∧ a < 12) ∧ (0 ≤ b ∧ b < 12))) ∧ w_.1 = 1) (fun (w_ : Int × (Nat → Int)) t => BM ω k q M k q M w_ t) (Am ω)) 0 0 (Am ω) := by
  refine Met.ofW (cc := cX1_far) (maxL := 5) (ret := (some .int)) (by decide +kernel) rfl ?_
  intro p e s m args below meth c s₁ B hml hv
  obtain ⟨rfl, hG⟩ := hv
  have hx := B.exec
  have hb := B.bytes
  have hrt := B.returns
  have hts : ∀ w ∈ wsU, w.before _ s = true := fun w h => atoms_spec (ws := wsX1_far) B.pre w (List.mem_cons_of_mem _ h)
  have hown : s.vm.findClass "NoiseRingModel" = some m.cls := findClass_of_methodNamed B.named
  have hlocks := B.notSynchronized
  have hS : va_S (Am ω) s.heap s.heap [] := va_S.rf
  have hl := lv_entry ([.ref (mo ω), .int (iI (a)), .int (iI (b))]) (n := 5) (Nat.le_of_ble_eq_true rfl)
  rw [lg_entry_eq]
  generalize (lg_sl ([.ref (mo ω), .int (iI (a)), .int (iI (b))]) ++ List.replicate (5 - (lg_sl ([.ref (mo ω), .int (iI (a)), .int (iI (b))])).length) Slot.unset).toArray = ls at hl ⊢
  have hl : lv_has ls 5 [(0, .ref (mo ω)), (1, .int (iI (a))), (2, .int (iI (b)))] := hl
  refine lv_aload_n hx hb dX1_far_0 rfl (lv_at hl 0 rfl) ?_
  refine lv_iload_n hx hb dX1_far_1 rfl (lv_at hl 1 rfl) ?_
  refine vp_callSi (va_Run.run (va_runS (As := [.int (iI (a))]) (rest := [.ref (mo ω)]) ⟨hx, hb, hml, hown, hts⟩ (m_none l (a) (by omega) (by omega)) (va_cwS 1 hts (gU (hd := [.methodLink "NoiseRingModel" 41 yX1_none, .static yX1_none, .initialized "NoiseRingModel"]) (List.forall_mem_cons.mpr ⟨u353, List.forall_mem_cons.mpr ⟨u354, List.forall_mem_cons.mpr ⟨u30, fun _ h => by cases h⟩⟩⟩) u355) rfl rfl rfl (by decide +kernel) ⟨Nat.le_of_ble_eq_true rfl, Nat.le_of_ble_eq_true rfl⟩) gn_S rfl rfl hl.1 rfl (lv_room (Nat.le_of_ble_eq_true rfl)) dX1_far_2 ⟨Nat.le_of_ble_eq_true rfl, Nat.le_of_ble_eq_true rfl⟩)) (fun r2 hr2 => ?_)
  subst hr2
  refine ix_if_ne (tgt := 15) hx hb (by omega) (by omega) dX1_far_5 (by decide) (fun h5 => ?_) (fun h5 => ?_)
  · skip
    refine ix_iconst hx hb dX1_far_15 ?_
    refine lv_goto (tgt := 20) hx hb dX1_far_16 (by decide) ?_
    refine gm_put0 hx hb hts hown hG hS u324 dX1_far_20 (fun H1 locs1 hG hS => ?_)
    refine ix_iconst hx hb dX1_far_23 ?_
    refine lv_istore_n (lv' := [(3, .int (iI (0))), (0, .ref (mo ω)), (1, .int (iI (a))), (2, .int (iI (b)))]) hx hb dX1_far_24 rfl hl (by decide) rfl (fun ls hl => ?_)
    refine ix_iconst hx hb dX1_far_25 ?_
    refine lv_istore (lv' := [(4, .int (iI (0))), (3, .int (iI (0))), (0, .ref (mo ω)), (1, .int (iI (a))), (2, .int (iI (b)))]) hx hb dX1_far_26 hl (by decide) rfl (fun ls hl => ?_)
    refine lv_iload hx hb dX1_far_28 (lv_at hl 0 rfl) ?_
    refine ix_bipush hx hb (by decide) dX1_far_30 ?_
    refine ix_icmp_ge (tgt := 76) hx hb (by omega) (by omega) (by omega) (by omega) dX1_far_32 (by decide) (fun h32 => absurd h32 (by omega)) (fun h32 => ?_)
    refine lv_aload_n hx hb dX1_far_35 rfl (lv_at hl 2 rfl) ?_
    refine gm_get hx hb hts hown hG 0 (by decide) rfl u324 dX1_far_36 ?_
    refine ix_if_ne (tgt := 76) hx hb (by omega) (by omega) dX1_far_39 (by decide) (fun h39 => ?_) (fun h39 => absurd h39 (by omega))
    refine lv_iload_n hx hb dX1_far_76 rfl (lv_at hl 1 rfl) ?_
    exact W.iret hx hb hrt (fun t ht hW => ⟨⟨_, (1, f), rfl, Or.inr ⟨by omega, rfl⟩, ⟨fun g9 => absurd g9 (show ¬ (1 : Int) = 0 by decide), fun _ => by have h9 := hG.2; rw [← ht] at h9; exact h9⟩⟩, hS.F ht⟩) hS.2.2 dX1_far_77
  · skip
    refine lv_iload_n hx hb dX1_far_8 rfl (lv_at hl 2 rfl) ?_
    refine vp_callSi (va_Run.run (va_runS (As := [.int (iI (b))]) (rest := [.ref (mo ω)]) ⟨hx, hb, hml, hown, hts⟩ (m_none l (b) (by omega) (by omega)) (va_cwS 1 hts (gU (hd := [.methodLink "NoiseRingModel" 41 yX1_none, .static yX1_none, .initialized "NoiseRingModel"]) (List.forall_mem_cons.mpr ⟨u353, List.forall_mem_cons.mpr ⟨u354, List.forall_mem_cons.mpr ⟨u30, fun _ h => by cases h⟩⟩⟩) u355) rfl rfl rfl (by decide +kernel) ⟨Nat.le_of_ble_eq_true rfl, Nat.le_of_ble_eq_true rfl⟩) gn_S rfl rfl hl.1 rfl (lv_room (Nat.le_of_ble_eq_true rfl)) dX1_far_9 ⟨Nat.le_of_ble_eq_true rfl, Nat.le_of_ble_eq_true rfl⟩)) (fun r9 hr9 => ?_)
    subst hr9
    refine ix_if_eq (tgt := 19) hx hb (by omega) (by omega) dX1_far_12 (by decide) (fun h12 => ?_) (fun h12 => ?_)
    · skip
      refine ix_iconst hx hb dX1_far_19 ?_
      refine gm_put0 hx hb hts hown hG hS u324 dX1_far_20 (fun H1 locs1 hG hS => ?_)
      obtain ⟨a, rfl⟩ := Int.eq_ofNat_of_zero_le (show 0 ≤ a by omega)
      obtain ⟨b, rfl⟩ := Int.eq_ofNat_of_zero_le (show 0 ≤ b by omega)
      refine ix_iconst hx hb dX1_far_23 ?_
      refine lv_istore_n (lv' := [(3, .int (iI (sFar q (M a) (M b) (0)))), (0, .ref (mo ω)), (1, .int (iI (a))), (2, .int (iI (b)))]) hx hb dX1_far_24 rfl hl (by decide) rfl (fun ls hl => ?_)
      refine ix_iconst hx hb dX1_far_25 ?_
      refine lv_istore (lv' := [(4, .int (iI (0))), (3, .int (iI (sFar q (M a) (M b) (0)))), (0, .ref (mo ω)), (1, .int (iI (a))), (2, .int (iI (b)))]) hx hb dX1_far_26 hl (by decide) rfl (fun ls hl => ?_)
      refine ix_loop (I := fun j ls => lv_has ls 5 [(4, .int (iI ((j : Nat)))), (3, .int (iI (sFar q (M a) (M b) (j)))), (0, .ref (mo ω)), (1, .int (iI (a))), (2, .int (iI (b)))]) (16) 0 (by omega) (lv_sub hl [0, 1, 2, 3, 4] rfl) (fun ls hl => ?_) (fun j ls hj hl ih28 => ?_)
      · skip
        have hl : lv_has ls 5 [(4, .int (iI ((16 : Nat)))), (3, .int (iI (sFar q (M a) (M b) (16)))), (0, .ref (mo ω)), (1, .int (iI (a))), (2, .int (iI (b)))] := hl
        refine lv_iload hx hb dX1_far_28 (lv_at hl 0 rfl) ?_
        refine ix_bipush hx hb (by decide) dX1_far_30 ?_
        refine ix_icmp_ge (tgt := 76) hx hb (by omega) (by omega) (by omega) (by omega) dX1_far_32 (by decide) (fun h32 => ?_) (fun h32 => absurd h32 (by omega))
        refine lv_iload_n hx hb dX1_far_76 rfl (lv_at hl 1 rfl) ?_
        exact W.iret hx hb hrt (fun t ht hW => ⟨⟨_, (0, f), rfl, Or.inl ⟨by omega, rfl, rfl⟩, ⟨fun _ => by have h9 := hG.2; rw [← ht] at h9; exact h9, fun g9 => absurd rfl g9⟩⟩, hS.F ht⟩) hS.2.2 dX1_far_77
      · skip
        have hl : lv_has ls 5 [(4, .int (iI ((j : Nat)))), (3, .int (iI (sFar q (M a) (M b) (j)))), (0, .ref (mo ω)), (1, .int (iI (a))), (2, .int (iI (b)))] := hl
        refine lv_iload hx hb dX1_far_28 (lv_at hl 0 rfl) ?_
        refine ix_bipush hx hb (by decide) dX1_far_30 ?_
        refine ix_icmp_ge (tgt := 76) hx hb (by omega) (by omega) (by omega) (by omega) dX1_far_32 (by decide) (fun h32 => absurd h32 (by omega)) (fun h32 => ?_)
        refine lv_aload_n hx hb dX1_far_35 rfl (lv_at hl 2 rfl) ?_
        refine gm_get hx hb hts hown hG 0 (by decide) rfl u324 dX1_far_36 ?_
        refine ix_if_ne (tgt := 76) hx hb (by omega) (by omega) dX1_far_39 (by decide) (fun h39 => absurd h39 (by omega)) (fun h39 => ?_)
        have hm := hM a j (by omega) hj
        have hmb := hM b j (by omega) hj
        have ho1 := Int.emod_nonneg (M a j - M b j) (show q ≠ 0 by omega)
        have ho2 := Int.emod_lt_of_pos (M a j - M b j) (show 0 < q by omega)
        refine lv_iload_n hx hb dX1_far_42 rfl (lv_at hl 1 rfl) ?_
        refine lv_aload_n hx hb dX1_far_43 rfl (lv_at hl 2 rfl) ?_
        refine lv_aload_n hx hb dX1_far_44 rfl (lv_at hl 2 rfl) ?_
        refine lv_aload_n hx hb dX1_far_45 rfl (lv_at hl 2 rfl) ?_
        refine lv_iload_n hx hb dX1_far_46 rfl (lv_at hl 3 rfl) ?_
        refine lv_iload hx hb dX1_far_47 (lv_at hl 0 rfl) ?_
        refine vp_callSi (va_Run.run (va_runV (As := [.int (iI (a)), .int (iI ((j : Nat)))]) (rest := [.ref (mo ω), .ref (mo ω), .int (iI (sFar q (M a) (M b) (j)))]) ⟨hx, hb, hml, hown, hts⟩ (m_at l ω (0) (k) (q) (M) (f) (a) (j) (by omega) (by omega)) (cwV 2 hts (gU (hd := [.methodLink "NoiseRingModel" 45 yX1_at, .instanceMethod yX1_at, .selects "NoiseRingModel" yX1_at yX1_at, .initialized "NoiseRingModel"]) (List.forall_mem_cons.mpr ⟨u356, List.forall_mem_cons.mpr ⟨u357, List.forall_mem_cons.mpr ⟨u16, List.forall_mem_cons.mpr ⟨u30, fun _ h => by cases h⟩⟩⟩⟩) u358) rfl rfl rfl (by decide +kernel) ⟨Nat.le_of_ble_eq_true rfl, Nat.le_of_ble_eq_true rfl⟩) (gm_V hG) rfl rfl hl.1 rfl (lv_room (Nat.le_of_ble_eq_true rfl)) dX1_far_49 ⟨Nat.le_of_ble_eq_true rfl, Nat.le_of_ble_eq_true rfl⟩)) (fun r49 hr49 => ?_)
        subst hr49
        refine ix_i2l hx hb (by omega) (by omega) dX1_far_52 ?_
        refine lv_aload_n hx hb dX1_far_53 rfl (lv_at hl 2 rfl) ?_
        refine lv_iload_n hx hb dX1_far_54 rfl (lv_at hl 4 rfl) ?_
        refine lv_iload hx hb dX1_far_55 (lv_at hl 0 rfl) ?_
        refine vp_callSi (va_Run.run (va_runV (As := [.int (iI (b)), .int (iI ((j : Nat)))]) (rest := [.long (lI (M (a) (j))), .ref (mo ω), .ref (mo ω), .int (iI (sFar q (M a) (M b) (j)))]) ⟨hx, hb, hml, hown, hts⟩ (m_at l ω (0) (k) (q) (M) (f) (b) (j) (by omega) (by omega)) (cwV 2 hts (gU (hd := [.methodLink "NoiseRingModel" 45 yX1_at, .instanceMethod yX1_at, .selects "NoiseRingModel" yX1_at yX1_at, .initialized "NoiseRingModel"]) (List.forall_mem_cons.mpr ⟨u356, List.forall_mem_cons.mpr ⟨u357, List.forall_mem_cons.mpr ⟨u16, List.forall_mem_cons.mpr ⟨u30, fun _ h => by cases h⟩⟩⟩⟩) u358) rfl rfl rfl (by decide +kernel) ⟨Nat.le_of_ble_eq_true rfl, Nat.le_of_ble_eq_true rfl⟩) (gm_V hG) rfl rfl hl.1 rfl (lv_room (Nat.le_of_ble_eq_true rfl)) dX1_far_57 ⟨Nat.le_of_ble_eq_true rfl, Nat.le_of_ble_eq_true rfl⟩)) (fun r57 hr57 => ?_)
        subst hr57
        refine ix_i2l hx hb (by omega) (by omega) dX1_far_60 ?_
        refine ix_lsub hx hb dX1_far_61 ?_
        refine vp_callSi (va_Run.run (va_runV (As := [.long (lI ((M (a) (j) - M (b) (j))))]) (rest := [.ref (mo ω), .int (iI (sFar q (M a) (M b) (j)))]) ⟨hx, hb, hml, hown, hts⟩ (m_of l ω (0) (k) (q) (M) (f) ((M (a) (j) - M (b) (j))) hq1 hq2 (by omega) (by omega)) (cwV 1 hts (gU (hd := [.methodLink "NoiseRingModel" 48 yX1_of, .instanceMethod yX1_of, .selects "NoiseRingModel" yX1_of yX1_of, .initialized "NoiseRingModel"]) (List.forall_mem_cons.mpr ⟨u359, List.forall_mem_cons.mpr ⟨u360, List.forall_mem_cons.mpr ⟨u17, List.forall_mem_cons.mpr ⟨u30, fun _ h => by cases h⟩⟩⟩⟩) u361) rfl rfl rfl (by decide +kernel) ⟨Nat.le_of_ble_eq_true rfl, Nat.le_of_ble_eq_true rfl⟩) (gm_V hG) rfl rfl hl.1 rfl (lv_room (Nat.le_of_ble_eq_true rfl)) dX1_far_62 ⟨Nat.le_of_ble_eq_true rfl, Nat.le_of_ble_eq_true rfl⟩)) (fun r62 hr62 => ?_)
        subst hr62
        refine vp_callSi (va_Run.run (va_runV (As := [.int (iI (((M (a) (j) - M (b) (j))) % q))]) (rest := [.int (iI (sFar q (M a) (M b) (j)))]) ⟨hx, hb, hml, hown, hts⟩ (m_size0 l ω (0) (k) (q) (M) (f) (((M (a) (j) - M (b) (j))) % q) hq1 hq2 qo (by omega) (by omega)) (cwV 1 hts (gU (hd := [.methodLink "NoiseRingModel" 29 yX1_size0, .instanceMethod yX1_size0, .selects "NoiseRingModel" yX1_size0 yX1_size0, .initialized "NoiseRingModel"]) (List.forall_mem_cons.mpr ⟨u377, List.forall_mem_cons.mpr ⟨u378, List.forall_mem_cons.mpr ⟨u20, List.forall_mem_cons.mpr ⟨u30, fun _ h => by cases h⟩⟩⟩⟩) u379) rfl rfl rfl (by decide +kernel) ⟨Nat.le_of_ble_eq_true rfl, Nat.le_of_ble_eq_true rfl⟩) (gm_V hG) rfl rfl hl.1 rfl (lv_room (Nat.le_of_ble_eq_true rfl)) dX1_far_65 ⟨Nat.le_of_ble_eq_true rfl, Nat.le_of_ble_eq_true rfl⟩)) (fun r65 hr65 => ?_)
        subst hr65
        refine ix_iadd hx hb dX1_far_68 ?_
        refine lv_istore_n (lv' := [(3, .int (iI (sFar q (M a) (M b) (j + 1)))), (4, .int (iI ((j : Nat)))), (0, .ref (mo ω)), (1, .int (iI (a))), (2, .int (iI (b)))]) hx hb dX1_far_69 rfl hl (by decide) rfl (fun ls hl => ?_)
        refine lv_iinc (k := 1) (v := iI ((j : Nat) + 1)) (lv' := [(4, .int (iI ((j : Nat) + 1))), (3, .int (iI (sFar q (M a) (M b) (j + 1)))), (0, .ref (mo ω)), (1, .int (iI (a))), (2, .int (iI (b)))]) hx hb dX1_far_70 hl rfl (iI_add _ _) (by decide) rfl (fun ls hl => ?_)
        refine lv_goto (tgt := 28) hx hb dX1_far_73 (by decide) ?_
        exact ih28 ls (lv_sub hl [0, 1, 2, 3, 4] rfl)
    · skip
      refine ix_iconst hx hb dX1_far_15 ?_
      refine lv_goto (tgt := 20) hx hb dX1_far_16 (by decide) ?_
      refine gm_put0 hx hb hts hown hG hS u324 dX1_far_20 (fun H1 locs1 hG hS => ?_)
      refine ix_iconst hx hb dX1_far_23 ?_
      refine lv_istore_n (lv' := [(3, .int (iI (0))), (0, .ref (mo ω)), (1, .int (iI (a))), (2, .int (iI (b)))]) hx hb dX1_far_24 rfl hl (by decide) rfl (fun ls hl => ?_)
      refine ix_iconst hx hb dX1_far_25 ?_
      refine lv_istore (lv' := [(4, .int (iI (0))), (3, .int (iI (0))), (0, .ref (mo ω)), (1, .int (iI (a))), (2, .int (iI (b)))]) hx hb dX1_far_26 hl (by decide) rfl (fun ls hl => ?_)
      refine lv_iload hx hb dX1_far_28 (lv_at hl 0 rfl) ?_
      refine ix_bipush hx hb (by decide) dX1_far_30 ?_
      refine ix_icmp_ge (tgt := 76) hx hb (by omega) (by omega) (by omega) (by omega) dX1_far_32 (by decide) (fun h32 => absurd h32 (by omega)) (fun h32 => ?_)
      refine lv_aload_n hx hb dX1_far_35 rfl (lv_at hl 2 rfl) ?_
      refine gm_get hx hb hts hown hG 0 (by decide) rfl u324 dX1_far_36 ?_
      refine ix_if_ne (tgt := 76) hx hb (by omega) (by omega) dX1_far_39 (by decide) (fun h39 => ?_) (fun h39 => absurd h39 (by omega))
      refine lv_iload_n hx hb dX1_far_76 rfl (lv_at hl 1 rfl) ?_
      exact W.iret hx hb hrt (fun t ht hW => ⟨⟨_, (1, f), rfl, Or.inr ⟨by omega, rfl⟩, ⟨fun g9 => absurd g9 (show ¬ (1 : Int) = 0 by decide), fun _ => by have h9 := hG.2; rw [← ht] at h9; exact h9⟩⟩, hS.F ht⟩) hS.2.2 dX1_far_77

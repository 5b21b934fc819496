/-! Contracts of the class's read-only helpers, by program (wip/gen/x0.py). -/
theorem sProd_in {q : Int} {a b : Nat → Int} {k : Nat} (hq : q ≤ 8380417) (ha : ∀ i, i < 16 → 0 ≤ a i ∧ a i < q) (hb : ∀ i, i < 16 → 0 ≤ b i ∧ b i < q) (hk : k < 16) (n : Nat) (hn : n ≤ 16) : -(n * 70231389093889) ≤ sProd a b k n ∧ sProd a b k n ≤ n * 70231389093889 := by
  induction n with
  | zero => exact ⟨Int.le_refl _, Int.le_refl _⟩
  | succ n ih =>
    have h1 := ih (by omega)
    have h2 := ha n (by omega)
    rw [sProd]
    split
    · have h3 := hb (k - n) (by omega)
      have h4 := Int.mul_nonneg h2.1 h3.1
      have h5 : a n * b (k - n) ≤ 8380417 * 8380417 := Int.mul_le_mul (by omega) (by omega) h3.1 (by decide)
      omega
    · have h3 := hb (16 + k - n) (by omega)
      have h4 := Int.mul_nonneg h2.1 h3.1
      have h5 : a n * b (16 + k - n) ≤ 8380417 * 8380417 := Int.mul_le_mul (by omega) (by omega) h3.1 (by decide)
      omega
set_option maxHeartbeats 4000000 in
set_option maxRecDepth 100000 in
theorem c_productAt (l : Launch) (ω : WX) (k q z : Int) (M : Nat → Nat → Int) (wk : Nat → Int) (ra rb pl : Nat) (ha : ra < 12) (hb0 : rb < 12) (p2 : pl < 16) (hq1 : 3329 ≤ q) (hq2 : q ≤ 8380417) (hM : ∀ r i, r < 12 → i < 16 → 0 ≤ M r i ∧ M r i < q) : Met l yX0_productAt wsX0_productAt ({ frames := 1, cells := 0, slots := 0, locals := 25 }) (va_Pc [.ref (ox ω), .ref (oR ω (ra)), .ref (oR ω (rb)), .int (iI (pl))] (fun U => GX ω k q z M wk U U.heap)) (vp_Si (fun r_ => r_ = iI (sProd (M ra) (M rb) pl 16 % q))) 0 0 (fun _ => False) := by
  refine Met.ofW (cc := cX0_productAt) (maxL := 7) (ret := (some .int)) (by decide +kernel) rfl ?_
  intro p e s m args below meth c s₁ B hml hv
  obtain ⟨rfl, hG⟩ := hv
  have hx := B.exec
  have hb := B.bytes
  have hrt := B.returns
  have hts : ∀ w ∈ wsU, w.before _ s = true := fun w h => atoms_spec (ws := wsX0_productAt) B.pre w (List.mem_cons_of_mem _ h)
  have hown : s.vm.findClass "NoiseRing" = some m.cls := findClass_of_methodNamed B.named
  have hlocks := B.notSynchronized
  have hl := lv_entry ([.ref (ox ω), .ref (oR ω (ra)), .ref (oR ω (rb)), .int (iI (pl))]) (n := 7) (Nat.le_of_ble_eq_true rfl)
  rw [lg_entry_eq]
  generalize (lg_sl ([.ref (ox ω), .ref (oR ω (ra)), .ref (oR ω (rb)), .int (iI (pl))]) ++ List.replicate (7 - (lg_sl ([.ref (ox ω), .ref (oR ω (ra)), .ref (oR ω (rb)), .int (iI (pl))])).length) Slot.unset).toArray = ls at hl ⊢
  have hl : lv_has ls 7 [(0, .ref (ox ω)), (1, .ref (oR ω (ra))), (2, .ref (oR ω (rb))), (3, .int (iI (pl)))] := hl
  refine ix_lconst0 hx hb dX0_productAt_0 ?_
  refine lv_lstore (lv' := [(4, .long (lI (sProd (M ra) (M rb) pl (0)))), (0, .ref (ox ω)), (1, .ref (oR ω (ra))), (2, .ref (oR ω (rb))), (3, .int (iI (pl)))]) hx hb dX0_productAt_1 hl (by decide) rfl (fun ls hl => ?_)
  refine ix_iconst hx hb dX0_productAt_3 ?_
  refine lv_istore (lv' := [(6, .int (iI (0))), (4, .long (lI (sProd (M ra) (M rb) pl (0)))), (0, .ref (ox ω)), (1, .ref (oR ω (ra))), (2, .ref (oR ω (rb))), (3, .int (iI (pl)))]) hx hb dX0_productAt_4 hl (by decide) rfl (fun ls hl => ?_)
  refine ix_loop (I := fun j ls => lv_has ls 7 [(6, .int (iI ((j : Nat)))), (4, .long (lI (sProd (M ra) (M rb) pl (j)))), (0, .ref (ox ω)), (1, .ref (oR ω (ra))), (2, .ref (oR ω (rb))), (3, .int (iI (pl)))]) (pl + 1) 0 (by omega) (lv_sub hl [0, 1, 2, 3, 4, 5] rfl) (fun ls hl => ?_) (fun j ls hj hl ih6 => ?_)
  · skip
    have hl : lv_has ls 7 [(6, .int (iI ((pl + 1 : Nat)))), (4, .long (lI (sProd (M ra) (M rb) pl (pl + 1)))), (0, .ref (ox ω)), (1, .ref (oR ω (ra))), (2, .ref (oR ω (rb))), (3, .int (iI (pl)))] := hl
    refine lv_iload hx hb dX0_productAt_6 (lv_at hl 0 rfl) ?_
    refine lv_iload_n hx hb dX0_productAt_8 rfl (lv_at hl 5 rfl) ?_
    refine ix_icmp_gt (tgt := 36) hx hb (by omega) (by omega) (by omega) (by omega) dX0_productAt_9 (by decide) (fun h9 => ?_) (fun h9 => absurd h9 (by omega))
    refine lv_iload_n hx hb dX0_productAt_36 rfl (lv_at hl 5 rfl) ?_
    refine ix_iconst hx hb dX0_productAt_37 ?_
    refine ix_iadd hx hb dX0_productAt_38 ?_
    refine lv_istore (lv' := [(6, .int (iI ((pl + 1 + (0) : Nat)))), (4, .long (lI (sProd (M ra) (M rb) pl (pl + 1)))), (0, .ref (ox ω)), (1, .ref (oR ω (ra))), (2, .ref (oR ω (rb))), (3, .int (iI (pl)))]) hx hb dX0_productAt_39 hl (by decide) rfl (fun ls hl => ?_)
    refine ix_loop (I := fun t ls => lv_has ls 7 [(6, .int (iI ((pl + 1 + (t) : Nat)))), (4, .long (lI (sProd (M ra) (M rb) pl (pl + 1 + (t))))), (0, .ref (ox ω)), (1, .ref (oR ω (ra))), (2, .ref (oR ω (rb))), (3, .int (iI (pl)))]) (15 - pl) 0 (by omega) (lv_sub hl [0, 1, 2, 3, 4, 5] rfl) (fun ls hl => ?_) (fun t ls ht hl ih41 => ?_)
    · skip
      have hl : lv_has ls 7 [(6, .int (iI ((pl + 1 + (15 - pl) : Nat)))), (4, .long (lI (sProd (M ra) (M rb) pl (pl + 1 + (15 - pl))))), (0, .ref (ox ω)), (1, .ref (oR ω (ra))), (2, .ref (oR ω (rb))), (3, .int (iI (pl)))] := hl
      refine lv_iload hx hb dX0_productAt_41 (lv_at hl 0 rfl) ?_
      refine ix_bipush hx hb (by decide) dX0_productAt_43 ?_
      refine ix_icmp_ge (tgt := 75) hx hb (by omega) (by omega) (by omega) (by omega) dX0_productAt_45 (by decide) (fun h45 => ?_) (fun h45 => absurd h45 (by omega))
      have hp := sProd_in (q := q) (a := M ra) (b := M rb) (k := pl) hq2 (fun i hi => hM ra i ha hi) (fun i hi => hM rb i hb0 hi) p2 (pl + 1 + (15 - pl)) (by omega)
      refine lv_lload hx hb dX0_productAt_75 (lv_at hl 1 rfl) ?_
      refine lv_aload_n hx hb dX0_productAt_77 rfl (lv_at hl 2 rfl) ?_
      refine gx_get hx hb hts hown hG 3 (by decide) rfl u58 dX0_productAt_78 ?_
      refine ix_i2l hx hb (by omega) (by omega) dX0_productAt_81 ?_
      refine vp_callSl (va_Run.run (va_runS (As := [.long (lI (sProd (M ra) (M rb) pl (pl + 1 + (15 - pl)))), .long (lI (q))]) (rest := []) ⟨hx, hb, hml, hown, hts⟩ (c_floorModL l (sProd (M ra) (M rb) pl (pl + 1 + (15 - pl))) (q) (by omega) (by omega) (by omega) (by omega)) (va_cwS 2 hts (gU (hd := [.methodLink "NoiseRing" 131 yJ_floorModL, .static yJ_floorModL, .initialized "java/lang/Math"]) (List.forall_mem_cons.mpr ⟨u198, List.forall_mem_cons.mpr ⟨u199, List.forall_mem_cons.mpr ⟨u36, fun _ h => by cases h⟩⟩⟩) u200) rfl rfl rfl (by decide +kernel) ⟨Nat.le_of_ble_eq_true rfl, Nat.le_of_ble_eq_true rfl⟩) gn_S rfl rfl hl.1 rfl (lv_room (Nat.le_of_ble_eq_true rfl)) dX0_productAt_82 ⟨Nat.le_of_ble_eq_true rfl, Nat.le_of_ble_eq_true rfl⟩)) (fun r82 hr82 => ?_)
      subst hr82
      refine ix_l2i hx hb dX0_productAt_85 ?_
      exact W.iret hx hb hrt (fun t ht hW => ⟨_, rfl, congrArg iI (by rw [show pl + 1 + (15 - pl) = 16 by omega]), ht⟩) t_nil dX0_productAt_86
    · skip
      have hl : lv_has ls 7 [(6, .int (iI ((pl + 1 + (t) : Nat)))), (4, .long (lI (sProd (M ra) (M rb) pl (pl + 1 + (t))))), (0, .ref (ox ω)), (1, .ref (oR ω (ra))), (2, .ref (oR ω (rb))), (3, .int (iI (pl)))] := hl
      refine lv_iload hx hb dX0_productAt_41 (lv_at hl 0 rfl) ?_
      refine ix_bipush hx hb (by decide) dX0_productAt_43 ?_
      refine ix_icmp_ge (tgt := 75) hx hb (by omega) (by omega) (by omega) (by omega) dX0_productAt_45 (by decide) (fun h45 => absurd h45 (by omega)) (fun h45 => ?_)
      have hm1 := hM ra (pl + 1 + t) ha (by omega)
      have hm2 := hM rb (16 + pl - (pl + 1 + t)) hb0 (by omega)
      refine lv_lload hx hb dX0_productAt_48 (lv_at hl 1 rfl) ?_
      refine lv_aload_n hx hb dX0_productAt_50 rfl (lv_at hl 3 rfl) ?_
      refine lv_iload hx hb dX0_productAt_51 (lv_at hl 0 rfl) ?_
      refine gx_ild (r := ra) (i := pl + 1 + t) hx hb hG (by omega) (by omega) dX0_productAt_53 ?_
      refine ix_i2l hx hb (by omega) (by omega) dX0_productAt_54 ?_
      refine lv_aload_n hx hb dX0_productAt_55 rfl (lv_at hl 4 rfl) ?_
      refine ix_bipush hx hb (by decide) dX0_productAt_56 ?_
      refine lv_iload_n hx hb dX0_productAt_58 rfl (lv_at hl 5 rfl) ?_
      refine ix_iadd hx hb dX0_productAt_59 ?_
      refine lv_iload hx hb dX0_productAt_60 (lv_at hl 0 rfl) ?_
      refine ix_isub hx hb dX0_productAt_62 ?_
      refine wx_i (congrArg iI (show (16 + ((pl : Nat) : Int)) - ((pl + 1 + (t) : Nat) : Int) = ((16 + pl - (pl + 1 + t) : Nat) : Int) by omega)) ?_
      refine gx_ild (r := rb) (i := 16 + pl - (pl + 1 + t)) hx hb hG (by omega) (by omega) dX0_productAt_63 ?_
      refine ix_i2l hx hb (by omega) (by omega) dX0_productAt_64 ?_
      refine ix_lmul hx hb dX0_productAt_65 ?_
      refine ix_lsub hx hb dX0_productAt_66 ?_
      refine wx_l (congrArg lI (show sProd (M ra) (M rb) pl (pl + 1 + (t)) - M (ra) (pl + 1 + t) * M (rb) (16 + pl - (pl + 1 + t)) = sProd (M ra) (M rb) pl (pl + 1 + (t + 1)) by rw [show pl + 1 + (t + 1) = (pl + 1 + t) + 1 by omega, sProd, if_neg (show ¬ pl + 1 + t ≤ pl by omega), Int.sub_eq_add_neg])) ?_
      refine lv_lstore (lv' := [(4, .long (lI (sProd (M ra) (M rb) pl (pl + 1 + (t + 1))))), (6, .int (iI ((pl + 1 + (t) : Nat)))), (0, .ref (ox ω)), (1, .ref (oR ω (ra))), (2, .ref (oR ω (rb))), (3, .int (iI (pl)))]) hx hb dX0_productAt_67 hl (by decide) rfl (fun ls hl => ?_)
      refine lv_iinc (k := 1) (v := iI ((pl + 1 + (t + 1) : Nat))) (lv' := [(6, .int (iI ((pl + 1 + (t + 1) : Nat)))), (4, .long (lI (sProd (M ra) (M rb) pl (pl + 1 + (t + 1))))), (0, .ref (ox ω)), (1, .ref (oR ω (ra))), (2, .ref (oR ω (rb))), (3, .int (iI (pl)))]) hx hb dX0_productAt_69 hl rfl (iI_add _ _) (by decide) rfl (fun ls hl => ?_)
      refine lv_goto (tgt := 41) hx hb dX0_productAt_72 (by decide) ?_
      exact ih41 ls (lv_sub hl [0, 1, 2, 3, 4, 5] rfl)
  · skip
    have hl : lv_has ls 7 [(6, .int (iI ((j : Nat)))), (4, .long (lI (sProd (M ra) (M rb) pl (j)))), (0, .ref (ox ω)), (1, .ref (oR ω (ra))), (2, .ref (oR ω (rb))), (3, .int (iI (pl)))] := hl
    refine lv_iload hx hb dX0_productAt_6 (lv_at hl 0 rfl) ?_
    refine lv_iload_n hx hb dX0_productAt_8 rfl (lv_at hl 5 rfl) ?_
    refine ix_icmp_gt (tgt := 36) hx hb (by omega) (by omega) (by omega) (by omega) dX0_productAt_9 (by decide) (fun h9 => absurd h9 (by omega)) (fun h9 => ?_)
    have hm1 := hM ra j ha (by omega)
    have hm2 := hM rb (pl - j) hb0 (by omega)
    refine lv_lload hx hb dX0_productAt_12 (lv_at hl 1 rfl) ?_
    refine lv_aload_n hx hb dX0_productAt_14 rfl (lv_at hl 3 rfl) ?_
    refine lv_iload hx hb dX0_productAt_15 (lv_at hl 0 rfl) ?_
    refine gx_ild (r := ra) (i := j) hx hb hG (by omega) (by omega) dX0_productAt_17 ?_
    refine ix_i2l hx hb (by omega) (by omega) dX0_productAt_18 ?_
    refine lv_aload_n hx hb dX0_productAt_19 rfl (lv_at hl 4 rfl) ?_
    refine lv_iload_n hx hb dX0_productAt_20 rfl (lv_at hl 5 rfl) ?_
    refine lv_iload hx hb dX0_productAt_21 (lv_at hl 0 rfl) ?_
    refine ix_isub hx hb dX0_productAt_23 ?_
    refine wx_i (congrArg iI (show ((pl : Nat) : Int) - ((j : Nat) : Int) = ((pl - j : Nat) : Int) by omega)) ?_
    refine gx_ild (r := rb) (i := pl - j) hx hb hG (by omega) (by omega) dX0_productAt_24 ?_
    refine ix_i2l hx hb (by omega) (by omega) dX0_productAt_25 ?_
    refine ix_lmul hx hb dX0_productAt_26 ?_
    refine ix_ladd hx hb dX0_productAt_27 ?_
    refine wx_l (congrArg lI (show sProd (M ra) (M rb) pl (j) + M (ra) (j) * M (rb) (pl - j) = sProd (M ra) (M rb) pl (j + 1) by rw [sProd, if_pos (show j ≤ pl by omega)])) ?_
    refine lv_lstore (lv' := [(4, .long (lI (sProd (M ra) (M rb) pl (j + 1)))), (6, .int (iI ((j : Nat)))), (0, .ref (ox ω)), (1, .ref (oR ω (ra))), (2, .ref (oR ω (rb))), (3, .int (iI (pl)))]) hx hb dX0_productAt_28 hl (by decide) rfl (fun ls hl => ?_)
    refine lv_iinc (k := 1) (v := iI ((j : Nat) + 1)) (lv' := [(6, .int (iI ((j : Nat) + 1))), (4, .long (lI (sProd (M ra) (M rb) pl (j + 1)))), (0, .ref (ox ω)), (1, .ref (oR ω (ra))), (2, .ref (oR ω (rb))), (3, .int (iI (pl)))]) hx hb dX0_productAt_30 hl rfl (iI_add _ _) (by decide) rfl (fun ls hl => ?_)
    refine lv_goto (tgt := 6) hx hb dX0_productAt_33 (by decide) ?_
    exact ih6 ls (lv_sub hl [0, 1, 2, 3, 4, 5] rfl)
set_option maxHeartbeats 4000000 in
set_option maxRecDepth 100000 in
theorem c_joined (l : Launch) (ω : WX) (k q z : Int) (M : Nat → Nat → Int) (wk : Nat → Int) (op : Int) (ra rb i : Nat) (op1 : 0 ≤ op) (op2 : op ≤ 2) (ha : ra < 12) (hb0 : rb < 12) (hi : i < 16) (hq1 : 3329 ≤ q) (hq2 : q ≤ 8380417) (hM : ∀ r i, r < 12 → i < 16 → 0 ≤ M r i ∧ M r i < q) : Met l yX0_joined wsX0_joined ({ frames := 2, cells := 0, slots := 0, locals := 51 }) (va_Pc [.ref (ox ω), .int (iI (op)), .ref (oR ω (ra)), .ref (oR ω (rb)), .int (iI (i))] (fun U => GX ω k q z M wk U U.heap)) (vp_Si (fun r_ => r_ = iI (sJoin q op (M ra) (M rb) i))) 0 0 (fun _ => False) := by
  refine Met.ofW (cc := cX0_joined) (maxL := 5) (ret := (some .int)) (by decide +kernel) rfl ?_
  intro p e s m args below meth c s₁ B hml hv
  obtain ⟨rfl, hG⟩ := hv
  have hx := B.exec
  have hb := B.bytes
  have hrt := B.returns
  have hts : ∀ w ∈ wsU, w.before _ s = true := fun w h => atoms_spec (ws := wsX0_joined) B.pre w (List.mem_cons_of_mem _ h)
  have hown : s.vm.findClass "NoiseRing" = some m.cls := findClass_of_methodNamed B.named
  have hlocks := B.notSynchronized
  have hl := lv_entry ([.ref (ox ω), .int (iI (op)), .ref (oR ω (ra)), .ref (oR ω (rb)), .int (iI (i))]) (n := 5) (Nat.le_of_ble_eq_true rfl)
  rw [lg_entry_eq]
  generalize (lg_sl ([.ref (ox ω), .int (iI (op)), .ref (oR ω (ra)), .ref (oR ω (rb)), .int (iI (i))]) ++ List.replicate (5 - (lg_sl ([.ref (ox ω), .int (iI (op)), .ref (oR ω (ra)), .ref (oR ω (rb)), .int (iI (i))])).length) Slot.unset).toArray = ls at hl ⊢
  have hl : lv_has ls 5 [(0, .ref (ox ω)), (1, .int (iI (op))), (2, .ref (oR ω (ra))), (3, .ref (oR ω (rb))), (4, .int (iI (i)))] := hl
  have hm1 := hM ra i ha hi
  have hm2 := hM rb i hb0 hi
  refine lv_iload_n hx hb dX0_joined_0 rfl (lv_at hl 1 rfl) ?_
  rcases (show op = 0 ∨ op = 1 ∨ op = 2 by omega) with rfl | rfl | rfl
  · skip
    refine lv_lookup (tgt := 28) hx hb dX0_joined_1 (by decide) (by rfl) (by decide) ?_
    refine lv_aload_n hx hb dX0_joined_28 rfl (lv_at hl 2 rfl) ?_
    refine lv_iload hx hb dX0_joined_29 (lv_at hl 4 rfl) ?_
    refine gx_ild (r := ra) (i := i) hx hb hG (by omega) (by omega) dX0_joined_31 ?_
    refine lv_aload_n hx hb dX0_joined_32 rfl (lv_at hl 3 rfl) ?_
    refine lv_iload hx hb dX0_joined_33 (lv_at hl 4 rfl) ?_
    refine gx_ild (r := rb) (i := i) hx hb hG (by omega) (by omega) dX0_joined_35 ?_
    refine ix_iadd hx hb dX0_joined_36 ?_
    refine lv_aload_n hx hb dX0_joined_37 rfl (lv_at hl 0 rfl) ?_
    refine gx_get hx hb hts hown hG 3 (by decide) rfl u58 dX0_joined_38 ?_
    refine ix_irem hx hb (by omega) (by omega) (by omega) (by omega) dX0_joined_41 ?_
    exact W.iret hx hb hrt (fun t ht hW => ⟨_, rfl, rfl, ht⟩) t_nil dX0_joined_42
  · skip
    refine lv_lookup (tgt := 43) hx hb dX0_joined_1 (by decide) (by rfl) (by decide) ?_
    refine lv_aload_n hx hb dX0_joined_43 rfl (lv_at hl 2 rfl) ?_
    refine lv_iload hx hb dX0_joined_44 (lv_at hl 4 rfl) ?_
    refine gx_ild (r := ra) (i := i) hx hb hG (by omega) (by omega) dX0_joined_46 ?_
    refine lv_aload_n hx hb dX0_joined_47 rfl (lv_at hl 3 rfl) ?_
    refine lv_iload hx hb dX0_joined_48 (lv_at hl 4 rfl) ?_
    refine gx_ild (r := rb) (i := i) hx hb hG (by omega) (by omega) dX0_joined_50 ?_
    refine ix_isub hx hb dX0_joined_51 ?_
    refine lv_aload_n hx hb dX0_joined_52 rfl (lv_at hl 0 rfl) ?_
    refine gx_get hx hb hts hown hG 3 (by decide) rfl u58 dX0_joined_53 ?_
    refine vp_callSi (va_Run.run (va_runS (As := [.int (iI ((M (ra) (i) - M (rb) (i)))), .int (iI (q))]) (rest := []) ⟨hx, hb, hml, hown, hts⟩ (c_floorModI l ((M (ra) (i) - M (rb) (i))) (q) (by omega) (by omega) (by omega) (by omega)) (va_cwS 2 hts (gU (hd := [.methodLink "NoiseRing" 39 yJ_floorModI, .static yJ_floorModI, .initialized "java/lang/Math"]) (List.forall_mem_cons.mpr ⟨u175, List.forall_mem_cons.mpr ⟨u176, List.forall_mem_cons.mpr ⟨u36, fun _ h => by cases h⟩⟩⟩) u177) rfl rfl rfl (by decide +kernel) ⟨Nat.le_of_ble_eq_true rfl, Nat.le_of_ble_eq_true rfl⟩) gn_S rfl rfl hl.1 rfl (lv_room (Nat.le_of_ble_eq_true rfl)) dX0_joined_56 ⟨Nat.le_of_ble_eq_true rfl, Nat.le_of_ble_eq_true rfl⟩)) (fun r56 hr56 => ?_)
    subst hr56
    exact W.iret hx hb hrt (fun t ht hW => ⟨_, rfl, rfl, ht⟩) t_nil dX0_joined_59
  · skip
    refine lv_lookup (tgt := 60) hx hb dX0_joined_1 (by decide) (by rfl) (by decide) ?_
    refine lv_aload_n hx hb dX0_joined_60 rfl (lv_at hl 0 rfl) ?_
    refine lv_aload_n hx hb dX0_joined_61 rfl (lv_at hl 2 rfl) ?_
    refine lv_aload_n hx hb dX0_joined_62 rfl (lv_at hl 3 rfl) ?_
    refine lv_iload hx hb dX0_joined_63 (lv_at hl 4 rfl) ?_
    refine vp_callSi (va_Run.run (va_runV (As := [.ref (oR ω (ra)), .ref (oR ω (rb)), .int (iI (i))]) (rest := []) ⟨hx, hb, hml, hown, hts⟩ (c_productAt l ω k q z M wk (ra) (rb) (i) (by omega) (by omega) (by omega) hq1 hq2 hM) (cwV 3 hts (gU (hd := [.methodLink "NoiseRing" 127 yX0_productAt, .instanceMethod yX0_productAt, .selects "NoiseRing" yX0_productAt yX0_productAt, .initialized "NoiseRing"]) (List.forall_mem_cons.mpr ⟨u195, List.forall_mem_cons.mpr ⟨u196, List.forall_mem_cons.mpr ⟨u5, List.forall_mem_cons.mpr ⟨u29, fun _ h => by cases h⟩⟩⟩⟩) u197) rfl rfl rfl (by decide +kernel) ⟨Nat.le_of_ble_eq_true rfl, Nat.le_of_ble_eq_true rfl⟩) (gx_V hG) rfl rfl hl.1 rfl (lv_room (Nat.le_of_ble_eq_true rfl)) dX0_joined_65 ⟨Nat.le_of_ble_eq_true rfl, Nat.le_of_ble_eq_true rfl⟩)) (fun r65 hr65 => ?_)
    subst hr65
    exact W.iret hx hb hrt (fun t ht hW => ⟨_, rfl, rfl, ht⟩) t_nil dX0_joined_68
set_option maxHeartbeats 4000000 in
set_option maxRecDepth 100000 in
theorem c_emptyRegisters (l : Launch) (ω : WX) (k q z : Int) (M : Nat → Nat → Int) (wk : Nat → Int)  (hq1 : 3329 ≤ q) (hq2 : q ≤ 8380417) (hM : ∀ r i, r < 12 → i < 16 → 0 ≤ M r i ∧ M r i < q) : Met l yX0_emptyRegisters wsX0_emptyRegisters ({ frames := 1, cells := 0, slots := 0, locals := 22 }) (va_Pc [.ref (ox ω)] (fun U => GX ω k q z M wk U U.heap)) (vp_Si (fun r_ => r_ = iI (sEmp M 12))) 0 0 (fun _ => False) := by
  refine Met.ofW (cc := cX0_emptyRegisters) (maxL := 3) (ret := (some .int)) (by decide +kernel) rfl ?_
  intro p e s m args below meth c s₁ B hml hv
  obtain ⟨rfl, hG⟩ := hv
  have hx := B.exec
  have hb := B.bytes
  have hrt := B.returns
  have hts : ∀ w ∈ wsU, w.before _ s = true := fun w h => atoms_spec (ws := wsX0_emptyRegisters) B.pre w (List.mem_cons_of_mem _ h)
  have hown : s.vm.findClass "NoiseRing" = some m.cls := findClass_of_methodNamed B.named
  have hlocks := B.notSynchronized
  have hl := lv_entry ([.ref (ox ω)]) (n := 3) (Nat.le_of_ble_eq_true rfl)
  rw [lg_entry_eq]
  generalize (lg_sl ([.ref (ox ω)]) ++ List.replicate (3 - (lg_sl ([.ref (ox ω)])).length) Slot.unset).toArray = ls at hl ⊢
  have hl : lv_has ls 3 [(0, .ref (ox ω))] := hl
  refine ix_iconst hx hb dX0_emptyRegisters_0 ?_
  refine lv_istore_n (lv' := [(1, .int (iI (0))), (0, .ref (ox ω))]) hx hb dX0_emptyRegisters_1 rfl hl (by decide) rfl (fun ls hl => ?_)
  refine ix_iconst hx hb dX0_emptyRegisters_2 ?_
  refine lv_istore_n (lv' := [(2, .int (iI (0))), (1, .int (iI (0))), (0, .ref (ox ω))]) hx hb dX0_emptyRegisters_3 rfl hl (by decide) rfl (fun ls hl => ?_)
  refine ix_loop (I := fun j ls => lv_has ls 3 [(2, .int (iI ((j : Nat)))), (1, .int (iI (sEmp M (j)))), (0, .ref (ox ω))]) (12) 0 (by omega) (lv_sub hl [0, 1, 2] rfl) (fun ls hl => ?_) (fun j ls hj hl ih4 => ?_)
  · skip
    have hl : lv_has ls 3 [(2, .int (iI ((12 : Nat)))), (1, .int (iI (sEmp M (12)))), (0, .ref (ox ω))] := hl
    refine lv_iload_n hx hb dX0_emptyRegisters_4 rfl (lv_at hl 0 rfl) ?_
    refine ix_bipush hx hb (by decide) dX0_emptyRegisters_5 ?_
    refine ix_icmp_ge (tgt := 31) hx hb (by omega) (by omega) (by omega) (by omega) dX0_emptyRegisters_7 (by decide) (fun h7 => ?_) (fun h7 => absurd h7 (by omega))
    refine lv_iload_n hx hb dX0_emptyRegisters_31 rfl (lv_at hl 1 rfl) ?_
    exact W.iret hx hb hrt (fun t ht hW => ⟨_, rfl, rfl, ht⟩) t_nil dX0_emptyRegisters_32
  · skip
    have hl : lv_has ls 3 [(2, .int (iI ((j : Nat)))), (1, .int (iI (sEmp M (j)))), (0, .ref (ox ω))] := hl
    refine lv_iload_n hx hb dX0_emptyRegisters_4 rfl (lv_at hl 0 rfl) ?_
    refine ix_bipush hx hb (by decide) dX0_emptyRegisters_5 ?_
    refine ix_icmp_ge (tgt := 31) hx hb (by omega) (by omega) (by omega) (by omega) dX0_emptyRegisters_7 (by decide) (fun h7 => absurd h7 (by omega)) (fun h7 => ?_)
    have hc := sCnt_in (M j) 16
    refine lv_aload_n hx hb dX0_emptyRegisters_10 rfl (lv_at hl 2 rfl) ?_
    refine gx_get hx hb hts hown hG 0 (by decide) rfl u55 dX0_emptyRegisters_11 ?_
    refine lv_iload_n hx hb dX0_emptyRegisters_14 rfl (lv_at hl 0 rfl) ?_
    refine gx_row (r := j) hx hb hG (by omega) dX0_emptyRegisters_15 ?_
    refine vp_callSi (va_Run.run (va_runS (As := [.ref (oR ω (j))]) (rest := []) ⟨hx, hb, hml, hown, hts⟩ (c_notZero l ω k q z M wk (j) (by omega) hq1 hq2 hM) (va_cwS 1 hts (gU (hd := [.methodLink "NoiseRing" 69 yX0_notZero, .static yX0_notZero, .initialized "NoiseRing"]) (List.forall_mem_cons.mpr ⟨u79, List.forall_mem_cons.mpr ⟨u80, List.forall_mem_cons.mpr ⟨u29, fun _ h => by cases h⟩⟩⟩) u81) rfl rfl rfl (by decide +kernel) ⟨Nat.le_of_ble_eq_true rfl, Nat.le_of_ble_eq_true rfl⟩) (gx_S hG) rfl rfl hl.1 rfl (lv_room (Nat.le_of_ble_eq_true rfl)) dX0_emptyRegisters_16 ⟨Nat.le_of_ble_eq_true rfl, Nat.le_of_ble_eq_true rfl⟩)) (fun r16 hr16 => ?_)
    subst hr16
    refine ix_if_ne (tgt := 25) hx hb (by omega) (by omega) dX0_emptyRegisters_19 (by decide) (fun h19 => ?_) (fun h19 => ?_)
    · have hs : sEmp M (j + 1) = sEmp M j := by rw [sEmp, if_neg h19]; omega
      rw [← hs] at hl
      refine lv_iinc (k := 0) (v := iI ((j : Nat) + 1)) (lv' := [(2, .int (iI ((j : Nat) + 1))), (1, .int (iI (sEmp M (j + 1)))), (0, .ref (ox ω))]) hx hb dX0_emptyRegisters_25 hl rfl (iI_add _ _) (by decide) rfl (fun ls hl => ?_)
      refine lv_goto (tgt := 4) hx hb dX0_emptyRegisters_28 (by decide) ?_
      exact ih4 ls (lv_sub hl [0, 1, 2] rfl)
    · have hs : sEmp M (j + 1) = sEmp M j + 1 := by rw [sEmp, if_pos h19]
      refine lv_iinc (k := 1) (v := iI (sEmp M (j + 1))) (lv' := [(1, .int (iI (sEmp M (j + 1)))), (2, .int (iI ((j : Nat)))), (0, .ref (ox ω))]) hx hb dX0_emptyRegisters_22 hl rfl ((iI_add _ _).trans (congrArg iI hs.symm)) (by decide) rfl (fun ls hl => ?_)
      refine lv_iinc (k := 1) (v := iI ((j : Nat) + 1)) (lv' := [(2, .int (iI ((j : Nat) + 1))), (1, .int (iI (sEmp M (j + 1)))), (0, .ref (ox ω))]) hx hb dX0_emptyRegisters_25 hl rfl (iI_add _ _) (by decide) rfl (fun ls hl => ?_)
      refine lv_goto (tgt := 4) hx hb dX0_emptyRegisters_28 (by decide) ?_
      exact ih4 ls (lv_sub hl [0, 1, 2] rfl)

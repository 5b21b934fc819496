/-! Contracts of the class's read-only helpers, by program (wip/gen/x0.py). -/
theorem sPart_in {q x a : Int} (x1 : 0 ≤ x) (x2 : x < q) (a1 : 0 < a) : 0 ≤ sPart q x a ∧ sPart q x a ≤ x + a := by
  have h1 := sNear_in (x := x) a1
  have h2 := sNear_low x1 a1
  have h3 := Int.ediv_nonneg h2 (show 0 ≤ a by omega)
  have h4 : (x - sNear x a) / a ≤ x - sNear x a := Int.ediv_le_self _ h2
  unfold sPart
  split <;> omega
theorem sAl_div {q a : Int} (h : 1 < q) (a1 : 0 < a) (a4 : (q - 1) % a = 0) : 1 ≤ (q - 1) / a := by
  have h1 : a ∣ q - 1 := Int.dvd_of_emod_eq_zero a4
  have h2 : a ≤ q - 1 := Int.le_of_dvd (by omega) h1
  exact Int.le_ediv_of_mul_le a1 (by omega)
section LXC
variable {p : Program} {l : Launch} {e : Env} {R : Room} {s : State} {m : MethodId} {args : Array Value} {below : List Frame} {meth : Method} {c : Code} {H : Heap} {locs : List Loc} {cells slots : Nat} {Q : State → Prop}
variable {cc : ByteArray} {pc : Nat} {ls : Array Slot} {rest : List Value}
theorem lx_lcmp_ge (hexec : p.tables.exec = Jvm.exec) (hb : c.code = cc) {x : Int64} {off : Int} {tgt : Nat} (hd1 : decode cc pc = .ok (.lcmp, 1)) (hd2 : decode cc (pc + 1) = .ok (.ifCond .ge off, 3)) (ht : ((pc + 1 : Nat) : Int) + off = (tgt : Int))
    (kt : ¬ x.toInt < 0 → W p l e R s m args below meth c H locs cells slots Q (F0 m tgt ls rest)) (kf : x.toInt < 0 → W p l e R s m args below meth c H locs cells slots Q (F0 m (pc + 1 + 3) ls rest)) : W p l e R s m args below meth c H locs cells slots Q (F0 m pc ls (.long (lI 0) :: .long x :: rest)) := by
  have h0 : (lI 0).toInt = 0 := rfl
  have key : x.toInt < 0 → lg_cmp x (lI 0) = -1 := by
    intro h
    have n1 : ¬ lI 0 < x := by rw [Int64.lt_iff_toInt_lt, h0]; omega
    have n2 : ¬ x = lI 0 := fun g => by rw [g, h0] at h; omega
    simp [lg_cmp, n1, n2]
  have key2 : ¬ x.toInt < 0 → 0 ≤ lg_cmp x (lI 0) := by
    intro h
    by_cases n1 : lI 0 < x
    · simp [lg_cmp, n1]
    · have n2 : x = lI 0 := by
        rw [Int64.lt_iff_toInt_lt, h0] at n1
        exact Int64.toInt_inj.mp (by rw [h0]; omega)
      simp [lg_cmp, n2]
  refine W.lcmp hexec hb hd1 (lv_if_ge hexec hb hd2 ht (fun h => kt (fun g => ?_)) (fun h => kf (Decidable.byContradiction fun g => h (key2 g))))
  rw [key g] at h
  exact absurd h (by decide)
theorem lx_lcmp_eq (hexec : p.tables.exec = Jvm.exec) (hb : c.code = cc) {a b : Int} (a1 : -9223372036854775808 ≤ a) (a2 : a < 9223372036854775808) (b1 : -9223372036854775808 ≤ b) (b2 : b < 9223372036854775808) {off : Int} {tgt : Nat} (hd1 : decode cc pc = .ok (.lcmp, 1)) (hd2 : decode cc (pc + 1) = .ok (.ifCond .eq off, 3)) (ht : ((pc + 1 : Nat) : Int) + off = (tgt : Int))
    (kt : a = b → W p l e R s m args below meth c H locs cells slots Q (F0 m tgt ls rest)) (kf : ¬ a = b → W p l e R s m args below meth c H locs cells slots Q (F0 m (pc + 1 + 3) ls rest)) : W p l e R s m args below meth c H locs cells slots Q (F0 m pc ls (.long (lI b) :: .long (lI a) :: rest)) := by
  have key : lg_cmp (lI a) (lI b) = 0 ↔ a = b := by
    by_cases n1 : lI b < lI a
    · have : ¬ a = b := fun g => by rw [g] at n1; exact Int64.lt_irrefl n1
      simp [lg_cmp, n1, this]
    · by_cases n2 : lI a = lI b
      · have := (lI_eq a1 a2 b1 b2).mp n2
        simp [lg_cmp, this]
      · have : ¬ a = b := fun g => n2 (by rw [g])
        simp [lg_cmp, n1, n2, this]
  exact W.lcmp hexec hb hd1 (lv_if_eq hexec hb hd2 ht (fun h => kt (key.mp h)) (fun h => kf (fun g => h (key.mpr g))))
end LXC
set_option maxHeartbeats 4000000 in
set_option maxRecDepth 100000 in
theorem c_movedPart (l : Launch) (ω : WX) (k q z : Int) (M : Nat → Nat → Int) (wk : Nat → Int) (x a : Int) (hq1 : 3329 ≤ q) (hq2 : q ≤ 8380417) (x1 : 0 ≤ x) (x2 : x < q) (a1 : 0 < a) (a2 : a < q) (a3 : a % 2 = 0) (a4 : (q - 1) % a = 0) : Met l yX0_movedPart wsX0_movedPart ({ frames := 2, cells := 0, slots := 0, locals := 45 }) (va_Pc [.ref (ox ω), .int (iI (x)), .int (iI (a))] (fun U => GX ω k q z M wk U U.heap)) (vp_Si (fun r_ => r_ = iI (sMov q x a))) 0 0 (fun _ => False) := by
  refine Met.ofW (cc := cX0_movedPart) (maxL := 4) (ret := (some .int)) (by decide +kernel) rfl ?_
  intro p e s m args below meth c s₁ B hml hv
  obtain ⟨rfl, hG⟩ := hv
  have hx := B.exec
  have hb := B.bytes
  have hrt := B.returns
  have hts : ∀ w ∈ wsU, w.before _ s = true := fun w h => atoms_spec (ws := wsX0_movedPart) B.pre w (List.mem_cons_of_mem _ h)
  have hown : s.vm.findClass "NoiseRing" = some m.cls := findClass_of_methodNamed B.named
  have hlocks := B.notSynchronized
  have hl := lv_entry ([.ref (ox ω), .int (iI (x)), .int (iI (a))]) (n := 4) (Nat.le_of_ble_eq_true rfl)
  rw [lg_entry_eq]
  generalize (lg_sl ([.ref (ox ω), .int (iI (x)), .int (iI (a))]) ++ List.replicate (4 - (lg_sl ([.ref (ox ω), .int (iI (x)), .int (iI (a))])).length) Slot.unset).toArray = ls at hl ⊢
  have hl : lv_has ls 4 [(0, .ref (ox ω)), (1, .int (iI (x))), (2, .int (iI (a)))] := hl
  have hn := sNear_in (x := x) a1
  have hp := sPart_in (q := q) x1 x2 a1
  have hv := sAl_div (q := q) (by omega) a1 a4
  have hv2 : (q - 1) / a ≤ q - 1 := Int.ediv_le_self _ (by omega)
  have hrr : -2147483648 ≤ sRest q x a ∧ sRest q x a < 2147483648 := by
    unfold sRest
    split <;> omega
  refine lv_aload_n hx hb dX0_movedPart_0 rfl (lv_at hl 0 rfl) ?_
  refine lv_iload_n hx hb dX0_movedPart_1 rfl (lv_at hl 1 rfl) ?_
  refine lv_iload_n hx hb dX0_movedPart_2 rfl (lv_at hl 2 rfl) ?_
  refine vp_callSi (va_Run.run (va_runV (As := [.int (iI (x)), .int (iI (a))]) (rest := []) ⟨hx, hb, hml, hown, hts⟩ (c_restOf l ω k q z M wk (x) (a) hq1 hq2 (by omega) (by omega) (by omega) (by omega) (by assumption)) (cwV 2 hts (gU (hd := [.methodLink "NoiseRing" 79 yX0_restOf, .instanceMethod yX0_restOf, .selects "NoiseRing" yX0_restOf yX0_restOf, .initialized "NoiseRing"]) (List.forall_mem_cons.mpr ⟨u256, List.forall_mem_cons.mpr ⟨u257, List.forall_mem_cons.mpr ⟨u13, List.forall_mem_cons.mpr ⟨u29, fun _ h => by cases h⟩⟩⟩⟩) u258) rfl rfl rfl (by decide +kernel) ⟨Nat.le_of_ble_eq_true rfl, Nat.le_of_ble_eq_true rfl⟩) (gx_V hG) rfl rfl hl.1 rfl (lv_room (Nat.le_of_ble_eq_true rfl)) dX0_movedPart_3 ⟨Nat.le_of_ble_eq_true rfl, Nat.le_of_ble_eq_true rfl⟩)) (fun r3 hr3 => ?_)
  subst hr3
  refine ix_if_le (tgt := 13) hx hb (by omega) (by omega) dX0_movedPart_6 (by decide) (fun h6 => ?_) (fun h6 => ?_)
  · skip
    refine ix_iconst hx hb dX0_movedPart_13 ?_
    refine lv_istore_n (lv' := [(3, .int (iI (-1))), (0, .ref (ox ω)), (1, .int (iI (x))), (2, .int (iI (a)))]) hx hb dX0_movedPart_14 rfl hl (by decide) rfl (fun ls hl => ?_)
    refine lv_aload_n hx hb dX0_movedPart_15 rfl (lv_at hl 1 rfl) ?_
    refine lv_iload_n hx hb dX0_movedPart_16 rfl (lv_at hl 2 rfl) ?_
    refine lv_iload_n hx hb dX0_movedPart_17 rfl (lv_at hl 3 rfl) ?_
    refine vp_callSi (va_Run.run (va_runV (As := [.int (iI (x)), .int (iI (a))]) (rest := []) ⟨hx, hb, hml, hown, hts⟩ (c_partOf l ω k q z M wk (x) (a) hq1 hq2 (by omega) (by omega) (by omega) (by omega) (by assumption)) (cwV 2 hts (gU (hd := [.methodLink "NoiseRing" 76 yX0_partOf, .instanceMethod yX0_partOf, .selects "NoiseRing" yX0_partOf yX0_partOf, .initialized "NoiseRing"]) (List.forall_mem_cons.mpr ⟨u250, List.forall_mem_cons.mpr ⟨u251, List.forall_mem_cons.mpr ⟨u12, List.forall_mem_cons.mpr ⟨u29, fun _ h => by cases h⟩⟩⟩⟩) u252) rfl rfl rfl (by decide +kernel) ⟨Nat.le_of_ble_eq_true rfl, Nat.le_of_ble_eq_true rfl⟩) (gx_V hG) rfl rfl hl.1 rfl (lv_room (Nat.le_of_ble_eq_true rfl)) dX0_movedPart_18 ⟨Nat.le_of_ble_eq_true rfl, Nat.le_of_ble_eq_true rfl⟩)) (fun r18 hr18 => ?_)
    subst hr18
    refine lv_iload_n hx hb dX0_movedPart_21 rfl (lv_at hl 0 rfl) ?_
    refine ix_iadd hx hb dX0_movedPart_22 ?_
    refine lv_aload_n hx hb dX0_movedPart_23 rfl (lv_at hl 1 rfl) ?_
    refine gx_get hx hb hts hown hG 3 (by decide) rfl u58 dX0_movedPart_24 ?_
    refine ix_iconst hx hb dX0_movedPart_27 ?_
    refine ix_isub hx hb dX0_movedPart_28 ?_
    refine lv_iload_n hx hb dX0_movedPart_29 rfl (lv_at hl 3 rfl) ?_
    refine ix_idiv hx hb (by omega) (by omega) (by omega) (by omega) dX0_movedPart_30 ?_
    refine vp_callSi (va_Run.run (va_runS (As := [.int (iI (((sPart q (x) (a)) + -1))), .int (iI (((q - 1) / a)))]) (rest := []) ⟨hx, hb, hml, hown, hts⟩ (c_floorModI l (((sPart q (x) (a)) + -1)) (((q - 1) / a)) (by omega) (by omega) (by omega) (by omega)) (va_cwS 2 hts (gU (hd := [.methodLink "NoiseRing" 39 yJ_floorModI, .static yJ_floorModI, .initialized "java/lang/Math"]) (List.forall_mem_cons.mpr ⟨u175, List.forall_mem_cons.mpr ⟨u176, List.forall_mem_cons.mpr ⟨u36, fun _ h => by cases h⟩⟩⟩) u177) rfl rfl rfl (by decide +kernel) ⟨Nat.le_of_ble_eq_true rfl, Nat.le_of_ble_eq_true rfl⟩) gn_S rfl rfl hl.1 rfl (lv_room (Nat.le_of_ble_eq_true rfl)) dX0_movedPart_31 ⟨Nat.le_of_ble_eq_true rfl, Nat.le_of_ble_eq_true rfl⟩)) (fun r31 hr31 => ?_)
    subst hr31
    exact W.iret hx hb hrt (fun t ht hW => ⟨_, rfl, congrArg iI (by unfold sMov; first | rw [if_pos (by omega)] | rw [if_neg (by omega)]), ht⟩) t_nil dX0_movedPart_34
  · skip
    refine ix_iconst hx hb dX0_movedPart_9 ?_
    refine lv_goto (tgt := 14) hx hb dX0_movedPart_10 (by decide) ?_
    refine lv_istore_n (lv' := [(3, .int (iI (1))), (0, .ref (ox ω)), (1, .int (iI (x))), (2, .int (iI (a)))]) hx hb dX0_movedPart_14 rfl hl (by decide) rfl (fun ls hl => ?_)
    refine lv_aload_n hx hb dX0_movedPart_15 rfl (lv_at hl 1 rfl) ?_
    refine lv_iload_n hx hb dX0_movedPart_16 rfl (lv_at hl 2 rfl) ?_
    refine lv_iload_n hx hb dX0_movedPart_17 rfl (lv_at hl 3 rfl) ?_
    refine vp_callSi (va_Run.run (va_runV (As := [.int (iI (x)), .int (iI (a))]) (rest := []) ⟨hx, hb, hml, hown, hts⟩ (c_partOf l ω k q z M wk (x) (a) hq1 hq2 (by omega) (by omega) (by omega) (by omega) (by assumption)) (cwV 2 hts (gU (hd := [.methodLink "NoiseRing" 76 yX0_partOf, .instanceMethod yX0_partOf, .selects "NoiseRing" yX0_partOf yX0_partOf, .initialized "NoiseRing"]) (List.forall_mem_cons.mpr ⟨u250, List.forall_mem_cons.mpr ⟨u251, List.forall_mem_cons.mpr ⟨u12, List.forall_mem_cons.mpr ⟨u29, fun _ h => by cases h⟩⟩⟩⟩) u252) rfl rfl rfl (by decide +kernel) ⟨Nat.le_of_ble_eq_true rfl, Nat.le_of_ble_eq_true rfl⟩) (gx_V hG) rfl rfl hl.1 rfl (lv_room (Nat.le_of_ble_eq_true rfl)) dX0_movedPart_18 ⟨Nat.le_of_ble_eq_true rfl, Nat.le_of_ble_eq_true rfl⟩)) (fun r18 hr18 => ?_)
    subst hr18
    refine lv_iload_n hx hb dX0_movedPart_21 rfl (lv_at hl 0 rfl) ?_
    refine ix_iadd hx hb dX0_movedPart_22 ?_
    refine lv_aload_n hx hb dX0_movedPart_23 rfl (lv_at hl 1 rfl) ?_
    refine gx_get hx hb hts hown hG 3 (by decide) rfl u58 dX0_movedPart_24 ?_
    refine ix_iconst hx hb dX0_movedPart_27 ?_
    refine ix_isub hx hb dX0_movedPart_28 ?_
    refine lv_iload_n hx hb dX0_movedPart_29 rfl (lv_at hl 3 rfl) ?_
    refine ix_idiv hx hb (by omega) (by omega) (by omega) (by omega) dX0_movedPart_30 ?_
    refine vp_callSi (va_Run.run (va_runS (As := [.int (iI (((sPart q (x) (a)) + 1))), .int (iI (((q - 1) / a)))]) (rest := []) ⟨hx, hb, hml, hown, hts⟩ (c_floorModI l (((sPart q (x) (a)) + 1)) (((q - 1) / a)) (by omega) (by omega) (by omega) (by omega)) (va_cwS 2 hts (gU (hd := [.methodLink "NoiseRing" 39 yJ_floorModI, .static yJ_floorModI, .initialized "java/lang/Math"]) (List.forall_mem_cons.mpr ⟨u175, List.forall_mem_cons.mpr ⟨u176, List.forall_mem_cons.mpr ⟨u36, fun _ h => by cases h⟩⟩⟩) u177) rfl rfl rfl (by decide +kernel) ⟨Nat.le_of_ble_eq_true rfl, Nat.le_of_ble_eq_true rfl⟩) gn_S rfl rfl hl.1 rfl (lv_room (Nat.le_of_ble_eq_true rfl)) dX0_movedPart_31 ⟨Nat.le_of_ble_eq_true rfl, Nat.le_of_ble_eq_true rfl⟩)) (fun r31 hr31 => ?_)
    subst hr31
    exact W.iret hx hb hrt (fun t ht hW => ⟨_, rfl, congrArg iI (by unfold sMov; first | rw [if_pos (by omega)] | rw [if_neg (by omega)]), ht⟩) t_nil dX0_movedPart_34
set_option maxHeartbeats 4000000 in
set_option maxRecDepth 100000 in
theorem c_rounded (l : Launch) (ω : WX) (k q z : Int) (M : Nat → Nat → Int) (wk : Nat → Int) (op x : Int) (d : Nat) (hq1 : 3329 ≤ q) (hq2 : q ≤ 8380417) (op1 : 0 ≤ op) (op2 : op ≤ 3) (x1 : 0 ≤ x) (x2 : x < q) (d1 : 1 ≤ d) (d2 : d ≤ 22) : Met l yX0_rounded wsX0_rounded ({ frames := 2, cells := 0, slots := 0, locals := 44 }) (va_Pc [.ref (ox ω), .int (iI (op)), .int (iI (x)), .int (iI (d))] (fun U => GX ω k q z M wk U U.heap)) (vp_Si (fun r_ => r_ = iI (sRound q op x d))) 0 0 (fun _ => False) := by
  refine Met.ofW (cc := cX0_rounded) (maxL := 4) (ret := (some .int)) (by decide +kernel) rfl ?_
  intro p e s m args below meth c s₁ B hml hv
  obtain ⟨rfl, hG⟩ := hv
  have hx := B.exec
  have hb := B.bytes
  have hrt := B.returns
  have hts : ∀ w ∈ wsU, w.before _ s = true := fun w h => atoms_spec (ws := wsX0_rounded) B.pre w (List.mem_cons_of_mem _ h)
  have hown : s.vm.findClass "NoiseRing" = some m.cls := findClass_of_methodNamed B.named
  have hlocks := B.notSynchronized
  have hl := lv_entry ([.ref (ox ω), .int (iI (op)), .int (iI (x)), .int (iI (d))]) (n := 4) (Nat.le_of_ble_eq_true rfl)
  rw [lg_entry_eq]
  generalize (lg_sl ([.ref (ox ω), .int (iI (op)), .int (iI (x)), .int (iI (d))]) ++ List.replicate (4 - (lg_sl ([.ref (ox ω), .int (iI (op)), .int (iI (x)), .int (iI (d))])).length) Slot.unset).toArray = ls at hl ⊢
  have hl : lv_has ls 4 [(0, .ref (ox ω)), (1, .int (iI (op))), (2, .int (iI (x))), (3, .int (iI (d)))] := hl
  have hp := pw_in d2
  have h1 := Int.emod_nonneg x (show (2 : Int) ^ d ≠ 0 by omega)
  have h2 := Int.emod_lt_of_pos x (show (0 : Int) < 2 ^ d by omega)
  have hn := sNear_in (x := x) (show (0 : Int) < 2 ^ d by omega)
  have hn2 := sNear_low x1 (show (0 : Int) < 2 ^ d by omega)
  refine lv_iload_n hx hb dX0_rounded_0 rfl (lv_at hl 1 rfl) ?_
  rcases (show op = 0 ∨ op = 1 ∨ op = 2 ∨ op = 3 by omega) with rfl | rfl | rfl | rfl
  · skip
    refine lv_tableIn (tgt := 28) hx hb dX0_rounded_1 (by decide) (by decide) (by rfl) (by decide) ?_
    refine lv_aload_n hx hb dX0_rounded_28 rfl (lv_at hl 0 rfl) ?_
    refine lv_iload_n hx hb dX0_rounded_29 rfl (lv_at hl 2 rfl) ?_
    refine lv_iload_n hx hb dX0_rounded_30 rfl (lv_at hl 3 rfl) ?_
    refine vp_callSi (va_Run.run (va_runV (As := [.int (iI (x)), .int (iI (d))]) (rest := []) ⟨hx, hb, hml, hown, hts⟩ (c_fewerBits l ω k q z M wk (x) (d) hq1 hq2 (by omega) (by omega) (by omega) (by omega)) (cwV 2 hts (gU (hd := [.methodLink "NoiseRing" 140 yX0_fewerBits, .instanceMethod yX0_fewerBits, .selects "NoiseRing" yX0_fewerBits yX0_fewerBits, .initialized "NoiseRing"]) (List.forall_mem_cons.mpr ⟨u227, List.forall_mem_cons.mpr ⟨u228, List.forall_mem_cons.mpr ⟨u9, List.forall_mem_cons.mpr ⟨u29, fun _ h => by cases h⟩⟩⟩⟩) u229) rfl rfl rfl (by decide +kernel) ⟨Nat.le_of_ble_eq_true rfl, Nat.le_of_ble_eq_true rfl⟩) (gx_V hG) rfl rfl hl.1 rfl (lv_room (Nat.le_of_ble_eq_true rfl)) dX0_rounded_31 ⟨Nat.le_of_ble_eq_true rfl, Nat.le_of_ble_eq_true rfl⟩)) (fun r31 hr31 => ?_)
    subst hr31
    exact W.iret hx hb hrt (fun t ht hW => ⟨_, rfl, rfl, ht⟩) t_nil dX0_rounded_34
  · skip
    refine lv_tableIn (tgt := 35) hx hb dX0_rounded_1 (by decide) (by decide) (by rfl) (by decide) ?_
    refine lv_aload_n hx hb dX0_rounded_35 rfl (lv_at hl 0 rfl) ?_
    refine lv_iload_n hx hb dX0_rounded_36 rfl (lv_at hl 2 rfl) ?_
    refine lv_iload_n hx hb dX0_rounded_37 rfl (lv_at hl 3 rfl) ?_
    refine vp_callSi (va_Run.run (va_runS (As := [.int (iI (d))]) (rest := [.int (iI (x)), .ref (ox ω)]) ⟨hx, hb, hml, hown, hts⟩ (c_lowMask l (d) (by omega)) (va_cwS 1 hts (gU (hd := [.methodLink "NoiseRing" 143 yX0_lowMask, .static yX0_lowMask, .initialized "NoiseRing"]) (List.forall_mem_cons.mpr ⟨u231, List.forall_mem_cons.mpr ⟨u232, List.forall_mem_cons.mpr ⟨u29, fun _ h => by cases h⟩⟩⟩) u233) rfl rfl rfl (by decide +kernel) ⟨Nat.le_of_ble_eq_true rfl, Nat.le_of_ble_eq_true rfl⟩) gn_S rfl rfl hl.1 rfl (lv_room (Nat.le_of_ble_eq_true rfl)) dX0_rounded_38 ⟨Nat.le_of_ble_eq_true rfl, Nat.le_of_ble_eq_true rfl⟩)) (fun r38 hr38 => ?_)
    subst hr38
    refine ix_mask (d := d) hx hb (by omega) (by omega) (by omega) dX0_rounded_41 ?_
    refine lv_iload_n hx hb dX0_rounded_42 rfl (lv_at hl 3 rfl) ?_
    refine vp_callSi (va_Run.run (va_runV (As := [.int (iI ((x) % 2 ^ (d))), .int (iI (d))]) (rest := []) ⟨hx, hb, hml, hown, hts⟩ (c_moreBits l ω k q z M wk ((x) % 2 ^ (d)) (d) hq1 hq2 (by omega) (by omega) (by omega) (by omega)) (cwV 2 hts (gU (hd := [.methodLink "NoiseRing" 146 yX0_moreBits, .instanceMethod yX0_moreBits, .selects "NoiseRing" yX0_moreBits yX0_moreBits, .initialized "NoiseRing"]) (List.forall_mem_cons.mpr ⟨u234, List.forall_mem_cons.mpr ⟨u235, List.forall_mem_cons.mpr ⟨u10, List.forall_mem_cons.mpr ⟨u29, fun _ h => by cases h⟩⟩⟩⟩) u236) rfl rfl rfl (by decide +kernel) ⟨Nat.le_of_ble_eq_true rfl, Nat.le_of_ble_eq_true rfl⟩) (gx_V hG) rfl rfl hl.1 rfl (lv_room (Nat.le_of_ble_eq_true rfl)) dX0_rounded_43 ⟨Nat.le_of_ble_eq_true rfl, Nat.le_of_ble_eq_true rfl⟩)) (fun r43 hr43 => ?_)
    subst hr43
    exact W.iret hx hb hrt (fun t ht hW => ⟨_, rfl, rfl, ht⟩) t_nil dX0_rounded_46
  · skip
    refine lv_tableIn (tgt := 47) hx hb dX0_rounded_1 (by decide) (by decide) (by rfl) (by decide) ?_
    refine lv_iload_n hx hb dX0_rounded_47 rfl (lv_at hl 2 rfl) ?_
    refine lv_iload_n hx hb dX0_rounded_48 rfl (lv_at hl 3 rfl) ?_
    refine vp_callSi (va_Run.run (va_runS (As := [.int (iI (x)), .int (iI (d))]) (rest := []) ⟨hx, hb, hml, hown, hts⟩ (c_lowBits l (x) (d) (by omega) (by omega) (by omega) (by omega)) (va_cwS 2 hts (gU (hd := [.methodLink "NoiseRing" 149 yX0_lowBits, .static yX0_lowBits, .initialized "NoiseRing"]) (List.forall_mem_cons.mpr ⟨u237, List.forall_mem_cons.mpr ⟨u238, List.forall_mem_cons.mpr ⟨u29, fun _ h => by cases h⟩⟩⟩) u239) rfl rfl rfl (by decide +kernel) ⟨Nat.le_of_ble_eq_true rfl, Nat.le_of_ble_eq_true rfl⟩) gn_S rfl rfl hl.1 rfl (lv_room (Nat.le_of_ble_eq_true rfl)) dX0_rounded_49 ⟨Nat.le_of_ble_eq_true rfl, Nat.le_of_ble_eq_true rfl⟩)) (fun r49 hr49 => ?_)
    subst hr49
    refine lv_aload_n hx hb dX0_rounded_52 rfl (lv_at hl 0 rfl) ?_
    refine gx_get hx hb hts hown hG 3 (by decide) rfl u58 dX0_rounded_53 ?_
    refine vp_callSi (va_Run.run (va_runS (As := [.int (iI ((sNear (x) (2 ^ (d))))), .int (iI (q))]) (rest := []) ⟨hx, hb, hml, hown, hts⟩ (c_floorModI l ((sNear (x) (2 ^ (d)))) (q) (by omega) (by omega) (by omega) (by omega)) (va_cwS 2 hts (gU (hd := [.methodLink "NoiseRing" 39 yJ_floorModI, .static yJ_floorModI, .initialized "java/lang/Math"]) (List.forall_mem_cons.mpr ⟨u175, List.forall_mem_cons.mpr ⟨u176, List.forall_mem_cons.mpr ⟨u36, fun _ h => by cases h⟩⟩⟩) u177) rfl rfl rfl (by decide +kernel) ⟨Nat.le_of_ble_eq_true rfl, Nat.le_of_ble_eq_true rfl⟩) gn_S rfl rfl hl.1 rfl (lv_room (Nat.le_of_ble_eq_true rfl)) dX0_rounded_56 ⟨Nat.le_of_ble_eq_true rfl, Nat.le_of_ble_eq_true rfl⟩)) (fun r56 hr56 => ?_)
    subst hr56
    exact W.iret hx hb hrt (fun t ht hW => ⟨_, rfl, rfl, ht⟩) t_nil dX0_rounded_59
  · skip
    refine lv_tableOut (tgt := 60) hx hb dX0_rounded_1 (by decide) (by decide) ?_
    refine lv_iload_n hx hb dX0_rounded_60 rfl (lv_at hl 2 rfl) ?_
    refine lv_iload_n hx hb dX0_rounded_61 rfl (lv_at hl 2 rfl) ?_
    refine lv_iload_n hx hb dX0_rounded_62 rfl (lv_at hl 3 rfl) ?_
    refine vp_callSi (va_Run.run (va_runS (As := [.int (iI (x)), .int (iI (d))]) (rest := [.int (iI (x))]) ⟨hx, hb, hml, hown, hts⟩ (c_lowBits l (x) (d) (by omega) (by omega) (by omega) (by omega)) (va_cwS 2 hts (gU (hd := [.methodLink "NoiseRing" 149 yX0_lowBits, .static yX0_lowBits, .initialized "NoiseRing"]) (List.forall_mem_cons.mpr ⟨u237, List.forall_mem_cons.mpr ⟨u238, List.forall_mem_cons.mpr ⟨u29, fun _ h => by cases h⟩⟩⟩) u239) rfl rfl rfl (by decide +kernel) ⟨Nat.le_of_ble_eq_true rfl, Nat.le_of_ble_eq_true rfl⟩) gn_S rfl rfl hl.1 rfl (lv_room (Nat.le_of_ble_eq_true rfl)) dX0_rounded_63 ⟨Nat.le_of_ble_eq_true rfl, Nat.le_of_ble_eq_true rfl⟩)) (fun r63 hr63 => ?_)
    subst hr63
    refine ix_isub hx hb dX0_rounded_66 ?_
    refine lv_iload_n hx hb dX0_rounded_67 rfl (lv_at hl 3 rfl) ?_
    refine ix_ishr (d := d) hx hb (by omega) (by omega) (by omega) dX0_rounded_68 ?_
    exact W.iret hx hb hrt (fun t ht hW => ⟨_, rfl, rfl, ht⟩) t_nil dX0_rounded_69
set_option maxHeartbeats 4000000 in
set_option maxRecDepth 100000 in
theorem c_floorModL (l : Launch)  (a b : Int) (a1 : -9223372036854775808 ≤ a) (a2 : a < 9223372036854775808) (b1 : 0 < b) (b2 : b < 9223372036854775808) : Met l yJ_floorModL wsJ_floorModL ({ frames := 0, cells := 0, slots := 0, locals := 0 }) (va_Pc [.long (lI (a)), .long (lI (b))] (fun _ => True)) (vp_Sl (fun r_ => r_ = lI (a % b))) 0 0 (fun _ => False) := by
  refine va_MetF (cc := cJ_floorModL) (maxL := 6) (ret := (some .long)) (by decide +kernel) rfl ?_
  intro p e s m args below meth c s₁ B hml hv
  obtain ⟨rfl, hG⟩ := hv
  have hx := B.exec
  have hb := B.bytes
  have hrt := B.returns
  have hts : ∀ w ∈ wsU, w.before _ s = true := fun w h => atoms_spec (ws := wsJ_floorModL) B.pre w (List.mem_cons_of_mem _ h)
  have hown : s.vm.findClass "java/lang/Math" = some m.cls := findClass_of_methodNamed B.named
  have hlocks := B.notSynchronized
  have hl := lv_entry ([.long (lI (a)), .long (lI (b))]) (n := 6) (Nat.le_of_ble_eq_true rfl)
  rw [lg_entry_eq]
  generalize (lg_sl ([.long (lI (a)), .long (lI (b))]) ++ List.replicate (6 - (lg_sl ([.long (lI (a)), .long (lI (b))])).length) Slot.unset).toArray = ls at hl ⊢
  have hl : lv_has ls 6 [(0, .long (lI (a))), (2, .long (lI (b)))] := hl
  have hT := tm_em (a := a) b1
  have hL1 := Int.tmod_lt_of_pos a b1
  have hL2 : -b < a.tmod b := by
    have h9 := Int.lt_tmod_of_pos a b1
    omega
  refine lv_lload_n hx hb dJ_floorModL_0 rfl (lv_at hl 0 rfl) ?_
  refine lv_lload_n hx hb dJ_floorModL_1 rfl (lv_at hl 1 rfl) ?_
  refine ix_lremT hx hb a1 a2 b1 b2 dJ_floorModL_2 ?_
  refine lv_lstore (lv' := [(4, .long (lI (a.tmod b))), (0, .long (lI (a))), (2, .long (lI (b)))]) hx hb dJ_floorModL_3 hl (by decide) rfl (fun ls hl => ?_)
  refine lv_lload_n hx hb dJ_floorModL_5 rfl (lv_at hl 1 rfl) ?_
  refine lv_lload_n hx hb dJ_floorModL_6 rfl (lv_at hl 2 rfl) ?_
  refine lv_lxor hx hb dJ_floorModL_7 ?_
  refine ix_lconst0 hx hb dJ_floorModL_8 ?_
  refine lx_lcmp_ge (tgt := 25) hx hb dJ_floorModL_9 dJ_floorModL_10 (by decide) (fun h7 => ?_) (fun h7 => ?_)
  · have h7 : 0 ≤ a := by have g := lI_xor a1 a2 b1 b2; omega
    rw [if_pos h7] at hT
    refine lv_lload hx hb dJ_floorModL_25 (lv_at hl 0 rfl) ?_
    exact W.lret hx hb hrt (fun t ht hW => ⟨_, rfl, congrArg lI (hT.symm), ht⟩) t_nil dJ_floorModL_27
  · have h7 : ¬ 0 ≤ a := by have g := lI_xor a1 a2 b1 b2; omega
    rw [if_neg h7] at hT
    refine lv_lload hx hb dJ_floorModL_13 (lv_at hl 0 rfl) ?_
    refine ix_lconst0 hx hb dJ_floorModL_15 ?_
    refine lx_lcmp_eq (tgt := 25) hx hb (by omega) (by omega) (by omega) (by omega) dJ_floorModL_16 dJ_floorModL_17 (by decide) (fun h11 => ?_) (fun h11 => ?_)
    · rw [if_pos h11] at hT
      refine lv_lload hx hb dJ_floorModL_25 (lv_at hl 0 rfl) ?_
      exact W.lret hx hb hrt (fun t ht hW => ⟨_, rfl, congrArg lI (h11.trans hT.symm), ht⟩) t_nil dJ_floorModL_27
    · rw [if_neg h11] at hT
      refine lv_lload hx hb dJ_floorModL_20 (lv_at hl 0 rfl) ?_
      refine lv_lload_n hx hb dJ_floorModL_22 rfl (lv_at hl 2 rfl) ?_
      refine ix_ladd hx hb dJ_floorModL_23 ?_
      exact W.lret hx hb hrt (fun t ht hW => ⟨_, rfl, congrArg lI (hT.symm), ht⟩) t_nil dJ_floorModL_24
set_option maxHeartbeats 4000000 in
set_option maxRecDepth 100000 in
theorem c_ones (l : Launch)  (first many : Nat) (low high : Int64) (f2 : first + many ≤ 96) : Met l yX0_ones wsX0_ones ({ frames := 0, cells := 0, slots := 0, locals := 0 }) (va_Pc [.int (iI (first)), .int (iI (many)), .long (low), .long (high)] (fun _ => True)) (vp_Si (fun r_ => r_ = iI (sOnes low high first many))) 0 0 (fun _ => False) := by
  refine Met.ofW (cc := cX0_ones) (maxL := 10) (ret := (some .int)) (by decide +kernel) rfl ?_
  intro p e s m args below meth c s₁ B hml hv
  obtain ⟨rfl, hG⟩ := hv
  have hx := B.exec
  have hb := B.bytes
  have hrt := B.returns
  have hts : ∀ w ∈ wsU, w.before _ s = true := fun w h => atoms_spec (ws := wsX0_ones) B.pre w (List.mem_cons_of_mem _ h)
  have hown : s.vm.findClass "NoiseRing" = some m.cls := findClass_of_methodNamed B.named
  have hlocks := B.notSynchronized
  have hl := lv_entry ([.int (iI (first)), .int (iI (many)), .long (low), .long (high)]) (n := 10) (Nat.le_of_ble_eq_true rfl)
  rw [lg_entry_eq]
  generalize (lg_sl ([.int (iI (first)), .int (iI (many)), .long (low), .long (high)]) ++ List.replicate (10 - (lg_sl ([.int (iI (first)), .int (iI (many)), .long (low), .long (high)])).length) Slot.unset).toArray = ls at hl ⊢
  have hl : lv_has ls 10 [(0, .int (iI (first))), (1, .int (iI (many))), (2, .long (low)), (4, .long (high))] := hl
  refine ix_iconst hx hb dX0_ones_0 ?_
  refine lv_istore (lv' := [(6, .int (iI (0))), (0, .int (iI (first))), (1, .int (iI (many))), (2, .long (low)), (4, .long (high))]) hx hb dX0_ones_1 hl (by decide) rfl (fun ls hl => ?_)
  refine lv_iload_n hx hb dX0_ones_3 rfl (lv_at hl 1 rfl) ?_
  refine lv_istore (lv' := [(7, .int (iI (first))), (6, .int (iI (0))), (0, .int (iI (first))), (1, .int (iI (many))), (2, .long (low)), (4, .long (high))]) hx hb dX0_ones_4 hl (by decide) rfl (fun ls hl => ?_)
  refine ix_loop (I := fun j ls => lv_has ls 10 [(7, .int (iI ((first + (j) : Nat)))), (6, .int (iI (sOnes low high first (j)))), (0, .int (iI (first))), (1, .int (iI (many))), (2, .long (low)), (4, .long (high))]) (many) 0 (by omega) (lv_sub hl [0, 1, 2, 3, 4, 5] rfl) (fun ls hl => ?_) (fun j ls hj hl ih6 => ?_)
  · skip
    have hl : lv_has ls 10 [(7, .int (iI ((first + (many) : Nat)))), (6, .int (iI (sOnes low high first (many)))), (0, .int (iI (first))), (1, .int (iI (many))), (2, .long (low)), (4, .long (high))] := hl
    refine lv_iload hx hb dX0_ones_6 (lv_at hl 0 rfl) ?_
    refine lv_iload_n hx hb dX0_ones_8 rfl (lv_at hl 2 rfl) ?_
    refine lv_iload_n hx hb dX0_ones_9 rfl (lv_at hl 3 rfl) ?_
    refine ix_iadd hx hb dX0_ones_10 ?_
    refine ix_icmp_ge (tgt := 48) hx hb (by omega) (by omega) (by omega) (by omega) dX0_ones_11 (by decide) (fun h11 => ?_) (fun h11 => absurd h11 (by omega))
    refine lv_iload hx hb dX0_ones_48 (lv_at hl 1 rfl) ?_
    exact W.iret hx hb hrt (fun t ht hW => ⟨_, rfl, rfl, ht⟩) t_nil dX0_ones_50
  · skip
    have hl : lv_has ls 10 [(7, .int (iI ((first + (j) : Nat)))), (6, .int (iI (sOnes low high first (j)))), (0, .int (iI (first))), (1, .int (iI (many))), (2, .long (low)), (4, .long (high))] := hl
    refine lv_iload hx hb dX0_ones_6 (lv_at hl 0 rfl) ?_
    refine lv_iload_n hx hb dX0_ones_8 rfl (lv_at hl 2 rfl) ?_
    refine lv_iload_n hx hb dX0_ones_9 rfl (lv_at hl 3 rfl) ?_
    refine ix_iadd hx hb dX0_ones_10 ?_
    refine ix_icmp_ge (tgt := 48) hx hb (by omega) (by omega) (by omega) (by omega) dX0_ones_11 (by decide) (fun h11 => absurd h11 (by omega)) (fun h11 => ?_)
    have ho := sOnes_in low high first j
    have hbt := sBit_in low high (first + j)
    refine lv_iload hx hb dX0_ones_14 (lv_at hl 0 rfl) ?_
    refine ix_bipush hx hb (by decide) dX0_ones_16 ?_
    refine ix_icmp_ge (tgt := 25) hx hb (by omega) (by omega) (by omega) (by omega) dX0_ones_18 (by decide) (fun h18 => ?_) (fun h18 => ?_)
    · skip
      refine lv_lload hx hb dX0_ones_25 (lv_at hl 5 rfl) ?_
      refine lv_lstore (lv' := [(8, .long (high)), (7, .int (iI ((first + (j) : Nat)))), (6, .int (iI (sOnes low high first (j)))), (0, .int (iI (first))), (1, .int (iI (many))), (2, .long (low)), (4, .long (high))]) hx hb dX0_ones_27 hl (by decide) rfl (fun ls hl => ?_)
      refine lv_iload hx hb dX0_ones_29 (lv_at hl 2 rfl) ?_
      refine lv_lload hx hb dX0_ones_31 (lv_at hl 0 rfl) ?_
      refine lv_iload hx hb dX0_ones_33 (lv_at hl 1 rfl) ?_
      refine lv_lushr hx hb dX0_ones_35 rfl ?_
      refine ix_lconst1 hx hb dX0_ones_36 ?_
      refine lv_land hx hb dX0_ones_37 ?_
      refine wx_l ((lI_bit high (k := first + j) (by omega)).trans (congrArg lI (show ((high.toBitVec.toNat / 2 ^ ((first + j) % 64) % 2 : Nat) : Int) = sBit low high (first + j) from ?_))) ?_
      · unfold sBit; rw [if_neg (by omega), show (first + j) % 64 = first + j - 64 by omega]
      refine ix_l2i hx hb dX0_ones_38 ?_
      refine ix_iadd hx hb dX0_ones_39 ?_
      refine lv_istore (lv' := [(6, .int (iI ((sOnes low high first (j) + sBit low high (first + j))))), (8, .long (high)), (7, .int (iI ((first + (j) : Nat)))), (0, .int (iI (first))), (1, .int (iI (many))), (2, .long (low)), (4, .long (high))]) hx hb dX0_ones_40 hl (by decide) rfl (fun ls hl => ?_)
      refine lv_iinc (k := 2) (v := iI ((first + (j + 1) : Nat))) (lv' := [(7, .int (iI ((first + (j + 1) : Nat)))), (6, .int (iI ((sOnes low high first (j) + sBit low high (first + j))))), (8, .long (high)), (0, .int (iI (first))), (1, .int (iI (many))), (2, .long (low)), (4, .long (high))]) hx hb dX0_ones_42 hl rfl (iI_add _ _) (by decide) rfl (fun ls hl => ?_)
      refine lv_goto (tgt := 6) hx hb dX0_ones_45 (by decide) ?_
      exact ih6 ls (lv_sub hl [0, 1, 3, 4, 5, 6] rfl)
    · skip
      refine lv_lload_n hx hb dX0_ones_21 rfl (lv_at hl 4 rfl) ?_
      refine lv_goto (tgt := 27) hx hb dX0_ones_22 (by decide) ?_
      refine lv_lstore (lv' := [(8, .long (low)), (7, .int (iI ((first + (j) : Nat)))), (6, .int (iI (sOnes low high first (j)))), (0, .int (iI (first))), (1, .int (iI (many))), (2, .long (low)), (4, .long (high))]) hx hb dX0_ones_27 hl (by decide) rfl (fun ls hl => ?_)
      refine lv_iload hx hb dX0_ones_29 (lv_at hl 2 rfl) ?_
      refine lv_lload hx hb dX0_ones_31 (lv_at hl 0 rfl) ?_
      refine lv_iload hx hb dX0_ones_33 (lv_at hl 1 rfl) ?_
      refine lv_lushr hx hb dX0_ones_35 rfl ?_
      refine ix_lconst1 hx hb dX0_ones_36 ?_
      refine lv_land hx hb dX0_ones_37 ?_
      refine wx_l ((lI_bit low (k := first + j) (by omega)).trans (congrArg lI (show ((low.toBitVec.toNat / 2 ^ ((first + j) % 64) % 2 : Nat) : Int) = sBit low high (first + j) from ?_))) ?_
      · unfold sBit; rw [if_pos (by omega), show (first + j) % 64 = first + j by omega]
      refine ix_l2i hx hb dX0_ones_38 ?_
      refine ix_iadd hx hb dX0_ones_39 ?_
      refine lv_istore (lv' := [(6, .int (iI ((sOnes low high first (j) + sBit low high (first + j))))), (8, .long (low)), (7, .int (iI ((first + (j) : Nat)))), (0, .int (iI (first))), (1, .int (iI (many))), (2, .long (low)), (4, .long (high))]) hx hb dX0_ones_40 hl (by decide) rfl (fun ls hl => ?_)
      refine lv_iinc (k := 2) (v := iI ((first + (j + 1) : Nat))) (lv' := [(7, .int (iI ((first + (j + 1) : Nat)))), (6, .int (iI ((sOnes low high first (j) + sBit low high (first + j))))), (8, .long (low)), (0, .int (iI (first))), (1, .int (iI (many))), (2, .long (low)), (4, .long (high))]) hx hb dX0_ones_42 hl rfl (iI_add _ _) (by decide) rfl (fun ls hl => ?_)
      refine lv_goto (tgt := 6) hx hb dX0_ones_45 (by decide) ?_
      exact ih6 ls (lv_sub hl [0, 1, 3, 4, 5, 6] rfl)
set_option maxHeartbeats 4000000 in
set_option maxRecDepth 100000 in
theorem c_valueAt1 (l : Launch) (ω : WX) (k q z : Int) (M : Nat → Nat → Int) (wk : Nat → Int) (r : Nat) (x : Int) (hr : r < 12)  (hq1 : 3329 ≤ q) (hq2 : q ≤ 8380417) (hM : ∀ r i, r < 12 → i < 16 → 0 ≤ M r i ∧ M r i < q) (x1 : 0 ≤ x) (x2 : x < q) : Met l yX0_valueAt wsX0_valueAt ({ frames := 0, cells := 0, slots := 0, locals := 0 }) (va_Pc [.ref (ox ω), .ref (oR ω (r)), .int (iI (0)), .int (iI (1)), .int (iI (x))] (fun U => GX ω k q z M wk U U.heap)) (vp_Si (fun r_ => r_ = iI (sPol (fun u => M r (0 + u)) x 16 % q))) 0 0 (fun _ => False) := by
  refine Met.ofW (cc := cX0_valueAt) (maxL := 10) (ret := (some .int)) (by decide +kernel) rfl ?_
  intro p e s m args below meth c s₁ B hml hv
  obtain ⟨rfl, hG⟩ := hv
  have hx := B.exec
  have hb := B.bytes
  have hrt := B.returns
  have hts : ∀ w ∈ wsU, w.before _ s = true := fun w h => atoms_spec (ws := wsX0_valueAt) B.pre w (List.mem_cons_of_mem _ h)
  have hown : s.vm.findClass "NoiseRing" = some m.cls := findClass_of_methodNamed B.named
  have hlocks := B.notSynchronized
  have hl := lv_entry ([.ref (ox ω), .ref (oR ω (r)), .int (iI (0)), .int (iI (1)), .int (iI (x))]) (n := 10) (Nat.le_of_ble_eq_true rfl)
  rw [lg_entry_eq]
  generalize (lg_sl ([.ref (ox ω), .ref (oR ω (r)), .int (iI (0)), .int (iI (1)), .int (iI (x))]) ++ List.replicate (10 - (lg_sl ([.ref (ox ω), .ref (oR ω (r)), .int (iI (0)), .int (iI (1)), .int (iI (x))])).length) Slot.unset).toArray = ls at hl ⊢
  have hl : lv_has ls 10 [(0, .ref (ox ω)), (1, .ref (oR ω (r))), (2, .int (iI (0))), (3, .int (iI (1))), (4, .int (iI (x)))] := hl
  refine ix_lconst0 hx hb dX0_valueAt_0 ?_
  refine wx_l (congrArg lI (show (0 : Int) = sPol (fun u => M r (0 + u)) x 0 % q from (Int.zero_emod q).symm)) ?_
  refine lv_lstore (lv' := [(5, .long (lI (sPol (fun u => M r (0 + u)) x (0) % q))), (0, .ref (ox ω)), (1, .ref (oR ω (r))), (2, .int (iI (0))), (3, .int (iI (1))), (4, .int (iI (x)))]) hx hb dX0_valueAt_1 hl (by decide) rfl (fun ls hl => ?_)
  refine ix_lconst1 hx hb dX0_valueAt_3 ?_
  refine wx_l (congrArg lI (show (1 : Int) = x ^ 0 % q by rw [Int.pow_zero]; exact (Int.emod_eq_of_lt (by decide) (by omega)).symm)) ?_
  refine lv_lstore (lv' := [(7, .long (lI (x ^ (0) % q))), (5, .long (lI (sPol (fun u => M r (0 + u)) x (0) % q))), (0, .ref (ox ω)), (1, .ref (oR ω (r))), (2, .int (iI (0))), (3, .int (iI (1))), (4, .int (iI (x)))]) hx hb dX0_valueAt_4 hl (by decide) rfl (fun ls hl => ?_)
  refine lv_iload_n hx hb dX0_valueAt_6 rfl (lv_at hl 4 rfl) ?_
  refine wx_i (congrArg iI (show ((0 : Nat) : Int) = ((0 + (0) : Nat) : Int) by omega)) ?_
  refine lv_istore (lv' := [(9, .int (iI ((0 + (0) : Nat)))), (7, .long (lI (x ^ (0) % q))), (5, .long (lI (sPol (fun u => M r (0 + u)) x (0) % q))), (0, .ref (ox ω)), (1, .ref (oR ω (r))), (2, .int (iI (0))), (3, .int (iI (1))), (4, .int (iI (x)))]) hx hb dX0_valueAt_7 hl (by decide) rfl (fun ls hl => ?_)
  refine ix_loop (I := fun j ls => lv_has ls 10 [(9, .int (iI ((0 + (j) : Nat)))), (5, .long (lI (sPol (fun u => M r (0 + u)) x (j) % q))), (7, .long (lI (x ^ (j) % q))), (0, .ref (ox ω)), (1, .ref (oR ω (r))), (3, .int (iI (1))), (4, .int (iI (x)))]) (16) 0 (by omega) (lv_sub hl [0, 2, 1, 3, 4, 6, 7] rfl) (fun ls hl => ?_) (fun j ls hj hl ih9 => ?_)
  · skip
    have hl : lv_has ls 10 [(9, .int (iI ((0 + (16) : Nat)))), (5, .long (lI (sPol (fun u => M r (0 + u)) x (16) % q))), (7, .long (lI (x ^ (16) % q))), (0, .ref (ox ω)), (1, .ref (oR ω (r))), (3, .int (iI (1))), (4, .int (iI (x)))] := hl
    refine lv_iload hx hb dX0_valueAt_9 (lv_at hl 0 rfl) ?_
    refine ix_bipush hx hb (by decide) dX0_valueAt_11 ?_
    refine ix_icmp_ge (tgt := 58) hx hb (by omega) (by omega) (by omega) (by omega) dX0_valueAt_13 (by decide) (fun h13 => ?_) (fun h13 => absurd h13 (by omega))
    refine lv_lload hx hb dX0_valueAt_58 (lv_at hl 1 rfl) ?_
    refine ix_l2i hx hb dX0_valueAt_60 ?_
    exact W.iret hx hb hrt (fun t ht hW => ⟨_, rfl, rfl, ht⟩) t_nil dX0_valueAt_61
  · skip
    have hl : lv_has ls 10 [(9, .int (iI ((0 + (j) : Nat)))), (5, .long (lI (sPol (fun u => M r (0 + u)) x (j) % q))), (7, .long (lI (x ^ (j) % q))), (0, .ref (ox ω)), (1, .ref (oR ω (r))), (3, .int (iI (1))), (4, .int (iI (x)))] := hl
    refine lv_iload hx hb dX0_valueAt_9 (lv_at hl 0 rfl) ?_
    refine ix_bipush hx hb (by decide) dX0_valueAt_11 ?_
    refine ix_icmp_ge (tgt := 58) hx hb (by omega) (by omega) (by omega) (by omega) dX0_valueAt_13 (by decide) (fun h13 => absurd h13 (by omega)) (fun h13 => ?_)
    have hm := hM r (0 + (j)) hr (by omega)
    have hs1 := Int.emod_nonneg (sPol (fun u => M r (0 + u)) x j) (show q ≠ 0 by omega)
    have hs2 := Int.emod_lt_of_pos (sPol (fun u => M r (0 + u)) x j) (show 0 < q by omega)
    have hf1 := Int.emod_nonneg (x ^ j) (show q ≠ 0 by omega)
    have hf2 := Int.emod_lt_of_pos (x ^ j) (show 0 < q by omega)
    have hp1 : 0 ≤ M (r) (0 + (j)) * (x ^ j % q) := Int.mul_nonneg hm.1 hf1
    have hp2 : M (r) (0 + (j)) * (x ^ j % q) ≤ 8380417 * 8380417 := Int.mul_le_mul (by omega) (by omega) hf1 (by decide)
    have hp3 : 0 ≤ (x ^ j % q) * x := Int.mul_nonneg hf1 x1
    have hp4 : (x ^ j % q) * x ≤ 8380417 * 8380417 := Int.mul_le_mul (by omega) (by omega) x1 (by decide)
    refine lv_lload hx hb dX0_valueAt_16 (lv_at hl 1 rfl) ?_
    refine lv_aload_n hx hb dX0_valueAt_18 rfl (lv_at hl 4 rfl) ?_
    refine lv_iload hx hb dX0_valueAt_19 (lv_at hl 0 rfl) ?_
    refine gx_ild (r := r) (i := 0 + (j)) hx hb hG (by omega) (by omega) dX0_valueAt_21 ?_
    refine ix_i2l hx hb (by omega) (by omega) dX0_valueAt_22 ?_
    refine lv_lload hx hb dX0_valueAt_23 (lv_at hl 2 rfl) ?_
    refine ix_lmul hx hb dX0_valueAt_25 ?_
    refine ix_ladd hx hb dX0_valueAt_26 ?_
    refine lv_aload_n hx hb dX0_valueAt_27 rfl (lv_at hl 3 rfl) ?_
    refine gx_get hx hb hts hown hG 3 (by decide) rfl u58 dX0_valueAt_28 ?_
    refine ix_i2l hx hb (by omega) (by omega) dX0_valueAt_31 ?_
    refine ix_lrem hx hb (by omega) (by omega) (by omega) (by omega) dX0_valueAt_32 ?_
    refine wx_l (congrArg lI (pol_step (q := q) (x := x) (fun u => M r (0 + u)) j)) ?_
    refine lv_lstore (lv' := [(5, .long (lI (sPol (fun u => M r (0 + u)) x (j + 1) % q))), (9, .int (iI ((0 + (j) : Nat)))), (7, .long (lI (x ^ (j) % q))), (0, .ref (ox ω)), (1, .ref (oR ω (r))), (3, .int (iI (1))), (4, .int (iI (x)))]) hx hb dX0_valueAt_33 hl (by decide) rfl (fun ls hl => ?_)
    refine lv_lload hx hb dX0_valueAt_35 (lv_at hl 2 rfl) ?_
    refine lv_iload hx hb dX0_valueAt_37 (lv_at hl 6 rfl) ?_
    refine ix_i2l hx hb (by omega) (by omega) dX0_valueAt_39 ?_
    refine ix_lmul hx hb dX0_valueAt_40 ?_
    refine lv_aload_n hx hb dX0_valueAt_41 rfl (lv_at hl 3 rfl) ?_
    refine gx_get hx hb hts hown hG 3 (by decide) rfl u58 dX0_valueAt_42 ?_
    refine ix_i2l hx hb (by omega) (by omega) dX0_valueAt_45 ?_
    refine ix_lrem hx hb (by omega) (by omega) (by omega) (by omega) dX0_valueAt_46 ?_
    refine wx_l (congrArg lI (fac_step (q := q) (x := x) j)) ?_
    refine lv_lstore (lv' := [(7, .long (lI (x ^ (j + 1) % q))), (5, .long (lI (sPol (fun u => M r (0 + u)) x (j + 1) % q))), (9, .int (iI ((0 + (j) : Nat)))), (0, .ref (ox ω)), (1, .ref (oR ω (r))), (3, .int (iI (1))), (4, .int (iI (x)))]) hx hb dX0_valueAt_47 hl (by decide) rfl (fun ls hl => ?_)
    refine lv_iload hx hb dX0_valueAt_49 (lv_at hl 2 rfl) ?_
    refine lv_iload_n hx hb dX0_valueAt_51 rfl (lv_at hl 5 rfl) ?_
    refine ix_iadd hx hb dX0_valueAt_52 ?_
    refine wx_i (congrArg iI (show (((0 + (j) : Nat) : Int) + 1) = ((0 + (j + 1) : Nat) : Int) by omega)) ?_
    refine lv_istore (lv' := [(9, .int (iI ((0 + (j + 1) : Nat)))), (7, .long (lI (x ^ (j + 1) % q))), (5, .long (lI (sPol (fun u => M r (0 + u)) x (j + 1) % q))), (0, .ref (ox ω)), (1, .ref (oR ω (r))), (3, .int (iI (1))), (4, .int (iI (x)))]) hx hb dX0_valueAt_53 hl (by decide) rfl (fun ls hl => ?_)
    refine lv_goto (tgt := 9) hx hb dX0_valueAt_55 (by decide) ?_
    exact ih9 ls (lv_sub hl [0, 2, 1, 3, 4, 5, 6] rfl)
set_option maxHeartbeats 4000000 in
set_option maxRecDepth 100000 in
theorem c_valueAt2 (l : Launch) (ω : WX) (k q z : Int) (M : Nat → Nat → Int) (wk : Nat → Int) (r first : Nat) (x : Int) (hr : r < 12) (f2 : first < 2) (hq1 : 3329 ≤ q) (hq2 : q ≤ 8380417) (hM : ∀ r i, r < 12 → i < 16 → 0 ≤ M r i ∧ M r i < q) (x1 : 0 ≤ x) (x2 : x < q) : Met l yX0_valueAt wsX0_valueAt ({ frames := 0, cells := 0, slots := 0, locals := 0 }) (va_Pc [.ref (ox ω), .ref (oR ω (r)), .int (iI (first)), .int (iI (2)), .int (iI (x))] (fun U => GX ω k q z M wk U U.heap)) (vp_Si (fun r_ => r_ = iI (sPol (fun u => M r (first + 2 * u)) x 8 % q))) 0 0 (fun _ => False) := by
  refine Met.ofW (cc := cX0_valueAt) (maxL := 10) (ret := (some .int)) (by decide +kernel) rfl ?_
  intro p e s m args below meth c s₁ B hml hv
  obtain ⟨rfl, hG⟩ := hv
  have hx := B.exec
  have hb := B.bytes
  have hrt := B.returns
  have hts : ∀ w ∈ wsU, w.before _ s = true := fun w h => atoms_spec (ws := wsX0_valueAt) B.pre w (List.mem_cons_of_mem _ h)
  have hown : s.vm.findClass "NoiseRing" = some m.cls := findClass_of_methodNamed B.named
  have hlocks := B.notSynchronized
  have hl := lv_entry ([.ref (ox ω), .ref (oR ω (r)), .int (iI (first)), .int (iI (2)), .int (iI (x))]) (n := 10) (Nat.le_of_ble_eq_true rfl)
  rw [lg_entry_eq]
  generalize (lg_sl ([.ref (ox ω), .ref (oR ω (r)), .int (iI (first)), .int (iI (2)), .int (iI (x))]) ++ List.replicate (10 - (lg_sl ([.ref (ox ω), .ref (oR ω (r)), .int (iI (first)), .int (iI (2)), .int (iI (x))])).length) Slot.unset).toArray = ls at hl ⊢
  have hl : lv_has ls 10 [(0, .ref (ox ω)), (1, .ref (oR ω (r))), (2, .int (iI (first))), (3, .int (iI (2))), (4, .int (iI (x)))] := hl
  refine ix_lconst0 hx hb dX0_valueAt_0 ?_
  refine wx_l (congrArg lI (show (0 : Int) = sPol (fun u => M r (first + 2 * u)) x 0 % q from (Int.zero_emod q).symm)) ?_
  refine lv_lstore (lv' := [(5, .long (lI (sPol (fun u => M r (first + 2 * u)) x (0) % q))), (0, .ref (ox ω)), (1, .ref (oR ω (r))), (2, .int (iI (first))), (3, .int (iI (2))), (4, .int (iI (x)))]) hx hb dX0_valueAt_1 hl (by decide) rfl (fun ls hl => ?_)
  refine ix_lconst1 hx hb dX0_valueAt_3 ?_
  refine wx_l (congrArg lI (show (1 : Int) = x ^ 0 % q by rw [Int.pow_zero]; exact (Int.emod_eq_of_lt (by decide) (by omega)).symm)) ?_
  refine lv_lstore (lv' := [(7, .long (lI (x ^ (0) % q))), (5, .long (lI (sPol (fun u => M r (first + 2 * u)) x (0) % q))), (0, .ref (ox ω)), (1, .ref (oR ω (r))), (2, .int (iI (first))), (3, .int (iI (2))), (4, .int (iI (x)))]) hx hb dX0_valueAt_4 hl (by decide) rfl (fun ls hl => ?_)
  refine lv_iload_n hx hb dX0_valueAt_6 rfl (lv_at hl 4 rfl) ?_
  refine wx_i (congrArg iI (show ((first : Nat) : Int) = ((first + 2 * (0) : Nat) : Int) by omega)) ?_
  refine lv_istore (lv' := [(9, .int (iI ((first + 2 * (0) : Nat)))), (7, .long (lI (x ^ (0) % q))), (5, .long (lI (sPol (fun u => M r (first + 2 * u)) x (0) % q))), (0, .ref (ox ω)), (1, .ref (oR ω (r))), (2, .int (iI (first))), (3, .int (iI (2))), (4, .int (iI (x)))]) hx hb dX0_valueAt_7 hl (by decide) rfl (fun ls hl => ?_)
  refine ix_loop (I := fun j ls => lv_has ls 10 [(9, .int (iI ((first + 2 * (j) : Nat)))), (5, .long (lI (sPol (fun u => M r (first + 2 * u)) x (j) % q))), (7, .long (lI (x ^ (j) % q))), (0, .ref (ox ω)), (1, .ref (oR ω (r))), (3, .int (iI (2))), (4, .int (iI (x)))]) (8) 0 (by omega) (lv_sub hl [0, 2, 1, 3, 4, 6, 7] rfl) (fun ls hl => ?_) (fun j ls hj hl ih9 => ?_)
  · skip
    have hl : lv_has ls 10 [(9, .int (iI ((first + 2 * (8) : Nat)))), (5, .long (lI (sPol (fun u => M r (first + 2 * u)) x (8) % q))), (7, .long (lI (x ^ (8) % q))), (0, .ref (ox ω)), (1, .ref (oR ω (r))), (3, .int (iI (2))), (4, .int (iI (x)))] := hl
    refine lv_iload hx hb dX0_valueAt_9 (lv_at hl 0 rfl) ?_
    refine ix_bipush hx hb (by decide) dX0_valueAt_11 ?_
    refine ix_icmp_ge (tgt := 58) hx hb (by omega) (by omega) (by omega) (by omega) dX0_valueAt_13 (by decide) (fun h13 => ?_) (fun h13 => absurd h13 (by omega))
    refine lv_lload hx hb dX0_valueAt_58 (lv_at hl 1 rfl) ?_
    refine ix_l2i hx hb dX0_valueAt_60 ?_
    exact W.iret hx hb hrt (fun t ht hW => ⟨_, rfl, rfl, ht⟩) t_nil dX0_valueAt_61
  · skip
    have hl : lv_has ls 10 [(9, .int (iI ((first + 2 * (j) : Nat)))), (5, .long (lI (sPol (fun u => M r (first + 2 * u)) x (j) % q))), (7, .long (lI (x ^ (j) % q))), (0, .ref (ox ω)), (1, .ref (oR ω (r))), (3, .int (iI (2))), (4, .int (iI (x)))] := hl
    refine lv_iload hx hb dX0_valueAt_9 (lv_at hl 0 rfl) ?_
    refine ix_bipush hx hb (by decide) dX0_valueAt_11 ?_
    refine ix_icmp_ge (tgt := 58) hx hb (by omega) (by omega) (by omega) (by omega) dX0_valueAt_13 (by decide) (fun h13 => absurd h13 (by omega)) (fun h13 => ?_)
    have hm := hM r (first + 2 * (j)) hr (by omega)
    have hs1 := Int.emod_nonneg (sPol (fun u => M r (first + 2 * u)) x j) (show q ≠ 0 by omega)
    have hs2 := Int.emod_lt_of_pos (sPol (fun u => M r (first + 2 * u)) x j) (show 0 < q by omega)
    have hf1 := Int.emod_nonneg (x ^ j) (show q ≠ 0 by omega)
    have hf2 := Int.emod_lt_of_pos (x ^ j) (show 0 < q by omega)
    have hp1 : 0 ≤ M (r) (first + 2 * (j)) * (x ^ j % q) := Int.mul_nonneg hm.1 hf1
    have hp2 : M (r) (first + 2 * (j)) * (x ^ j % q) ≤ 8380417 * 8380417 := Int.mul_le_mul (by omega) (by omega) hf1 (by decide)
    have hp3 : 0 ≤ (x ^ j % q) * x := Int.mul_nonneg hf1 x1
    have hp4 : (x ^ j % q) * x ≤ 8380417 * 8380417 := Int.mul_le_mul (by omega) (by omega) x1 (by decide)
    refine lv_lload hx hb dX0_valueAt_16 (lv_at hl 1 rfl) ?_
    refine lv_aload_n hx hb dX0_valueAt_18 rfl (lv_at hl 4 rfl) ?_
    refine lv_iload hx hb dX0_valueAt_19 (lv_at hl 0 rfl) ?_
    refine gx_ild (r := r) (i := first + 2 * (j)) hx hb hG (by omega) (by omega) dX0_valueAt_21 ?_
    refine ix_i2l hx hb (by omega) (by omega) dX0_valueAt_22 ?_
    refine lv_lload hx hb dX0_valueAt_23 (lv_at hl 2 rfl) ?_
    refine ix_lmul hx hb dX0_valueAt_25 ?_
    refine ix_ladd hx hb dX0_valueAt_26 ?_
    refine lv_aload_n hx hb dX0_valueAt_27 rfl (lv_at hl 3 rfl) ?_
    refine gx_get hx hb hts hown hG 3 (by decide) rfl u58 dX0_valueAt_28 ?_
    refine ix_i2l hx hb (by omega) (by omega) dX0_valueAt_31 ?_
    refine ix_lrem hx hb (by omega) (by omega) (by omega) (by omega) dX0_valueAt_32 ?_
    refine wx_l (congrArg lI (pol_step (q := q) (x := x) (fun u => M r (first + 2 * u)) j)) ?_
    refine lv_lstore (lv' := [(5, .long (lI (sPol (fun u => M r (first + 2 * u)) x (j + 1) % q))), (9, .int (iI ((first + 2 * (j) : Nat)))), (7, .long (lI (x ^ (j) % q))), (0, .ref (ox ω)), (1, .ref (oR ω (r))), (3, .int (iI (2))), (4, .int (iI (x)))]) hx hb dX0_valueAt_33 hl (by decide) rfl (fun ls hl => ?_)
    refine lv_lload hx hb dX0_valueAt_35 (lv_at hl 2 rfl) ?_
    refine lv_iload hx hb dX0_valueAt_37 (lv_at hl 6 rfl) ?_
    refine ix_i2l hx hb (by omega) (by omega) dX0_valueAt_39 ?_
    refine ix_lmul hx hb dX0_valueAt_40 ?_
    refine lv_aload_n hx hb dX0_valueAt_41 rfl (lv_at hl 3 rfl) ?_
    refine gx_get hx hb hts hown hG 3 (by decide) rfl u58 dX0_valueAt_42 ?_
    refine ix_i2l hx hb (by omega) (by omega) dX0_valueAt_45 ?_
    refine ix_lrem hx hb (by omega) (by omega) (by omega) (by omega) dX0_valueAt_46 ?_
    refine wx_l (congrArg lI (fac_step (q := q) (x := x) j)) ?_
    refine lv_lstore (lv' := [(7, .long (lI (x ^ (j + 1) % q))), (5, .long (lI (sPol (fun u => M r (first + 2 * u)) x (j + 1) % q))), (9, .int (iI ((first + 2 * (j) : Nat)))), (0, .ref (ox ω)), (1, .ref (oR ω (r))), (3, .int (iI (2))), (4, .int (iI (x)))]) hx hb dX0_valueAt_47 hl (by decide) rfl (fun ls hl => ?_)
    refine lv_iload hx hb dX0_valueAt_49 (lv_at hl 2 rfl) ?_
    refine lv_iload_n hx hb dX0_valueAt_51 rfl (lv_at hl 5 rfl) ?_
    refine ix_iadd hx hb dX0_valueAt_52 ?_
    refine wx_i (congrArg iI (show (((first + 2 * (j) : Nat) : Int) + 2) = ((first + 2 * (j + 1) : Nat) : Int) by omega)) ?_
    refine lv_istore (lv' := [(9, .int (iI ((first + 2 * (j + 1) : Nat)))), (7, .long (lI (x ^ (j + 1) % q))), (5, .long (lI (sPol (fun u => M r (first + 2 * u)) x (j + 1) % q))), (0, .ref (ox ω)), (1, .ref (oR ω (r))), (3, .int (iI (2))), (4, .int (iI (x)))]) hx hb dX0_valueAt_53 hl (by decide) rfl (fun ls hl => ?_)
    refine lv_goto (tgt := 9) hx hb dX0_valueAt_55 (by decide) ?_
    exact ih9 ls (lv_sub hl [0, 2, 1, 3, 4, 5, 6] rfl)

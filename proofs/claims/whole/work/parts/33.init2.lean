/-! The two constructors (wip/gen/init.py). -/
theorem ns_new2 {a : Nat} {s : State} {H H1 : Heap} {locs : List Loc} (hS : va_S (fun q => q = a ∨ s.heap.size ≤ q) s.heap H locs) (z : H.size ≤ H1.size) (o : ∀ q : Nat, q < H.size → H1[q]? = H[q]?) : va_S (fun q => q = a ∨ s.heap.size ≤ q) s.heap H1 locs :=
  ⟨Nat.le_trans hS.1 z, fun x h1 h2 => (o x (Nat.lt_of_lt_of_le h1 hS.1)).trans (hS.2.1 x h1 h2), hS.2.2⟩
theorem ns_new {a : Nat} {s : State} {H H1 : Heap} {locs : List Loc} (hS : va_S (fun q => q = a ∨ s.heap.size ≤ q) s.heap H locs) (z : H1.size = H.size + 1) (o : ∀ q : Nat, q < H.size → H1[q]? = H[q]?) : va_S (fun q => q = a ∨ s.heap.size ≤ q) s.heap H1 locs := ns_new2 hS (by omega) o
set_option maxHeartbeats 4000000 in
set_option maxRecDepth 100000 in
theorem m_init (l : Launch) (D : va_G) (a sz : Nat) : Met l yX1_init wsX1_init ({ frames := 1, cells := 2, slots := 208, locals := 20 }) (va_Pc [.ref a] (fun U => U.heap.size = sz ∧ a < sz ∧ va_P D vwCl [(a, .inr (1, [.int 0, .int 0, .int 0, .null, .null]))] U.heap ∧ va_K D vwCl [] U)) (va_Qv (fun ω : WM => ω.1 = D ∧ mo ω = a ∧ sz ≤ mg ω ∧ sz ≤ md ω) (fun ω t => (va_K ω.1 vwCl [(nI_ ω, .int)] t ∧ mo ω ≠ mg ω ∧ mo ω ≠ md ω ∧ mg ω ≠ md ω) ∧ CM ω 0 0 3329 (fun _ _ => 0) (fun _ => 0) t.heap) (fun q => q = a ∨ sz ≤ q)) 2 208 (fun q => q = a ∨ sz ≤ q) := by
  refine Met.ofW (cc := cX1_init) (maxL := 1) (ret := none) (by decide +kernel) rfl ?_
  intro p e s m args below meth c s₁ B hml hv
  obtain ⟨rfl, hv⟩ := hv
  have hx := B.exec
  have hb := B.bytes
  have hrt := B.returns
  have hts : ∀ w ∈ wsU, w.before _ s = true := fun w h => atoms_spec (ws := wsX1_init) B.pre w (List.mem_cons_of_mem _ h)
  have hown : s.vm.findClass "NoiseRingModel" = some m.cls := findClass_of_methodNamed B.named
  have hin2 : meth.name = "<init>" := (name_of_methodNamed B.named B.method).1
  have hlocks := B.notSynchronized
  have hl := lv_entry ([.ref a]) (n := 1) (Nat.le_of_ble_eq_true rfl)
  rw [lg_entry_eq]
  generalize (lg_sl ([.ref a]) ++ List.replicate (1 - (lg_sl ([.ref a])).length) Slot.unset).toArray = ls at hl ⊢
  have hl : lv_has ls 1 [(0, .ref a)] := hl
  refine lv_aload_n hx hb dX1_init_0 rfl (lv_at hl 0 rfl) ?_
  refine W.objInit hx hb hown (hts _ u323) (hts _ u44) (hts _ u45) rfl (by rw [hml]; exact hl.1) rfl dX1_init_1 (Nat.le_of_ble_eq_true rfl) (Nat.le_of_ble_eq_true rfl) ?_
  refine W.eq (g2 := F0 m 4 ls []) rfl ?_
  obtain ⟨hsz, halt, hP, hK⟩ := hv
  subst hsz
  have hS : va_S (fun q => q = a ∨ s.heap.size ≤ q) s.heap s.heap [] := va_S.rf
  refine lv_aload_n hx hb dX1_init_4 rfl (lv_at hl 0 rfl) ?_
  refine ix_sipush hx hb (by decide) dX1_init_5 ?_
  refine ob_put (D := D) (C := RX1) (T := TX1) (N := 5) (ci := 1) (ty := .int) hx hb hts inX1 tyX1 tyX1_ok nmX1 hown hK hP rfl 2 (by decide) u326 rfl (by decide +kernel) rfl rfl (Nat.le_of_ble_eq_true rfl) dX1_init_8 (fun H1 sl hP hz1 oq1 => ?_)
  have hS := hS.put (k := sl) hz1 oq1 (Or.inl rfl)
  have hP : va_P D vwCl [(a, .inr (1, [.int 0, .int 0, .int (iI 3329), .null, .null]))] H1 := hP
  refine lv_aload_n hx hb dX1_init_11 rfl (lv_at hl 0 rfl) ?_
  refine ix_sipush hx hb (by decide) dX1_init_12 ?_
  refine va_newaK (atype := .int) (N := 192) hx hb (hts _ u71) rfl dX1_init_15 rfl (by decide) (by decide) (by decide) (Nat.le_of_ble_eq_true rfl) (Nat.le_of_ble_eq_true rfl) rfl (fun H2 cA e2 z2 o2 hAr hNm => ?_)
  have hS := ns_new hS z2 o2
  have hP : va_P D vwCl [(a, .inr (1, [.int 0, .int 0, .int (iI 3329), .null, .null]))] H2 := ob_one ((hP 0 _ rfl).kept (o2 a (by rw [hz1]; exact halt)))
  refine W.eq (g2 := F0 m 17 ls [.ref H1.size, .ref a]) rfl ?_
  refine ob_putF (D := D) (C := RX1) (T := TX1) (N := 5) (ci := 1) (ty := .array .int) hx hb hts inX1 tyX1 tyX1_ok nmX1 hown hK hP rfl 3 (by decide) u327 rfl hin2 rfl (by decide +kernel) rfl rfl (Nat.le_of_ble_eq_true rfl) dX1_init_17 (fun H3 sl3 hP hz3 oq3 => ?_)
  have hS := hS.put (k := sl3) hz3 oq3 (Or.inl rfl)
  have hP : va_P D vwCl [(a, .inr (1, [.int 0, .int 0, .int (iI 3329), .ref H1.size, .null]))] H3 := hP
  have e3 : H3[H1.size]? = some (vp_cell cA (192, .inl (fun _ => iI 0))) := (oq3 _ (by omega)).trans e2
  refine lv_aload_n hx hb dX1_init_20 rfl (lv_at hl 0 rfl) ?_
  refine ix_bipush hx hb (by decide) dX1_init_21 ?_
  refine va_newaK (atype := .int) (N := 16) hx hb (hts _ u71) rfl dX1_init_23 rfl (by decide) (by decide) (by decide) (Nat.le_of_ble_eq_true rfl) (Nat.le_of_ble_eq_true rfl) rfl (fun H4 cB e4 z4 o4 hBr hNb => ?_)
  have hcc : cB = cA := Option.some.inj (hNb.symm.trans hNm)
  subst hcc
  have hS := ns_new hS z4 o4
  have hP : va_P D vwCl [(a, .inr (1, [.int 0, .int 0, .int (iI 3329), .ref H1.size, .null]))] H4 := ob_one ((hP 0 _ rfl).kept (o4 a (by omega)))
  have e5 : H4[H1.size]? = some (vp_cell cB (192, .inl (fun _ => iI 0))) := (o4 _ (by omega)).trans e3
  refine W.eq (g2 := F0 m 25 ls [.ref H3.size, .ref a]) rfl ?_
  refine ob_putF (D := D) (C := RX1) (T := TX1) (N := 5) (ci := 1) (ty := .array .int) hx hb hts inX1 tyX1 tyX1_ok nmX1 hown hK hP rfl 4 (by decide) u328 rfl hin2 rfl (by decide +kernel) rfl rfl (Nat.le_of_ble_eq_true rfl) dX1_init_25 (fun H5 sl5 hP hz5 oq5 => ?_)
  have hS := hS.put (k := sl5) hz5 oq5 (Or.inl rfl)
  have hP : va_P D vwCl [(a, .inr (1, [.int 0, .int 0, .int (iI 3329), .ref H1.size, .ref H3.size]))] H5 := hP
  have e6 : H5[H1.size]? = some (vp_cell cB (192, .inl (fun _ => iI 0))) := (oq5 _ (by omega)).trans e5
  have e7 : H5[H3.size]? = some (vp_cell cB (16, .inl (fun _ => iI 0))) := (oq5 _ (by omega)).trans e4
  have hK1 : va_K D vwCl [(cB, .int)] s := ⟨hK.1, fun k9 x9 hx9 => by
    cases k9 with
    | zero => cases hx9; exact ⟨hBr, hNb⟩
    | succ n => cases hx9⟩
  exact W.vret hx hb hrt (fun t ht hW => ⟨⟨(D, cB, (a, H1.size, H3.size)), rfl, ⟨rfl, rfl, by show _ ≤ H1.size; omega, by show _ ≤ H3.size; omega⟩, ⟨va_K.moved hW.alike hK1, by show a ≠ H1.size; omega, by show a ≠ H3.size; omega, by show H1.size ≠ H3.size; omega⟩, by rw [ht]; exact ⟨hP, e6, e7⟩⟩, hS.F ht⟩) hS.2.2 dX1_init_28
set_option maxHeartbeats 4000000 in
set_option maxRecDepth 100000 in
theorem p_init (l : Launch) (D : va_G) (T : Nat → Nat) (a sz : Nat) : Met l yX0_init wsX0_init ({ frames := 2, cells := 14, slots := 220, locals := 60 }) (va_Pc [.ref a] (fun U => U.heap.size = sz ∧ a < sz ∧ va_P D vwCl [(a, .inr (0, [.null, .null, .int 0, .int 0, .int 0]))] U.heap ∧ va_K D vwCl [] U ∧ BA T (fun q => q = a ∨ sz ≤ q) U U.heap ∧ va_AOA .int U)) (va_Qv (fun ω : WX => ω.1 = D ∧ ox ω = a ∧ oT ω = T ∧ oD ω ∧ ∀ q, Ax ω q → q = a ∨ sz ≤ q) (fun ω t => va_K ω.1 vwCl [(oI ω, .int), (oC ω, .array .int)] t ∧ CX ω 0 (kQ 0) (kZ 0) (fun _ _ => 0) (fun _ => 0) t.heap) (fun q => q = a ∨ sz ≤ q)) 14 220 (fun q => q = a ∨ sz ≤ q) := by
  refine Met.ofW (cc := cX0_init) (maxL := 1) (ret := none) (by decide +kernel) rfl ?_
  intro p e s m args below meth c s₁ B hml hv
  obtain ⟨rfl, hv⟩ := hv
  have hx := B.exec
  have hb := B.bytes
  have hrt := B.returns
  have hts : ∀ w ∈ wsU, w.before _ s = true := fun w h => atoms_spec (ws := wsX0_init) B.pre w (List.mem_cons_of_mem _ h)
  have hown : s.vm.findClass "NoiseRing" = some m.cls := findClass_of_methodNamed B.named
  have hin2 : meth.name = "<init>" := (name_of_methodNamed B.named B.method).1
  have hlocks := B.notSynchronized
  have hl := lv_entry ([.ref a]) (n := 1) (Nat.le_of_ble_eq_true rfl)
  rw [lg_entry_eq]
  generalize (lg_sl ([.ref a]) ++ List.replicate (1 - (lg_sl ([.ref a])).length) Slot.unset).toArray = ls at hl ⊢
  have hl : lv_has ls 1 [(0, .ref a)] := hl
  refine lv_aload_n hx hb dX0_init_0 rfl (lv_at hl 0 rfl) ?_
  refine W.objInit hx hb hown (hts _ u43) (hts _ u44) (hts _ u45) rfl (by rw [hml]; exact hl.1) rfl dX0_init_1 (Nat.le_of_ble_eq_true rfl) (Nat.le_of_ble_eq_true rfl) ?_
  refine W.eq (g2 := F0 m 4 ls []) rfl ?_
  obtain ⟨hsz, halt, hP, hK, hBA, hAO⟩ := hv
  subst hsz
  have hS : va_S (fun q => q = a ∨ s.heap.size ≤ q) s.heap s.heap [] := va_S.rf
  refine lv_aload_n hx hb dX0_init_4 rfl (lv_at hl 0 rfl) ?_
  refine ix_bipush hx hb (by decide) dX0_init_5 ?_
  refine ix_bipush hx hb (by decide) dX0_init_7 ?_
  refine ob_mna hx hb hown (hts _ u46) hAO (hts _ u71) (Nat.le_of_ble_eq_true rfl) (Nat.le_of_ble_eq_true rfl) dX0_init_9 (fun cA cI H1 z1 e1 r1 o1 hAr hNa hIr hNi => ?_)
  have hS := ns_new2 hS (by omega) o1
  have hP : va_P D vwCl [(a, .inr (0, [.null, .null, .int 0, .int 0, .int 0]))] H1 := ob_one ((hP 0 _ rfl).kept (o1 a halt))
  refine ob_putF (D := D) (C := RX0) (T := TX0) (N := 5) (ci := 0) (ty := .array (.array .int)) hx hb hts inX0 tyX0 tyX0_ok nmX0 hown hK hP rfl 0 (by decide) u55 rfl hin2 rfl (by decide +kernel) rfl rfl (Nat.le_of_ble_eq_true rfl) dX0_init_13 (fun H2 sl2 hP hz2 oq2 => ?_)
  have hS := hS.put (k := sl2) hz2 oq2 (Or.inl rfl)
  have hP : va_P D vwCl [(a, .inr (0, [.ref s.heap.size, .null, .int 0, .int 0, .int 0]))] H2 := hP
  refine lv_aload_n hx hb dX0_init_16 rfl (lv_at hl 0 rfl) ?_
  refine ix_bipush hx hb (by decide) dX0_init_17 ?_
  refine va_newaK (atype := .int) (N := 16) hx hb (hts _ u71) rfl dX0_init_19 rfl (by decide) (by decide) (by decide) (Nat.le_of_ble_eq_true rfl) (Nat.le_of_ble_eq_true rfl) rfl (fun H3 cB e3 z3 o3 hBr hNb => ?_)
  have hcc : cB = cI := Option.some.inj (hNb.symm.trans hNi)
  subst hcc
  have hS := ns_new hS z3 o3
  have hP : va_P D vwCl [(a, .inr (0, [.ref s.heap.size, .null, .int 0, .int 0, .int 0]))] H3 := ob_one ((hP 0 _ rfl).kept (o3 a (by omega)))
  refine W.eq (g2 := F0 m 21 ls [.ref H2.size, .ref a]) rfl ?_
  refine ob_putF (D := D) (C := RX0) (T := TX0) (N := 5) (ci := 0) (ty := .array .int) hx hb hts inX0 tyX0 tyX0_ok nmX0 hown hK hP rfl 1 (by decide) u56 rfl hin2 rfl (by decide +kernel) rfl rfl (Nat.le_of_ble_eq_true rfl) dX0_init_21 (fun H4 sl4 hP hz4 oq4 => ?_)
  have hS := hS.put (k := sl4) hz4 oq4 (Or.inl rfl)
  have hP : va_P D vwCl [(a, .inr (0, [.ref s.heap.size, .ref H2.size, .int 0, .int 0, .int 0]))] H4 := hP
  have g1 : H4[s.heap.size]? = some (vp_cell cA (12, .inr (.inr (.inr (.inr (fun r => some (s.heap.size + 1 + r))))))) := (oq4 _ (by omega)).trans ((o3 _ (by omega)).trans ((oq2 _ (by omega)).trans e1))
  have g2 : ∀ r, r < 12 → H4[s.heap.size + 1 + r]? = some (vp_cell cB (16, .inl (fun _ => iI 0))) := fun r hr => (oq4 _ (by omega)).trans ((o3 _ (by omega)).trans ((oq2 _ (by omega)).trans (r1 r hr)))
  have g3 : H4[H2.size]? = some (vp_cell cB (16, .inl (fun _ => iI 0))) := (oq4 _ (by omega)).trans e3
  generalize hω : ((D, (cB, cA), (a, s.heap.size, H2.size), (fun r => s.heap.size + 1 + r), T) : WX) = ω
  have q1 : ω.1 = D := by rw [← hω]
  have q2 : ox ω = a := by rw [← hω]; rfl
  have q3 : og ω = s.heap.size := by rw [← hω]; rfl
  have q4 : ow ω = H2.size := by rw [← hω]; rfl
  have q5 : ∀ r, oR ω r = s.heap.size + 1 + r := fun r => by rw [← hω]; rfl
  have q6 : oT ω = T := by rw [← hω]; rfl
  have q7 : oI ω = cB := by rw [← hω]; rfl
  have q8 : oC ω = cA := by rw [← hω]; rfl
  have hD : oD ω := by
    refine ⟨⟨by omega, by omega, by omega⟩, fun r hr => ⟨?_, ?_, ?_⟩, fun r t hr ht h => ?_⟩
    · rw [q5]; omega
    · rw [q5]; omega
    · rw [q5]; omega
    · rw [q5, q5] at h; omega
  have hAx : ∀ q, Ax ω q → q = a ∨ s.heap.size ≤ q := fun q h => by
    rcases h with h | h | h | ⟨r, hr, h⟩
    · exact Or.inl (h.trans q2)
    · exact Or.inr (by omega)
    · exact Or.inr (by omega)
    · rw [q5] at h; exact Or.inr (by omega)
  have hK1 : va_K ω.1 vwCl [(oI ω, .int), (oC ω, .array .int)] s := by
    rw [q1, q7, q8]
    refine ⟨hK.1, fun k9 x9 hx9 => ?_⟩
    rcases k9 with _ | _ | k9
    · cases hx9; exact ⟨hBr, hNb⟩
    · cases hx9; exact ⟨hAr, hNa⟩
    · cases hx9
  have hG : GX ω 0 0 0 (fun _ _ => 0) (fun _ => 0) s H4 := by
    refine ⟨⟨hK1, (BA.to q6 hAx (hBA.kept hS.2.1)), hD⟩, ?_, ?_, ?_, fun r hr => ?_⟩
    · rw [q1, q2, q3, q4]; exact hP
    · rw [q3, q8, g1]
      simp only [q5]
    · rw [q4, q7]; exact g3
    · rw [q5, q7]; exact g2 r hr
  rw [← q2] at hl
  refine lv_aload_n hx hb dX0_init_24 rfl (lv_at hl 0 rfl) ?_
  refine ix_iconst hx hb dX0_init_25 ?_
  refine va_callv (va_runV (As := [.int (iI 0)]) (rest := []) ⟨hx, hb, hml, hown, hts⟩ (c_takeKind l ω 0 0 0 (fun _ _ => 0) (fun _ => 0) 0 (by decide) (by decide)) (cwV 1 hts (gU (hd := [.methodLink "NoiseRing" 18 yX0_takeKind, .instanceMethod yX0_takeKind, .selects "NoiseRing" yX0_takeKind yX0_takeKind, .initialized "NoiseRing"]) (List.forall_mem_cons.mpr ⟨u47, List.forall_mem_cons.mpr ⟨u48, List.forall_mem_cons.mpr ⟨u0, List.forall_mem_cons.mpr ⟨u29, fun _ h => by cases h⟩⟩⟩⟩) u49) rfl rfl rfl (by decide +kernel) ⟨Nat.le_of_ble_eq_true rfl, Nat.le_of_ble_eq_true rfl⟩) (gx_V hG) rfl rfl hl.1 rfl (lv_room (Nat.le_of_ble_eq_true rfl)) dX0_init_26 ⟨Nat.le_of_ble_eq_true rfl, Nat.le_of_ble_eq_true rfl⟩) hS (fun q9 _ h => hAx q9 h) (fun q9 h => hAx q9 h) (fun u t H5 locs5 ht hvm hpu hB hz hk hS1 => ?_)
  rw [ht] at hB
  exact W.vret hx hb hrt (fun t ht hW => ⟨⟨ω, rfl, ⟨q1, q2, q6, hD, hAx⟩, va_K.moved hW.alike hK1, by rw [ht]; exact hB⟩, hS1.F ht⟩) hS1.2.2 dX0_init_29

/-! The law's wrappers, by program (wip/gen/lw.py). -/
set_option maxHeartbeats 4000000 in
set_option maxRecDepth 100000 in
theorem w_begin (l : Launch) (htr : l.stackTraces = false) (ω : WX) (cL : ClassId) (ou : Nat) (o0 : Int64) (hou : ¬ Ax ω ou) (k q z : Int) (M : Nat → Nat → Int) (wk : Nat → Int) (n : Int) (n1 : -2147483648 ≤ n) (n2 : n < 2147483648) (hq1 : 3329 ≤ q) (hq2 : q ≤ 8380417) (hM : ∀ r i, r < 12 → i < 16 → 0 ≤ M r i ∧ M r i < q) : Met l yL_begin wsL_begin ({ frames := 8, cells := 1, slots := 6, locals := 125 }) (va_Pc [.ref (ox ω), .int (iI (n)), .ref (ou)] (fun U => GX ω k q z M wk U U.heap ∧ ArrOfT U cL .long ∧ OU cL ou o0 U.heap)) (va_Qi (fun r_ (w_ : Int × (Nat → Int)) => ((0 ≤ n ∧ n < 2) ∧ w_.1 = 0 ∨ (¬ (0 ≤ n ∧ n < 2)) ∧ w_.1 = 1) ∧ r_ = iI w_.1) (fun w_ t => BW ω cL ou o0 k q z M n (kQ n) (kZ n) (zM M 192) (iI (kQ n)) w_ t) (Aw ω ou)) 1 6 (Aw ω ou) := by
  refine va_MetW (cc := cL_begin) (maxL := 4) (ret := (some .int)) (hh := [(0, 9, 12, 13)]) (by decide +kernel) rfl ?_
  intro p e s m args below meth c s₁ B hml hv
  obtain ⟨rfl, hG, hAr, hO⟩ := hv
  have hx := B.exec
  have hb := B.bytes
  have hrt := B.returns
  have hts : ∀ w ∈ wsU, w.before _ s = true := fun w h => atoms_spec (ws := wsL_begin) B.pre w (List.mem_cons_of_mem _ h)
  have htab := vx_table (x := yL_begin) B (atoms_spec (ws := wsL_begin) B.pre _ List.mem_cons_self)
  have hown : s.vm.findClass "NoiseRingLaw" = some m.cls := findClass_of_methodNamed B.named
  have hlocks := B.notSynchronized
  have hS : va_S (Aw ω ou) s.heap s.heap [] := va_S.rf
  have hlt : ou < s.heap.size := (Array.getElem?_eq_some_iff.mp hO).1
  have hl := lv_entry ([.ref (ox ω), .int (iI (n)), .ref (ou)]) (n := 4) (Nat.le_of_ble_eq_true rfl)
  rw [lg_entry_eq]
  generalize (lg_sl ([.ref (ox ω), .int (iI (n)), .ref (ou)]) ++ List.replicate (4 - (lg_sl ([.ref (ox ω), .int (iI (n)), .ref (ou)])).length) Slot.unset).toArray = ls at hl ⊢
  have hl : lv_has ls 4 [(0, .ref (ox ω)), (1, .int (iI (n))), (2, .ref (ou))] := hl
  refine lv_aload_n hx hb dL_begin_0 rfl (lv_at hl 2 rfl) ?_
  refine ix_iconst hx hb dL_begin_1 ?_
  refine lv_aload_n hx hb dL_begin_2 rfl (lv_at hl 0 rfl) ?_
  refine lv_iload_n hx hb dL_begin_3 rfl (lv_at hl 1 rfl) ?_
  refine vx_calli (vx_runV (As := [.int (iI (n))]) (rest := [.int (iI (0)), .ref (ou)]) ⟨hx, hb, hml, hown, hts⟩ (p_begin l htr ω k q z M wk n n1 n2 hq1 hq2 hM) (cwV 1 hts (gU (hd := [.methodLink "NoiseRingLaw" 7 yX0_begin, .instanceMethod yX0_begin, .selects "NoiseRing" yX0_begin yX0_begin, .initialized "NoiseRing"]) (List.forall_mem_cons.mpr ⟨u86, List.forall_mem_cons.mpr ⟨u87, List.forall_mem_cons.mpr ⟨u88, List.forall_mem_cons.mpr ⟨u29, fun _ h => by cases h⟩⟩⟩⟩) u89) rfl rfl rfl (by decide +kernel) ⟨Nat.le_of_ble_eq_true rfl, Nat.le_of_ble_eq_true rfl⟩) (gx_V hG) rfl rfl hl.1 rfl (lv_room (Nat.le_of_ble_eq_true rfl)) dL_begin_4 ⟨Nat.le_of_ble_eq_true rfl, Nat.le_of_ble_eq_true rfl⟩) hS (fun q9 _ h => Or.inl h) (fun q9 h => Or.inl h) (fun q9 _ h => Or.inl h) (fun E ce q9 u t H1 locs1 ht hvm hpx hBX hz hk hS1 hce hcv hcl => ?_) (fun r u t H1 locs1 ht hvm hp hB hz hk hS1 => ?_)
  · have hO1 : OU cL ou o0 H1 := (hk ou hlt hou).trans hO
    obtain ⟨⟨hbad, rfl⟩, hCX⟩ := hBX
    refine vx_catch (own := "NoiseRingLaw") (name := nIAE) hown [] ⟨0, 9, 12, 13⟩ [] htab (fun z9 h9 => by cases h9) (by decide) (by decide) (hts _ u85) (va_Nw.use rfl hG.1.2.1.2.2.2.2.2.1) hce hcv hcl ?_
    refine lv_astore_n (lv' := [(3, .ref (q9)), (0, .ref (ox ω)), (1, .int (iI (n))), (2, .ref (ou))]) hx hb dL_begin_12 rfl hl (by decide) rfl (fun ls hl => ?_)
    refine ix_iconst hx hb dL_begin_13 ?_
    exact W.iret hx hb hrt (fun t9 ht9 hW => ⟨⟨_, (1, wk), rfl, ⟨Or.inr ⟨hbad, rfl⟩, rfl⟩, ⟨fun g9 => absurd g9 (show ¬ (1 : Int) = 0 by decide), fun _ => ⟨by rw [ht9, ← ht]; exact hCX, by rw [ht9]; exact hO1⟩⟩⟩, hS1.F ht9⟩) hS1.2.2 dL_begin_14
  obtain ⟨hok, rfl⟩ := hp
  have hO1 : OU cL ou o0 H1 := (hk ou hlt hou).trans hO
  have hlt1 : ou < H1.size := (Array.getElem?_eq_some_iff.mp hO1).1
  rw [ht] at hB
  refine lv_i2l hx hb dL_begin_7 rfl ?_
  refine ou_st hx hb hO1 hAr dL_begin_8 (fun H2 hO2 z2 oq2 => ?_)
  have hS2 := hS1.put (k := 0) z2 oq2 (Or.inr rfl)
  have hCX := hB.keptA (fun a9 g9 h9 => oq2 a9 (fun e9 => hou (e9 ▸ h9)))
  refine lv_goto (tgt := 15) hx hb dL_begin_9 (by decide) ?_
  refine ix_iconst hx hb dL_begin_15 ?_
  exact W.iret hx hb hrt (fun t9 ht9 hW => ⟨⟨_, (0, u), rfl, ⟨Or.inl ⟨hok, rfl⟩, rfl⟩, ⟨fun _ => ⟨by rw [ht9]; exact hCX, by rw [ht9]; exact hO2⟩, fun g9 => absurd rfl g9⟩⟩, hS2.F ht9⟩) hS2.2.2 dL_begin_16
set_option maxHeartbeats 4000000 in
set_option maxRecDepth 100000 in
theorem w_set (l : Launch) (htr : l.stackTraces = false) (ω : WX) (cL : ClassId) (ou : Nat) (o0 : Int64) (hou : ¬ Ax ω ou) (k q z : Int) (M : Nat → Nat → Int) (wk : Nat → Int) (r i v : Int) (r1 : -2147483648 ≤ r) (r2 : r < 2147483648) (i1 : -2147483648 ≤ i) (i2 : i < 2147483648) (v1 : -2147483648 ≤ v) (v2 : v < 2147483648) (hq1 : 3329 ≤ q) (hq2 : q ≤ 8380417) (hM : ∀ r i, r < 12 → i < 16 → 0 ≤ M r i ∧ M r i < q) : Met l yL_set wsL_set ({ frames := 8, cells := 2, slots := 12, locals := 126 }) (va_Pc [.ref (ox ω), .int (iI (r)), .int (iI (i)), .int (iI (v)), .ref (ou)] (fun U => GX ω k q z M wk U U.heap ∧ ArrOfT U cL .long ∧ OU cL ou o0 U.heap)) (va_Qi (fun r_ (w_ : Int × (Nat → Int)) => (((0 ≤ r ∧ r < 12) ∧ 0 ≤ i ∧ i < 16) ∧ w_.1 = 0 ∨ (¬ ((0 ≤ r ∧ r < 12) ∧ 0 ≤ i ∧ i < 16)) ∧ w_.1 = 1) ∧ r_ = iI w_.1) (fun w_ t => BW ω cL ou o0 k q z M k q z (upR M r.toNat (upI (M r.toNat) i.toNat (v % q))) (iI (M r.toNat i.toNat)) w_ t) (Aw ω ou)) 2 12 (Aw ω ou) := by
  refine va_MetW (cc := cL_set) (maxL := 6) (ret := (some .int)) (hh := [(0, 12, 15, 19)]) (by decide +kernel) rfl ?_
  intro p e s m args below meth c s₁ B hml hv
  obtain ⟨rfl, hG, hAr, hO⟩ := hv
  have hx := B.exec
  have hb := B.bytes
  have hrt := B.returns
  have hts : ∀ w ∈ wsU, w.before _ s = true := fun w h => atoms_spec (ws := wsL_set) B.pre w (List.mem_cons_of_mem _ h)
  have htab := vx_table (x := yL_set) B (atoms_spec (ws := wsL_set) B.pre _ List.mem_cons_self)
  have hown : s.vm.findClass "NoiseRingLaw" = some m.cls := findClass_of_methodNamed B.named
  have hlocks := B.notSynchronized
  have hS : va_S (Aw ω ou) s.heap s.heap [] := va_S.rf
  have hlt : ou < s.heap.size := (Array.getElem?_eq_some_iff.mp hO).1
  have hl := lv_entry ([.ref (ox ω), .int (iI (r)), .int (iI (i)), .int (iI (v)), .ref (ou)]) (n := 6) (Nat.le_of_ble_eq_true rfl)
  rw [lg_entry_eq]
  generalize (lg_sl ([.ref (ox ω), .int (iI (r)), .int (iI (i)), .int (iI (v)), .ref (ou)]) ++ List.replicate (6 - (lg_sl ([.ref (ox ω), .int (iI (r)), .int (iI (i)), .int (iI (v)), .ref (ou)])).length) Slot.unset).toArray = ls at hl ⊢
  have hl : lv_has ls 6 [(0, .ref (ox ω)), (1, .int (iI (r))), (2, .int (iI (i))), (3, .int (iI (v))), (4, .ref (ou))] := hl
  refine lv_aload hx hb dL_set_0 (lv_at hl 4 rfl) ?_
  refine ix_iconst hx hb dL_set_2 ?_
  refine lv_aload_n hx hb dL_set_3 rfl (lv_at hl 0 rfl) ?_
  refine lv_iload_n hx hb dL_set_4 rfl (lv_at hl 1 rfl) ?_
  refine lv_iload_n hx hb dL_set_5 rfl (lv_at hl 2 rfl) ?_
  refine lv_iload_n hx hb dL_set_6 rfl (lv_at hl 3 rfl) ?_
  refine vx_calli (vx_runV (As := [.int (iI (r)), .int (iI (i)), .int (iI (v))]) (rest := [.int (iI (0)), .ref (ou)]) ⟨hx, hb, hml, hown, hts⟩ (p_set l htr ω k q z M wk r i v r1 r2 i1 i2 v1 v2 hq1 hq2 hM) (cwV 3 hts (gU (hd := [.methodLink "NoiseRingLaw" 15 yX0_set, .instanceMethod yX0_set, .selects "NoiseRing" yX0_set yX0_set, .initialized "NoiseRing"]) (List.forall_mem_cons.mpr ⟨u151, List.forall_mem_cons.mpr ⟨u152, List.forall_mem_cons.mpr ⟨u153, List.forall_mem_cons.mpr ⟨u29, fun _ h => by cases h⟩⟩⟩⟩) u154) rfl rfl rfl (by decide +kernel) ⟨Nat.le_of_ble_eq_true rfl, Nat.le_of_ble_eq_true rfl⟩) (gx_V hG) rfl rfl hl.1 rfl (lv_room (Nat.le_of_ble_eq_true rfl)) dL_set_7 ⟨Nat.le_of_ble_eq_true rfl, Nat.le_of_ble_eq_true rfl⟩) hS (fun q9 _ h => Or.inl h) (fun q9 h => Or.inl h) (fun q9 _ h => Or.inl h) (fun E ce q9 u t H1 locs1 ht hvm hpx hBX hz hk hS1 hce hcv hcl => ?_) (fun r u t H1 locs1 ht hvm hp hB hz hk hS1 => ?_)
  · have hO1 : OU cL ou o0 H1 := (hk ou hlt hou).trans hO
    obtain ⟨⟨hbad, rfl⟩, hCX⟩ := hBX
    refine vx_catch (own := "NoiseRingLaw") (name := nNSE) hown [] ⟨0, 12, 15, 19⟩ [] htab (fun z9 h9 => by cases h9) (by decide) (by decide) (hts _ u150) (va_Nw.use rfl hG.1.2.1.2.2.2.2.1) hce hcv hcl ?_
    refine lv_astore (lv' := [(5, .ref (q9)), (0, .ref (ox ω)), (1, .int (iI (r))), (2, .int (iI (i))), (3, .int (iI (v))), (4, .ref (ou))]) hx hb dL_set_15 hl (by decide) rfl (fun ls hl => ?_)
    refine ix_iconst hx hb dL_set_17 ?_
    exact W.iret hx hb hrt (fun t9 ht9 hW => ⟨⟨_, (1, wk), rfl, ⟨Or.inr ⟨hbad, rfl⟩, rfl⟩, ⟨fun g9 => absurd g9 (show ¬ (1 : Int) = 0 by decide), fun _ => ⟨by rw [ht9, ← ht]; exact hCX, by rw [ht9]; exact hO1⟩⟩⟩, hS1.F ht9⟩) hS1.2.2 dL_set_18
  obtain ⟨hok, rfl⟩ := hp
  have hO1 : OU cL ou o0 H1 := (hk ou hlt hou).trans hO
  have hlt1 : ou < H1.size := (Array.getElem?_eq_some_iff.mp hO1).1
  rw [ht] at hB
  refine lv_i2l hx hb dL_set_10 rfl ?_
  refine ou_st hx hb hO1 hAr dL_set_11 (fun H2 hO2 z2 oq2 => ?_)
  have hS2 := hS1.put (k := 0) z2 oq2 (Or.inr rfl)
  have hCX := hB.keptA (fun a9 g9 h9 => oq2 a9 (fun e9 => hou (e9 ▸ h9)))
  refine lv_goto (tgt := 19) hx hb dL_set_12 (by decide) ?_
  refine ix_iconst hx hb dL_set_19 ?_
  exact W.iret hx hb hrt (fun t9 ht9 hW => ⟨⟨_, (0, u), rfl, ⟨Or.inl ⟨hok, rfl⟩, rfl⟩, ⟨fun _ => ⟨by rw [ht9]; exact hCX, by rw [ht9]; exact hO2⟩, fun g9 => absurd rfl g9⟩⟩, hS2.F ht9⟩) hS2.2.2 dL_set_20
set_option maxHeartbeats 4000000 in
set_option maxRecDepth 100000 in
theorem w_get (l : Launch) (htr : l.stackTraces = false) (ω : WX) (cL : ClassId) (ou : Nat) (o0 : Int64) (hou : ¬ Ax ω ou) (k q z : Int) (M : Nat → Nat → Int) (wk : Nat → Int) (r i : Int) (r1 : -2147483648 ≤ r) (r2 : r < 2147483648) (i1 : -2147483648 ≤ i) (i2 : i < 2147483648) (hq1 : 3329 ≤ q) (hq2 : q ≤ 8380417) (hM : ∀ r i, r < 12 → i < 16 → 0 ≤ M r i ∧ M r i < q) : Met l yL_get wsL_get ({ frames := 8, cells := 2, slots := 12, locals := 124 }) (va_Pc [.ref (ox ω), .int (iI (r)), .int (iI (i)), .ref (ou)] (fun U => GX ω k q z M wk U U.heap ∧ ArrOfT U cL .long ∧ OU cL ou o0 U.heap)) (va_Qi (fun r_ (w_ : Int × (Nat → Int)) => (((0 ≤ r ∧ r < 12) ∧ 0 ≤ i ∧ i < 16) ∧ w_.1 = 0 ∨ (¬ ((0 ≤ r ∧ r < 12) ∧ 0 ≤ i ∧ i < 16)) ∧ w_.1 = 1) ∧ r_ = iI w_.1) (fun w_ t => BW ω cL ou o0 k q z M k q z M (iI (M r.toNat i.toNat)) w_ t) (Aw ω ou)) 2 12 (Aw ω ou) := by
  refine va_MetW (cc := cL_get) (maxL := 5) (ret := (some .int)) (hh := [(0, 10, 13, 19)]) (by decide +kernel) rfl ?_
  intro p e s m args below meth c s₁ B hml hv
  obtain ⟨rfl, hG, hAr, hO⟩ := hv
  have hx := B.exec
  have hb := B.bytes
  have hrt := B.returns
  have hts : ∀ w ∈ wsU, w.before _ s = true := fun w h => atoms_spec (ws := wsL_get) B.pre w (List.mem_cons_of_mem _ h)
  have htab := vx_table (x := yL_get) B (atoms_spec (ws := wsL_get) B.pre _ List.mem_cons_self)
  have hown : s.vm.findClass "NoiseRingLaw" = some m.cls := findClass_of_methodNamed B.named
  have hlocks := B.notSynchronized
  have hS : va_S (Aw ω ou) s.heap s.heap [] := va_S.rf
  have hlt : ou < s.heap.size := (Array.getElem?_eq_some_iff.mp hO).1
  have hl := lv_entry ([.ref (ox ω), .int (iI (r)), .int (iI (i)), .ref (ou)]) (n := 5) (Nat.le_of_ble_eq_true rfl)
  rw [lg_entry_eq]
  generalize (lg_sl ([.ref (ox ω), .int (iI (r)), .int (iI (i)), .ref (ou)]) ++ List.replicate (5 - (lg_sl ([.ref (ox ω), .int (iI (r)), .int (iI (i)), .ref (ou)])).length) Slot.unset).toArray = ls at hl ⊢
  have hl : lv_has ls 5 [(0, .ref (ox ω)), (1, .int (iI (r))), (2, .int (iI (i))), (3, .ref (ou))] := hl
  refine lv_aload_n hx hb dL_get_0 rfl (lv_at hl 3 rfl) ?_
  refine ix_iconst hx hb dL_get_1 ?_
  refine lv_aload_n hx hb dL_get_2 rfl (lv_at hl 0 rfl) ?_
  refine lv_iload_n hx hb dL_get_3 rfl (lv_at hl 1 rfl) ?_
  refine lv_iload_n hx hb dL_get_4 rfl (lv_at hl 2 rfl) ?_
  refine vx_calli (vx_runV (As := [.int (iI (r)), .int (iI (i))]) (rest := [.int (iI (0)), .ref (ou)]) ⟨hx, hb, hml, hown, hts⟩ (p_get l htr ω k q z M wk r i r1 r2 i1 i2 hq1 hq2 hM) (cwV 2 hts (gU (hd := [.methodLink "NoiseRingLaw" 21 yX0_get, .instanceMethod yX0_get, .selects "NoiseRing" yX0_get yX0_get, .initialized "NoiseRing"]) (List.forall_mem_cons.mpr ⟨u181, List.forall_mem_cons.mpr ⟨u182, List.forall_mem_cons.mpr ⟨u183, List.forall_mem_cons.mpr ⟨u29, fun _ h => by cases h⟩⟩⟩⟩) u184) rfl rfl rfl (by decide +kernel) ⟨Nat.le_of_ble_eq_true rfl, Nat.le_of_ble_eq_true rfl⟩) (gx_V hG) rfl rfl hl.1 rfl (lv_room (Nat.le_of_ble_eq_true rfl)) dL_get_5 ⟨Nat.le_of_ble_eq_true rfl, Nat.le_of_ble_eq_true rfl⟩) hS (fun q9 _ h => Or.inl h) (fun q9 h => Or.inl h) (fun q9 _ h => Or.inl h) (fun E ce q9 u t H1 locs1 ht hvm hpx hBX hz hk hS1 hce hcv hcl => ?_) (fun r u t H1 locs1 ht hvm hp hB hz hk hS1 => ?_)
  · have hO1 : OU cL ou o0 H1 := (hk ou hlt hou).trans hO
    obtain ⟨⟨hbad, rfl⟩, hCX⟩ := hBX
    refine vx_catch (own := "NoiseRingLaw") (name := nNSE) hown [] ⟨0, 10, 13, 19⟩ [] htab (fun z9 h9 => by cases h9) (by decide) (by decide) (hts _ u150) (va_Nw.use rfl hG.1.2.1.2.2.2.2.1) hce hcv hcl ?_
    refine lv_astore (lv' := [(4, .ref (q9)), (0, .ref (ox ω)), (1, .int (iI (r))), (2, .int (iI (i))), (3, .ref (ou))]) hx hb dL_get_13 hl (by decide) rfl (fun ls hl => ?_)
    refine ix_iconst hx hb dL_get_15 ?_
    exact W.iret hx hb hrt (fun t9 ht9 hW => ⟨⟨_, (1, wk), rfl, ⟨Or.inr ⟨hbad, rfl⟩, rfl⟩, ⟨fun g9 => absurd g9 (show ¬ (1 : Int) = 0 by decide), fun _ => ⟨by rw [ht9, ← ht]; exact hCX, by rw [ht9]; exact hO1⟩⟩⟩, hS1.F ht9⟩) hS1.2.2 dL_get_16
  obtain ⟨hok, rfl⟩ := hp
  have hO1 : OU cL ou o0 H1 := (hk ou hlt hou).trans hO
  have hlt1 : ou < H1.size := (Array.getElem?_eq_some_iff.mp hO1).1
  rw [ht] at hB
  refine lv_i2l hx hb dL_get_8 rfl ?_
  refine ou_st hx hb hO1 hAr dL_get_9 (fun H2 hO2 z2 oq2 => ?_)
  have hS2 := hS1.put (k := 0) z2 oq2 (Or.inr rfl)
  have hCX := hB.keptA (fun a9 g9 h9 => oq2 a9 (fun e9 => hou (e9 ▸ h9)))
  refine lv_goto (tgt := 17) hx hb dL_get_10 (by decide) ?_
  refine ix_iconst hx hb dL_get_17 ?_
  exact W.iret hx hb hrt (fun t9 ht9 hW => ⟨⟨_, (0, u), rfl, ⟨Or.inl ⟨hok, rfl⟩, rfl⟩, ⟨fun _ => ⟨by rw [ht9]; exact hCX, by rw [ht9]; exact hO2⟩, fun g9 => absurd rfl g9⟩⟩, hS2.F ht9⟩) hS2.2.2 dL_get_18
set_option maxHeartbeats 4000000 in
set_option maxRecDepth 100000 in
theorem w_join (l : Launch) (htr : l.stackTraces = false) (ω : WX) (cL : ClassId) (ou : Nat) (o0 : Int64) (hou : ¬ Ax ω ou) (k q z : Int) (M : Nat → Nat → Int) (wk : Nat → Int) (to op a b : Int) (to1 : -2147483648 ≤ to) (to2 : to < 2147483648) (op1 : -2147483648 ≤ op) (op2 : op < 2147483648) (a1 : -2147483648 ≤ a) (a2 : a < 2147483648) (b1 : -2147483648 ≤ b) (b2 : b < 2147483648) (hq1 : 3329 ≤ q) (hq2 : q ≤ 8380417) (hM : ∀ r i, r < 12 → i < 16 → 0 ≤ M r i ∧ M r i < q) : Met l yL_join wsL_join ({ frames := 8, cells := 4, slots := 24, locals := 127 }) (va_Pc [.ref (ox ω), .int (iI (to)), .int (iI (op)), .int (iI (a)), .int (iI (b)), .ref (ou)] (fun U => GX ω k q z M wk U U.heap ∧ ArrOfT U cL .long ∧ OU cL ou o0 U.heap)) (va_Qi (fun r_ (w_ : Int × (Nat → Int)) => ((((0 ≤ to ∧ to < 12) ∧ (0 ≤ a ∧ a < 12) ∧ (0 ≤ b ∧ b < 12)) ∧ 0 ≤ op ∧ op ≤ 2) ∧ w_.1 = 0 ∨ (¬ ((0 ≤ to ∧ to < 12) ∧ (0 ≤ a ∧ a < 12) ∧ (0 ≤ b ∧ b < 12))) ∧ w_.1 = 1 ∨ (((0 ≤ to ∧ to < 12) ∧ (0 ≤ a ∧ a < 12) ∧ (0 ≤ b ∧ b < 12)) ∧ ¬ (0 ≤ op ∧ op ≤ 2)) ∧ w_.1 = 2) ∧ r_ = iI w_.1) (fun w_ t => BW ω cL ou o0 k q z M k q z (mixR M to.toNat (fun i => sJoin q op (M a.toNat) (M b.toNat) i) 16) (iI (sMax q (fun i => sJoin q op (M a.toNat) (M b.toNat) i) 16)) w_ t) (Aw ω ou)) 4 24 (Aw ω ou) := by
  refine va_MetW (cc := cL_join) (maxL := 7) (ret := (some .int)) (hh := [(0, 14, 17, 19), (0, 14, 21, 13)]) (by decide +kernel) rfl ?_
  intro p e s m args below meth c s₁ B hml hv
  obtain ⟨rfl, hG, hAr, hO⟩ := hv
  have hx := B.exec
  have hb := B.bytes
  have hrt := B.returns
  have hts : ∀ w ∈ wsU, w.before _ s = true := fun w h => atoms_spec (ws := wsL_join) B.pre w (List.mem_cons_of_mem _ h)
  have htab := vx_table (x := yL_join) B (atoms_spec (ws := wsL_join) B.pre _ List.mem_cons_self)
  have hown : s.vm.findClass "NoiseRingLaw" = some m.cls := findClass_of_methodNamed B.named
  have hlocks := B.notSynchronized
  have hS : va_S (Aw ω ou) s.heap s.heap [] := va_S.rf
  have hlt : ou < s.heap.size := (Array.getElem?_eq_some_iff.mp hO).1
  have hl := lv_entry ([.ref (ox ω), .int (iI (to)), .int (iI (op)), .int (iI (a)), .int (iI (b)), .ref (ou)]) (n := 7) (Nat.le_of_ble_eq_true rfl)
  rw [lg_entry_eq]
  generalize (lg_sl ([.ref (ox ω), .int (iI (to)), .int (iI (op)), .int (iI (a)), .int (iI (b)), .ref (ou)]) ++ List.replicate (7 - (lg_sl ([.ref (ox ω), .int (iI (to)), .int (iI (op)), .int (iI (a)), .int (iI (b)), .ref (ou)])).length) Slot.unset).toArray = ls at hl ⊢
  have hl : lv_has ls 7 [(0, .ref (ox ω)), (1, .int (iI (to))), (2, .int (iI (op))), (3, .int (iI (a))), (4, .int (iI (b))), (5, .ref (ou))] := hl
  refine lv_aload hx hb dL_join_0 (lv_at hl 5 rfl) ?_
  refine ix_iconst hx hb dL_join_2 ?_
  refine lv_aload_n hx hb dL_join_3 rfl (lv_at hl 0 rfl) ?_
  refine lv_iload_n hx hb dL_join_4 rfl (lv_at hl 1 rfl) ?_
  refine lv_iload_n hx hb dL_join_5 rfl (lv_at hl 2 rfl) ?_
  refine lv_iload_n hx hb dL_join_6 rfl (lv_at hl 3 rfl) ?_
  refine lv_iload hx hb dL_join_7 (lv_at hl 4 rfl) ?_
  refine vx_calli (vx_runV (As := [.int (iI (to)), .int (iI (op)), .int (iI (a)), .int (iI (b))]) (rest := [.int (iI (0)), .ref (ou)]) ⟨hx, hb, hml, hown, hts⟩ (p_join l htr ω k q z M wk to op a b to1 to2 op1 op2 a1 a2 b1 b2 hq1 hq2 hM) (cwV 4 hts (gU (hd := [.methodLink "NoiseRingLaw" 25 yX0_join, .instanceMethod yX0_join, .selects "NoiseRing" yX0_join yX0_join, .initialized "NoiseRing"]) (List.forall_mem_cons.mpr ⟨u188, List.forall_mem_cons.mpr ⟨u189, List.forall_mem_cons.mpr ⟨u190, List.forall_mem_cons.mpr ⟨u29, fun _ h => by cases h⟩⟩⟩⟩) u191) rfl rfl rfl (by decide +kernel) ⟨Nat.le_of_ble_eq_true rfl, Nat.le_of_ble_eq_true rfl⟩) (gx_V hG) rfl rfl hl.1 rfl (lv_room (Nat.le_of_ble_eq_true rfl)) dL_join_9 ⟨Nat.le_of_ble_eq_true rfl, Nat.le_of_ble_eq_true rfl⟩) hS (fun q9 _ h => Or.inl h) (fun q9 h => Or.inl h) (fun q9 _ h => Or.inl h) (fun E ce q9 u t H1 locs1 ht hvm hpx hBX hz hk hS1 hce hcv hcl => ?_) (fun r u t H1 locs1 ht hvm hp hB hz hk hS1 => ?_)
  · have hO1 : OU cL ou o0 H1 := (hk ou hlt hou).trans hO
    obtain ⟨⟨hbad, rfl⟩ | ⟨hbd1, hbd2, rfl⟩, hCX⟩ := hBX
    · refine vx_catch (own := "NoiseRingLaw") (name := nNSE) hown [] ⟨0, 14, 17, 19⟩ [⟨0, 14, 21, 13⟩] htab (fun z9 h9 => by cases h9) (by decide) (by decide) (hts _ u150) (va_Nw.use rfl hG.1.2.1.2.2.2.2.1) hce hcv hcl ?_
      refine lv_astore (lv' := [(6, .ref (q9)), (0, .ref (ox ω)), (1, .int (iI (to))), (2, .int (iI (op))), (3, .int (iI (a))), (4, .int (iI (b))), (5, .ref (ou))]) hx hb dL_join_17 hl (by decide) rfl (fun ls hl => ?_)
      refine ix_iconst hx hb dL_join_19 ?_
      exact W.iret hx hb hrt (fun t9 ht9 hW => ⟨⟨_, (1, wk), rfl, ⟨Or.inr (Or.inl ⟨hbad, rfl⟩), rfl⟩, ⟨fun g9 => absurd g9 (show ¬ (1 : Int) = 0 by decide), fun _ => ⟨by rw [ht9, ← ht]; exact hCX, by rw [ht9]; exact hO1⟩⟩⟩, hS1.F ht9⟩) hS1.2.2 dL_join_20
    · refine vx_catch (own := "NoiseRingLaw") (name := nIAE) hown [⟨0, 14, 17, 19⟩] ⟨0, 14, 21, 13⟩ [] htab (fun z9 h9 => by rcases List.mem_singleton.mp h9 with rfl; exact Or.inr ⟨by decide, nNSE, hts _ u150, hG.1.2.1.2.2.2.2.2.2⟩) (by decide) (by decide) (hts _ u85) (va_Nw.use rfl hG.1.2.1.2.2.2.2.2.1) hce hcv hcl ?_
      refine lv_astore (lv' := [(6, .ref (q9)), (0, .ref (ox ω)), (1, .int (iI (to))), (2, .int (iI (op))), (3, .int (iI (a))), (4, .int (iI (b))), (5, .ref (ou))]) hx hb dL_join_21 hl (by decide) rfl (fun ls hl => ?_)
      refine ix_iconst hx hb dL_join_23 ?_
      exact W.iret hx hb hrt (fun t9 ht9 hW => ⟨⟨_, (2, wk), rfl, ⟨Or.inr (Or.inr ⟨⟨hbd1, hbd2⟩, rfl⟩), rfl⟩, ⟨fun g9 => absurd g9 (show ¬ (2 : Int) = 0 by decide), fun _ => ⟨by rw [ht9, ← ht]; exact hCX, by rw [ht9]; exact hO1⟩⟩⟩, hS1.F ht9⟩) hS1.2.2 dL_join_24
  obtain ⟨hok, rfl⟩ := hp
  have hO1 : OU cL ou o0 H1 := (hk ou hlt hou).trans hO
  have hlt1 : ou < H1.size := (Array.getElem?_eq_some_iff.mp hO1).1
  rw [ht] at hB
  refine lv_i2l hx hb dL_join_12 rfl ?_
  refine ou_st hx hb hO1 hAr dL_join_13 (fun H2 hO2 z2 oq2 => ?_)
  have hS2 := hS1.put (k := 0) z2 oq2 (Or.inr rfl)
  have hCX := hB.keptA (fun a9 g9 h9 => oq2 a9 (fun e9 => hou (e9 ▸ h9)))
  refine lv_goto (tgt := 25) hx hb dL_join_14 (by decide) ?_
  refine ix_iconst hx hb dL_join_25 ?_
  exact W.iret hx hb hrt (fun t9 ht9 hW => ⟨⟨_, (0, u), rfl, ⟨Or.inl ⟨hok, rfl⟩, rfl⟩, ⟨fun _ => ⟨by rw [ht9]; exact hCX, by rw [ht9]; exact hO2⟩, fun g9 => absurd rfl g9⟩⟩, hS2.F ht9⟩) hS2.2.2 dL_join_26
set_option maxHeartbeats 4000000 in
set_option maxRecDepth 100000 in
theorem w_round (l : Launch) (htr : l.stackTraces = false) (ω : WX) (cL : ClassId) (ou : Nat) (o0 : Int64) (hou : ¬ Ax ω ou) (k q z : Int) (M : Nat → Nat → Int) (wk : Nat → Int) (to op a d : Int) (to1 : -2147483648 ≤ to) (to2 : to < 2147483648) (op1 : -2147483648 ≤ op) (op2 : op < 2147483648) (a1 : -2147483648 ≤ a) (a2 : a < 2147483648) (d1 : -2147483648 ≤ d) (d2 : d < 2147483648) (hq1 : 3329 ≤ q) (hq2 : q ≤ 8380417) (hM : ∀ r i, r < 12 → i < 16 → 0 ≤ M r i ∧ M r i < q) (k1 : 0 ≤ k) (k2 : k ≤ 1) (qk : q = kQ k) : Met l yL_round wsL_round ({ frames := 8, cells := 4, slots := 24, locals := 127 }) (va_Pc [.ref (ox ω), .int (iI (to)), .int (iI (op)), .int (iI (a)), .int (iI (d)), .ref (ou)] (fun U => GX ω k q z M wk U U.heap ∧ ArrOfT U cL .long ∧ OU cL ou o0 U.heap)) (va_Qi (fun r_ (w_ : Int × (Nat → Int)) => ((((0 ≤ to ∧ to < 12) ∧ (0 ≤ a ∧ a < 12)) ∧ (0 ≤ op ∧ op ≤ 3) ∧ 1 ≤ d ∧ d ≤ kD k) ∧ w_.1 = 0 ∨ (¬ ((0 ≤ to ∧ to < 12) ∧ (0 ≤ a ∧ a < 12))) ∧ w_.1 = 1 ∨ (((0 ≤ to ∧ to < 12) ∧ (0 ≤ a ∧ a < 12)) ∧ ¬ ((0 ≤ op ∧ op ≤ 3) ∧ 1 ≤ d ∧ d ≤ kD k)) ∧ w_.1 = 2) ∧ r_ = iI w_.1) (fun w_ t => BW ω cL ou o0 k q z M k q z (mixR M to.toNat (fun i => sRound q op (M a.toNat i) d.toNat) 16) (iI (sCnt (fun i => sRound q op (M a.toNat i) d.toNat) 16)) w_ t) (Aw ω ou)) 4 24 (Aw ω ou) := by
  refine va_MetW (cc := cL_round) (maxL := 7) (ret := (some .int)) (hh := [(0, 14, 17, 19), (0, 14, 21, 13)]) (by decide +kernel) rfl ?_
  intro p e s m args below meth c s₁ B hml hv
  obtain ⟨rfl, hG, hAr, hO⟩ := hv
  have hx := B.exec
  have hb := B.bytes
  have hrt := B.returns
  have hts : ∀ w ∈ wsU, w.before _ s = true := fun w h => atoms_spec (ws := wsL_round) B.pre w (List.mem_cons_of_mem _ h)
  have htab := vx_table (x := yL_round) B (atoms_spec (ws := wsL_round) B.pre _ List.mem_cons_self)
  have hown : s.vm.findClass "NoiseRingLaw" = some m.cls := findClass_of_methodNamed B.named
  have hlocks := B.notSynchronized
  have hS : va_S (Aw ω ou) s.heap s.heap [] := va_S.rf
  have hlt : ou < s.heap.size := (Array.getElem?_eq_some_iff.mp hO).1
  have hl := lv_entry ([.ref (ox ω), .int (iI (to)), .int (iI (op)), .int (iI (a)), .int (iI (d)), .ref (ou)]) (n := 7) (Nat.le_of_ble_eq_true rfl)
  rw [lg_entry_eq]
  generalize (lg_sl ([.ref (ox ω), .int (iI (to)), .int (iI (op)), .int (iI (a)), .int (iI (d)), .ref (ou)]) ++ List.replicate (7 - (lg_sl ([.ref (ox ω), .int (iI (to)), .int (iI (op)), .int (iI (a)), .int (iI (d)), .ref (ou)])).length) Slot.unset).toArray = ls at hl ⊢
  have hl : lv_has ls 7 [(0, .ref (ox ω)), (1, .int (iI (to))), (2, .int (iI (op))), (3, .int (iI (a))), (4, .int (iI (d))), (5, .ref (ou))] := hl
  refine lv_aload hx hb dL_round_0 (lv_at hl 5 rfl) ?_
  refine ix_iconst hx hb dL_round_2 ?_
  refine lv_aload_n hx hb dL_round_3 rfl (lv_at hl 0 rfl) ?_
  refine lv_iload_n hx hb dL_round_4 rfl (lv_at hl 1 rfl) ?_
  refine lv_iload_n hx hb dL_round_5 rfl (lv_at hl 2 rfl) ?_
  refine lv_iload_n hx hb dL_round_6 rfl (lv_at hl 3 rfl) ?_
  refine lv_iload hx hb dL_round_7 (lv_at hl 4 rfl) ?_
  refine vx_calli (vx_runV (As := [.int (iI (to)), .int (iI (op)), .int (iI (a)), .int (iI (d))]) (rest := [.int (iI (0)), .ref (ou)]) ⟨hx, hb, hml, hown, hts⟩ (p_round l htr ω k q z M wk to op a d to1 to2 op1 op2 a1 a2 d1 d2 hq1 hq2 hM k1 k2 qk) (cwV 4 hts (gU (hd := [.methodLink "NoiseRingLaw" 29 yX0_round, .instanceMethod yX0_round, .selects "NoiseRing" yX0_round yX0_round, .initialized "NoiseRing"]) (List.forall_mem_cons.mpr ⟨u219, List.forall_mem_cons.mpr ⟨u220, List.forall_mem_cons.mpr ⟨u221, List.forall_mem_cons.mpr ⟨u29, fun _ h => by cases h⟩⟩⟩⟩) u222) rfl rfl rfl (by decide +kernel) ⟨Nat.le_of_ble_eq_true rfl, Nat.le_of_ble_eq_true rfl⟩) (gx_V hG) rfl rfl hl.1 rfl (lv_room (Nat.le_of_ble_eq_true rfl)) dL_round_9 ⟨Nat.le_of_ble_eq_true rfl, Nat.le_of_ble_eq_true rfl⟩) hS (fun q9 _ h => Or.inl h) (fun q9 h => Or.inl h) (fun q9 _ h => Or.inl h) (fun E ce q9 u t H1 locs1 ht hvm hpx hBX hz hk hS1 hce hcv hcl => ?_) (fun r u t H1 locs1 ht hvm hp hB hz hk hS1 => ?_)
  · have hO1 : OU cL ou o0 H1 := (hk ou hlt hou).trans hO
    obtain ⟨⟨hbad, rfl⟩ | ⟨hbd1, hbd2, rfl⟩, hCX⟩ := hBX
    · refine vx_catch (own := "NoiseRingLaw") (name := nNSE) hown [] ⟨0, 14, 17, 19⟩ [⟨0, 14, 21, 13⟩] htab (fun z9 h9 => by cases h9) (by decide) (by decide) (hts _ u150) (va_Nw.use rfl hG.1.2.1.2.2.2.2.1) hce hcv hcl ?_
      refine lv_astore (lv' := [(6, .ref (q9)), (0, .ref (ox ω)), (1, .int (iI (to))), (2, .int (iI (op))), (3, .int (iI (a))), (4, .int (iI (d))), (5, .ref (ou))]) hx hb dL_round_17 hl (by decide) rfl (fun ls hl => ?_)
      refine ix_iconst hx hb dL_round_19 ?_
      exact W.iret hx hb hrt (fun t9 ht9 hW => ⟨⟨_, (1, wk), rfl, ⟨Or.inr (Or.inl ⟨hbad, rfl⟩), rfl⟩, ⟨fun g9 => absurd g9 (show ¬ (1 : Int) = 0 by decide), fun _ => ⟨by rw [ht9, ← ht]; exact hCX, by rw [ht9]; exact hO1⟩⟩⟩, hS1.F ht9⟩) hS1.2.2 dL_round_20
    · refine vx_catch (own := "NoiseRingLaw") (name := nIAE) hown [⟨0, 14, 17, 19⟩] ⟨0, 14, 21, 13⟩ [] htab (fun z9 h9 => by rcases List.mem_singleton.mp h9 with rfl; exact Or.inr ⟨by decide, nNSE, hts _ u150, hG.1.2.1.2.2.2.2.2.2⟩) (by decide) (by decide) (hts _ u85) (va_Nw.use rfl hG.1.2.1.2.2.2.2.2.1) hce hcv hcl ?_
      refine lv_astore (lv' := [(6, .ref (q9)), (0, .ref (ox ω)), (1, .int (iI (to))), (2, .int (iI (op))), (3, .int (iI (a))), (4, .int (iI (d))), (5, .ref (ou))]) hx hb dL_round_21 hl (by decide) rfl (fun ls hl => ?_)
      refine ix_iconst hx hb dL_round_23 ?_
      exact W.iret hx hb hrt (fun t9 ht9 hW => ⟨⟨_, (2, wk), rfl, ⟨Or.inr (Or.inr ⟨⟨hbd1, hbd2⟩, rfl⟩), rfl⟩, ⟨fun g9 => absurd g9 (show ¬ (2 : Int) = 0 by decide), fun _ => ⟨by rw [ht9, ← ht]; exact hCX, by rw [ht9]; exact hO1⟩⟩⟩, hS1.F ht9⟩) hS1.2.2 dL_round_24
  obtain ⟨hok, rfl⟩ := hp
  have hO1 : OU cL ou o0 H1 := (hk ou hlt hou).trans hO
  have hlt1 : ou < H1.size := (Array.getElem?_eq_some_iff.mp hO1).1
  rw [ht] at hB
  refine lv_i2l hx hb dL_round_12 rfl ?_
  refine ou_st hx hb hO1 hAr dL_round_13 (fun H2 hO2 z2 oq2 => ?_)
  have hS2 := hS1.put (k := 0) z2 oq2 (Or.inr rfl)
  have hCX := hB.keptA (fun a9 g9 h9 => oq2 a9 (fun e9 => hou (e9 ▸ h9)))
  refine lv_goto (tgt := 25) hx hb dL_round_14 (by decide) ?_
  refine ix_iconst hx hb dL_round_25 ?_
  exact W.iret hx hb hrt (fun t9 ht9 hW => ⟨⟨_, (0, u), rfl, ⟨Or.inl ⟨hok, rfl⟩, rfl⟩, ⟨fun _ => ⟨by rw [ht9]; exact hCX, by rw [ht9]; exact hO2⟩, fun g9 => absurd rfl g9⟩⟩, hS2.F ht9⟩) hS2.2.2 dL_round_26
set_option maxHeartbeats 4000000 in
set_option maxRecDepth 100000 in
theorem w_part (l : Launch) (htr : l.stackTraces = false) (ω : WX) (cL : ClassId) (ou : Nat) (o0 : Int64) (hou : ¬ Ax ω ou) (k q z : Int) (M : Nat → Nat → Int) (wk : Nat → Int) (to a al hi : Int) (to1 : -2147483648 ≤ to) (to2 : to < 2147483648) (a1 : -2147483648 ≤ a) (a2 : a < 2147483648) (al1 : -2147483648 ≤ al) (al2 : al < 2147483648) (hi1 : -2147483648 ≤ hi) (hi2 : hi < 2147483648) (hq1 : 3329 ≤ q) (hq2 : q ≤ 8380417) (hM : ∀ r i, r < 12 → i < 16 → 0 ≤ M r i ∧ M r i < q) : Met l yL_part wsL_part ({ frames := 8, cells := 3, slots := 18, locals := 128 }) (va_Pc [.ref (ox ω), .int (iI (to)), .int (iI (a)), .int (iI (al)), .int (iI (hi)), .ref (ou)] (fun U => GX ω k q z M wk U U.heap ∧ ArrOfT U cL .long ∧ OU cL ou o0 U.heap)) (va_Qi (fun r_ (w_ : Int × (Nat → Int)) => ((((0 ≤ to ∧ to < 12) ∧ (0 ≤ a ∧ a < 12)) ∧ sAli q al = 1) ∧ w_.1 = 0 ∨ (¬ ((0 ≤ to ∧ to < 12) ∧ (0 ≤ a ∧ a < 12))) ∧ w_.1 = 1 ∨ (((0 ≤ to ∧ to < 12) ∧ (0 ≤ a ∧ a < 12)) ∧ ¬ (sAli q al = 1)) ∧ w_.1 = 2) ∧ r_ = iI w_.1) (fun w_ t => BW ω cL ou o0 k q z M k q z (mixR M to.toNat (fun i => if hi = 0 then sRest q (M a.toNat i) al % q else sPart q (M a.toNat i) al) 16) (iI (sCnt (fun i => if hi = 0 then sRest q (M a.toNat i) al % q else sPart q (M a.toNat i) al) 16)) w_ t) (Aw ω ou)) 3 18 (Aw ω ou) := by
  refine va_MetW (cc := cL_part) (maxL := 7) (ret := (some .int)) (hh := [(0, 14, 17, 19), (0, 14, 21, 13)]) (by decide +kernel) rfl ?_
  intro p e s m args below meth c s₁ B hml hv
  obtain ⟨rfl, hG, hAr, hO⟩ := hv
  have hx := B.exec
  have hb := B.bytes
  have hrt := B.returns
  have hts : ∀ w ∈ wsU, w.before _ s = true := fun w h => atoms_spec (ws := wsL_part) B.pre w (List.mem_cons_of_mem _ h)
  have htab := vx_table (x := yL_part) B (atoms_spec (ws := wsL_part) B.pre _ List.mem_cons_self)
  have hown : s.vm.findClass "NoiseRingLaw" = some m.cls := findClass_of_methodNamed B.named
  have hlocks := B.notSynchronized
  have hS : va_S (Aw ω ou) s.heap s.heap [] := va_S.rf
  have hlt : ou < s.heap.size := (Array.getElem?_eq_some_iff.mp hO).1
  have hl := lv_entry ([.ref (ox ω), .int (iI (to)), .int (iI (a)), .int (iI (al)), .int (iI (hi)), .ref (ou)]) (n := 7) (Nat.le_of_ble_eq_true rfl)
  rw [lg_entry_eq]
  generalize (lg_sl ([.ref (ox ω), .int (iI (to)), .int (iI (a)), .int (iI (al)), .int (iI (hi)), .ref (ou)]) ++ List.replicate (7 - (lg_sl ([.ref (ox ω), .int (iI (to)), .int (iI (a)), .int (iI (al)), .int (iI (hi)), .ref (ou)])).length) Slot.unset).toArray = ls at hl ⊢
  have hl : lv_has ls 7 [(0, .ref (ox ω)), (1, .int (iI (to))), (2, .int (iI (a))), (3, .int (iI (al))), (4, .int (iI (hi))), (5, .ref (ou))] := hl
  refine lv_aload hx hb dL_part_0 (lv_at hl 5 rfl) ?_
  refine ix_iconst hx hb dL_part_2 ?_
  refine lv_aload_n hx hb dL_part_3 rfl (lv_at hl 0 rfl) ?_
  refine lv_iload_n hx hb dL_part_4 rfl (lv_at hl 1 rfl) ?_
  refine lv_iload_n hx hb dL_part_5 rfl (lv_at hl 2 rfl) ?_
  refine lv_iload_n hx hb dL_part_6 rfl (lv_at hl 3 rfl) ?_
  refine lv_iload hx hb dL_part_7 (lv_at hl 4 rfl) ?_
  refine vx_calli (vx_runV (As := [.int (iI (to)), .int (iI (a)), .int (iI (al)), .int (iI (hi))]) (rest := [.int (iI (0)), .ref (ou)]) ⟨hx, hb, hml, hown, hts⟩ (p_part l htr ω k q z M wk to a al hi to1 to2 a1 a2 al1 al2 hi1 hi2 hq1 hq2 hM) (cwV 4 hts (gU (hd := [.methodLink "NoiseRingLaw" 32 yX0_part, .instanceMethod yX0_part, .selects "NoiseRing" yX0_part yX0_part, .initialized "NoiseRing"]) (List.forall_mem_cons.mpr ⟨u243, List.forall_mem_cons.mpr ⟨u244, List.forall_mem_cons.mpr ⟨u245, List.forall_mem_cons.mpr ⟨u29, fun _ h => by cases h⟩⟩⟩⟩) u246) rfl rfl rfl (by decide +kernel) ⟨Nat.le_of_ble_eq_true rfl, Nat.le_of_ble_eq_true rfl⟩) (gx_V hG) rfl rfl hl.1 rfl (lv_room (Nat.le_of_ble_eq_true rfl)) dL_part_9 ⟨Nat.le_of_ble_eq_true rfl, Nat.le_of_ble_eq_true rfl⟩) hS (fun q9 _ h => Or.inl h) (fun q9 h => Or.inl h) (fun q9 _ h => Or.inl h) (fun E ce q9 u t H1 locs1 ht hvm hpx hBX hz hk hS1 hce hcv hcl => ?_) (fun r u t H1 locs1 ht hvm hp hB hz hk hS1 => ?_)
  · have hO1 : OU cL ou o0 H1 := (hk ou hlt hou).trans hO
    obtain ⟨⟨hbad, rfl⟩ | ⟨hbd1, hbd2, rfl⟩, hCX⟩ := hBX
    · refine vx_catch (own := "NoiseRingLaw") (name := nNSE) hown [] ⟨0, 14, 17, 19⟩ [⟨0, 14, 21, 13⟩] htab (fun z9 h9 => by cases h9) (by decide) (by decide) (hts _ u150) (va_Nw.use rfl hG.1.2.1.2.2.2.2.1) hce hcv hcl ?_
      refine lv_astore (lv' := [(6, .ref (q9)), (0, .ref (ox ω)), (1, .int (iI (to))), (2, .int (iI (a))), (3, .int (iI (al))), (4, .int (iI (hi))), (5, .ref (ou))]) hx hb dL_part_17 hl (by decide) rfl (fun ls hl => ?_)
      refine ix_iconst hx hb dL_part_19 ?_
      exact W.iret hx hb hrt (fun t9 ht9 hW => ⟨⟨_, (1, wk), rfl, ⟨Or.inr (Or.inl ⟨hbad, rfl⟩), rfl⟩, ⟨fun g9 => absurd g9 (show ¬ (1 : Int) = 0 by decide), fun _ => ⟨by rw [ht9, ← ht]; exact hCX, by rw [ht9]; exact hO1⟩⟩⟩, hS1.F ht9⟩) hS1.2.2 dL_part_20
    · refine vx_catch (own := "NoiseRingLaw") (name := nIAE) hown [⟨0, 14, 17, 19⟩] ⟨0, 14, 21, 13⟩ [] htab (fun z9 h9 => by rcases List.mem_singleton.mp h9 with rfl; exact Or.inr ⟨by decide, nNSE, hts _ u150, hG.1.2.1.2.2.2.2.2.2⟩) (by decide) (by decide) (hts _ u85) (va_Nw.use rfl hG.1.2.1.2.2.2.2.2.1) hce hcv hcl ?_
      refine lv_astore (lv' := [(6, .ref (q9)), (0, .ref (ox ω)), (1, .int (iI (to))), (2, .int (iI (a))), (3, .int (iI (al))), (4, .int (iI (hi))), (5, .ref (ou))]) hx hb dL_part_21 hl (by decide) rfl (fun ls hl => ?_)
      refine ix_iconst hx hb dL_part_23 ?_
      exact W.iret hx hb hrt (fun t9 ht9 hW => ⟨⟨_, (2, wk), rfl, ⟨Or.inr (Or.inr ⟨⟨hbd1, hbd2⟩, rfl⟩), rfl⟩, ⟨fun g9 => absurd g9 (show ¬ (2 : Int) = 0 by decide), fun _ => ⟨by rw [ht9, ← ht]; exact hCX, by rw [ht9]; exact hO1⟩⟩⟩, hS1.F ht9⟩) hS1.2.2 dL_part_24
  obtain ⟨hok, rfl⟩ := hp
  have hO1 : OU cL ou o0 H1 := (hk ou hlt hou).trans hO
  have hlt1 : ou < H1.size := (Array.getElem?_eq_some_iff.mp hO1).1
  rw [ht] at hB
  refine lv_i2l hx hb dL_part_12 rfl ?_
  refine ou_st hx hb hO1 hAr dL_part_13 (fun H2 hO2 z2 oq2 => ?_)
  have hS2 := hS1.put (k := 0) z2 oq2 (Or.inr rfl)
  have hCX := hB.keptA (fun a9 g9 h9 => oq2 a9 (fun e9 => hou (e9 ▸ h9)))
  refine lv_goto (tgt := 25) hx hb dL_part_14 (by decide) ?_
  refine ix_iconst hx hb dL_part_25 ?_
  exact W.iret hx hb hrt (fun t9 ht9 hW => ⟨⟨_, (0, u), rfl, ⟨Or.inl ⟨hok, rfl⟩, rfl⟩, ⟨fun _ => ⟨by rw [ht9]; exact hCX, by rw [ht9]; exact hO2⟩, fun g9 => absurd rfl g9⟩⟩, hS2.F ht9⟩) hS2.2.2 dL_part_26
set_option maxHeartbeats 4000000 in
set_option maxRecDepth 100000 in
theorem w_hint (l : Launch) (htr : l.stackTraces = false) (ω : WX) (cL : ClassId) (ou : Nat) (o0 : Int64) (hou : ¬ Ax ω ou) (k q z : Int) (M : Nat → Nat → Int) (wk : Nat → Int) (to a b al : Int) (to1 : -2147483648 ≤ to) (to2 : to < 2147483648) (a1 : -2147483648 ≤ a) (a2 : a < 2147483648) (b1 : -2147483648 ≤ b) (b2 : b < 2147483648) (al1 : -2147483648 ≤ al) (al2 : al < 2147483648) (hq1 : 3329 ≤ q) (hq2 : q ≤ 8380417) (hM : ∀ r i, r < 12 → i < 16 → 0 ≤ M r i ∧ M r i < q) : Met l yL_hint wsL_hint ({ frames := 8, cells := 4, slots := 24, locals := 129 }) (va_Pc [.ref (ox ω), .int (iI (to)), .int (iI (a)), .int (iI (b)), .int (iI (al)), .ref (ou)] (fun U => GX ω k q z M wk U U.heap ∧ ArrOfT U cL .long ∧ OU cL ou o0 U.heap)) (va_Qi (fun r_ (w_ : Int × (Nat → Int)) => ((((0 ≤ to ∧ to < 12) ∧ (0 ≤ a ∧ a < 12) ∧ (0 ≤ b ∧ b < 12)) ∧ sAli q al = 1) ∧ w_.1 = 0 ∨ (¬ ((0 ≤ to ∧ to < 12) ∧ (0 ≤ a ∧ a < 12) ∧ (0 ≤ b ∧ b < 12))) ∧ w_.1 = 1 ∨ (((0 ≤ to ∧ to < 12) ∧ (0 ≤ a ∧ a < 12) ∧ (0 ≤ b ∧ b < 12)) ∧ ¬ (sAli q al = 1)) ∧ w_.1 = 2) ∧ r_ = iI w_.1) (fun w_ t => BW ω cL ou o0 k q z M k q z (mixR M to.toNat (fun i => sHint q al (M a.toNat i) (M b.toNat i)) 16) (iI (sCnt (fun i => sHint q al (M a.toNat i) (M b.toNat i)) 16)) w_ t) (Aw ω ou)) 4 24 (Aw ω ou) := by
  refine va_MetW (cc := cL_hint) (maxL := 7) (ret := (some .int)) (hh := [(0, 14, 17, 19), (0, 14, 21, 13)]) (by decide +kernel) rfl ?_
  intro p e s m args below meth c s₁ B hml hv
  obtain ⟨rfl, hG, hAr, hO⟩ := hv
  have hx := B.exec
  have hb := B.bytes
  have hrt := B.returns
  have hts : ∀ w ∈ wsU, w.before _ s = true := fun w h => atoms_spec (ws := wsL_hint) B.pre w (List.mem_cons_of_mem _ h)
  have htab := vx_table (x := yL_hint) B (atoms_spec (ws := wsL_hint) B.pre _ List.mem_cons_self)
  have hown : s.vm.findClass "NoiseRingLaw" = some m.cls := findClass_of_methodNamed B.named
  have hlocks := B.notSynchronized
  have hS : va_S (Aw ω ou) s.heap s.heap [] := va_S.rf
  have hlt : ou < s.heap.size := (Array.getElem?_eq_some_iff.mp hO).1
  have hl := lv_entry ([.ref (ox ω), .int (iI (to)), .int (iI (a)), .int (iI (b)), .int (iI (al)), .ref (ou)]) (n := 7) (Nat.le_of_ble_eq_true rfl)
  rw [lg_entry_eq]
  generalize (lg_sl ([.ref (ox ω), .int (iI (to)), .int (iI (a)), .int (iI (b)), .int (iI (al)), .ref (ou)]) ++ List.replicate (7 - (lg_sl ([.ref (ox ω), .int (iI (to)), .int (iI (a)), .int (iI (b)), .int (iI (al)), .ref (ou)])).length) Slot.unset).toArray = ls at hl ⊢
  have hl : lv_has ls 7 [(0, .ref (ox ω)), (1, .int (iI (to))), (2, .int (iI (a))), (3, .int (iI (b))), (4, .int (iI (al))), (5, .ref (ou))] := hl
  refine lv_aload hx hb dL_hint_0 (lv_at hl 5 rfl) ?_
  refine ix_iconst hx hb dL_hint_2 ?_
  refine lv_aload_n hx hb dL_hint_3 rfl (lv_at hl 0 rfl) ?_
  refine lv_iload_n hx hb dL_hint_4 rfl (lv_at hl 1 rfl) ?_
  refine lv_iload_n hx hb dL_hint_5 rfl (lv_at hl 2 rfl) ?_
  refine lv_iload_n hx hb dL_hint_6 rfl (lv_at hl 3 rfl) ?_
  refine lv_iload hx hb dL_hint_7 (lv_at hl 4 rfl) ?_
  refine vx_calli (vx_runV (As := [.int (iI (to)), .int (iI (a)), .int (iI (b)), .int (iI (al))]) (rest := [.int (iI (0)), .ref (ou)]) ⟨hx, hb, hml, hown, hts⟩ (p_hint l htr ω k q z M wk to a b al to1 to2 a1 a2 b1 b2 al1 al2 hq1 hq2 hM) (cwV 4 hts (gU (hd := [.methodLink "NoiseRingLaw" 36 yX0_hint, .instanceMethod yX0_hint, .selects "NoiseRing" yX0_hint yX0_hint, .initialized "NoiseRing"]) (List.forall_mem_cons.mpr ⟨u262, List.forall_mem_cons.mpr ⟨u263, List.forall_mem_cons.mpr ⟨u264, List.forall_mem_cons.mpr ⟨u29, fun _ h => by cases h⟩⟩⟩⟩) u265) rfl rfl rfl (by decide +kernel) ⟨Nat.le_of_ble_eq_true rfl, Nat.le_of_ble_eq_true rfl⟩) (gx_V hG) rfl rfl hl.1 rfl (lv_room (Nat.le_of_ble_eq_true rfl)) dL_hint_9 ⟨Nat.le_of_ble_eq_true rfl, Nat.le_of_ble_eq_true rfl⟩) hS (fun q9 _ h => Or.inl h) (fun q9 h => Or.inl h) (fun q9 _ h => Or.inl h) (fun E ce q9 u t H1 locs1 ht hvm hpx hBX hz hk hS1 hce hcv hcl => ?_) (fun r u t H1 locs1 ht hvm hp hB hz hk hS1 => ?_)
  · have hO1 : OU cL ou o0 H1 := (hk ou hlt hou).trans hO
    obtain ⟨⟨hbad, rfl⟩ | ⟨hbd1, hbd2, rfl⟩, hCX⟩ := hBX
    · refine vx_catch (own := "NoiseRingLaw") (name := nNSE) hown [] ⟨0, 14, 17, 19⟩ [⟨0, 14, 21, 13⟩] htab (fun z9 h9 => by cases h9) (by decide) (by decide) (hts _ u150) (va_Nw.use rfl hG.1.2.1.2.2.2.2.1) hce hcv hcl ?_
      refine lv_astore (lv' := [(6, .ref (q9)), (0, .ref (ox ω)), (1, .int (iI (to))), (2, .int (iI (a))), (3, .int (iI (b))), (4, .int (iI (al))), (5, .ref (ou))]) hx hb dL_hint_17 hl (by decide) rfl (fun ls hl => ?_)
      refine ix_iconst hx hb dL_hint_19 ?_
      exact W.iret hx hb hrt (fun t9 ht9 hW => ⟨⟨_, (1, wk), rfl, ⟨Or.inr (Or.inl ⟨hbad, rfl⟩), rfl⟩, ⟨fun g9 => absurd g9 (show ¬ (1 : Int) = 0 by decide), fun _ => ⟨by rw [ht9, ← ht]; exact hCX, by rw [ht9]; exact hO1⟩⟩⟩, hS1.F ht9⟩) hS1.2.2 dL_hint_20
    · refine vx_catch (own := "NoiseRingLaw") (name := nIAE) hown [⟨0, 14, 17, 19⟩] ⟨0, 14, 21, 13⟩ [] htab (fun z9 h9 => by rcases List.mem_singleton.mp h9 with rfl; exact Or.inr ⟨by decide, nNSE, hts _ u150, hG.1.2.1.2.2.2.2.2.2⟩) (by decide) (by decide) (hts _ u85) (va_Nw.use rfl hG.1.2.1.2.2.2.2.2.1) hce hcv hcl ?_
      refine lv_astore (lv' := [(6, .ref (q9)), (0, .ref (ox ω)), (1, .int (iI (to))), (2, .int (iI (a))), (3, .int (iI (b))), (4, .int (iI (al))), (5, .ref (ou))]) hx hb dL_hint_21 hl (by decide) rfl (fun ls hl => ?_)
      refine ix_iconst hx hb dL_hint_23 ?_
      exact W.iret hx hb hrt (fun t9 ht9 hW => ⟨⟨_, (2, wk), rfl, ⟨Or.inr (Or.inr ⟨⟨hbd1, hbd2⟩, rfl⟩), rfl⟩, ⟨fun g9 => absurd g9 (show ¬ (2 : Int) = 0 by decide), fun _ => ⟨by rw [ht9, ← ht]; exact hCX, by rw [ht9]; exact hO1⟩⟩⟩, hS1.F ht9⟩) hS1.2.2 dL_hint_24
  obtain ⟨hok, rfl⟩ := hp
  have hO1 : OU cL ou o0 H1 := (hk ou hlt hou).trans hO
  have hlt1 : ou < H1.size := (Array.getElem?_eq_some_iff.mp hO1).1
  rw [ht] at hB
  refine lv_i2l hx hb dL_hint_12 rfl ?_
  refine ou_st hx hb hO1 hAr dL_hint_13 (fun H2 hO2 z2 oq2 => ?_)
  have hS2 := hS1.put (k := 0) z2 oq2 (Or.inr rfl)
  have hCX := hB.keptA (fun a9 g9 h9 => oq2 a9 (fun e9 => hou (e9 ▸ h9)))
  refine lv_goto (tgt := 25) hx hb dL_hint_14 (by decide) ?_
  refine ix_iconst hx hb dL_hint_25 ?_
  exact W.iret hx hb hrt (fun t9 ht9 hW => ⟨⟨_, (0, u), rfl, ⟨Or.inl ⟨hok, rfl⟩, rfl⟩, ⟨fun _ => ⟨by rw [ht9]; exact hCX, by rw [ht9]; exact hO2⟩, fun g9 => absurd rfl g9⟩⟩, hS2.F ht9⟩) hS2.2.2 dL_hint_26
set_option maxHeartbeats 4000000 in
set_option maxRecDepth 100000 in
theorem w_use (l : Launch) (htr : l.stackTraces = false) (ω : WX) (cL : ClassId) (ou : Nat) (o0 : Int64) (hou : ¬ Ax ω ou) (k q z : Int) (M : Nat → Nat → Int) (wk : Nat → Int) (to a b al : Int) (to1 : -2147483648 ≤ to) (to2 : to < 2147483648) (a1 : -2147483648 ≤ a) (a2 : a < 2147483648) (b1 : -2147483648 ≤ b) (b2 : b < 2147483648) (al1 : -2147483648 ≤ al) (al2 : al < 2147483648) (hq1 : 3329 ≤ q) (hq2 : q ≤ 8380417) (hM : ∀ r i, r < 12 → i < 16 → 0 ≤ M r i ∧ M r i < q) : Met l yL_use wsL_use ({ frames := 8, cells := 4, slots := 24, locals := 131 }) (va_Pc [.ref (ox ω), .int (iI (to)), .int (iI (a)), .int (iI (b)), .int (iI (al)), .ref (ou)] (fun U => GX ω k q z M wk U U.heap ∧ ArrOfT U cL .long ∧ OU cL ou o0 U.heap)) (va_Qi (fun r_ (w_ : Int × (Nat → Int)) => ((((0 ≤ to ∧ to < 12) ∧ (0 ≤ a ∧ a < 12) ∧ (0 ≤ b ∧ b < 12)) ∧ sAli q al = 1) ∧ w_.1 = 0 ∨ (¬ ((0 ≤ to ∧ to < 12) ∧ (0 ≤ a ∧ a < 12) ∧ (0 ≤ b ∧ b < 12))) ∧ w_.1 = 1 ∨ (((0 ≤ to ∧ to < 12) ∧ (0 ≤ a ∧ a < 12) ∧ (0 ≤ b ∧ b < 12)) ∧ ¬ (sAli q al = 1)) ∧ w_.1 = 2) ∧ r_ = iI w_.1) (fun w_ t => BW ω cL ou o0 k q z M k q z (mixR M to.toNat (fun i => sUse q al (M a.toNat i) (M b.toNat i)) 16) (iI (sChg q al (M a.toNat) (M b.toNat) 16)) w_ t) (Aw ω ou)) 4 24 (Aw ω ou) := by
  refine va_MetW (cc := cL_use) (maxL := 7) (ret := (some .int)) (hh := [(0, 14, 17, 19), (0, 14, 21, 13)]) (by decide +kernel) rfl ?_
  intro p e s m args below meth c s₁ B hml hv
  obtain ⟨rfl, hG, hAr, hO⟩ := hv
  have hx := B.exec
  have hb := B.bytes
  have hrt := B.returns
  have hts : ∀ w ∈ wsU, w.before _ s = true := fun w h => atoms_spec (ws := wsL_use) B.pre w (List.mem_cons_of_mem _ h)
  have htab := vx_table (x := yL_use) B (atoms_spec (ws := wsL_use) B.pre _ List.mem_cons_self)
  have hown : s.vm.findClass "NoiseRingLaw" = some m.cls := findClass_of_methodNamed B.named
  have hlocks := B.notSynchronized
  have hS : va_S (Aw ω ou) s.heap s.heap [] := va_S.rf
  have hlt : ou < s.heap.size := (Array.getElem?_eq_some_iff.mp hO).1
  have hl := lv_entry ([.ref (ox ω), .int (iI (to)), .int (iI (a)), .int (iI (b)), .int (iI (al)), .ref (ou)]) (n := 7) (Nat.le_of_ble_eq_true rfl)
  rw [lg_entry_eq]
  generalize (lg_sl ([.ref (ox ω), .int (iI (to)), .int (iI (a)), .int (iI (b)), .int (iI (al)), .ref (ou)]) ++ List.replicate (7 - (lg_sl ([.ref (ox ω), .int (iI (to)), .int (iI (a)), .int (iI (b)), .int (iI (al)), .ref (ou)])).length) Slot.unset).toArray = ls at hl ⊢
  have hl : lv_has ls 7 [(0, .ref (ox ω)), (1, .int (iI (to))), (2, .int (iI (a))), (3, .int (iI (b))), (4, .int (iI (al))), (5, .ref (ou))] := hl
  refine lv_aload hx hb dL_use_0 (lv_at hl 5 rfl) ?_
  refine ix_iconst hx hb dL_use_2 ?_
  refine lv_aload_n hx hb dL_use_3 rfl (lv_at hl 0 rfl) ?_
  refine lv_iload_n hx hb dL_use_4 rfl (lv_at hl 1 rfl) ?_
  refine lv_iload_n hx hb dL_use_5 rfl (lv_at hl 2 rfl) ?_
  refine lv_iload_n hx hb dL_use_6 rfl (lv_at hl 3 rfl) ?_
  refine lv_iload hx hb dL_use_7 (lv_at hl 4 rfl) ?_
  refine vx_calli (vx_runV (As := [.int (iI (to)), .int (iI (a)), .int (iI (b)), .int (iI (al))]) (rest := [.int (iI (0)), .ref (ou)]) ⟨hx, hb, hml, hown, hts⟩ (p_use l htr ω k q z M wk to a b al to1 to2 a1 a2 b1 b2 al1 al2 hq1 hq2 hM) (cwV 4 hts (gU (hd := [.methodLink "NoiseRingLaw" 39 yX0_use, .instanceMethod yX0_use, .selects "NoiseRing" yX0_use yX0_use, .initialized "NoiseRing"]) (List.forall_mem_cons.mpr ⟨u269, List.forall_mem_cons.mpr ⟨u270, List.forall_mem_cons.mpr ⟨u271, List.forall_mem_cons.mpr ⟨u29, fun _ h => by cases h⟩⟩⟩⟩) u272) rfl rfl rfl (by decide +kernel) ⟨Nat.le_of_ble_eq_true rfl, Nat.le_of_ble_eq_true rfl⟩) (gx_V hG) rfl rfl hl.1 rfl (lv_room (Nat.le_of_ble_eq_true rfl)) dL_use_9 ⟨Nat.le_of_ble_eq_true rfl, Nat.le_of_ble_eq_true rfl⟩) hS (fun q9 _ h => Or.inl h) (fun q9 h => Or.inl h) (fun q9 _ h => Or.inl h) (fun E ce q9 u t H1 locs1 ht hvm hpx hBX hz hk hS1 hce hcv hcl => ?_) (fun r u t H1 locs1 ht hvm hp hB hz hk hS1 => ?_)
  · have hO1 : OU cL ou o0 H1 := (hk ou hlt hou).trans hO
    obtain ⟨⟨hbad, rfl⟩ | ⟨hbd1, hbd2, rfl⟩, hCX⟩ := hBX
    · refine vx_catch (own := "NoiseRingLaw") (name := nNSE) hown [] ⟨0, 14, 17, 19⟩ [⟨0, 14, 21, 13⟩] htab (fun z9 h9 => by cases h9) (by decide) (by decide) (hts _ u150) (va_Nw.use rfl hG.1.2.1.2.2.2.2.1) hce hcv hcl ?_
      refine lv_astore (lv' := [(6, .ref (q9)), (0, .ref (ox ω)), (1, .int (iI (to))), (2, .int (iI (a))), (3, .int (iI (b))), (4, .int (iI (al))), (5, .ref (ou))]) hx hb dL_use_17 hl (by decide) rfl (fun ls hl => ?_)
      refine ix_iconst hx hb dL_use_19 ?_
      exact W.iret hx hb hrt (fun t9 ht9 hW => ⟨⟨_, (1, wk), rfl, ⟨Or.inr (Or.inl ⟨hbad, rfl⟩), rfl⟩, ⟨fun g9 => absurd g9 (show ¬ (1 : Int) = 0 by decide), fun _ => ⟨by rw [ht9, ← ht]; exact hCX, by rw [ht9]; exact hO1⟩⟩⟩, hS1.F ht9⟩) hS1.2.2 dL_use_20
    · refine vx_catch (own := "NoiseRingLaw") (name := nIAE) hown [⟨0, 14, 17, 19⟩] ⟨0, 14, 21, 13⟩ [] htab (fun z9 h9 => by rcases List.mem_singleton.mp h9 with rfl; exact Or.inr ⟨by decide, nNSE, hts _ u150, hG.1.2.1.2.2.2.2.2.2⟩) (by decide) (by decide) (hts _ u85) (va_Nw.use rfl hG.1.2.1.2.2.2.2.2.1) hce hcv hcl ?_
      refine lv_astore (lv' := [(6, .ref (q9)), (0, .ref (ox ω)), (1, .int (iI (to))), (2, .int (iI (a))), (3, .int (iI (b))), (4, .int (iI (al))), (5, .ref (ou))]) hx hb dL_use_21 hl (by decide) rfl (fun ls hl => ?_)
      refine ix_iconst hx hb dL_use_23 ?_
      exact W.iret hx hb hrt (fun t9 ht9 hW => ⟨⟨_, (2, wk), rfl, ⟨Or.inr (Or.inr ⟨⟨hbd1, hbd2⟩, rfl⟩), rfl⟩, ⟨fun g9 => absurd g9 (show ¬ (2 : Int) = 0 by decide), fun _ => ⟨by rw [ht9, ← ht]; exact hCX, by rw [ht9]; exact hO1⟩⟩⟩, hS1.F ht9⟩) hS1.2.2 dL_use_24
  obtain ⟨hok, rfl⟩ := hp
  have hO1 : OU cL ou o0 H1 := (hk ou hlt hou).trans hO
  have hlt1 : ou < H1.size := (Array.getElem?_eq_some_iff.mp hO1).1
  rw [ht] at hB
  refine lv_i2l hx hb dL_use_12 rfl ?_
  refine ou_st hx hb hO1 hAr dL_use_13 (fun H2 hO2 z2 oq2 => ?_)
  have hS2 := hS1.put (k := 0) z2 oq2 (Or.inr rfl)
  have hCX := hB.keptA (fun a9 g9 h9 => oq2 a9 (fun e9 => hou (e9 ▸ h9)))
  refine lv_goto (tgt := 25) hx hb dL_use_14 (by decide) ?_
  refine ix_iconst hx hb dL_use_25 ?_
  exact W.iret hx hb hrt (fun t9 ht9 hW => ⟨⟨_, (0, u), rfl, ⟨Or.inl ⟨hok, rfl⟩, rfl⟩, ⟨fun _ => ⟨by rw [ht9]; exact hCX, by rw [ht9]; exact hO2⟩, fun g9 => absurd rfl g9⟩⟩, hS2.F ht9⟩) hS2.2.2 dL_use_26
set_option maxHeartbeats 4000000 in
set_option maxRecDepth 100000 in
theorem w_size (l : Launch) (htr : l.stackTraces = false) (ω : WX) (cL : ClassId) (ou : Nat) (o0 : Int64) (hou : ¬ Ax ω ou) (k q z : Int) (M : Nat → Nat → Int) (wk : Nat → Int) (r : Int) (r1 : -2147483648 ≤ r) (r2 : r < 2147483648) (hq1 : 3329 ≤ q) (hq2 : q ≤ 8380417) (hM : ∀ r i, r < 12 → i < 16 → 0 ≤ M r i ∧ M r i < q) : Met l yL_size wsL_size ({ frames := 8, cells := 1, slots := 6, locals := 123 }) (va_Pc [.ref (ox ω), .int (iI (r)), .ref (ou)] (fun U => GX ω k q z M wk U U.heap ∧ ArrOfT U cL .long ∧ OU cL ou o0 U.heap)) (va_Qi (fun r_ (w_ : Int × (Nat → Int)) => ((0 ≤ r ∧ r < 12) ∧ w_.1 = 0 ∨ (¬ (0 ≤ r ∧ r < 12)) ∧ w_.1 = 1) ∧ r_ = iI w_.1) (fun w_ t => BW ω cL ou o0 k q z M k q z M (iI (sMax q (M r.toNat) 16)) w_ t) (Aw ω ou)) 1 6 (Aw ω ou) := by
  refine va_MetW (cc := cL_size) (maxL := 4) (ret := (some .int)) (hh := [(0, 9, 12, 19)]) (by decide +kernel) rfl ?_
  intro p e s m args below meth c s₁ B hml hv
  obtain ⟨rfl, hG, hAr, hO⟩ := hv
  have hx := B.exec
  have hb := B.bytes
  have hrt := B.returns
  have hts : ∀ w ∈ wsU, w.before _ s = true := fun w h => atoms_spec (ws := wsL_size) B.pre w (List.mem_cons_of_mem _ h)
  have htab := vx_table (x := yL_size) B (atoms_spec (ws := wsL_size) B.pre _ List.mem_cons_self)
  have hown : s.vm.findClass "NoiseRingLaw" = some m.cls := findClass_of_methodNamed B.named
  have hlocks := B.notSynchronized
  have hS : va_S (Aw ω ou) s.heap s.heap [] := va_S.rf
  have hlt : ou < s.heap.size := (Array.getElem?_eq_some_iff.mp hO).1
  have hl := lv_entry ([.ref (ox ω), .int (iI (r)), .ref (ou)]) (n := 4) (Nat.le_of_ble_eq_true rfl)
  rw [lg_entry_eq]
  generalize (lg_sl ([.ref (ox ω), .int (iI (r)), .ref (ou)]) ++ List.replicate (4 - (lg_sl ([.ref (ox ω), .int (iI (r)), .ref (ou)])).length) Slot.unset).toArray = ls at hl ⊢
  have hl : lv_has ls 4 [(0, .ref (ox ω)), (1, .int (iI (r))), (2, .ref (ou))] := hl
  refine lv_aload_n hx hb dL_size_0 rfl (lv_at hl 2 rfl) ?_
  refine ix_iconst hx hb dL_size_1 ?_
  refine lv_aload_n hx hb dL_size_2 rfl (lv_at hl 0 rfl) ?_
  refine lv_iload_n hx hb dL_size_3 rfl (lv_at hl 1 rfl) ?_
  refine vx_calli (vx_runV (As := [.int (iI (r))]) (rest := [.int (iI (0)), .ref (ou)]) ⟨hx, hb, hml, hown, hts⟩ (p_size l htr ω k q z M wk r r1 r2 hq1 hq2 hM) (cwV 1 hts (gU (hd := [.methodLink "NoiseRingLaw" 42 yX0_size, .instanceMethod yX0_size, .selects "NoiseRing" yX0_size yX0_size, .initialized "NoiseRing"]) (List.forall_mem_cons.mpr ⟨u279, List.forall_mem_cons.mpr ⟨u280, List.forall_mem_cons.mpr ⟨u281, List.forall_mem_cons.mpr ⟨u29, fun _ h => by cases h⟩⟩⟩⟩) u282) rfl rfl rfl (by decide +kernel) ⟨Nat.le_of_ble_eq_true rfl, Nat.le_of_ble_eq_true rfl⟩) (gx_V hG) rfl rfl hl.1 rfl (lv_room (Nat.le_of_ble_eq_true rfl)) dL_size_4 ⟨Nat.le_of_ble_eq_true rfl, Nat.le_of_ble_eq_true rfl⟩) hS (fun q9 _ h => Or.inl h) (fun q9 h => Or.inl h) (fun q9 _ h => Or.inl h) (fun E ce q9 u t H1 locs1 ht hvm hpx hBX hz hk hS1 hce hcv hcl => ?_) (fun r u t H1 locs1 ht hvm hp hB hz hk hS1 => ?_)
  · have hO1 : OU cL ou o0 H1 := (hk ou hlt hou).trans hO
    obtain ⟨⟨hbad, rfl⟩, hCX⟩ := hBX
    refine vx_catch (own := "NoiseRingLaw") (name := nNSE) hown [] ⟨0, 9, 12, 19⟩ [] htab (fun z9 h9 => by cases h9) (by decide) (by decide) (hts _ u150) (va_Nw.use rfl hG.1.2.1.2.2.2.2.1) hce hcv hcl ?_
    refine lv_astore_n (lv' := [(3, .ref (q9)), (0, .ref (ox ω)), (1, .int (iI (r))), (2, .ref (ou))]) hx hb dL_size_12 rfl hl (by decide) rfl (fun ls hl => ?_)
    refine ix_iconst hx hb dL_size_13 ?_
    exact W.iret hx hb hrt (fun t9 ht9 hW => ⟨⟨_, (1, wk), rfl, ⟨Or.inr ⟨hbad, rfl⟩, rfl⟩, ⟨fun g9 => absurd g9 (show ¬ (1 : Int) = 0 by decide), fun _ => ⟨by rw [ht9, ← ht]; exact hCX, by rw [ht9]; exact hO1⟩⟩⟩, hS1.F ht9⟩) hS1.2.2 dL_size_14
  obtain ⟨hok, rfl⟩ := hp
  have hO1 : OU cL ou o0 H1 := (hk ou hlt hou).trans hO
  have hlt1 : ou < H1.size := (Array.getElem?_eq_some_iff.mp hO1).1
  rw [ht] at hB
  refine lv_i2l hx hb dL_size_7 rfl ?_
  refine ou_st hx hb hO1 hAr dL_size_8 (fun H2 hO2 z2 oq2 => ?_)
  have hS2 := hS1.put (k := 0) z2 oq2 (Or.inr rfl)
  have hCX := hB.keptA (fun a9 g9 h9 => oq2 a9 (fun e9 => hou (e9 ▸ h9)))
  refine lv_goto (tgt := 15) hx hb dL_size_9 (by decide) ?_
  refine ix_iconst hx hb dL_size_15 ?_
  exact W.iret hx hb hrt (fun t9 ht9 hW => ⟨⟨_, (0, u), rfl, ⟨Or.inl ⟨hok, rfl⟩, rfl⟩, ⟨fun _ => ⟨by rw [ht9]; exact hCX, by rw [ht9]; exact hO2⟩, fun g9 => absurd rfl g9⟩⟩, hS2.F ht9⟩) hS2.2.2 dL_size_16
set_option maxHeartbeats 4000000 in
set_option maxRecDepth 100000 in
theorem w_far (l : Launch) (htr : l.stackTraces = false) (ω : WX) (cL : ClassId) (ou : Nat) (o0 : Int64) (hou : ¬ Ax ω ou) (k q z : Int) (M : Nat → Nat → Int) (wk : Nat → Int) (a b : Int) (a1 : -2147483648 ≤ a) (a2 : a < 2147483648) (b1 : -2147483648 ≤ b) (b2 : b < 2147483648) (hq1 : 3329 ≤ q) (hq2 : q ≤ 8380417) (hM : ∀ r i, r < 12 → i < 16 → 0 ≤ M r i ∧ M r i < q) : Met l yL_far wsL_far ({ frames := 8, cells := 2, slots := 12, locals := 126 }) (va_Pc [.ref (ox ω), .int (iI (a)), .int (iI (b)), .ref (ou)] (fun U => GX ω k q z M wk U U.heap ∧ ArrOfT U cL .long ∧ OU cL ou o0 U.heap)) (va_Qi (fun r_ (w_ : Int × (Nat → Int)) => (((0 ≤ a ∧ a < 12) ∧ (0 ≤ b ∧ b < 12)) ∧ w_.1 = 0 ∨ (¬ ((0 ≤ a ∧ a < 12) ∧ (0 ≤ b ∧ b < 12))) ∧ w_.1 = 1) ∧ r_ = iI w_.1) (fun w_ t => BW ω cL ou o0 k q z M k q z M (iI (sFar q (M a.toNat) (M b.toNat) 16)) w_ t) (Aw ω ou)) 2 12 (Aw ω ou) := by
  refine va_MetW (cc := cL_far) (maxL := 5) (ret := (some .int)) (hh := [(0, 10, 13, 19)]) (by decide +kernel) rfl ?_
  intro p e s m args below meth c s₁ B hml hv
  obtain ⟨rfl, hG, hAr, hO⟩ := hv
  have hx := B.exec
  have hb := B.bytes
  have hrt := B.returns
  have hts : ∀ w ∈ wsU, w.before _ s = true := fun w h => atoms_spec (ws := wsL_far) B.pre w (List.mem_cons_of_mem _ h)
  have htab := vx_table (x := yL_far) B (atoms_spec (ws := wsL_far) B.pre _ List.mem_cons_self)
  have hown : s.vm.findClass "NoiseRingLaw" = some m.cls := findClass_of_methodNamed B.named
  have hlocks := B.notSynchronized
  have hS : va_S (Aw ω ou) s.heap s.heap [] := va_S.rf
  have hlt : ou < s.heap.size := (Array.getElem?_eq_some_iff.mp hO).1
  have hl := lv_entry ([.ref (ox ω), .int (iI (a)), .int (iI (b)), .ref (ou)]) (n := 5) (Nat.le_of_ble_eq_true rfl)
  rw [lg_entry_eq]
  generalize (lg_sl ([.ref (ox ω), .int (iI (a)), .int (iI (b)), .ref (ou)]) ++ List.replicate (5 - (lg_sl ([.ref (ox ω), .int (iI (a)), .int (iI (b)), .ref (ou)])).length) Slot.unset).toArray = ls at hl ⊢
  have hl : lv_has ls 5 [(0, .ref (ox ω)), (1, .int (iI (a))), (2, .int (iI (b))), (3, .ref (ou))] := hl
  refine lv_aload_n hx hb dL_far_0 rfl (lv_at hl 3 rfl) ?_
  refine ix_iconst hx hb dL_far_1 ?_
  refine lv_aload_n hx hb dL_far_2 rfl (lv_at hl 0 rfl) ?_
  refine lv_iload_n hx hb dL_far_3 rfl (lv_at hl 1 rfl) ?_
  refine lv_iload_n hx hb dL_far_4 rfl (lv_at hl 2 rfl) ?_
  refine vx_calli (vx_runV (As := [.int (iI (a)), .int (iI (b))]) (rest := [.int (iI (0)), .ref (ou)]) ⟨hx, hb, hml, hown, hts⟩ (p_far l htr ω k q z M wk a b a1 a2 b1 b2 hq1 hq2 hM) (cwV 2 hts (gU (hd := [.methodLink "NoiseRingLaw" 45 yX0_far, .instanceMethod yX0_far, .selects "NoiseRing" yX0_far yX0_far, .initialized "NoiseRing"]) (List.forall_mem_cons.mpr ⟨u286, List.forall_mem_cons.mpr ⟨u287, List.forall_mem_cons.mpr ⟨u288, List.forall_mem_cons.mpr ⟨u29, fun _ h => by cases h⟩⟩⟩⟩) u289) rfl rfl rfl (by decide +kernel) ⟨Nat.le_of_ble_eq_true rfl, Nat.le_of_ble_eq_true rfl⟩) (gx_V hG) rfl rfl hl.1 rfl (lv_room (Nat.le_of_ble_eq_true rfl)) dL_far_5 ⟨Nat.le_of_ble_eq_true rfl, Nat.le_of_ble_eq_true rfl⟩) hS (fun q9 _ h => Or.inl h) (fun q9 h => Or.inl h) (fun q9 _ h => Or.inl h) (fun E ce q9 u t H1 locs1 ht hvm hpx hBX hz hk hS1 hce hcv hcl => ?_) (fun r u t H1 locs1 ht hvm hp hB hz hk hS1 => ?_)
  · have hO1 : OU cL ou o0 H1 := (hk ou hlt hou).trans hO
    obtain ⟨⟨hbad, rfl⟩, hCX⟩ := hBX
    refine vx_catch (own := "NoiseRingLaw") (name := nNSE) hown [] ⟨0, 10, 13, 19⟩ [] htab (fun z9 h9 => by cases h9) (by decide) (by decide) (hts _ u150) (va_Nw.use rfl hG.1.2.1.2.2.2.2.1) hce hcv hcl ?_
    refine lv_astore (lv' := [(4, .ref (q9)), (0, .ref (ox ω)), (1, .int (iI (a))), (2, .int (iI (b))), (3, .ref (ou))]) hx hb dL_far_13 hl (by decide) rfl (fun ls hl => ?_)
    refine ix_iconst hx hb dL_far_15 ?_
    exact W.iret hx hb hrt (fun t9 ht9 hW => ⟨⟨_, (1, wk), rfl, ⟨Or.inr ⟨hbad, rfl⟩, rfl⟩, ⟨fun g9 => absurd g9 (show ¬ (1 : Int) = 0 by decide), fun _ => ⟨by rw [ht9, ← ht]; exact hCX, by rw [ht9]; exact hO1⟩⟩⟩, hS1.F ht9⟩) hS1.2.2 dL_far_16
  obtain ⟨hok, rfl⟩ := hp
  have hO1 : OU cL ou o0 H1 := (hk ou hlt hou).trans hO
  have hlt1 : ou < H1.size := (Array.getElem?_eq_some_iff.mp hO1).1
  rw [ht] at hB
  refine lv_i2l hx hb dL_far_8 rfl ?_
  refine ou_st hx hb hO1 hAr dL_far_9 (fun H2 hO2 z2 oq2 => ?_)
  have hS2 := hS1.put (k := 0) z2 oq2 (Or.inr rfl)
  have hCX := hB.keptA (fun a9 g9 h9 => oq2 a9 (fun e9 => hou (e9 ▸ h9)))
  refine lv_goto (tgt := 17) hx hb dL_far_10 (by decide) ?_
  refine ix_iconst hx hb dL_far_17 ?_
  exact W.iret hx hb hrt (fun t9 ht9 hW => ⟨⟨_, (0, u), rfl, ⟨Or.inl ⟨hok, rfl⟩, rfl⟩, ⟨fun _ => ⟨by rw [ht9]; exact hCX, by rw [ht9]; exact hO2⟩, fun g9 => absurd rfl g9⟩⟩, hS2.F ht9⟩) hS2.2.2 dL_far_18
set_option maxHeartbeats 4000000 in
set_option maxRecDepth 100000 in
theorem w_noise (l : Launch) (htr : l.stackTraces = false) (ω : WX) (cL : ClassId) (ou : Nat) (o0 : Int64) (hou : ¬ Ax ω ou) (k q z : Int) (M : Nat → Nat → Int) (wk : Nat → Int) (to eta : Int) (low high : Int64) (to1 : -2147483648 ≤ to) (to2 : to < 2147483648) (eta1 : -2147483648 ≤ eta) (eta2 : eta < 2147483648) (hq1 : 3329 ≤ q) (hq2 : q ≤ 8380417) (hM : ∀ r i, r < 12 → i < 16 → 0 ≤ M r i ∧ M r i < q) : Met l yL_noise wsL_noise ({ frames := 8, cells := 2, slots := 12, locals := 132 }) (va_Pc [.ref (ox ω), .int (iI (to)), .int (iI (eta)), .long (low), .long (high), .ref (ou)] (fun U => GX ω k q z M wk U U.heap ∧ ArrOfT U cL .long ∧ OU cL ou o0 U.heap)) (va_Qi (fun r_ (w_ : Int × (Nat → Int)) => ((((0 ≤ to ∧ to < 12)) ∧ 1 ≤ eta ∧ eta ≤ 3) ∧ w_.1 = 0 ∨ (¬ ((0 ≤ to ∧ to < 12))) ∧ w_.1 = 1 ∨ (((0 ≤ to ∧ to < 12)) ∧ ¬ (1 ≤ eta ∧ eta ≤ 3)) ∧ w_.1 = 2) ∧ r_ = iI w_.1) (fun w_ t => BW ω cL ou o0 k q z M k q z (mixR M to.toNat (fun i => sNoise q low high eta.toNat i) 16) (iI (sCnt (fun i => sNoise q low high eta.toNat i) 16)) w_ t) (Aw ω ou)) 2 12 (Aw ω ou) := by
  refine va_MetW (cc := cL_noise) (maxL := 9) (ret := (some .int)) (hh := [(0, 14, 17, 19), (0, 14, 21, 13)]) (by decide +kernel) rfl ?_
  intro p e s m args below meth c s₁ B hml hv
  obtain ⟨rfl, hG, hAr, hO⟩ := hv
  have hx := B.exec
  have hb := B.bytes
  have hrt := B.returns
  have hts : ∀ w ∈ wsU, w.before _ s = true := fun w h => atoms_spec (ws := wsL_noise) B.pre w (List.mem_cons_of_mem _ h)
  have htab := vx_table (x := yL_noise) B (atoms_spec (ws := wsL_noise) B.pre _ List.mem_cons_self)
  have hown : s.vm.findClass "NoiseRingLaw" = some m.cls := findClass_of_methodNamed B.named
  have hlocks := B.notSynchronized
  have hS : va_S (Aw ω ou) s.heap s.heap [] := va_S.rf
  have hlt : ou < s.heap.size := (Array.getElem?_eq_some_iff.mp hO).1
  have hl := lv_entry ([.ref (ox ω), .int (iI (to)), .int (iI (eta)), .long (low), .long (high), .ref (ou)]) (n := 9) (Nat.le_of_ble_eq_true rfl)
  rw [lg_entry_eq]
  generalize (lg_sl ([.ref (ox ω), .int (iI (to)), .int (iI (eta)), .long (low), .long (high), .ref (ou)]) ++ List.replicate (9 - (lg_sl ([.ref (ox ω), .int (iI (to)), .int (iI (eta)), .long (low), .long (high), .ref (ou)])).length) Slot.unset).toArray = ls at hl ⊢
  have hl : lv_has ls 9 [(0, .ref (ox ω)), (1, .int (iI (to))), (2, .int (iI (eta))), (3, .long (low)), (5, .long (high)), (7, .ref (ou))] := hl
  refine lv_aload hx hb dL_noise_0 (lv_at hl 5 rfl) ?_
  refine ix_iconst hx hb dL_noise_2 ?_
  refine lv_aload_n hx hb dL_noise_3 rfl (lv_at hl 0 rfl) ?_
  refine lv_iload_n hx hb dL_noise_4 rfl (lv_at hl 1 rfl) ?_
  refine lv_iload_n hx hb dL_noise_5 rfl (lv_at hl 2 rfl) ?_
  refine lv_lload_n hx hb dL_noise_6 rfl (lv_at hl 3 rfl) ?_
  refine lv_lload hx hb dL_noise_7 (lv_at hl 4 rfl) ?_
  refine vx_calli (vx_runV (As := [.int (iI (to)), .int (iI (eta)), .long (low), .long (high)]) (rest := [.int (iI (0)), .ref (ou)]) ⟨hx, hb, hml, hown, hts⟩ (p_noise l htr ω k q z M wk to eta low high to1 to2 eta1 eta2 hq1 hq2 hM) (cwV 4 hts (gU (hd := [.methodLink "NoiseRingLaw" 48 yX0_noise, .instanceMethod yX0_noise, .selects "NoiseRing" yX0_noise yX0_noise, .initialized "NoiseRing"]) (List.forall_mem_cons.mpr ⟨u293, List.forall_mem_cons.mpr ⟨u294, List.forall_mem_cons.mpr ⟨u295, List.forall_mem_cons.mpr ⟨u29, fun _ h => by cases h⟩⟩⟩⟩) u296) rfl rfl rfl (by decide +kernel) ⟨Nat.le_of_ble_eq_true rfl, Nat.le_of_ble_eq_true rfl⟩) (gx_V hG) rfl rfl hl.1 rfl (lv_room (Nat.le_of_ble_eq_true rfl)) dL_noise_9 ⟨Nat.le_of_ble_eq_true rfl, Nat.le_of_ble_eq_true rfl⟩) hS (fun q9 _ h => Or.inl h) (fun q9 h => Or.inl h) (fun q9 _ h => Or.inl h) (fun E ce q9 u t H1 locs1 ht hvm hpx hBX hz hk hS1 hce hcv hcl => ?_) (fun r u t H1 locs1 ht hvm hp hB hz hk hS1 => ?_)
  · have hO1 : OU cL ou o0 H1 := (hk ou hlt hou).trans hO
    obtain ⟨⟨hbad, rfl⟩ | ⟨hbd1, hbd2, rfl⟩, hCX⟩ := hBX
    · refine vx_catch (own := "NoiseRingLaw") (name := nNSE) hown [] ⟨0, 14, 17, 19⟩ [⟨0, 14, 21, 13⟩] htab (fun z9 h9 => by cases h9) (by decide) (by decide) (hts _ u150) (va_Nw.use rfl hG.1.2.1.2.2.2.2.1) hce hcv hcl ?_
      refine lv_astore (lv' := [(8, .ref (q9)), (0, .ref (ox ω)), (1, .int (iI (to))), (2, .int (iI (eta))), (3, .long (low)), (5, .long (high)), (7, .ref (ou))]) hx hb dL_noise_17 hl (by decide) rfl (fun ls hl => ?_)
      refine ix_iconst hx hb dL_noise_19 ?_
      exact W.iret hx hb hrt (fun t9 ht9 hW => ⟨⟨_, (1, wk), rfl, ⟨Or.inr (Or.inl ⟨hbad, rfl⟩), rfl⟩, ⟨fun g9 => absurd g9 (show ¬ (1 : Int) = 0 by decide), fun _ => ⟨by rw [ht9, ← ht]; exact hCX, by rw [ht9]; exact hO1⟩⟩⟩, hS1.F ht9⟩) hS1.2.2 dL_noise_20
    · refine vx_catch (own := "NoiseRingLaw") (name := nIAE) hown [⟨0, 14, 17, 19⟩] ⟨0, 14, 21, 13⟩ [] htab (fun z9 h9 => by rcases List.mem_singleton.mp h9 with rfl; exact Or.inr ⟨by decide, nNSE, hts _ u150, hG.1.2.1.2.2.2.2.2.2⟩) (by decide) (by decide) (hts _ u85) (va_Nw.use rfl hG.1.2.1.2.2.2.2.2.1) hce hcv hcl ?_
      refine lv_astore (lv' := [(8, .ref (q9)), (0, .ref (ox ω)), (1, .int (iI (to))), (2, .int (iI (eta))), (3, .long (low)), (5, .long (high)), (7, .ref (ou))]) hx hb dL_noise_21 hl (by decide) rfl (fun ls hl => ?_)
      refine ix_iconst hx hb dL_noise_23 ?_
      exact W.iret hx hb hrt (fun t9 ht9 hW => ⟨⟨_, (2, wk), rfl, ⟨Or.inr (Or.inr ⟨⟨hbd1, hbd2⟩, rfl⟩), rfl⟩, ⟨fun g9 => absurd g9 (show ¬ (2 : Int) = 0 by decide), fun _ => ⟨by rw [ht9, ← ht]; exact hCX, by rw [ht9]; exact hO1⟩⟩⟩, hS1.F ht9⟩) hS1.2.2 dL_noise_24
  obtain ⟨hok, rfl⟩ := hp
  have hO1 : OU cL ou o0 H1 := (hk ou hlt hou).trans hO
  have hlt1 : ou < H1.size := (Array.getElem?_eq_some_iff.mp hO1).1
  rw [ht] at hB
  refine lv_i2l hx hb dL_noise_12 rfl ?_
  refine ou_st hx hb hO1 hAr dL_noise_13 (fun H2 hO2 z2 oq2 => ?_)
  have hS2 := hS1.put (k := 0) z2 oq2 (Or.inr rfl)
  have hCX := hB.keptA (fun a9 g9 h9 => oq2 a9 (fun e9 => hou (e9 ▸ h9)))
  refine lv_goto (tgt := 25) hx hb dL_noise_14 (by decide) ?_
  refine ix_iconst hx hb dL_noise_25 ?_
  exact W.iret hx hb hrt (fun t9 ht9 hW => ⟨⟨_, (0, u), rfl, ⟨Or.inl ⟨hok, rfl⟩, rfl⟩, ⟨fun _ => ⟨by rw [ht9]; exact hCX, by rw [ht9]; exact hO2⟩, fun g9 => absurd rfl g9⟩⟩, hS2.F ht9⟩) hS2.2.2 dL_noise_26
set_option maxHeartbeats 4000000 in
set_option maxRecDepth 100000 in
theorem w_value (l : Launch) (htr : l.stackTraces = false) (ω : WX) (cL : ClassId) (ou : Nat) (o0 : Int64) (hou : ¬ Ax ω ou) (k q z : Int) (M : Nat → Nat → Int) (wk : Nat → Int) (a i : Int) (a1 : -2147483648 ≤ a) (a2 : a < 2147483648) (i1 : -2147483648 ≤ i) (i2 : i < 2147483648) (hq1 : 3329 ≤ q) (hq2 : q ≤ 8380417) (hM : ∀ r i, r < 12 → i < 16 → 0 ≤ M r i ∧ M r i < q) (k1 : 0 ≤ k) (k2 : k ≤ 1) (qk : q = kQ k) (zk : z = kZ k) : Met l yL_value wsL_value ({ frames := 8, cells := 2, slots := 12, locals := 124 }) (va_Pc [.ref (ox ω), .int (iI (a)), .int (iI (i)), .ref (ou)] (fun U => GX ω k q z M wk U U.heap ∧ ArrOfT U cL .long ∧ OU cL ou o0 U.heap)) (va_Qi (fun r_ (w_ : Int × (Nat → Int)) => ((((0 ≤ a ∧ a < 12)) ∧ 0 ≤ i ∧ i < 16) ∧ w_.1 = 0 ∨ (¬ (((0 ≤ a ∧ a < 12)) ∧ 0 ≤ i ∧ i < 16)) ∧ w_.1 = 1) ∧ r_ = iI w_.1) (fun w_ t => BW ω cL ou o0 k q z M k q z M (iI (sVal k (M a.toNat) i.toNat)) w_ t) (Aw ω ou)) 2 12 (Aw ω ou) := by
  refine va_MetW (cc := cL_value) (maxL := 5) (ret := (some .int)) (hh := [(0, 10, 13, 19)]) (by decide +kernel) rfl ?_
  intro p e s m args below meth c s₁ B hml hv
  obtain ⟨rfl, hG, hAr, hO⟩ := hv
  have hx := B.exec
  have hb := B.bytes
  have hrt := B.returns
  have hts : ∀ w ∈ wsU, w.before _ s = true := fun w h => atoms_spec (ws := wsL_value) B.pre w (List.mem_cons_of_mem _ h)
  have htab := vx_table (x := yL_value) B (atoms_spec (ws := wsL_value) B.pre _ List.mem_cons_self)
  have hown : s.vm.findClass "NoiseRingLaw" = some m.cls := findClass_of_methodNamed B.named
  have hlocks := B.notSynchronized
  have hS : va_S (Aw ω ou) s.heap s.heap [] := va_S.rf
  have hlt : ou < s.heap.size := (Array.getElem?_eq_some_iff.mp hO).1
  have hl := lv_entry ([.ref (ox ω), .int (iI (a)), .int (iI (i)), .ref (ou)]) (n := 5) (Nat.le_of_ble_eq_true rfl)
  rw [lg_entry_eq]
  generalize (lg_sl ([.ref (ox ω), .int (iI (a)), .int (iI (i)), .ref (ou)]) ++ List.replicate (5 - (lg_sl ([.ref (ox ω), .int (iI (a)), .int (iI (i)), .ref (ou)])).length) Slot.unset).toArray = ls at hl ⊢
  have hl : lv_has ls 5 [(0, .ref (ox ω)), (1, .int (iI (a))), (2, .int (iI (i))), (3, .ref (ou))] := hl
  refine lv_aload_n hx hb dL_value_0 rfl (lv_at hl 3 rfl) ?_
  refine ix_iconst hx hb dL_value_1 ?_
  refine lv_aload_n hx hb dL_value_2 rfl (lv_at hl 0 rfl) ?_
  refine lv_iload_n hx hb dL_value_3 rfl (lv_at hl 1 rfl) ?_
  refine lv_iload_n hx hb dL_value_4 rfl (lv_at hl 2 rfl) ?_
  refine vx_calli (vx_runV (As := [.int (iI (a)), .int (iI (i))]) (rest := [.int (iI (0)), .ref (ou)]) ⟨hx, hb, hml, hown, hts⟩ (p_value l htr ω k q z M wk a i a1 a2 i1 i2 hq1 hq2 hM k1 k2 qk zk) (cwV 2 hts (gU (hd := [.methodLink "NoiseRingLaw" 52 yX0_value, .instanceMethod yX0_value, .selects "NoiseRing" yX0_value yX0_value, .initialized "NoiseRing"]) (List.forall_mem_cons.mpr ⟨u303, List.forall_mem_cons.mpr ⟨u304, List.forall_mem_cons.mpr ⟨u305, List.forall_mem_cons.mpr ⟨u29, fun _ h => by cases h⟩⟩⟩⟩) u306) rfl rfl rfl (by decide +kernel) ⟨Nat.le_of_ble_eq_true rfl, Nat.le_of_ble_eq_true rfl⟩) (gx_V hG) rfl rfl hl.1 rfl (lv_room (Nat.le_of_ble_eq_true rfl)) dL_value_5 ⟨Nat.le_of_ble_eq_true rfl, Nat.le_of_ble_eq_true rfl⟩) hS (fun q9 _ h => Or.inl h) (fun q9 h => Or.inl h) (fun q9 _ h => Or.inl h) (fun E ce q9 u t H1 locs1 ht hvm hpx hBX hz hk hS1 hce hcv hcl => ?_) (fun r u t H1 locs1 ht hvm hp hB hz hk hS1 => ?_)
  · have hO1 : OU cL ou o0 H1 := (hk ou hlt hou).trans hO
    obtain ⟨⟨hbad, rfl⟩, hCX⟩ := hBX
    refine vx_catch (own := "NoiseRingLaw") (name := nNSE) hown [] ⟨0, 10, 13, 19⟩ [] htab (fun z9 h9 => by cases h9) (by decide) (by decide) (hts _ u150) (va_Nw.use rfl hG.1.2.1.2.2.2.2.1) hce hcv hcl ?_
    refine lv_astore (lv' := [(4, .ref (q9)), (0, .ref (ox ω)), (1, .int (iI (a))), (2, .int (iI (i))), (3, .ref (ou))]) hx hb dL_value_13 hl (by decide) rfl (fun ls hl => ?_)
    refine ix_iconst hx hb dL_value_15 ?_
    exact W.iret hx hb hrt (fun t9 ht9 hW => ⟨⟨_, (1, wk), rfl, ⟨Or.inr ⟨hbad, rfl⟩, rfl⟩, ⟨fun g9 => absurd g9 (show ¬ (1 : Int) = 0 by decide), fun _ => ⟨by rw [ht9, ← ht]; exact hCX, by rw [ht9]; exact hO1⟩⟩⟩, hS1.F ht9⟩) hS1.2.2 dL_value_16
  obtain ⟨hok, rfl⟩ := hp
  have hO1 : OU cL ou o0 H1 := (hk ou hlt hou).trans hO
  have hlt1 : ou < H1.size := (Array.getElem?_eq_some_iff.mp hO1).1
  rw [ht] at hB
  refine lv_i2l hx hb dL_value_8 rfl ?_
  refine ou_st hx hb hO1 hAr dL_value_9 (fun H2 hO2 z2 oq2 => ?_)
  have hS2 := hS1.put (k := 0) z2 oq2 (Or.inr rfl)
  have hCX := hB.keptA (fun a9 g9 h9 => oq2 a9 (fun e9 => hou (e9 ▸ h9)))
  refine lv_goto (tgt := 17) hx hb dL_value_10 (by decide) ?_
  refine ix_iconst hx hb dL_value_17 ?_
  exact W.iret hx hb hrt (fun t9 ht9 hW => ⟨⟨_, (0, u), rfl, ⟨Or.inl ⟨hok, rfl⟩, rfl⟩, ⟨fun _ => ⟨by rw [ht9]; exact hCX, by rw [ht9]; exact hO2⟩, fun g9 => absurd rfl g9⟩⟩, hS2.F ht9⟩) hS2.2.2 dL_value_18
set_option maxHeartbeats 4000000 in
set_option maxRecDepth 100000 in
theorem w_unit (l : Launch) (htr : l.stackTraces = false) (ω : WX) (cL : ClassId) (ou : Nat) (o0 : Int64) (hou : ¬ Ax ω ou) (k q z : Int) (M : Nat → Nat → Int) (wk : Nat → Int) (a : Int) (a1 : -2147483648 ≤ a) (a2 : a < 2147483648) (hq1 : 3329 ≤ q) (hq2 : q ≤ 8380417) (hM : ∀ r i, r < 12 → i < 16 → 0 ≤ M r i ∧ M r i < q) (k1 : 0 ≤ k) (k2 : k ≤ 1) (qk : q = kQ k) : Met l yL_unit wsL_unit ({ frames := 8, cells := 1, slots := 6, locals := 125 }) (va_Pc [.ref (ox ω), .int (iI (a)), .ref (ou)] (fun U => GX ω k q z M wk U U.heap ∧ ArrOfT U cL .long ∧ OU cL ou o0 U.heap)) (va_Qi (fun r_ (w_ : Int × (Nat → Int)) => (((0 ≤ a ∧ a < 12)) ∧ w_.1 = 0 ∨ (¬ ((0 ≤ a ∧ a < 12))) ∧ w_.1 = 1) ∧ r_ = iI w_.1) (fun w_ t => BW ω cL ou o0 k q z M k q z M (iI (sUi k (M a.toNat))) w_ t) (Aw ω ou)) 1 6 (Aw ω ou) := by
  refine va_MetW (cc := cL_unit) (maxL := 4) (ret := (some .int)) (hh := [(0, 16, 19, 19)]) (by decide +kernel) rfl ?_
  intro p e s m args below meth c s₁ B hml hv
  obtain ⟨rfl, hG, hAr, hO⟩ := hv
  have hx := B.exec
  have hb := B.bytes
  have hrt := B.returns
  have hts : ∀ w ∈ wsU, w.before _ s = true := fun w h => atoms_spec (ws := wsL_unit) B.pre w (List.mem_cons_of_mem _ h)
  have htab := vx_table (x := yL_unit) B (atoms_spec (ws := wsL_unit) B.pre _ List.mem_cons_self)
  have hown : s.vm.findClass "NoiseRingLaw" = some m.cls := findClass_of_methodNamed B.named
  have hlocks := B.notSynchronized
  have hS : va_S (Aw ω ou) s.heap s.heap [] := va_S.rf
  have hlt : ou < s.heap.size := (Array.getElem?_eq_some_iff.mp hO).1
  have hl := lv_entry ([.ref (ox ω), .int (iI (a)), .ref (ou)]) (n := 4) (Nat.le_of_ble_eq_true rfl)
  rw [lg_entry_eq]
  generalize (lg_sl ([.ref (ox ω), .int (iI (a)), .ref (ou)]) ++ List.replicate (4 - (lg_sl ([.ref (ox ω), .int (iI (a)), .ref (ou)])).length) Slot.unset).toArray = ls at hl ⊢
  have hl : lv_has ls 4 [(0, .ref (ox ω)), (1, .int (iI (a))), (2, .ref (ou))] := hl
  refine lv_aload_n hx hb dL_unit_0 rfl (lv_at hl 2 rfl) ?_
  refine ix_iconst hx hb dL_unit_1 ?_
  refine lv_aload_n hx hb dL_unit_2 rfl (lv_at hl 0 rfl) ?_
  refine lv_iload_n hx hb dL_unit_3 rfl (lv_at hl 1 rfl) ?_
  refine vx_calli (vx_runV (As := [.int (iI (a))]) (rest := [.int (iI (0)), .ref (ou)]) ⟨hx, hb, hml, hown, hts⟩ (p_unit l htr ω k q z M wk a a1 a2 hq1 hq2 hM k1 k2 qk) (cwV 1 hts (gU (hd := [.methodLink "NoiseRingLaw" 55 yX0_unit, .instanceMethod yX0_unit, .selects "NoiseRing" yX0_unit yX0_unit, .initialized "NoiseRing"]) (List.forall_mem_cons.mpr ⟨u313, List.forall_mem_cons.mpr ⟨u314, List.forall_mem_cons.mpr ⟨u315, List.forall_mem_cons.mpr ⟨u29, fun _ h => by cases h⟩⟩⟩⟩) u316) rfl rfl rfl (by decide +kernel) ⟨Nat.le_of_ble_eq_true rfl, Nat.le_of_ble_eq_true rfl⟩) (gx_V hG) rfl rfl hl.1 rfl (lv_room (Nat.le_of_ble_eq_true rfl)) dL_unit_4 ⟨Nat.le_of_ble_eq_true rfl, Nat.le_of_ble_eq_true rfl⟩) hS (fun q9 _ h => Or.inl h) (fun q9 h => Or.inl h) (fun q9 _ h => Or.inl h) (fun E ce q9 u t H1 locs1 ht hvm hpx hBX hz hk hS1 hce hcv hcl => ?_) (fun r u t H1 locs1 ht hvm hp hB hz hk hS1 => ?_)
  · have hO1 : OU cL ou o0 H1 := (hk ou hlt hou).trans hO
    obtain ⟨⟨hbad, rfl⟩, hCX⟩ := hBX
    refine vx_catch (own := "NoiseRingLaw") (name := nNSE) hown [] ⟨0, 16, 19, 19⟩ [] htab (fun z9 h9 => by cases h9) (by decide) (by decide) (hts _ u150) (va_Nw.use rfl hG.1.2.1.2.2.2.2.1) hce hcv hcl ?_
    refine lv_astore_n (lv' := [(3, .ref (q9)), (0, .ref (ox ω)), (1, .int (iI (a))), (2, .ref (ou))]) hx hb dL_unit_19 rfl hl (by decide) rfl (fun ls hl => ?_)
    refine ix_iconst hx hb dL_unit_20 ?_
    exact W.iret hx hb hrt (fun t9 ht9 hW => ⟨⟨_, (1, wk), rfl, ⟨Or.inr ⟨hbad, rfl⟩, rfl⟩, ⟨fun g9 => absurd g9 (show ¬ (1 : Int) = 0 by decide), fun _ => ⟨by rw [ht9, ← ht]; exact hCX, by rw [ht9]; exact hO1⟩⟩⟩, hS1.F ht9⟩) hS1.2.2 dL_unit_21
  obtain ⟨hok, rfl⟩ := hp
  have hO1 : OU cL ou o0 H1 := (hk ou hlt hou).trans hO
  have hlt1 : ou < H1.size := (Array.getElem?_eq_some_iff.mp hO1).1
  rw [ht] at hB
  have h01 := sUi_01 k (M a.toNat)
  refine ix_if_eq (tgt := 14) hx hb (by omega) (by omega) dL_unit_7 (by decide) (fun h7 => ?_) (fun h7 => ?_)
  · refine ix_lconst0 hx hb dL_unit_14 ?_
    refine wx_l (show lI 0 = (iI (sUi k (M a.toNat))).toInt64 by rw [h7]; decide) ?_
    refine ou_st hx hb hO1 hAr dL_unit_15 (fun H2 hO2 z2 oq2 => ?_)
    have hS2 := hS1.put (k := 0) z2 oq2 (Or.inr rfl)
    have hCX := hB.keptA (fun a9 g9 h9 => oq2 a9 (fun e9 => hou (e9 ▸ h9)))
    refine lv_goto (tgt := 22) hx hb dL_unit_16 (by decide) ?_
    refine ix_iconst hx hb dL_unit_22 ?_
    exact W.iret hx hb hrt (fun t9 ht9 hW => ⟨⟨_, (0, u), rfl, ⟨Or.inl ⟨hok, rfl⟩, rfl⟩, ⟨fun _ => ⟨by rw [ht9]; exact hCX, by rw [ht9]; exact hO2⟩, fun g9 => absurd rfl g9⟩⟩, hS2.F ht9⟩) hS2.2.2 dL_unit_23
  · refine ix_lconst1 hx hb dL_unit_10 ?_
    refine lv_goto (tgt := 15) hx hb dL_unit_11 (by decide) ?_
    refine wx_l (show lI 1 = (iI (sUi k (M a.toNat))).toInt64 by rw [show sUi k (M a.toNat) = 1 by omega]; decide) ?_
    refine ou_st hx hb hO1 hAr dL_unit_15 (fun H2 hO2 z2 oq2 => ?_)
    have hS2 := hS1.put (k := 0) z2 oq2 (Or.inr rfl)
    have hCX := hB.keptA (fun a9 g9 h9 => oq2 a9 (fun e9 => hou (e9 ▸ h9)))
    refine lv_goto (tgt := 22) hx hb dL_unit_16 (by decide) ?_
    refine ix_iconst hx hb dL_unit_22 ?_
    exact W.iret hx hb hrt (fun t9 ht9 hW => ⟨⟨_, (0, u), rfl, ⟨Or.inl ⟨hok, rfl⟩, rfl⟩, ⟨fun _ => ⟨by rw [ht9]; exact hCX, by rw [ht9]; exact hO2⟩, fun g9 => absurd rfl g9⟩⟩, hS2.F ht9⟩) hS2.2.2 dL_unit_23

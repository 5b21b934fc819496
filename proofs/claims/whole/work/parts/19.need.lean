/-! needRegister, needPlace, needArgument; by program (wip/gen/rw.py). -/
theorem gx_Sh {s : State} {H : Heap} {ω : WX} {k q z : Int} {M : Nat → Nat → Int} {wk : Nat → Int} (hG : GX ω k q z M wk s H) {As : List Value} : PreS s H (va_Pc As (fun U => U.heap = H ∧ GX ω k q z M wk U U.heap)) As :=
  ⟨fun a U g mk h => ⟨h.1, h.2.1, GX.moved (u := U) (U := U.calling g mk a) (State.WarmedH.refl U) h.2.2⟩, fun U hU hW => ⟨rfl, hU, by have h := hG.moved hW; rw [← hU] at h; exact h⟩⟩
set_option maxHeartbeats 4000000 in
set_option maxRecDepth 100000 in
theorem n_needRegister (l : Launch) (htr : l.stackTraces = false) (ω : WX) (k q z : Int) (M : Nat → Nat → Int) (wk : Nat → Int) (Hf : Heap) (r : Int) (r1 : -2147483648 ≤ r) (r2 : r < 2147483648) : vx_Met l yX0_needRegister wsX0_needRegister ({ frames := 6, cells := 1, slots := 6, locals := 82 }) (va_Pc [.int (iI r)] (fun U => U.heap = Hf ∧ GX ω k q z M wk U U.heap)) (va_Qv (fun _ : Unit => 0 ≤ r ∧ r < 12) (fun _ t => t.heap = Hf) (fun _ => False)) (vx_X (fun _ : Unit => True) (fun E _ _ => ¬ (0 ≤ r ∧ r < 12) ∧ E = nNSE) (fun _ => False)) 1 6 (fun _ => False) := by
  refine vx_ofW (cc := cX0_needRegister) (maxL := 1) (ret := none) (by decide +kernel) rfl ?_
  intro p e s m args below meth c s₁ B hml hnx hv
  obtain ⟨rfl, hHf, hG⟩ := hv
  have hx := B.exec
  have hb := B.bytes
  have hrt := B.returns
  have hts : ∀ w ∈ wsU, w.before _ s = true := fun w h => atoms_spec (ws := wsX0_needRegister) B.pre w (List.mem_cons_of_mem _ h)
  have hown : s.vm.findClass "NoiseRing" = some m.cls := findClass_of_methodNamed B.named
  have hlocks := B.notSynchronized
  have hl := lv_entry ([.int (iI r)]) (n := 1) (Nat.le_of_ble_eq_true rfl)
  rw [lg_entry_eq]
  generalize (lg_sl ([.int (iI r)]) ++ List.replicate (1 - (lg_sl ([.int (iI r)])).length) Slot.unset).toArray = ls at hl ⊢
  have hl : lv_has ls 1 [(0, .int (iI r))] := hl
  have hS : va_S (fun _ => False) s.heap s.heap [] := va_S.rf
  refine lv_iload_n hx hb dX0_needRegister_0 rfl (lv_at hl 0 rfl) ?_
  refine ix_if_lt (tgt := 10) hx hb (by omega) (by omega) dX0_needRegister_1 (by decide) (fun h1 => ?_) (fun h1 => ?_)
  · exact tx_throw (own := "NoiseRing") (cls := nNSE) (sup := "java/lang/RuntimeException") (names := ["java/lang/Exception"]) (i7 := 13) (bytes := prog_11_method_4_code) hx hb htr hown (by decide +kernel) (by decide +kernel) (by decide +kernel) (by decide +kernel) (by decide +kernel) (by decide +kernel) (by decide +kernel) (tx_parts tx_inN hts (tx_noB hG.1.2.1.2)) (hts _ u158) (hts _ u35) hG.1.2.1.2.2.1.1 hml hl.1 hnx hlocks dX0_needRegister_10 dX0_needRegister_13 dX0_needRegister_14 dX0_needRegister_16 dX0_needRegister_19 (Nat.le_of_ble_eq_true rfl) (Nat.le_of_ble_eq_true rfl) (Nat.le_of_ble_eq_true rfl) (Nat.le_of_ble_eq_true rfl) (fun t h1 h2 h3 => ⟨(), trivial, ⟨by omega, rfl⟩, h2, fun q9 g9 _ => h3 q9 g9⟩) (by decide) (by decide)
  · refine lv_iload_n hx hb dX0_needRegister_4 rfl (lv_at hl 0 rfl) ?_
    refine ix_bipush hx hb (by decide) dX0_needRegister_5 ?_
    refine ix_icmp_lt (tgt := 20) hx hb (by omega) (by omega) (by omega) (by omega) dX0_needRegister_7 (by decide) (fun h7 => ?_) (fun h7 => ?_)
    · refine W.widen (k := 1) (n := 6) (by decide) (by decide) ?_
      exact vx_ret (W.vret hx hb hrt (fun t ht hW => ⟨⟨(), rfl, by omega, ht.trans hHf⟩, hS.F ht⟩) hS.2.2 dX0_needRegister_20)
    · exact tx_throw (own := "NoiseRing") (cls := nNSE) (sup := "java/lang/RuntimeException") (names := ["java/lang/Exception"]) (i7 := 13) (bytes := prog_11_method_4_code) hx hb htr hown (by decide +kernel) (by decide +kernel) (by decide +kernel) (by decide +kernel) (by decide +kernel) (by decide +kernel) (by decide +kernel) (tx_parts tx_inN hts (tx_noB hG.1.2.1.2)) (hts _ u158) (hts _ u35) hG.1.2.1.2.2.1.1 hml hl.1 hnx hlocks dX0_needRegister_10 dX0_needRegister_13 dX0_needRegister_14 dX0_needRegister_16 dX0_needRegister_19 (Nat.le_of_ble_eq_true rfl) (Nat.le_of_ble_eq_true rfl) (Nat.le_of_ble_eq_true rfl) (Nat.le_of_ble_eq_true rfl) (fun t h1 h2 h3 => ⟨(), trivial, ⟨by omega, rfl⟩, h2, fun q9 g9 _ => h3 q9 g9⟩) (by decide) (by decide)
set_option maxHeartbeats 4000000 in
set_option maxRecDepth 100000 in
theorem n_needPlace (l : Launch) (htr : l.stackTraces = false) (ω : WX) (k q z : Int) (M : Nat → Nat → Int) (wk : Nat → Int) (Hf : Heap) (r : Int) (r1 : -2147483648 ≤ r) (r2 : r < 2147483648) : vx_Met l yX0_needPlace wsX0_needPlace ({ frames := 6, cells := 1, slots := 6, locals := 82 }) (va_Pc [.int (iI r)] (fun U => U.heap = Hf ∧ GX ω k q z M wk U U.heap)) (va_Qv (fun _ : Unit => 0 ≤ r ∧ r < 16) (fun _ t => t.heap = Hf) (fun _ => False)) (vx_X (fun _ : Unit => True) (fun E _ _ => ¬ (0 ≤ r ∧ r < 16) ∧ E = nNSE) (fun _ => False)) 1 6 (fun _ => False) := by
  refine vx_ofW (cc := cX0_needPlace) (maxL := 1) (ret := none) (by decide +kernel) rfl ?_
  intro p e s m args below meth c s₁ B hml hnx hv
  obtain ⟨rfl, hHf, hG⟩ := hv
  have hx := B.exec
  have hb := B.bytes
  have hrt := B.returns
  have hts : ∀ w ∈ wsU, w.before _ s = true := fun w h => atoms_spec (ws := wsX0_needPlace) B.pre w (List.mem_cons_of_mem _ h)
  have hown : s.vm.findClass "NoiseRing" = some m.cls := findClass_of_methodNamed B.named
  have hlocks := B.notSynchronized
  have hl := lv_entry ([.int (iI r)]) (n := 1) (Nat.le_of_ble_eq_true rfl)
  rw [lg_entry_eq]
  generalize (lg_sl ([.int (iI r)]) ++ List.replicate (1 - (lg_sl ([.int (iI r)])).length) Slot.unset).toArray = ls at hl ⊢
  have hl : lv_has ls 1 [(0, .int (iI r))] := hl
  have hS : va_S (fun _ => False) s.heap s.heap [] := va_S.rf
  refine lv_iload_n hx hb dX0_needPlace_0 rfl (lv_at hl 0 rfl) ?_
  refine ix_if_lt (tgt := 10) hx hb (by omega) (by omega) dX0_needPlace_1 (by decide) (fun h1 => ?_) (fun h1 => ?_)
  · exact tx_throw (own := "NoiseRing") (cls := nNSE) (sup := "java/lang/RuntimeException") (names := ["java/lang/Exception"]) (i7 := 13) (bytes := prog_11_method_4_code) hx hb htr hown (by decide +kernel) (by decide +kernel) (by decide +kernel) (by decide +kernel) (by decide +kernel) (by decide +kernel) (by decide +kernel) (tx_parts tx_inN hts (tx_noB hG.1.2.1.2)) (hts _ u158) (hts _ u35) hG.1.2.1.2.2.1.2.1 hml hl.1 hnx hlocks dX0_needPlace_10 dX0_needPlace_13 dX0_needPlace_14 dX0_needPlace_16 dX0_needPlace_19 (Nat.le_of_ble_eq_true rfl) (Nat.le_of_ble_eq_true rfl) (Nat.le_of_ble_eq_true rfl) (Nat.le_of_ble_eq_true rfl) (fun t h1 h2 h3 => ⟨(), trivial, ⟨by omega, rfl⟩, h2, fun q9 g9 _ => h3 q9 g9⟩) (by decide) (by decide)
  · refine lv_iload_n hx hb dX0_needPlace_4 rfl (lv_at hl 0 rfl) ?_
    refine ix_bipush hx hb (by decide) dX0_needPlace_5 ?_
    refine ix_icmp_lt (tgt := 20) hx hb (by omega) (by omega) (by omega) (by omega) dX0_needPlace_7 (by decide) (fun h7 => ?_) (fun h7 => ?_)
    · refine W.widen (k := 1) (n := 6) (by decide) (by decide) ?_
      exact vx_ret (W.vret hx hb hrt (fun t ht hW => ⟨⟨(), rfl, by omega, ht.trans hHf⟩, hS.F ht⟩) hS.2.2 dX0_needPlace_20)
    · exact tx_throw (own := "NoiseRing") (cls := nNSE) (sup := "java/lang/RuntimeException") (names := ["java/lang/Exception"]) (i7 := 13) (bytes := prog_11_method_4_code) hx hb htr hown (by decide +kernel) (by decide +kernel) (by decide +kernel) (by decide +kernel) (by decide +kernel) (by decide +kernel) (by decide +kernel) (tx_parts tx_inN hts (tx_noB hG.1.2.1.2)) (hts _ u158) (hts _ u35) hG.1.2.1.2.2.1.2.1 hml hl.1 hnx hlocks dX0_needPlace_10 dX0_needPlace_13 dX0_needPlace_14 dX0_needPlace_16 dX0_needPlace_19 (Nat.le_of_ble_eq_true rfl) (Nat.le_of_ble_eq_true rfl) (Nat.le_of_ble_eq_true rfl) (Nat.le_of_ble_eq_true rfl) (fun t h1 h2 h3 => ⟨(), trivial, ⟨by omega, rfl⟩, h2, fun q9 g9 _ => h3 q9 g9⟩) (by decide) (by decide)
set_option maxHeartbeats 4000000 in
set_option maxRecDepth 100000 in
theorem n_needArgument (l : Launch) (htr : l.stackTraces = false) (ω : WX) (k q z : Int) (M : Nat → Nat → Int) (wk : Nat → Int) (Hf : Heap) (r : Int) (r1 : -2147483648 ≤ r) (r2 : r < 2147483648) : vx_Met l yX0_needArgument wsX0_needArgument ({ frames := 6, cells := 1, slots := 6, locals := 82 }) (va_Pc [.int (iI r)] (fun U => U.heap = Hf ∧ GX ω k q z M wk U U.heap)) (va_Qv (fun _ : Unit => ¬ r = 0) (fun _ t => t.heap = Hf) (fun _ => False)) (vx_X (fun _ : Unit => True) (fun E _ _ => ¬ (¬ r = 0) ∧ E = nIAE) (fun _ => False)) 1 6 (fun _ => False) := by
  refine vx_ofW (cc := cX0_needArgument) (maxL := 1) (ret := none) (by decide +kernel) rfl ?_
  intro p e s m args below meth c s₁ B hml hnx hv
  obtain ⟨rfl, hHf, hG⟩ := hv
  have hx := B.exec
  have hb := B.bytes
  have hrt := B.returns
  have hts : ∀ w ∈ wsU, w.before _ s = true := fun w h => atoms_spec (ws := wsX0_needArgument) B.pre w (List.mem_cons_of_mem _ h)
  have hown : s.vm.findClass "NoiseRing" = some m.cls := findClass_of_methodNamed B.named
  have hlocks := B.notSynchronized
  have hl := lv_entry ([.int (iI r)]) (n := 1) (Nat.le_of_ble_eq_true rfl)
  rw [lg_entry_eq]
  generalize (lg_sl ([.int (iI r)]) ++ List.replicate (1 - (lg_sl ([.int (iI r)])).length) Slot.unset).toArray = ls at hl ⊢
  have hl : lv_has ls 1 [(0, .int (iI r))] := hl
  have hS : va_S (fun _ => False) s.heap s.heap [] := va_S.rf
  refine lv_iload_n hx hb dX0_needArgument_0 rfl (lv_at hl 0 rfl) ?_
  refine ix_if_ne (tgt := 14) hx hb (by omega) (by omega) dX0_needArgument_1 (by decide) (fun h1 => ?_) (fun h1 => ?_)
  · refine W.widen (k := 1) (n := 6) (by decide) (by decide) ?_
    exact vx_ret (W.vret hx hb hrt (fun t ht hW => ⟨⟨(), rfl, by omega, ht.trans hHf⟩, hS.F ht⟩) hS.2.2 dX0_needArgument_14)
  · exact tx_throw (own := "NoiseRing") (cls := nIAE) (sup := "java/lang/RuntimeException") (names := ["java/lang/Exception"]) (i7 := 7) (bytes := prog_5_method_2_code) hx hb htr hown (by decide +kernel) (by decide +kernel) (by decide +kernel) (by decide +kernel) (by decide +kernel) (by decide +kernel) (by decide +kernel) (tx_parts tx_inI hts (tx_noB hG.1.2.1.2)) (hts _ u93) (hts _ u34) hG.1.2.1.2.2.1.2.2 hml hl.1 hnx hlocks dX0_needArgument_4 dX0_needArgument_7 dX0_needArgument_8 dX0_needArgument_10 dX0_needArgument_13 (Nat.le_of_ble_eq_true rfl) (Nat.le_of_ble_eq_true rfl) (Nat.le_of_ble_eq_true rfl) (Nat.le_of_ble_eq_true rfl) (fun t h1 h2 h3 => ⟨(), trivial, ⟨by omega, rfl⟩, h2, fun q9 g9 _ => h3 q9 g9⟩) (by decide) (by decide)

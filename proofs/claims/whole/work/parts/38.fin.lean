/-! The law's start, its loop, its end (wip/gen/fin.py). -/
def R_law : String := "NoiseRingLaw"
def lw_P (b : Addr) (xs : List Int32) (args : Array Value) (s : State) : Prop := args = #[.ref b] ∧ s.IntsAt b xs ∧ xs.length ≤ 3584 ∧ (Jvm.Cond.and given_1 narrow_1).before args s = true
def lw_Q (_ : Array Value) (s : State) (o : Outcome) (t : State) : Prop := o = .returned (some (.int 1)) ∧ Framed s o t [] 646401 7156900
def lw_Z (below : List Frame) (a : Array Value) (s : State) : State → Prop := fun t => ∃ o, t.status = .running ∧ Ended t below o ∧ lw_Q a s o t
/-- the law's own end, with 1 on the stack, nothing written that was there before, its room as the claim has it -/
theorem lw_ret {p : Program} {l : Launch} {e : Env} {s : State} {m : MethodId} {below : List Frame} {meth : Method} {c : Code} {b : Nat} (hx : p.tables.exec = Jvm.exec) (hb : c.code = code) (hr : meth.sig.returnType = ret) (hlocks : meth.locks = false) {pc : Nat} {H : Heap} {ls : Array Slot} (hdg : decode code pc = .ok (.ireturn, 1)) : W p l e room_1 s m #[Value.ref b] below meth c H [] 646401 7156900 (lw_Z below #[Value.ref b] s) (F0 m pc ls [.int 1]) := by
  intro T hT X
  obtain ⟨fs, hret, hrun, hended, hW, hframe⟩ := X.leave (v := some (.int 1)) (hlocks := hlocks) (fun h => by rw [hr] at h; cases h)
  have hmeth' : T.vm.method? m = some meth := X.method'
  refine ⟨T.setFrames fs, ?_, .returned (some (.int 1)), hrun, hended, rfl, ⟨_, rfl⟩, hW, hframe⟩
  jvm_step X.here [X.here.top, hx, hb, hdg, hmeth', hr, ret, narrow_b1]
  (try refine ⟨rfl, ?_⟩); (try refine ⟨rfl, ?_⟩)
  first | (intro acts; rw [hret _ acts rfl rfl rfl]) | rw [hret _ _ rfl rfl rfl]
  exact Steps.refl _
/-- what holds at the law's entry: the machine, the code, the tables' words (any of lw_tbl by 'hts w (by decide +kernel)'), the script of L ints xs at the cell b, what the Statement gives of the start (any of its parts by flat_of_before) -/
def lw_At (p : Program) (s : State) (m : MethodId) (meth : Method) (c : Code) (b L : Nat) (xs : Nat → Int32) : Prop :=
  p.tables.exec = Jvm.exec ∧ c.code = code ∧ meth.sig.returnType = ret ∧ c.maxLocals = 7 ∧ s.vm.findClass R_law = some m.cls ∧ (∀ w ∈ lw_tbl, w.before #[Value.ref b] s = true) ∧ va_X b L xs s s.heap ∧ b < s.heap.size ∧ meth.locks = false ∧ (Jvm.Cond.and given_1 narrow_1).before #[Value.ref b] s = true
theorem CX.lt {ω : WX} {k q z : Int} {M : Nat → Nat → Int} {wk : Nat → Int} {H : Heap} (c : CX ω k q z M wk H) : ∀ q, Ax ω q → q < H.size := by
  have lt : ∀ {a : Nat} {x : Cell}, H[a]? = some x → a < H.size := fun hx => (Array.getElem?_eq_some_iff.mp hx).1
  intro q h
  rcases h with h | h | h | ⟨r, hr, h⟩
  · rw [h]; exact (c.1 0 _ rfl).lt
  · rw [h]; exact lt c.2.1
  · rw [h]; exact lt c.2.2.1
  · rw [h]; exact lt (c.2.2.2 r hr)
theorem CM.lt {ω : WM} {th k q : Int} {M : Nat → Nat → Int} {f : Nat → Int} {H : Heap} (c : CM ω th k q M f H) : ∀ q, Am ω q → q < H.size := by
  have lt : ∀ {a : Nat} {x : Cell}, H[a]? = some x → a < H.size := fun hx => (Array.getElem?_eq_some_iff.mp hx).1
  intro q h
  rcases h with h | h | h
  · rw [h]; exact (c.1 0 _ rfl).lt
  · rw [h]; exact lt c.2.1
  · rw [h]; exact lt c.2.2
theorem ns_tr {s : State} {H H1 : Heap} (hS : va_S (fun q => s.heap.size ≤ q) s.heap H []) (h1 : va_S (fun q => H.size ≤ q) H H1 []) : va_S (fun q => s.heap.size ≤ q) s.heap H1 [] :=
  ⟨Nat.le_trans hS.1 h1.1, fun q a b => (h1.2.1 q (Nat.lt_of_lt_of_le a hS.1) (fun h => by have := hS.1; omega)).trans (hS.2.1 q a b), fun _ h => by cases h⟩
set_option maxHeartbeats 4000000 in
set_option maxRecDepth 100000 in
theorem l_loop {p : Program} {l : Launch} {e : Env} {s : State} {m : MethodId} {below : List Frame} {meth : Method} {c : Code} {H : Heap} {locs : List Loc} {ls : Array Slot} {b L : Nat} {xs : Nat → Int32} {ω : WX} {μ : WM} {cL : ClassId} {ou : Nat} (htr : l.stackTraces = false) (hx : p.tables.exec = Jvm.exec) (hb : c.code = cL_law) (hrt : meth.sig.returnType = ret) (hlocks : meth.locks = false) (hml : c.maxLocals = 7) (hown : s.vm.findClass "NoiseRingLaw" = some m.cls) (hts : ∀ w ∈ wsU, w.before #[Value.ref b] s = true) (hX : va_X b L xs s s.heap) (hbl : b < s.heap.size) (hL : L ≤ 3584) (hD : DL ω μ cL ou s) (hw : WL ω μ cL ou b s 0 ls H locs) : W p l e room_1 s m #[Value.ref b] below meth c H locs 19 439 (lw_Z below #[Value.ref b] s) (F0 m 23 ls []) := by
  have hbA : ¬ s.heap.size ≤ b := by omega
  refine ix_loopC (I := fun j ls H locs => WL ω μ cL ou b s (7 * j) ls H locs) (L / 7) 4 24 hw (fun ls H locs hw => ?_) (fun j ls H locs hj hw ih => ?_)
  · obtain ⟨k, M, wk, f, th, o, hk, hl, hCX, hCM, hO, hS⟩ := hw
    refine lv_iload hx hb dL_law_23 (lv_at hl 0 rfl) ?_
    refine lv_aload_n hx hb dL_law_25 rfl (lv_at hl 1 rfl) ?_
    refine va_slen hx hb hX hbl hbA hS dL_law_26 ?_
    refine wx_i (show Int32.ofNat L = iI (L : Int) from (Int32.ofInt_eq_ofNat (n := L)).symm) ?_
    refine ix_bipush hx hb (by decide) dL_law_27 ?_
    refine ix_isub hx hb dL_law_29 ?_
    refine ix_icmp_gt (tgt := 1236) hx hb (by omega) (by omega) (by omega) (by omega) dL_law_30 (by decide) (fun h30 => ?_) (fun h30 => absurd h30 (by omega))
    refine ix_iconst hx hb dL_law_1236 ?_
    refine va_forget (fun q9 h9 => hS.2.2 q9 h9) ?_
    refine W.widen (k := 646401) (n := 7156900) (by omega) (by omega) ?_
    exact lw_ret hx hb hrt hlocks dL_law_1237
  · have K : ∀ (ls' : Array Slot) (H' : Heap) (locs' : List Loc), WL ω μ cL ou b s (7 * j) ls' H' locs' → W p l e room_1 s m #[Value.ref b] below meth c H' locs' (19 + 4 * j + 4) (439 + 24 * j + 24) (lw_Z below #[Value.ref b] s) (F0 m 1230 ls' []) := by
      intro ls' H' locs' hw
      obtain ⟨k, M, wk, f, th, o, hk, hl, hCX, hCM, hO, hS⟩ := hw
      refine lv_iinc (k := 0) (v := iI ((7 * (j + 1) : Nat))) (lv' := [(4, .int (iI ((7 * (j + 1) : Nat)))), (0, .ref b), (1, .ref (ox ω)), (2, .ref (mo μ)), (3, .ref ou)]) hx hb dL_law_1230 hl rfl ((iI_add _ _).trans (congrArg iI (by omega))) (by decide) rfl (fun ls hl => ?_)
      refine lv_goto (tgt := 23) hx hb dL_law_1233 (by decide) ?_
      exact ih _ _ _ ⟨k, M, wk, f, th, o, hk, hl, hCX, hCM, hO, hS⟩
    have hw0 := hw
    obtain ⟨k, M, wk, f, th, o, hk, hl, hCX, hCM, hO, hS⟩ := hw0
    obtain ⟨v0, -, e0⟩ := iI_of (xs (7 * j))
    refine lv_iload hx hb dL_law_23 (lv_at hl 0 rfl) ?_
    refine lv_aload_n hx hb dL_law_25 rfl (lv_at hl 1 rfl) ?_
    refine va_slen hx hb hX hbl hbA hS dL_law_26 ?_
    refine wx_i (show Int32.ofNat L = iI (L : Int) from (Int32.ofInt_eq_ofNat (n := L)).symm) ?_
    refine ix_bipush hx hb (by decide) dL_law_27 ?_
    refine ix_isub hx hb dL_law_29 ?_
    refine ix_icmp_gt (tgt := 1236) hx hb (by omega) (by omega) (by omega) (by omega) dL_law_30 (by decide) (fun h30 => absurd h30 (by omega)) (fun h30 => ?_)
    refine lv_aload_n hx hb dL_law_33 rfl (lv_at hl 1 rfl) ?_
    refine lv_iload hx hb dL_law_34 (lv_at hl 0 rfl) ?_
    refine sc_ld hx hb hX hbl hS (n := 7 * j) (by omega) hL e0 dL_law_36 ?_
    refine ix_bipush hx hb (by decide) dL_law_37 ?_
    refine lv_iand hx hb dL_law_39 ?_
    obtain ⟨w, hw16, hwe⟩ := and15 (iI v0)
    refine wx_i hwe ?_
    rcases (show w = 0 ∨ w = 1 ∨ w = 2 ∨ w = 3 ∨ w = 4 ∨ w = 5 ∨ w = 6 ∨ w = 7 ∨ w = 8 ∨ w = 9 ∨ w = 10 ∨ w = 11 ∨ w = 12 ∨ w = 13 ∨ w = 14 ∨ w = 15 by omega) with rfl | rfl | rfl | rfl | rfl | rfl | rfl | rfl | rfl | rfl | rfl | rfl | rfl | rfl | rfl | rfl
    · refine lv_tableIn (tgt := 112) hx hb dL_law_40 (by decide) (by decide) (by rfl) (by decide) ?_
      exact l_begin htr hx hb hml hown hts hX hbl hL hD (by omega) hw (by omega) (by omega) K
    · refine lv_tableIn (tgt := 168) hx hb dL_law_40 (by decide) (by decide) (by rfl) (by decide) ?_
      exact l_set htr hx hb hml hown hts hX hbl hL hD (by omega) hw (by omega) (by omega) K
    · refine lv_tableIn (tgt := 248) hx hb dL_law_40 (by decide) (by decide) (by rfl) (by decide) ?_
      exact l_get htr hx hb hml hown hts hX hbl hL hD (by omega) hw (by omega) (by omega) K
    · refine lv_tableIn (tgt := 316) hx hb dL_law_40 (by decide) (by decide) (by rfl) (by decide) ?_
      exact l_join htr hx hb hml hown hts hX hbl hL hD (by omega) hw (by omega) (by omega) K
    · refine lv_tableIn (tgt := 408) hx hb dL_law_40 (by decide) (by decide) (by rfl) (by decide) ?_
      exact l_round htr hx hb hml hown hts hX hbl hL hD (by omega) hw (by omega) (by omega) K
    · refine lv_tableIn (tgt := 500) hx hb dL_law_40 (by decide) (by decide) (by rfl) (by decide) ?_
      exact l_part htr hx hb hml hown hts hX hbl hL hD (by omega) hw (by omega) (by omega) K
    · refine lv_tableIn (tgt := 608) hx hb dL_law_40 (by decide) (by decide) (by rfl) (by decide) ?_
      exact l_hint htr hx hb hml hown hts hX hbl hL hD (by omega) hw (by omega) (by omega) K
    · refine lv_tableIn (tgt := 700) hx hb dL_law_40 (by decide) (by decide) (by rfl) (by decide) ?_
      exact l_use htr hx hb hml hown hts hX hbl hL hD (by omega) hw (by omega) (by omega) K
    · refine lv_tableIn (tgt := 792) hx hb dL_law_40 (by decide) (by decide) (by rfl) (by decide) ?_
      exact l_size htr hx hb hml hown hts hX hbl hL hD (by omega) hw (by omega) (by omega) K
    · refine lv_tableIn (tgt := 848) hx hb dL_law_40 (by decide) (by decide) (by rfl) (by decide) ?_
      exact l_far htr hx hb hml hown hts hX hbl hL hD (by omega) hw (by omega) (by omega) K
    · refine lv_tableIn (tgt := 916) hx hb dL_law_40 (by decide) (by decide) (by rfl) (by decide) ?_
      exact l_noise htr hx hb hml hown hts hX hbl hL hD (by omega) hw (by omega) (by omega) K
    · refine lv_tableIn (tgt := 1074) hx hb dL_law_40 (by decide) (by decide) (by rfl) (by decide) ?_
      exact l_value htr hx hb hml hown hts hX hbl hL hD (by omega) hw (by omega) (by omega) K
    · refine lv_tableIn (tgt := 1142) hx hb dL_law_40 (by decide) (by decide) (by rfl) (by decide) ?_
      exact l_unit htr hx hb hml hown hts hX hbl hL hD (by omega) hw (by omega) (by omega) K
    · refine lv_tableIn (tgt := 1205) hx hb dL_law_40 (by decide) (by decide) (by rfl) (by decide) ?_
      exact l_count htr hx hb hml hown hts hX hbl hL hD (by omega) hw (by omega) (by omega) K
    · refine lv_tableOut (tgt := 1230) hx hb dL_law_40 (by decide) (by decide) ?_
      refine W.widen (k := 19 + 4 * j + 4) (n := 439 + 24 * j + 24) (by omega) (by omega) ?_
      exact K ls H locs hw
    · refine lv_tableOut (tgt := 1230) hx hb dL_law_40 (by decide) (by decide) ?_
      refine W.widen (k := 19 + 4 * j + 4) (n := 439 + 24 * j + 24) (by omega) (by omega) ?_
      exact K ls H locs hw
set_option maxHeartbeats 4000000 in
set_option maxRecDepth 100000 in
theorem whole_start {p : Program} {e : Env} {s : State} {m : MethodId} {below : List Frame} {meth : Method} {c : Code} (l : Launch) (htr : l.stackTraces = false) {b L : Nat} {xs : Nat → Int32} (hL : L ≤ 3584) (C0 : lw_At p s m meth c b L xs) : W p l e room_1 s m #[Value.ref b] below meth c s.heap [] 0 0 (lw_Z below #[Value.ref b] s) (entryFrame m ([Value.ref b] : List Value).toArray 7) := by
  obtain ⟨hx, hb, hrt, hml, hown, hts0, hX, hbl, hlocks, hgv⟩ := C0
  have hb : c.code = cL_law := hb
  have hts : ∀ w ∈ wsU, w.before #[Value.ref b] s = true := fun w h => hts0 w (wsU_in w h)
  obtain ⟨D, T, hK, hBA, hAO⟩ := st_facts hts0 hgv
  have hown : s.vm.findClass "NoiseRingLaw" = some m.cls := hown
  have hS : va_S (fun q => s.heap.size ≤ q) s.heap s.heap [] := va_S.rf
  have hl := lv_entry ([.ref b]) (n := 7) (Nat.le_of_ble_eq_true rfl)
  rw [lg_entry_eq]
  generalize (lg_sl ([.ref b]) ++ List.replicate (7 - (lg_sl ([.ref b])).length) Slot.unset).toArray = ls at hl ⊢
  have hl : lv_has ls 7 [(0, .ref b)] := hl
  refine va_new (D := D) (C := RX0) (T := TX0) (N := 5) (ci := 0) (ws := []) (tys := []) (A := fun q => s.heap.size ≤ q) (fs := [.null, .null, .int 0, .int 0, .int 0]) hx hb hts inX0 tyX0 tyX0_ok hown (hts _ u38) (hts _ u39) (hts _ u29) hK (fun k9 q9 h9 => (by cases h9)) ⟨fun i9 j9 p9 q9 h9 => (by cases h9), fun k9 q9 h9 => (by cases h9)⟩ va_S.rf (fun q h => h) rfl (fun j hj => by rcases (show j = 0 ∨ j = 1 ∨ j = 2 ∨ j = 3 ∨ j = 4 by omega) with rfl | rfl | rfl | rfl | rfl <;> rfl) (Nat.le_of_ble_eq_true rfl) (Nat.le_of_ble_eq_true rfl) dL_law_0 (fun a H1 hP1 hD1 hS1 => ?_)
  have hP1 : va_P D vwCl [(a, .inr (0, [.null, .null, .int 0, .int 0, .int 0]))] H1 := hP1
  have ha0 : s.heap.size ≤ a := hD1.2 0 _ rfl
  have ha1 : a < H1.size := (hP1 0 _ rfl).lt
  refine lv_dup hx hb dL_law_3 rfl ?_
  have hfa : ∀ q, (q = a ∨ H1.size ≤ q) → s.heap.size ≤ q := fun q h => by have := hS1.1; omega
  have hBA1 : BA T (fun q => q = a ∨ H1.size ≤ q) s H1 := (hBA.kept hS1.2.1).narrow (fun q h => hfa q h)
  refine va_callv (va_runI (As := []) (rest := [.ref a]) ⟨hx, hb, hml, hown, hts⟩ (p_init l D T a H1.size) (cwI 0 hts (gU (hd := []) (fun _ h => by cases h) u42) rfl rfl rfl (hts _ u29) (hts _ u40) (hts _ u41) rfl (by decide +kernel) ⟨Nat.le_of_ble_eq_true rfl, Nat.le_of_ble_eq_true rfl⟩) ⟨fun aa U g mk q => ⟨q.1, q.2.1, q.2.2.1, q.2.2.2.1, va_K.moved (u := U) (U := U.calling g mk aa) (Vm.Alike.refl U.vm) q.2.2.2.2.1, BA.moved (u := U) (U := U.calling g mk aa) (State.WarmedH.refl U) q.2.2.2.2.2.1, va_AOA.moved (u := U) (U := U.calling g mk aa) (Vm.Alike.refl U.vm) q.2.2.2.2.2.2⟩, fun U hU hW => ⟨rfl, by rw [hU], ha1, by rw [hU]; exact hP1, va_K.moved hW.alike hK, by rw [hU]; exact hBA1.moved hW, va_AOA.moved hW.alike hAO⟩⟩ rfl rfl hl.1 rfl (lv_room (Nat.le_of_ble_eq_true rfl)) dL_law_4 ⟨Nat.le_of_ble_eq_true rfl, Nat.le_of_ble_eq_true rfl⟩) hS1 (fun q _ h => hfa q h) (fun q h => hfa q h) (fun ω t H2 locs2 ht hvm hω hB hz2 hk2 hS2 => ?_)
  obtain ⟨w1, w2, w3, w4, w5⟩ := hω
  obtain ⟨hKω, hCX⟩ := hB
  rw [ht] at hCX
  have hKω := va_K.moved hvm.symm hKω
  refine lv_astore_n (lv' := [(1, .ref a), (0, .ref b)]) hx hb dL_law_7 rfl hl (by decide) rfl (fun ls hl => ?_)
  refine va_forget (fun q9 h9 => hS2.2.2 q9 h9) ?_
  have hS2 : va_S (fun q => s.heap.size ≤ q) s.heap H2 [] := ⟨hS2.1, hS2.2.1, fun _ h => by cases h⟩
  refine va_new (D := D) (C := RX1) (T := TX1) (N := 5) (ci := 1) (ws := []) (tys := []) (A := fun q => H2.size ≤ q) (fs := [.int 0, .int 0, .int 0, .null, .null]) hx hb hts inX1 tyX1 tyX1_ok hown (hts _ u318) (hts _ u319) (hts _ u30) hK (fun k9 q9 h9 => (by cases h9)) ⟨fun i9 j9 p9 q9 h9 => (by cases h9), fun k9 q9 h9 => (by cases h9)⟩ va_S.rf (fun q h => h) rfl (fun j hj => by rcases (show j = 0 ∨ j = 1 ∨ j = 2 ∨ j = 3 ∨ j = 4 by omega) with rfl | rfl | rfl | rfl | rfl <;> rfl) (Nat.le_of_ble_eq_true rfl) (Nat.le_of_ble_eq_true rfl) dL_law_8 (fun a2 H3 hP3 hD3 hS3 => ?_)
  have hP3 : va_P D vwCl [(a2, .inr (1, [.int 0, .int 0, .int 0, .null, .null]))] H3 := hP3
  have hb0 : H2.size ≤ a2 := hD3.2 0 _ rfl
  have hb1 : a2 < H3.size := (hP3 0 _ rfl).lt
  have hS3s := ns_tr hS2 hS3
  have hfb : ∀ q, (q = a2 ∨ H3.size ≤ q) → s.heap.size ≤ q := fun q h => by have := hS2.1; have := hS3.1; omega
  refine lv_dup hx hb dL_law_11 rfl ?_
  refine va_callv (va_runI (As := []) (rest := [.ref a2]) ⟨hx, hb, hml, hown, hts⟩ (m_init l D a2 H3.size) (cwI 0 hts (gU (hd := []) (fun _ h => by cases h) u322) rfl rfl rfl (hts _ u30) (hts _ u320) (hts _ u321) rfl (by decide +kernel) ⟨Nat.le_of_ble_eq_true rfl, Nat.le_of_ble_eq_true rfl⟩) ⟨fun aa U g mk q => ⟨q.1, q.2.1, q.2.2.1, q.2.2.2.1, va_K.moved (u := U) (U := U.calling g mk aa) (Vm.Alike.refl U.vm) q.2.2.2.2⟩, fun U hU hW => ⟨rfl, by rw [hU], hb1, by rw [hU]; exact hP3, va_K.moved hW.alike hK⟩⟩ rfl rfl hl.1 rfl (lv_room (Nat.le_of_ble_eq_true rfl)) dL_law_12 ⟨Nat.le_of_ble_eq_true rfl, Nat.le_of_ble_eq_true rfl⟩) hS3s (fun q _ h => hfb q h) (fun q h => hfb q h) (fun μ t4 H4 locs4 ht4 hvm4 hμ hB4 hz4 hk4 hS4 => ?_)
  obtain ⟨m1, m2, m3, m4⟩ := hμ
  obtain ⟨⟨hKμ, d1, d2, d3⟩, hCM⟩ := hB4
  rw [ht4] at hCM
  have hKμ := va_K.moved hvm4.symm hKμ
  have hCX4 := hCX.keptA (H1 := H4) (fun q g h => (hk4 q (Nat.lt_of_lt_of_le g hS3.1) (by have := hS3.1; omega)).trans (hS3.2.1 q g (by omega)))
  refine lv_astore_n (lv' := [(2, .ref a2), (1, .ref a), (0, .ref b)]) hx hb dL_law_15 rfl hl (by decide) rfl (fun ls hl => ?_)
  refine ix_iconst hx hb dL_law_16 ?_
  refine va_newaK (atype := .long) (N := 1) hx hb (hts _ u451) rfl dL_law_17 rfl (by decide) (by decide) (by decide) (Nat.le_of_ble_eq_true rfl) (Nat.le_of_ble_eq_true rfl) rfl (fun H5 cL e5 z5 o5 hAr hNm => ?_)
  refine W.eq (g2 := F0 m 19 ls [.ref H4.size]) rfl ?_
  refine lv_astore_n (lv' := [(3, .ref H4.size), (2, .ref a2), (1, .ref a), (0, .ref b)]) hx hb dL_law_19 rfl hl (by decide) rfl (fun ls hl => ?_)
  refine ix_iconst hx hb dL_law_20 ?_
  refine lv_istore (lv' := [(4, .int (iI 0)), (3, .ref H4.size), (2, .ref a2), (1, .ref a), (0, .ref b)]) hx hb dL_law_21 hl (by decide) rfl (fun ls hl => ?_)
  have hS5 : va_S (fun q => s.heap.size ≤ q) s.heap H5 locs4 := ⟨by have := hS4.1; omega, fun q g1 g2 => (o5 q (Nat.lt_of_lt_of_le g1 hS4.1)).trans (hS4.2.1 q g1 g2), hS4.2.2⟩
  have hCX5 := hCX4.keptA (H1 := H5) (fun q g h => o5 q g)
  have hCM5 := hCM.kept (H1 := H5) (fun q g h => o5 q g)
  have hxl := hCX.lt
  have hx4 := hCX4.lt
  have hm4 := hCM.lt
  have hAx : ∀ q, Ax ω q → s.heap.size ≤ q := fun q h => by have := w5 q h; have := hS1.1; omega
  have hAm : ∀ q, Am μ q → H2.size ≤ q := fun q h => by
    have := hS3.1
    rcases h with h | h | h <;> omega
  have hDL : DL ω μ cL H4.size s := by
    refine ⟨⟨hKω, w4, ?_⟩, ⟨hKμ, d1, d2, d3⟩, hAr, hAx, fun q h => by have := hAm q h; have := hS2.1; omega, hS4.1, fun q h1 h2 => ?_, fun h => ?_, fun h => ?_⟩
    · rw [w3]; exact hBA
    · have := hxl q h1; have := hAm q h2; omega
    · have := hx4 _ h; omega
    · have := hm4 _ h; omega
  refine W.widen (k := 19) (n := 439) (by decide) (by decide) ?_
  subst w2
  subst m2
  exact l_loop htr hx hb hrt hlocks hml hown hts hX hbl hL hDL ⟨0, fun _ _ => 0, fun _ => 0, fun _ => 0, 0, 0, ⟨by decide, by decide, fun _ _ _ _ => ⟨show (0 : Int) ≤ 0 by decide, show (0 : Int) < kQ 0 by decide⟩⟩, lv_sub hl [0, 4, 3, 2, 1] rfl, hCX5, hCM5, e5, hS5⟩
set_option maxHeartbeats 4000000 in
theorem lw_walk (l : Launch) (htr : l.stackTraces = false) (b : Addr) (xs : List Int32) : MetFree l x (headSpec (Jvm.Cond.code x code maxLocals ret :: tables_1) room_1) (lw_P b xs) (fun _ _ _ _ _ => True) lw_Q := by
  refine MetFree.of_bodyS (code := code) (maxLocals := maxLocals) (ret := ret) (by decide) ?_ ?_
  · intro args s m h hn
    obtain ⟨meth, c, h1, h2, h3, h4, h5, h6, -, -⟩ := Cond.code_spec hn (atoms_spec (ws := Jvm.Cond.code x code maxLocals ret :: tables_1) h _ List.mem_cons_self)
    exact ⟨meth, c, h1, h2, h3, h4, h5, h6⟩
  · intro p e s m args below meth c s₁ B hml0 hP _
    obtain ⟨rfl, hx, hbd, hgv⟩ := hP
    obtain ⟨scr, harrAt, hlist, hof, hsmall⟩ := hx
    obtain ⟨hcb, hkn, -, -⟩ := State.arrayAt?_spec harrAt
    have hown : s.vm.findClass R_law = some m.cls := findClass_of_methodNamed B.named
    have hts0 : ∀ c ∈ (Jvm.Cond.code x code maxLocals ret :: tables_1), c.before #[Value.ref b] s = true := atoms_spec (ws := Jvm.Cond.code x code maxLocals ret :: tables_1) B.pre
    have hts : ∀ w ∈ lw_tbl, w.before #[Value.ref b] s = true := k2_hts_sels lw_privs (fun w hw => hts0 w (List.mem_cons_of_mem _ hw)) lw_privs_ok
    have hml : c.maxLocals = 7 := B.maxLocals_eq (hts0 _ List.mem_cons_self)
    have X₀ : Stand p l e room_1 s m #[Value.ref b] below meth c s₁ [] 0 0 := Stand.of_body B
    have hh0 : s₁.heap = s.heap := by rw [B.state]; rfl
    have hsz : scr.slots.size = xs.length := by rw [← Array.length_toList, hlist, List.length_map]
    have hval : ∀ j : Nat, j < xs.length → scr.slots[j]? = some (.int (xs.getD j 0)) := fun j hj => by
      rw [← Array.getElem?_toList, hlist]
      simp [hj]
    have hbl : b < s.heap.size := (Array.getElem?_eq_some_iff.mp hcb).1
    have hX : va_X b xs.length (fun j => xs.getD j 0) s s.heap := ⟨scr, hcb, hof, hkn, hsz, hval⟩
    have K : W p l e room_1 s m #[Value.ref b] below meth c s₁.heap [] 0 0 (lw_Z below #[Value.ref b] s) (entryFrame m ([Value.ref b] : List Value).toArray 7) := by
      rw [hh0]
      exact whole_start l htr hbd ⟨B.exec, B.bytes, B.returns, hml, hown, hts, hX, hbl, B.notSynchronized, hgv⟩
    obtain ⟨t, a1, o, b1, b2, b3⟩ := K s₁ rfl X₀
    exact ⟨t, o, a1, b1, b2, b3⟩
theorem lw_pre_spec {args : Array Value} {s : State} (h : (Jvm.Cond.and given_1 narrow_1).before args s = true) (hr : rest_1_c.before args s = true) : ∃ (b : Addr) (xs : List Int32), lw_P b xs args s := by
  have hs := flat_of_before _ h
  have hq := flat_of_before _ hr
  have hc : (Cond.count 1).before args s = true := hs _ (by decide +kernel)
  have harr : (Cond.arrayOf (.arg 0) .int).before args s = true := hs _ (by decide +kernel)
  have hle : (Cond.le (.length (.arg 0)) (.int 3584)).before args s = true := hs _ (by decide +kernel)
  have hlen : (Cond.isInt (.length (.arg 0))).before args s = true := hq _ (by decide +kernel)
  have hall : (Cond.all (.arg 0) (.isInt (.elem (.arg 0) (.index 0)))).before args s = true := hq _ (by decide +kernel)
  obtain ⟨b, xs, hb, hx⟩ := State.ints_of_pre rfl harr hlen hall
  have hsm : xs.length < 2 ^ 31 := hx.choose_spec.2.2.2
  have hev : (Term.length (.arg 0)).eval args s none [] s = some (.int xs.length.toInt32) := hx.length_eval hb
  have hv := Cond.le_ints hev (show (Term.int 3584).eval args s none [] s = some (.int 3584) from rfl)
  have hd : xs.length.toInt32 ≤ 3584 := by
    simpa [Cond.before, Cond.holds, hv] using hle
  have hN : xs.length ≤ 3584 := (Int32.ofNat_le_ofNat hsm (by decide)).mp (show Int32.ofNat xs.length ≤ Int32.ofNat 3584 from hd)
  exact ⟨b, xs, Cond.one_arg hc (show args[0]? = some (.ref b) from hb), hx, hN, h⟩
theorem lw_comes (l : Launch) (htr : l.stackTraces = false) : Comes l x (Jvm.Cond.code x code maxLocals ret :: tables_1) room_1 (fun tb e args s => Calls_1 tb e args s ∧ rest_1 tb e args s ∧ Pre_1 tb e args s)
    (fun _ _ args s o t => lw_Q args s o t) := by
  intro p e ha hc hk s m args below hf hfit hheap happ hpre
  obtain ⟨b, xs, hP⟩ := lw_pre_spec hpre.2.2 hpre.2.1
  obtain ⟨k, o, h1, h2, h3, hQ⟩ := lw_walk l htr b xs p e ha hc hk s m args below hf ((Spec.applies_iff_loose hf).mp happ).1 hP trivial
  exact ⟨k, o, h1, h2, h3, hQ⟩
theorem lw_frame {s t : State} {o : Outcome} {args : Array Value} (h : Framed s o t [] 646401 7156900) :
    Framed s o t (fieldLocs frame_1_writes args s ++ arrayLocs frame_1_arrays args s ++ staticLocs frame_1_statics s) 646401 7156900 := h
theorem lw_limb (L : Cond) (hL : ∀ (args : Array Value) (s t : State), L.after args s (.returned (some (.int 1))) t = true) :
    ArmFor flags0 classFile x code maxLocals ret World_1 tables_1 room_1 Calls_1 rest_1 Pre_1
      (fun tb e a s o t => postC L tb e a s o t ∧ Framed s o t (fieldLocs frame_1_writes a s ++ arrayLocs frame_1_arrays a s ++ staticLocs frame_1_statics s) 646401 7156900) := by
  intro l hfl _ _ p e ha hc hk s m args below hf hfit hheap happ hpre
  obtain ⟨k, o, h1, h2, h3, rfl, hF⟩ := lw_comes l (show l.stackTraces = false by unfold Launch.stackTraces; rw [hfl]; decide +kernel) p e ha hc hk s m args below hf hfit hheap happ hpre
  exact ⟨k, _, h1, h2, h3, hL args s _, lw_frame hF⟩
theorem i_vc : Claimed_1_1 ∧ Claimed_1_2 := ⟨lw_limb limb_1_1 (fun args s t => by simp [limb_1_1, Cond.after, Cond.holds, Cond.value]), lw_limb limb_1_2 (fun args s t => Cond.after_iff.mpr (by
  first | (rw [show limb_1_2 = Cond.eq .result (.int 1) from rfl, Cond.eq_ints (x := 1) (y := 1) rfl rfl]; simp; done) | (simp [limb_1_2, Cond.value, Term.eval]; done)))⟩

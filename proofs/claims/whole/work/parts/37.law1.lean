/-! The law's cases, by program (wip/gen/law.py). -/
def pk (x y : Int32) : Int64 := (x.toInt64 <<< ((iI 32).toInt64 &&& 63)) ||| (y.toInt64 &&& 4294967295)
def DL (ω : WX) (μ : WM) (cL : ClassId) (ou : Nat) (s : State) : Prop :=
  (va_K ω.1 vwCl [(oI ω, .int), (oC ω, .array .int)] s ∧ oD ω ∧ BA (oT ω) (fun q => s.heap.size ≤ q) s s.heap) ∧ (va_K μ.1 vwCl [(nI_ μ, .int)] s ∧ mo μ ≠ mg μ ∧ mo μ ≠ md μ ∧ mg μ ≠ md μ) ∧ ArrOfT s cL .long ∧ (∀ q, Ax ω q → s.heap.size ≤ q) ∧ (∀ q, Am μ q → s.heap.size ≤ q) ∧ s.heap.size ≤ ou ∧ (∀ q, Ax ω q → ¬ Am μ q) ∧ ¬ Ax ω ou ∧ ¬ Am μ ou
def WL (ω : WX) (μ : WM) (cL : ClassId) (ou b : Nat) (s : State) (n : Nat) (ls : Array Slot) (H : Heap) (locs : List Loc) : Prop :=
  ∃ (k : Int) (M : Nat → Nat → Int) (wk f : Nat → Int) (th : Int) (o : Int64), (0 ≤ k ∧ k ≤ 1 ∧ ∀ r i, r < 12 → i < 16 → 0 ≤ M r i ∧ M r i < kQ k) ∧ lv_has ls 7 [(4, .int (iI ((n : Nat)))), (0, .ref b), (1, .ref (ox ω)), (2, .ref (mo μ)), (3, .ref ou)] ∧ CX ω k (kQ k) (kZ k) M wk H ∧ CM μ th k (kQ k) M f H ∧ OU cL ou o H ∧ va_S (fun q => s.heap.size ≤ q) s.heap H locs
theorem DL.gx {ω : WX} {μ : WM} {cL : ClassId} {ou : Nat} {s : State} {H : Heap} {locs : List Loc} {k q z : Int} {M : Nat → Nat → Int} {wk : Nat → Int} (hD : DL ω μ cL ou s) (hS : va_S (fun q => s.heap.size ≤ q) s.heap H locs) (hC : CX ω k q z M wk H) : GX ω k q z M wk s H :=
  ⟨⟨hD.1.1, BA.to rfl hD.2.2.2.1 (hD.1.2.2.kept hS.2.1), hD.1.2.1⟩, hC⟩
theorem DL.gm {ω : WX} {μ : WM} {cL : ClassId} {ou : Nat} {s : State} {H : Heap} {th k q : Int} {M : Nat → Nat → Int} {f : Nat → Int} (hD : DL ω μ cL ou s) (hC : CM μ th k q M f H) : GM μ th k q M f s H := ⟨hD.2.1, hC⟩
theorem kQ_odd (k : Int) : kQ k % 2 = 1 := by unfold kQ; split <;> rfl
theorem bd_join {M : Nat → Nat → Int} {q op : Int} {a b to : Nat} (hq : 0 < q) (hM : ∀ r i, r < 12 → i < 16 → 0 ≤ M r i ∧ M r i < q) : ∀ r i, r < 12 → i < 16 → 0 ≤ mixR M to (fun i => sJoin q op (M a) (M b) i) 16 r i ∧ mixR M to (fun i => sJoin q op (M a) (M b) i) 16 r i < q := mixR_in hM (fun i _ => by
  show 0 ≤ sJoin q op (M a) (M b) i ∧ sJoin q op (M a) (M b) i < q
  unfold sJoin
  split
  · exact ⟨Int.emod_nonneg _ (by omega), Int.emod_lt_of_pos _ (by omega)⟩
  · split
    · exact ⟨Int.emod_nonneg _ (by omega), Int.emod_lt_of_pos _ (by omega)⟩
    · exact ⟨Int.emod_nonneg _ (by omega), Int.emod_lt_of_pos _ (by omega)⟩)
theorem bd_round {M : Nat → Nat → Int} {k op : Int} {a d to : Nat} (ha : a < 12) (d1 : 1 ≤ d) (d2 : (d : Int) ≤ kD k) (hM : ∀ r i, r < 12 → i < 16 → 0 ≤ M r i ∧ M r i < kQ k) : ∀ r i, r < 12 → i < 16 → 0 ≤ mixR M to (fun i => sRound (kQ k) op (M a i) d) 16 r i ∧ mixR M to (fun i => sRound (kQ k) op (M a i) d) 16 r i < kQ k := mixR_in hM (fun i hi => sRound_lt (hM a i ha hi).1 (hM a i ha hi).2 d1 d2)
theorem bd_part {M : Nat → Nat → Int} {q al hi : Int} {a to : Nat} (hq : 1 < q) (ha : a < 12) (hal : sAli q al = 1) (hM : ∀ r i, r < 12 → i < 16 → 0 ≤ M r i ∧ M r i < q) : ∀ r i, r < 12 → i < 16 → 0 ≤ mixR M to (fun i => if hi = 0 then sRest q (M a i) al % q else sPart q (M a i) al) 16 r i ∧ mixR M to (fun i => if hi = 0 then sRest q (M a i) al % q else sPart q (M a i) al) 16 r i < q := mixR_in hM (fun i hi9 => by
  have h0 := sAl_lt hq (sAl_of hal)
  have h9 := hM a i ha hi9
  have h8 := sPart_lt (q := q) (x := M a i) (a := al) h9.1 h9.2 h0.1 h0.2
  have h7 := Int.emod_nonneg (sRest q (M a i) al) (show q ≠ 0 by omega)
  have h6 := Int.emod_lt_of_pos (sRest q (M a i) al) (show 0 < q by omega)
  show 0 ≤ (if hi = 0 then _ else _) ∧ (if hi = 0 then _ else _) < q
  split <;> omega)
theorem bd_hint {M : Nat → Nat → Int} {q al : Int} {a b to : Nat} (hq : 1 < q) (hM : ∀ r i, r < 12 → i < 16 → 0 ≤ M r i ∧ M r i < q) : ∀ r i, r < 12 → i < 16 → 0 ≤ mixR M to (fun i => sHint q al (M a i) (M b i)) 16 r i ∧ mixR M to (fun i => sHint q al (M a i) (M b i)) 16 r i < q := mixR_in hM (fun i _ => sHint_lt hq)
theorem bd_use {M : Nat → Nat → Int} {q al : Int} {a b to : Nat} (hq : 1 < q) (ha : a < 12) (hal : sAli q al = 1) (hM : ∀ r i, r < 12 → i < 16 → 0 ≤ M r i ∧ M r i < q) : ∀ r i, r < 12 → i < 16 → 0 ≤ mixR M to (fun i => sUse q al (M a i) (M b i)) 16 r i ∧ mixR M to (fun i => sUse q al (M a i) (M b i)) 16 r i < q := mixR_in hM (fun i hi9 => by
  have h00 := sAl_of hal
  have h0 := sAl_lt hq h00
  have h9 := hM a i ha hi9
  have h8 := sPart_lt (q := q) (x := M a i) (a := al) h9.1 h9.2 h0.1 h0.2
  have h7 := sMov_lt (q := q) (x := M a i) (a := al) (by omega) (by omega) h00.2.2
  show 0 ≤ sUse q al (M a i) (M b i) ∧ sUse q al (M a i) (M b i) < q
  unfold sUse
  split <;> omega)
theorem bd_noise {M : Nat → Nat → Int} {q : Int} {low high : Int64} {eta to : Nat} (hq : 0 < q) (hM : ∀ r i, r < 12 → i < 16 → 0 ≤ M r i ∧ M r i < q) : ∀ r i, r < 12 → i < 16 → 0 ≤ mixR M to (fun i => sNoise q low high eta i) 16 r i ∧ mixR M to (fun i => sNoise q low high eta i) 16 r i < q := mixR_in hM (fun i _ => ⟨Int.emod_nonneg _ (by omega), Int.emod_lt_of_pos _ (by omega)⟩)
theorem bd_set {M : Nat → Nat → Int} {q v : Int} {r0 i0 : Nat} (hq : 0 < q) (hM : ∀ r i, r < 12 → i < 16 → 0 ≤ M r i ∧ M r i < q) : ∀ r i, r < 12 → i < 16 → 0 ≤ upR M r0 (upI (M r0) i0 (v % q)) r i ∧ upR M r0 (upI (M r0) i0 (v % q)) r i < q := by
  intro r i hr hi
  unfold upR
  split
  · next h =>
    unfold upI
    split
    · exact ⟨Int.emod_nonneg _ (by omega), Int.emod_lt_of_pos _ hq⟩
    · rw [← h]; exact hM r i hr hi
  · exact hM r i hr hi
set_option maxHeartbeats 4000000 in
set_option maxRecDepth 100000 in
theorem l_begin {p : Program} {l : Launch} {e : Env} {s : State} {m : MethodId} {args : Array Value} {below : List Frame} {meth : Method} {c : Code} {H : Heap} {locs : List Loc} {cells slots : Nat} {Q : State → Prop} {ls : Array Slot} {b L n : Nat} {xs : Nat → Int32} {ω : WX} {μ : WM} {cL : ClassId} {ou : Nat} (htr : l.stackTraces = false) (hx : p.tables.exec = Jvm.exec) (hb : c.code = cL_law) (hml : c.maxLocals = 7) (hown : s.vm.findClass "NoiseRingLaw" = some m.cls) (hts : ∀ w ∈ wsU, w.before args s = true) (hX : va_X b L xs s s.heap) (hbl : b < s.heap.size) (hL : L ≤ 3584) (hD : DL ω μ cL ou s) (hn : n + 7 ≤ L) (hw : WL ω μ cL ou b s n ls H locs) (hc : cells + 4 ≤ 646401) (hsl : slots + 24 ≤ 7156900)
    (kk : ∀ (ls' : Array Slot) (H' : Heap) (locs' : List Loc), WL ω μ cL ou b s n ls' H' locs' → W p l e room_1 s m args below meth c H' locs' (cells + 4) (slots + 24) Q (F0 m 1230 ls' [])) : W p l e room_1 s m args below meth c H locs cells slots Q (F0 m 112 ls []) := by
  obtain ⟨k, M, wk, f, th, o, ⟨k1, k2, hM⟩, hl, hCX, hCM, hO, hS⟩ := hw
  obtain ⟨hq1, hq2⟩ := kQ_in (k := k)
  have qo := kQ_odd k
  have hG := hD.gx hS hCX
  have hGM := hD.gm hCM
  have hAw : ∀ q9, Aw ω ou q9 → s.heap.size ≤ q9 := fun q9 h => h.elim (hD.2.2.2.1 q9) (fun e9 => by rw [e9]; exact hD.2.2.2.2.2.1)
  obtain ⟨v1, ⟨v1a, v1b⟩, e1⟩ := iI_of (xs (n + 1))
  have hl : lv_has ls 7 [(4, .int (iI ((n : Nat)))), (0, .ref (b)), (1, .ref (ox ω)), (2, .ref (mo μ)), (3, .ref (ou))] := hl
  refine lv_aload_n hx hb dL_law_112 rfl (lv_at hl 2 rfl) ?_
  refine lv_aload_n hx hb dL_law_113 rfl (lv_at hl 1 rfl) ?_
  refine lv_iload hx hb dL_law_114 (lv_at hl 0 rfl) ?_
  refine ix_iconst hx hb dL_law_116 ?_
  refine ix_iadd hx hb dL_law_117 ?_
  refine wx_i (congrArg iI (show ((n : Nat) : Int) + 1 = ((n + 1 : Nat) : Int) by omega)) ?_
  refine sc_ld hx hb hX hbl hS (n := n + 1) (by omega) hL e1 dL_law_118 ?_
  refine lv_aload_n hx hb dL_law_119 rfl (lv_at hl 4 rfl) ?_
  refine va_calli (vx_runSW (As := [.ref (ox ω), .int (iI (v1)), .ref (ou)]) (rest := []) ⟨hx, hb, hml, hown, hts⟩ (w_begin l htr ω cL ou o hD.2.2.2.2.2.2.2.1 k (kQ k) (kZ k) M wk v1 v1a v1b hq1 hq2 hM) (vx_cwSW 3 hts (gU (hd := [.methodLink "NoiseRingLaw" 63 yL_begin, .static yL_begin, .initialized "NoiseRingLaw"]) (List.forall_mem_cons.mpr ⟨u82, List.forall_mem_cons.mpr ⟨u83, List.forall_mem_cons.mpr ⟨u28, fun _ h => by cases h⟩⟩⟩) u84) rfl rfl rfl (by decide +kernel) ⟨Nat.le_of_ble_eq_true rfl, Nat.le_of_ble_eq_true rfl⟩) (gw_S hG hD.2.2.1 hO) rfl rfl hl.1 rfl (lv_room (Nat.le_of_ble_eq_true rfl)) dL_law_120 ⟨by show _ ≤ 646401; omega, by show _ ≤ 7156900; omega⟩) hS (fun q9 _ h => hAw q9 h) (fun q9 h => hAw q9 h) (fun r u t H1 locs1 ht hvm hp hB hz hk hS1 => ?_)
  obtain ⟨hp, rfl⟩ := hp
  have hCM1 : CM μ th k (kQ k) M f H1 := hCM.kept (fun a9 g9 h9 => hk a9 g9 (fun e9 => e9.elim (fun e9 => hD.2.2.2.2.2.2.1 a9 e9 h9) (fun e9 => hD.2.2.2.2.2.2.2.2 (e9 ▸ h9))))
  have hGM := hD.gm hCM1
  have hS := hS1
  refine lv_istore (lv' := [(5, .int (iI (u.1))), (4, .int (iI ((n : Nat)))), (0, .ref (b)), (1, .ref (ox ω)), (2, .ref (mo μ)), (3, .ref (ou))]) hx hb dL_law_123 hl (by decide) rfl (fun ls hl => ?_)
  refine lv_aload_n hx hb dL_law_125 rfl (lv_at hl 4 rfl) ?_
  refine lv_aload_n hx hb dL_law_126 rfl (lv_at hl 2 rfl) ?_
  refine lv_iload hx hb dL_law_127 (lv_at hl 1 rfl) ?_
  refine ix_iconst hx hb dL_law_129 ?_
  refine ix_iadd hx hb dL_law_130 ?_
  refine wx_i (congrArg iI (show ((n : Nat) : Int) + 1 = ((n + 1 : Nat) : Int) by omega)) ?_
  refine sc_ld hx hb hX hbl hS (n := n + 1) (by omega) hL e1 dL_law_131 ?_
  refine va_calli (va_runV (As := [.int (iI (v1))]) (rest := []) ⟨hx, hb, hml, hown, hts⟩ (m_begin l μ th k (kQ k) M f v1 v1a v1b) (cwV 1 hts (gU (hd := [.methodLink "NoiseRingLaw" 68 yX1_begin, .instanceMethod yX1_begin, .selects "NoiseRingModel" yX1_begin yX1_begin, .initialized "NoiseRingModel"]) (List.forall_mem_cons.mpr ⟨u344, List.forall_mem_cons.mpr ⟨u345, List.forall_mem_cons.mpr ⟨u346, List.forall_mem_cons.mpr ⟨u30, fun _ h => by cases h⟩⟩⟩⟩) u347) rfl rfl rfl (by decide +kernel) ⟨Nat.le_of_ble_eq_true rfl, Nat.le_of_ble_eq_true rfl⟩) (gm_V hGM) rfl rfl hl.1 rfl (lv_room (Nat.le_of_ble_eq_true rfl)) dL_law_132 ⟨by show _ ≤ 646401; omega, by show _ ≤ 7156900; omega⟩) hS (fun q9 _ h => hD.2.2.2.2.1 q9 h) (fun q9 h => hD.2.2.2.2.1 q9 h) (fun r2 u2 t2 H2 locs2 ht2 hvm2 hp2 hB2 hz2 hk2 hS2 => ?_)
  rcases hp with ⟨hok, h0⟩ | ⟨hb1, h0⟩
  · rcases hp2 with ⟨hok2, g0, rfl⟩ | ⟨hb12, g0⟩
    · skip
      have hC1 := hB.1 h0
      have hC2 := hB2.1 g0
      rw [ht2] at hC2
      rw [ht] at hC1
      rw [h0] at hl
      have hCX2 := hC1.1.keptA (fun a9 g9 h9 => hk2 a9 g9 (hD.2.2.2.2.2.2.1 a9 h9))
      have hO2 : OU cL ou _ H2 := (hk2 ou (Array.getElem?_eq_some_iff.mp hC1.2).1 hD.2.2.2.2.2.2.2.2).trans hC1.2
      have hGM2 := hD.gm hC2
      have hl : lv_has ls 7 [(5, .int (iI (0))), (4, .int (iI ((n : Nat)))), (0, .ref (b)), (1, .ref (ox ω)), (2, .ref (mo μ)), (3, .ref (ou))] := hl
      refine lv_istore (lv' := [(6, .int (iI (kQ v1))), (5, .int (iI (0))), (4, .int (iI ((n : Nat)))), (0, .ref (b)), (1, .ref (ox ω)), (2, .ref (mo μ)), (3, .ref (ou))]) hx hb dL_law_135 hl (by decide) rfl (fun ls hl => ?_)
      refine lv_aload_n hx hb dL_law_137 rfl (lv_at hl 5 rfl) ?_
      refine vp_callSi (va_Run.run (va_runV (As := []) (rest := []) ⟨hx, hb, hml, hown, hts⟩ (m_thrown l μ 0 v1 (kQ v1) (zM M 192) u2.2) (cwV 0 hts (gU (hd := [.methodLink "NoiseRingLaw" 69 yX1_thrown, .instanceMethod yX1_thrown, .selects "NoiseRingModel" yX1_thrown yX1_thrown, .initialized "NoiseRingModel"]) (List.forall_mem_cons.mpr ⟨u340, List.forall_mem_cons.mpr ⟨u341, List.forall_mem_cons.mpr ⟨u342, List.forall_mem_cons.mpr ⟨u30, fun _ h => by cases h⟩⟩⟩⟩) u343) rfl rfl rfl (by decide +kernel) ⟨Nat.le_of_ble_eq_true rfl, Nat.le_of_ble_eq_true rfl⟩) (gm_V hGM2) rfl rfl hl.1 rfl (lv_room (Nat.le_of_ble_eq_true rfl)) dL_law_138 ⟨by show _ ≤ 646401; omega, by show _ ≤ 7156900; omega⟩)) (fun r9 hr9 => ?_)
      subst hr9
      refine lv_iload hx hb dL_law_141 (lv_at hl 1 rfl) ?_
      refine ix_icmp_eq (tgt := 148) hx hb (by omega) (by omega) (by omega) (by omega) dL_law_143 (by decide) (fun h143 => ?_) (fun h143 => absurd h143 (by omega))
      refine lv_iload hx hb dL_law_148 (lv_at hl 1 rfl) ?_
      refine ix_if_ne (tgt := 165) hx hb (by omega) (by omega) dL_law_150 (by decide) (fun h150 => absurd h150 (by omega)) (fun h150 => ?_)
      refine lv_aload_n hx hb dL_law_153 rfl (lv_at hl 6 rfl) ?_
      refine ix_iconst hx hb dL_law_154 ?_
      refine ou_ld hx hb hO2 hD.2.2.1 dL_law_155 ?_
      refine lv_iload hx hb dL_law_156 (lv_at hl 0 rfl) ?_
      refine lv_i2l hx hb dL_law_158 rfl ?_
      refine lx_same (tgt := 165) hx hb dL_law_159 dL_law_160 (by decide) ?_
      refine lv_goto (tgt := 1230) hx hb dL_law_165 (by decide) ?_
      refine W.widen (k := cells + 4) (n := slots + 24) (by omega) (by omega) ?_
      exact kk ls _ _ ⟨v1, (zM M 192), u.2, u2.2, 0, _, ⟨by omega, by omega, zM_in (q := 1) (by have := kQ_in (k := v1); omega) rfl⟩, lv_sub hl [2, 3, 4, 5, 6] rfl, hCX2, hC2, hO2, hS2⟩
    · exfalso; omega
  · rcases hp2 with ⟨hok2, g0, rfl⟩ | ⟨hb12, g0⟩
    · exfalso; omega
    · skip
      have hC1 := hB.2 (by rw [h0]; decide)
      have hC2 := hB2.2 (by rw [g0]; decide)
      rw [ht2, g0] at hC2
      rw [ht] at hC1
      rw [h0] at hl
      have hCX2 := hC1.1.keptA (fun a9 g9 h9 => hk2 a9 g9 (hD.2.2.2.2.2.2.1 a9 h9))
      have hO2 : OU cL ou _ H2 := (hk2 ou (Array.getElem?_eq_some_iff.mp hC1.2).1 hD.2.2.2.2.2.2.2.2).trans hC1.2
      have hGM2 := hD.gm hC2
      have hl : lv_has ls 7 [(5, .int (iI (1))), (4, .int (iI ((n : Nat)))), (0, .ref (b)), (1, .ref (ox ω)), (2, .ref (mo μ)), (3, .ref (ou))] := hl
      refine lv_istore (lv' := [(6, .int (r2)), (5, .int (iI (1))), (4, .int (iI ((n : Nat)))), (0, .ref (b)), (1, .ref (ox ω)), (2, .ref (mo μ)), (3, .ref (ou))]) hx hb dL_law_135 hl (by decide) rfl (fun ls hl => ?_)
      refine lv_aload_n hx hb dL_law_137 rfl (lv_at hl 5 rfl) ?_
      refine vp_callSi (va_Run.run (va_runV (As := []) (rest := []) ⟨hx, hb, hml, hown, hts⟩ (m_thrown l μ 1 k (kQ k) M u2.2) (cwV 0 hts (gU (hd := [.methodLink "NoiseRingLaw" 69 yX1_thrown, .instanceMethod yX1_thrown, .selects "NoiseRingModel" yX1_thrown yX1_thrown, .initialized "NoiseRingModel"]) (List.forall_mem_cons.mpr ⟨u340, List.forall_mem_cons.mpr ⟨u341, List.forall_mem_cons.mpr ⟨u342, List.forall_mem_cons.mpr ⟨u30, fun _ h => by cases h⟩⟩⟩⟩) u343) rfl rfl rfl (by decide +kernel) ⟨Nat.le_of_ble_eq_true rfl, Nat.le_of_ble_eq_true rfl⟩) (gm_V hGM2) rfl rfl hl.1 rfl (lv_room (Nat.le_of_ble_eq_true rfl)) dL_law_138 ⟨by show _ ≤ 646401; omega, by show _ ≤ 7156900; omega⟩)) (fun r9 hr9 => ?_)
      subst hr9
      refine lv_iload hx hb dL_law_141 (lv_at hl 1 rfl) ?_
      refine ix_icmp_eq (tgt := 148) hx hb (by omega) (by omega) (by omega) (by omega) dL_law_143 (by decide) (fun h143 => ?_) (fun h143 => absurd h143 (by omega))
      refine lv_iload hx hb dL_law_148 (lv_at hl 1 rfl) ?_
      refine ix_if_ne (tgt := 165) hx hb (by omega) (by omega) dL_law_150 (by decide) (fun h150 => ?_) (fun h150 => absurd h150 (by omega))
      refine lv_goto (tgt := 1230) hx hb dL_law_165 (by decide) ?_
      refine W.widen (k := cells + 4) (n := slots + 24) (by omega) (by omega) ?_
      exact kk ls _ _ ⟨k, M, u.2, u2.2, 1, _, ⟨k1, k2, hM⟩, lv_sub hl [2, 3, 4, 5, 6] rfl, hCX2, hC2, hO2, hS2⟩
set_option maxHeartbeats 4000000 in
set_option maxRecDepth 100000 in
theorem l_set {p : Program} {l : Launch} {e : Env} {s : State} {m : MethodId} {args : Array Value} {below : List Frame} {meth : Method} {c : Code} {H : Heap} {locs : List Loc} {cells slots : Nat} {Q : State → Prop} {ls : Array Slot} {b L n : Nat} {xs : Nat → Int32} {ω : WX} {μ : WM} {cL : ClassId} {ou : Nat} (htr : l.stackTraces = false) (hx : p.tables.exec = Jvm.exec) (hb : c.code = cL_law) (hml : c.maxLocals = 7) (hown : s.vm.findClass "NoiseRingLaw" = some m.cls) (hts : ∀ w ∈ wsU, w.before args s = true) (hX : va_X b L xs s s.heap) (hbl : b < s.heap.size) (hL : L ≤ 3584) (hD : DL ω μ cL ou s) (hn : n + 7 ≤ L) (hw : WL ω μ cL ou b s n ls H locs) (hc : cells + 4 ≤ 646401) (hsl : slots + 24 ≤ 7156900)
    (kk : ∀ (ls' : Array Slot) (H' : Heap) (locs' : List Loc), WL ω μ cL ou b s n ls' H' locs' → W p l e room_1 s m args below meth c H' locs' (cells + 4) (slots + 24) Q (F0 m 1230 ls' [])) : W p l e room_1 s m args below meth c H locs cells slots Q (F0 m 168 ls []) := by
  obtain ⟨k, M, wk, f, th, o, ⟨k1, k2, hM⟩, hl, hCX, hCM, hO, hS⟩ := hw
  obtain ⟨hq1, hq2⟩ := kQ_in (k := k)
  have qo := kQ_odd k
  have hG := hD.gx hS hCX
  have hGM := hD.gm hCM
  have hAw : ∀ q9, Aw ω ou q9 → s.heap.size ≤ q9 := fun q9 h => h.elim (hD.2.2.2.1 q9) (fun e9 => by rw [e9]; exact hD.2.2.2.2.2.1)
  obtain ⟨v1, ⟨v1a, v1b⟩, e1⟩ := iI_of (xs (n + 1))
  obtain ⟨v2, ⟨v2a, v2b⟩, e2⟩ := iI_of (xs (n + 2))
  obtain ⟨v3, ⟨v3a, v3b⟩, e3⟩ := iI_of (xs (n + 3))
  have hl : lv_has ls 7 [(4, .int (iI ((n : Nat)))), (0, .ref (b)), (1, .ref (ox ω)), (2, .ref (mo μ)), (3, .ref (ou))] := hl
  refine lv_aload_n hx hb dL_law_168 rfl (lv_at hl 2 rfl) ?_
  refine lv_aload_n hx hb dL_law_169 rfl (lv_at hl 1 rfl) ?_
  refine lv_iload hx hb dL_law_170 (lv_at hl 0 rfl) ?_
  refine ix_iconst hx hb dL_law_172 ?_
  refine ix_iadd hx hb dL_law_173 ?_
  refine wx_i (congrArg iI (show ((n : Nat) : Int) + 1 = ((n + 1 : Nat) : Int) by omega)) ?_
  refine sc_ld hx hb hX hbl hS (n := n + 1) (by omega) hL e1 dL_law_174 ?_
  refine lv_aload_n hx hb dL_law_175 rfl (lv_at hl 1 rfl) ?_
  refine lv_iload hx hb dL_law_176 (lv_at hl 0 rfl) ?_
  refine ix_iconst hx hb dL_law_178 ?_
  refine ix_iadd hx hb dL_law_179 ?_
  refine wx_i (congrArg iI (show ((n : Nat) : Int) + 2 = ((n + 2 : Nat) : Int) by omega)) ?_
  refine sc_ld hx hb hX hbl hS (n := n + 2) (by omega) hL e2 dL_law_180 ?_
  refine lv_aload_n hx hb dL_law_181 rfl (lv_at hl 1 rfl) ?_
  refine lv_iload hx hb dL_law_182 (lv_at hl 0 rfl) ?_
  refine ix_iconst hx hb dL_law_184 ?_
  refine ix_iadd hx hb dL_law_185 ?_
  refine wx_i (congrArg iI (show ((n : Nat) : Int) + 3 = ((n + 3 : Nat) : Int) by omega)) ?_
  refine sc_ld hx hb hX hbl hS (n := n + 3) (by omega) hL e3 dL_law_186 ?_
  refine lv_aload_n hx hb dL_law_187 rfl (lv_at hl 4 rfl) ?_
  refine va_calli (vx_runSW (As := [.ref (ox ω), .int (iI (v1)), .int (iI (v2)), .int (iI (v3)), .ref (ou)]) (rest := []) ⟨hx, hb, hml, hown, hts⟩ (w_set l htr ω cL ou o hD.2.2.2.2.2.2.2.1 k (kQ k) (kZ k) M wk v1 v2 v3 v1a v1b v2a v2b v3a v3b hq1 hq2 hM) (vx_cwSW 5 hts (gU (hd := [.methodLink "NoiseRingLaw" 73 yL_set, .static yL_set, .initialized "NoiseRingLaw"]) (List.forall_mem_cons.mpr ⟨u147, List.forall_mem_cons.mpr ⟨u148, List.forall_mem_cons.mpr ⟨u28, fun _ h => by cases h⟩⟩⟩) u149) rfl rfl rfl (by decide +kernel) ⟨Nat.le_of_ble_eq_true rfl, Nat.le_of_ble_eq_true rfl⟩) (gw_S hG hD.2.2.1 hO) rfl rfl hl.1 rfl (lv_room (Nat.le_of_ble_eq_true rfl)) dL_law_188 ⟨by show _ ≤ 646401; omega, by show _ ≤ 7156900; omega⟩) hS (fun q9 _ h => hAw q9 h) (fun q9 h => hAw q9 h) (fun r u t H1 locs1 ht hvm hp hB hz hk hS1 => ?_)
  obtain ⟨hp, rfl⟩ := hp
  have hCM1 : CM μ th k (kQ k) M f H1 := hCM.kept (fun a9 g9 h9 => hk a9 g9 (fun e9 => e9.elim (fun e9 => hD.2.2.2.2.2.2.1 a9 e9 h9) (fun e9 => hD.2.2.2.2.2.2.2.2 (e9 ▸ h9))))
  have hGM := hD.gm hCM1
  have hS := hS1
  refine lv_istore (lv' := [(5, .int (iI (u.1))), (4, .int (iI ((n : Nat)))), (0, .ref (b)), (1, .ref (ox ω)), (2, .ref (mo μ)), (3, .ref (ou))]) hx hb dL_law_191 hl (by decide) rfl (fun ls hl => ?_)
  refine lv_aload_n hx hb dL_law_193 rfl (lv_at hl 4 rfl) ?_
  refine lv_aload_n hx hb dL_law_194 rfl (lv_at hl 2 rfl) ?_
  refine lv_iload hx hb dL_law_195 (lv_at hl 1 rfl) ?_
  refine ix_iconst hx hb dL_law_197 ?_
  refine ix_iadd hx hb dL_law_198 ?_
  refine wx_i (congrArg iI (show ((n : Nat) : Int) + 1 = ((n + 1 : Nat) : Int) by omega)) ?_
  refine sc_ld hx hb hX hbl hS (n := n + 1) (by omega) hL e1 dL_law_199 ?_
  refine lv_aload_n hx hb dL_law_200 rfl (lv_at hl 2 rfl) ?_
  refine lv_iload hx hb dL_law_201 (lv_at hl 1 rfl) ?_
  refine ix_iconst hx hb dL_law_203 ?_
  refine ix_iadd hx hb dL_law_204 ?_
  refine wx_i (congrArg iI (show ((n : Nat) : Int) + 2 = ((n + 2 : Nat) : Int) by omega)) ?_
  refine sc_ld hx hb hX hbl hS (n := n + 2) (by omega) hL e2 dL_law_205 ?_
  refine lv_aload_n hx hb dL_law_206 rfl (lv_at hl 2 rfl) ?_
  refine lv_iload hx hb dL_law_207 (lv_at hl 1 rfl) ?_
  refine ix_iconst hx hb dL_law_209 ?_
  refine ix_iadd hx hb dL_law_210 ?_
  refine wx_i (congrArg iI (show ((n : Nat) : Int) + 3 = ((n + 3 : Nat) : Int) by omega)) ?_
  refine sc_ld hx hb hX hbl hS (n := n + 3) (by omega) hL e3 dL_law_211 ?_
  refine va_calli (va_runV (As := [.int (iI (v1)), .int (iI (v2)), .int (iI (v3))]) (rest := []) ⟨hx, hb, hml, hown, hts⟩ (m_set l μ th k (kQ k) M f v1 v2 v3 v1a v1b v2a v2b v3a v3b hq1 hq2) (cwV 3 hts (gU (hd := [.methodLink "NoiseRingLaw" 76 yX1_set, .instanceMethod yX1_set, .selects "NoiseRingModel" yX1_set yX1_set, .initialized "NoiseRingModel"]) (List.forall_mem_cons.mpr ⟨u349, List.forall_mem_cons.mpr ⟨u350, List.forall_mem_cons.mpr ⟨u351, List.forall_mem_cons.mpr ⟨u30, fun _ h => by cases h⟩⟩⟩⟩) u352) rfl rfl rfl (by decide +kernel) ⟨Nat.le_of_ble_eq_true rfl, Nat.le_of_ble_eq_true rfl⟩) (gm_V hGM) rfl rfl hl.1 rfl (lv_room (Nat.le_of_ble_eq_true rfl)) dL_law_212 ⟨by show _ ≤ 646401; omega, by show _ ≤ 7156900; omega⟩) hS (fun q9 _ h => hD.2.2.2.2.1 q9 h) (fun q9 h => hD.2.2.2.2.1 q9 h) (fun r2 u2 t2 H2 locs2 ht2 hvm2 hp2 hB2 hz2 hk2 hS2 => ?_)
  rcases hp with ⟨hok, h0⟩ | ⟨hb1, h0⟩
  · rcases hp2 with ⟨hok2, g0, rfl⟩ | ⟨hb12, g0⟩
    · skip
      have hC1 := hB.1 h0
      have hC2 := hB2.1 g0
      rw [ht2] at hC2
      rw [ht] at hC1
      rw [h0] at hl
      have hCX2 := hC1.1.keptA (fun a9 g9 h9 => hk2 a9 g9 (hD.2.2.2.2.2.2.1 a9 h9))
      have hO2 : OU cL ou _ H2 := (hk2 ou (Array.getElem?_eq_some_iff.mp hC1.2).1 hD.2.2.2.2.2.2.2.2).trans hC1.2
      have hGM2 := hD.gm hC2
      have hl : lv_has ls 7 [(5, .int (iI (0))), (4, .int (iI ((n : Nat)))), (0, .ref (b)), (1, .ref (ox ω)), (2, .ref (mo μ)), (3, .ref (ou))] := hl
      refine lv_istore (lv' := [(6, .int (iI (M v1.toNat v2.toNat))), (5, .int (iI (0))), (4, .int (iI ((n : Nat)))), (0, .ref (b)), (1, .ref (ox ω)), (2, .ref (mo μ)), (3, .ref (ou))]) hx hb dL_law_215 hl (by decide) rfl (fun ls hl => ?_)
      refine lv_aload_n hx hb dL_law_217 rfl (lv_at hl 5 rfl) ?_
      refine vp_callSi (va_Run.run (va_runV (As := []) (rest := []) ⟨hx, hb, hml, hown, hts⟩ (m_thrown l μ 0 k (kQ k) (upR M v1.toNat (upI (M v1.toNat) v2.toNat (v3 % (kQ k)))) u2.2) (cwV 0 hts (gU (hd := [.methodLink "NoiseRingLaw" 69 yX1_thrown, .instanceMethod yX1_thrown, .selects "NoiseRingModel" yX1_thrown yX1_thrown, .initialized "NoiseRingModel"]) (List.forall_mem_cons.mpr ⟨u340, List.forall_mem_cons.mpr ⟨u341, List.forall_mem_cons.mpr ⟨u342, List.forall_mem_cons.mpr ⟨u30, fun _ h => by cases h⟩⟩⟩⟩) u343) rfl rfl rfl (by decide +kernel) ⟨Nat.le_of_ble_eq_true rfl, Nat.le_of_ble_eq_true rfl⟩) (gm_V hGM2) rfl rfl hl.1 rfl (lv_room (Nat.le_of_ble_eq_true rfl)) dL_law_218 ⟨by show _ ≤ 646401; omega, by show _ ≤ 7156900; omega⟩)) (fun r9 hr9 => ?_)
      subst hr9
      refine lv_iload hx hb dL_law_221 (lv_at hl 1 rfl) ?_
      refine ix_icmp_eq (tgt := 228) hx hb (by omega) (by omega) (by omega) (by omega) dL_law_223 (by decide) (fun h223 => ?_) (fun h223 => absurd h223 (by omega))
      refine lv_iload hx hb dL_law_228 (lv_at hl 1 rfl) ?_
      refine ix_if_ne (tgt := 245) hx hb (by omega) (by omega) dL_law_230 (by decide) (fun h230 => absurd h230 (by omega)) (fun h230 => ?_)
      refine lv_aload_n hx hb dL_law_233 rfl (lv_at hl 6 rfl) ?_
      refine ix_iconst hx hb dL_law_234 ?_
      refine ou_ld hx hb hO2 hD.2.2.1 dL_law_235 ?_
      refine lv_iload hx hb dL_law_236 (lv_at hl 0 rfl) ?_
      refine lv_i2l hx hb dL_law_238 rfl ?_
      refine lx_same (tgt := 245) hx hb dL_law_239 dL_law_240 (by decide) ?_
      refine lv_goto (tgt := 1230) hx hb dL_law_245 (by decide) ?_
      refine W.widen (k := cells + 4) (n := slots + 24) (by omega) (by omega) ?_
      exact kk ls _ _ ⟨k, (upR M v1.toNat (upI (M v1.toNat) v2.toNat (v3 % (kQ k)))), u.2, u2.2, 0, _, ⟨by omega, by omega, bd_set (by omega) hM⟩, lv_sub hl [2, 3, 4, 5, 6] rfl, hCX2, hC2, hO2, hS2⟩
    · exfalso; omega
  · rcases hp2 with ⟨hok2, g0, rfl⟩ | ⟨hb12, g0⟩
    · exfalso; omega
    · skip
      have hC1 := hB.2 (by rw [h0]; decide)
      have hC2 := hB2.2 (by rw [g0]; decide)
      rw [ht2, g0] at hC2
      rw [ht] at hC1
      rw [h0] at hl
      have hCX2 := hC1.1.keptA (fun a9 g9 h9 => hk2 a9 g9 (hD.2.2.2.2.2.2.1 a9 h9))
      have hO2 : OU cL ou _ H2 := (hk2 ou (Array.getElem?_eq_some_iff.mp hC1.2).1 hD.2.2.2.2.2.2.2.2).trans hC1.2
      have hGM2 := hD.gm hC2
      have hl : lv_has ls 7 [(5, .int (iI (1))), (4, .int (iI ((n : Nat)))), (0, .ref (b)), (1, .ref (ox ω)), (2, .ref (mo μ)), (3, .ref (ou))] := hl
      refine lv_istore (lv' := [(6, .int (r2)), (5, .int (iI (1))), (4, .int (iI ((n : Nat)))), (0, .ref (b)), (1, .ref (ox ω)), (2, .ref (mo μ)), (3, .ref (ou))]) hx hb dL_law_215 hl (by decide) rfl (fun ls hl => ?_)
      refine lv_aload_n hx hb dL_law_217 rfl (lv_at hl 5 rfl) ?_
      refine vp_callSi (va_Run.run (va_runV (As := []) (rest := []) ⟨hx, hb, hml, hown, hts⟩ (m_thrown l μ 1 k (kQ k) M u2.2) (cwV 0 hts (gU (hd := [.methodLink "NoiseRingLaw" 69 yX1_thrown, .instanceMethod yX1_thrown, .selects "NoiseRingModel" yX1_thrown yX1_thrown, .initialized "NoiseRingModel"]) (List.forall_mem_cons.mpr ⟨u340, List.forall_mem_cons.mpr ⟨u341, List.forall_mem_cons.mpr ⟨u342, List.forall_mem_cons.mpr ⟨u30, fun _ h => by cases h⟩⟩⟩⟩) u343) rfl rfl rfl (by decide +kernel) ⟨Nat.le_of_ble_eq_true rfl, Nat.le_of_ble_eq_true rfl⟩) (gm_V hGM2) rfl rfl hl.1 rfl (lv_room (Nat.le_of_ble_eq_true rfl)) dL_law_218 ⟨by show _ ≤ 646401; omega, by show _ ≤ 7156900; omega⟩)) (fun r9 hr9 => ?_)
      subst hr9
      refine lv_iload hx hb dL_law_221 (lv_at hl 1 rfl) ?_
      refine ix_icmp_eq (tgt := 228) hx hb (by omega) (by omega) (by omega) (by omega) dL_law_223 (by decide) (fun h223 => ?_) (fun h223 => absurd h223 (by omega))
      refine lv_iload hx hb dL_law_228 (lv_at hl 1 rfl) ?_
      refine ix_if_ne (tgt := 245) hx hb (by omega) (by omega) dL_law_230 (by decide) (fun h230 => ?_) (fun h230 => absurd h230 (by omega))
      refine lv_goto (tgt := 1230) hx hb dL_law_245 (by decide) ?_
      refine W.widen (k := cells + 4) (n := slots + 24) (by omega) (by omega) ?_
      exact kk ls _ _ ⟨k, M, u.2, u2.2, 1, _, ⟨k1, k2, hM⟩, lv_sub hl [2, 3, 4, 5, 6] rfl, hCX2, hC2, hO2, hS2⟩
set_option maxHeartbeats 4000000 in
set_option maxRecDepth 100000 in
theorem l_get {p : Program} {l : Launch} {e : Env} {s : State} {m : MethodId} {args : Array Value} {below : List Frame} {meth : Method} {c : Code} {H : Heap} {locs : List Loc} {cells slots : Nat} {Q : State → Prop} {ls : Array Slot} {b L n : Nat} {xs : Nat → Int32} {ω : WX} {μ : WM} {cL : ClassId} {ou : Nat} (htr : l.stackTraces = false) (hx : p.tables.exec = Jvm.exec) (hb : c.code = cL_law) (hml : c.maxLocals = 7) (hown : s.vm.findClass "NoiseRingLaw" = some m.cls) (hts : ∀ w ∈ wsU, w.before args s = true) (hX : va_X b L xs s s.heap) (hbl : b < s.heap.size) (hL : L ≤ 3584) (hD : DL ω μ cL ou s) (hn : n + 7 ≤ L) (hw : WL ω μ cL ou b s n ls H locs) (hc : cells + 4 ≤ 646401) (hsl : slots + 24 ≤ 7156900)
    (kk : ∀ (ls' : Array Slot) (H' : Heap) (locs' : List Loc), WL ω μ cL ou b s n ls' H' locs' → W p l e room_1 s m args below meth c H' locs' (cells + 4) (slots + 24) Q (F0 m 1230 ls' [])) : W p l e room_1 s m args below meth c H locs cells slots Q (F0 m 248 ls []) := by
  obtain ⟨k, M, wk, f, th, o, ⟨k1, k2, hM⟩, hl, hCX, hCM, hO, hS⟩ := hw
  obtain ⟨hq1, hq2⟩ := kQ_in (k := k)
  have qo := kQ_odd k
  have hG := hD.gx hS hCX
  have hGM := hD.gm hCM
  have hAw : ∀ q9, Aw ω ou q9 → s.heap.size ≤ q9 := fun q9 h => h.elim (hD.2.2.2.1 q9) (fun e9 => by rw [e9]; exact hD.2.2.2.2.2.1)
  obtain ⟨v1, ⟨v1a, v1b⟩, e1⟩ := iI_of (xs (n + 1))
  obtain ⟨v2, ⟨v2a, v2b⟩, e2⟩ := iI_of (xs (n + 2))
  have hl : lv_has ls 7 [(4, .int (iI ((n : Nat)))), (0, .ref (b)), (1, .ref (ox ω)), (2, .ref (mo μ)), (3, .ref (ou))] := hl
  refine lv_aload_n hx hb dL_law_248 rfl (lv_at hl 2 rfl) ?_
  refine lv_aload_n hx hb dL_law_249 rfl (lv_at hl 1 rfl) ?_
  refine lv_iload hx hb dL_law_250 (lv_at hl 0 rfl) ?_
  refine ix_iconst hx hb dL_law_252 ?_
  refine ix_iadd hx hb dL_law_253 ?_
  refine wx_i (congrArg iI (show ((n : Nat) : Int) + 1 = ((n + 1 : Nat) : Int) by omega)) ?_
  refine sc_ld hx hb hX hbl hS (n := n + 1) (by omega) hL e1 dL_law_254 ?_
  refine lv_aload_n hx hb dL_law_255 rfl (lv_at hl 1 rfl) ?_
  refine lv_iload hx hb dL_law_256 (lv_at hl 0 rfl) ?_
  refine ix_iconst hx hb dL_law_258 ?_
  refine ix_iadd hx hb dL_law_259 ?_
  refine wx_i (congrArg iI (show ((n : Nat) : Int) + 2 = ((n + 2 : Nat) : Int) by omega)) ?_
  refine sc_ld hx hb hX hbl hS (n := n + 2) (by omega) hL e2 dL_law_260 ?_
  refine lv_aload_n hx hb dL_law_261 rfl (lv_at hl 4 rfl) ?_
  refine va_calli (vx_runSW (As := [.ref (ox ω), .int (iI (v1)), .int (iI (v2)), .ref (ou)]) (rest := []) ⟨hx, hb, hml, hown, hts⟩ (w_get l htr ω cL ou o hD.2.2.2.2.2.2.2.1 k (kQ k) (kZ k) M wk v1 v2 v1a v1b v2a v2b hq1 hq2 hM) (vx_cwSW 4 hts (gU (hd := [.methodLink "NoiseRingLaw" 77 yL_get, .static yL_get, .initialized "NoiseRingLaw"]) (List.forall_mem_cons.mpr ⟨u178, List.forall_mem_cons.mpr ⟨u179, List.forall_mem_cons.mpr ⟨u28, fun _ h => by cases h⟩⟩⟩) u180) rfl rfl rfl (by decide +kernel) ⟨Nat.le_of_ble_eq_true rfl, Nat.le_of_ble_eq_true rfl⟩) (gw_S hG hD.2.2.1 hO) rfl rfl hl.1 rfl (lv_room (Nat.le_of_ble_eq_true rfl)) dL_law_262 ⟨by show _ ≤ 646401; omega, by show _ ≤ 7156900; omega⟩) hS (fun q9 _ h => hAw q9 h) (fun q9 h => hAw q9 h) (fun r u t H1 locs1 ht hvm hp hB hz hk hS1 => ?_)
  obtain ⟨hp, rfl⟩ := hp
  have hCM1 : CM μ th k (kQ k) M f H1 := hCM.kept (fun a9 g9 h9 => hk a9 g9 (fun e9 => e9.elim (fun e9 => hD.2.2.2.2.2.2.1 a9 e9 h9) (fun e9 => hD.2.2.2.2.2.2.2.2 (e9 ▸ h9))))
  have hGM := hD.gm hCM1
  have hS := hS1
  refine lv_istore (lv' := [(5, .int (iI (u.1))), (4, .int (iI ((n : Nat)))), (0, .ref (b)), (1, .ref (ox ω)), (2, .ref (mo μ)), (3, .ref (ou))]) hx hb dL_law_265 hl (by decide) rfl (fun ls hl => ?_)
  refine lv_aload_n hx hb dL_law_267 rfl (lv_at hl 4 rfl) ?_
  refine lv_aload_n hx hb dL_law_268 rfl (lv_at hl 2 rfl) ?_
  refine lv_iload hx hb dL_law_269 (lv_at hl 1 rfl) ?_
  refine ix_iconst hx hb dL_law_271 ?_
  refine ix_iadd hx hb dL_law_272 ?_
  refine wx_i (congrArg iI (show ((n : Nat) : Int) + 1 = ((n + 1 : Nat) : Int) by omega)) ?_
  refine sc_ld hx hb hX hbl hS (n := n + 1) (by omega) hL e1 dL_law_273 ?_
  refine lv_aload_n hx hb dL_law_274 rfl (lv_at hl 2 rfl) ?_
  refine lv_iload hx hb dL_law_275 (lv_at hl 1 rfl) ?_
  refine ix_iconst hx hb dL_law_277 ?_
  refine ix_iadd hx hb dL_law_278 ?_
  refine wx_i (congrArg iI (show ((n : Nat) : Int) + 2 = ((n + 2 : Nat) : Int) by omega)) ?_
  refine sc_ld hx hb hX hbl hS (n := n + 2) (by omega) hL e2 dL_law_279 ?_
  refine va_calli (va_runV (As := [.int (iI (v1)), .int (iI (v2))]) (rest := []) ⟨hx, hb, hml, hown, hts⟩ (m_get l μ th k (kQ k) M f v1 v2 v1a v1b v2a v2b) (cwV 2 hts (gU (hd := [.methodLink "NoiseRingLaw" 80 yX1_get, .instanceMethod yX1_get, .selects "NoiseRingModel" yX1_get yX1_get, .initialized "NoiseRingModel"]) (List.forall_mem_cons.mpr ⟨u363, List.forall_mem_cons.mpr ⟨u364, List.forall_mem_cons.mpr ⟨u365, List.forall_mem_cons.mpr ⟨u30, fun _ h => by cases h⟩⟩⟩⟩) u366) rfl rfl rfl (by decide +kernel) ⟨Nat.le_of_ble_eq_true rfl, Nat.le_of_ble_eq_true rfl⟩) (gm_V hGM) rfl rfl hl.1 rfl (lv_room (Nat.le_of_ble_eq_true rfl)) dL_law_280 ⟨by show _ ≤ 646401; omega, by show _ ≤ 7156900; omega⟩) hS (fun q9 _ h => hD.2.2.2.2.1 q9 h) (fun q9 h => hD.2.2.2.2.1 q9 h) (fun r2 u2 t2 H2 locs2 ht2 hvm2 hp2 hB2 hz2 hk2 hS2 => ?_)
  rcases hp with ⟨hok, h0⟩ | ⟨hb1, h0⟩
  · rcases hp2 with ⟨hok2, g0, rfl⟩ | ⟨hb12, g0⟩
    · skip
      have hC1 := hB.1 h0
      have hC2 := hB2.1 g0
      rw [ht2] at hC2
      rw [ht] at hC1
      rw [h0] at hl
      have hCX2 := hC1.1.keptA (fun a9 g9 h9 => hk2 a9 g9 (hD.2.2.2.2.2.2.1 a9 h9))
      have hO2 : OU cL ou _ H2 := (hk2 ou (Array.getElem?_eq_some_iff.mp hC1.2).1 hD.2.2.2.2.2.2.2.2).trans hC1.2
      have hGM2 := hD.gm hC2
      have hl : lv_has ls 7 [(5, .int (iI (0))), (4, .int (iI ((n : Nat)))), (0, .ref (b)), (1, .ref (ox ω)), (2, .ref (mo μ)), (3, .ref (ou))] := hl
      refine lv_istore (lv' := [(6, .int (iI (M v1.toNat v2.toNat))), (5, .int (iI (0))), (4, .int (iI ((n : Nat)))), (0, .ref (b)), (1, .ref (ox ω)), (2, .ref (mo μ)), (3, .ref (ou))]) hx hb dL_law_283 hl (by decide) rfl (fun ls hl => ?_)
      refine lv_aload_n hx hb dL_law_285 rfl (lv_at hl 5 rfl) ?_
      refine vp_callSi (va_Run.run (va_runV (As := []) (rest := []) ⟨hx, hb, hml, hown, hts⟩ (m_thrown l μ 0 k (kQ k) M u2.2) (cwV 0 hts (gU (hd := [.methodLink "NoiseRingLaw" 69 yX1_thrown, .instanceMethod yX1_thrown, .selects "NoiseRingModel" yX1_thrown yX1_thrown, .initialized "NoiseRingModel"]) (List.forall_mem_cons.mpr ⟨u340, List.forall_mem_cons.mpr ⟨u341, List.forall_mem_cons.mpr ⟨u342, List.forall_mem_cons.mpr ⟨u30, fun _ h => by cases h⟩⟩⟩⟩) u343) rfl rfl rfl (by decide +kernel) ⟨Nat.le_of_ble_eq_true rfl, Nat.le_of_ble_eq_true rfl⟩) (gm_V hGM2) rfl rfl hl.1 rfl (lv_room (Nat.le_of_ble_eq_true rfl)) dL_law_286 ⟨by show _ ≤ 646401; omega, by show _ ≤ 7156900; omega⟩)) (fun r9 hr9 => ?_)
      subst hr9
      refine lv_iload hx hb dL_law_289 (lv_at hl 1 rfl) ?_
      refine ix_icmp_eq (tgt := 296) hx hb (by omega) (by omega) (by omega) (by omega) dL_law_291 (by decide) (fun h291 => ?_) (fun h291 => absurd h291 (by omega))
      refine lv_iload hx hb dL_law_296 (lv_at hl 1 rfl) ?_
      refine ix_if_ne (tgt := 313) hx hb (by omega) (by omega) dL_law_298 (by decide) (fun h298 => absurd h298 (by omega)) (fun h298 => ?_)
      refine lv_aload_n hx hb dL_law_301 rfl (lv_at hl 6 rfl) ?_
      refine ix_iconst hx hb dL_law_302 ?_
      refine ou_ld hx hb hO2 hD.2.2.1 dL_law_303 ?_
      refine lv_iload hx hb dL_law_304 (lv_at hl 0 rfl) ?_
      refine lv_i2l hx hb dL_law_306 rfl ?_
      refine lx_same (tgt := 313) hx hb dL_law_307 dL_law_308 (by decide) ?_
      refine lv_goto (tgt := 1230) hx hb dL_law_313 (by decide) ?_
      refine W.widen (k := cells + 4) (n := slots + 24) (by omega) (by omega) ?_
      exact kk ls _ _ ⟨k, M, u.2, u2.2, 0, _, ⟨by omega, by omega, hM⟩, lv_sub hl [2, 3, 4, 5, 6] rfl, hCX2, hC2, hO2, hS2⟩
    · exfalso; omega
  · rcases hp2 with ⟨hok2, g0, rfl⟩ | ⟨hb12, g0⟩
    · exfalso; omega
    · skip
      have hC1 := hB.2 (by rw [h0]; decide)
      have hC2 := hB2.2 (by rw [g0]; decide)
      rw [ht2, g0] at hC2
      rw [ht] at hC1
      rw [h0] at hl
      have hCX2 := hC1.1.keptA (fun a9 g9 h9 => hk2 a9 g9 (hD.2.2.2.2.2.2.1 a9 h9))
      have hO2 : OU cL ou _ H2 := (hk2 ou (Array.getElem?_eq_some_iff.mp hC1.2).1 hD.2.2.2.2.2.2.2.2).trans hC1.2
      have hGM2 := hD.gm hC2
      have hl : lv_has ls 7 [(5, .int (iI (1))), (4, .int (iI ((n : Nat)))), (0, .ref (b)), (1, .ref (ox ω)), (2, .ref (mo μ)), (3, .ref (ou))] := hl
      refine lv_istore (lv' := [(6, .int (r2)), (5, .int (iI (1))), (4, .int (iI ((n : Nat)))), (0, .ref (b)), (1, .ref (ox ω)), (2, .ref (mo μ)), (3, .ref (ou))]) hx hb dL_law_283 hl (by decide) rfl (fun ls hl => ?_)
      refine lv_aload_n hx hb dL_law_285 rfl (lv_at hl 5 rfl) ?_
      refine vp_callSi (va_Run.run (va_runV (As := []) (rest := []) ⟨hx, hb, hml, hown, hts⟩ (m_thrown l μ 1 k (kQ k) M u2.2) (cwV 0 hts (gU (hd := [.methodLink "NoiseRingLaw" 69 yX1_thrown, .instanceMethod yX1_thrown, .selects "NoiseRingModel" yX1_thrown yX1_thrown, .initialized "NoiseRingModel"]) (List.forall_mem_cons.mpr ⟨u340, List.forall_mem_cons.mpr ⟨u341, List.forall_mem_cons.mpr ⟨u342, List.forall_mem_cons.mpr ⟨u30, fun _ h => by cases h⟩⟩⟩⟩) u343) rfl rfl rfl (by decide +kernel) ⟨Nat.le_of_ble_eq_true rfl, Nat.le_of_ble_eq_true rfl⟩) (gm_V hGM2) rfl rfl hl.1 rfl (lv_room (Nat.le_of_ble_eq_true rfl)) dL_law_286 ⟨by show _ ≤ 646401; omega, by show _ ≤ 7156900; omega⟩)) (fun r9 hr9 => ?_)
      subst hr9
      refine lv_iload hx hb dL_law_289 (lv_at hl 1 rfl) ?_
      refine ix_icmp_eq (tgt := 296) hx hb (by omega) (by omega) (by omega) (by omega) dL_law_291 (by decide) (fun h291 => ?_) (fun h291 => absurd h291 (by omega))
      refine lv_iload hx hb dL_law_296 (lv_at hl 1 rfl) ?_
      refine ix_if_ne (tgt := 313) hx hb (by omega) (by omega) dL_law_298 (by decide) (fun h298 => ?_) (fun h298 => absurd h298 (by omega))
      refine lv_goto (tgt := 1230) hx hb dL_law_313 (by decide) ?_
      refine W.widen (k := cells + 4) (n := slots + 24) (by omega) (by omega) ?_
      exact kk ls _ _ ⟨k, M, u.2, u2.2, 1, _, ⟨k1, k2, hM⟩, lv_sub hl [2, 3, 4, 5, 6] rfl, hCX2, hC2, hO2, hS2⟩
set_option maxHeartbeats 4000000 in
set_option maxRecDepth 100000 in
theorem l_join {p : Program} {l : Launch} {e : Env} {s : State} {m : MethodId} {args : Array Value} {below : List Frame} {meth : Method} {c : Code} {H : Heap} {locs : List Loc} {cells slots : Nat} {Q : State → Prop} {ls : Array Slot} {b L n : Nat} {xs : Nat → Int32} {ω : WX} {μ : WM} {cL : ClassId} {ou : Nat} (htr : l.stackTraces = false) (hx : p.tables.exec = Jvm.exec) (hb : c.code = cL_law) (hml : c.maxLocals = 7) (hown : s.vm.findClass "NoiseRingLaw" = some m.cls) (hts : ∀ w ∈ wsU, w.before args s = true) (hX : va_X b L xs s s.heap) (hbl : b < s.heap.size) (hL : L ≤ 3584) (hD : DL ω μ cL ou s) (hn : n + 7 ≤ L) (hw : WL ω μ cL ou b s n ls H locs) (hc : cells + 4 ≤ 646401) (hsl : slots + 24 ≤ 7156900)
    (kk : ∀ (ls' : Array Slot) (H' : Heap) (locs' : List Loc), WL ω μ cL ou b s n ls' H' locs' → W p l e room_1 s m args below meth c H' locs' (cells + 4) (slots + 24) Q (F0 m 1230 ls' [])) : W p l e room_1 s m args below meth c H locs cells slots Q (F0 m 316 ls []) := by
  obtain ⟨k, M, wk, f, th, o, ⟨k1, k2, hM⟩, hl, hCX, hCM, hO, hS⟩ := hw
  obtain ⟨hq1, hq2⟩ := kQ_in (k := k)
  have qo := kQ_odd k
  have hG := hD.gx hS hCX
  have hGM := hD.gm hCM
  have hAw : ∀ q9, Aw ω ou q9 → s.heap.size ≤ q9 := fun q9 h => h.elim (hD.2.2.2.1 q9) (fun e9 => by rw [e9]; exact hD.2.2.2.2.2.1)
  obtain ⟨v1, ⟨v1a, v1b⟩, e1⟩ := iI_of (xs (n + 1))
  obtain ⟨v2, ⟨v2a, v2b⟩, e2⟩ := iI_of (xs (n + 2))
  obtain ⟨v3, ⟨v3a, v3b⟩, e3⟩ := iI_of (xs (n + 3))
  obtain ⟨v4, ⟨v4a, v4b⟩, e4⟩ := iI_of (xs (n + 4))
  have hl : lv_has ls 7 [(4, .int (iI ((n : Nat)))), (0, .ref (b)), (1, .ref (ox ω)), (2, .ref (mo μ)), (3, .ref (ou))] := hl
  refine lv_aload_n hx hb dL_law_316 rfl (lv_at hl 2 rfl) ?_
  refine lv_aload_n hx hb dL_law_317 rfl (lv_at hl 1 rfl) ?_
  refine lv_iload hx hb dL_law_318 (lv_at hl 0 rfl) ?_
  refine ix_iconst hx hb dL_law_320 ?_
  refine ix_iadd hx hb dL_law_321 ?_
  refine wx_i (congrArg iI (show ((n : Nat) : Int) + 1 = ((n + 1 : Nat) : Int) by omega)) ?_
  refine sc_ld hx hb hX hbl hS (n := n + 1) (by omega) hL e1 dL_law_322 ?_
  refine lv_aload_n hx hb dL_law_323 rfl (lv_at hl 1 rfl) ?_
  refine lv_iload hx hb dL_law_324 (lv_at hl 0 rfl) ?_
  refine ix_iconst hx hb dL_law_326 ?_
  refine ix_iadd hx hb dL_law_327 ?_
  refine wx_i (congrArg iI (show ((n : Nat) : Int) + 2 = ((n + 2 : Nat) : Int) by omega)) ?_
  refine sc_ld hx hb hX hbl hS (n := n + 2) (by omega) hL e2 dL_law_328 ?_
  refine lv_aload_n hx hb dL_law_329 rfl (lv_at hl 1 rfl) ?_
  refine lv_iload hx hb dL_law_330 (lv_at hl 0 rfl) ?_
  refine ix_iconst hx hb dL_law_332 ?_
  refine ix_iadd hx hb dL_law_333 ?_
  refine wx_i (congrArg iI (show ((n : Nat) : Int) + 3 = ((n + 3 : Nat) : Int) by omega)) ?_
  refine sc_ld hx hb hX hbl hS (n := n + 3) (by omega) hL e3 dL_law_334 ?_
  refine lv_aload_n hx hb dL_law_335 rfl (lv_at hl 1 rfl) ?_
  refine lv_iload hx hb dL_law_336 (lv_at hl 0 rfl) ?_
  refine ix_iconst hx hb dL_law_338 ?_
  refine ix_iadd hx hb dL_law_339 ?_
  refine wx_i (congrArg iI (show ((n : Nat) : Int) + 4 = ((n + 4 : Nat) : Int) by omega)) ?_
  refine sc_ld hx hb hX hbl hS (n := n + 4) (by omega) hL e4 dL_law_340 ?_
  refine lv_aload_n hx hb dL_law_341 rfl (lv_at hl 4 rfl) ?_
  refine va_calli (vx_runSW (As := [.ref (ox ω), .int (iI (v1)), .int (iI (v2)), .int (iI (v3)), .int (iI (v4)), .ref (ou)]) (rest := []) ⟨hx, hb, hml, hown, hts⟩ (w_join l htr ω cL ou o hD.2.2.2.2.2.2.2.1 k (kQ k) (kZ k) M wk v1 v2 v3 v4 v1a v1b v2a v2b v3a v3b v4a v4b hq1 hq2 hM) (vx_cwSW 6 hts (gU (hd := [.methodLink "NoiseRingLaw" 81 yL_join, .static yL_join, .initialized "NoiseRingLaw"]) (List.forall_mem_cons.mpr ⟨u185, List.forall_mem_cons.mpr ⟨u186, List.forall_mem_cons.mpr ⟨u28, fun _ h => by cases h⟩⟩⟩) u187) rfl rfl rfl (by decide +kernel) ⟨Nat.le_of_ble_eq_true rfl, Nat.le_of_ble_eq_true rfl⟩) (gw_S hG hD.2.2.1 hO) rfl rfl hl.1 rfl (lv_room (Nat.le_of_ble_eq_true rfl)) dL_law_342 ⟨by show _ ≤ 646401; omega, by show _ ≤ 7156900; omega⟩) hS (fun q9 _ h => hAw q9 h) (fun q9 h => hAw q9 h) (fun r u t H1 locs1 ht hvm hp hB hz hk hS1 => ?_)
  obtain ⟨hp, rfl⟩ := hp
  have hCM1 : CM μ th k (kQ k) M f H1 := hCM.kept (fun a9 g9 h9 => hk a9 g9 (fun e9 => e9.elim (fun e9 => hD.2.2.2.2.2.2.1 a9 e9 h9) (fun e9 => hD.2.2.2.2.2.2.2.2 (e9 ▸ h9))))
  have hGM := hD.gm hCM1
  have hS := hS1
  refine lv_istore (lv' := [(5, .int (iI (u.1))), (4, .int (iI ((n : Nat)))), (0, .ref (b)), (1, .ref (ox ω)), (2, .ref (mo μ)), (3, .ref (ou))]) hx hb dL_law_345 hl (by decide) rfl (fun ls hl => ?_)
  refine lv_aload_n hx hb dL_law_347 rfl (lv_at hl 4 rfl) ?_
  refine lv_aload_n hx hb dL_law_348 rfl (lv_at hl 2 rfl) ?_
  refine lv_iload hx hb dL_law_349 (lv_at hl 1 rfl) ?_
  refine ix_iconst hx hb dL_law_351 ?_
  refine ix_iadd hx hb dL_law_352 ?_
  refine wx_i (congrArg iI (show ((n : Nat) : Int) + 1 = ((n + 1 : Nat) : Int) by omega)) ?_
  refine sc_ld hx hb hX hbl hS (n := n + 1) (by omega) hL e1 dL_law_353 ?_
  refine lv_aload_n hx hb dL_law_354 rfl (lv_at hl 2 rfl) ?_
  refine lv_iload hx hb dL_law_355 (lv_at hl 1 rfl) ?_
  refine ix_iconst hx hb dL_law_357 ?_
  refine ix_iadd hx hb dL_law_358 ?_
  refine wx_i (congrArg iI (show ((n : Nat) : Int) + 2 = ((n + 2 : Nat) : Int) by omega)) ?_
  refine sc_ld hx hb hX hbl hS (n := n + 2) (by omega) hL e2 dL_law_359 ?_
  refine lv_aload_n hx hb dL_law_360 rfl (lv_at hl 2 rfl) ?_
  refine lv_iload hx hb dL_law_361 (lv_at hl 1 rfl) ?_
  refine ix_iconst hx hb dL_law_363 ?_
  refine ix_iadd hx hb dL_law_364 ?_
  refine wx_i (congrArg iI (show ((n : Nat) : Int) + 3 = ((n + 3 : Nat) : Int) by omega)) ?_
  refine sc_ld hx hb hX hbl hS (n := n + 3) (by omega) hL e3 dL_law_365 ?_
  refine lv_aload_n hx hb dL_law_366 rfl (lv_at hl 2 rfl) ?_
  refine lv_iload hx hb dL_law_367 (lv_at hl 1 rfl) ?_
  refine ix_iconst hx hb dL_law_369 ?_
  refine ix_iadd hx hb dL_law_370 ?_
  refine wx_i (congrArg iI (show ((n : Nat) : Int) + 4 = ((n + 4 : Nat) : Int) by omega)) ?_
  refine sc_ld hx hb hX hbl hS (n := n + 4) (by omega) hL e4 dL_law_371 ?_
  refine va_calli (va_runV (As := [.int (iI (v1)), .int (iI (v2)), .int (iI (v3)), .int (iI (v4))]) (rest := []) ⟨hx, hb, hml, hown, hts⟩ (m_join l μ th k (kQ k) M f v1 v2 v3 v4 v1a v1b v2a v2b v3a v3b v4a v4b hq1 hq2 qo hM) (cwV 4 hts (gU (hd := [.methodLink "NoiseRingLaw" 84 yX1_join, .instanceMethod yX1_join, .selects "NoiseRingModel" yX1_join yX1_join, .initialized "NoiseRingModel"]) (List.forall_mem_cons.mpr ⟨u367, List.forall_mem_cons.mpr ⟨u368, List.forall_mem_cons.mpr ⟨u369, List.forall_mem_cons.mpr ⟨u30, fun _ h => by cases h⟩⟩⟩⟩) u370) rfl rfl rfl (by decide +kernel) ⟨Nat.le_of_ble_eq_true rfl, Nat.le_of_ble_eq_true rfl⟩) (gm_V hGM) rfl rfl hl.1 rfl (lv_room (Nat.le_of_ble_eq_true rfl)) dL_law_372 ⟨by show _ ≤ 646401; omega, by show _ ≤ 7156900; omega⟩) hS (fun q9 _ h => hD.2.2.2.2.1 q9 h) (fun q9 h => hD.2.2.2.2.1 q9 h) (fun r2 u2 t2 H2 locs2 ht2 hvm2 hp2 hB2 hz2 hk2 hS2 => ?_)
  rcases hp with ⟨hok, h0⟩ | ⟨hb1, h0⟩ | ⟨hb2, h0⟩
  · rcases hp2 with ⟨hok2, g0, rfl⟩ | ⟨hb12, g0⟩ | ⟨hb22, g0⟩
    · skip
      have hC1 := hB.1 h0
      have hC2 := hB2.1 g0
      rw [ht2] at hC2
      rw [ht] at hC1
      rw [h0] at hl
      have hCX2 := hC1.1.keptA (fun a9 g9 h9 => hk2 a9 g9 (hD.2.2.2.2.2.2.1 a9 h9))
      have hO2 : OU cL ou _ H2 := (hk2 ou (Array.getElem?_eq_some_iff.mp hC1.2).1 hD.2.2.2.2.2.2.2.2).trans hC1.2
      have hGM2 := hD.gm hC2
      have hl : lv_has ls 7 [(5, .int (iI (0))), (4, .int (iI ((n : Nat)))), (0, .ref (b)), (1, .ref (ox ω)), (2, .ref (mo μ)), (3, .ref (ou))] := hl
      refine lv_istore (lv' := [(6, .int (iI (sMax (kQ k) (fun i => sJoin (kQ k) v2 (M v3.toNat) (M v4.toNat) i) 16))), (5, .int (iI (0))), (4, .int (iI ((n : Nat)))), (0, .ref (b)), (1, .ref (ox ω)), (2, .ref (mo μ)), (3, .ref (ou))]) hx hb dL_law_375 hl (by decide) rfl (fun ls hl => ?_)
      refine lv_aload_n hx hb dL_law_377 rfl (lv_at hl 5 rfl) ?_
      refine vp_callSi (va_Run.run (va_runV (As := []) (rest := []) ⟨hx, hb, hml, hown, hts⟩ (m_thrown l μ 0 k (kQ k) (mixR M v1.toNat (fun i => sJoin (kQ k) v2 (M v3.toNat) (M v4.toNat) i) 16) u2.2) (cwV 0 hts (gU (hd := [.methodLink "NoiseRingLaw" 69 yX1_thrown, .instanceMethod yX1_thrown, .selects "NoiseRingModel" yX1_thrown yX1_thrown, .initialized "NoiseRingModel"]) (List.forall_mem_cons.mpr ⟨u340, List.forall_mem_cons.mpr ⟨u341, List.forall_mem_cons.mpr ⟨u342, List.forall_mem_cons.mpr ⟨u30, fun _ h => by cases h⟩⟩⟩⟩) u343) rfl rfl rfl (by decide +kernel) ⟨Nat.le_of_ble_eq_true rfl, Nat.le_of_ble_eq_true rfl⟩) (gm_V hGM2) rfl rfl hl.1 rfl (lv_room (Nat.le_of_ble_eq_true rfl)) dL_law_378 ⟨by show _ ≤ 646401; omega, by show _ ≤ 7156900; omega⟩)) (fun r9 hr9 => ?_)
      subst hr9
      refine lv_iload hx hb dL_law_381 (lv_at hl 1 rfl) ?_
      refine ix_icmp_eq (tgt := 388) hx hb (by omega) (by omega) (by omega) (by omega) dL_law_383 (by decide) (fun h383 => ?_) (fun h383 => absurd h383 (by omega))
      refine lv_iload hx hb dL_law_388 (lv_at hl 1 rfl) ?_
      refine ix_if_ne (tgt := 405) hx hb (by omega) (by omega) dL_law_390 (by decide) (fun h390 => absurd h390 (by omega)) (fun h390 => ?_)
      refine lv_aload_n hx hb dL_law_393 rfl (lv_at hl 6 rfl) ?_
      refine ix_iconst hx hb dL_law_394 ?_
      refine ou_ld hx hb hO2 hD.2.2.1 dL_law_395 ?_
      refine lv_iload hx hb dL_law_396 (lv_at hl 0 rfl) ?_
      refine lv_i2l hx hb dL_law_398 rfl ?_
      refine lx_same (tgt := 405) hx hb dL_law_399 dL_law_400 (by decide) ?_
      refine lv_goto (tgt := 1230) hx hb dL_law_405 (by decide) ?_
      refine W.widen (k := cells + 4) (n := slots + 24) (by omega) (by omega) ?_
      exact kk ls _ _ ⟨k, (mixR M v1.toNat (fun i => sJoin (kQ k) v2 (M v3.toNat) (M v4.toNat) i) 16), u.2, u2.2, 0, _, ⟨by omega, by omega, bd_join (by omega) hM⟩, lv_sub hl [2, 3, 4, 5, 6] rfl, hCX2, hC2, hO2, hS2⟩
    · exfalso; omega
    · exfalso; omega
  · rcases hp2 with ⟨hok2, g0, rfl⟩ | ⟨hb12, g0⟩ | ⟨hb22, g0⟩
    · exfalso; omega
    · skip
      have hC1 := hB.2 (by rw [h0]; decide)
      have hC2 := hB2.2 (by rw [g0]; decide)
      rw [ht2, g0] at hC2
      rw [ht] at hC1
      rw [h0] at hl
      have hCX2 := hC1.1.keptA (fun a9 g9 h9 => hk2 a9 g9 (hD.2.2.2.2.2.2.1 a9 h9))
      have hO2 : OU cL ou _ H2 := (hk2 ou (Array.getElem?_eq_some_iff.mp hC1.2).1 hD.2.2.2.2.2.2.2.2).trans hC1.2
      have hGM2 := hD.gm hC2
      have hl : lv_has ls 7 [(5, .int (iI (1))), (4, .int (iI ((n : Nat)))), (0, .ref (b)), (1, .ref (ox ω)), (2, .ref (mo μ)), (3, .ref (ou))] := hl
      refine lv_istore (lv' := [(6, .int (r2)), (5, .int (iI (1))), (4, .int (iI ((n : Nat)))), (0, .ref (b)), (1, .ref (ox ω)), (2, .ref (mo μ)), (3, .ref (ou))]) hx hb dL_law_375 hl (by decide) rfl (fun ls hl => ?_)
      refine lv_aload_n hx hb dL_law_377 rfl (lv_at hl 5 rfl) ?_
      refine vp_callSi (va_Run.run (va_runV (As := []) (rest := []) ⟨hx, hb, hml, hown, hts⟩ (m_thrown l μ 1 k (kQ k) M u2.2) (cwV 0 hts (gU (hd := [.methodLink "NoiseRingLaw" 69 yX1_thrown, .instanceMethod yX1_thrown, .selects "NoiseRingModel" yX1_thrown yX1_thrown, .initialized "NoiseRingModel"]) (List.forall_mem_cons.mpr ⟨u340, List.forall_mem_cons.mpr ⟨u341, List.forall_mem_cons.mpr ⟨u342, List.forall_mem_cons.mpr ⟨u30, fun _ h => by cases h⟩⟩⟩⟩) u343) rfl rfl rfl (by decide +kernel) ⟨Nat.le_of_ble_eq_true rfl, Nat.le_of_ble_eq_true rfl⟩) (gm_V hGM2) rfl rfl hl.1 rfl (lv_room (Nat.le_of_ble_eq_true rfl)) dL_law_378 ⟨by show _ ≤ 646401; omega, by show _ ≤ 7156900; omega⟩)) (fun r9 hr9 => ?_)
      subst hr9
      refine lv_iload hx hb dL_law_381 (lv_at hl 1 rfl) ?_
      refine ix_icmp_eq (tgt := 388) hx hb (by omega) (by omega) (by omega) (by omega) dL_law_383 (by decide) (fun h383 => ?_) (fun h383 => absurd h383 (by omega))
      refine lv_iload hx hb dL_law_388 (lv_at hl 1 rfl) ?_
      refine ix_if_ne (tgt := 405) hx hb (by omega) (by omega) dL_law_390 (by decide) (fun h390 => ?_) (fun h390 => absurd h390 (by omega))
      refine lv_goto (tgt := 1230) hx hb dL_law_405 (by decide) ?_
      refine W.widen (k := cells + 4) (n := slots + 24) (by omega) (by omega) ?_
      exact kk ls _ _ ⟨k, M, u.2, u2.2, 1, _, ⟨k1, k2, hM⟩, lv_sub hl [2, 3, 4, 5, 6] rfl, hCX2, hC2, hO2, hS2⟩
    · exfalso; omega
  · rcases hp2 with ⟨hok2, g0, rfl⟩ | ⟨hb12, g0⟩ | ⟨hb22, g0⟩
    · exfalso; omega
    · exfalso; omega
    · skip
      have hC1 := hB.2 (by rw [h0]; decide)
      have hC2 := hB2.2 (by rw [g0]; decide)
      rw [ht2, g0] at hC2
      rw [ht] at hC1
      rw [h0] at hl
      have hCX2 := hC1.1.keptA (fun a9 g9 h9 => hk2 a9 g9 (hD.2.2.2.2.2.2.1 a9 h9))
      have hO2 : OU cL ou _ H2 := (hk2 ou (Array.getElem?_eq_some_iff.mp hC1.2).1 hD.2.2.2.2.2.2.2.2).trans hC1.2
      have hGM2 := hD.gm hC2
      have hl : lv_has ls 7 [(5, .int (iI (2))), (4, .int (iI ((n : Nat)))), (0, .ref (b)), (1, .ref (ox ω)), (2, .ref (mo μ)), (3, .ref (ou))] := hl
      refine lv_istore (lv' := [(6, .int (r2)), (5, .int (iI (2))), (4, .int (iI ((n : Nat)))), (0, .ref (b)), (1, .ref (ox ω)), (2, .ref (mo μ)), (3, .ref (ou))]) hx hb dL_law_375 hl (by decide) rfl (fun ls hl => ?_)
      refine lv_aload_n hx hb dL_law_377 rfl (lv_at hl 5 rfl) ?_
      refine vp_callSi (va_Run.run (va_runV (As := []) (rest := []) ⟨hx, hb, hml, hown, hts⟩ (m_thrown l μ 2 k (kQ k) M u2.2) (cwV 0 hts (gU (hd := [.methodLink "NoiseRingLaw" 69 yX1_thrown, .instanceMethod yX1_thrown, .selects "NoiseRingModel" yX1_thrown yX1_thrown, .initialized "NoiseRingModel"]) (List.forall_mem_cons.mpr ⟨u340, List.forall_mem_cons.mpr ⟨u341, List.forall_mem_cons.mpr ⟨u342, List.forall_mem_cons.mpr ⟨u30, fun _ h => by cases h⟩⟩⟩⟩) u343) rfl rfl rfl (by decide +kernel) ⟨Nat.le_of_ble_eq_true rfl, Nat.le_of_ble_eq_true rfl⟩) (gm_V hGM2) rfl rfl hl.1 rfl (lv_room (Nat.le_of_ble_eq_true rfl)) dL_law_378 ⟨by show _ ≤ 646401; omega, by show _ ≤ 7156900; omega⟩)) (fun r9 hr9 => ?_)
      subst hr9
      refine lv_iload hx hb dL_law_381 (lv_at hl 1 rfl) ?_
      refine ix_icmp_eq (tgt := 388) hx hb (by omega) (by omega) (by omega) (by omega) dL_law_383 (by decide) (fun h383 => ?_) (fun h383 => absurd h383 (by omega))
      refine lv_iload hx hb dL_law_388 (lv_at hl 1 rfl) ?_
      refine ix_if_ne (tgt := 405) hx hb (by omega) (by omega) dL_law_390 (by decide) (fun h390 => ?_) (fun h390 => absurd h390 (by omega))
      refine lv_goto (tgt := 1230) hx hb dL_law_405 (by decide) ?_
      refine W.widen (k := cells + 4) (n := slots + 24) (by omega) (by omega) ?_
      exact kk ls _ _ ⟨k, M, u.2, u2.2, 2, _, ⟨k1, k2, hM⟩, lv_sub hl [2, 3, 4, 5, 6] rfl, hCX2, hC2, hO2, hS2⟩
set_option maxHeartbeats 4000000 in
set_option maxRecDepth 100000 in
theorem l_round {p : Program} {l : Launch} {e : Env} {s : State} {m : MethodId} {args : Array Value} {below : List Frame} {meth : Method} {c : Code} {H : Heap} {locs : List Loc} {cells slots : Nat} {Q : State → Prop} {ls : Array Slot} {b L n : Nat} {xs : Nat → Int32} {ω : WX} {μ : WM} {cL : ClassId} {ou : Nat} (htr : l.stackTraces = false) (hx : p.tables.exec = Jvm.exec) (hb : c.code = cL_law) (hml : c.maxLocals = 7) (hown : s.vm.findClass "NoiseRingLaw" = some m.cls) (hts : ∀ w ∈ wsU, w.before args s = true) (hX : va_X b L xs s s.heap) (hbl : b < s.heap.size) (hL : L ≤ 3584) (hD : DL ω μ cL ou s) (hn : n + 7 ≤ L) (hw : WL ω μ cL ou b s n ls H locs) (hc : cells + 4 ≤ 646401) (hsl : slots + 24 ≤ 7156900)
    (kk : ∀ (ls' : Array Slot) (H' : Heap) (locs' : List Loc), WL ω μ cL ou b s n ls' H' locs' → W p l e room_1 s m args below meth c H' locs' (cells + 4) (slots + 24) Q (F0 m 1230 ls' [])) : W p l e room_1 s m args below meth c H locs cells slots Q (F0 m 408 ls []) := by
  obtain ⟨k, M, wk, f, th, o, ⟨k1, k2, hM⟩, hl, hCX, hCM, hO, hS⟩ := hw
  obtain ⟨hq1, hq2⟩ := kQ_in (k := k)
  have qo := kQ_odd k
  have hG := hD.gx hS hCX
  have hGM := hD.gm hCM
  have hAw : ∀ q9, Aw ω ou q9 → s.heap.size ≤ q9 := fun q9 h => h.elim (hD.2.2.2.1 q9) (fun e9 => by rw [e9]; exact hD.2.2.2.2.2.1)
  obtain ⟨v1, ⟨v1a, v1b⟩, e1⟩ := iI_of (xs (n + 1))
  obtain ⟨v2, ⟨v2a, v2b⟩, e2⟩ := iI_of (xs (n + 2))
  obtain ⟨v3, ⟨v3a, v3b⟩, e3⟩ := iI_of (xs (n + 3))
  obtain ⟨v4, ⟨v4a, v4b⟩, e4⟩ := iI_of (xs (n + 4))
  have hl : lv_has ls 7 [(4, .int (iI ((n : Nat)))), (0, .ref (b)), (1, .ref (ox ω)), (2, .ref (mo μ)), (3, .ref (ou))] := hl
  refine lv_aload_n hx hb dL_law_408 rfl (lv_at hl 2 rfl) ?_
  refine lv_aload_n hx hb dL_law_409 rfl (lv_at hl 1 rfl) ?_
  refine lv_iload hx hb dL_law_410 (lv_at hl 0 rfl) ?_
  refine ix_iconst hx hb dL_law_412 ?_
  refine ix_iadd hx hb dL_law_413 ?_
  refine wx_i (congrArg iI (show ((n : Nat) : Int) + 1 = ((n + 1 : Nat) : Int) by omega)) ?_
  refine sc_ld hx hb hX hbl hS (n := n + 1) (by omega) hL e1 dL_law_414 ?_
  refine lv_aload_n hx hb dL_law_415 rfl (lv_at hl 1 rfl) ?_
  refine lv_iload hx hb dL_law_416 (lv_at hl 0 rfl) ?_
  refine ix_iconst hx hb dL_law_418 ?_
  refine ix_iadd hx hb dL_law_419 ?_
  refine wx_i (congrArg iI (show ((n : Nat) : Int) + 2 = ((n + 2 : Nat) : Int) by omega)) ?_
  refine sc_ld hx hb hX hbl hS (n := n + 2) (by omega) hL e2 dL_law_420 ?_
  refine lv_aload_n hx hb dL_law_421 rfl (lv_at hl 1 rfl) ?_
  refine lv_iload hx hb dL_law_422 (lv_at hl 0 rfl) ?_
  refine ix_iconst hx hb dL_law_424 ?_
  refine ix_iadd hx hb dL_law_425 ?_
  refine wx_i (congrArg iI (show ((n : Nat) : Int) + 3 = ((n + 3 : Nat) : Int) by omega)) ?_
  refine sc_ld hx hb hX hbl hS (n := n + 3) (by omega) hL e3 dL_law_426 ?_
  refine lv_aload_n hx hb dL_law_427 rfl (lv_at hl 1 rfl) ?_
  refine lv_iload hx hb dL_law_428 (lv_at hl 0 rfl) ?_
  refine ix_iconst hx hb dL_law_430 ?_
  refine ix_iadd hx hb dL_law_431 ?_
  refine wx_i (congrArg iI (show ((n : Nat) : Int) + 4 = ((n + 4 : Nat) : Int) by omega)) ?_
  refine sc_ld hx hb hX hbl hS (n := n + 4) (by omega) hL e4 dL_law_432 ?_
  refine lv_aload_n hx hb dL_law_433 rfl (lv_at hl 4 rfl) ?_
  refine va_calli (vx_runSW (As := [.ref (ox ω), .int (iI (v1)), .int (iI (v2)), .int (iI (v3)), .int (iI (v4)), .ref (ou)]) (rest := []) ⟨hx, hb, hml, hown, hts⟩ (w_round l htr ω cL ou o hD.2.2.2.2.2.2.2.1 k (kQ k) (kZ k) M wk v1 v2 v3 v4 v1a v1b v2a v2b v3a v3b v4a v4b hq1 hq2 hM k1 k2 rfl) (vx_cwSW 6 hts (gU (hd := [.methodLink "NoiseRingLaw" 85 yL_round, .static yL_round, .initialized "NoiseRingLaw"]) (List.forall_mem_cons.mpr ⟨u216, List.forall_mem_cons.mpr ⟨u217, List.forall_mem_cons.mpr ⟨u28, fun _ h => by cases h⟩⟩⟩) u218) rfl rfl rfl (by decide +kernel) ⟨Nat.le_of_ble_eq_true rfl, Nat.le_of_ble_eq_true rfl⟩) (gw_S hG hD.2.2.1 hO) rfl rfl hl.1 rfl (lv_room (Nat.le_of_ble_eq_true rfl)) dL_law_434 ⟨by show _ ≤ 646401; omega, by show _ ≤ 7156900; omega⟩) hS (fun q9 _ h => hAw q9 h) (fun q9 h => hAw q9 h) (fun r u t H1 locs1 ht hvm hp hB hz hk hS1 => ?_)
  obtain ⟨hp, rfl⟩ := hp
  have hCM1 : CM μ th k (kQ k) M f H1 := hCM.kept (fun a9 g9 h9 => hk a9 g9 (fun e9 => e9.elim (fun e9 => hD.2.2.2.2.2.2.1 a9 e9 h9) (fun e9 => hD.2.2.2.2.2.2.2.2 (e9 ▸ h9))))
  have hGM := hD.gm hCM1
  have hS := hS1
  refine lv_istore (lv' := [(5, .int (iI (u.1))), (4, .int (iI ((n : Nat)))), (0, .ref (b)), (1, .ref (ox ω)), (2, .ref (mo μ)), (3, .ref (ou))]) hx hb dL_law_437 hl (by decide) rfl (fun ls hl => ?_)
  refine lv_aload_n hx hb dL_law_439 rfl (lv_at hl 4 rfl) ?_
  refine lv_aload_n hx hb dL_law_440 rfl (lv_at hl 2 rfl) ?_
  refine lv_iload hx hb dL_law_441 (lv_at hl 1 rfl) ?_
  refine ix_iconst hx hb dL_law_443 ?_
  refine ix_iadd hx hb dL_law_444 ?_
  refine wx_i (congrArg iI (show ((n : Nat) : Int) + 1 = ((n + 1 : Nat) : Int) by omega)) ?_
  refine sc_ld hx hb hX hbl hS (n := n + 1) (by omega) hL e1 dL_law_445 ?_
  refine lv_aload_n hx hb dL_law_446 rfl (lv_at hl 2 rfl) ?_
  refine lv_iload hx hb dL_law_447 (lv_at hl 1 rfl) ?_
  refine ix_iconst hx hb dL_law_449 ?_
  refine ix_iadd hx hb dL_law_450 ?_
  refine wx_i (congrArg iI (show ((n : Nat) : Int) + 2 = ((n + 2 : Nat) : Int) by omega)) ?_
  refine sc_ld hx hb hX hbl hS (n := n + 2) (by omega) hL e2 dL_law_451 ?_
  refine lv_aload_n hx hb dL_law_452 rfl (lv_at hl 2 rfl) ?_
  refine lv_iload hx hb dL_law_453 (lv_at hl 1 rfl) ?_
  refine ix_iconst hx hb dL_law_455 ?_
  refine ix_iadd hx hb dL_law_456 ?_
  refine wx_i (congrArg iI (show ((n : Nat) : Int) + 3 = ((n + 3 : Nat) : Int) by omega)) ?_
  refine sc_ld hx hb hX hbl hS (n := n + 3) (by omega) hL e3 dL_law_457 ?_
  refine lv_aload_n hx hb dL_law_458 rfl (lv_at hl 2 rfl) ?_
  refine lv_iload hx hb dL_law_459 (lv_at hl 1 rfl) ?_
  refine ix_iconst hx hb dL_law_461 ?_
  refine ix_iadd hx hb dL_law_462 ?_
  refine wx_i (congrArg iI (show ((n : Nat) : Int) + 4 = ((n + 4 : Nat) : Int) by omega)) ?_
  refine sc_ld hx hb hX hbl hS (n := n + 4) (by omega) hL e4 dL_law_463 ?_
  refine va_calli (va_runV (As := [.int (iI (v1)), .int (iI (v2)), .int (iI (v3)), .int (iI (v4))]) (rest := []) ⟨hx, hb, hml, hown, hts⟩ (m_round l μ th k (kQ k) M f v1 v2 v3 v4 v1a v1b v2a v2b v3a v3b v4a v4b hq1 hq2 hM k1 k2 rfl) (cwV 4 hts (gU (hd := [.methodLink "NoiseRingLaw" 87 yX1_round, .instanceMethod yX1_round, .selects "NoiseRingModel" yX1_round yX1_round, .initialized "NoiseRingModel"]) (List.forall_mem_cons.mpr ⟨u381, List.forall_mem_cons.mpr ⟨u382, List.forall_mem_cons.mpr ⟨u383, List.forall_mem_cons.mpr ⟨u30, fun _ h => by cases h⟩⟩⟩⟩) u384) rfl rfl rfl (by decide +kernel) ⟨Nat.le_of_ble_eq_true rfl, Nat.le_of_ble_eq_true rfl⟩) (gm_V hGM) rfl rfl hl.1 rfl (lv_room (Nat.le_of_ble_eq_true rfl)) dL_law_464 ⟨by show _ ≤ 646401; omega, by show _ ≤ 7156900; omega⟩) hS (fun q9 _ h => hD.2.2.2.2.1 q9 h) (fun q9 h => hD.2.2.2.2.1 q9 h) (fun r2 u2 t2 H2 locs2 ht2 hvm2 hp2 hB2 hz2 hk2 hS2 => ?_)
  rcases hp with ⟨hok, h0⟩ | ⟨hb1, h0⟩ | ⟨hb2, h0⟩
  · rcases hp2 with ⟨hok2, g0, rfl⟩ | ⟨hb12, g0⟩ | ⟨hb22, g0⟩
    · skip
      have hC1 := hB.1 h0
      have hC2 := hB2.1 g0
      rw [ht2] at hC2
      rw [ht] at hC1
      rw [h0] at hl
      have hCX2 := hC1.1.keptA (fun a9 g9 h9 => hk2 a9 g9 (hD.2.2.2.2.2.2.1 a9 h9))
      have hO2 : OU cL ou _ H2 := (hk2 ou (Array.getElem?_eq_some_iff.mp hC1.2).1 hD.2.2.2.2.2.2.2.2).trans hC1.2
      have hGM2 := hD.gm hC2
      have hl : lv_has ls 7 [(5, .int (iI (0))), (4, .int (iI ((n : Nat)))), (0, .ref (b)), (1, .ref (ox ω)), (2, .ref (mo μ)), (3, .ref (ou))] := hl
      refine lv_istore (lv' := [(6, .int (iI (sCnt (fun i => sRound (kQ k) v2 (M v3.toNat i) v4.toNat) 16))), (5, .int (iI (0))), (4, .int (iI ((n : Nat)))), (0, .ref (b)), (1, .ref (ox ω)), (2, .ref (mo μ)), (3, .ref (ou))]) hx hb dL_law_467 hl (by decide) rfl (fun ls hl => ?_)
      refine lv_aload_n hx hb dL_law_469 rfl (lv_at hl 5 rfl) ?_
      refine vp_callSi (va_Run.run (va_runV (As := []) (rest := []) ⟨hx, hb, hml, hown, hts⟩ (m_thrown l μ 0 k (kQ k) (mixR M v1.toNat (fun i => sRound (kQ k) v2 (M v3.toNat i) v4.toNat) 16) u2.2) (cwV 0 hts (gU (hd := [.methodLink "NoiseRingLaw" 69 yX1_thrown, .instanceMethod yX1_thrown, .selects "NoiseRingModel" yX1_thrown yX1_thrown, .initialized "NoiseRingModel"]) (List.forall_mem_cons.mpr ⟨u340, List.forall_mem_cons.mpr ⟨u341, List.forall_mem_cons.mpr ⟨u342, List.forall_mem_cons.mpr ⟨u30, fun _ h => by cases h⟩⟩⟩⟩) u343) rfl rfl rfl (by decide +kernel) ⟨Nat.le_of_ble_eq_true rfl, Nat.le_of_ble_eq_true rfl⟩) (gm_V hGM2) rfl rfl hl.1 rfl (lv_room (Nat.le_of_ble_eq_true rfl)) dL_law_470 ⟨by show _ ≤ 646401; omega, by show _ ≤ 7156900; omega⟩)) (fun r9 hr9 => ?_)
      subst hr9
      refine lv_iload hx hb dL_law_473 (lv_at hl 1 rfl) ?_
      refine ix_icmp_eq (tgt := 480) hx hb (by omega) (by omega) (by omega) (by omega) dL_law_475 (by decide) (fun h475 => ?_) (fun h475 => absurd h475 (by omega))
      refine lv_iload hx hb dL_law_480 (lv_at hl 1 rfl) ?_
      refine ix_if_ne (tgt := 497) hx hb (by omega) (by omega) dL_law_482 (by decide) (fun h482 => absurd h482 (by omega)) (fun h482 => ?_)
      refine lv_aload_n hx hb dL_law_485 rfl (lv_at hl 6 rfl) ?_
      refine ix_iconst hx hb dL_law_486 ?_
      refine ou_ld hx hb hO2 hD.2.2.1 dL_law_487 ?_
      refine lv_iload hx hb dL_law_488 (lv_at hl 0 rfl) ?_
      refine lv_i2l hx hb dL_law_490 rfl ?_
      refine lx_same (tgt := 497) hx hb dL_law_491 dL_law_492 (by decide) ?_
      refine lv_goto (tgt := 1230) hx hb dL_law_497 (by decide) ?_
      refine W.widen (k := cells + 4) (n := slots + 24) (by omega) (by omega) ?_
      exact kk ls _ _ ⟨k, (mixR M v1.toNat (fun i => sRound (kQ k) v2 (M v3.toNat i) v4.toNat) 16), u.2, u2.2, 0, _, ⟨by omega, by omega, bd_round (by omega) (by omega) (by omega) hM⟩, lv_sub hl [2, 3, 4, 5, 6] rfl, hCX2, hC2, hO2, hS2⟩
    · exfalso; omega
    · exfalso; omega
  · rcases hp2 with ⟨hok2, g0, rfl⟩ | ⟨hb12, g0⟩ | ⟨hb22, g0⟩
    · exfalso; omega
    · skip
      have hC1 := hB.2 (by rw [h0]; decide)
      have hC2 := hB2.2 (by rw [g0]; decide)
      rw [ht2, g0] at hC2
      rw [ht] at hC1
      rw [h0] at hl
      have hCX2 := hC1.1.keptA (fun a9 g9 h9 => hk2 a9 g9 (hD.2.2.2.2.2.2.1 a9 h9))
      have hO2 : OU cL ou _ H2 := (hk2 ou (Array.getElem?_eq_some_iff.mp hC1.2).1 hD.2.2.2.2.2.2.2.2).trans hC1.2
      have hGM2 := hD.gm hC2
      have hl : lv_has ls 7 [(5, .int (iI (1))), (4, .int (iI ((n : Nat)))), (0, .ref (b)), (1, .ref (ox ω)), (2, .ref (mo μ)), (3, .ref (ou))] := hl
      refine lv_istore (lv' := [(6, .int (r2)), (5, .int (iI (1))), (4, .int (iI ((n : Nat)))), (0, .ref (b)), (1, .ref (ox ω)), (2, .ref (mo μ)), (3, .ref (ou))]) hx hb dL_law_467 hl (by decide) rfl (fun ls hl => ?_)
      refine lv_aload_n hx hb dL_law_469 rfl (lv_at hl 5 rfl) ?_
      refine vp_callSi (va_Run.run (va_runV (As := []) (rest := []) ⟨hx, hb, hml, hown, hts⟩ (m_thrown l μ 1 k (kQ k) M u2.2) (cwV 0 hts (gU (hd := [.methodLink "NoiseRingLaw" 69 yX1_thrown, .instanceMethod yX1_thrown, .selects "NoiseRingModel" yX1_thrown yX1_thrown, .initialized "NoiseRingModel"]) (List.forall_mem_cons.mpr ⟨u340, List.forall_mem_cons.mpr ⟨u341, List.forall_mem_cons.mpr ⟨u342, List.forall_mem_cons.mpr ⟨u30, fun _ h => by cases h⟩⟩⟩⟩) u343) rfl rfl rfl (by decide +kernel) ⟨Nat.le_of_ble_eq_true rfl, Nat.le_of_ble_eq_true rfl⟩) (gm_V hGM2) rfl rfl hl.1 rfl (lv_room (Nat.le_of_ble_eq_true rfl)) dL_law_470 ⟨by show _ ≤ 646401; omega, by show _ ≤ 7156900; omega⟩)) (fun r9 hr9 => ?_)
      subst hr9
      refine lv_iload hx hb dL_law_473 (lv_at hl 1 rfl) ?_
      refine ix_icmp_eq (tgt := 480) hx hb (by omega) (by omega) (by omega) (by omega) dL_law_475 (by decide) (fun h475 => ?_) (fun h475 => absurd h475 (by omega))
      refine lv_iload hx hb dL_law_480 (lv_at hl 1 rfl) ?_
      refine ix_if_ne (tgt := 497) hx hb (by omega) (by omega) dL_law_482 (by decide) (fun h482 => ?_) (fun h482 => absurd h482 (by omega))
      refine lv_goto (tgt := 1230) hx hb dL_law_497 (by decide) ?_
      refine W.widen (k := cells + 4) (n := slots + 24) (by omega) (by omega) ?_
      exact kk ls _ _ ⟨k, M, u.2, u2.2, 1, _, ⟨k1, k2, hM⟩, lv_sub hl [2, 3, 4, 5, 6] rfl, hCX2, hC2, hO2, hS2⟩
    · exfalso; omega
  · rcases hp2 with ⟨hok2, g0, rfl⟩ | ⟨hb12, g0⟩ | ⟨hb22, g0⟩
    · exfalso; omega
    · exfalso; omega
    · skip
      have hC1 := hB.2 (by rw [h0]; decide)
      have hC2 := hB2.2 (by rw [g0]; decide)
      rw [ht2, g0] at hC2
      rw [ht] at hC1
      rw [h0] at hl
      have hCX2 := hC1.1.keptA (fun a9 g9 h9 => hk2 a9 g9 (hD.2.2.2.2.2.2.1 a9 h9))
      have hO2 : OU cL ou _ H2 := (hk2 ou (Array.getElem?_eq_some_iff.mp hC1.2).1 hD.2.2.2.2.2.2.2.2).trans hC1.2
      have hGM2 := hD.gm hC2
      have hl : lv_has ls 7 [(5, .int (iI (2))), (4, .int (iI ((n : Nat)))), (0, .ref (b)), (1, .ref (ox ω)), (2, .ref (mo μ)), (3, .ref (ou))] := hl
      refine lv_istore (lv' := [(6, .int (r2)), (5, .int (iI (2))), (4, .int (iI ((n : Nat)))), (0, .ref (b)), (1, .ref (ox ω)), (2, .ref (mo μ)), (3, .ref (ou))]) hx hb dL_law_467 hl (by decide) rfl (fun ls hl => ?_)
      refine lv_aload_n hx hb dL_law_469 rfl (lv_at hl 5 rfl) ?_
      refine vp_callSi (va_Run.run (va_runV (As := []) (rest := []) ⟨hx, hb, hml, hown, hts⟩ (m_thrown l μ 2 k (kQ k) M u2.2) (cwV 0 hts (gU (hd := [.methodLink "NoiseRingLaw" 69 yX1_thrown, .instanceMethod yX1_thrown, .selects "NoiseRingModel" yX1_thrown yX1_thrown, .initialized "NoiseRingModel"]) (List.forall_mem_cons.mpr ⟨u340, List.forall_mem_cons.mpr ⟨u341, List.forall_mem_cons.mpr ⟨u342, List.forall_mem_cons.mpr ⟨u30, fun _ h => by cases h⟩⟩⟩⟩) u343) rfl rfl rfl (by decide +kernel) ⟨Nat.le_of_ble_eq_true rfl, Nat.le_of_ble_eq_true rfl⟩) (gm_V hGM2) rfl rfl hl.1 rfl (lv_room (Nat.le_of_ble_eq_true rfl)) dL_law_470 ⟨by show _ ≤ 646401; omega, by show _ ≤ 7156900; omega⟩)) (fun r9 hr9 => ?_)
      subst hr9
      refine lv_iload hx hb dL_law_473 (lv_at hl 1 rfl) ?_
      refine ix_icmp_eq (tgt := 480) hx hb (by omega) (by omega) (by omega) (by omega) dL_law_475 (by decide) (fun h475 => ?_) (fun h475 => absurd h475 (by omega))
      refine lv_iload hx hb dL_law_480 (lv_at hl 1 rfl) ?_
      refine ix_if_ne (tgt := 497) hx hb (by omega) (by omega) dL_law_482 (by decide) (fun h482 => ?_) (fun h482 => absurd h482 (by omega))
      refine lv_goto (tgt := 1230) hx hb dL_law_497 (by decide) ?_
      refine W.widen (k := cells + 4) (n := slots + 24) (by omega) (by omega) ?_
      exact kk ls _ _ ⟨k, M, u.2, u2.2, 2, _, ⟨k1, k2, hM⟩, lv_sub hl [2, 3, 4, 5, 6] rfl, hCX2, hC2, hO2, hS2⟩
set_option maxHeartbeats 4000000 in
set_option maxRecDepth 100000 in
theorem l_part {p : Program} {l : Launch} {e : Env} {s : State} {m : MethodId} {args : Array Value} {below : List Frame} {meth : Method} {c : Code} {H : Heap} {locs : List Loc} {cells slots : Nat} {Q : State → Prop} {ls : Array Slot} {b L n : Nat} {xs : Nat → Int32} {ω : WX} {μ : WM} {cL : ClassId} {ou : Nat} (htr : l.stackTraces = false) (hx : p.tables.exec = Jvm.exec) (hb : c.code = cL_law) (hml : c.maxLocals = 7) (hown : s.vm.findClass "NoiseRingLaw" = some m.cls) (hts : ∀ w ∈ wsU, w.before args s = true) (hX : va_X b L xs s s.heap) (hbl : b < s.heap.size) (hL : L ≤ 3584) (hD : DL ω μ cL ou s) (hn : n + 7 ≤ L) (hw : WL ω μ cL ou b s n ls H locs) (hc : cells + 4 ≤ 646401) (hsl : slots + 24 ≤ 7156900)
    (kk : ∀ (ls' : Array Slot) (H' : Heap) (locs' : List Loc), WL ω μ cL ou b s n ls' H' locs' → W p l e room_1 s m args below meth c H' locs' (cells + 4) (slots + 24) Q (F0 m 1230 ls' [])) : W p l e room_1 s m args below meth c H locs cells slots Q (F0 m 500 ls []) := by
  obtain ⟨k, M, wk, f, th, o, ⟨k1, k2, hM⟩, hl, hCX, hCM, hO, hS⟩ := hw
  obtain ⟨hq1, hq2⟩ := kQ_in (k := k)
  have qo := kQ_odd k
  have hG := hD.gx hS hCX
  have hGM := hD.gm hCM
  have hAw : ∀ q9, Aw ω ou q9 → s.heap.size ≤ q9 := fun q9 h => h.elim (hD.2.2.2.1 q9) (fun e9 => by rw [e9]; exact hD.2.2.2.2.2.1)
  obtain ⟨v1, ⟨v1a, v1b⟩, e1⟩ := iI_of (xs (n + 1))
  obtain ⟨v2, ⟨v2a, v2b⟩, e2⟩ := iI_of (xs (n + 2))
  obtain ⟨v3, ⟨v3a, v3b⟩, e3⟩ := iI_of (xs (n + 3))
  obtain ⟨v4, ⟨v4a, v4b⟩, e4⟩ := iI_of (xs (n + 4))
  have hl : lv_has ls 7 [(4, .int (iI ((n : Nat)))), (0, .ref (b)), (1, .ref (ox ω)), (2, .ref (mo μ)), (3, .ref (ou))] := hl
  refine lv_aload_n hx hb dL_law_500 rfl (lv_at hl 2 rfl) ?_
  refine lv_aload_n hx hb dL_law_501 rfl (lv_at hl 1 rfl) ?_
  refine lv_iload hx hb dL_law_502 (lv_at hl 0 rfl) ?_
  refine ix_iconst hx hb dL_law_504 ?_
  refine ix_iadd hx hb dL_law_505 ?_
  refine wx_i (congrArg iI (show ((n : Nat) : Int) + 1 = ((n + 1 : Nat) : Int) by omega)) ?_
  refine sc_ld hx hb hX hbl hS (n := n + 1) (by omega) hL e1 dL_law_506 ?_
  refine lv_aload_n hx hb dL_law_507 rfl (lv_at hl 1 rfl) ?_
  refine lv_iload hx hb dL_law_508 (lv_at hl 0 rfl) ?_
  refine ix_iconst hx hb dL_law_510 ?_
  refine ix_iadd hx hb dL_law_511 ?_
  refine wx_i (congrArg iI (show ((n : Nat) : Int) + 2 = ((n + 2 : Nat) : Int) by omega)) ?_
  refine sc_ld hx hb hX hbl hS (n := n + 2) (by omega) hL e2 dL_law_512 ?_
  refine lv_aload_n hx hb dL_law_513 rfl (lv_at hl 1 rfl) ?_
  refine lv_iload hx hb dL_law_514 (lv_at hl 0 rfl) ?_
  refine ix_iconst hx hb dL_law_516 ?_
  refine ix_iadd hx hb dL_law_517 ?_
  refine wx_i (congrArg iI (show ((n : Nat) : Int) + 3 = ((n + 3 : Nat) : Int) by omega)) ?_
  refine sc_ld hx hb hX hbl hS (n := n + 3) (by omega) hL e3 dL_law_518 ?_
  refine lv_aload_n hx hb dL_law_519 rfl (lv_at hl 1 rfl) ?_
  refine lv_iload hx hb dL_law_520 (lv_at hl 0 rfl) ?_
  refine ix_iconst hx hb dL_law_522 ?_
  refine ix_iadd hx hb dL_law_523 ?_
  refine wx_i (congrArg iI (show ((n : Nat) : Int) + 4 = ((n + 4 : Nat) : Int) by omega)) ?_
  refine sc_ld hx hb hX hbl hS (n := n + 4) (by omega) hL e4 dL_law_524 ?_
  refine ix_selE (x := 1) (y := 0) (n1 := 1) (t1 := 532) (t2 := 533) hx hb v4a v4b dL_law_525 (by decide) (fun g9 => ix_iconst hx hb dL_law_528 g9) dL_law_529 (by decide) (fun g9 => ix_iconst hx hb dL_law_532 g9) ?_
  refine lv_aload_n hx hb dL_law_533 rfl (lv_at hl 4 rfl) ?_
  refine va_calli (vx_runSW (As := [.ref (ox ω), .int (iI (v1)), .int (iI (v2)), .int (iI (v3)), .int (iI ((if v4 = 0 then 0 else 1))), .ref (ou)]) (rest := []) ⟨hx, hb, hml, hown, hts⟩ (w_part l htr ω cL ou o hD.2.2.2.2.2.2.2.1 k (kQ k) (kZ k) M wk v1 v2 v3 (if v4 = 0 then 0 else 1) v1a v1b v2a v2b v3a v3b (by split <;> decide) (by split <;> decide) hq1 hq2 hM) (vx_cwSW 6 hts (gU (hd := [.methodLink "NoiseRingLaw" 88 yL_part, .static yL_part, .initialized "NoiseRingLaw"]) (List.forall_mem_cons.mpr ⟨u240, List.forall_mem_cons.mpr ⟨u241, List.forall_mem_cons.mpr ⟨u28, fun _ h => by cases h⟩⟩⟩) u242) rfl rfl rfl (by decide +kernel) ⟨Nat.le_of_ble_eq_true rfl, Nat.le_of_ble_eq_true rfl⟩) (gw_S hG hD.2.2.1 hO) rfl rfl hl.1 rfl (lv_room (Nat.le_of_ble_eq_true rfl)) dL_law_534 ⟨by show _ ≤ 646401; omega, by show _ ≤ 7156900; omega⟩) hS (fun q9 _ h => hAw q9 h) (fun q9 h => hAw q9 h) (fun r u t H1 locs1 ht hvm hp hB hz hk hS1 => ?_)
  obtain ⟨hp, rfl⟩ := hp
  have hCM1 : CM μ th k (kQ k) M f H1 := hCM.kept (fun a9 g9 h9 => hk a9 g9 (fun e9 => e9.elim (fun e9 => hD.2.2.2.2.2.2.1 a9 e9 h9) (fun e9 => hD.2.2.2.2.2.2.2.2 (e9 ▸ h9))))
  have hGM := hD.gm hCM1
  have hS := hS1
  refine lv_istore (lv' := [(5, .int (iI (u.1))), (4, .int (iI ((n : Nat)))), (0, .ref (b)), (1, .ref (ox ω)), (2, .ref (mo μ)), (3, .ref (ou))]) hx hb dL_law_537 hl (by decide) rfl (fun ls hl => ?_)
  refine lv_aload_n hx hb dL_law_539 rfl (lv_at hl 4 rfl) ?_
  refine lv_aload_n hx hb dL_law_540 rfl (lv_at hl 2 rfl) ?_
  refine lv_iload hx hb dL_law_541 (lv_at hl 1 rfl) ?_
  refine ix_iconst hx hb dL_law_543 ?_
  refine ix_iadd hx hb dL_law_544 ?_
  refine wx_i (congrArg iI (show ((n : Nat) : Int) + 1 = ((n + 1 : Nat) : Int) by omega)) ?_
  refine sc_ld hx hb hX hbl hS (n := n + 1) (by omega) hL e1 dL_law_545 ?_
  refine lv_aload_n hx hb dL_law_546 rfl (lv_at hl 2 rfl) ?_
  refine lv_iload hx hb dL_law_547 (lv_at hl 1 rfl) ?_
  refine ix_iconst hx hb dL_law_549 ?_
  refine ix_iadd hx hb dL_law_550 ?_
  refine wx_i (congrArg iI (show ((n : Nat) : Int) + 2 = ((n + 2 : Nat) : Int) by omega)) ?_
  refine sc_ld hx hb hX hbl hS (n := n + 2) (by omega) hL e2 dL_law_551 ?_
  refine lv_aload_n hx hb dL_law_552 rfl (lv_at hl 2 rfl) ?_
  refine lv_iload hx hb dL_law_553 (lv_at hl 1 rfl) ?_
  refine ix_iconst hx hb dL_law_555 ?_
  refine ix_iadd hx hb dL_law_556 ?_
  refine wx_i (congrArg iI (show ((n : Nat) : Int) + 3 = ((n + 3 : Nat) : Int) by omega)) ?_
  refine sc_ld hx hb hX hbl hS (n := n + 3) (by omega) hL e3 dL_law_557 ?_
  refine lv_aload_n hx hb dL_law_558 rfl (lv_at hl 2 rfl) ?_
  refine lv_iload hx hb dL_law_559 (lv_at hl 1 rfl) ?_
  refine ix_iconst hx hb dL_law_561 ?_
  refine ix_iadd hx hb dL_law_562 ?_
  refine wx_i (congrArg iI (show ((n : Nat) : Int) + 4 = ((n + 4 : Nat) : Int) by omega)) ?_
  refine sc_ld hx hb hX hbl hS (n := n + 4) (by omega) hL e4 dL_law_563 ?_
  refine ix_selE (x := 1) (y := 0) (n1 := 1) (t1 := 571) (t2 := 572) hx hb v4a v4b dL_law_564 (by decide) (fun g9 => ix_iconst hx hb dL_law_567 g9) dL_law_568 (by decide) (fun g9 => ix_iconst hx hb dL_law_571 g9) ?_
  refine va_calli (va_runV (As := [.int (iI (v1)), .int (iI (v2)), .int (iI (v3)), .int (iI ((if v4 = 0 then 0 else 1)))]) (rest := []) ⟨hx, hb, hml, hown, hts⟩ (m_part l μ th k (kQ k) M f v1 v2 v3 (if v4 = 0 then 0 else 1) v1a v1b v2a v2b v3a v3b (by split <;> decide) (by split <;> decide) hq1 hq2 hM) (cwV 4 hts (gU (hd := [.methodLink "NoiseRingLaw" 91 yX1_part, .instanceMethod yX1_part, .selects "NoiseRingModel" yX1_part yX1_part, .initialized "NoiseRingModel"]) (List.forall_mem_cons.mpr ⟨u389, List.forall_mem_cons.mpr ⟨u390, List.forall_mem_cons.mpr ⟨u391, List.forall_mem_cons.mpr ⟨u30, fun _ h => by cases h⟩⟩⟩⟩) u392) rfl rfl rfl (by decide +kernel) ⟨Nat.le_of_ble_eq_true rfl, Nat.le_of_ble_eq_true rfl⟩) (gm_V hGM) rfl rfl hl.1 rfl (lv_room (Nat.le_of_ble_eq_true rfl)) dL_law_572 ⟨by show _ ≤ 646401; omega, by show _ ≤ 7156900; omega⟩) hS (fun q9 _ h => hD.2.2.2.2.1 q9 h) (fun q9 h => hD.2.2.2.2.1 q9 h) (fun r2 u2 t2 H2 locs2 ht2 hvm2 hp2 hB2 hz2 hk2 hS2 => ?_)
  rcases hp with ⟨hok, h0⟩ | ⟨hb1, h0⟩ | ⟨hb2, h0⟩
  · rcases hp2 with ⟨hok2, g0, rfl⟩ | ⟨hb12, g0⟩ | ⟨hb22, g0⟩
    · skip
      have hC1 := hB.1 h0
      have hC2 := hB2.1 g0
      rw [ht2] at hC2
      rw [ht] at hC1
      rw [h0] at hl
      have hCX2 := hC1.1.keptA (fun a9 g9 h9 => hk2 a9 g9 (hD.2.2.2.2.2.2.1 a9 h9))
      have hO2 : OU cL ou _ H2 := (hk2 ou (Array.getElem?_eq_some_iff.mp hC1.2).1 hD.2.2.2.2.2.2.2.2).trans hC1.2
      have hGM2 := hD.gm hC2
      have hl : lv_has ls 7 [(5, .int (iI (0))), (4, .int (iI ((n : Nat)))), (0, .ref (b)), (1, .ref (ox ω)), (2, .ref (mo μ)), (3, .ref (ou))] := hl
      refine lv_istore (lv' := [(6, .int (iI (sCnt (fun i => if (if v4 = 0 then 0 else 1) = 0 then sRest (kQ k) (M v2.toNat i) v3 % (kQ k) else sPart (kQ k) (M v2.toNat i) v3) 16))), (5, .int (iI (0))), (4, .int (iI ((n : Nat)))), (0, .ref (b)), (1, .ref (ox ω)), (2, .ref (mo μ)), (3, .ref (ou))]) hx hb dL_law_575 hl (by decide) rfl (fun ls hl => ?_)
      refine lv_aload_n hx hb dL_law_577 rfl (lv_at hl 5 rfl) ?_
      refine vp_callSi (va_Run.run (va_runV (As := []) (rest := []) ⟨hx, hb, hml, hown, hts⟩ (m_thrown l μ 0 k (kQ k) (mixR M v1.toNat (fun i => if (if v4 = 0 then 0 else 1) = 0 then sRest (kQ k) (M v2.toNat i) v3 % (kQ k) else sPart (kQ k) (M v2.toNat i) v3) 16) u2.2) (cwV 0 hts (gU (hd := [.methodLink "NoiseRingLaw" 69 yX1_thrown, .instanceMethod yX1_thrown, .selects "NoiseRingModel" yX1_thrown yX1_thrown, .initialized "NoiseRingModel"]) (List.forall_mem_cons.mpr ⟨u340, List.forall_mem_cons.mpr ⟨u341, List.forall_mem_cons.mpr ⟨u342, List.forall_mem_cons.mpr ⟨u30, fun _ h => by cases h⟩⟩⟩⟩) u343) rfl rfl rfl (by decide +kernel) ⟨Nat.le_of_ble_eq_true rfl, Nat.le_of_ble_eq_true rfl⟩) (gm_V hGM2) rfl rfl hl.1 rfl (lv_room (Nat.le_of_ble_eq_true rfl)) dL_law_578 ⟨by show _ ≤ 646401; omega, by show _ ≤ 7156900; omega⟩)) (fun r9 hr9 => ?_)
      subst hr9
      refine lv_iload hx hb dL_law_581 (lv_at hl 1 rfl) ?_
      refine ix_icmp_eq (tgt := 588) hx hb (by omega) (by omega) (by omega) (by omega) dL_law_583 (by decide) (fun h583 => ?_) (fun h583 => absurd h583 (by omega))
      refine lv_iload hx hb dL_law_588 (lv_at hl 1 rfl) ?_
      refine ix_if_ne (tgt := 605) hx hb (by omega) (by omega) dL_law_590 (by decide) (fun h590 => absurd h590 (by omega)) (fun h590 => ?_)
      refine lv_aload_n hx hb dL_law_593 rfl (lv_at hl 6 rfl) ?_
      refine ix_iconst hx hb dL_law_594 ?_
      refine ou_ld hx hb hO2 hD.2.2.1 dL_law_595 ?_
      refine lv_iload hx hb dL_law_596 (lv_at hl 0 rfl) ?_
      refine lv_i2l hx hb dL_law_598 rfl ?_
      refine lx_same (tgt := 605) hx hb dL_law_599 dL_law_600 (by decide) ?_
      refine lv_goto (tgt := 1230) hx hb dL_law_605 (by decide) ?_
      refine W.widen (k := cells + 4) (n := slots + 24) (by omega) (by omega) ?_
      exact kk ls _ _ ⟨k, (mixR M v1.toNat (fun i => if (if v4 = 0 then 0 else 1) = 0 then sRest (kQ k) (M v2.toNat i) v3 % (kQ k) else sPart (kQ k) (M v2.toNat i) v3) 16), u.2, u2.2, 0, _, ⟨by omega, by omega, bd_part (by omega) (by omega) hok.2 hM⟩, lv_sub hl [2, 3, 4, 5, 6] rfl, hCX2, hC2, hO2, hS2⟩
    · exfalso; omega
    · exfalso; omega
  · rcases hp2 with ⟨hok2, g0, rfl⟩ | ⟨hb12, g0⟩ | ⟨hb22, g0⟩
    · exfalso; omega
    · skip
      have hC1 := hB.2 (by rw [h0]; decide)
      have hC2 := hB2.2 (by rw [g0]; decide)
      rw [ht2, g0] at hC2
      rw [ht] at hC1
      rw [h0] at hl
      have hCX2 := hC1.1.keptA (fun a9 g9 h9 => hk2 a9 g9 (hD.2.2.2.2.2.2.1 a9 h9))
      have hO2 : OU cL ou _ H2 := (hk2 ou (Array.getElem?_eq_some_iff.mp hC1.2).1 hD.2.2.2.2.2.2.2.2).trans hC1.2
      have hGM2 := hD.gm hC2
      have hl : lv_has ls 7 [(5, .int (iI (1))), (4, .int (iI ((n : Nat)))), (0, .ref (b)), (1, .ref (ox ω)), (2, .ref (mo μ)), (3, .ref (ou))] := hl
      refine lv_istore (lv' := [(6, .int (r2)), (5, .int (iI (1))), (4, .int (iI ((n : Nat)))), (0, .ref (b)), (1, .ref (ox ω)), (2, .ref (mo μ)), (3, .ref (ou))]) hx hb dL_law_575 hl (by decide) rfl (fun ls hl => ?_)
      refine lv_aload_n hx hb dL_law_577 rfl (lv_at hl 5 rfl) ?_
      refine vp_callSi (va_Run.run (va_runV (As := []) (rest := []) ⟨hx, hb, hml, hown, hts⟩ (m_thrown l μ 1 k (kQ k) M u2.2) (cwV 0 hts (gU (hd := [.methodLink "NoiseRingLaw" 69 yX1_thrown, .instanceMethod yX1_thrown, .selects "NoiseRingModel" yX1_thrown yX1_thrown, .initialized "NoiseRingModel"]) (List.forall_mem_cons.mpr ⟨u340, List.forall_mem_cons.mpr ⟨u341, List.forall_mem_cons.mpr ⟨u342, List.forall_mem_cons.mpr ⟨u30, fun _ h => by cases h⟩⟩⟩⟩) u343) rfl rfl rfl (by decide +kernel) ⟨Nat.le_of_ble_eq_true rfl, Nat.le_of_ble_eq_true rfl⟩) (gm_V hGM2) rfl rfl hl.1 rfl (lv_room (Nat.le_of_ble_eq_true rfl)) dL_law_578 ⟨by show _ ≤ 646401; omega, by show _ ≤ 7156900; omega⟩)) (fun r9 hr9 => ?_)
      subst hr9
      refine lv_iload hx hb dL_law_581 (lv_at hl 1 rfl) ?_
      refine ix_icmp_eq (tgt := 588) hx hb (by omega) (by omega) (by omega) (by omega) dL_law_583 (by decide) (fun h583 => ?_) (fun h583 => absurd h583 (by omega))
      refine lv_iload hx hb dL_law_588 (lv_at hl 1 rfl) ?_
      refine ix_if_ne (tgt := 605) hx hb (by omega) (by omega) dL_law_590 (by decide) (fun h590 => ?_) (fun h590 => absurd h590 (by omega))
      refine lv_goto (tgt := 1230) hx hb dL_law_605 (by decide) ?_
      refine W.widen (k := cells + 4) (n := slots + 24) (by omega) (by omega) ?_
      exact kk ls _ _ ⟨k, M, u.2, u2.2, 1, _, ⟨k1, k2, hM⟩, lv_sub hl [2, 3, 4, 5, 6] rfl, hCX2, hC2, hO2, hS2⟩
    · exfalso; omega
  · rcases hp2 with ⟨hok2, g0, rfl⟩ | ⟨hb12, g0⟩ | ⟨hb22, g0⟩
    · exfalso; omega
    · exfalso; omega
    · skip
      have hC1 := hB.2 (by rw [h0]; decide)
      have hC2 := hB2.2 (by rw [g0]; decide)
      rw [ht2, g0] at hC2
      rw [ht] at hC1
      rw [h0] at hl
      have hCX2 := hC1.1.keptA (fun a9 g9 h9 => hk2 a9 g9 (hD.2.2.2.2.2.2.1 a9 h9))
      have hO2 : OU cL ou _ H2 := (hk2 ou (Array.getElem?_eq_some_iff.mp hC1.2).1 hD.2.2.2.2.2.2.2.2).trans hC1.2
      have hGM2 := hD.gm hC2
      have hl : lv_has ls 7 [(5, .int (iI (2))), (4, .int (iI ((n : Nat)))), (0, .ref (b)), (1, .ref (ox ω)), (2, .ref (mo μ)), (3, .ref (ou))] := hl
      refine lv_istore (lv' := [(6, .int (r2)), (5, .int (iI (2))), (4, .int (iI ((n : Nat)))), (0, .ref (b)), (1, .ref (ox ω)), (2, .ref (mo μ)), (3, .ref (ou))]) hx hb dL_law_575 hl (by decide) rfl (fun ls hl => ?_)
      refine lv_aload_n hx hb dL_law_577 rfl (lv_at hl 5 rfl) ?_
      refine vp_callSi (va_Run.run (va_runV (As := []) (rest := []) ⟨hx, hb, hml, hown, hts⟩ (m_thrown l μ 2 k (kQ k) M u2.2) (cwV 0 hts (gU (hd := [.methodLink "NoiseRingLaw" 69 yX1_thrown, .instanceMethod yX1_thrown, .selects "NoiseRingModel" yX1_thrown yX1_thrown, .initialized "NoiseRingModel"]) (List.forall_mem_cons.mpr ⟨u340, List.forall_mem_cons.mpr ⟨u341, List.forall_mem_cons.mpr ⟨u342, List.forall_mem_cons.mpr ⟨u30, fun _ h => by cases h⟩⟩⟩⟩) u343) rfl rfl rfl (by decide +kernel) ⟨Nat.le_of_ble_eq_true rfl, Nat.le_of_ble_eq_true rfl⟩) (gm_V hGM2) rfl rfl hl.1 rfl (lv_room (Nat.le_of_ble_eq_true rfl)) dL_law_578 ⟨by show _ ≤ 646401; omega, by show _ ≤ 7156900; omega⟩)) (fun r9 hr9 => ?_)
      subst hr9
      refine lv_iload hx hb dL_law_581 (lv_at hl 1 rfl) ?_
      refine ix_icmp_eq (tgt := 588) hx hb (by omega) (by omega) (by omega) (by omega) dL_law_583 (by decide) (fun h583 => ?_) (fun h583 => absurd h583 (by omega))
      refine lv_iload hx hb dL_law_588 (lv_at hl 1 rfl) ?_
      refine ix_if_ne (tgt := 605) hx hb (by omega) (by omega) dL_law_590 (by decide) (fun h590 => ?_) (fun h590 => absurd h590 (by omega))
      refine lv_goto (tgt := 1230) hx hb dL_law_605 (by decide) ?_
      refine W.widen (k := cells + 4) (n := slots + 24) (by omega) (by omega) ?_
      exact kk ls _ _ ⟨k, M, u.2, u2.2, 2, _, ⟨k1, k2, hM⟩, lv_sub hl [2, 3, 4, 5, 6] rfl, hCX2, hC2, hO2, hS2⟩
set_option maxHeartbeats 4000000 in
set_option maxRecDepth 100000 in
theorem l_hint {p : Program} {l : Launch} {e : Env} {s : State} {m : MethodId} {args : Array Value} {below : List Frame} {meth : Method} {c : Code} {H : Heap} {locs : List Loc} {cells slots : Nat} {Q : State → Prop} {ls : Array Slot} {b L n : Nat} {xs : Nat → Int32} {ω : WX} {μ : WM} {cL : ClassId} {ou : Nat} (htr : l.stackTraces = false) (hx : p.tables.exec = Jvm.exec) (hb : c.code = cL_law) (hml : c.maxLocals = 7) (hown : s.vm.findClass "NoiseRingLaw" = some m.cls) (hts : ∀ w ∈ wsU, w.before args s = true) (hX : va_X b L xs s s.heap) (hbl : b < s.heap.size) (hL : L ≤ 3584) (hD : DL ω μ cL ou s) (hn : n + 7 ≤ L) (hw : WL ω μ cL ou b s n ls H locs) (hc : cells + 4 ≤ 646401) (hsl : slots + 24 ≤ 7156900)
    (kk : ∀ (ls' : Array Slot) (H' : Heap) (locs' : List Loc), WL ω μ cL ou b s n ls' H' locs' → W p l e room_1 s m args below meth c H' locs' (cells + 4) (slots + 24) Q (F0 m 1230 ls' [])) : W p l e room_1 s m args below meth c H locs cells slots Q (F0 m 608 ls []) := by
  obtain ⟨k, M, wk, f, th, o, ⟨k1, k2, hM⟩, hl, hCX, hCM, hO, hS⟩ := hw
  obtain ⟨hq1, hq2⟩ := kQ_in (k := k)
  have qo := kQ_odd k
  have hG := hD.gx hS hCX
  have hGM := hD.gm hCM
  have hAw : ∀ q9, Aw ω ou q9 → s.heap.size ≤ q9 := fun q9 h => h.elim (hD.2.2.2.1 q9) (fun e9 => by rw [e9]; exact hD.2.2.2.2.2.1)
  obtain ⟨v1, ⟨v1a, v1b⟩, e1⟩ := iI_of (xs (n + 1))
  obtain ⟨v2, ⟨v2a, v2b⟩, e2⟩ := iI_of (xs (n + 2))
  obtain ⟨v3, ⟨v3a, v3b⟩, e3⟩ := iI_of (xs (n + 3))
  obtain ⟨v4, ⟨v4a, v4b⟩, e4⟩ := iI_of (xs (n + 4))
  have hl : lv_has ls 7 [(4, .int (iI ((n : Nat)))), (0, .ref (b)), (1, .ref (ox ω)), (2, .ref (mo μ)), (3, .ref (ou))] := hl
  refine lv_aload_n hx hb dL_law_608 rfl (lv_at hl 2 rfl) ?_
  refine lv_aload_n hx hb dL_law_609 rfl (lv_at hl 1 rfl) ?_
  refine lv_iload hx hb dL_law_610 (lv_at hl 0 rfl) ?_
  refine ix_iconst hx hb dL_law_612 ?_
  refine ix_iadd hx hb dL_law_613 ?_
  refine wx_i (congrArg iI (show ((n : Nat) : Int) + 1 = ((n + 1 : Nat) : Int) by omega)) ?_
  refine sc_ld hx hb hX hbl hS (n := n + 1) (by omega) hL e1 dL_law_614 ?_
  refine lv_aload_n hx hb dL_law_615 rfl (lv_at hl 1 rfl) ?_
  refine lv_iload hx hb dL_law_616 (lv_at hl 0 rfl) ?_
  refine ix_iconst hx hb dL_law_618 ?_
  refine ix_iadd hx hb dL_law_619 ?_
  refine wx_i (congrArg iI (show ((n : Nat) : Int) + 2 = ((n + 2 : Nat) : Int) by omega)) ?_
  refine sc_ld hx hb hX hbl hS (n := n + 2) (by omega) hL e2 dL_law_620 ?_
  refine lv_aload_n hx hb dL_law_621 rfl (lv_at hl 1 rfl) ?_
  refine lv_iload hx hb dL_law_622 (lv_at hl 0 rfl) ?_
  refine ix_iconst hx hb dL_law_624 ?_
  refine ix_iadd hx hb dL_law_625 ?_
  refine wx_i (congrArg iI (show ((n : Nat) : Int) + 3 = ((n + 3 : Nat) : Int) by omega)) ?_
  refine sc_ld hx hb hX hbl hS (n := n + 3) (by omega) hL e3 dL_law_626 ?_
  refine lv_aload_n hx hb dL_law_627 rfl (lv_at hl 1 rfl) ?_
  refine lv_iload hx hb dL_law_628 (lv_at hl 0 rfl) ?_
  refine ix_iconst hx hb dL_law_630 ?_
  refine ix_iadd hx hb dL_law_631 ?_
  refine wx_i (congrArg iI (show ((n : Nat) : Int) + 4 = ((n + 4 : Nat) : Int) by omega)) ?_
  refine sc_ld hx hb hX hbl hS (n := n + 4) (by omega) hL e4 dL_law_632 ?_
  refine lv_aload_n hx hb dL_law_633 rfl (lv_at hl 4 rfl) ?_
  refine va_calli (vx_runSW (As := [.ref (ox ω), .int (iI (v1)), .int (iI (v2)), .int (iI (v3)), .int (iI (v4)), .ref (ou)]) (rest := []) ⟨hx, hb, hml, hown, hts⟩ (w_hint l htr ω cL ou o hD.2.2.2.2.2.2.2.1 k (kQ k) (kZ k) M wk v1 v2 v3 v4 v1a v1b v2a v2b v3a v3b v4a v4b hq1 hq2 hM) (vx_cwSW 6 hts (gU (hd := [.methodLink "NoiseRingLaw" 92 yL_hint, .static yL_hint, .initialized "NoiseRingLaw"]) (List.forall_mem_cons.mpr ⟨u259, List.forall_mem_cons.mpr ⟨u260, List.forall_mem_cons.mpr ⟨u28, fun _ h => by cases h⟩⟩⟩) u261) rfl rfl rfl (by decide +kernel) ⟨Nat.le_of_ble_eq_true rfl, Nat.le_of_ble_eq_true rfl⟩) (gw_S hG hD.2.2.1 hO) rfl rfl hl.1 rfl (lv_room (Nat.le_of_ble_eq_true rfl)) dL_law_634 ⟨by show _ ≤ 646401; omega, by show _ ≤ 7156900; omega⟩) hS (fun q9 _ h => hAw q9 h) (fun q9 h => hAw q9 h) (fun r u t H1 locs1 ht hvm hp hB hz hk hS1 => ?_)
  obtain ⟨hp, rfl⟩ := hp
  have hCM1 : CM μ th k (kQ k) M f H1 := hCM.kept (fun a9 g9 h9 => hk a9 g9 (fun e9 => e9.elim (fun e9 => hD.2.2.2.2.2.2.1 a9 e9 h9) (fun e9 => hD.2.2.2.2.2.2.2.2 (e9 ▸ h9))))
  have hGM := hD.gm hCM1
  have hS := hS1
  refine lv_istore (lv' := [(5, .int (iI (u.1))), (4, .int (iI ((n : Nat)))), (0, .ref (b)), (1, .ref (ox ω)), (2, .ref (mo μ)), (3, .ref (ou))]) hx hb dL_law_637 hl (by decide) rfl (fun ls hl => ?_)
  refine lv_aload_n hx hb dL_law_639 rfl (lv_at hl 4 rfl) ?_
  refine lv_aload_n hx hb dL_law_640 rfl (lv_at hl 2 rfl) ?_
  refine lv_iload hx hb dL_law_641 (lv_at hl 1 rfl) ?_
  refine ix_iconst hx hb dL_law_643 ?_
  refine ix_iadd hx hb dL_law_644 ?_
  refine wx_i (congrArg iI (show ((n : Nat) : Int) + 1 = ((n + 1 : Nat) : Int) by omega)) ?_
  refine sc_ld hx hb hX hbl hS (n := n + 1) (by omega) hL e1 dL_law_645 ?_
  refine lv_aload_n hx hb dL_law_646 rfl (lv_at hl 2 rfl) ?_
  refine lv_iload hx hb dL_law_647 (lv_at hl 1 rfl) ?_
  refine ix_iconst hx hb dL_law_649 ?_
  refine ix_iadd hx hb dL_law_650 ?_
  refine wx_i (congrArg iI (show ((n : Nat) : Int) + 2 = ((n + 2 : Nat) : Int) by omega)) ?_
  refine sc_ld hx hb hX hbl hS (n := n + 2) (by omega) hL e2 dL_law_651 ?_
  refine lv_aload_n hx hb dL_law_652 rfl (lv_at hl 2 rfl) ?_
  refine lv_iload hx hb dL_law_653 (lv_at hl 1 rfl) ?_
  refine ix_iconst hx hb dL_law_655 ?_
  refine ix_iadd hx hb dL_law_656 ?_
  refine wx_i (congrArg iI (show ((n : Nat) : Int) + 3 = ((n + 3 : Nat) : Int) by omega)) ?_
  refine sc_ld hx hb hX hbl hS (n := n + 3) (by omega) hL e3 dL_law_657 ?_
  refine lv_aload_n hx hb dL_law_658 rfl (lv_at hl 2 rfl) ?_
  refine lv_iload hx hb dL_law_659 (lv_at hl 1 rfl) ?_
  refine ix_iconst hx hb dL_law_661 ?_
  refine ix_iadd hx hb dL_law_662 ?_
  refine wx_i (congrArg iI (show ((n : Nat) : Int) + 4 = ((n + 4 : Nat) : Int) by omega)) ?_
  refine sc_ld hx hb hX hbl hS (n := n + 4) (by omega) hL e4 dL_law_663 ?_
  refine va_calli (va_runV (As := [.int (iI (v1)), .int (iI (v2)), .int (iI (v3)), .int (iI (v4))]) (rest := []) ⟨hx, hb, hml, hown, hts⟩ (m_hint l μ th k (kQ k) M f v1 v2 v3 v4 v1a v1b v2a v2b v3a v3b v4a v4b hq1 hq2 hM) (cwV 4 hts (gU (hd := [.methodLink "NoiseRingLaw" 94 yX1_hint, .instanceMethod yX1_hint, .selects "NoiseRingModel" yX1_hint yX1_hint, .initialized "NoiseRingModel"]) (List.forall_mem_cons.mpr ⟨u402, List.forall_mem_cons.mpr ⟨u403, List.forall_mem_cons.mpr ⟨u404, List.forall_mem_cons.mpr ⟨u30, fun _ h => by cases h⟩⟩⟩⟩) u405) rfl rfl rfl (by decide +kernel) ⟨Nat.le_of_ble_eq_true rfl, Nat.le_of_ble_eq_true rfl⟩) (gm_V hGM) rfl rfl hl.1 rfl (lv_room (Nat.le_of_ble_eq_true rfl)) dL_law_664 ⟨by show _ ≤ 646401; omega, by show _ ≤ 7156900; omega⟩) hS (fun q9 _ h => hD.2.2.2.2.1 q9 h) (fun q9 h => hD.2.2.2.2.1 q9 h) (fun r2 u2 t2 H2 locs2 ht2 hvm2 hp2 hB2 hz2 hk2 hS2 => ?_)
  rcases hp with ⟨hok, h0⟩ | ⟨hb1, h0⟩ | ⟨hb2, h0⟩
  · rcases hp2 with ⟨hok2, g0, rfl⟩ | ⟨hb12, g0⟩ | ⟨hb22, g0⟩
    · skip
      have hC1 := hB.1 h0
      have hC2 := hB2.1 g0
      rw [ht2] at hC2
      rw [ht] at hC1
      rw [h0] at hl
      have hCX2 := hC1.1.keptA (fun a9 g9 h9 => hk2 a9 g9 (hD.2.2.2.2.2.2.1 a9 h9))
      have hO2 : OU cL ou _ H2 := (hk2 ou (Array.getElem?_eq_some_iff.mp hC1.2).1 hD.2.2.2.2.2.2.2.2).trans hC1.2
      have hGM2 := hD.gm hC2
      have hl : lv_has ls 7 [(5, .int (iI (0))), (4, .int (iI ((n : Nat)))), (0, .ref (b)), (1, .ref (ox ω)), (2, .ref (mo μ)), (3, .ref (ou))] := hl
      refine lv_istore (lv' := [(6, .int (iI (sCnt (fun i => sHint (kQ k) v4 (M v2.toNat i) (M v3.toNat i)) 16))), (5, .int (iI (0))), (4, .int (iI ((n : Nat)))), (0, .ref (b)), (1, .ref (ox ω)), (2, .ref (mo μ)), (3, .ref (ou))]) hx hb dL_law_667 hl (by decide) rfl (fun ls hl => ?_)
      refine lv_aload_n hx hb dL_law_669 rfl (lv_at hl 5 rfl) ?_
      refine vp_callSi (va_Run.run (va_runV (As := []) (rest := []) ⟨hx, hb, hml, hown, hts⟩ (m_thrown l μ 0 k (kQ k) (mixR M v1.toNat (fun i => sHint (kQ k) v4 (M v2.toNat i) (M v3.toNat i)) 16) u2.2) (cwV 0 hts (gU (hd := [.methodLink "NoiseRingLaw" 69 yX1_thrown, .instanceMethod yX1_thrown, .selects "NoiseRingModel" yX1_thrown yX1_thrown, .initialized "NoiseRingModel"]) (List.forall_mem_cons.mpr ⟨u340, List.forall_mem_cons.mpr ⟨u341, List.forall_mem_cons.mpr ⟨u342, List.forall_mem_cons.mpr ⟨u30, fun _ h => by cases h⟩⟩⟩⟩) u343) rfl rfl rfl (by decide +kernel) ⟨Nat.le_of_ble_eq_true rfl, Nat.le_of_ble_eq_true rfl⟩) (gm_V hGM2) rfl rfl hl.1 rfl (lv_room (Nat.le_of_ble_eq_true rfl)) dL_law_670 ⟨by show _ ≤ 646401; omega, by show _ ≤ 7156900; omega⟩)) (fun r9 hr9 => ?_)
      subst hr9
      refine lv_iload hx hb dL_law_673 (lv_at hl 1 rfl) ?_
      refine ix_icmp_eq (tgt := 680) hx hb (by omega) (by omega) (by omega) (by omega) dL_law_675 (by decide) (fun h675 => ?_) (fun h675 => absurd h675 (by omega))
      refine lv_iload hx hb dL_law_680 (lv_at hl 1 rfl) ?_
      refine ix_if_ne (tgt := 697) hx hb (by omega) (by omega) dL_law_682 (by decide) (fun h682 => absurd h682 (by omega)) (fun h682 => ?_)
      refine lv_aload_n hx hb dL_law_685 rfl (lv_at hl 6 rfl) ?_
      refine ix_iconst hx hb dL_law_686 ?_
      refine ou_ld hx hb hO2 hD.2.2.1 dL_law_687 ?_
      refine lv_iload hx hb dL_law_688 (lv_at hl 0 rfl) ?_
      refine lv_i2l hx hb dL_law_690 rfl ?_
      refine lx_same (tgt := 697) hx hb dL_law_691 dL_law_692 (by decide) ?_
      refine lv_goto (tgt := 1230) hx hb dL_law_697 (by decide) ?_
      refine W.widen (k := cells + 4) (n := slots + 24) (by omega) (by omega) ?_
      exact kk ls _ _ ⟨k, (mixR M v1.toNat (fun i => sHint (kQ k) v4 (M v2.toNat i) (M v3.toNat i)) 16), u.2, u2.2, 0, _, ⟨by omega, by omega, bd_hint (by omega) hM⟩, lv_sub hl [2, 3, 4, 5, 6] rfl, hCX2, hC2, hO2, hS2⟩
    · exfalso; omega
    · exfalso; omega
  · rcases hp2 with ⟨hok2, g0, rfl⟩ | ⟨hb12, g0⟩ | ⟨hb22, g0⟩
    · exfalso; omega
    · skip
      have hC1 := hB.2 (by rw [h0]; decide)
      have hC2 := hB2.2 (by rw [g0]; decide)
      rw [ht2, g0] at hC2
      rw [ht] at hC1
      rw [h0] at hl
      have hCX2 := hC1.1.keptA (fun a9 g9 h9 => hk2 a9 g9 (hD.2.2.2.2.2.2.1 a9 h9))
      have hO2 : OU cL ou _ H2 := (hk2 ou (Array.getElem?_eq_some_iff.mp hC1.2).1 hD.2.2.2.2.2.2.2.2).trans hC1.2
      have hGM2 := hD.gm hC2
      have hl : lv_has ls 7 [(5, .int (iI (1))), (4, .int (iI ((n : Nat)))), (0, .ref (b)), (1, .ref (ox ω)), (2, .ref (mo μ)), (3, .ref (ou))] := hl
      refine lv_istore (lv' := [(6, .int (r2)), (5, .int (iI (1))), (4, .int (iI ((n : Nat)))), (0, .ref (b)), (1, .ref (ox ω)), (2, .ref (mo μ)), (3, .ref (ou))]) hx hb dL_law_667 hl (by decide) rfl (fun ls hl => ?_)
      refine lv_aload_n hx hb dL_law_669 rfl (lv_at hl 5 rfl) ?_
      refine vp_callSi (va_Run.run (va_runV (As := []) (rest := []) ⟨hx, hb, hml, hown, hts⟩ (m_thrown l μ 1 k (kQ k) M u2.2) (cwV 0 hts (gU (hd := [.methodLink "NoiseRingLaw" 69 yX1_thrown, .instanceMethod yX1_thrown, .selects "NoiseRingModel" yX1_thrown yX1_thrown, .initialized "NoiseRingModel"]) (List.forall_mem_cons.mpr ⟨u340, List.forall_mem_cons.mpr ⟨u341, List.forall_mem_cons.mpr ⟨u342, List.forall_mem_cons.mpr ⟨u30, fun _ h => by cases h⟩⟩⟩⟩) u343) rfl rfl rfl (by decide +kernel) ⟨Nat.le_of_ble_eq_true rfl, Nat.le_of_ble_eq_true rfl⟩) (gm_V hGM2) rfl rfl hl.1 rfl (lv_room (Nat.le_of_ble_eq_true rfl)) dL_law_670 ⟨by show _ ≤ 646401; omega, by show _ ≤ 7156900; omega⟩)) (fun r9 hr9 => ?_)
      subst hr9
      refine lv_iload hx hb dL_law_673 (lv_at hl 1 rfl) ?_
      refine ix_icmp_eq (tgt := 680) hx hb (by omega) (by omega) (by omega) (by omega) dL_law_675 (by decide) (fun h675 => ?_) (fun h675 => absurd h675 (by omega))
      refine lv_iload hx hb dL_law_680 (lv_at hl 1 rfl) ?_
      refine ix_if_ne (tgt := 697) hx hb (by omega) (by omega) dL_law_682 (by decide) (fun h682 => ?_) (fun h682 => absurd h682 (by omega))
      refine lv_goto (tgt := 1230) hx hb dL_law_697 (by decide) ?_
      refine W.widen (k := cells + 4) (n := slots + 24) (by omega) (by omega) ?_
      exact kk ls _ _ ⟨k, M, u.2, u2.2, 1, _, ⟨k1, k2, hM⟩, lv_sub hl [2, 3, 4, 5, 6] rfl, hCX2, hC2, hO2, hS2⟩
    · exfalso; omega
  · rcases hp2 with ⟨hok2, g0, rfl⟩ | ⟨hb12, g0⟩ | ⟨hb22, g0⟩
    · exfalso; omega
    · exfalso; omega
    · skip
      have hC1 := hB.2 (by rw [h0]; decide)
      have hC2 := hB2.2 (by rw [g0]; decide)
      rw [ht2, g0] at hC2
      rw [ht] at hC1
      rw [h0] at hl
      have hCX2 := hC1.1.keptA (fun a9 g9 h9 => hk2 a9 g9 (hD.2.2.2.2.2.2.1 a9 h9))
      have hO2 : OU cL ou _ H2 := (hk2 ou (Array.getElem?_eq_some_iff.mp hC1.2).1 hD.2.2.2.2.2.2.2.2).trans hC1.2
      have hGM2 := hD.gm hC2
      have hl : lv_has ls 7 [(5, .int (iI (2))), (4, .int (iI ((n : Nat)))), (0, .ref (b)), (1, .ref (ox ω)), (2, .ref (mo μ)), (3, .ref (ou))] := hl
      refine lv_istore (lv' := [(6, .int (r2)), (5, .int (iI (2))), (4, .int (iI ((n : Nat)))), (0, .ref (b)), (1, .ref (ox ω)), (2, .ref (mo μ)), (3, .ref (ou))]) hx hb dL_law_667 hl (by decide) rfl (fun ls hl => ?_)
      refine lv_aload_n hx hb dL_law_669 rfl (lv_at hl 5 rfl) ?_
      refine vp_callSi (va_Run.run (va_runV (As := []) (rest := []) ⟨hx, hb, hml, hown, hts⟩ (m_thrown l μ 2 k (kQ k) M u2.2) (cwV 0 hts (gU (hd := [.methodLink "NoiseRingLaw" 69 yX1_thrown, .instanceMethod yX1_thrown, .selects "NoiseRingModel" yX1_thrown yX1_thrown, .initialized "NoiseRingModel"]) (List.forall_mem_cons.mpr ⟨u340, List.forall_mem_cons.mpr ⟨u341, List.forall_mem_cons.mpr ⟨u342, List.forall_mem_cons.mpr ⟨u30, fun _ h => by cases h⟩⟩⟩⟩) u343) rfl rfl rfl (by decide +kernel) ⟨Nat.le_of_ble_eq_true rfl, Nat.le_of_ble_eq_true rfl⟩) (gm_V hGM2) rfl rfl hl.1 rfl (lv_room (Nat.le_of_ble_eq_true rfl)) dL_law_670 ⟨by show _ ≤ 646401; omega, by show _ ≤ 7156900; omega⟩)) (fun r9 hr9 => ?_)
      subst hr9
      refine lv_iload hx hb dL_law_673 (lv_at hl 1 rfl) ?_
      refine ix_icmp_eq (tgt := 680) hx hb (by omega) (by omega) (by omega) (by omega) dL_law_675 (by decide) (fun h675 => ?_) (fun h675 => absurd h675 (by omega))
      refine lv_iload hx hb dL_law_680 (lv_at hl 1 rfl) ?_
      refine ix_if_ne (tgt := 697) hx hb (by omega) (by omega) dL_law_682 (by decide) (fun h682 => ?_) (fun h682 => absurd h682 (by omega))
      refine lv_goto (tgt := 1230) hx hb dL_law_697 (by decide) ?_
      refine W.widen (k := cells + 4) (n := slots + 24) (by omega) (by omega) ?_
      exact kk ls _ _ ⟨k, M, u.2, u2.2, 2, _, ⟨k1, k2, hM⟩, lv_sub hl [2, 3, 4, 5, 6] rfl, hCX2, hC2, hO2, hS2⟩
set_option maxHeartbeats 4000000 in
set_option maxRecDepth 100000 in
theorem l_use {p : Program} {l : Launch} {e : Env} {s : State} {m : MethodId} {args : Array Value} {below : List Frame} {meth : Method} {c : Code} {H : Heap} {locs : List Loc} {cells slots : Nat} {Q : State → Prop} {ls : Array Slot} {b L n : Nat} {xs : Nat → Int32} {ω : WX} {μ : WM} {cL : ClassId} {ou : Nat} (htr : l.stackTraces = false) (hx : p.tables.exec = Jvm.exec) (hb : c.code = cL_law) (hml : c.maxLocals = 7) (hown : s.vm.findClass "NoiseRingLaw" = some m.cls) (hts : ∀ w ∈ wsU, w.before args s = true) (hX : va_X b L xs s s.heap) (hbl : b < s.heap.size) (hL : L ≤ 3584) (hD : DL ω μ cL ou s) (hn : n + 7 ≤ L) (hw : WL ω μ cL ou b s n ls H locs) (hc : cells + 4 ≤ 646401) (hsl : slots + 24 ≤ 7156900)
    (kk : ∀ (ls' : Array Slot) (H' : Heap) (locs' : List Loc), WL ω μ cL ou b s n ls' H' locs' → W p l e room_1 s m args below meth c H' locs' (cells + 4) (slots + 24) Q (F0 m 1230 ls' [])) : W p l e room_1 s m args below meth c H locs cells slots Q (F0 m 700 ls []) := by
  obtain ⟨k, M, wk, f, th, o, ⟨k1, k2, hM⟩, hl, hCX, hCM, hO, hS⟩ := hw
  obtain ⟨hq1, hq2⟩ := kQ_in (k := k)
  have qo := kQ_odd k
  have hG := hD.gx hS hCX
  have hGM := hD.gm hCM
  have hAw : ∀ q9, Aw ω ou q9 → s.heap.size ≤ q9 := fun q9 h => h.elim (hD.2.2.2.1 q9) (fun e9 => by rw [e9]; exact hD.2.2.2.2.2.1)
  obtain ⟨v1, ⟨v1a, v1b⟩, e1⟩ := iI_of (xs (n + 1))
  obtain ⟨v2, ⟨v2a, v2b⟩, e2⟩ := iI_of (xs (n + 2))
  obtain ⟨v3, ⟨v3a, v3b⟩, e3⟩ := iI_of (xs (n + 3))
  obtain ⟨v4, ⟨v4a, v4b⟩, e4⟩ := iI_of (xs (n + 4))
  have hl : lv_has ls 7 [(4, .int (iI ((n : Nat)))), (0, .ref (b)), (1, .ref (ox ω)), (2, .ref (mo μ)), (3, .ref (ou))] := hl
  refine lv_aload_n hx hb dL_law_700 rfl (lv_at hl 2 rfl) ?_
  refine lv_aload_n hx hb dL_law_701 rfl (lv_at hl 1 rfl) ?_
  refine lv_iload hx hb dL_law_702 (lv_at hl 0 rfl) ?_
  refine ix_iconst hx hb dL_law_704 ?_
  refine ix_iadd hx hb dL_law_705 ?_
  refine wx_i (congrArg iI (show ((n : Nat) : Int) + 1 = ((n + 1 : Nat) : Int) by omega)) ?_
  refine sc_ld hx hb hX hbl hS (n := n + 1) (by omega) hL e1 dL_law_706 ?_
  refine lv_aload_n hx hb dL_law_707 rfl (lv_at hl 1 rfl) ?_
  refine lv_iload hx hb dL_law_708 (lv_at hl 0 rfl) ?_
  refine ix_iconst hx hb dL_law_710 ?_
  refine ix_iadd hx hb dL_law_711 ?_
  refine wx_i (congrArg iI (show ((n : Nat) : Int) + 2 = ((n + 2 : Nat) : Int) by omega)) ?_
  refine sc_ld hx hb hX hbl hS (n := n + 2) (by omega) hL e2 dL_law_712 ?_
  refine lv_aload_n hx hb dL_law_713 rfl (lv_at hl 1 rfl) ?_
  refine lv_iload hx hb dL_law_714 (lv_at hl 0 rfl) ?_
  refine ix_iconst hx hb dL_law_716 ?_
  refine ix_iadd hx hb dL_law_717 ?_
  refine wx_i (congrArg iI (show ((n : Nat) : Int) + 3 = ((n + 3 : Nat) : Int) by omega)) ?_
  refine sc_ld hx hb hX hbl hS (n := n + 3) (by omega) hL e3 dL_law_718 ?_
  refine lv_aload_n hx hb dL_law_719 rfl (lv_at hl 1 rfl) ?_
  refine lv_iload hx hb dL_law_720 (lv_at hl 0 rfl) ?_
  refine ix_iconst hx hb dL_law_722 ?_
  refine ix_iadd hx hb dL_law_723 ?_
  refine wx_i (congrArg iI (show ((n : Nat) : Int) + 4 = ((n + 4 : Nat) : Int) by omega)) ?_
  refine sc_ld hx hb hX hbl hS (n := n + 4) (by omega) hL e4 dL_law_724 ?_
  refine lv_aload_n hx hb dL_law_725 rfl (lv_at hl 4 rfl) ?_
  refine va_calli (vx_runSW (As := [.ref (ox ω), .int (iI (v1)), .int (iI (v2)), .int (iI (v3)), .int (iI (v4)), .ref (ou)]) (rest := []) ⟨hx, hb, hml, hown, hts⟩ (w_use l htr ω cL ou o hD.2.2.2.2.2.2.2.1 k (kQ k) (kZ k) M wk v1 v2 v3 v4 v1a v1b v2a v2b v3a v3b v4a v4b hq1 hq2 hM) (vx_cwSW 6 hts (gU (hd := [.methodLink "NoiseRingLaw" 95 yL_use, .static yL_use, .initialized "NoiseRingLaw"]) (List.forall_mem_cons.mpr ⟨u266, List.forall_mem_cons.mpr ⟨u267, List.forall_mem_cons.mpr ⟨u28, fun _ h => by cases h⟩⟩⟩) u268) rfl rfl rfl (by decide +kernel) ⟨Nat.le_of_ble_eq_true rfl, Nat.le_of_ble_eq_true rfl⟩) (gw_S hG hD.2.2.1 hO) rfl rfl hl.1 rfl (lv_room (Nat.le_of_ble_eq_true rfl)) dL_law_726 ⟨by show _ ≤ 646401; omega, by show _ ≤ 7156900; omega⟩) hS (fun q9 _ h => hAw q9 h) (fun q9 h => hAw q9 h) (fun r u t H1 locs1 ht hvm hp hB hz hk hS1 => ?_)
  obtain ⟨hp, rfl⟩ := hp
  have hCM1 : CM μ th k (kQ k) M f H1 := hCM.kept (fun a9 g9 h9 => hk a9 g9 (fun e9 => e9.elim (fun e9 => hD.2.2.2.2.2.2.1 a9 e9 h9) (fun e9 => hD.2.2.2.2.2.2.2.2 (e9 ▸ h9))))
  have hGM := hD.gm hCM1
  have hS := hS1
  refine lv_istore (lv' := [(5, .int (iI (u.1))), (4, .int (iI ((n : Nat)))), (0, .ref (b)), (1, .ref (ox ω)), (2, .ref (mo μ)), (3, .ref (ou))]) hx hb dL_law_729 hl (by decide) rfl (fun ls hl => ?_)
  refine lv_aload_n hx hb dL_law_731 rfl (lv_at hl 4 rfl) ?_
  refine lv_aload_n hx hb dL_law_732 rfl (lv_at hl 2 rfl) ?_
  refine lv_iload hx hb dL_law_733 (lv_at hl 1 rfl) ?_
  refine ix_iconst hx hb dL_law_735 ?_
  refine ix_iadd hx hb dL_law_736 ?_
  refine wx_i (congrArg iI (show ((n : Nat) : Int) + 1 = ((n + 1 : Nat) : Int) by omega)) ?_
  refine sc_ld hx hb hX hbl hS (n := n + 1) (by omega) hL e1 dL_law_737 ?_
  refine lv_aload_n hx hb dL_law_738 rfl (lv_at hl 2 rfl) ?_
  refine lv_iload hx hb dL_law_739 (lv_at hl 1 rfl) ?_
  refine ix_iconst hx hb dL_law_741 ?_
  refine ix_iadd hx hb dL_law_742 ?_
  refine wx_i (congrArg iI (show ((n : Nat) : Int) + 2 = ((n + 2 : Nat) : Int) by omega)) ?_
  refine sc_ld hx hb hX hbl hS (n := n + 2) (by omega) hL e2 dL_law_743 ?_
  refine lv_aload_n hx hb dL_law_744 rfl (lv_at hl 2 rfl) ?_
  refine lv_iload hx hb dL_law_745 (lv_at hl 1 rfl) ?_
  refine ix_iconst hx hb dL_law_747 ?_
  refine ix_iadd hx hb dL_law_748 ?_
  refine wx_i (congrArg iI (show ((n : Nat) : Int) + 3 = ((n + 3 : Nat) : Int) by omega)) ?_
  refine sc_ld hx hb hX hbl hS (n := n + 3) (by omega) hL e3 dL_law_749 ?_
  refine lv_aload_n hx hb dL_law_750 rfl (lv_at hl 2 rfl) ?_
  refine lv_iload hx hb dL_law_751 (lv_at hl 1 rfl) ?_
  refine ix_iconst hx hb dL_law_753 ?_
  refine ix_iadd hx hb dL_law_754 ?_
  refine wx_i (congrArg iI (show ((n : Nat) : Int) + 4 = ((n + 4 : Nat) : Int) by omega)) ?_
  refine sc_ld hx hb hX hbl hS (n := n + 4) (by omega) hL e4 dL_law_755 ?_
  refine va_calli (va_runV (As := [.int (iI (v1)), .int (iI (v2)), .int (iI (v3)), .int (iI (v4))]) (rest := []) ⟨hx, hb, hml, hown, hts⟩ (m_use l μ th k (kQ k) M f v1 v2 v3 v4 v1a v1b v2a v2b v3a v3b v4a v4b hq1 hq2 hM) (cwV 4 hts (gU (hd := [.methodLink "NoiseRingLaw" 97 yX1_use, .instanceMethod yX1_use, .selects "NoiseRingModel" yX1_use yX1_use, .initialized "NoiseRingModel"]) (List.forall_mem_cons.mpr ⟨u406, List.forall_mem_cons.mpr ⟨u407, List.forall_mem_cons.mpr ⟨u408, List.forall_mem_cons.mpr ⟨u30, fun _ h => by cases h⟩⟩⟩⟩) u409) rfl rfl rfl (by decide +kernel) ⟨Nat.le_of_ble_eq_true rfl, Nat.le_of_ble_eq_true rfl⟩) (gm_V hGM) rfl rfl hl.1 rfl (lv_room (Nat.le_of_ble_eq_true rfl)) dL_law_756 ⟨by show _ ≤ 646401; omega, by show _ ≤ 7156900; omega⟩) hS (fun q9 _ h => hD.2.2.2.2.1 q9 h) (fun q9 h => hD.2.2.2.2.1 q9 h) (fun r2 u2 t2 H2 locs2 ht2 hvm2 hp2 hB2 hz2 hk2 hS2 => ?_)
  rcases hp with ⟨hok, h0⟩ | ⟨hb1, h0⟩ | ⟨hb2, h0⟩
  · rcases hp2 with ⟨hok2, g0, rfl⟩ | ⟨hb12, g0⟩ | ⟨hb22, g0⟩
    · skip
      have hC1 := hB.1 h0
      have hC2 := hB2.1 g0
      rw [ht2] at hC2
      rw [ht] at hC1
      rw [h0] at hl
      have hCX2 := hC1.1.keptA (fun a9 g9 h9 => hk2 a9 g9 (hD.2.2.2.2.2.2.1 a9 h9))
      have hO2 : OU cL ou _ H2 := (hk2 ou (Array.getElem?_eq_some_iff.mp hC1.2).1 hD.2.2.2.2.2.2.2.2).trans hC1.2
      have hGM2 := hD.gm hC2
      have hl : lv_has ls 7 [(5, .int (iI (0))), (4, .int (iI ((n : Nat)))), (0, .ref (b)), (1, .ref (ox ω)), (2, .ref (mo μ)), (3, .ref (ou))] := hl
      refine lv_istore (lv' := [(6, .int (iI (sChg (kQ k) v4 (M v2.toNat) (M v3.toNat) 16))), (5, .int (iI (0))), (4, .int (iI ((n : Nat)))), (0, .ref (b)), (1, .ref (ox ω)), (2, .ref (mo μ)), (3, .ref (ou))]) hx hb dL_law_759 hl (by decide) rfl (fun ls hl => ?_)
      refine lv_aload_n hx hb dL_law_761 rfl (lv_at hl 5 rfl) ?_
      refine vp_callSi (va_Run.run (va_runV (As := []) (rest := []) ⟨hx, hb, hml, hown, hts⟩ (m_thrown l μ 0 k (kQ k) (mixR M v1.toNat (fun i => sUse (kQ k) v4 (M v2.toNat i) (M v3.toNat i)) 16) u2.2) (cwV 0 hts (gU (hd := [.methodLink "NoiseRingLaw" 69 yX1_thrown, .instanceMethod yX1_thrown, .selects "NoiseRingModel" yX1_thrown yX1_thrown, .initialized "NoiseRingModel"]) (List.forall_mem_cons.mpr ⟨u340, List.forall_mem_cons.mpr ⟨u341, List.forall_mem_cons.mpr ⟨u342, List.forall_mem_cons.mpr ⟨u30, fun _ h => by cases h⟩⟩⟩⟩) u343) rfl rfl rfl (by decide +kernel) ⟨Nat.le_of_ble_eq_true rfl, Nat.le_of_ble_eq_true rfl⟩) (gm_V hGM2) rfl rfl hl.1 rfl (lv_room (Nat.le_of_ble_eq_true rfl)) dL_law_762 ⟨by show _ ≤ 646401; omega, by show _ ≤ 7156900; omega⟩)) (fun r9 hr9 => ?_)
      subst hr9
      refine lv_iload hx hb dL_law_765 (lv_at hl 1 rfl) ?_
      refine ix_icmp_eq (tgt := 772) hx hb (by omega) (by omega) (by omega) (by omega) dL_law_767 (by decide) (fun h767 => ?_) (fun h767 => absurd h767 (by omega))
      refine lv_iload hx hb dL_law_772 (lv_at hl 1 rfl) ?_
      refine ix_if_ne (tgt := 789) hx hb (by omega) (by omega) dL_law_774 (by decide) (fun h774 => absurd h774 (by omega)) (fun h774 => ?_)
      refine lv_aload_n hx hb dL_law_777 rfl (lv_at hl 6 rfl) ?_
      refine ix_iconst hx hb dL_law_778 ?_
      refine ou_ld hx hb hO2 hD.2.2.1 dL_law_779 ?_
      refine lv_iload hx hb dL_law_780 (lv_at hl 0 rfl) ?_
      refine lv_i2l hx hb dL_law_782 rfl ?_
      refine lx_same (tgt := 789) hx hb dL_law_783 dL_law_784 (by decide) ?_
      refine lv_goto (tgt := 1230) hx hb dL_law_789 (by decide) ?_
      refine W.widen (k := cells + 4) (n := slots + 24) (by omega) (by omega) ?_
      exact kk ls _ _ ⟨k, (mixR M v1.toNat (fun i => sUse (kQ k) v4 (M v2.toNat i) (M v3.toNat i)) 16), u.2, u2.2, 0, _, ⟨by omega, by omega, bd_use (by omega) (by omega) hok.2 hM⟩, lv_sub hl [2, 3, 4, 5, 6] rfl, hCX2, hC2, hO2, hS2⟩
    · exfalso; omega
    · exfalso; omega
  · rcases hp2 with ⟨hok2, g0, rfl⟩ | ⟨hb12, g0⟩ | ⟨hb22, g0⟩
    · exfalso; omega
    · skip
      have hC1 := hB.2 (by rw [h0]; decide)
      have hC2 := hB2.2 (by rw [g0]; decide)
      rw [ht2, g0] at hC2
      rw [ht] at hC1
      rw [h0] at hl
      have hCX2 := hC1.1.keptA (fun a9 g9 h9 => hk2 a9 g9 (hD.2.2.2.2.2.2.1 a9 h9))
      have hO2 : OU cL ou _ H2 := (hk2 ou (Array.getElem?_eq_some_iff.mp hC1.2).1 hD.2.2.2.2.2.2.2.2).trans hC1.2
      have hGM2 := hD.gm hC2
      have hl : lv_has ls 7 [(5, .int (iI (1))), (4, .int (iI ((n : Nat)))), (0, .ref (b)), (1, .ref (ox ω)), (2, .ref (mo μ)), (3, .ref (ou))] := hl
      refine lv_istore (lv' := [(6, .int (r2)), (5, .int (iI (1))), (4, .int (iI ((n : Nat)))), (0, .ref (b)), (1, .ref (ox ω)), (2, .ref (mo μ)), (3, .ref (ou))]) hx hb dL_law_759 hl (by decide) rfl (fun ls hl => ?_)
      refine lv_aload_n hx hb dL_law_761 rfl (lv_at hl 5 rfl) ?_
      refine vp_callSi (va_Run.run (va_runV (As := []) (rest := []) ⟨hx, hb, hml, hown, hts⟩ (m_thrown l μ 1 k (kQ k) M u2.2) (cwV 0 hts (gU (hd := [.methodLink "NoiseRingLaw" 69 yX1_thrown, .instanceMethod yX1_thrown, .selects "NoiseRingModel" yX1_thrown yX1_thrown, .initialized "NoiseRingModel"]) (List.forall_mem_cons.mpr ⟨u340, List.forall_mem_cons.mpr ⟨u341, List.forall_mem_cons.mpr ⟨u342, List.forall_mem_cons.mpr ⟨u30, fun _ h => by cases h⟩⟩⟩⟩) u343) rfl rfl rfl (by decide +kernel) ⟨Nat.le_of_ble_eq_true rfl, Nat.le_of_ble_eq_true rfl⟩) (gm_V hGM2) rfl rfl hl.1 rfl (lv_room (Nat.le_of_ble_eq_true rfl)) dL_law_762 ⟨by show _ ≤ 646401; omega, by show _ ≤ 7156900; omega⟩)) (fun r9 hr9 => ?_)
      subst hr9
      refine lv_iload hx hb dL_law_765 (lv_at hl 1 rfl) ?_
      refine ix_icmp_eq (tgt := 772) hx hb (by omega) (by omega) (by omega) (by omega) dL_law_767 (by decide) (fun h767 => ?_) (fun h767 => absurd h767 (by omega))
      refine lv_iload hx hb dL_law_772 (lv_at hl 1 rfl) ?_
      refine ix_if_ne (tgt := 789) hx hb (by omega) (by omega) dL_law_774 (by decide) (fun h774 => ?_) (fun h774 => absurd h774 (by omega))
      refine lv_goto (tgt := 1230) hx hb dL_law_789 (by decide) ?_
      refine W.widen (k := cells + 4) (n := slots + 24) (by omega) (by omega) ?_
      exact kk ls _ _ ⟨k, M, u.2, u2.2, 1, _, ⟨k1, k2, hM⟩, lv_sub hl [2, 3, 4, 5, 6] rfl, hCX2, hC2, hO2, hS2⟩
    · exfalso; omega
  · rcases hp2 with ⟨hok2, g0, rfl⟩ | ⟨hb12, g0⟩ | ⟨hb22, g0⟩
    · exfalso; omega
    · exfalso; omega
    · skip
      have hC1 := hB.2 (by rw [h0]; decide)
      have hC2 := hB2.2 (by rw [g0]; decide)
      rw [ht2, g0] at hC2
      rw [ht] at hC1
      rw [h0] at hl
      have hCX2 := hC1.1.keptA (fun a9 g9 h9 => hk2 a9 g9 (hD.2.2.2.2.2.2.1 a9 h9))
      have hO2 : OU cL ou _ H2 := (hk2 ou (Array.getElem?_eq_some_iff.mp hC1.2).1 hD.2.2.2.2.2.2.2.2).trans hC1.2
      have hGM2 := hD.gm hC2
      have hl : lv_has ls 7 [(5, .int (iI (2))), (4, .int (iI ((n : Nat)))), (0, .ref (b)), (1, .ref (ox ω)), (2, .ref (mo μ)), (3, .ref (ou))] := hl
      refine lv_istore (lv' := [(6, .int (r2)), (5, .int (iI (2))), (4, .int (iI ((n : Nat)))), (0, .ref (b)), (1, .ref (ox ω)), (2, .ref (mo μ)), (3, .ref (ou))]) hx hb dL_law_759 hl (by decide) rfl (fun ls hl => ?_)
      refine lv_aload_n hx hb dL_law_761 rfl (lv_at hl 5 rfl) ?_
      refine vp_callSi (va_Run.run (va_runV (As := []) (rest := []) ⟨hx, hb, hml, hown, hts⟩ (m_thrown l μ 2 k (kQ k) M u2.2) (cwV 0 hts (gU (hd := [.methodLink "NoiseRingLaw" 69 yX1_thrown, .instanceMethod yX1_thrown, .selects "NoiseRingModel" yX1_thrown yX1_thrown, .initialized "NoiseRingModel"]) (List.forall_mem_cons.mpr ⟨u340, List.forall_mem_cons.mpr ⟨u341, List.forall_mem_cons.mpr ⟨u342, List.forall_mem_cons.mpr ⟨u30, fun _ h => by cases h⟩⟩⟩⟩) u343) rfl rfl rfl (by decide +kernel) ⟨Nat.le_of_ble_eq_true rfl, Nat.le_of_ble_eq_true rfl⟩) (gm_V hGM2) rfl rfl hl.1 rfl (lv_room (Nat.le_of_ble_eq_true rfl)) dL_law_762 ⟨by show _ ≤ 646401; omega, by show _ ≤ 7156900; omega⟩)) (fun r9 hr9 => ?_)
      subst hr9
      refine lv_iload hx hb dL_law_765 (lv_at hl 1 rfl) ?_
      refine ix_icmp_eq (tgt := 772) hx hb (by omega) (by omega) (by omega) (by omega) dL_law_767 (by decide) (fun h767 => ?_) (fun h767 => absurd h767 (by omega))
      refine lv_iload hx hb dL_law_772 (lv_at hl 1 rfl) ?_
      refine ix_if_ne (tgt := 789) hx hb (by omega) (by omega) dL_law_774 (by decide) (fun h774 => ?_) (fun h774 => absurd h774 (by omega))
      refine lv_goto (tgt := 1230) hx hb dL_law_789 (by decide) ?_
      refine W.widen (k := cells + 4) (n := slots + 24) (by omega) (by omega) ?_
      exact kk ls _ _ ⟨k, M, u.2, u2.2, 2, _, ⟨k1, k2, hM⟩, lv_sub hl [2, 3, 4, 5, 6] rfl, hCX2, hC2, hO2, hS2⟩
set_option maxHeartbeats 4000000 in
set_option maxRecDepth 100000 in
theorem l_size {p : Program} {l : Launch} {e : Env} {s : State} {m : MethodId} {args : Array Value} {below : List Frame} {meth : Method} {c : Code} {H : Heap} {locs : List Loc} {cells slots : Nat} {Q : State → Prop} {ls : Array Slot} {b L n : Nat} {xs : Nat → Int32} {ω : WX} {μ : WM} {cL : ClassId} {ou : Nat} (htr : l.stackTraces = false) (hx : p.tables.exec = Jvm.exec) (hb : c.code = cL_law) (hml : c.maxLocals = 7) (hown : s.vm.findClass "NoiseRingLaw" = some m.cls) (hts : ∀ w ∈ wsU, w.before args s = true) (hX : va_X b L xs s s.heap) (hbl : b < s.heap.size) (hL : L ≤ 3584) (hD : DL ω μ cL ou s) (hn : n + 7 ≤ L) (hw : WL ω μ cL ou b s n ls H locs) (hc : cells + 4 ≤ 646401) (hsl : slots + 24 ≤ 7156900)
    (kk : ∀ (ls' : Array Slot) (H' : Heap) (locs' : List Loc), WL ω μ cL ou b s n ls' H' locs' → W p l e room_1 s m args below meth c H' locs' (cells + 4) (slots + 24) Q (F0 m 1230 ls' [])) : W p l e room_1 s m args below meth c H locs cells slots Q (F0 m 792 ls []) := by
  obtain ⟨k, M, wk, f, th, o, ⟨k1, k2, hM⟩, hl, hCX, hCM, hO, hS⟩ := hw
  obtain ⟨hq1, hq2⟩ := kQ_in (k := k)
  have qo := kQ_odd k
  have hG := hD.gx hS hCX
  have hGM := hD.gm hCM
  have hAw : ∀ q9, Aw ω ou q9 → s.heap.size ≤ q9 := fun q9 h => h.elim (hD.2.2.2.1 q9) (fun e9 => by rw [e9]; exact hD.2.2.2.2.2.1)
  obtain ⟨v1, ⟨v1a, v1b⟩, e1⟩ := iI_of (xs (n + 1))
  have hl : lv_has ls 7 [(4, .int (iI ((n : Nat)))), (0, .ref (b)), (1, .ref (ox ω)), (2, .ref (mo μ)), (3, .ref (ou))] := hl
  refine lv_aload_n hx hb dL_law_792 rfl (lv_at hl 2 rfl) ?_
  refine lv_aload_n hx hb dL_law_793 rfl (lv_at hl 1 rfl) ?_
  refine lv_iload hx hb dL_law_794 (lv_at hl 0 rfl) ?_
  refine ix_iconst hx hb dL_law_796 ?_
  refine ix_iadd hx hb dL_law_797 ?_
  refine wx_i (congrArg iI (show ((n : Nat) : Int) + 1 = ((n + 1 : Nat) : Int) by omega)) ?_
  refine sc_ld hx hb hX hbl hS (n := n + 1) (by omega) hL e1 dL_law_798 ?_
  refine lv_aload_n hx hb dL_law_799 rfl (lv_at hl 4 rfl) ?_
  refine va_calli (vx_runSW (As := [.ref (ox ω), .int (iI (v1)), .ref (ou)]) (rest := []) ⟨hx, hb, hml, hown, hts⟩ (w_size l htr ω cL ou o hD.2.2.2.2.2.2.2.1 k (kQ k) (kZ k) M wk v1 v1a v1b hq1 hq2 hM) (vx_cwSW 3 hts (gU (hd := [.methodLink "NoiseRingLaw" 98 yL_size, .static yL_size, .initialized "NoiseRingLaw"]) (List.forall_mem_cons.mpr ⟨u276, List.forall_mem_cons.mpr ⟨u277, List.forall_mem_cons.mpr ⟨u28, fun _ h => by cases h⟩⟩⟩) u278) rfl rfl rfl (by decide +kernel) ⟨Nat.le_of_ble_eq_true rfl, Nat.le_of_ble_eq_true rfl⟩) (gw_S hG hD.2.2.1 hO) rfl rfl hl.1 rfl (lv_room (Nat.le_of_ble_eq_true rfl)) dL_law_800 ⟨by show _ ≤ 646401; omega, by show _ ≤ 7156900; omega⟩) hS (fun q9 _ h => hAw q9 h) (fun q9 h => hAw q9 h) (fun r u t H1 locs1 ht hvm hp hB hz hk hS1 => ?_)
  obtain ⟨hp, rfl⟩ := hp
  have hCM1 : CM μ th k (kQ k) M f H1 := hCM.kept (fun a9 g9 h9 => hk a9 g9 (fun e9 => e9.elim (fun e9 => hD.2.2.2.2.2.2.1 a9 e9 h9) (fun e9 => hD.2.2.2.2.2.2.2.2 (e9 ▸ h9))))
  have hGM := hD.gm hCM1
  have hS := hS1
  refine lv_istore (lv' := [(5, .int (iI (u.1))), (4, .int (iI ((n : Nat)))), (0, .ref (b)), (1, .ref (ox ω)), (2, .ref (mo μ)), (3, .ref (ou))]) hx hb dL_law_803 hl (by decide) rfl (fun ls hl => ?_)
  refine lv_aload_n hx hb dL_law_805 rfl (lv_at hl 4 rfl) ?_
  refine lv_aload_n hx hb dL_law_806 rfl (lv_at hl 2 rfl) ?_
  refine lv_iload hx hb dL_law_807 (lv_at hl 1 rfl) ?_
  refine ix_iconst hx hb dL_law_809 ?_
  refine ix_iadd hx hb dL_law_810 ?_
  refine wx_i (congrArg iI (show ((n : Nat) : Int) + 1 = ((n + 1 : Nat) : Int) by omega)) ?_
  refine sc_ld hx hb hX hbl hS (n := n + 1) (by omega) hL e1 dL_law_811 ?_
  refine va_calli (va_runV (As := [.int (iI (v1))]) (rest := []) ⟨hx, hb, hml, hown, hts⟩ (m_size l μ th k (kQ k) M f v1 v1a v1b hq1 hq2 qo hM) (cwV 1 hts (gU (hd := [.methodLink "NoiseRingLaw" 100 yX1_size, .instanceMethod yX1_size, .selects "NoiseRingModel" yX1_size yX1_size, .initialized "NoiseRingModel"]) (List.forall_mem_cons.mpr ⟨u411, List.forall_mem_cons.mpr ⟨u412, List.forall_mem_cons.mpr ⟨u413, List.forall_mem_cons.mpr ⟨u30, fun _ h => by cases h⟩⟩⟩⟩) u414) rfl rfl rfl (by decide +kernel) ⟨Nat.le_of_ble_eq_true rfl, Nat.le_of_ble_eq_true rfl⟩) (gm_V hGM) rfl rfl hl.1 rfl (lv_room (Nat.le_of_ble_eq_true rfl)) dL_law_812 ⟨by show _ ≤ 646401; omega, by show _ ≤ 7156900; omega⟩) hS (fun q9 _ h => hD.2.2.2.2.1 q9 h) (fun q9 h => hD.2.2.2.2.1 q9 h) (fun r2 u2 t2 H2 locs2 ht2 hvm2 hp2 hB2 hz2 hk2 hS2 => ?_)
  rcases hp with ⟨hok, h0⟩ | ⟨hb1, h0⟩
  · rcases hp2 with ⟨hok2, g0, rfl⟩ | ⟨hb12, g0⟩
    · skip
      have hC1 := hB.1 h0
      have hC2 := hB2.1 g0
      rw [ht2] at hC2
      rw [ht] at hC1
      rw [h0] at hl
      have hCX2 := hC1.1.keptA (fun a9 g9 h9 => hk2 a9 g9 (hD.2.2.2.2.2.2.1 a9 h9))
      have hO2 : OU cL ou _ H2 := (hk2 ou (Array.getElem?_eq_some_iff.mp hC1.2).1 hD.2.2.2.2.2.2.2.2).trans hC1.2
      have hGM2 := hD.gm hC2
      have hl : lv_has ls 7 [(5, .int (iI (0))), (4, .int (iI ((n : Nat)))), (0, .ref (b)), (1, .ref (ox ω)), (2, .ref (mo μ)), (3, .ref (ou))] := hl
      refine lv_istore (lv' := [(6, .int (iI (sMax (kQ k) (M v1.toNat) 16))), (5, .int (iI (0))), (4, .int (iI ((n : Nat)))), (0, .ref (b)), (1, .ref (ox ω)), (2, .ref (mo μ)), (3, .ref (ou))]) hx hb dL_law_815 hl (by decide) rfl (fun ls hl => ?_)
      refine lv_aload_n hx hb dL_law_817 rfl (lv_at hl 5 rfl) ?_
      refine vp_callSi (va_Run.run (va_runV (As := []) (rest := []) ⟨hx, hb, hml, hown, hts⟩ (m_thrown l μ 0 k (kQ k) M u2.2) (cwV 0 hts (gU (hd := [.methodLink "NoiseRingLaw" 69 yX1_thrown, .instanceMethod yX1_thrown, .selects "NoiseRingModel" yX1_thrown yX1_thrown, .initialized "NoiseRingModel"]) (List.forall_mem_cons.mpr ⟨u340, List.forall_mem_cons.mpr ⟨u341, List.forall_mem_cons.mpr ⟨u342, List.forall_mem_cons.mpr ⟨u30, fun _ h => by cases h⟩⟩⟩⟩) u343) rfl rfl rfl (by decide +kernel) ⟨Nat.le_of_ble_eq_true rfl, Nat.le_of_ble_eq_true rfl⟩) (gm_V hGM2) rfl rfl hl.1 rfl (lv_room (Nat.le_of_ble_eq_true rfl)) dL_law_818 ⟨by show _ ≤ 646401; omega, by show _ ≤ 7156900; omega⟩)) (fun r9 hr9 => ?_)
      subst hr9
      refine lv_iload hx hb dL_law_821 (lv_at hl 1 rfl) ?_
      refine ix_icmp_eq (tgt := 828) hx hb (by omega) (by omega) (by omega) (by omega) dL_law_823 (by decide) (fun h823 => ?_) (fun h823 => absurd h823 (by omega))
      refine lv_iload hx hb dL_law_828 (lv_at hl 1 rfl) ?_
      refine ix_if_ne (tgt := 845) hx hb (by omega) (by omega) dL_law_830 (by decide) (fun h830 => absurd h830 (by omega)) (fun h830 => ?_)
      refine lv_aload_n hx hb dL_law_833 rfl (lv_at hl 6 rfl) ?_
      refine ix_iconst hx hb dL_law_834 ?_
      refine ou_ld hx hb hO2 hD.2.2.1 dL_law_835 ?_
      refine lv_iload hx hb dL_law_836 (lv_at hl 0 rfl) ?_
      refine lv_i2l hx hb dL_law_838 rfl ?_
      refine lx_same (tgt := 845) hx hb dL_law_839 dL_law_840 (by decide) ?_
      refine lv_goto (tgt := 1230) hx hb dL_law_845 (by decide) ?_
      refine W.widen (k := cells + 4) (n := slots + 24) (by omega) (by omega) ?_
      exact kk ls _ _ ⟨k, M, u.2, u2.2, 0, _, ⟨by omega, by omega, hM⟩, lv_sub hl [2, 3, 4, 5, 6] rfl, hCX2, hC2, hO2, hS2⟩
    · exfalso; omega
  · rcases hp2 with ⟨hok2, g0, rfl⟩ | ⟨hb12, g0⟩
    · exfalso; omega
    · skip
      have hC1 := hB.2 (by rw [h0]; decide)
      have hC2 := hB2.2 (by rw [g0]; decide)
      rw [ht2, g0] at hC2
      rw [ht] at hC1
      rw [h0] at hl
      have hCX2 := hC1.1.keptA (fun a9 g9 h9 => hk2 a9 g9 (hD.2.2.2.2.2.2.1 a9 h9))
      have hO2 : OU cL ou _ H2 := (hk2 ou (Array.getElem?_eq_some_iff.mp hC1.2).1 hD.2.2.2.2.2.2.2.2).trans hC1.2
      have hGM2 := hD.gm hC2
      have hl : lv_has ls 7 [(5, .int (iI (1))), (4, .int (iI ((n : Nat)))), (0, .ref (b)), (1, .ref (ox ω)), (2, .ref (mo μ)), (3, .ref (ou))] := hl
      refine lv_istore (lv' := [(6, .int (r2)), (5, .int (iI (1))), (4, .int (iI ((n : Nat)))), (0, .ref (b)), (1, .ref (ox ω)), (2, .ref (mo μ)), (3, .ref (ou))]) hx hb dL_law_815 hl (by decide) rfl (fun ls hl => ?_)
      refine lv_aload_n hx hb dL_law_817 rfl (lv_at hl 5 rfl) ?_
      refine vp_callSi (va_Run.run (va_runV (As := []) (rest := []) ⟨hx, hb, hml, hown, hts⟩ (m_thrown l μ 1 k (kQ k) M u2.2) (cwV 0 hts (gU (hd := [.methodLink "NoiseRingLaw" 69 yX1_thrown, .instanceMethod yX1_thrown, .selects "NoiseRingModel" yX1_thrown yX1_thrown, .initialized "NoiseRingModel"]) (List.forall_mem_cons.mpr ⟨u340, List.forall_mem_cons.mpr ⟨u341, List.forall_mem_cons.mpr ⟨u342, List.forall_mem_cons.mpr ⟨u30, fun _ h => by cases h⟩⟩⟩⟩) u343) rfl rfl rfl (by decide +kernel) ⟨Nat.le_of_ble_eq_true rfl, Nat.le_of_ble_eq_true rfl⟩) (gm_V hGM2) rfl rfl hl.1 rfl (lv_room (Nat.le_of_ble_eq_true rfl)) dL_law_818 ⟨by show _ ≤ 646401; omega, by show _ ≤ 7156900; omega⟩)) (fun r9 hr9 => ?_)
      subst hr9
      refine lv_iload hx hb dL_law_821 (lv_at hl 1 rfl) ?_
      refine ix_icmp_eq (tgt := 828) hx hb (by omega) (by omega) (by omega) (by omega) dL_law_823 (by decide) (fun h823 => ?_) (fun h823 => absurd h823 (by omega))
      refine lv_iload hx hb dL_law_828 (lv_at hl 1 rfl) ?_
      refine ix_if_ne (tgt := 845) hx hb (by omega) (by omega) dL_law_830 (by decide) (fun h830 => ?_) (fun h830 => absurd h830 (by omega))
      refine lv_goto (tgt := 1230) hx hb dL_law_845 (by decide) ?_
      refine W.widen (k := cells + 4) (n := slots + 24) (by omega) (by omega) ?_
      exact kk ls _ _ ⟨k, M, u.2, u2.2, 1, _, ⟨k1, k2, hM⟩, lv_sub hl [2, 3, 4, 5, 6] rfl, hCX2, hC2, hO2, hS2⟩
set_option maxHeartbeats 4000000 in
set_option maxRecDepth 100000 in
theorem l_far {p : Program} {l : Launch} {e : Env} {s : State} {m : MethodId} {args : Array Value} {below : List Frame} {meth : Method} {c : Code} {H : Heap} {locs : List Loc} {cells slots : Nat} {Q : State → Prop} {ls : Array Slot} {b L n : Nat} {xs : Nat → Int32} {ω : WX} {μ : WM} {cL : ClassId} {ou : Nat} (htr : l.stackTraces = false) (hx : p.tables.exec = Jvm.exec) (hb : c.code = cL_law) (hml : c.maxLocals = 7) (hown : s.vm.findClass "NoiseRingLaw" = some m.cls) (hts : ∀ w ∈ wsU, w.before args s = true) (hX : va_X b L xs s s.heap) (hbl : b < s.heap.size) (hL : L ≤ 3584) (hD : DL ω μ cL ou s) (hn : n + 7 ≤ L) (hw : WL ω μ cL ou b s n ls H locs) (hc : cells + 4 ≤ 646401) (hsl : slots + 24 ≤ 7156900)
    (kk : ∀ (ls' : Array Slot) (H' : Heap) (locs' : List Loc), WL ω μ cL ou b s n ls' H' locs' → W p l e room_1 s m args below meth c H' locs' (cells + 4) (slots + 24) Q (F0 m 1230 ls' [])) : W p l e room_1 s m args below meth c H locs cells slots Q (F0 m 848 ls []) := by
  obtain ⟨k, M, wk, f, th, o, ⟨k1, k2, hM⟩, hl, hCX, hCM, hO, hS⟩ := hw
  obtain ⟨hq1, hq2⟩ := kQ_in (k := k)
  have qo := kQ_odd k
  have hG := hD.gx hS hCX
  have hGM := hD.gm hCM
  have hAw : ∀ q9, Aw ω ou q9 → s.heap.size ≤ q9 := fun q9 h => h.elim (hD.2.2.2.1 q9) (fun e9 => by rw [e9]; exact hD.2.2.2.2.2.1)
  obtain ⟨v1, ⟨v1a, v1b⟩, e1⟩ := iI_of (xs (n + 1))
  obtain ⟨v2, ⟨v2a, v2b⟩, e2⟩ := iI_of (xs (n + 2))
  have hl : lv_has ls 7 [(4, .int (iI ((n : Nat)))), (0, .ref (b)), (1, .ref (ox ω)), (2, .ref (mo μ)), (3, .ref (ou))] := hl
  refine lv_aload_n hx hb dL_law_848 rfl (lv_at hl 2 rfl) ?_
  refine lv_aload_n hx hb dL_law_849 rfl (lv_at hl 1 rfl) ?_
  refine lv_iload hx hb dL_law_850 (lv_at hl 0 rfl) ?_
  refine ix_iconst hx hb dL_law_852 ?_
  refine ix_iadd hx hb dL_law_853 ?_
  refine wx_i (congrArg iI (show ((n : Nat) : Int) + 1 = ((n + 1 : Nat) : Int) by omega)) ?_
  refine sc_ld hx hb hX hbl hS (n := n + 1) (by omega) hL e1 dL_law_854 ?_
  refine lv_aload_n hx hb dL_law_855 rfl (lv_at hl 1 rfl) ?_
  refine lv_iload hx hb dL_law_856 (lv_at hl 0 rfl) ?_
  refine ix_iconst hx hb dL_law_858 ?_
  refine ix_iadd hx hb dL_law_859 ?_
  refine wx_i (congrArg iI (show ((n : Nat) : Int) + 2 = ((n + 2 : Nat) : Int) by omega)) ?_
  refine sc_ld hx hb hX hbl hS (n := n + 2) (by omega) hL e2 dL_law_860 ?_
  refine lv_aload_n hx hb dL_law_861 rfl (lv_at hl 4 rfl) ?_
  refine va_calli (vx_runSW (As := [.ref (ox ω), .int (iI (v1)), .int (iI (v2)), .ref (ou)]) (rest := []) ⟨hx, hb, hml, hown, hts⟩ (w_far l htr ω cL ou o hD.2.2.2.2.2.2.2.1 k (kQ k) (kZ k) M wk v1 v2 v1a v1b v2a v2b hq1 hq2 hM) (vx_cwSW 4 hts (gU (hd := [.methodLink "NoiseRingLaw" 101 yL_far, .static yL_far, .initialized "NoiseRingLaw"]) (List.forall_mem_cons.mpr ⟨u283, List.forall_mem_cons.mpr ⟨u284, List.forall_mem_cons.mpr ⟨u28, fun _ h => by cases h⟩⟩⟩) u285) rfl rfl rfl (by decide +kernel) ⟨Nat.le_of_ble_eq_true rfl, Nat.le_of_ble_eq_true rfl⟩) (gw_S hG hD.2.2.1 hO) rfl rfl hl.1 rfl (lv_room (Nat.le_of_ble_eq_true rfl)) dL_law_862 ⟨by show _ ≤ 646401; omega, by show _ ≤ 7156900; omega⟩) hS (fun q9 _ h => hAw q9 h) (fun q9 h => hAw q9 h) (fun r u t H1 locs1 ht hvm hp hB hz hk hS1 => ?_)
  obtain ⟨hp, rfl⟩ := hp
  have hCM1 : CM μ th k (kQ k) M f H1 := hCM.kept (fun a9 g9 h9 => hk a9 g9 (fun e9 => e9.elim (fun e9 => hD.2.2.2.2.2.2.1 a9 e9 h9) (fun e9 => hD.2.2.2.2.2.2.2.2 (e9 ▸ h9))))
  have hGM := hD.gm hCM1
  have hS := hS1
  refine lv_istore (lv' := [(5, .int (iI (u.1))), (4, .int (iI ((n : Nat)))), (0, .ref (b)), (1, .ref (ox ω)), (2, .ref (mo μ)), (3, .ref (ou))]) hx hb dL_law_865 hl (by decide) rfl (fun ls hl => ?_)
  refine lv_aload_n hx hb dL_law_867 rfl (lv_at hl 4 rfl) ?_
  refine lv_aload_n hx hb dL_law_868 rfl (lv_at hl 2 rfl) ?_
  refine lv_iload hx hb dL_law_869 (lv_at hl 1 rfl) ?_
  refine ix_iconst hx hb dL_law_871 ?_
  refine ix_iadd hx hb dL_law_872 ?_
  refine wx_i (congrArg iI (show ((n : Nat) : Int) + 1 = ((n + 1 : Nat) : Int) by omega)) ?_
  refine sc_ld hx hb hX hbl hS (n := n + 1) (by omega) hL e1 dL_law_873 ?_
  refine lv_aload_n hx hb dL_law_874 rfl (lv_at hl 2 rfl) ?_
  refine lv_iload hx hb dL_law_875 (lv_at hl 1 rfl) ?_
  refine ix_iconst hx hb dL_law_877 ?_
  refine ix_iadd hx hb dL_law_878 ?_
  refine wx_i (congrArg iI (show ((n : Nat) : Int) + 2 = ((n + 2 : Nat) : Int) by omega)) ?_
  refine sc_ld hx hb hX hbl hS (n := n + 2) (by omega) hL e2 dL_law_879 ?_
  refine va_calli (va_runV (As := [.int (iI (v1)), .int (iI (v2))]) (rest := []) ⟨hx, hb, hml, hown, hts⟩ (m_far l μ th k (kQ k) M f v1 v2 v1a v1b v2a v2b hq1 hq2 qo hM) (cwV 2 hts (gU (hd := [.methodLink "NoiseRingLaw" 103 yX1_far, .instanceMethod yX1_far, .selects "NoiseRingModel" yX1_far yX1_far, .initialized "NoiseRingModel"]) (List.forall_mem_cons.mpr ⟨u415, List.forall_mem_cons.mpr ⟨u416, List.forall_mem_cons.mpr ⟨u417, List.forall_mem_cons.mpr ⟨u30, fun _ h => by cases h⟩⟩⟩⟩) u418) rfl rfl rfl (by decide +kernel) ⟨Nat.le_of_ble_eq_true rfl, Nat.le_of_ble_eq_true rfl⟩) (gm_V hGM) rfl rfl hl.1 rfl (lv_room (Nat.le_of_ble_eq_true rfl)) dL_law_880 ⟨by show _ ≤ 646401; omega, by show _ ≤ 7156900; omega⟩) hS (fun q9 _ h => hD.2.2.2.2.1 q9 h) (fun q9 h => hD.2.2.2.2.1 q9 h) (fun r2 u2 t2 H2 locs2 ht2 hvm2 hp2 hB2 hz2 hk2 hS2 => ?_)
  rcases hp with ⟨hok, h0⟩ | ⟨hb1, h0⟩
  · rcases hp2 with ⟨hok2, g0, rfl⟩ | ⟨hb12, g0⟩
    · skip
      have hC1 := hB.1 h0
      have hC2 := hB2.1 g0
      rw [ht2] at hC2
      rw [ht] at hC1
      rw [h0] at hl
      have hCX2 := hC1.1.keptA (fun a9 g9 h9 => hk2 a9 g9 (hD.2.2.2.2.2.2.1 a9 h9))
      have hO2 : OU cL ou _ H2 := (hk2 ou (Array.getElem?_eq_some_iff.mp hC1.2).1 hD.2.2.2.2.2.2.2.2).trans hC1.2
      have hGM2 := hD.gm hC2
      have hl : lv_has ls 7 [(5, .int (iI (0))), (4, .int (iI ((n : Nat)))), (0, .ref (b)), (1, .ref (ox ω)), (2, .ref (mo μ)), (3, .ref (ou))] := hl
      refine lv_istore (lv' := [(6, .int (iI (sFar (kQ k) (M v1.toNat) (M v2.toNat) 16))), (5, .int (iI (0))), (4, .int (iI ((n : Nat)))), (0, .ref (b)), (1, .ref (ox ω)), (2, .ref (mo μ)), (3, .ref (ou))]) hx hb dL_law_883 hl (by decide) rfl (fun ls hl => ?_)
      refine lv_aload_n hx hb dL_law_885 rfl (lv_at hl 5 rfl) ?_
      refine vp_callSi (va_Run.run (va_runV (As := []) (rest := []) ⟨hx, hb, hml, hown, hts⟩ (m_thrown l μ 0 k (kQ k) M u2.2) (cwV 0 hts (gU (hd := [.methodLink "NoiseRingLaw" 69 yX1_thrown, .instanceMethod yX1_thrown, .selects "NoiseRingModel" yX1_thrown yX1_thrown, .initialized "NoiseRingModel"]) (List.forall_mem_cons.mpr ⟨u340, List.forall_mem_cons.mpr ⟨u341, List.forall_mem_cons.mpr ⟨u342, List.forall_mem_cons.mpr ⟨u30, fun _ h => by cases h⟩⟩⟩⟩) u343) rfl rfl rfl (by decide +kernel) ⟨Nat.le_of_ble_eq_true rfl, Nat.le_of_ble_eq_true rfl⟩) (gm_V hGM2) rfl rfl hl.1 rfl (lv_room (Nat.le_of_ble_eq_true rfl)) dL_law_886 ⟨by show _ ≤ 646401; omega, by show _ ≤ 7156900; omega⟩)) (fun r9 hr9 => ?_)
      subst hr9
      refine lv_iload hx hb dL_law_889 (lv_at hl 1 rfl) ?_
      refine ix_icmp_eq (tgt := 896) hx hb (by omega) (by omega) (by omega) (by omega) dL_law_891 (by decide) (fun h891 => ?_) (fun h891 => absurd h891 (by omega))
      refine lv_iload hx hb dL_law_896 (lv_at hl 1 rfl) ?_
      refine ix_if_ne (tgt := 913) hx hb (by omega) (by omega) dL_law_898 (by decide) (fun h898 => absurd h898 (by omega)) (fun h898 => ?_)
      refine lv_aload_n hx hb dL_law_901 rfl (lv_at hl 6 rfl) ?_
      refine ix_iconst hx hb dL_law_902 ?_
      refine ou_ld hx hb hO2 hD.2.2.1 dL_law_903 ?_
      refine lv_iload hx hb dL_law_904 (lv_at hl 0 rfl) ?_
      refine lv_i2l hx hb dL_law_906 rfl ?_
      refine lx_same (tgt := 913) hx hb dL_law_907 dL_law_908 (by decide) ?_
      refine lv_goto (tgt := 1230) hx hb dL_law_913 (by decide) ?_
      refine W.widen (k := cells + 4) (n := slots + 24) (by omega) (by omega) ?_
      exact kk ls _ _ ⟨k, M, u.2, u2.2, 0, _, ⟨by omega, by omega, hM⟩, lv_sub hl [2, 3, 4, 5, 6] rfl, hCX2, hC2, hO2, hS2⟩
    · exfalso; omega
  · rcases hp2 with ⟨hok2, g0, rfl⟩ | ⟨hb12, g0⟩
    · exfalso; omega
    · skip
      have hC1 := hB.2 (by rw [h0]; decide)
      have hC2 := hB2.2 (by rw [g0]; decide)
      rw [ht2, g0] at hC2
      rw [ht] at hC1
      rw [h0] at hl
      have hCX2 := hC1.1.keptA (fun a9 g9 h9 => hk2 a9 g9 (hD.2.2.2.2.2.2.1 a9 h9))
      have hO2 : OU cL ou _ H2 := (hk2 ou (Array.getElem?_eq_some_iff.mp hC1.2).1 hD.2.2.2.2.2.2.2.2).trans hC1.2
      have hGM2 := hD.gm hC2
      have hl : lv_has ls 7 [(5, .int (iI (1))), (4, .int (iI ((n : Nat)))), (0, .ref (b)), (1, .ref (ox ω)), (2, .ref (mo μ)), (3, .ref (ou))] := hl
      refine lv_istore (lv' := [(6, .int (r2)), (5, .int (iI (1))), (4, .int (iI ((n : Nat)))), (0, .ref (b)), (1, .ref (ox ω)), (2, .ref (mo μ)), (3, .ref (ou))]) hx hb dL_law_883 hl (by decide) rfl (fun ls hl => ?_)
      refine lv_aload_n hx hb dL_law_885 rfl (lv_at hl 5 rfl) ?_
      refine vp_callSi (va_Run.run (va_runV (As := []) (rest := []) ⟨hx, hb, hml, hown, hts⟩ (m_thrown l μ 1 k (kQ k) M u2.2) (cwV 0 hts (gU (hd := [.methodLink "NoiseRingLaw" 69 yX1_thrown, .instanceMethod yX1_thrown, .selects "NoiseRingModel" yX1_thrown yX1_thrown, .initialized "NoiseRingModel"]) (List.forall_mem_cons.mpr ⟨u340, List.forall_mem_cons.mpr ⟨u341, List.forall_mem_cons.mpr ⟨u342, List.forall_mem_cons.mpr ⟨u30, fun _ h => by cases h⟩⟩⟩⟩) u343) rfl rfl rfl (by decide +kernel) ⟨Nat.le_of_ble_eq_true rfl, Nat.le_of_ble_eq_true rfl⟩) (gm_V hGM2) rfl rfl hl.1 rfl (lv_room (Nat.le_of_ble_eq_true rfl)) dL_law_886 ⟨by show _ ≤ 646401; omega, by show _ ≤ 7156900; omega⟩)) (fun r9 hr9 => ?_)
      subst hr9
      refine lv_iload hx hb dL_law_889 (lv_at hl 1 rfl) ?_
      refine ix_icmp_eq (tgt := 896) hx hb (by omega) (by omega) (by omega) (by omega) dL_law_891 (by decide) (fun h891 => ?_) (fun h891 => absurd h891 (by omega))
      refine lv_iload hx hb dL_law_896 (lv_at hl 1 rfl) ?_
      refine ix_if_ne (tgt := 913) hx hb (by omega) (by omega) dL_law_898 (by decide) (fun h898 => ?_) (fun h898 => absurd h898 (by omega))
      refine lv_goto (tgt := 1230) hx hb dL_law_913 (by decide) ?_
      refine W.widen (k := cells + 4) (n := slots + 24) (by omega) (by omega) ?_
      exact kk ls _ _ ⟨k, M, u.2, u2.2, 1, _, ⟨k1, k2, hM⟩, lv_sub hl [2, 3, 4, 5, 6] rfl, hCX2, hC2, hO2, hS2⟩
set_option maxHeartbeats 4000000 in
set_option maxRecDepth 100000 in
theorem l_noise {p : Program} {l : Launch} {e : Env} {s : State} {m : MethodId} {args : Array Value} {below : List Frame} {meth : Method} {c : Code} {H : Heap} {locs : List Loc} {cells slots : Nat} {Q : State → Prop} {ls : Array Slot} {b L n : Nat} {xs : Nat → Int32} {ω : WX} {μ : WM} {cL : ClassId} {ou : Nat} (htr : l.stackTraces = false) (hx : p.tables.exec = Jvm.exec) (hb : c.code = cL_law) (hml : c.maxLocals = 7) (hown : s.vm.findClass "NoiseRingLaw" = some m.cls) (hts : ∀ w ∈ wsU, w.before args s = true) (hX : va_X b L xs s s.heap) (hbl : b < s.heap.size) (hL : L ≤ 3584) (hD : DL ω μ cL ou s) (hn : n + 7 ≤ L) (hw : WL ω μ cL ou b s n ls H locs) (hc : cells + 4 ≤ 646401) (hsl : slots + 24 ≤ 7156900)
    (kk : ∀ (ls' : Array Slot) (H' : Heap) (locs' : List Loc), WL ω μ cL ou b s n ls' H' locs' → W p l e room_1 s m args below meth c H' locs' (cells + 4) (slots + 24) Q (F0 m 1230 ls' [])) : W p l e room_1 s m args below meth c H locs cells slots Q (F0 m 916 ls []) := by
  obtain ⟨k, M, wk, f, th, o, ⟨k1, k2, hM⟩, hl, hCX, hCM, hO, hS⟩ := hw
  obtain ⟨hq1, hq2⟩ := kQ_in (k := k)
  have qo := kQ_odd k
  have hG := hD.gx hS hCX
  have hGM := hD.gm hCM
  have hAw : ∀ q9, Aw ω ou q9 → s.heap.size ≤ q9 := fun q9 h => h.elim (hD.2.2.2.1 q9) (fun e9 => by rw [e9]; exact hD.2.2.2.2.2.1)
  obtain ⟨v1, ⟨v1a, v1b⟩, e1⟩ := iI_of (xs (n + 1))
  obtain ⟨v2, ⟨v2a, v2b⟩, e2⟩ := iI_of (xs (n + 2))
  obtain ⟨v3, ⟨v3a, v3b⟩, e3⟩ := iI_of (xs (n + 3))
  obtain ⟨v4, ⟨v4a, v4b⟩, e4⟩ := iI_of (xs (n + 4))
  obtain ⟨v5, ⟨v5a, v5b⟩, e5⟩ := iI_of (xs (n + 5))
  obtain ⟨v6, ⟨v6a, v6b⟩, e6⟩ := iI_of (xs (n + 6))
  have hl : lv_has ls 7 [(4, .int (iI ((n : Nat)))), (0, .ref (b)), (1, .ref (ox ω)), (2, .ref (mo μ)), (3, .ref (ou))] := hl
  refine lv_aload_n hx hb dL_law_916 rfl (lv_at hl 2 rfl) ?_
  refine lv_aload_n hx hb dL_law_917 rfl (lv_at hl 1 rfl) ?_
  refine lv_iload hx hb dL_law_918 (lv_at hl 0 rfl) ?_
  refine ix_iconst hx hb dL_law_920 ?_
  refine ix_iadd hx hb dL_law_921 ?_
  refine wx_i (congrArg iI (show ((n : Nat) : Int) + 1 = ((n + 1 : Nat) : Int) by omega)) ?_
  refine sc_ld hx hb hX hbl hS (n := n + 1) (by omega) hL e1 dL_law_922 ?_
  refine lv_aload_n hx hb dL_law_923 rfl (lv_at hl 1 rfl) ?_
  refine lv_iload hx hb dL_law_924 (lv_at hl 0 rfl) ?_
  refine ix_iconst hx hb dL_law_926 ?_
  refine ix_iadd hx hb dL_law_927 ?_
  refine wx_i (congrArg iI (show ((n : Nat) : Int) + 2 = ((n + 2 : Nat) : Int) by omega)) ?_
  refine sc_ld hx hb hX hbl hS (n := n + 2) (by omega) hL e2 dL_law_928 ?_
  refine lv_aload_n hx hb dL_law_929 rfl (lv_at hl 1 rfl) ?_
  refine lv_iload hx hb dL_law_930 (lv_at hl 0 rfl) ?_
  refine ix_iconst hx hb dL_law_932 ?_
  refine ix_iadd hx hb dL_law_933 ?_
  refine wx_i (congrArg iI (show ((n : Nat) : Int) + 3 = ((n + 3 : Nat) : Int) by omega)) ?_
  refine sc_ld hx hb hX hbl hS (n := n + 3) (by omega) hL e3 dL_law_934 ?_
  refine lv_i2l hx hb dL_law_935 rfl ?_
  refine ix_bipush hx hb (by decide) dL_law_936 ?_
  refine lv_lshl hx hb dL_law_938 rfl ?_
  refine lv_aload_n hx hb dL_law_939 rfl (lv_at hl 1 rfl) ?_
  refine lv_iload hx hb dL_law_940 (lv_at hl 0 rfl) ?_
  refine ix_iconst hx hb dL_law_942 ?_
  refine ix_iadd hx hb dL_law_943 ?_
  refine wx_i (congrArg iI (show ((n : Nat) : Int) + 4 = ((n + 4 : Nat) : Int) by omega)) ?_
  refine sc_ld hx hb hX hbl hS (n := n + 4) (by omega) hL e4 dL_law_944 ?_
  refine lv_i2l hx hb dL_law_945 rfl ?_
  refine lv_ldc2 (v := 4294967295) hx hb hown (hts _ u450) dL_law_946 ?_
  refine lv_land hx hb dL_law_949 ?_
  refine lv_lor hx hb dL_law_950 ?_
  refine lv_aload_n hx hb dL_law_951 rfl (lv_at hl 1 rfl) ?_
  refine lv_iload hx hb dL_law_952 (lv_at hl 0 rfl) ?_
  refine ix_iconst hx hb dL_law_954 ?_
  refine ix_iadd hx hb dL_law_955 ?_
  refine wx_i (congrArg iI (show ((n : Nat) : Int) + 5 = ((n + 5 : Nat) : Int) by omega)) ?_
  refine sc_ld hx hb hX hbl hS (n := n + 5) (by omega) hL e5 dL_law_956 ?_
  refine lv_i2l hx hb dL_law_957 rfl ?_
  refine ix_bipush hx hb (by decide) dL_law_958 ?_
  refine lv_lshl hx hb dL_law_960 rfl ?_
  refine lv_aload_n hx hb dL_law_961 rfl (lv_at hl 1 rfl) ?_
  refine lv_iload hx hb dL_law_962 (lv_at hl 0 rfl) ?_
  refine ix_bipush hx hb (by decide) dL_law_964 ?_
  refine ix_iadd hx hb dL_law_966 ?_
  refine wx_i (congrArg iI (show ((n : Nat) : Int) + 6 = ((n + 6 : Nat) : Int) by omega)) ?_
  refine sc_ld hx hb hX hbl hS (n := n + 6) (by omega) hL e6 dL_law_967 ?_
  refine lv_i2l hx hb dL_law_968 rfl ?_
  refine lv_ldc2 (v := 4294967295) hx hb hown (hts _ u450) dL_law_969 ?_
  refine lv_land hx hb dL_law_972 ?_
  refine lv_lor hx hb dL_law_973 ?_
  refine lv_aload_n hx hb dL_law_974 rfl (lv_at hl 4 rfl) ?_
  refine va_calli (vx_runSW (As := [.ref (ox ω), .int (iI (v1)), .int (iI (v2)), .long ((pk (iI (v3)) (iI (v4)))), .long ((pk (iI (v5)) (iI (v6)))), .ref (ou)]) (rest := []) ⟨hx, hb, hml, hown, hts⟩ (w_noise l htr ω cL ou o hD.2.2.2.2.2.2.2.1 k (kQ k) (kZ k) M wk v1 v2 (pk (iI (v3)) (iI (v4))) (pk (iI (v5)) (iI (v6))) v1a v1b v2a v2b hq1 hq2 hM) (vx_cwSW 6 hts (gU (hd := [.methodLink "NoiseRingLaw" 106 yL_noise, .static yL_noise, .initialized "NoiseRingLaw"]) (List.forall_mem_cons.mpr ⟨u290, List.forall_mem_cons.mpr ⟨u291, List.forall_mem_cons.mpr ⟨u28, fun _ h => by cases h⟩⟩⟩) u292) rfl rfl rfl (by decide +kernel) ⟨Nat.le_of_ble_eq_true rfl, Nat.le_of_ble_eq_true rfl⟩) (gw_S hG hD.2.2.1 hO) rfl rfl hl.1 rfl (lv_room (Nat.le_of_ble_eq_true rfl)) dL_law_975 ⟨by show _ ≤ 646401; omega, by show _ ≤ 7156900; omega⟩) hS (fun q9 _ h => hAw q9 h) (fun q9 h => hAw q9 h) (fun r u t H1 locs1 ht hvm hp hB hz hk hS1 => ?_)
  obtain ⟨hp, rfl⟩ := hp
  have hCM1 : CM μ th k (kQ k) M f H1 := hCM.kept (fun a9 g9 h9 => hk a9 g9 (fun e9 => e9.elim (fun e9 => hD.2.2.2.2.2.2.1 a9 e9 h9) (fun e9 => hD.2.2.2.2.2.2.2.2 (e9 ▸ h9))))
  have hGM := hD.gm hCM1
  have hS := hS1
  refine lv_istore (lv' := [(5, .int (iI (u.1))), (4, .int (iI ((n : Nat)))), (0, .ref (b)), (1, .ref (ox ω)), (2, .ref (mo μ)), (3, .ref (ou))]) hx hb dL_law_978 hl (by decide) rfl (fun ls hl => ?_)
  refine lv_aload_n hx hb dL_law_980 rfl (lv_at hl 4 rfl) ?_
  refine lv_aload_n hx hb dL_law_981 rfl (lv_at hl 2 rfl) ?_
  refine lv_iload hx hb dL_law_982 (lv_at hl 1 rfl) ?_
  refine ix_iconst hx hb dL_law_984 ?_
  refine ix_iadd hx hb dL_law_985 ?_
  refine wx_i (congrArg iI (show ((n : Nat) : Int) + 1 = ((n + 1 : Nat) : Int) by omega)) ?_
  refine sc_ld hx hb hX hbl hS (n := n + 1) (by omega) hL e1 dL_law_986 ?_
  refine lv_aload_n hx hb dL_law_987 rfl (lv_at hl 2 rfl) ?_
  refine lv_iload hx hb dL_law_988 (lv_at hl 1 rfl) ?_
  refine ix_iconst hx hb dL_law_990 ?_
  refine ix_iadd hx hb dL_law_991 ?_
  refine wx_i (congrArg iI (show ((n : Nat) : Int) + 2 = ((n + 2 : Nat) : Int) by omega)) ?_
  refine sc_ld hx hb hX hbl hS (n := n + 2) (by omega) hL e2 dL_law_992 ?_
  refine lv_aload_n hx hb dL_law_993 rfl (lv_at hl 2 rfl) ?_
  refine lv_iload hx hb dL_law_994 (lv_at hl 1 rfl) ?_
  refine ix_iconst hx hb dL_law_996 ?_
  refine ix_iadd hx hb dL_law_997 ?_
  refine wx_i (congrArg iI (show ((n : Nat) : Int) + 3 = ((n + 3 : Nat) : Int) by omega)) ?_
  refine sc_ld hx hb hX hbl hS (n := n + 3) (by omega) hL e3 dL_law_998 ?_
  refine lv_i2l hx hb dL_law_999 rfl ?_
  refine ix_bipush hx hb (by decide) dL_law_1000 ?_
  refine lv_lshl hx hb dL_law_1002 rfl ?_
  refine lv_aload_n hx hb dL_law_1003 rfl (lv_at hl 2 rfl) ?_
  refine lv_iload hx hb dL_law_1004 (lv_at hl 1 rfl) ?_
  refine ix_iconst hx hb dL_law_1006 ?_
  refine ix_iadd hx hb dL_law_1007 ?_
  refine wx_i (congrArg iI (show ((n : Nat) : Int) + 4 = ((n + 4 : Nat) : Int) by omega)) ?_
  refine sc_ld hx hb hX hbl hS (n := n + 4) (by omega) hL e4 dL_law_1008 ?_
  refine lv_i2l hx hb dL_law_1009 rfl ?_
  refine lv_ldc2 (v := 4294967295) hx hb hown (hts _ u450) dL_law_1010 ?_
  refine lv_land hx hb dL_law_1013 ?_
  refine lv_lor hx hb dL_law_1014 ?_
  refine lv_aload_n hx hb dL_law_1015 rfl (lv_at hl 2 rfl) ?_
  refine lv_iload hx hb dL_law_1016 (lv_at hl 1 rfl) ?_
  refine ix_iconst hx hb dL_law_1018 ?_
  refine ix_iadd hx hb dL_law_1019 ?_
  refine wx_i (congrArg iI (show ((n : Nat) : Int) + 5 = ((n + 5 : Nat) : Int) by omega)) ?_
  refine sc_ld hx hb hX hbl hS (n := n + 5) (by omega) hL e5 dL_law_1020 ?_
  refine lv_i2l hx hb dL_law_1021 rfl ?_
  refine ix_bipush hx hb (by decide) dL_law_1022 ?_
  refine lv_lshl hx hb dL_law_1024 rfl ?_
  refine lv_aload_n hx hb dL_law_1025 rfl (lv_at hl 2 rfl) ?_
  refine lv_iload hx hb dL_law_1026 (lv_at hl 1 rfl) ?_
  refine ix_bipush hx hb (by decide) dL_law_1028 ?_
  refine ix_iadd hx hb dL_law_1030 ?_
  refine wx_i (congrArg iI (show ((n : Nat) : Int) + 6 = ((n + 6 : Nat) : Int) by omega)) ?_
  refine sc_ld hx hb hX hbl hS (n := n + 6) (by omega) hL e6 dL_law_1031 ?_
  refine lv_i2l hx hb dL_law_1032 rfl ?_
  refine lv_ldc2 (v := 4294967295) hx hb hown (hts _ u450) dL_law_1033 ?_
  refine lv_land hx hb dL_law_1036 ?_
  refine lv_lor hx hb dL_law_1037 ?_
  refine va_calli (va_runV (As := [.int (iI (v1)), .int (iI (v2)), .long ((pk (iI (v3)) (iI (v4)))), .long ((pk (iI (v5)) (iI (v6))))]) (rest := []) ⟨hx, hb, hml, hown, hts⟩ (m_noise l μ th k (kQ k) M f v1 v2 (pk (iI (v3)) (iI (v4))) (pk (iI (v5)) (iI (v6))) v1a v1b v2a v2b hq1 hq2) (cwV 4 hts (gU (hd := [.methodLink "NoiseRingLaw" 109 yX1_noise, .instanceMethod yX1_noise, .selects "NoiseRingModel" yX1_noise yX1_noise, .initialized "NoiseRingModel"]) (List.forall_mem_cons.mpr ⟨u419, List.forall_mem_cons.mpr ⟨u420, List.forall_mem_cons.mpr ⟨u421, List.forall_mem_cons.mpr ⟨u30, fun _ h => by cases h⟩⟩⟩⟩) u422) rfl rfl rfl (by decide +kernel) ⟨Nat.le_of_ble_eq_true rfl, Nat.le_of_ble_eq_true rfl⟩) (gm_V hGM) rfl rfl hl.1 rfl (lv_room (Nat.le_of_ble_eq_true rfl)) dL_law_1038 ⟨by show _ ≤ 646401; omega, by show _ ≤ 7156900; omega⟩) hS (fun q9 _ h => hD.2.2.2.2.1 q9 h) (fun q9 h => hD.2.2.2.2.1 q9 h) (fun r2 u2 t2 H2 locs2 ht2 hvm2 hp2 hB2 hz2 hk2 hS2 => ?_)
  rcases hp with ⟨hok, h0⟩ | ⟨hb1, h0⟩ | ⟨hb2, h0⟩
  · rcases hp2 with ⟨hok2, g0, rfl⟩ | ⟨hb12, g0⟩ | ⟨hb22, g0⟩
    · skip
      have hC1 := hB.1 h0
      have hC2 := hB2.1 g0
      rw [ht2] at hC2
      rw [ht] at hC1
      rw [h0] at hl
      have hCX2 := hC1.1.keptA (fun a9 g9 h9 => hk2 a9 g9 (hD.2.2.2.2.2.2.1 a9 h9))
      have hO2 : OU cL ou _ H2 := (hk2 ou (Array.getElem?_eq_some_iff.mp hC1.2).1 hD.2.2.2.2.2.2.2.2).trans hC1.2
      have hGM2 := hD.gm hC2
      have hl : lv_has ls 7 [(5, .int (iI (0))), (4, .int (iI ((n : Nat)))), (0, .ref (b)), (1, .ref (ox ω)), (2, .ref (mo μ)), (3, .ref (ou))] := hl
      refine lv_istore (lv' := [(6, .int (iI (sCnt (fun i => sNoise (kQ k) (pk (iI (v3)) (iI (v4))) (pk (iI (v5)) (iI (v6))) v2.toNat i) 16))), (5, .int (iI (0))), (4, .int (iI ((n : Nat)))), (0, .ref (b)), (1, .ref (ox ω)), (2, .ref (mo μ)), (3, .ref (ou))]) hx hb dL_law_1041 hl (by decide) rfl (fun ls hl => ?_)
      refine lv_aload_n hx hb dL_law_1043 rfl (lv_at hl 5 rfl) ?_
      refine vp_callSi (va_Run.run (va_runV (As := []) (rest := []) ⟨hx, hb, hml, hown, hts⟩ (m_thrown l μ 0 k (kQ k) (mixR M v1.toNat (fun i => sNoise (kQ k) (pk (iI (v3)) (iI (v4))) (pk (iI (v5)) (iI (v6))) v2.toNat i) 16) u2.2) (cwV 0 hts (gU (hd := [.methodLink "NoiseRingLaw" 69 yX1_thrown, .instanceMethod yX1_thrown, .selects "NoiseRingModel" yX1_thrown yX1_thrown, .initialized "NoiseRingModel"]) (List.forall_mem_cons.mpr ⟨u340, List.forall_mem_cons.mpr ⟨u341, List.forall_mem_cons.mpr ⟨u342, List.forall_mem_cons.mpr ⟨u30, fun _ h => by cases h⟩⟩⟩⟩) u343) rfl rfl rfl (by decide +kernel) ⟨Nat.le_of_ble_eq_true rfl, Nat.le_of_ble_eq_true rfl⟩) (gm_V hGM2) rfl rfl hl.1 rfl (lv_room (Nat.le_of_ble_eq_true rfl)) dL_law_1044 ⟨by show _ ≤ 646401; omega, by show _ ≤ 7156900; omega⟩)) (fun r9 hr9 => ?_)
      subst hr9
      refine lv_iload hx hb dL_law_1047 (lv_at hl 1 rfl) ?_
      refine ix_icmp_eq (tgt := 1054) hx hb (by omega) (by omega) (by omega) (by omega) dL_law_1049 (by decide) (fun h1049 => ?_) (fun h1049 => absurd h1049 (by omega))
      refine lv_iload hx hb dL_law_1054 (lv_at hl 1 rfl) ?_
      refine ix_if_ne (tgt := 1071) hx hb (by omega) (by omega) dL_law_1056 (by decide) (fun h1056 => absurd h1056 (by omega)) (fun h1056 => ?_)
      refine lv_aload_n hx hb dL_law_1059 rfl (lv_at hl 6 rfl) ?_
      refine ix_iconst hx hb dL_law_1060 ?_
      refine ou_ld hx hb hO2 hD.2.2.1 dL_law_1061 ?_
      refine lv_iload hx hb dL_law_1062 (lv_at hl 0 rfl) ?_
      refine lv_i2l hx hb dL_law_1064 rfl ?_
      refine lx_same (tgt := 1071) hx hb dL_law_1065 dL_law_1066 (by decide) ?_
      refine lv_goto (tgt := 1230) hx hb dL_law_1071 (by decide) ?_
      refine W.widen (k := cells + 4) (n := slots + 24) (by omega) (by omega) ?_
      exact kk ls _ _ ⟨k, (mixR M v1.toNat (fun i => sNoise (kQ k) (pk (iI (v3)) (iI (v4))) (pk (iI (v5)) (iI (v6))) v2.toNat i) 16), u.2, u2.2, 0, _, ⟨by omega, by omega, bd_noise (by omega) hM⟩, lv_sub hl [2, 3, 4, 5, 6] rfl, hCX2, hC2, hO2, hS2⟩
    · exfalso; omega
    · exfalso; omega
  · rcases hp2 with ⟨hok2, g0, rfl⟩ | ⟨hb12, g0⟩ | ⟨hb22, g0⟩
    · exfalso; omega
    · skip
      have hC1 := hB.2 (by rw [h0]; decide)
      have hC2 := hB2.2 (by rw [g0]; decide)
      rw [ht2, g0] at hC2
      rw [ht] at hC1
      rw [h0] at hl
      have hCX2 := hC1.1.keptA (fun a9 g9 h9 => hk2 a9 g9 (hD.2.2.2.2.2.2.1 a9 h9))
      have hO2 : OU cL ou _ H2 := (hk2 ou (Array.getElem?_eq_some_iff.mp hC1.2).1 hD.2.2.2.2.2.2.2.2).trans hC1.2
      have hGM2 := hD.gm hC2
      have hl : lv_has ls 7 [(5, .int (iI (1))), (4, .int (iI ((n : Nat)))), (0, .ref (b)), (1, .ref (ox ω)), (2, .ref (mo μ)), (3, .ref (ou))] := hl
      refine lv_istore (lv' := [(6, .int (r2)), (5, .int (iI (1))), (4, .int (iI ((n : Nat)))), (0, .ref (b)), (1, .ref (ox ω)), (2, .ref (mo μ)), (3, .ref (ou))]) hx hb dL_law_1041 hl (by decide) rfl (fun ls hl => ?_)
      refine lv_aload_n hx hb dL_law_1043 rfl (lv_at hl 5 rfl) ?_
      refine vp_callSi (va_Run.run (va_runV (As := []) (rest := []) ⟨hx, hb, hml, hown, hts⟩ (m_thrown l μ 1 k (kQ k) M u2.2) (cwV 0 hts (gU (hd := [.methodLink "NoiseRingLaw" 69 yX1_thrown, .instanceMethod yX1_thrown, .selects "NoiseRingModel" yX1_thrown yX1_thrown, .initialized "NoiseRingModel"]) (List.forall_mem_cons.mpr ⟨u340, List.forall_mem_cons.mpr ⟨u341, List.forall_mem_cons.mpr ⟨u342, List.forall_mem_cons.mpr ⟨u30, fun _ h => by cases h⟩⟩⟩⟩) u343) rfl rfl rfl (by decide +kernel) ⟨Nat.le_of_ble_eq_true rfl, Nat.le_of_ble_eq_true rfl⟩) (gm_V hGM2) rfl rfl hl.1 rfl (lv_room (Nat.le_of_ble_eq_true rfl)) dL_law_1044 ⟨by show _ ≤ 646401; omega, by show _ ≤ 7156900; omega⟩)) (fun r9 hr9 => ?_)
      subst hr9
      refine lv_iload hx hb dL_law_1047 (lv_at hl 1 rfl) ?_
      refine ix_icmp_eq (tgt := 1054) hx hb (by omega) (by omega) (by omega) (by omega) dL_law_1049 (by decide) (fun h1049 => ?_) (fun h1049 => absurd h1049 (by omega))
      refine lv_iload hx hb dL_law_1054 (lv_at hl 1 rfl) ?_
      refine ix_if_ne (tgt := 1071) hx hb (by omega) (by omega) dL_law_1056 (by decide) (fun h1056 => ?_) (fun h1056 => absurd h1056 (by omega))
      refine lv_goto (tgt := 1230) hx hb dL_law_1071 (by decide) ?_
      refine W.widen (k := cells + 4) (n := slots + 24) (by omega) (by omega) ?_
      exact kk ls _ _ ⟨k, M, u.2, u2.2, 1, _, ⟨k1, k2, hM⟩, lv_sub hl [2, 3, 4, 5, 6] rfl, hCX2, hC2, hO2, hS2⟩
    · exfalso; omega
  · rcases hp2 with ⟨hok2, g0, rfl⟩ | ⟨hb12, g0⟩ | ⟨hb22, g0⟩
    · exfalso; omega
    · exfalso; omega
    · skip
      have hC1 := hB.2 (by rw [h0]; decide)
      have hC2 := hB2.2 (by rw [g0]; decide)
      rw [ht2, g0] at hC2
      rw [ht] at hC1
      rw [h0] at hl
      have hCX2 := hC1.1.keptA (fun a9 g9 h9 => hk2 a9 g9 (hD.2.2.2.2.2.2.1 a9 h9))
      have hO2 : OU cL ou _ H2 := (hk2 ou (Array.getElem?_eq_some_iff.mp hC1.2).1 hD.2.2.2.2.2.2.2.2).trans hC1.2
      have hGM2 := hD.gm hC2
      have hl : lv_has ls 7 [(5, .int (iI (2))), (4, .int (iI ((n : Nat)))), (0, .ref (b)), (1, .ref (ox ω)), (2, .ref (mo μ)), (3, .ref (ou))] := hl
      refine lv_istore (lv' := [(6, .int (r2)), (5, .int (iI (2))), (4, .int (iI ((n : Nat)))), (0, .ref (b)), (1, .ref (ox ω)), (2, .ref (mo μ)), (3, .ref (ou))]) hx hb dL_law_1041 hl (by decide) rfl (fun ls hl => ?_)
      refine lv_aload_n hx hb dL_law_1043 rfl (lv_at hl 5 rfl) ?_
      refine vp_callSi (va_Run.run (va_runV (As := []) (rest := []) ⟨hx, hb, hml, hown, hts⟩ (m_thrown l μ 2 k (kQ k) M u2.2) (cwV 0 hts (gU (hd := [.methodLink "NoiseRingLaw" 69 yX1_thrown, .instanceMethod yX1_thrown, .selects "NoiseRingModel" yX1_thrown yX1_thrown, .initialized "NoiseRingModel"]) (List.forall_mem_cons.mpr ⟨u340, List.forall_mem_cons.mpr ⟨u341, List.forall_mem_cons.mpr ⟨u342, List.forall_mem_cons.mpr ⟨u30, fun _ h => by cases h⟩⟩⟩⟩) u343) rfl rfl rfl (by decide +kernel) ⟨Nat.le_of_ble_eq_true rfl, Nat.le_of_ble_eq_true rfl⟩) (gm_V hGM2) rfl rfl hl.1 rfl (lv_room (Nat.le_of_ble_eq_true rfl)) dL_law_1044 ⟨by show _ ≤ 646401; omega, by show _ ≤ 7156900; omega⟩)) (fun r9 hr9 => ?_)
      subst hr9
      refine lv_iload hx hb dL_law_1047 (lv_at hl 1 rfl) ?_
      refine ix_icmp_eq (tgt := 1054) hx hb (by omega) (by omega) (by omega) (by omega) dL_law_1049 (by decide) (fun h1049 => ?_) (fun h1049 => absurd h1049 (by omega))
      refine lv_iload hx hb dL_law_1054 (lv_at hl 1 rfl) ?_
      refine ix_if_ne (tgt := 1071) hx hb (by omega) (by omega) dL_law_1056 (by decide) (fun h1056 => ?_) (fun h1056 => absurd h1056 (by omega))
      refine lv_goto (tgt := 1230) hx hb dL_law_1071 (by decide) ?_
      refine W.widen (k := cells + 4) (n := slots + 24) (by omega) (by omega) ?_
      exact kk ls _ _ ⟨k, M, u.2, u2.2, 2, _, ⟨k1, k2, hM⟩, lv_sub hl [2, 3, 4, 5, 6] rfl, hCX2, hC2, hO2, hS2⟩
set_option maxHeartbeats 4000000 in
set_option maxRecDepth 100000 in
theorem l_value {p : Program} {l : Launch} {e : Env} {s : State} {m : MethodId} {args : Array Value} {below : List Frame} {meth : Method} {c : Code} {H : Heap} {locs : List Loc} {cells slots : Nat} {Q : State → Prop} {ls : Array Slot} {b L n : Nat} {xs : Nat → Int32} {ω : WX} {μ : WM} {cL : ClassId} {ou : Nat} (htr : l.stackTraces = false) (hx : p.tables.exec = Jvm.exec) (hb : c.code = cL_law) (hml : c.maxLocals = 7) (hown : s.vm.findClass "NoiseRingLaw" = some m.cls) (hts : ∀ w ∈ wsU, w.before args s = true) (hX : va_X b L xs s s.heap) (hbl : b < s.heap.size) (hL : L ≤ 3584) (hD : DL ω μ cL ou s) (hn : n + 7 ≤ L) (hw : WL ω μ cL ou b s n ls H locs) (hc : cells + 4 ≤ 646401) (hsl : slots + 24 ≤ 7156900)
    (kk : ∀ (ls' : Array Slot) (H' : Heap) (locs' : List Loc), WL ω μ cL ou b s n ls' H' locs' → W p l e room_1 s m args below meth c H' locs' (cells + 4) (slots + 24) Q (F0 m 1230 ls' [])) : W p l e room_1 s m args below meth c H locs cells slots Q (F0 m 1074 ls []) := by
  obtain ⟨k, M, wk, f, th, o, ⟨k1, k2, hM⟩, hl, hCX, hCM, hO, hS⟩ := hw
  obtain ⟨hq1, hq2⟩ := kQ_in (k := k)
  have qo := kQ_odd k
  have hG := hD.gx hS hCX
  have hGM := hD.gm hCM
  have hAw : ∀ q9, Aw ω ou q9 → s.heap.size ≤ q9 := fun q9 h => h.elim (hD.2.2.2.1 q9) (fun e9 => by rw [e9]; exact hD.2.2.2.2.2.1)
  obtain ⟨v1, ⟨v1a, v1b⟩, e1⟩ := iI_of (xs (n + 1))
  obtain ⟨v2, ⟨v2a, v2b⟩, e2⟩ := iI_of (xs (n + 2))
  have hl : lv_has ls 7 [(4, .int (iI ((n : Nat)))), (0, .ref (b)), (1, .ref (ox ω)), (2, .ref (mo μ)), (3, .ref (ou))] := hl
  refine lv_aload_n hx hb dL_law_1074 rfl (lv_at hl 2 rfl) ?_
  refine lv_aload_n hx hb dL_law_1075 rfl (lv_at hl 1 rfl) ?_
  refine lv_iload hx hb dL_law_1076 (lv_at hl 0 rfl) ?_
  refine ix_iconst hx hb dL_law_1078 ?_
  refine ix_iadd hx hb dL_law_1079 ?_
  refine wx_i (congrArg iI (show ((n : Nat) : Int) + 1 = ((n + 1 : Nat) : Int) by omega)) ?_
  refine sc_ld hx hb hX hbl hS (n := n + 1) (by omega) hL e1 dL_law_1080 ?_
  refine lv_aload_n hx hb dL_law_1081 rfl (lv_at hl 1 rfl) ?_
  refine lv_iload hx hb dL_law_1082 (lv_at hl 0 rfl) ?_
  refine ix_iconst hx hb dL_law_1084 ?_
  refine ix_iadd hx hb dL_law_1085 ?_
  refine wx_i (congrArg iI (show ((n : Nat) : Int) + 2 = ((n + 2 : Nat) : Int) by omega)) ?_
  refine sc_ld hx hb hX hbl hS (n := n + 2) (by omega) hL e2 dL_law_1086 ?_
  refine lv_aload_n hx hb dL_law_1087 rfl (lv_at hl 4 rfl) ?_
  refine va_calli (vx_runSW (As := [.ref (ox ω), .int (iI (v1)), .int (iI (v2)), .ref (ou)]) (rest := []) ⟨hx, hb, hml, hown, hts⟩ (w_value l htr ω cL ou o hD.2.2.2.2.2.2.2.1 k (kQ k) (kZ k) M wk v1 v2 v1a v1b v2a v2b hq1 hq2 hM k1 k2 rfl rfl) (vx_cwSW 4 hts (gU (hd := [.methodLink "NoiseRingLaw" 110 yL_value, .static yL_value, .initialized "NoiseRingLaw"]) (List.forall_mem_cons.mpr ⟨u300, List.forall_mem_cons.mpr ⟨u301, List.forall_mem_cons.mpr ⟨u28, fun _ h => by cases h⟩⟩⟩) u302) rfl rfl rfl (by decide +kernel) ⟨Nat.le_of_ble_eq_true rfl, Nat.le_of_ble_eq_true rfl⟩) (gw_S hG hD.2.2.1 hO) rfl rfl hl.1 rfl (lv_room (Nat.le_of_ble_eq_true rfl)) dL_law_1088 ⟨by show _ ≤ 646401; omega, by show _ ≤ 7156900; omega⟩) hS (fun q9 _ h => hAw q9 h) (fun q9 h => hAw q9 h) (fun r u t H1 locs1 ht hvm hp hB hz hk hS1 => ?_)
  obtain ⟨hp, rfl⟩ := hp
  have hCM1 : CM μ th k (kQ k) M f H1 := hCM.kept (fun a9 g9 h9 => hk a9 g9 (fun e9 => e9.elim (fun e9 => hD.2.2.2.2.2.2.1 a9 e9 h9) (fun e9 => hD.2.2.2.2.2.2.2.2 (e9 ▸ h9))))
  have hGM := hD.gm hCM1
  have hS := hS1
  refine lv_istore (lv' := [(5, .int (iI (u.1))), (4, .int (iI ((n : Nat)))), (0, .ref (b)), (1, .ref (ox ω)), (2, .ref (mo μ)), (3, .ref (ou))]) hx hb dL_law_1091 hl (by decide) rfl (fun ls hl => ?_)
  refine lv_aload_n hx hb dL_law_1093 rfl (lv_at hl 4 rfl) ?_
  refine lv_aload_n hx hb dL_law_1094 rfl (lv_at hl 2 rfl) ?_
  refine lv_iload hx hb dL_law_1095 (lv_at hl 1 rfl) ?_
  refine ix_iconst hx hb dL_law_1097 ?_
  refine ix_iadd hx hb dL_law_1098 ?_
  refine wx_i (congrArg iI (show ((n : Nat) : Int) + 1 = ((n + 1 : Nat) : Int) by omega)) ?_
  refine sc_ld hx hb hX hbl hS (n := n + 1) (by omega) hL e1 dL_law_1099 ?_
  refine lv_aload_n hx hb dL_law_1100 rfl (lv_at hl 2 rfl) ?_
  refine lv_iload hx hb dL_law_1101 (lv_at hl 1 rfl) ?_
  refine ix_iconst hx hb dL_law_1103 ?_
  refine ix_iadd hx hb dL_law_1104 ?_
  refine wx_i (congrArg iI (show ((n : Nat) : Int) + 2 = ((n + 2 : Nat) : Int) by omega)) ?_
  refine sc_ld hx hb hX hbl hS (n := n + 2) (by omega) hL e2 dL_law_1105 ?_
  refine va_calli (va_runV (As := [.int (iI (v1)), .int (iI (v2))]) (rest := []) ⟨hx, hb, hml, hown, hts⟩ (m_value l μ th k (kQ k) M f v1 v2 v1a v1b v2a v2b hq1 hq2 hM k1 k2 rfl) (cwV 2 hts (gU (hd := [.methodLink "NoiseRingLaw" 112 yX1_value, .instanceMethod yX1_value, .selects "NoiseRingModel" yX1_value yX1_value, .initialized "NoiseRingModel"]) (List.forall_mem_cons.mpr ⟨u426, List.forall_mem_cons.mpr ⟨u427, List.forall_mem_cons.mpr ⟨u428, List.forall_mem_cons.mpr ⟨u30, fun _ h => by cases h⟩⟩⟩⟩) u429) rfl rfl rfl (by decide +kernel) ⟨Nat.le_of_ble_eq_true rfl, Nat.le_of_ble_eq_true rfl⟩) (gm_V hGM) rfl rfl hl.1 rfl (lv_room (Nat.le_of_ble_eq_true rfl)) dL_law_1106 ⟨by show _ ≤ 646401; omega, by show _ ≤ 7156900; omega⟩) hS (fun q9 _ h => hD.2.2.2.2.1 q9 h) (fun q9 h => hD.2.2.2.2.1 q9 h) (fun r2 u2 t2 H2 locs2 ht2 hvm2 hp2 hB2 hz2 hk2 hS2 => ?_)
  rcases hp with ⟨hok, h0⟩ | ⟨hb1, h0⟩
  · rcases hp2 with ⟨hok2, g0, rfl⟩ | ⟨hb12, g0⟩
    · skip
      have hC1 := hB.1 h0
      have hC2 := hB2.1 g0
      rw [ht2] at hC2
      rw [ht] at hC1
      rw [h0] at hl
      have hCX2 := hC1.1.keptA (fun a9 g9 h9 => hk2 a9 g9 (hD.2.2.2.2.2.2.1 a9 h9))
      have hO2 : OU cL ou _ H2 := (hk2 ou (Array.getElem?_eq_some_iff.mp hC1.2).1 hD.2.2.2.2.2.2.2.2).trans hC1.2
      have hGM2 := hD.gm hC2
      have hl : lv_has ls 7 [(5, .int (iI (0))), (4, .int (iI ((n : Nat)))), (0, .ref (b)), (1, .ref (ox ω)), (2, .ref (mo μ)), (3, .ref (ou))] := hl
      refine lv_istore (lv' := [(6, .int (iI (sVal k (M v1.toNat) v2.toNat))), (5, .int (iI (0))), (4, .int (iI ((n : Nat)))), (0, .ref (b)), (1, .ref (ox ω)), (2, .ref (mo μ)), (3, .ref (ou))]) hx hb dL_law_1109 hl (by decide) rfl (fun ls hl => ?_)
      refine lv_aload_n hx hb dL_law_1111 rfl (lv_at hl 5 rfl) ?_
      refine vp_callSi (va_Run.run (va_runV (As := []) (rest := []) ⟨hx, hb, hml, hown, hts⟩ (m_thrown l μ 0 k (kQ k) M u2.2) (cwV 0 hts (gU (hd := [.methodLink "NoiseRingLaw" 69 yX1_thrown, .instanceMethod yX1_thrown, .selects "NoiseRingModel" yX1_thrown yX1_thrown, .initialized "NoiseRingModel"]) (List.forall_mem_cons.mpr ⟨u340, List.forall_mem_cons.mpr ⟨u341, List.forall_mem_cons.mpr ⟨u342, List.forall_mem_cons.mpr ⟨u30, fun _ h => by cases h⟩⟩⟩⟩) u343) rfl rfl rfl (by decide +kernel) ⟨Nat.le_of_ble_eq_true rfl, Nat.le_of_ble_eq_true rfl⟩) (gm_V hGM2) rfl rfl hl.1 rfl (lv_room (Nat.le_of_ble_eq_true rfl)) dL_law_1112 ⟨by show _ ≤ 646401; omega, by show _ ≤ 7156900; omega⟩)) (fun r9 hr9 => ?_)
      subst hr9
      refine lv_iload hx hb dL_law_1115 (lv_at hl 1 rfl) ?_
      refine ix_icmp_eq (tgt := 1122) hx hb (by omega) (by omega) (by omega) (by omega) dL_law_1117 (by decide) (fun h1117 => ?_) (fun h1117 => absurd h1117 (by omega))
      refine lv_iload hx hb dL_law_1122 (lv_at hl 1 rfl) ?_
      refine ix_if_ne (tgt := 1139) hx hb (by omega) (by omega) dL_law_1124 (by decide) (fun h1124 => absurd h1124 (by omega)) (fun h1124 => ?_)
      refine lv_aload_n hx hb dL_law_1127 rfl (lv_at hl 6 rfl) ?_
      refine ix_iconst hx hb dL_law_1128 ?_
      refine ou_ld hx hb hO2 hD.2.2.1 dL_law_1129 ?_
      refine lv_iload hx hb dL_law_1130 (lv_at hl 0 rfl) ?_
      refine lv_i2l hx hb dL_law_1132 rfl ?_
      refine lx_same (tgt := 1139) hx hb dL_law_1133 dL_law_1134 (by decide) ?_
      refine lv_goto (tgt := 1230) hx hb dL_law_1139 (by decide) ?_
      refine W.widen (k := cells + 4) (n := slots + 24) (by omega) (by omega) ?_
      exact kk ls _ _ ⟨k, M, u.2, u2.2, 0, _, ⟨by omega, by omega, hM⟩, lv_sub hl [2, 3, 4, 5, 6] rfl, hCX2, hC2, hO2, hS2⟩
    · exfalso; omega
  · rcases hp2 with ⟨hok2, g0, rfl⟩ | ⟨hb12, g0⟩
    · exfalso; omega
    · skip
      have hC1 := hB.2 (by rw [h0]; decide)
      have hC2 := hB2.2 (by rw [g0]; decide)
      rw [ht2, g0] at hC2
      rw [ht] at hC1
      rw [h0] at hl
      have hCX2 := hC1.1.keptA (fun a9 g9 h9 => hk2 a9 g9 (hD.2.2.2.2.2.2.1 a9 h9))
      have hO2 : OU cL ou _ H2 := (hk2 ou (Array.getElem?_eq_some_iff.mp hC1.2).1 hD.2.2.2.2.2.2.2.2).trans hC1.2
      have hGM2 := hD.gm hC2
      have hl : lv_has ls 7 [(5, .int (iI (1))), (4, .int (iI ((n : Nat)))), (0, .ref (b)), (1, .ref (ox ω)), (2, .ref (mo μ)), (3, .ref (ou))] := hl
      refine lv_istore (lv' := [(6, .int (r2)), (5, .int (iI (1))), (4, .int (iI ((n : Nat)))), (0, .ref (b)), (1, .ref (ox ω)), (2, .ref (mo μ)), (3, .ref (ou))]) hx hb dL_law_1109 hl (by decide) rfl (fun ls hl => ?_)
      refine lv_aload_n hx hb dL_law_1111 rfl (lv_at hl 5 rfl) ?_
      refine vp_callSi (va_Run.run (va_runV (As := []) (rest := []) ⟨hx, hb, hml, hown, hts⟩ (m_thrown l μ 1 k (kQ k) M u2.2) (cwV 0 hts (gU (hd := [.methodLink "NoiseRingLaw" 69 yX1_thrown, .instanceMethod yX1_thrown, .selects "NoiseRingModel" yX1_thrown yX1_thrown, .initialized "NoiseRingModel"]) (List.forall_mem_cons.mpr ⟨u340, List.forall_mem_cons.mpr ⟨u341, List.forall_mem_cons.mpr ⟨u342, List.forall_mem_cons.mpr ⟨u30, fun _ h => by cases h⟩⟩⟩⟩) u343) rfl rfl rfl (by decide +kernel) ⟨Nat.le_of_ble_eq_true rfl, Nat.le_of_ble_eq_true rfl⟩) (gm_V hGM2) rfl rfl hl.1 rfl (lv_room (Nat.le_of_ble_eq_true rfl)) dL_law_1112 ⟨by show _ ≤ 646401; omega, by show _ ≤ 7156900; omega⟩)) (fun r9 hr9 => ?_)
      subst hr9
      refine lv_iload hx hb dL_law_1115 (lv_at hl 1 rfl) ?_
      refine ix_icmp_eq (tgt := 1122) hx hb (by omega) (by omega) (by omega) (by omega) dL_law_1117 (by decide) (fun h1117 => ?_) (fun h1117 => absurd h1117 (by omega))
      refine lv_iload hx hb dL_law_1122 (lv_at hl 1 rfl) ?_
      refine ix_if_ne (tgt := 1139) hx hb (by omega) (by omega) dL_law_1124 (by decide) (fun h1124 => ?_) (fun h1124 => absurd h1124 (by omega))
      refine lv_goto (tgt := 1230) hx hb dL_law_1139 (by decide) ?_
      refine W.widen (k := cells + 4) (n := slots + 24) (by omega) (by omega) ?_
      exact kk ls _ _ ⟨k, M, u.2, u2.2, 1, _, ⟨k1, k2, hM⟩, lv_sub hl [2, 3, 4, 5, 6] rfl, hCX2, hC2, hO2, hS2⟩
set_option maxHeartbeats 4000000 in
set_option maxRecDepth 100000 in
theorem l_unit {p : Program} {l : Launch} {e : Env} {s : State} {m : MethodId} {args : Array Value} {below : List Frame} {meth : Method} {c : Code} {H : Heap} {locs : List Loc} {cells slots : Nat} {Q : State → Prop} {ls : Array Slot} {b L n : Nat} {xs : Nat → Int32} {ω : WX} {μ : WM} {cL : ClassId} {ou : Nat} (htr : l.stackTraces = false) (hx : p.tables.exec = Jvm.exec) (hb : c.code = cL_law) (hml : c.maxLocals = 7) (hown : s.vm.findClass "NoiseRingLaw" = some m.cls) (hts : ∀ w ∈ wsU, w.before args s = true) (hX : va_X b L xs s s.heap) (hbl : b < s.heap.size) (hL : L ≤ 3584) (hD : DL ω μ cL ou s) (hn : n + 7 ≤ L) (hw : WL ω μ cL ou b s n ls H locs) (hc : cells + 4 ≤ 646401) (hsl : slots + 24 ≤ 7156900)
    (kk : ∀ (ls' : Array Slot) (H' : Heap) (locs' : List Loc), WL ω μ cL ou b s n ls' H' locs' → W p l e room_1 s m args below meth c H' locs' (cells + 4) (slots + 24) Q (F0 m 1230 ls' [])) : W p l e room_1 s m args below meth c H locs cells slots Q (F0 m 1142 ls []) := by
  obtain ⟨k, M, wk, f, th, o, ⟨k1, k2, hM⟩, hl, hCX, hCM, hO, hS⟩ := hw
  obtain ⟨hq1, hq2⟩ := kQ_in (k := k)
  have qo := kQ_odd k
  have hG := hD.gx hS hCX
  have hGM := hD.gm hCM
  have hAw : ∀ q9, Aw ω ou q9 → s.heap.size ≤ q9 := fun q9 h => h.elim (hD.2.2.2.1 q9) (fun e9 => by rw [e9]; exact hD.2.2.2.2.2.1)
  obtain ⟨v1, ⟨v1a, v1b⟩, e1⟩ := iI_of (xs (n + 1))
  have hl : lv_has ls 7 [(4, .int (iI ((n : Nat)))), (0, .ref (b)), (1, .ref (ox ω)), (2, .ref (mo μ)), (3, .ref (ou))] := hl
  refine lv_aload_n hx hb dL_law_1142 rfl (lv_at hl 2 rfl) ?_
  refine lv_aload_n hx hb dL_law_1143 rfl (lv_at hl 1 rfl) ?_
  refine lv_iload hx hb dL_law_1144 (lv_at hl 0 rfl) ?_
  refine ix_iconst hx hb dL_law_1146 ?_
  refine ix_iadd hx hb dL_law_1147 ?_
  refine wx_i (congrArg iI (show ((n : Nat) : Int) + 1 = ((n + 1 : Nat) : Int) by omega)) ?_
  refine sc_ld hx hb hX hbl hS (n := n + 1) (by omega) hL e1 dL_law_1148 ?_
  refine lv_aload_n hx hb dL_law_1149 rfl (lv_at hl 4 rfl) ?_
  refine va_calli (vx_runSW (As := [.ref (ox ω), .int (iI (v1)), .ref (ou)]) (rest := []) ⟨hx, hb, hml, hown, hts⟩ (w_unit l htr ω cL ou o hD.2.2.2.2.2.2.2.1 k (kQ k) (kZ k) M wk v1 v1a v1b hq1 hq2 hM k1 k2 rfl) (vx_cwSW 3 hts (gU (hd := [.methodLink "NoiseRingLaw" 113 yL_unit, .static yL_unit, .initialized "NoiseRingLaw"]) (List.forall_mem_cons.mpr ⟨u310, List.forall_mem_cons.mpr ⟨u311, List.forall_mem_cons.mpr ⟨u28, fun _ h => by cases h⟩⟩⟩) u312) rfl rfl rfl (by decide +kernel) ⟨Nat.le_of_ble_eq_true rfl, Nat.le_of_ble_eq_true rfl⟩) (gw_S hG hD.2.2.1 hO) rfl rfl hl.1 rfl (lv_room (Nat.le_of_ble_eq_true rfl)) dL_law_1150 ⟨by show _ ≤ 646401; omega, by show _ ≤ 7156900; omega⟩) hS (fun q9 _ h => hAw q9 h) (fun q9 h => hAw q9 h) (fun r u t H1 locs1 ht hvm hp hB hz hk hS1 => ?_)
  obtain ⟨hp, rfl⟩ := hp
  have hCM1 : CM μ th k (kQ k) M f H1 := hCM.kept (fun a9 g9 h9 => hk a9 g9 (fun e9 => e9.elim (fun e9 => hD.2.2.2.2.2.2.1 a9 e9 h9) (fun e9 => hD.2.2.2.2.2.2.2.2 (e9 ▸ h9))))
  have hGM := hD.gm hCM1
  have hS := hS1
  refine lv_istore (lv' := [(5, .int (iI (u.1))), (4, .int (iI ((n : Nat)))), (0, .ref (b)), (1, .ref (ox ω)), (2, .ref (mo μ)), (3, .ref (ou))]) hx hb dL_law_1153 hl (by decide) rfl (fun ls hl => ?_)
  refine lv_aload_n hx hb dL_law_1155 rfl (lv_at hl 4 rfl) ?_
  refine lv_aload_n hx hb dL_law_1156 rfl (lv_at hl 2 rfl) ?_
  refine lv_iload hx hb dL_law_1157 (lv_at hl 1 rfl) ?_
  refine ix_iconst hx hb dL_law_1159 ?_
  refine ix_iadd hx hb dL_law_1160 ?_
  refine wx_i (congrArg iI (show ((n : Nat) : Int) + 1 = ((n + 1 : Nat) : Int) by omega)) ?_
  refine sc_ld hx hb hX hbl hS (n := n + 1) (by omega) hL e1 dL_law_1161 ?_
  refine va_calli (va_runV (As := [.int (iI (v1))]) (rest := []) ⟨hx, hb, hml, hown, hts⟩ (m_unit l μ th k (kQ k) M f v1 v1a v1b hq1 hq2 hM k1 k2 rfl) (cwV 1 hts (gU (hd := [.methodLink "NoiseRingLaw" 115 yX1_unit, .instanceMethod yX1_unit, .selects "NoiseRingModel" yX1_unit yX1_unit, .initialized "NoiseRingModel"]) (List.forall_mem_cons.mpr ⟨u442, List.forall_mem_cons.mpr ⟨u443, List.forall_mem_cons.mpr ⟨u444, List.forall_mem_cons.mpr ⟨u30, fun _ h => by cases h⟩⟩⟩⟩) u445) rfl rfl rfl (by decide +kernel) ⟨Nat.le_of_ble_eq_true rfl, Nat.le_of_ble_eq_true rfl⟩) (gm_V hGM) rfl rfl hl.1 rfl (lv_room (Nat.le_of_ble_eq_true rfl)) dL_law_1162 ⟨by show _ ≤ 646401; omega, by show _ ≤ 7156900; omega⟩) hS (fun q9 _ h => hD.2.2.2.2.1 q9 h) (fun q9 h => hD.2.2.2.2.1 q9 h) (fun r2 u2 t2 H2 locs2 ht2 hvm2 hp2 hB2 hz2 hk2 hS2 => ?_)
  rcases hp with ⟨hok, h0⟩ | ⟨hb1, h0⟩
  · rcases hp2 with ⟨hok2, g0, rfl⟩ | ⟨hb12, g0⟩
    · skip
      have hC1 := hB.1 h0
      have hC2 := hB2.1 g0
      rw [ht2] at hC2
      rw [ht] at hC1
      rw [h0] at hl
      have hCX2 := hC1.1.keptA (fun a9 g9 h9 => hk2 a9 g9 (hD.2.2.2.2.2.2.1 a9 h9))
      have hO2 : OU cL ou _ H2 := (hk2 ou (Array.getElem?_eq_some_iff.mp hC1.2).1 hD.2.2.2.2.2.2.2.2).trans hC1.2
      have hGM2 := hD.gm hC2
      have hl : lv_has ls 7 [(5, .int (iI (0))), (4, .int (iI ((n : Nat)))), (0, .ref (b)), (1, .ref (ox ω)), (2, .ref (mo μ)), (3, .ref (ou))] := hl
      refine lv_istore (lv' := [(6, .int (iI (sUi k (M v1.toNat)))), (5, .int (iI (0))), (4, .int (iI ((n : Nat)))), (0, .ref (b)), (1, .ref (ox ω)), (2, .ref (mo μ)), (3, .ref (ou))]) hx hb dL_law_1165 hl (by decide) rfl (fun ls hl => ?_)
      refine lv_aload_n hx hb dL_law_1167 rfl (lv_at hl 5 rfl) ?_
      refine vp_callSi (va_Run.run (va_runV (As := []) (rest := []) ⟨hx, hb, hml, hown, hts⟩ (m_thrown l μ 0 k (kQ k) M u2.2) (cwV 0 hts (gU (hd := [.methodLink "NoiseRingLaw" 69 yX1_thrown, .instanceMethod yX1_thrown, .selects "NoiseRingModel" yX1_thrown yX1_thrown, .initialized "NoiseRingModel"]) (List.forall_mem_cons.mpr ⟨u340, List.forall_mem_cons.mpr ⟨u341, List.forall_mem_cons.mpr ⟨u342, List.forall_mem_cons.mpr ⟨u30, fun _ h => by cases h⟩⟩⟩⟩) u343) rfl rfl rfl (by decide +kernel) ⟨Nat.le_of_ble_eq_true rfl, Nat.le_of_ble_eq_true rfl⟩) (gm_V hGM2) rfl rfl hl.1 rfl (lv_room (Nat.le_of_ble_eq_true rfl)) dL_law_1168 ⟨by show _ ≤ 646401; omega, by show _ ≤ 7156900; omega⟩)) (fun r9 hr9 => ?_)
      subst hr9
      refine lv_iload hx hb dL_law_1171 (lv_at hl 1 rfl) ?_
      refine ix_icmp_eq (tgt := 1178) hx hb (by omega) (by omega) (by omega) (by omega) dL_law_1173 (by decide) (fun h1173 => ?_) (fun h1173 => absurd h1173 (by omega))
      refine lv_iload hx hb dL_law_1178 (lv_at hl 1 rfl) ?_
      refine ix_if_ne (tgt := 1202) hx hb (by omega) (by omega) dL_law_1180 (by decide) (fun h1180 => absurd h1180 (by omega)) (fun h1180 => ?_)
      refine lv_aload_n hx hb dL_law_1183 rfl (lv_at hl 6 rfl) ?_
      refine ix_iconst hx hb dL_law_1184 ?_
      refine ou_ld hx hb hO2 hD.2.2.1 dL_law_1185 ?_
      refine lv_iload hx hb dL_law_1186 (lv_at hl 0 rfl) ?_
      have h01 := sUi_01 k (M v1.toNat)
      refine ix_if_eq (tgt := 1195) hx hb (by omega) (by omega) dL_law_1188 (by decide) (fun h7 => ?_) (fun h7 => ?_)
      · refine ix_lconst0 hx hb dL_law_1195 ?_
        refine wx_l (show lI 0 = (iI (sUi k (M v1.toNat))).toInt64 by rw [h7]; decide) ?_
        refine lx_same (tgt := 1202) hx hb dL_law_1196 dL_law_1197 (by decide) ?_
        refine lv_goto (tgt := 1230) hx hb dL_law_1202 (by decide) ?_
        refine W.widen (k := cells + 4) (n := slots + 24) (by omega) (by omega) ?_
        exact kk ls _ _ ⟨k, M, u.2, u2.2, 0, _, ⟨by omega, by omega, hM⟩, lv_sub hl [2, 3, 4, 5, 6] rfl, hCX2, hC2, hO2, hS2⟩
      · refine ix_lconst1 hx hb dL_law_1191 ?_
        refine lv_goto (tgt := 1196) hx hb dL_law_1192 (by decide) ?_
        refine wx_l (show lI 1 = (iI (sUi k (M v1.toNat))).toInt64 by rw [show sUi k (M v1.toNat) = 1 by omega]; decide) ?_
        refine lx_same (tgt := 1202) hx hb dL_law_1196 dL_law_1197 (by decide) ?_
        refine lv_goto (tgt := 1230) hx hb dL_law_1202 (by decide) ?_
        refine W.widen (k := cells + 4) (n := slots + 24) (by omega) (by omega) ?_
        exact kk ls _ _ ⟨k, M, u.2, u2.2, 0, _, ⟨by omega, by omega, hM⟩, lv_sub hl [2, 3, 4, 5, 6] rfl, hCX2, hC2, hO2, hS2⟩
    · exfalso; omega
  · rcases hp2 with ⟨hok2, g0, rfl⟩ | ⟨hb12, g0⟩
    · exfalso; omega
    · skip
      have hC1 := hB.2 (by rw [h0]; decide)
      have hC2 := hB2.2 (by rw [g0]; decide)
      rw [ht2, g0] at hC2
      rw [ht] at hC1
      rw [h0] at hl
      have hCX2 := hC1.1.keptA (fun a9 g9 h9 => hk2 a9 g9 (hD.2.2.2.2.2.2.1 a9 h9))
      have hO2 : OU cL ou _ H2 := (hk2 ou (Array.getElem?_eq_some_iff.mp hC1.2).1 hD.2.2.2.2.2.2.2.2).trans hC1.2
      have hGM2 := hD.gm hC2
      have hl : lv_has ls 7 [(5, .int (iI (1))), (4, .int (iI ((n : Nat)))), (0, .ref (b)), (1, .ref (ox ω)), (2, .ref (mo μ)), (3, .ref (ou))] := hl
      refine lv_istore (lv' := [(6, .int (r2)), (5, .int (iI (1))), (4, .int (iI ((n : Nat)))), (0, .ref (b)), (1, .ref (ox ω)), (2, .ref (mo μ)), (3, .ref (ou))]) hx hb dL_law_1165 hl (by decide) rfl (fun ls hl => ?_)
      refine lv_aload_n hx hb dL_law_1167 rfl (lv_at hl 5 rfl) ?_
      refine vp_callSi (va_Run.run (va_runV (As := []) (rest := []) ⟨hx, hb, hml, hown, hts⟩ (m_thrown l μ 1 k (kQ k) M u2.2) (cwV 0 hts (gU (hd := [.methodLink "NoiseRingLaw" 69 yX1_thrown, .instanceMethod yX1_thrown, .selects "NoiseRingModel" yX1_thrown yX1_thrown, .initialized "NoiseRingModel"]) (List.forall_mem_cons.mpr ⟨u340, List.forall_mem_cons.mpr ⟨u341, List.forall_mem_cons.mpr ⟨u342, List.forall_mem_cons.mpr ⟨u30, fun _ h => by cases h⟩⟩⟩⟩) u343) rfl rfl rfl (by decide +kernel) ⟨Nat.le_of_ble_eq_true rfl, Nat.le_of_ble_eq_true rfl⟩) (gm_V hGM2) rfl rfl hl.1 rfl (lv_room (Nat.le_of_ble_eq_true rfl)) dL_law_1168 ⟨by show _ ≤ 646401; omega, by show _ ≤ 7156900; omega⟩)) (fun r9 hr9 => ?_)
      subst hr9
      refine lv_iload hx hb dL_law_1171 (lv_at hl 1 rfl) ?_
      refine ix_icmp_eq (tgt := 1178) hx hb (by omega) (by omega) (by omega) (by omega) dL_law_1173 (by decide) (fun h1173 => ?_) (fun h1173 => absurd h1173 (by omega))
      refine lv_iload hx hb dL_law_1178 (lv_at hl 1 rfl) ?_
      refine ix_if_ne (tgt := 1202) hx hb (by omega) (by omega) dL_law_1180 (by decide) (fun h1180 => ?_) (fun h1180 => absurd h1180 (by omega))
      refine lv_goto (tgt := 1230) hx hb dL_law_1202 (by decide) ?_
      refine W.widen (k := cells + 4) (n := slots + 24) (by omega) (by omega) ?_
      exact kk ls _ _ ⟨k, M, u.2, u2.2, 1, _, ⟨k1, k2, hM⟩, lv_sub hl [2, 3, 4, 5, 6] rfl, hCX2, hC2, hO2, hS2⟩
set_option maxHeartbeats 4000000 in
set_option maxRecDepth 100000 in
theorem l_count {p : Program} {l : Launch} {e : Env} {s : State} {m : MethodId} {args : Array Value} {below : List Frame} {meth : Method} {c : Code} {H : Heap} {locs : List Loc} {cells slots : Nat} {Q : State → Prop} {ls : Array Slot} {b L n : Nat} {xs : Nat → Int32} {ω : WX} {μ : WM} {cL : ClassId} {ou : Nat} (htr : l.stackTraces = false) (hx : p.tables.exec = Jvm.exec) (hb : c.code = cL_law) (hml : c.maxLocals = 7) (hown : s.vm.findClass "NoiseRingLaw" = some m.cls) (hts : ∀ w ∈ wsU, w.before args s = true) (hX : va_X b L xs s s.heap) (hbl : b < s.heap.size) (hL : L ≤ 3584) (hD : DL ω μ cL ou s) (hn : n + 7 ≤ L) (hw : WL ω μ cL ou b s n ls H locs) (hc : cells + 4 ≤ 646401) (hsl : slots + 24 ≤ 7156900)
    (kk : ∀ (ls' : Array Slot) (H' : Heap) (locs' : List Loc), WL ω μ cL ou b s n ls' H' locs' → W p l e room_1 s m args below meth c H' locs' (cells + 4) (slots + 24) Q (F0 m 1230 ls' [])) : W p l e room_1 s m args below meth c H locs cells slots Q (F0 m 1205 ls []) := by
  obtain ⟨k, M, wk, f, th, o, ⟨k1, k2, hM⟩, hl, hCX, hCM, hO, hS⟩ := hw
  obtain ⟨hq1, hq2⟩ := kQ_in (k := k)
  have qo := kQ_odd k
  have hG := hD.gx hS hCX
  have hGM := hD.gm hCM
  have hAw : ∀ q9, Aw ω ou q9 → s.heap.size ≤ q9 := fun q9 h => h.elim (hD.2.2.2.1 q9) (fun e9 => by rw [e9]; exact hD.2.2.2.2.2.1)
  obtain ⟨v1, ⟨v1a, v1b⟩, e1⟩ := iI_of (xs (n + 1))
  have hl : lv_has ls 7 [(4, .int (iI ((n : Nat)))), (0, .ref (b)), (1, .ref (ox ω)), (2, .ref (mo μ)), (3, .ref (ou))] := hl
  refine lv_aload_n hx hb dL_law_1205 rfl (lv_at hl 2 rfl) ?_
  refine lv_aload_n hx hb dL_law_1206 rfl (lv_at hl 1 rfl) ?_
  refine lv_iload hx hb dL_law_1207 (lv_at hl 0 rfl) ?_
  refine ix_iconst hx hb dL_law_1209 ?_
  refine ix_iadd hx hb dL_law_1210 ?_
  refine wx_i (congrArg iI (show ((n : Nat) : Int) + 1 = ((n + 1 : Nat) : Int) by omega)) ?_
  refine sc_ld hx hb hX hbl hS (n := n + 1) (by omega) hL e1 dL_law_1211 ?_
  refine vp_callSi (va_Run.run (va_runV (As := [.int (iI (v1))]) (rest := []) ⟨hx, hb, hml, hown, hts⟩ (c_count l ω k (kQ k) (kZ k) M wk v1 v1a v1b hq1 hq2 hM) (cwV 1 hts (gU (hd := [.methodLink "NoiseRingLaw" 116 yX0_count, .instanceMethod yX0_count, .selects "NoiseRing" yX0_count yX0_count, .initialized "NoiseRing"]) (List.forall_mem_cons.mpr ⟨u72, List.forall_mem_cons.mpr ⟨u73, List.forall_mem_cons.mpr ⟨u74, List.forall_mem_cons.mpr ⟨u29, fun _ h => by cases h⟩⟩⟩⟩) u75) rfl rfl rfl (by decide +kernel) ⟨Nat.le_of_ble_eq_true rfl, Nat.le_of_ble_eq_true rfl⟩) (gx_V hG) rfl rfl hl.1 rfl (lv_room (Nat.le_of_ble_eq_true rfl)) dL_law_1212 ⟨by show _ ≤ 646401; omega, by show _ ≤ 7156900; omega⟩)) (fun r9 hr9 => ?_)
  subst hr9
  refine lv_aload_n hx hb dL_law_1215 rfl (lv_at hl 3 rfl) ?_
  refine lv_aload_n hx hb dL_law_1216 rfl (lv_at hl 1 rfl) ?_
  refine lv_iload hx hb dL_law_1217 (lv_at hl 0 rfl) ?_
  refine ix_iconst hx hb dL_law_1219 ?_
  refine ix_iadd hx hb dL_law_1220 ?_
  refine wx_i (congrArg iI (show ((n : Nat) : Int) + 1 = ((n + 1 : Nat) : Int) by omega)) ?_
  refine sc_ld hx hb hX hbl hS (n := n + 1) (by omega) hL e1 dL_law_1221 ?_
  refine va_calli (va_runV (As := [.int (iI (v1))]) (rest := [.int (iI (sCount k (kQ k) (kZ k) M v1))]) ⟨hx, hb, hml, hown, hts⟩ (m_count l μ th k (kQ k) M f v1 v1a v1b hq1 hq2 hM k1 k2 rfl) (cwV 1 hts (gU (hd := [.methodLink "NoiseRingLaw" 119 yX1_count, .instanceMethod yX1_count, .selects "NoiseRingModel" yX1_count yX1_count, .initialized "NoiseRingModel"]) (List.forall_mem_cons.mpr ⟨u446, List.forall_mem_cons.mpr ⟨u447, List.forall_mem_cons.mpr ⟨u448, List.forall_mem_cons.mpr ⟨u30, fun _ h => by cases h⟩⟩⟩⟩) u449) rfl rfl rfl (by decide +kernel) ⟨Nat.le_of_ble_eq_true rfl, Nat.le_of_ble_eq_true rfl⟩) (gm_V hGM) rfl rfl hl.1 rfl (lv_room (Nat.le_of_ble_eq_true rfl)) dL_law_1222 ⟨by show _ ≤ 646401; omega, by show _ ≤ 7156900; omega⟩) hS (fun q9 _ h => hD.2.2.2.2.1 q9 h) (fun q9 h => hD.2.2.2.2.1 q9 h) (fun r2 u2 t2 H2 locs2 ht2 hvm2 hp2 hB2 hz2 hk2 hS2 => ?_)
  obtain ⟨g0, rfl⟩ := hp2
  have hC2 := hB2.1 g0
  rw [ht2] at hC2
  have hCX2 := hCX.keptA (fun a9 g9 h9 => hk2 a9 g9 (hD.2.2.2.2.2.2.1 a9 h9))
  have hO2 : OU cL ou o H2 := (hk2 ou (Array.getElem?_eq_some_iff.mp hO).1 hD.2.2.2.2.2.2.2.2).trans hO
  refine lx_icmp (tgt := 1230) hx hb dL_law_1225 (by decide) ?_
  refine W.widen (k := cells + 4) (n := slots + 24) (by omega) (by omega) ?_
  exact kk ls _ _ ⟨k, M, wk, u2.2, 0, o, ⟨k1, k2, hM⟩, lv_sub hl [0, 1, 2, 3, 4] rfl, hCX2, hC2, hO2, hS2⟩

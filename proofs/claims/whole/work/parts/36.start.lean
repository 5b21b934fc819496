/-! Rows of the law's own; the words out of the tables; the facts of the start (wip/gen/st.py). -/
section LAR
variable {p : Program} {l : Launch} {e : Env} {R : Room} {s : State} {m : MethodId} {args : Array Value} {below : List Frame} {meth : Method} {c : Code} {H : Heap} {locs : List Loc} {cells slots : Nat} {Q : State → Prop}
variable {cc : ByteArray} {pc : Nat} {ls : Array Slot} {rest : List Value}
theorem ix_selE (hexec : p.tables.exec = Jvm.exec) (hb : c.code = cc) {a x y : Int} (a1 : -2147483648 ≤ a) (a2 : a < 2147483648) {off off2 : Int} {n1 t1 t2 : Nat} (d1 : decode cc pc = .ok (.ifCond .eq off, 3)) (h1 : (pc : Int) + off = (t1 : Int))
    (kx : W p l e R s m args below meth c H locs cells slots Q (F0 m (pc + 3 + n1) ls (.int (iI x) :: rest)) → W p l e R s m args below meth c H locs cells slots Q (F0 m (pc + 3) ls rest)) (d2 : decode cc (pc + 3 + n1) = .ok (.goto off2, 3)) (h2 : ((pc + 3 + n1 : Nat) : Int) + off2 = (t2 : Int))
    (ky : W p l e R s m args below meth c H locs cells slots Q (F0 m t2 ls (.int (iI y) :: rest)) → W p l e R s m args below meth c H locs cells slots Q (F0 m t1 ls rest))
    (kk : W p l e R s m args below meth c H locs cells slots Q (F0 m t2 ls (.int (iI (if a = 0 then y else x)) :: rest))) : W p l e R s m args below meth c H locs cells slots Q (F0 m pc ls (.int (iI a) :: rest)) := by
  refine ix_if_eq (tgt := t1) hexec hb a1 a2 d1 h1 (fun h => ky ?_) (fun h => kx (lv_goto (tgt := t2) hexec hb d2 h2 ?_))
  · rw [if_pos h] at kk; exact kk
  · rw [if_neg h] at kk; exact kk
theorem lx_same (hexec : p.tables.exec = Jvm.exec) (hb : c.code = cc) {x : Int64} {off : Int} {tgt : Nat} (hd1 : decode cc pc = .ok (.lcmp, 1)) (hd2 : decode cc (pc + 1) = .ok (.ifCond .eq off, 3)) (ht : ((pc + 1 : Nat) : Int) + off = (tgt : Int))
    (kt : W p l e R s m args below meth c H locs cells slots Q (F0 m tgt ls rest)) : W p l e R s m args below meth c H locs cells slots Q (F0 m pc ls (.long x :: .long x :: rest)) := by
  have key : lg_cmp x x = 0 := by simp [lg_cmp]
  exact W.lcmp hexec hb hd1 (lv_if_eq hexec hb hd2 ht (fun _ => kt) (fun h => absurd key h))
theorem lx_icmp (hexec : p.tables.exec = Jvm.exec) (hb : c.code = cc) {x : Int32} {off : Int} {tgt : Nat} (hdg : decode cc pc = .ok (.if_icmp .eq off, 3)) (ht : (pc : Int) + off = (tgt : Int))
    (kt : W p l e R s m args below meth c H locs cells slots Q (F0 m tgt ls rest)) : W p l e R s m args below meth c H locs cells slots Q (F0 m pc ls (.int x :: .int x :: rest)) := lv_icmp_eq hexec hb hdg ht (fun _ => kt) (fun h => absurd rfl h)
theorem sc_ld (hexec : p.tables.exec = Jvm.exec) (hb : c.code = cc) {b L : Nat} {xs : Nat → Int32} (hX : va_X b L xs s s.heap) (hbl : b < s.heap.size) (hS : va_S (fun q => s.heap.size ≤ q) s.heap H locs) {n : Nat} (hn : n < L) (hL : L ≤ 3584) {v : Int} (hv : xs n = iI v) (hdg : decode cc pc = .ok (.iaload, 1))
    (kk : W p l e R s m args below meth c H locs cells slots Q (F0 m (pc + 1) ls (.int (iI v) :: rest))) : W p l e R s m args below meth c H locs cells slots Q (F0 m pc ls (.int (iI (n : Int)) :: .ref b :: rest)) := by
  have hcl : (iI (n : Int)).toNatClampNeg = n := iI_cl (by omega)
  refine va_sld hexec hb hX hbl (by omega) hS (iI_in hn (by omega)) hdg ?_
  rw [hcl, hv]
  exact kk
/-- a loop in which at most ca cells and sa slots come in a round -/
theorem ix_loopC {head : Nat} {I : Nat → Array Slot → Heap → List Loc → Prop} (N ca sa : Nat) (h0 : I 0 ls H locs)
    (done : ∀ (ls : Array Slot) (H : Heap) (locs : List Loc), I N ls H locs → W p l e R s m args below meth c H locs (cells + ca * N) (slots + sa * N) Q (F0 m head ls rest))
    (step : ∀ (j : Nat) (ls : Array Slot) (H : Heap) (locs : List Loc), j < N → I j ls H locs → (∀ (ls' : Array Slot) (H' : Heap) (locs' : List Loc), I (j + 1) ls' H' locs' → W p l e R s m args below meth c H' locs' (cells + ca * j + ca) (slots + sa * j + sa) Q (F0 m head ls' rest)) → W p l e R s m args below meth c H locs (cells + ca * j) (slots + sa * j) Q (F0 m head ls rest)) :
    W p l e R s m args below meth c H locs cells slots Q (F0 m head ls rest) := by
  have key : ∀ (k j : Nat) (ls : Array Slot) (H : Heap) (locs : List Loc), j + k = N → I j ls H locs → W p l e R s m args below meth c H locs (cells + ca * j) (slots + sa * j) Q (F0 m head ls rest) := by
    intro k
    induction k with
    | zero =>
      intro j ls H locs h hI
      have h : j = N := h
      subst h
      exact done ls H locs hI
    | succ k ih =>
      intro j ls H locs h hI
      refine step j ls H locs (by omega) hI (fun ls' H' locs' hI' => ?_)
      have h1 := ih (j + 1) ls' H' locs' (by omega) hI'
      rw [Nat.mul_succ, Nat.mul_succ, ← Nat.add_assoc, ← Nat.add_assoc] at h1
      exact h1
  exact key N 0 ls H locs (by omega) h0
end LAR
theorem and15 (x : Int32) : ∃ w : Nat, w < 16 ∧ x &&& iI 15 = iI (w : Int) := by
  refine ⟨(x.toBitVec &&& 15#32).toNat, ?_, ?_⟩
  · rw [BitVec.toNat_and]
    exact Nat.lt_of_le_of_lt Nat.and_le_right (by decide)
  · apply Int32.toBitVec_inj.mp
    rw [Int32.toBitVec_and]
    show x.toBitVec &&& 15#32 = (Int32.ofInt _).toBitVec
    rw [Int32.toBitVec_ofInt, BitVec.ofInt_natCast, BitVec.ofNat_toNat]
    simp
set_option maxRecDepth 100000 in
def ixU : List Nat := [0, 1, 2, 3, 4, 5, 6, 7, 8, 9, 10, 11, 12, 13, 14, 15, 16, 17, 18, 19, 20, 21, 22, 23, 24, 25, 26, 27, 28, 29, 30, 31, 32, 33, 34, 35, 36, 37, 38, 39, 40, 41, 42, 43, 44, 45, 46, 48, 50, 51, 52, 54, 56, 58, 59, 60, 61, 62, 63, 64, 65, 66, 67, 68, 69, 70, 71, 72, 73, 74, 75, 76, 77, 78, 79, 80, 81, 83, 84, 85, 86, 87, 88, 89, 90, 91, 92, 93, 94, 95, 96, 97, 98, 99, 100, 108, 109, 110, 111, 112, 113, 114, 115, 116, 117, 118, 119, 120, 121, 122, 123, 124, 125, 127, 129, 130, 132, 133, 134, 136, 137, 138, 140, 141, 142, 143, 144, 145, 146, 147, 148, 149, 150, 151, 153, 154, 155, 156, 157, 158, 159, 160, 161, 162, 163, 164, 165, 166, 167, 168, 169, 170, 171, 172, 173, 174, 175, 176, 177, 178, 180, 181, 182, 183, 184, 185, 187, 188, 189, 190, 191, 192, 193, 194, 195, 197, 198, 199, 200, 201, 202, 203, 204, 205, 206, 207, 208, 209, 210, 211, 212, 213, 214, 216, 217, 218, 220, 221, 222, 223, 224, 225, 226, 227, 228, 230, 231, 232, 234, 235, 236, 237, 238, 239, 240, 241, 242, 243, 244, 245, 246, 247, 248, 249, 251, 253, 254, 255, 257, 258, 259, 260, 261, 262, 263, 265, 266, 267, 268, 269, 270, 271, 272, 273, 274, 275, 276, 277, 279, 280, 281, 283, 284, 285, 286, 287, 288, 290, 291, 292, 293, 294, 295, 296, 297, 298, 299, 300, 301, 302, 303, 304, 305, 306, 308, 309, 310, 311, 312, 313, 314, 315, 316, 317, 318, 319, 320, 321, 322, 323, 324, 325, 326, 327, 328, 329, 330, 331, 332, 333, 334, 335, 336, 337, 338, 339, 340, 341, 343, 344, 345, 346, 347, 348, 349, 350, 351, 352, 354, 355, 356, 357, 358, 359, 360, 361, 362, 363, 364, 365, 366, 367, 368, 369, 370, 371, 372, 373, 374, 375, 376, 377, 378, 379, 380, 381, 382, 383, 384, 385, 386, 387, 388, 389, 390, 391, 392, 394, 395, 396, 398, 399, 400, 401, 402, 403, 404, 405, 406, 407, 408, 409, 411, 412, 413, 415, 416, 417, 419, 420, 421, 422, 423, 424, 425, 426, 427, 428, 429, 430, 431, 432, 433, 434, 436, 437, 438, 440, 441, 442, 444, 445, 446, 447, 448, 449, 450, 451, 452, 453, 454, 455, 456, 457, 458, 459, 460, 461, 462, 463, 464, 465, 466, 467, 468, 469, 470, 471, 472, 473, 474, 476, 477, 478, 480, 481, 482, 484, 485, 486, 488, 489, 490, 491, 492, 493, 494, 495, 496, 497, 498, 499]
set_option maxRecDepth 100000 in
theorem wsU_eq : wsU = ixU.filterMap (fun i => lw_tbl[i]?) := rfl
theorem wsU_in : ∀ w ∈ wsU, w ∈ lw_tbl := fun w hw => by
  rw [wsU_eq] at hw
  obtain ⟨i, -, hi⟩ := List.mem_filterMap.mp hw
  exact List.mem_of_getElem? hi
theorem st_tab {args : Array Value} {s : State} {n : String} {v0 v1 : Int32} (f : Nat → Int) (hl : (Cond.laysStatic "NoiseRing" n "[I").before args s = true) (hini : (Cond.initialized "NoiseRing").before args s = true) (harr : (Cond.arrayOf (.static "NoiseRing" n "[I") .int).before args s = true) (hlen : (Cond.eq (.length (.static "NoiseRing" n "[I")) (.int 2)).before args s = true) (h0 : (Cond.eq (.elem (.static "NoiseRing" n "[I") (.int 0)) (.int v0)).before args s = true) (h1 : (Cond.eq (.elem (.static "NoiseRing" n "[I") (.int 1)) (.int v1)).before args s = true) (f0 : v0 = iI (f 0)) (f1 : v1 = iI (f 1)) :
    ∃ t : Nat, va_Z RX0 n "[I" (.ref t) (fun q => s.heap.size ≤ q) s s.heap ∧ va_T .int t 2 (fun j => .int (iI (f j))) (fun q => s.heap.size ≤ q) s s.heap := by
  have hA : ∀ a : Nat, a < s.heap.size → ¬ s.heap.size ≤ a := fun a h => by omega
  obtain ⟨t, ht, hT⟩ := va_Tof (N := 2) (f := fun j => .int (iI (f j))) (A := fun q => s.heap.size ≤ q) (by decide) harr (va_eqt hlen) (fun j hj => by
    rcases (show j = 0 ∨ j = 1 by omega) with rfl | rfl
    · rw [← f0]; exact va_eqt h0
    · rw [← f1]; exact va_eqt h1) hA
  exact ⟨t, va_Zof hl hini ht hA, hT⟩
theorem st_str {args : Array Value} {s : State} {k : Nat} (h : (Cond.exactly (.string "NoiseRing" k) "java/lang/String").before args s = true) : ∃ a : Nat, (Term.string "NoiseRing" k).eval args s none [] s = some (.ref a) := by
  obtain ⟨a, c, cell, k9, q1, -⟩ := Cond.exactly_spec h
  exact ⟨a, q1⟩
set_option maxRecDepth 100000 in
theorem st_facts {s : State} {b : Nat} (hts : ∀ w ∈ lw_tbl, w.before #[Value.ref b] s = true) (hgv : (Jvm.Cond.and given_1 narrow_1).before #[Value.ref b] s = true) : ∃ (D : va_G) (T : Nat → Nat), va_K D vwCl [] s ∧ BA T (fun q => s.heap.size ≤ q) s s.heap ∧ va_AOA .int s := by
  have hs := flat_of_before _ hgv
  have hA : ∀ a : Nat, a < s.heap.size → ¬ s.heap.size ≤ a := fun a h => by omega
  have hu : ∀ w ∈ wsU, w.before #[Value.ref b] s = true := fun w h => hts w (wsU_in w h)
  obtain ⟨t0, hz0, ht0⟩ := st_tab (n := "MODULUS") (v0 := 3329) (v1 := 8380417) tbM (hts _ (show ((.laysStatic "NoiseRing" "MODULUS" "[I") : Cond) ∈ lw_tbl from List.mem_of_getElem? (i := 53) (by decide +kernel))) (hts _ (show ((.initialized "NoiseRing") : Cond) ∈ lw_tbl from List.mem_of_getElem? (i := 29) (by decide +kernel))) (hs _ (by decide +kernel)) (hs _ (by decide +kernel)) (hs _ (by decide +kernel)) (hs _ (by decide +kernel)) (by decide) (by decide)
  obtain ⟨t1, hz1, ht1⟩ := st_tab (n := "MOST_BITS") (v0 := 11) (v1 := 22) tbB (hts _ (show ((.laysStatic "NoiseRing" "MOST_BITS" "[I") : Cond) ∈ lw_tbl from List.mem_of_getElem? (i := 250) (by decide +kernel))) (hts _ (show ((.initialized "NoiseRing") : Cond) ∈ lw_tbl from List.mem_of_getElem? (i := 29) (by decide +kernel))) (hs _ (by decide +kernel)) (hs _ (by decide +kernel)) (hs _ (by decide +kernel)) (hs _ (by decide +kernel)) (by decide) (by decide)
  obtain ⟨t2, hz2, ht2⟩ := st_tab (n := "BASE_ROOT") (v0 := 17) (v1 := 1753) tbR (hts _ (show ((.laysStatic "NoiseRing" "BASE_ROOT" "[I") : Cond) ∈ lw_tbl from List.mem_of_getElem? (i := 55) (by decide +kernel))) (hts _ (show ((.initialized "NoiseRing") : Cond) ∈ lw_tbl from List.mem_of_getElem? (i := 29) (by decide +kernel))) (hs _ (by decide +kernel)) (hs _ (by decide +kernel)) (hs _ (by decide +kernel)) (hs _ (by decide +kernel)) (by decide) (by decide)
  obtain ⟨t3, hz3, ht3⟩ := st_tab (n := "ZERO_EXPONENT") (v0 := 8) (v1 := 16) tbZ (hts _ (show ((.laysStatic "NoiseRing" "ZERO_EXPONENT" "[I") : Cond) ∈ lw_tbl from List.mem_of_getElem? (i := 353) (by decide +kernel))) (hts _ (show ((.initialized "NoiseRing") : Cond) ∈ lw_tbl from List.mem_of_getElem? (i := 29) (by decide +kernel))) (hs _ (by decide +kernel)) (hs _ (by decide +kernel)) (hs _ (by decide +kernel)) (hs _ (by decide +kernel)) (by decide) (by decide)
  obtain ⟨t4, ht4⟩ := st_str (k := 115) (hs _ (by decide +kernel))
  obtain ⟨t5, ht5⟩ := st_str (k := 120) (hs _ (by decide +kernel))
  obtain ⟨t6, ht6⟩ := st_str (k := 124) (hs _ (by decide +kernel))
  obtain ⟨c0, i0, hk0⟩ := u_known (C := RX0) (T := TX0) (N := 5) hu inX0 (hts _ (show ((.instantiable "NoiseRing" 5) : Cond) ∈ lw_tbl from List.mem_of_getElem? (i := 39) (by decide +kernel)))
  obtain ⟨c1, i1, hk1⟩ := u_known (C := RX1) (T := TX1) (N := 5) hu inX1 (hts _ (show ((.instantiable "NoiseRingModel" 5) : Cond) ∈ lw_tbl from List.mem_of_getElem? (i := 355) (by decide +kernel)))
  refine ⟨(fun c => match c with | 0 => c0 | _ => c1, fun c => match c with | 0 => i0 | _ => i1), (fun i => match i with | 0 => t0 | 1 => t1 | 2 => t2 | 3 => t3 | 4 => t4 | 5 => t5 | _ => t6), ⟨fun c q hc => ?_, fun k q hk => by cases hk⟩, ⟨⟨⟨hz0, ht0⟩, ⟨hz1, ht1⟩, ⟨hz2, ht2⟩, hz3, ht3⟩, ⟨vx_Zqof (hts _ (show ((.laysStatic "java/lang/Throwable" "UNASSIGNED_STACK" "[Ljava/lang/StackTraceElement;") : Cond) ∈ lw_tbl from List.mem_of_getElem? (i := 126) (by decide +kernel))) (hts _ (show ((.initialized "java/lang/Throwable") : Cond) ∈ lw_tbl from List.mem_of_getElem? (i := 31) (by decide +kernel))) (hs _ (by decide +kernel)) hA, vx_Zqof (hts _ (show ((.laysStatic "java/lang/Throwable" "SUPPRESSED_SENTINEL" "Ljava/util/List;") : Cond) ∈ lw_tbl from List.mem_of_getElem? (i := 128) (by decide +kernel))) (hts _ (show ((.initialized "java/lang/Throwable") : Cond) ∈ lw_tbl from List.mem_of_getElem? (i := 31) (by decide +kernel))) (hs _ (by decide +kernel)) hA⟩, ⟨vk_R.of (hts _ (show ((.stringRef "NoiseRing" 115 "no such register") : Cond) ∈ lw_tbl from List.mem_of_getElem? (i := 186) (by decide +kernel))) ht4, vk_R.of (hts _ (show ((.stringRef "NoiseRing" 120 "no such coefficient") : Cond) ∈ lw_tbl from List.mem_of_getElem? (i := 196) (by decide +kernel))) ht5, vk_R.of (hts _ (show ((.stringRef "NoiseRing" 124 "an argument that can't be") : Cond) ∈ lw_tbl from List.mem_of_getElem? (i := 139) (by decide +kernel))) ht6⟩, ⟨va_Nw.of rfl (hts _ (show ((.declares ⟨"java/lang/RuntimeException", "<init>", "(Ljava/lang/String;)V"⟩) : Cond) ∈ lw_tbl from List.mem_of_getElem? (i := 103) (by decide +kernel))), va_Nw.of rfl (hts _ (show ((.declares ⟨"java/lang/Exception", "<init>", "(Ljava/lang/String;)V"⟩) : Cond) ∈ lw_tbl from List.mem_of_getElem? (i := 105) (by decide +kernel))), va_Nw.of rfl (hts _ (show ((.declares ⟨"java/lang/Throwable", "<init>", "(Ljava/lang/String;)V"⟩) : Cond) ∈ lw_tbl from List.mem_of_getElem? (i := 107) (by decide +kernel)))⟩, va_Nw.of rfl (hts _ (show ((.castable "java/util/NoSuchElementException" "java/util/NoSuchElementException") : Cond) ∈ lw_tbl from List.mem_of_getElem? (i := 179) (by decide +kernel))), va_Nw.of rfl (hts _ (show ((.castable "java/lang/IllegalArgumentException" "java/lang/IllegalArgumentException") : Cond) ∈ lw_tbl from List.mem_of_getElem? (i := 101) (by decide +kernel))), va_Nc.of (hs _ (by decide +kernel))⟩, (hts _ (show ((.arrayOver (.array .int)) : Cond) ∈ lw_tbl from List.mem_of_getElem? (i := 47) (by decide +kernel)))⟩
  rcases c with _ | _ | c
  · cases hc; exact hk0
  · cases hc; exact hk1
  · cases hc

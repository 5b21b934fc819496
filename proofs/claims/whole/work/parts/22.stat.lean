/-! Static tables read; the work row copied. -/
theorem tbM_k {k : Int} (k1 : 0 ≤ k) (k2 : k ≤ 1) : tbM k.toNat = kQ k := by
  unfold tbM kQ
  rcases (show k = 0 ∨ k = 1 by omega) with rfl | rfl <;> rfl
theorem tbB_k {k : Int} (k1 : 0 ≤ k) (k2 : k ≤ 1) : tbB k.toNat = kD k := by
  unfold tbB kD
  rcases (show k = 0 ∨ k = 1 by omega) with rfl | rfl <;> rfl
theorem tbR_k {k : Int} (k1 : 0 ≤ k) (k2 : k ≤ 1) : tbR k.toNat = kB k := by
  unfold tbR kB
  rcases (show k = 0 ∨ k = 1 by omega) with rfl | rfl <;> rfl
theorem tbZ_k {k : Int} (k1 : 0 ≤ k) (k2 : k ≤ 1) : tbZ k.toNat = ((if k = 0 then 8 else 16 : Nat) : Int) := by
  unfold tbZ
  rcases (show k = 0 ∨ k = 1 by omega) with rfl | rfl <;> rfl
section GXT
variable {p : Program} {l : Launch} {e : Env} {R : Room} {s : State} {m : MethodId} {args : Array Value} {below : List Frame} {meth : Method} {c : Code} {H : Heap} {locs : List Loc} {cells slots : Nat} {Q : State → Prop}
variable {cc : ByteArray} {pc : Nat} {ls : Array Slot} {rest : List Value} {ω : WX} {k q z : Int} {M : Nat → Nat → Int} {wk : Nat → Int} {H0 : Heap}
theorem gx_gets (hexec : p.tables.exec = Jvm.exec) (hb : c.code = cc) (hts : ∀ w ∈ wsU, w.before args s = true) (hown : s.vm.findClass "NoiseRing" = some m.cls) {i : Nat} {n : String} {f : Nat → Int} (hZ : sx_1 ω i n f s s.heap) (hS : va_S (Ax ω) s.heap H locs) {index : Nat} (hlink : Cond.fieldLink "NoiseRing" index "NoiseRing" n "[I" ∈ wsU) (hdg : decode cc pc = .ok (.getstatic index, 3))
    (kk : W p l e R s m args below meth c H locs cells slots Q (F0 m (pc + 3) ls (.ref (oT ω i) :: rest))) : W p l e R s m args below meth c H locs cells slots Q (F0 m pc ls rest) := va_gets hexec hb hZ.1 hS hown (hts _ hlink) (fun _ h => h) hdg kk
theorem gx_tab (hexec : p.tables.exec = Jvm.exec) (hb : c.code = cc) {i : Nat} {n : String} {f : Nat → Int} (hZ : sx_1 ω i n f s s.heap) (hS : va_S (Ax ω) s.heap H locs) {k : Int} (k1 : 0 ≤ k) (k2 : k ≤ 1) {v : Int} (hv : f k.toNat = v) (hdg : decode cc pc = .ok (.iaload, 1))
    (kk : W p l e R s m args below meth c H locs cells slots Q (F0 m (pc + 1) ls (.int (iI v) :: rest))) : W p l e R s m args below meth c H locs cells slots Q (F0 m pc ls (.int (iI k) :: .ref (oT ω i) :: rest)) := by
  subst hv
  obtain ⟨n, rfl⟩ := Int.eq_ofNat_of_zero_le k1
  have hcl : (iI (n : Int)).toNatClampNeg = n := iI_cl (by omega)
  refine va_ti (v := .int (iI (f n))) hexec hb hZ.2 hS (iI_in (n := 2) (by omega) (by decide)) ?_ hdg kk
  show Value.int (iI (f (iI (n : Int)).toNatClampNeg)) = _
  rw [hcl]
theorem gx_tlen (hexec : p.tables.exec = Jvm.exec) (hb : c.code = cc) {i : Nat} {n : String} {f : Nat → Int} (hZ : sx_1 ω i n f s s.heap) (hS : va_S (Ax ω) s.heap H locs) (hdg : decode cc pc = .ok (.arraylength, 1))
    (kk : W p l e R s m args below meth c H locs cells slots Q (F0 m (pc + 1) ls (.int (iI 2) :: rest))) : W p l e R s m args below meth c H locs cells slots Q (F0 m pc ls (.ref (oT ω i) :: rest)) := va_tlen hexec hb hZ.2 hS (v := iI 2) (by decide) hdg kk
set_option maxRecDepth 100000 in
theorem uCopyL : Cond.methodLink "NoiseRing" 49 arraycopyName ∈ wsU := by decide +kernel
set_option maxRecDepth 100000 in
theorem uCopyN : Cond.native arraycopyName ∈ wsU := by decide +kernel
set_option maxRecDepth 100000 in
theorem uCopyS : Cond.static arraycopyName ∈ wsU := by decide +kernel
set_option maxRecDepth 100000 in
theorem uSysI : Cond.initialized "java/lang/System" ∈ wsU := by decide +kernel
/-- System.arraycopy(work, 0, registers[to], 0, 16) -/
theorem gx_copy (hexec : p.tables.exec = Jvm.exec) (hb : c.code = cc) (hts : ∀ w ∈ wsU, w.before args s = true) (hml : c.maxLocals = ls.size) (hown : s.vm.findClass "NoiseRing" = some m.cls) (hG : GX ω k q z M wk s H) (hS : va_S (Ax ω) H0 H locs) {to : Nat} (hto : to < 12)
    (hframes : 1 ≤ R.frames) (hlocals : (rest.map fun v => v.category).sum + (nativeFrameWords "java/lang/System" "arraycopy" 5 + 11) ≤ R.locals) (hdg : decode cc pc = .ok (.invokestatic 49, 3))
    (kk : ∀ (H1 : Heap) (locs1 : List Loc), GX ω k q z (mixR M to wk 16) wk s H1 → va_S (Ax ω) H0 H1 locs1 → W p l e R s m args below meth c H1 locs1 cells slots Q (F0 m (pc + 3) ls rest)) : W p l e R s m args below meth c H locs cells slots Q (F0 m pc ls (.int (iI 16) :: .int (iI 0) :: .ref (oR ω to) :: .int (iI 0) :: .ref (ow ω) :: rest)) := by
  have hax : Ax ω (oR ω to) := Or.inr (Or.inr (Or.inr ⟨to, hto, rfl⟩))
  have hK := hG.1.1
  have hc0 := hG.2.2.2.1
  have hc1 := hG.2.2.2.2 to hto
  obtain ⟨-, k0, hk0, cm0, hkk0⟩ := (hK.2 0 _ rfl).1 16 (fun j => .int (iI (wk j)))
  obtain ⟨-, k1, hk1, cm1, hkk1⟩ := (hK.2 0 _ rfl).1 16 (fun j => .int (iI (M to j)))
  intro T hT X
  obtain ⟨vm', X', step⟩ := X.arraycopy hexec hown (hts _ uCopyL) (hts _ uCopyN) (hts _ uCopyS) (hts _ uSysI) (src := ow ω) (dst := oR ω to) (cs := vp_cell (oI ω) (16, .inl (fun i => iI (wk i)))) (cd := vp_cell (oI ω) (16, .inl (fun i => iI (M to i)))) (srcPos := iI 0) (destPos := iI 0) (n := iI 16) (by rw [hT]; exact hc0) (by rw [hT]; exact hc1)
    (fun _ h => by cases h) (fun _ h => by cases h) (fun h => by cases h) (fun h => by cases h) hk0 hk1 hkk0 hkk1 (by simp [refKind]) (by decide) (by decide) (by decide)
    (by rw [vp_cell_i, arrV_size]; decide)
    (by rw [vp_cell_i, arrV_size]; decide)
    (fun vm₁ _ i hi => by
      have h16 : (iI 16).toNatClampNeg = 16 := by decide
      rw [h16] at hi
      have e : (vp_cell (oI ω) (16, .inl (fun i => iI (wk i)))).slots.getD ((iI 0).toNatClampNeg + i) .null = .int (iI (wk i)) := by
        rw [vp_cell_i, show (iI 0).toNatClampNeg + i = i by rw [show (iI 0).toNatClampNeg = 0 by decide]; omega, Array.getD_eq_getD_getElem?, arrV_read _ _ (by omega)]
        rfl
      refine ⟨?_, ?_⟩
      · rw [e]; rfl
      · rw [e]; exact trivial)
    (g := F0 m pc ls (.int (iI 16) :: .int (iI 0) :: .ref (oR ω to) :: .int (iI 0) :: .ref (ow ω) :: rest)) rfl (by rw [hml]) (rest := rest) rfl (by rw [hb]; exact hdg) hframes (by show 2 * 0 + _ + _ ≤ _; omega)
  have e1 : copied (vp_cell (oI ω) (16, .inl (fun i => iI (wk i)))) (vp_cell (oI ω) (16, .inl (fun i => iI (M to i)))) (iI 0) (iI 0) (iI 16) = vp_cell (oI ω) (16, .inl (va_cpy (fun i => iI (wk i)) (fun i => iI (M to i)) (iI 0).toNatClampNeg (iI 0).toNatClampNeg (iI 16).toNatClampNeg)) := va_copied (fun z => .int z) (oI ω) (oI ω) (fun i => iI (wk i)) (fun i => iI (M to i)) (show (iI 0).toNatClampNeg + (iI 16).toNatClampNeg ≤ 16 by decide)
  have e2 : va_cpy (fun i => iI (wk i)) (fun i => iI (M to i)) (iI 0).toNatClampNeg (iI 0).toNatClampNeg (iI 16).toNatClampNeg = fun i => iI (mixR M to wk 16 to i) := by
    funext i
    rw [show (iI 0).toNatClampNeg = 0 by decide, show (iI 16).toNatClampNeg = 16 by decide, mixR_to]
    unfold va_cpy mixI
    by_cases h : i < 16
    · rw [if_pos ⟨by omega, by omega⟩, if_pos h]
      simp
    · rw [if_neg (by omega), if_neg h]
  rw [e1, e2] at X' step
  have hl : oR ω to < H.size := (Array.getElem?_eq_some_iff.mp hc1).1
  generalize hH1 : H.setIfInBounds (oR ω to) (vp_cell (oI ω) (16, .inl (fun i => iI (mixR M to wk 16 to i)))) = H1
  have oq : ∀ q : Nat, q ≠ oR ω to → H1[q]? = H[q]? := fun q hq => by rw [← hH1]; simp [Array.getElem?_setIfInBounds, Ne.symm hq]
  have hz1 : H1.size = H.size := by rw [← hH1]; simp
  have hat : H1[oR ω to]? = some (vp_cell (oI ω) (16, .inl (fun i => iI (mixR M to wk 16 to i)))) := by rw [← hH1]; simp [Array.getElem?_setIfInBounds, hl]
  obtain ⟨d1, d2, d3⟩ := hG.1.2.2
  obtain ⟨n1, n2, n3⟩ := d2 to hto
  have hheap : ((T.setVm vm').setCell (oR ω to) (vp_cell (oI ω) (16, .inl (fun i => iI (mixR M to wk 16 to i))))).heap = H1 := by rw [← hH1, ← hT]; rfl
  obtain ⟨t, a1, b1⟩ := kk H1 _ ⟨gx_new hG hax hz1 oq, ob_one ((hG.2.1 0 _ rfl).kept (oq _ (Ne.symm n1))), by rw [oq _ (Ne.symm n2)]; exact hG.2.2.1, by rw [oq _ (Ne.symm n3)]; exact hG.2.2.2.1, fun t ht => by
      by_cases htr : t = to
      · subst htr
        exact hat
      · rw [oq _ (fun h => htr (d3 t to ht hto h)), hG.2.2.2.2 t ht]
        unfold mixR upR
        rw [if_neg htr]⟩ ⟨by rw [hz1]; exact hS.1, fun x g1 g2 => by
      rw [oq x (fun e => g2 (by rw [e]; exact hax))]
      exact hS.2.1 x g1 g2, fun x hx => by
      rcases List.mem_append.mp hx with h | h
      · exact hS.2.2 x h
      · obtain ⟨z9, -, hz9⟩ := List.mem_map.mp h
        rw [← hz9]
        exact hax⟩ _ hheap X'
  exact ⟨t, step t a1, b1⟩
end GXT

/-! Math.min, Math.max in numbers; a world of nothing. -/
set_option maxRecDepth 100000 in
theorem uMinC : Cond.code Lib.Math.min.name Lib.Math.min.code 2 (some .int) ∈ wsU := by decide +kernel
set_option maxRecDepth 100000 in
theorem uMaxC : Cond.code Lib.Math.max.name Lib.Math.max.code 2 (some .int) ∈ wsU := by decide +kernel
set_option maxRecDepth 100000 in
theorem uMinS : Cond.static Lib.Math.min.name ∈ wsU := by decide +kernel
set_option maxRecDepth 100000 in
theorem uMaxS : Cond.static Lib.Math.max.name ∈ wsU := by decide +kernel
set_option maxRecDepth 100000 in
theorem uMathI : Cond.initialized "java/lang/Math" ∈ wsU := by decide +kernel
section IXM
variable {p : Program} {l : Launch} {e : Env} {R : Room} {s : State} {m : MethodId} {args : Array Value} {below : List Frame} {meth : Method} {c : Code} {H : Heap} {locs : List Loc} {cells slots : Nat} {Q : State → Prop}
variable {cc : ByteArray} {pc : Nat} {ls : Array Slot} {rest : List Value}
theorem ix_mmin (hexec : p.tables.exec = Jvm.exec) (hb : c.code = cc) (hts : ∀ w ∈ wsU, w.before args s = true) (hml : c.maxLocals = ls.size) {own : String} {index : Nat} (hown : s.vm.findClass own = some m.cls) (hlink : Cond.methodLink own index Lib.Math.min.name ∈ wsU) {a b : Int} (a1 : -2147483648 ≤ a) (a2 : a < 2147483648) (b1 : -2147483648 ≤ b) (b2 : b < 2147483648)
    (hframes : 1 ≤ R.frames) (hlocals : (rest.map fun v => v.category).sum + 13 ≤ R.locals) (hc : cells ≤ R.cells) (hs : slots ≤ R.slots) (hdg : decode cc pc = .ok (.invokestatic index, 3))
    (kk : W p l e R s m args below meth c H locs cells slots Q (F0 m (pc + 3) ls (.int (iI (if b < a then b else a)) :: rest))) : W p l e R s m args below meth c H locs cells slots Q (F0 m pc ls (.int (iI b) :: .int (iI a) :: rest)) := by
  refine va_mmin hexec hb hml hown (hts _ hlink) (hts _ uMinS) (hts _ uMathI) (hts _ uMinC) hframes hlocals hc hs hdg (wx_i ?_ kk)
  have h := iI_lt b1 b2 a1 a2
  by_cases hh : b < a
  · rw [if_pos hh, if_pos (h.mpr hh)]
  · rw [if_neg hh, if_neg (fun q => hh (h.mp q))]
theorem ix_mmax (hexec : p.tables.exec = Jvm.exec) (hb : c.code = cc) (hts : ∀ w ∈ wsU, w.before args s = true) (hml : c.maxLocals = ls.size) {own : String} {index : Nat} (hown : s.vm.findClass own = some m.cls) (hlink : Cond.methodLink own index Lib.Math.max.name ∈ wsU) {a b : Int} (a1 : -2147483648 ≤ a) (a2 : a < 2147483648) (b1 : -2147483648 ≤ b) (b2 : b < 2147483648)
    (hframes : 1 ≤ R.frames) (hlocals : (rest.map fun v => v.category).sum + 13 ≤ R.locals) (hc : cells ≤ R.cells) (hs : slots ≤ R.slots) (hdg : decode cc pc = .ok (.invokestatic index, 3))
    (kk : W p l e R s m args below meth c H locs cells slots Q (F0 m (pc + 3) ls (.int (iI (if a < b then b else a)) :: rest))) : W p l e R s m args below meth c H locs cells slots Q (F0 m pc ls (.int (iI b) :: .int (iI a) :: rest)) := by
  refine va_mmax hexec hb hml hown (hts _ hlink) (hts _ uMaxS) (hts _ uMathI) (hts _ uMaxC) hframes hlocals hc hs hdg (wx_i ?_ kk)
  have h := iI_lt a1 a2 b1 b2
  by_cases hh : a < b
  · rw [if_pos hh, if_pos (h.mpr hh)]
  · rw [if_neg hh, if_neg (fun q => hh (h.mp q))]
/-- a start of which nothing is asked -/
theorem gn_S {As : List Value} : PreS s H (va_Pc As (fun _ => True)) As := ⟨fun a U g mk h => ⟨h.1, trivial⟩, fun U hU hW => ⟨rfl, trivial⟩⟩
end IXM
/-! the sign of an exclusive or -/
theorem iI_xor {a b : Int} (a1 : -2147483648 ≤ a) (a2 : a < 2147483648) (b1 : 0 < b) (b2 : b < 2147483648) : (0 : Int32) ≤ iI a ^^^ iI b ↔ 0 ≤ a := by
  have ha := iI_toInt a1 a2
  have hb := iI_toInt (z := b) (by omega) b2
  have h1 : (iI a).toBitVec.msb = decide (a < 0) := by
    have : (iI a).toBitVec.msb = decide ((iI a).toInt < 0) := BitVec.msb_eq_toInt
    rw [this, ha]
  have h2 : (iI b).toBitVec.msb = false := by
    have : (iI b).toBitVec.msb = decide ((iI b).toInt < 0) := BitVec.msb_eq_toInt
    rw [this, hb]
    exact decide_eq_false (by omega)
  have h3 : (iI a ^^^ iI b).toBitVec.msb = decide ((iI a ^^^ iI b).toInt < 0) := BitVec.msb_eq_toInt
  have h4 : (iI a ^^^ iI b).toBitVec.msb = ((iI a).toBitVec.msb ^^ (iI b).toBitVec.msb) := by
    rw [Int32.toBitVec_xor]
    exact BitVec.msb_xor
  rw [h1, h2, Bool.xor_false] at h4
  rw [h4] at h3
  have h5 : a < 0 ↔ (iI a ^^^ iI b).toInt < 0 := by
    have := congrArg (fun x => x = true) h3
    simpa using this
  rw [Int32.le_iff_toInt_le, Int32.toInt_zero]
  omega
theorem lI_xor {a b : Int} (a1 : -9223372036854775808 ≤ a) (a2 : a < 9223372036854775808) (b1 : 0 < b) (b2 : b < 9223372036854775808) : (lI a ^^^ lI b).toInt < 0 ↔ a < 0 := by
  have ha := lI_toInt a1 a2
  have hb := lI_toInt (z := b) (by omega) b2
  have h1 : (lI a).toBitVec.msb = decide (a < 0) := by
    have : (lI a).toBitVec.msb = decide ((lI a).toInt < 0) := BitVec.msb_eq_toInt
    rw [this, ha]
  have h2 : (lI b).toBitVec.msb = false := by
    have : (lI b).toBitVec.msb = decide ((lI b).toInt < 0) := BitVec.msb_eq_toInt
    rw [this, hb]
    exact decide_eq_false (by omega)
  have h3 : (lI a ^^^ lI b).toBitVec.msb = decide ((lI a ^^^ lI b).toInt < 0) := BitVec.msb_eq_toInt
  have h4 : (lI a ^^^ lI b).toBitVec.msb = ((lI a).toBitVec.msb ^^ (lI b).toBitVec.msb) := by
    rw [Int64.toBitVec_xor]
    exact BitVec.msb_xor
  rw [h1, h2, Bool.xor_false] at h4
  rw [h4] at h3
  have := congrArg (fun x => x = true) h3
  simpa using this.symm
/-- the machine's remainder and the document's -/
theorem tm_em {a b : Int} (hb : 0 < b) : a % b = if 0 ≤ a then a.tmod b else if a.tmod b = 0 then 0 else a.tmod b + b := by
  have h1 := Int.emod_add_mul_ediv a b
  have h2 := Int.tmod_add_mul_tdiv a b
  by_cases h : 0 ≤ a
  · rw [if_pos h, Int.tmod_eq_emod_of_nonneg h]
  · rw [if_neg h]
    split
    · next h0 => exact tm_z.mp h0
    · next h0 =>
      have h3 : a.tmod b = -((-a).tmod b) := by rw [Int.neg_tmod, Int.neg_neg]
      have h4 : (-a).tmod b = (-a) % b := Int.tmod_eq_emod_of_nonneg (by omega)
      have h5 := Int.emod_nonneg (-a) (show b ≠ 0 by omega)
      have h6 := Int.emod_lt_of_pos (-a) hb
      have h7 : (-a) % b ≠ 0 := fun q => h0 (by rw [h3, h4, q]; rfl)
      have h8 : (a % b) = ((-((-a) % b)) % b) := by
        have := cg_neg (q := b) (a := (-a) % b) (b := -a) (cg_m b (-a))
        rw [Int.neg_neg] at this
        exact this.symm
      rw [h8, h3, h4]
      have h9 : (-((-a) % b)) % b = (-((-a) % b) + b) % b := by rw [Int.add_emod_right]
      rw [h9, Int.emod_eq_of_lt (by omega) (by omega)]

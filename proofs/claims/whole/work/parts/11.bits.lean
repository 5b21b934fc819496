/-! Shifts and masks. The rows wb_ and pf_ are those of kit/laws/BITS.to-paste. -/
theorem wb_tb (n : Nat) : (lN n).toBitVec = BitVec.ofNat 64 n := rfl
theorem wb_inj {a b : Int64} (h : a.toBitVec = b.toBitVec) : a = b := Int64.toBitVec_inj.mp h
theorem wb_tn {n : Nat} (h : n < 2 ^ 64) : (lN n).toBitVec.toNat = n := by rw [wb_tb, BitVec.toNat_ofNat, Nat.mod_eq_of_lt h]
theorem wb_of (x : Int64) : ∃ n, n < 2 ^ 64 ∧ x = lN n := ⟨x.toBitVec.toNat, x.toBitVec.isLt, wb_inj (by rw [wb_tb]; simp)⟩
theorem wb_of32 (x : Int32) : ∃ n, n < 2 ^ 32 ∧ x = nI n := ⟨x.toBitVec.toNat, x.toBitVec.isLt, Int32.toBitVec_inj.mp (by show _ = BitVec.ofNat 32 _; simp)⟩
theorem wb_c : ∀ k, k < 64 → ((nI k).toInt64 &&& 63) = lN k := by decide +kernel
theorem wb_cu : ∀ k, k < 64 → ((nI k).toInt64.toUInt64 &&& Int64.toUInt64 63) = UInt64.ofNat k := by decide +kernel
theorem wb_sm : ∀ k, k < 64 → (BitVec.ofNat 64 k).smod 64 = BitVec.ofNat 64 k := by decide +kernel
theorem wb_pw {a b : Nat} (h : a ≤ b) : 2 ^ b = 2 ^ a * 2 ^ (b - a) := by rw [← Nat.pow_add]; congr 1; omega
theorem wb_lt2 {a b : Nat} (h : a < b) : 2 ^ a < 2 ^ b := Nat.pow_lt_pow_right (by decide) h
theorem wb_mod (n : Nat) : lN n = lN (n % 2 ^ 64) := wb_inj (by rw [wb_tb, wb_tb]; apply BitVec.eq_of_toNat_eq; rw [BitVec.toNat_ofNat, BitVec.toNat_ofNat, Nat.mod_mod])
theorem wb_shr {n k : Nat} (hn : n < 2 ^ 64) (hk : k < 64) : ((lN n).toUInt64 >>> ((nI k).toInt64.toUInt64 &&& Int64.toUInt64 63)).toInt64 = lN (n / 2 ^ k) := by
  rw [wb_cu k hk]
  apply wb_inj
  apply BitVec.eq_of_toNat_eq
  show ((lN n).toUInt64 >>> UInt64.ofNat k).toNat = (BitVec.ofNat 64 _).toNat
  have h1 : (UInt64.ofNat k).toNat = k := by
    show (BitVec.ofNat 64 k).toNat = k
    rw [BitVec.toNat_ofNat, Nat.mod_eq_of_lt (by omega)]
  have h2 : (lN n).toUInt64.toNat = n := wb_tn hn
  rw [UInt64.toNat_shiftRight, h1, h2, Nat.mod_eq_of_lt hk, Nat.shiftRight_eq_div_pow, BitVec.toNat_ofNat, Nat.mod_eq_of_lt (Nat.lt_of_le_of_lt (Nat.div_le_self _ _) hn)]
theorem wb_shl (n : Nat) {k : Nat} (hk : k < 64) : lN n <<< ((nI k).toInt64 &&& 63) = lN (n * 2 ^ k) := by
  rw [wb_c k hk]
  apply wb_inj
  rw [Int64.toBitVec_shiftLeft, wb_tb, wb_tb, wb_tb, wb_sm k hk]
  apply BitVec.eq_of_toNat_eq
  rw [BitVec.shiftLeft_eq', BitVec.toNat_shiftLeft, BitVec.toNat_ofNat, BitVec.toNat_ofNat, BitVec.toNat_ofNat, Nat.mod_eq_of_lt (show k < 2 ^ 64 by omega), Nat.shiftLeft_eq, Nat.mul_mod, Nat.mod_mod, ← Nat.mul_mod]
theorem wb_and {a b : Nat} (ha : a < 2 ^ 64) (hb : b < 2 ^ 64) : lN a &&& lN b = lN (a &&& b) := by
  apply wb_inj
  rw [Int64.toBitVec_and, wb_tb, wb_tb, wb_tb]
  apply BitVec.eq_of_toNat_eq
  rw [BitVec.toNat_and, BitVec.toNat_ofNat, BitVec.toNat_ofNat, BitVec.toNat_ofNat, Nat.mod_eq_of_lt ha, Nat.mod_eq_of_lt hb, Nat.mod_eq_of_lt (Nat.and_lt_two_pow _ hb)]
theorem wb_or {a b : Nat} (ha : a < 2 ^ 64) (hb : b < 2 ^ 64) : lN a ||| lN b = lN (a ||| b) := by
  apply wb_inj
  rw [Int64.toBitVec_or, wb_tb, wb_tb, wb_tb]
  apply BitVec.eq_of_toNat_eq
  rw [BitVec.toNat_or, BitVec.toNat_ofNat, BitVec.toNat_ofNat, BitVec.toNat_ofNat, Nat.mod_eq_of_lt ha, Nat.mod_eq_of_lt hb, Nat.mod_eq_of_lt (Nat.or_lt_two_pow ha hb)]
theorem wb_mask {n k : Nat} (hn : n < 2 ^ 64) (hk : k < 64) : lN n &&& lN (2 ^ k - 1) = lN (n % 2 ^ k) := by
  rw [wb_and hn (by have := wb_lt2 hk; omega), Nat.and_two_pow_sub_one_eq_mod]
theorem wb_a1 {n : Nat} (hn : n < 2 ^ 64) : lN n &&& 1 = lN (n % 2) := wb_mask (k := 1) hn (by decide)
theorem wb_bit {n k : Nat} (hn : n < 2 ^ 64) (hk : k < 64) : ((lN n).toUInt64 >>> ((nI k).toInt64.toUInt64 &&& Int64.toUInt64 63)).toInt64 &&& 1 = lN (n / 2 ^ k % 2) := by
  rw [wb_shr hn hk, wb_a1 (Nat.lt_of_le_of_lt (Nat.div_le_self _ _) hn)]
theorem pf_lI {a : Nat} (h : a < 2 ^ 63) : (lN a).toInt = (a : Int) := lg_ofNat_toInt h
theorem pf_shr {a d : Nat} {D : Int64} (hD : (D.toBitVec.smod 64).toNat = d) (h : a < 2 ^ 62) : lN a >>> D = lN (a / 2 ^ d) := by
  have hd : a / 2 ^ d ≤ a := Nat.div_le_self _ _
  apply Int64.toInt_inj.mp
  have e : (lN a >>> D).toInt = (lN a).toInt >>> d := by
    rw [← hD]
    exact BitVec.toInt_sshiftRight ..
  rw [e, Int.shiftRight_eq_div_pow, pf_lI (by omega), pf_lI (by omega)]
  rfl
theorem sh_l : ∀ n, n < 32 → ((nI n &&& 31).toBitVec.smod 32).toNat = n := by decide +kernel
theorem sh_L : ∀ n, n < 64 → (((nI n).toInt64 &&& 63).toBitVec.smod 64).toNat = n := by decide +kernel
theorem sh_U : ∀ k, k < 128 → ((nI k).toInt64.toUInt64 &&& Int64.toUInt64 63) = ((nI (k % 64)).toInt64.toUInt64 &&& Int64.toUInt64 63) := by decide +kernel
theorem pw_c (d : Nat) : ((2 ^ d : Nat) : Int) = 2 ^ d := Int.natCast_pow 2 d
theorem pw_in {d : Nat} (h : d ≤ 22) : 1 ≤ (2 : Int) ^ d ∧ (2 : Int) ^ d ≤ 4194304 := by
  rw [← pw_c]
  have h1 : 2 ^ d ≤ 2 ^ 22 := Nat.pow_le_pow_right (by decide) h
  have h2 : 1 ≤ 2 ^ d := Nat.one_le_two_pow
  omega
theorem pw_half {d : Nat} (h : 1 ≤ d) : (2 : Int) ^ d = 2 * 2 ^ (d - 1) := by
  have : d = (d - 1) + 1 := by omega
  rw [this, Int.pow_succ, Int.mul_comm]
  simp
theorem iI_shl1 {d : Nat} (hd : d < 31) : iI 1 <<< (iI d &&& 31) = iI (2 ^ d) := by
  have h := pk_shlN (n := 1) (nI d &&& 31) d (sh_l d (by omega)) (by rw [Nat.one_mul]; exact wb_lt2 (by omega))
  rw [Nat.one_mul, iI_nI, iI_nI, iI_nI, pw_c] at h
  exact h
theorem iI_shr {a : Int} {d : Nat} (a1 : 0 ≤ a) (a2 : a < 2147483648) (hd : d < 32) : iI a >>> (iI d &&& 31) = iI (a / 2 ^ d) := by
  obtain ⟨n, rfl⟩ := Int.eq_ofNat_of_zero_le a1
  have h := pk_shrN (n := n) (by omega) (nI d &&& 31) d (sh_l d hd)
  rw [iI_nI, iI_nI, iI_nI, Int.natCast_ediv, pw_c] at h
  exact h
theorem iI_mask {a : Int} {d : Nat} (a1 : 0 ≤ a) (a2 : a < 2147483648) (hd : d < 31) : iI a &&& iI (2 ^ d - 1) = iI (a % 2 ^ d) := by
  obtain ⟨n, rfl⟩ := Int.eq_ofNat_of_zero_le a1
  have h2 : 2 ^ d < 2 ^ 31 := wb_lt2 hd
  have h1 : 1 ≤ 2 ^ d := Nat.one_le_two_pow
  have h3 : (2 : Int) ^ d - 1 = ((2 ^ d - 1 : Nat) : Int) := by rw [← pw_c]; omega
  rw [h3, ← iI_nI, ← iI_nI]
  have h := pk_andN (n := n) (by omega) (m := nI (2 ^ d - 1)) d (pk_tn (by omega))
  rw [h, iI_nI, Int.natCast_emod, pw_c]
theorem lI_shl {a : Int} {d : Nat} (a1 : 0 ≤ a) (hd : d < 64) : lI a <<< ((iI d).toInt64 &&& 63) = lI (a * 2 ^ d) := by
  obtain ⟨n, rfl⟩ := Int.eq_ofNat_of_zero_le a1
  have h := wb_shl n hd
  rw [lI_lN, lI_lN, iI_nI, Int.natCast_mul, pw_c] at h
  exact h
theorem lI_shr {a : Int} {d : Nat} (a1 : 0 ≤ a) (a2 : a < 4611686018427387904) (hd : d < 64) : lI a >>> ((iI d).toInt64 &&& 63) = lI (a / 2 ^ d) := by
  obtain ⟨n, rfl⟩ := Int.eq_ofNat_of_zero_le a1
  have h := pf_shr (a := n) (sh_L d hd) (by omega)
  rw [lI_lN, lI_lN, iI_nI, Int.natCast_ediv, pw_c] at h
  exact h
/-- bit k of a word, the shift taken modulo 64 -/
theorem lI_bit (w : Int64) {k : Nat} (hk : k < 128) : (w.toUInt64 >>> ((iI k).toInt64.toUInt64 &&& Int64.toUInt64 63)).toInt64 &&& lI 1 = lI ((w.toBitVec.toNat / 2 ^ (k % 64) % 2 : Nat) : Int) := by
  have hw : w = lN w.toBitVec.toNat := wb_inj (by rw [wb_tb]; simp)
  have h := wb_bit (n := w.toBitVec.toNat) (k := k % 64) w.toBitVec.isLt (by omega)
  rw [← hw, ← sh_U k hk, lI_lN, iI_nI] at h
  exact h
section IXB
variable {p : Program} {l : Launch} {e : Env} {R : Room} {s : State} {m : MethodId} {args : Array Value} {below : List Frame} {meth : Method} {c : Code} {H : Heap} {locs : List Loc} {cells slots : Nat} {Q : State → Prop}
variable {cc : ByteArray} {pc : Nat} {ls : Array Slot} {rest : List Value}
theorem ix_ishl1 (hexec : p.tables.exec = Jvm.exec) (hb : c.code = cc) {d : Nat} (hd : d < 31) (hdg : decode cc pc = .ok (.ishl, 1)) (k : W p l e R s m args below meth c H locs cells slots Q (F0 m (pc + 1) ls (.int (iI (2 ^ d)) :: rest))) : W p l e R s m args below meth c H locs cells slots Q (F0 m pc ls (.int (iI d) :: .int (iI 1) :: rest)) := lv_ishl hexec hb hdg (wx_i (iI_shl1 hd) k)
theorem ix_ishr (hexec : p.tables.exec = Jvm.exec) (hb : c.code = cc) {a : Int} {d : Nat} (a1 : 0 ≤ a) (a2 : a < 2147483648) (hd : d < 32) (hdg : decode cc pc = .ok (.ishr, 1)) (k : W p l e R s m args below meth c H locs cells slots Q (F0 m (pc + 1) ls (.int (iI (a / 2 ^ d)) :: rest))) : W p l e R s m args below meth c H locs cells slots Q (F0 m pc ls (.int (iI d) :: .int (iI a) :: rest)) := lv_ishr hexec hb hdg (wx_i (iI_shr a1 a2 hd) k)
theorem ix_mask (hexec : p.tables.exec = Jvm.exec) (hb : c.code = cc) {a : Int} {d : Nat} (a1 : 0 ≤ a) (a2 : a < 2147483648) (hd : d < 31) (hdg : decode cc pc = .ok (.iand, 1)) (k : W p l e R s m args below meth c H locs cells slots Q (F0 m (pc + 1) ls (.int (iI (a % 2 ^ d)) :: rest))) : W p l e R s m args below meth c H locs cells slots Q (F0 m pc ls (.int (iI (2 ^ d - 1)) :: .int (iI a) :: rest)) := lv_iand hexec hb hdg (wx_i (iI_mask a1 a2 hd) k)
theorem ix_lshl (hexec : p.tables.exec = Jvm.exec) (hb : c.code = cc) {a : Int} {d : Nat} (a1 : 0 ≤ a) (hd : d < 64) (hdg : decode cc pc = .ok (.lshl, 1)) (k : W p l e R s m args below meth c H locs cells slots Q (F0 m (pc + 1) ls (.long (lI (a * 2 ^ d)) :: rest))) : W p l e R s m args below meth c H locs cells slots Q (F0 m pc ls (.int (iI d) :: .long (lI a) :: rest)) := lv_lshl hexec hb hdg (lI_shl a1 hd) k
theorem ix_lshr (hexec : p.tables.exec = Jvm.exec) (hb : c.code = cc) {a : Int} {d : Nat} (a1 : 0 ≤ a) (a2 : a < 4611686018427387904) (hd : d < 64) (hdg : decode cc pc = .ok (.lshr, 1)) (k : W p l e R s m args below meth c H locs cells slots Q (F0 m (pc + 1) ls (.long (lI (a / 2 ^ d)) :: rest))) : W p l e R s m args below meth c H locs cells slots Q (F0 m pc ls (.int (iI d) :: .long (lI a) :: rest)) := lv_lshr hexec hb hdg (lI_shr a1 a2 hd) k
end IXB

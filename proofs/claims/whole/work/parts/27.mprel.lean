/-! The reference's cells, and rows that its writing methods need. -/
def CM (ω : WM) (th k q : Int) (M : Nat → Nat → Int) (f : Nat → Int) (H : Heap) : Prop :=
  va_P ω.1 vwCl [(mo ω, .inr (1, [.int (iI th), .int (iI k), .int (iI q), .ref (mg ω), .ref (md ω)]))] H ∧ H[mg ω]? = some (vp_cell (nI_ ω) (192, .inl (fun j => iI (M (j / 16) (j % 16))))) ∧ H[md ω]? = some (vp_cell (nI_ ω) (16, .inl (fun i => iI (f i))))
theorem CM.kept {ω : WM} {th k q : Int} {M : Nat → Nat → Int} {f : Nat → Int} {H H1 : Heap} (h : ∀ a : Nat, a < H.size → Am ω a → H1[a]? = H[a]?) (c : CM ω th k q M f H) : CM ω th k q M f H1 := by
  have lt : ∀ {a : Nat} {x : Cell}, H[a]? = some x → a < H.size := fun hx => (Array.getElem?_eq_some_iff.mp hx).1
  exact ⟨ob_one ((c.1 0 _ rfl).kept (h _ ((c.1 0 _ rfl).lt) (Or.inl rfl))), by rw [h _ (lt c.2.1) (Or.inr (Or.inl rfl))]; exact c.2.1, by rw [h _ (lt c.2.2) (Or.inr (Or.inr rfl))]; exact c.2.2⟩
/-- what a writing method of the reference leaves: at code 0 the new, else the old -/
def BM (ω : WM) (k q : Int) (M : Nat → Nat → Int) (k' q' : Int) (M' : Nat → Nat → Int) (w : Int × (Nat → Int)) (t : State) : Prop :=
  (w.1 = 0 → CM ω 0 k' q' M' w.2 t.heap) ∧ (¬ w.1 = 0 → CM ω w.1 k q M w.2 t.heap)
section MPR
variable {p : Program} {l : Launch} {e : Env} {R : Room} {s : State} {m : MethodId} {args : Array Value} {below : List Frame} {meth : Method} {c : Code} {H : Heap} {locs : List Loc} {cells slots : Nat} {Q : State → Prop}
variable {cc : ByteArray} {pc : Nat} {ls : Array Slot} {rest : List Value} {ω : WM} {th k q : Int} {M : Nat → Nat → Int} {f : Nat → Int} {H0 : Heap}
theorem ix_lneg (hexec : p.tables.exec = Jvm.exec) (hb : c.code = cc) {a : Int} (hdg : decode cc pc = .ok (.lneg, 1))
    (kk : W p l e R s m args below meth c H locs cells slots Q (F0 m (pc + 1) ls (.long (lI (-a)) :: rest))) : W p l e R s m args below meth c H locs cells slots Q (F0 m pc ls (.long (lI a) :: rest)) := by
  refine lv_lneg hexec hb hdg (wx_l ?_ kk)
  exact (Int64.ofInt_neg a).symm
theorem ix_ldc (hexec : p.tables.exec = Jvm.exec) (hb : c.code = cc) {own : String} {index : Nat} {n : Int} {v : Int32} (hv : v = iI n) (hown : s.vm.findClass own = some m.cls) (hconst : (Cond.constant own index v).before args s = true) (hdg : decode cc pc = .ok (.ldc index, 2))
    (kk : W p l e R s m args below meth c H locs cells slots Q (F0 m (pc + 2) ls (.int (iI n) :: rest))) : W p l e R s m args below meth c H locs cells slots Q (F0 m pc ls rest) := lv_ldc hexec hb hown hconst hdg (wx_i hv kk)
/-- a == 0 ? x : y -/
theorem ix_sel (hexec : p.tables.exec = Jvm.exec) (hb : c.code = cc) {a x y : Int} (a1 : -2147483648 ≤ a) (a2 : a < 2147483648) {off off2 : Int} {n1 t1 t2 : Nat} (d1 : decode cc pc = .ok (.ifCond .ne off, 3)) (h1 : (pc : Int) + off = (t1 : Int))
    (kx : W p l e R s m args below meth c H locs cells slots Q (F0 m (pc + 3 + n1) ls (.int (iI x) :: rest)) → W p l e R s m args below meth c H locs cells slots Q (F0 m (pc + 3) ls rest)) (d2 : decode cc (pc + 3 + n1) = .ok (.goto off2, 3)) (h2 : ((pc + 3 + n1 : Nat) : Int) + off2 = (t2 : Int))
    (ky : W p l e R s m args below meth c H locs cells slots Q (F0 m t2 ls (.int (iI y) :: rest)) → W p l e R s m args below meth c H locs cells slots Q (F0 m t1 ls rest))
    (kk : W p l e R s m args below meth c H locs cells slots Q (F0 m t2 ls (.int (iI (if a = 0 then x else y)) :: rest))) : W p l e R s m args below meth c H locs cells slots Q (F0 m pc ls (.int (iI a) :: rest)) := by
  refine ix_if_ne (tgt := t1) hexec hb a1 a2 d1 h1 (fun h => ky ?_) (fun h => kx (lv_goto (tgt := t2) hexec hb d2 h2 ?_))
  · rw [if_neg h] at kk; exact kk
  · rw [if_pos (by omega)] at kk; exact kk
theorem gm_len (hexec : p.tables.exec = Jvm.exec) (hb : c.code = cc) (hG : GM ω th k q M f s H) (hdg : decode cc pc = .ok (.arraylength, 1))
    (kk : W p l e R s m args below meth c H locs cells slots Q (F0 m (pc + 1) ls (.int (iI 192) :: rest))) : W p l e R s m args below meth c H locs cells slots Q (F0 m pc ls (.ref (mg ω) :: rest)) :=
  W.alen (n := iI 192) hexec hb hG.2.2.1 ((hG.1.1.2 0 _ rfl).1 192 (fun j => .int (iI (M (j / 16) (j % 16))))) (by rw [vp_cell_i, arrV_size]; decide) rfl rfl hdg kk
theorem lx_lcmp_ne (hexec : p.tables.exec = Jvm.exec) (hb : c.code = cc) {a b : Int} (a1 : -9223372036854775808 ≤ a) (a2 : a < 9223372036854775808) (b1 : -9223372036854775808 ≤ b) (b2 : b < 9223372036854775808) {off : Int} {tgt : Nat} (hd1 : decode cc pc = .ok (.lcmp, 1)) (hd2 : decode cc (pc + 1) = .ok (.ifCond .ne off, 3)) (ht : ((pc + 1 : Nat) : Int) + off = (tgt : Int))
    (kt : ¬ a = b → W p l e R s m args below meth c H locs cells slots Q (F0 m tgt ls rest)) (kf : a = b → W p l e R s m args below meth c H locs cells slots Q (F0 m (pc + 1 + 3) ls rest)) : W p l e R s m args below meth c H locs cells slots Q (F0 m pc ls (.long (lI b) :: .long (lI a) :: rest)) := by
  have key : lg_cmp (lI a) (lI b) = 0 ↔ a = b := by
    by_cases n1 : lI b < lI a
    · have : ¬ a = b := fun g => by rw [g] at n1; exact Int64.lt_irrefl n1
      simp [lg_cmp, n1, this]
    · by_cases n2 : lI a = lI b
      · have := (lI_eq a1 a2 b1 b2).mp n2
        simp [lg_cmp, this]
      · have : ¬ a = b := fun g => n2 (by rw [g])
        simp [lg_cmp, n1, n2, this]
  exact W.lcmp hexec hb hd1 (lv_if_ne hexec hb hd2 ht (fun h => kt (fun g => h (key.mpr g))) (fun h => kf (key.mp h)))
end MPR
theorem mRnd0 (x q : Int) (d : Nat) : ((2 * 2 ^ d * x + q) / (2 * q)) % 2 ^ d = sRound q 0 x d := by
  unfold sRound
  rw [if_pos rfl, Int.pow_succ, show 2 * 2 ^ d * x = x * (2 ^ d * 2) by rw [Int.mul_comm (2 : Int) (2 ^ d), Int.mul_comm x]]
theorem mRnd1 (x q : Int) (d : Nat) (d1 : 1 ≤ d) : (2 * q * (x % 2 ^ d) + 2 ^ d) / (2 * 2 ^ d) = sRound q 1 x d := by
  unfold sRound
  rw [if_neg (by decide), if_pos rfl]
  have hh : (2 : Int) ^ d = 2 * 2 ^ (d - 1) := by
    obtain ⟨n, rfl⟩ : ∃ n, d = n + 1 := ⟨d - 1, by omega⟩
    rw [show n + 1 - 1 = n by omega, Int.pow_succ, Int.mul_comm]
  have h1 : 2 * q * (x % 2 ^ d) + 2 ^ d = 2 * (q * (x % 2 ^ d) + 2 ^ (d - 1)) := by
    rw [Int.mul_add, ← Int.mul_assoc, ← hh]
  rw [h1, Int.mul_ediv_mul_of_pos _ _ (by decide)]

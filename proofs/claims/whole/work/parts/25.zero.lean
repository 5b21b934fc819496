/-! All registers 0; the unit's answer. -/
def zM (M : Nat → Nat → Int) (n : Nat) : Nat → Nat → Int := fun r i => if 16 * r + i < n ∧ i < 16 then 0 else M r i
theorem zM_0 (M : Nat → Nat → Int) : zM M 0 = M := by
  funext r i
  unfold zM
  rw [if_neg (by omega)]
theorem zM_s (M : Nat → Nat → Int) (r i : Nat) (hi : i < 16) : upR (zM M (16 * r + i)) r (upI (zM M (16 * r + i) r) i 0) = zM M (16 * r + (i + 1)) := by
  funext a j
  unfold upR
  split
  · next h =>
    subst h
    unfold upI
    split
    · next h => subst h; unfold zM; rw [if_pos (by omega)]
    · next h =>
      unfold zM
      by_cases h2 : 16 * a + j < 16 * a + i ∧ j < 16
      · rw [if_pos h2, if_pos (by omega)]
      · rw [if_neg h2, if_neg (by omega)]
  · next h =>
    unfold zM
    by_cases h2 : 16 * a + j < 16 * r + i ∧ j < 16
    · rw [if_pos h2, if_pos (by omega)]
    · rw [if_neg h2, if_neg (by omega)]
theorem zM_in {M : Nat → Nat → Int} {n : Nat} {q q' : Int} (hq : 0 < q') (h : n = 192) : ∀ r i, r < 12 → i < 16 → 0 ≤ zM M n r i ∧ zM M n r i < q' := by
  intro r i hr hi
  unfold zM
  rw [if_pos (by omega)]
  omega
noncomputable def sUi (k : Int) (f : Nat → Int) : Int := @ite _ (sUnit k f 16) (Classical.propDecidable _) 1 0
theorem sUi_t {k : Int} {f : Nat → Int} (h : sUnit k f 16) : sUi k f = 1 := by unfold sUi; rw [if_pos h]
theorem sUi_f {k : Int} {f : Nat → Int} (h : ¬ sUnit k f 16) : sUi k f = 0 := by unfold sUi; rw [if_neg h]
theorem sUnit_s {k : Int} {f : Nat → Int} {n : Nat} (h : sUnit k f n) (h0 : ¬ sPol f (sPow (kQ k) (kO k) (2 * n + 1)) 16 % kQ k = 0) : sUnit k f (n + 1) := by
  intro i hi
  by_cases hn : i = n
  · subst hn; exact h0
  · exact h i (by omega)
theorem sUnit_no {k : Int} {f : Nat → Int} {n m : Nat} (hn : n < m) (h0 : sPol f (sPow (kQ k) (kO k) (2 * n + 1)) 16 % kQ k = 0) : ¬ sUnit k f m := fun h => h n hn h0
theorem kZ_in (k : Int) : 0 ≤ kZ k ∧ kZ k < kQ k := sPow_in (q := kQ k) (b := kB k) (by have := kQ_in (k := k); omega) 16
theorem kO_in (k : Int) : 0 ≤ kO k ∧ kO k < kQ k := sPow_in (q := kQ k) (b := kB k) (by have := kQ_in (k := k); omega) _
theorem kB_in (k : Int) : 17 ≤ kB k ∧ kB k ≤ 1753 := by unfold kB; split <;> omega
def sCount (k q z : Int) (M : Nat → Nat → Int) (w : Int) : Int := if w = 0 then k else if w = 1 then q else if w = 2 then z else if w = 3 then sEmp M 12 else -1

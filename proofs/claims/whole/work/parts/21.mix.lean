/-! A row written place by place. -/
def mixI (f g : Nat → Int) (n : Nat) : Nat → Int := fun i => if i < n then g i else f i
def mixR (M : Nat → Nat → Int) (to : Nat) (g : Nat → Int) (n : Nat) : Nat → Nat → Int := upR M to (mixI (M to) g n)
theorem mixI_0 (f g : Nat → Int) : mixI f g 0 = f := by
  funext i
  simp [mixI]
theorem mixI_s (f g : Nat → Int) (j : Nat) : upI (mixI f g j) j (g j) = mixI f g (j + 1) := by
  funext i
  unfold upI mixI
  by_cases h : i = j
  · subst h
    rw [if_pos rfl, if_pos (by omega)]
  · rw [if_neg h]
    by_cases h2 : i < j
    · rw [if_pos h2, if_pos (by omega)]
    · rw [if_neg h2, if_neg (by omega)]
theorem mixI_at {f g : Nat → Int} {n i : Nat} (h : i < n) : mixI f g n i = g i := if_pos h
theorem mixI_no {f g : Nat → Int} {n i : Nat} (h : ¬ i < n) : mixI f g n i = f i := if_neg h
theorem mixI_mix (f g h : Nat → Int) (n : Nat) : mixI f (mixI h g n) n = mixI f g n := by
  funext i
  unfold mixI
  by_cases hi : i < n
  · rw [if_pos hi, if_pos hi, if_pos hi]
  · rw [if_neg hi, if_neg hi]
theorem mixR_0 (M : Nat → Nat → Int) (to : Nat) (g : Nat → Int) : mixR M to g 0 = M := by
  funext r
  unfold mixR upR
  rw [mixI_0]
  split
  · next h => rw [h]
  · rfl
theorem mixR_to (M : Nat → Nat → Int) (to : Nat) (g : Nat → Int) (n : Nat) : mixR M to g n to = mixI (M to) g n := if_pos rfl
theorem mixR_s (M : Nat → Nat → Int) (to : Nat) (g : Nat → Int) (j : Nat) : upR (mixR M to g j) to (upI (mixR M to g j to) j (g j)) = mixR M to g (j + 1) := by
  rw [mixR_to, mixI_s]
  funext r
  unfold mixR upR
  split <;> rfl
theorem mixR_at (M : Nat → Nat → Int) (to : Nat) (g : Nat → Int) (a j : Nat) : mixR M to g j a j = M a j := by
  unfold mixR upR
  split
  · next h => rw [h, mixI_no (by omega)]
  · rfl
theorem mixR_row {M : Nat → Nat → Int} {to : Nat} {g : Nat → Int} {n i : Nat} (h : i < n) : mixR M to g n to i = g i := by
  rw [mixR_to, mixI_at h]
theorem mixR_mix (M : Nat → Nat → Int) (to : Nat) (f g : Nat → Int) (n : Nat) : mixR M to (mixI f g n) n = mixR M to g n := by
  unfold mixR
  rw [mixI_mix]
theorem mixR_in {M : Nat → Nat → Int} {to : Nat} {g : Nat → Int} {n : Nat} {q : Int} (hM : ∀ r i, r < 12 → i < 16 → 0 ≤ M r i ∧ M r i < q) (hg : ∀ i, i < 16 → 0 ≤ g i ∧ g i < q) : ∀ r i, r < 12 → i < 16 → 0 ≤ mixR M to g n r i ∧ mixR M to g n r i < q := by
  intro r i hr hi
  unfold mixR upR
  split
  · next h =>
    unfold mixI
    split
    · exact hg i hi
    · exact hM to i (by omega) hi
  · exact hM r i hr hi
theorem sCnt_eq {f g : Nat → Int} {n : Nat} (h : ∀ i, i < n → f i = g i) : sCnt f n = sCnt g n := by
  induction n with
  | zero => rfl
  | succ n ih => rw [sCnt, sCnt, ih (fun i hi => h i (by omega)), h n (by omega)]
theorem sMax_eq {q : Int} {f g : Nat → Int} {n : Nat} (h : ∀ i, i < n → f i = g i) : sMax q f n = sMax q g n := by
  induction n with
  | zero => rfl
  | succ n ih => rw [sMax, sMax, ih (fun i hi => h i (by omega)), h n (by omega)]
/-- a quotient by 2 or more -/
theorem dv_half {y a : Int} (hy : 0 ≤ y) (ha : 2 ≤ a) : 0 ≤ y / a ∧ 2 * (y / a) ≤ y := by
  have h1 := Int.ediv_nonneg hy (show 0 ≤ a by omega)
  have h2 : a * (y / a) ≤ y := Int.mul_ediv_self_le (by omega)
  have h3 : 2 * (y / a) ≤ a * (y / a) := Int.mul_le_mul_of_nonneg_right ha h1
  omega
theorem sPart_lt {q x a : Int} (x1 : 0 ≤ x) (x2 : x < q) (a1 : 2 ≤ a) (a2 : a < q) : 0 ≤ sPart q x a ∧ sPart q x a < q := by
  have h1 := sNear_in (x := x) (show 0 < a by omega)
  have h2 := sNear_low x1 (show 0 < a by omega)
  have h3 := dv_half h2 a1
  unfold sPart
  split <;> omega
theorem sMov_lt {q x a : Int} (q1 : 1 < q) (a1 : 0 < a) (a4 : (q - 1) % a = 0) : 0 ≤ sMov q x a ∧ sMov q x a < q := by
  have h1 := sAl_div q1 a1 a4
  have h2 : (q - 1) / a ≤ q - 1 := Int.ediv_le_self _ (by omega)
  have h3 := Int.emod_nonneg (sPart q x a + (if 0 < sRest q x a then 1 else -1)) (show (q - 1) / a ≠ 0 by omega)
  have h4 := Int.emod_lt_of_pos (sPart q x a + (if 0 < sRest q x a then 1 else -1)) (show 0 < (q - 1) / a by omega)
  unfold sMov
  omega
theorem sHint_lt {q a x y : Int} (q1 : 1 < q) : 0 ≤ sHint q a x y ∧ sHint q a x y < q := by
  unfold sHint
  split <;> omega
theorem sAl_of {q a : Int} (h : sAli q a = 1) : 0 < a ∧ a % 2 = 0 ∧ (q - 1) % a = 0 := by
  unfold sAli at h
  split at h
  · assumption
  · omega
theorem sAl_lt {q a : Int} (q1 : 1 < q) (h : 0 < a ∧ a % 2 = 0 ∧ (q - 1) % a = 0) : 2 ≤ a ∧ a < q := by
  have h1 : a ∣ q - 1 := Int.dvd_of_emod_eq_zero h.2.2
  have h2 : a ≤ q - 1 := Int.le_of_dvd (by omega) h1
  omega
/-- most bits of a KIND -/
def kD (k : Int) : Int := if k = 0 then 11 else 22
theorem kD_in {k : Int} {d : Nat} (h : (d : Int) ≤ kD k) : d ≤ 22 ∧ (2 : Int) ^ d < kQ k ∧ 2 * (2 : Int) ^ d < kQ k + kQ k := by
  unfold kD at h
  unfold kQ
  split at h
  · next h0 =>
    rw [if_pos h0]
    have h1 : 2 ^ d ≤ 2 ^ 11 := Nat.pow_le_pow_right (by decide) (by omega)
    have h2 := pw_c d
    omega
  · next h0 =>
    rw [if_neg h0]
    have h1 : 2 ^ d ≤ 2 ^ 22 := Nat.pow_le_pow_right (by decide) (by omega)
    have h2 := pw_c d
    omega
theorem sRound_lt {k op x : Int} {d : Nat} (x1 : 0 ≤ x) (x2 : x < kQ k) (d1 : 1 ≤ d) (d2 : (d : Int) ≤ kD k) : 0 ≤ sRound (kQ k) op x d ∧ sRound (kQ k) op x d < kQ k := by
  have hq := kQ_in (k := k)
  have hd := kD_in d2
  have hp := pw_in hd.1
  have hh := pw_half d1
  unfold sRound
  split
  · have h1 := Int.emod_nonneg ((x * 2 ^ (d + 1) + kQ k) / (2 * kQ k)) (show (2 : Int) ^ d ≠ 0 by omega)
    have h2 := Int.emod_lt_of_pos ((x * 2 ^ (d + 1) + kQ k) / (2 * kQ k)) (show (0 : Int) < 2 ^ d by omega)
    omega
  · split
    · have h1 := Int.emod_nonneg x (show (2 : Int) ^ d ≠ 0 by omega)
      have h2 := Int.emod_lt_of_pos x (show (0 : Int) < 2 ^ d by omega)
      have h3 : 0 ≤ kQ k * (x % 2 ^ d) := Int.mul_nonneg (by omega) h1
      have h4 : kQ k * (x % 2 ^ d) ≤ kQ k * (2 ^ d - 1) := Int.mul_le_mul_of_nonneg_left (by omega) (by omega)
      have h5 : kQ k * (2 ^ d - 1) = kQ k * 2 ^ d - kQ k := by rw [Int.mul_sub, Int.mul_one]
      refine ⟨Int.ediv_nonneg (by omega) (by omega), Int.ediv_lt_of_lt_mul (by omega) (by omega)⟩
    · split
      · exact ⟨Int.emod_nonneg _ (by omega), Int.emod_lt_of_pos _ (by omega)⟩
      · have h1 := sNear_in (x := x) (show (0 : Int) < 2 ^ d by omega)
        have h2 := sNear_low x1 (show (0 : Int) < 2 ^ d by omega)
        have h3 := dv_half h2 (show (2 : Int) ≤ 2 ^ d by omega)
        omega

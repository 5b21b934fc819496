/-! What the document asks, in numbers: both the class and the reference are held against these. -/
def kQ (k : Int) : Int := if k = 0 then 3329 else 8380417
def kB (k : Int) : Int := if k = 0 then 17 else 1753
def kZ (k : Int) : Int := kB k ^ 16 % kQ k
theorem kQ_in {k : Int} : 3329 ≤ kQ k ∧ kQ k ≤ 8380417 := by unfold kQ; split <;> omega
def sPow (q b : Int) (n : Nat) : Int := b ^ n % q
theorem sPow_0 {q b : Int} (h : 1 < q) : sPow q b 0 = 1 := by
  show b ^ 0 % q = 1
  rw [Int.pow_zero]
  exact Int.emod_eq_of_lt (by decide) h
theorem sPow_s {q b : Int} (n : Nat) : sPow q b n * b % q = sPow q b (n + 1) := by
  show b ^ n % q * b % q = b ^ (n + 1) % q
  rw [Int.pow_succ, Int.mul_emod (b ^ n % q) b q, Int.emod_emod_of_dvd _ (Int.dvd_refl q), ← Int.mul_emod]
theorem sPow_in {q b : Int} (h : 0 < q) (n : Nat) : 0 ≤ sPow q b n ∧ sPow q b n < q := ⟨Int.emod_nonneg _ (by omega), Int.emod_lt_of_pos _ h⟩
/-- the size, centred -/
def sCs (q v : Int) : Int := if q < 2 * v then q - v else v
def sMax (q : Int) (f : Nat → Int) : Nat → Int
  | 0 => 0
  | n + 1 => max (sMax q f n) (sCs q (f n))
def sCnt (f : Nat → Int) : Nat → Int
  | 0 => 0
  | n + 1 => sCnt f n + (if f n = 0 then 0 else 1)
def sFar (q : Int) (a b : Nat → Int) : Nat → Int
  | 0 => 0
  | n + 1 => sFar q a b n + sCs q ((a n - b n) % q)
def sPol (g : Nat → Int) (x : Int) : Nat → Int
  | 0 => 0
  | n + 1 => sPol g x n + g n * x ^ n
theorem sPol_left (g : Nat → Int) (x : Int) (n : Nat) : sPol g x (n + 1) = g 0 + x * sPol (fun u => g (u + 1)) x n := by
  induction n with
  | zero => simp [sPol]
  | succ n ih =>
    rw [sPol, ih]
    show _ = g 0 + x * (sPol (fun u => g (u + 1)) x n + g (n + 1) * x ^ n)
    rw [Int.mul_add, Int.pow_succ, ← Int.add_assoc]
    congr 1
    rw [Int.mul_comm (x ^ n) x, ← Int.mul_assoc, ← Int.mul_assoc, Int.mul_comm (g (n + 1)) x]
/-- the coefficient at place k of the product, its first n terms -/
def sProd (a b : Nat → Int) (k : Nat) : Nat → Int
  | 0 => 0
  | i + 1 => sProd a b k i + (if i ≤ k then a i * b (k - i) else -(a i * b (16 + k - i)))
def sJoin (q : Int) (op : Int) (a b : Nat → Int) (i : Nat) : Int := if op = 0 then (a i + b i) % q else if op = 1 then (a i - b i) % q else sProd a b i 16 % q
def sNear (x m : Int) : Int := if m < 2 * (x % m) then x % m - m else x % m
def sRound (q : Int) (op : Int) (x : Int) (d : Nat) : Int :=
  if op = 0 then (x * 2 ^ (d + 1) + q) / (2 * q) % 2 ^ d else if op = 1 then (q * (x % 2 ^ d) + 2 ^ (d - 1)) / 2 ^ d else if op = 2 then sNear x (2 ^ d) % q else (x - sNear x (2 ^ d)) / 2 ^ d
def sPart (q x a : Int) : Int := if x - sNear x a = q - 1 then 0 else (x - sNear x a) / a
def sRest (q x a : Int) : Int := if x - sNear x a = q - 1 then sNear x a - 1 else sNear x a
def sMov (q x a : Int) : Int := (sPart q x a + (if 0 < sRest q x a then 1 else -1)) % ((q - 1) / a)
def sHint (q a x y : Int) : Int := if sPart q x a = sPart q ((x + y) % q) a then 0 else 1
def sUse (q a x y : Int) : Int := if y = 0 then sPart q x a else sMov q x a
def sChg (q a : Int) (f g : Nat → Int) : Nat → Int
  | 0 => 0
  | n + 1 => sChg q a f g n + (if sUse q a (f n) (g n) = sPart q (f n) a then 0 else 1)
/-- an ALPHA that can be -/
def sAl (q a : Int) : Prop := 0 < a ∧ a % 2 = 0 ∧ (q - 1) % a = 0
def sAli (q a : Int) : Int := if 0 < a ∧ a % 2 = 0 ∧ (q - 1) % a = 0 then 1 else 0
/-- bit k of low and high together -/
def sBit (low high : Int64) (k : Nat) : Int := if k < 64 then ((low.toBitVec.toNat / 2 ^ k % 2 : Nat) : Int) else ((high.toBitVec.toNat / 2 ^ (k - 64) % 2 : Nat) : Int)
def sOnes (low high : Int64) (first : Nat) : Nat → Int
  | 0 => 0
  | n + 1 => sOnes low high first n + sBit low high (first + n)
def sNoise (q : Int) (low high : Int64) (eta i : Nat) : Int := (sOnes low high (2 * eta * i) eta - sOnes low high (2 * eta * i + eta) eta) % q
def sVal (k : Int) (f : Nat → Int) (i : Nat) : Int :=
  if k = 0 then sPol (fun u => f (i % 2 + 2 * u)) (sPow (kQ k) (kZ k) (2 * (i / 2) + 1)) 8 % kQ k else sPol f (sPow (kQ k) (kZ k) (2 * i + 1)) 16 % kQ k
/-- the zero from which all zeros of x^16 + 1 come -/
def kO (k : Int) : Int := sPow (kQ k) (kB k) (if k = 0 then 8 else 16)
def sUnit (k : Int) (f : Nat → Int) (n : Nat) : Prop := ∀ i, i < n → ¬ sPol f (sPow (kQ k) (kO k) (2 * i + 1)) 16 % kQ k = 0
def sEmp (M : Nat → Nat → Int) : Nat → Int
  | 0 => 0
  | n + 1 => sEmp M n + (if sCnt (M n) 16 = 0 then 1 else 0)
/-- registers with one of them written -/
def upR (M : Nat → Nat → Int) (r : Nat) (f : Nat → Int) : Nat → Nat → Int := fun a => if a = r then f else M a
def upI (f : Nat → Int) (i : Nat) (v : Int) : Nat → Int := fun j => if j = i then v else f j
/-! bounds -/
theorem sCs_in {q v : Int} (h0 : 0 ≤ v) (h1 : v < q) : 0 ≤ sCs q v ∧ sCs q v ≤ q := by unfold sCs; split <;> omega
theorem sCnt_in (f : Nat → Int) (n : Nat) : 0 ≤ sCnt f n ∧ sCnt f n ≤ n := by
  induction n with
  | zero => exact ⟨Int.le_refl _, Int.le_refl _⟩
  | succ n ih =>
    rw [sCnt]
    split <;> omega
theorem sMax_in {q : Int} {f : Nat → Int} {n : Nat} (hq : 0 ≤ q) (h : ∀ i, i < n → 0 ≤ f i ∧ f i < q) : 0 ≤ sMax q f n ∧ sMax q f n ≤ q := by
  induction n with
  | zero => exact ⟨Int.le_refl _, hq⟩
  | succ n ih =>
    have h1 := ih (fun i hi => h i (by omega))
    have h2 := sCs_in (h n (by omega)).1 (h n (by omega)).2
    rw [sMax]
    omega
theorem sFar_in {q : Int} {a b : Nat → Int} (hq : 0 < q) (n : Nat) : 0 ≤ sFar q a b n ∧ sFar q a b n ≤ n * q := by
  induction n with
  | zero => simp [sFar]
  | succ n ih =>
    have h2 := sCs_in (q := q) (v := (a n - b n) % q) (Int.emod_nonneg _ (by omega)) (Int.emod_lt_of_pos _ hq)
    rw [sFar, Int.natCast_add, Int.add_mul]
    omega
theorem sNear_in {x m : Int} (hm : 0 < m) : -m ≤ sNear x m ∧ sNear x m ≤ m := by
  have h1 := Int.emod_nonneg x (show m ≠ 0 by omega)
  have h2 := Int.emod_lt_of_pos x hm
  unfold sNear
  split <;> omega
theorem sNear_low {x m : Int} (h0 : 0 ≤ x) (hm : 0 < m) : 0 ≤ x - sNear x m := by
  have h1 := Int.emod_nonneg x (show m ≠ 0 by omega)
  have h2 := Int.emod_lt_of_pos x hm
  have h3 : x % m ≤ x := by
    rw [Int.emod_def]
    have := Int.mul_nonneg (show 0 ≤ m by omega) (Int.ediv_nonneg h0 (show 0 ≤ m by omega))
    omega
  unfold sNear
  split <;> omega
theorem sBit_in (low high : Int64) (k : Nat) : 0 ≤ sBit low high k ∧ sBit low high k ≤ 1 := by
  unfold sBit
  split <;> omega
theorem sOnes_in (low high : Int64) (first n : Nat) : 0 ≤ sOnes low high first n ∧ sOnes low high first n ≤ n := by
  induction n with
  | zero => exact ⟨Int.le_refl _, Int.le_refl _⟩
  | succ n ih =>
    have h := sBit_in low high (first + n)
    rw [sOnes]
    omega
theorem sEmp_in (M : Nat → Nat → Int) (n : Nat) : 0 ≤ sEmp M n ∧ sEmp M n ≤ n := by
  induction n with
  | zero => exact ⟨Int.le_refl _, Int.le_refl _⟩
  | succ n ih =>
    rw [sEmp]
    split <;> omega
theorem sChg_in (q a : Int) (f g : Nat → Int) (n : Nat) : 0 ≤ sChg q a f g n ∧ sChg q a f g n ≤ n := by
  induction n with
  | zero => exact ⟨Int.le_refl _, Int.le_refl _⟩
  | succ n ih =>
    rw [sChg]
    split <;> omega

/-! Modular facts: powers, polynomials, Horner, and the unit test of KIND 0. -/
theorem cg_mul {q a b c d : Int} (h1 : a % q = b % q) (h2 : c % q = d % q) : (a * c) % q = (b * d) % q := by
  rw [Int.mul_emod, h1, h2, ← Int.mul_emod]
theorem cg_add {q a b c d : Int} (h1 : a % q = b % q) (h2 : c % q = d % q) : (a + c) % q = (b + d) % q := by
  rw [Int.add_emod, h1, h2, ← Int.add_emod]
theorem cg_m (q a : Int) : a % q % q = a % q := Int.emod_emod_of_dvd _ (Int.dvd_refl q)
theorem cg_neg {q a b : Int} (h1 : a % q = b % q) : (-a) % q = (-b) % q := by
  have h := cg_mul (c := -1) (d := -1) h1 rfl
  rwa [Int.mul_neg_one, Int.mul_neg_one] at h
theorem cg_sub {q a b c d : Int} (h1 : a % q = b % q) (h2 : c % q = d % q) : (a - c) % q = (b - d) % q := by
  rw [Int.sub_eq_add_neg, Int.sub_eq_add_neg]
  exact cg_add h1 (cg_neg h2)
theorem cg_pow {q a b : Int} (h : a % q = b % q) (n : Nat) : a ^ n % q = b ^ n % q := by
  induction n with
  | zero => rw [Int.pow_zero, Int.pow_zero]
  | succ n ih =>
    rw [Int.pow_succ, Int.pow_succ]
    exact cg_mul ih h
theorem cg_pol {q x y : Int} (g : Nat → Int) (h : x % q = y % q) (n : Nat) : sPol g x n % q = sPol g y n % q := by
  induction n with
  | zero => rfl
  | succ n ih => exact cg_add ih (cg_mul rfl (cg_pow h n))
theorem sPow_m (q b : Int) (n : Nat) : sPow q b n % q = b ^ n % q := cg_m q _
/-- the class's step: sum and factor -/
theorem pol_step {q x : Int} (g : Nat → Int) (n : Nat) : (sPol g x n % q + g n * (x ^ n % q)) % q = sPol g x (n + 1) % q := cg_add (cg_m q _) (cg_mul rfl (cg_m q _))
theorem fac_step {q x : Int} (n : Nat) : (x ^ n % q) * x % q = x ^ (n + 1) % q := by
  rw [Int.pow_succ]
  exact cg_mul (cg_m q _) rfl
/-- the reference's step, from the top -/
theorem hor_step {q x : Int} (g : Nat → Int) (n t : Nat) (h : t < n) : (sPol (fun u => g (n - t + u)) x t % q * x + g (n - 1 - t)) % q = sPol (fun u => g (n - (t + 1) + u)) x (t + 1) % q := by
  rw [sPol_left]
  have e1 : (fun u => g (n - (t + 1) + (u + 1))) = fun u => g (n - t + u) := by
    funext u
    congr 1
    omega
  rw [e1, show n - (t + 1) + 0 = n - 1 - t by omega, Int.add_comm (g (n - 1 - t))]
  exact cg_add ((cg_mul (cg_m q _) rfl).trans (by rw [Int.mul_comm])) rfl
theorem pol_cut {q x : Int} (g : Nat → Int) (n : Nat) : sPol (fun u => g (n - n + u)) x n % q = sPol g x n % q := by
  simp
theorem pol_two (f : Nat → Int) (x : Int) (n : Nat) : sPol f x (2 * n) = sPol (fun u => f (0 + 2 * u)) (x ^ 2) n + x * sPol (fun u => f (1 + 2 * u)) (x ^ 2) n := by
  induction n with
  | zero => simp [sPol]
  | succ n ih =>
    rw [show 2 * (n + 1) = 2 * n + 1 + 1 by omega, sPol, sPol, ih, sPol, sPol, Int.mul_add, ← Int.pow_mul, show 0 + 2 * n = 2 * n by omega, show 1 + 2 * n = 2 * n + 1 by omega, Int.pow_succ x (2 * n)]
    have h1 : x * (f (2 * n + 1) * x ^ (2 * n)) = f (2 * n + 1) * (x ^ (2 * n) * x) := by
      rw [Int.mul_left_comm, Int.mul_comm x]
    rw [h1]
    omega
theorem pr_gcd : (List.range 3329).all (fun r => r == 0 || Nat.gcd r 3329 == 1) = true := by decide +kernel
theorem pr_nat {a b : Nat} (h : 3329 ∣ a * b) : 3329 ∣ a ∨ 3329 ∣ b := by
  by_cases h0 : a % 3329 = 0
  · exact Or.inl (Nat.dvd_of_mod_eq_zero h0)
  · right
    have h1 := List.all_eq_true.mp pr_gcd (a % 3329) (List.mem_range.mpr (Nat.mod_lt _ (by decide)))
    simp only [Bool.or_eq_true, beq_iff_eq] at h1
    have h2 : Nat.gcd (a % 3329) 3329 = 1 := h1.resolve_left h0
    have h3 : Nat.Coprime 3329 a := by
      show Nat.gcd 3329 a = 1
      rw [Nat.gcd_rec]
      exact h2
    exact h3.dvd_of_dvd_mul_left h
theorem pr_int {a b : Int} (h : a * b % 3329 = 0) : a % 3329 = 0 ∨ b % 3329 = 0 := by
  have h1 : (3329 : Int) ∣ a * b := Int.dvd_of_emod_eq_zero h
  have h2 : 3329 ∣ (a * b).natAbs := Int.natAbs_dvd_natAbs.mpr h1
  rw [Int.natAbs_mul] at h2
  rcases pr_nat h2 with h3 | h3
  · exact Or.inl (Int.emod_eq_zero_of_dvd (Int.natAbs_dvd_natAbs.mp h3))
  · exact Or.inr (Int.emod_eq_zero_of_dvd (Int.natAbs_dvd_natAbs.mp h3))
theorem tm_z {a b : Int} : a.tmod b = 0 ↔ a % b = 0 := by
  rw [← Int.dvd_iff_tmod_eq_zero, Int.dvd_iff_emod_eq_zero]
/-- the reference's test at j, in KIND 0 -/
def sTst (f : Nat → Int) (j : Nat) : Int := sVal 0 f (2 * j) * sVal 0 f (2 * j) - sVal 0 f (2 * j + 1) * sVal 0 f (2 * j + 1) % 3329 * sPow 3329 (kZ 0) (2 * j + 1)
theorem un_pair (f : Nat → Int) (j : Nat) : sTst f j % 3329 = 0 ↔ (sPol f (sPow 3329 (kO 0) (2 * j + 1)) 16 % 3329 = 0 ∨ sPol f (sPow 3329 (kO 0) (2 * (j + 8) + 1)) 16 % 3329 = 0) := by
  have hw : kO 0 = 1062 := by decide +kernel
  have hz : kZ 0 = 2642 := by decide +kernel
  have hq : kQ 0 = 3329 := by decide +kernel
  rw [hw]
  generalize hr : (1062 : Int) ^ (2 * j + 1) = r
  have p1 : sPol f (sPow 3329 1062 (2 * j + 1)) 16 % 3329 = sPol f r 16 % 3329 := cg_pol f (by rw [sPow_m, hr]) 16
  have p2 : sPol f (sPow 3329 1062 (2 * (j + 8) + 1)) 16 % 3329 = sPol f (-r) 16 % 3329 := cg_pol f (by
    rw [sPow_m, show 2 * (j + 8) + 1 = (2 * j + 1) + 16 by omega, Int.pow_add, hr]
    have : (1062 : Int) ^ 16 % 3329 = (-1) % 3329 := by decide +kernel
    rw [cg_mul (a := r) (b := r) rfl this, Int.mul_neg_one]) 16
  have hc : sPow 3329 (kZ 0) (2 * j + 1) % 3329 = r ^ 2 % 3329 := by
    rw [sPow_m, hz, ← hr, ← Int.pow_mul, Nat.mul_comm (2 * j + 1) 2, Int.pow_mul]
    exact cg_pow (by decide +kernel) _
  generalize hC : sPow 3329 (kZ 0) (2 * j + 1) = C at hc
  have e0 : sVal 0 f (2 * j) = sPol (fun u => f (0 + 2 * u)) C 8 % 3329 := by
    unfold sVal
    rw [if_pos rfl, hq, show 2 * j % 2 = 0 by omega, show 2 * (2 * j / 2) + 1 = 2 * j + 1 by omega, hC]
  have e1 : sVal 0 f (2 * j + 1) = sPol (fun u => f (1 + 2 * u)) C 8 % 3329 := by
    unfold sVal
    rw [if_pos rfl, hq, show (2 * j + 1) % 2 = 1 by omega, show 2 * ((2 * j + 1) / 2) + 1 = 2 * j + 1 by omega, hC]
  generalize hE : sPol (fun u => f (0 + 2 * u)) (r ^ 2) 8 = A
  generalize hO : sPol (fun u => f (1 + 2 * u)) (r ^ 2) 8 = B
  have u0 : sVal 0 f (2 * j) % 3329 = A % 3329 := by rw [e0, cg_m, ← hE]; exact cg_pol _ hc 8
  have u1 : sVal 0 f (2 * j + 1) % 3329 = B % 3329 := by rw [e1, cg_m, ← hO]; exact cg_pol _ hc 8
  have t1 : sTst f j % 3329 = ((A + r * B) * (A + -r * B)) % 3329 := by
    unfold sTst
    rw [hC]
    have : (A + r * B) * (A + -r * B) = A * A - B * B * r ^ 2 := by
      rw [Int.add_mul, Int.mul_add, Int.mul_add, Int.pow_succ, Int.pow_succ, Int.pow_zero, Int.one_mul]
      have h1 : A * (-r * B) = -(r * B * A) := by rw [Int.neg_mul, Int.mul_neg, Int.mul_comm]
      have h2 : r * B * (-r * B) = -(B * B * (r * r)) := by
        rw [Int.neg_mul, Int.mul_neg]
        congr 1
        rw [Int.mul_assoc, Int.mul_left_comm B r B, ← Int.mul_assoc, Int.mul_comm (r * r)]
      rw [h1, h2]
      omega
    rw [this]
    exact cg_sub (cg_mul u0 u0) (cg_mul ((cg_m _ _).trans (cg_mul u1 u1)) hc)
  have f1 : sPol f r 16 = A + r * B := by rw [show 16 = 2 * 8 from rfl, pol_two, hE, hO]
  have f2 : sPol f (-r) 16 = A + -r * B := by
    rw [show 16 = 2 * 8 from rfl, pol_two, show (-r) ^ 2 = r ^ 2 by rw [Int.pow_succ, Int.pow_succ, Int.pow_zero, Int.one_mul, Int.neg_mul_neg, Int.pow_succ, Int.pow_succ, Int.pow_zero, Int.one_mul], hE, hO]
  rw [p1, p2, f1, f2, t1]
  constructor
  · exact pr_int
  · intro h
    rcases h with h | h
    · rw [Int.mul_emod, h, Int.zero_mul]; rfl
    · rw [Int.mul_emod, h, Int.mul_zero]; rfl
/-- all sixteen zeros, and the reference's eight tests -/
theorem un_all (f : Nat → Int) : sUnit 0 f 16 ↔ ∀ j, j < 8 → ¬ sTst f j % 3329 = 0 := by
  have hq : kQ 0 = 3329 := by decide +kernel
  unfold sUnit
  rw [hq]
  constructor
  · intro h j hj ht
    rcases (un_pair f j).mp ht with h1 | h1
    · exact h j (by omega) h1
    · exact h (j + 8) (by omega) h1
  · intro h i hi h0
    by_cases h8 : i < 8
    · exact h i h8 ((un_pair f i).mpr (Or.inl h0))
    · have e : i = (i - 8) + 8 := by omega
      rw [e] at h0
      exact h (i - 8) (by omega) ((un_pair f (i - 8)).mpr (Or.inr h0))

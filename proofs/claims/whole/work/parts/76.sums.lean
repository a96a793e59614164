/-! sums over sets of hours -/
def jZ (f : Nat → Nat) : Nat → Nat
  | 0 => 0
  | n + 1 => jZ f n + f n
def jBin : Nat → Nat → Nat
  | _, 0 => 1
  | 0, _ + 1 => 0
  | n + 1, p + 1 => jBin n p + jBin n (p + 1)
/-- how many of the first k hours are in the set -/
def jP (s : Nat) : Nat → Nat
  | 0 => 0
  | k + 1 => jP s k + s / 2 ^ k % 2
def jR : Nat → (Nat → Nat) → Nat
  | 0, f => f 0
  | n + 1, f => jR n f + jR n (fun p => f (p + 1))
theorem jZ_congr {f g : Nat → Nat} : ∀ n, (∀ i, i < n → f i = g i) → jZ f n = jZ g n := by
  intro n
  induction n with
  | zero => exact fun _ => rfl
  | succ n ih =>
    intro h
    show jZ f n + f n = jZ g n + g n
    rw [ih (fun i hi => h i (by omega)), h n (by omega)]
theorem jZ_split {f : Nat → Nat} {a : Nat} : ∀ b, jZ f (a + b) = jZ f a + jZ (fun i => f (a + i)) b := by
  intro b
  induction b with
  | zero => rfl
  | succ b ih =>
    show jZ f (a + b) + f (a + b) = jZ f a + (jZ (fun i => f (a + i)) b + f (a + b))
    rw [ih, Nat.add_assoc]
theorem jZ_shift {f : Nat → Nat} : ∀ n, jZ f (n + 1) = f 0 + jZ (fun i => f (i + 1)) n := by
  intro n
  induction n with
  | zero =>
    show 0 + f 0 = f 0 + 0
    omega
  | succ n ih =>
    show jZ f (n + 1) + f (n + 1) = f 0 + (jZ (fun i => f (i + 1)) n + f (n + 1))
    rw [ih, Nat.add_assoc]
theorem jZ_add {f g : Nat → Nat} : ∀ n, jZ (fun i => f i + g i) n = jZ f n + jZ g n := by
  intro n
  induction n with
  | zero => rfl
  | succ n ih =>
    show jZ (fun i => f i + g i) n + (f n + g n) = (jZ f n + f n) + (jZ g n + g n)
    rw [ih]
    omega
theorem jZ_le {f g : Nat → Nat} : ∀ n, (∀ i, i < n → f i ≤ g i) → jZ f n ≤ jZ g n := by
  intro n
  induction n with
  | zero => exact fun _ => Nat.le_refl _
  | succ n ih =>
    intro h
    show jZ f n + f n ≤ jZ g n + g n
    have h1 := ih (fun i hi => h i (by omega))
    have h2 := h n (by omega)
    omega
theorem jBin_top : ∀ n p, n < p → jBin n p = 0 := by
  intro n
  induction n with
  | zero =>
    intro p hp
    obtain ⟨q, rfl⟩ : ∃ q, p = q + 1 := ⟨p - 1, by omega⟩
    rfl
  | succ n ih =>
    intro p hp
    obtain ⟨q, rfl⟩ : ∃ q, p = q + 1 := ⟨p - 1, by omega⟩
    show jBin n q + jBin n (q + 1) = 0
    rw [ih q (by omega), ih (q + 1) (by omega)]
theorem jBin_zero (n : Nat) : jBin n 0 = 1 := by
  cases n <;> rfl
theorem jR_bin : ∀ n (f : Nat → Nat), jR n f = jZ (fun p => jBin n p * f p) (n + 1) := by
  intro n
  induction n with
  | zero =>
    intro f
    show f 0 = 0 + 1 * f 0
    omega
  | succ n ih =>
    intro f
    show jR n f + jR n (fun p => f (p + 1)) = _
    rw [ih f, ih (fun p => f (p + 1)), jZ_shift (n + 1)]
    have e1 : jZ (fun p => jBin n p * f p) (n + 1 + 1) = jZ (fun p => jBin n p * f p) (n + 1) := by
      show jZ (fun p => jBin n p * f p) (n + 1) + jBin n (n + 1) * f (n + 1) = _
      rw [jBin_top n (n + 1) (by omega), Nat.zero_mul]
      rfl
    rw [jZ_shift (n + 1)] at e1
    have e2 : jZ (fun i => jBin (n + 1) (i + 1) * f (i + 1)) (n + 1) = jZ (fun p => jBin n p * f (p + 1)) (n + 1) + jZ (fun i => jBin n (i + 1) * f (i + 1)) (n + 1) := by
      rw [← jZ_add]
      exact jZ_congr _ (fun i _ => Nat.add_mul _ _ _)
    show _ = jBin (n + 1) 0 * f 0 + jZ (fun i => jBin (n + 1) (i + 1) * f (i + 1)) (n + 1)
    have e3 : jBin n 0 * f 0 = jBin (n + 1) 0 * f 0 := by rw [jBin_zero, jBin_zero]
    rw [e2, ← e1, ← e3]
    show jBin n 0 * f 0 + jZ (fun i => jBin n (i + 1) * f (i + 1)) (n + 1) + jZ (fun p => jBin n p * f (p + 1)) (n + 1) = _
    omega
theorem jP_top : ∀ n, n < 8 → ∀ s, s < 2 ^ n → jP (2 ^ n + s) (n + 1) = jP s n + 1 ∧ jP s (n + 1) = jP s n := by decide +kernel
theorem jR_sets : ∀ n, n ≤ 8 → ∀ f : Nat → Nat, jZ (fun s => f (jP s n)) (2 ^ n) = jR n f := by
  intro n
  induction n with
  | zero =>
    intro _ f
    show 0 + f 0 = f 0
    omega
  | succ n ih =>
    intro hn f
    show _ = jR n f + jR n (fun p => f (p + 1))
    rw [show 2 ^ (n + 1) = 2 ^ n + 2 ^ n by rw [Nat.pow_succ]; omega, jZ_split, ← ih (by omega) f, ← ih (by omega) (fun p => f (p + 1)), jZ_congr (2 ^ n) (fun s hs => congrArg f (jP_top n (by omega) s hs).2), jZ_congr (f := fun i => f (jP (2 ^ n + i) (n + 1))) (2 ^ n) (fun s hs => congrArg f (jP_top n (by omega) s hs).1)]
theorem jP_le (s : Nat) : ∀ k, jP s k ≤ k := by
  intro k
  induction k with
  | zero => exact Nat.le_refl _
  | succ k ih =>
    show jP s k + s / 2 ^ k % 2 ≤ k + 1
    have : s / 2 ^ k % 2 < 2 := Nat.mod_lt _ (by decide)
    omega
/-- the chance of a set of hours -/
def jQ (x s : Nat) : Nat → Nat
  | 0 => 1
  | k + 1 => jQ x s k * (if s / 2 ^ k % 2 = 0 then 10 - x else x)
theorem jQ_eq (x s : Nat) : ∀ k, jQ x s k = x ^ jP s k * (10 - x) ^ (k - jP s k) := by
  intro k
  induction k with
  | zero => rfl
  | succ k ih =>
    have h1 := jP_le s k
    have h2 : s / 2 ^ k % 2 < 2 := Nat.mod_lt _ (by decide)
    show jQ x s k * (if s / 2 ^ k % 2 = 0 then 10 - x else x) = x ^ (jP s k + s / 2 ^ k % 2) * (10 - x) ^ (k + 1 - (jP s k + s / 2 ^ k % 2))
    rw [ih]
    by_cases hb : s / 2 ^ k % 2 = 0
    · rw [if_pos hb, hb, Nat.add_zero, show k + 1 - jP s k = (k - jP s k) + 1 by omega, Nat.pow_succ, Nat.mul_assoc]
    · rw [if_neg hb, show s / 2 ^ k % 2 = 1 by omega, show k + 1 - (jP s k + 1) = k - jP s k by omega, Nat.pow_succ, Nat.mul_assoc, Nat.mul_assoc, Nat.mul_comm x]
def jm99 (a : Nat) : Nat := if a < 99 then a else 99
theorem jm99_le (a : Nat) : jm99 a ≤ 99 := by
  unfold jm99
  split <;> omega
theorem jm99_add (a b : Nat) : (if jm99 a + b < 99 then jm99 a + b else 99) = jm99 (a + b) := by
  unfold jm99
  repeat' split
  all_goals omega
/-- small tables -/
theorem jx_has : ∀ k, k < 8 → ∀ s, s < 256 → jf_M_has 4000 (nI s) (nI k) = some (nI (s / 2 ^ k % 2)) := by decide +kernel
theorem jx_power : ∀ k, k ≤ 8 → ∀ x, x ≤ 10 → jf_H_power 4000 (nI x) (nI k) = some (nI (x ^ k)) := by decide +kernel
theorem jx_ways : ∀ n, n ≤ 8 → ∀ p, p ≤ n → jf_H_waysOf 4000 (nI n) (nI p) = some (nI (jBin n p)) := by decide +kernel
theorem jx_all : ∀ n, n ≤ 8 → ∀ x, x ≤ 10 → jZ (fun p => jBin n p * (x ^ p * (10 - x) ^ (n - p))) (n + 1) ≤ 10 ^ 8 := by decide +kernel

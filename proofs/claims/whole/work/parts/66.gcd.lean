/-! lowest terms -/
theorem jg_step (x y : Nat) : Nat.gcd x y = Nat.gcd y (x % y) := (Nat.gcd_comm x y).trans ((Nat.gcd_rec y x).trans (Nat.gcd_comm _ _))
theorem jg_half {y r k : Nat} (h0 : 0 < r) (h1 : r < y) (h2 : y < 2 ^ (k + 1)) : y % r < 2 ^ k := by
  have h3 := Nat.div_add_mod y r
  have h4 : r * 1 ≤ r * (y / r) := Nat.mul_le_mul_left r (Nat.div_pos (by omega) h0)
  have h5 : y % r < r := Nat.mod_lt _ h0
  rw [Nat.pow_succ] at h2
  omega
theorem jg_m0 {x : Nat} (k : (Int32 × Int32) → Option Int32) : jf_M_common_4B 4000 (nI x) (nI 0) k = some (nI x) := by
  unfold jf_M_common_4B
  rw [if_pos (show nI 0 = 0 from rfl)]
theorem jg_m1 {x y : Nat} (hx : x < 2 ^ 31) (h0 : 0 < y) (hy : y < 2 ^ 31) (k : (Int32 × Int32) → Option Int32) : jf_M_common_4B 4000 (nI x) (nI y) k = k (nI y, nI (x % y)) := by
  unfold jf_M_common_4B
  rw [if_neg (nI_ne0 h0 hy), jp_xz h0 hy, jn_rem hx h0 hy, jp_xl]
theorem jg_common : ∀ k x y f, k ≤ 30 → y < 2 ^ k → x < 2 ^ 31 → 2 * k < f → xloop (fun (kh : (Int32 × Int32) → Option (Int32)) q => jf_M_common_4B 4000 q.1 q.2 kh) f (nI x, nI y) = some (nI (Nat.gcd x y)) := by
  intro k
  induction k with
  | zero =>
    intro x y f hk hy hx hf
    obtain ⟨f, rfl⟩ : ∃ z, f = z + 1 := ⟨f - 1, by omega⟩
    have : y = 0 := by omega
    subst this
    rw [Nat.gcd_zero_right]
    exact jg_m0 _
  | succ k ih =>
    intro x y f hk hy hx hf
    have hp : 2 ^ (k + 1) ≤ 2 ^ 30 := Nat.pow_le_pow_right (by decide) hk
    obtain ⟨f, rfl⟩ : ∃ z, f = z + 1 + 1 := ⟨f - 2, by omega⟩
    by_cases h0 : y = 0
    · subst h0
      rw [Nat.gcd_zero_right]
      exact jg_m0 _
    · have hm : x % y < y := Nat.mod_lt _ (by omega)
      refine (jg_m1 hx (by omega) (by omega) _).trans ?_
      rw [jg_step x y]
      by_cases h1 : x % y = 0
      · rw [h1, Nat.gcd_zero_right]
        exact jg_m0 _
      · refine (jg_m1 (by omega) (by omega) (by omega) _).trans ?_
        rw [jg_step y (x % y)]
        exact ih _ _ f (by omega) (jg_half (by omega) hm hy) (by omega) (by omega)
theorem jg_h0 {x i : Nat} (x0 x1 x2 : Int32) (kx : Int32 → Option Int32) (k : (Int32 × Int32 × Int32) → Option Int32) : jf_H_inLowestTerms_8B 4000 x0 x1 x2 (nI x) (nI 0) (nI i) k kx = kx (nI x) := by
  unfold jf_H_inLowestTerms_8B
  rw [if_pos (show nI 0 = 0 from rfl), ite_self]
theorem jg_h1 {x y i : Nat} (hi : i < 100) (hx : x < 2 ^ 31) (h0 : 0 < y) (hy : y < 2 ^ 31) (x0 x1 x2 : Int32) (kx : Int32 → Option Int32) (k : (Int32 × Int32 × Int32) → Option Int32) : jf_H_inLowestTerms_8B 4000 x0 x1 x2 (nI x) (nI y) (nI i) k kx = k (nI y, nI (x % y), nI (i + 1)) := by
  unfold jf_H_inLowestTerms_8B
  rw [jl100, if_neg (nI_ge hi (by omega)), if_neg (nI_ne0 h0 hy), jp_xz h0 hy, jn_rem hx h0 hy, nI_1, jp_xl, jp_xl]
theorem jg_terms (x0 x1 x2 : Int32) (kx : Int32 → Option Int32) : ∀ k x y i f, k ≤ 30 → y < 2 ^ k → x < 2 ^ 31 → i + 2 * k ≤ 100 → 2 * k < f → xloop (fun (kh : (Int32 × Int32 × Int32) → Option (Int32)) q => jf_H_inLowestTerms_8B 4000 x0 x1 x2 q.1 q.2.1 q.2.2 kh kx) f (nI x, nI y, nI i) = kx (nI (Nat.gcd x y)) := by
  intro k
  induction k with
  | zero =>
    intro x y i f hk hy hx hi hf
    obtain ⟨f, rfl⟩ : ∃ z, f = z + 1 := ⟨f - 1, by omega⟩
    have : y = 0 := by omega
    subst this
    rw [Nat.gcd_zero_right]
    exact jg_h0 x0 x1 x2 kx _
  | succ k ih =>
    intro x y i f hk hy hx hi hf
    have hp : 2 ^ (k + 1) ≤ 2 ^ 30 := Nat.pow_le_pow_right (by decide) hk
    obtain ⟨f, rfl⟩ : ∃ z, f = z + 1 + 1 := ⟨f - 2, by omega⟩
    by_cases h0 : y = 0
    · subst h0
      rw [Nat.gcd_zero_right]
      exact jg_h0 x0 x1 x2 kx _
    · have hm : x % y < y := Nat.mod_lt _ (by omega)
      refine (jg_h1 (by omega) hx (by omega) (by omega) x0 x1 x2 kx _).trans ?_
      rw [jg_step x y]
      by_cases h1 : x % y = 0
      · rw [h1, Nat.gcd_zero_right]
        exact jg_h0 x0 x1 x2 kx _
      · refine (jg_h1 (by omega) (by omega) (by omega) (by omega) x0 x1 x2 kx _).trans ?_
        rw [jg_step y (x % y)]
        exact ih _ _ _ f (by omega) (jg_half (by omega) hm hy) (by omega) (by omega) (by omega)
theorem jg_M {a b : Nat} (ha : a < 2 ^ 27) (hb : b < 2 ^ 27) : jf_M_common 4000 (nI a) (nI b) = some (nI (Nat.gcd a b)) := by
  unfold jf_M_common jf_M_common_4
  exact jg_common 27 a b 4000 (by decide) hb (by omega) (by decide)
theorem jg_H {a b : Nat} (ha : a < 2 ^ 27) (h0 : 0 < b) (hb : b < 2 ^ 27) (x : Int32) : jf_H_inLowestTerms 4000 (nI a) (nI b) x = some (if x = 0 then nI a / nI (Nat.gcd a b) else nI b / nI (Nat.gcd a b)) := by
  have hg : 0 < Nat.gcd a b := Nat.gcd_pos_of_pos_right a h0
  have hg2 : Nat.gcd a b ≤ b := Nat.le_of_dvd h0 (Nat.gcd_dvd_right a b)
  unfold jf_H_inLowestTerms jf_H_inLowestTerms_8
  refine (jg_terms (nI a) (nI b) x _ 27 b a 0 4000 (by decide) ha (by omega) (by decide) (by decide)).trans ?_
  rw [Nat.gcd_comm b a]
  unfold jf_H_inLowestTerms_39 jf_H_inLowestTerms_48
  rw [if_neg (nI_ne0 hg (by omega)), if_neg (nI_ne0 hg (by omega)), jp_xz hg (by omega), jp_xz hg (by omega)]
  by_cases hx : x = 0
  · rw [if_pos hx, if_pos hx]
  · rw [if_neg hx, if_neg hx]

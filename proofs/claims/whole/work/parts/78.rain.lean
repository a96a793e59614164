section RAIN
variable {mowers weathers : Int32} {weather st : Nat → Int32}
theorem jr_below {n : Nat} (hn : n ≤ 8) (x1 x3 x4 x5 x6 : Int32) (kx : Int32 → Option Int32) : jf_M_rain_67 4000 mowers weathers weather st x1 (nI n) x3 x4 x5 x6 (1 : Int32) (0 : Int32) kx = kx (nI (10 ^ n)) := by
  unfold jf_M_rain_67
  refine xloop_seq _ (fun i => (nI (10 ^ i), nI i)) n 4000 _ (by omega) (fun i hi kh => ?_) (fun kh => ?_)
  · show jf_M_rain_67B 4000 mowers weathers weather st x1 (nI n) x3 x4 x5 x6 (nI (10 ^ i)) (nI i) kh kx = kh (nI (10 ^ (i + 1)), nI (i + 1))
    unfold jf_M_rain_67B
    rw [if_neg (nI_ge hi (by omega)), jl10, pk_mul, jp_xl, nI_1, jp_xl, Nat.pow_succ]
  · show jf_M_rain_67B 4000 mowers weathers weather st x1 (nI n) x3 x4 x5 x6 (nI (10 ^ n)) (nI n) kh kx = kx (nI (10 ^ n))
    unfold jf_M_rain_67B
    rw [if_pos (nI_le (Nat.le_refl _) (by omega))]
theorem jr_inner {n s h d x : Nat} {rho : Nat → Nat} (hn : n ≤ 8) (hs : s < 256) (hx : x ≤ 10) (hd : d ≤ 99) (hh : h < 2 ^ 19) (e : st 0 = nI h) (hr : ∀ i, i < n → rho i ≤ 3 ∧ jf_M_rains 4000 weathers weather (nI (h + i)) = some (nI (rho i))) (x1 x4 x5 x6 x7 : Int32) (kx : (Int32 × Int32) → Option Int32) :
    jf_M_rain_114 4000 mowers weathers weather st x1 (nI n) (nI x) x4 x5 x6 x7 (nI s) (1 : Int32) (nI d) (0 : Int32) kx = kx (nI (jQ x s n), nI (jm99 (d + jZ rho n + 3 * jP s n))) := by
  have e0 : nI d = nI (jm99 (d + jZ rho 0 + 3 * jP s 0)) := by
    show nI d = nI (jm99 (d + 0 + 3 * 0))
    unfold jm99
    rw [Nat.mul_zero, Nat.add_zero]
    by_cases hc : d < 99
    · rw [if_pos hc]
    · rw [if_neg hc, show d = 99 by omega]
  rw [e0]
  unfold jf_M_rain_114
  refine xloop_seq _ (fun k => (nI (jQ x s k), nI (jm99 (d + jZ rho k + 3 * jP s k)), nI k)) n 4000 _ (by omega) (fun k hk kh => ?_) (fun kh => ?_)
  · show jf_M_rain_114B 4000 mowers weathers weather st x1 (nI n) (nI x) x4 x5 x6 x7 (nI s) (nI (jQ x s k)) (nI (jm99 (d + jZ rho k + 3 * jP s k))) (nI k) kh kx = kh (nI (jQ x s k * (if s / 2 ^ k % 2 = 0 then 10 - x else x)), nI (jm99 (d + (jZ rho k + rho k) + 3 * (jP s k + s / 2 ^ k % 2))), nI (k + 1))
    have h2 : s / 2 ^ k % 2 < 2 := Nat.mod_lt _ (by decide)
    have hw := jm99_le (d + jZ rho k + 3 * jP s k)
    obtain ⟨r1, r2⟩ := hr k hk
    unfold jf_M_rain_114B jf_M_rain_140 jf_M_rain_174
    by_cases hb : s / 2 ^ k % 2 = 0
    · have eh : jf_M_has 4000 (nI s) (nI k) = some (nI 0) := by rw [jx_has k (by omega) s hs, hb]
      rw [if_neg (nI_ge hk (by omega)), eh, jp_xb, if_pos (show nI 0 = 0 from rfl), jl10, jn_sub hx, pk_mul, jp_xl, jp_xr0 (by decide) (by decide), jz0, e, nI_add, r2, jp_xb, jp_xb, if_pos (show nI 0 = 0 from rfl), show nI (rho k) + (0 : Int32) = nI (rho k + 0) from nI_add _ 0, jm_wetter hw (by omega), jp_xb, nI_1, jp_xl, jm99_add, if_pos hb, show d + (jZ rho k + rho k) + 3 * (jP s k + s / 2 ^ k % 2) = d + jZ rho k + 3 * jP s k + (rho k + 0) by omega]
    · have hb1 : s / 2 ^ k % 2 = 1 := by omega
      have eh : jf_M_has 4000 (nI s) (nI k) = some (nI 1) := by rw [jx_has k (by omega) s hs, hb1]
      rw [if_neg (nI_ge hk (by omega)), eh, jp_xb, if_neg (show ¬ nI 1 = 0 by decide), pk_mul, jp_xl, jp_xr0 (by decide) (by decide), jz0, e, nI_add, r2, jp_xb, jp_xb, if_neg (show ¬ nI 1 = 0 by decide), show nI (rho k) + (3 : Int32) = nI (rho k + 3) from nI_add _ 3, jm_wetter hw (by omega), jp_xb, nI_1, jp_xl, jm99_add, if_neg hb, show d + (jZ rho k + rho k) + 3 * (jP s k + s / 2 ^ k % 2) = d + jZ rho k + 3 * jP s k + (rho k + 3) by omega]
  · show jf_M_rain_114B 4000 mowers weathers weather st x1 (nI n) (nI x) x4 x5 x6 x7 (nI s) (nI (jQ x s n)) (nI (jm99 (d + jZ rho n + 3 * jP s n))) (nI n) kh kx = _
    unfold jf_M_rain_114B
    rw [if_pos (nI_le (Nat.le_refl _) (by omega))]
theorem jr_sets {n h d x w m : Nat} {rho : Nat → Nat} (hn : n ≤ 8) (hx : x ≤ 10) (hd : d ≤ 99) (hw : w ≤ 99) (hm : m < 5) (hh : h < 2 ^ 19) (e : st 0 = nI h) (ed : st (6 + m) = nI d) (hr : ∀ i, i < n → rho i ≤ 3 ∧ jf_M_rains 4000 weathers weather (nI (h + i)) = some (nI (rho i))) (x5 x7 : Int32) (kx : Int32 → Option Int32) :
    jf_M_rain_89 4000 mowers weathers weather st (nI m) (nI n) (nI x) (nI w) x5 (0 : Int32) x7 (0 : Int32) kx = kx (nI (jZ (fun s => if w ≤ jm99 (d + jZ rho n + 3 * jP s n) then jQ x s n else 0) (2 ^ n))) := by
  have hp : 2 ^ n ≤ 2 ^ 8 := Nat.pow_le_pow_right (by decide) hn
  unfold jf_M_rain_89
  refine xloop_seq _ (fun s => (nI (jZ (fun s => if w ≤ jm99 (d + jZ rho n + 3 * jP s n) then jQ x s n else 0) s), nI s)) (2 ^ n) 4000 _ (by omega) (fun s hs kh => ?_) (fun kh => ?_)
  · show jf_M_rain_89B 4000 mowers weathers weather st (nI m) (nI n) (nI x) (nI w) x5 (nI (jZ (fun s => if w ≤ jm99 (d + jZ rho n + 3 * jP s n) then jQ x s n else 0) s)) x7 (nI s) kh kx = kh (nI (jZ (fun s => if w ≤ jm99 (d + jZ rho n + 3 * jP s n) then jQ x s n else 0) s + (if w ≤ jm99 (d + jZ rho n + 3 * jP s n) then jQ x s n else 0)), nI (s + 1))
    have hq := jm99_le (d + jZ rho n + 3 * jP s n)
    unfold jf_M_rain_89B
    rw [(jb_pow (z := n) (by omega)).1, if_neg (nI_ge hs (by omega)), jl6, nI_add, jp_xr (show 6 + m < 93 by omega) (by decide), nI_clamp (show 6 + m < 2 ^ 31 by omega), ed, jp_xl, jr_inner hn (by omega) hx hd hh e hr]
    unfold jf_M_rain_186 jf_M_rain_201
    by_cases hc : w ≤ jm99 (d + jZ rho n + 3 * jP s n)
    · rw [if_neg (nI_nlt hc (by omega)), if_pos hc, nI_add, jp_xl, nI_1, jp_xl]
    · rw [if_pos (nI_lt (by omega) (by omega)), if_neg hc, show nI (jZ (fun s => if w ≤ jm99 (d + jZ rho n + 3 * jP s n) then jQ x s n else 0) s) + (0 : Int32) = nI (jZ (fun s => if w ≤ jm99 (d + jZ rho n + 3 * jP s n) then jQ x s n else 0) s + 0) from nI_add _ 0, jp_xl, nI_1, jp_xl]
  · show jf_M_rain_89B 4000 mowers weathers weather st (nI m) (nI n) (nI x) (nI w) x5 (nI (jZ (fun s => if w ≤ jm99 (d + jZ rho n + 3 * jP s n) then jQ x s n else 0) (2 ^ n))) x7 (nI (2 ^ n)) kh kx = _
    unfold jf_M_rain_89B
    rw [(jb_pow (z := n) (by omega)).1, if_pos (nI_le (Nat.le_refl _) (by omega))]
end RAIN
theorem jr_class {n x w E : Nat} (hn : n ≤ 8) (hx : x ≤ 10) (hw : w ≤ 99) (hE : E ≤ 99) (f1 f2 f3 f4 f5 f6 f7 f8 r1 r2 r3 r4 r5 r6 r7 r8 g1 g2 g3 g4 : Nat → Int32) (f9 r9 g5 g6 g7 x5 : Int32) (kx : Int32 → Option (Int32 × (Nat → Int32) × (Nat → Int32) × (Nat → Int32) × (Nat → Int32) × (Nat → Int32) × (Nat → Int32) × (Nat → Int32) × (Nat → Int32) × Int32)) :
    jf_H_rain_93 4000 f1 f2 f3 f4 f5 f6 f7 f8 f9 r1 r2 r3 r4 r5 r6 r7 r8 r9 g1 g2 g3 g4 g5 g6 g7 (nI n) (nI x) (nI w) x5 (nI E) (0 : Int32) (0 : Int32) kx = kx (nI (jZ (fun p => if w ≤ jm99 (E + 3 * p) then jBin n p * x ^ p * (10 - x) ^ (n - p) else 0) (n + 1))) := by
  unfold jf_H_rain_93
  refine xloop_seq _ (fun p => (nI (jZ (fun p => if w ≤ jm99 (E + 3 * p) then jBin n p * x ^ p * (10 - x) ^ (n - p) else 0) p), nI p)) (n + 1) 4000 _ (by omega) (fun p hp kh => ?_) (fun kh => ?_)
  · show jf_H_rain_93B 4000 f1 f2 f3 f4 f5 f6 f7 f8 f9 r1 r2 r3 r4 r5 r6 r7 r8 r9 g1 g2 g3 g4 g5 g6 g7 (nI n) (nI x) (nI w) x5 (nI E) (nI (jZ (fun p => if w ≤ jm99 (E + 3 * p) then jBin n p * x ^ p * (10 - x) ^ (n - p) else 0) p)) (nI p) kh kx = kh (nI (jZ (fun p => if w ≤ jm99 (E + 3 * p) then jBin n p * x ^ p * (10 - x) ^ (n - p) else 0) p + (if w ≤ jm99 (E + 3 * p) then jBin n p * x ^ p * (10 - x) ^ (n - p) else 0)), nI (p + 1))
    have hq := jm99_le (E + 3 * p)
    have ev : (if E + 3 * p < 99 then nI (E + 3 * p) else nI 99) = nI (jm99 (E + 3 * p)) := by
      unfold jm99
      by_cases hc : E + 3 * p < 99
      · rw [if_pos hc, if_pos hc]
      · rw [if_neg hc, if_neg hc]
    unfold jf_H_rain_93B jf_H_rain_146
    rw [if_neg (nI_nlt (show p ≤ n by omega) (by omega)), jl3, pk_mul, nI_add, jl99, jn_ite_lt (by omega) (by omega), ev, jp_xl]
    by_cases hc : w ≤ jm99 (E + 3 * p)
    · rw [if_neg (nI_nlt hc (by omega)), if_pos hc, jx_ways n hn p (by omega), jp_xb, jx_power p (by omega) x hx, jp_xb, jl10, jn_sub hx, jn_sub (show p ≤ n by omega), jx_power (n - p) (by omega) (10 - x) (by omega), jp_xb, pk_mul, pk_mul, nI_add, jp_xl, nI_1, jp_xl]
    · rw [if_pos (nI_lt (by omega) (by omega)), if_neg hc, Nat.add_zero, nI_1, jp_xl]
  · show jf_H_rain_93B 4000 f1 f2 f3 f4 f5 f6 f7 f8 f9 r1 r2 r3 r4 r5 r6 r7 r8 r9 g1 g2 g3 g4 g5 g6 g7 (nI n) (nI x) (nI w) x5 (nI E) (nI (jZ (fun p => if w ≤ jm99 (E + 3 * p) then jBin n p * x ^ p * (10 - x) ^ (n - p) else 0) (n + 1))) (nI (n + 1)) kh kx = _
    unfold jf_H_rain_93B
    rw [if_pos (nI_lt (by omega) (by omega))]
/-- both come to the same sum -/
theorem jr_same {n x w a : Nat} (hn : n ≤ 8) (hx : x ≤ 10) : jZ (fun s => if w ≤ jm99 (a + 3 * jP s n) then jQ x s n else 0) (2 ^ n) = jZ (fun p => if w ≤ jm99 (jm99 a + 3 * p) then jBin n p * x ^ p * (10 - x) ^ (n - p) else 0) (n + 1) ∧ jZ (fun s => if w ≤ jm99 (a + 3 * jP s n) then jQ x s n else 0) (2 ^ n) ≤ 10 ^ 8 := by
  have e1 : jZ (fun s => if w ≤ jm99 (a + 3 * jP s n) then jQ x s n else 0) (2 ^ n) = jZ (fun s => (fun p => if w ≤ jm99 (a + 3 * p) then x ^ p * (10 - x) ^ (n - p) else 0) (jP s n)) (2 ^ n) := jZ_congr _ (fun s _ => by
    show (if w ≤ jm99 (a + 3 * jP s n) then jQ x s n else 0) = (if w ≤ jm99 (a + 3 * jP s n) then x ^ jP s n * (10 - x) ^ (n - jP s n) else 0)
    rw [jQ_eq])
  have e2 := jR_sets n hn (fun p => if w ≤ jm99 (a + 3 * p) then x ^ p * (10 - x) ^ (n - p) else 0)
  have e3 := jR_bin n (fun p => if w ≤ jm99 (a + 3 * p) then x ^ p * (10 - x) ^ (n - p) else 0)
  have e4 := e1.trans (e2.trans e3)
  refine ⟨e4.trans (jZ_congr _ (fun p _ => ?_)), ?_⟩
  · have em : jm99 (jm99 a + 3 * p) = jm99 (a + 3 * p) := jm99_add a (3 * p)
    show jBin n p * (if w ≤ jm99 (a + 3 * p) then x ^ p * (10 - x) ^ (n - p) else 0) = (if w ≤ jm99 (jm99 a + 3 * p) then jBin n p * x ^ p * (10 - x) ^ (n - p) else 0)
    rw [em]
    by_cases hc : w ≤ jm99 (a + 3 * p)
    · rw [if_pos hc, if_pos hc, Nat.mul_assoc]
    · rw [if_neg hc, if_neg hc, Nat.mul_zero]
  · rw [e4]
    refine Nat.le_trans (jZ_le _ (fun p _ => ?_)) (jx_all n hn x hx)
    show jBin n p * (if w ≤ jm99 (a + 3 * p) then x ^ p * (10 - x) ^ (n - p) else 0) ≤ jBin n p * (x ^ p * (10 - x) ^ (n - p))
    refine Nat.mul_le_mul_left _ ?_
    split
    · exact Nat.le_refl _
    · exact Nat.zero_le _

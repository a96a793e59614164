theorem jop_25 (x : jX) (y : jM) (v : Nat → Int32) (h : jRel x y) : ∃ (o1 : Int32 × jX) (o2 : Int32 × jM), jh 4000 25 x v = some o1 ∧ jm 4000 25 y v = some o2 ∧ o1.1 = o2.1 ∧ jRel o1.2 o2.2 := by
  obtain ⟨nm, nc, nk, hL, hF, hT, hS, hP, hK⟩ := h
  show ∃ (o1 : Int32 × jX) (o2 : Int32 × jM), jh_25 4000 x (v 1) (v 2) (v 3) (v 4) (v 5) = some o1 ∧ jm_25 4000 y (v 1) (v 2) (v 3) (v 4) (v 5) = some o2 ∧ o1.1 = o2.1 ∧ jRel o1.2 o2.2
  unfold jh_25 jm_25 jf_H_rain jf_M_rain
  rcases jl_mower hL (N := 4000) (v 1) with ⟨m, hm, em, h1, h2⟩ | ⟨-, h1, h2⟩
  · have hm5 : m < 5 := Nat.lt_of_lt_of_le hm hL.1.2.1
    rw [h1, h2, jp_xb, jp_xb, if_neg (show ¬ (1 : Int32) = 0 by decide), if_neg (show ¬ (1 : Int32) = 0 by decide)]
    rcases jb_both (v 2) 0 8 (by decide) (by decide) with ⟨n, -, n2, nx, a0, b0⟩ | ⟨-, a0, b0⟩
    · rw [show jf_H_isWithin 4000 (v 2) (0 : Int32) (8 : Int32) = some 1 from a0, show jf_M_in 4000 (Int32.toInt64 (v 2)) (0 : Int64) (8 : Int64) = some 1 from b0, jp_xb, jp_xb, if_neg (show ¬ (1 : Int32) = 0 by decide), if_neg (show ¬ (1 : Int32) = 0 by decide)]
      rcases jb_both (v 3) 0 10 (by decide) (by decide) with ⟨xx, -, xx2, xxx, a1, b1⟩ | ⟨-, a1, b1⟩
      · rw [show jf_H_isWithin 4000 (v 3) (0 : Int32) (10 : Int32) = some 1 from a1, show jf_M_in 4000 (Int32.toInt64 (v 3)) (0 : Int64) (10 : Int64) = some 1 from b1, jp_xb, jp_xb, if_neg (show ¬ (1 : Int32) = 0 by decide), if_neg (show ¬ (1 : Int32) = 0 by decide)]
        rcases jb_both (v 4) 0 99 (by decide) (by decide) with ⟨w, -, w2, wx, a2, b2⟩ | ⟨-, a2, b2⟩
        · rw [show jf_H_isWithin 4000 (v 4) (0 : Int32) (99 : Int32) = some 1 from a2, show jf_M_in 4000 (Int32.toInt64 (v 4)) (0 : Int64) (99 : Int64) = some 1 from b2, jp_xb, jp_xb, if_neg (show ¬ (1 : Int32) = 0 by decide), if_neg (show ¬ (1 : Int32) = 0 by decide)]
          rcases jb_both (v 5) 0 1 (by decide) (by decide) with ⟨i, -, i2, ix, a3, b3⟩ | ⟨-, a3, b3⟩
          · rw [show jf_H_isWithin 4000 (v 5) (0 : Int32) (1 : Int32) = some 1 from a3, show jf_M_in 4000 (Int32.toInt64 (v 5)) (0 : Int64) (1 : Int64) = some 1 from b3, jp_xb, jp_xb, if_neg (show ¬ (1 : Int32) = 0 by decide), if_neg (show ¬ (1 : Int32) = 0 by decide)]
            obtain ⟨o, c1, c2⟩ := jf_copyFrom (N := 4000) (by decide) x.2.2.2.1 x.2.2.1
            have hF2 : RField 999 nc nk o y.2.2.2.2.2.2.2.2.2.2.2.2.2.2.2.2.2.2.2.2.1 := hF.cong c2 (fun _ _ => rfl)
            obtain ⟨hh, r1, r2⟩ := RPart_to hF2
            obtain ⟨-, d, d1, d2, d3⟩ := r2.2.2.1 m hm5
            have xr : ∀ t, ∃ z : Nat, t < 2 ^ 30 → z ≤ 3 ∧ jf_L_weatherOf 4000 x.2.2.2.2.2.2.2.1.2.2.1 x.2.2.2.2.2.2.2.1.2.2.2.2.2.1 (nI t) = some (nI z) ∧ jf_M_rains 4000 y.2.2.2.2.2.1 y.2.2.2.2.2.2.2.2.1 (nI t) = some (nI z) := by
              intro t
              by_cases ht : t < 2 ^ 30
              · obtain ⟨z, z1, z2, z3⟩ := jl_weather hL (N := 4000) ht
                exact ⟨z, fun _ => ⟨z1, z2, z3⟩⟩
              · exact ⟨0, fun q => absurd q ht⟩
            obtain ⟨rw0, hrw⟩ := Classical.axiomOfChoice xr
            obtain ⟨q, g1, g2⟩ := jd_hours hL (h := hh) (n := n) (rho := fun i => rw0 (hh + i)) (by omega) (by omega) hm d1 (fun i hi => ⟨(hrw (hh + i) (by omega)).1, (hrw (hh + i) (by omega)).2.1⟩) r2 d2
            have k1 := jr_sets (mowers := y.2.2.1) (n := n) (rho := fun i => rw0 (hh + i)) n2 xx2 d1 w2 hm5 (show hh < 2 ^ 19 by omega) r2.1.2 d3 (fun i hi => ⟨(hrw (hh + i) (by omega)).1, (hrw (hh + i) (by omega)).2.2⟩)
            obtain ⟨s1, s2⟩ := jr_same (w := w) (a := d + jZ (fun i => rw0 (hh + i)) n) n2 xx2
            have p1 : 10 ^ n ≤ 10 ^ 8 := Nat.pow_le_pow_right (by decide) n2
            have p0 : 0 < 10 ^ n := Nat.pow_pos (by decide)
            have p2 : (10 : Nat) ^ 8 < 2 ^ 27 := by decide
            generalize jZ (fun s => if w ≤ jm99 (d + jZ (fun i => rw0 (hh + i)) n + 3 * jP s n) then jQ xx s n else 0) (2 ^ n) = A at s1 s2 k1
            have hg : 0 < Nat.gcd A (10 ^ n) := Nat.gcd_pos_of_pos_right A p0
            have hg2 : Nat.gcd A (10 ^ n) ≤ 10 ^ n := Nat.le_of_dvd p0 (Nat.gcd_dvd_right A (10 ^ n))
            rw [em, nx, xxx, wx, c1, jp_xb, g1, jp_xb, jr_at hm5 (by decide), g2, jp_xb, jr_class n2 xx2 w2 (jm99_le _), ← s1, jr_below n2]
            unfold jf_M_rain_86
            rw [k1]
            unfold jf_H_rain_152 jf_M_rain_210
            rw [show jf_H_power 4000 (10 : Int32) (nI n) = some (nI (10 ^ n)) from jx_power n n2 10 (by decide), jp_xb, jg_H (by omega) p0 (by omega), jp_xb, jp_xb, jg_M (by omega) (by omega), jp_xb, jp_xz hg (by omega), jp_xz hg (by omega)]
            by_cases hx : v 5 = 0
            · rw [if_pos hx, if_pos hx, jp_xb]
              exact ⟨_, _, rfl, rfl, rfl, nm, nc, nk, hL, hF, hT, hS, hP, hK⟩
            · rw [if_neg hx, if_neg hx, jp_xb]
              exact ⟨_, _, rfl, rfl, rfl, nm, nc, nk, hL, hF, hT, hS, hP, hK⟩
          · rw [show jf_H_isWithin 4000 (v 5) (0 : Int32) (1 : Int32) = some 0 from a3, show jf_M_in 4000 (Int32.toInt64 (v 5)) (0 : Int64) (1 : Int64) = some 0 from b3, jp_xb, jp_xb, if_pos (show (0 : Int32) = 0 from rfl), if_pos (show (0 : Int32) = 0 from rfl), jp_xb, jp_xb]
            exact ⟨_, _, rfl, rfl, rfl, nm, nc, nk, hL, hF, hT, hS, hP, hK⟩
        · rw [show jf_H_isWithin 4000 (v 4) (0 : Int32) (99 : Int32) = some 0 from a2, show jf_M_in 4000 (Int32.toInt64 (v 4)) (0 : Int64) (99 : Int64) = some 0 from b2, jp_xb, jp_xb, if_pos (show (0 : Int32) = 0 from rfl), if_pos (show (0 : Int32) = 0 from rfl), jp_xb, jp_xb]
          exact ⟨_, _, rfl, rfl, rfl, nm, nc, nk, hL, hF, hT, hS, hP, hK⟩
      · rw [show jf_H_isWithin 4000 (v 3) (0 : Int32) (10 : Int32) = some 0 from a1, show jf_M_in 4000 (Int32.toInt64 (v 3)) (0 : Int64) (10 : Int64) = some 0 from b1, jp_xb, jp_xb, if_pos (show (0 : Int32) = 0 from rfl), if_pos (show (0 : Int32) = 0 from rfl), jp_xb, jp_xb]
        exact ⟨_, _, rfl, rfl, rfl, nm, nc, nk, hL, hF, hT, hS, hP, hK⟩
    · rw [show jf_H_isWithin 4000 (v 2) (0 : Int32) (8 : Int32) = some 0 from a0, show jf_M_in 4000 (Int32.toInt64 (v 2)) (0 : Int64) (8 : Int64) = some 0 from b0, jp_xb, jp_xb, if_pos (show (0 : Int32) = 0 from rfl), if_pos (show (0 : Int32) = 0 from rfl), jp_xb, jp_xb]
      exact ⟨_, _, rfl, rfl, rfl, nm, nc, nk, hL, hF, hT, hS, hP, hK⟩
  · rw [h1, h2, jp_xb, jp_xb, if_pos (show (0 : Int32) = 0 from rfl), if_pos (show (0 : Int32) = 0 from rfl), jp_xb, jp_xb]
    exact ⟨_, _, rfl, rfl, rfl, nm, nc, nk, hL, hF, hT, hS, hP, hK⟩

theorem jb_digits {i j l : Nat} (hi : i ≤ 8) (hj : j ≤ 8) (hl : l ≤ 8) (x : Int32) (hx : x = -1 ∨ ∃ k, k < 3 ∧ x = nI k) :
    (if jU i j l = (-4 : Int32) then (some (-4 : Int32)) else (xl (jU i j l / (100 : Int32)) (fun (v1 : Int32) => xl ((jU i j l / (10 : Int32)) - (jU i j l / (10 : Int32)) / (10 : Int32) * (10 : Int32)) (fun (v2 : Int32) => xl (jU i j l - jU i j l / (10 : Int32) * (10 : Int32)) (fun (v3 : Int32) => if x = (0 : Int32) then (some v1) else (if x = (1 : Int32) then (some v2) else (if x = (2 : Int32) then (some v3) else (some ((v1 + v2) + v3))))))))) = some (jV x i j l) := by
  unfold jU
  rw [if_neg (jb_neg4 (by omega)), jl100, jl10, jn_rem (a := 100 * i + 10 * j + l) (d := 10) (by omega) (by decide) (by decide), pk_div (a := 100 * i + 10 * j + l) (d := 100) (by omega) (by decide) (by decide), pk_div (a := 100 * i + 10 * j + l) (d := 10) (by omega) (by decide) (by decide), jn_rem (a := (100 * i + 10 * j + l) / 10) (d := 10) (by omega) (by decide) (by decide), jp_xl, jp_xl, jp_xl, show (100 * i + 10 * j + l) / 100 = i by omega, show (100 * i + 10 * j + l) / 10 % 10 = j by omega, show (100 * i + 10 * j + l) % 10 = l by omega]
  unfold jV
  rcases hx with rfl | ⟨k, hk, rfl⟩
  · rw [if_neg (show ¬ (-1 : Int32) = 0 by decide), if_neg (show ¬ (-1 : Int32) = 1 by decide), if_neg (show ¬ (-1 : Int32) = 2 by decide), if_pos (show (-1 : Int32) = -1 from rfl), nI_add, nI_add]
  · rcases (show k = 0 ∨ k = 1 ∨ k = 2 by omega) with rfl | rfl | rfl
    · rw [if_pos (show nI 0 = (0 : Int32) from rfl), if_neg (show ¬ nI 0 = (-1 : Int32) by decide), if_pos (show nI 0 = (0 : Int32) from rfl)]
    · rw [if_neg (show ¬ nI 1 = (0 : Int32) by decide), if_pos (show nI 1 = (1 : Int32) from rfl), if_neg (show ¬ nI 1 = (-1 : Int32) by decide), if_neg (show ¬ nI 1 = (0 : Int32) by decide), if_pos (show nI 1 = (1 : Int32) from rfl)]
    · rw [if_neg (show ¬ nI 2 = (0 : Int32) by decide), if_neg (show ¬ nI 2 = (1 : Int32) by decide), if_pos (show nI 2 = (2 : Int32) from rfl), if_neg (show ¬ nI 2 = (-1 : Int32) by decide), if_neg (show ¬ nI 2 = (0 : Int32) by decide), if_neg (show ¬ nI 2 = (1 : Int32) by decide)]
theorem jop_16 (x : jX) (y : jM) (v : Nat → Int32) (h : jRel x y) : ∃ (o1 : Int32 × jX) (o2 : Int32 × jM), jh 4000 16 x v = some o1 ∧ jm 4000 16 y v = some o2 ∧ o1.1 = o2.1 ∧ jRel o1.2 o2.2 := by
  refine jop_ro (x := x) (y := y) (a := jf_H_tell 4000 _ _ _ _ _ _ (v 1) (v 2) (v 3)) (b := jf_M_tell 4000 _ _ _ _ (v 1) (v 2) (v 3)) ?_ h
  obtain ⟨nm, nc, nk, hL, hF, hT, hS, hP, hK⟩ := h
  obtain ⟨hh, r1, r2⟩ := RPart_to hF
  obtain ⟨n, W, hW⟩ := RTop_of r2.2.2.2.2
  unfold jf_H_tell jf_M_tell
  rcases jl_cow hL (N := 4000) (v 1) with ⟨c, hc, ec, h3, h4⟩ | ⟨-, h3, h4⟩
  · rw [h3, h4, jp_xb, jp_xb, if_neg (show ¬ (1 : Int32) = 0 by decide), if_neg (show ¬ (1 : Int32) = 0 by decide)]
    rcases jb_both (v 2) 1 1023 (by decide) (by decide) with ⟨w, -, w2, wx, e1, e2⟩ | ⟨-, e1, e2⟩
    · rw [show jf_H_isWithin 4000 (v 2) (1 : Int32) (1023 : Int32) = some 1 from e1, show jf_M_in 4000 (Int32.toInt64 (v 2)) (1 : Int64) (1023 : Int64) = some 1 from e2, jp_xb, jp_xb, if_neg (show ¬ (1 : Int32) = 0 by decide), if_neg (show ¬ (1 : Int32) = 0 by decide)]
      have hc4 : c < 4 := Nat.lt_of_lt_of_le hc hL.1.2.2.2.1
      have hk3 : nk ≤ 3 := hL.1.2.2.2.2.2
      obtain ⟨kd, k1, k2, k3⟩ := jl_kind hL (N := 4000) hc
      obtain ⟨t, t1, t2, t3, t4⟩ := r2.2.2.2.1 c hc4
      have eH : ∃ best few, jSt (jC (v 2) kd t W) (fun i j l => i ≤ n 0 ∧ j ≤ n 1 ∧ l ≤ n 2) jU 24 best few ∧ jf_H_fewestCuts 4000 x.2.2.1.2.2.1 x.2.2.1.2.2.2.1 x.2.2.1.2.2.2.2.2.1 x.2.2.2.2.2.2.2.1.2.2.2.1 (v 1) (v 2) = some best := by
        obtain ⟨best, few, s1, s2⟩ := jb_tellH1 hW (told := x.2.2.1.2.2.1) (kinds := x.2.2.2.2.2.2.2.1.2.2.2.1) k1 t1 (v 2)
        refine ⟨best, few, s1, ?_⟩
        unfold jf_H_fewestCuts
        rw [ec, k2, jp_xb, jr_at hc4 (by decide), jp_xb, t3, s2]
      have eM : ∃ best few, jSt (jC (v 2) kd t W) (fun i j l => i ≤ n 0 ∧ j ≤ n 1 ∧ l ≤ n 2) (jV (v 3)) 100 best few ∧ jf_M_tell_35 4000 y.2.2.2.1 y.2.2.2.2.1 y.2.2.2.2.2.2.2.2.2.1 y.2.2.2.2.2.2.2.2.2.2.2.2.2.2.2.2.2.2.2.2.1 (v 1) (v 2) (v 3) = some best := by
        obtain ⟨best, few, s1, s2⟩ := jb_tellM1 hW (cows := y.2.2.2.1) hL.1.2.2.2.2.1 hk3 k1 hc4 k3 t1 t4 (v 2) (v 3)
        refine ⟨best, few, s1, ?_⟩
        have e15 : y.2.2.2.2.2.2.2.2.2.2.2.2.2.2.2.2.2.2.2.2.1 15 = nI (n 0) := (hW 0 (by decide)).2.2.2.1
        unfold jf_M_tell_35
        rw [show (15 : Int32) = nI 15 from rfl, jp_xr (show 15 < 93 by decide) (by decide), nI_clamp (show 15 < 2 ^ 31 by decide), e15, jp_xl, hL.2.2.2.1.2, ec, s2]
      obtain ⟨best1, few1, s1, p1⟩ := eH
      obtain ⟨best2, few2, s2, p2⟩ := eM
      have b0 := (hW 0 (by decide)).1
      have b1 := (hW 1 (by decide)).1
      have b2 := (hW 2 (by decide)).1
      have go : (v 3 = -1 ∨ ∃ k, k < 3 ∧ v 3 = nI k) → ∃ r, (if best1 = (-4 : Int32) then (some (-4 : Int32)) else (xl (best1 / (100 : Int32)) (fun (v1 : Int32) => xl ((best1 / (10 : Int32)) - (best1 / (10 : Int32)) / (10 : Int32) * (10 : Int32)) (fun (v2 : Int32) => xl (best1 - best1 / (10 : Int32) * (10 : Int32)) (fun (v3 : Int32) => if v 3 = (0 : Int32) then (some v1) else (if v 3 = (1 : Int32) then (some v2) else (if v 3 = (2 : Int32) then (some v3) else (some ((v1 + v2) + v3))))))))) = some r ∧ some best2 = some r := by
        intro hx
        rcases s1.same s2 (fun i j l hp => by omega) with ⟨e1, e2⟩ | ⟨i, j, l, hb, e1, e2⟩
        · rw [e1, e2]
          exact ⟨_, if_pos rfl, rfl⟩
        · rw [e1, e2]
          exact ⟨_, jb_digits hb.1 hb.2.1 hb.2.2 (v 3) hx, rfl⟩
      rcases jl_rick hL (N := 4000) (v 3) with ⟨k, hk, ek, h5, h6⟩ | ⟨hn, h5, h6⟩
      · have m1 : (-1 : Int32).toInt = -1 := by decide
        have g1 : ¬ v 3 < (-1 : Int32) := by
          rw [ek, Int32.lt_iff_toInt_lt, nI_toInt (by omega), m1]
          omega
        have g2 : v 3 < nI nk := by
          rw [ek]
          exact nI_lt hk (by omega)
        rw [if_neg g1, hL.2.2.2.1.1, if_pos g2, p1, jp_xb, if_neg (show ¬ v 3 = (-1 : Int32) by rw [ek]; exact fun z => nI_pos (n := k) (by omega) (by rw [z]; decide)), h6, jp_xb, if_neg (show ¬ (1 : Int32) = 0 by decide), p2]
        exact go (Or.inr ⟨k, by omega, ek⟩)
      · by_cases h7 : v 3 = (-1 : Int32)
        · have m1 : (-1 : Int32).toInt = -1 := by decide
          have g1 : ¬ v 3 < (-1 : Int32) := by
            rw [h7]
            decide
          have g2 : v 3 < nI nk := by
            rw [h7, Int32.lt_iff_toInt_lt, nI_toInt (by omega), m1]
            omega
          rw [if_neg g1, hL.2.2.2.1.1, if_pos g2, p1, jp_xb, if_pos h7, p2]
          exact go (Or.inl h7)
        · rw [if_neg h7, h6, jp_xb, if_pos (show (0 : Int32) = 0 from rfl)]
          by_cases h8 : v 3 < (-1 : Int32)
          · rw [if_pos h8]
            exact ⟨_, rfl, rfl⟩
          · rw [if_neg h8, hL.2.2.2.1.1]
            have h9 : ¬ v 3 < nI nk := by
              rcases pk_ix (v 3) (n := nk) (by omega) with g | g | ⟨j, hj, g⟩
              · refine absurd ?_ h7
                apply Int32.toInt_inj.mp
                have m1 : (-1 : Int32).toInt = -1 := by decide
                have m0 : (0 : Int32).toInt = 0 := by decide
                rw [Int32.lt_iff_toInt_lt, m0] at g
                rw [Int32.lt_iff_toInt_lt, m1] at h8
                rw [m1]
                omega
              · intro z
                rw [Int32.lt_iff_toInt_lt] at z
                rw [Int32.le_iff_toInt_le] at g
                omega
              · exact absurd g (hn j hj)
            rw [if_neg h9]
            exact ⟨_, rfl, rfl⟩
    · rw [show jf_H_isWithin 4000 (v 2) (1 : Int32) (1023 : Int32) = some 0 from e1, show jf_M_in 4000 (Int32.toInt64 (v 2)) (1 : Int64) (1023 : Int64) = some 0 from e2]
      exact ⟨_, rfl, rfl⟩
  · rw [h3, h4]
    exact ⟨_, rfl, rfl⟩

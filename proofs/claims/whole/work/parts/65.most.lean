section MOST
variable {nm nc nk : Nat} {gv : jLV} {mowers cows ricks weathers : Int32} {says words weather kindOf thatch : Nat → Int32}
theorem jb_most (hL : RLand nm nc nk gv mowers cows ricks weathers says words weather kindOf thatch) {told heights lw lwet lheat st : Nat → Int32} (hT : RTol nc told st) (hR : RRic nk heights lw lwet lheat st) {c : Nat} (hc : c < nc) (x2 : Int32) :
    ∃ t1 t2 : Int32 × Int32, t1 = t2 ∧ (∀ kx, jf_H_most_29 4000 told heights lw gv.2.2.2.1 gv.2.2.2.2.2.2.2.1 (nI nk) (nI c) x2 (-4 : Int32) (-4 : Int32) (0 : Int32) kx = kx t1) ∧ ∀ kx, jf_M_most_30 4000 cows (nI nk) kindOf st (nI c) x2 (-4 : Int32) (-4 : Int32) (0 : Int32) kx = kx t2 := by
  have hc4 : c < 4 := Nat.lt_of_lt_of_le hc hL.1.2.2.2.1
  have hk3 : nk ≤ 3 := hL.1.2.2.2.2.2
  obtain ⟨kd, k1, k2, k3⟩ := jl_kind hL (N := 4000) hc
  obtain ⟨t, t1, t2, t3, t4⟩ := hT c hc4
  unfold jf_H_most_29 jf_M_most_30
  refine xloop_relx (σ1 := Int32 × Int32 × Int32) (σ2 := Int32 × Int32 × Int32) (fun (kx1 : (Int32 × Int32) → Option Int32) (kh : (Int32 × Int32 × Int32) → Option (Int32)) q => jf_H_most_29B 4000 told heights lw gv.2.2.2.1 gv.2.2.2.2.2.2.2.1 (nI nk) (nI c) x2 q.1 q.2.1 q.2.2 kh kx1) (fun (kx2 : (Int32 × Int32) → Option Int32) (kh : (Int32 × Int32 × Int32) → Option (Int32)) q => jf_M_most_30B 4000 cows (nI nk) kindOf st (nI c) x2 q.1 q.2.1 q.2.2 kh kx2)
    (fun r q1 q2 => q1 = q2 ∧ ∃ (i : Nat) (b g : Int32), i + r = nk ∧ q1 = (b, g, nI i)) (fun t1 t2 => t1 = t2) ?_ nk 4000 4000 (-4, -4, 0) (-4, -4, 0) (by omega) (by omega) ⟨rfl, 0, -4, -4, by omega, rfl⟩
  intro r q1 q2 ⟨hq, i, b, g, hi, e⟩
  subst hq
  subst e
  by_cases hr : r = 0
  · refine Or.inr ⟨(b, g), (b, g), rfl, fun kx kh => ?_, fun kx kh => ?_⟩
    · unfold jf_H_most_29B
      rw [if_pos (nI_le (by omega) (by omega))]
    · unfold jf_M_most_30B
      rw [if_pos (nI_le (by omega) (by omega))]
  · obtain ⟨n, n1, n2, n3, n4, n5⟩ := hR i (by omega)
    by_cases h0 : n = 0
    · subst h0
      obtain ⟨u, u1, u2, u3⟩ := jb_hears k1 (show 0 < 1024 by decide) t1
      obtain ⟨z, z1, z2⟩ := jb_andc u1 (nI t ^^^ (-1 : Int32))
      refine Or.inl ⟨r - 1, (b, g, nI (i + 1)), _, by omega, ⟨rfl, i + 1, b, g, by omega, rfl⟩, fun kx kh => ?_, fun kx kh => ?_⟩
      · unfold jf_H_most_29B jf_H_most_90 jf_F_freshFor jf_F_wordsFromTop
        rw [if_neg (nI_ge (by omega) (by omega)), k2, jp_xb, jr_at hc4 (by decide), jp_xb, t3, jf_hei (by omega) n3, jp_xb, if_pos (show nI 0 ≤ (0 : Int32) from nI_le (Nat.le_refl _) (by decide)), jp_xb, show jf_H_heardBy 4000 (nI kd) (0 : Int32) (nI t) = some (nI u) from u2, jp_xb, jp_xb, z2, jb_bitCount z z1, jp_xb, jp_xb, if_pos (show nI 0 ≤ (0 : Int32) from nI_le (Nat.le_refl _) (by decide)), nI_1, jp_xl]
      · unfold jf_M_most_30B jf_M_most_123
        rw [if_neg (nI_ge (by omega) (by omega)), jl15, nI_add, jp_xr (show 15 + i < 93 by omega) (by decide), nI_clamp (show 15 + i < 2 ^ 31 by omega), n4, if_pos (show nI 0 ≤ (0 : Int32) from nI_le (Nat.le_refl _) (by decide)), nI_1, jp_xl]
    · obtain ⟨⟨w, w1, w2, w3⟩, -, -⟩ := n5 (n - 1) (by omega)
      obtain ⟨u, u1, u2, u3⟩ := jb_hears k1 w1 t1
      obtain ⟨z, z1, z2⟩ := jb_andc u1 (nI t ^^^ (-1 : Int32))
      have eM : jf_M_top 4000 st (nI i) = some (nI w) := by
        unfold jf_M_top
        rw [jl15, nI_add, jp_xr (show 15 + i < 93 by omega) (by decide), nI_clamp (show 15 + i < 2 ^ 31 by omega), n4, jl21, jl8, pk_mul, nI_add, nI_add, jl1, jn_sub (by omega), show 21 + 8 * i + n - 1 = 21 + (8 * i + (n - 1)) by omega, jp_xr (show 21 + (8 * i + (n - 1)) < 93 by omega) (by decide), nI_clamp (show 21 + (8 * i + (n - 1)) < 2 ^ 31 by omega), w3]
      have eF : jf_F_freshFor 4000 told heights lw (nI i) (nI c) (nI kd) = some (nI z) := by
        unfold jf_F_freshFor jf_F_wordsFromTop
        rw [jr_at hc4 (by decide), jp_xb, t3, jf_hei (by omega) n3, jp_xb, if_neg (nI_nle (by omega) (by omega)), jp_xb, jl1, jl0, jn_sub (by omega), jn_sub (by omega), Nat.sub_zero, jf_wor (by omega) (by omega), jp_xb, w2, jp_xb, u2, jp_xb]
        exact congrArg some z2
      have hM : ∀ (kx : (Int32 × Int32) → Option Int32) (kh : (Int32 × Int32 × Int32) → Option Int32), jf_M_most_30B 4000 cows (nI nk) kindOf st (nI c) x2 b g (nI i) kh kx = if nI (jO z) ≤ g then kh (b, g, nI (i + 1)) else kh (nI i, nI (jO z), nI (i + 1)) := by
        intro kx kh
        unfold jf_M_most_30B jf_M_most_106 jf_M_most_121 jf_M_most_123
        rw [if_neg (nI_ge (by omega) (by omega)), jl15, nI_add, jp_xr (show 15 + i < 93 by omega) (by decide), nI_clamp (show 15 + i < 2 ^ 31 by omega), n4, if_neg (nI_nle (by omega) (by omega)), jp_xr hc4 (by decide), nI_clamp (show c < 2 ^ 31 by omega), k3, eM, jp_xb, jl11, nI_add, jp_xr (show 11 + c < 93 by omega) (by decide), nI_clamp (show 11 + c < 2 ^ 31 by omega), t4, u3, jp_xb, jp_xr (show 11 + c < 93 by omega) (by decide), z2, jb_ones z z1, jp_xb, nI_1]
        by_cases h1 : nI (jO z) ≤ g
        · rw [if_pos h1, if_pos h1, if_pos h1, jp_xl]
        · rw [if_neg h1, if_neg h1, if_neg h1, jp_xl]
      have hH : ∀ (kx : (Int32 × Int32) → Option Int32) (kh : (Int32 × Int32 × Int32) → Option Int32), jf_H_most_29B 4000 told heights lw gv.2.2.2.1 gv.2.2.2.2.2.2.2.1 (nI nk) (nI c) x2 b g (nI i) kh kx = if nI (jO z) ≤ g then kh (b, g, nI (i + 1)) else kh (nI i, nI (jO z), nI (i + 1)) := by
        intro kx kh
        unfold jf_H_most_29B jf_H_most_90
        rw [if_neg (nI_ge (by omega) (by omega)), k2, jp_xb, eF, jp_xb, jb_bitCount z z1, jp_xb, jf_hei (by omega) n3, jp_xb, if_neg (nI_nle (by omega) (by omega)), nI_1, jp_xl, jp_xl]
      by_cases h1 : nI (jO z) ≤ g
      · exact Or.inl ⟨r - 1, (b, g, nI (i + 1)), _, by omega, ⟨rfl, i + 1, b, g, by omega, rfl⟩, fun kx kh => (hH kx kh).trans (if_pos h1), fun kx kh => (hM kx kh).trans (if_pos h1)⟩
      · exact Or.inl ⟨r - 1, (nI i, nI (jO z), nI (i + 1)), _, by omega, ⟨rfl, i + 1, _, _, by omega, rfl⟩, fun kx kh => (hH kx kh).trans (if_neg h1), fun kx kh => (hM kx kh).trans (if_neg h1)⟩
end MOST
theorem jop_18 (x : jX) (y : jM) (v : Nat → Int32) (h : jRel x y) : ∃ (o1 : Int32 × jX) (o2 : Int32 × jM), jh 4000 18 x v = some o1 ∧ jm 4000 18 y v = some o2 ∧ o1.1 = o2.1 ∧ jRel o1.2 o2.2 := by
  refine jop_ro (x := x) (y := y) (a := jf_H_most 4000 _ _ _ _ _ _ (v 1) (v 2)) (b := jf_M_most 4000 _ _ _ _ (v 1) (v 2)) ?_ h
  obtain ⟨nm, nc, nk, hL, hF, hT, hS, hP, hK⟩ := h
  obtain ⟨hh, r1, r2⟩ := RPart_to hF
  unfold jf_H_most jf_M_most
  rcases jl_cow hL (N := 4000) (v 1) with ⟨c, hc, ec, h3, h4⟩ | ⟨-, h3, h4⟩
  · rw [h3, h4, jp_xb, jp_xb, if_neg (show ¬ (1 : Int32) = 0 by decide), if_neg (show ¬ (1 : Int32) = 0 by decide)]
    rcases jb_both (v 2) 0 1 (by decide) (by decide) with ⟨w, -, w2, wx, e1, e2⟩ | ⟨-, e1, e2⟩
    · rw [show jf_H_isWithin 4000 (v 2) (0 : Int32) (1 : Int32) = some 1 from e1, show jf_M_in 4000 (Int32.toInt64 (v 2)) (0 : Int64) (1 : Int64) = some 1 from e2, jp_xb, jp_xb, if_neg (show ¬ (1 : Int32) = 0 by decide), if_neg (show ¬ (1 : Int32) = 0 by decide)]
      obtain ⟨t1, t2, e, p1, p2⟩ := jb_most hL r2.2.2.2.1 r2.2.2.2.2 hc (v 2)
      subst e
      rw [hL.2.2.2.1.1, hL.2.2.2.1.2, ec, p1, p2]
      unfold jf_H_most_96 jf_M_most_129
      by_cases h0 : v 2 = 0
      · rw [if_pos h0]
        exact ⟨_, rfl, rfl⟩
      · rw [if_neg h0]
        exact ⟨_, rfl, rfl⟩
    · rw [show jf_H_isWithin 4000 (v 2) (0 : Int32) (1 : Int32) = some 0 from e1, show jf_M_in 4000 (Int32.toInt64 (v 2)) (0 : Int64) (1 : Int64) = some 0 from e2]
      exact ⟨_, rfl, rfl⟩
  · rw [h3, h4]
    exact ⟨_, rfl, rfl⟩

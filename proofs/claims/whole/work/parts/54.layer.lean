/-! layers, counts -/
theorem jm_in0 {N : Nat} (x : Int32) : jf_M_in N (Int32.toInt64 x) (0 : Int64) (Int32.toInt64 (nI 0 - (1 : Int32))) = some 0 := by
  unfold jf_M_in
  by_cases h : lg_cmp (Int32.toInt64 x) 0 < 0
  · rw [if_pos h]
  · rw [if_neg h, if_pos]
    rw [jn_cmp_lt, Int64.lt_iff_toInt_lt] at h
    rw [jn_cmp_gt, Int64.lt_iff_toInt_lt, show Int32.toInt64 (nI 0 - (1 : Int32)) = (-1 : Int64) by decide]
    have e1 : (0 : Int64).toInt = 0 := by decide
    have e2 : (-1 : Int64).toInt = -1 := by decide
    omega
theorem jb_lay {N n : Nat} (hn : n ≤ 8) (x : Int32) : (∃ j, j < n ∧ x = nI j ∧ jf_M_in N (Int32.toInt64 x) (0 : Int64) (Int32.toInt64 (nI n - (1 : Int32))) = some 1) ∨ ((x < 0 ∨ ¬ x < nI n) ∧ jf_M_in N (Int32.toInt64 x) (0 : Int64) (Int32.toInt64 (nI n - (1 : Int32))) = some 0) := by
  have le_not : ∀ y : Int32, y ≤ x → ¬ x < y := by
    intro y h1 h2
    rw [Int32.le_iff_toInt_le] at h1
    rw [Int32.lt_iff_toInt_lt] at h2
    omega
  by_cases h0 : n = 0
  · subst h0
    refine Or.inr ⟨?_, jm_in0 x⟩
    by_cases hx : x < 0
    · exact Or.inl hx
    · exact Or.inr hx
  · have e : Int32.toInt64 (nI n - (1 : Int32)) = lN (n - 1) := by rw [jl1, jn_sub (by omega), nI_l (by omega)]
    rw [e]
    rcases jm_in (N := N) x 0 (n - 1) (by omega) (by omega) with ⟨j, -, hj, rfl, h⟩ | ⟨hn2, h⟩
    · exact Or.inl ⟨j, by omega, rfl, h⟩
    · refine Or.inr ⟨?_, h⟩
      rcases pk_ix x (n := n) (by omega) with h3 | h3 | ⟨j, hj, hx⟩
      · exact Or.inl h3
      · exact Or.inr (le_not _ h3)
      · exact absurd hx (hn2 j (Nat.zero_le _) (by omega))
theorem jop_7 (x : jX) (y : jM) (v : Nat → Int32) (h : jRel x y) : ∃ (o1 : Int32 × jX) (o2 : Int32 × jM), jh 4000 7 x v = some o1 ∧ jm 4000 7 y v = some o2 ∧ o1.1 = o2.1 ∧ jRel o1.2 o2.2 := by
  refine jop_ro (x := x) (y := y) (a := jf_H_layer 4000 _ _ _ _ _ (v 1) (v 2) (v 3)) (b := jf_M_layer 4000 _ _ (v 1) (v 2) (v 3)) ?_ h
  obtain ⟨nm, nc, nk, hL, hF, hT, hS, hP, hK⟩ := h
  unfold jf_H_layer jf_M_layer
  rcases jl_rick hL (N := 4000) (v 1) with ⟨k, hk, ek, h1, h2⟩ | ⟨-, h1, h2⟩
  · have hk3 : k < 3 := Nat.lt_of_lt_of_le hk hL.1.2.2.2.2.2
    obtain ⟨n, n1, -, n3, n4, n5⟩ := hF.2.2.2 k hk3
    rw [h1, h2, jp_xb, jp_xb, if_neg (show ¬ (1 : Int32) = 0 by decide), if_neg (show ¬ (1 : Int32) = 0 by decide), ek, jf_hei hk3 n3, jp_xb, jl15, nI_add, jp_xr (by omega) (by decide), nI_clamp (by omega), n4]
    rcases jb_lay (N := 4000) n1 (v 2) with ⟨i, hi, ei, h3⟩ | ⟨hbad, h3⟩
    · obtain ⟨⟨w, w1, w2, w3⟩, ⟨d, d1, d2, d3⟩, t, t1, t2, t3⟩ := n5 i hi
      rw [h3, jp_xb, if_neg (show ¬ (1 : Int32) = 0 by decide), ei, if_neg (nI_pos (by omega)), if_pos (nI_lt hi (by omega)), jf_wor hk3 (by omega), jf_wet hk3 (by omega), jf_hea hk3 (by omega), jp_xb, jp_xb, jp_xb, w2, d2, t2, jl8, pk_mul, nI_add, jp_xl, jl21, nI_add, jl45, nI_add, jl69, nI_add, jp_xr (show 21 + (8 * k + i) < 93 by omega) (by decide), jp_xr (show 45 + (8 * k + i) < 93 by omega) (by decide), jp_xr (show 69 + (8 * k + i) < 93 by omega) (by decide), nI_clamp (show 21 + (8 * k + i) < 2 ^ 31 by omega), nI_clamp (show 45 + (8 * k + i) < 2 ^ 31 by omega), nI_clamp (show 69 + (8 * k + i) < 2 ^ 31 by omega), w3, d3, t3]
      rcases jm_in (N := 4000) (v 3) 0 2 (by decide) (by decide) with ⟨j, -, hj, ej, h4⟩ | ⟨hn, h4⟩
      · rw [show jf_M_in 4000 (Int32.toInt64 (v 3)) (0 : Int64) (2 : Int64) = some 1 from h4, jp_xb, if_neg (show ¬ (1 : Int32) = 0 by decide), ej]
        rcases (show j = 0 ∨ j = 1 ∨ j = 2 by omega) with rfl | rfl | rfl
        · exact ⟨nI w, rfl, rfl⟩
        · exact ⟨nI d, rfl, rfl⟩
        · exact ⟨nI t, rfl, rfl⟩
      · rw [show jf_M_in 4000 (Int32.toInt64 (v 3)) (0 : Int64) (2 : Int64) = some 0 from h4, jp_xb, if_pos rfl, if_neg (show ¬ v 3 = 0 from hn 0 (by omega) (by omega)), if_neg (show ¬ v 3 = 1 from hn 1 (by omega) (by omega)), if_neg (show ¬ v 3 = 2 from hn 2 (by omega) (by omega))]
        exact ⟨_, rfl, rfl⟩
    · rw [h3, jp_xb, if_pos (show (0 : Int32) = 0 from rfl)]
      rcases hbad with hbad | hbad
      · rw [if_pos hbad]
        exact ⟨_, rfl, rfl⟩
      · rw [if_neg hbad, ite_self]
        exact ⟨_, rfl, rfl⟩
  · rw [h1, h2, jp_xb, jp_xb, if_pos (show (0 : Int32) = 0 from rfl), if_pos (show (0 : Int32) = 0 from rfl)]
    exact ⟨_, rfl, rfl⟩

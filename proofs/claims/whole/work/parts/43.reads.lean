theorem jz0 : Int32.toNatClampNeg (0 : Int32) = 0 := rfl
theorem jL0 : (0 : Int64) = lN 0 := rfl
theorem jL1 : (1 : Int64) = lN 1 := rfl
theorem jL2 : (2 : Int64) = lN 2 := rfl
theorem jL3 : (3 : Int64) = lN 3 := rfl
theorem jL8 : (8 : Int64) = lN 8 := rfl
theorem jL9 : (9 : Int64) = lN 9 := rfl
theorem jL10 : (10 : Int64) = lN 10 := rfl
theorem jL24 : (24 : Int64) = lN 24 := rfl
theorem jL40 : (40 : Int64) = lN 40 := rfl
theorem jL60 : (60 : Int64) = lN 60 := rfl
theorem jL99 : (99 : Int64) = lN 99 := rfl
theorem jL1023 : (1023 : Int64) = lN 1023 := rfl
theorem jL9999 : (9999 : Int64) = lN 9999 := rfl
theorem jf_hei {N k n : Nat} {heights : Nat → Int32} (hk : k < 3) (h : heights k = nI n) : jf_F_heightOf N heights (nI k) = some (nI n) := by
  unfold jf_F_heightOf
  rw [jr_at hk (by decide), jp_xb, h]
theorem jf_wor {N k i : Nat} {f : Nat → Int32} (hk : k < 3) (hi : i < 8) : jf_F_wordsOf N f (nI k) (nI i) = some (f (8 * k + i)) := by
  unfold jf_F_wordsOf
  rw [jl8, pk_mul, nI_add, jr_at (by omega) (by decide), jp_xb, Nat.mul_comm k 8]
theorem jf_wet {N k i : Nat} {f : Nat → Int32} (hk : k < 3) (hi : i < 8) : jf_F_wetnessOf N f (nI k) (nI i) = some (f (8 * k + i)) := by
  unfold jf_F_wetnessOf
  rw [jl8, pk_mul, nI_add, jr_at (by omega) (by decide), jp_xb, Nat.mul_comm k 8]
theorem jf_hea {N k i : Nat} {f : Nat → Int32} (hk : k < 3) (hi : i < 8) : jf_F_heatOf N f (nI k) (nI i) = some (f (8 * k + i)) := by
  unfold jf_F_heatOf
  rw [jl8, pk_mul, nI_add, jr_at (by omega) (by decide), jp_xb, Nat.mul_comm k 8]
/-- the hottest layer of a rick -/
theorem jf_hot {N k n : Nat} {heights heat st : Nat → Int32} {t : Nat → Nat} (hN : 8 < N) (hk : k < 3) (hn : n ≤ 8) (e1 : heights k = nI n) (e2 : st (15 + k) = nI n) (e3 : ∀ i, i < n → heat (8 * k + i) = nI (t i) ∧ st (69 + (8 * k + i)) = nI (t i) ∧ t i < 2 ^ 20) :
    ∃ T : Nat, T < 2 ^ 20 ∧ (∀ i, i < n → t i ≤ T) ∧ (T = 0 ∨ ∃ i, i < n ∧ T = t i) ∧ jf_F_hottestOf N heights heat (nI k) = some (nI T) ∧ jf_M_hottest N st (nI k) = some (nI T) := by
  unfold jf_F_hottestOf jf_M_hottest jf_F_hottestOf_4 jf_M_hottest_4
  have key := xloop_rel (σ1 := Int32 × Int32) (σ2 := Int32 × Int32) (fun (kh : (Int32 × Int32) → Option (Int32)) q => jf_F_hottestOf_4B N heights heat (nI k) q.1 q.2 kh) (fun (kh : (Int32 × Int32) → Option (Int32)) q => jf_M_hottest_4B N st (nI k) q.1 q.2 kh)
    (fun r q1 q2 => q1 = q2 ∧ ∃ i T : Nat, i + r = n ∧ q1 = (nI T, nI i) ∧ T < 2 ^ 20 ∧ (∀ j, j < i → t j ≤ T) ∧ (T = 0 ∨ ∃ j, j < i ∧ T = t j))
    (fun o1 o2 => ∃ T : Nat, T < 2 ^ 20 ∧ (∀ i, i < n → t i ≤ T) ∧ (T = 0 ∨ ∃ i, i < n ∧ T = t i) ∧ o1 = some (nI T) ∧ o2 = some (nI T)) ?_ n N N (0, 0) (0, 0) (by omega) (by omega) ⟨rfl, 0, 0, by omega, rfl, by decide, fun j hj => by omega, Or.inl rfl⟩
  · exact key
  · intro r q1 q2 ⟨hq, i, T, hi, e, hT, h1, h2⟩
    subst hq
    subst e
    by_cases hr : r = 0
    · have hi : i = n := by omega
      subst hi
      refine Or.inr ⟨some (nI T), some (nI T), ⟨T, hT, h1, h2, rfl, rfl⟩, fun kh => ?_, fun kh => ?_⟩
      · unfold jf_F_hottestOf_4B
        rw [jf_hei hk e1, jp_xb, if_pos (nI_le (Nat.le_refl _) (by omega))]
      · unfold jf_M_hottest_4B
        rw [jl15, nI_add, jp_xr (by omega) (by decide), nI_clamp (by omega), e2, if_pos (nI_le (Nat.le_refl _) (by omega))]
    · obtain ⟨g1, g2, g3⟩ := e3 i (by omega)
      refine Or.inl ⟨r - 1, (nI (if T < t i then t i else T), nI (i + 1)), _, by omega, ⟨rfl, i + 1, _, by omega, rfl, by split <;> assumption, fun j hj => ?_, ?_⟩, fun kh => ?_, fun kh => ?_⟩
      · by_cases hj2 : j = i
        · subst hj2
          split <;> omega
        · have := h1 j (by omega)
          split <;> omega
      · split
        · exact Or.inr ⟨i, by omega, rfl⟩
        · rcases h2 with h2 | ⟨j, hj, h2⟩
          · exact Or.inl h2
          · exact Or.inr ⟨j, by omega, h2⟩
      · unfold jf_F_hottestOf_4B
        rw [jf_hei hk e1, jp_xb, if_neg (nI_ge (by omega) (by omega)), jf_hea hk (by omega), jp_xb, g1, jp_xl, jn_ite_lt (by omega) (by omega), jp_xl, nI_1]
        by_cases hc : T < t i
        · rw [if_pos hc, if_pos hc]
        · rw [if_neg hc, if_neg hc]
      · unfold jf_M_hottest_4B jf_M_hottest_45
        rw [jl15, nI_add, jp_xr (by omega) (by decide), nI_clamp (by omega), e2, if_neg (nI_ge (by omega) (by omega)), jl69, jl8, pk_mul, nI_add, nI_add, jp_xr (by omega) (by decide), jp_xl, nI_clamp (by omega), Nat.add_assoc 69, g2, jp_xl, jp_xl, nI_1, jn_ite_le (by omega) (by omega)]
        by_cases hc : T < t i
        · rw [if_neg (by omega), if_pos hc]
        · rw [if_pos (by omega), if_neg hc]
section FIELD
variable {H nc nk : Nat} {fv : jFV} {st : Nat → Int32}
theorem jf_hotF (h : RField H nc nk fv st) {N k : Nat} (hN : 8 < N) (hk : k < 3) : ∃ T : Nat, T < 40 ∧ jf_F_hottestOf N fv.2.2.2.1 fv.2.2.2.2.2.2.2.1 (nI k) = some (nI T) ∧ jf_M_hottest N st (nI k) = some (nI T) := by
  obtain ⟨n, h1, h2, h3, h4, h5⟩ := h.2.2.2 k hk
  have h6 : ∀ i, ∃ t, i < n → t < 40 ∧ fv.2.2.2.2.2.2.2.1 (8 * k + i) = nI t ∧ st (69 + (8 * k + i)) = nI t := by
    intro i
    by_cases hi : i < n
    · obtain ⟨t, ht⟩ := (h5 i hi).2.2
      exact ⟨t, fun _ => ht⟩
    · exact ⟨0, fun q => absurd q hi⟩
  obtain ⟨t, ht⟩ := Classical.axiomOfChoice h6
  obtain ⟨T, g1, g2, g3, g4, g5⟩ := jf_hot (heat := fv.2.2.2.2.2.2.2.1) (t := t) hN hk h1 h3 h4 (fun i hi => ⟨(ht i hi).2.1, (ht i hi).2.2, by have := (ht i hi).1; omega⟩)
  refine ⟨T, ?_, g4, g5⟩
  rcases g3 with g3 | ⟨i, hi, g3⟩
  · omega
  · have := (ht i hi).1
    omega
end FIELD
theorem jop_4 (x : jX) (y : jM) (v : Nat → Int32) (h : jRel x y) : ∃ (o1 : Int32 × jX) (o2 : Int32 × jM), jh 4000 4 x v = some o1 ∧ jm 4000 4 y v = some o2 ∧ o1.1 = o2.1 ∧ jRel o1.2 o2.2 := by
  refine jop_ro (x := x) (y := y) (a := jf_H_mower 4000 _ _ _ _ _ _ (v 1) (v 2)) (b := jf_M_mower 4000 _ _ _ _ (v 1) (v 2)) ?_ h
  obtain ⟨nm, nc, nk, hL, hF, hT, hS, hP, hK⟩ := h
  obtain ⟨hh, f1, f2, f3, f4⟩ := hF.1
  rcases jl_mower hL (N := 4000) (v 1) with ⟨j, hj, e, h1, h2⟩ | ⟨-, h1, h2⟩
  · have hj5 : j < 5 := Nat.lt_of_lt_of_le hj hL.1.2.1
    obtain ⟨⟨w, w1, w2, w3⟩, d, d1, d2, d3⟩ := hF.2.1 j hj5
    obtain ⟨z, z1, z2, z3⟩ := jl_word hL (N := 4000) hj (t := hh) (by omega)
    rcases jm_in (N := 4000) (v 2) 0 2 (by decide) (by decide) with ⟨i, -, hi, ei, h3⟩ | ⟨hn, h3⟩
    · rcases (show i = 0 ∨ i = 1 ∨ i = 2 by omega) with rfl | rfl | rfl
      · refine ⟨nI z, ?_, ?_⟩
        · unfold jf_H_mower
          rw [h1, jp_xb, if_neg (by decide), ei, if_pos (by decide), e, f2, z2, jp_xb]
        · unfold jf_M_mower
          rw [h2, jp_xb, if_neg (by decide), jL0, jL2, h3, jp_xb, if_neg (by decide), ei, if_pos (by decide), jp_xr0 (by decide) (by decide), jz0, f3, e, z3, jp_xb]
      · refine ⟨nI w, ?_, ?_⟩
        · unfold jf_H_mower
          rw [h1, jp_xb, if_neg (by decide), ei, if_neg (by decide), if_pos (by decide), e, jr_at hj5 (by decide), jp_xb, w2]
        · unfold jf_M_mower
          rw [h2, jp_xb, if_neg (by decide), jL0, jL2, h3, jp_xb, if_neg (by decide), ei, if_neg (by decide), if_pos (by decide), e, jl1, nI_add, jp_xr (by omega) (by decide), nI_clamp (by omega), w3]
      · refine ⟨nI d, ?_, ?_⟩
        · unfold jf_H_mower
          rw [h1, jp_xb, if_neg (by decide), ei, if_neg (by decide), if_neg (by decide), if_pos (by decide), e, jr_at hj5 (by decide), jp_xb, d2]
        · unfold jf_M_mower
          rw [h2, jp_xb, if_neg (by decide), jL0, jL2, h3, jp_xb, if_neg (by decide), ei, if_neg (by decide), if_neg (by decide), e, jl6, nI_add, jp_xr (by omega) (by decide), nI_clamp (by omega), d3]
    · refine ⟨-1, ?_, ?_⟩
      · unfold jf_H_mower
        rw [h1, jp_xb, if_neg (by decide), if_neg (show ¬ v 2 = 0 from hn 0 (by omega) (by omega)), if_neg (show ¬ v 2 = 1 from hn 1 (by omega) (by omega)), if_neg (show ¬ v 2 = 2 from hn 2 (by omega) (by omega))]
      · unfold jf_M_mower
        rw [h2, jp_xb, if_neg (by decide), jL0, jL2, h3, jp_xb, if_pos rfl]
  · refine ⟨-1, ?_, ?_⟩
    · unfold jf_H_mower
      rw [h1, jp_xb, if_pos rfl]
    · unfold jf_M_mower
      rw [h2, jp_xb, if_pos rfl]
theorem jop_5 (x : jX) (y : jM) (v : Nat → Int32) (h : jRel x y) : ∃ (o1 : Int32 × jX) (o2 : Int32 × jM), jh 4000 5 x v = some o1 ∧ jm 4000 5 y v = some o2 ∧ o1.1 = o2.1 ∧ jRel o1.2 o2.2 := by
  refine jop_ro (x := x) (y := y) (a := jf_H_cow 4000 _ _ _ (v 1) (v 2)) (b := jf_M_cow 4000 _ _ _ (v 1) (v 2)) ?_ h
  obtain ⟨nm, nc, nk, hL, hF, hT, hS, hP, hK⟩ := h
  rcases jl_cow hL (N := 4000) (v 1) with ⟨j, hj, e, h1, h2⟩ | ⟨-, h1, h2⟩
  · have hj5 : j < 4 := Nat.lt_of_lt_of_le hj hL.1.2.2.2.1
    obtain ⟨w, w1, -, w2, w3⟩ := hF.2.2.1 j hj5
    obtain ⟨z, z1, z2, z3⟩ := jl_kind hL (N := 4000) hj
    rcases jm_in (N := 4000) (v 2) 0 1 (by decide) (by decide) with ⟨i, -, hi, ei, h3⟩ | ⟨hn, h3⟩
    · rcases (show i = 0 ∨ i = 1 by omega) with rfl | rfl
      · refine ⟨nI z, ?_, ?_⟩
        · unfold jf_H_cow
          rw [h1, jp_xb, if_neg (by decide), ei, if_pos (by decide), e, z2, jp_xb]
        · unfold jf_M_cow
          rw [h2, jp_xb, if_neg (by decide), jL0, jL1, h3, jp_xb, if_neg (by decide), ei, if_pos (by decide), e, jp_xr hj5 (by decide), nI_clamp (by omega), z3]
      · refine ⟨nI w, ?_, ?_⟩
        · unfold jf_H_cow
          rw [h1, jp_xb, if_neg (by decide), ei, if_neg (by decide), if_pos (by decide), e, jr_at hj5 (by decide), jp_xb, w2]
        · unfold jf_M_cow
          rw [h2, jp_xb, if_neg (by decide), jL0, jL1, h3, jp_xb, if_neg (by decide), ei, if_neg (by decide), e, jl11, nI_add, jp_xr (by omega) (by decide), nI_clamp (by omega), w3]
    · refine ⟨-1, ?_, ?_⟩
      · unfold jf_H_cow
        rw [h1, jp_xb, if_neg (by decide), if_neg (show ¬ v 2 = 0 from hn 0 (by omega) (by omega)), if_neg (show ¬ v 2 = 1 from hn 1 (by omega) (by omega))]
      · unfold jf_M_cow
        rw [h2, jp_xb, if_neg (by decide), jL0, jL1, h3, jp_xb, if_pos rfl]
  · refine ⟨-1, ?_, ?_⟩
    · unfold jf_H_cow
      rw [h1, jp_xb, if_pos rfl]
    · unfold jf_M_cow
      rw [h2, jp_xb, if_pos rfl]
theorem jop_6 (x : jX) (y : jM) (v : Nat → Int32) (h : jRel x y) : ∃ (o1 : Int32 × jX) (o2 : Int32 × jM), jh 4000 6 x v = some o1 ∧ jm 4000 6 y v = some o2 ∧ o1.1 = o2.1 ∧ jRel o1.2 o2.2 := by
  refine jop_ro (x := x) (y := y) (a := jf_H_rick 4000 _ _ _ _ _ (v 1) (v 2)) (b := jf_M_rick 4000 _ _ _ (v 1) (v 2)) ?_ h
  obtain ⟨nm, nc, nk, hL, hF, hT, hS, hP, hK⟩ := h
  obtain ⟨hh, f1, f2, f3, f4⟩ := hF.1
  rcases jl_rick hL (N := 4000) (v 1) with ⟨j, hj, e, h1, h2⟩ | ⟨-, h1, h2⟩
  · have hj5 : j < 3 := Nat.lt_of_lt_of_le hj hL.1.2.2.2.2.2
    obtain ⟨n, n1, -, n2, n3, -⟩ := hF.2.2.2 j hj5
    obtain ⟨z, z1, z2, z3⟩ := jl_thatch hL (N := 4000) hj
    obtain ⟨T, -, t1, t2⟩ := jf_hotF hF (N := 4000) (by decide) hj5
    obtain ⟨bb, -, b1, b2⟩ := f4 j hj5
    rcases jm_in (N := 4000) (v 2) 0 3 (by decide) (by decide) with ⟨i, -, hi, ei, h3⟩ | ⟨hn, h3⟩
    · rcases (show i = 0 ∨ i = 1 ∨ i = 2 ∨ i = 3 by omega) with rfl | rfl | rfl | rfl
      · refine ⟨nI z, ?_, ?_⟩
        · unfold jf_H_rick
          rw [h1, jp_xb, if_neg (by decide), ei, if_pos (by decide), e, z2, jp_xb]
        · unfold jf_M_rick
          rw [h2, jp_xb, if_neg (by decide), jL0, jL3, h3, jp_xb, if_neg (by decide), ei, if_pos (by decide), e, jp_xr hj5 (by decide), nI_clamp (by omega), z3]
      · refine ⟨nI n, ?_, ?_⟩
        · unfold jf_H_rick
          rw [h1, jp_xb, if_neg (by decide), ei, if_neg (by decide), if_pos (by decide), e, jf_hei hj5 n2, jp_xb]
        · unfold jf_M_rick
          rw [h2, jp_xb, if_neg (by decide), jL0, jL3, h3, jp_xb, if_neg (by decide), ei, if_neg (by decide), if_pos (by decide), e, jl15, nI_add, jp_xr (by omega) (by decide), nI_clamp (by omega), n3]
      · refine ⟨nI T, ?_, ?_⟩
        · unfold jf_H_rick
          rw [h1, jp_xb, if_neg (by decide), ei, if_neg (by decide), if_neg (by decide), if_pos (by decide), e, t1, jp_xb]
        · unfold jf_M_rick
          rw [h2, jp_xb, if_neg (by decide), jL0, jL3, h3, jp_xb, if_neg (by decide), ei, if_neg (by decide), if_neg (by decide), if_pos (by decide), e, t2, jp_xb]
      · refine ⟨nI bb, ?_, ?_⟩
        · unfold jf_H_rick
          rw [h1, jp_xb, if_neg (by decide), ei, if_neg (by decide), if_neg (by decide), if_neg (by decide), if_pos (by decide), e, jr_at hj5 (by decide), jp_xb, b1]
        · unfold jf_M_rick
          rw [h2, jp_xb, if_neg (by decide), jL0, jL3, h3, jp_xb, if_neg (by decide), ei, if_neg (by decide), if_neg (by decide), if_neg (by decide), e, jl18, nI_add, jp_xr (by omega) (by decide), nI_clamp (by omega), b2]
    · refine ⟨-1, ?_, ?_⟩
      · unfold jf_H_rick
        rw [h1, jp_xb, if_neg (by decide), if_neg (show ¬ v 2 = 0 from hn 0 (by omega) (by omega)), if_neg (show ¬ v 2 = 1 from hn 1 (by omega) (by omega)), if_neg (show ¬ v 2 = 2 from hn 2 (by omega) (by omega)), if_neg (show ¬ v 2 = 3 from hn 3 (by omega) (by omega))]
      · unfold jf_M_rick
        rw [h2, jp_xb, if_neg (by decide), jL0, jL3, h3, jp_xb, if_pos rfl]
  · refine ⟨-1, ?_, ?_⟩
    · unfold jf_H_rick
      rw [h1, jp_xb, if_pos rfl]
    · unfold jf_M_rick
      rw [h2, jp_xb, if_pos rfl]
/-- both checks of a range, at once -/
theorem jb_in {N : Nat} (x : Int32) (a b : Nat) (hb : b < 2 ^ 31) (ha : a < 2 ^ 31) : (∃ j : Nat, a ≤ j ∧ j ≤ b ∧ x = nI j ∧ jf_H_isWithin N x (nI a) (nI b) = some 1 ∧ jf_M_in N (Int32.toInt64 x) (lN a) (lN b) = some 1) ∨ ((∀ j : Nat, a ≤ j → j ≤ b → x ≠ nI j) ∧ jf_H_isWithin N x (nI a) (nI b) = some 0 ∧ jf_M_in N (Int32.toInt64 x) (lN a) (lN b) = some 0) := by
  rcases jh_within (N := N) x a b hb ha with ⟨j, j1, j2, jx, e1⟩ | ⟨j1, e1⟩ <;> rcases jm_in (N := N) x a b hb ha with ⟨j', j1', j2', jx', e2⟩ | ⟨j1', e2⟩
  · exact Or.inl ⟨j, j1, j2, jx, e1, e2⟩
  · exact absurd jx (j1' j j1 j2)
  · exact absurd jx' (j1 j' j1' j2')
  · exact Or.inr ⟨j1, e1, e2⟩
/-- a call that leaves both states as they were -/
theorem jop_st {x : jX} {y : jM} {F1 : Option (Int32 × jX)} {F2 : Option (Int32 × jM)} (h : jRel x y) (hr : ∃ r, F1 = some (r, x) ∧ F2 = some (r, y)) : ∃ (o1 : Int32 × jX) (o2 : Int32 × jM), F1 = some o1 ∧ F2 = some o2 ∧ o1.1 = o2.1 ∧ jRel o1.2 o2.2 := by
  obtain ⟨r, h1, h2⟩ := hr
  exact ⟨(r, x), (r, y), h1, h2, rfl, h⟩
theorem jop_22 (x : jX) (y : jM) (v : Nat → Int32) (h : jRel x y) : ∃ (o1 : Int32 × jX) (o2 : Int32 × jM), jh 4000 22 x v = some o1 ∧ jm 4000 22 y v = some o2 ∧ o1.1 = o2.1 ∧ jRel o1.2 o2.2 := by
  obtain ⟨nm, nc, nk, hL, hF, hT, hS, hP, hK⟩ := h
  obtain ⟨n, t1, t2, t3, t4⟩ := hS
  exact ⟨_, _, rfl, rfl, t2.trans t3.symm, nm, nc, nk, hL, hF, hT, ⟨0, by omega, rfl, rfl, fun j hj => by omega⟩, hP, hK⟩
theorem jh_see {N n : Nat} {w h : Nat → Int32} {a b : Nat} (hn : n < 6) (ha : a ≤ 9) (hb : b ≤ 99) : jf_H_see N w h (nI n) (nI a) (nI b) = some (nI (n + 1), upd w n (nI a), upd h n (nI b), nI (n + 1)) := by
  have e1 : jf_H_isWithin N (nI a) (nI 0) (nI 9) = some 1 := by
    rcases jh_within (N := N) (nI a) 0 9 (by decide) (by decide) with ⟨j, j1, j2, jx, e1⟩ | ⟨j1, e1⟩
    · exact e1
    · exact absurd rfl (j1 a (by omega) ha)
  have e2 : jf_H_isWithin N (nI b) (nI 0) (nI 99) = some 1 := by
    rcases jh_within (N := N) (nI b) 0 99 (by decide) (by decide) with ⟨j, j1, j2, jx, e1⟩ | ⟨j1, e1⟩
    · exact e1
    · exact absurd rfl (j1 b (by omega) hb)
  unfold jf_H_see jf_H_isWord jf_S_isFull jf_S_add
  rw [jl0, jl9, jl99, e1, jp_xb, jp_xo1, jp_xb, if_neg (by decide), e2, jp_xb, if_neg (by decide), jl6, if_pos (nI_lt hn (by decide)), jp_xb, if_pos rfl, jr_put hn (by decide), jp_xb, jr_put hn (by decide), jp_xb, jp_xl, nI_1, jp_xb]
theorem jop_21 (x : jX) (y : jM) (v : Nat → Int32) (h : jRel x y) : ∃ (o1 : Int32 × jX) (o2 : Int32 × jM), jh 4000 21 x v = some o1 ∧ jm 4000 21 y v = some o2 ∧ o1.1 = o2.1 ∧ jRel o1.2 o2.2 := by
  show ∃ (o1 : Int32 × jX) (o2 : Int32 × jM), jh_21 4000 x (v 1) (v 2) = some o1 ∧ jm_21 4000 y (v 1) (v 2) = some o2 ∧ o1.1 = o2.1 ∧ jRel o1.2 o2.2
  have h0 := h
  obtain ⟨nm, nc, nk, hL, hF, hT, hS, hP, hK⟩ := h
  obtain ⟨n, t1, t2, t3, t4⟩ := id hS
  unfold jh_21 jm_21
  rcases jb_in (N := 4000) (v 1) 0 9 (by decide) (by decide) with ⟨w, -, w1, w2, w3, w4⟩ | ⟨-, w3, w4⟩
  · rcases jb_in (N := 4000) (v 2) 0 99 (by decide) (by decide) with ⟨u, -, u1, u2, u3, u4⟩ | ⟨-, u3, u4⟩
    · by_cases hn : n = 6
      · subst hn
        have eH : jf_H_see 4000 x.2.2.2.2.1 x.2.2.2.2.2.1 x.2.2.2.2.2.2.1 (v 1) (v 2) = some (-3, x.2.2.2.2.1, x.2.2.2.2.2.1, x.2.2.2.2.2.2.1) := by
          unfold jf_H_see jf_H_isWord jf_S_isFull
          rw [jl0, jl9, w3, jp_xb, jp_xo1, jp_xb, if_neg (by decide), jl99, u3, jp_xb, if_neg (by decide), if_neg (show ¬ x.2.2.2.2.2.2.1 < 6 by rw [t2]; decide), jp_xb, if_neg (by decide)]
        have eM : jf_M_see 4000 y.2.2.2.2.2.2.2.2.2.2.2.2.2.2.2.2.2.2.2.2.2.2.2.2.1 y.2.2.2.2.2.2.2.2.2.2.2.2.2.2.2.2.2.2.2.2.2.2.2.2.2.1 y.2.2.2.2.2.2.2.2.2.2.2.2.2.2.2.2.2.2.2.2.2.2.2.2.2.2.1 (v 1) (v 2) = some (-3, y.2.2.2.2.2.2.2.2.2.2.2.2.2.2.2.2.2.2.2.2.2.2.2.2.1, y.2.2.2.2.2.2.2.2.2.2.2.2.2.2.2.2.2.2.2.2.2.2.2.2.2.1, y.2.2.2.2.2.2.2.2.2.2.2.2.2.2.2.2.2.2.2.2.2.2.2.2.2.2.1) := by
          unfold jf_M_see
          rw [jL0, jL9, w4, jp_xb, if_neg (by decide), jL99, u4, jp_xb, if_neg (by decide), if_pos (show _ = (6 : Int32) from t3)]
        rw [eH, eM, jp_xb, jp_xb]
        exact ⟨_, _, rfl, rfl, rfl, h0⟩
      · have eH : jf_H_see 4000 x.2.2.2.2.1 x.2.2.2.2.2.1 x.2.2.2.2.2.2.1 (v 1) (v 2) = some (nI (n + 1), upd x.2.2.2.2.1 n (nI w), upd x.2.2.2.2.2.1 n (nI u), nI (n + 1)) := by
          rw [t2, w2, u2, jh_see (by omega) w1 u1]
        have eM : jf_M_see 4000 y.2.2.2.2.2.2.2.2.2.2.2.2.2.2.2.2.2.2.2.2.2.2.2.2.1 y.2.2.2.2.2.2.2.2.2.2.2.2.2.2.2.2.2.2.2.2.2.2.2.2.2.1 y.2.2.2.2.2.2.2.2.2.2.2.2.2.2.2.2.2.2.2.2.2.2.2.2.2.2.1 (v 1) (v 2) = some (nI (n + 1), nI (n + 1), upd y.2.2.2.2.2.2.2.2.2.2.2.2.2.2.2.2.2.2.2.2.2.2.2.2.2.1 n (nI w), upd y.2.2.2.2.2.2.2.2.2.2.2.2.2.2.2.2.2.2.2.2.2.2.2.2.2.2.1 n (nI u)) := by
          unfold jf_M_see
          rw [jL0, jL9, w4, jp_xb, if_neg (by decide), jL99, u4, jp_xb, if_neg (by decide), t3, if_neg (show ¬ nI n = 6 from fun q => hn ((nI_eq (b := 6) (by omega) (by decide)).mp q)), jp_xr (by omega) (by decide), jp_xl, jp_xr (by omega) (by decide), jp_xl, jp_xl, nI_1, nI_clamp (by omega), w2, u2]
        rw [eH, eM, jp_xb, jp_xb]
        refine ⟨_, _, rfl, rfl, rfl, nm, nc, nk, hL, hF, hT, ⟨n + 1, by omega, rfl, rfl, fun i hi => ?_⟩, hP, hK⟩
        show (∃ z, z ≤ 9 ∧ upd x.2.2.2.2.1 n (nI w) i = nI z ∧ upd y.2.2.2.2.2.2.2.2.2.2.2.2.2.2.2.2.2.2.2.2.2.2.2.2.2.1 n (nI w) i = nI z) ∧ ∃ z, z ≤ 99 ∧ upd x.2.2.2.2.2.1 n (nI u) i = nI z ∧ upd y.2.2.2.2.2.2.2.2.2.2.2.2.2.2.2.2.2.2.2.2.2.2.2.2.2.2.1 n (nI u) i = nI z
        by_cases hi2 : i = n
        · subst hi2
          rw [upd_same, upd_same, upd_same, upd_same]
          exact ⟨⟨w, w1, rfl, rfl⟩, u, u1, rfl, rfl⟩
        · rw [upd_ne hi2, upd_ne hi2, upd_ne hi2, upd_ne hi2]
          exact t4 i (by omega)
    · refine jop_st h0 ⟨-1, ?_, ?_⟩
      · unfold jf_H_see jf_H_isWord
        rw [jl0, jl9, w3, jp_xb, jp_xo1, jp_xb, if_neg (by decide), jl99, u3, jp_xb, if_pos (by decide), jp_xb]
      · unfold jf_M_see
        rw [jL0, jL9, w4, jp_xb, if_neg (by decide), jL99, u4, jp_xb, if_pos rfl, jp_xb]
  · refine jop_st h0 ⟨-1, ?_, ?_⟩
    · unfold jf_H_see jf_H_isWord
      rw [jl0, jl9, w3, jp_xb, jp_xo0, jp_xb, if_pos (by decide), jp_xb]
    · unfold jf_M_see
      rw [jL0, jL9, w4, jp_xb, if_pos rfl, jp_xb]

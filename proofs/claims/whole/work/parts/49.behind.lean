theorem jb_both (x : Int32) (a b : Nat) (hb : b < 2 ^ 31) (ha : a < 2 ^ 31) : (∃ j : Nat, a ≤ j ∧ j ≤ b ∧ x = nI j ∧ jf_H_isWithin 4000 x (nI a) (nI b) = some 1 ∧ jf_M_in 4000 (Int32.toInt64 x) (lN a) (lN b) = some 1) ∨ ((∀ j : Nat, a ≤ j → j ≤ b → x ≠ nI j) ∧ jf_H_isWithin 4000 x (nI a) (nI b) = some 0 ∧ jf_M_in 4000 (Int32.toInt64 x) (lN a) (lN b) = some 0) := by
  rcases jh_within (N := 4000) x a b hb ha with ⟨j, j1, j2, jx, e1⟩ | ⟨j1, e1⟩
  · rcases jm_in (N := 4000) x a b hb ha with ⟨j', j1', j2', jx', e2⟩ | ⟨j1', e2⟩
    · exact Or.inl ⟨j, j1, j2, jx, e1, e2⟩
    · exact absurd jx (j1' j j1 j2)
  · rcases jm_in (N := 4000) x a b hb ha with ⟨j', j1', j2', jx', e2⟩ | ⟨j1', e2⟩
    · exact absurd jx' (j1 j' j1' j2')
    · exact Or.inr ⟨j1, e1, e2⟩
theorem jop_14 (x : jX) (y : jM) (v : Nat → Int32) (h : jRel x y) : ∃ (o1 : Int32 × jX) (o2 : Int32 × jM), jh 4000 14 x v = some o1 ∧ jm 4000 14 y v = some o2 ∧ o1.1 = o2.1 ∧ jRel o1.2 o2.2 := by
  obtain ⟨nm, nc, nk, hL, hF, hT, hS, hP, hK⟩ := h
  show ∃ (o1 : Int32 × jX) (o2 : Int32 × jM), jh_14 4000 x (v 1) (v 2) (v 3) = some o1 ∧ jm_14 4000 y (v 1) (v 2) (v 3) = some o2 ∧ o1.1 = o2.1 ∧ jRel o1.2 o2.2
  unfold jh_14 jm_14 jf_H_behind jf_M_behind
  rcases jb_both (v 1) 0 40 (by decide) (by decide) with ⟨n, -, n2, nx, e1, e2⟩ | ⟨-, e1, e2⟩
  · rw [show jf_H_isWithin 4000 (v 1) (0 : Int32) (40 : Int32) = some 1 from e1, show jf_M_in 4000 (Int32.toInt64 (v 1)) (0 : Int64) (40 : Int64) = some 1 from e2, jp_xb, jp_xb, if_neg (show ¬ (1 : Int32) = 0 by decide), if_neg (show ¬ (1 : Int32) = 0 by decide)]
    rcases jl_mower hL (N := 4000) (v 2) with ⟨m, hm, e, h1, h2⟩ | ⟨-, h1, h2⟩
    · have hm5 : m < 5 := Nat.lt_of_lt_of_le hm hL.1.2.1
      rw [h1, h2, jp_xb, jp_xb, if_neg (show ¬ (1 : Int32) = 0 by decide), if_neg (show ¬ (1 : Int32) = 0 by decide)]
      rcases jb_both (v 3) 0 1 (by decide) (by decide) with ⟨i, -, i2, ix, f1, f2⟩ | ⟨-, f1, f2⟩
      · rw [show jf_H_isWithin 4000 (v 3) (0 : Int32) (1 : Int32) = some 1 from f1, show jf_M_in 4000 (Int32.toInt64 (v 3)) (0 : Int64) (1 : Int64) = some 1 from f2, jp_xb, jp_xb, if_neg (show ¬ (1 : Int32) = 0 by decide), if_neg (show ¬ (1 : Int32) = 0 by decide), nx, e, ix]
        obtain ⟨o, c1, c2⟩ := jf_copyFrom (N := 4000) (by decide) x.2.2.2.1 x.2.2.1
        obtain ⟨aside, d1, d2⟩ := jm_take (N := 4000) (n := 93) y.2.2.2.2.2.2.2.2.2.2.2.2.2.2.2.2.2.2.2.2.2.2.2.1 y.2.2.2.2.2.2.2.2.2.2.2.2.2.2.2.2.2.2.2.2.1 (by decide) (by decide)
        have hF2 : RField 999 nc nk o y.2.2.2.2.2.2.2.2.2.2.2.2.2.2.2.2.2.2.2.2.1 := hF.cong c2 (fun _ _ => rfl)
        obtain ⟨hh, r1, r2⟩ := RPart_to hF2
        obtain ⟨q, s2, g1, g2, g3⟩ := jf_hours hL (N := 4000) (n := n) (by decide) (by omega) (by omega) r2 (fun kh q => jf_M_behind_46B 4000 y.2.2.1 y.2.2.2.2.1 y.2.2.2.2.2.1 y.2.2.2.2.2.2.1 y.2.2.2.2.2.2.2.1 y.2.2.2.2.2.2.2.2.1 y.2.2.2.2.2.2.2.2.2.2.1 q.1 aside (nI n) (nI m) (nI i) q.2 kh (fun q5 => jf_M_behind_62 4000 y.2.2.1 y.2.2.2.2.1 y.2.2.2.2.2.1 y.2.2.2.2.2.2.1 y.2.2.2.2.2.2.2.1 y.2.2.2.2.2.2.2.2.1 y.2.2.2.2.2.2.2.2.2.2.1 q5 aside (nI m) (nI i))) (fun q5 => jf_M_behind_62 4000 y.2.2.1 y.2.2.2.2.1 y.2.2.2.2.2.1 y.2.2.2.2.2.2.1 y.2.2.2.2.2.2.2.1 y.2.2.2.2.2.2.2.2.1 y.2.2.2.2.2.2.2.2.2.2.1 q5 aside (nI m) (nI i)) (fun _ _ => rfl)
        obtain ⟨⟨w, w1, w2, w3⟩, dd, dd1, dd2, dd3⟩ := g3.2.2.1 m hm5
        obtain ⟨back, k1, k2⟩ := jm_take (N := 4000) (n := 93) s2 aside (by decide) (by decide)
        have hF3 : RField 999 nc nk x.2.2.1 back := hF.cong FEq.rfl (fun j hj => (k2 j hj).trans (d2 j hj))
        unfold jf_M_behind_46
        rw [c1, jp_xb, g1, jp_xb, d1, jp_xb, g2]
        unfold jf_M_behind_62 jf_M_behind_86
        rw [jl1, jl6, nI_add, nI_add, jp_xr (show 1 + m < 93 by omega) (by decide), jp_xr (show 6 + m < 93 by omega) (by decide), nI_clamp (show 1 + m < 2 ^ 31 by omega), nI_clamp (show 6 + m < 2 ^ 31 by omega), k1, w3, dd3, jr_at hm5 (by decide), jr_at hm5 (by decide), w2, dd2, jp_xb]
        by_cases hi : i = 0
        · subst hi
          rw [if_pos (show nI 0 = 0 from rfl), if_pos (show nI 0 = 0 from rfl), jp_xb]
          exact ⟨_, _, rfl, rfl, rfl, nm, nc, nk, hL, hF3, hT, hS, hP, hK⟩
        · rw [if_neg (show ¬ nI i = 0 from nI_ne0 (by omega) (by omega)), if_neg (show ¬ nI i = 0 from nI_ne0 (by omega) (by omega)), jp_xb]
          exact ⟨_, _, rfl, rfl, rfl, nm, nc, nk, hL, hF3, hT, hS, hP, hK⟩
      · rw [show jf_H_isWithin 4000 (v 3) (0 : Int32) (1 : Int32) = some 0 from f1, show jf_M_in 4000 (Int32.toInt64 (v 3)) (0 : Int64) (1 : Int64) = some 0 from f2, jp_xb, jp_xb, if_pos (show (0 : Int32) = 0 from rfl), if_pos (show (0 : Int32) = 0 from rfl), jp_xb, jp_xb]
        exact ⟨_, _, rfl, rfl, rfl, nm, nc, nk, hL, hF, hT, hS, hP, hK⟩
    · rw [h1, h2, jp_xb, jp_xb, if_pos (show (0 : Int32) = 0 from rfl), if_pos (show (0 : Int32) = 0 from rfl), jp_xb, jp_xb]
      exact ⟨_, _, rfl, rfl, rfl, nm, nc, nk, hL, hF, hT, hS, hP, hK⟩
  · rw [show jf_H_isWithin 4000 (v 1) (0 : Int32) (40 : Int32) = some 0 from e1, show jf_M_in 4000 (Int32.toInt64 (v 1)) (0 : Int64) (40 : Int64) = some 0 from e2, jp_xb, jp_xb, if_pos (show (0 : Int32) = 0 from rfl), if_pos (show (0 : Int32) = 0 from rfl), jp_xb, jp_xb]
    exact ⟨_, _, rfl, rfl, rfl, nm, nc, nk, hL, hF, hT, hS, hP, hK⟩

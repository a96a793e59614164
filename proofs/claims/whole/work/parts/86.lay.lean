theorem jop_3 (x : jX) (y : jM) (v : Nat → Int32) (h : jRel x y) : ∃ (o1 : Int32 × jX) (o2 : Int32 × jM), jh 4000 3 x v = some o1 ∧ jm 4000 3 y v = some o2 ∧ o1.1 = o2.1 ∧ jRel o1.2 o2.2 := by
  obtain ⟨nm, nc, nk, hL, hF, hT, hS, hP, hK⟩ := h
  show ∃ (o1 : Int32 × jX) (o2 : Int32 × jM), jh_3 4000 x = some o1 ∧ jm_3 4000 y = some o2 ∧ o1.1 = o2.1 ∧ jRel o1.2 o2.2
  unfold jh_3 jm_3 jf_H_lay jf_M_lay
  obtain ⟨n, c, t1, t2, hR⟩ := RLet_of hT
  obtain ⟨a, l, m, p1, p2, p3⟩ := jt_text hR x.2.2.2.2.2.2.2.2.1 y.2.2.2.2.2.2.2.2.2.2.2.1 y.2.2.2.2.2.2.2.2.2.2.2.2.1 y.2.2.2.2.2.2.2.2.2.2.2.2.2.1 y.2.2.2.2.2.2.2.2.2.2.2.2.2.2.1 y.2.2.2.2.2.2.2.2.2.2.2.2.2.2.2.1 y.2.2.2.2.2.2.2.2.2.2.2.2.2.2.2.2.1 y.2.2.2.2.2.2.2.2.2.2.2.2.2.2.2.2.2.1 y.2.2.2.2.2.2.2.2.2.2.2.2.2.2.2.2.2.2.1 y.2.2.2.2.2.2.2.2.2.2.2.2.2.2.2.2.2.2.2.1
  rw [← t1] at p1
  rw [← t2] at p2
  rw [p1, jp_xb, p2, jp_xb]
  rcases p3 with ⟨i, i1, i2⟩ | ⟨e4, nm', nc', nk', hD⟩
  · rw [if_neg (show ¬ a = (-4 : Int32) by rw [i2]; exact jb_neg4 (by omega)), if_pos (show (0 : Int32) ≤ a by rw [i2]; exact nI_pos' (by omega)), jp_xb, jp_xb]
    exact ⟨_, _, rfl, rfl, rfl, nm, nc, nk, hL, hF, hT, hS, hP, hK⟩
  · obtain ⟨d0, d1, d2, d3, -⟩ := id hD
    have z4 : ¬ (0 : Int32) ≤ a := by rw [e4]; decide
    have zm : nm' = 0 ∨ 1 ≤ nm' := by omega
    have zc : nc' = 0 ∨ 1 ≤ nc' := by omega
    have zk : nk' = 0 ∨ 1 ≤ nk' := by omega
    rw [if_pos (show a = (-4 : Int32) from e4), if_neg z4]
    unfold jf_L_isWhole
    rcases zm with zm | zm
    · rw [if_pos (show l.2.2.2.2.2.2.1 ≤ 0 by rw [d1.1, zm]; decide), jp_xb, if_pos (show (0 : Int32) = 0 from rfl), if_pos (show m.1 = 0 by rw [d1.2, zm]; rfl), jp_xb, jp_xb]
      exact ⟨_, _, rfl, rfl, rfl, nm, nc, nk, hL, hF, hT, hS, hP, hK⟩
    · have zm1 : ¬ l.2.2.2.2.2.2.1 ≤ 0 := by rw [d1.1]; exact nI_nle (by omega) (by omega)
      have zm2 : ¬ m.1 = 0 := by rw [d1.2]; exact nI_ne0 (by omega) (by omega)
      rw [if_neg zm1, if_neg zm2]
      rcases zc with zc | zc
      · rw [if_pos (show l.2.2.2.2.2.2.2.1 ≤ 0 by rw [d2.1, zc]; decide), jp_xb, if_pos (show (0 : Int32) = 0 from rfl), if_pos (show m.2.1 = 0 by rw [d2.2, zc]; rfl), jp_xb, jp_xb]
        exact ⟨_, _, rfl, rfl, rfl, nm, nc, nk, hL, hF, hT, hS, hP, hK⟩
      · have zc1 : ¬ l.2.2.2.2.2.2.2.1 ≤ 0 := by rw [d2.1]; exact nI_nle (by omega) (by omega)
        have zc2 : ¬ m.2.1 = 0 := by rw [d2.2]; exact nI_ne0 (by omega) (by omega)
        rw [if_neg zc1, if_neg zc2]
        rcases zk with zk | zk
        · rw [if_pos (show l.2.2.2.2.2.2.2.2 ≤ 0 by rw [d3.1, zk]; decide), jp_xb, if_pos (show (0 : Int32) = 0 from rfl), if_pos (show m.2.2.1 = 0 by rw [d3.2, zk]; rfl), jp_xb, jp_xb]
          exact ⟨_, _, rfl, rfl, rfl, nm, nc, nk, hL, hF, hT, hS, hP, hK⟩
        · have zk1 : ¬ l.2.2.2.2.2.2.2.2 ≤ 0 := by rw [d3.1]; exact nI_nle (by omega) (by omega)
          have zk2 : ¬ m.2.2.1 = 0 := by rw [d3.2]; exact nI_ne0 (by omega) (by omega)
          obtain ⟨f1, f1a, f1b⟩ := jp_fill (n := 5) x.2.2.1.1 (by decide)
          obtain ⟨f2, f2a, f2b⟩ := jp_fill (n := 5) x.2.2.1.2.1 (by decide)
          obtain ⟨f3, f3a, f3b⟩ := jp_fill (n := 4) x.2.2.1.2.2.1 (by decide)
          obtain ⟨f4, f4a, f4b⟩ := jp_fill (n := 3) x.2.2.1.2.2.2.1 (by decide)
          obtain ⟨f5, f5a, f5b⟩ := jp_fill (n := 3) x.2.2.1.2.2.2.2.1 (by decide)
          obtain ⟨u1, u1a, u1b⟩ := jm_take (N := 4000) (n := 5) y.2.2.2.2.2.2.1 m.2.2.2.2.1 (by decide) (by decide)
          obtain ⟨u2, u2a, u2b⟩ := jm_take (N := 4000) (n := 45) y.2.2.2.2.2.2.2.1 m.2.2.2.2.2.1 (by decide) (by decide)
          obtain ⟨u3, u3a, u3b⟩ := jm_take (N := 4000) (n := 9) y.2.2.2.2.2.2.2.2.1 m.2.2.2.2.2.2.1 (by decide) (by decide)
          obtain ⟨u4, u4a, u4b⟩ := jm_take (N := 4000) (n := 4) y.2.2.2.2.2.2.2.2.2.1 m.2.2.2.2.2.2.2.1 (by decide) (by decide)
          obtain ⟨u5, u5a, u5b⟩ := jm_take (N := 4000) (n := 3) y.2.2.2.2.2.2.2.2.2.2.1 m.2.2.2.2.2.2.2.2 (by decide) (by decide)
          unfold jf_F_clear jf_P_clear
          rw [if_neg zk1, if_neg zk2, jp_xb, if_neg (show ¬ (1 : Int32) = 0 by decide), f1a, jp_xb, f2a, jp_xb, f3a, jp_xb, f4a, jp_xb, f5a, jp_xb, jp_xb, jp_xb, jp_xb, jp_xb, u1a, jp_xb, u2a, jp_xb, u3a, jp_xb, u4a, jp_xb, u5a, jp_xb]
          obtain ⟨s, s1, s2⟩ := jm_lay120 _ _ _ _ _ _ _ _ _ _ _ _ _ _ _ _ _ _ _ _ _ _ _ _ _
          rw [s1]
          exact ⟨_, _, rfl, rfl, d1.1.trans d1.2.symm, nm', nc', nk', RLand_of hD zm zc zk u1b u2b u3b u4b u5b, RField_zero f1b f2b f3b f4b f5b rfl s2, hT, ⟨0, Nat.zero_le _, rfl, rfl, fun j hj => by omega⟩, RPile_zero hP, RPile_zero hK⟩

theorem jop_19 (x : jX) (y : jM) (v : Nat → Int32) (h : jRel x y) : ∃ (o1 : Int32 × jX) (o2 : Int32 × jM), jh 4000 19 x v = some o1 ∧ jm 4000 19 y v = some o2 ∧ o1.1 = o2.1 ∧ jRel o1.2 o2.2 := by
  refine jop_ro (x := x) (y := y) (a := jf_H_first 4000 _ _ _ _ (v 1) (v 2)) (b := jf_M_first 4000 _ _ _ _ (v 1) (v 2)) ?_ h
  obtain ⟨nm, nc, nk, hL, hF, hT, hS, hP, hK⟩ := h
  obtain ⟨hh, r1, r2⟩ := RPart_to hF
  unfold jf_H_first jf_M_first jf_H_isWord
  rcases jb_both (v 1) 0 9 (by decide) (by decide) with ⟨w, -, w2, wx, e1, e2⟩ | ⟨-, e1, e2⟩
  · rw [show jf_H_isWithin 4000 (v 1) (0 : Int32) (9 : Int32) = some 1 from e1, show jf_M_in 4000 (Int32.toInt64 (v 1)) (0 : Int64) (9 : Int64) = some 1 from e2]
    rcases jb_both (v 2) 0 1 (by decide) (by decide) with ⟨z, -, z2, zx, f1, f2⟩ | ⟨-, f1, f2⟩
    · rw [show jf_H_isWithin 4000 (v 2) (0 : Int32) (1 : Int32) = some 1 from f1, show jf_M_in 4000 (Int32.toInt64 (v 2)) (0 : Int64) (1 : Int64) = some 1 from f2]
      obtain ⟨r, g1, g2⟩ := jb_first2 hL r1 r2.1.2 (v 1) (v 2)
      rw [← r2.1.1] at g1
      exact ⟨r, g1, g2⟩
    · rw [show jf_H_isWithin 4000 (v 2) (0 : Int32) (1 : Int32) = some 0 from f1, show jf_M_in 4000 (Int32.toInt64 (v 2)) (0 : Int64) (1 : Int64) = some 0 from f2]
      exact ⟨_, rfl, rfl⟩
  · rw [show jf_H_isWithin 4000 (v 1) (0 : Int32) (9 : Int32) = some 0 from e1, show jf_M_in 4000 (Int32.toInt64 (v 1)) (0 : Int64) (9 : Int64) = some 0 from e2]
    exact ⟨_, rfl, rfl⟩

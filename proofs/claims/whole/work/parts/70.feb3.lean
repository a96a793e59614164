theorem jop_26 (x : jX) (y : jM) (v : Nat → Int32) (h : jRel x y) : ∃ (o1 : Int32 × jX) (o2 : Int32 × jM), jh 4000 26 x v = some o1 ∧ jm 4000 26 y v = some o2 ∧ o1.1 = o2.1 ∧ jRel o1.2 o2.2 := by
  obtain ⟨nm, nc, nk, hL, hF, hT, hS, hP, hK⟩ := h
  show ∃ (o1 : Int32 × jX) (o2 : Int32 × jM), jh_26 4000 x (v 1) (v 2) (v 3) = some o1 ∧ jm_26 4000 y (v 1) (v 2) (v 3) = some o2 ∧ o1.1 = o2.1 ∧ jRel o1.2 o2.2
  unfold jh_26 jm_26 jf_H_february jf_M_february
  rcases jb_both (v 1) 0 9999 (by decide) (by decide) with ⟨z, -, z2, zx, e1, e2⟩ | ⟨-, e1, e2⟩
  · rw [show jf_H_isWithin 4000 (v 1) (0 : Int32) (9999 : Int32) = some 1 from e1, show jf_M_in 4000 (Int32.toInt64 (v 1)) (0 : Int64) (9999 : Int64) = some 1 from e2, jp_xb, jp_xb, if_neg (show ¬ (1 : Int32) = 0 by decide), if_neg (show ¬ (1 : Int32) = 0 by decide)]
    rcases jb_both (v 2) 1 60 (by decide) (by decide) with ⟨n, n1, n2, nx, f1, f2⟩ | ⟨-, f1, f2⟩
    · rw [show jf_H_isWithin 4000 (v 2) (1 : Int32) (60 : Int32) = some 1 from f1, show jf_M_in 4000 (Int32.toInt64 (v 2)) (1 : Int64) (60 : Int64) = some 1 from f2, jp_xb, jp_xb, if_neg (show ¬ (1 : Int32) = 0 by decide), if_neg (show ¬ (1 : Int32) = 0 by decide)]
      rcases jb_both (v 3) 0 2 (by decide) (by decide) with ⟨i, -, i2, ix, c1, c2⟩ | ⟨-, c1, c2⟩
      · rw [show jf_H_isWithin 4000 (v 3) (0 : Int32) (2 : Int32) = some 1 from c1, show jf_M_in 4000 (Int32.toInt64 (v 3)) (0 : Int64) (2 : Int64) = some 1 from c2, jp_xb, jp_xb, if_neg (show ¬ (1 : Int32) = 0 by decide), if_neg (show ¬ (1 : Int32) = 0 by decide), zx, nx, ix]
        obtain ⟨o, c1, c2⟩ := jf_copyFrom (N := 4000) (by decide) x.2.2.2.1 x.2.2.1
        obtain ⟨aside, d1, d2⟩ := jm_take (N := 4000) (n := 93) y.2.2.2.2.2.2.2.2.2.2.2.2.2.2.2.2.2.2.2.2.2.2.2.1 y.2.2.2.2.2.2.2.2.2.2.2.2.2.2.2.2.2.2.2.2.1 (by decide) (by decide)
        have hF2 : RField 999 nc nk o y.2.2.2.2.2.2.2.2.2.2.2.2.2.2.2.2.2.2.2.2.1 := hF.cong c2 (fun _ _ => rfl)
        obtain ⟨hh, r1, r2⟩ := RPart_to hF2
        obtain ⟨hh', r1', r2'⟩ := RPart_to hF
        obtain ⟨B0, b1, b2⟩ := js_burnt r2'.2.1
        rw [c1, jp_xb, d1, jp_xb, b2, jp_xb]
        obtain ⟨t1, t2, p1, p2, p3⟩ := jf_days hL x.2.2.1 r1 z2 n2 o (aside := aside) r2 (nI i) B0
        rw [p2, p3]
        obtain ⟨back, k1, k2⟩ := jm_take (N := 4000) (n := 93) t2 aside (by decide) (by decide)
        have hF3 : RField 999 nc nk x.2.2.1 back := hF.cong FEq.rfl (fun j hj => (k2 j hj).trans (d2 j hj))
        obtain ⟨S1, s1, s1'⟩ := js_heard hL.1.2.2.1 hL.1.2.2.2.1 p1.2.2.2.1
        obtain ⟨S2, s2, s2'⟩ := js_heights p1.2.2.2.2
        obtain ⟨S3, s3, s3'⟩ := js_burnt p1.2.1
        rw [← hL.2.2.1.2] at s1'
        unfold jf_H_february_79 jf_M_february_109 jf_M_february_145
        rw [k1, s1, s2, s3, b1, s1', s2', s3', jp_xb, jp_xb, jp_xb, jp_xb, jp_xb, jp_xb, jp_xb]
        rcases (show i = 0 ∨ i = 1 ∨ i = 2 by omega) with rfl | rfl | rfl
        · rw [if_pos (show nI 0 = (0 : Int32) from rfl), if_pos (show nI 0 = (0 : Int32) from rfl), jp_xb, jp_xb]
          exact ⟨_, _, rfl, rfl, rfl, nm, nc, nk, hL, hF3, hT, hS, hP, hK⟩
        · rw [if_neg (show ¬ nI 1 = (0 : Int32) by decide), if_neg (show ¬ nI 1 = (0 : Int32) by decide), if_pos (show nI 1 = (1 : Int32) from rfl), if_pos (show nI 1 = (1 : Int32) from rfl), jp_xb, jp_xb]
          exact ⟨_, _, rfl, rfl, rfl, nm, nc, nk, hL, hF3, hT, hS, hP, hK⟩
        · rw [if_neg (show ¬ nI 2 = (0 : Int32) by decide), if_neg (show ¬ nI 2 = (0 : Int32) by decide), if_neg (show ¬ nI 2 = (1 : Int32) by decide), if_neg (show ¬ nI 2 = (1 : Int32) by decide), jp_xb, jp_xb]
          exact ⟨_, _, rfl, rfl, rfl, nm, nc, nk, hL, hF3, hT, hS, hP, hK⟩
      · rw [show jf_H_isWithin 4000 (v 3) (0 : Int32) (2 : Int32) = some 0 from c1, show jf_M_in 4000 (Int32.toInt64 (v 3)) (0 : Int64) (2 : Int64) = some 0 from c2, jp_xb, jp_xb, if_pos (show (0 : Int32) = 0 from rfl), if_pos (show (0 : Int32) = 0 from rfl), jp_xb, jp_xb]
        exact ⟨_, _, rfl, rfl, rfl, nm, nc, nk, hL, hF, hT, hS, hP, hK⟩
    · rw [show jf_H_isWithin 4000 (v 2) (1 : Int32) (60 : Int32) = some 0 from f1, show jf_M_in 4000 (Int32.toInt64 (v 2)) (1 : Int64) (60 : Int64) = some 0 from f2, jp_xb, jp_xb, if_pos (show (0 : Int32) = 0 from rfl), if_pos (show (0 : Int32) = 0 from rfl), jp_xb, jp_xb]
      exact ⟨_, _, rfl, rfl, rfl, nm, nc, nk, hL, hF, hT, hS, hP, hK⟩
  · rw [show jf_H_isWithin 4000 (v 1) (0 : Int32) (9999 : Int32) = some 0 from e1, show jf_M_in 4000 (Int32.toInt64 (v 1)) (0 : Int64) (9999 : Int64) = some 0 from e2, jp_xb, jp_xb, if_pos (show (0 : Int32) = 0 from rfl), if_pos (show (0 : Int32) = 0 from rfl), jp_xb, jp_xb]
    exact ⟨_, _, rfl, rfl, rfl, nm, nc, nk, hL, hF, hT, hS, hP, hK⟩

theorem jb_kinds {w : Nat} (hw : w < 1024) (x2 : Int32) : ∃ r, jf_H_kinds_29 4000 (nI w) x2 (0 : Int32) (0 : Int32) = some r ∧ jf_M_kinds_31 4000 (nI w) x2 (0 : Int32) (0 : Int32) = some r := by
  unfold jf_H_kinds_29 jf_M_kinds_31
  refine xloop_rel (σ1 := Int32 × Int32) (σ2 := Int32 × Int32) (fun (kh : (Int32 × Int32) → Option (Int32)) q => jf_H_kinds_29B 4000 (nI w) x2 q.1 q.2 kh) (fun (kh : (Int32 × Int32) → Option (Int32)) q => jf_M_kinds_31B 4000 (nI w) x2 q.1 q.2 kh)
    (fun r q1 q2 => q1 = q2 ∧ ∃ i z : Nat, i + r = 4 ∧ q1 = (nI z, nI i)) (fun o1 o2 => ∃ r, o1 = some r ∧ o2 = some r) ?_ 4 4000 4000 (0, 0) (0, 0) (by decide) (by decide) ⟨rfl, 0, 0, by omega, rfl⟩
  intro r q1 q2 ⟨hq, i, z, hi, e⟩
  subst hq
  subst e
  by_cases hr : r = 0
  · refine Or.inr ⟨some (nI z), some (nI z), ⟨_, rfl, rfl⟩, fun kh => ?_, fun kh => ?_⟩
    · unfold jf_H_kinds_29B
      rw [jl4, if_pos (nI_le (by omega) (by omega))]
    · unfold jf_M_kinds_31B
      rw [jl3, if_pos (nI_lt (by omega) (by omega))]
  · obtain ⟨u, u1, u2, u3⟩ := jb_hears (k := i) (t := 0) (by omega) hw (by decide)
    obtain ⟨p1, p2⟩ := jb_pow (z := i) (by omega)
    refine Or.inl ⟨r - 1, (nI (if nI u = x2 then z ||| 2 ^ i else z), nI (i + 1)), _, by omega, ⟨rfl, i + 1, _, by omega, rfl⟩, fun kh => ?_, fun kh => ?_⟩
    · unfold jf_H_kinds_29B jf_H_kinds_53
      rw [jl4, if_neg (nI_ge (by omega) (by omega)), show jf_H_heardBy 4000 (nI i) (nI w) (0 : Int32) = _ from u2, jp_xb, p1, jb_or, nI_1]
      by_cases hc : nI u = x2
      · rw [if_pos hc, if_pos hc]
        rfl
      · rw [if_neg hc, if_neg hc]
        rfl
    · unfold jf_M_kinds_31B jf_M_kinds_57
      rw [jl3, if_neg (nI_nlt (by omega) (by omega)), show jf_M_hears 4000 (nI i) (nI w) (0 : Int32) = _ from u3, jp_xb, p1, jb_or, nI_1, show nI z ||| (0 : Int32) = nI z from (jb_or z 0).trans (congrArg nI (Nat.or_zero z))]
      by_cases hc : nI u = x2
      · rw [if_pos hc, if_pos hc]
        rfl
      · rw [if_neg hc, if_neg hc]
        rfl
theorem jop_24 (x : jX) (y : jM) (v : Nat → Int32) (h : jRel x y) : ∃ (o1 : Int32 × jX) (o2 : Int32 × jM), jh 4000 24 x v = some o1 ∧ jm 4000 24 y v = some o2 ∧ o1.1 = o2.1 ∧ jRel o1.2 o2.2 := by
  refine jop_ro (x := x) (y := y) (a := jf_H_kinds 4000 (v 1) (v 2)) (b := jf_M_kinds 4000 (v 1) (v 2)) ?_ h
  unfold jf_H_kinds jf_M_kinds
  rcases jb_both (v 1) 0 1023 (by decide) (by decide) with ⟨w, -, w2, wx, e1, e2⟩ | ⟨-, e1, e2⟩
  · rw [show jf_H_isWithin 4000 (v 1) (0 : Int32) (1023 : Int32) = some 1 from e1, show jf_M_in 4000 (Int32.toInt64 (v 1)) (0 : Int64) (1023 : Int64) = some 1 from e2, jp_xb, jp_xb, if_neg (show ¬ (1 : Int32) = 0 by decide), if_neg (show ¬ (1 : Int32) = 0 by decide)]
    rcases jb_both (v 2) 0 1023 (by decide) (by decide) with ⟨z, -, z2, zx, f1, f2⟩ | ⟨-, f1, f2⟩
    · rw [show jf_H_isWithin 4000 (v 2) (0 : Int32) (1023 : Int32) = some 1 from f1, show jf_M_in 4000 (Int32.toInt64 (v 2)) (0 : Int64) (1023 : Int64) = some 1 from f2, jp_xb, jp_xb, if_neg (show ¬ (1 : Int32) = 0 by decide), if_neg (show ¬ (1 : Int32) = 0 by decide), wx]
      exact jb_kinds (by omega) (v 2)
    · rw [show jf_H_isWithin 4000 (v 2) (0 : Int32) (1023 : Int32) = some 0 from f1, show jf_M_in 4000 (Int32.toInt64 (v 2)) (0 : Int64) (1023 : Int64) = some 0 from f2, jp_xb, jp_xb, if_pos (show (0 : Int32) = 0 from rfl), if_pos (show (0 : Int32) = 0 from rfl)]
      exact ⟨_, rfl, rfl⟩
  · rw [show jf_H_isWithin 4000 (v 1) (0 : Int32) (1023 : Int32) = some 0 from e1, show jf_M_in 4000 (Int32.toInt64 (v 1)) (0 : Int64) (1023 : Int64) = some 0 from e2, jp_xb, jp_xb, if_pos (show (0 : Int32) = 0 from rfl), if_pos (show (0 : Int32) = 0 from rfl)]
    exact ⟨_, rfl, rfl⟩

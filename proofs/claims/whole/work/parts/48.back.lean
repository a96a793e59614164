theorem RField.damp {H nc nk : Nat} {fv : jFV} {st : Nat → Int32} (r : RField H nc nk fv st) {j d : Nat} (hj : j < 5) (hd : d ≤ 99) : RField H nc nk (fv.1, upd fv.2.1 j (nI d), fv.2.2.1, fv.2.2.2.1, fv.2.2.2.2.1, fv.2.2.2.2.2.1, fv.2.2.2.2.2.2.1, fv.2.2.2.2.2.2.2.1, fv.2.2.2.2.2.2.2.2) (upd st (6 + j) (nI d)) := by
  obtain ⟨h, h1, a, b, c, e, f⟩ := RPart_to r
  refine RPart_of h1 ⟨a.fr (upd_ne (by omega)), b.fr (fun z _ _ => upd_ne (by omega)), fun m hm => ?_, e.fr (fun z _ _ => upd_ne (by omega)), f.fr (fun z _ => upd_ne (by omega))⟩
  obtain ⟨⟨w, w1, w2, w3⟩, g, g1, g2, g3⟩ := c m hm
  refine ⟨⟨w, w1, w2, (upd_ne (by omega)).trans w3⟩, ?_⟩
  show ∃ d', d' ≤ 99 ∧ upd fv.2.1 j (nI d) m = nI d' ∧ upd st (6 + j) (nI d) (6 + m) = nI d'
  by_cases hm2 : m = j
  · subst hm2
    rw [upd_same, upd_same]
    exact ⟨d, hd, rfl, rfl⟩
  · rw [upd_ne hm2, upd_ne (by omega)]
    exact ⟨g, g1, g2, g3⟩
theorem jop_11 (x : jX) (y : jM) (v : Nat → Int32) (h : jRel x y) : ∃ (o1 : Int32 × jX) (o2 : Int32 × jM), jh 4000 11 x v = some o1 ∧ jm 4000 11 y v = some o2 ∧ o1.1 = o2.1 ∧ jRel o1.2 o2.2 := by
  obtain ⟨nm, nc, nk, hL, hF, hT, hS, hP, hK⟩ := h
  show ∃ (o1 : Int32 × jX) (o2 : Int32 × jM), jh_11 4000 x (v 1) = some o1 ∧ jm_11 4000 y (v 1) = some o2 ∧ o1.1 = o2.1 ∧ jRel o1.2 o2.2
  unfold jh_11 jm_11 jf_H_turn jf_M_turn
  rcases jl_mower hL (N := 4000) (v 1) with ⟨j, hj, e, h1, h2⟩ | ⟨-, h1, h2⟩
  · have hj5 : j < 5 := Nat.lt_of_lt_of_le hj hL.1.2.1
    obtain ⟨⟨w, w1, w2, w3⟩, d, d1, d2, d3⟩ := hF.2.1 j hj5
    rw [h1, h2, jp_xb, jp_xb, if_neg (show ¬ (1 : Int32) = 0 by decide), if_neg (show ¬ (1 : Int32) = 0 by decide), e, jr_at hj5 (by decide), jp_xb, d2, jl6, nI_add, jp_xr (by omega) (by decide), jp_xl, nI_clamp (by omega), d3]
    by_cases hd : d = 0
    · subst hd
      rw [if_pos (show nI 0 = 0 from rfl), if_pos (show nI 0 = 0 from rfl), jp_xb, jp_xb]
      exact ⟨_, _, rfl, rfl, rfl, nm, nc, nk, hL, hF, hT, hS, hP, hK⟩
    · have hd' : ¬ nI d = 0 := nI_ne0 (by omega) (by omega)
      obtain ⟨p1, p2, p3, p4, p5⟩ := hP.push hF (N := 4000) (by decide)
      rw [if_neg hd', if_neg hd', p3, jp_xb, jr_put hj5 (by decide), jp_xb, jp_xb, p4, jp_xb, jp_xr (by omega) (by decide), jp_xl, jp_xb]
      exact ⟨_, _, rfl, rfl, rfl, nm, nc, nk, hL, hF.damp hj5 (Nat.zero_le _), hT, hS, p5, hK⟩
  · rw [h1, h2, jp_xb, jp_xb, if_pos (show (0 : Int32) = 0 from rfl), if_pos (show (0 : Int32) = 0 from rfl), jp_xb, jp_xb]
    exact ⟨_, _, rfl, rfl, rfl, nm, nc, nk, hL, hF, hT, hS, hP, hK⟩
theorem jop_13 (x : jX) (y : jM) (v : Nat → Int32) (h : jRel x y) : ∃ (o1 : Int32 × jX) (o2 : Int32 × jM), jh 4000 13 x v = some o1 ∧ jm 4000 13 y v = some o2 ∧ o1.1 = o2.1 ∧ jRel o1.2 o2.2 := by
  obtain ⟨nm, nc, nk, hL, hF, hT, hS, hP, hK⟩ := h
  show ∃ (o1 : Int32 × jX) (o2 : Int32 × jM), jh_13 4000 x = some o1 ∧ jm_13 4000 y = some o2 ∧ o1.1 = o2.1 ∧ jRel o1.2 o2.2
  unfold jh_13 jm_13 jf_H_undo jf_M_undo
  obtain ⟨q, n, hq, hn, e1, e2, e3, hh⟩ := hP
  rw [e1, e2, e3]
  by_cases h0 : n = 0
  · subst h0
    rw [if_pos (show nI 0 = 0 from rfl), if_pos (show nI 0 = 0 from rfl), jp_xb, jp_xb]
    exact ⟨_, _, rfl, rfl, rfl, nm, nc, nk, hL, hF, hT, hS, ⟨q, 0, hq, hn, rfl, rfl, rfl, hh⟩, hK⟩
  · have h0' : ¬ nI n = 0 := nI_ne0 (by omega) (by omega)
    obtain ⟨o, a1, a2⟩ := jp_pop (N := 4000) (M := 8) (by decide) (by decide) hq (show 0 < n by omega) hn x.2.2.2.2.2.2.2.2.2.2.2.1 x.2.2.1
    obtain ⟨g1, g2⟩ := RPile.pop (Or.inl rfl) hq hn (show 0 < n by omega) hh
    obtain ⟨r, b1, b2⟩ := jm_undo22 (N := 4000) (p := n - 1) (by decide) (by omega) y.2.2.2.2.2.2.2.2.2.2.2.2.2.2.2.2.2.2.2.2.1 y.2.2.2.2.2.2.2.2.2.2.2.2.2.2.2.2.2.2.2.2.2.2.1 (fun q1 => jf_M_undo_54 4000 q1 (nI (n - 1)) y.2.2.2.2.2.2.2.2.2.2.2.2.2.2.2.2.2.2.2.2.2.2.1)
    rw [if_neg h0', if_neg h0', a1, jp_xb, jp_xb, jl1, jn_sub (by omega), jp_xl, b1]
    unfold jf_M_undo_54
    rw [jp_xb]
    exact ⟨_, _, rfl, rfl, rfl, nm, nc, nk, hL, g2.cong a2 b2, hT, hS, g1, hK⟩
theorem jop_27 (x : jX) (y : jM) (v : Nat → Int32) (h : jRel x y) : ∃ (o1 : Int32 × jX) (o2 : Int32 × jM), jh 4000 27 x v = some o1 ∧ jm 4000 27 y v = some o2 ∧ o1.1 = o2.1 ∧ jRel o1.2 o2.2 := by
  obtain ⟨nm, nc, nk, hL, hF, hT, hS, hP, hK⟩ := h
  show ∃ (o1 : Int32 × jX) (o2 : Int32 × jM), jh_27 4000 x = some o1 ∧ jm_27 4000 y = some o2 ∧ o1.1 = o2.1 ∧ jRel o1.2 o2.2
  unfold jh_27 jm_27 jf_H_keep jf_M_keep jf_P_isFull
  obtain ⟨q, n, hq, hn, e1, e2, e3, hh⟩ := hK
  rw [e1, e2, e3, jl2]
  by_cases h0 : n = 2
  · subst h0
    rw [if_neg (nI_nlt (Nat.le_refl _) (by decide)), jp_xb, if_neg (show ¬ (1 : Int32) = 0 by decide), if_pos rfl, jp_xb, jp_xb]
    exact ⟨_, _, rfl, rfl, rfl, nm, nc, nk, hL, hF, hT, hS, hP, ⟨q, 2, hq, hn, rfl, rfl, rfl, hh⟩⟩
  · obtain ⟨o, a1, a2⟩ := jp_push (N := 4000) (M := 2) (by decide) (by decide) (by decide) hq hn x.2.2.2.2.2.2.2.2.2.2.2.2.2.2 x.2.2.1
    obtain ⟨r, b1, b2, b3⟩ := jm_keep13 (N := 4000) (p := n) (by decide) (by omega) y.2.2.2.2.2.2.2.2.2.2.2.2.2.2.2.2.2.2.2.2.1 y.2.2.2.2.2.2.2.2.2.2.2.2.2.2.2.2.2.2.2.2.2.2.2.2.2.2.2.2 (fun q1 => jf_M_keep_45 4000 y.2.2.2.2.2.2.2.2.2.2.2.2.2.2.2.2.2.2.2.2.1 (nI n) q1)
    rw [if_pos (nI_lt (by omega) (by decide)), jp_xb, if_pos (show (0 : Int32) = 0 from rfl), a1, jp_xb, jp_xb, if_neg (fun z => h0 ((nI_eq (by omega) (by decide)).mp z)), b1]
    unfold jf_M_keep_45
    rw [nI_1, jp_xl, jp_xb]
    refine ⟨_, _, rfl, rfl, ?_, nm, nc, nk, hL, hF, hT, hS, hP, ⟨if 2 ≤ q + 1 then 0 else q + 1, n + 1, by split <;> omega, by omega, rfl, ?_, rfl, fun j hj => ?_⟩⟩
    · show nI (if n + 1 < 2 then n + 1 else 2) = nI (n + 1)
      exact nI_up (by split <;> omega)
    · show nI (if n + 1 < 2 then n + 1 else 2) = nI (n + 1)
      exact nI_up (by split <;> omega)
    · show RField 999 nc nk (va_up x.2.2.2.2.2.2.2.2.2.2.2.2.2.2 (if 2 ≤ q + 1 then 0 else q + 1) o (((if 2 ≤ q + 1 then 0 else q + 1) + 2 - j) % 2)) (fun t => r (93 * (n + 1 - 1 - j) + t))
      by_cases hj0 : j = 0
      · subst hj0
        rw [show ((if 2 ≤ q + 1 then 0 else q + 1) + 2 - 0) % 2 = (if 2 ≤ q + 1 then 0 else q + 1) by split <;> omega, va_up_self]
        exact hF.cong a2 (fun t ht => b2 t ht)
      · rw [va_up_ne _ o (show ((if 2 ≤ q + 1 then 0 else q + 1) + 2 - j) % 2 ≠ (if 2 ≤ q + 1 then 0 else q + 1) by split <;> omega), show ((if 2 ≤ q + 1 then 0 else q + 1) + 2 - j) % 2 = (q + 2 - (j - 1)) % 2 by split <;> omega]
        refine (hh (j - 1) (by omega)).cong FEq.rfl (fun t ht => ?_)
        show r _ = _
        rw [b3 _ (by omega), show n + 1 - 1 - j = n - 1 - (j - 1) by omega]
theorem jop_28 (x : jX) (y : jM) (v : Nat → Int32) (h : jRel x y) : ∃ (o1 : Int32 × jX) (o2 : Int32 × jM), jh 4000 28 x v = some o1 ∧ jm 4000 28 y v = some o2 ∧ o1.1 = o2.1 ∧ jRel o1.2 o2.2 := by
  obtain ⟨nm, nc, nk, hL, hF, hT, hS, hP, hK⟩ := h
  show ∃ (o1 : Int32 × jX) (o2 : Int32 × jM), jh_28 4000 x = some o1 ∧ jm_28 4000 y = some o2 ∧ o1.1 = o2.1 ∧ jRel o1.2 o2.2
  unfold jh_28 jm_28 jf_H_back jf_M_back jf_P_clear
  obtain ⟨q, n, hq, hn, e1, e2, e3, hh⟩ := hK
  rw [e1, e2, e3]
  by_cases h0 : n = 0
  · subst h0
    rw [if_pos (show nI 0 = 0 from rfl), if_pos (show nI 0 = 0 from rfl), jp_xb, jp_xb]
    exact ⟨_, _, rfl, rfl, rfl, nm, nc, nk, hL, hF, hT, hS, hP, ⟨q, 0, hq, hn, rfl, rfl, rfl, hh⟩⟩
  · have h0' : ¬ nI n = 0 := nI_ne0 (by omega) (by omega)
    obtain ⟨q', n', hq', hn', e1', e2', e3', hh'⟩ := hP
    obtain ⟨o, a1, a2⟩ := jp_pop (N := 4000) (M := 2) (by decide) (by decide) hq (show 0 < n by omega) hn x.2.2.2.2.2.2.2.2.2.2.2.2.2.2 x.2.2.1
    obtain ⟨g1, g2⟩ := RPile.pop (Or.inr rfl) hq hn (show 0 < n by omega) hh
    obtain ⟨r, b1, b2⟩ := jm_back22 (N := 4000) (p := n - 1) (by decide) (by omega) y.2.2.2.2.2.2.2.2.2.2.2.2.2.2.2.2.2.2.2.2.1 y.2.2.2.2.2.2.2.2.2.2.2.2.2.2.2.2.2.2.2.2.2.2.2.2.2.2.2.2 y.2.2.2.2.2.2.2.2.2.2.2.2.2.2.2.2.2.2.2.2.2.1 (fun q1 => jf_M_back_54 4000 q1 y.2.2.2.2.2.2.2.2.2.2.2.2.2.2.2.2.2.2.2.2.2.1 (nI (n - 1)) y.2.2.2.2.2.2.2.2.2.2.2.2.2.2.2.2.2.2.2.2.2.2.2.2.2.2.2.2)
    rw [if_neg h0', if_neg h0', a1, jp_xb, jp_xb, jp_xb, jl1, jn_sub (by omega), jp_xl, b1]
    unfold jf_M_back_54
    rw [jp_xb]
    exact ⟨_, _, rfl, rfl, rfl, nm, nc, nk, hL, g2.cong a2 b2, hT, hS, ⟨q', 0, hq', by omega, e1', rfl, rfl, fun j hj => by omega⟩, g1⟩

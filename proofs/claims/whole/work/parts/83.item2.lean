section ITEM2
variable {n : Nat} {tl text : Nat → Int32} {c : Nat → Nat}
/-- one item, from its letter to its semicolon -/
theorem jt_item (hR : RLet n tl text c) {nm nc nk : Nat} {gv : jLV} {mowers cows ricks weathers : Int32} {says words weather kindOf thatch : Nat → Int32} (hD : RDraft nm nc nk gv mowers cows ricks weathers says words weather kindOf thatch) {a b : Nat} (hab : a ≤ b) (hb : b < n) (hs : c b = 59) :
    ∃ (o1 : Int32 × jLV) (o2 : Int32 × Int32 × Int32 × Int32 × Int32 × (Nat → Int32) × (Nat → Int32) × (Nat → Int32) × (Nat → Int32) × (Nat → Int32)), jf_L_readItem 4000 gv.1 gv.2.1 gv.2.2.1 gv.2.2.2.1 gv.2.2.2.2.1 gv.2.2.2.2.2.1 gv.2.2.2.2.2.2.1 gv.2.2.2.2.2.2.2.1 gv.2.2.2.2.2.2.2.2 tl (nI n) (nI a) (nI b) = some o1 ∧ jf_M_readItem 4000 text mowers cows ricks weathers says words weather kindOf thatch (nI a) (nI b) = some o2 ∧ ((o1.1 = 0 ∧ o2.1 = 0) ∨ (o1.1 = 1 ∧ o2.1 = 1 ∧ ∃ nm nc nk, RDraft nm nc nk o1.2 o2.2.1 o2.2.2.1 o2.2.2.2.1 o2.2.2.2.2.1 o2.2.2.2.2.2.1 o2.2.2.2.2.2.2.1 o2.2.2.2.2.2.2.2.1 o2.2.2.2.2.2.2.2.2.1 o2.2.2.2.2.2.2.2.2.2)) := by
  have h2 := hR.1
  obtain ⟨c1, c2, c3⟩ := hR.2 a (by omega)
  obtain ⟨d0, d1, d2, d3, d4, d5, d6, d7⟩ := hD
  unfold jf_L_readItem jf_M_readItem
  rw [jt_letter hR (show a < n by omega), jp_xb, jp_xr (show a < 200 by omega) (by decide), nI_clamp (show a < 2 ^ 31 by omega), c3, jp_xl, nI_1, d1.1, d1.2, d2.1, d2.2, d3.1, d3.2]
  have ne : ∀ k, k < 128 → ¬ c a = k → ¬ nI (c a) = nI k := fun k hk h z => h ((nI_eq (by omega) (by omega)).mp z)
  have lt : ∀ k, c a = k → k ≠ 59 → a + 1 ≤ b := fun k h1 h2 => by
    by_cases hh : a = b
    · rw [hh, hs] at h1
      exact absurd h1.symm h2
    · omega
  by_cases k99 : c a = 99
  · rw [k99, if_pos (show nI 99 = (99 : Int32) from rfl), if_neg (show ¬ nI 99 = (109 : Int32) by decide), if_neg (show ¬ nI 99 = (101 : Int32) by decide), if_pos (show nI 99 = (99 : Int32) from rfl)]
    rcases jt_cow hR d0.2.1 (lt 99 k99 (by decide)) (show b ≤ n by omega) gv.2.2.2.1 kindOf with ⟨u1, m1, m2, w1, e1, e2⟩ | ⟨h4, v, v1, e1, e2⟩
    · rw [e1, e2, jp_xb, jp_xb, jp_xo0, jp_xo0]
      exact ⟨_, _, rfl, rfl, Or.inl ⟨rfl, rfl⟩⟩
    · rw [e1, e2, jp_xb, jp_xb, jp_xo1, jp_xo1]
      refine ⟨_, _, rfl, rfl, Or.inr ⟨rfl, rfl, nm, nc + 1, nk, ⟨d0.1, h4, d0.2.2⟩, ⟨rfl, rfl⟩, ⟨rfl, rfl⟩, ⟨rfl, rfl⟩, d4, d5, fun z hz => ?_, d7⟩⟩
      show ∃ v', v' ≤ 3 ∧ upd gv.2.2.2.1 nc (nI v) z = nI v' ∧ upd kindOf nc (nI v) z = nI v'
      by_cases hzc : z = nc
      · subst hzc
        rw [upd_same, upd_same]
        exact ⟨v, v1, rfl, rfl⟩
      · rw [upd_ne hzc, upd_ne hzc]
        exact d6 z (by omega)
  by_cases k101 : c a = 101
  · rw [k101, if_neg (show ¬ nI 101 = (99 : Int32) by decide), if_pos (show nI 101 = (101 : Int32) from rfl), if_neg (show ¬ nI 101 = (109 : Int32) by decide), if_pos (show nI 101 = (101 : Int32) from rfl)]
    rcases jt_wea hR (lt 101 k101 (by decide)) (show b ≤ n by omega) gv.2.2.1 weather gv.2.2.2.2.2.1 weathers with ⟨u1, m1, m2, w1, e1, e2⟩ | ⟨L, u, w, l1, l2, e1, e2, e3⟩
    · rw [e1, e2, jp_xb, jp_xb, jp_xo0, jp_xo0]
      exact ⟨_, _, rfl, rfl, Or.inl ⟨rfl, rfl⟩⟩
    · rw [e1, e2, jp_xb, jp_xb, jp_xo1, jp_xo1]
      exact ⟨_, _, rfl, rfl, Or.inr ⟨rfl, rfl, nm, nc, nk, d0, ⟨rfl, rfl⟩, ⟨rfl, rfl⟩, ⟨rfl, rfl⟩, d4, Or.inr ⟨L, l1, l2, rfl, rfl, e3⟩, d6, d7⟩⟩
  by_cases k107 : c a = 107
  · rw [k107, if_neg (show ¬ nI 107 = (99 : Int32) by decide), if_neg (show ¬ nI 107 = (101 : Int32) by decide), if_pos (show nI 107 = (107 : Int32) from rfl), if_neg (show ¬ nI 107 = (109 : Int32) by decide), if_neg (show ¬ nI 107 = (101 : Int32) by decide), if_neg (show ¬ nI 107 = (99 : Int32) by decide), if_pos (show nI 107 = (107 : Int32) from rfl)]
    rcases jt_rick hR d0.2.2 (lt 107 k107 (by decide)) (show b ≤ n by omega) gv.2.2.2.2.1 thatch with ⟨u1, m1, m2, w1, e1, e2⟩ | ⟨h4, v, v1, e1, e2⟩
    · rw [e1, e2, jp_xb, jp_xb, jp_xo0, if_pos (show (0 : Int32) = 0 from rfl)]
      exact ⟨_, _, rfl, rfl, Or.inl ⟨rfl, rfl⟩⟩
    · rw [e1, e2, jp_xb, jp_xb, jp_xo1, if_neg (show ¬ (1 : Int32) = 0 by decide)]
      refine ⟨_, _, rfl, rfl, Or.inr ⟨rfl, rfl, nm, nc, nk + 1, ⟨d0.1, d0.2.1, h4⟩, ⟨rfl, rfl⟩, ⟨rfl, rfl⟩, ⟨rfl, rfl⟩, d4, d5, d6, fun z hz => ?_⟩⟩
      show ∃ v', v' ≤ 9 ∧ upd gv.2.2.2.2.1 nk (nI v) z = nI v' ∧ upd thatch nk (nI v) z = nI v'
      by_cases hzc : z = nk
      · subst hzc
        rw [upd_same, upd_same]
        exact ⟨v, v1, rfl, rfl⟩
      · rw [upd_ne hzc, upd_ne hzc]
        exact d7 z (by omega)
  by_cases k109 : c a = 109
  · rw [k109, if_neg (show ¬ nI 109 = (99 : Int32) by decide), if_neg (show ¬ nI 109 = (101 : Int32) by decide), if_neg (show ¬ nI 109 = (107 : Int32) by decide), if_pos (show nI 109 = (109 : Int32) from rfl), if_pos (show nI 109 = (109 : Int32) from rfl)]
    rcases jt_mower hR d0.1 (lt 109 k109 (by decide)) (show b ≤ n by omega) gv.1 gv.2.1 says words with ⟨u1, u2, m1, m2, w1, w2, e1, e2⟩ | ⟨h4, L, u, w, l1, l2, e1, e2, e3, e4⟩
    · rw [e1, e2, jp_xb, jp_xb, jp_xo0, jp_xo0]
      exact ⟨_, _, rfl, rfl, Or.inl ⟨rfl, rfl⟩⟩
    · rw [e1, e2, jp_xb, jp_xb, jp_xo1, jp_xo1]
      refine ⟨_, _, rfl, rfl, Or.inr ⟨rfl, rfl, nm + 1, nc, nk, ⟨h4, d0.2⟩, ⟨rfl, rfl⟩, ⟨rfl, rfl⟩, ⟨rfl, rfl⟩, fun z hz => ?_, d5, d6, d7⟩⟩
      show ∃ n, 1 ≤ n ∧ n ≤ 9 ∧ upd gv.2.1 nm (nI L) z = nI n ∧ upd says nm (nI L) z = nI n ∧ ∀ j, j < n → ∃ w', w' ≤ 9 ∧ u (9 * z + j) = nI w' ∧ w (9 * z + j) = nI w'
      by_cases hzc : z = nm
      · subst hzc
        rw [upd_same, upd_same]
        exact ⟨L, l1, l2, rfl, rfl, e3⟩
      · rw [upd_ne hzc, upd_ne hzc]
        obtain ⟨n', a1, a2, a3, a4, a5⟩ := d4 z (by omega)
        refine ⟨n', a1, a2, a3, a4, fun j hj => ?_⟩
        obtain ⟨w', b1, b2, b3⟩ := a5 j hj
        obtain ⟨f1, f2⟩ := e4 (9 * z + j) (by omega)
        exact ⟨w', b1, f1.trans b2, f2.trans b3⟩
  · rw [if_neg (show ¬ nI (c a) = (99 : Int32) from ne 99 (by decide) k99), if_neg (show ¬ nI (c a) = (101 : Int32) from ne 101 (by decide) k101), if_neg (show ¬ nI (c a) = (107 : Int32) from ne 107 (by decide) k107), if_neg (show ¬ nI (c a) = (109 : Int32) from ne 109 (by decide) k109), if_neg (show ¬ nI (c a) = (109 : Int32) from ne 109 (by decide) k109), if_neg (show ¬ nI (c a) = (101 : Int32) from ne 101 (by decide) k101), if_neg (show ¬ nI (c a) = (99 : Int32) from ne 99 (by decide) k99), if_neg (show ¬ nI (c a) = (107 : Int32) from ne 107 (by decide) k107)]
    exact ⟨_, _, rfl, rfl, Or.inl ⟨rfl, rfl⟩⟩
end ITEM2

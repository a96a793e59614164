/-- as xloop_rel, but the second may walk one step more before it leaves -/
theorem xloop_rel2 {σ1 σ2 β1 β2 : Type} (B1 : (σ1 → Option β1) → σ1 → Option β1) (B2 : (σ2 → Option β2) → σ2 → Option β2) (I : Nat → σ1 → σ2 → Prop) (Post : Option β1 → Option β2 → Prop)
    (hs : ∀ r q1 q2, I r q1 q2 → (∃ r' q1' q2', r = r' + 1 ∧ I r' q1' q2' ∧ (∀ k, B1 k q1 = k q1') ∧ (∀ k, B2 k q2 = k q2')) ∨ (∃ o1 o2, Post o1 o2 ∧ (∀ k, B1 k q1 = o1) ∧ ∀ k, B2 k q2 = o2) ∨ (∃ o1 o2 q2', Post o1 o2 ∧ (∀ k, B1 k q1 = o1) ∧ (∀ k, B2 k q2 = k q2') ∧ ∀ k, B2 k q2' = o2)) :
    ∀ r f1 f2 q1 q2, r < f1 → r + 1 < f2 → I r q1 q2 → Post (xloop B1 f1 q1) (xloop B2 f2 q2) := by
  intro r
  induction r with
  | zero =>
    intro f1 f2 q1 q2 h1 h2 hI
    obtain ⟨f1, rfl⟩ : ∃ z, f1 = z + 1 := ⟨f1 - 1, by omega⟩
    obtain ⟨f2, rfl⟩ : ∃ z, f2 = z + 1 + 1 := ⟨f2 - 2, by omega⟩
    rcases hs 0 q1 q2 hI with ⟨r', q1', q2', e, -⟩ | ⟨o1, o2, hp, e1, e2⟩ | ⟨o1, o2, q2', hp, e1, e2, e3⟩
    · omega
    · rw [xloop, xloop, e1, e2]; exact hp
    · rw [xloop, xloop, e1, e2, xloop, e3]; exact hp
  | succ r ih =>
    intro f1 f2 q1 q2 h1 h2 hI
    obtain ⟨f1, rfl⟩ : ∃ z, f1 = z + 1 := ⟨f1 - 1, by omega⟩
    obtain ⟨f2, rfl⟩ : ∃ z, f2 = z + 1 + 1 := ⟨f2 - 2, by omega⟩
    rcases hs (r + 1) q1 q2 hI with ⟨r', q1', q2', e, hI', e1, e2⟩ | ⟨o1, o2, hp, e1, e2⟩ | ⟨o1, o2, q2', hp, e1, e2, e3⟩
    · have : r' = r := by omega
      subst this
      rw [xloop, xloop, e1, e2]
      exact ih f1 (f2 + 1) q1' q2' (by omega) (by omega) hI'
    · rw [xloop, xloop, e1, e2]; exact hp
    · rw [xloop, xloop, e1, e2, xloop, e3]; exact hp
theorem jf_burns {nm nc nk : Nat} {gv : jLV} {mowers cows ricks weathers : Int32} {says words weather kindOf thatch : Nat → Int32} (hL : RLand nm nc nk gv mowers cows ricks weathers says words weather kindOf thatch) {h k b0 : Nat} (fv o : jFV) {st aside : Nat → Int32} (hh : h ≤ 999) (hk : k < 3) (hb : b0 ≤ h) (rp : RPart h nc nk o.1 o.2.1 o.2.2.1 o.2.2.2.1 o.2.2.2.2.1 o.2.2.2.2.2.1 o.2.2.2.2.2.2.1 o.2.2.2.2.2.2.2.1 o.2.2.2.2.2.2.2.2 st) (es : st (18 + k) = nI b0) (ea : aside (18 + k) = nI b0) :
    ∃ (a : Int32) (w : jFV) (st' : Nat → Int32), jf_H_burns_35 4000 fv.1 fv.2.1 fv.2.2.1 fv.2.2.2.1 fv.2.2.2.2.1 fv.2.2.2.2.2.1 fv.2.2.2.2.2.2.1 fv.2.2.2.2.2.2.2.1 fv.2.2.2.2.2.2.2.2 o.1 o.2.1 o.2.2.1 o.2.2.2.1 o.2.2.2.2.1 o.2.2.2.2.2.1 o.2.2.2.2.2.2.1 o.2.2.2.2.2.2.2.1 o.2.2.2.2.2.2.2.2 gv.1 gv.2.1 gv.2.2.1 gv.2.2.2.2.1 gv.2.2.2.2.2.1 gv.2.2.2.2.2.2.1 gv.2.2.2.2.2.2.2.2 (nI k) (nI b0) (1 : Int32) = some (a, w) ∧ jf_M_burns_23 4000 mowers ricks weathers says words weather thatch st aside (nI k) (0 : Int32) (fun q3 => jf_M_burns_60 4000 mowers ricks weathers says words weather thatch q3.1 aside (nI k) q3.2) = some (a, st', aside) ∧ ∀ j, j < 93 → st' j = aside j := by
  have leave : ∀ (s : Nat → Int32) (i b : Nat), s (18 + k) = nI b → b < 2 ^ 20 → i ≤ 60 → ∃ st' : Nat → Int32, jf_M_burns_60 4000 mowers ricks weathers says words weather thatch s aside (nI k) (nI i) = some (if b ≤ b0 then -4 else nI i, st', aside) ∧ ∀ j, j < 93 → st' j = aside j := by
    intro s i b e1 e2 e3
    obtain ⟨s', k1, k2⟩ := jm_take (N := 4000) (n := 93) s aside (by decide) (by decide)
    refine ⟨s', ?_, k2⟩
    unfold jf_M_burns_60 jf_M_burns_86
    rw [jl18, nI_add, jp_xr (by omega) (by decide), jp_xr (by omega) (by decide), nI_clamp (by omega), e1, ea, k1, jp_xb, jp_xb, jn_ite_le (by omega) (by omega)]
    by_cases hc : b ≤ b0
    · rw [if_pos hc, if_pos hc]
      rfl
    · rw [if_neg hc, if_neg hc]
      rfl
  unfold jf_H_burns_35 jf_M_burns_23
  have key := xloop_rel2 (σ1 := (Nat → Int32) × (Nat → Int32) × (Nat → Int32) × (Nat → Int32) × (Nat → Int32) × Int32 × Int32) (σ2 := (Nat → Int32) × Int32) (fun (kh : ((Nat → Int32) × (Nat → Int32) × (Nat → Int32) × (Nat → Int32) × (Nat → Int32) × Int32 × Int32) → Option (Int32 × (Nat → Int32) × (Nat → Int32) × (Nat → Int32) × (Nat → Int32) × (Nat → Int32) × (Nat → Int32) × (Nat → Int32) × (Nat → Int32) × Int32)) q => jf_H_burns_35B 4000 fv.1 fv.2.1 fv.2.2.1 fv.2.2.2.1 fv.2.2.2.2.1 fv.2.2.2.2.2.1 fv.2.2.2.2.2.2.1 fv.2.2.2.2.2.2.2.1 fv.2.2.2.2.2.2.2.2 q.1 q.2.1 o.2.2.1 q.2.2.1 q.2.2.2.1 o.2.2.2.2.2.1 o.2.2.2.2.2.2.1 q.2.2.2.2.1 q.2.2.2.2.2.1 gv.1 gv.2.1 gv.2.2.1 gv.2.2.2.2.1 gv.2.2.2.2.2.1 gv.2.2.2.2.2.2.1 gv.2.2.2.2.2.2.2.2 (nI k) (nI b0) q.2.2.2.2.2.2 kh) (fun (kh : ((Nat → Int32) × Int32) → Option (Int32 × (Nat → Int32) × (Nat → Int32))) q => jf_M_burns_23B 4000 mowers ricks weathers says words weather thatch q.1 aside (nI k) q.2 kh (fun q3 => jf_M_burns_60 4000 mowers ricks weathers says words weather thatch q3.1 aside (nI k) q3.2))
    (fun r q1 q2 => ∃ i : Nat, i + r = 60 ∧ q1.2.2.2.2.2.2 = nI (i + 1) ∧ q2.2 = nI i ∧ RPart (h + i) nc nk q1.1 q1.2.1 o.2.2.1 q1.2.2.1 q1.2.2.2.1 o.2.2.2.2.2.1 o.2.2.2.2.2.2.1 q1.2.2.2.2.1 q1.2.2.2.2.2.1 q2.1 ∧ q2.1 (18 + k) = nI b0)
    (fun o1 o2 => ∃ (a : Int32) (w : jFV) (st' : Nat → Int32), o1 = some (a, w) ∧ o2 = some (a, st', aside) ∧ ∀ j, j < 93 → st' j = aside j) ?_ 60 4000 4000 (o.1, o.2.1, o.2.2.2.1, o.2.2.2.2.1, o.2.2.2.2.2.2.2.1, o.2.2.2.2.2.2.2.2, 1) (st, 0) (by omega) (by omega) ⟨0, by omega, rfl, rfl, rp, es⟩
  · exact key
  · intro r q1 q2 ⟨i, hi, g1, g2, g3, g4⟩
    by_cases hr : r = 0
    · have hi : i = 60 := by omega
      subst hi
      obtain ⟨s', l1, l2⟩ := leave q2.1 60 b0 g4 (by omega) (by omega)
      refine Or.inr (Or.inl ⟨some (-4, (q1.1, q1.2.1, o.2.2.1, q1.2.2.1, q1.2.2.2.1, o.2.2.2.2.2.1, o.2.2.2.2.2.2.1, q1.2.2.2.2.1, q1.2.2.2.2.2.1)), some (-4, s', aside), ⟨-4, (q1.1, q1.2.1, o.2.2.1, q1.2.2.1, q1.2.2.2.1, o.2.2.2.2.2.1, o.2.2.2.2.2.2.1, q1.2.2.2.2.1, q1.2.2.2.2.2.1), s', rfl, rfl, l2⟩, fun kh => ?_, fun kh => ?_⟩)
      · unfold jf_H_burns_35B
        rw [g1, jl60, if_pos (nI_lt (by omega) (by decide))]
      · unfold jf_M_burns_23B
        rw [g2, jl60, if_pos (nI_le (Nat.le_refl _) (by decide))]
        show jf_M_burns_60 4000 mowers ricks weathers says words weather thatch q2.1 aside (nI k) (nI 60) = _
        rw [l1, if_pos (Nat.le_refl _)]
    · obtain ⟨q, s2, p1, p2, p3, p4⟩ := jf_hour hL (N := 4000) (by decide) (show h + i < 2 ^ 19 by omega) g3
      obtain ⟨b, b1, b2, b3⟩ := p3.2.1 k hk
      obtain ⟨c, c1, c2, c3⟩ := p4 k hk b0 (by omega) g4
      have b1' : b ≤ h + i + 1 := b1
      have hbc : b = c := (nI_eq (by omega) (by omega)).mp (b3.symm.trans c3)
      have hB2 : ∀ kh, jf_M_burns_23B 4000 mowers ricks weathers says words weather thatch q2.1 aside (nI k) q2.2 kh (fun q3 => jf_M_burns_60 4000 mowers ricks weathers says words weather thatch q3.1 aside (nI k) q3.2) = kh (s2, nI (i + 1)) := by
        intro kh
        unfold jf_M_burns_23B
        rw [g2, jl60, if_neg (nI_ge (by omega) (by decide)), jl18, nI_add, jp_xr (by omega) (by decide), jp_xr (by omega) (by decide), nI_clamp (by omega), g4, ea, if_pos rfl, p2, jp_xb, jp_xl, nI_1]
      by_cases hle : b ≤ b0
      · refine Or.inl ⟨r - 1, (q.1, q.2.1, q.2.2.1, q.2.2.2.1, q.2.2.2.2.1, q.2.2.2.2.2, nI (i + 1 + 1)), (s2, nI (i + 1)), by omega, ⟨i + 1, by omega, rfl, rfl, p3, ?_⟩, fun kh => ?_, hB2⟩
        · rw [show b0 = b by omega]
          exact b3
        · unfold jf_H_burns_35B
          rw [g1, jl60, if_neg (nI_nlt (by omega) (by omega)), p1, jp_xb, jr_at hk (by decide), jp_xb, b2, if_pos (nI_le hle (by omega)), jp_xl, nI_1]
      · obtain ⟨s', l1, l2⟩ := leave s2 (i + 1) b b3 (by omega) (by omega)
        refine Or.inr (Or.inr ⟨some (nI (i + 1), (q.1, q.2.1, o.2.2.1, q.2.2.1, q.2.2.2.1, o.2.2.2.2.2.1, o.2.2.2.2.2.2.1, q.2.2.2.2.1, q.2.2.2.2.2)), some (nI (i + 1), s', aside), (s2, nI (i + 1)), ⟨nI (i + 1), (q.1, q.2.1, o.2.2.1, q.2.2.1, q.2.2.2.1, o.2.2.2.2.2.1, o.2.2.2.2.2.2.1, q.2.2.2.2.1, q.2.2.2.2.2), s', rfl, rfl, l2⟩, fun kh => ?_, hB2, fun kh => ?_⟩)
        · unfold jf_H_burns_35B
          rw [g1, jl60, if_neg (nI_nlt (by omega) (by omega)), p1, jp_xb, jr_at hk (by decide), jp_xb, b2, if_neg (fun z => hle ((nI_leI (by omega) (by omega)).mp z))]
        · rw [if_neg hle] at l1
          unfold jf_M_burns_23B
          rw [jl60, jl18, nI_add, jp_xr (by omega) (by decide), jp_xr (by omega) (by decide), nI_clamp (by omega)]
          show (if nI 60 ≤ nI (i + 1) then jf_M_burns_60 4000 mowers ricks weathers says words weather thatch s2 aside (nI k) (nI (i + 1)) else if s2 (18 + k) = aside (18 + k) then _ else jf_M_burns_60 4000 mowers ricks weathers says words weather thatch s2 aside (nI k) (nI (i + 1))) = _
          have hne : ¬ nI b = nI b0 := fun z => hle (by have := (nI_eq (by omega) (by omega)).mp z; omega)
          rw [l1, b3, ea, if_neg hne, ite_self]
theorem jop_15 (x : jX) (y : jM) (v : Nat → Int32) (h : jRel x y) : ∃ (o1 : Int32 × jX) (o2 : Int32 × jM), jh 4000 15 x v = some o1 ∧ jm 4000 15 y v = some o2 ∧ o1.1 = o2.1 ∧ jRel o1.2 o2.2 := by
  obtain ⟨nm, nc, nk, hL, hF, hT, hS, hP, hK⟩ := h
  show ∃ (o1 : Int32 × jX) (o2 : Int32 × jM), jh_15 4000 x (v 1) = some o1 ∧ jm_15 4000 y (v 1) = some o2 ∧ o1.1 = o2.1 ∧ jRel o1.2 o2.2
  unfold jh_15 jm_15 jf_H_burns jf_M_burns
  rcases jl_rick hL (N := 4000) (v 1) with ⟨k, hk, e, h1, h2⟩ | ⟨-, h1, h2⟩
  · have hk3 : k < 3 := Nat.lt_of_lt_of_le hk hL.1.2.2.2.2.2
    obtain ⟨o, c1, c2⟩ := jf_copyFrom (N := 4000) (by decide) x.2.2.2.1 x.2.2.1
    obtain ⟨aside, d1, d2⟩ := jm_take (N := 4000) (n := 93) y.2.2.2.2.2.2.2.2.2.2.2.2.2.2.2.2.2.2.2.2.2.2.2.1 y.2.2.2.2.2.2.2.2.2.2.2.2.2.2.2.2.2.2.2.2.1 (by decide) (by decide)
    have hF2 : RField 999 nc nk o y.2.2.2.2.2.2.2.2.2.2.2.2.2.2.2.2.2.2.2.2.1 := hF.cong c2 (fun _ _ => rfl)
    obtain ⟨hh, r1, r2⟩ := RPart_to hF2
    obtain ⟨b, b1, b2, b3⟩ := r2.2.1 k hk3
    obtain ⟨a, w, s', m1, m2, m3⟩ := jf_burns hL (aside := aside) x.2.2.1 o r1 hk3 b1 r2 b3 ((d2 _ (by omega)).trans b3)
    rw [h1, h2, jp_xb, jp_xb, if_neg (show ¬ (1 : Int32) = 0 by decide), if_neg (show ¬ (1 : Int32) = 0 by decide), e, c1, jp_xb, jr_at hk3 (by decide), jp_xb, b2, m1, jp_xb, d1, jp_xb, m2, jp_xb]
    exact ⟨_, _, rfl, rfl, rfl, nm, nc, nk, hL, hF.cong FEq.rfl (fun j hj => (m3 j hj).trans (d2 j hj)), hT, hS, hP, hK⟩
  · rw [h1, h2, jp_xb, jp_xb, if_pos (show (0 : Int32) = 0 from rfl), if_pos (show (0 : Int32) = 0 from rfl), jp_xb, jp_xb]
    exact ⟨_, _, rfl, rfl, rfl, nm, nc, nk, hL, hF, hT, hS, hP, hK⟩

theorem jp_pop {N M q n : Nat} (hN : 24 < N) (hM : M < 2 ^ 30) (hq : q < M) (h0 : 0 < n) (hn : n ≤ M) (v : Nat → jFV) (a : jFV) :
    ∃ o : jFV, jf_P_popInto N M (nI q) (nI n) v a.1 a.2.1 a.2.2.1 a.2.2.2.1 a.2.2.2.2.1 a.2.2.2.2.2.1 a.2.2.2.2.2.2.1 a.2.2.2.2.2.2.2.1 a.2.2.2.2.2.2.2.2 = some (nI (if q = 0 then M - 1 else q - 1), nI (n - 1), o) ∧ FEq o (v q) := by
  obtain ⟨o, e1, e2⟩ := jf_copyFrom hN a (v q)
  refine ⟨o, ?_, e2⟩
  unfold jf_P_popInto jf_P_popInto_55
  rw [jp_newest hq hM, jp_xb]
  show (if nI n ≤ 0 then _ else xg (q < M) _) = _
  rw [if_neg (nI_nle h0 (by omega)), jp_xg hq, e1, jp_xb, jl1, jn_sub (by omega), jp_xl, jn_sub (by omega)]
  by_cases hz : q = 0
  · subst hz
    rw [if_pos (by decide), if_pos rfl]
  · rw [if_neg (nI_nle (by omega) (by omega)), if_neg hz, jn_sub (by omega)]
theorem jm_undo22 {N p : Nat} (hN : 93 < N) (hp : p < 8) (st past : Nat → Int32) (kx : (Nat → Int32) → Option (Int32 × (Nat → Int32) × Int32)) : ∃ r, jf_M_undo_22 N st (nI p) past (0 : Int32) kx = kx r ∧ ∀ j, j < 93 → r j = past (93 * p + j) := by
  unfold jf_M_undo_22
  refine xloop_one _ (fun (r : Nat) (q : (Nat → Int32) × Int32) => ∃ i : Nat, i + r = 93 ∧ q.2 = nI i ∧ ∀ j, j < i → q.1 j = past (93 * p + j)) (fun (o : Option (Int32 × (Nat → Int32) × Int32)) => ∃ r, o = kx r ∧ ∀ j, j < 93 → r j = past (93 * p + j)) (fun r q h => ?_) 93 N _ hN ⟨0, by omega, rfl, fun j hj => by omega⟩
  obtain ⟨i, hi, h2, h3⟩ := h
  by_cases hr : r = 0
  · refine Or.inr ⟨kx q.1, ⟨q.1, rfl, fun j hj => h3 j (by omega)⟩, fun k => ?_⟩
    unfold jf_M_undo_22B
    rw [h2, jl93, if_pos (nI_le (by omega) (by omega))]
  · refine Or.inl ⟨r - 1, (upd q.1 i (past (93 * p + i)), nI (i + 1)), by omega, ⟨i + 1, by omega, rfl, fun j hj => ?_⟩, fun k => ?_⟩
    · show upd q.1 _ _ _ = _
      by_cases hj2 : j = i
      · rw [hj2, upd_same]
      · rw [upd_ne (by omega)]; exact h3 j (by omega)
    · unfold jf_M_undo_22B
      rw [h2, jl93, if_neg (nI_ge (by omega) (by decide)), pk_mul, nI_add, jp_xr (by omega) (by decide), jp_xr (by omega) (by decide), nI_clamp (by omega), nI_clamp (by omega), jp_xl, jp_xl, nI_1]
theorem jm_back22 {N p : Nat} (hN : 93 < N) (hp : p < 2) (st kept : Nat → Int32) (pasts : Int32) (kx : (Nat → Int32) → Option (Int32 × (Nat → Int32) × Int32 × Int32)) : ∃ r, jf_M_back_22 N st pasts (nI p) kept (0 : Int32) kx = kx r ∧ ∀ j, j < 93 → r j = kept (93 * p + j) := by
  unfold jf_M_back_22
  refine xloop_one _ (fun (r : Nat) (q : (Nat → Int32) × Int32) => ∃ i : Nat, i + r = 93 ∧ q.2 = nI i ∧ ∀ j, j < i → q.1 j = kept (93 * p + j)) (fun (o : Option (Int32 × (Nat → Int32) × Int32 × Int32)) => ∃ r, o = kx r ∧ ∀ j, j < 93 → r j = kept (93 * p + j)) (fun r q h => ?_) 93 N _ hN ⟨0, by omega, rfl, fun j hj => by omega⟩
  obtain ⟨i, hi, h2, h3⟩ := h
  by_cases hr : r = 0
  · refine Or.inr ⟨kx q.1, ⟨q.1, rfl, fun j hj => h3 j (by omega)⟩, fun k => ?_⟩
    unfold jf_M_back_22B
    rw [h2, jl93, if_pos (nI_le (by omega) (by omega))]
  · refine Or.inl ⟨r - 1, (upd q.1 i (kept (93 * p + i)), nI (i + 1)), by omega, ⟨i + 1, by omega, rfl, fun j hj => ?_⟩, fun k => ?_⟩
    · show upd q.1 _ _ _ = _
      by_cases hj2 : j = i
      · rw [hj2, upd_same]
      · rw [upd_ne (by omega)]; exact h3 j (by omega)
    · unfold jf_M_back_22B
      rw [h2, jl93, if_neg (nI_ge (by omega) (by decide)), pk_mul, nI_add, jp_xr (by omega) (by decide), jp_xr (by omega) (by decide), nI_clamp (by omega), nI_clamp (by omega), jp_xl, jp_xl, nI_1]
theorem jm_keep13 {N p : Nat} (hN : 93 < N) (hp : p < 2) (st kept : Nat → Int32) (kx : (Nat → Int32) → Option (Int32 × Int32 × (Nat → Int32))) : ∃ r, jf_M_keep_13 N st (nI p) kept (0 : Int32) kx = kx r ∧ (∀ j, j < 93 → r (93 * p + j) = st j) ∧ ∀ j, j < 93 * p → r j = kept j := by
  unfold jf_M_keep_13
  refine xloop_one _ (fun (r : Nat) (q : (Nat → Int32) × Int32) => ∃ i : Nat, i + r = 93 ∧ q.2 = nI i ∧ (∀ j, j < i → q.1 (93 * p + j) = st j) ∧ ∀ j, j < 93 * p → q.1 j = kept j) (fun (o : Option (Int32 × Int32 × (Nat → Int32))) => ∃ r, o = kx r ∧ (∀ j, j < 93 → r (93 * p + j) = st j) ∧ ∀ j, j < 93 * p → r j = kept j) (fun r q h => ?_) 93 N _ hN ⟨0, by omega, rfl, fun j hj => by omega, fun j _ => rfl⟩
  obtain ⟨i, hi, h2, h3, h4⟩ := h
  by_cases hr : r = 0
  · refine Or.inr ⟨kx q.1, ⟨q.1, rfl, fun j hj => h3 j (by omega), h4⟩, fun k => ?_⟩
    unfold jf_M_keep_13B
    rw [h2, jl93, if_pos (nI_le (by omega) (by omega))]
  · refine Or.inl ⟨r - 1, (upd q.1 (93 * p + i) (st i), nI (i + 1)), by omega, ⟨i + 1, by omega, rfl, fun j hj => ?_, fun j hj => ?_⟩, fun k => ?_⟩
    · show upd q.1 _ _ _ = _
      by_cases hj2 : j = i
      · rw [hj2, upd_same]
      · rw [upd_ne (by omega)]; exact h3 j (by omega)
    · show upd q.1 _ _ _ = _
      rw [upd_ne (by omega)]; exact h4 j hj
    · unfold jf_M_keep_13B
      rw [h2, jl93, if_neg (nI_ge (by omega) (by decide)), jp_xr (by omega) (by decide), pk_mul, nI_add, jp_xr (by omega) (by decide), nI_clamp (by omega), nI_clamp (by omega), jp_xl, jp_xl, nI_1]
theorem RPile.pop {M nc nk : Nat} (hM : M = 8 ∨ M = 2) {q n : Nat} {v : Nat → jFV} {row : Nat → Int32} (hq : q < M) (hn : n ≤ M) (h0 : 0 < n) (h : ∀ j, j < n → RField 999 nc nk (v ((q + M - j) % M)) (fun t => row (93 * (n - 1 - j) + t))) :
    RPile M nc nk (nI (if q = 0 then M - 1 else q - 1)) (nI (n - 1)) v (nI (n - 1)) row ∧ RField 999 nc nk (v q) (fun t => row (93 * (n - 1) + t)) := by
  refine ⟨⟨if q = 0 then M - 1 else q - 1, n - 1, by split <;> omega, by omega, rfl, rfl, rfl, fun j hj => ?_⟩, ?_⟩
  · have g := h (j + 1) (by omega)
    rw [show n - 1 - (j + 1) = n - 1 - 1 - j by omega] at g
    rcases hM with rfl | rfl
    · rw [show ((if q = 0 then 8 - 1 else q - 1) + 8 - j) % 8 = (q + 8 - (j + 1)) % 8 by split <;> omega]
      exact g
    · rw [show ((if q = 0 then 2 - 1 else q - 1) + 2 - j) % 2 = (q + 2 - (j + 1)) % 2 by split <;> omega]
      exact g
  · have g := h 0 h0
    rw [show n - 1 - 0 = n - 1 by omega] at g
    rcases hM with rfl | rfl
    · rw [show (q + 8 - 0) % 8 = q by omega] at g
      exact g
    · rw [show (q + 2 - 0) % 2 = q by omega] at g
      exact g
theorem jop_8 (x : jX) (y : jM) (v : Nat → Int32) (h : jRel x y) : ∃ (o1 : Int32 × jX) (o2 : Int32 × jM), jh 4000 8 x v = some o1 ∧ jm 4000 8 y v = some o2 ∧ o1.1 = o2.1 ∧ jRel o1.2 o2.2 := by
  obtain ⟨nm, nc, nk, hL, hF, hT, hS, hP, hK⟩ := h
  show ∃ (o1 : Int32 × jX) (o2 : Int32 × jM), jh_8 4000 x (v 1) = some o1 ∧ jm_8 4000 y (v 1) = some o2 ∧ o1.1 = o2.1 ∧ jRel o1.2 o2.2
  unfold jh_8 jm_8 jf_H_pass jf_M_pass
  rcases jh_within (N := 4000) (v 1) 1 24 (by decide) (by decide) with ⟨j, j1, j2, jx, e1⟩ | ⟨j1, e1⟩
  · rcases jm_in (N := 4000) (v 1) 1 24 (by decide) (by decide) with ⟨j', j1', j2', jx', e2⟩ | ⟨j1', e2⟩
    · obtain ⟨hh, h1, h2⟩ := RPart_to hF
      have a1 := h2.1.1
      have a2 := h2.1.2
      rw [jL1, jL24, jl1, jl24, e1, e2, jp_xb, jp_xb, if_neg (show ¬ (1 : Int32) = 0 by decide), if_neg (show ¬ (1 : Int32) = 0 by decide), jp_xr0 (by decide) (by decide), jz0, a1, a2, jx, nI_add, jl999]
      by_cases hc : hh + j ≤ 999
      · rw [if_pos (nI_le hc (by decide)), if_pos (nI_le hc (by decide))]
        obtain ⟨p1, p2, p3, p4, p5⟩ := hP.push hF (N := 4000) (by decide)
        obtain ⟨q, s2, g1, g2, g3⟩ := jf_hours hL (N := 4000) (n := j) (by decide) (by omega) (by omega) h2 (fun kh q => jf_M_pass_37B 4000 y.2.2.1 y.2.2.2.2.1 y.2.2.2.2.2.1 y.2.2.2.2.2.2.1 y.2.2.2.2.2.2.2.1 y.2.2.2.2.2.2.2.2.1 y.2.2.2.2.2.2.2.2.2.2.1 q.1 p2.1 p2.2 (nI j) q.2 kh (fun q3 => jf_M_pass_52 4000 y.2.2.1 y.2.2.2.2.1 y.2.2.2.2.2.1 y.2.2.2.2.2.2.1 y.2.2.2.2.2.2.2.1 y.2.2.2.2.2.2.2.2.1 y.2.2.2.2.2.2.2.2.2.2.1 q3 p2.1 p2.2)) (fun q3 => jf_M_pass_52 4000 y.2.2.1 y.2.2.2.2.1 y.2.2.2.2.2.1 y.2.2.2.2.2.2.1 y.2.2.2.2.2.2.2.1 y.2.2.2.2.2.2.2.2.1 y.2.2.2.2.2.2.2.2.2.2.1 q3 p2.1 p2.2) (fun _ _ => rfl)
        rw [a1] at p3 g1
        unfold jf_M_pass_37
        rw [p3, jp_xb, g1, jp_xb, jp_xb, p4, jp_xb, g2]
        unfold jf_M_pass_52
        rw [jp_xr0 (by decide) (by decide), jz0, jp_xb]
        exact ⟨_, _, rfl, rfl, g3.1.1.trans g3.1.2.symm, nm, nc, nk, hL, RPart_of hc g3, hT, hS, p5, hK⟩
      · have hc' : ¬ nI (hh + j) ≤ nI 999 := fun q => hc ((nI_leI (by omega) (by decide)).mp q)
        rw [if_neg hc', if_neg hc', jp_xb, jp_xb]
        refine ⟨_, _, rfl, rfl, rfl, nm, nc, nk, hL, ?_, hT, hS, hP, hK⟩
        rw [← a1]
        exact hF
    · exact absurd jx (j1' j j1 j2)
  · rcases jm_in (N := 4000) (v 1) 1 24 (by decide) (by decide) with ⟨j', j1', j2', jx', e2⟩ | ⟨j1', e2⟩
    · exact absurd jx' (j1 j' j1' j2')
    · rw [jL1, jL24, jl1, jl24, e1, e2, jp_xb, jp_xb, if_pos (by decide), if_pos (by decide), jp_xb, jp_xb]
      exact ⟨_, _, rfl, rfl, rfl, nm, nc, nk, hL, hF, hT, hS, hP, hK⟩

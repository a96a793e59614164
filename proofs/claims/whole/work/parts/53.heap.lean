/-! heaping -/
theorem RRic.zero {nk k : Nat} {heights lw lwet lheat st : Nat → Int32} (r : RRic nk heights lw lwet lheat st) (hk : k < 3) : RRic nk (upd heights k (nI 0)) lw lwet lheat (upd st (15 + k) (nI 0)) := by
  intro j hj
  by_cases hjk : j = k
  · subst hjk
    exact ⟨0, by omega, fun _ => rfl, upd_same, upd_same, fun i hi => by omega⟩
  · obtain ⟨m, m1, m2, m3, m4, m5⟩ := r j hj
    refine ⟨m, m1, m2, (upd_ne hjk).trans m3, (upd_ne (by omega)).trans m4, fun i hi => ?_⟩
    rw [upd_ne (by omega), upd_ne (by omega), upd_ne (by omega)]
    exact m5 i hi
theorem jf_stack {N nk k1 k2 n1 n2 : Nat} {heights lw lwet lheat st : Nat → Int32} (hN : 8 < N) (r : RRic nk heights lw lwet lheat st) (h1 : k1 < 3) (h2 : k2 < 3) (h3 : k2 < nk) (hne : k1 ≠ k2) (e1 : heights k1 = nI n1) (e2 : heights k2 = nI n2) (hn : n1 + n2 ≤ 8) (ricks pasts : Int32) (past : Nat → Int32) (kx1 : ((Nat → Int32) × (Nat → Int32) × (Nat → Int32) × (Nat → Int32)) → Option ((Nat → Int32) × (Nat → Int32) × (Nat → Int32) × (Nat → Int32))) (kx2 : (Nat → Int32) → Option (Int32 × (Nat → Int32) × Int32 × (Nat → Int32))) :
    ∃ (o : (Nat → Int32) × (Nat → Int32) × (Nat → Int32) × (Nat → Int32)) (s2 : Nat → Int32), jf_F_stack_9 N heights lw lwet lheat (nI k1) (nI k2) (nI n1) (0 : Int32) kx1 = kx1 o ∧ jf_M_heap_72 N ricks st pasts past (nI k1) (nI k2) (nI n1) (0 : Int32) kx2 = kx2 s2 ∧ RRic nk o.1 o.2.1 o.2.2.1 o.2.2.2 s2 ∧ o.1 k2 = nI (n2 + n1) ∧ ∀ j, j < 15 ∨ (18 ≤ j ∧ j < 21) → s2 j = st j := by
  unfold jf_F_stack_9 jf_M_heap_72
  refine xloop_rel (σ1 := (Nat → Int32) × (Nat → Int32) × (Nat → Int32) × (Nat → Int32) × Int32) (σ2 := (Nat → Int32) × Int32) (fun (kh : ((Nat → Int32) × (Nat → Int32) × (Nat → Int32) × (Nat → Int32) × Int32) → Option ((Nat → Int32) × (Nat → Int32) × (Nat → Int32) × (Nat → Int32))) q => jf_F_stack_9B N q.1 q.2.1 q.2.2.1 q.2.2.2.1 (nI k1) (nI k2) (nI n1) q.2.2.2.2 kh kx1) (fun (kh : ((Nat → Int32) × Int32) → Option (Int32 × (Nat → Int32) × Int32 × (Nat → Int32))) q => jf_M_heap_72B N ricks q.1 pasts past (nI k1) (nI k2) (nI n1) q.2 kh kx2)
    (fun r q1 q2 => ∃ i : Nat, i + r = n1 ∧ q1.2.2.2.2 = nI i ∧ q2.2 = nI i ∧ RRic nk q1.1 q1.2.1 q1.2.2.1 q1.2.2.2.1 q2.1 ∧ q1.1 k1 = nI n1 ∧ q1.1 k2 = nI (n2 + i) ∧ ∀ j, j < 15 ∨ (18 ≤ j ∧ j < 21) → q2.1 j = st j)
    (fun o1 o2 => ∃ (o : (Nat → Int32) × (Nat → Int32) × (Nat → Int32) × (Nat → Int32)) (s2 : Nat → Int32), o1 = kx1 o ∧ o2 = kx2 s2 ∧ RRic nk o.1 o.2.1 o.2.2.1 o.2.2.2 s2 ∧ o.1 k2 = nI (n2 + n1) ∧ ∀ j, j < 15 ∨ (18 ≤ j ∧ j < 21) → s2 j = st j) ?_ n1 N N (heights, lw, lwet, lheat, 0) (st, 0) (by omega) (by omega) ⟨0, by omega, rfl, rfl, r, e1, e2, fun j _ => rfl⟩
  intro r q1 q2 ⟨i, hi, g1, g2, g3, g4, g5, g6⟩
  by_cases hr : r = 0
  · have hi : i = n1 := by omega
    subst hi
    refine Or.inr ⟨kx1 (q1.1, q1.2.1, q1.2.2.1, q1.2.2.2.1), kx2 q2.1, ⟨(q1.1, q1.2.1, q1.2.2.1, q1.2.2.2.1), q2.1, rfl, rfl, g3, g5, g6⟩, fun kh => ?_, fun kh => ?_⟩
    · unfold jf_F_stack_9B
      rw [g1, if_pos (nI_le (Nat.le_refl _) (by omega))]
    · unfold jf_M_heap_72B
      rw [g2, if_pos (nI_le (Nat.le_refl _) (by omega))]
  · obtain ⟨m, m1, -, m3, m4, m5⟩ := g3 k1 h1
    have hm : m = n1 := (nI_eq (by omega) (by omega)).mp (m3.symm.trans g4)
    subst hm
    obtain ⟨⟨w, w1, w2, w3⟩, ⟨d, d1, d2, d3⟩, t, t1, t2, t3⟩ := m5 i (by omega)
    obtain ⟨p, p1, -, p3, p4, -⟩ := g3 k2 h2
    have hp : p = n2 + i := (nI_eq (by omega) (by omega)).mp (p3.symm.trans g5)
    subst hp
    refine Or.inl ⟨r - 1, (upd q1.1 k2 (nI (n2 + i + 1)), upd q1.2.1 (8 * k2 + (n2 + i)) (nI w), upd q1.2.2.1 (8 * k2 + (n2 + i)) (nI d), upd q1.2.2.2.1 (8 * k2 + (n2 + i)) (nI t), nI (i + 1)), (upd (upd (upd (upd q2.1 (21 + (8 * k2 + (n2 + i))) (nI w)) (45 + (8 * k2 + (n2 + i))) (nI d)) (69 + (8 * k2 + (n2 + i))) (nI t)) (15 + k2) (nI (n2 + i + 1)), nI (i + 1)), by omega, ⟨i + 1, by omega, rfl, rfl, ?_, ?_, upd_same, fun j hj => ?_⟩, fun kh => ?_, fun kh => ?_⟩
    · refine g3.add h2 h3 (by omega) g5 w1 d1 t1 upd_same ?_ ?_ ?_ (fun j a1 a2 a3 a4 a5 => ?_)
      · show upd _ _ _ _ = _
        rw [upd_ne (by omega), upd_ne (by omega), upd_ne (by omega), upd_same]
      · show upd _ _ _ _ = _
        rw [upd_ne (by omega), upd_ne (by omega), upd_same]
      · show upd _ _ _ _ = _
        rw [upd_ne (by omega), upd_same]
      · show upd _ _ _ _ = _
        rw [upd_ne a2, upd_ne a5, upd_ne a4, upd_ne a3]
    · show upd _ _ _ _ = _
      rw [upd_ne hne]
      exact g4
    · show upd _ _ _ _ = _
      rw [upd_ne (by omega), upd_ne (by omega), upd_ne (by omega), upd_ne (by omega)]
      exact g6 j hj
    · unfold jf_F_stack_9B
      rw [g1, if_neg (nI_ge (by omega) (by omega)), jf_wor h1 (by omega), jp_xb, jf_wet h1 (by omega), jp_xb, jf_hea h1 (by omega), jp_xb, w2, d2, t2, jf_add h2 (by omega) g5, jp_xb, jp_xl, nI_1]
    · unfold jf_M_heap_72B
      rw [g2, if_neg (nI_ge (by omega) (by omega)), jl15, nI_add, jp_xr (by omega) (by decide), nI_clamp (by omega), p4, jl8, pk_mul, pk_mul, nI_add, nI_add, jp_xl, jp_xl, jl21, nI_add, nI_add, jl45, nI_add, nI_add, jl69, nI_add, nI_add, jp_xr (show 21 + (8 * k1 + i) < 93 by omega) (by decide), jp_xr (show 21 + (8 * k2 + (n2 + i)) < 93 by omega) (by decide), nI_clamp (show 21 + (8 * k1 + i) < 2 ^ 31 by omega), nI_clamp (show 21 + (8 * k2 + (n2 + i)) < 2 ^ 31 by omega), w3, jp_xl]
      rw [jp_xr (show 45 + (8 * k1 + i) < 93 by omega) (by decide), jp_xr (show 45 + (8 * k2 + (n2 + i)) < 93 by omega) (by decide), nI_clamp (show 45 + (8 * k1 + i) < 2 ^ 31 by omega), nI_clamp (show 45 + (8 * k2 + (n2 + i)) < 2 ^ 31 by omega), upd_ne (show 45 + (8 * k1 + i) ≠ 21 + (8 * k2 + (n2 + i)) by omega), d3, jp_xl]
      rw [jp_xr (show 69 + (8 * k1 + i) < 93 by omega) (by decide), jp_xr (show 69 + (8 * k2 + (n2 + i)) < 93 by omega) (by decide), nI_clamp (show 69 + (8 * k1 + i) < 2 ^ 31 by omega), nI_clamp (show 69 + (8 * k2 + (n2 + i)) < 2 ^ 31 by omega), upd_ne (show 69 + (8 * k1 + i) ≠ 45 + (8 * k2 + (n2 + i)) by omega), upd_ne (show 69 + (8 * k1 + i) ≠ 21 + (8 * k2 + (n2 + i)) by omega), t3, jp_xl]
      rw [jp_xr (show 15 + k2 < 93 by omega) (by decide), jp_xr (show 15 + k2 < 93 by omega) (by decide), upd_ne (show 15 + k2 ≠ 69 + (8 * k2 + (n2 + i)) by omega), upd_ne (show 15 + k2 ≠ 45 + (8 * k2 + (n2 + i)) by omega), upd_ne (show 15 + k2 ≠ 21 + (8 * k2 + (n2 + i)) by omega), p4, nI_1, jp_xl, jp_xl, nI_1]
theorem jop_12 (x : jX) (y : jM) (v : Nat → Int32) (h : jRel x y) : ∃ (o1 : Int32 × jX) (o2 : Int32 × jM), jh 4000 12 x v = some o1 ∧ jm 4000 12 y v = some o2 ∧ o1.1 = o2.1 ∧ jRel o1.2 o2.2 := by
  obtain ⟨nm, nc, nk, hL, hF, hT, hS, hP, hK⟩ := h
  show ∃ (o1 : Int32 × jX) (o2 : Int32 × jM), jh_12 4000 x (v 1) (v 2) = some o1 ∧ jm_12 4000 y (v 1) (v 2) = some o2 ∧ o1.1 = o2.1 ∧ jRel o1.2 o2.2
  unfold jh_12 jm_12 jf_H_heap jf_M_heap
  rcases jl_rick hL (N := 4000) (v 1) with ⟨a, ha, ea, h1, h2⟩ | ⟨-, h1, h2⟩
  · have ha3 : a < 3 := Nat.lt_of_lt_of_le ha hL.1.2.2.2.2.2
    rw [h1, h2, jp_xb, jp_xb, if_neg (show ¬ (1 : Int32) = 0 by decide), if_neg (show ¬ (1 : Int32) = 0 by decide)]
    rcases jl_rick hL (N := 4000) (v 2) with ⟨b, hb, eb, h3, h4⟩ | ⟨-, h3, h4⟩
    · have hb3 : b < 3 := Nat.lt_of_lt_of_le hb hL.1.2.2.2.2.2
      rw [h3, h4, jp_xb, jp_xb, if_neg (show ¬ (1 : Int32) = 0 by decide), if_neg (show ¬ (1 : Int32) = 0 by decide)]
      by_cases hab : a = b
      · have hab' : v 1 = v 2 := by rw [ea, eb, hab]
        rw [if_pos hab', if_pos hab', jp_xb, jp_xb]
        exact ⟨_, _, rfl, rfl, rfl, nm, nc, nk, hL, hF, hT, hS, hP, hK⟩
      · have hab' : ¬ v 1 = v 2 := by rw [ea, eb]; exact fun z => hab ((nI_eq (by omega) (by omega)).mp z)
        obtain ⟨hh, r1, r2⟩ := RPart_to hF
        obtain ⟨q1, q2, q3, q4, q5⟩ := r2
        obtain ⟨n, n1, -, n3, n4, -⟩ := q5 a ha3
        obtain ⟨m, m1, -, m3, m4, -⟩ := q5 b hb3
        rw [if_neg hab', if_neg hab', ea, eb, jf_hei ha3 n3, jf_hei hb3 m3, jp_xb, jl15, nI_add, nI_add, jp_xr (show 15 + a < 93 by omega) (by decide), nI_clamp (show 15 + a < 2 ^ 31 by omega), n4, jp_xl]
        unfold jf_M_heap_53
        by_cases h0 : n = 0
        · subst h0
          rw [if_pos (show nI 0 = 0 from rfl), if_pos (show nI 0 = 0 from rfl), jp_xb, if_pos (show nI 0 = 0 from rfl), jp_xb]
          exact ⟨_, _, rfl, rfl, rfl, nm, nc, nk, hL, hF, hT, hS, hP, hK⟩
        · have h0' : ¬ nI n = 0 := nI_ne0 (by omega) (by omega)
          rw [if_neg h0', if_neg h0', jp_xb, jp_xb, jp_xr (show 15 + b < 93 by omega) (by decide), nI_clamp (show 15 + b < 2 ^ 31 by omega), m4, nI_add, jl8]
          by_cases h8 : n + m ≤ 8
          · have h8' : nI (n + m) ≤ nI 8 := nI_le h8 (by decide)
            obtain ⟨p1, p2, p3, p4, p5⟩ := hP.push hF (N := 4000) (by decide)
            obtain ⟨o, s2, g1, g2, g3, g4, g5⟩ := jf_stack (N := 4000) (by decide) q5 ha3 hb3 hb hab n3 m3 h8 y.2.2.2.2.1 p2.1 p2.2 (fun q2 => jf_F_stack_47 4000 q2.1 q2.2.1 q2.2.2.1 q2.2.2.2 (nI a)) (fun q4 => jf_M_heap_182 4000 y.2.2.2.2.1 q4 p2.1 p2.2 (nI a) (nI b))
            have g6 := g3.zero ha3
            have g4' : upd o.1 a (nI 0) b = nI (m + n) := (upd_ne (fun z => hab z.symm)).trans g4
            have g7 : s2 (15 + b) = nI (m + n) := by
              obtain ⟨z, -, -, z3, z4, -⟩ := g3 b hb3
              exact z4.trans (z3.symm.trans g4)
            have eS : jf_F_stack 4000 x.2.2.1.2.2.2.1 x.2.2.1.2.2.2.2.2.1 x.2.2.1.2.2.2.2.2.2.1 x.2.2.1.2.2.2.2.2.2.2.1 (nI a) (nI b) = some (upd o.1 a (nI 0), o.2.1, o.2.2.1, o.2.2.2) := by
              unfold jf_F_stack
              rw [jf_hei ha3 n3, jp_xb, g1]
              unfold jf_F_stack_47
              rw [jl0, jr_put ha3 (by decide), jp_xb]
            rw [if_pos h8', if_pos h8', p3, jp_xb, eS, jp_xb, jf_hei hb3 g4', jp_xb, jp_xb, p4, jp_xb, g2]
            unfold jf_M_heap_182
            rw [jl0, jl15, nI_add, nI_add, jp_xr (show 15 + a < 93 by omega) (by decide), nI_clamp (show 15 + a < 2 ^ 31 by omega), jp_xl, jp_xr (show 15 + b < 93 by omega) (by decide), nI_clamp (show 15 + b < 2 ^ 31 by omega), upd_ne (show 15 + b ≠ 15 + a by omega), g7, jp_xb]
            exact ⟨_, _, rfl, rfl, rfl, nm, nc, nk, hL, RPart_of r1 ⟨q1.fr ((upd_ne (by omega)).trans (g5 _ (by omega))), q2.fr (fun j _ _ => (upd_ne (by omega)).trans (g5 _ (by omega))), q3.fr (fun j _ _ => (upd_ne (by omega)).trans (g5 _ (by omega))), q4.fr (fun j _ _ => (upd_ne (by omega)).trans (g5 _ (by omega))), g6⟩, hT, hS, p5, hK⟩
          · have h8' : ¬ nI (n + m) ≤ nI 8 := fun z => h8 ((nI_leI (by omega) (by decide)).mp z)
            rw [if_neg h8', if_neg h8', jp_xb, if_neg h0', jp_xb]
            exact ⟨_, _, rfl, rfl, rfl, nm, nc, nk, hL, hF, hT, hS, hP, hK⟩
    · rw [h3, h4, jp_xb, jp_xb, if_pos (show (0 : Int32) = 0 from rfl), if_pos (show (0 : Int32) = 0 from rfl), jp_xb, jp_xb]
      exact ⟨_, _, rfl, rfl, rfl, nm, nc, nk, hL, hF, hT, hS, hP, hK⟩
  · rw [h1, h2, jp_xb, jp_xb, if_pos (show (0 : Int32) = 0 from rfl), if_pos (show (0 : Int32) = 0 from rfl), jp_xb, jp_xb]
    exact ⟨_, _, rfl, rfl, rfl, nm, nc, nk, hL, hF, hT, hS, hP, hK⟩

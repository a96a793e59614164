/-! counting -/
theorem js_sumR {c : Nat → Nat} {f : Nat → Int32} (h : ∀ j, j < 3 → f j = nI (c j)) : jf_R_sum 4000 3 f = some (nI (jS c 0 3)) := by
  unfold jf_R_sum jf_R_sum_4
  refine xloop_one _ (fun (r : Nat) (q : Int32 × Int32) => ∃ i : Nat, i + r = 3 ∧ q = (nI (jS c 0 i), nI i)) (fun (o : Option Int32) => o = some (nI (jS c 0 3))) (fun r q h2 => ?_) 3 4000 _ (by decide) ⟨0, by omega, rfl⟩
  obtain ⟨i, hi, e⟩ := h2
  subst e
  by_cases hr : r = 0
  · refine Or.inr ⟨some (nI (jS c 0 i)), by rw [show i = 3 by omega], fun k => ?_⟩
    unfold jf_R_sum_4B
    rw [if_pos (nI_le (by omega) (by omega))]
  · refine Or.inl ⟨r - 1, (nI (jS c 0 (i + 1)), nI (i + 1)), by omega, ⟨i + 1, by omega, rfl⟩, fun k => ?_⟩
    unfold jf_R_sum_4B
    rw [if_neg (nI_ge (by omega) (by omega)), jp_xr (by omega) (by decide), nI_clamp (by omega), h i (by omega), nI_add, jp_xl, nI_1, jp_xl]
    show k (nI (jS c 0 i + c i), _) = k (nI (jS c 0 i + c (0 + i)), _)
    rw [Nat.zero_add]
theorem js_allOf {c : Nat → Nat} {st : Nat → Int32} {a : Nat} (ha : a + 3 ≤ 93) (h : ∀ j, j < 3 → st (a + j) = nI (c j)) : jf_M_allOf 4000 st (nI a) (nI 3) = some (nI (jS c 0 3)) := by
  unfold jf_M_allOf jf_M_allOf_5
  refine xloop_one _ (fun (r : Nat) (q : Int32 × Int32) => ∃ i : Nat, i + r = 3 ∧ q = (nI (jS c 0 i), nI i)) (fun (o : Option Int32) => o = some (nI (jS c 0 3))) (fun r q h2 => ?_) 3 4000 _ (by decide) ⟨0, by omega, rfl⟩
  obtain ⟨i, hi, e⟩ := h2
  subst e
  by_cases hr : r = 0
  · refine Or.inr ⟨some (nI (jS c 0 i)), by rw [show i = 3 by omega], fun k => ?_⟩
    unfold jf_M_allOf_5B
    rw [if_pos (nI_le (by omega) (by omega))]
  · refine Or.inl ⟨r - 1, (nI (jS c 0 (i + 1)), nI (i + 1)), by omega, ⟨i + 1, by omega, rfl⟩, fun k => ?_⟩
    unfold jf_M_allOf_5B
    rw [if_neg (nI_ge (by omega) (by omega)), nI_add, jp_xr (by omega) (by decide), nI_clamp (by omega), h i (by omega), nI_add, jp_xl, nI_1, jp_xl]
    show k (nI (jS c 0 i + c i), _) = k (nI (jS c 0 i + c (0 + i)), _)
    rw [Nat.zero_add]
theorem js_told {w : Nat → Nat} {told : Nat → Int32} (h : ∀ j, j < 4 → w j < 1024 ∧ told j = nI (w j)) : jf_F_wordsTold 4000 told = some (nI (jS (fun j => jO (w j)) 0 4)) := by
  unfold jf_F_wordsTold jf_F_wordsTold_4
  refine xloop_one _ (fun (r : Nat) (q : Int32 × Int32) => ∃ i : Nat, i + r = 4 ∧ q = (nI (jS (fun j => jO (w j)) 0 i), nI i)) (fun (o : Option Int32) => o = some (nI (jS (fun j => jO (w j)) 0 4))) (fun r q h2 => ?_) 4 4000 _ (by decide) ⟨0, by omega, rfl⟩
  obtain ⟨i, hi, e⟩ := h2
  subst e
  by_cases hr : r = 0
  · refine Or.inr ⟨some (nI (jS (fun j => jO (w j)) 0 i)), by rw [show i = 4 by omega], fun k => ?_⟩
    unfold jf_F_wordsTold_4B
    rw [jl4, if_pos (nI_le (by omega) (by omega))]
  · refine Or.inl ⟨r - 1, (nI (jS (fun j => jO (w j)) 0 (i + 1)), nI (i + 1)), by omega, ⟨i + 1, by omega, rfl⟩, fun k => ?_⟩
    unfold jf_F_wordsTold_4B
    rw [jl4, if_neg (nI_ge (by omega) (by omega)), jr_at (by omega) (by decide), jp_xb, (h i (by omega)).2, jb_bitCount _ (h i (by omega)).1, jp_xb, nI_add, jp_xl, nI_1, jp_xl]
    show k (nI (jS (fun j => jO (w j)) 0 i + jO (w i)), _) = k (nI (jS (fun j => jO (w j)) 0 i + jO (w (0 + i))), _)
    rw [Nat.zero_add]
theorem js_allTold {w : Nat → Nat} {st : Nat → Int32} {nc : Nat} (hc : nc ≤ 4) (h : ∀ j, j < 4 → w j < 1024 ∧ st (11 + j) = nI (w j)) : jf_M_allTold 4000 (nI nc) st = some (nI (jS (fun j => jO (w j)) 0 nc)) := by
  unfold jf_M_allTold jf_M_allTold_4
  refine xloop_one _ (fun (r : Nat) (q : Int32 × Int32) => ∃ i : Nat, i + r = nc ∧ q = (nI (jS (fun j => jO (w j)) 0 i), nI i)) (fun (o : Option Int32) => o = some (nI (jS (fun j => jO (w j)) 0 nc))) (fun r q h2 => ?_) nc 4000 _ (by omega) ⟨0, by omega, rfl⟩
  obtain ⟨i, hi, e⟩ := h2
  subst e
  by_cases hr : r = 0
  · refine Or.inr ⟨some (nI (jS (fun j => jO (w j)) 0 i)), by rw [show i = nc by omega], fun k => ?_⟩
    unfold jf_M_allTold_4B
    rw [if_pos (nI_le (by omega) (by omega))]
  · refine Or.inl ⟨r - 1, (nI (jS (fun j => jO (w j)) 0 (i + 1)), nI (i + 1)), by omega, ⟨i + 1, by omega, rfl⟩, fun k => ?_⟩
    unfold jf_M_allTold_4B
    rw [if_neg (nI_ge (by omega) (by omega)), jl11, nI_add, jp_xr (by omega) (by decide), nI_clamp (by omega), (h i (by omega)).2, jb_ones _ (h i (by omega)).1, jp_xb, nI_add, jp_xl, nI_1, jp_xl]
    show k (nI (jS (fun j => jO (w j)) 0 i + jO (w i)), _) = k (nI (jS (fun j => jO (w j)) 0 i + jO (w (0 + i))), _)
    rw [Nat.zero_add]
theorem jS_tail {c : Nat → Nat} {nc : Nat} (h1 : 1 ≤ nc) (h2 : nc ≤ 4) (h : ∀ j, nc ≤ j → j < 4 → c j = 0) : jS c 0 nc = jS c 0 4 := by
  rcases (show nc = 1 ∨ nc = 2 ∨ nc = 3 ∨ nc = 4 by omega) with rfl | rfl | rfl | rfl
  · have a1 := h 1 (by omega) (by omega)
    have a2 := h 2 (by omega) (by omega)
    have a3 := h 3 (by omega) (by omega)
    simp [jS, a1, a2, a3]
  · have a2 := h 2 (by omega) (by omega)
    have a3 := h 3 (by omega) (by omega)
    simp [jS, a2, a3]
  · have a3 := h 3 (by omega) (by omega)
    simp [jS, a3]
  · rfl
theorem jop_29 (x : jX) (y : jM) (v : Nat → Int32) (h : jRel x y) : ∃ (o1 : Int32 × jX) (o2 : Int32 × jM), jh 4000 29 x v = some o1 ∧ jm 4000 29 y v = some o2 ∧ o1.1 = o2.1 ∧ jRel o1.2 o2.2 := by
  refine jop_ro (x := x) (y := y) (a := jf_H_count 4000 _ _ _ _ _ _ _ _ _ _ _ (v 1)) (b := jf_M_count 4000 _ _ _ _ _ _ _ _ (v 1)) ?_ h
  obtain ⟨nm, nc, nk, hL, hF, hT, hS, hP, hK⟩ := h
  obtain ⟨tn, -, t1, t2, -⟩ := hT
  obtain ⟨sn, -, s1, s2, -⟩ := hS
  obtain ⟨pq, pn, -, -, -, p1, p2, -⟩ := hP
  obtain ⟨kq, kn, -, -, -, k1, k2, -⟩ := hK
  obtain ⟨hh, r1, r2⟩ := RPart_to hF
  obtain ⟨q1, q2, q3, q4, q5⟩ := r2
  have x5 : ∀ k, ∃ n : Nat, k < 3 → x.2.2.1.2.2.2.1 k = nI n ∧ y.2.2.2.2.2.2.2.2.2.2.2.2.2.2.2.2.2.2.2.2.1 (15 + k) = nI n := by
    intro k
    by_cases hk : k < 3
    · obtain ⟨n, -, -, n3, n4, -⟩ := q5 k hk
      exact ⟨n, fun _ => ⟨n3, n4⟩⟩
    · exact ⟨0, fun z => absurd z hk⟩
  obtain ⟨c5, hc5⟩ := Classical.axiomOfChoice x5
  have x2 : ∀ k, ∃ n : Nat, k < 3 → x.2.2.1.2.2.2.2.1 k = nI n ∧ y.2.2.2.2.2.2.2.2.2.2.2.2.2.2.2.2.2.2.2.2.1 (18 + k) = nI n := by
    intro k
    by_cases hk : k < 3
    · obtain ⟨n, -, n3, n4⟩ := q2 k hk
      exact ⟨n, fun _ => ⟨n3, n4⟩⟩
    · exact ⟨0, fun z => absurd z hk⟩
  obtain ⟨c2, hc2⟩ := Classical.axiomOfChoice x2
  have x4 : ∀ k, ∃ n : Nat, k < 4 → n < 1024 ∧ (nc ≤ k → n = 0) ∧ x.2.2.1.2.2.1 k = nI n ∧ y.2.2.2.2.2.2.2.2.2.2.2.2.2.2.2.2.2.2.2.2.1 (11 + k) = nI n := by
    intro k
    by_cases hk : k < 4
    · obtain ⟨n, n1, n2, n3, n4⟩ := q4 k hk
      exact ⟨n, fun _ => ⟨n1, n2, n3, n4⟩⟩
    · exact ⟨0, fun z => absurd z hk⟩
  obtain ⟨c4, hc4⟩ := Classical.axiomOfChoice x4
  have eT := jS_tail (c := fun j => jO (c4 j)) (nc := nc) hL.1.2.2.1 hL.1.2.2.2.1 (fun j j1 j2 => by show jO (c4 j) = 0; rw [(hc4 j j2).2.1 j1]; rfl)
  have E4H := js_sumR (fun j hj => (hc5 j hj).1)
  have E5H := js_sumR (fun j hj => (hc2 j hj).1)
  have E6H := js_told (fun j hj => ⟨(hc4 j hj).1, (hc4 j hj).2.2.1⟩)
  have E4M := js_allOf (a := 15) (by decide) (fun j hj => (hc5 j hj).2)
  have E5M := js_allOf (a := 18) (by decide) (fun j hj => (hc2 j hj).2)
  have E6M := js_allTold (nc := nc) hL.1.2.2.2.1 (fun j hj => ⟨(hc4 j hj).1, (hc4 j hj).2.2.2⟩)
  rw [← hL.2.2.1.2, eT] at E6M
  unfold jf_H_count jf_M_count
  by_cases c0' : v 1 = (0 : Int32)
  · rw [if_pos c0', if_pos c0']
    exact ⟨_, rfl, congrArg some (hL.2.1.2.trans hL.2.1.1.symm)⟩
  rw [if_neg c0', if_neg c0']
  by_cases c1' : v 1 = (1 : Int32)
  · rw [if_pos c1', if_pos c1']
    exact ⟨_, rfl, congrArg some (hL.2.2.1.2.trans hL.2.2.1.1.symm)⟩
  rw [if_neg c1', if_neg c1']
  by_cases c2' : v 1 = (2 : Int32)
  · rw [if_pos c2', if_pos c2']
    exact ⟨_, rfl, congrArg some (hL.2.2.2.1.2.trans hL.2.2.2.1.1.symm)⟩
  rw [if_neg c2', if_neg c2']
  by_cases c3' : v 1 = (3 : Int32)
  · rw [if_pos c3', if_pos c3']
    rw [jp_xr0 (by decide) (by decide), jz0]
    exact ⟨_, rfl, congrArg some (q1.2.trans q1.1.symm)⟩
  rw [if_neg c3', if_neg c3']
  by_cases c4' : v 1 = (4 : Int32)
  · rw [if_pos c4', if_pos c4']
    rw [E4H, show jf_M_allOf 4000 _ (15 : Int32) (3 : Int32) = _ from E4M, jp_xb]
    exact ⟨_, rfl, rfl⟩
  rw [if_neg c4', if_neg c4']
  by_cases c5' : v 1 = (5 : Int32)
  · rw [if_pos c5', if_pos c5']
    rw [E5H, show jf_M_allOf 4000 _ (18 : Int32) (3 : Int32) = _ from E5M, jp_xb]
    exact ⟨_, rfl, rfl⟩
  rw [if_neg c5', if_neg c5']
  by_cases c6' : v 1 = (6 : Int32)
  · rw [if_pos c6', if_pos c6']
    rw [E6H, E6M, jp_xb]
    exact ⟨_, rfl, rfl⟩
  rw [if_neg c6', if_neg c6']
  by_cases c7' : v 1 = (7 : Int32)
  · rw [if_pos c7', if_pos c7']
    exact ⟨_, rfl, congrArg some (s2.trans s1.symm)⟩
  rw [if_neg c7', if_neg c7']
  by_cases c8' : v 1 = (8 : Int32)
  · rw [if_pos c8', if_pos c8']
    exact ⟨_, rfl, congrArg some (p2.trans p1.symm)⟩
  rw [if_neg c8', if_neg c8']
  by_cases c9' : v 1 = (9 : Int32)
  · rw [if_pos c9', if_pos c9']
    exact ⟨_, rfl, congrArg some (k2.trans k1.symm)⟩
  rw [if_neg c9', if_neg c9']
  by_cases c10' : v 1 = (10 : Int32)
  · rw [if_pos c10', if_pos c10']
    exact ⟨_, rfl, congrArg some (t2.trans t1.symm)⟩
  rw [if_neg c10', if_neg c10']
  exact ⟨_, rfl, rfl⟩

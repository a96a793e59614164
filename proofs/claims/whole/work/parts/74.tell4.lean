section TELL2
variable {nk : Nat} {heights lw st : Nat → Int32} {n : Nat → Nat} {W : Nat → Nat → Nat}
theorem jb_neg4 {l : Nat} (h : l < 2 ^ 31) : ¬ nI l = (-4 : Int32) := fun z => nI_pos h (by rw [z]; decide)
theorem jb_tellH2 (hT : RTop nk heights lw st n W) {kd t a : Nat} {told kinds : Nat → Int32} (hkd : kd ≤ 3) (ht : t < 1024) (ha : a ≤ n 0) (x x6 : Int32) {cu fe : Int32} (hS : jSt (jC x kd t W) (fun i j l => (i ≤ n 0 ∧ j ≤ n 1 ∧ l ≤ n 2) ∧ i < a) jU 24 cu fe) :
    ∃ t' : Int32 × Int32, jSt (jC x kd t W) (fun i j l => (i ≤ n 0 ∧ j ≤ n 1 ∧ l ≤ n 2) ∧ i < a + 1) jU 24 t'.1 t'.2 ∧ ∀ kx, jf_H_fewestCuts_53 4000 told heights lw kinds x (nI kd) cu fe x6 (nI a) (nI (jT kd (W 0) t a)) (0 : Int32) kx = kx t' := by
  have b0 := (hT 0 (by decide)).1
  obtain ⟨b1, -, b3, -, b5, -⟩ := hT 1 (by decide)
  have b2 := (hT 2 (by decide)).1
  have l0 := jT_lt hkd (hT 0 (by decide)).2.2.2.2.1 ht a
  have e1 : jf_F_heightOf 4000 heights (1 : Int32) = some (nI (n 1)) := jf_hei (k := 1) (by decide) b3
  unfold jf_H_fewestCuts_53
  refine xloop_onex (σ := Int32 × Int32 × Int32 × Int32) (fun (kx : (Int32 × Int32) → Option Int32) (kh : (Int32 × Int32 × Int32 × Int32) → Option (Int32)) q => jf_H_fewestCuts_53B 4000 told heights lw kinds x (nI kd) q.1 q.2.1 x6 (nI a) q.2.2.1 q.2.2.2 kh kx)
    (fun r q => ∃ (b : Nat) (cu fe : Int32), b + r = n 1 + 1 ∧ q = (cu, fe, nI (jT kd (W 1) (jT kd (W 0) t a) b), nI b) ∧ jSt (jC x kd t W) (jPH (n 0) (n 1) (n 2) a b) jU 24 cu fe) (fun t' => jSt (jC x kd t W) (fun i j l => (i ≤ n 0 ∧ j ≤ n 1 ∧ l ≤ n 2) ∧ i < a + 1) jU 24 t'.1 t'.2) ?_ (n 1 + 1) 4000 (cu, fe, nI (jT kd (W 0) t a), 0) (by omega) ⟨0, cu, fe, by omega, rfl, hS.keep (fun i j l hp => by unfold jPH; omega) (fun i j l hp _ => by unfold jPH at hp; exact ⟨hp.1, by omega⟩)⟩
  intro r q ⟨b, cu, fe, g1, g2, g3⟩
  subst g2
  by_cases hr : r = 0
  · refine Or.inr ⟨(cu, fe), g3.keep (fun i j l hp => by unfold jPH at hp; exact ⟨hp.1, by omega⟩) (fun i j l hp _ => by unfold jPH; omega), fun kx kh => ?_⟩
    unfold jf_H_fewestCuts_53B
    rw [e1, jp_xb, if_pos (nI_lt (by omega) (by omega))]
  · have hlt := jT_lt hkd b5 l0 b
    have e122 : ∀ (cu fe : Int32) (kx : (Int32 × Int32) → Option Int32) (kh : (Int32 × Int32 × Int32 × Int32) → Option Int32), jf_H_fewestCuts_122 4000 told heights lw kinds x (nI kd) cu fe x6 (nI a) (nI (jT kd (W 1) (jT kd (W 0) t a) b)) (nI b) kh kx = kh (cu, fe, nI (jT kd (W 1) (jT kd (W 0) t a) (b + 1)), nI (b + 1)) := fun cu fe kx kh => by
      unfold jf_H_fewestCuts_122
      rw [show jf_F_wordsFromTop 4000 heights lw (1 : Int32) (nI b) = some (nI (W 1 b)) from jb_fromTop hT (by decide) (by omega), jp_xb, (jH_spec hkd (b5 b) hlt).2.1, jp_xb, jb_or, jp_xl, nI_1, jp_xl]
      rfl
    rcases jb_third hT hkd hlt x with ⟨l, l1, l2, l3, l4⟩ | ⟨l3, l4⟩
    · obtain ⟨m1, m2⟩ := jH_next (C := jC x kd t W) (V := jU) b0 b1 b2 ha (show b ≤ n 1 by omega) l1 l2 l3 g3
      by_cases hf : fe < nI (a + b + l)
      · refine Or.inl ⟨r - 1, (cu, fe, nI (jT kd (W 1) (jT kd (W 0) t a) (b + 1)), nI (b + 1)), by omega, ⟨b + 1, cu, fe, by omega, rfl, m1 hf⟩, fun kx kh => ?_⟩
        unfold jf_H_fewestCuts_53B
        rw [e1, jp_xb, if_neg (nI_nlt (by omega) (by omega)), l4, jp_xb, if_neg (jb_neg4 (by omega)), nI_add, nI_add, if_pos hf, e122]
      · refine Or.inl ⟨r - 1, (jU a b l, nI (a + b + l), nI (jT kd (W 1) (jT kd (W 0) t a) (b + 1)), nI (b + 1)), by omega, ⟨b + 1, _, _, by omega, rfl, m2 hf⟩, fun kx kh => ?_⟩
        unfold jf_H_fewestCuts_53B jU
        rw [e1, jp_xb, if_neg (nI_nlt (by omega) (by omega)), l4, jp_xb, if_neg (jb_neg4 (by omega)), nI_add, nI_add, if_neg hf, jp_xl, jl100, jl10, pk_mul, pk_mul, nI_add, nI_add, jp_xl, e122]
    · refine Or.inl ⟨r - 1, (cu, fe, nI (jT kd (W 1) (jT kd (W 0) t a) (b + 1)), nI (b + 1)), by omega, ⟨b + 1, cu, fe, by omega, rfl, g3.keep (fun i j l hp => by unfold jPH at hp ⊢; omega) (fun i j l hp hc => ?_)⟩, fun kx kh => ?_⟩
      · by_cases hab : i = a ∧ j = b
        · obtain ⟨rfl, rfl⟩ := hab
          unfold jPH at hp
          exact absurd hc (l3 l hp.1.2.2)
        · unfold jPH at hp ⊢
          omega
      · unfold jf_H_fewestCuts_53B
        rw [e1, jp_xb, if_neg (nI_nlt (by omega) (by omega)), l4, jp_xb, if_pos (show (-4 : Int32) = -4 from rfl), e122]
theorem jb_tellH1 (hT : RTop nk heights lw st n W) {kd t : Nat} {told kinds : Nat → Int32} (hkd : kd ≤ 3) (ht : t < 1024) (x : Int32) :
    ∃ best few, jSt (jC x kd t W) (fun i j l => i ≤ n 0 ∧ j ≤ n 1 ∧ l ≤ n 2) jU 24 best few ∧ jf_H_fewestCuts_33 4000 told heights lw kinds x (nI kd) (-4 : Int32) (24 : Int32) (nI t) (0 : Int32) = some best := by
  obtain ⟨b0, -, b3, -, b5, -⟩ := hT 0 (by decide)
  have e0 : jf_F_heightOf 4000 heights (0 : Int32) = some (nI (n 0)) := jf_hei (k := 0) (by decide) b3
  unfold jf_H_fewestCuts_33
  refine xloop_one _ (fun (r : Nat) (q : Int32 × Int32 × Int32 × Int32) => ∃ (a : Nat) (cu fe : Int32), a + r = n 0 + 1 ∧ q = (cu, fe, nI (jT kd (W 0) t a), nI a) ∧ jSt (jC x kd t W) (fun i j l => (i ≤ n 0 ∧ j ≤ n 1 ∧ l ≤ n 2) ∧ i < a) jU 24 cu fe) (fun (o : Option Int32) => ∃ best few, jSt (jC x kd t W) (fun i j l => i ≤ n 0 ∧ j ≤ n 1 ∧ l ≤ n 2) jU 24 best few ∧ o = some best) (fun r q h2 => ?_) (n 0 + 1) 4000 _ (by omega) ⟨0, -4, 24, by omega, rfl, jSt.start (z := 24) (fun i j l hp => by omega)⟩
  obtain ⟨a, cu, fe, g1, g2, g3⟩ := h2
  subst g2
  by_cases hr : r = 0
  · refine Or.inr ⟨some cu, ⟨cu, fe, g3.keep (fun i j l hp => hp.1) (fun i j l hp _ => ⟨hp, by omega⟩), rfl⟩, fun kh => ?_⟩
    unfold jf_H_fewestCuts_33B
    rw [e0, jp_xb, if_pos (nI_lt (by omega) (by omega))]
  · have hlt := jT_lt hkd b5 ht a
    obtain ⟨t', s1, s2⟩ := jb_tellH2 hT (told := told) (kinds := kinds) hkd ht (show a ≤ n 0 by omega) x (nI (jT kd (W 0) t a)) g3
    refine Or.inl ⟨r - 1, (t'.1, t'.2, nI (jT kd (W 0) t (a + 1)), nI (a + 1)), by omega, ⟨a + 1, _, _, by omega, rfl, s1⟩, fun kh => ?_⟩
    unfold jf_H_fewestCuts_33B
    rw [e0, jp_xb, if_neg (nI_nlt (by omega) (by omega)), s2]
    unfold jf_H_fewestCuts_149
    rw [show jf_F_wordsFromTop 4000 heights lw (0 : Int32) (nI a) = some (nI (W 0 a)) from jb_fromTop hT (by decide) (by omega), jp_xb, (jH_spec hkd (b5 a) hlt).2.1, jp_xb, jb_or, jp_xl, nI_1, jp_xl]
    rfl
end TELL2

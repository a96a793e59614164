theorem jb_weight {nk : Nat} {heights lw lwet lheat st : Nat → Int32} (hR : RRic nk heights lw lwet lheat st) {k : Nat} (hk : k < 3) (x : Int32) :
    ∃ s, s ≤ 64 ∧ jf_F_placesOf 4000 heights lw (nI k) x = some (nI s) ∧ jf_M_weight 4000 st x (nI k) = some (nI s) := by
  obtain ⟨n, n1, n2, n3, n4, n5⟩ := hR k hk
  unfold jf_F_placesOf jf_M_weight jf_F_placesOf_5 jf_M_weight_5
  refine xloop_rel (σ1 := Int32 × Int32) (σ2 := Int32 × Int32) (fun (kh : (Int32 × Int32) → Option (Int32)) q => jf_F_placesOf_5B 4000 heights lw (nI k) x q.1 q.2 kh) (fun (kh : (Int32 × Int32) → Option (Int32)) q => jf_M_weight_5B 4000 st x (nI k) q.1 q.2 kh)
    (fun r q1 q2 => q1 = q2 ∧ ∃ i s : Nat, i + r = n ∧ q1 = (nI s, nI i) ∧ s ≤ 8 * i) (fun o1 o2 => ∃ s, s ≤ 64 ∧ o1 = some (nI s) ∧ o2 = some (nI s)) ?_ n 4000 4000 (0, 0) (0, 0) (by omega) (by omega) ⟨rfl, 0, 0, by omega, rfl, by omega⟩
  intro r q1 q2 ⟨hq, i, s, hi, e, hs⟩
  subst hq
  subst e
  by_cases hr : r = 0
  · refine Or.inr ⟨some (nI s), some (nI s), ⟨s, by omega, rfl, rfl⟩, fun kh => ?_, fun kh => ?_⟩
    · unfold jf_F_placesOf_5B
      rw [jf_hei hk n3, jp_xb, if_pos (nI_le (by omega) (by omega))]
    · unfold jf_M_weight_5B
      rw [jl15, nI_add, jp_xr (by omega) (by decide), nI_clamp (by omega), n4, if_pos (nI_le (by omega) (by omega))]
  · obtain ⟨⟨w, w1, w2, w3⟩, -, -⟩ := n5 i (by omega)
    obtain ⟨j, j1, j2⟩ := pk_andE (nI w >>> (x &&& 31)) (m := (1 : Int32)) 1 (by decide)
    rcases (show j = 0 ∨ j = 1 by omega) with rfl | rfl
    · refine Or.inl ⟨r - 1, (nI s, nI (i + 1)), _, by omega, ⟨rfl, i + 1, s, by omega, rfl, by omega⟩, fun kh => ?_, fun kh => ?_⟩
      · unfold jf_F_placesOf_5B jf_F_placesOf_36
        rw [jf_hei hk n3, jp_xb, if_neg (nI_ge (by omega) (by omega)), jf_wor hk (by omega), jp_xb, w2, j2, if_pos (show nI 0 = 0 from rfl), nI_1, jp_xl]
      · unfold jf_M_weight_5B jf_M_weight_50 jf_M_has
        rw [jl15, nI_add, jp_xr (by omega) (by decide), nI_clamp (by omega), n4, if_neg (nI_ge (by omega) (by omega)), jl21, jl8, pk_mul, nI_add, nI_add, jp_xr (by omega) (by decide), nI_clamp (by omega), Nat.add_assoc 21, w3, j2, if_neg (show ¬ nI 0 = 1 by decide), jp_xb, if_pos (show (0 : Int32) = 0 from rfl), show nI s + (0 : Int32) = nI s from nI_add s 0, jp_xl, nI_1, jp_xl]
    · refine Or.inl ⟨r - 1, (nI (s + (i + 1)), nI (i + 1)), _, by omega, ⟨rfl, i + 1, s + (i + 1), by omega, rfl, by omega⟩, fun kh => ?_, fun kh => ?_⟩
      · unfold jf_F_placesOf_5B jf_F_placesOf_36
        rw [jf_hei hk n3, jp_xb, if_neg (nI_ge (by omega) (by omega)), jf_wor hk (by omega), jp_xb, w2, j2, if_neg (show ¬ nI 1 = 0 by decide), nI_1, nI_add, jp_xl, jp_xl]
      · unfold jf_M_weight_5B jf_M_weight_50 jf_M_has
        rw [jl15, nI_add, jp_xr (by omega) (by decide), nI_clamp (by omega), n4, if_neg (nI_ge (by omega) (by omega)), jl21, jl8, pk_mul, nI_add, nI_add, jp_xr (by omega) (by decide), nI_clamp (by omega), Nat.add_assoc 21, w3, j2, if_pos (show nI 1 = 1 by decide), jp_xb, if_neg (show ¬ (1 : Int32) = 0 by decide), nI_1, nI_add, jp_xl, jp_xl]
theorem jb_needle {nk : Nat} {heights lw lwet lheat st : Nat → Int32} (hk3 : nk ≤ 3) (hR : RRic nk heights lw lwet lheat st) (x1 x2 x3 : Int32) :
    ∃ t1 t2 : Int32, (∃ s : Nat, s ≤ 192 ∧ t1 = nI s ∧ t2 = nI s) ∧ (∀ kx, jf_H_needle_32 4000 heights lw (nI nk) x1 x2 x3 (0 : Int32) (0 : Int32) kx = kx t1) ∧ ∀ kx, jf_M_needle_38 4000 (nI nk) st x1 x2 x3 (0 : Int32) (0 : Int32) kx = kx t2 := by
  unfold jf_H_needle_32 jf_M_needle_38
  refine xloop_relx (σ1 := Int32 × Int32) (σ2 := Int32 × Int32) (fun (kx1 : Int32 → Option Int32) (kh : (Int32 × Int32) → Option (Int32)) q => jf_H_needle_32B 4000 heights lw (nI nk) x1 x2 x3 q.1 q.2 kh kx1) (fun (kx2 : Int32 → Option Int32) (kh : (Int32 × Int32) → Option (Int32)) q => jf_M_needle_38B 4000 (nI nk) st x1 x2 x3 q.1 q.2 kh kx2)
    (fun r q1 q2 => q1 = q2 ∧ ∃ i s : Nat, i + r = nk ∧ q1 = (nI s, nI i) ∧ s ≤ 64 * i) (fun t1 t2 => ∃ s : Nat, s ≤ 192 ∧ t1 = nI s ∧ t2 = nI s) ?_ nk 4000 4000 (0, 0) (0, 0) (by omega) (by omega) ⟨rfl, 0, 0, by omega, rfl, by omega⟩
  intro r q1 q2 ⟨hq, i, s, hi, e, hs⟩
  subst hq
  subst e
  by_cases hr : r = 0
  · refine Or.inr ⟨nI s, nI s, ⟨s, by omega, rfl, rfl⟩, fun kx kh => ?_, fun kx kh => ?_⟩
    · unfold jf_H_needle_32B
      rw [if_pos (nI_le (by omega) (by omega))]
    · unfold jf_M_needle_38B
      rw [if_pos (nI_le (by omega) (by omega))]
  · obtain ⟨t, t1, t2, t3⟩ := jb_weight hR (show i < 3 by omega) x1
    refine Or.inl ⟨r - 1, (nI (s + t), nI (i + 1)), _, by omega, ⟨rfl, i + 1, s + t, by omega, rfl, by omega⟩, fun kx kh => ?_, fun kx kh => ?_⟩
    · unfold jf_H_needle_32B
      rw [if_neg (nI_ge (by omega) (by omega)), t2, jp_xb, nI_add, jp_xl, nI_1, jp_xl]
    · unfold jf_M_needle_38B
      rw [if_neg (nI_ge (by omega) (by omega)), t3, jp_xb, nI_add, jp_xl, nI_1, jp_xl]
theorem jop_20 (x : jX) (y : jM) (v : Nat → Int32) (h : jRel x y) : ∃ (o1 : Int32 × jX) (o2 : Int32 × jM), jh 4000 20 x v = some o1 ∧ jm 4000 20 y v = some o2 ∧ o1.1 = o2.1 ∧ jRel o1.2 o2.2 := by
  refine jop_ro (x := x) (y := y) (a := jf_H_needle 4000 _ _ _ (v 1) (v 2) (v 3)) (b := jf_M_needle 4000 _ _ (v 1) (v 2) (v 3)) ?_ h
  obtain ⟨nm, nc, nk, hL, hF, hT, hS, hP, hK⟩ := h
  obtain ⟨hh, r1, r2⟩ := RPart_to hF
  unfold jf_H_needle jf_M_needle jf_H_isWord
  rcases jb_both (v 1) 0 9 (by decide) (by decide) with ⟨w, -, w2, wx, e1, e2⟩ | ⟨-, e1, e2⟩
  · rw [show jf_H_isWithin 4000 (v 1) (0 : Int32) (9 : Int32) = some 1 from e1, show jf_M_in 4000 (Int32.toInt64 (v 1)) (0 : Int64) (9 : Int64) = some 1 from e2]
    rcases jl_rick hL (N := 4000) (v 2) with ⟨k, hk, ek, h3, h4⟩ | ⟨-, h3, h4⟩
    · rw [h3, h4]
      rcases jb_both (v 3) 0 1 (by decide) (by decide) with ⟨z, -, z2, zx, f1, f2⟩ | ⟨-, f1, f2⟩
      · rw [show jf_H_isWithin 4000 (v 3) (0 : Int32) (1 : Int32) = some 1 from f1, show jf_M_in 4000 (Int32.toInt64 (v 3)) (0 : Int64) (1 : Int64) = some 1 from f2]
        have hk3 : nk ≤ 3 := hL.1.2.2.2.2.2
        obtain ⟨t1, t2, ⟨S, s1, s2, s3⟩, p1, p2⟩ := jb_needle hk3 r2.2.2.2.2 (v 1) (v 2) (v 3)
        subst s2
        subst s3
        obtain ⟨s, q1, q2, q3⟩ := jb_weight r2.2.2.2.2 (show k < 3 by omega) (v 1)
        have g1 := p1 (fun q4 => jf_H_needle_65 4000 x.2.2.1.2.2.2.1 x.2.2.1.2.2.2.2.2.1 (nI nk) (v 1) (v 2) (v 3) q4)
        have g2 := p2 (fun q4 => jf_M_needle_65 4000 (nI nk) y.2.2.2.2.2.2.2.2.2.2.2.2.2.2.2.2.2.2.2.2.1 (v 1) (v 2) (v 3) q4)
        rw [hL.2.2.2.1.1, hL.2.2.2.1.2]
        show ∃ r, jf_H_needle_32 4000 x.2.2.1.2.2.2.1 x.2.2.1.2.2.2.2.2.1 (nI nk) (v 1) (v 2) (v 3) (0 : Int32) (0 : Int32) (fun q4 => jf_H_needle_65 4000 x.2.2.1.2.2.2.1 x.2.2.1.2.2.2.2.2.1 (nI nk) (v 1) (v 2) (v 3) q4) = some r ∧ jf_M_needle_38 4000 (nI nk) y.2.2.2.2.2.2.2.2.2.2.2.2.2.2.2.2.2.2.2.2.1 (v 1) (v 2) (v 3) (0 : Int32) (0 : Int32) (fun q4 => jf_M_needle_65 4000 (nI nk) y.2.2.2.2.2.2.2.2.2.2.2.2.2.2.2.2.2.2.2.2.1 (v 1) (v 2) (v 3) q4) = some r
        rw [g1, g2]
        unfold jf_H_needle_65 jf_M_needle_65
        by_cases h0 : S = 0
        · subst h0
          exact ⟨_, rfl, rfl⟩
        · have hg : 0 < Nat.gcd s S := Nat.gcd_pos_of_pos_right s (by omega)
          have hg2 : Nat.gcd s S ≤ S := Nat.le_of_dvd (by omega) (Nat.gcd_dvd_right s S)
          rw [if_neg (nI_ne0 (by omega) (by omega)), if_neg (nI_ne0 (by omega) (by omega)), ek, q2, q3, jp_xb, jp_xb, jg_M (by omega) (by omega), jg_H (by omega) (by omega) (by omega), jp_xb, jp_xb, jp_xb, jp_xz hg (by omega), jp_xz hg (by omega)]
          by_cases hx : v 3 = 0
          · rw [if_pos hx, if_pos hx]
            exact ⟨_, rfl, rfl⟩
          · rw [if_neg hx, if_neg hx]
            exact ⟨_, rfl, rfl⟩
      · rw [show jf_H_isWithin 4000 (v 3) (0 : Int32) (1 : Int32) = some 0 from f1, show jf_M_in 4000 (Int32.toInt64 (v 3)) (0 : Int64) (1 : Int64) = some 0 from f2]
        exact ⟨_, rfl, rfl⟩
    · rw [h3, h4]
      exact ⟨_, rfl, rfl⟩
  · rw [show jf_H_isWithin 4000 (v 1) (0 : Int32) (9 : Int32) = some 0 from e1, show jf_M_in 4000 (Int32.toInt64 (v 1)) (0 : Int64) (9 : Int64) = some 0 from e2]
    exact ⟨_, rfl, rfl⟩

theorem jb_orand (a b : Int32) : a ||| (b &&& (a ^^^ (-1 : Int32))) = a ||| b := by
  apply Int32.toBitVec_inj.mp
  apply BitVec.eq_of_getElem_eq
  intro i hi
  have h1 : (-1 : Int32).toBitVec = BitVec.allOnes 32 := by decide
  simp only [Int32.toBitVec_or, Int32.toBitVec_and, Int32.toBitVec_xor, h1, BitVec.getElem_or, BitVec.getElem_and, BitVec.getElem_xor, BitVec.getElem_allOnes]
  cases a.toBitVec[i] <;> cases b.toBitVec[i] <;> rfl
theorem jop_10 (x : jX) (y : jM) (v : Nat → Int32) (h : jRel x y) : ∃ (o1 : Int32 × jX) (o2 : Int32 × jM), jh 4000 10 x v = some o1 ∧ jm 4000 10 y v = some o2 ∧ o1.1 = o2.1 ∧ jRel o1.2 o2.2 := by
  obtain ⟨nm, nc, nk, hL, hF, hT, hS, hP, hK⟩ := h
  show ∃ (o1 : Int32 × jX) (o2 : Int32 × jM), jh_10 4000 x (v 1) (v 2) = some o1 ∧ jm_10 4000 y (v 1) (v 2) = some o2 ∧ o1.1 = o2.1 ∧ jRel o1.2 o2.2
  unfold jh_10 jm_10 jf_H_cut jf_M_cut
  rcases jl_rick hL (N := 4000) (v 1) with ⟨k, hk, ek, h1, h2⟩ | ⟨-, h1, h2⟩
  · have hk3 : k < 3 := Nat.lt_of_lt_of_le hk hL.1.2.2.2.2.2
    rw [h1, h2, jp_xb, jp_xb, if_neg (show ¬ (1 : Int32) = 0 by decide), if_neg (show ¬ (1 : Int32) = 0 by decide)]
    rcases jl_cow hL (N := 4000) (v 2) with ⟨c, hc, ec, h3, h4⟩ | ⟨-, h3, h4⟩
    · have hc4 : c < 4 := Nat.lt_of_lt_of_le hc hL.1.2.2.2.1
      obtain ⟨hh, r1, r2⟩ := RPart_to hF
      obtain ⟨q1, q2, q3, q4, q5⟩ := r2
      obtain ⟨n, n1, n2, n3, n4, n5⟩ := q5 k hk3
      rw [h3, h4, jp_xb, jp_xb, if_neg (show ¬ (1 : Int32) = 0 by decide), if_neg (show ¬ (1 : Int32) = 0 by decide), ek, ec, jf_hei hk3 n3, jp_xb, jl15, nI_add, jp_xr (show 15 + k < 93 by omega) (by decide), nI_clamp (show 15 + k < 2 ^ 31 by omega), n4]
      by_cases h0 : n = 0
      · subst h0
        rw [if_pos (show nI 0 = 0 from rfl), if_pos (show nI 0 = 0 from rfl), jp_xb, jp_xb]
        exact ⟨_, _, rfl, rfl, rfl, nm, nc, nk, hL, hF, hT, hS, hP, hK⟩
      · have h0' : ¬ nI n = 0 := nI_ne0 (by omega) (by omega)
        obtain ⟨⟨w, w1, w2, w3⟩, -, -⟩ := n5 (n - 1) (by omega)
        obtain ⟨t, t1, t2, t3, t4⟩ := q4 c hc4
        obtain ⟨kd, k1, k2, k3⟩ := jl_kind hL (N := 4000) hc
        obtain ⟨u, u1, u2, u3⟩ := jb_hears k1 w1 t1
        obtain ⟨p1, p2, p3, p4, p5⟩ := hP.push hF (N := 4000) (by decide)
        have eF : jf_F_freshFor 4000 x.2.2.1.2.2.1 x.2.2.1.2.2.2.1 x.2.2.1.2.2.2.2.2.1 (nI k) (nI c) (nI kd) = some (nI u &&& (nI t ^^^ (-1 : Int32))) := by
          unfold jf_F_freshFor jf_F_wordsFromTop
          rw [jr_at hc4 (by decide), jp_xb, t3, jf_hei hk3 n3, jp_xb, if_neg (nI_nle (by omega) (by omega)), jp_xb, jl1, jl0, jn_sub (by omega), jn_sub (by omega), Nat.sub_zero, jf_wor hk3 (by omega), jp_xb, w2, jp_xb, u2, jp_xb]
        have eD : jf_F_feed 4000 x.2.2.1.2.2.1 x.2.2.1.2.2.2.1 x.2.2.1.2.2.2.2.2.1 (nI k) (nI c) (nI kd) = some (nI u &&& (nI t ^^^ (-1 : Int32)), upd x.2.2.1.2.2.1 c (nI (t ||| u)), upd x.2.2.1.2.2.2.1 k (nI (n - 1))) := by
          unfold jf_F_feed
          rw [eF, jp_xb, jr_at hc4 (by decide), jp_xb, t3, jb_orand, jb_or, jr_put hc4 (by decide), jp_xb, jf_hei hk3 n3, jp_xb, jl1, jn_sub (by omega), jp_xl]
          have em : (if (0 : Int32) < nI (n - 1) then nI (n - 1) else (0 : Int32)) = nI (n - 1) := by
            by_cases hz : n - 1 = 0
            · rw [hz]; rfl
            · exact if_pos (show nI 0 < nI (n - 1) from nI_lt (by omega) (by omega))
          rw [em, jr_put hk3 (by decide), jp_xb]
        have eM : jf_M_cutFor 4000 y.2.2.2.2.2.2.2.2.2.1 y.2.2.2.2.2.2.2.2.2.2.2.2.2.2.2.2.2.2.2.2.1 (nI k) (nI c) = some (nI u &&& (nI t ^^^ (-1 : Int32)), upd (upd y.2.2.2.2.2.2.2.2.2.2.2.2.2.2.2.2.2.2.2.2.1 (15 + k) (nI (n - 1))) (11 + c) (nI (t ||| u))) := by
          unfold jf_M_cutFor jf_M_top
          rw [jl11, nI_add, jp_xr (show 11 + c < 93 by omega) (by decide), nI_clamp (show 11 + c < 2 ^ 31 by omega), t4, jp_xl, jp_xr hc4 (by decide), nI_clamp (show c < 2 ^ 31 by omega), k3, jl15, nI_add, jp_xr (show 15 + k < 93 by omega) (by decide), nI_clamp (show 15 + k < 2 ^ 31 by omega), n4, jl21, jl8, pk_mul, nI_add, nI_add, jl1, jn_sub (by omega), show 21 + 8 * k + n - 1 = 21 + (8 * k + (n - 1)) by omega, jp_xr (show 21 + (8 * k + (n - 1)) < 93 by omega) (by decide), nI_clamp (show 21 + (8 * k + (n - 1)) < 2 ^ 31 by omega), w3, jp_xb, u3, jp_xb, jp_xr (show 15 + k < 93 by omega) (by decide), jp_xr (show 15 + k < 93 by omega) (by decide), jn_sub (by omega), jp_xl, jp_xr (show 11 + c < 93 by omega) (by decide), jp_xl, jb_or]
        rw [if_neg h0', if_neg h0', p3, jp_xb, k2, jp_xb, eD, jp_xb, jp_xb, p4, jp_xb, eM, jp_xb, jp_xb]
        refine ⟨_, _, rfl, rfl, rfl, nm, nc, nk, hL, RPart_of r1 ⟨q1.fr ?_, q2.fr (fun j _ _ => ?_), q3.fr (fun j _ _ => ?_), fun z hz => ?_, fun z hz => ?_⟩, hT, hS, p5, hK⟩
        · exact (upd_ne (by omega)).trans (upd_ne (by omega))
        · exact (upd_ne (by omega)).trans (upd_ne (by omega))
        · exact (upd_ne (by omega)).trans (upd_ne (by omega))
        · show ∃ w', w' < 1024 ∧ (nc ≤ z → w' = 0) ∧ upd x.2.2.1.2.2.1 c (nI (t ||| u)) z = nI w' ∧ upd (upd _ (15 + k) (nI (n - 1))) (11 + c) (nI (t ||| u)) (11 + z) = nI w'
          by_cases hzc : z = c
          · subst hzc
            rw [upd_same, upd_same]
            exact ⟨t ||| u, jb_or_lt t1 u1, fun q => by omega, rfl, rfl⟩
          · rw [upd_ne hzc, upd_ne (by omega), upd_ne (by omega)]
            exact q4 z hz
        · show ∃ n', n' ≤ 8 ∧ (nk ≤ z → n' = 0) ∧ upd x.2.2.1.2.2.2.1 k (nI (n - 1)) z = nI n' ∧ upd (upd _ (15 + k) (nI (n - 1))) (11 + c) (nI (t ||| u)) (15 + z) = nI n' ∧ _
          have fr : ∀ j, j ≠ 15 + k → j ≠ 11 + c → upd (upd y.2.2.2.2.2.2.2.2.2.2.2.2.2.2.2.2.2.2.2.2.1 (15 + k) (nI (n - 1))) (11 + c) (nI (t ||| u)) j = y.2.2.2.2.2.2.2.2.2.2.2.2.2.2.2.2.2.2.2.2.1 j := fun j j1 j2 => (upd_ne j2).trans (upd_ne j1)
          obtain ⟨m, m1, m2, m3, m4, m5⟩ := q5 z hz
          by_cases hzk : z = k
          · subst hzk
            have hmn : m = n := (nI_eq (by omega) (by omega)).mp (m3.symm.trans n3)
            subst hmn
            refine ⟨m - 1, by omega, fun q => by omega, upd_same, by rw [upd_ne (by omega), upd_same], fun i hi => ?_⟩
            obtain ⟨⟨a, a1, a2, a3⟩, ⟨b, b1, b2, b3⟩, s, s1, s2, s3⟩ := m5 i (by omega)
            exact ⟨⟨a, a1, a2, (fr _ (by omega) (by omega)).trans a3⟩, ⟨b, b1, b2, (fr _ (by omega) (by omega)).trans b3⟩, s, s1, s2, (fr _ (by omega) (by omega)).trans s3⟩
          · refine ⟨m, m1, m2, (upd_ne hzk).trans m3, by rw [upd_ne (by omega), upd_ne (by omega)]; exact m4, fun i hi => ?_⟩
            obtain ⟨⟨a, a1, a2, a3⟩, ⟨b, b1, b2, b3⟩, s, s1, s2, s3⟩ := m5 i hi
            exact ⟨⟨a, a1, a2, (fr _ (by omega) (by omega)).trans a3⟩, ⟨b, b1, b2, (fr _ (by omega) (by omega)).trans b3⟩, s, s1, s2, (fr _ (by omega) (by omega)).trans s3⟩
    · rw [h3, h4, jp_xb, jp_xb, if_pos (show (0 : Int32) = 0 from rfl), if_pos (show (0 : Int32) = 0 from rfl), jp_xb, jp_xb]
      exact ⟨_, _, rfl, rfl, rfl, nm, nc, nk, hL, hF, hT, hS, hP, hK⟩
  · rw [h1, h2, jp_xb, jp_xb, if_pos (show (0 : Int32) = 0 from rfl), if_pos (show (0 : Int32) = 0 from rfl), jp_xb, jp_xb]
    exact ⟨_, _, rfl, rfl, rfl, nm, nc, nk, hL, hF, hT, hS, hP, hK⟩

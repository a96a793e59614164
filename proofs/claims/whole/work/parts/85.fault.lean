theorem jp_fill {n : Nat} (f : Nat → Int32) (hn : n < 4000) : ∃ r : Nat → Int32, jf_Arrays_fill 4000 n f (0 : Int32) = some r ∧ ∀ j, j < n → r j = 0 := by
  unfold jf_Arrays_fill jf_Arrays_fill_5
  rw [jp_xl]
  refine xloop_one _ (fun (r : Nat) (q : (Nat → Int32) × Int32) => ∃ i : Nat, i + r = n ∧ q.2 = nI i ∧ ∀ j, j < i → q.1 j = 0) (fun (o : Option (Nat → Int32)) => ∃ s : Nat → Int32, o = some s ∧ ∀ j, j < n → s j = 0) (fun r q h => ?_) n 4000 _ hn ⟨0, by omega, rfl, fun j hj => by omega⟩
  obtain ⟨i, hi, g1, g2⟩ := h
  by_cases hr : r = 0
  · refine Or.inr ⟨some q.1, ⟨q.1, rfl, fun j hj => g2 j (by omega)⟩, fun k => ?_⟩
    unfold jf_Arrays_fill_5B
    rw [g1, if_pos (nI_le (by omega) (by omega))]
  · refine Or.inl ⟨r - 1, (upd q.1 i 0, nI (i + 1)), by omega, ⟨i + 1, by omega, rfl, fun j hj => ?_⟩, fun k => ?_⟩
    · show upd q.1 i 0 j = 0
      by_cases hji : j = i
      · subst hji
        exact upd_same
      · rw [upd_ne hji]
        exact g2 j (by omega)
    · unfold jf_Arrays_fill_5B
      rw [g1, if_neg (nI_ge (by omega) (by omega)), jp_xr (by omega) (by omega), nI_clamp (by omega), jp_xl, nI_1, jp_xl]
theorem jm_lay120 (text : Nat → Int32) (letters : Int32) (mowers : Int32) (cows : Int32) (ricks : Int32) (weathers : Int32) (says : Nat → Int32) (words : Nat → Int32) (weather : Nat → Int32) (kindOf : Nat → Int32) (thatch : Nat → Int32) (newMowers : Int32) (newCows : Int32) (newRicks : Int32) (newWeathers : Int32) (newSays : Nat → Int32) (newWords : Nat → Int32) (newWeather : Nat → Int32) (newKind : Nat → Int32) (newThatch : Nat → Int32) (st : Nat → Int32) (pasts : Int32) (seen : Int32) (keeps : Int32) (kx : (Nat → Int32) → Option (Int32 × Int32 × Int32 × Int32 × Int32 × (Nat → Int32) × (Nat → Int32) × (Nat → Int32) × (Nat → Int32) × (Nat → Int32) × Int32 × Int32 × Int32 × Int32 × (Nat → Int32) × (Nat → Int32) × (Nat → Int32) × (Nat → Int32) × (Nat → Int32) × (Nat → Int32) × Int32 × Int32 × Int32)) :
    ∃ s : Nat → Int32, jf_M_lay_120 4000 text letters mowers cows ricks weathers says words weather kindOf thatch newMowers newCows newRicks newWeathers newSays newWords newWeather newKind newThatch st pasts seen keeps (0 : Int32) kx = kx s ∧ ∀ j, j < 93 → s j = 0 := by
  unfold jf_M_lay_120
  refine xloop_one _ (fun (r : Nat) (q : (Nat → Int32) × Int32) => ∃ i : Nat, i + r = 93 ∧ q.2 = nI i ∧ ∀ j, j < i → q.1 j = 0) (fun o => ∃ s : Nat → Int32, o = kx s ∧ ∀ j, j < 93 → s j = 0) (fun r q h => ?_) 93 4000 _ (by decide) ⟨0, by omega, rfl, fun j hj => by omega⟩
  obtain ⟨i, hi, g1, g2⟩ := h
  by_cases hr : r = 0
  · refine Or.inr ⟨kx q.1, ⟨q.1, rfl, fun j hj => g2 j (by omega)⟩, fun k => ?_⟩
    unfold jf_M_lay_120B
    rw [g1, if_pos (show (93 : Int32) ≤ nI i from nI_le (a := 93) (by omega) (by omega))]
  · refine Or.inl ⟨r - 1, (upd q.1 i 0, nI (i + 1)), by omega, ⟨i + 1, by omega, rfl, fun j hj => ?_⟩, fun k => ?_⟩
    · show upd q.1 i 0 j = 0
      by_cases hji : j = i
      · subst hji
        exact upd_same
      · rw [upd_ne hji]
        exact g2 j (by omega)
    · unfold jf_M_lay_120B
      rw [g1, if_neg (show ¬ (93 : Int32) ≤ nI i from nI_ge (b := 93) (by omega) (by decide)), jp_xr (by omega) (by decide), nI_clamp (by omega), jp_xl, nI_1, jp_xl]
theorem RField_zero {nc nk : Nat} {fv : jFV} {st : Nat → Int32} (h1 : ∀ j, j < 5 → fv.1 j = 0) (h2 : ∀ j, j < 5 → fv.2.1 j = 0) (h3 : ∀ j, j < 4 → fv.2.2.1 j = 0) (h4 : ∀ j, j < 3 → fv.2.2.2.1 j = 0) (h5 : ∀ j, j < 3 → fv.2.2.2.2.1 j = 0) (h6 : fv.2.2.2.2.2.2.2.2 = 0) (hs : ∀ j, j < 93 → st j = 0) : RField 999 nc nk fv st :=
  ⟨⟨0, by omega, h6, hs 0 (by omega), fun k hk => ⟨0, Nat.le_refl _, h5 k hk, hs _ (by omega)⟩⟩, fun m hm => ⟨⟨0, by omega, h1 m hm, hs _ (by omega)⟩, 0, by omega, h2 m hm, hs _ (by omega)⟩, fun c hc => ⟨0, by omega, fun _ => rfl, h3 c hc, hs _ (by omega)⟩, fun k hk => ⟨0, by omega, fun _ => rfl, h4 k hk, hs _ (by omega), fun i hi => by omega⟩⟩
theorem RLand_of {nm nc nk : Nat} {gv : jLV} {mowers cows ricks weathers : Int32} {says words weather kindOf thatch : Nat → Int32} (hD : RDraft nm nc nk gv mowers cows ricks weathers says words weather kindOf thatch) (h1 : 1 ≤ nm) (h2 : 1 ≤ nc) (h3 : 1 ≤ nk) {s2 w2 e2 k2 t2 : Nat → Int32} (e1 : ∀ j, j < 5 → s2 j = says j) (e3 : ∀ j, j < 45 → w2 j = words j) (e4 : ∀ j, j < 9 → e2 j = weather j) (e5 : ∀ j, j < 4 → k2 j = kindOf j) (e6 : ∀ j, j < 3 → t2 j = thatch j) : RLand nm nc nk gv mowers cows ricks weathers s2 w2 e2 k2 t2 := by
  obtain ⟨d0, d1, d2, d3, d4, d5, d6, d7⟩ := hD
  refine ⟨⟨h1, d0.1, h2, d0.2.1, h3, d0.2.2⟩, d1, d2, d3, fun m hm => ?_, ?_, fun c hc => ?_, fun k hk => ?_⟩
  · obtain ⟨n, n1, n2, n3, n4, n5⟩ := d4 m hm
    refine ⟨n, n1, n2, n3, (e1 m (by omega)).trans n4, fun j hj => ?_⟩
    obtain ⟨w, a1, a2, a3⟩ := n5 j hj
    exact ⟨w, a1, a2, (e3 _ (by omega)).trans a3⟩
  · rcases d5 with ⟨a1, a2, a3⟩ | ⟨n, n1, n2, n3, n4, n5⟩
    · exact Or.inl ⟨a1, a2, (e4 0 (by decide)).trans a3⟩
    · refine Or.inr ⟨n, n1, n2, n3, n4, fun j hj => ?_⟩
      obtain ⟨w, a1, a2, a3⟩ := n5 j hj
      exact ⟨w, a1, a2, (e4 _ (by omega)).trans a3⟩
  · obtain ⟨v, a1, a2, a3⟩ := d6 c hc
    exact ⟨v, a1, a2, (e5 c (by omega)).trans a3⟩
  · obtain ⟨v, a1, a2, a3⟩ := d7 k hk
    exact ⟨v, a1, a2, (e6 k (by omega)).trans a3⟩
theorem RPile_zero {M nc nk nc2 nk2 : Nat} {newest size : Int32} {v : Nat → jFV} {sz : Int32} {row : Nat → Int32} (r : RPile M nc nk newest size v sz row) : RPile M nc2 nk2 newest 0 v 0 row := by
  obtain ⟨q, n, q1, q2, q3, q4, q5, q6⟩ := r
  exact ⟨q, 0, q1, Nat.zero_le _, q3, rfl, rfl, fun j hj => by omega⟩
theorem RLet_of {tl text : Nat → Int32} {tn letters : Int32} (r : RText tl tn text letters) : ∃ (n : Nat) (c : Nat → Nat), tn = nI n ∧ letters = nI n ∧ RLet n tl text c := by
  obtain ⟨n, n1, n2, n3, n4⟩ := r
  have hx : ∀ j, ∃ c : Nat, j < n → c < 128 ∧ tl j = nI c ∧ text j = nI c := fun j => by
    by_cases hj : j < n
    · obtain ⟨c, hc⟩ := n4 j hj
      exact ⟨c, fun _ => hc⟩
    · exact ⟨0, fun z => absurd z hj⟩
  obtain ⟨c, hc⟩ := Classical.axiomOfChoice hx
  exact ⟨n, c, n2, n3, n1, hc⟩
theorem jop_2 (x : jX) (y : jM) (v : Nat → Int32) (h : jRel x y) : ∃ (o1 : Int32 × jX) (o2 : Int32 × jM), jh 4000 2 x v = some o1 ∧ jm 4000 2 y v = some o2 ∧ o1.1 = o2.1 ∧ jRel o1.2 o2.2 := by
  obtain ⟨nm, nc, nk, hL, hF, hT, hS, hP, hK⟩ := h
  show ∃ (o1 : Int32 × jX) (o2 : Int32 × jM), jh_2 4000 x = some o1 ∧ jm_2 4000 y = some o2 ∧ o1.1 = o2.1 ∧ jRel o1.2 o2.2
  unfold jh_2 jm_2 jf_H_fault
  obtain ⟨n, c, t1, t2, hR⟩ := RLet_of hT
  obtain ⟨a, l, m, p1, p2, p3⟩ := jt_text hR x.2.2.2.2.2.2.2.2.1 y.2.2.2.2.2.2.2.2.2.2.2.1 y.2.2.2.2.2.2.2.2.2.2.2.2.1 y.2.2.2.2.2.2.2.2.2.2.2.2.2.1 y.2.2.2.2.2.2.2.2.2.2.2.2.2.2.1 y.2.2.2.2.2.2.2.2.2.2.2.2.2.2.2.1 y.2.2.2.2.2.2.2.2.2.2.2.2.2.2.2.2.1 y.2.2.2.2.2.2.2.2.2.2.2.2.2.2.2.2.2.1 y.2.2.2.2.2.2.2.2.2.2.2.2.2.2.2.2.2.2.1 y.2.2.2.2.2.2.2.2.2.2.2.2.2.2.2.2.2.2.2.1
  rw [← t1] at p1
  rw [← t2] at p2
  rw [p1, jp_xb, jp_xb, p2, jp_xb]
  exact ⟨_, _, rfl, rfl, rfl, nm, nc, nk, hL, hF, hT, hS, hP, hK⟩

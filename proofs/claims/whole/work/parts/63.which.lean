/-- a counting loop of which every state is known -/
theorem xloop_seq {σ β : Type} (B : (σ → Option β) → σ → Option β) (s : Nat → σ) (n f : Nat) (o : Option β) (hf : n < f) (hs : ∀ i, i < n → ∀ k, B k (s i) = k (s (i + 1))) (he : ∀ k, B k (s n) = o) : xloop B f (s 0) = o := by
  refine xloop_one B (fun r q => ∃ i, i + r = n ∧ q = s i) (fun z => z = o) (fun r q h => ?_) n f (s 0) hf ⟨0, by omega, rfl⟩
  obtain ⟨i, hi, e⟩ := h
  subst e
  by_cases hr : r = 0
  · exact Or.inr ⟨o, rfl, fun k => by rw [show i = n by omega]; exact he k⟩
  · exact Or.inl ⟨r - 1, s (i + 1), by omega, ⟨i + 1, by omega, rfl⟩, hs i (by omega)⟩
section WHICH
variable {nm nc nk : Nat} {gv : jLV} {mowers cows ricks weathers : Int32} {says words weather kindOf thatch : Nat → Int32}
/-- whether all that is seen is so of one mower -/
theorem jb_so (hL : RLand nm nc nk gv mowers cows ricks weathers says words weather kindOf thatch) {n m : Nat} {sw sh seenWord seenHour : Nat → Int32} (hm : m < nm) (hn : n ≤ 6) (hs : ∀ j, j < n → (∃ w, w ≤ 9 ∧ sw j = nI w ∧ seenWord j = nI w) ∧ ∃ h, h ≤ 99 ∧ sh j = nI h ∧ seenHour j = nI h) :
    (jf_S_isSoOf 4000 sw sh (nI n) gv.1 gv.2.1 (nI m) = some 1 ∧ ∀ x1 (kx : Int32 → Option Int32), jf_M_which_17 4000 mowers says words (nI n) seenWord seenHour x1 (nI m) (1 : Int32) (0 : Int32) kx = kx 1) ∨
    (jf_S_isSoOf 4000 sw sh (nI n) gv.1 gv.2.1 (nI m) = some 0 ∧ ∀ x1 (kx : Int32 → Option Int32), jf_M_which_17 4000 mowers says words (nI n) seenWord seenHour x1 (nI m) (1 : Int32) (0 : Int32) kx = kx 0) := by
  have c1 : ((∀ j, j < n → jf_M_nextWord 4000 says words (nI m) (seenHour j) = some (seenWord j)) ∧ jf_S_isSoOf 4000 sw sh (nI n) gv.1 gv.2.1 (nI m) = some 1) ∨ ((¬ ∀ j, j < n → jf_M_nextWord 4000 says words (nI m) (seenHour j) = some (seenWord j)) ∧ jf_S_isSoOf 4000 sw sh (nI n) gv.1 gv.2.1 (nI m) = some 0) := by
    unfold jf_S_isSoOf jf_S_isSoOf_2
    refine xloop_one _ (fun (r : Nat) (q : Int32) => ∃ i : Nat, i + r = n ∧ q = nI i ∧ ∀ j, j < i → jf_M_nextWord 4000 says words (nI m) (seenHour j) = some (seenWord j)) (fun (o : Option Int32) => ((∀ j, j < n → jf_M_nextWord 4000 says words (nI m) (seenHour j) = some (seenWord j)) ∧ o = some 1) ∨ ((¬ ∀ j, j < n → jf_M_nextWord 4000 says words (nI m) (seenHour j) = some (seenWord j)) ∧ o = some 0)) (fun r q h2 => ?_) n 4000 _ (by omega) ⟨0, by omega, rfl, fun j hj => by omega⟩
    obtain ⟨i, hi, e, ha⟩ := h2
    subst e
    by_cases hr : r = 0
    · have hin : i = n := by omega
      subst hin
      refine Or.inr ⟨some 1, Or.inl ⟨ha, rfl⟩, fun k => ?_⟩
      unfold jf_S_isSoOf_2B
      rw [if_pos (nI_le (Nat.le_refl _) (by omega))]
    · obtain ⟨⟨w, w1, w2, w3⟩, h, h1, h2, h3⟩ := hs i (by omega)
      obtain ⟨z, z1, z2, z3⟩ := jl_word hL (N := 4000) hm (t := h) (by omega)
      have hP : jf_M_nextWord 4000 says words (nI m) (seenHour i) = some (nI z) := by rw [h3]; exact z3
      by_cases hc : nI z = nI w
      · refine Or.inl ⟨r - 1, nI (i + 1), by omega, ⟨i + 1, by omega, rfl, fun j hj => ?_⟩, fun k => ?_⟩
        · by_cases hj2 : j = i
          · subst hj2
            rw [hP, w3, hc]
          · exact ha j (by omega)
        · unfold jf_S_isSoOf_2B
          rw [if_neg (nI_ge (by omega) (by omega)), jr_at (by omega) (by decide), jp_xb, h2, z2, jp_xb, jr_at (by omega) (by decide), jp_xb, w2, if_pos hc, jp_xl, nI_1]
      · refine Or.inr ⟨some 0, Or.inr ⟨fun q => hc ?_, rfl⟩, fun k => ?_⟩
        · have := q i (by omega)
          rw [hP, w3] at this
          exact Option.some.inj this
        · unfold jf_S_isSoOf_2B
          rw [if_neg (nI_ge (by omega) (by omega)), jr_at (by omega) (by decide), jp_xb, h2, z2, jp_xb, jr_at (by omega) (by decide), jp_xb, w2, if_neg hc]
  have c2 : ∀ x1 (kx : Int32 → Option Int32), ((∀ j, j < n → jf_M_nextWord 4000 says words (nI m) (seenHour j) = some (seenWord j)) ∧ jf_M_which_17 4000 mowers says words (nI n) seenWord seenHour x1 (nI m) (1 : Int32) (0 : Int32) kx = kx 1) ∨ ((¬ ∀ j, j < n → jf_M_nextWord 4000 says words (nI m) (seenHour j) = some (seenWord j)) ∧ jf_M_which_17 4000 mowers says words (nI n) seenWord seenHour x1 (nI m) (1 : Int32) (0 : Int32) kx = kx 0) := by
    intro x1 kx
    unfold jf_M_which_17
    refine xloop_one _ (fun (r : Nat) (q : Int32 × Int32) => ∃ i : Nat, i + r = n ∧ ((q = (1, nI i) ∧ ∀ j, j < i → jf_M_nextWord 4000 says words (nI m) (seenHour j) = some (seenWord j)) ∨ (q = (0, nI i) ∧ ¬ ∀ j, j < i → jf_M_nextWord 4000 says words (nI m) (seenHour j) = some (seenWord j)))) (fun (o : Option Int32) => ((∀ j, j < n → jf_M_nextWord 4000 says words (nI m) (seenHour j) = some (seenWord j)) ∧ o = kx 1) ∨ ((¬ ∀ j, j < n → jf_M_nextWord 4000 says words (nI m) (seenHour j) = some (seenWord j)) ∧ o = kx 0)) (fun r q h2 => ?_) n 4000 _ (by omega) ⟨0, by omega, Or.inl ⟨rfl, fun j hj => by omega⟩⟩
    obtain ⟨i, hi, ⟨e, ha⟩ | ⟨e, ha⟩⟩ := h2
    · subst e
      by_cases hr : r = 0
      · have hin : i = n := by omega
        subst hin
        refine Or.inr ⟨kx 1, Or.inl ⟨ha, rfl⟩, fun k => ?_⟩
        unfold jf_M_which_17B
        rw [if_pos (nI_le (Nat.le_refl _) (by omega))]
      · obtain ⟨⟨w, w1, w2, w3⟩, h, h1, h2, h3⟩ := hs i (by omega)
        obtain ⟨z, z1, z2, z3⟩ := jl_word hL (N := 4000) hm (t := h) (by omega)
        have hP : jf_M_nextWord 4000 says words (nI m) (seenHour i) = some (nI z) := by rw [h3]; exact z3
        by_cases hc : nI z = nI w
        · refine Or.inl ⟨r - 1, (1, nI (i + 1)), by omega, ⟨i + 1, by omega, Or.inl ⟨rfl, fun j hj => ?_⟩⟩, fun k => ?_⟩
          · by_cases hj2 : j = i
            · subst hj2
              rw [hP, w3, hc]
            · exact ha j (by omega)
          · unfold jf_M_which_17B jf_M_which_57
            rw [if_neg (nI_ge (by omega) (by omega)), if_neg (show ¬ (1 : Int32) = 0 by decide), jp_xr (by omega) (by decide), nI_clamp (by omega), hP, jp_xb, jp_xr (by omega) (by decide), w3, if_pos hc, nI_1, jp_xl]
        · refine Or.inl ⟨r - 1, (0, nI (i + 1)), by omega, ⟨i + 1, by omega, Or.inr ⟨rfl, fun q => hc ?_⟩⟩, fun k => ?_⟩
          · have := q i (by omega)
            rw [hP, w3] at this
            exact Option.some.inj this
          · unfold jf_M_which_17B jf_M_which_56 jf_M_which_57
            rw [if_neg (nI_ge (by omega) (by omega)), if_neg (show ¬ (1 : Int32) = 0 by decide), jp_xr (by omega) (by decide), nI_clamp (by omega), hP, jp_xb, jp_xr (by omega) (by decide), w3, if_neg hc, nI_1, jp_xl]
    · subst e
      by_cases hr : r = 0
      · have hin : i = n := by omega
        subst hin
        refine Or.inr ⟨kx 0, Or.inr ⟨ha, rfl⟩, fun k => ?_⟩
        unfold jf_M_which_17B
        rw [if_pos (nI_le (Nat.le_refl _) (by omega))]
      · refine Or.inl ⟨r - 1, (0, nI (i + 1)), by omega, ⟨i + 1, by omega, Or.inr ⟨rfl, fun q => ha (fun j hj => q j (by omega))⟩⟩, fun k => ?_⟩
        unfold jf_M_which_17B jf_M_which_56 jf_M_which_57
        rw [if_neg (nI_ge (by omega) (by omega)), if_pos (show (0 : Int32) = 0 from rfl), nI_1, jp_xl]
  rcases c1 with ⟨a1, a2⟩ | ⟨a1, a2⟩
  · refine Or.inl ⟨a2, fun x1 kx => ?_⟩
    rcases c2 x1 kx with ⟨b1, b2⟩ | ⟨b1, b2⟩
    · exact b2
    · exact absurd a1 b1
  · refine Or.inr ⟨a2, fun x1 kx => ?_⟩
    rcases c2 x1 kx with ⟨b1, b2⟩ | ⟨b1, b2⟩
    · exact absurd b1 a1
    · exact b2
theorem jb_which (hL : RLand nm nc nk gv mowers cows ricks weathers says words weather kindOf thatch) {n : Nat} {sw sh seenWord seenHour : Nat → Int32} (hn : n ≤ 6) (hs : ∀ j, j < n → (∃ w, w ≤ 9 ∧ sw j = nI w ∧ seenWord j = nI w) ∧ ∃ h, h ≤ 99 ∧ sh j = nI h ∧ seenHour j = nI h) :
    ∃ r, jf_H_which 4000 sw sh (nI n) gv.1 gv.2.1 gv.2.2.2.2.2.2.1 = some r ∧ jf_M_which 4000 mowers says words (nI n) seenWord seenHour = some r := by
  have hm5 := hL.1.2.1
  rw [hL.2.1.1, hL.2.1.2]
  unfold jf_H_which jf_M_which jf_H_which_4 jf_M_which_4
  refine xloop_rel (σ1 := Int32 × Int32) (σ2 := Int32 × Int32) (fun (kh : (Int32 × Int32) → Option (Int32)) q => jf_H_which_4B 4000 sw sh (nI n) gv.1 gv.2.1 (nI nm) q.1 q.2 kh) (fun (kh : (Int32 × Int32) → Option (Int32)) q => jf_M_which_4B 4000 (nI nm) says words (nI n) seenWord seenHour q.1 q.2 kh)
    (fun r q1 q2 => q1 = q2 ∧ ∃ (i : Nat) (a : Int32), i + r = nm ∧ q1 = (a, nI i)) (fun o1 o2 => ∃ r, o1 = some r ∧ o2 = some r) ?_ nm 4000 4000 (0, 0) (0, 0) (by omega) (by omega) ⟨rfl, 0, 0, by omega, rfl⟩
  intro r q1 q2 ⟨hq, i, a, hi, e⟩
  subst hq
  subst e
  by_cases hr : r = 0
  · refine Or.inr ⟨some a, some a, ⟨_, rfl, rfl⟩, fun kh => ?_, fun kh => ?_⟩
    · unfold jf_H_which_4B
      rw [if_pos (nI_le (by omega) (by omega))]
    · unfold jf_M_which_4B
      rw [if_pos (nI_le (by omega) (by omega))]
  · have hL2 := hL
    rcases jb_so hL (m := i) (by omega) hn hs with ⟨a1, a2⟩ | ⟨a1, a2⟩
    · refine Or.inl ⟨r - 1, (a ||| ((1 : Int32) <<< (nI i &&& 31)), nI (i + 1)), _, by omega, ⟨rfl, i + 1, _, by omega, rfl⟩, fun kh => ?_, fun kh => ?_⟩
      · unfold jf_H_which_4B jf_H_which_36
        rw [if_neg (nI_ge (by omega) (by omega)), a1, jp_xb, if_neg (show ¬ (1 : Int32) = 0 by decide), jp_xl, nI_1, jp_xl]
      · have a3 := a2 a (fun q1 => jf_M_which_64 4000 (nI nm) says words (nI n) seenWord seenHour a (nI i) q1 kh)
        rw [hL.2.1.2] at a3
        unfold jf_M_which_4B
        rw [if_neg (nI_ge (by omega) (by omega)), a3]
        unfold jf_M_which_64 jf_M_which_76
        rw [if_neg (show ¬ (1 : Int32) = 0 by decide), jp_xl, nI_1, jp_xl]
    · refine Or.inl ⟨r - 1, (a, nI (i + 1)), _, by omega, ⟨rfl, i + 1, _, by omega, rfl⟩, fun kh => ?_, fun kh => ?_⟩
      · unfold jf_H_which_4B jf_H_which_36
        rw [if_neg (nI_ge (by omega) (by omega)), a1, jp_xb, if_pos (show (0 : Int32) = 0 from rfl), nI_1, jp_xl]
      · have a3 := a2 a (fun q1 => jf_M_which_64 4000 (nI nm) says words (nI n) seenWord seenHour a (nI i) q1 kh)
        rw [hL.2.1.2] at a3
        unfold jf_M_which_4B
        rw [if_neg (nI_ge (by omega) (by omega)), a3]
        unfold jf_M_which_64 jf_M_which_76
        rw [if_pos (show (0 : Int32) = 0 from rfl), jp_xl, nI_1, jp_xl, show a ||| (0 : Int32) = a by simp]
end WHICH
theorem jop_23 (x : jX) (y : jM) (v : Nat → Int32) (h : jRel x y) : ∃ (o1 : Int32 × jX) (o2 : Int32 × jM), jh 4000 23 x v = some o1 ∧ jm 4000 23 y v = some o2 ∧ o1.1 = o2.1 ∧ jRel o1.2 o2.2 := by
  refine jop_ro (x := x) (y := y) (a := jf_H_which 4000 _ _ _ _ _ _) (b := jf_M_which 4000 _ _ _ _ _ _) ?_ h
  obtain ⟨nm, nc, nk, hL, hF, hT, hS, hP, hK⟩ := h
  obtain ⟨n, hn, e1, e2, hs⟩ := hS
  rw [e1, e2]
  exact jb_which hL hn hs

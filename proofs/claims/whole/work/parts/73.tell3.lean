section TELL
variable {nk : Nat} {heights lw st : Nat → Int32} {n : Nat → Nat} {W : Nat → Nat → Nat}
/-- so many cuts tell all of the set -/
def jC (x : Int32) (kd t : Nat) (W : Nat → Nat → Nat) (i j l : Nat) : Prop := x &&& (nI (jT3 kd t W i j l) ^^^ (-1 : Int32)) = 0
def jV (x3 : Int32) (i j l : Nat) : Int32 := if x3 = -1 then nI (i + j + l) else if x3 = 0 then nI i else if x3 = 1 then nI j else nI l
def jU (i j l : Nat) : Int32 := nI (100 * i + 10 * j + l)
theorem jb_tellM3 (hT : RTop nk heights lw st n W) {kd c t a b : Nat} {cows : Int32} {kindOf : Nat → Int32} (h1 : 1 ≤ nk) (h3 : nk ≤ 3) (hkd : kd ≤ 3) (hc : c < 4) (ekd : kindOf c = nI kd) (ht : t < 1024) (et : st (11 + c) = nI t) (ha : a ≤ n 0) (hb : b ≤ n 1) (x x3 : Int32) {best few : Int32} (hS : jSt (jC x kd t W) (jPM (n 0) (n 1) (n 2) a b (n 2 + 1)) (jV x3) 100 best few) :
    ∃ t' : Int32 × Int32, jSt (jC x kd t W) (jPM (n 0) (n 1) (n 2) a b 0) (jV x3) 100 t'.1 t'.2 ∧ ∀ kx, jf_M_tell_80 4000 cows (nI nk) kindOf st (nI c) x x3 best few (nI a) (nI b) (nI (n 2)) kx = kx t' := by
  have b0 := (hT 0 (by decide)).1
  have b1 := (hT 1 (by decide)).1
  have b2 := (hT 2 (by decide)).1
  unfold jf_M_tell_80
  refine xloop_onex (σ := Int32 × Int32 × Int32) (fun (kx : (Int32 × Int32) → Option Int32) (kh : (Int32 × Int32 × Int32) → Option (Int32)) q => jf_M_tell_80B 4000 cows (nI nk) kindOf st (nI c) x x3 q.1 q.2.1 (nI a) (nI b) q.2.2 kh kx)
    (fun r q => q.2.2 = nI r + (-1 : Int32) ∧ r ≤ n 2 + 1 ∧ jSt (jC x kd t W) (jPM (n 0) (n 1) (n 2) a b r) (jV x3) 100 q.1 q.2.1) (fun t' => jSt (jC x kd t W) (jPM (n 0) (n 1) (n 2) a b 0) (jV x3) 100 t'.1 t'.2) ?_ (n 2 + 1) 4000 (best, few, nI (n 2)) (by omega) ⟨(pk_m1 (n 2)).symm, Nat.le_refl _, hS⟩
  intro r q ⟨g1, g2, g3⟩
  obtain ⟨be, fe, xx⟩ := q
  have g1 : xx = nI r + (-1 : Int32) := g1
  have g3 : jSt (jC x kd t W) (jPM (n 0) (n 1) (n 2) a b r) (jV x3) 100 be fe := g3
  subst g1
  by_cases hr : r = 0
  · subst hr
    refine Or.inr ⟨(be, fe), g3, fun kx kh => ?_⟩
    unfold jf_M_tell_80B
    rw [if_pos (show nI 0 + (-1 : Int32) < 0 by decide)]
  · obtain ⟨l, rfl⟩ : ∃ l, r = l + 1 := ⟨r - 1, by omega⟩
    obtain ⟨m1, m2, m3⟩ := jM_next b0 b1 b2 ha hb (show l ≤ n 2 by omega) g3
    have eT := jb_told hT h1 h3 hkd hc ekd ht et ha hb (show l ≤ n 2 by omega)
    by_cases hf : fe ≤ nI (a + b + l)
    · refine Or.inl ⟨l, (be, fe, nI l + (-1 : Int32)), rfl, ⟨rfl, by omega, m1 hf⟩, fun kx kh => ?_⟩
      unfold jf_M_tell_80B jf_M_tell_159
      rw [pk_m1, if_neg (nI_pos (show l < 2 ^ 31 by omega)), nI_add, nI_add, if_pos hf, jp_xl]
    · by_cases hC : x &&& (nI (jT3 kd t W a b l) ^^^ (-1 : Int32)) = 0
      · refine Or.inl ⟨l, (jV x3 a b l, nI (a + b + l), nI l + (-1 : Int32)), rfl, ⟨rfl, by omega, m2 hf hC⟩, fun kx kh => ?_⟩
        unfold jf_M_tell_80B jf_M_tell_157 jf_M_tell_159 jV
        rw [pk_m1, if_neg (nI_pos (show l < 2 ^ 31 by omega)), nI_add, nI_add, if_neg hf, eT, jp_xb, if_pos hC, jp_xl]
        by_cases x1 : x3 = -1
        · rw [if_pos x1, if_pos x1, jp_xl]
        · rw [if_neg x1, if_neg x1]
          by_cases x2 : x3 = 0
          · rw [if_pos x2, if_pos x2, jp_xl]
          · rw [if_neg x2, if_neg x2]
            by_cases x4 : x3 = 1
            · rw [if_pos x4, if_pos x4, jp_xl]
            · rw [if_neg x4, if_neg x4, jp_xl]
      · refine Or.inl ⟨l, (be, fe, nI l + (-1 : Int32)), rfl, ⟨rfl, by omega, m3 hC⟩, fun kx kh => ?_⟩
        unfold jf_M_tell_80B jf_M_tell_159
        rw [pk_m1, if_neg (nI_pos (show l < 2 ^ 31 by omega)), nI_add, nI_add, if_neg hf, eT, jp_xb, if_neg hC, jp_xl]
theorem jb_tellM2 (hT : RTop nk heights lw st n W) {kd c t a : Nat} {cows : Int32} {kindOf : Nat → Int32} (h1 : 1 ≤ nk) (h3 : nk ≤ 3) (hkd : kd ≤ 3) (hc : c < 4) (ekd : kindOf c = nI kd) (ht : t < 1024) (et : st (11 + c) = nI t) (ha : a ≤ n 0) (x x3 : Int32) {best few : Int32} (hS : jSt (jC x kd t W) (fun i j l => (i ≤ n 0 ∧ j ≤ n 1 ∧ l ≤ n 2) ∧ a < i) (jV x3) 100 best few) :
    ∃ t' : Int32 × Int32, jSt (jC x kd t W) (fun i j l => (i ≤ n 0 ∧ j ≤ n 1 ∧ l ≤ n 2) ∧ a ≤ i) (jV x3) 100 t'.1 t'.2 ∧ ∀ kx, jf_M_tell_66 4000 cows (nI nk) kindOf st (nI c) x x3 best few (nI a) (nI (n 1)) kx = kx t' := by
  have b0 := (hT 0 (by decide)).1
  have b1 := (hT 1 (by decide)).1
  have b2 := (hT 2 (by decide)).1
  have e17 : st 17 = nI (n 2) := (hT 2 (by decide)).2.2.2.1
  unfold jf_M_tell_66
  refine xloop_onex (σ := Int32 × Int32 × Int32) (fun (kx : (Int32 × Int32) → Option Int32) (kh : (Int32 × Int32 × Int32) → Option (Int32)) q => jf_M_tell_66B 4000 cows (nI nk) kindOf st (nI c) x x3 q.1 q.2.1 (nI a) q.2.2 kh kx)
    (fun r q => q.2.2 = nI r + (-1 : Int32) ∧ r ≤ n 1 + 1 ∧ jSt (jC x kd t W) (fun i j l => (i ≤ n 0 ∧ j ≤ n 1 ∧ l ≤ n 2) ∧ (a < i ∨ (i = a ∧ r ≤ j))) (jV x3) 100 q.1 q.2.1) (fun t' => jSt (jC x kd t W) (fun i j l => (i ≤ n 0 ∧ j ≤ n 1 ∧ l ≤ n 2) ∧ a ≤ i) (jV x3) 100 t'.1 t'.2) ?_ (n 1 + 1) 4000 (best, few, nI (n 1)) (by omega) ⟨(pk_m1 (n 1)).symm, Nat.le_refl _, hS.keep (fun i j l hp => ⟨hp.1, Or.inl hp.2⟩) (fun i j l hp _ => ⟨hp.1, by omega⟩)⟩
  intro r q ⟨g1, g2, g3⟩
  obtain ⟨be, fe, xx⟩ := q
  have g1 : xx = nI r + (-1 : Int32) := g1
  have g3 : jSt (jC x kd t W) (fun i j l => (i ≤ n 0 ∧ j ≤ n 1 ∧ l ≤ n 2) ∧ (a < i ∨ (i = a ∧ r ≤ j))) (jV x3) 100 be fe := g3
  subst g1
  by_cases hr : r = 0
  · subst hr
    refine Or.inr ⟨(be, fe), g3.keep (fun i j l hp => ⟨hp.1, by omega⟩) (fun i j l hp _ => ⟨hp.1, by omega⟩), fun kx kh => ?_⟩
    unfold jf_M_tell_66B
    rw [if_pos (show nI 0 + (-1 : Int32) < 0 by decide)]
  · obtain ⟨b, rfl⟩ : ∃ b, r = b + 1 := ⟨r - 1, by omega⟩
    obtain ⟨t', s1, s2⟩ := jb_tellM3 hT (cows := cows) h1 h3 hkd hc ekd ht et ha (show b ≤ n 1 by omega) x x3 (best := be) (few := fe) (g3.keep (fun i j l hp => by unfold jPM; omega) (fun i j l hp _ => by unfold jPM at hp; exact ⟨hp.1, by omega⟩))
    refine Or.inl ⟨b, (t'.1, t'.2, nI b + (-1 : Int32)), rfl, ⟨rfl, by omega, s1.keep (fun i j l hp => by unfold jPM at hp; exact ⟨hp.1, by omega⟩) (fun i j l hp _ => by unfold jPM; omega)⟩, fun kx kh => ?_⟩
    unfold jf_M_tell_66B
    rw [pk_m1, if_neg (nI_pos (show b < 2 ^ 31 by omega)), show (17 : Int32) = nI 17 from rfl, jp_xr (show 17 < 93 by decide) (by decide), nI_clamp (show 17 < 2 ^ 31 by decide), e17, jp_xl, s2]
    unfold jf_M_tell_165
    rw [jp_xl]
theorem jb_tellM1 (hT : RTop nk heights lw st n W) {kd c t : Nat} {cows : Int32} {kindOf : Nat → Int32} (h1 : 1 ≤ nk) (h3 : nk ≤ 3) (hkd : kd ≤ 3) (hc : c < 4) (ekd : kindOf c = nI kd) (ht : t < 1024) (et : st (11 + c) = nI t) (x x3 : Int32) :
    ∃ best few, jSt (jC x kd t W) (fun i j l => i ≤ n 0 ∧ j ≤ n 1 ∧ l ≤ n 2) (jV x3) 100 best few ∧ jf_M_tell_52 4000 cows (nI nk) kindOf st (nI c) x x3 (-4 : Int32) (100 : Int32) (nI (n 0)) = some best := by
  have b0 := (hT 0 (by decide)).1
  have b1 := (hT 1 (by decide)).1
  have e16 : st 16 = nI (n 1) := (hT 1 (by decide)).2.2.2.1
  unfold jf_M_tell_52
  refine xloop_one _ (fun (r : Nat) (q : Int32 × Int32 × Int32) => q.2.2 = nI r + (-1 : Int32) ∧ r ≤ n 0 + 1 ∧ jSt (jC x kd t W) (fun i j l => (i ≤ n 0 ∧ j ≤ n 1 ∧ l ≤ n 2) ∧ r ≤ i) (jV x3) 100 q.1 q.2.1) (fun (o : Option Int32) => ∃ best few, jSt (jC x kd t W) (fun i j l => i ≤ n 0 ∧ j ≤ n 1 ∧ l ≤ n 2) (jV x3) 100 best few ∧ o = some best) (fun r q h2 => ?_) (n 0 + 1) 4000 _ (by omega) ⟨(pk_m1 (n 0)).symm, Nat.le_refl _, jSt.start (fun i j l hp => by omega)⟩
  obtain ⟨g1, g2, g3⟩ := h2
  obtain ⟨be, fe, xx⟩ := q
  have g1 : xx = nI r + (-1 : Int32) := g1
  have g3 : jSt (jC x kd t W) (fun i j l => (i ≤ n 0 ∧ j ≤ n 1 ∧ l ≤ n 2) ∧ r ≤ i) (jV x3) 100 be fe := g3
  subst g1
  by_cases hr : r = 0
  · subst hr
    refine Or.inr ⟨some be, ⟨be, fe, g3.keep (fun i j l hp => hp.1) (fun i j l hp _ => ⟨hp, Nat.zero_le _⟩), rfl⟩, fun kh => ?_⟩
    unfold jf_M_tell_52B
    rw [if_pos (show nI 0 + (-1 : Int32) < 0 by decide)]
  · obtain ⟨a, rfl⟩ : ∃ a, r = a + 1 := ⟨r - 1, by omega⟩
    obtain ⟨t', s1, s2⟩ := jb_tellM2 hT (cows := cows) h1 h3 hkd hc ekd ht et (show a ≤ n 0 by omega) x x3 (best := be) (few := fe) g3
    refine Or.inl ⟨a, (t'.1, t'.2, nI a + (-1 : Int32)), rfl, ⟨rfl, by omega, s1⟩, fun kh => ?_⟩
    unfold jf_M_tell_52B
    rw [pk_m1, if_neg (nI_pos (show a < 2 ^ 31 by omega)), show (16 : Int32) = nI 16 from rfl, jp_xr (show 16 < 93 by decide) (by decide), nI_clamp (show 16 < 2 ^ 31 by decide), e16, jp_xl, s2]
    unfold jf_M_tell_171
    rw [jp_xl]
end TELL

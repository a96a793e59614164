/-! the best of all cuts -/
def jK (i j l : Nat) : Nat := 200 * (i + j + l) + 10 * (8 - i) + (8 - j)
def jBest (C P : Nat → Nat → Nat → Prop) (i j l : Nat) : Prop := P i j l ∧ C i j l ∧ ∀ i' j' l', P i' j' l' → C i' j' l' → jK i j l ≤ jK i' j' l'
/-- how the searches stand: nothing found yet, or the best of those looked at -/
def jSt (C P : Nat → Nat → Nat → Prop) (V : Nat → Nat → Nat → Int32) (z : Nat) (best few : Int32) : Prop := (best = -4 ∧ few = nI z ∧ ∀ i j l, P i j l → ¬ C i j l) ∨ ∃ i j l, jBest C P i j l ∧ best = V i j l ∧ few = nI (i + j + l)
theorem jSt.keep {C P Q : Nat → Nat → Nat → Prop} {V : Nat → Nat → Nat → Int32} {z : Nat} {best few : Int32} (h : jSt C P V z best few) (h1 : ∀ i j l, P i j l → Q i j l) (h2 : ∀ i j l, Q i j l → C i j l → P i j l) : jSt C Q V z best few := by
  rcases h with ⟨e1, e2, e3⟩ | ⟨i, j, l, ⟨b1, b2, b3⟩, e2, e3⟩
  · exact Or.inl ⟨e1, e2, fun i j l hq hc => e3 i j l (h2 i j l hq hc) hc⟩
  · exact Or.inr ⟨i, j, l, ⟨h1 _ _ _ b1, b2, fun i' j' l' hq hc => b3 i' j' l' (h2 _ _ _ hq hc) hc⟩, e2, e3⟩
theorem jSt.start {C P : Nat → Nat → Nat → Prop} {V : Nat → Nat → Nat → Int32} {z : Nat} (h : ∀ i j l, ¬ P i j l) : jSt C P V z (-4) (nI z) := Or.inl ⟨rfl, rfl, fun i j l hp => absurd hp (h i j l)⟩
/-- the two searches come to the same -/
theorem jSt.same {C P : Nat → Nat → Nat → Prop} {V1 V2 : Nat → Nat → Nat → Int32} {z1 z2 : Nat} {best1 few1 best2 few2 : Int32} (h1 : jSt C P V1 z1 best1 few1) (h2 : jSt C P V2 z2 best2 few2) (hP : ∀ i j l, P i j l → i ≤ 8 ∧ j ≤ 8 ∧ l ≤ 8) :
    (best1 = -4 ∧ best2 = -4) ∨ ∃ i j l, (i ≤ 8 ∧ j ≤ 8 ∧ l ≤ 8) ∧ best1 = V1 i j l ∧ best2 = V2 i j l := by
  rcases h1 with ⟨e1, e2, e3⟩ | ⟨i, j, l, ⟨b1, b2, b3⟩, e2, e3⟩
  · rcases h2 with ⟨f1, f2, f3⟩ | ⟨i, j, l, ⟨c1, c2, c3⟩, f2, f3⟩
    · exact Or.inl ⟨e1, f1⟩
    · exact absurd c2 (e3 i j l c1)
  · rcases h2 with ⟨f1, f2, f3⟩ | ⟨i', j', l', ⟨c1, c2, c3⟩, f2, f3⟩
    · exact absurd b2 (f3 i j l b1)
    · have k1 := b3 i' j' l' c1 c2
      have k2 := c3 i j l b1 b2
      have p1 := hP i j l b1
      have p2 := hP i' j' l' c1
      unfold jK at k1 k2
      have ei : i = i' := by omega
      have ej : j = j' := by omega
      have el : l = l' := by omega
      subst ei
      subst ej
      subst el
      exact Or.inr ⟨i, j, l, p1, e2, f2⟩
/-- looked at so far, backwards: from a, then from b, then from r on -/
def jPM (n0 n1 n2 a b r i j l : Nat) : Prop := (i ≤ n0 ∧ j ≤ n1 ∧ l ≤ n2) ∧ (a < i ∨ (i = a ∧ (b < j ∨ (j = b ∧ r ≤ l))))
/-- looked at so far, forwards: below a, then below b -/
def jPH (n0 n1 n2 a b i j l : Nat) : Prop := (i ≤ n0 ∧ j ≤ n1 ∧ l ≤ n2) ∧ (i < a ∨ (i = a ∧ j < b))
/-- one more looked at, backwards -/
theorem jM_next {C : Nat → Nat → Nat → Prop} {V : Nat → Nat → Nat → Int32} {n0 n1 n2 a b r : Nat} {best few : Int32} (h0 : n0 ≤ 8) (h1 : n1 ≤ 8) (h2 : n2 ≤ 8) (ha : a ≤ n0) (hb : b ≤ n1) (hr : r ≤ n2) (h : jSt C (jPM n0 n1 n2 a b (r + 1)) V 100 best few) :
    (few ≤ nI (a + b + r) → jSt C (jPM n0 n1 n2 a b r) V 100 best few) ∧ (¬ few ≤ nI (a + b + r) → C a b r → jSt C (jPM n0 n1 n2 a b r) V 100 (V a b r) (nI (a + b + r))) ∧ (¬ C a b r → jSt C (jPM n0 n1 n2 a b r) V 100 best few) := by
  have hsub : ∀ i j l, jPM n0 n1 n2 a b (r + 1) i j l → jPM n0 n1 n2 a b r i j l := fun i j l hp => by
    unfold jPM at hp ⊢
    omega
  have hnew : ∀ i j l, jPM n0 n1 n2 a b r i j l → jPM n0 n1 n2 a b (r + 1) i j l ∨ (i = a ∧ j = b ∧ l = r) := fun i j l hp => by
    unfold jPM at hp ⊢
    omega
  have hin : jPM n0 n1 n2 a b r a b r := by
    unfold jPM
    omega
  refine ⟨fun hf => ?_, fun hf hc => ?_, fun hc => ?_⟩
  · rcases h with ⟨e1, e2, e3⟩ | ⟨i, j, l, ⟨b1, b2, b3⟩, e2, e3⟩
    · rw [e2] at hf
      exact absurd hf (nI_ge (by omega) (by omega))
    · rw [e3] at hf
      have bb := id b1
      unfold jPM at bb
      have hf2 : i + j + l ≤ a + b + r := (nI_leI (by omega) (by omega)).mp hf
      refine Or.inr ⟨i, j, l, ⟨hsub _ _ _ b1, b2, fun i' j' l' hp hc => ?_⟩, e2, e3⟩
      rcases hnew i' j' l' hp with h3 | ⟨rfl, rfl, rfl⟩
      · exact b3 i' j' l' h3 hc
      · unfold jK
        omega
  · refine Or.inr ⟨a, b, r, ⟨hin, hc, fun i' j' l' hp hc' => ?_⟩, rfl, rfl⟩
    rcases hnew i' j' l' hp with h3 | ⟨rfl, rfl, rfl⟩
    · rcases h with ⟨e1, e2, e3⟩ | ⟨i, j, l, ⟨b1, b2, b3⟩, e2, e3⟩
      · exact absurd hc' (e3 i' j' l' h3)
      · have bb := id b1
        unfold jPM at bb
        have hk := b3 i' j' l' h3 hc'
        have hs : ¬ i + j + l ≤ a + b + r := fun q => hf (by rw [e3]; exact nI_le q (by omega))
        unfold jK at hk ⊢
        omega
    · exact Nat.le_refl _
  · exact h.keep hsub (fun i j l hp hc' => by
      rcases hnew i j l hp with h3 | ⟨rfl, rfl, rfl⟩
      · exact h3
      · exact absurd hc' hc)
/-- one more looked at, forwards: r is the least of the third rick -/
theorem jH_next {C : Nat → Nat → Nat → Prop} {V : Nat → Nat → Nat → Int32} {n0 n1 n2 a b r : Nat} {best few : Int32} (h0 : n0 ≤ 8) (h1 : n1 ≤ 8) (h2 : n2 ≤ 8) (ha : a ≤ n0) (hb : b ≤ n1) (hr : r ≤ n2) (hc : C a b r) (hl : ∀ l, l < r → ¬ C a b l) (h : jSt C (jPH n0 n1 n2 a b) V 24 best few) :
    (few < nI (a + b + r) → jSt C (jPH n0 n1 n2 a (b + 1)) V 24 best few) ∧ (¬ few < nI (a + b + r) → jSt C (jPH n0 n1 n2 a (b + 1)) V 24 (V a b r) (nI (a + b + r))) := by
  have hsub : ∀ i j l, jPH n0 n1 n2 a b i j l → jPH n0 n1 n2 a (b + 1) i j l := fun i j l hp => by
    unfold jPH at hp ⊢
    omega
  have hnew : ∀ i j l, jPH n0 n1 n2 a (b + 1) i j l → C i j l → jPH n0 n1 n2 a b i j l ∨ (i = a ∧ j = b ∧ r ≤ l) := fun i j l hp hc' => by
    by_cases hab : i = a ∧ j = b
    · obtain ⟨rfl, rfl⟩ := hab
      refine Or.inr ⟨rfl, rfl, ?_⟩
      by_cases hlr : l < r
      · exact absurd hc' (hl l hlr)
      · omega
    · refine Or.inl ?_
      unfold jPH at hp ⊢
      omega
  have hin : jPH n0 n1 n2 a (b + 1) a b r := by
    unfold jPH
    omega
  refine ⟨fun hf => ?_, fun hf => ?_⟩
  · rcases h with ⟨e1, e2, e3⟩ | ⟨i, j, l, ⟨b1, b2, b3⟩, e2, e3⟩
    · rw [e2] at hf
      exact absurd hf (nI_nlt (by omega) (by omega))
    · rw [e3] at hf
      have bb := id b1
      unfold jPH at bb
      have hf2 : i + j + l < a + b + r := (nI_ltI (by omega) (by omega)).mp hf
      refine Or.inr ⟨i, j, l, ⟨hsub _ _ _ b1, b2, fun i' j' l' hp hc' => ?_⟩, e2, e3⟩
      rcases hnew i' j' l' hp hc' with h3 | ⟨rfl, rfl, h4⟩
      · exact b3 i' j' l' h3 hc'
      · unfold jK
        omega
  · refine Or.inr ⟨a, b, r, ⟨hin, hc, fun i' j' l' hp hc' => ?_⟩, rfl, rfl⟩
    rcases hnew i' j' l' hp hc' with h3 | ⟨rfl, rfl, h4⟩
    · rcases h with ⟨e1, e2, e3⟩ | ⟨i, j, l, ⟨b1, b2, b3⟩, e2, e3⟩
      · exact absurd hc' (e3 i' j' l' h3)
      · have bb := id b1
        unfold jPH at bb
        have cc := id h3
        unfold jPH at cc
        have hk := b3 i' j' l' h3 hc'
        have hs : ¬ i + j + l < a + b + r := fun q => hf (by rw [e3]; exact nI_lt q (by omega))
        unfold jK at hk ⊢
        omega
    · unfold jK
      omega

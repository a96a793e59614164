/-! sets of words as parts of others -/
theorem jb_has (a b : Int32) : a &&& b = b ↔ b &&& (a ^^^ (-1 : Int32)) = 0 := by
  have h1 : (-1 : Int32).toBitVec = BitVec.allOnes 32 := by decide
  have h0 : (0 : Int32).toBitVec = 0#32 := by decide
  constructor
  · intro h
    rw [← h]
    apply Int32.toBitVec_inj.mp
    apply BitVec.eq_of_getElem_eq
    intro i hi
    simp only [Int32.toBitVec_and, Int32.toBitVec_xor, h1, h0, BitVec.getElem_and, BitVec.getElem_xor, BitVec.getElem_allOnes, BitVec.getElem_zero]
    cases a.toBitVec[i] <;> cases b.toBitVec[i] <;> rfl
  · intro h
    have h2 := congrArg Int32.toBitVec h
    apply Int32.toBitVec_inj.mp
    apply BitVec.eq_of_getElem_eq
    intro i hi
    have h3 : (b &&& (a ^^^ (-1 : Int32))).toBitVec[i] = false := by
      simp only [h2, h0, BitVec.getElem_zero]
    simp only [Int32.toBitVec_and, Int32.toBitVec_xor, h1, BitVec.getElem_and, BitVec.getElem_xor, BitVec.getElem_allOnes] at h3 ⊢
    revert h3
    cases a.toBitVec[i] <;> cases b.toBitVec[i] <;> decide
theorem jb_self (c : Int32) : c = nI c.toBitVec.toNat := by
  show c = Int32.ofNat c.toBitVec.toNat
  apply Int32.toBitVec_inj.mp
  apply BitVec.eq_of_toNat_eq
  simp
theorem jb_andc {w : Nat} (hw : w < 1024) (c : Int32) : ∃ u, u < 1024 ∧ nI w &&& c = nI u :=
  ⟨w &&& c.toBitVec.toNat, Nat.lt_of_le_of_lt Nat.and_le_left hw, (congrArg (fun z => nI w &&& z) (jb_self c)).trans (jb_and w _)⟩
def jFew (z a b : Int32) : Prop := (z = -4 ∧ b = nI 100) ∨ (¬ z = -4 ∧ ∃ f, f ≤ 10 ∧ a = nI f ∧ b = nI f)
theorem jFew_le {z a b : Int32} (h : jFew z a b) {o : Nat} (ho : o ≤ 10) : (¬ z = -4 ∧ a ≤ nI o) ↔ b ≤ nI o := by
  rcases h with ⟨rfl, rfl⟩ | ⟨hz, f, h1, rfl, rfl⟩
  · exact ⟨fun q => absurd rfl q.1, fun q => absurd q (nI_ge (by omega) (by omega))⟩
  · exact ⟨fun q => q.2, fun q => ⟨hz, q⟩⟩
theorem jFew_new : ∀ a : Nat, a < 5 → ∀ i : Nat, i < 5 → ¬ ((10 : Int32) * nI a) + nI i = -4 := by decide +kernel
/-- both loops walk side by side and leave by their exits: where they leave doesn't rest on what comes behind -/
theorem xloop_relx {σ1 σ2 τ1 τ2 β1 β2 : Type} (B1 : (τ1 → Option β1) → (σ1 → Option β1) → σ1 → Option β1) (B2 : (τ2 → Option β2) → (σ2 → Option β2) → σ2 → Option β2) (I : Nat → σ1 → σ2 → Prop) (Post : τ1 → τ2 → Prop)
    (hs : ∀ r q1 q2, I r q1 q2 → (∃ r' q1' q2', r = r' + 1 ∧ I r' q1' q2' ∧ (∀ kx k, B1 kx k q1 = k q1') ∧ (∀ kx k, B2 kx k q2 = k q2')) ∨ (∃ t1 t2, Post t1 t2 ∧ (∀ kx k, B1 kx k q1 = kx t1) ∧ ∀ kx k, B2 kx k q2 = kx t2)) :
    ∀ r f1 f2 q1 q2, r < f1 → r < f2 → I r q1 q2 → ∃ t1 t2, Post t1 t2 ∧ (∀ kx, xloop (B1 kx) f1 q1 = kx t1) ∧ ∀ kx, xloop (B2 kx) f2 q2 = kx t2 := by
  intro r
  induction r with
  | zero =>
    intro f1 f2 q1 q2 h1 h2 hI
    obtain ⟨f1, rfl⟩ : ∃ z, f1 = z + 1 := ⟨f1 - 1, by omega⟩
    obtain ⟨f2, rfl⟩ : ∃ z, f2 = z + 1 := ⟨f2 - 1, by omega⟩
    rcases hs 0 q1 q2 hI with ⟨r', q1', q2', e, -⟩ | ⟨t1, t2, hp, e1, e2⟩
    · omega
    · exact ⟨t1, t2, hp, fun kx => by rw [xloop, e1], fun kx => by rw [xloop, e2]⟩
  | succ r ih =>
    intro f1 f2 q1 q2 h1 h2 hI
    obtain ⟨f1, rfl⟩ : ∃ z, f1 = z + 1 := ⟨f1 - 1, by omega⟩
    obtain ⟨f2, rfl⟩ : ∃ z, f2 = z + 1 := ⟨f2 - 1, by omega⟩
    rcases hs (r + 1) q1 q2 hI with ⟨r', q1', q2', e, hI', e1, e2⟩ | ⟨t1, t2, hp, e1, e2⟩
    · have : r' = r := by omega
      subst this
      obtain ⟨t1, t2, hp, g1, g2⟩ := ih f1 f2 q1' q2' (by omega) (by omega) hI'
      exact ⟨t1, t2, hp, fun kx => by rw [xloop, e1]; exact g1 kx, fun kx => by rw [xloop, e2]; exact g2 kx⟩
    · exact ⟨t1, t2, hp, fun kx => by rw [xloop, e1], fun kx => by rw [xloop, e2]⟩
theorem jb_rakes1 {nm a : Nat} {lying damp st : Nat → Int32} (c : RSwa lying damp st) (hnm : nm ≤ 5) (ha : a < nm) (x1 : Int32) {b f1 f2 : Int32} (hf : jFew b f1 f2) :
    ∃ t1 t2 : Int32 × Int32, (t1.1 = t2.1 ∧ jFew t1.1 t1.2 t2.2) ∧ (∀ kx, jf_H_rakes_38 4000 lying (nI nm) x1 b f1 (nI a) (nI a) kx = kx t1) ∧ ∀ kx, jf_M_rakes_36 4000 (nI nm) st x1 b f2 (nI a) (nI a) kx = kx t2 := by
  unfold jf_H_rakes_38 jf_M_rakes_36
  refine xloop_relx (σ1 := Int32 × Int32 × Int32) (σ2 := Int32 × Int32 × Int32) (fun (kx1 : (Int32 × Int32) → Option Int32) (kh : (Int32 × Int32 × Int32) → Option (Int32)) q => jf_H_rakes_38B 4000 lying (nI nm) x1 q.1 q.2.1 (nI a) q.2.2 kh kx1) (fun (kx2 : (Int32 × Int32) → Option Int32) (kh : (Int32 × Int32 × Int32) → Option (Int32)) q => jf_M_rakes_36B 4000 (nI nm) st x1 q.1 q.2.1 (nI a) q.2.2 kh kx2)
    (fun r q1 q2 => ∃ (i : Nat) (z g1 g2 : Int32), i + r = nm ∧ a ≤ i ∧ jFew z g1 g2 ∧ q1 = (z, g1, nI i) ∧ q2 = (z, g2, nI i)) (fun t1 t2 => t1.1 = t2.1 ∧ jFew t1.1 t1.2 t2.2) ?_ (nm - a) 4000 4000 (b, f1, nI a) (b, f2, nI a) (by omega) (by omega) ⟨a, b, f1, f2, by omega, by omega, hf, rfl, rfl⟩
  intro r q1 q2 ⟨i, z, g1, g2, hi, hai, hg, e1, e2⟩
  subst e1
  subst e2
  by_cases hr : r = 0
  · refine Or.inr ⟨(z, g1), (z, g2), ⟨rfl, hg⟩, fun kx kh => ?_, fun kx kh => ?_⟩
    · unfold jf_H_rakes_38B
      rw [if_pos (nI_le (by omega) (by omega))]
    · unfold jf_M_rakes_36B
      rw [if_pos (nI_le (by omega) (by omega))]
  · obtain ⟨w, w1, w2, w3⟩ := jf_lying (N := 4000) (by decide) c hai (by omega)
    obtain ⟨u, u1, u2⟩ := jb_andc w1 (x1 ^^^ (-1 : Int32))
    have ho := jO_le u
    by_cases h1 : nI w &&& x1 = x1
    · have h2 := (jb_has (nI w) x1).mp h1
      by_cases h3 : g2 ≤ nI (jO u)
      · have h4 := (jFew_le hg ho).mpr h3
        refine Or.inl ⟨r - 1, (z, g1, nI (i + 1)), (z, g2, nI (i + 1)), by omega, ⟨i + 1, z, g1, g2, by omega, by omega, hg, rfl, rfl⟩, fun kx kh => ?_, fun kx kh => ?_⟩
        · unfold jf_H_rakes_38B jf_H_rakes_106
          rw [if_neg (nI_ge (by omega) (by omega)), w2, jp_xb, u2, jb_bitCount u u1, jp_xb, if_pos h1, if_neg h4.1, if_pos h4.2, nI_1, jp_xl]
        · unfold jf_M_rakes_36B jf_M_rakes_95
          rw [if_neg (nI_ge (by omega) (by omega)), w3, jp_xb, u2, jb_ones u u1, jp_xb, jp_xb, if_pos h2, if_pos h3, nI_1, jp_xl]
      · have h4 := fun q => h3 ((jFew_le hg ho).mp q)
        have h5 : jFew (((10 : Int32) * nI a) + nI i) (nI (jO u)) (nI (jO u)) := Or.inr ⟨jFew_new a (by omega) i (by omega), jO u, ho, rfl, rfl⟩
        refine Or.inl ⟨r - 1, (((10 : Int32) * nI a) + nI i, nI (jO u), nI (i + 1)), (((10 : Int32) * nI a) + nI i, nI (jO u), nI (i + 1)), by omega, ⟨i + 1, _, _, _, by omega, by omega, h5, rfl, rfl⟩, fun kx kh => ?_, fun kx kh => ?_⟩
        · by_cases hz : z = -4
          · unfold jf_H_rakes_38B jf_H_rakes_94 jf_H_rakes_106
            rw [if_neg (nI_ge (by omega) (by omega)), w2, jp_xb, u2, jb_bitCount u u1, jp_xb, if_pos h1, if_pos hz, jp_xl, nI_1, jp_xl]
          · have h6 := fun q => h4 ⟨hz, q⟩
            unfold jf_H_rakes_38B jf_H_rakes_94 jf_H_rakes_106
            rw [if_neg (nI_ge (by omega) (by omega)), w2, jp_xb, u2, jb_bitCount u u1, jp_xb, if_pos h1, if_neg hz, if_neg h6, jp_xl, nI_1, jp_xl]
        · unfold jf_M_rakes_36B jf_M_rakes_95
          rw [if_neg (nI_ge (by omega) (by omega)), w3, jp_xb, u2, jb_ones u u1, jp_xb, jp_xb, if_pos h2, if_neg h3, jp_xl, nI_1, jp_xl]
    · have h2 := fun q => h1 ((jb_has (nI w) x1).mpr q)
      refine Or.inl ⟨r - 1, (z, g1, nI (i + 1)), (z, g2, nI (i + 1)), by omega, ⟨i + 1, z, g1, g2, by omega, by omega, hg, rfl, rfl⟩, fun kx kh => ?_, fun kx kh => ?_⟩
      · unfold jf_H_rakes_38B jf_H_rakes_106
        rw [if_neg (nI_ge (by omega) (by omega)), w2, jp_xb, u2, jb_bitCount u u1, jp_xb, if_neg h1, nI_1, jp_xl]
      · unfold jf_M_rakes_36B jf_M_rakes_95
        rw [if_neg (nI_ge (by omega) (by omega)), w3, jp_xb, u2, jb_ones u u1, jp_xb, jp_xb, if_neg h2, nI_1, jp_xl]
theorem jb_rakes2 {nm : Nat} {lying damp st : Nat → Int32} (c : RSwa lying damp st) (hnm : nm ≤ 5) (x1 : Int32) :
    ∃ r, jf_H_rakes_22 4000 lying (nI nm) x1 (-4 : Int32) (-4 : Int32) (0 : Int32) = some r ∧ jf_M_rakes_23 4000 (nI nm) st x1 (-4 : Int32) (100 : Int32) (0 : Int32) = some r := by
  unfold jf_H_rakes_22 jf_M_rakes_23
  refine xloop_rel (σ1 := Int32 × Int32 × Int32) (σ2 := Int32 × Int32 × Int32) (fun (kh : (Int32 × Int32 × Int32) → Option (Int32)) q => jf_H_rakes_22B 4000 lying (nI nm) x1 q.1 q.2.1 q.2.2 kh) (fun (kh : (Int32 × Int32 × Int32) → Option (Int32)) q => jf_M_rakes_23B 4000 (nI nm) st x1 q.1 q.2.1 q.2.2 kh)
    (fun r q1 q2 => ∃ (i : Nat) (z g1 g2 : Int32), i + r = nm ∧ jFew z g1 g2 ∧ q1 = (z, g1, nI i) ∧ q2 = (z, g2, nI i)) (fun o1 o2 => ∃ r, o1 = some r ∧ o2 = some r) ?_ nm 4000 4000 (-4, -4, 0) (-4, 100, 0) (by omega) (by omega) ⟨0, -4, -4, nI 100, by omega, Or.inl ⟨rfl, rfl⟩, rfl, rfl⟩
  intro r q1 q2 ⟨i, z, g1, g2, hi, hg, e1, e2⟩
  subst e1
  subst e2
  by_cases hr : r = 0
  · refine Or.inr ⟨some z, some z, ⟨z, rfl, rfl⟩, fun kh => ?_, fun kh => ?_⟩
    · unfold jf_H_rakes_22B
      rw [if_pos (nI_le (by omega) (by omega))]
    · unfold jf_M_rakes_23B
      rw [if_pos (nI_le (by omega) (by omega))]
  · obtain ⟨⟨b', k1⟩, ⟨b2, k2⟩, ⟨e, hk⟩, p1, p2⟩ := jb_rakes1 c hnm (a := i) (by omega) x1 (b := z) hg
    have e : b' = b2 := e
    subst e
    refine Or.inl ⟨r - 1, (b', k1, nI (i + 1)), (b', k2, nI (i + 1)), by omega, ⟨i + 1, b', k1, k2, by omega, hk, rfl, rfl⟩, fun kh => ?_, fun kh => ?_⟩
    · unfold jf_H_rakes_22B
      rw [if_neg (nI_ge (by omega) (by omega)), p1]
      unfold jf_H_rakes_112
      rw [nI_1, jp_xl]
    · unfold jf_M_rakes_23B
      rw [if_neg (nI_ge (by omega) (by omega)), p2]
      unfold jf_M_rakes_101
      rw [nI_1, jp_xl]
theorem jop_17 (x : jX) (y : jM) (v : Nat → Int32) (h : jRel x y) : ∃ (o1 : Int32 × jX) (o2 : Int32 × jM), jh 4000 17 x v = some o1 ∧ jm 4000 17 y v = some o2 ∧ o1.1 = o2.1 ∧ jRel o1.2 o2.2 := by
  refine jop_ro (x := x) (y := y) (a := jf_H_rakes 4000 _ _ (v 1)) (b := jf_M_rakes 4000 _ _ (v 1)) ?_ h
  obtain ⟨nm, nc, nk, hL, hF, hT, hS, hP, hK⟩ := h
  obtain ⟨hh, r1, r2⟩ := RPart_to hF
  unfold jf_H_rakes jf_M_rakes
  rcases jb_both (v 1) 1 1023 (by decide) (by decide) with ⟨w, -, w2, wx, e1, e2⟩ | ⟨-, e1, e2⟩
  · rw [show jf_H_isWithin 4000 (v 1) (1 : Int32) (1023 : Int32) = some 1 from e1, show jf_M_in 4000 (Int32.toInt64 (v 1)) (1 : Int64) (1023 : Int64) = some 1 from e2, jp_xb, jp_xb, if_neg (show ¬ (1 : Int32) = 0 by decide), if_neg (show ¬ (1 : Int32) = 0 by decide), hL.2.1.1, hL.2.1.2]
    exact jb_rakes2 r2.2.2.1 hL.1.2.1 (v 1)
  · rw [show jf_H_isWithin 4000 (v 1) (1 : Int32) (1023 : Int32) = some 0 from e1, show jf_M_in 4000 (Int32.toInt64 (v 1)) (1 : Int64) (1023 : Int64) = some 0 from e2]
    exact ⟨_, rfl, rfl⟩

section TEXT
variable {n : Nat} {tl text : Nat → Int32} {c : Nat → Nat}
theorem jt_end1 (hR : RLet n tl text c) {p t : Nat} (hpt : p ≤ t) (ht : t < n) (h1 : c t = 59) (h2 : ∀ j, p ≤ j → j < t → ¬ c j = 59) (m1 m2 m3 m4 x1 : Int32) (w1 w2 w3 w4 w5 : Nat → Int32) (kx : Int32 → Option (Int32 × Int32 × Int32 × Int32 × Int32 × (Nat → Int32) × (Nat → Int32) × (Nat → Int32) × (Nat → Int32) × (Nat → Int32))) :
    jf_T_endFrom 4000 tl (nI n) (nI p) = some (nI t) ∧ jf_M_fault_39 4000 text (nI n) m1 m2 m3 m4 w1 w2 w3 w4 w5 x1 (nI p) kx = kx (nI t) := by
  have h3 := hR.1
  have ne : ∀ j, j < n → ¬ c j = 59 → ¬ nI (c j) = (59 : Int32) := fun j hj h z => h ((nI_eq (b := 59) (by have := (hR.2 j hj).1; omega) (by decide)).mp z)
  constructor
  · unfold jf_T_endFrom jf_T_endFrom_2
    refine xloop_seq _ (fun i => nI (p + i)) (t - p) 4000 _ (by omega) (fun i hi kh => ?_) (fun kh => ?_)
    · show jf_T_endFrom_2B 4000 tl (nI n) (nI (p + i)) kh = kh (nI (p + (i + 1)))
      unfold jf_T_endFrom_2B
      rw [if_neg (nI_ge (by omega) (by omega)), jt_letter hR (show p + i < n by omega), jp_xb, if_neg (ne _ (by omega) (h2 _ (by omega) (by omega))), nI_1, jp_xl, Nat.add_assoc]
    · show jf_T_endFrom_2B 4000 tl (nI n) (nI (p + (t - p))) kh = some (nI t)
      unfold jf_T_endFrom_2B
      rw [show p + (t - p) = t by omega, if_neg (nI_ge (by omega) (by omega)), jt_letter hR ht, jp_xb, h1, if_pos (show nI 59 = (59 : Int32) from rfl)]
  · unfold jf_M_fault_39
    refine xloop_seq _ (fun i => nI (p + i)) (t - p) 4000 _ (by omega) (fun i hi kh => ?_) (fun kh => ?_)
    · show jf_M_fault_39B 4000 text (nI n) m1 m2 m3 m4 w1 w2 w3 w4 w5 x1 (nI (p + i)) kh kx = kh (nI (p + (i + 1)))
      unfold jf_M_fault_39B
      rw [if_neg (nI_ge (by omega) (by omega)), jp_xr (show p + i < 200 by omega) (by decide), nI_clamp (show p + i < 2 ^ 31 by omega), (hR.2 (p + i) (by omega)).2.2, if_neg (ne _ (by omega) (h2 _ (by omega) (by omega))), nI_1, jp_xl, Nat.add_assoc]
    · show jf_M_fault_39B 4000 text (nI n) m1 m2 m3 m4 w1 w2 w3 w4 w5 x1 (nI (p + (t - p))) kh kx = kx (nI t)
      unfold jf_M_fault_39B
      rw [show p + (t - p) = t by omega, if_neg (nI_ge (by omega) (by omega)), jp_xr (show t < 200 by omega) (by decide), nI_clamp (show t < 2 ^ 31 by omega), (hR.2 t ht).2.2, h1, if_pos (show nI 59 = (59 : Int32) from rfl)]
theorem jt_end0 (hR : RLet n tl text c) {p : Nat} (hp : p ≤ n) (h2 : ∀ j, p ≤ j → j < n → ¬ c j = 59) (m1 m2 m3 m4 x1 : Int32) (w1 w2 w3 w4 w5 : Nat → Int32) (kx : Int32 → Option (Int32 × Int32 × Int32 × Int32 × Int32 × (Nat → Int32) × (Nat → Int32) × (Nat → Int32) × (Nat → Int32) × (Nat → Int32))) :
    jf_T_endFrom 4000 tl (nI n) (nI p) = some (-4) ∧ jf_M_fault_39 4000 text (nI n) m1 m2 m3 m4 w1 w2 w3 w4 w5 x1 (nI p) kx = kx (nI n) := by
  have h3 := hR.1
  have ne : ∀ j, j < n → ¬ c j = 59 → ¬ nI (c j) = (59 : Int32) := fun j hj h z => h ((nI_eq (b := 59) (by have := (hR.2 j hj).1; omega) (by decide)).mp z)
  constructor
  · unfold jf_T_endFrom jf_T_endFrom_2
    refine xloop_seq _ (fun i => nI (p + i)) (n - p) 4000 _ (by omega) (fun i hi kh => ?_) (fun kh => ?_)
    · show jf_T_endFrom_2B 4000 tl (nI n) (nI (p + i)) kh = kh (nI (p + (i + 1)))
      unfold jf_T_endFrom_2B
      rw [if_neg (nI_ge (by omega) (by omega)), jt_letter hR (show p + i < n by omega), jp_xb, if_neg (ne _ (by omega) (h2 _ (by omega) (by omega))), nI_1, jp_xl, Nat.add_assoc]
    · show jf_T_endFrom_2B 4000 tl (nI n) (nI (p + (n - p))) kh = some (-4)
      unfold jf_T_endFrom_2B
      rw [show p + (n - p) = n by omega, if_pos (nI_le (Nat.le_refl _) (by omega))]
  · unfold jf_M_fault_39
    refine xloop_seq _ (fun i => nI (p + i)) (n - p) 4000 _ (by omega) (fun i hi kh => ?_) (fun kh => ?_)
    · show jf_M_fault_39B 4000 text (nI n) m1 m2 m3 m4 w1 w2 w3 w4 w5 x1 (nI (p + i)) kh kx = kh (nI (p + (i + 1)))
      unfold jf_M_fault_39B
      rw [if_neg (nI_ge (by omega) (by omega)), jp_xr (show p + i < 200 by omega) (by decide), nI_clamp (show p + i < 2 ^ 31 by omega), (hR.2 (p + i) (by omega)).2.2, if_neg (ne _ (by omega) (h2 _ (by omega) (by omega))), nI_1, jp_xl, Nat.add_assoc]
    · show jf_M_fault_39B 4000 text (nI n) m1 m2 m3 m4 w1 w2 w3 w4 w5 x1 (nI (p + (n - p))) kh kx = kx (nI n)
      unfold jf_M_fault_39B
      rw [show p + (n - p) = n by omega, if_pos (nI_le (Nat.le_refl _) (by omega))]
def RRead (a : Int32) (l : jLV) (m : Int32 × Int32 × Int32 × Int32 × (Nat → Int32) × (Nat → Int32) × (Nat → Int32) × (Nat → Int32) × (Nat → Int32)) : Prop := (∃ i, i < 200 ∧ a = nI i) ∨ (a = -4 ∧ ∃ nm nc nk, RDraft nm nc nk l m.1 m.2.1 m.2.2.1 m.2.2.2.1 m.2.2.2.2.1 m.2.2.2.2.2.1 m.2.2.2.2.2.2.1 m.2.2.2.2.2.2.2.1 m.2.2.2.2.2.2.2.2)
/-- the whole text -/
theorem jt_text (hR : RLet n tl text c) (gv : jLV) (mowers cows ricks weathers : Int32) (says words weather kindOf thatch : Nat → Int32) :
    ∃ (a : Int32) (l : jLV) (m : Int32 × Int32 × Int32 × Int32 × (Nat → Int32) × (Nat → Int32) × (Nat → Int32) × (Nat → Int32) × (Nat → Int32)), jf_L_readText 4000 gv.1 gv.2.1 gv.2.2.1 gv.2.2.2.1 gv.2.2.2.2.1 gv.2.2.2.2.2.1 gv.2.2.2.2.2.2.1 gv.2.2.2.2.2.2.2.1 gv.2.2.2.2.2.2.2.2 tl (nI n) = some (a, l) ∧ jf_M_fault 4000 text (nI n) mowers cows ricks weathers says words weather kindOf thatch = some (a, m) ∧ RRead a l m := by
  have h2 := hR.1
  unfold jf_L_readText jf_M_fault
  rw [jp_xr0 (by decide) (by decide), jz0, jp_xl]
  unfold jf_L_readText_24 jf_M_fault_29
  refine xloop_rel (σ1 := (Nat → Int32) × (Nat → Int32) × (Nat → Int32) × (Nat → Int32) × (Nat → Int32) × Int32 × Int32 × Int32 × Int32 × Int32 × Int32) (σ2 := Int32 × Int32 × Int32 × Int32 × (Nat → Int32) × (Nat → Int32) × (Nat → Int32) × (Nat → Int32) × (Nat → Int32) × Int32) (fun (kh : ((Nat → Int32) × (Nat → Int32) × (Nat → Int32) × (Nat → Int32) × (Nat → Int32) × Int32 × Int32 × Int32 × Int32 × Int32 × Int32) → Option (Int32 × (Nat → Int32) × (Nat → Int32) × (Nat → Int32) × (Nat → Int32) × (Nat → Int32) × Int32 × Int32 × Int32 × Int32)) q1 => jf_L_readText_24B 4000 q1.1 q1.2.1 q1.2.2.1 q1.2.2.2.1 q1.2.2.2.2.1 q1.2.2.2.2.2.1 q1.2.2.2.2.2.2.1 q1.2.2.2.2.2.2.2.1 q1.2.2.2.2.2.2.2.2.1 tl (nI n) q1.2.2.2.2.2.2.2.2.2.1 q1.2.2.2.2.2.2.2.2.2.2 kh) (fun (kh : (Int32 × Int32 × Int32 × Int32 × (Nat → Int32) × (Nat → Int32) × (Nat → Int32) × (Nat → Int32) × (Nat → Int32) × Int32) → Option (Int32 × Int32 × Int32 × Int32 × Int32 × (Nat → Int32) × (Nat → Int32) × (Nat → Int32) × (Nat → Int32) × (Nat → Int32))) q2 => jf_M_fault_29B 4000 text (nI n) q2.1 q2.2.1 q2.2.2.1 q2.2.2.2.1 q2.2.2.2.2.1 q2.2.2.2.2.2.1 q2.2.2.2.2.2.2.1 q2.2.2.2.2.2.2.2.1 q2.2.2.2.2.2.2.2.2.1 q2.2.2.2.2.2.2.2.2.2 kh)
    (fun r q1 q2 => ∃ p i nm nc nk : Nat, n ≤ p + r ∧ p ≤ n ∧ i ≤ p ∧ q1.2.2.2.2.2.2.2.2.2.1 = nI p ∧ q1.2.2.2.2.2.2.2.2.2.2 = nI i ∧ q2.2.2.2.2.2.2.2.2.2 = nI p ∧ RDraft nm nc nk (q1.1, q1.2.1, q1.2.2.1, q1.2.2.2.1, q1.2.2.2.2.1, q1.2.2.2.2.2.1, q1.2.2.2.2.2.2.1, q1.2.2.2.2.2.2.2.1, q1.2.2.2.2.2.2.2.2.1) q2.1 q2.2.1 q2.2.2.1 q2.2.2.2.1 q2.2.2.2.2.1 q2.2.2.2.2.2.1 q2.2.2.2.2.2.2.1 q2.2.2.2.2.2.2.2.1 q2.2.2.2.2.2.2.2.2.1)
    (fun o1 o2 => ∃ (a : Int32) (l : jLV) (m : Int32 × Int32 × Int32 × Int32 × (Nat → Int32) × (Nat → Int32) × (Nat → Int32) × (Nat → Int32) × (Nat → Int32)), o1 = some (a, l) ∧ o2 = some (a, m) ∧ RRead a l m) ?_ n 4000 4000 (gv.1, gv.2.1, gv.2.2.1, gv.2.2.2.1, gv.2.2.2.2.1, 0, 0, 0, 0, 0, 0) (0, 0, 0, 1, says, words, upd weather 0 0, kindOf, thatch, 0) (by omega) (by omega) ⟨0, 0, 0, 0, 0, by omega, by omega, by omega, rfl, rfl, rfl, ⟨by decide, by decide, by decide⟩, ⟨rfl, rfl⟩, ⟨rfl, rfl⟩, ⟨rfl, rfl⟩, fun m hm => by omega, Or.inl ⟨rfl, rfl, show upd weather 0 (0 : Int32) 0 = nI 0 from upd_same⟩, fun m hm => by omega, fun m hm => by omega⟩
  intro r q1 q2 ⟨p, i, nm, nc, nk, i1, i2, i3, g1, g2, g3, hD⟩
  by_cases hp : n ≤ p
  · refine Or.inr ⟨some (-4, (q1.1, q1.2.1, q1.2.2.1, q1.2.2.2.1, q1.2.2.2.2.1, q1.2.2.2.2.2.1, q1.2.2.2.2.2.2.1, q1.2.2.2.2.2.2.2.1, q1.2.2.2.2.2.2.2.2.1)), some (-4, q2.1, q2.2.1, q2.2.2.1, q2.2.2.2.1, q2.2.2.2.2.1, q2.2.2.2.2.2.1, q2.2.2.2.2.2.2.1, q2.2.2.2.2.2.2.2.1, q2.2.2.2.2.2.2.2.2.1), ⟨-4, (q1.1, q1.2.1, q1.2.2.1, q1.2.2.2.1, q1.2.2.2.2.1, q1.2.2.2.2.2.1, q1.2.2.2.2.2.2.1, q1.2.2.2.2.2.2.2.1, q1.2.2.2.2.2.2.2.2.1), (q2.1, q2.2.1, q2.2.2.1, q2.2.2.2.1, q2.2.2.2.2.1, q2.2.2.2.2.2.1, q2.2.2.2.2.2.2.1, q2.2.2.2.2.2.2.2.1, q2.2.2.2.2.2.2.2.2.1), rfl, rfl, Or.inr ⟨rfl, nm, nc, nk, hD⟩⟩, fun kh => ?_, fun kh => ?_⟩
    · unfold jf_L_readText_24B
      rw [g1, g2, if_pos (show nI n ≤ nI p from nI_le hp (by omega)), ite_self]
    · unfold jf_M_fault_29B
      rw [g3, if_pos (show nI n ≤ nI p from nI_le hp (by omega))]
  · by_cases h59 : ∃ t, p ≤ t ∧ t < n ∧ c t = 59
    · obtain ⟨t, ⟨t1, t2, t3⟩, t4⟩ := pk_least _ h59
      have t5 : ∀ j, p ≤ j → j < t → ¬ c j = 59 := fun j j1 j2 j3 => t4 j j2 ⟨j1, by omega, j3⟩
      obtain ⟨o1, o2, e1, e2, e3⟩ := jt_item hR hD t1 t2 t3
      have k2 : ∀ kh, jf_M_fault_29B 4000 text (nI n) q2.1 q2.2.1 q2.2.2.1 q2.2.2.2.1 q2.2.2.2.2.1 q2.2.2.2.2.2.1 q2.2.2.2.2.2.2.1 q2.2.2.2.2.2.2.2.1 q2.2.2.2.2.2.2.2.2.1 q2.2.2.2.2.2.2.2.2.2 kh = if o2.1 = 0 then some (nI p, o2.2) else kh (o2.2.1, o2.2.2.1, o2.2.2.2.1, o2.2.2.2.2.1, o2.2.2.2.2.2.1, o2.2.2.2.2.2.2.1, o2.2.2.2.2.2.2.2.1, o2.2.2.2.2.2.2.2.2.1, o2.2.2.2.2.2.2.2.2.2, nI (t + 1)) := fun kh => by
        unfold jf_M_fault_29B
        rw [g3, if_neg (nI_ge (show p < n by omega) (by omega)), (jt_end1 hR t1 t2 t3 t5 _ _ _ _ _ _ _ _ _ _ _).2]
        unfold jf_M_fault_64
        rw [if_neg (show ¬ nI t = nI n from fun z => by have := (nI_eq (by omega) (by omega)).mp z; omega), e2, jp_xb, nI_1, jp_xl]
      have k1 : ∀ kh, jf_L_readText_24B 4000 q1.1 q1.2.1 q1.2.2.1 q1.2.2.2.1 q1.2.2.2.2.1 q1.2.2.2.2.2.1 q1.2.2.2.2.2.2.1 q1.2.2.2.2.2.2.2.1 q1.2.2.2.2.2.2.2.2.1 tl (nI n) q1.2.2.2.2.2.2.2.2.2.1 q1.2.2.2.2.2.2.2.2.2.2 kh = if o1.1 = 0 then some (nI p, o1.2) else kh (o1.2.1, o1.2.2.1, o1.2.2.2.1, o1.2.2.2.2.1, o1.2.2.2.2.2.1, o1.2.2.2.2.2.2.1, o1.2.2.2.2.2.2.2.1, o1.2.2.2.2.2.2.2.2.1, o1.2.2.2.2.2.2.2.2.2, nI (t + 1), nI (i + 1)) := fun kh => by
        unfold jf_L_readText_24B
        rw [g1, g2, if_neg (show ¬ (200 : Int32) ≤ nI i from nI_ge (b := 200) (by omega) (by decide)), if_neg (nI_ge (show p < n by omega) (by omega)), (jt_end1 hR t1 t2 t3 t5 0 0 0 0 0 (fun _ => 0) (fun _ => 0) (fun _ => 0) (fun _ => 0) (fun _ => 0) (fun _ => none)).1, jp_xb, if_neg (jb_neg4 (show t < 2 ^ 31 by omega)), e1, jp_xb, nI_1, nI_1, jp_xl, jp_xl]
      rcases e3 with ⟨z1, z2⟩ | ⟨z1, z2, nm', nc', nk', hD'⟩
      · exact Or.inr ⟨some (nI p, o1.2), some (nI p, o2.2), ⟨nI p, o1.2, o2.2, rfl, rfl, Or.inl ⟨p, by omega, rfl⟩⟩, fun kh => (k1 kh).trans (if_pos z1), fun kh => (k2 kh).trans (if_pos z2)⟩
      · have z1' : ¬ o1.1 = 0 := by rw [z1]; decide
        have z2' : ¬ o2.1 = 0 := by rw [z2]; decide
        exact Or.inl ⟨r - 1, (o1.2.1, o1.2.2.1, o1.2.2.2.1, o1.2.2.2.2.1, o1.2.2.2.2.2.1, o1.2.2.2.2.2.2.1, o1.2.2.2.2.2.2.2.1, o1.2.2.2.2.2.2.2.2.1, o1.2.2.2.2.2.2.2.2.2, nI (t + 1), nI (i + 1)), (o2.2.1, o2.2.2.1, o2.2.2.2.1, o2.2.2.2.2.1, o2.2.2.2.2.2.1, o2.2.2.2.2.2.2.1, o2.2.2.2.2.2.2.2.1, o2.2.2.2.2.2.2.2.2.1, o2.2.2.2.2.2.2.2.2.2, nI (t + 1)), by omega, ⟨t + 1, i + 1, nm', nc', nk', by omega, by omega, by omega, rfl, rfl, rfl, hD'⟩, fun kh => (k1 kh).trans (if_neg z1'), fun kh => (k2 kh).trans (if_neg z2')⟩
    · have t5 : ∀ j, p ≤ j → j < n → ¬ c j = 59 := fun j j1 j2 j3 => h59 ⟨j, j1, j2, j3⟩
      refine Or.inr ⟨some (nI p, (q1.1, q1.2.1, q1.2.2.1, q1.2.2.2.1, q1.2.2.2.2.1, q1.2.2.2.2.2.1, q1.2.2.2.2.2.2.1, q1.2.2.2.2.2.2.2.1, q1.2.2.2.2.2.2.2.2.1)), some (nI p, q2.1, q2.2.1, q2.2.2.1, q2.2.2.2.1, q2.2.2.2.2.1, q2.2.2.2.2.2.1, q2.2.2.2.2.2.2.1, q2.2.2.2.2.2.2.2.1, q2.2.2.2.2.2.2.2.2.1), ⟨nI p, (q1.1, q1.2.1, q1.2.2.1, q1.2.2.2.1, q1.2.2.2.2.1, q1.2.2.2.2.2.1, q1.2.2.2.2.2.2.1, q1.2.2.2.2.2.2.2.1, q1.2.2.2.2.2.2.2.2.1), (q2.1, q2.2.1, q2.2.2.1, q2.2.2.2.1, q2.2.2.2.2.1, q2.2.2.2.2.2.1, q2.2.2.2.2.2.2.1, q2.2.2.2.2.2.2.2.1, q2.2.2.2.2.2.2.2.2.1), rfl, rfl, Or.inl ⟨p, by omega, rfl⟩⟩, fun kh => ?_, fun kh => ?_⟩
      · unfold jf_L_readText_24B
        rw [g1, g2, if_neg (show ¬ (200 : Int32) ≤ nI i from nI_ge (b := 200) (by omega) (by decide)), if_neg (nI_ge (show p < n by omega) (by omega)), (jt_end0 hR i2 t5 0 0 0 0 0 (fun _ => 0) (fun _ => 0) (fun _ => 0) (fun _ => 0) (fun _ => 0) (fun _ => none)).1, jp_xb, if_pos rfl]
      · unfold jf_M_fault_29B
        rw [g3, if_neg (nI_ge (show p < n by omega) (by omega)), (jt_end0 hR i2 t5 _ _ _ _ _ _ _ _ _ _ _).2]
        unfold jf_M_fault_64
        rw [if_pos rfl]
end TEXT

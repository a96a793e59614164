section FEB2
variable {nm nc nk : Nat} {gv : jLV} {mowers cows ricks weathers : Int32} {says words weather kindOf thatch : Nat → Int32}
theorem jf_days (hL : RLand nm nc nk gv mowers cows ricks weathers says words weather kindOf thatch) {h z n : Nat} (fv : jFV) (hh : h ≤ 999) (hz : z ≤ 9999) (hn : n ≤ 60) (o : jFV) {st aside : Nat → Int32} (r : RPart h nc nk o.1 o.2.1 o.2.2.1 o.2.2.2.1 o.2.2.2.2.1 o.2.2.2.2.2.1 o.2.2.2.2.2.2.1 o.2.2.2.2.2.2.2.1 o.2.2.2.2.2.2.2.2 st) (x3 x4 : Int32) :
    ∃ (t1 : jFV) (t2 : Nat → Int32), RPart (h + n) nc nk t1.1 t1.2.1 t1.2.2.1 t1.2.2.2.1 t1.2.2.2.2.1 t1.2.2.2.2.2.1 t1.2.2.2.2.2.2.1 t1.2.2.2.2.2.2.2.1 t1.2.2.2.2.2.2.2.2 t2 ∧ (∀ kx, jf_H_february_46 4000 fv.1 fv.2.1 fv.2.2.1 fv.2.2.2.1 fv.2.2.2.2.1 fv.2.2.2.2.2.1 fv.2.2.2.2.2.2.1 fv.2.2.2.2.2.2.2.1 fv.2.2.2.2.2.2.2.2 o.1 o.2.1 o.2.2.1 o.2.2.2.1 o.2.2.2.2.1 o.2.2.2.2.2.1 o.2.2.2.2.2.2.1 o.2.2.2.2.2.2.2.1 o.2.2.2.2.2.2.2.2 gv.1 gv.2.1 gv.2.2.1 gv.2.2.2.1 gv.2.2.2.2.1 gv.2.2.2.2.2.1 gv.2.2.2.2.2.2.1 gv.2.2.2.2.2.2.2.1 gv.2.2.2.2.2.2.2.2 (nI z) (nI n) x3 (0 : Int32) kx = kx t1) ∧ ∀ kx, jf_M_february_61 4000 mowers cows ricks weathers says words weather kindOf thatch st aside (nI z) (nI n) x3 x4 (0 : Int32) kx = kx t2 := by
  unfold jf_H_february_46 jf_M_february_61
  refine xloop_relx (σ1 := (Nat → Int32) × (Nat → Int32) × (Nat → Int32) × (Nat → Int32) × (Nat → Int32) × (Nat → Int32) × (Nat → Int32) × (Nat → Int32) × Int32 × Int32) (σ2 := (Nat → Int32) × Int32) (fun (kx1 : ((Nat → Int32) × (Nat → Int32) × (Nat → Int32) × (Nat → Int32) × (Nat → Int32) × (Nat → Int32) × (Nat → Int32) × (Nat → Int32) × Int32) → Option (Int32 × (Nat → Int32) × (Nat → Int32) × (Nat → Int32) × (Nat → Int32) × (Nat → Int32) × (Nat → Int32) × (Nat → Int32) × (Nat → Int32) × Int32)) (kh : ((Nat → Int32) × (Nat → Int32) × (Nat → Int32) × (Nat → Int32) × (Nat → Int32) × (Nat → Int32) × (Nat → Int32) × (Nat → Int32) × Int32 × Int32) → Option (Int32 × (Nat → Int32) × (Nat → Int32) × (Nat → Int32) × (Nat → Int32) × (Nat → Int32) × (Nat → Int32) × (Nat → Int32) × (Nat → Int32) × Int32)) q => jf_H_february_46B 4000 fv.1 fv.2.1 fv.2.2.1 fv.2.2.2.1 fv.2.2.2.2.1 fv.2.2.2.2.2.1 fv.2.2.2.2.2.2.1 fv.2.2.2.2.2.2.2.1 fv.2.2.2.2.2.2.2.2 q.1 q.2.1 q.2.2.1 q.2.2.2.1 q.2.2.2.2.1 q.2.2.2.2.2.1 q.2.2.2.2.2.2.1 q.2.2.2.2.2.2.2.1 q.2.2.2.2.2.2.2.2.1 gv.1 gv.2.1 gv.2.2.1 gv.2.2.2.1 gv.2.2.2.2.1 gv.2.2.2.2.2.1 gv.2.2.2.2.2.2.1 gv.2.2.2.2.2.2.2.1 gv.2.2.2.2.2.2.2.2 (nI z) (nI n) x3 q.2.2.2.2.2.2.2.2.2 kh kx1) (fun (kx2 : (Nat → Int32) → Option (Int32 × (Nat → Int32) × (Nat → Int32))) (kh : ((Nat → Int32) × Int32) → Option (Int32 × (Nat → Int32) × (Nat → Int32))) q => jf_M_february_61B 4000 mowers cows ricks weathers says words weather kindOf thatch q.1 aside (nI z) (nI n) x3 x4 q.2 kh kx2)
    (fun r q1 q2 => ∃ i : Nat, i + r = n ∧ q1.2.2.2.2.2.2.2.2.2 = nI i ∧ q2.2 = nI i ∧ RPart (h + i) nc nk q1.1 q1.2.1 q1.2.2.1 q1.2.2.2.1 q1.2.2.2.2.1 q1.2.2.2.2.2.1 q1.2.2.2.2.2.2.1 q1.2.2.2.2.2.2.2.1 q1.2.2.2.2.2.2.2.2.1 q2.1) (fun t1 t2 => RPart (h + n) nc nk t1.1 t1.2.1 t1.2.2.1 t1.2.2.2.1 t1.2.2.2.2.1 t1.2.2.2.2.2.1 t1.2.2.2.2.2.2.1 t1.2.2.2.2.2.2.2.1 t1.2.2.2.2.2.2.2.2 t2) ?_ n 4000 4000 (o.1, o.2.1, o.2.2.1, o.2.2.2.1, o.2.2.2.2.1, o.2.2.2.2.2.1, o.2.2.2.2.2.2.1, o.2.2.2.2.2.2.2.1, o.2.2.2.2.2.2.2.2, 0) (st, 0) (by omega) (by omega) ⟨0, by omega, rfl, rfl, r⟩
  intro r q1 q2 ⟨i, hi, g1, g2, g3⟩
  by_cases hr : r = 0
  · have hin : i = n := by omega
    subst hin
    refine Or.inr ⟨(q1.1, q1.2.1, q1.2.2.1, q1.2.2.2.1, q1.2.2.2.2.1, q1.2.2.2.2.2.1, q1.2.2.2.2.2.2.1, q1.2.2.2.2.2.2.2.1, q1.2.2.2.2.2.2.2.2.1), q2.1, g3, fun kx kh => ?_, fun kx kh => ?_⟩
    · unfold jf_H_february_46B
      rw [g1, if_pos (nI_le (Nat.le_refl _) (by omega))]
    · unfold jf_M_february_61B
      rw [g2, if_pos (nI_le (Nat.le_refl _) (by omega))]
  · obtain ⟨d, d1, d2, d3⟩ := jf_drawOf hz (show i < 60 by omega)
    obtain ⟨a, s2, a1, a2, a3⟩ := jf_act hL d1 g3
    obtain ⟨q, s3, p1, p2, p3, -⟩ := jf_hour hL (N := 4000) (by decide) (show h + i < 2 ^ 19 by omega) a3
    refine Or.inl ⟨r - 1, (q.1, q.2.1, a.2.2.1, q.2.2.1, q.2.2.2.1, a.2.2.2.2.1, a.2.2.2.2.2.1, q.2.2.2.2.1, q.2.2.2.2.2, nI (i + 1)), (s3, nI (i + 1)), by omega, ⟨i + 1, by omega, rfl, rfl, p3⟩, fun kx kh => ?_, fun kx kh => ?_⟩
    · unfold jf_H_february_46B
      rw [g1, if_neg (nI_ge (by omega) (by omega)), d2, jp_xb, a1, jp_xb, p1, jp_xb, nI_1, jp_xl]
    · unfold jf_M_february_61B
      rw [g2, if_neg (nI_ge (by omega) (by omega)), jp_xl, d3, a2, jp_xb, p2, jp_xb, nI_1, jp_xl]
end FEB2
/-! the three sums -/
theorem js_heights {nk : Nat} {heights lw lwet lheat st : Nat → Int32} (r : RRic nk heights lw lwet lheat st) : ∃ S, jf_R_sum 4000 3 heights = some S ∧ jf_M_allOf 4000 st (15 : Int32) (3 : Int32) = some S := by
  have x5 : ∀ k, ∃ n : Nat, k < 3 → heights k = nI n ∧ st (15 + k) = nI n := by
    intro k
    by_cases hk : k < 3
    · obtain ⟨n, -, -, n3, n4, -⟩ := r k hk
      exact ⟨n, fun _ => ⟨n3, n4⟩⟩
    · exact ⟨0, fun z => absurd z hk⟩
  obtain ⟨c5, hc5⟩ := Classical.axiomOfChoice x5
  exact ⟨_, js_sumR (fun j hj => (hc5 j hj).1), js_allOf (a := 15) (by decide) (fun j hj => (hc5 j hj).2)⟩
theorem js_burnt {Bf : Nat → Nat} {burnt st : Nat → Int32} (r : RBur Bf burnt st) : ∃ S, jf_R_sum 4000 3 burnt = some S ∧ jf_M_allOf 4000 st (18 : Int32) (3 : Int32) = some S := by
  have x5 : ∀ k, ∃ n : Nat, k < 3 → burnt k = nI n ∧ st (18 + k) = nI n := by
    intro k
    by_cases hk : k < 3
    · obtain ⟨n, -, n3, n4⟩ := r k hk
      exact ⟨n, fun _ => ⟨n3, n4⟩⟩
    · exact ⟨0, fun z => absurd z hk⟩
  obtain ⟨c5, hc5⟩ := Classical.axiomOfChoice x5
  exact ⟨_, js_sumR (fun j hj => (hc5 j hj).1), js_allOf (a := 18) (by decide) (fun j hj => (hc5 j hj).2)⟩
theorem js_heard {nc : Nat} {told st : Nat → Int32} (h1 : 1 ≤ nc) (h2 : nc ≤ 4) (r : RTol nc told st) : ∃ S, jf_F_wordsTold 4000 told = some S ∧ jf_M_allTold 4000 (nI nc) st = some S := by
  have x4 : ∀ k, ∃ n : Nat, k < 4 → n < 1024 ∧ (nc ≤ k → n = 0) ∧ told k = nI n ∧ st (11 + k) = nI n := by
    intro k
    by_cases hk : k < 4
    · obtain ⟨n, n1, n2, n3, n4⟩ := r k hk
      exact ⟨n, fun _ => ⟨n1, n2, n3, n4⟩⟩
    · exact ⟨0, fun z => absurd z hk⟩
  obtain ⟨c4, hc4⟩ := Classical.axiomOfChoice x4
  have eT := jS_tail (c := fun j => jO (c4 j)) (nc := nc) h1 h2 (fun j j1 j2 => by show jO (c4 j) = 0; rw [(hc4 j j2).2.1 j1]; rfl)
  have E6H := js_told (fun j hj => ⟨(hc4 j hj).1, (hc4 j hj).2.2.1⟩)
  have E6M := js_allTold (nc := nc) h2 (fun j hj => ⟨(hc4 j hj).1, (hc4 j hj).2.2.2⟩)
  rw [eT] at E6M
  exact ⟨_, E6H, E6M⟩

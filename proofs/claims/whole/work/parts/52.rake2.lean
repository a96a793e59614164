theorem jf_add {N k n : Nat} {heights lw lwet lheat : Nat → Int32} {w d t : Int32} (hk : k < 3) (hn : n < 8) (e : heights k = nI n) : jf_F_addLayer N heights lw lwet lheat (nI k) w d t = some (upd heights k (nI (n + 1)), upd lw (8 * k + n) w, upd lwet (8 * k + n) d, upd lheat (8 * k + n) t) := by
  unfold jf_F_addLayer
  rw [jf_hei hk e, jp_xb, jl8, if_neg (nI_ge hn (by decide)), pk_mul, nI_add, Nat.mul_comm k 8, jr_put (by omega) (by decide), jp_xb, jr_put (by omega) (by decide), jp_xb, jr_put (by omega) (by decide), jp_xb, nI_1, jr_put hk (by decide), jp_xb]
theorem jf_gather {N a b k n h nc nk : Nat} {lying damp told heights burnt lw lwet lheat st : Nat → Int32} {hours : Int32} (hN : 8 < N) (r : RPart h nc nk lying damp told heights burnt lw lwet lheat hours st) (hab : a ≤ b) (hb : b < 5) (hk : k < 3) (hk2 : k < nk) (hn : n < 8) (e : heights k = nI n) :
    ∃ (o : (Nat → Int32) × (Nat → Int32) × (Nat → Int32) × (Nat → Int32) × (Nat → Int32) × (Nat → Int32)) (s2 : Nat → Int32), jf_F_gather N lying damp heights lw lwet lheat (nI a) (nI b) (nI k) = some o ∧ jf_M_rakeIn N st (nI a) (nI b) (nI k) = some s2 ∧ RPart h nc nk o.1 o.2.1 told o.2.2.1 burnt o.2.2.2.1 o.2.2.2.2.1 o.2.2.2.2.2 hours s2 ∧ o.2.2.1 k = nI (n + 1) ∧ s2 (15 + k) = nI (n + 1) := by
  obtain ⟨r1, r2, r3, r4, r5⟩ := r
  obtain ⟨n', -, -, n3, n4, -⟩ := r5 k hk
  have en : st (15 + k) = nI n := n4.trans (n3.symm.trans e)
  have hx : ∀ m, ∃ d : Nat, m < 5 → d ≤ 99 ∧ damp m = nI d ∧ st (6 + m) = nI d := by
    intro m
    by_cases hm : m < 5
    · obtain ⟨-, d, d1, d2, d3⟩ := r3 m hm
      exact ⟨d, fun _ => ⟨d1, d2, d3⟩⟩
    · exact ⟨0, fun z => absurd z hm⟩
  obtain ⟨d, hd⟩ := Classical.axiomOfChoice hx
  obtain ⟨w, w1, w2, w3⟩ := jf_lying hN r3 hab hb
  have hS := jS_le (d := d) (a := a) (fun m hm => (hd m hm).1) (b + 1 - a) (by omega)
  obtain ⟨l2, d2, g1, g2, g3⟩ := jf_clear (N := N) (lying := lying) (damp := damp) (heights := upd heights k (nI (n + 1))) (lw := upd lw (8 * k + n) (nI w)) (lwet := upd lwet (8 * k + n) (nI (if jS d a (b + 1 - a) < 99 then jS d a (b + 1 - a) else 99))) (lheat := upd lheat (8 * k + n) (nI 0)) hN hab hb
  obtain ⟨s2, m1, m2, m3, m4, m5⟩ := jm_gather (st := upd st (21 + (8 * k + n)) (nI w)) (x3 := nI k) (x4 := nI (8 * k + n)) (d := d) hN (fun m hm => ⟨(hd m hm).1, (upd_ne (by omega)).trans (hd m hm).2.2⟩) hab hb (fun q2 => jf_M_rakeIn_89 N q2.1 (nI k) (nI (8 * k + n)) q2.2)
  have s11 : ∀ j, 11 ≤ j → j ≠ 21 + (8 * k + n) → s2 j = st j := fun j h1 h2 => (m5 j h1).trans (upd_ne h2)
  refine ⟨(l2, d2, upd heights k (nI (n + 1)), upd lw (8 * k + n) (nI w), upd lwet (8 * k + n) (nI (if jS d a (b + 1 - a) < 99 then jS d a (b + 1 - a) else 99)), upd lheat (8 * k + n) (nI 0)), upd (upd (upd s2 (45 + (8 * k + n)) (nI (if jS d a (b + 1 - a) < 99 then jS d a (b + 1 - a) else 99))) (69 + (8 * k + n)) (nI 0)) (15 + k) (nI (n + 1)), ?_, ?_, ⟨?_, ?_, ?_, ?_, ?_⟩, upd_same, upd_same⟩
  · unfold jf_F_gather
    rw [jf_sum hN (fun m hm => ⟨(hd m hm).1, (hd m hm).2.1⟩) hab hb]
    unfold jf_F_gather_38
    rw [w2, jp_xb, jl99, jn_ite_lt (by omega) (by omega), jp_xl, jf_add hk hn e, jp_xb, ← g1]
    by_cases hc : jS d a (b + 1 - a) < 99
    · rw [if_pos hc, if_pos hc]
      rfl
    · rw [if_neg hc, if_neg hc]
      rfl
  · unfold jf_M_rakeIn
    rw [jl15, nI_add, jp_xr (by omega) (by decide), nI_clamp (by omega), en, jl8, pk_mul, nI_add, jp_xl, w3, jp_xb, jl21, nI_add, jp_xr (by omega) (by decide), nI_clamp (by omega), jp_xl, m1]
    show jf_M_rakeIn_89 N s2 (nI k) (nI (8 * k + n)) (nI (if jS d a (b + 1 - a) < 99 then jS d a (b + 1 - a) else 99)) = _
    unfold jf_M_rakeIn_89
    rw [jl45, jl69, jl15, nI_add, nI_add, nI_add, jp_xr (by omega) (by decide), nI_clamp (by omega), jp_xl, jp_xr (by omega) (by decide), nI_clamp (by omega), jp_xl, jp_xr (by omega) (by decide), jp_xr (by omega) (by decide), nI_clamp (by omega), upd_ne (by omega), upd_ne (by omega), s11 _ (by omega) (by omega), en, nI_1, jp_xl, jl0]
  · exact r1.fr (by rw [upd_ne (by omega), upd_ne (by omega), upd_ne (by omega), m4, upd_ne (by omega)])
  · exact r2.fr (fun j h1 h2 => by rw [upd_ne (by omega), upd_ne (by omega), upd_ne (by omega), s11 _ (by omega) (by omega)])
  · intro m hm
    rw [upd_ne (by omega), upd_ne (by omega), upd_ne (by omega), upd_ne (by omega), upd_ne (by omega), upd_ne (by omega)]
    by_cases hc : a ≤ m ∧ m ≤ b
    · refine ⟨⟨0, by omega, (g2 m hc.1 hc.2).1, (m2 m hc.1 hc.2).1⟩, 0, by omega, (g2 m hc.1 hc.2).2, (m2 m hc.1 hc.2).2⟩
    · have hc' : m < a ∨ b < m := by omega
      rw [(m3 m hm hc').1, (m3 m hm hc').2, upd_ne (by omega), upd_ne (by omega)]
      obtain ⟨⟨u, u1, u2, u3⟩, z, z1, z2, z3⟩ := r3 m hm
      exact ⟨⟨u, u1, (g3 m hc').1.trans u2, u3⟩, z, z1, (g3 m hc').2.trans z2, z3⟩
  · exact r4.fr (fun j h1 h2 => by rw [upd_ne (by omega), upd_ne (by omega), upd_ne (by omega), s11 _ (by omega) (by omega)])
  · refine r5.add hk hk2 hn e w1 (by split <;> omega) (by omega) upd_same ?_ ?_ ?_ (fun j h1 h2 h3 h4 h5 => ?_)
    · rw [upd_ne (by omega), upd_ne (by omega), upd_ne (by omega), m5 _ (by omega), upd_same]
    · rw [upd_ne (by omega), upd_ne (by omega), upd_same]
    · rw [upd_ne (by omega), upd_same]
    · rw [upd_ne h2, upd_ne h5, upd_ne h4, s11 _ (by omega) h3]
theorem jop_9 (x : jX) (y : jM) (v : Nat → Int32) (h : jRel x y) : ∃ (o1 : Int32 × jX) (o2 : Int32 × jM), jh 4000 9 x v = some o1 ∧ jm 4000 9 y v = some o2 ∧ o1.1 = o2.1 ∧ jRel o1.2 o2.2 := by
  obtain ⟨nm, nc, nk, hL, hF, hT, hS, hP, hK⟩ := h
  show ∃ (o1 : Int32 × jX) (o2 : Int32 × jM), jh_9 4000 x (v 1) (v 2) (v 3) = some o1 ∧ jm_9 4000 y (v 1) (v 2) (v 3) = some o2 ∧ o1.1 = o2.1 ∧ jRel o1.2 o2.2
  unfold jh_9 jm_9 jf_H_rake jf_M_rake
  rcases jl_mower hL (N := 4000) (v 1) with ⟨a, ha, ea, h1, h2⟩ | ⟨-, h1, h2⟩
  · rw [h1, h2, jp_xb, jp_xb, if_neg (show ¬ (1 : Int32) = 0 by decide), if_neg (show ¬ (1 : Int32) = 0 by decide)]
    rcases jl_mower hL (N := 4000) (v 2) with ⟨b, hb, eb, h3, h4⟩ | ⟨-, h3, h4⟩
    · have hb5 : b < 5 := Nat.lt_of_lt_of_le hb hL.1.2.1
      rw [h3, h4, jp_xb, jp_xb, if_neg (show ¬ (1 : Int32) = 0 by decide), if_neg (show ¬ (1 : Int32) = 0 by decide)]
      by_cases hab : a ≤ b
      · have hab' : ¬ v 2 < v 1 := by rw [ea, eb]; exact nI_nlt hab (by omega)
        rw [if_neg hab', if_neg hab']
        rcases jl_rick hL (N := 4000) (v 3) with ⟨k, hk, ek, h5, h6⟩ | ⟨-, h5, h6⟩
        · have hk3 : k < 3 := Nat.lt_of_lt_of_le hk hL.1.2.2.2.2.2
          obtain ⟨hh, r1, r2⟩ := RPart_to hF
          obtain ⟨n, n1, -, n3, n4, -⟩ := r2.2.2.2.2 k hk3
          obtain ⟨w, w1, w2, w3⟩ := jf_lying (N := 4000) (by decide) r2.2.2.1 hab hb5
          rw [h5, h6, jp_xb, jp_xb, if_neg (show ¬ (1 : Int32) = 0 by decide), if_neg (show ¬ (1 : Int32) = 0 by decide), ea, eb, ek]
          unfold jf_M_rake_54
          rw [w2, w3, jp_xb, jp_xb, jp_xb]
          by_cases hw : w = 0
          · subst hw
            rw [if_pos (show nI 0 = 0 from rfl), if_pos (show nI 0 = 0 from rfl), if_pos (show nI 0 = 0 from rfl), jp_xb, jp_xb]
            exact ⟨_, _, rfl, rfl, rfl, nm, nc, nk, hL, hF, hT, hS, hP, hK⟩
          · have hw' : ¬ nI w = 0 := nI_ne0 (by omega) (by omega)
            rw [if_neg hw', if_neg hw', jf_hei hk3 n3, jp_xb, jl15, nI_add, jp_xr (by omega) (by decide), nI_clamp (by omega), n4, jl8]
            by_cases h8 : n = 8
            · subst h8
              rw [if_neg (nI_nlt (Nat.le_refl _) (by decide)), if_pos rfl, if_neg hw', jp_xb, jp_xb]
              exact ⟨_, _, rfl, rfl, rfl, nm, nc, nk, hL, hF, hT, hS, hP, hK⟩
            · obtain ⟨p1, p2, p3, p4, p5⟩ := hP.push hF (N := 4000) (by decide)
              obtain ⟨o, s2, g1, g2, g3, g4, g5⟩ := jf_gather (N := 4000) (by decide) r2 hab hb5 hk3 hk (show n < 8 by omega) n3
              rw [if_pos (nI_lt (by omega) (by decide)), if_neg (fun z => h8 ((nI_eq (by omega) (by decide)).mp z)), p3, jp_xb, g1, jp_xb, jf_hei hk3 g4, jp_xb, jp_xb, p4, jp_xb, g2, jp_xb, jp_xr (by omega) (by decide), g5, jp_xb]
              exact ⟨_, _, rfl, rfl, rfl, nm, nc, nk, hL, RPart_of r1 g3, hT, hS, p5, hK⟩
        · rw [h5, h6, jp_xb, jp_xb, if_pos (show (0 : Int32) = 0 from rfl), if_pos (show (0 : Int32) = 0 from rfl), jp_xb, jp_xb]
          exact ⟨_, _, rfl, rfl, rfl, nm, nc, nk, hL, hF, hT, hS, hP, hK⟩
      · have hab' : v 2 < v 1 := by rw [ea, eb]; exact nI_lt (by omega) (by have := hL.1.2.1; omega)
        rw [if_pos hab', if_pos hab', jp_xb, jp_xb]
        exact ⟨_, _, rfl, rfl, rfl, nm, nc, nk, hL, hF, hT, hS, hP, hK⟩
    · rw [h3, h4, jp_xb, jp_xb, if_pos (show (0 : Int32) = 0 from rfl), if_pos (show (0 : Int32) = 0 from rfl), jp_xb, jp_xb]
      exact ⟨_, _, rfl, rfl, rfl, nm, nc, nk, hL, hF, hT, hS, hP, hK⟩
  · rw [h1, h2, jp_xb, jp_xb, if_pos (show (0 : Int32) = 0 from rfl), if_pos (show (0 : Int32) = 0 from rfl), jp_xb, jp_xb]
    exact ⟨_, _, rfl, rfl, rfl, nm, nc, nk, hL, hF, hT, hS, hP, hK⟩

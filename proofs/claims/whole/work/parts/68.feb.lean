section FEB
variable {nm nc nk : Nat} {gv : jLV} {mowers cows ricks weathers : Int32} {says words weather kindOf thatch : Nat → Int32}
/-- the top layer is cut for a cow -/
theorem jf_feed (hL : RLand nm nc nk gv mowers cows ricks weathers says words weather kindOf thatch) {h k c n : Nat} {lying damp told heights burnt lw lwet lheat st : Nat → Int32} {hours : Int32} (r : RPart h nc nk lying damp told heights burnt lw lwet lheat hours st) (hk3 : k < 3) (hc : c < nc) (hn : n ≤ 8) (h0 : ¬ n = 0) (e : heights k = nI n) :
    ∃ (kd : Nat) (a : Int32) (told2 heights2 s2 : Nat → Int32), jf_L_kindOf 4000 gv.2.2.2.1 (nI c) = some (nI kd) ∧ jf_F_feed 4000 told heights lw (nI k) (nI c) (nI kd) = some (a, told2, heights2) ∧ jf_M_cutFor 4000 kindOf st (nI k) (nI c) = some (a, s2) ∧ RPart h nc nk lying damp told2 heights2 burnt lw lwet lheat hours s2 := by
  have hc4 : c < 4 := Nat.lt_of_lt_of_le hc hL.1.2.2.2.1
  obtain ⟨q1, q2, q3, q4, q5⟩ := r
  obtain ⟨n', n1, n2, n3, n4, n5⟩ := q5 k hk3
  have hnn : n' = n := (nI_eq (by omega) (by omega)).mp (n3.symm.trans e)
  subst hnn
  obtain ⟨⟨w, w1, w2, w3⟩, -, -⟩ := n5 (n' - 1) (by omega)
  obtain ⟨t, t1, t2, t3, t4⟩ := q4 c hc4
  obtain ⟨kd, k1, k2, k3⟩ := jl_kind hL (N := 4000) hc
  obtain ⟨u, u1, u2, u3⟩ := jb_hears k1 w1 t1
  have eF : jf_F_freshFor 4000 told heights lw (nI k) (nI c) (nI kd) = some (nI u &&& (nI t ^^^ (-1 : Int32))) := by
    unfold jf_F_freshFor jf_F_wordsFromTop
    rw [jr_at hc4 (by decide), jp_xb, t3, jf_hei hk3 n3, jp_xb, if_neg (nI_nle (by omega) (by omega)), jp_xb, jl1, jl0, jn_sub (by omega), jn_sub (by omega), Nat.sub_zero, jf_wor hk3 (by omega), jp_xb, w2, jp_xb, u2, jp_xb]
  refine ⟨kd, nI u &&& (nI t ^^^ (-1 : Int32)), upd told c (nI (t ||| u)), upd heights k (nI (n' - 1)), upd (upd st (15 + k) (nI (n' - 1))) (11 + c) (nI (t ||| u)), k2, ?_, ?_, q1.fr ?_, q2.fr (fun j _ _ => ?_), q3.fr (fun j _ _ => ?_), fun z hz => ?_, fun z hz => ?_⟩
  · unfold jf_F_feed
    rw [eF, jp_xb, jr_at hc4 (by decide), jp_xb, t3, jb_orand, jb_or, jr_put hc4 (by decide), jp_xb, jf_hei hk3 n3, jp_xb, jl1, jn_sub (by omega), jp_xl]
    have em : (if (0 : Int32) < nI (n' - 1) then nI (n' - 1) else (0 : Int32)) = nI (n' - 1) := by
      by_cases hz : n' - 1 = 0
      · rw [hz]; rfl
      · exact if_pos (show nI 0 < nI (n' - 1) from nI_lt (by omega) (by omega))
    rw [em, jr_put hk3 (by decide), jp_xb]
  · unfold jf_M_cutFor jf_M_top
    rw [jl11, nI_add, jp_xr (show 11 + c < 93 by omega) (by decide), nI_clamp (show 11 + c < 2 ^ 31 by omega), t4, jp_xl, jp_xr hc4 (by decide), nI_clamp (show c < 2 ^ 31 by omega), k3, jl15, nI_add, jp_xr (show 15 + k < 93 by omega) (by decide), nI_clamp (show 15 + k < 2 ^ 31 by omega), n4, jl21, jl8, pk_mul, nI_add, nI_add, jl1, jn_sub (by omega), show 21 + 8 * k + n' - 1 = 21 + (8 * k + (n' - 1)) by omega, jp_xr (show 21 + (8 * k + (n' - 1)) < 93 by omega) (by decide), nI_clamp (show 21 + (8 * k + (n' - 1)) < 2 ^ 31 by omega), w3, jp_xb, u3, jp_xb, jp_xr (show 15 + k < 93 by omega) (by decide), jp_xr (show 15 + k < 93 by omega) (by decide), jn_sub (by omega), jp_xl, jp_xr (show 11 + c < 93 by omega) (by decide), jp_xl, jb_or]
  · exact (upd_ne (by omega)).trans (upd_ne (by omega))
  · exact (upd_ne (by omega)).trans (upd_ne (by omega))
  · exact (upd_ne (by omega)).trans (upd_ne (by omega))
  · show ∃ w', w' < 1024 ∧ (nc ≤ z → w' = 0) ∧ upd told c (nI (t ||| u)) z = nI w' ∧ upd (upd st (15 + k) (nI (n' - 1))) (11 + c) (nI (t ||| u)) (11 + z) = nI w'
    by_cases hzc : z = c
    · subst hzc
      rw [upd_same, upd_same]
      exact ⟨t ||| u, jb_or_lt t1 u1, fun q => by omega, rfl, rfl⟩
    · rw [upd_ne hzc, upd_ne (by omega), upd_ne (by omega)]
      exact q4 z hz
  · have fr : ∀ j, j ≠ 15 + k → j ≠ 11 + c → upd (upd st (15 + k) (nI (n' - 1))) (11 + c) (nI (t ||| u)) j = st j := fun j j1 j2 => (upd_ne j2).trans (upd_ne j1)
    obtain ⟨m, m1, m2, m3, m4, m5⟩ := q5 z hz
    by_cases hzk : z = k
    · subst hzk
      have hmn : m = n' := (nI_eq (by omega) (by omega)).mp (m3.symm.trans n3)
      subst hmn
      refine ⟨m - 1, by omega, fun q => by omega, upd_same, by rw [upd_ne (by omega), upd_same], fun i hi => ?_⟩
      obtain ⟨⟨a, a1, a2, a3⟩, ⟨b, b1, b2, b3⟩, s, s1, s2, s3⟩ := m5 i (by omega)
      exact ⟨⟨a, a1, a2, (fr _ (by omega) (by omega)).trans a3⟩, ⟨b, b1, b2, (fr _ (by omega) (by omega)).trans b3⟩, s, s1, s2, (fr _ (by omega) (by omega)).trans s3⟩
    · refine ⟨m, m1, m2, (upd_ne hzk).trans m3, by rw [upd_ne (by omega), upd_ne (by omega)]; exact m4, fun i hi => ?_⟩
      obtain ⟨⟨a, a1, a2, a3⟩, ⟨b, b1, b2, b3⟩, s, s1, s2, s3⟩ := m5 i hi
      exact ⟨⟨a, a1, a2, (fr _ (by omega) (by omega)).trans a3⟩, ⟨b, b1, b2, (fr _ (by omega) (by omega)).trans b3⟩, s, s1, s2, (fr _ (by omega) (by omega)).trans s3⟩
/-- a swathe is turned -/
theorem jf_dry {h j : Nat} {lying damp told heights burnt lw lwet lheat st : Nat → Int32} {hours : Int32} (r : RPart h nc nk lying damp told heights burnt lw lwet lheat hours st) (hj : j < 5) : RPart h nc nk lying (upd damp j (0 : Int32)) told heights burnt lw lwet lheat hours (upd st (6 + j) (0 : Int32)) := by
  obtain ⟨a, b, c, d, e⟩ := r
  refine ⟨a.fr (upd_ne (by omega)), b.fr (fun i _ _ => upd_ne (by omega)), fun m hm => ?_, d.fr (fun i _ _ => upd_ne (by omega)), fun z hz => ?_⟩
  · obtain ⟨⟨w, w1, w2, w3⟩, dd, d1, d2, d3⟩ := c m hm
    refine ⟨⟨w, w1, w2, (upd_ne (by omega)).trans w3⟩, ?_⟩
    by_cases hmj : m = j
    · subst hmj
      exact ⟨0, by omega, upd_same, upd_same⟩
    · exact ⟨dd, d1, (upd_ne hmj).trans d2, (upd_ne (by omega)).trans d3⟩
  · obtain ⟨m, m1, m2, m3, m4, m5⟩ := e z hz
    refine ⟨m, m1, m2, m3, (upd_ne (by omega)).trans m4, fun i hi => ?_⟩
    obtain ⟨⟨a, a1, a2, a3⟩, ⟨b, b1, b2, b3⟩, s, s1, s2, s3⟩ := m5 i hi
    exact ⟨⟨a, a1, a2, (upd_ne (by omega)).trans a3⟩, ⟨b, b1, b2, (upd_ne (by omega)).trans b3⟩, s, s1, s2, (upd_ne (by omega)).trans s3⟩
/-- what a draw does -/
theorem jf_act (hL : RLand nm nc nk gv mowers cows ricks weathers says words weather kindOf thatch) {h d : Nat} (hd : d < 65521) {lying damp told heights burnt lw lwet lheat st : Nat → Int32} {hours : Int32} (r : RPart h nc nk lying damp told heights burnt lw lwet lheat hours st) :
    ∃ (o : (Nat → Int32) × (Nat → Int32) × (Nat → Int32) × (Nat → Int32) × (Nat → Int32) × (Nat → Int32) × (Nat → Int32)) (s2 : Nat → Int32), jf_H_actByDraw 4000 lying damp told heights lw lwet lheat gv.2.2.2.1 gv.2.2.2.2.2.2.1 gv.2.2.2.2.2.2.2.1 gv.2.2.2.2.2.2.2.2 (nI d) = some o ∧ jf_M_draw 4000 mowers cows ricks kindOf st (nI d) = some s2 ∧ RPart h nc nk o.1 o.2.1 o.2.2.1 o.2.2.2.1 burnt o.2.2.2.2.1 o.2.2.2.2.2.1 o.2.2.2.2.2.2 hours s2 := by
  obtain ⟨⟨a1, a2, a3, a4, a5, a6⟩, -⟩ := id hL
  have hm : d / 8 % nm < nm := Nat.mod_lt _ (by omega)
  have hc : d / 8 % nc < nc := Nat.mod_lt _ (by omega)
  have hk : d / 64 % nk < nk := Nat.mod_lt _ (by omega)
  have h8 : d % 8 < 8 := Nat.mod_lt _ (by decide)
  obtain ⟨n, n1, n2, n3, n4, n5⟩ := r.2.2.2.2 (d / 64 % nk) (by omega)
  obtain ⟨w, w1, w2, w3⟩ := jf_lying (N := 4000) (a := 0) (b := d / 8 % nm) (by decide) r.2.2.1 (by omega) (by omega)
  have w2' : jf_F_lyingIn 4000 lying (0 : Int32) (nI (d / 8 % nm)) = some (nI w) := w2
  have w3' : jf_M_lying 4000 st (0 : Int32) (nI (d / 8 % nm)) = some (nI w) := w3
  unfold jf_H_actByDraw jf_M_draw
  rw [hL.2.1.1, hL.2.2.1.1, hL.2.2.2.1.1, hL.2.1.2, hL.2.2.1.2, hL.2.2.2.1.2, jl8, show (64 : Int32) = nI 64 from rfl, jn_rem (a := d) (d := 8) (by omega) (by decide) (by decide), pk_div (a := d) (d := 64) (by omega) (by decide) (by decide), pk_div (a := d) (d := 8) (by omega) (by decide) (by decide), jh_rem (N := 4000) (a := d / 64) (d := nk) (by omega) (by omega) (by omega), jp_xb, jh_rem (N := 4000) (a := d / 8) (d := nm) (by omega) (by omega) (by omega), jp_xb, jh_rem (N := 4000) (a := d / 8) (d := nc) (by omega) (by omega) (by omega), jp_xb, jp_xl, jp_xl, jp_xz (show 0 < nk by omega) (by omega), jn_rem (a := d / 64) (d := nk) (by omega) (by omega) (by omega), jp_xl, jp_xz (show 0 < nm by omega) (by omega), jn_rem (a := d / 8) (d := nm) (by omega) (by omega) (by omega), jp_xl]
  have D66 : ∀ e, (e = 0 ∨ e = 1 ∨ 5 ≤ e ∧ e < 8) → jf_M_draw_66 4000 (nI nm) (nI nc) (nI nk) kindOf st (nI d) (nI e) (nI (d / 64 % nk)) (nI (d / 8 % nm)) = some st := by
    intro e he
    unfold jf_M_draw_66 jf_M_draw_106
    rw [if_neg (fun z => by have := (nI_eq (a := e) (b := 2) (by omega) (by decide)).mp z; omega), if_neg (fun z => by have := (nI_eq (a := e) (b := 3) (by omega) (by decide)).mp z; omega), if_neg (fun z => by have := (nI_eq (a := e) (b := 4) (by omega) (by decide)).mp z; omega)]
  rcases (show d % 8 = 0 ∨ d % 8 = 1 ∨ d % 8 = 2 ∨ d % 8 = 3 ∨ d % 8 = 4 ∨ d % 8 = 5 ∨ d % 8 = 6 ∨ d % 8 = 7 by omega) with he | he | he | he | he | he | he | he
  · rw [he]
    rw [if_pos (show nI 0 = (0 : Int32) from rfl)]
    rw [if_neg (show ¬ (2 : Int32) ≤ nI 0 by decide), w2', w3', jp_xb, jp_xb]
    by_cases hw : w = 0
    · subst hw
      rw [if_pos (show nI 0 = 0 from rfl), if_pos (show nI 0 = 0 from rfl)]
      exact ⟨_, _, rfl, D66 0 (by omega), r⟩
    · have hw' : ¬ nI w = 0 := nI_ne0 (by omega) (by omega)
      rw [if_neg hw', if_neg hw', jf_hei (show d / 64 % nk < 3 by omega) n3, jp_xb, jl15, nI_add, jp_xr (show 15 + d / 64 % nk < 93 by omega) (by decide), nI_clamp (show 15 + d / 64 % nk < 2 ^ 31 by omega), n4]
      by_cases h9 : n = 8
      · subst h9
        rw [if_pos (show nI 8 ≤ nI 8 from nI_le (Nat.le_refl _) (by decide)), if_pos (show nI 8 ≤ nI 8 from nI_le (Nat.le_refl _) (by decide))]
        exact ⟨_, _, rfl, D66 0 (by omega), r⟩
      · obtain ⟨o, s2, g1, g2, g3, -, -⟩ := jf_gather (N := 4000) (a := 0) (by decide) r (by omega) (show d / 8 % nm < 5 by omega) (show d / 64 % nk < 3 by omega) hk (show n < 8 by omega) n3
        rw [if_neg (show ¬ nI 8 ≤ nI n from nI_ge (by omega) (by decide)), if_neg (show ¬ nI 8 ≤ nI n from nI_ge (by omega) (by decide)), show jf_F_gather 4000 lying damp heights lw lwet lheat (0 : Int32) (nI (d / 8 % nm)) (nI (d / 64 % nk)) = some o from g1, show jf_M_rakeIn 4000 st (0 : Int32) (nI (d / 8 % nm)) (nI (d / 64 % nk)) = some s2 from g2, jp_xb, jp_xb]
        exact ⟨_, _, rfl, rfl, g3⟩
  · rw [he]
    rw [if_neg (show ¬ nI 1 = (0 : Int32) by decide), if_pos (show nI 1 = (1 : Int32) from rfl)]
    rw [if_neg (show ¬ (2 : Int32) ≤ nI 1 by decide), w2', w3', jp_xb, jp_xb]
    by_cases hw : w = 0
    · subst hw
      rw [if_pos (show nI 0 = 0 from rfl), if_pos (show nI 0 = 0 from rfl)]
      exact ⟨_, _, rfl, D66 1 (by omega), r⟩
    · have hw' : ¬ nI w = 0 := nI_ne0 (by omega) (by omega)
      rw [if_neg hw', if_neg hw', jf_hei (show d / 64 % nk < 3 by omega) n3, jp_xb, jl15, nI_add, jp_xr (show 15 + d / 64 % nk < 93 by omega) (by decide), nI_clamp (show 15 + d / 64 % nk < 2 ^ 31 by omega), n4]
      by_cases h9 : n = 8
      · subst h9
        rw [if_pos (show nI 8 ≤ nI 8 from nI_le (Nat.le_refl _) (by decide)), if_pos (show nI 8 ≤ nI 8 from nI_le (Nat.le_refl _) (by decide))]
        exact ⟨_, _, rfl, D66 1 (by omega), r⟩
      · obtain ⟨o, s2, g1, g2, g3, -, -⟩ := jf_gather (N := 4000) (a := 0) (by decide) r (by omega) (show d / 8 % nm < 5 by omega) (show d / 64 % nk < 3 by omega) hk (show n < 8 by omega) n3
        rw [if_neg (show ¬ nI 8 ≤ nI n from nI_ge (by omega) (by decide)), if_neg (show ¬ nI 8 ≤ nI n from nI_ge (by omega) (by decide)), show jf_F_gather 4000 lying damp heights lw lwet lheat (0 : Int32) (nI (d / 8 % nm)) (nI (d / 64 % nk)) = some o from g1, show jf_M_rakeIn 4000 st (0 : Int32) (nI (d / 8 % nm)) (nI (d / 64 % nk)) = some s2 from g2, jp_xb, jp_xb]
        exact ⟨_, _, rfl, rfl, g3⟩
  · rw [he]
    rw [if_neg (show ¬ nI 2 = (0 : Int32) by decide), if_neg (show ¬ nI 2 = (1 : Int32) by decide), if_pos (show nI 2 = (2 : Int32) from rfl)]
    rw [if_pos (show (2 : Int32) ≤ nI 2 by decide), jf_hei (show d / 64 % nk < 3 by omega) n3, jp_xb]
    unfold jf_M_draw_66
    rw [if_pos (show nI 2 = (2 : Int32) from rfl)]
    unfold jf_M_draw_76
    rw [jl15, nI_add, jp_xr (show 15 + d / 64 % nk < 93 by omega) (by decide), nI_clamp (show 15 + d / 64 % nk < 2 ^ 31 by omega), n4]
    by_cases h9 : n = 0
    · subst h9
      unfold jf_M_draw_106
      rw [if_pos (show nI 0 ≤ (0 : Int32) from nI_le (Nat.le_refl _) (by decide)), if_pos (show nI 0 ≤ (0 : Int32) from nI_le (Nat.le_refl _) (by decide)), if_neg (show ¬ nI 2 = (4 : Int32) by decide)]
      exact ⟨_, _, rfl, rfl, r⟩
    · obtain ⟨kd, a, t2, h2, s2, p1, p2, p3, p4⟩ := jf_feed hL r (show d / 64 % nk < 3 by omega) hc n1 h9 n3
      rw [if_neg (show ¬ nI n ≤ (0 : Int32) from nI_nle (by omega) (by omega)), if_neg (show ¬ nI n ≤ (0 : Int32) from nI_nle (by omega) (by omega)), p1, jp_xb, p2, jp_xb, jl8, pk_div (a := d) (d := 8) (by omega) (by decide) (by decide), jp_xz (show 0 < nc by omega) (by omega), jn_rem (a := d / 8) (d := nc) (by omega) (by omega) (by omega), p3, jp_xb]
      exact ⟨_, _, rfl, rfl, p4⟩
  · rw [he]
    rw [if_neg (show ¬ nI 3 = (0 : Int32) by decide), if_neg (show ¬ nI 3 = (1 : Int32) by decide), if_neg (show ¬ nI 3 = (2 : Int32) by decide), if_pos (show nI 3 = (3 : Int32) from rfl)]
    rw [if_pos (show (2 : Int32) ≤ nI 3 by decide), jf_hei (show d / 64 % nk < 3 by omega) n3, jp_xb]
    unfold jf_M_draw_66
    rw [if_neg (show ¬ nI 3 = (2 : Int32) by decide), if_pos (show nI 3 = (3 : Int32) from rfl)]
    unfold jf_M_draw_76
    rw [jl15, nI_add, jp_xr (show 15 + d / 64 % nk < 93 by omega) (by decide), nI_clamp (show 15 + d / 64 % nk < 2 ^ 31 by omega), n4]
    by_cases h9 : n = 0
    · subst h9
      unfold jf_M_draw_106
      rw [if_pos (show nI 0 ≤ (0 : Int32) from nI_le (Nat.le_refl _) (by decide)), if_pos (show nI 0 ≤ (0 : Int32) from nI_le (Nat.le_refl _) (by decide)), if_neg (show ¬ nI 3 = (4 : Int32) by decide)]
      exact ⟨_, _, rfl, rfl, r⟩
    · obtain ⟨kd, a, t2, h2, s2, p1, p2, p3, p4⟩ := jf_feed hL r (show d / 64 % nk < 3 by omega) hc n1 h9 n3
      rw [if_neg (show ¬ nI n ≤ (0 : Int32) from nI_nle (by omega) (by omega)), if_neg (show ¬ nI n ≤ (0 : Int32) from nI_nle (by omega) (by omega)), p1, jp_xb, p2, jp_xb, jl8, pk_div (a := d) (d := 8) (by omega) (by decide) (by decide), jp_xz (show 0 < nc by omega) (by omega), jn_rem (a := d / 8) (d := nc) (by omega) (by omega) (by omega), p3, jp_xb]
      exact ⟨_, _, rfl, rfl, p4⟩
  · rw [he]
    rw [if_neg (show ¬ nI 4 = (0 : Int32) by decide), if_neg (show ¬ nI 4 = (1 : Int32) by decide), if_neg (show ¬ nI 4 = (2 : Int32) by decide), if_neg (show ¬ nI 4 = (3 : Int32) by decide), if_pos (show nI 4 = (4 : Int32) from rfl)]
    unfold jf_M_draw_66 jf_M_draw_106
    rw [if_pos (show (2 : Int32) ≤ nI 4 by decide), if_neg (show ¬ nI 4 = (2 : Int32) by decide), if_neg (show ¬ nI 4 = (3 : Int32) by decide), if_pos (show nI 4 = (4 : Int32) from rfl), jr_put (show d / 8 % nm < 5 by omega) (by decide), jp_xb, jl6, nI_add, jp_xr (show 6 + d / 8 % nm < 93 by omega) (by decide), nI_clamp (show 6 + d / 8 % nm < 2 ^ 31 by omega), jp_xl]
    exact ⟨_, _, rfl, rfl, jf_dry r (by omega)⟩
  · rw [he]
    rw [if_neg (show ¬ nI 5 = (0 : Int32) by decide), if_neg (show ¬ nI 5 = (1 : Int32) by decide), if_neg (show ¬ nI 5 = (2 : Int32) by decide), if_neg (show ¬ nI 5 = (3 : Int32) by decide), if_neg (show ¬ nI 5 = (4 : Int32) by decide)]
    rw [if_pos (show (2 : Int32) ≤ nI 5 by decide)]
    exact ⟨_, _, rfl, D66 5 (by omega), r⟩
  · rw [he]
    rw [if_neg (show ¬ nI 6 = (0 : Int32) by decide), if_neg (show ¬ nI 6 = (1 : Int32) by decide), if_neg (show ¬ nI 6 = (2 : Int32) by decide), if_neg (show ¬ nI 6 = (3 : Int32) by decide), if_neg (show ¬ nI 6 = (4 : Int32) by decide)]
    rw [if_pos (show (2 : Int32) ≤ nI 6 by decide)]
    exact ⟨_, _, rfl, D66 6 (by omega), r⟩
  · rw [he]
    rw [if_neg (show ¬ nI 7 = (0 : Int32) by decide), if_neg (show ¬ nI 7 = (1 : Int32) by decide), if_neg (show ¬ nI 7 = (2 : Int32) by decide), if_neg (show ¬ nI 7 = (3 : Int32) by decide), if_neg (show ¬ nI 7 = (4 : Int32) by decide)]
    rw [if_pos (show (2 : Int32) ≤ nI 7 by decide)]
    exact ⟨_, _, rfl, D66 7 (by omega), r⟩
/-- the draw of a day -/
theorem jf_drawOf {z k : Nat} (hz : z ≤ 9999) (hk : k < 60) : ∃ d, d < 65521 ∧ jf_H_drawOf 4000 (nI z) (nI k) = some (nI d) ∧ Int64.toInt32 ((((((7919 : Int64) * (Int32.toInt64 (nI z))) + ((6151 : Int64) * (Int32.toInt64 (nI k)))) + (1 : Int64)) * ((((7919 : Int64) * (Int32.toInt64 (nI z))) + ((6151 : Int64) * (Int32.toInt64 (nI k)))) + (1 : Int64))) - (((((7919 : Int64) * (Int32.toInt64 (nI z))) + ((6151 : Int64) * (Int32.toInt64 (nI k)))) + (1 : Int64)) * ((((7919 : Int64) * (Int32.toInt64 (nI z))) + ((6151 : Int64) * (Int32.toInt64 (nI k)))) + (1 : Int64))) / (65521 : Int64) * (65521 : Int64)) = nI d := by
  have e1 : (((7919 : Int64) * (Int32.toInt64 (nI z))) + ((6151 : Int64) * (Int32.toInt64 (nI k)))) + (1 : Int64) = lN (7919 * z + 6151 * k + 1) := by
    rw [nI_l (by omega), nI_l (by omega), show (7919 : Int64) = lN 7919 from rfl, show (6151 : Int64) = lN 6151 from rfl, lN_mul, lN_mul, lN_add, lN_1]
  have hv : 7919 * z + 6151 * k + 1 < 2 ^ 27 := by omega
  have hvv : (7919 * z + 6151 * k + 1) * (7919 * z + 6151 * k + 1) < 2 ^ 27 * 2 ^ 27 := Nat.mul_lt_mul'' hv hv
  have e2 : Int64.toInt32 (lN (7919 * z + 6151 * k + 1) * lN (7919 * z + 6151 * k + 1) - lN (7919 * z + 6151 * k + 1) * lN (7919 * z + 6151 * k + 1) / (65521 : Int64) * (65521 : Int64)) = nI (((7919 * z + 6151 * k + 1) * (7919 * z + 6151 * k + 1)) % 65521) := by
    rw [lN_mul, show (65521 : Int64) = lN 65521 from rfl, pk_lRem (by omega) (by decide) (by decide), lN_i]
  refine ⟨((7919 * z + 6151 * k + 1) * (7919 * z + 6151 * k + 1)) % 65521, Nat.mod_lt _ (by decide), ?_, ?_⟩
  · unfold jf_H_drawOf
    rw [e1, jp_xl, e2]
  · rw [e1, e2]
end FEB

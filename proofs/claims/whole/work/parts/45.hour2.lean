theorem jb_pow {z : Nat} (hz : z ≤ 9) : (1 : Int32) <<< (nI z &&& 31) = nI (2 ^ z) ∧ 2 ^ z < 1024 := by
  rcases (show z = 0 ∨ z = 1 ∨ z = 2 ∨ z = 3 ∨ z = 4 ∨ z = 5 ∨ z = 6 ∨ z = 7 ∨ z = 8 ∨ z = 9 by omega) with rfl | rfl | rfl | rfl | rfl | rfl | rfl | rfl | rfl | rfl <;> decide
theorem jb_or (a b : Nat) : nI a ||| nI b = nI (a ||| b) := by
  show Int32.ofNat a ||| Int32.ofNat b = Int32.ofNat (a ||| b)
  apply Int32.toBitVec_inj.mp
  apply BitVec.eq_of_toNat_eq
  simp [Int32.toBitVec_or]
theorem jb_and (a b : Nat) : nI a &&& nI b = nI (a &&& b) := by
  show Int32.ofNat a &&& Int32.ofNat b = Int32.ofNat (a &&& b)
  apply Int32.toBitVec_inj.mp
  apply BitVec.eq_of_toNat_eq
  simp [Int32.toBitVec_and]
theorem jb_or_lt {a b : Nat} (ha : a < 1024) (hb : b < 1024) : a ||| b < 1024 := Nat.or_lt_two_pow (n := 10) ha hb
theorem RBur.mono {Bf Bg : Nat → Nat} {burnt st : Nat → Int32} (r : RBur Bf burnt st) (e : ∀ k, k < 3 → Bf k ≤ Bg k) : RBur Bg burnt st := fun k hk => by
  obtain ⟨b, h1, h2, h3⟩ := r k hk
  exact ⟨b, Nat.le_trans h1 (e k hk), h2, h3⟩
def RPart (h nc nk : Nat) (lying damp told heights burnt lw lwet lheat : Nat → Int32) (hours : Int32) (st : Nat → Int32) : Prop := RHrs h hours st ∧ RBur (fun _ => h) burnt st ∧ RSwa lying damp st ∧ RTol nc told st ∧ RRic nk heights lw lwet lheat st
theorem RPart_to {H nc nk : Nat} {fv : jFV} {st : Nat → Int32} (r : RField H nc nk fv st) : ∃ h, h ≤ H ∧ RPart h nc nk fv.1 fv.2.1 fv.2.2.1 fv.2.2.2.1 fv.2.2.2.2.1 fv.2.2.2.2.2.1 fv.2.2.2.2.2.2.1 fv.2.2.2.2.2.2.2.1 fv.2.2.2.2.2.2.2.2 st := by
  obtain ⟨h, h1, a, b, c, d, e⟩ := RField_to r
  exact ⟨h, h1, a, b, c, d, e⟩
theorem RPart_of {H h nc nk : Nat} {fv : jFV} {st : Nat → Int32} (hh : h ≤ H) (r : RPart h nc nk fv.1 fv.2.1 fv.2.2.1 fv.2.2.2.1 fv.2.2.2.2.1 fv.2.2.2.2.2.1 fv.2.2.2.2.2.2.1 fv.2.2.2.2.2.2.2.1 fv.2.2.2.2.2.2.2.2 st) : RField H nc nk fv st := by
  obtain ⟨a, b, c, d, e⟩ := r
  exact RField_of hh (fun _ _ => Nat.le_refl _) a b c d e
section HOUR
variable {nm nc nk : Nat} {gv : jLV} {mowers cows ricks weathers : Int32} {says words weather kindOf thatch : Nat → Int32}
/-- every rick, an hour later -/
theorem jf_ricks (hL : RLand nm nc nk gv mowers cows ricks weathers says words weather kindOf thatch) {N h : Nat} (hN : 8 < N) (hh : h < 2 ^ 19) {lying damp heights burnt lw lwet lheat st : Nat → Int32} {hours : Int32} (b : RBur (fun _ => h) burnt st) (e : RRic nk heights lw lwet lheat st)
    (kx1 : ((Nat → Int32) × (Nat → Int32) × (Nat → Int32)) → Option ((Nat → Int32) × (Nat → Int32) × (Nat → Int32) × (Nat → Int32) × (Nat → Int32) × Int32)) (kx2 : (Nat → Int32) → Option (Nat → Int32)) :
    ∃ (q : (Nat → Int32) × (Nat → Int32) × (Nat → Int32)) (st2 : Nat → Int32), jf_F_hourGoesBy_2 N lying damp heights burnt lwet lheat hours gv.1 gv.2.1 gv.2.2.1 gv.2.2.2.2.1 gv.2.2.2.2.2.1 gv.2.2.2.2.2.2.1 gv.2.2.2.2.2.2.2.2 (0 : Int32) kx1 = kx1 q ∧ jf_M_oneHour_2 N mowers ricks weathers says words weather thatch st (0 : Int32) kx2 = kx2 st2 ∧ RBur (fun _ => h + 1) q.2.1 st2 ∧ RRic nk q.1 lw lwet q.2.2 st2 ∧ (∀ j, j < 15 → st2 j = st j) ∧ ∀ j, j < 3 → ∀ z, z < 2 ^ 19 → st (18 + j) = nI z → ∃ c, z ≤ c ∧ c ≤ z + 3 ∧ st2 (18 + j) = nI c := by
  have hk3 : nk ≤ 3 := hL.1.2.2.2.2.2
  unfold jf_F_hourGoesBy_2 jf_M_oneHour_2
  have key := xloop_rel (σ1 := (Nat → Int32) × (Nat → Int32) × (Nat → Int32) × Int32) (σ2 := (Nat → Int32) × Int32) (fun (kh : ((Nat → Int32) × (Nat → Int32) × (Nat → Int32) × Int32) → Option ((Nat → Int32) × (Nat → Int32) × (Nat → Int32) × (Nat → Int32) × (Nat → Int32) × Int32)) q => jf_F_hourGoesBy_2B N lying damp q.1 q.2.1 lwet q.2.2.1 hours gv.1 gv.2.1 gv.2.2.1 gv.2.2.2.2.1 gv.2.2.2.2.2.1 gv.2.2.2.2.2.2.1 gv.2.2.2.2.2.2.2.2 q.2.2.2 kh kx1) (fun (kh : ((Nat → Int32) × Int32) → Option ((Nat → Int32))) q => jf_M_oneHour_2B N mowers ricks weathers says words weather thatch q.1 q.2 kh kx2)
    (fun r q1 q2 => ∃ i : Nat, i + r = nk ∧ q1.2.2.2 = nI i ∧ q2.2 = nI i ∧ RBur (fun j => if j < i then h + 1 else h) q1.2.1 q2.1 ∧ RRic nk q1.1 lw lwet q1.2.2.1 q2.1 ∧ (∀ j, j < 15 → q2.1 j = st j) ∧ ∀ j, j < 3 → ∀ z, z < 2 ^ 19 → st (18 + j) = nI z → ∃ c, z ≤ c ∧ c ≤ z + i ∧ q2.1 (18 + j) = nI c)
    (fun o1 o2 => ∃ (q : (Nat → Int32) × (Nat → Int32) × (Nat → Int32)) (st2 : Nat → Int32), o1 = kx1 q ∧ o2 = kx2 st2 ∧ RBur (fun _ => h + 1) q.2.1 st2 ∧ RRic nk q.1 lw lwet q.2.2 st2 ∧ (∀ j, j < 15 → st2 j = st j) ∧ ∀ j, j < 3 → ∀ z, z < 2 ^ 19 → st (18 + j) = nI z → ∃ c, z ≤ c ∧ c ≤ z + 3 ∧ st2 (18 + j) = nI c) ?_ nk N N (heights, burnt, lheat, 0) (st, 0) (by omega) (by omega) ⟨0, by omega, rfl, rfl, b.mono (fun k _ => by show h ≤ (if k < 0 then h + 1 else h); rw [if_neg (by omega)]; exact Nat.le_refl _), e, fun j _ => rfl, fun j _ z _ hz => ⟨z, by omega, by omega, hz⟩⟩
  · exact key
  · intro r q1 q2 ⟨i, hi, g1, g2, g3, g4, g5, g6⟩
    by_cases hr : r = 0
    · have hi : i = nk := by omega
      subst hi
      refine Or.inr ⟨kx1 (q1.1, q1.2.1, q1.2.2.1), kx2 q2.1, ⟨(q1.1, q1.2.1, q1.2.2.1), q2.1, rfl, rfl, g3.mono (fun k _ => by show (if k < i then h + 1 else h) ≤ h + 1; split <;> omega), g4, g5, fun j hj z hz1 hz => by obtain ⟨c, c1, c2, c3⟩ := g6 j hj z hz1 hz; exact ⟨c, c1, by omega, c3⟩⟩, fun kh => ?_, fun kh => ?_⟩
      · unfold jf_F_hourGoesBy_2B
        rw [hL.2.2.2.1.1, g1, if_pos (nI_le (Nat.le_refl _) (by omega))]
      · unfold jf_M_oneHour_2B
        rw [hL.2.2.2.1.2, g2, if_pos (nI_le (Nat.le_refl _) (by omega))]
    · obtain ⟨v, v1, v2, v3⟩ := jl_thatch hL (N := N) (k := i) (by omega)
      obtain ⟨q, s2, p1, p2, p3, p4, p5, p6⟩ := jf_heat1 hN (show i < 3 by omega) v1 v3 (by show (if i < i then h + 1 else h) < 2 ^ 20; split <;> omega) g3 g4
      refine Or.inl ⟨r - 1, (q.1, q.2.1, q.2.2, nI (i + 1)), (s2, nI (i + 1)), by omega, ⟨i + 1, by omega, rfl, rfl, p3.mono (fun k _ => ?_), p4, fun j hj => (p5 j hj).trans (g5 j hj), fun j hj z hz1 hz => ?_⟩, fun kh => ?_, fun kh => ?_⟩
      · show (if k = i then (if i < i then h + 1 else h) + 1 else if k < i then h + 1 else h) ≤ if k < i + 1 then h + 1 else h
        by_cases c1 : k = i
        · rw [if_pos c1, if_neg (by omega), if_pos (by omega)]
          exact Nat.le_refl _
        · rw [if_neg c1]
          by_cases c2 : k < i
          · rw [if_pos c2, if_pos (by omega)]
            exact Nat.le_refl _
          · rw [if_neg c2, if_neg (by omega)]
            exact Nat.le_refl _
      · obtain ⟨c, c1, c2, c3⟩ := g6 j hj z hz1 hz
        rcases p6 j hj c (by omega) c3 with p | p
        · exact ⟨c, c1, by omega, p⟩
        · exact ⟨c + 1, by omega, by omega, p⟩
      · unfold jf_F_hourGoesBy_2B
        rw [hL.2.2.2.1.1, g1, if_neg (nI_ge (by omega) (by omega)), v2, jp_xb, p1, jp_xb, jp_xl, nI_1]
      · unfold jf_M_oneHour_2B
        rw [hL.2.2.2.1.2, g2, if_neg (nI_ge (by omega) (by omega)), p2, jp_xb, jp_xl, nI_1]
theorem jm_wetter {N a b : Nat} (ha : a ≤ 99) (hb : b < 2 ^ 20) : jf_M_wetter N (nI a) (nI b) = some (nI (if a + b < 99 then a + b else 99)) := by
  unfold jf_M_wetter
  rw [nI_add, jl99, jn_ite_le (by omega) (by omega)]
  by_cases h : a + b < 99
  · rw [if_pos h, if_pos (by omega)]
  · rw [if_neg h]
    by_cases h2 : a + b = 99
    · rw [if_pos (by omega), h2]
    · rw [if_neg (by omega)]
/-- every swath, an hour later -/
theorem jf_swaths (hL : RLand nm nc nk gv mowers cows ricks weathers says words weather kindOf thatch) {N h wv : Nat} (hN : 8 < N) (hh : h < 2 ^ 19) (hwv : wv ≤ 3) {lying damp heights burnt lwet lheat st : Nat → Int32} (a : st 0 = nI h) (eW : jf_M_rains N weathers weather (nI h) = some (nI wv)) (c : RSwa lying damp st)
    (kx1 : ((Nat → Int32) × (Nat → Int32)) → Option ((Nat → Int32) × (Nat → Int32) × (Nat → Int32) × (Nat → Int32) × (Nat → Int32) × Int32)) (kx2 : (Nat → Int32) → Option (Nat → Int32)) :
    ∃ (q : (Nat → Int32) × (Nat → Int32)) (st2 : Nat → Int32), jf_F_hourGoesBy_37 N lying damp heights burnt lwet lheat (nI h) gv.1 gv.2.1 gv.2.2.1 gv.2.2.2.2.1 gv.2.2.2.2.2.1 gv.2.2.2.2.2.2.1 gv.2.2.2.2.2.2.2.2 (nI wv) (0 : Int32) kx1 = kx1 q ∧ jf_M_oneHour_23 N mowers ricks weathers says words weather thatch st (0 : Int32) kx2 = kx2 st2 ∧ RSwa q.1 q.2 st2 ∧ st2 0 = st 0 ∧ ∀ j, 11 ≤ j → st2 j = st j := by
  have hk3 : nm ≤ 5 := hL.1.2.1
  unfold jf_F_hourGoesBy_37 jf_M_oneHour_23
  have key := xloop_rel (σ1 := (Nat → Int32) × (Nat → Int32) × Int32) (σ2 := (Nat → Int32) × Int32) (fun (kh : ((Nat → Int32) × (Nat → Int32) × Int32) → Option ((Nat → Int32) × (Nat → Int32) × (Nat → Int32) × (Nat → Int32) × (Nat → Int32) × Int32)) q => jf_F_hourGoesBy_37B N q.1 q.2.1 heights burnt lwet lheat (nI h) gv.1 gv.2.1 gv.2.2.1 gv.2.2.2.2.1 gv.2.2.2.2.2.1 gv.2.2.2.2.2.2.1 gv.2.2.2.2.2.2.2.2 (nI wv) q.2.2 kh kx1) (fun (kh : ((Nat → Int32) × Int32) → Option ((Nat → Int32))) q => jf_M_oneHour_23B N mowers ricks weathers says words weather thatch q.1 q.2 kh kx2)
    (fun r q1 q2 => ∃ i : Nat, i + r = nm ∧ q1.2.2 = nI i ∧ q2.2 = nI i ∧ RSwa q1.1 q1.2.1 q2.1 ∧ q2.1 0 = st 0 ∧ ∀ j, 11 ≤ j → q2.1 j = st j)
    (fun o1 o2 => ∃ (q : (Nat → Int32) × (Nat → Int32)) (st2 : Nat → Int32), o1 = kx1 q ∧ o2 = kx2 st2 ∧ RSwa q.1 q.2 st2 ∧ st2 0 = st 0 ∧ ∀ j, 11 ≤ j → st2 j = st j) ?_ nm N N (lying, damp, 0) (st, 0) (by omega) (by omega) ⟨0, by omega, rfl, rfl, c, rfl, fun j _ => rfl⟩
  · exact key
  · intro r q1 q2 ⟨i, hi, g1, g2, g3, g4, g5⟩
    by_cases hr : r = 0
    · have hi : i = nm := by omega
      subst hi
      refine Or.inr ⟨kx1 (q1.1, q1.2.1), kx2 q2.1, ⟨(q1.1, q1.2.1), q2.1, rfl, rfl, g3, g4, g5⟩, fun kh => ?_, fun kh => ?_⟩
      · unfold jf_F_hourGoesBy_37B
        rw [hL.2.1.1, g1, if_pos (nI_le (Nat.le_refl _) (by omega))]
      · unfold jf_M_oneHour_23B
        rw [hL.2.1.2, g2, if_pos (nI_le (Nat.le_refl _) (by omega))]
    · have hi5 : i < 5 := by omega
      obtain ⟨z, z1, z2, z3⟩ := jl_word hL (N := N) (m := i) (t := h) (by omega) (by omega)
      obtain ⟨⟨w, w1, w2, w3⟩, d, d1, d2, d3⟩ := g3 i hi5
      obtain ⟨b1, b2⟩ := jb_pow z1
      refine Or.inl ⟨r - 1, (upd q1.1 i (nI (w ||| 2 ^ z)), upd q1.2.1 i (nI (if d + wv < 99 then d + wv else 99)), nI (i + 1)), (upd (upd q2.1 (1 + i) (nI (w ||| 2 ^ z))) (6 + i) (nI (if d + wv < 99 then d + wv else 99)), nI (i + 1)), by omega, ⟨i + 1, by omega, rfl, rfl, fun m hm => ?_, ?_, fun j hj => ?_⟩, fun kh => ?_, fun kh => ?_⟩
      · show (∃ w', w' < 1024 ∧ upd q1.1 i (nI (w ||| 2 ^ z)) m = nI w' ∧ upd (upd q2.1 (1 + i) (nI (w ||| 2 ^ z))) (6 + i) (nI (if d + wv < 99 then d + wv else 99)) (1 + m) = nI w') ∧ ∃ d', d' ≤ 99 ∧ upd q1.2.1 i (nI (if d + wv < 99 then d + wv else 99)) m = nI d' ∧ upd (upd q2.1 (1 + i) (nI (w ||| 2 ^ z))) (6 + i) (nI (if d + wv < 99 then d + wv else 99)) (6 + m) = nI d'
        by_cases hmi : m = i
        · subst hmi
          rw [upd_same, upd_same, upd_same, upd_ne (by omega), upd_same]
          exact ⟨⟨_, jb_or_lt w1 b2, rfl, rfl⟩, _, by split <;> omega, rfl, rfl⟩
        · rw [upd_ne hmi, upd_ne hmi, upd_ne (by omega), upd_ne (by omega), upd_ne (by omega), upd_ne (by omega)]
          exact g3 m hm
      · show upd (upd _ _ _) _ _ _ = _
        rw [upd_ne (by omega), upd_ne (by omega)]
        exact g4
      · show upd (upd _ _ _) _ _ _ = _
        rw [upd_ne (by omega), upd_ne (by omega)]
        exact g5 j hj
      · unfold jf_F_hourGoesBy_37B
        rw [hL.2.1.1, g1, if_neg (nI_ge (by omega) (by omega)), jr_at hi5 (by decide), jp_xb, z2, jp_xb, w2, b1, jb_or, jr_put hi5 (by decide), jp_xb, jr_at hi5 (by decide), jp_xb, d2, nI_add, jl99, jn_ite_lt (by omega) (by omega), jp_xl, jr_put hi5 (by decide), jp_xb, jp_xl, nI_1]
        by_cases hc : d + wv < 99
        · rw [if_pos hc, if_pos hc]
        · rw [if_neg hc, if_neg hc]
      · unfold jf_M_oneHour_23B
        rw [hL.2.1.2, g2, if_neg (nI_ge (by omega) (by omega)), jl1, nI_add, jp_xr (by omega) (by decide), jp_xr0 (by decide) (by decide), jz0, g4, a, z3, jp_xb, jp_xr (by omega) (by decide), nI_clamp (by omega), w3, ← jl1, b1, jb_or, jp_xl, jl6, nI_add, jp_xr (by omega) (by decide), jp_xr0 (by decide) (by decide), upd_ne (by omega), g4, a, eW, jp_xb, nI_clamp (by omega), upd_ne (by omega), d3, jm_wetter d1 (by omega), jp_xb, jp_xr (by omega) (by decide), jp_xl, jp_xl, nI_1]
/-- an hour goes by -/
theorem jf_hour (hL : RLand nm nc nk gv mowers cows ricks weathers says words weather kindOf thatch) {N h : Nat} (hN : 8 < N) (hh : h < 2 ^ 19) {lying damp told heights burnt lw lwet lheat st : Nat → Int32} {hours : Int32} (r : RPart h nc nk lying damp told heights burnt lw lwet lheat hours st) :
    ∃ (q : (Nat → Int32) × (Nat → Int32) × (Nat → Int32) × (Nat → Int32) × (Nat → Int32) × Int32) (st2 : Nat → Int32), jf_F_hourGoesBy N lying damp heights burnt lwet lheat hours gv.1 gv.2.1 gv.2.2.1 gv.2.2.2.2.1 gv.2.2.2.2.2.1 gv.2.2.2.2.2.2.1 gv.2.2.2.2.2.2.2.2 = some q ∧ jf_M_oneHour N mowers ricks weathers says words weather thatch st = some st2 ∧ RPart (h + 1) nc nk q.1 q.2.1 told q.2.2.1 q.2.2.2.1 lw lwet q.2.2.2.2.1 q.2.2.2.2.2 st2 ∧ ∀ j, j < 3 → ∀ z, z < 2 ^ 19 → st (18 + j) = nI z → ∃ c, z ≤ c ∧ c ≤ z + 3 ∧ st2 (18 + j) = nI c := by
  obtain ⟨a, b, c, d, e⟩ := r
  have a1 : hours = nI h := a.1
  subst a1
  unfold jf_F_hourGoesBy jf_M_oneHour
  obtain ⟨q, s1, p1, p2, p3, p4, p5, p6⟩ := jf_ricks hL hN hh (lying := lying) (damp := damp) (hours := nI h) b e (fun q1 => jf_F_hourGoesBy_26 N lying damp q1.1 q1.2.1 lwet q1.2.2 (nI h) gv.1 gv.2.1 gv.2.2.1 gv.2.2.2.2.1 gv.2.2.2.2.2.1 gv.2.2.2.2.2.2.1 gv.2.2.2.2.2.2.2.2) (fun q1 => jf_M_oneHour_21 N mowers ricks weathers says words weather thatch q1)
  rw [p1, p2]
  unfold jf_F_hourGoesBy_26 jf_M_oneHour_21
  obtain ⟨wv, w1, w2, w3⟩ := jl_weather hL (N := N) (t := h) (by omega)
  obtain ⟨z, s2, g1, g2, g3, g4, g5⟩ := jf_swaths hL hN hh w1 (lying := lying) (damp := damp) (heights := q.1) (burnt := q.2.1) (lwet := lwet) (lheat := q.2.2) ((p5 0 (by omega)).trans a.2) w3 (c.fr (fun j _ hj => p5 j (by omega))) (fun q2 => jf_F_hourGoesBy_102 N q2.1 q2.2 q.1 q.2.1 lwet q.2.2 (nI h) gv.1 gv.2.1 gv.2.2.1 gv.2.2.2.2.1 gv.2.2.2.2.2.1 gv.2.2.2.2.2.2.1 gv.2.2.2.2.2.2.2.2) (fun q1 => jf_M_oneHour_93 N mowers ricks weathers says words weather thatch q1)
  rw [w2, jp_xb, g1, g2]
  unfold jf_F_hourGoesBy_102 jf_M_oneHour_93
  refine ⟨(z.1, z.2, q.1, q.2.1, q.2.2, nI (h + 1)), upd s2 0 (nI (h + 1)), ?_, ?_, ⟨⟨rfl, upd_same⟩, p3.fr (fun j h1 h2 => ?_), g3.fr (fun j h1 h2 => ?_), d.fr (fun j h1 h2 => ?_), p4.fr (fun j h1 => ?_)⟩, fun j hj z hz1 hz => ?_⟩
  · rw [nI_1, jp_xl]
  · rw [jp_xr0 (by decide) (by decide), jp_xr0 (by decide) (by decide), jz0, g4, p5 0 (by omega), a.2, nI_1, jp_xl]
  · rw [upd_ne (by omega), g5 j (by omega)]
  · rw [upd_ne (by omega)]
  · rw [upd_ne (by omega), g5 j (by omega), p5 j (by omega)]
  · rw [upd_ne (by omega), g5 j (by omega)]
  · obtain ⟨y, c1, c2, c3⟩ := p6 j hj z hz1 hz
    exact ⟨y, c1, c2, by rw [upd_ne (by omega), g5 _ (by omega)]; exact c3⟩
/-- n hours go by -/
theorem jf_hours (hL : RLand nm nc nk gv mowers cows ricks weathers says words weather kindOf thatch) {N h n : Nat} (hN : 8 < N) (hn : n < N) (hh : h + n < 2 ^ 19) {lying damp told heights burnt lw lwet lheat st : Nat → Int32} {hours : Int32} (r : RPart h nc nk lying damp told heights burnt lw lwet lheat hours st) {β : Type} (B2 : (((Nat → Int32) × Int32) → Option β) → ((Nat → Int32) × Int32) → Option β) (kx2 : (Nat → Int32) → Option β)
    (hB : ∀ kh q, B2 kh q = if nI n ≤ q.2 then kx2 q.1 else xb (jf_M_oneHour N mowers ricks weathers says words weather thatch q.1) (fun q1 => xl (q.2 + (1 : Int32)) (fun (v1 : Int32) => kh (q1, v1)))) :
    ∃ (q : (Nat → Int32) × (Nat → Int32) × (Nat → Int32) × (Nat → Int32) × (Nat → Int32) × Int32) (st2 : Nat → Int32), jf_F_hoursGoBy N lying damp heights burnt lwet lheat hours gv.1 gv.2.1 gv.2.2.1 gv.2.2.2.2.1 gv.2.2.2.2.2.1 gv.2.2.2.2.2.2.1 gv.2.2.2.2.2.2.2.2 (nI n) = some q ∧ xloop B2 N (st, 0) = kx2 st2 ∧ RPart (h + n) nc nk q.1 q.2.1 told q.2.2.1 q.2.2.2.1 lw lwet q.2.2.2.2.1 q.2.2.2.2.2 st2 := by
  unfold jf_F_hoursGoBy jf_F_hoursGoBy_2
  have key := xloop_rel (σ1 := (Nat → Int32) × (Nat → Int32) × (Nat → Int32) × (Nat → Int32) × (Nat → Int32) × Int32 × Int32) (σ2 := (Nat → Int32) × Int32) (fun (kh : ((Nat → Int32) × (Nat → Int32) × (Nat → Int32) × (Nat → Int32) × (Nat → Int32) × Int32 × Int32) → Option ((Nat → Int32) × (Nat → Int32) × (Nat → Int32) × (Nat → Int32) × (Nat → Int32) × Int32)) q => jf_F_hoursGoBy_2B N q.1 q.2.1 q.2.2.1 q.2.2.2.1 lwet q.2.2.2.2.1 q.2.2.2.2.2.1 gv.1 gv.2.1 gv.2.2.1 gv.2.2.2.2.1 gv.2.2.2.2.2.1 gv.2.2.2.2.2.2.1 gv.2.2.2.2.2.2.2.2 (nI n) q.2.2.2.2.2.2 kh) B2
    (fun r q1 q2 => ∃ i : Nat, i + r = n ∧ q1.2.2.2.2.2.2 = nI i ∧ q2.2 = nI i ∧ RPart (h + i) nc nk q1.1 q1.2.1 told q1.2.2.1 q1.2.2.2.1 lw lwet q1.2.2.2.2.1 q1.2.2.2.2.2.1 q2.1)
    (fun o1 o2 => ∃ (q : (Nat → Int32) × (Nat → Int32) × (Nat → Int32) × (Nat → Int32) × (Nat → Int32) × Int32) (st2 : Nat → Int32), o1 = some q ∧ o2 = kx2 st2 ∧ RPart (h + n) nc nk q.1 q.2.1 told q.2.2.1 q.2.2.2.1 lw lwet q.2.2.2.2.1 q.2.2.2.2.2 st2) ?_ n N N (lying, damp, heights, burnt, lheat, hours, 0) (st, 0) hn hn ⟨0, by omega, rfl, rfl, r⟩
  · exact key
  · intro r q1 q2 ⟨i, hi, g1, g2, g3⟩
    by_cases hr : r = 0
    · have hi : i = n := by omega
      subst hi
      refine Or.inr ⟨some (q1.1, q1.2.1, q1.2.2.1, q1.2.2.2.1, q1.2.2.2.2.1, q1.2.2.2.2.2.1), kx2 q2.1, ⟨(q1.1, q1.2.1, q1.2.2.1, q1.2.2.2.1, q1.2.2.2.2.1, q1.2.2.2.2.2.1), q2.1, rfl, rfl, g3⟩, fun kh => ?_, fun kh => ?_⟩
      · unfold jf_F_hoursGoBy_2B
        rw [g1, if_pos (nI_le (Nat.le_refl _) (by omega))]
      · rw [hB, g2, if_pos (nI_le (Nat.le_refl _) (by omega))]
    · obtain ⟨q, s2, p1, p2, p3, -⟩ := jf_hour hL hN (show h + i < 2 ^ 19 by omega) g3
      refine Or.inl ⟨r - 1, (q.1, q.2.1, q.2.2.1, q.2.2.2.1, q.2.2.2.2.1, q.2.2.2.2.2, nI (i + 1)), (s2, nI (i + 1)), by omega, ⟨i + 1, by omega, rfl, rfl, p3⟩, fun kh => ?_, fun kh => ?_⟩
      · unfold jf_F_hoursGoBy_2B
        rw [g1, if_neg (nI_ge (by omega) (by omega)), p1, jp_xb, jp_xl, nI_1]
      · rw [hB, g2, if_neg (nI_ge (by omega) (by omega)), p2, jp_xb, jp_xl, nI_1]
end HOUR

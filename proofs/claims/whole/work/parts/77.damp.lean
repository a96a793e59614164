section DAMP
variable {nm nc nk : Nat} {gv : jLV} {mowers cows ricks weathers : Int32} {says words weather kindOf thatch : Nat → Int32}
/-- how wet one swath is, an hour later -/
theorem jd_swath (hL : RLand nm nc nk gv mowers cows ricks weathers says words weather kindOf thatch) {h wv d m : Nat} (hh : h < 2 ^ 19) (hm : m < nm) (hd : d ≤ 99) (hwv : wv ≤ 3) {lying damp heights burnt lwet lheat : Nat → Int32} (e : damp m = nI d)
    (kx1 : ((Nat → Int32) × (Nat → Int32)) → Option ((Nat → Int32) × (Nat → Int32) × (Nat → Int32) × (Nat → Int32) × (Nat → Int32) × Int32)) :
    ∃ (q : (Nat → Int32) × (Nat → Int32)), jf_F_hourGoesBy_37 4000 lying damp heights burnt lwet lheat (nI h) gv.1 gv.2.1 gv.2.2.1 gv.2.2.2.2.1 gv.2.2.2.2.2.1 gv.2.2.2.2.2.2.1 gv.2.2.2.2.2.2.2.2 (nI wv) (0 : Int32) kx1 = kx1 q ∧ q.2 m = nI (if d + wv < 99 then d + wv else 99) := by
  have hm5 : nm ≤ 5 := hL.1.2.1
  unfold jf_F_hourGoesBy_37
  refine xloop_one _ (fun (r : Nat) (q : (Nat → Int32) × (Nat → Int32) × Int32) => ∃ i : Nat, i + r = nm ∧ q.2.2 = nI i ∧ q.2.1 m = nI (if i ≤ m then d else if d + wv < 99 then d + wv else 99)) (fun o => ∃ (q : (Nat → Int32) × (Nat → Int32)), o = kx1 q ∧ q.2 m = nI (if d + wv < 99 then d + wv else 99)) (fun r q h2 => ?_) nm 4000 _ (by omega) ⟨0, by omega, rfl, by rw [if_pos (Nat.zero_le _)]; exact e⟩
  obtain ⟨i, hi, g1, g2⟩ := h2
  by_cases hr : r = 0
  · refine Or.inr ⟨kx1 (q.1, q.2.1), ⟨(q.1, q.2.1), rfl, ?_⟩, fun kh => ?_⟩
    · rw [if_neg (by omega)] at g2
      exact g2
    · unfold jf_F_hourGoesBy_37B
      rw [hL.2.1.1, g1, if_pos (nI_le (by omega) (by omega))]
  · have hi5 : i < 5 := by omega
    obtain ⟨z, z1, z2, z3⟩ := jl_word hL (N := 4000) (m := i) (t := h) (by omega) (by omega)
    refine Or.inl ⟨r - 1, (upd q.1 i (q.1 i ||| ((1 : Int32) <<< (nI z &&& 31))), upd q.2.1 i (if q.2.1 i + nI wv < nI 99 then q.2.1 i + nI wv else nI 99), nI (i + 1)), by omega, ⟨i + 1, by omega, rfl, ?_⟩, fun kh => ?_⟩
    · show upd q.2.1 i (if q.2.1 i + nI wv < nI 99 then q.2.1 i + nI wv else nI 99) m = _
      by_cases hmi : m = i
      · subst hmi
        rw [if_pos (Nat.le_refl _)] at g2
        rw [upd_same, g2, nI_add, jn_ite_lt (by omega) (by omega), if_neg (show ¬ m + 1 ≤ m by omega)]
        by_cases hc : d + wv < 99
        · rw [if_pos hc, if_pos hc]
        · rw [if_neg hc, if_neg hc]
      · rw [upd_ne hmi, g2]
        by_cases hc : i ≤ m
        · rw [if_pos hc, if_pos (show i + 1 ≤ m by omega)]
        · rw [if_neg hc, if_neg (show ¬ i + 1 ≤ m by omega)]
    · unfold jf_F_hourGoesBy_37B
      rw [hL.2.1.1, g1, if_neg (nI_ge (by omega) (by omega)), jr_at hi5 (by decide), jp_xb, z2, jp_xb, jr_put hi5 (by decide), jp_xb, jr_at hi5 (by decide), jp_xb, jl99, jp_xl, jr_put hi5 (by decide), jp_xb, jp_xl, nI_1]
theorem jd_hour (hL : RLand nm nc nk gv mowers cows ricks weathers says words weather kindOf thatch) {h wv d m : Nat} (hh : h < 2 ^ 19) (hm : m < nm) (hd : d ≤ 99) (hwv : wv ≤ 3) (ew : jf_L_weatherOf 4000 gv.2.2.1 gv.2.2.2.2.2.1 (nI h) = some (nI wv)) {lying damp told heights burnt lw lwet lheat st : Nat → Int32} {hours : Int32} (r : RPart h nc nk lying damp told heights burnt lw lwet lheat hours st) (e : damp m = nI d) :
    ∃ q, jf_F_hourGoesBy 4000 lying damp heights burnt lwet lheat hours gv.1 gv.2.1 gv.2.2.1 gv.2.2.2.2.1 gv.2.2.2.2.2.1 gv.2.2.2.2.2.2.1 gv.2.2.2.2.2.2.2.2 = some q ∧ q.2.1 m = nI (if d + wv < 99 then d + wv else 99) := by
  obtain ⟨a, b, c, dd, ee⟩ := r
  have a1 : hours = nI h := a.1
  subst a1
  unfold jf_F_hourGoesBy
  obtain ⟨q, s1, p1, -⟩ := jf_ricks hL (N := 4000) (by decide) hh (lying := lying) (damp := damp) (hours := nI h) b ee (fun q1 => jf_F_hourGoesBy_26 4000 lying damp q1.1 q1.2.1 lwet q1.2.2 (nI h) gv.1 gv.2.1 gv.2.2.1 gv.2.2.2.2.1 gv.2.2.2.2.2.1 gv.2.2.2.2.2.2.1 gv.2.2.2.2.2.2.2.2) (fun _ => none)
  rw [p1]
  unfold jf_F_hourGoesBy_26
  obtain ⟨z, g1, g2⟩ := jd_swath hL hh hm hd hwv (lying := lying) (heights := q.1) (burnt := q.2.1) (lwet := lwet) (lheat := q.2.2) e (fun q2 => jf_F_hourGoesBy_102 4000 q2.1 q2.2 q.1 q.2.1 lwet q.2.2 (nI h) gv.1 gv.2.1 gv.2.2.1 gv.2.2.2.2.1 gv.2.2.2.2.2.1 gv.2.2.2.2.2.2.1 gv.2.2.2.2.2.2.2.2)
  rw [ew, jp_xb, g1]
  exact ⟨(z.1, z.2, q.1, q.2.1, q.2.2, nI h + 1), rfl, g2⟩
/-- how wet one swath is, n hours later -/
theorem jd_hours (hL : RLand nm nc nk gv mowers cows ricks weathers says words weather kindOf thatch) {h n d m : Nat} {rho : Nat → Nat} (hn : n < 4000) (hh : h + n < 2 ^ 19) (hm : m < nm) (hd : d ≤ 99) (hr : ∀ i, i < n → rho i ≤ 3 ∧ jf_L_weatherOf 4000 gv.2.2.1 gv.2.2.2.2.2.1 (nI (h + i)) = some (nI (rho i))) {lying damp told heights burnt lw lwet lheat st : Nat → Int32} {hours : Int32} (r : RPart h nc nk lying damp told heights burnt lw lwet lheat hours st) (e : damp m = nI d) :
    ∃ q, jf_F_hoursGoBy 4000 lying damp heights burnt lwet lheat hours gv.1 gv.2.1 gv.2.2.1 gv.2.2.2.2.1 gv.2.2.2.2.2.1 gv.2.2.2.2.2.2.1 gv.2.2.2.2.2.2.2.2 (nI n) = some q ∧ q.2.1 m = nI (jm99 (d + jZ rho n)) := by
  unfold jf_F_hoursGoBy jf_F_hoursGoBy_2
  refine xloop_one _ (fun (r : Nat) (q : (Nat → Int32) × (Nat → Int32) × (Nat → Int32) × (Nat → Int32) × (Nat → Int32) × Int32 × Int32) => ∃ (i : Nat) (s : Nat → Int32), i + r = n ∧ q.2.2.2.2.2.2 = nI i ∧ RPart (h + i) nc nk q.1 q.2.1 told q.2.2.1 q.2.2.2.1 lw lwet q.2.2.2.2.1 q.2.2.2.2.2.1 s ∧ q.2.1 m = nI (jm99 (d + jZ rho i))) (fun o => ∃ q : (Nat → Int32) × (Nat → Int32) × (Nat → Int32) × (Nat → Int32) × (Nat → Int32) × Int32, o = some q ∧ q.2.1 m = nI (jm99 (d + jZ rho n))) (fun r q h2 => ?_) n 4000 _ hn ⟨0, st, by omega, rfl, r, ?_⟩
  · obtain ⟨i, s, hi, g1, g2, g3⟩ := h2
    by_cases hr0 : r = 0
    · have hin : i = n := by omega
      subst hin
      refine Or.inr ⟨_, ⟨(q.1, q.2.1, q.2.2.1, q.2.2.2.1, q.2.2.2.2.1, q.2.2.2.2.2.1), rfl, g3⟩, fun kh => ?_⟩
      unfold jf_F_hoursGoBy_2B
      rw [g1, if_pos (nI_le (Nat.le_refl _) (by omega))]
    · obtain ⟨q', s2, p1, p2, p3, -⟩ := jf_hour hL (N := 4000) (by decide) (show h + i < 2 ^ 19 by omega) g2
      obtain ⟨w1, w2⟩ := hr i (by omega)
      obtain ⟨q2, k1, k2⟩ := jd_hour hL (show h + i < 2 ^ 19 by omega) hm (jm99_le _) w1 w2 g2 g3
      have eq : q2 = q' := Option.some.inj (k1.symm.trans p1)
      subst eq
      refine Or.inl ⟨r - 1, (q2.1, q2.2.1, q2.2.2.1, q2.2.2.2.1, q2.2.2.2.2.1, q2.2.2.2.2.2, nI (i + 1)), by omega, ⟨i + 1, s2, by omega, rfl, p3, ?_⟩, fun kh => ?_⟩
      · show q2.2.1 m = nI (jm99 (d + (jZ rho i + rho i)))
        rw [k2, jm99_add, Nat.add_assoc]
      · unfold jf_F_hoursGoBy_2B
        rw [g1, if_neg (nI_ge (by omega) (by omega)), p1, jp_xb, jp_xl, nI_1]
  · show damp m = nI (jm99 (d + 0))
    rw [e, Nat.add_zero]
    unfold jm99
    by_cases hc : d < 99
    · rw [if_pos hc]
    · rw [if_neg hc, show d = 99 by omega]
end DAMP

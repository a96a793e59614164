/-! the piles -/
def FEq (a b : jFV) : Prop := (∀ j, j < 5 → a.1 j = b.1 j) ∧ (∀ j, j < 5 → a.2.1 j = b.2.1 j) ∧ (∀ j, j < 4 → a.2.2.1 j = b.2.2.1 j) ∧ (∀ j, j < 3 → a.2.2.2.1 j = b.2.2.2.1 j) ∧ (∀ j, j < 3 → a.2.2.2.2.1 j = b.2.2.2.2.1 j) ∧ (∀ j, j < 24 → a.2.2.2.2.2.1 j = b.2.2.2.2.2.1 j) ∧ (∀ j, j < 24 → a.2.2.2.2.2.2.1 j = b.2.2.2.2.2.2.1 j) ∧ (∀ j, j < 24 → a.2.2.2.2.2.2.2.1 j = b.2.2.2.2.2.2.2.1 j) ∧ a.2.2.2.2.2.2.2.2 = b.2.2.2.2.2.2.2.2
theorem RField.cong {H nc nk : Nat} {fv fv2 : jFV} {st st2 : Nat → Int32} (r : RField H nc nk fv st) (e : FEq fv2 fv) (e2 : ∀ j, j < 93 → st2 j = st j) : RField H nc nk fv2 st2 := by
  obtain ⟨⟨h, a1, a2, a3, a4⟩, c, d, f⟩ := r
  obtain ⟨e_1, e_2, e_3, e_4, e_5, e_6, e_7, e_8, e_9⟩ := e
  refine ⟨⟨h, a1, e_9.trans a2, (e2 0 (by omega)).trans a3, fun k hk => ?_⟩, fun m hm => ?_, fun m hm => ?_, fun k hk => ?_⟩
  · obtain ⟨b, b1, b2, b3⟩ := a4 k hk
    exact ⟨b, b1, (e_5 k hk).trans b2, (e2 _ (by omega)).trans b3⟩
  · obtain ⟨⟨w, w1, w2, w3⟩, g, g1, g2, g3⟩ := c m hm
    exact ⟨⟨w, w1, (e_1 m hm).trans w2, (e2 _ (by omega)).trans w3⟩, g, g1, (e_2 m hm).trans g2, (e2 _ (by omega)).trans g3⟩
  · obtain ⟨w, w0, w1, w2, w3⟩ := d m hm
    exact ⟨w, w0, w1, (e_3 m hm).trans w2, (e2 _ (by omega)).trans w3⟩
  · obtain ⟨n, n1, n2, n3, n4, n5⟩ := f k hk
    refine ⟨n, n1, n2, (e_4 k hk).trans n3, (e2 _ (by omega)).trans n4, fun i hi => ?_⟩
    obtain ⟨⟨w, w1, w2, w3⟩, ⟨g, g1, g2, g3⟩, t, t1, t2, t3⟩ := n5 i hi
    exact ⟨⟨w, w1, (e_6 _ (by omega)).trans w2, (e2 _ (by omega)).trans w3⟩, ⟨g, g1, (e_7 _ (by omega)).trans g2, (e2 _ (by omega)).trans g3⟩, t, t1, (e_8 _ (by omega)).trans t2, (e2 _ (by omega)).trans t3⟩
theorem FEq.rfl {a : jFV} : FEq a a := ⟨fun _ _ => Eq.refl _, fun _ _ => Eq.refl _, fun _ _ => Eq.refl _, fun _ _ => Eq.refl _, fun _ _ => Eq.refl _, fun _ _ => Eq.refl _, fun _ _ => Eq.refl _, fun _ _ => Eq.refl _, Eq.refl _⟩
theorem jf_copyFrom {N : Nat} (hN : 24 < N) (a b : jFV) : ∃ q : jFV, jf_F_copyFrom N a.1 a.2.1 a.2.2.1 a.2.2.2.1 a.2.2.2.2.1 a.2.2.2.2.2.1 a.2.2.2.2.2.2.1 a.2.2.2.2.2.2.2.1 a.2.2.2.2.2.2.2.2 b.1 b.2.1 b.2.2.1 b.2.2.2.1 b.2.2.2.2.1 b.2.2.2.2.2.1 b.2.2.2.2.2.2.1 b.2.2.2.2.2.2.2.1 b.2.2.2.2.2.2.2.2 = some q ∧ FEq q b := by
  unfold jf_F_copyFrom
  obtain ⟨q1, e1, f1⟩ := jr_copy (N := N) (n := 5) b.1 a.1 (by omega) (by decide)
  obtain ⟨q2, e2, f2⟩ := jr_copy (N := N) (n := 5) b.2.1 a.2.1 (by omega) (by decide)
  obtain ⟨q3, e3, f3⟩ := jr_copy (N := N) (n := 4) b.2.2.1 a.2.2.1 (by omega) (by decide)
  obtain ⟨q4, e4, f4⟩ := jr_copy (N := N) (n := 3) b.2.2.2.1 a.2.2.2.1 (by omega) (by decide)
  obtain ⟨q5, e5, f5⟩ := jr_copy (N := N) (n := 3) b.2.2.2.2.1 a.2.2.2.2.1 (by omega) (by decide)
  obtain ⟨q6, e6, f6⟩ := jr_copy (N := N) (n := 24) b.2.2.2.2.2.1 a.2.2.2.2.2.1 (by omega) (by decide)
  obtain ⟨q7, e7, f7⟩ := jr_copy (N := N) (n := 24) b.2.2.2.2.2.2.1 a.2.2.2.2.2.2.1 (by omega) (by decide)
  obtain ⟨q8, e8, f8⟩ := jr_copy (N := N) (n := 24) b.2.2.2.2.2.2.2.1 a.2.2.2.2.2.2.2.1 (by omega) (by decide)
  rw [e1, jp_xb, e2, jp_xb, e3, jp_xb, e4, jp_xb, e5, jp_xb, e6, jp_xb, e7, jp_xb, e8, jp_xb]
  exact ⟨_, rfl, f1, f2, f3, f4, f5, f6, f7, f8, rfl⟩
theorem jp_newest {N M q : Nat} (hq : q < M) (hM : M < 2 ^ 30) : jf_P_newestField N M (nI q) = some (some q) := by
  unfold jf_P_newestField
  rw [if_neg (nI_pos (by omega)), if_neg (nI_ge hq (by omega)), jp_xr hq (by omega), nI_clamp (by omega)]
/-- one more field onto the ring -/
theorem jp_push {N M q n : Nat} (hN : 24 < N) (hM : M < 2 ^ 30) (h0 : 2 ≤ M) (hq : q < M) (hn : n ≤ M) (v : Nat → jFV) (b : jFV) :
    ∃ o : jFV, jf_P_push N M (nI q) (nI n) v b.1 b.2.1 b.2.2.1 b.2.2.2.1 b.2.2.2.2.1 b.2.2.2.2.2.1 b.2.2.2.2.2.2.1 b.2.2.2.2.2.2.2.1 b.2.2.2.2.2.2.2.2 = some (nI (if M ≤ q + 1 then 0 else q + 1), nI (if n + 1 < M then n + 1 else M), va_up v (if M ≤ q + 1 then 0 else q + 1) o) ∧ FEq o b := by
  have key : ∀ z : Nat, z < M → ∃ o : jFV, jf_P_push_25 N M (nI q) (nI n) v b.1 b.2.1 b.2.2.1 b.2.2.2.1 b.2.2.2.2.1 b.2.2.2.2.2.1 b.2.2.2.2.2.2.1 b.2.2.2.2.2.2.2.1 b.2.2.2.2.2.2.2.2 (nI z) = some (nI z, nI (if n + 1 < M then n + 1 else M), va_up v z o) ∧ FEq o b := by
    intro z hz
    obtain ⟨o, e1, e2⟩ := jf_copyFrom hN (v z) b
    refine ⟨o, ?_, e2⟩
    unfold jf_P_push_25 jf_P_push_42
    rw [jp_newest hz hM, jp_xb]
    show xg (z < M) _ = _
    rw [jp_xg hz, e1, jp_xb, nI_1, jn_ite_lt (by omega) (by omega), jp_xl]
    by_cases hc : n + 1 < M
    · rw [if_pos hc, if_pos hc]
    · rw [if_neg hc, if_neg hc]
  unfold jf_P_push
  rw [nI_1, jn_ite_le (by omega) (by omega)]
  by_cases hc : M ≤ q + 1
  · obtain ⟨o, e1, e2⟩ := key 0 (by omega)
    refine ⟨o, ?_, e2⟩
    rw [if_pos hc, if_pos hc]
    exact e1
  · obtain ⟨o, e1, e2⟩ := key (q + 1) (by omega)
    refine ⟨o, ?_, e2⟩
    rw [if_neg hc, if_neg hc]
    exact e1
/-- a loop that fills a part of a row: 93 places at 93 p -/
theorem jm_note51 {N p : Nat} (hN : 93 < N) (hp : p < 8) (st past : Nat → Int32) (kx : (Nat → Int32) → Option (Int32 × (Nat → Int32))) : ∃ r, jf_M_note_51 N st (nI p) past (0 : Int32) kx = kx r ∧ (∀ j, j < 93 → r (93 * p + j) = st j) ∧ ∀ j, j < 93 * p → r j = past j := by
  unfold jf_M_note_51
  refine xloop_one _ (fun (r : Nat) (q : (Nat → Int32) × Int32) => ∃ i : Nat, i + r = 93 ∧ q.2 = nI i ∧ (∀ j, j < i → q.1 (93 * p + j) = st j) ∧ ∀ j, j < 93 * p → q.1 j = past j) (fun (o : Option (Int32 × (Nat → Int32))) => ∃ r, o = kx r ∧ (∀ j, j < 93 → r (93 * p + j) = st j) ∧ ∀ j, j < 93 * p → r j = past j) (fun r q h => ?_) 93 N _ hN ⟨0, by omega, rfl, fun j hj => by omega, fun j _ => rfl⟩
  obtain ⟨i, hi, h2, h3, h4⟩ := h
  by_cases hr : r = 0
  · refine Or.inr ⟨kx q.1, ⟨q.1, rfl, fun j hj => h3 j (by omega), h4⟩, fun k => ?_⟩
    unfold jf_M_note_51B
    rw [h2, jl93, if_pos (nI_le (by omega) (by omega))]
  · refine Or.inl ⟨r - 1, (upd q.1 (93 * p + i) (st i), nI (i + 1)), by omega, ⟨i + 1, by omega, rfl, fun j hj => ?_, fun j hj => ?_⟩, fun k => ?_⟩
    · show upd q.1 _ _ _ = _
      by_cases hj2 : j = i
      · rw [hj2, upd_same]
      · rw [upd_ne (by omega)]; exact h3 j (by omega)
    · show upd q.1 _ _ _ = _
      rw [upd_ne (by omega)]; exact h4 j hj
    · unfold jf_M_note_51B
      rw [h2, jl93, if_neg (nI_ge (by omega) (by decide)), jp_xr (by omega) (by decide), pk_mul, nI_add, jp_xr (by omega) (by decide), nI_clamp (by omega), nI_clamp (by omega), jp_xl, jp_xl, nI_1]
theorem jm_note11 {N : Nat} (hN : 651 < N) (st past : Nat → Int32) (pasts : Int32) (kx : (Nat → Int32) → Option (Int32 × (Nat → Int32))) : ∃ r, jf_M_note_11 N st pasts past (0 : Int32) kx = kx r ∧ ∀ j, j < 651 → r j = past (j + 93) := by
  unfold jf_M_note_11
  refine xloop_one _ (fun (r : Nat) (q : (Nat → Int32) × Int32) => ∃ i : Nat, i + r = 651 ∧ q.2 = nI i ∧ (∀ j, j < i → q.1 j = past (j + 93)) ∧ ∀ j, i ≤ j → q.1 j = past j) (fun (o : Option (Int32 × (Nat → Int32))) => ∃ r, o = kx r ∧ ∀ j, j < 651 → r j = past (j + 93)) (fun r q h => ?_) 651 N _ hN ⟨0, by omega, rfl, fun j hj => by omega, fun j _ => rfl⟩
  obtain ⟨i, hi, h2, h3, h4⟩ := h
  by_cases hr : r = 0
  · refine Or.inr ⟨kx q.1, ⟨q.1, rfl, fun j hj => h3 j (by omega)⟩, fun k => ?_⟩
    unfold jf_M_note_11B
    rw [h2, jl651, if_pos (nI_le (by omega) (by omega))]
  · refine Or.inl ⟨r - 1, (upd q.1 i (past (i + 93)), nI (i + 1)), by omega, ⟨i + 1, by omega, rfl, fun j hj => ?_, fun j hj => ?_⟩, fun k => ?_⟩
    · show upd q.1 _ _ _ = _
      by_cases hj2 : j = i
      · rw [hj2, upd_same]
      · rw [upd_ne hj2]; exact h3 j (by omega)
    · show upd q.1 _ _ _ = _
      rw [upd_ne (by omega)]; exact h4 j (by omega)
    · unfold jf_M_note_11B
      rw [h2, jl651, if_neg (nI_ge (by omega) (by decide)), jl93, nI_add, jp_xr (by omega) (by decide), jp_xr (by omega) (by decide), nI_clamp (by omega), nI_clamp (by omega), h4 (i + 93) (by omega), jp_xl, jp_xl, nI_1]
/-- a state noted: the newest last, at most eight -/
theorem jm_note {N n : Nat} (hN : 651 < N) (hn : n ≤ 8) (st past : Nat → Int32) : ∃ r, jf_M_note N st (nI n) past = some (nI (if n + 1 < 8 then n + 1 else 8), r) ∧ (∀ j, j < 93 → r (93 * (if n = 8 then 7 else n) + j) = st j) ∧ ∀ b j, b < (if n = 8 then 7 else n) → j < 93 → r (93 * b + j) = past (93 * (if n = 8 then b + 1 else b) + j) := by
  unfold jf_M_note
  by_cases h8 : n = 8
  · subst h8
    obtain ⟨r1, e1, e2⟩ := jm_note11 hN st past (nI 8) (fun q1 => jf_M_note_39 N st (nI 8) q1)
    obtain ⟨r2, g1, g2, g3⟩ := jm_note51 (p := 7) (show 93 < N by omega) (by omega) st r1 (fun q1 => jf_M_note_83 N st (nI 7) q1)
    refine ⟨r2, ?_, g2, fun b j hb hj => ?_⟩
    · rw [jl8, if_pos rfl, e1]
      unfold jf_M_note_39 jf_M_note_49
      rw [jl1, jn_sub (by omega), jp_xl, show 8 - 1 = 7 from rfl, g1]
      unfold jf_M_note_83
      rw [nI_1, jp_xl]
      rfl
    · have hb : b < 7 := hb
      rw [g3 _ (by omega), e2 _ (by omega), if_pos rfl, show 93 * b + j + 93 = 93 * (b + 1) + j by omega]
  · obtain ⟨r2, g1, g2, g3⟩ := jm_note51 (p := n) (show 93 < N by omega) (by omega) st past (fun q1 => jf_M_note_83 N st (nI n) q1)
    rw [if_neg h8]
    refine ⟨r2, ?_, g2, fun b j hb hj => ?_⟩
    · rw [jl8, if_neg (fun q => h8 ((nI_eq (by omega) (by decide)).mp q))]
      unfold jf_M_note_49
      rw [g1]
      unfold jf_M_note_83
      rw [nI_1, jp_xl]
      by_cases hc : n + 1 < 8
      · rw [if_pos hc]
      · rw [if_neg hc, show n + 1 = 8 by omega]
    · rw [if_neg h8, g3 _ (by omega)]
theorem RPile.push {nc nk : Nat} {newest size : Int32} {v : Nat → jFV} {sz : Int32} {row : Nat → Int32} (r : RPile 8 nc nk newest size v sz row) {fv : jFV} {st : Nat → Int32} (hF : RField 999 nc nk fv st) {N : Nat} (hN : 651 < N) :
    ∃ (o1 : Int32 × Int32 × (Nat → jFV)) (o2 : Int32 × (Nat → Int32)), jf_P_push N 8 newest size v fv.1 fv.2.1 fv.2.2.1 fv.2.2.2.1 fv.2.2.2.2.1 fv.2.2.2.2.2.1 fv.2.2.2.2.2.2.1 fv.2.2.2.2.2.2.2.1 fv.2.2.2.2.2.2.2.2 = some o1 ∧ jf_M_note N st sz row = some o2 ∧ RPile 8 nc nk o1.1 o1.2.1 o1.2.2 o2.1 o2.2 := by
  obtain ⟨q, n, hq, hn, e1, e2, e3, h⟩ := r
  subst e1
  subst e2
  subst e3
  obtain ⟨o, a1, a2⟩ := jp_push (N := N) (M := 8) (by omega) (by decide) (by decide) hq hn v fv
  obtain ⟨rr, b1, b2, b3⟩ := jm_note hN hn st row
  refine ⟨_, _, a1, b1, (if 8 ≤ q + 1 then 0 else q + 1), (if n + 1 < 8 then n + 1 else 8), by split <;> omega, by split <;> omega, rfl, rfl, rfl, fun j hj => ?_⟩
  show RField 999 nc nk (va_up v (if 8 ≤ q + 1 then 0 else q + 1) o (((if 8 ≤ q + 1 then 0 else q + 1) + 8 - j) % 8)) (fun t => rr (93 * ((if n + 1 < 8 then n + 1 else 8) - 1 - j) + t))
  by_cases hj0 : j = 0
  · subst hj0
    rw [show ((if 8 ≤ q + 1 then 0 else q + 1) + 8 - 0) % 8 = (if 8 ≤ q + 1 then 0 else q + 1) by split <;> omega, va_up_self]
    refine hF.cong a2 (fun t ht => ?_)
    show rr _ = _
    rw [show (if n + 1 < 8 then n + 1 else 8) - 1 - 0 = (if n = 8 then 7 else n) by split <;> split <;> omega]
    exact b2 t ht
  · have hj8 : j < 8 := by
      revert hj
      split <;> omega
    rw [va_up_ne v o (show ((if 8 ≤ q + 1 then 0 else q + 1) + 8 - j) % 8 ≠ (if 8 ≤ q + 1 then 0 else q + 1) by split <;> omega), show ((if 8 ≤ q + 1 then 0 else q + 1) + 8 - j) % 8 = (q + 8 - (j - 1)) % 8 by split <;> omega]
    have hj1 : j - 1 < n := by
      revert hj
      split <;> omega
    refine (h (j - 1) hj1).cong FEq.rfl (fun t ht => ?_)
    show rr _ = row _
    rw [b3 ((if n + 1 < 8 then n + 1 else 8) - 1 - j) t (by revert hj; split <;> split <;> omega) ht]
    congr 1
    by_cases h8 : n = 8
    · rw [if_pos h8, if_neg (by omega)]
      omega
    · rw [if_neg h8]
      by_cases hc : n + 1 < 8
      · rw [if_pos hc]; omega
      · rw [if_neg hc]; omega

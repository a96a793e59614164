/-! raking -/
theorem jf_lying {N a b : Nat} {lying damp st : Nat → Int32} (hN : 8 < N) (c : RSwa lying damp st) (hab : a ≤ b) (hb : b < 5) : ∃ w, w < 1024 ∧ jf_F_lyingIn N lying (nI a) (nI b) = some (nI w) ∧ jf_M_lying N st (nI a) (nI b) = some (nI w) := by
  unfold jf_F_lyingIn jf_M_lying jf_F_lyingIn_5 jf_M_lying_5
  refine xloop_rel (σ1 := Int32 × Int32) (σ2 := Int32 × Int32) (fun (kh : (Int32 × Int32) → Option (Int32)) q => jf_F_lyingIn_5B N lying (nI b) q.1 q.2 kh) (fun (kh : (Int32 × Int32) → Option (Int32)) q => jf_M_lying_5B N st (nI b) q.1 q.2 kh)
    (fun r q1 q2 => q1 = q2 ∧ ∃ i w : Nat, i + r = b + 1 ∧ q1 = (nI w, nI i) ∧ w < 1024)
    (fun o1 o2 => ∃ w, w < 1024 ∧ o1 = some (nI w) ∧ o2 = some (nI w)) ?_ (b + 1 - a) N N (0, nI a) (0, nI a) (by omega) (by omega) ⟨rfl, a, 0, by omega, rfl, by decide⟩
  intro r q1 q2 ⟨hq, i, w, hi, e, hw⟩
  subst hq
  subst e
  by_cases hr : r = 0
  · refine Or.inr ⟨some (nI w), some (nI w), ⟨w, hw, rfl, rfl⟩, fun kh => ?_, fun kh => ?_⟩
    · unfold jf_F_lyingIn_5B
      rw [if_pos (nI_lt (by omega) (by omega))]
    · unfold jf_M_lying_5B
      rw [if_pos (nI_lt (by omega) (by omega))]
  · obtain ⟨⟨u, u1, u2, u3⟩, -⟩ := c i (by omega)
    refine Or.inl ⟨r - 1, (nI (w ||| u), nI (i + 1)), _, by omega, ⟨rfl, i + 1, w ||| u, by omega, rfl, jb_or_lt hw u1⟩, fun kh => ?_, fun kh => ?_⟩
    · unfold jf_F_lyingIn_5B
      rw [if_neg (nI_nlt (by omega) (by omega)), jl5, if_neg (nI_ge (by omega) (by decide)), jr_at (by omega) (by decide), jp_xb, u2, jb_or, jp_xl, jp_xl, nI_1]
    · unfold jf_M_lying_5B
      rw [if_neg (nI_nlt (by omega) (by omega)), jl1, nI_add, jp_xr (by omega) (by decide), nI_clamp (by omega), u3, jb_or, jp_xl, jp_xl, nI_add]
def jS (d : Nat → Nat) (a : Nat) : Nat → Nat
  | 0 => 0
  | n + 1 => jS d a n + d (a + n)
theorem jS_le {d : Nat → Nat} {a : Nat} (h : ∀ m, m < 5 → d m ≤ 99) : ∀ n, a + n ≤ 5 → jS d a n ≤ 99 * n
  | 0, _ => by show 0 ≤ _; omega
  | n + 1, hn => by
    have := jS_le (a := a) h n (by omega)
    have := h (a + n) (by omega)
    show jS d a n + d (a + n) ≤ _
    omega
theorem jf_sum {N a b : Nat} {lying damp heights lw lwet lheat : Nat → Int32} {d : Nat → Nat} {x3 : Int32} (hN : 8 < N) (hd : ∀ m, m < 5 → d m ≤ 99 ∧ damp m = nI (d m)) (hab : a ≤ b) (hb : b < 5) (kx : Int32 → Option ((Nat → Int32) × (Nat → Int32) × (Nat → Int32) × (Nat → Int32) × (Nat → Int32) × (Nat → Int32))) :
    jf_F_gather_6 N lying damp heights lw lwet lheat (nI a) (nI b) x3 (0 : Int32) (nI a) kx = kx (nI (jS d a (b + 1 - a))) := by
  unfold jf_F_gather_6
  refine xloop_one _ (fun (r : Nat) (q : Int32 × Int32) => ∃ n : Nat, a + n + r = b + 1 ∧ q = (nI (jS d a n), nI (a + n))) (fun (o : Option ((Nat → Int32) × (Nat → Int32) × (Nat → Int32) × (Nat → Int32) × (Nat → Int32) × (Nat → Int32))) => o = kx (nI (jS d a (b + 1 - a)))) (fun r q h => ?_) (b + 1 - a) N _ (by omega) ⟨0, by omega, rfl⟩
  obtain ⟨n, hn, e⟩ := h
  subst e
  by_cases hr : r = 0
  · refine Or.inr ⟨kx (nI (jS d a n)), by rw [show n = b + 1 - a by omega], fun k => ?_⟩
    unfold jf_F_gather_6B
    rw [if_pos (nI_lt (by omega) (by omega))]
  · refine Or.inl ⟨r - 1, (nI (jS d a (n + 1)), nI (a + (n + 1))), by omega, ⟨n + 1, by omega, rfl⟩, fun k => ?_⟩
    unfold jf_F_gather_6B
    rw [if_neg (nI_nlt (by omega) (by omega)), jl5, if_neg (nI_ge (by omega) (by decide)), jr_at (by omega) (by decide), jp_xb, (hd _ (by omega)).2, nI_add, jp_xl, jp_xl, nI_1]
    rfl
theorem jf_clear {N a b : Nat} {lying damp heights lw lwet lheat : Nat → Int32} (hN : 8 < N) (hab : a ≤ b) (hb : b < 5) :
    ∃ l2 d2 : Nat → Int32, jf_F_gather_60 N lying damp heights lw lwet lheat (nI b) (nI a) = some (l2, d2, heights, lw, lwet, lheat) ∧ (∀ m, a ≤ m → m ≤ b → l2 m = nI 0 ∧ d2 m = nI 0) ∧ ∀ m, m < a ∨ b < m → l2 m = lying m ∧ d2 m = damp m := by
  unfold jf_F_gather_60
  refine xloop_one _ (fun (r : Nat) (q : (Nat → Int32) × (Nat → Int32) × Int32) => ∃ i : Nat, i + r = b + 1 ∧ a ≤ i ∧ q.2.2 = nI i ∧ (∀ m, a ≤ m → m < i → q.1 m = nI 0 ∧ q.2.1 m = nI 0) ∧ ∀ m, m < a ∨ i ≤ m → q.1 m = lying m ∧ q.2.1 m = damp m) (fun (o : Option ((Nat → Int32) × (Nat → Int32) × (Nat → Int32) × (Nat → Int32) × (Nat → Int32) × (Nat → Int32))) => ∃ l2 d2 : Nat → Int32, o = some (l2, d2, heights, lw, lwet, lheat) ∧ (∀ m, a ≤ m → m ≤ b → l2 m = nI 0 ∧ d2 m = nI 0) ∧ ∀ m, m < a ∨ b < m → l2 m = lying m ∧ d2 m = damp m) (fun r q h => ?_) (b + 1 - a) N _ (by omega) ⟨a, by omega, by omega, rfl, fun m _ _ => by omega, fun m _ => ⟨rfl, rfl⟩⟩
  obtain ⟨i, hi, hai, e, g1, g2⟩ := h
  by_cases hr : r = 0
  · refine Or.inr ⟨some (q.1, q.2.1, heights, lw, lwet, lheat), ⟨q.1, q.2.1, rfl, fun m h1 h2 => g1 m h1 (by omega), fun m h1 => g2 m (by omega)⟩, fun k => ?_⟩
    unfold jf_F_gather_60B
    rw [e, if_pos (nI_lt (by omega) (by omega))]
  · refine Or.inl ⟨r - 1, (upd q.1 i (nI 0), upd q.2.1 i (nI 0), nI (i + 1)), by omega, ⟨i + 1, by omega, by omega, rfl, fun m h1 h2 => ?_, fun m h1 => ?_⟩, fun k => ?_⟩
    · show upd _ _ _ _ = _ ∧ upd _ _ _ _ = _
      by_cases hm : m = i
      · subst hm
        exact ⟨upd_same, upd_same⟩
      · rw [upd_ne hm, upd_ne hm]
        exact g1 m h1 (by omega)
    · show upd _ _ _ _ = _ ∧ upd _ _ _ _ = _
      rw [upd_ne (by omega), upd_ne (by omega)]
      exact g2 m (by omega)
    · unfold jf_F_gather_60B
      rw [e, if_neg (nI_nlt (by omega) (by omega)), jl5, if_neg (nI_ge (by omega) (by decide)), jl0, jr_put (by omega) (by decide), jp_xb, jr_put (by omega) (by decide), jp_xb, nI_1, jp_xl]
theorem jm_gather {N a b : Nat} {st : Nat → Int32} {d : Nat → Nat} {x3 x4 : Int32} (hN : 8 < N) (hd : ∀ m, m < 5 → d m ≤ 99 ∧ st (6 + m) = nI (d m)) (hab : a ≤ b) (hb : b < 5) (kx : ((Nat → Int32) × Int32) → Option (Nat → Int32)) :
    ∃ s2 : Nat → Int32, jf_M_rakeIn_38 N st (nI b) x3 x4 (0 : Int32) (nI a) kx = kx (s2, nI (if jS d a (b + 1 - a) < 99 then jS d a (b + 1 - a) else 99)) ∧ (∀ m, a ≤ m → m ≤ b → s2 (1 + m) = nI 0 ∧ s2 (6 + m) = nI 0) ∧ (∀ m, m < 5 → m < a ∨ b < m → s2 (1 + m) = st (1 + m) ∧ s2 (6 + m) = st (6 + m)) ∧ s2 0 = st 0 ∧ ∀ j, 11 ≤ j → s2 j = st j := by
  unfold jf_M_rakeIn_38
  refine xloop_one _ (fun (r : Nat) (q : (Nat → Int32) × Int32 × Int32) => ∃ n : Nat, a + n + r = b + 1 ∧ q.2 = (nI (if jS d a n < 99 then jS d a n else 99), nI (a + n)) ∧ (∀ m, a ≤ m → m < a + n → q.1 (1 + m) = nI 0 ∧ q.1 (6 + m) = nI 0) ∧ (∀ m, m < 5 → m < a ∨ a + n ≤ m → q.1 (1 + m) = st (1 + m) ∧ q.1 (6 + m) = st (6 + m)) ∧ q.1 0 = st 0 ∧ ∀ j, 11 ≤ j → q.1 j = st j) (fun (o : Option (Nat → Int32)) => ∃ s2 : Nat → Int32, o = kx (s2, nI (if jS d a (b + 1 - a) < 99 then jS d a (b + 1 - a) else 99)) ∧ (∀ m, a ≤ m → m ≤ b → s2 (1 + m) = nI 0 ∧ s2 (6 + m) = nI 0) ∧ (∀ m, m < 5 → m < a ∨ b < m → s2 (1 + m) = st (1 + m) ∧ s2 (6 + m) = st (6 + m)) ∧ s2 0 = st 0 ∧ ∀ j, 11 ≤ j → s2 j = st j) (fun r q h => ?_) (b + 1 - a) N _ (by omega) ⟨0, by omega, rfl, fun m _ _ => by omega, fun m _ _ => ⟨rfl, rfl⟩, rfl, fun j _ => rfl⟩
  obtain ⟨n, hn, e, g1, g2, g3, g4⟩ := h
  have e1 : q.2.1 = nI (if jS d a n < 99 then jS d a n else 99) := by rw [e]
  have e2 : q.2.2 = nI (a + n) := by rw [e]
  have hS := jS_le (d := d) (a := a) (fun m hm => (hd m hm).1) n (by omega)
  by_cases hr : r = 0
  · refine Or.inr ⟨kx (q.1, q.2.1), ⟨q.1, by rw [e1, show n = b + 1 - a by omega], fun m h1 h2 => g1 m h1 (by omega), fun m h0 h1 => g2 m h0 (by omega), g3, g4⟩, fun k => ?_⟩
    unfold jf_M_rakeIn_38B
    rw [e2, if_pos (nI_lt (by omega) (by omega))]
  · have u := (g2 (a + n) (by omega) (by omega)).2
    obtain ⟨d1, d2⟩ := hd (a + n) (by omega)
    have hw := jm_wetter (N := N) (a := if jS d a n < 99 then jS d a n else 99) (b := d (a + n)) (by split <;> omega) (by omega)
    refine Or.inl ⟨r - 1, (upd (upd q.1 (1 + (a + n)) (nI 0)) (6 + (a + n)) (nI 0), nI (if jS d a (n + 1) < 99 then jS d a (n + 1) else 99), nI (a + (n + 1))), by omega, ⟨n + 1, by omega, rfl, fun m h1 h2 => ?_, fun m h0 h1 => ?_, ?_, fun j hj => ?_⟩, fun k => ?_⟩
    · show upd (upd _ _ _) _ _ _ = _ ∧ upd (upd _ _ _) _ _ _ = _
      by_cases hm : m = a + n
      · subst hm
        rw [upd_same, upd_ne (by omega), upd_same]
        exact ⟨rfl, rfl⟩
      · rw [upd_ne (by omega), upd_ne (by omega), upd_ne (by omega), upd_ne (by omega)]
        exact g1 m h1 (by omega)
    · show upd (upd _ _ _) _ _ _ = _ ∧ upd (upd _ _ _) _ _ _ = _
      rw [upd_ne (by omega), upd_ne (by omega), upd_ne (by omega), upd_ne (by omega)]
      exact g2 m h0 (by omega)
    · show upd (upd _ _ _) _ _ _ = _
      rw [upd_ne (by omega), upd_ne (by omega)]
      exact g3
    · show upd (upd _ _ _) _ _ _ = _
      rw [upd_ne (by omega), upd_ne (by omega)]
      exact g4 j hj
    · unfold jf_M_rakeIn_38B
      rw [e1, e2, if_neg (nI_nlt (by omega) (by omega)), jl6, jl1, nI_add, nI_add, jp_xr (by omega) (by decide), nI_clamp (by omega), nI_clamp (by omega), u, d2, hw, jp_xb, jp_xr (by omega) (by decide), jp_xl, jp_xr (by omega) (by decide), jp_xl, nI_add, jp_xl, jl0]
      congr 1
      show (_, nI _, nI (a + n + 1)) = (_, nI (if jS d a n + d (a + n) < 99 then jS d a n + d (a + n) else 99), nI (a + (n + 1)))
      rw [show (if (if jS d a n < 99 then jS d a n else 99) + d (a + n) < 99 then (if jS d a n < 99 then jS d a n else 99) + d (a + n) else 99) = (if jS d a n + d (a + n) < 99 then jS d a n + d (a + n) else 99) by (repeat' split) <;> omega]
      rfl
/-- one more layer on a rick -/
theorem RRic.add {nk k n w d t : Nat} {heights lw lwet lheat st st2 : Nat → Int32} (r : RRic nk heights lw lwet lheat st) (hk : k < 3) (hk2 : k < nk) (hn : n < 8) (e : heights k = nI n) (hw : w < 1024) (hd : d ≤ 99) (ht : t < 40) (e1 : st2 (15 + k) = nI (n + 1)) (e2 : st2 (21 + (8 * k + n)) = nI w) (e3 : st2 (45 + (8 * k + n)) = nI d) (e4 : st2 (69 + (8 * k + n)) = nI t)
    (e5 : ∀ j, (15 ≤ j ∧ j < 18) ∨ 21 ≤ j → j ≠ 15 + k → j ≠ 21 + (8 * k + n) → j ≠ 45 + (8 * k + n) → j ≠ 69 + (8 * k + n) → st2 j = st j) : RRic nk (upd heights k (nI (n + 1))) (upd lw (8 * k + n) (nI w)) (upd lwet (8 * k + n) (nI d)) (upd lheat (8 * k + n) (nI t)) st2 := by
  intro j hj
  obtain ⟨m, m1, m2, m3, m4, m5⟩ := r j hj
  by_cases hjk : j = k
  · subst hjk
    have hmn : m = n := (nI_eq (by omega) (by omega)).mp (m3.symm.trans e)
    subst hmn
    refine ⟨m + 1, by omega, fun z => by omega, upd_same, e1, fun i hi => ?_⟩
    by_cases him : i = m
    · subst him
      rw [upd_same, upd_same, upd_same]
      exact ⟨⟨w, hw, rfl, e2⟩, ⟨d, hd, rfl, e3⟩, t, ht, rfl, e4⟩
    · rw [upd_ne (by omega), upd_ne (by omega), upd_ne (by omega), e5 _ (by omega) (by omega) (by omega) (by omega) (by omega), e5 _ (by omega) (by omega) (by omega) (by omega) (by omega), e5 _ (by omega) (by omega) (by omega) (by omega) (by omega)]
      exact m5 i (by omega)
  · refine ⟨m, m1, m2, (upd_ne hjk).trans m3, (e5 _ (by omega) (by omega) (by omega) (by omega) (by omega)).trans m4, fun i hi => ?_⟩
    rw [upd_ne (by omega), upd_ne (by omega), upd_ne (by omega), e5 _ (by omega) (by omega) (by omega) (by omega) (by omega), e5 _ (by omega) (by omega) (by omega) (by omega) (by omega), e5 _ (by omega) (by omega) (by omega) (by omega) (by omega)]
    exact m5 i (by omega)

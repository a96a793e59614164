/-! PURE LAYER: words for the answers, loops, small rows -/
theorem jp_xl {α β : Type} {e : α} {B : α → β} : xl e B = B e := rfl
theorem jp_xb {α β : Type} {a : α} {B : α → Option β} : xb (some a) B = B a := rfl
theorem jp_xr {β : Type} {n N : Nat} {B : Option β} (h : n < N) (hN : N < 2 ^ 31) : xr (nI n) N B = B := by
  unfold xr
  rw [if_neg (vp_in_nI h hN)]
theorem jp_xr0 {β : Type} {N : Nat} {B : Option β} (h : 0 < N) (hN : N < 2 ^ 31) : xr (0 : Int32) N B = B := jp_xr (n := 0) h hN
theorem jp_xz {β : Type} {n : Nat} {B : Option β} (h : 0 < n) (hN : n < 2 ^ 31) : xz (nI n) B = B := by
  unfold xz
  rw [if_neg (nI_ne0 h hN)]
theorem jp_xo1 {β : Type} {B : Option β} : xo 1 B = B := rfl
theorem jp_xo0 {β : Type} {B : Option β} : xo 0 B = B := rfl
theorem jp_xg {β : Type} {P : Prop} {_ : Decidable P} {B : Option β} (h : P) : xg P B = B := by
  unfold xg
  rw [if_pos h]
/-- both loops walk side by side: they go on, or they leave, together -/
theorem xloop_rel {σ1 σ2 β1 β2 : Type} (B1 : (σ1 → Option β1) → σ1 → Option β1) (B2 : (σ2 → Option β2) → σ2 → Option β2) (I : Nat → σ1 → σ2 → Prop) (Post : Option β1 → Option β2 → Prop)
    (hs : ∀ r q1 q2, I r q1 q2 → (∃ r' q1' q2', r = r' + 1 ∧ I r' q1' q2' ∧ (∀ k, B1 k q1 = k q1') ∧ (∀ k, B2 k q2 = k q2')) ∨ (∃ o1 o2, Post o1 o2 ∧ (∀ k, B1 k q1 = o1) ∧ ∀ k, B2 k q2 = o2)) :
    ∀ r f1 f2 q1 q2, r < f1 → r < f2 → I r q1 q2 → Post (xloop B1 f1 q1) (xloop B2 f2 q2) := by
  intro r
  induction r with
  | zero =>
    intro f1 f2 q1 q2 h1 h2 hI
    cases f1 with
    | zero => omega
    | succ f1 =>
      cases f2 with
      | zero => omega
      | succ f2 =>
        rcases hs 0 q1 q2 hI with ⟨r', q1', q2', e, -⟩ | ⟨o1, o2, hp, e1, e2⟩
        · omega
        · rw [xloop, xloop, e1, e2]; exact hp
  | succ r ih =>
    intro f1 f2 q1 q2 h1 h2 hI
    cases f1 with
    | zero => omega
    | succ f1 =>
      cases f2 with
      | zero => omega
      | succ f2 =>
        rcases hs (r + 1) q1 q2 hI with ⟨r', q1', q2', e, hI', e1, e2⟩ | ⟨o1, o2, hp, e1, e2⟩
        · have : r' = r := by omega
          subst this
          rw [xloop, xloop, e1, e2]
          exact ih f1 f2 q1' q2' (by omega) (by omega) hI'
        · rw [xloop, xloop, e1, e2]; exact hp
/-- one loop: it goes on, or it leaves -/
theorem xloop_one {σ β : Type} (B : (σ → Option β) → σ → Option β) (I : Nat → σ → Prop) (Post : Option β → Prop)
    (hs : ∀ r q, I r q → (∃ r' q', r = r' + 1 ∧ I r' q' ∧ (∀ k, B k q = k q')) ∨ (∃ o, Post o ∧ ∀ k, B k q = o)) :
    ∀ r f q, r < f → I r q → Post (xloop B f q) := by
  intro r f q hr hI
  exact xloop_rel B B (fun r q1 q2 => q1 = q2 ∧ I r q1) (fun o _ => Post o) (fun r q1 q2 h => by
    rcases hs r q1 h.2 with ⟨r', q', e, h1, h2⟩ | ⟨o, h1, h2⟩
    · exact Or.inl ⟨r', q', q', e, ⟨rfl, h1⟩, h2, by rw [← h.1]; exact h2⟩
    · exact Or.inr ⟨o, o, h1, h2, by rw [← h.1]; exact h2⟩) r f f q q hr hr ⟨rfl, hI⟩
/-! arithmetic on small numbers -/
theorem jn_lit (n : Nat) : (OfNat.ofNat n : Int32) = nI n := rfl
theorem jn_sub {a b : Nat} (h : b ≤ a) : nI a - nI b = nI (a - b) := pk_sub h
theorem jn_rem {a d : Nat} (ha : a < 2 ^ 31) (h0 : 0 < d) (hd : d < 2 ^ 31) : nI a - nI a / nI d * nI d = nI (a % d) := pk_rem ha h0 hd
theorem jn_ite_le {β : Type} {a b : Nat} {x y : β} (ha : a < 2 ^ 31) (hb : b < 2 ^ 31) : (if nI a ≤ nI b then x else y) = if a ≤ b then x else y := by
  by_cases h : a ≤ b
  · rw [if_pos h, if_pos ((nI_leI ha hb).mpr h)]
  · rw [if_neg h, if_neg (fun q => h ((nI_leI ha hb).mp q))]
theorem jn_ite_lt {β : Type} {a b : Nat} {x y : β} (ha : a < 2 ^ 31) (hb : b < 2 ^ 31) : (if nI a < nI b then x else y) = if a < b then x else y := by
  by_cases h : a < b
  · rw [if_pos h, if_pos ((nI_ltI ha hb).mpr h)]
  · rw [if_neg h, if_neg (fun q => h ((nI_ltI ha hb).mp q))]
theorem jn_ite_eq {β : Type} {a b : Nat} {x y : β} (ha : a < 2 ^ 31) (hb : b < 2 ^ 31) : (if nI a = nI b then x else y) = if a = b then x else y := by
  by_cases h : a = b
  · rw [if_pos h, if_pos ((nI_eq ha hb).mpr h)]
  · rw [if_neg h, if_neg (fun q => h ((nI_eq ha hb).mp q))]
/-! Rows -/
theorem jr_at {N n i : Nat} {f : Nat → Int32} (h : i < n) (hn : n < 2 ^ 31) : jf_R_at N n f (nI i) = some (f i) := by
  unfold jf_R_at
  rw [if_neg (nI_pos (by omega)), if_neg (nI_ge h hn), jp_xr h hn, nI_clamp (by omega)]
theorem jr_put {N n i : Nat} {f : Nat → Int32} {v : Int32} (h : i < n) (hn : n < 2 ^ 31) : jf_R_put N n f (nI i) v = some (upd f i v) := by
  unfold jf_R_put
  rw [if_neg (nI_pos (by omega)), if_neg (nI_ge h hn), jp_xr h hn, nI_clamp (by omega)]
  rfl
theorem upd_same {f : Nat → Int32} {k : Nat} {x : Int32} : upd f k x k = x := pk_us
theorem upd_ne {f : Nat → Int32} {k j : Nat} {x : Int32} (h : j ≠ k) : upd f k x j = f j := pk_un h
theorem jr_copy {N n : Nat} (u0 u1 : Nat → Int32) (hn : n < N) (hN : n < 2 ^ 31) : ∃ r, jf_R_copy N n n u0 u1 = some r ∧ ∀ j, j < n → r j = u0 j := by
  unfold jf_R_copy jf_R_copy_2
  refine xloop_one _ (fun (r : Nat) (q : (Nat → Int32) × Int32) => ∃ i : Nat, i + r = n ∧ q.2 = nI i ∧ ∀ j, j < i → q.1 j = u0 j) (fun (o : Option (Nat → Int32)) => ∃ r, o = some r ∧ ∀ j, j < n → r j = u0 j) (fun r q h => ?_) n N _ hn ⟨0, by omega, rfl, fun j hj => by omega⟩
  obtain ⟨i, hi, h2, h3⟩ := h
  by_cases hr : r = 0
  · refine Or.inr ⟨some q.1, ⟨q.1, rfl, fun j hj => h3 j (by omega)⟩, fun k => ?_⟩
    unfold jf_R_copy_2B
    rw [h2, if_pos (nI_le (by omega) (by omega))]
  · refine Or.inl ⟨r - 1, (upd q.1 i (u0 i), nI (i + 1)), by omega, ⟨i + 1, by omega, rfl, fun j hj => ?_⟩, fun k => ?_⟩
    · show upd q.1 i (u0 i) j = u0 j
      by_cases hj2 : j = i
      · rw [hj2, upd_same]
      · rw [upd_ne hj2]; exact h3 j (by omega)
    · unfold jf_R_copy_2B
      rw [h2, if_neg (nI_ge (by omega) hN), if_neg (nI_ge (by omega) hN), jp_xr (by omega) hN, jp_xr (by omega) hN, nI_clamp (by omega), nI_1]
      rfl
theorem jm_take {N n : Nat} (u0 u1 : Nat → Int32) (hn : n < N) (hN : n < 2 ^ 31) : ∃ r, jf_M_take N n n u0 u1 = some r ∧ ∀ j, j < n → r j = u1 j := by
  unfold jf_M_take jf_M_take_2
  refine xloop_one _ (fun (r : Nat) (q : (Nat → Int32) × Int32) => ∃ i : Nat, i + r = n ∧ q.2 = nI i ∧ ∀ j, j < i → q.1 j = u1 j) (fun (o : Option (Nat → Int32)) => ∃ r, o = some r ∧ ∀ j, j < n → r j = u1 j) (fun r q h => ?_) n N _ hn ⟨0, by omega, rfl, fun j hj => by omega⟩
  obtain ⟨i, hi, h2, h3⟩ := h
  by_cases hr : r = 0
  · refine Or.inr ⟨some q.1, ⟨q.1, rfl, fun j hj => h3 j (by omega)⟩, fun k => ?_⟩
    unfold jf_M_take_2B
    rw [h2, if_pos (nI_le (by omega) (by omega))]
  · refine Or.inl ⟨r - 1, (upd q.1 i (u1 i), nI (i + 1)), by omega, ⟨i + 1, by omega, rfl, fun j hj => ?_⟩, fun k => ?_⟩
    · show upd q.1 i (u1 i) j = u1 j
      by_cases hj2 : j = i
      · rw [hj2, upd_same]
      · rw [upd_ne hj2]; exact h3 j (by omega)
    · unfold jf_M_take_2B
      rw [h2, if_neg (nI_ge (by omega) hN), jp_xr (by omega) hN, jp_xr (by omega) hN, nI_clamp (by omega), nI_1]
      rfl
/-! ranges -/
theorem jn_cmp_lt {a b : Int64} : lg_cmp a b < 0 ↔ a < b := by
  unfold lg_cmp
  by_cases h1 : b < a
  · have h2 : ¬ a < b := fun h => absurd (Int64.lt_iff_toInt_lt.mp h1) (by have := Int64.lt_iff_toInt_lt.mp h; omega)
    simp [h1, h2]
  · by_cases h2 : a = b
    · subst h2
      simp [h1]
    · have h3 : a < b := by
        rw [Int64.lt_iff_toInt_lt] at h1 ⊢
        have h4 : a.toInt ≠ b.toInt := fun h => h2 (Int64.toInt_inj.mp h)
        omega
      simp [h1, h2, h3]
theorem jn_cmp_gt {a b : Int64} : 0 < lg_cmp a b ↔ b < a := by
  unfold lg_cmp
  by_cases h1 : b < a
  · simp [h1]
  · by_cases h2 : a = b
    · subst h2
      simp [h1]
    · simp [h1, h2]
/-- in(x, a, b): x is one of a, .., b, or it isn't -/
theorem jm_in {N : Nat} (x : Int32) (a b : Nat) (hb : b < 2 ^ 31) (ha : a < 2 ^ 31) : (∃ j : Nat, a ≤ j ∧ j ≤ b ∧ x = nI j ∧ jf_M_in N (Int32.toInt64 x) (lN a) (lN b) = some 1) ∨ ((∀ j : Nat, a ≤ j → j ≤ b → x ≠ nI j) ∧ jf_M_in N (Int32.toInt64 x) (lN a) (lN b) = some 0) := by
  have e1 : (lN a).toInt = (a : Int) := lN_toInt ha
  have e2 : (lN b).toInt = (b : Int) := lN_toInt hb
  have e3 : (Int32.toInt64 x).toInt = x.toInt := by simp
  have k1 : lg_cmp (Int32.toInt64 x) (lN a) < 0 ↔ x.toInt < a := by rw [jn_cmp_lt, Int64.lt_iff_toInt_lt, e1, e3]
  have k2 : 0 < lg_cmp (Int32.toInt64 x) (lN b) ↔ (b : Int) < x.toInt := by rw [jn_cmp_gt, Int64.lt_iff_toInt_lt, e2, e3]
  unfold jf_M_in
  by_cases h1 : x.toInt < a
  · refine Or.inr ⟨fun j hj1 hj2 hx => ?_, by rw [if_pos (k1.mpr h1)]⟩
    rw [hx, nI_toInt (by omega)] at h1
    omega
  · by_cases h2 : (b : Int) < x.toInt
    · refine Or.inr ⟨fun j hj1 hj2 hx => ?_, by rw [if_neg (fun q => h1 (k1.mp q)), if_pos (k2.mpr h2)]⟩
      rw [hx, nI_toInt (by omega)] at h2
      omega
    · refine Or.inl ⟨x.toInt.toNat, by omega, by omega, ?_, by rw [if_neg (fun q => h1 (k1.mp q)), if_neg (fun q => h2 (k2.mp q))]⟩
      apply Int32.toInt_inj.mp
      rw [nI_toInt (by omega)]
      omega
theorem jh_within {N : Nat} (x : Int32) (a b : Nat) (hb : b < 2 ^ 31) (ha : a < 2 ^ 31) : (∃ j : Nat, a ≤ j ∧ j ≤ b ∧ x = nI j ∧ jf_H_isWithin N x (nI a) (nI b) = some 1) ∨ ((∀ j : Nat, a ≤ j → j ≤ b → x ≠ nI j) ∧ jf_H_isWithin N x (nI a) (nI b) = some 0) := by
  have e1 : (nI a).toInt = (a : Int) := nI_toInt ha
  have e2 : (nI b).toInt = (b : Int) := nI_toInt hb
  unfold jf_H_isWithin
  by_cases h1 : x < nI a
  · refine Or.inr ⟨fun j hj1 hj2 hx => ?_, by rw [if_pos h1]⟩
    rw [hx] at h1
    exact nI_nlt hj1 (by omega) h1
  · by_cases h2 : nI b < x
    · refine Or.inr ⟨fun j hj1 hj2 hx => ?_, by rw [if_neg h1, if_pos h2]⟩
      rw [hx] at h2
      exact nI_nlt hj2 hb h2
    · rw [Int32.lt_iff_toInt_lt, e1] at h1
      rw [Int32.lt_iff_toInt_lt, e2] at h2
      refine Or.inl ⟨x.toInt.toNat, by omega, by omega, ?_, by rw [if_neg (fun q => h1 (by rw [Int32.lt_iff_toInt_lt, e1] at q; exact q)), if_neg (fun q => h2 (by rw [Int32.lt_iff_toInt_lt, e2] at q; exact q))]⟩
      apply Int32.toInt_inj.mp
      rw [nI_toInt (by omega)]
      omega
theorem jl0 : (0 : Int32) = nI 0 := rfl
theorem jl1 : (1 : Int32) = nI 1 := rfl
theorem jl2 : (2 : Int32) = nI 2 := rfl
theorem jl3 : (3 : Int32) = nI 3 := rfl
theorem jl4 : (4 : Int32) = nI 4 := rfl
theorem jl5 : (5 : Int32) = nI 5 := rfl
theorem jl6 : (6 : Int32) = nI 6 := rfl
theorem jl7 : (7 : Int32) = nI 7 := rfl
theorem jl8 : (8 : Int32) = nI 8 := rfl
theorem jl9 : (9 : Int32) = nI 9 := rfl
theorem jl10 : (10 : Int32) = nI 10 := rfl
theorem jl11 : (11 : Int32) = nI 11 := rfl
theorem jl15 : (15 : Int32) = nI 15 := rfl
theorem jl18 : (18 : Int32) = nI 18 := rfl
theorem jl21 : (21 : Int32) = nI 21 := rfl
theorem jl24 : (24 : Int32) = nI 24 := rfl
theorem jl31 : (31 : Int32) = nI 31 := rfl
theorem jl32 : (32 : Int32) = nI 32 := rfl
theorem jl39 : (39 : Int32) = nI 39 := rfl
theorem jl40 : (40 : Int32) = nI 40 := rfl
theorem jl45 : (45 : Int32) = nI 45 := rfl
theorem jl48 : (48 : Int32) = nI 48 := rfl
theorem jl57 : (57 : Int32) = nI 57 := rfl
theorem jl59 : (59 : Int32) = nI 59 := rfl
theorem jl60 : (60 : Int32) = nI 60 := rfl
theorem jl69 : (69 : Int32) = nI 69 := rfl
theorem jl93 : (93 : Int32) = nI 93 := rfl
theorem jl99 : (99 : Int32) = nI 99 := rfl
theorem jl100 : (100 : Int32) = nI 100 := rfl
theorem jl101 : (101 : Int32) = nI 101 := rfl
theorem jl107 : (107 : Int32) = nI 107 := rfl
theorem jl109 : (109 : Int32) = nI 109 := rfl
theorem jl126 : (126 : Int32) = nI 126 := rfl
theorem jl200 : (200 : Int32) = nI 200 := rfl
theorem jl341 : (341 : Int32) = nI 341 := rfl
theorem jl651 : (651 : Int32) = nI 651 := rfl
theorem jl744 : (744 : Int32) = nI 744 := rfl
theorem jl999 : (999 : Int32) = nI 999 := rfl
theorem jl1023 : (1023 : Int32) = nI 1023 := rfl
theorem jl9999 : (9999 : Int32) = nI 9999 := rfl

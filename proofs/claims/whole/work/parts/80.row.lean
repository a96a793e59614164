/-! reading a text: rows of figures -/
theorem jt_fig : ∀ c, c < 128 → (xl (nI c - (48 : Int32)) (fun (v1 : Int32) => xb (jf_H_isWithin 4000 v1 (0 : Int32) (9 : Int32)) (fun q2 => if q2 = 0 then (some (-4 : Int32)) else (some v1)))) = some (if 48 ≤ c ∧ c ≤ 57 then nI (c - 48) else (-4 : Int32)) := by decide +kernel
theorem jt_h9 : ∀ c, c < 128 → jf_H_isWithin 4000 (if 48 ≤ c ∧ c ≤ 57 then nI (c - 48) else (-4 : Int32)) (0 : Int32) (nI 9) = some (if 48 ≤ c ∧ c ≤ 48 + 9 then 1 else 0) := by decide +kernel
theorem jt_h3 : ∀ c, c < 128 → jf_H_isWithin 4000 (if 48 ≤ c ∧ c ≤ 57 then nI (c - 48) else (-4 : Int32)) (0 : Int32) (nI 3) = some (if 48 ≤ c ∧ c ≤ 48 + 3 then 1 else 0) := by decide +kernel
theorem jt_m9 : ∀ c, c < 128 → jf_M_in 4000 (Int32.toInt64 (nI c)) (48 : Int64) (Int32.toInt64 ((48 : Int32) + nI 9)) = some (if 48 ≤ c ∧ c ≤ 48 + 9 then 1 else 0) := by decide +kernel
theorem jt_m3 : ∀ c, c < 128 → jf_M_in 4000 (Int32.toInt64 (nI c)) (48 : Int64) (Int32.toInt64 ((48 : Int32) + nI 3)) = some (if 48 ≤ c ∧ c ≤ 48 + 3 then 1 else 0) := by decide +kernel
theorem jt_l9 : ∀ L, L < 201 → jf_H_isWithin 4000 (nI L) (1 : Int32) (9 : Int32) = some (if 1 ≤ L ∧ L ≤ 9 then 1 else 0) ∧ jf_M_in 4000 (Int32.toInt64 (nI L)) (1 : Int64) (9 : Int64) = some (if 1 ≤ L ∧ L ≤ 9 then 1 else 0) := by decide +kernel
theorem jt_l2 : ∀ L, L < 201 → jf_H_isWithin 4000 (nI L) (1 : Int32) (2 : Int32) = some (if 1 ≤ L ∧ L ≤ 2 then 1 else 0) ∧ jf_M_in 4000 (Int32.toInt64 (nI L)) (1 : Int64) (2 : Int64) = some (if 1 ≤ L ∧ L ≤ 2 then 1 else 0) := by decide +kernel
/-- the letters, as numbers -/
def RLet (n : Nat) (tl text : Nat → Int32) (c : Nat → Nat) : Prop := n ≤ 200 ∧ ∀ j, j < n → c j < 128 ∧ tl j = nI (c j) ∧ text j = nI (c j)
/-- a figure from 0 to g -/
def jFi (g c : Nat) : Prop := 48 ≤ c ∧ c ≤ 48 + g
def jRow (g : Nat) (c : Nat → Nat) (a b : Nat) : Prop := (1 ≤ b - a ∧ b - a ≤ 9) ∧ ∀ j, j < b - a → jFi g (c (a + j))
section ROW
variable {n : Nat} {tl text : Nat → Int32} {c : Nat → Nat}
theorem jt_letter (hR : RLet n tl text c) {j : Nat} (hj : j < n) : jf_T_letterAt 4000 tl (nI n) (nI j) = some (nI (c j)) := by
  have h2 := hR.1
  unfold jf_T_letterAt
  rw [if_neg (nI_pos (by omega)), if_neg (nI_ge hj (by omega)), if_neg (nI_ge (by omega) (by omega)), jp_xr (by omega) (by decide), nI_clamp (by omega), (hR.2 j hj).2.1]
theorem jt_figure (hR : RLet n tl text c) {j : Nat} (hj : j < n) : jf_T_figureAt 4000 tl (nI n) (nI j) = some (if 48 ≤ c j ∧ c j ≤ 57 then nI (c j - 48) else (-4 : Int32)) := by
  unfold jf_T_figureAt
  rw [jt_letter hR hj, jp_xb]
  exact jt_fig (c j) (hR.2 j hj).1
theorem jt_hg {g k : Nat} (hg : g = 9 ∨ g = 3) (hk : k < 128) : jf_H_isWithin 4000 (if 48 ≤ k ∧ k ≤ 57 then nI (k - 48) else (-4 : Int32)) (0 : Int32) (nI g) = some (if 48 ≤ k ∧ k ≤ 48 + g then 1 else 0) := by
  rcases hg with rfl | rfl
  · exact jt_h9 k hk
  · exact jt_h3 k hk
theorem jt_mg {g k : Nat} (hg : g = 9 ∨ g = 3) (hk : k < 128) : jf_M_in 4000 (Int32.toInt64 (nI k)) (48 : Int64) (Int32.toInt64 ((48 : Int32) + nI g)) = some (if 48 ≤ k ∧ k ≤ 48 + g then 1 else 0) := by
  rcases hg with rfl | rfl
  · exact jt_m9 k hk
  · exact jt_m3 k hk
/-- the class reads a row -/
theorem jt_readRow (hR : RLet n tl text c) {g a b s n0 : Nat} (hg : g = 9 ∨ g = 3) (hab : a ≤ b) (hb : b ≤ n) (hs : s + 9 ≤ n0) (hn0 : n0 ≤ 45) (u0 : Nat → Int32) :
    (jRow g c a b ∧ ∃ u, jf_L_readRow 4000 n0 tl (nI n) u0 (nI a) (nI b) (nI g) (nI s) = some (1, u) ∧ (∀ j, j < b - a → u (s + j) = nI (c (a + j) - 48)) ∧ ∀ k, (k < s ∨ s + (b - a) ≤ k) → u k = u0 k) ∨
    (¬ jRow g c a b ∧ ∃ u, jf_L_readRow 4000 n0 tl (nI n) u0 (nI a) (nI b) (nI g) (nI s) = some (0, u)) := by
  have h2 := hR.1
  unfold jf_L_readRow
  rw [jn_sub hab, jp_xl, (jt_l9 (b - a) (by omega)).1, jp_xb]
  by_cases hL : 1 ≤ b - a ∧ b - a ≤ 9
  · rw [if_pos hL, if_neg (show ¬ (1 : Int32) = 0 by decide)]
    unfold jf_L_readRow_21
    refine xloop_one _ (fun (r : Nat) (q : (Nat → Int32) × Int32) => ∃ i : Nat, i + r = b - a ∧ q.2 = nI i ∧ (∀ j, j < i → jFi g (c (a + j))) ∧ (∀ j, j < i → q.1 (s + j) = nI (c (a + j) - 48)) ∧ ∀ k, (k < s ∨ s + (b - a) ≤ k) → q.1 k = u0 k) (fun (o : Option (Int32 × (Nat → Int32))) => (jRow g c a b ∧ ∃ u, o = some (1, u) ∧ (∀ j, j < b - a → u (s + j) = nI (c (a + j) - 48)) ∧ ∀ k, (k < s ∨ s + (b - a) ≤ k) → u k = u0 k) ∨ (¬ jRow g c a b ∧ ∃ u, o = some (0, u))) (fun r q h => ?_) (b - a) 4000 _ (by omega) ⟨0, by omega, rfl, fun j hj => by omega, fun j hj => by omega, fun k _ => rfl⟩
    obtain ⟨i, hi, g1, g2, g3, g4⟩ := h
    by_cases hr : r = 0
    · have hib : i = b - a := by omega
      subst hib
      refine Or.inr ⟨some (1, q.1), Or.inl ⟨⟨hL, g2⟩, q.1, rfl, g3, g4⟩, fun kh => ?_⟩
      unfold jf_L_readRow_21B
      rw [g1, if_pos (nI_le (Nat.le_refl _) (by omega))]
    · have hc := (hR.2 (a + i) (by omega)).1
      by_cases hf : jFi g (c (a + i))
      · have hf' : 48 ≤ c (a + i) ∧ c (a + i) ≤ 48 + g := hf
        refine Or.inl ⟨r - 1, (upd q.1 (s + i) (if 48 ≤ c (a + i) ∧ c (a + i) ≤ 57 then nI (c (a + i) - 48) else (-4 : Int32)), nI (i + 1)), by omega, ⟨i + 1, by omega, rfl, fun j hj => ?_, fun j hj => ?_, fun k hk => ?_⟩, fun kh => ?_⟩
        · by_cases hji : j = i
          · subst hji
            exact hf
          · exact g2 j (by omega)
        · show upd q.1 (s + i) (if 48 ≤ c (a + i) ∧ c (a + i) ≤ 57 then nI (c (a + i) - 48) else (-4 : Int32)) (s + j) = _
          by_cases hji : j = i
          · subst hji
            rw [upd_same, if_pos (by omega)]
          · rw [upd_ne (by omega)]
            exact g3 j (by omega)
        · show upd q.1 (s + i) _ k = u0 k
          rw [upd_ne (by omega)]
          exact g4 k hk
        · unfold jf_L_readRow_21B
          rw [g1, if_neg (nI_ge (by omega) (by omega)), nI_add, nI_add, jt_figure hR (by omega), jp_xb, jt_hg hg hc, jp_xb, if_pos hf', if_neg (show ¬ (1 : Int32) = 0 by decide), jr_put (by omega) (by omega), jp_xb, nI_1, jp_xl]
      · refine Or.inr ⟨some (0, q.1), Or.inr ⟨fun z => hf (z.2 i (by omega)), q.1, rfl⟩, fun kh => ?_⟩
        unfold jf_L_readRow_21B
        rw [g1, if_neg (nI_ge (by omega) (by omega)), nI_add, nI_add, jt_figure hR (by omega), jp_xb, jt_hg hg hc, jp_xb, if_neg (show ¬ (48 ≤ c (a + i) ∧ c (a + i) ≤ 48 + g) from hf), if_pos (show (0 : Int32) = 0 from rfl)]
  · rw [if_neg hL, if_pos (show (0 : Int32) = 0 from rfl)]
    exact Or.inr ⟨fun z => hL z.1, u0, rfl⟩
/-- the model looks at a row -/
theorem jt_isRow (hR : RLet n tl text c) {g a b : Nat} (hg : g = 9 ∨ g = 3) (hab : a ≤ b) (hb : b ≤ n) :
    (jRow g c a b ∧ jf_M_isRow 4000 text (nI a) (nI b) (nI g) = some 1) ∨ (¬ jRow g c a b ∧ jf_M_isRow 4000 text (nI a) (nI b) (nI g) = some 0) := by
  have h2 := hR.1
  unfold jf_M_isRow
  rw [jn_sub hab, (jt_l9 (b - a) (by omega)).2, jp_xb]
  unfold jf_M_isRow_16
  by_cases hL : 1 ≤ b - a ∧ b - a ≤ 9
  · rw [if_pos hL]
    refine xloop_one _ (fun (r : Nat) (q : Int32 × Int32) => ∃ i : Nat, i + r = b - a ∧ ((q = (1, nI (a + i)) ∧ ∀ j, j < i → jFi g (c (a + j))) ∨ (q = (0, nI (a + i)) ∧ ¬ jRow g c a b))) (fun (o : Option Int32) => (jRow g c a b ∧ o = some 1) ∨ (¬ jRow g c a b ∧ o = some 0)) (fun r q h => ?_) (b - a) 4000 _ (by omega) ⟨0, by omega, Or.inl ⟨rfl, fun j hj => by omega⟩⟩
    obtain ⟨i, hi, ⟨e, ha⟩ | ⟨e, ha⟩⟩ := h
    · subst e
      by_cases hr : r = 0
      · have hib : i = b - a := by omega
        subst hib
        refine Or.inr ⟨some 1, Or.inl ⟨⟨hL, ha⟩, rfl⟩, fun kh => ?_⟩
        unfold jf_M_isRow_16B
        rw [if_pos (nI_le (by omega) (by omega)), jp_xo1]
      · obtain ⟨c1, c2, c3⟩ := hR.2 (a + i) (by omega)
        refine Or.inl ⟨r - 1, ((if 48 ≤ c (a + i) ∧ c (a + i) ≤ 48 + g then 1 else 0), nI (a + (i + 1))), by omega, ⟨i + 1, by omega, ?_⟩, fun kh => ?_⟩
        · by_cases hf : 48 ≤ c (a + i) ∧ c (a + i) ≤ 48 + g
          · rw [if_pos hf]
            refine Or.inl ⟨rfl, fun j hj => ?_⟩
            by_cases hji : j = i
            · subst hji
              exact hf
            · exact ha j (by omega)
          · rw [if_neg hf]
            exact Or.inr ⟨rfl, fun z => hf (z.2 i (by omega))⟩
        · unfold jf_M_isRow_16B
          rw [if_neg (nI_ge (by omega) (by omega)), if_neg (show ¬ (1 : Int32) = 0 by decide), jp_xr (by omega) (by decide), nI_clamp (by omega), c3, jt_mg hg c1, jp_xb, nI_1, jp_xl, Nat.add_assoc]
    · subst e
      refine Or.inr ⟨some 0, Or.inr ⟨ha, rfl⟩, fun kh => ?_⟩
      unfold jf_M_isRow_16B
      rw [if_pos (show (0 : Int32) = 0 from rfl), jp_xo0, ite_self]
  · rw [if_neg hL]
    refine Or.inr ⟨fun z => hL z.1, ?_⟩
    refine xloop_one _ (fun (r : Nat) (q : Int32 × Int32) => q.1 = 0) (fun (o : Option Int32) => o = some 0) (fun r q h => ?_) 0 4000 _ (by decide) rfl
    refine Or.inr ⟨some 0, rfl, fun kh => ?_⟩
    unfold jf_M_isRow_16B
    rw [h, if_pos (show (0 : Int32) = 0 from rfl), jp_xo0, ite_self]
end ROW

section ROW2
variable {n : Nat} {tl text : Nat → Int32} {c : Nat → Nat}
theorem jt_write (hR : RLet n tl text c) {g a b s : Nat} (hg : g = 9 ∨ g = 3) (hrow : jRow g c a b) (hab : a ≤ b) (hb : b ≤ n) (hs : s ≤ 4) (newSays w0 : Nat → Int32) :
    ∃ w : Nat → Int32, ((∀ j, j < b - a → w (9 * s + j) = nI (c (a + j) - 48)) ∧ ∀ k, (k < 9 * s ∨ 9 * s + (b - a) ≤ k) → w k = w0 k) ∧ ∀ kx, jf_M_readMower_35 4000 text (nI s) newSays w0 (nI a) (nI b) (nI a) kx = kx w := by
  have h2 := hR.1
  have h9 := hrow.1
  unfold jf_M_readMower_35
  refine xloop_onex (σ := (Nat → Int32) × Int32) (fun (kx : (Nat → Int32) → Option (Int32 × Int32 × (Nat → Int32) × (Nat → Int32))) (kh : ((Nat → Int32) × Int32) → Option (Int32 × Int32 × (Nat → Int32) × (Nat → Int32))) q => jf_M_readMower_35B 4000 text (nI s) newSays q.1 (nI a) (nI b) q.2 kh kx)
    (fun r q => ∃ i : Nat, i + r = b - a ∧ q.2 = nI (a + i) ∧ (∀ j, j < i → q.1 (9 * s + j) = nI (c (a + j) - 48)) ∧ ∀ k, (k < 9 * s ∨ 9 * s + (b - a) ≤ k) → q.1 k = w0 k) (fun w => (∀ j, j < b - a → w (9 * s + j) = nI (c (a + j) - 48)) ∧ ∀ k, (k < 9 * s ∨ 9 * s + (b - a) ≤ k) → w k = w0 k) ?_ (b - a) 4000 (w0, nI a) (by omega) ⟨0, by omega, rfl, fun j hj => by omega, fun k _ => rfl⟩
  intro r q ⟨i, hi, g1, g2, g3⟩
  by_cases hr : r = 0
  · have hib : i = b - a := by omega
    subst hib
    refine Or.inr ⟨q.1, ⟨g2, g3⟩, fun kx kh => ?_⟩
    unfold jf_M_readMower_35B
    rw [g1, if_pos (nI_le (by omega) (by omega))]
  · obtain ⟨c1, c2, c3⟩ := hR.2 (a + i) (by omega)
    have hf := hrow.2 i (by omega)
    have hf' : 48 ≤ c (a + i) := hf.1
    refine Or.inl ⟨r - 1, (upd q.1 (9 * s + i) (nI (c (a + i) - 48)), nI (a + (i + 1))), by omega, ⟨i + 1, by omega, rfl, fun j hj => ?_, fun k hk => ?_⟩, fun kx kh => ?_⟩
    · show upd q.1 (9 * s + i) (nI (c (a + i) - 48)) (9 * s + j) = _
      by_cases hji : j = i
      · subst hji
        rw [upd_same]
      · rw [upd_ne (by omega)]
        exact g2 j (by omega)
    · show upd q.1 (9 * s + i) _ k = w0 k
      rw [upd_ne (by omega)]
      exact g3 k hk
    · unfold jf_M_readMower_35B
      rw [g1, if_neg (nI_ge (by omega) (by omega)), jp_xr (show a + i < 200 by omega) (by decide), jl9, pk_mul, nI_add, jn_sub (by omega), show 9 * s + (a + i) - a = 9 * s + i by omega, jp_xr (show 9 * s + i < 45 by omega) (by decide), nI_clamp (show a + i < 2 ^ 31 by omega), nI_clamp (show 9 * s + i < 2 ^ 31 by omega), c3, jl48, jn_sub hf', jp_xl, nI_1, jp_xl, Nat.add_assoc]
theorem jt_weather (hR : RLet n tl text c) {g a b : Nat} (hg : g = 9 ∨ g = 3) (hrow : jRow g c a b) (hab : a ≤ b) (hb : b ≤ n) (w0 : Nat → Int32) (x : Int32) :
    ∃ w : Nat → Int32, (∀ j, j < b - a → w j = nI (c (a + j) - 48)) ∧ jf_M_readWeather_21 4000 text x w0 (nI a) (nI b) (nI a) = some (1, x, w) := by
  have h2 := hR.1
  have h9 := hrow.1
  unfold jf_M_readWeather_21
  refine xloop_one _ (fun (r : Nat) (q : (Nat → Int32) × Int32) => ∃ i : Nat, i + r = b - a ∧ q.2 = nI (a + i) ∧ ∀ j, j < i → q.1 j = nI (c (a + j) - 48)) (fun (o : Option (Int32 × Int32 × (Nat → Int32))) => ∃ w : Nat → Int32, (∀ j, j < b - a → w j = nI (c (a + j) - 48)) ∧ o = some (1, x, w)) (fun r q h => ?_) (b - a) 4000 _ (by omega) ⟨0, by omega, rfl, fun j hj => by omega⟩
  obtain ⟨i, hi, g1, g2⟩ := h
  by_cases hr : r = 0
  · have hib : i = b - a := by omega
    subst hib
    refine Or.inr ⟨some (1, x, q.1), ⟨q.1, g2, rfl⟩, fun kh => ?_⟩
    unfold jf_M_readWeather_21B
    rw [g1, if_pos (nI_le (by omega) (by omega))]
  · obtain ⟨c1, c2, c3⟩ := hR.2 (a + i) (by omega)
    have hf := hrow.2 i (by omega)
    have hf' : 48 ≤ c (a + i) := hf.1
    refine Or.inl ⟨r - 1, (upd q.1 i (nI (c (a + i) - 48)), nI (a + (i + 1))), by omega, ⟨i + 1, by omega, rfl, fun j hj => ?_⟩, fun kh => ?_⟩
    · show upd q.1 i (nI (c (a + i) - 48)) j = _
      by_cases hji : j = i
      · subst hji
        rw [upd_same]
      · rw [upd_ne (by omega)]
        exact g2 j (by omega)
    · unfold jf_M_readWeather_21B
      rw [g1, if_neg (nI_ge (by omega) (by omega)), jp_xr (show a + i < 200 by omega) (by decide), jn_sub (by omega), show a + i - a = i by omega, jp_xr (show i < 9 by omega) (by decide), nI_clamp (show a + i < 2 ^ 31 by omega), nI_clamp (show i < 2 ^ 31 by omega), c3, jl48, jn_sub hf', jp_xl, nI_1, jp_xl, Nat.add_assoc]
/-- a number of one or two figures -/
theorem jt_number (hR : RLet n tl text c) {a b : Nat} (hab : a ≤ b) (hb : b ≤ n) :
    (∃ v, v < 100 ∧ jf_L_numberIn 4000 tl (nI n) (nI a) (nI b) = some (nI v) ∧ jf_M_numberOf 4000 text (nI a) (nI b) = some (nI v)) ∨ (jf_L_numberIn 4000 tl (nI n) (nI a) (nI b) = some (-4) ∧ jf_M_numberOf 4000 text (nI a) (nI b) = some (-1)) := by
  have h2 := hR.1
  have ok : ∀ i v (kh : (Int32 × Int32) → Option Int32), i < b - a → jFi 9 (c (a + i)) → jf_L_numberIn_22B 4000 tl (nI n) (nI a) (nI (b - a)) (nI v) (nI i) kh = kh (nI (10 * v + (c (a + i) - 48)), nI (i + 1)) := fun i v kh hi hf => by
    have hf' : 48 ≤ c (a + i) ∧ c (a + i) ≤ 57 := hf
    unfold jf_L_numberIn_22B
    rw [if_neg (nI_ge hi (by omega)), nI_add, jt_figure hR (by omega), jp_xb, if_pos hf', if_neg (jb_neg4 (by omega)), jl10, pk_mul, nI_add, jp_xl, nI_1, jp_xl]
  have no : ∀ i v (kh : (Int32 × Int32) → Option Int32), i < b - a → ¬ jFi 9 (c (a + i)) → jf_L_numberIn_22B 4000 tl (nI n) (nI a) (nI (b - a)) (nI v) (nI i) kh = some (-4) := fun i v kh hi hf => by
    have hf' : ¬ (48 ≤ c (a + i) ∧ c (a + i) ≤ 57) := hf
    unfold jf_L_numberIn_22B
    rw [if_neg (nI_ge hi (by omega)), nI_add, jt_figure hR (by omega), jp_xb, if_neg hf', if_pos rfl]
  have fin : ∀ v (kh : (Int32 × Int32) → Option Int32), jf_L_numberIn_22B 4000 tl (nI n) (nI a) (nI (b - a)) (nI v) (nI (b - a)) kh = some (nI v) := fun v kh => by
    unfold jf_L_numberIn_22B
    rw [if_pos (nI_le (Nat.le_refl _) (by omega))]
  by_cases hL : 1 ≤ b - a ∧ b - a ≤ 2
  · have eH : jf_L_numberIn 4000 tl (nI n) (nI a) (nI b) = jf_L_numberIn_22 4000 tl (nI n) (nI a) (nI (b - a)) (0 : Int32) (0 : Int32) := by
      unfold jf_L_numberIn
      rw [jn_sub hab, jp_xl, (jt_l2 (b - a) (by omega)).1, jp_xb, if_pos hL, if_neg (show ¬ (1 : Int32) = 0 by decide)]
    have eM0 : ¬ jRow 9 c a b → jf_M_numberOf 4000 text (nI a) (nI b) = some (-1) := fun hn => by
      unfold jf_M_numberOf
      rcases jt_isRow hR (g := 9) (Or.inl rfl) hab hb with ⟨q, -⟩ | ⟨-, q⟩
      · exact absurd q hn
      · rw [jn_sub hab, (jt_l2 (b - a) (by omega)).2, jp_xb, if_pos hL, if_neg (show ¬ (1 : Int32) = 0 by decide), show jf_M_isRow 4000 text (nI a) (nI b) (9 : Int32) = some 0 from q, jp_xb, if_pos (show (0 : Int32) = 0 from rfl)]
    have eM1 : jRow 9 c a b → jf_M_numberOf 4000 text (nI a) (nI b) = if nI (b - a) = (1 : Int32) then (xr (nI a) 200 (some ((text (Int32.toNatClampNeg (nI a))) - (48 : Int32)))) else (xr (nI a) 200 (xr (nI a + (1 : Int32)) 200 (some ((((10 : Int32) * ((text (Int32.toNatClampNeg (nI a))) - (48 : Int32))) + (text (Int32.toNatClampNeg (nI a + (1 : Int32))))) - (48 : Int32))))) := fun hn => by
      unfold jf_M_numberOf
      rcases jt_isRow hR (g := 9) (Or.inl rfl) hab hb with ⟨-, q⟩ | ⟨q, -⟩
      · rw [jn_sub hab, (jt_l2 (b - a) (by omega)).2, jp_xb, if_pos hL, if_neg (show ¬ (1 : Int32) = 0 by decide), show jf_M_isRow 4000 text (nI a) (nI b) (9 : Int32) = some 1 from q, jp_xb, if_neg (show ¬ (1 : Int32) = 0 by decide)]
      · exact absurd hn q
    rw [eH]
    unfold jf_L_numberIn_22
    by_cases f0 : jFi 9 (c (a + 0))
    · have f0' : 48 ≤ c a ∧ c a ≤ 48 + 9 := f0
      obtain ⟨a1, a2, a3⟩ := hR.2 a (by omega)
      by_cases h1 : b - a = 1
      · have hrow : jRow 9 c a b := ⟨by omega, fun j hj => by
          obtain rfl : j = 0 := (by omega)
          exact f0⟩
        refine Or.inl ⟨c a - 48, by omega, ?_, ?_⟩
        · refine xloop_seq _ (fun i => if i = 0 then (nI 0, nI 0) else (nI (c a - 48), nI 1)) 1 4000 _ (by decide) (fun i hi kh => ?_) (fun kh => ?_)
          · obtain rfl : i = 0 := (by omega)
            refine (ok 0 0 kh (by omega) f0).trans ?_
            show kh (nI (10 * 0 + (c a - 48)), nI (0 + 1)) = kh (nI (c a - 48), nI 1)
            rw [show 10 * 0 + (c a - 48) = c a - 48 by omega]
          · have := fin (c a - 48) kh
            rw [h1] at this
            rw [h1]
            exact this
        · rw [eM1 hrow, h1, if_pos (show nI 1 = (1 : Int32) from rfl), jp_xr (show a < 200 by omega) (by decide), nI_clamp (show a < 2 ^ 31 by omega), a3, jl48, jn_sub f0'.1]
      · by_cases f1 : jFi 9 (c (a + 1))
        · have f1' : 48 ≤ c (a + 1) ∧ c (a + 1) ≤ 48 + 9 := f1
          obtain ⟨b1, b2, b3⟩ := hR.2 (a + 1) (by omega)
          have hb2 : b - a = 2 := by omega
          have hrow : jRow 9 c a b := ⟨by omega, fun j hj => by
            rcases (show j = 0 ∨ j = 1 by omega) with rfl | rfl
            · exact f0
            · exact f1⟩
          refine Or.inl ⟨10 * (c a - 48) + (c (a + 1) - 48), by omega, ?_, ?_⟩
          · refine xloop_seq _ (fun i => if i = 0 then (nI 0, nI 0) else if i = 1 then (nI (c a - 48), nI 1) else (nI (10 * (c a - 48) + (c (a + 1) - 48)), nI 2)) 2 4000 _ (by decide) (fun i hi kh => ?_) (fun kh => ?_)
            · rcases (show i = 0 ∨ i = 1 by omega) with rfl | rfl
              · refine (ok 0 0 kh (by omega) f0).trans ?_
                show kh (nI (10 * 0 + (c a - 48)), nI (0 + 1)) = kh (nI (c a - 48), nI 1)
                rw [show 10 * 0 + (c a - 48) = c a - 48 by omega]
              · exact ok 1 (c a - 48) kh (by omega) f1
            · have := fin (10 * (c a - 48) + (c (a + 1) - 48)) kh
              rw [hb2] at this
              rw [hb2]
              exact this
          · rw [eM1 hrow, hb2, if_neg (show ¬ nI 2 = (1 : Int32) by decide), nI_1, jp_xr (show a < 200 by omega) (by decide), jp_xr (show a + 1 < 200 by omega) (by decide), nI_clamp (show a < 2 ^ 31 by omega), nI_clamp (show a + 1 < 2 ^ 31 by omega), a3, b3, jl48, jn_sub f0'.1, jl10, pk_mul, nI_add, jn_sub (by omega), show 10 * (c a - 48) + c (a + 1) - 48 = 10 * (c a - 48) + (c (a + 1) - 48) by omega]
        · refine Or.inr ⟨?_, eM0 (fun z => f1 (z.2 1 (by omega)))⟩
          refine xloop_seq _ (fun i => if i = 0 then (nI 0, nI 0) else (nI (c a - 48), nI 1)) 1 4000 _ (by decide) (fun i hi kh => ?_) (fun kh => ?_)
          · obtain rfl : i = 0 := (by omega)
            refine (ok 0 0 kh (by omega) f0).trans ?_
            show kh (nI (10 * 0 + (c a - 48)), nI (0 + 1)) = kh (nI (c a - 48), nI 1)
            rw [show 10 * 0 + (c a - 48) = c a - 48 by omega]
          · exact no 1 (c a - 48) kh (by omega) f1
    · refine Or.inr ⟨?_, eM0 (fun z => f0 (z.2 0 (by omega)))⟩
      exact xloop_seq _ (fun _ => (nI 0, nI 0)) 0 4000 _ (by decide) (fun i hi kh => by omega) (fun kh => no 0 0 kh (by omega) f0)
  · refine Or.inr ⟨?_, ?_⟩
    · unfold jf_L_numberIn
      rw [jn_sub hab, jp_xl, (jt_l2 (b - a) (by omega)).1, jp_xb, if_neg hL, if_pos (show (0 : Int32) = 0 from rfl)]
    · unfold jf_M_numberOf
      rw [jn_sub hab, (jt_l2 (b - a) (by omega)).2, jp_xb, if_neg hL, if_pos (show (0 : Int32) = 0 from rfl)]
end ROW2

/-- one loop that leaves by its exit -/
theorem xloop_onex {σ τ β : Type} (B : (τ → Option β) → (σ → Option β) → σ → Option β) (I : Nat → σ → Prop) (Post : τ → Prop)
    (hs : ∀ r q, I r q → (∃ r' q', r = r' + 1 ∧ I r' q' ∧ ∀ kx k, B kx k q = k q') ∨ (∃ t, Post t ∧ ∀ kx k, B kx k q = kx t)) :
    ∀ r f q, r < f → I r q → ∃ t, Post t ∧ ∀ kx, xloop (B kx) f q = kx t := by
  intro r f q hr hI
  obtain ⟨t1, t2, hp, h1, -⟩ := xloop_relx B B (fun r q1 q2 => q1 = q2 ∧ I r q1) (fun t1 _ => Post t1) (fun r q1 q2 h => by
    rcases hs r q1 h.2 with ⟨r', q', e, g1, g2⟩ | ⟨t, g1, g2⟩
    · exact Or.inl ⟨r', q', q', e, ⟨rfl, g1⟩, g2, by rw [← h.1]; exact g2⟩
    · exact Or.inr ⟨t, t, g1, g2, by rw [← h.1]; exact g2⟩) r f f q q hr hr ⟨rfl, hI⟩
  exact ⟨t1, hp, h1⟩
/-- what a cow of a kind hears of a set -/
def jH (kd w t : Nat) : Nat := ((jf_M_hears 4000 (nI kd) (nI w) (nI t)).getD 0).toNatClampNeg
theorem jH_spec {kd w t : Nat} (hk : kd ≤ 3) (hw : w < 1024) (ht : t < 1024) : jH kd w t < 1024 ∧ jf_H_heardBy 4000 (nI kd) (nI w) (nI t) = some (nI (jH kd w t)) ∧ jf_M_hears 4000 (nI kd) (nI w) (nI t) = some (nI (jH kd w t)) := by
  obtain ⟨u, u1, u2, u3⟩ := jb_hears hk hw ht
  have e : jH kd w t = u := by
    unfold jH
    rw [u3]
    exact nI_clamp (by omega)
  rw [e]
  exact ⟨u1, u2, u3⟩
/-- what it was told behind so many layers -/
def jT (kd : Nat) (W : Nat → Nat) (t : Nat) : Nat → Nat
  | 0 => t
  | i + 1 => jT kd W t i ||| jH kd (W i) (jT kd W t i)
theorem jT_lt {kd t : Nat} {W : Nat → Nat} (hk : kd ≤ 3) (hW : ∀ i, W i < 1024) (ht : t < 1024) : ∀ i, jT kd W t i < 1024 := by
  intro i
  induction i with
  | zero => exact ht
  | succ i ih => exact jb_or_lt ih (jH_spec hk (hW i) ih).1
/-- the layers of the ricks from the top, as numbers -/
def RTop (nk : Nat) (heights lw st : Nat → Int32) (n : Nat → Nat) (W : Nat → Nat → Nat) : Prop :=
  ∀ k, k < 3 → n k ≤ 8 ∧ (nk ≤ k → n k = 0) ∧ heights k = nI (n k) ∧ st (15 + k) = nI (n k) ∧ (∀ i, W k i < 1024) ∧ (∀ i, i < n k → lw (8 * k + (n k - 1 - i)) = nI (W k i) ∧ st (21 + (8 * k + (n k - 1 - i))) = nI (W k i)) ∧ ∀ i, n k ≤ i → W k i = 0
theorem RTop_of {nk : Nat} {heights lw lwet lheat st : Nat → Int32} (hR : RRic nk heights lw lwet lheat st) : ∃ n W, RTop nk heights lw st n W := by
  have x5 : ∀ k, ∃ n : Nat, k < 3 → n ≤ 8 ∧ (nk ≤ k → n = 0) ∧ heights k = nI n ∧ st (15 + k) = nI n ∧ ∀ i, i < n → ∃ w, w < 1024 ∧ lw (8 * k + i) = nI w ∧ st (21 + (8 * k + i)) = nI w := by
    intro k
    by_cases hk : k < 3
    · obtain ⟨n, n1, n2, n3, n4, n5⟩ := hR k hk
      exact ⟨n, fun _ => ⟨n1, n2, n3, n4, fun i hi => (n5 i hi).1⟩⟩
    · exact ⟨0, fun z => absurd z hk⟩
  obtain ⟨n, hn⟩ := Classical.axiomOfChoice x5
  refine ⟨n, fun k i => if k < 3 ∧ i < n k then (lw (8 * k + (n k - 1 - i))).toNatClampNeg else 0, fun k hk => ?_⟩
  obtain ⟨n1, n2, n3, n4, n5⟩ := hn k hk
  have key : ∀ i, i < n k → ∃ w, w < 1024 ∧ (if k < 3 ∧ i < n k then (lw (8 * k + (n k - 1 - i))).toNatClampNeg else 0) = w ∧ lw (8 * k + (n k - 1 - i)) = nI w ∧ st (21 + (8 * k + (n k - 1 - i))) = nI w := by
    intro i hi
    obtain ⟨w, w1, w2, w3⟩ := n5 (n k - 1 - i) (by omega)
    refine ⟨w, w1, ?_, w2, w3⟩
    rw [if_pos ⟨hk, hi⟩, w2, nI_clamp (by omega)]
  refine ⟨n1, n2, n3, n4, fun i => ?_, fun i hi => ?_, fun i hi => ?_⟩
  · show (if k < 3 ∧ i < n k then (lw (8 * k + (n k - 1 - i))).toNatClampNeg else 0) < 1024
    by_cases hi : i < n k
    · obtain ⟨w, w1, w2, -, -⟩ := key i hi
      rw [w2]
      exact w1
    · rw [if_neg (fun z => hi z.2)]
      decide
  · show lw (8 * k + (n k - 1 - i)) = nI (if k < 3 ∧ i < n k then (lw (8 * k + (n k - 1 - i))).toNatClampNeg else 0) ∧ st (21 + (8 * k + (n k - 1 - i))) = nI (if k < 3 ∧ i < n k then (lw (8 * k + (n k - 1 - i))).toNatClampNeg else 0)
    obtain ⟨w, w1, w2, w3, w4⟩ := key i hi
    rw [w2]
    exact ⟨w3, w4⟩
  · show (if k < 3 ∧ i < n k then (lw (8 * k + (n k - 1 - i))).toNatClampNeg else 0) = 0
    exact if_neg (fun z => by omega)
section TOLD
variable {nk : Nat} {heights lw st : Nat → Int32} {n : Nat → Nat} {W : Nat → Nat → Nat}
theorem jb_fromTop (hT : RTop nk heights lw st n W) {k i : Nat} (hk : k < 3) (hi : i < 2 ^ 20) : jf_F_wordsFromTop 4000 heights lw (nI k) (nI i) = some (nI (W k i)) := by
  obtain ⟨n1, n2, n3, n4, n5, n6, n7⟩ := hT k hk
  unfold jf_F_wordsFromTop
  rw [jf_hei hk n3, jp_xb]
  by_cases h : n k ≤ i
  · rw [if_pos (nI_le h (by omega)), n7 i h]
    rfl
  · rw [if_neg (nI_ge (by omega) (by omega)), jp_xb, jl1, jn_sub (by omega), jn_sub (by omega), jf_wor hk (by omega), jp_xb, (n6 i (by omega)).1]
theorem jb_told1 (hT : RTop nk heights lw st n W) {kd c k s m : Nat} {kindOf : Nat → Int32} (hkd : kd ≤ 3) (hc : c < 4) (ekd : kindOf c = nI kd) (hk : k < 3) (hs : s < 1024) (hm : m ≤ n k) (x2 x3 x4 : Int32) (kx : Int32 → Option Int32) :
    jf_M_toldBy_49 4000 (nI nk) kindOf st (nI c) x2 x3 x4 (nI s) (nI k) (nI m) (0 : Int32) kx = kx (nI (jT kd (W k) s m)) := by
  obtain ⟨n1, n2, n3, n4, n5, n6, n7⟩ := hT k hk
  unfold jf_M_toldBy_49
  refine xloop_seq _ (fun i => (nI (jT kd (W k) s i), nI i)) m 4000 _ (by omega) (fun i hi kh => ?_) (fun kh => ?_)
  · show jf_M_toldBy_49B 4000 (nI nk) kindOf st (nI c) x2 x3 x4 (nI (jT kd (W k) s i)) (nI k) (nI m) (nI i) kh kx = kh (nI (jT kd (W k) s i ||| jH kd (W k i) (jT kd (W k) s i)), nI (i + 1))
    have hlt := jT_lt hkd n5 hs i
    unfold jf_M_toldBy_49B
    rw [if_neg (nI_ge (by omega) (by omega)), jp_xr hc (by decide), nI_clamp (show c < 2 ^ 31 by omega), ekd, jl15, nI_add, jp_xr (show 15 + k < 93 by omega) (by decide), nI_clamp (show 15 + k < 2 ^ 31 by omega), n4, jl21, jl8, pk_mul, nI_add, nI_add, jl1, jn_sub (by omega), jn_sub (by omega), show 21 + 8 * k + n k - 1 - i = 21 + (8 * k + (n k - 1 - i)) by omega, jp_xr (show 21 + (8 * k + (n k - 1 - i)) < 93 by omega) (by decide), nI_clamp (show 21 + (8 * k + (n k - 1 - i)) < 2 ^ 31 by omega), (n6 i (by omega)).2, (jH_spec hkd (n5 i) hlt).2.2, jp_xb, jb_or, jp_xl, nI_add, jp_xl]
  · show jf_M_toldBy_49B 4000 (nI nk) kindOf st (nI c) x2 x3 x4 (nI (jT kd (W k) s m)) (nI k) (nI m) (nI m) kh kx = _
    unfold jf_M_toldBy_49B
    rw [if_pos (nI_le (Nat.le_refl _) (by omega))]
def jT3 (kd t : Nat) (W : Nat → Nat → Nat) (a b l : Nat) : Nat := jT kd (W 2) (jT kd (W 1) (jT kd (W 0) t a) b) l
theorem jb_told (hT : RTop nk heights lw st n W) {kd c t a b l : Nat} {kindOf : Nat → Int32} (h1 : 1 ≤ nk) (h3 : nk ≤ 3) (hkd : kd ≤ 3) (hc : c < 4) (ekd : kindOf c = nI kd) (ht : t < 1024) (et : st (11 + c) = nI t) (ha : a ≤ n 0) (hb : b ≤ n 1) (hl : l ≤ n 2) :
    jf_M_toldBy 4000 (nI nk) kindOf st (nI c) (nI a) (nI b) (nI l) = some (nI (jT3 kd t W a b l)) := by
  have l0 := jT_lt hkd (hT 0 (by decide)).2.2.2.2.1 ht a
  have l1 := jT_lt hkd (hT 1 (by decide)).2.2.2.2.1 l0 b
  have z1 : nk = 1 → b = 0 ∧ l = 0 := fun q => by
    have := (hT 1 (by decide)).2.1 (by omega)
    have := (hT 2 (by decide)).2.1 (by omega)
    omega
  have z2 : nk = 2 → l = 0 := fun q => by
    have := (hT 2 (by decide)).2.1 (by omega)
    omega
  have s0 : ∀ kh, jf_M_toldBy_14B 4000 (nI nk) kindOf st (nI c) (nI a) (nI b) (nI l) (nI t) (nI 0) kh = kh (nI (jT kd (W 0) t a), nI 1) := fun kh => by
    unfold jf_M_toldBy_14B jf_M_toldBy_44
    rw [if_neg (nI_ge (by omega) (by omega)), if_pos (show nI 0 = 0 from rfl), jb_told1 hT hkd hc ekd (show 0 < 3 by decide) ht ha]
    unfold jf_M_toldBy_107
    rw [nI_1, jp_xl]
  have s1 : 2 ≤ nk → ∀ kh, jf_M_toldBy_14B 4000 (nI nk) kindOf st (nI c) (nI a) (nI b) (nI l) (nI (jT kd (W 0) t a)) (nI 1) kh = kh (nI (jT kd (W 1) (jT kd (W 0) t a) b), nI 2) := fun h2 kh => by
    unfold jf_M_toldBy_14B jf_M_toldBy_44
    rw [if_neg (nI_ge (by omega) (by omega)), if_neg (show ¬ nI 1 = 0 by decide), if_pos (show nI 1 = (1 : Int32) from rfl), jb_told1 hT hkd hc ekd (show 1 < 3 by decide) l0 hb]
    unfold jf_M_toldBy_107
    rw [nI_1, jp_xl]
  have s2 : 3 ≤ nk → ∀ kh, jf_M_toldBy_14B 4000 (nI nk) kindOf st (nI c) (nI a) (nI b) (nI l) (nI (jT kd (W 1) (jT kd (W 0) t a) b)) (nI 2) kh = kh (nI (jT3 kd t W a b l), nI 3) := fun h2 kh => by
    unfold jf_M_toldBy_14B jf_M_toldBy_44
    rw [if_neg (nI_ge (by omega) (by omega)), if_neg (show ¬ nI 2 = 0 by decide), if_neg (show ¬ nI 2 = (1 : Int32) by decide), jb_told1 hT hkd hc ekd (show 2 < 3 by decide) l1 hl]
    unfold jf_M_toldBy_107
    rw [nI_1, jp_xl]
    rfl
  have se : ∀ x kh, jf_M_toldBy_14B 4000 (nI nk) kindOf st (nI c) (nI a) (nI b) (nI l) x (nI nk) kh = some x := fun x kh => by
    unfold jf_M_toldBy_14B
    rw [if_pos (nI_le (Nat.le_refl _) (by omega))]
  unfold jf_M_toldBy jf_M_toldBy_14
  rw [jl11, nI_add, jp_xr (show 11 + c < 93 by omega) (by decide), nI_clamp (show 11 + c < 2 ^ 31 by omega), et, jp_xl]
  rcases (show nk = 1 ∨ nk = 2 ∨ nk = 3 by omega) with rfl | rfl | rfl
  · obtain ⟨rfl, rfl⟩ := z1 rfl
    exact xloop_seq _ (fun i => if i = 0 then (nI t, nI 0) else (nI (jT kd (W 0) t a), nI 1)) 1 4000 _ (by decide) (fun i hi kh => by
      obtain rfl : i = 0 := (by omega)
      exact s0 kh) (fun kh => se _ kh)
  · obtain rfl := z2 rfl
    exact xloop_seq _ (fun i => if i = 0 then (nI t, nI 0) else if i = 1 then (nI (jT kd (W 0) t a), nI 1) else (nI (jT kd (W 1) (jT kd (W 0) t a) b), nI 2)) 2 4000 _ (by decide) (fun i hi kh => by
      rcases (show i = 0 ∨ i = 1 by omega) with rfl | rfl
      · exact s0 kh
      · exact s1 (by decide) kh) (fun kh => se _ kh)
  · exact xloop_seq _ (fun i => if i = 0 then (nI t, nI 0) else if i = 1 then (nI (jT kd (W 0) t a), nI 1) else if i = 2 then (nI (jT kd (W 1) (jT kd (W 0) t a) b), nI 2) else (nI (jT3 kd t W a b l), nI 3)) 3 4000 _ (by decide) (fun i hi kh => by
      rcases (show i = 0 ∨ i = 1 ∨ i = 2 by omega) with rfl | rfl | rfl
      · exact s0 kh
      · exact s1 (by decide) kh
      · exact s2 (by decide) kh) (fun kh => se _ kh)
/-- the fewest cuts of the third rick -/
theorem jb_third (hT : RTop nk heights lw st n W) {kd s : Nat} (hkd : kd ≤ 3) (hs : s < 1024) (x : Int32) :
    (∃ l, l ≤ n 2 ∧ x &&& (nI (jT kd (W 2) s l) ^^^ (-1 : Int32)) = 0 ∧ (∀ j, j < l → ¬ x &&& (nI (jT kd (W 2) s j) ^^^ (-1 : Int32)) = 0) ∧ jf_H_cutsOfThird 4000 heights lw (nI kd) x (nI s) = some (nI l)) ∨
    ((∀ j, j ≤ n 2 → ¬ x &&& (nI (jT kd (W 2) s j) ^^^ (-1 : Int32)) = 0) ∧ jf_H_cutsOfThird 4000 heights lw (nI kd) x (nI s) = some (-4)) := by
  obtain ⟨n1, n2, n3, n4, n5, n6, n7⟩ := hT 2 (by decide)
  unfold jf_H_cutsOfThird jf_H_cutsOfThird_6
  refine xloop_one _ (fun (r : Nat) (q : Int32 × Int32) => ∃ i : Nat, i + r = n 2 + 1 ∧ q = (nI (jT kd (W 2) s i), nI i) ∧ ∀ j, j < i → ¬ x &&& (nI (jT kd (W 2) s j) ^^^ (-1 : Int32)) = 0) (fun (o : Option Int32) => (∃ l, l ≤ n 2 ∧ x &&& (nI (jT kd (W 2) s l) ^^^ (-1 : Int32)) = 0 ∧ (∀ j, j < l → ¬ x &&& (nI (jT kd (W 2) s j) ^^^ (-1 : Int32)) = 0) ∧ o = some (nI l)) ∨ ((∀ j, j ≤ n 2 → ¬ x &&& (nI (jT kd (W 2) s j) ^^^ (-1 : Int32)) = 0) ∧ o = some (-4))) (fun r q h2 => ?_) (n 2 + 1) 4000 _ (by omega) ⟨0, by omega, rfl, fun j hj => by omega⟩
  obtain ⟨i, hi, e, ha⟩ := h2
  subst e
  have e2 : jf_F_heightOf 4000 heights (2 : Int32) = some (nI (n 2)) := jf_hei (k := 2) (by decide) n3
  by_cases hr : r = 0
  · refine Or.inr ⟨some (-4), Or.inr ⟨fun j hj => ha j (by omega), rfl⟩, fun k => ?_⟩
    unfold jf_H_cutsOfThird_6B
    rw [e2, jp_xb, if_pos (nI_lt (by omega) (by omega))]
  · by_cases hc : x &&& (nI (jT kd (W 2) s i) ^^^ (-1 : Int32)) = 0
    · refine Or.inr ⟨some (nI i), Or.inl ⟨i, by omega, hc, ha, rfl⟩, fun k => ?_⟩
      unfold jf_H_cutsOfThird_6B
      rw [e2, jp_xb, if_neg (nI_nlt (by omega) (by omega)), if_pos ((jb_has _ _).mpr hc)]
    · refine Or.inl ⟨r - 1, (nI (jT kd (W 2) s (i + 1)), nI (i + 1)), by omega, ⟨i + 1, by omega, rfl, fun j hj => ?_⟩, fun k => ?_⟩
      · by_cases hj2 : j = i
        · subst hj2
          exact hc
        · exact ha j (by omega)
      · have hlt := jT_lt hkd n5 hs i
        unfold jf_H_cutsOfThird_6B
        rw [e2, jp_xb, if_neg (nI_nlt (by omega) (by omega)), if_neg (fun z => hc ((jb_has _ _).mp z)), show jf_F_wordsFromTop 4000 heights lw (2 : Int32) (nI i) = some (nI (W 2 i)) from jb_fromTop hT (by decide) (by omega), jp_xb, (jH_spec hkd (n5 i) hlt).2.1, jp_xb, jb_or, jp_xl, nI_1, jp_xl]
        rfl
end TOLD

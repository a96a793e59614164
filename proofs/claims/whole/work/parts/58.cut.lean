theorem jh_above {w t : Nat} (hw : w < 1024) (ht : t < 1024) : jf_H_wordsAboveAll 4000 (nI w) (nI t) = some (jA (nI w) (jB t)) := by
  unfold jf_H_wordsAboveAll jf_H_wordsAboveAll_4
  obtain ⟨b1, b2⟩ := jb_len t ht
  refine xloop_one _ (fun (r : Nat) (q : Int32 × Int32) => ∃ i : Nat, i + r = 10 ∧ q = (jA (nI w) (if i ≤ jB t then i else jB t), nI i)) (fun (o : Option Int32) => o = some (jA (nI w) (jB t))) (fun r q h2 => ?_) 10 4000 _ (by decide) ⟨0, by omega, by rw [if_pos (Nat.zero_le _)]; rfl⟩
  obtain ⟨i, hi, e⟩ := h2
  subst e
  by_cases hr : r = 0
  · refine Or.inr ⟨some (jA (nI w) (if i ≤ jB t then i else jB t)), ?_, fun k => ?_⟩
    · rw [show (if i ≤ jB t then i else jB t) = jB t by split <;> omega]
    · unfold jf_H_wordsAboveAll_4B
      rw [jl9, if_pos (nI_lt (by omega) (by omega))]
  · refine Or.inl ⟨r - 1, (jA (nI w) (if i + 1 ≤ jB t then i + 1 else jB t), nI (i + 1)), by omega, ⟨i + 1, by omega, rfl⟩, fun k => ?_⟩
    unfold jf_H_wordsAboveAll_4B jf_H_wordsAboveAll_24
    rw [jl9, if_neg (nI_nlt (by omega) (by omega)), nI_1, jp_xl]
    by_cases hc : jB t ≤ i
    · rw [if_pos ((b2 i (by omega)).mpr hc), show (if i ≤ jB t then i else jB t) = (if i + 1 ≤ jB t then i + 1 else jB t) by split <;> split <;> omega]
    · rw [if_neg (fun z => hc ((b2 i (by omega)).mp z)), jp_xl, if_pos (by omega), if_pos (by omega), jp_xl]
      rfl
theorem jm_hears {N t : Nat} (hN : 10 < N) (ht : t < 1024) (x0 x1 : Int32) (kx : Int32 → Option Int32) : jf_M_hears_2 N x0 x1 (nI t) (0 : Int32) kx = kx (nI (jB t)) := by
  unfold jf_M_hears_2
  obtain ⟨b1, b2⟩ := jb_len t ht
  refine xloop_one _ (fun (r : Nat) (q : Int32) => ∃ i : Nat, i + r = jB t ∧ q = nI i) (fun (o : Option Int32) => o = kx (nI (jB t))) (fun r q h2 => ?_) (jB t) N _ (by omega) ⟨0, by omega, rfl⟩
  obtain ⟨i, hi, e⟩ := h2
  subst e
  by_cases hr : r = 0
  · refine Or.inr ⟨kx (nI i), by rw [show i = jB t by omega], fun k => ?_⟩
    unfold jf_M_hears_2B
    rw [if_pos ((b2 i (by omega)).mpr (by omega))]
  · refine Or.inl ⟨r - 1, nI (i + 1), by omega, ⟨i + 1, by omega, rfl⟩, fun k => ?_⟩
    unfold jf_M_hears_2B
    rw [if_neg (fun z => by have := (b2 i (by omega)).mp z; omega), nI_1, jp_xl]
/-- what a cow hears of a layer: both alike, and again a set -/
theorem jb_hears {k w t : Nat} (hk : k ≤ 3) (hw : w < 1024) (ht : t < 1024) : ∃ u, u < 1024 ∧ jf_H_heardBy 4000 (nI k) (nI w) (nI t) = some (nI u) ∧ jf_M_hears 4000 (nI k) (nI w) (nI t) = some (nI u) := by
  unfold jf_H_heardBy jf_M_hears
  rw [jm_hears (by decide) ht]
  unfold jf_M_hears_14
  obtain ⟨l1, l2⟩ := jb_low w hw
  obtain ⟨a1, a2, a3⟩ := jb_above (jB t) (jb_len t ht).1 w hw
  rcases (show k = 0 ∨ k = 1 ∨ k = 2 ∨ k = 3 by omega) with rfl | rfl | rfl | rfl
  · exact ⟨w, hw, rfl, rfl⟩
  · refine ⟨w &&& 341, Nat.lt_of_le_of_lt Nat.and_le_left hw, ?_, ?_⟩
    · rw [← jb_and]; rfl
    · rw [← jb_and]; rfl
  · refine ⟨_, l1, ?_, ?_⟩
    · rw [← l2]; rfl
    · rw [← l2]; rfl
  · refine ⟨_, a2, ?_, ?_⟩
    · rw [← a3, jh_above hw ht]; rfl
    · rw [← a3, a1]; rfl

section FIRST
variable {nm nc nk : Nat} {gv : jLV} {mowers cows ricks weathers : Int32} {says words weather kindOf thatch : Nat → Int32}
theorem jb_first1 (hL : RLand nm nc nk gv mowers cows ricks weathers says words weather kindOf thatch) {h n : Nat} (hh : h ≤ 999) (h1 : 1 ≤ n) (hn : n ≤ 60) {st : Nat → Int32} (e : st 0 = nI h) (x1 x2 : Int32) :
    ∀ r i f1 f2, i + r = nm → r < f1 → r < f2 → (∃ a, (∀ (ka : Int32 → Option Int32) (ka' : Unit → Option Int32), xloop (fun (kh : (Int32) → Option (Int32)) q => jf_H_first_29B 4000 (nI h) gv.1 gv.2.1 gv.2.2.2.2.2.2.1 x1 x2 (nI n) q kh ka ka') f1 (nI i) = ka a) ∧ ∀ (kb : Int32 → Option Int32) (kb' : Unit → Option Int32), xloop (fun (kh : (Int32) → Option (Int32)) q => jf_M_first_35B 4000 mowers says words st x1 x2 (nI n) q kh kb kb') f2 (nI i) = kb a) ∨ ((∀ (ka : Int32 → Option Int32) (ka' : Unit → Option Int32), xloop (fun (kh : (Int32) → Option (Int32)) q => jf_H_first_29B 4000 (nI h) gv.1 gv.2.1 gv.2.2.2.2.2.2.1 x1 x2 (nI n) q kh ka ka') f1 (nI i) = ka' ()) ∧ ∀ (kb : Int32 → Option Int32) (kb' : Unit → Option Int32), xloop (fun (kh : (Int32) → Option (Int32)) q => jf_M_first_35B 4000 mowers says words st x1 x2 (nI n) q kh kb kb') f2 (nI i) = kb' ()) := by
  have hm5 := hL.1.2.1
  intro r
  induction r with
  | zero =>
    intro i f1 f2 hi g1 g2
    obtain ⟨f1, rfl⟩ : ∃ z, f1 = z + 1 := ⟨f1 - 1, by omega⟩
    obtain ⟨f2, rfl⟩ : ∃ z, f2 = z + 1 := ⟨f2 - 1, by omega⟩
    refine Or.inr ⟨fun ka ka' => ?_, fun kb kb' => ?_⟩
    · rw [xloop]
      unfold jf_H_first_29B
      rw [hL.2.1.1, if_pos (nI_le (by omega) (by omega))]
    · rw [xloop]
      unfold jf_M_first_35B
      rw [hL.2.1.2, if_pos (nI_le (by omega) (by omega))]
  | succ r ih =>
    intro i f1 f2 hi g1 g2
    obtain ⟨f1, rfl⟩ : ∃ z, f1 = z + 1 := ⟨f1 - 1, by omega⟩
    obtain ⟨f2, rfl⟩ : ∃ z, f2 = z + 1 := ⟨f2 - 1, by omega⟩
    obtain ⟨w, w1, w2, w3⟩ := jl_word hL (N := 4000) (m := i) (t := h + n - 1) (by omega) (by omega)
    have eH : ∀ kh ka ka', jf_H_first_29B 4000 (nI h) gv.1 gv.2.1 gv.2.2.2.2.2.2.1 x1 x2 (nI n) (nI i) kh ka ka' = if nI w = x1 then ka (nI i) else kh (nI (i + 1)) := by
      intro kh ka ka'
      unfold jf_H_first_29B
      rw [hL.2.1.1, if_neg (nI_ge (by omega) (by omega)), nI_add, jl1, jn_sub (by omega), w2, jp_xb, nI_add, jp_xl]
    have eM : ∀ kh kb kb', jf_M_first_35B 4000 mowers says words st x1 x2 (nI n) (nI i) kh kb kb' = if nI w = x1 then kb (nI i) else kh (nI (i + 1)) := by
      intro kh kb kb'
      unfold jf_M_first_35B
      rw [hL.2.1.2, if_neg (nI_ge (by omega) (by omega)), jp_xr0 (by decide) (by decide), jz0, e, nI_add, jl1, jn_sub (by omega), w3, jp_xb, nI_add, jp_xl]
    by_cases hc : nI w = x1
    · refine Or.inl ⟨nI i, fun ka ka' => ?_, fun kb kb' => ?_⟩
      · rw [xloop, eH, if_pos hc]
      · rw [xloop, eM, if_pos hc]
    · rcases ih (i + 1) f1 f2 (by omega) (by omega) (by omega) with ⟨a, a1, a2⟩ | ⟨a1, a2⟩
      · refine Or.inl ⟨a, fun ka ka' => ?_, fun kb kb' => ?_⟩
        · rw [xloop, eH, if_neg hc]
          exact a1 ka ka'
        · rw [xloop, eM, if_neg hc]
          exact a2 kb kb'
      · refine Or.inr ⟨fun ka ka' => ?_, fun kb kb' => ?_⟩
        · rw [xloop, eH, if_neg hc]
          exact a1 ka ka'
        · rw [xloop, eM, if_neg hc]
          exact a2 kb kb'
theorem jb_first2 (hL : RLand nm nc nk gv mowers cows ricks weathers says words weather kindOf thatch) {h : Nat} (hh : h ≤ 999) {st : Nat → Int32} (e : st 0 = nI h) (x1 x2 : Int32) :
    ∃ r, jf_H_first_20 4000 (nI h) gv.1 gv.2.1 gv.2.2.2.2.2.2.1 x1 x2 (1 : Int32) (fun q3 => jf_H_first_65 4000 (nI h) gv.1 gv.2.1 gv.2.2.2.2.2.2.1 x2 q3.1 q3.2) = some r ∧ jf_M_first_26 4000 mowers says words st x1 x2 (1 : Int32) (fun q3 => jf_M_first_64 4000 mowers says words st x2 q3.1 q3.2) = some r := by
  unfold jf_H_first_20 jf_M_first_26
  refine xloop_rel (σ1 := Int32) (σ2 := Int32) (fun (kh : (Int32) → Option (Int32)) q => jf_H_first_20B 4000 (nI h) gv.1 gv.2.1 gv.2.2.2.2.2.2.1 x1 x2 q kh (fun q3 => jf_H_first_65 4000 (nI h) gv.1 gv.2.1 gv.2.2.2.2.2.2.1 x2 q3.1 q3.2)) (fun (kh : (Int32) → Option (Int32)) q => jf_M_first_26B 4000 mowers says words st x1 x2 q kh (fun q3 => jf_M_first_64 4000 mowers says words st x2 q3.1 q3.2))
    (fun r q1 q2 => q1 = q2 ∧ ∃ i : Nat, 1 ≤ i ∧ i + r = 61 ∧ q1 = nI i) (fun o1 o2 => ∃ r, o1 = some r ∧ o2 = some r) ?_ 60 4000 4000 1 1 (by omega) (by omega) ⟨rfl, 1, by omega, by omega, rfl⟩
  intro r q1 q2 ⟨hq, i, h1, hi, e2⟩
  subst hq
  subst e2
  by_cases hr : r = 0
  · refine Or.inr ⟨some (-4), some (-4), ⟨_, rfl, rfl⟩, fun kh => ?_, fun kh => ?_⟩
    · unfold jf_H_first_20B
      rw [jl60, if_pos (nI_lt (by omega) (by omega))]
    · unfold jf_M_first_26B
      rw [jl60, if_pos (nI_lt (by omega) (by omega))]
  · have hm5 := hL.1.2.1
    rcases jb_first1 hL hh h1 (show i ≤ 60 by omega) e x1 x2 nm 0 4000 4000 (by omega) (by omega) (by omega) with ⟨a, a1, a2⟩ | ⟨a1, a2⟩
    · refine Or.inr ⟨if x2 = 0 then some (nI i) else some a, if x2 = 0 then some (nI i) else some a, ?_, fun kh => ?_, fun kh => ?_⟩
      · by_cases hc : x2 = 0
        · exact ⟨nI i, if_pos hc, if_pos hc⟩
        · exact ⟨a, if_neg hc, if_neg hc⟩
      · unfold jf_H_first_20B
        rw [jl60, if_neg (nI_nlt (by omega) (by omega))]
        exact a1 _ _
      · unfold jf_M_first_26B
        rw [jl60, if_neg (nI_nlt (by omega) (by omega))]
        exact a2 _ _
    · refine Or.inl ⟨r - 1, nI (i + 1), nI (i + 1), by omega, ⟨rfl, i + 1, by omega, by omega, rfl⟩, fun kh => ?_, fun kh => ?_⟩
      · unfold jf_H_first_20B
        rw [jl60, if_neg (nI_nlt (by omega) (by omega))]
        refine (a1 _ _).trans ?_
        unfold jf_H_first_82
        rw [nI_1, jp_xl]
      · unfold jf_M_first_26B
        rw [jl60, if_neg (nI_nlt (by omega) (by omega))]
        refine (a2 _ _).trans ?_
        unfold jf_M_first_81
        rw [nI_1, jp_xl]
end FIRST

theorem jp_isX {N n : Nat} (h1 : 1 ≤ n) (h2 : n ≤ 1000) (x : Int32) : (∃ j : Nat, j < n ∧ x = nI j ∧ (if x < 0 then some (0 : Int32) else if nI n ≤ x then some (0 : Int32) else some (1 : Int32)) = some 1 ∧ xb (jf_M_in N (Int32.toInt64 x) (0 : Int64) (Int32.toInt64 (nI n - (1 : Int32)))) (fun q1 => xo q1 (some q1)) = some 1) ∨
    ((∀ j : Nat, j < n → x ≠ nI j) ∧ (if x < 0 then some (0 : Int32) else if nI n ≤ x then some (0 : Int32) else some (1 : Int32)) = some 0 ∧ xb (jf_M_in N (Int32.toInt64 x) (0 : Int64) (Int32.toInt64 (nI n - (1 : Int32)))) (fun q1 => xo q1 (some q1)) = some 0) := by
  have e : Int32.toInt64 (nI n - (1 : Int32)) = lN (n - 1) := by rw [jl1, jn_sub h1, nI_l (by omega)]
  rw [e]
  rcases jm_in (N := N) x 0 (n - 1) (by omega) (by omega) with ⟨j, -, hj, rfl, h⟩ | ⟨hn, h⟩
  · refine Or.inl ⟨j, by omega, rfl, ?_, ?_⟩
    · rw [if_neg (nI_pos (by omega)), if_neg (nI_ge (by omega) (by omega))]
    · exact (congrArg (fun z => xb z (fun q1 => xo q1 (some q1))) h).trans rfl
  · refine Or.inr ⟨fun j hj => hn j (Nat.zero_le _) (by omega), ?_, (congrArg (fun z => xb z (fun q1 => xo q1 (some q1))) h).trans rfl⟩
    rcases pk_ix x (n := n) (by omega) with h3 | h3 | ⟨j, hj, hx⟩
    · rw [if_pos h3]
    · by_cases h4 : x < 0
      · rw [if_pos h4]
      · rw [if_neg h4, if_pos h3]
    · exact absurd hx (hn j (Nat.zero_le _) (by omega))
theorem jop_ro {x : jX} {y : jM} {a b : Option Int32} (hr : ∃ r, a = some r ∧ b = some r) (h : jRel x y) : ∃ (o1 : Int32 × jX) (o2 : Int32 × jM), xb a (fun q => some (q, x)) = some o1 ∧ xb b (fun q => some (q, y)) = some o2 ∧ o1.1 = o2.1 ∧ jRel o1.2 o2.2 := by
  obtain ⟨r, rfl, rfl⟩ := hr
  exact ⟨(r, x), (r, y), rfl, rfl, rfl, h⟩
section LAND
variable {nm nc nk : Nat} {gv : jLV} {mowers cows ricks weathers : Int32} {says words weather kindOf thatch : Nat → Int32}
theorem jl_mower (h : RLand nm nc nk gv mowers cows ricks weathers says words weather kindOf thatch) {N : Nat} (x : Int32) : (∃ j : Nat, j < nm ∧ x = nI j ∧ jf_H_isMower N gv.2.2.2.2.2.2.1 x = some 1 ∧ jf_M_isMower N mowers x = some 1) ∨ ((∀ j : Nat, j < nm → x ≠ nI j) ∧ jf_H_isMower N gv.2.2.2.2.2.2.1 x = some 0 ∧ jf_M_isMower N mowers x = some 0) := by
  rw [h.2.1.1, h.2.1.2]
  exact jp_isX (N := N) h.1.1 (by have := h.1.2.1; omega) x
theorem jl_cow (h : RLand nm nc nk gv mowers cows ricks weathers says words weather kindOf thatch) {N : Nat} (x : Int32) : (∃ j : Nat, j < nc ∧ x = nI j ∧ jf_H_isCow N gv.2.2.2.2.2.2.2.1 x = some 1 ∧ jf_M_isCow N cows x = some 1) ∨ ((∀ j : Nat, j < nc → x ≠ nI j) ∧ jf_H_isCow N gv.2.2.2.2.2.2.2.1 x = some 0 ∧ jf_M_isCow N cows x = some 0) := by
  rw [h.2.2.1.1, h.2.2.1.2]
  exact jp_isX (N := N) h.1.2.2.1 (by have := h.1.2.2.2.1; omega) x
theorem jl_rick (h : RLand nm nc nk gv mowers cows ricks weathers says words weather kindOf thatch) {N : Nat} (x : Int32) : (∃ j : Nat, j < nk ∧ x = nI j ∧ jf_H_isRick N gv.2.2.2.2.2.2.2.2 x = some 1 ∧ jf_M_isRick N ricks x = some 1) ∨ ((∀ j : Nat, j < nk → x ≠ nI j) ∧ jf_H_isRick N gv.2.2.2.2.2.2.2.2 x = some 0 ∧ jf_M_isRick N ricks x = some 0) := by
  rw [h.2.2.2.1.1, h.2.2.2.1.2]
  exact jp_isX (N := N) h.1.2.2.2.2.1 (by have := h.1.2.2.2.2.2; omega) x
theorem jh_rem {N a d : Nat} (ha : a < 2 ^ 31) (h0 : 0 < d) (hd : d < 2 ^ 31) : jf_H_remainder N (nI a) (nI d) = some (nI (a % d)) := by
  unfold jf_H_remainder
  rw [if_neg (nI_nle h0 hd), jp_xz h0 hd, jn_rem ha h0 hd]
/-- what a mower says in an hour -/
theorem jl_word (h : RLand nm nc nk gv mowers cows ricks weathers says words weather kindOf thatch) {N m t : Nat} (hm : m < nm) (ht : t < 2 ^ 30) : ∃ w : Nat, w ≤ 9 ∧ jf_L_wordOf N gv.1 gv.2.1 (nI m) (nI t) = some (nI w) ∧ jf_M_nextWord N says words (nI m) (nI t) = some (nI w) := by
  obtain ⟨n, h1, h2, h3, h4, h5⟩ := h.2.2.2.2.1 m hm
  have hm5 : m < 5 := Nat.lt_of_lt_of_le hm h.1.2.1
  have hmod : t % n < n := Nat.mod_lt _ (by omega)
  obtain ⟨w, h6, h7, h8⟩ := h5 (t % n) hmod
  refine ⟨w, h6, ?_, ?_⟩
  · unfold jf_L_wordOf
    rw [jr_at hm5 (by decide), jp_xb, h3, jh_rem (by omega) (by omega) (by omega), jp_xb, jl9, pk_mul, nI_add, jr_at (by omega) (by decide), jp_xb, Nat.mul_comm m 9, h7]
  · unfold jf_M_nextWord
    rw [jp_xr hm5 (by decide), nI_clamp (by omega), h4, jp_xz (by omega) (by omega), jn_rem (by omega) (by omega) (by omega), jl9, pk_mul, nI_add, jp_xr (by omega) (by decide), nI_clamp (by omega), h8]
/-- the weather of an hour -/
theorem jl_weather (h : RLand nm nc nk gv mowers cows ricks weathers says words weather kindOf thatch) {N t : Nat} (ht : t < 2 ^ 30) : ∃ w : Nat, w ≤ 3 ∧ jf_L_weatherOf N gv.2.2.1 gv.2.2.2.2.2.1 (nI t) = some (nI w) ∧ jf_M_rains N weathers weather (nI t) = some (nI w) := by
  rcases h.2.2.2.2.2.1 with ⟨h1, h2, h3⟩ | ⟨n, h1, h2, h3, h4, h5⟩
  · refine ⟨0, by omega, ?_, ?_⟩
    · unfold jf_L_weatherOf
      rw [h1, if_pos (by decide)]
      rfl
    · unfold jf_M_rains
      rw [h2, jp_xz (by omega) (by omega), jn_rem (by omega) (by omega) (by omega), Nat.mod_one, jp_xr (by omega) (by decide), nI_clamp (by omega), h3]
  · have hmod : t % n < n := Nat.mod_lt _ (by omega)
    obtain ⟨w, h6, h7, h8⟩ := h5 (t % n) hmod
    refine ⟨w, h6, ?_, ?_⟩
    · unfold jf_L_weatherOf
      rw [h3, if_neg (nI_nle (by omega) (by omega)), jh_rem (by omega) (by omega) (by omega), jp_xb, jr_at (by omega) (by decide), jp_xb, h7]
    · unfold jf_M_rains
      rw [h4, jp_xz (by omega) (by omega), jn_rem (by omega) (by omega) (by omega), jp_xr (by omega) (by decide), nI_clamp (by omega), h8]
theorem jl_kind (h : RLand nm nc nk gv mowers cows ricks weathers says words weather kindOf thatch) {N c : Nat} (hc : c < nc) : ∃ v : Nat, v ≤ 3 ∧ jf_L_kindOf N gv.2.2.2.1 (nI c) = some (nI v) ∧ kindOf c = nI v := by
  obtain ⟨v, h1, h2, h3⟩ := h.2.2.2.2.2.2.1 c hc
  have : c < 4 := Nat.lt_of_lt_of_le hc h.1.2.2.2.1
  refine ⟨v, h1, ?_, h3⟩
  unfold jf_L_kindOf
  rw [jr_at this (by decide), jp_xb, h2]
theorem jl_thatch (h : RLand nm nc nk gv mowers cows ricks weathers says words weather kindOf thatch) {N k : Nat} (hk : k < nk) : ∃ v : Nat, v ≤ 9 ∧ jf_L_thatchOf N gv.2.2.2.2.1 (nI k) = some (nI v) ∧ thatch k = nI v := by
  obtain ⟨v, h1, h2, h3⟩ := h.2.2.2.2.2.2.2 k hk
  have : k < 3 := Nat.lt_of_lt_of_le hk h.1.2.2.2.2.2
  refine ⟨v, h1, ?_, h3⟩
  unfold jf_L_thatchOf
  rw [jr_at this (by decide), jp_xb, h2]
end LAND
theorem nI_up {a b : Nat} (h : a = b) : nI a = nI b := by rw [h]
theorem jop_0 (x : jX) (y : jM) (v : Nat → Int32) (h : jRel x y) : ∃ (o1 : Int32 × jX) (o2 : Int32 × jM), jh 4000 0 x v = some o1 ∧ jm 4000 0 y v = some o2 ∧ o1.1 = o2.1 ∧ jRel o1.2 o2.2 := by
  obtain ⟨nm, nc, nk, hL, hF, hT, hS, hP, hK⟩ := h
  obtain ⟨n, t1, t2, t3, t4⟩ := id hT
  show ∃ (o1 : Int32 × jX) (o2 : Int32 × jM), jh_0 4000 x (v 1) = some o1 ∧ jm_0 4000 y (v 1) = some o2 ∧ o1.1 = o2.1 ∧ jRel o1.2 o2.2
  unfold jh_0 jm_0 jf_H_write jf_M_write
  rcases jh_within (N := 4000) (v 1) 32 126 (by decide) (by decide) with ⟨j, j1, j2, jx, e1⟩ | ⟨j1, e1⟩
  · rcases jm_in (N := 4000) (v 1) 32 126 (by decide) (by decide) with ⟨j', j1', j2', jx', e2⟩ | ⟨j1', e2⟩
    · rw [show (32 : Int64) = lN 32 from rfl, show (126 : Int64) = lN 126 from rfl, jl32, jl126, e1, e2, jp_xb, jp_xb, if_neg (by decide), if_neg (by decide), t2, t3]
      unfold jf_T_isFull
      by_cases hn : n = 200
      · subst hn
        rw [jl200, if_neg (nI_nlt (Nat.le_refl _) (by decide)), jp_xb, if_neg (by decide), if_pos rfl]
        exact ⟨_, _, rfl, rfl, rfl, nm, nc, nk, hL, hF, ⟨200, t1, rfl, rfl, t4⟩, hS, hP, hK⟩
      · rw [jl200, if_pos (nI_lt (by omega) (by decide)), jp_xb, if_pos rfl, if_neg (fun q => hn ((nI_eq (by omega) (by decide)).mp q)), jp_xr (by omega) (by decide), nI_clamp (by omega)]
        unfold jf_T_add jf_T_isFull
        rw [jl200, if_pos (nI_lt (by omega) (by decide)), jp_xb, if_pos rfl, jr_put (by omega) (by decide), jp_xb, jl1, nI_add]
        refine ⟨_, _, rfl, rfl, rfl, nm, nc, nk, hL, hF, ⟨n + 1, by omega, rfl, rfl, fun i hi => ?_⟩, hS, hP, hK⟩
        show ∃ c, c < 128 ∧ upd x.1 n (v 1) i = nI c ∧ upd y.1 n (v 1) i = nI c
        by_cases hi2 : i = n
        · subst hi2
          rw [upd_same, upd_same]
          exact ⟨j, by omega, jx, jx⟩
        · rw [upd_ne hi2, upd_ne hi2]
          exact t4 i (by omega)
    · exact absurd jx (j1' j j1 j2)
  · rcases jm_in (N := 4000) (v 1) 32 126 (by decide) (by decide) with ⟨j', j1', j2', jx', e2⟩ | ⟨j1', e2⟩
    · exact absurd jx' (j1 j' j1' j2')
    · rw [show (32 : Int64) = lN 32 from rfl, show (126 : Int64) = lN 126 from rfl, jl32, jl126, e1, e2, jp_xb, jp_xb, if_pos rfl, if_pos rfl]
      exact ⟨_, _, rfl, rfl, rfl, nm, nc, nk, hL, hF, hT, hS, hP, hK⟩
theorem jop_1 (x : jX) (y : jM) (v : Nat → Int32) (h : jRel x y) : ∃ (o1 : Int32 × jX) (o2 : Int32 × jM), jh 4000 1 x v = some o1 ∧ jm 4000 1 y v = some o2 ∧ o1.1 = o2.1 ∧ jRel o1.2 o2.2 := by
  obtain ⟨nm, nc, nk, hL, hF, hT, hS, hP, hK⟩ := h
  obtain ⟨n, t1, t2, t3, t4⟩ := hT
  exact ⟨_, _, rfl, rfl, t2.trans t3.symm, nm, nc, nk, hL, hF, ⟨0, by omega, rfl, rfl, fun j hj => by omega⟩, hS, hP, hK⟩

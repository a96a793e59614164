/-- what a text has told so far -/
def RDraft (nm nc nk : Nat) (gv : jLV) (mowers cows ricks weathers : Int32) (says words weather kindOf thatch : Nat → Int32) : Prop :=
  (nm ≤ 5 ∧ nc ≤ 4 ∧ nk ≤ 3) ∧ (gv.2.2.2.2.2.2.1 = nI nm ∧ mowers = nI nm) ∧ (gv.2.2.2.2.2.2.2.1 = nI nc ∧ cows = nI nc) ∧ (gv.2.2.2.2.2.2.2.2 = nI nk ∧ ricks = nI nk) ∧
  (∀ m, m < nm → ∃ n, 1 ≤ n ∧ n ≤ 9 ∧ gv.2.1 m = nI n ∧ says m = nI n ∧ ∀ j, j < n → ∃ w, w ≤ 9 ∧ gv.1 (9 * m + j) = nI w ∧ words (9 * m + j) = nI w) ∧
  ((gv.2.2.2.2.2.1 = nI 0 ∧ weathers = nI 1 ∧ weather 0 = nI 0) ∨ ∃ n, 1 ≤ n ∧ n ≤ 9 ∧ gv.2.2.2.2.2.1 = nI n ∧ weathers = nI n ∧ ∀ j, j < n → ∃ w, w ≤ 3 ∧ gv.2.2.1 j = nI w ∧ weather j = nI w) ∧
  (∀ c, c < nc → ∃ v, v ≤ 3 ∧ gv.2.2.2.1 c = nI v ∧ kindOf c = nI v) ∧ (∀ k, k < nk → ∃ v, v ≤ 9 ∧ gv.2.2.2.2.1 k = nI v ∧ thatch k = nI v)
section ITEM
variable {n : Nat} {tl text : Nat → Int32} {c : Nat → Nat}
theorem jt_mower (hR : RLet n tl text c) {nm a b : Nat} (hnm : nm ≤ 5) (hab : a ≤ b) (hb : b ≤ n) (speeches lens says words : Nat → Int32) :
    (∃ (u1 u2 : Nat → Int32) (m1 : Int32) (m2 : Int32) (w1 w2 : Nat → Int32), jf_L_readMower 4000 speeches lens (nI nm) tl (nI n) (nI a) (nI b) = some (0, u1, u2, m1) ∧ jf_M_readMower 4000 text (nI nm) says words (nI a) (nI b) = some (0, m2, w1, w2)) ∨
    (nm < 5 ∧ ∃ (L : Nat) (u w : Nat → Int32), 1 ≤ L ∧ L ≤ 9 ∧ jf_L_readMower 4000 speeches lens (nI nm) tl (nI n) (nI a) (nI b) = some (1, u, upd lens nm (nI L), nI (nm + 1)) ∧ jf_M_readMower 4000 text (nI nm) says words (nI a) (nI b) = some (1, nI (nm + 1), upd says nm (nI L), w) ∧ (∀ j, j < L → ∃ z, z ≤ 9 ∧ u (9 * nm + j) = nI z ∧ w (9 * nm + j) = nI z) ∧ ∀ k, k < 9 * nm → u k = speeches k ∧ w k = words k) := by
  have h2 := hR.1
  unfold jf_L_readMower jf_M_readMower
  by_cases h5 : nm = 5
  · subst h5
    rw [if_pos (show (5 : Int32) ≤ nI 5 by decide), if_pos (show nI 5 = (5 : Int32) from rfl)]
    exact Or.inl ⟨_, _, _, _, _, _, rfl, rfl⟩
  · rw [if_neg (show ¬ (5 : Int32) ≤ nI nm from nI_ge (b := 5) (by omega) (by decide)), if_neg (show ¬ nI nm = (5 : Int32) from fun z => h5 ((nI_eq (b := 5) (by omega) (by decide)).mp z))]
    rcases jt_readRow hR (g := 9) (s := 9 * nm) (n0 := 45) (Or.inl rfl) hab hb (by omega) (by decide) speeches with ⟨hrow, u, e1, e2, e3⟩ | ⟨hrow, u, e1⟩
    · rcases jt_isRow hR (g := 9) (Or.inl rfl) hab hb with ⟨-, e4⟩ | ⟨q, -⟩
      · obtain ⟨w, ⟨e5, e6⟩, e7⟩ := jt_write hR (g := 9) (s := nm) (Or.inl rfl) hrow hab hb (by omega) (upd says nm (nI (b - a))) words
        have h9 := hrow.1
        refine Or.inr ⟨by omega, b - a, u, w, h9.1, h9.2, ?_, ?_, fun j hj => ?_, fun k hk => ⟨e3 k (Or.inl hk), e6 k (Or.inl hk)⟩⟩
        · rw [show nI nm * (9 : Int32) = nI (9 * nm) by rw [jl9, pk_mul, Nat.mul_comm], show jf_L_readRow 4000 45 tl (nI n) speeches (nI a) (nI b) (9 : Int32) (nI (9 * nm)) = some (1, u) from e1, jp_xb, if_neg (show ¬ (1 : Int32) = 0 by decide), jn_sub hab, jr_put (show nm < 5 by omega) (by decide), jp_xb, nI_1, jp_xl]
        · rw [show jf_M_isRow 4000 text (nI a) (nI b) (9 : Int32) = some 1 from e4, jp_xb, if_neg (show ¬ (1 : Int32) = 0 by decide), jp_xr (show nm < 5 by omega) (by decide), nI_clamp (show nm < 2 ^ 31 by omega), jn_sub hab, jp_xl, e7]
          unfold jf_M_readMower_71
          rw [nI_1, jp_xl]
        · have hf : 48 ≤ c (a + j) ∧ c (a + j) ≤ 48 + 9 := hrow.2 j hj
          exact ⟨c (a + j) - 48, by omega, e2 j hj, e5 j hj⟩
      · exact absurd hrow q
    · rcases jt_isRow hR (g := 9) (Or.inl rfl) hab hb with ⟨q, -⟩ | ⟨-, e4⟩
      · exact absurd q hrow
      · refine Or.inl ⟨u, lens, nI nm, nI nm, says, words, ?_, ?_⟩
        · rw [show nI nm * (9 : Int32) = nI (9 * nm) by rw [jl9, pk_mul, Nat.mul_comm], show jf_L_readRow 4000 45 tl (nI n) speeches (nI a) (nI b) (9 : Int32) (nI (9 * nm)) = some (0, u) from e1, jp_xb, if_pos (show (0 : Int32) = 0 from rfl)]
        · rw [show jf_M_isRow 4000 text (nI a) (nI b) (9 : Int32) = some 0 from e4, jp_xb, if_pos (show (0 : Int32) = 0 from rfl)]
theorem jt_wea (hR : RLet n tl text c) {a b : Nat} (hab : a ≤ b) (hb : b ≤ n) (wea weather : Nat → Int32) (wl weathers : Int32) :
    (∃ (u1 : Nat → Int32) (m1 : Int32) (m2 : Int32) (w1 : Nat → Int32), jf_L_readWeather 4000 wea wl tl (nI n) (nI a) (nI b) = some (0, u1, m1) ∧ jf_M_readWeather 4000 text weathers weather (nI a) (nI b) = some (0, m2, w1)) ∨
    (∃ (L : Nat) (u w : Nat → Int32), 1 ≤ L ∧ L ≤ 9 ∧ jf_L_readWeather 4000 wea wl tl (nI n) (nI a) (nI b) = some (1, u, nI L) ∧ jf_M_readWeather 4000 text weathers weather (nI a) (nI b) = some (1, nI L, w) ∧ ∀ j, j < L → ∃ z, z ≤ 3 ∧ u j = nI z ∧ w j = nI z) := by
  have h2 := hR.1
  unfold jf_L_readWeather jf_M_readWeather
  rcases jt_readRow hR (g := 3) (s := 0) (n0 := 9) (Or.inr rfl) hab hb (by omega) (by decide) wea with ⟨hrow, u, e1, e2, e3⟩ | ⟨hrow, u, e1⟩
  · rcases jt_isRow hR (g := 3) (Or.inr rfl) hab hb with ⟨-, e4⟩ | ⟨q, -⟩
    · obtain ⟨w, e5, e7⟩ := jt_weather hR (g := 3) (Or.inr rfl) hrow hab hb weather (nI (b - a))
      have h9 := hrow.1
      refine Or.inr ⟨b - a, u, w, h9.1, h9.2, ?_, ?_, fun j hj => ?_⟩
      · rw [show jf_L_readRow 4000 9 tl (nI n) wea (nI a) (nI b) (3 : Int32) (0 : Int32) = some (1, u) from e1, jp_xb, if_neg (show ¬ (1 : Int32) = 0 by decide), jn_sub hab, jp_xl]
      · rw [show jf_M_isRow 4000 text (nI a) (nI b) (3 : Int32) = some 1 from e4, jp_xb, if_neg (show ¬ (1 : Int32) = 0 by decide), jn_sub hab, jp_xl, e7]
      · have hf : 48 ≤ c (a + j) ∧ c (a + j) ≤ 48 + 3 := hrow.2 j hj
        have e2' := e2 j hj
        rw [Nat.zero_add] at e2'
        exact ⟨c (a + j) - 48, by omega, e2', e5 j hj⟩
    · exact absurd hrow q
  · rcases jt_isRow hR (g := 3) (Or.inr rfl) hab hb with ⟨q, -⟩ | ⟨-, e4⟩
    · exact absurd q hrow
    · refine Or.inl ⟨u, wl, weathers, weather, ?_, ?_⟩
      · rw [show jf_L_readRow 4000 9 tl (nI n) wea (nI a) (nI b) (3 : Int32) (0 : Int32) = some (0, u) from e1, jp_xb, if_pos (show (0 : Int32) = 0 from rfl)]
      · rw [show jf_M_isRow 4000 text (nI a) (nI b) (3 : Int32) = some 0 from e4, jp_xb, if_pos (show (0 : Int32) = 0 from rfl)]
theorem jt_cow (hR : RLet n tl text c) {nc a b : Nat} (hnc : nc ≤ 4) (hab : a ≤ b) (hb : b ≤ n) (kinds kindOf : Nat → Int32) :
    (∃ (u1 : Nat → Int32) (m1 : Int32) (m2 : Int32) (w1 : Nat → Int32), jf_L_readCow 4000 kinds (nI nc) tl (nI n) (nI a) (nI b) = some (0, u1, m1) ∧ jf_M_readCow 4000 text (nI nc) kindOf (nI a) (nI b) = some (0, m2, w1)) ∨
    (nc < 4 ∧ ∃ v, v ≤ 3 ∧ jf_L_readCow 4000 kinds (nI nc) tl (nI n) (nI a) (nI b) = some (1, upd kinds nc (nI v), nI (nc + 1)) ∧ jf_M_readCow 4000 text (nI nc) kindOf (nI a) (nI b) = some (1, nI (nc + 1), upd kindOf nc (nI v))) := by
  have h2 := hR.1
  unfold jf_L_readCow jf_M_readCow
  by_cases h5 : nc = 4
  · subst h5
    rcases jt_number hR hab hb with ⟨v, v1, e1, e2⟩ | ⟨e1, e2⟩
    · rw [e1, e2, jp_xb, jp_xb, if_pos (show (4 : Int32) ≤ nI 4 by decide), if_pos (show nI 4 = (4 : Int32) from rfl)]
      exact Or.inl ⟨_, _, _, _, rfl, rfl⟩
    · rw [e1, e2, jp_xb, jp_xb, if_pos (show (4 : Int32) ≤ nI 4 by decide), if_pos (show nI 4 = (4 : Int32) from rfl)]
      exact Or.inl ⟨_, _, _, _, rfl, rfl⟩
  · have n1 : ¬ (4 : Int32) ≤ nI nc := nI_ge (b := 4) (by omega) (by decide)
    have n2 : ¬ nI nc = (4 : Int32) := fun z => h5 ((nI_eq (b := 4) (by omega) (by decide)).mp z)
    rcases jt_number hR hab hb with ⟨v, v1, e1, e2⟩ | ⟨e1, e2⟩
    · rw [e1, e2, jp_xb, jp_xb, if_neg n1, if_neg n2]
      rcases jb_both (nI v) 0 3 (by decide) (by decide) with ⟨z, -, z2, zx, f1, f2⟩ | ⟨-, f1, f2⟩
      · have hz : v = z := (nI_eq (by omega) (by omega)).mp zx
        subst hz
        rw [show jf_H_isWithin 4000 (nI v) (0 : Int32) (3 : Int32) = some 1 from f1, show jf_M_in 4000 (Int32.toInt64 (nI v)) (0 : Int64) (3 : Int64) = some 1 from f2, jp_xb, jp_xb, if_neg (show ¬ (1 : Int32) = 0 by decide), if_neg (show ¬ (1 : Int32) = 0 by decide), jr_put (show nc < 4 by omega) (by decide), jp_xb, jp_xr (show nc < 4 by omega) (by decide), nI_clamp (show nc < 2 ^ 31 by omega), nI_1, jp_xl, jp_xl, jp_xl]
        exact Or.inr ⟨by omega, v, z2, rfl, rfl⟩
      · rw [show jf_H_isWithin 4000 (nI v) (0 : Int32) (3 : Int32) = some 0 from f1, show jf_M_in 4000 (Int32.toInt64 (nI v)) (0 : Int64) (3 : Int64) = some 0 from f2, jp_xb, jp_xb, if_pos (show (0 : Int32) = 0 from rfl), if_pos (show (0 : Int32) = 0 from rfl)]
        exact Or.inl ⟨_, _, _, _, rfl, rfl⟩
    · rw [e1, e2, jp_xb, jp_xb, if_neg n1, if_neg n2, show jf_H_isWithin 4000 (-4 : Int32) (0 : Int32) (3 : Int32) = some 0 from rfl, show jf_M_in 4000 (Int32.toInt64 (-1 : Int32)) (0 : Int64) (3 : Int64) = some 0 by decide, jp_xb, jp_xb, if_pos (show (0 : Int32) = 0 from rfl), if_pos (show (0 : Int32) = 0 from rfl)]
      exact Or.inl ⟨_, _, _, _, rfl, rfl⟩
theorem jt_rick (hR : RLet n tl text c) {nc a b : Nat} (hnc : nc ≤ 3) (hab : a ≤ b) (hb : b ≤ n) (kinds kindOf : Nat → Int32) :
    (∃ (u1 : Nat → Int32) (m1 : Int32) (m2 : Int32) (w1 : Nat → Int32), jf_L_readRick 4000 kinds (nI nc) tl (nI n) (nI a) (nI b) = some (0, u1, m1) ∧ jf_M_readRick 4000 text (nI nc) kindOf (nI a) (nI b) = some (0, m2, w1)) ∨
    (nc < 3 ∧ ∃ v, v ≤ 9 ∧ jf_L_readRick 4000 kinds (nI nc) tl (nI n) (nI a) (nI b) = some (1, upd kinds nc (nI v), nI (nc + 1)) ∧ jf_M_readRick 4000 text (nI nc) kindOf (nI a) (nI b) = some (1, nI (nc + 1), upd kindOf nc (nI v))) := by
  have h2 := hR.1
  unfold jf_L_readRick jf_M_readRick
  by_cases h5 : nc = 3
  · subst h5
    rcases jt_number hR hab hb with ⟨v, v1, e1, e2⟩ | ⟨e1, e2⟩
    · rw [e1, e2, jp_xb, jp_xb, if_pos (show (3 : Int32) ≤ nI 3 by decide), if_pos (show nI 3 = (3 : Int32) from rfl)]
      exact Or.inl ⟨_, _, _, _, rfl, rfl⟩
    · rw [e1, e2, jp_xb, jp_xb, if_pos (show (3 : Int32) ≤ nI 3 by decide), if_pos (show nI 3 = (3 : Int32) from rfl)]
      exact Or.inl ⟨_, _, _, _, rfl, rfl⟩
  · have n1 : ¬ (3 : Int32) ≤ nI nc := nI_ge (b := 3) (by omega) (by decide)
    have n2 : ¬ nI nc = (3 : Int32) := fun z => h5 ((nI_eq (b := 3) (by omega) (by decide)).mp z)
    rcases jt_number hR hab hb with ⟨v, v1, e1, e2⟩ | ⟨e1, e2⟩
    · rw [e1, e2, jp_xb, jp_xb, if_neg n1, if_neg n2]
      rcases jb_both (nI v) 0 9 (by decide) (by decide) with ⟨z, -, z2, zx, f1, f2⟩ | ⟨-, f1, f2⟩
      · have hz : v = z := (nI_eq (by omega) (by omega)).mp zx
        subst hz
        rw [show jf_H_isWithin 4000 (nI v) (0 : Int32) (9 : Int32) = some 1 from f1, show jf_M_in 4000 (Int32.toInt64 (nI v)) (0 : Int64) (9 : Int64) = some 1 from f2, jp_xb, jp_xb, if_neg (show ¬ (1 : Int32) = 0 by decide), if_neg (show ¬ (1 : Int32) = 0 by decide), jr_put (show nc < 3 by omega) (by decide), jp_xb, jp_xr (show nc < 3 by omega) (by decide), nI_clamp (show nc < 2 ^ 31 by omega), nI_1, jp_xl, jp_xl, jp_xl]
        exact Or.inr ⟨by omega, v, z2, rfl, rfl⟩
      · rw [show jf_H_isWithin 4000 (nI v) (0 : Int32) (9 : Int32) = some 0 from f1, show jf_M_in 4000 (Int32.toInt64 (nI v)) (0 : Int64) (9 : Int64) = some 0 from f2, jp_xb, jp_xb, if_pos (show (0 : Int32) = 0 from rfl), if_pos (show (0 : Int32) = 0 from rfl)]
        exact Or.inl ⟨_, _, _, _, rfl, rfl⟩
    · rw [e1, e2, jp_xb, jp_xb, if_neg n1, if_neg n2, show jf_H_isWithin 4000 (-4 : Int32) (0 : Int32) (9 : Int32) = some 0 from rfl, show jf_M_in 4000 (Int32.toInt64 (-1 : Int32)) (0 : Int64) (9 : Int64) = some 0 by decide, jp_xb, jp_xb, if_pos (show (0 : Int32) = 0 from rfl), if_pos (show (0 : Int32) = 0 from rfl)]
      exact Or.inl ⟨_, _, _, _, rfl, rfl⟩
end ITEM

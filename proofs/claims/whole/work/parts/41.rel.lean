/-! the relation of the two states -/
/-- what a text lays: nm mowers, nc cows, nk ricks -/
def RLand (nm nc nk : Nat) (gv : jLV) (mowers cows ricks weathers : Int32) (says words weather kindOf thatch : Nat → Int32) : Prop :=
  (1 ≤ nm ∧ nm ≤ 5 ∧ 1 ≤ nc ∧ nc ≤ 4 ∧ 1 ≤ nk ∧ nk ≤ 3) ∧ (gv.2.2.2.2.2.2.1 = nI nm ∧ mowers = nI nm) ∧ (gv.2.2.2.2.2.2.2.1 = nI nc ∧ cows = nI nc) ∧ (gv.2.2.2.2.2.2.2.2 = nI nk ∧ ricks = nI nk) ∧
  (∀ m, m < nm → ∃ n, 1 ≤ n ∧ n ≤ 9 ∧ gv.2.1 m = nI n ∧ says m = nI n ∧ ∀ j, j < n → ∃ w, w ≤ 9 ∧ gv.1 (9 * m + j) = nI w ∧ words (9 * m + j) = nI w) ∧
  ((gv.2.2.2.2.2.1 = nI 0 ∧ weathers = nI 1 ∧ weather 0 = nI 0) ∨ ∃ n, 1 ≤ n ∧ n ≤ 9 ∧ gv.2.2.2.2.2.1 = nI n ∧ weathers = nI n ∧ ∀ j, j < n → ∃ w, w ≤ 3 ∧ gv.2.2.1 j = nI w ∧ weather j = nI w) ∧
  (∀ c, c < nc → ∃ v, v ≤ 3 ∧ gv.2.2.2.1 c = nI v ∧ kindOf c = nI v) ∧ (∀ k, k < nk → ∃ v, v ≤ 9 ∧ gv.2.2.2.2.1 k = nI v ∧ thatch k = nI v)
/-- a field: what lies, how wet, what was told, how high, how often burnt, the layers below the height -/
def RField (H nc nk : Nat) (fv : jFV) (st : Nat → Int32) : Prop :=
  (∃ h, h ≤ H ∧ fv.2.2.2.2.2.2.2.2 = nI h ∧ st 0 = nI h ∧ ∀ k, k < 3 → ∃ b, b ≤ h ∧ fv.2.2.2.2.1 k = nI b ∧ st (18 + k) = nI b) ∧
  (∀ m, m < 5 → (∃ w, w < 1024 ∧ fv.1 m = nI w ∧ st (1 + m) = nI w) ∧ ∃ d, d ≤ 99 ∧ fv.2.1 m = nI d ∧ st (6 + m) = nI d) ∧
  (∀ c, c < 4 → ∃ w, w < 1024 ∧ (nc ≤ c → w = 0) ∧ fv.2.2.1 c = nI w ∧ st (11 + c) = nI w) ∧
  (∀ k, k < 3 → ∃ n, n ≤ 8 ∧ (nk ≤ k → n = 0) ∧ fv.2.2.2.1 k = nI n ∧ st (15 + k) = nI n ∧ ∀ i, i < n → (∃ w, w < 1024 ∧ fv.2.2.2.2.2.1 (8 * k + i) = nI w ∧ st (21 + (8 * k + i)) = nI w) ∧ (∃ d, d ≤ 99 ∧ fv.2.2.2.2.2.2.1 (8 * k + i) = nI d ∧ st (45 + (8 * k + i)) = nI d) ∧ ∃ t, t < 40 ∧ fv.2.2.2.2.2.2.2.1 (8 * k + i) = nI t ∧ st (69 + (8 * k + i)) = nI t)
def RText (t_letters : Nat → Int32) (t_length : Int32) (text : Nat → Int32) (letters : Int32) : Prop := ∃ n, n ≤ 200 ∧ t_length = nI n ∧ letters = nI n ∧ ∀ j, j < n → ∃ c, c < 128 ∧ t_letters j = nI c ∧ text j = nI c
def RSeen (s_words s_hours : Nat → Int32) (s_size : Int32) (seen : Int32) (seenWord seenHour : Nat → Int32) : Prop := ∃ n, n ≤ 6 ∧ s_size = nI n ∧ seen = nI n ∧ ∀ j, j < n → (∃ w, w ≤ 9 ∧ s_words j = nI w ∧ seenWord j = nI w) ∧ ∃ h, h ≤ 99 ∧ s_hours j = nI h ∧ seenHour j = nI h
/-- a ring of M places against a row of blocks of 93, the newest last -/
def RPile (M nc nk : Nat) (newest size : Int32) (v : Nat → jFV) (sz : Int32) (row : Nat → Int32) : Prop := ∃ q n, q < M ∧ n ≤ M ∧ newest = nI q ∧ size = nI n ∧ sz = nI n ∧ ∀ j, j < n → RField 999 nc nk (v ((q + M - j) % M)) (fun t => row (93 * (n - 1 - j) + t))
def jRel (x : jX) (y : jM) : Prop := ∃ nm nc nk : Nat, RLand nm nc nk x.2.2.2.2.2.2.2.1 y.2.2.1 y.2.2.2.1 y.2.2.2.2.1 y.2.2.2.2.2.1 y.2.2.2.2.2.2.1 y.2.2.2.2.2.2.2.1 y.2.2.2.2.2.2.2.2.1 y.2.2.2.2.2.2.2.2.2.1 y.2.2.2.2.2.2.2.2.2.2.1 ∧ RField 999 nc nk x.2.2.1 y.2.2.2.2.2.2.2.2.2.2.2.2.2.2.2.2.2.2.2.2.1 ∧ RText x.1 x.2.1 y.1 y.2.1 ∧ RSeen x.2.2.2.2.1 x.2.2.2.2.2.1 x.2.2.2.2.2.2.1 y.2.2.2.2.2.2.2.2.2.2.2.2.2.2.2.2.2.2.2.2.2.2.2.2.1 y.2.2.2.2.2.2.2.2.2.2.2.2.2.2.2.2.2.2.2.2.2.2.2.2.2.1 y.2.2.2.2.2.2.2.2.2.2.2.2.2.2.2.2.2.2.2.2.2.2.2.2.2.2.1 ∧ RPile 8 nc nk x.2.2.2.2.2.2.2.2.2.1 x.2.2.2.2.2.2.2.2.2.2.1 x.2.2.2.2.2.2.2.2.2.2.2.1 y.2.2.2.2.2.2.2.2.2.2.2.2.2.2.2.2.2.2.2.2.2.1 y.2.2.2.2.2.2.2.2.2.2.2.2.2.2.2.2.2.2.2.2.2.2.1 ∧ RPile 2 nc nk x.2.2.2.2.2.2.2.2.2.2.2.2.1 x.2.2.2.2.2.2.2.2.2.2.2.2.2.1 x.2.2.2.2.2.2.2.2.2.2.2.2.2.2 y.2.2.2.2.2.2.2.2.2.2.2.2.2.2.2.2.2.2.2.2.2.2.2.2.2.2.2.1 y.2.2.2.2.2.2.2.2.2.2.2.2.2.2.2.2.2.2.2.2.2.2.2.2.2.2.2.2

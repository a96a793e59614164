/-! what a cow hears -/
def jB (t : Nat) : Nat := if t = 0 then 0 else t.log2 + 1
theorem jb_len : ∀ t, t < 1024 → jB t ≤ 10 ∧ ∀ s, s ≤ 10 → ((nI t >>> (nI s &&& 31)) = 0 ↔ jB t ≤ s) := by decide +kernel
theorem jb_low : ∀ w, w < 1024 → Int32.toNatClampNeg (nI w &&& -nI w) < 1024 ∧ nI w &&& -nI w = nI (Int32.toNatClampNeg (nI w &&& -nI w)) := by decide +kernel
/-- the set w with its first s words taken away, word by word -/
def jA (w : Int32) : Nat → Int32
  | 0 => w
  | s + 1 => jA w s &&& ((1 <<< (nI s &&& 31)) ^^^ (-1 : Int32))
theorem jb_above : ∀ s, s ≤ 10 → ∀ w, w < 1024 → jA (nI w) s = (nI w >>> (nI s &&& 31)) <<< (nI s &&& 31) ∧ Int32.toNatClampNeg (jA (nI w) s) < 1024 ∧ jA (nI w) s = nI (Int32.toNatClampNeg (jA (nI w) s)) := by decide +kernel

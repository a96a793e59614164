def jO (w : Nat) : Nat := w % 2 + w / 2 % 2 + w / 4 % 2 + w / 8 % 2 + w / 16 % 2 + w / 32 % 2 + w / 64 % 2 + w / 128 % 2 + w / 256 % 2 + w / 512 % 2
theorem jO_le (w : Nat) : jO w ≤ 10 := by
  unfold jO
  omega
theorem jb_bitCount : ∀ w, w < 1024 → jf_Integer_bitCount 4000 (nI w) = some (nI (jO w)) := by decide +kernel
theorem jb_ones : ∀ w, w < 1024 → jf_M_ones 4000 (nI w) = some (nI (jO w)) := by decide +kernel

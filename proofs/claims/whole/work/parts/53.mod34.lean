/-! the reference: move -/
theorem i_sub {z n : Nat} (hz : z ≤ 40) (hn : n < 2 ^ 31) : (nI z - nI n).toInt = (z : Int) - n := by
  rw [Int32.toInt_sub, nI_toInt (by omega), nI_toInt hn]
  exact Int.bmod_eq_of_le (by omega) (by omega)
theorem i_fit {z n i : Nat} (hz : z ≤ 40) (hn : n < 2 ^ 31) (hi : i < 2 ^ 31) : nI i ≤ nI z - nI n ↔ i + n ≤ z := by
  rw [Int32.le_iff_toInt_le, i_sub hz hn, nI_toInt hi]
  omega

/-! the reference: measures, frames -/
theorem msd {a b : Int32} {N : Nat} (hm : a.toInt.toNat < N + 1) (h0 : 0 ≤ b) (h : b < a) : b.toInt.toNat < N := by
  have h1 := Int32.lt_iff_toInt_lt.mp h
  have h2 : (0 : Int) ≤ b.toInt := Int32.le_iff_toInt_le.mp h0
  omega

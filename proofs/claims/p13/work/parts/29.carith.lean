/-! small rows for the class's parts -/
theorem cvin {x N : Int32} {n : Nat} (hN : N.toInt = n) (h0 : 0 ≤ x) (h1 : x < N) : vp_in x n := by
  rw [vp_in_iff, ← hN]
  exact ⟨Int32.le_iff_toInt_le.mp h0, Int32.lt_iff_toInt_lt.mp h1⟩
theorem cmsd {a b : Int32} {N : Nat} (hm : a.toInt.toNat < N + 1) (h0 : 0 ≤ b) (h : b < a) : b.toInt.toNat < N := by
  have h1 := Int32.lt_iff_toInt_lt.mp h
  have h2 : (0 : Int) ≤ b.toInt := Int32.le_iff_toInt_le.mp h0
  omega
theorem ci_lt {x y : Int32} (h : ¬ y ≤ x) : x < y := by grind
theorem ci_gt {x : Int32} (h : ¬ x ≤ 0) : 0 < x := by grind
theorem ci_le {x y : Int32} (h : ¬ x < y) : y ≤ x := by grind
theorem ca_dec {x y n : Int32} (e : y = x + 1) (h0 : 0 ≤ x) (h : x < n) : 0 ≤ n - y ∧ n - y < n - x := by grind
theorem ca_up {x y n : Int32} (e : y = x + 1) (h0 : 0 ≤ x) (h : x < n) : 0 ≤ y ∧ y ≤ n := by grind
theorem ca_lt8 {x : Int32} (h0 : 0 ≤ x) (h : x < 8) : x.toNatClampNeg < 8 := by
  have h1 : (0 : Int) ≤ x.toInt := Int32.le_iff_toInt_le.mp h0
  have h2 : x.toInt < 8 := Int32.lt_iff_toInt_lt.mp h
  simp only [Int32.toNatClampNeg]; omega

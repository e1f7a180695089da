theorem a_up {x y n : Int32} (e : y = x + 1) (h0 : 0 ≤ x) (h : x < n) : 0 ≤ y ∧ y ≤ n := by grind

theorem st_app {S S1 S2 : mS} {b i v : Int32} (h : stp S S1) (hb : 0 ≤ b ∧ b < 24) (hx : 0 ≤ gA S1 37 b ∧ gA S1 37 b < gA S1 29 b ∧ gA S1 29 b ≤ 100) (e : S2 = sA (sA S1 36 i v) 37 b (gA S1 37 b + 1)) : stp S S2 :=
  st_qlen (S1 := sA S1 36 i v) (st_irr h rfl (by simp [smK])) hb e (fun _ => by
    have e29 : gA (sA S1 36 i v) 29 b = gA S1 29 b := by simp [gA_sA]
    rw [e29]; clear h e e29; grind)
theorem q_of {S S1 : mS} {b : Int32} (h : stp S S1) (hb : 0 ≤ b ∧ b < 24) (hk : gA S 28 b = 5) : 0 ≤ gA S1 37 b ∧ gA S1 37 b ≤ gA S1 29 b ∧ gA S1 29 b ≤ 100 := (h.1.2.2.2.1 b hb.1 hb.2).2.2.2 ((h.2.2.1 28 b (by simp)).trans hk)
theorem a_q {b x : Int32} (hb : 0 ≤ b ∧ b < 24) (h0 : 0 ≤ x) (h1 : x < 100) : 0 ≤ 100 * b + x ∧ 100 * b + x < 2400 := by grind
theorem a_q0 {b : Int32} (hb : 0 ≤ b ∧ b < 24) : 0 ≤ 100 * b ∧ 100 * b < 2400 := by grind
theorem a_q1 {b x n m : Int32} (hb : 0 ≤ b ∧ b < 24) (h0 : 0 ≤ x) (hn : n ≤ m) (hm : m ≤ 100) (hlt : n < m) (h1 : ¬ n ≤ x) : (0 ≤ 100 * b + x ∧ 100 * b + x < 2400) ∧ (0 ≤ 100 * b + x + 1 ∧ 100 * b + x + 1 < 2400) := by grind


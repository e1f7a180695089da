theorem ne5 {S : mS} {b : Int32} (h : gA S 28 b = 1) : gA S 28 b ≠ 5 := by rw [h]; decide
theorem lk_w {S S1 S2 S3 S4 S5 S6 S7 S8 : mS} {b t x y : Int32} (hf : fre S t) (hb : 0 ≤ b ∧ b < 24) (h : mInv S) (hk : gA S 28 b = 1) (e1 : S1 = sA S 18 t x) (e2 : S2 = sA S1 19 t y) (e3 : S3 = sA S2 22 t 1) (e4 : S4 = sA S3 13 t 2) (e5 : S5 = sA S4 16 t b) (e6 : S6 = sA S5 21 t 1) (e7 : S7 = sA S6 34 (8 * b + gA S6 35 b) t) (e8 : S8 = sA S7 35 b (gA S7 35 b + 1)) :
    mInv S8 ∧ gA S8 28 b = 1 ∧ (∀ k, gI S8 k = gI S k) ∧ (∀ k i, k = 11 ∨ k = 12 ∨ k = 28 → gA S8 k i = gA S k i) := by
  have g35 : gA S6 35 b = gA S 35 b := by rw [e6, e5, e4, e3, e2, e1]; simp [gA_sA]
  have g35' : gA S7 35 b = gA S 35 b := by rw [e7]; simp only [gA_sA, if_neg (show ¬ (35 = 34) by decide)]; exact g35
  rw [g35] at e7
  rw [g35'] at e8
  have eo : ∀ k q, k ≠ 18 → k ≠ 19 → k ≠ 22 → k ≠ 13 → k ≠ 16 → k ≠ 21 → k ≠ 34 → k ≠ 35 → gA S8 k q = gA S k q := fun k q a1 a2 a3 a4 a5 a6 a7 a8 => by rw [e8, e7, e6, e5, e4, e3, e2, e1]; simp [gA_sA, a1, a2, a3, a4, a5, a6, a7, a8]
  have eu : ∀ k u, k = 13 ∨ k = 16 ∨ k = 21 ∨ k = 22 → u ≠ t → gA S8 k u = gA S k u := fun k u hk2 hu => by rw [e8, e7, e6, e5, e4, e3, e2, e1]; rcases hk2 with rfl | rfl | rfl | rfl <;> simp [gA_sA, hu]
  have eI : ∀ k, gI S8 k = gI S k := fun k => by rw [e8, e7, e6, e5, e4, e3, e2, e1]; rfl
  have r := w2_inv (S9 := S8) hb h hf hk (fun u hu => eu 13 u (by simp) hu) (by rw [e8, e7, e6, e5, e4]; simp [gA_sA]) (fun u hu => eu 16 u (by simp) hu) (by rw [e8, e7, e6, e5]; simp [gA_sA]) (fun u hu => eu 21 u (by simp) hu) (by rw [e8, e7, e6]; simp [gA_sA]) (fun u hu => eu 22 u (by simp) hu) (by rw [e8, e7, e6, e5, e4, e3]; simp [gA_sA])
    (fun q hq => by rw [e8, e7, e6, e5, e4, e3, e2, e1]; simp [gA_sA, hq]) (by rw [e8, e7]; simp [gA_sA]) (fun d hd => by rw [e8, e7, e6, e5, e4, e3, e2, e1]; simp [gA_sA, hd]) (by rw [e8]; simp [gA_sA])
    (fun k q hk2 => by rcases hk2 with rfl | rfl | rfl | rfl | rfl | rfl | rfl | rfl | rfl <;> exact eo _ q (by decide) (by decide) (by decide) (by decide) (by decide) (by decide) (by decide) (by decide)) eI
  exact ⟨r.1, by rw [eo 28 b (by decide) (by decide) (by decide) (by decide) (by decide) (by decide) (by decide) (by decide)]; exact hk, eI, fun k i hk2 => by rcases hk2 with rfl | rfl | rfl <;> exact eo _ i (by decide) (by decide) (by decide) (by decide) (by decide) (by decide) (by decide) (by decide)⟩
theorem lk_p {S S8 S9 : mS} {t : Int32} (h : (∀ k, gI S8 k = gI S k) ∧ (∀ k i, k = 11 ∨ k = 12 ∨ k = 28 → gA S8 k i = gA S k i)) (h2 : stp S8 S9) : pas S S9 t 0 :=
  ⟨h2.1, fun k => (h2.2.1 k).trans (h.1 k), fun k i hk => (h2.2.2.1 k i hk).trans (h.2 k i hk), Or.inr rfl⟩
theorem lk_m {S : mS} {b : Int32} (hb : 0 ≤ b ∧ b < 24) (h : mInv S) (hL : 0 < gA S 35 b) : (0 ≤ gA S 34 (8 * b) ∧ gA S 34 (8 * b) < 8) ∧ gA S 21 (gA S 34 (8 * b)) ≠ 0 ∧ gA S 16 (gA S 34 (8 * b)) = b := by
  have m := h.2.2.2.2.2.2.1 b 0 hb.1 hb.2 (by decide) hL
  rw [Int32.add_zero] at m
  exact ⟨⟨m.1, m.2.1⟩, m.2.2.2.2.1, m.2.2.2.1⟩
theorem a_sg {n i L : Int32} (h0 : 0 ≤ i) (hi : i < n) (hn : n ≤ L + i) (hL : 0 ≤ L ∧ L ≤ 8) (hn8 : n ≤ 8) : 0 < L := by grind
theorem a_sg2 {n i j L L1 : Int32} (e : j = i + 1) (h0 : 0 ≤ i) (hi : i < n) (hn : n ≤ L + i) (hL : 0 ≤ L ∧ L ≤ 8) (hn8 : n ≤ 8) (e1 : L1 + 1 = L) : 0 ≤ j ∧ j ≤ n ∧ n ≤ L1 + j ∧ n ≤ 8 := by
  have e2 : L1 + j = L + i := by rw [e, ← e1, Int32.add_comm i 1, ← Int32.add_assoc]
  refine ⟨by clear e1 e2 hn; grind, by clear e1 e2 hn; grind, by rw [e2]; exact hn, hn8⟩
theorem a_n0 {n L : Int32} (hL : 0 ≤ L ∧ L ≤ 8) (h : n = L ∨ (n = 1 ∧ ¬ L ≤ 0) ∨ n = 0) : 0 ≤ n ∧ n ≤ L ∧ n ≤ 8 := by grind
theorem a_n1 {n L x : Int32} (h : 0 ≤ n ∧ n ≤ L ∧ n ≤ 8) (e : x = 0) (hL : 0 ≤ L ∧ L ≤ 8) : 0 ≤ x ∧ x ≤ n ∧ n ≤ L + x ∧ n ≤ 8 := by subst e; grind
theorem lk_35 {S S1 : mS} {b : Int32} (h : stp S S1) (hb : 0 ≤ b ∧ b < 24) : 0 ≤ gA S1 35 b ∧ gA S1 35 b ≤ 8 := (h.1.2.2.2.1 b hb.1 hb.2).2.1


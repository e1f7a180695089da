theorem pb_I {S S1 : mS} {k : Nat} {x : Int32} (h : mInv S) (e : S1 = sI S k x) (h2 : ¬ 2 = k) (h26 : ¬ 26 = k) : mInv S1 ∧ gI S1 2 = gI S 2 := by
  have g2 : gI S1 2 = gI S 2 := by rw [e, gI_sI, if_neg h2]
  have g26 : gI S1 26 = gI S 26 := by rw [e, gI_sI, if_neg h26]
  exact ⟨mInv_sm h (by unfold iT; rw [g2, g26]; exact h.1) (fun j q _ => by rw [e]; rfl), g2⟩
theorem pb_J {S S1 : mS} {k : Nat} {x : Int64} (h : mInv S) (e : S1 = sJ S k x) : mInv S1 ∧ gI S1 2 = gI S 2 := by
  exact ⟨mInv_sm h (iT_of h (fun j => by rw [e]; rfl)) (fun j q _ => by rw [e]; rfl), by rw [e]; rfl⟩
theorem pb_t {S S1 S2 : mS} (a : mInv S1 ∧ gI S1 2 = gI S 2) (b : mInv S2 ∧ gI S2 2 = gI S1 2) : mInv S2 ∧ gI S2 2 = gI S 2 := ⟨b.1, b.2.trans a.2⟩
theorem pb_s {S S1 : mS} (b : stp S S1) : mInv S1 ∧ gI S1 2 = gI S 2 := ⟨b.1, b.2.1 2⟩
theorem in_y {r lo v hi : Int32} (h : (r = 1 ∧ lo ≤ v ∧ v ≤ hi) ∨ (r = 0 ∧ ¬ (lo ≤ v ∧ v ≤ hi))) (hc : ¬ r = 0) : lo ≤ v ∧ v ≤ hi := by
  rcases h with q | q
  · exact q.2
  · exact absurd q.1 hc
theorem t8 {t : Int32} (h : 0 ≤ t ∧ t ≤ 7) : 0 ≤ t ∧ t < 8 := by grind
theorem rem_r {x r : Int32} (hx : 0 ≤ x) (hr : 0 < r) : 0 ≤ x - x / r * r ∧ x - x / r * r < r := by
  obtain ⟨a, ha, rfl⟩ := nI_of (x := x) (by grind)
  obtain ⟨d, hd, rfl⟩ := nI_of (x := r) (by grind)
  have d0 : 0 < d := by
    rcases Nat.eq_zero_or_pos d with q | q
    · subst q; exact absurd hr (by decide)
    · exact q
  rw [pk_rem ha d0 hd]
  have := Nat.mod_lt a d0
  exact ⟨nI_pos' (by omega), nI_lt this hd⟩
theorem rem_8 {x : Int32} (h0 : 0 ≤ x) (h8 : x < 8) : (x + 1) - (x + 1) / 8 * 8 = if x = 7 then 0 else x + 1 := by
  obtain ⟨a, ha, rfl⟩ := nI_of (x := x) (by grind)
  have a8 : a < 8 := (nI_ltI ha (by decide : (8 : Nat) < 2 ^ 31)).mp h8
  rw [nI_1 a, show (8 : Int32) = nI 8 from rfl, pk_rem (by omega) (by decide) (by decide)]
  show nI ((a + 1) % 8) = if nI a = nI 7 then 0 else nI (a + 1)
  by_cases q : a = 7
  · subst q; rw [if_pos rfl]; rfl
  · rw [if_neg (fun z => q ((nI_eq ha (by decide : (7 : Nat) < 2 ^ 31)).mp z)), Nat.mod_eq_of_lt (by omega)]
theorem ush8 {x y : Int32} (e : y = (x.toUInt32 >>> ((8 : Int32).toUInt32 &&& Int32.toUInt32 31)).toInt32) : 0 ≤ y := by
  have h := pk_ushr x 8 8 (by decide)
  rw [← e] at h
  have hx := x.toBitVec.isLt
  have h2 : y.toBitVec.toNat < 2 ^ 24 := by rw [h]; omega
  apply Int32.le_iff_toInt_le.mpr
  show (0 : Int) ≤ y.toInt
  unfold Int32.toInt
  rw [BitVec.toInt_eq_toNat_of_lt (by omega)]
  omega
/-- how far it is to u -/
def rM (x u l : Int32) : Int32 := 8 * l + (if x ≤ u then u - x else u - x + 8)
theorem run_m {x y l k u : Int32} (hx : 0 ≤ x ∧ x < 8) (hl : 0 ≤ l ∧ l ≤ 8) (hu : 0 ≤ u ∧ u < 8) (hy : y = (x + 1) - (x + 1) / 8 * 8) (hc : (k = l + (-1) ∧ 0 < l) ∨ (k = l ∧ x ≠ u)) : (0 ≤ y ∧ y < 8) ∧ (0 ≤ k ∧ k ≤ 8) ∧ 0 ≤ rM y u k ∧ rM y u k < rM x u l := by
  rw [rem_8 hx.1 hx.2] at hy
  unfold rM
  have y8 : 0 ≤ y ∧ y < 8 := by rw [hy]; clear hc hu hl; split <;> grind
  refine ⟨y8, ?_, ?_⟩
  · rcases hc with ⟨q, r⟩ | ⟨q, r⟩ <;> subst q <;> clear hy hu hx <;> grind
  · by_cases h7 : x = 7
    · rw [if_pos h7] at hy; subst hy; subst h7
      rcases hc with ⟨q, r⟩ | ⟨q, r⟩ <;> subst q
      · constructor <;> split <;> (try split) <;> grind
      · constructor <;> split <;> (try split) <;> grind
    · rw [if_neg h7] at hy; subst hy
      rcases hc with ⟨q, r⟩ | ⟨q, r⟩ <;> subst q
      · constructor <;> split <;> (try split) <;> grind
      · constructor <;> split <;> (try split) <;> grind
theorem slp {S : mS} {t : Int32} (h : mInv S) (h13 : ¬ gA S 13 t = 1) (h13' : ¬ gA S 13 t = 2) : nR S t := by
  intro b i b0 b1 i0 i1 q
  have m := h.2.2.2.2.1 b i b0 b1 i0 i1
  rw [q] at m
  rcases m.2.2.2 with z | z
  · exact h13' z.1
  · exact h13 z.1
theorem tk_g {S S9 : mS} {t : Int32} (h : mInv S) (ht : 0 ≤ t ∧ t < 8) (h13 : gA S 13 t = 3) (e : S9 = sA (sA (sA S 16 t (-1)) 15 t (gA S 15 t + 1)) 13 t (if gA S 12 t ≤ gA S 15 t + 1 then 4 else 1)) : mInv S9 ∧ gI S9 2 = gI S 2 := by
  obtain ⟨r1, -, -, -, r5⟩ := gO_inv h ht (slp h (by rw [h13]; decide) (by rw [h13]; decide)) (n21 h ht (by rw [h13]; decide)) (Or.inr (Or.inr h13)) e
  exact ⟨r1, r5 2⟩
/-- an interrupted one that waits in a row leaves it and goes on -/
theorem it_l {S S1 S2 S9 : mS} {t x : Int32} (h : mInv S) (ht : 0 ≤ t ∧ t < 8) (h13 : gA S 13 t = 2) (h22 : gA S 22 t = 0) (hp : lvP S S1 32 33 (gA S 16 t) t) (e2 : S2 = sA S1 14 t x) (e : S9 = sA (sA (sA S2 16 t (-1)) 15 t (gA S2 15 t + 1)) 13 t (if gA S2 12 t ≤ gA S2 15 t + 1 then 4 else 1)) : mInv S9 ∧ gI S9 2 = gI S 2 := by
  have hb := (h.2.1 t ht.1 ht.2).2.1 h13
  have h21 : gA S 21 t = 0 := by
    rcases Classical.em (gA S 21 t = 0) with q | q
    · exact q
    · obtain ⟨-, i, i0, i1, i2⟩ := (h.2.1 t ht.1 ht.2).2.2 q
      have m := h.2.2.2.2.2.2.1 _ i hb.1 hb.2 i0 i1
      rw [i2] at m
      exact absurd h22 m.2.2.2.2.2.1
  obtain ⟨l1, l2, l3⟩ := lv_inv hb h hp
  obtain ⟨g1, g2, g3, g4, g5, g6, g7, g8, g9, g10, g11⟩ := lvP_f (by decide) hp
  have hn : nR S1 t := by
    rcases Classical.em (∃ i, 0 ≤ i ∧ i < gA S 33 (gA S 16 t) ∧ gA S 32 (8 * gA S 16 t + i) = t) with q | q
    · exact l3 q
    · refine l2 t (fun b i b0 b1 i0 i1 z => ?_)
      have m := h.2.2.2.2.1 b i b0 b1 i0 i1
      rw [z] at m
      rcases m.2.2.2 with y | y
      · exact q ⟨i, i0, by rw [y.2]; exact i1, by rw [y.2]; exact z⟩
      · rw [h13] at y; exact absurd y.1 (by decide)
  have s := st_irr (stp_rf l1) e2 (by simp [smK])
  have e13 : gA S2 13 t = 2 := by rw [e2]; simp only [gA_sA, if_neg (show ¬ (13 = 14) by decide)]; rw [g3 13 t (by decide) (by decide)]; exact h13
  have x21 : gA S1 21 t = 0 := (g3 21 t (by decide) (by decide)).trans h21
  have c := s.2.2.2 t ht.1 ht.2 hn x21
  obtain ⟨r1, -, -, -, r5⟩ := gO_inv s.1 ht c.1 c.2.2.2 (Or.inr (Or.inl e13)) e
  exact ⟨r1, by rw [r5 2, s.2.1 2, g4 2]⟩
theorem it_g {S S2 S9 : mS} {t x : Int32} (h : mInv S) (ht : 0 ≤ t ∧ t < 8) (h13 : gA S 13 t = 3) (e2 : S2 = sA S 14 t x) (e : S9 = sA (sA (sA S2 16 t (-1)) 15 t (gA S2 15 t + 1)) 13 t (if gA S2 12 t ≤ gA S2 15 t + 1 then 4 else 1)) : mInv S9 ∧ gI S9 2 = gI S 2 := by
  have s := st_irr (stp_rf h) e2 (by simp [smK])
  have e13 : gA S2 13 t = 3 := by rw [e2]; simp only [gA_sA, if_neg (show ¬ (13 = 14) by decide)]; exact h13
  exact pb_t (pb_s s) (tk_g s.1 ht e13 e)

theorem dr_inv {S S1 S2 : mS} {b : Int32} (h : mInv S) (hb : 0 ≤ b ∧ b < 24) (c1 : ¬ 0 < gA S 33 b) (c2 : gA S 35 b ≤ 0) (e1 : S1 = sI S 0 0) (e2 : S2 = sA S1 28 b 0) : mInv S2 ∧ gI S2 2 = gI S 2 := by
  have o := h.2.2.2.1 b hb.1 hb.2
  have z33 : gA S 33 b = 0 := by have q := o.1; clear h o; grind
  have z35 : gA S 35 b = 0 := by have q := o.2.1; clear h o; grind
  have ea : ∀ k q, k ≠ 28 → gA S2 k q = gA S k q := fun k q hk => by rw [e2, gA_sA, if_neg hk, e1]; rfl
  refine ⟨ob_inv hb h (Or.inr z35) ((ea 33 b (by decide)).trans z33) ((ea 35 b (by decide)).trans z35) (by rw [ea 31 b (by decide)]; exact o.2.2.1) (fun q => ?_) (fun k q hk => ea k q (by rcases hk with rfl | rfl | rfl | rfl | rfl | rfl | rfl | rfl | rfl <;> decide)) (fun k d hk hd => ?_) ?_, by rw [e2, e1]; rfl⟩
  · rw [e2] at q; simp [gA_sA] at q
  · rw [e2, e1]; rcases hk with rfl | rfl | rfl | rfl | rfl | rfl <;> simp [gA_sA, gA_sI, hd]
  · unfold iT; rw [show gI S2 2 = gI S 2 by rw [e2, e1]; rfl, show gI S2 26 = gI S 26 by rw [e2, e1]; rfl]; exact h.1
theorem mk_inv {S S1 S2 S3 S4 S5 S6 S7 S8 : mS} {b k y z : Int32} (h : mInv S) (hb : 0 ≤ b ∧ b < 24) (hk0 : gA S 28 b = 0) (hy : k = 4 → 0 ≤ y ∧ y ≤ 100) (e1 : S1 = sI S 0 0) (e2 : S2 = sA S1 28 b (k + 1)) (e3 : S3 = sA S2 29 b y) (e4 : S4 = sA S3 30 b z) (e5 : S5 = sA S4 31 b (-1)) (e6 : S6 = sA S5 33 b 0) (e7 : S7 = sA S6 35 b 0) (e8 : S8 = sA S7 37 b 0) : mInv S8 ∧ gI S8 2 = gI S 2 := by
  refine ⟨ob_inv hb h (Or.inl (by rw [hk0]; decide)) (by rw [e8, e7, e6]; simp [gA_sA]) (by rw [e8, e7]; simp [gA_sA]) (by rw [e8, e7, e6, e5]; simp [gA_sA]) (fun q => ?_) (fun j q hj => by rw [e8, e7, e6, e5, e4, e3, e2, e1]; rcases hj with rfl | rfl | rfl | rfl | rfl | rfl | rfl | rfl | rfl <;> simp [gA_sA, gA_sI]) (fun j d hj hd => by rw [e8, e7, e6, e5, e4, e3, e2, e1]; simp [gA_sA, gA_sI, hd]) ?_, by rw [e8, e7, e6, e5, e4, e3, e2, e1]; rfl⟩
  · have q2 : k + 1 = 5 := by rw [e8, e7, e6, e5, e4, e3, e2] at q; simp [gA_sA] at q; exact q
    have q3 : k = 4 := by clear h hy e1 e2 e3 e4 e5 e6 e7 e8 q; grind
    have g37 : gA S8 37 b = 0 := by rw [e8]; simp [gA_sA]
    have g29 : gA S8 29 b = y := by rw [e8, e7, e6, e5, e4, e3]; simp [gA_sA]
    rw [g37, g29]; exact ⟨by decide, (hy q3).1, (hy q3).2⟩
  · unfold iT; rw [show gI S8 2 = gI S 2 by rw [e8, e7, e6, e5, e4, e3, e2, e1]; rfl, show gI S8 26 = gI S 26 by rw [e8, e7, e6, e5, e4, e3, e2, e1]; rfl]; exact h.1
theorem a_100 {x : Int32} (h : 1 ≤ x ∧ x ≤ 100) : 0 ≤ x ∧ x ≤ 100 := by grind
theorem a_24 {x : Int32} (h0 : 0 ≤ x) (h1 : x ≤ 24) (h : ¬ x = 24) : 0 ≤ x ∧ x < 24 := by grind
theorem a_e24 {x : Int32} (h1 : x ≤ 24) (h : 24 ≤ x) : x = 24 := by grind


/-! the reference: steps that keep the invariant, and those that stand in no row -/
def stp (S S9 : mS) : Prop := mInv S9 ∧ (∀ k, gI S9 k = gI S k) ∧ (∀ k i, k = 11 ∨ k = 12 ∨ k = 28 → gA S9 k i = gA S k i) ∧
  (∀ u, 0 ≤ u → u < 8 → nR S u → gA S 21 u = 0 → nR S9 u ∧ gA S9 13 u = gA S 13 u ∧ gA S9 15 u = gA S 15 u ∧ gA S9 21 u = 0)
theorem stp_rf {S : mS} (h : mInv S) : stp S S := ⟨h, fun _ => rfl, fun _ _ _ => rfl, fun _ _ _ a b => ⟨a, rfl, rfl, b⟩⟩
theorem stp_tr {S S1 S2 : mS} (a : stp S S1) (b : stp S1 S2) : stp S S2 := by
  obtain ⟨a1, a2, a3, a4⟩ := a
  obtain ⟨b1, b2, b3, b4⟩ := b
  refine ⟨b1, fun k => (b2 k).trans (a2 k), fun k i h => (b3 k i h).trans (a3 k i h), fun u u0 u1 hn h21 => ?_⟩
  obtain ⟨c1, c2, c3, c4⟩ := a4 u u0 u1 hn h21
  obtain ⟨d1, d2, d3, d4⟩ := b4 u u0 u1 c1 c4
  exact ⟨d1, d2.trans c2, d3.trans c3, d4⟩
theorem iT_of {S S9 : mS} (h : mInv S) (hI : ∀ k, gI S9 k = gI S k) : iT S9 := by
  unfold iT; rw [hI, hI]; exact h.1
theorem stp_sm {S S9 : mS} (h : mInv S) (hI : ∀ k, gI S9 k = gI S k) (hs : ∀ k i, smK k → gA S9 k i = gA S k i) : stp S S9 := by
  refine ⟨mInv_sm h (iT_of h hI) hs, hI, fun k i hk => hs k i (by rcases hk with rfl | rfl | rfl <;> simp [smK]), fun u _ _ hn h21 => ⟨fun d i => ?_, hs 13 u (by simp [smK]), hs 15 u (by simp [smK]), (hs 21 u (by simp [smK])).trans h21⟩⟩
  rw [hs 33 d (by simp [smK]), hs 32 _ (by simp [smK])]; exact hn d i
theorem stp_ow {S S9 : mS} {b : Int32} (h : mInv S) (hI : ∀ k, gI S9 k = gI S k) (e31 : -1 ≤ gA S9 31 b ∧ gA S9 31 b < 8) (e5 : gA S 28 b = 5 → 0 ≤ gA S9 37 b ∧ gA S9 37 b ≤ gA S9 29 b ∧ gA S9 29 b ≤ 100)
    (f1 : ∀ k q, smK k → k ≠ 29 → k ≠ 31 → k ≠ 37 → gA S9 k q = gA S k q) (f2 : ∀ k d, k = 29 ∨ k = 31 ∨ k = 37 → d ≠ b → gA S9 k d = gA S k d) : stp S S9 := by
  refine ⟨ow_inv h e31 e5 f1 f2 (iT_of h hI), hI, fun k i hk => f1 k i (by rcases hk with rfl | rfl | rfl <;> simp [smK]) (by rcases hk with rfl | rfl | rfl <;> decide) (by rcases hk with rfl | rfl | rfl <;> decide) (by rcases hk with rfl | rfl | rfl <;> decide), fun u _ _ hn h21 => ⟨fun d i => ?_, f1 13 u (by simp [smK]) (by decide) (by decide) (by decide), f1 15 u (by simp [smK]) (by decide) (by decide) (by decide), (f1 21 u (by simp [smK]) (by decide) (by decide) (by decide)).trans h21⟩⟩
  rw [f1 33 d (by simp [smK]) (by decide) (by decide) (by decide), f1 32 _ (by simp [smK]) (by decide) (by decide) (by decide)]; exact hn d i
/-- a thread in no row: where it stands -/
theorem at_of {S : mS} {t : Int32} (h : mInv S) (ht : 0 ≤ t ∧ t < 8) (h13 : gA S 13 t = 1 ∨ gA S 13 t = 2 ∨ gA S 13 t = 3) : 0 ≤ gA S 15 t ∧ gA S 15 t < gA S 12 t ∧ gA S 12 t ≤ 60 :=
  (h.2.1 t ht.1 ht.2).1 (by rcases h13 with q | q | q <;> rw [q] <;> decide) (by rcases h13 with q | q | q <;> rw [q] <;> decide)
theorem lines_of {S S9 : mS} {t : Int32} (h : mInv S) (ht : 0 ≤ t ∧ t < 8) (e11 : ∀ i, gA S9 11 i = gA S 11 i) (e12 : gA S9 12 t = gA S 12 t) : ∀ k, 0 ≤ k → k < 60 → k < gA S9 12 t → 2 ≤ gA S9 11 (240 * t + 4 * k) → gA S9 11 (240 * t + 4 * k) ≤ 4 → 0 ≤ gA S9 11 (240 * t + 4 * k + 1) := by
  intro k; rw [e11, e11, e12]; exact fun k0 k1 => h.2.2.1 t k ht.1 ht.2 k0 k1
/-- state, place and what it waits for of a thread in no row change -/
theorem th_inv {S S9 : mS} {t : Int32} (h : mInv S) (ht : 0 ≤ t ∧ t < 8) (hn : nR S t) (h21 : gA S 21 t = 0) (hI : ∀ k, gI S9 k = gI S k)
    (fo : ∀ k i, smK k → k ≠ 13 → k ≠ 15 → k ≠ 16 → gA S9 k i = gA S k i) (ft : ∀ k u, k = 13 ∨ k = 15 ∨ k = 16 → u ≠ t → gA S9 k u = gA S k u)
    (q1 : 1 ≤ gA S9 13 t → gA S9 13 t ≤ 3 → 0 ≤ gA S9 15 t ∧ gA S9 15 t < gA S 12 t ∧ gA S 12 t ≤ 60) (q2 : gA S9 13 t = 2 → 0 ≤ gA S9 16 t ∧ gA S9 16 t < 24) : mInv S9 ∧ (∀ u, nR S u → nR S9 u) := by
  have e12 : ∀ i, gA S9 12 i = gA S 12 i := fun i => fo 12 i (by simp [smK]) (by decide) (by decide) (by decide)
  have e11 : ∀ i, gA S9 11 i = gA S 11 i := fun i => fo 11 i (by simp [smK]) (by decide) (by decide) (by decide)
  have e21 : ∀ i, gA S9 21 i = gA S 21 i := fun i => fo 21 i (by simp [smK]) (by decide) (by decide) (by decide)
  have e22 : ∀ i, gA S9 22 i = gA S 22 i := fun i => fo 22 i (by simp [smK]) (by decide) (by decide) (by decide)
  refine ⟨mInv_loc h (iT_of h hI) ht hn h21 ((e21 t).trans h21) ?_ ?_ (fun u q _ _ _ _ _ => e11 _) ?_ q2 (lines_of h ht e11 (e12 t)), fun u hu d i => ?_⟩
  · intro k i hk
    rcases hk with rfl | rfl | rfl | rfl | rfl | rfl | rfl | rfl <;> exact fo _ i (by simp [smK]) (by decide) (by decide) (by decide)
  · intro k u hk hu
    rcases hk with rfl | rfl | rfl | rfl | rfl | rfl
    · exact e12 u
    · exact ft 13 u (by simp) hu
    · exact ft 15 u (by simp) hu
    · exact ft 16 u (by simp) hu
    · exact e21 u
    · exact e22 u
  · rw [e12]; exact q1
  · rw [fo 33 d (by simp [smK]) (by decide) (by decide) (by decide), fo 32 _ (by simp [smK]) (by decide) (by decide) (by decide)]; exact hu d i
theorem gO_inv {S S9 : mS} {t : Int32} (h : mInv S) (ht : 0 ≤ t ∧ t < 8) (hn : nR S t) (h21 : gA S 21 t = 0) (h13 : gA S 13 t = 1 ∨ gA S 13 t = 2 ∨ gA S 13 t = 3)
    (e : S9 = sA (sA (sA S 16 t (-1)) 15 t (gA S 15 t + 1)) 13 t (if gA S 12 t ≤ gA S 15 t + 1 then 4 else 1)) : mInv S9 ∧ (∀ u, nR S u → nR S9 u) ∧ (∀ k i, k ≠ 13 → k ≠ 15 → k ≠ 16 → gA S9 k i = gA S k i) ∧ (∀ k u, u ≠ t → gA S9 k u = gA S k u) ∧ (∀ k, gI S9 k = gI S k) := by
  have hat := at_of h ht h13
  have eo : ∀ k i, k ≠ 13 → k ≠ 15 → k ≠ 16 → gA S9 k i = gA S k i := fun k i a1 a2 a3 => by rw [e]; simp [gA_sA, a1, a2, a3]
  have eu : ∀ k u, u ≠ t → gA S9 k u = gA S k u := fun k u hu => by rw [e]; simp [gA_sA, hu]
  have eI : ∀ k, gI S9 k = gI S k := fun k => by rw [e]; rfl
  have e15 : gA S9 15 t = gA S 15 t + 1 := by rw [e]; simp [gA_sA]
  have e13 : gA S9 13 t = if gA S 12 t ≤ gA S 15 t + 1 then 4 else 1 := by rw [e]; simp [gA_sA]
  have r := th_inv h ht hn h21 eI (fun k i _ a1 a2 a3 => eo k i a1 a2 a3) (fun k u _ hu => eu k u hu) (by rw [e13, e15]; clear eo eu eI e e15 e13 hn h21 h; split <;> grind) (by rw [e13]; clear eo eu eI e e15 e13 hn h21 h; split <;> intro q <;> exact absurd q (by decide))
  exact ⟨r.1, r.2, eo, eu, eI⟩
theorem pre_lv {S : mS} {b : Int32} (hb : 0 ≤ b ∧ b < 24) (h : mInv S) : 0 ≤ gA S 33 b ∧ gA S 33 b ≤ 8 := (h.2.2.2.1 b hb.1 hb.2).1
theorem rd_lv {S : mS} {b : Int32} (hb : 0 ≤ b ∧ b < 24) (h : mInv S) : rdis S 32 33 b := rdis1 hb (pre_lv hb h).2 h.2.2.2.2.2.1
/-- one that stands in the row of b -/
theorem in_row {S : mS} {b t : Int32} (hb : 0 ≤ b ∧ b < 24) (h : mInv S) (hi : ∃ i, 0 ≤ i ∧ i < gA S 33 b ∧ gA S 32 (8 * b + i) = t) : (0 ≤ t ∧ t < 8) ∧ gA S 21 t = 0 ∧ (gA S 13 t = 1 ∨ gA S 13 t = 2 ∨ gA S 13 t = 3) := by
  obtain ⟨i, i0, i1, i2⟩ := hi
  have m := h.2.2.2.2.1 b i hb.1 hb.2 i0 i1
  rw [i2] at m
  exact ⟨⟨m.1, m.2.1⟩, m.2.2.1, by rcases m.2.2.2 with q | q; exact Or.inr (Or.inl q.1); exact Or.inl q.1⟩
theorem not_in {S : mS} {b t u : Int32} (hb : 0 ≤ b ∧ b < 24) (hi : ∃ i, 0 ≤ i ∧ i < gA S 33 b ∧ gA S 32 (8 * b + i) = t) (hu : nR S u) : u ≠ t := by
  obtain ⟨i, i0, i1, i2⟩ := hi
  intro e; subst e; exact hu b i hb.1 hb.2 i0 i1 i2
/-- t, of the row of b, leaves it and goes on -/
theorem lg_inv {S S1 S2 : mS} {b t : Int32} (hb : 0 ≤ b ∧ b < 24) (h : mInv S) (hi : ∃ i, 0 ≤ i ∧ i < gA S 33 b ∧ gA S 32 (8 * b + i) = t) (hp : lvP S S1 32 33 b t)
    (e : S2 = sA (sA (sA S1 16 t (-1)) 15 t (gA S1 15 t + 1)) 13 t (if gA S1 12 t ≤ gA S1 15 t + 1 then 4 else 1)) :
    stp S S2 ∧ (0 ≤ gA S2 33 b ∧ gA S2 33 b < gA S 33 b) ∧ (∀ k i, k ≠ 13 → k ≠ 15 → k ≠ 16 → k ≠ 32 → k ≠ 33 → gA S2 k i = gA S k i) := by
  obtain ⟨ht, h21, h13⟩ := in_row hb h hi
  obtain ⟨l1, l2, l3⟩ := lv_inv hb h hp
  obtain ⟨g1, g2, g3, g4, g5, g6, g7, g8, g9, g10, g11⟩ := lvP_f (by decide) hp
  have x21 : gA S1 21 t = 0 := (g3 21 t (by decide) (by decide)).trans h21
  have x13 : gA S1 13 t = 1 ∨ gA S1 13 t = 2 ∨ gA S1 13 t = 3 := by rw [g3 13 t (by decide) (by decide)]; exact h13
  obtain ⟨r1, r2, r3, r4, r5⟩ := gO_inv l1 ht (l3 hi) x21 x13 e
  refine ⟨⟨r1, fun k => (r5 k).trans (g4 k), ?_, ?_⟩, ?_, ?_⟩
  · intro k i hk
    rcases hk with rfl | rfl | rfl <;> rw [r3 _ i (by decide) (by decide) (by decide), g3 _ i (by decide) (by decide)]
  · intro u u0 u1 hn hu21
    have hne := not_in hb hi hn
    refine ⟨r2 u (l2 u hn), ?_, ?_, ?_⟩
    · rw [r4 13 u hne, g3 13 u (by decide) (by decide)]
    · rw [r4 15 u hne, g3 15 u (by decide) (by decide)]
    · rw [r4 21 u hne, g3 21 u (by decide) (by decide)]; exact hu21
  · rw [r3 33 b (by decide) (by decide) (by decide)]
    obtain ⟨i, i0, i1, i2⟩ := hi
    have := g11 i i0 i1 i2
    have l8 := pre_lv hb h
    refine ⟨g1.1, ?_⟩
    clear g2 g3 g4 g5 g6 g7 g8 g9 g10 g11 l1 l2 l3 r1 r2 r3 r4 r5 h hp e; grind
  · intro k i a1 a2 a3 a4 a5
    rw [r3 k i a1 a2 a3, g3 k i a4 a5]
/-- afterWait of one that is in no second row -/
theorem aw_inv {S S9 : mS} {t y : Int32} (h : mInv S) (h21 : gA S 21 t = 0) (hI : ∀ k, gI S9 k = gI S k) (hs : ∀ k i, smK k → k ≠ 22 → gA S9 k i = gA S k i) (h22 : ∀ u, u ≠ t → gA S9 22 u = gA S 22 u) : stp S S9 := by
  have o : ∀ k, smK k → k ≠ 22 → ∀ i, gA S9 k i = gA S k i := fun k a b i => hs k i a b
  have o11 := o 11 (by simp [smK]) (by decide)
  have o12 := o 12 (by simp [smK]) (by decide)
  have o13 := o 13 (by simp [smK]) (by decide)
  have o15 := o 15 (by simp [smK]) (by decide)
  have o16 := o 16 (by simp [smK]) (by decide)
  have o21 := o 21 (by simp [smK]) (by decide)
  have o28 := o 28 (by simp [smK]) (by decide)
  have o29 := o 29 (by simp [smK]) (by decide)
  have o31 := o 31 (by simp [smK]) (by decide)
  have o32 := o 32 (by simp [smK]) (by decide)
  have o33 := o 33 (by simp [smK]) (by decide)
  have o34 := o 34 (by simp [smK]) (by decide)
  have o35 := o 35 (by simp [smK]) (by decide)
  have o37 := o 37 (by simp [smK]) (by decide)
  have hT := iT_of h hI
  obtain ⟨-, h2, h3, h4, h5, h6, h7, h8⟩ := h
  refine ⟨⟨hT, ?_, ?_, ?_, ?_, ?_, ?_, ?_⟩, hI, ?_, ?_⟩
  · intro t; simp only [o12, o13, o15, o16, o21, o34, o35]; exact h2 t
  · intro t k; simp only [o11, o12]; exact h3 t k
  · intro b; simp only [o28, o29, o31, o33, o35, o37]; exact h4 b
  · intro b i; simp only [mem1, o13, o16, o21, o28, o32, o33]; exact h5 b i
  · intro b i d j; simp only [o32, o33]; exact h6 b i d j
  · intro b i; rw [o35, o34]
    intro b0 b1 i0 i1
    have m := h7 b i b0 b1 i0 i1
    have hu : gA S 34 (8 * b + i) ≠ t := fun q => by unfold mem2 at m; rw [q] at m; exact m.2.2.2.2.1 h21
    unfold mem2 at m ⊢
    rw [o13, o16, o21, o28, h22 _ hu]; exact m
  · intro b b0 b1; unfold rdis; simp only [o34, o35]; exact h8 b b0 b1
  · intro k i hk; rcases hk with rfl | rfl | rfl
    · exact o11 i
    · exact o12 i
    · exact o28 i
  · intro u _ _ hn h21u
    exact ⟨fun d i => by rw [o33, o32]; exact hn d i, o13 u, o15 u, (o21 u).trans h21u⟩
/-- has(b, t), before t leaves the row -/
theorem has_j {S S1 S2 S3 S4 : mS} {b t x y : Int32} (hb : 0 ≤ b ∧ b < 24) (h : mInv S) (hk : gA S 28 b = 1) (hi : ∃ i, 0 ≤ i ∧ i < gA S 33 b ∧ gA S 32 (8 * b + i) = t) (e1 : S1 = sA S 31 b t) (e2 : S2 = sA S1 29 b x) (e3 : S3 = S2 ∨ ∃ z, S3 = sA S2 14 t z) (e4 : S4 = sA S3 22 t y) :
    stp S S4 ∧ (∀ k i, k ≠ 14 → k ≠ 22 → k ≠ 29 → k ≠ 31 → gA S4 k i = gA S k i) := by
  obtain ⟨ht, h21, -⟩ := in_row hb h hi
  have a2 : stp S S2 := by
    refine stp_ow (b := b) h (fun k => by rw [e2, e1]; rfl) ?_ (fun q => by rw [hk] at q; exact absurd q (by decide)) ?_ ?_
    · rw [e2, e1]; simp [gA_sA]; clear h hi e1 e2 e3 e4; grind
    · intro k q _ k29 k31 k37; rw [e2, e1]; simp [gA_sA, k29, k31]
    · intro k d hk2 hd; rw [e2, e1]; simp [gA_sA, hd]
  have b2 : ∀ k i, k ≠ 29 → k ≠ 31 → gA S2 k i = gA S k i := fun k i k29 k31 => by rw [e2, e1]; simp [gA_sA, k29, k31]
  have c3 : (∀ k i, k ≠ 14 → gA S3 k i = gA S2 k i) ∧ (∀ k, gI S3 k = gI S2 k) := by
    rcases e3 with e3 | ⟨z, e3⟩
    · rw [e3]; exact ⟨fun _ _ _ => rfl, fun _ => rfl⟩
    · rw [e3]; exact ⟨fun k i hk2 => by simp [gA_sA, hk2], fun _ => rfl⟩
  have a4 : stp S2 S4 := by
    refine aw_inv (t := t) (y := y) a2.1 ((b2 21 t (by decide) (by decide)).trans h21) (fun k => by rw [e4, gI_sA]; exact c3.2 k) ?_ ?_
    · intro k i hs k22
      rw [e4, gA_sA, if_neg k22]
      exact c3.1 k i (by rcases hs with rfl | rfl | rfl | rfl | rfl | rfl | rfl | rfl | rfl | rfl | rfl | rfl | rfl | rfl | rfl <;> decide)
    · intro u hu; rw [e4, gA_sA, if_pos rfl, if_neg hu]; exact c3.1 22 u (by decide)
  refine ⟨stp_tr a2 a4, fun k i k14 k22 k29 k31 => ?_⟩
  rw [e4, gA_sA, if_neg k22, c3.1 k i k14]; exact b2 k i k29 k31

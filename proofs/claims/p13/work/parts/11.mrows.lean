/-! the reference: what taking out, waiting and signalling do to the invariant -/
theorem lvP_f {S S9 : mS} {kr kl : Nat} {b t : Int32} (hk : kl ≠ kr) (h : lvP S S9 kr kl b t) :
    (0 ≤ gA S9 kl b ∧ gA S9 kl b ≤ gA S kl b) ∧ (∀ d, d ≠ b → gA S9 kl d = gA S kl d) ∧ (∀ k i, k ≠ kr → k ≠ kl → gA S9 k i = gA S k i) ∧ (∀ k, gI S9 k = gI S k) ∧ (∀ k, gJ S9 k = gJ S k) ∧ (∀ k i, gL S9 k i = gL S k i) ∧
    (∀ j, (j < 8 * b ∨ 8 * b + gA S9 kl b ≤ j) → gA S9 kr j = gA S kr j) ∧
    (∀ q, 0 ≤ q → q < gA S9 kl b → gA S9 kr (8 * b + q) ≠ t ∧ ∃ j, 0 ≤ j ∧ j < gA S kl b ∧ gA S9 kr (8 * b + q) = gA S kr (8 * b + j)) ∧ rdis S9 kr kl b ∧
    (∀ j, 0 ≤ j → j < gA S kl b → gA S kr (8 * b + j) ≠ t → ∃ q, 0 ≤ q ∧ q < gA S9 kl b ∧ gA S9 kr (8 * b + q) = gA S kr (8 * b + j)) ∧
    (∀ j, 0 ≤ j → j < gA S kl b → gA S kr (8 * b + j) = t → gA S9 kl b + 1 = gA S kl b) := by
  obtain ⟨SL, ⟨h1, h2, h3, h4, h5, h6, h7, h8, h9, h10, -⟩, e⟩ := h
  have er : ∀ j, gA S9 kr j = gA SL kr j := fun j => by rw [e, gA_sA, if_neg (Ne.symm hk)]
  refine ⟨⟨h1.1, h1.2.1⟩, ?_, ?_, ?_, ?_, ?_, ?_, ?_, ?_, ?_, h10⟩
  · intro d hd; rw [e, gA_sA, if_pos rfl, if_neg hd]; exact h2 kl d hk
  · intro k i hkr hkl; rw [e, gA_sA, if_neg hkl]; exact h2 k i hkr
  · intro k; rw [e, gI_sA]; exact h3 k
  · intro k; rw [e, gJ_sA]; exact h4 k
  · intro k i; rw [e, gL_sA]; exact h5 k i
  · intro j hj; rw [er]; exact h6 j hj
  · intro q q0 q1; rw [er]; exact h7 q q0 q1
  · intro i j i0 ij jn; rw [er, er]; exact h8 i j i0 ij jn
  · intro j j0 j1 j2
    obtain ⟨q, g1, g2, g3⟩ := h9 j j0 j1 j2
    exact ⟨q, g1, g2, by rw [er]; exact g3⟩
theorem a_row {b d i j : Int32} (hb : 0 ≤ b ∧ b < 24) (hd : 0 ≤ d ∧ d < 24) (hi : 0 ≤ i ∧ i < 8) (hj : 0 ≤ j ∧ j ≤ 8) (hne : d ≠ b) : 8 * d + i < 8 * b ∨ 8 * b + j ≤ 8 * d + i := by
  rcases (show d < b ∨ b < d by grind) with h | h
  · left; have h2 : d + 1 ≤ b := by grind
    grind
  · right; have h2 : b + 1 ≤ d := by grind
    grind
/-- the row of another is the same behind taking out of b's -/
theorem lvP_o {S S9 : mS} {kr kl : Nat} {b t d i : Int32} (hk : kl ≠ kr) (hb : 0 ≤ b ∧ b < 24) (hl : gA S kl b ≤ 8) (h : lvP S S9 kr kl b t) (hd : 0 ≤ d ∧ d < 24) (hi : 0 ≤ i ∧ i < 8) (hne : d ≠ b) : gA S9 kr (8 * d + i) = gA S kr (8 * d + i) := by
  obtain ⟨h1, -, -, -, -, -, h7, -⟩ := lvP_f hk h
  exact h7 _ (a_row hb hd hi ⟨h1.1, by clear h7 h; grind⟩ hne)
theorem lv_inv {S S9 : mS} {b t : Int32} (hb : 0 ≤ b ∧ b < 24) (h : mInv S) (hp : lvP S S9 32 33 b t) : mInv S9 ∧ (∀ u, nR S u → nR S9 u) ∧ ((∃ i, 0 ≤ i ∧ i < gA S 33 b ∧ gA S 32 (8 * b + i) = t) → nR S9 t) := by
  obtain ⟨g1, g2, g3, g4, g5, g6, g7, g8, g9, g10, g11⟩ := lvP_f (by decide) hp
  obtain ⟨h1, h2, h3, h4, h5, h6, h7, h8⟩ := h
  have hl8 : gA S 33 b ≤ 8 := ((h4 b hb.1 hb.2).1).2
  -- an entry of a row was an entry of the same row
  have key : ∀ d i, 0 ≤ d → d < 24 → 0 ≤ i → i < gA S9 33 d → ∃ j, 0 ≤ j ∧ j < gA S 33 d ∧ gA S9 32 (8 * d + i) = gA S 32 (8 * d + j) ∧ (d = b → gA S9 32 (8 * d + i) ≠ t) ∧ (d ≠ b → j = i) := by
    intro d i d0 d1 i0 i1
    by_cases hd : d = b
    · subst hd
      obtain ⟨a1, j, a2, a3, a4⟩ := g8 i i0 i1
      exact ⟨j, a2, a3, a4, fun _ => a1, fun q => absurd rfl q⟩
    · rw [g2 d hd] at i1
      have l8 := ((h4 d d0 d1).1).2
      exact ⟨i, i0, i1, lvP_o (by decide) hb hl8 hp ⟨d0, d1⟩ ⟨i0, by clear g2 g3 g4 g5 g6 g7 g8 g9 g10 g11 h2 h3 h4 h5 h6 h7 h8 hp; grind⟩ hd, fun q => absurd q hd, fun _ => rfl⟩
  have e28 : ∀ i, gA S9 28 i = gA S 28 i := fun i => g3 28 i (by decide) (by decide)
  have nr : ∀ u, nR S u → nR S9 u := by
    intro u hu d i d0 d1 i0 i1
    obtain ⟨j, a1, a2, a3, -⟩ := key d i d0 d1 i0 i1
    rw [a3]; exact hu d j d0 d1 a1 a2
  refine ⟨⟨?_, ?_, ?_, ?_, ?_, ?_, ?_, ?_⟩, nr, ?_⟩
  · unfold iT; rw [g4, g4]; exact h1
  · intro u; rw [g3 12 _ (by decide) (by decide), g3 13 _ (by decide) (by decide), g3 15 _ (by decide) (by decide), g3 16 _ (by decide) (by decide), g3 21 _ (by decide) (by decide), g3 35 _ (by decide) (by decide)]
    intro u0 u1
    obtain ⟨a1, a2, a3⟩ := h2 u u0 u1
    refine ⟨a1, a2, fun q => ?_⟩
    obtain ⟨a4, i, a5, a6, a7⟩ := a3 q
    exact ⟨a4, i, a5, a6, by rw [g3 34 _ (by decide) (by decide)]; exact a7⟩
  · intro u k; rw [g3 11 _ (by decide) (by decide), g3 11 _ (by decide) (by decide), g3 12 _ (by decide) (by decide)]; exact h3 u k
  · intro d d0 d1
    obtain ⟨a1, a2, a3, a4⟩ := h4 d d0 d1
    rw [e28, g3 29 _ (by decide) (by decide), g3 31 _ (by decide) (by decide), g3 35 _ (by decide) (by decide), g3 37 _ (by decide) (by decide)]
    refine ⟨?_, a2, a3, a4⟩
    by_cases hd : d = b
    · subst hd; exact ⟨g1.1, by clear g2 g3 g4 g5 g6 g7 g8 g9 g10 g11 h2 h3 h4 h5 h6 h7 h8 hp key nr e28; grind⟩
    · rw [g2 d hd]; exact a1
  · intro d i d0 d1 i0 i1
    obtain ⟨j, a1, a2, a3, -⟩ := key d i d0 d1 i0 i1
    rw [a3]
    have m := h5 d j d0 d1 a1 a2
    unfold mem1 at m ⊢
    rw [g3 13 _ (by decide) (by decide), g3 16 _ (by decide) (by decide), g3 21 _ (by decide) (by decide), e28]
    exact m
  · intro d i f j d0 d1 i0 i1 f0 f1 j0 j1 he
    obtain ⟨i', a1, a2, a3, a4, a5⟩ := key d i d0 d1 i0 i1
    obtain ⟨j', b1, b2, b3, b4, b5⟩ := key f j f0 f1 j0 j1
    obtain ⟨c1, c2⟩ := h6 d i' f j' d0 d1 a1 a2 f0 f1 b1 b2 (by rw [← a3, ← b3]; exact he)
    subst c1
    refine ⟨rfl, ?_⟩
    by_cases hd : d = b
    · subst hd
      rcases (show i < j ∨ i = j ∨ j < i by clear g2 g3 g4 g5 g6 g7 g8 g9 g10 g11 h2 h3 h4 h5 h6 h7 h8 hp key nr e28 a3 a4 a5 b3 b4 b5 he; grind) with q | q | q
      · exact absurd he (g9 i j i0 q j1)
      · exact q
      · exact absurd he.symm (g9 j i j0 q i1)
    · rw [← a5 hd, ← b5 hd]; exact c2
  · intro d i; rw [g3 35 _ (by decide) (by decide), g3 34 _ (by decide) (by decide)]
    intro d0 d1 i0 i1
    have m := h7 d i d0 d1 i0 i1
    unfold mem2 at m ⊢
    rw [g3 13 _ (by decide) (by decide), g3 16 _ (by decide) (by decide), g3 21 _ (by decide) (by decide), g3 22 _ (by decide) (by decide), e28]
    exact m
  · intro d d0 d1 i j; rw [g3 35 _ (by decide) (by decide), g3 34 _ (by decide) (by decide), g3 34 _ (by decide) (by decide)]; exact h8 d d0 d1 i j
  · rintro ⟨i, i0, i1, i2⟩ d q d0 d1 q0 q1
    obtain ⟨j, a1, a2, a3, a4, -⟩ := key d q d0 d1 q0 q1
    by_cases hd : d = b
    · exact a4 hd
    · intro he
      exact hd (h6 d j b i d0 d1 a1 a2 hb.1 hb.2 i0 i1 (by rw [← a3, he, i2])).1

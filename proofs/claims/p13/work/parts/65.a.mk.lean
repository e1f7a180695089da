/-! both side by side: make; other addresses for what isn't there -/
def lv (S : mS) (k : Nat) (i : Int32) : Prop := ((k = 0 ∨ k = 1) ∧ 0 ≤ i ∧ i < 8) ∨ ((8 ≤ k ∧ k ≤ 13) ∧ i = 0) ∨ ((k = 2 ∨ k = 3 ∨ k = 4) ∧ 0 ≤ i ∧ i < 24 ∧ gA S 28 i ≠ 0) ∨ ((k = 5 ∨ k = 6) ∧ 0 ≤ i ∧ i < 24 ∧ gA S 28 i = 1) ∨ (k = 7 ∧ 0 ≤ i ∧ i < 24 ∧ gA S 28 i = 5)
/-- at what is there both views are one -/
def agX (ad : adT) (S : mS) (X Y : xS) : Prop := ∀ k i, lv S k i → (∀ j, xI Y (ad k i) j = xI X (ad k i) j) ∧ (∀ j, xJ Y (ad k i) j = xJ X (ad k i) j) ∧ (∀ j, xR Y (ad k i) j = xR X (ad k i) j) ∧ (∀ j, xA Y (ad k i) j = xA X (ad k i) j) ∧ (∀ j, xQ Y (ad k i) j = xQ X (ad k i) j) ∧ xC Y (ad k i) = xC X (ad k i)
theorem Sim_ch {ad ad2 : adT} {B : Int32} {S : mS} {X Y : xS} (h : Sim ad B S X) (hj2 : inj ad2) (he : ∀ k i, lv S k i → ad2 k i = ad k i) (hg : agX ad S X Y) : Sim ad2 B S Y := by
  obtain ⟨hm, hq, hj, h1, h2, h3, h4, h5, h6, h7, h8, h9, h10, h11⟩ := h
  have iQ1 := hm.2.1
  have iR1 := hm.2.2.2.2.1
  have iR2 := hm.2.2.2.2.2.2.1
  have j1 := hq.1
  have l8 : lv S 8 0 := Or.inr (Or.inl ⟨by decide, rfl⟩)
  have l9 : lv S 9 0 := Or.inr (Or.inl ⟨by decide, rfl⟩)
  have l10 : lv S 10 0 := Or.inr (Or.inl ⟨by decide, rfl⟩)
  have l11 : lv S 11 0 := Or.inr (Or.inl ⟨by decide, rfl⟩)
  have l12 : lv S 12 0 := Or.inr (Or.inl ⟨by decide, rfl⟩)
  have l13 : lv S 13 0 := Or.inr (Or.inl ⟨by decide, rfl⟩)
  have l0 : ∀ t, 0 ≤ t → t < 8 → lv S 0 t := fun t a b => Or.inl ⟨Or.inl rfl, a, b⟩
  have l1 : ∀ t, 0 ≤ t → t < 8 → lv S 1 t := fun t a b => Or.inl ⟨Or.inr rfl, a, b⟩
  have l2 : ∀ b, 0 ≤ b → b < 24 → gA S 28 b ≠ 0 → lv S 2 b := fun b a c d => Or.inr (Or.inr (Or.inl ⟨Or.inl rfl, a, c, d⟩))
  have l3 : ∀ b, 0 ≤ b → b < 24 → gA S 28 b ≠ 0 → lv S 3 b := fun b a c d => Or.inr (Or.inr (Or.inl ⟨Or.inr (Or.inl rfl), a, c, d⟩))
  have l4 : ∀ b, 0 ≤ b → b < 24 → gA S 28 b ≠ 0 → lv S 4 b := fun b a c d => Or.inr (Or.inr (Or.inl ⟨Or.inr (Or.inr rfl), a, c, d⟩))
  have l5 : ∀ b, 0 ≤ b → b < 24 → gA S 28 b = 1 → lv S 5 b := fun b a c d => Or.inr (Or.inr (Or.inr (Or.inl ⟨Or.inl rfl, a, c, d⟩)))
  have l6 : ∀ b, 0 ≤ b → b < 24 → gA S 28 b = 1 → lv S 6 b := fun b a c d => Or.inr (Or.inr (Or.inr (Or.inl ⟨Or.inr rfl, a, c, d⟩)))
  have l7 : ∀ b, 0 ≤ b → b < 24 → gA S 28 b = 5 → lv S 7 b := fun b a c d => Or.inr (Or.inr (Or.inr (Or.inr ⟨rfl, a, c, d⟩)))
  have rI : ∀ {k i} (l : lv S k i) (j), xI Y (ad k i) j = xI X (ad k i) j := fun l j => (hg _ _ l).1 j
  have rJ : ∀ {k i} (l : lv S k i) (j), xJ Y (ad k i) j = xJ X (ad k i) j := fun l j => (hg _ _ l).2.1 j
  have rR : ∀ {k i} (l : lv S k i) (j), xR Y (ad k i) j = xR X (ad k i) j := fun l j => (hg _ _ l).2.2.1 j
  have rA : ∀ {k i} (l : lv S k i) (j), xA Y (ad k i) j = xA X (ad k i) j := fun l j => (hg _ _ l).2.2.2.1 j
  have rQ : ∀ {k i} (l : lv S k i) (j), xQ Y (ad k i) j = xQ X (ad k i) j := fun l j => (hg _ _ l).2.2.2.2.1 j
  have rC : ∀ {k i} (l : lv S k i), xC Y (ad k i) = xC X (ad k i) := fun l => (hg _ _ l).2.2.2.2.2
  have mb1 : ∀ b i, 0 ≤ b → b < 24 → 0 ≤ i → i < gA S 33 b → (0 ≤ gA S 32 (8 * b + i) ∧ gA S 32 (8 * b + i) < 8) ∧ gA S 28 b ≠ 0 := fun b i b0 b1 i0 i1 => by
    have y := iR1 b i b0 b1 i0 i1
    exact ⟨⟨y.1, y.2.1⟩, (j1 b b0 b1).2.2.1 (by clear h1 h2 h3 h4 h5 h6 h7 h8 h9 h10 h11 hg he hm hq rI rJ rR rA rQ rC iQ1 iR1 iR2 j1 y; grind)⟩
  have mb2 : ∀ b i, 0 ≤ b → b < 24 → 0 ≤ i → i < gA S 35 b → (0 ≤ gA S 34 (8 * b + i) ∧ gA S 34 (8 * b + i) < 8) ∧ gA S 28 b = 1 := fun b i b0 b1 i0 i1 => by
    have y := iR2 b i b0 b1 i0 i1
    exact ⟨⟨y.1, y.2.1⟩, y.2.2.2.2.2.2⟩
  refine ⟨hm, hq, hj2, ?_, ?_, ?_, ?_, ?_, ?_, ?_, ?_, ?_, ?_, ?_⟩
  · obtain ⟨a1, a2, a3, a4, a5, a6, a7⟩ := h1
    unfold Rk
    rw [he 8 0 l8, he 9 0 l9, he 12 0 l12, he 13 0 l13, rR l8, rR l8, rR l8, rJ l8, rJ l8, rI l8]
    exact ⟨a1, a2, a3, a4, a5, a6, fun t t0 t1 => by rw [rQ l13, he 0 t (l0 t t0 t1)]; exact a7 t t0 t1⟩
  · obtain ⟨a1, a2, a3, a4, a5⟩ := h2
    unfold Rz
    rw [he 9 0 l9, he 10 0 l10, he 11 0 l11, rR l9, rI l9, rR l9]
    exact ⟨a1, a2, a3, fun i i0 i1 => by rw [rA l11]; exact a4 i i0 i1, a5⟩
  · intro t t0 t1
    have z := h3 t t0 t1
    rw [he 0 t (l0 t t0 t1), he 1 t (l1 t t0 t1)]
    simp only [rI (l0 t t0 t1), rJ (l0 t t0 t1), rR (l0 t t0 t1)]
    exact z
  · intro t k t0 t1 k0 k1 k2
    rw [he 1 t (l1 t t0 t1), show xA Y (ad 1 t) = xA X (ad 1 t) from funext (rA (l1 t t0 t1))]
    exact h4 t k t0 t1 k0 k1 k2
  · intro b i b0 b1 i0 i1
    have m := mb1 b i b0 b1 i0 i1
    rw [he 0 _ (l0 _ m.1.1 m.1.2), he 2 b (l2 b b0 b1 m.2), he 3 b (l3 b b0 b1 m.2), rR (l0 _ m.1.1 m.1.2), rR (l0 _ m.1.1 m.1.2)]
    exact h5 b i b0 b1 i0 i1
  · intro t te t0 t1 a b
    rw [he 0 t (l0 t t0 t1), rR (l0 t t0 t1), rR (l0 t t0 t1)]
    exact h6 t te t0 t1 a b
  · intro t t0 t1 a
    obtain ⟨s2, i, i0, i1, i2⟩ := (iQ1 t t0 t1).2.2 a
    have g16 := (iQ1 t t0 t1).2.1 s2
    have m := mb2 _ i g16.1 g16.2 i0 i1
    rw [he 0 t (l0 t t0 t1), he 2 _ (l2 _ g16.1 g16.2 (by rw [m.2]; decide)), he 5 _ (l5 _ g16.1 g16.2 m.2), rR (l0 t t0 t1), rR (l0 t t0 t1)]
    exact h7 t t0 t1 a
  · intro b b0 b1
    have z := h8 b b0 b1
    rw [he 12 0 l12, rQ l12]
    refine ⟨z.1, fun nk => ?_⟩
    obtain ⟨z1, z2⟩ := z.2 nk
    have a2 := l2 b b0 b1 nk
    have a3 := l3 b b0 b1 nk
    have a4 := l4 b b0 b1 nk
    refine ⟨by rw [he 2 b a2]; exact z1, ?_⟩
    obtain ⟨y1, y2, y3, y4, y5, y6, y7, y8, y9, y10, y11, y12⟩ := z2
    unfold rOb
    rw [he 2 b a2, he 3 b a3, he 4 b a4]
    simp only [rI a2, rR a2, rC a2, rR a3]
    refine ⟨y1, y2, y3, y4, y5, fun q => ?_, y7, fun q => ?_, y9, y10, y11, y12⟩
    · have a5 := l5 b b0 b1 q
      have a6 := l6 b b0 b1 q
      rw [he 5 b a5, he 6 b a6, rR a5]; exact y6 q
    · have a7 := l7 b b0 b1 q
      rw [he 7 b a7, rC a7]; exact y8 q
  · intro b b0 b1 nk
    have z := h9 b b0 b1 nk
    have a3 := l3 b b0 b1 nk
    have a4 := l4 b b0 b1 nk
    rw [he 3 b a3, rI a3, he 4 b a4]
    refine ⟨z.1, fun i i0 i1 => ?_⟩
    have m := mb1 b i b0 b1 i0 i1
    rw [rQ a4, he 0 _ (l0 _ m.1.1 m.1.2)]; exact z.2 i i0 i1
  · intro b b0 b1 nk
    have z := h10 b b0 b1 nk
    have a5 := l5 b b0 b1 nk
    have a6 := l6 b b0 b1 nk
    rw [he 5 b a5, rI a5, he 6 b a6]
    refine ⟨z.1, fun i i0 i1 => ?_⟩
    have m := mb2 b i b0 b1 i0 i1
    rw [rQ a6, he 0 _ (l0 _ m.1.1 m.1.2)]; exact z.2 i i0 i1
  · intro b b0 b1 nk
    have z := h11 b b0 b1 nk
    have a2 := l2 b b0 b1 (by rw [nk]; decide)
    have a7 := l7 b b0 b1 nk
    rw [he 2 b a2, rI a2, rI a2, he 7 b a7]
    refine ⟨z.1, z.2.1, fun i i0 i1 => ?_⟩
    rw [rA a7]; exact z.2.2 i i0 i1
/-- the OBJECT that is made: the reference -/
def mkS (S : mS) (b k f s : Int32) : mS := sA (sA (sA (sA (sA (sA (sA (sI S 0 0) 28 b k) 29 b f) 30 b s) 31 b (-1)) 33 b 0) 35 b 0) 37 b 0
/-- .. and the class: what lies at the addresses of b -/
def mkX (ad : adT) (X : xS) (b k f s : Int32) : Prop := rOb ad X b k f s (-1) ∧ xI X (ad 3 b) 0 = 0 ∧ (k = 1 → xI X (ad 5 b) 0 = 0) ∧ (k = 5 → xI X (ad 2 b) 5 = 0 ∧ 0 ≤ xI X (ad 2 b) 4 ∧ xI X (ad 2 b) 4 < f)
theorem Sim_mk {ad : adT} {B : Int32} {S : mS} {X : xS} {b k f s : Int32} (h : Sim ad B S X) (hb : 0 ≤ b ∧ b < 24) (hk : gA S 28 b = 0) (hx : mkX ad X b k f s) (hk0 : k ≠ 0) (m9 : mInv (mkS S b k f s)) (hob : jOb B k f s (-1) 0) : Sim ad B (mkS S b k f s) (xwQ X (ad 12 0) b (some (ad 2 b))) := by
  obtain ⟨hm, ⟨q1, q2, q3, q4, q5, q6⟩, hj, h1, h2, h3, h4, h5, h6, h7, h8, h9, h10, h11⟩ := h
  have r33 : ∀ i, 0 ≤ i → ¬ i < gA S 33 b := fun i i0 i1 => (q1 b hb.1 hb.2).2.2.1 (by clear h1 h2 h3 h4 h5 h6 h7 h8 h9 h10 h11 hm q1 q2 q3 q4 q5 q6 hx m9; grind) hk
  have fA : ∀ k9 i, k9 ≠ 28 → k9 ≠ 29 → k9 ≠ 30 → k9 ≠ 31 → k9 ≠ 33 → k9 ≠ 35 → k9 ≠ 37 → gA (mkS S b k f s) k9 i = gA S k9 i := fun k9 i a1 a2 a3 a4 a5 a6 a7 => by simp [mkS, gA_sA, gA_sI, a1, a2, a3, a4, a5, a6, a7]
  have fb : ∀ k9 d, d ≠ b → gA (mkS S b k f s) k9 d = gA S k9 d := fun k9 d hd => by simp [mkS, gA_sA, gA_sI, hd]
  have e11 := fun i => fA 11 i (by decide) (by decide) (by decide) (by decide) (by decide) (by decide) (by decide)
  have e12 := fun i => fA 12 i (by decide) (by decide) (by decide) (by decide) (by decide) (by decide) (by decide)
  have e13 := fun i => fA 13 i (by decide) (by decide) (by decide) (by decide) (by decide) (by decide) (by decide)
  have e14 := fun i => fA 14 i (by decide) (by decide) (by decide) (by decide) (by decide) (by decide) (by decide)
  have e15 := fun i => fA 15 i (by decide) (by decide) (by decide) (by decide) (by decide) (by decide) (by decide)
  have e16 := fun i => fA 16 i (by decide) (by decide) (by decide) (by decide) (by decide) (by decide) (by decide)
  have e17 := fun i => fA 17 i (by decide) (by decide) (by decide) (by decide) (by decide) (by decide) (by decide)
  have e18 := fun i => fA 18 i (by decide) (by decide) (by decide) (by decide) (by decide) (by decide) (by decide)
  have e19 := fun i => fA 19 i (by decide) (by decide) (by decide) (by decide) (by decide) (by decide) (by decide)
  have e20 := fun i => fA 20 i (by decide) (by decide) (by decide) (by decide) (by decide) (by decide) (by decide)
  have e21 := fun i => fA 21 i (by decide) (by decide) (by decide) (by decide) (by decide) (by decide) (by decide)
  have e22 := fun i => fA 22 i (by decide) (by decide) (by decide) (by decide) (by decide) (by decide) (by decide)
  have e32 := fun i => fA 32 i (by decide) (by decide) (by decide) (by decide) (by decide) (by decide) (by decide)
  have e34 := fun i => fA 34 i (by decide) (by decide) (by decide) (by decide) (by decide) (by decide) (by decide)
  have e36 := fun i => fA 36 i (by decide) (by decide) (by decide) (by decide) (by decide) (by decide) (by decide)
  have eA1 : ∀ i, gA (mkS S b k f s) 1 i = gA S 1 i := fun i => fA 1 i (by decide) (by decide) (by decide) (by decide) (by decide) (by decide) (by decide)
  have b28 : gA (mkS S b k f s) 28 b = k := by simp [mkS, gA_sA, gA_sI]
  have b29 : gA (mkS S b k f s) 29 b = f := by simp [mkS, gA_sA, gA_sI]
  have b30 : gA (mkS S b k f s) 30 b = s := by simp [mkS, gA_sA, gA_sI]
  have b31 : gA (mkS S b k f s) 31 b = -1 := by simp [mkS, gA_sA, gA_sI]
  have b33 : gA (mkS S b k f s) 33 b = 0 := by simp [mkS, gA_sA, gA_sI]
  have b35 : gA (mkS S b k f s) 35 b = 0 := by simp [mkS, gA_sA, gA_sI]
  have b37 : gA (mkS S b k f s) 37 b = 0 := by simp [mkS, gA_sA, gA_sI]
  have z9 : ∀ i : Int32, 0 ≤ i → ¬ i < 0 := fun i a c => Int32.lt_irrefl (Int32.lt_of_le_of_lt a c)
  have inE : ∀ d t, inR (mkS S b k f s) d t ↔ inR S d t := fun d t => by
    unfold inR
    simp only [e32]
    by_cases c : d = b
    · subst c
      rw [b33]
      exact ⟨fun ⟨i, i0, i1, _⟩ => absurd i1 (z9 i i0), fun ⟨i, i0, i1, _⟩ => absurd i1 (r33 i i0)⟩
    · rw [fb 33 d c]
  have nRE : ∀ t, nR (mkS S b k f s) t → nR S t := fun t hn d i d0 d1 i0 i1 => by
    by_cases c : d = b
    · subst c; exact absurd i1 (r33 i i0)
    · have := hn d i d0 d1 i0 (by rw [fb 33 d c]; exact i1)
      rw [e32] at this; exact this
  have xq : ∀ a i, a ≠ ad 12 0 → xQ (xwQ X (ad 12 0) b (some (ad 2 b))) a i = xQ X a i := fun a i ne => by rw [xQ_Q, if_neg (fun z => ne z.1)]
  refine ⟨m9, ⟨?_, ?_, ?_, ?_, ?_, ?_⟩, hj, ?_, ?_, ?_, ?_, ?_, ?_, ?_, ?_, ?_, ?_, ?_⟩
  · intro d d0 d1
    by_cases c : d = b
    · subst c; rw [b28, b29, b30, b31, b33]; exact hob
    · rw [fb 28 d c, fb 29 d c, fb 30 d c, fb 31 d c, fb 33 d c]; exact q1 d d0 d1
  · intro t; simp only [e13, e17, e18, e22]; exact q2 t
  · intro t te t0 t1 a1 a2
    rw [e13] at a1
    rw [e21] at a2
    rw [e16]; exact (inE _ _).mpr (q3 t te t0 t1 a1 a2)
  · intro t te t0 t1 a1 a2
    rw [e22] at a1
    rw [e21] at a2
    obtain ⟨d, d0, d1, d2, d3⟩ := q4 t te t0 t1 a1 a2
    have c : d ≠ b := fun c => by rw [c, hk] at d2; exact absurd d2 (by decide)
    exact ⟨d, d0, d1, by rw [fb 28 d c]; exact d2, (inE d t).mpr d3⟩
  · intro d i d0 d1 i0 i1
    by_cases c : d = b
    · subst c; rw [b33] at i1; exact absurd i1 (z9 i i0)
    · rw [fb 33 d c] at i1
      rw [fb 28 d c, fb 37 d c, fb 29 d c]
      simp only [opM, e11, e15, e32]; exact q5 d i d0 d1 i0 i1
  · intro t; simp only [e19, e21]; exact q6 t
  · obtain ⟨a1, a2, a3, a4, a5, a6, a7⟩ := h1
    exact ⟨a1, a2, a3, a4, a5, a6, fun t t0 t1 => by rw [xq _ _ (fun z => absurd (hj _ _ _ _ z).1 (by decide))]; exact a7 t t0 t1⟩
  · obtain ⟨a1, a2, a3, a4, a5⟩ := h2
    exact ⟨a1, a2, a3, fun i i0 i1 => by rw [eA1]; exact a4 i i0 i1, a5⟩
  · intro t t0 t1
    have z := h3 t t0 t1
    rw [e12, e13, e14, e15, e17, e18, e19, e20, e21, e22]; exact z
  · intro t k9 t0 t1 k0 k1
    rw [e12]
    simp only [e11]; exact h4 t k9 t0 t1 k0 k1
  · intro d i d0 d1 i0 i1
    by_cases c : d = b
    · subst c; rw [b33] at i1; exact absurd i1 (z9 i i0)
    · rw [fb 33 d c] at i1
      rw [e32]; exact h5 d i d0 d1 i0 i1
  · intro t te t0 t1 a1 a2
    rw [e21] at a2
    exact h6 t te t0 t1 (nRE t a1) a2
  · intro t t0 t1 a1
    rw [e21] at a1
    rw [e16]; exact h7 t t0 t1 a1
  · intro d d0 d1
    by_cases c : d = b
    · subst c
      rw [b28, b29, b30, b31]
      exact ⟨fun z => absurd z hk0, fun _ => ⟨by rw [xQ_Q, if_pos ⟨rfl, rfl⟩], hx.1⟩⟩
    · rw [fb 28 d c, fb 29 d c, fb 30 d c, fb 31 d c, xQ_Q, if_neg (fun z => c (tn_inj d0 hb.1 z.2))]
      exact h8 d d0 d1
  · intro d d0 d1 nk
    by_cases c : d = b
    · subst c; rw [b33]; exact ⟨hx.2.1, fun i i0 i1 => absurd i1 (z9 i i0)⟩
    · rw [fb 28 d c] at nk
      rw [fb 33 d c]
      have z := h9 d d0 d1 nk
      exact ⟨z.1, fun i i0 i1 => by rw [xq _ _ (fun z => absurd (hj _ _ _ _ z).1 (by decide)), e32]; exact z.2 i i0 i1⟩
  · intro d d0 d1 nk
    by_cases c : d = b
    · subst c; rw [b28] at nk; rw [b35]; exact ⟨hx.2.2.1 nk, fun i i0 i1 => absurd i1 (z9 i i0)⟩
    · rw [fb 28 d c] at nk
      rw [fb 35 d c]
      have z := h10 d d0 d1 nk
      exact ⟨z.1, fun i i0 i1 => by rw [xq _ _ (fun z => absurd (hj _ _ _ _ z).1 (by decide)), e34]; exact z.2 i i0 i1⟩
  · intro d d0 d1 nk
    by_cases c : d = b
    · subst c
      rw [b28] at nk
      rw [b37, b29]
      have z := hx.2.2.2 nk
      exact ⟨z.1, z.2, fun i i0 i1 => absurd i1 (z9 i i0)⟩
    · rw [fb 28 d c] at nk
      rw [fb 37 d c, fb 29 d c]
      simp only [e36]; exact h11 d d0 d1 nk

/-! the reference: second rows and objects -/
/-- t is taken out of the second row of b and is no more in it -/
theorem s2_inv {S S1 S9 : mS} {b t : Int32} (hb : 0 ≤ b ∧ b < 24) (ht : 0 ≤ t ∧ t < 8) (h : mInv S) (h21 : gA S 21 t ≠ 0) (h16 : gA S 16 t = b) (hp : lvP S S1 34 35 b t) (e : S9 = sA S1 21 t 0) : mInv S9 ∧ (∀ u, nR S u → nR S9 u) ∧ nR S9 t := by
  obtain ⟨g1, g2, g3, g4, g5, g6, g7, g8, g9, g10, g11⟩ := lvP_f (by decide) hp
  obtain ⟨h1, h2, h3, h4, h5, h6, h7, h8⟩ := h
  have hl8 : gA S 35 b ≤ 8 := ((h4 b hb.1 hb.2).2.1).2
  have eo : ∀ k q, k ≠ 34 → k ≠ 35 → k ≠ 21 → gA S9 k q = gA S k q := fun k q a1 a2 a3 => by rw [e, gA_sA, if_neg a3]; exact g3 k q a1 a2
  have e34 : ∀ q, gA S9 34 q = gA S1 34 q := fun q => by rw [e]; simp [gA_sA]
  have e35 : ∀ q, gA S9 35 q = gA S1 35 q := fun q => by rw [e]; simp [gA_sA]
  have e21 : ∀ u, u ≠ t → gA S9 21 u = gA S 21 u := fun u hu => by rw [e, gA_sA, if_pos rfl, if_neg hu]; exact g3 21 u (by decide) (by decide)
  have e21t : gA S9 21 t = 0 := by rw [e]; simp [gA_sA]
  have eI : ∀ k, gI S9 k = gI S k := fun k => by rw [e]; exact g4 k
  clear e
  have key : ∀ d i, 0 ≤ d → d < 24 → 0 ≤ i → i < gA S1 35 d → ∃ j, 0 ≤ j ∧ j < gA S 35 d ∧ gA S1 34 (8 * d + i) = gA S 34 (8 * d + j) ∧ gA S 34 (8 * d + j) ≠ t := by
    intro d i d0 d1 i0 i1
    by_cases hd : d = b
    · subst hd
      obtain ⟨a1, j, a2, a3, a4⟩ := g8 i i0 i1
      exact ⟨j, a2, a3, a4, by rw [← a4]; exact a1⟩
    · rw [g2 d hd] at i1
      have l8 := ((h4 d d0 d1).2.1).2
      refine ⟨i, i0, i1, lvP_o (by decide) hb hl8 hp ⟨d0, d1⟩ ⟨i0, by clear g2 g3 g4 g5 g6 g7 g8 g9 g10 g11 h2 h3 h4 h5 h6 h7 h8 hp eo e34 e35 e21 eI; grind⟩ hd, fun q => ?_⟩
      have m := h7 d i d0 d1 i0 i1
      unfold mem2 at m
      rw [q] at m
      exact hd (m.2.2.2.1.symm.trans h16)
  have nr : ∀ u, nR S u → nR S9 u := by
    intro u hu d i; rw [eo 33 _ (by decide) (by decide) (by decide), eo 32 _ (by decide) (by decide) (by decide)]; exact hu d i
  refine ⟨⟨?_, ?_, ?_, ?_, ?_, ?_, ?_, ?_⟩, nr, nr t ?_⟩
  · unfold iT; rw [eI, eI]; exact h1
  · intro u u0 u1
    rw [eo 12 u (by decide) (by decide) (by decide), eo 13 u (by decide) (by decide) (by decide), eo 15 u (by decide) (by decide) (by decide), eo 16 u (by decide) (by decide) (by decide)]
    obtain ⟨a1, a2, a3⟩ := h2 u u0 u1
    refine ⟨a1, a2, fun q => ?_⟩
    by_cases hu : u = t
    · subst hu; exact absurd e21t q
    · rw [e21 u hu] at q
      obtain ⟨a4, i, a5, a6, a7⟩ := a3 q
      refine ⟨a4, ?_⟩
      obtain ⟨w0, w1⟩ := a2 a4
      by_cases hw : gA S 16 u = b
      · rw [hw] at a6 a7 ⊢
        obtain ⟨j, b1, b2, b3⟩ := g10 i a5 a6 (by rw [a7]; exact hu)
        exact ⟨j, b1, by rw [e35]; exact b2, by rw [e34, b3]; exact a7⟩
      · have l8 := ((h4 _ w0 w1).2.1).2
        refine ⟨i, a5, by rw [e35, g2 _ hw]; exact a6, ?_⟩
        rw [e34, lvP_o (by decide) hb hl8 hp ⟨w0, w1⟩ ⟨a5, by clear g2 g3 g4 g5 g6 g7 g8 g9 g10 g11 h2 h3 h4 h5 h6 h7 h8 hp eo e34 e35 e21 eI key nr a1 a2 a3; grind⟩ hw]
        exact a7
  · intro u k; rw [eo 11 _ (by decide) (by decide) (by decide), eo 11 _ (by decide) (by decide) (by decide), eo 12 _ (by decide) (by decide) (by decide)]; exact h3 u k
  · intro d d0 d1
    obtain ⟨a1, a2, a3, a4⟩ := h4 d d0 d1
    rw [eo 28 _ (by decide) (by decide) (by decide), eo 29 _ (by decide) (by decide) (by decide), eo 31 _ (by decide) (by decide) (by decide), eo 33 _ (by decide) (by decide) (by decide), eo 37 _ (by decide) (by decide) (by decide), e35]
    refine ⟨a1, ?_, a3, a4⟩
    by_cases hd : d = b
    · subst hd; exact ⟨g1.1, by clear g2 g3 g4 g5 g6 g7 g8 g9 g10 g11 h2 h3 h4 h5 h6 h7 h8 hp key nr eo e34 e35 e21 eI; grind⟩
    · rw [g2 d hd]; exact a2
  · intro d i; rw [eo 33 _ (by decide) (by decide) (by decide), eo 32 _ (by decide) (by decide) (by decide)]
    intro d0 d1 i0 i1
    have m := h5 d i d0 d1 i0 i1
    have hu : gA S 32 (8 * d + i) ≠ t := fun q => by unfold mem1 at m; rw [q] at m; exact h21 m.2.2.1
    unfold mem1 at m ⊢
    rw [eo 13 _ (by decide) (by decide) (by decide), eo 16 _ (by decide) (by decide) (by decide), eo 28 _ (by decide) (by decide) (by decide), e21 _ hu]
    exact m
  · intro d i f j; rw [eo 33 _ (by decide) (by decide) (by decide), eo 33 _ (by decide) (by decide) (by decide), eo 32 _ (by decide) (by decide) (by decide), eo 32 _ (by decide) (by decide) (by decide)]; exact h6 d i f j
  · intro d i d0 d1 i0 i1
    rw [e35] at i1
    obtain ⟨j, a1, a2, a3, a4⟩ := key d i d0 d1 i0 i1
    rw [e34, a3]
    have m := h7 d j d0 d1 a1 a2
    unfold mem2 at m ⊢
    rw [eo 13 _ (by decide) (by decide) (by decide), eo 16 _ (by decide) (by decide) (by decide), eo 22 _ (by decide) (by decide) (by decide), eo 28 _ (by decide) (by decide) (by decide), e21 _ a4]
    exact m
  · intro d d0 d1 i j i0 ij jn
    rw [e35] at jn
    rw [e34, e34]
    by_cases hd : d = b
    · subst hd; exact g9 i j i0 ij jn
    · rw [g2 d hd] at jn
      have l8 := ((h4 d d0 d1).2.1).2
      rw [lvP_o (by decide) hb hl8 hp ⟨d0, d1⟩ ⟨i0, by clear g2 g3 g4 g5 g6 g7 g8 g9 g10 g11 h2 h3 h4 h5 h6 h7 h8 hp key nr eo e34 e35 e21 eI; grind⟩ hd, lvP_o (by decide) hb hl8 hp ⟨d0, d1⟩ ⟨by clear g2 g3 g4 g5 g6 g7 g8 g9 g10 g11 h2 h3 h4 h5 h6 h7 h8 hp key nr eo e34 e35 e21 eI; grind, by clear g2 g3 g4 g5 g6 g7 g8 g9 g10 g11 h2 h3 h4 h5 h6 h7 h8 hp key nr eo e34 e35 e21 eI; grind⟩ hd]
      exact h8 d d0 d1 i j i0 ij jn
  · intro d i d0 d1 i0 i1 q
    have m := h5 d i d0 d1 i0 i1
    unfold mem1 at m
    rw [q] at m
    exact h21 m.2.2.1
/-- t goes into the second row of the LOCK b -/
theorem w2_inv {S S9 : mS} {b t : Int32} (hb : 0 ≤ b ∧ b < 24) (h : mInv S) (hf : fre S t) (hk : gA S 28 b = 1)
    (e13 : ∀ u, u ≠ t → gA S9 13 u = gA S 13 u) (e13t : gA S9 13 t = 2) (e16 : ∀ u, u ≠ t → gA S9 16 u = gA S 16 u) (e16t : gA S9 16 t = b) (e21 : ∀ u, u ≠ t → gA S9 21 u = gA S 21 u) (e21t : gA S9 21 t ≠ 0)
    (e22 : ∀ u, u ≠ t → gA S9 22 u = gA S 22 u) (e22t : gA S9 22 t ≠ 0) (e34 : ∀ q, q ≠ 8 * b + gA S 35 b → gA S9 34 q = gA S 34 q) (e34t : gA S9 34 (8 * b + gA S 35 b) = t) (e35 : ∀ d, d ≠ b → gA S9 35 d = gA S 35 d) (e35b : gA S9 35 b = gA S 35 b + 1)
    (eo : ∀ k q, k = 11 ∨ k = 12 ∨ k = 15 ∨ k = 28 ∨ k = 29 ∨ k = 31 ∨ k = 32 ∨ k = 33 ∨ k = 37 → gA S9 k q = gA S k q) (eI : ∀ k, gI S9 k = gI S k) : mInv S9 ∧ (∀ u, nR S u → nR S9 u) := by
  obtain ⟨ht, t13, t21, hn⟩ := hf
  have hL := roomW2 hb ht h t21
  obtain ⟨h1, h2, h3, h4, h5, h6, h7, h8⟩ := h
  have o11 : ∀ q, gA S9 11 q = gA S 11 q := fun q => eo 11 q (by simp)
  have o12 : ∀ q, gA S9 12 q = gA S 12 q := fun q => eo 12 q (by simp)
  have o15 : ∀ q, gA S9 15 q = gA S 15 q := fun q => eo 15 q (by simp)
  have o28 : ∀ q, gA S9 28 q = gA S 28 q := fun q => eo 28 q (by simp)
  have o29 : ∀ q, gA S9 29 q = gA S 29 q := fun q => eo 29 q (by simp)
  have o31 : ∀ q, gA S9 31 q = gA S 31 q := fun q => eo 31 q (by simp)
  have o32 : ∀ q, gA S9 32 q = gA S 32 q := fun q => eo 32 q (by simp)
  have o33 : ∀ q, gA S9 33 q = gA S 33 q := fun q => eo 33 q (by simp)
  have o37 : ∀ q, gA S9 37 q = gA S 37 q := fun q => eo 37 q (by simp)
  clear eo
  -- t stands in no second row yet
  have nt : ∀ d i, 0 ≤ d → d < 24 → 0 ≤ i → i < gA S 35 d → gA S 34 (8 * d + i) ≠ t := fun d i d0 d1 i0 i1 q => by
    have m := h7 d i d0 d1 i0 i1
    unfold mem2 at m
    rw [q] at m
    exact m.2.2.2.2.1 t21
  have old : ∀ d i, 0 ≤ d → d < 24 → 0 ≤ i → i < gA S 35 d → gA S9 34 (8 * d + i) = gA S 34 (8 * d + i) := by
    intro d i d0 d1 i0 i1
    refine e34 _ (fun he => ?_)
    have l8 := (h4 d d0 d1).2.1
    have c := a_ne8 hb ⟨d0, d1⟩ ⟨i0, by clear h2 h3 h4 h5 h6 h7 h8 e13 e16 e21 e22 e34 e35 o11 o12 o15 o28 o29 o31 o32 o33 o37 nt hn eI he; grind⟩ hL he
    obtain ⟨c1, c2⟩ := c
    subst c1
    clear h2 h3 h4 h5 h6 h7 h8 e13 e16 e21 e22 e34 e35 o11 o12 o15 o28 o29 o31 o32 o33 o37 nt hn eI he; grind
  have key : ∀ d i, 0 ≤ d → d < 24 → 0 ≤ i → i < gA S9 35 d → (d = b ∧ i = gA S 35 b ∧ gA S9 34 (8 * d + i) = t) ∨ (i < gA S 35 d ∧ gA S9 34 (8 * d + i) = gA S 34 (8 * d + i)) := by
    intro d i d0 d1 i0 i1
    by_cases hd : d = b
    · subst hd
      rw [e35b] at i1
      rcases (show i = gA S 35 d ∨ i < gA S 35 d by clear h2 h3 h4 h5 h6 h7 h8 e13 e16 e21 e22 e34 e35 o11 o12 o15 o28 o29 o31 o32 o33 o37 nt hn eI old; grind) with q | q
      · left; exact ⟨rfl, q, by rw [q]; exact e34t⟩
      · right; exact ⟨q, old d i d0 d1 i0 q⟩
    · rw [e35 d hd] at i1
      right; exact ⟨i1, old d i d0 d1 i0 i1⟩
  have nr : ∀ u, nR S u → nR S9 u := fun u hu d i => by rw [o33, o32]; exact hu d i
  refine ⟨⟨?_, ?_, ?_, ?_, ?_, ?_, ?_, ?_⟩, nr⟩
  · unfold iT; rw [eI, eI]; exact h1
  · intro u u0 u1
    rw [o12, o15]
    by_cases hu : u = t
    · subst hu
      have a := (h2 u u0 u1).1 (by rw [t13]; decide) (by rw [t13]; decide)
      refine ⟨fun _ _ => a, fun _ => by rw [e16t]; exact hb, fun _ => ⟨e13t, gA S 35 b, hL.1, ?_, ?_⟩⟩
      · rw [e16t, e35b]; clear h2 h3 h4 h5 h6 h7 h8 e13 e16 e21 e22 e34 e35 o11 o12 o15 o28 o29 o31 o32 o33 o37 nt hn eI old key nr; grind
      · rw [e16t]; exact e34t
    · rw [e13 u hu, e16 u hu, e21 u hu]
      obtain ⟨a1, a2, a3⟩ := h2 u u0 u1
      refine ⟨a1, a2, fun q => ?_⟩
      obtain ⟨a4, i, a5, a6, a7⟩ := a3 q
      obtain ⟨w0, w1⟩ := a2 a4
      refine ⟨a4, i, a5, ?_, by rw [old _ i w0 w1 a5 a6]; exact a7⟩
      by_cases hw : gA S 16 u = b
      · rw [hw] at a6 ⊢; rw [e35b]; clear h2 h3 h4 h5 h6 h7 h8 e13 e16 e21 e22 e34 e35 o11 o12 o15 o28 o29 o31 o32 o33 o37 nt hn eI old key nr a1 a2 a3 a7; grind
      · rw [e35 _ hw]; exact a6
  · intro u k; rw [o11, o11, o12]; exact h3 u k
  · intro d d0 d1
    obtain ⟨a1, a2, a3, a4⟩ := h4 d d0 d1
    rw [o28, o29, o31, o33, o37]
    refine ⟨a1, ?_, a3, a4⟩
    by_cases hd : d = b
    · subst hd; rw [e35b]; clear h2 h3 h4 h5 h6 h7 h8 e13 e16 e21 e22 e34 e35 o11 o12 o15 o28 o29 o31 o32 o33 o37 nt hn eI old key nr; grind
    · rw [e35 d hd]; exact a2
  · intro d i; rw [o33, o32]
    intro d0 d1 i0 i1
    have m := h5 d i d0 d1 i0 i1
    have hu := hn d i d0 d1 i0 i1
    unfold mem1 at m ⊢
    rw [e13 _ hu, e16 _ hu, e21 _ hu, o28]
    exact m
  · intro d i f j; rw [o33, o33, o32, o32]; exact h6 d i f j
  · intro d i d0 d1 i0 i1
    rcases key d i d0 d1 i0 i1 with ⟨q1, q2, q3⟩ | ⟨q1, q2⟩
    · rw [q3]; exact ⟨ht.1, ht.2, e13t, by rw [e16t, q1], e21t, e22t, by rw [o28, q1]; exact hk⟩
    · rw [q2]
      have m := h7 d i d0 d1 i0 q1
      have hu := nt d i d0 d1 i0 q1
      unfold mem2 at m ⊢
      rw [e13 _ hu, e16 _ hu, e21 _ hu, e22 _ hu, o28]
      exact m
  · intro d d0 d1 i j i0 ij jn
    have j0 : 0 ≤ j := by clear h2 h3 h4 h5 h6 h7 h8 e13 e16 e21 e22 e34 e35 o11 o12 o15 o28 o29 o31 o32 o33 o37 nt hn eI old key nr; grind
    rcases key d j d0 d1 j0 jn with ⟨q1, q2, q3⟩ | ⟨q1, q2⟩
    · have i1 : i < gA S 35 d := by rw [q1, ← q2]; exact ij
      rw [q3, old d i d0 d1 i0 i1]
      exact nt d i d0 d1 i0 i1
    · have i1 : i < gA S 35 d := by clear h2 h3 h4 h5 h6 h7 h8 e13 e16 e21 e22 e34 e35 o11 o12 o15 o28 o29 o31 o32 o33 o37 nt hn eI old key nr q2; grind
      rw [q2, old d i d0 d1 i0 i1]
      exact h8 d d0 d1 i j i0 ij q1
/-- an object whose rows are empty afterwards, made or dropped -/
theorem ob_inv {S S9 : mS} {b : Int32} (hb : 0 ≤ b ∧ b < 24) (h : mInv S) (hk : gA S 28 b ≠ 1 ∨ gA S 35 b = 0)
    (e33 : gA S9 33 b = 0) (e35 : gA S9 35 b = 0) (e31 : -1 ≤ gA S9 31 b ∧ gA S9 31 b < 8) (e5 : gA S9 28 b = 5 → 0 ≤ gA S9 37 b ∧ gA S9 37 b ≤ gA S9 29 b ∧ gA S9 29 b ≤ 100)
    (f1 : ∀ k q, k = 11 ∨ k = 12 ∨ k = 13 ∨ k = 15 ∨ k = 16 ∨ k = 21 ∨ k = 22 ∨ k = 32 ∨ k = 34 → gA S9 k q = gA S k q)
    (f2 : ∀ k d, k = 28 ∨ k = 29 ∨ k = 31 ∨ k = 33 ∨ k = 35 ∨ k = 37 → d ≠ b → gA S9 k d = gA S k d) (hT : iT S9) : mInv S9 := by
  obtain ⟨-, h2, h3, h4, h5, h6, h7, h8⟩ := h
  have o11 : ∀ q, gA S9 11 q = gA S 11 q := fun q => f1 11 q (by simp)
  have o12 : ∀ q, gA S9 12 q = gA S 12 q := fun q => f1 12 q (by simp)
  have o13 : ∀ q, gA S9 13 q = gA S 13 q := fun q => f1 13 q (by simp)
  have o15 : ∀ q, gA S9 15 q = gA S 15 q := fun q => f1 15 q (by simp)
  have o16 : ∀ q, gA S9 16 q = gA S 16 q := fun q => f1 16 q (by simp)
  have o21 : ∀ q, gA S9 21 q = gA S 21 q := fun q => f1 21 q (by simp)
  have o22 : ∀ q, gA S9 22 q = gA S 22 q := fun q => f1 22 q (by simp)
  have o32 : ∀ q, gA S9 32 q = gA S 32 q := fun q => f1 32 q (by simp)
  have o34 : ∀ q, gA S9 34 q = gA S 34 q := fun q => f1 34 q (by simp)
  have no : ∀ i : Int32, 0 ≤ i → i < 0 → False := fun i i0 i1 => by clear h2 h3 h4 h5 h6 h7 h8 f1 f2 o11 o12 o13 o15 o16 o21 o22 o32 o34; grind
  refine ⟨hT, ?_, ?_, ?_, ?_, ?_, ?_, ?_⟩
  · intro u u0 u1
    rw [o12, o13, o15, o16, o21]
    obtain ⟨a1, a2, a3⟩ := h2 u u0 u1
    refine ⟨a1, a2, fun q => ?_⟩
    obtain ⟨a4, i, a5, a6, a7⟩ := a3 q
    obtain ⟨w0, w1⟩ := a2 a4
    have hw : gA S 16 u ≠ b := fun hw => by
      rw [hw] at a6
      rcases hk with k | k
      · exact k (h7 b i hb.1 hb.2 a5 a6).2.2.2.2.2.2
      · rw [k] at a6; exact no i a5 a6
    exact ⟨a4, i, a5, by rw [f2 35 _ (by simp) hw]; exact a6, by rw [o34]; exact a7⟩
  · intro u k; rw [o11, o11, o12]; exact h3 u k
  · intro d d0 d1
    by_cases hd : d = b
    · subst hd; rw [e33, e35]; exact ⟨by decide, by decide, e31, e5⟩
    · rw [f2 28 d (by simp) hd, f2 29 d (by simp) hd, f2 31 d (by simp) hd, f2 33 d (by simp) hd, f2 35 d (by simp) hd, f2 37 d (by simp) hd]; exact h4 d d0 d1
  · intro d i d0 d1 i0 i1
    by_cases hd : d = b
    · subst hd; rw [e33] at i1; exact (no i i0 i1).elim
    · rw [f2 33 d (by simp) hd] at i1
      have m := h5 d i d0 d1 i0 i1
      unfold mem1 at m ⊢
      rw [o32, o13, o16, o21, f2 28 d (by simp) hd]
      exact m
  · intro d i f j d0 d1 i0 i1 f0 f1 j0 j1 he
    by_cases hd : d = b
    · subst hd; rw [e33] at i1; exact (no i i0 i1).elim
    · by_cases hf : f = b
      · subst hf; rw [e33] at j1; exact (no j j0 j1).elim
      · rw [f2 33 d (by simp) hd] at i1
        rw [f2 33 f (by simp) hf] at j1
        rw [o32, o32] at he
        exact h6 d i f j d0 d1 i0 i1 f0 f1 j0 j1 he
  · intro d i d0 d1 i0 i1
    by_cases hd : d = b
    · subst hd; rw [e35] at i1; exact (no i i0 i1).elim
    · rw [f2 35 d (by simp) hd] at i1
      have m := h7 d i d0 d1 i0 i1
      unfold mem2 at m ⊢
      rw [o34, o13, o16, o21, o22, f2 28 d (by simp) hd]
      exact m
  · intro d d0 d1 i j i0 ij jn
    by_cases hd : d = b
    · subst hd; rw [e35] at jn; exact (no j (by clear h2 h3 h4 h5 h6 h7 h8 f1 f2 o11 o12 o13 o15 o16 o21 o22 o32 o34 no; grind) jn).elim
    · rw [f2 35 d (by simp) hd] at jn
      rw [o34, o34]
      exact h8 d d0 d1 i j i0 ij jn
/-- owner and first of an object change -/
theorem ow_inv {S S9 : mS} {b : Int32} (h : mInv S) (e31 : -1 ≤ gA S9 31 b ∧ gA S9 31 b < 8) (e5 : gA S 28 b = 5 → 0 ≤ gA S9 37 b ∧ gA S9 37 b ≤ gA S9 29 b ∧ gA S9 29 b ≤ 100)
    (f1 : ∀ k q, smK k → k ≠ 29 → k ≠ 31 → k ≠ 37 → gA S9 k q = gA S k q) (f2 : ∀ k d, k = 29 ∨ k = 31 ∨ k = 37 → d ≠ b → gA S9 k d = gA S k d) (hT : iT S9) : mInv S9 := by
  obtain ⟨-, h2, h3, h4, h5, h6, h7, h8⟩ := h
  have o11 : ∀ q, gA S9 11 q = gA S 11 q := fun q => f1 11 q (by simp [smK]) (by decide) (by decide) (by decide)
  have o12 : ∀ q, gA S9 12 q = gA S 12 q := fun q => f1 12 q (by simp [smK]) (by decide) (by decide) (by decide)
  have o13 : ∀ q, gA S9 13 q = gA S 13 q := fun q => f1 13 q (by simp [smK]) (by decide) (by decide) (by decide)
  have o15 : ∀ q, gA S9 15 q = gA S 15 q := fun q => f1 15 q (by simp [smK]) (by decide) (by decide) (by decide)
  have o16 : ∀ q, gA S9 16 q = gA S 16 q := fun q => f1 16 q (by simp [smK]) (by decide) (by decide) (by decide)
  have o21 : ∀ q, gA S9 21 q = gA S 21 q := fun q => f1 21 q (by simp [smK]) (by decide) (by decide) (by decide)
  have o22 : ∀ q, gA S9 22 q = gA S 22 q := fun q => f1 22 q (by simp [smK]) (by decide) (by decide) (by decide)
  have o28 : ∀ q, gA S9 28 q = gA S 28 q := fun q => f1 28 q (by simp [smK]) (by decide) (by decide) (by decide)
  have o32 : ∀ q, gA S9 32 q = gA S 32 q := fun q => f1 32 q (by simp [smK]) (by decide) (by decide) (by decide)
  have o33 : ∀ q, gA S9 33 q = gA S 33 q := fun q => f1 33 q (by simp [smK]) (by decide) (by decide) (by decide)
  have o34 : ∀ q, gA S9 34 q = gA S 34 q := fun q => f1 34 q (by simp [smK]) (by decide) (by decide) (by decide)
  have o35 : ∀ q, gA S9 35 q = gA S 35 q := fun q => f1 35 q (by simp [smK]) (by decide) (by decide) (by decide)
  refine ⟨hT, ?_, ?_, ?_, ?_, ?_, ?_, ?_⟩
  · intro t; simp only [o12, o13, o15, o16, o21, o34, o35]; exact h2 t
  · intro t k; simp only [o11, o12]; exact h3 t k
  · intro d d0 d1
    obtain ⟨a1, a2, a3, a4⟩ := h4 d d0 d1
    rw [o28, o33, o35]
    by_cases hd : d = b
    · subst hd; exact ⟨a1, a2, e31, e5⟩
    · rw [f2 29 d (by simp) hd, f2 31 d (by simp) hd, f2 37 d (by simp) hd]; exact ⟨a1, a2, a3, a4⟩
  · intro b i; simp only [mem1, o13, o16, o21, o28, o32, o33]; exact h5 b i
  · intro b i d j; simp only [o32, o33]; exact h6 b i d j
  · intro b i; simp only [mem2, o13, o16, o21, o22, o28, o34, o35]; exact h7 b i
  · intro b b0 b1; unfold rdis; simp only [o34, o35]; exact h8 b b0 b1

/-! the reference: what waiting, signalling and objects do to the invariant -/
theorem a_ne8 {b d i j : Int32} (hb : 0 ≤ b ∧ b < 24) (hd : 0 ≤ d ∧ d < 24) (hi : 0 ≤ i ∧ i < 8) (hj : 0 ≤ j ∧ j < 8) (h : 8 * d + i = 8 * b + j) : d = b ∧ i = j := by
  rcases (show d = b ∨ d ≠ b by grind) with q | q
  · subst q; exact ⟨rfl, by grind⟩
  · exfalso
    rcases (show d < b ∨ b < d by grind) with r | r
    · have h2 : d + 1 ≤ b := by grind
      grind
    · have h2 : b + 1 ≤ d := by grind
      grind
theorem rdis1 {S : mS} {b : Int32} (hb : 0 ≤ b ∧ b < 24) (hl : gA S 33 b ≤ 8) (h : iU S) : rdis S 32 33 b := by
  intro i j i0 ij jn e
  have hj : 0 ≤ j := by clear h; grind
  have hi : i < gA S 33 b := by clear h; grind
  have := (h b i b j hb.1 hb.2 i0 hi hb.1 hb.2 hj jn e).2
  clear h; grind
theorem roomW {S : mS} {b t : Int32} (hb : 0 ≤ b ∧ b < 24) (ht : 0 ≤ t ∧ t < 8) (h : mInv S) (hn : nR S t) : 0 ≤ gA S 33 b ∧ gA S 33 b < 8 := by
  obtain ⟨-, -, -, h4, h5, h6, -, -⟩ := h
  have hl := (h4 b hb.1 hb.2).1
  exact ⟨hl.1, room8 (kr := 32) (t := t) hb ht hl (fun i i0 i1 => ⟨(h5 b i hb.1 hb.2 i0 i1).1, (h5 b i hb.1 hb.2 i0 i1).2.1⟩) (rdis1 hb hl.2 h6) (fun i i0 i1 => hn b i hb.1 hb.2 i0 i1)⟩
theorem roomW2 {S : mS} {b t : Int32} (hb : 0 ≤ b ∧ b < 24) (ht : 0 ≤ t ∧ t < 8) (h : mInv S) (hn : gA S 21 t = 0) : 0 ≤ gA S 35 b ∧ gA S 35 b < 8 := by
  obtain ⟨-, -, -, h4, -, -, h7, h8⟩ := h
  have hl := (h4 b hb.1 hb.2).2.1
  refine ⟨hl.1, room8 (kr := 34) (t := t) hb ht hl (fun i i0 i1 => ⟨(h7 b i hb.1 hb.2 i0 i1).1, (h7 b i hb.1 hb.2 i0 i1).2.1⟩) (h8 b hb.1 hb.2) (fun i i0 i1 e => ?_)⟩
  have m := h7 b i hb.1 hb.2 i0 i1
  rw [e] at m
  exact m.2.2.2.2.1 hn
theorem wF_inv {S S9 : mS} {b t : Int32} (hb : 0 ≤ b ∧ b < 24) (ht : 0 ≤ t ∧ t < 8) (h : mInv S) (hn : nR S t) (h21 : gA S 21 t = 0) (hat : 0 ≤ gA S 15 t ∧ gA S 15 t < gA S 12 t ∧ gA S 12 t ≤ 60)
    (e : S9 = sA (sA (sA (sA S 13 t 2) 16 t b) 32 (8 * b + gA S 33 b) t) 33 b (gA S 33 b + 1)) : mInv S9 ∧ (∀ u, u ≠ t → nR S u → nR S9 u) := by
  have hL := roomW hb ht h hn
  obtain ⟨h1, h2, h3, h4, h5, h6, h7, h8⟩ := h
  have e13 : ∀ u, u ≠ t → gA S9 13 u = gA S 13 u := fun u hu => by rw [e]; simp [gA_sA, hu]
  have e16 : ∀ u, u ≠ t → gA S9 16 u = gA S 16 u := fun u hu => by rw [e]; simp [gA_sA, hu]
  have e13t : gA S9 13 t = 2 := by rw [e]; simp [gA_sA]
  have e16t : gA S9 16 t = b := by rw [e]; simp [gA_sA]
  have e32 : ∀ q, q ≠ 8 * b + gA S 33 b → gA S9 32 q = gA S 32 q := fun q hq => by rw [e]; simp [gA_sA, hq]
  have e32t : gA S9 32 (8 * b + gA S 33 b) = t := by rw [e]; simp [gA_sA]
  have e33 : ∀ d, d ≠ b → gA S9 33 d = gA S 33 d := fun d hd => by rw [e]; simp [gA_sA, hd]
  have e33b : gA S9 33 b = gA S 33 b + 1 := by rw [e]; simp [gA_sA]
  have eo : ∀ k q, k ≠ 13 → k ≠ 16 → k ≠ 32 → k ≠ 33 → gA S9 k q = gA S k q := fun k q a1 a2 a3 a4 => by rw [e]; simp [gA_sA, a1, a2, a3, a4]
  have eI : ∀ k, gI S9 k = gI S k := fun k => by rw [e]; rfl
  clear e
  -- an entry is the new one, or an old one
  have key : ∀ d i, 0 ≤ d → d < 24 → 0 ≤ i → i < gA S9 33 d → (d = b ∧ i = gA S 33 b ∧ gA S9 32 (8 * d + i) = t) ∨ (i < gA S 33 d ∧ gA S9 32 (8 * d + i) = gA S 32 (8 * d + i) ∧ gA S 32 (8 * d + i) ≠ t) := by
    intro d i d0 d1 i0 i1
    have l8 := (h4 d d0 d1).1
    by_cases hd : d = b
    · subst hd
      rw [e33b] at i1
      rcases (show i = gA S 33 d ∨ i < gA S 33 d by clear h2 h3 h4 h5 h6 h7 h8 eo e32 e33 e13 e16 hn eI; grind) with q | q
      · left; exact ⟨rfl, q, by rw [q]; exact e32t⟩
      · right; refine ⟨q, e32 _ (fun he => ?_), hn d i d0 d1 i0 q⟩
        have := (a_ne8 hb ⟨d0, d1⟩ ⟨i0, by clear h2 h3 h4 h5 h6 h7 h8 eo e32 e33 e13 e16 hn eI he; grind⟩ hL he).2
        clear h2 h3 h4 h5 h6 h7 h8 eo e32 e33 e13 e16 hn eI he; grind
    · rw [e33 d hd] at i1
      right; refine ⟨i1, e32 _ (fun he => ?_), hn d i d0 d1 i0 i1⟩
      exact hd (a_ne8 hb ⟨d0, d1⟩ ⟨i0, by clear h2 h3 h4 h5 h6 h7 h8 eo e32 e33 e13 e16 hn eI he; grind⟩ hL he).1
  refine ⟨⟨?_, ?_, ?_, ?_, ?_, ?_, ?_, ?_⟩, ?_⟩
  · unfold iT; rw [eI, eI]; exact h1
  · intro u u0 u1
    rw [eo 12 u (by decide) (by decide) (by decide) (by decide), eo 15 u (by decide) (by decide) (by decide) (by decide), eo 21 u (by decide) (by decide) (by decide) (by decide)]
    by_cases hu : u = t
    · subst hu; exact ⟨fun _ _ => hat, fun _ => by rw [e16t]; exact hb, fun q => absurd h21 q⟩
    · rw [e13 u hu, e16 u hu]
      obtain ⟨a1, a2, a3⟩ := h2 u u0 u1
      refine ⟨a1, a2, fun q => ?_⟩
      obtain ⟨a4, i, a5, a6, a7⟩ := a3 q
      exact ⟨a4, i, a5, by rw [eo 35 _ (by decide) (by decide) (by decide) (by decide)]; exact a6, by rw [eo 34 _ (by decide) (by decide) (by decide) (by decide)]; exact a7⟩
  · intro u k; rw [eo 11 _ (by decide) (by decide) (by decide) (by decide), eo 11 _ (by decide) (by decide) (by decide) (by decide), eo 12 _ (by decide) (by decide) (by decide) (by decide)]; exact h3 u k
  · intro d d0 d1
    obtain ⟨a1, a2, a3, a4⟩ := h4 d d0 d1
    rw [eo 28 _ (by decide) (by decide) (by decide) (by decide), eo 29 _ (by decide) (by decide) (by decide) (by decide), eo 31 _ (by decide) (by decide) (by decide) (by decide), eo 35 _ (by decide) (by decide) (by decide) (by decide), eo 37 _ (by decide) (by decide) (by decide) (by decide)]
    refine ⟨?_, a2, a3, a4⟩
    by_cases hd : d = b
    · subst hd; rw [e33b]; clear h2 h3 h4 h5 h6 h7 h8 eo e32 e33 e13 e16 hn eI key; grind
    · rw [e33 d hd]; exact a1
  · intro d i d0 d1 i0 i1
    rcases key d i d0 d1 i0 i1 with ⟨q1, q2, q3⟩ | ⟨q1, q2, q3⟩
    · rw [q3]
      refine ⟨ht.1, ht.2, by rw [eo 21 _ (by decide) (by decide) (by decide) (by decide)]; exact h21, Or.inl ⟨e13t, by rw [e16t, q1]⟩⟩
    · rw [q2]
      have m := h5 d i d0 d1 i0 q1
      unfold mem1 at m ⊢
      rw [e13 _ q3, e16 _ q3, eo 21 _ (by decide) (by decide) (by decide) (by decide), eo 28 _ (by decide) (by decide) (by decide) (by decide)]
      exact m
  · intro d i f j d0 d1 i0 i1 f0 f1 j0 j1 he
    rcases key d i d0 d1 i0 i1 with ⟨q1, q2, q3⟩ | ⟨q1, q2, q3⟩ <;> rcases key f j f0 f1 j0 j1 with ⟨r1, r2, r3⟩ | ⟨r1, r2, r3⟩
    · exact ⟨q1.trans r1.symm, q2.trans r2.symm⟩
    · rw [q3, r2] at he; exact absurd he.symm r3
    · rw [q2, r3] at he; exact absurd he q3
    · rw [q2, r2] at he; exact h6 d i f j d0 d1 i0 q1 f0 f1 j0 r1 he
  · intro d i; rw [eo 35 _ (by decide) (by decide) (by decide) (by decide), eo 34 _ (by decide) (by decide) (by decide) (by decide)]
    intro d0 d1 i0 i1
    have m := h7 d i d0 d1 i0 i1
    have hu : gA S 34 (8 * d + i) ≠ t := fun q => by unfold mem2 at m; rw [q] at m; exact m.2.2.2.2.1 h21
    unfold mem2 at m ⊢
    rw [e13 _ hu, e16 _ hu, eo 21 _ (by decide) (by decide) (by decide) (by decide), eo 22 _ (by decide) (by decide) (by decide) (by decide), eo 28 _ (by decide) (by decide) (by decide) (by decide)]
    exact m
  · intro d d0 d1 i j; rw [eo 35 _ (by decide) (by decide) (by decide) (by decide), eo 34 _ (by decide) (by decide) (by decide) (by decide), eo 34 _ (by decide) (by decide) (by decide) (by decide)]; exact h8 d d0 d1 i j
  · intro u hu hnu d i d0 d1 i0 i1
    rcases key d i d0 d1 i0 i1 with ⟨q1, q2, q3⟩ | ⟨q1, q2, q3⟩
    · rw [q3]; exact fun z => hu z.symm
    · rw [q2]; exact hnu d i d0 d1 i0 q1
/-- the first of a LOCK's row is made READY -/
theorem st1_inv {S S9 : mS} {b i t : Int32} (hb : 0 ≤ b ∧ b < 24) (h : mInv S) (hi : 0 ≤ i ∧ i < gA S 33 b) (et : gA S 32 (8 * b + i) = t) (hk : gA S 28 b = 1) (e : S9 = sA (sA S 13 t 1) 16 t (-1)) : mInv S9 := by
  obtain ⟨h1, h2, h3, h4, h5, h6, h7, h8⟩ := h
  have m := h5 b i hb.1 hb.2 hi.1 hi.2
  rw [et] at m
  obtain ⟨t0, t1, t21, -⟩ := id m
  have e13 : ∀ u, u ≠ t → gA S9 13 u = gA S 13 u := fun u hu => by rw [e]; simp [gA_sA, hu]
  have e16 : ∀ u, u ≠ t → gA S9 16 u = gA S 16 u := fun u hu => by rw [e]; simp [gA_sA, hu]
  have e13t : gA S9 13 t = 1 := by rw [e]; simp [gA_sA]
  have eo : ∀ k q, k ≠ 13 → k ≠ 16 → gA S9 k q = gA S k q := fun k q a1 a2 => by rw [e]; simp [gA_sA, a1, a2]
  have eI : ∀ k, gI S9 k = gI S k := fun k => by rw [e]; rfl
  clear e
  refine ⟨?_, ?_, ?_, ?_, ?_, ?_, ?_, ?_⟩
  · unfold iT; rw [eI, eI]; exact h1
  · intro u u0 u1
    rw [eo 12 u (by decide) (by decide), eo 15 u (by decide) (by decide), eo 21 u (by decide) (by decide)]
    by_cases hu : u = t
    · subst hu
      have a := (h2 u u0 u1).1
      have a12 : 1 ≤ gA S 13 u ∧ gA S 13 u ≤ 3 := by
        rcases m.2.2.2 with q | q <;> rw [q.1] <;> decide
      exact ⟨fun _ _ => a a12.1 a12.2, fun q => by rw [e13t] at q; exact absurd q (by decide), fun q => absurd t21 q⟩
    · rw [e13 u hu, e16 u hu]
      obtain ⟨a1, a2, a3⟩ := h2 u u0 u1
      refine ⟨a1, a2, fun q => ?_⟩
      obtain ⟨a4, j, a5, a6, a7⟩ := a3 q
      exact ⟨a4, j, a5, by rw [eo 35 _ (by decide) (by decide)]; exact a6, by rw [eo 34 _ (by decide) (by decide)]; exact a7⟩
  · intro u k; rw [eo 11 _ (by decide) (by decide), eo 11 _ (by decide) (by decide), eo 12 _ (by decide) (by decide)]; exact h3 u k
  · intro d; rw [eo 28 _ (by decide) (by decide), eo 29 _ (by decide) (by decide), eo 31 _ (by decide) (by decide), eo 33 _ (by decide) (by decide), eo 35 _ (by decide) (by decide), eo 37 _ (by decide) (by decide)]; exact h4 d
  · intro d j d0 d1 j0 j1
    rw [eo 33 _ (by decide) (by decide)] at j1
    rw [eo 32 _ (by decide) (by decide)]
    have m2 := h5 d j d0 d1 j0 j1
    by_cases hu : gA S 32 (8 * d + j) = t
    · have c := h6 d j b i d0 d1 j0 j1 hb.1 hb.2 hi.1 hi.2 (hu.trans et.symm)
      rw [hu]
      exact ⟨t0, t1, by rw [eo 21 _ (by decide) (by decide)]; exact t21, Or.inr ⟨e13t, by rw [eo 28 _ (by decide) (by decide), c.1]; exact hk⟩⟩
    · unfold mem1 at m2 ⊢
      rw [e13 _ hu, e16 _ hu, eo 21 _ (by decide) (by decide), eo 28 _ (by decide) (by decide)]
      exact m2
  · intro d j f q; rw [eo 33 _ (by decide) (by decide), eo 33 _ (by decide) (by decide), eo 32 _ (by decide) (by decide), eo 32 _ (by decide) (by decide)]; exact h6 d j f q
  · intro d j; rw [eo 35 _ (by decide) (by decide), eo 34 _ (by decide) (by decide)]
    intro d0 d1 j0 j1
    have m2 := h7 d j d0 d1 j0 j1
    have hu : gA S 34 (8 * d + j) ≠ t := fun q => by unfold mem2 at m2; rw [q] at m2; exact m2.2.2.2.2.1 t21
    unfold mem2 at m2 ⊢
    rw [e13 _ hu, e16 _ hu, eo 21 _ (by decide) (by decide), eo 22 _ (by decide) (by decide), eo 28 _ (by decide) (by decide)]
    exact m2
  · intro d d0 d1 x y; rw [eo 35 _ (by decide) (by decide), eo 34 _ (by decide) (by decide), eo 34 _ (by decide) (by decide)]; exact h8 d d0 d1 x y

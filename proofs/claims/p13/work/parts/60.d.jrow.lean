/-! the reference: rows, and what the class rests on -/
theorem lv_mem {S S1 : mS} {b t d i : Int32} (hb : 0 ≤ b ∧ b < 24) (h : mInv S) (hi : inR S b t) (hp : lvP S S1 32 33 b t) (hd : 0 ≤ d ∧ d < 24) (i0 : 0 ≤ i) (i1 : i < gA S1 33 d) :
    gA S1 32 (8 * d + i) ≠ t ∧ ∃ j, 0 ≤ j ∧ j < gA S 33 d ∧ gA S1 32 (8 * d + i) = gA S 32 (8 * d + j) := by
  obtain ⟨g1, g2, g3, g4, g5, g6, g7, g8, g9, g10, g11⟩ := lvP_f (by decide) hp
  have hl8 : gA S 33 b ≤ 8 := (pre_lv hb h).2
  by_cases q : d = b
  · subst q; exact g8 i i0 i1
  · rw [g2 d q] at i1
    have l8 := (pre_lv hd h).2
    have e := lvP_o (by decide) hb hl8 hp hd ⟨i0, by clear g1 g2 g3 g4 g5 g6 g7 g8 g9 g10 g11 hp; grind⟩ q
    refine ⟨fun z => ?_, i, i0, i1, e⟩
    obtain ⟨j, j0, j1, j2⟩ := hi
    exact q (h.2.2.2.2.2.1 d i b j hd.1 hd.2 i0 i1 hb.1 hb.2 j0 j1 (by rw [← e, z, j2])).1
theorem lv_kept {S S1 : mS} {b t d u : Int32} (hb : 0 ≤ b ∧ b < 24) (h : mInv S) (hp : lvP S S1 32 33 b t) (hd : 0 ≤ d ∧ d < 24) (hu : u ≠ t) (hi : inR S d u) : inR S1 d u := by
  obtain ⟨g1, g2, g3, g4, g5, g6, g7, g8, g9, g10, g11⟩ := lvP_f (by decide) hp
  have hl8 : gA S 33 b ≤ 8 := (pre_lv hb h).2
  obtain ⟨i, i0, i1, i2⟩ := hi
  by_cases q : d = b
  · subst q
    obtain ⟨j, j0, j1, j2⟩ := g10 i i0 i1 (by rw [i2]; exact hu)
    exact ⟨j, j0, j1, j2.trans i2⟩
  · have l8 := (pre_lv hd h).2
    exact ⟨i, i0, by rw [g2 d q]; exact i1, (lvP_o (by decide) hb hl8 hp hd ⟨i0, by clear g1 g2 g3 g4 g5 g6 g7 g8 g9 g10 g11 hp; grind⟩ q).trans i2⟩
/-- t, of the row of b, leaves it and goes on -/
theorem j_lg {S S1 S2 : mS} {B b t : Int32} (hb : 0 ≤ b ∧ b < 24) (h : mInv S) (hJ : jIn S B (-1)) (hi : inR S b t) (h22 : gA S 22 t = 0) (hp : lvP S S1 32 33 b t)
    (e : S2 = sA (sA (sA S1 16 t (-1)) 15 t (gA S1 15 t + 1)) 13 t (if gA S1 12 t ≤ gA S1 15 t + 1 then 4 else 1)) : jIn S2 B (-1) := by
  obtain ⟨ht, t21, t13⟩ := in_row hb h hi
  obtain ⟨h1, h2, h3, h4, h5, h6⟩ := hJ
  obtain ⟨g1, g2, g3, g4, g5, g6, g7, g8, g9, g10, g11⟩ := lvP_f (by decide) hp
  have fo : ∀ k i, k ≠ 13 → k ≠ 15 → k ≠ 16 → gA S2 k i = gA S1 k i := fun k i a1 a2 a3 => by rw [e]; simp [gA_sA, a1, a2, a3]
  have fu : ∀ k u, u ≠ t → gA S2 k u = gA S1 k u := fun k u hu => by rw [e]; simp [gA_sA, hu]
  have oo : ∀ k i, k ≠ 13 → k ≠ 15 → k ≠ 16 → k ≠ 32 → k ≠ 33 → gA S2 k i = gA S k i := fun k i a1 a2 a3 a4 a5 => (fo k i a1 a2 a3).trans (g3 k i a4 a5)
  have e13 : gA S2 13 t = 4 ∨ gA S2 13 t = 1 := by
    rw [e]; simp only [gA_sA, if_true]; split
    · exact Or.inl rfl
    · exact Or.inr rfl
  have w17 : gA S 17 t = 0 := by
    have z := (h2 t ht.1 ht.2).2.2.1
    by_cases q : gA S 17 t = 0
    · exact q
    · have := z q; rw [this] at t13; exact absurd t13 (by decide)
  have u13 : ∀ u, u ≠ t → gA S2 13 u = gA S 13 u := fun u hu => (fu 13 u hu).trans (g3 13 u (by decide) (by decide))
  have u15 : ∀ u, u ≠ t → gA S2 15 u = gA S 15 u := fun u hu => (fu 15 u hu).trans (g3 15 u (by decide) (by decide))
  have u16 : ∀ u, u ≠ t → gA S2 16 u = gA S 16 u := fun u hu => (fu 16 u hu).trans (g3 16 u (by decide) (by decide))
  have e32 : ∀ i, gA S2 32 i = gA S1 32 i := fun i => fo 32 i (by decide) (by decide) (by decide)
  have e33 : ∀ i, gA S2 33 i = gA S1 33 i := fun i => fo 33 i (by decide) (by decide) (by decide)
  refine ⟨?_, ?_, ?_, ?_, ?_, fun u ue u0 u1 => by rw [oo 21 u (by decide) (by decide) (by decide) (by decide) (by decide), oo 19 u (by decide) (by decide) (by decide) (by decide) (by decide)]; exact h6 u ue u0 u1⟩
  · intro d d0 d1
    have z := h1 d d0 d1
    rw [oo 28 d (by decide) (by decide) (by decide) (by decide) (by decide), oo 29 d (by decide) (by decide) (by decide) (by decide) (by decide), oo 30 d (by decide) (by decide) (by decide) (by decide) (by decide), oo 31 d (by decide) (by decide) (by decide) (by decide) (by decide), e33]
    by_cases q : d = b
    · subst q; unfold jOb at z ⊢; clear g2 g3 g4 g5 g6 g7 g8 g9 g10 g11 h1 h2 h3 h4 h5 h6 fo fu oo u13 u15 u16 e32 e33; grind
    · rw [g2 d q]; exact z
  · intro u u0 u1
    have z := h2 u u0 u1
    rw [oo 17 u (by decide) (by decide) (by decide) (by decide) (by decide), oo 18 u (by decide) (by decide) (by decide) (by decide) (by decide), oo 22 u (by decide) (by decide) (by decide) (by decide) (by decide)]
    by_cases q : u = t
    · subst q
      refine ⟨?_, ?_, fun w => absurd w17 w, z.2.2.2⟩
      · rcases e13 with y | y <;> rw [y] <;> decide
      · rcases e13 with y | y <;> rw [y] <;> decide
    · rw [u13 u q]; exact z
  · intro u ue u0 u1 a1 a2
    have q : u ≠ t := fun q => by subst q; rcases e13 with y | y <;> rw [y] at a1 <;> exact absurd a1 (by decide)
    rw [u13 u q] at a1
    rw [oo 21 u (by decide) (by decide) (by decide) (by decide) (by decide)] at a2
    rw [u16 u q]
    have r := ((h.2.1 u u0 u1).2.1 a1)
    obtain ⟨i, i0, i1, i2⟩ := lv_kept hb h hp r q (h3 u ue u0 u1 a1 a2)
    exact ⟨i, i0, by rw [e33]; exact i1, by rw [e32]; exact i2⟩
  · intro u ue u0 u1 a1 a2
    rw [oo 22 u (by decide) (by decide) (by decide) (by decide) (by decide)] at a1
    rw [oo 21 u (by decide) (by decide) (by decide) (by decide) (by decide)] at a2
    have q : u ≠ t := fun q => by subst q; exact a1 h22
    obtain ⟨d, d0, d1, dk, di⟩ := h4 u ue u0 u1 a1 a2
    obtain ⟨i, i0, i1, i2⟩ := lv_kept hb h hp ⟨d0, d1⟩ q di
    exact ⟨d, d0, d1, by rw [oo 28 d (by decide) (by decide) (by decide) (by decide) (by decide)]; exact dk, i, i0, by rw [e33]; exact i1, by rw [e32]; exact i2⟩
  · intro d i d0 d1 i0 i1
    rw [e33] at i1
    obtain ⟨a1, j, j0, j1, j2⟩ := lv_mem hb h hi hp ⟨d0, d1⟩ i0 i1
    have z := h5 d j d0 d1 j0 j1
    rw [← j2] at z
    rw [oo 28 d (by decide) (by decide) (by decide) (by decide) (by decide), oo 29 d (by decide) (by decide) (by decide) (by decide) (by decide), oo 37 d (by decide) (by decide) (by decide) (by decide) (by decide), e32]
    unfold opM at z ⊢
    rw [u15 _ a1, oo 11 _ (by decide) (by decide) (by decide) (by decide) (by decide)]
    exact z
/-- t comes to the end of the row of b -/
theorem j_wF {S S9 : mS} {B b t : Int32} (hb : 0 ≤ b ∧ b < 24) (ht : 0 ≤ t ∧ t < 8) (h : mInv S) (hJ : jIn S B t) (hn : nR S t) (h21 : gA S 21 t = 0)
    (hk : gA S 28 b ≠ 0) (s3 : gA S 28 b = 3 → gA S 29 b ≠ 0) (s4 : gA S 28 b = 4 → gA S 33 b + 1 < gA S 29 b) (sm : jMb (gA S 28 b) (gA S 37 b) (gA S 29 b) (opM S t)) (s22 : gA S 22 t ≠ 0 → gA S 28 b = 1) (s17 : gA S 17 t = 0)
    (e : S9 = sA (sA (sA (sA S 13 t 2) 16 t b) 32 (8 * b + gA S 33 b) t) 33 b (gA S 33 b + 1)) : jIn S9 B (-1) := by
  have hL := roomW hb ht h hn
  obtain ⟨h1, h2, h3, h4, h5, h6⟩ := hJ
  have oo : ∀ k i, k ≠ 13 → k ≠ 16 → k ≠ 32 → k ≠ 33 → gA S9 k i = gA S k i := fun k i a1 a2 a3 a4 => by rw [e]; simp [gA_sA, a1, a2, a3, a4]
  have e13 : ∀ u, u ≠ t → gA S9 13 u = gA S 13 u := fun u hu => by rw [e]; simp [gA_sA, hu]
  have e16 : ∀ u, u ≠ t → gA S9 16 u = gA S 16 u := fun u hu => by rw [e]; simp [gA_sA, hu]
  have e13t : gA S9 13 t = 2 := by rw [e]; simp [gA_sA]
  have e16t : gA S9 16 t = b := by rw [e]; simp [gA_sA]
  have e33 : ∀ d, d ≠ b → gA S9 33 d = gA S 33 d := fun d hd => by rw [e]; simp [gA_sA, hd]
  have e33b : gA S9 33 b = gA S 33 b + 1 := by rw [e]; simp [gA_sA]
  have e32t : gA S9 32 (8 * b + gA S 33 b) = t := by rw [e]; simp [gA_sA]
  have e32 : ∀ q, q ≠ 8 * b + gA S 33 b → gA S9 32 q = gA S 32 q := fun q hq => by rw [e]; simp [gA_sA, hq]
  have keep : ∀ d u, 0 ≤ d → d < 24 → inR S d u → inR S9 d u := by
    intro d u d0 d1 hi
    obtain ⟨i, i0, i1, i2⟩ := hi
    have l8 := pre_lv ⟨d0, d1⟩ h
    by_cases q : d = b
    · subst q
      exact ⟨i, i0, by rw [e33b]; clear h1 h2 h3 h4 h5 h6 oo e13 e16 e33 e32 h hn e; grind, by rw [e32 _ (by clear h1 h2 h3 h4 h5 h6 oo e13 e16 e33 e32 h hn e; grind)]; exact i2⟩
    · refine ⟨i, i0, by rw [e33 d q]; exact i1, ?_⟩
      rw [e32 _ (fun z => q (ix8 ⟨d0, d1⟩ hb ⟨i0, by clear h1 h2 h3 h4 h5 h6 oo e13 e16 e33 e32 h hn e; grind⟩ hL z).1)]; exact i2
  refine ⟨?_, ?_, ?_, ?_, ?_, fun u ue u0 u1 u21 => by rw [oo 21 u (by decide) (by decide) (by decide) (by decide)] at u21; rw [oo 19 u (by decide) (by decide) (by decide) (by decide)]; exact h6 u (fun q => u21 (by rw [q]; exact h21)) u0 u1 u21⟩
  · intro d d0 d1
    have z := h1 d d0 d1
    rw [oo 28 d (by decide) (by decide) (by decide) (by decide), oo 29 d (by decide) (by decide) (by decide) (by decide), oo 30 d (by decide) (by decide) (by decide) (by decide), oo 31 d (by decide) (by decide) (by decide) (by decide)]
    by_cases q : d = b
    · subst q; rw [e33b]; unfold jOb at z ⊢; clear h1 h2 h3 h4 h5 h6 oo e13 e16 e33 e32 h hn e keep sm; grind
    · rw [e33 d q]; exact z
  · intro u u0 u1
    have z := h2 u u0 u1
    rw [oo 17 u (by decide) (by decide) (by decide) (by decide), oo 18 u (by decide) (by decide) (by decide) (by decide), oo 22 u (by decide) (by decide) (by decide) (by decide)]
    by_cases q : u = t
    · subst q; rw [e13t]; exact ⟨by decide, by decide, fun w => absurd s17 w, z.2.2.2⟩
    · rw [e13 u q]; exact z
  · intro u ue u0 u1 a1 a2
    rw [oo 21 u (by decide) (by decide) (by decide) (by decide)] at a2
    by_cases q : u = t
    · subst q; rw [e16t]; exact ⟨gA S 33 b, hL.1, by rw [e33b]; clear h1 h2 h3 h4 h5 h6 oo e13 e16 e33 e32 h hn e keep sm; grind, e32t⟩
    · rw [e13 u q] at a1
      rw [e16 u q]
      have r := (h.2.1 u u0 u1).2.1 a1
      exact keep _ _ r.1 r.2 (h3 u q u0 u1 a1 a2)
  · intro u ue u0 u1 a1 a2
    rw [oo 21 u (by decide) (by decide) (by decide) (by decide)] at a2
    rw [oo 22 u (by decide) (by decide) (by decide) (by decide)] at a1
    by_cases q : u = t
    · subst q; exact ⟨b, hb.1, hb.2, by rw [oo 28 b (by decide) (by decide) (by decide) (by decide)]; exact s22 a1, gA S 33 b, hL.1, by rw [e33b]; clear h1 h2 h3 h4 h5 h6 oo e13 e16 e33 e32 h hn e keep sm; grind, e32t⟩
    · obtain ⟨d, d0, d1, dk, di⟩ := h4 u q u0 u1 a1 a2
      exact ⟨d, d0, d1, by rw [oo 28 d (by decide) (by decide) (by decide) (by decide)]; exact dk, keep d u d0 d1 di⟩
  · intro d i d0 d1 i0 i1
    rw [oo 28 d (by decide) (by decide) (by decide) (by decide), oo 29 d (by decide) (by decide) (by decide) (by decide), oo 37 d (by decide) (by decide) (by decide) (by decide)]
    have o11 : ∀ u, opM S9 u = opM S u := fun u => by unfold opM; rw [oo 15 u (by decide) (by decide) (by decide) (by decide), oo 11 _ (by decide) (by decide) (by decide) (by decide)]
    rw [o11]
    have l8 := pre_lv ⟨d0, d1⟩ h
    by_cases q : d = b
    · subst q
      rw [e33b] at i1
      by_cases y : i = gA S 33 d
      · subst y; rw [e32t]; exact sm
      · rw [e32 _ (by clear h1 h2 h3 h4 h5 h6 oo e13 e16 e33 e32 h hn e keep sm o11; grind)]
        exact h5 d i d0 d1 i0 (by clear h1 h2 h3 h4 h5 h6 oo e13 e16 e33 e32 h hn e keep sm o11; grind)
    · rw [e33 d q] at i1
      rw [e32 _ (fun z => q (ix8 ⟨d0, d1⟩ hb ⟨i0, by clear h1 h2 h3 h4 h5 h6 oo e13 e16 e33 e32 h hn e keep sm o11; grind⟩ hL z).1)]
      exact h5 d i d0 d1 i0 i1
/-- one of a row is READY, or waits there again -/
theorem j_st {S S9 : mS} {B t v w : Int32} (h : mInv S) (hJ : jIn S B (-1)) (h13 : gA S 13 t = 1 ∨ gA S 13 t = 2 ∨ gA S 13 t = 3) (hv : (v = 1 ∧ gA S 21 t = 0) ∨ (v = 2 ∧ inR S w t)) (e : S9 = sA (sA S 13 t v) 16 t w) : jIn S9 B (-1) := by
  obtain ⟨h1, h2, h3, h4, h5, h6⟩ := hJ
  have oo : ∀ k i, k ≠ 13 → k ≠ 16 → gA S9 k i = gA S k i := fun k i a1 a2 => by rw [e]; simp [gA_sA, a1, a2]
  have e13 : ∀ u, u ≠ t → gA S9 13 u = gA S 13 u := fun u hu => by rw [e]; simp [gA_sA, hu]
  have e16 : ∀ u, u ≠ t → gA S9 16 u = gA S 16 u := fun u hu => by rw [e]; simp [gA_sA, hu]
  have e13t : gA S9 13 t = v := by rw [e]; simp [gA_sA]
  have e16t : gA S9 16 t = w := by rw [e]; simp [gA_sA]
  have o33 : ∀ d, gA S9 33 d = gA S 33 d := fun d => oo 33 d (by decide) (by decide)
  have o32 : ∀ d, gA S9 32 d = gA S 32 d := fun d => oo 32 d (by decide) (by decide)
  have oR : ∀ d u, inR S d u → inR S9 d u := fun d u z => by unfold inR; simp only [o33, o32]; exact z
  refine ⟨?_, ?_, ?_, ?_, ?_, fun u ue u0 u1 => by rw [oo 21 u (by decide) (by decide), oo 19 u (by decide) (by decide)]; exact h6 u ue u0 u1⟩
  · intro d
    rw [oo 28 d (by decide) (by decide), oo 29 d (by decide) (by decide), oo 30 d (by decide) (by decide), oo 31 d (by decide) (by decide), o33]
    exact h1 d
  · intro u u0 u1
    have z := h2 u u0 u1
    rw [oo 17 u (by decide) (by decide), oo 18 u (by decide) (by decide), oo 22 u (by decide) (by decide)]
    by_cases q : u = t
    · subst q
      rw [e13t]
      have w17 : gA S 17 u = 0 := by
        by_cases q : gA S 17 u = 0
        · exact q
        · have := z.2.2.1 q; rw [this] at h13; exact absurd h13 (by decide)
      refine ⟨?_, ?_, fun w => absurd w17 w, z.2.2.2⟩
      · rcases hv with y | y <;> rw [y.1] <;> decide
      · rcases hv with y | y <;> rw [y.1] <;> decide
    · rw [e13 u q]; exact z
  · intro u ue u0 u1 a1 a2
    rw [oo 21 u (by decide) (by decide)] at a2
    by_cases q : u = t
    · subst q
      rw [e16t]
      rcases hv with y | y
      · rw [e13t, y.1] at a1; exact absurd a1 (by decide)
      · exact oR _ _ y.2
    · rw [e13 u q] at a1; rw [e16 u q]; exact oR _ _ (h3 u ue u0 u1 a1 a2)
  · intro u ue u0 u1 a1 a2
    rw [oo 21 u (by decide) (by decide)] at a2
    rw [oo 22 u (by decide) (by decide)] at a1
    obtain ⟨d, d0, d1, dk, di⟩ := h4 u ue u0 u1 a1 a2
    exact ⟨d, d0, d1, by rw [oo 28 d (by decide) (by decide)]; exact dk, oR _ _ di⟩
  · intro d i d0 d1 i0 i1
    rw [o33] at i1
    have o11 : ∀ u, opM S9 u = opM S u := fun u => by unfold opM; rw [oo 15 u (by decide) (by decide), oo 11 _ (by decide) (by decide)]
    rw [oo 28 d (by decide) (by decide), oo 29 d (by decide) (by decide), oo 37 d (by decide) (by decide), o32, o11]
    exact h5 d i d0 d1 i0 i1
/-- what comes after wait is over -/
theorem j_22 {S : mS} {B e t : Int32} (hJ : jIn S B e) : jIn (sA S 22 t 0) B e := by
  obtain ⟨h1, h2, h3, h4, h5, h6⟩ := hJ
  have oo : ∀ k i, k ≠ 22 → gA (sA S 22 t 0) k i = gA S k i := fun k i a1 => by simp [gA_sA, a1]
  have o22 : ∀ u, gA (sA S 22 t 0) 22 u ≠ 0 → gA S 22 u ≠ 0 := fun u => by
    simp only [gA_sA, if_true]; split
    · intro z; exact absurd rfl z
    · exact id
  refine ⟨?_, ?_, ?_, ?_, ?_, fun u ue u0 u1 => by rw [oo 21 u (by decide), oo 19 u (by decide)]; exact h6 u ue u0 u1⟩
  · intro d; simp only [oo _ _ (show (28 : Nat) ≠ 22 by decide), oo _ _ (show (29 : Nat) ≠ 22 by decide), oo _ _ (show (30 : Nat) ≠ 22 by decide), oo _ _ (show (31 : Nat) ≠ 22 by decide), oo _ _ (show (33 : Nat) ≠ 22 by decide)]; exact h1 d
  · intro u u0 u1
    have z := h2 u u0 u1
    simp only [oo _ _ (show (13 : Nat) ≠ 22 by decide), oo _ _ (show (17 : Nat) ≠ 22 by decide), oo _ _ (show (18 : Nat) ≠ 22 by decide)]
    exact ⟨z.1, z.2.1, z.2.2.1, fun w => z.2.2.2 (o22 u w)⟩
  · intro u; simp only [inR, oo _ _ (show (13 : Nat) ≠ 22 by decide), oo _ _ (show (16 : Nat) ≠ 22 by decide), oo _ _ (show (21 : Nat) ≠ 22 by decide), oo _ _ (show (32 : Nat) ≠ 22 by decide), oo _ _ (show (33 : Nat) ≠ 22 by decide)]; exact h3 u
  · intro u ue u0 u1 a1
    simp only [inR, oo _ _ (show (21 : Nat) ≠ 22 by decide), oo _ _ (show (28 : Nat) ≠ 22 by decide), oo _ _ (show (32 : Nat) ≠ 22 by decide), oo _ _ (show (33 : Nat) ≠ 22 by decide)]
    exact h4 u ue u0 u1 (o22 u a1)
  · intro d i; simp only [opM, oo _ _ (show (11 : Nat) ≠ 22 by decide), oo _ _ (show (15 : Nat) ≠ 22 by decide), oo _ _ (show (28 : Nat) ≠ 22 by decide), oo _ _ (show (29 : Nat) ≠ 22 by decide), oo _ _ (show (32 : Nat) ≠ 22 by decide), oo _ _ (show (33 : Nat) ≠ 22 by decide), oo _ _ (show (37 : Nat) ≠ 22 by decide)]; exact h5 d i
/-- t comes to the second row of b -/
theorem j_w2 {S S9 : mS} {B b t : Int32} (hJ : jIn S B (-1)) (hn : nR S t) (h17 : gA S 17 t = 0)
    (e13 : ∀ u, u ≠ t → gA S9 13 u = gA S 13 u) (e13t : gA S9 13 t = 2) (e16 : ∀ u, u ≠ t → gA S9 16 u = gA S 16 u) (e21 : ∀ u, u ≠ t → gA S9 21 u = gA S 21 u) (e21t : gA S9 21 t ≠ 0)
    (e22 : ∀ u, u ≠ t → gA S9 22 u = gA S 22 u) (e18 : ∀ u, u ≠ t → gA S9 18 u = gA S 18 u) (e18t : 1 ≤ gA S9 18 t ∧ gA S9 18 t ≤ B) (e19 : ∀ u, u ≠ t → gA S9 19 u = gA S 19 u) (e19t : gA S9 19 t = 1)
    (eo : ∀ k q, k = 11 ∨ k = 15 ∨ k = 17 ∨ k = 28 ∨ k = 29 ∨ k = 30 ∨ k = 31 ∨ k = 32 ∨ k = 33 ∨ k = 37 → gA S9 k q = gA S k q) : jIn S9 B (-1) := by
  obtain ⟨h1, h2, h3, h4, h5, h6⟩ := hJ
  have o11 := fun i => eo 11 i (by simp)
  have o15 := fun i => eo 15 i (by simp)
  have o17 := fun i => eo 17 i (by simp)
  have o28 := fun i => eo 28 i (by simp)
  have o29 := fun i => eo 29 i (by simp)
  have o30 := fun i => eo 30 i (by simp)
  have o31 := fun i => eo 31 i (by simp)
  have o32 := fun i => eo 32 i (by simp)
  have o33 := fun i => eo 33 i (by simp)
  have o37 := fun i => eo 37 i (by simp)
  refine ⟨?_, ?_, ?_, ?_, ?_, fun u ue u0 u1 u21 => ?_⟩
  rotate_left 5
  · by_cases q : u = t
    · subst q; exact e19t
    · rw [e21 u q] at u21; rw [e19 u q]; exact h6 u ue u0 u1 u21
  · intro d; simp only [o28, o29, o30, o31, o33]; exact h1 d
  · intro u u0 u1
    have z := h2 u u0 u1
    rw [o17]
    by_cases q : u = t
    · subst q; rw [e13t]; exact ⟨by decide, by decide, fun w => absurd h17 w, fun _ => e18t⟩
    · rw [e13 u q, e18 u q, e22 u q]; exact z
  · intro u ue u0 u1 a1 a2
    by_cases q : u = t
    · subst q; exact absurd a2 e21t
    · rw [e13 u q] at a1; rw [e21 u q] at a2; rw [e16 u q]; simp only [inR, o32, o33]; exact h3 u ue u0 u1 a1 a2
  · intro u ue u0 u1 a1 a2
    by_cases q : u = t
    · subst q; exact absurd a2 e21t
    · rw [e22 u q] at a1; rw [e21 u q] at a2; simp only [inR, o28, o32, o33]; exact h4 u ue u0 u1 a1 a2
  · intro d i; simp only [opM, o11, o15, o28, o29, o32, o33, o37]; exact h5 d i
/-- t leaves the second row of b -/
theorem j_s2 {S S1 S9 : mS} {B b t : Int32} (hJ : jIn S B t) (hp : lvP S S1 34 35 b t) (e : S9 = sA S1 21 t 0) : jIn S9 B t := by
  obtain ⟨g1, g2, g3, g4, g5, g6, g7, g8, g9, g10, g11⟩ := lvP_f (by decide) hp
  obtain ⟨h1, h2, h3, h4, h5, h6⟩ := hJ
  have oo : ∀ k i, k ≠ 21 → k ≠ 34 → k ≠ 35 → gA S9 k i = gA S k i := fun k i a1 a2 a3 => by rw [e]; simp only [gA_sA, a1, if_false]; exact g3 k i a2 a3
  have o21 : ∀ u, u ≠ t → gA S9 21 u = gA S 21 u := fun u hu => by rw [e]; simp only [gA_sA, if_true, hu, if_false]; exact g3 21 u (by decide) (by decide)
  have o21t : gA S9 21 t = 0 := by rw [e]; simp [gA_sA]
  have o (k : Nat) (i : Int32) (hk : k = 11 ∨ k = 13 ∨ k = 15 ∨ k = 16 ∨ k = 17 ∨ k = 18 ∨ k = 19 ∨ k = 22 ∨ k = 28 ∨ k = 29 ∨ k = 30 ∨ k = 31 ∨ k = 32 ∨ k = 33 ∨ k = 37) : gA S9 k i = gA S k i := oo k i (by omega) (by omega) (by omega)
  have o11 := fun i => o 11 i (by simp)
  have o13 := fun i => o 13 i (by simp)
  have o15 := fun i => o 15 i (by simp)
  have o16 := fun i => o 16 i (by simp)
  have o17 := fun i => o 17 i (by simp)
  have o18 := fun i => o 18 i (by simp)
  have o19 := fun i => o 19 i (by simp)
  have o22 := fun i => o 22 i (by simp)
  have o28 := fun i => o 28 i (by simp)
  have o29 := fun i => o 29 i (by simp)
  have o30 := fun i => o 30 i (by simp)
  have o31 := fun i => o 31 i (by simp)
  have o32 := fun i => o 32 i (by simp)
  have o33 := fun i => o 33 i (by simp)
  have o37 := fun i => o 37 i (by simp)
  refine ⟨?_, ?_, ?_, ?_, ?_, fun u ue u0 u1 => by rw [o21 u ue, o19]; exact h6 u ue u0 u1⟩
  · intro d; simp only [o28, o29, o30, o31, o33]; exact h1 d
  · intro u u0 u1
    have z := h2 u u0 u1
    rw [o13, o17, o18, o22]; exact z
  · intro u ue u0 u1 a1 a2
    rw [o13] at a1; rw [o21 u ue] at a2; rw [o16]; simp only [inR, o32, o33]; exact h3 u ue u0 u1 a1 a2
  · intro u ue u0 u1 a1 a2
    rw [o22] at a1; rw [o21 u ue] at a2; simp only [inR, o28, o32, o33]; exact h4 u ue u0 u1 a1 a2
  · intro d i; simp only [opM, o11, o15, o28, o29, o32, o33, o37]; exact h5 d i
/-- what A is when wait is over changes -/
theorem j_19 {S : mS} {B t v : Int32} (hJ : jIn S B (-1)) : jIn (sA S 19 t v) B t := by
  have hJ := j_wk (e := t) hJ
  obtain ⟨h1, h2, h3, h4, h5, h6⟩ := hJ
  have oo : ∀ k i, k ≠ 19 → gA (sA S 19 t v) k i = gA S k i := fun k i a1 => by simp [gA_sA, a1]
  have o (k : Nat) (i : Int32) (hk : k = 11 ∨ k = 13 ∨ k = 15 ∨ k = 16 ∨ k = 17 ∨ k = 18 ∨ k = 21 ∨ k = 22 ∨ k = 28 ∨ k = 29 ∨ k = 30 ∨ k = 31 ∨ k = 32 ∨ k = 33 ∨ k = 37) : gA (sA S 19 t v) k i = gA S k i := oo k i (by omega)
  have o19 : ∀ u, u ≠ t → gA (sA S 19 t v) 19 u = gA S 19 u := fun u hu => by simp [gA_sA, hu]
  generalize sA S 19 t v = S9 at *
  have o11 := fun i => o 11 i (by simp)
  have o13 := fun i => o 13 i (by simp)
  have o15 := fun i => o 15 i (by simp)
  have o16 := fun i => o 16 i (by simp)
  have o17 := fun i => o 17 i (by simp)
  have o18 := fun i => o 18 i (by simp)
  have o21 := fun i => o 21 i (by simp)
  have o22 := fun i => o 22 i (by simp)
  have o28 := fun i => o 28 i (by simp)
  have o29 := fun i => o 29 i (by simp)
  have o30 := fun i => o 30 i (by simp)
  have o31 := fun i => o 31 i (by simp)
  have o32 := fun i => o 32 i (by simp)
  have o33 := fun i => o 33 i (by simp)
  have o37 := fun i => o 37 i (by simp)
  refine ⟨?_, ?_, ?_, ?_, ?_, fun u ue u0 u1 => by rw [o21, o19 u ue]; exact h6 u ue u0 u1⟩
  · intro d; simp only [o28, o29, o30, o31, o33]; exact h1 d
  · intro u; simp only [o13, o17, o18, o22]; exact h2 u
  · intro u; simp only [inR, o13, o16, o21, o32, o33]; exact h3 u
  · intro u; simp only [inR, o21, o22, o28, o32, o33]; exact h4 u
  · intro d i; simp only [opM, o11, o15, o28, o29, o32, o33, o37]; exact h5 d i
/-- .. of one that is in no second row -/
theorem j_19n {S : mS} {B t v : Int32} (hJ : jIn S B (-1)) (h21 : gA S 21 t = 0) : jIn (sA S 19 t v) B (-1) := by
  obtain ⟨h1, h2, h3, h4, h5, h6⟩ := j_19 (t := t) (v := v) hJ
  have a1 := hJ.2.2.1
  have a2 := hJ.2.2.2.1
  have a3 := hJ.2.2.2.2.2
  refine ⟨h1, h2, ?_, ?_, h5, ?_⟩
  · simpa [j3, inR, gA_sA] using a1
  · simpa [j4, inR, gA_sA] using a2
  · intro u ue u0 u1 u21
    by_cases q : u = t
    · subst q; simp [gA_sA] at u21; exact absurd h21 u21
    · have z := a3 u ue u0 u1 (by simpa [gA_sA] using u21)
      simpa [gA_sA, q] using z

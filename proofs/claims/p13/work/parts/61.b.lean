/-! the rows of OBJECTS in both -/
theorem Rel_row {ad : adT} {e e9 : Int32} {S S9 : mS} {X X9 : xS} {b t : Int32} (h : Rel ad e S X) (fx : frX (ad 3 b) (ad 4 b) (ad 0 t) X X9) (fs : ∀ k i, k ≠ 32 → k ≠ 33 → gA S9 k i = gA S k i) (fI : ∀ k, gI S9 k = gI S k) (fJ : ∀ k, gJ S9 k = gJ S k) (fL : ∀ k i, gL S9 k i = gL S k i)
    (n1 : Rp1 ad S9 X9) (n2 : Rp2 ad e9 S9 X9) (n3 : Rp3 ad S9 X9) (n4 : Rr ad S9 X9) : Rel ad e9 S9 X9 := by
  obtain ⟨hj, h1, h2, h3, h4, h5, h6, h7, h8, h9, h10, h11⟩ := h
  obtain ⟨f1, f2, f3, f4, f5, f6⟩ := fx
  have i0 : ∀ k i j, k ≠ 3 → xI X9 (ad k i) j = xI X (ad k i) j := fun k i j hk => f1 _ _ (fun z => hk (hj _ _ _ _ z.1).1)
  have r0 : ∀ k i j, k ≠ 0 → xR X9 (ad k i) j = xR X (ad k i) j := fun k i j hk => f3 _ _ (fun z => hk (hj _ _ _ _ z.1).1)
  have r1 : ∀ i, xR X9 (ad 0 i) 11 = xR X (ad 0 i) 11 := fun i => f3 _ _ (fun z => by have := z.2; omega)
  have q0 : ∀ k i j, k ≠ 4 → xQ X9 (ad k i) j = xQ X (ad k i) j := fun k i j hk => f5 _ _ (fun z => hk (hj _ _ _ _ z).1)
  exact ⟨hj, by simpa [Rk, i0, r0, r1, q0, f2, f4, f6, fs, fI, fJ, fL] using h1, by simpa [Rz, i0, r0, r1, q0, f2, f4, f6, fs, fI, fJ, fL] using h2, by simpa [Rt, i0, r0, r1, q0, f2, f4, f6, fs, fI, fJ, fL] using h3, by simpa [Rc, cM, i0, r0, r1, q0, f2, f4, f6, fs, fI, fJ, fL] using h4, n1, n2, n3, by simpa [Ro, rOb, i0, r0, r1, q0, f2, f4, f6, fs, fI, fJ, fL] using h8, n4, by simpa [Rr2, i0, r0, r1, q0, f2, f4, f6, fs, fI, fJ, fL] using h10, by simpa [Rq, i0, r0, r1, q0, f2, f4, f6, fs, fI, fJ, fL] using h11⟩
theorem Rel_row2 {ad : adT} {e e9 : Int32} {S S9 : mS} {X X9 : xS} {b t : Int32} (h : Rel ad e S X) (fx : frX (ad 5 b) (ad 6 b) (ad 0 t) X X9) (fs : ∀ k i, k ≠ 34 → k ≠ 35 → gA S9 k i = gA S k i) (fI : ∀ k, gI S9 k = gI S k) (fJ : ∀ k, gJ S9 k = gJ S k) (fL : ∀ k i, gL S9 k i = gL S k i)
    (n1 : Rp1 ad S9 X9) (n2 : Rp2 ad e9 S9 X9) (n3 : Rp3 ad S9 X9) (n4 : Rr2 ad S9 X9) : Rel ad e9 S9 X9 := by
  obtain ⟨hj, h1, h2, h3, h4, h5, h6, h7, h8, h9, h10, h11⟩ := h
  obtain ⟨f1, f2, f3, f4, f5, f6⟩ := fx
  have i0 : ∀ k i j, k ≠ 5 → xI X9 (ad k i) j = xI X (ad k i) j := fun k i j hk => f1 _ _ (fun z => hk (hj _ _ _ _ z.1).1)
  have r0 : ∀ k i j, k ≠ 0 → xR X9 (ad k i) j = xR X (ad k i) j := fun k i j hk => f3 _ _ (fun z => hk (hj _ _ _ _ z.1).1)
  have r1 : ∀ i, xR X9 (ad 0 i) 11 = xR X (ad 0 i) 11 := fun i => f3 _ _ (fun z => by have := z.2; omega)
  have q0 : ∀ k i j, k ≠ 6 → xQ X9 (ad k i) j = xQ X (ad k i) j := fun k i j hk => f5 _ _ (fun z => hk (hj _ _ _ _ z).1)
  exact ⟨hj, by simpa [Rk, i0, r0, r1, q0, f2, f4, f6, fs, fI, fJ, fL] using h1, by simpa [Rz, i0, r0, r1, q0, f2, f4, f6, fs, fI, fJ, fL] using h2, by simpa [Rt, i0, r0, r1, q0, f2, f4, f6, fs, fI, fJ, fL] using h3, by simpa [Rc, cM, i0, r0, r1, q0, f2, f4, f6, fs, fI, fJ, fL] using h4, n1, n2, n3, by simpa [Ro, rOb, i0, r0, r1, q0, f2, f4, f6, fs, fI, fJ, fL] using h8, by simpa [Rr, i0, r0, r1, q0, f2, f4, f6, fs, fI, fJ, fL] using h9, n4, by simpa [Rq, i0, r0, r1, q0, f2, f4, f6, fs, fI, fJ, fL] using h11⟩
theorem Rel_wk {ad : adT} {e : Int32} {S : mS} {X : xS} (h : Rel ad (-1) S X) : Rel ad e S X := by
  obtain ⟨hj, h1, h2, h3, h4, h5, h6, h7, h8, h9, h10, h11⟩ := h
  exact ⟨hj, h1, h2, h3, h4, h5, fun t _ t0 t1 => h6 t (by grind) t0 t1, h7, h8, h9, h10, h11⟩
theorem p_lv {S : mS} {b t : Int32} (hb : 0 ≤ b ∧ b < 24) (h : mInv S) : lvP S (G_leaves S b t) 32 33 b t := p_leaves S b t hb (pre_lv hb h) (rd_lv hb h) _ rfl
theorem leaves_e (S : mS) (b t : Int32) : G_leaves S b t = G_leaves_L5 b t ((gA S 33 b - 0).toInt.toNat + 1) 0 0 S := by simp only [G_leaves, gLt]
theorem remove_e (X : xS) (p a : Nat) : FC_X6_remove X p a = FC_X6_remove_L4 p a ((8 - 0 : Int32).toInt.toNat + 1) 0 0 X := by rw [FC_X6_remove, gLt, gLt]
/-- t leaves the row of b -/
theorem Rel_rm1 {ad : adT} {S : mS} {X : xS} {b t : Int32} (h : Rel ad (-1) S X) (hm : mInv S) (hb : 0 ≤ b ∧ b < 24) (hk : gA S 28 b ≠ 0) (hi : inR S b t) : Rel ad t (G_leaves S b t) (FC_X6_remove X (ad 3 b) (ad 0 t)) := by
  have hp := p_lv (t := t) hb hm
  have l8 := pre_lv hb hm
  obtain ⟨g1, g2, g3, g4, g5, g6, g7, g8, g9, g10, g11⟩ := lvP_f (by decide) hp
  obtain ⟨ht, t21, t13⟩ := in_row hb hm hi
  have hR := h
  obtain ⟨hj, h1, h2, h3, h4, h5, h6, h7, h8, h9, h10, h11⟩ := hR
  obtain ⟨z1, z2⟩ := h9 b hb.1 hb.2 hk
  have z3 : xR X (ad 3 b) 1 = some (ad 4 b) := ((h8 b hb.1 hb.2).2 hk).2.2.2.2.2.1
  have eL : G_leaves S b t = sA (lv_L 32 33 b t ((gA S 33 b - 0).toInt.toNat + 1) 0 0 S).2 33 b (lv_L 32 33 b t ((gA S 33 b - 0).toInt.toNat + 1) 0 0 S).1 := (leaves_e S b t).trans (leaves_L _ 0 0 S (by decide) l8.2 (Nat.lt_succ_self _))
  obtain ⟨k1, k2, k3, k4⟩ := lk_rm hj (kr := 32) (kl := 33) (t := t) (by decide) ((8 - 0 : Int32).toInt.toNat + 1) ((gA S 33 b - 0).toInt.toNat + 1) 0 0 S X (by decide) (by decide) l8.1 l8.2 (Nat.lt_succ_self _) (Nat.lt_succ_self _) z1 z3 (fun j j0 j1 => by grind) (fun j j0 j1 => z2 j j0 j1) (ad 0 t)
  rw [← remove_e] at k1 k2 k3 k4
  generalize FC_X6_remove X (ad 3 b) (ad 0 t) = X9 at k1 k2 k3 k4 ⊢
  have a1 : gA (G_leaves S b t) 33 b = (lv_L 32 33 b t ((gA S 33 b - 0).toInt.toNat + 1) 0 0 S).1 := by rw [eL]; simp [gA_sA]
  have a2 : ∀ j, gA (G_leaves S b t) 32 j = gA (lv_L 32 33 b t ((gA S 33 b - 0).toInt.toNat + 1) 0 0 S).2 32 j := fun j => by rw [eL]; simp [gA_sA]
  rw [← a1] at k3 k4
  simp only [← a2] at k4
  generalize G_leaves S b t = S9 at *
  refine Rel_row h k1 g3 g4 g5 g6 ?_ ?_ ?_ ?_
  · intro d i d0 d1 i0 i1
    obtain ⟨y1, j, j0, j1, j2⟩ := lv_mem hb hm hi hp ⟨d0, d1⟩ i0 i1
    rw [k2, k2, j2]; exact h5 d j d0 d1 j0 j1
  · intro u ut u0 u1 un u21
    rw [k2, k2]
    refine h6 u (by grind) u0 u1 (fun d i d0 d1 i0 i1 z => ?_) (by rw [← g3 21 u (by decide) (by decide)]; exact u21)
    obtain ⟨j, j0, j1, j2⟩ := lv_kept hb hm hp ⟨d0, d1⟩ ut ⟨i, i0, i1, z⟩
    exact un d j d0 d1 j0 j1 j2
  · intro u u0 u1 u21
    rw [g3 21 u (by decide) (by decide)] at u21
    rw [k2, k2, g3 16 u (by decide) (by decide)]; exact h7 u u0 u1 u21
  · intro d d0 d1 dk
    rw [g3 28 d (by decide) (by decide)] at dk
    by_cases q : d = b
    · subst q; exact ⟨k3, k4⟩
    · obtain ⟨y1, y2⟩ := h9 d d0 d1 dk
      have l9 := pre_lv ⟨d0, d1⟩ hm
      refine ⟨?_, fun i i0 i1 => ?_⟩
      · rw [k1.1 _ _ (fun z => q (hj _ _ _ _ z.1).2), g2 d q]; exact y1
      · rw [g2 d q] at i1
        rw [k1.2.2.2.2.1 _ _ (fun z => q (hj _ _ _ _ z).2), lvP_o (by decide) hb l8.2 hp ⟨d0, d1⟩ ⟨i0, by clear g1 g2 g3 g4 g5 g6 g7 g8 g9 g10 g11 hp h1 h2 h3 h4 h5 h6 h7 h8 h9 h10 h11; grind⟩ q]
        exact y2 i i0 i1
/-- one that stands in no row says so -/
theorem Rel_null {ad : adT} {S : mS} {X : xS} {t : Int32} (h : Rel ad t S X) (ht : 0 ≤ t ∧ t < 8) (hn : nR S t) (h21 : gA S 21 t = 0) : Rel ad (-1) S (xwR (xwR X (ad 0 t) 8 none) (ad 0 t) 7 none) := by
  have hR := h
  obtain ⟨hj, h1, h2, h3, h4, h5, h6, h7, h8, h9, h10, h11⟩ := hR
  refine Rel_row (b := 0) (t := t) h (frX_tr (frX_a (Or.inr rfl)) (frX_a (Or.inl rfl))) (fun _ _ _ _ => rfl) (fun _ => rfl) (fun _ => rfl) (fun _ _ => rfl) ?_ ?_ ?_ ?_
  · intro d i d0 d1 i0 i1
    have q : gA S 32 (8 * d + i) ≠ t := hn d i d0 d1 i0 i1
    have z := h5 d i d0 d1 i0 i1
    simpa [xR_R, inj_e hj, q] using z
  · intro u _ u0 u1 un u21
    by_cases q : u = t
    · subst q; simp [xR_R]
    · have z := h6 u q u0 u1 un u21
      simpa [xR_R, inj_e hj, q] using z
  · intro u u0 u1 u21
    have q : u ≠ t := fun q => u21 (by rw [q]; exact h21)
    have z := h7 u u0 u1 u21
    simpa [xR_R, inj_e hj, q] using z
  · intro d d0 d1 dk
    exact h9 d d0 d1 dk
/-- t comes to the end of the row of b -/
theorem Rel_add1 {ad : adT} {S : mS} {X : xS} {b t : Int32} (h : Rel ad t S X) (hm : mInv S) (hb : 0 ≤ b ∧ b < 24) (ht : 0 ≤ t ∧ t < 8) (hk : gA S 28 b ≠ 0) (hn : nR S t) (h21 : gA S 21 t = 0) :
    Rel ad (-1) (sA (sA S 32 (8 * b + gA S 33 b) t) 33 b (gA S 33 b + 1)) (xwR (xwR (FC_X6_add X (ad 3 b) (ad 0 t)) (ad 0 t) 8 (some (ad 3 b))) (ad 0 t) 7 (some (ad 2 b))) := by
  have hL := roomW hb ht hm hn
  have hR := h
  obtain ⟨hj, h1, h2, h3, h4, h5, h6, h7, h8, h9, h10, h11⟩ := hR
  obtain ⟨z1, z2⟩ := h9 b hb.1 hb.2 hk
  have z3 : xR X (ad 3 b) 1 = some (ad 4 b) := ((h8 b hb.1 hb.2).2 hk).2.2.2.2.2.1
  have eX : FC_X6_add X (ad 3 b) (ad 0 t) = xwI (xwQ X (ad 4 b) (gA S 33 b) (some (ad 0 t))) (ad 3 b) 0 (gA S 33 b + 1) := by
    unfold FC_X6_add; simp only [gLt, z1, z3, Option.getD_some]; rw [if_neg (by clear h1 h2 h3 h4 h5 h6 h7 h8 h9 h10 h11 hm; grind)]
  rw [eX]
  have e33 : ∀ d, d ≠ b → gA (sA (sA S 32 (8 * b + gA S 33 b) t) 33 b (gA S 33 b + 1)) 33 d = gA S 33 d := fun d hd => by simp [gA_sA, hd]
  have e33b : gA (sA (sA S 32 (8 * b + gA S 33 b) t) 33 b (gA S 33 b + 1)) 33 b = gA S 33 b + 1 := by simp [gA_sA]
  have e32t : gA (sA (sA S 32 (8 * b + gA S 33 b) t) 33 b (gA S 33 b + 1)) 32 (8 * b + gA S 33 b) = t := by simp [gA_sA]
  have e32 : ∀ q, q ≠ 8 * b + gA S 33 b → gA (sA (sA S 32 (8 * b + gA S 33 b) t) 33 b (gA S 33 b + 1)) 32 q = gA S 32 q := fun q hq => by simp [gA_sA, hq]
  have fs : ∀ k i, k ≠ 32 → k ≠ 33 → gA (sA (sA S 32 (8 * b + gA S 33 b) t) 33 b (gA S 33 b + 1)) k i = gA S k i := fun k i a1 a2 => by simp [gA_sA, a1, a2]
  have nr : ∀ u, u ≠ t → nR (sA (sA S 32 (8 * b + gA S 33 b) t) 33 b (gA S 33 b + 1)) u → nR S u := by
    intro u ut un d i d0 d1 i0 i1 z
    have l9 := pre_lv ⟨d0, d1⟩ hm
    by_cases q : d = b
    · subst q
      exact un d i d0 d1 i0 (by rw [e33b]; clear h1 h2 h3 h4 h5 h6 h7 h8 h9 h10 h11 hm e33 e32 fs un; grind) (by rw [e32 _ (by clear h1 h2 h3 h4 h5 h6 h7 h8 h9 h10 h11 hm e33 e32 fs un; grind)]; exact z)
    · exact un d i d0 d1 i0 (by rw [e33 d q]; exact i1) (by rw [e32 _ (fun y => q (ix8 ⟨d0, d1⟩ hb ⟨i0, by clear h1 h2 h3 h4 h5 h6 h7 h8 h9 h10 h11 hm e33 e32 fs un; grind⟩ hL y).1)]; exact z)
  have eI : ∀ k, gI (sA (sA S 32 (8 * b + gA S 33 b) t) 33 b (gA S 33 b + 1)) k = gI S k := fun _ => rfl
  have eJ : ∀ k, gJ (sA (sA S 32 (8 * b + gA S 33 b) t) 33 b (gA S 33 b + 1)) k = gJ S k := fun _ => rfl
  have eL : ∀ k i, gL (sA (sA S 32 (8 * b + gA S 33 b) t) 33 b (gA S 33 b + 1)) k i = gL S k i := fun _ _ => rfl
  generalize sA (sA S 32 (8 * b + gA S 33 b) t) 33 b (gA S 33 b + 1) = S9 at *
  refine Rel_row (b := b) (t := t) h (frX_tr (frX_tr (frX_tr frX_q frX_p) (frX_a (Or.inr rfl))) (frX_a (Or.inl rfl))) fs ?_ ?_ ?_ ?_ ?_ ?_ ?_
  · intro k; rw [eI]
  · intro k; rw [eJ]
  · intro k i; rw [eL]
  · intro d i d0 d1 i0 i1
    by_cases y : gA S9 32 (8 * d + i) = t
    · rw [y]
      have q : d = b := by
        have l9 := pre_lv ⟨d0, d1⟩ hm
        by_cases q : d = b
        · exact q
        · rw [e33 d q] at i1
          rw [e32 _ (fun y => q (ix8 ⟨d0, d1⟩ hb ⟨i0, by clear h1 h2 h3 h4 h5 h6 h7 h8 h9 h10 h11 hm e33 e32 fs nr; grind⟩ hL y).1)] at y
          exact absurd y (hn d i d0 d1 i0 i1)
      subst q; simp [xR_R]
    · have l9 := pre_lv ⟨d0, d1⟩ hm
      have ne : 8 * d + i ≠ 8 * b + gA S 33 b := fun z => y (by rw [z]; exact e32t)
      rw [e32 _ ne] at y ⊢
      have i9 : i < gA S 33 d := by
        by_cases q : d = b
        · subst q; rw [e33b] at i1; clear h1 h2 h3 h4 h5 h6 h7 h8 h9 h10 h11 hm e33 e32 fs nr; grind
        · rw [e33 d q] at i1; exact i1
      have z := h5 d i d0 d1 i0 i9
      simpa [xR_R, xR_I, xR_Q, inj_e hj, y] using z
  · intro u _ u0 u1 un u21
    rw [fs 21 u (by decide) (by decide)] at u21
    have q : u ≠ t := fun q => by
      subst q
      exact un b (gA S 33 b) hb.1 hb.2 hL.1 (by rw [e33b]; clear h1 h2 h3 h4 h5 h6 h7 h8 h9 h10 h11 hm e33 e32 fs nr un; grind) e32t
    have z := h6 u q u0 u1 (nr u q un) u21
    simpa [xR_R, xR_I, xR_Q, inj_e hj, q] using z
  · intro u u0 u1 u21
    rw [fs 21 u (by decide) (by decide)] at u21
    rw [fs 16 u (by decide) (by decide)]
    have q : u ≠ t := fun q => u21 (by rw [q]; exact h21)
    have z := h7 u u0 u1 u21
    simpa [xR_R, xR_I, xR_Q, inj_e hj, q] using z
  · intro d d0 d1 dk
    rw [fs 28 d (by decide) (by decide)] at dk
    obtain ⟨y1, y2⟩ := h9 d d0 d1 dk
    have l9 := pre_lv ⟨d0, d1⟩ hm
    by_cases q : d = b
    · subst q
      refine ⟨by rw [e33b]; simp [xI_R, xI_I], fun i i0 i1 => ?_⟩
      rw [e33b] at i1
      by_cases y : i = gA S 33 d
      · subst y; rw [e32t]; simp [xQ_R, xQ_I, xQ_Q]
      · have ne : i.toNatClampNeg ≠ (gA S 33 d).toNatClampNeg := fun z => y (tn_inj i0 hL.1 z)
        rw [e32 _ (by clear h1 h2 h3 h4 h5 h6 h7 h8 h9 h10 h11 hm e33 e32 fs nr; grind)]
        have z := y2 i i0 (by clear h1 h2 h3 h4 h5 h6 h7 h8 h9 h10 h11 hm e33 e32 fs nr; grind)
        simpa [xQ_R, xQ_I, xQ_Q, ne] using z
    · refine ⟨by rw [e33 d q]; simpa [xI_R, xI_I, xI_Q, inj_e hj, q] using y1, fun i i0 i1 => ?_⟩
      rw [e33 d q] at i1
      rw [e32 _ (fun y => q (ix8 ⟨d0, d1⟩ hb ⟨i0, by clear h1 h2 h3 h4 h5 h6 h7 h8 h9 h10 h11 hm e33 e32 fs nr; grind⟩ hL y).1)]
      have z := y2 i i0 i1
      simpa [xQ_R, xQ_I, xQ_Q, inj_e hj, q] using z

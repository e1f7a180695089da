/-! both side by side: thread -/
theorem Rel_rd {ad : adT} {e : Int32} {S S9 : mS} {X Y : xS} (h : Rel ad e S X) (f : frT ad 0 240 X Y) (f26 : gI S9 26 = gI S 26) (fJ : ∀ k, gJ S9 k = gJ S k) (fA : ∀ k i, k ≠ 5 → gA S9 k i = gA S k i) (fL : ∀ k i, gL S9 k i = gL S k i) (f2 : gI S9 2 = 0) : Rel ad e S9 (xwI Y (ad 9 0) 2 0) := by
  obtain ⟨hj, h1, h2, h3, h4, h5, h6, h7, h8, h9, h10, h11⟩ := h
  obtain ⟨f1, g2, f3, f4, -, f6, f7⟩ := f
  have eI : ∀ k i j, k ≠ 9 → xI (xwI Y (ad 9 0) 2 0) (ad k i) j = xI X (ad k i) j := fun k i j ne => by
    rw [xI_I, if_neg (fun z => ne (hj _ _ _ _ z.1).1), f1 _ _ (fun z => ne (hj _ _ _ _ z.1).1)]
  have eJ : ∀ a j, xJ (xwI Y (ad 9 0) 2 0) a j = xJ X a j := fun a j => g2 a j
  have eR : ∀ a j, xR (xwI Y (ad 9 0) 2 0) a j = xR X a j := fun a j => f3 a j
  have eQ : ∀ a j, xQ (xwI Y (ad 9 0) 2 0) a j = xQ X a j := fun a j => f6 a j
  have eC : ∀ a, xC (xwI Y (ad 9 0) 2 0) a = xC X a := fun a => f7 a
  have eA : ∀ k i p, k ≠ 10 → xA (xwI Y (ad 9 0) 2 0) (ad k i) p = xA X (ad k i) p := fun k i p ne => f4 _ _ (fun z => ne (hj _ _ _ _ z).1)
  have eA1 : ∀ t, xA (xwI Y (ad 9 0) 2 0) (ad 1 t) = xA X (ad 1 t) := fun t => funext (fun p => eA 1 t p (by decide))
  have e11 := fun i => fA 11 i (by decide)
  have e12 := fun i => fA 12 i (by decide)
  have e13 := fun i => fA 13 i (by decide)
  have e14 := fun i => fA 14 i (by decide)
  have e15 := fun i => fA 15 i (by decide)
  have e16 := fun i => fA 16 i (by decide)
  have e17 := fun i => fA 17 i (by decide)
  have e18 := fun i => fA 18 i (by decide)
  have e19 := fun i => fA 19 i (by decide)
  have e20 := fun i => fA 20 i (by decide)
  have e21 := fun i => fA 21 i (by decide)
  have e22 := fun i => fA 22 i (by decide)
  have e28 := fun i => fA 28 i (by decide)
  have e29 := fun i => fA 29 i (by decide)
  have e30 := fun i => fA 30 i (by decide)
  have e31 := fun i => fA 31 i (by decide)
  have e32 := fun i => fA 32 i (by decide)
  have e33 := fun i => fA 33 i (by decide)
  have e34 := fun i => fA 34 i (by decide)
  have e35 := fun i => fA 35 i (by decide)
  have e36 := fun i => fA 36 i (by decide)
  have e37 := fun i => fA 37 i (by decide)
  have i0 := fun i j => eI 0 i j (by decide)
  have i2 := fun i j => eI 2 i j (by decide)
  have i3 := fun i j => eI 3 i j (by decide)
  have i5 := fun i j => eI 5 i j (by decide)
  have i8 := fun i j => eI 8 i j (by decide)
  have a7 := fun i p => eA 7 i p (by decide)
  refine ⟨hj, ?_, ?_, ?_, ?_, ?_, ?_, ?_, ?_, ?_, ?_, ?_⟩
  · simp only [Rk, eR, eJ, i8, eQ, fJ, f26]; exact h1
  · refine ⟨by rw [eR]; exact h2.1, by rw [f2]; simp [xI_I], by rw [eR]; exact h2.2.2.1, fun i q0 q1 => ?_, fun k k0 k1 => by rw [fL]; exact h2.2.2.2.2 k k0 k1⟩
    rw [f2] at q1; exact (Int32.lt_irrefl (Int32.lt_of_le_of_lt q0 q1)).elim
  · simp only [Rt, eR, eJ, i0, fL, e12, e13, e14, e15, e17, e18, e19, e20, e21, e22]; exact h3
  · simp only [Rc, eA1, e11, e12]; exact h4
  · simp only [Rp1, eR, e32, e33]; exact h5
  · simp only [Rp2, nR, eR, e21, e32, e33]; exact h6
  · simp only [Rp3, eR, e16, e21]; exact h7
  · simp only [Ro, rOb, eR, eQ, eC, i2, e28, e29, e30, e31]; exact h8
  · simp only [Rr, i3, eQ, e28, e32, e33]; exact h9
  · simp only [Rr2, i5, eQ, e28, e34, e35]; exact h10
  · simp only [Rq, i2, a7, e28, e29, e36, e37]; exact h11
/-- a THREAD that stands nowhere -/
theorem vac {ad : adT} {B : Int32} {S : mS} {X : xS} {v : Int32} (h : Sim ad B S X) (hv : 0 ≤ v ∧ v < 8) (hs : ¬ (1 ≤ gA S 13 v ∧ gA S 13 v ≤ 3)) : gA S 21 v = 0 ∧ gA S 22 v = 0 ∧ nR S v := by
  obtain ⟨⟨-, hQ, -, -, hR, -⟩, ⟨-, -, -, h4, -, -⟩, -⟩ := h
  have a : gA S 21 v = 0 := Classical.byContradiction (fun z => hs (by rw [((hQ v hv.1 hv.2).2.2 z).1]; decide))
  have m : ∀ b, 0 ≤ b → b < 24 → ¬ inR S b v := fun b b0 b1 z => by
    obtain ⟨i, i0, i1, i2⟩ := z
    have y := hR b i b0 b1 i0 i1
    rw [i2] at y
    rcases y.2.2.2 with w | w
    · exact hs (by rw [w.1]; decide)
    · exact hs (by rw [w.1]; decide)
  refine ⟨a, ?_, fun b i b0 b1 i0 i1 z => m b b0 b1 ⟨i, i0, i1, z⟩⟩
  refine Classical.byContradiction (fun z => ?_)
  obtain ⟨b, b0, b1, -, b3⟩ := h4 v (by clear hQ hR h4 m; grind) hv.1 hv.2 z a
  exact m b b0 b1 b3
def thK (k : Nat) : Prop := k = 12 ∨ k = 13 ∨ k = 14 ∨ k = 15 ∨ k = 16 ∨ k = 17 ∨ k = 20 ∨ k = 21 ∨ k = 22
/-- a THREAD begins anew -/
theorem Sim_new {ad : adT} {B : Int32} {S S9 : mS} {X X9 : xS} {v n : Int32} (h : Sim ad B S X) (hv : 0 ≤ v ∧ v < 8) (hs : ¬ (1 ≤ gA S 13 v ∧ gA S 13 v ≤ 3)) (m9 : mInv S9)
    (f26 : gI S9 26 = gI S 26) (f2 : gI S9 2 = gI S 2) (fJ : ∀ k, gJ S9 k = gJ S k) (fL : ∀ k i, gL S9 k i = gL S k i)
    (fA : ∀ k i, k ≠ 5 → k ≠ 11 → ¬ thK k → gA S9 k i = gA S k i) (ft : ∀ k u, thK k → u ≠ v → gA S9 k u = gA S k u)
    (f11 : ∀ t i, 0 ≤ t → t < 8 → t ≠ v → 0 ≤ i → i < 240 → gA S9 11 (240 * t + i) = gA S 11 (240 * t + i))
    (v12 : gA S9 12 v = n) (v13 : gA S9 13 v = 1) (v14 : gA S9 14 v = 0) (v15 : gA S9 15 v = 0) (v17 : gA S9 17 v = 0) (v20 : gA S9 20 v = 0) (v21 : gA S9 21 v = 0) (v22 : gA S9 22 v = 0)
    (gI9 : ∀ a j, ¬ (a = ad 0 v ∧ (j = 1 ∨ j = 2 ∨ j = 3 ∨ j = 4 ∨ j = 5 ∨ j = 12)) → xI X9 a j = xI X a j) (gA9 : ∀ a i, a ≠ ad 1 v → xA X9 a i = xA X a i) (gJ9 : ∀ a j, xJ X9 a j = xJ X a j) (gR9 : ∀ a j, xR X9 a j = xR X a j) (gQ9 : ∀ a i, xQ X9 a i = xQ X a i) (gC9 : ∀ a, xC X9 a = xC X a)
    (x1 : xI X9 (ad 0 v) 1 = 1) (x2 : xI X9 (ad 0 v) 2 = 0) (x3 : xI X9 (ad 0 v) 3 = 0) (x4 : xI X9 (ad 0 v) 4 = 0) (x5 : xI X9 (ad 0 v) 5 = 0) (x12 : xI X9 (ad 0 v) 12 = n)
    (cd : ∀ k, 0 ≤ k → k < n → cM (xA X9 (ad 1 v)) k (gA S9 11 (240 * v + 4 * k)) (gA S9 11 (240 * v + 4 * k + 1)) (gA S9 11 (240 * v + 4 * k + 2)) (gA S9 11 (240 * v + 4 * k + 3))) : Sim ad B S9 X9 := by
  have vc := vac h hv hs
  obtain ⟨v21o, v22o, hn⟩ := vc
  obtain ⟨⟨iT1, iQ1, iL1, iO1, iR1, iU1, -, -⟩, ⟨q1, q2, q3, q4, q5, q6⟩, hj, h1, h2, h3, h4, h5, h6, h7, h8, h9, h10, h11⟩ := h
  have e18 := fun i => fA 18 i (by decide) (by decide) (by simp [thK])
  have e19 := fun i => fA 19 i (by decide) (by decide) (by simp [thK])
  have e28 := fun i => fA 28 i (by decide) (by decide) (by simp [thK])
  have e29 := fun i => fA 29 i (by decide) (by decide) (by simp [thK])
  have e30 := fun i => fA 30 i (by decide) (by decide) (by simp [thK])
  have e31 := fun i => fA 31 i (by decide) (by decide) (by simp [thK])
  have e32 := fun i => fA 32 i (by decide) (by decide) (by simp [thK])
  have e33 := fun i => fA 33 i (by decide) (by decide) (by simp [thK])
  have e34 := fun i => fA 34 i (by decide) (by decide) (by simp [thK])
  have e35 := fun i => fA 35 i (by decide) (by decide) (by simp [thK])
  have e36 := fun i => fA 36 i (by decide) (by decide) (by simp [thK])
  have e37 := fun i => fA 37 i (by decide) (by decide) (by simp [thK])
  have e21 : ∀ t, gA S9 21 t = gA S 21 t := fun t => by
    by_cases c : t = v
    · rw [c, v21, v21o]
    · exact ft 21 t (by simp [thK]) c
  have e22 : ∀ t, gA S9 22 t = gA S 22 t := fun t => by
    by_cases c : t = v
    · rw [c, v22, v22o]
    · exact ft 22 t (by simp [thK]) c
  have i0 : ∀ t j, t ≠ v → xI X9 (ad 0 t) j = xI X (ad 0 t) j := fun t j ne => gI9 _ _ (fun z => ne (hj _ _ _ _ z.1).2)
  have iK : ∀ k t j, k ≠ 0 → xI X9 (ad k t) j = xI X (ad k t) j := fun k t j ne => gI9 _ _ (fun z => ne (hj _ _ _ _ z.1).1)
  have iv : ∀ j, ¬ (j = 1 ∨ j = 2 ∨ j = 3 ∨ j = 4 ∨ j = 5 ∨ j = 12) → xI X9 (ad 0 v) j = xI X (ad 0 v) j := fun j ne => gI9 _ _ (fun z => ne z.2)
  have aK : ∀ k t p, k ≠ 1 → xA X9 (ad k t) p = xA X (ad k t) p := fun k t p ne => gA9 _ _ (fun z => ne (hj _ _ _ _ z).1)
  have a1 : ∀ t, t ≠ v → xA X9 (ad 1 t) = xA X (ad 1 t) := fun t ne => funext (fun p => gA9 _ _ (fun z => ne (hj _ _ _ _ z).2))
  have j2 := fun i j => iK 2 i j (by decide)
  have j3 := fun i j => iK 3 i j (by decide)
  have j5 := fun i j => iK 5 i j (by decide)
  have j8 := fun i j => iK 8 i j (by decide)
  have j9 := fun i j => iK 9 i j (by decide)
  have b7 := fun i p => aK 7 i p (by decide)
  have b11 := fun i p => aK 11 i p (by decide)
  refine ⟨m9, ⟨?_, ?_, ?_, ?_, ?_, ?_⟩, hj, ?_, ?_, ?_, ?_, ?_, ?_, ?_, ?_, ?_, ?_, ?_⟩
  · intro b; simp only [e28, e29, e30, e31, e33]; exact q1 b
  · intro t t0 t1
    by_cases c : t = v
    · rw [c, v13, v17, v22]; exact ⟨by decide, by decide, fun z => absurd rfl z, fun z => absurd rfl z⟩
    · have z := q2 t t0 t1
      rw [ft 13 t (by simp [thK]) c, ft 17 t (by simp [thK]) c, e18, e22]; exact z
  · intro t te t0 t1 s2
    by_cases c : t = v
    · rw [c, v13] at s2; exact absurd s2 (by decide)
    · rw [ft 13 t (by simp [thK]) c] at s2
      rw [ft 16 t (by simp [thK]) c]
      simp only [inR, e21, e32, e33]; exact q3 t te t0 t1 s2
  · intro t; simp only [inR, e21, e22, e28, e32, e33]; exact q4 t
  · intro b i b0 b1 i0 
    simp only [e28, e29, e32, e33, e37]
    intro i1
    have ne := hn b i b0 b1 i0 i1
    have y := iR1 b i b0 b1 i0 i1
    have pc : 0 ≤ gA S 15 (gA S 32 (8 * b + i)) ∧ gA S 15 (gA S 32 (8 * b + i)) < gA S 12 (gA S 32 (8 * b + i)) ∧ gA S 12 (gA S 32 (8 * b + i)) ≤ 60 := by
      have z := (iQ1 _ y.1 y.2.1).1
      rcases y.2.2.2 with w | w
      · exact z (by rw [w.1]; decide) (by rw [w.1]; decide)
      · exact z (by rw [w.1]; decide) (by rw [w.1]; decide)
    have o : opM S9 (gA S 32 (8 * b + i)) = opM S (gA S 32 (8 * b + i)) := by
      unfold opM
      rw [ft 15 _ (by simp [thK]) ne]
      generalize gA S 15 (gA S 32 (8 * b + i)) = z at pc ⊢
      generalize gA S 12 (gA S 32 (8 * b + i)) = z2 at pc ⊢
      exact f11 _ _ y.1 y.2.1 ne (by clear iQ1 iL1 iO1 iR1 iU1 q1 q2 q3 q4 q5 q6 h1 h2 h3 h4 h5 h6 h7 h8 h9 h10 h11 fA ft f11 gI9 gA9 cd hn ne y; grind) (by clear iQ1 iL1 iO1 iR1 iU1 q1 q2 q3 q4 q5 q6 h1 h2 h3 h4 h5 h6 h7 h8 h9 h10 h11 fA ft f11 gI9 gA9 cd hn ne y; grind)
    rw [o]; exact q5 b i b0 b1 i0 i1
  · intro t; simp only [e19, e21]; exact q6 t
  · simp only [Rk, gR9, gJ9, j8, gQ9, fJ, f26]; exact h1
  · refine ⟨by rw [gR9]; exact h2.1, by rw [f2, j9]; exact h2.2.1, by rw [gR9]; exact h2.2.2.1, fun i z0 z1 => ?_, fun k k0 k1 => by rw [fL]; exact h2.2.2.2.2 k k0 k1⟩
    rw [f2] at z1
    rw [b11, fA 1 i (by decide) (by decide) (by simp [thK])]; exact h2.2.2.2.1 i z0 z1
  · intro t t0 t1
    have z := h3 t t0 t1
    by_cases c : t = v
    · subst c
      rw [iv 0 (by decide), x1, x2, x3, x4, x5, x12, gJ9, gR9, iv 9 (by decide), iv 10 (by decide), v12, v13, v14, v15, v17, v20, v21, v22, e18, e19, fL]
      exact ⟨z.1, rfl, rfl, rfl, rfl, rfl, z.2.2.2.2.2.2.1, fun _ => z.2.2.2.2.2.2.2.1 v22o, fun y => absurd rfl y, fun y => absurd rfl y, z.2.2.2.2.2.2.2.2.2.2.1, rfl⟩
    · rw [i0 t 0 c, i0 t 1 c, i0 t 2 c, i0 t 3 c, i0 t 4 c, i0 t 5 c, i0 t 9 c, i0 t 10 c, i0 t 12 c, gJ9, gR9, ft 12 t (by simp [thK]) c, ft 13 t (by simp [thK]) c, ft 14 t (by simp [thK]) c, ft 15 t (by simp [thK]) c, ft 17 t (by simp [thK]) c, ft 20 t (by simp [thK]) c, e21, e22, e18, e19, fL]
      exact z
  · intro t k t0 t1 k0 k1 k2
    by_cases c : t = v
    · subst c
      rw [v12] at k2
      exact cd k k0 k2
    · rw [ft 12 t (by simp [thK]) c] at k2
      rw [a1 t c]
      have z := h4 t k t0 t1 k0 k1 k2
      have w0 : 0 ≤ 4 * k ∧ 4 * k < 240 := by clear iQ1 iL1 iO1 iR1 iU1 q1 q2 q3 q4 q5 q6 h1 h2 h3 h4 h5 h6 h7 h8 h9 h10 h11 fA ft f11 gI9 gA9 cd hn z; grind
      have w1 : 0 ≤ 4 * k + 1 ∧ 4 * k + 1 < 240 := by clear iQ1 iL1 iO1 iR1 iU1 q1 q2 q3 q4 q5 q6 h1 h2 h3 h4 h5 h6 h7 h8 h9 h10 h11 fA ft f11 gI9 gA9 cd hn z; grind
      have w2 : 0 ≤ 4 * k + 2 ∧ 4 * k + 2 < 240 := by clear iQ1 iL1 iO1 iR1 iU1 q1 q2 q3 q4 q5 q6 h1 h2 h3 h4 h5 h6 h7 h8 h9 h10 h11 fA ft f11 gI9 gA9 cd hn z; grind
      have w3 : 0 ≤ 4 * k + 3 ∧ 4 * k + 3 < 240 := by clear iQ1 iL1 iO1 iR1 iU1 q1 q2 q3 q4 q5 q6 h1 h2 h3 h4 h5 h6 h7 h8 h9 h10 h11 fA ft f11 gI9 gA9 cd hn z; grind
      have g0 := f11 t (4 * k) t0 t1 c w0.1 w0.2
      have g1 := f11 t (4 * k + 1) t0 t1 c w1.1 w1.2
      have g2 := f11 t (4 * k + 2) t0 t1 c w2.1 w2.2
      have g3 := f11 t (4 * k + 3) t0 t1 c w3.1 w3.2
      rw [← Int32.add_assoc] at g1 g2 g3
      rw [g0, g1, g2, g3]; exact z
  · simp only [Rp1, gR9, e32, e33]; exact h5
  · simp only [Rp2, nR, gR9, e21, e32, e33]; exact h6
  · intro t t0 t1 s2
    rw [e21] at s2
    have c : t ≠ v := fun c => s2 (by rw [c]; exact v21o)
    rw [gR9, gR9, ft 16 t (by simp [thK]) c]; exact h7 t t0 t1 s2
  · simp only [Ro, rOb, gR9, gQ9, gC9, j2, e28, e29, e30, e31]; exact h8
  · simp only [Rr, j3, gQ9, e28, e32, e33]; exact h9
  · simp only [Rr2, j5, gQ9, e28, e34, e35]; exact h10
  · simp only [Rq, j2, b7, e28, e29, e36, e37]; exact h11

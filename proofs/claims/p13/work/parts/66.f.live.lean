/-! make: what is there lies in the pool -/
section LV
variable {ks : kS} {τ : Nat → Nat} {L : List Nat} {ψ : Int32} {f : Nat → va_E} {y r : Nat}
theorem obR (I : cI ks τ L ψ f) (hy : tyS τ L y) (hr : xR (view f) y 2 = some r) : ty τ L r 5 := by
  obtain ⟨h1, h2⟩ := hy
  rcases h2 with z | z | z | z | z | z
  · obtain ⟨n, k, q, o, d, hf, t⟩ := op0 I ⟨h1, z⟩
    have e : q = r := by simpa [xR, view, eR, hf] using hr
    rw [← e]; exact t
  · obtain ⟨n, k, q, o, d, hf, t⟩ := op1 I ⟨h1, z⟩
    have e : q = r := by simpa [xR, view, eR, hf] using hr
    rw [← e]; exact t
  · obtain ⟨n, k, q, o, hf, t⟩ := op2 I ⟨h1, z⟩
    have e : q = r := by simpa [xR, view, eR, hf] using hr
    rw [← e]; exact t
  · obtain ⟨n, k, q, o, b, h0, q2, hf, t, t2⟩ := op3 I ⟨h1, z⟩
    have e : q = r := by simpa [xR, view, eR, hf] using hr
    rw [← e]; exact t
  · obtain ⟨n, k, q, q2, h0, z0, c, hf, t, t2⟩ := op4 I ⟨h1, z⟩
    have e : q = r := by simpa [xR, view, eR, hf] using hr
    rw [← e]; exact t
  · obtain ⟨n, k, q, o, hf, t⟩ := op6 I ⟨h1, z⟩
    have e : q = r := by simpa [xR, view, eR, hf] using hr
    rw [← e]; exact t
theorem rowR (I : cI ks τ L ψ f) (hy : ty τ L y 5) (hr : xR (view f) y 1 = some r) : ty τ L r 13 := by
  obtain ⟨n, q, hf, -, t⟩ := op5 I hy
  have e : q = r := by simpa [xR, view, eR, hf] using hr
  rw [← e]; exact t
theorem lockR (I : cI ks τ L ψ f) (hy : tyS τ L y) (hc : xC (view f) y = 3) (hr : xR (view f) y 6 = some r) : ty τ L r 5 := by
  obtain ⟨h1, h2⟩ := hy
  rcases h2 with z | z | z | z | z | z
  · obtain ⟨n, k, q, o, d, hf, t⟩ := op0 I ⟨h1, z⟩
    exact absurd hc (by simp [xC, view, eC, hf])
  · obtain ⟨n, k, q, o, d, hf, t⟩ := op1 I ⟨h1, z⟩
    exact absurd hc (by simp [xC, view, eC, hf])
  · obtain ⟨n, k, q, o, hf, t⟩ := op2 I ⟨h1, z⟩
    exact absurd hc (by simp [xC, view, eC, hf])
  · obtain ⟨n, k, q, o, b, h0, q2, hf, t, t2⟩ := op3 I ⟨h1, z⟩
    have e : q2 = r := by simpa [xR, view, eR, hf] using hr
    rw [← e]; exact t2
  · obtain ⟨n, k, q, q2, h0, z0, c, hf, t, t2⟩ := op4 I ⟨h1, z⟩
    exact absurd hc (by simp [xC, view, eC, hf])
  · obtain ⟨n, k, q, o, hf, t⟩ := op6 I ⟨h1, z⟩
    exact absurd hc (by simp [xC, view, eC, hf])
theorem quR (I : cI ks τ L ψ f) (hy : tyS τ L y) (hc : xC (view f) y = 4) (hr : xR (view f) y 3 = some r) : r ∈ L := by
  obtain ⟨h1, h2⟩ := hy
  rcases h2 with z | z | z | z | z | z
  · obtain ⟨n, k, q, o, d, hf, t⟩ := op0 I ⟨h1, z⟩
    exact absurd hc (by simp [xC, view, eC, hf])
  · obtain ⟨n, k, q, o, d, hf, t⟩ := op1 I ⟨h1, z⟩
    exact absurd hc (by simp [xC, view, eC, hf])
  · obtain ⟨n, k, q, o, hf, t⟩ := op2 I ⟨h1, z⟩
    exact absurd hc (by simp [xC, view, eC, hf])
  · obtain ⟨n, k, q, o, b, h0, q2, hf, t, t2⟩ := op3 I ⟨h1, z⟩
    exact absurd hc (by simp [xC, view, eC, hf])
  · obtain ⟨n, k, q, q2, h0, z0, c, hf, t, t2, -⟩ := op4 I ⟨h1, z⟩
    have e : q2 = r := by simpa [xR, view, eR, hf] using hr
    rw [← e]; exact t2.1
  · obtain ⟨n, k, q, o, hf, t⟩ := op6 I ⟨h1, z⟩
    exact absurd hc (by simp [xC, view, eC, hf])
theorem tn8 {t : Int32} (h0 : 0 ≤ t) (h1 : t < 8) : t.toNatClampNeg < 8 := by
  have a : t.toInt < (8 : Int32).toInt := Int32.lt_iff_toInt_lt.mp h1
  have e : (8 : Int32).toInt = 8 := by decide
  simp only [Int32.toNatClampNeg]; omega
theorem lvL {ad : adT} {B : Int32} {S : mS} (I : cI ks τ L ψ f) (t : ty τ L (ad 8 0) 9) (h : Sim ad B S (view f)) : ∀ k i, lv S k i → ad k i ∈ L := by
  obtain ⟨hm, hq, hj, h1, h2, h3, h4, h5, h6, h7, h8, h9, h10, h11⟩ := h
  obtain ⟨tp, sy, st, ck, sp, la, hf8, t8, t15, t14⟩ := op9 I t
  have e9 : tp = ad 9 0 := by simpa [xR, view, eR, hf8] using h1.1
  have e12 : sy = ad 12 0 := by simpa [xR, view, eR, hf8] using h1.2.1
  have e13 : st = ad 13 0 := by simpa [xR, view, eR, hf8] using h1.2.2.1
  rw [e9] at t8
  rw [e12] at t15
  rw [e13] at t14
  obtain ⟨cd, sz, pl, b9, a9, hf9, t10, t11, -⟩ := op8 I t8
  have e10 : cd = ad 10 0 := by simpa [xR, view, eR, hf9] using h2.1
  have e11 : b9 = ad 11 0 := by simpa [xR, view, eR, hf9] using h2.2.2.1
  rw [e10] at t10
  rw [e11] at t11
  obtain ⟨g, hf13, hg⟩ := op14 I t14
  obtain ⟨g2, hf12, hg2⟩ := op15 I t15
  have s7 : ∀ u, 0 ≤ u → u < 8 → ty τ L (ad 0 u) 7 := fun u u0 u1 => by
    obtain ⟨z, z1, z2⟩ := hg _ (tn8 u0 u1)
    have w := h1.2.2.2.2.2.2 u u0 u1
    have e : some z = some (ad 0 u) := by rw [← z1, ← w]; simp [xQ, view, eQ, hf13, rfs]
    have e2 : z = ad 0 u := by simpa using e
    rw [← e2]; exact z2
  have s12 : ∀ u, 0 ≤ u → u < 8 → ad 1 u ∈ L := fun u u0 u1 => by
    obtain ⟨n, sx, x, at9, w, i, wk, sy9, rw9, kp, an, cd9, sz9, hf, -, -, z⟩ := op7 I (s7 u u0 u1)
    have e : cd9 = ad 1 u := by
      have := (h3 u u0 u1).2.2.2.2.2.2.2.2.2.2.1
      simpa [xR, view, eR, hf] using this
    rw [← e]; exact z.1
  have sO : ∀ b, 0 ≤ b → b < 24 → gA S 28 b ≠ 0 → tyS τ L (ad 2 b) := fun b b0 b1 nk => by
    have w := ((h8 b b0 b1).2 nk).1
    refine hg2 b.toNatClampNeg _ ?_
    rw [← w]; simp [xQ, view, eQ, hf12, rfs]
  have rO : ∀ b (b0 : 0 ≤ b) (b1 : b < 24) (nk : gA S 28 b ≠ 0), rOb ad (view f) b (gA S 28 b) (gA S 29 b) (gA S 30 b) (gA S 31 b) := fun b b0 b1 nk => ((h8 b b0 b1).2 nk).2
  intro k i hl
  rcases hl with ⟨w, i0, i1⟩ | ⟨w, i0⟩ | ⟨w, i0, i1, nk⟩ | ⟨w, i0, i1, nk⟩ | ⟨w, i0, i1, nk⟩
  · rcases w with w | w
    · subst w; exact (s7 i i0 i1).1
    · subst w; exact s12 i i0 i1
  · subst i0
    rcases (show k = 8 ∨ k = 9 ∨ k = 10 ∨ k = 11 ∨ k = 12 ∨ k = 13 by omega) with w | w | w | w | w | w
    · subst w; exact t.1
    · subst w; exact t8.1
    · subst w; exact t10.1
    · subst w; exact t11.1
    · subst w; exact t15.1
    · subst w; exact t14.1
  · have o := sO i i0 i1 nk
    have ro := rO i i0 i1 nk
    have r3 := obR I o ro.2.2.2.1
    rcases w with w | w | w
    · subst w; exact o.1
    · subst w; exact r3.1
    · subst w; exact (rowR I r3 ro.2.2.2.2.1).1
  · have nk0 : gA S 28 i ≠ 0 := by rw [nk]; decide
    have o := sO i i0 i1 nk0
    have ro := rO i i0 i1 nk0
    have y6 := ro.2.2.2.2.2.1 nk
    have r5 := lockR I o (by rw [ro.1, nk]; decide) y6.2.2.2.1
    rcases w with w | w
    · subst w; exact r5.1
    · subst w; exact (rowR I r5 y6.2.2.2.2).1
  · have nk0 : gA S 28 i ≠ 0 := by rw [nk]; decide
    have o := sO i i0 i1 nk0
    have ro := rO i i0 i1 nk0
    subst w
    exact quR I o (by rw [ro.1, nk]; decide) (ro.2.2.2.2.2.2.2.1 nk).1
end LV

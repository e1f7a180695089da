/-! both fresh: side by side -/
theorem Sim_0 {ks : kS} {τ : Nat → Nat} {L : List Nat} {f : Nat → va_E} {S : mS} {o tp sy st : Nat} {g : Nat → Option Nat} (hm : mInv S) (hA : ∀ k i, gA S k i = 0) (hI2 : gI S 2 = 0) (h26 : gI S 26 = 7) (hJ : ∀ k, gJ S k = 0) (hL23 : ∀ t, gL S 23 t = 0) (hW : ∀ k, 0 ≤ k → k < 34 → gL S 4 k = wPk k)
    (t0 : ty τ L o 9) (t1 : ty τ L tp 8) (t4 : ty τ L sy 15) (t5 : ty τ L st 14) (ho : f o = .inr (9, tkF tp sy st)) (hst : f st = .inl (ks.2.2.1, 8, rfs g)) (hk : tkM ks tp sy g 8 τ L f) : ∃ ad : adT, ad 8 0 = o ∧ Sim ad 8000 S (view f) := by
  obtain ⟨cd, by9, v9, ya, ca, htp, t2, t3, hsy, hy, hd⟩ := hk
  obtain ⟨M, hM⟩ := lM L
  have hj := ad0_inj (M := M) (ya := ya) (ca := ca) t0 t1 t2 t3 t4 t5 (fun j hj => ⟨(hy j hj).2.1, (hy j hj).2.2.1, (hy j hj).2.2.2.1⟩) hd hM
  have e8 : ad0 o tp cd by9 sy st ya ca M 8 0 = o := ad0_r (Or.inr ⟨by decide, rfl⟩)
  have e9 : ad0 o tp cd by9 sy st ya ca M 9 0 = tp := ad0_r (Or.inr ⟨by decide, rfl⟩)
  have e10 : ad0 o tp cd by9 sy st ya ca M 10 0 = cd := ad0_r (Or.inr ⟨by decide, rfl⟩)
  have e11 : ad0 o tp cd by9 sy st ya ca M 11 0 = by9 := ad0_r (Or.inr ⟨by decide, rfl⟩)
  have e12 : ad0 o tp cd by9 sy st ya ca M 12 0 = sy := ad0_r (Or.inr ⟨by decide, rfl⟩)
  have e13 : ad0 o tp cd by9 sy st ya ca M 13 0 = st := ad0_r (Or.inr ⟨by decide, rfl⟩)
  have e0 : ∀ t, 0 ≤ t → t < 8 → ad0 o tp cd by9 sy st ya ca M 0 t = ya t.toNatClampNeg := fun t a b => ad0_r (Or.inl ⟨Or.inl rfl, a, b⟩)
  have e1 : ∀ t, 0 ≤ t → t < 8 → ad0 o tp cd by9 sy st ya ca M 1 t = ca t.toNatClampNeg := fun t a b => ad0_r (Or.inl ⟨Or.inr rfl, a, b⟩)
  have z9 : ∀ i : Int32, 0 ≤ i → ¬ i < 0 := fun i a c => Int32.lt_irrefl (Int32.lt_of_le_of_lt a c)
  refine ⟨ad0 o tp cd by9 sy st ya ca M, e8, hm, ⟨?_, ?_, ?_, ?_, ?_, ?_⟩, hj, ?_, ?_, ?_, ?_, ?_, ?_, ?_, ?_, ?_, ?_, ?_⟩
  · intro b b0 b1
    simp only [hA]
    unfold jOb; decide
  · intro t t0 t1
    simp only [hA]
    unfold jTh; decide
  · intro t _ _ _ a; rw [hA] at a; exact absurd a (by decide)
  · intro t _ _ _ a; rw [hA] at a; exact absurd rfl a
  · intro b i _ _ i0 i1; rw [hA] at i1; exact absurd i1 (z9 i i0)
  · intro t _ _ _ a; rw [hA] at a; exact absurd rfl a
  · unfold Rk
    rw [e8, e9, e12, e13, hJ, hJ, h26]
    refine ⟨by simp [xR, view, eR, ho], by simp [xR, view, eR, ho], by simp [xR, view, eR, ho], by simp [xJ, view, eJ, ho], by simp [xJ, view, eJ, ho], by simp [xI, view, eI, ho], fun t a b => ?_⟩
    rw [e0 t a b, ← (hy _ (tn8 a b)).1]
    simp [xQ, view, eQ, hst, rfs]
  · unfold Rz
    rw [e9, e10, e11, hI2]
    exact ⟨by simp [xR, view, eR, htp], by simp [xI, view, eI, htp], by simp [xR, view, eR, htp], fun i i0 i1 => absurd i1 (z9 i i0), hW⟩
  · intro t a b
    have hf := (hy _ (tn8 a b)).2.2.2.2
    rw [e0 t a b, e1 t a b]
    simp only [hA, hL23]
    refine ⟨?_, by simp [xI, view, eI, hf], by simp [xI, view, eI, hf], by simp [xI, view, eI, hf], by simp [xI, view, eI, hf], by simp [xI, view, eI, hf], by simp [xJ, view, eJ, hf], fun _ => by simp [xI, view, eI, hf], fun z => absurd rfl z, fun z => absurd rfl z, by simp [xR, view, eR, hf], by simp [xI, view, eI, hf]⟩
    have e : xI (view f) (ya t.toNatClampNeg) 0 = nI t.toNatClampNeg := by simp [xI, view, eI, hf]
    rw [e]; exact (i32n a).symm
  · intro t k _ _ k0 _ k2; rw [hA] at k2; exact absurd k2 (z9 k k0)
  · intro b i _ _ i0 i1; rw [hA] at i1; exact absurd i1 (z9 i i0)
  · intro t _ a b _ _
    have hf := (hy _ (tn8 a b)).2.2.2.2
    rw [e0 t a b]
    exact ⟨by simp [xR, view, eR, hf], by simp [xR, view, eR, hf]⟩
  · intro t _ _ a; rw [hA] at a; exact absurd rfl a
  · intro b b0 b1
    rw [e12]
    exact ⟨fun _ => by simp [xQ, view, eQ, hsy, rfs], fun z => absurd (hA 28 b) z⟩
  · intro b _ _ a; exact absurd (hA 28 b) a
  · intro b _ _ a; rw [hA] at a; exact absurd a (by decide)
  · intro b _ _ a; rw [hA] at a; exact absurd a (by decide)

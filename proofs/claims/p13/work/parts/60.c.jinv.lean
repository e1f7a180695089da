/-! the reference: what the class rests on besides the invariant; e: a THREAD on its way between two rows -/
def jOb (B k f s o n : Int32) : Prop := 0 ≤ k ∧ k ≤ 8 ∧ (0 < n → k ≠ 0) ∧ (k = 1 → (s = 0 ∨ s = 1) ∧ (o < 0 → f = 0) ∧ (0 ≤ o → 1 ≤ f ∧ f ≤ B)) ∧ (k = 3 → 0 ≤ f ∧ (f = 0 → n = 0)) ∧ (k = 4 → 1 ≤ f ∧ f ≤ 8 ∧ n < f) ∧ (k = 5 → 1 ≤ f) ∧ (k = 8 → 0 ≤ f ∧ f ≤ B ∧ (0 ≤ o → f = 0))
def jTh (B st wy kp aw : Int32) : Prop := 0 ≤ st ∧ st ≤ 5 ∧ (wy ≠ 0 → st = 5) ∧ (aw ≠ 0 → 1 ≤ kp ∧ kp ≤ B)
def jMb (k q f p : Int32) : Prop := (k = 2 → p = 17) ∧ (k = 8 → p = 29 ∨ p = 31) ∧ (k = 5 → (q = 0 ∧ p = 24) ∨ (q = f ∧ p = 23))
def opM (S : mS) (u : Int32) : Int32 := gA S 11 (240 * u + 4 * gA S 15 u)
def inR (S : mS) (b t : Int32) : Prop := ∃ i, 0 ≤ i ∧ i < gA S 33 b ∧ gA S 32 (8 * b + i) = t
def j1 (S : mS) (B : Int32) : Prop := ∀ b, 0 ≤ b → b < 24 → jOb B (gA S 28 b) (gA S 29 b) (gA S 30 b) (gA S 31 b) (gA S 33 b)
def j2 (S : mS) (B : Int32) : Prop := ∀ t, 0 ≤ t → t < 8 → jTh B (gA S 13 t) (gA S 17 t) (gA S 18 t) (gA S 22 t)
def j3 (S : mS) (e : Int32) : Prop := ∀ t, t ≠ e → 0 ≤ t → t < 8 → gA S 13 t = 2 → gA S 21 t = 0 → inR S (gA S 16 t) t
def j4 (S : mS) (e : Int32) : Prop := ∀ t, t ≠ e → 0 ≤ t → t < 8 → gA S 22 t ≠ 0 → gA S 21 t = 0 → ∃ b, 0 ≤ b ∧ b < 24 ∧ gA S 28 b = 1 ∧ inR S b t
def j5 (S : mS) : Prop := ∀ b i, 0 ≤ b → b < 24 → 0 ≤ i → i < gA S 33 b → jMb (gA S 28 b) (gA S 37 b) (gA S 29 b) (opM S (gA S 32 (8 * b + i)))
def j6 (S : mS) (e : Int32) : Prop := ∀ t, t ≠ e → 0 ≤ t → t < 8 → gA S 21 t ≠ 0 → gA S 19 t = 1
def jIn (S : mS) (B e : Int32) : Prop := j1 S B ∧ j2 S B ∧ j3 S e ∧ j4 S e ∧ j5 S ∧ j6 S e
theorem j_wk {S : mS} {B e : Int32} (h : jIn S B (-1)) : jIn S B e := by
  obtain ⟨h1, h2, h3, h4, h5, h6⟩ := h
  exact ⟨h1, h2, fun t _ t0 t1 => h3 t (by grind) t0 t1, fun t _ t0 t1 => h4 t (by grind) t0 t1, h5, fun t _ t0 t1 => h6 t (by grind) t0 t1⟩
theorem j_mono {S : mS} {B C e : Int32} (h : jIn S B e) (hB : B ≤ C) : jIn S C e := by
  obtain ⟨h1, h2, h3, h4, h5, h6⟩ := h
  refine ⟨fun b b0 b1 => ?_, fun t t0 t1 => ?_, h3, h4, h5, h6⟩
  · have z := h1 b b0 b1; unfold jOb at z ⊢; clear h1 h2 h3 h4 h5 h6; grind
  · have z := h2 t t0 t1; unfold jTh at z ⊢; clear h1 h2 h3 h4 h5 h6; grind
def jK (k : Nat) : Prop := k = 11 ∨ k = 13 ∨ k = 15 ∨ k = 16 ∨ k = 17 ∨ k = 18 ∨ k = 19 ∨ k = 21 ∨ k = 22 ∨ k = 28 ∨ k = 29 ∨ k = 30 ∨ k = 31 ∨ k = 32 ∨ k = 33 ∨ k = 37
theorem j_sm {S S9 : mS} {B e : Int32} (h : jIn S B e) (f : ∀ k i, jK k → gA S9 k i = gA S k i) : jIn S9 B e := by
  obtain ⟨h1, h2, h3, h4, h5, h6⟩ := h
  have e11 := fun i => f 11 i (by simp [jK])
  have e13 := fun i => f 13 i (by simp [jK])
  have e15 := fun i => f 15 i (by simp [jK])
  have e16 := fun i => f 16 i (by simp [jK])
  have e17 := fun i => f 17 i (by simp [jK])
  have e18 := fun i => f 18 i (by simp [jK])
  have e19 := fun i => f 19 i (by simp [jK])
  have e21 := fun i => f 21 i (by simp [jK])
  have e22 := fun i => f 22 i (by simp [jK])
  have e28 := fun i => f 28 i (by simp [jK])
  have e29 := fun i => f 29 i (by simp [jK])
  have e30 := fun i => f 30 i (by simp [jK])
  have e31 := fun i => f 31 i (by simp [jK])
  have e32 := fun i => f 32 i (by simp [jK])
  have e33 := fun i => f 33 i (by simp [jK])
  have e37 := fun i => f 37 i (by simp [jK])
  refine ⟨?_, ?_, ?_, ?_, ?_, fun u => by simp only [e19, e21]; exact h6 u⟩
  · intro b; simp only [e28, e29, e30, e31, e33]; exact h1 b
  · intro t; simp only [e13, e17, e18, e22]; exact h2 t
  · intro t; simp only [inR, e13, e16, e21, e32, e33]; exact h3 t
  · intro t; simp only [inR, e21, e22, e28, e32, e33]; exact h4 t
  · intro b i; simp only [opM, e11, e15, e28, e29, e32, e33, e37]; exact h5 b i
/-- a THREAD in no row changes -/
theorem j_thr {S S9 : mS} {B t : Int32} (h : jIn S B (-1)) (hn : nR S t)
    (fo : ∀ k i, k = 11 ∨ k = 18 ∨ k = 19 ∨ k = 21 ∨ k = 22 ∨ k = 28 ∨ k = 29 ∨ k = 30 ∨ k = 31 ∨ k = 32 ∨ k = 33 ∨ k = 37 → gA S9 k i = gA S k i)
    (ft : ∀ k u, k = 13 ∨ k = 15 ∨ k = 16 ∨ k = 17 → u ≠ t → gA S9 k u = gA S k u)
    (q : 0 ≤ gA S9 13 t ∧ gA S9 13 t ≤ 5 ∧ gA S9 13 t ≠ 2 ∧ (gA S9 17 t ≠ 0 → gA S9 13 t = 5)) : jIn S9 B (-1) := by
  obtain ⟨h1, h2, h3, h4, h5, h6⟩ := h
  have e11 := fun i => fo 11 i (by simp)
  have e18 := fun i => fo 18 i (by simp)
  have e19 := fun i => fo 19 i (by simp)
  have e21 := fun i => fo 21 i (by simp)
  have e22 := fun i => fo 22 i (by simp)
  have e28 := fun i => fo 28 i (by simp)
  have e29 := fun i => fo 29 i (by simp)
  have e30 := fun i => fo 30 i (by simp)
  have e31 := fun i => fo 31 i (by simp)
  have e32 := fun i => fo 32 i (by simp)
  have e33 := fun i => fo 33 i (by simp)
  have e37 := fun i => fo 37 i (by simp)
  refine ⟨?_, ?_, ?_, ?_, ?_, fun u => by simp only [e19, e21]; exact h6 u⟩
  · intro b; simp only [e28, e29, e30, e31, e33]; exact h1 b
  · intro u u0 u1
    have z := h2 u u0 u1
    simp only [e18, e22]
    by_cases hu : u = t
    · subst hu; exact ⟨q.1, q.2.1, q.2.2.2, z.2.2.2⟩
    · rw [ft 13 u (by simp) hu, ft 17 u (by simp) hu]; exact z
  · intro u ue u0 u1 a1
    by_cases hu : u = t
    · subst hu; exact absurd a1 q.2.2.1
    · rw [ft 13 u (by simp) hu] at a1
      rw [ft 16 u (by simp) hu]
      simp only [inR, e21, e32, e33]; exact h3 u ue u0 u1 a1
  · intro u; simp only [inR, e21, e22, e28, e32, e33]; exact h4 u
  · intro b i b0 b1 i0
    simp only [opM, e11, e28, e29, e32, e33, e37]
    intro i1
    rw [ft 15 _ (by simp) (hn b i b0 b1 i0 i1)]; exact h5 b i b0 b1 i0 i1
/-- an OBJECT's numbers change -/
theorem j_obj {S S9 : mS} {B e b : Int32} (h : jIn S B e)
    (fo : ∀ k i, k = 11 ∨ k = 13 ∨ k = 15 ∨ k = 16 ∨ k = 17 ∨ k = 18 ∨ k = 19 ∨ k = 21 ∨ k = 22 ∨ k = 28 ∨ k = 32 ∨ k = 33 → gA S9 k i = gA S k i)
    (fb : ∀ k d, k = 29 ∨ k = 30 ∨ k = 31 ∨ k = 37 → d ≠ b → gA S9 k d = gA S k d)
    (qb : jOb B (gA S 28 b) (gA S9 29 b) (gA S9 30 b) (gA S9 31 b) (gA S 33 b))
    (qm : gA S 28 b = 5 → ∀ i, 0 ≤ i → i < gA S 33 b → jMb 5 (gA S9 37 b) (gA S9 29 b) (opM S (gA S 32 (8 * b + i)))) : jIn S9 B e := by
  obtain ⟨h1, h2, h3, h4, h5, h6⟩ := h
  have e11 := fun i => fo 11 i (by simp)
  have e13 := fun i => fo 13 i (by simp)
  have e15 := fun i => fo 15 i (by simp)
  have e16 := fun i => fo 16 i (by simp)
  have e17 := fun i => fo 17 i (by simp)
  have e18 := fun i => fo 18 i (by simp)
  have e19 := fun i => fo 19 i (by simp)
  have e21 := fun i => fo 21 i (by simp)
  have e22 := fun i => fo 22 i (by simp)
  have e28 := fun i => fo 28 i (by simp)
  have e32 := fun i => fo 32 i (by simp)
  have e33 := fun i => fo 33 i (by simp)
  refine ⟨?_, ?_, ?_, ?_, ?_, fun u => by simp only [e19, e21]; exact h6 u⟩
  · intro d d0 d1
    simp only [e28, e33]
    by_cases hd : d = b
    · subst hd; exact qb
    · rw [fb 29 d (by simp) hd, fb 30 d (by simp) hd, fb 31 d (by simp) hd]; exact h1 d d0 d1
  · intro t; simp only [e13, e17, e18, e22]; exact h2 t
  · intro t; simp only [inR, e13, e16, e21, e32, e33]; exact h3 t
  · intro t; simp only [inR, e21, e22, e28, e32, e33]; exact h4 t
  · intro d i d0 d1 i0
    simp only [opM, e11, e15, e28, e32, e33]
    intro i1
    have z := h5 d i d0 d1 i0 i1
    by_cases hd : d = b
    · subst hd
      by_cases hk : gA S 28 d = 5
      · rw [hk]; exact qm hk i i0 i1
      · exact ⟨z.1, z.2.1, fun q => absurd q hk⟩
    · rw [fb 29 d (by simp) hd, fb 37 d (by simp) hd]; exact z

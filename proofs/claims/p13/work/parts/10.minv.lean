/-! the reference: its invariant -/
def iT (S : mS) : Prop := 0 ≤ gI S 2 ∧ gI S 2 ≤ 1600 ∧ 0 ≤ gI S 26 ∧ gI S 26 < 8
/-- a thread: where it stands, what it waits for, where it is if it is in a second row -/
def iQ (S : mS) : Prop := ∀ t, 0 ≤ t → t < 8 → (1 ≤ gA S 13 t → gA S 13 t ≤ 3 → 0 ≤ gA S 15 t ∧ gA S 15 t < gA S 12 t ∧ gA S 12 t ≤ 60) ∧ (gA S 13 t = 2 → 0 ≤ gA S 16 t ∧ gA S 16 t < 24) ∧
  (gA S 21 t ≠ 0 → gA S 13 t = 2 ∧ ∃ i, 0 ≤ i ∧ i < gA S 35 (gA S 16 t) ∧ gA S 34 (8 * gA S 16 t + i) = t)
def iL (S : mS) : Prop := ∀ t k, 0 ≤ t → t < 8 → 0 ≤ k → k < 60 → k < gA S 12 t → 2 ≤ gA S 11 (240 * t + 4 * k) → gA S 11 (240 * t + 4 * k) ≤ 4 → 0 ≤ gA S 11 (240 * t + 4 * k + 1)
def iO (S : mS) : Prop := ∀ b, 0 ≤ b → b < 24 → (0 ≤ gA S 33 b ∧ gA S 33 b ≤ 8) ∧ (0 ≤ gA S 35 b ∧ gA S 35 b ≤ 8) ∧ (-1 ≤ gA S 31 b ∧ gA S 31 b < 8) ∧ (gA S 28 b = 5 → 0 ≤ gA S 37 b ∧ gA S 37 b ≤ gA S 29 b ∧ gA S 29 b ≤ 100)
/-- t may stand in the row of b -/
def mem1 (S : mS) (b t : Int32) : Prop := 0 ≤ t ∧ t < 8 ∧ gA S 21 t = 0 ∧ ((gA S 13 t = 2 ∧ gA S 16 t = b) ∨ (gA S 13 t = 1 ∧ gA S 28 b = 1))
def iR (S : mS) : Prop := ∀ b i, 0 ≤ b → b < 24 → 0 ≤ i → i < gA S 33 b → mem1 S b (gA S 32 (8 * b + i))
def iU (S : mS) : Prop := ∀ b i d j, 0 ≤ b → b < 24 → 0 ≤ i → i < gA S 33 b → 0 ≤ d → d < 24 → 0 ≤ j → j < gA S 33 d → gA S 32 (8 * b + i) = gA S 32 (8 * d + j) → b = d ∧ i = j
def mem2 (S : mS) (b t : Int32) : Prop := 0 ≤ t ∧ t < 8 ∧ gA S 13 t = 2 ∧ gA S 16 t = b ∧ gA S 21 t ≠ 0 ∧ gA S 22 t ≠ 0 ∧ gA S 28 b = 1
def iR2 (S : mS) : Prop := ∀ b i, 0 ≤ b → b < 24 → 0 ≤ i → i < gA S 35 b → mem2 S b (gA S 34 (8 * b + i))
def iU2 (S : mS) : Prop := ∀ b, 0 ≤ b → b < 24 → rdis S 34 35 b
def mInv (S : mS) : Prop := iT S ∧ iQ S ∧ iL S ∧ iO S ∧ iR S ∧ iU S ∧ iR2 S ∧ iU2 S
/-- t stands in no row -/
def nR (S : mS) (t : Int32) : Prop := ∀ b i, 0 ≤ b → b < 24 → 0 ≤ i → i < gA S 33 b → gA S 32 (8 * b + i) ≠ t
/-- t is READY and in no row -/
def fre (S : mS) (t : Int32) : Prop := (0 ≤ t ∧ t < 8) ∧ gA S 13 t = 1 ∧ gA S 21 t = 0 ∧ nR S t
/-- what the invariant speaks of is the same -/
def smK (k : Nat) : Prop := k = 11 ∨ k = 12 ∨ k = 13 ∨ k = 15 ∨ k = 16 ∨ k = 21 ∨ k = 22 ∨ k = 28 ∨ k = 29 ∨ k = 31 ∨ k = 32 ∨ k = 33 ∨ k = 34 ∨ k = 35 ∨ k = 37
theorem mInv_sm {S S9 : mS} (h : mInv S) (hT : iT S9) (hs : ∀ k i, smK k → gA S9 k i = gA S k i) : mInv S9 := by
  obtain ⟨-, h2, h3, h4, h5, h6, h7, h8⟩ := h
  have e11 : ∀ i, gA S9 11 i = gA S 11 i := fun i => hs 11 i (by simp [smK])
  have e12 : ∀ i, gA S9 12 i = gA S 12 i := fun i => hs 12 i (by simp [smK])
  have e13 : ∀ i, gA S9 13 i = gA S 13 i := fun i => hs 13 i (by simp [smK])
  have e15 : ∀ i, gA S9 15 i = gA S 15 i := fun i => hs 15 i (by simp [smK])
  have e16 : ∀ i, gA S9 16 i = gA S 16 i := fun i => hs 16 i (by simp [smK])
  have e21 : ∀ i, gA S9 21 i = gA S 21 i := fun i => hs 21 i (by simp [smK])
  have e22 : ∀ i, gA S9 22 i = gA S 22 i := fun i => hs 22 i (by simp [smK])
  have e28 : ∀ i, gA S9 28 i = gA S 28 i := fun i => hs 28 i (by simp [smK])
  have e29 : ∀ i, gA S9 29 i = gA S 29 i := fun i => hs 29 i (by simp [smK])
  have e31 : ∀ i, gA S9 31 i = gA S 31 i := fun i => hs 31 i (by simp [smK])
  have e32 : ∀ i, gA S9 32 i = gA S 32 i := fun i => hs 32 i (by simp [smK])
  have e33 : ∀ i, gA S9 33 i = gA S 33 i := fun i => hs 33 i (by simp [smK])
  have e34 : ∀ i, gA S9 34 i = gA S 34 i := fun i => hs 34 i (by simp [smK])
  have e35 : ∀ i, gA S9 35 i = gA S 35 i := fun i => hs 35 i (by simp [smK])
  have e37 : ∀ i, gA S9 37 i = gA S 37 i := fun i => hs 37 i (by simp [smK])
  refine ⟨hT, ?_, ?_, ?_, ?_, ?_, ?_, ?_⟩
  · intro t; simp only [e12, e13, e15, e16, e21, e34, e35]; exact h2 t
  · intro t k; simp only [e11, e12]; exact h3 t k
  · intro b; simp only [e28, e29, e31, e33, e35, e37]; exact h4 b
  · intro b i; simp only [mem1, e13, e16, e21, e28, e32, e33]; exact h5 b i
  · intro b i d j; simp only [e32, e33]; exact h6 b i d j
  · intro b i; simp only [mem2, e13, e16, e21, e22, e28, e34, e35]; exact h7 b i
  · intro b b0 b1; unfold rdis; simp only [e34, e35]; exact h8 b b0 b1
/-- a thread in no row may change -/
theorem mInv_loc {S S9 : mS} {t : Int32} (h : mInv S) (hT : iT S9) (ht : 0 ≤ t ∧ t < 8) (hn : nR S t) (h21 : gA S 21 t = 0) (h21' : gA S9 21 t = 0)
    (f1 : ∀ k i, k = 28 ∨ k = 29 ∨ k = 31 ∨ k = 32 ∨ k = 33 ∨ k = 34 ∨ k = 35 ∨ k = 37 → gA S9 k i = gA S k i)
    (f2 : ∀ k u, k = 12 ∨ k = 13 ∨ k = 15 ∨ k = 16 ∨ k = 21 ∨ k = 22 → u ≠ t → gA S9 k u = gA S k u)
    (f3 : ∀ u q, 0 ≤ u → u < 8 → 0 ≤ q → q < 240 → u ≠ t → gA S9 11 (240 * u + q) = gA S 11 (240 * u + q))
    (q1 : 1 ≤ gA S9 13 t → gA S9 13 t ≤ 3 → 0 ≤ gA S9 15 t ∧ gA S9 15 t < gA S9 12 t ∧ gA S9 12 t ≤ 60) (q2 : gA S9 13 t = 2 → 0 ≤ gA S9 16 t ∧ gA S9 16 t < 24)
    (q3 : ∀ k, 0 ≤ k → k < 60 → k < gA S9 12 t → 2 ≤ gA S9 11 (240 * t + 4 * k) → gA S9 11 (240 * t + 4 * k) ≤ 4 → 0 ≤ gA S9 11 (240 * t + 4 * k + 1)) : mInv S9 := by
  obtain ⟨-, h2, h3, h4, h5, h6, h7, h8⟩ := h
  have e28 : ∀ i, gA S9 28 i = gA S 28 i := fun i => f1 28 i (by simp)
  have e29 : ∀ i, gA S9 29 i = gA S 29 i := fun i => f1 29 i (by simp)
  have e31 : ∀ i, gA S9 31 i = gA S 31 i := fun i => f1 31 i (by simp)
  have e32 : ∀ i, gA S9 32 i = gA S 32 i := fun i => f1 32 i (by simp)
  have e33 : ∀ i, gA S9 33 i = gA S 33 i := fun i => f1 33 i (by simp)
  have e34 : ∀ i, gA S9 34 i = gA S 34 i := fun i => f1 34 i (by simp)
  have e35 : ∀ i, gA S9 35 i = gA S 35 i := fun i => f1 35 i (by simp)
  have e37 : ∀ i, gA S9 37 i = gA S 37 i := fun i => f1 37 i (by simp)
  refine ⟨hT, ?_, ?_, ?_, ?_, ?_, ?_, ?_⟩
  · intro u u0 u1
    by_cases hu : u = t
    · subst hu; exact ⟨q1, q2, fun q => absurd h21' q⟩
    · rw [f2 12 u (by simp) hu, f2 13 u (by simp) hu, f2 15 u (by simp) hu, f2 16 u (by simp) hu, f2 21 u (by simp) hu]
      simp only [e34, e35]
      exact h2 u u0 u1
  · intro u k u0 u1 k0 k1
    by_cases hu : u = t
    · subst hu; exact q3 k k0 k1
    · have g1 : gA S9 11 (240 * u + 4 * k) = gA S 11 (240 * u + 4 * k) := f3 u (4 * k) u0 u1 (by clear f1 f2 f3 h2 h3 h4 h5 h6 h7 h8 q1 q2 q3 e28 e29 e31 e32 e33 e34 e35 e37 hn; grind) (by clear f1 f2 f3 h2 h3 h4 h5 h6 h7 h8 q1 q2 q3 e28 e29 e31 e32 e33 e34 e35 e37 hn; grind) hu
      have g2 : gA S9 11 (240 * u + 4 * k + 1) = gA S 11 (240 * u + 4 * k + 1) := by
        have g := f3 u (4 * k + 1) u0 u1 (by clear f1 f2 f3 h2 h3 h4 h5 h6 h7 h8 q1 q2 q3 e28 e29 e31 e32 e33 e34 e35 e37 hn g1; grind) (by clear f1 f2 f3 h2 h3 h4 h5 h6 h7 h8 q1 q2 q3 e28 e29 e31 e32 e33 e34 e35 e37 hn g1; grind) hu
        rw [show (240 * u + (4 * k + 1) : Int32) = 240 * u + 4 * k + 1 from (Int32.add_assoc _ _ _).symm] at g
        exact g
      rw [g1, g2, f2 12 u (by simp) hu]
      exact h3 u k u0 u1 k0 k1
  · intro b; simp only [e28, e29, e31, e33, e35, e37]; exact h4 b
  · intro b i b0 b1 i0 i1
    rw [e33] at i1
    have g := h5 b i b0 b1 i0 i1
    have hu : gA S 32 (8 * b + i) ≠ t := hn b i b0 b1 i0 i1
    rw [e32]
    unfold mem1 at g ⊢
    rw [f2 13 _ (by simp) hu, f2 16 _ (by simp) hu, f2 21 _ (by simp) hu, e28]
    exact g
  · intro b i d j; simp only [e32, e33]; exact h6 b i d j
  · intro b i b0 b1 i0 i1
    rw [e35] at i1
    have g := h7 b i b0 b1 i0 i1
    have hu : gA S 34 (8 * b + i) ≠ t := fun q => by unfold mem2 at g; rw [q] at g; exact g.2.2.2.2.1 h21
    rw [e34]
    unfold mem2 at g ⊢
    rw [f2 13 _ (by simp) hu, f2 16 _ (by simp) hu, f2 21 _ (by simp) hu, f2 22 _ (by simp) hu, e28]
    exact g
  · intro b b0 b1; unfold rdis; simp only [e34, e35]; exact h8 b b0 b1
/-- nine in eight places -/
theorem pig : ∀ (n : Nat) (f : Nat → Nat), (∀ i, i ≤ n → f i < n) → (∀ i j, i ≤ n → j ≤ n → f i = f j → i = j) → False
  | 0, f, h, _ => absurd (h 0 (Nat.le_refl 0)) (Nat.not_lt_zero _)
  | n + 1, f, h, hi => by
    refine pig n (fun i => if f i = n then f (n + 1) else f i) ?_ ?_
    · intro i hin
      try dsimp only
      by_cases g : f i = n
      · rw [if_pos g]
        have h1 := h (n + 1) (Nat.le_refl _)
        have h2 : f (n + 1) ≠ n := fun q => by have := hi i (n + 1) (by omega) (Nat.le_refl _) (g.trans q.symm); omega
        omega
      · rw [if_neg g]
        have h1 := h i (by omega)
        omega
    · intro i j hin hjn hij
      try dsimp only at hij
      by_cases g : f i = n <;> by_cases g2 : f j = n
      · exact hi i j (by omega) (by omega) (g.trans g2.symm)
      · rw [if_pos g, if_neg g2] at hij
        have := hi (n + 1) j (Nat.le_refl _) (by omega) hij
        omega
      · rw [if_neg g, if_pos g2] at hij
        have := hi i (n + 1) (by omega) (Nat.le_refl _) hij
        omega
      · rw [if_neg g, if_neg g2] at hij
        exact hi i j (by omega) (by omega) hij
/-- a row that t is not in has room for t -/
theorem room8 {S : mS} {kr kl : Nat} {b t : Int32} (hb : 0 ≤ b ∧ b < 24) (ht : 0 ≤ t ∧ t < 8) (hl : 0 ≤ gA S kl b ∧ gA S kl b ≤ 8) (hr : ∀ i, 0 ≤ i → i < gA S kl b → 0 ≤ gA S kr (8 * b + i) ∧ gA S kr (8 * b + i) < 8) (hd : rdis S kr kl b) (hn : ∀ i, 0 ≤ i → i < gA S kl b → gA S kr (8 * b + i) ≠ t) : gA S kl b < 8 := by
  rcases (show gA S kl b < 8 ∨ gA S kl b = 8 by clear hr hd hn; grind) with g | g
  · exact g
  · exfalso
    have key : ∀ i : Nat, i < 8 → 0 ≤ nI i ∧ nI i < gA S kl b := fun i hi => by rw [g]; exact ⟨nI_pos' (by omega), nI_lt (b := 8) hi (by decide)⟩
    have n8 : ∀ x : Int32, 0 ≤ x ∧ x < 8 → x.toInt.toNat < 8 ∧ (x.toInt.toNat : Int) = x.toInt := fun x hx => by
      have a1 : (0 : Int) ≤ x.toInt := Int32.le_iff_toInt_le.mp hx.1
      have a2 : x.toInt < 8 := Int32.lt_iff_toInt_lt.mp hx.2
      omega
    have inj8 : ∀ x y : Int32, 0 ≤ x ∧ x < 8 → 0 ≤ y ∧ y < 8 → x.toInt.toNat = y.toInt.toNat → x = y := fun x y hx hy e => Int32.toInt_inj.mp (by have a := (n8 x hx).2; have b := (n8 y hy).2; omega)
    refine pig 8 (fun i => if i < 8 then (gA S kr (8 * b + nI i)).toInt.toNat else t.toInt.toNat) ?_ ?_
    · intro i hi
      try dsimp only
      by_cases h8 : i < 8
      · rw [if_pos h8]; exact (n8 _ (hr (nI i) (key i h8).1 (key i h8).2)).1
      · rw [if_neg h8]; exact (n8 t ht).1
    · intro i j hi hj hij
      try dsimp only at hij
      by_cases h8 : i < 8 <;> by_cases g8 : j < 8
      · rw [if_pos h8, if_pos g8] at hij
        have e := inj8 _ _ (hr (nI i) (key i h8).1 (key i h8).2) (hr (nI j) (key j g8).1 (key j g8).2) hij
        rcases Nat.lt_trichotomy i j with q | q | q
        · exact absurd e (hd (nI i) (nI j) (key i h8).1 (nI_lt q (by omega)) (key j g8).2)
        · exact q
        · exact absurd e.symm (hd (nI j) (nI i) (key j g8).1 (nI_lt q (by omega)) (key i h8).2)
      · rw [if_pos h8, if_neg g8] at hij
        exact absurd (inj8 _ _ (hr (nI i) (key i h8).1 (key i h8).2) ht hij) (hn (nI i) (key i h8).1 (key i h8).2)
      · rw [if_neg h8, if_pos g8] at hij
        exact absurd (inj8 _ _ ht (hr (nI j) (key j g8).1 (key j g8).2) hij).symm (hn (nI j) (key j g8).1 (key j g8).2)
      · omega

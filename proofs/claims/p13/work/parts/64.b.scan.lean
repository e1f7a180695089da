/-! reading a PROGRAM, both side by side: blanks, pieces -/
theorem xwI_self {X : xS} {a j : Nat} {v : Int32} (h : xI X a j = v) : xwI X a j v = X := by
  apply xS_ext
  · intro b k
    show (if b = a ∧ k = j then v else X.1 b k) = X.1 b k
    split
    · rename_i c; rw [c.1, c.2]; exact h.symm
    · rfl
  all_goals intros; rfl
theorem xwI_w {X : xS} {a j : Nat} {v w : Int32} : xwI (xwI X a j v) a j w = xwI X a j w := by
  apply xS_ext
  · intro b k
    show (if b = a ∧ k = j then w else (if b = a ∧ k = j then v else X.1 b k)) = if b = a ∧ k = j then w else X.1 b k
    split
    · rfl
    · rfl
  all_goals intros; rfl
theorem sI_w {S : mS} {k : Nat} {v w : Int32} : sI (sI S k v) k w = sI S k w := by
  refine mS_ext (fun j => ?_) (fun _ => rfl) (fun _ _ => rfl) (fun _ _ => rfl)
  simp only [gI_sI]
  split <;> rfl
theorem sI_c {S : mS} {k l : Nat} {v w : Int32} (h : k ≠ l) : sI (sI S k v) l w = sI (sI S l w) k v := by
  refine mS_ext (fun j => ?_) (fun _ => rfl) (fun _ _ => rfl) (fun _ _ => rfl)
  simp only [gI_sI]
  by_cases c : j = l
  · subst c; simp [Ne.symm h]
  · simp [c]
theorem sI_self {S : mS} {k : Nat} {v : Int32} (h : gI S k = v) : sI S k v = S := by
  refine mS_ext (fun j => ?_) (fun _ => rfl) (fun _ _ => rfl) (fun _ _ => rfl)
  rw [gI_sI]
  split
  · rename_i c; rw [c]; exact h.symm
  · rfl
/-- what both read -/
def RT (ad : adT) (S : mS) (X : xS) : Prop := inj ad ∧ xI X (ad 9 0) 2 = gI S 7 ∧ xR X (ad 9 0) 4 = some (ad 11 0) ∧ xR X (ad 9 0) 0 = some (ad 10 0) ∧ (0 ≤ gI S 7 ∧ gI S 7 ≤ 1600) ∧ (∀ i, 0 ≤ i → i < gI S 7 → byt (xA X (ad 11 0) i) (gA S 1 i)) ∧ ∀ k, 0 ≤ k → k < 34 → gL S 4 k = wPk k
/-- blanks from p up to q -/
def isSk (L : Int32) (b : Int32 → Int32) (p q : Int32) : Prop := p ≤ q ∧ q ≤ L ∧ (∀ i, p ≤ i → i < q → b i = 32) ∧ (q = L ∨ b q ≠ 32)
/-- a piece from q up to e -/
def isTe (L : Int32) (b : Int32 → Int32) (q e : Int32) : Prop := q ≤ e ∧ e ≤ L ∧ (∀ i, q ≤ i → i < e → b i ≠ 32 ∧ b i ≠ 59) ∧ (e = L ∨ b e = 32 ∨ b e = 59)
def tkE (L : Int32) (b : Int32 → Int32) (q e : Int32) : Prop := (q < L ∧ b q = 59 ∧ e = q + 1) ∨ (¬ (q < L ∧ b q = 59) ∧ isTe L b q e)
theorem sk_u {L p q q2 : Int32} {b : Int32 → Int32} (h : isSk L b p q) (k : isSk L b p q2) : q = q2 := by
  obtain ⟨h1, h2, h3, h4⟩ := h
  obtain ⟨k1, k2, k3, k4⟩ := k
  rcases (show q = q2 ∨ q < q2 ∨ q2 < q by clear h3 k3 h4 k4; grind) with z | z | z
  · exact z
  · have := k3 q h1 z
    rcases h4 with y | y
    · clear h3 k3 k4; grind
    · exact absurd this y
  · have := h3 q2 k1 z
    rcases k4 with y | y
    · clear h3 k3 h4; grind
    · exact absurd this y
section SC
variable {ad : adT} {S : mS} {X : xS} {p : Int32}
theorem here_e (h : RT ad S X) (h5 : xI X (ad 9 0) 5 = p) (p0 : 0 ≤ p) : FC_X10_here X (ad 9 0) = if gI S 7 ≤ p then -1 else xA X (ad 11 0) p := by
  obtain ⟨hj, h2, h4, h0, hL, hb, hw⟩ := h
  rw [FC_X10_here]
  repeat rw [gLt_x]
  rw [h5, if_neg (show ¬ p < 0 by clear hb hw; grind)]
  repeat rw [gLt_x]
  rw [h2]
  by_cases c : gI S 7 ≤ p
  · rw [if_pos c, if_pos c]
  · rw [if_neg c, if_neg c]
    repeat rw [gLt_x]
    rw [h4, Option.getD_some, if_neg (show ¬ 1600 ≤ p by clear hb hw; grind)]
    repeat rw [gLt_x]
/-- a byte here, of those below 128 -/
theorem here_c {c : Int32} (h : RT ad S X) (h5 : xI X (ad 9 0) 5 = p) (p0 : 0 ≤ p) (hc : 0 ≤ c ∧ c ≤ 127) : (FC_X10_here X (ad 9 0) = c) = (p < gI S 7 ∧ gA S 1 p = c) := by
  rw [here_e h h5 p0]
  apply propext
  by_cases d : gI S 7 ≤ p
  · rw [if_pos d]
    constructor
    · intro z; exfalso; clear h; grind
    · intro z; exfalso; have := z.1; clear h; grind
  · rw [if_neg d]
    have y := h.2.2.2.2.2.1 p p0 (by clear h; grind)
    unfold byt at y
    clear h; grind
theorem here_r {lo hi : Int32} (h : RT ad S X) (h5 : xI X (ad 9 0) 5 = p) (p0 : 0 ≤ p) (hc : 0 ≤ lo ∧ hi ≤ 127) : (¬ FC_X10_here X (ad 9 0) < lo ∧ ¬ hi < FC_X10_here X (ad 9 0)) = (p < gI S 7 ∧ lo ≤ gA S 1 p ∧ gA S 1 p ≤ hi) := by
  rw [here_e h h5 p0]
  apply propext
  by_cases d : gI S 7 ≤ p
  · rw [if_pos d]
    constructor
    · intro z; exfalso; have := z.1; clear h; grind
    · intro z; exfalso; have := z.1; clear h; grind
  · rw [if_neg d]
    have y := h.2.2.2.2.2.1 p p0 (by clear h; grind)
    unfold byt at y
    clear h; grind
theorem here_b (h : RT ad S X) (h5 : xI X (ad 9 0) 5 = p) (p0 : 0 ≤ p) (hp : p < gI S 7) (hb : gA S 1 p ≤ 127) : FC_X10_here X (ad 9 0) = gA S 1 p := by
  rw [here_e h h5 p0, if_neg (show ¬ gI S 7 ≤ p by clear h; grind)]
  have y := h.2.2.2.2.2.1 p p0 hp
  unfold byt at y
  clear h; grind
/-- the tape's own numbers may change -/
theorem RT_at {j : Nat} {v : Int32} (h : RT ad S X) (hj2 : j ≠ 2) : RT ad S (xwI X (ad 9 0) j v) := by
  obtain ⟨hj, h2, h4, h0, hL, hb, hw⟩ := h
  refine ⟨hj, ?_, h4, h0, hL, hb, hw⟩
  rw [xI_I, if_neg (fun z => hj2 z.2.symm)]; exact h2
theorem RT_cd {i v : Int32} (h : RT ad S X) : RT ad S (xwA X (ad 10 0) i v) := by
  obtain ⟨hj, h2, h4, h0, hL, hb, hw⟩ := h
  refine ⟨hj, h2, h4, h0, hL, fun k k0 k1 => ?_, hw⟩
  rw [xA_A, if_neg (fun z => absurd (hj _ _ _ _ z.1).1 (by decide))]
  exact hb k k0 k1
theorem RT_S {S9 : mS} (h : RT ad S X) (e7 : gI S9 7 = gI S 7) (e1 : ∀ i, gA S9 1 i = gA S 1 i) (eL : ∀ k, gL S9 4 k = gL S 4 k) : RT ad S9 X := by
  obtain ⟨hj, h2, h4, h0, hL, hb, hw⟩ := h
  refine ⟨hj, by rw [e7]; exact h2, h4, h0, by rw [e7]; exact hL, fun k k0 k1 => ?_, fun k k0 k1 => by rw [eL]; exact hw k k0 k1⟩
  rw [e1]; exact hb k k0 (by rw [← e7]; exact k1)
end SC
theorem skX {ad : adT} {S : mS} : ∀ (N : Nat) (p : Int32) (X : xS), RT ad S X → xI X (ad 9 0) 5 = p → 0 ≤ p → p ≤ gI S 7 → (gI S 7 - p).toInt.toNat < N → ∃ q, isSk (gI S 7) (gA S 1) p q ∧ FC_X10_skipBlanks_L0 (ad 9 0) N X = xwI X (ad 9 0) 5 q := by
  intro N
  induction N with
  | zero => intro p X _ _ _ _ h; exact absurd h (Nat.not_lt_zero _)
  | succ N ih =>
    intro p X h h5 p0 pL hN
    have hL := h.2.2.2.2.1
    rw [FC_X10_skipBlanks_L0]
    repeat rw [gLt_x]
    rw [h5, h.2.1]
    by_cases c : gI S 7 ≤ p
    · rw [if_pos c]
      exact ⟨p, ⟨Int32.le_refl _, pL, fun i i0 i1 => by exfalso; clear ih h; grind, Or.inl (by clear ih h; grind)⟩, (xwI_self h5).symm⟩
    · rw [if_neg c]
      repeat rw [gLt_x]
      have hc := here_c (c := 32) h h5 p0 (by decide)
      by_cases d : FC_X10_here X (ad 9 0) = 32
      · have d2 := d
        rw [hc] at d2
        rw [if_pos d]
        obtain ⟨q, q1, q2⟩ := ih (p + 1) (xwI X (ad 9 0) 5 (p + 1)) (RT_at h (by decide)) (by simp [xI_I]) (by clear ih h; grind) (by clear ih h; grind) (msd hN (by clear ih h; grind) (by clear ih h; grind))
        refine ⟨q, ⟨by have := q1.1; clear ih h q1 q2; grind, q1.2.1, fun i i0 i1 => ?_, q1.2.2.2⟩, by rw [q2, xwI_w]⟩
        by_cases y : i = p
        · rw [y]; exact d2.2
        · exact q1.2.2.1 i (by clear ih h q1 q2; grind) i1
      · rw [if_neg d]
        rw [hc] at d
        exact ⟨p, ⟨Int32.le_refl _, pL, fun i i0 i1 => by exfalso; clear ih h; grind, Or.inr (fun z => d ⟨by clear ih h; grind, z⟩)⟩, (xwI_self h5).symm⟩
theorem skX_e {ad : adT} {S : mS} {X : xS} {p : Int32} (h : RT ad S X) (h5 : xI X (ad 9 0) 5 = p) (p0 : 0 ≤ p) (pL : p ≤ gI S 7) : ∃ q, isSk (gI S 7) (gA S 1) p q ∧ FC_X10_skipBlanks X (ad 9 0) = xwI X (ad 9 0) 5 q := by
  rw [FC_X10_skipBlanks]
  refine skX 4000 p X h h5 p0 pL ?_
  have a : (gI S 7 - p).toInt ≤ (1600 : Int32).toInt := Int32.le_iff_toInt_le.mp (show gI S 7 - p ≤ 1600 by have := h.2.2.2.2.1; clear h; grind)
  have b : (1600 : Int32).toInt = 1600 := by decide
  omega
theorem byteAt_e {S : mS} {k : Int32} : G_byteAt S k = if gI S 7 ≤ k then -1 else gA S 1 k := by rw [G_byteAt]
theorem te_S {S : mS} : ∀ (N : Nat) (q : Int32) (T : mS), gI T 7 = gI S 7 → (∀ i, gA T 1 i = gA S 1 i) → gI T 9 = q → 0 ≤ q → q ≤ gI S 7 → gI S 7 ≤ 1600 → (gI S 7 - q).toInt.toNat < N → ∃ e, isTe (gI S 7) (gA S 1) q e ∧ G_next_L66 N T = sI T 9 e := by
  intro N
  induction N with
  | zero => intro q T _ _ _ _ _ _ h; exact absurd h (Nat.not_lt_zero _)
  | succ N ih =>
    intro q T hI hA h9 q0 qL L16 hN
    rw [G_next_L66, h9, hI, hA]
    by_cases c : gI S 7 ≤ q
    · rw [if_pos c]
      exact ⟨q, ⟨Int32.le_refl _, qL, fun i i0 i1 => by exfalso; clear ih; grind, Or.inl (by clear ih; grind)⟩, (sI_self h9).symm⟩
    · rw [if_neg c]
      by_cases d : gA S 1 q = 32
      · rw [if_pos d]
        exact ⟨q, ⟨Int32.le_refl _, qL, fun i i0 i1 => by exfalso; clear ih; grind, Or.inr (Or.inl d)⟩, (sI_self h9).symm⟩
      · rw [if_neg d]
        by_cases f : gA S 1 q = 59
        · rw [if_pos f]
          exact ⟨q, ⟨Int32.le_refl _, qL, fun i i0 i1 => by exfalso; clear ih; grind, Or.inr (Or.inr f)⟩, (sI_self h9).symm⟩
        · rw [if_neg f, gLt_x]
          obtain ⟨e, e1, e2⟩ := ih (q + 1) (sI T 9 (q + 1)) hI (fun i => hA i) (by simp [gI_sI]) (by clear ih; grind) (by clear ih; grind) L16 (msd hN (by clear ih; grind) (by clear ih; grind))
          refine ⟨e, ⟨by have := e1.1; clear ih e1 e2; grind, e1.2.1, fun i i0 i1 => ?_, e1.2.2.2⟩, by rw [e2, sI_w]⟩
          by_cases y : i = q
          · rw [y]; exact ⟨d, f⟩
          · exact e1.2.2.1 i (by clear ih e1 e2; grind) i1
theorem nx_S {S : mS} : ∀ (N : Nat) (p : Int32) (T : mS), gI T 7 = gI S 7 → (∀ i, gA T 1 i = gA S 1 i) → gI T 8 = p → 0 ≤ p → p ≤ gI S 7 → gI S 7 ≤ 1600 → (gI S 7 - p).toInt.toNat < N → ∃ q e, isSk (gI S 7) (gA S 1) p q ∧ tkE (gI S 7) (gA S 1) q e ∧ G_next_L8 S N T = sI (sI T 8 q) 9 e := by
  intro N
  induction N with
  | zero => intro p T _ _ _ _ _ _ h; exact absurd h (Nat.not_lt_zero _)
  | succ N ih =>
    intro p T hI hA h8 p0 pL L16 hN
    rw [G_next_L8, byteAt_e, h8, hI, hA]
    repeat rw [gLt_x]
    by_cases c : p < gI S 7 ∧ gA S 1 p = 32
    · rw [if_neg (show ¬ gI S 7 ≤ p by have := c.1; clear ih; grind), if_pos c.2]
      repeat rw [gLt_x]
      obtain ⟨q, e, e1, e2, e3⟩ := ih (p + 1) (sI T 8 (p + 1)) hI (fun i => hA i) (by simp [gI_sI]) (by have := c.1; clear ih; grind) (by have := c.1; clear ih; grind) L16 (msd hN (by have := c.1; clear ih; grind) (by have := c.1; clear ih; grind))
      refine ⟨q, e, ⟨by have := e1.1; clear ih e1 e2 e3; grind, e1.2.1, fun i i0 i1 => ?_, e1.2.2.2⟩, e2, by rw [e3, sI_w]⟩
      by_cases y : i = p
      · rw [y]; exact c.2
      · exact e1.2.2.1 i (by clear ih e1 e2 e3; grind) i1
    · have n32 : ¬ (if gI S 7 ≤ p then (-1 : Int32) else gA S 1 p) = 32 := by
        by_cases y : gI S 7 ≤ p
        · rw [if_pos y]; decide
        · rw [if_neg y]; exact fun z => c ⟨by clear ih; grind, z⟩
      have sk : isSk (gI S 7) (gA S 1) p p := ⟨Int32.le_refl _, pL, fun i i0 i1 => by exfalso; clear ih; grind, by
        by_cases y : gI S 7 ≤ p
        · exact Or.inl (by clear ih; grind)
        · exact Or.inr (fun z => c ⟨by clear ih; grind, z⟩)⟩
      have e7 : gI (sI T 9 p) 7 = gI S 7 := by rw [gI_sI, if_neg (by decide)]; exact hI
      have e9 : gI (sI T 9 p) 9 = p := by simp [gI_sI]
      rw [if_neg n32]
      repeat rw [gLt_x]
      rw [byteAt_e, e9, e7]
      repeat rw [gLt_x]
      have eA : gA (sI T 9 p) 1 p = gA S 1 p := hA p
      rw [eA]
      by_cases d : p < gI S 7 ∧ gA S 1 p = 59
      · rw [if_neg (show ¬ gI S 7 ≤ p by have := d.1; clear ih; grind), if_pos d.2]
        refine ⟨p, p + 1, sk, Or.inl ⟨d.1, d.2, rfl⟩, ?_⟩
        rw [sI_self h8, sI_w]
      · have n59 : ¬ (if gI S 7 ≤ p then (-1 : Int32) else gA S 1 p) = 59 := by
          by_cases y : gI S 7 ≤ p
          · rw [if_pos y]; decide
          · rw [if_neg y]; exact fun z => d ⟨by clear ih; grind, z⟩
        rw [if_neg n59]
        obtain ⟨e, e1, e2⟩ := te_S (S := S) ((gI S 7 - p).toInt.toNat + 1) p (sI T 9 p) e7 (fun i => hA i) e9 p0 pL L16 (Nat.lt_succ_self _)
        refine ⟨p, e, sk, Or.inr ⟨d, e1⟩, ?_⟩
        rw [e2, sI_w, sI_self h8]
/-- the next piece -/
theorem next_e {S : mS} (p0 : 0 ≤ gI S 9) (pL : gI S 9 ≤ gI S 7) (L16 : gI S 7 ≤ 1600) : ∃ q e, isSk (gI S 7) (gA S 1) (gI S 9) q ∧ tkE (gI S 7) (gA S 1) q e ∧ G_next S = sI (sI S 8 q) 9 e := by
  have e8 : gI (sI S 8 (gI S 9)) 8 = gI S 9 := by simp [gI_sI]
  obtain ⟨q, e, h1, h2, h3⟩ := nx_S (S := S) ((gI S 7 - gI S 9).toInt.toNat + 1) (gI S 9) (sI S 8 (gI S 9)) (by simp [gI_sI]) (fun _ => rfl) e8 p0 pL L16 (Nat.lt_succ_self _)
  refine ⟨q, e, h1, h2, ?_⟩
  rw [G_next, gLt_x, e8, h3, sI_w]
theorem tk_r {L q e : Int32} {b : Int32 → Int32} (h : tkE L b q e) (q0 : 0 ≤ q) (qL : q ≤ L) (L16 : L ≤ 1600) : q ≤ e ∧ e ≤ L ∧ (q < L → q < e ∨ b q = 32) := by
  rcases h with z | z
  · obtain ⟨z1, z2, z3⟩ := z
    exact ⟨by grind, by grind, fun _ => Or.inl (by grind)⟩
  · obtain ⟨z0, z1, z2, z3, z4⟩ := z
    refine ⟨z1, z2, fun y => ?_⟩
    by_cases c : q < e
    · exact Or.inl c
    · have eq : q = e := by clear z3 z4; grind
      rcases z4 with w | w | w
      · exfalso; clear z3; grind
      · rw [eq]; exact Or.inr w
      · exact absurd ⟨y, by rw [eq]; exact w⟩ z0

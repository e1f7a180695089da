/-! taking out of a row, and coming to one: the loops of both, side by side -/
theorem nar0 : vp_nar .boolean 0 = 0 := by decide
theorem nar1 : vp_nar .boolean 1 = 1 := by decide
def lv_L (kr kl : Nat) (b t : Int32) : Nat → Int32 → Int32 → mS → Int32 × mS
  | 0, n, _, S => (n, S)
  | N + 1, n, i, S => if gA S kl b ≤ i then (n, S) else if gA S kr (8 * b + i) = t then lv_L kr kl b t N n (i + 1) S else lv_L kr kl b t N (n + 1) (i + 1) (sA S kr (8 * b + n) (gA S kr (8 * b + i)))
theorem leaves_L {b t : Int32} : ∀ (N : Nat) (n i : Int32) (S : mS), 0 ≤ i → gA S 33 b ≤ 8 → (gA S 33 b - i).toInt.toNat < N → G_leaves_L5 b t N n i S = sA (lv_L 32 33 b t N n i S).2 33 b (lv_L 32 33 b t N n i S).1 := by
  intro N
  induction N with
  | zero => intro n i S _ _ h; exact absurd h (Nat.not_lt_zero _)
  | succ N ih =>
    intro n i S i0 i8 hm
    rw [G_leaves_L5, lv_L]
    simp only [gLt]
    by_cases c : gA S 33 b ≤ i
    · rw [if_pos c, if_pos c]
    · rw [if_neg c, if_neg c]
      have m1 := msd hm (b := gA S 33 b - (i + 1)) (by clear ih hm; grind) (by clear ih hm; grind)
      by_cases d : gA S 32 (8 * b + i) = t
      · rw [if_pos d, if_pos d]
        exact ih n (i + 1) S (by clear ih hm m1; grind) i8 m1
      · rw [if_neg d, if_neg d]
        have e : gA (sA S 32 (8 * b + n) (gA S 32 (8 * b + i))) 33 b = gA S 33 b := by simp [gA_sA]
        exact ih (n + 1) (i + 1) _ (by clear ih hm m1; grind) (by rw [e]; exact i8) (by rw [e]; exact m1)
/-- what signalled does behind its loop -/
def sgC (b t : Int32) (r : Int32 × mS) : mS :=
  if 0 ≤ gA (sA (sA r.2 35 b r.1) 21 t 0) 31 b then G_signalled_J104 b t 0 (sA (sA r.2 35 b r.1) 21 t 0) else if gA (sA (sA r.2 35 b r.1) 21 t 0) 33 b = 0 then G_signalled_J104 b t 1 (sA (sA r.2 35 b r.1) 21 t 0) else G_signalled_J104 b t 0 (sA (sA r.2 35 b r.1) 21 t 0)
theorem signalled_L {b t : Int32} : ∀ (N : Nat) (n i : Int32) (S : mS), 0 ≤ i → gA S 35 b ≤ 8 → (gA S 35 b - i).toInt.toNat < N → G_signalled_L5 b t N n i S = sgC b t (lv_L 34 35 b t N n i S) := by
  intro N
  induction N with
  | zero => intro n i S _ _ h; exact absurd h (Nat.not_lt_zero _)
  | succ N ih =>
    intro n i S i0 i8 hm
    rw [G_signalled_L5, lv_L]
    simp only [gLt, nar0]
    by_cases c : gA S 35 b ≤ i
    · rw [if_pos c, if_pos c]; rfl
    · rw [if_neg c, if_neg c]
      have m1 := msd hm (b := gA S 35 b - (i + 1)) (by clear ih hm; grind) (by clear ih hm; grind)
      by_cases d : gA S 34 (8 * b + i) = t
      · rw [if_pos d, if_pos d]
        exact ih n (i + 1) S (by clear ih hm m1; grind) i8 m1
      · rw [if_neg d, if_neg d]
        have e : gA (sA S 34 (8 * b + n) (gA S 34 (8 * b + i))) 35 b = gA S 35 b := by simp [gA_sA]
        exact ih (n + 1) (i + 1) _ (by clear ih hm m1; grind) (by rw [e]; exact i8) (by rw [e]; exact m1)
/-- but for a row's size (p) and entries (q) and where a THREAD (a) stands, nothing is other -/
def frX (p q a : Nat) (X X9 : xS) : Prop := (∀ c j, ¬ (c = p ∧ j = 0) → xI X9 c j = xI X c j) ∧ (∀ c j, xJ X9 c j = xJ X c j) ∧ (∀ c j, ¬ (c = a ∧ (j = 7 ∨ j = 8)) → xR X9 c j = xR X c j) ∧ (∀ c i, xA X9 c i = xA X c i) ∧ (∀ c i, c ≠ q → xQ X9 c i = xQ X c i) ∧ (∀ c, xC X9 c = xC X c)
theorem frX_rf {p q a : Nat} {X : xS} : frX p q a X X := ⟨fun _ _ _ => rfl, fun _ _ => rfl, fun _ _ _ => rfl, fun _ _ => rfl, fun _ _ _ => rfl, fun _ => rfl⟩
theorem frX_tr {p q a : Nat} {X X1 X2 : xS} (h : frX p q a X X1) (k : frX p q a X1 X2) : frX p q a X X2 :=
  ⟨fun c j z => (k.1 c j z).trans (h.1 c j z), fun c j => (k.2.1 c j).trans (h.2.1 c j), fun c j z => (k.2.2.1 c j z).trans (h.2.2.1 c j z), fun c j => (k.2.2.2.1 c j).trans (h.2.2.2.1 c j), fun c j z => (k.2.2.2.2.1 c j z).trans (h.2.2.2.2.1 c j z), fun c => (k.2.2.2.2.2 c).trans (h.2.2.2.2.2 c)⟩
theorem frX_p {p q a : Nat} {X : xS} {v : Int32} : frX p q a X (xwI X p 0 v) :=
  ⟨fun c j z => by rw [xI_I, if_neg z], fun _ _ => rfl, fun _ _ _ => rfl, fun _ _ => rfl, fun _ _ _ => rfl, fun _ => rfl⟩
theorem frX_q {p q a : Nat} {X : xS} {i : Int32} {v : Option Nat} : frX p q a X (xwQ X q i v) :=
  ⟨fun _ _ _ => rfl, fun _ _ => rfl, fun _ _ _ => rfl, fun _ _ => rfl, fun c j z => by rw [xQ_Q, if_neg (fun y => z y.1)], fun _ => rfl⟩
theorem frX_a {p q a j : Nat} {X : xS} {v : Option Nat} (hj : j = 7 ∨ j = 8) : frX p q a X (xwR X a j v) :=
  ⟨fun _ _ _ => rfl, fun _ _ => rfl, fun c k z => by rw [xR_R, if_neg (fun y => z ⟨y.1, by rw [y.2]; exact hj⟩)], fun _ _ => rfl, fun _ _ _ => rfl, fun _ => rfl⟩
theorem lk_rm {ad : adT} (hj : inj ad) {kr kl p q : Nat} {b t : Int32} (hk : kl ≠ kr) : ∀ (M N : Nat) (n i : Int32) (S : mS) (X : xS), 0 ≤ n → n ≤ i → i ≤ gA S kl b → gA S kl b ≤ 8 → (gA S kl b - i).toInt.toNat < N → (8 - i).toInt.toNat < M →
    xI X p 0 = gA S kl b → xR X p 1 = some q → (∀ j, 0 ≤ j → j < n → xQ X q j = some (ad 0 (gA S kr (8 * b + j)))) → (∀ j, i ≤ j → j < gA S kl b → xQ X q j = some (ad 0 (gA S kr (8 * b + j)))) →
    ∀ a, frX p q a X (FC_X6_remove_L4 p (ad 0 t) M n i X) ∧ (∀ c j, xR (FC_X6_remove_L4 p (ad 0 t) M n i X) c j = xR X c j) ∧ xI (FC_X6_remove_L4 p (ad 0 t) M n i X) p 0 = (lv_L kr kl b t N n i S).1 ∧
      ∀ j, 0 ≤ j → j < (lv_L kr kl b t N n i S).1 → xQ (FC_X6_remove_L4 p (ad 0 t) M n i X) q j = some (ad 0 (gA (lv_L kr kl b t N n i S).2 kr (8 * b + j))) := by
  intro M
  induction M with
  | zero => intro N n i S X _ _ _ _ _ h; exact absurd h (Nat.not_lt_zero _)
  | succ M ih =>
    intro N n i S X n0 ni il l8 hN hM eP eQ e1 e2 a
    cases N with
    | zero => exact absurd hN (Nat.not_lt_zero _)
    | succ N =>
      rw [FC_X6_remove_L4, lv_L]
      simp only [gLt, eP, eQ, Option.getD_some]
      by_cases c : gA S kl b ≤ i
      · simp only [if_pos c]
        refine ⟨frX_p, fun _ _ => rfl, by simp [xI_I], fun j j0 j1 => ?_⟩
        rw [xQ_I]; exact e1 j j0 j1
      · simp only [if_neg c]
        have c8 : ¬ (8 : Int32) ≤ i := by clear ih hN hM e1 e2; grind
        have mN := msd hN (b := gA S kl b - (i + 1)) (by clear ih hN hM e1 e2; grind) (by clear ih hN hM e1 e2; grind)
        have mM := msd hM (b := 8 - (i + 1)) (by clear ih hN hM e1 e2 mN; grind) (by clear ih hN hM e1 e2 mN; grind)
        rw [if_neg c8]
        have ei := e2 i (by clear ih hN hM e1 e2 mN mM; grind) (by clear ih hN hM e1 e2 mN mM; grind)
        rw [ei]
        simp only [gO, Option.some.injEq, inj_e hj, true_and]
        by_cases d : gA S kr (8 * b + i) = t
        · simp only [if_pos d]
          exact ih N n (i + 1) S X n0 (by clear ih hN hM e1 e2 mN mM; grind) (by clear ih hN hM e1 e2 mN mM; grind) l8 mN mM eP eQ e1 (fun j j0 j1 => e2 j (by clear ih hN hM e1 e2 mN mM; grind) j1) a
        · simp only [if_neg d]
          have es : gA (sA S kr (8 * b + n) (gA S kr (8 * b + i))) kl b = gA S kl b := by simp [gA_sA, hk]
          have r := ih N (n + 1) (i + 1) (sA S kr (8 * b + n) (gA S kr (8 * b + i))) (xwQ X q n (some (ad 0 (gA S kr (8 * b + i))))) (by clear ih hN hM e1 e2 mN mM; grind) (by clear ih hN hM e1 e2 mN mM; grind) (by rw [es]; clear ih hN hM e1 e2 mN mM; grind) (by rw [es]; exact l8) (by rw [es]; exact mN) mM (by rw [xI_Q, es]; exact eP) (by rw [xR_Q]; exact eQ)
            (fun j j0 j1 => by
              rw [xQ_Q, gA_sA, if_pos rfl]
              by_cases y : j = n
              · subst y; rw [if_pos ⟨rfl, rfl⟩, if_pos rfl]
              · rw [if_neg (fun z => y (tn_inj j0 n0 z.2)), if_neg (fun z => y (by clear ih hN hM e1 e2 mN mM; grind))]
                exact e1 j j0 (by clear ih hN hM e1 e2 mN mM; grind))
            (fun j j0 j1 => by
              rw [es] at j1
              rw [xQ_Q, gA_sA, if_pos rfl]
              have y : j ≠ n := by clear ih hN hM e1 e2 mN mM; grind
              rw [if_neg (fun z => y (tn_inj (by clear ih hN hM e1 e2 mN mM; grind) n0 z.2)), if_neg (fun z => y (by clear ih hN hM e1 e2 mN mM; grind))]
              exact e2 j (by clear ih hN hM e1 e2 mN mM; grind) j1) a
          obtain ⟨r1, r2, r3, r4⟩ := r
          exact ⟨frX_tr frX_q r1, fun c j => (r2 c j).trans rfl, r3, r4⟩

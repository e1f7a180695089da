/-! reading a PROGRAM, both side by side: numbers -/
abbrev dg (b : Int32 → Int32) (i : Int32) : Prop := 48 ≤ b i ∧ b i ≤ 57
/-- behind the digits: fm where the number began, k its first digit -/
def nT (o : Nat) (slot rg fm k w : Int32) (X : xS) : Int32 × xS := if xI X o 5 = k then (0, xwI X o 3 (xI X o 5)) else (if FC_X10_inRange X rg w = 0 then (0, xwI X o 3 fm) else (1, FC_X10_store X o slot w))
theorem brk_e {X : xS} {o : Nat} {w : Int32} : FC_X10_broken X o w = (0, xwI X o 3 w) := by rw [FC_X10_broken, gLt_x]
theorem L45_s {ad : adT} {S : mS} {X : xS} {slot rg k p w : Int32} {N : Nat} (h : RT ad S X) (h5 : xI X (ad 9 0) 5 = p) (p0 : 0 ≤ p) : FC_X10_readNumber_L45 (ad 9 0) slot rg k (N + 1) w X = if ¬ 9 ≤ p - k ∧ p < gI S 7 ∧ dg (gA S 1) p then FC_X10_readNumber_L45 (ad 9 0) slot rg k N (w * 10 + (gA S 1 p - 48)) (xwI X (ad 9 0) 5 (p + 1)) else nT (ad 9 0) slot rg k k w X := by
  have tl : (if p = k then gC (FC_X10_broken X (ad 9 0) p) (fun r24 Xf22 => (r24, Xf22)) else gLt (FC_X10_inRange X rg w) (fun r14 => if r14 = 0 then gC (FC_X10_broken X (ad 9 0) k) (fun r21 Xf19 => (r21, Xf19)) else gLt (FC_X10_store X (ad 9 0) slot w) (fun Xf16 => ((1 : Int32), Xf16)))) = nT (ad 9 0) slot rg k k w X := by
    rw [nT, h5, brk_e, brk_e, gC_p, gC_p, gLt_x, gLt_x]
  rw [FC_X10_readNumber_L45]
  repeat rw [gLt_x]
  rw [h5]
  by_cases c : 9 ≤ p - k
  · rw [if_pos c, if_neg (show ¬ (¬ 9 ≤ p - k ∧ p < gI S 7 ∧ dg (gA S 1) p) from fun z => z.1 c)]; exact tl
  · rw [if_neg c]
    repeat rw [gLt_x]
    have hr := here_r (lo := 48) (hi := 57) h h5 p0 (by decide)
    by_cases a : FC_X10_here X (ad 9 0) < 48
    · rw [if_pos a, if_neg (show ¬ (¬ 9 ≤ p - k ∧ p < gI S 7 ∧ dg (gA S 1) p) from fun z => by
        have y : ¬ FC_X10_here X (ad 9 0) < 48 ∧ ¬ 57 < FC_X10_here X (ad 9 0) := by rw [hr]; exact ⟨z.2.1, z.2.2⟩
        exact y.1 a)]
      exact tl
    · rw [if_neg a]
      repeat rw [gLt_x]
      by_cases b : 57 < FC_X10_here X (ad 9 0)
      · rw [if_pos b, if_neg (show ¬ (¬ 9 ≤ p - k ∧ p < gI S 7 ∧ dg (gA S 1) p) from fun z => by
          have y : ¬ FC_X10_here X (ad 9 0) < 48 ∧ ¬ 57 < FC_X10_here X (ad 9 0) := by rw [hr]; exact ⟨z.2.1, z.2.2⟩
          exact y.2 b)]
        exact tl
      · have y : ¬ FC_X10_here X (ad 9 0) < 48 ∧ ¬ 57 < FC_X10_here X (ad 9 0) := ⟨a, b⟩
        rw [hr] at y
        rw [if_neg b, if_pos ⟨c, y.1, y.2⟩]
        repeat rw [gLt_x]
        rw [here_b h h5 p0 y.1 (by have := y.2.2; clear h hr; grind)]
theorem L45x_s {ad : adT} {S : mS} {X : xS} {slot rg fm k p w : Int32} {N : Nat} (h : RT ad S X) (h5 : xI X (ad 9 0) 5 = p) (p0 : 0 ≤ p) : FC_X10_readNumber_L45x1 (ad 9 0) slot rg fm k (N + 1) w X = if ¬ 9 ≤ p - k ∧ p < gI S 7 ∧ dg (gA S 1) p then FC_X10_readNumber_L45x1 (ad 9 0) slot rg fm k N (w * 10 + (gA S 1 p - 48)) (xwI X (ad 9 0) 5 (p + 1)) else nT (ad 9 0) slot rg fm k (-w) X := by
  have tl : (if p = k then gC (FC_X10_broken X (ad 9 0) p) (fun r94 Xf92 => (r94, Xf92)) else gLt (-w) (fun x81 => gLt (FC_X10_inRange X rg x81) (fun r84 => if r84 = 0 then gC (FC_X10_broken X (ad 9 0) fm) (fun r91 Xf89 => (r91, Xf89)) else gLt (FC_X10_store X (ad 9 0) slot x81) (fun Xf86 => ((1 : Int32), Xf86))))) = nT (ad 9 0) slot rg fm k (-w) X := by
    rw [nT, h5, brk_e, brk_e, gC_p, gC_p, gLt_x, gLt_x, gLt_x]
  rw [FC_X10_readNumber_L45x1]
  repeat rw [gLt_x]
  rw [h5]
  by_cases c : 9 ≤ p - k
  · rw [if_pos c, if_neg (show ¬ (¬ 9 ≤ p - k ∧ p < gI S 7 ∧ dg (gA S 1) p) from fun z => z.1 c)]; exact tl
  · rw [if_neg c]
    repeat rw [gLt_x]
    have hr := here_r (lo := 48) (hi := 57) h h5 p0 (by decide)
    by_cases a : FC_X10_here X (ad 9 0) < 48
    · rw [if_pos a, if_neg (show ¬ (¬ 9 ≤ p - k ∧ p < gI S 7 ∧ dg (gA S 1) p) from fun z => by
        have y : ¬ FC_X10_here X (ad 9 0) < 48 ∧ ¬ 57 < FC_X10_here X (ad 9 0) := by rw [hr]; exact ⟨z.2.1, z.2.2⟩
        exact y.1 a)]
      exact tl
    · rw [if_neg a]
      repeat rw [gLt_x]
      by_cases b : 57 < FC_X10_here X (ad 9 0)
      · rw [if_pos b, if_neg (show ¬ (¬ 9 ≤ p - k ∧ p < gI S 7 ∧ dg (gA S 1) p) from fun z => by
          have y : ¬ FC_X10_here X (ad 9 0) < 48 ∧ ¬ 57 < FC_X10_here X (ad 9 0) := by rw [hr]; exact ⟨z.2.1, z.2.2⟩
          exact y.2 b)]
        exact tl
      · have y : ¬ FC_X10_here X (ad 9 0) < 48 ∧ ¬ 57 < FC_X10_here X (ad 9 0) := ⟨a, b⟩
        rw [hr] at y
        rw [if_neg b, if_pos ⟨c, y.1, y.2⟩]
        repeat rw [gLt_x]
        rw [here_b h h5 p0 y.1 (by have := y.2.2; clear h hr; grind)]
/-- the sign's own number -/
def sgn (neg : Bool) (w : Int32) : Int32 := if neg then -w else w
/-- both loops of the class in one -/
def L45u (neg : Bool) (o : Nat) (slot rg fm k : Int32) (N : Nat) (w : Int32) (X : xS) : Int32 × xS := if neg then FC_X10_readNumber_L45x1 o slot rg fm k N w X else FC_X10_readNumber_L45 o slot rg k N w X
theorem L45u_s {neg : Bool} {ad : adT} {S : mS} {X : xS} {slot rg fm k p w : Int32} {N : Nat} (hf : neg = false → fm = k) (h : RT ad S X) (h5 : xI X (ad 9 0) 5 = p) (p0 : 0 ≤ p) : L45u neg (ad 9 0) slot rg fm k (N + 1) w X = if ¬ 9 ≤ p - k ∧ p < gI S 7 ∧ dg (gA S 1) p then L45u neg (ad 9 0) slot rg fm k N (w * 10 + (gA S 1 p - 48)) (xwI X (ad 9 0) 5 (p + 1)) else nT (ad 9 0) slot rg fm k (sgn neg w) X := by
  cases neg with
  | true => simp only [L45u, sgn, if_true]; exact L45x_s h h5 p0
  | false =>
    have e := hf rfl
    subst e
    simp only [L45u, sgn]; exact L45_s h h5 p0
/-- where the digits end -/
theorem dgX {neg : Bool} {ad : adT} {S : mS} {slot rg fm k : Int32} (hf : neg = false → fm = k) (k0 : 0 ≤ k) : ∀ (N : Nat) (p w : Int32) (X : xS), RT ad S X → xI X (ad 9 0) 5 = p → k ≤ p → p ≤ gI S 7 → p - k ≤ 9 → (9 - (p - k)).toInt.toNat < N → (∀ i, k ≤ i → i < p → dg (gA S 1) i) →
    ∃ e v, k ≤ e ∧ e ≤ gI S 7 ∧ e - k ≤ 9 ∧ (∀ i, k ≤ i → i < e → dg (gA S 1) i) ∧ (e - k = 9 ∨ e = gI S 7 ∨ ¬ dg (gA S 1) e) ∧ L45u neg (ad 9 0) slot rg fm k N w X = nT (ad 9 0) slot rg fm k v (xwI X (ad 9 0) 5 e) := by
  intro N
  induction N with
  | zero => intro p w X _ _ _ _ _ h; exact absurd h (Nat.not_lt_zero _)
  | succ N ih =>
    intro p w X h h5 kp pL p9 hN hd
    have hL := h.2.2.2.2.1
    rw [L45u_s hf h h5 (by clear ih h hd; grind)]
    by_cases c : ¬ 9 ≤ p - k ∧ p < gI S 7 ∧ dg (gA S 1) p
    · rw [if_pos c]
      have c1 := c.1
      have c2 := c.2.1
      obtain ⟨e, v, e1, e2, e3, e4, e5, e6⟩ := ih (p + 1) (w * 10 + (gA S 1 p - 48)) (xwI X (ad 9 0) 5 (p + 1)) (RT_at h (by decide)) (by simp [xI_I]) (by clear ih h hd c; grind) (by clear ih h hd c; grind) (by clear ih h hd c; grind) (msd hN (by clear ih h hd c; grind) (by clear ih h hd c; grind)) (fun i i0 i1 => by
        by_cases y : i = p
        · rw [y]; exact c.2.2
        · exact hd i i0 (by clear ih h hd c; grind))
      exact ⟨e, v, e1, e2, e3, e4, e5, by rw [e6, xwI_w]⟩
    · rw [if_neg c]
      refine ⟨p, _, kp, pL, p9, hd, ?_, by rw [xwI_self h5]⟩
      by_cases a : 9 ≤ p - k
      · exact Or.inl (by clear ih h hd c; grind)
      · by_cases b : p < gI S 7
        · exact Or.inr (Or.inr (fun z => c ⟨a, b, z⟩))
        · exact Or.inr (Or.inl (by clear ih h hd c; grind))
theorem kn1 {k n : Int32} (k0 : 0 ≤ k) (k1 : k ≤ 1600) (n0 : 0 ≤ n ∧ n ≤ 9) : 0 ≤ k + n ∧ k ≤ k + n := by grind
theorem kn2 {k n m : Int32} (k0 : 0 ≤ k) (k1 : k ≤ 1600) (n0 : 0 ≤ n ∧ n ≤ 9) (m0 : 0 ≤ m ∧ m ≤ 9) (h : n < m) : k + n < k + m := by grind
/-- a piece that is digits up to e, with nothing of the kind behind: both have its value -/
theorem dgA {neg : Bool} {ad : adT} {S : mS} {slot rg fm k : Int32} {lo hi : Int32} (hf : neg = false → fm = k) (k0 : 0 ≤ k) (k16 : k ≤ 1600) (L16 : gI S 7 ≤ 1600) (hd : ∀ i, k ≤ i → i < gI S 9 → dg (gA S 1) i) (eL : gI S 9 ≤ gI S 7) (hs : gI S 9 = gI S 7 ∨ ¬ dg (gA S 1) (gI S 9)) (m : Nat) (hm : gI S 9 = k + nI m) (m9 : m ≤ 9) : ∀ (n N M : Nat) (x : Nat) (X : xS), n ≤ m → RT ad S X → xI X (ad 9 0) 5 = k + nI n → x < 10 ^ n → m - n < N → m - n < M →
    ∃ y, y < 10 ^ m ∧ L45u neg (ad 9 0) slot rg fm k N (nI x) X = nT (ad 9 0) slot rg fm k (sgn neg (nI y)) (xwI X (ad 9 0) 5 (gI S 9)) ∧ G_number_L68 S lo hi (if neg then 1 else 0) M (k + nI n) (nI x) = G_number_J130 S lo hi (sgn neg (nI y)) := by
  intro n N
  induction N generalizing n with
  | zero => intro M x X _ _ _ _ h; exact absurd h (Nat.not_lt_zero _)
  | succ N ih =>
    intro M x X nm h h5 hx hN hM
    have n9 : 0 ≤ nI n ∧ nI n ≤ 9 := ⟨nI_pos' (by omega), by have := nI_le (a := n) (b := 9) (by omega) (by decide); exact this⟩
    have m99 : 0 ≤ nI m ∧ nI m ≤ 9 := ⟨nI_pos' (by omega), by have := nI_le (a := m) (b := 9) (by omega) (by decide); exact this⟩
    cases M with
    | zero => exact absurd hM (Nat.not_lt_zero _)
    | succ M =>
      have kk := kn1 k0 k16 n9
      rw [L45u_s hf h h5 kk.1, G_number_L68]
      by_cases c : n = m
      · subst c
        have e9 : gI S 9 ≤ k + nI n := by rw [hm]; exact Int32.le_refl _
        rw [if_pos e9, ← hm, if_neg (fun z => by
          rcases hs with q | q
          · have := z.2.1; rw [q] at this; clear h ih hd; grind
          · exact q z.2.2), xwI_self (h5.trans hm.symm)]
        refine ⟨x, hx, rfl, ?_⟩
        cases neg with
        | true => simp only [sgn, if_true]; rw [if_neg (by decide), gLt_x]
        | false => rw [if_pos (show (if false = true then (1 : Int32) else 0) = 0 by decide)]; rfl
      · have nm1 : n < m := by omega
        have lt : nI n < nI m := nI_lt nm1 (by omega)
        have pe : k + nI n < gI S 9 := by rw [hm]; exact kn2 k0 k16 n9 m99 lt
        have dd := hd (k + nI n) kk.2 pe
        obtain ⟨f, hf9⟩ := i32f (q := gA S 1 (k + nI n) - 48) (n := 10) (m := 10) (by have d1 := dd.1; generalize gA S 1 (k + nI n) = g at d1; clear ih h hd dd hx h5; grind) (by have d1 := dd.1; have d2 := dd.2; generalize gA S 1 (k + nI n) = g at d1 d2; clear ih h hd dd hx h5; grind) (by decide)
        have ev : gA S 1 (k + nI n) = nI (48 + f.val) := by
          rw [← nI_add, ← hf9, show nI 48 = 48 by decide]; generalize gA S 1 (k + nI n) = g; grind
        rw [if_pos ⟨by rw [show k + nI n - k = nI n by grind]; clear ih h hd dd hx h5; grind, Int32.lt_of_lt_of_le pe eL, dd⟩, if_neg (show ¬ gI S 9 ≤ k + nI n from Int32.not_le.mpr pe), in_1 (show 48 ≤ gA S 1 (k + nI n) ∧ gA S 1 (k + nI n) ≤ 57 from dd), gLt_x, if_neg (by decide), gLt_x, gLt_x]
        have v1 : nI x * 10 + (gA S 1 (k + nI n) - 48) = nI (10 * x + f.val) := by
          rw [hf9, show (10 : Int32) = nI 10 by decide, pk_mul, nI_add, Nat.mul_comm]
        have v2 : 10 * nI x + gA S 1 (k + nI n) - 48 = nI (10 * x + f.val) := by
          rw [← v1]; generalize gA S 1 (k + nI n) = g; generalize nI x = y; grind
        rw [v1, v2, show k + nI n + 1 = k + nI (n + 1) by rw [nI_succ]; grind]
        obtain ⟨y, y1, y2, y3⟩ := ih (n + 1) M (10 * x + f.val) (xwI X (ad 9 0) 5 (k + nI (n + 1))) (by omega) (RT_at h (by decide)) (by simp [xI_I]) (by have := f.isLt; rw [Nat.pow_succ]; omega) (by omega) (by omega)
        exact ⟨y, y1, by rw [y2, xwI_w], y3⟩

/-! reading a PROGRAM, both side by side: a piece as a number -/
theorem dg32 {b : Int32 → Int32} {i : Int32} (y : dg b i) (w : b i = 32) : False := by
  have z := y.1
  rw [w] at z; exact absurd z (by decide)
theorem dg59 {b : Int32 → Int32} {i : Int32} (y : dg b i) (w : b i = 59) : False := by
  have z := y.2
  rw [w] at z; exact absurd z (by decide)
/-- a place at which nothing can go on -/
def stk (S : mS) (p : Int32) : Prop := 0 ≤ p ∧ p < gI S 7 ∧ gA S 1 p ≠ 32 ∧ gA S 1 p ≠ 59
/-- but for the tape's own numbers and the code read, nothing is other; of the code nothing outside of s .. s + n - 1 -/
def frT (ad : adT) (s n : Int32) (X X9 : xS) : Prop := (∀ a j, ¬ (a = ad 9 0 ∧ (j = 1 ∨ j = 3 ∨ j = 5)) → xI X9 a j = xI X a j) ∧ (∀ a j, xJ X9 a j = xJ X a j) ∧ (∀ a j, xR X9 a j = xR X a j) ∧ (∀ a i, a ≠ ad 10 0 → xA X9 a i = xA X a i) ∧ (∀ i, 0 ≤ i → (i < s ∨ s + n ≤ i) → xA X9 (ad 10 0) i = xA X (ad 10 0) i) ∧ (∀ a i, xQ X9 a i = xQ X a i) ∧ (∀ a, xC X9 a = xC X a)
theorem frT_rf {ad : adT} {s n : Int32} {X : xS} : frT ad s n X X := ⟨fun _ _ _ => rfl, fun _ _ => rfl, fun _ _ => rfl, fun _ _ _ => rfl, fun _ _ _ => rfl, fun _ _ => rfl, fun _ => rfl⟩
theorem frT_tr {ad : adT} {s n : Int32} {X Y Z : xS} (h : frT ad s n X Y) (k : frT ad s n Y Z) : frT ad s n X Z :=
  ⟨fun a j z => (k.1 a j z).trans (h.1 a j z), fun a j => (k.2.1 a j).trans (h.2.1 a j), fun a j => (k.2.2.1 a j).trans (h.2.2.1 a j), fun a i z => (k.2.2.2.1 a i z).trans (h.2.2.2.1 a i z), fun i i0 z => (k.2.2.2.2.1 i i0 z).trans (h.2.2.2.2.1 i i0 z), fun a i => (k.2.2.2.2.2.1 a i).trans (h.2.2.2.2.2.1 a i), fun a => (k.2.2.2.2.2.2 a).trans (h.2.2.2.2.2.2 a)⟩
theorem frT_I {ad : adT} {s n v : Int32} {j : Nat} {X : xS} (hj : j = 1 ∨ j = 3 ∨ j = 5) : frT ad s n X (xwI X (ad 9 0) j v) :=
  ⟨fun a k z => by rw [xI_I, if_neg (fun y => z ⟨y.1, by rw [y.2]; exact hj⟩)], fun _ _ => rfl, fun _ _ => rfl, fun _ _ _ => rfl, fun _ _ _ => rfl, fun _ _ => rfl, fun _ => rfl⟩
theorem frT_A {ad : adT} {s n i v : Int32} {X : xS} (hi : 0 ≤ i) (h : s ≤ i ∧ i < s + n) : frT ad s n X (xwA X (ad 10 0) i v) :=
  ⟨fun _ _ _ => rfl, fun _ _ => rfl, fun _ _ => rfl, fun a k z => by rw [xA_A, if_neg (fun y => z y.1)], fun k k0 z => by
    rw [xA_A, if_neg (fun y => by have e := tn_inj k0 hi y.2; subst e; rcases z with w | w <;> grind)], fun _ _ => rfl, fun _ => rfl⟩
theorem frT_RT {ad : adT} {s n : Int32} {S : mS} {X Y : xS} (h : RT ad S X) (f : frT ad s n X Y) : RT ad S Y := by
  obtain ⟨hj, h2, h4, h0, hL, hb, hw⟩ := h
  obtain ⟨f1, f2, f3, f4, f5, f6, f7⟩ := f
  refine ⟨hj, by rw [f1 _ _ (fun z => by have := z.2; omega)]; exact h2, by rw [f3]; exact h4, by rw [f3]; exact h0, hL, fun k k0 k1 => ?_, hw⟩
  rw [f4 _ _ (fun z => absurd (hj _ _ _ _ z).1 (by decide))]; exact hb k k0 k1
theorem store_e {ad : adT} {S : mS} {X : xS} {s v : Int32} (h : RT ad S X) (hs : 0 ≤ s ∧ s < 240) : FC_X10_store X (ad 9 0) s v = xwA X (ad 10 0) s v := by
  rw [FC_X10_store, if_neg (show ¬ s < 0 by clear h; grind)]
  repeat rw [gLt_x]
  rw [h.2.2.2.1, Option.getD_some, if_neg (show ¬ 240 ≤ s by clear h; grind)]
  repeat rw [gLt_x]
theorem inR_X {X Y : xS} {rg v : Int32} : FC_X10_inRange X rg v = FC_X10_inRange Y rg v := by rw [FC_X10_inRange, FC_X10_inRange]
theorem wrong_e {S : mS} (h : gI S 10 < 0) : G_wrong S = (0, sI S 10 (gI S 8)) := by rw [G_wrong, if_neg (by grind), gLt_x]
/-- where the digits begin -/
def ngt (S : mS) (q : Int32) : Bool := decide (q < gI S 7 ∧ gA S 1 q = 45)
def fdg (S : mS) (q : Int32) : Int32 := if ngt S q then q + 1 else q
theorem rdN_e {ad : adT} {S : mS} {X : xS} {q slot rg : Int32} (h : RT ad S X) (h5 : xI X (ad 9 0) 5 = q) (q0 : 0 ≤ q) : FC_X10_readNumber X (ad 9 0) slot rg = L45u (ngt S q) (ad 9 0) slot rg q (fdg S q) 4000 0 (xwI X (ad 9 0) 5 (fdg S q)) := by
  have hc := here_c (c := 45) h h5 q0 (by decide)
  rw [FC_X10_readNumber]
  repeat rw [gLt_x]
  rw [h5]
  by_cases c : FC_X10_here X (ad 9 0) = 45
  · have c2 := c
    rw [hc] at c2
    have e : ngt S q = true := decide_eq_true c2
    rw [if_pos c]
    repeat rw [gLt_x]
    unfold fdg L45u
    rw [e, if_pos rfl, if_pos rfl]
  · have c2 := c
    rw [hc] at c2
    have e : ngt S q = false := decide_eq_false c2
    rw [if_neg c]
    repeat rw [gLt_x]
    unfold fdg L45u
    rw [e, if_neg (by decide), if_neg (by decide), xwI_self h5]
theorem num_e {S : mS} {lo hi : Int32} (h : gI S 10 < 0) (q0 : 0 ≤ gI S 8) : G_number S lo hi = if gI S 9 - fdg S (gI S 8) < 1 then (0, sI S 10 (gI S 8)) else (if gI S 9 - fdg S (gI S 8) ≤ 9 then G_number_L68 S lo hi (if ngt S (gI S 8) then 1 else 0) ((gI S 9 - fdg S (gI S 8)).toInt.toNat + 1) (fdg S (gI S 8)) 0 else (0, sI S 10 (gI S 8))) := by
  rw [G_number, if_pos h]
  repeat rw [gLt_x]
  rw [byteAt_e]
  have J : ∀ k s, G_number_J39 S lo hi k s = if gI S 9 - k < 1 then (0, sI S 10 (gI S 8)) else (if gI S 9 - k ≤ 9 then G_number_L68 S lo hi s ((gI S 9 - k).toInt.toNat + 1) k 0 else (0, sI S 10 (gI S 8))) := fun k s => by
    rw [G_number_J39, wrong_e h, gC_p, gLt_x]
  by_cases c : gI S 8 < gI S 7 ∧ gA S 1 (gI S 8) = 45
  · have e : ngt S (gI S 8) = true := decide_eq_true c
    rw [if_neg (show ¬ gI S 7 ≤ gI S 8 by have := c.1; grind), if_pos c.2, G_number_J29, if_neg (by decide), gLt_x, J]
    unfold fdg
    rw [e, if_pos rfl, if_pos rfl]
  · have e : ngt S (gI S 8) = false := decide_eq_false c
    have n : ¬ (if gI S 7 ≤ gI S 8 then (-1 : Int32) else gA S 1 (gI S 8)) = 45 := by
      by_cases y : gI S 7 ≤ gI S 8
      · rw [if_pos y]; decide
      · rw [if_neg y]; exact fun z => c ⟨by grind, z⟩
    rw [if_neg n, G_number_J29, if_pos rfl, J]
    unfold fdg
    rw [e, if_neg (show ¬ (false = true) by decide), if_neg (show ¬ (false = true) by decide)]
/-- a piece that isn't all digits is no number -/
theorem L68_w {S : mS} {lo hi s : Int32} (h : gI S 10 < 0) (eL : gI S 9 ≤ 1600) : ∀ (N : Nat) (p w : Int32), 0 ≤ p → p ≤ gI S 9 → (gI S 9 - p).toInt.toNat < N → (∃ i, p ≤ i ∧ i < gI S 9 ∧ ¬ dg (gA S 1) i) → G_number_L68 S lo hi s N p w = (0, sI S 10 (gI S 8)) := by
  intro N
  induction N with
  | zero => intro p w _ _ h; exact absurd h (Nat.not_lt_zero _)
  | succ N ih =>
    intro p w p0 pe hN hx
    obtain ⟨i, i0, i1, i2⟩ := hx
    rw [G_number_L68, if_neg (show ¬ gI S 9 ≤ p by clear ih; grind)]
    by_cases d : dg (gA S 1) p
    · rw [in_1 (show 48 ≤ gA S 1 p ∧ gA S 1 p ≤ 57 from d), gLt_x, if_neg (by decide), gLt_x, gLt_x]
      have ne : i ≠ p := fun z => i2 (by rw [z]; exact d)
      exact ih (p + 1) _ (by clear ih; grind) (by clear ih; grind) (msd hN (by clear ih; grind) (by clear ih; grind)) ⟨i, by clear ih; grind, i1, i2⟩
    · rw [in_0 (show ¬ (48 ≤ gA S 1 p ∧ gA S 1 p ≤ 57) from d), gLt_x, if_pos rfl, wrong_e h, gC_p]
theorem pw9 {m y : Nat} (m9 : m ≤ 9) (h : y < 10 ^ m) : y ≤ 999999999 := by
  have : 10 ^ m ≤ 10 ^ 9 := Nat.pow_le_pow_right (by decide) m9
  omega
theorem sgn_b {neg : Bool} {y : Nat} (h : y ≤ 999999999) : -999999999 ≤ sgn neg (nI y) ∧ sgn neg (nI y) ≤ 999999999 := by
  have a : 0 ≤ nI y := nI_pos' (by omega)
  have b : nI y ≤ 999999999 := by have := nI_le (a := y) (b := 999999999) h (by decide); exact this
  generalize nI y = z at a b
  unfold sgn
  cases neg
  · exact ⟨by simp; grind, by simpa using b⟩
  · exact ⟨by simp; grind, by simp; grind⟩
/-- a number in both -/
theorem t_num {ad : adT} {S : mS} {X : xS} {q slot rg lo hi : Int32} (h : RT ad S X) (h5 : xI X (ad 9 0) 5 = q) (q0 : 0 ≤ q) (qL : q ≤ gI S 7) (h8 : gI S 8 = q) (hT : tkE (gI S 7) (gA S 1) q (gI S 9)) (h10 : gI S 10 < 0) (hs : 0 ≤ slot ∧ slot < 240)
    (hR : ∀ v, -999999999 ≤ v → v ≤ 999999999 → (FC_X10_inRange X rg v = 0 ↔ ¬ (lo ≤ v ∧ v ≤ hi))) :
    (∃ v, FC_X10_readNumber X (ad 9 0) slot rg = (1, xwA (xwI X (ad 9 0) 5 (gI S 9)) (ad 10 0) slot v) ∧ G_number S lo hi = (v, G_next S)) ∨
    (G_number S lo hi = (0, sI S 10 q) ∧ ((FC_X10_readNumber X (ad 9 0) slot rg).1 = 0 ∨ ((FC_X10_readNumber X (ad 9 0) slot rg).1 = 1 ∧ stk S (xI (FC_X10_readNumber X (ad 9 0) slot rg).2 (ad 9 0) 5))) ∧ frT ad slot 1 X (FC_X10_readNumber X (ad 9 0) slot rg).2) := by
  have hL := h.2.2.2.2.1
  have er := tk_r hT q0 qL hL.2
  have ng : ngt S q = true → q < gI S 7 ∧ gA S 1 q = 45 := fun z => of_decide_eq_true z
  have hk : q ≤ fdg S q ∧ fdg S q ≤ gI S 7 ∧ (fdg S q = q ∨ (fdg S q = q + 1 ∧ q < gI S 7 ∧ gA S 1 q = 45)) := by
    unfold fdg
    cases e : ngt S q with
    | false => rw [if_neg (by decide)]; exact ⟨Int32.le_refl _, qL, Or.inl rfl⟩
    | true =>
      have z := ng e
      rw [if_pos rfl]
      exact ⟨by have := z.1; clear h hT hR; grind, by have := z.1; clear h hT hR; grind, Or.inr ⟨rfl, z⟩⟩
  have hf : ngt S q = false → q = fdg S q := fun z => by unfold fdg; rw [z, if_neg (by decide)]
  have h1 := RT_at (j := 5) (v := fdg S q) h (by decide)
  have k5 : xI (xwI X (ad 9 0) 5 (fdg S q)) (ad 9 0) 5 = fdg S q := by simp [xI_I]
  rw [rdN_e h h5 q0, num_e h10 (by rw [h8]; exact q0), h8]
  generalize hke : fdg S q = k at *
  have k0 : 0 ≤ k := by have := hk.1; clear h hT hR h1; grind
  by_cases A : ¬ gI S 9 - k < 1 ∧ gI S 9 - k ≤ 9 ∧ ∀ i, k ≤ i → i < gI S 9 → dg (gA S 1) i
  · obtain ⟨A1, A2, A3⟩ := A
    rw [if_neg A1, if_pos A2]
    have a2 := er.2.1
    have a1 := er.1
    have ke : k < gI S 9 := by have := hk.2; clear h hT hR h1 A3; grind
    have hs9 : gI S 9 = gI S 7 ∨ ¬ dg (gA S 1) (gI S 9) := by
      rcases hT with z | z
      · exfalso
        have kq : k = q := by
          rcases hk.2.2 with w | w
          · exact w
          · rw [z.2.1] at w; exact absurd w.2.2 (by decide)
        have d := A3 k (Int32.le_refl _) ke
        rw [kq] at d
        exact dg59 d z.2.1
      · rcases z.2.2.2.2 with w | w | w
        · exact Or.inl w
        · exact Or.inr (fun y => dg32 y w)
        · exact Or.inr (fun y => dg59 y w)
    obtain ⟨m, hm⟩ := i32f (q := gI S 9 - k) (n := 10) (m := 10) (by clear h hT hR h1 A3 hk; grind) (by clear h hT hR h1 A3 hk; grind) (by decide)
    have hm9 : gI S 9 = k + nI m.val := by rw [← hm]; clear h hT hR h1 A3 hk; grind
    have m9 : m.val ≤ 9 := by have := m.isLt; omega
    have tn : (gI S 9 - k).toInt.toNat = m.val := by
      rw [hm, nI_toInt (by omega)]; omega
    obtain ⟨y, y1, y2, y3⟩ := dgA (slot := slot) (rg := rg) (lo := lo) (hi := hi) hf k0 (by clear h hT hR h1 A3; grind) hL.2 A3 a2 hs9 m.val hm9 m9 0 4000 ((gI S 9 - k).toInt.toNat + 1) 0 (xwI X (ad 9 0) 5 k) (Nat.zero_le _) h1 (by rw [k5, show nI 0 = 0 by decide]; grind) (by decide) (by omega) (by omega)
    rw [show nI 0 = 0 by decide] at y2 y3
    rw [show k + 0 = k by grind] at y3
    rw [xwI_w] at y2
    rw [y2, y3]
    have vb := sgn_b (neg := ngt S q) (pw9 m9 y1)
    have rr := hR _ vb.1 vb.2
    have e5 : xI (xwI X (ad 9 0) 5 (gI S 9)) (ad 9 0) 5 = gI S 9 := by simp [xI_I]
    rw [nT, e5, if_neg (show ¬ gI S 9 = k by clear h hT hR h1 A3 rr; grind), inR_X (Y := X), G_number_J130]
    by_cases c : FC_X10_inRange X rg (sgn (ngt S q) (nI y)) = 0
    · rw [if_pos c, in_0 (rr.mp c), gLt_x, if_pos rfl, wrong_e h10, gC_p, h8]
      exact Or.inr ⟨rfl, Or.inl rfl, frT_tr (frT_I (by simp)) (frT_I (by simp))⟩
    · have cin : lo ≤ sgn (ngt S q) (nI y) ∧ sgn (ngt S q) (nI y) ≤ hi := Classical.byContradiction (fun z => c (rr.mpr z))
      rw [if_neg c, in_1 cin, gLt_x, if_neg (by decide), gLt_x, store_e (RT_at h (by decide)) hs]
      exact Or.inl ⟨_, rfl, rfl⟩
  · have gw : (if gI S 9 - k < 1 then ((0 : Int32), sI S 10 q) else (if gI S 9 - k ≤ 9 then G_number_L68 S lo hi (if ngt S q then 1 else 0) ((gI S 9 - k).toInt.toNat + 1) k 0 else (0, sI S 10 q))) = (0, sI S 10 q) := by
      by_cases b1 : gI S 9 - k < 1
      · rw [if_pos b1]
      · rw [if_neg b1]
        by_cases b2 : gI S 9 - k ≤ 9
        · rw [if_pos b2]
          have ex : ∃ i, k ≤ i ∧ i < gI S 9 ∧ ¬ dg (gA S 1) i := Classical.byContradiction (fun z => A ⟨b1, b2, fun i i0 i1 => Classical.byContradiction (fun y => z ⟨i, i0, i1, y⟩)⟩)
          have r := L68_w (lo := lo) (hi := hi) (s := if ngt S q then 1 else 0) h10 (by have := er.2.1; clear h hT hR h1 A; grind) ((gI S 9 - k).toInt.toNat + 1) k 0 k0 (by obtain ⟨i, i0, i1, -⟩ := ex; clear h hT hR h1 A; grind) (Nat.lt_succ_self _) ex
          rw [h8] at r; exact r
        · rw [if_neg b2]
    rw [gw]
    refine Or.inr ⟨rfl, ?_⟩
    obtain ⟨e1, v, d1, d2, d3, d4, d5, d6⟩ := dgX (slot := slot) (rg := rg) hf k0 4000 k 0 (xwI X (ad 9 0) 5 k) h1 k5 (Int32.le_refl _) hk.2.1 (by clear h hT hR h1 A gw; grind) (by
      rw [show (9 - (k - k) : Int32) = 9 by grind]; decide) (fun i i0 i1 => by exfalso; clear h hT hR h1 A gw; grind)
    rw [d6, xwI_w, nT]
    have e5 : xI (xwI X (ad 9 0) 5 e1) (ad 9 0) 5 = e1 := by simp [xI_I]
    rw [e5]
    by_cases c : e1 = k
    · rw [if_pos c]; exact ⟨Or.inl rfl, frT_tr (frT_I (by simp)) (frT_I (by simp))⟩
    · rw [if_neg c]
      by_cases c2 : FC_X10_inRange (xwI X (ad 9 0) 5 e1) rg v = 0
      · rw [if_pos c2]; exact ⟨Or.inl rfl, frT_tr (frT_I (by simp)) (frT_I (by simp))⟩
      · rw [if_neg c2, store_e (RT_at h (by decide)) hs]
        have ke : k < e1 := by clear h hT hR h1 A gw d4 d5 d6; grind
        have kd := d4 k (Int32.le_refl _) ke
        refine ⟨Or.inr ⟨rfl, ?_⟩, frT_tr (frT_I (by simp)) (frT_A hs.1 (by clear h hT hR h1 A gw d4 d5 d6; grind))⟩
        rw [xI_A, e5]
        have n59 : ¬ (q < gI S 7 ∧ gA S 1 q = 59) := fun z => by
          rcases hk.2.2 with w | w
          · rw [w] at kd; exact dg59 kd z.2
          · rw [z.2] at w; exact absurd w.2.2 (by decide)
        rcases hT with z | z
        · exact absurd ⟨z.1, z.2.1⟩ n59
        · obtain ⟨-, t1, t2, t3, t4⟩ := z
          have le : e1 ≤ gI S 9 := by
            rcases (show e1 ≤ gI S 9 ∨ gI S 9 < e1 by clear h hR h1 A gw d4 d5 d6 t3 t4; grind) with w | w
            · exact w
            · exfalso
              have nl : ¬ gI S 9 = gI S 7 := by clear h hR h1 A gw d4 d5 d6 t3 t4; grind
              have bb : dg (gA S 1) (gI S 9) ∨ gA S 1 (gI S 9) = 45 := by
                by_cases y : k ≤ gI S 9
                · exact Or.inl (d4 _ y w)
                · rcases hk.2.2 with u | u
                  · exfalso; clear h hR h1 A gw d4 d5 d6 t3 t4; grind
                  · have eq : gI S 9 = q := by clear h hR h1 A gw d4 d5 d6 t3 t4; grind
                    rw [eq]; exact Or.inr u.2.2
              rcases t4 with u | u | u
              · exact nl u
              · rcases bb with v9 | v9
                · exact dg32 v9 u
                · rw [u] at v9; exact absurd v9 (by decide)
              · rcases bb with v9 | v9
                · exact dg59 v9 u
                · rw [u] at v9; exact absurd v9 (by decide)
          have ne : e1 ≠ gI S 9 := fun y => A ⟨by clear h hR h1 A gw d4 d5 d6 t3 t4; grind, by rw [← y]; exact d3, fun i i0 i1 => d4 i i0 (by rw [y]; exact i1)⟩
          have lt : e1 < gI S 9 := by clear h hR h1 A gw d4 d5 d6 t3 t4; grind
          have tt := t3 e1 (by have := hk.1; clear h hR h1 A gw d4 d5 d6 t3 t4; grind) lt
          exact ⟨by clear h hR h1 A gw d4 d5 d6 t3 t4; grind, by clear h hR h1 A gw d4 d5 d6 t3 t4; grind, tt.1, tt.2⟩

/-! reading a PROGRAM, both side by side: all of it -/
def cOk9 (ad : adT) (i : Int32) (S : mS) (X : xS) : Prop := ∀ k, 0 ≤ k → k < i → cM (xA X (ad 10 0)) k (gA S 5 (4 * k)) (gA S 5 (4 * k + 1)) (gA S 5 (4 * k + 2)) (gA S 5 (4 * k + 3))
def RdR (ad : adT) (X : xS) (r : Int32 × xS) (T : mS) : Prop :=
  frT ad 0 240 X r.2 ∧ ((r.1 = 1 ∧ gI T 10 < 0 ∧ xI r.2 (ad 9 0) 1 = gI T 6 ∧ (0 ≤ gI T 6 ∧ gI T 6 ≤ 60) ∧ cOk9 ad (gI T 6) T r.2) ∨ (r.1 = 0 ∧ 0 ≤ gI T 10))
theorem k4 {k i : Int32} (k0 : 0 ≤ k) (h : k < i) (hi : 0 ≤ i ∧ i < 60) : (0 ≤ 4 * k ∧ 4 * k < 4 * i) ∧ (0 ≤ 4 * k + 1 ∧ 4 * k + 1 < 4 * i) ∧ (0 ≤ 4 * k + 2 ∧ 4 * k + 2 < 4 * i) ∧ (0 ≤ 4 * k + 3 ∧ 4 * k + 3 < 4 * i) := by grind
theorem cOk_s {ad : adT} {i : Int32} {S T : mS} {X X2 : xS} (hi : 0 ≤ i ∧ i < 60) (h : cOk9 ad i S X) (f : frT ad (4 * i) 4 X X2) (eA : ∀ x, 0 ≤ x → (x < 4 * i ∨ 4 * i + 4 ≤ x) → gA T 5 x = gA S 5 x) (c : cM (xA X2 (ad 10 0)) i (gA T 5 (4 * i)) (gA T 5 (4 * i + 1)) (gA T 5 (4 * i + 2)) (gA T 5 (4 * i + 3))) : cOk9 ad (i + 1) T X2 := by
  intro k k0 k1
  by_cases z : k = i
  · subst z; exact c
  · have kl : k < i := by clear h f eA c; grind
    have q := k4 k0 kl hi
    have o := h k k0 kl
    have f5 := f.2.2.2.2.1
    unfold cM at o ⊢
    rw [eA _ q.1.1 (Or.inl q.1.2), eA _ q.2.1.1 (Or.inl q.2.1.2), eA _ q.2.2.1.1 (Or.inl q.2.2.1.2), eA _ q.2.2.2.1 (Or.inl q.2.2.2.2), f5 _ q.1.1 (Or.inl q.1.2), f5 _ q.2.1.1 (Or.inl q.2.1.2), f5 _ q.2.2.1.1 (Or.inl q.2.2.1.2), f5 _ q.2.2.2.1 (Or.inl q.2.2.2.2)]
    exact o
theorem L36_b {T : mS} (h : 0 ≤ gI T 10) : ∀ M, G_read_L36 M T = T
  | 0 => by rw [G_read_L36]
  | M + 1 => by rw [G_read_L36, if_pos h]
theorem sk_n {L p : Int32} {b : Int32 → Int32} (pL : p ≤ L) (h : p = L ∨ b p ≠ 32) : isSk L b p p := ⟨Int32.le_refl _, pL, fun _ k0 k1 => (Int32.lt_irrefl (Int32.lt_of_le_of_lt k0 k1)).elim, h⟩
theorem fr_all {ad : adT} {i : Int32} {X Y : xS} (hi : 0 ≤ i ∧ i < 60) (f : frT ad (4 * i) 4 X Y) : frT ad 0 240 X Y := frT_wk f (fun k k0 z => by clear f; grind)
section RD
variable {ad : adT}
/-- an instruction's end of the class -/
def aft (o : Nat) (N : Nat) (w : Int32) (X : xS) : Int32 × xS := gLt (FC_X10_skipBlanks X o : xS) (fun Xf28 => gLt (xI Xf28 o 5 : Int32) (fun v31_5 => gLt (xI Xf28 o 2 : Int32) (fun ψ => if (v31_5 : Int32) < ψ then (gLt (FC_X10_here Xf28 o : Int32) (fun r35 => if (r35 : Int32) = 59 then (gLt ((v31_5 + 1) : Int32) (fun x37 => gLt (xwI Xf28 o 5 x37 : xS) (fun Xf38 => gLt (w + (1) : Int32) (fun x41 => FC_X10_read_L12 o N x41 Xf38)))) else (gC (FC_X10_broken Xf28 o v31_5) (fun r44 Xf42 => ((r44 : Int32), Xf42))))) else (gLt ((w + 1) : Int32) (fun x45 => gLt (xwI Xf28 o 1 x45 : xS) (fun Xf46 => ((1 : Int32), Xf46)))))))
theorem L12_s {o N : Nat} {w : Int32} {X : xS} (h : ¬ 60 ≤ w) : FC_X10_read_L12 o (N + 1) w X = if (FC_X10_readInstruction (FC_X10_skipBlanks X o) o (w * 4)).1 = 0 then (0, (FC_X10_readInstruction (FC_X10_skipBlanks X o) o (w * 4)).2) else aft o N w (FC_X10_readInstruction (FC_X10_skipBlanks X o) o (w * 4)).2 := by
  rw [FC_X10_read_L12, if_neg h, gLt_x, gC_pr]
  unfold aft
  exact rfl
theorem aft_e {S : mS} {X : xS} {N : Nat} {w p q : Int32} (h : RT ad S X) (h5 : xI X (ad 9 0) 5 = p) (p0 : 0 ≤ p) (pL : p ≤ gI S 7) (hq : isSk (gI S 7) (gA S 1) p q) : aft (ad 9 0) N w X = if q < gI S 7 then (if gA S 1 q = 59 then FC_X10_read_L12 (ad 9 0) N (w + 1) (xwI X (ad 9 0) 5 (q + 1)) else (0, xwI (xwI X (ad 9 0) 5 q) (ad 9 0) 3 q)) else (1, xwI (xwI X (ad 9 0) 5 q) (ad 9 0) 1 (w + 1)) := by
  obtain ⟨q2, k1, k2⟩ := skX_e h h5 p0 pL
  have eq := sk_u k1 hq
  subst eq
  have R := RT_at (j := 5) (v := q2) h (by decide)
  have x5 : xI (xwI X (ad 9 0) 5 q2) (ad 9 0) 5 = q2 := by simp [xI_I]
  have q0 : 0 ≤ q2 := Int32.le_trans p0 hq.1
  rw [aft, k2, gLt_x, gLt_x, gLt_x, x5, R.2.1]
  by_cases c : q2 < gI S 7
  · have hc := here_c (c := 59) R x5 q0 (by decide)
    rw [if_pos c, if_pos c, gLt_x]
    by_cases d : gA S 1 q2 = 59
    · rw [if_pos d, if_pos (show FC_X10_here (xwI X (ad 9 0) 5 q2) (ad 9 0) = 59 by rw [hc]; exact ⟨c, d⟩), gLt_x, gLt_x, gLt_x, xwI_w]
    · rw [if_neg d, if_neg (show ¬ FC_X10_here (xwI X (ad 9 0) 5 q2) (ad 9 0) = 59 by rw [hc]; exact fun z => d z.2), brk_e, gC_p]
  · rw [if_neg c, if_neg c, gLt_x, gLt_x]
theorem rdL : ∀ (N : Nat) (i p : Int32) (X : xS) (S : mS) (M : Nat), RT ad S X → xI X (ad 9 0) 5 = p → 0 ≤ p → p ≤ gI S 7 → isSk (gI S 7) (gA S 1) p (gI S 8) → tkE (gI S 7) (gA S 1) (gI S 8) (gI S 9) → (gI S 8 < gI S 7 → gI S 8 < gI S 9) → gI S 10 < 0 → gI S 6 = i → 0 ≤ i → i ≤ 60 → (60 - i).toInt.toNat < N →
    (if gI (G_line S) 10 < 0 then gI (G_line S) 7 - gI (G_line S) 8 + 1 else 0).toInt.toNat < M → (∀ k, 0 ≤ k → k < gI S 6 → 2 ≤ gA S 5 (4 * k) → gA S 5 (4 * k) ≤ 4 → 0 ≤ gA S 5 (4 * k + 1)) → cOk9 ad i S X → RdR ad X (FC_X10_read_L12 (ad 9 0) N i X) (G_read_L36 M (G_line S)) := by
  intro N
  induction N with
  | zero => intro i p X S M _ _ _ _ _ _ _ _ _ _ _ h; exact absurd h (Nat.not_lt_zero _)
  | succ N ih =>
    intro i p X S M h h5 p0 pL hk hT hlt h10 h6 i0 i6 hN hM h3 hcd
    have hL := h.2.2.2.2.1
    have q0 : 0 ≤ gI S 8 := Int32.le_trans p0 hk.1
    have er := tk_r hT q0 hk.2.1 hL.2
    obtain ⟨q2, k1, k2⟩ := skX_e h h5 p0 pL
    have eq := sk_u k1 hk
    subst eq
    have R := RT_at (j := 5) (v := gI S 8) h (by decide)
    have x5 : xI (xwI X (ad 9 0) 5 (gI S 8)) (ad 9 0) 5 = gI S 8 := by simp [xI_I]
    by_cases c60 : i = 60
    · have e : G_line S = sI S 10 (gI S 8) := line_b h10 (Or.inl (h6.trans c60))
      have b : 0 ≤ gI (sI S 10 (gI S 8)) 10 := by rw [gI_sI, if_pos rfl]; exact q0
      rw [e, L36_b b, FC_X10_read_L12, if_pos (show 60 ≤ i by rw [c60]; decide), k2, gLt_x, gLt_x, brk_e, gC_p]
      exact ⟨frT_tr (frT_I (by simp)) (frT_I (by simp)), Or.inr ⟨rfl, b⟩⟩
    · have hi : 0 ≤ i ∧ i < 60 := ⟨i0, by clear ih h hT hk h3 hcd R k1; grind⟩
      have pl := p_line S ⟨q0, er.1, er.2.1, hL.2, hlt⟩ ⟨by rw [h6]; exact i0, by rw [h6]; exact i6⟩ h3 (G_line S) rfl
      obtain ⟨p1, p2, p3, p4, p5, p6, p7, p8, p9, p10, p11, p12, p13, p14⟩ := pl
      have tl := t_line R x5 q0 hk.2.1 rfl hT h10 h6 hi
      rw [L12_s (show ¬ 60 ≤ i by have := hi.2; clear ih h hT hk h3 hcd R k1 tl; grind), k2]
      have e7 : gI (G_line S) 7 = gI S 7 := p11 7 (by decide) (by decide) (by decide) (by decide)
      have e1 : ∀ i, gA (G_line S) 1 i = gA S 1 i := fun i => p13 1 i (by decide)
      generalize FC_X10_readInstruction (xwI X (ad 9 0) 5 (gI S 8)) (ad 9 0) (i * 4) = r at tl ⊢
      have f0 : frT ad 0 240 X (xwI X (ad 9 0) 5 (gI S 8)) := frT_I (by simp)
      rcases tl with ⟨pp, t1, t2, t3, t4, t5, t6⟩ | ⟨b1, b2, b3⟩
      · obtain ⟨T2, T5, Tp, Thp, Tk, TT, T10⟩ := t2
        have f1 : frT ad 0 240 X r.2 := frT_tr f0 (fr_all hi t5)
        rw [if_neg (show ¬ r.1 = 0 by rw [t1]; decide), aft_e T2 T5 Tp.1 Tp.2 Tk]
        rw [if_pos T10] at hM
        have cd : cOk9 ad (i + 1) (G_line S) r.2 := cOk_s hi hcd (frT_tr (frT_I (by simp)) t5) t6 t4
        cases M with
        | zero => exact absurd hM (Nat.not_lt_zero _)
        | succ M =>
          rw [G_read_L36, if_neg (show ¬ 0 ≤ gI (G_line S) 10 by clear ih h hT hk h3 hcd R k1 T2 Tk TT cd t4 t5; grind)]
          by_cases a : gI (G_line S) 8 < gI (G_line S) 7
          · rw [if_pos a, if_neg (show ¬ gI (G_line S) 7 ≤ gI (G_line S) 8 from Int32.not_le.mpr a)]
            by_cases d : gA (G_line S) 1 (gI (G_line S) 8) = 59
            · rw [if_pos d, if_pos d, gLt_x, gLt_x]
              have e9 : gI (G_line S) 9 = gI (G_line S) 8 + 1 := by
                rcases TT with z | z
                · exact z.2.2
                · exact absurd ⟨a, d⟩ z.1
              have L16 : gI (G_line S) 7 ≤ 1600 := p4
              have b9 : 0 ≤ gI (G_line S) 9 ∧ gI (G_line S) 9 ≤ gI (G_line S) 7 := ⟨Int32.le_trans p1 p2, p3⟩
              obtain ⟨q3, e3, n1, n2, n3⟩ := next_e (S := G_line S) b9.1 b9.2 L16
              have pn := p_next (G_line S) ⟨b9.1, b9.2, L16⟩ (G_next (G_line S)) rfl
              have g7 : gI (G_next (G_line S)) 7 = gI (G_line S) 7 := by rw [n3]; simp [gI_sI]
              have g8 : gI (G_next (G_line S)) 8 = q3 := by rw [n3]; simp [gI_sI]
              have g9 : gI (G_next (G_line S)) 9 = e3 := by rw [n3]; simp [gI_sI]
              have g10 : gI (G_next (G_line S)) 10 = gI (G_line S) 10 := by rw [n3]; simp [gI_sI]
              have g6 : gI (G_next (G_line S)) 6 = gI (G_line S) 6 := by rw [n3]; simp [gI_sI]
              have gA9 : ∀ k i, gA (G_next (G_line S)) k i = gA (G_line S) k i := fun _ _ => by rw [n3]; rfl
              have gA1 : gA (G_next (G_line S)) 1 = gA (G_line S) 1 := funext (gA9 1)
              have gL9 : ∀ k, gL (G_next (G_line S)) 4 k = gL (G_line S) 4 k := fun _ => by rw [n3]; rfl
              have h3n : ∀ k, 0 ≤ k → k < gI (G_next (G_line S)) 6 → 2 ≤ gA (G_next (G_line S)) 5 (4 * k) → gA (G_next (G_line S)) 5 (4 * k) ≤ 4 → 0 ≤ gA (G_next (G_line S)) 5 (4 * k + 1) := by
                simp only [g6, gA9]; exact p10
              have hltn : gI (G_next (G_line S)) 8 < gI (G_next (G_line S)) 7 → gI (G_next (G_line S)) 8 < gI (G_next (G_line S)) 9 := pn.2.2.2.2.1
              have pl2 := p_line (G_next (G_line S)) ⟨pn.1, pn.2.1, pn.2.2.1, pn.2.2.2.1, hltn⟩ ⟨by rw [g6]; exact p7, by rw [g6]; exact p8⟩ h3n (G_line (G_next (G_line S))) rfl
              obtain ⟨u1, u2, u3, u4, u5, u6, u7, u8, u9, u10, u11, u12, u13, u14⟩ := pl2
              have v7 : gI (G_line (G_next (G_line S))) 7 = gI (G_line S) 7 := (u11 7 (by decide) (by decide) (by decide) (by decide)).trans g7
              have mM : (if gI (G_line (G_next (G_line S))) 10 < 0 then gI (G_line (G_next (G_line S))) 7 - gI (G_line (G_next (G_line S))) 8 + 1 else 0).toInt.toNat < M := by
                refine msd hM ?_ ?_
                · split
                  · clear ih h hT hk h3 hcd R k1 T2 Tk TT cd t4 t5 n1 n2 n3 h3n p10 u10; grind
                  · decide
                · have w := pn.2.2.2.2.2.1
                  split
                  · clear ih h hT hk h3 hcd R k1 T2 Tk TT cd t4 t5 n1 n2 n3 h3n p10 u10; grind
                  · clear ih h hT hk h3 hcd R k1 T2 Tk TT cd t4 t5 n1 n2 n3 h3n p10 u10; grind
              have Rn : RT ad (G_next (G_line S)) (xwI r.2 (ad 9 0) 5 (gI (G_line S) 8 + 1)) := RT_S (RT_at T2 (by decide)) g7 (gA9 1) gL9
              have go := ih (i + 1) (gI (G_line S) 8 + 1) (xwI r.2 (ad 9 0) 5 (gI (G_line S) 8 + 1)) (G_next (G_line S)) M Rn (by simp [xI_I]) (by rw [← e9]; exact b9.1) (by rw [← e9, g7]; exact b9.2) (by rw [← e9, g7, g8, gA1]; exact n1) (by rw [g7, g8, g9, gA1]; exact n2) hltn (by rw [g10]; exact T10) (by rw [g6]; exact t3) (by have := hi.2; clear ih h hT hk h3 hcd R k1 T2 Tk TT cd t4 t5 n1 n2 n3 h3n p10 u10; grind) (by have := hi.2; clear ih h hT hk h3 hcd R k1 T2 Tk TT cd t4 t5 n1 n2 n3 h3n p10 u10; grind) (msd hN (by have := hi.2; clear ih h hT hk h3 hcd R k1 T2 Tk TT cd t4 t5 n1 n2 n3 h3n p10 u10; grind) (by have := hi.2; clear ih h hT hk h3 hcd R k1 T2 Tk TT cd t4 t5 n1 n2 n3 h3n p10 u10; grind)) mM h3n (fun k k0 k1 => by
                have o := cd k k0 k1
                simp only [gA9]; exact o)
              exact ⟨frT_tr f1 (frT_tr (frT_I (by simp)) go.1), go.2⟩
            · rw [if_neg d, if_neg d, wrong_e T10, gC_p]
              have b : 0 ≤ gI (sI (G_line S) 10 (gI (G_line S) 8)) 10 := by rw [gI_sI, if_pos rfl]; exact p1
              rw [L36_b b]
              exact ⟨frT_tr f1 (frT_tr (frT_I (by simp)) (frT_I (by simp))), Or.inr ⟨rfl, b⟩⟩
          · rw [if_neg a, if_pos (show gI (G_line S) 7 ≤ gI (G_line S) 8 from Int32.not_lt.mp a)]
            refine ⟨frT_tr f1 (frT_tr (frT_I (by simp)) (frT_I (by simp))), Or.inl ⟨rfl, T10, ?_, ⟨p7, p8⟩, ?_⟩⟩
            · rw [t3]; simp [xI_I]
            · rw [t3]; exact fun k k0 k1 => cd k k0 k1
      · rw [L36_b b1]
        have f1 : frT ad 0 240 X r.2 := frT_tr f0 (fr_all hi b3)
        by_cases r0 : r.1 = 0
        · rw [if_pos r0]
          exact ⟨f1, Or.inr ⟨rfl, b1⟩⟩
        · rw [if_neg r0]
          rcases b2 with b2 | b2
          · exact absurd b2 r0
          · obtain ⟨-, s0, s1, s2, s3⟩ := b2
            rw [aft_e (frT_RT h f1) rfl s0 (Int32.le_of_lt s1) (sk_n (Int32.le_of_lt s1) (Or.inr s2)), if_pos s1, if_neg s3]
            exact ⟨frT_tr f1 (frT_tr (frT_I (by simp)) (frT_I (by simp))), Or.inr ⟨rfl, b1⟩⟩
/-- the PROGRAM of both -/
theorem t_read {e : Int32} {S : mS} {X : xS} (h : Rel ad e S X) (hb : 0 ≤ gI S 2 ∧ gI S 2 ≤ 1600) : RdR ad X (FC_X10_read X (ad 9 0)) (G_read S) := by
  obtain ⟨hj, -, ⟨z1, z2, z3, z4, z5⟩, -⟩ := h
  rw [FC_X10_read, gLt_x, gLt_x, gLt_x, gLt_x, G_read]
  repeat rw [gLt_x]
  obtain ⟨S5, hS5⟩ : ∃ S5, S5 = sI (sI (sI (sI (sI S 7 (gI S 2)) 2 0) 9 0) 6 0) 10 (-1) := ⟨_, rfl⟩
  rw [← hS5]
  have a7 : gI S5 7 = gI S 2 := by rw [hS5]; simp [gI_sI]
  have a9 : gI S5 9 = 0 := by rw [hS5]; simp [gI_sI]
  have a6 : gI S5 6 = 0 := by rw [hS5]; simp [gI_sI]
  have a10 : gI S5 10 = -1 := by rw [hS5]; simp [gI_sI]
  have aA : ∀ k i, gA S5 k i = gA S k i := fun _ _ => by rw [hS5]; rfl
  have aL : ∀ k i, gL S5 k i = gL S k i := fun _ _ => by rw [hS5]; rfl
  have R5 : RT ad S5 X := ⟨hj, by rw [a7]; exact z2, z3, z1, by rw [a7]; exact hb, fun i i0 i1 => by rw [aA]; exact z4 i i0 (by rw [← a7]; exact i1), fun k k0 k1 => by rw [aL]; exact z5 k k0 k1⟩
  have R6 : RT ad S5 (xwI (xwI X (ad 9 0) 5 0) (ad 9 0) 3 (-1)) := RT_at (RT_at R5 (by decide)) (by decide)
  have b9 : 0 ≤ gI S5 9 ∧ gI S5 9 ≤ gI S5 7 := by rw [a9, a7]; exact ⟨by decide, hb.1⟩
  have L16 : gI S5 7 ≤ 1600 := by rw [a7]; exact hb.2
  obtain ⟨q3, e3, n1, n2, n3⟩ := next_e (S := S5) b9.1 b9.2 L16
  have pn := p_next S5 ⟨b9.1, b9.2, L16⟩ (G_next S5) rfl
  have g7 : gI (G_next S5) 7 = gI S5 7 := by rw [n3]; simp [gI_sI]
  have g8 : gI (G_next S5) 8 = q3 := by rw [n3]; simp [gI_sI]
  have g9 : gI (G_next S5) 9 = e3 := by rw [n3]; simp [gI_sI]
  have g10 : gI (G_next S5) 10 = -1 := by rw [n3]; simpa [gI_sI] using a10
  have g6 : gI (G_next S5) 6 = 0 := by rw [n3]; simpa [gI_sI] using a6
  have gA9 : ∀ k i, gA (G_next S5) k i = gA S5 k i := fun _ _ => by rw [n3]; rfl
  have gA1 : gA (G_next S5) 1 = gA S5 1 := funext (gA9 1)
  have gL9 : ∀ k, gL (G_next S5) 4 k = gL S5 4 k := fun _ => by rw [n3]; rfl
  have go := rdL (ad := ad) (((60 : Int32) - 0).toInt.toNat + 1) 0 0 (xwI (xwI X (ad 9 0) 5 0) (ad 9 0) 3 (-1)) (G_next S5) ((if gI (G_line (G_next S5)) 10 < 0 then gI (G_line (G_next S5)) 7 - gI (G_line (G_next S5)) 8 + 1 else 0).toInt.toNat + 1) (RT_S R6 g7 (gA9 1) gL9) (by simp [xI_I]) (by decide) (by rw [g7]; rw [a9] at b9; exact b9.2) (by rw [g7, g8, gA1]; rw [a9] at n1; exact n1) (by rw [g7, g8, g9, gA1]; exact n2) pn.2.2.2.2.1 (by rw [g10]; decide) g6 (by decide) (by decide) (Nat.lt_succ_self _) (Nat.lt_succ_self _) (fun k k0 k1 => by
    rw [g6] at k1; exact (Int32.lt_irrefl (Int32.lt_of_le_of_lt k0 k1)).elim) (fun k k0 k1 => (Int32.lt_irrefl (Int32.lt_of_le_of_lt k0 k1)).elim)
  exact ⟨frT_tr (frT_tr (frT_I (by simp)) (frT_I (by simp))) go.1, go.2⟩
end RD

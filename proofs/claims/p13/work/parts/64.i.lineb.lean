/-! reading a PROGRAM, both side by side: an INSTRUCTION from its word on -/
/-- the class behind the letters -/
def rI (X : xS) (o : Nat) (i q : Int32) : Int32 × xS := gLt (FC_X10_wordAt X o q : Int32) (fun r6 => if (r6 : Int32) < 0 then (gC (FC_X10_broken X o q) (fun r10 Xf8 => ((r10 : Int32), Xf8))) else (if (r6 : Int32) < 34 then (gLt (FC_X10_store X o i r6 : xS) (fun Xf13 => gLt (Int32.toNatClampNeg r6 : Nat) (fun u17 => gLt (0 : Int32) (fun x18 => FC_X10_readInstruction_L90 o i u17 ((nI (sLn.getD (34 + u17) 0) - x18).toInt.toNat + 1) x18 Xf13)))) else (gC (FC_X10_broken X o q) (fun r45 Xf43 => ((r45 : Int32), Xf43)))))
theorem rI_b {X : xS} {o : Nat} {i q : Int32} (h : FC_X10_wordAt X o q = -1) : rI X o i q = (0, xwI X o 3 q) := by
  rw [rI, h, gLt_x, if_pos (by decide), brk_e, gC_p]
theorem tn34 : ∀ n, n < 34 → (nI n).toNatClampNeg = n := by decide +kernel
theorem rI_w {ad : adT} {S : mS} {X : xS} {i q : Int32} {w : Nat} (hR : RT ad S X) (hi : 0 ≤ i ∧ i < 240) (hw : w < 34) (h : FC_X10_wordAt X (ad 9 0) q = nI w) : rI X (ad 9 0) i q = FC_X10_readInstruction_L90 (ad 9 0) i w (sLn.getD (34 + w) 0 + 1) (nI 0) (xwA X (ad 10 0) i (nI w)) := by
  have hl := sLn_le.1 (34 + w)
  have w0 := nI_pos' (n := w) (by omega)
  have w1 : nI w < 34 := nI_lt hw (by decide)
  rw [rI, h, gLt_x, if_neg (show ¬ nI w < 0 from Int32.not_lt.mpr w0), if_pos w1, store_e hR hi, gLt_x, gLt_x, gLt_x, tn34 w hw, show nI (sLn.getD (34 + w) 0) - (0 : Int32) = nI (sLn.getD (34 + w) 0) by generalize nI (sLn.getD (34 + w) 0) = y; grind, nI_toInt (by omega), show (0 : Int32) = nI 0 by decide]
  rfl
abbrev ltr (b : Int32 → Int32) (i : Int32) : Prop := 97 ≤ b i ∧ b i ≤ 122
theorem ltX {ad : adT} {S : mS} {i q : Int32} : ∀ (N : Nat) (p : Int32) (X : xS), RT ad S X → xI X (ad 9 0) 5 = p → 0 ≤ p → p ≤ gI S 7 → (gI S 7 - p).toInt.toNat < N → ∃ e, p ≤ e ∧ e ≤ gI S 7 ∧ (∀ k, p ≤ k → k < e → ltr (gA S 1) k) ∧ (e = gI S 7 ∨ ¬ ltr (gA S 1) e) ∧ FC_X10_readInstruction_L5 (ad 9 0) i q N X = rI (xwI X (ad 9 0) 5 e) (ad 9 0) i q := by
  intro N
  induction N with
  | zero => intro p X _ _ _ _ h; exact absurd h (Nat.not_lt_zero _)
  | succ N ih =>
    intro p X h h5 p0 pL hN
    have hL := h.2.2.2.2.1
    have hr := here_r (lo := 97) (hi := 122) h h5 p0 (by decide)
    rw [FC_X10_readInstruction_L5, gLt_x, gLt_x, h5, h.2.1]
    by_cases c : gI S 7 ≤ p
    · rw [if_pos c]
      refine ⟨p, Int32.le_refl _, pL, fun k k0 k1 => (Int32.lt_irrefl (Int32.lt_of_le_of_lt k0 k1)).elim, Or.inl (by clear ih h hr; grind), ?_⟩
      rw [xwI_self h5, rI]
    · rw [if_neg c, gLt_x]
      by_cases a : FC_X10_here X (ad 9 0) < 97
      · rw [if_pos a]
        refine ⟨p, Int32.le_refl _, pL, fun k k0 k1 => (Int32.lt_irrefl (Int32.lt_of_le_of_lt k0 k1)).elim, Or.inr (fun z => ?_), ?_⟩
        · have y : ¬ FC_X10_here X (ad 9 0) < 97 ∧ ¬ 122 < FC_X10_here X (ad 9 0) := by rw [hr]; exact ⟨by clear ih h hr z; grind, z⟩
          exact y.1 a
        · rw [xwI_self h5, rI]
          simp only [L90_1]
      · rw [if_neg a, gLt_x]
        by_cases b : 122 < FC_X10_here X (ad 9 0)
        · rw [if_pos b]
          refine ⟨p, Int32.le_refl _, pL, fun k k0 k1 => (Int32.lt_irrefl (Int32.lt_of_le_of_lt k0 k1)).elim, Or.inr (fun z => ?_), ?_⟩
          · have y : ¬ FC_X10_here X (ad 9 0) < 97 ∧ ¬ 122 < FC_X10_here X (ad 9 0) := by rw [hr]; exact ⟨by clear ih h hr z; grind, z⟩
            exact y.2 b
          · rw [xwI_self h5, rI]
            simp only [L90_2]
        · have y : ¬ FC_X10_here X (ad 9 0) < 97 ∧ ¬ 122 < FC_X10_here X (ad 9 0) := ⟨a, b⟩
          rw [hr] at y
          rw [if_neg b, gLt_x, gLt_x]
          obtain ⟨e, e1, e2, e3, e4, e5⟩ := ih (p + 1) (xwI X (ad 9 0) 5 (p + 1)) (RT_at h (by decide)) (by simp [xI_I]) (by clear ih h hr y; grind) (by clear ih h hr y; grind) (msd hN (by clear ih h hr y; grind) (by clear ih h hr y; grind))
          refine ⟨e, by clear ih h hr y e3 e4 e5; grind, e2, fun k k0 k1 => ?_, e4, by rw [e5, xwI_w]⟩
          by_cases z : k = p
          · rw [z]; exact y.2
          · exact e3 k (by clear ih h hr y e3 e4 e5; grind) k1
theorem i_dm {q e : Int32} (q0 : 0 ≤ q) (h : q ≤ e) (he : e ≤ 1600) : ∃ m : Nat, m ≤ 1600 ∧ e = q + nI m := by
  obtain ⟨a, ha⟩ := i32f (q := e - q) (n := 1601) (m := 1601) (by grind) (by grind) (by decide)
  exact ⟨a.val, by have := a.isLt; omega, by rw [← ha]; grind⟩
theorem toC_t : ∀ k, k < 34 → nI (tcN k) = toC (nI k) := by decide +kernel
/-- an INSTRUCTION of both -/
theorem t_line {ad : adT} {S : mS} {X : xS} {q i : Int32} (h : RT ad S X) (h5 : xI X (ad 9 0) 5 = q) (q0 : 0 ≤ q) (qL : q ≤ gI S 7) (h8 : gI S 8 = q) (hT : tkE (gI S 7) (gA S 1) q (gI S 9)) (h10 : gI S 10 < 0) (h6 : gI S 6 = i) (hi : 0 ≤ i ∧ i < 60) : LnR ad S i X (FC_X10_readInstruction X (ad 9 0) (i * 4)) (G_line S) := by
  have hL := h.2.2.2.2.1
  have q16 : q ≤ 1600 := Int32.le_trans qL hL.2
  have er := tk_r hT q0 qL hL.2
  have e0 : 0 ≤ gI S 9 := Int32.le_trans q0 er.1
  have s4 := i4 hi
  have sA4 : 4 * i ≤ 4 * i ∧ 4 * i < 4 * i + 4 := by clear h hT er; grind
  have s240 : 0 ≤ 4 * i ∧ 4 * i < 240 := ⟨s4.1, Int32.lt_of_le_of_lt s4.2 (by decide)⟩
  have fu : (gI S 7 - q).toInt.toNat < 4000 := by
    have a : (gI S 7 - q).toInt ≤ (1600 : Int32).toInt := Int32.le_iff_toInt_le.mp (show gI S 7 - q ≤ 1600 by clear h hT er; grind)
    have b : (1600 : Int32).toInt = 1600 := by decide
    omega
  obtain ⟨e1, a1, a2, a3, a4, a5⟩ := ltX (i := 4 * i) (q := q) 4000 q X h h5 q0 qL fu
  rw [FC_X10_readInstruction, gLt_x, h5, show i * 4 = 4 * i by grind, a5]
  obtain ⟨m1, m1b, hm1⟩ := i_dm q0 a1 (Int32.le_trans a2 hL.2)
  obtain ⟨m2, m2b, hm2⟩ := i_dm q0 er.1 (Int32.le_trans er.2.1 hL.2)
  have hb : ∀ j, j < m2 → 0 ≤ gA S 1 (q + nI j) ∧ gA S 1 (q + nI j) ≤ 255 := fun j hj => by
    have kn := k_n q0 (by rw [← hm2]; exact er.2.1) m2b hL.2 qL hj
    have y := h.2.2.2.2.2.1 _ kn.1 kn.2.2.2
    exact ⟨y.1, y.2.1⟩
  have R1 := RT_at (j := 5) (v := e1) h (by decide)
  have x5 : xI (xwI X (ad 9 0) 5 e1) (ad 9 0) 5 = e1 := by simp [xI_I]
  have fr1 : frT ad (4 * i) 4 X (xwI X (ad 9 0) 5 e1) := frT_I (by simp)
  have n60 : gI S 6 ≠ 60 := by rw [h6]; clear h hT er; grind
  have rW := word_e hb h.2.2.2.2.2.2 h8 hm2 q0 q16 m2b
  have cW := wordAt_e R1 x5 q0 qL a2 hm1 m1b
  have bad : G_word S = -1 → 0 ≤ gI (G_line S) 10 := fun z => by rw [line_b h10 (Or.inr z), gI_sI, if_pos rfl, h8]; exact q0
  by_cases E : e1 = gI S 9
  · have mm : m1 = m2 := by
      rw [hm1, hm2] at E
      exact nI_inj31 (by omega) (by omega) (by have y : nI m1 = q + nI m1 - q := by grind
                                               rw [y, E]; grind)
    subst mm
    rcases rW with ⟨k, k1, k2, k3⟩ | ⟨k2, k3⟩
    · rcases cW with ⟨w, w1, w2, w3⟩ | ⟨w2, w3⟩
      · have ew := mt_u w1 (tcN_lt k k1) w2 k2
        subst ew
        rw [rI_w R1 s240 w1 w3, line_e n60 (by rw [k3]; exact nI_pos' (by omega)), k3]
        obtain ⟨q3, e3, n1, n2, n3⟩ := next_e (S := S) e0 er.2.1 hL.2
        have l2 := sLn_7 _ w1
        have hp : gI S 9 = gI S 7 ∨ gA S 1 (gI S 9) = 32 ∨ gA S 1 (gI S 9) = 59 := by
          rcases hT with z | z
          · exfalso
            have y := k2.2 0 (by rw [k2.1]; omega)
            have yl := (sBy_l _ w1 0 (by omega)).1
            rw [show q + nI 0 = q by rw [show nI 0 = 0 by decide]; grind, z.2.1] at y
            rw [← y] at yl
            exact absurd yl (by decide)
          · exact z.2.2.2.2
        have R2 : RT ad (G_next S) (xwA (xwI X (ad 9 0) 5 e1) (ad 10 0) (4 * i) (nI (tcN k))) := by
          rw [n3]; exact RT_S (RT_cd R1) (by simp [gI_sI]) (fun _ => rfl) (fun _ => rfl)
        have st : St ad (G_next S) (xwA (xwI X (ad 9 0) 5 e1) (ad 10 0) (4 * i) (nI (tcN k))) (gI S 9) := by
          refine ⟨R2, by rw [xI_A, x5]; exact E, ?_, ?_, ?_, ?_, ?_⟩
          · rw [n3]; simp only [gI_sI]; exact ⟨e0, er.2.1⟩
          · rw [n3]; exact hp
          · rw [n3]
            show isSk _ (gA S 1) _ _
            simpa [gI_sI] using n1
          · rw [n3]
            show tkE _ (gA S 1) _ _
            simpa [gI_sI] using n2
          · rw [n3]; simpa [gI_sI] using h10
        have g6 : gI (G_next S) 6 = i := by rw [n3]; simpa [gI_sI] using h6
        have g7 : gI (G_next S) 7 = gI S 7 := by rw [n3]; simp [gI_sI]
        have gA9 : ∀ k i, gA (G_next S) k i = gA S k i := fun _ _ => by rw [n3]; rfl
        exact LnR_tr g7 gA9 (frT_tr fr1 (frT_A s4.1 sA4)) (t_nums st g6 hi k1 (by rw [xA_A, if_pos ⟨rfl, rfl⟩]; exact toC_t k k1))
      · exact absurd k2 (w2 _ (tcN_lt k k1))
    · rcases cW with ⟨w, w1, w2, w3⟩ | ⟨w2, w3⟩
      · exact absurd w2 (k2 w w1)
      · rw [rI_b w3]
        exact Or.inr ⟨bad k3, Or.inl rfl, frT_tr fr1 (frT_I (by simp))⟩
  · have le : e1 ≤ gI S 9 := by
      rcases (show e1 ≤ gI S 9 ∨ gI S 9 < e1 by clear h hT er a3 a4 a5 rW cW; grind) with w | w
      · exact w
      · exfalso
        rcases hT with z | z
        · have y := (a3 q (Int32.le_refl _) (by have := er.1; clear h er a3 a4 a5 rW cW; grind)).1
          rw [z.2.1] at y; exact absurd y (by decide)
        · have y := a3 (gI S 9) er.1 w
          rcases z.2.2.2.2 with u | u | u
          · rw [u] at w; exact Int32.lt_irrefl (Int32.lt_of_lt_of_le w a2)
          · have := y.1; rw [u] at this; exact absurd this (by decide)
          · have := y.1; rw [u] at this; exact absurd this (by decide)
    have lt : e1 < gI S 9 := by clear h hT er a3 a4 a5 rW cW; grind
    have nl : ¬ ltr (gA S 1) e1 := by
      rcases a4 with u | u
      · exfalso; rw [u] at lt; exact Int32.lt_irrefl (Int32.lt_of_lt_of_le lt er.2.1)
      · exact u
    have rN : G_word S = -1 := by
      rcases rW with ⟨k, k1, k2, k3⟩ | ⟨k2, k3⟩
      · exfalso
        have m12 : m1 < m2 := by
          have y : nI m1 < nI m2 := by
            have b1 : nI m1 ≤ 1600 := by have := nI_le (a := m1) (b := 1600) m1b (by decide); exact this
            have b2 : nI m2 ≤ 1600 := by have := nI_le (a := m2) (b := 1600) m2b (by decide); exact this
            have c1 := nI_pos' (n := m1) (by omega)
            have c2 := nI_pos' (n := m2) (by omega)
            rw [hm1, hm2] at lt
            generalize nI m1 = x at *
            generalize nI m2 = y at *
            clear h hT er a3 a4 a5 cW hb k2 m1b m2b hm1 hm2
            grind
          exact (nI_ltI (by omega) (by omega)).mp y
        have y := k2.2 m1 m12
        rw [← hm1] at y
        have yl := sBy_l _ (tcN_lt k k1) m1 (by rw [← k2.1]; exact m12)
        rw [← y] at yl
        exact nl yl
      · exact k3
    refine Or.inr ⟨bad rN, ?_⟩
    rcases cW with ⟨w, w1, w2, w3⟩ | ⟨w2, w3⟩
    · rw [rI_w R1 s240 w1 w3]
      have l2 := sLn_7 w w1
      have qe : q < e1 := by
        have y : nI 0 < nI m1 := nI_lt (by have := w2.1; omega) (by omega)
        have b1 : nI m1 ≤ 1600 := by have := nI_le (a := m1) (b := 1600) m1b (by decide); exact this
        rw [show nI 0 = 0 by decide] at y
        rw [hm1]
        generalize nI m1 = x at *
        clear h hT er a3 a4 a5 rW hb w2 m1b m2b hm1 hm2
        grind
      have st : stk S e1 := by
        rcases hT with z | z
        · have y := (a3 q (Int32.le_refl _) qe).1
          rw [z.2.1] at y; exact absurd y (by decide)
        · have y := z.2.2.2.1 e1 a1 lt
          exact ⟨Int32.le_trans q0 a1, Int32.lt_of_lt_of_le lt er.2.1, y.1, y.2⟩
      exact BR_tr (frT_tr fr1 (frT_A s4.1 sA4)) (L90_k (RT_cd R1) (Nat.zero_le _) (by rw [xI_A, x5]; exact st))
    · rw [rI_b w3]
      exact ⟨Or.inl rfl, frT_tr fr1 (frT_I (by simp))⟩

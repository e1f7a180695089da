/-! reading a PROGRAM, both side by side: an INSTRUCTION's numbers -/
theorem L90_1 {o : Nat} {i : Int32} {u : Nat} : ∀ (N : Nat) (j : Int32) (X : xS), FC_X10_readInstruction_L90x1 o i u N j X = FC_X10_readInstruction_L90 o i u N j X
  | 0, _, _ => by rw [FC_X10_readInstruction_L90x1, FC_X10_readInstruction_L90]
  | N + 1, j, X => by
    rw [FC_X10_readInstruction_L90x1, FC_X10_readInstruction_L90]
    simp only [L90_1 N]
theorem L90_2 {o : Nat} {i : Int32} {u : Nat} : ∀ (N : Nat) (j : Int32) (X : xS), FC_X10_readInstruction_L90x2 o i u N j X = FC_X10_readInstruction_L90 o i u N j X
  | 0, _, _ => by rw [FC_X10_readInstruction_L90x2, FC_X10_readInstruction_L90]
  | N + 1, j, X => by
    rw [FC_X10_readInstruction_L90x2, FC_X10_readInstruction_L90]
    simp only [L90_2 N]
theorem rgO {X : xS} {v : Int32} : FC_X10_inRange X 111 v = 0 ↔ ¬ (0 ≤ v ∧ v ≤ 23) := by
  rw [FC_X10_inRange, if_pos rfl]
  by_cases a : v < 0
  · rw [if_pos a]; exact ⟨fun _ z => by have := z.1; clear z; grind, fun _ => rfl⟩
  · rw [if_neg a]
    by_cases b : 24 ≤ v
    · rw [if_pos b]; exact ⟨fun _ z => by have := z.2; clear z; grind, fun _ => rfl⟩
    · rw [if_neg b]; exact ⟨fun z => absurd z (by decide), fun z => absurd ⟨by clear z; grind, by clear z; grind⟩ z⟩
theorem rgK {X : xS} {v : Int32} : FC_X10_inRange X 107 v = 0 ↔ ¬ (0 ≤ v ∧ v ≤ 59) := by
  rw [FC_X10_inRange, if_neg (by decide), if_pos rfl]
  by_cases a : v < 0
  · rw [if_pos a]; exact ⟨fun _ z => by have := z.1; clear z; grind, fun _ => rfl⟩
  · rw [if_neg a]
    by_cases b : 60 ≤ v
    · rw [if_pos b]; exact ⟨fun _ z => by have := z.2; clear z; grind, fun _ => rfl⟩
    · rw [if_neg b]; exact ⟨fun z => absurd z (by decide), fun z => absurd ⟨by clear z; grind, by clear z; grind⟩ z⟩
theorem rgP {X : xS} {v : Int32} (h : v ≤ 999999999) : FC_X10_inRange X 112 v = 0 ↔ ¬ (1 ≤ v ∧ v ≤ 1000000000) := by
  rw [FC_X10_inRange, if_neg (by decide), if_neg (by decide), if_pos rfl]
  by_cases a : v < 1
  · rw [if_pos a]; exact ⟨fun _ z => by have := z.1; clear z; grind, fun _ => rfl⟩
  · rw [if_neg a]; exact ⟨fun z => absurd z (by decide), fun z => absurd ⟨by clear z; grind, by clear z; grind⟩ z⟩
theorem rgN {X : xS} {v : Int32} (h0 : -999999999 ≤ v) (h : v ≤ 999999999) : FC_X10_inRange X 110 v = 0 ↔ ¬ (-1000000000 ≤ v ∧ v ≤ 1000000000) := by
  rw [FC_X10_inRange, if_neg (by decide), if_neg (by decide), if_neg (by decide)]
  exact ⟨fun z => absurd z (by decide), fun z => absurd ⟨by clear z; grind, by clear z; grind⟩ z⟩
/-- both behind a piece: the class at p, the reference at the next one -/
def St (ad : adT) (S : mS) (X : xS) (p : Int32) : Prop := RT ad S X ∧ xI X (ad 9 0) 5 = p ∧ (0 ≤ p ∧ p ≤ gI S 7) ∧ (p = gI S 7 ∨ gA S 1 p = 32 ∨ gA S 1 p = 59) ∧ isSk (gI S 7) (gA S 1) p (gI S 8) ∧ tkE (gI S 7) (gA S 1) (gI S 8) (gI S 9) ∧ gI S 10 < 0
/-- the class is at its end, or where nothing can go on -/
def BR (ad : adT) (S : mS) (i : Int32) (X : xS) (r : Int32 × xS) : Prop := (r.1 = 0 ∨ (r.1 = 1 ∧ stk S (xI r.2 (ad 9 0) 5))) ∧ frT ad i 4 X r.2
theorem num_b {S : mS} {lo hi : Int32} (h : 0 ≤ gI S 10) : G_number S lo hi = (0, S) := by rw [G_number, if_neg (by grind)]
theorem num_bad {S : mS} {lo hi : Int32} (h10 : gI S 10 < 0) (q0 : 0 ≤ gI S 8) (qL : gI S 8 ≤ gI S 7) (L16 : gI S 7 ≤ 1600) (hT : tkE (gI S 7) (gA S 1) (gI S 8) (gI S 9)) (hb : gI S 8 = gI S 7 ∨ (gI S 8 < gI S 7 ∧ gA S 1 (gI S 8) = 59)) : G_number S lo hi = (0, sI S 10 (gI S 8)) := by
  have nn : ngt S (gI S 8) = false := decide_eq_false (fun z => by
    rcases hb with w | w
    · have := z.1; rw [w] at this; exact Int32.lt_irrefl this
    · rw [w.2] at z; exact absurd z.2 (by decide))
  have fd : fdg S (gI S 8) = gI S 8 := by unfold fdg; rw [nn, if_neg (by decide)]
  have er := tk_r hT q0 qL L16
  rw [num_e h10 q0, fd]
  rcases hb with w | w
  · rw [if_pos (show gI S 9 - gI S 8 < 1 by have := er.1; have := er.2.1; clear er hT; grind)]
  · rcases hT with z | z
    · have e9 := z.2.2
      have w1 := w.1
      rw [if_neg (show ¬ gI S 9 - gI S 8 < 1 by clear er; grind), if_pos (show gI S 9 - gI S 8 ≤ 9 by clear er; grind)]
      exact L68_w h10 (by clear er; grind) _ _ _ q0 (by clear er; grind) (Nat.lt_succ_self _) ⟨gI S 8, Int32.le_refl _, by clear er; grind, fun y => dg59 y w.2⟩
    · exact absurd w z.1
section NU
variable {ad : adT} {S : mS} {X : xS} {p i : Int32} {u j : Nat}
theorem L90_e {N : Nat} : FC_X10_readInstruction_L90 (ad 9 0) i u (N + 1) (nI (sLn.getD (34 + u) 0)) X = (1, X) := by
  rw [FC_X10_readInstruction_L90, len_e, gLt_x, if_pos (Int32.le_refl _)]
theorem L90_b {N : Nat} (h : RT ad S X) (h5 : xI X (ad 9 0) 5 = p) (p0 : 0 ≤ p) (hj : j < sLn.getD (34 + u) 0) (hn : ¬ (p < gI S 7 ∧ gA S 1 p = 32)) : FC_X10_readInstruction_L90 (ad 9 0) i u (N + 1) (nI j) X = (0, xwI X (ad 9 0) 3 p) := by
  have hl := sLn_le.1 (34 + u)
  rw [FC_X10_readInstruction_L90, len_e, gLt_x, if_neg (Int32.not_le.mpr (nI_lt hj (by omega))), gLt_x, if_neg (show ¬ FC_X10_here X (ad 9 0) = 32 by rw [here_c h h5 p0 (by decide)]; exact hn), gLt_x, brk_e, gC_p, h5]
theorem L90_n {N : Nat} {q : Int32} (h : RT ad S X) (h5 : xI X (ad 9 0) 5 = p) (p0 : 0 ≤ p) (pL : p ≤ gI S 7) (hu : u < 34) (hj : j < sLn.getD (34 + u) 0) (hn : p < gI S 7 ∧ gA S 1 p = 32) (hq : isSk (gI S 7) (gA S 1) p q) : FC_X10_readInstruction_L90 (ad 9 0) i u (N + 1) (nI j) X = if (FC_X10_readNumber (xwI X (ad 9 0) 5 q) (ad 9 0) (i + 1 + nI j) ((sBy.getD (34 + u) []).getD j 0)).1 = 0 then (0, (FC_X10_readNumber (xwI X (ad 9 0) 5 q) (ad 9 0) (i + 1 + nI j) ((sBy.getD (34 + u) []).getD j 0)).2) else FC_X10_readInstruction_L90 (ad 9 0) i u N (nI (j + 1)) (FC_X10_readNumber (xwI X (ad 9 0) 5 q) (ad 9 0) (i + 1 + nI j) ((sBy.getD (34 + u) []).getD j 0)).2 := by
  have hl := sLn_le.1 (34 + u)
  obtain ⟨q2, k1, k2⟩ := skX_e h h5 p0 pL
  have eq := sk_u k1 hq
  subst eq
  rw [FC_X10_readInstruction_L90, len_e, gLt_x, if_neg (Int32.not_le.mpr (nI_lt hj (by omega))), gLt_x, if_pos (show FC_X10_here X (ad 9 0) = 32 by rw [here_c h h5 p0 (by decide)]; exact hn), gLt_x, k2, gLt_x, chr_e (by omega) hj]
  generalize FC_X10_readNumber (xwI X (ad 9 0) 5 q2) (ad 9 0) (i + 1 + nI j) ((sBy.getD (34 + u) []).getD j 0) = r
  obtain ⟨r1, r2⟩ := r
  rw [gC_p, gLt_x, ← nI_succ]
/-- where nothing can go on -/
theorem L90_k {N : Nat} (h : RT ad S X) (hj : j ≤ sLn.getD (34 + u) 0) (hk : stk S (xI X (ad 9 0) 5)) : BR ad S i X (FC_X10_readInstruction_L90 (ad 9 0) i u (N + 1) (nI j) X) := by
  by_cases c : j = sLn.getD (34 + u) 0
  · rw [c, L90_e]
    exact ⟨Or.inr ⟨rfl, hk⟩, frT_rf⟩
  · rw [L90_b h rfl hk.1 (by omega) (fun z => hk.2.2.1 z.2)]
    exact ⟨Or.inl rfl, frT_I (by simp)⟩
theorem BR_tr {Y : xS} {r : Int32 × xS} (f : frT ad i 4 X Y) (h : BR ad S i Y r) : BR ad S i X r := ⟨h.1, frT_tr f h.2⟩
theorem frT_wk {s n s2 n2 : Int32} {Y : xS} (f : frT ad s n X Y) (h : ∀ k, 0 ≤ k → (k < s2 ∨ s2 + n2 ≤ k) → (k < s ∨ s + n ≤ k)) : frT ad s2 n2 X Y := by
  obtain ⟨f1, f2, f3, f4, f5, f6, f7⟩ := f
  exact ⟨f1, f2, f3, f4, fun k k0 z => f5 k k0 (h k k0 z), f6, f7⟩
theorem sl_b (hi4 : 0 ≤ i ∧ i ≤ 236) (hj : j ≤ 2) : (0 ≤ i + 1 + nI j ∧ i + 1 + nI j < 240) ∧ (i ≤ i + 1 + nI j ∧ i + 1 + nI j < i + 4) := by
  have a := nI_pos' (n := j) (by omega)
  have b : nI j ≤ 2 := by have := nI_le (a := j) (b := 2) hj (by decide); exact this
  generalize nI j = x at *
  clear hj
  grind
theorem sl_w (hi4 : 0 ≤ i ∧ i ≤ 236) (hj : j ≤ 2) : ∀ k, 0 ≤ k → (k < i ∨ i + 4 ≤ k) → (k < i + 1 + nI j ∨ i + 1 + nI j + 1 ≤ k) := by
  have b := (sl_b hi4 hj).2
  intro k k0 z
  generalize i + 1 + nI j = x at *
  grind
/-- one number of both -/
theorem st_num {lo hi c : Int32} (hs : St ad S X p) (hu : u < 34) (hj : j < sLn.getD (34 + u) 0) (hc : (sBy.getD (34 + u) []).getD j 0 = c) (hR : ∀ (Y : xS) (v : Int32), -999999999 ≤ v → v ≤ 999999999 → (FC_X10_inRange Y c v = 0 ↔ ¬ (lo ≤ v ∧ v ≤ hi))) (hi4 : 0 ≤ i ∧ i ≤ 236) (N : Nat) :
    (∃ v p2, FC_X10_readInstruction_L90 (ad 9 0) i u (N + 2) (nI j) X = FC_X10_readInstruction_L90 (ad 9 0) i u (N + 1) (nI (j + 1)) (xwA (xwI X (ad 9 0) 5 p2) (ad 10 0) (i + 1 + nI j) v) ∧ G_number S lo hi = (v, G_next S) ∧ St ad (G_next S) (xwA (xwI X (ad 9 0) 5 p2) (ad 10 0) (i + 1 + nI j) v) p2) ∨
    (0 ≤ gI (G_number S lo hi).2 10 ∧ BR ad S i X (FC_X10_readInstruction_L90 (ad 9 0) i u (N + 2) (nI j) X)) := by
  obtain ⟨h, h5, pb, hp, hk, hT, h10⟩ := hs
  have hl3 := sLn_le.2 (34 + u) (by omega)
  have hL := h.2.2.2.2.1
  have q0 : 0 ≤ gI S 8 := Int32.le_trans pb.1 hk.1
  have er := tk_r hT q0 hk.2.1 hL.2
  by_cases A : p < gI S 7 ∧ gA S 1 p = 32
  · rw [L90_n h h5 pb.1 pb.2 hu hj A hk, hc]
    have h1 := RT_at (j := 5) (v := gI S 8) h (by decide)
    have e5 : xI (xwI X (ad 9 0) 5 (gI S 8)) (ad 9 0) 5 = gI S 8 := by simp [xI_I]
    have sb := sl_b hi4 (show j ≤ 2 by omega)
    rcases t_num (rg := c) (lo := lo) (hi := hi) h1 e5 q0 hk.2.1 rfl hT h10 sb.1 (hR _) with ⟨v, v1, v2⟩ | ⟨v2, v3, v4⟩
    · left
      refine ⟨v, gI S 9, ?_, v2, ?_⟩
      · rw [v1, if_neg (show ¬ ((1 : Int32) = 0) by decide), xwI_w]
      · have nb : ¬ (gI S 8 = gI S 7 ∨ (gI S 8 < gI S 7 ∧ gA S 1 (gI S 8) = 59)) := fun z => by
          have b1 := num_bad (lo := lo) (hi := hi) h10 q0 hk.2.1 hL.2 hT z
          obtain ⟨q3, e3, -, -, n3⟩ := next_e (S := S) (Int32.le_trans q0 er.1) er.2.1 hL.2
          rw [v2] at b1
          have b2 : gI (G_next S) 10 = gI (sI S 10 (gI S 8)) 10 := by rw [(Prod.mk.inj b1).2]
          rw [n3] at b2
          simp [gI_sI] at b2
          clear hp hT hR hk v1 v2 z; grind
        have e9 : gI S 9 = gI S 7 ∨ gA S 1 (gI S 9) = 32 ∨ gA S 1 (gI S 9) = 59 := by
          rcases hT with z | z
          · exact absurd (Or.inr ⟨z.1, z.2.1⟩) nb
          · exact z.2.2.2.2
        obtain ⟨q3, e3, n1, n2, n3⟩ := next_e (S := S) (Int32.le_trans q0 er.1) er.2.1 hL.2
        rw [n3]
        have R2 : RT ad (sI (sI S 8 q3) 9 e3) (xwA (xwI X (ad 9 0) 5 (gI S 9)) (ad 10 0) (i + 1 + nI j) v) := RT_S (RT_cd (RT_at h (by decide))) (by simp [gI_sI]) (fun _ => rfl) (fun _ => rfl)
        refine ⟨R2, by rw [xI_A]; simp [xI_I], ?_, ?_, ?_, ?_, ?_⟩
        · simp only [gI_sI]; exact ⟨Int32.le_trans q0 er.1, er.2.1⟩
        · exact e9
        · show isSk _ (gA S 1) _ _
          simpa [gI_sI] using n1
        · show tkE _ (gA S 1) _ _
          simpa [gI_sI] using n2
        · simpa [gI_sI] using h10
    · right
      rw [v2]
      refine ⟨by simp [gI_sI]; exact q0, ?_⟩
      generalize FC_X10_readNumber (xwI X (ad 9 0) 5 (gI S 8)) (ad 9 0) (i + 1 + nI j) c = r at *
      have fX : frT ad i 4 X r.2 := frT_tr (frT_I (v := gI S 8) (by simp)) (frT_wk v4 (sl_w hi4 (by omega)))
      by_cases r0 : r.1 = 0
      · rw [if_pos r0]; exact ⟨Or.inl rfl, fX⟩
      · rw [if_neg r0]
        rcases v3 with v3 | v3
        · exact absurd v3 r0
        · exact BR_tr fX (L90_k (frT_RT h fX) (by omega) v3.2)
  · right
    have q8 : gI S 8 = p := sk_u hk ⟨Int32.le_refl _, pb.2, fun k k0 k1 => (Int32.lt_irrefl (Int32.lt_of_le_of_lt k0 k1)).elim, by
      by_cases y : p < gI S 7
      · exact Or.inr (fun z => A ⟨y, z⟩)
      · exact Or.inl (by clear hp hT hR hk; grind)⟩
    have bd := num_bad (lo := lo) (hi := hi) h10 q0 hk.2.1 hL.2 hT (by
      rw [q8]
      by_cases y : p < gI S 7
      · rcases hp with z | z | z
        · exact Or.inl z
        · exact absurd ⟨y, z⟩ A
        · exact Or.inr ⟨y, z⟩
      · exact Or.inl (by clear hp hT hR hk; grind))
    rw [bd]
    refine ⟨by simp [gI_sI]; exact q0, ?_⟩
    rw [L90_b h h5 pb.1 hj A]
    exact ⟨Or.inl rfl, frT_I (by simp)⟩
end NU

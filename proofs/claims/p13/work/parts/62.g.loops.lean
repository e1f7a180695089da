/-! both side by side: the first of a row goes on, all of a row go on; at a LATCH, a BARRIER, a SEMAPHORE, a FUTURE -/
/-- the first of the row of b goes on -/
def fgo (S : mS) (b : Int32) : mS := G_goesOn (G_leaves S b (gA S 32 (8 * b))) (gA S 32 (8 * b))
theorem fg_e {S : mS} {b : Int32} : G_firstGoesOn S b = (gA S 32 (8 * b), fgo S b) := by rw [G_firstGoesOn, gLt_x, gLt_x, gLt_x]; rfl
theorem n22r {S : mS} {B b u : Int32} (hm : mInv S) (hJ : jIn S B (-1)) (hb : 0 ≤ b ∧ b < 24) (hk : gA S 28 b ≠ 1) (hi : inR S b u) : gA S 22 u = 0 := by
  obtain ⟨hu, u21, u13⟩ := in_row hb hm hi
  by_cases q : gA S 22 u = 0
  · exact q
  · obtain ⟨d, d0, d1, dk, i, i0, i1, i2⟩ := hJ.2.2.2.1 u (by grind) hu.1 hu.2 q u21
    obtain ⟨j, j0, j1, j2⟩ := hi
    have := (hm.2.2.2.2.2.1 d i b j d0 d1 i0 i1 hb.1 hb.2 j0 j1 (i2.trans j2.symm)).1
    rw [this] at dk; exact absurd dk hk
section FG
variable {ad : adT} {B : Int32} {S : mS} {X : xS} {b t k : Int32}
theorem fg_s (h : Sim ad B S X) (hb : 0 ≤ b ∧ b < 24) (hk : gA S 28 b ≠ 1) (h0 : ¬ gA S 33 b ≤ 0) : Sim ad B (fgo S b) (FC_X8_goOn X (ad 0 (gA S 32 (8 * b)))) :=
  s_lg h hb (inR0 h0) (n22r h.1 h.2.1 hb hk (inR0 h0))
theorem fg_f (hm : mInv S) (hb : 0 ≤ b ∧ b < 24) (h0 : ¬ gA S 33 b ≤ 0) : stp S (fgo S b) ∧ (0 ≤ gA (fgo S b) 33 b ∧ gA (fgo S b) 33 b < gA S 33 b) ∧ (∀ k i, k ≠ 13 → k ≠ 15 → k ≠ 16 → k ≠ 32 → k ≠ 33 → gA (fgo S b) k i = gA S k i) :=
  lg_inv hb hm (inR0 h0) (p_lv hb hm) goesOn_e
theorem fg_t (hb : 0 ≤ b ∧ b < 24) (hn : nR S t) (h0 : ¬ gA S 33 b ≤ 0) : gA S 32 (8 * b) ≠ t := Ne.symm (not_in hb (inR0 h0) hn)
theorem fg_gs (hm : mInv S) (hb : 0 ≤ b ∧ b < 24) (hn : nR S t) (h0 : ¬ gA S 33 b ≤ 0) : fgo (gs S t k) b = gs (fgo S b) t k := by
  refine gs_cm (F := fun T => fgo T b) (fun l v T hl e2 e3 => ?_) ((fg_f hm hb h0).1.2.2.1 12 t (by simp))
  have b2 := k35n hl 32 (by decide) (by decide)
  have e : gA (sA T l t v) 32 (8 * b) = gA T 32 (8 * b) := by simp [gA_sA, Ne.symm b2]
  have ne : gA T 32 (8 * b) ≠ t := by rw [e2]; exact fg_t hb hn h0
  show fgo (sA T l t v) b = sA (fgo T b) l t v
  unfold fgo
  rw [e, lg_c hl ne]
theorem fg_sA {l : Nat} {i v : Int32} (h1 : l ≠ 32) (h2 : l ≠ 33) (h3 : l ≠ 12) (h4 : l ≠ 13) (h5 : l ≠ 15) (h6 : l ≠ 16) : fgo (sA S l i v) b = sA (fgo S b) l i v := by
  have e : gA (sA S l i v) 32 (8 * b) = gA S 32 (8 * b) := by simp [gA_sA, Ne.symm h1]
  unfold fgo
  rw [e, leaves_c h1 h2, goesOn_e, goesOn_e]
  have e1 : gA (sA (G_leaves S b (gA S 32 (8 * b))) l i v) 15 (gA S 32 (8 * b)) = gA (G_leaves S b (gA S 32 (8 * b))) 15 (gA S 32 (8 * b)) := by simp [gA_sA, Ne.symm h5]
  have e2 : gA (sA (G_leaves S b (gA S 32 (8 * b))) l i v) 12 (gA S 32 (8 * b)) = gA (G_leaves S b (gA S 32 (8 * b))) 12 (gA S 32 (8 * b)) := by simp [gA_sA, Ne.symm h3]
  rw [e1, e2, sA_comm (k := l) (Or.inl h6), sA_comm (k := l) (Or.inl h5), sA_comm (k := l) (Or.inl h4)]
end FG
theorem m8 {n i : Int32} (h : n ≤ 8 - i) (h0 : 0 < n) (hi : 0 ≤ i) : ¬ (8 : Int32) ≤ i := by grind
/-- .. with another first number of b -/
def SimV (ad : adT) (B b v : Int32) (S : mS) (X : xS) : Prop := mInv S ∧ jIn S B (-1) ∧ Rel ad (-1) (sA S 29 b v) X
theorem SimV_o {ad : adT} {B b : Int32} {S : mS} {X : xS} (h : Sim ad B S X) : SimV ad B b (gA S 29 b) S X := ⟨h.1, h.2.1, by rw [sA_self rfl]; exact h.2.2⟩
theorem SimV_b {ad : adT} {B b v : Int32} {S : mS} {X : xS} (h : SimV ad B b v S X) (e : gA S 29 b = v) : Sim ad B S X := ⟨h.1, h.2.1, by have := h.2.2; rwa [sA_self e] at this⟩
theorem fg_v {ad : adT} {B b v : Int32} {S : mS} {X : xS} (h : SimV ad B b v S X) (hb : 0 ≤ b ∧ b < 24) (hk : gA S 28 b ≠ 1) (hk5 : gA S 28 b ≠ 5) (h0 : ¬ gA S 33 b ≤ 0) : SimV ad B b v (fgo S b) (FC_X8_goOn X (ad 0 (gA S 32 (8 * b)))) := by
  obtain ⟨hm, hJ, hR⟩ := h
  have hk0 : gA S 28 b ≠ 0 := (hJ.1 b hb.1 hb.2).2.2.1 (by clear hm hJ hR; grind)
  have hp := p_lv (t := gA S 32 (8 * b)) hb hm
  refine ⟨(fg_f hm hb h0).1.1, j_lg hb hm hJ (inR0 h0) (n22r hm hJ hb hk (inR0 h0)) hp goesOn_e, ?_⟩
  have e1 : gA (sA S 29 b v) 32 (8 * b) = gA S 32 (8 * b) := by simp [gA_sA]
  have e2 : gA (sA S 29 b v) 33 b = gA S 33 b := by simp [gA_sA]
  have e3 : gA (sA S 29 b v) 28 b = gA S 28 b := by simp [gA_sA]
  have hi : inR (sA S 29 b v) b (gA S 32 (8 * b)) := by rw [← e1]; exact inR0 (by rw [e2]; exact h0)
  have r := R_lg hR (m_29 hm hk5 hb) hb (by rw [e3]; exact hk0) hi
  have e4 : G_goesOn (G_leaves (sA S 29 b v) b (gA S 32 (8 * b))) (gA S 32 (8 * b)) = fgo (sA S 29 b v) b := by unfold fgo; rw [e1]
  rw [e4, fg_sA (by decide) (by decide) (by decide) (by decide) (by decide) (by decide)] at r
  exact r
/-- all of a row go on -/
theorem s_all {ad : adT} {B b v : Int32} (hb : 0 ≤ b ∧ b < 24) : ∀ (N M : Nat) (i : Int32) (S : mS) (X : xS), SimV ad B b v S X → gA S 28 b ≠ 1 → gA S 28 b ≠ 5 → gA S 28 b ≠ 0 → 0 ≤ i → i ≤ 8 → gA S 33 b ≤ 8 - i → (gA S 33 b).toInt.toNat < N → (8 - i).toInt.toNat < M →
    (G_with_L247 b N S).1 = 1 ∧ SimV ad B b v (G_with_L247 b N S).2 (FC_X9_allGoOn_L2 (ad 2 b) M i X) ∧ (∀ t, 0 ≤ t → t < 8 → nR S t → gA S 21 t = 0 → nR (G_with_L247 b N S).2 t ∧ gA (G_with_L247 b N S).2 21 t = 0 ∧ gA (G_with_L247 b N S).2 13 t = gA S 13 t ∧ gA (G_with_L247 b N S).2 15 t = gA S 15 t) ∧
    (∀ t k, 0 ≤ t → t < 8 → nR S t → gA S 21 t = 0 → G_with_L247 b N (gs S t k) = (1, gs (G_with_L247 b N S).2 t k)) ∧ (∀ k i, k ≠ 13 → k ≠ 15 → k ≠ 16 → k ≠ 32 → k ≠ 33 → gA (G_with_L247 b N S).2 k i = gA S k i) ∧ gA (G_with_L247 b N S).2 33 b ≤ 0 ∧
    (∀ l i w, l ≠ 32 → l ≠ 33 → l ≠ 12 → l ≠ 13 → l ≠ 15 → l ≠ 16 → G_with_L247 b N (sA S l i w) = (1, sA (G_with_L247 b N S).2 l i w)) := by
  intro N
  induction N with
  | zero => intro M i S X _ _ _ _ _ _ _ h; exact absurd h (Nat.not_lt_zero _)
  | succ N ih =>
    intro M i S X h h1 h5 h0 i0 i8 hr hN hM
    have e28 : gA (sA S 29 b v) 28 b = gA S 28 b := by simp [gA_sA]
    have e33 : gA (sA S 29 b v) 33 b = gA S 33 b := by simp [gA_sA]
    have e32 : gA (sA S 29 b v) 32 (8 * b) = gA S 32 (8 * b) := by simp [gA_sA]
    have hf := R_first h.2.2 hb (by rw [e28]; exact h0)
    rw [e33, e32] at hf
    have ho := ob2 h.2.2 hb (by rw [e28]; exact h0)
    cases M with
    | zero => exact absurd hM (Nat.not_lt_zero _)
    | succ M =>
      rw [G_with_L247]
      by_cases c : gA S 33 b ≤ 0
      · rw [if_pos c]
        refine ⟨rfl, ?_, fun t _ _ a1 a2 => ⟨a1, a2, rfl, rfl⟩, fun t k _ _ _ _ => ?_, fun _ _ _ _ _ _ _ => rfl, c, fun l i w a1 a2 _ _ _ _ => ?_⟩
        · rw [FC_X9_allGoOn_L2]
          by_cases d : (8 : Int32) ≤ i
          · rw [if_pos d]; exact h
          · rw [if_neg d, gLt_x, ho, Option.getD_some, hf, if_pos c, gC_p, gO_0]; exact h
        · rw [G_with_L247, gs_o (by decide) (by decide), if_pos c]
        · rw [G_with_L247, show gA (sA S l i w) 33 b = gA S 33 b by simp [gA_sA, Ne.symm a2], if_pos c]
      · rw [if_neg c, fg_e, gC_p]
        have f := fg_f h.1 hb c
        have l8 := pre_lv hb h.1
        have d := m8 hr (by clear ih h f; grind) i0
        have e9 := f.2.2 28 b (by decide) (by decide) (by decide) (by decide) (by decide)
        have r := ih M (i + 1) _ _ (fg_v h hb h1 h5 c) (by rw [e9]; exact h1) (by rw [e9]; exact h5) (by rw [e9]; exact h0) (by clear ih h f; grind) (by clear ih h f; grind) (by have := f.2.1; clear ih h f; grind) (msd hN f.2.1.1 f.2.1.2) (msd hM (by clear ih h f; grind) (by clear ih h f; grind))
        obtain ⟨r1, r2, r3, r4, r5, r6, r7⟩ := r
        refine ⟨r1, ?_, fun t t0 t1 tn t21 => ?_, fun t k t0 t1 tn t21 => ?_, fun k i a1 a2 a3 a4 a5 => (r5 k i a1 a2 a3 a4 a5).trans (f.2.2 k i a1 a2 a3 a4 a5), r6, fun l i w a1 a2 a3 a4 a5 a6 => ?_⟩
        · rw [FC_X9_allGoOn_L2, if_neg d, gLt_x, ho, Option.getD_some, hf, if_neg c, gC_p, gO_1, gLt_x, gLt_x]
          exact r2
        · have z := f.1.2.2.2 t t0 t1 tn t21
          have y := r3 t t0 t1 z.1 z.2.2.2
          exact ⟨y.1, y.2.1, y.2.2.1.trans z.2.1, y.2.2.2.trans z.2.2.1⟩
        · have z := f.1.2.2.2 t t0 t1 tn t21
          rw [G_with_L247, gs_o (show (33 : Nat) ≠ 13 by decide) (show (33 : Nat) ≠ 15 by decide), if_neg c, fg_e, gC_p, fg_gs h.1 hb tn c]
          exact r4 t k t0 t1 z.1 z.2.2.2
        · rw [G_with_L247, show gA (sA S l i w) 33 b = gA S 33 b by simp [gA_sA, Ne.symm a2], if_neg c, fg_e, gC_p, fg_sA a1 a2 a3 a4 a5 a6]
          exact r7 l i w a1 a2 a3 a4 a5 a6
theorem allGoOn_e {X : xS} {o : Nat} : FC_X9_allGoOn X o = FC_X9_allGoOn_L2 o ((8 - 0 : Int32).toInt.toNat + 1) 0 X := by rw [FC_X9_allGoOn, gLt]
theorem L129_e {b : Int32} (hb : 0 ≤ b ∧ b < 24) : ∀ (N : Nat) (S : mS), mInv S → gA S 29 b = 0 → (gA S 33 b).toInt.toNat < N → G_with_L129 b N S = G_with_L247 b N S := by
  intro N
  induction N with
  | zero => intro S _ _ h; exact absurd h (Nat.not_lt_zero _)
  | succ N ih =>
    intro S hm h29 hN
    rw [G_with_L129, G_with_L247, if_pos h29]
    by_cases c : gA S 33 b ≤ 0
    · rw [if_pos c, if_pos c]
    · rw [if_neg c, if_neg c, fg_e, gC_p, gC_p]
      have f := fg_f hm hb c
      exact ih _ f.1.1 (by rw [f.2.2 29 b (by decide) (by decide) (by decide) (by decide) (by decide)]; exact h29) (msd hN f.2.1.1 f.2.1.2)
section ATB
variable {ad : adT} {B : Int32} {S : mS} {X : xS} {b t : Int32}
theorem hgt {e : Int32} (h : Rel ad e S X) (hb : 0 ≤ b ∧ b < 24) (hk : gA S 28 b = 2 ∨ gA S 28 b = 3 ∨ gA S 28 b = 4) : xI X (ad 2 b) 3 = gA S 29 b :=
  ((h.2.2.2.2.2.2.2.2.1 b hb.1 hb.2).2 (by rcases hk with q | q | q <;> rw [q] <;> decide)).2.2.2.2.2.2.2.1 hk
theorem rsz {e : Int32} (h : Rel ad e S X) (hb : 0 ≤ b ∧ b < 24) (hk : gA S 28 b ≠ 0) : xI X (ad 3 b) 0 = gA S 33 b := (h.2.2.2.2.2.2.2.2.2.1 b hb.1 hb.2 hk).1
theorem eta2 {α β : Type} {p : α × β} {a : α} (h : p.1 = a) : p = (a, p.2) := by rw [← h]
theorem w20 : FC_X3_perform X (ad 2 b) (ad 0 t) 21 = (if xI (FC_X8_goOn X (ad 0 t)) (ad 2 b) 3 ≤ 0 then (if xI (FC_X8_goOn X (ad 0 t)) (ad 2 b) 3 = 0 then FC_X9_allGoOn (FC_X8_goOn X (ad 0 t)) (ad 2 b) else FC_X8_goOn X (ad 0 t)) else (if xI (FC_X8_goOn X (ad 0 t)) (ad 2 b) 3 - 1 = 0 then FC_X9_allGoOn (xwI (FC_X8_goOn X (ad 0 t)) (ad 2 b) 3 (xI (FC_X8_goOn X (ad 0 t)) (ad 2 b) 3 - 1)) (ad 2 b) else xwI (FC_X8_goOn X (ad 0 t)) (ad 2 b) 3 (xI (FC_X8_goOn X (ad 0 t)) (ad 2 b) 3 - 1))) := by
  rw [FC_X3_perform, gLt_x, gLt_x, ord_e, show swM.getD (Int32.toNatClampNeg (nI 21)) 0 = 10 by decide, if_neg (by decide), if_pos (by decide), gLt_x, gLt_x]
  rfl
theorem s_w20 (h : Sim ad B S X) (hf : fre S t) (hb : 0 ≤ b ∧ b < 24) (hk : gA S 28 b = 3) : Sim ad B (fin t (gA S 15 t + 1) (G_with_J104 S t 20 b)) (FC_X3_perform X (ad 2 b) (ad 0 t) 21) := by
  have z1 := s_go h hf
  have k1 : gA (gs S t (gA S 15 t + 1)) 28 b = 3 := by rw [gs_o (by decide) (by decide)]; exact hk
  have x3 : xI (FC_X8_goOn X (ad 0 t)) (ad 2 b) 3 = gA S 29 b := by rw [hgt z1.2.2 hb (Or.inr (Or.inl k1)), gs_o (by decide) (by decide)]
  have zo := h.2.1.1 b hb.1 hb.2
  rw [hk] at zo
  rw [w20, x3, G_with_J104, if_pos rfl]
  by_cases c : gA S 29 b ≤ 0
  · rw [if_pos c, if_pos c, fin_1 hf.2.1]
    have c0 : gA S 29 b = 0 := by unfold jOb at zo; clear h z1; grind
    rw [if_pos c0, allGoOn_e, FC_X9_allGoOn_L2, if_neg (by decide), gLt_x, ob2 z1.2.2 hb (by rw [k1]; decide), Option.getD_some, R_first z1.2.2 hb (by rw [k1]; decide), gs_o (show (33 : Nat) ≠ 13 by decide) (show (33 : Nat) ≠ 15 by decide), if_pos (by unfold jOb at zo; clear h z1; grind), gC_p, gO_0]
    exact z1
  · rw [if_neg c, if_neg c, gLt_x]
    have hf2 : fre (sA S 29 b (gA S 29 b - 1)) t := fre_k hf (by decide) (by decide) (by decide) (by decide)
    have e29 : gA (sA S 29 b (gA S 29 b - 1)) 29 b = gA S 29 b - 1 := by simp [gA_sA]
    have e33 : gA (sA S 29 b (gA S 29 b - 1)) 33 b = gA S 33 b := by simp [gA_sA]
    have k2 : gA (sA S 29 b (gA S 29 b - 1)) 28 b = 3 := by simpa [gA_sA] using hk
    by_cases d : gA S 29 b - 1 = 0
    · rw [if_pos d, d, L129_e hb _ _ (m_29 h.1 (by rw [hk]; decide) hb) (by simp [gA_sA]) (Nat.lt_succ_self _), allGoOn_e]
      have l8 := pre_lv hb h.1
      have e33z : gA (sA S 29 b 0) 33 b = gA S 33 b := by simp [gA_sA]
      have n1 : nR (gs S t (gA S 15 t + 1)) t := by simpa [nR, gs, gA_sA] using hf.2.2.2
      have v1 : SimV ad B b 0 (gs S t (gA S 15 t + 1)) (xwI (FC_X8_goOn X (ad 0 t)) (ad 2 b) 3 0) := ⟨z1.1, z1.2.1, Rel_la z1.2.2 k1⟩
      have r := s_all hb ((gA S 33 b).toInt.toNat + 1) ((8 - 0 : Int32).toInt.toNat + 1) 0 _ _ v1 (by rw [k1]; decide) (by rw [k1]; decide) (by rw [k1]; decide) (by decide) (by decide) (by rw [gs_o (by decide) (by decide)]; clear h z1 v1; grind) (by rw [gs_o (by decide) (by decide)]; exact Nat.lt_succ_self _) (Nat.lt_succ_self _)
      have v0 : SimV ad B b (gA S 29 b) S X := SimV_o h
      have r0 := s_all hb ((gA S 33 b).toInt.toNat + 1) ((8 - 0 : Int32).toInt.toNat + 1) 0 _ _ v0 (by rw [hk]; decide) (by rw [hk]; decide) (by rw [hk]; decide) (by decide) (by decide) (by clear h z1 v1 r v0; grind) (Nat.lt_succ_self _) (Nat.lt_succ_self _)
      have q1 := r0.2.2.2.2.2.2 29 b 0 (by decide) (by decide) (by decide) (by decide) (by decide) (by decide)
      have q2 := r0.2.2.2.1 t (gA S 15 t + 1) hf.1.1 hf.1.2 hf.2.2.2 hf.2.2.1
      have q3 := r0.2.2.1 t hf.1.1 hf.1.2 hf.2.2.2 hf.2.2.1
      rw [q2] at r
      have q4 : gA (sA (G_with_L247 b ((gA S 33 b).toInt.toNat + 1) S).2 29 b 0) 13 t = 1 := by simp only [gA_sA]; simp; exact q3.2.2.1.trans hf.2.1
      rw [e33z, q1, fin_1 q4, ← gs_sA (by decide) (by decide) (by decide)]
      obtain ⟨-, r2, -, -, r5, r6, -⟩ := r
      generalize (G_with_L247 b ((gA S 33 b).toInt.toNat + 1) S).2 = S5 at r2 r5 r6 ⊢
      have k5 : gA (gs S5 t (gA S 15 t + 1)) 28 b = 3 := by rw [r5 28 b (by decide) (by decide) (by decide) (by decide) (by decide)]; exact k1
      refine ⟨m_29 r2.1 (by rw [k5]; decide) hb, j_29 r2.2.1 (Int32.le_refl _) (by rw [k5]; decide) ?_, r2.2.2⟩
      have y := r2.2.1.1 b hb.1 hb.2
      have y2 := (pre_lv hb r2.1).1
      rw [k5] at y ⊢
      unfold jOb at y ⊢
      clear h z1 v1 r0 q1 q2 q3 q4 r2 r5 hf2 hf v0
      grind
    · rw [if_neg d, G_with_L129, e29, if_neg d, fin_1 hf2.2.1, ← gs_sA (by decide) (by decide) (by decide)]
      refine ⟨m_29 z1.1 (by rw [k1]; decide) hb, j_29 z1.2.1 (Int32.le_refl _) (by rw [k1]; decide) ?_, Rel_la z1.2.2 k1⟩
      simp only [gs_o (show (28 : Nat) ≠ 13 by decide) (show (28 : Nat) ≠ 15 by decide), gs_o (show (30 : Nat) ≠ 13 by decide) (show (30 : Nat) ≠ 15 by decide), gs_o (show (31 : Nat) ≠ 13 by decide) (show (31 : Nat) ≠ 15 by decide), gs_o (show (33 : Nat) ≠ 13 by decide) (show (33 : Nat) ≠ 15 by decide)]
      rw [hk]
      unfold jOb at zo ⊢
      clear h z1 k1 x3 hf2 hf e29 e33 k2
      grind
end ATB

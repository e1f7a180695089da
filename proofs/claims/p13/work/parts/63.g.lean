/-! both side by side: drop, dead -/
theorem Rel_drop {ad : adT} {e : Int32} {S : mS} {X : xS} {b : Int32} (h : Rel ad e S X) (hb : 0 ≤ b ∧ b < 24) : Rel ad e (sA S 28 b 0) (xwQ X (ad 12 0) b none) := by
  obtain ⟨hj, h1, h2, h3, h4, h5, h6, h7, h8, h9, h10, h11⟩ := h
  refine ⟨hj, by simpa [Rk, xI_I, xI_J, xI_R, xI_A, xI_Q, xJ_I, xJ_J, xJ_R, xJ_A, xJ_Q, xR_I, xR_J, xR_R, xR_A, xR_Q, xA_I, xA_J, xA_R, xA_A, xA_Q, xQ_I, xQ_J, xQ_R, xQ_A, xQ_Q, xC_I, xC_J, xC_R, xC_A, xC_Q, gI_sI, gI_sJ, gI_sA, gI_sL, gJ_sI, gJ_sJ, gJ_sA, gJ_sL, gA_sI, gA_sJ, gA_sA, gA_sL, gL_sI, gL_sJ, gL_sA, gL_sL, inj_e hj] using h1, by simpa [Rz, xI_I, xI_J, xI_R, xI_A, xI_Q, xJ_I, xJ_J, xJ_R, xJ_A, xJ_Q, xR_I, xR_J, xR_R, xR_A, xR_Q, xA_I, xA_J, xA_R, xA_A, xA_Q, xQ_I, xQ_J, xQ_R, xQ_A, xQ_Q, xC_I, xC_J, xC_R, xC_A, xC_Q, gI_sI, gI_sJ, gI_sA, gI_sL, gJ_sI, gJ_sJ, gJ_sA, gJ_sL, gA_sI, gA_sJ, gA_sA, gA_sL, gL_sI, gL_sJ, gL_sA, gL_sL, inj_e hj] using h2, by simpa [Rt, xI_I, xI_J, xI_R, xI_A, xI_Q, xJ_I, xJ_J, xJ_R, xJ_A, xJ_Q, xR_I, xR_J, xR_R, xR_A, xR_Q, xA_I, xA_J, xA_R, xA_A, xA_Q, xQ_I, xQ_J, xQ_R, xQ_A, xQ_Q, xC_I, xC_J, xC_R, xC_A, xC_Q, gI_sI, gI_sJ, gI_sA, gI_sL, gJ_sI, gJ_sJ, gJ_sA, gJ_sL, gA_sI, gA_sJ, gA_sA, gA_sL, gL_sI, gL_sJ, gL_sA, gL_sL, inj_e hj] using h3, by simpa [Rc, cM, xI_I, xI_J, xI_R, xI_A, xI_Q, xJ_I, xJ_J, xJ_R, xJ_A, xJ_Q, xR_I, xR_J, xR_R, xR_A, xR_Q, xA_I, xA_J, xA_R, xA_A, xA_Q, xQ_I, xQ_J, xQ_R, xQ_A, xQ_Q, xC_I, xC_J, xC_R, xC_A, xC_Q, gI_sI, gI_sJ, gI_sA, gI_sL, gJ_sI, gJ_sJ, gJ_sA, gJ_sL, gA_sI, gA_sJ, gA_sA, gA_sL, gL_sI, gL_sJ, gL_sA, gL_sL, inj_e hj] using h4, by simpa [Rp1, xI_I, xI_J, xI_R, xI_A, xI_Q, xJ_I, xJ_J, xJ_R, xJ_A, xJ_Q, xR_I, xR_J, xR_R, xR_A, xR_Q, xA_I, xA_J, xA_R, xA_A, xA_Q, xQ_I, xQ_J, xQ_R, xQ_A, xQ_Q, xC_I, xC_J, xC_R, xC_A, xC_Q, gI_sI, gI_sJ, gI_sA, gI_sL, gJ_sI, gJ_sJ, gJ_sA, gJ_sL, gA_sI, gA_sJ, gA_sA, gA_sL, gL_sI, gL_sJ, gL_sA, gL_sL, inj_e hj] using h5, by simpa [Rp2, nR, xI_I, xI_J, xI_R, xI_A, xI_Q, xJ_I, xJ_J, xJ_R, xJ_A, xJ_Q, xR_I, xR_J, xR_R, xR_A, xR_Q, xA_I, xA_J, xA_R, xA_A, xA_Q, xQ_I, xQ_J, xQ_R, xQ_A, xQ_Q, xC_I, xC_J, xC_R, xC_A, xC_Q, gI_sI, gI_sJ, gI_sA, gI_sL, gJ_sI, gJ_sJ, gJ_sA, gJ_sL, gA_sI, gA_sJ, gA_sA, gA_sL, gL_sI, gL_sJ, gL_sA, gL_sL, inj_e hj] using h6, by simpa [Rp3, xI_I, xI_J, xI_R, xI_A, xI_Q, xJ_I, xJ_J, xJ_R, xJ_A, xJ_Q, xR_I, xR_J, xR_R, xR_A, xR_Q, xA_I, xA_J, xA_R, xA_A, xA_Q, xQ_I, xQ_J, xQ_R, xQ_A, xQ_Q, xC_I, xC_J, xC_R, xC_A, xC_Q, gI_sI, gI_sJ, gI_sA, gI_sL, gJ_sI, gJ_sJ, gJ_sA, gJ_sL, gA_sI, gA_sJ, gA_sA, gA_sL, gL_sI, gL_sJ, gL_sA, gL_sL, inj_e hj] using h7, ?_, ?_, ?_, ?_⟩
  · intro d d0 d1
    have z := h8 d d0 d1
    by_cases q : d = b
    · subst q; simp [xI_I, xI_J, xI_R, xI_A, xI_Q, xJ_I, xJ_J, xJ_R, xJ_A, xJ_Q, xR_I, xR_J, xR_R, xR_A, xR_Q, xA_I, xA_J, xA_R, xA_A, xA_Q, xQ_I, xQ_J, xQ_R, xQ_A, xQ_Q, xC_I, xC_J, xC_R, xC_A, xC_Q, gI_sI, gI_sJ, gI_sA, gI_sL, gJ_sI, gJ_sJ, gJ_sA, gJ_sL, gA_sI, gA_sJ, gA_sA, gA_sL, gL_sI, gL_sJ, gL_sA, gL_sL, inj_e hj]
    · have ne : d.toNatClampNeg ≠ b.toNatClampNeg := fun y => q (tn_inj d0 hb.1 y)
      simp only [rOb, xI_I, xI_J, xI_R, xI_A, xI_Q, xJ_I, xJ_J, xJ_R, xJ_A, xJ_Q, xR_I, xR_J, xR_R, xR_A, xR_Q, xA_I, xA_J, xA_R, xA_A, xA_Q, xQ_I, xQ_J, xQ_R, xQ_A, xQ_Q, xC_I, xC_J, xC_R, xC_A, xC_Q, gI_sI, gI_sJ, gI_sA, gI_sL, gJ_sI, gJ_sJ, gJ_sA, gJ_sL, gA_sI, gA_sJ, gA_sA, gA_sL, gL_sI, gL_sJ, gL_sA, gL_sL, inj_e hj, q, ne]
      simpa [rOb] using z
  · intro d d0 d1 dk
    have q : d ≠ b := fun q => by subst q; simp [xI_I, xI_J, xI_R, xI_A, xI_Q, xJ_I, xJ_J, xJ_R, xJ_A, xJ_Q, xR_I, xR_J, xR_R, xR_A, xR_Q, xA_I, xA_J, xA_R, xA_A, xA_Q, xQ_I, xQ_J, xQ_R, xQ_A, xQ_Q, xC_I, xC_J, xC_R, xC_A, xC_Q, gI_sI, gI_sJ, gI_sA, gI_sL, gJ_sI, gJ_sJ, gJ_sA, gJ_sL, gA_sI, gA_sJ, gA_sA, gA_sL, gL_sI, gL_sJ, gL_sA, gL_sL, inj_e hj] at dk
    have z := h9 d d0 d1 (by simpa [xI_I, xI_J, xI_R, xI_A, xI_Q, xJ_I, xJ_J, xJ_R, xJ_A, xJ_Q, xR_I, xR_J, xR_R, xR_A, xR_Q, xA_I, xA_J, xA_R, xA_A, xA_Q, xQ_I, xQ_J, xQ_R, xQ_A, xQ_Q, xC_I, xC_J, xC_R, xC_A, xC_Q, gI_sI, gI_sJ, gI_sA, gI_sL, gJ_sI, gJ_sJ, gJ_sA, gJ_sL, gA_sI, gA_sJ, gA_sA, gA_sL, gL_sI, gL_sJ, gL_sA, gL_sL, inj_e hj, q] using dk)
    simpa [xI_I, xI_J, xI_R, xI_A, xI_Q, xJ_I, xJ_J, xJ_R, xJ_A, xJ_Q, xR_I, xR_J, xR_R, xR_A, xR_Q, xA_I, xA_J, xA_R, xA_A, xA_Q, xQ_I, xQ_J, xQ_R, xQ_A, xQ_Q, xC_I, xC_J, xC_R, xC_A, xC_Q, gI_sI, gI_sJ, gI_sA, gI_sL, gJ_sI, gJ_sJ, gJ_sA, gJ_sL, gA_sI, gA_sJ, gA_sA, gA_sL, gL_sI, gL_sJ, gL_sA, gL_sL, inj_e hj, q] using z
  · intro d d0 d1 dk
    have q : d ≠ b := fun q => by subst q; simp [xI_I, xI_J, xI_R, xI_A, xI_Q, xJ_I, xJ_J, xJ_R, xJ_A, xJ_Q, xR_I, xR_J, xR_R, xR_A, xR_Q, xA_I, xA_J, xA_R, xA_A, xA_Q, xQ_I, xQ_J, xQ_R, xQ_A, xQ_Q, xC_I, xC_J, xC_R, xC_A, xC_Q, gI_sI, gI_sJ, gI_sA, gI_sL, gJ_sI, gJ_sJ, gJ_sA, gJ_sL, gA_sI, gA_sJ, gA_sA, gA_sL, gL_sI, gL_sJ, gL_sA, gL_sL, inj_e hj] at dk
    have z := h10 d d0 d1 (by simpa [xI_I, xI_J, xI_R, xI_A, xI_Q, xJ_I, xJ_J, xJ_R, xJ_A, xJ_Q, xR_I, xR_J, xR_R, xR_A, xR_Q, xA_I, xA_J, xA_R, xA_A, xA_Q, xQ_I, xQ_J, xQ_R, xQ_A, xQ_Q, xC_I, xC_J, xC_R, xC_A, xC_Q, gI_sI, gI_sJ, gI_sA, gI_sL, gJ_sI, gJ_sJ, gJ_sA, gJ_sL, gA_sI, gA_sJ, gA_sA, gA_sL, gL_sI, gL_sJ, gL_sA, gL_sL, inj_e hj, q] using dk)
    simpa [xI_I, xI_J, xI_R, xI_A, xI_Q, xJ_I, xJ_J, xJ_R, xJ_A, xJ_Q, xR_I, xR_J, xR_R, xR_A, xR_Q, xA_I, xA_J, xA_R, xA_A, xA_Q, xQ_I, xQ_J, xQ_R, xQ_A, xQ_Q, xC_I, xC_J, xC_R, xC_A, xC_Q, gI_sI, gI_sJ, gI_sA, gI_sL, gJ_sI, gJ_sJ, gJ_sA, gJ_sL, gA_sI, gA_sJ, gA_sA, gA_sL, gL_sI, gL_sJ, gL_sA, gL_sL, inj_e hj, q] using z
  · intro d d0 d1 dk
    have q : d ≠ b := fun q => by subst q; simp [xI_I, xI_J, xI_R, xI_A, xI_Q, xJ_I, xJ_J, xJ_R, xJ_A, xJ_Q, xR_I, xR_J, xR_R, xR_A, xR_Q, xA_I, xA_J, xA_R, xA_A, xA_Q, xQ_I, xQ_J, xQ_R, xQ_A, xQ_Q, xC_I, xC_J, xC_R, xC_A, xC_Q, gI_sI, gI_sJ, gI_sA, gI_sL, gJ_sI, gJ_sJ, gJ_sA, gJ_sL, gA_sI, gA_sJ, gA_sA, gA_sL, gL_sI, gL_sJ, gL_sA, gL_sL, inj_e hj] at dk
    have z := h11 d d0 d1 (by simpa [xI_I, xI_J, xI_R, xI_A, xI_Q, xJ_I, xJ_J, xJ_R, xJ_A, xJ_Q, xR_I, xR_J, xR_R, xR_A, xR_Q, xA_I, xA_J, xA_R, xA_A, xA_Q, xQ_I, xQ_J, xQ_R, xQ_A, xQ_Q, xC_I, xC_J, xC_R, xC_A, xC_Q, gI_sI, gI_sJ, gI_sA, gI_sL, gJ_sI, gJ_sJ, gJ_sA, gJ_sL, gA_sI, gA_sJ, gA_sA, gA_sL, gL_sI, gL_sJ, gL_sA, gL_sL, inj_e hj, q] using dk)
    simpa [xI_I, xI_J, xI_R, xI_A, xI_Q, xJ_I, xJ_J, xJ_R, xJ_A, xJ_Q, xR_I, xR_J, xR_R, xR_A, xR_Q, xA_I, xA_J, xA_R, xA_A, xA_Q, xQ_I, xQ_J, xQ_R, xQ_A, xQ_Q, xC_I, xC_J, xC_R, xC_A, xC_Q, gI_sI, gI_sJ, gI_sA, gI_sL, gJ_sI, gJ_sJ, gJ_sA, gJ_sL, gA_sI, gA_sJ, gA_sA, gA_sL, gL_sI, gL_sJ, gL_sA, gL_sL, inj_e hj, q] using z
theorem cnt {ad : adT} {B : Int32} {S : mS} {X : xS} (h : Rel ad (-1) S X) : ∀ (N : Nat) (n i : Int32), 0 ≤ i → i ≤ 24 → (24 - i).toInt.toNat < N → FC_X12_howManySyncs_L13 (ad 12 0) 24 N n i X = (G_objects_L4 S N n i, X) := by
  intro N
  induction N with
  | zero => intro n i _ _ h; exact absurd h (Nat.not_lt_zero _)
  | succ N ih =>
    intro n i i0 i1 hN
    rw [FC_X12_howManySyncs_L13, G_objects_L4]
    by_cases c : (24 : Int32) ≤ i
    · rw [if_pos c, if_pos c]
    · rw [if_neg c, if_neg c]
      have z := h.2.2.2.2.2.2.2.2.1 i i0 (by clear ih h; grind)
      have n1 := msd hN (b := 24 - (i + 1)) (by clear ih h hN; grind) (by clear ih h hN; grind)
      by_cases d : gA S 28 i = 0
      · rw [if_pos d, z.1 d, gO_0]
        repeat rw [gLt_x]
        exact ih _ _ (by clear ih h; grind) (by clear ih h; grind) n1
      · rw [if_neg d, (z.2 d).1, gO_1]
        repeat rw [gLt_x]
        exact ih _ _ (by clear ih h; grind) (by clear ih h; grind) n1
section DR
variable {ad : adT} {B : Int32} {S : mS} {X : xS} {t b : Int32}
theorem cnt_e (h : Rel ad (-1) S X) : FC_X12_howManySyncs X (ad 8 0) = (G_objects S, X) := by
  rw [FC_X12_howManySyncs, G_objects]
  repeat rw [gLt_x]
  rw [h.2.1.2.1, Option.getD_some]
  exact cnt (B := 0) h _ _ _ (by decide) (by decide) (Nat.lt_succ_self _)
theorem s_dr (h : Sim ad B S X) (hb : 0 ≤ b ∧ b < 24) (h33 : gA S 33 b ≤ 0) (hm : mInv (sA S 28 b 0)) : Sim ad B (sA S 28 b 0) (xwQ X (ad 12 0) b none) := by
  have l8 := pre_lv hb h.1
  refine ⟨hm, ?_, Rel_drop h.2.2 hb⟩
  obtain ⟨h1, h2, h3, h4, h5, h6⟩ := h.2.1
  have oo : ∀ k i, k ≠ 28 → gA (sA S 28 b 0) k i = gA S k i := fun k i a => by simp [gA_sA, a]
  have ob : ∀ d, d ≠ b → gA (sA S 28 b 0) 28 d = gA S 28 d := fun d hd => by simp [gA_sA, hd]
  have obb : gA (sA S 28 b 0) 28 b = 0 := by simp [gA_sA]
  have nob : ∀ i, 0 ≤ i → ¬ i < gA S 33 b := fun i i0 i1 => by clear h h1 h2 h3 h4 h5 h6 oo ob; grind
  refine ⟨?_, ?_, ?_, ?_, ?_, ?_⟩
  · intro d d0 d1
    rw [oo 29 d (by decide), oo 30 d (by decide), oo 31 d (by decide), oo 33 d (by decide)]
    by_cases q : d = b
    · subst q; rw [obb]; unfold jOb; clear h h1 h2 h3 h4 h5 h6 oo ob nob; grind
    · rw [ob d q]; exact h1 d d0 d1
  · intro u; rw [oo 13 u (by decide), oo 17 u (by decide), oo 18 u (by decide), oo 22 u (by decide)]; exact h2 u
  · intro u; simp only [inR, oo _ _ (show (13 : Nat) ≠ 28 by decide), oo _ _ (show (16 : Nat) ≠ 28 by decide), oo _ _ (show (21 : Nat) ≠ 28 by decide), oo _ _ (show (32 : Nat) ≠ 28 by decide), oo _ _ (show (33 : Nat) ≠ 28 by decide)]; exact h3 u
  · intro u ue u0 u1 a1 a2
    rw [oo 22 u (by decide)] at a1
    rw [oo 21 u (by decide)] at a2
    obtain ⟨d, d0, d1, dk, i, i0, i1, i2⟩ := h4 u ue u0 u1 a1 a2
    have q : d ≠ b := fun q => by subst q; exact nob i i0 i1
    exact ⟨d, d0, d1, by rw [ob d q]; exact dk, i, i0, by rw [oo 33 d (by decide)]; exact i1, by rw [oo 32 _ (by decide)]; exact i2⟩
  · intro d i d0 d1 i0 i1
    rw [oo 33 d (by decide)] at i1
    have q : d ≠ b := fun q => by subst q; exact nob i i0 i1
    unfold opM
    rw [ob d q, oo 37 d (by decide), oo 29 d (by decide), oo 32 _ (by decide), oo 15 _ (by decide), oo 11 _ (by decide)]
    exact h5 d i d0 d1 i0 i1
  · intro u; rw [oo 21 u (by decide), oo 19 u (by decide)]; exact h6 u
theorem no2 (h : Sim ad B S X) (hb : 0 ≤ b ∧ b < 24) (hk : gA S 28 b ≠ 1) : gA S 35 b ≤ 0 := by
  have l8 := pre_l2 hb h.1
  by_cases c : gA S 35 b ≤ 0
  · exact c
  · exact absurd (fst2 h.1 hb (by clear h; grind)).2.2.2.2.2.2 hk
theorem has9 (h : Rel ad (-1) S X) (hb : 0 ≤ b ∧ b < 24) (hk : gA S 28 b ≠ 0) : FC_X9_hasStrands X (ad 2 b) = (if gA S 33 b ≤ 0 then 0 else 1, X) := by
  rw [FC_X9_hasStrands, gLt_x, gLt_x, ob2 h hb hk, Option.getD_some, rsz h hb hk]
  by_cases c : gA S 33 b ≤ 0
  · rw [if_pos c, if_pos c]
  · rw [if_neg c, if_neg c]
theorem has4 (h : Rel ad (-1) S X) (hb : 0 ≤ b ∧ b < 24) (hk : gA S 28 b = 1) : FC_X4_hasStrands X (ad 2 b) = (if 0 < gA S 33 b then 1 else (if gA S 35 b ≤ 0 then 0 else 1), X) := by
  rw [FC_X4_hasStrands, gLt_x, gLt_x, ob2 h hb (by rw [hk]; decide), Option.getD_some, rsz h hb (by rw [hk]; decide), gLt_x, gLt_x, (lck h hb hk).2.2.2, Option.getD_some, (h.2.2.2.2.2.2.2.2.2.2.1 b hb.1 hb.2 hk).1]
  by_cases c : 0 < gA S 33 b
  · rw [if_pos c, if_pos c]
  · rw [if_neg c, if_neg c]
    by_cases d : gA S 35 b ≤ 0
    · rw [if_pos d, if_pos d]
    · rw [if_neg d, if_neg d]
/-- what drop is in the class where no THREAD is in a row of it -/
theorem dr_tail (h : Rel ad (-1) S X) (hb : 0 ≤ b ∧ b < 24) (h33 : True) : gC (FC_X12_howManySyncs (xwQ X (ad 12 0) b none) (ad 8 0)) (fun r21 Xf19 => ((0 : Int32), r21, Xf19)) = (0, G_objects (sA S 28 b 0), xwQ X (ad 12 0) b none) := by
  rw [cnt_e (Rel_drop h hb), gC_p]
theorem drS (hb : 0 ≤ b ∧ b < 24) (hk : gA S 28 b ≠ 0) : G_drop S b = if 0 < gA S 33 b then (0, sI S 0 2) else (if gA S 35 b ≤ 0 then (G_objects (sA (sI S 0 0) 28 b 0), sA (sI S 0 0) 28 b 0) else (0, sI S 0 2)) := by
  rw [G_drop, gLt_x, isT hb hk, if_neg (by decide), refuse_e, gC_p]
  by_cases c : 0 < gA S 33 b
  · rw [if_pos c, if_pos c]
  · rw [if_neg c, if_neg c]
    by_cases d : gA S 35 b ≤ 0
    · rw [if_pos d, if_pos d]
      repeat rw [gLt_x]
    · rw [if_neg d, if_neg d]
theorem drX (h : Sim ad B S X) (hb : 0 ≤ b ∧ b < 24) (hk : gA S 28 b ≠ 0) : FC_X12_drop X (ad 8 0) b = if 0 < gA S 33 b ∨ ¬ gA S 35 b ≤ 0 then (2, 0, X) else (0, G_objects (sA S 28 b 0), xwQ X (ad 12 0) b none) := by
  have kz := h.2.1.1 b hb.1 hb.2
  have e2 := i32n kz.1
  have hk8 : (gA S 28 b).toNatClampNeg ≤ 8 := by
    have a1 : (gA S 28 b).toInt ≤ 8 := Int32.le_iff_toInt_le.mp kz.2.1
    simp only [Int32.toNatClampNeg]; omega
  have hk0 : (gA S 28 b).toNatClampNeg ≠ 0 := fun z => hk (by rw [e2, z]; decide)
  generalize hM : (gA S 28 b).toNatClampNeg = m at e2 hk8 hk0
  have zq := ((h.2.2.2.2.2.2.2.2.2.2.1 b hb.1 hb.2).2 hk).1
  have k1 := h.2.2.2.1.2.1
  have hc := (xcl h.2.2 hb hk).1
  have t9 := dr_tail h.2.2 hb trivial
  rw [FC_X12_drop, if_neg (show ¬ b < 0 by clear h; grind), gLt_x, k1, Option.getD_some, if_neg (show ¬ 24 ≤ b by clear h; grind), zq, gO_1]
  rcases (show m = 1 ∨ m = 2 ∨ m = 3 ∨ m = 4 ∨ m = 5 ∨ m = 6 ∨ m = 7 ∨ m = 8 by omega) with rfl | rfl | rfl | rfl | rfl | rfl | rfl | rfl
  · replace e2 : gA S 28 b = 1 := e2.trans (by decide)
    rw [e2, show kC9 1 = 3 by decide] at hc
    rw [hc, if_neg (by decide), if_neg (by decide), if_neg (by decide), if_pos (by decide), has4 h.2.2 hb e2, gC_p]
    by_cases c : 0 < gA S 33 b
    · rw [if_pos c, if_neg (by decide), if_pos (Or.inl c)]
    · rw [if_neg c]
      by_cases d : gA S 35 b ≤ 0
      · rw [if_pos d, if_pos rfl, gLt_x, gLt_x, k1, Option.getD_some, t9, if_neg (fun z => z.elim c (fun y => y d))]
      · rw [if_neg d, if_neg (by decide), if_pos (Or.inr d)]
  · replace e2 : gA S 28 b = 2 := e2.trans (by decide)
    rw [e2, show kC9 2 = 6 by decide] at hc
    have n2 := no2 h hb (by rw [e2]; decide)
    rw [hc, if_neg (by decide), if_neg (by decide), if_neg (by decide), if_neg (by decide), if_neg (by decide), has9 h.2.2 hb hk, gC_p]
    by_cases c : gA S 33 b ≤ 0
    · rw [if_pos c, if_pos rfl, gLt_x, gLt_x, k1, Option.getD_some, t9, if_neg (fun z => z.elim (fun y => by clear h; grind) (fun y => y n2))]
    · rw [if_neg c, if_neg (by decide), if_pos (Or.inl (by clear h; grind))]
  · replace e2 : gA S 28 b = 3 := e2.trans (by decide)
    rw [e2, show kC9 3 = 2 by decide] at hc
    have n2 := no2 h hb (by rw [e2]; decide)
    rw [hc, if_neg (by decide), if_neg (by decide), if_pos (by decide), has9 h.2.2 hb hk, gC_p]
    by_cases c : gA S 33 b ≤ 0
    · rw [if_pos c, if_pos rfl, gLt_x, gLt_x, k1, Option.getD_some, t9, if_neg (fun z => z.elim (fun y => by clear h; grind) (fun y => y n2))]
    · rw [if_neg c, if_neg (by decide), if_pos (Or.inl (by clear h; grind))]
  · replace e2 : gA S 28 b = 4 := e2.trans (by decide)
    rw [e2, show kC9 4 = 2 by decide] at hc
    have n2 := no2 h hb (by rw [e2]; decide)
    rw [hc, if_neg (by decide), if_neg (by decide), if_pos (by decide), has9 h.2.2 hb hk, gC_p]
    by_cases c : gA S 33 b ≤ 0
    · rw [if_pos c, if_pos rfl, gLt_x, gLt_x, k1, Option.getD_some, t9, if_neg (fun z => z.elim (fun y => by clear h; grind) (fun y => y n2))]
    · rw [if_neg c, if_neg (by decide), if_pos (Or.inl (by clear h; grind))]
  · replace e2 : gA S 28 b = 5 := e2.trans (by decide)
    rw [e2, show kC9 5 = 4 by decide] at hc
    have n2 := no2 h hb (by rw [e2]; decide)
    rw [hc, if_neg (by decide), if_neg (by decide), if_neg (by decide), if_neg (by decide), if_pos (by decide), has9 h.2.2 hb hk, gC_p]
    by_cases c : gA S 33 b ≤ 0
    · rw [if_pos c, if_pos rfl, gLt_x, gLt_x, k1, Option.getD_some, t9, if_neg (fun z => z.elim (fun y => by clear h; grind) (fun y => y n2))]
    · rw [if_neg c, if_neg (by decide), if_pos (Or.inl (by clear h; grind))]
  · replace e2 : gA S 28 b = 6 := e2.trans (by decide)
    rw [e2, show kC9 6 = 1 by decide] at hc
    have n2 := no2 h hb (by rw [e2]; decide)
    rw [hc, if_neg (by decide), if_pos (by decide), has9 h.2.2 hb hk, gC_p]
    by_cases c : gA S 33 b ≤ 0
    · rw [if_pos c, if_pos rfl, gLt_x, gLt_x, k1, Option.getD_some, t9, if_neg (fun z => z.elim (fun y => by clear h; grind) (fun y => y n2))]
    · rw [if_neg c, if_neg (by decide), if_pos (Or.inl (by clear h; grind))]
  · replace e2 : gA S 28 b = 7 := e2.trans (by decide)
    rw [e2, show kC9 7 = 1 by decide] at hc
    have n2 := no2 h hb (by rw [e2]; decide)
    rw [hc, if_neg (by decide), if_pos (by decide), has9 h.2.2 hb hk, gC_p]
    by_cases c : gA S 33 b ≤ 0
    · rw [if_pos c, if_pos rfl, gLt_x, gLt_x, k1, Option.getD_some, t9, if_neg (fun z => z.elim (fun y => by clear h; grind) (fun y => y n2))]
    · rw [if_neg c, if_neg (by decide), if_pos (Or.inl (by clear h; grind))]
  · replace e2 : gA S 28 b = 8 := e2.trans (by decide)
    rw [e2, show kC9 8 = 0 by decide] at hc
    have n2 := no2 h hb (by rw [e2]; decide)
    rw [hc, if_pos (by decide), has9 h.2.2 hb hk, gC_p]
    by_cases c : gA S 33 b ≤ 0
    · rw [if_pos c, if_pos rfl, gLt_x, gLt_x, k1, Option.getD_some, t9, if_neg (fun z => z.elim (fun y => by clear h; grind) (fun y => y n2))]
    · rw [if_neg c, if_neg (by decide), if_pos (Or.inl (by clear h; grind))]
theorem t_drop {i : Int32} (h : Sim ad B S X) : Both ad B (G_drop S i) (FC_X12_drop X (ad 8 0) i) := by
  by_cases c : 0 ≤ i ∧ i < 24 ∧ gA S 28 i ≠ 0
  · have hb : 0 ≤ i ∧ i < 24 := ⟨c.1, c.2.1⟩
    have mp : mInv (G_drop S i).2 := (p_drop S i h.1 (G_drop S i).1 (G_drop S i).2 rfl).1
    rw [drX h hb c.2.2]
    rw [drS hb c.2.2] at mp ⊢
    by_cases d : 0 < gA S 33 i
    · rw [if_pos d, if_pos (Or.inl d)]; exact b_ref h (by decide)
    · rw [if_neg d] at mp ⊢
      by_cases e : gA S 35 i ≤ 0
      · rw [if_pos e] at mp ⊢
        rw [if_neg (fun z => z.elim d (fun y => y e))]
        have s1 := s_I (k := 0) (v := 0) h (by decide)
        have e0 : gI (sI S 0 0) 0 = 0 := by simp [gI_sI]
        have eo : G_objects (sA S 28 i 0) = G_objects (sA (sI S 0 0) 28 i 0) := (Prod.mk.inj ((cnt_e (Rel_drop h.2.2 hb)).symm.trans (cnt_e (Rel_drop s1.2.2 hb)))).1
        have e33 : gA (sI S 0 0) 33 i ≤ 0 := by rw [gA_sI]; clear h s1 mp eo; grind
        rw [eo]
        refine ⟨?_, fun _ => Eq.refl _, s_dr s1 hb e33 mp⟩
        rw [gI_sA]; exact e0.symm
      · rw [if_neg e, if_pos (Or.inr e)]; exact b_ref h (by decide)
  · rw [G_drop, gLt_x, isT0 c, if_pos rfl, refuse_e, gC_p, FC_X12_drop]
    by_cases d : i < 0
    · rw [if_pos d]; exact b_ref h (by decide)
    · rw [if_neg d, gLt_x, h.2.2.2.1.2.1, Option.getD_some]
      by_cases e : (24 : Int32) ≤ i
      · rw [if_pos e]; exact b_ref h (by decide)
      · have hb : 0 ≤ i ∧ i < 24 := by clear h; grind
        have hk : gA S 28 i = 0 := by
          by_cases q : gA S 28 i = 0
          · exact q
          · exact absurd ⟨hb.1, hb.2, q⟩ c
        rw [if_neg e, (h.2.2.2.2.2.2.2.2.2.2.1 i hb.1 hb.2).1 hk, gO_0]; exact b_ref h (by decide)
/-- whose LOCK one needs -/
theorem R_blk {i : Int32} (h : Sim ad B S X) : FC_X12_blockerOf X (ad 8 0) i = (if 0 ≤ i ∧ i < 8 then G_nextOf S i else -1, X) := by
  rw [FC_X12_blockerOf]
  by_cases c : i < 0
  · rw [if_pos c, if_neg (fun z => by have := z.1; clear h; grind)]
  · rw [if_neg c, gLt_x, h.2.2.2.1.2.2.1, Option.getD_some]
    by_cases d : i < 8
    · have ht : 0 ≤ i ∧ i < 8 := by clear h; grind
      rw [if_pos d, if_pos ht, gLt_x, h.2.2.2.1.2.2.2.2.2.2 i ht.1 ht.2, Option.getD_some, gLt_x, (th0 h.2.2 ht).2.1, G_nextOf]
      by_cases y : gA S 13 i = 2
      · rw [if_pos y, if_pos y]
        obtain ⟨w1, w2, w3, w4, w5⟩ := w_at h ht y
        have hc := (xcl h.2.2 w1 w2).1
        have kz := h.2.1.1 _ w1.1 w1.2
        rw [w3, gO_1, w4, gO_1, gLt_x, ob2 h.2.2 w1 w2, Option.getD_some]
        by_cases k1 : gA S 28 (gA S 16 i) = 1
        · rw [hc, k1, if_pos (by decide)]
          by_cases q : gA S 21 i = 0
          · rw [if_pos q, if_pos q, if_pos rfl, if_pos rfl, gLt_x, (lck h.2.2 w1 k1).1]
          · rw [if_neg q, if_neg q, if_neg (fun z => absurd (h.2.2.1 _ _ _ _ (Option.some.inj z)).1 (by decide))]
        · have q : gA S 21 i = 0 := by
            by_cases q : gA S 21 i = 0
            · exact q
            · exact absurd (w5 q) k1
          have nc : kC9 (gA S 28 (gA S 16 i)) ≠ 3 := by
            unfold kC9
            rw [if_neg k1]
            split
            · decide
            · split
              · decide
              · split
                · decide
                · split
                  · decide
                  · split
                    · decide
                    · decide
          rw [hc, if_neg nc, if_pos q, if_neg k1]
      · rw [if_neg y, if_neg y]
    · rw [if_neg d, if_neg (fun z => by have := z.2; clear h; grind)]
end DR
theorem L16_n {ad : adT} {B : Int32} {S : mS} {X : xS} {t : Int32} {K : Int32 → xS → Int32 × xS} (h : Sim ad B S X) (ht : 0 ≤ t ∧ t < 8) : ∀ (M : Nat) (r i : Int32), ¬ (0 ≤ r ∧ r < 8) → 0 ≤ i → i ≤ 8 → (8 - i).toInt.toNat < M → FC_X12_dead_L16 (ad 8 0) t K M r i X = K (t + 1) X := by
  intro M
  induction M with
  | zero => intro r i _ _ _ h; exact absurd h (Nat.not_lt_zero _)
  | succ M ih =>
    intro r i hr i0 i8 hM
    have ne : r ≠ t := fun q => hr (by rw [q]; exact ht)
    rw [FC_X12_dead_L16]
    by_cases c : (8 : Int32) ≤ i
    · rw [if_pos c, if_neg ne, gLt_x]
    · rw [if_neg c, if_neg ne, R_blk h, if_neg hr, gC_p, gLt_x]
      exact ih (-1) (i + 1) (by decide) (by clear ih h; grind) (by clear ih h; grind) (msd hM (by clear ih h; grind) (by clear ih h; grind))
theorem L16_s {ad : adT} {B : Int32} {S : mS} {X : xS} {t : Int32} {K : Int32 → xS → Int32 × xS} {K7 : Int32 → Int32 × mS} (h : Sim ad B S X) (ht : 0 ≤ t ∧ t < 8) (hK : K (t + 1) X = ((K7 (t + 1)).1, X)) : ∀ (N M : Nat) (k i : Int32), 0 ≤ k → k < 8 → 0 ≤ i → i < 8 → (8 - i).toInt.toNat < N → (8 - (i + 1)).toInt.toNat < M → FC_X12_dead_L16 (ad 8 0) t K M (G_nextOf S k) (i + 1) X = ((G_dead_L17 S t K7 N k i).1, X) := by
  intro N
  induction N with
  | zero => intro M k i _ _ _ _ h; exact absurd h (Nat.not_lt_zero _)
  | succ N ih =>
    intro M k i k0 k1 i0 i1 hN hM
    have nr := (p_nextOf S k h.1 ⟨k0, k1⟩ _ rfl).2
    rw [G_dead_L17, if_neg (show ¬ 8 ≤ i by clear ih h; grind), if_neg (show ¬ k < 0 by clear ih h; grind), gLt_x]
    generalize G_nextOf S k = r at nr ⊢
    cases M with
    | zero => exact absurd hM (Nat.not_lt_zero _)
    | succ M =>
      by_cases e : r = t
      · rw [if_pos e, FC_X12_dead_L16]
        by_cases c : (8 : Int32) ≤ i + 1
        · rw [if_pos c, if_pos e]
        · rw [if_neg c, if_pos e, if_pos e]
      · rw [if_neg e, gLt_x]
        by_cases r0 : 0 ≤ r
        · have hr : 0 ≤ r ∧ r < 8 := by clear ih h; grind
          by_cases c : (8 : Int32) ≤ i + 1
          · rw [FC_X12_dead_L16, if_pos c, if_neg e, gLt_x, hK]
            cases N with
            | zero => exfalso; have := msd hN (b := 8 - (i + 1)) (by clear ih h; grind) (by clear ih h; grind); exact absurd this (Nat.not_lt_zero _)
            | succ N => rw [G_dead_L17, if_pos c, gLt_x]
          · rw [FC_X12_dead_L16, if_neg c, if_neg e, R_blk h, if_pos hr, gC_p, gLt_x]
            exact ih M r (i + 1) hr.1 hr.2 (by clear ih h; grind) (by clear ih h; grind) (msd hN (by clear ih h; grind) (by clear ih h; grind)) (msd hM (by clear ih h; grind) (by clear ih h; grind))
        · have hr : ¬ (0 ≤ r ∧ r < 8) := fun z => r0 z.1
          rw [L16_n h ht (M + 1) r (i + 1) hr (by clear ih h; grind) (by clear ih h; grind) hM, hK]
          cases N with
          | zero => exfalso; have := msd hN (b := 8 - (i + 1)) (by clear ih h; grind) (by clear ih h; grind); exact absurd this (Nat.not_lt_zero _)
          | succ N =>
            rw [G_dead_L17]
            by_cases c : (8 : Int32) ≤ i + 1
            · rw [if_pos c, gLt_x]
            · rw [if_neg c, if_pos (show r < 0 by clear ih h; grind), gLt_x]
theorem dd_7 {ad : adT} {B : Int32} {S : mS} {X : xS} (h : Sim ad B S X) : ∀ (N M : Nat) (t : Int32), 0 ≤ t → t ≤ 8 → (8 - t).toInt.toNat < N → (8 - t).toInt.toNat < M → FC_X12_dead_L2 (ad 8 0) M t X = ((G_dead_L7 S N t).1, X) ∧ (G_dead_L7 S N t).2 = S := by
  intro N
  induction N with
  | zero => intro M t _ _ h; exact absurd h (Nat.not_lt_zero _)
  | succ N ih =>
    intro M t t0 t8 hN hM
    cases M with
    | zero => exact absurd hM (Nat.not_lt_zero _)
    | succ M =>
      rw [FC_X12_dead_L2, G_dead_L7]
      by_cases c : (8 : Int32) ≤ t
      · rw [if_pos c, if_pos c]; exact ⟨rfl, rfl⟩
      · have ht : 0 ≤ t ∧ t < 8 := by clear ih h; grind
        have r := ih M (t + 1) (by clear ih h; grind) (by clear ih h; grind) (msd hN (by clear ih h; grind) (by clear ih h; grind)) (msd hM (by clear ih h; grind) (by clear ih h; grind))
        rw [if_neg c, if_neg c, R_blk h, if_pos ht, gC_p, gLt_x, gLt_x]
        refine ⟨?_, ?_⟩
        · have z := L16_s (K := fun z0 z1 => FC_X12_dead_L2 (ad 8 0) M z0 z1) (K7 := fun z0 => G_dead_L7 S N z0) h ht r.1 ((8 - 0 : Int32).toInt.toNat + 1) ((8 - 1 : Int32).toInt.toNat + 1) t 0 ht.1 ht.2 (by decide) (by decide) (Nat.lt_succ_self _) (Nat.lt_succ_self _)
          rw [show (0 : Int32) + 1 = 1 by decide] at z
          exact z
        · have key : ∀ (Q : Nat) (k i : Int32), (8 - i).toInt.toNat < Q → 0 ≤ i → i ≤ 8 → (G_dead_L17 S t (fun z0 => G_dead_L7 S N z0) Q k i).2 = S := by
            intro Q
            induction Q with
            | zero => intro k i h; exact absurd h (Nat.not_lt_zero _)
            | succ Q iq =>
              intro k i hQ i0 i8
              rw [G_dead_L17]
              by_cases a : (8 : Int32) ≤ i
              · rw [if_pos a, gLt_x]; exact r.2
              · rw [if_neg a]
                by_cases b : k < 0
                · rw [if_pos b, gLt_x]; exact r.2
                · rw [if_neg b, gLt_x]
                  by_cases e : G_nextOf S k = t
                  · rw [if_pos e]
                  · rw [if_neg e, gLt_x]
                    exact iq _ _ (msd hQ (by clear ih h iq r; grind) (by clear ih h iq r; grind)) (by clear ih h iq r; grind) (by clear ih h iq r; grind)
          exact key _ _ _ (Nat.lt_succ_self _) (by decide) (by decide)
theorem t_dead {ad : adT} {B : Int32} {S : mS} {X : xS} (h : Sim ad B S X) : FC_X12_dead X (ad 8 0) = ((G_dead S).1, X) ∧ Sim ad B (G_dead S).2 X := by
  have s1 := s_I (k := 0) (v := 0) h (by decide)
  rw [FC_X12_dead, G_dead, gLt_x, gLt_x, gLt_x]
  have r := dd_7 s1 ((8 - 0 : Int32).toInt.toNat + 1) ((8 - 0 : Int32).toInt.toNat + 1) 0 (by decide) (by decide) (Nat.lt_succ_self _) (Nat.lt_succ_self _)
  exact ⟨r.1, by rw [r.2]; exact s1⟩

/-! both side by side: at a QUEUE, a ring in the one, a row in the other -/
theorem rx1 {h i f : Int32} (h0 : 0 ≤ h) (h1 : h < f) (i0 : 0 ≤ i) (i1 : i < f) (h3 : f ≤ 100) : 0 ≤ h + i ∧ h + i < f + f := by grind
theorem rx2 {s f : Int32} (h0 : 0 ≤ s) (h1 : s < f + f) (h2 : f ≤ s) (h4 : 0 < f) (h3 : f ≤ 100) : 0 ≤ s - f ∧ s - f < f := by grind
theorem rx3 {a b : Int32} (h : ¬ a < b) : b ≤ a := by grind
theorem rx4 {a b : Int32} (h : 0 ≤ a) (h2 : a < b) : 0 < b := by grind
theorem rix_r {h i f : Int32} (h1 : 0 ≤ h ∧ h < f) (h2 : 0 ≤ i ∧ i < f) (h3 : f ≤ 100) : 0 ≤ rix h i f ∧ rix h i f < f := by
  have a := rx1 h1.1 h1.2 h2.1 h2.2 h3
  unfold rix
  by_cases c : h + i < f
  · rw [if_pos c]; exact ⟨a.1, c⟩
  · rw [if_neg c]; exact rx2 a.1 a.2 (rx3 c) (rx4 h1.1 h1.2) h3
theorem rix_inj {h i j f : Int32} (h1 : 0 ≤ h ∧ h < f) (h2 : 0 ≤ i ∧ i < f) (h4 : 0 ≤ j ∧ j < f) (h3 : f ≤ 100) (e : rix h i f = rix h j f) : i = j := by
  unfold rix at e; split at e <;> split at e <;> grind
/-- the place behind the first one -/
def rn (h f : Int32) : Int32 := if f ≤ h + 1 then 0 else h + 1
theorem rn_r {h f : Int32} (h1 : 0 ≤ h ∧ h < f) (h3 : f ≤ 100) : 0 ≤ rn h f ∧ rn h f < f := by
  unfold rn; split <;> grind
theorem rix_s {h i f : Int32} (h1 : 0 ≤ h ∧ h < f) (h2 : 0 ≤ i ∧ i + 1 < f) (h3 : f ≤ 100) (h4 : i < f) : rix (rn h f) i f = rix h (i + 1) f := by
  unfold rix rn; split <;> split <;> split <;> grind
theorem rix_0 {h f : Int32} (h1 : 0 ≤ h ∧ h < f) : rix h 0 f = h := by
  unfold rix; split <;> grind
theorem Rel_app {ad : adT} {e : Int32} {S : mS} {X : xS} {b v : Int32} (h : Rel ad e S X) (hm : mInv S) (hk : gA S 28 b = 5) (hb : 0 ≤ b ∧ b < 24) (hq : 0 ≤ gA S 37 b ∧ gA S 37 b < gA S 29 b) (h100 : gA S 29 b ≤ 100) : Rel ad e (sA (sA S 36 (100 * b + gA S 37 b) v) 37 b (gA S 37 b + 1)) (xwI (xwA X (ad 7 b) (rix (xI X (ad 2 b) 4) (gA S 37 b) (gA S 29 b)) v) (ad 2 b) 5 (gA S 37 b + 1)) := by
  obtain ⟨hj, h1, h2, h3, h4, h5, h6, h7, h8, h9, h10, h11⟩ := h
  refine ⟨hj, by simpa [Rk, xI_I, xI_J, xI_R, xI_A, xI_Q, xJ_I, xJ_J, xJ_R, xJ_A, xJ_Q, xR_I, xR_J, xR_R, xR_A, xR_Q, xA_I, xA_J, xA_R, xA_A, xA_Q, xQ_I, xQ_J, xQ_R, xQ_A, xQ_Q, xC_I, xC_J, xC_R, xC_A, xC_Q, gI_sI, gI_sJ, gI_sA, gI_sL, gJ_sI, gJ_sJ, gJ_sA, gJ_sL, gA_sI, gA_sJ, gA_sA, gA_sL, gL_sI, gL_sJ, gL_sA, gL_sL, inj_e hj] using h1, by simpa [Rz, xI_I, xI_J, xI_R, xI_A, xI_Q, xJ_I, xJ_J, xJ_R, xJ_A, xJ_Q, xR_I, xR_J, xR_R, xR_A, xR_Q, xA_I, xA_J, xA_R, xA_A, xA_Q, xQ_I, xQ_J, xQ_R, xQ_A, xQ_Q, xC_I, xC_J, xC_R, xC_A, xC_Q, gI_sI, gI_sJ, gI_sA, gI_sL, gJ_sI, gJ_sJ, gJ_sA, gJ_sL, gA_sI, gA_sJ, gA_sA, gA_sL, gL_sI, gL_sJ, gL_sA, gL_sL, inj_e hj] using h2, by simpa [Rt, xI_I, xI_J, xI_R, xI_A, xI_Q, xJ_I, xJ_J, xJ_R, xJ_A, xJ_Q, xR_I, xR_J, xR_R, xR_A, xR_Q, xA_I, xA_J, xA_R, xA_A, xA_Q, xQ_I, xQ_J, xQ_R, xQ_A, xQ_Q, xC_I, xC_J, xC_R, xC_A, xC_Q, gI_sI, gI_sJ, gI_sA, gI_sL, gJ_sI, gJ_sJ, gJ_sA, gJ_sL, gA_sI, gA_sJ, gA_sA, gA_sL, gL_sI, gL_sJ, gL_sA, gL_sL, inj_e hj] using h3, by simpa [Rc, cM, xI_I, xI_J, xI_R, xI_A, xI_Q, xJ_I, xJ_J, xJ_R, xJ_A, xJ_Q, xR_I, xR_J, xR_R, xR_A, xR_Q, xA_I, xA_J, xA_R, xA_A, xA_Q, xQ_I, xQ_J, xQ_R, xQ_A, xQ_Q, xC_I, xC_J, xC_R, xC_A, xC_Q, gI_sI, gI_sJ, gI_sA, gI_sL, gJ_sI, gJ_sJ, gJ_sA, gJ_sL, gA_sI, gA_sJ, gA_sA, gA_sL, gL_sI, gL_sJ, gL_sA, gL_sL, inj_e hj] using h4, by simpa [Rp1, xI_I, xI_J, xI_R, xI_A, xI_Q, xJ_I, xJ_J, xJ_R, xJ_A, xJ_Q, xR_I, xR_J, xR_R, xR_A, xR_Q, xA_I, xA_J, xA_R, xA_A, xA_Q, xQ_I, xQ_J, xQ_R, xQ_A, xQ_Q, xC_I, xC_J, xC_R, xC_A, xC_Q, gI_sI, gI_sJ, gI_sA, gI_sL, gJ_sI, gJ_sJ, gJ_sA, gJ_sL, gA_sI, gA_sJ, gA_sA, gA_sL, gL_sI, gL_sJ, gL_sA, gL_sL, inj_e hj] using h5, by simpa [Rp2, nR, xI_I, xI_J, xI_R, xI_A, xI_Q, xJ_I, xJ_J, xJ_R, xJ_A, xJ_Q, xR_I, xR_J, xR_R, xR_A, xR_Q, xA_I, xA_J, xA_R, xA_A, xA_Q, xQ_I, xQ_J, xQ_R, xQ_A, xQ_Q, xC_I, xC_J, xC_R, xC_A, xC_Q, gI_sI, gI_sJ, gI_sA, gI_sL, gJ_sI, gJ_sJ, gJ_sA, gJ_sL, gA_sI, gA_sJ, gA_sA, gA_sL, gL_sI, gL_sJ, gL_sA, gL_sL, inj_e hj] using h6, by simpa [Rp3, xI_I, xI_J, xI_R, xI_A, xI_Q, xJ_I, xJ_J, xJ_R, xJ_A, xJ_Q, xR_I, xR_J, xR_R, xR_A, xR_Q, xA_I, xA_J, xA_R, xA_A, xA_Q, xQ_I, xQ_J, xQ_R, xQ_A, xQ_Q, xC_I, xC_J, xC_R, xC_A, xC_Q, gI_sI, gI_sJ, gI_sA, gI_sL, gJ_sI, gJ_sJ, gJ_sA, gJ_sL, gA_sI, gA_sJ, gA_sA, gA_sL, gL_sI, gL_sJ, gL_sA, gL_sL, inj_e hj] using h7, ?_, by simpa [Rr, xI_I, xI_J, xI_R, xI_A, xI_Q, xJ_I, xJ_J, xJ_R, xJ_A, xJ_Q, xR_I, xR_J, xR_R, xR_A, xR_Q, xA_I, xA_J, xA_R, xA_A, xA_Q, xQ_I, xQ_J, xQ_R, xQ_A, xQ_Q, xC_I, xC_J, xC_R, xC_A, xC_Q, gI_sI, gI_sJ, gI_sA, gI_sL, gJ_sI, gJ_sJ, gJ_sA, gJ_sL, gA_sI, gA_sJ, gA_sA, gA_sL, gL_sI, gL_sJ, gL_sA, gL_sL, inj_e hj] using h9, by simpa [Rr2, xI_I, xI_J, xI_R, xI_A, xI_Q, xJ_I, xJ_J, xJ_R, xJ_A, xJ_Q, xR_I, xR_J, xR_R, xR_A, xR_Q, xA_I, xA_J, xA_R, xA_A, xA_Q, xQ_I, xQ_J, xQ_R, xQ_A, xQ_Q, xC_I, xC_J, xC_R, xC_A, xC_Q, gI_sI, gI_sJ, gI_sA, gI_sL, gJ_sI, gJ_sJ, gJ_sA, gJ_sL, gA_sI, gA_sJ, gA_sA, gA_sL, gL_sI, gL_sJ, gL_sA, gL_sL, inj_e hj] using h10, ?_⟩
  · intro d d0 d1
    have z := h8 d d0 d1
    by_cases q : d = b
    · subst q; simp [rOb, xI_I, xI_J, xI_R, xI_A, xI_Q, xJ_I, xJ_J, xJ_R, xJ_A, xJ_Q, xR_I, xR_J, xR_R, xR_A, xR_Q, xA_I, xA_J, xA_R, xA_A, xA_Q, xQ_I, xQ_J, xQ_R, xQ_A, xQ_Q, xC_I, xC_J, xC_R, xC_A, xC_Q, gI_sI, gI_sJ, gI_sA, gI_sL, gJ_sI, gJ_sJ, gJ_sA, gJ_sL, gA_sI, gA_sJ, gA_sA, gA_sL, gL_sI, gL_sJ, gL_sA, gL_sL, inj_e hj, hk] at z ⊢; exact z
    · simp [rOb, xI_I, xI_J, xI_R, xI_A, xI_Q, xJ_I, xJ_J, xJ_R, xJ_A, xJ_Q, xR_I, xR_J, xR_R, xR_A, xR_Q, xA_I, xA_J, xA_R, xA_A, xA_Q, xQ_I, xQ_J, xQ_R, xQ_A, xQ_Q, xC_I, xC_J, xC_R, xC_A, xC_Q, gI_sI, gI_sJ, gI_sA, gI_sL, gJ_sI, gJ_sJ, gJ_sA, gJ_sL, gA_sI, gA_sJ, gA_sA, gA_sL, gL_sI, gL_sJ, gL_sA, gL_sL, inj_e hj, q] at z ⊢; exact z
  · intro d d0 d1 dk
    have dk9 : gA S 28 d = 5 := by simpa [xI_I, xI_J, xI_R, xI_A, xI_Q, xJ_I, xJ_J, xJ_R, xJ_A, xJ_Q, xR_I, xR_J, xR_R, xR_A, xR_Q, xA_I, xA_J, xA_R, xA_A, xA_Q, xQ_I, xQ_J, xQ_R, xQ_A, xQ_Q, xC_I, xC_J, xC_R, xC_A, xC_Q, gI_sI, gI_sJ, gI_sA, gI_sL, gJ_sI, gJ_sJ, gJ_sA, gJ_sL, gA_sI, gA_sJ, gA_sA, gA_sL, gL_sI, gL_sJ, gL_sA, gL_sL, inj_e hj] using dk
    obtain ⟨y1, y2, y3⟩ := h11 d d0 d1 dk9
    by_cases q : d = b
    · subst q
      refine ⟨by simp [xI_I, xI_J, xI_R, xI_A, xI_Q, xJ_I, xJ_J, xJ_R, xJ_A, xJ_Q, xR_I, xR_J, xR_R, xR_A, xR_Q, xA_I, xA_J, xA_R, xA_A, xA_Q, xQ_I, xQ_J, xQ_R, xQ_A, xQ_Q, xC_I, xC_J, xC_R, xC_A, xC_Q, gI_sI, gI_sJ, gI_sA, gI_sL, gJ_sI, gJ_sJ, gJ_sA, gJ_sL, gA_sI, gA_sJ, gA_sA, gA_sL, gL_sI, gL_sJ, gL_sA, gL_sL, inj_e hj], by simpa [xI_I, xI_J, xI_R, xI_A, xI_Q, xJ_I, xJ_J, xJ_R, xJ_A, xJ_Q, xR_I, xR_J, xR_R, xR_A, xR_Q, xA_I, xA_J, xA_R, xA_A, xA_Q, xQ_I, xQ_J, xQ_R, xQ_A, xQ_Q, xC_I, xC_J, xC_R, xC_A, xC_Q, gI_sI, gI_sJ, gI_sA, gI_sL, gJ_sI, gJ_sJ, gJ_sA, gJ_sL, gA_sI, gA_sJ, gA_sA, gA_sL, gL_sI, gL_sJ, gL_sA, gL_sL, inj_e hj] using y2, fun i i0 i1 => ?_⟩
      have i9 : i < gA S 37 d + 1 := by simpa [xI_I, xI_J, xI_R, xI_A, xI_Q, xJ_I, xJ_J, xJ_R, xJ_A, xJ_Q, xR_I, xR_J, xR_R, xR_A, xR_Q, xA_I, xA_J, xA_R, xA_A, xA_Q, xQ_I, xQ_J, xQ_R, xQ_A, xQ_Q, xC_I, xC_J, xC_R, xC_A, xC_Q, gI_sI, gI_sJ, gI_sA, gI_sL, gJ_sI, gJ_sJ, gJ_sA, gJ_sL, gA_sI, gA_sJ, gA_sA, gA_sL, gL_sI, gL_sJ, gL_sA, gL_sL, inj_e hj] using i1
      by_cases y : i = gA S 37 d
      · subst y; simp [xI_I, xI_J, xI_R, xI_A, xI_Q, xJ_I, xJ_J, xJ_R, xJ_A, xJ_Q, xR_I, xR_J, xR_R, xR_A, xR_Q, xA_I, xA_J, xA_R, xA_A, xA_Q, xQ_I, xQ_J, xQ_R, xQ_A, xQ_Q, xC_I, xC_J, xC_R, xC_A, xC_Q, gI_sI, gI_sJ, gI_sA, gI_sL, gJ_sI, gJ_sJ, gJ_sA, gJ_sL, gA_sI, gA_sJ, gA_sA, gA_sL, gL_sI, gL_sJ, gL_sA, gL_sL, inj_e hj]
      · have i8 : i < gA S 37 d := by clear h1 h2 h3 h4 h5 h6 h7 h8 h9 h10 h11 y3; grind
        have a1 := rix_r y2 (i := i) ⟨i0, by clear h1 h2 h3 h4 h5 h6 h7 h8 h9 h10 h11 y3; grind⟩ h100
        have a2 := rix_r y2 (i := gA S 37 d) hq h100
        have ne : (rix (xI X (ad 2 d) 4) i (gA S 29 d)).toNatClampNeg ≠ (rix (xI X (ad 2 d) 4) (gA S 37 d) (gA S 29 d)).toNatClampNeg := fun z => y (rix_inj y2 ⟨i0, by clear h1 h2 h3 h4 h5 h6 h7 h8 h9 h10 h11 y3; grind⟩ hq h100 (tn_inj a1.1 a2.1 z))
        have ne2 : ¬ (100 * d + i = 100 * d + gA S 37 d) := by clear h1 h2 h3 h4 h5 h6 h7 h8 h9 h10 h11 y3; grind
        have z := y3 i i0 i8
        simp only [xI_I, xI_J, xI_R, xI_A, xI_Q, xJ_I, xJ_J, xJ_R, xJ_A, xJ_Q, xR_I, xR_J, xR_R, xR_A, xR_Q, xA_I, xA_J, xA_R, xA_A, xA_Q, xQ_I, xQ_J, xQ_R, xQ_A, xQ_Q, xC_I, xC_J, xC_R, xC_A, xC_Q, gI_sI, gI_sJ, gI_sA, gI_sL, gJ_sI, gJ_sJ, gJ_sA, gJ_sL, gA_sI, gA_sJ, gA_sA, gA_sL, gL_sI, gL_sJ, gL_sA, gL_sL, inj_e hj]
        simp [ne, ne2]
        exact z
    · refine ⟨by simpa [xI_I, xI_J, xI_R, xI_A, xI_Q, xJ_I, xJ_J, xJ_R, xJ_A, xJ_Q, xR_I, xR_J, xR_R, xR_A, xR_Q, xA_I, xA_J, xA_R, xA_A, xA_Q, xQ_I, xQ_J, xQ_R, xQ_A, xQ_Q, xC_I, xC_J, xC_R, xC_A, xC_Q, gI_sI, gI_sJ, gI_sA, gI_sL, gJ_sI, gJ_sJ, gJ_sA, gJ_sL, gA_sI, gA_sJ, gA_sA, gA_sL, gL_sI, gL_sJ, gL_sA, gL_sL, inj_e hj, q] using y1, by simpa [xI_I, xI_J, xI_R, xI_A, xI_Q, xJ_I, xJ_J, xJ_R, xJ_A, xJ_Q, xR_I, xR_J, xR_R, xR_A, xR_Q, xA_I, xA_J, xA_R, xA_A, xA_Q, xQ_I, xQ_J, xQ_R, xQ_A, xQ_Q, xC_I, xC_J, xC_R, xC_A, xC_Q, gI_sI, gI_sJ, gI_sA, gI_sL, gJ_sI, gJ_sJ, gJ_sA, gJ_sL, gA_sI, gA_sJ, gA_sA, gA_sL, gL_sI, gL_sJ, gL_sA, gL_sL, inj_e hj, q] using y2, fun i i0 i1 => ?_⟩
      have i9 : i < gA S 37 d := by simpa [xI_I, xI_J, xI_R, xI_A, xI_Q, xJ_I, xJ_J, xJ_R, xJ_A, xJ_Q, xR_I, xR_J, xR_R, xR_A, xR_Q, xA_I, xA_J, xA_R, xA_A, xA_Q, xQ_I, xQ_J, xQ_R, xQ_A, xQ_Q, xC_I, xC_J, xC_R, xC_A, xC_Q, gI_sI, gI_sJ, gI_sA, gI_sL, gJ_sI, gJ_sJ, gJ_sA, gJ_sL, gA_sI, gA_sJ, gA_sA, gA_sL, gL_sI, gL_sJ, gL_sA, gL_sL, inj_e hj, q] using i1
      have l9 := (hm.2.2.2.1 d d0 d1).2.2.2 dk9
      have ne2 : ¬ (100 * d + i = 100 * b + gA S 37 b) := fun y => q (ix100 ⟨d0, d1⟩ hb ⟨i0, by clear h1 h2 h3 h4 h5 h6 h7 h8 h9 h10 h11 y3 hm; grind⟩ ⟨hq.1, by clear h1 h2 h3 h4 h5 h6 h7 h8 h9 h10 h11 y3 hm; grind⟩ y).1
      have z := y3 i i0 i9
      simpa [xI_I, xI_J, xI_R, xI_A, xI_Q, xJ_I, xJ_J, xJ_R, xJ_A, xJ_Q, xR_I, xR_J, xR_R, xR_A, xR_Q, xA_I, xA_J, xA_R, xA_A, xA_Q, xQ_I, xQ_J, xQ_R, xQ_A, xQ_Q, xC_I, xC_J, xC_R, xC_A, xC_Q, gI_sI, gI_sJ, gI_sA, gI_sL, gJ_sI, gJ_sJ, gJ_sA, gJ_sL, gA_sI, gA_sJ, gA_sA, gA_sL, gL_sI, gL_sJ, gL_sA, gL_sL, inj_e hj, q, ne2] using z
/-- the first one is taken out: S9 is S with a shorter, shifted row -/
theorem Rel_out {ad : adT} {e : Int32} {S S9 : mS} {X : xS} {b : Int32} (h : Rel ad e S X) (hm : mInv S) (hk : gA S 28 b = 5) (hb : 0 ≤ b ∧ b < 24) (hq : 0 < gA S 37 b ∧ gA S 37 b ≤ gA S 29 b) (h100 : gA S 29 b ≤ 100)
    (fo : ∀ k i, k ≠ 36 → k ≠ 37 → gA S9 k i = gA S k i) (fI : ∀ k, gI S9 k = gI S k) (fJ : ∀ k, gJ S9 k = gJ S k) (fL : ∀ k i, gL S9 k i = gL S k i) (f37 : ∀ d, d ≠ b → gA S9 37 d = gA S 37 d) (f37b : gA S9 37 b = gA S 37 b - 1)
    (f36 : ∀ d j, 0 ≤ d → d < 24 → d ≠ b → 0 ≤ j → j < 100 → gA S9 36 (100 * d + j) = gA S 36 (100 * d + j)) (f36b : ∀ j, 0 ≤ j → j < gA S 37 b - 1 → gA S9 36 (100 * b + j) = gA S 36 (100 * b + (j + 1))) : Rel ad e S9 (xwI (xwI X (ad 2 b) 4 (rn (xI X (ad 2 b) 4) (gA S 29 b))) (ad 2 b) 5 (gA S 37 b - 1)) := by
  obtain ⟨hj, h1, h2, h3, h4, h5, h6, h7, h8, h9, h10, h11⟩ := h
  refine ⟨hj, by simpa [Rk, xI_I, xI_J, xI_R, xI_A, xI_Q, xJ_I, xJ_J, xJ_R, xJ_A, xJ_Q, xR_I, xR_J, xR_R, xR_A, xR_Q, xA_I, xA_J, xA_R, xA_A, xA_Q, xQ_I, xQ_J, xQ_R, xQ_A, xQ_Q, xC_I, xC_J, xC_R, xC_A, xC_Q, inj_e hj, fo, fI, fJ, fL] using h1, by simpa [Rz, xI_I, xI_J, xI_R, xI_A, xI_Q, xJ_I, xJ_J, xJ_R, xJ_A, xJ_Q, xR_I, xR_J, xR_R, xR_A, xR_Q, xA_I, xA_J, xA_R, xA_A, xA_Q, xQ_I, xQ_J, xQ_R, xQ_A, xQ_Q, xC_I, xC_J, xC_R, xC_A, xC_Q, inj_e hj, fo, fI, fJ, fL] using h2, by simpa [Rt, xI_I, xI_J, xI_R, xI_A, xI_Q, xJ_I, xJ_J, xJ_R, xJ_A, xJ_Q, xR_I, xR_J, xR_R, xR_A, xR_Q, xA_I, xA_J, xA_R, xA_A, xA_Q, xQ_I, xQ_J, xQ_R, xQ_A, xQ_Q, xC_I, xC_J, xC_R, xC_A, xC_Q, inj_e hj, fo, fI, fJ, fL] using h3, by simpa [Rc, cM, xI_I, xI_J, xI_R, xI_A, xI_Q, xJ_I, xJ_J, xJ_R, xJ_A, xJ_Q, xR_I, xR_J, xR_R, xR_A, xR_Q, xA_I, xA_J, xA_R, xA_A, xA_Q, xQ_I, xQ_J, xQ_R, xQ_A, xQ_Q, xC_I, xC_J, xC_R, xC_A, xC_Q, inj_e hj, fo, fI, fJ, fL] using h4, by simpa [Rp1, xI_I, xI_J, xI_R, xI_A, xI_Q, xJ_I, xJ_J, xJ_R, xJ_A, xJ_Q, xR_I, xR_J, xR_R, xR_A, xR_Q, xA_I, xA_J, xA_R, xA_A, xA_Q, xQ_I, xQ_J, xQ_R, xQ_A, xQ_Q, xC_I, xC_J, xC_R, xC_A, xC_Q, inj_e hj, fo, fI, fJ, fL] using h5, by simpa [Rp2, nR, xI_I, xI_J, xI_R, xI_A, xI_Q, xJ_I, xJ_J, xJ_R, xJ_A, xJ_Q, xR_I, xR_J, xR_R, xR_A, xR_Q, xA_I, xA_J, xA_R, xA_A, xA_Q, xQ_I, xQ_J, xQ_R, xQ_A, xQ_Q, xC_I, xC_J, xC_R, xC_A, xC_Q, inj_e hj, fo, fI, fJ, fL] using h6, by simpa [Rp3, xI_I, xI_J, xI_R, xI_A, xI_Q, xJ_I, xJ_J, xJ_R, xJ_A, xJ_Q, xR_I, xR_J, xR_R, xR_A, xR_Q, xA_I, xA_J, xA_R, xA_A, xA_Q, xQ_I, xQ_J, xQ_R, xQ_A, xQ_Q, xC_I, xC_J, xC_R, xC_A, xC_Q, inj_e hj, fo, fI, fJ, fL] using h7, ?_, by simpa [Rr, xI_I, xI_J, xI_R, xI_A, xI_Q, xJ_I, xJ_J, xJ_R, xJ_A, xJ_Q, xR_I, xR_J, xR_R, xR_A, xR_Q, xA_I, xA_J, xA_R, xA_A, xA_Q, xQ_I, xQ_J, xQ_R, xQ_A, xQ_Q, xC_I, xC_J, xC_R, xC_A, xC_Q, inj_e hj, fo, fI, fJ, fL] using h9, by simpa [Rr2, xI_I, xI_J, xI_R, xI_A, xI_Q, xJ_I, xJ_J, xJ_R, xJ_A, xJ_Q, xR_I, xR_J, xR_R, xR_A, xR_Q, xA_I, xA_J, xA_R, xA_A, xA_Q, xQ_I, xQ_J, xQ_R, xQ_A, xQ_Q, xC_I, xC_J, xC_R, xC_A, xC_Q, inj_e hj, fo, fI, fJ, fL] using h10, ?_⟩
  · intro d d0 d1
    have z := h8 d d0 d1
    by_cases q : d = b
    · subst q; simp [rOb, xI_I, xI_J, xI_R, xI_A, xI_Q, xJ_I, xJ_J, xJ_R, xJ_A, xJ_Q, xR_I, xR_J, xR_R, xR_A, xR_Q, xA_I, xA_J, xA_R, xA_A, xA_Q, xQ_I, xQ_J, xQ_R, xQ_A, xQ_Q, xC_I, xC_J, xC_R, xC_A, xC_Q, inj_e hj, fo, hk] at z ⊢; exact z
    · simp [rOb, xI_I, xI_J, xI_R, xI_A, xI_Q, xJ_I, xJ_J, xJ_R, xJ_A, xJ_Q, xR_I, xR_J, xR_R, xR_A, xR_Q, xA_I, xA_J, xA_R, xA_A, xA_Q, xQ_I, xQ_J, xQ_R, xQ_A, xQ_Q, xC_I, xC_J, xC_R, xC_A, xC_Q, inj_e hj, fo, q] at z ⊢; exact z
  · intro d d0 d1 dk
    rw [fo 28 d (by decide) (by decide)] at dk
    obtain ⟨y1, y2, y3⟩ := h11 d d0 d1 dk
    by_cases q : d = b
    · subst q
      refine ⟨by rw [f37b]; simp [xI_I, xI_J, xI_R, xI_A, xI_Q, xJ_I, xJ_J, xJ_R, xJ_A, xJ_Q, xR_I, xR_J, xR_R, xR_A, xR_Q, xA_I, xA_J, xA_R, xA_A, xA_Q, xQ_I, xQ_J, xQ_R, xQ_A, xQ_Q, xC_I, xC_J, xC_R, xC_A, xC_Q, inj_e hj, fo], by rw [fo 29 d (by decide) (by decide)]; simpa [xI_I, xI_J, xI_R, xI_A, xI_Q, xJ_I, xJ_J, xJ_R, xJ_A, xJ_Q, xR_I, xR_J, xR_R, xR_A, xR_Q, xA_I, xA_J, xA_R, xA_A, xA_Q, xQ_I, xQ_J, xQ_R, xQ_A, xQ_Q, xC_I, xC_J, xC_R, xC_A, xC_Q, inj_e hj, fo] using rn_r y2 h100, fun i i0 i1 => ?_⟩
      rw [f37b] at i1
      have z := y3 (i + 1) (by clear h1 h2 h3 h4 h5 h6 h7 h8 h9 h10 h11 y3 hm fo f36 f36b; grind) (by clear h1 h2 h3 h4 h5 h6 h7 h8 h9 h10 h11 y3 hm fo f36 f36b; grind)
      rw [f36b i i0 i1, ← z, fo 29 d (by decide) (by decide), ← rix_s y2 ⟨i0, by clear h1 h2 h3 h4 h5 h6 h7 h8 h9 h10 h11 y3 hm fo f36 f36b z; grind⟩ h100 (by clear h1 h2 h3 h4 h5 h6 h7 h8 h9 h10 h11 y3 hm fo f36 f36b z; grind)]
      simp [xI_I, xI_J, xI_R, xI_A, xI_Q, xJ_I, xJ_J, xJ_R, xJ_A, xJ_Q, xR_I, xR_J, xR_R, xR_A, xR_Q, xA_I, xA_J, xA_R, xA_A, xA_Q, xQ_I, xQ_J, xQ_R, xQ_A, xQ_Q, xC_I, xC_J, xC_R, xC_A, xC_Q, inj_e hj, fo]
    · have l9 := (hm.2.2.2.1 d d0 d1).2.2.2 dk
      rw [f37 d q, fo 29 d (by decide) (by decide)]
      refine ⟨by simpa [xI_I, xI_J, xI_R, xI_A, xI_Q, xJ_I, xJ_J, xJ_R, xJ_A, xJ_Q, xR_I, xR_J, xR_R, xR_A, xR_Q, xA_I, xA_J, xA_R, xA_A, xA_Q, xQ_I, xQ_J, xQ_R, xQ_A, xQ_Q, xC_I, xC_J, xC_R, xC_A, xC_Q, inj_e hj, fo, q] using y1, by simpa [xI_I, xI_J, xI_R, xI_A, xI_Q, xJ_I, xJ_J, xJ_R, xJ_A, xJ_Q, xR_I, xR_J, xR_R, xR_A, xR_Q, xA_I, xA_J, xA_R, xA_A, xA_Q, xQ_I, xQ_J, xQ_R, xQ_A, xQ_Q, xC_I, xC_J, xC_R, xC_A, xC_Q, inj_e hj, fo, q] using y2, fun i i0 i1 => ?_⟩
      rw [f36 d i d0 d1 q i0 (by clear h1 h2 h3 h4 h5 h6 h7 h8 h9 h10 h11 y3 hm fo f36 f36b; grind)]
      have z := y3 i i0 i1
      simpa [xI_I, xI_J, xI_R, xI_A, xI_Q, xJ_I, xJ_J, xJ_R, xJ_A, xJ_Q, xR_I, xR_J, xR_R, xR_A, xR_Q, xA_I, xA_J, xA_R, xA_A, xA_Q, xQ_I, xQ_J, xQ_R, xQ_A, xQ_Q, xC_I, xC_J, xC_R, xC_A, xC_Q, inj_e hj, fo, q] using z

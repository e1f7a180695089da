/-! both side by side: feed, end; the rows on bits are out of the kit's laws -/
def bt (x : Int32) (i : Nat) : Bool := x.toBitVec.getLsbD i
theorem b_ext {x y : Int32} (h : ∀ i, i < 32 → bt x i = bt y i) : x = y := Int32.toBitVec_inj.mp (BitVec.eq_of_getLsbD_eq (fun i hi => h i hi))
theorem b_or (x y : Int32) (i : Nat) : bt (x ||| y) i = (bt x i || bt y i) := by unfold bt; rw [Int32.toBitVec_or, BitVec.getLsbD_or]
theorem b_and (x y : Int32) (i : Nat) : bt (x &&& y) i = (bt x i && bt y i) := by unfold bt; rw [Int32.toBitVec_and, BitVec.getLsbD_and]
theorem b_xor (x y : Int32) (i : Nat) : bt (x ^^^ y) i = (bt x i ^^ bt y i) := by unfold bt; rw [Int32.toBitVec_xor, BitVec.getLsbD_xor]
theorem b_big {x : Int32} {i : Nat} (h : 32 ≤ i) : bt x i = false := BitVec.getLsbD_of_ge _ _ h
theorem b_255 (i : Nat) : bt 255 i = decide (i < 8) := by
  rcases Nat.lt_or_ge i 32 with h | h
  · exact (by decide +kernel : ∀ i, i < 32 → bt 255 i = decide (i < 8)) i h
  · rw [b_big h, decide_eq_false (by omega)]
theorem b_65535 (i : Nat) : bt 65535 i = decide (i < 16) := by
  rcases Nat.lt_or_ge i 32 with h | h
  · exact (by decide +kernel : ∀ i, i < 32 → bt 65535 i = decide (i < 16)) i h
  · rw [b_big h, decide_eq_false (by omega)]
theorem b_m1 : ∀ i, i < 32 → bt (-1) i = true := by decide +kernel
theorem b_0 (i : Nat) : bt 0 i = false := BitVec.getLsbD_zero
theorem s_l : ∀ n, n < 32 → ((nI n &&& 31).toBitVec.smod 32).toNat = n := by decide +kernel
theorem s_u : ∀ n, n < 32 → (((nI n).toUInt32 &&& Int32.toUInt32 31).toBitVec % 32).toNat = n := by decide +kernel
theorem b_shl (n : Nat) (hn : n < 32) (x : Int32) {i : Nat} (hi : i < 32) : bt (x <<< (nI n &&& 31)) i = (decide (n ≤ i) && bt x (i - n)) := by
  unfold bt
  rw [Int32.toBitVec_shiftLeft]
  show (x.toBitVec <<< ((nI n &&& 31).toBitVec.smod 32).toNat).getLsbD i = _
  rw [s_l n hn, BitVec.getLsbD_shiftLeft]
  rcases Nat.lt_or_ge i n with h | h
  · simp [h, Nat.not_le.mpr h]
  · simp [hi, h, Nat.not_lt.mpr h]
theorem b_ushr (n : Nat) (hn : n < 32) (x : Int32) (i : Nat) : bt ((x.toUInt32 >>> ((nI n).toUInt32 &&& Int32.toUInt32 31)).toInt32) i = bt x (n + i) := by
  show (x.toUInt32 >>> ((nI n).toUInt32 &&& Int32.toUInt32 31)).toBitVec.getLsbD i = x.toUInt32.toBitVec.getLsbD (n + i)
  rw [UInt32.toBitVec_shiftRight]
  show (x.toUInt32.toBitVec >>> (((nI n).toUInt32 &&& Int32.toUInt32 31).toBitVec % 32).toNat).getLsbD i = _
  rw [s_u n hn, BitVec.getLsbD_ushiftRight]
theorem b_sshr (n : Nat) (hn : n < 32) (x : Int32) {i : Nat} (hi : i < 32) : bt (x >>> (nI n &&& 31)) i = if n + i < 32 then bt x (n + i) else bt x 31 := by
  unfold bt
  rw [Int32.toBitVec_shiftRight]
  show (x.toBitVec.sshiftRight ((nI n &&& 31).toBitVec.smod 32).toNat).getLsbD i = _
  rw [s_l n hn, BitVec.getLsbD_sshiftRight, BitVec.msb_eq_getLsbD_last]
  simp [hi]
theorem bp_b (x : Int32) : x.toInt8.toInt32 &&& 255 = x &&& 255 := by
  apply Int32.toBitVec_inj.mp
  rw [Int32.toBitVec_and, Int32.toBitVec_and, Int8.toBitVec_toInt32, Int32.toBitVec_toInt8]
  apply BitVec.eq_of_getLsbD_eq
  intro i hi
  rw [BitVec.getLsbD_and, BitVec.getLsbD_and]
  have hm : ∀ i < 32, 8 ≤ i → (255 : Int32).toBitVec.getLsbD i = false := by decide
  rcases Nat.lt_or_ge i 8 with z | z
  · rw [BitVec.getLsbD_signExtend, BitVec.getLsbD_signExtend, if_pos z, if_pos hi]
    simp only [z, hi, decide_true, Bool.true_and]
  · rw [hm i hi z]; simp
theorem Rel_by {ad : adT} {e : Int32} {S : mS} {X : xS} {x v : Int32} (h : Rel ad e S X) (hp : 0 ≤ gI S 2 ∧ gI S 2 < 1600) (hby : byt x v) : Rel ad e (sI (sA S 1 (gI S 2) v) 2 (gI S 2 + 1)) (xwI (xwA X (ad 11 0) (gI S 2) x) (ad 9 0) 2 (gI S 2 + 1)) := by
  obtain ⟨hj, h1, h2, h3, h4, h5, h6, h7, h8, h9, h10, h11⟩ := h
  refine ⟨hj, by simpa [Rk, xI_I, xI_J, xI_R, xI_A, xI_Q, xJ_I, xJ_J, xJ_R, xJ_A, xJ_Q, xR_I, xR_J, xR_R, xR_A, xR_Q, xA_I, xA_J, xA_R, xA_A, xA_Q, xQ_I, xQ_J, xQ_R, xQ_A, xQ_Q, xC_I, xC_J, xC_R, xC_A, xC_Q, gI_sI, gI_sJ, gI_sA, gI_sL, gJ_sI, gJ_sJ, gJ_sA, gJ_sL, gA_sI, gA_sJ, gA_sA, gA_sL, gL_sI, gL_sJ, gL_sA, gL_sL, inj_e hj] using h1, ?_, by simpa [Rt, xI_I, xI_J, xI_R, xI_A, xI_Q, xJ_I, xJ_J, xJ_R, xJ_A, xJ_Q, xR_I, xR_J, xR_R, xR_A, xR_Q, xA_I, xA_J, xA_R, xA_A, xA_Q, xQ_I, xQ_J, xQ_R, xQ_A, xQ_Q, xC_I, xC_J, xC_R, xC_A, xC_Q, gI_sI, gI_sJ, gI_sA, gI_sL, gJ_sI, gJ_sJ, gJ_sA, gJ_sL, gA_sI, gA_sJ, gA_sA, gA_sL, gL_sI, gL_sJ, gL_sA, gL_sL, inj_e hj] using h3, by simpa [Rc, cM, xI_I, xI_J, xI_R, xI_A, xI_Q, xJ_I, xJ_J, xJ_R, xJ_A, xJ_Q, xR_I, xR_J, xR_R, xR_A, xR_Q, xA_I, xA_J, xA_R, xA_A, xA_Q, xQ_I, xQ_J, xQ_R, xQ_A, xQ_Q, xC_I, xC_J, xC_R, xC_A, xC_Q, gI_sI, gI_sJ, gI_sA, gI_sL, gJ_sI, gJ_sJ, gJ_sA, gJ_sL, gA_sI, gA_sJ, gA_sA, gA_sL, gL_sI, gL_sJ, gL_sA, gL_sL, inj_e hj] using h4, by simpa [Rp1, xI_I, xI_J, xI_R, xI_A, xI_Q, xJ_I, xJ_J, xJ_R, xJ_A, xJ_Q, xR_I, xR_J, xR_R, xR_A, xR_Q, xA_I, xA_J, xA_R, xA_A, xA_Q, xQ_I, xQ_J, xQ_R, xQ_A, xQ_Q, xC_I, xC_J, xC_R, xC_A, xC_Q, gI_sI, gI_sJ, gI_sA, gI_sL, gJ_sI, gJ_sJ, gJ_sA, gJ_sL, gA_sI, gA_sJ, gA_sA, gA_sL, gL_sI, gL_sJ, gL_sA, gL_sL, inj_e hj] using h5, by simpa [Rp2, nR, xI_I, xI_J, xI_R, xI_A, xI_Q, xJ_I, xJ_J, xJ_R, xJ_A, xJ_Q, xR_I, xR_J, xR_R, xR_A, xR_Q, xA_I, xA_J, xA_R, xA_A, xA_Q, xQ_I, xQ_J, xQ_R, xQ_A, xQ_Q, xC_I, xC_J, xC_R, xC_A, xC_Q, gI_sI, gI_sJ, gI_sA, gI_sL, gJ_sI, gJ_sJ, gJ_sA, gJ_sL, gA_sI, gA_sJ, gA_sA, gA_sL, gL_sI, gL_sJ, gL_sA, gL_sL, inj_e hj] using h6, by simpa [Rp3, xI_I, xI_J, xI_R, xI_A, xI_Q, xJ_I, xJ_J, xJ_R, xJ_A, xJ_Q, xR_I, xR_J, xR_R, xR_A, xR_Q, xA_I, xA_J, xA_R, xA_A, xA_Q, xQ_I, xQ_J, xQ_R, xQ_A, xQ_Q, xC_I, xC_J, xC_R, xC_A, xC_Q, gI_sI, gI_sJ, gI_sA, gI_sL, gJ_sI, gJ_sJ, gJ_sA, gJ_sL, gA_sI, gA_sJ, gA_sA, gA_sL, gL_sI, gL_sJ, gL_sA, gL_sL, inj_e hj] using h7, by simpa [Ro, rOb, xI_I, xI_J, xI_R, xI_A, xI_Q, xJ_I, xJ_J, xJ_R, xJ_A, xJ_Q, xR_I, xR_J, xR_R, xR_A, xR_Q, xA_I, xA_J, xA_R, xA_A, xA_Q, xQ_I, xQ_J, xQ_R, xQ_A, xQ_Q, xC_I, xC_J, xC_R, xC_A, xC_Q, gI_sI, gI_sJ, gI_sA, gI_sL, gJ_sI, gJ_sJ, gJ_sA, gJ_sL, gA_sI, gA_sJ, gA_sA, gA_sL, gL_sI, gL_sJ, gL_sA, gL_sL, inj_e hj] using h8, by simpa [Rr, xI_I, xI_J, xI_R, xI_A, xI_Q, xJ_I, xJ_J, xJ_R, xJ_A, xJ_Q, xR_I, xR_J, xR_R, xR_A, xR_Q, xA_I, xA_J, xA_R, xA_A, xA_Q, xQ_I, xQ_J, xQ_R, xQ_A, xQ_Q, xC_I, xC_J, xC_R, xC_A, xC_Q, gI_sI, gI_sJ, gI_sA, gI_sL, gJ_sI, gJ_sJ, gJ_sA, gJ_sL, gA_sI, gA_sJ, gA_sA, gA_sL, gL_sI, gL_sJ, gL_sA, gL_sL, inj_e hj] using h9, by simpa [Rr2, xI_I, xI_J, xI_R, xI_A, xI_Q, xJ_I, xJ_J, xJ_R, xJ_A, xJ_Q, xR_I, xR_J, xR_R, xR_A, xR_Q, xA_I, xA_J, xA_R, xA_A, xA_Q, xQ_I, xQ_J, xQ_R, xQ_A, xQ_Q, xC_I, xC_J, xC_R, xC_A, xC_Q, gI_sI, gI_sJ, gI_sA, gI_sL, gJ_sI, gJ_sJ, gJ_sA, gJ_sL, gA_sI, gA_sJ, gA_sA, gA_sL, gL_sI, gL_sJ, gL_sA, gL_sL, inj_e hj] using h10, by simpa [Rq, xI_I, xI_J, xI_R, xI_A, xI_Q, xJ_I, xJ_J, xJ_R, xJ_A, xJ_Q, xR_I, xR_J, xR_R, xR_A, xR_Q, xA_I, xA_J, xA_R, xA_A, xA_Q, xQ_I, xQ_J, xQ_R, xQ_A, xQ_Q, xC_I, xC_J, xC_R, xC_A, xC_Q, gI_sI, gI_sJ, gI_sA, gI_sL, gJ_sI, gJ_sJ, gJ_sA, gJ_sL, gA_sI, gA_sJ, gA_sA, gA_sL, gL_sI, gL_sJ, gL_sA, gL_sL, inj_e hj] using h11⟩
  · simp [Rz, xI_I, xI_J, xI_R, xI_A, xI_Q, xJ_I, xJ_J, xJ_R, xJ_A, xJ_Q, xR_I, xR_J, xR_R, xR_A, xR_Q, xA_I, xA_J, xA_R, xA_A, xA_Q, xQ_I, xQ_J, xQ_R, xQ_A, xQ_Q, xC_I, xC_J, xC_R, xC_A, xC_Q, gI_sI, gI_sJ, gI_sA, gI_sL, gJ_sI, gJ_sJ, gJ_sA, gJ_sL, gA_sI, gA_sJ, gA_sA, gA_sL, gL_sI, gL_sJ, gL_sA, gL_sL, inj_e hj] at h2 ⊢
    refine ⟨h2.1, h2.2.2.1, fun i i0 i1 => ?_, h2.2.2.2.2⟩
    by_cases q : i = gI S 2
    · subst q; simp; exact hby
    · have ne : i.toNatClampNeg ≠ (gI S 2).toNatClampNeg := fun z => q (tn_inj i0 hp.1 z)
      simp [q, ne]
      exact h2.2.2.2.1 i i0 (by clear h1 h3 h4 h5 h6 h7 h8 h9 h10 h11; grind)
theorem Rel_len {ad : adT} {e : Int32} {S : mS} {X : xS} {v : Int32} (h : Rel ad e S X) (hp : 0 ≤ v ∧ v ≤ gI S 2) : Rel ad e (sI S 2 v) (xwI X (ad 9 0) 2 v) := by
  obtain ⟨hj, h1, h2, h3, h4, h5, h6, h7, h8, h9, h10, h11⟩ := h
  refine ⟨hj, by simpa [Rk, xI_I, xI_J, xI_R, xI_A, xI_Q, xJ_I, xJ_J, xJ_R, xJ_A, xJ_Q, xR_I, xR_J, xR_R, xR_A, xR_Q, xA_I, xA_J, xA_R, xA_A, xA_Q, xQ_I, xQ_J, xQ_R, xQ_A, xQ_Q, xC_I, xC_J, xC_R, xC_A, xC_Q, gI_sI, gI_sJ, gI_sA, gI_sL, gJ_sI, gJ_sJ, gJ_sA, gJ_sL, gA_sI, gA_sJ, gA_sA, gA_sL, gL_sI, gL_sJ, gL_sA, gL_sL, inj_e hj] using h1, ?_, by simpa [Rt, xI_I, xI_J, xI_R, xI_A, xI_Q, xJ_I, xJ_J, xJ_R, xJ_A, xJ_Q, xR_I, xR_J, xR_R, xR_A, xR_Q, xA_I, xA_J, xA_R, xA_A, xA_Q, xQ_I, xQ_J, xQ_R, xQ_A, xQ_Q, xC_I, xC_J, xC_R, xC_A, xC_Q, gI_sI, gI_sJ, gI_sA, gI_sL, gJ_sI, gJ_sJ, gJ_sA, gJ_sL, gA_sI, gA_sJ, gA_sA, gA_sL, gL_sI, gL_sJ, gL_sA, gL_sL, inj_e hj] using h3, by simpa [Rc, cM, xI_I, xI_J, xI_R, xI_A, xI_Q, xJ_I, xJ_J, xJ_R, xJ_A, xJ_Q, xR_I, xR_J, xR_R, xR_A, xR_Q, xA_I, xA_J, xA_R, xA_A, xA_Q, xQ_I, xQ_J, xQ_R, xQ_A, xQ_Q, xC_I, xC_J, xC_R, xC_A, xC_Q, gI_sI, gI_sJ, gI_sA, gI_sL, gJ_sI, gJ_sJ, gJ_sA, gJ_sL, gA_sI, gA_sJ, gA_sA, gA_sL, gL_sI, gL_sJ, gL_sA, gL_sL, inj_e hj] using h4, by simpa [Rp1, xI_I, xI_J, xI_R, xI_A, xI_Q, xJ_I, xJ_J, xJ_R, xJ_A, xJ_Q, xR_I, xR_J, xR_R, xR_A, xR_Q, xA_I, xA_J, xA_R, xA_A, xA_Q, xQ_I, xQ_J, xQ_R, xQ_A, xQ_Q, xC_I, xC_J, xC_R, xC_A, xC_Q, gI_sI, gI_sJ, gI_sA, gI_sL, gJ_sI, gJ_sJ, gJ_sA, gJ_sL, gA_sI, gA_sJ, gA_sA, gA_sL, gL_sI, gL_sJ, gL_sA, gL_sL, inj_e hj] using h5, by simpa [Rp2, nR, xI_I, xI_J, xI_R, xI_A, xI_Q, xJ_I, xJ_J, xJ_R, xJ_A, xJ_Q, xR_I, xR_J, xR_R, xR_A, xR_Q, xA_I, xA_J, xA_R, xA_A, xA_Q, xQ_I, xQ_J, xQ_R, xQ_A, xQ_Q, xC_I, xC_J, xC_R, xC_A, xC_Q, gI_sI, gI_sJ, gI_sA, gI_sL, gJ_sI, gJ_sJ, gJ_sA, gJ_sL, gA_sI, gA_sJ, gA_sA, gA_sL, gL_sI, gL_sJ, gL_sA, gL_sL, inj_e hj] using h6, by simpa [Rp3, xI_I, xI_J, xI_R, xI_A, xI_Q, xJ_I, xJ_J, xJ_R, xJ_A, xJ_Q, xR_I, xR_J, xR_R, xR_A, xR_Q, xA_I, xA_J, xA_R, xA_A, xA_Q, xQ_I, xQ_J, xQ_R, xQ_A, xQ_Q, xC_I, xC_J, xC_R, xC_A, xC_Q, gI_sI, gI_sJ, gI_sA, gI_sL, gJ_sI, gJ_sJ, gJ_sA, gJ_sL, gA_sI, gA_sJ, gA_sA, gA_sL, gL_sI, gL_sJ, gL_sA, gL_sL, inj_e hj] using h7, by simpa [Ro, rOb, xI_I, xI_J, xI_R, xI_A, xI_Q, xJ_I, xJ_J, xJ_R, xJ_A, xJ_Q, xR_I, xR_J, xR_R, xR_A, xR_Q, xA_I, xA_J, xA_R, xA_A, xA_Q, xQ_I, xQ_J, xQ_R, xQ_A, xQ_Q, xC_I, xC_J, xC_R, xC_A, xC_Q, gI_sI, gI_sJ, gI_sA, gI_sL, gJ_sI, gJ_sJ, gJ_sA, gJ_sL, gA_sI, gA_sJ, gA_sA, gA_sL, gL_sI, gL_sJ, gL_sA, gL_sL, inj_e hj] using h8, by simpa [Rr, xI_I, xI_J, xI_R, xI_A, xI_Q, xJ_I, xJ_J, xJ_R, xJ_A, xJ_Q, xR_I, xR_J, xR_R, xR_A, xR_Q, xA_I, xA_J, xA_R, xA_A, xA_Q, xQ_I, xQ_J, xQ_R, xQ_A, xQ_Q, xC_I, xC_J, xC_R, xC_A, xC_Q, gI_sI, gI_sJ, gI_sA, gI_sL, gJ_sI, gJ_sJ, gJ_sA, gJ_sL, gA_sI, gA_sJ, gA_sA, gA_sL, gL_sI, gL_sJ, gL_sA, gL_sL, inj_e hj] using h9, by simpa [Rr2, xI_I, xI_J, xI_R, xI_A, xI_Q, xJ_I, xJ_J, xJ_R, xJ_A, xJ_Q, xR_I, xR_J, xR_R, xR_A, xR_Q, xA_I, xA_J, xA_R, xA_A, xA_Q, xQ_I, xQ_J, xQ_R, xQ_A, xQ_Q, xC_I, xC_J, xC_R, xC_A, xC_Q, gI_sI, gI_sJ, gI_sA, gI_sL, gJ_sI, gJ_sJ, gJ_sA, gJ_sL, gA_sI, gA_sJ, gA_sA, gA_sL, gL_sI, gL_sJ, gL_sA, gL_sL, inj_e hj] using h10, by simpa [Rq, xI_I, xI_J, xI_R, xI_A, xI_Q, xJ_I, xJ_J, xJ_R, xJ_A, xJ_Q, xR_I, xR_J, xR_R, xR_A, xR_Q, xA_I, xA_J, xA_R, xA_A, xA_Q, xQ_I, xQ_J, xQ_R, xQ_A, xQ_Q, xC_I, xC_J, xC_R, xC_A, xC_Q, gI_sI, gI_sJ, gI_sA, gI_sL, gJ_sI, gJ_sJ, gJ_sA, gJ_sL, gA_sI, gA_sJ, gA_sA, gA_sL, gL_sI, gL_sJ, gL_sA, gL_sL, inj_e hj] using h11⟩
  · simp [Rz, xI_I, xI_J, xI_R, xI_A, xI_Q, xJ_I, xJ_J, xJ_R, xJ_A, xJ_Q, xR_I, xR_J, xR_R, xR_A, xR_Q, xA_I, xA_J, xA_R, xA_A, xA_Q, xQ_I, xQ_J, xQ_R, xQ_A, xQ_Q, xC_I, xC_J, xC_R, xC_A, xC_Q, gI_sI, gI_sJ, gI_sA, gI_sL, gJ_sI, gJ_sJ, gJ_sA, gJ_sL, gA_sI, gA_sJ, gA_sA, gA_sL, gL_sI, gL_sJ, gL_sA, gL_sL, inj_e hj] at h2 ⊢
    exact ⟨h2.1, h2.2.2.1, fun i i0 i1 => h2.2.2.2.1 i i0 (by clear h1 h3 h4 h5 h6 h7 h8 h9 h10 h11; grind), h2.2.2.2.2⟩
theorem byt8 : ∀ n : Fin 256, byt ((Int8.ofNat n.val).toInt32) ((Int8.ofNat n.val).toInt32 &&& 255) := by unfold byt; decide +kernel
theorem byt_c (c : Int8) : byt c.toInt32 (c.toInt32 &&& 255) := by
  have h := byt8 ⟨c.toBitVec.toNat, c.toBitVec.isLt⟩
  have e : Int8.ofNat c.toBitVec.toNat = c := Int8.toBitVec_inj.mp (by show BitVec.ofNat 8 _ = _; simp)
  rw [show (⟨c.toBitVec.toNat, c.toBitVec.isLt⟩ : Fin 256).val = c.toBitVec.toNat from rfl, e] at h
  exact h
theorem nar_b (x : Int32) : vp_nar .byte x = x.toInt8.toInt32 := rfl
/-- a byte of an int, in both -/
theorem byt_sh (v : Int32) (n : Nat) (hn : n ≤ 24) : byt (vp_nar .byte (Int8.toInt32 (Int32.toInt8 ((v.toUInt32 >>> ((nI n).toUInt32 &&& Int32.toUInt32 31)).toInt32)))) ((v >>> (nI n &&& 31)) &&& 255) := by
  have e : (v >>> (nI n &&& 31)) &&& 255 = ((v.toUInt32 >>> ((nI n).toUInt32 &&& Int32.toUInt32 31)).toInt32) &&& 255 := by
    apply b_ext
    intro i hi
    rw [b_and, b_and, b_255]
    by_cases c : i < 8
    · rw [b_sshr n (by omega) v hi, b_ushr n (by omega) v i, if_pos (by omega)]
    · simp [c]
  rw [e, ← bp_b, nar_b, Int8.toInt8_toInt32]
  exact byt_c _
section FD
variable {ad : adT} {B : Int32} {S : mS} {X : xS} {v : Int32}
theorem s_by {x y : Int32} (h : Sim ad B S X) (hp : 0 ≤ gI S 2 ∧ gI S 2 < 1600) (hby : byt x y) : Sim ad B (sI (sA S 1 (gI S 2) y) 2 (gI S 2 + 1)) (xwI (xwA X (ad 11 0) (gI S 2) x) (ad 9 0) 2 (gI S 2 + 1)) := by
  have f : ∀ k i, k ≠ 1 → gA (sI (sA S 1 (gI S 2) y) 2 (gI S 2 + 1)) k i = gA S k i := fun k i hk => by simp [gA_sI, gA_sA, hk]
  refine ⟨mInv_sm h.1 ?_ (fun k i hk => f k i (fun z => by subst z; exact absurd hk (by simp [smK]))), j_sm h.2.1 (fun k i hk => f k i (fun z => by subst z; exact absurd hk (by simp [jK]))), Rel_by h.2.2 hp hby⟩
  have z := h.1.1
  unfold iT at z ⊢
  simp [gI_sI, gI_sA]
  clear h f; grind
/-- a byte comes to THE TAPE -/
def by1 (S : mS) (v s : Int32) : mS := sI (sA S 1 (gI S 2) ((v >>> (s &&& 31)) &&& 255)) 2 (gI S 2 + 1)
theorem s_by1 {s : Int32} {n M N : Nat} (h : Sim ad B S X) (hp : 0 ≤ gI S 2 ∧ gI S 2 < 1600) (hs : s = nI n) (hn : n ≤ 24) (s0 : 0 ≤ s) : ∃ Y, Sim ad B (by1 S v s) Y ∧ FC_X10_append_L3 (ad 9 0) v (M + 1) s X = FC_X10_append_L3 (ad 9 0) v M (s + (-8)) Y ∧ G_four_L3 v (N + 1) s S = G_four_L3 v N (s + (-8)) (by1 S v s) := by
  refine ⟨xwI (xwA X (ad 11 0) (gI S 2) (vp_nar .byte (Int8.toInt32 (Int32.toInt8 ((v.toUInt32 >>> (s.toUInt32 &&& Int32.toUInt32 31)).toInt32))))) (ad 9 0) 2 (gI S 2 + 1), ?_, ?_, ?_⟩
  · refine s_by h hp ?_
    rw [hs]; exact byt_sh v n hn
  · have z := h.2.2.2.2.1
    rw [FC_X10_append_L3, if_neg (show ¬ s < 0 by clear h z; grind)]
    repeat rw [gLt_x]
    rw [z.2.1, z.2.2.1, Option.getD_some, if_neg (show ¬ 1600 ≤ gI S 2 by clear h z; grind)]
    repeat rw [gLt_x]
  · rw [G_four_L3, if_neg (show ¬ s < 0 by clear h; grind)]
    repeat rw [gLt_x]
    rfl
theorem by1_2 {s : Int32} : gI (by1 S v s) 2 = gI S 2 + 1 := by unfold by1; simp [gI_sI]
theorem by1_0 {s : Int32} : gI (by1 S v s) 0 = gI S 0 := by unfold by1; simp [gI_sI, gI_sA]
theorem s_four (h : Sim ad B S X) (hp : 0 ≤ gI S 2 ∧ gI S 2 ≤ 1596) : Sim ad B (G_four S v) (FC_X10_append X (ad 9 0) v) ∧ gI (G_four S v) 2 = gI S 2 + 4 ∧ gI (G_four S v) 0 = gI S 0 := by
  have e5 : (24 + 8 : Int32).toInt.toNat + 1 = 28 + 1 + 1 + 1 + 1 + 1 := by decide
  rw [G_four, gLt_x, FC_X10_append, gLt_x, e5]
  obtain ⟨Y1, a1, a2, a3⟩ := s_by1 (v := v) (s := 24) (n := 24) (M := 28 + 1 + 1 + 1 + 1) (N := 28 + 1 + 1 + 1 + 1) h (by clear h; grind) (by decide) (by decide) (by decide)
  obtain ⟨Y2, b1, b2, b3⟩ := s_by1 (v := v) (s := 24 + (-8)) (n := 16) (M := 28 + 1 + 1 + 1) (N := 28 + 1 + 1 + 1) a1 (by rw [by1_2]; clear h a1; grind) (by decide) (by decide) (by decide)
  obtain ⟨Y3, c1, c2, c3⟩ := s_by1 (v := v) (s := 24 + (-8) + (-8)) (n := 8) (M := 28 + 1 + 1) (N := 28 + 1 + 1) b1 (by rw [by1_2, by1_2]; clear h a1 b1; grind) (by decide) (by decide) (by decide)
  obtain ⟨Y4, d1, d2, d3⟩ := s_by1 (v := v) (s := 24 + (-8) + (-8) + (-8)) (n := 0) (M := 28 + 1) (N := 28 + 1) c1 (by rw [by1_2, by1_2, by1_2]; clear h a1 b1 c1; grind) (by decide) (by decide) (by decide)
  rw [a2, b2, c2, d2, a3, b3, c3, d3, G_four_L3, if_pos (by decide), FC_X10_append_L3, if_pos (by decide)]
  refine ⟨d1, ?_, ?_⟩
  · rw [by1_2, by1_2, by1_2, by1_2]; clear h a1 b1 c1 d1; grind
  · rw [by1_0, by1_0, by1_0, by1_0]
theorem b_ok {α : Type} {a : α} {T : mS} {Y : xS} (h0 : gI T 0 = 0) (s : Sim ad B T Y) : Both ad B (a, T) (0, a, Y) := ⟨h0.symm, fun _ => rfl, s⟩
theorem t_feed {a0 a1 a2 a3 a4 : Int32} (h : Sim ad B S X) : Both ad B (G_feed S a0 a1 a2 a3 a4) (FC_X12_feed X (ad 8 0) a0 a1 a2 a3 a4) := by
  have z := h.2.2.2.2.1
  have zT := h.1.1
  have k0 := h.2.2.2.1.1
  rw [G_feed, FC_X12_feed]
  repeat rw [gLt_x]
  rw [k0, Option.getD_some, z.2.1]
  by_cases c : gI S 2 + 20 ≤ 1600
  · rw [if_pos c, if_pos c]
    have b0 := s_I (k := 0) (v := 0) h (by decide)
    have e2 : gI (sI S 0 0) 2 = gI S 2 := by simp [gI_sI]
    have e0 : gI (sI S 0 0) 0 = 0 := by simp [gI_sI]
    have p0 : 0 ≤ gI S 2 ∧ gI S 2 ≤ 1580 := by unfold iT at zT; clear h b0 z; grind
    obtain ⟨s1, l1, z1⟩ := s_four (v := a0) b0 (by rw [e2]; clear h b0 z; grind)
    rw [e2] at l1
    obtain ⟨s2, l2, z2⟩ := s_four (v := a1) s1 (by rw [l1]; clear h b0 z s1; grind)
    rw [l1] at l2
    obtain ⟨s3, l3, z3⟩ := s_four (v := a2) s2 (by rw [l2]; clear h b0 z s1 s2; grind)
    rw [l2] at l3
    obtain ⟨s4, l4, z4⟩ := s_four (v := a3) s3 (by rw [l3]; clear h b0 z s1 s2 s3; grind)
    rw [l3] at l4
    obtain ⟨s5, l5, z5⟩ := s_four (v := a4) s4 (by rw [l4]; clear h b0 z s1 s2 s3 s4; grind)
    repeat rw [gLt_x]
    rw [s1.2.2.2.1.1, Option.getD_some]
    repeat rw [gLt_x]
    rw [s2.2.2.2.1.1, Option.getD_some]
    repeat rw [gLt_x]
    rw [s3.2.2.2.1.1, Option.getD_some]
    repeat rw [gLt_x]
    rw [s4.2.2.2.1.1, Option.getD_some]
    repeat rw [gLt_x]
    rw [s5.2.2.2.1.1, Option.getD_some, s5.2.2.2.2.1.2.1]
    exact b_ok (z5.trans (z4.trans (z3.trans (z2.trans (z1.trans e0))))) s5
  · rw [if_neg c, if_neg c, refuse_e, gC_p]
    exact b_ref h (by decide)
theorem t_end {n : Int32} (h : Sim ad B S X) : Both ad B (G_end S n) (FC_X12_end X (ad 8 0) n) := by
  have z := h.2.2.2.2.1
  have k0 := h.2.2.2.1.1
  rw [G_end, gLt_x, FC_X12_end]
  by_cases c : 0 ≤ n ∧ n ≤ gI S 2
  · rw [in_1 c, if_neg (by decide), if_neg (show ¬ n < 0 by clear h z; grind)]
    repeat rw [gLt_x]
    rw [k0, Option.getD_some, z.2.1, if_pos c.2]
    repeat rw [gLt_x]
    have b0 := s_I (k := 0) (v := 0) h (by decide)
    have e2 : gI (sI S 0 0) 2 = gI S 2 := by simp [gI_sI]
    refine ⟨by simp [gI_sI], fun _ => rfl, mInv_sm b0.1 ?_ (fun _ _ _ => rfl), j_sm b0.2.1 (fun _ _ _ => rfl), Rel_len b0.2.2 (by rw [e2]; exact c)⟩
    have zT := h.1.1
    unfold iT at zT ⊢
    simp [gI_sI]
    clear h b0 z; grind
  · rw [in_0 c, if_pos rfl, refuse_e, gC_p]
    by_cases y : n < 0
    · rw [if_pos y]; exact b_ref h (by decide)
    · rw [if_neg y]
      repeat rw [gLt_x]
      rw [k0, Option.getD_some, z.2.1, if_neg (show ¬ n ≤ gI S 2 by clear h z; grind)]
      exact b_ref h (by decide)
end FD

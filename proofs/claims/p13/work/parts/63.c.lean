/-! both side by side: words without an OBJECT, and a turn -/
theorem opr_x {X : xS} {a : Nat} {i : Int32} : FC_X8_operand X a i = ((FC_X8_operand X a i).1, X) := by
  have e : ∀ j, FC_X8_codeAt X a j = ((FC_X8_codeAt X a j).1, X) := fun j => by
    rw [FC_X8_codeAt, gLt_x, gLt_x]
    by_cases c : xI X a 3 * 4 + j < 0
    · rw [if_pos c]
    · rw [if_neg c, gLt_x]
      by_cases d : (240 : Int32) ≤ xI X a 3 * 4 + j
      · rw [if_pos d]
      · rw [if_neg d, gLt_x]
  rw [FC_X8_operand, e, gC_p]
theorem sAL_c {S : mS} {t v : Int32} {w : Int64} : sL (sA S 13 t v) 23 t w = sA (sL S 23 t w) 13 t v := by
  refine mS_ext (fun _ => rfl) (fun _ => rfl) (fun _ _ => rfl) (fun _ _ => rfl)
theorem fallA_e {X : xS} {o a : Nat} {n : Int32} : FC_X12_fallAsleep X o a n = if 1 ≤ n then (if xI X a 5 = 0 then xwI (xwJ X a 6 (xJ X o 3 + Int32.toInt64 n)) a 1 3 else FC_X8_goOn (xwI (xwI X a 5 0) a 2 (-2)) a) else FC_X8_goOn X a := by
  rw [FC_X12_fallAsleep, ref_e]
  by_cases c : 1 ≤ n
  · rw [if_pos c, if_pos c]
    by_cases d : xI X a 5 = 0
    · rw [if_pos d, if_pos d, gC_p, if_pos rfl, gLt_x, gLt_x, gLt_x, gLt_x]
    · rw [if_neg d, if_neg d, gC_p, if_neg (by decide)]
  · rw [if_neg c, if_neg c, gLt_x]
section AL
variable {ad : adT} {B : Int32} {S : mS} {X : xS} {t r17 : Int32}
theorem s_a0 (h : Sim ad B S X) (hf : fre S t) (hq : opM S t = 0) : Sim ad B (oneT S t 0 (G_part S t 1) (gA S 15 t + 1)) (FC_X12_doAlone X (ad 8 0) (ad 0 t) 0) := by
  have op := R_op1 h.2.2 hf.1 (fre_at h.1 hf) (by rw [hq]; decide) (by rw [hq]; decide)
  rw [FC_X12_doAlone, op, gC_p, gLt_x, gLt_x, ord_e, show swM.getD (Int32.toNatClampNeg (nI 0)) 0 = 1 by decide, if_neg (by decide), if_pos (by decide), gLt_x]
  rw [oneT, if_pos rfl, gLt_x, J273_e (fre_14 hf).2.1]
  exact s_gow h hf
theorem s_a1 (h : Sim ad B S X) (hf : fre S t) (hq : opM S t = 1) : Sim ad B (oneT S t 1 (G_part S t 1) (gA S 15 t + 1)) (FC_X12_doAlone X (ad 8 0) (ad 0 t) 1) := by
  have op := R_op1 h.2.2 hf.1 (fre_at h.1 hf) (by rw [hq]; decide) (by rw [hq]; decide)
  rw [FC_X12_doAlone, op, gC_p, gLt_x, gLt_x, ord_e, show swM.getD (Int32.toNatClampNeg (nI 1)) 0 = 2 by decide, if_neg (by decide), if_neg (by decide), if_pos (by decide), gLt_x, gLt_x, (th0 h.2.2 hf.1).2.2.1]
  rw [oneT, if_neg (by decide), if_pos rfl, gLt_x, J273_e (fre_14 hf).2.1]
  exact s_gow h hf
/-- where a jump goes -/
theorem jmp {q : Int32} (hm : mInv S) (hf : fre S t) (hq : opM S t = q) (h2 : 2 ≤ q ∧ q ≤ 4) : 0 ≤ G_part S t 1 := by
  have a := fre_at hm hf
  have z := hm.2.2.1 t (gA S 15 t) hf.1.1 hf.1.2 a.1 (by clear hm; grind) a.2.1
  rw [G_part]
  unfold opM at hq
  rw [hq] at z
  exact z h2.1 h2.2
theorem s_a2 (h : Sim ad B S X) (hf : fre S t) (hq : opM S t = 2) : Sim ad B (oneT S t 2 (G_part S t 1) (gA S 15 t + 1)) (FC_X12_doAlone X (ad 8 0) (ad 0 t) 2) := by
  have op := R_op1 h.2.2 hf.1 (fre_at h.1 hf) (by rw [hq]; decide) (by rw [hq]; decide)
  rw [FC_X12_doAlone, op, gC_p, gLt_x, gLt_x, ord_e, show swM.getD (Int32.toNatClampNeg (nI 2)) 0 = 4 by decide, if_neg (by decide), if_neg (by decide), if_neg (by decide), if_neg (by decide), if_pos (by decide), gLt_x]
  rw [oneT, if_neg (by decide), if_neg (by decide), if_pos rfl, G_one_J150, J273_e hf.2.1]
  exact s_to h hf (jmp h.1 hf hq (by decide))
theorem s_a3 (h : Sim ad B S X) (hf : fre S t) (hq : opM S t = 3) : Sim ad B (oneT S t 3 (G_part S t 1) (gA S 15 t + 1)) (FC_X12_doAlone X (ad 8 0) (ad 0 t) 3) := by
  have op := R_op1 h.2.2 hf.1 (fre_at h.1 hf) (by rw [hq]; decide) (by rw [hq]; decide)
  rw [FC_X12_doAlone, op, gC_p, gLt_x, gLt_x, ord_e, show swM.getD (Int32.toNatClampNeg (nI 3)) 0 = 5 by decide, if_neg (by decide), if_neg (by decide), if_neg (by decide), if_neg (by decide), if_neg (by decide), if_pos (by decide), gLt_x, (th0 h.2.2 hf.1).2.2.1]
  rw [oneT, if_neg (by decide), if_neg (by decide), if_neg (by decide), if_pos rfl]
  by_cases c : gA S 14 t = 0
  · rw [if_pos c, if_pos c, gLt_x, G_one_J150, J273_e hf.2.1]
    exact s_to h hf (jmp h.1 hf hq (by decide))
  · rw [if_neg c, if_neg c, gLt_x, gLt_x, (th0 h.2.2 hf.1).2.2.2.1, if_neg (by decide), if_neg (by decide), if_neg (by decide), if_neg (by decide), if_pos (by decide), J273_e hf.2.1]
    exact s_to h hf (by have := (fre_at h.1 hf); clear h; grind)
theorem s_a4 (h : Sim ad B S X) (hf : fre S t) (hq : opM S t = 4) : Sim ad B (oneT S t 4 (G_part S t 1) (gA S 15 t + 1)) (FC_X12_doAlone X (ad 8 0) (ad 0 t) 4) := by
  have op := R_op1 h.2.2 hf.1 (fre_at h.1 hf) (by rw [hq]; decide) (by rw [hq]; decide)
  rw [FC_X12_doAlone, op, gC_p, gLt_x, gLt_x, ord_e, show swM.getD (Int32.toNatClampNeg (nI 4)) 0 = 6 by decide, if_neg (by decide), if_neg (by decide), if_neg (by decide), if_neg (by decide), if_neg (by decide), if_neg (by decide), if_pos (by decide), gLt_x, (th0 h.2.2 hf.1).2.2.1]
  rw [oneT, if_neg (by decide), if_neg (by decide), if_neg (by decide), if_neg (by decide), if_pos rfl]
  by_cases c : 0 ≤ gA S 14 t
  · rw [if_pos c, if_pos c, gLt_x, gLt_x, (th0 h.2.2 hf.1).2.2.2.1, if_neg (by decide), if_neg (by decide), if_neg (by decide), if_pos (by decide), J273_e hf.2.1]
    exact s_to h hf (by have := (fre_at h.1 hf); clear h; grind)
  · rw [if_neg c, if_neg c, gLt_x, G_one_J150, J273_e hf.2.1]
    exact s_to h hf (jmp h.1 hf hq (by decide))
theorem s_slp (h : Sim ad B S X) (hf : fre S t) {w : Int64} : Sim ad B (sL (sA S 13 t 3) 23 t w) (xwI (xwJ X (ad 0 t) 6 w) (ad 0 t) 1 3) := by
  have a := fre_at h.1 hf
  refine ⟨?_, ?_, ?_⟩
  · refine (th_inv (S9 := sL (sA S 13 t 3) 23 t w) h.1 hf.1 hf.2.2.2 hf.2.2.1 (fun _ => rfl) (fun k i _ a1 a2 a3 => by simp [gA_sL, gA_sA, a1]) (fun k u _ hu => by simp [gA_sL, gA_sA, hu]) (fun _ _ => ?_) (fun z => ?_)).1
    · simpa [gA_sL, gA_sA] using a
    · simp [gA_sL, gA_sA] at z
  · refine j_thr (t := t) h.2.1 hf.2.2.2 (fun k i hk => ?_) (fun k u _ hu => by simp [gA_sL, gA_sA, hu]) ?_
    · have a1 : k ≠ 13 := by omega
      simp [gA_sL, gA_sA, a1]
    · have z := n17 h.2.1 hf.1 (Or.inl hf.2.1)
      simp [gA_sL, gA_sA, z]
  · rw [sAL_c]; exact Rel_13 (Rel_23 h.2.2)
theorem s_a5 (h : Sim ad B S X) (hf : fre S t) (hq : opM S t = 5) : Sim ad B (oneT S t 5 (G_part S t 1) (gA S 15 t + 1)) (FC_X12_doAlone X (ad 8 0) (ad 0 t) 5) := by
  have op := R_op1 h.2.2 hf.1 (fre_at h.1 hf) (by rw [hq]; decide) (by rw [hq]; decide)
  rw [FC_X12_doAlone, op, gC_p, gLt_x, gLt_x, ord_e, show swM.getD (Int32.toNatClampNeg (nI 5)) 0 = 7 by decide, if_neg (by decide), if_neg (by decide), if_neg (by decide), if_neg (by decide), if_neg (by decide), if_neg (by decide), if_neg (by decide), gLt_x]
  rw [fallA_e, (th0 h.2.2 hf.1).2.2.2.2, h.2.2.2.1.2.2.2.1]
  rw [oneT, if_neg (by decide), if_neg (by decide), if_neg (by decide), if_neg (by decide), if_neg (by decide), if_pos rfl]
  by_cases c : G_part S t 1 ≤ 0
  · rw [if_pos c, if_neg (show ¬ 1 ≤ G_part S t 1 by clear h op; grind), G_one_J198, if_pos c, J273_e hf.2.1]
    exact s_go h hf
  · rw [if_neg c, if_pos (show 1 ≤ G_part S t 1 by clear h op; grind)]
    by_cases e : gA S 20 t = 0
    · rw [if_pos e, if_pos e, gLt_x, gLt_x]
      exact s_slp h hf
    · rw [if_neg e, if_neg e, G_one_J198, if_neg c, gLt_x, gLt_x, nar0]
      have hf2 : fre (sA (sA S 20 t 0) 14 t (-2)) t := fre_14 (fre_20 hf)
      rw [J273_e hf2.2.1]
      have z := s_go (s_14 (t := t) (v := -2) (s_20 (t := t) (v := 0) h)) hf2
      have e2 : gA (sA (sA S 20 t 0) 14 t (-2)) 15 t = gA S 15 t := by simp [gA_sA]
      rw [e2] at z
      exact z
theorem s_a6 (h : Sim ad B S X) (hf : fre S t) (hq : opM S t = 6) : Sim ad B (oneT S t 6 (G_part S t 1) (gA S 15 t + 1)) (FC_X12_doAlone X (ad 8 0) (ad 0 t) 6) := by
  rw [FC_X12_doAlone, opr_x, gC_p, gLt_x, gLt_x, ord_e, show swM.getD (Int32.toNatClampNeg (nI 6)) 0 = 0 by decide, if_pos (by decide), gLt_x]
  rw [oneT, if_neg (by decide), if_neg (by decide), if_neg (by decide), if_neg (by decide), if_neg (by decide), if_neg (by decide), if_pos rfl, gLt_x]
  refine ⟨?_, ?_, Rel_13 h.2.2⟩
  · refine (th_inv (S9 := sA S 13 t 4) h.1 hf.1 hf.2.2.2 hf.2.2.1 (fun _ => rfl) (fun k i _ a1 a2 a3 => by simp [gA_sA, a1]) (fun k u _ hu => by simp [gA_sA, hu]) (fun _ z => ?_) (fun z => ?_)).1
    · simp [gA_sA] at z
    · simp [gA_sA] at z
  · refine j_thr (t := t) h.2.1 hf.2.2.2 (fun k i hk => ?_) (fun k u _ hu => by simp [gA_sA, hu]) ?_
    · have a1 : k ≠ 13 := by omega
      simp [gA_sA, a1]
    · have z := n17 h.2.1 hf.1 (Or.inl hf.2.1)
      simp [gA_sA, z]
theorem s_a33 (h : Sim ad B S X) (hf : fre S t) (hq : opM S t = 33) : Sim ad B (oneT S t 33 (G_part S t 1) (gA S 15 t + 1)) (FC_X12_doAlone X (ad 8 0) (ad 0 t) 7) := by
  rw [FC_X12_doAlone, opr_x, gC_p, gLt_x, gLt_x, ord_e, show swM.getD (Int32.toNatClampNeg (nI 7)) 0 = 3 by decide, if_neg (by decide), if_neg (by decide), if_neg (by decide), if_pos (by decide), gLt_x, gLt_x, h.2.2.2.1.2.2.2.1]
  rw [oneT, if_neg (by decide), if_neg (by decide), if_neg (by decide), if_neg (by decide), if_neg (by decide), if_neg (by decide), if_neg (by decide), if_pos rfl, gLt_x, J273_e (fre_14 hf).2.1]
  exact s_gow h hf
theorem oneT_w {q : Int32} (h7 : 7 ≤ q ∧ q ≤ 32) : oneT S t q r17 (gA S 15 t + 1) = fin t (gA S 15 t + 1) (G_with S t q r17) := by
  have n0 : q ≠ 0 := by grind
  have n1 : q ≠ 1 := by grind
  have n2 : q ≠ 2 := by grind
  have n3 : q ≠ 3 := by grind
  have n4 : q ≠ 4 := by grind
  have n5 : q ≠ 5 := by grind
  have n6 : q ≠ 6 := by grind
  have n33 : q ≠ 33 := by grind
  have l6 : ¬ q ≤ 6 := by grind
  rw [oneT, if_neg n0, if_neg n1, if_neg n2, if_neg n3, if_neg n4, if_neg n5, if_neg n6, if_neg n33, if_neg l6]
  rfl
theorem i32n {q : Int32} (h0 : 0 ≤ q) : q = nI q.toNatClampNeg := by
  have h1 : (0 : Int) ≤ q.toInt := Int32.le_iff_toInt_le.mp h0
  have h2 := Int32.toInt_lt q
  refine (nI_back (n := 2 ^ 31) ?_).symm
  rw [vp_in_iff]
  exact ⟨h1, by omega⟩
theorem s_rst (h : Sim ad B S X) (hB : 1 ≤ B ∧ B ≤ 1000000000) (hf : fre S t) : Sim ad (B + 8) (oneT S t (G_part S t 0) (G_part S t 1) (gA S 15 t + 1)) (rst X (ad 8 0) (ad 0 t)) := by
  obtain ⟨wd, w0, w33⟩ := R_word h.2.2 hf.1 (fre_at h.1 hf)
  rw [part0, rst, wd, gC_p]
  have e := i32n w0
  have hn : (opM S t).toNatClampNeg ≤ 33 := by
    have a1 : (opM S t).toInt ≤ 33 := Int32.le_iff_toInt_le.mp w33
    simp only [Int32.toNatClampNeg]; omega
  generalize hN : (opM S t).toNatClampNeg = n at e hn
  rcases (show n = 0 ∨ n = 1 ∨ n = 2 ∨ n = 3 ∨ n = 4 ∨ n = 5 ∨ n = 6 ∨ n = 7 ∨ n = 8 ∨ n = 9 ∨ n = 10 ∨ n = 11 ∨ n = 12 ∨ n = 13 ∨ n = 14 ∨ n = 15 ∨ n = 16 ∨ n = 17 ∨ n = 18 ∨ n = 19 ∨ n = 20 ∨ n = 21 ∨ n = 22 ∨ n = 23 ∨ n = 24 ∨ n = 25 ∨ n = 26 ∨ n = 27 ∨ n = 28 ∨ n = 29 ∨ n = 30 ∨ n = 31 ∨ n = 32 ∨ n = 33 by omega) with rfl | rfl | rfl | rfl | rfl | rfl | rfl | rfl | rfl | rfl | rfl | rfl | rfl | rfl | rfl | rfl | rfl | rfl | rfl | rfl | rfl | rfl | rfl | rfl | rfl | rfl | rfl | rfl | rfl | rfl | rfl | rfl | rfl | rfl
  · replace e : opM S t = 0 := e.trans (by decide)
    rw [e, show (toC 0).toNatClampNeg = 0 by decide]
    rw [if_pos (by decide)]
    exact s_mono (s_a0 h hf e) (b8 hB)
  · replace e : opM S t = 1 := e.trans (by decide)
    rw [e, show (toC 1).toNatClampNeg = 1 by decide]
    rw [if_pos (by decide)]
    exact s_mono (s_a1 h hf e) (b8 hB)
  · replace e : opM S t = 2 := e.trans (by decide)
    rw [e, show (toC 2).toNatClampNeg = 2 by decide]
    rw [if_pos (by decide)]
    exact s_mono (s_a2 h hf e) (b8 hB)
  · replace e : opM S t = 3 := e.trans (by decide)
    rw [e, show (toC 3).toNatClampNeg = 3 by decide]
    rw [if_pos (by decide)]
    exact s_mono (s_a3 h hf e) (b8 hB)
  · replace e : opM S t = 4 := e.trans (by decide)
    rw [e, show (toC 4).toNatClampNeg = 4 by decide]
    rw [if_pos (by decide)]
    exact s_mono (s_a4 h hf e) (b8 hB)
  · replace e : opM S t = 5 := e.trans (by decide)
    rw [e, show (toC 5).toNatClampNeg = 5 by decide]
    rw [if_pos (by decide)]
    exact s_mono (s_a5 h hf e) (b8 hB)
  · replace e : opM S t = 6 := e.trans (by decide)
    rw [e, show (toC 6).toNatClampNeg = 6 by decide]
    rw [if_pos (by decide)]
    exact s_mono (s_a6 h hf e) (b8 hB)
  · replace e : opM S t = 7 := e.trans (by decide)
    rw [e, show (toC 7).toNatClampNeg = 8 by decide]
    rw [if_neg (by decide), oneT_w (by decide)]
    exact s_wq7 h hB hf e
  · replace e : opM S t = 8 := e.trans (by decide)
    rw [e, show (toC 8).toNatClampNeg = 9 by decide]
    rw [if_neg (by decide), oneT_w (by decide)]
    exact s_wq8 h hB hf e
  · replace e : opM S t = 9 := e.trans (by decide)
    rw [e, show (toC 9).toNatClampNeg = 10 by decide]
    rw [if_neg (by decide), oneT_w (by decide)]
    exact s_wq9 h hB hf e
  · replace e : opM S t = 10 := e.trans (by decide)
    rw [e, show (toC 10).toNatClampNeg = 11 by decide]
    rw [if_neg (by decide), oneT_w (by decide)]
    exact s_wq10 h hB hf e
  · replace e : opM S t = 11 := e.trans (by decide)
    rw [e, show (toC 11).toNatClampNeg = 12 by decide]
    rw [if_neg (by decide), oneT_w (by decide)]
    exact s_wq11 h hB hf e
  · replace e : opM S t = 12 := e.trans (by decide)
    rw [e, show (toC 12).toNatClampNeg = 13 by decide]
    rw [if_neg (by decide), oneT_w (by decide)]
    exact s_wq12 h hB hf e
  · replace e : opM S t = 13 := e.trans (by decide)
    rw [e, show (toC 13).toNatClampNeg = 14 by decide]
    rw [if_neg (by decide), oneT_w (by decide)]
    exact s_wq13 h hB hf e
  · replace e : opM S t = 14 := e.trans (by decide)
    rw [e, show (toC 14).toNatClampNeg = 15 by decide]
    rw [if_neg (by decide), oneT_w (by decide)]
    exact s_wq14 h hB hf e
  · replace e : opM S t = 15 := e.trans (by decide)
    rw [e, show (toC 15).toNatClampNeg = 16 by decide]
    rw [if_neg (by decide), oneT_w (by decide)]
    exact s_wq15 h hB hf e
  · replace e : opM S t = 16 := e.trans (by decide)
    rw [e, show (toC 16).toNatClampNeg = 17 by decide]
    rw [if_neg (by decide), oneT_w (by decide)]
    exact s_wq16 h hB hf e
  · replace e : opM S t = 17 := e.trans (by decide)
    rw [e, show (toC 17).toNatClampNeg = 18 by decide]
    rw [if_neg (by decide), oneT_w (by decide)]
    exact s_wq17 h hB hf e
  · replace e : opM S t = 18 := e.trans (by decide)
    rw [e, show (toC 18).toNatClampNeg = 19 by decide]
    rw [if_neg (by decide), oneT_w (by decide)]
    exact s_wq18 h hB hf e
  · replace e : opM S t = 19 := e.trans (by decide)
    rw [e, show (toC 19).toNatClampNeg = 20 by decide]
    rw [if_neg (by decide), oneT_w (by decide)]
    exact s_wq19 h hB hf e
  · replace e : opM S t = 20 := e.trans (by decide)
    rw [e, show (toC 20).toNatClampNeg = 21 by decide]
    rw [if_neg (by decide), oneT_w (by decide)]
    exact s_wq20 h hB hf e
  · replace e : opM S t = 21 := e.trans (by decide)
    rw [e, show (toC 21).toNatClampNeg = 22 by decide]
    rw [if_neg (by decide), oneT_w (by decide)]
    exact s_wq21 h hB hf e
  · replace e : opM S t = 22 := e.trans (by decide)
    rw [e, show (toC 22).toNatClampNeg = 23 by decide]
    rw [if_neg (by decide), oneT_w (by decide)]
    exact s_wq22 h hB hf e
  · replace e : opM S t = 23 := e.trans (by decide)
    rw [e, show (toC 23).toNatClampNeg = 24 by decide]
    rw [if_neg (by decide), oneT_w (by decide)]
    exact s_wq23 h hB hf e
  · replace e : opM S t = 24 := e.trans (by decide)
    rw [e, show (toC 24).toNatClampNeg = 25 by decide]
    rw [if_neg (by decide), oneT_w (by decide)]
    exact s_wq24 h hB hf e
  · replace e : opM S t = 25 := e.trans (by decide)
    rw [e, show (toC 25).toNatClampNeg = 26 by decide]
    rw [if_neg (by decide), oneT_w (by decide)]
    exact s_wq25 h hB hf e
  · replace e : opM S t = 26 := e.trans (by decide)
    rw [e, show (toC 26).toNatClampNeg = 27 by decide]
    rw [if_neg (by decide), oneT_w (by decide)]
    exact s_wq26 h hB hf e
  · replace e : opM S t = 27 := e.trans (by decide)
    rw [e, show (toC 27).toNatClampNeg = 28 by decide]
    rw [if_neg (by decide), oneT_w (by decide)]
    exact s_wq27 h hB hf e
  · replace e : opM S t = 28 := e.trans (by decide)
    rw [e, show (toC 28).toNatClampNeg = 29 by decide]
    rw [if_neg (by decide), oneT_w (by decide)]
    exact s_wq28 h hB hf e
  · replace e : opM S t = 29 := e.trans (by decide)
    rw [e, show (toC 29).toNatClampNeg = 30 by decide]
    rw [if_neg (by decide), oneT_w (by decide)]
    exact s_wq29 h hB hf e
  · replace e : opM S t = 30 := e.trans (by decide)
    rw [e, show (toC 30).toNatClampNeg = 31 by decide]
    rw [if_neg (by decide), oneT_w (by decide)]
    exact s_wq30 h hB hf e
  · replace e : opM S t = 31 := e.trans (by decide)
    rw [e, show (toC 31).toNatClampNeg = 32 by decide]
    rw [if_neg (by decide), oneT_w (by decide)]
    exact s_wq31 h hB hf e
  · replace e : opM S t = 32 := e.trans (by decide)
    rw [e, show (toC 32).toNatClampNeg = 33 by decide]
    rw [if_neg (by decide), oneT_w (by decide)]
    exact s_wq32 h hB hf e
  · replace e : opM S t = 33 := e.trans (by decide)
    rw [e, show (toC 33).toNatClampNeg = 7 by decide]
    rw [if_pos (by decide)]
    exact s_mono (s_a33 h hf e) (b8 hB)
end AL

/-! both side by side: tick, interrupt -/
theorem Rel_19b {ad : adT} {e : Int32} {S : mS} {X : xS} {t v : Int32} (h : Rel ad e S X) (h21 : gA S 21 t ≠ 0) : Rel ad e (sA S 19 t v) (X) := by
  obtain ⟨hj, h1, h2, h3, h4, h5, h6, h7, h8, h9, h10, h11⟩ := h
  refine ⟨hj, by simpa [Rk, xI_I, xI_J, xI_R, xI_A, xI_Q, xJ_I, xJ_J, xJ_R, xJ_A, xJ_Q, xR_I, xR_J, xR_R, xR_A, xR_Q, xA_I, xA_J, xA_R, xA_A, xA_Q, xQ_I, xQ_J, xQ_R, xQ_A, xQ_Q, xC_I, xC_J, xC_R, xC_A, xC_Q, gI_sI, gI_sJ, gI_sA, gI_sL, gJ_sI, gJ_sJ, gJ_sA, gJ_sL, gA_sI, gA_sJ, gA_sA, gA_sL, gL_sI, gL_sJ, gL_sA, gL_sL, inj_e hj] using h1, by simpa [Rz, xI_I, xI_J, xI_R, xI_A, xI_Q, xJ_I, xJ_J, xJ_R, xJ_A, xJ_Q, xR_I, xR_J, xR_R, xR_A, xR_Q, xA_I, xA_J, xA_R, xA_A, xA_Q, xQ_I, xQ_J, xQ_R, xQ_A, xQ_Q, xC_I, xC_J, xC_R, xC_A, xC_Q, gI_sI, gI_sJ, gI_sA, gI_sL, gJ_sI, gJ_sJ, gJ_sA, gJ_sL, gA_sI, gA_sJ, gA_sA, gA_sL, gL_sI, gL_sJ, gL_sA, gL_sL, inj_e hj] using h2, ?_, by simpa [Rc, cM, xI_I, xI_J, xI_R, xI_A, xI_Q, xJ_I, xJ_J, xJ_R, xJ_A, xJ_Q, xR_I, xR_J, xR_R, xR_A, xR_Q, xA_I, xA_J, xA_R, xA_A, xA_Q, xQ_I, xQ_J, xQ_R, xQ_A, xQ_Q, xC_I, xC_J, xC_R, xC_A, xC_Q, gI_sI, gI_sJ, gI_sA, gI_sL, gJ_sI, gJ_sJ, gJ_sA, gJ_sL, gA_sI, gA_sJ, gA_sA, gA_sL, gL_sI, gL_sJ, gL_sA, gL_sL, inj_e hj] using h4, by simpa [Rp1, xI_I, xI_J, xI_R, xI_A, xI_Q, xJ_I, xJ_J, xJ_R, xJ_A, xJ_Q, xR_I, xR_J, xR_R, xR_A, xR_Q, xA_I, xA_J, xA_R, xA_A, xA_Q, xQ_I, xQ_J, xQ_R, xQ_A, xQ_Q, xC_I, xC_J, xC_R, xC_A, xC_Q, gI_sI, gI_sJ, gI_sA, gI_sL, gJ_sI, gJ_sJ, gJ_sA, gJ_sL, gA_sI, gA_sJ, gA_sA, gA_sL, gL_sI, gL_sJ, gL_sA, gL_sL, inj_e hj] using h5, by simpa [Rp2, nR, xI_I, xI_J, xI_R, xI_A, xI_Q, xJ_I, xJ_J, xJ_R, xJ_A, xJ_Q, xR_I, xR_J, xR_R, xR_A, xR_Q, xA_I, xA_J, xA_R, xA_A, xA_Q, xQ_I, xQ_J, xQ_R, xQ_A, xQ_Q, xC_I, xC_J, xC_R, xC_A, xC_Q, gI_sI, gI_sJ, gI_sA, gI_sL, gJ_sI, gJ_sJ, gJ_sA, gJ_sL, gA_sI, gA_sJ, gA_sA, gA_sL, gL_sI, gL_sJ, gL_sA, gL_sL, inj_e hj] using h6, by simpa [Rp3, xI_I, xI_J, xI_R, xI_A, xI_Q, xJ_I, xJ_J, xJ_R, xJ_A, xJ_Q, xR_I, xR_J, xR_R, xR_A, xR_Q, xA_I, xA_J, xA_R, xA_A, xA_Q, xQ_I, xQ_J, xQ_R, xQ_A, xQ_Q, xC_I, xC_J, xC_R, xC_A, xC_Q, gI_sI, gI_sJ, gI_sA, gI_sL, gJ_sI, gJ_sJ, gJ_sA, gJ_sL, gA_sI, gA_sJ, gA_sA, gA_sL, gL_sI, gL_sJ, gL_sA, gL_sL, inj_e hj] using h7, by simpa [Ro, rOb, xI_I, xI_J, xI_R, xI_A, xI_Q, xJ_I, xJ_J, xJ_R, xJ_A, xJ_Q, xR_I, xR_J, xR_R, xR_A, xR_Q, xA_I, xA_J, xA_R, xA_A, xA_Q, xQ_I, xQ_J, xQ_R, xQ_A, xQ_Q, xC_I, xC_J, xC_R, xC_A, xC_Q, gI_sI, gI_sJ, gI_sA, gI_sL, gJ_sI, gJ_sJ, gJ_sA, gJ_sL, gA_sI, gA_sJ, gA_sA, gA_sL, gL_sI, gL_sJ, gL_sA, gL_sL, inj_e hj] using h8, by simpa [Rr, xI_I, xI_J, xI_R, xI_A, xI_Q, xJ_I, xJ_J, xJ_R, xJ_A, xJ_Q, xR_I, xR_J, xR_R, xR_A, xR_Q, xA_I, xA_J, xA_R, xA_A, xA_Q, xQ_I, xQ_J, xQ_R, xQ_A, xQ_Q, xC_I, xC_J, xC_R, xC_A, xC_Q, gI_sI, gI_sJ, gI_sA, gI_sL, gJ_sI, gJ_sJ, gJ_sA, gJ_sL, gA_sI, gA_sJ, gA_sA, gA_sL, gL_sI, gL_sJ, gL_sA, gL_sL, inj_e hj] using h9, by simpa [Rr2, xI_I, xI_J, xI_R, xI_A, xI_Q, xJ_I, xJ_J, xJ_R, xJ_A, xJ_Q, xR_I, xR_J, xR_R, xR_A, xR_Q, xA_I, xA_J, xA_R, xA_A, xA_Q, xQ_I, xQ_J, xQ_R, xQ_A, xQ_Q, xC_I, xC_J, xC_R, xC_A, xC_Q, gI_sI, gI_sJ, gI_sA, gI_sL, gJ_sI, gJ_sJ, gJ_sA, gJ_sL, gA_sI, gA_sJ, gA_sA, gA_sL, gL_sI, gL_sJ, gL_sA, gL_sL, inj_e hj] using h10, by simpa [Rq, xI_I, xI_J, xI_R, xI_A, xI_Q, xJ_I, xJ_J, xJ_R, xJ_A, xJ_Q, xR_I, xR_J, xR_R, xR_A, xR_Q, xA_I, xA_J, xA_R, xA_A, xA_Q, xQ_I, xQ_J, xQ_R, xQ_A, xQ_Q, xC_I, xC_J, xC_R, xC_A, xC_Q, gI_sI, gI_sJ, gI_sA, gI_sL, gJ_sI, gJ_sJ, gJ_sA, gJ_sL, gA_sI, gA_sJ, gA_sA, gA_sL, gL_sI, gL_sJ, gL_sA, gL_sL, inj_e hj] using h11⟩
  · intro u u0 u1
    have z := h3 u u0 u1
    by_cases q : u = t
    · subst q; simp [xI_I, xI_J, xI_R, xI_A, xI_Q, xJ_I, xJ_J, xJ_R, xJ_A, xJ_Q, xR_I, xR_J, xR_R, xR_A, xR_Q, xA_I, xA_J, xA_R, xA_A, xA_Q, xQ_I, xQ_J, xQ_R, xQ_A, xQ_Q, xC_I, xC_J, xC_R, xC_A, xC_Q, gI_sI, gI_sJ, gI_sA, gI_sL, gJ_sI, gJ_sJ, gJ_sA, gJ_sL, gA_sI, gA_sJ, gA_sA, gA_sL, gL_sI, gL_sJ, gL_sA, gL_sL, inj_e hj, h21] at z ⊢; simp [z]; exact ⟨z.2.2.2.2.2.2.2.1, z.2.2.2.2.2.2.2.2.1⟩
    · simp [xI_I, xI_J, xI_R, xI_A, xI_Q, xJ_I, xJ_J, xJ_R, xJ_A, xJ_Q, xR_I, xR_J, xR_R, xR_A, xR_Q, xA_I, xA_J, xA_R, xA_A, xA_Q, xQ_I, xQ_J, xQ_R, xQ_A, xQ_Q, xC_I, xC_J, xC_R, xC_A, xC_Q, gI_sI, gI_sJ, gI_sA, gI_sL, gJ_sI, gJ_sJ, gJ_sA, gJ_sL, gA_sI, gA_sJ, gA_sA, gA_sL, gL_sI, gL_sJ, gL_sA, gL_sL, inj_e hj, q] at z ⊢; exact z
section PB
variable {ad : adT} {B : Int32} {S : mS} {X : xS} {t : Int32}
theorem s_ck {v : Int64} (h : Sim ad B S X) : Sim ad B (sJ S 24 v) (xwJ X (ad 8 0) 3 v) := ⟨mInv_sm h.1 h.1.1 (fun _ _ _ => rfl), j_sm h.2.1 (fun _ _ _ => rfl), Rel_ck h.2.2⟩
theorem slp_n (h : mInv S) (ht : 0 ≤ t ∧ t < 8) (h13 : gA S 13 t = 3) : nR S t ∧ gA S 21 t = 0 := by
  constructor
  · intro b i b0 b1 i0 i1 y
    have m := h.2.2.2.2.1 b i b0 b1 i0 i1
    rw [y] at m
    rcases m.2.2.2 with w | w
    · rw [h13] at w; exact absurd w.1 (by decide)
    · rw [h13] at w; exact absurd w.1 (by decide)
  · by_cases q : gA S 21 t = 0
    · exact q
    · have := ((h.2.1 t ht.1 ht.2).2.2 q).1
      rw [h13] at this; exact absurd this (by decide)
/-- one that sleeps goes on -/
theorem s_slg (h : Sim ad B S X) (ht : 0 ≤ t ∧ t < 8) (h13 : gA S 13 t = 3) : Sim ad B (G_goesOn S t) (FC_X8_goOn X (ad 0 t)) := by
  obtain ⟨hn, h21⟩ := slp_n h.1 ht h13
  have a := at_of h.1 ht (Or.inr (Or.inr h13))
  rw [goesOn_gs, ← gs_sA (by decide) (by decide) (by decide)]
  have m1 := gs_inv (k := gA S 15 t + 1) h.1 ht hn h21 a.2.2 (by clear h; grind)
  refine ⟨?_, ?_, Rel_16 (R_go h.2.2 ht hn h21) (by rw [gs_o (by decide) (by decide)]; exact h21)⟩
  · have z := (gO_inv h.1 ht hn h21 (Or.inr (Or.inr h13)) goesOn_e).1
    rw [goesOn_gs, ← gs_sA (by decide) (by decide) (by decide)] at z
    exact z
  · have j := gs_j (k := gA S 15 t + 1) h.2.1 ht hn (Or.inr (Or.inr h13))
    have n1 : nR (gs S t (gA S 15 t + 1)) t := m1.2 t hn
    refine j_thr (t := t) j n1 (fun k i hk => ?_) (fun k u _ hu => by simp [gA_sA, hu]) ?_
    · have a1 : k ≠ 16 := by omega
      simp [gA_sA, a1]
    · have e13 := gs_13 (S := S) (t := t) (k := gA S 15 t + 1)
      have z := j.2.1 t ht.1 ht.2
      have g13 : gA (sA (gs S t (gA S 15 t + 1)) 16 t (-1)) 13 t = gA (gs S t (gA S 15 t + 1)) 13 t := by simp [gA_sA]
      have g17 : gA (sA (gs S t (gA S 15 t + 1)) 16 t (-1)) 17 t = gA (gs S t (gA S 15 t + 1)) 17 t := by simp [gA_sA]
      rw [g13, g17]
      refine ⟨z.1, z.2.1, ?_, z.2.2.1⟩
      rcases e13 with y | y <;> rw [y] <;> decide
end PB
theorem s_tk8 {ad : adT} {B : Int32} : ∀ (N M : Nat) (w i : Int32) (S : mS) (X : xS), Sim ad B S X → 0 ≤ i → i ≤ 8 → (8 - i).toInt.toNat < N → (8 - i).toInt.toNat < M →
    FC_X12_tick_L39 (ad 8 0) (ad 13 0) 8 M w i X = (0, (G_tick_L30 N w i S).1, (FC_X12_tick_L39 (ad 8 0) (ad 13 0) 8 M w i X).2.2) ∧ gI (G_tick_L30 N w i S).2 0 = gI S 0 ∧ Sim ad B (G_tick_L30 N w i S).2 (FC_X12_tick_L39 (ad 8 0) (ad 13 0) 8 M w i X).2.2 := by
  intro N
  induction N with
  | zero => intro M w i S X _ _ _ h; exact absurd h (Nat.not_lt_zero _)
  | succ N ih =>
    intro M w i S X h i0 i8 hN hM
    cases M with
    | zero => exact absurd hM (Nat.not_lt_zero _)
    | succ M =>
      rw [G_tick_L30, FC_X12_tick_L39]
      by_cases c : (8 : Int32) ≤ i
      · rw [if_pos c, if_pos c]; exact ⟨rfl, rfl, h⟩
      · have ht : 0 ≤ i ∧ i < 8 := ⟨i0, by clear ih h; grind⟩
        have n1 := msd hN (b := 8 - (i + 1)) (by clear ih h hN hM; grind) (by clear ih h hN hM; grind)
        have m1 := msd hM (b := 8 - (i + 1)) (by clear ih h hN hM; grind) (by clear ih h hN hM; grind)
        have z := h.2.2.2.2.2.1 i ht.1 ht.2
        rw [if_neg c, if_neg c, gLt_x, h.2.2.2.1.2.2.2.2.2.2 i ht.1 ht.2, Option.getD_some, gLt_x, z.2.1]
        by_cases d : gA S 13 i = 3
        · rw [if_pos d, if_pos d, gLt_x, gLt_x, z.2.2.2.2.2.2.1, h.2.2.2.1.2.2.2.1]
          by_cases y : lg_cmp (gL S 23 i) (gJ S 24) ≤ 0
          · rw [if_pos y, if_neg (show ¬ 0 < lg_cmp (gL S 23 i) (gJ S 24) by clear ih h z; grind), gLt_x, gLt_x, gLt_x, gLt_x, gLt_x, gLt_x]
            have s1 := s_slg h ht d
            have r := ih M (w + 1) (i + 1) _ _ s1 (by clear ih h z s1; grind) (by clear ih h z s1; grind) n1 m1
            refine ⟨r.1, r.2.1.trans ?_, r.2.2⟩
            rw [goesOn_e]; rfl
          · rw [if_neg y, if_pos (show 0 < lg_cmp (gL S 23 i) (gJ S 24) by clear ih h z; grind), gLt_x, gLt_x]
            exact ih M w (i + 1) _ _ h (by clear ih h z; grind) (by clear ih h z; grind) n1 m1
        · rw [if_neg d, if_neg d, gLt_x, gLt_x]
          exact ih M w (i + 1) _ _ h (by clear ih h z; grind) (by clear ih h z; grind) n1 m1
section PC
variable {ad : adT} {B : Int32} {S : mS} {X : xS} {t : Int32}
theorem t_tick {n : Int32} (h : Sim ad B S X) : Both ad B (G_tick S n) (FC_X12_tick X (ad 8 0) n) := by
  rw [G_tick, FC_X12_tick]
  by_cases c : 0 ≤ n
  · rw [if_pos c, if_pos c]
    repeat rw [gLt_x]
    rw [h.2.2.2.1.2.2.2.1, gJ_sI, xR_J, h.2.2.2.1.2.2.1, Option.getD_some]
    have s1 := s_ck (v := gJ S 24 + n.toInt64) (s_I (k := 0) (v := 0) h (by decide))
    have r := s_tk8 ((8 - 0 : Int32).toInt.toNat + 1) ((8 - 0 : Int32).toInt.toNat + 1) 0 0 _ _ s1 (by decide) (by decide) (Nat.lt_succ_self _) (Nat.lt_succ_self _)
    rw [r.1]
    exact ⟨r.2.1.symm, fun _ => rfl, r.2.2⟩
  · rw [if_neg c, if_neg c, refuse_e, gC_p]
    exact b_ref h (by decide)
theorem iw_1 {o a p : Nat} (h8 : xR X a 8 = some p) (h6 : xR X o 6 = some p) : FC_X4_interruptWait X o a = if xI (FC_X4_comeToFirst X o a (-2)) o 3 = -1 then (if xI (FC_X4_comeToFirst X o a (-2)) ((xR (FC_X4_comeToFirst X o a (-2)) o 2).getD 0) 0 = 1 then FC_X4_free (FC_X4_comeToFirst X o a (-2)) o else FC_X4_comeToFirst X o a (-2)) else FC_X4_comeToFirst X o a (-2) := by
  rw [FC_X4_interruptWait, h8, gO_1, gLt_x, h6, Option.getD_some, if_pos rfl]
  repeat rw [gLt_x]
theorem iw_0 {o a p q : Nat} (h8 : xR X a 8 = some p) (h6 : xR X o 6 = some q) (hpq : p ≠ q) : FC_X4_interruptWait X o a = xwI X a 10 (-2) := by
  rw [FC_X4_interruptWait, h8, gO_1, gLt_x, h6, Option.getD_some, if_neg (fun z => hpq (Option.some.inj z)), gLt_x, gLt_x]
/-- one that waits without a wait before, or sleeps, is interrupted -/
theorem s_itn (h : Sim ad B S X) (ht : 0 ≤ t ∧ t < 8) (h13 : gA S 13 t = 3 ∨ (gA S 13 t = 2 ∧ gA S 22 t = 0)) : Sim ad B (G_interrupt_J111 t S).2 (FC_X8_goOnWith X (ad 0 t) (-2)) ∧ (G_interrupt_J111 t S).1 = 1 ∧ gI (G_interrupt_J111 t S).2 0 = gI S 0 := by
  have eg : FC_X8_goOnWith X (ad 0 t) (-2) = FC_X8_goOn (xwI X (ad 0 t) 2 (-2)) (ad 0 t) := by rw [FC_X8_goOnWith, gLt, gLt]
  have s1 := s_14 (t := t) (v := -2) h
  rw [eg, G_interrupt_J111]
  rcases h13 with z | z
  · rw [if_neg (by rw [z]; decide)]
    repeat rw [gLt_x]
    exact ⟨s_slg s1 ht (by simpa [gA_sA] using z), rfl, by rw [goesOn_e]; rfl⟩
  · rw [if_pos z.1]
    repeat rw [gLt_x]
    have h21 : gA S 21 t = 0 := by
      by_cases q : gA S 21 t = 0
      · exact q
      · obtain ⟨i, i0, i1, i2⟩ := ((h.1.2.1 t ht.1 ht.2).2.2 q).2
        have b := (h.1.2.1 t ht.1 ht.2).2.1 z.1
        have m := h.1.2.2.2.2.2.2.1 (gA S 16 t) i b.1 b.2 i0 i1
        rw [i2] at m
        exact absurd z.2 m.2.2.2.2.2.1
    have b := (h.1.2.1 t ht.1 ht.2).2.1 z.1
    have hi := h.2.1.2.2.1 t (by clear h s1; grind) ht.1 ht.2 z.1 h21
    have s2 := s_lg s1 b (t := t) (by simpa [inR, gA_sA] using hi) (by simpa [gA_sA] using z.2)
    rw [leaves_c (by decide) (by decide)] at s2
    refine ⟨s2, rfl, ?_⟩
    show gI (G_goesOn (sA (G_leaves S (gA S 16 t) t) 14 t (-2)) t) 0 = gI S 0
    rw [goesOn_e]
    exact (lvP_f (by decide) (p_lv (t := t) b h.1)).2.2.2.1 0
theorem t_int {i : Int32} (h : Sim ad B S X) (hB : 1 ≤ B ∧ B ≤ 1000000000) : Both ad B (G_interrupt S i) (FC_X12_interrupt X (ad 8 0) i) := by
  rw [G_interrupt, gLt_x, FC_X12_interrupt, strandAt_e h.2.2]
  by_cases c : 0 ≤ i ∧ i ≤ 7
  · rw [if_pos c, in_1 c, if_neg (by decide), gLt_x, gT_0, gLt_x]
    have ht : 0 ≤ i ∧ i < 8 := by clear h; grind
    have s1 := s_I (k := 0) (v := 0) h (by decide)
    have e13 : gA (sI S 0 0) 13 i = gA S 13 i := rfl
    have e0 : gI (sI S 0 0) 0 = 0 := by simp [gI_sI]
    rw [e13, gLt_x, (th0 h.2.2 ht).2.1]
    rw [← e13]
    generalize sI S 0 0 = S1 at s1 e0 ⊢
    have z := s1.2.2.2.2.2.1 i ht.1 ht.2
    by_cases d : gA S1 13 i = 1
    · rw [if_pos d, if_pos d, gLt_x, nar1]
      exact ⟨e0.symm, fun _ => rfl, s_20 s1⟩
    · rw [if_neg d, if_neg d]
      by_cases d2 : gA S1 13 i = 2
      · rw [if_pos d2, if_pos d2, G_interrupt_J62, if_pos d2]
        have b := (s1.1.2.1 i ht.1 ht.2).2.1 d2
        by_cases y : gA S1 22 i = 0
        · rw [if_pos y]
          obtain ⟨r1, r2, r3⟩ := s_itn s1 ht (Or.inr ⟨d2, y⟩)
          have k9 := z.2.2.2.2.2.2.2.1 y
          have fin9 : ∀ o : Option Nat, gO o (gLt (FC_X8_goOnWith X (ad 0 i) (-2)) (fun Xf11 => ((0 : Int32), (1 : Int32), Xf11))) (fun y9 => if xC X y9 = 3 then gLt (xI X (ad 0 i) 9) (fun v6_9 => if v6_9 ≤ 0 then gLt (FC_X8_goOnWith X (ad 0 i) (-2)) (fun Xf18 => ((0 : Int32), (1 : Int32), Xf18)) else gLt (FC_X4_interruptWait X y9 (ad 0 i)) (fun Xf21 => ((0 : Int32), (1 : Int32), Xf21))) else gLt (FC_X8_goOnWith X (ad 0 i) (-2)) (fun Xf25 => ((0 : Int32), (1 : Int32), Xf25))) = (0, 1, FC_X8_goOnWith X (ad 0 i) (-2)) := fun o => by
            cases o with
            | none => rw [gO_0, gLt_x]
            | some q =>
              rw [gO_1]
              by_cases w : xC X q = 3
              · rw [if_pos w, gLt_x, k9, if_pos (by decide), gLt_x]
              · rw [if_neg w, gLt_x]
          rw [fin9]
          exact ⟨(r3.trans e0).symm, fun _ => r2.symm, r1⟩
        · rw [if_neg y, gLt_x]
          have k9 := z.2.2.2.2.2.2.2.2.1 y
          have k1 := ((s1.2.1.2.1 i ht.1 ht.2).2.2.2 y).1
          have e21 : gA (sA S1 19 i (-2)) 21 i = gA S1 21 i := by simp [gA_sA]
          have e16 : gA (sA S1 19 i (-2)) 16 i = gA S1 16 i := by simp [gA_sA]
          rw [e21, e16]
          have m1 : mInv (sA S1 19 i (-2)) := mInv_irr s1.1 (by simp [smK])
          by_cases w : gA S1 21 i = 0
          · rw [if_pos w]
            obtain ⟨d9, d0, d1, dk, j, j0, j1, j2⟩ := s1.2.1.2.2.2.1 i (by clear h s1 z; grind) ht.1 ht.2 y w
            have p := s1.2.2.2.2.2.2.2.1 d9 j d0 d1 j0 j1
            rw [j2] at p
            have hc := (xcl s1.2.2 ⟨d0, d1⟩ (by rw [dk]; decide)).1
            rw [dk, show kC9 1 = 3 by decide] at hc
            rw [p.1, gO_1, hc, if_pos rfl, gLt_x, k9, if_neg (show ¬ gA S1 18 i ≤ 0 by clear h s1 z p; grind), gLt_x, iw_0 p.2 (lck s1.2.2 ⟨d0, d1⟩ dk).2.2.2 (fun q => absurd (s1.2.2.1 _ _ _ _ q).1 (by decide))]
            exact ⟨e0.symm, fun _ => rfl, m1, j_19n s1.2.1 w, Rel_19 s1.2.2⟩
          · rw [if_neg w, gLt_x]
            have p := s1.2.2.2.2.2.2.2.2.2.1 i ht.1 ht.2 w
            have bk : gA S1 28 (gA S1 16 i) = 1 := by
              obtain ⟨j, j0, j1, j2⟩ := ((s1.1.2.1 i ht.1 ht.2).2.2 w).2
              exact (s1.1.2.2.2.2.2.2.1 (gA S1 16 i) j b.1 b.2 j0 j1).2.2.2.2.2.2
            have hc := (xcl s1.2.2 b (by rw [bk]; decide)).1
            rw [bk, show kC9 1 = 3 by decide] at hc
            rw [p.1, gO_1, hc, if_pos rfl, gLt_x, k9, if_neg (show ¬ gA S1 18 i ≤ 0 by clear h s1 z p; grind), gLt_x, iw_1 p.2 (lck s1.2.2 b bk).2.2.2]
            have kS : gA (sA S1 19 i (-2)) 28 (gA S1 16 i) = 1 := by simpa [gA_sA] using bk
            have s2 := s_sg m1 (j_19 s1.2.1) (Rel_19b s1.2.2 w) b kS ht (by rw [e21]; exact w) e16 (show gA (sA S1 19 i (-2)) 19 i = -2 by simp [gA_sA])
            have pf := lvP_f (by decide) (p_l2 (t := i) b m1)
            have pI := (p_signalled (sA S1 19 i (-2)) (gA S1 16 i) i b m1 ht (by rw [e21]; exact w) e16 _ rfl).1.2.1 0
            rw [signalled_e b m1] at pI ⊢
            have l31 := pf.2.2.1 31 (gA S1 16 i) (by decide) (by decide)
            have l33 := pf.2.2.1 33 (gA S1 16 i) (by decide) (by decide)
            have f31 : gA (G_waitFor (sA (lv2 (sA S1 19 i (-2)) (gA S1 16 i) i) 21 i 0) i (gA S1 16 i)) 31 (gA S1 16 i) = gA (lv2 (sA S1 19 i (-2)) (gA S1 16 i) i) 31 (gA S1 16 i) := by rw [waitFor_e]; simp [gA_sA]
            have f33 : gA (G_waitFor (sA (lv2 (sA S1 19 i (-2)) (gA S1 16 i) i) 21 i 0) i (gA S1 16 i)) 33 (gA S1 16 i) = gA (lv2 (sA S1 19 i (-2)) (gA S1 16 i) i) 33 (gA S1 16 i) + 1 := by rw [waitFor_e]; simp [gA_sA]
            have f28 : gA (G_waitFor (sA (lv2 (sA S1 19 i (-2)) (gA S1 16 i) i) 21 i 0) i (gA S1 16 i)) 28 (gA S1 16 i) = 1 := by rw [waitFor_e]; simp only [gA_sA]; simp; exact (pf.2.2.1 28 _ (by decide) (by decide)).trans kS
            have w31 := own_n m1 b
            rw [← l31] at w31
            have w33 := (pre_lv b m1).1
            rw [← l33] at w33
            generalize FC_X4_comeToFirst X (ad 2 (gA S1 16 i)) (ad 0 i) (-2) = X2 at s2 ⊢
            generalize gA (lv2 (sA S1 19 i (-2)) (gA S1 16 i) i) 31 (gA S1 16 i) = o31 at *
            generalize gA (lv2 (sA S1 19 i (-2)) (gA S1 16 i) i) 33 (gA S1 16 i) = o33 at *
            generalize G_waitFor (sA (lv2 (sA S1 19 i (-2)) (gA S1 16 i) i) 21 i 0) i (gA S1 16 i) = W at *
            rw [(lck s2.2.2 b f28).1, f31, ob2 s2.2.2 b (by rw [f28]; decide), Option.getD_some, rsz s2.2.2 b (by rw [f28]; decide), f33]
            by_cases v : o31 < 0 ∧ o33 = 0
            · rw [if_pos v] at pI ⊢
              rw [if_pos (show o31 = -1 by have := v.1; clear h s1 s2 z p pI pf; grind), if_pos (show o33 + 1 = 1 by rw [v.2]; decide)]
              refine ⟨?_, fun _ => rfl, s_freed (v := gA W 29 (gA S1 16 i)) s2.1 s2.2.1 (by rw [sA_self rfl]; exact s2.2.2) hB.1 b f28⟩
              exact (pI.trans e0).symm
            · rw [if_neg v] at pI ⊢
              have e9 : (if o31 = -1 then (if o33 + 1 = 1 then FC_X4_free X2 (ad 2 (gA S1 16 i)) else X2) else X2) = X2 := by
                by_cases v1 : o31 = -1
                · rw [if_pos v1, if_neg (fun q => v ⟨by rw [v1]; decide, by clear h s1 s2 z p pI pf; grind⟩)]
                · rw [if_neg v1]
              rw [e9]
              exact ⟨(pI.trans e0).symm, fun _ => rfl, s2⟩
      · rw [if_neg d2, if_neg d2]
        by_cases d3 : gA S1 13 i = 3
        · rw [if_pos d3, if_pos d3, G_interrupt_J62, if_neg d2]
          obtain ⟨r1, r2, r3⟩ := s_itn s1 ht (Or.inl d3)
          obtain ⟨hn, h21⟩ := slp_n s1.1 ht d3
          rw [(s1.2.2.2.2.2.2.2.2.1 i (by clear h s1 z r1; grind) ht.1 ht.2 hn h21).1, gO_0, gLt_x]
          exact ⟨(r3.trans e0).symm, fun _ => r2.symm, r1⟩
        · rw [if_neg d3, if_neg d3]
          exact ⟨e0.symm, fun _ => rfl, s1⟩
  · rw [if_neg c, in_0 c, if_pos rfl, refuse_e, gC_p, gT_1]
    exact b_ref h (by decide)
end PC

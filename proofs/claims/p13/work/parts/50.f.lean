set_option maxHeartbeats 400000 in
set_option maxRecDepth 100000 in
theorem p_step (S : mS) (t : Int32)  (h1 : mInv S) (rZ : Int32) (SZ : mS) (hZ : (rZ, SZ) = G_step S t) : (fun (r9 : Int32) (S9 : mS) => mInv S9 ∧ gI S9 2 = gI S 2) rZ SZ := by
  have hG := G_step.eq_1 S t
  obtain ⟨r2, ghq3⟩ : ∃ z9 : Int32, z9 = G_in S t 0 7 := ⟨_, rfl⟩
  have hq3 := (p_in S t 0 7   r2 ghq3).2
  replace hG := gLt_e hG ghq3
  rcases (Classical.em ((r2 : Int32) = 0)).symm with c4 | c4
  · replace hG := gIf_n hG c4
    have ht : 0 ≤ t ∧ t < 8 := t8 (in_y hq3 c4)
    obtain ⟨S5, eS5⟩ : ∃ z9 : mS, z9 = sI S 0 0 := ⟨_, rfl⟩
    replace hG := gLt_e hG eS5
    have p1 := pb_I h1 eS5 (by decide) (by decide)
    rcases (Classical.em (((gA S5 13 t) : Int32) = 1)).symm with c6 | c6
    · replace hG := gIf_n hG c6
      exact gE2 (P := (fun (r9 : Int32) (S9 : mS) => mInv S9 ∧ gI S9 2 = gI S 2)) hZ hG (by clear hG hZ; first | exact pb_t p1 nope9 | exact p1)
    · replace hG := gIf_p hG c6
      obtain ⟨S7, ghq9⟩ : ∃ z9 : mS, z9 = G_one S5 t := ⟨_, rfl⟩
      have hq9 := p_one S5 t  (ht) (p1.1) (c6) S7 ghq9
      replace hG := gLt_e hG ghq9
      exact gE2 (P := (fun (r9 : Int32) (S9 : mS) => mInv S9 ∧ gI S9 2 = gI S 2)) hZ hG (by clear hG hZ; first | exact pb_t p1 hq9 | exact p1)
  · replace hG := gIf_p hG c4
    obtain ⟨r11, S10, ghq12⟩ : ∃ (z : Int32) (y : mS), (z, y) = G_refuse S 1 := ⟨_, _, rfl⟩
    have hq12 := p_refuse S 1   r11 S10 ghq12
    replace hG := gC_e hG ghq12
    exact gE2 (P := (fun (r9 : Int32) (S9 : mS) => mInv S9 ∧ gI S9 2 = gI S 2)) hZ hG (pb_I h1 hq12.2 (by clear hG hZ; decide) (by clear hG hZ; decide))
set_option maxHeartbeats 400000 in
set_option maxRecDepth 100000 in
theorem p_tick (S : mS) (n : Int32)  (h1 : mInv S) (rZ : Int32) (SZ : mS) (hZ : (rZ, SZ) = G_tick S n) : (fun (r9 : Int32) (S9 : mS) => mInv S9 ∧ gI S9 2 = gI S 2) rZ SZ := by
  have hG := G_tick.eq_1 S n
  rcases Classical.em (0 ≤ (n : Int32)) with c1 | c1
  · replace hG := gIf_p hG c1
    obtain ⟨S2, eS2⟩ : ∃ z9 : mS, z9 = sI S 0 0 := ⟨_, rfl⟩
    replace hG := gLt_e hG eS2
    have p1 := pb_I h1 eS2 (by decide) (by decide)
    obtain ⟨S3, eS3⟩ : ∃ z9 : mS, z9 = sJ S2 24 ((gJ S2 24) + (Int32.toInt64 n)) := ⟨_, rfl⟩
    replace hG := gLt_e hG eS3
    have p2 := pb_t p1 (pb_J p1.1 eS3)
    obtain ⟨x4, ex4⟩ : ∃ z9 : Int32, z9 = 0 := ⟨_, rfl⟩
    replace hG := gLt_e hG ex4
    obtain ⟨x5, ex5⟩ : ∃ z9 : Int32, z9 = 0 := ⟨_, rfl⟩
    replace hG := gLt_e hG ex5
    have loop30 : ∀ (N30 : Nat) (v30_2 : Int32) (v30_3 : Int32) (SL30 : mS), ((mInv SL30 ∧ gI SL30 2 = gI S 2) ∧ 0 ≤ v30_3 ∧ v30_3 ≤ 8) → ((8 - v30_3).toInt.toNat) < N30 → (G_tick S n = G_tick_L30  N30 v30_2 v30_3 SL30) → (fun (r9 : Int32) (S9 : mS) => mInv S9 ∧ gI S9 2 = gI S 2) rZ SZ := by
      intro N30
      induction N30 with
      | zero => intro v30_2 v30_3 SL30 hi30 hm30; exact absurd hm30 (Nat.not_lt_zero _)
      | succ N30 ih30 =>
        intro v30_2 v30_3 SL30 hi30 hm30 hG
        rw [G_tick_L30] at hG
        rcases Classical.em (8 ≤ (v30_3 : Int32)) with c6 | c6
        · replace hG := gIf_p hG c6
          exact gE2 (P := (fun (r9 : Int32) (S9 : mS) => mInv S9 ∧ gI S9 2 = gI S 2)) hZ hG (hi30.1)
        · replace hG := gIf_n hG c6
          rcases (Classical.em (((gA SL30 13 v30_3) : Int32) = 3)).symm with c7 | c7
          · replace hG := gIf_n hG c7
            obtain ⟨x8, ex8⟩ : ∃ z9 : Int32, z9 = v30_3 + (1) := ⟨_, rfl⟩
            replace hG := gLt_e hG ex8
            exact ih30 v30_2 x8 SL30 (by clear hG hZ ih30 hm30; first | exact ⟨pb_t hi30.1 (tk_g hi30.1.1 ⟨hi30.2.1, i_lt c6⟩ c7 nope9), a_up ex8 hi30.2.1 (i_lt c6)⟩ | exact ⟨hi30.1, a_up ex8 hi30.2.1 (i_lt c6)⟩) (msd hm30 (a_dec ex8 hi30.2.1 (i_lt c6)).1 (a_dec ex8 hi30.2.1 (i_lt c6)).2) hG
          · replace hG := gIf_p hG c7
            rcases Classical.em (((lg_cmp (gL SL30 23 v30_3) (gJ SL30 24)) : Int32) ≤ 0) with c9 | c9
            · replace hG := gIf_p hG c9
              obtain ⟨S10, ghq12⟩ : ∃ z9 : mS, z9 = G_goesOn SL30 v30_3 := ⟨_, rfl⟩
              have hq12 := p_goesOn SL30 v30_3  (⟨hi30.2.1, i_lt c6⟩) S10 ghq12
              replace hG := gLt_e hG ghq12
              obtain ⟨x13, ex13⟩ : ∃ z9 : Int32, z9 = v30_2 + (1) := ⟨_, rfl⟩
              replace hG := gLt_e hG ex13
              obtain ⟨x14, ex14⟩ : ∃ z9 : Int32, z9 = v30_3 + (1) := ⟨_, rfl⟩
              replace hG := gLt_e hG ex14
              exact ih30 x13 x14 S10 (by clear hG hZ ih30 hm30; first | exact ⟨pb_t hi30.1 (tk_g hi30.1.1 ⟨hi30.2.1, i_lt c6⟩ c7 hq12), a_up ex14 hi30.2.1 (i_lt c6)⟩ | exact ⟨hi30.1, a_up ex14 hi30.2.1 (i_lt c6)⟩) (msd hm30 (a_dec ex14 hi30.2.1 (i_lt c6)).1 (a_dec ex14 hi30.2.1 (i_lt c6)).2) hG
            · replace hG := gIf_n hG c9
              obtain ⟨x15, ex15⟩ : ∃ z9 : Int32, z9 = v30_3 + (1) := ⟨_, rfl⟩
              replace hG := gLt_e hG ex15
              exact ih30 v30_2 x15 SL30 (by clear hG hZ ih30 hm30; first | exact ⟨pb_t hi30.1 (tk_g hi30.1.1 ⟨hi30.2.1, i_lt c6⟩ c7 nope9), a_up ex15 hi30.2.1 (i_lt c6)⟩ | exact ⟨hi30.1, a_up ex15 hi30.2.1 (i_lt c6)⟩) (msd hm30 (a_dec ex15 hi30.2.1 (i_lt c6)).1 (a_dec ex15 hi30.2.1 (i_lt c6)).2) hG
    exact loop30 ((8 - x5).toInt.toNat + 1) x4 x5 S3 (⟨p2, by rw [ex5]; decide, by rw [ex5]; decide⟩) (Nat.lt_succ_self _) hG
  · replace hG := gIf_n hG c1
    obtain ⟨r17, S16, ghq18⟩ : ∃ (z : Int32) (y : mS), (z, y) = G_refuse S 1 := ⟨_, _, rfl⟩
    have hq18 := p_refuse S 1   r17 S16 ghq18
    replace hG := gC_e hG ghq18
    exact gE2 (P := (fun (r9 : Int32) (S9 : mS) => mInv S9 ∧ gI S9 2 = gI S 2)) hZ hG (pb_I h1 hq18.2 (by clear hG hZ; decide) (by clear hG hZ; decide))
set_option maxHeartbeats 400000 in
set_option maxRecDepth 100000 in
theorem pj_interrupt_111 (S : mS) (t : Int32)  (h1 : mInv S)  (SJ111 : mS) (rZ : Int32) (SZ : mS) (hj111 : (0 ≤ t ∧ t < 8) ∧ (mInv SJ111 ∧ gI SJ111 2 = gI S 2) ∧ ((gA SJ111 13 t = 2 ∧ gA SJ111 22 t = 0) ∨ gA SJ111 13 t = 3)) (hZ : (rZ, SZ) = G_interrupt S t) (hG : G_interrupt S t = G_interrupt_J111 t  SJ111) : (fun (r9 : Int32) (S9 : mS) => mInv S9 ∧ gI S9 2 = gI S 2) rZ SZ := by
  obtain ⟨ht, p1, p13⟩ := id hj111
  rw [G_interrupt_J111] at hG
  rcases (Classical.em (((gA SJ111 13 t) : Int32) = 2)).symm with c1 | c1
  · replace hG := gIf_n hG c1
    obtain ⟨S2, eS2⟩ : ∃ z9 : mS, z9 = sA SJ111 14 t ((-2)) := ⟨_, rfl⟩
    replace hG := gLt_e hG eS2
    obtain ⟨S3, ghq5⟩ : ∃ z9 : mS, z9 = G_goesOn S2 t := ⟨_, rfl⟩
    have hq5 := p_goesOn S2 t  (ht) S3 ghq5
    replace hG := gLt_e hG ghq5
    exact gE2 (P := (fun (r9 : Int32) (S9 : mS) => mInv S9 ∧ gI S9 2 = gI S 2)) hZ hG (by clear hG hZ; first | exact pb_t p1 (it_l p1.1 ht c1 (by rcases p13 with q | q; exact q.2; rw [c1] at q; exact absurd q (by decide)) nope9 eS2 hq5) | exact pb_t p1 (it_g p1.1 ht (by rcases p13 with q | q; exact absurd q.1 c1; exact q) eS2 hq5))
  · replace hG := gIf_p hG c1
    obtain ⟨S6, ghq8⟩ : ∃ z9 : mS, z9 = G_leaves SJ111 (gA SJ111 16 t) t := ⟨_, rfl⟩
    have hq8 := p_leaves SJ111 (gA SJ111 16 t) t  ((p1.1.2.1 t ht.1 ht.2).2.1 c1) (pre_lv ((p1.1.2.1 t ht.1 ht.2).2.1 c1) p1.1) (rd_lv ((p1.1.2.1 t ht.1 ht.2).2.1 c1) p1.1) S6 ghq8
    replace hG := gLt_e hG ghq8
    obtain ⟨S9, eS9⟩ : ∃ z9 : mS, z9 = sA S6 14 t ((-2)) := ⟨_, rfl⟩
    replace hG := gLt_e hG eS9
    obtain ⟨S10, ghq12⟩ : ∃ z9 : mS, z9 = G_goesOn S9 t := ⟨_, rfl⟩
    have hq12 := p_goesOn S9 t  (ht) S10 ghq12
    replace hG := gLt_e hG ghq12
    exact gE2 (P := (fun (r9 : Int32) (S9 : mS) => mInv S9 ∧ gI S9 2 = gI S 2)) hZ hG (by clear hG hZ; first | exact pb_t p1 (it_l p1.1 ht c1 (by rcases p13 with q | q; exact q.2; rw [c1] at q; exact absurd q (by decide)) hq8 eS9 hq12) | exact pb_t p1 (it_g p1.1 ht (by rcases p13 with q | q; exact absurd q.1 c1; exact q) eS9 hq12))
set_option maxHeartbeats 400000 in
set_option maxRecDepth 100000 in
theorem pj_interrupt_62 (S : mS) (t : Int32)  (h1 : mInv S)  (SJ62 : mS) (rZ : Int32) (SZ : mS) (hj62 : (0 ≤ t ∧ t < 8) ∧ (mInv SJ62 ∧ gI SJ62 2 = gI S 2) ∧ (gA SJ62 13 t = 2 ∨ gA SJ62 13 t = 3)) (hZ : (rZ, SZ) = G_interrupt S t) (hG : G_interrupt S t = G_interrupt_J62 t  SJ62) : (fun (r9 : Int32) (S9 : mS) => mInv S9 ∧ gI S9 2 = gI S 2) rZ SZ := by
  obtain ⟨ht, p1, p13⟩ := id hj62
  rw [G_interrupt_J62] at hG
  rcases (Classical.em (((gA SJ62 13 t) : Int32) = 2)).symm with c13 | c13
  · replace hG := gIf_n hG c13
    exact pj_interrupt_111 S t h1  SJ62 rZ SZ (⟨ht, p1, by first | exact Or.inl ⟨c13, nope9⟩ | exact Or.inr (p13.resolve_left c13)⟩) hZ hG
  · replace hG := gIf_p hG c13
    rcases Classical.em (((gA SJ62 22 t) : Int32) = 0) with c14 | c14
    · replace hG := gIf_p hG c14
      exact pj_interrupt_111 S t h1  SJ62 rZ SZ (⟨ht, p1, by first | exact Or.inl ⟨c13, c14⟩ | exact Or.inr (p13.resolve_left c13)⟩) hZ hG
    · replace hG := gIf_n hG c14
      obtain ⟨S15, eS15⟩ : ∃ z9 : mS, z9 = sA SJ62 19 t ((-2)) := ⟨_, rfl⟩
      replace hG := gLt_e hG eS15
      rcases Classical.em (((gA S15 21 t) : Int32) = 0) with c16 | c16
      · replace hG := gIf_p hG c16
        exact gE2 (P := (fun (r9 : Int32) (S9 : mS) => mInv S9 ∧ gI S9 2 = gI S 2)) hZ hG (by clear hG hZ; first | exact pb_t p1 (pb_t (pb_s (st_irr (stp_rf p1.1) eS15 (by simp [smK]))) (pb_s nope9.1)) | exact pb_t p1 (pb_s (st_irr (stp_rf p1.1) eS15 (by simp [smK]))))
      · replace hG := gIf_n hG c16
        have s1 := st_irr (stp_rf p1.1) eS15 (by simp [smK])
        have z21 : gA S15 21 t ≠ 0 := c16
        have z16 := (s1.1.2.1 t ht.1 ht.2).2.1 ((s1.1.2.1 t ht.1 ht.2).2.2 z21).1
        obtain ⟨S17, ghq19⟩ : ∃ z9 : mS, z9 = G_signalled S15 (gA S15 16 t) t := ⟨_, rfl⟩
        have hq19 := p_signalled S15 (gA S15 16 t) t  (z16) (s1.1) (ht) (z21) (rfl) S17 ghq19
        replace hG := gLt_e hG ghq19
        exact gE2 (P := (fun (r9 : Int32) (S9 : mS) => mInv S9 ∧ gI S9 2 = gI S 2)) hZ hG (by clear hG hZ; first | exact pb_t p1 (pb_t (pb_s (st_irr (stp_rf p1.1) eS15 (by simp [smK]))) (pb_s hq19.1)) | exact pb_t p1 (pb_s (st_irr (stp_rf p1.1) eS15 (by simp [smK]))))
set_option maxHeartbeats 400000 in
set_option maxRecDepth 100000 in
theorem p_interrupt (S : mS) (t : Int32)  (h1 : mInv S) (rZ : Int32) (SZ : mS) (hZ : (rZ, SZ) = G_interrupt S t) : (fun (r9 : Int32) (S9 : mS) => mInv S9 ∧ gI S9 2 = gI S 2) rZ SZ := by
  have hG := G_interrupt.eq_1 S t
  obtain ⟨r21, ghq22⟩ : ∃ z9 : Int32, z9 = G_in S t 0 7 := ⟨_, rfl⟩
  have hq22 := (p_in S t 0 7   r21 ghq22).2
  replace hG := gLt_e hG ghq22
  rcases (Classical.em ((r21 : Int32) = 0)).symm with c23 | c23
  · replace hG := gIf_n hG c23
    have ht : 0 ≤ t ∧ t < 8 := t8 (in_y hq22 c23)
    obtain ⟨S24, eS24⟩ : ∃ z9 : mS, z9 = sI S 0 0 := ⟨_, rfl⟩
    replace hG := gLt_e hG eS24
    have p1 := pb_I h1 eS24 (by decide) (by decide)
    rcases (Classical.em (((gA S24 13 t) : Int32) = 1)).symm with c25 | c25
    · replace hG := gIf_n hG c25
      rcases Classical.em (((gA S24 13 t) : Int32) = 2) with c26 | c26
      · replace hG := gIf_p hG c26
        exact pj_interrupt_62 S t h1  S24 rZ SZ (⟨ht, p1, by first | exact Or.inl c26 | exact Or.inr nope9⟩) hZ hG
      · replace hG := gIf_n hG c26
        rcases Classical.em (((gA S24 13 t) : Int32) = 3) with c27 | c27
        · replace hG := gIf_p hG c27
          exact pj_interrupt_62 S t h1  S24 rZ SZ (⟨ht, p1, by first | exact Or.inl c26 | exact Or.inr c27⟩) hZ hG
        · replace hG := gIf_n hG c27
          exact gE2 (P := (fun (r9 : Int32) (S9 : mS) => mInv S9 ∧ gI S9 2 = gI S 2)) hZ hG (p1)
    · replace hG := gIf_p hG c25
      obtain ⟨S28, eS28⟩ : ∃ z9 : mS, z9 = sA S24 20 t (vp_nar .boolean 1) := ⟨_, rfl⟩
      replace hG := gLt_e hG eS28
      exact gE2 (P := (fun (r9 : Int32) (S9 : mS) => mInv S9 ∧ gI S9 2 = gI S 2)) hZ hG (pb_t p1 (pb_s (st_irr (stp_rf p1.1) eS28 (by clear hG hZ; simp [smK]))))
  · replace hG := gIf_p hG c23
    obtain ⟨r30, S29, ghq31⟩ : ∃ (z : Int32) (y : mS), (z, y) = G_refuse S 1 := ⟨_, _, rfl⟩
    have hq31 := p_refuse S 1   r30 S29 ghq31
    replace hG := gC_e hG ghq31
    exact gE2 (P := (fun (r9 : Int32) (S9 : mS) => mInv S9 ∧ gI S9 2 = gI S 2)) hZ hG (pb_I h1 hq31.2 (by clear hG hZ; decide) (by clear hG hZ; decide))
set_option maxHeartbeats 400000 in
set_option maxRecDepth 100000 in
theorem p_nextOf (S : mS) (t : Int32)  (h1 : mInv S) (h2 : 0 ≤ t ∧ t < 8) (rZ : Int32) (hZ : rZ = G_nextOf S t) : (fun r9 : Int32 => S = S ∧ -1 ≤ r9 ∧ r9 < 8) rZ := by
  have hG := G_nextOf.eq_1 S t
  rcases (Classical.em (((gA S 13 t) : Int32) = 2)).symm with c1 | c1
  · replace hG := gIf_n hG c1
    exact gE1 (P := (fun r9 : Int32 => S = S ∧ -1 ≤ r9 ∧ r9 < 8)) hZ hG (⟨rfl, by decide, by decide⟩)
  · replace hG := gIf_p hG c1
    rcases (Classical.em (((gA S 21 t) : Int32) = 0)).symm with c2 | c2
    · replace hG := gIf_n hG c2
      exact gE1 (P := (fun r9 : Int32 => S = S ∧ -1 ≤ r9 ∧ r9 < 8)) hZ hG (⟨rfl, by decide, by decide⟩)
    · replace hG := gIf_p hG c2
      rcases Classical.em (((gA S 28 (gA S 16 t)) : Int32) = 1) with c3 | c3
      · replace hG := gIf_p hG c3
        exact gE1 (P := (fun r9 : Int32 => S = S ∧ -1 ≤ r9 ∧ r9 < 8)) hZ hG (⟨rfl, (h1.2.2.2.1 _ ((h1.2.1 t h2.1 h2.2).2.1 c1).1 ((h1.2.1 t h2.1 h2.2).2.1 c1).2).2.2.1⟩)
      · replace hG := gIf_n hG c3
        exact gE1 (P := (fun r9 : Int32 => S = S ∧ -1 ≤ r9 ∧ r9 < 8)) hZ hG (⟨rfl, by decide, by decide⟩)
set_option maxHeartbeats 400000 in
set_option maxRecDepth 100000 in
theorem p_dead (S : mS)   (h1 : mInv S) (rZ : Int32) (SZ : mS) (hZ : (rZ, SZ) = G_dead S ) : (fun (r9 : Int32) (S9 : mS) => mInv S9 ∧ gI S9 2 = gI S 2) rZ SZ := by
  have hG := G_dead.eq_1 S 
  obtain ⟨S1, eS1⟩ : ∃ z9 : mS, z9 = sI S 0 0 := ⟨_, rfl⟩
  replace hG := gLt_e hG eS1
  have p1 := pb_I h1 eS1 (by decide) (by decide)
  obtain ⟨x2, ex2⟩ : ∃ z9 : Int32, z9 = 0 := ⟨_, rfl⟩
  replace hG := gLt_e hG ex2
  have loop7 : ∀ (N7 : Nat) (v7_1 : Int32) , (0 ≤ v7_1 ∧ v7_1 ≤ 8) → ((8 - v7_1).toInt.toNat) < N7 → (G_dead S  = G_dead_L7 S1 N7 v7_1) → (fun (r9 : Int32) (S9 : mS) => mInv S9 ∧ gI S9 2 = gI S 2) rZ SZ := by
    intro N7
    induction N7 with
    | zero => intro v7_1  hi7 hm7; exact absurd hm7 (Nat.not_lt_zero _)
    | succ N7 ih7 =>
      intro v7_1  hi7 hm7 hG
      rw [G_dead_L7] at hG
      rcases Classical.em (8 ≤ (v7_1 : Int32)) with c3 | c3
      · replace hG := gIf_p hG c3
        exact gE2 (P := (fun (r9 : Int32) (S9 : mS) => mInv S9 ∧ gI S9 2 = gI S 2)) hZ hG (p1)
      · replace hG := gIf_n hG c3
        obtain ⟨x4, ex4⟩ : ∃ z9 : Int32, z9 = 0 := ⟨_, rfl⟩
        replace hG := gLt_e hG ex4
        have loop17 : ∀ (N17 : Nat) (v17_2 : Int32) (v17_3 : Int32) , (0 ≤ v17_3 ∧ v17_3 ≤ 8 ∧ v17_2 < 8) → ((8 - v17_3).toInt.toNat) < N17 → (G_dead S  = G_dead_L17 S1 v7_1 (fun z0 => G_dead_L7 S1 N7 z0) N17 v17_2 v17_3) → (fun (r9 : Int32) (S9 : mS) => mInv S9 ∧ gI S9 2 = gI S 2) rZ SZ := by
          intro N17
          induction N17 with
          | zero => intro v17_2 v17_3  hi17 hm17; exact absurd hm17 (Nat.not_lt_zero _)
          | succ N17 ih17 =>
            intro v17_2 v17_3  hi17 hm17 hG
            rw [G_dead_L17] at hG
            rcases Classical.em (8 ≤ (v17_3 : Int32)) with c5 | c5
            · replace hG := gIf_p hG c5
              obtain ⟨x6, ex6⟩ : ∃ z9 : Int32, z9 = v7_1 + (1) := ⟨_, rfl⟩
              replace hG := gLt_e hG ex6
              exact ih7 x6  (a_up ex6 hi7.1 (i_lt c3)) (msd hm7 (a_dec ex6 hi7.1 (i_lt c3)).1 (a_dec ex6 hi7.1 (i_lt c3)).2) hG
            · replace hG := gIf_n hG c5
              rcases Classical.em ((v17_2 : Int32) < 0) with c7 | c7
              · replace hG := gIf_p hG c7
                obtain ⟨x8, ex8⟩ : ∃ z9 : Int32, z9 = v7_1 + (1) := ⟨_, rfl⟩
                replace hG := gLt_e hG ex8
                exact ih7 x8  (a_up ex8 hi7.1 (i_lt c3)) (msd hm7 (a_dec ex8 hi7.1 (i_lt c3)).1 (a_dec ex8 hi7.1 (i_lt c3)).2) hG
              · replace hG := gIf_n hG c7
                obtain ⟨r10, ghq11⟩ : ∃ z9 : Int32, z9 = G_nextOf S1 v17_2 := ⟨_, rfl⟩
                have hq11 := (p_nextOf S1 v17_2  (p1.1) (⟨i_le c7, hi17.2.2⟩) r10 ghq11).2
                replace hG := gLt_e hG ghq11
                rcases (Classical.em ((r10 : Int32) = v7_1)).symm with c12 | c12
                · replace hG := gIf_n hG c12
                  obtain ⟨x13, ex13⟩ : ∃ z9 : Int32, z9 = v17_3 + (1) := ⟨_, rfl⟩
                  replace hG := gLt_e hG ex13
                  exact ih17 r10 x13  (⟨(a_up ex13 hi17.1 (i_lt c5)).1, (a_up ex13 hi17.1 (i_lt c5)).2, hq11.2⟩) (msd hm17 (a_dec ex13 hi17.1 (i_lt c5)).1 (a_dec ex13 hi17.1 (i_lt c5)).2) hG
                · replace hG := gIf_p hG c12
                  exact gE2 (P := (fun (r9 : Int32) (S9 : mS) => mInv S9 ∧ gI S9 2 = gI S 2)) hZ hG (p1)
        exact loop17 ((8 - x4).toInt.toNat + 1) v7_1 x4  (by clear hG hZ ih7 hm7; rw [ex4]; exact ⟨by decide, by decide, i_lt c3⟩) (Nat.lt_succ_self _) hG
  exact loop7 ((8 - x2).toInt.toNat + 1) x2  (by clear hG hZ; rw [ex2]; decide) (Nat.lt_succ_self _) hG
set_option maxHeartbeats 400000 in
set_option maxRecDepth 100000 in
theorem p_drop (S : mS) (b : Int32)  (h1 : mInv S) (rZ : Int32) (SZ : mS) (hZ : (rZ, SZ) = G_drop S b) : (fun (r9 : Int32) (S9 : mS) => mInv S9 ∧ gI S9 2 = gI S 2) rZ SZ := by
  have hG := G_drop.eq_1 S b
  obtain ⟨r2, ghq3⟩ : ∃ z9 : Int32, z9 = G_isThere S b := ⟨_, rfl⟩
  have hq3 := (p_isThere S b   r2 ghq3).2
  replace hG := gLt_e hG ghq3
  rcases (Classical.em ((r2 : Int32) = 0)).symm with c4 | c4
  · replace hG := gIf_n hG c4
    have hb9 : 0 ≤ b ∧ b < 24 := by rcases hq3 with z | z; exact ⟨z.2.1, z.2.2.1⟩; exact absurd z.1 c4
    rcases Classical.em (0 < ((gA S 33 b) : Int32)) with c5 | c5
    · replace hG := gIf_p hG c5
      obtain ⟨r7, S6, ghq8⟩ : ∃ (z : Int32) (y : mS), (z, y) = G_refuse S 2 := ⟨_, _, rfl⟩
      have hq8 := p_refuse S 2   r7 S6 ghq8
      replace hG := gC_e hG ghq8
      exact gE2 (P := (fun (r9 : Int32) (S9 : mS) => mInv S9 ∧ gI S9 2 = gI S 2)) hZ hG (pb_I h1 hq8.2 (by clear hG hZ; decide) (by clear hG hZ; decide))
    · replace hG := gIf_n hG c5
      rcases Classical.em (((gA S 35 b) : Int32) ≤ 0) with c9 | c9
      · replace hG := gIf_p hG c9
        obtain ⟨S10, eS10⟩ : ∃ z9 : mS, z9 = sI S 0 0 := ⟨_, rfl⟩
        replace hG := gLt_e hG eS10
        have p1 := pb_I h1 eS10 (by decide) (by decide)
        obtain ⟨S11, eS11⟩ : ∃ z9 : mS, z9 = sA S10 28 b (0) := ⟨_, rfl⟩
        replace hG := gLt_e hG eS11
        obtain ⟨r13, ghq14⟩ : ∃ z9 : Int32, z9 = G_objects S11  := ⟨_, rfl⟩
        have hq14 := (p_objects S11    r13 ghq14).2
        replace hG := gLt_e hG ghq14
        exact gE2 (P := (fun (r9 : Int32) (S9 : mS) => mInv S9 ∧ gI S9 2 = gI S 2)) hZ hG (dr_inv h1 hb9 c5 c9 eS10 eS11)
      · replace hG := gIf_n hG c9
        obtain ⟨r16, S15, ghq17⟩ : ∃ (z : Int32) (y : mS), (z, y) = G_refuse S 2 := ⟨_, _, rfl⟩
        have hq17 := p_refuse S 2   r16 S15 ghq17
        replace hG := gC_e hG ghq17
        exact gE2 (P := (fun (r9 : Int32) (S9 : mS) => mInv S9 ∧ gI S9 2 = gI S 2)) hZ hG (pb_I h1 hq17.2 (by clear hG hZ; decide) (by clear hG hZ; decide))
  · replace hG := gIf_p hG c4
    obtain ⟨r19, S18, ghq20⟩ : ∃ (z : Int32) (y : mS), (z, y) = G_refuse S 1 := ⟨_, _, rfl⟩
    have hq20 := p_refuse S 1   r19 S18 ghq20
    replace hG := gC_e hG ghq20
    exact gE2 (P := (fun (r9 : Int32) (S9 : mS) => mInv S9 ∧ gI S9 2 = gI S 2)) hZ hG (pb_I h1 hq20.2 (by clear hG hZ; decide) (by clear hG hZ; decide))
set_option maxHeartbeats 400000 in
set_option maxRecDepth 100000 in
theorem pj_make_60 (S : mS) (k : Int32) (x : Int32)  (h1 : mInv S) (j60_3 : Int32)  (rZ : Int32) (SZ : mS) (hj60 : k = 4 → ¬ j60_3 = 0 → 1 ≤ x ∧ x ≤ 100) (hZ : (rZ, SZ) = G_make S k x) (hG : G_make S k x = G_make_J60 S k x j60_3) : (fun (r9 : Int32) (S9 : mS) => mInv S9 ∧ gI S9 2 = gI S 2) rZ SZ := by
  rw [G_make_J60] at hG
  rcases (Classical.em ((j60_3 : Int32) = 0)).symm with c1 | c1
  · replace hG := gIf_n hG c1
    obtain ⟨x2, ex2⟩ : ∃ z9 : Int32, z9 = 0 := ⟨_, rfl⟩
    replace hG := gLt_e hG ex2
    have loop73 : ∀ (N73 : Nat) (v73_4 : Int32) , (0 ≤ v73_4 ∧ v73_4 ≤ 24) → ((24 - v73_4).toInt.toNat) < N73 → (G_make S k x = G_make_L73 S k x N73 v73_4) → (fun (r9 : Int32) (S9 : mS) => mInv S9 ∧ gI S9 2 = gI S 2) rZ SZ := by
      intro N73
      induction N73 with
      | zero => intro v73_4  hi73 hm73; exact absurd hm73 (Nat.not_lt_zero _)
      | succ N73 ih73 =>
        intro v73_4  hi73 hm73 hG
        rw [G_make_L73] at hG
        rcases Classical.em (24 ≤ (v73_4 : Int32)) with c3 | c3
        · replace hG := gIf_p hG c3
          rcases (Classical.em ((v73_4 : Int32) = 24)).symm with c4 | c4
          · replace hG := gIf_n hG c4
            have hb9 : 0 ≤ v73_4 ∧ v73_4 < 24 := a_24 hi73.1 hi73.2 c4
            have hk9 : gA S 28 v73_4 = 0 := by first | exact nope9 | exact absurd (a_e24 hi73.2 c3) c4
            obtain ⟨S5, eS5⟩ : ∃ z9 : mS, z9 = sI S 0 0 := ⟨_, rfl⟩
            replace hG := gLt_e hG eS5
            obtain ⟨S6, eS6⟩ : ∃ z9 : mS, z9 = sA S5 28 v73_4 ((k + 1)) := ⟨_, rfl⟩
            replace hG := gLt_e hG eS6
            rcases Classical.em ((k : Int32) = 0) with c7 | c7
            · replace hG := gIf_p hG c7
              obtain ⟨S8, eS8⟩ : ∃ z9 : mS, z9 = sA S6 29 v73_4 (0) := ⟨_, rfl⟩
              replace hG := gLt_e hG eS8
              rcases (Classical.em ((k : Int32) = 0)).symm with c9 | c9
              · replace hG := gIf_n hG c9
                obtain ⟨S10, eS10⟩ : ∃ z9 : mS, z9 = sA S8 30 v73_4 (0) := ⟨_, rfl⟩
                replace hG := gLt_e hG eS10
                obtain ⟨S11, eS11⟩ : ∃ z9 : mS, z9 = sA S10 31 v73_4 ((-1)) := ⟨_, rfl⟩
                replace hG := gLt_e hG eS11
                obtain ⟨S12, eS12⟩ : ∃ z9 : mS, z9 = sA S11 33 v73_4 (0) := ⟨_, rfl⟩
                replace hG := gLt_e hG eS12
                obtain ⟨S13, eS13⟩ : ∃ z9 : mS, z9 = sA S12 35 v73_4 (0) := ⟨_, rfl⟩
                replace hG := gLt_e hG eS13
                obtain ⟨S14, eS14⟩ : ∃ z9 : mS, z9 = sA S13 37 v73_4 (0) := ⟨_, rfl⟩
                replace hG := gLt_e hG eS14
                exact gE2 (P := (fun (r9 : Int32) (S9 : mS) => mInv S9 ∧ gI S9 2 = gI S 2)) hZ hG (mk_inv h1 hb9 hk9 (by clear hG hZ ih73 hm73; first | exact fun z9 => a_100 (hj60 z9 c1) | exact fun _ => by decide) eS5 eS6 eS8 eS10 eS11 eS12 eS13 eS14)
              · replace hG := gIf_p hG c9
                obtain ⟨S15, eS15⟩ : ∃ z9 : mS, z9 = sA S8 30 v73_4 (x) := ⟨_, rfl⟩
                replace hG := gLt_e hG eS15
                obtain ⟨S16, eS16⟩ : ∃ z9 : mS, z9 = sA S15 31 v73_4 ((-1)) := ⟨_, rfl⟩
                replace hG := gLt_e hG eS16
                obtain ⟨S17, eS17⟩ : ∃ z9 : mS, z9 = sA S16 33 v73_4 (0) := ⟨_, rfl⟩
                replace hG := gLt_e hG eS17
                obtain ⟨S18, eS18⟩ : ∃ z9 : mS, z9 = sA S17 35 v73_4 (0) := ⟨_, rfl⟩
                replace hG := gLt_e hG eS18
                obtain ⟨S19, eS19⟩ : ∃ z9 : mS, z9 = sA S18 37 v73_4 (0) := ⟨_, rfl⟩
                replace hG := gLt_e hG eS19
                exact gE2 (P := (fun (r9 : Int32) (S9 : mS) => mInv S9 ∧ gI S9 2 = gI S 2)) hZ hG (mk_inv h1 hb9 hk9 (by clear hG hZ ih73 hm73; first | exact fun z9 => a_100 (hj60 z9 c1) | exact fun _ => by decide) eS5 eS6 eS8 eS15 eS16 eS17 eS18 eS19)
            · replace hG := gIf_n hG c7
              rcases Classical.em ((k : Int32) = 6) with c20 | c20
              · replace hG := gIf_p hG c20
                obtain ⟨S21, eS21⟩ : ∃ z9 : mS, z9 = sA S6 29 v73_4 (0) := ⟨_, rfl⟩
                replace hG := gLt_e hG eS21
                rcases (Classical.em ((k : Int32) = 0)).symm with c22 | c22
                · replace hG := gIf_n hG c22
                  obtain ⟨S23, eS23⟩ : ∃ z9 : mS, z9 = sA S21 30 v73_4 (0) := ⟨_, rfl⟩
                  replace hG := gLt_e hG eS23
                  obtain ⟨S24, eS24⟩ : ∃ z9 : mS, z9 = sA S23 31 v73_4 ((-1)) := ⟨_, rfl⟩
                  replace hG := gLt_e hG eS24
                  obtain ⟨S25, eS25⟩ : ∃ z9 : mS, z9 = sA S24 33 v73_4 (0) := ⟨_, rfl⟩
                  replace hG := gLt_e hG eS25
                  obtain ⟨S26, eS26⟩ : ∃ z9 : mS, z9 = sA S25 35 v73_4 (0) := ⟨_, rfl⟩
                  replace hG := gLt_e hG eS26
                  obtain ⟨S27, eS27⟩ : ∃ z9 : mS, z9 = sA S26 37 v73_4 (0) := ⟨_, rfl⟩
                  replace hG := gLt_e hG eS27
                  exact gE2 (P := (fun (r9 : Int32) (S9 : mS) => mInv S9 ∧ gI S9 2 = gI S 2)) hZ hG (mk_inv h1 hb9 hk9 (by clear hG hZ ih73 hm73; first | exact fun z9 => a_100 (hj60 z9 c1) | exact fun _ => by decide) eS5 eS6 eS21 eS23 eS24 eS25 eS26 eS27)
                · replace hG := gIf_p hG c22
                  obtain ⟨S28, eS28⟩ : ∃ z9 : mS, z9 = sA S21 30 v73_4 (x) := ⟨_, rfl⟩
                  replace hG := gLt_e hG eS28
                  obtain ⟨S29, eS29⟩ : ∃ z9 : mS, z9 = sA S28 31 v73_4 ((-1)) := ⟨_, rfl⟩
                  replace hG := gLt_e hG eS29
                  obtain ⟨S30, eS30⟩ : ∃ z9 : mS, z9 = sA S29 33 v73_4 (0) := ⟨_, rfl⟩
                  replace hG := gLt_e hG eS30
                  obtain ⟨S31, eS31⟩ : ∃ z9 : mS, z9 = sA S30 35 v73_4 (0) := ⟨_, rfl⟩
                  replace hG := gLt_e hG eS31
                  obtain ⟨S32, eS32⟩ : ∃ z9 : mS, z9 = sA S31 37 v73_4 (0) := ⟨_, rfl⟩
                  replace hG := gLt_e hG eS32
                  exact gE2 (P := (fun (r9 : Int32) (S9 : mS) => mInv S9 ∧ gI S9 2 = gI S 2)) hZ hG (mk_inv h1 hb9 hk9 (by clear hG hZ ih73 hm73; first | exact fun z9 => a_100 (hj60 z9 c1) | exact fun _ => by decide) eS5 eS6 eS21 eS28 eS29 eS30 eS31 eS32)
              · replace hG := gIf_n hG c20
                rcases (Classical.em ((k : Int32) = 7)).symm with c33 | c33
                · replace hG := gIf_n hG c33
                  obtain ⟨S34, eS34⟩ : ∃ z9 : mS, z9 = sA S6 29 v73_4 (x) := ⟨_, rfl⟩
                  replace hG := gLt_e hG eS34
                  rcases (Classical.em ((k : Int32) = 0)).symm with c35 | c35
                  · replace hG := gIf_n hG c35
                    obtain ⟨S36, eS36⟩ : ∃ z9 : mS, z9 = sA S34 30 v73_4 (0) := ⟨_, rfl⟩
                    replace hG := gLt_e hG eS36
                    obtain ⟨S37, eS37⟩ : ∃ z9 : mS, z9 = sA S36 31 v73_4 ((-1)) := ⟨_, rfl⟩
                    replace hG := gLt_e hG eS37
                    obtain ⟨S38, eS38⟩ : ∃ z9 : mS, z9 = sA S37 33 v73_4 (0) := ⟨_, rfl⟩
                    replace hG := gLt_e hG eS38
                    obtain ⟨S39, eS39⟩ : ∃ z9 : mS, z9 = sA S38 35 v73_4 (0) := ⟨_, rfl⟩
                    replace hG := gLt_e hG eS39
                    obtain ⟨S40, eS40⟩ : ∃ z9 : mS, z9 = sA S39 37 v73_4 (0) := ⟨_, rfl⟩
                    replace hG := gLt_e hG eS40
                    exact gE2 (P := (fun (r9 : Int32) (S9 : mS) => mInv S9 ∧ gI S9 2 = gI S 2)) hZ hG (mk_inv h1 hb9 hk9 (by clear hG hZ ih73 hm73; first | exact fun z9 => a_100 (hj60 z9 c1) | exact fun _ => by decide) eS5 eS6 eS34 eS36 eS37 eS38 eS39 eS40)
                  · replace hG := gIf_p hG c35
                    obtain ⟨S41, eS41⟩ : ∃ z9 : mS, z9 = sA S34 30 v73_4 (x) := ⟨_, rfl⟩
                    replace hG := gLt_e hG eS41
                    obtain ⟨S42, eS42⟩ : ∃ z9 : mS, z9 = sA S41 31 v73_4 ((-1)) := ⟨_, rfl⟩
                    replace hG := gLt_e hG eS42
                    obtain ⟨S43, eS43⟩ : ∃ z9 : mS, z9 = sA S42 33 v73_4 (0) := ⟨_, rfl⟩
                    replace hG := gLt_e hG eS43
                    obtain ⟨S44, eS44⟩ : ∃ z9 : mS, z9 = sA S43 35 v73_4 (0) := ⟨_, rfl⟩
                    replace hG := gLt_e hG eS44
                    obtain ⟨S45, eS45⟩ : ∃ z9 : mS, z9 = sA S44 37 v73_4 (0) := ⟨_, rfl⟩
                    replace hG := gLt_e hG eS45
                    exact gE2 (P := (fun (r9 : Int32) (S9 : mS) => mInv S9 ∧ gI S9 2 = gI S 2)) hZ hG (mk_inv h1 hb9 hk9 (by clear hG hZ ih73 hm73; first | exact fun z9 => a_100 (hj60 z9 c1) | exact fun _ => by decide) eS5 eS6 eS34 eS41 eS42 eS43 eS44 eS45)
                · replace hG := gIf_p hG c33
                  obtain ⟨S46, eS46⟩ : ∃ z9 : mS, z9 = sA S6 29 v73_4 (0) := ⟨_, rfl⟩
                  replace hG := gLt_e hG eS46
                  rcases (Classical.em ((k : Int32) = 0)).symm with c47 | c47
                  · replace hG := gIf_n hG c47
                    obtain ⟨S48, eS48⟩ : ∃ z9 : mS, z9 = sA S46 30 v73_4 (0) := ⟨_, rfl⟩
                    replace hG := gLt_e hG eS48
                    obtain ⟨S49, eS49⟩ : ∃ z9 : mS, z9 = sA S48 31 v73_4 ((-1)) := ⟨_, rfl⟩
                    replace hG := gLt_e hG eS49
                    obtain ⟨S50, eS50⟩ : ∃ z9 : mS, z9 = sA S49 33 v73_4 (0) := ⟨_, rfl⟩
                    replace hG := gLt_e hG eS50
                    obtain ⟨S51, eS51⟩ : ∃ z9 : mS, z9 = sA S50 35 v73_4 (0) := ⟨_, rfl⟩
                    replace hG := gLt_e hG eS51
                    obtain ⟨S52, eS52⟩ : ∃ z9 : mS, z9 = sA S51 37 v73_4 (0) := ⟨_, rfl⟩
                    replace hG := gLt_e hG eS52
                    exact gE2 (P := (fun (r9 : Int32) (S9 : mS) => mInv S9 ∧ gI S9 2 = gI S 2)) hZ hG (mk_inv h1 hb9 hk9 (by clear hG hZ ih73 hm73; first | exact fun z9 => a_100 (hj60 z9 c1) | exact fun _ => by decide) eS5 eS6 eS46 eS48 eS49 eS50 eS51 eS52)
                  · replace hG := gIf_p hG c47
                    obtain ⟨S53, eS53⟩ : ∃ z9 : mS, z9 = sA S46 30 v73_4 (x) := ⟨_, rfl⟩
                    replace hG := gLt_e hG eS53
                    obtain ⟨S54, eS54⟩ : ∃ z9 : mS, z9 = sA S53 31 v73_4 ((-1)) := ⟨_, rfl⟩
                    replace hG := gLt_e hG eS54
                    obtain ⟨S55, eS55⟩ : ∃ z9 : mS, z9 = sA S54 33 v73_4 (0) := ⟨_, rfl⟩
                    replace hG := gLt_e hG eS55
                    obtain ⟨S56, eS56⟩ : ∃ z9 : mS, z9 = sA S55 35 v73_4 (0) := ⟨_, rfl⟩
                    replace hG := gLt_e hG eS56
                    obtain ⟨S57, eS57⟩ : ∃ z9 : mS, z9 = sA S56 37 v73_4 (0) := ⟨_, rfl⟩
                    replace hG := gLt_e hG eS57
                    exact gE2 (P := (fun (r9 : Int32) (S9 : mS) => mInv S9 ∧ gI S9 2 = gI S 2)) hZ hG (mk_inv h1 hb9 hk9 (by clear hG hZ ih73 hm73; first | exact fun z9 => a_100 (hj60 z9 c1) | exact fun _ => by decide) eS5 eS6 eS46 eS53 eS54 eS55 eS56 eS57)
          · replace hG := gIf_p hG c4
            obtain ⟨r59, S58, ghq60⟩ : ∃ (z : Int32) (y : mS), (z, y) = G_refuse S 2 := ⟨_, _, rfl⟩
            have hq60 := p_refuse S 2   r59 S58 ghq60
            replace hG := gC_e hG ghq60
            exact gE2 (P := (fun (r9 : Int32) (S9 : mS) => mInv S9 ∧ gI S9 2 = gI S 2)) hZ hG (pb_I h1 hq60.2 (by clear hG hZ ih73 hm73; decide) (by clear hG hZ ih73 hm73; decide))
        · replace hG := gIf_n hG c3
          rcases Classical.em (((gA S 28 v73_4) : Int32) = 0) with c61 | c61
          · replace hG := gIf_p hG c61
            rcases (Classical.em ((v73_4 : Int32) = 24)).symm with c62 | c62
            · replace hG := gIf_n hG c62
              have hb9 : 0 ≤ v73_4 ∧ v73_4 < 24 := a_24 hi73.1 hi73.2 c62
              have hk9 : gA S 28 v73_4 = 0 := by first | exact c61 | exact absurd (a_e24 hi73.2 c3) c62
              obtain ⟨S63, eS63⟩ : ∃ z9 : mS, z9 = sI S 0 0 := ⟨_, rfl⟩
              replace hG := gLt_e hG eS63
              obtain ⟨S64, eS64⟩ : ∃ z9 : mS, z9 = sA S63 28 v73_4 ((k + 1)) := ⟨_, rfl⟩
              replace hG := gLt_e hG eS64
              rcases Classical.em ((k : Int32) = 0) with c65 | c65
              · replace hG := gIf_p hG c65
                obtain ⟨S66, eS66⟩ : ∃ z9 : mS, z9 = sA S64 29 v73_4 (0) := ⟨_, rfl⟩
                replace hG := gLt_e hG eS66
                rcases (Classical.em ((k : Int32) = 0)).symm with c67 | c67
                · replace hG := gIf_n hG c67
                  obtain ⟨S68, eS68⟩ : ∃ z9 : mS, z9 = sA S66 30 v73_4 (0) := ⟨_, rfl⟩
                  replace hG := gLt_e hG eS68
                  obtain ⟨S69, eS69⟩ : ∃ z9 : mS, z9 = sA S68 31 v73_4 ((-1)) := ⟨_, rfl⟩
                  replace hG := gLt_e hG eS69
                  obtain ⟨S70, eS70⟩ : ∃ z9 : mS, z9 = sA S69 33 v73_4 (0) := ⟨_, rfl⟩
                  replace hG := gLt_e hG eS70
                  obtain ⟨S71, eS71⟩ : ∃ z9 : mS, z9 = sA S70 35 v73_4 (0) := ⟨_, rfl⟩
                  replace hG := gLt_e hG eS71
                  obtain ⟨S72, eS72⟩ : ∃ z9 : mS, z9 = sA S71 37 v73_4 (0) := ⟨_, rfl⟩
                  replace hG := gLt_e hG eS72
                  exact gE2 (P := (fun (r9 : Int32) (S9 : mS) => mInv S9 ∧ gI S9 2 = gI S 2)) hZ hG (mk_inv h1 hb9 hk9 (by clear hG hZ ih73 hm73; first | exact fun z9 => a_100 (hj60 z9 c1) | exact fun _ => by decide) eS63 eS64 eS66 eS68 eS69 eS70 eS71 eS72)
                · replace hG := gIf_p hG c67
                  obtain ⟨S73, eS73⟩ : ∃ z9 : mS, z9 = sA S66 30 v73_4 (x) := ⟨_, rfl⟩
                  replace hG := gLt_e hG eS73
                  obtain ⟨S74, eS74⟩ : ∃ z9 : mS, z9 = sA S73 31 v73_4 ((-1)) := ⟨_, rfl⟩
                  replace hG := gLt_e hG eS74
                  obtain ⟨S75, eS75⟩ : ∃ z9 : mS, z9 = sA S74 33 v73_4 (0) := ⟨_, rfl⟩
                  replace hG := gLt_e hG eS75
                  obtain ⟨S76, eS76⟩ : ∃ z9 : mS, z9 = sA S75 35 v73_4 (0) := ⟨_, rfl⟩
                  replace hG := gLt_e hG eS76
                  obtain ⟨S77, eS77⟩ : ∃ z9 : mS, z9 = sA S76 37 v73_4 (0) := ⟨_, rfl⟩
                  replace hG := gLt_e hG eS77
                  exact gE2 (P := (fun (r9 : Int32) (S9 : mS) => mInv S9 ∧ gI S9 2 = gI S 2)) hZ hG (mk_inv h1 hb9 hk9 (by clear hG hZ ih73 hm73; first | exact fun z9 => a_100 (hj60 z9 c1) | exact fun _ => by decide) eS63 eS64 eS66 eS73 eS74 eS75 eS76 eS77)
              · replace hG := gIf_n hG c65
                rcases Classical.em ((k : Int32) = 6) with c78 | c78
                · replace hG := gIf_p hG c78
                  obtain ⟨S79, eS79⟩ : ∃ z9 : mS, z9 = sA S64 29 v73_4 (0) := ⟨_, rfl⟩
                  replace hG := gLt_e hG eS79
                  rcases (Classical.em ((k : Int32) = 0)).symm with c80 | c80
                  · replace hG := gIf_n hG c80
                    obtain ⟨S81, eS81⟩ : ∃ z9 : mS, z9 = sA S79 30 v73_4 (0) := ⟨_, rfl⟩
                    replace hG := gLt_e hG eS81
                    obtain ⟨S82, eS82⟩ : ∃ z9 : mS, z9 = sA S81 31 v73_4 ((-1)) := ⟨_, rfl⟩
                    replace hG := gLt_e hG eS82
                    obtain ⟨S83, eS83⟩ : ∃ z9 : mS, z9 = sA S82 33 v73_4 (0) := ⟨_, rfl⟩
                    replace hG := gLt_e hG eS83
                    obtain ⟨S84, eS84⟩ : ∃ z9 : mS, z9 = sA S83 35 v73_4 (0) := ⟨_, rfl⟩
                    replace hG := gLt_e hG eS84
                    obtain ⟨S85, eS85⟩ : ∃ z9 : mS, z9 = sA S84 37 v73_4 (0) := ⟨_, rfl⟩
                    replace hG := gLt_e hG eS85
                    exact gE2 (P := (fun (r9 : Int32) (S9 : mS) => mInv S9 ∧ gI S9 2 = gI S 2)) hZ hG (mk_inv h1 hb9 hk9 (by clear hG hZ ih73 hm73; first | exact fun z9 => a_100 (hj60 z9 c1) | exact fun _ => by decide) eS63 eS64 eS79 eS81 eS82 eS83 eS84 eS85)
                  · replace hG := gIf_p hG c80
                    obtain ⟨S86, eS86⟩ : ∃ z9 : mS, z9 = sA S79 30 v73_4 (x) := ⟨_, rfl⟩
                    replace hG := gLt_e hG eS86
                    obtain ⟨S87, eS87⟩ : ∃ z9 : mS, z9 = sA S86 31 v73_4 ((-1)) := ⟨_, rfl⟩
                    replace hG := gLt_e hG eS87
                    obtain ⟨S88, eS88⟩ : ∃ z9 : mS, z9 = sA S87 33 v73_4 (0) := ⟨_, rfl⟩
                    replace hG := gLt_e hG eS88
                    obtain ⟨S89, eS89⟩ : ∃ z9 : mS, z9 = sA S88 35 v73_4 (0) := ⟨_, rfl⟩
                    replace hG := gLt_e hG eS89
                    obtain ⟨S90, eS90⟩ : ∃ z9 : mS, z9 = sA S89 37 v73_4 (0) := ⟨_, rfl⟩
                    replace hG := gLt_e hG eS90
                    exact gE2 (P := (fun (r9 : Int32) (S9 : mS) => mInv S9 ∧ gI S9 2 = gI S 2)) hZ hG (mk_inv h1 hb9 hk9 (by clear hG hZ ih73 hm73; first | exact fun z9 => a_100 (hj60 z9 c1) | exact fun _ => by decide) eS63 eS64 eS79 eS86 eS87 eS88 eS89 eS90)
                · replace hG := gIf_n hG c78
                  rcases (Classical.em ((k : Int32) = 7)).symm with c91 | c91
                  · replace hG := gIf_n hG c91
                    obtain ⟨S92, eS92⟩ : ∃ z9 : mS, z9 = sA S64 29 v73_4 (x) := ⟨_, rfl⟩
                    replace hG := gLt_e hG eS92
                    rcases (Classical.em ((k : Int32) = 0)).symm with c93 | c93
                    · replace hG := gIf_n hG c93
                      obtain ⟨S94, eS94⟩ : ∃ z9 : mS, z9 = sA S92 30 v73_4 (0) := ⟨_, rfl⟩
                      replace hG := gLt_e hG eS94
                      obtain ⟨S95, eS95⟩ : ∃ z9 : mS, z9 = sA S94 31 v73_4 ((-1)) := ⟨_, rfl⟩
                      replace hG := gLt_e hG eS95
                      obtain ⟨S96, eS96⟩ : ∃ z9 : mS, z9 = sA S95 33 v73_4 (0) := ⟨_, rfl⟩
                      replace hG := gLt_e hG eS96
                      obtain ⟨S97, eS97⟩ : ∃ z9 : mS, z9 = sA S96 35 v73_4 (0) := ⟨_, rfl⟩
                      replace hG := gLt_e hG eS97
                      obtain ⟨S98, eS98⟩ : ∃ z9 : mS, z9 = sA S97 37 v73_4 (0) := ⟨_, rfl⟩
                      replace hG := gLt_e hG eS98
                      exact gE2 (P := (fun (r9 : Int32) (S9 : mS) => mInv S9 ∧ gI S9 2 = gI S 2)) hZ hG (mk_inv h1 hb9 hk9 (by clear hG hZ ih73 hm73; first | exact fun z9 => a_100 (hj60 z9 c1) | exact fun _ => by decide) eS63 eS64 eS92 eS94 eS95 eS96 eS97 eS98)
                    · replace hG := gIf_p hG c93
                      obtain ⟨S99, eS99⟩ : ∃ z9 : mS, z9 = sA S92 30 v73_4 (x) := ⟨_, rfl⟩
                      replace hG := gLt_e hG eS99
                      obtain ⟨S100, eS100⟩ : ∃ z9 : mS, z9 = sA S99 31 v73_4 ((-1)) := ⟨_, rfl⟩
                      replace hG := gLt_e hG eS100
                      obtain ⟨S101, eS101⟩ : ∃ z9 : mS, z9 = sA S100 33 v73_4 (0) := ⟨_, rfl⟩
                      replace hG := gLt_e hG eS101
                      obtain ⟨S102, eS102⟩ : ∃ z9 : mS, z9 = sA S101 35 v73_4 (0) := ⟨_, rfl⟩
                      replace hG := gLt_e hG eS102
                      obtain ⟨S103, eS103⟩ : ∃ z9 : mS, z9 = sA S102 37 v73_4 (0) := ⟨_, rfl⟩
                      replace hG := gLt_e hG eS103
                      exact gE2 (P := (fun (r9 : Int32) (S9 : mS) => mInv S9 ∧ gI S9 2 = gI S 2)) hZ hG (mk_inv h1 hb9 hk9 (by clear hG hZ ih73 hm73; first | exact fun z9 => a_100 (hj60 z9 c1) | exact fun _ => by decide) eS63 eS64 eS92 eS99 eS100 eS101 eS102 eS103)
                  · replace hG := gIf_p hG c91
                    obtain ⟨S104, eS104⟩ : ∃ z9 : mS, z9 = sA S64 29 v73_4 (0) := ⟨_, rfl⟩
                    replace hG := gLt_e hG eS104
                    rcases (Classical.em ((k : Int32) = 0)).symm with c105 | c105
                    · replace hG := gIf_n hG c105
                      obtain ⟨S106, eS106⟩ : ∃ z9 : mS, z9 = sA S104 30 v73_4 (0) := ⟨_, rfl⟩
                      replace hG := gLt_e hG eS106
                      obtain ⟨S107, eS107⟩ : ∃ z9 : mS, z9 = sA S106 31 v73_4 ((-1)) := ⟨_, rfl⟩
                      replace hG := gLt_e hG eS107
                      obtain ⟨S108, eS108⟩ : ∃ z9 : mS, z9 = sA S107 33 v73_4 (0) := ⟨_, rfl⟩
                      replace hG := gLt_e hG eS108
                      obtain ⟨S109, eS109⟩ : ∃ z9 : mS, z9 = sA S108 35 v73_4 (0) := ⟨_, rfl⟩
                      replace hG := gLt_e hG eS109
                      obtain ⟨S110, eS110⟩ : ∃ z9 : mS, z9 = sA S109 37 v73_4 (0) := ⟨_, rfl⟩
                      replace hG := gLt_e hG eS110
                      exact gE2 (P := (fun (r9 : Int32) (S9 : mS) => mInv S9 ∧ gI S9 2 = gI S 2)) hZ hG (mk_inv h1 hb9 hk9 (by clear hG hZ ih73 hm73; first | exact fun z9 => a_100 (hj60 z9 c1) | exact fun _ => by decide) eS63 eS64 eS104 eS106 eS107 eS108 eS109 eS110)
                    · replace hG := gIf_p hG c105
                      obtain ⟨S111, eS111⟩ : ∃ z9 : mS, z9 = sA S104 30 v73_4 (x) := ⟨_, rfl⟩
                      replace hG := gLt_e hG eS111
                      obtain ⟨S112, eS112⟩ : ∃ z9 : mS, z9 = sA S111 31 v73_4 ((-1)) := ⟨_, rfl⟩
                      replace hG := gLt_e hG eS112
                      obtain ⟨S113, eS113⟩ : ∃ z9 : mS, z9 = sA S112 33 v73_4 (0) := ⟨_, rfl⟩
                      replace hG := gLt_e hG eS113
                      obtain ⟨S114, eS114⟩ : ∃ z9 : mS, z9 = sA S113 35 v73_4 (0) := ⟨_, rfl⟩
                      replace hG := gLt_e hG eS114
                      obtain ⟨S115, eS115⟩ : ∃ z9 : mS, z9 = sA S114 37 v73_4 (0) := ⟨_, rfl⟩
                      replace hG := gLt_e hG eS115
                      exact gE2 (P := (fun (r9 : Int32) (S9 : mS) => mInv S9 ∧ gI S9 2 = gI S 2)) hZ hG (mk_inv h1 hb9 hk9 (by clear hG hZ ih73 hm73; first | exact fun z9 => a_100 (hj60 z9 c1) | exact fun _ => by decide) eS63 eS64 eS104 eS111 eS112 eS113 eS114 eS115)
            · replace hG := gIf_p hG c62
              obtain ⟨r117, S116, ghq118⟩ : ∃ (z : Int32) (y : mS), (z, y) = G_refuse S 2 := ⟨_, _, rfl⟩
              have hq118 := p_refuse S 2   r117 S116 ghq118
              replace hG := gC_e hG ghq118
              exact gE2 (P := (fun (r9 : Int32) (S9 : mS) => mInv S9 ∧ gI S9 2 = gI S 2)) hZ hG (pb_I h1 hq118.2 (by clear hG hZ ih73 hm73; decide) (by clear hG hZ ih73 hm73; decide))
          · replace hG := gIf_n hG c61
            obtain ⟨x119, ex119⟩ : ∃ z9 : Int32, z9 = v73_4 + (1) := ⟨_, rfl⟩
            replace hG := gLt_e hG ex119
            exact ih73 x119  (a_up ex119 hi73.1 (i_lt c3)) (msd hm73 (a_dec ex119 hi73.1 (i_lt c3)).1 (a_dec ex119 hi73.1 (i_lt c3)).2) hG
    exact loop73 ((24 - x2).toInt.toNat + 1) x2  (by clear hG hZ; rw [ex2]; decide) (Nat.lt_succ_self _) hG
  · replace hG := gIf_p hG c1
    obtain ⟨r121, S120, ghq122⟩ : ∃ (z : Int32) (y : mS), (z, y) = G_refuse S 1 := ⟨_, _, rfl⟩
    have hq122 := p_refuse S 1   r121 S120 ghq122
    replace hG := gC_e hG ghq122
    exact gE2 (P := (fun (r9 : Int32) (S9 : mS) => mInv S9 ∧ gI S9 2 = gI S 2)) hZ hG (pb_I h1 hq122.2 (by clear hG hZ; decide) (by clear hG hZ; decide))
set_option maxHeartbeats 400000 in
set_option maxRecDepth 100000 in
theorem pj_make_47 (S : mS) (k : Int32) (x : Int32)  (h1 : mInv S) (j47_3 : Int32)  (rZ : Int32) (SZ : mS) (hj47 : True) (hZ : (rZ, SZ) = G_make S k x) (hG : G_make S k x = G_make_J47 S k x j47_3) : (fun (r9 : Int32) (S9 : mS) => mInv S9 ∧ gI S9 2 = gI S 2) rZ SZ := by
  rw [G_make_J47] at hG
  rcases (Classical.em ((k : Int32) = 4)).symm with c123 | c123
  · replace hG := gIf_n hG c123
    exact pj_make_60 S k x h1 j47_3  rZ SZ (by clear hG hZ; first | exact fun _ z9 => in_y nope9 z9 | exact fun z9 => absurd z9 c123) hZ hG
  · replace hG := gIf_p hG c123
    obtain ⟨r125, ghq126⟩ : ∃ z9 : Int32, z9 = G_in S x 1 100 := ⟨_, rfl⟩
    have hq126 := (p_in S x 1 100   r125 ghq126).2
    replace hG := gLt_e hG ghq126
    exact pj_make_60 S k x h1 r125  rZ SZ (by clear hG hZ; first | exact fun _ z9 => in_y hq126 z9 | exact fun z9 => absurd z9 c123) hZ hG
set_option maxHeartbeats 400000 in
set_option maxRecDepth 100000 in
theorem pj_make_34 (S : mS) (k : Int32) (x : Int32)  (h1 : mInv S) (j34_3 : Int32)  (rZ : Int32) (SZ : mS) (hj34 : True) (hZ : (rZ, SZ) = G_make S k x) (hG : G_make S k x = G_make_J34 S k x j34_3) : (fun (r9 : Int32) (S9 : mS) => mInv S9 ∧ gI S9 2 = gI S 2) rZ SZ := by
  rw [G_make_J34] at hG
  rcases (Classical.em ((k : Int32) = 3)).symm with c127 | c127
  · replace hG := gIf_n hG c127
    exact pj_make_47 S k x h1 j34_3  rZ SZ (trivial) hZ hG
  · replace hG := gIf_p hG c127
    obtain ⟨r129, ghq130⟩ : ∃ z9 : Int32, z9 = G_in S x 1 8 := ⟨_, rfl⟩
    have hq130 := (p_in S x 1 8   r129 ghq130).2
    replace hG := gLt_e hG ghq130
    exact pj_make_47 S k x h1 r129  rZ SZ (trivial) hZ hG
set_option maxHeartbeats 400000 in
set_option maxRecDepth 100000 in
theorem pj_make_33 (S : mS) (k : Int32) (x : Int32)  (h1 : mInv S) (j33_s0 : Int32)  (rZ : Int32) (SZ : mS) (hj33 : True) (hZ : (rZ, SZ) = G_make S k x) (hG : G_make S k x = G_make_J33 S k x j33_s0) : (fun (r9 : Int32) (S9 : mS) => mInv S9 ∧ gI S9 2 = gI S 2) rZ SZ := by
  rw [G_make_J33] at hG
  exact pj_make_34 S k x h1 j33_s0  rZ SZ (trivial) hZ hG
set_option maxHeartbeats 400000 in
set_option maxRecDepth 100000 in
theorem pj_make_19 (S : mS) (k : Int32) (x : Int32)  (h1 : mInv S) (j19_3 : Int32)  (rZ : Int32) (SZ : mS) (hj19 : True) (hZ : (rZ, SZ) = G_make S k x) (hG : G_make S k x = G_make_J19 S k x j19_3) : (fun (r9 : Int32) (S9 : mS) => mInv S9 ∧ gI S9 2 = gI S 2) rZ SZ := by
  rw [G_make_J19] at hG
  rcases (Classical.em ((k : Int32) = 2)).symm with c131 | c131
  · replace hG := gIf_n hG c131
    exact pj_make_34 S k x h1 j19_3  rZ SZ (trivial) hZ hG
  · replace hG := gIf_p hG c131
    rcases Classical.em ((x : Int32) < 0) with c132 | c132
    · replace hG := gIf_p hG c132
      exact pj_make_33 S k x h1 0  rZ SZ (trivial) hZ hG
    · replace hG := gIf_n hG c132
      exact pj_make_33 S k x h1 1  rZ SZ (trivial) hZ hG
set_option maxHeartbeats 400000 in
set_option maxRecDepth 100000 in
theorem p_make (S : mS) (k : Int32) (x : Int32)  (h1 : mInv S) (rZ : Int32) (SZ : mS) (hZ : (rZ, SZ) = G_make S k x) : (fun (r9 : Int32) (S9 : mS) => mInv S9 ∧ gI S9 2 = gI S 2) rZ SZ := by
  have hG := G_make.eq_1 S k x
  obtain ⟨r134, ghq135⟩ : ∃ z9 : Int32, z9 = G_in S k 0 7 := ⟨_, rfl⟩
  have hq135 := (p_in S k 0 7   r134 ghq135).2
  replace hG := gLt_e hG ghq135
  rcases (Classical.em ((k : Int32) = 0)).symm with c136 | c136
  · replace hG := gIf_n hG c136
    exact pj_make_19 S k x h1 r134  rZ SZ (trivial) hZ hG
  · replace hG := gIf_p hG c136
    obtain ⟨r138, ghq139⟩ : ∃ z9 : Int32, z9 = G_in S x 0 1 := ⟨_, rfl⟩
    have hq139 := (p_in S x 0 1   r138 ghq139).2
    replace hG := gLt_e hG ghq139
    exact pj_make_19 S k x h1 r138  rZ SZ (trivial) hZ hG
set_option maxHeartbeats 400000 in
set_option maxRecDepth 100000 in
theorem pj_run_20 (S : mS) (how : Int32) (z : Int32) (n : Int32)  (h1 : mInv S)   (rZ : Int32) (SZ : mS) (hj20 : True) (hZ : (rZ, SZ) = G_run S how z n) (hG : G_run S how z n = G_run_J20 S ) : (fun (r9 : Int32) (S9 : mS) => mInv S9 ∧ gI S9 2 = gI S 2) rZ SZ := by
  rw [G_run_J20] at hG
  obtain ⟨r2, S1, ghq3⟩ : ∃ (z : Int32) (y : mS), (z, y) = G_refuse S 1 := ⟨_, _, rfl⟩
  have hq3 := p_refuse S 1   r2 S1 ghq3
  replace hG := gC_e hG ghq3
  exact gE2 (P := (fun (r9 : Int32) (S9 : mS) => mInv S9 ∧ gI S9 2 = gI S 2)) hZ hG (pb_I h1 hq3.2 (by clear hG hZ; decide) (by clear hG hZ; decide))
set_option maxHeartbeats 400000 in
set_option maxRecDepth 100000 in
theorem p_run (S : mS) (how : Int32) (z : Int32) (n : Int32)  (h1 : mInv S) (rZ : Int32) (SZ : mS) (hZ : (rZ, SZ) = G_run S how z n) : (fun (r9 : Int32) (S9 : mS) => mInv S9 ∧ gI S9 2 = gI S 2) rZ SZ := by
  have hG := G_run.eq_1 S how z n
  obtain ⟨r5, ghq6⟩ : ∃ z9 : Int32, z9 = G_in S how 0 2 := ⟨_, rfl⟩
  have hq6 := (p_in S how 0 2   r5 ghq6).2
  replace hG := gLt_e hG ghq6
  rcases Classical.em ((r5 : Int32) = 0) with c7 | c7
  · replace hG := gIf_p hG c7
    exact pj_run_20 S how z n h1   rZ SZ (trivial) hZ hG
  · replace hG := gIf_n hG c7
    obtain ⟨r9, ghq10⟩ : ∃ z9 : Int32, z9 = G_in S n 0 4000 := ⟨_, rfl⟩
    have hq10 := (p_in S n 0 4000   r9 ghq10).2
    replace hG := gLt_e hG ghq10
    rcases (Classical.em ((r9 : Int32) = 0)).symm with c11 | c11
    · replace hG := gIf_n hG c11
      have hn : 0 ≤ n ∧ n ≤ 4000 := in_y hq10 c11
      obtain ⟨S12, eS12⟩ : ∃ z9 : mS, z9 = sI S 0 0 := ⟨_, rfl⟩
      replace hG := gLt_e hG eS12
      obtain ⟨S13, eS13⟩ : ∃ z9 : mS, z9 = sI S12 27 z := ⟨_, rfl⟩
      replace hG := gLt_e hG eS13
      have p1 := pb_I h1 eS12 (by decide) (by decide)
      have p2 := pb_t p1 (pb_I p1.1 eS13 (by decide) (by decide))
      obtain ⟨x14, ex14⟩ : ∃ z9 : Int32, z9 = 0 := ⟨_, rfl⟩
      replace hG := gLt_e hG ex14
      have loop39 : ∀ (N39 : Nat) (v39_4 : Int32) (SL39 : mS), ((mInv SL39 ∧ gI SL39 2 = gI S 2) ∧ 0 ≤ v39_4 ∧ v39_4 ≤ n) → ((n - v39_4).toInt.toNat) < N39 → (G_run S how z n = G_run_L39 how n N39 v39_4 SL39) → (fun (r9 : Int32) (S9 : mS) => mInv S9 ∧ gI S9 2 = gI S 2) rZ SZ := by
        intro N39
        induction N39 with
        | zero => intro v39_4 SL39 hi39 hm39; exact absurd hm39 (Nat.not_lt_zero _)
        | succ N39 ih39 =>
          intro v39_4 SL39 hi39 hm39 hG
          rw [G_run_L39] at hG
          rcases Classical.em (n ≤ (v39_4 : Int32)) with c15 | c15
          · replace hG := gIf_p hG c15
            exact gE2 (P := (fun (r9 : Int32) (S9 : mS) => mInv S9 ∧ gI S9 2 = gI S 2)) hZ hG (hi39.1)
          · replace hG := gIf_n hG c15
            obtain ⟨r17, ghq18⟩ : ∃ z9 : Int32, z9 = G_ready SL39  := ⟨_, rfl⟩
            have hq18 := (p_ready SL39    r17 ghq18).2
            replace hG := gLt_e hG ghq18
            rcases Classical.em ((r17 : Int32) ≤ 0) with c19 | c19
            · replace hG := gIf_p hG c19
              exact gE2 (P := (fun (r9 : Int32) (S9 : mS) => mInv S9 ∧ gI S9 2 = gI S 2)) hZ hG (hi39.1)
            · replace hG := gIf_n hG c19
              obtain ⟨u9, hu0, hu1, hu2⟩ := hq18.2.2.1 (i_gt c19)
              rcases (Classical.em ((how : Int32) = 2)).symm with c20 | c20
              · replace hG := gIf_n hG c20
                obtain ⟨x21, ex21⟩ : ∃ z9 : Int32, z9 = 0 := ⟨_, rfl⟩
                replace hG := gLt_e hG ex21
                have x5 : 0 ≤ x21 ∧ x21 < 8 := by rw [ex21]; first | exact lat8 ⟨hi39.1.1.1.2.2.1, hi39.1.1.1.2.2.2⟩ | decide
                obtain ⟨x22, ex22⟩ : ∃ z9 : Int32, z9 = 0 := ⟨_, rfl⟩
                replace hG := gLt_e hG ex22
                rcases (Classical.em ((how : Int32) = 0)).symm with c23 | c23
                · replace hG := gIf_n hG c23
                  have loop109 : ∀ (N109 : Nat) (v109_5 : Int32) (v109_6 : Int32) , ((0 ≤ v109_5 ∧ v109_5 < 8) ∧ (0 ≤ v109_6 ∧ v109_6 ≤ 8)) → ((rM v109_5 u9 v109_6).toInt.toNat) < N109 → (G_run S how z n = G_run_L109 v39_4 SL39 (fun z0 z1 => G_run_L39 how n N39 z0 z1) N109 v109_5 v109_6) → (fun (r9 : Int32) (S9 : mS) => mInv S9 ∧ gI S9 2 = gI S 2) rZ SZ := by
                    intro N109
                    induction N109 with
                    | zero => intro v109_5 v109_6  hi109 hm109; exact absurd hm109 (Nat.not_lt_zero _)
                    | succ N109 ih109 =>
                      intro v109_5 v109_6  hi109 hm109 hG
                      rw [G_run_L109] at hG
                      have q1 : mInv SL39 ∧ gI SL39 2 = gI S 2 := by first | exact pb_t hi39.1 p3 | exact hi39.1
                      rcases (Classical.em (((gA SL39 13 v109_5) : Int32) = 1)).symm with c24 | c24
                      · replace hG := gIf_n hG c24
                        rcases (Classical.em (((gA SL39 13 v109_5) : Int32) = 1)).symm with c25 | c25
                        · replace hG := gIf_n hG c25
                          obtain ⟨x26, ex26⟩ : ∃ z9 : Int32, z9 = ((v109_5 + 1) - (v109_5 + 1) / 8 * 8) := ⟨_, rfl⟩
                          replace hG := gLt_e hG ex26
                          have rn9 := run_m (y := x26) (k := v109_6) hi109.1 hi109.2 ⟨hu0, hu1⟩ ex26 (by first | exact Or.inl ⟨nope9, i_gt nope9⟩ | exact Or.inr ⟨rfl, fun z9 => c25 (by rw [z9]; first | exact st9 | exact hu2)⟩ | exact absurd c25 c24)
                          exact ih109 x26 v109_6  (⟨(rn9).1, (rn9).2.1⟩) (msd hm109 rn9.2.2.1 rn9.2.2.2) hG
                        · replace hG := gIf_p hG c25
                          obtain ⟨x27, ex27⟩ : ∃ z9 : Int32, z9 = v109_6 + (-1) := ⟨_, rfl⟩
                          replace hG := gLt_e hG ex27
                          obtain ⟨x28, ex28⟩ : ∃ z9 : Int32, z9 = ((v109_5 + 1) - (v109_5 + 1) / 8 * 8) := ⟨_, rfl⟩
                          replace hG := gLt_e hG ex28
                          have rn9 := run_m (y := x28) (k := x27) hi109.1 hi109.2 ⟨hu0, hu1⟩ ex28 (by first | exact Or.inl ⟨ex27, i_gt nope9⟩ | exact Or.inr ⟨rfl, fun z9 => c25 (by rw [z9]; first | exact st9 | exact hu2)⟩ | exact absurd c25 c24)
                          exact ih109 x28 x27  (⟨(rn9).1, (rn9).2.1⟩) (msd hm109 rn9.2.2.1 rn9.2.2.2) hG
                      · replace hG := gIf_p hG c24
                        rcases Classical.em ((v109_6 : Int32) ≤ 0) with c29 | c29
                        · replace hG := gIf_p hG c29
                          obtain ⟨S30, ghq32⟩ : ∃ z9 : mS, z9 = G_one SL39 v109_5 := ⟨_, rfl⟩
                          have hq32 := p_one SL39 v109_5  (hi109.1) (q1.1) (c24) S30 ghq32
                          replace hG := gLt_e hG ghq32
                          obtain ⟨x33, ex33⟩ : ∃ z9 : Int32, z9 = v39_4 + (1) := ⟨_, rfl⟩
                          replace hG := gLt_e hG ex33
                          exact ih39 x33 S30 (⟨pb_t q1 hq32, a_up ex33 hi39.2.1 (i_lt c15)⟩) (msd hm39 (a_dec ex33 hi39.2.1 (i_lt c15)).1 (a_dec ex33 hi39.2.1 (i_lt c15)).2) hG
                        · replace hG := gIf_n hG c29
                          rcases (Classical.em (((gA SL39 13 v109_5) : Int32) = 1)).symm with c34 | c34
                          · replace hG := gIf_n hG c34
                            obtain ⟨x35, ex35⟩ : ∃ z9 : Int32, z9 = ((v109_5 + 1) - (v109_5 + 1) / 8 * 8) := ⟨_, rfl⟩
                            replace hG := gLt_e hG ex35
                            have rn9 := run_m (y := x35) (k := v109_6) hi109.1 hi109.2 ⟨hu0, hu1⟩ ex35 (by first | exact Or.inl ⟨nope9, i_gt c29⟩ | exact Or.inr ⟨rfl, fun z9 => c34 (by rw [z9]; first | exact st9 | exact hu2)⟩ | exact absurd c34 c24)
                            exact ih109 x35 v109_6  (⟨(rn9).1, (rn9).2.1⟩) (msd hm109 rn9.2.2.1 rn9.2.2.2) hG
                          · replace hG := gIf_p hG c34
                            obtain ⟨x36, ex36⟩ : ∃ z9 : Int32, z9 = v109_6 + (-1) := ⟨_, rfl⟩
                            replace hG := gLt_e hG ex36
                            obtain ⟨x37, ex37⟩ : ∃ z9 : Int32, z9 = ((v109_5 + 1) - (v109_5 + 1) / 8 * 8) := ⟨_, rfl⟩
                            replace hG := gLt_e hG ex37
                            have rn9 := run_m (y := x37) (k := x36) hi109.1 hi109.2 ⟨hu0, hu1⟩ ex37 (by first | exact Or.inl ⟨ex36, i_gt c29⟩ | exact Or.inr ⟨rfl, fun z9 => c34 (by rw [z9]; first | exact st9 | exact hu2)⟩ | exact absurd c34 c24)
                            exact ih109 x37 x36  (⟨(rn9).1, (rn9).2.1⟩) (msd hm109 rn9.2.2.1 rn9.2.2.2) hG
                  have en9 : (0 ≤ x21 ∧ x21 < 8) ∧ (0 ≤ x22 ∧ x22 ≤ 8) := ⟨x5, by first | exact a_le8 (by clear hG hZ ih39 hm39; rw [nope9]; exact rem_r (ush8 nope9) (nope9.2.2.2 u9 hu0 hu1 st9)) nope9.2.1 | (rw [ex22]; decide)⟩
                  exact loop109 (100) x21 x22  en9 (rM_100 en9 ⟨hu0, hu1⟩) hG
                · replace hG := gIf_p hG c23
                  obtain ⟨S38, eS38⟩ : ∃ z9 : mS, z9 = sI SL39 27 (((gI SL39 27) * 1103515245) + 12345) := ⟨_, rfl⟩
                  replace hG := gLt_e hG eS38
                  have p3 := pb_I hi39.1.1 eS38 (by decide) (by decide)
                  have st9 : gA S38 13 u9 = 1 := by rw [eS38]; exact hu2
                  obtain ⟨x39, ex39⟩ : ∃ z9 : Int32, z9 = (((gI S38 27) : Int32).toUInt32 >>> ((8 : Int32).toUInt32 &&& Int32.toUInt32 31)).toInt32 := ⟨_, rfl⟩
                  replace hG := gLt_e hG ex39
                  obtain ⟨r41, ghq42⟩ : ∃ z9 : Int32, z9 = G_ready S38  := ⟨_, rfl⟩
                  have hq42 := (p_ready S38    r41 ghq42).2
                  replace hG := gLt_e hG ghq42
                  obtain ⟨x43, ex43⟩ : ∃ z9 : Int32, z9 = (x39 - x39 / r41 * r41) := ⟨_, rfl⟩
                  replace hG := gLt_e hG ex43
                  have loop109 : ∀ (N109 : Nat) (v109_5 : Int32) (v109_6 : Int32) , ((0 ≤ v109_5 ∧ v109_5 < 8) ∧ (0 ≤ v109_6 ∧ v109_6 ≤ 8)) → ((rM v109_5 u9 v109_6).toInt.toNat) < N109 → (G_run S how z n = G_run_L109 v39_4 S38 (fun z0 z1 => G_run_L39 how n N39 z0 z1) N109 v109_5 v109_6) → (fun (r9 : Int32) (S9 : mS) => mInv S9 ∧ gI S9 2 = gI S 2) rZ SZ := by
                    intro N109
                    induction N109 with
                    | zero => intro v109_5 v109_6  hi109 hm109; exact absurd hm109 (Nat.not_lt_zero _)
                    | succ N109 ih109 =>
                      intro v109_5 v109_6  hi109 hm109 hG
                      rw [G_run_L109] at hG
                      have q1 : mInv S38 ∧ gI S38 2 = gI S 2 := by first | exact pb_t hi39.1 p3 | exact hi39.1
                      rcases (Classical.em (((gA S38 13 v109_5) : Int32) = 1)).symm with c44 | c44
                      · replace hG := gIf_n hG c44
                        rcases (Classical.em (((gA S38 13 v109_5) : Int32) = 1)).symm with c45 | c45
                        · replace hG := gIf_n hG c45
                          obtain ⟨x46, ex46⟩ : ∃ z9 : Int32, z9 = ((v109_5 + 1) - (v109_5 + 1) / 8 * 8) := ⟨_, rfl⟩
                          replace hG := gLt_e hG ex46
                          have rn9 := run_m (y := x46) (k := v109_6) hi109.1 hi109.2 ⟨hu0, hu1⟩ ex46 (by first | exact Or.inl ⟨nope9, i_gt nope9⟩ | exact Or.inr ⟨rfl, fun z9 => c45 (by rw [z9]; first | exact st9 | exact hu2)⟩ | exact absurd c45 c44)
                          exact ih109 x46 v109_6  (⟨(rn9).1, (rn9).2.1⟩) (msd hm109 rn9.2.2.1 rn9.2.2.2) hG
                        · replace hG := gIf_p hG c45
                          obtain ⟨x47, ex47⟩ : ∃ z9 : Int32, z9 = v109_6 + (-1) := ⟨_, rfl⟩
                          replace hG := gLt_e hG ex47
                          obtain ⟨x48, ex48⟩ : ∃ z9 : Int32, z9 = ((v109_5 + 1) - (v109_5 + 1) / 8 * 8) := ⟨_, rfl⟩
                          replace hG := gLt_e hG ex48
                          have rn9 := run_m (y := x48) (k := x47) hi109.1 hi109.2 ⟨hu0, hu1⟩ ex48 (by first | exact Or.inl ⟨ex47, i_gt nope9⟩ | exact Or.inr ⟨rfl, fun z9 => c45 (by rw [z9]; first | exact st9 | exact hu2)⟩ | exact absurd c45 c44)
                          exact ih109 x48 x47  (⟨(rn9).1, (rn9).2.1⟩) (msd hm109 rn9.2.2.1 rn9.2.2.2) hG
                      · replace hG := gIf_p hG c44
                        rcases Classical.em ((v109_6 : Int32) ≤ 0) with c49 | c49
                        · replace hG := gIf_p hG c49
                          obtain ⟨S50, ghq52⟩ : ∃ z9 : mS, z9 = G_one S38 v109_5 := ⟨_, rfl⟩
                          have hq52 := p_one S38 v109_5  (hi109.1) (q1.1) (c44) S50 ghq52
                          replace hG := gLt_e hG ghq52
                          obtain ⟨x53, ex53⟩ : ∃ z9 : Int32, z9 = v39_4 + (1) := ⟨_, rfl⟩
                          replace hG := gLt_e hG ex53
                          exact ih39 x53 S50 (⟨pb_t q1 hq52, a_up ex53 hi39.2.1 (i_lt c15)⟩) (msd hm39 (a_dec ex53 hi39.2.1 (i_lt c15)).1 (a_dec ex53 hi39.2.1 (i_lt c15)).2) hG
                        · replace hG := gIf_n hG c49
                          rcases (Classical.em (((gA S38 13 v109_5) : Int32) = 1)).symm with c54 | c54
                          · replace hG := gIf_n hG c54
                            obtain ⟨x55, ex55⟩ : ∃ z9 : Int32, z9 = ((v109_5 + 1) - (v109_5 + 1) / 8 * 8) := ⟨_, rfl⟩
                            replace hG := gLt_e hG ex55
                            have rn9 := run_m (y := x55) (k := v109_6) hi109.1 hi109.2 ⟨hu0, hu1⟩ ex55 (by first | exact Or.inl ⟨nope9, i_gt c49⟩ | exact Or.inr ⟨rfl, fun z9 => c54 (by rw [z9]; first | exact st9 | exact hu2)⟩ | exact absurd c54 c44)
                            exact ih109 x55 v109_6  (⟨(rn9).1, (rn9).2.1⟩) (msd hm109 rn9.2.2.1 rn9.2.2.2) hG
                          · replace hG := gIf_p hG c54
                            obtain ⟨x56, ex56⟩ : ∃ z9 : Int32, z9 = v109_6 + (-1) := ⟨_, rfl⟩
                            replace hG := gLt_e hG ex56
                            obtain ⟨x57, ex57⟩ : ∃ z9 : Int32, z9 = ((v109_5 + 1) - (v109_5 + 1) / 8 * 8) := ⟨_, rfl⟩
                            replace hG := gLt_e hG ex57
                            have rn9 := run_m (y := x57) (k := x56) hi109.1 hi109.2 ⟨hu0, hu1⟩ ex57 (by first | exact Or.inl ⟨ex56, i_gt c49⟩ | exact Or.inr ⟨rfl, fun z9 => c54 (by rw [z9]; first | exact st9 | exact hu2)⟩ | exact absurd c54 c44)
                            exact ih109 x57 x56  (⟨(rn9).1, (rn9).2.1⟩) (msd hm109 rn9.2.2.1 rn9.2.2.2) hG
                  have en9 : (0 ≤ x21 ∧ x21 < 8) ∧ (0 ≤ x43 ∧ x43 ≤ 8) := ⟨x5, by first | exact a_le8 (by clear hG hZ ih39 hm39; rw [ex43]; exact rem_r (ush8 ex39) (hq42.2.2.2 u9 hu0 hu1 st9)) hq42.2.1 | (rw [ex22]; decide)⟩
                  exact loop109 (100) x21 x43  en9 (rM_100 en9 ⟨hu0, hu1⟩) hG
              · replace hG := gIf_p hG c20
                obtain ⟨x58, ex58⟩ : ∃ z9 : Int32, z9 = (((gI SL39 26) + 1) - ((gI SL39 26) + 1) / 8 * 8) := ⟨_, rfl⟩
                replace hG := gLt_e hG ex58
                have x5 : 0 ≤ x58 ∧ x58 < 8 := by rw [ex58]; first | exact lat8 ⟨hi39.1.1.1.2.2.1, hi39.1.1.1.2.2.2⟩ | decide
                obtain ⟨x59, ex59⟩ : ∃ z9 : Int32, z9 = 0 := ⟨_, rfl⟩
                replace hG := gLt_e hG ex59
                rcases (Classical.em ((how : Int32) = 0)).symm with c60 | c60
                · replace hG := gIf_n hG c60
                  have loop109 : ∀ (N109 : Nat) (v109_5 : Int32) (v109_6 : Int32) , ((0 ≤ v109_5 ∧ v109_5 < 8) ∧ (0 ≤ v109_6 ∧ v109_6 ≤ 8)) → ((rM v109_5 u9 v109_6).toInt.toNat) < N109 → (G_run S how z n = G_run_L109 v39_4 SL39 (fun z0 z1 => G_run_L39 how n N39 z0 z1) N109 v109_5 v109_6) → (fun (r9 : Int32) (S9 : mS) => mInv S9 ∧ gI S9 2 = gI S 2) rZ SZ := by
                    intro N109
                    induction N109 with
                    | zero => intro v109_5 v109_6  hi109 hm109; exact absurd hm109 (Nat.not_lt_zero _)
                    | succ N109 ih109 =>
                      intro v109_5 v109_6  hi109 hm109 hG
                      rw [G_run_L109] at hG
                      have q1 : mInv SL39 ∧ gI SL39 2 = gI S 2 := by first | exact pb_t hi39.1 p3 | exact hi39.1
                      rcases (Classical.em (((gA SL39 13 v109_5) : Int32) = 1)).symm with c61 | c61
                      · replace hG := gIf_n hG c61
                        rcases (Classical.em (((gA SL39 13 v109_5) : Int32) = 1)).symm with c62 | c62
                        · replace hG := gIf_n hG c62
                          obtain ⟨x63, ex63⟩ : ∃ z9 : Int32, z9 = ((v109_5 + 1) - (v109_5 + 1) / 8 * 8) := ⟨_, rfl⟩
                          replace hG := gLt_e hG ex63
                          have rn9 := run_m (y := x63) (k := v109_6) hi109.1 hi109.2 ⟨hu0, hu1⟩ ex63 (by first | exact Or.inl ⟨nope9, i_gt nope9⟩ | exact Or.inr ⟨rfl, fun z9 => c62 (by rw [z9]; first | exact st9 | exact hu2)⟩ | exact absurd c62 c61)
                          exact ih109 x63 v109_6  (⟨(rn9).1, (rn9).2.1⟩) (msd hm109 rn9.2.2.1 rn9.2.2.2) hG
                        · replace hG := gIf_p hG c62
                          obtain ⟨x64, ex64⟩ : ∃ z9 : Int32, z9 = v109_6 + (-1) := ⟨_, rfl⟩
                          replace hG := gLt_e hG ex64
                          obtain ⟨x65, ex65⟩ : ∃ z9 : Int32, z9 = ((v109_5 + 1) - (v109_5 + 1) / 8 * 8) := ⟨_, rfl⟩
                          replace hG := gLt_e hG ex65
                          have rn9 := run_m (y := x65) (k := x64) hi109.1 hi109.2 ⟨hu0, hu1⟩ ex65 (by first | exact Or.inl ⟨ex64, i_gt nope9⟩ | exact Or.inr ⟨rfl, fun z9 => c62 (by rw [z9]; first | exact st9 | exact hu2)⟩ | exact absurd c62 c61)
                          exact ih109 x65 x64  (⟨(rn9).1, (rn9).2.1⟩) (msd hm109 rn9.2.2.1 rn9.2.2.2) hG
                      · replace hG := gIf_p hG c61
                        rcases Classical.em ((v109_6 : Int32) ≤ 0) with c66 | c66
                        · replace hG := gIf_p hG c66
                          obtain ⟨S67, ghq69⟩ : ∃ z9 : mS, z9 = G_one SL39 v109_5 := ⟨_, rfl⟩
                          have hq69 := p_one SL39 v109_5  (hi109.1) (q1.1) (c61) S67 ghq69
                          replace hG := gLt_e hG ghq69
                          obtain ⟨x70, ex70⟩ : ∃ z9 : Int32, z9 = v39_4 + (1) := ⟨_, rfl⟩
                          replace hG := gLt_e hG ex70
                          exact ih39 x70 S67 (⟨pb_t q1 hq69, a_up ex70 hi39.2.1 (i_lt c15)⟩) (msd hm39 (a_dec ex70 hi39.2.1 (i_lt c15)).1 (a_dec ex70 hi39.2.1 (i_lt c15)).2) hG
                        · replace hG := gIf_n hG c66
                          rcases (Classical.em (((gA SL39 13 v109_5) : Int32) = 1)).symm with c71 | c71
                          · replace hG := gIf_n hG c71
                            obtain ⟨x72, ex72⟩ : ∃ z9 : Int32, z9 = ((v109_5 + 1) - (v109_5 + 1) / 8 * 8) := ⟨_, rfl⟩
                            replace hG := gLt_e hG ex72
                            have rn9 := run_m (y := x72) (k := v109_6) hi109.1 hi109.2 ⟨hu0, hu1⟩ ex72 (by first | exact Or.inl ⟨nope9, i_gt c66⟩ | exact Or.inr ⟨rfl, fun z9 => c71 (by rw [z9]; first | exact st9 | exact hu2)⟩ | exact absurd c71 c61)
                            exact ih109 x72 v109_6  (⟨(rn9).1, (rn9).2.1⟩) (msd hm109 rn9.2.2.1 rn9.2.2.2) hG
                          · replace hG := gIf_p hG c71
                            obtain ⟨x73, ex73⟩ : ∃ z9 : Int32, z9 = v109_6 + (-1) := ⟨_, rfl⟩
                            replace hG := gLt_e hG ex73
                            obtain ⟨x74, ex74⟩ : ∃ z9 : Int32, z9 = ((v109_5 + 1) - (v109_5 + 1) / 8 * 8) := ⟨_, rfl⟩
                            replace hG := gLt_e hG ex74
                            have rn9 := run_m (y := x74) (k := x73) hi109.1 hi109.2 ⟨hu0, hu1⟩ ex74 (by first | exact Or.inl ⟨ex73, i_gt c66⟩ | exact Or.inr ⟨rfl, fun z9 => c71 (by rw [z9]; first | exact st9 | exact hu2)⟩ | exact absurd c71 c61)
                            exact ih109 x74 x73  (⟨(rn9).1, (rn9).2.1⟩) (msd hm109 rn9.2.2.1 rn9.2.2.2) hG
                  have en9 : (0 ≤ x58 ∧ x58 < 8) ∧ (0 ≤ x59 ∧ x59 ≤ 8) := ⟨x5, by first | exact a_le8 (by clear hG hZ ih39 hm39; rw [nope9]; exact rem_r (ush8 nope9) (nope9.2.2.2 u9 hu0 hu1 st9)) nope9.2.1 | (rw [ex59]; decide)⟩
                  exact loop109 (100) x58 x59  en9 (rM_100 en9 ⟨hu0, hu1⟩) hG
                · replace hG := gIf_p hG c60
                  obtain ⟨S75, eS75⟩ : ∃ z9 : mS, z9 = sI SL39 27 (((gI SL39 27) * 1103515245) + 12345) := ⟨_, rfl⟩
                  replace hG := gLt_e hG eS75
                  have p3 := pb_I hi39.1.1 eS75 (by decide) (by decide)
                  have st9 : gA S75 13 u9 = 1 := by rw [eS75]; exact hu2
                  obtain ⟨x76, ex76⟩ : ∃ z9 : Int32, z9 = (((gI S75 27) : Int32).toUInt32 >>> ((8 : Int32).toUInt32 &&& Int32.toUInt32 31)).toInt32 := ⟨_, rfl⟩
                  replace hG := gLt_e hG ex76
                  obtain ⟨r78, ghq79⟩ : ∃ z9 : Int32, z9 = G_ready S75  := ⟨_, rfl⟩
                  have hq79 := (p_ready S75    r78 ghq79).2
                  replace hG := gLt_e hG ghq79
                  obtain ⟨x80, ex80⟩ : ∃ z9 : Int32, z9 = (x76 - x76 / r78 * r78) := ⟨_, rfl⟩
                  replace hG := gLt_e hG ex80
                  have loop109 : ∀ (N109 : Nat) (v109_5 : Int32) (v109_6 : Int32) , ((0 ≤ v109_5 ∧ v109_5 < 8) ∧ (0 ≤ v109_6 ∧ v109_6 ≤ 8)) → ((rM v109_5 u9 v109_6).toInt.toNat) < N109 → (G_run S how z n = G_run_L109 v39_4 S75 (fun z0 z1 => G_run_L39 how n N39 z0 z1) N109 v109_5 v109_6) → (fun (r9 : Int32) (S9 : mS) => mInv S9 ∧ gI S9 2 = gI S 2) rZ SZ := by
                    intro N109
                    induction N109 with
                    | zero => intro v109_5 v109_6  hi109 hm109; exact absurd hm109 (Nat.not_lt_zero _)
                    | succ N109 ih109 =>
                      intro v109_5 v109_6  hi109 hm109 hG
                      rw [G_run_L109] at hG
                      have q1 : mInv S75 ∧ gI S75 2 = gI S 2 := by first | exact pb_t hi39.1 p3 | exact hi39.1
                      rcases (Classical.em (((gA S75 13 v109_5) : Int32) = 1)).symm with c81 | c81
                      · replace hG := gIf_n hG c81
                        rcases (Classical.em (((gA S75 13 v109_5) : Int32) = 1)).symm with c82 | c82
                        · replace hG := gIf_n hG c82
                          obtain ⟨x83, ex83⟩ : ∃ z9 : Int32, z9 = ((v109_5 + 1) - (v109_5 + 1) / 8 * 8) := ⟨_, rfl⟩
                          replace hG := gLt_e hG ex83
                          have rn9 := run_m (y := x83) (k := v109_6) hi109.1 hi109.2 ⟨hu0, hu1⟩ ex83 (by first | exact Or.inl ⟨nope9, i_gt nope9⟩ | exact Or.inr ⟨rfl, fun z9 => c82 (by rw [z9]; first | exact st9 | exact hu2)⟩ | exact absurd c82 c81)
                          exact ih109 x83 v109_6  (⟨(rn9).1, (rn9).2.1⟩) (msd hm109 rn9.2.2.1 rn9.2.2.2) hG
                        · replace hG := gIf_p hG c82
                          obtain ⟨x84, ex84⟩ : ∃ z9 : Int32, z9 = v109_6 + (-1) := ⟨_, rfl⟩
                          replace hG := gLt_e hG ex84
                          obtain ⟨x85, ex85⟩ : ∃ z9 : Int32, z9 = ((v109_5 + 1) - (v109_5 + 1) / 8 * 8) := ⟨_, rfl⟩
                          replace hG := gLt_e hG ex85
                          have rn9 := run_m (y := x85) (k := x84) hi109.1 hi109.2 ⟨hu0, hu1⟩ ex85 (by first | exact Or.inl ⟨ex84, i_gt nope9⟩ | exact Or.inr ⟨rfl, fun z9 => c82 (by rw [z9]; first | exact st9 | exact hu2)⟩ | exact absurd c82 c81)
                          exact ih109 x85 x84  (⟨(rn9).1, (rn9).2.1⟩) (msd hm109 rn9.2.2.1 rn9.2.2.2) hG
                      · replace hG := gIf_p hG c81
                        rcases Classical.em ((v109_6 : Int32) ≤ 0) with c86 | c86
                        · replace hG := gIf_p hG c86
                          obtain ⟨S87, ghq89⟩ : ∃ z9 : mS, z9 = G_one S75 v109_5 := ⟨_, rfl⟩
                          have hq89 := p_one S75 v109_5  (hi109.1) (q1.1) (c81) S87 ghq89
                          replace hG := gLt_e hG ghq89
                          obtain ⟨x90, ex90⟩ : ∃ z9 : Int32, z9 = v39_4 + (1) := ⟨_, rfl⟩
                          replace hG := gLt_e hG ex90
                          exact ih39 x90 S87 (⟨pb_t q1 hq89, a_up ex90 hi39.2.1 (i_lt c15)⟩) (msd hm39 (a_dec ex90 hi39.2.1 (i_lt c15)).1 (a_dec ex90 hi39.2.1 (i_lt c15)).2) hG
                        · replace hG := gIf_n hG c86
                          rcases (Classical.em (((gA S75 13 v109_5) : Int32) = 1)).symm with c91 | c91
                          · replace hG := gIf_n hG c91
                            obtain ⟨x92, ex92⟩ : ∃ z9 : Int32, z9 = ((v109_5 + 1) - (v109_5 + 1) / 8 * 8) := ⟨_, rfl⟩
                            replace hG := gLt_e hG ex92
                            have rn9 := run_m (y := x92) (k := v109_6) hi109.1 hi109.2 ⟨hu0, hu1⟩ ex92 (by first | exact Or.inl ⟨nope9, i_gt c86⟩ | exact Or.inr ⟨rfl, fun z9 => c91 (by rw [z9]; first | exact st9 | exact hu2)⟩ | exact absurd c91 c81)
                            exact ih109 x92 v109_6  (⟨(rn9).1, (rn9).2.1⟩) (msd hm109 rn9.2.2.1 rn9.2.2.2) hG
                          · replace hG := gIf_p hG c91
                            obtain ⟨x93, ex93⟩ : ∃ z9 : Int32, z9 = v109_6 + (-1) := ⟨_, rfl⟩
                            replace hG := gLt_e hG ex93
                            obtain ⟨x94, ex94⟩ : ∃ z9 : Int32, z9 = ((v109_5 + 1) - (v109_5 + 1) / 8 * 8) := ⟨_, rfl⟩
                            replace hG := gLt_e hG ex94
                            have rn9 := run_m (y := x94) (k := x93) hi109.1 hi109.2 ⟨hu0, hu1⟩ ex94 (by first | exact Or.inl ⟨ex93, i_gt c86⟩ | exact Or.inr ⟨rfl, fun z9 => c91 (by rw [z9]; first | exact st9 | exact hu2)⟩ | exact absurd c91 c81)
                            exact ih109 x94 x93  (⟨(rn9).1, (rn9).2.1⟩) (msd hm109 rn9.2.2.1 rn9.2.2.2) hG
                  have en9 : (0 ≤ x58 ∧ x58 < 8) ∧ (0 ≤ x80 ∧ x80 ≤ 8) := ⟨x5, by first | exact a_le8 (by clear hG hZ ih39 hm39; rw [ex80]; exact rem_r (ush8 ex76) (hq79.2.2.2 u9 hu0 hu1 st9)) hq79.2.1 | (rw [ex59]; decide)⟩
                  exact loop109 (100) x58 x80  en9 (rM_100 en9 ⟨hu0, hu1⟩) hG
      exact loop39 ((n - x14).toInt.toNat + 1) x14 S13 (⟨p2, by rw [ex14]; exact ⟨by decide, hn.1⟩⟩) (Nat.lt_succ_self _) hG
    · replace hG := gIf_p hG c11
      exact pj_run_20 S how z n h1   rZ SZ (trivial) hZ hG
set_option maxHeartbeats 400000 in
set_option maxRecDepth 100000 in
theorem pj_look_77 (S : mS) (t : Int32) (w : Int32)  (h1 : mInv S)  (SJ77 : mS) (rZ : Int32) (SZ : mS) (hj77 : mInv SJ77 ∧ gI SJ77 2 = gI S 2) (hZ : (rZ, SZ) = G_look S t w) (hG : G_look S t w = G_look_J77   SJ77) : (fun (r9 : Int32) (S9 : mS) => mInv S9 ∧ gI S9 2 = gI S 2) rZ SZ := by
  rw [G_look_J77] at hG
  exact gE2 (P := (fun (r9 : Int32) (S9 : mS) => mInv S9 ∧ gI S9 2 = gI S 2)) hZ hG (by clear hG hZ; first | exact p1 | exact hj77)
set_option maxHeartbeats 400000 in
set_option maxRecDepth 100000 in
theorem pj_look_19 (S : mS) (t : Int32) (w : Int32)  (h1 : mInv S)   (rZ : Int32) (SZ : mS) (hj19 : True) (hZ : (rZ, SZ) = G_look S t w) (hG : G_look S t w = G_look_J19 S ) : (fun (r9 : Int32) (S9 : mS) => mInv S9 ∧ gI S9 2 = gI S 2) rZ SZ := by
  rw [G_look_J19] at hG
  obtain ⟨r2, S1, ghq3⟩ : ∃ (z : Int32) (y : mS), (z, y) = G_refuse S 1 := ⟨_, _, rfl⟩
  have hq3 := p_refuse S 1   r2 S1 ghq3
  replace hG := gC_e hG ghq3
  exact gE2 (P := (fun (r9 : Int32) (S9 : mS) => mInv S9 ∧ gI S9 2 = gI S 2)) hZ hG (pb_I h1 hq3.2 (by clear hG hZ; decide) (by clear hG hZ; decide))
set_option maxHeartbeats 400000 in
set_option maxRecDepth 100000 in
theorem p_look (S : mS) (t : Int32) (w : Int32)  (h1 : mInv S) (rZ : Int32) (SZ : mS) (hZ : (rZ, SZ) = G_look S t w) : (fun (r9 : Int32) (S9 : mS) => mInv S9 ∧ gI S9 2 = gI S 2) rZ SZ := by
  have hG := G_look.eq_1 S t w
  obtain ⟨r5, ghq6⟩ : ∃ z9 : Int32, z9 = G_in S t 0 7 := ⟨_, rfl⟩
  have hq6 := (p_in S t 0 7   r5 ghq6).2
  replace hG := gLt_e hG ghq6
  rcases Classical.em ((r5 : Int32) = 0) with c7 | c7
  · replace hG := gIf_p hG c7
    exact pj_look_19 S t w h1   rZ SZ (trivial) hZ hG
  · replace hG := gIf_n hG c7
    obtain ⟨r9, ghq10⟩ : ∃ z9 : Int32, z9 = G_in S w 0 5 := ⟨_, rfl⟩
    have hq10 := (p_in S w 0 5   r9 ghq10).2
    replace hG := gLt_e hG ghq10
    rcases (Classical.em ((r9 : Int32) = 0)).symm with c11 | c11
    · replace hG := gIf_n hG c11
      have ht : 0 ≤ t ∧ t < 8 := t8 (in_y hq6 c7)
      obtain ⟨S12, eS12⟩ : ∃ z9 : mS, z9 = sI S 0 0 := ⟨_, rfl⟩
      replace hG := gLt_e hG eS12
      have p1 := pb_I h1 eS12 (by decide) (by decide)
      rcases (Classical.em ((w : Int32) = 0)).symm with c13 | c13
      · replace hG := gIf_n hG c13
        rcases (Classical.em ((w : Int32) = 1)).symm with c14 | c14
        · replace hG := gIf_n hG c14
          rcases (Classical.em ((w : Int32) = 2)).symm with c15 | c15
          · replace hG := gIf_n hG c15
            rcases (Classical.em ((w : Int32) = 3)).symm with c16 | c16
            · replace hG := gIf_n hG c16
              rcases (Classical.em ((w : Int32) = 4)).symm with c17 | c17
              · replace hG := gIf_n hG c17
                rcases (Classical.em (((gA S12 13 t) : Int32) = 5)).symm with c18 | c18
                · replace hG := gIf_n hG c18
                  exact gE2 (P := (fun (r9 : Int32) (S9 : mS) => mInv S9 ∧ gI S9 2 = gI S 2)) hZ hG (by clear hG hZ; first | exact p1 | exact hj77)
                · replace hG := gIf_p hG c18
                  exact gE2 (P := (fun (r9 : Int32) (S9 : mS) => mInv S9 ∧ gI S9 2 = gI S 2)) hZ hG (by clear hG hZ; first | exact p1 | exact hj77)
              · replace hG := gIf_p hG c17
                rcases Classical.em (((gA S12 20 t) : Int32) = 0) with c19 | c19
                · replace hG := gIf_p hG c19
                  exact gE2 (P := (fun (r9 : Int32) (S9 : mS) => mInv S9 ∧ gI S9 2 = gI S 2)) hZ hG (by clear hG hZ; first | exact p1 | exact hj77)
                · replace hG := gIf_n hG c19
                  exact gE2 (P := (fun (r9 : Int32) (S9 : mS) => mInv S9 ∧ gI S9 2 = gI S 2)) hZ hG (by clear hG hZ; first | exact p1 | exact hj77)
            · replace hG := gIf_p hG c16
              rcases (Classical.em (((gA S12 13 t) : Int32) = 2)).symm with c20 | c20
              · replace hG := gIf_n hG c20
                exact gE2 (P := (fun (r9 : Int32) (S9 : mS) => mInv S9 ∧ gI S9 2 = gI S 2)) hZ hG (by clear hG hZ; first | exact p1 | exact hj77)
              · replace hG := gIf_p hG c20
                exact gE2 (P := (fun (r9 : Int32) (S9 : mS) => mInv S9 ∧ gI S9 2 = gI S 2)) hZ hG (by clear hG hZ; first | exact p1 | exact hj77)
          · replace hG := gIf_p hG c15
            rcases Classical.em (((gA S12 13 t) : Int32) = 0) with c21 | c21
            · replace hG := gIf_p hG c21
              exact pj_look_77 S t w h1  S12 rZ SZ (p1) hZ hG
            · replace hG := gIf_n hG c21
              rcases (Classical.em (((gA S12 13 t) : Int32) = 4)).symm with c22 | c22
              · replace hG := gIf_n hG c22
                exact gE2 (P := (fun (r9 : Int32) (S9 : mS) => mInv S9 ∧ gI S9 2 = gI S 2)) hZ hG (by clear hG hZ; first | exact p1 | exact hj77)
              · replace hG := gIf_p hG c22
                exact pj_look_77 S t w h1  S12 rZ SZ (p1) hZ hG
        · replace hG := gIf_p hG c14
          exact gE2 (P := (fun (r9 : Int32) (S9 : mS) => mInv S9 ∧ gI S9 2 = gI S 2)) hZ hG (by clear hG hZ; first | exact p1 | exact hj77)
      · replace hG := gIf_p hG c13
        exact gE2 (P := (fun (r9 : Int32) (S9 : mS) => mInv S9 ∧ gI S9 2 = gI S 2)) hZ hG (by clear hG hZ; first | exact p1 | exact hj77)
    · replace hG := gIf_p hG c11
      exact pj_look_19 S t w h1   rZ SZ (trivial) hZ hG
set_option maxHeartbeats 400000 in
set_option maxRecDepth 100000 in
theorem pj_sync_81 (S : mS) (b : Int32) (w : Int32)  (h1 : mInv S) (j81_3 : Int32)  (rZ : Int64) (SZ : mS) (hj81 : 0 ≤ b ∧ b < 24) (hZ : (rZ, SZ) = G_sync S b w) (hG : G_sync S b w = G_sync_J81 S b w j81_3) : (fun (r9 : Int64) (S9 : mS) => mInv S9 ∧ gI S9 2 = gI S 2) rZ SZ := by
  have hb9 := id hj81
  rw [G_sync_J81] at hG
  obtain ⟨S1, eS1⟩ : ∃ z9 : mS, z9 = sI S 0 0 := ⟨_, rfl⟩
  replace hG := gLt_e hG eS1
  have p1 := pb_I h1 eS1 (by decide) (by decide)
  rcases (Classical.em ((w : Int32) = 1)).symm with c2 | c2
  · replace hG := gIf_n hG c2
    rcases (Classical.em ((w : Int32) = 2)).symm with c3 | c3
    · replace hG := gIf_n hG c3
      rcases (Classical.em ((w : Int32) = 3)).symm with c4 | c4
      · replace hG := gIf_n hG c4
        rcases (Classical.em ((w : Int32) = 4)).symm with c5 | c5
        · replace hG := gIf_n hG c5
          rcases (Classical.em ((j81_3 : Int32) = 4)).symm with c6 | c6
          · replace hG := gIf_n hG c6
            rcases (Classical.em ((j81_3 : Int32) = 5)).symm with c7 | c7
            · replace hG := gIf_n hG c7
              rcases (Classical.em ((j81_3 : Int32) = 7)).symm with c8 | c8
              · replace hG := gIf_n hG c8
                exact gE2 (P := (fun (r9 : Int64) (S9 : mS) => mInv S9 ∧ gI S9 2 = gI S 2)) hZ hG (p1)
              · replace hG := gIf_p hG c8
                rcases (Classical.em (((gA S1 30 b) : Int32) = 0)).symm with c9 | c9
                · replace hG := gIf_n hG c9
                  exact gE2 (P := (fun (r9 : Int64) (S9 : mS) => mInv S9 ∧ gI S9 2 = gI S 2)) hZ hG (p1)
                · replace hG := gIf_p hG c9
                  exact gE2 (P := (fun (r9 : Int64) (S9 : mS) => mInv S9 ∧ gI S9 2 = gI S 2)) hZ hG (p1)
            · replace hG := gIf_p hG c7
              exact gE2 (P := (fun (r9 : Int64) (S9 : mS) => mInv S9 ∧ gI S9 2 = gI S 2)) hZ hG (p1)
          · replace hG := gIf_p hG c6
            exact gE2 (P := (fun (r9 : Int64) (S9 : mS) => mInv S9 ∧ gI S9 2 = gI S 2)) hZ hG (p1)
        · replace hG := gIf_p hG c5
          exact gE2 (P := (fun (r9 : Int64) (S9 : mS) => mInv S9 ∧ gI S9 2 = gI S 2)) hZ hG (p1)
      · replace hG := gIf_p hG c4
        exact gE2 (P := (fun (r9 : Int64) (S9 : mS) => mInv S9 ∧ gI S9 2 = gI S 2)) hZ hG (p1)
    · replace hG := gIf_p hG c3
      exact gE2 (P := (fun (r9 : Int64) (S9 : mS) => mInv S9 ∧ gI S9 2 = gI S 2)) hZ hG (p1)
  · replace hG := gIf_p hG c2
    exact gE2 (P := (fun (r9 : Int64) (S9 : mS) => mInv S9 ∧ gI S9 2 = gI S 2)) hZ hG (p1)
set_option maxHeartbeats 400000 in
set_option maxRecDepth 100000 in
theorem pj_sync_74 (S : mS) (b : Int32) (w : Int32)  (h1 : mInv S)   (rZ : Int64) (SZ : mS) (hj74 : True) (hZ : (rZ, SZ) = G_sync S b w) (hG : G_sync S b w = G_sync_J74 S ) : (fun (r9 : Int64) (S9 : mS) => mInv S9 ∧ gI S9 2 = gI S 2) rZ SZ := by
  rw [G_sync_J74] at hG
  obtain ⟨r11, S10, ghq12⟩ : ∃ (z : Int32) (y : mS), (z, y) = G_refuse S 3 := ⟨_, _, rfl⟩
  have hq12 := p_refuse S 3   r11 S10 ghq12
  replace hG := gC_e hG ghq12
  exact gE2 (P := (fun (r9 : Int64) (S9 : mS) => mInv S9 ∧ gI S9 2 = gI S 2)) hZ hG (pb_I h1 hq12.2 (by clear hG hZ; decide) (by clear hG hZ; decide))
set_option maxHeartbeats 400000 in
set_option maxRecDepth 100000 in
theorem pj_sync_64 (S : mS) (b : Int32) (w : Int32)  (h1 : mInv S) (j64_3 : Int32)  (rZ : Int64) (SZ : mS) (hj64 : 0 ≤ b ∧ b < 24) (hZ : (rZ, SZ) = G_sync S b w) (hG : G_sync S b w = G_sync_J64 S b w j64_3) : (fun (r9 : Int64) (S9 : mS) => mInv S9 ∧ gI S9 2 = gI S 2) rZ SZ := by
  have hb9 := id hj64
  rw [G_sync_J64] at hG
  rcases (Classical.em ((w : Int32) = 4)).symm with c13 | c13
  · replace hG := gIf_n hG c13
    exact pj_sync_81 S b w h1 j64_3  rZ SZ (by clear hG hZ; first | exact hb9 | exact hj54 | exact hj64) hZ hG
  · replace hG := gIf_p hG c13
    rcases Classical.em ((j64_3 : Int32) = 5) with c14 | c14
    · replace hG := gIf_p hG c14
      exact pj_sync_81 S b w h1 j64_3  rZ SZ (by clear hG hZ; first | exact hb9 | exact hj54 | exact hj64) hZ hG
    · replace hG := gIf_n hG c14
      exact pj_sync_74 S b w h1   rZ SZ (trivial) hZ hG
set_option maxHeartbeats 400000 in
set_option maxRecDepth 100000 in
theorem pj_sync_54 (S : mS) (b : Int32) (w : Int32)  (h1 : mInv S) (j54_3 : Int32)  (rZ : Int64) (SZ : mS) (hj54 : 0 ≤ b ∧ b < 24) (hZ : (rZ, SZ) = G_sync S b w) (hG : G_sync S b w = G_sync_J54 S b w j54_3) : (fun (r9 : Int64) (S9 : mS) => mInv S9 ∧ gI S9 2 = gI S 2) rZ SZ := by
  have hb9 := id hj54
  rw [G_sync_J54] at hG
  rcases (Classical.em ((w : Int32) = 3)).symm with c15 | c15
  · replace hG := gIf_n hG c15
    exact pj_sync_64 S b w h1 j54_3  rZ SZ (by clear hG hZ; first | exact hb9 | exact hj54 | exact hj64) hZ hG
  · replace hG := gIf_p hG c15
    rcases (Classical.em ((j54_3 : Int32) = 1)).symm with c16 | c16
    · replace hG := gIf_n hG c16
      exact pj_sync_74 S b w h1   rZ SZ (trivial) hZ hG
    · replace hG := gIf_p hG c16
      exact pj_sync_64 S b w h1 j54_3  rZ SZ (by clear hG hZ; first | exact hb9 | exact hj54 | exact hj64) hZ hG
set_option maxHeartbeats 400000 in
set_option maxRecDepth 100000 in
theorem p_sync (S : mS) (b : Int32) (w : Int32)  (h1 : mInv S) (rZ : Int64) (SZ : mS) (hZ : (rZ, SZ) = G_sync S b w) : (fun (r9 : Int64) (S9 : mS) => mInv S9 ∧ gI S9 2 = gI S 2) rZ SZ := by
  have hG := G_sync.eq_1 S b w
  obtain ⟨r18, ghq19⟩ : ∃ z9 : Int32, z9 = G_isThere S b := ⟨_, rfl⟩
  have hq19 := (p_isThere S b   r18 ghq19).2
  replace hG := gLt_e hG ghq19
  rcases (Classical.em ((r18 : Int32) = 0)).symm with c20 | c20
  · replace hG := gIf_n hG c20
    have hb9 : 0 ≤ b ∧ b < 24 := by rcases hq19 with z | z; exact ⟨z.2.1, z.2.2.1⟩; exact absurd z.1 c20
    obtain ⟨r22, ghq23⟩ : ∃ z9 : Int32, z9 = G_in S w 0 4 := ⟨_, rfl⟩
    have hq23 := (p_in S w 0 4   r22 ghq23).2
    replace hG := gLt_e hG ghq23
    rcases (Classical.em ((r22 : Int32) = 0)).symm with c24 | c24
    · replace hG := gIf_n hG c24
      obtain ⟨x25, ex25⟩ : ∃ z9 : Int32, z9 = (gA S 28 b) := ⟨_, rfl⟩
      replace hG := gLt_e hG ex25
      rcases (Classical.em ((w : Int32) = 2)).symm with c26 | c26
      · replace hG := gIf_n hG c26
        exact pj_sync_54 S b w h1 x25  rZ SZ (by clear hG hZ; first | exact hb9 | exact hj54 | exact hj64) hZ hG
      · replace hG := gIf_p hG c26
        rcases Classical.em ((x25 : Int32) = 1) with c27 | c27
        · replace hG := gIf_p hG c27
          exact pj_sync_54 S b w h1 x25  rZ SZ (by clear hG hZ; first | exact hb9 | exact hj54 | exact hj64) hZ hG
        · replace hG := gIf_n hG c27
          rcases (Classical.em ((x25 : Int32) = 8)).symm with c28 | c28
          · replace hG := gIf_n hG c28
            exact pj_sync_74 S b w h1   rZ SZ (trivial) hZ hG
          · replace hG := gIf_p hG c28
            exact pj_sync_54 S b w h1 x25  rZ SZ (by clear hG hZ; first | exact hb9 | exact hj54 | exact hj64) hZ hG
    · replace hG := gIf_p hG c24
      obtain ⟨r30, S29, ghq31⟩ : ∃ (z : Int32) (y : mS), (z, y) = G_refuse S 2 := ⟨_, _, rfl⟩
      have hq31 := p_refuse S 2   r30 S29 ghq31
      replace hG := gC_e hG ghq31
      exact gE2 (P := (fun (r9 : Int64) (S9 : mS) => mInv S9 ∧ gI S9 2 = gI S 2)) hZ hG (pb_I h1 hq31.2 (by clear hG hZ; decide) (by clear hG hZ; decide))
  · replace hG := gIf_p hG c20
    obtain ⟨r33, S32, ghq34⟩ : ∃ (z : Int32) (y : mS), (z, y) = G_refuse S 1 := ⟨_, _, rfl⟩
    have hq34 := p_refuse S 1   r33 S32 ghq34
    replace hG := gC_e hG ghq34
    exact gE2 (P := (fun (r9 : Int64) (S9 : mS) => mInv S9 ∧ gI S9 2 = gI S 2)) hZ hG (pb_I h1 hq34.2 (by clear hG hZ; decide) (by clear hG hZ; decide))
set_option maxHeartbeats 400000 in
set_option maxRecDepth 100000 in
theorem pj_count_27 (S : mS) (w : Int32)  (h1 : mInv S)   (rZ : Int64) (SZ : mS) (hj27 : (0 ≤ w ∧ w ≤ 4) ∨ (0 ≤ w - 10 ∧ w - 10 < 24)) (hZ : (rZ, SZ) = G_count S w) (hG : G_count S w = G_count_J27 S w ) : (fun (r9 : Int64) (S9 : mS) => mInv S9 ∧ gI S9 2 = gI S 2) rZ SZ := by
  rw [G_count_J27] at hG
  obtain ⟨S1, eS1⟩ : ∃ z9 : mS, z9 = sI S 0 0 := ⟨_, rfl⟩
  replace hG := gLt_e hG eS1
  have p1 := pb_I h1 eS1 (by decide) (by decide)
  rcases (Classical.em ((w : Int32) = 0)).symm with c2 | c2
  · replace hG := gIf_n hG c2
    rcases (Classical.em ((w : Int32) = 1)).symm with c3 | c3
    · replace hG := gIf_n hG c3
      rcases (Classical.em ((w : Int32) = 2)).symm with c4 | c4
      · replace hG := gIf_n hG c4
        rcases (Classical.em ((w : Int32) = 3)).symm with c5 | c5
        · replace hG := gIf_n hG c5
          rcases (Classical.em ((w : Int32) = 4)).symm with c6 | c6
          · replace hG := gIf_n hG c6
            have w9 : 0 ≤ w - 10 ∧ w - 10 < 24 := by rcases hj27 with q | q; exact absurd (a_c5 q c2 c3 c4 c5 c6) id; exact q
            exact gE2 (P := (fun (r9 : Int64) (S9 : mS) => mInv S9 ∧ gI S9 2 = gI S 2)) hZ hG (p1)
          · replace hG := gIf_p hG c6
            exact gE2 (P := (fun (r9 : Int64) (S9 : mS) => mInv S9 ∧ gI S9 2 = gI S 2)) hZ hG (p1)
        · replace hG := gIf_p hG c5
          exact gE2 (P := (fun (r9 : Int64) (S9 : mS) => mInv S9 ∧ gI S9 2 = gI S 2)) hZ hG (p1)
      · replace hG := gIf_p hG c4
        exact gE2 (P := (fun (r9 : Int64) (S9 : mS) => mInv S9 ∧ gI S9 2 = gI S 2)) hZ hG (p1)
    · replace hG := gIf_p hG c3
      obtain ⟨r8, ghq9⟩ : ∃ z9 : Int32, z9 = G_objects S1  := ⟨_, rfl⟩
      have hq9 := (p_objects S1    r8 ghq9).2
      replace hG := gLt_e hG ghq9
      exact gE2 (P := (fun (r9 : Int64) (S9 : mS) => mInv S9 ∧ gI S9 2 = gI S 2)) hZ hG (p1)
  · replace hG := gIf_p hG c2
    exact gE2 (P := (fun (r9 : Int64) (S9 : mS) => mInv S9 ∧ gI S9 2 = gI S 2)) hZ hG (p1)
set_option maxHeartbeats 400000 in
set_option maxRecDepth 100000 in
theorem p_count (S : mS) (w : Int32)  (h1 : mInv S) (rZ : Int64) (SZ : mS) (hZ : (rZ, SZ) = G_count S w) : (fun (r9 : Int64) (S9 : mS) => mInv S9 ∧ gI S9 2 = gI S 2) rZ SZ := by
  have hG := G_count.eq_1 S w
  obtain ⟨r11, ghq12⟩ : ∃ z9 : Int32, z9 = G_in S w 0 4 := ⟨_, rfl⟩
  have hq12 := (p_in S w 0 4   r11 ghq12).2
  replace hG := gLt_e hG ghq12
  rcases (Classical.em ((r11 : Int32) = 0)).symm with c13 | c13
  · replace hG := gIf_n hG c13
    exact pj_count_27 S w h1   rZ SZ (by clear hG hZ; first | exact Or.inl (in_y hq12 c13) | exact Or.inr (a_cnt nope9 nope9)) hZ hG
  · replace hG := gIf_p hG c13
    obtain ⟨r15, ghq16⟩ : ∃ z9 : Int32, z9 = G_in S w 10 33 := ⟨_, rfl⟩
    have hq16 := (p_in S w 10 33   r15 ghq16).2
    replace hG := gLt_e hG ghq16
    rcases (Classical.em ((r15 : Int32) = 0)).symm with c17 | c17
    · replace hG := gIf_n hG c17
      exact pj_count_27 S w h1   rZ SZ (by clear hG hZ; first | exact Or.inl (in_y hq12 c13) | exact Or.inr (a_cnt hq16 c17)) hZ hG
    · replace hG := gIf_p hG c17
      obtain ⟨r19, S18, ghq20⟩ : ∃ (z : Int32) (y : mS), (z, y) = G_refuse S 1 := ⟨_, _, rfl⟩
      have hq20 := p_refuse S 1   r19 S18 ghq20
      replace hG := gC_e hG ghq20
      exact gE2 (P := (fun (r9 : Int64) (S9 : mS) => mInv S9 ∧ gI S9 2 = gI S 2)) hZ hG (pb_I h1 hq20.2 (by clear hG hZ; decide) (by clear hG hZ; decide))
set_option maxHeartbeats 400000 in
set_option maxRecDepth 100000 in
theorem p_thread (S : mS)   (h1 : mInv S) (rZ : Int32) (SZ : mS) (hZ : (rZ, SZ) = G_thread S ) : (fun (r9 : Int32) (S9 : mS) => mInv S9 ∧ gI S9 2 = 0) rZ SZ := by
  have hG := G_thread.eq_1 S 
  obtain ⟨S1, ghq3⟩ : ∃ z9 : mS, z9 = G_read S  := ⟨_, rfl⟩
  have hq3 := p_read S   (⟨h1.1.1, h1.1.2.1⟩) S1 ghq3
  replace hG := gLt_e hG ghq3
  have m1 := th_r h1 hq3
  have g1 : gI S1 2 = 0 := hq3.1
  obtain ⟨S4, eS4⟩ : ∃ z9 : mS, z9 = sI S1 3 (gI S1 10) := ⟨_, rfl⟩
  replace hG := gLt_e hG eS4
  have p2 := pb_I m1 eS4 (by decide) (by decide)
  have g2 : gI S4 2 = 0 := p2.2.trans g1
  rcases Classical.em (((gI S4 10) : Int32) < 0) with c5 | c5
  · replace hG := gIf_p hG c5
    have pl : 1 ≤ gI S4 6 ∧ gI S4 6 ≤ 60 := by rw [eS4]; exact ⟨hq3.2.2.2.2.2.2.2.2.1 (by have z9 := c5; rw [eS4] at z9; exact z9), hq3.2.2.2.2.2.2.2.1⟩
    have po : (∀ k, 0 ≤ k → k < gI S4 6 → 2 ≤ gA S4 5 (4 * k) → gA S4 5 (4 * k) ≤ 4 → 0 ≤ gA S4 5 (4 * k + 1)) := by rw [eS4]; exact hq3.2.2.2.2.2.2.2.2.2.1
    obtain ⟨x6, ex6⟩ : ∃ z9 : Int32, z9 = 0 := ⟨_, rfl⟩
    replace hG := gLt_e hG ex6
    have loop27 : ∀ (N27 : Nat) (v27_1 : Int32) , (0 ≤ v27_1 ∧ v27_1 ≤ 8) → ((8 - v27_1).toInt.toNat) < N27 → (G_thread S  = G_thread_L27 S4 N27 v27_1) → (fun (r9 : Int32) (S9 : mS) => mInv S9 ∧ gI S9 2 = 0) rZ SZ := by
      intro N27
      induction N27 with
      | zero => intro v27_1  hi27 hm27; exact absurd hm27 (Nat.not_lt_zero _)
      | succ N27 ih27 =>
        intro v27_1  hi27 hm27 hG
        rw [G_thread_L27] at hG
        rcases Classical.em (8 ≤ (v27_1 : Int32)) with c7 | c7
        · replace hG := gIf_p hG c7
          rcases (Classical.em ((v27_1 : Int32) = 8)).symm with c8 | c8
          · replace hG := gIf_n hG c8
            obtain ⟨S9, eS9⟩ : ∃ z9 : mS, z9 = sI S4 0 0 := ⟨_, rfl⟩
            replace hG := gLt_e hG eS9
            have p3 := pb_I p2.1 eS9 (by decide) (by decide)
            have ht : 0 ≤ v27_1 ∧ v27_1 < 8 := a_t8 hi27 c8
            have hv : ¬ (1 ≤ gA S9 13 v27_1 ∧ gA S9 13 v27_1 ≤ 3) := by rw [eS9]; first | exact in_g nope9 nope9 | exact absurd (a_e8 hi27.2 c7) c8
            have p4 : 0 ≤ 4 * gI S9 6 ∧ 4 * gI S9 6 ≤ 240 := by rw [eS9]; exact a_4p ⟨Int32.le_trans (by decide) pl.1, pl.2⟩
            have pl3 : 1 ≤ gI S9 6 ∧ gI S9 6 ≤ 60 := by rw [eS9]; exact pl
            have po3 : (∀ k, 0 ≤ k → k < gI S9 6 → 2 ≤ gA S9 5 (4 * k) → gA S9 5 (4 * k) ≤ 4 → 0 ≤ gA S9 5 (4 * k + 1)) := by rw [eS9]; exact po
            obtain ⟨x10, ex10⟩ : ∃ z9 : Int32, z9 = 0 := ⟨_, rfl⟩
            replace hG := gLt_e hG ex10
            have loop72 : ∀ (N72 : Nat) (v72_2 : Int32) (SL72 : mS), (cpI S9 SL72 v27_1 v72_2 ∧ 0 ≤ v72_2) → ((4 * gI S9 6 - v72_2).toInt.toNat) < N72 → (G_thread S  = G_thread_L72 v27_1 N72 v72_2 SL72) → (fun (r9 : Int32) (S9 : mS) => mInv S9 ∧ gI S9 2 = 0) rZ SZ := by
              intro N72
              induction N72 with
              | zero => intro v72_2 SL72 hi72 hm72; exact absurd hm72 (Nat.not_lt_zero _)
              | succ N72 ih72 =>
                intro v72_2 SL72 hi72 hm72 hG
                rw [G_thread_L72] at hG
                have k6 := hi72.1.1 6
                rcases Classical.em ((4 * (gI SL72 6)) ≤ (v72_2 : Int32)) with c11 | c11
                · replace hG := gIf_p hG c11
                  obtain ⟨S12, eS12⟩ : ∃ z9 : mS, z9 = sA SL72 12 v27_1 ((gI SL72 6)) := ⟨_, rfl⟩
                  replace hG := gLt_e hG eS12
                  obtain ⟨S13, eS13⟩ : ∃ z9 : mS, z9 = sA S12 13 v27_1 (1) := ⟨_, rfl⟩
                  replace hG := gLt_e hG eS13
                  obtain ⟨S14, eS14⟩ : ∃ z9 : mS, z9 = sA S13 14 v27_1 (0) := ⟨_, rfl⟩
                  replace hG := gLt_e hG eS14
                  obtain ⟨S15, eS15⟩ : ∃ z9 : mS, z9 = sA S14 15 v27_1 (0) := ⟨_, rfl⟩
                  replace hG := gLt_e hG eS15
                  obtain ⟨S16, eS16⟩ : ∃ z9 : mS, z9 = sA S15 16 v27_1 ((-1)) := ⟨_, rfl⟩
                  replace hG := gLt_e hG eS16
                  obtain ⟨S17, eS17⟩ : ∃ z9 : mS, z9 = sA S16 17 v27_1 (0) := ⟨_, rfl⟩
                  replace hG := gLt_e hG eS17
                  obtain ⟨S18, eS18⟩ : ∃ z9 : mS, z9 = sA S17 20 v27_1 (vp_nar .boolean 0) := ⟨_, rfl⟩
                  replace hG := gLt_e hG eS18
                  obtain ⟨S19, eS19⟩ : ∃ z9 : mS, z9 = sA S18 21 v27_1 (vp_nar .boolean 0) := ⟨_, rfl⟩
                  replace hG := gLt_e hG eS19
                  obtain ⟨S20, eS20⟩ : ∃ z9 : mS, z9 = sA S19 22 v27_1 (vp_nar .boolean 0) := ⟨_, rfl⟩
                  replace hG := gLt_e hG eS20
                  exact gE2 (P := (fun (r9 : Int32) (S9 : mS) => mInv S9 ∧ gI S9 2 = 0)) hZ hG (by clear hG hZ ih27 ih72 hm27 hm72; have q9 := th_new p3.1 ht hv pl3 po3 hi72.1 (by have z9 := c11; rw [k6] at z9; exact z9) eS12 eS13 eS14 eS15 eS16 eS17 eS18 eS19 eS20; exact ⟨q9.1, q9.2.trans (p3.2.trans g2)⟩)
                · replace hG := gIf_n hG c11
                  obtain ⟨S21, eS21⟩ : ∃ z9 : mS, z9 = sA SL72 11 ((240 * v27_1) + v72_2) ((gA SL72 5 v72_2)) := ⟨_, rfl⟩
                  replace hG := gLt_e hG eS21
                  obtain ⟨x22, ex22⟩ : ∃ z9 : Int32, z9 = v72_2 + (1) := ⟨_, rfl⟩
                  replace hG := gLt_e hG ex22
                  have lt9 := i_lt c11
                  rw [k6] at lt9
                  exact ih72 x22 S21 (⟨cp_n ht ⟨hi72.2, by have z9 := i_lt c11; rw [k6] at z9; exact z9, p4.2⟩ ex22 hi72.1 eS21, (a_up ex22 hi72.2 (i_lt c11)).1⟩) (msd hm72 (a_dec ex22 hi72.2 lt9).1 (a_dec ex22 hi72.2 lt9).2) hG
            exact loop72 ((4 * gI S9 6 - x10).toInt.toNat + 1) x10 S9 (⟨⟨fun _ => rfl, fun _ _ _ => rfl, fun _ _ => rfl, fun q9 z0 z1 => by rw [ex10] at z1; exact absurd (Int32.lt_of_le_of_lt z0 z1) (by clear hG hZ ih27 hm27; decide)⟩, by rw [ex10]; decide⟩) (Nat.lt_succ_self _) hG
          · replace hG := gIf_p hG c8
            obtain ⟨r24, S23, ghq25⟩ : ∃ (z : Int32) (y : mS), (z, y) = G_refuse S4 1 := ⟨_, _, rfl⟩
            have hq25 := p_refuse S4 1   r24 S23 ghq25
            replace hG := gC_e hG ghq25
            exact gE2 (P := (fun (r9 : Int32) (S9 : mS) => mInv S9 ∧ gI S9 2 = 0)) hZ hG (by clear hG hZ ih27 hm27; have q9 := pb_I p2.1 hq25.2 (by decide) (by decide); exact ⟨q9.1, q9.2.trans g2⟩)
        · replace hG := gIf_n hG c7
          obtain ⟨r27, ghq28⟩ : ∃ z9 : Int32, z9 = G_in S4 (gA S4 13 v27_1) 1 3 := ⟨_, rfl⟩
          have hq28 := (p_in S4 (gA S4 13 v27_1) 1 3   r27 ghq28).2
          replace hG := gLt_e hG ghq28
          rcases Classical.em ((r27 : Int32) = 0) with c29 | c29
          · replace hG := gIf_p hG c29
            rcases (Classical.em ((v27_1 : Int32) = 8)).symm with c30 | c30
            · replace hG := gIf_n hG c30
              obtain ⟨S31, eS31⟩ : ∃ z9 : mS, z9 = sI S4 0 0 := ⟨_, rfl⟩
              replace hG := gLt_e hG eS31
              have p3 := pb_I p2.1 eS31 (by decide) (by decide)
              have ht : 0 ≤ v27_1 ∧ v27_1 < 8 := a_t8 hi27 c30
              have hv : ¬ (1 ≤ gA S31 13 v27_1 ∧ gA S31 13 v27_1 ≤ 3) := by rw [eS31]; first | exact in_g hq28 c29 | exact absurd (a_e8 hi27.2 c7) c30
              have p4 : 0 ≤ 4 * gI S31 6 ∧ 4 * gI S31 6 ≤ 240 := by rw [eS31]; exact a_4p ⟨Int32.le_trans (by decide) pl.1, pl.2⟩
              have pl3 : 1 ≤ gI S31 6 ∧ gI S31 6 ≤ 60 := by rw [eS31]; exact pl
              have po3 : (∀ k, 0 ≤ k → k < gI S31 6 → 2 ≤ gA S31 5 (4 * k) → gA S31 5 (4 * k) ≤ 4 → 0 ≤ gA S31 5 (4 * k + 1)) := by rw [eS31]; exact po
              obtain ⟨x32, ex32⟩ : ∃ z9 : Int32, z9 = 0 := ⟨_, rfl⟩
              replace hG := gLt_e hG ex32
              have loop72 : ∀ (N72 : Nat) (v72_2 : Int32) (SL72 : mS), (cpI S31 SL72 v27_1 v72_2 ∧ 0 ≤ v72_2) → ((4 * gI S31 6 - v72_2).toInt.toNat) < N72 → (G_thread S  = G_thread_L72 v27_1 N72 v72_2 SL72) → (fun (r9 : Int32) (S9 : mS) => mInv S9 ∧ gI S9 2 = 0) rZ SZ := by
                intro N72
                induction N72 with
                | zero => intro v72_2 SL72 hi72 hm72; exact absurd hm72 (Nat.not_lt_zero _)
                | succ N72 ih72 =>
                  intro v72_2 SL72 hi72 hm72 hG
                  rw [G_thread_L72] at hG
                  have k6 := hi72.1.1 6
                  rcases Classical.em ((4 * (gI SL72 6)) ≤ (v72_2 : Int32)) with c33 | c33
                  · replace hG := gIf_p hG c33
                    obtain ⟨S34, eS34⟩ : ∃ z9 : mS, z9 = sA SL72 12 v27_1 ((gI SL72 6)) := ⟨_, rfl⟩
                    replace hG := gLt_e hG eS34
                    obtain ⟨S35, eS35⟩ : ∃ z9 : mS, z9 = sA S34 13 v27_1 (1) := ⟨_, rfl⟩
                    replace hG := gLt_e hG eS35
                    obtain ⟨S36, eS36⟩ : ∃ z9 : mS, z9 = sA S35 14 v27_1 (0) := ⟨_, rfl⟩
                    replace hG := gLt_e hG eS36
                    obtain ⟨S37, eS37⟩ : ∃ z9 : mS, z9 = sA S36 15 v27_1 (0) := ⟨_, rfl⟩
                    replace hG := gLt_e hG eS37
                    obtain ⟨S38, eS38⟩ : ∃ z9 : mS, z9 = sA S37 16 v27_1 ((-1)) := ⟨_, rfl⟩
                    replace hG := gLt_e hG eS38
                    obtain ⟨S39, eS39⟩ : ∃ z9 : mS, z9 = sA S38 17 v27_1 (0) := ⟨_, rfl⟩
                    replace hG := gLt_e hG eS39
                    obtain ⟨S40, eS40⟩ : ∃ z9 : mS, z9 = sA S39 20 v27_1 (vp_nar .boolean 0) := ⟨_, rfl⟩
                    replace hG := gLt_e hG eS40
                    obtain ⟨S41, eS41⟩ : ∃ z9 : mS, z9 = sA S40 21 v27_1 (vp_nar .boolean 0) := ⟨_, rfl⟩
                    replace hG := gLt_e hG eS41
                    obtain ⟨S42, eS42⟩ : ∃ z9 : mS, z9 = sA S41 22 v27_1 (vp_nar .boolean 0) := ⟨_, rfl⟩
                    replace hG := gLt_e hG eS42
                    exact gE2 (P := (fun (r9 : Int32) (S9 : mS) => mInv S9 ∧ gI S9 2 = 0)) hZ hG (by clear hG hZ ih27 ih72 hm27 hm72; have q9 := th_new p3.1 ht hv pl3 po3 hi72.1 (by have z9 := c33; rw [k6] at z9; exact z9) eS34 eS35 eS36 eS37 eS38 eS39 eS40 eS41 eS42; exact ⟨q9.1, q9.2.trans (p3.2.trans g2)⟩)
                  · replace hG := gIf_n hG c33
                    obtain ⟨S43, eS43⟩ : ∃ z9 : mS, z9 = sA SL72 11 ((240 * v27_1) + v72_2) ((gA SL72 5 v72_2)) := ⟨_, rfl⟩
                    replace hG := gLt_e hG eS43
                    obtain ⟨x44, ex44⟩ : ∃ z9 : Int32, z9 = v72_2 + (1) := ⟨_, rfl⟩
                    replace hG := gLt_e hG ex44
                    have lt9 := i_lt c33
                    rw [k6] at lt9
                    exact ih72 x44 S43 (⟨cp_n ht ⟨hi72.2, by have z9 := i_lt c33; rw [k6] at z9; exact z9, p4.2⟩ ex44 hi72.1 eS43, (a_up ex44 hi72.2 (i_lt c33)).1⟩) (msd hm72 (a_dec ex44 hi72.2 lt9).1 (a_dec ex44 hi72.2 lt9).2) hG
              exact loop72 ((4 * gI S31 6 - x32).toInt.toNat + 1) x32 S31 (⟨⟨fun _ => rfl, fun _ _ _ => rfl, fun _ _ => rfl, fun q9 z0 z1 => by rw [ex32] at z1; exact absurd (Int32.lt_of_le_of_lt z0 z1) (by clear hG hZ ih27 hm27; decide)⟩, by rw [ex32]; decide⟩) (Nat.lt_succ_self _) hG
            · replace hG := gIf_p hG c30
              obtain ⟨r46, S45, ghq47⟩ : ∃ (z : Int32) (y : mS), (z, y) = G_refuse S4 1 := ⟨_, _, rfl⟩
              have hq47 := p_refuse S4 1   r46 S45 ghq47
              replace hG := gC_e hG ghq47
              exact gE2 (P := (fun (r9 : Int32) (S9 : mS) => mInv S9 ∧ gI S9 2 = 0)) hZ hG (by clear hG hZ ih27 hm27; have q9 := pb_I p2.1 hq47.2 (by decide) (by decide); exact ⟨q9.1, q9.2.trans g2⟩)
          · replace hG := gIf_n hG c29
            obtain ⟨x48, ex48⟩ : ∃ z9 : Int32, z9 = v27_1 + (1) := ⟨_, rfl⟩
            replace hG := gLt_e hG ex48
            exact ih27 x48  (a_up ex48 hi27.1 (i_lt c7)) (msd hm27 (a_dec ex48 hi27.1 (i_lt c7)).1 (a_dec ex48 hi27.1 (i_lt c7)).2) hG
    exact loop27 ((8 - x6).toInt.toNat + 1) x6  (by clear hG hZ; rw [ex6]; decide) (Nat.lt_succ_self _) hG
  · replace hG := gIf_n hG c5
    obtain ⟨r50, S49, ghq51⟩ : ∃ (z : Int32) (y : mS), (z, y) = G_refuse S4 2 := ⟨_, _, rfl⟩
    have hq51 := p_refuse S4 2   r50 S49 ghq51
    replace hG := gC_e hG ghq51
    exact gE2 (P := (fun (r9 : Int32) (S9 : mS) => mInv S9 ∧ gI S9 2 = 0)) hZ hG (by clear hG hZ; have q9 := pb_I p2.1 hq51.2 (by decide) (by decide); exact ⟨q9.1, q9.2.trans g2⟩)

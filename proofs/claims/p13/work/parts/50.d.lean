set_option maxHeartbeats 400000 in
set_option maxRecDepth 100000 in
theorem pj_atCell_129 (S : mS) (t : Int32) (q : Int32) (b : Int32)  (h1 : fre S t) (h2 : 0 ≤ b ∧ b < 24) (h3 : mInv S) (h4 : gA S 28 b ≠ 5) (j129_s2 : Int32) (SJ129 : mS) (rZ : Int32) (SZ : mS) (hj129 : stp S SJ129) (hZ : (rZ, SZ) = G_atCell S t q b) (hG : G_atCell S t q b = G_atCell_J129 t j129_s2 SJ129) : (fun (r9 : Int32) (S9 : mS) => pas S S9 t r9) rZ SZ := by
  rw [G_atCell_J129] at hG
  have w1 := hj129
  obtain ⟨S2, eS2⟩ : ∃ z : mS, z = sA SJ129 14 t (j129_s2) := ⟨_, rfl⟩
  replace hG := gLt_e hG eS2
  have w3 := st_irr w1 eS2 (by simp [smK])
  exact gE2 (P := (fun (r9 : Int32) (S9 : mS) => pas S S9 t r9)) hZ hG (pas_1 h1 w3)
set_option maxHeartbeats 400000 in
set_option maxRecDepth 100000 in
theorem pj_atCell_114 (S : mS) (t : Int32) (q : Int32) (b : Int32)  (h1 : fre S t) (h2 : 0 ≤ b ∧ b < 24) (h3 : mInv S) (h4 : gA S 28 b ≠ 5) (j114_4 : Int32) (SJ114 : mS) (rZ : Int32) (SZ : mS) (hj114 : stp S SJ114) (hZ : (rZ, SZ) = G_atCell S t q b) (hG : G_atCell S t q b = G_atCell_J114 t j114_4 SJ114) : (fun (r9 : Int32) (S9 : mS) => pas S S9 t r9) rZ SZ := by
  rw [G_atCell_J114] at hG
  have w4 := hj114
  rcases Classical.em ((j114_4 : Int32) = 0) with c5 | c5
  · replace hG := gIf_p hG c5
    exact pj_atCell_129 S t q b h1 h2 h3 h4 0 SJ114 rZ SZ (w4) hZ hG
  · replace hG := gIf_n hG c5
    exact pj_atCell_129 S t q b h1 h2 h3 h4 1 SJ114 rZ SZ (w4) hZ hG
set_option maxHeartbeats 400000 in
set_option maxRecDepth 100000 in
theorem pj_atCell_95 (S : mS) (t : Int32) (q : Int32) (b : Int32)  (h1 : fre S t) (h2 : 0 ≤ b ∧ b < 24) (h3 : mInv S) (h4 : gA S 28 b ≠ 5) (j95_s0 : Int32) (SJ95 : mS) (rZ : Int32) (SZ : mS) (hj95 : stp S SJ95) (hZ : (rZ, SZ) = G_atCell S t q b) (hG : G_atCell S t q b = G_atCell_J95 t b j95_s0 SJ95) : (fun (r9 : Int32) (S9 : mS) => pas S S9 t r9) rZ SZ := by
  rw [G_atCell_J95] at hG
  have w6 := hj95
  rcases Classical.em ((j95_s0 : Int32) = 0) with c7 | c7
  · replace hG := gIf_p hG c7
    exact pj_atCell_114 S t q b h1 h2 h3 h4 j95_s0 SJ95 rZ SZ (w6) hZ hG
  · replace hG := gIf_n hG c7
    obtain ⟨r9, ghq10⟩ : ∃ z : Int32, z = G_part SJ95 t 3 := ⟨_, rfl⟩
    have hq10 := (p_part SJ95 t 3  (h1.1) (at60 h1 w6) (by clear hG hZ; decide) r9 ghq10).2
    replace hG := gLt_e hG ghq10
    obtain ⟨S11, eS11⟩ : ∃ z : mS, z = sA SJ95 29 b (r9) := ⟨_, rfl⟩
    replace hG := gLt_e hG eS11
    have w12 := st_first w6 h4 h2 eS11
    exact pj_atCell_114 S t q b h1 h2 h3 h4 j95_s0 S11 rZ SZ (w12) hZ hG
set_option maxHeartbeats 400000 in
set_option maxRecDepth 100000 in
theorem pj_atCell_69 (S : mS) (t : Int32) (q : Int32) (b : Int32)  (h1 : fre S t) (h2 : 0 ≤ b ∧ b < 24) (h3 : mInv S) (h4 : gA S 28 b ≠ 5)  (SJ69 : mS) (rZ : Int32) (SZ : mS) (hj69 : stp S SJ69) (hZ : (rZ, SZ) = G_atCell S t q b) (hG : G_atCell S t q b = G_atCell_J69 t q b  SJ69) : (fun (r9 : Int32) (S9 : mS) => pas S S9 t r9) rZ SZ := by
  rw [G_atCell_J69] at hG
  have w13 := hj69
  rcases (Classical.em ((q : Int32) = 16)).symm with c14 | c14
  · replace hG := gIf_n hG c14
    exact gE2 (P := (fun (r9 : Int32) (S9 : mS) => pas S S9 t r9)) hZ hG (pas_1 h1 w13)
  · replace hG := gIf_p hG c14
    obtain ⟨r16, ghq17⟩ : ∃ z : Int32, z = G_part SJ69 t 2 := ⟨_, rfl⟩
    have hq17 := (p_part SJ69 t 2  (h1.1) (at60 h1 w13) (by clear hG hZ; decide) r16 ghq17).2
    replace hG := gLt_e hG ghq17
    rcases (Classical.em (((gA SJ69 29 b) : Int32) = r16)).symm with c18 | c18
    · replace hG := gIf_n hG c18
      exact pj_atCell_95 S t q b h1 h2 h3 h4 0 SJ69 rZ SZ (w13) hZ hG
    · replace hG := gIf_p hG c18
      exact pj_atCell_95 S t q b h1 h2 h3 h4 1 SJ69 rZ SZ (w13) hZ hG
set_option maxHeartbeats 400000 in
set_option maxRecDepth 100000 in
theorem pj_atCell_36 (S : mS) (t : Int32) (q : Int32) (b : Int32)  (h1 : fre S t) (h2 : 0 ≤ b ∧ b < 24) (h3 : mInv S) (h4 : gA S 28 b ≠ 5)  (SJ36 : mS) (rZ : Int32) (SZ : mS) (hj36 : stp S SJ36) (hZ : (rZ, SZ) = G_atCell S t q b) (hG : G_atCell S t q b = G_atCell_J36 t q b  SJ36) : (fun (r9 : Int32) (S9 : mS) => pas S S9 t r9) rZ SZ := by
  rw [G_atCell_J36] at hG
  have w19 := hj36
  rcases (Classical.em ((q : Int32) = 15)).symm with c20 | c20
  · replace hG := gIf_n hG c20
    exact pj_atCell_69 S t q b h1 h2 h3 h4  SJ36 rZ SZ (w19) hZ hG
  · replace hG := gIf_p hG c20
    obtain ⟨r22, ghq23⟩ : ∃ z : Int32, z = G_part SJ36 t 2 := ⟨_, rfl⟩
    have hq23 := (p_part SJ36 t 2  (h1.1) (at60 h1 w19) (by clear hG hZ; decide) r22 ghq23).2
    replace hG := gLt_e hG ghq23
    obtain ⟨S24, eS24⟩ : ∃ z : mS, z = sA SJ36 29 b (((gA SJ36 29 b) + r22)) := ⟨_, rfl⟩
    replace hG := gLt_e hG eS24
    have w25 := st_first w19 h4 h2 eS24
    obtain ⟨S26, eS26⟩ : ∃ z : mS, z = sA S24 14 t ((gA S24 29 b)) := ⟨_, rfl⟩
    replace hG := gLt_e hG eS26
    have w27 := st_irr w25 eS26 (by simp [smK])
    exact pj_atCell_69 S t q b h1 h2 h3 h4  S26 rZ SZ (w27) hZ hG
set_option maxHeartbeats 400000 in
set_option maxRecDepth 100000 in
theorem pj_atCell_18 (S : mS) (t : Int32) (q : Int32) (b : Int32)  (h1 : fre S t) (h2 : 0 ≤ b ∧ b < 24) (h3 : mInv S) (h4 : gA S 28 b ≠ 5)  (SJ18 : mS) (rZ : Int32) (SZ : mS) (hj18 : stp S SJ18) (hZ : (rZ, SZ) = G_atCell S t q b) (hG : G_atCell S t q b = G_atCell_J18 t q b  SJ18) : (fun (r9 : Int32) (S9 : mS) => pas S S9 t r9) rZ SZ := by
  rw [G_atCell_J18] at hG
  have w28 := hj18
  rcases (Classical.em ((q : Int32) = 14)).symm with c29 | c29
  · replace hG := gIf_n hG c29
    exact pj_atCell_36 S t q b h1 h2 h3 h4  SJ18 rZ SZ (w28) hZ hG
  · replace hG := gIf_p hG c29
    obtain ⟨S30, eS30⟩ : ∃ z : mS, z = sA SJ18 29 b ((gA SJ18 14 t)) := ⟨_, rfl⟩
    replace hG := gLt_e hG eS30
    have w31 := st_first w28 h4 h2 eS30
    exact pj_atCell_36 S t q b h1 h2 h3 h4  S30 rZ SZ (w31) hZ hG
set_option maxHeartbeats 400000 in
set_option maxRecDepth 100000 in
theorem p_atCell (S : mS) (t : Int32) (q : Int32) (b : Int32)  (h1 : fre S t) (h2 : 0 ≤ b ∧ b < 24) (h3 : mInv S) (h4 : gA S 28 b ≠ 5) (rZ : Int32) (SZ : mS) (hZ : (rZ, SZ) = G_atCell S t q b) : (fun (r9 : Int32) (S9 : mS) => pas S S9 t r9) rZ SZ := by
  have hG := G_atCell.eq_1 S t q b
  have w0 : stp S S := stp_rf h3
  rcases (Classical.em ((q : Int32) = 13)).symm with c32 | c32
  · replace hG := gIf_n hG c32
    exact pj_atCell_18 S t q b h1 h2 h3 h4  S rZ SZ (w0) hZ hG
  · replace hG := gIf_p hG c32
    obtain ⟨S33, eS33⟩ : ∃ z : mS, z = sA S 14 t ((gA S 29 b)) := ⟨_, rfl⟩
    replace hG := gLt_e hG eS33
    have w34 := st_irr w0 eS33 (by simp [smK])
    exact pj_atCell_18 S t q b h1 h2 h3 h4  S33 rZ SZ (w34) hZ hG
set_option maxHeartbeats 400000 in
set_option maxRecDepth 100000 in
theorem p_opened (S : mS) (b : Int32)  (h2 : 0 ≤ b ∧ b < 24) (h3 : mInv S) (h4 : gA S 28 b ≠ 5) (SZ : mS) (hZ : SZ = G_opened S b) : (fun S9 : mS => stp S S9) SZ := by
  have hG := G_opened.eq_1 S b
  have w0 : stp S S := stp_rf h3
  rcases Classical.em (((gA S 33 b) : Int32) ≤ 0) with c1 | c1
  · replace hG := gIf_p hG c1
    have loop40 : ∀ (N40 : Nat)  (SL40 : mS), (stp S SL40) → ((gA SL40 33 b).toInt.toNat) < N40 → (G_opened S b = G_opened_L40 b N40  SL40) → (fun S9 : mS => stp S S9) SZ := by
      intro N40
      induction N40 with
      | zero => intro  SL40 hi40 hm40; exact absurd hm40 (Nat.not_lt_zero _)
      | succ N40 ih40 =>
        intro  SL40 hi40 hm40 hG
        rw [G_opened_L40] at hG
        have w2 := hi40
        rcases Classical.em (((gA SL40 33 b) : Int32) ≤ 0) with c3 | c3
        · replace hG := gIf_p hG c3
          exact gE1 (P := (fun S9 : mS => stp S S9)) hZ hG (w2)
        · replace hG := gIf_n hG c3
          obtain ⟨r5, ghq6⟩ : ∃ z : Int32, z = G_part SL40 (gA SL40 32 (8 * b)) 0 := ⟨_, rfl⟩
          have hq6 := (p_part SL40 (gA SL40 32 (8 * b)) 0  ((row0 h2 w2.1 (i_gt c3)).1) ((row0 h2 w2.1 (i_gt c3)).2) (by clear hG hZ ih40 hm40; decide) r5 ghq6).2
          replace hG := gLt_e hG ghq6
          rcases (Classical.em ((r5 : Int32) = 29)).symm with c7 | c7
          · replace hG := gIf_n hG c7
            exact gE1 (P := (fun S9 : mS => stp S S9)) hZ hG (w2)
          · replace hG := gIf_p hG c7
            obtain ⟨r9, S8, ghq10⟩ : ∃ (z : Int32) (y : mS), (z, y) = G_firstGoesOn SL40 b := ⟨_, _, rfl⟩
            have hq10 := p_firstGoesOn SL40 b  (h2) (w2.1) ((i_gt c3)) r9 S8 ghq10
            replace hG := gC_e hG ghq10
            have w11 := stp_tr w2 hq10.1
            obtain ⟨S12, eS12⟩ : ∃ z : mS, z = sA S8 29 b (((gA S8 29 b) + 1)) := ⟨_, rfl⟩
            replace hG := gLt_e hG eS12
            have w13 := st_first w11 h4 h2 eS12
            exact ih40  S12 (w13) (msd hm40 (by clear hG hZ ih40 hm40; rw [eS12]; simp only [gA_sA, if_neg (show ¬ (33 = 29) by decide)]; exact hq10.2.2.2.1.1) (by clear hG hZ ih40 hm40; rw [eS12]; simp only [gA_sA, if_neg (show ¬ (33 = 29) by decide)]; exact hq10.2.2.2.1.2)) hG
    exact loop40 ((gA S 33 b).toInt.toNat + 1)  S (w0) (Nat.lt_succ_self _) hG
  · replace hG := gIf_n hG c1
    obtain ⟨r15, ghq16⟩ : ∃ z : Int32, z = G_part S (gA S 32 (8 * b)) 0 := ⟨_, rfl⟩
    have hq16 := (p_part S (gA S 32 (8 * b)) 0  ((row0 h2 w0.1 (i_gt c1)).1) ((row0 h2 w0.1 (i_gt c1)).2) (by clear hG hZ; decide) r15 ghq16).2
    replace hG := gLt_e hG ghq16
    rcases (Classical.em ((r15 : Int32) = 31)).symm with c17 | c17
    · replace hG := gIf_n hG c17
      have loop40 : ∀ (N40 : Nat)  (SL40 : mS), (stp S SL40) → ((gA SL40 33 b).toInt.toNat) < N40 → (G_opened S b = G_opened_L40 b N40  SL40) → (fun S9 : mS => stp S S9) SZ := by
        intro N40
        induction N40 with
        | zero => intro  SL40 hi40 hm40; exact absurd hm40 (Nat.not_lt_zero _)
        | succ N40 ih40 =>
          intro  SL40 hi40 hm40 hG
          rw [G_opened_L40] at hG
          have w18 := hi40
          rcases Classical.em (((gA SL40 33 b) : Int32) ≤ 0) with c19 | c19
          · replace hG := gIf_p hG c19
            exact gE1 (P := (fun S9 : mS => stp S S9)) hZ hG (w18)
          · replace hG := gIf_n hG c19
            obtain ⟨r21, ghq22⟩ : ∃ z : Int32, z = G_part SL40 (gA SL40 32 (8 * b)) 0 := ⟨_, rfl⟩
            have hq22 := (p_part SL40 (gA SL40 32 (8 * b)) 0  ((row0 h2 w18.1 (i_gt c19)).1) ((row0 h2 w18.1 (i_gt c19)).2) (by clear hG hZ ih40 hm40; decide) r21 ghq22).2
            replace hG := gLt_e hG ghq22
            rcases (Classical.em ((r21 : Int32) = 29)).symm with c23 | c23
            · replace hG := gIf_n hG c23
              exact gE1 (P := (fun S9 : mS => stp S S9)) hZ hG (w18)
            · replace hG := gIf_p hG c23
              obtain ⟨r25, S24, ghq26⟩ : ∃ (z : Int32) (y : mS), (z, y) = G_firstGoesOn SL40 b := ⟨_, _, rfl⟩
              have hq26 := p_firstGoesOn SL40 b  (h2) (w18.1) ((i_gt c19)) r25 S24 ghq26
              replace hG := gC_e hG ghq26
              have w27 := stp_tr w18 hq26.1
              obtain ⟨S28, eS28⟩ : ∃ z : mS, z = sA S24 29 b (((gA S24 29 b) + 1)) := ⟨_, rfl⟩
              replace hG := gLt_e hG eS28
              have w29 := st_first w27 h4 h2 eS28
              exact ih40  S28 (w29) (msd hm40 (by clear hG hZ ih40 hm40; rw [eS28]; simp only [gA_sA, if_neg (show ¬ (33 = 29) by decide)]; exact hq26.2.2.2.1.1) (by clear hG hZ ih40 hm40; rw [eS28]; simp only [gA_sA, if_neg (show ¬ (33 = 29) by decide)]; exact hq26.2.2.2.1.2)) hG
      exact loop40 ((gA S 33 b).toInt.toNat + 1)  S (w0) (Nat.lt_succ_self _) hG
    · replace hG := gIf_p hG c17
      obtain ⟨r31, S30, ghq32⟩ : ∃ (z : Int32) (y : mS), (z, y) = G_firstGoesOn S b := ⟨_, _, rfl⟩
      have hq32 := p_firstGoesOn S b  (h2) (w0.1) ((i_gt c1)) r31 S30 ghq32
      replace hG := gC_e hG ghq32
      have w33 := stp_tr w0 hq32.1
      obtain ⟨S34, eS34⟩ : ∃ z : mS, z = sA S30 31 b (r31) := ⟨_, rfl⟩
      replace hG := gLt_e hG eS34
      have w35 := st_owner w33 h2 eS34 (own8 hq32.2.2.1)
      exact gE1 (P := (fun S9 : mS => stp S S9)) hZ hG (w35)
set_option maxHeartbeats 400000 in
set_option maxRecDepth 100000 in
theorem pj_atGate_163 (S : mS) (t : Int32) (q : Int32) (b : Int32)  (h1 : fre S t) (h2 : 0 ≤ b ∧ b < 24) (h3 : mInv S) (h4 : gA S 28 b ≠ 5)  (SJ163 : mS) (rZ : Int32) (SZ : mS) (hj163 : stp S SJ163) (hZ : (rZ, SZ) = G_atGate S t q b) (hG : G_atGate S t q b = G_atGate_J163   SJ163) : (fun (r9 : Int32) (S9 : mS) => pas S S9 t r9) rZ SZ := by
  rw [G_atGate_J163] at hG
  have w1 := hj163
  exact gE2 (P := (fun (r9 : Int32) (S9 : mS) => pas S S9 t r9)) hZ hG (pas_1 h1 w1)
set_option maxHeartbeats 400000 in
set_option maxRecDepth 100000 in
theorem pj_atGate_117 (S : mS) (t : Int32) (q : Int32) (b : Int32)  (h1 : fre S t) (h2 : 0 ≤ b ∧ b < 24) (h3 : mInv S) (h4 : gA S 28 b ≠ 5)  (SJ117 : mS) (rZ : Int32) (SZ : mS) (hj117 : stp S SJ117) (hZ : (rZ, SZ) = G_atGate S t q b) (hG : G_atGate S t q b = G_atGate_J117 t b  SJ117) : (fun (r9 : Int32) (S9 : mS) => pas S S9 t r9) rZ SZ := by
  rw [G_atGate_J117] at hG
  have w2 := hj117
  obtain ⟨r4, S3, ghq5⟩ : ∃ (z : Int32) (y : mS), (z, y) = G_passes SJ117 t b := ⟨_, _, rfl⟩
  have hq5 := p_passes SJ117 t b  (fre_stp h1 w2) (h2) (w2.1) r4 S3 ghq5
  replace hG := gC_e hG ghq5
  exact gE2 (P := (fun (r9 : Int32) (S9 : mS) => pas S S9 t r9)) hZ hG (pas_tr h1 hj117 hq5)
set_option maxHeartbeats 400000 in
set_option maxRecDepth 100000 in
theorem pj_atGate_24 (S : mS) (t : Int32) (q : Int32) (b : Int32)  (h1 : fre S t) (h2 : 0 ≤ b ∧ b < 24) (h3 : mInv S) (h4 : gA S 28 b ≠ 5)  (SJ24 : mS) (rZ : Int32) (SZ : mS) (hj24 : stp S SJ24) (hZ : (rZ, SZ) = G_atGate S t q b) (hG : G_atGate S t q b = G_atGate_J24 t b  SJ24) : (fun (r9 : Int32) (S9 : mS) => pas S S9 t r9) rZ SZ := by
  rw [G_atGate_J24] at hG
  have w6 := hj24
  obtain ⟨r8, S7, ghq9⟩ : ∃ (z : Int32) (y : mS), (z, y) = G_passes SJ24 t b := ⟨_, _, rfl⟩
  have hq9 := p_passes SJ24 t b  (fre_stp h1 w6) (h2) (w6.1) r8 S7 ghq9
  replace hG := gC_e hG ghq9
  exact gE2 (P := (fun (r9 : Int32) (S9 : mS) => pas S S9 t r9)) hZ hG (pas_tr h1 hj24 hq9)
set_option maxHeartbeats 400000 in
set_option maxRecDepth 100000 in
theorem p_atGate (S : mS) (t : Int32) (q : Int32) (b : Int32)  (h1 : fre S t) (h2 : 0 ≤ b ∧ b < 24) (h3 : mInv S) (h4 : gA S 28 b ≠ 5) (rZ : Int32) (SZ : mS) (hZ : (rZ, SZ) = G_atGate S t q b) : (fun (r9 : Int32) (S9 : mS) => pas S S9 t r9) rZ SZ := by
  have hG := G_atGate.eq_1 S t q b
  have w0 : stp S S := stp_rf h3
  rcases (Classical.em ((q : Int32) = 29)).symm with c10 | c10
  · replace hG := gIf_n hG c10
    rcases (Classical.em ((q : Int32) = 30)).symm with c11 | c11
    · replace hG := gIf_n hG c11
      rcases (Classical.em ((q : Int32) = 31)).symm with c12 | c12
      · replace hG := gIf_n hG c12
        rcases Classical.em (((gA S 31 b) : Int32) = t) with c13 | c13
        · replace hG := gIf_p hG c13
          obtain ⟨S14, eS14⟩ : ∃ z : mS, z = sA S 31 b ((-1)) := ⟨_, rfl⟩
          replace hG := gLt_e hG eS14
          have w15 := st_owner w0 h2 eS14 (by decide)
          obtain ⟨S16, ghq18⟩ : ∃ z : mS, z = G_opened S14 b := ⟨_, rfl⟩
          have hq18 := p_opened S14 b  (h2) (w15.1) (by clear hG hZ; rw [w15.2.2.1 28 b (by simp)]; exact h4) S16 ghq18
          replace hG := gLt_e hG ghq18
          have w19 := stp_tr w15 hq18
          exact pj_atGate_163 S t q b h1 h2 h3 h4  S16 rZ SZ (w19) hZ hG
        · replace hG := gIf_n hG c13
          obtain ⟨r21, S20, ghq22⟩ : ∃ (z : Int32) (y : mS), (z, y) = G_fails S t 1 := ⟨_, _, rfl⟩
          have hq22 := p_fails S t 1  (h1.1) r21 S20 ghq22
          replace hG := gC_e hG ghq22
          exact gE2 (P := (fun (r9 : Int32) (S9 : mS) => pas S S9 t r9)) hZ hG (by clear hG hZ; obtain ⟨q1, q2⟩ := hq22; rw [q1]; exact pas_f h1 w0 q2)
      · replace hG := gIf_p hG c12
        rcases Classical.em (0 ≤ ((gA S 31 b) : Int32)) with c23 | c23
        · replace hG := gIf_p hG c23
          exact pj_atGate_117 S t q b h1 h2 h3 h4  S rZ SZ (w0) hZ hG
        · replace hG := gIf_n hG c23
          rcases Classical.em (((gA S 29 b) : Int32) ≤ 0) with c24 | c24
          · replace hG := gIf_p hG c24
            obtain ⟨S25, eS25⟩ : ∃ z : mS, z = sA S 31 b (t) := ⟨_, rfl⟩
            replace hG := gLt_e hG eS25
            have w26 := st_owner w0 h2 eS25 (own8 h1.1)
            exact pj_atGate_163 S t q b h1 h2 h3 h4  S25 rZ SZ (w26) hZ hG
          · replace hG := gIf_n hG c24
            exact pj_atGate_117 S t q b h1 h2 h3 h4  S rZ SZ (w0) hZ hG
    · replace hG := gIf_p hG c11
      rcases (Classical.em (((gA S 29 b) : Int32) = 0)).symm with c27 | c27
      · replace hG := gIf_n hG c27
        obtain ⟨S28, eS28⟩ : ∃ z : mS, z = sA S 29 b (((gA S 29 b) - 1)) := ⟨_, rfl⟩
        replace hG := gLt_e hG eS28
        have w29 := st_first w0 h4 h2 eS28
        rcases (Classical.em (((gA S28 29 b) : Int32) = 0)).symm with c30 | c30
        · replace hG := gIf_n hG c30
          exact pj_atGate_163 S t q b h1 h2 h3 h4  S28 rZ SZ (w29) hZ hG
        · replace hG := gIf_p hG c30
          obtain ⟨S31, ghq33⟩ : ∃ z : mS, z = G_opened S28 b := ⟨_, rfl⟩
          have hq33 := p_opened S28 b  (h2) (w29.1) (by clear hG hZ; rw [w29.2.2.1 28 b (by simp)]; exact h4) S31 ghq33
          replace hG := gLt_e hG ghq33
          have w34 := stp_tr w29 hq33
          exact pj_atGate_163 S t q b h1 h2 h3 h4  S31 rZ SZ (w34) hZ hG
      · replace hG := gIf_p hG c27
        obtain ⟨r36, S35, ghq37⟩ : ∃ (z : Int32) (y : mS), (z, y) = G_fails S t 3 := ⟨_, _, rfl⟩
        have hq37 := p_fails S t 3  (h1.1) r36 S35 ghq37
        replace hG := gC_e hG ghq37
        exact gE2 (P := (fun (r9 : Int32) (S9 : mS) => pas S S9 t r9)) hZ hG (by clear hG hZ; obtain ⟨q1, q2⟩ := hq37; rw [q1]; exact pas_f h1 w0 q2)
  · replace hG := gIf_p hG c10
    rcases Classical.em (0 ≤ ((gA S 31 b) : Int32)) with c38 | c38
    · replace hG := gIf_p hG c38
      exact pj_atGate_24 S t q b h1 h2 h3 h4  S rZ SZ (w0) hZ hG
    · replace hG := gIf_n hG c38
      rcases Classical.em (((gA S 33 b) : Int32) ≤ 0) with c39 | c39
      · replace hG := gIf_p hG c39
        obtain ⟨S40, eS40⟩ : ∃ z : mS, z = sA S 29 b (((gA S 29 b) + 1)) := ⟨_, rfl⟩
        replace hG := gLt_e hG eS40
        have w41 := st_first w0 h4 h2 eS40
        exact pj_atGate_163 S t q b h1 h2 h3 h4  S40 rZ SZ (w41) hZ hG
      · replace hG := gIf_n hG c39
        exact pj_atGate_24 S t q b h1 h2 h3 h4  S rZ SZ (w0) hZ hG
set_option maxHeartbeats 400000 in
set_option maxRecDepth 100000 in
theorem pj_atSemaphore_177 (S : mS) (t : Int32) (q : Int32) (b : Int32)  (h1 : fre S t) (h2 : 0 ≤ b ∧ b < 24) (h3 : mInv S) (h4 : gA S 28 b ≠ 5)  (SJ177 : mS) (rZ : Int32) (SZ : mS) (hj177 : stp S SJ177) (hZ : (rZ, SZ) = G_atSemaphore S t q b) (hG : G_atSemaphore S t q b = G_atSemaphore_J177   SJ177) : (fun (r9 : Int32) (S9 : mS) => pas S S9 t r9) rZ SZ := by
  rw [G_atSemaphore_J177] at hG
  have w1 := hj177
  exact gE2 (P := (fun (r9 : Int32) (S9 : mS) => pas S S9 t r9)) hZ hG (pas_1 h1 w1)
set_option maxHeartbeats 400000 in
set_option maxRecDepth 100000 in
theorem pj_atSemaphore_160 (S : mS) (t : Int32) (q : Int32) (b : Int32)  (h1 : fre S t) (h2 : 0 ≤ b ∧ b < 24) (h3 : mInv S) (h4 : gA S 28 b ≠ 5) (j160_s2 : Int32) (SJ160 : mS) (rZ : Int32) (SZ : mS) (hj160 : stp S SJ160) (hZ : (rZ, SZ) = G_atSemaphore S t q b) (hG : G_atSemaphore S t q b = G_atSemaphore_J160 t b j160_s2 SJ160) : (fun (r9 : Int32) (S9 : mS) => pas S S9 t r9) rZ SZ := by
  rw [G_atSemaphore_J160] at hG
  have w2 := hj160
  obtain ⟨S3, eS3⟩ : ∃ z : mS, z = sA SJ160 14 t (j160_s2) := ⟨_, rfl⟩
  replace hG := gLt_e hG eS3
  have w4 := st_irr w2 eS3 (by simp [smK])
  rcases Classical.em (((gA S3 29 b) : Int32) ≤ 0) with c5 | c5
  · replace hG := gIf_p hG c5
    exact pj_atSemaphore_177 S t q b h1 h2 h3 h4  S3 rZ SZ (w4) hZ hG
  · replace hG := gIf_n hG c5
    obtain ⟨S6, eS6⟩ : ∃ z : mS, z = sA S3 29 b (0) := ⟨_, rfl⟩
    replace hG := gLt_e hG eS6
    have w7 := st_first w4 h4 h2 eS6
    exact pj_atSemaphore_177 S t q b h1 h2 h3 h4  S6 rZ SZ (w7) hZ hG
set_option maxHeartbeats 400000 in
set_option maxRecDepth 100000 in
theorem pj_atSemaphore_34 (S : mS) (t : Int32) (q : Int32) (b : Int32)  (h1 : fre S t) (h2 : 0 ≤ b ∧ b < 24) (h3 : mInv S) (h4 : gA S 28 b ≠ 5)  (SJ34 : mS) (rZ : Int32) (SZ : mS) (hj34 : stp S SJ34) (hZ : (rZ, SZ) = G_atSemaphore S t q b) (hG : G_atSemaphore S t q b = G_atSemaphore_J34 t b  SJ34) : (fun (r9 : Int32) (S9 : mS) => pas S S9 t r9) rZ SZ := by
  rw [G_atSemaphore_J34] at hG
  have w8 := hj34
  obtain ⟨r10, S9, ghq11⟩ : ∃ (z : Int32) (y : mS), (z, y) = G_passes SJ34 t b := ⟨_, _, rfl⟩
  have hq11 := p_passes SJ34 t b  (fre_stp h1 w8) (h2) (w8.1) r10 S9 ghq11
  replace hG := gC_e hG ghq11
  exact gE2 (P := (fun (r9 : Int32) (S9 : mS) => pas S S9 t r9)) hZ hG (pas_tr h1 hj34 hq11)
set_option maxHeartbeats 400000 in
set_option maxRecDepth 100000 in
theorem p_atSemaphore (S : mS) (t : Int32) (q : Int32) (b : Int32)  (h1 : fre S t) (h2 : 0 ≤ b ∧ b < 24) (h3 : mInv S) (h4 : gA S 28 b ≠ 5) (rZ : Int32) (SZ : mS) (hZ : (rZ, SZ) = G_atSemaphore S t q b) : (fun (r9 : Int32) (S9 : mS) => pas S S9 t r9) rZ SZ := by
  have hG := G_atSemaphore.eq_1 S t q b
  have w0 : stp S S := stp_rf h3
  obtain ⟨r13, ghq14⟩ : ∃ z : Int32, z = G_part S t 2 := ⟨_, rfl⟩
  have hq14 := (p_part S t 2  (h1.1) (at60 h1 w0) (by clear hG hZ; decide) r13 ghq14).2
  replace hG := gLt_e hG ghq14
  rcases (Classical.em ((q : Int32) = 17)).symm with c15 | c15
  · replace hG := gIf_n hG c15
    rcases (Classical.em ((q : Int32) = 18)).symm with c16 | c16
    · replace hG := gIf_n hG c16
      rcases Classical.em (((gA S 29 b) : Int32) ≤ 0) with c17 | c17
      · replace hG := gIf_p hG c17
        exact pj_atSemaphore_160 S t q b h1 h2 h3 h4 0 S rZ SZ (w0) hZ hG
      · replace hG := gIf_n hG c17
        exact pj_atSemaphore_160 S t q b h1 h2 h3 h4 (gA S 29 b) S rZ SZ (w0) hZ hG
    · replace hG := gIf_p hG c16
      obtain ⟨S18, eS18⟩ : ∃ z : mS, z = sA S 29 b (((gA S 29 b) + r13)) := ⟨_, rfl⟩
      replace hG := gLt_e hG eS18
      have w19 := st_first w0 h4 h2 eS18
      have loop72 : ∀ (N72 : Nat)  (SL72 : mS), (stp S SL72) → ((gA SL72 33 b).toInt.toNat) < N72 → (G_atSemaphore S t q b = G_atSemaphore_L72 b N72  SL72) → (fun (r9 : Int32) (S9 : mS) => pas S S9 t r9) rZ SZ := by
        intro N72
        induction N72 with
        | zero => intro  SL72 hi72 hm72; exact absurd hm72 (Nat.not_lt_zero _)
        | succ N72 ih72 =>
          intro  SL72 hi72 hm72 hG
          rw [G_atSemaphore_L72] at hG
          have w20 := hi72
          rcases Classical.em (((gA SL72 33 b) : Int32) ≤ 0) with c21 | c21
          · replace hG := gIf_p hG c21
            exact pj_atSemaphore_177 S t q b h1 h2 h3 h4  SL72 rZ SZ (w20) hZ hG
          · replace hG := gIf_n hG c21
            obtain ⟨r23, ghq24⟩ : ∃ z : Int32, z = G_part SL72 (gA SL72 32 (8 * b)) 2 := ⟨_, rfl⟩
            have hq24 := (p_part SL72 (gA SL72 32 (8 * b)) 2  ((row0 h2 w20.1 (i_gt c21)).1) ((row0 h2 w20.1 (i_gt c21)).2) (by clear hG hZ ih72 hm72; decide) r23 ghq24).2
            replace hG := gLt_e hG ghq24
            rcases Classical.em (((gA SL72 29 b) : Int32) < r23) with c25 | c25
            · replace hG := gIf_p hG c25
              exact pj_atSemaphore_177 S t q b h1 h2 h3 h4  SL72 rZ SZ (w20) hZ hG
            · replace hG := gIf_n hG c25
              obtain ⟨r27, ghq28⟩ : ∃ z : Int32, z = G_part SL72 (gA SL72 32 (8 * b)) 2 := ⟨_, rfl⟩
              have hq28 := (p_part SL72 (gA SL72 32 (8 * b)) 2  ((row0 h2 w20.1 (i_gt c21)).1) ((row0 h2 w20.1 (i_gt c21)).2) (by clear hG hZ ih72 hm72; decide) r27 ghq28).2
              replace hG := gLt_e hG ghq28
              obtain ⟨S29, eS29⟩ : ∃ z : mS, z = sA SL72 29 b (((gA SL72 29 b) - r27)) := ⟨_, rfl⟩
              replace hG := gLt_e hG eS29
              have w30 := st_first w20 h4 h2 eS29
              obtain ⟨r32, S31, ghq33⟩ : ∃ (z : Int32) (y : mS), (z, y) = G_firstGoesOn S29 b := ⟨_, _, rfl⟩
              have hq33 := p_firstGoesOn S29 b  (h2) (w30.1) (by clear hG hZ ih72 hm72; rw [eS29]; simp only [gA_sA, if_neg (show ¬ (33 = 29) by decide)]; exact i_gt c21) r32 S31 ghq33
              replace hG := gC_e hG ghq33
              have w34 := stp_tr w30 hq33.1
              exact ih72  S31 (w34) (msd hm72 hq33.2.2.2.1.1 (by clear hG hZ ih72 hm72; have q9 := hq33.2.2.2.1.2; rw [eS29] at q9; simp only [gA_sA, if_neg (show ¬ (33 = 29) by decide)] at q9; exact q9)) hG
      exact loop72 ((gA S18 33 b).toInt.toNat + 1)  S18 (w19) (Nat.lt_succ_self _) hG
  · replace hG := gIf_p hG c15
    rcases Classical.em (((gA S 29 b) : Int32) < r13) with c35 | c35
    · replace hG := gIf_p hG c35
      exact pj_atSemaphore_34 S t q b h1 h2 h3 h4  S rZ SZ (w0) hZ hG
    · replace hG := gIf_n hG c35
      rcases Classical.em (((gA S 33 b) : Int32) ≤ 0) with c36 | c36
      · replace hG := gIf_p hG c36
        obtain ⟨S37, eS37⟩ : ∃ z : mS, z = sA S 29 b (((gA S 29 b) - r13)) := ⟨_, rfl⟩
        replace hG := gLt_e hG eS37
        have w38 := st_first w0 h4 h2 eS37
        exact pj_atSemaphore_177 S t q b h1 h2 h3 h4  S37 rZ SZ (w38) hZ hG
      · replace hG := gIf_n hG c36
        exact pj_atSemaphore_34 S t q b h1 h2 h3 h4  S rZ SZ (w0) hZ hG
set_option maxHeartbeats 400000 in
set_option maxRecDepth 100000 in
theorem pj_atQueue_126 (S : mS) (t : Int32) (q : Int32) (b : Int32)  (h1 : fre S t) (h2 : 0 ≤ b ∧ b < 24) (h3 : mInv S) (h4 : gA S 28 b = 5)  (SJ126 : mS) (rZ : Int32) (SZ : mS) (hj126 : stp S SJ126) (hZ : (rZ, SZ) = G_atQueue S t q b) (hG : G_atQueue S t q b = G_atQueue_J126 t q  SJ126) : (fun (r9 : Int32) (S9 : mS) => pas S S9 t r9) rZ SZ := by
  rw [G_atQueue_J126] at hG
  have w1 := hj126
  rcases (Classical.em ((q : Int32) = 25)).symm with c2 | c2
  · replace hG := gIf_n hG c2
    exact gE2 (P := (fun (r9 : Int32) (S9 : mS) => pas S S9 t r9)) hZ hG (pas_1 h1 w1)
  · replace hG := gIf_p hG c2
    obtain ⟨S3, eS3⟩ : ∃ z : mS, z = sA SJ126 14 t (1) := ⟨_, rfl⟩
    replace hG := gLt_e hG eS3
    have w4 := st_irr w1 eS3 (by simp [smK])
    exact gE2 (P := (fun (r9 : Int32) (S9 : mS) => pas S S9 t r9)) hZ hG (pas_1 h1 w4)
set_option maxHeartbeats 400000 in
set_option maxRecDepth 100000 in
theorem pj_atQueue_45 (S : mS) (t : Int32) (q : Int32) (b : Int32)  (h1 : fre S t) (h2 : 0 ≤ b ∧ b < 24) (h3 : mInv S) (h4 : gA S 28 b = 5) (j45_s0 : Int32)  (rZ : Int32) (SZ : mS) (hj45 : j45_s0 ≠ 0 → 0 < gA S 33 b) (hZ : (rZ, SZ) = G_atQueue S t q b) (hG : G_atQueue S t q b = G_atQueue_J45 S t q b j45_s0) : (fun (r9 : Int32) (S9 : mS) => pas S S9 t r9) rZ SZ := by
  rw [G_atQueue_J45] at hG
  have w5 := stp_rf h3
  have hz9 := hj45
  rcases Classical.em ((j45_s0 : Int32) = 0) with c6 | c6
  · replace hG := gIf_p hG c6
    rcases Classical.em ((gA S 29 b) ≤ ((gA S 37 b) : Int32)) with c7 | c7
    · replace hG := gIf_p hG c7
      rcases (Classical.em ((q : Int32) = 25)).symm with c8 | c8
      · replace hG := gIf_n hG c8
        obtain ⟨r10, S9, ghq11⟩ : ∃ (z : Int32) (y : mS), (z, y) = G_passes S t b := ⟨_, _, rfl⟩
        have hq11 := p_passes S t b  (fre_stp h1 w5) (h2) (w5.1) r10 S9 ghq11
        replace hG := gC_e hG ghq11
        exact gE2 (P := (fun (r9 : Int32) (S9 : mS) => pas S S9 t r9)) hZ hG (pas_tr h1 (stp_rf h3) hq11)
      · replace hG := gIf_p hG c8
        obtain ⟨S12, eS12⟩ : ∃ z : mS, z = sA S 14 t (0) := ⟨_, rfl⟩
        replace hG := gLt_e hG eS12
        have w13 := st_irr w5 eS12 (by simp [smK])
        exact gE2 (P := (fun (r9 : Int32) (S9 : mS) => pas S S9 t r9)) hZ hG (pas_1 h1 w13)
    · replace hG := gIf_n hG c7
      obtain ⟨S14, ghq16⟩ : ∃ z : mS, z = G_append S b (gA S 14 t) := ⟨_, rfl⟩
      have hq16 := p_append S b (gA S 14 t)  (h2) (by clear hG hZ; have q9 := q_of w5 h2 h4; have c9 := i_lt c7; clear h1 h3 w5; grind) S14 ghq16
      replace hG := gLt_e hG ghq16
      have w17 := st_app w5 h2 ⟨(q_of w5 h2 h4).1, i_lt c7, (q_of w5 h2 h4).2.2⟩ hq16
      exact pj_atQueue_126 S t q b h1 h2 h3 h4  S14 rZ SZ (w17) hZ hG
  · replace hG := gIf_n hG c6
    obtain ⟨r19, S18, ghq20⟩ : ∃ (z : Int32) (y : mS), (z, y) = G_firstGoesOn S b := ⟨_, _, rfl⟩
    have hq20 := p_firstGoesOn S b  (h2) (w5.1) (hj45 c6) r19 S18 ghq20
    replace hG := gC_e hG ghq20
    have w21 := stp_tr w5 hq20.1
    obtain ⟨S22, eS22⟩ : ∃ z : mS, z = sA S18 14 r19 ((gA S18 14 t)) := ⟨_, rfl⟩
    replace hG := gLt_e hG eS22
    have w23 := st_irr w21 eS22 (by simp [smK])
    exact pj_atQueue_126 S t q b h1 h2 h3 h4  S22 rZ SZ (w23) hZ hG
set_option maxHeartbeats 400000 in
set_option maxRecDepth 100000 in
theorem pj_atQueue_44 (S : mS) (t : Int32) (q : Int32) (b : Int32)  (h1 : fre S t) (h2 : 0 ≤ b ∧ b < 24) (h3 : mInv S) (h4 : gA S 28 b = 5)   (rZ : Int32) (SZ : mS) (hj44 : True) (hZ : (rZ, SZ) = G_atQueue S t q b) (hG : G_atQueue S t q b = G_atQueue_J44 S t q b ) : (fun (r9 : Int32) (S9 : mS) => pas S S9 t r9) rZ SZ := by
  rw [G_atQueue_J44] at hG
  have w24 := stp_rf h3
  exact pj_atQueue_45 S t q b h1 h2 h3 h4 0  rZ SZ (by clear hG hZ; first | exact fun q9 => absurd rfl q9 | exact fun _ => i_gt nope9) hZ hG
set_option maxHeartbeats 400000 in
set_option maxRecDepth 100000 in
theorem pj_atQueue_12 (S : mS) (t : Int32) (q : Int32) (b : Int32)  (h1 : fre S t) (h2 : 0 ≤ b ∧ b < 24) (h3 : mInv S) (h4 : gA S 28 b = 5)   (rZ : Int32) (SZ : mS) (hj12 : True) (hZ : (rZ, SZ) = G_atQueue S t q b) (hG : G_atQueue S t q b = G_atQueue_J12 S t q b ) : (fun (r9 : Int32) (S9 : mS) => pas S S9 t r9) rZ SZ := by
  rw [G_atQueue_J12] at hG
  have w25 := stp_rf h3
  rcases Classical.em (((gA S 33 b) : Int32) ≤ 0) with c26 | c26
  · replace hG := gIf_p hG c26
    exact pj_atQueue_44 S t q b h1 h2 h3 h4   rZ SZ (trivial) hZ hG
  · replace hG := gIf_n hG c26
    obtain ⟨r28, ghq29⟩ : ∃ z : Int32, z = G_part S (gA S 32 (8 * b)) 0 := ⟨_, rfl⟩
    have hq29 := (p_part S (gA S 32 (8 * b)) 0  ((row0 h2 w25.1 (i_gt c26)).1) ((row0 h2 w25.1 (i_gt c26)).2) (by clear hG hZ; decide) r28 ghq29).2
    replace hG := gLt_e hG ghq29
    rcases Classical.em ((r28 : Int32) = 23) with c30 | c30
    · replace hG := gIf_p hG c30
      exact pj_atQueue_44 S t q b h1 h2 h3 h4   rZ SZ (trivial) hZ hG
    · replace hG := gIf_n hG c30
      exact pj_atQueue_45 S t q b h1 h2 h3 h4 1  rZ SZ (by clear hG hZ; first | exact fun q9 => absurd rfl q9 | exact fun _ => i_gt c26) hZ hG
set_option maxHeartbeats 400000 in
set_option maxRecDepth 100000 in
theorem p_atQueue (S : mS) (t : Int32) (q : Int32) (b : Int32)  (h1 : fre S t) (h2 : 0 ≤ b ∧ b < 24) (h3 : mInv S) (h4 : gA S 28 b = 5) (rZ : Int32) (SZ : mS) (hZ : (rZ, SZ) = G_atQueue S t q b) : (fun (r9 : Int32) (S9 : mS) => pas S S9 t r9) rZ SZ := by
  have hG := G_atQueue.eq_1 S t q b
  have w0 : stp S S := stp_rf h3
  rcases Classical.em ((q : Int32) = 23) with c31 | c31
  · replace hG := gIf_p hG c31
    exact pj_atQueue_12 S t q b h1 h2 h3 h4   rZ SZ (trivial) hZ hG
  · replace hG := gIf_n hG c31
    rcases (Classical.em ((q : Int32) = 25)).symm with c32 | c32
    · replace hG := gIf_n hG c32
      rcases (Classical.em (((gA S 37 b) : Int32) = 0)).symm with c33 | c33
      · replace hG := gIf_n hG c33
        obtain ⟨S34, eS34⟩ : ∃ z : mS, z = sA S 14 t ((gA S 36 (100 * b))) := ⟨_, rfl⟩
        replace hG := gLt_e hG eS34
        have w35 := st_irr w0 eS34 (by simp [smK])
        have ql0 := q_of w35 h2 h4
        have ql8 : gA S34 37 b ≠ 0 := by rw [eS34]; simp only [gA_sA, if_neg (show ¬ (37 = 14) by decide)]; exact c33
        have ql9 : 0 ≤ gA S34 37 b - 1 ∧ gA S34 37 b - 1 ≤ gA S34 29 b := by clear hG hZ h1 h3 w35 w0; grind
        have ql7 : gA S34 37 b - 1 < gA S34 29 b := by clear hG hZ h1 h3 w35 w0; grind
        obtain ⟨S36, eS36⟩ : ∃ z : mS, z = sA S34 37 b (((gA S34 37 b) - 1)) := ⟨_, rfl⟩
        replace hG := gLt_e hG eS36
        have w37 := st_qlen w35 h2 eS36 (fun _ => ql9)
        obtain ⟨x38, ex38⟩ : ∃ z : Int32, z = 0 := ⟨_, rfl⟩
        replace hG := gLt_e hG ex38
        have loop200 : ∀ (N200 : Nat) (v200_4 : Int32) (SL200 : mS), (stp S SL200 ∧ 0 ≤ v200_4 ∧ v200_4 ≤ gA SL200 37 b ∧ gA SL200 37 b < gA SL200 29 b ∧ gA SL200 29 b ≤ 100) → ((gA SL200 37 b - v200_4).toInt.toNat) < N200 → (G_atQueue S t q b = G_atQueue_L200 b N200 v200_4 SL200) → (fun (r9 : Int32) (S9 : mS) => pas S S9 t r9) rZ SZ := by
          intro N200
          induction N200 with
          | zero => intro v200_4 SL200 hi200 hm200; exact absurd hm200 (Nat.not_lt_zero _)
          | succ N200 ih200 =>
            intro v200_4 SL200 hi200 hm200 hG
            rw [G_atQueue_L200] at hG
            have z0 : 0 ≤ gA SL200 37 b := (q_of hi200.1 h2 h4).1
            have w39 := hi200.1
            rcases Classical.em ((gA SL200 37 b) ≤ (v200_4 : Int32)) with c40 | c40
            · replace hG := gIf_p hG c40
              rcases Classical.em (((gA SL200 33 b) : Int32) ≤ 0) with c41 | c41
              · replace hG := gIf_p hG c41
                exact gE2 (P := (fun (r9 : Int32) (S9 : mS) => pas S S9 t r9)) hZ hG (pas_1 h1 w39)
              · replace hG := gIf_n hG c41
                obtain ⟨r43, S42, ghq44⟩ : ∃ (z : Int32) (y : mS), (z, y) = G_firstGoesOn SL200 b := ⟨_, _, rfl⟩
                have hq44 := p_firstGoesOn SL200 b  (h2) (w39.1) (i_gt c41) r43 S42 ghq44
                replace hG := gC_e hG ghq44
                have w45 := stp_tr w39 hq44.1
                obtain ⟨S46, ghq48⟩ : ∃ z : mS, z = G_append S42 b (gA S42 14 r43) := ⟨_, rfl⟩
                have hq48 := p_append S42 b (gA S42 14 r43)  (h2) (by clear hG hZ ih200 hm200; rw [hq44.2.2.2.2 37 _ (by decide) (by decide) (by decide) (by decide) (by decide)]; have q9 := hi200.2.2.2; clear h1 h3 w45 hq44 hi200; grind) S46 ghq48
                replace hG := gLt_e hG ghq48
                have w49 := st_app w45 h2 ⟨by rw [hq44.2.2.2.2 37 _ (by decide) (by decide) (by decide) (by decide) (by decide)]; exact z0, by rw [hq44.2.2.2.2 37 _ (by decide) (by decide) (by decide) (by decide) (by decide), hq44.2.2.2.2 29 _ (by decide) (by decide) (by decide) (by decide) (by decide)]; exact hi200.2.2.2.1, by rw [hq44.2.2.2.2 29 _ (by decide) (by decide) (by decide) (by decide) (by decide)]; exact hi200.2.2.2.2⟩ hq48
                exact gE2 (P := (fun (r9 : Int32) (S9 : mS) => pas S S9 t r9)) hZ hG (pas_1 h1 w49)
            · replace hG := gIf_n hG c40
              obtain ⟨S50, eS50⟩ : ∃ z : mS, z = sA SL200 36 ((100 * b) + v200_4) ((gA SL200 36 (((100 * b) + v200_4) + 1))) := ⟨_, rfl⟩
              replace hG := gLt_e hG eS50
              have w51 := st_irr w39 eS50 (by simp [smK])
              obtain ⟨x52, ex52⟩ : ∃ z : Int32, z = v200_4 + (1) := ⟨_, rfl⟩
              replace hG := gLt_e hG ex52
              exact ih200 x52 S50 (by clear hG hZ ih200 hm200; rw [eS50]; simp only [gA_sA, if_neg (show ¬ (37 = 36) by decide), if_neg (show ¬ (29 = 36) by decide)]; rw [← eS50]; exact ⟨w51, (a_up ex52 hi200.2.1 (i_lt c40)).1, (a_up ex52 hi200.2.1 (i_lt c40)).2, hi200.2.2.2⟩) (show _ < _ from by rw [eS50]; simp only [gA_sA, if_neg (show ¬ (37 = 36) by decide)]; exact msd hm200 (a_dec ex52 hi200.2.1 (i_lt c40)).1 (a_dec ex52 hi200.2.1 (i_lt c40)).2) hG
        exact loop200 ((gA S36 37 b - x38).toInt.toNat + 1) x38 S36 (by clear hG hZ; refine ⟨w37, ?_, ?_, ?_, ?_⟩ <;> (try rw [ex38]) <;> first | decide | (rw [eS36]; simp only [gA_sA, if_pos, if_neg (show ¬ (29 = 37) by decide)]; first | exact ql9.1 | exact ql7 | exact ql0.2.2)) (Nat.lt_succ_self _) hG
      · replace hG := gIf_p hG c33
        rcases (Classical.em ((q : Int32) = 24)).symm with c53 | c53
        · replace hG := gIf_n hG c53
          obtain ⟨S54, eS54⟩ : ∃ z : mS, z = sA S 14 t ((-1)) := ⟨_, rfl⟩
          replace hG := gLt_e hG eS54
          have w55 := st_irr w0 eS54 (by simp [smK])
          exact gE2 (P := (fun (r9 : Int32) (S9 : mS) => pas S S9 t r9)) hZ hG (pas_1 h1 w55)
        · replace hG := gIf_p hG c53
          obtain ⟨r57, S56, ghq58⟩ : ∃ (z : Int32) (y : mS), (z, y) = G_passes S t b := ⟨_, _, rfl⟩
          have hq58 := p_passes S t b  (fre_stp h1 w0) (h2) (w0.1) r57 S56 ghq58
          replace hG := gC_e hG ghq58
          exact gE2 (P := (fun (r9 : Int32) (S9 : mS) => pas S S9 t r9)) hZ hG (pas_tr h1 w0 hq58)
    · replace hG := gIf_p hG c32
      exact pj_atQueue_12 S t q b h1 h2 h3 h4   rZ SZ (trivial) hZ hG
set_option maxHeartbeats 400000 in
set_option maxRecDepth 100000 in
theorem pj_atLock_304 (S : mS) (t : Int32) (q : Int32) (b : Int32)  (h1 : fre S t) (h2 : 0 ≤ b ∧ b < 24) (h3 : mInv S) (h4 : gA S 28 b = 1) (j304_s0 : Int32)  (rZ : Int32) (SZ : mS) (hj304 : 0 ≤ j304_s0 ∧ j304_s0 ≤ gA S 35 b ∧ j304_s0 ≤ 8) (hZ : (rZ, SZ) = G_atLock S t q b) (hG : G_atLock S t q b = G_atLock_J304 S b j304_s0) : (fun (r9 : Int32) (S9 : mS) => pas S S9 t r9) rZ SZ := by
  rw [G_atLock_J304] at hG
  have w1 := stp_rf h3
  obtain ⟨x2, ex2⟩ : ∃ z : Int32, z = 0 := ⟨_, rfl⟩
  replace hG := gLt_e hG ex2
  have loop309 : ∀ (N309 : Nat) (v309_5 : Int32) (SL309 : mS), (stp S SL309 ∧ 0 ≤ v309_5 ∧ v309_5 ≤ j304_s0 ∧ j304_s0 ≤ gA SL309 35 b + v309_5 ∧ j304_s0 ≤ 8) → ((j304_s0 - v309_5).toInt.toNat) < N309 → (G_atLock S t q b = G_atLock_L309 b j304_s0 N309 v309_5 SL309) → (fun (r9 : Int32) (S9 : mS) => pas S S9 t r9) rZ SZ := by
    intro N309
    induction N309 with
    | zero => intro v309_5 SL309 hi309 hm309; exact absurd hm309 (Nat.not_lt_zero _)
    | succ N309 ih309 =>
      intro v309_5 SL309 hi309 hm309 hG
      rw [G_atLock_L309] at hG
      have w3 := hi309.1
      rcases Classical.em (j304_s0 ≤ (v309_5 : Int32)) with c4 | c4
      · replace hG := gIf_p hG c4
        exact gE2 (P := (fun (r9 : Int32) (S9 : mS) => pas S S9 t r9)) hZ hG (pas_1 h1 w3)
      · replace hG := gIf_n hG c4
        obtain ⟨S5, ghq7⟩ : ∃ z : mS, z = G_signalled SL309 b (gA SL309 34 (8 * b)) := ⟨_, rfl⟩
        have hq7 := p_signalled SL309 b (gA SL309 34 (8 * b))  (h2) (w3.1) ((lk_m h2 w3.1 (a_sg hi309.2.1 (i_lt c4) hi309.2.2.2.1 (lk_35 hi309.1 h2) hi309.2.2.2.2)).1) ((lk_m h2 w3.1 (a_sg hi309.2.1 (i_lt c4) hi309.2.2.2.1 (lk_35 hi309.1 h2) hi309.2.2.2.2)).2.1) ((lk_m h2 w3.1 (a_sg hi309.2.1 (i_lt c4) hi309.2.2.2.1 (lk_35 hi309.1 h2) hi309.2.2.2.2)).2.2) S5 ghq7
        replace hG := gLt_e hG ghq7
        have w8 := stp_tr w3 hq7.1
        obtain ⟨x9, ex9⟩ : ∃ z : Int32, z = v309_5 + (1) := ⟨_, rfl⟩
        replace hG := gLt_e hG ex9
        exact ih309 x9 S5 (⟨w8, a_sg2 ex9 hi309.2.1 (i_lt c4) hi309.2.2.2.1 (lk_35 hi309.1 h2) hi309.2.2.2.2 hq7.2⟩) (msd hm309 (a_dec ex9 hi309.2.1 (i_lt c4)).1 (a_dec ex9 hi309.2.1 (i_lt c4)).2) hG
  exact loop309 ((j304_s0 - x2).toInt.toNat + 1) x2 S (⟨w1, a_n1 hj304 ex2 (lk_35 w1 h2)⟩) (Nat.lt_succ_self _) hG
set_option maxHeartbeats 400000 in
set_option maxRecDepth 100000 in
theorem pj_atLock_160 (S : mS) (t : Int32) (q : Int32) (b : Int32)  (h1 : fre S t) (h2 : 0 ≤ b ∧ b < 24) (h3 : mInv S) (h4 : gA S 28 b = 1)  (SJ160 : mS) (rZ : Int32) (SZ : mS) (hj160 : stp S SJ160) (hZ : (rZ, SZ) = G_atLock S t q b) (hG : G_atLock S t q b = G_atLock_J160   SJ160) : (fun (r9 : Int32) (S9 : mS) => pas S S9 t r9) rZ SZ := by
  rw [G_atLock_J160] at hG
  have w10 := hj160
  exact gE2 (P := (fun (r9 : Int32) (S9 : mS) => pas S S9 t r9)) hZ hG (pas_1 h1 w10)
set_option maxHeartbeats 400000 in
set_option maxRecDepth 100000 in
theorem pj_atLock_96 (S : mS) (t : Int32) (q : Int32) (b : Int32)  (h1 : fre S t) (h2 : 0 ≤ b ∧ b < 24) (h3 : mInv S) (h4 : gA S 28 b = 1) (j96_4 : Int32) (SJ96 : mS) (rZ : Int32) (SZ : mS) (hj96 : (stp S SJ96 ∧ (j96_4 ≠ 0 ∨ q = 8)) ∨ (pas S SJ96 t 0 ∧ j96_4 = 0 ∧ q ≠ 8)) (hZ : (rZ, SZ) = G_atLock S t q b) (hG : G_atLock S t q b = G_atLock_J96 q j96_4 SJ96) : (fun (r9 : Int32) (S9 : mS) => pas S S9 t r9) rZ SZ := by
  rw [G_atLock_J96] at hG
  rcases (Classical.em ((j96_4 : Int32) = 0)).symm with c11 | c11
  · replace hG := gIf_n hG c11
    exact gE2 (P := (fun (r9 : Int32) (S9 : mS) => pas S S9 t r9)) hZ hG (by clear hG hZ; first | (rcases hj96 with q9 | q9; exact pas_1 h1 q9.1; exact absurd q9.2.1 c11) | (rcases hj96 with q9 | q9; exact pas_1 h1 q9.1; exact absurd nope9 q9.2.2) | (rcases hj96 with q9 | q9; exact absurd q9.2 (by rintro (z | z); exact z c11; exact nope9 z); exact q9.1))
  · replace hG := gIf_p hG c11
    rcases (Classical.em ((q : Int32) = 8)).symm with c12 | c12
    · replace hG := gIf_n hG c12
      exact gE2 (P := (fun (r9 : Int32) (S9 : mS) => pas S S9 t r9)) hZ hG (by clear hG hZ; first | (rcases hj96 with q9 | q9; exact pas_1 h1 q9.1; exact absurd q9.2.1 c11) | (rcases hj96 with q9 | q9; exact pas_1 h1 q9.1; exact absurd c12 q9.2.2) | (rcases hj96 with q9 | q9; exact absurd q9.2 (by rintro (z | z); exact z c11; exact c12 z); exact q9.1))
    · replace hG := gIf_p hG c12
      exact gE2 (P := (fun (r9 : Int32) (S9 : mS) => pas S S9 t r9)) hZ hG (by clear hG hZ; first | (rcases hj96 with q9 | q9; exact pas_1 h1 q9.1; exact absurd q9.2.1 c11) | (rcases hj96 with q9 | q9; exact pas_1 h1 q9.1; exact absurd c12 q9.2.2) | (rcases hj96 with q9 | q9; exact absurd q9.2 (by rintro (z | z); exact z c11; exact c12 z); exact q9.1))
set_option maxHeartbeats 400000 in
set_option maxRecDepth 100000 in
theorem pj_atLock_81 (S : mS) (t : Int32) (q : Int32) (b : Int32)  (h1 : fre S t) (h2 : 0 ≤ b ∧ b < 24) (h3 : mInv S) (h4 : gA S 28 b = 1) (j81_4 : Int32) (j81_s2 : Int32) (SJ81 : mS) (rZ : Int32) (SZ : mS) (hj81 : stp S SJ81 ∧ q = 8) (hZ : (rZ, SZ) = G_atLock S t q b) (hG : G_atLock S t q b = G_atLock_J81 t q j81_4 j81_s2 SJ81) : (fun (r9 : Int32) (S9 : mS) => pas S S9 t r9) rZ SZ := by
  rw [G_atLock_J81] at hG
  have w13 := hj81.1
  obtain ⟨S14, eS14⟩ : ∃ z : mS, z = sA SJ81 14 t (j81_s2) := ⟨_, rfl⟩
  replace hG := gLt_e hG eS14
  have w15 := st_irr w13 eS14 (by simp [smK])
  exact pj_atLock_96 S t q b h1 h2 h3 h4 j81_4 S14 rZ SZ (by clear hG hZ; first | exact Or.inl ⟨w15, Or.inr hj81.2⟩ | exact Or.inl ⟨w15, Or.inl nope9⟩ | exact Or.inr ⟨pas_tr h1 hj60 (pas_w (fre_stp h1 hj60) h2 hj60.1 nope9), nope9, nope9⟩) hZ hG
set_option maxHeartbeats 400000 in
set_option maxRecDepth 100000 in
theorem pj_atLock_60 (S : mS) (t : Int32) (q : Int32) (b : Int32)  (h1 : fre S t) (h2 : 0 ≤ b ∧ b < 24) (h3 : mInv S) (h4 : gA S 28 b = 1) (j60_4 : Int32) (SJ60 : mS) (rZ : Int32) (SZ : mS) (hj60 : stp S SJ60) (hZ : (rZ, SZ) = G_atLock S t q b) (hG : G_atLock S t q b = G_atLock_J60 t q b j60_4 SJ60) : (fun (r9 : Int32) (S9 : mS) => pas S S9 t r9) rZ SZ := by
  rw [G_atLock_J60] at hG
  have w16 := hj60
  rcases (Classical.em ((q : Int32) = 8)).symm with c17 | c17
  · replace hG := gIf_n hG c17
    rcases (Classical.em ((j60_4 : Int32) = 0)).symm with c18 | c18
    · replace hG := gIf_n hG c18
      exact pj_atLock_96 S t q b h1 h2 h3 h4 j60_4 SJ60 rZ SZ (by clear hG hZ; first | exact Or.inl ⟨w16, Or.inr hj81.2⟩ | exact Or.inl ⟨w16, Or.inl c18⟩ | exact Or.inr ⟨pas_tr h1 hj60 (pas_w (fre_stp h1 hj60) h2 hj60.1 nope9), c18, c17⟩) hZ hG
    · replace hG := gIf_p hG c18
      obtain ⟨S19, ghq21⟩ : ∃ z : mS, z = G_waitFor SJ60 t b := ⟨_, rfl⟩
      have hq21 := p_waitFor SJ60 t b  (h1.1) (h2) (roomW h2 h1.1 hj60.1 (fre_stp h1 hj60).2.2.2) S19 ghq21
      replace hG := gLt_e hG ghq21
      have w22 := hj60
      exact pj_atLock_96 S t q b h1 h2 h3 h4 j60_4 S19 rZ SZ (by clear hG hZ; first | exact Or.inl ⟨w22, Or.inr hj81.2⟩ | exact Or.inl ⟨w22, Or.inl c18⟩ | exact Or.inr ⟨pas_tr h1 hj60 (pas_w (fre_stp h1 hj60) h2 hj60.1 hq21), c18, c17⟩) hZ hG
  · replace hG := gIf_p hG c17
    rcases Classical.em ((j60_4 : Int32) = 0) with c23 | c23
    · replace hG := gIf_p hG c23
      exact pj_atLock_81 S t q b h1 h2 h3 h4 j60_4 0 SJ60 rZ SZ (⟨w16, c17⟩) hZ hG
    · replace hG := gIf_n hG c23
      exact pj_atLock_81 S t q b h1 h2 h3 h4 j60_4 1 SJ60 rZ SZ (⟨w16, c17⟩) hZ hG
set_option maxHeartbeats 400000 in
set_option maxRecDepth 100000 in
theorem pj_atLock_36 (S : mS) (t : Int32) (q : Int32) (b : Int32)  (h1 : fre S t) (h2 : 0 ≤ b ∧ b < 24) (h3 : mInv S) (h4 : gA S 28 b = 1) (j36_s0 : Int32)  (rZ : Int32) (SZ : mS) (hj36 : True) (hZ : (rZ, SZ) = G_atLock S t q b) (hG : G_atLock S t q b = G_atLock_J36 S t q b j36_s0) : (fun (r9 : Int32) (S9 : mS) => pas S S9 t r9) rZ SZ := by
  rw [G_atLock_J36] at hG
  have w24 := stp_rf h3
  rcases Classical.em ((j36_s0 : Int32) = 0) with c25 | c25
  · replace hG := gIf_p hG c25
    exact pj_atLock_60 S t q b h1 h2 h3 h4 j36_s0 S rZ SZ (w24) hZ hG
  · replace hG := gIf_n hG c25
    obtain ⟨S26, eS26⟩ : ∃ z : mS, z = sA S 31 b (t) := ⟨_, rfl⟩
    replace hG := gLt_e hG eS26
    have w27 := st_owner w24 h2 eS26 (own8 h1.1)
    obtain ⟨S28, eS28⟩ : ∃ z : mS, z = sA S26 29 b (((gA S26 29 b) + 1)) := ⟨_, rfl⟩
    replace hG := gLt_e hG eS28
    have w29 := st_first w27 (ne5 h4) h2 eS28
    exact pj_atLock_60 S t q b h1 h2 h3 h4 j36_s0 S28 rZ SZ (w29) hZ hG
set_option maxHeartbeats 400000 in
set_option maxRecDepth 100000 in
theorem pj_atLock_31 (S : mS) (t : Int32) (q : Int32) (b : Int32)  (h1 : fre S t) (h2 : 0 ≤ b ∧ b < 24) (h3 : mInv S) (h4 : gA S 28 b = 1)   (rZ : Int32) (SZ : mS) (hj31 : True) (hZ : (rZ, SZ) = G_atLock S t q b) (hG : G_atLock S t q b = G_atLock_J31 S t q b ) : (fun (r9 : Int32) (S9 : mS) => pas S S9 t r9) rZ SZ := by
  rw [G_atLock_J31] at hG
  have w30 := stp_rf h3
  exact pj_atLock_36 S t q b h1 h2 h3 h4 1  rZ SZ (trivial) hZ hG
set_option maxHeartbeats 400000 in
set_option maxRecDepth 100000 in
theorem pj_atLock_12 (S : mS) (t : Int32) (q : Int32) (b : Int32)  (h1 : fre S t) (h2 : 0 ≤ b ∧ b < 24) (h3 : mInv S) (h4 : gA S 28 b = 1)   (rZ : Int32) (SZ : mS) (hj12 : True) (hZ : (rZ, SZ) = G_atLock S t q b) (hG : G_atLock S t q b = G_atLock_J12 S t q b ) : (fun (r9 : Int32) (S9 : mS) => pas S S9 t r9) rZ SZ := by
  rw [G_atLock_J12] at hG
  have w31 := stp_rf h3
  rcases Classical.em (((gA S 31 b) : Int32) < 0) with c32 | c32
  · replace hG := gIf_p hG c32
    exact pj_atLock_31 S t q b h1 h2 h3 h4   rZ SZ (trivial) hZ hG
  · replace hG := gIf_n hG c32
    rcases (Classical.em (((gA S 31 b) : Int32) = t)).symm with c33 | c33
    · replace hG := gIf_n hG c33
      exact pj_atLock_36 S t q b h1 h2 h3 h4 0  rZ SZ (trivial) hZ hG
    · replace hG := gIf_p hG c33
      exact pj_atLock_31 S t q b h1 h2 h3 h4   rZ SZ (trivial) hZ hG
set_option maxHeartbeats 400000 in
set_option maxRecDepth 100000 in
theorem p_atLock (S : mS) (t : Int32) (q : Int32) (b : Int32)  (h1 : fre S t) (h2 : 0 ≤ b ∧ b < 24) (h3 : mInv S) (h4 : gA S 28 b = 1) (rZ : Int32) (SZ : mS) (hZ : (rZ, SZ) = G_atLock S t q b) : (fun (r9 : Int32) (S9 : mS) => pas S S9 t r9) rZ SZ := by
  have hG := G_atLock.eq_1 S t q b
  have w0 : stp S S := stp_rf h3
  rcases Classical.em ((q : Int32) = 7) with c34 | c34
  · replace hG := gIf_p hG c34
    exact pj_atLock_12 S t q b h1 h2 h3 h4   rZ SZ (trivial) hZ hG
  · replace hG := gIf_n hG c34
    rcases (Classical.em ((q : Int32) = 8)).symm with c35 | c35
    · replace hG := gIf_n hG c35
      rcases Classical.em (((gA S 31 b) : Int32) = t) with c36 | c36
      · replace hG := gIf_p hG c36
        rcases (Classical.em ((q : Int32) = 9)).symm with c37 | c37
        · replace hG := gIf_n hG c37
          rcases (Classical.em ((q : Int32) = 10)).symm with c38 | c38
          · replace hG := gIf_n hG c38
            rcases (Classical.em ((q : Int32) = 12)).symm with c39 | c39
            · replace hG := gIf_n hG c39
              rcases Classical.em (((gA S 35 b) : Int32) ≤ 0) with c40 | c40
              · replace hG := gIf_p hG c40
                exact pj_atLock_304 S t q b h1 h2 h3 h4 0  rZ SZ (a_n0 (lk_35 w0 h2) (by clear hG hZ; first | exact Or.inl rfl | exact Or.inr (Or.inl ⟨rfl, c40⟩) | exact Or.inr (Or.inr rfl))) hZ hG
              · replace hG := gIf_n hG c40
                exact pj_atLock_304 S t q b h1 h2 h3 h4 1  rZ SZ (a_n0 (lk_35 w0 h2) (by clear hG hZ; first | exact Or.inl rfl | exact Or.inr (Or.inl ⟨rfl, c40⟩) | exact Or.inr (Or.inr rfl))) hZ hG
            · replace hG := gIf_p hG c39
              exact pj_atLock_304 S t q b h1 h2 h3 h4 (gA S 35 b)  rZ SZ (a_n0 (lk_35 w0 h2) (by clear hG hZ; first | exact Or.inl rfl | exact Or.inr (Or.inl ⟨rfl, nope9⟩) | exact Or.inr (Or.inr rfl))) hZ hG
          · replace hG := gIf_p hG c38
            rcases Classical.em (((gA S 20 t) : Int32) = 0) with c41 | c41
            · replace hG := gIf_p hG c41
              obtain ⟨S42, eS42⟩ : ∃ z : mS, z = sA S 18 t ((gA S 29 b)) := ⟨_, rfl⟩
              replace hG := gLt_e hG eS42
              have w43 := st_irr w0 eS42 (by simp [smK])
              obtain ⟨S44, eS44⟩ : ∃ z : mS, z = sA S42 19 t (1) := ⟨_, rfl⟩
              replace hG := gLt_e hG eS44
              have w45 := st_irr w43 eS44 (by simp [smK])
              obtain ⟨S46, eS46⟩ : ∃ z : mS, z = sA S44 22 t (vp_nar .boolean 1) := ⟨_, rfl⟩
              replace hG := gLt_e hG eS46
              have w47 := w0
              obtain ⟨S48, eS48⟩ : ∃ z : mS, z = sA S46 13 t (2) := ⟨_, rfl⟩
              replace hG := gLt_e hG eS48
              have w49 := w0
              obtain ⟨S50, eS50⟩ : ∃ z : mS, z = sA S48 16 t (b) := ⟨_, rfl⟩
              replace hG := gLt_e hG eS50
              have w51 := w0
              obtain ⟨S52, eS52⟩ : ∃ z : mS, z = sA S50 21 t (vp_nar .boolean 1) := ⟨_, rfl⟩
              replace hG := gLt_e hG eS52
              have w53 := w0
              have g35 : gA S52 35 b = gA S 35 b := by rw [eS52, eS50, eS48, eS46, eS44, eS42]; simp [gA_sA]
              have r35 := roomW2 h2 h1.1 h3 h1.2.2.1
              obtain ⟨S54, eS54⟩ : ∃ z : mS, z = sA S52 34 ((8 * b) + (gA S52 35 b)) (t) := ⟨_, rfl⟩
              replace hG := gLt_e hG eS54
              have w55 := w0
              obtain ⟨S56, eS56⟩ : ∃ z : mS, z = sA S54 35 b (((gA S54 35 b) + 1)) := ⟨_, rfl⟩
              replace hG := gLt_e hG eS56
              have w57 := w0
              have lk := lk_w h1 h2 h3 h4 eS42 eS44 eS46 eS48 eS50 eS52 eS54 eS56
              obtain ⟨S58, ghq60⟩ : ∃ z : mS, z = G_freed S56 b := ⟨_, rfl⟩
              have hq60 := p_freed S56 b  (h2) (lk.1) (lk.2.1) S58 ghq60
              replace hG := gLt_e hG ghq60
              have w61 := w0
              exact gE2 (P := (fun (r9 : Int32) (S9 : mS) => pas S S9 t r9)) hZ hG (lk_p lk.2.2 hq60.1)
            · replace hG := gIf_n hG c41
              obtain ⟨S62, eS62⟩ : ∃ z : mS, z = sA S 20 t (vp_nar .boolean 0) := ⟨_, rfl⟩
              replace hG := gLt_e hG eS62
              have w63 := st_irr w0 eS62 (by simp [smK])
              obtain ⟨S64, eS64⟩ : ∃ z : mS, z = sA S62 14 t ((-2)) := ⟨_, rfl⟩
              replace hG := gLt_e hG eS64
              have w65 := st_irr w63 eS64 (by simp [smK])
              exact gE2 (P := (fun (r9 : Int32) (S9 : mS) => pas S S9 t r9)) hZ hG (pas_1 h1 w65)
        · replace hG := gIf_p hG c37
          obtain ⟨S66, eS66⟩ : ∃ z : mS, z = sA S 29 b (((gA S 29 b) - 1)) := ⟨_, rfl⟩
          replace hG := gLt_e hG eS66
          have w67 := st_first w0 (ne5 h4) h2 eS66
          rcases (Classical.em (((gA S66 29 b) : Int32) = 0)).symm with c68 | c68
          · replace hG := gIf_n hG c68
            exact pj_atLock_160 S t q b h1 h2 h3 h4  S66 rZ SZ (w67) hZ hG
          · replace hG := gIf_p hG c68
            obtain ⟨S69, ghq71⟩ : ∃ z : mS, z = G_freed S66 b := ⟨_, rfl⟩
            have hq71 := p_freed S66 b  (h2) (w67.1) ((w67.2.2.1 28 b (by clear hG hZ; simp)).trans h4) S69 ghq71
            replace hG := gLt_e hG ghq71
            have w72 := stp_tr w67 hq71.1
            exact pj_atLock_160 S t q b h1 h2 h3 h4  S69 rZ SZ (w72) hZ hG
      · replace hG := gIf_n hG c36
        obtain ⟨r74, S73, ghq75⟩ : ∃ (z : Int32) (y : mS), (z, y) = G_fails S t 1 := ⟨_, _, rfl⟩
        have hq75 := p_fails S t 1  (h1.1) r74 S73 ghq75
        replace hG := gC_e hG ghq75
        exact gE2 (P := (fun (r9 : Int32) (S9 : mS) => pas S S9 t r9)) hZ hG (by clear hG hZ; obtain ⟨q1, q2⟩ := hq75; rw [q1]; exact pas_f h1 w0 q2)
    · replace hG := gIf_p hG c35
      exact pj_atLock_12 S t q b h1 h2 h3 h4   rZ SZ (trivial) hZ hG
